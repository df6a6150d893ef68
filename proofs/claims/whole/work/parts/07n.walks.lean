set_option maxRecDepth 100000 in
def fX11_champion_t_b76 (n d : Nat) (k19 : Int32 → Int32 → Int32 → am_I → am_L → Option (Int32 × am_I × am_L)) (a1 : Int32) (a2 : Int32) (a3 : Int32) (I : am_I) (L : am_L) : Option (Int32 × am_I × am_L) :=
  am_lt (a3 + (1 : Int32)) (fun v1 => k19 a1 a2 v1 I L)

set_option maxRecDepth 100000 in
set_option maxHeartbeats 4000000 in
theorem tX11_champion_t_b76 {x : am_X} (n d : Nat) (hc : am_ok x cX11_champion yX11_champion 4 (some .int) (d + 8) 0 0) {r : Int32} {I' : am_I} {L' : am_L} (k19 : Int32 → Int32 → Int32 → am_I → am_L → Option (Int32 × am_I × am_L)) (hk19 : ∀ (a1 : Int32) (a2 : Int32) (a3 : Int32) (I : am_I) (L : am_L), k19 a1 a2 a3 I L = some (r, I', L') → am_J x (fun S => S = (some (.int r), (KC true), (RC true), I', L')) 19 [some (.ref 0), some (.int a1), some (.int a2), some (.int a3)] [] (KC true) (RC true) I L 0 0) (a1 : Int32) (a2 : Int32) (a3 : Int32) (I : am_I) (L : am_L) (hf : fX11_champion_t_b76 n d k19 a1 a2 a3 I L = some (r, I', L')) : am_J x (fun S => S = (some (.int r), (KC true), (RC true), I', L')) 76 [some (.ref 0), some (.int a1), some (.int a2), some (.int a3)] [] (KC true) (RC true) I L 0 0 := by
  unfold fX11_champion_t_b76 at hf
  refine j_iinc (w := (1 : Int32)) hc dX11_champion_76 rfl ci_1 (Nat.le_of_ble_eq_true rfl) hf (fun v1 hf => ?_)
  refine j_goto (tgt := 19) hc dX11_champion_79 rfl ?_
  exact j_sub (hk19 _ _ _ _ _ hf) (And.intro rfl (And.intro rfl (And.intro rfl (And.intro rfl (trivial)))))

set_option maxRecDepth 100000 in
def fX11_champion_t_b74 (n d : Nat) (k19 : Int32 → Int32 → Int32 → am_I → am_L → Option (Int32 × am_I × am_L)) (a1 : Int32) (a3 : Int32) (I : am_I) (L : am_L) : Option (Int32 × am_I × am_L) :=
  am_lt a3 (fun v1 => fX11_champion_t_b76 n d k19 a1 v1 a3 I L)

set_option maxRecDepth 100000 in
set_option maxHeartbeats 4000000 in
theorem tX11_champion_t_b74 {x : am_X} (n d : Nat) (hc : am_ok x cX11_champion yX11_champion 4 (some .int) (d + 8) 0 0) {r : Int32} {I' : am_I} {L' : am_L} (k19 : Int32 → Int32 → Int32 → am_I → am_L → Option (Int32 × am_I × am_L)) (hk19 : ∀ (a1 : Int32) (a2 : Int32) (a3 : Int32) (I : am_I) (L : am_L), k19 a1 a2 a3 I L = some (r, I', L') → am_J x (fun S => S = (some (.int r), (KC true), (RC true), I', L')) 19 [some (.ref 0), some (.int a1), some (.int a2), some (.int a3)] [] (KC true) (RC true) I L 0 0) (a1 : Int32) (a3 : Int32) (I : am_I) (L : am_L) (hf : fX11_champion_t_b74 n d k19 a1 a3 I L = some (r, I', L')) : am_J x (fun S => S = (some (.int r), (KC true), (RC true), I', L')) 74 [some (.ref 0), some (.int a1), none, some (.int a3)] [] (KC true) (RC true) I L 0 0 := by
  unfold fX11_champion_t_b74 at hf
  refine j_iload_n hc dX11_champion_74 rfl ?_
  refine j_istore_n hc dX11_champion_75 (Nat.le_of_ble_eq_true rfl) hf (fun v1 hf => ?_)
  exact j_sub (tX11_champion_t_b76 n d hc k19 hk19 _ _ _ _ _ hf) (And.intro rfl (And.intro rfl (And.intro rfl (And.intro rfl (trivial)))))

set_option maxRecDepth 100000 in
def fX11_champion_t_b19w (n d : Nat) (k19 : Int32 → Int32 → Int32 → am_I → am_L → Option (Int32 × am_I × am_L)) (a1 : Int32) (a2 : Int32) (a3 : Int32) (I : am_I) (L : am_L) : Option (Int32 × am_I × am_L) :=
  if (I 3 0) ≤ a3 then
    (some (a2, I, L))
    else
    (am_ck a3 8 (am_lt (I 4 (a3).toNatClampNeg) (fun v1 => if v1 = a1 then
      (am_b3 (fX7_canGo n d a3 I L) (fun v2 I2 L2 => if v2 = 0 then
        (fX11_champion_t_b76 n d k19 a1 a2 a3 I2 L2)
        else
        (if a2 = (-1 : Int32) then
          (fX11_champion_t_b74 n d k19 a1 a3 I2 L2)
          else
          (am_ck a3 8 (am_lt (I2 66 (a3).toNatClampNeg) (fun v3 => am_ck a2 8 (am_lt (I2 66 (a2).toNatClampNeg) (fun v4 => if v3 ≤ v4 then
            (fX11_champion_t_b76 n d k19 a1 a2 a3 I2 L2)
            else
            (fX11_champion_t_b74 n d k19 a1 a3 I2 L2)))))))))
      else
      (fX11_champion_t_b76 n d k19 a1 a2 a3 I L))))

set_option maxRecDepth 100000 in
set_option maxHeartbeats 4000000 in
theorem tX11_champion_t_b19w {x : am_X} (n d : Nat) (hc : am_ok x cX11_champion yX11_champion 4 (some .int) (d + 8) 0 0) {r : Int32} {I' : am_I} {L' : am_L} (k19 : Int32 → Int32 → Int32 → am_I → am_L → Option (Int32 × am_I × am_L)) (hk19 : ∀ (a1 : Int32) (a2 : Int32) (a3 : Int32) (I : am_I) (L : am_L), k19 a1 a2 a3 I L = some (r, I', L') → am_J x (fun S => S = (some (.int r), (KC true), (RC true), I', L')) 19 [some (.ref 0), some (.int a1), some (.int a2), some (.int a3)] [] (KC true) (RC true) I L 0 0) (a1 : Int32) (a2 : Int32) (a3 : Int32) (I : am_I) (L : am_L) (hf : fX11_champion_t_b19w n d k19 a1 a2 a3 I L = some (r, I', L')) : am_J x (fun S => S = (some (.int r), (KC true), (RC true), I', L')) 19 [some (.ref 0), some (.int a1), some (.int a2), some (.int a3)] [] (KC true) (RC true) I L 0 0 := by
  unfold fX11_champion_t_b19w at hf
  refine j_iload_n hc dX11_champion_19 rfl ?_
  refine j_aload_n hc dX11_champion_20 rfl ?_
  refine j_getR (u := 3) hc dX11_champion_21 (fgC_X11_19_0 _) (rC_0_1 _) ?_
  refine j_getI hc dX11_champion_24 (fgC_X11_151_3 _) ?_
  refine j_icmp_ge (tgt := 82) hc dX11_champion_27 rfl hf (fun hf => ?_) (fun hf => ?_)
  · refine j_iload_n hc dX11_champion_82 rfl ?_
    exact j_ireturn hc dX11_champion_83 rfl rfl hf
  · refine j_aload_n hc dX11_champion_30 rfl ?_
    refine j_getR (u := 3) hc dX11_champion_31 (fgC_X11_19_0 _) (rC_0_1 _) ?_
    refine j_getR (u := 4) hc dX11_champion_34 (fgC_X11_165_3 _) (rC_3_5 _) ?_
    refine j_iload_n hc dX11_champion_37 rfl ?_
    refine j_iaload (n := 8) hc dX11_champion_38 (kC_4 _) hf (fun v1 hf => ?_)
    refine j_iload_n hc dX11_champion_39 rfl ?_
    refine j_icmp_ne (tgt := 76) hc dX11_champion_40 rfl hf (fun hf => ?_) (fun hf => ?_)
    · exact j_sub (tX11_champion_t_b76 n d hc k19 hk19 _ _ _ _ _ hf) (And.intro rfl (And.intro rfl (And.intro rfl (And.intro rfl (trivial)))))
    · refine j_aload_n hc dX11_champion_43 rfl ?_
      refine j_getR (u := 39) hc dX11_champion_44 (fgC_X11_56_0 _) (rC_0_6 _) ?_
      refine j_iload_n hc dX11_champion_47 rfl ?_
      refine j_callVI (t := 39) (As := [.int a3]) hc dX11_champion_48 kw_916 mX7_canGo (kC_39 _) clX7 rfl (by omega) (Nat.le_of_ble_eq_true rfl) (Nat.le_of_ble_eq_true rfl) ⟨Nat.le_refl _, Nat.le_refl _⟩ hf (fun v I' L' h => qX7_canGo x.2.1 n d a3 I L v I' L' h) (fun v2 I2 L2 hf => ?_)
      refine j_if_eq (tgt := 76) hc dX11_champion_51 rfl hf (fun hf => ?_) (fun hf => ?_)
      · exact j_sub (tX11_champion_t_b76 n d hc k19 hk19 _ _ _ _ _ hf) (And.intro rfl (And.intro rfl (And.intro rfl (And.intro rfl (trivial)))))
      · refine j_iload_n hc dX11_champion_54 rfl ?_
        refine j_iconst (v := (-1 : Int32)) hc dX11_champion_55 ci_m1 ?_
        refine j_icmp_eq (tgt := 74) hc dX11_champion_56 rfl hf (fun hf => ?_) (fun hf => ?_)
        · exact j_sub (tX11_champion_t_b74 n d hc k19 hk19 _ _ _ _ hf) (And.intro rfl (And.intro rfl (And.intro rfl (trivial))))
        · refine j_aload_n hc dX11_champion_59 rfl ?_
          refine j_getR (u := 66) hc dX11_champion_60 (fgC_X11_101_0 _) (rC_0_13 _) ?_
          refine j_iload_n hc dX11_champion_63 rfl ?_
          refine j_iaload (n := 8) hc dX11_champion_64 (kC_66 _) hf (fun v3 hf => ?_)
          refine j_aload_n hc dX11_champion_65 rfl ?_
          refine j_getR (u := 66) hc dX11_champion_66 (fgC_X11_101_0 _) (rC_0_13 _) ?_
          refine j_iload_n hc dX11_champion_69 rfl ?_
          refine j_iaload (n := 8) hc dX11_champion_70 (kC_66 _) hf (fun v4 hf => ?_)
          refine j_icmp_le (tgt := 76) hc dX11_champion_71 rfl hf (fun hf => ?_) (fun hf => ?_)
          · exact j_sub (tX11_champion_t_b76 n d hc k19 hk19 _ _ _ _ _ hf) (And.intro rfl (And.intro rfl (And.intro rfl (And.intro rfl (trivial)))))
          · exact j_sub (tX11_champion_t_b74 n d hc k19 hk19 _ _ _ _ hf) (And.intro rfl (And.intro rfl (And.intro rfl (trivial))))

def fX11_champion_t_b19 (n d : Nat) : Nat → Int32 → Int32 → Int32 → am_I → am_L → Option (Int32 × am_I × am_L)
  | 0 => fun _ _ _ _ _ => none
  | m + 1 => fX11_champion_t_b19w n d  (fX11_champion_t_b19 n d m)

set_option maxRecDepth 100000 in
theorem tX11_champion_t_b19 {x : am_X} (n d : Nat) (hc : am_ok x cX11_champion yX11_champion 4 (some .int) (d + 8) 0 0) {r : Int32} {I' : am_I} {L' : am_L} (m : Nat) : ∀ (a1 : Int32) (a2 : Int32) (a3 : Int32) (I : am_I) (L : am_L) (hf : fX11_champion_t_b19 n d m a1 a2 a3 I L = some (r, I', L')), am_J x (fun S => S = (some (.int r), (KC true), (RC true), I', L')) 19 [some (.ref 0), some (.int a1), some (.int a2), some (.int a3)] [] (KC true) (RC true) I L 0 0 := by
  induction m with
  | zero => intro a1 a2 a3 I L hf; exact (Option.some_ne_none _ hf.symm).elim
  | succ m ih => intro a1 a2 a3 I L hf; exact tX11_champion_t_b19w n d hc (fX11_champion_t_b19 n d m) ih a1 a2 a3 I L hf

set_option maxRecDepth 100000 in
def fX11_champion_t_b15 (n d : Nat) (a1 : Int32) (I : am_I) (L : am_L) : Option (Int32 × am_I × am_L) :=
  am_lt (-1 : Int32) (fun v1 => am_lt (0 : Int32) (fun v2 => fX11_champion_t_b19 n d n a1 v1 v2 I L))

set_option maxRecDepth 100000 in
set_option maxHeartbeats 4000000 in
theorem tX11_champion_t_b15 {x : am_X} (n d : Nat) (hc : am_ok x cX11_champion yX11_champion 4 (some .int) (d + 8) 0 0) {r : Int32} {I' : am_I} {L' : am_L} (a1 : Int32) (I : am_I) (L : am_L) (hf : fX11_champion_t_b15 n d a1 I L = some (r, I', L')) : am_J x (fun S => S = (some (.int r), (KC true), (RC true), I', L')) 15 [some (.ref 0), some (.int a1), none, none] [] (KC true) (RC true) I L 0 0 := by
  unfold fX11_champion_t_b15 at hf
  refine j_iconst (v := (-1 : Int32)) hc dX11_champion_15 ci_m1 ?_
  refine j_istore_n hc dX11_champion_16 (Nat.le_of_ble_eq_true rfl) hf (fun v1 hf => ?_)
  refine j_iconst (v := (0 : Int32)) hc dX11_champion_17 ci_0 ?_
  refine j_istore_n hc dX11_champion_18 (Nat.le_of_ble_eq_true rfl) hf (fun v2 hf => ?_)
  exact j_sub (tX11_champion_t_b19 n d hc n _ _ _ _ _ hf) (And.intro rfl (And.intro rfl (And.intro rfl (And.intro rfl (trivial)))))

set_option maxRecDepth 100000 in
def fX11_champion_t (n d : Nat) (a1 : Int32) (I : am_I) (L : am_L) : Option (Int32 × am_I × am_L) :=
  am_b3 (fX11_isSideOfWar n d a1 I L) (fun v1 I1 L1 => if v1 = 0 then
    (some ((-1 : Int32), I1, L1))
    else
    (am_b2 (fX11_countWins_t n d a1 I1 L1) (fun I2 L2 => fX11_champion_t_b15 n d a1 I2 L2)))

set_option maxRecDepth 100000 in
set_option maxHeartbeats 4000000 in
theorem tX11_champion_t {x : am_X} (n d : Nat) (hc : am_ok x cX11_champion yX11_champion 4 (some .int) (d + 8) 0 0) {r : Int32} {I' : am_I} {L' : am_L} (a1 : Int32) (I : am_I) (L : am_L) (hf : fX11_champion_t n d a1 I L = some (r, I', L')) : am_J x (fun S => S = (some (.int r), (KC true), (RC true), I', L')) 0 [some (.ref 0), some (.int a1), none, none] [] (KC true) (RC true) I L 0 0 := by
  unfold fX11_champion_t at hf
  refine j_aload_n hc dX11_champion_0 rfl ?_
  refine j_iload_n hc dX11_champion_1 rfl ?_
  refine j_callVI (t := 0) (As := [.int a1]) hc dX11_champion_2 kw_1152 mX11_isSideOfWar (kC_0 _) clX11 rfl (by omega) (Nat.le_of_ble_eq_true rfl) (Nat.le_of_ble_eq_true rfl) ⟨Nat.le_refl _, Nat.le_refl _⟩ hf (fun v I' L' h => qX11_isSideOfWar x.2.1 n d a1 I L v I' L' h) (fun v1 I1 L1 hf => ?_)
  refine j_if_ne (tgt := 10) hc dX11_champion_5 rfl hf (fun hf => ?_) (fun hf => ?_)
  · refine j_aload_n hc dX11_champion_10 rfl ?_
    refine j_iload_n hc dX11_champion_11 rfl ?_
    refine j_callVV (t := 0) (As := [.int a1]) hc dX11_champion_12 kw_1156 mX11_countWins (kC_0 _) clX11 rfl (by omega) (Nat.le_of_ble_eq_true rfl) (Nat.le_of_ble_eq_true rfl) ⟨Nat.le_refl _, Nat.le_refl _⟩ hf (fun I' L' h => qX11_countWins_t x.2.1 n d a1 I1 L1 I' L' h) (fun I2 L2 hf => ?_)
    exact j_sub (tX11_champion_t_b15 n d hc _ _ _ hf) (And.intro rfl (And.intro rfl (trivial)))
  · refine j_iconst (v := (-1 : Int32)) hc dX11_champion_8 ci_m1 ?_
    exact j_ireturn hc dX11_champion_9 rfl rfl hf

set_option maxRecDepth 100000 in
theorem qX11_champion_t (l : Launch) (n d : Nat) (a1 : Int32) (I : am_I) (L : am_L) (r : Int32) (I' : am_I) (L' : am_L) (hf : fX11_champion_t n d a1 I L = some (r, I', L')) : am_C l yX11_champion cX11_champion 4 (some .int) (d + 8) [.ref 0, .int a1] (KC true) (RC true) I L (some (.int r)) I' L' := by
  exact am_intro (plainFor_of_name plX11) (fun _ _ => trivial) (Nat.le_of_ble_eq_true rfl) (fun x hl hc => by subst hl; exact j_sub (tX11_champion_t n d hc _ _ _ hf) (And.intro rfl (And.intro rfl (trivial))))
set_option maxRecDepth 100000 in
def fX11_treaty_t_b99 (n d : Nat) (k76 : Int32 → Int32 → Int32 → Int32 → Int32 → Int32 → am_I → am_L → Option (Int32 × am_I × am_L)) (s0 : Int32) (a3 : Int32) (a4 : Int32) (a5 : Int32) (a6 : Int32) (a7 : Int32) (a8 : Int32) (I : am_I) (L : am_L) : Option (Int32 × am_I × am_L) :=
  if s0 = a5 then
    (am_lt a8 (fun v1 => am_lt (a8 + (1 : Int32)) (fun v2 => k76 a3 a4 a5 a6 v1 v2 I L)))
    else
    (some (a7, I, L))

set_option maxRecDepth 100000 in
set_option maxHeartbeats 4000000 in
theorem tX11_treaty_t_b99 {x : am_X} (n d : Nat) (hc : am_ok x cX11_treaty yX11_treaty 9 (some .int) (d + 6) 0 0) {r : Int32} {I' : am_I} {L' : am_L} (k76 : Int32 → Int32 → Int32 → Int32 → Int32 → Int32 → am_I → am_L → Option (Int32 × am_I × am_L)) (hk76 : ∀ (a3 : Int32) (a4 : Int32) (a5 : Int32) (a6 : Int32) (a7 : Int32) (a8 : Int32) (I : am_I) (L : am_L), k76 a3 a4 a5 a6 a7 a8 I L = some (r, I', L') → am_J x (fun S => S = (some (.int r), (KC true), (RC true), I', L')) 76 [some (.ref 0), none, none, some (.int a3), some (.int a4), some (.int a5), some (.int a6), some (.int a7), some (.int a8)] [] (KC true) (RC true) I L 0 0) (s0 : Int32) (a3 : Int32) (a4 : Int32) (a5 : Int32) (a6 : Int32) (a7 : Int32) (a8 : Int32) (I : am_I) (L : am_L) (hf : fX11_treaty_t_b99 n d k76 s0 a3 a4 a5 a6 a7 a8 I L = some (r, I', L')) : am_J x (fun S => S = (some (.int r), (KC true), (RC true), I', L')) 99 [some (.ref 0), none, none, some (.int a3), some (.int a4), some (.int a5), some (.int a6), some (.int a7), some (.int a8)] [.int s0] (KC true) (RC true) I L 0 0 := by
  unfold fX11_treaty_t_b99 at hf
  refine j_iload hc dX11_treaty_99 rfl ?_
  refine j_icmp_ne (tgt := 114) hc dX11_treaty_101 rfl hf (fun hf => ?_) (fun hf => ?_)
  · refine j_iload hc dX11_treaty_114 rfl ?_
    exact j_ireturn hc dX11_treaty_116 rfl rfl hf
  · refine j_iload hc dX11_treaty_104 rfl ?_
    refine j_istore hc dX11_treaty_106 (Nat.le_of_ble_eq_true rfl) hf (fun v1 hf => ?_)
    refine j_iinc (w := (1 : Int32)) hc dX11_treaty_108 rfl ci_1 (Nat.le_of_ble_eq_true rfl) hf (fun v2 hf => ?_)
    refine j_goto (tgt := 76) hc dX11_treaty_111 rfl ?_
    exact j_sub (hk76 _ _ _ _ _ _ _ _ hf) (And.intro rfl (And.intro rfl (And.intro rfl (And.intro rfl (And.intro rfl (And.intro rfl (And.intro rfl (trivial))))))))

set_option maxRecDepth 100000 in
def fX11_treaty_t_b76w (n d : Nat) (k76 : Int32 → Int32 → Int32 → Int32 → Int32 → Int32 → am_I → am_L → Option (Int32 × am_I × am_L)) (a3 : Int32) (a4 : Int32) (a5 : Int32) (a6 : Int32) (a7 : Int32) (a8 : Int32) (I : am_I) (L : am_L) : Option (Int32 × am_I × am_L) :=
  if a6 < a8 then
    (some (a7, I, L))
    else
    (am_b3 (fX0_isWon_t n d (a3 - a8) (a4 - a8) I L) (fun v1 I1 L1 => fX11_treaty_t_b99 n d k76 v1 a3 a4 a5 a6 a7 a8 I1 L1))

set_option maxRecDepth 100000 in
set_option maxHeartbeats 4000000 in
theorem tX11_treaty_t_b76w {x : am_X} (n d : Nat) (hc : am_ok x cX11_treaty yX11_treaty 9 (some .int) (d + 6) 0 0) {r : Int32} {I' : am_I} {L' : am_L} (k76 : Int32 → Int32 → Int32 → Int32 → Int32 → Int32 → am_I → am_L → Option (Int32 × am_I × am_L)) (hk76 : ∀ (a3 : Int32) (a4 : Int32) (a5 : Int32) (a6 : Int32) (a7 : Int32) (a8 : Int32) (I : am_I) (L : am_L), k76 a3 a4 a5 a6 a7 a8 I L = some (r, I', L') → am_J x (fun S => S = (some (.int r), (KC true), (RC true), I', L')) 76 [some (.ref 0), none, none, some (.int a3), some (.int a4), some (.int a5), some (.int a6), some (.int a7), some (.int a8)] [] (KC true) (RC true) I L 0 0) (a3 : Int32) (a4 : Int32) (a5 : Int32) (a6 : Int32) (a7 : Int32) (a8 : Int32) (I : am_I) (L : am_L) (hf : fX11_treaty_t_b76w n d k76 a3 a4 a5 a6 a7 a8 I L = some (r, I', L')) : am_J x (fun S => S = (some (.int r), (KC true), (RC true), I', L')) 76 [some (.ref 0), none, none, some (.int a3), some (.int a4), some (.int a5), some (.int a6), some (.int a7), some (.int a8)] [] (KC true) (RC true) I L 0 0 := by
  unfold fX11_treaty_t_b76w at hf
  refine j_iload hc dX11_treaty_76 rfl ?_
  refine j_iload hc dX11_treaty_78 rfl ?_
  refine j_icmp_gt (tgt := 114) hc dX11_treaty_80 rfl hf (fun hf => ?_) (fun hf => ?_)
  · refine j_iload hc dX11_treaty_114 rfl ?_
    exact j_ireturn hc dX11_treaty_116 rfl rfl hf
  · refine j_aload_n hc dX11_treaty_83 rfl ?_
    refine j_getR (u := 51) hc dX11_treaty_84 (fgC_X11_77_0 _) (rC_0_9 _) ?_
    refine j_iload_n hc dX11_treaty_87 rfl ?_
    refine j_iload hc dX11_treaty_88 rfl ?_
    refine j_isub hc dX11_treaty_90 ?_
    refine j_iload hc dX11_treaty_91 rfl ?_
    refine j_iload hc dX11_treaty_93 rfl ?_
    refine j_isub hc dX11_treaty_95 ?_
    refine j_callVI (t := 51) (As := [.int (a3 - a8), .int (a4 - a8)]) hc dX11_treaty_96 kw_1124 mX0_isWon (kC_51 _) clX0 rfl (by omega) (Nat.le_of_ble_eq_true rfl) (Nat.le_of_ble_eq_true rfl) ⟨Nat.le_refl _, Nat.le_refl _⟩ hf (fun v I' L' h => qX0_isWon_t x.2.1 n d (a3 - a8) (a4 - a8) I L v I' L' h) (fun v1 I1 L1 hf => ?_)
    exact j_sub (tX11_treaty_t_b99 n d hc k76 hk76 _ _ _ _ _ _ _ _ _ hf) (And.intro rfl (And.intro rfl (And.intro rfl (And.intro rfl (And.intro rfl (And.intro rfl (And.intro rfl (trivial))))))))

def fX11_treaty_t_b76 (n d : Nat) : Nat → Int32 → Int32 → Int32 → Int32 → Int32 → Int32 → am_I → am_L → Option (Int32 × am_I × am_L)
  | 0 => fun _ _ _ _ _ _ _ _ => none
  | m + 1 => fX11_treaty_t_b76w n d  (fX11_treaty_t_b76 n d m)

set_option maxRecDepth 100000 in
theorem tX11_treaty_t_b76 {x : am_X} (n d : Nat) (hc : am_ok x cX11_treaty yX11_treaty 9 (some .int) (d + 6) 0 0) {r : Int32} {I' : am_I} {L' : am_L} (m : Nat) : ∀ (a3 : Int32) (a4 : Int32) (a5 : Int32) (a6 : Int32) (a7 : Int32) (a8 : Int32) (I : am_I) (L : am_L) (hf : fX11_treaty_t_b76 n d m a3 a4 a5 a6 a7 a8 I L = some (r, I', L')), am_J x (fun S => S = (some (.int r), (KC true), (RC true), I', L')) 76 [some (.ref 0), none, none, some (.int a3), some (.int a4), some (.int a5), some (.int a6), some (.int a7), some (.int a8)] [] (KC true) (RC true) I L 0 0 := by
  induction m with
  | zero => intro a3 a4 a5 a6 a7 a8 I L hf; exact (Option.some_ne_none _ hf.symm).elim
  | succ m ih => intro a3 a4 a5 a6 a7 a8 I L hf; exact tX11_treaty_t_b76w n d hc (fX11_treaty_t_b76 n d m) ih a3 a4 a5 a6 a7 a8 I L hf

set_option maxRecDepth 100000 in
def fX11_treaty_t_b40 (n d : Nat) (s0 : Int32) (a1 : Int32) (a2 : Int32) (a3 : Int32) (a4 : Int32) (I : am_I) (L : am_L) : Option (Int32 × am_I × am_L) :=
  am_lt s0 (fun v1 => am_ck a1 8 (am_lt (I 41 (a1).toNatClampNeg) (fun v2 => am_ck a2 8 (am_lt (I 41 (a2).toNatClampNeg) (fun v3 => am_b3 (fJ9_min_7cf53 n d v2 v3 I L) (fun v4 I4 L4 => am_b3 (fJ9_min_7cf53 n d (9 : Int32) v4 I4 L4) (fun v5 I5 L5 => am_lt v5 (fun v6 => am_lt (0 : Int32) (fun v7 => am_lt (1 : Int32) (fun v8 => fX11_treaty_t_b76 n d n a3 a4 v1 v6 v7 v8 I5 L5))))))))))

set_option maxRecDepth 100000 in
set_option maxHeartbeats 4000000 in
theorem tX11_treaty_t_b40 {x : am_X} (n d : Nat) (hc : am_ok x cX11_treaty yX11_treaty 9 (some .int) (d + 6) 0 0) {r : Int32} {I' : am_I} {L' : am_L} (s0 : Int32) (a1 : Int32) (a2 : Int32) (a3 : Int32) (a4 : Int32) (I : am_I) (L : am_L) (hf : fX11_treaty_t_b40 n d s0 a1 a2 a3 a4 I L = some (r, I', L')) : am_J x (fun S => S = (some (.int r), (KC true), (RC true), I', L')) 40 [some (.ref 0), some (.int a1), some (.int a2), some (.int a3), some (.int a4), none, none, none, none] [.int s0] (KC true) (RC true) I L 0 0 := by
  unfold fX11_treaty_t_b40 at hf
  refine j_istore hc dX11_treaty_40 (Nat.le_of_ble_eq_true rfl) hf (fun v1 hf => ?_)
  refine j_bipush (v := (9 : Int32)) hc dX11_treaty_42 cb_9 ?_
  refine j_aload_n hc dX11_treaty_44 rfl ?_
  refine j_getR (u := 39) hc dX11_treaty_45 (fgC_X11_56_0 _) (rC_0_6 _) ?_
  refine j_getR (u := 41) hc dX11_treaty_48 (fgC_X11_183_39 _) (rC_39_3 _) ?_
  refine j_iload_n hc dX11_treaty_51 rfl ?_
  refine j_iaload (n := 8) hc dX11_treaty_52 (kC_41 _) hf (fun v2 hf => ?_)
  refine j_aload_n hc dX11_treaty_53 rfl ?_
  refine j_getR (u := 39) hc dX11_treaty_54 (fgC_X11_56_0 _) (rC_0_6 _) ?_
  refine j_getR (u := 41) hc dX11_treaty_57 (fgC_X11_183_39 _) (rC_39_3 _) ?_
  refine j_iload_n hc dX11_treaty_60 rfl ?_
  refine j_iaload (n := 8) hc dX11_treaty_61 (kC_41 _) hf (fun v3 hf => ?_)
  refine j_callSI (As := [.int v2, .int v3]) hc dX11_treaty_62 kw_1147 mJ9_min_7cf53  rfl (by omega) (Nat.le_of_ble_eq_true rfl) (Nat.le_of_ble_eq_true rfl) ⟨Nat.le_refl _, Nat.le_refl _⟩ hf (fun v I' L' h => qJ9_min_7cf53 x.2.1 n d v2 v3 I L v I' L' h) (fun v4 I4 L4 hf => ?_)
  refine j_callSI (As := [.int (9 : Int32), .int v4]) hc dX11_treaty_65 kw_1147 mJ9_min_7cf53  rfl (by omega) (Nat.le_of_ble_eq_true rfl) (Nat.le_of_ble_eq_true rfl) ⟨Nat.le_refl _, Nat.le_refl _⟩ hf (fun v I' L' h => qJ9_min_7cf53 x.2.1 n d (9 : Int32) v4 I4 L4 v I' L' h) (fun v5 I5 L5 hf => ?_)
  refine j_istore hc dX11_treaty_68 (Nat.le_of_ble_eq_true rfl) hf (fun v6 hf => ?_)
  refine j_iconst (v := (0 : Int32)) hc dX11_treaty_70 ci_0 ?_
  refine j_istore hc dX11_treaty_71 (Nat.le_of_ble_eq_true rfl) hf (fun v7 hf => ?_)
  refine j_iconst (v := (1 : Int32)) hc dX11_treaty_73 ci_1 ?_
  refine j_istore hc dX11_treaty_74 (Nat.le_of_ble_eq_true rfl) hf (fun v8 hf => ?_)
  exact j_sub (tX11_treaty_t_b76 n d hc n _ _ _ _ _ _ _ _ hf) (And.intro rfl (And.intro rfl (And.intro rfl (And.intro rfl (And.intro rfl (And.intro rfl (And.intro rfl (trivial))))))))

set_option maxRecDepth 100000 in
def fX11_treaty_t_b17 (n d : Nat) (a1 : Int32) (a2 : Int32) (I : am_I) (L : am_L) : Option (Int32 × am_I × am_L) :=
  am_b3 (fX11_placeOf n d a1 I L) (fun v1 I1 L1 => am_lt v1 (fun v2 => am_b3 (fX11_placeOf n d a2 I1 L1) (fun v3 I3 L3 => am_lt v3 (fun v4 => am_b3 (fX0_isWon_t n d v2 v4 I3 L3) (fun v5 I5 L5 => fX11_treaty_t_b40 n d v5 a1 a2 v2 v4 I5 L5)))))

set_option maxRecDepth 100000 in
set_option maxHeartbeats 4000000 in
theorem tX11_treaty_t_b17 {x : am_X} (n d : Nat) (hc : am_ok x cX11_treaty yX11_treaty 9 (some .int) (d + 6) 0 0) {r : Int32} {I' : am_I} {L' : am_L} (a1 : Int32) (a2 : Int32) (I : am_I) (L : am_L) (hf : fX11_treaty_t_b17 n d a1 a2 I L = some (r, I', L')) : am_J x (fun S => S = (some (.int r), (KC true), (RC true), I', L')) 17 [some (.ref 0), some (.int a1), some (.int a2), none, none, none, none, none, none] [] (KC true) (RC true) I L 0 0 := by
  unfold fX11_treaty_t_b17 at hf
  refine j_aload_n hc dX11_treaty_17 rfl ?_
  refine j_iload_n hc dX11_treaty_18 rfl ?_
  refine j_callVI (t := 0) (As := [.int a1]) hc dX11_treaty_19 kw_1094 mX11_placeOf (kC_0 _) clX11 rfl (by omega) (Nat.le_of_ble_eq_true rfl) (Nat.le_of_ble_eq_true rfl) ⟨Nat.le_refl _, Nat.le_refl _⟩ hf (fun v I' L' h => qX11_placeOf x.2.1 n d a1 I L v I' L' h) (fun v1 I1 L1 hf => ?_)
  refine j_istore_n hc dX11_treaty_22 (Nat.le_of_ble_eq_true rfl) hf (fun v2 hf => ?_)
  refine j_aload_n hc dX11_treaty_23 rfl ?_
  refine j_iload_n hc dX11_treaty_24 rfl ?_
  refine j_callVI (t := 0) (As := [.int a2]) hc dX11_treaty_25 kw_1094 mX11_placeOf (kC_0 _) clX11 rfl (by omega) (Nat.le_of_ble_eq_true rfl) (Nat.le_of_ble_eq_true rfl) ⟨Nat.le_refl _, Nat.le_refl _⟩ hf (fun v I' L' h => qX11_placeOf x.2.1 n d a2 I1 L1 v I' L' h) (fun v3 I3 L3 hf => ?_)
  refine j_istore hc dX11_treaty_28 (Nat.le_of_ble_eq_true rfl) hf (fun v4 hf => ?_)
  refine j_aload_n hc dX11_treaty_30 rfl ?_
  refine j_getR (u := 51) hc dX11_treaty_31 (fgC_X11_77_0 _) (rC_0_9 _) ?_
  refine j_iload_n hc dX11_treaty_34 rfl ?_
  refine j_iload hc dX11_treaty_35 rfl ?_
  refine j_callVI (t := 51) (As := [.int v2, .int v4]) hc dX11_treaty_37 kw_1124 mX0_isWon (kC_51 _) clX0 rfl (by omega) (Nat.le_of_ble_eq_true rfl) (Nat.le_of_ble_eq_true rfl) ⟨Nat.le_refl _, Nat.le_refl _⟩ hf (fun v I' L' h => qX0_isWon_t x.2.1 n d v2 v4 I3 L3 v I' L' h) (fun v5 I5 L5 hf => ?_)
  exact j_sub (tX11_treaty_t_b40 n d hc _ _ _ _ _ _ _ hf) (And.intro rfl (And.intro rfl (And.intro rfl (And.intro rfl (And.intro rfl (trivial))))))

set_option maxRecDepth 100000 in
def fX11_treaty_t (n d : Nat) (a1 : Int32) (a2 : Int32) (I : am_I) (L : am_L) : Option (Int32 × am_I × am_L) :=
  am_b3 (fX11_mayDuel n d a1 a2 I L) (fun v1 I1 L1 => if v1 = 0 then
    (some ((-1 : Int32), I1, L1))
    else
    (am_b2 (fX11_makeDuelReady_t n d a1 a2 I1 L1) (fun I2 L2 => fX11_treaty_t_b17 n d a1 a2 I2 L2)))

set_option maxRecDepth 100000 in
set_option maxHeartbeats 4000000 in
theorem tX11_treaty_t {x : am_X} (n d : Nat) (hc : am_ok x cX11_treaty yX11_treaty 9 (some .int) (d + 6) 0 0) {r : Int32} {I' : am_I} {L' : am_L} (a1 : Int32) (a2 : Int32) (I : am_I) (L : am_L) (hf : fX11_treaty_t n d a1 a2 I L = some (r, I', L')) : am_J x (fun S => S = (some (.int r), (KC true), (RC true), I', L')) 0 [some (.ref 0), some (.int a1), some (.int a2), none, none, none, none, none, none] [] (KC true) (RC true) I L 0 0 := by
  unfold fX11_treaty_t at hf
  refine j_aload_n hc dX11_treaty_0 rfl ?_
  refine j_iload_n hc dX11_treaty_1 rfl ?_
  refine j_iload_n hc dX11_treaty_2 rfl ?_
  refine j_callVI (t := 0) (As := [.int a1, .int a2]) hc dX11_treaty_3 kw_1082 mX11_mayDuel (kC_0 _) clX11 rfl (by omega) (Nat.le_of_ble_eq_true rfl) (Nat.le_of_ble_eq_true rfl) ⟨Nat.le_refl _, Nat.le_refl _⟩ hf (fun v I' L' h => qX11_mayDuel x.2.1 n d a1 a2 I L v I' L' h) (fun v1 I1 L1 hf => ?_)
  refine j_if_ne (tgt := 11) hc dX11_treaty_6 rfl hf (fun hf => ?_) (fun hf => ?_)
  · refine j_aload_n hc dX11_treaty_11 rfl ?_
    refine j_iload_n hc dX11_treaty_12 rfl ?_
    refine j_iload_n hc dX11_treaty_13 rfl ?_
    refine j_callVV (t := 0) (As := [.int a1, .int a2]) hc dX11_treaty_14 kw_1086 mX11_makeDuelReady (kC_0 _) clX11 rfl (by omega) (Nat.le_of_ble_eq_true rfl) (Nat.le_of_ble_eq_true rfl) ⟨Nat.le_refl _, Nat.le_refl _⟩ hf (fun I' L' h => qX11_makeDuelReady_t x.2.1 n d a1 a2 I1 L1 I' L' h) (fun I2 L2 hf => ?_)
    exact j_sub (tX11_treaty_t_b17 n d hc _ _ _ _ hf) (And.intro rfl (And.intro rfl (And.intro rfl (trivial))))
  · refine j_iconst (v := (-1 : Int32)) hc dX11_treaty_9 ci_m1 ?_
    exact j_ireturn hc dX11_treaty_10 rfl rfl hf

set_option maxRecDepth 100000 in
theorem qX11_treaty_t (l : Launch) (n d : Nat) (a1 : Int32) (a2 : Int32) (I : am_I) (L : am_L) (r : Int32) (I' : am_I) (L' : am_L) (hf : fX11_treaty_t n d a1 a2 I L = some (r, I', L')) : am_C l yX11_treaty cX11_treaty 9 (some .int) (d + 6) [.ref 0, .int a1, .int a2] (KC true) (RC true) I L (some (.int r)) I' L' := by
  exact am_intro (plainFor_of_name plX11) (fun _ _ => trivial) (Nat.le_of_ble_eq_true rfl) (fun x hl hc => by subst hl; exact j_sub (tX11_treaty_t n d hc _ _ _ _ hf) (And.intro rfl (And.intro rfl (And.intro rfl (trivial)))))
set_option maxRecDepth 100000 in
def fX11_victors_t_b133 (n d : Nat) (k73 : Int32 → Int32 → Int32 → Int32 → am_I → am_L → Option (Int32 × am_I × am_L)) (a1 : Int32) (a2 : Int32) (a3 : Int32) (a4 : Int32) (I : am_I) (L : am_L) : Option (Int32 × am_I × am_L) :=
  am_lt (a4 + (1 : Int32)) (fun v1 => k73 a1 a2 a3 v1 I L)

set_option maxRecDepth 100000 in
set_option maxHeartbeats 4000000 in
theorem tX11_victors_t_b133 {x : am_X} (n d : Nat) (hc : am_ok x cX11_victors yX11_victors 5 (some .int) (d + 8) 0 0) {r : Int32} {I' : am_I} {L' : am_L} (k73 : Int32 → Int32 → Int32 → Int32 → am_I → am_L → Option (Int32 × am_I × am_L)) (hk73 : ∀ (a1 : Int32) (a2 : Int32) (a3 : Int32) (a4 : Int32) (I : am_I) (L : am_L), k73 a1 a2 a3 a4 I L = some (r, I', L') → am_J x (fun S => S = (some (.int r), (KC true), (RC true), I', L')) 73 [some (.ref 0), some (.int a1), some (.int a2), some (.int a3), some (.int a4)] [] (KC true) (RC true) I L 0 0) (a1 : Int32) (a2 : Int32) (a3 : Int32) (a4 : Int32) (I : am_I) (L : am_L) (hf : fX11_victors_t_b133 n d k73 a1 a2 a3 a4 I L = some (r, I', L')) : am_J x (fun S => S = (some (.int r), (KC true), (RC true), I', L')) 133 [some (.ref 0), some (.int a1), some (.int a2), some (.int a3), some (.int a4)] [] (KC true) (RC true) I L 0 0 := by
  unfold fX11_victors_t_b133 at hf
  refine j_iinc (w := (1 : Int32)) hc dX11_victors_133 rfl ci_1 (Nat.le_of_ble_eq_true rfl) hf (fun v1 hf => ?_)
  refine j_goto (tgt := 73) hc dX11_victors_136 rfl ?_
  exact j_sub (hk73 _ _ _ _ _ _ hf) (And.intro rfl (And.intro rfl (And.intro rfl (And.intro rfl (And.intro rfl (trivial))))))

set_option maxRecDepth 100000 in
def fX11_victors_t_b73w (n d : Nat) (k73 : Int32 → Int32 → Int32 → Int32 → am_I → am_L → Option (Int32 × am_I × am_L)) (a1 : Int32) (a2 : Int32) (a3 : Int32) (a4 : Int32) (I : am_I) (L : am_L) : Option (Int32 × am_I × am_L) :=
  if (I 3 0) ≤ a4 then
    (some (a3, I, L))
    else
    (am_ck a4 8 (am_lt (I 4 (a4).toNatClampNeg) (fun v1 => if v1 = a1 then
      (am_b3 (fX7_canGo n d a4 I L) (fun v2 I2 L2 => if v2 = 0 then
        (fX11_victors_t_b133 n d k73 a1 a2 a3 a4 I2 L2)
        else
        (if a2 ≤ 0 then
          (fX11_victors_t_b133 n d k73 a1 a2 a3 a4 I2 L2)
          else
          (am_ck a4 8 (am_lt (I2 66 (a4).toNatClampNeg) (fun v3 => if v3 = a2 then
            (am_lt (a3 ||| ((1 : Int32) <<< (a4 &&& 31))) (fun v4 => fX11_victors_t_b133 n d k73 a1 a2 v4 a4 I2 L2))
            else
            (fX11_victors_t_b133 n d k73 a1 a2 a3 a4 I2 L2)))))))
      else
      (fX11_victors_t_b133 n d k73 a1 a2 a3 a4 I L))))

set_option maxRecDepth 100000 in
set_option maxHeartbeats 4000000 in
theorem tX11_victors_t_b73w {x : am_X} (n d : Nat) (hc : am_ok x cX11_victors yX11_victors 5 (some .int) (d + 8) 0 0) {r : Int32} {I' : am_I} {L' : am_L} (k73 : Int32 → Int32 → Int32 → Int32 → am_I → am_L → Option (Int32 × am_I × am_L)) (hk73 : ∀ (a1 : Int32) (a2 : Int32) (a3 : Int32) (a4 : Int32) (I : am_I) (L : am_L), k73 a1 a2 a3 a4 I L = some (r, I', L') → am_J x (fun S => S = (some (.int r), (KC true), (RC true), I', L')) 73 [some (.ref 0), some (.int a1), some (.int a2), some (.int a3), some (.int a4)] [] (KC true) (RC true) I L 0 0) (a1 : Int32) (a2 : Int32) (a3 : Int32) (a4 : Int32) (I : am_I) (L : am_L) (hf : fX11_victors_t_b73w n d k73 a1 a2 a3 a4 I L = some (r, I', L')) : am_J x (fun S => S = (some (.int r), (KC true), (RC true), I', L')) 73 [some (.ref 0), some (.int a1), some (.int a2), some (.int a3), some (.int a4)] [] (KC true) (RC true) I L 0 0 := by
  unfold fX11_victors_t_b73w at hf
  refine j_iload hc dX11_victors_73 rfl ?_
  refine j_aload_n hc dX11_victors_75 rfl ?_
  refine j_getR (u := 3) hc dX11_victors_76 (fgC_X11_19_0 _) (rC_0_1 _) ?_
  refine j_getI hc dX11_victors_79 (fgC_X11_151_3 _) ?_
  refine j_icmp_ge (tgt := 139) hc dX11_victors_82 rfl hf (fun hf => ?_) (fun hf => ?_)
  · refine j_iload_n hc dX11_victors_139 rfl ?_
    exact j_ireturn hc dX11_victors_140 rfl rfl hf
  · refine j_aload_n hc dX11_victors_85 rfl ?_
    refine j_getR (u := 3) hc dX11_victors_86 (fgC_X11_19_0 _) (rC_0_1 _) ?_
    refine j_getR (u := 4) hc dX11_victors_89 (fgC_X11_165_3 _) (rC_3_5 _) ?_
    refine j_iload hc dX11_victors_92 rfl ?_
    refine j_iaload (n := 8) hc dX11_victors_94 (kC_4 _) hf (fun v1 hf => ?_)
    refine j_iload_n hc dX11_victors_95 rfl ?_
    refine j_icmp_ne (tgt := 133) hc dX11_victors_96 rfl hf (fun hf => ?_) (fun hf => ?_)
    · exact j_sub (tX11_victors_t_b133 n d hc k73 hk73 _ _ _ _ _ _ hf) (And.intro rfl (And.intro rfl (And.intro rfl (And.intro rfl (And.intro rfl (trivial))))))
    · refine j_aload_n hc dX11_victors_99 rfl ?_
      refine j_getR (u := 39) hc dX11_victors_100 (fgC_X11_56_0 _) (rC_0_6 _) ?_
      refine j_iload hc dX11_victors_103 rfl ?_
      refine j_callVI (t := 39) (As := [.int a4]) hc dX11_victors_105 kw_916 mX7_canGo (kC_39 _) clX7 rfl (by omega) (Nat.le_of_ble_eq_true rfl) (Nat.le_of_ble_eq_true rfl) ⟨Nat.le_refl _, Nat.le_refl _⟩ hf (fun v I' L' h => qX7_canGo x.2.1 n d a4 I L v I' L' h) (fun v2 I2 L2 hf => ?_)
      refine j_if_eq (tgt := 133) hc dX11_victors_108 rfl hf (fun hf => ?_) (fun hf => ?_)
      · exact j_sub (tX11_victors_t_b133 n d hc k73 hk73 _ _ _ _ _ _ hf) (And.intro rfl (And.intro rfl (And.intro rfl (And.intro rfl (And.intro rfl (trivial))))))
      · refine j_iload_n hc dX11_victors_111 rfl ?_
        refine j_if_le (tgt := 133) hc dX11_victors_112 rfl hf (fun hf => ?_) (fun hf => ?_)
        · exact j_sub (tX11_victors_t_b133 n d hc k73 hk73 _ _ _ _ _ _ hf) (And.intro rfl (And.intro rfl (And.intro rfl (And.intro rfl (And.intro rfl (trivial))))))
        · refine j_aload_n hc dX11_victors_115 rfl ?_
          refine j_getR (u := 66) hc dX11_victors_116 (fgC_X11_101_0 _) (rC_0_13 _) ?_
          refine j_iload hc dX11_victors_119 rfl ?_
          refine j_iaload (n := 8) hc dX11_victors_121 (kC_66 _) hf (fun v3 hf => ?_)
          refine j_iload_n hc dX11_victors_122 rfl ?_
          refine j_icmp_ne (tgt := 133) hc dX11_victors_123 rfl hf (fun hf => ?_) (fun hf => ?_)
          · exact j_sub (tX11_victors_t_b133 n d hc k73 hk73 _ _ _ _ _ _ hf) (And.intro rfl (And.intro rfl (And.intro rfl (And.intro rfl (And.intro rfl (trivial))))))
          · refine j_iload_n hc dX11_victors_126 rfl ?_
            refine j_iconst (v := (1 : Int32)) hc dX11_victors_127 ci_1 ?_
            refine j_iload hc dX11_victors_128 rfl ?_
            refine j_ishl hc dX11_victors_130 ?_
            refine j_ior hc dX11_victors_131 ?_
            refine j_istore_n hc dX11_victors_132 (Nat.le_of_ble_eq_true rfl) hf (fun v4 hf => ?_)
            exact j_sub (tX11_victors_t_b133 n d hc k73 hk73 _ _ _ _ _ _ hf) (And.intro rfl (And.intro rfl (And.intro rfl (And.intro rfl (And.intro rfl (trivial))))))

def fX11_victors_t_b73 (n d : Nat) : Nat → Int32 → Int32 → Int32 → Int32 → am_I → am_L → Option (Int32 × am_I × am_L)
  | 0 => fun _ _ _ _ _ _ => none
  | m + 1 => fX11_victors_t_b73w n d  (fX11_victors_t_b73 n d m)

set_option maxRecDepth 100000 in
theorem tX11_victors_t_b73 {x : am_X} (n d : Nat) (hc : am_ok x cX11_victors yX11_victors 5 (some .int) (d + 8) 0 0) {r : Int32} {I' : am_I} {L' : am_L} (m : Nat) : ∀ (a1 : Int32) (a2 : Int32) (a3 : Int32) (a4 : Int32) (I : am_I) (L : am_L) (hf : fX11_victors_t_b73 n d m a1 a2 a3 a4 I L = some (r, I', L')), am_J x (fun S => S = (some (.int r), (KC true), (RC true), I', L')) 73 [some (.ref 0), some (.int a1), some (.int a2), some (.int a3), some (.int a4)] [] (KC true) (RC true) I L 0 0 := by
  induction m with
  | zero => intro a1 a2 a3 a4 I L hf; exact (Option.some_ne_none _ hf.symm).elim
  | succ m ih => intro a1 a2 a3 a4 I L hf; exact tX11_victors_t_b73w n d hc (fX11_victors_t_b73 n d m) ih a1 a2 a3 a4 I L hf

set_option maxRecDepth 100000 in
def fX11_victors_t_b60 (n d : Nat) (k19 : Int32 → Int32 → Int32 → am_I → am_L → Option (Int32 × am_I × am_L)) (s0 : Int32) (s1 : Int32) (a1 : Int32) (a3 : Int32) (I : am_I) (L : am_L) : Option (Int32 × am_I × am_L) :=
  am_lt (s0 + s1) (fun v1 => am_lt (a3 + (1 : Int32)) (fun v2 => k19 a1 v1 v2 I L))

set_option maxRecDepth 100000 in
set_option maxHeartbeats 4000000 in
theorem tX11_victors_t_b60 {x : am_X} (n d : Nat) (hc : am_ok x cX11_victors yX11_victors 5 (some .int) (d + 8) 0 0) {r : Int32} {I' : am_I} {L' : am_L} (k19 : Int32 → Int32 → Int32 → am_I → am_L → Option (Int32 × am_I × am_L)) (hk19 : ∀ (a1 : Int32) (a2 : Int32) (a3 : Int32) (I : am_I) (L : am_L), k19 a1 a2 a3 I L = some (r, I', L') → am_J x (fun S => S = (some (.int r), (KC true), (RC true), I', L')) 19 [some (.ref 0), some (.int a1), some (.int a2), some (.int a3), none] [] (KC true) (RC true) I L 0 0) (s0 : Int32) (s1 : Int32) (a1 : Int32) (a3 : Int32) (I : am_I) (L : am_L) (hf : fX11_victors_t_b60 n d k19 s0 s1 a1 a3 I L = some (r, I', L')) : am_J x (fun S => S = (some (.int r), (KC true), (RC true), I', L')) 60 [some (.ref 0), some (.int a1), none, some (.int a3), none] [.int s1, .int s0] (KC true) (RC true) I L 0 0 := by
  unfold fX11_victors_t_b60 at hf
  refine j_iadd hc dX11_victors_60 ?_
  refine j_istore_n hc dX11_victors_61 (Nat.le_of_ble_eq_true rfl) hf (fun v1 hf => ?_)
  refine j_iinc (w := (1 : Int32)) hc dX11_victors_62 rfl ci_1 (Nat.le_of_ble_eq_true rfl) hf (fun v2 hf => ?_)
  refine j_goto (tgt := 19) hc dX11_victors_65 rfl ?_
  exact j_sub (hk19 _ _ _ _ _ hf) (And.intro rfl (And.intro rfl (And.intro rfl (And.intro rfl (trivial)))))

set_option maxRecDepth 100000 in
def fX11_victors_t_b59 (n d : Nat) (k19 : Int32 → Int32 → Int32 → am_I → am_L → Option (Int32 × am_I × am_L)) (s0 : Int32) (a1 : Int32) (a3 : Int32) (I : am_I) (L : am_L) : Option (Int32 × am_I × am_L) :=
  fX11_victors_t_b60 n d k19 s0 (0 : Int32) a1 a3 I L

set_option maxRecDepth 100000 in
set_option maxHeartbeats 4000000 in
theorem tX11_victors_t_b59 {x : am_X} (n d : Nat) (hc : am_ok x cX11_victors yX11_victors 5 (some .int) (d + 8) 0 0) {r : Int32} {I' : am_I} {L' : am_L} (k19 : Int32 → Int32 → Int32 → am_I → am_L → Option (Int32 × am_I × am_L)) (hk19 : ∀ (a1 : Int32) (a2 : Int32) (a3 : Int32) (I : am_I) (L : am_L), k19 a1 a2 a3 I L = some (r, I', L') → am_J x (fun S => S = (some (.int r), (KC true), (RC true), I', L')) 19 [some (.ref 0), some (.int a1), some (.int a2), some (.int a3), none] [] (KC true) (RC true) I L 0 0) (s0 : Int32) (a1 : Int32) (a3 : Int32) (I : am_I) (L : am_L) (hf : fX11_victors_t_b59 n d k19 s0 a1 a3 I L = some (r, I', L')) : am_J x (fun S => S = (some (.int r), (KC true), (RC true), I', L')) 59 [some (.ref 0), some (.int a1), none, some (.int a3), none] [.int s0] (KC true) (RC true) I L 0 0 := by
  unfold fX11_victors_t_b59 at hf
  refine j_iconst (v := (0 : Int32)) hc dX11_victors_59 ci_0 ?_
  exact j_sub (tX11_victors_t_b60 n d hc k19 hk19 _ _ _ _ _ _ hf) (And.intro rfl (And.intro rfl (And.intro rfl (trivial))))

set_option maxRecDepth 100000 in
def fX11_victors_t_b19w (n d : Nat) (k19 : Int32 → Int32 → Int32 → am_I → am_L → Option (Int32 × am_I × am_L)) (a1 : Int32) (a2 : Int32) (a3 : Int32) (I : am_I) (L : am_L) : Option (Int32 × am_I × am_L) :=
  if (I 3 0) ≤ a3 then
    (am_lt (0 : Int32) (fun v1 => am_lt (0 : Int32) (fun v2 => fX11_victors_t_b73 n d n a1 a2 v1 v2 I L)))
    else
    (am_ck a3 8 (am_lt (I 4 (a3).toNatClampNeg) (fun v3 => if v3 = a1 then
      (fX11_victors_t_b59 n d k19 a2 a1 a3 I L)
      else
      (am_b3 (fX7_canGo n d a3 I L) (fun v4 I4 L4 => if v4 = 0 then
        (fX11_victors_t_b59 n d k19 a2 a1 a3 I4 L4)
        else
        (fX11_victors_t_b60 n d k19 a2 (1 : Int32) a1 a3 I4 L4))))))

set_option maxRecDepth 100000 in
set_option maxHeartbeats 4000000 in
theorem tX11_victors_t_b19w {x : am_X} (n d : Nat) (hc : am_ok x cX11_victors yX11_victors 5 (some .int) (d + 8) 0 0) {r : Int32} {I' : am_I} {L' : am_L} (k19 : Int32 → Int32 → Int32 → am_I → am_L → Option (Int32 × am_I × am_L)) (hk19 : ∀ (a1 : Int32) (a2 : Int32) (a3 : Int32) (I : am_I) (L : am_L), k19 a1 a2 a3 I L = some (r, I', L') → am_J x (fun S => S = (some (.int r), (KC true), (RC true), I', L')) 19 [some (.ref 0), some (.int a1), some (.int a2), some (.int a3), none] [] (KC true) (RC true) I L 0 0) (a1 : Int32) (a2 : Int32) (a3 : Int32) (I : am_I) (L : am_L) (hf : fX11_victors_t_b19w n d k19 a1 a2 a3 I L = some (r, I', L')) : am_J x (fun S => S = (some (.int r), (KC true), (RC true), I', L')) 19 [some (.ref 0), some (.int a1), some (.int a2), some (.int a3), none] [] (KC true) (RC true) I L 0 0 := by
  unfold fX11_victors_t_b19w at hf
  refine j_iload_n hc dX11_victors_19 rfl ?_
  refine j_aload_n hc dX11_victors_20 rfl ?_
  refine j_getR (u := 3) hc dX11_victors_21 (fgC_X11_19_0 _) (rC_0_1 _) ?_
  refine j_getI hc dX11_victors_24 (fgC_X11_151_3 _) ?_
  refine j_icmp_ge (tgt := 68) hc dX11_victors_27 rfl hf (fun hf => ?_) (fun hf => ?_)
  · refine j_iconst (v := (0 : Int32)) hc dX11_victors_68 ci_0 ?_
    refine j_istore_n hc dX11_victors_69 (Nat.le_of_ble_eq_true rfl) hf (fun v1 hf => ?_)
    refine j_iconst (v := (0 : Int32)) hc dX11_victors_70 ci_0 ?_
    refine j_istore hc dX11_victors_71 (Nat.le_of_ble_eq_true rfl) hf (fun v2 hf => ?_)
    exact j_sub (tX11_victors_t_b73 n d hc n _ _ _ _ _ _ hf) (And.intro rfl (And.intro rfl (And.intro rfl (And.intro rfl (And.intro rfl (trivial))))))
  · refine j_iload_n hc dX11_victors_30 rfl ?_
    refine j_aload_n hc dX11_victors_31 rfl ?_
    refine j_getR (u := 3) hc dX11_victors_32 (fgC_X11_19_0 _) (rC_0_1 _) ?_
    refine j_getR (u := 4) hc dX11_victors_35 (fgC_X11_165_3 _) (rC_3_5 _) ?_
    refine j_iload_n hc dX11_victors_38 rfl ?_
    refine j_iaload (n := 8) hc dX11_victors_39 (kC_4 _) hf (fun v3 hf => ?_)
    refine j_iload_n hc dX11_victors_40 rfl ?_
    refine j_icmp_eq (tgt := 59) hc dX11_victors_41 rfl hf (fun hf => ?_) (fun hf => ?_)
    · exact j_sub (tX11_victors_t_b59 n d hc k19 hk19 _ _ _ _ _ hf) (And.intro rfl (And.intro rfl (And.intro rfl (trivial))))
    · refine j_aload_n hc dX11_victors_44 rfl ?_
      refine j_getR (u := 39) hc dX11_victors_45 (fgC_X11_56_0 _) (rC_0_6 _) ?_
      refine j_iload_n hc dX11_victors_48 rfl ?_
      refine j_callVI (t := 39) (As := [.int a3]) hc dX11_victors_49 kw_916 mX7_canGo (kC_39 _) clX7 rfl (by omega) (Nat.le_of_ble_eq_true rfl) (Nat.le_of_ble_eq_true rfl) ⟨Nat.le_refl _, Nat.le_refl _⟩ hf (fun v I' L' h => qX7_canGo x.2.1 n d a3 I L v I' L' h) (fun v4 I4 L4 hf => ?_)
      refine j_if_eq (tgt := 59) hc dX11_victors_52 rfl hf (fun hf => ?_) (fun hf => ?_)
      · exact j_sub (tX11_victors_t_b59 n d hc k19 hk19 _ _ _ _ _ hf) (And.intro rfl (And.intro rfl (And.intro rfl (trivial))))
      · refine j_iconst (v := (1 : Int32)) hc dX11_victors_55 ci_1 ?_
        refine j_goto (tgt := 60) hc dX11_victors_56 rfl ?_
        exact j_sub (tX11_victors_t_b60 n d hc k19 hk19 _ _ _ _ _ _ hf) (And.intro rfl (And.intro rfl (And.intro rfl (trivial))))

def fX11_victors_t_b19 (n d : Nat) : Nat → Int32 → Int32 → Int32 → am_I → am_L → Option (Int32 × am_I × am_L)
  | 0 => fun _ _ _ _ _ => none
  | m + 1 => fX11_victors_t_b19w n d  (fX11_victors_t_b19 n d m)

set_option maxRecDepth 100000 in
theorem tX11_victors_t_b19 {x : am_X} (n d : Nat) (hc : am_ok x cX11_victors yX11_victors 5 (some .int) (d + 8) 0 0) {r : Int32} {I' : am_I} {L' : am_L} (m : Nat) : ∀ (a1 : Int32) (a2 : Int32) (a3 : Int32) (I : am_I) (L : am_L) (hf : fX11_victors_t_b19 n d m a1 a2 a3 I L = some (r, I', L')), am_J x (fun S => S = (some (.int r), (KC true), (RC true), I', L')) 19 [some (.ref 0), some (.int a1), some (.int a2), some (.int a3), none] [] (KC true) (RC true) I L 0 0 := by
  induction m with
  | zero => intro a1 a2 a3 I L hf; exact (Option.some_ne_none _ hf.symm).elim
  | succ m ih => intro a1 a2 a3 I L hf; exact tX11_victors_t_b19w n d hc (fX11_victors_t_b19 n d m) ih a1 a2 a3 I L hf

set_option maxRecDepth 100000 in
def fX11_victors_t_b15 (n d : Nat) (a1 : Int32) (I : am_I) (L : am_L) : Option (Int32 × am_I × am_L) :=
  am_lt (0 : Int32) (fun v1 => am_lt (0 : Int32) (fun v2 => fX11_victors_t_b19 n d n a1 v1 v2 I L))

set_option maxRecDepth 100000 in
set_option maxHeartbeats 4000000 in
theorem tX11_victors_t_b15 {x : am_X} (n d : Nat) (hc : am_ok x cX11_victors yX11_victors 5 (some .int) (d + 8) 0 0) {r : Int32} {I' : am_I} {L' : am_L} (a1 : Int32) (I : am_I) (L : am_L) (hf : fX11_victors_t_b15 n d a1 I L = some (r, I', L')) : am_J x (fun S => S = (some (.int r), (KC true), (RC true), I', L')) 15 [some (.ref 0), some (.int a1), none, none, none] [] (KC true) (RC true) I L 0 0 := by
  unfold fX11_victors_t_b15 at hf
  refine j_iconst (v := (0 : Int32)) hc dX11_victors_15 ci_0 ?_
  refine j_istore_n hc dX11_victors_16 (Nat.le_of_ble_eq_true rfl) hf (fun v1 hf => ?_)
  refine j_iconst (v := (0 : Int32)) hc dX11_victors_17 ci_0 ?_
  refine j_istore_n hc dX11_victors_18 (Nat.le_of_ble_eq_true rfl) hf (fun v2 hf => ?_)
  exact j_sub (tX11_victors_t_b19 n d hc n _ _ _ _ _ hf) (And.intro rfl (And.intro rfl (And.intro rfl (And.intro rfl (trivial)))))

set_option maxRecDepth 100000 in
def fX11_victors_t (n d : Nat) (a1 : Int32) (I : am_I) (L : am_L) : Option (Int32 × am_I × am_L) :=
  am_b3 (fX11_isSideOfWar n d a1 I L) (fun v1 I1 L1 => if v1 = 0 then
    (some ((-1 : Int32), I1, L1))
    else
    (am_b2 (fX11_countWins_t n d a1 I1 L1) (fun I2 L2 => fX11_victors_t_b15 n d a1 I2 L2)))

set_option maxRecDepth 100000 in
set_option maxHeartbeats 4000000 in
theorem tX11_victors_t {x : am_X} (n d : Nat) (hc : am_ok x cX11_victors yX11_victors 5 (some .int) (d + 8) 0 0) {r : Int32} {I' : am_I} {L' : am_L} (a1 : Int32) (I : am_I) (L : am_L) (hf : fX11_victors_t n d a1 I L = some (r, I', L')) : am_J x (fun S => S = (some (.int r), (KC true), (RC true), I', L')) 0 [some (.ref 0), some (.int a1), none, none, none] [] (KC true) (RC true) I L 0 0 := by
  unfold fX11_victors_t at hf
  refine j_aload_n hc dX11_victors_0 rfl ?_
  refine j_iload_n hc dX11_victors_1 rfl ?_
  refine j_callVI (t := 0) (As := [.int a1]) hc dX11_victors_2 kw_1152 mX11_isSideOfWar (kC_0 _) clX11 rfl (by omega) (Nat.le_of_ble_eq_true rfl) (Nat.le_of_ble_eq_true rfl) ⟨Nat.le_refl _, Nat.le_refl _⟩ hf (fun v I' L' h => qX11_isSideOfWar x.2.1 n d a1 I L v I' L' h) (fun v1 I1 L1 hf => ?_)
  refine j_if_ne (tgt := 10) hc dX11_victors_5 rfl hf (fun hf => ?_) (fun hf => ?_)
  · refine j_aload_n hc dX11_victors_10 rfl ?_
    refine j_iload_n hc dX11_victors_11 rfl ?_
    refine j_callVV (t := 0) (As := [.int a1]) hc dX11_victors_12 kw_1156 mX11_countWins (kC_0 _) clX11 rfl (by omega) (Nat.le_of_ble_eq_true rfl) (Nat.le_of_ble_eq_true rfl) ⟨Nat.le_refl _, Nat.le_refl _⟩ hf (fun I' L' h => qX11_countWins_t x.2.1 n d a1 I1 L1 I' L' h) (fun I2 L2 hf => ?_)
    exact j_sub (tX11_victors_t_b15 n d hc _ _ _ hf) (And.intro rfl (And.intro rfl (trivial)))
  · refine j_iconst (v := (-1 : Int32)) hc dX11_victors_8 ci_m1 ?_
    exact j_ireturn hc dX11_victors_9 rfl rfl hf

set_option maxRecDepth 100000 in
theorem qX11_victors_t (l : Launch) (n d : Nat) (a1 : Int32) (I : am_I) (L : am_L) (r : Int32) (I' : am_I) (L' : am_L) (hf : fX11_victors_t n d a1 I L = some (r, I', L')) : am_C l yX11_victors cX11_victors 5 (some .int) (d + 8) [.ref 0, .int a1] (KC true) (RC true) I L (some (.int r)) I' L' := by
  exact am_intro (plainFor_of_name plX11) (fun _ _ => trivial) (Nat.le_of_ble_eq_true rfl) (fun x hl hc => by subst hl; exact j_sub (tX11_victors_t n d hc _ _ _ hf) (And.intro rfl (And.intro rfl (trivial))))
