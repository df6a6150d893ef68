/-! THE MACHINE: the methods that may make the duels' rows (written by gene.py). -/
abbrev am_rcl : List (Nat × Nat × Nat) := [(0, 13, 66), (0, 12, 65), (0, 11, 60), (60, 3, 64), (60, 2, 63), (60, 1, 62), (60, 0, 61), (0, 10, 58), (58, 1, 39), (58, 0, 3), (58, 2, 59), (0, 9, 51), (51, 5, 57), (51, 4, 56), (51, 3, 55), (51, 2, 54), (51, 1, 53), (51, 0, 52), (0, 8, 45), (45, 4, 50), (45, 3, 49), (45, 2, 48), (45, 1, 47), (45, 0, 46), (0, 7, 42), (42, 1, 44), (42, 0, 43), (0, 6, 39), (39, 1, 29), (39, 0, 3), (39, 3, 41), (39, 2, 40), (0, 5, 29), (29, 4, 38), (29, 3, 37), (29, 2, 36), (29, 1, 35), (29, 0, 30), (30, 3, 34), (30, 2, 33), (30, 1, 32), (30, 0, 31), (0, 4, 27), (27, 0, 1), (27, 1, 28), (0, 3, 25), (25, 1, 14), (25, 0, 1), (25, 2, 26), (0, 2, 14), (14, 14, 24), (14, 13, 23), (14, 12, 22), (14, 11, 21), (14, 10, 20), (14, 9, 19), (14, 8, 18), (14, 7, 17), (14, 6, 16), (14, 5, 15), (0, 1, 3), (3, 14, 13), (3, 13, 12), (3, 12, 11), (3, 11, 10), (3, 10, 9), (3, 9, 8), (3, 8, 7), (3, 7, 6), (3, 6, 5), (3, 5, 4), (0, 0, 1), (1, 0, 2)]
set_option maxRecDepth 100000 in
set_option maxHeartbeats 4000000 in
theorem tX0_prepare_u_b78 {x : am_X} (n d mc ms : Nat) (hc : am_ok x cX0_prepare yX0_prepare 6 none (d + 4) mc ms) {I' : am_I} {L' : am_L} (a1 : Int32) (a2 : Int32) (a3 : Int32) (a4 : Int32) (I : am_I) (L : am_L) (hf : fX0_prepare_t_b78 n d a1 a2 a3 a4 I L = some (I', L')) : am_J x (fun S => S = (none, (KC true), (RC true), I', L')) 78 [some (.ref 51), some (.int a1), some (.int a2), some (.int a3), some (.int a4), none] [] (KC true) (RC true) I L mc ms := by
  unfold fX0_prepare_t_b78 at hf
  refine j_aload_n hc dX0_prepare_78 rfl ?_
  refine j_iload_n hc dX0_prepare_79 rfl ?_
  refine j_putI hc dX0_prepare_80 (fpC_X0_38_51 _) rfl rfl hf (fun I1 hf => ?_)
  refine j_aload_n hc dX0_prepare_83 rfl ?_
  refine j_iload_n hc dX0_prepare_84 rfl ?_
  refine j_putI hc dX0_prepare_85 (fpC_X0_42_51 _) rfl rfl hf (fun I2 hf => ?_)
  refine j_aload_n hc dX0_prepare_88 rfl ?_
  refine j_iload_n hc dX0_prepare_89 rfl ?_
  refine j_bipush (v := (74 : Int32)) hc dX0_prepare_90 cb_74 ?_
  refine j_callSI (As := [.int a3, .int (74 : Int32)]) hc dX0_prepare_92 kw_1107 mJ9_min_7cf53  rfl (by omega) (Nat.le_of_ble_eq_true rfl) (Nat.le_of_ble_eq_true rfl) ⟨Nat.le_refl _, Nat.le_refl _⟩ hf (fun v I' L' h => qJ9_min_7cf53 x.2.1 n d a3 (74 : Int32) I2 L v I' L' h) (fun v3 I3 L3 hf => ?_)
  refine j_putI hc dX0_prepare_95 (fpC_X0_45_51 _) rfl rfl hf (fun I4 hf => ?_)
  refine j_aload_n hc dX0_prepare_98 rfl ?_
  refine j_iload hc dX0_prepare_99 rfl ?_
  refine j_bipush (v := (74 : Int32)) hc dX0_prepare_101 cb_74 ?_
  refine j_callSI (As := [.int a4, .int (74 : Int32)]) hc dX0_prepare_103 kw_1107 mJ9_min_7cf53  rfl (by omega) (Nat.le_of_ble_eq_true rfl) (Nat.le_of_ble_eq_true rfl) ⟨Nat.le_refl _, Nat.le_refl _⟩ hf (fun v I' L' h => qJ9_min_7cf53 x.2.1 n d a4 (74 : Int32) I4 L3 v I' L' h) (fun v5 I5 L5 hf => ?_)
  refine j_putI hc dX0_prepare_106 (fpC_X0_48_51 _) rfl rfl hf (fun I6 hf => ?_)
  refine j_aload_n hc dX0_prepare_109 rfl ?_
  refine j_aload_n hc dX0_prepare_110 rfl ?_
  refine j_getR (u := 56) hc dX0_prepare_111 (fgC_X0_26_51 _) (rC_51_4 _) ?_
  refine j_iload_n hc dX0_prepare_114 rfl ?_
  refine j_callVV (t := 51) (As := [.ref 56, .int a1]) hc dX0_prepare_115 kw_1108 mX0_findPressed (kC_51 _) clX0 rfl (by omega) (Nat.le_of_ble_eq_true rfl) (Nat.le_of_ble_eq_true rfl) ⟨Nat.le_refl _, Nat.le_refl _⟩ hf (fun I' L' h => qX0_findPressed_c51_pressedByFirst x.2.1 n d a1 I6 L5 I' L' h) (fun I7 L7 hf => ?_)
  refine j_aload_n hc dX0_prepare_118 rfl ?_
  refine j_aload_n hc dX0_prepare_119 rfl ?_
  refine j_getR (u := 57) hc dX0_prepare_120 (fgC_X0_29_51 _) (rC_51_5 _) ?_
  refine j_iload_n hc dX0_prepare_123 rfl ?_
  refine j_callVV (t := 51) (As := [.ref 57, .int a2]) hc dX0_prepare_124 kw_1108 mX0_findPressed (kC_51 _) clX0 rfl (by omega) (Nat.le_of_ble_eq_true rfl) (Nat.le_of_ble_eq_true rfl) ⟨Nat.le_refl _, Nat.le_refl _⟩ hf (fun I' L' h => qX0_findPressed_c51_pressedByOther x.2.1 n d a2 I7 L7 I' L' h) (fun I8 L8 hf => ?_)
  refine j_aload_n hc dX0_prepare_127 rfl ?_
  refine j_callVV (t := 51) (As := []) hc dX0_prepare_128 kw_1113 mX0_settleAll (kC_51 _) clX0 rfl (by omega) (Nat.le_of_ble_eq_true rfl) (Nat.le_of_ble_eq_true rfl) ⟨Nat.le_refl _, Nat.le_refl _⟩ hf (fun I' L' h => qX0_settleAll_t x.2.1 n d I8 L8 I' L' h) (fun I9 L9 hf => ?_)
  exact j_return hc dX0_prepare_131 rfl rfl hf

set_option maxRecDepth 100000 in
set_option maxHeartbeats 4000000 in
theorem tX11_makeDuelReady_u_b42 {x : am_X} (n d mc ms : Nat) (hc : am_ok x cX11_makeDuelReady yX11_makeDuelReady 5 none (d + 5) mc ms) {I' : am_I} {L' : am_L} (I : am_I) (L : am_L) (hf : fX11_makeDuelReady_t_b42 n d I L = some (I', L')) : am_J x (fun S => S = (none, (KC true), (RC true), I', L')) 42 [none, none, none, none, none] [] (KC true) (RC true) I L mc ms := by
  unfold fX11_makeDuelReady_t_b42 at hf
  exact j_return hc dX11_makeDuelReady_42 rfl rfl hf

set_option maxRecDepth 100000 in
set_option maxHeartbeats 4000000 in
theorem tX11_duel_u_b94 {x : am_X} (n d mc ms : Nat) (hc : am_ok x cX11_duel yX11_duel 6 (some .int) (d + 6) mc ms) {r : Int32} {I' : am_I} {L' : am_L} (s0 : Int32) (I : am_I) (L : am_L) (hf : fX11_duel_t_b94 n d s0 I L = some (r, I', L')) : am_J x (fun S => S = (some (.int r), (KC true), (RC true), I', L')) 94 [none, none, none, none, none, none] [.int s0] (KC true) (RC true) I L mc ms := by
  unfold fX11_duel_t_b94 at hf
  exact j_ireturn hc dX11_duel_94 rfl rfl hf

set_option maxRecDepth 100000 in
set_option maxHeartbeats 4000000 in
theorem tX11_duel_u_b80 {x : am_X} (n d mc ms : Nat) (hc : am_ok x cX11_duel yX11_duel 6 (some .int) (d + 6) mc ms) {r : Int32} {I' : am_I} {L' : am_L} (s0 : Int32) (I : am_I) (L : am_L) (hf : fX11_duel_t_b80 n d s0 I L = some (r, I', L')) : am_J x (fun S => S = (some (.int r), (KC true), (RC true), I', L')) 80 [none, none, none, none, none, none] [.int s0] (KC true) (RC true) I L mc ms := by
  unfold fX11_duel_t_b80 at hf
  refine j_goto (tgt := 94) hc dX11_duel_80 rfl ?_
  exact j_sub (tX11_duel_u_b94 n d mc ms hc _ _ _ hf) (trivial)

set_option maxRecDepth 100000 in
set_option maxHeartbeats 4000000 in
theorem tX11_duel_u_b55 {x : am_X} (n d mc ms : Nat) (hc : am_ok x cX11_duel yX11_duel 6 (some .int) (d + 6) mc ms) {r : Int32} {I' : am_I} {L' : am_L} (s0 : Int32) (I : am_I) (L : am_L) (hf : fX11_duel_t_b55 n d s0 I L = some (r, I', L')) : am_J x (fun S => S = (some (.int r), (KC true), (RC true), I', L')) 55 [none, none, none, none, none, none] [.int s0] (KC true) (RC true) I L mc ms := by
  unfold fX11_duel_t_b55 at hf
  refine j_if_eq (tgt := 62) hc dX11_duel_55 rfl hf (fun hf => ?_) (fun hf => ?_)
  · refine j_iconst (v := (0 : Int32)) hc dX11_duel_62 ci_0 ?_
    exact j_ireturn hc dX11_duel_63 rfl rfl hf
  · refine j_iconst (v := (1 : Int32)) hc dX11_duel_58 ci_1 ?_
    refine j_goto (tgt := 63) hc dX11_duel_59 rfl ?_
    exact j_ireturn hc dX11_duel_63 rfl rfl hf

set_option maxRecDepth 100000 in
set_option maxHeartbeats 4000000 in
theorem tX11_duel_u_b26 {x : am_X} (n d mc ms : Nat) (hc : am_ok x cX11_duel yX11_duel 6 (some .int) (d + 6) mc ms) {r : Int32} {I' : am_I} {L' : am_L} (a1 : Int32) (a2 : Int32) (a3 : Int32) (I : am_I) (L : am_L) (hf : fX11_duel_t_b26 n d a1 a2 a3 I L = some (r, I', L')) : am_J x (fun S => S = (some (.int r), (KC true), (RC true), I', L')) 26 [some (.ref 0), some (.int a1), some (.int a2), some (.int a3), none, none] [] (KC true) (RC true) I L mc ms := by
  unfold fX11_duel_t_b26 at hf
  refine j_aload_n hc dX11_duel_26 rfl ?_
  refine j_iload_n hc dX11_duel_27 rfl ?_
  refine j_callVI (t := 0) (As := [.int a1]) hc dX11_duel_28 kw_1094 mX11_placeOf (kC_0 _) clX11 rfl (by omega) (Nat.le_of_ble_eq_true rfl) (Nat.le_of_ble_eq_true rfl) ⟨Nat.le_refl _, Nat.le_refl _⟩ hf (fun v I' L' h => qX11_placeOf x.2.1 n d a1 I L v I' L' h) (fun v1 I1 L1 hf => ?_)
  refine j_istore hc dX11_duel_31 (Nat.le_of_ble_eq_true rfl) hf (fun v2 hf => ?_)
  refine j_aload_n hc dX11_duel_33 rfl ?_
  refine j_iload_n hc dX11_duel_34 rfl ?_
  refine j_callVI (t := 0) (As := [.int a2]) hc dX11_duel_35 kw_1094 mX11_placeOf (kC_0 _) clX11 rfl (by omega) (Nat.le_of_ble_eq_true rfl) (Nat.le_of_ble_eq_true rfl) ⟨Nat.le_refl _, Nat.le_refl _⟩ hf (fun v I' L' h => qX11_placeOf x.2.1 n d a2 I1 L1 v I' L' h) (fun v3 I3 L3 hf => ?_)
  refine j_istore hc dX11_duel_38 (Nat.le_of_ble_eq_true rfl) hf (fun v4 hf => ?_)
  refine j_iload_n hc dX11_duel_40 rfl ?_
  refine j_if_ne (tgt := 64) hc dX11_duel_41 rfl hf (fun hf => ?_) (fun hf => ?_)
  · refine j_iload_n hc dX11_duel_64 rfl ?_
    refine j_iconst (v := (1 : Int32)) hc dX11_duel_65 ci_1 ?_
    refine j_icmp_ne (tgt := 83) hc dX11_duel_66 rfl hf (fun hf => ?_) (fun hf => ?_)
    · refine j_aload_n hc dX11_duel_83 rfl ?_
      refine j_getR (u := 51) hc dX11_duel_84 (fgC_X11_77_0 _) (rC_0_9 _) ?_
      refine j_iload hc dX11_duel_87 rfl ?_
      refine j_iload hc dX11_duel_89 rfl ?_
      refine j_callVI (t := 51) (As := [.int v2, .int v4]) hc dX11_duel_91 kw_1139 mX0_deed (kC_51 _) clX0 rfl (by omega) (Nat.le_of_ble_eq_true rfl) (Nat.le_of_ble_eq_true rfl) ⟨Nat.le_refl _, Nat.le_refl _⟩ hf (fun v I' L' h => qX0_deed_t x.2.1 n d v2 v4 I3 L3 v I' L' h) (fun v5 I5 L5 hf => ?_)
      exact j_sub (tX11_duel_u_b94 n d mc ms hc _ _ _ hf) (trivial)
    · refine j_aload_n hc dX11_duel_69 rfl ?_
      refine j_getR (u := 51) hc dX11_duel_70 (fgC_X11_77_0 _) (rC_0_9 _) ?_
      refine j_iload hc dX11_duel_73 rfl ?_
      refine j_iload hc dX11_duel_75 rfl ?_
      refine j_callVI (t := 51) (As := [.int v2, .int v4]) hc dX11_duel_77 kw_1132 mX0_turns (kC_51 _) clX0 rfl (by omega) (Nat.le_of_ble_eq_true rfl) (Nat.le_of_ble_eq_true rfl) ⟨Nat.le_refl _, Nat.le_refl _⟩ hf (fun v I' L' h => qX0_turns_t x.2.1 n d v2 v4 I3 L3 v I' L' h) (fun v6 I6 L6 hf => ?_)
      exact j_sub (tX11_duel_u_b80 n d mc ms hc _ _ _ hf) (trivial)
  · refine j_aload_n hc dX11_duel_44 rfl ?_
    refine j_getR (u := 51) hc dX11_duel_45 (fgC_X11_77_0 _) (rC_0_9 _) ?_
    refine j_iload hc dX11_duel_48 rfl ?_
    refine j_iload hc dX11_duel_50 rfl ?_
    refine j_callVI (t := 51) (As := [.int v2, .int v4]) hc dX11_duel_52 kw_1124 mX0_isWon (kC_51 _) clX0 rfl (by omega) (Nat.le_of_ble_eq_true rfl) (Nat.le_of_ble_eq_true rfl) ⟨Nat.le_refl _, Nat.le_refl _⟩ hf (fun v I' L' h => qX0_isWon_t x.2.1 n d v2 v4 I3 L3 v I' L' h) (fun v7 I7 L7 hf => ?_)
    exact j_sub (tX11_duel_u_b55 n d mc ms hc _ _ _ hf) (trivial)

set_option maxRecDepth 100000 in
set_option maxHeartbeats 4000000 in
theorem tX11_treaty_u_b99 {x : am_X} (n d mc ms : Nat) (hc : am_ok x cX11_treaty yX11_treaty 9 (some .int) (d + 6) mc ms) {r : Int32} {I' : am_I} {L' : am_L} (k76 : Int32 → Int32 → Int32 → Int32 → Int32 → Int32 → am_I → am_L → Option (Int32 × am_I × am_L)) (hk76 : ∀ (a3 : Int32) (a4 : Int32) (a5 : Int32) (a6 : Int32) (a7 : Int32) (a8 : Int32) (I : am_I) (L : am_L), k76 a3 a4 a5 a6 a7 a8 I L = some (r, I', L') → am_J x (fun S => S = (some (.int r), (KC true), (RC true), I', L')) 76 [some (.ref 0), none, none, some (.int a3), some (.int a4), some (.int a5), some (.int a6), some (.int a7), some (.int a8)] [] (KC true) (RC true) I L mc ms) (s0 : Int32) (a3 : Int32) (a4 : Int32) (a5 : Int32) (a6 : Int32) (a7 : Int32) (a8 : Int32) (I : am_I) (L : am_L) (hf : fX11_treaty_t_b99 n d k76 s0 a3 a4 a5 a6 a7 a8 I L = some (r, I', L')) : am_J x (fun S => S = (some (.int r), (KC true), (RC true), I', L')) 99 [some (.ref 0), none, none, some (.int a3), some (.int a4), some (.int a5), some (.int a6), some (.int a7), some (.int a8)] [.int s0] (KC true) (RC true) I L mc ms := by
  unfold fX11_treaty_t_b99 at hf
  refine j_iload hc dX11_treaty_99 rfl ?_
  refine j_icmp_ne (tgt := 114) hc dX11_treaty_101 rfl hf (fun hf => ?_) (fun hf => ?_)
  · refine j_iload hc dX11_treaty_114 rfl ?_
    exact j_ireturn hc dX11_treaty_116 rfl rfl hf
  · refine j_iload hc dX11_treaty_104 rfl ?_
    refine j_istore hc dX11_treaty_106 (Nat.le_of_ble_eq_true rfl) hf (fun v1 hf => ?_)
    refine j_iinc (w := (1 : Int32)) hc dX11_treaty_108 rfl ci_1 (Nat.le_of_ble_eq_true rfl) hf (fun v2 hf => ?_)
    refine j_goto (tgt := 76) hc dX11_treaty_111 rfl ?_
    exact j_sub (hk76 _ _ _ _ _ _ _ _ hf) (And.intro rfl (And.intro rfl (And.intro rfl (And.intro rfl (And.intro rfl (And.intro rfl (And.intro rfl (trivial))))))))

set_option maxRecDepth 100000 in
set_option maxHeartbeats 4000000 in
theorem tX11_treaty_u_b76w {x : am_X} (n d mc ms : Nat) (hc : am_ok x cX11_treaty yX11_treaty 9 (some .int) (d + 6) mc ms) {r : Int32} {I' : am_I} {L' : am_L} (k76 : Int32 → Int32 → Int32 → Int32 → Int32 → Int32 → am_I → am_L → Option (Int32 × am_I × am_L)) (hk76 : ∀ (a3 : Int32) (a4 : Int32) (a5 : Int32) (a6 : Int32) (a7 : Int32) (a8 : Int32) (I : am_I) (L : am_L), k76 a3 a4 a5 a6 a7 a8 I L = some (r, I', L') → am_J x (fun S => S = (some (.int r), (KC true), (RC true), I', L')) 76 [some (.ref 0), none, none, some (.int a3), some (.int a4), some (.int a5), some (.int a6), some (.int a7), some (.int a8)] [] (KC true) (RC true) I L mc ms) (a3 : Int32) (a4 : Int32) (a5 : Int32) (a6 : Int32) (a7 : Int32) (a8 : Int32) (I : am_I) (L : am_L) (hf : fX11_treaty_t_b76w n d k76 a3 a4 a5 a6 a7 a8 I L = some (r, I', L')) : am_J x (fun S => S = (some (.int r), (KC true), (RC true), I', L')) 76 [some (.ref 0), none, none, some (.int a3), some (.int a4), some (.int a5), some (.int a6), some (.int a7), some (.int a8)] [] (KC true) (RC true) I L mc ms := by
  unfold fX11_treaty_t_b76w at hf
  refine j_iload hc dX11_treaty_76 rfl ?_
  refine j_iload hc dX11_treaty_78 rfl ?_
  refine j_icmp_gt (tgt := 114) hc dX11_treaty_80 rfl hf (fun hf => ?_) (fun hf => ?_)
  · refine j_iload hc dX11_treaty_114 rfl ?_
    exact j_ireturn hc dX11_treaty_116 rfl rfl hf
  · refine j_aload_n hc dX11_treaty_83 rfl ?_
    refine j_getR (u := 51) hc dX11_treaty_84 (fgC_X11_77_0 _) (rC_0_9 _) ?_
    refine j_iload_n hc dX11_treaty_87 rfl ?_
    refine j_iload hc dX11_treaty_88 rfl ?_
    refine j_isub hc dX11_treaty_90 ?_
    refine j_iload hc dX11_treaty_91 rfl ?_
    refine j_iload hc dX11_treaty_93 rfl ?_
    refine j_isub hc dX11_treaty_95 ?_
    refine j_callVI (t := 51) (As := [.int (a3 - a8), .int (a4 - a8)]) hc dX11_treaty_96 kw_1124 mX0_isWon (kC_51 _) clX0 rfl (by omega) (Nat.le_of_ble_eq_true rfl) (Nat.le_of_ble_eq_true rfl) ⟨Nat.le_refl _, Nat.le_refl _⟩ hf (fun v I' L' h => qX0_isWon_t x.2.1 n d (a3 - a8) (a4 - a8) I L v I' L' h) (fun v1 I1 L1 hf => ?_)
    exact j_sub (tX11_treaty_u_b99 n d mc ms hc k76 hk76 _ _ _ _ _ _ _ _ _ hf) (And.intro rfl (And.intro rfl (And.intro rfl (And.intro rfl (And.intro rfl (And.intro rfl (And.intro rfl (trivial))))))))

set_option maxRecDepth 100000 in
set_option maxHeartbeats 4000000 in
theorem tX11_treaty_u_b76 {x : am_X} (n d mc ms : Nat) (hc : am_ok x cX11_treaty yX11_treaty 9 (some .int) (d + 6) mc ms) {r : Int32} {I' : am_I} {L' : am_L} (m : Nat) : ∀ (a3 : Int32) (a4 : Int32) (a5 : Int32) (a6 : Int32) (a7 : Int32) (a8 : Int32) (I : am_I) (L : am_L) (hf : fX11_treaty_t_b76 n d m a3 a4 a5 a6 a7 a8 I L = some (r, I', L')), am_J x (fun S => S = (some (.int r), (KC true), (RC true), I', L')) 76 [some (.ref 0), none, none, some (.int a3), some (.int a4), some (.int a5), some (.int a6), some (.int a7), some (.int a8)] [] (KC true) (RC true) I L mc ms := by
  induction m with
  | zero => intro a3 a4 a5 a6 a7 a8 I L hf; exact (Option.some_ne_none _ hf.symm).elim
  | succ m ih => intro a3 a4 a5 a6 a7 a8 I L hf; exact tX11_treaty_u_b76w n d mc ms hc (fX11_treaty_t_b76 n d m) ih a3 a4 a5 a6 a7 a8 I L hf

set_option maxRecDepth 100000 in
set_option maxHeartbeats 4000000 in
theorem tX11_treaty_u_b40 {x : am_X} (n d mc ms : Nat) (hc : am_ok x cX11_treaty yX11_treaty 9 (some .int) (d + 6) mc ms) {r : Int32} {I' : am_I} {L' : am_L} (s0 : Int32) (a1 : Int32) (a2 : Int32) (a3 : Int32) (a4 : Int32) (I : am_I) (L : am_L) (hf : fX11_treaty_t_b40 n d s0 a1 a2 a3 a4 I L = some (r, I', L')) : am_J x (fun S => S = (some (.int r), (KC true), (RC true), I', L')) 40 [some (.ref 0), some (.int a1), some (.int a2), some (.int a3), some (.int a4), none, none, none, none] [.int s0] (KC true) (RC true) I L mc ms := by
  unfold fX11_treaty_t_b40 at hf
  refine j_istore hc dX11_treaty_40 (Nat.le_of_ble_eq_true rfl) hf (fun v1 hf => ?_)
  refine j_bipush (v := (9 : Int32)) hc dX11_treaty_42 cb_9 ?_
  refine j_aload_n hc dX11_treaty_44 rfl ?_
  refine j_getR (u := 39) hc dX11_treaty_45 (fgC_X11_56_0 _) (rC_0_6 _) ?_
  refine j_getR (u := 41) hc dX11_treaty_48 (fgC_X11_183_39 _) (rC_39_3 _) ?_
  refine j_iload_n hc dX11_treaty_51 rfl ?_
  refine j_iaload (n := 8) hc dX11_treaty_52 (kC_41 _) hf (fun v2 hf => ?_)
  refine j_aload_n hc dX11_treaty_53 rfl ?_
  refine j_getR (u := 39) hc dX11_treaty_54 (fgC_X11_56_0 _) (rC_0_6 _) ?_
  refine j_getR (u := 41) hc dX11_treaty_57 (fgC_X11_183_39 _) (rC_39_3 _) ?_
  refine j_iload_n hc dX11_treaty_60 rfl ?_
  refine j_iaload (n := 8) hc dX11_treaty_61 (kC_41 _) hf (fun v3 hf => ?_)
  refine j_callSI (As := [.int v2, .int v3]) hc dX11_treaty_62 kw_1147 mJ9_min_7cf53  rfl (by omega) (Nat.le_of_ble_eq_true rfl) (Nat.le_of_ble_eq_true rfl) ⟨Nat.le_refl _, Nat.le_refl _⟩ hf (fun v I' L' h => qJ9_min_7cf53 x.2.1 n d v2 v3 I L v I' L' h) (fun v4 I4 L4 hf => ?_)
  refine j_callSI (As := [.int (9 : Int32), .int v4]) hc dX11_treaty_65 kw_1147 mJ9_min_7cf53  rfl (by omega) (Nat.le_of_ble_eq_true rfl) (Nat.le_of_ble_eq_true rfl) ⟨Nat.le_refl _, Nat.le_refl _⟩ hf (fun v I' L' h => qJ9_min_7cf53 x.2.1 n d (9 : Int32) v4 I4 L4 v I' L' h) (fun v5 I5 L5 hf => ?_)
  refine j_istore hc dX11_treaty_68 (Nat.le_of_ble_eq_true rfl) hf (fun v6 hf => ?_)
  refine j_iconst (v := (0 : Int32)) hc dX11_treaty_70 ci_0 ?_
  refine j_istore hc dX11_treaty_71 (Nat.le_of_ble_eq_true rfl) hf (fun v7 hf => ?_)
  refine j_iconst (v := (1 : Int32)) hc dX11_treaty_73 ci_1 ?_
  refine j_istore hc dX11_treaty_74 (Nat.le_of_ble_eq_true rfl) hf (fun v8 hf => ?_)
  exact j_sub (tX11_treaty_u_b76 n d mc ms hc n _ _ _ _ _ _ _ _ hf) (And.intro rfl (And.intro rfl (And.intro rfl (And.intro rfl (And.intro rfl (And.intro rfl (And.intro rfl (trivial))))))))

set_option maxRecDepth 100000 in
set_option maxHeartbeats 4000000 in
theorem tX11_treaty_u_b17 {x : am_X} (n d mc ms : Nat) (hc : am_ok x cX11_treaty yX11_treaty 9 (some .int) (d + 6) mc ms) {r : Int32} {I' : am_I} {L' : am_L} (a1 : Int32) (a2 : Int32) (I : am_I) (L : am_L) (hf : fX11_treaty_t_b17 n d a1 a2 I L = some (r, I', L')) : am_J x (fun S => S = (some (.int r), (KC true), (RC true), I', L')) 17 [some (.ref 0), some (.int a1), some (.int a2), none, none, none, none, none, none] [] (KC true) (RC true) I L mc ms := by
  unfold fX11_treaty_t_b17 at hf
  refine j_aload_n hc dX11_treaty_17 rfl ?_
  refine j_iload_n hc dX11_treaty_18 rfl ?_
  refine j_callVI (t := 0) (As := [.int a1]) hc dX11_treaty_19 kw_1094 mX11_placeOf (kC_0 _) clX11 rfl (by omega) (Nat.le_of_ble_eq_true rfl) (Nat.le_of_ble_eq_true rfl) ⟨Nat.le_refl _, Nat.le_refl _⟩ hf (fun v I' L' h => qX11_placeOf x.2.1 n d a1 I L v I' L' h) (fun v1 I1 L1 hf => ?_)
  refine j_istore_n hc dX11_treaty_22 (Nat.le_of_ble_eq_true rfl) hf (fun v2 hf => ?_)
  refine j_aload_n hc dX11_treaty_23 rfl ?_
  refine j_iload_n hc dX11_treaty_24 rfl ?_
  refine j_callVI (t := 0) (As := [.int a2]) hc dX11_treaty_25 kw_1094 mX11_placeOf (kC_0 _) clX11 rfl (by omega) (Nat.le_of_ble_eq_true rfl) (Nat.le_of_ble_eq_true rfl) ⟨Nat.le_refl _, Nat.le_refl _⟩ hf (fun v I' L' h => qX11_placeOf x.2.1 n d a2 I1 L1 v I' L' h) (fun v3 I3 L3 hf => ?_)
  refine j_istore hc dX11_treaty_28 (Nat.le_of_ble_eq_true rfl) hf (fun v4 hf => ?_)
  refine j_aload_n hc dX11_treaty_30 rfl ?_
  refine j_getR (u := 51) hc dX11_treaty_31 (fgC_X11_77_0 _) (rC_0_9 _) ?_
  refine j_iload_n hc dX11_treaty_34 rfl ?_
  refine j_iload hc dX11_treaty_35 rfl ?_
  refine j_callVI (t := 51) (As := [.int v2, .int v4]) hc dX11_treaty_37 kw_1124 mX0_isWon (kC_51 _) clX0 rfl (by omega) (Nat.le_of_ble_eq_true rfl) (Nat.le_of_ble_eq_true rfl) ⟨Nat.le_refl _, Nat.le_refl _⟩ hf (fun v I' L' h => qX0_isWon_t x.2.1 n d v2 v4 I3 L3 v I' L' h) (fun v5 I5 L5 hf => ?_)
  exact j_sub (tX11_treaty_u_b40 n d mc ms hc _ _ _ _ _ _ _ hf) (And.intro rfl (And.intro rfl (And.intro rfl (And.intro rfl (And.intro rfl (trivial))))))

set_option maxRecDepth 100000 in
set_option maxHeartbeats 4000000 in
theorem tX11_countWinsOfSpeeds_u_b173 {x : am_X} (n d mc ms : Nat) (hc : am_ok x cX11_countWinsOfSpeeds yX11_countWinsOfSpeeds 7 none (d + 6) mc ms) {I' : am_I} {L' : am_L} (k3 : Int32 → Int32 → Int32 → Int32 → am_I → am_L → Option (am_I × am_L)) (hk3 : ∀ (a1 : Int32) (a2 : Int32) (a3 : Int32) (a4 : Int32) (I : am_I) (L : am_L), k3 a1 a2 a3 a4 I L = some (I', L') → am_J x (fun S => S = (none, (KC true), (RC true), I', L')) 3 [some (.ref 0), some (.int a1), some (.int a2), some (.int a3), some (.int a4), none, none] [] (KC true) (RC true) I L mc ms) (a1 : Int32) (a2 : Int32) (a3 : Int32) (a4 : Int32) (I : am_I) (L : am_L) (hf : fX11_countWinsOfSpeeds_t_b173 n d k3 a1 a2 a3 a4 I L = some (I', L')) : am_J x (fun S => S = (none, (KC true), (RC true), I', L')) 173 [some (.ref 0), some (.int a1), some (.int a2), some (.int a3), some (.int a4), none, none] [] (KC true) (RC true) I L mc ms := by
  unfold fX11_countWinsOfSpeeds_t_b173 at hf
  refine j_iinc (w := (1 : Int32)) hc dX11_countWinsOfSpeeds_173 rfl ci_1 (Nat.le_of_ble_eq_true rfl) hf (fun v1 hf => ?_)
  refine j_goto (tgt := 3) hc dX11_countWinsOfSpeeds_176 rfl ?_
  exact j_sub (hk3 _ _ _ _ _ _ hf) (And.intro rfl (And.intro rfl (And.intro rfl (And.intro rfl (And.intro rfl (trivial))))))

set_option maxRecDepth 100000 in
set_option maxHeartbeats 4000000 in
theorem tX11_countWinsOfSpeeds_u_b167 {x : am_X} (n d mc ms : Nat) (hc : am_ok x cX11_countWinsOfSpeeds yX11_countWinsOfSpeeds 7 none (d + 6) mc ms) {I' : am_I} {L' : am_L} (k3 : Int32 → Int32 → Int32 → Int32 → am_I → am_L → Option (am_I × am_L)) (k65 : Int32 → Int32 → Int32 → Int32 → Int32 → Int32 → am_I → am_L → Option (am_I × am_L)) (hk3 : ∀ (a1 : Int32) (a2 : Int32) (a3 : Int32) (a4 : Int32) (I : am_I) (L : am_L), k3 a1 a2 a3 a4 I L = some (I', L') → am_J x (fun S => S = (none, (KC true), (RC true), I', L')) 3 [some (.ref 0), some (.int a1), some (.int a2), some (.int a3), some (.int a4), none, none] [] (KC true) (RC true) I L mc ms) (hk65 : ∀ (a1 : Int32) (a2 : Int32) (a3 : Int32) (a4 : Int32) (a5 : Int32) (a6 : Int32) (I : am_I) (L : am_L), k65 a1 a2 a3 a4 a5 a6 I L = some (I', L') → am_J x (fun S => S = (none, (KC true), (RC true), I', L')) 65 [some (.ref 0), some (.int a1), some (.int a2), some (.int a3), some (.int a4), some (.int a5), some (.int a6)] [] (KC true) (RC true) I L mc ms) (a1 : Int32) (a2 : Int32) (a3 : Int32) (a4 : Int32) (a5 : Int32) (a6 : Int32) (I : am_I) (L : am_L) (hf : fX11_countWinsOfSpeeds_t_b167 n d k3 k65 a1 a2 a3 a4 a5 a6 I L = some (I', L')) : am_J x (fun S => S = (none, (KC true), (RC true), I', L')) 167 [some (.ref 0), some (.int a1), some (.int a2), some (.int a3), some (.int a4), some (.int a5), some (.int a6)] [] (KC true) (RC true) I L mc ms := by
  unfold fX11_countWinsOfSpeeds_t_b167 at hf
  refine j_iinc (w := (1 : Int32)) hc dX11_countWinsOfSpeeds_167 rfl ci_1 (Nat.le_of_ble_eq_true rfl) hf (fun v1 hf => ?_)
  refine j_goto (tgt := 65) hc dX11_countWinsOfSpeeds_170 rfl ?_
  exact j_sub (hk65 _ _ _ _ _ _ _ _ hf) (And.intro rfl (And.intro rfl (And.intro rfl (And.intro rfl (And.intro rfl (And.intro rfl (And.intro rfl (trivial))))))))

set_option maxRecDepth 100000 in
set_option maxHeartbeats 4000000 in
theorem tX11_countWinsOfSpeeds_u_b165 {x : am_X} (n d mc ms : Nat) (hc : am_ok x cX11_countWinsOfSpeeds yX11_countWinsOfSpeeds 7 none (d + 6) mc ms) {I' : am_I} {L' : am_L} (k3 : Int32 → Int32 → Int32 → Int32 → am_I → am_L → Option (am_I × am_L)) (k65 : Int32 → Int32 → Int32 → Int32 → Int32 → Int32 → am_I → am_L → Option (am_I × am_L)) (hk3 : ∀ (a1 : Int32) (a2 : Int32) (a3 : Int32) (a4 : Int32) (I : am_I) (L : am_L), k3 a1 a2 a3 a4 I L = some (I', L') → am_J x (fun S => S = (none, (KC true), (RC true), I', L')) 3 [some (.ref 0), some (.int a1), some (.int a2), some (.int a3), some (.int a4), none, none] [] (KC true) (RC true) I L mc ms) (hk65 : ∀ (a1 : Int32) (a2 : Int32) (a3 : Int32) (a4 : Int32) (a5 : Int32) (a6 : Int32) (I : am_I) (L : am_L), k65 a1 a2 a3 a4 a5 a6 I L = some (I', L') → am_J x (fun S => S = (none, (KC true), (RC true), I', L')) 65 [some (.ref 0), some (.int a1), some (.int a2), some (.int a3), some (.int a4), some (.int a5), some (.int a6)] [] (KC true) (RC true) I L mc ms) (s1 : Int32) (s2 : Int32) (s3 : Int32) (a1 : Int32) (a2 : Int32) (a3 : Int32) (a4 : Int32) (a5 : Int32) (a6 : Int32) (I : am_I) (L : am_L) (hf : fX11_countWinsOfSpeeds_t_b165 n d k3 k65 s1 s2 s3 a1 a2 a3 a4 a5 a6 I L = some (I', L')) : am_J x (fun S => S = (none, (KC true), (RC true), I', L')) 165 [some (.ref 0), some (.int a1), some (.int a2), some (.int a3), some (.int a4), some (.int a5), some (.int a6)] [.int s3, .int s2, .int s1, .ref 66] (KC true) (RC true) I L mc ms := by
  unfold fX11_countWinsOfSpeeds_t_b165 at hf
  refine j_iadd hc dX11_countWinsOfSpeeds_165 ?_
  refine j_iastore (n := 8) hc dX11_countWinsOfSpeeds_166 (kC_66 _) hf (fun I1 hf => ?_)
  exact j_sub (tX11_countWinsOfSpeeds_u_b167 n d mc ms hc k3 k65 hk3 hk65 _ _ _ _ _ _ _ _ hf) (And.intro rfl (And.intro rfl (And.intro rfl (And.intro rfl (And.intro rfl (And.intro rfl (And.intro rfl (trivial))))))))

set_option maxRecDepth 100000 in
set_option maxHeartbeats 4000000 in
theorem tX11_countWinsOfSpeeds_u_b157 {x : am_X} (n d mc ms : Nat) (hc : am_ok x cX11_countWinsOfSpeeds yX11_countWinsOfSpeeds 7 none (d + 6) mc ms) {I' : am_I} {L' : am_L} (k3 : Int32 → Int32 → Int32 → Int32 → am_I → am_L → Option (am_I × am_L)) (k65 : Int32 → Int32 → Int32 → Int32 → Int32 → Int32 → am_I → am_L → Option (am_I × am_L)) (hk3 : ∀ (a1 : Int32) (a2 : Int32) (a3 : Int32) (a4 : Int32) (I : am_I) (L : am_L), k3 a1 a2 a3 a4 I L = some (I', L') → am_J x (fun S => S = (none, (KC true), (RC true), I', L')) 3 [some (.ref 0), some (.int a1), some (.int a2), some (.int a3), some (.int a4), none, none] [] (KC true) (RC true) I L mc ms) (hk65 : ∀ (a1 : Int32) (a2 : Int32) (a3 : Int32) (a4 : Int32) (a5 : Int32) (a6 : Int32) (I : am_I) (L : am_L), k65 a1 a2 a3 a4 a5 a6 I L = some (I', L') → am_J x (fun S => S = (none, (KC true), (RC true), I', L')) 65 [some (.ref 0), some (.int a1), some (.int a2), some (.int a3), some (.int a4), some (.int a5), some (.int a6)] [] (KC true) (RC true) I L mc ms) (s1 : Int32) (s2 : Int32) (s3 : Int32) (a1 : Int32) (a2 : Int32) (a3 : Int32) (a4 : Int32) (a5 : Int32) (a6 : Int32) (I : am_I) (L : am_L) (hf : fX11_countWinsOfSpeeds_t_b157 n d k3 k65 s1 s2 s3 a1 a2 a3 a4 a5 a6 I L = some (I', L')) : am_J x (fun S => S = (none, (KC true), (RC true), I', L')) 157 [some (.ref 0), some (.int a1), some (.int a2), some (.int a3), some (.int a4), some (.int a5), some (.int a6)] [.int s3, .int s2, .int s1, .ref 66] (KC true) (RC true) I L mc ms := by
  unfold fX11_countWinsOfSpeeds_t_b157 at hf
  refine j_if_eq (tgt := 164) hc dX11_countWinsOfSpeeds_157 rfl hf (fun hf => ?_) (fun hf => ?_)
  · refine j_iconst (v := (0 : Int32)) hc dX11_countWinsOfSpeeds_164 ci_0 ?_
    exact j_sub (tX11_countWinsOfSpeeds_u_b165 n d mc ms hc k3 k65 hk3 hk65 _ _ _ _ _ _ _ _ _ _ _ hf) (And.intro rfl (And.intro rfl (And.intro rfl (And.intro rfl (And.intro rfl (And.intro rfl (And.intro rfl (trivial))))))))
  · refine j_iconst (v := (1 : Int32)) hc dX11_countWinsOfSpeeds_160 ci_1 ?_
    refine j_goto (tgt := 165) hc dX11_countWinsOfSpeeds_161 rfl ?_
    exact j_sub (tX11_countWinsOfSpeeds_u_b165 n d mc ms hc k3 k65 hk3 hk65 _ _ _ _ _ _ _ _ _ _ _ hf) (And.intro rfl (And.intro rfl (And.intro rfl (And.intro rfl (And.intro rfl (And.intro rfl (And.intro rfl (trivial))))))))

set_option maxRecDepth 100000 in
set_option maxHeartbeats 4000000 in
theorem tX11_countWinsOfSpeeds_u_b130 {x : am_X} (n d mc ms : Nat) (hc : am_ok x cX11_countWinsOfSpeeds yX11_countWinsOfSpeeds 7 none (d + 6) mc ms) {I' : am_I} {L' : am_L} (k3 : Int32 → Int32 → Int32 → Int32 → am_I → am_L → Option (am_I × am_L)) (k65 : Int32 → Int32 → Int32 → Int32 → Int32 → Int32 → am_I → am_L → Option (am_I × am_L)) (hk3 : ∀ (a1 : Int32) (a2 : Int32) (a3 : Int32) (a4 : Int32) (I : am_I) (L : am_L), k3 a1 a2 a3 a4 I L = some (I', L') → am_J x (fun S => S = (none, (KC true), (RC true), I', L')) 3 [some (.ref 0), some (.int a1), some (.int a2), some (.int a3), some (.int a4), none, none] [] (KC true) (RC true) I L mc ms) (hk65 : ∀ (a1 : Int32) (a2 : Int32) (a3 : Int32) (a4 : Int32) (a5 : Int32) (a6 : Int32) (I : am_I) (L : am_L), k65 a1 a2 a3 a4 a5 a6 I L = some (I', L') → am_J x (fun S => S = (none, (KC true), (RC true), I', L')) 65 [some (.ref 0), some (.int a1), some (.int a2), some (.int a3), some (.int a4), some (.int a5), some (.int a6)] [] (KC true) (RC true) I L mc ms) (a1 : Int32) (a2 : Int32) (a3 : Int32) (a4 : Int32) (a5 : Int32) (a6 : Int32) (I : am_I) (L : am_L) (hf : fX11_countWinsOfSpeeds_t_b130 n d k3 k65 a1 a2 a3 a4 a5 a6 I L = some (I', L')) : am_J x (fun S => S = (none, (KC true), (RC true), I', L')) 130 [some (.ref 0), some (.int a1), some (.int a2), some (.int a3), some (.int a4), some (.int a5), some (.int a6)] [] (KC true) (RC true) I L mc ms := by
  unfold fX11_countWinsOfSpeeds_t_b130 at hf
  refine j_aload_n hc dX11_countWinsOfSpeeds_130 rfl ?_
  refine j_getR (u := 66) hc dX11_countWinsOfSpeeds_131 (fgC_X11_101_0 _) (rC_0_13 _) ?_
  refine j_iload hc dX11_countWinsOfSpeeds_134 rfl ?_
  refine j_dup2 hc dX11_countWinsOfSpeeds_136 rfl rfl ?_
  refine j_iaload (n := 8) hc dX11_countWinsOfSpeeds_137 (kC_66 _) hf (fun v1 hf => ?_)
  refine j_aload_n hc dX11_countWinsOfSpeeds_138 rfl ?_
  refine j_getR (u := 51) hc dX11_countWinsOfSpeeds_139 (fgC_X11_77_0 _) (rC_0_9 _) ?_
  refine j_aload_n hc dX11_countWinsOfSpeeds_142 rfl ?_
  refine j_iload hc dX11_countWinsOfSpeeds_143 rfl ?_
  refine j_callVI (t := 0) (As := [.int a4]) hc dX11_countWinsOfSpeeds_145 kw_1094 mX11_placeOf (kC_0 _) clX11 rfl (by omega) (Nat.le_of_ble_eq_true rfl) (Nat.le_of_ble_eq_true rfl) ⟨Nat.le_refl _, Nat.le_refl _⟩ hf (fun v I' L' h => qX11_placeOf x.2.1 n d a4 I L v I' L' h) (fun v2 I2 L2 hf => ?_)
  refine j_aload_n hc dX11_countWinsOfSpeeds_148 rfl ?_
  refine j_iload hc dX11_countWinsOfSpeeds_149 rfl ?_
  refine j_callVI (t := 0) (As := [.int a6]) hc dX11_countWinsOfSpeeds_151 kw_1094 mX11_placeOf (kC_0 _) clX11 rfl (by omega) (Nat.le_of_ble_eq_true rfl) (Nat.le_of_ble_eq_true rfl) ⟨Nat.le_refl _, Nat.le_refl _⟩ hf (fun v I' L' h => qX11_placeOf x.2.1 n d a6 I2 L2 v I' L' h) (fun v3 I3 L3 hf => ?_)
  refine j_callVI (t := 51) (As := [.int v2, .int v3]) hc dX11_countWinsOfSpeeds_154 kw_1124 mX0_isWon (kC_51 _) clX0 rfl (by omega) (Nat.le_of_ble_eq_true rfl) (Nat.le_of_ble_eq_true rfl) ⟨Nat.le_refl _, Nat.le_refl _⟩ hf (fun v I' L' h => qX0_isWon_t x.2.1 n d v2 v3 I3 L3 v I' L' h) (fun v4 I4 L4 hf => ?_)
  exact j_sub (tX11_countWinsOfSpeeds_u_b157 n d mc ms hc k3 k65 hk3 hk65 _ _ _ _ _ _ _ _ _ _ _ hf) (And.intro rfl (And.intro rfl (And.intro rfl (And.intro rfl (And.intro rfl (And.intro rfl (And.intro rfl (trivial))))))))

set_option maxRecDepth 100000 in
set_option maxHeartbeats 4000000 in
theorem tX11_countWinsOfSpeeds_u_b65w {x : am_X} (n d mc ms : Nat) (hc : am_ok x cX11_countWinsOfSpeeds yX11_countWinsOfSpeeds 7 none (d + 6) mc ms) {I' : am_I} {L' : am_L} (k3 : Int32 → Int32 → Int32 → Int32 → am_I → am_L → Option (am_I × am_L)) (k65 : Int32 → Int32 → Int32 → Int32 → Int32 → Int32 → am_I → am_L → Option (am_I × am_L)) (hk3 : ∀ (a1 : Int32) (a2 : Int32) (a3 : Int32) (a4 : Int32) (I : am_I) (L : am_L), k3 a1 a2 a3 a4 I L = some (I', L') → am_J x (fun S => S = (none, (KC true), (RC true), I', L')) 3 [some (.ref 0), some (.int a1), some (.int a2), some (.int a3), some (.int a4), none, none] [] (KC true) (RC true) I L mc ms) (hk65 : ∀ (a1 : Int32) (a2 : Int32) (a3 : Int32) (a4 : Int32) (a5 : Int32) (a6 : Int32) (I : am_I) (L : am_L), k65 a1 a2 a3 a4 a5 a6 I L = some (I', L') → am_J x (fun S => S = (none, (KC true), (RC true), I', L')) 65 [some (.ref 0), some (.int a1), some (.int a2), some (.int a3), some (.int a4), some (.int a5), some (.int a6)] [] (KC true) (RC true) I L mc ms) (a1 : Int32) (a2 : Int32) (a3 : Int32) (a4 : Int32) (a5 : Int32) (a6 : Int32) (I : am_I) (L : am_L) (hf : fX11_countWinsOfSpeeds_t_b65w n d k3 k65 a1 a2 a3 a4 a5 a6 I L = some (I', L')) : am_J x (fun S => S = (none, (KC true), (RC true), I', L')) 65 [some (.ref 0), some (.int a1), some (.int a2), some (.int a3), some (.int a4), some (.int a5), some (.int a6)] [] (KC true) (RC true) I L mc ms := by
  unfold fX11_countWinsOfSpeeds_t_b65w at hf
  refine j_iload hc dX11_countWinsOfSpeeds_65 rfl ?_
  refine j_if_eq (tgt := 173) hc dX11_countWinsOfSpeeds_67 rfl hf (fun hf => ?_) (fun hf => ?_)
  · exact j_sub (tX11_countWinsOfSpeeds_u_b173 n d mc ms hc k3 hk3 _ _ _ _ _ _ hf) (And.intro rfl (And.intro rfl (And.intro rfl (And.intro rfl (And.intro rfl (trivial))))))
  · refine j_iload hc dX11_countWinsOfSpeeds_70 rfl ?_
    refine j_aload_n hc dX11_countWinsOfSpeeds_72 rfl ?_
    refine j_getR (u := 3) hc dX11_countWinsOfSpeeds_73 (fgC_X11_19_0 _) (rC_0_1 _) ?_
    refine j_getI hc dX11_countWinsOfSpeeds_76 (fgC_X11_151_3 _) ?_
    refine j_icmp_ge (tgt := 173) hc dX11_countWinsOfSpeeds_79 rfl hf (fun hf => ?_) (fun hf => ?_)
    · exact j_sub (tX11_countWinsOfSpeeds_u_b173 n d mc ms hc k3 hk3 _ _ _ _ _ _ hf) (And.intro rfl (And.intro rfl (And.intro rfl (And.intro rfl (And.intro rfl (trivial))))))
    · refine j_aload_n hc dX11_countWinsOfSpeeds_82 rfl ?_
      refine j_getR (u := 3) hc dX11_countWinsOfSpeeds_83 (fgC_X11_19_0 _) (rC_0_1 _) ?_
      refine j_getR (u := 4) hc dX11_countWinsOfSpeeds_86 (fgC_X11_165_3 _) (rC_3_5 _) ?_
      refine j_iload hc dX11_countWinsOfSpeeds_89 rfl ?_
      refine j_iaload (n := 8) hc dX11_countWinsOfSpeeds_91 (kC_4 _) hf (fun v1 hf => ?_)
      refine j_iload_n hc dX11_countWinsOfSpeeds_92 rfl ?_
      refine j_icmp_eq (tgt := 167) hc dX11_countWinsOfSpeeds_93 rfl hf (fun hf => ?_) (fun hf => ?_)
      · exact j_sub (tX11_countWinsOfSpeeds_u_b167 n d mc ms hc k3 k65 hk3 hk65 _ _ _ _ _ _ _ _ hf) (And.intro rfl (And.intro rfl (And.intro rfl (And.intro rfl (And.intro rfl (And.intro rfl (And.intro rfl (trivial))))))))
      · refine j_aload_n hc dX11_countWinsOfSpeeds_96 rfl ?_
        refine j_getR (u := 3) hc dX11_countWinsOfSpeeds_97 (fgC_X11_19_0 _) (rC_0_1 _) ?_
        refine j_getR (u := 6) hc dX11_countWinsOfSpeeds_100 (fgC_X11_171_3 _) (rC_3_7 _) ?_
        refine j_iload hc dX11_countWinsOfSpeeds_103 rfl ?_
        refine j_iaload (n := 8) hc dX11_countWinsOfSpeeds_105 (kC_6 _) hf (fun v2 hf => ?_)
        refine j_iload_n hc dX11_countWinsOfSpeeds_106 rfl ?_
        refine j_icmp_ne (tgt := 167) hc dX11_countWinsOfSpeeds_107 rfl hf (fun hf => ?_) (fun hf => ?_)
        · exact j_sub (tX11_countWinsOfSpeeds_u_b167 n d mc ms hc k3 k65 hk3 hk65 _ _ _ _ _ _ _ _ hf) (And.intro rfl (And.intro rfl (And.intro rfl (And.intro rfl (And.intro rfl (And.intro rfl (And.intro rfl (trivial))))))))
        · refine j_aload_n hc dX11_countWinsOfSpeeds_110 rfl ?_
          refine j_getR (u := 39) hc dX11_countWinsOfSpeeds_111 (fgC_X11_56_0 _) (rC_0_6 _) ?_
          refine j_iload hc dX11_countWinsOfSpeeds_114 rfl ?_
          refine j_callVI (t := 39) (As := [.int a6]) hc dX11_countWinsOfSpeeds_116 kw_916 mX7_canGo (kC_39 _) clX7 rfl (by omega) (Nat.le_of_ble_eq_true rfl) (Nat.le_of_ble_eq_true rfl) ⟨Nat.le_refl _, Nat.le_refl _⟩ hf (fun v I' L' h => qX7_canGo x.2.1 n d a6 I L v I' L' h) (fun v3 I3 L3 hf => ?_)
          refine j_if_eq (tgt := 167) hc dX11_countWinsOfSpeeds_119 rfl hf (fun hf => ?_) (fun hf => ?_)
          · exact j_sub (tX11_countWinsOfSpeeds_u_b167 n d mc ms hc k3 k65 hk3 hk65 _ _ _ _ _ _ _ _ hf) (And.intro rfl (And.intro rfl (And.intro rfl (And.intro rfl (And.intro rfl (And.intro rfl (And.intro rfl (trivial))))))))
          · refine j_aload_n hc dX11_countWinsOfSpeeds_122 rfl ?_
            refine j_iload hc dX11_countWinsOfSpeeds_123 rfl ?_
            refine j_iload hc dX11_countWinsOfSpeeds_125 rfl ?_
            refine j_callVV (t := 0) (As := [.int a4, .int a6]) hc dX11_countWinsOfSpeeds_127 kw_1086 mX11_makeDuelReady (kC_0 _) clX11 rfl (by omega) (Nat.le_of_ble_eq_true rfl) (Nat.le_of_ble_eq_true rfl) ⟨Nat.le_refl _, Nat.le_refl _⟩ hf (fun I' L' h => qX11_makeDuelReady_t x.2.1 n d a4 a6 I3 L3 I' L' h) (fun I4 L4 hf => ?_)
            exact j_sub (tX11_countWinsOfSpeeds_u_b130 n d mc ms hc k3 k65 hk3 hk65 _ _ _ _ _ _ _ _ hf) (And.intro rfl (And.intro rfl (And.intro rfl (And.intro rfl (And.intro rfl (And.intro rfl (And.intro rfl (trivial))))))))

set_option maxRecDepth 100000 in
set_option maxHeartbeats 4000000 in
theorem tX11_countWinsOfSpeeds_u_b65 {x : am_X} (n d mc ms : Nat) (hc : am_ok x cX11_countWinsOfSpeeds yX11_countWinsOfSpeeds 7 none (d + 6) mc ms) {I' : am_I} {L' : am_L} (k3 : Int32 → Int32 → Int32 → Int32 → am_I → am_L → Option (am_I × am_L)) (hk3 : ∀ (a1 : Int32) (a2 : Int32) (a3 : Int32) (a4 : Int32) (I : am_I) (L : am_L), k3 a1 a2 a3 a4 I L = some (I', L') → am_J x (fun S => S = (none, (KC true), (RC true), I', L')) 3 [some (.ref 0), some (.int a1), some (.int a2), some (.int a3), some (.int a4), none, none] [] (KC true) (RC true) I L mc ms) (m : Nat) : ∀ (a1 : Int32) (a2 : Int32) (a3 : Int32) (a4 : Int32) (a5 : Int32) (a6 : Int32) (I : am_I) (L : am_L) (hf : fX11_countWinsOfSpeeds_t_b65 n d k3 m a1 a2 a3 a4 a5 a6 I L = some (I', L')), am_J x (fun S => S = (none, (KC true), (RC true), I', L')) 65 [some (.ref 0), some (.int a1), some (.int a2), some (.int a3), some (.int a4), some (.int a5), some (.int a6)] [] (KC true) (RC true) I L mc ms := by
  induction m with
  | zero => intro a1 a2 a3 a4 a5 a6 I L hf; exact (Option.some_ne_none _ hf.symm).elim
  | succ m ih => intro a1 a2 a3 a4 a5 a6 I L hf; exact tX11_countWinsOfSpeeds_u_b65w n d mc ms hc k3 (fX11_countWinsOfSpeeds_t_b65 n d k3 m) hk3 ih a1 a2 a3 a4 a5 a6 I L hf

set_option maxRecDepth 100000 in
set_option maxHeartbeats 4000000 in
theorem tX11_countWinsOfSpeeds_u_b60 {x : am_X} (n d mc ms : Nat) (hc : am_ok x cX11_countWinsOfSpeeds yX11_countWinsOfSpeeds 7 none (d + 6) mc ms) {I' : am_I} {L' : am_L} (k3 : Int32 → Int32 → Int32 → Int32 → am_I → am_L → Option (am_I × am_L)) (hk3 : ∀ (a1 : Int32) (a2 : Int32) (a3 : Int32) (a4 : Int32) (I : am_I) (L : am_L), k3 a1 a2 a3 a4 I L = some (I', L') → am_J x (fun S => S = (none, (KC true), (RC true), I', L')) 3 [some (.ref 0), some (.int a1), some (.int a2), some (.int a3), some (.int a4), none, none] [] (KC true) (RC true) I L mc ms) (s0 : Int32) (a1 : Int32) (a2 : Int32) (a3 : Int32) (a4 : Int32) (I : am_I) (L : am_L) (hf : fX11_countWinsOfSpeeds_t_b60 n d k3 s0 a1 a2 a3 a4 I L = some (I', L')) : am_J x (fun S => S = (none, (KC true), (RC true), I', L')) 60 [some (.ref 0), some (.int a1), some (.int a2), some (.int a3), some (.int a4), none, none] [.int s0] (KC true) (RC true) I L mc ms := by
  unfold fX11_countWinsOfSpeeds_t_b60 at hf
  refine j_istore hc dX11_countWinsOfSpeeds_60 (Nat.le_of_ble_eq_true rfl) hf (fun v1 hf => ?_)
  refine j_iconst (v := (0 : Int32)) hc dX11_countWinsOfSpeeds_62 ci_0 ?_
  refine j_istore hc dX11_countWinsOfSpeeds_63 (Nat.le_of_ble_eq_true rfl) hf (fun v2 hf => ?_)
  exact j_sub (tX11_countWinsOfSpeeds_u_b65 n d mc ms hc k3 hk3 n _ _ _ _ _ _ _ _ hf) (And.intro rfl (And.intro rfl (And.intro rfl (And.intro rfl (And.intro rfl (And.intro rfl (And.intro rfl (trivial))))))))

set_option maxRecDepth 100000 in
set_option maxHeartbeats 4000000 in
theorem tX11_countWinsOfSpeeds_u_b59 {x : am_X} (n d mc ms : Nat) (hc : am_ok x cX11_countWinsOfSpeeds yX11_countWinsOfSpeeds 7 none (d + 6) mc ms) {I' : am_I} {L' : am_L} (k3 : Int32 → Int32 → Int32 → Int32 → am_I → am_L → Option (am_I × am_L)) (hk3 : ∀ (a1 : Int32) (a2 : Int32) (a3 : Int32) (a4 : Int32) (I : am_I) (L : am_L), k3 a1 a2 a3 a4 I L = some (I', L') → am_J x (fun S => S = (none, (KC true), (RC true), I', L')) 3 [some (.ref 0), some (.int a1), some (.int a2), some (.int a3), some (.int a4), none, none] [] (KC true) (RC true) I L mc ms) (a1 : Int32) (a2 : Int32) (a3 : Int32) (a4 : Int32) (I : am_I) (L : am_L) (hf : fX11_countWinsOfSpeeds_t_b59 n d k3 a1 a2 a3 a4 I L = some (I', L')) : am_J x (fun S => S = (none, (KC true), (RC true), I', L')) 59 [some (.ref 0), some (.int a1), some (.int a2), some (.int a3), some (.int a4), none, none] [] (KC true) (RC true) I L mc ms := by
  unfold fX11_countWinsOfSpeeds_t_b59 at hf
  refine j_iconst (v := (0 : Int32)) hc dX11_countWinsOfSpeeds_59 ci_0 ?_
  exact j_sub (tX11_countWinsOfSpeeds_u_b60 n d mc ms hc k3 hk3 _ _ _ _ _ _ _ hf) (And.intro rfl (And.intro rfl (And.intro rfl (And.intro rfl (And.intro rfl (trivial))))))

set_option maxRecDepth 100000 in
set_option maxHeartbeats 4000000 in
theorem tX11_countWinsOfSpeeds_u_b3w {x : am_X} (n d mc ms : Nat) (hc : am_ok x cX11_countWinsOfSpeeds yX11_countWinsOfSpeeds 7 none (d + 6) mc ms) {I' : am_I} {L' : am_L} (k3 : Int32 → Int32 → Int32 → Int32 → am_I → am_L → Option (am_I × am_L)) (hk3 : ∀ (a1 : Int32) (a2 : Int32) (a3 : Int32) (a4 : Int32) (I : am_I) (L : am_L), k3 a1 a2 a3 a4 I L = some (I', L') → am_J x (fun S => S = (none, (KC true), (RC true), I', L')) 3 [some (.ref 0), some (.int a1), some (.int a2), some (.int a3), some (.int a4), none, none] [] (KC true) (RC true) I L mc ms) (a1 : Int32) (a2 : Int32) (a3 : Int32) (a4 : Int32) (I : am_I) (L : am_L) (hf : fX11_countWinsOfSpeeds_t_b3w n d k3 a1 a2 a3 a4 I L = some (I', L')) : am_J x (fun S => S = (none, (KC true), (RC true), I', L')) 3 [some (.ref 0), some (.int a1), some (.int a2), some (.int a3), some (.int a4), none, none] [] (KC true) (RC true) I L mc ms := by
  unfold fX11_countWinsOfSpeeds_t_b3w at hf
  refine j_iload hc dX11_countWinsOfSpeeds_3 rfl ?_
  refine j_aload_n hc dX11_countWinsOfSpeeds_5 rfl ?_
  refine j_getR (u := 3) hc dX11_countWinsOfSpeeds_6 (fgC_X11_19_0 _) (rC_0_1 _) ?_
  refine j_getI hc dX11_countWinsOfSpeeds_9 (fgC_X11_151_3 _) ?_
  refine j_icmp_ge (tgt := 179) hc dX11_countWinsOfSpeeds_12 rfl hf (fun hf => ?_) (fun hf => ?_)
  · exact j_return hc dX11_countWinsOfSpeeds_179 rfl rfl hf
  · refine j_aload_n hc dX11_countWinsOfSpeeds_15 rfl ?_
    refine j_getR (u := 3) hc dX11_countWinsOfSpeeds_16 (fgC_X11_19_0 _) (rC_0_1 _) ?_
    refine j_getR (u := 4) hc dX11_countWinsOfSpeeds_19 (fgC_X11_165_3 _) (rC_3_5 _) ?_
    refine j_iload hc dX11_countWinsOfSpeeds_22 rfl ?_
    refine j_iaload (n := 8) hc dX11_countWinsOfSpeeds_24 (kC_4 _) hf (fun v1 hf => ?_)
    refine j_iload_n hc dX11_countWinsOfSpeeds_25 rfl ?_
    refine j_icmp_ne (tgt := 59) hc dX11_countWinsOfSpeeds_26 rfl hf (fun hf => ?_) (fun hf => ?_)
    · exact j_sub (tX11_countWinsOfSpeeds_u_b59 n d mc ms hc k3 hk3 _ _ _ _ _ _ hf) (And.intro rfl (And.intro rfl (And.intro rfl (And.intro rfl (And.intro rfl (trivial))))))
    · refine j_aload_n hc dX11_countWinsOfSpeeds_29 rfl ?_
      refine j_getR (u := 3) hc dX11_countWinsOfSpeeds_30 (fgC_X11_19_0 _) (rC_0_1 _) ?_
      refine j_getR (u := 6) hc dX11_countWinsOfSpeeds_33 (fgC_X11_171_3 _) (rC_3_7 _) ?_
      refine j_iload hc dX11_countWinsOfSpeeds_36 rfl ?_
      refine j_iaload (n := 8) hc dX11_countWinsOfSpeeds_38 (kC_6 _) hf (fun v2 hf => ?_)
      refine j_iload_n hc dX11_countWinsOfSpeeds_39 rfl ?_
      refine j_icmp_ne (tgt := 59) hc dX11_countWinsOfSpeeds_40 rfl hf (fun hf => ?_) (fun hf => ?_)
      · exact j_sub (tX11_countWinsOfSpeeds_u_b59 n d mc ms hc k3 hk3 _ _ _ _ _ _ hf) (And.intro rfl (And.intro rfl (And.intro rfl (And.intro rfl (And.intro rfl (trivial))))))
      · refine j_aload_n hc dX11_countWinsOfSpeeds_43 rfl ?_
        refine j_getR (u := 39) hc dX11_countWinsOfSpeeds_44 (fgC_X11_56_0 _) (rC_0_6 _) ?_
        refine j_iload hc dX11_countWinsOfSpeeds_47 rfl ?_
        refine j_callVI (t := 39) (As := [.int a4]) hc dX11_countWinsOfSpeeds_49 kw_916 mX7_canGo (kC_39 _) clX7 rfl (by omega) (Nat.le_of_ble_eq_true rfl) (Nat.le_of_ble_eq_true rfl) ⟨Nat.le_refl _, Nat.le_refl _⟩ hf (fun v I' L' h => qX7_canGo x.2.1 n d a4 I L v I' L' h) (fun v3 I3 L3 hf => ?_)
        refine j_if_eq (tgt := 59) hc dX11_countWinsOfSpeeds_52 rfl hf (fun hf => ?_) (fun hf => ?_)
        · exact j_sub (tX11_countWinsOfSpeeds_u_b59 n d mc ms hc k3 hk3 _ _ _ _ _ _ hf) (And.intro rfl (And.intro rfl (And.intro rfl (And.intro rfl (And.intro rfl (trivial))))))
        · refine j_iconst (v := (1 : Int32)) hc dX11_countWinsOfSpeeds_55 ci_1 ?_
          refine j_goto (tgt := 60) hc dX11_countWinsOfSpeeds_56 rfl ?_
          exact j_sub (tX11_countWinsOfSpeeds_u_b60 n d mc ms hc k3 hk3 _ _ _ _ _ _ _ hf) (And.intro rfl (And.intro rfl (And.intro rfl (And.intro rfl (And.intro rfl (trivial))))))

set_option maxRecDepth 100000 in
set_option maxHeartbeats 4000000 in
theorem tX11_countWinsOfSpeeds_u_b3 {x : am_X} (n d mc ms : Nat) (hc : am_ok x cX11_countWinsOfSpeeds yX11_countWinsOfSpeeds 7 none (d + 6) mc ms) {I' : am_I} {L' : am_L} (m : Nat) : ∀ (a1 : Int32) (a2 : Int32) (a3 : Int32) (a4 : Int32) (I : am_I) (L : am_L) (hf : fX11_countWinsOfSpeeds_t_b3 n d m a1 a2 a3 a4 I L = some (I', L')), am_J x (fun S => S = (none, (KC true), (RC true), I', L')) 3 [some (.ref 0), some (.int a1), some (.int a2), some (.int a3), some (.int a4), none, none] [] (KC true) (RC true) I L mc ms := by
  induction m with
  | zero => intro a1 a2 a3 a4 I L hf; exact (Option.some_ne_none _ hf.symm).elim
  | succ m ih => intro a1 a2 a3 a4 I L hf; exact tX11_countWinsOfSpeeds_u_b3w n d mc ms hc (fX11_countWinsOfSpeeds_t_b3 n d m) ih a1 a2 a3 a4 I L hf

set_option maxRecDepth 100000 in
set_option maxHeartbeats 4000000 in
theorem tX11_countWins_u_b45 {x : am_X} (n d mc ms : Nat) (hc : am_ok x cX11_countWins yX11_countWins 4 none (d + 7) mc ms) {I' : am_I} {L' : am_L} (k26 : Int32 → Int32 → am_I → am_L → Option (am_I × am_L)) (k33 : Int32 → Int32 → Int32 → am_I → am_L → Option (am_I × am_L)) (hk26 : ∀ (a1 : Int32) (a2 : Int32) (I : am_I) (L : am_L), k26 a1 a2 I L = some (I', L') → am_J x (fun S => S = (none, (KC true), (RC true), I', L')) 26 [some (.ref 0), some (.int a1), some (.int a2), none] [] (KC true) (RC true) I L mc ms) (hk33 : ∀ (a1 : Int32) (a2 : Int32) (a3 : Int32) (I : am_I) (L : am_L), k33 a1 a2 a3 I L = some (I', L') → am_J x (fun S => S = (none, (KC true), (RC true), I', L')) 33 [some (.ref 0), some (.int a1), some (.int a2), some (.int a3)] [] (KC true) (RC true) I L mc ms) (a1 : Int32) (a2 : Int32) (a3 : Int32) (I : am_I) (L : am_L) (hf : fX11_countWins_t_b45 n d k26 k33 a1 a2 a3 I L = some (I', L')) : am_J x (fun S => S = (none, (KC true), (RC true), I', L')) 45 [some (.ref 0), some (.int a1), some (.int a2), some (.int a3)] [] (KC true) (RC true) I L mc ms := by
  unfold fX11_countWins_t_b45 at hf
  refine j_iinc (w := (1 : Int32)) hc dX11_countWins_45 rfl ci_1 (Nat.le_of_ble_eq_true rfl) hf (fun v1 hf => ?_)
  refine j_goto (tgt := 33) hc dX11_countWins_48 rfl ?_
  exact j_sub (hk33 _ _ _ _ _ hf) (And.intro rfl (And.intro rfl (And.intro rfl (And.intro rfl (trivial)))))

set_option maxRecDepth 100000 in
set_option maxHeartbeats 4000000 in
theorem tX11_countWins_u_b33w {x : am_X} (n d mc ms : Nat) (hc : am_ok x cX11_countWins yX11_countWins 4 none (d + 7) mc ms) {I' : am_I} {L' : am_L} (k26 : Int32 → Int32 → am_I → am_L → Option (am_I × am_L)) (k33 : Int32 → Int32 → Int32 → am_I → am_L → Option (am_I × am_L)) (hk26 : ∀ (a1 : Int32) (a2 : Int32) (I : am_I) (L : am_L), k26 a1 a2 I L = some (I', L') → am_J x (fun S => S = (none, (KC true), (RC true), I', L')) 26 [some (.ref 0), some (.int a1), some (.int a2), none] [] (KC true) (RC true) I L mc ms) (hk33 : ∀ (a1 : Int32) (a2 : Int32) (a3 : Int32) (I : am_I) (L : am_L), k33 a1 a2 a3 I L = some (I', L') → am_J x (fun S => S = (none, (KC true), (RC true), I', L')) 33 [some (.ref 0), some (.int a1), some (.int a2), some (.int a3)] [] (KC true) (RC true) I L mc ms) (a1 : Int32) (a2 : Int32) (a3 : Int32) (I : am_I) (L : am_L) (hf : fX11_countWins_t_b33w n d k26 k33 a1 a2 a3 I L = some (I', L')) : am_J x (fun S => S = (none, (KC true), (RC true), I', L')) 33 [some (.ref 0), some (.int a1), some (.int a2), some (.int a3)] [] (KC true) (RC true) I L mc ms := by
  unfold fX11_countWins_t_b33w at hf
  refine j_iload_n hc dX11_countWins_33 rfl ?_
  refine j_iconst (v := (5 : Int32)) hc dX11_countWins_34 ci_5 ?_
  refine j_icmp_gt (tgt := 51) hc dX11_countWins_35 rfl hf (fun hf => ?_) (fun hf => ?_)
  · refine j_iinc (w := (1 : Int32)) hc dX11_countWins_51 rfl ci_1 (Nat.le_of_ble_eq_true rfl) hf (fun v1 hf => ?_)
    refine j_goto (tgt := 26) hc dX11_countWins_54 rfl ?_
    exact j_sub (hk26 _ _ _ _ hf) (And.intro rfl (And.intro rfl (And.intro rfl (trivial))))
  · refine j_aload_n hc dX11_countWins_38 rfl ?_
    refine j_iload_n hc dX11_countWins_39 rfl ?_
    refine j_iload_n hc dX11_countWins_40 rfl ?_
    refine j_iload_n hc dX11_countWins_41 rfl ?_
    refine j_callVV (t := 0) (As := [.int a1, .int a2, .int a3]) hc dX11_countWins_42 kw_1160 mX11_countWinsOfSpeeds (kC_0 _) clX11 rfl (by omega) (Nat.le_of_ble_eq_true rfl) (Nat.le_of_ble_eq_true rfl) ⟨Nat.le_refl _, Nat.le_refl _⟩ hf (fun I' L' h => qX11_countWinsOfSpeeds_t x.2.1 n d a1 a2 a3 I L I' L' h) (fun I2 L2 hf => ?_)
    exact j_sub (tX11_countWins_u_b45 n d mc ms hc k26 k33 hk26 hk33 _ _ _ _ _ hf) (And.intro rfl (And.intro rfl (And.intro rfl (And.intro rfl (trivial)))))

set_option maxRecDepth 100000 in
set_option maxHeartbeats 4000000 in
theorem tX11_countWins_u_b33 {x : am_X} (n d mc ms : Nat) (hc : am_ok x cX11_countWins yX11_countWins 4 none (d + 7) mc ms) {I' : am_I} {L' : am_L} (k26 : Int32 → Int32 → am_I → am_L → Option (am_I × am_L)) (hk26 : ∀ (a1 : Int32) (a2 : Int32) (I : am_I) (L : am_L), k26 a1 a2 I L = some (I', L') → am_J x (fun S => S = (none, (KC true), (RC true), I', L')) 26 [some (.ref 0), some (.int a1), some (.int a2), none] [] (KC true) (RC true) I L mc ms) (m : Nat) : ∀ (a1 : Int32) (a2 : Int32) (a3 : Int32) (I : am_I) (L : am_L) (hf : fX11_countWins_t_b33 n d k26 m a1 a2 a3 I L = some (I', L')), am_J x (fun S => S = (none, (KC true), (RC true), I', L')) 33 [some (.ref 0), some (.int a1), some (.int a2), some (.int a3)] [] (KC true) (RC true) I L mc ms := by
  induction m with
  | zero => intro a1 a2 a3 I L hf; exact (Option.some_ne_none _ hf.symm).elim
  | succ m ih => intro a1 a2 a3 I L hf; exact tX11_countWins_u_b33w n d mc ms hc k26 (fX11_countWins_t_b33 n d k26 m) hk26 ih a1 a2 a3 I L hf

set_option maxRecDepth 100000 in
set_option maxHeartbeats 4000000 in
theorem tX11_countWins_u_b26w {x : am_X} (n d mc ms : Nat) (hc : am_ok x cX11_countWins yX11_countWins 4 none (d + 7) mc ms) {I' : am_I} {L' : am_L} (k26 : Int32 → Int32 → am_I → am_L → Option (am_I × am_L)) (hk26 : ∀ (a1 : Int32) (a2 : Int32) (I : am_I) (L : am_L), k26 a1 a2 I L = some (I', L') → am_J x (fun S => S = (none, (KC true), (RC true), I', L')) 26 [some (.ref 0), some (.int a1), some (.int a2), none] [] (KC true) (RC true) I L mc ms) (a1 : Int32) (a2 : Int32) (I : am_I) (L : am_L) (hf : fX11_countWins_t_b26w n d k26 a1 a2 I L = some (I', L')) : am_J x (fun S => S = (none, (KC true), (RC true), I', L')) 26 [some (.ref 0), some (.int a1), some (.int a2), none] [] (KC true) (RC true) I L mc ms := by
  unfold fX11_countWins_t_b26w at hf
  refine j_iload_n hc dX11_countWins_26 rfl ?_
  refine j_iconst (v := (5 : Int32)) hc dX11_countWins_27 ci_5 ?_
  refine j_icmp_gt (tgt := 57) hc dX11_countWins_28 rfl hf (fun hf => ?_) (fun hf => ?_)
  · exact j_return hc dX11_countWins_57 rfl rfl hf
  · refine j_iconst (v := (1 : Int32)) hc dX11_countWins_31 ci_1 ?_
    refine j_istore_n hc dX11_countWins_32 (Nat.le_of_ble_eq_true rfl) hf (fun v1 hf => ?_)
    exact j_sub (tX11_countWins_u_b33 n d mc ms hc k26 hk26 n _ _ _ _ _ hf) (And.intro rfl (And.intro rfl (And.intro rfl (And.intro rfl (trivial)))))

set_option maxRecDepth 100000 in
set_option maxHeartbeats 4000000 in
theorem tX11_countWins_u_b26 {x : am_X} (n d mc ms : Nat) (hc : am_ok x cX11_countWins yX11_countWins 4 none (d + 7) mc ms) {I' : am_I} {L' : am_L} (m : Nat) : ∀ (a1 : Int32) (a2 : Int32) (I : am_I) (L : am_L) (hf : fX11_countWins_t_b26 n d m a1 a2 I L = some (I', L')), am_J x (fun S => S = (none, (KC true), (RC true), I', L')) 26 [some (.ref 0), some (.int a1), some (.int a2), none] [] (KC true) (RC true) I L mc ms := by
  induction m with
  | zero => intro a1 a2 I L hf; exact (Option.some_ne_none _ hf.symm).elim
  | succ m ih => intro a1 a2 I L hf; exact tX11_countWins_u_b26w n d mc ms hc (fX11_countWins_t_b26 n d m) ih a1 a2 I L hf

set_option maxRecDepth 100000 in
set_option maxHeartbeats 4000000 in
theorem tX11_champion_v_b76 {x : am_X} {al : Bool} (n d mc ms : Nat) (hc : am_ok x cX11_champion yX11_champion 4 (some .int) (d + 8) mc ms) {r : Int32} {I' : am_I} {L' : am_L} (k19 : Int32 → Int32 → Int32 → am_I → am_L → Option (Int32 × am_I × am_L)) (hk19 : ∀ (a1 : Int32) (a2 : Int32) (a3 : Int32) (I : am_I) (L : am_L), k19 a1 a2 a3 I L = some (r, I', L') → am_J x (fun S => S = (some (.int r), (KC al), (RC al), I', L')) 19 [some (.ref 0), some (.int a1), some (.int a2), some (.int a3)] [] (KC al) (RC al) I L mc ms) (a1 : Int32) (a2 : Int32) (a3 : Int32) (I : am_I) (L : am_L) (hf : fX11_champion_t_b76 n d k19 a1 a2 a3 I L = some (r, I', L')) : am_J x (fun S => S = (some (.int r), (KC al), (RC al), I', L')) 76 [some (.ref 0), some (.int a1), some (.int a2), some (.int a3)] [] (KC al) (RC al) I L mc ms := by
  unfold fX11_champion_t_b76 at hf
  refine j_iinc (w := (1 : Int32)) hc dX11_champion_76 rfl ci_1 (Nat.le_of_ble_eq_true rfl) hf (fun v1 hf => ?_)
  refine j_goto (tgt := 19) hc dX11_champion_79 rfl ?_
  exact j_sub (hk19 _ _ _ _ _ hf) (And.intro rfl (And.intro rfl (And.intro rfl (And.intro rfl (trivial)))))

set_option maxRecDepth 100000 in
set_option maxHeartbeats 4000000 in
theorem tX11_champion_v_b74 {x : am_X} {al : Bool} (n d mc ms : Nat) (hc : am_ok x cX11_champion yX11_champion 4 (some .int) (d + 8) mc ms) {r : Int32} {I' : am_I} {L' : am_L} (k19 : Int32 → Int32 → Int32 → am_I → am_L → Option (Int32 × am_I × am_L)) (hk19 : ∀ (a1 : Int32) (a2 : Int32) (a3 : Int32) (I : am_I) (L : am_L), k19 a1 a2 a3 I L = some (r, I', L') → am_J x (fun S => S = (some (.int r), (KC al), (RC al), I', L')) 19 [some (.ref 0), some (.int a1), some (.int a2), some (.int a3)] [] (KC al) (RC al) I L mc ms) (a1 : Int32) (a3 : Int32) (I : am_I) (L : am_L) (hf : fX11_champion_t_b74 n d k19 a1 a3 I L = some (r, I', L')) : am_J x (fun S => S = (some (.int r), (KC al), (RC al), I', L')) 74 [some (.ref 0), some (.int a1), none, some (.int a3)] [] (KC al) (RC al) I L mc ms := by
  unfold fX11_champion_t_b74 at hf
  refine j_iload_n hc dX11_champion_74 rfl ?_
  refine j_istore_n hc dX11_champion_75 (Nat.le_of_ble_eq_true rfl) hf (fun v1 hf => ?_)
  exact j_sub (tX11_champion_v_b76 n d mc ms hc k19 hk19 _ _ _ _ _ hf) (And.intro rfl (And.intro rfl (And.intro rfl (And.intro rfl (trivial)))))

set_option maxRecDepth 100000 in
set_option maxHeartbeats 4000000 in
theorem tX11_champion_v_b19w {x : am_X} {al : Bool} (n d mc ms : Nat) (hc : am_ok x cX11_champion yX11_champion 4 (some .int) (d + 8) mc ms) {r : Int32} {I' : am_I} {L' : am_L} (k19 : Int32 → Int32 → Int32 → am_I → am_L → Option (Int32 × am_I × am_L)) (hk19 : ∀ (a1 : Int32) (a2 : Int32) (a3 : Int32) (I : am_I) (L : am_L), k19 a1 a2 a3 I L = some (r, I', L') → am_J x (fun S => S = (some (.int r), (KC al), (RC al), I', L')) 19 [some (.ref 0), some (.int a1), some (.int a2), some (.int a3)] [] (KC al) (RC al) I L mc ms) (a1 : Int32) (a2 : Int32) (a3 : Int32) (I : am_I) (L : am_L) (hf : fX11_champion_t_b19w n d k19 a1 a2 a3 I L = some (r, I', L')) : am_J x (fun S => S = (some (.int r), (KC al), (RC al), I', L')) 19 [some (.ref 0), some (.int a1), some (.int a2), some (.int a3)] [] (KC al) (RC al) I L mc ms := by
  unfold fX11_champion_t_b19w at hf
  refine j_iload_n hc dX11_champion_19 rfl ?_
  refine j_aload_n hc dX11_champion_20 rfl ?_
  refine j_getR (u := 3) hc dX11_champion_21 (fgC_X11_19_0 _) (rC_0_1 _) ?_
  refine j_getI hc dX11_champion_24 (fgC_X11_151_3 _) ?_
  refine j_icmp_ge (tgt := 82) hc dX11_champion_27 rfl hf (fun hf => ?_) (fun hf => ?_)
  · refine j_iload_n hc dX11_champion_82 rfl ?_
    exact j_ireturn hc dX11_champion_83 rfl rfl hf
  · refine j_aload_n hc dX11_champion_30 rfl ?_
    refine j_getR (u := 3) hc dX11_champion_31 (fgC_X11_19_0 _) (rC_0_1 _) ?_
    refine j_getR (u := 4) hc dX11_champion_34 (fgC_X11_165_3 _) (rC_3_5 _) ?_
    refine j_iload_n hc dX11_champion_37 rfl ?_
    refine j_iaload (n := 8) hc dX11_champion_38 (kC_4 _) hf (fun v1 hf => ?_)
    refine j_iload_n hc dX11_champion_39 rfl ?_
    refine j_icmp_ne (tgt := 76) hc dX11_champion_40 rfl hf (fun hf => ?_) (fun hf => ?_)
    · exact j_sub (tX11_champion_v_b76 n d mc ms hc k19 hk19 _ _ _ _ _ hf) (And.intro rfl (And.intro rfl (And.intro rfl (And.intro rfl (trivial)))))
    · refine j_aload_n hc dX11_champion_43 rfl ?_
      refine j_getR (u := 39) hc dX11_champion_44 (fgC_X11_56_0 _) (rC_0_6 _) ?_
      refine j_iload_n hc dX11_champion_47 rfl ?_
      refine j_callVI (t := 39) (As := [.int a3]) hc dX11_champion_48 kw_916 mX7_canGo (kC_39 _) clX7 rfl (by omega) (Nat.le_of_ble_eq_true rfl) (Nat.le_of_ble_eq_true rfl) ⟨Nat.le_refl _, Nat.le_refl _⟩ hf (fun v I' L' h => qX7_canGo x.2.1 n d a3 I L v I' L' h) (fun v2 I2 L2 hf => ?_)
      refine j_if_eq (tgt := 76) hc dX11_champion_51 rfl hf (fun hf => ?_) (fun hf => ?_)
      · exact j_sub (tX11_champion_v_b76 n d mc ms hc k19 hk19 _ _ _ _ _ hf) (And.intro rfl (And.intro rfl (And.intro rfl (And.intro rfl (trivial)))))
      · refine j_iload_n hc dX11_champion_54 rfl ?_
        refine j_iconst (v := (-1 : Int32)) hc dX11_champion_55 ci_m1 ?_
        refine j_icmp_eq (tgt := 74) hc dX11_champion_56 rfl hf (fun hf => ?_) (fun hf => ?_)
        · exact j_sub (tX11_champion_v_b74 n d mc ms hc k19 hk19 _ _ _ _ hf) (And.intro rfl (And.intro rfl (And.intro rfl (trivial))))
        · refine j_aload_n hc dX11_champion_59 rfl ?_
          refine j_getR (u := 66) hc dX11_champion_60 (fgC_X11_101_0 _) (rC_0_13 _) ?_
          refine j_iload_n hc dX11_champion_63 rfl ?_
          refine j_iaload (n := 8) hc dX11_champion_64 (kC_66 _) hf (fun v3 hf => ?_)
          refine j_aload_n hc dX11_champion_65 rfl ?_
          refine j_getR (u := 66) hc dX11_champion_66 (fgC_X11_101_0 _) (rC_0_13 _) ?_
          refine j_iload_n hc dX11_champion_69 rfl ?_
          refine j_iaload (n := 8) hc dX11_champion_70 (kC_66 _) hf (fun v4 hf => ?_)
          refine j_icmp_le (tgt := 76) hc dX11_champion_71 rfl hf (fun hf => ?_) (fun hf => ?_)
          · exact j_sub (tX11_champion_v_b76 n d mc ms hc k19 hk19 _ _ _ _ _ hf) (And.intro rfl (And.intro rfl (And.intro rfl (And.intro rfl (trivial)))))
          · exact j_sub (tX11_champion_v_b74 n d mc ms hc k19 hk19 _ _ _ _ hf) (And.intro rfl (And.intro rfl (And.intro rfl (trivial))))

set_option maxRecDepth 100000 in
set_option maxHeartbeats 4000000 in
theorem tX11_champion_v_b19 {x : am_X} {al : Bool} (n d mc ms : Nat) (hc : am_ok x cX11_champion yX11_champion 4 (some .int) (d + 8) mc ms) {r : Int32} {I' : am_I} {L' : am_L} (m : Nat) : ∀ (a1 : Int32) (a2 : Int32) (a3 : Int32) (I : am_I) (L : am_L) (hf : fX11_champion_t_b19 n d m a1 a2 a3 I L = some (r, I', L')), am_J x (fun S => S = (some (.int r), (KC al), (RC al), I', L')) 19 [some (.ref 0), some (.int a1), some (.int a2), some (.int a3)] [] (KC al) (RC al) I L mc ms := by
  induction m with
  | zero => intro a1 a2 a3 I L hf; exact (Option.some_ne_none _ hf.symm).elim
  | succ m ih => intro a1 a2 a3 I L hf; exact tX11_champion_v_b19w n d mc ms hc (fX11_champion_t_b19 n d m) ih a1 a2 a3 I L hf

set_option maxRecDepth 100000 in
set_option maxHeartbeats 4000000 in
theorem tX11_champion_v_b15 {x : am_X} {al : Bool} (n d mc ms : Nat) (hc : am_ok x cX11_champion yX11_champion 4 (some .int) (d + 8) mc ms) {r : Int32} {I' : am_I} {L' : am_L} (a1 : Int32) (I : am_I) (L : am_L) (hf : fX11_champion_t_b15 n d a1 I L = some (r, I', L')) : am_J x (fun S => S = (some (.int r), (KC al), (RC al), I', L')) 15 [some (.ref 0), some (.int a1), none, none] [] (KC al) (RC al) I L mc ms := by
  unfold fX11_champion_t_b15 at hf
  refine j_iconst (v := (-1 : Int32)) hc dX11_champion_15 ci_m1 ?_
  refine j_istore_n hc dX11_champion_16 (Nat.le_of_ble_eq_true rfl) hf (fun v1 hf => ?_)
  refine j_iconst (v := (0 : Int32)) hc dX11_champion_17 ci_0 ?_
  refine j_istore_n hc dX11_champion_18 (Nat.le_of_ble_eq_true rfl) hf (fun v2 hf => ?_)
  exact j_sub (tX11_champion_v_b19 n d mc ms hc n _ _ _ _ _ hf) (And.intro rfl (And.intro rfl (And.intro rfl (And.intro rfl (trivial)))))

set_option maxRecDepth 100000 in
set_option maxHeartbeats 4000000 in
theorem tX11_victors_v_b133 {x : am_X} {al : Bool} (n d mc ms : Nat) (hc : am_ok x cX11_victors yX11_victors 5 (some .int) (d + 8) mc ms) {r : Int32} {I' : am_I} {L' : am_L} (k73 : Int32 → Int32 → Int32 → Int32 → am_I → am_L → Option (Int32 × am_I × am_L)) (hk73 : ∀ (a1 : Int32) (a2 : Int32) (a3 : Int32) (a4 : Int32) (I : am_I) (L : am_L), k73 a1 a2 a3 a4 I L = some (r, I', L') → am_J x (fun S => S = (some (.int r), (KC al), (RC al), I', L')) 73 [some (.ref 0), some (.int a1), some (.int a2), some (.int a3), some (.int a4)] [] (KC al) (RC al) I L mc ms) (a1 : Int32) (a2 : Int32) (a3 : Int32) (a4 : Int32) (I : am_I) (L : am_L) (hf : fX11_victors_t_b133 n d k73 a1 a2 a3 a4 I L = some (r, I', L')) : am_J x (fun S => S = (some (.int r), (KC al), (RC al), I', L')) 133 [some (.ref 0), some (.int a1), some (.int a2), some (.int a3), some (.int a4)] [] (KC al) (RC al) I L mc ms := by
  unfold fX11_victors_t_b133 at hf
  refine j_iinc (w := (1 : Int32)) hc dX11_victors_133 rfl ci_1 (Nat.le_of_ble_eq_true rfl) hf (fun v1 hf => ?_)
  refine j_goto (tgt := 73) hc dX11_victors_136 rfl ?_
  exact j_sub (hk73 _ _ _ _ _ _ hf) (And.intro rfl (And.intro rfl (And.intro rfl (And.intro rfl (And.intro rfl (trivial))))))

set_option maxRecDepth 100000 in
set_option maxHeartbeats 4000000 in
theorem tX11_victors_v_b73w {x : am_X} {al : Bool} (n d mc ms : Nat) (hc : am_ok x cX11_victors yX11_victors 5 (some .int) (d + 8) mc ms) {r : Int32} {I' : am_I} {L' : am_L} (k73 : Int32 → Int32 → Int32 → Int32 → am_I → am_L → Option (Int32 × am_I × am_L)) (hk73 : ∀ (a1 : Int32) (a2 : Int32) (a3 : Int32) (a4 : Int32) (I : am_I) (L : am_L), k73 a1 a2 a3 a4 I L = some (r, I', L') → am_J x (fun S => S = (some (.int r), (KC al), (RC al), I', L')) 73 [some (.ref 0), some (.int a1), some (.int a2), some (.int a3), some (.int a4)] [] (KC al) (RC al) I L mc ms) (a1 : Int32) (a2 : Int32) (a3 : Int32) (a4 : Int32) (I : am_I) (L : am_L) (hf : fX11_victors_t_b73w n d k73 a1 a2 a3 a4 I L = some (r, I', L')) : am_J x (fun S => S = (some (.int r), (KC al), (RC al), I', L')) 73 [some (.ref 0), some (.int a1), some (.int a2), some (.int a3), some (.int a4)] [] (KC al) (RC al) I L mc ms := by
  unfold fX11_victors_t_b73w at hf
  refine j_iload hc dX11_victors_73 rfl ?_
  refine j_aload_n hc dX11_victors_75 rfl ?_
  refine j_getR (u := 3) hc dX11_victors_76 (fgC_X11_19_0 _) (rC_0_1 _) ?_
  refine j_getI hc dX11_victors_79 (fgC_X11_151_3 _) ?_
  refine j_icmp_ge (tgt := 139) hc dX11_victors_82 rfl hf (fun hf => ?_) (fun hf => ?_)
  · refine j_iload_n hc dX11_victors_139 rfl ?_
    exact j_ireturn hc dX11_victors_140 rfl rfl hf
  · refine j_aload_n hc dX11_victors_85 rfl ?_
    refine j_getR (u := 3) hc dX11_victors_86 (fgC_X11_19_0 _) (rC_0_1 _) ?_
    refine j_getR (u := 4) hc dX11_victors_89 (fgC_X11_165_3 _) (rC_3_5 _) ?_
    refine j_iload hc dX11_victors_92 rfl ?_
    refine j_iaload (n := 8) hc dX11_victors_94 (kC_4 _) hf (fun v1 hf => ?_)
    refine j_iload_n hc dX11_victors_95 rfl ?_
    refine j_icmp_ne (tgt := 133) hc dX11_victors_96 rfl hf (fun hf => ?_) (fun hf => ?_)
    · exact j_sub (tX11_victors_v_b133 n d mc ms hc k73 hk73 _ _ _ _ _ _ hf) (And.intro rfl (And.intro rfl (And.intro rfl (And.intro rfl (And.intro rfl (trivial))))))
    · refine j_aload_n hc dX11_victors_99 rfl ?_
      refine j_getR (u := 39) hc dX11_victors_100 (fgC_X11_56_0 _) (rC_0_6 _) ?_
      refine j_iload hc dX11_victors_103 rfl ?_
      refine j_callVI (t := 39) (As := [.int a4]) hc dX11_victors_105 kw_916 mX7_canGo (kC_39 _) clX7 rfl (by omega) (Nat.le_of_ble_eq_true rfl) (Nat.le_of_ble_eq_true rfl) ⟨Nat.le_refl _, Nat.le_refl _⟩ hf (fun v I' L' h => qX7_canGo x.2.1 n d a4 I L v I' L' h) (fun v2 I2 L2 hf => ?_)
      refine j_if_eq (tgt := 133) hc dX11_victors_108 rfl hf (fun hf => ?_) (fun hf => ?_)
      · exact j_sub (tX11_victors_v_b133 n d mc ms hc k73 hk73 _ _ _ _ _ _ hf) (And.intro rfl (And.intro rfl (And.intro rfl (And.intro rfl (And.intro rfl (trivial))))))
      · refine j_iload_n hc dX11_victors_111 rfl ?_
        refine j_if_le (tgt := 133) hc dX11_victors_112 rfl hf (fun hf => ?_) (fun hf => ?_)
        · exact j_sub (tX11_victors_v_b133 n d mc ms hc k73 hk73 _ _ _ _ _ _ hf) (And.intro rfl (And.intro rfl (And.intro rfl (And.intro rfl (And.intro rfl (trivial))))))
        · refine j_aload_n hc dX11_victors_115 rfl ?_
          refine j_getR (u := 66) hc dX11_victors_116 (fgC_X11_101_0 _) (rC_0_13 _) ?_
          refine j_iload hc dX11_victors_119 rfl ?_
          refine j_iaload (n := 8) hc dX11_victors_121 (kC_66 _) hf (fun v3 hf => ?_)
          refine j_iload_n hc dX11_victors_122 rfl ?_
          refine j_icmp_ne (tgt := 133) hc dX11_victors_123 rfl hf (fun hf => ?_) (fun hf => ?_)
          · exact j_sub (tX11_victors_v_b133 n d mc ms hc k73 hk73 _ _ _ _ _ _ hf) (And.intro rfl (And.intro rfl (And.intro rfl (And.intro rfl (And.intro rfl (trivial))))))
          · refine j_iload_n hc dX11_victors_126 rfl ?_
            refine j_iconst (v := (1 : Int32)) hc dX11_victors_127 ci_1 ?_
            refine j_iload hc dX11_victors_128 rfl ?_
            refine j_ishl hc dX11_victors_130 ?_
            refine j_ior hc dX11_victors_131 ?_
            refine j_istore_n hc dX11_victors_132 (Nat.le_of_ble_eq_true rfl) hf (fun v4 hf => ?_)
            exact j_sub (tX11_victors_v_b133 n d mc ms hc k73 hk73 _ _ _ _ _ _ hf) (And.intro rfl (And.intro rfl (And.intro rfl (And.intro rfl (And.intro rfl (trivial))))))

set_option maxRecDepth 100000 in
set_option maxHeartbeats 4000000 in
theorem tX11_victors_v_b73 {x : am_X} {al : Bool} (n d mc ms : Nat) (hc : am_ok x cX11_victors yX11_victors 5 (some .int) (d + 8) mc ms) {r : Int32} {I' : am_I} {L' : am_L} (m : Nat) : ∀ (a1 : Int32) (a2 : Int32) (a3 : Int32) (a4 : Int32) (I : am_I) (L : am_L) (hf : fX11_victors_t_b73 n d m a1 a2 a3 a4 I L = some (r, I', L')), am_J x (fun S => S = (some (.int r), (KC al), (RC al), I', L')) 73 [some (.ref 0), some (.int a1), some (.int a2), some (.int a3), some (.int a4)] [] (KC al) (RC al) I L mc ms := by
  induction m with
  | zero => intro a1 a2 a3 a4 I L hf; exact (Option.some_ne_none _ hf.symm).elim
  | succ m ih => intro a1 a2 a3 a4 I L hf; exact tX11_victors_v_b73w n d mc ms hc (fX11_victors_t_b73 n d m) ih a1 a2 a3 a4 I L hf

set_option maxRecDepth 100000 in
set_option maxHeartbeats 4000000 in
theorem tX11_victors_v_b60 {x : am_X} {al : Bool} (n d mc ms : Nat) (hc : am_ok x cX11_victors yX11_victors 5 (some .int) (d + 8) mc ms) {r : Int32} {I' : am_I} {L' : am_L} (k19 : Int32 → Int32 → Int32 → am_I → am_L → Option (Int32 × am_I × am_L)) (hk19 : ∀ (a1 : Int32) (a2 : Int32) (a3 : Int32) (I : am_I) (L : am_L), k19 a1 a2 a3 I L = some (r, I', L') → am_J x (fun S => S = (some (.int r), (KC al), (RC al), I', L')) 19 [some (.ref 0), some (.int a1), some (.int a2), some (.int a3), none] [] (KC al) (RC al) I L mc ms) (s0 : Int32) (s1 : Int32) (a1 : Int32) (a3 : Int32) (I : am_I) (L : am_L) (hf : fX11_victors_t_b60 n d k19 s0 s1 a1 a3 I L = some (r, I', L')) : am_J x (fun S => S = (some (.int r), (KC al), (RC al), I', L')) 60 [some (.ref 0), some (.int a1), none, some (.int a3), none] [.int s1, .int s0] (KC al) (RC al) I L mc ms := by
  unfold fX11_victors_t_b60 at hf
  refine j_iadd hc dX11_victors_60 ?_
  refine j_istore_n hc dX11_victors_61 (Nat.le_of_ble_eq_true rfl) hf (fun v1 hf => ?_)
  refine j_iinc (w := (1 : Int32)) hc dX11_victors_62 rfl ci_1 (Nat.le_of_ble_eq_true rfl) hf (fun v2 hf => ?_)
  refine j_goto (tgt := 19) hc dX11_victors_65 rfl ?_
  exact j_sub (hk19 _ _ _ _ _ hf) (And.intro rfl (And.intro rfl (And.intro rfl (And.intro rfl (trivial)))))

set_option maxRecDepth 100000 in
set_option maxHeartbeats 4000000 in
theorem tX11_victors_v_b59 {x : am_X} {al : Bool} (n d mc ms : Nat) (hc : am_ok x cX11_victors yX11_victors 5 (some .int) (d + 8) mc ms) {r : Int32} {I' : am_I} {L' : am_L} (k19 : Int32 → Int32 → Int32 → am_I → am_L → Option (Int32 × am_I × am_L)) (hk19 : ∀ (a1 : Int32) (a2 : Int32) (a3 : Int32) (I : am_I) (L : am_L), k19 a1 a2 a3 I L = some (r, I', L') → am_J x (fun S => S = (some (.int r), (KC al), (RC al), I', L')) 19 [some (.ref 0), some (.int a1), some (.int a2), some (.int a3), none] [] (KC al) (RC al) I L mc ms) (s0 : Int32) (a1 : Int32) (a3 : Int32) (I : am_I) (L : am_L) (hf : fX11_victors_t_b59 n d k19 s0 a1 a3 I L = some (r, I', L')) : am_J x (fun S => S = (some (.int r), (KC al), (RC al), I', L')) 59 [some (.ref 0), some (.int a1), none, some (.int a3), none] [.int s0] (KC al) (RC al) I L mc ms := by
  unfold fX11_victors_t_b59 at hf
  refine j_iconst (v := (0 : Int32)) hc dX11_victors_59 ci_0 ?_
  exact j_sub (tX11_victors_v_b60 n d mc ms hc k19 hk19 _ _ _ _ _ _ hf) (And.intro rfl (And.intro rfl (And.intro rfl (trivial))))

set_option maxRecDepth 100000 in
set_option maxHeartbeats 4000000 in
theorem tX11_victors_v_b19w {x : am_X} {al : Bool} (n d mc ms : Nat) (hc : am_ok x cX11_victors yX11_victors 5 (some .int) (d + 8) mc ms) {r : Int32} {I' : am_I} {L' : am_L} (k19 : Int32 → Int32 → Int32 → am_I → am_L → Option (Int32 × am_I × am_L)) (hk19 : ∀ (a1 : Int32) (a2 : Int32) (a3 : Int32) (I : am_I) (L : am_L), k19 a1 a2 a3 I L = some (r, I', L') → am_J x (fun S => S = (some (.int r), (KC al), (RC al), I', L')) 19 [some (.ref 0), some (.int a1), some (.int a2), some (.int a3), none] [] (KC al) (RC al) I L mc ms) (a1 : Int32) (a2 : Int32) (a3 : Int32) (I : am_I) (L : am_L) (hf : fX11_victors_t_b19w n d k19 a1 a2 a3 I L = some (r, I', L')) : am_J x (fun S => S = (some (.int r), (KC al), (RC al), I', L')) 19 [some (.ref 0), some (.int a1), some (.int a2), some (.int a3), none] [] (KC al) (RC al) I L mc ms := by
  unfold fX11_victors_t_b19w at hf
  refine j_iload_n hc dX11_victors_19 rfl ?_
  refine j_aload_n hc dX11_victors_20 rfl ?_
  refine j_getR (u := 3) hc dX11_victors_21 (fgC_X11_19_0 _) (rC_0_1 _) ?_
  refine j_getI hc dX11_victors_24 (fgC_X11_151_3 _) ?_
  refine j_icmp_ge (tgt := 68) hc dX11_victors_27 rfl hf (fun hf => ?_) (fun hf => ?_)
  · refine j_iconst (v := (0 : Int32)) hc dX11_victors_68 ci_0 ?_
    refine j_istore_n hc dX11_victors_69 (Nat.le_of_ble_eq_true rfl) hf (fun v1 hf => ?_)
    refine j_iconst (v := (0 : Int32)) hc dX11_victors_70 ci_0 ?_
    refine j_istore hc dX11_victors_71 (Nat.le_of_ble_eq_true rfl) hf (fun v2 hf => ?_)
    exact j_sub (tX11_victors_v_b73 n d mc ms hc n _ _ _ _ _ _ hf) (And.intro rfl (And.intro rfl (And.intro rfl (And.intro rfl (And.intro rfl (trivial))))))
  · refine j_iload_n hc dX11_victors_30 rfl ?_
    refine j_aload_n hc dX11_victors_31 rfl ?_
    refine j_getR (u := 3) hc dX11_victors_32 (fgC_X11_19_0 _) (rC_0_1 _) ?_
    refine j_getR (u := 4) hc dX11_victors_35 (fgC_X11_165_3 _) (rC_3_5 _) ?_
    refine j_iload_n hc dX11_victors_38 rfl ?_
    refine j_iaload (n := 8) hc dX11_victors_39 (kC_4 _) hf (fun v3 hf => ?_)
    refine j_iload_n hc dX11_victors_40 rfl ?_
    refine j_icmp_eq (tgt := 59) hc dX11_victors_41 rfl hf (fun hf => ?_) (fun hf => ?_)
    · exact j_sub (tX11_victors_v_b59 n d mc ms hc k19 hk19 _ _ _ _ _ hf) (And.intro rfl (And.intro rfl (And.intro rfl (trivial))))
    · refine j_aload_n hc dX11_victors_44 rfl ?_
      refine j_getR (u := 39) hc dX11_victors_45 (fgC_X11_56_0 _) (rC_0_6 _) ?_
      refine j_iload_n hc dX11_victors_48 rfl ?_
      refine j_callVI (t := 39) (As := [.int a3]) hc dX11_victors_49 kw_916 mX7_canGo (kC_39 _) clX7 rfl (by omega) (Nat.le_of_ble_eq_true rfl) (Nat.le_of_ble_eq_true rfl) ⟨Nat.le_refl _, Nat.le_refl _⟩ hf (fun v I' L' h => qX7_canGo x.2.1 n d a3 I L v I' L' h) (fun v4 I4 L4 hf => ?_)
      refine j_if_eq (tgt := 59) hc dX11_victors_52 rfl hf (fun hf => ?_) (fun hf => ?_)
      · exact j_sub (tX11_victors_v_b59 n d mc ms hc k19 hk19 _ _ _ _ _ hf) (And.intro rfl (And.intro rfl (And.intro rfl (trivial))))
      · refine j_iconst (v := (1 : Int32)) hc dX11_victors_55 ci_1 ?_
        refine j_goto (tgt := 60) hc dX11_victors_56 rfl ?_
        exact j_sub (tX11_victors_v_b60 n d mc ms hc k19 hk19 _ _ _ _ _ _ hf) (And.intro rfl (And.intro rfl (And.intro rfl (trivial))))

set_option maxRecDepth 100000 in
set_option maxHeartbeats 4000000 in
theorem tX11_victors_v_b19 {x : am_X} {al : Bool} (n d mc ms : Nat) (hc : am_ok x cX11_victors yX11_victors 5 (some .int) (d + 8) mc ms) {r : Int32} {I' : am_I} {L' : am_L} (m : Nat) : ∀ (a1 : Int32) (a2 : Int32) (a3 : Int32) (I : am_I) (L : am_L) (hf : fX11_victors_t_b19 n d m a1 a2 a3 I L = some (r, I', L')), am_J x (fun S => S = (some (.int r), (KC al), (RC al), I', L')) 19 [some (.ref 0), some (.int a1), some (.int a2), some (.int a3), none] [] (KC al) (RC al) I L mc ms := by
  induction m with
  | zero => intro a1 a2 a3 I L hf; exact (Option.some_ne_none _ hf.symm).elim
  | succ m ih => intro a1 a2 a3 I L hf; exact tX11_victors_v_b19w n d mc ms hc (fX11_victors_t_b19 n d m) ih a1 a2 a3 I L hf

set_option maxRecDepth 100000 in
set_option maxHeartbeats 4000000 in
theorem tX11_victors_v_b15 {x : am_X} {al : Bool} (n d mc ms : Nat) (hc : am_ok x cX11_victors yX11_victors 5 (some .int) (d + 8) mc ms) {r : Int32} {I' : am_I} {L' : am_L} (a1 : Int32) (I : am_I) (L : am_L) (hf : fX11_victors_t_b15 n d a1 I L = some (r, I', L')) : am_J x (fun S => S = (some (.int r), (KC al), (RC al), I', L')) 15 [some (.ref 0), some (.int a1), none, none, none] [] (KC al) (RC al) I L mc ms := by
  unfold fX11_victors_t_b15 at hf
  refine j_iconst (v := (0 : Int32)) hc dX11_victors_15 ci_0 ?_
  refine j_istore_n hc dX11_victors_16 (Nat.le_of_ble_eq_true rfl) hf (fun v1 hf => ?_)
  refine j_iconst (v := (0 : Int32)) hc dX11_victors_17 ci_0 ?_
  refine j_istore_n hc dX11_victors_18 (Nat.le_of_ble_eq_true rfl) hf (fun v2 hf => ?_)
  exact j_sub (tX11_victors_v_b19 n d mc ms hc n _ _ _ _ _ hf) (And.intro rfl (And.intro rfl (And.intro rfl (And.intro rfl (trivial)))))

set_option maxRecDepth 100000 in
set_option maxHeartbeats 4000000 in
theorem tX11_countWinsOfSpeeds_x_b173 {x : am_X} {al : Bool} {nc ns mc ms : Nat} {res : am_S → Prop} (n d : Nat) (hc : am_ok x cX11_countWinsOfSpeeds yX11_countWinsOfSpeeds 7 none (d + 6) mc ms) {I' : am_I} {L' : am_L} (k3 : Int32 → Int32 → Int32 → Int32 → am_I → am_L → Option (am_I × am_L)) (hk3 : ∀ (a1 : Int32) (a2 : Int32) (a3 : Int32) (a4 : Int32) (I : am_I) (L : am_L), k3 a1 a2 a3 a4 I L = some (I', L') → am_J x res 3 [some (.ref 0), some (.int a1), some (.int a2), some (.int a3), some (.int a4), none, none] [] (KC al) (RC al) I L nc ns) (a1 : Int32) (a2 : Int32) (a3 : Int32) (a4 : Int32) (I : am_I) (L : am_L) (hf : fX11_countWinsOfSpeeds_t_b173 n d k3 a1 a2 a3 a4 I L = some (I', L')) : am_J x res 173 [some (.ref 0), some (.int a1), some (.int a2), some (.int a3), some (.int a4), none, none] [] (KC al) (RC al) I L nc ns := by
  unfold fX11_countWinsOfSpeeds_t_b173 at hf
  refine j_iinc (w := (1 : Int32)) hc dX11_countWinsOfSpeeds_173 rfl ci_1 (Nat.le_of_ble_eq_true rfl) hf (fun v1 hf => ?_)
  refine j_goto (tgt := 3) hc dX11_countWinsOfSpeeds_176 rfl ?_
  exact j_sub (hk3 _ _ _ _ _ _ hf) (And.intro rfl (And.intro rfl (And.intro rfl (And.intro rfl (And.intro rfl (trivial))))))

set_option maxRecDepth 100000 in
set_option maxHeartbeats 4000000 in
theorem tX11_countWinsOfSpeeds_x_b167 {x : am_X} {al : Bool} {nc ns mc ms : Nat} {res : am_S → Prop} (n d : Nat) (hc : am_ok x cX11_countWinsOfSpeeds yX11_countWinsOfSpeeds 7 none (d + 6) mc ms) {I' : am_I} {L' : am_L} (k3 : Int32 → Int32 → Int32 → Int32 → am_I → am_L → Option (am_I × am_L)) (k65 : Int32 → Int32 → Int32 → Int32 → Int32 → Int32 → am_I → am_L → Option (am_I × am_L)) (hk3 : ∀ (a1 : Int32) (a2 : Int32) (a3 : Int32) (a4 : Int32) (I : am_I) (L : am_L), k3 a1 a2 a3 a4 I L = some (I', L') → am_J x res 3 [some (.ref 0), some (.int a1), some (.int a2), some (.int a3), some (.int a4), none, none] [] (KC al) (RC al) I L nc ns) (hk65 : ∀ (a1 : Int32) (a2 : Int32) (a3 : Int32) (a4 : Int32) (a5 : Int32) (a6 : Int32) (I : am_I) (L : am_L), k65 a1 a2 a3 a4 a5 a6 I L = some (I', L') → am_J x res 65 [some (.ref 0), some (.int a1), some (.int a2), some (.int a3), some (.int a4), some (.int a5), some (.int a6)] [] (KC al) (RC al) I L nc ns) (a1 : Int32) (a2 : Int32) (a3 : Int32) (a4 : Int32) (a5 : Int32) (a6 : Int32) (I : am_I) (L : am_L) (hf : fX11_countWinsOfSpeeds_t_b167 n d k3 k65 a1 a2 a3 a4 a5 a6 I L = some (I', L')) : am_J x res 167 [some (.ref 0), some (.int a1), some (.int a2), some (.int a3), some (.int a4), some (.int a5), some (.int a6)] [] (KC al) (RC al) I L nc ns := by
  unfold fX11_countWinsOfSpeeds_t_b167 at hf
  refine j_iinc (w := (1 : Int32)) hc dX11_countWinsOfSpeeds_167 rfl ci_1 (Nat.le_of_ble_eq_true rfl) hf (fun v1 hf => ?_)
  refine j_goto (tgt := 65) hc dX11_countWinsOfSpeeds_170 rfl ?_
  exact j_sub (hk65 _ _ _ _ _ _ _ _ hf) (And.intro rfl (And.intro rfl (And.intro rfl (And.intro rfl (And.intro rfl (And.intro rfl (And.intro rfl (trivial))))))))

set_option maxRecDepth 100000 in
set_option maxHeartbeats 4000000 in
theorem tX11_countWins_x_b45 {x : am_X} {al : Bool} {nc ns mc ms : Nat} {res : am_S → Prop} (n d : Nat) (hc : am_ok x cX11_countWins yX11_countWins 4 none (d + 7) mc ms) {I' : am_I} {L' : am_L} (k26 : Int32 → Int32 → am_I → am_L → Option (am_I × am_L)) (k33 : Int32 → Int32 → Int32 → am_I → am_L → Option (am_I × am_L)) (hk26 : ∀ (a1 : Int32) (a2 : Int32) (I : am_I) (L : am_L), k26 a1 a2 I L = some (I', L') → am_J x res 26 [some (.ref 0), some (.int a1), some (.int a2), none] [] (KC al) (RC al) I L nc ns) (hk33 : ∀ (a1 : Int32) (a2 : Int32) (a3 : Int32) (I : am_I) (L : am_L), k33 a1 a2 a3 I L = some (I', L') → am_J x res 33 [some (.ref 0), some (.int a1), some (.int a2), some (.int a3)] [] (KC al) (RC al) I L nc ns) (a1 : Int32) (a2 : Int32) (a3 : Int32) (I : am_I) (L : am_L) (hf : fX11_countWins_t_b45 n d k26 k33 a1 a2 a3 I L = some (I', L')) : am_J x res 45 [some (.ref 0), some (.int a1), some (.int a2), some (.int a3)] [] (KC al) (RC al) I L nc ns := by
  unfold fX11_countWins_t_b45 at hf
  refine j_iinc (w := (1 : Int32)) hc dX11_countWins_45 rfl ci_1 (Nat.le_of_ble_eq_true rfl) hf (fun v1 hf => ?_)
  refine j_goto (tgt := 33) hc dX11_countWins_48 rfl ?_
  exact j_sub (hk33 _ _ _ _ _ hf) (And.intro rfl (And.intro rfl (And.intro rfl (And.intro rfl (trivial)))))

def am_or {β : Type} (A B : Option β) : Option β := match A with
  | some r => some r
  | none => B

theorem am_orE {β : Type} {A B : Option β} {r : β} (h : am_or A B = some r) : A = some r ∨ B = some r := by
  cases A with
  | none => exact Or.inr h
  | some a => exact Or.inl h

noncomputable def am_hz {β : Type} (I : am_I) (K : Option β) : Option β := @ite _ ((I 67 = fun _ => 0) ∧ (I 68 = fun _ => 0)) (Classical.propDecidable _) K none

theorem am_hzE {β : Type} {I : am_I} {K : Option β} {r : β} (h : am_hz I K = some r) : ((I 67 = fun _ => 0) ∧ (I 68 = fun _ => 0)) ∧ K = some r := by
  unfold am_hz at h
  split at h
  next q => exact ⟨q, h⟩
  next => cases h

theorem am_hzT {β : Type} {I : am_I} {K : Option β} (h : (I 67 = fun _ => 0) ∧ (I 68 = fun _ => 0)) : am_hz I K = K := by
  unfold am_hz
  exact @if_pos _ (Classical.propDecidable _) h _ _ _

noncomputable def fX0_prepare_s_b46 (n d : Nat) (a1 : Int32) (a2 : Int32) (a3 : Int32) (a4 : Int32) (I : am_I) (L : am_L) : Option (am_I × am_L) :=
  am_hz I (fX0_prepare_t_b78 n d a1 a2 a3 a4 I L)

set_option maxRecDepth 100000 in
set_option maxHeartbeats 4000000 in
theorem rC_51_6e : RC false 51 6 = none := rfl

set_option maxRecDepth 100000 in
set_option maxHeartbeats 4000000 in
theorem tX0_prepare_s_b46 {x : am_X} (n d : Nat) (hc : am_ok x cX0_prepare yX0_prepare 6 none (d + 4) 2 11250) (hk0 : am_k0 x = fun k => k < 67 ∨ 1000000 ≤ k)  {I' : am_I} {L' : am_L} (a1 : Int32) (a2 : Int32) (a3 : Int32) (a4 : Int32) (I : am_I) (L : am_L) (hf : fX0_prepare_s_b46 n d a1 a2 a3 a4 I L = some (I', L')) : am_J x (fun S => S = (none, (KC true), (RC true), I', L')) 46 [some (.ref 51), some (.int a1), some (.int a2), some (.int a3), some (.int a4), none] [] (KC false) (RC false) I L 0 0 := by
  obtain ⟨⟨h67, h68⟩, hf⟩ := am_hzE hf
  refine j_aload_n hc dX0_prepare_46 rfl ?_
  refine j_getN hc dX0_prepare_47 (fgC_X0_32_51 _) rC_51_6e ?_
  refine j_ifnullN (tgt := 60) hc dX0_prepare_50 rfl ?_
  refine j_aload_n hc dX0_prepare_60 rfl ?_
  refine j_sipush (v := (5625 : Int32)) hc dX0_prepare_61 (by decide) ?_
  refine j_newI (n := 67) (N := 5625) hc dX0_prepare_64 rfl (am_mem 165 ki_165 rfl) (by decide) (by decide) h67 (am_RL_ne rfl) (am_k8 hk0 (by decide) (by decide)) rfl ⟨by decide, by decide⟩ ?_
  refine j_putR (t := 51) (j := 6) (u := 67) (ty := (.array .int)) hc dX0_prepare_66 ⟨0, 12, RX0, TX0, _, tyX0, rfl, clX0, inX0, kw_429, by decide, rfl, tyX0_ok, nmX0, by decide +kernel, rfl, fun h => Bool.noConfusion h⟩ (fun _ => rfl) (fun _ => rfl) ?_
  refine j_aload_n hc dX0_prepare_69 rfl ?_
  refine j_sipush (v := (5625 : Int32)) hc dX0_prepare_70 (by decide) ?_
  have eR : am_uR (RC false) 51 6 (some 67) = am_RL ((51, 6, 67) :: am_rcl) := am_RL_put _ 51 6 67
  rw [eR]
  refine j_newI (n := 68) (N := 5625) hc dX0_prepare_73 rfl (am_mem 165 ki_165 rfl) (by decide) (by decide) h68 (am_RL_ne rfl) (am_k8 hk0 (by decide) (by decide)) rfl ⟨by decide, by decide⟩ ?_
  refine j_putR (t := 51) (j := 7) (u := 68) (ty := (.array .int)) hc dX0_prepare_75 ⟨0, 12, RX0, TX0, _, tyX0, rfl, clX0, inX0, kw_430, by decide, rfl, tyX0_ok, nmX0, by decide +kernel, rfl, fun h => Bool.noConfusion h⟩ (fun _ => rfl) (fun _ => rfl) ?_
  have eR2 : am_uR (am_RL ((51, 6, 67) :: am_rcl)) 51 7 (some 68) = RC true := am_RL_put _ 51 7 68
  rw [eR2]
  exact j_sub (tX0_prepare_u_b78 n d 2 11250 hc _ _ _ _ _ _ hf) (And.intro rfl (And.intro rfl (And.intro rfl (And.intro rfl (And.intro rfl (trivial))))))

noncomputable def fX0_prepare_s_b21 (n d : Nat) (s0 : Int32) (a1 : Int32) (a2 : Int32) (a3 : Int32) (a4 : Int32) (I : am_I) (L : am_L) : Option (am_I × am_L) :=
  am_lt s0 (fun v1 => if v1 = 0 then
    (fX0_prepare_s_b46 n d a1 a2 a3 a4 I L)
    else
    (if (I 51 10) < a3 then
      (fX0_prepare_s_b46 n d a1 a2 a3 a4 I L)
      else
      (if (I 51 11) < a4 then
        (fX0_prepare_s_b46 n d a1 a2 a3 a4 I L)
        else
        none)))

set_option maxRecDepth 100000 in
set_option maxHeartbeats 4000000 in
theorem tX0_prepare_s_b21 {x : am_X} (n d : Nat) (hc : am_ok x cX0_prepare yX0_prepare 6 none (d + 4) 2 11250) (hk0 : am_k0 x = fun k => k < 67 ∨ 1000000 ≤ k)  {I' : am_I} {L' : am_L} (s0 : Int32) (a1 : Int32) (a2 : Int32) (a3 : Int32) (a4 : Int32) (I : am_I) (L : am_L) (hf : fX0_prepare_s_b21 n d s0 a1 a2 a3 a4 I L = some (I', L')) : am_J x (fun S => S = (none, (KC true), (RC true), I', L')) 21 [some (.ref 51), some (.int a1), some (.int a2), some (.int a3), some (.int a4), none] [.int s0] (KC false) (RC false) I L 0 0 := by
  unfold fX0_prepare_s_b21 at hf
  refine j_istore hc dX0_prepare_21 (Nat.le_of_ble_eq_true rfl) hf (fun v1 hf => ?_)
  refine j_iload hc dX0_prepare_23 rfl ?_
  refine j_if_eq (tgt := 46) hc dX0_prepare_25 rfl hf (fun hf => ?_) (fun hf => ?_)
  · exact j_sub (tX0_prepare_s_b46 n d hc hk0 _ _ _ _ _ _ hf) (And.intro rfl (And.intro rfl (And.intro rfl (And.intro rfl (And.intro rfl (trivial))))))
  · refine j_iload_n hc dX0_prepare_28 rfl ?_
    refine j_aload_n hc dX0_prepare_29 rfl ?_
    refine j_getI hc dX0_prepare_30 (fgC_X0_45_51 _) ?_
    refine j_icmp_gt (tgt := 46) hc dX0_prepare_33 rfl hf (fun hf => ?_) (fun hf => ?_)
    · exact j_sub (tX0_prepare_s_b46 n d hc hk0 _ _ _ _ _ _ hf) (And.intro rfl (And.intro rfl (And.intro rfl (And.intro rfl (And.intro rfl (trivial))))))
    · refine j_iload hc dX0_prepare_36 rfl ?_
      refine j_aload_n hc dX0_prepare_38 rfl ?_
      refine j_getI hc dX0_prepare_39 (fgC_X0_48_51 _) ?_
      refine j_icmp_gt (tgt := 46) hc dX0_prepare_42 rfl hf (fun hf => ?_) (fun hf => ?_)
      · exact j_sub (tX0_prepare_s_b46 n d hc hk0 _ _ _ _ _ _ hf) (And.intro rfl (And.intro rfl (And.intro rfl (And.intro rfl (And.intro rfl (trivial))))))
      · exact (Option.some_ne_none _ hf.symm).elim

noncomputable def fX0_prepare_s_b20 (n d : Nat) (a1 : Int32) (a2 : Int32) (a3 : Int32) (a4 : Int32) (I : am_I) (L : am_L) : Option (am_I × am_L) :=
  fX0_prepare_s_b21 n d (0 : Int32) a1 a2 a3 a4 I L

set_option maxRecDepth 100000 in
set_option maxHeartbeats 4000000 in
theorem tX0_prepare_s_b20 {x : am_X} (n d : Nat) (hc : am_ok x cX0_prepare yX0_prepare 6 none (d + 4) 2 11250) (hk0 : am_k0 x = fun k => k < 67 ∨ 1000000 ≤ k)  {I' : am_I} {L' : am_L} (a1 : Int32) (a2 : Int32) (a3 : Int32) (a4 : Int32) (I : am_I) (L : am_L) (hf : fX0_prepare_s_b20 n d a1 a2 a3 a4 I L = some (I', L')) : am_J x (fun S => S = (none, (KC true), (RC true), I', L')) 20 [some (.ref 51), some (.int a1), some (.int a2), some (.int a3), some (.int a4), none] [] (KC false) (RC false) I L 0 0 := by
  unfold fX0_prepare_s_b20 at hf
  refine j_iconst (v := (0 : Int32)) hc dX0_prepare_20 ci_0 ?_
  exact j_sub (tX0_prepare_s_b21 n d hc hk0 _ _ _ _ _ _ _ hf) (And.intro rfl (And.intro rfl (And.intro rfl (And.intro rfl (And.intro rfl (trivial))))))

noncomputable def fX0_prepare_s (n d : Nat) (a1 : Int32) (a2 : Int32) (a3 : Int32) (a4 : Int32) (I : am_I) (L : am_L) : Option (am_I × am_L) :=
  if a1 = (I 51 8) then
    (if a2 = (I 51 9) then
      (fX0_prepare_s_b21 n d (1 : Int32) a1 a2 a3 a4 I L)
      else
      (fX0_prepare_s_b20 n d a1 a2 a3 a4 I L))
    else
    (fX0_prepare_s_b20 n d a1 a2 a3 a4 I L)

set_option maxRecDepth 100000 in
set_option maxHeartbeats 4000000 in
theorem tX0_prepare_s {x : am_X} (n d : Nat) (hc : am_ok x cX0_prepare yX0_prepare 6 none (d + 4) 2 11250) (hk0 : am_k0 x = fun k => k < 67 ∨ 1000000 ≤ k)  {I' : am_I} {L' : am_L} (a1 : Int32) (a2 : Int32) (a3 : Int32) (a4 : Int32) (I : am_I) (L : am_L) (hf : fX0_prepare_s n d a1 a2 a3 a4 I L = some (I', L')) : am_J x (fun S => S = (none, (KC true), (RC true), I', L')) 0 [some (.ref 51), some (.int a1), some (.int a2), some (.int a3), some (.int a4), none] [] (KC false) (RC false) I L 0 0 := by
  unfold fX0_prepare_s at hf
  refine j_iload_n hc dX0_prepare_0 rfl ?_
  refine j_aload_n hc dX0_prepare_1 rfl ?_
  refine j_getI hc dX0_prepare_2 (fgC_X0_38_51 _) ?_
  refine j_icmp_ne (tgt := 20) hc dX0_prepare_5 rfl hf (fun hf => ?_) (fun hf => ?_)
  · exact j_sub (tX0_prepare_s_b20 n d hc hk0 _ _ _ _ _ _ hf) (And.intro rfl (And.intro rfl (And.intro rfl (And.intro rfl (And.intro rfl (trivial))))))
  · refine j_iload_n hc dX0_prepare_8 rfl ?_
    refine j_aload_n hc dX0_prepare_9 rfl ?_
    refine j_getI hc dX0_prepare_10 (fgC_X0_42_51 _) ?_
    refine j_icmp_ne (tgt := 20) hc dX0_prepare_13 rfl hf (fun hf => ?_) (fun hf => ?_)
    · exact j_sub (tX0_prepare_s_b20 n d hc hk0 _ _ _ _ _ _ hf) (And.intro rfl (And.intro rfl (And.intro rfl (And.intro rfl (And.intro rfl (trivial))))))
    · refine j_iconst (v := (1 : Int32)) hc dX0_prepare_16 ci_1 ?_
      refine j_goto (tgt := 21) hc dX0_prepare_17 rfl ?_
      exact j_sub (tX0_prepare_s_b21 n d hc hk0 _ _ _ _ _ _ _ hf) (And.intro rfl (And.intro rfl (And.intro rfl (And.intro rfl (And.intro rfl (trivial))))))

set_option maxRecDepth 100000 in
set_option maxHeartbeats 4000000 in
theorem qX0_prepare_s (l : Launch) (n d : Nat) (a1 : Int32) (a2 : Int32) (a3 : Int32) (a4 : Int32) (I : am_I) (L : am_L) (I' : am_I) (L' : am_L) (hf : fX0_prepare_s n d a1 a2 a3 a4 I L = some (I', L')) : am_CA l yX0_prepare cX0_prepare 6 none (d + 4) 2 11250 (fun k => k < 67 ∨ 1000000 ≤ k) [.ref 51, .int a1, .int a2, .int a3, .int a4] (KC false) (RC false) I L (fun S => S = (none, KC true, RC true, I', L')) := by
  exact am_introA (plainFor_of_name plX0) (fun _ h => Or.inr h) (Nat.le_of_ble_eq_true rfl) (fun x hl hc hk0 => by subst hl; exact j_sub (tX0_prepare_s n d hc hk0 _ _ _ _ _ _ hf) (And.intro rfl (And.intro rfl (And.intro rfl (And.intro rfl (And.intro rfl (trivial)))))))

noncomputable def fX11_makeDuelReady_s (n d : Nat) (a1 : Int32) (a2 : Int32) (I : am_I) (L : am_L) : Option (am_I × am_L) :=
  am_ck a1 8 (am_lt (I 6 (a1).toNatClampNeg) (fun v1 => am_lt v1 (fun v2 => am_ck a2 8 (am_lt (I 6 (a2).toNatClampNeg) (fun v3 => am_lt v3 (fun v4 => am_b3 (fX11_farthestPlace n d v2 I L) (fun v5 I5 L5 => am_b3 (fX11_farthestPlace n d v4 I5 L5) (fun v6 I6 L6 => am_b2 (fX0_prepare_s n d v2 v4 v5 v6 I6 L6) (fun I7 L7 => fX11_makeDuelReady_t_b42 n d I7 L7)))))))))

set_option maxRecDepth 100000 in
set_option maxHeartbeats 4000000 in
theorem tX11_makeDuelReady_s {x : am_X} (n d : Nat) (hc : am_ok x cX11_makeDuelReady yX11_makeDuelReady 5 none (d + 5) 2 11250) (hk0 : am_k0 x = fun k => k < 67 ∨ 1000000 ≤ k) {I' : am_I} {L' : am_L} (a1 : Int32) (a2 : Int32) (I : am_I) (L : am_L) (hf : fX11_makeDuelReady_s n d a1 a2 I L = some (I', L')) : am_J x (fun S => S = (none, (KC true), (RC true), I', L')) 0 [some (.ref 0), some (.int a1), some (.int a2), none, none] [] (KC false) (RC false) I L 0 0 := by
  unfold fX11_makeDuelReady_s at hf
  refine j_aload_n hc dX11_makeDuelReady_0 rfl ?_
  refine j_getR (u := 3) hc dX11_makeDuelReady_1 (fgC_X11_19_0 _) (rC_0_1 _) ?_
  refine j_getR (u := 6) hc dX11_makeDuelReady_4 (fgC_X11_171_3 _) (rC_3_7 _) ?_
  refine j_iload_n hc dX11_makeDuelReady_7 rfl ?_
  refine j_iaload (n := 8) hc dX11_makeDuelReady_8 (kC_6 _) hf (fun v1 hf => ?_)
  refine j_istore_n hc dX11_makeDuelReady_9 (Nat.le_of_ble_eq_true rfl) hf (fun v2 hf => ?_)
  refine j_aload_n hc dX11_makeDuelReady_10 rfl ?_
  refine j_getR (u := 3) hc dX11_makeDuelReady_11 (fgC_X11_19_0 _) (rC_0_1 _) ?_
  refine j_getR (u := 6) hc dX11_makeDuelReady_14 (fgC_X11_171_3 _) (rC_3_7 _) ?_
  refine j_iload_n hc dX11_makeDuelReady_17 rfl ?_
  refine j_iaload (n := 8) hc dX11_makeDuelReady_18 (kC_6 _) hf (fun v3 hf => ?_)
  refine j_istore hc dX11_makeDuelReady_19 (Nat.le_of_ble_eq_true rfl) hf (fun v4 hf => ?_)
  refine j_aload_n hc dX11_makeDuelReady_21 rfl ?_
  refine j_getR (u := 51) hc dX11_makeDuelReady_22 (fgC_X11_77_0 _) (rC_0_9 _) ?_
  refine j_iload_n hc dX11_makeDuelReady_25 rfl ?_
  refine j_iload hc dX11_makeDuelReady_26 rfl ?_
  refine j_aload_n hc dX11_makeDuelReady_28 rfl ?_
  refine j_iload_n hc dX11_makeDuelReady_29 rfl ?_
  refine j_callVI (t := 0) (As := [.int v2]) hc dX11_makeDuelReady_30 kw_1090 mX11_farthestPlace (kC_0 _) clX11 rfl (by omega) (Nat.le_of_ble_eq_true rfl) (Nat.le_of_ble_eq_true rfl) ⟨Nat.zero_le _, Nat.zero_le _⟩ hf (fun v I' L' h => qX11_farthestPlace x.2.1 n d v2 I L v I' L' h) (fun v5 I5 L5 hf => ?_)
  refine j_aload_n hc dX11_makeDuelReady_33 rfl ?_
  refine j_iload hc dX11_makeDuelReady_34 rfl ?_
  refine j_callVI (t := 0) (As := [.int v4]) hc dX11_makeDuelReady_36 kw_1090 mX11_farthestPlace (kC_0 _) clX11 rfl (by omega) (Nat.le_of_ble_eq_true rfl) (Nat.le_of_ble_eq_true rfl) ⟨Nat.zero_le _, Nat.zero_le _⟩ hf (fun v I' L' h => qX11_farthestPlace x.2.1 n d v4 I5 L5 v I' L' h) (fun v6 I6 L6 hf => ?_)
  obtain ⟨I7, L7, e1, hf⟩ := am_b2E hf; refine j_callEV (t := 51) (n := 67) (As := [.int v2, .int v4, .int v5, .int v6]) hc dX11_makeDuelReady_39 kw_1103 mX0_prepare (kC_51 _) clX0 rfl (am_k9 hk0 (Nat.le_refl _)) rfl (by omega) (Nat.le_of_ble_eq_true rfl) (Nat.le_of_ble_eq_true rfl) ⟨Nat.le_refl _, Nat.le_refl _⟩ (qX0_prepare_s x.2.1 n d v2 v4 v5 v6 I6 L6 I7 L7 e1) ?_; exact j_sub (tX11_makeDuelReady_u_b42 n d 2 11250 hc _ _ hf) (trivial)

set_option maxRecDepth 100000 in
set_option maxHeartbeats 4000000 in
theorem qX11_makeDuelReady_s (l : Launch) (n d : Nat) (a1 : Int32) (a2 : Int32) (I : am_I) (L : am_L) (I' : am_I) (L' : am_L) (hf : fX11_makeDuelReady_s n d a1 a2 I L = some (I', L')) : am_CA l yX11_makeDuelReady cX11_makeDuelReady 5 none (d + 5) 2 11250 (fun k => k < 67 ∨ 1000000 ≤ k) [.ref 0, .int a1, .int a2] (KC false) (RC false) I L (fun S => S = (none, KC true, RC true, I', L')) := by
  exact am_introA (plainFor_of_name plX11) (fun _ h => Or.inr h) (Nat.le_of_ble_eq_true rfl) (fun x hl hc hk0 => by subst hl; exact j_sub (tX11_makeDuelReady_s n d hc hk0 _ _ _ _ hf) (And.intro rfl (And.intro rfl (And.intro rfl (trivial)))))

def fX11_duel_n (n d : Nat) (a1 : Int32) (a2 : Int32) (a3 : Int32) (I : am_I) (L : am_L) : Option (Int32 × am_I × am_L) :=
  am_b3 (fX11_mayDuel n d a1 a2 I L) (fun v1 I1 L1 => if v1 = 0 then
    (some ((-1 : Int32), I1, L1))
    else
    (if a3 < 0 then
      (some ((-1 : Int32), I1, L1))
      else
      (if a3 ≤ (2 : Int32) then
        none
        else
        (some ((-1 : Int32), I1, L1)))))

set_option maxRecDepth 100000 in
set_option maxHeartbeats 4000000 in
theorem tX11_duel_n {x : am_X} (n d : Nat) (hc : am_ok x cX11_duel yX11_duel 6 (some .int) (d + 6) 0 0) {r : Int32} {I' : am_I} {L' : am_L} (a1 : Int32) (a2 : Int32) (a3 : Int32) (I : am_I) (L : am_L) (hf : fX11_duel_n n d a1 a2 a3 I L = some (r, I', L')) : am_J x (fun S => S = (some (.int r), (KC false), (RC false), I', L')) 0 [some (.ref 0), some (.int a1), some (.int a2), some (.int a3), none, none] [] (KC false) (RC false) I L 0 0 := by
  unfold fX11_duel_n at hf
  refine j_aload_n hc dX11_duel_0 rfl ?_
  refine j_iload_n hc dX11_duel_1 rfl ?_
  refine j_iload_n hc dX11_duel_2 rfl ?_
  refine j_callVI (t := 0) (As := [.int a1, .int a2]) hc dX11_duel_3 kw_1082 mX11_mayDuel (kC_0 _) clX11 rfl (by omega) (Nat.le_of_ble_eq_true rfl) (Nat.le_of_ble_eq_true rfl) ⟨Nat.le_refl _, Nat.le_refl _⟩ hf (fun v I' L' h => qX11_mayDuel x.2.1 n d a1 a2 I L v I' L' h) (fun v1 I1 L1 hf => ?_)
  refine j_if_eq (tgt := 18) hc dX11_duel_6 rfl hf (fun hf => ?_) (fun hf => ?_)
  · refine j_iconst (v := (-1 : Int32)) hc dX11_duel_18 ci_m1 ?_
    exact j_ireturn hc dX11_duel_19 rfl rfl hf
  · refine j_iload_n hc dX11_duel_9 rfl ?_
    refine j_if_lt (tgt := 18) hc dX11_duel_10 rfl hf (fun hf => ?_) (fun hf => ?_)
    · refine j_iconst (v := (-1 : Int32)) hc dX11_duel_18 ci_m1 ?_
      exact j_ireturn hc dX11_duel_19 rfl rfl hf
    · refine j_iload_n hc dX11_duel_13 rfl ?_
      refine j_iconst (v := (2 : Int32)) hc dX11_duel_14 ci_2 ?_
      refine j_icmp_le (tgt := 20) hc dX11_duel_15 rfl hf (fun hf => ?_) (fun hf => ?_)
      · refine j_aload_n hc dX11_duel_20 rfl ?_
        refine j_iload_n hc dX11_duel_21 rfl ?_
        refine j_iload_n hc dX11_duel_22 rfl ?_
        exact (Option.some_ne_none _ hf.symm).elim
      · refine j_iconst (v := (-1 : Int32)) hc dX11_duel_18 ci_m1 ?_
        exact j_ireturn hc dX11_duel_19 rfl rfl hf

set_option maxRecDepth 100000 in
set_option maxHeartbeats 4000000 in
theorem qX11_duel_n (l : Launch) (n d : Nat) (a1 : Int32) (a2 : Int32) (a3 : Int32) (I : am_I) (L : am_L) (r : Int32) (I' : am_I) (L' : am_L) (hf : fX11_duel_n n d a1 a2 a3 I L = some (r, I', L')) : am_CA l yX11_duel cX11_duel 6 (some .int) (d + 6) 0 0 (fun _ => True) [.ref 0, .int a1, .int a2, .int a3] (KC false) (RC false) I L (fun S => S = (some (.int r), KC false, RC false, I', L')) := by
  exact am_intro (plainFor_of_name plX11) (fun _ _ => trivial) (Nat.le_of_ble_eq_true rfl) (fun x hl hc => by subst hl; exact j_sub (tX11_duel_n n d hc _ _ _ _ _ hf) (And.intro rfl (And.intro rfl (And.intro rfl (And.intro rfl (trivial))))))

noncomputable def fX11_duel_s (n d : Nat) (a1 : Int32) (a2 : Int32) (a3 : Int32) (I : am_I) (L : am_L) : Option (Int32 × am_I × am_L) :=
  am_b3 (fX11_mayDuel n d a1 a2 I L) (fun v1 I1 L1 => if v1 = 0 then
    none
    else
    (if a3 < 0 then
      none
      else
      (if a3 ≤ (2 : Int32) then
        (am_b2 (fX11_makeDuelReady_s n d a1 a2 I1 L1) (fun I2 L2 => fX11_duel_t_b26 n d a1 a2 a3 I2 L2))
        else
        none)))

set_option maxRecDepth 100000 in
set_option maxHeartbeats 4000000 in
theorem tX11_duel_s {x : am_X} (n d : Nat) (hc : am_ok x cX11_duel yX11_duel 6 (some .int) (d + 6) 2 11250) (hk0 : am_k0 x = fun k => k < 67 ∨ 1000000 ≤ k) {r : Int32} {I' : am_I} {L' : am_L} (a1 : Int32) (a2 : Int32) (a3 : Int32) (I : am_I) (L : am_L) (hf : fX11_duel_s n d a1 a2 a3 I L = some (r, I', L')) : am_J x (fun S => S = (some (.int r), (KC true), (RC true), I', L')) 0 [some (.ref 0), some (.int a1), some (.int a2), some (.int a3), none, none] [] (KC false) (RC false) I L 0 0 := by
  unfold fX11_duel_s at hf
  refine j_aload_n hc dX11_duel_0 rfl ?_
  refine j_iload_n hc dX11_duel_1 rfl ?_
  refine j_iload_n hc dX11_duel_2 rfl ?_
  refine j_callVI (t := 0) (As := [.int a1, .int a2]) hc dX11_duel_3 kw_1082 mX11_mayDuel (kC_0 _) clX11 rfl (by omega) (Nat.le_of_ble_eq_true rfl) (Nat.le_of_ble_eq_true rfl) ⟨Nat.zero_le _, Nat.zero_le _⟩ hf (fun v I' L' h => qX11_mayDuel x.2.1 n d a1 a2 I L v I' L' h) (fun v1 I1 L1 hf => ?_)
  refine j_if_eq (tgt := 18) hc dX11_duel_6 rfl hf (fun hf => ?_) (fun hf => ?_)
  · refine j_iconst (v := (-1 : Int32)) hc dX11_duel_18 ci_m1 ?_
    exact (Option.some_ne_none _ hf.symm).elim
  · refine j_iload_n hc dX11_duel_9 rfl ?_
    refine j_if_lt (tgt := 18) hc dX11_duel_10 rfl hf (fun hf => ?_) (fun hf => ?_)
    · refine j_iconst (v := (-1 : Int32)) hc dX11_duel_18 ci_m1 ?_
      exact (Option.some_ne_none _ hf.symm).elim
    · refine j_iload_n hc dX11_duel_13 rfl ?_
      refine j_iconst (v := (2 : Int32)) hc dX11_duel_14 ci_2 ?_
      refine j_icmp_le (tgt := 20) hc dX11_duel_15 rfl hf (fun hf => ?_) (fun hf => ?_)
      · refine j_aload_n hc dX11_duel_20 rfl ?_
        refine j_iload_n hc dX11_duel_21 rfl ?_
        refine j_iload_n hc dX11_duel_22 rfl ?_
        obtain ⟨I2, L2, e1, hf⟩ := am_b2E hf; refine j_callEV (t := 0) (n := 67) (As := [.int a1, .int a2]) hc dX11_duel_23 kw_1086 mX11_makeDuelReady (kC_0 _) clX11 rfl (am_k9 hk0 (Nat.le_refl _)) rfl (by omega) (Nat.le_of_ble_eq_true rfl) (Nat.le_of_ble_eq_true rfl) ⟨Nat.le_refl _, Nat.le_refl _⟩ (qX11_makeDuelReady_s x.2.1 n d a1 a2 I1 L1 I2 L2 e1) ?_; exact j_sub (tX11_duel_u_b26 n d 2 11250 hc _ _ _ _ _ hf) (And.intro rfl (And.intro rfl (And.intro rfl (And.intro rfl (trivial)))))
      · refine j_iconst (v := (-1 : Int32)) hc dX11_duel_18 ci_m1 ?_
        exact (Option.some_ne_none _ hf.symm).elim

set_option maxRecDepth 100000 in
set_option maxHeartbeats 4000000 in
theorem qX11_duel_s (l : Launch) (n d : Nat) (a1 : Int32) (a2 : Int32) (a3 : Int32) (I : am_I) (L : am_L) (r : Int32) (I' : am_I) (L' : am_L) (hf : fX11_duel_s n d a1 a2 a3 I L = some (r, I', L')) : am_CA l yX11_duel cX11_duel 6 (some .int) (d + 6) 2 11250 (fun k => k < 67 ∨ 1000000 ≤ k) [.ref 0, .int a1, .int a2, .int a3] (KC false) (RC false) I L (fun S => S = (some (.int r), KC true, RC true, I', L')) := by
  exact am_introA (plainFor_of_name plX11) (fun _ h => Or.inr h) (Nat.le_of_ble_eq_true rfl) (fun x hl hc hk0 => by subst hl; exact j_sub (tX11_duel_s n d hc hk0 _ _ _ _ _ hf) (And.intro rfl (And.intro rfl (And.intro rfl (And.intro rfl (trivial))))))

def fX11_treaty_n (n d : Nat) (a1 : Int32) (a2 : Int32) (I : am_I) (L : am_L) : Option (Int32 × am_I × am_L) :=
  am_b3 (fX11_mayDuel n d a1 a2 I L) (fun v1 I1 L1 => if v1 = 0 then
    (some ((-1 : Int32), I1, L1))
    else
    none)

set_option maxRecDepth 100000 in
set_option maxHeartbeats 4000000 in
theorem tX11_treaty_n {x : am_X} (n d : Nat) (hc : am_ok x cX11_treaty yX11_treaty 9 (some .int) (d + 6) 0 0) {r : Int32} {I' : am_I} {L' : am_L} (a1 : Int32) (a2 : Int32) (I : am_I) (L : am_L) (hf : fX11_treaty_n n d a1 a2 I L = some (r, I', L')) : am_J x (fun S => S = (some (.int r), (KC false), (RC false), I', L')) 0 [some (.ref 0), some (.int a1), some (.int a2), none, none, none, none, none, none] [] (KC false) (RC false) I L 0 0 := by
  unfold fX11_treaty_n at hf
  refine j_aload_n hc dX11_treaty_0 rfl ?_
  refine j_iload_n hc dX11_treaty_1 rfl ?_
  refine j_iload_n hc dX11_treaty_2 rfl ?_
  refine j_callVI (t := 0) (As := [.int a1, .int a2]) hc dX11_treaty_3 kw_1082 mX11_mayDuel (kC_0 _) clX11 rfl (by omega) (Nat.le_of_ble_eq_true rfl) (Nat.le_of_ble_eq_true rfl) ⟨Nat.le_refl _, Nat.le_refl _⟩ hf (fun v I' L' h => qX11_mayDuel x.2.1 n d a1 a2 I L v I' L' h) (fun v1 I1 L1 hf => ?_)
  refine j_if_ne (tgt := 11) hc dX11_treaty_6 rfl hf (fun hf => ?_) (fun hf => ?_)
  · refine j_aload_n hc dX11_treaty_11 rfl ?_
    refine j_iload_n hc dX11_treaty_12 rfl ?_
    refine j_iload_n hc dX11_treaty_13 rfl ?_
    exact (Option.some_ne_none _ hf.symm).elim
  · refine j_iconst (v := (-1 : Int32)) hc dX11_treaty_9 ci_m1 ?_
    exact j_ireturn hc dX11_treaty_10 rfl rfl hf

set_option maxRecDepth 100000 in
set_option maxHeartbeats 4000000 in
theorem qX11_treaty_n (l : Launch) (n d : Nat) (a1 : Int32) (a2 : Int32) (I : am_I) (L : am_L) (r : Int32) (I' : am_I) (L' : am_L) (hf : fX11_treaty_n n d a1 a2 I L = some (r, I', L')) : am_CA l yX11_treaty cX11_treaty 9 (some .int) (d + 6) 0 0 (fun _ => True) [.ref 0, .int a1, .int a2] (KC false) (RC false) I L (fun S => S = (some (.int r), KC false, RC false, I', L')) := by
  exact am_intro (plainFor_of_name plX11) (fun _ _ => trivial) (Nat.le_of_ble_eq_true rfl) (fun x hl hc => by subst hl; exact j_sub (tX11_treaty_n n d hc _ _ _ _ hf) (And.intro rfl (And.intro rfl (And.intro rfl (trivial)))))

noncomputable def fX11_treaty_s (n d : Nat) (a1 : Int32) (a2 : Int32) (I : am_I) (L : am_L) : Option (Int32 × am_I × am_L) :=
  am_b3 (fX11_mayDuel n d a1 a2 I L) (fun v1 I1 L1 => if v1 = 0 then
    none
    else
    (am_b2 (fX11_makeDuelReady_s n d a1 a2 I1 L1) (fun I2 L2 => fX11_treaty_t_b17 n d a1 a2 I2 L2)))

set_option maxRecDepth 100000 in
set_option maxHeartbeats 4000000 in
theorem tX11_treaty_s {x : am_X} (n d : Nat) (hc : am_ok x cX11_treaty yX11_treaty 9 (some .int) (d + 6) 2 11250) (hk0 : am_k0 x = fun k => k < 67 ∨ 1000000 ≤ k) {r : Int32} {I' : am_I} {L' : am_L} (a1 : Int32) (a2 : Int32) (I : am_I) (L : am_L) (hf : fX11_treaty_s n d a1 a2 I L = some (r, I', L')) : am_J x (fun S => S = (some (.int r), (KC true), (RC true), I', L')) 0 [some (.ref 0), some (.int a1), some (.int a2), none, none, none, none, none, none] [] (KC false) (RC false) I L 0 0 := by
  unfold fX11_treaty_s at hf
  refine j_aload_n hc dX11_treaty_0 rfl ?_
  refine j_iload_n hc dX11_treaty_1 rfl ?_
  refine j_iload_n hc dX11_treaty_2 rfl ?_
  refine j_callVI (t := 0) (As := [.int a1, .int a2]) hc dX11_treaty_3 kw_1082 mX11_mayDuel (kC_0 _) clX11 rfl (by omega) (Nat.le_of_ble_eq_true rfl) (Nat.le_of_ble_eq_true rfl) ⟨Nat.zero_le _, Nat.zero_le _⟩ hf (fun v I' L' h => qX11_mayDuel x.2.1 n d a1 a2 I L v I' L' h) (fun v1 I1 L1 hf => ?_)
  refine j_if_ne (tgt := 11) hc dX11_treaty_6 rfl hf (fun hf => ?_) (fun hf => ?_)
  · refine j_aload_n hc dX11_treaty_11 rfl ?_
    refine j_iload_n hc dX11_treaty_12 rfl ?_
    refine j_iload_n hc dX11_treaty_13 rfl ?_
    obtain ⟨I2, L2, e1, hf⟩ := am_b2E hf; refine j_callEV (t := 0) (n := 67) (As := [.int a1, .int a2]) hc dX11_treaty_14 kw_1086 mX11_makeDuelReady (kC_0 _) clX11 rfl (am_k9 hk0 (Nat.le_refl _)) rfl (by omega) (Nat.le_of_ble_eq_true rfl) (Nat.le_of_ble_eq_true rfl) ⟨Nat.le_refl _, Nat.le_refl _⟩ (qX11_makeDuelReady_s x.2.1 n d a1 a2 I1 L1 I2 L2 e1) ?_; exact j_sub (tX11_treaty_u_b17 n d 2 11250 hc _ _ _ _ hf) (And.intro rfl (And.intro rfl (And.intro rfl (trivial))))
  · refine j_iconst (v := (-1 : Int32)) hc dX11_treaty_9 ci_m1 ?_
    exact (Option.some_ne_none _ hf.symm).elim

set_option maxRecDepth 100000 in
set_option maxHeartbeats 4000000 in
theorem qX11_treaty_s (l : Launch) (n d : Nat) (a1 : Int32) (a2 : Int32) (I : am_I) (L : am_L) (r : Int32) (I' : am_I) (L' : am_L) (hf : fX11_treaty_s n d a1 a2 I L = some (r, I', L')) : am_CA l yX11_treaty cX11_treaty 9 (some .int) (d + 6) 2 11250 (fun k => k < 67 ∨ 1000000 ≤ k) [.ref 0, .int a1, .int a2] (KC false) (RC false) I L (fun S => S = (some (.int r), KC true, RC true, I', L')) := by
  exact am_introA (plainFor_of_name plX11) (fun _ h => Or.inr h) (Nat.le_of_ble_eq_true rfl) (fun x hl hc hk0 => by subst hl; exact j_sub (tX11_treaty_s n d hc hk0 _ _ _ _ hf) (And.intro rfl (And.intro rfl (And.intro rfl (trivial)))))

def fX11_countWinsOfSpeeds_n_b65w (n d : Nat) (k3 : Int32 → Int32 → Int32 → Int32 → am_I → am_L → Option (am_I × am_L)) (k65 : Int32 → Int32 → Int32 → Int32 → Int32 → Int32 → am_I → am_L → Option (am_I × am_L)) (a1 : Int32) (a2 : Int32) (a3 : Int32) (a4 : Int32) (a5 : Int32) (a6 : Int32) (I : am_I) (L : am_L) : Option (am_I × am_L) :=
  if a5 = 0 then
    (fX11_countWinsOfSpeeds_t_b173 n d k3 a1 a2 a3 a4 I L)
    else
    (if (I 3 0) ≤ a6 then
      (fX11_countWinsOfSpeeds_t_b173 n d k3 a1 a2 a3 a4 I L)
      else
      (am_ck a6 8 (am_lt (I 4 (a6).toNatClampNeg) (fun v1 => if v1 = a1 then
        (fX11_countWinsOfSpeeds_t_b167 n d k3 k65 a1 a2 a3 a4 a5 a6 I L)
        else
        (am_ck a6 8 (am_lt (I 6 (a6).toNatClampNeg) (fun v2 => if v2 = a3 then
          (am_b3 (fX7_canGo n d a6 I L) (fun v3 I3 L3 => if v3 = 0 then
            (fX11_countWinsOfSpeeds_t_b167 n d k3 k65 a1 a2 a3 a4 a5 a6 I3 L3)
            else
            none))
          else
          (fX11_countWinsOfSpeeds_t_b167 n d k3 k65 a1 a2 a3 a4 a5 a6 I L))))))))

set_option maxRecDepth 100000 in
set_option maxHeartbeats 4000000 in
theorem tX11_countWinsOfSpeeds_n_b65w {x : am_X} (n d : Nat) (hc : am_ok x cX11_countWinsOfSpeeds yX11_countWinsOfSpeeds 7 none (d + 6) 0 0) {I' : am_I} {L' : am_L} (k3 : Int32 → Int32 → Int32 → Int32 → am_I → am_L → Option (am_I × am_L)) (k65 : Int32 → Int32 → Int32 → Int32 → Int32 → Int32 → am_I → am_L → Option (am_I × am_L)) (hk3 : ∀ (a1 : Int32) (a2 : Int32) (a3 : Int32) (a4 : Int32) (I : am_I) (L : am_L), k3 a1 a2 a3 a4 I L = some (I', L') → am_J x (fun S => S = (none, (KC false), (RC false), I', L')) 3 [some (.ref 0), some (.int a1), some (.int a2), some (.int a3), some (.int a4), none, none] [] (KC false) (RC false) I L 0 0) (hk65 : ∀ (a1 : Int32) (a2 : Int32) (a3 : Int32) (a4 : Int32) (a5 : Int32) (a6 : Int32) (I : am_I) (L : am_L), k65 a1 a2 a3 a4 a5 a6 I L = some (I', L') → am_J x (fun S => S = (none, (KC false), (RC false), I', L')) 65 [some (.ref 0), some (.int a1), some (.int a2), some (.int a3), some (.int a4), some (.int a5), some (.int a6)] [] (KC false) (RC false) I L 0 0) (a1 : Int32) (a2 : Int32) (a3 : Int32) (a4 : Int32) (a5 : Int32) (a6 : Int32) (I : am_I) (L : am_L) (hf : fX11_countWinsOfSpeeds_n_b65w n d k3 k65 a1 a2 a3 a4 a5 a6 I L = some (I', L')) : am_J x (fun S => S = (none, (KC false), (RC false), I', L')) 65 [some (.ref 0), some (.int a1), some (.int a2), some (.int a3), some (.int a4), some (.int a5), some (.int a6)] [] (KC false) (RC false) I L 0 0 := by
  unfold fX11_countWinsOfSpeeds_n_b65w at hf
  refine j_iload hc dX11_countWinsOfSpeeds_65 rfl ?_
  refine j_if_eq (tgt := 173) hc dX11_countWinsOfSpeeds_67 rfl hf (fun hf => ?_) (fun hf => ?_)
  · exact j_sub (tX11_countWinsOfSpeeds_x_b173 n d hc k3 hk3 _ _ _ _ _ _ hf) (And.intro rfl (And.intro rfl (And.intro rfl (And.intro rfl (And.intro rfl (trivial))))))
  · refine j_iload hc dX11_countWinsOfSpeeds_70 rfl ?_
    refine j_aload_n hc dX11_countWinsOfSpeeds_72 rfl ?_
    refine j_getR (u := 3) hc dX11_countWinsOfSpeeds_73 (fgC_X11_19_0 _) (rC_0_1 _) ?_
    refine j_getI hc dX11_countWinsOfSpeeds_76 (fgC_X11_151_3 _) ?_
    refine j_icmp_ge (tgt := 173) hc dX11_countWinsOfSpeeds_79 rfl hf (fun hf => ?_) (fun hf => ?_)
    · exact j_sub (tX11_countWinsOfSpeeds_x_b173 n d hc k3 hk3 _ _ _ _ _ _ hf) (And.intro rfl (And.intro rfl (And.intro rfl (And.intro rfl (And.intro rfl (trivial))))))
    · refine j_aload_n hc dX11_countWinsOfSpeeds_82 rfl ?_
      refine j_getR (u := 3) hc dX11_countWinsOfSpeeds_83 (fgC_X11_19_0 _) (rC_0_1 _) ?_
      refine j_getR (u := 4) hc dX11_countWinsOfSpeeds_86 (fgC_X11_165_3 _) (rC_3_5 _) ?_
      refine j_iload hc dX11_countWinsOfSpeeds_89 rfl ?_
      refine j_iaload (n := 8) hc dX11_countWinsOfSpeeds_91 (kC_4 _) hf (fun v1 hf => ?_)
      refine j_iload_n hc dX11_countWinsOfSpeeds_92 rfl ?_
      refine j_icmp_eq (tgt := 167) hc dX11_countWinsOfSpeeds_93 rfl hf (fun hf => ?_) (fun hf => ?_)
      · exact j_sub (tX11_countWinsOfSpeeds_x_b167 n d hc k3 k65 hk3 hk65 _ _ _ _ _ _ _ _ hf) (And.intro rfl (And.intro rfl (And.intro rfl (And.intro rfl (And.intro rfl (And.intro rfl (And.intro rfl (trivial))))))))
      · refine j_aload_n hc dX11_countWinsOfSpeeds_96 rfl ?_
        refine j_getR (u := 3) hc dX11_countWinsOfSpeeds_97 (fgC_X11_19_0 _) (rC_0_1 _) ?_
        refine j_getR (u := 6) hc dX11_countWinsOfSpeeds_100 (fgC_X11_171_3 _) (rC_3_7 _) ?_
        refine j_iload hc dX11_countWinsOfSpeeds_103 rfl ?_
        refine j_iaload (n := 8) hc dX11_countWinsOfSpeeds_105 (kC_6 _) hf (fun v2 hf => ?_)
        refine j_iload_n hc dX11_countWinsOfSpeeds_106 rfl ?_
        refine j_icmp_ne (tgt := 167) hc dX11_countWinsOfSpeeds_107 rfl hf (fun hf => ?_) (fun hf => ?_)
        · exact j_sub (tX11_countWinsOfSpeeds_x_b167 n d hc k3 k65 hk3 hk65 _ _ _ _ _ _ _ _ hf) (And.intro rfl (And.intro rfl (And.intro rfl (And.intro rfl (And.intro rfl (And.intro rfl (And.intro rfl (trivial))))))))
        · refine j_aload_n hc dX11_countWinsOfSpeeds_110 rfl ?_
          refine j_getR (u := 39) hc dX11_countWinsOfSpeeds_111 (fgC_X11_56_0 _) (rC_0_6 _) ?_
          refine j_iload hc dX11_countWinsOfSpeeds_114 rfl ?_
          refine j_callVI (t := 39) (As := [.int a6]) hc dX11_countWinsOfSpeeds_116 kw_916 mX7_canGo (kC_39 _) clX7 rfl (by omega) (Nat.le_of_ble_eq_true rfl) (Nat.le_of_ble_eq_true rfl) ⟨Nat.le_refl _, Nat.le_refl _⟩ hf (fun v I' L' h => qX7_canGo x.2.1 n d a6 I L v I' L' h) (fun v3 I3 L3 hf => ?_)
          refine j_if_eq (tgt := 167) hc dX11_countWinsOfSpeeds_119 rfl hf (fun hf => ?_) (fun hf => ?_)
          · exact j_sub (tX11_countWinsOfSpeeds_x_b167 n d hc k3 k65 hk3 hk65 _ _ _ _ _ _ _ _ hf) (And.intro rfl (And.intro rfl (And.intro rfl (And.intro rfl (And.intro rfl (And.intro rfl (And.intro rfl (trivial))))))))
          · refine j_aload_n hc dX11_countWinsOfSpeeds_122 rfl ?_
            refine j_iload hc dX11_countWinsOfSpeeds_123 rfl ?_
            refine j_iload hc dX11_countWinsOfSpeeds_125 rfl ?_
            exact (Option.some_ne_none _ hf.symm).elim

def fX11_countWinsOfSpeeds_n_b65 (n d : Nat) (k3 : Int32 → Int32 → Int32 → Int32 → am_I → am_L → Option (am_I × am_L)) : Nat → Int32 → Int32 → Int32 → Int32 → Int32 → Int32 → am_I → am_L → Option (am_I × am_L)
  | 0 => fun _ _ _ _ _ _ _ _ => none
  | m + 1 => fX11_countWinsOfSpeeds_n_b65w n d  k3 (fX11_countWinsOfSpeeds_n_b65 n d k3 m)

set_option maxRecDepth 100000 in
set_option maxHeartbeats 4000000 in
theorem tX11_countWinsOfSpeeds_n_b65 {x : am_X} (n d : Nat) (hc : am_ok x cX11_countWinsOfSpeeds yX11_countWinsOfSpeeds 7 none (d + 6) 0 0) {I' : am_I} {L' : am_L} (k3 : Int32 → Int32 → Int32 → Int32 → am_I → am_L → Option (am_I × am_L)) (hk3 : ∀ (a1 : Int32) (a2 : Int32) (a3 : Int32) (a4 : Int32) (I : am_I) (L : am_L), k3 a1 a2 a3 a4 I L = some (I', L') → am_J x (fun S => S = (none, (KC false), (RC false), I', L')) 3 [some (.ref 0), some (.int a1), some (.int a2), some (.int a3), some (.int a4), none, none] [] (KC false) (RC false) I L 0 0) (m : Nat) : ∀ (a1 : Int32) (a2 : Int32) (a3 : Int32) (a4 : Int32) (a5 : Int32) (a6 : Int32) (I : am_I) (L : am_L) (hf : fX11_countWinsOfSpeeds_n_b65 n d k3 m a1 a2 a3 a4 a5 a6 I L = some (I', L')), am_J x (fun S => S = (none, (KC false), (RC false), I', L')) 65 [some (.ref 0), some (.int a1), some (.int a2), some (.int a3), some (.int a4), some (.int a5), some (.int a6)] [] (KC false) (RC false) I L 0 0 := by
  induction m with
  | zero => intro a1 a2 a3 a4 a5 a6 I L hf; exact (Option.some_ne_none _ hf.symm).elim
  | succ m ih => intro a1 a2 a3 a4 a5 a6 I L hf; exact tX11_countWinsOfSpeeds_n_b65w n d hc k3 (fX11_countWinsOfSpeeds_n_b65 n d k3 m) hk3 ih a1 a2 a3 a4 a5 a6 I L hf

def fX11_countWinsOfSpeeds_n_b60 (n d : Nat) (k3 : Int32 → Int32 → Int32 → Int32 → am_I → am_L → Option (am_I × am_L)) (s0 : Int32) (a1 : Int32) (a2 : Int32) (a3 : Int32) (a4 : Int32) (I : am_I) (L : am_L) : Option (am_I × am_L) :=
  am_lt s0 (fun v1 => am_lt (0 : Int32) (fun v2 => fX11_countWinsOfSpeeds_n_b65 n d k3 n a1 a2 a3 a4 v1 v2 I L))

set_option maxRecDepth 100000 in
set_option maxHeartbeats 4000000 in
theorem tX11_countWinsOfSpeeds_n_b60 {x : am_X} (n d : Nat) (hc : am_ok x cX11_countWinsOfSpeeds yX11_countWinsOfSpeeds 7 none (d + 6) 0 0) {I' : am_I} {L' : am_L} (k3 : Int32 → Int32 → Int32 → Int32 → am_I → am_L → Option (am_I × am_L)) (hk3 : ∀ (a1 : Int32) (a2 : Int32) (a3 : Int32) (a4 : Int32) (I : am_I) (L : am_L), k3 a1 a2 a3 a4 I L = some (I', L') → am_J x (fun S => S = (none, (KC false), (RC false), I', L')) 3 [some (.ref 0), some (.int a1), some (.int a2), some (.int a3), some (.int a4), none, none] [] (KC false) (RC false) I L 0 0) (s0 : Int32) (a1 : Int32) (a2 : Int32) (a3 : Int32) (a4 : Int32) (I : am_I) (L : am_L) (hf : fX11_countWinsOfSpeeds_n_b60 n d k3 s0 a1 a2 a3 a4 I L = some (I', L')) : am_J x (fun S => S = (none, (KC false), (RC false), I', L')) 60 [some (.ref 0), some (.int a1), some (.int a2), some (.int a3), some (.int a4), none, none] [.int s0] (KC false) (RC false) I L 0 0 := by
  unfold fX11_countWinsOfSpeeds_n_b60 at hf
  refine j_istore hc dX11_countWinsOfSpeeds_60 (Nat.le_of_ble_eq_true rfl) hf (fun v1 hf => ?_)
  refine j_iconst (v := (0 : Int32)) hc dX11_countWinsOfSpeeds_62 ci_0 ?_
  refine j_istore hc dX11_countWinsOfSpeeds_63 (Nat.le_of_ble_eq_true rfl) hf (fun v2 hf => ?_)
  exact j_sub (tX11_countWinsOfSpeeds_n_b65 n d hc k3 hk3 n _ _ _ _ _ _ _ _ hf) (And.intro rfl (And.intro rfl (And.intro rfl (And.intro rfl (And.intro rfl (And.intro rfl (And.intro rfl (trivial))))))))

def fX11_countWinsOfSpeeds_n_b59 (n d : Nat) (k3 : Int32 → Int32 → Int32 → Int32 → am_I → am_L → Option (am_I × am_L)) (a1 : Int32) (a2 : Int32) (a3 : Int32) (a4 : Int32) (I : am_I) (L : am_L) : Option (am_I × am_L) :=
  fX11_countWinsOfSpeeds_n_b60 n d k3 (0 : Int32) a1 a2 a3 a4 I L

set_option maxRecDepth 100000 in
set_option maxHeartbeats 4000000 in
theorem tX11_countWinsOfSpeeds_n_b59 {x : am_X} (n d : Nat) (hc : am_ok x cX11_countWinsOfSpeeds yX11_countWinsOfSpeeds 7 none (d + 6) 0 0) {I' : am_I} {L' : am_L} (k3 : Int32 → Int32 → Int32 → Int32 → am_I → am_L → Option (am_I × am_L)) (hk3 : ∀ (a1 : Int32) (a2 : Int32) (a3 : Int32) (a4 : Int32) (I : am_I) (L : am_L), k3 a1 a2 a3 a4 I L = some (I', L') → am_J x (fun S => S = (none, (KC false), (RC false), I', L')) 3 [some (.ref 0), some (.int a1), some (.int a2), some (.int a3), some (.int a4), none, none] [] (KC false) (RC false) I L 0 0) (a1 : Int32) (a2 : Int32) (a3 : Int32) (a4 : Int32) (I : am_I) (L : am_L) (hf : fX11_countWinsOfSpeeds_n_b59 n d k3 a1 a2 a3 a4 I L = some (I', L')) : am_J x (fun S => S = (none, (KC false), (RC false), I', L')) 59 [some (.ref 0), some (.int a1), some (.int a2), some (.int a3), some (.int a4), none, none] [] (KC false) (RC false) I L 0 0 := by
  unfold fX11_countWinsOfSpeeds_n_b59 at hf
  refine j_iconst (v := (0 : Int32)) hc dX11_countWinsOfSpeeds_59 ci_0 ?_
  exact j_sub (tX11_countWinsOfSpeeds_n_b60 n d hc k3 hk3 _ _ _ _ _ _ _ hf) (And.intro rfl (And.intro rfl (And.intro rfl (And.intro rfl (And.intro rfl (trivial))))))

def fX11_countWinsOfSpeeds_n_b3w (n d : Nat) (k3 : Int32 → Int32 → Int32 → Int32 → am_I → am_L → Option (am_I × am_L)) (a1 : Int32) (a2 : Int32) (a3 : Int32) (a4 : Int32) (I : am_I) (L : am_L) : Option (am_I × am_L) :=
  if (I 3 0) ≤ a4 then
    (some (I, L))
    else
    (am_ck a4 8 (am_lt (I 4 (a4).toNatClampNeg) (fun v1 => if v1 = a1 then
      (am_ck a4 8 (am_lt (I 6 (a4).toNatClampNeg) (fun v2 => if v2 = a2 then
        (am_b3 (fX7_canGo n d a4 I L) (fun v3 I3 L3 => if v3 = 0 then
          (fX11_countWinsOfSpeeds_n_b59 n d k3 a1 a2 a3 a4 I3 L3)
          else
          (fX11_countWinsOfSpeeds_n_b60 n d k3 (1 : Int32) a1 a2 a3 a4 I3 L3)))
        else
        (fX11_countWinsOfSpeeds_n_b59 n d k3 a1 a2 a3 a4 I L))))
      else
      (fX11_countWinsOfSpeeds_n_b59 n d k3 a1 a2 a3 a4 I L))))

set_option maxRecDepth 100000 in
set_option maxHeartbeats 4000000 in
theorem tX11_countWinsOfSpeeds_n_b3w {x : am_X} (n d : Nat) (hc : am_ok x cX11_countWinsOfSpeeds yX11_countWinsOfSpeeds 7 none (d + 6) 0 0) {I' : am_I} {L' : am_L} (k3 : Int32 → Int32 → Int32 → Int32 → am_I → am_L → Option (am_I × am_L)) (hk3 : ∀ (a1 : Int32) (a2 : Int32) (a3 : Int32) (a4 : Int32) (I : am_I) (L : am_L), k3 a1 a2 a3 a4 I L = some (I', L') → am_J x (fun S => S = (none, (KC false), (RC false), I', L')) 3 [some (.ref 0), some (.int a1), some (.int a2), some (.int a3), some (.int a4), none, none] [] (KC false) (RC false) I L 0 0) (a1 : Int32) (a2 : Int32) (a3 : Int32) (a4 : Int32) (I : am_I) (L : am_L) (hf : fX11_countWinsOfSpeeds_n_b3w n d k3 a1 a2 a3 a4 I L = some (I', L')) : am_J x (fun S => S = (none, (KC false), (RC false), I', L')) 3 [some (.ref 0), some (.int a1), some (.int a2), some (.int a3), some (.int a4), none, none] [] (KC false) (RC false) I L 0 0 := by
  unfold fX11_countWinsOfSpeeds_n_b3w at hf
  refine j_iload hc dX11_countWinsOfSpeeds_3 rfl ?_
  refine j_aload_n hc dX11_countWinsOfSpeeds_5 rfl ?_
  refine j_getR (u := 3) hc dX11_countWinsOfSpeeds_6 (fgC_X11_19_0 _) (rC_0_1 _) ?_
  refine j_getI hc dX11_countWinsOfSpeeds_9 (fgC_X11_151_3 _) ?_
  refine j_icmp_ge (tgt := 179) hc dX11_countWinsOfSpeeds_12 rfl hf (fun hf => ?_) (fun hf => ?_)
  · exact j_return hc dX11_countWinsOfSpeeds_179 rfl rfl hf
  · refine j_aload_n hc dX11_countWinsOfSpeeds_15 rfl ?_
    refine j_getR (u := 3) hc dX11_countWinsOfSpeeds_16 (fgC_X11_19_0 _) (rC_0_1 _) ?_
    refine j_getR (u := 4) hc dX11_countWinsOfSpeeds_19 (fgC_X11_165_3 _) (rC_3_5 _) ?_
    refine j_iload hc dX11_countWinsOfSpeeds_22 rfl ?_
    refine j_iaload (n := 8) hc dX11_countWinsOfSpeeds_24 (kC_4 _) hf (fun v1 hf => ?_)
    refine j_iload_n hc dX11_countWinsOfSpeeds_25 rfl ?_
    refine j_icmp_ne (tgt := 59) hc dX11_countWinsOfSpeeds_26 rfl hf (fun hf => ?_) (fun hf => ?_)
    · exact j_sub (tX11_countWinsOfSpeeds_n_b59 n d hc k3 hk3 _ _ _ _ _ _ hf) (And.intro rfl (And.intro rfl (And.intro rfl (And.intro rfl (And.intro rfl (trivial))))))
    · refine j_aload_n hc dX11_countWinsOfSpeeds_29 rfl ?_
      refine j_getR (u := 3) hc dX11_countWinsOfSpeeds_30 (fgC_X11_19_0 _) (rC_0_1 _) ?_
      refine j_getR (u := 6) hc dX11_countWinsOfSpeeds_33 (fgC_X11_171_3 _) (rC_3_7 _) ?_
      refine j_iload hc dX11_countWinsOfSpeeds_36 rfl ?_
      refine j_iaload (n := 8) hc dX11_countWinsOfSpeeds_38 (kC_6 _) hf (fun v2 hf => ?_)
      refine j_iload_n hc dX11_countWinsOfSpeeds_39 rfl ?_
      refine j_icmp_ne (tgt := 59) hc dX11_countWinsOfSpeeds_40 rfl hf (fun hf => ?_) (fun hf => ?_)
      · exact j_sub (tX11_countWinsOfSpeeds_n_b59 n d hc k3 hk3 _ _ _ _ _ _ hf) (And.intro rfl (And.intro rfl (And.intro rfl (And.intro rfl (And.intro rfl (trivial))))))
      · refine j_aload_n hc dX11_countWinsOfSpeeds_43 rfl ?_
        refine j_getR (u := 39) hc dX11_countWinsOfSpeeds_44 (fgC_X11_56_0 _) (rC_0_6 _) ?_
        refine j_iload hc dX11_countWinsOfSpeeds_47 rfl ?_
        refine j_callVI (t := 39) (As := [.int a4]) hc dX11_countWinsOfSpeeds_49 kw_916 mX7_canGo (kC_39 _) clX7 rfl (by omega) (Nat.le_of_ble_eq_true rfl) (Nat.le_of_ble_eq_true rfl) ⟨Nat.le_refl _, Nat.le_refl _⟩ hf (fun v I' L' h => qX7_canGo x.2.1 n d a4 I L v I' L' h) (fun v3 I3 L3 hf => ?_)
        refine j_if_eq (tgt := 59) hc dX11_countWinsOfSpeeds_52 rfl hf (fun hf => ?_) (fun hf => ?_)
        · exact j_sub (tX11_countWinsOfSpeeds_n_b59 n d hc k3 hk3 _ _ _ _ _ _ hf) (And.intro rfl (And.intro rfl (And.intro rfl (And.intro rfl (And.intro rfl (trivial))))))
        · refine j_iconst (v := (1 : Int32)) hc dX11_countWinsOfSpeeds_55 ci_1 ?_
          refine j_goto (tgt := 60) hc dX11_countWinsOfSpeeds_56 rfl ?_
          exact j_sub (tX11_countWinsOfSpeeds_n_b60 n d hc k3 hk3 _ _ _ _ _ _ _ hf) (And.intro rfl (And.intro rfl (And.intro rfl (And.intro rfl (And.intro rfl (trivial))))))

def fX11_countWinsOfSpeeds_n_b3 (n d : Nat) : Nat → Int32 → Int32 → Int32 → Int32 → am_I → am_L → Option (am_I × am_L)
  | 0 => fun _ _ _ _ _ _ => none
  | m + 1 => fX11_countWinsOfSpeeds_n_b3w n d  (fX11_countWinsOfSpeeds_n_b3 n d m)

set_option maxRecDepth 100000 in
set_option maxHeartbeats 4000000 in
theorem tX11_countWinsOfSpeeds_n_b3 {x : am_X} (n d : Nat) (hc : am_ok x cX11_countWinsOfSpeeds yX11_countWinsOfSpeeds 7 none (d + 6) 0 0) {I' : am_I} {L' : am_L} (m : Nat) : ∀ (a1 : Int32) (a2 : Int32) (a3 : Int32) (a4 : Int32) (I : am_I) (L : am_L) (hf : fX11_countWinsOfSpeeds_n_b3 n d m a1 a2 a3 a4 I L = some (I', L')), am_J x (fun S => S = (none, (KC false), (RC false), I', L')) 3 [some (.ref 0), some (.int a1), some (.int a2), some (.int a3), some (.int a4), none, none] [] (KC false) (RC false) I L 0 0 := by
  induction m with
  | zero => intro a1 a2 a3 a4 I L hf; exact (Option.some_ne_none _ hf.symm).elim
  | succ m ih => intro a1 a2 a3 a4 I L hf; exact tX11_countWinsOfSpeeds_n_b3w n d hc (fX11_countWinsOfSpeeds_n_b3 n d m) ih a1 a2 a3 a4 I L hf

def fX11_countWinsOfSpeeds_n (n d : Nat) (a1 : Int32) (a2 : Int32) (a3 : Int32) (I : am_I) (L : am_L) : Option (am_I × am_L) :=
  am_lt (0 : Int32) (fun v1 => fX11_countWinsOfSpeeds_n_b3 n d n a1 a2 a3 v1 I L)

set_option maxRecDepth 100000 in
set_option maxHeartbeats 4000000 in
theorem tX11_countWinsOfSpeeds_n {x : am_X} (n d : Nat) (hc : am_ok x cX11_countWinsOfSpeeds yX11_countWinsOfSpeeds 7 none (d + 6) 0 0) {I' : am_I} {L' : am_L} (a1 : Int32) (a2 : Int32) (a3 : Int32) (I : am_I) (L : am_L) (hf : fX11_countWinsOfSpeeds_n n d a1 a2 a3 I L = some (I', L')) : am_J x (fun S => S = (none, (KC false), (RC false), I', L')) 0 [some (.ref 0), some (.int a1), some (.int a2), some (.int a3), none, none, none] [] (KC false) (RC false) I L 0 0 := by
  unfold fX11_countWinsOfSpeeds_n at hf
  refine j_iconst (v := (0 : Int32)) hc dX11_countWinsOfSpeeds_0 ci_0 ?_
  refine j_istore hc dX11_countWinsOfSpeeds_1 (Nat.le_of_ble_eq_true rfl) hf (fun v1 hf => ?_)
  exact j_sub (tX11_countWinsOfSpeeds_n_b3 n d hc n _ _ _ _ _ _ hf) (And.intro rfl (And.intro rfl (And.intro rfl (And.intro rfl (And.intro rfl (trivial))))))

set_option maxRecDepth 100000 in
set_option maxHeartbeats 4000000 in
theorem qX11_countWinsOfSpeeds_n (l : Launch) (n d : Nat) (a1 : Int32) (a2 : Int32) (a3 : Int32) (I : am_I) (L : am_L) (I' : am_I) (L' : am_L) (hf : fX11_countWinsOfSpeeds_n n d a1 a2 a3 I L = some (I', L')) : am_CA l yX11_countWinsOfSpeeds cX11_countWinsOfSpeeds 7 none (d + 6) 0 0 (fun _ => True) [.ref 0, .int a1, .int a2, .int a3] (KC false) (RC false) I L (fun S => S = (none, KC false, RC false, I', L')) := by
  exact am_intro (plainFor_of_name plX11) (fun _ _ => trivial) (Nat.le_of_ble_eq_true rfl) (fun x hl hc => by subst hl; exact j_sub (tX11_countWinsOfSpeeds_n n d hc _ _ _ _ _ hf) (And.intro rfl (And.intro rfl (And.intro rfl (And.intro rfl (trivial))))))

noncomputable def fX11_countWinsOfSpeeds_s_b65w (n d : Nat) (k3 k3t : Int32 → Int32 → Int32 → Int32 → am_I → am_L → Option (am_I × am_L)) (k65 k65t : Int32 → Int32 → Int32 → Int32 → Int32 → Int32 → am_I → am_L → Option (am_I × am_L)) (a1 : Int32) (a2 : Int32) (a3 : Int32) (a4 : Int32) (a5 : Int32) (a6 : Int32) (I : am_I) (L : am_L) : Option (am_I × am_L) :=
  if a5 = 0 then
    (fX11_countWinsOfSpeeds_t_b173 n d k3 a1 a2 a3 a4 I L)
    else
    (if (I 3 0) ≤ a6 then
      (fX11_countWinsOfSpeeds_t_b173 n d k3 a1 a2 a3 a4 I L)
      else
      (am_ck a6 8 (am_lt (I 4 (a6).toNatClampNeg) (fun v1 => if v1 = a1 then
        (fX11_countWinsOfSpeeds_t_b167 n d k3 k65 a1 a2 a3 a4 a5 a6 I L)
        else
        (am_ck a6 8 (am_lt (I 6 (a6).toNatClampNeg) (fun v2 => if v2 = a3 then
          (am_b3 (fX7_canGo n d a6 I L) (fun v3 I3 L3 => if v3 = 0 then
            (fX11_countWinsOfSpeeds_t_b167 n d k3 k65 a1 a2 a3 a4 a5 a6 I3 L3)
            else
            (am_b2 (fX11_makeDuelReady_s n d a4 a6 I3 L3) (fun I4 L4 => fX11_countWinsOfSpeeds_t_b130 n d k3t k65t a1 a2 a3 a4 a5 a6 I4 L4))))
          else
          (fX11_countWinsOfSpeeds_t_b167 n d k3 k65 a1 a2 a3 a4 a5 a6 I L))))))))

set_option maxRecDepth 100000 in
set_option maxHeartbeats 4000000 in
theorem tX11_countWinsOfSpeeds_s_b65w {x : am_X} (n d : Nat) (hc : am_ok x cX11_countWinsOfSpeeds yX11_countWinsOfSpeeds 7 none (d + 6) 2 11250) (hk0 : am_k0 x = fun k => k < 67 ∨ 1000000 ≤ k) {I' : am_I} {L' : am_L} (k3 k3t : Int32 → Int32 → Int32 → Int32 → am_I → am_L → Option (am_I × am_L)) (k65 k65t : Int32 → Int32 → Int32 → Int32 → Int32 → Int32 → am_I → am_L → Option (am_I × am_L)) (hk3 : ∀ (a1 : Int32) (a2 : Int32) (a3 : Int32) (a4 : Int32) (I : am_I) (L : am_L), k3 a1 a2 a3 a4 I L = some (I', L') → am_J x (fun S => S = (none, (KC true), (RC true), I', L')) 3 [some (.ref 0), some (.int a1), some (.int a2), some (.int a3), some (.int a4), none, none] [] (KC false) (RC false) I L 0 0) (hk3t : ∀ (a1 : Int32) (a2 : Int32) (a3 : Int32) (a4 : Int32) (I : am_I) (L : am_L), k3t a1 a2 a3 a4 I L = some (I', L') → am_J x (fun S => S = (none, (KC true), (RC true), I', L')) 3 [some (.ref 0), some (.int a1), some (.int a2), some (.int a3), some (.int a4), none, none] [] (KC true) (RC true) I L 2 11250) (hk65 : ∀ (a1 : Int32) (a2 : Int32) (a3 : Int32) (a4 : Int32) (a5 : Int32) (a6 : Int32) (I : am_I) (L : am_L), k65 a1 a2 a3 a4 a5 a6 I L = some (I', L') → am_J x (fun S => S = (none, (KC true), (RC true), I', L')) 65 [some (.ref 0), some (.int a1), some (.int a2), some (.int a3), some (.int a4), some (.int a5), some (.int a6)] [] (KC false) (RC false) I L 0 0) (hk65t : ∀ (a1 : Int32) (a2 : Int32) (a3 : Int32) (a4 : Int32) (a5 : Int32) (a6 : Int32) (I : am_I) (L : am_L), k65t a1 a2 a3 a4 a5 a6 I L = some (I', L') → am_J x (fun S => S = (none, (KC true), (RC true), I', L')) 65 [some (.ref 0), some (.int a1), some (.int a2), some (.int a3), some (.int a4), some (.int a5), some (.int a6)] [] (KC true) (RC true) I L 2 11250) (a1 : Int32) (a2 : Int32) (a3 : Int32) (a4 : Int32) (a5 : Int32) (a6 : Int32) (I : am_I) (L : am_L) (hf : fX11_countWinsOfSpeeds_s_b65w n d k3 k3t k65 k65t a1 a2 a3 a4 a5 a6 I L = some (I', L')) : am_J x (fun S => S = (none, (KC true), (RC true), I', L')) 65 [some (.ref 0), some (.int a1), some (.int a2), some (.int a3), some (.int a4), some (.int a5), some (.int a6)] [] (KC false) (RC false) I L 0 0 := by
  unfold fX11_countWinsOfSpeeds_s_b65w at hf
  refine j_iload hc dX11_countWinsOfSpeeds_65 rfl ?_
  refine j_if_eq (tgt := 173) hc dX11_countWinsOfSpeeds_67 rfl hf (fun hf => ?_) (fun hf => ?_)
  · exact j_sub (tX11_countWinsOfSpeeds_x_b173 n d hc k3 hk3 _ _ _ _ _ _ hf) (And.intro rfl (And.intro rfl (And.intro rfl (And.intro rfl (And.intro rfl (trivial))))))
  · refine j_iload hc dX11_countWinsOfSpeeds_70 rfl ?_
    refine j_aload_n hc dX11_countWinsOfSpeeds_72 rfl ?_
    refine j_getR (u := 3) hc dX11_countWinsOfSpeeds_73 (fgC_X11_19_0 _) (rC_0_1 _) ?_
    refine j_getI hc dX11_countWinsOfSpeeds_76 (fgC_X11_151_3 _) ?_
    refine j_icmp_ge (tgt := 173) hc dX11_countWinsOfSpeeds_79 rfl hf (fun hf => ?_) (fun hf => ?_)
    · exact j_sub (tX11_countWinsOfSpeeds_x_b173 n d hc k3 hk3 _ _ _ _ _ _ hf) (And.intro rfl (And.intro rfl (And.intro rfl (And.intro rfl (And.intro rfl (trivial))))))
    · refine j_aload_n hc dX11_countWinsOfSpeeds_82 rfl ?_
      refine j_getR (u := 3) hc dX11_countWinsOfSpeeds_83 (fgC_X11_19_0 _) (rC_0_1 _) ?_
      refine j_getR (u := 4) hc dX11_countWinsOfSpeeds_86 (fgC_X11_165_3 _) (rC_3_5 _) ?_
      refine j_iload hc dX11_countWinsOfSpeeds_89 rfl ?_
      refine j_iaload (n := 8) hc dX11_countWinsOfSpeeds_91 (kC_4 _) hf (fun v1 hf => ?_)
      refine j_iload_n hc dX11_countWinsOfSpeeds_92 rfl ?_
      refine j_icmp_eq (tgt := 167) hc dX11_countWinsOfSpeeds_93 rfl hf (fun hf => ?_) (fun hf => ?_)
      · exact j_sub (tX11_countWinsOfSpeeds_x_b167 n d hc k3 k65 hk3 hk65 _ _ _ _ _ _ _ _ hf) (And.intro rfl (And.intro rfl (And.intro rfl (And.intro rfl (And.intro rfl (And.intro rfl (And.intro rfl (trivial))))))))
      · refine j_aload_n hc dX11_countWinsOfSpeeds_96 rfl ?_
        refine j_getR (u := 3) hc dX11_countWinsOfSpeeds_97 (fgC_X11_19_0 _) (rC_0_1 _) ?_
        refine j_getR (u := 6) hc dX11_countWinsOfSpeeds_100 (fgC_X11_171_3 _) (rC_3_7 _) ?_
        refine j_iload hc dX11_countWinsOfSpeeds_103 rfl ?_
        refine j_iaload (n := 8) hc dX11_countWinsOfSpeeds_105 (kC_6 _) hf (fun v2 hf => ?_)
        refine j_iload_n hc dX11_countWinsOfSpeeds_106 rfl ?_
        refine j_icmp_ne (tgt := 167) hc dX11_countWinsOfSpeeds_107 rfl hf (fun hf => ?_) (fun hf => ?_)
        · exact j_sub (tX11_countWinsOfSpeeds_x_b167 n d hc k3 k65 hk3 hk65 _ _ _ _ _ _ _ _ hf) (And.intro rfl (And.intro rfl (And.intro rfl (And.intro rfl (And.intro rfl (And.intro rfl (And.intro rfl (trivial))))))))
        · refine j_aload_n hc dX11_countWinsOfSpeeds_110 rfl ?_
          refine j_getR (u := 39) hc dX11_countWinsOfSpeeds_111 (fgC_X11_56_0 _) (rC_0_6 _) ?_
          refine j_iload hc dX11_countWinsOfSpeeds_114 rfl ?_
          refine j_callVI (t := 39) (As := [.int a6]) hc dX11_countWinsOfSpeeds_116 kw_916 mX7_canGo (kC_39 _) clX7 rfl (by omega) (Nat.le_of_ble_eq_true rfl) (Nat.le_of_ble_eq_true rfl) ⟨Nat.zero_le _, Nat.zero_le _⟩ hf (fun v I' L' h => qX7_canGo x.2.1 n d a6 I L v I' L' h) (fun v3 I3 L3 hf => ?_)
          refine j_if_eq (tgt := 167) hc dX11_countWinsOfSpeeds_119 rfl hf (fun hf => ?_) (fun hf => ?_)
          · exact j_sub (tX11_countWinsOfSpeeds_x_b167 n d hc k3 k65 hk3 hk65 _ _ _ _ _ _ _ _ hf) (And.intro rfl (And.intro rfl (And.intro rfl (And.intro rfl (And.intro rfl (And.intro rfl (And.intro rfl (trivial))))))))
          · refine j_aload_n hc dX11_countWinsOfSpeeds_122 rfl ?_
            refine j_iload hc dX11_countWinsOfSpeeds_123 rfl ?_
            refine j_iload hc dX11_countWinsOfSpeeds_125 rfl ?_
            obtain ⟨I4, L4, e1, hf⟩ := am_b2E hf; refine j_callEV (t := 0) (n := 67) (As := [.int a4, .int a6]) hc dX11_countWinsOfSpeeds_127 kw_1086 mX11_makeDuelReady (kC_0 _) clX11 rfl (am_k9 hk0 (Nat.le_refl _)) rfl (by omega) (Nat.le_of_ble_eq_true rfl) (Nat.le_of_ble_eq_true rfl) ⟨Nat.le_refl _, Nat.le_refl _⟩ (qX11_makeDuelReady_s x.2.1 n d a4 a6 I3 L3 I4 L4 e1) ?_; exact j_sub (tX11_countWinsOfSpeeds_u_b130 n d 2 11250 hc k3t k65t hk3t hk65t _ _ _ _ _ _ _ _ hf) (And.intro rfl (And.intro rfl (And.intro rfl (And.intro rfl (And.intro rfl (And.intro rfl (And.intro rfl (trivial))))))))

noncomputable def fX11_countWinsOfSpeeds_s_b65 (n d : Nat) (k3 k3t : Int32 → Int32 → Int32 → Int32 → am_I → am_L → Option (am_I × am_L)) : Nat → Int32 → Int32 → Int32 → Int32 → Int32 → Int32 → am_I → am_L → Option (am_I × am_L)
  | 0 => fun _ _ _ _ _ _ _ _ => none
  | m + 1 => fX11_countWinsOfSpeeds_s_b65w n d k3 k3t (fX11_countWinsOfSpeeds_s_b65 n d k3 k3t m) (fX11_countWinsOfSpeeds_t_b65 n d k3t m)

set_option maxRecDepth 100000 in
set_option maxHeartbeats 4000000 in
theorem tX11_countWinsOfSpeeds_s_b65 {x : am_X} (n d : Nat) (hc : am_ok x cX11_countWinsOfSpeeds yX11_countWinsOfSpeeds 7 none (d + 6) 2 11250) (hk0 : am_k0 x = fun k => k < 67 ∨ 1000000 ≤ k) {I' : am_I} {L' : am_L} (k3 k3t : Int32 → Int32 → Int32 → Int32 → am_I → am_L → Option (am_I × am_L)) (hk3 : ∀ (a1 : Int32) (a2 : Int32) (a3 : Int32) (a4 : Int32) (I : am_I) (L : am_L), k3 a1 a2 a3 a4 I L = some (I', L') → am_J x (fun S => S = (none, (KC true), (RC true), I', L')) 3 [some (.ref 0), some (.int a1), some (.int a2), some (.int a3), some (.int a4), none, none] [] (KC false) (RC false) I L 0 0) (hk3t : ∀ (a1 : Int32) (a2 : Int32) (a3 : Int32) (a4 : Int32) (I : am_I) (L : am_L), k3t a1 a2 a3 a4 I L = some (I', L') → am_J x (fun S => S = (none, (KC true), (RC true), I', L')) 3 [some (.ref 0), some (.int a1), some (.int a2), some (.int a3), some (.int a4), none, none] [] (KC true) (RC true) I L 2 11250) (m : Nat) : ∀ (a1 : Int32) (a2 : Int32) (a3 : Int32) (a4 : Int32) (a5 : Int32) (a6 : Int32) (I : am_I) (L : am_L) (hf : fX11_countWinsOfSpeeds_s_b65 n d k3 k3t m a1 a2 a3 a4 a5 a6 I L = some (I', L')), am_J x (fun S => S = (none, (KC true), (RC true), I', L')) 65 [some (.ref 0), some (.int a1), some (.int a2), some (.int a3), some (.int a4), some (.int a5), some (.int a6)] [] (KC false) (RC false) I L 0 0 := by
  induction m with
  | zero => intro a1 a2 a3 a4 a5 a6 I L hf; exact (Option.some_ne_none _ hf.symm).elim
  | succ m ih => intro a1 a2 a3 a4 a5 a6 I L hf; exact tX11_countWinsOfSpeeds_s_b65w n d hc hk0 k3 k3t (fX11_countWinsOfSpeeds_s_b65 n d k3 k3t m) (fX11_countWinsOfSpeeds_t_b65 n d k3t m) hk3 hk3t ih (tX11_countWinsOfSpeeds_u_b65 n d 2 11250 hc k3t hk3t m) a1 a2 a3 a4 a5 a6 I L hf

noncomputable def fX11_countWinsOfSpeeds_s_b60 (n d : Nat) (k3 k3t : Int32 → Int32 → Int32 → Int32 → am_I → am_L → Option (am_I × am_L)) (s0 : Int32) (a1 : Int32) (a2 : Int32) (a3 : Int32) (a4 : Int32) (I : am_I) (L : am_L) : Option (am_I × am_L) :=
  am_lt s0 (fun v1 => am_lt (0 : Int32) (fun v2 => fX11_countWinsOfSpeeds_s_b65 n d k3 k3t n a1 a2 a3 a4 v1 v2 I L))

set_option maxRecDepth 100000 in
set_option maxHeartbeats 4000000 in
theorem tX11_countWinsOfSpeeds_s_b60 {x : am_X} (n d : Nat) (hc : am_ok x cX11_countWinsOfSpeeds yX11_countWinsOfSpeeds 7 none (d + 6) 2 11250) (hk0 : am_k0 x = fun k => k < 67 ∨ 1000000 ≤ k) {I' : am_I} {L' : am_L} (k3 k3t : Int32 → Int32 → Int32 → Int32 → am_I → am_L → Option (am_I × am_L)) (hk3 : ∀ (a1 : Int32) (a2 : Int32) (a3 : Int32) (a4 : Int32) (I : am_I) (L : am_L), k3 a1 a2 a3 a4 I L = some (I', L') → am_J x (fun S => S = (none, (KC true), (RC true), I', L')) 3 [some (.ref 0), some (.int a1), some (.int a2), some (.int a3), some (.int a4), none, none] [] (KC false) (RC false) I L 0 0) (hk3t : ∀ (a1 : Int32) (a2 : Int32) (a3 : Int32) (a4 : Int32) (I : am_I) (L : am_L), k3t a1 a2 a3 a4 I L = some (I', L') → am_J x (fun S => S = (none, (KC true), (RC true), I', L')) 3 [some (.ref 0), some (.int a1), some (.int a2), some (.int a3), some (.int a4), none, none] [] (KC true) (RC true) I L 2 11250) (s0 : Int32) (a1 : Int32) (a2 : Int32) (a3 : Int32) (a4 : Int32) (I : am_I) (L : am_L) (hf : fX11_countWinsOfSpeeds_s_b60 n d k3 k3t s0 a1 a2 a3 a4 I L = some (I', L')) : am_J x (fun S => S = (none, (KC true), (RC true), I', L')) 60 [some (.ref 0), some (.int a1), some (.int a2), some (.int a3), some (.int a4), none, none] [.int s0] (KC false) (RC false) I L 0 0 := by
  unfold fX11_countWinsOfSpeeds_s_b60 at hf
  refine j_istore hc dX11_countWinsOfSpeeds_60 (Nat.le_of_ble_eq_true rfl) hf (fun v1 hf => ?_)
  refine j_iconst (v := (0 : Int32)) hc dX11_countWinsOfSpeeds_62 ci_0 ?_
  refine j_istore hc dX11_countWinsOfSpeeds_63 (Nat.le_of_ble_eq_true rfl) hf (fun v2 hf => ?_)
  exact j_sub (tX11_countWinsOfSpeeds_s_b65 n d hc hk0 k3 k3t hk3 hk3t n _ _ _ _ _ _ _ _ hf) (And.intro rfl (And.intro rfl (And.intro rfl (And.intro rfl (And.intro rfl (And.intro rfl (And.intro rfl (trivial))))))))

noncomputable def fX11_countWinsOfSpeeds_s_b59 (n d : Nat) (k3 k3t : Int32 → Int32 → Int32 → Int32 → am_I → am_L → Option (am_I × am_L)) (a1 : Int32) (a2 : Int32) (a3 : Int32) (a4 : Int32) (I : am_I) (L : am_L) : Option (am_I × am_L) :=
  fX11_countWinsOfSpeeds_s_b60 n d k3 k3t (0 : Int32) a1 a2 a3 a4 I L

set_option maxRecDepth 100000 in
set_option maxHeartbeats 4000000 in
theorem tX11_countWinsOfSpeeds_s_b59 {x : am_X} (n d : Nat) (hc : am_ok x cX11_countWinsOfSpeeds yX11_countWinsOfSpeeds 7 none (d + 6) 2 11250) (hk0 : am_k0 x = fun k => k < 67 ∨ 1000000 ≤ k) {I' : am_I} {L' : am_L} (k3 k3t : Int32 → Int32 → Int32 → Int32 → am_I → am_L → Option (am_I × am_L)) (hk3 : ∀ (a1 : Int32) (a2 : Int32) (a3 : Int32) (a4 : Int32) (I : am_I) (L : am_L), k3 a1 a2 a3 a4 I L = some (I', L') → am_J x (fun S => S = (none, (KC true), (RC true), I', L')) 3 [some (.ref 0), some (.int a1), some (.int a2), some (.int a3), some (.int a4), none, none] [] (KC false) (RC false) I L 0 0) (hk3t : ∀ (a1 : Int32) (a2 : Int32) (a3 : Int32) (a4 : Int32) (I : am_I) (L : am_L), k3t a1 a2 a3 a4 I L = some (I', L') → am_J x (fun S => S = (none, (KC true), (RC true), I', L')) 3 [some (.ref 0), some (.int a1), some (.int a2), some (.int a3), some (.int a4), none, none] [] (KC true) (RC true) I L 2 11250) (a1 : Int32) (a2 : Int32) (a3 : Int32) (a4 : Int32) (I : am_I) (L : am_L) (hf : fX11_countWinsOfSpeeds_s_b59 n d k3 k3t a1 a2 a3 a4 I L = some (I', L')) : am_J x (fun S => S = (none, (KC true), (RC true), I', L')) 59 [some (.ref 0), some (.int a1), some (.int a2), some (.int a3), some (.int a4), none, none] [] (KC false) (RC false) I L 0 0 := by
  unfold fX11_countWinsOfSpeeds_s_b59 at hf
  refine j_iconst (v := (0 : Int32)) hc dX11_countWinsOfSpeeds_59 ci_0 ?_
  exact j_sub (tX11_countWinsOfSpeeds_s_b60 n d hc hk0 k3 k3t hk3 hk3t _ _ _ _ _ _ _ hf) (And.intro rfl (And.intro rfl (And.intro rfl (And.intro rfl (And.intro rfl (trivial))))))

noncomputable def fX11_countWinsOfSpeeds_s_b3w (n d : Nat) (k3 k3t : Int32 → Int32 → Int32 → Int32 → am_I → am_L → Option (am_I × am_L)) (a1 : Int32) (a2 : Int32) (a3 : Int32) (a4 : Int32) (I : am_I) (L : am_L) : Option (am_I × am_L) :=
  if (I 3 0) ≤ a4 then
    none
    else
    (am_ck a4 8 (am_lt (I 4 (a4).toNatClampNeg) (fun v1 => if v1 = a1 then
      (am_ck a4 8 (am_lt (I 6 (a4).toNatClampNeg) (fun v2 => if v2 = a2 then
        (am_b3 (fX7_canGo n d a4 I L) (fun v3 I3 L3 => if v3 = 0 then
          (fX11_countWinsOfSpeeds_s_b59 n d k3 k3t a1 a2 a3 a4 I3 L3)
          else
          (fX11_countWinsOfSpeeds_s_b60 n d k3 k3t (1 : Int32) a1 a2 a3 a4 I3 L3)))
        else
        (fX11_countWinsOfSpeeds_s_b59 n d k3 k3t a1 a2 a3 a4 I L))))
      else
      (fX11_countWinsOfSpeeds_s_b59 n d k3 k3t a1 a2 a3 a4 I L))))

set_option maxRecDepth 100000 in
set_option maxHeartbeats 4000000 in
theorem tX11_countWinsOfSpeeds_s_b3w {x : am_X} (n d : Nat) (hc : am_ok x cX11_countWinsOfSpeeds yX11_countWinsOfSpeeds 7 none (d + 6) 2 11250) (hk0 : am_k0 x = fun k => k < 67 ∨ 1000000 ≤ k) {I' : am_I} {L' : am_L} (k3 k3t : Int32 → Int32 → Int32 → Int32 → am_I → am_L → Option (am_I × am_L)) (hk3 : ∀ (a1 : Int32) (a2 : Int32) (a3 : Int32) (a4 : Int32) (I : am_I) (L : am_L), k3 a1 a2 a3 a4 I L = some (I', L') → am_J x (fun S => S = (none, (KC true), (RC true), I', L')) 3 [some (.ref 0), some (.int a1), some (.int a2), some (.int a3), some (.int a4), none, none] [] (KC false) (RC false) I L 0 0) (hk3t : ∀ (a1 : Int32) (a2 : Int32) (a3 : Int32) (a4 : Int32) (I : am_I) (L : am_L), k3t a1 a2 a3 a4 I L = some (I', L') → am_J x (fun S => S = (none, (KC true), (RC true), I', L')) 3 [some (.ref 0), some (.int a1), some (.int a2), some (.int a3), some (.int a4), none, none] [] (KC true) (RC true) I L 2 11250) (a1 : Int32) (a2 : Int32) (a3 : Int32) (a4 : Int32) (I : am_I) (L : am_L) (hf : fX11_countWinsOfSpeeds_s_b3w n d k3 k3t a1 a2 a3 a4 I L = some (I', L')) : am_J x (fun S => S = (none, (KC true), (RC true), I', L')) 3 [some (.ref 0), some (.int a1), some (.int a2), some (.int a3), some (.int a4), none, none] [] (KC false) (RC false) I L 0 0 := by
  unfold fX11_countWinsOfSpeeds_s_b3w at hf
  refine j_iload hc dX11_countWinsOfSpeeds_3 rfl ?_
  refine j_aload_n hc dX11_countWinsOfSpeeds_5 rfl ?_
  refine j_getR (u := 3) hc dX11_countWinsOfSpeeds_6 (fgC_X11_19_0 _) (rC_0_1 _) ?_
  refine j_getI hc dX11_countWinsOfSpeeds_9 (fgC_X11_151_3 _) ?_
  refine j_icmp_ge (tgt := 179) hc dX11_countWinsOfSpeeds_12 rfl hf (fun hf => ?_) (fun hf => ?_)
  · exact (Option.some_ne_none _ hf.symm).elim
  · refine j_aload_n hc dX11_countWinsOfSpeeds_15 rfl ?_
    refine j_getR (u := 3) hc dX11_countWinsOfSpeeds_16 (fgC_X11_19_0 _) (rC_0_1 _) ?_
    refine j_getR (u := 4) hc dX11_countWinsOfSpeeds_19 (fgC_X11_165_3 _) (rC_3_5 _) ?_
    refine j_iload hc dX11_countWinsOfSpeeds_22 rfl ?_
    refine j_iaload (n := 8) hc dX11_countWinsOfSpeeds_24 (kC_4 _) hf (fun v1 hf => ?_)
    refine j_iload_n hc dX11_countWinsOfSpeeds_25 rfl ?_
    refine j_icmp_ne (tgt := 59) hc dX11_countWinsOfSpeeds_26 rfl hf (fun hf => ?_) (fun hf => ?_)
    · exact j_sub (tX11_countWinsOfSpeeds_s_b59 n d hc hk0 k3 k3t hk3 hk3t _ _ _ _ _ _ hf) (And.intro rfl (And.intro rfl (And.intro rfl (And.intro rfl (And.intro rfl (trivial))))))
    · refine j_aload_n hc dX11_countWinsOfSpeeds_29 rfl ?_
      refine j_getR (u := 3) hc dX11_countWinsOfSpeeds_30 (fgC_X11_19_0 _) (rC_0_1 _) ?_
      refine j_getR (u := 6) hc dX11_countWinsOfSpeeds_33 (fgC_X11_171_3 _) (rC_3_7 _) ?_
      refine j_iload hc dX11_countWinsOfSpeeds_36 rfl ?_
      refine j_iaload (n := 8) hc dX11_countWinsOfSpeeds_38 (kC_6 _) hf (fun v2 hf => ?_)
      refine j_iload_n hc dX11_countWinsOfSpeeds_39 rfl ?_
      refine j_icmp_ne (tgt := 59) hc dX11_countWinsOfSpeeds_40 rfl hf (fun hf => ?_) (fun hf => ?_)
      · exact j_sub (tX11_countWinsOfSpeeds_s_b59 n d hc hk0 k3 k3t hk3 hk3t _ _ _ _ _ _ hf) (And.intro rfl (And.intro rfl (And.intro rfl (And.intro rfl (And.intro rfl (trivial))))))
      · refine j_aload_n hc dX11_countWinsOfSpeeds_43 rfl ?_
        refine j_getR (u := 39) hc dX11_countWinsOfSpeeds_44 (fgC_X11_56_0 _) (rC_0_6 _) ?_
        refine j_iload hc dX11_countWinsOfSpeeds_47 rfl ?_
        refine j_callVI (t := 39) (As := [.int a4]) hc dX11_countWinsOfSpeeds_49 kw_916 mX7_canGo (kC_39 _) clX7 rfl (by omega) (Nat.le_of_ble_eq_true rfl) (Nat.le_of_ble_eq_true rfl) ⟨Nat.zero_le _, Nat.zero_le _⟩ hf (fun v I' L' h => qX7_canGo x.2.1 n d a4 I L v I' L' h) (fun v3 I3 L3 hf => ?_)
        refine j_if_eq (tgt := 59) hc dX11_countWinsOfSpeeds_52 rfl hf (fun hf => ?_) (fun hf => ?_)
        · exact j_sub (tX11_countWinsOfSpeeds_s_b59 n d hc hk0 k3 k3t hk3 hk3t _ _ _ _ _ _ hf) (And.intro rfl (And.intro rfl (And.intro rfl (And.intro rfl (And.intro rfl (trivial))))))
        · refine j_iconst (v := (1 : Int32)) hc dX11_countWinsOfSpeeds_55 ci_1 ?_
          refine j_goto (tgt := 60) hc dX11_countWinsOfSpeeds_56 rfl ?_
          exact j_sub (tX11_countWinsOfSpeeds_s_b60 n d hc hk0 k3 k3t hk3 hk3t _ _ _ _ _ _ _ hf) (And.intro rfl (And.intro rfl (And.intro rfl (And.intro rfl (And.intro rfl (trivial))))))

noncomputable def fX11_countWinsOfSpeeds_s_b3 (n d : Nat) : Nat → Int32 → Int32 → Int32 → Int32 → am_I → am_L → Option (am_I × am_L)
  | 0 => fun _ _ _ _ _ _ => none
  | m + 1 => fX11_countWinsOfSpeeds_s_b3w n d (fX11_countWinsOfSpeeds_s_b3 n d m) (fX11_countWinsOfSpeeds_t_b3 n d m)

set_option maxRecDepth 100000 in
set_option maxHeartbeats 4000000 in
theorem tX11_countWinsOfSpeeds_s_b3 {x : am_X} (n d : Nat) (hc : am_ok x cX11_countWinsOfSpeeds yX11_countWinsOfSpeeds 7 none (d + 6) 2 11250) (hk0 : am_k0 x = fun k => k < 67 ∨ 1000000 ≤ k) {I' : am_I} {L' : am_L} (m : Nat) : ∀ (a1 : Int32) (a2 : Int32) (a3 : Int32) (a4 : Int32) (I : am_I) (L : am_L) (hf : fX11_countWinsOfSpeeds_s_b3 n d m a1 a2 a3 a4 I L = some (I', L')), am_J x (fun S => S = (none, (KC true), (RC true), I', L')) 3 [some (.ref 0), some (.int a1), some (.int a2), some (.int a3), some (.int a4), none, none] [] (KC false) (RC false) I L 0 0 := by
  induction m with
  | zero => intro a1 a2 a3 a4 I L hf; exact (Option.some_ne_none _ hf.symm).elim
  | succ m ih => intro a1 a2 a3 a4 I L hf; exact tX11_countWinsOfSpeeds_s_b3w n d hc hk0 (fX11_countWinsOfSpeeds_s_b3 n d m) (fX11_countWinsOfSpeeds_t_b3 n d m) ih (tX11_countWinsOfSpeeds_u_b3 n d 2 11250 hc m) a1 a2 a3 a4 I L hf

noncomputable def fX11_countWinsOfSpeeds_s (n d : Nat) (a1 : Int32) (a2 : Int32) (a3 : Int32) (I : am_I) (L : am_L) : Option (am_I × am_L) :=
  am_lt (0 : Int32) (fun v1 => fX11_countWinsOfSpeeds_s_b3 n d n a1 a2 a3 v1 I L)

set_option maxRecDepth 100000 in
set_option maxHeartbeats 4000000 in
theorem tX11_countWinsOfSpeeds_s {x : am_X} (n d : Nat) (hc : am_ok x cX11_countWinsOfSpeeds yX11_countWinsOfSpeeds 7 none (d + 6) 2 11250) (hk0 : am_k0 x = fun k => k < 67 ∨ 1000000 ≤ k) {I' : am_I} {L' : am_L} (a1 : Int32) (a2 : Int32) (a3 : Int32) (I : am_I) (L : am_L) (hf : fX11_countWinsOfSpeeds_s n d a1 a2 a3 I L = some (I', L')) : am_J x (fun S => S = (none, (KC true), (RC true), I', L')) 0 [some (.ref 0), some (.int a1), some (.int a2), some (.int a3), none, none, none] [] (KC false) (RC false) I L 0 0 := by
  unfold fX11_countWinsOfSpeeds_s at hf
  refine j_iconst (v := (0 : Int32)) hc dX11_countWinsOfSpeeds_0 ci_0 ?_
  refine j_istore hc dX11_countWinsOfSpeeds_1 (Nat.le_of_ble_eq_true rfl) hf (fun v1 hf => ?_)
  exact j_sub (tX11_countWinsOfSpeeds_s_b3 n d hc hk0 n _ _ _ _ _ _ hf) (And.intro rfl (And.intro rfl (And.intro rfl (And.intro rfl (And.intro rfl (trivial))))))

set_option maxRecDepth 100000 in
set_option maxHeartbeats 4000000 in
theorem qX11_countWinsOfSpeeds_s (l : Launch) (n d : Nat) (a1 : Int32) (a2 : Int32) (a3 : Int32) (I : am_I) (L : am_L) (I' : am_I) (L' : am_L) (hf : fX11_countWinsOfSpeeds_s n d a1 a2 a3 I L = some (I', L')) : am_CA l yX11_countWinsOfSpeeds cX11_countWinsOfSpeeds 7 none (d + 6) 2 11250 (fun k => k < 67 ∨ 1000000 ≤ k) [.ref 0, .int a1, .int a2, .int a3] (KC false) (RC false) I L (fun S => S = (none, KC true, RC true, I', L')) := by
  exact am_introA (plainFor_of_name plX11) (fun _ h => Or.inr h) (Nat.le_of_ble_eq_true rfl) (fun x hl hc hk0 => by subst hl; exact j_sub (tX11_countWinsOfSpeeds_s n d hc hk0 _ _ _ _ _ hf) (And.intro rfl (And.intro rfl (And.intro rfl (And.intro rfl (trivial))))))

def fX11_countWins_n_b33w (n d : Nat) (k26 : Int32 → Int32 → am_I → am_L → Option (am_I × am_L)) (k33 : Int32 → Int32 → Int32 → am_I → am_L → Option (am_I × am_L)) (a1 : Int32) (a2 : Int32) (a3 : Int32) (I : am_I) (L : am_L) : Option (am_I × am_L) :=
  if (5 : Int32) < a3 then
    (am_lt (a2 + (1 : Int32)) (fun v1 => k26 a1 v1 I L))
    else
    (am_b2 (fX11_countWinsOfSpeeds_n n d a1 a2 a3 I L) (fun I2 L2 => fX11_countWins_t_b45 n d k26 k33 a1 a2 a3 I2 L2))

set_option maxRecDepth 100000 in
set_option maxHeartbeats 4000000 in
theorem tX11_countWins_n_b33w {x : am_X} (n d : Nat) (hc : am_ok x cX11_countWins yX11_countWins 4 none (d + 7) 0 0) {I' : am_I} {L' : am_L} (k26 : Int32 → Int32 → am_I → am_L → Option (am_I × am_L)) (k33 : Int32 → Int32 → Int32 → am_I → am_L → Option (am_I × am_L)) (hk26 : ∀ (a1 : Int32) (a2 : Int32) (I : am_I) (L : am_L), k26 a1 a2 I L = some (I', L') → am_J x (fun S => S = (none, (KC false), (RC false), I', L')) 26 [some (.ref 0), some (.int a1), some (.int a2), none] [] (KC false) (RC false) I L 0 0) (hk33 : ∀ (a1 : Int32) (a2 : Int32) (a3 : Int32) (I : am_I) (L : am_L), k33 a1 a2 a3 I L = some (I', L') → am_J x (fun S => S = (none, (KC false), (RC false), I', L')) 33 [some (.ref 0), some (.int a1), some (.int a2), some (.int a3)] [] (KC false) (RC false) I L 0 0) (a1 : Int32) (a2 : Int32) (a3 : Int32) (I : am_I) (L : am_L) (hf : fX11_countWins_n_b33w n d k26 k33 a1 a2 a3 I L = some (I', L')) : am_J x (fun S => S = (none, (KC false), (RC false), I', L')) 33 [some (.ref 0), some (.int a1), some (.int a2), some (.int a3)] [] (KC false) (RC false) I L 0 0 := by
  unfold fX11_countWins_n_b33w at hf
  refine j_iload_n hc dX11_countWins_33 rfl ?_
  refine j_iconst (v := (5 : Int32)) hc dX11_countWins_34 ci_5 ?_
  refine j_icmp_gt (tgt := 51) hc dX11_countWins_35 rfl hf (fun hf => ?_) (fun hf => ?_)
  · refine j_iinc (w := (1 : Int32)) hc dX11_countWins_51 rfl ci_1 (Nat.le_of_ble_eq_true rfl) hf (fun v1 hf => ?_)
    refine j_goto (tgt := 26) hc dX11_countWins_54 rfl ?_
    exact j_sub (hk26 _ _ _ _ hf) (And.intro rfl (And.intro rfl (And.intro rfl (trivial))))
  · refine j_aload_n hc dX11_countWins_38 rfl ?_
    refine j_iload_n hc dX11_countWins_39 rfl ?_
    refine j_iload_n hc dX11_countWins_40 rfl ?_
    refine j_iload_n hc dX11_countWins_41 rfl ?_
    refine j_callVV (t := 0) (As := [.int a1, .int a2, .int a3]) hc dX11_countWins_42 kw_1160 mX11_countWinsOfSpeeds (kC_0 _) clX11 rfl (by omega) (Nat.le_of_ble_eq_true rfl) (Nat.le_of_ble_eq_true rfl) ⟨Nat.le_refl _, Nat.le_refl _⟩ hf (fun I' L' h => qX11_countWinsOfSpeeds_n x.2.1 n d a1 a2 a3 I L I' L' h) (fun I2 L2 hf => ?_)
    exact j_sub (tX11_countWins_x_b45 n d hc k26 k33 hk26 hk33 _ _ _ _ _ hf) (And.intro rfl (And.intro rfl (And.intro rfl (And.intro rfl (trivial)))))

def fX11_countWins_n_b33 (n d : Nat) (k26 : Int32 → Int32 → am_I → am_L → Option (am_I × am_L)) : Nat → Int32 → Int32 → Int32 → am_I → am_L → Option (am_I × am_L)
  | 0 => fun _ _ _ _ _ => none
  | m + 1 => fX11_countWins_n_b33w n d  k26 (fX11_countWins_n_b33 n d k26 m)

set_option maxRecDepth 100000 in
set_option maxHeartbeats 4000000 in
theorem tX11_countWins_n_b33 {x : am_X} (n d : Nat) (hc : am_ok x cX11_countWins yX11_countWins 4 none (d + 7) 0 0) {I' : am_I} {L' : am_L} (k26 : Int32 → Int32 → am_I → am_L → Option (am_I × am_L)) (hk26 : ∀ (a1 : Int32) (a2 : Int32) (I : am_I) (L : am_L), k26 a1 a2 I L = some (I', L') → am_J x (fun S => S = (none, (KC false), (RC false), I', L')) 26 [some (.ref 0), some (.int a1), some (.int a2), none] [] (KC false) (RC false) I L 0 0) (m : Nat) : ∀ (a1 : Int32) (a2 : Int32) (a3 : Int32) (I : am_I) (L : am_L) (hf : fX11_countWins_n_b33 n d k26 m a1 a2 a3 I L = some (I', L')), am_J x (fun S => S = (none, (KC false), (RC false), I', L')) 33 [some (.ref 0), some (.int a1), some (.int a2), some (.int a3)] [] (KC false) (RC false) I L 0 0 := by
  induction m with
  | zero => intro a1 a2 a3 I L hf; exact (Option.some_ne_none _ hf.symm).elim
  | succ m ih => intro a1 a2 a3 I L hf; exact tX11_countWins_n_b33w n d hc k26 (fX11_countWins_n_b33 n d k26 m) hk26 ih a1 a2 a3 I L hf

def fX11_countWins_n_b26w (n d : Nat) (k26 : Int32 → Int32 → am_I → am_L → Option (am_I × am_L)) (a1 : Int32) (a2 : Int32) (I : am_I) (L : am_L) : Option (am_I × am_L) :=
  if (5 : Int32) < a2 then
    (some (I, L))
    else
    (am_lt (1 : Int32) (fun v1 => fX11_countWins_n_b33 n d k26 n a1 a2 v1 I L))

set_option maxRecDepth 100000 in
set_option maxHeartbeats 4000000 in
theorem tX11_countWins_n_b26w {x : am_X} (n d : Nat) (hc : am_ok x cX11_countWins yX11_countWins 4 none (d + 7) 0 0) {I' : am_I} {L' : am_L} (k26 : Int32 → Int32 → am_I → am_L → Option (am_I × am_L)) (hk26 : ∀ (a1 : Int32) (a2 : Int32) (I : am_I) (L : am_L), k26 a1 a2 I L = some (I', L') → am_J x (fun S => S = (none, (KC false), (RC false), I', L')) 26 [some (.ref 0), some (.int a1), some (.int a2), none] [] (KC false) (RC false) I L 0 0) (a1 : Int32) (a2 : Int32) (I : am_I) (L : am_L) (hf : fX11_countWins_n_b26w n d k26 a1 a2 I L = some (I', L')) : am_J x (fun S => S = (none, (KC false), (RC false), I', L')) 26 [some (.ref 0), some (.int a1), some (.int a2), none] [] (KC false) (RC false) I L 0 0 := by
  unfold fX11_countWins_n_b26w at hf
  refine j_iload_n hc dX11_countWins_26 rfl ?_
  refine j_iconst (v := (5 : Int32)) hc dX11_countWins_27 ci_5 ?_
  refine j_icmp_gt (tgt := 57) hc dX11_countWins_28 rfl hf (fun hf => ?_) (fun hf => ?_)
  · exact j_return hc dX11_countWins_57 rfl rfl hf
  · refine j_iconst (v := (1 : Int32)) hc dX11_countWins_31 ci_1 ?_
    refine j_istore_n hc dX11_countWins_32 (Nat.le_of_ble_eq_true rfl) hf (fun v1 hf => ?_)
    exact j_sub (tX11_countWins_n_b33 n d hc k26 hk26 n _ _ _ _ _ hf) (And.intro rfl (And.intro rfl (And.intro rfl (And.intro rfl (trivial)))))

def fX11_countWins_n_b26 (n d : Nat) : Nat → Int32 → Int32 → am_I → am_L → Option (am_I × am_L)
  | 0 => fun _ _ _ _ => none
  | m + 1 => fX11_countWins_n_b26w n d  (fX11_countWins_n_b26 n d m)

set_option maxRecDepth 100000 in
set_option maxHeartbeats 4000000 in
theorem tX11_countWins_n_b26 {x : am_X} (n d : Nat) (hc : am_ok x cX11_countWins yX11_countWins 4 none (d + 7) 0 0) {I' : am_I} {L' : am_L} (m : Nat) : ∀ (a1 : Int32) (a2 : Int32) (I : am_I) (L : am_L) (hf : fX11_countWins_n_b26 n d m a1 a2 I L = some (I', L')), am_J x (fun S => S = (none, (KC false), (RC false), I', L')) 26 [some (.ref 0), some (.int a1), some (.int a2), none] [] (KC false) (RC false) I L 0 0 := by
  induction m with
  | zero => intro a1 a2 I L hf; exact (Option.some_ne_none _ hf.symm).elim
  | succ m ih => intro a1 a2 I L hf; exact tX11_countWins_n_b26w n d hc (fX11_countWins_n_b26 n d m) ih a1 a2 I L hf

def fX11_countWins_n_b2w (n d : Nat) (k2 : Int32 → Int32 → am_I → am_L → Option (am_I × am_L)) (a1 : Int32) (a2 : Int32) (I : am_I) (L : am_L) : Option (am_I × am_L) :=
  if (8 : Int32) ≤ a2 then
    (am_lt (1 : Int32) (fun v1 => fX11_countWins_n_b26 n d n a1 v1 I L))
    else
    (am_ck a2 8 (am_lt (am_up I 66 (a2).toNatClampNeg (0 : Int32)) (fun I2 => am_lt (a2 + (1 : Int32)) (fun v3 => k2 a1 v3 I2 L))))

set_option maxRecDepth 100000 in
set_option maxHeartbeats 4000000 in
theorem tX11_countWins_n_b2w {x : am_X} (n d : Nat) (hc : am_ok x cX11_countWins yX11_countWins 4 none (d + 7) 0 0) {I' : am_I} {L' : am_L} (k2 : Int32 → Int32 → am_I → am_L → Option (am_I × am_L)) (hk2 : ∀ (a1 : Int32) (a2 : Int32) (I : am_I) (L : am_L), k2 a1 a2 I L = some (I', L') → am_J x (fun S => S = (none, (KC false), (RC false), I', L')) 2 [some (.ref 0), some (.int a1), some (.int a2), none] [] (KC false) (RC false) I L 0 0) (a1 : Int32) (a2 : Int32) (I : am_I) (L : am_L) (hf : fX11_countWins_n_b2w n d k2 a1 a2 I L = some (I', L')) : am_J x (fun S => S = (none, (KC false), (RC false), I', L')) 2 [some (.ref 0), some (.int a1), some (.int a2), none] [] (KC false) (RC false) I L 0 0 := by
  unfold fX11_countWins_n_b2w at hf
  refine j_iload_n hc dX11_countWins_2 rfl ?_
  refine j_aload_n hc dX11_countWins_3 rfl ?_
  refine j_getR (u := 66) hc dX11_countWins_4 (fgC_X11_101_0 _) (rC_0_13 _) ?_
  refine j_alen0 (v := (8 : Int32)) hc dX11_countWins_7 (kC_66 _) cn_8 ?_
  refine j_icmp_ge (tgt := 24) hc dX11_countWins_8 rfl hf (fun hf => ?_) (fun hf => ?_)
  · refine j_iconst (v := (1 : Int32)) hc dX11_countWins_24 ci_1 ?_
    refine j_istore_n hc dX11_countWins_25 (Nat.le_of_ble_eq_true rfl) hf (fun v1 hf => ?_)
    exact j_sub (tX11_countWins_n_b26 n d hc n _ _ _ _ hf) (And.intro rfl (And.intro rfl (And.intro rfl (trivial))))
  · refine j_aload_n hc dX11_countWins_11 rfl ?_
    refine j_getR (u := 66) hc dX11_countWins_12 (fgC_X11_101_0 _) (rC_0_13 _) ?_
    refine j_iload_n hc dX11_countWins_15 rfl ?_
    refine j_iconst (v := (0 : Int32)) hc dX11_countWins_16 ci_0 ?_
    refine j_iastore (n := 8) hc dX11_countWins_17 (kC_66 _) hf (fun I2 hf => ?_)
    refine j_iinc (w := (1 : Int32)) hc dX11_countWins_18 rfl ci_1 (Nat.le_of_ble_eq_true rfl) hf (fun v3 hf => ?_)
    refine j_goto (tgt := 2) hc dX11_countWins_21 rfl ?_
    exact j_sub (hk2 _ _ _ _ hf) (And.intro rfl (And.intro rfl (And.intro rfl (trivial))))

def fX11_countWins_n_b2 (n d : Nat) : Nat → Int32 → Int32 → am_I → am_L → Option (am_I × am_L)
  | 0 => fun _ _ _ _ => none
  | m + 1 => fX11_countWins_n_b2w n d  (fX11_countWins_n_b2 n d m)

set_option maxRecDepth 100000 in
set_option maxHeartbeats 4000000 in
theorem tX11_countWins_n_b2 {x : am_X} (n d : Nat) (hc : am_ok x cX11_countWins yX11_countWins 4 none (d + 7) 0 0) {I' : am_I} {L' : am_L} (m : Nat) : ∀ (a1 : Int32) (a2 : Int32) (I : am_I) (L : am_L) (hf : fX11_countWins_n_b2 n d m a1 a2 I L = some (I', L')), am_J x (fun S => S = (none, (KC false), (RC false), I', L')) 2 [some (.ref 0), some (.int a1), some (.int a2), none] [] (KC false) (RC false) I L 0 0 := by
  induction m with
  | zero => intro a1 a2 I L hf; exact (Option.some_ne_none _ hf.symm).elim
  | succ m ih => intro a1 a2 I L hf; exact tX11_countWins_n_b2w n d hc (fX11_countWins_n_b2 n d m) ih a1 a2 I L hf

def fX11_countWins_n (n d : Nat) (a1 : Int32) (I : am_I) (L : am_L) : Option (am_I × am_L) :=
  am_lt (0 : Int32) (fun v1 => fX11_countWins_n_b2 n d n a1 v1 I L)

set_option maxRecDepth 100000 in
set_option maxHeartbeats 4000000 in
theorem tX11_countWins_n {x : am_X} (n d : Nat) (hc : am_ok x cX11_countWins yX11_countWins 4 none (d + 7) 0 0) {I' : am_I} {L' : am_L} (a1 : Int32) (I : am_I) (L : am_L) (hf : fX11_countWins_n n d a1 I L = some (I', L')) : am_J x (fun S => S = (none, (KC false), (RC false), I', L')) 0 [some (.ref 0), some (.int a1), none, none] [] (KC false) (RC false) I L 0 0 := by
  unfold fX11_countWins_n at hf
  refine j_iconst (v := (0 : Int32)) hc dX11_countWins_0 ci_0 ?_
  refine j_istore_n hc dX11_countWins_1 (Nat.le_of_ble_eq_true rfl) hf (fun v1 hf => ?_)
  exact j_sub (tX11_countWins_n_b2 n d hc n _ _ _ _ hf) (And.intro rfl (And.intro rfl (And.intro rfl (trivial))))

set_option maxRecDepth 100000 in
set_option maxHeartbeats 4000000 in
theorem qX11_countWins_n (l : Launch) (n d : Nat) (a1 : Int32) (I : am_I) (L : am_L) (I' : am_I) (L' : am_L) (hf : fX11_countWins_n n d a1 I L = some (I', L')) : am_CA l yX11_countWins cX11_countWins 4 none (d + 7) 0 0 (fun _ => True) [.ref 0, .int a1] (KC false) (RC false) I L (fun S => S = (none, KC false, RC false, I', L')) := by
  exact am_intro (plainFor_of_name plX11) (fun _ _ => trivial) (Nat.le_of_ble_eq_true rfl) (fun x hl hc => by subst hl; exact j_sub (tX11_countWins_n n d hc _ _ _ hf) (And.intro rfl (And.intro rfl (trivial))))

noncomputable def fX11_countWins_s_b33w (n d : Nat) (k26 k26t : Int32 → Int32 → am_I → am_L → Option (am_I × am_L)) (k33 k33t : Int32 → Int32 → Int32 → am_I → am_L → Option (am_I × am_L)) (a1 : Int32) (a2 : Int32) (a3 : Int32) (I : am_I) (L : am_L) : Option (am_I × am_L) :=
  if (5 : Int32) < a3 then
    (am_lt (a2 + (1 : Int32)) (fun v1 => k26 a1 v1 I L))
    else
    (am_or (am_b2 (fX11_countWinsOfSpeeds_n n d a1 a2 a3 I L) (fun I2 L2 => fX11_countWins_t_b45 n d k26 k33 a1 a2 a3 I2 L2)) (am_b2 (fX11_countWinsOfSpeeds_s n d a1 a2 a3 I L) (fun I2 L2 => fX11_countWins_t_b45 n d k26t k33t a1 a2 a3 I2 L2)))

set_option maxRecDepth 100000 in
set_option maxHeartbeats 4000000 in
theorem tX11_countWins_s_b33w {x : am_X} (n d : Nat) (hc : am_ok x cX11_countWins yX11_countWins 4 none (d + 7) 2 11250) (hk0 : am_k0 x = fun k => k < 67 ∨ 1000000 ≤ k) {I' : am_I} {L' : am_L} (k26 k26t : Int32 → Int32 → am_I → am_L → Option (am_I × am_L)) (k33 k33t : Int32 → Int32 → Int32 → am_I → am_L → Option (am_I × am_L)) (hk26 : ∀ (a1 : Int32) (a2 : Int32) (I : am_I) (L : am_L), k26 a1 a2 I L = some (I', L') → am_J x (fun S => S = (none, (KC true), (RC true), I', L')) 26 [some (.ref 0), some (.int a1), some (.int a2), none] [] (KC false) (RC false) I L 0 0) (hk26t : ∀ (a1 : Int32) (a2 : Int32) (I : am_I) (L : am_L), k26t a1 a2 I L = some (I', L') → am_J x (fun S => S = (none, (KC true), (RC true), I', L')) 26 [some (.ref 0), some (.int a1), some (.int a2), none] [] (KC true) (RC true) I L 2 11250) (hk33 : ∀ (a1 : Int32) (a2 : Int32) (a3 : Int32) (I : am_I) (L : am_L), k33 a1 a2 a3 I L = some (I', L') → am_J x (fun S => S = (none, (KC true), (RC true), I', L')) 33 [some (.ref 0), some (.int a1), some (.int a2), some (.int a3)] [] (KC false) (RC false) I L 0 0) (hk33t : ∀ (a1 : Int32) (a2 : Int32) (a3 : Int32) (I : am_I) (L : am_L), k33t a1 a2 a3 I L = some (I', L') → am_J x (fun S => S = (none, (KC true), (RC true), I', L')) 33 [some (.ref 0), some (.int a1), some (.int a2), some (.int a3)] [] (KC true) (RC true) I L 2 11250) (a1 : Int32) (a2 : Int32) (a3 : Int32) (I : am_I) (L : am_L) (hf : fX11_countWins_s_b33w n d k26 k26t k33 k33t a1 a2 a3 I L = some (I', L')) : am_J x (fun S => S = (none, (KC true), (RC true), I', L')) 33 [some (.ref 0), some (.int a1), some (.int a2), some (.int a3)] [] (KC false) (RC false) I L 0 0 := by
  unfold fX11_countWins_s_b33w at hf
  refine j_iload_n hc dX11_countWins_33 rfl ?_
  refine j_iconst (v := (5 : Int32)) hc dX11_countWins_34 ci_5 ?_
  refine j_icmp_gt (tgt := 51) hc dX11_countWins_35 rfl hf (fun hf => ?_) (fun hf => ?_)
  · refine j_iinc (w := (1 : Int32)) hc dX11_countWins_51 rfl ci_1 (Nat.le_of_ble_eq_true rfl) hf (fun v1 hf => ?_)
    refine j_goto (tgt := 26) hc dX11_countWins_54 rfl ?_
    exact j_sub (hk26 _ _ _ _ hf) (And.intro rfl (And.intro rfl (And.intro rfl (trivial))))
  · refine j_aload_n hc dX11_countWins_38 rfl ?_
    refine j_iload_n hc dX11_countWins_39 rfl ?_
    refine j_iload_n hc dX11_countWins_40 rfl ?_
    refine j_iload_n hc dX11_countWins_41 rfl ?_
    (rcases am_orE hf with hf | hf; (refine j_callVV (t := 0) (As := [.int a1, .int a2, .int a3]) hc dX11_countWins_42 kw_1160 mX11_countWinsOfSpeeds (kC_0 _) clX11 rfl (by omega) (Nat.le_of_ble_eq_true rfl) (Nat.le_of_ble_eq_true rfl) ⟨Nat.zero_le _, Nat.zero_le _⟩ hf (fun I' L' h => qX11_countWinsOfSpeeds_n x.2.1 n d a1 a2 a3 I L I' L' h) (fun I2 L2 hf => ?_); exact j_sub (tX11_countWins_x_b45 n d hc k26 k33 hk26 hk33 _ _ _ _ _ hf) (And.intro rfl (And.intro rfl (And.intro rfl (And.intro rfl (trivial)))))); (obtain ⟨I2, L2, e1, hf⟩ := am_b2E hf; refine j_callEV (t := 0) (n := 67) (As := [.int a1, .int a2, .int a3]) hc dX11_countWins_42 kw_1160 mX11_countWinsOfSpeeds (kC_0 _) clX11 rfl (am_k9 hk0 (Nat.le_refl _)) rfl (by omega) (Nat.le_of_ble_eq_true rfl) (Nat.le_of_ble_eq_true rfl) ⟨Nat.le_refl _, Nat.le_refl _⟩ (qX11_countWinsOfSpeeds_s x.2.1 n d a1 a2 a3 I L I2 L2 e1) ?_; exact j_sub (tX11_countWins_u_b45 n d 2 11250 hc k26t k33t hk26t hk33t _ _ _ _ _ hf) (And.intro rfl (And.intro rfl (And.intro rfl (And.intro rfl (trivial)))))))

noncomputable def fX11_countWins_s_b33 (n d : Nat) (k26 k26t : Int32 → Int32 → am_I → am_L → Option (am_I × am_L)) : Nat → Int32 → Int32 → Int32 → am_I → am_L → Option (am_I × am_L)
  | 0 => fun _ _ _ _ _ => none
  | m + 1 => fX11_countWins_s_b33w n d k26 k26t (fX11_countWins_s_b33 n d k26 k26t m) (fX11_countWins_t_b33 n d k26t m)

set_option maxRecDepth 100000 in
set_option maxHeartbeats 4000000 in
theorem tX11_countWins_s_b33 {x : am_X} (n d : Nat) (hc : am_ok x cX11_countWins yX11_countWins 4 none (d + 7) 2 11250) (hk0 : am_k0 x = fun k => k < 67 ∨ 1000000 ≤ k) {I' : am_I} {L' : am_L} (k26 k26t : Int32 → Int32 → am_I → am_L → Option (am_I × am_L)) (hk26 : ∀ (a1 : Int32) (a2 : Int32) (I : am_I) (L : am_L), k26 a1 a2 I L = some (I', L') → am_J x (fun S => S = (none, (KC true), (RC true), I', L')) 26 [some (.ref 0), some (.int a1), some (.int a2), none] [] (KC false) (RC false) I L 0 0) (hk26t : ∀ (a1 : Int32) (a2 : Int32) (I : am_I) (L : am_L), k26t a1 a2 I L = some (I', L') → am_J x (fun S => S = (none, (KC true), (RC true), I', L')) 26 [some (.ref 0), some (.int a1), some (.int a2), none] [] (KC true) (RC true) I L 2 11250) (m : Nat) : ∀ (a1 : Int32) (a2 : Int32) (a3 : Int32) (I : am_I) (L : am_L) (hf : fX11_countWins_s_b33 n d k26 k26t m a1 a2 a3 I L = some (I', L')), am_J x (fun S => S = (none, (KC true), (RC true), I', L')) 33 [some (.ref 0), some (.int a1), some (.int a2), some (.int a3)] [] (KC false) (RC false) I L 0 0 := by
  induction m with
  | zero => intro a1 a2 a3 I L hf; exact (Option.some_ne_none _ hf.symm).elim
  | succ m ih => intro a1 a2 a3 I L hf; exact tX11_countWins_s_b33w n d hc hk0 k26 k26t (fX11_countWins_s_b33 n d k26 k26t m) (fX11_countWins_t_b33 n d k26t m) hk26 hk26t ih (tX11_countWins_u_b33 n d 2 11250 hc k26t hk26t m) a1 a2 a3 I L hf

noncomputable def fX11_countWins_s_b26w (n d : Nat) (k26 k26t : Int32 → Int32 → am_I → am_L → Option (am_I × am_L)) (a1 : Int32) (a2 : Int32) (I : am_I) (L : am_L) : Option (am_I × am_L) :=
  if (5 : Int32) < a2 then
    none
    else
    (am_lt (1 : Int32) (fun v1 => fX11_countWins_s_b33 n d k26 k26t n a1 a2 v1 I L))

set_option maxRecDepth 100000 in
set_option maxHeartbeats 4000000 in
theorem tX11_countWins_s_b26w {x : am_X} (n d : Nat) (hc : am_ok x cX11_countWins yX11_countWins 4 none (d + 7) 2 11250) (hk0 : am_k0 x = fun k => k < 67 ∨ 1000000 ≤ k) {I' : am_I} {L' : am_L} (k26 k26t : Int32 → Int32 → am_I → am_L → Option (am_I × am_L)) (hk26 : ∀ (a1 : Int32) (a2 : Int32) (I : am_I) (L : am_L), k26 a1 a2 I L = some (I', L') → am_J x (fun S => S = (none, (KC true), (RC true), I', L')) 26 [some (.ref 0), some (.int a1), some (.int a2), none] [] (KC false) (RC false) I L 0 0) (hk26t : ∀ (a1 : Int32) (a2 : Int32) (I : am_I) (L : am_L), k26t a1 a2 I L = some (I', L') → am_J x (fun S => S = (none, (KC true), (RC true), I', L')) 26 [some (.ref 0), some (.int a1), some (.int a2), none] [] (KC true) (RC true) I L 2 11250) (a1 : Int32) (a2 : Int32) (I : am_I) (L : am_L) (hf : fX11_countWins_s_b26w n d k26 k26t a1 a2 I L = some (I', L')) : am_J x (fun S => S = (none, (KC true), (RC true), I', L')) 26 [some (.ref 0), some (.int a1), some (.int a2), none] [] (KC false) (RC false) I L 0 0 := by
  unfold fX11_countWins_s_b26w at hf
  refine j_iload_n hc dX11_countWins_26 rfl ?_
  refine j_iconst (v := (5 : Int32)) hc dX11_countWins_27 ci_5 ?_
  refine j_icmp_gt (tgt := 57) hc dX11_countWins_28 rfl hf (fun hf => ?_) (fun hf => ?_)
  · exact (Option.some_ne_none _ hf.symm).elim
  · refine j_iconst (v := (1 : Int32)) hc dX11_countWins_31 ci_1 ?_
    refine j_istore_n hc dX11_countWins_32 (Nat.le_of_ble_eq_true rfl) hf (fun v1 hf => ?_)
    exact j_sub (tX11_countWins_s_b33 n d hc hk0 k26 k26t hk26 hk26t n _ _ _ _ _ hf) (And.intro rfl (And.intro rfl (And.intro rfl (And.intro rfl (trivial)))))

noncomputable def fX11_countWins_s_b26 (n d : Nat) : Nat → Int32 → Int32 → am_I → am_L → Option (am_I × am_L)
  | 0 => fun _ _ _ _ => none
  | m + 1 => fX11_countWins_s_b26w n d (fX11_countWins_s_b26 n d m) (fX11_countWins_t_b26 n d m)

set_option maxRecDepth 100000 in
set_option maxHeartbeats 4000000 in
theorem tX11_countWins_s_b26 {x : am_X} (n d : Nat) (hc : am_ok x cX11_countWins yX11_countWins 4 none (d + 7) 2 11250) (hk0 : am_k0 x = fun k => k < 67 ∨ 1000000 ≤ k) {I' : am_I} {L' : am_L} (m : Nat) : ∀ (a1 : Int32) (a2 : Int32) (I : am_I) (L : am_L) (hf : fX11_countWins_s_b26 n d m a1 a2 I L = some (I', L')), am_J x (fun S => S = (none, (KC true), (RC true), I', L')) 26 [some (.ref 0), some (.int a1), some (.int a2), none] [] (KC false) (RC false) I L 0 0 := by
  induction m with
  | zero => intro a1 a2 I L hf; exact (Option.some_ne_none _ hf.symm).elim
  | succ m ih => intro a1 a2 I L hf; exact tX11_countWins_s_b26w n d hc hk0 (fX11_countWins_s_b26 n d m) (fX11_countWins_t_b26 n d m) ih (tX11_countWins_u_b26 n d 2 11250 hc m) a1 a2 I L hf

noncomputable def fX11_countWins_s_b2w (n d : Nat) (k2 : Int32 → Int32 → am_I → am_L → Option (am_I × am_L)) (a1 : Int32) (a2 : Int32) (I : am_I) (L : am_L) : Option (am_I × am_L) :=
  if (8 : Int32) ≤ a2 then
    (am_lt (1 : Int32) (fun v1 => fX11_countWins_s_b26 n d n a1 v1 I L))
    else
    (am_ck a2 8 (am_lt (am_up I 66 (a2).toNatClampNeg (0 : Int32)) (fun I2 => am_lt (a2 + (1 : Int32)) (fun v3 => k2 a1 v3 I2 L))))

set_option maxRecDepth 100000 in
set_option maxHeartbeats 4000000 in
theorem tX11_countWins_s_b2w {x : am_X} (n d : Nat) (hc : am_ok x cX11_countWins yX11_countWins 4 none (d + 7) 2 11250) (hk0 : am_k0 x = fun k => k < 67 ∨ 1000000 ≤ k) {I' : am_I} {L' : am_L} (k2 : Int32 → Int32 → am_I → am_L → Option (am_I × am_L)) (hk2 : ∀ (a1 : Int32) (a2 : Int32) (I : am_I) (L : am_L), k2 a1 a2 I L = some (I', L') → am_J x (fun S => S = (none, (KC true), (RC true), I', L')) 2 [some (.ref 0), some (.int a1), some (.int a2), none] [] (KC false) (RC false) I L 0 0) (a1 : Int32) (a2 : Int32) (I : am_I) (L : am_L) (hf : fX11_countWins_s_b2w n d k2 a1 a2 I L = some (I', L')) : am_J x (fun S => S = (none, (KC true), (RC true), I', L')) 2 [some (.ref 0), some (.int a1), some (.int a2), none] [] (KC false) (RC false) I L 0 0 := by
  unfold fX11_countWins_s_b2w at hf
  refine j_iload_n hc dX11_countWins_2 rfl ?_
  refine j_aload_n hc dX11_countWins_3 rfl ?_
  refine j_getR (u := 66) hc dX11_countWins_4 (fgC_X11_101_0 _) (rC_0_13 _) ?_
  refine j_alen0 (v := (8 : Int32)) hc dX11_countWins_7 (kC_66 _) cn_8 ?_
  refine j_icmp_ge (tgt := 24) hc dX11_countWins_8 rfl hf (fun hf => ?_) (fun hf => ?_)
  · refine j_iconst (v := (1 : Int32)) hc dX11_countWins_24 ci_1 ?_
    refine j_istore_n hc dX11_countWins_25 (Nat.le_of_ble_eq_true rfl) hf (fun v1 hf => ?_)
    exact j_sub (tX11_countWins_s_b26 n d hc hk0 n _ _ _ _ hf) (And.intro rfl (And.intro rfl (And.intro rfl (trivial))))
  · refine j_aload_n hc dX11_countWins_11 rfl ?_
    refine j_getR (u := 66) hc dX11_countWins_12 (fgC_X11_101_0 _) (rC_0_13 _) ?_
    refine j_iload_n hc dX11_countWins_15 rfl ?_
    refine j_iconst (v := (0 : Int32)) hc dX11_countWins_16 ci_0 ?_
    refine j_iastore (n := 8) hc dX11_countWins_17 (kC_66 _) hf (fun I2 hf => ?_)
    refine j_iinc (w := (1 : Int32)) hc dX11_countWins_18 rfl ci_1 (Nat.le_of_ble_eq_true rfl) hf (fun v3 hf => ?_)
    refine j_goto (tgt := 2) hc dX11_countWins_21 rfl ?_
    exact j_sub (hk2 _ _ _ _ hf) (And.intro rfl (And.intro rfl (And.intro rfl (trivial))))

noncomputable def fX11_countWins_s_b2 (n d : Nat) : Nat → Int32 → Int32 → am_I → am_L → Option (am_I × am_L)
  | 0 => fun _ _ _ _ => none
  | m + 1 => fX11_countWins_s_b2w n d  (fX11_countWins_s_b2 n d m)

set_option maxRecDepth 100000 in
set_option maxHeartbeats 4000000 in
theorem tX11_countWins_s_b2 {x : am_X} (n d : Nat) (hc : am_ok x cX11_countWins yX11_countWins 4 none (d + 7) 2 11250) (hk0 : am_k0 x = fun k => k < 67 ∨ 1000000 ≤ k) {I' : am_I} {L' : am_L} (m : Nat) : ∀ (a1 : Int32) (a2 : Int32) (I : am_I) (L : am_L) (hf : fX11_countWins_s_b2 n d m a1 a2 I L = some (I', L')), am_J x (fun S => S = (none, (KC true), (RC true), I', L')) 2 [some (.ref 0), some (.int a1), some (.int a2), none] [] (KC false) (RC false) I L 0 0 := by
  induction m with
  | zero => intro a1 a2 I L hf; exact (Option.some_ne_none _ hf.symm).elim
  | succ m ih => intro a1 a2 I L hf; exact tX11_countWins_s_b2w n d hc hk0 (fX11_countWins_s_b2 n d m) ih a1 a2 I L hf

noncomputable def fX11_countWins_s (n d : Nat) (a1 : Int32) (I : am_I) (L : am_L) : Option (am_I × am_L) :=
  am_lt (0 : Int32) (fun v1 => fX11_countWins_s_b2 n d n a1 v1 I L)

set_option maxRecDepth 100000 in
set_option maxHeartbeats 4000000 in
theorem tX11_countWins_s {x : am_X} (n d : Nat) (hc : am_ok x cX11_countWins yX11_countWins 4 none (d + 7) 2 11250) (hk0 : am_k0 x = fun k => k < 67 ∨ 1000000 ≤ k) {I' : am_I} {L' : am_L} (a1 : Int32) (I : am_I) (L : am_L) (hf : fX11_countWins_s n d a1 I L = some (I', L')) : am_J x (fun S => S = (none, (KC true), (RC true), I', L')) 0 [some (.ref 0), some (.int a1), none, none] [] (KC false) (RC false) I L 0 0 := by
  unfold fX11_countWins_s at hf
  refine j_iconst (v := (0 : Int32)) hc dX11_countWins_0 ci_0 ?_
  refine j_istore_n hc dX11_countWins_1 (Nat.le_of_ble_eq_true rfl) hf (fun v1 hf => ?_)
  exact j_sub (tX11_countWins_s_b2 n d hc hk0 n _ _ _ _ hf) (And.intro rfl (And.intro rfl (And.intro rfl (trivial))))

set_option maxRecDepth 100000 in
set_option maxHeartbeats 4000000 in
theorem qX11_countWins_s (l : Launch) (n d : Nat) (a1 : Int32) (I : am_I) (L : am_L) (I' : am_I) (L' : am_L) (hf : fX11_countWins_s n d a1 I L = some (I', L')) : am_CA l yX11_countWins cX11_countWins 4 none (d + 7) 2 11250 (fun k => k < 67 ∨ 1000000 ≤ k) [.ref 0, .int a1] (KC false) (RC false) I L (fun S => S = (none, KC true, RC true, I', L')) := by
  exact am_introA (plainFor_of_name plX11) (fun _ h => Or.inr h) (Nat.le_of_ble_eq_true rfl) (fun x hl hc hk0 => by subst hl; exact j_sub (tX11_countWins_s n d hc hk0 _ _ _ hf) (And.intro rfl (And.intro rfl (trivial))))

def fX11_champion_n (n d : Nat) (a1 : Int32) (I : am_I) (L : am_L) : Option (Int32 × am_I × am_L) :=
  am_b3 (fX11_isSideOfWar n d a1 I L) (fun v1 I1 L1 => if v1 = 0 then
    (some ((-1 : Int32), I1, L1))
    else
    (am_b2 (fX11_countWins_n n d a1 I1 L1) (fun I2 L2 => fX11_champion_t_b15 n d a1 I2 L2)))

set_option maxRecDepth 100000 in
set_option maxHeartbeats 4000000 in
theorem tX11_champion_n {x : am_X} (n d : Nat) (hc : am_ok x cX11_champion yX11_champion 4 (some .int) (d + 8) 0 0) {r : Int32} {I' : am_I} {L' : am_L} (a1 : Int32) (I : am_I) (L : am_L) (hf : fX11_champion_n n d a1 I L = some (r, I', L')) : am_J x (fun S => S = (some (.int r), (KC false), (RC false), I', L')) 0 [some (.ref 0), some (.int a1), none, none] [] (KC false) (RC false) I L 0 0 := by
  unfold fX11_champion_n at hf
  refine j_aload_n hc dX11_champion_0 rfl ?_
  refine j_iload_n hc dX11_champion_1 rfl ?_
  refine j_callVI (t := 0) (As := [.int a1]) hc dX11_champion_2 kw_1152 mX11_isSideOfWar (kC_0 _) clX11 rfl (by omega) (Nat.le_of_ble_eq_true rfl) (Nat.le_of_ble_eq_true rfl) ⟨Nat.le_refl _, Nat.le_refl _⟩ hf (fun v I' L' h => qX11_isSideOfWar x.2.1 n d a1 I L v I' L' h) (fun v1 I1 L1 hf => ?_)
  refine j_if_ne (tgt := 10) hc dX11_champion_5 rfl hf (fun hf => ?_) (fun hf => ?_)
  · refine j_aload_n hc dX11_champion_10 rfl ?_
    refine j_iload_n hc dX11_champion_11 rfl ?_
    refine j_callVV (t := 0) (As := [.int a1]) hc dX11_champion_12 kw_1156 mX11_countWins (kC_0 _) clX11 rfl (by omega) (Nat.le_of_ble_eq_true rfl) (Nat.le_of_ble_eq_true rfl) ⟨Nat.le_refl _, Nat.le_refl _⟩ hf (fun I' L' h => qX11_countWins_n x.2.1 n d a1 I1 L1 I' L' h) (fun I2 L2 hf => ?_)
    exact j_sub (tX11_champion_v_b15 n d 0 0 hc _ _ _ hf) (And.intro rfl (And.intro rfl (trivial)))
  · refine j_iconst (v := (-1 : Int32)) hc dX11_champion_8 ci_m1 ?_
    exact j_ireturn hc dX11_champion_9 rfl rfl hf

set_option maxRecDepth 100000 in
set_option maxHeartbeats 4000000 in
theorem qX11_champion_n (l : Launch) (n d : Nat) (a1 : Int32) (I : am_I) (L : am_L) (r : Int32) (I' : am_I) (L' : am_L) (hf : fX11_champion_n n d a1 I L = some (r, I', L')) : am_CA l yX11_champion cX11_champion 4 (some .int) (d + 8) 0 0 (fun _ => True) [.ref 0, .int a1] (KC false) (RC false) I L (fun S => S = (some (.int r), KC false, RC false, I', L')) := by
  exact am_intro (plainFor_of_name plX11) (fun _ _ => trivial) (Nat.le_of_ble_eq_true rfl) (fun x hl hc => by subst hl; exact j_sub (tX11_champion_n n d hc _ _ _ hf) (And.intro rfl (And.intro rfl (trivial))))

noncomputable def fX11_champion_s (n d : Nat) (a1 : Int32) (I : am_I) (L : am_L) : Option (Int32 × am_I × am_L) :=
  am_b3 (fX11_isSideOfWar n d a1 I L) (fun v1 I1 L1 => if v1 = 0 then
    none
    else
    (am_b2 (fX11_countWins_s n d a1 I1 L1) (fun I2 L2 => fX11_champion_t_b15 n d a1 I2 L2)))

set_option maxRecDepth 100000 in
set_option maxHeartbeats 4000000 in
theorem tX11_champion_s {x : am_X} (n d : Nat) (hc : am_ok x cX11_champion yX11_champion 4 (some .int) (d + 8) 2 11250) (hk0 : am_k0 x = fun k => k < 67 ∨ 1000000 ≤ k) {r : Int32} {I' : am_I} {L' : am_L} (a1 : Int32) (I : am_I) (L : am_L) (hf : fX11_champion_s n d a1 I L = some (r, I', L')) : am_J x (fun S => S = (some (.int r), (KC true), (RC true), I', L')) 0 [some (.ref 0), some (.int a1), none, none] [] (KC false) (RC false) I L 0 0 := by
  unfold fX11_champion_s at hf
  refine j_aload_n hc dX11_champion_0 rfl ?_
  refine j_iload_n hc dX11_champion_1 rfl ?_
  refine j_callVI (t := 0) (As := [.int a1]) hc dX11_champion_2 kw_1152 mX11_isSideOfWar (kC_0 _) clX11 rfl (by omega) (Nat.le_of_ble_eq_true rfl) (Nat.le_of_ble_eq_true rfl) ⟨Nat.zero_le _, Nat.zero_le _⟩ hf (fun v I' L' h => qX11_isSideOfWar x.2.1 n d a1 I L v I' L' h) (fun v1 I1 L1 hf => ?_)
  refine j_if_ne (tgt := 10) hc dX11_champion_5 rfl hf (fun hf => ?_) (fun hf => ?_)
  · refine j_aload_n hc dX11_champion_10 rfl ?_
    refine j_iload_n hc dX11_champion_11 rfl ?_
    obtain ⟨I2, L2, e1, hf⟩ := am_b2E hf; refine j_callEV (t := 0) (n := 67) (As := [.int a1]) hc dX11_champion_12 kw_1156 mX11_countWins (kC_0 _) clX11 rfl (am_k9 hk0 (Nat.le_refl _)) rfl (by omega) (Nat.le_of_ble_eq_true rfl) (Nat.le_of_ble_eq_true rfl) ⟨Nat.le_refl _, Nat.le_refl _⟩ (qX11_countWins_s x.2.1 n d a1 I1 L1 I2 L2 e1) ?_; exact j_sub (tX11_champion_v_b15 n d 2 11250 hc _ _ _ hf) (And.intro rfl (And.intro rfl (trivial)))
  · refine j_iconst (v := (-1 : Int32)) hc dX11_champion_8 ci_m1 ?_
    exact (Option.some_ne_none _ hf.symm).elim

set_option maxRecDepth 100000 in
set_option maxHeartbeats 4000000 in
theorem qX11_champion_s (l : Launch) (n d : Nat) (a1 : Int32) (I : am_I) (L : am_L) (r : Int32) (I' : am_I) (L' : am_L) (hf : fX11_champion_s n d a1 I L = some (r, I', L')) : am_CA l yX11_champion cX11_champion 4 (some .int) (d + 8) 2 11250 (fun k => k < 67 ∨ 1000000 ≤ k) [.ref 0, .int a1] (KC false) (RC false) I L (fun S => S = (some (.int r), KC true, RC true, I', L')) := by
  exact am_introA (plainFor_of_name plX11) (fun _ h => Or.inr h) (Nat.le_of_ble_eq_true rfl) (fun x hl hc hk0 => by subst hl; exact j_sub (tX11_champion_s n d hc hk0 _ _ _ hf) (And.intro rfl (And.intro rfl (trivial))))

def fX11_victors_n (n d : Nat) (a1 : Int32) (I : am_I) (L : am_L) : Option (Int32 × am_I × am_L) :=
  am_b3 (fX11_isSideOfWar n d a1 I L) (fun v1 I1 L1 => if v1 = 0 then
    (some ((-1 : Int32), I1, L1))
    else
    (am_b2 (fX11_countWins_n n d a1 I1 L1) (fun I2 L2 => fX11_victors_t_b15 n d a1 I2 L2)))

set_option maxRecDepth 100000 in
set_option maxHeartbeats 4000000 in
theorem tX11_victors_n {x : am_X} (n d : Nat) (hc : am_ok x cX11_victors yX11_victors 5 (some .int) (d + 8) 0 0) {r : Int32} {I' : am_I} {L' : am_L} (a1 : Int32) (I : am_I) (L : am_L) (hf : fX11_victors_n n d a1 I L = some (r, I', L')) : am_J x (fun S => S = (some (.int r), (KC false), (RC false), I', L')) 0 [some (.ref 0), some (.int a1), none, none, none] [] (KC false) (RC false) I L 0 0 := by
  unfold fX11_victors_n at hf
  refine j_aload_n hc dX11_victors_0 rfl ?_
  refine j_iload_n hc dX11_victors_1 rfl ?_
  refine j_callVI (t := 0) (As := [.int a1]) hc dX11_victors_2 kw_1152 mX11_isSideOfWar (kC_0 _) clX11 rfl (by omega) (Nat.le_of_ble_eq_true rfl) (Nat.le_of_ble_eq_true rfl) ⟨Nat.le_refl _, Nat.le_refl _⟩ hf (fun v I' L' h => qX11_isSideOfWar x.2.1 n d a1 I L v I' L' h) (fun v1 I1 L1 hf => ?_)
  refine j_if_ne (tgt := 10) hc dX11_victors_5 rfl hf (fun hf => ?_) (fun hf => ?_)
  · refine j_aload_n hc dX11_victors_10 rfl ?_
    refine j_iload_n hc dX11_victors_11 rfl ?_
    refine j_callVV (t := 0) (As := [.int a1]) hc dX11_victors_12 kw_1156 mX11_countWins (kC_0 _) clX11 rfl (by omega) (Nat.le_of_ble_eq_true rfl) (Nat.le_of_ble_eq_true rfl) ⟨Nat.le_refl _, Nat.le_refl _⟩ hf (fun I' L' h => qX11_countWins_n x.2.1 n d a1 I1 L1 I' L' h) (fun I2 L2 hf => ?_)
    exact j_sub (tX11_victors_v_b15 n d 0 0 hc _ _ _ hf) (And.intro rfl (And.intro rfl (trivial)))
  · refine j_iconst (v := (-1 : Int32)) hc dX11_victors_8 ci_m1 ?_
    exact j_ireturn hc dX11_victors_9 rfl rfl hf

set_option maxRecDepth 100000 in
set_option maxHeartbeats 4000000 in
theorem qX11_victors_n (l : Launch) (n d : Nat) (a1 : Int32) (I : am_I) (L : am_L) (r : Int32) (I' : am_I) (L' : am_L) (hf : fX11_victors_n n d a1 I L = some (r, I', L')) : am_CA l yX11_victors cX11_victors 5 (some .int) (d + 8) 0 0 (fun _ => True) [.ref 0, .int a1] (KC false) (RC false) I L (fun S => S = (some (.int r), KC false, RC false, I', L')) := by
  exact am_intro (plainFor_of_name plX11) (fun _ _ => trivial) (Nat.le_of_ble_eq_true rfl) (fun x hl hc => by subst hl; exact j_sub (tX11_victors_n n d hc _ _ _ hf) (And.intro rfl (And.intro rfl (trivial))))

noncomputable def fX11_victors_s (n d : Nat) (a1 : Int32) (I : am_I) (L : am_L) : Option (Int32 × am_I × am_L) :=
  am_b3 (fX11_isSideOfWar n d a1 I L) (fun v1 I1 L1 => if v1 = 0 then
    none
    else
    (am_b2 (fX11_countWins_s n d a1 I1 L1) (fun I2 L2 => fX11_victors_t_b15 n d a1 I2 L2)))

set_option maxRecDepth 100000 in
set_option maxHeartbeats 4000000 in
theorem tX11_victors_s {x : am_X} (n d : Nat) (hc : am_ok x cX11_victors yX11_victors 5 (some .int) (d + 8) 2 11250) (hk0 : am_k0 x = fun k => k < 67 ∨ 1000000 ≤ k) {r : Int32} {I' : am_I} {L' : am_L} (a1 : Int32) (I : am_I) (L : am_L) (hf : fX11_victors_s n d a1 I L = some (r, I', L')) : am_J x (fun S => S = (some (.int r), (KC true), (RC true), I', L')) 0 [some (.ref 0), some (.int a1), none, none, none] [] (KC false) (RC false) I L 0 0 := by
  unfold fX11_victors_s at hf
  refine j_aload_n hc dX11_victors_0 rfl ?_
  refine j_iload_n hc dX11_victors_1 rfl ?_
  refine j_callVI (t := 0) (As := [.int a1]) hc dX11_victors_2 kw_1152 mX11_isSideOfWar (kC_0 _) clX11 rfl (by omega) (Nat.le_of_ble_eq_true rfl) (Nat.le_of_ble_eq_true rfl) ⟨Nat.zero_le _, Nat.zero_le _⟩ hf (fun v I' L' h => qX11_isSideOfWar x.2.1 n d a1 I L v I' L' h) (fun v1 I1 L1 hf => ?_)
  refine j_if_ne (tgt := 10) hc dX11_victors_5 rfl hf (fun hf => ?_) (fun hf => ?_)
  · refine j_aload_n hc dX11_victors_10 rfl ?_
    refine j_iload_n hc dX11_victors_11 rfl ?_
    obtain ⟨I2, L2, e1, hf⟩ := am_b2E hf; refine j_callEV (t := 0) (n := 67) (As := [.int a1]) hc dX11_victors_12 kw_1156 mX11_countWins (kC_0 _) clX11 rfl (am_k9 hk0 (Nat.le_refl _)) rfl (by omega) (Nat.le_of_ble_eq_true rfl) (Nat.le_of_ble_eq_true rfl) ⟨Nat.le_refl _, Nat.le_refl _⟩ (qX11_countWins_s x.2.1 n d a1 I1 L1 I2 L2 e1) ?_; exact j_sub (tX11_victors_v_b15 n d 2 11250 hc _ _ _ hf) (And.intro rfl (And.intro rfl (trivial)))
  · refine j_iconst (v := (-1 : Int32)) hc dX11_victors_8 ci_m1 ?_
    exact (Option.some_ne_none _ hf.symm).elim

set_option maxRecDepth 100000 in
set_option maxHeartbeats 4000000 in
theorem qX11_victors_s (l : Launch) (n d : Nat) (a1 : Int32) (I : am_I) (L : am_L) (r : Int32) (I' : am_I) (L' : am_L) (hf : fX11_victors_s n d a1 I L = some (r, I', L')) : am_CA l yX11_victors cX11_victors 5 (some .int) (d + 8) 2 11250 (fun k => k < 67 ∨ 1000000 ≤ k) [.ref 0, .int a1] (KC false) (RC false) I L (fun S => S = (some (.int r), KC true, RC true, I', L')) := by
  exact am_introA (plainFor_of_name plX11) (fun _ h => Or.inr h) (Nat.le_of_ble_eq_true rfl) (fun x hl hc hk0 => by subst hl; exact j_sub (tX11_victors_s n d hc hk0 _ _ _ hf) (And.intro rfl (And.intro rfl (trivial))))
