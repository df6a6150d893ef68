/-! PURE: two values joined. -/
def clp (x : Int) : Int := if 1000000 < x then 1000000 else if x < -1000000 then -1000000 else x
def jn (o : Nat) (x y : Int) : Int := match o with
  | 0 => clp (x + y) | 1 => clp (x - y) | 2 => clp (x * y) | 3 => if y = 0 then 0 else clp (x.tdiv y)
  | 4 => if x = y then 1 else 0 | 5 => if x < y then 1 else 0 | 6 => if y < x then 1 else 0
  | 7 => if x = 0 then 0 else if y = 0 then 0 else 1
  | _ => if x = 0 then (if y = 0 then 0 else 1) else 1
def jv (o : Nat) (x y : Int32) : Int32 := Int32.ofInt (jn o x.toInt y.toInt)
def BV (x : Int32) : Prop := -1000000 ≤ x.toInt ∧ x.toInt ≤ 1000000
theorem clp_b (x : Int) : -1000000 ≤ clp x ∧ clp x ≤ 1000000 := by
  unfold clp
  split
  · omega
  · split <;> omega
theorem jn_b (o : Nat) (x y : Int) : -1000000 ≤ jn o x y ∧ jn o x y ≤ 1000000 := by
  unfold jn
  split
  · exact clp_b _
  · exact clp_b _
  · exact clp_b _
  · split
    · omega
    · exact clp_b _
  · split <;> omega
  · split <;> omega
  · split <;> omega
  · split
    · omega
    · split <;> omega
  · split
    · split <;> omega
    · omega
theorem oI_t {x : Int} (h : -1000000 ≤ x ∧ x ≤ 1000000) : (Int32.ofInt x).toInt = x := by
  rw [Int32.toInt_ofInt]
  show x.bmod 4294967296 = x
  exact Int.bmod_eq_of_le (by omega) (by omega)
theorem jv_b (o : Nat) (x y : Int32) : BV (jv o x y) := by
  unfold BV jv
  rw [oI_t (jn_b o _ _)]
  exact jn_b o _ _
theorem jv_01 {o : Nat} (ho : 4 ≤ o) (x y : Int32) : jv o x y = nI 0 ∨ jv o x y = nI 1 := by
  have k : jn o x.toInt y.toInt = 0 ∨ jn o x.toInt y.toInt = 1 := by
    unfold jn
    split
    · omega
    · omega
    · omega
    · omega
    · split <;> omega
    · split <;> omega
    · split <;> omega
    · split
      · omega
      · split <;> omega
    · split
      · split <;> omega
      · omega
  unfold jv
  rcases k with k | k <;> rw [k]
  · exact Or.inl rfl
  · exact Or.inr rfl
theorem l6 : (1000000 : Int64).toInt = 1000000 := by decide
theorem l6m : (-1000000 : Int64).toInt = -1000000 := by decide
theorem t32 (v : Int64) : v.toInt32 = Int32.ofInt v.toInt := by
  apply Int32.toInt_inj.mp
  rw [Int64.toInt_toInt32, Int32.toInt_ofInt]
theorem b169 (n d : Nat) (v : Int64) (I : am_I) (L : am_L) : fX3_joined_b169 n d v I L = some (Int32.ofInt (clp v.toInt), I, L) := by
  unfold fX3_joined_b169 clp
  by_cases c : v.toInt ≤ 1000000
  · rw [if_pos ((lg_cmp_le _ _).mpr (Int64.le_iff_toInt_le.mpr (by rw [l6]; exact c))), if_neg (show ¬ 1000000 < v.toInt by omega)]
    by_cases c2 : -1000000 ≤ v.toInt
    · rw [if_pos ((lg_cmp_ge _ _).mpr (Int64.le_iff_toInt_le.mpr (by rw [l6m]; exact c2))), if_neg (show ¬ v.toInt < -1000000 by omega), t32]
    · rw [if_neg (fun z => c2 (by have := Int64.le_iff_toInt_le.mp ((lg_cmp_ge _ _).mp z); rw [l6m] at this; exact this)), if_pos (show v.toInt < -1000000 by omega)]
      rfl
  · rw [if_neg (fun z => c (by have := Int64.le_iff_toInt_le.mp ((lg_cmp_le _ _).mp z); rw [l6] at this; exact this)), if_pos (show 1000000 < v.toInt by omega)]
    rfl
theorem pm_bounded (n d : Nat) (v : Int64) (I : am_I) (L : am_L) : fX12_bounded n d v I L = some (Int32.ofInt (clp v.toInt), I, L) := by
  have e1 : fJ9_min_f86c9 n d (1000000 : Int64) v I L = some (if v.toInt < 1000000 then v else 1000000, I, L) := by
    unfold fJ9_min_f86c9
    by_cases c : v.toInt < 1000000
    · rw [if_pos ((lg_cmp_gt _ _).mpr (Int64.lt_iff_toInt_lt.mpr (by rw [l6]; exact c))), if_pos c]
    · rw [if_neg (fun z => c (by have := Int64.lt_iff_toInt_lt.mp ((lg_cmp_gt _ _).mp z); rw [l6] at this; exact this)), if_neg c]
  have e2 : ∀ w : Int64, fJ9_max_f86c9 n d (-1000000 : Int64) w I L = some (if -1000000 < w.toInt then w else -1000000, I, L) := fun w => by
    unfold fJ9_max_f86c9
    by_cases c : -1000000 < w.toInt
    · rw [if_pos ((lg_cmp_lt _ _).mpr (Int64.lt_iff_toInt_lt.mpr (by rw [l6m]; exact c))), if_pos c]
    · rw [if_neg (fun z => c (by have := Int64.lt_iff_toInt_lt.mp ((lg_cmp_lt _ _).mp z); rw [l6m] at this; exact this)), if_neg c]
  unfold fX12_bounded
  rw [e1]
  show am_b3 (fJ9_max_f86c9 n d (-1000000 : Int64) _ I L) _ = _
  rw [e2]
  show some (Int64.toInt32 _, I, L) = _
  rw [t32]
  unfold clp
  by_cases c : v.toInt < 1000000
  · rw [if_pos c, if_neg (show ¬ 1000000 < v.toInt by omega)]
    by_cases c2 : -1000000 < v.toInt
    · rw [if_pos c2, if_neg (show ¬ v.toInt < -1000000 by omega)]
    · rw [if_neg c2, l6m]
      by_cases c3 : v.toInt < -1000000
      · rw [if_pos c3]
      · rw [if_neg c3, show v.toInt = -1000000 by omega]
  · rw [if_neg c, if_pos (show -1000000 < (1000000 : Int64).toInt by rw [l6]; omega), l6]
    by_cases c2 : 1000000 < v.toInt
    · rw [if_pos c2]
    · rw [if_neg c2, if_neg (show ¬ v.toInt < -1000000 by omega), show v.toInt = 1000000 by omega]
theorem ab_of {x : Int} (h : -1000000 ≤ x ∧ x ≤ 1000000) : x.natAbs ≤ 1000000 := by omega
theorem ml_b {x y : Int} (hx : -1000000 ≤ x ∧ x ≤ 1000000) (hy : -1000000 ≤ y ∧ y ≤ 1000000) : -1000000000000 ≤ x * y ∧ x * y ≤ 1000000000000 := by
  have a := Int.natAbs_mul x y
  have b := Nat.mul_le_mul (ab_of hx) (ab_of hy)
  omega
theorem dv_b {x y : Int} (hx : -1000000 ≤ x ∧ x ≤ 1000000) : -1000000 ≤ x.tdiv y ∧ x.tdiv y ≤ 1000000 := by
  have a := Int.natAbs_tdiv x y
  have b := Nat.div_le_self x.natAbs y.natAbs
  have c := ab_of hx
  have e : (x.tdiv y).natAbs ≤ 1000000 := by
    rw [a]; exact Nat.le_trans b c
  omega
theorem t64 (x : Int32) : x.toInt64.toInt = x.toInt := Int32.toInt_toInt64 x
theorem i32_0 {x : Int32} : (x = 0) ↔ x.toInt = 0 := ⟨fun h => by rw [h]; rfl, fun h => Int32.toInt_inj.mp (by rw [h]; rfl)⟩
theorem i64_0 {x : Int32} : (lg_cmp x.toInt64 (0 : Int64) = 0) ↔ x.toInt = 0 := by
  rw [lg_cmp_eq, ← Int64.toInt_inj, t64]
  exact Iff.rfl
def cO (o : Nat) : Int32 := -nI (11 + o)
def mO (o : Nat) : Int32 := if o ≤ 6 then nI (o + 2) else nI (o + 3)
theorem pc_join (n d : Nat) {o : Nat} (ho : o ≤ 8) {x y : Int32} (hx : BV x) (hy : BV y) (I : am_I) (L : am_L) : fX3_joined n d (cO o) x y I L = some (jv o x y, I, L) := by
  unfold BV at hx hy
  have z0 : fX3_joined_b169 n d (0 : Int64) I L = some (Int32.ofInt 0, I, L) := b169 n d 0 I L
  have z1 : fX3_joined_b169 n d (1 : Int64) I L = some (Int32.ofInt 1, I, L) := b169 n d 1 I L
  match o, ho with
  | 0, _ =>
    show fX3_joined_b169 n d (x + y).toInt64 I L = _
    rw [b169, t64, Int32.toInt_add, Int.bmod_eq_of_le (by omega) (by omega)]; rfl
  | 1, _ =>
    show fX3_joined_b169 n d (x - y).toInt64 I L = _
    rw [b169, t64, Int32.toInt_sub, Int.bmod_eq_of_le (by omega) (by omega)]; rfl
  | 2, _ =>
    show fX3_joined_b169 n d (x.toInt64 * y.toInt64) I L = _
    have b := ml_b hx hy
    rw [b169, Int64.toInt_mul, t64, t64, Int.bmod_eq_of_le (by omega) (by omega)]; rfl
  | 3, _ =>
    show (if y = 0 then fX3_joined_b169 n d (0 : Int64) I L else (if y = 0 then none else fX3_joined_b169 n d (x / y).toInt64 I L)) = some (Int32.ofInt (if y.toInt = 0 then 0 else clp (x.toInt.tdiv y.toInt)), I, L)
    by_cases c : y = 0
    · rw [if_pos c, if_pos (i32_0.mp c), z0]
    · rw [if_neg c, if_neg c, if_neg (fun z => c (i32_0.mpr z)), b169, t64, Int32.toInt_div]
      have b := dv_b (y := y.toInt) hx
      rw [Int.bmod_eq_of_le (by omega) (by omega)]
  | 4, _ =>
    show (if x = y then fX3_joined_b169 n d (1 : Int64) I L else fX3_joined_b169 n d (0 : Int64) I L) = some (Int32.ofInt (if x.toInt = y.toInt then 1 else 0), I, L)
    by_cases c : x = y
    · rw [if_pos c, if_pos (by rw [c]), z1]
    · rw [if_neg c, if_neg (fun z => c (Int32.toInt_inj.mp z)), z0]
  | 5, _ =>
    show (if y ≤ x then fX3_joined_b169 n d (0 : Int64) I L else fX3_joined_b169 n d (1 : Int64) I L) = some (Int32.ofInt (if x.toInt < y.toInt then 1 else 0), I, L)
    by_cases c : y.toInt ≤ x.toInt
    · rw [if_pos (Int32.le_iff_toInt_le.mpr c), if_neg (by omega), z0]
    · rw [if_neg (fun z => c (Int32.le_iff_toInt_le.mp z)), if_pos (by omega), z1]
  | 6, _ =>
    show (if x ≤ y then fX3_joined_b169 n d (0 : Int64) I L else fX3_joined_b169 n d (1 : Int64) I L) = some (Int32.ofInt (if y.toInt < x.toInt then 1 else 0), I, L)
    by_cases c : x.toInt ≤ y.toInt
    · rw [if_pos (Int32.le_iff_toInt_le.mpr c), if_neg (by omega), z0]
    · rw [if_neg (fun z => c (Int32.le_iff_toInt_le.mp z)), if_pos (by omega), z1]
  | 7, _ =>
    show (if x = 0 then fX3_joined_b169 n d (0 : Int64) I L else (if y = 0 then fX3_joined_b169 n d (0 : Int64) I L else fX3_joined_b169 n d (1 : Int64) I L)) = some (Int32.ofInt (if x.toInt = 0 then 0 else if y.toInt = 0 then 0 else 1), I, L)
    simp only [i32_0, z0, z1]
    split
    · rfl
    · split <;> rfl
  | 8, _ =>
    show (if x = 0 then (if y = 0 then fX3_joined_b169 n d (0 : Int64) I L else fX3_joined_b169 n d (1 : Int64) I L) else fX3_joined_b169 n d (1 : Int64) I L) = some (Int32.ofInt (if x.toInt = 0 then (if y.toInt = 0 then 0 else 1) else 1), I, L)
    simp only [i32_0, z0, z1]
    split
    · split <;> rfl
    · rfl
theorem sw_at {β : Type} {u : Int32} {lo : Int} {k : Nat} (h : u.toInt = lo + k) (As : List (Option β)) (Z : Option β) : am_sw u lo As Z = (match As[k]? with | some K => K | none => Z) := by
  unfold am_sw
  rw [if_neg (by omega), show (u.toInt - lo).toNat = k by omega]
  cases As[k]? <;> rfl
theorem pm_bd (n d : Nat) (I : am_I) (L : am_L) (v : Int64) : am_b3 (fX12_bounded n d v I L) (fun v1 I1 L1 => some (v1, I1, L1)) = some (Int32.ofInt (clp v.toInt), I, L) := by rw [pm_bounded]; rfl
theorem pm_j0 (n d : Nat) {x y : Int32} (hx : BV x) (hy : BV y) (I : am_I) (L : am_L) : fX12_worked n d (nI 2) x.toInt64 y.toInt64 I L = some (jv 0 x y, I, L) := by
  unfold BV at hx hy
  unfold fX12_worked
  rw [sw_at (k := 0) (by rw [nI_toInt (by omega)]; omega)]
  show am_b3 (fX12_bounded n d (x.toInt64 + y.toInt64) I L) (fun v1 I1 L1 => some (v1, I1, L1)) = _
  rw [pm_bd, Int64.toInt_add, t64, t64, Int.bmod_eq_of_le (by omega) (by omega)]; rfl
theorem pm_j1 (n d : Nat) {x y : Int32} (hx : BV x) (hy : BV y) (I : am_I) (L : am_L) : fX12_worked n d (nI 3) x.toInt64 y.toInt64 I L = some (jv 1 x y, I, L) := by
  unfold BV at hx hy
  unfold fX12_worked
  rw [sw_at (k := 1) (by rw [nI_toInt (by omega)]; omega)]
  show am_b3 (fX12_bounded n d (x.toInt64 - y.toInt64) I L) (fun v1 I1 L1 => some (v1, I1, L1)) = _
  rw [pm_bd, Int64.toInt_sub, t64, t64, Int.bmod_eq_of_le (by omega) (by omega)]; rfl
theorem pm_j2 (n d : Nat) {x y : Int32} (hx : BV x) (hy : BV y) (I : am_I) (L : am_L) : fX12_worked n d (nI 4) x.toInt64 y.toInt64 I L = some (jv 2 x y, I, L) := by
  unfold BV at hx hy
  unfold fX12_worked
  rw [sw_at (k := 2) (by rw [nI_toInt (by omega)]; omega)]
  show am_b3 (fX12_bounded n d (x.toInt64 * y.toInt64) I L) (fun v1 I1 L1 => some (v1, I1, L1)) = _
  have b := ml_b hx hy
  rw [pm_bd, Int64.toInt_mul, t64, t64, Int.bmod_eq_of_le (by omega) (by omega)]; rfl
theorem pm_j3 (n d : Nat) {x y : Int32} (hx : BV x) (hy : BV y) (I : am_I) (L : am_L) : fX12_worked n d (nI 5) x.toInt64 y.toInt64 I L = some (jv 3 x y, I, L) := by
  unfold BV at hx hy
  unfold fX12_worked
  rw [sw_at (k := 3) (by rw [nI_toInt (by omega)]; omega)]
  show (if lg_cmp y.toInt64 (0 : Int64) = 0 then some ((0 : Int32), I, L) else (if y.toInt64 = 0 then none else am_b3 (fX12_bounded n d (x.toInt64 / y.toInt64) I L) (fun v1 I1 L1 => some (v1, I1, L1)))) = some (Int32.ofInt (if y.toInt = 0 then 0 else clp (x.toInt.tdiv y.toInt)), I, L)
  by_cases c : y.toInt = 0
  · rw [if_pos (i64_0.mpr c), if_pos c]; rfl
  · have c2 : ¬ y.toInt64 = 0 := fun z => c (by rw [← t64, z]; rfl)
    rw [if_neg (fun z => c (i64_0.mp z)), if_neg c2, if_neg c, pm_bd, Int64.toInt_div, t64, t64]
    have b := dv_b (y := y.toInt) hx
    rw [Int.bmod_eq_of_le (by omega) (by omega)]
theorem pm_j4 (n d : Nat) {x y : Int32} (hx : BV x) (hy : BV y) (I : am_I) (L : am_L) : fX12_worked n d (nI 6) x.toInt64 y.toInt64 I L = some (jv 4 x y, I, L) := by
  unfold BV at hx hy
  unfold fX12_worked
  rw [sw_at (k := 4) (by rw [nI_toInt (by omega)]; omega)]
  show (if lg_cmp x.toInt64 y.toInt64 = 0 then some ((1 : Int32), I, L) else some ((0 : Int32), I, L)) = some (Int32.ofInt (if x.toInt = y.toInt then 1 else 0), I, L)
  simp only [lg_cmp_eq, ← Int64.toInt_inj, t64]
  split <;> rfl
theorem pm_j5 (n d : Nat) {x y : Int32} (hx : BV x) (hy : BV y) (I : am_I) (L : am_L) : fX12_worked n d (nI 7) x.toInt64 y.toInt64 I L = some (jv 5 x y, I, L) := by
  unfold BV at hx hy
  unfold fX12_worked
  rw [sw_at (k := 5) (by rw [nI_toInt (by omega)]; omega)]
  show (if (0 : Int32) ≤ lg_cmp x.toInt64 y.toInt64 then some ((0 : Int32), I, L) else some ((1 : Int32), I, L)) = some (Int32.ofInt (if x.toInt < y.toInt then 1 else 0), I, L)
  simp only [lg_cmp_ge, Int64.le_iff_toInt_le, t64]
  by_cases c : y.toInt ≤ x.toInt
  · rw [if_pos c, if_neg (by omega)]; rfl
  · rw [if_neg c, if_pos (by omega)]; rfl
theorem pm_j6 (n d : Nat) {x y : Int32} (hx : BV x) (hy : BV y) (I : am_I) (L : am_L) : fX12_worked n d (nI 8) x.toInt64 y.toInt64 I L = some (jv 6 x y, I, L) := by
  unfold BV at hx hy
  unfold fX12_worked
  rw [sw_at (k := 6) (by rw [nI_toInt (by omega)]; omega)]
  show (if lg_cmp x.toInt64 y.toInt64 ≤ 0 then some ((0 : Int32), I, L) else some ((1 : Int32), I, L)) = some (Int32.ofInt (if y.toInt < x.toInt then 1 else 0), I, L)
  simp only [lg_cmp_le, Int64.le_iff_toInt_le, t64]
  by_cases c : x.toInt ≤ y.toInt
  · rw [if_pos c, if_neg (by omega)]; rfl
  · rw [if_neg c, if_pos (by omega)]; rfl
theorem pm_j7 (n d : Nat) {x y : Int32} (hx : BV x) (hy : BV y) (I : am_I) (L : am_L) : fX12_worked n d (nI 10) x.toInt64 y.toInt64 I L = some (jv 7 x y, I, L) := by
  unfold BV at hx hy
  unfold fX12_worked
  rw [sw_at (k := 8) (by rw [nI_toInt (by omega)]; omega)]
  show (if lg_cmp x.toInt64 (0 : Int64) = 0 then some ((0 : Int32), I, L) else (if lg_cmp y.toInt64 (0 : Int64) = 0 then some ((0 : Int32), I, L) else some ((1 : Int32), I, L))) = some (Int32.ofInt (if x.toInt = 0 then 0 else if y.toInt = 0 then 0 else 1), I, L)
  simp only [i64_0]
  split
  · rfl
  · split <;> rfl
theorem pm_j8 (n d : Nat) {x y : Int32} (hx : BV x) (hy : BV y) (I : am_I) (L : am_L) : fX12_worked n d (nI 11) x.toInt64 y.toInt64 I L = some (jv 8 x y, I, L) := by
  unfold BV at hx hy
  unfold fX12_worked
  rw [sw_at (k := 9) (by rw [nI_toInt (by omega)]; omega)]
  show (if lg_cmp x.toInt64 (0 : Int64) = 0 then (if lg_cmp y.toInt64 (0 : Int64) = 0 then some ((0 : Int32), I, L) else some ((1 : Int32), I, L)) else some ((1 : Int32), I, L)) = some (Int32.ofInt (if x.toInt = 0 then (if y.toInt = 0 then 0 else 1) else 1), I, L)
  simp only [i64_0]
  split
  · split <;> rfl
  · rfl
theorem pm_join (n d : Nat) {o : Nat} (ho : o ≤ 8) {x y : Int32} (hx : BV x) (hy : BV y) (I : am_I) (L : am_L) : fX12_worked n d (mO o) x.toInt64 y.toInt64 I L = some (jv o x y, I, L) := by
  unfold mO
  match o, ho with
  | 0, _ => rw [if_pos (by omega)]; exact pm_j0 n d hx hy I L
  | 1, _ => rw [if_pos (by omega)]; exact pm_j1 n d hx hy I L
  | 2, _ => rw [if_pos (by omega)]; exact pm_j2 n d hx hy I L
  | 3, _ => rw [if_pos (by omega)]; exact pm_j3 n d hx hy I L
  | 4, _ => rw [if_pos (by omega)]; exact pm_j4 n d hx hy I L
  | 5, _ => rw [if_pos (by omega)]; exact pm_j5 n d hx hy I L
  | 6, _ => rw [if_pos (by omega)]; exact pm_j6 n d hx hy I L
  | 7, _ => rw [if_neg (by omega)]; exact pm_j7 n d hx hy I L
  | 8, _ => rw [if_neg (by omega)]; exact pm_j8 n d hx hy I L
