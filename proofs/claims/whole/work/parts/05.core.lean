/-! THE ABSTRACT HEAP. Cells by numbers; a cell is an object (its class's number, its fields' sorts: 0 int, 1 long, 2 reference) or an array (0 of int, 1 of long, 2 of int arrays; its length). What the cells hold: I ints, L longs, R references, by cell and place. -/
abbrev am_k : Type := (Nat × List Nat) ⊕ (Nat × Nat)
abbrev am_I : Type := Nat → Nat → Int32
abbrev am_L : Type := Nat → Nat → Int64
abbrev am_R : Type := Nat → Nat → Option Nat
abbrev am_G : Type := ClassId × ClassId × ClassId
abbrev am_S : Type := Option Value × List am_k × am_R × am_I × am_L
def am_ty (G : am_G) : List (ClassId × FieldType) := [(G.1, .int), (G.2.1, .long), (G.2.2, .array .int)]
/-- a value whose references are cells' numbers, at addresses -/
def am_v (a : Nat → Nat) (v : Value) : Value := match v with
  | .ref k => .ref (a k)
  | v => v
theorem am_v_cat (a : Nat → Nat) (v : Value) : (am_v a v).category = v.category := by cases v <;> rfl
def am_fv (a : Nat → Nat) (R : am_R) (I : am_I) (L : am_L) (k j t : Nat) : Value := match t with
  | 0 => .int (I k j)
  | 1 => .long (L k j)
  | _ => va_rf ((R k j).map a)
def am_fs (a : Nat → Nat) (R : am_R) (I : am_I) (L : am_L) (k : Nat) (ts : List Nat) : List Value := ts.mapIdx (fun j t => am_fv a R I L k j t)
def am_e (G : am_G) (a : Nat → Nat) (R : am_R) (I : am_I) (L : am_L) (k : Nat) (d : am_k) : va_E := match d with
  | .inl (ci, ts) => .inr (ci, am_fs a R I L k ts)
  | .inr (0, n) => .inl (G.1, n, .inl (I k))
  | .inr (1, n) => .inl (G.2.1, n, .inr (.inl (L k)))
  | .inr (_, n) => .inl (G.2.2, n, .inr (.inr (.inr (.inr (fun j => (R k j).map a)))))
def am_ws (G : am_G) (a : Nat → Nat) (ks : List am_k) (R : am_R) (I : am_I) (L : am_L) : va_W := ks.mapIdx (fun k d => (a k, am_e G a R I L k d))
theorem am_ws_at {G : am_G} {a : Nat → Nat} {ks : List am_k} {R : am_R} {I : am_I} {L : am_L} {k : Nat} {d : am_k} (h : ks[k]? = some d) : (am_ws G a ks R I L)[k]? = some (a k, am_e G a R I L k d) := by
  simp [am_ws, List.getElem?_mapIdx, h]
theorem am_fs_at {a : Nat → Nat} {R : am_R} {I : am_I} {L : am_L} {k j t : Nat} {ts : List Nat} (h : ts[j]? = some t) : (am_fs a R I L k ts)[j]? = some (am_fv a R I L k j t) := by
  simp [am_fs, List.getElem?_mapIdx, h]
theorem am_fs_len {a : Nat → Nat} {R : am_R} {I : am_I} {L : am_L} {k j t : Nat} {ts : List Nat} (h : ts[j]? = some t) : j < (am_fs a R I L k ts).length := by
  have := (List.getElem?_eq_some_iff.mp h).1
  simpa [am_fs] using this
def am_up (I : am_I) (t j : Nat) (v : Int32) : am_I := fun k => if k = t then upd (I k) j v else I k
def am_uL (L : am_L) (t j : Nat) (v : Int64) : am_L := fun k => if k = t then vp_updL (L k) j v else L k
def am_uR (R : am_R) (t j : Nat) (v : Option Nat) : am_R := fun k => if k = t then va_up (R k) j v else R k
theorem am_up_ne {I : am_I} {t j k : Nat} {v : Int32} (h : k ≠ t) : am_up I t j v k = I k := by simp [am_up, h]
theorem am_up_eq {I : am_I} {t j : Nat} {v : Int32} : am_up I t j v t = upd (I t) j v := by simp [am_up]
theorem am_uL_ne {L : am_L} {t j k : Nat} {v : Int64} (h : k ≠ t) : am_uL L t j v k = L k := by simp [am_uL, h]
theorem am_uL_eq {L : am_L} {t j : Nat} {v : Int64} : am_uL L t j v t = vp_updL (L t) j v := by simp [am_uL]
theorem am_uR_ne {R : am_R} {t j k : Nat} {v : Option Nat} (h : k ≠ t) : am_uR R t j v k = R k := by simp [am_uR, h]
theorem am_uR_eq {R : am_R} {t j : Nat} {v : Option Nat} : am_uR R t j v t = va_up (R t) j v := by simp [am_uR]
/-- what was stored, the last first -/
def am_RL (l : List (Nat × Nat × Nat)) : am_R := fun t j => (l.find? (fun q => q.1 == t && q.2.1 == j)).map (fun q => q.2.2)
def am_IL (l : List (Nat × Nat × Int32)) : am_I := fun t j => ((l.find? (fun q => q.1 == t && q.2.1 == j)).map (fun q => q.2.2)).getD 0
/-- a world that is another one but for a cell -/
theorem am_ws_set {G : am_G} {a : Nat → Nat} {ks : List am_k} {R R' : am_R} {I I' : am_I} {L L' : am_L} {t : Nat} {e : va_E} {d : am_k} (h : ks[t]? = some d) (he : am_e G a R' I' L' t d = e) (hR : ∀ k, k ≠ t → R' k = R k) (hI : ∀ k, k ≠ t → I' k = I k) (hL : ∀ k, k ≠ t → L' k = L k) : (am_ws G a ks R I L).set t (a t, e) = am_ws G a ks R' I' L' := by
  apply List.ext_getElem?
  intro i
  have hl : t < ks.length := (List.getElem?_eq_some_iff.mp h).1
  by_cases hi : i = t
  · subst hi
    rw [List.getElem?_set_self (by simpa [am_ws] using hl), am_ws_at h, he]
  · rw [List.getElem?_set_ne (Ne.symm hi)]
    simp only [am_ws, List.getElem?_mapIdx]
    cases ks[i]? with
    | none => rfl
    | some d =>
      simp only [Option.map_some]
      congr 2
      rcases d with ⟨ci, ts⟩ | ⟨_ | _ | n, q⟩ <;> simp [am_e, am_fs, am_fv, hR i hi, hI i hi, hL i hi]
theorem am_fs_set {a : Nat → Nat} {R R' : am_R} {I I' : am_I} {L L' : am_L} {k j t : Nat} {ts : List Nat} {v : Value} (h : ts[j]? = some t) (hv : am_fv a R' I' L' k j t = v) (ho : ∀ i u, i ≠ j → am_fv a R' I' L' k i u = am_fv a R I L k i u) : am_fs a R' I' L' k ts = (am_fs a R I L k ts).set j v := by
  apply List.ext_getElem?
  intro i
  by_cases hi : i = j
  · subst hi
    rw [List.getElem?_set_self (am_fs_len h), am_fs_at h, hv]
  · rw [List.getElem?_set_ne (Ne.symm hi)]
    simp only [am_fs, List.getElem?_mapIdx]
    cases ts[i]? with
    | none => rfl
    | some u => simp only [Option.map_some]; rw [ho i u hi]
/-- locals by their places: what is known of each -/
def am_has (ls : Array Slot) (n : Nat) (a : Nat → Nat) (lv : List (Option Value)) : Prop := ls.size = n ∧ lv_wf ls ∧ ∀ (i : Nat) (v : Value), lv[i]? = some (some v) → ls[i]? = some (.val (am_v a v))
/-- a local of two words ends where its second word is stored over -/
def am_c2 (o : Option Value) : Option Value := match o with
  | some (.long _) => none
  | some (.double _) => none
  | o => o
def am_s1 : List (Option Value) → Nat → Value → List (Option Value)
  | [], _, _ => []
  | _ :: r, 0, v => some v :: r
  | o :: r, 1, v => am_c2 o :: am_s1 r 0 v
  | o :: r, i + 2, v => o :: am_s1 r (i + 1) v
def am_s2 : List (Option Value) → Nat → Value → List (Option Value)
  | [], _, _ => []
  | _ :: [], 0, v => [some v]
  | _ :: _ :: r, 0, v => some v :: none :: r
  | o :: r, 1, v => am_c2 o :: am_s2 r 0 v
  | o :: r, i + 2, v => o :: am_s2 r (i + 1) v
theorem am_c2_some {o : Option Value} {w : Value} (h : am_c2 o = some w) : o = some w ∧ w.category = 1 := by
  rcases o with _ | v
  · cases h
  · cases v <;> simp [am_c2, Value.category] at h ⊢ <;> (subst h; simp [Value.category])
theorem am_s1_at : ∀ (lv : List (Option Value)) (i : Nat) (v : Value) (j : Nat) (w : Value), (am_s1 lv i v)[j]? = some (some w) → (j = i ∧ w = v) ∨ (j ≠ i ∧ lv[j]? = some (some w) ∧ (j + 1 = i → w.category = 1))
  | [], i, v, j, w, h => by simp [am_s1] at h
  | o :: r, 0, v, 0, w, h => by simp [am_s1] at h; exact Or.inl ⟨rfl, h.symm⟩
  | o :: r, 0, v, j + 1, w, h => by simp [am_s1] at h; exact Or.inr ⟨by omega, by simpa using h, by omega⟩
  | o :: r, 1, v, 0, w, h => by
    simp [am_s1] at h
    obtain ⟨h1, h2⟩ := am_c2_some h
    exact Or.inr ⟨by omega, by simpa using h1, fun _ => h2⟩
  | o :: r, 1, v, j + 1, w, h => by
    simp [am_s1] at h
    rcases am_s1_at r 0 v j w h with ⟨e1, e2⟩ | ⟨e1, e2, e3⟩
    · exact Or.inl ⟨by omega, e2⟩
    · exact Or.inr ⟨by omega, by simpa using e2, by omega⟩
  | o :: r, i + 2, v, 0, w, h => by
    simp [am_s1] at h
    exact Or.inr ⟨by omega, by simpa using h, by omega⟩
  | o :: r, i + 2, v, j + 1, w, h => by
    simp [am_s1] at h
    rcases am_s1_at r (i + 1) v j w h with ⟨e1, e2⟩ | ⟨e1, e2, e3⟩
    · exact Or.inl ⟨by omega, e2⟩
    · exact Or.inr ⟨by omega, by simpa using e2, fun q => e3 (by omega)⟩
theorem am_s2_at : ∀ (lv : List (Option Value)) (i : Nat) (v : Value) (j : Nat) (w : Value), (am_s2 lv i v)[j]? = some (some w) → (j = i ∧ w = v) ∨ (j ≠ i ∧ j ≠ i + 1 ∧ lv[j]? = some (some w) ∧ (j + 1 = i → w.category = 1))
  | [], i, v, j, w, h => by simp [am_s2] at h
  | [o], 0, v, 0, w, h => by simp [am_s2] at h; exact Or.inl ⟨rfl, h.symm⟩
  | [o], 0, v, j + 1, w, h => by simp [am_s2] at h
  | o :: o2 :: r, 0, v, 0, w, h => by simp [am_s2] at h; exact Or.inl ⟨rfl, h.symm⟩
  | o :: o2 :: r, 0, v, 1, w, h => by simp [am_s2] at h
  | o :: o2 :: r, 0, v, j + 2, w, h => by simp [am_s2] at h; exact Or.inr ⟨by omega, by omega, by simpa using h, by omega⟩
  | o :: r, 1, v, 0, w, h => by
    simp [am_s2] at h
    obtain ⟨h1, h2⟩ := am_c2_some h
    exact Or.inr ⟨by omega, by omega, by simpa using h1, fun _ => h2⟩
  | o :: r, 1, v, j + 1, w, h => by
    simp [am_s2] at h
    rcases am_s2_at r 0 v j w h with ⟨e1, e2⟩ | ⟨e1, e0, e2, e3⟩
    · exact Or.inl ⟨by omega, e2⟩
    · exact Or.inr ⟨by omega, by omega, by simpa using e2, by omega⟩
  | o :: r, i + 2, v, 0, w, h => by
    simp [am_s2] at h
    exact Or.inr ⟨by omega, by omega, by simpa using h, by omega⟩
  | o :: r, i + 2, v, j + 1, w, h => by
    simp [am_s2] at h
    rcases am_s2_at r (i + 1) v j w h with ⟨e1, e2⟩ | ⟨e1, e0, e2, e3⟩
    · exact Or.inl ⟨by omega, e2⟩
    · exact Or.inr ⟨by omega, by omega, by simpa using e2, fun q => e3 (by omega)⟩
/-- the known locals as the kit has them -/
def am_pr (a : Nat → Nat) : Nat → List (Option Value) → List (Nat × Value)
  | _, [] => []
  | i, none :: r => am_pr a (i + 1) r
  | i, some v :: r => (i, am_v a v) :: am_pr a (i + 1) r
theorem am_pr_mem (a : Nat → Nat) : ∀ (lv : List (Option Value)) (i : Nat) (q : Nat × Value), q ∈ am_pr a i lv ↔ ∃ (j : Nat) (v : Value), lv[j]? = some (some v) ∧ q = (i + j, am_v a v)
  | [], i, q => by simp [am_pr]
  | none :: r, i, q => by
    simp only [am_pr, am_pr_mem a r (i + 1) q]
    constructor
    · rintro ⟨j, v, h1, h2⟩
      exact ⟨j + 1, v, by simpa using h1, by rw [h2]; congr 1; omega⟩
    · rintro ⟨j, v, h1, h2⟩
      cases j with
      | zero => simp at h1
      | succ j => exact ⟨j, v, by simpa using h1, by rw [h2]; congr 1; omega⟩
  | some w :: r, i, q => by
    simp only [am_pr, List.mem_cons, am_pr_mem a r (i + 1) q]
    constructor
    · rintro (h | ⟨j, v, h1, h2⟩)
      · exact ⟨0, w, by simp, by simpa using h⟩
      · exact ⟨j + 1, v, by simpa using h1, by rw [h2]; congr 1; omega⟩
    · rintro ⟨j, v, h1, h2⟩
      cases j with
      | zero => simp at h1; subst h1; exact Or.inl (by simpa using h2)
      | succ j => exact Or.inr ⟨j, v, by simpa using h1, by rw [h2]; congr 1; omega⟩
theorem am_has_lv {ls : Array Slot} {n : Nat} {a : Nat → Nat} {lv : List (Option Value)} (h : am_has ls n a lv) : lv_has ls n (am_pr a 0 lv) := by
  refine ⟨h.1, h.2.1, fun q hq => ?_⟩
  obtain ⟨j, v, h1, rfl⟩ := (am_pr_mem a lv 0 q).mp hq
  simpa using h.2.2 j v h1
theorem am_has_s1 {ls : Array Slot} {n i : Nat} {a : Nat → Nat} {lv : List (Option Value)} {v : Value} {l2 : List (Nat × Value)} (h2 : (i, am_v a v) :: (am_pr a 0 lv).filter (fun q => !(q.1 == i) && !(q.1 + 1 == i && q.2.category == 2)) = l2) (h : lv_has ls n l2) : am_has ls n a (am_s1 lv i v) := by
  subst h2
  refine ⟨h.1, h.2.1, fun j w hj => ?_⟩
  rcases am_s1_at lv i v j w hj with ⟨rfl, rfl⟩ | ⟨e1, e2, e3⟩
  · exact h.2.2 (j, am_v a w) List.mem_cons_self
  · refine h.2.2 (j, am_v a w) (List.mem_cons_of_mem _ (List.mem_filter.mpr ⟨(am_pr_mem a lv 0 _).mpr ⟨j, w, e2, by simp⟩, ?_⟩))
    by_cases q : j + 1 = i
    · simp [am_v_cat, e3 q, e1]
    · simp [e1, q]
theorem am_has_s2 {ls : Array Slot} {n i : Nat} {a : Nat → Nat} {lv : List (Option Value)} {v : Value} {l2 : List (Nat × Value)} (h2 : (i, am_v a v) :: (am_pr a 0 lv).filter (fun q => !(q.1 == i) && (!(q.1 == i + 1) && !(q.1 + 1 == i && q.2.category == 2))) = l2) (h : lv_has ls n l2) : am_has ls n a (am_s2 lv i v) := by
  subst h2
  refine ⟨h.1, h.2.1, fun j w hj => ?_⟩
  rcases am_s2_at lv i v j w hj with ⟨rfl, rfl⟩ | ⟨e1, e0, e2, e3⟩
  · exact h.2.2 (j, am_v a w) List.mem_cons_self
  · refine h.2.2 (j, am_v a w) (List.mem_cons_of_mem _ (List.mem_filter.mpr ⟨(am_pr_mem a lv 0 _).mpr ⟨j, w, e2, by simp⟩, ?_⟩))
    by_cases q : j + 1 = i
    · simp [am_v_cat, e3 q, e1, e0]
    · simp [e1, e0, q]
/-- less is known -/
def am_le : List (Option Value) → List (Option Value) → Prop
  | _, [] => True
  | [], none :: r2 => am_le [] r2
  | [], some _ :: _ => False
  | _ :: r, none :: r2 => am_le r r2
  | o :: r, some v :: r2 => o = some v ∧ am_le r r2
theorem am_le_at : ∀ (l1 l2 : List (Option Value)), am_le l1 l2 → ∀ (i : Nat) (v : Value), l2[i]? = some (some v) → l1[i]? = some (some v)
  | _, [], _, i, v, h => by simp at h
  | [], none :: r2, hl, i, v, h => by
    cases i with
    | zero => simp at h
    | succ i => simpa using am_le_at [] r2 (by simpa [am_le] using hl) i v (by simpa using h)
  | [], some _ :: _, hl, _, _, _ => by simp [am_le] at hl
  | o :: r, none :: r2, hl, i, v, h => by
    cases i with
    | zero => simp at h
    | succ i => simpa using am_le_at r r2 (by simpa [am_le] using hl) i v (by simpa using h)
  | o :: r, some w :: r2, hl, i, v, h => by
    have hl : o = some w ∧ am_le r r2 := by simpa [am_le] using hl
    cases i with
    | zero => simp at h ⊢; rw [hl.1, h]
    | succ i => simpa using am_le_at r r2 hl.2 i v (by simpa using h)
theorem am_has_le {ls : Array Slot} {n : Nat} {a : Nat → Nat} {l1 l2 : List (Option Value)} (hl : am_le l1 l2) (h : am_has ls n a l1) : am_has ls n a l2 := ⟨h.1, h.2.1, fun i v q => h.2.2 i v (am_le_at l1 l2 hl i v q)⟩
/-- the locals at the entry: the arguments by their places -/
def am_en : List Value → List (Option Value)
  | [] => []
  | .long v :: r => some (.long v) :: none :: am_en r
  | .double v :: r => some (.double v) :: none :: am_en r
  | v :: r => some v :: am_en r
theorem am_en_at (a : Nat → Nat) : ∀ (av : List Value) (i j : Nat) (v : Value), (am_en av)[j]? = some (some v) → (i + j, am_v a v) ∈ lv_args i (av.map (am_v a))
  | [], i, j, v, h => by simp [am_en] at h
  | w :: r, i, j, v, h => by
    by_cases hw : w.category = 2
    · have he : am_en (w :: r) = some w :: none :: am_en r := by cases w <;> simp_all [am_en, Value.category]
      rw [he] at h
      simp only [List.map_cons, lv_args, am_v_cat, hw, if_true]
      match j, h with
      | 0, h => simp at h; subst h; exact List.mem_cons_self
      | 1, h => simp at h
      | j + 2, h =>
        have := am_en_at a r (i + 2) j v (by simpa using h)
        exact List.mem_cons_of_mem _ (by rw [show i + (j + 2) = i + 2 + j by omega]; exact this)
    · have he : am_en (w :: r) = some w :: am_en r := by cases w <;> simp_all [am_en, Value.category]
      rw [he] at h
      simp only [List.map_cons, lv_args, am_v_cat, hw, if_false]
      match j, h with
      | 0, h => simp at h; subst h; exact List.mem_cons_self
      | j + 1, h =>
        have := am_en_at a r (i + 1) j v (by simpa using h)
        exact List.mem_cons_of_mem _ (by rw [show i + (j + 1) = i + 1 + j by omega]; exact this)
/-- the shallow words: a value by a name, a place in a row -/
def am_lt {α β : Type} (v : α) (K : α → Option β) : Option β := K v
def am_ck {β : Type} (i : Int32) (n : Nat) (K : Option β) : Option β := if 0 ≤ i.toInt ∧ i.toInt < n then K else none
def am_bl {β : Type} (v : Int32) (K : Option β) : Option β := if v = 0 ∨ v = 1 then K else none
def am_nz {α β : Type} (v w : α) (d : Decidable (v = w)) (K : Option β) : Option β := @ite _ (v = w) d none K
def am_b3 {α β : Type} (F : Option (α × am_I × am_L)) (K : α → am_I → am_L → Option β) : Option β := match F with
  | none => none
  | some (v, I, L) => K v I L
def am_b2 {β : Type} (F : Option (am_I × am_L)) (K : am_I → am_L → Option β) : Option β := match F with
  | none => none
  | some (I, L) => K I L
theorem am_ckE {β : Type} {i : Int32} {n : Nat} {K : Option β} {r : β} (h : am_ck i n K = some r) : vp_in i n ∧ K = some r := by
  unfold am_ck at h
  split at h
  next q => exact ⟨vp_in_iff.mpr q, h⟩
  next => cases h
theorem am_blE {β : Type} {v : Int32} {K : Option β} {r : β} (h : am_bl v K = some r) : (v = 0 ∨ v = 1) ∧ K = some r := by
  unfold am_bl at h
  split at h
  next q => exact ⟨q, h⟩
  next => cases h
theorem am_b3E {α β : Type} {F : Option (α × am_I × am_L)} {K : α → am_I → am_L → Option β} {r : β} (h : am_b3 F K = some r) : ∃ v I L, F = some (v, I, L) ∧ K v I L = some r := by
  rcases F with _ | ⟨v, I, L⟩
  · cases h
  · exact ⟨v, I, L, rfl, h⟩
theorem am_b2E {β : Type} {F : Option (am_I × am_L)} {K : am_I → am_L → Option β} {r : β} (h : am_b2 F K = some r) : ∃ I L, F = some (I, L) ∧ K I L = some r := by
  rcases F with _ | ⟨I, L⟩
  · cases h
  · exact ⟨I, L, rfl, h⟩
/-- what a method's walk stands in: p l e R s m args below meth c D G A a0 k0 mc ms -/
abbrev am_X : Type := Program × Launch × Env × Room × State × MethodId × Array Value × List Frame × Method × Code × va_G × am_G × (Nat → Prop) × (Nat → Nat) × (Nat → Prop) × Nat × Nat
/-- how a method ends: its answer, and the world that it leaves -/
def am_Qc (D : va_G) (G : am_G) (A : Nat → Prop) (a0 : Nat → Nat) (k0 : Nat → Prop) (Ps : am_S → Prop) : Array Value → State → Outcome → State → Prop := fun _ st oc t =>
  (∃ (a : Nat → Nat) (res : am_S), Ps res ∧ (∀ k, k0 k → a k = a0 k) ∧ oc = .returned (res.1.map (am_v a)) ∧ va_P D vwCl (am_ws G a res.2.1 res.2.2.1 res.2.2.2.1 res.2.2.2.2) t.heap ∧ va_K D vwCl (am_ty G) t ∧ va_D A (am_ws G a res.2.1 res.2.2.1 res.2.2.2.1 res.2.2.2.2)) ∧ va_F A st t
/-- the walk is at pc, with locals lv, operands st, the cells ks with R I L in them, nc cells of ns slots made: it comes to Q -/
def am_JQ (x : am_X) (Q : State → Prop) (pc : Nat) (lv : List (Option Value)) (st : List Value) (ks : List am_k) (R : am_R) (I : am_I) (L : am_L) (nc ns : Nat) : Prop := match x with
  | (p, l, e, Rm, s, m, args, below, meth, c, D, G, A, a0, k0, _, _) => ∀ (a : Nat → Nat) (H : Heap) (ls : Array Slot) (locs : List Loc), (∀ k, k0 k → a k = a0 k) → va_P D vwCl (am_ws G a ks R I L) H → va_D A (am_ws G a ks R I L) → va_S A s.heap H locs → am_has ls c.maxLocals a lv →
      W p l e Rm s m args below meth c H locs nc ns Q (F0 m pc ls (st.map (am_v a)))
def am_Q (x : am_X) (res : am_S → Prop) : State → Prop := match x with
  | (_, _, _, _, s, _, args, below, _, _, D, G, A, a0, k0, mc, ms) => MQ below (am_Qc D G A a0 k0 res) args s mc ms A
/-- .. it ends as res says -/
abbrev am_J (x : am_X) (res : am_S → Prop) (pc : Nat) (lv : List (Option Value)) (st : List Value) (ks : List am_k) (R : am_R) (I : am_I) (L : am_L) (nc ns : Nat) : Prop := am_JQ x (am_Q x res) pc lv st ks R I L nc ns
/-- constant cells that no method changes: a static row of ints at the number k -/
def am_sa (n : String) (k : Nat) (f : Nat → Int32) (A : Nat → Prop) (a : Nat → Nat) (U : State) (H : Heap) : Prop := va_Z RX10 n "[I" (.ref (a k)) A U H ∧ va_T .int (a k) 10 (fun j => .int (f j)) A U H
def am_cW (j : Nat) : Int32 := ([0, 6, 1, 0, 3, 0, 3, 2, 6, 0] : List Int32).getD j 0
def am_cL (j : Nat) : Int32 := ([0, 0, 1, 0, 0, 0, 1, 1, 0, 0] : List Int32).getD j 0
def am_cM (j : Nat) : Int32 := ([1, 20, 5, 1, 9, 9, 20, 9, 9, 1] : List Int32).getD j 0
def am_by : List (List Int32) := [[115, 100, 118, 98, 110, 105, 107, 120, 112, 103], [100, 98, 110, 105, 121, 115]]
/-- links of private constructors, and the class of int[][]: words that don't stand among am_gd -/
def am_nl : List (String × Nat × MethodName × String) := [(RX11, 9, yX8_init, RX11), (RX11, 18, yX9_init, RX11), (RX11, 46, yX3_init, RX11), (RX11, 62, yX5_init, RX11), (RX11, 69, yX6_init, RX11), (RX11, 76, yX0_init, RX11), (RX11, 92, yX4_init, RX11)]
def am_NW (U : State) : Prop := (∀ q ∈ am_nl, va_Nw (.methodLinkNest q.1 q.2.1 q.2.2.1 q.2.2.2) U) ∧ (Cond.arrayOver (.array .int)).before #[] U = true
theorem am_AO_moved {u U : State} (hvm : u.vm.Alike U.vm) (h : (Cond.arrayOver (.array .int)).before #[] u = true) : (Cond.arrayOver (.array .int)).before #[] U = true := by
  have e : (Cond.arrayOver (.array .int)).before #[] U = (Cond.arrayOver (.array .int)).before #[] (u.setVm U.vm) := rfl
  rw [e, Cond.arrayOver_setVmC hvm]
  exact h
theorem am_NW_warm {s U : State} (hW : s.WarmedH U.vm) (h : am_NW s) : am_NW U := ⟨fun q hq => (h.1 q hq).warmM hW, am_AO_moved hW.alike h.2⟩
theorem am_NW_same {s U : State} (hv : U.vm = s.vm) (h : am_NW s) : am_NW U := ⟨fun q hq => (h.1 q hq).same rfl hv.symm, am_AO_moved (by rw [hv]; exact Vm.Alike.refl _) h.2⟩
/-- what is known of constant cells: statics at 1000001 .. 1000003, two texts at 1000010 and 1000012, their bytes behind them -/
def am_E (A : Nat → Prop) (a : Nat → Nat) (U : State) (H : Heap) : Prop := am_sa "WITHOUT" 1000001 am_cW A a U H ∧ am_sa "LEAST" 1000002 am_cL A a U H ∧ am_sa "MOST" 1000003 am_cM A a U H ∧ va_Z "java/lang/String" "COMPACT_STRINGS" "Z" (.int 1) A U H ∧ vk_R RX10 107 "sdvbnikxpg" (a 1000010) U ∧ vk_R RX2 88 "dbniys" (a 1000012) U ∧
  vk_S 2 [10, 6] am_by (fun i => a (1000010 + 2 * i)) (fun i => a (1000011 + 2 * i)) A U H ∧ am_NW U
theorem am_E_warm {A : Nat → Prop} {a : Nat → Nat} {s U : State} {H : Heap} (hW : s.WarmedH U.vm) (h : am_E A a s H) : am_E A a U H := by
  obtain ⟨⟨a1, a2⟩, ⟨b1, b2⟩, ⟨c1, c2⟩, d, e, f, g, w⟩ := h
  exact ⟨⟨a1.moved hW.alike, a2.moved hW.alike⟩, ⟨b1.moved hW.alike, b2.moved hW.alike⟩, ⟨c1.moved hW.alike, c2.moved hW.alike⟩, d.moved hW.alike, e.warm hW, f.warm hW, g.moved hW.alike, am_NW_warm hW w⟩
theorem am_E_same {A : Nat → Prop} {a : Nat → Nat} {s U : State} {H : Heap} (hv : U.vm = s.vm) (h : am_E A a s H) : am_E A a U H := by
  have hal : s.vm.Alike U.vm := by rw [hv]; exact Vm.Alike.refl _
  obtain ⟨⟨a1, a2⟩, ⟨b1, b2⟩, ⟨c1, c2⟩, d, e, f, g, w⟩ := h
  exact ⟨⟨a1.moved hal, a2.moved hal⟩, ⟨b1.moved hal, b2.moved hal⟩, ⟨c1.moved hal, c2.moved hal⟩, d.moved hal, e.same hv, f.same hv, g.moved hal, am_NW_same hv w⟩
theorem am_E_call {A A1 : Nat → Prop} {a : Nat → Nat} {H0 H : Heap} {locs : List Loc} {U : State} (hS : va_S A H0 H locs) (hsub : ∀ q, A1 q → A q) (h : am_E A a U H0) : am_E A1 a U H := by
  obtain ⟨⟨a1, a2⟩, ⟨b1, b2⟩, ⟨c1, c2⟩, d, e, f, g, w⟩ := h
  exact ⟨⟨(a1.kept hS.2.1).narrow hsub, (a2.kept hS.2.1).narrow hsub⟩, ⟨(b1.kept hS.2.1).narrow hsub, (b2.kept hS.2.1).narrow hsub⟩, ⟨(c1.kept hS.2.1).narrow hsub, (c2.kept hS.2.1).narrow hsub⟩, (d.kept hS.2.1).narrow hsub, e, f, (g.kept hS.2.1).narrow hsub, w⟩
theorem am_E_at {A : Nat → Prop} {a b : Nat → Nat} {U : State} {H : Heap} (hab : ∀ k, 1000000 ≤ k → b k = a k) (h : am_E A a U H) : am_E A b U H := by
  unfold am_E am_sa at h ⊢
  rw [hab 1000001 (by decide), hab 1000002 (by decide), hab 1000003 (by decide), hab 1000010 (by decide), hab 1000012 (by decide), show (fun i => b (1000010 + 2 * i)) = (fun i => a (1000010 + 2 * i)) from funext fun i => hab _ (by omega), show (fun i => b (1000011 + 2 * i)) = (fun i => a (1000011 + 2 * i)) from funext fun i => hab _ (by omega)]
  exact h
/-- the words of the tables that hold at every call -/
def am_gd : List Cond := lw_tbl.filter goodWord
/-- what is known throughout the walk: its bytes, its method, its locals, its answer's type, how deep it may call, what it may make -/
def am_ok (x : am_X) (cc : ByteArray) (y : MethodName) (nL : Nat) (ret : Option FieldType) (dd mc ms : Nat) : Prop := match x with
  | (p, _, _, Rm, s, m, args, _, meth, c, D, G, A, a0, k0, mc', ms') => p.tables.exec = Jvm.exec ∧ c.code = cc ∧ s.vm.findClass y.cls = some m.cls ∧ (∀ w ∈ am_gd, w.before args s = true) ∧ meth.sig.returnType = ret ∧ meth.locks = false ∧ va_K D vwCl (am_ty G) s ∧ (∀ q, s.heap.size ≤ q → A q) ∧ dd ≤ Rm.frames ∧ 40 * dd ≤ Rm.locals ∧ (mc' = mc ∧ ms' = ms ∧ mc ≤ Rm.cells ∧ ms ≤ Rm.slots) ∧ c.maxLocals = nL ∧ meth.name = y.name ∧ am_E A a0 s s.heap ∧ ∀ k, 1000000 ≤ k → k0 k
/-- the cells whose places are kept -/
def am_k0 (x : am_X) : Nat → Prop := match x with
  | (_, _, _, _, _, _, _, _, _, _, _, _, _, _, k0, _, _) => k0
def am_wd (y : MethodName) (cc : ByteArray) (n : Nat) (ret : Option FieldType) : List Cond := .code y cc n ret :: am_gd
/-- a method's contract: from arguments and a world to an answer and a world; d frames deep at most, mc cells of ms slots made, the cells of k0 where they were -/
def am_CA (l : Launch) (y : MethodName) (cc : ByteArray) (n : Nat) (ret : Option FieldType) (d mc ms : Nat) (k0 : Nat → Prop) (av : List Value) (ks : List am_k) (R : am_R) (I : am_I) (L : am_L) (res : am_S → Prop) : Prop :=
  ∀ (D : va_G) (G : am_G) (a : Nat → Nat) (sz : Nat), Met l y (am_wd y cc n ret) ({ frames := d, cells := mc, slots := ms, locals := 40 * d }) (va_Pc (av.map (am_v a)) (fun U => U.heap.size = sz ∧ va_P D vwCl (am_ws G a ks R I L) U.heap ∧ va_K D vwCl (am_ty G) U ∧ va_D (fun _ => True) (am_ws G a ks R I L) ∧ am_E (va_A (am_ws G a ks R I L) sz) a U U.heap))
    (am_Qc D G (va_A (am_ws G a ks R I L) sz) a k0 res) mc ms (va_A (am_ws G a ks R I L) sz)
/-- one that makes nothing -/
abbrev am_C (l : Launch) (y : MethodName) (cc : ByteArray) (n : Nat) (ret : Option FieldType) (d : Nat) (av : List Value) (ks : List am_k) (R : am_R) (I : am_I) (L : am_L) (v : Option Value) (I' : am_I) (L' : am_L) : Prop :=
  am_CA l y cc n ret d 0 0 (fun _ => True) av ks R I L (fun S => S = (v, ks, R, I', L'))
theorem am_sl (a : Nat → Nat) : ∀ vs : List Value, (lg_sl (vs.map (am_v a))).length = (lg_sl vs).length
  | [] => rfl
  | v :: vs => by
    have ih := am_sl a vs
    simp only [List.map_cons]
    cases v <;> simp_all [lg_sl, am_v, Value.category]
theorem am_ofW {l : Launch} {y : MethodName} {ws ws' : List Cond} {rm : Room} {Pc : Array Value → State → Prop} {Qc : Array Value → State → Outcome → State → Prop} {mc ms : Nat} {free : Addr → Prop} {cc : ByteArray} {maxL : Nat} {ret : Option FieldType}
    (hy : plainFor y = true) (hw : ws = Cond.code y cc maxL ret :: ws')
    (body : ∀ p e s m args below meth c s₁, BodyLoose p l y (headSpec ws rm) cc maxL ret e s m args below meth c s₁ → c.maxLocals = maxL → Pc args s →
      W p l e (headSpec ws rm).room s m args below meth c s.heap [] 0 0 (MQ below Qc args s mc ms free) (entryFrame m args maxL)) : Met l y ws rm Pc Qc mc ms free := by
  refine MetFree.of_bodySF (code := cc) (maxLocals := maxL) (ret := ret) hy ?_ ?_
  · intro args s m h hn
    obtain ⟨meth, c, h1, h2, h3, h4, h5, h6, -, -⟩ := Cond.code_spec hn (atoms_spec (ws := ws) h _ (by rw [hw]; exact List.mem_cons_self))
    exact ⟨meth, c, h1, h2, h3, h4, h5, h6⟩
  · intro p e s m args below meth c s₁ B hml hP _
    have hh0 : s₁.heap = s.heap := by rw [B.state]; rfl
    obtain ⟨t, a1, o, b1, b2, b3⟩ := body p e s m args below meth c s₁ B hml hP s₁ hh0 (Stand.of_body B)
    exact ⟨t, o, a1, b1, b2, ⟨b3.1, b3.2⟩⟩
/-- a contract out of its walk -/
theorem am_intro {l : Launch} {y : MethodName} {cc : ByteArray} {n : Nat} {ret : Option FieldType} {d mc ms : Nat} {k0 : Nat → Prop} {av : List Value} {ks : List am_k} {R : am_R} {I : am_I} {L : am_L} {res : am_S → Prop} (hy : plainFor y = true) (hk0 : ∀ k, 1000000 ≤ k → k0 k) (hn : (lg_sl av).length ≤ n)
    (h : ∀ x : am_X, x.2.1 = l → am_ok x cc y n ret d mc ms → am_J x res 0 (am_en av) [] ks R I L 0 0) : am_CA l y cc n ret d mc ms k0 av ks R I L res := by
  intro D G a sz
  refine am_ofW (cc := cc) (maxL := n) (ret := ret) hy rfl ?_
  intro p e s m args below meth c s₁ B hml hv
  obtain ⟨rfl, hsz, hP, hK, hD0, hE⟩ := hv
  have hts := atoms_spec (ws := am_wd y cc n ret) B.pre
  subst hsz
  have hD := hD0.self (sz := s.heap.size)
  have hl := lv_entry (av.map (am_v a)) (n := n) (by rw [am_sl]; exact hn)
  rw [lg_entry_eq]
  generalize (lg_sl (av.map (am_v a)) ++ List.replicate (n - (lg_sl (av.map (am_v a))).length) Slot.unset).toArray = ls at hl ⊢
  have hl2 : am_has ls c.maxLocals a (am_en av) := ⟨hl.1.trans hml.symm, hl.2.1, fun i v hi => by
    have := hl.2.2 _ (am_en_at a av 0 i v hi)
    simpa using this⟩
  exact h (p, l, e, (headSpec (am_wd y cc n ret) { frames := d, cells := mc, slots := ms, locals := 40 * d }).room, s, m, (av.map (am_v a)).toArray, below, meth, c, D, G, va_A (am_ws G a ks R I L) s.heap.size, a, k0, mc, ms) rfl
    ⟨B.exec, B.bytes, findClass_of_methodNamed B.named, fun w hw => hts w (List.mem_cons_of_mem _ hw), B.returns, B.notSynchronized, hK, fun q hq => Or.inr hq, Nat.le_refl _, Nat.le_refl _, ⟨rfl, rfl, Nat.le_refl _, Nat.le_refl _⟩, hml, (name_of_methodNamed B.named B.method).1, hE, hk0⟩ a s.heap ls [] (fun _ _ => rfl) hP hD va_S.rf hl2
/-- what the tables say of a method that is called: on an object, or static -/
def am_mv (y : MethodName) (cc : ByteArray) (n : Nat) (ret : Option FieldType) (na : Nat) : Prop := Cond.code y cc n ret ∈ am_gd ∧ Cond.instanceMethod y ∈ am_gd ∧ Cond.selects y.cls y y ∈ am_gd ∧ Cond.initialized y.cls ∈ am_gd ∧ (y.cls ≠ "java/lang/invoke/MethodHandle" ∧ y.cls ≠ "java/lang/invoke/VarHandle" ∧ (parseMethodDescriptor y.desc).map (fun d => d.parameters.length) = some na)
def am_ms (y : MethodName) (cc : ByteArray) (n : Nat) (ret : Option FieldType) (na : Nat) : Prop := Cond.code y cc n ret ∈ am_gd ∧ Cond.static y ∈ am_gd ∧ Cond.initialized y.cls ∈ am_gd ∧ (y.cls ≠ "java/lang/invoke/MethodHandle" ∧ y.cls ≠ "java/lang/invoke/VarHandle" ∧ (parseMethodDescriptor y.desc).map (fun d => d.parameters.length) = some na)
theorem am_good : am_gd.all goodWord = true := List.all_eq_true.mpr (fun _ h => (List.mem_filter.mp h).2)
theorem am_mem {w : Cond} (i : Nat) (h : lw_tbl[i]? = some w) (hg : goodWord w = true) : w ∈ am_gd := List.mem_filter.mpr ⟨List.mem_of_getElem? h, hg⟩
/-- behind a call -/
theorem am_run {p : Program} {l : Launch} {e : Env} {Rm : Room} {s : State} {m : MethodId} {args : Array Value} {below : List Frame} {meth : Method} {c : Code} {H : Heap} {locs : List Loc} {nc ns mc ms pc : Nat} {Q : State → Prop} {ls : Array Slot} {rest st0 : List Value} {av : Array Value} {A0 A1 : Nat → Prop} {H0 : Heap} {free : Addr → Prop} {D : va_G} {G : am_G} {a0 : Nat → Nat} {k0 : Nat → Prop} {Ps : am_S → Prop}
    (hr : va_Run p l e Rm s m args below meth c H locs nc ns mc ms (F0 m pc ls st0) rest (am_Qc D G A1 a0 k0 Ps av) free) (hS : va_S A0 H0 H locs) (hA : ∀ q, q < H.size → A1 q → A0 q) (hf : ∀ q, free q → A0 q)
    (kk : ∀ (a : Nat → Nat) (res : am_S) (t : State) (H1 : Heap) (locs1 : List Loc), t.heap = H1 → Ps res → (∀ k, k0 k → a k = a0 k) → va_P D vwCl (am_ws G a res.2.1 res.2.2.1 res.2.2.2.1 res.2.2.2.2) t.heap → va_D A1 (am_ws G a res.2.1 res.2.2.1 res.2.2.2.1 res.2.2.2.2) → va_S A0 H0 H1 locs1 → (∀ q : Nat, q < H.size → ¬ A1 q → H1[q]? = H[q]?) → W p l e Rm s m args below meth c H1 locs1 (nc + mc) (ns + ms) Q (F0 m (pc + 3) ls ((res.1.map (am_v a)).toList ++ rest))) : W p l e Rm s m args below meth c H locs nc ns Q (F0 m pc ls st0) := by
  intro T hT X
  obtain ⟨v, st₀, t, T', L, h0, X', hL, e1, e2, ⟨⟨a, res, gp, g1, hv, g2, g3, g4⟩, hz, hk⟩, st⟩ := hr T hT X
  have hv : v = res.1.map (am_v a) := by cases hv; rfl
  subst hv
  rw [h0] at hz hk
  obtain ⟨t2, a1, b1⟩ := kk a res t T'.heap (locs ++ L) e1.symm gp g1 g2 g4
    ⟨Nat.le_trans hS.1 (by rw [e1]; exact hz), fun q h1 h2 => by rw [e1, hk q (Nat.lt_of_lt_of_le h1 hS.1) (fun z => h2 (hA q (Nat.lt_of_lt_of_le h1 hS.1) z))]; exact hS.2.1 q h1 h2, fun q hq => by
      rcases List.mem_append.mp hq with h | h
      · exact hS.2.2 q h
      · exact hf _ (hL q h)⟩ (fun q h1 h2 => by rw [e1]; exact hk q h1 h2) T' rfl X'
  exact ⟨t2, st t2 a1, b1⟩
/-- a field that is read: own's pool entry i, cell t's place j, of sort q -/
def am_fg (ks : List am_k) (own : String) (i t j q : Nat) : Prop := ∃ (ci N : Nat) (C : String) (T : u_T) (ts : List Nat), ks[t]? = some (.inl (ci, ts)) ∧ vwCl[ci]? = some (C, T, N) ∧ (∀ w ∈ u_ws C T N, w ∈ am_gd) ∧ Cond.fieldLink own i (T j).1 (T j).2.1 (T j).2.2.1 ∈ am_gd ∧ j < N ∧ ts[j]? = some q
/-- one that is written -/
def am_fp (ks : List am_k) (own : String) (i t j q : Nat) (ty : FieldType) (fin : Bool) : Prop := ∃ (ci N : Nat) (C : String) (T : u_T) (ts : List Nat) (ty0 : Nat → FieldType), ks[t]? = some (.inl (ci, ts)) ∧ vwCl[ci]? = some (C, T, N) ∧ (∀ w ∈ u_ws C T N, w ∈ am_gd) ∧ Cond.fieldLink own i (T j).1 (T j).2.1 (T j).2.2.1 ∈ am_gd ∧ j < N ∧ ts[j]? = some q ∧ (∀ k, k < N → parseFieldDescriptor (T k).2.2.1 = some (ty0 k)) ∧ (∀ a, a < N → ∀ b, b < N → a ≠ b → (T a).2.1 ≠ (T b).2.1) ∧ parseFieldDescriptor (T j).2.2.1 = some ty ∧ (T j).2.2.2 = fin ∧ (fin = true → (T j).1 = own)
def am_sw {β : Type} (u : Int32) (lo : Int) (As : List (Option β)) (Z : Option β) : Option β := if u.toInt < lo then Z else match As[(u.toInt - lo).toNat]? with
  | some K => K
  | none => Z
theorem am_rcv {E : String} {t : Nat} {A : Nat → Prop} {U : State} {H : Heap} (h : va_O E t A U H) : ∃ cell : Cell, H[t]? = some cell ∧ cell.vm.isStatics = false ∧ U.vm.findClass E = some cell.cls := by
  obtain ⟨cell, h1, h2, h3, -⟩ := h
  exact ⟨cell, h1, h2, h3⟩
/-- a copy within bounds -/
def am_cp {β : Type} (sp dp n : Int32) (n0 n1 : Nat) (K : Option β) : Option β := if 0 ≤ sp.toInt ∧ 0 ≤ dp.toInt ∧ 0 ≤ n.toInt ∧ sp.toNatClampNeg + n.toNatClampNeg ≤ n0 ∧ dp.toNatClampNeg + n.toNatClampNeg ≤ n1 then K else none
theorem am_nn {z : Int32} (h : 0 ≤ z.toInt) : ¬ z < 0 := fun q => by
  have := Int32.lt_iff_toInt_lt.mp q
  simp at this
  omega
theorem am_cpE {β : Type} {sp dp n : Int32} {n0 n1 : Nat} {K : Option β} {r : β} (h : am_cp sp dp n n0 n1 K = some r) : (¬ sp < 0 ∧ ¬ dp < 0 ∧ ¬ n < 0 ∧ sp.toNatClampNeg + n.toNatClampNeg ≤ n0 ∧ dp.toNatClampNeg + n.toNatClampNeg ≤ n1) ∧ K = some r := by
  unfold am_cp at h
  split at h
  next q => exact ⟨⟨am_nn q.1, am_nn q.2.1, am_nn q.2.2.1, q.2.2.2⟩, h⟩
  next => cases h
def am_cy (I : am_I) (t0 t1 sp dp n : Nat) : am_I := fun k => if k = t1 then va_cpy (I t0) (I t1) sp dp n else I k
def am_cz (I : am_I) (f : Nat → Int32) (t1 sp dp n : Nat) : am_I := fun k => if k = t1 then va_cpy f (I t1) sp dp n else I k
def am_sy : Prop := Cond.native arraycopyName ∈ am_gd ∧ Cond.static arraycopyName ∈ am_gd ∧ Cond.initialized "java/lang/System" ∈ am_gd
section AMJ
variable {x : am_X} {Q : State → Prop} {res : am_S → Prop} {cc : ByteArray} {y : MethodName} {nL : Nat} {ret : Option FieldType} {dd mc ms pc : Nat} {lv : List (Option Value)} {st : List Value} {ks : List am_k} {R : am_R} {I : am_I} {L : am_L} {nc ns : Nat} {β : Type} {z : Option β}
theorem j_iconst (hc : am_ok x cc y nL ret dd mc ms) {n : Int} {v : Int32} (hd : decode cc pc = .ok (.iconst n, 1)) (hv : Int32.ofInt n = v) (k : am_JQ x Q (pc + 1) lv (.int v :: st) ks R I L nc ns) : am_JQ x Q (pc) lv (st) ks R I L nc ns := by
  obtain ⟨p, l, e, Rm, s, m, args, below, meth, c, D, G, A, a0, k0, mc9, ms9⟩ := x
  obtain ⟨hx, hb, hown, hts, hr, hlocks, hK, hA, hfr, hlo, hm, hml, hnm, hE, hk9⟩ := hc
  intro a H ls locs h1 hP hD hS hl
  exact lv_iconst hx hb hd hv (k a H ls locs h1 hP hD hS hl)
theorem j_bipush (hc : am_ok x cc y nL ret dd mc ms) {n : Int} {v : Int32} (hd : decode cc pc = .ok (.bipush n, 2)) (hv : (Int8.ofInt n).toInt32 = v) (k : am_JQ x Q (pc + 2) lv (.int v :: st) ks R I L nc ns) : am_JQ x Q (pc) lv (st) ks R I L nc ns := by
  obtain ⟨p, l, e, Rm, s, m, args, below, meth, c, D, G, A, a0, k0, mc9, ms9⟩ := x
  obtain ⟨hx, hb, hown, hts, hr, hlocks, hK, hA, hfr, hlo, hm, hml, hnm, hE, hk9⟩ := hc
  intro a H ls locs h1 hP hD hS hl
  exact lv_bipush hx hb hd hv (k a H ls locs h1 hP hD hS hl)
theorem j_sipush (hc : am_ok x cc y nL ret dd mc ms) {n : Int} {v : Int32} (hd : decode cc pc = .ok (.sipush n, 3)) (hv : (Int16.ofInt n).toInt32 = v) (k : am_JQ x Q (pc + 3) lv (.int v :: st) ks R I L nc ns) : am_JQ x Q (pc) lv (st) ks R I L nc ns := by
  obtain ⟨p, l, e, Rm, s, m, args, below, meth, c, D, G, A, a0, k0, mc9, ms9⟩ := x
  obtain ⟨hx, hb, hown, hts, hr, hlocks, hK, hA, hfr, hlo, hm, hml, hnm, hE, hk9⟩ := hc
  intro a H ls locs h1 hP hD hS hl
  exact lv_sipush hx hb hd hv (k a H ls locs h1 hP hD hS hl)
theorem j_lconst (hc : am_ok x cc y nL ret dd mc ms) {n : Fin 2} {v : Int64} (hd : decode cc pc = .ok (.lconst n, 1)) (hv : Int64.ofNat (n : Nat) = v) (k : am_JQ x Q (pc + 1) lv (.long v :: st) ks R I L nc ns) : am_JQ x Q (pc) lv (st) ks R I L nc ns := by
  obtain ⟨p, l, e, Rm, s, m, args, below, meth, c, D, G, A, a0, k0, mc9, ms9⟩ := x
  obtain ⟨hx, hb, hown, hts, hr, hlocks, hK, hA, hfr, hlo, hm, hml, hnm, hE, hk9⟩ := hc
  intro a H ls locs h1 hP hD hS hl
  exact lv_lconst hx hb hd hv (k a H ls locs h1 hP hD hS hl)
theorem j_ldc (hc : am_ok x cc y nL ret dd mc ms) {i : Nat} {v : Int32} (hd : decode cc pc = .ok (.ldc i, 2)) (hw : Cond.constant y.cls i v ∈ am_gd) (k : am_JQ x Q (pc + 2) lv (.int v :: st) ks R I L nc ns) : am_JQ x Q (pc) lv (st) ks R I L nc ns := by
  obtain ⟨p, l, e, Rm, s, m, args, below, meth, c, D, G, A, a0, k0, mc9, ms9⟩ := x
  obtain ⟨hx, hb, hown, hts, hr, hlocks, hK, hA, hfr, hlo, hm, hml, hnm, hE, hk9⟩ := hc
  intro a H ls locs h1 hP hD hS hl
  exact lv_ldc hx hb hown (hts _ hw) hd (k a H ls locs h1 hP hD hS hl)
theorem j_ldcw (hc : am_ok x cc y nL ret dd mc ms) {i : Nat} {v : Int32} (hd : decode cc pc = .ok (.ldc_w i, 3)) (hw : Cond.constant y.cls i v ∈ am_gd) (k : am_JQ x Q (pc + 3) lv (.int v :: st) ks R I L nc ns) : am_JQ x Q (pc) lv (st) ks R I L nc ns := by
  obtain ⟨p, l, e, Rm, s, m, args, below, meth, c, D, G, A, a0, k0, mc9, ms9⟩ := x
  obtain ⟨hx, hb, hown, hts, hr, hlocks, hK, hA, hfr, hlo, hm, hml, hnm, hE, hk9⟩ := hc
  intro a H ls locs h1 hP hD hS hl
  exact lv_ldcw hx hb hown (hts _ hw) hd (k a H ls locs h1 hP hD hS hl)
theorem j_ldc2 (hc : am_ok x cc y nL ret dd mc ms) {i : Nat} {v : Int64} (hd : decode cc pc = .ok (.ldc2_w i, 3)) (hw : Cond.constantLong y.cls i v ∈ am_gd) (k : am_JQ x Q (pc + 3) lv (.long v :: st) ks R I L nc ns) : am_JQ x Q (pc) lv (st) ks R I L nc ns := by
  obtain ⟨p, l, e, Rm, s, m, args, below, meth, c, D, G, A, a0, k0, mc9, ms9⟩ := x
  obtain ⟨hx, hb, hown, hts, hr, hlocks, hK, hA, hfr, hlo, hm, hml, hnm, hE, hk9⟩ := hc
  intro a H ls locs h1 hP hD hS hl
  exact lv_ldc2 hx hb hown (hts _ hw) hd (k a H ls locs h1 hP hD hS hl)
theorem j_iload_n (hc : am_ok x cc y nL ret dd mc ms) {i : Fin 4} {v : Int32} (hd : decode cc pc = .ok (.iload_n i, 1)) (hq : lv[(i : Nat)]? = some (some (.int v))) (k : am_JQ x Q (pc + 1) lv (.int v :: st) ks R I L nc ns) : am_JQ x Q (pc) lv (st) ks R I L nc ns := by
  obtain ⟨p, l, e, Rm, s, m, args, below, meth, c, D, G, A, a0, k0, mc9, ms9⟩ := x
  obtain ⟨hx, hb, hown, hts, hr, hlocks, hK, hA, hfr, hlo, hm, hml, hnm, hE, hk9⟩ := hc
  intro a H ls locs h1 hP hD hS hl
  exact lv_iload_n hx hb hd rfl (hl.2.2 _ _ hq) (k a H ls locs h1 hP hD hS hl)
theorem j_iload (hc : am_ok x cc y nL ret dd mc ms) {i : Nat} {v : Int32} (hd : decode cc pc = .ok (.iload i, 2)) (hq : lv[i]? = some (some (.int v))) (k : am_JQ x Q (pc + 2) lv (.int v :: st) ks R I L nc ns) : am_JQ x Q (pc) lv (st) ks R I L nc ns := by
  obtain ⟨p, l, e, Rm, s, m, args, below, meth, c, D, G, A, a0, k0, mc9, ms9⟩ := x
  obtain ⟨hx, hb, hown, hts, hr, hlocks, hK, hA, hfr, hlo, hm, hml, hnm, hE, hk9⟩ := hc
  intro a H ls locs h1 hP hD hS hl
  exact lv_iload hx hb hd (hl.2.2 _ _ hq) (k a H ls locs h1 hP hD hS hl)
theorem j_istore_n (hc : am_ok x cc y nL ret dd mc ms) {i : Fin 4} {v : Int32} {K : Int32 → Option β} (hd : decode cc pc = .ok (.istore_n i, 1)) (hn : (i : Nat) + 0 < nL) (hf : am_lt v K = z) (k : ∀ v : Int32, K v = z → am_JQ x Q (pc + 1) (am_s1 lv (i : Nat) (.int v)) (st) ks R I L nc ns) : am_JQ x Q (pc) lv (.int v :: st) ks R I L nc ns := by
  obtain ⟨p, l, e, Rm, s, m, args, below, meth, c, D, G, A, a0, k0, mc9, ms9⟩ := x
  obtain ⟨hx, hb, hown, hts, hr, hlocks, hK, hA, hfr, hlo, hm, hml, hnm, hE, hk9⟩ := hc
  intro a H ls locs h1 hP hD hS hl
  exact lv_istore_n hx hb hd rfl (am_has_lv hl) (by rw [hml]; exact hn) rfl (fun ls hl => k v hf a H ls locs h1 hP hD hS (am_has_s1 (v := .int v) rfl hl))
theorem j_istore (hc : am_ok x cc y nL ret dd mc ms) {i : Nat} {v : Int32} {K : Int32 → Option β} (hd : decode cc pc = .ok (.istore i, 2)) (hn : (i : Nat) + 0 < nL) (hf : am_lt v K = z) (k : ∀ v : Int32, K v = z → am_JQ x Q (pc + 2) (am_s1 lv (i : Nat) (.int v)) (st) ks R I L nc ns) : am_JQ x Q (pc) lv (.int v :: st) ks R I L nc ns := by
  obtain ⟨p, l, e, Rm, s, m, args, below, meth, c, D, G, A, a0, k0, mc9, ms9⟩ := x
  obtain ⟨hx, hb, hown, hts, hr, hlocks, hK, hA, hfr, hlo, hm, hml, hnm, hE, hk9⟩ := hc
  intro a H ls locs h1 hP hD hS hl
  exact lv_istore hx hb hd (am_has_lv hl) (by rw [hml]; exact hn) rfl (fun ls hl => k v hf a H ls locs h1 hP hD hS (am_has_s1 (v := .int v) rfl hl))
theorem j_lload_n (hc : am_ok x cc y nL ret dd mc ms) {i : Fin 4} {v : Int64} (hd : decode cc pc = .ok (.lload_n i, 1)) (hq : lv[(i : Nat)]? = some (some (.long v))) (k : am_JQ x Q (pc + 1) lv (.long v :: st) ks R I L nc ns) : am_JQ x Q (pc) lv (st) ks R I L nc ns := by
  obtain ⟨p, l, e, Rm, s, m, args, below, meth, c, D, G, A, a0, k0, mc9, ms9⟩ := x
  obtain ⟨hx, hb, hown, hts, hr, hlocks, hK, hA, hfr, hlo, hm, hml, hnm, hE, hk9⟩ := hc
  intro a H ls locs h1 hP hD hS hl
  exact lv_lload_n hx hb hd rfl (hl.2.2 _ _ hq) (k a H ls locs h1 hP hD hS hl)
theorem j_lload (hc : am_ok x cc y nL ret dd mc ms) {i : Nat} {v : Int64} (hd : decode cc pc = .ok (.lload i, 2)) (hq : lv[i]? = some (some (.long v))) (k : am_JQ x Q (pc + 2) lv (.long v :: st) ks R I L nc ns) : am_JQ x Q (pc) lv (st) ks R I L nc ns := by
  obtain ⟨p, l, e, Rm, s, m, args, below, meth, c, D, G, A, a0, k0, mc9, ms9⟩ := x
  obtain ⟨hx, hb, hown, hts, hr, hlocks, hK, hA, hfr, hlo, hm, hml, hnm, hE, hk9⟩ := hc
  intro a H ls locs h1 hP hD hS hl
  exact lv_lload hx hb hd (hl.2.2 _ _ hq) (k a H ls locs h1 hP hD hS hl)
theorem j_lstore_n (hc : am_ok x cc y nL ret dd mc ms) {i : Fin 4} {v : Int64} {K : Int64 → Option β} (hd : decode cc pc = .ok (.lstore_n i, 1)) (hn : (i : Nat) + 1 < nL) (hf : am_lt v K = z) (k : ∀ v : Int64, K v = z → am_JQ x Q (pc + 1) (am_s2 lv (i : Nat) (.long v)) (st) ks R I L nc ns) : am_JQ x Q (pc) lv (.long v :: st) ks R I L nc ns := by
  obtain ⟨p, l, e, Rm, s, m, args, below, meth, c, D, G, A, a0, k0, mc9, ms9⟩ := x
  obtain ⟨hx, hb, hown, hts, hr, hlocks, hK, hA, hfr, hlo, hm, hml, hnm, hE, hk9⟩ := hc
  intro a H ls locs h1 hP hD hS hl
  exact lv_lstore_n hx hb hd rfl (am_has_lv hl) (by rw [hml]; exact hn) rfl (fun ls hl => k v hf a H ls locs h1 hP hD hS (am_has_s2 (v := .long v) rfl hl))
theorem j_lstore (hc : am_ok x cc y nL ret dd mc ms) {i : Nat} {v : Int64} {K : Int64 → Option β} (hd : decode cc pc = .ok (.lstore i, 2)) (hn : (i : Nat) + 1 < nL) (hf : am_lt v K = z) (k : ∀ v : Int64, K v = z → am_JQ x Q (pc + 2) (am_s2 lv (i : Nat) (.long v)) (st) ks R I L nc ns) : am_JQ x Q (pc) lv (.long v :: st) ks R I L nc ns := by
  obtain ⟨p, l, e, Rm, s, m, args, below, meth, c, D, G, A, a0, k0, mc9, ms9⟩ := x
  obtain ⟨hx, hb, hown, hts, hr, hlocks, hK, hA, hfr, hlo, hm, hml, hnm, hE, hk9⟩ := hc
  intro a H ls locs h1 hP hD hS hl
  exact lv_lstore hx hb hd (am_has_lv hl) (by rw [hml]; exact hn) rfl (fun ls hl => k v hf a H ls locs h1 hP hD hS (am_has_s2 (v := .long v) rfl hl))
theorem j_aload_n (hc : am_ok x cc y nL ret dd mc ms) {i : Fin 4} {v : Nat} (hd : decode cc pc = .ok (.aload_n i, 1)) (hq : lv[(i : Nat)]? = some (some (.ref v))) (k : am_JQ x Q (pc + 1) lv (.ref v :: st) ks R I L nc ns) : am_JQ x Q (pc) lv (st) ks R I L nc ns := by
  obtain ⟨p, l, e, Rm, s, m, args, below, meth, c, D, G, A, a0, k0, mc9, ms9⟩ := x
  obtain ⟨hx, hb, hown, hts, hr, hlocks, hK, hA, hfr, hlo, hm, hml, hnm, hE, hk9⟩ := hc
  intro a H ls locs h1 hP hD hS hl
  exact lv_aload_n hx hb hd rfl (hl.2.2 _ _ hq) (k a H ls locs h1 hP hD hS hl)
theorem j_aload (hc : am_ok x cc y nL ret dd mc ms) {i : Nat} {v : Nat} (hd : decode cc pc = .ok (.aload i, 2)) (hq : lv[i]? = some (some (.ref v))) (k : am_JQ x Q (pc + 2) lv (.ref v :: st) ks R I L nc ns) : am_JQ x Q (pc) lv (st) ks R I L nc ns := by
  obtain ⟨p, l, e, Rm, s, m, args, below, meth, c, D, G, A, a0, k0, mc9, ms9⟩ := x
  obtain ⟨hx, hb, hown, hts, hr, hlocks, hK, hA, hfr, hlo, hm, hml, hnm, hE, hk9⟩ := hc
  intro a H ls locs h1 hP hD hS hl
  exact lv_aload hx hb hd (hl.2.2 _ _ hq) (k a H ls locs h1 hP hD hS hl)
theorem j_astore_n (hc : am_ok x cc y nL ret dd mc ms) {i : Fin 4} {v : Nat} (hd : decode cc pc = .ok (.astore_n i, 1)) (hn : (i : Nat) < nL) (k : am_JQ x Q (pc + 1) (am_s1 lv (i : Nat) (.ref v)) (st) ks R I L nc ns) : am_JQ x Q (pc) lv (.ref v :: st) ks R I L nc ns := by
  obtain ⟨p, l, e, Rm, s, m, args, below, meth, c, D, G, A, a0, k0, mc9, ms9⟩ := x
  obtain ⟨hx, hb, hown, hts, hr, hlocks, hK, hA, hfr, hlo, hm, hml, hnm, hE, hk9⟩ := hc
  intro a H ls locs h1 hP hD hS hl
  exact lv_astore_n hx hb hd rfl (am_has_lv hl) (by rw [hml]; exact hn) rfl (fun ls hl => k a H ls locs h1 hP hD hS (am_has_s1 (v := .ref v) rfl hl))
theorem j_astore (hc : am_ok x cc y nL ret dd mc ms) {i : Nat} {v : Nat} (hd : decode cc pc = .ok (.astore i, 2)) (hn : (i : Nat) < nL) (k : am_JQ x Q (pc + 2) (am_s1 lv (i : Nat) (.ref v)) (st) ks R I L nc ns) : am_JQ x Q (pc) lv (.ref v :: st) ks R I L nc ns := by
  obtain ⟨p, l, e, Rm, s, m, args, below, meth, c, D, G, A, a0, k0, mc9, ms9⟩ := x
  obtain ⟨hx, hb, hown, hts, hr, hlocks, hK, hA, hfr, hlo, hm, hml, hnm, hE, hk9⟩ := hc
  intro a H ls locs h1 hP hD hS hl
  exact lv_astore hx hb hd (am_has_lv hl) (by rw [hml]; exact hn) rfl (fun ls hl => k a H ls locs h1 hP hD hS (am_has_s1 (v := .ref v) rfl hl))
theorem j_iinc (hc : am_ok x cc y nL ret dd mc ms) {i : Nat} {n : Int} {u w : Int32} {K : Int32 → Option β} (hd : decode cc pc = .ok (.iinc i n, 3)) (hq : lv[i]? = some (some (.int u))) (hw : Int32.ofInt n = w) (hn : i < nL) (hf : am_lt (u + w) K = z) (k : ∀ v : Int32, K v = z → am_JQ x Q (pc + 3) (am_s1 lv i (.int v)) (st) ks R I L nc ns) : am_JQ x Q (pc) lv (st) ks R I L nc ns := by
  obtain ⟨p, l, e, Rm, s, m, args, below, meth, c, D, G, A, a0, k0, mc9, ms9⟩ := x
  obtain ⟨hx, hb, hown, hts, hr, hlocks, hK, hA, hfr, hlo, hm, hml, hnm, hE, hk9⟩ := hc
  intro a H ls locs h1 hP hD hS hl
  obtain ⟨q, hq2⟩ := List.getElem?_of_mem ((am_pr_mem a lv 0 (i, .int u)).mpr ⟨i, .int u, hq, by simp [am_v]⟩)
  exact lv_iinc (k := q) (v := u + w) hx hb hd (am_has_lv hl) hq2 (by rw [hw]) (by rw [hml]; exact hn) rfl (fun ls hl => k (u + w) hf a H ls locs h1 hP hD hS (am_has_s1 (v := .int (u + w)) rfl hl))
theorem j_iadd (hc : am_ok x cc y nL ret dd mc ms) {u v : Int32} (hd : decode cc pc = .ok (.iadd, 1)) (k : am_JQ x Q (pc + 1) lv (.int (u + v) :: st) ks R I L nc ns) : am_JQ x Q (pc) lv (.int v :: .int u :: st) ks R I L nc ns := by
  obtain ⟨p, l, e, Rm, s, m, args, below, meth, c, D, G, A, a0, k0, mc9, ms9⟩ := x
  obtain ⟨hx, hb, hown, hts, hr, hlocks, hK, hA, hfr, hlo, hm, hml, hnm, hE, hk9⟩ := hc
  intro a H ls locs h1 hP hD hS hl
  exact lv_iadd hx hb hd  (k a H ls locs h1 hP hD hS hl)
theorem j_isub (hc : am_ok x cc y nL ret dd mc ms) {u v : Int32} (hd : decode cc pc = .ok (.isub, 1)) (k : am_JQ x Q (pc + 1) lv (.int (u - v) :: st) ks R I L nc ns) : am_JQ x Q (pc) lv (.int v :: .int u :: st) ks R I L nc ns := by
  obtain ⟨p, l, e, Rm, s, m, args, below, meth, c, D, G, A, a0, k0, mc9, ms9⟩ := x
  obtain ⟨hx, hb, hown, hts, hr, hlocks, hK, hA, hfr, hlo, hm, hml, hnm, hE, hk9⟩ := hc
  intro a H ls locs h1 hP hD hS hl
  exact lv_isub hx hb hd  (k a H ls locs h1 hP hD hS hl)
theorem j_imul (hc : am_ok x cc y nL ret dd mc ms) {u v : Int32} (hd : decode cc pc = .ok (.imul, 1)) (k : am_JQ x Q (pc + 1) lv (.int (u * v) :: st) ks R I L nc ns) : am_JQ x Q (pc) lv (.int v :: .int u :: st) ks R I L nc ns := by
  obtain ⟨p, l, e, Rm, s, m, args, below, meth, c, D, G, A, a0, k0, mc9, ms9⟩ := x
  obtain ⟨hx, hb, hown, hts, hr, hlocks, hK, hA, hfr, hlo, hm, hml, hnm, hE, hk9⟩ := hc
  intro a H ls locs h1 hP hD hS hl
  exact lv_imul hx hb hd  (k a H ls locs h1 hP hD hS hl)
theorem j_iand (hc : am_ok x cc y nL ret dd mc ms) {u v : Int32} (hd : decode cc pc = .ok (.iand, 1)) (k : am_JQ x Q (pc + 1) lv (.int (u &&& v) :: st) ks R I L nc ns) : am_JQ x Q (pc) lv (.int v :: .int u :: st) ks R I L nc ns := by
  obtain ⟨p, l, e, Rm, s, m, args, below, meth, c, D, G, A, a0, k0, mc9, ms9⟩ := x
  obtain ⟨hx, hb, hown, hts, hr, hlocks, hK, hA, hfr, hlo, hm, hml, hnm, hE, hk9⟩ := hc
  intro a H ls locs h1 hP hD hS hl
  exact lv_iand hx hb hd  (k a H ls locs h1 hP hD hS hl)
theorem j_ior (hc : am_ok x cc y nL ret dd mc ms) {u v : Int32} (hd : decode cc pc = .ok (.ior, 1)) (k : am_JQ x Q (pc + 1) lv (.int (u ||| v) :: st) ks R I L nc ns) : am_JQ x Q (pc) lv (.int v :: .int u :: st) ks R I L nc ns := by
  obtain ⟨p, l, e, Rm, s, m, args, below, meth, c, D, G, A, a0, k0, mc9, ms9⟩ := x
  obtain ⟨hx, hb, hown, hts, hr, hlocks, hK, hA, hfr, hlo, hm, hml, hnm, hE, hk9⟩ := hc
  intro a H ls locs h1 hP hD hS hl
  exact lv_ior hx hb hd  (k a H ls locs h1 hP hD hS hl)
theorem j_ixor (hc : am_ok x cc y nL ret dd mc ms) {u v : Int32} (hd : decode cc pc = .ok (.ixor, 1)) (k : am_JQ x Q (pc + 1) lv (.int (u ^^^ v) :: st) ks R I L nc ns) : am_JQ x Q (pc) lv (.int v :: .int u :: st) ks R I L nc ns := by
  obtain ⟨p, l, e, Rm, s, m, args, below, meth, c, D, G, A, a0, k0, mc9, ms9⟩ := x
  obtain ⟨hx, hb, hown, hts, hr, hlocks, hK, hA, hfr, hlo, hm, hml, hnm, hE, hk9⟩ := hc
  intro a H ls locs h1 hP hD hS hl
  exact lv_ixor hx hb hd  (k a H ls locs h1 hP hD hS hl)
theorem j_ishl (hc : am_ok x cc y nL ret dd mc ms) {u v : Int32} (hd : decode cc pc = .ok (.ishl, 1)) (k : am_JQ x Q (pc + 1) lv (.int (u <<< (v &&& 31)) :: st) ks R I L nc ns) : am_JQ x Q (pc) lv (.int v :: .int u :: st) ks R I L nc ns := by
  obtain ⟨p, l, e, Rm, s, m, args, below, meth, c, D, G, A, a0, k0, mc9, ms9⟩ := x
  obtain ⟨hx, hb, hown, hts, hr, hlocks, hK, hA, hfr, hlo, hm, hml, hnm, hE, hk9⟩ := hc
  intro a H ls locs h1 hP hD hS hl
  exact lv_ishl hx hb hd  (k a H ls locs h1 hP hD hS hl)
theorem j_ishr (hc : am_ok x cc y nL ret dd mc ms) {u v : Int32} (hd : decode cc pc = .ok (.ishr, 1)) (k : am_JQ x Q (pc + 1) lv (.int (u >>> (v &&& 31)) :: st) ks R I L nc ns) : am_JQ x Q (pc) lv (.int v :: .int u :: st) ks R I L nc ns := by
  obtain ⟨p, l, e, Rm, s, m, args, below, meth, c, D, G, A, a0, k0, mc9, ms9⟩ := x
  obtain ⟨hx, hb, hown, hts, hr, hlocks, hK, hA, hfr, hlo, hm, hml, hnm, hE, hk9⟩ := hc
  intro a H ls locs h1 hP hD hS hl
  exact lv_ishr hx hb hd  (k a H ls locs h1 hP hD hS hl)
theorem j_iushr (hc : am_ok x cc y nL ret dd mc ms) {u v : Int32} (hd : decode cc pc = .ok (.iushr, 1)) (k : am_JQ x Q (pc + 1) lv (.int ((u.toUInt32 >>> (v.toUInt32 &&& Int32.toUInt32 31)).toInt32) :: st) ks R I L nc ns) : am_JQ x Q (pc) lv (.int v :: .int u :: st) ks R I L nc ns := by
  obtain ⟨p, l, e, Rm, s, m, args, below, meth, c, D, G, A, a0, k0, mc9, ms9⟩ := x
  obtain ⟨hx, hb, hown, hts, hr, hlocks, hK, hA, hfr, hlo, hm, hml, hnm, hE, hk9⟩ := hc
  intro a H ls locs h1 hP hD hS hl
  exact lv_iushr hx hb hd rfl  (k a H ls locs h1 hP hD hS hl)
theorem j_ladd (hc : am_ok x cc y nL ret dd mc ms) {u v : Int64} (hd : decode cc pc = .ok (.ladd, 1)) (k : am_JQ x Q (pc + 1) lv (.long (u + v) :: st) ks R I L nc ns) : am_JQ x Q (pc) lv (.long v :: .long u :: st) ks R I L nc ns := by
  obtain ⟨p, l, e, Rm, s, m, args, below, meth, c, D, G, A, a0, k0, mc9, ms9⟩ := x
  obtain ⟨hx, hb, hown, hts, hr, hlocks, hK, hA, hfr, hlo, hm, hml, hnm, hE, hk9⟩ := hc
  intro a H ls locs h1 hP hD hS hl
  exact lv_ladd hx hb hd  (k a H ls locs h1 hP hD hS hl)
theorem j_lsub (hc : am_ok x cc y nL ret dd mc ms) {u v : Int64} (hd : decode cc pc = .ok (.lsub, 1)) (k : am_JQ x Q (pc + 1) lv (.long (u - v) :: st) ks R I L nc ns) : am_JQ x Q (pc) lv (.long v :: .long u :: st) ks R I L nc ns := by
  obtain ⟨p, l, e, Rm, s, m, args, below, meth, c, D, G, A, a0, k0, mc9, ms9⟩ := x
  obtain ⟨hx, hb, hown, hts, hr, hlocks, hK, hA, hfr, hlo, hm, hml, hnm, hE, hk9⟩ := hc
  intro a H ls locs h1 hP hD hS hl
  exact lv_lsub hx hb hd  (k a H ls locs h1 hP hD hS hl)
theorem j_lmul (hc : am_ok x cc y nL ret dd mc ms) {u v : Int64} (hd : decode cc pc = .ok (.lmul, 1)) (k : am_JQ x Q (pc + 1) lv (.long (u * v) :: st) ks R I L nc ns) : am_JQ x Q (pc) lv (.long v :: .long u :: st) ks R I L nc ns := by
  obtain ⟨p, l, e, Rm, s, m, args, below, meth, c, D, G, A, a0, k0, mc9, ms9⟩ := x
  obtain ⟨hx, hb, hown, hts, hr, hlocks, hK, hA, hfr, hlo, hm, hml, hnm, hE, hk9⟩ := hc
  intro a H ls locs h1 hP hD hS hl
  exact lv_lmul hx hb hd  (k a H ls locs h1 hP hD hS hl)
theorem j_land (hc : am_ok x cc y nL ret dd mc ms) {u v : Int64} (hd : decode cc pc = .ok (.land, 1)) (k : am_JQ x Q (pc + 1) lv (.long (u &&& v) :: st) ks R I L nc ns) : am_JQ x Q (pc) lv (.long v :: .long u :: st) ks R I L nc ns := by
  obtain ⟨p, l, e, Rm, s, m, args, below, meth, c, D, G, A, a0, k0, mc9, ms9⟩ := x
  obtain ⟨hx, hb, hown, hts, hr, hlocks, hK, hA, hfr, hlo, hm, hml, hnm, hE, hk9⟩ := hc
  intro a H ls locs h1 hP hD hS hl
  exact lv_land hx hb hd  (k a H ls locs h1 hP hD hS hl)
theorem j_lor (hc : am_ok x cc y nL ret dd mc ms) {u v : Int64} (hd : decode cc pc = .ok (.lor, 1)) (k : am_JQ x Q (pc + 1) lv (.long (u ||| v) :: st) ks R I L nc ns) : am_JQ x Q (pc) lv (.long v :: .long u :: st) ks R I L nc ns := by
  obtain ⟨p, l, e, Rm, s, m, args, below, meth, c, D, G, A, a0, k0, mc9, ms9⟩ := x
  obtain ⟨hx, hb, hown, hts, hr, hlocks, hK, hA, hfr, hlo, hm, hml, hnm, hE, hk9⟩ := hc
  intro a H ls locs h1 hP hD hS hl
  exact lv_lor hx hb hd  (k a H ls locs h1 hP hD hS hl)
theorem j_lxor (hc : am_ok x cc y nL ret dd mc ms) {u v : Int64} (hd : decode cc pc = .ok (.lxor, 1)) (k : am_JQ x Q (pc + 1) lv (.long (u ^^^ v) :: st) ks R I L nc ns) : am_JQ x Q (pc) lv (.long v :: .long u :: st) ks R I L nc ns := by
  obtain ⟨p, l, e, Rm, s, m, args, below, meth, c, D, G, A, a0, k0, mc9, ms9⟩ := x
  obtain ⟨hx, hb, hown, hts, hr, hlocks, hK, hA, hfr, hlo, hm, hml, hnm, hE, hk9⟩ := hc
  intro a H ls locs h1 hP hD hS hl
  exact lv_lxor hx hb hd  (k a H ls locs h1 hP hD hS hl)
theorem j_idiv (hc : am_ok x cc y nL ret dd mc ms) {u v : Int32} {K : Option β} {r : β} (hd : decode cc pc = .ok (.idiv, 1)) (hf : (if v = 0 then none else K) = some r) (k : K = some r → am_JQ x Q (pc + 1) lv (.int (u / v) :: st) ks R I L nc ns) : am_JQ x Q (pc) lv (.int v :: .int u :: st) ks R I L nc ns := by
  obtain ⟨p, l, e, Rm, s, m, args, below, meth, c, D, G, A, a0, k0, mc9, ms9⟩ := x
  obtain ⟨hx, hb, hown, hts, hr, hlocks, hK, hA, hfr, hlo, hm, hml, hnm, hE, hk9⟩ := hc
  intro a H ls locs h1 hP hD hS hl
  by_cases hz : v = 0
  · rw [if_pos hz] at hf
    cases hf
  · rw [if_neg hz] at hf
    exact lv_idiv hx hb hd hz (k hf a H ls locs h1 hP hD hS hl)
theorem j_irem (hc : am_ok x cc y nL ret dd mc ms) {u v : Int32} {K : Option β} {r : β} (hd : decode cc pc = .ok (.irem, 1)) (hf : (if v = 0 then none else K) = some r) (k : K = some r → am_JQ x Q (pc + 1) lv (.int (u - u / v * v) :: st) ks R I L nc ns) : am_JQ x Q (pc) lv (.int v :: .int u :: st) ks R I L nc ns := by
  obtain ⟨p, l, e, Rm, s, m, args, below, meth, c, D, G, A, a0, k0, mc9, ms9⟩ := x
  obtain ⟨hx, hb, hown, hts, hr, hlocks, hK, hA, hfr, hlo, hm, hml, hnm, hE, hk9⟩ := hc
  intro a H ls locs h1 hP hD hS hl
  by_cases hz : v = 0
  · rw [if_pos hz] at hf
    cases hf
  · rw [if_neg hz] at hf
    exact lv_irem hx hb hd hz (k hf a H ls locs h1 hP hD hS hl)
theorem j_ldiv (hc : am_ok x cc y nL ret dd mc ms) {u v : Int64} {K : Option β} {r : β} (hd : decode cc pc = .ok (.ldiv, 1)) (hf : (if v = 0 then none else K) = some r) (k : K = some r → am_JQ x Q (pc + 1) lv (.long (u / v) :: st) ks R I L nc ns) : am_JQ x Q (pc) lv (.long v :: .long u :: st) ks R I L nc ns := by
  obtain ⟨p, l, e, Rm, s, m, args, below, meth, c, D, G, A, a0, k0, mc9, ms9⟩ := x
  obtain ⟨hx, hb, hown, hts, hr, hlocks, hK, hA, hfr, hlo, hm, hml, hnm, hE, hk9⟩ := hc
  intro a H ls locs h1 hP hD hS hl
  by_cases hz : v = 0
  · rw [if_pos hz] at hf
    cases hf
  · rw [if_neg hz] at hf
    exact lv_ldiv hx hb hd hz (k hf a H ls locs h1 hP hD hS hl)
theorem j_lrem (hc : am_ok x cc y nL ret dd mc ms) {u v : Int64} {K : Option β} {r : β} (hd : decode cc pc = .ok (.lrem, 1)) (hf : (if v = 0 then none else K) = some r) (k : K = some r → am_JQ x Q (pc + 1) lv (.long (u - u / v * v) :: st) ks R I L nc ns) : am_JQ x Q (pc) lv (.long v :: .long u :: st) ks R I L nc ns := by
  obtain ⟨p, l, e, Rm, s, m, args, below, meth, c, D, G, A, a0, k0, mc9, ms9⟩ := x
  obtain ⟨hx, hb, hown, hts, hr, hlocks, hK, hA, hfr, hlo, hm, hml, hnm, hE, hk9⟩ := hc
  intro a H ls locs h1 hP hD hS hl
  by_cases hz : v = 0
  · rw [if_pos hz] at hf
    cases hf
  · rw [if_neg hz] at hf
    exact lv_lrem hx hb hd hz (k hf a H ls locs h1 hP hD hS hl)
theorem j_lshl (hc : am_ok x cc y nL ret dd mc ms) {u : Int64} {v : Int32} (hd : decode cc pc = .ok (.lshl, 1)) (k : am_JQ x Q (pc + 1) lv (.long (u <<< (v.toInt64 &&& 63)) :: st) ks R I L nc ns) : am_JQ x Q (pc) lv (.int v :: .long u :: st) ks R I L nc ns := by
  obtain ⟨p, l, e, Rm, s, m, args, below, meth, c, D, G, A, a0, k0, mc9, ms9⟩ := x
  obtain ⟨hx, hb, hown, hts, hr, hlocks, hK, hA, hfr, hlo, hm, hml, hnm, hE, hk9⟩ := hc
  intro a H ls locs h1 hP hD hS hl
  exact lv_lshl hx hb hd rfl (k a H ls locs h1 hP hD hS hl)
theorem j_lshr (hc : am_ok x cc y nL ret dd mc ms) {u : Int64} {v : Int32} (hd : decode cc pc = .ok (.lshr, 1)) (k : am_JQ x Q (pc + 1) lv (.long (u >>> (v.toInt64 &&& 63)) :: st) ks R I L nc ns) : am_JQ x Q (pc) lv (.int v :: .long u :: st) ks R I L nc ns := by
  obtain ⟨p, l, e, Rm, s, m, args, below, meth, c, D, G, A, a0, k0, mc9, ms9⟩ := x
  obtain ⟨hx, hb, hown, hts, hr, hlocks, hK, hA, hfr, hlo, hm, hml, hnm, hE, hk9⟩ := hc
  intro a H ls locs h1 hP hD hS hl
  exact lv_lshr hx hb hd rfl (k a H ls locs h1 hP hD hS hl)
theorem j_lushr (hc : am_ok x cc y nL ret dd mc ms) {u : Int64} {v : Int32} (hd : decode cc pc = .ok (.lushr, 1)) (k : am_JQ x Q (pc + 1) lv (.long ((u.toUInt64 >>> (v.toInt64.toUInt64 &&& Int64.toUInt64 63)).toInt64) :: st) ks R I L nc ns) : am_JQ x Q (pc) lv (.int v :: .long u :: st) ks R I L nc ns := by
  obtain ⟨p, l, e, Rm, s, m, args, below, meth, c, D, G, A, a0, k0, mc9, ms9⟩ := x
  obtain ⟨hx, hb, hown, hts, hr, hlocks, hK, hA, hfr, hlo, hm, hml, hnm, hE, hk9⟩ := hc
  intro a H ls locs h1 hP hD hS hl
  exact lv_lushr hx hb hd rfl (k a H ls locs h1 hP hD hS hl)
theorem j_ineg (hc : am_ok x cc y nL ret dd mc ms) {u : Int32} (hd : decode cc pc = .ok (.ineg, 1)) (k : am_JQ x Q (pc + 1) lv (.int (-u) :: st) ks R I L nc ns) : am_JQ x Q (pc) lv (.int u :: st) ks R I L nc ns := by
  obtain ⟨p, l, e, Rm, s, m, args, below, meth, c, D, G, A, a0, k0, mc9, ms9⟩ := x
  obtain ⟨hx, hb, hown, hts, hr, hlocks, hK, hA, hfr, hlo, hm, hml, hnm, hE, hk9⟩ := hc
  intro a H ls locs h1 hP hD hS hl
  exact lv_ineg hx hb hd (k a H ls locs h1 hP hD hS hl)
theorem j_i2l (hc : am_ok x cc y nL ret dd mc ms) {u : Int32} (hd : decode cc pc = .ok (.i2l, 1)) (k : am_JQ x Q (pc + 1) lv (.long u.toInt64 :: st) ks R I L nc ns) : am_JQ x Q (pc) lv (.int u :: st) ks R I L nc ns := by
  obtain ⟨p, l, e, Rm, s, m, args, below, meth, c, D, G, A, a0, k0, mc9, ms9⟩ := x
  obtain ⟨hx, hb, hown, hts, hr, hlocks, hK, hA, hfr, hlo, hm, hml, hnm, hE, hk9⟩ := hc
  intro a H ls locs h1 hP hD hS hl
  exact lv_i2l hx hb hd rfl (k a H ls locs h1 hP hD hS hl)
theorem j_l2i (hc : am_ok x cc y nL ret dd mc ms) {u : Int64} (hd : decode cc pc = .ok (.l2i, 1)) (k : am_JQ x Q (pc + 1) lv (.int u.toInt32 :: st) ks R I L nc ns) : am_JQ x Q (pc) lv (.long u :: st) ks R I L nc ns := by
  obtain ⟨p, l, e, Rm, s, m, args, below, meth, c, D, G, A, a0, k0, mc9, ms9⟩ := x
  obtain ⟨hx, hb, hown, hts, hr, hlocks, hK, hA, hfr, hlo, hm, hml, hnm, hE, hk9⟩ := hc
  intro a H ls locs h1 hP hD hS hl
  exact lv_l2i hx hb hd rfl (k a H ls locs h1 hP hD hS hl)
theorem j_i2c (hc : am_ok x cc y nL ret dd mc ms) {u : Int32} (hd : decode cc pc = .ok (.i2c, 1)) (k : am_JQ x Q (pc + 1) lv (.int (u.toUInt32 % 65536).toInt32 :: st) ks R I L nc ns) : am_JQ x Q (pc) lv (.int u :: st) ks R I L nc ns := by
  obtain ⟨p, l, e, Rm, s, m, args, below, meth, c, D, G, A, a0, k0, mc9, ms9⟩ := x
  obtain ⟨hx, hb, hown, hts, hr, hlocks, hK, hA, hfr, hlo, hm, hml, hnm, hE, hk9⟩ := hc
  intro a H ls locs h1 hP hD hS hl
  exact lv_i2c hx hb hd rfl (k a H ls locs h1 hP hD hS hl)
theorem j_lcmp (hc : am_ok x cc y nL ret dd mc ms) {u v : Int64} (hd : decode cc pc = .ok (.lcmp, 1)) (k : am_JQ x Q (pc + 1) lv (.int (lg_cmp u v) :: st) ks R I L nc ns) : am_JQ x Q (pc) lv (.long v :: .long u :: st) ks R I L nc ns := by
  obtain ⟨p, l, e, Rm, s, m, args, below, meth, c, D, G, A, a0, k0, mc9, ms9⟩ := x
  obtain ⟨hx, hb, hown, hts, hr, hlocks, hK, hA, hfr, hlo, hm, hml, hnm, hE, hk9⟩ := hc
  intro a H ls locs h1 hP hD hS hl
  exact W.lcmp hx hb hd (k a H ls locs h1 hP hD hS hl)
theorem j_dup (hc : am_ok x cc y nL ret dd mc ms) {v : Value} (hd : decode cc pc = .ok (.dup, 1)) (hv : v.category = 1) (k : am_JQ x Q (pc + 1) lv (v :: v :: st) ks R I L nc ns) : am_JQ x Q (pc) lv (v :: st) ks R I L nc ns := by
  obtain ⟨p, l, e, Rm, s, m, args, below, meth, c, D, G, A, a0, k0, mc9, ms9⟩ := x
  obtain ⟨hx, hb, hown, hts, hr, hlocks, hK, hA, hfr, hlo, hm, hml, hnm, hE, hk9⟩ := hc
  intro a H ls locs h1 hP hD hS hl
  exact lv_dup hx hb hd (by rw [am_v_cat]; exact hv) (k a H ls locs h1 hP hD hS hl)
theorem j_dup2 (hc : am_ok x cc y nL ret dd mc ms) {u v : Value} (hd : decode cc pc = .ok (.dup2, 1)) (hv : v.category = 1) (hu : u.category = 1) (k : am_JQ x Q (pc + 1) lv (v :: u :: v :: u :: st) ks R I L nc ns) : am_JQ x Q (pc) lv (v :: u :: st) ks R I L nc ns := by
  obtain ⟨p, l, e, Rm, s, m, args, below, meth, c, D, G, A, a0, k0, mc9, ms9⟩ := x
  obtain ⟨hx, hb, hown, hts, hr, hlocks, hK, hA, hfr, hlo, hm, hml, hnm, hE, hk9⟩ := hc
  intro a H ls locs h1 hP hD hS hl
  exact lv_dup2_11 hx hb hd (by rw [am_v_cat]; exact hv) (by rw [am_v_cat]; exact hu) (k a H ls locs h1 hP hD hS hl)
theorem j_if_eq (hc : am_ok x cc y nL ret dd mc ms) {u : Int32} {A B : Option β} {off : Int} {tgt : Nat} (hd : decode cc pc = .ok (.ifCond .eq off, 3)) (ht : (pc : Int) + off = (tgt : Int)) (hf : (if u = 0 then A else B) = z) (kt : A = z → am_JQ x Q (tgt) lv (st) ks R I L nc ns) (kf : B = z → am_JQ x Q (pc + 3) lv (st) ks R I L nc ns) : am_JQ x Q (pc) lv (.int u :: st) ks R I L nc ns := by
  obtain ⟨p, l, e, Rm, s, m, args, below, meth, c, D, G, A, a0, k0, mc9, ms9⟩ := x
  obtain ⟨hx, hb, hown, hts, hr, hlocks, hK, hA, hfr, hlo, hm, hml, hnm, hE, hk9⟩ := hc
  intro a H ls locs h1 hP hD hS hl
  exact lv_if_eq hx hb hd ht (fun q => kt (by rw [if_pos q] at hf; exact hf) a H ls locs h1 hP hD hS hl) (fun q => kf (by rw [if_neg q] at hf; exact hf) a H ls locs h1 hP hD hS hl)
theorem j_icmp_eq (hc : am_ok x cc y nL ret dd mc ms) {u v : Int32} {A B : Option β} {off : Int} {tgt : Nat} (hd : decode cc pc = .ok (.if_icmp .eq off, 3)) (ht : (pc : Int) + off = (tgt : Int)) (hf : (if u = v then A else B) = z) (kt : A = z → am_JQ x Q (tgt) lv (st) ks R I L nc ns) (kf : B = z → am_JQ x Q (pc + 3) lv (st) ks R I L nc ns) : am_JQ x Q (pc) lv (.int v :: .int u :: st) ks R I L nc ns := by
  obtain ⟨p, l, e, Rm, s, m, args, below, meth, c, D, G, A, a0, k0, mc9, ms9⟩ := x
  obtain ⟨hx, hb, hown, hts, hr, hlocks, hK, hA, hfr, hlo, hm, hml, hnm, hE, hk9⟩ := hc
  intro a H ls locs h1 hP hD hS hl
  exact lv_icmp_eq hx hb hd ht (fun q => kt (by rw [if_pos q] at hf; exact hf) a H ls locs h1 hP hD hS hl) (fun q => kf (by rw [if_neg q] at hf; exact hf) a H ls locs h1 hP hD hS hl)
theorem j_if_ne (hc : am_ok x cc y nL ret dd mc ms) {u : Int32} {A B : Option β} {off : Int} {tgt : Nat} (hd : decode cc pc = .ok (.ifCond .ne off, 3)) (ht : (pc : Int) + off = (tgt : Int)) (hf : (if u = 0 then A else B) = z) (kt : B = z → am_JQ x Q (tgt) lv (st) ks R I L nc ns) (kf : A = z → am_JQ x Q (pc + 3) lv (st) ks R I L nc ns) : am_JQ x Q (pc) lv (.int u :: st) ks R I L nc ns := by
  obtain ⟨p, l, e, Rm, s, m, args, below, meth, c, D, G, A, a0, k0, mc9, ms9⟩ := x
  obtain ⟨hx, hb, hown, hts, hr, hlocks, hK, hA, hfr, hlo, hm, hml, hnm, hE, hk9⟩ := hc
  intro a H ls locs h1 hP hD hS hl
  exact lv_if_ne hx hb hd ht (fun q => kt (by rw [if_neg q] at hf; exact hf) a H ls locs h1 hP hD hS hl) (fun q => kf (by rw [if_pos q] at hf; exact hf) a H ls locs h1 hP hD hS hl)
theorem j_icmp_ne (hc : am_ok x cc y nL ret dd mc ms) {u v : Int32} {A B : Option β} {off : Int} {tgt : Nat} (hd : decode cc pc = .ok (.if_icmp .ne off, 3)) (ht : (pc : Int) + off = (tgt : Int)) (hf : (if u = v then A else B) = z) (kt : B = z → am_JQ x Q (tgt) lv (st) ks R I L nc ns) (kf : A = z → am_JQ x Q (pc + 3) lv (st) ks R I L nc ns) : am_JQ x Q (pc) lv (.int v :: .int u :: st) ks R I L nc ns := by
  obtain ⟨p, l, e, Rm, s, m, args, below, meth, c, D, G, A, a0, k0, mc9, ms9⟩ := x
  obtain ⟨hx, hb, hown, hts, hr, hlocks, hK, hA, hfr, hlo, hm, hml, hnm, hE, hk9⟩ := hc
  intro a H ls locs h1 hP hD hS hl
  exact lv_icmp_ne hx hb hd ht (fun q => kt (by rw [if_neg q] at hf; exact hf) a H ls locs h1 hP hD hS hl) (fun q => kf (by rw [if_pos q] at hf; exact hf) a H ls locs h1 hP hD hS hl)
theorem j_if_lt (hc : am_ok x cc y nL ret dd mc ms) {u : Int32} {A B : Option β} {off : Int} {tgt : Nat} (hd : decode cc pc = .ok (.ifCond .lt off, 3)) (ht : (pc : Int) + off = (tgt : Int)) (hf : (if u < 0 then A else B) = z) (kt : A = z → am_JQ x Q (tgt) lv (st) ks R I L nc ns) (kf : B = z → am_JQ x Q (pc + 3) lv (st) ks R I L nc ns) : am_JQ x Q (pc) lv (.int u :: st) ks R I L nc ns := by
  obtain ⟨p, l, e, Rm, s, m, args, below, meth, c, D, G, A, a0, k0, mc9, ms9⟩ := x
  obtain ⟨hx, hb, hown, hts, hr, hlocks, hK, hA, hfr, hlo, hm, hml, hnm, hE, hk9⟩ := hc
  intro a H ls locs h1 hP hD hS hl
  exact lv_if_lt hx hb hd ht (fun q => kt (by rw [if_pos q] at hf; exact hf) a H ls locs h1 hP hD hS hl) (fun q => kf (by rw [if_neg q] at hf; exact hf) a H ls locs h1 hP hD hS hl)
theorem j_icmp_lt (hc : am_ok x cc y nL ret dd mc ms) {u v : Int32} {A B : Option β} {off : Int} {tgt : Nat} (hd : decode cc pc = .ok (.if_icmp .lt off, 3)) (ht : (pc : Int) + off = (tgt : Int)) (hf : (if u < v then A else B) = z) (kt : A = z → am_JQ x Q (tgt) lv (st) ks R I L nc ns) (kf : B = z → am_JQ x Q (pc + 3) lv (st) ks R I L nc ns) : am_JQ x Q (pc) lv (.int v :: .int u :: st) ks R I L nc ns := by
  obtain ⟨p, l, e, Rm, s, m, args, below, meth, c, D, G, A, a0, k0, mc9, ms9⟩ := x
  obtain ⟨hx, hb, hown, hts, hr, hlocks, hK, hA, hfr, hlo, hm, hml, hnm, hE, hk9⟩ := hc
  intro a H ls locs h1 hP hD hS hl
  exact lv_icmp_lt hx hb hd ht (fun q => kt (by rw [if_pos q] at hf; exact hf) a H ls locs h1 hP hD hS hl) (fun q => kf (by rw [if_neg q] at hf; exact hf) a H ls locs h1 hP hD hS hl)
theorem j_if_ge (hc : am_ok x cc y nL ret dd mc ms) {u : Int32} {A B : Option β} {off : Int} {tgt : Nat} (hd : decode cc pc = .ok (.ifCond .ge off, 3)) (ht : (pc : Int) + off = (tgt : Int)) (hf : (if 0 ≤ u then A else B) = z) (kt : A = z → am_JQ x Q (tgt) lv (st) ks R I L nc ns) (kf : B = z → am_JQ x Q (pc + 3) lv (st) ks R I L nc ns) : am_JQ x Q (pc) lv (.int u :: st) ks R I L nc ns := by
  obtain ⟨p, l, e, Rm, s, m, args, below, meth, c, D, G, A, a0, k0, mc9, ms9⟩ := x
  obtain ⟨hx, hb, hown, hts, hr, hlocks, hK, hA, hfr, hlo, hm, hml, hnm, hE, hk9⟩ := hc
  intro a H ls locs h1 hP hD hS hl
  exact lv_if_ge hx hb hd ht (fun q => kt (by rw [if_pos q] at hf; exact hf) a H ls locs h1 hP hD hS hl) (fun q => kf (by rw [if_neg q] at hf; exact hf) a H ls locs h1 hP hD hS hl)
theorem j_icmp_ge (hc : am_ok x cc y nL ret dd mc ms) {u v : Int32} {A B : Option β} {off : Int} {tgt : Nat} (hd : decode cc pc = .ok (.if_icmp .ge off, 3)) (ht : (pc : Int) + off = (tgt : Int)) (hf : (if v ≤ u then A else B) = z) (kt : A = z → am_JQ x Q (tgt) lv (st) ks R I L nc ns) (kf : B = z → am_JQ x Q (pc + 3) lv (st) ks R I L nc ns) : am_JQ x Q (pc) lv (.int v :: .int u :: st) ks R I L nc ns := by
  obtain ⟨p, l, e, Rm, s, m, args, below, meth, c, D, G, A, a0, k0, mc9, ms9⟩ := x
  obtain ⟨hx, hb, hown, hts, hr, hlocks, hK, hA, hfr, hlo, hm, hml, hnm, hE, hk9⟩ := hc
  intro a H ls locs h1 hP hD hS hl
  exact lv_icmp_ge hx hb hd ht (fun q => kt (by rw [if_pos q] at hf; exact hf) a H ls locs h1 hP hD hS hl) (fun q => kf (by rw [if_neg q] at hf; exact hf) a H ls locs h1 hP hD hS hl)
theorem j_if_gt (hc : am_ok x cc y nL ret dd mc ms) {u : Int32} {A B : Option β} {off : Int} {tgt : Nat} (hd : decode cc pc = .ok (.ifCond .gt off, 3)) (ht : (pc : Int) + off = (tgt : Int)) (hf : (if 0 < u then A else B) = z) (kt : A = z → am_JQ x Q (tgt) lv (st) ks R I L nc ns) (kf : B = z → am_JQ x Q (pc + 3) lv (st) ks R I L nc ns) : am_JQ x Q (pc) lv (.int u :: st) ks R I L nc ns := by
  obtain ⟨p, l, e, Rm, s, m, args, below, meth, c, D, G, A, a0, k0, mc9, ms9⟩ := x
  obtain ⟨hx, hb, hown, hts, hr, hlocks, hK, hA, hfr, hlo, hm, hml, hnm, hE, hk9⟩ := hc
  intro a H ls locs h1 hP hD hS hl
  exact lv_if_gt hx hb hd ht (fun q => kt (by rw [if_pos q] at hf; exact hf) a H ls locs h1 hP hD hS hl) (fun q => kf (by rw [if_neg q] at hf; exact hf) a H ls locs h1 hP hD hS hl)
theorem j_icmp_gt (hc : am_ok x cc y nL ret dd mc ms) {u v : Int32} {A B : Option β} {off : Int} {tgt : Nat} (hd : decode cc pc = .ok (.if_icmp .gt off, 3)) (ht : (pc : Int) + off = (tgt : Int)) (hf : (if v < u then A else B) = z) (kt : A = z → am_JQ x Q (tgt) lv (st) ks R I L nc ns) (kf : B = z → am_JQ x Q (pc + 3) lv (st) ks R I L nc ns) : am_JQ x Q (pc) lv (.int v :: .int u :: st) ks R I L nc ns := by
  obtain ⟨p, l, e, Rm, s, m, args, below, meth, c, D, G, A, a0, k0, mc9, ms9⟩ := x
  obtain ⟨hx, hb, hown, hts, hr, hlocks, hK, hA, hfr, hlo, hm, hml, hnm, hE, hk9⟩ := hc
  intro a H ls locs h1 hP hD hS hl
  exact lv_icmp_gt hx hb hd ht (fun q => kt (by rw [if_pos q] at hf; exact hf) a H ls locs h1 hP hD hS hl) (fun q => kf (by rw [if_neg q] at hf; exact hf) a H ls locs h1 hP hD hS hl)
theorem j_if_le (hc : am_ok x cc y nL ret dd mc ms) {u : Int32} {A B : Option β} {off : Int} {tgt : Nat} (hd : decode cc pc = .ok (.ifCond .le off, 3)) (ht : (pc : Int) + off = (tgt : Int)) (hf : (if u ≤ 0 then A else B) = z) (kt : A = z → am_JQ x Q (tgt) lv (st) ks R I L nc ns) (kf : B = z → am_JQ x Q (pc + 3) lv (st) ks R I L nc ns) : am_JQ x Q (pc) lv (.int u :: st) ks R I L nc ns := by
  obtain ⟨p, l, e, Rm, s, m, args, below, meth, c, D, G, A, a0, k0, mc9, ms9⟩ := x
  obtain ⟨hx, hb, hown, hts, hr, hlocks, hK, hA, hfr, hlo, hm, hml, hnm, hE, hk9⟩ := hc
  intro a H ls locs h1 hP hD hS hl
  exact lv_if_le hx hb hd ht (fun q => kt (by rw [if_pos q] at hf; exact hf) a H ls locs h1 hP hD hS hl) (fun q => kf (by rw [if_neg q] at hf; exact hf) a H ls locs h1 hP hD hS hl)
theorem j_icmp_le (hc : am_ok x cc y nL ret dd mc ms) {u v : Int32} {A B : Option β} {off : Int} {tgt : Nat} (hd : decode cc pc = .ok (.if_icmp .le off, 3)) (ht : (pc : Int) + off = (tgt : Int)) (hf : (if u ≤ v then A else B) = z) (kt : A = z → am_JQ x Q (tgt) lv (st) ks R I L nc ns) (kf : B = z → am_JQ x Q (pc + 3) lv (st) ks R I L nc ns) : am_JQ x Q (pc) lv (.int v :: .int u :: st) ks R I L nc ns := by
  obtain ⟨p, l, e, Rm, s, m, args, below, meth, c, D, G, A, a0, k0, mc9, ms9⟩ := x
  obtain ⟨hx, hb, hown, hts, hr, hlocks, hK, hA, hfr, hlo, hm, hml, hnm, hE, hk9⟩ := hc
  intro a H ls locs h1 hP hD hS hl
  exact lv_icmp_le hx hb hd ht (fun q => kt (by rw [if_pos q] at hf; exact hf) a H ls locs h1 hP hD hS hl) (fun q => kf (by rw [if_neg q] at hf; exact hf) a H ls locs h1 hP hD hS hl)
theorem j_goto (hc : am_ok x cc y nL ret dd mc ms) {off : Int} {tgt : Nat} (hd : decode cc pc = .ok (.goto off, 3)) (ht : (pc : Int) + off = (tgt : Int)) (k : am_JQ x Q (tgt) lv (st) ks R I L nc ns) : am_JQ x Q (pc) lv (st) ks R I L nc ns := by
  obtain ⟨p, l, e, Rm, s, m, args, below, meth, c, D, G, A, a0, k0, mc9, ms9⟩ := x
  obtain ⟨hx, hb, hown, hts, hr, hlocks, hK, hA, hfr, hlo, hm, hml, hnm, hE, hk9⟩ := hc
  intro a H ls locs h1 hP hD hS hl
  exact lv_goto hx hb hd ht (k a H ls locs h1 hP hD hS hl)
theorem j_ifnullR (hc : am_ok x cc y nL ret dd mc ms) {u : Nat} {off : Int} (hd : decode cc pc = .ok (.ifnull off, 3)) (k : am_JQ x Q (pc + 3) lv (st) ks R I L nc ns) : am_JQ x Q (pc) lv (.ref u :: st) ks R I L nc ns := by
  obtain ⟨p, l, e, Rm, s, m, args, below, meth, c, D, G, A, a0, k0, mc9, ms9⟩ := x
  obtain ⟨hx, hb, hown, hts, hr, hlocks, hK, hA, hfr, hlo, hm, hml, hnm, hE, hk9⟩ := hc
  intro a H ls locs h1 hP hD hS hl
  exact lv_ifnull hx hb hd (k a H ls locs h1 hP hD hS hl)
theorem j_ifnullN (hc : am_ok x cc y nL ret dd mc ms) {off : Int} {tgt : Nat} (hd : decode cc pc = .ok (.ifnull off, 3)) (ht : (pc : Int) + off = (tgt : Int)) (k : am_JQ x Q (tgt) lv (st) ks R I L nc ns) : am_JQ x Q (pc) lv (.null :: st) ks R I L nc ns := by
  obtain ⟨p, l, e, Rm, s, m, args, below, meth, c, D, G, A, a0, k0, mc9, ms9⟩ := x
  obtain ⟨hx, hb, hown, hts, hr, hlocks, hK, hA, hfr, hlo, hm, hml, hnm, hE, hk9⟩ := hc
  intro a H ls locs h1 hP hD hS hl
  exact lv_ifnullN hx hb hd ht (k a H ls locs h1 hP hD hS hl)
theorem j_ifnonnullR (hc : am_ok x cc y nL ret dd mc ms) {u : Nat} {off : Int} {tgt : Nat} (hd : decode cc pc = .ok (.ifnonnull off, 3)) (ht : (pc : Int) + off = (tgt : Int)) (k : am_JQ x Q (tgt) lv (st) ks R I L nc ns) : am_JQ x Q (pc) lv (.ref u :: st) ks R I L nc ns := by
  obtain ⟨p, l, e, Rm, s, m, args, below, meth, c, D, G, A, a0, k0, mc9, ms9⟩ := x
  obtain ⟨hx, hb, hown, hts, hr, hlocks, hK, hA, hfr, hlo, hm, hml, hnm, hE, hk9⟩ := hc
  intro a H ls locs h1 hP hD hS hl
  exact lv_ifnonnull hx hb hd ht (k a H ls locs h1 hP hD hS hl)
theorem j_ifnonnullN (hc : am_ok x cc y nL ret dd mc ms) {off : Int} (hd : decode cc pc = .ok (.ifnonnull off, 3)) (k : am_JQ x Q (pc + 3) lv (st) ks R I L nc ns) : am_JQ x Q (pc) lv (.null :: st) ks R I L nc ns := by
  obtain ⟨p, l, e, Rm, s, m, args, below, meth, c, D, G, A, a0, k0, mc9, ms9⟩ := x
  obtain ⟨hx, hb, hown, hts, hr, hlocks, hK, hA, hfr, hlo, hm, hml, hnm, hE, hk9⟩ := hc
  intro a H ls locs h1 hP hD hS hl
  exact lv_ifnonnullN hx hb hd (k a H ls locs h1 hP hD hS hl)
theorem j_null (hc : am_ok x cc y nL ret dd mc ms) (hd : decode cc pc = .ok (.aconst_null, 1)) (k : am_JQ x Q (pc + 1) lv (.null :: st) ks R I L nc ns) : am_JQ x Q (pc) lv (st) ks R I L nc ns := by
  obtain ⟨p, l, e, Rm, s, m, args, below, meth, c, D, G, A, a0, k0, mc9, ms9⟩ := x
  obtain ⟨hx, hb, hown, hts, hr, hlocks, hK, hA, hfr, hlo, hm, hml, hnm, hE, hk9⟩ := hc
  intro a H ls locs h1 hP hD hS hl
  exact lv_null hx hb hd (k a H ls locs h1 hP hD hS hl)
theorem j_tabIn (hc : am_ok x cc y nL ret dd mc ms) {dflt lo hi off : Int} {offs : Array Int} {len tgt : Nat} {u : Int32} (hd : decode cc pc = .ok (.tableswitch dflt lo hi offs, len)) (q1 : ¬ u.toInt < lo) (q2 : ¬ hi < u.toInt) (ho : offs[(u.toInt - lo).toNat]? = some off) (ht : (pc : Int) + off = (tgt : Int)) (k : am_JQ x Q (tgt) lv (st) ks R I L nc ns) : am_JQ x Q (pc) lv (.int u :: st) ks R I L nc ns := by
  obtain ⟨p, l, e, Rm, s, m, args, below, meth, c, D, G, A, a0, k0, mc9, ms9⟩ := x
  obtain ⟨hx, hb, hown, hts, hr, hlocks, hK, hA, hfr, hlo, hm, hml, hnm, hE, hk9⟩ := hc
  intro a H ls locs h1 hP hD hS hl
  exact lv_tableIn hx hb hd q1 q2 ho ht (k a H ls locs h1 hP hD hS hl)
theorem j_tabOut (hc : am_ok x cc y nL ret dd mc ms) {dflt lo hi : Int} {offs : Array Int} {len tgt : Nat} {u : Int32} (hd : decode cc pc = .ok (.tableswitch dflt lo hi offs, len)) (q1 : u.toInt < lo ∨ hi < u.toInt) (ht : (pc : Int) + dflt = (tgt : Int)) (k : am_JQ x Q (tgt) lv (st) ks R I L nc ns) : am_JQ x Q (pc) lv (.int u :: st) ks R I L nc ns := by
  obtain ⟨p, l, e, Rm, s, m, args, below, meth, c, D, G, A, a0, k0, mc9, ms9⟩ := x
  obtain ⟨hx, hb, hown, hts, hr, hlocks, hK, hA, hfr, hlo, hm, hml, hnm, hE, hk9⟩ := hc
  intro a H ls locs h1 hP hD hS hl
  exact lv_tableOut hx hb hd q1 ht (k a H ls locs h1 hP hD hS hl)
theorem j_look (hc : am_ok x cc y nL ret dd mc ms) {dflt off : Int} {ps : Array (Int × Int)} {len tgt : Nat} {u : Int32} (hd : decode cc pc = .ok (.lookupswitch dflt ps, len)) (hp : (ps.toList.zip (ps.toList.drop 1)).all (fun (a, next) => a.1 < next.1) = true) (ho : Op.lookupswitch.offset ps.toList dflt u.toInt = off) (ht : (pc : Int) + off = (tgt : Int)) (k : am_JQ x Q (tgt) lv (st) ks R I L nc ns) : am_JQ x Q (pc) lv (.int u :: st) ks R I L nc ns := by
  obtain ⟨p, l, e, Rm, s, m, args, below, meth, c, D, G, A, a0, k0, mc9, ms9⟩ := x
  obtain ⟨hx, hb, hown, hts, hr, hlocks, hK, hA, hfr, hlo, hm, hml, hnm, hE, hk9⟩ := hc
  intro a H ls locs h1 hP hD hS hl
  exact lv_lookup hx hb hd hp ho ht (k a H ls locs h1 hP hD hS hl)
theorem j_getI (hc : am_ok x cc y nL ret dd mc ms) {j i t : Nat} (hd : decode cc pc = .ok (.getfield i, 3)) (hg : am_fg ks y.cls i t j 0) (k : am_JQ x Q (pc + 3) lv (.int (I t j) :: st) ks R I L nc ns) : am_JQ x Q (pc) lv (.ref t :: st) ks R I L nc ns := by
  obtain ⟨p, l, e, Rm, s, m, args, below, meth, c, D, G, A, a0, k0, mc9, ms9⟩ := x
  obtain ⟨hx, hb, hown, hts, hr, hlocks, hK, hA, hfr, hlo, hm, hml, hnm, hE, hk9⟩ := hc
  obtain ⟨ci, N, C, T, ts, hk, hcl, hin, hw, hj, hs⟩ := hg
  intro a H ls locs h1 hP hD hS hl
  exact va_get (D := D) (ci := ci) (C := C) (T := T) (N := N) hx hb hts hin hown hK hP t (am_ws_at hk) hcl j hj (hts _ hw) (fun _ h => h) (v := .int (I t j)) (am_fs_at hs) hd (k a H ls locs h1 hP hD hS hl)
theorem j_getL (hc : am_ok x cc y nL ret dd mc ms) {j i t : Nat} (hd : decode cc pc = .ok (.getfield i, 3)) (hg : am_fg ks y.cls i t j 1) (k : am_JQ x Q (pc + 3) lv (.long (L t j) :: st) ks R I L nc ns) : am_JQ x Q (pc) lv (.ref t :: st) ks R I L nc ns := by
  obtain ⟨p, l, e, Rm, s, m, args, below, meth, c, D, G, A, a0, k0, mc9, ms9⟩ := x
  obtain ⟨hx, hb, hown, hts, hr, hlocks, hK, hA, hfr, hlo, hm, hml, hnm, hE, hk9⟩ := hc
  obtain ⟨ci, N, C, T, ts, hk, hcl, hin, hw, hj, hs⟩ := hg
  intro a H ls locs h1 hP hD hS hl
  exact va_get (D := D) (ci := ci) (C := C) (T := T) (N := N) hx hb hts hin hown hK hP t (am_ws_at hk) hcl j hj (hts _ hw) (fun _ h => h) (v := .long (L t j)) (am_fs_at hs) hd (k a H ls locs h1 hP hD hS hl)
theorem j_getR (hc : am_ok x cc y nL ret dd mc ms) {j i t : Nat} (hd : decode cc pc = .ok (.getfield i, 3)) (hg : am_fg ks y.cls i t j 2) {u : Nat} (hR : R t j = some u) (k : am_JQ x Q (pc + 3) lv (.ref u :: st) ks R I L nc ns) : am_JQ x Q (pc) lv (.ref t :: st) ks R I L nc ns := by
  obtain ⟨p, l, e, Rm, s, m, args, below, meth, c, D, G, A, a0, k0, mc9, ms9⟩ := x
  obtain ⟨hx, hb, hown, hts, hr, hlocks, hK, hA, hfr, hlo, hm, hml, hnm, hE, hk9⟩ := hc
  obtain ⟨ci, N, C, T, ts, hk, hcl, hin, hw, hj, hs⟩ := hg
  intro a H ls locs h1 hP hD hS hl
  exact va_get (D := D) (ci := ci) (C := C) (T := T) (N := N) hx hb hts hin hown hK hP t (am_ws_at hk) hcl j hj (hts _ hw) (fun _ h => h) (v := .ref (a u)) (by rw [am_fs_at hs]; simp [am_fv, hR, va_rf]) hd (k a H ls locs h1 hP hD hS hl)
theorem j_getN (hc : am_ok x cc y nL ret dd mc ms) {j i t : Nat} (hd : decode cc pc = .ok (.getfield i, 3)) (hg : am_fg ks y.cls i t j 2) (hR : R t j = none) (k : am_JQ x Q (pc + 3) lv (.null :: st) ks R I L nc ns) : am_JQ x Q (pc) lv (.ref t :: st) ks R I L nc ns := by
  obtain ⟨p, l, e, Rm, s, m, args, below, meth, c, D, G, A, a0, k0, mc9, ms9⟩ := x
  obtain ⟨hx, hb, hown, hts, hr, hlocks, hK, hA, hfr, hlo, hm, hml, hnm, hE, hk9⟩ := hc
  obtain ⟨ci, N, C, T, ts, hk, hcl, hin, hw, hj, hs⟩ := hg
  intro a H ls locs h1 hP hD hS hl
  exact va_get (D := D) (ci := ci) (C := C) (T := T) (N := N) hx hb hts hin hown hK hP t (am_ws_at hk) hcl j hj (hts _ hw) (fun _ h => h) (v := .null) (by rw [am_fs_at hs]; simp [am_fv, hR, va_rf]) hd (k a H ls locs h1 hP hD hS hl)
theorem j_putI (hc : am_ok x cc y nL ret dd mc ms) {j i t : Nat} {ty : FieldType} (hd : decode cc pc = .ok (.putfield i, 3)) (hg : am_fp ks y.cls i t j 0 ty false) {v : Int32} {K : am_I → Option β} (hn : narrow ty (.int v) = .int v) (hfit : fits ty (.int v) = true) (hf : am_lt (am_up I t j v) K = z) (k : ∀ I : am_I, K I = z → am_JQ x Q (pc + 3) lv (st) ks R I L nc ns) : am_JQ x Q (pc) lv (.int v :: .ref t :: st) ks R I L nc ns := by
  obtain ⟨p, l, e, Rm, s, m, args, below, meth, c, D, G, A, a0, k0, mc9, ms9⟩ := x
  obtain ⟨hx, hb, hown, hts, hr, hlocks, hK, hA, hfr, hlo, hm, hml, hnm, hE, hk9⟩ := hc
  obtain ⟨ci, N, C, T, ts, ty0, hk, hcl, hin, hw, hj, hs, hty, hnm2, hp, hfin, hdecl⟩ := hg
  intro a H ls locs h1 hP hD hS hl
  have key : (am_ws G a ks R I L).set t (a t, .inr (ci, (am_fs a R I L t ts).set j (.int v))) = am_ws G a ks R (am_up I t j v) (L) := by
    refine am_ws_set hk ?_ (fun _ _ => rfl) (fun k q => am_up_ne q) (fun k q => rfl)
    show (Sum.inr (ci, am_fs a R (am_up I t j v) (L) t ts) : va_E) = _
    rw [am_fs_set (I := I) (L := L) (R := R) (v := .int v) hs (by simp [am_fv, am_up_eq, upd]) (fun i u q => by rcases u with _ | _ | u <;> simp [am_fv, am_up_eq, upd, q])]
  refine va_put (D := D) (ci := ci) (C := C) (T := T) (N := N) (v := .int v) hx hb hts hin ty0 hty hnm2 hown hK hP hD hS t (am_ws_at hk) hcl j hj (hts _ hw) (fun _ h => h) hfin hp hn hfit (am_fs_len hs) hd (fun H1 locs1 hP1 hD1 hS1 => ?_)
  rw [key] at hP1 hD1
  exact k (am_up I t j v) hf a H1 ls locs1 h1 hP1 hD1 hS1 hl
theorem j_putIF (hc : am_ok x cc y nL ret dd mc ms) {j i t : Nat} {ty : FieldType} (hd : decode cc pc = .ok (.putfield i, 3)) (hg : am_fp ks y.cls i t j 0 ty true) (hini : y.name = "<init>") {v : Int32} {K : am_I → Option β} (hn : narrow ty (.int v) = .int v) (hfit : fits ty (.int v) = true) (hf : am_lt (am_up I t j v) K = z) (k : ∀ I : am_I, K I = z → am_JQ x Q (pc + 3) lv (st) ks R I L nc ns) : am_JQ x Q (pc) lv (.int v :: .ref t :: st) ks R I L nc ns := by
  obtain ⟨p, l, e, Rm, s, m, args, below, meth, c, D, G, A, a0, k0, mc9, ms9⟩ := x
  obtain ⟨hx, hb, hown, hts, hr, hlocks, hK, hA, hfr, hlo, hm, hml, hnm, hE, hk9⟩ := hc
  obtain ⟨ci, N, C, T, ts, ty0, hk, hcl, hin, hw, hj, hs, hty, hnm2, hp, hfin, hdecl⟩ := hg
  intro a H ls locs h1 hP hD hS hl
  have key : (am_ws G a ks R I L).set t (a t, .inr (ci, (am_fs a R I L t ts).set j (.int v))) = am_ws G a ks R (am_up I t j v) (L) := by
    refine am_ws_set hk ?_ (fun _ _ => rfl) (fun k q => am_up_ne q) (fun k q => rfl)
    show (Sum.inr (ci, am_fs a R (am_up I t j v) (L) t ts) : va_E) = _
    rw [am_fs_set (I := I) (L := L) (R := R) (v := .int v) hs (by simp [am_fv, am_up_eq, upd]) (fun i u q => by rcases u with _ | _ | u <;> simp [am_fv, am_up_eq, upd, q])]
  refine va_putF (D := D) (ci := ci) (C := C) (T := T) (N := N) (v := .int v) hx hb hts hin ty0 hty hnm2 hown hK hP hD hS t (am_ws_at hk) hcl j hj (hts _ hw) (fun _ h => h) hfin (hnm.trans hini) (hdecl rfl) hp hn hfit (am_fs_len hs) hd (fun H1 locs1 hP1 hD1 hS1 => ?_)
  rw [key] at hP1 hD1
  exact k (am_up I t j v) hf a H1 ls locs1 h1 hP1 hD1 hS1 hl
theorem j_putL (hc : am_ok x cc y nL ret dd mc ms) {j i t : Nat} {ty : FieldType} (hd : decode cc pc = .ok (.putfield i, 3)) (hg : am_fp ks y.cls i t j 1 ty false) {v : Int64} {K : am_L → Option β} (hn : narrow ty (.long v) = .long v) (hfit : fits ty (.long v) = true) (hf : am_lt (am_uL L t j v) K = z) (k : ∀ L : am_L, K L = z → am_JQ x Q (pc + 3) lv (st) ks R I L nc ns) : am_JQ x Q (pc) lv (.long v :: .ref t :: st) ks R I L nc ns := by
  obtain ⟨p, l, e, Rm, s, m, args, below, meth, c, D, G, A, a0, k0, mc9, ms9⟩ := x
  obtain ⟨hx, hb, hown, hts, hr, hlocks, hK, hA, hfr, hlo, hm, hml, hnm, hE, hk9⟩ := hc
  obtain ⟨ci, N, C, T, ts, ty0, hk, hcl, hin, hw, hj, hs, hty, hnm2, hp, hfin, hdecl⟩ := hg
  intro a H ls locs h1 hP hD hS hl
  have key : (am_ws G a ks R I L).set t (a t, .inr (ci, (am_fs a R I L t ts).set j (.long v))) = am_ws G a ks R (I) (am_uL L t j v) := by
    refine am_ws_set hk ?_ (fun _ _ => rfl) (fun k q => rfl) (fun k q => am_uL_ne q)
    show (Sum.inr (ci, am_fs a R (I) (am_uL L t j v) t ts) : va_E) = _
    rw [am_fs_set (I := I) (L := L) (R := R) (v := .long v) hs (by simp [am_fv, am_uL_eq, vp_updL]) (fun i u q => by rcases u with _ | _ | u <;> simp [am_fv, am_uL_eq, vp_updL, q])]
  refine va_put (D := D) (ci := ci) (C := C) (T := T) (N := N) (v := .long v) hx hb hts hin ty0 hty hnm2 hown hK hP hD hS t (am_ws_at hk) hcl j hj (hts _ hw) (fun _ h => h) hfin hp hn hfit (am_fs_len hs) hd (fun H1 locs1 hP1 hD1 hS1 => ?_)
  rw [key] at hP1 hD1
  exact k (am_uL L t j v) hf a H1 ls locs1 h1 hP1 hD1 hS1 hl
theorem j_putLF (hc : am_ok x cc y nL ret dd mc ms) {j i t : Nat} {ty : FieldType} (hd : decode cc pc = .ok (.putfield i, 3)) (hg : am_fp ks y.cls i t j 1 ty true) (hini : y.name = "<init>") {v : Int64} {K : am_L → Option β} (hn : narrow ty (.long v) = .long v) (hfit : fits ty (.long v) = true) (hf : am_lt (am_uL L t j v) K = z) (k : ∀ L : am_L, K L = z → am_JQ x Q (pc + 3) lv (st) ks R I L nc ns) : am_JQ x Q (pc) lv (.long v :: .ref t :: st) ks R I L nc ns := by
  obtain ⟨p, l, e, Rm, s, m, args, below, meth, c, D, G, A, a0, k0, mc9, ms9⟩ := x
  obtain ⟨hx, hb, hown, hts, hr, hlocks, hK, hA, hfr, hlo, hm, hml, hnm, hE, hk9⟩ := hc
  obtain ⟨ci, N, C, T, ts, ty0, hk, hcl, hin, hw, hj, hs, hty, hnm2, hp, hfin, hdecl⟩ := hg
  intro a H ls locs h1 hP hD hS hl
  have key : (am_ws G a ks R I L).set t (a t, .inr (ci, (am_fs a R I L t ts).set j (.long v))) = am_ws G a ks R (I) (am_uL L t j v) := by
    refine am_ws_set hk ?_ (fun _ _ => rfl) (fun k q => rfl) (fun k q => am_uL_ne q)
    show (Sum.inr (ci, am_fs a R (I) (am_uL L t j v) t ts) : va_E) = _
    rw [am_fs_set (I := I) (L := L) (R := R) (v := .long v) hs (by simp [am_fv, am_uL_eq, vp_updL]) (fun i u q => by rcases u with _ | _ | u <;> simp [am_fv, am_uL_eq, vp_updL, q])]
  refine va_putF (D := D) (ci := ci) (C := C) (T := T) (N := N) (v := .long v) hx hb hts hin ty0 hty hnm2 hown hK hP hD hS t (am_ws_at hk) hcl j hj (hts _ hw) (fun _ h => h) hfin (hnm.trans hini) (hdecl rfl) hp hn hfit (am_fs_len hs) hd (fun H1 locs1 hP1 hD1 hS1 => ?_)
  rw [key] at hP1 hD1
  exact k (am_uL L t j v) hf a H1 ls locs1 h1 hP1 hD1 hS1 hl
theorem j_putId (hc : am_ok x cc y nL ret dd mc ms) {j i t : Nat} {ty : FieldType} (hd : decode cc pc = .ok (.putfield i, 3)) (hg : am_fp ks y.cls i t j 0 ty false) {v : Int32} (hn : narrow ty (.int v) = .int v) (hfit : fits ty (.int v) = true) (k : am_JQ x Q (pc + 3) lv (st) ks R (am_up I t j v) L nc ns) : am_JQ x Q (pc) lv (.int v :: .ref t :: st) ks R I L nc ns := by
  obtain ⟨p, l, e, Rm, s, m, args, below, meth, c, D, G, A, a0, k0, mc9, ms9⟩ := x
  obtain ⟨hx, hb, hown, hts, hr, hlocks, hK, hA, hfr, hlo, hm, hml, hnm, hE, hk9⟩ := hc
  obtain ⟨ci, N, C, T, ts, ty0, hk, hcl, hin, hw, hj, hs, hty, hnm2, hp, hfin, hdecl⟩ := hg
  intro a H ls locs h1 hP hD hS hl
  have key : (am_ws G a ks R I L).set t (a t, .inr (ci, (am_fs a R I L t ts).set j (.int v))) = am_ws G a ks R (am_up I t j v) (L) := by
    refine am_ws_set hk ?_ (fun _ _ => rfl) (fun k q => am_up_ne q) (fun k q => rfl)
    show (Sum.inr (ci, am_fs a R (am_up I t j v) (L) t ts) : va_E) = _
    rw [am_fs_set (I := I) (L := L) (R := R) (v := .int v) hs (by simp [am_fv, am_up_eq, upd]) (fun i u q => by rcases u with _ | _ | u <;> simp [am_fv, am_up_eq, upd, q])]
  refine va_put (D := D) (ci := ci) (C := C) (T := T) (N := N) (v := .int v) hx hb hts hin ty0 hty hnm2 hown hK hP hD hS t (am_ws_at hk) hcl j hj (hts _ hw) (fun _ h => h) hfin hp hn hfit (am_fs_len hs) hd (fun H1 locs1 hP1 hD1 hS1 => ?_)
  rw [key] at hP1 hD1
  exact k a H1 ls locs1 h1 hP1 hD1 hS1 hl
theorem j_putIFd (hc : am_ok x cc y nL ret dd mc ms) {j i t : Nat} {ty : FieldType} (hd : decode cc pc = .ok (.putfield i, 3)) (hg : am_fp ks y.cls i t j 0 ty true) (hini : y.name = "<init>") {v : Int32} (hn : narrow ty (.int v) = .int v) (hfit : fits ty (.int v) = true) (k : am_JQ x Q (pc + 3) lv (st) ks R (am_up I t j v) L nc ns) : am_JQ x Q (pc) lv (.int v :: .ref t :: st) ks R I L nc ns := by
  obtain ⟨p, l, e, Rm, s, m, args, below, meth, c, D, G, A, a0, k0, mc9, ms9⟩ := x
  obtain ⟨hx, hb, hown, hts, hr, hlocks, hK, hA, hfr, hlo, hm, hml, hnm, hE, hk9⟩ := hc
  obtain ⟨ci, N, C, T, ts, ty0, hk, hcl, hin, hw, hj, hs, hty, hnm2, hp, hfin, hdecl⟩ := hg
  intro a H ls locs h1 hP hD hS hl
  have key : (am_ws G a ks R I L).set t (a t, .inr (ci, (am_fs a R I L t ts).set j (.int v))) = am_ws G a ks R (am_up I t j v) (L) := by
    refine am_ws_set hk ?_ (fun _ _ => rfl) (fun k q => am_up_ne q) (fun k q => rfl)
    show (Sum.inr (ci, am_fs a R (am_up I t j v) (L) t ts) : va_E) = _
    rw [am_fs_set (I := I) (L := L) (R := R) (v := .int v) hs (by simp [am_fv, am_up_eq, upd]) (fun i u q => by rcases u with _ | _ | u <;> simp [am_fv, am_up_eq, upd, q])]
  refine va_putF (D := D) (ci := ci) (C := C) (T := T) (N := N) (v := .int v) hx hb hts hin ty0 hty hnm2 hown hK hP hD hS t (am_ws_at hk) hcl j hj (hts _ hw) (fun _ h => h) hfin (hnm.trans hini) (hdecl rfl) hp hn hfit (am_fs_len hs) hd (fun H1 locs1 hP1 hD1 hS1 => ?_)
  rw [key] at hP1 hD1
  exact k a H1 ls locs1 h1 hP1 hD1 hS1 hl
theorem j_putLd (hc : am_ok x cc y nL ret dd mc ms) {j i t : Nat} {ty : FieldType} (hd : decode cc pc = .ok (.putfield i, 3)) (hg : am_fp ks y.cls i t j 1 ty false) {v : Int64} (hn : narrow ty (.long v) = .long v) (hfit : fits ty (.long v) = true) (k : am_JQ x Q (pc + 3) lv (st) ks R I (am_uL L t j v) nc ns) : am_JQ x Q (pc) lv (.long v :: .ref t :: st) ks R I L nc ns := by
  obtain ⟨p, l, e, Rm, s, m, args, below, meth, c, D, G, A, a0, k0, mc9, ms9⟩ := x
  obtain ⟨hx, hb, hown, hts, hr, hlocks, hK, hA, hfr, hlo, hm, hml, hnm, hE, hk9⟩ := hc
  obtain ⟨ci, N, C, T, ts, ty0, hk, hcl, hin, hw, hj, hs, hty, hnm2, hp, hfin, hdecl⟩ := hg
  intro a H ls locs h1 hP hD hS hl
  have key : (am_ws G a ks R I L).set t (a t, .inr (ci, (am_fs a R I L t ts).set j (.long v))) = am_ws G a ks R (I) (am_uL L t j v) := by
    refine am_ws_set hk ?_ (fun _ _ => rfl) (fun k q => rfl) (fun k q => am_uL_ne q)
    show (Sum.inr (ci, am_fs a R (I) (am_uL L t j v) t ts) : va_E) = _
    rw [am_fs_set (I := I) (L := L) (R := R) (v := .long v) hs (by simp [am_fv, am_uL_eq, vp_updL]) (fun i u q => by rcases u with _ | _ | u <;> simp [am_fv, am_uL_eq, vp_updL, q])]
  refine va_put (D := D) (ci := ci) (C := C) (T := T) (N := N) (v := .long v) hx hb hts hin ty0 hty hnm2 hown hK hP hD hS t (am_ws_at hk) hcl j hj (hts _ hw) (fun _ h => h) hfin hp hn hfit (am_fs_len hs) hd (fun H1 locs1 hP1 hD1 hS1 => ?_)
  rw [key] at hP1 hD1
  exact k a H1 ls locs1 h1 hP1 hD1 hS1 hl
theorem j_putLFd (hc : am_ok x cc y nL ret dd mc ms) {j i t : Nat} {ty : FieldType} (hd : decode cc pc = .ok (.putfield i, 3)) (hg : am_fp ks y.cls i t j 1 ty true) (hini : y.name = "<init>") {v : Int64} (hn : narrow ty (.long v) = .long v) (hfit : fits ty (.long v) = true) (k : am_JQ x Q (pc + 3) lv (st) ks R I (am_uL L t j v) nc ns) : am_JQ x Q (pc) lv (.long v :: .ref t :: st) ks R I L nc ns := by
  obtain ⟨p, l, e, Rm, s, m, args, below, meth, c, D, G, A, a0, k0, mc9, ms9⟩ := x
  obtain ⟨hx, hb, hown, hts, hr, hlocks, hK, hA, hfr, hlo, hm, hml, hnm, hE, hk9⟩ := hc
  obtain ⟨ci, N, C, T, ts, ty0, hk, hcl, hin, hw, hj, hs, hty, hnm2, hp, hfin, hdecl⟩ := hg
  intro a H ls locs h1 hP hD hS hl
  have key : (am_ws G a ks R I L).set t (a t, .inr (ci, (am_fs a R I L t ts).set j (.long v))) = am_ws G a ks R (I) (am_uL L t j v) := by
    refine am_ws_set hk ?_ (fun _ _ => rfl) (fun k q => rfl) (fun k q => am_uL_ne q)
    show (Sum.inr (ci, am_fs a R (I) (am_uL L t j v) t ts) : va_E) = _
    rw [am_fs_set (I := I) (L := L) (R := R) (v := .long v) hs (by simp [am_fv, am_uL_eq, vp_updL]) (fun i u q => by rcases u with _ | _ | u <;> simp [am_fv, am_uL_eq, vp_updL, q])]
  refine va_putF (D := D) (ci := ci) (C := C) (T := T) (N := N) (v := .long v) hx hb hts hin ty0 hty hnm2 hown hK hP hD hS t (am_ws_at hk) hcl j hj (hts _ hw) (fun _ h => h) hfin (hnm.trans hini) (hdecl rfl) hp hn hfit (am_fs_len hs) hd (fun H1 locs1 hP1 hD1 hS1 => ?_)
  rw [key] at hP1 hD1
  exact k a H1 ls locs1 h1 hP1 hD1 hS1 hl
theorem j_iastored (hc : am_ok x cc y nL ret dd mc ms) {t n : Nat} {i v : Int32} (hd : decode cc pc = .ok (.iastore, 1)) (hk : ks[t]? = some (.inr (0, n))) (hi : vp_in i n) (k : am_JQ x Q (pc + 1) lv (st) ks R (am_up I t i.toNatClampNeg v) L nc ns) : am_JQ x Q (pc) lv (.int v :: .int i :: .ref t :: st) ks R I L nc ns := by
  obtain ⟨p, l, e, Rm, s, m, args, below, meth, c, D, G, A, a0, k0, mc9, ms9⟩ := x
  obtain ⟨hx, hb, hown, hts, hr, hlocks, hK, hA, hfr, hlo, hm, hml, hnm, hE, hk9⟩ := hc
  intro a H ls locs h1 hP hD hS hl
  refine va_iast hx hb hK hP hD hS t 0 (am_ws_at hk) rfl hi hd (fun H1 locs1 hP1 hD1 hS1 => ?_)
  rw [am_ws_set (R' := R) (I' := am_up I t i.toNatClampNeg v) (L' := L) hk (by simp [am_e, am_up_eq]) (fun _ _ => rfl) (fun k q => am_up_ne q) (fun k q => rfl)] at hP1 hD1
  exact k a H1 ls locs1 h1 hP1 hD1 hS1 hl
theorem j_putZ (hc : am_ok x cc y nL ret dd mc ms) {j i t : Nat} {ty : FieldType} (hd : decode cc pc = .ok (.putfield i, 3)) (hg : am_fp ks y.cls i t j 0 ty false) {v : Int32} {K : am_I → Option β} {r : β} (hty2 : ty = .boolean) (hf : am_bl v (am_lt (am_up I t j v) K) = some r) (k : ∀ I : am_I, K I = some r → am_JQ x Q (pc + 3) lv (st) ks R I L nc ns) : am_JQ x Q (pc) lv (.int v :: .ref t :: st) ks R I L nc ns := by
  obtain ⟨p, l, e, Rm, s, m, args, below, meth, c, D, G, A, a0, k0, mc9, ms9⟩ := x
  obtain ⟨hx, hb, hown, hts, hr, hlocks, hK, hA, hfr, hlo, hm, hml, hnm, hE, hk9⟩ := hc
  obtain ⟨hv, hf⟩ := am_blE hf
  subst hty2
  exact j_putI (x := (p, l, e, Rm, s, m, args, below, meth, c, D, G, A, a0, k0, mc9, ms9)) ⟨hx, hb, hown, hts, hr, hlocks, hK, hA, hfr, hlo, hm, hml, hnm, hE, hk9⟩ hd hg (by rcases hv with rfl | rfl <;> rfl) (by rcases hv with rfl | rfl <;> rfl) hf k
theorem j_putR (hc : am_ok x cc y nL ret dd mc ms) {j i t : Nat} {ty : FieldType} (hd : decode cc pc = .ok (.putfield i, 3)) (hg : am_fp ks y.cls i t j 2 ty false) {u : Nat} (hn : ∀ w : Nat, narrow ty (.ref w) = .ref w) (hfit : ∀ w : Nat, fits ty (.ref w) = true) (k : am_JQ x Q (pc + 3) lv (st) ks (am_uR R t j (some u)) I L nc ns) : am_JQ x Q (pc) lv (.ref u :: .ref t :: st) ks R I L nc ns := by
  obtain ⟨p, l, e, Rm, s, m, args, below, meth, c, D, G, A, a0, k0, mc9, ms9⟩ := x
  obtain ⟨hx, hb, hown, hts, hr, hlocks, hK, hA, hfr, hlo, hm, hml, hnm, hE, hk9⟩ := hc
  obtain ⟨ci, N, C, T, ts, ty0, hk, hcl, hin, hw, hj, hs, hty, hnm2, hp, hfin, hdecl⟩ := hg
  intro a H ls locs h1 hP hD hS hl
  have key : (am_ws G a ks R I L).set t (a t, .inr (ci, (am_fs a R I L t ts).set j (.ref (a u)))) = am_ws G a ks (am_uR R t j (some u)) I L := by
    refine am_ws_set hk ?_ (fun k q => am_uR_ne q) (fun _ _ => rfl) (fun _ _ => rfl)
    show (Sum.inr (ci, am_fs a (am_uR R t j (some u)) I L t ts) : va_E) = _
    rw [am_fs_set (I := I) (L := L) (R := R) (v := .ref (a u)) hs (by simp [am_fv, am_uR_eq, va_up, va_rf]) (fun i u q => by rcases u with _ | _ | u <;> simp [am_fv, am_uR_eq, va_up, q])]
  refine va_put (D := D) (ci := ci) (C := C) (T := T) (N := N) (v := .ref (a u)) hx hb hts hin ty0 hty hnm2 hown hK hP hD hS t (am_ws_at hk) hcl j hj (hts _ hw) (fun _ h => h) hfin hp (hn _) (hfit _) (am_fs_len hs) hd (fun H1 locs1 hP1 hD1 hS1 => ?_)
  rw [key] at hP1 hD1
  exact k a H1 ls locs1 h1 hP1 hD1 hS1 hl
theorem j_putRN (hc : am_ok x cc y nL ret dd mc ms) {j i t : Nat} {ty : FieldType} (hd : decode cc pc = .ok (.putfield i, 3)) (hg : am_fp ks y.cls i t j 2 ty false) (hn : narrow ty (.null) = .null) (hfit : fits ty (.null) = true) (k : am_JQ x Q (pc + 3) lv (st) ks (am_uR R t j none) I L nc ns) : am_JQ x Q (pc) lv (.null :: .ref t :: st) ks R I L nc ns := by
  obtain ⟨p, l, e, Rm, s, m, args, below, meth, c, D, G, A, a0, k0, mc9, ms9⟩ := x
  obtain ⟨hx, hb, hown, hts, hr, hlocks, hK, hA, hfr, hlo, hm, hml, hnm, hE, hk9⟩ := hc
  obtain ⟨ci, N, C, T, ts, ty0, hk, hcl, hin, hw, hj, hs, hty, hnm2, hp, hfin, hdecl⟩ := hg
  intro a H ls locs h1 hP hD hS hl
  have key : (am_ws G a ks R I L).set t (a t, .inr (ci, (am_fs a R I L t ts).set j (.null))) = am_ws G a ks (am_uR R t j none) I L := by
    refine am_ws_set hk ?_ (fun k q => am_uR_ne q) (fun _ _ => rfl) (fun _ _ => rfl)
    show (Sum.inr (ci, am_fs a (am_uR R t j none) I L t ts) : va_E) = _
    rw [am_fs_set (I := I) (L := L) (R := R) (v := .null) hs (by simp [am_fv, am_uR_eq, va_up, va_rf]) (fun i u q => by rcases u with _ | _ | u <;> simp [am_fv, am_uR_eq, va_up, q])]
  refine va_put (D := D) (ci := ci) (C := C) (T := T) (N := N) (v := .null) hx hb hts hin ty0 hty hnm2 hown hK hP hD hS t (am_ws_at hk) hcl j hj (hts _ hw) (fun _ h => h) hfin hp hn hfit (am_fs_len hs) hd (fun H1 locs1 hP1 hD1 hS1 => ?_)
  rw [key] at hP1 hD1
  exact k a H1 ls locs1 h1 hP1 hD1 hS1 hl
theorem j_putRF (hc : am_ok x cc y nL ret dd mc ms) {j i t : Nat} {ty : FieldType} (hd : decode cc pc = .ok (.putfield i, 3)) (hg : am_fp ks y.cls i t j 2 ty true) (hini : y.name = "<init>") {u : Nat} (hn : ∀ w : Nat, narrow ty (.ref w) = .ref w) (hfit : ∀ w : Nat, fits ty (.ref w) = true) (k : am_JQ x Q (pc + 3) lv (st) ks (am_uR R t j (some u)) I L nc ns) : am_JQ x Q (pc) lv (.ref u :: .ref t :: st) ks R I L nc ns := by
  obtain ⟨p, l, e, Rm, s, m, args, below, meth, c, D, G, A, a0, k0, mc9, ms9⟩ := x
  obtain ⟨hx, hb, hown, hts, hr, hlocks, hK, hA, hfr, hlo, hm, hml, hnm, hE, hk9⟩ := hc
  obtain ⟨ci, N, C, T, ts, ty0, hk, hcl, hin, hw, hj, hs, hty, hnm2, hp, hfin, hdecl⟩ := hg
  intro a H ls locs h1 hP hD hS hl
  have key : (am_ws G a ks R I L).set t (a t, .inr (ci, (am_fs a R I L t ts).set j (.ref (a u)))) = am_ws G a ks (am_uR R t j (some u)) I L := by
    refine am_ws_set hk ?_ (fun k q => am_uR_ne q) (fun _ _ => rfl) (fun _ _ => rfl)
    show (Sum.inr (ci, am_fs a (am_uR R t j (some u)) I L t ts) : va_E) = _
    rw [am_fs_set (I := I) (L := L) (R := R) (v := .ref (a u)) hs (by simp [am_fv, am_uR_eq, va_up, va_rf]) (fun i u q => by rcases u with _ | _ | u <;> simp [am_fv, am_uR_eq, va_up, q])]
  refine va_putF (D := D) (ci := ci) (C := C) (T := T) (N := N) (v := .ref (a u)) hx hb hts hin ty0 hty hnm2 hown hK hP hD hS t (am_ws_at hk) hcl j hj (hts _ hw) (fun _ h => h) hfin (hnm.trans hini) (hdecl rfl) hp (hn _) (hfit _) (am_fs_len hs) hd (fun H1 locs1 hP1 hD1 hS1 => ?_)
  rw [key] at hP1 hD1
  exact k a H1 ls locs1 h1 hP1 hD1 hS1 hl
theorem j_putRFN (hc : am_ok x cc y nL ret dd mc ms) {j i t : Nat} {ty : FieldType} (hd : decode cc pc = .ok (.putfield i, 3)) (hg : am_fp ks y.cls i t j 2 ty true) (hini : y.name = "<init>") (hn : narrow ty (.null) = .null) (hfit : fits ty (.null) = true) (k : am_JQ x Q (pc + 3) lv (st) ks (am_uR R t j none) I L nc ns) : am_JQ x Q (pc) lv (.null :: .ref t :: st) ks R I L nc ns := by
  obtain ⟨p, l, e, Rm, s, m, args, below, meth, c, D, G, A, a0, k0, mc9, ms9⟩ := x
  obtain ⟨hx, hb, hown, hts, hr, hlocks, hK, hA, hfr, hlo, hm, hml, hnm, hE, hk9⟩ := hc
  obtain ⟨ci, N, C, T, ts, ty0, hk, hcl, hin, hw, hj, hs, hty, hnm2, hp, hfin, hdecl⟩ := hg
  intro a H ls locs h1 hP hD hS hl
  have key : (am_ws G a ks R I L).set t (a t, .inr (ci, (am_fs a R I L t ts).set j (.null))) = am_ws G a ks (am_uR R t j none) I L := by
    refine am_ws_set hk ?_ (fun k q => am_uR_ne q) (fun _ _ => rfl) (fun _ _ => rfl)
    show (Sum.inr (ci, am_fs a (am_uR R t j none) I L t ts) : va_E) = _
    rw [am_fs_set (I := I) (L := L) (R := R) (v := .null) hs (by simp [am_fv, am_uR_eq, va_up, va_rf]) (fun i u q => by rcases u with _ | _ | u <;> simp [am_fv, am_uR_eq, va_up, q])]
  refine va_putF (D := D) (ci := ci) (C := C) (T := T) (N := N) (v := .null) hx hb hts hin ty0 hty hnm2 hown hK hP hD hS t (am_ws_at hk) hcl j hj (hts _ hw) (fun _ h => h) hfin (hnm.trans hini) (hdecl rfl) hp hn hfit (am_fs_len hs) hd (fun H1 locs1 hP1 hD1 hS1 => ?_)
  rw [key] at hP1 hD1
  exact k a H1 ls locs1 h1 hP1 hD1 hS1 hl
theorem j_iaload (hc : am_ok x cc y nL ret dd mc ms) {t n : Nat} {i : Int32} {K : Int32 → Option β} {r : β} (hd : decode cc pc = .ok (.iaload, 1)) (hk : ks[t]? = some (.inr (0, n))) (hf : am_ck i n (am_lt (I t i.toNatClampNeg) K) = some r) (k : ∀ v : Int32, K v = some r → am_JQ x Q (pc + 1) lv (.int v :: st) ks R I L nc ns) : am_JQ x Q (pc) lv (.int i :: .ref t :: st) ks R I L nc ns := by
  obtain ⟨p, l, e, Rm, s, m, args, below, meth, c, D, G, A, a0, k0, mc9, ms9⟩ := x
  obtain ⟨hx, hb, hown, hts, hr, hlocks, hK, hA, hfr, hlo, hm, hml, hnm, hE, hk9⟩ := hc
  intro a H ls locs h1 hP hD hS hl
  obtain ⟨hi, hf⟩ := am_ckE hf
  exact va_iald hx hb hK hP t 0 (am_ws_at hk) rfl hi hd (k _ hf a H ls locs h1 hP hD hS hl)
theorem j_iastore (hc : am_ok x cc y nL ret dd mc ms) {t n : Nat} {i : Int32} {v : Int32} {K : am_I → Option β} {r : β} (hd : decode cc pc = .ok (.iastore, 1)) (hk : ks[t]? = some (.inr (0, n))) (hf : am_ck i n (am_lt (am_up I t i.toNatClampNeg v) K) = some r) (k : ∀ I : am_I, K I = some r → am_JQ x Q (pc + 1) lv (st) ks R I L nc ns) : am_JQ x Q (pc) lv (.int v :: .int i :: .ref t :: st) ks R I L nc ns := by
  obtain ⟨p, l, e, Rm, s, m, args, below, meth, c, D, G, A, a0, k0, mc9, ms9⟩ := x
  obtain ⟨hx, hb, hown, hts, hr, hlocks, hK, hA, hfr, hlo, hm, hml, hnm, hE, hk9⟩ := hc
  intro a H ls locs h1 hP hD hS hl
  obtain ⟨hi, hf⟩ := am_ckE hf
  refine va_iast hx hb hK hP hD hS t 0 (am_ws_at hk) rfl hi hd (fun H1 locs1 hP1 hD1 hS1 => ?_)
  rw [am_ws_set (R' := R) (I' := am_up I t i.toNatClampNeg v) (L' := L) hk (by simp [am_e, am_up_eq]) (fun _ _ => rfl) (fun k q => am_up_ne q) (fun k q => rfl)] at hP1 hD1
  exact k _ hf a H1 ls locs1 h1 hP1 hD1 hS1 hl
theorem j_laload (hc : am_ok x cc y nL ret dd mc ms) {t n : Nat} {i : Int32} {K : Int64 → Option β} {r : β} (hd : decode cc pc = .ok (.laload, 1)) (hk : ks[t]? = some (.inr (1, n))) (hf : am_ck i n (am_lt (L t i.toNatClampNeg) K) = some r) (k : ∀ v : Int64, K v = some r → am_JQ x Q (pc + 1) lv (.long v :: st) ks R I L nc ns) : am_JQ x Q (pc) lv (.int i :: .ref t :: st) ks R I L nc ns := by
  obtain ⟨p, l, e, Rm, s, m, args, below, meth, c, D, G, A, a0, k0, mc9, ms9⟩ := x
  obtain ⟨hx, hb, hown, hts, hr, hlocks, hK, hA, hfr, hlo, hm, hml, hnm, hE, hk9⟩ := hc
  intro a H ls locs h1 hP hD hS hl
  obtain ⟨hi, hf⟩ := am_ckE hf
  exact va_lald hx hb hK hP t 1 (am_ws_at hk) rfl hi hd (k _ hf a H ls locs h1 hP hD hS hl)
theorem j_lastore (hc : am_ok x cc y nL ret dd mc ms) {t n : Nat} {i : Int32} {v : Int64} {K : am_L → Option β} {r : β} (hd : decode cc pc = .ok (.lastore, 1)) (hk : ks[t]? = some (.inr (1, n))) (hf : am_ck i n (am_lt (am_uL L t i.toNatClampNeg v) K) = some r) (k : ∀ L : am_L, K L = some r → am_JQ x Q (pc + 1) lv (st) ks R I L nc ns) : am_JQ x Q (pc) lv (.long v :: .int i :: .ref t :: st) ks R I L nc ns := by
  obtain ⟨p, l, e, Rm, s, m, args, below, meth, c, D, G, A, a0, k0, mc9, ms9⟩ := x
  obtain ⟨hx, hb, hown, hts, hr, hlocks, hK, hA, hfr, hlo, hm, hml, hnm, hE, hk9⟩ := hc
  intro a H ls locs h1 hP hD hS hl
  obtain ⟨hi, hf⟩ := am_ckE hf
  refine va_last hx hb hK hP hD hS t 1 (am_ws_at hk) rfl hi hd (fun H1 locs1 hP1 hD1 hS1 => ?_)
  rw [am_ws_set (R' := R) (I' := I) (L' := am_uL L t i.toNatClampNeg v) hk (by simp [am_e, am_uL_eq]) (fun _ _ => rfl) (fun k q => rfl) (fun k q => am_uL_ne q)] at hP1 hD1
  exact k _ hf a H1 ls locs1 h1 hP1 hD1 hS1 hl
theorem j_alen0 (hc : am_ok x cc y nL ret dd mc ms) {t n : Nat} {v : Int32} (hd : decode cc pc = .ok (.arraylength, 1)) (hk : ks[t]? = some (.inr (0, n))) (hv : Int32.ofNat n = v) (k : am_JQ x Q (pc + 1) lv (.int v :: st) ks R I L nc ns) : am_JQ x Q (pc) lv (.ref t :: st) ks R I L nc ns := by
  obtain ⟨p, l, e, Rm, s, m, args, below, meth, c, D, G, A, a0, k0, mc9, ms9⟩ := x
  obtain ⟨hx, hb, hown, hts, hr, hlocks, hK, hA, hfr, hlo, hm, hml, hnm, hE, hk9⟩ := hc
  intro a H ls locs h1 hP hD hS hl
  exact va_alen hx hb hK hP t 0 (am_ws_at hk) (ty := .int) rfl (by exact hv) hd (k a H ls locs h1 hP hD hS hl)
theorem j_alen1 (hc : am_ok x cc y nL ret dd mc ms) {t n : Nat} {v : Int32} (hd : decode cc pc = .ok (.arraylength, 1)) (hk : ks[t]? = some (.inr (1, n))) (hv : Int32.ofNat n = v) (k : am_JQ x Q (pc + 1) lv (.int v :: st) ks R I L nc ns) : am_JQ x Q (pc) lv (.ref t :: st) ks R I L nc ns := by
  obtain ⟨p, l, e, Rm, s, m, args, below, meth, c, D, G, A, a0, k0, mc9, ms9⟩ := x
  obtain ⟨hx, hb, hown, hts, hr, hlocks, hK, hA, hfr, hlo, hm, hml, hnm, hE, hk9⟩ := hc
  intro a H ls locs h1 hP hD hS hl
  exact va_alen hx hb hK hP t 1 (am_ws_at hk) (ty := .long) rfl (by exact hv) hd (k a H ls locs h1 hP hD hS hl)
theorem j_tab (hc : am_ok x cc y nL ret dd mc ms) {dflt lo hi : Int} {offs : Array Int} {len tgt : Nat} {u : Int32} {As : List (Option β)} {Z : Option β} (hd : decode cc pc = .ok (.tableswitch dflt lo hi offs, len)) (ht : (pc : Int) + dflt = (tgt : Int)) (hhi : hi = lo + As.length - 1) (hsz : offs.size = As.length) (hf : am_sw u lo As Z = z) (kd : Z = z → am_JQ x Q (tgt) lv (st) ks R I L nc ns) (ka : ∀ (k : Nat) (K : Option β) (off : Int) (tgt2 : Nat), As[k]? = some K → offs[k]? = some off → (pc : Int) + off = (tgt2 : Int) → K = z → am_JQ x Q (tgt2) lv (st) ks R I L nc ns) (kt : ∀ (k : Nat) (off : Int), offs[k]? = some off → ∃ tgt2 : Nat, (pc : Int) + off = (tgt2 : Int)) : am_JQ x Q (pc) lv (.int u :: st) ks R I L nc ns := by
  obtain ⟨p, l, e, Rm, s, m, args, below, meth, c, D, G, A, a0, k0, mc9, ms9⟩ := x
  obtain ⟨hx, hb, hown, hts, hr, hlocks, hK, hA, hfr, hlo, hm, hml, hnm, hE, hk9⟩ := hc
  intro a H ls locs h1 hP hD hS hl
  unfold am_sw at hf
  by_cases h1' : u.toInt < lo
  · rw [if_pos h1'] at hf
    exact lv_tableOut hx hb hd (Or.inl h1') ht (kd hf a H ls locs h1 hP hD hS hl)
  · rw [if_neg h1'] at hf
    by_cases h2' : hi < u.toInt
    · have hno : As[(u.toInt - lo).toNat]? = none := List.getElem?_eq_none (by omega)
      rw [hno] at hf
      exact lv_tableOut hx hb hd (Or.inr h2') ht (kd hf a H ls locs h1 hP hD hS hl)
    · have hlt : (u.toInt - lo).toNat < As.length := by omega
      obtain ⟨K, hK2⟩ : ∃ K, As[(u.toInt - lo).toNat]? = some K := ⟨_, List.getElem?_eq_getElem hlt⟩
      obtain ⟨off, ho⟩ : ∃ off, offs[(u.toInt - lo).toNat]? = some off := ⟨_, Array.getElem?_eq_getElem (by omega)⟩
      rw [hK2] at hf
      obtain ⟨tgt2, e2⟩ := kt _ off ho
      exact lv_tableIn hx hb hd h1' h2' ho e2 (ka _ K off tgt2 hK2 ho e2 hf a H ls locs h1 hP hD hS hl)
theorem j_getst (hc : am_ok x cc y nL ret dd mc ms) {i : Nat} {C n t : String} {v : Value} (hd : decode cc pc = .ok (.getstatic i, 3)) (hw : Cond.fieldLink y.cls i C n t ∈ am_gd) (hz : ∀ (A : Nat → Prop) (a : Nat → Nat) (U : State) (H : Heap), am_E A a U H → va_Z C n t (am_v a v) A U H) (k : am_JQ x Q (pc + 3) lv (v :: st) ks R I L nc ns) : am_JQ x Q (pc) lv (st) ks R I L nc ns := by
  obtain ⟨p, l, e, Rm, s, m, args, below, meth, c, D, G, A, a0, k0, mc9, ms9⟩ := x
  obtain ⟨hx, hb, hown, hts, hr, hlocks, hK, hA, hfr, hlo, hm, hml, hnm, hE, hk9⟩ := hc
  intro a H ls locs h1 hP hD hS hl
  have ea := am_E_at (fun k q => h1 k (hk9 k q)) hE
  exact va_gets hx hb (hz _ _ _ _ ea) hS hown (hts _ hw) (fun _ h => h) hd (k a H ls locs h1 hP hD hS hl)
theorem j_ialdC (hc : am_ok x cc y nL ret dd mc ms) {t n : Nat} {i : Int32} {f : Nat → Int32} {K : Int32 → Option β} {r : β} (hd : decode cc pc = .ok (.iaload, 1)) (hz : ∀ (A : Nat → Prop) (a : Nat → Nat) (U : State) (H : Heap), am_E A a U H → va_T .int (a t) n (fun j => .int (f j)) A U H) (hf : am_ck i n (am_lt (f i.toNatClampNeg) K) = some r) (k : ∀ v : Int32, K v = some r → am_JQ x Q (pc + 1) lv (.int v :: st) ks R I L nc ns) : am_JQ x Q (pc) lv (.int i :: .ref t :: st) ks R I L nc ns := by
  obtain ⟨p, l, e, Rm, s, m, args, below, meth, c, D, G, A, a0, k0, mc9, ms9⟩ := x
  obtain ⟨hx, hb, hown, hts, hr, hlocks, hK, hA, hfr, hlo, hm, hml, hnm, hE, hk9⟩ := hc
  intro a H ls locs h1 hP hD hS hl
  have ea := am_E_at (fun k q => h1 k (hk9 k q)) hE
  obtain ⟨hi, hf⟩ := am_ckE hf
  exact va_ti hx hb (hz _ _ _ _ ea) hS hi rfl hd (k _ hf a H ls locs h1 hP hD hS hl)
theorem j_baldC (hc : am_ok x cc y nL ret dd mc ms) {t n : Nat} {i : Int32} {f : Nat → Int32} {K : Int32 → Option β} {r : β} (hd : decode cc pc = .ok (.baload, 1)) (hz : ∀ (A : Nat → Prop) (a : Nat → Nat) (U : State) (H : Heap), am_E A a U H → va_T .byte (a t) n (fun j => .int (f j)) A U H) (hf : am_ck i n (am_lt (f i.toNatClampNeg) K) = some r) (k : ∀ v : Int32, K v = some r → am_JQ x Q (pc + 1) lv (.int v :: st) ks R I L nc ns) : am_JQ x Q (pc) lv (.int i :: .ref t :: st) ks R I L nc ns := by
  obtain ⟨p, l, e, Rm, s, m, args, below, meth, c, D, G, A, a0, k0, mc9, ms9⟩ := x
  obtain ⟨hx, hb, hown, hts, hr, hlocks, hK, hA, hfr, hlo, hm, hml, hnm, hE, hk9⟩ := hc
  intro a H ls locs h1 hP hD hS hl
  have ea := am_E_at (fun k q => h1 k (hk9 k q)) hE
  obtain ⟨hi, hf⟩ := am_ckE hf
  exact va_tb hx hb (hz _ _ _ _ ea) hS hi rfl hd (k _ hf a H ls locs h1 hP hD hS hl)
theorem j_alenC (hc : am_ok x cc y nL ret dd mc ms) {t n : Nat} {ty : FieldType} {f : Nat → Value} {v : Int32} (hd : decode cc pc = .ok (.arraylength, 1)) (hz : ∀ (A : Nat → Prop) (a : Nat → Nat) (U : State) (H : Heap), am_E A a U H → va_T ty (a t) n f A U H) (hv : Int32.ofNat n = v) (k : am_JQ x Q (pc + 1) lv (.int v :: st) ks R I L nc ns) : am_JQ x Q (pc) lv (.ref t :: st) ks R I L nc ns := by
  obtain ⟨p, l, e, Rm, s, m, args, below, meth, c, D, G, A, a0, k0, mc9, ms9⟩ := x
  obtain ⟨hx, hb, hown, hts, hr, hlocks, hK, hA, hfr, hlo, hm, hml, hnm, hE, hk9⟩ := hc
  intro a H ls locs h1 hP hD hS hl
  have ea := am_E_at (fun k q => h1 k (hk9 k q)) hE
  exact va_tlen hx hb (hz _ _ _ _ ea) hS hv hd (k a H ls locs h1 hP hD hS hl)
theorem j_getC (hc : am_ok x cc y nL ret dd mc ms) {t i : Nat} {C n d : String} {v : Value} (hd : decode cc pc = .ok (.getfield i, 3)) (hw : Cond.fieldLink y.cls i C n d ∈ am_gd) (hz : ∀ (A : Nat → Prop) (a : Nat → Nat) (U : State) (H : Heap), am_E A a U H → va_OF C n d (am_v a v) (a t) A U H) (k : am_JQ x Q (pc + 3) lv (v :: st) ks R I L nc ns) : am_JQ x Q (pc) lv (.ref t :: st) ks R I L nc ns := by
  obtain ⟨p, l, e, Rm, s, m, args, below, meth, c, D, G, A, a0, k0, mc9, ms9⟩ := x
  obtain ⟨hx, hb, hown, hts, hr, hlocks, hK, hA, hfr, hlo, hm, hml, hnm, hE, hk9⟩ := hc
  intro a H ls locs h1 hP hD hS hl
  have ea := am_E_at (fun k q => h1 k (hk9 k q)) hE
  exact vk_getf hx hb (hz _ _ _ _ ea) hS hown (hts _ hw) (fun _ h => h) hd (k a H ls locs h1 hP hD hS hl)
theorem j_ldcS (hc : am_ok x cc y nL ret dd mc ms) {t i : Nat} {tx : String} (hd : decode cc pc = .ok (.ldc i, 2)) (hz : ∀ (A : Nat → Prop) (a : Nat → Nat) (U : State) (H : Heap), am_E A a U H → vk_R y.cls i tx (a t) U) (k : am_JQ x Q (pc + 2) lv (.ref t :: st) ks R I L nc ns) : am_JQ x Q (pc) lv (st) ks R I L nc ns := by
  obtain ⟨p, l, e, Rm, s, m, args, below, meth, c, D, G, A, a0, k0, mc9, ms9⟩ := x
  obtain ⟨hx, hb, hown, hts, hr, hlocks, hK, hA, hfr, hlo, hm, hml, hnm, hE, hk9⟩ := hc
  intro a H ls locs h1 hP hD hS hl
  have ea := am_E_at (fun k q => h1 k (hk9 k q)) hE
  exact va_ldcS hx hb hown (hz _ _ _ _ ea) hd (k a H ls locs h1 hP hD hS hl)
theorem j_aaload (hc : am_ok x cc y nL ret dd mc ms) {t n b q : Nat} {i : Int32} {K : Nat → Option β} {r : β} (hd : decode cc pc = .ok (.aaload, 1)) (hk : ks[t]? = some (.inr (2, n))) (hR : ∀ j, j < n → R t j = some (b + j) ∧ ks[b + j]? = some (.inr (0, q))) (hf : am_ck i n (am_lt (b + i.toNatClampNeg) K) = some r) (k : ∀ u : Nat, ks[u]? = some (.inr (0, q)) → K u = some r → am_JQ x Q (pc + 1) lv (.ref u :: st) ks R I L nc ns) : am_JQ x Q (pc) lv (.int i :: .ref t :: st) ks R I L nc ns := by
  obtain ⟨p, l, e, Rm, s, m, args, below, meth, c, D, G, A, a0, k0, mc9, ms9⟩ := x
  obtain ⟨hx, hb, hown, hts, hr, hlocks, hK, hA, hfr, hlo, hm, hml, hnm, hE, hk9⟩ := hc
  intro a H ls locs h1 hP hD hS hl
  obtain ⟨hi, hf⟩ := am_ckE hf
  have hlt : i.toNatClampNeg < n := Nat.not_le.mp fun q => hi (Or.inr q)
  obtain ⟨hr1, hr2⟩ := hR _ hlt
  refine W.aald (v := .ref (a (b + i.toNatClampNeg))) (ty := .array .int) hx hb (hP t _ (am_ws_at hk)) ((hK.2 2 _ rfl).1 n (fun j => va_rf ((R t j).map a))) rfl (fun q => by cases q) (by show ¬ (i < 0 ∨ (arrV _ _ _).slots.size ≤ _); rw [arrV_size]; exact hi) (by show (arrV _ _ _).slots[_]? = _; rw [arrV_read _ _ hlt]; show some (va_rf ((R t i.toNatClampNeg).map a)) = _; rw [hr1]; rfl) rfl rfl hd ?_
  exact k _ hr2 hf a H ls locs h1 hP hD hS hl
theorem j_copy (hc : am_ok x cc y nL ret dd mc ms) {t0 t1 n0 n1 i : Nat} {sp dp n : Int32} {K : am_I → Option β} {r : β} (hd : decode cc pc = .ok (.invokestatic i, 3)) (hw : Cond.methodLink y.cls i arraycopyName ∈ am_gd) (hsy : am_sy) (h0 : ks[t0]? = some (.inr (0, n0))) (h1k : ks[t1]? = some (.inr (0, n1))) (hdd : 1 ≤ dd) (hcat : (st.map fun v => v.category).sum ≤ 8) (hf : am_cp sp dp n n0 n1 (am_lt (am_cy I t0 t1 sp.toNatClampNeg dp.toNatClampNeg n.toNatClampNeg) K) = some r) (k : ∀ I : am_I, K I = some r → am_JQ x Q (pc + 3) lv (st) ks R I L nc ns) : am_JQ x Q (pc) lv (.int n :: .int dp :: .ref t1 :: .int sp :: .ref t0 :: st) ks R I L nc ns := by
  obtain ⟨p, l, e, Rm, s, m, args, below, meth, c, D, G, A, a0, k0, mc9, ms9⟩ := x
  obtain ⟨hx, hb, hown, hts, hr, hlocks, hK, hA, hfr, hlo, hm, hml, hnm, hE, hk9⟩ := hc
  intro a H ls locs h1 hP hD hS hl
  obtain ⟨⟨q1, q2, q3, q4, q5⟩, hf⟩ := am_cpE hf
  refine va_copyi (q0 := t0) (q1 := t1) (t0 := 0) (t1 := 0) hx hb hl.1.symm hown (hts _ hw) (hts _ hsy.1) (hts _ hsy.2.1) (hts _ hsy.2.2) hK hP hD hS (am_ws_at h0) (am_ws_at h1k) rfl rfl rfl q1 q2 q3 q4 q5 (fun _ _ => rfl) (by omega) (by rw [List.map_map]; have : (List.map ((fun v => v.category) ∘ am_v a) st).sum ≤ 8 := (by simpa [Function.comp_def, am_v_cat] using hcat); have h8 : nativeFrameWords "java/lang/System" "arraycopy" 5 ≤ 20 := (by decide); omega) hd (fun H1 locs1 hP1 hD1 hS1 => ?_)
  rw [am_ws_set (R' := R) (I' := am_cy I t0 t1 sp.toNatClampNeg dp.toNatClampNeg n.toNatClampNeg) (L' := L) h1k (by simp [am_e, am_cy]) (fun _ _ => rfl) (fun k q => by simp [am_cy, q]) (fun k q => rfl)] at hP1 hD1
  exact k _ hf a H1 ls locs1 h1 hP1 hD1 hS1 hl
theorem j_copyC (hc : am_ok x cc y nL ret dd mc ms) {t0 t1 n0 n1 i : Nat} {f : Nat → Int32} {sp dp n : Int32} {K : am_I → Option β} {r : β} (hd : decode cc pc = .ok (.invokestatic i, 3)) (hw : Cond.methodLink y.cls i arraycopyName ∈ am_gd) (hsy : am_sy) (hz : ∀ (A : Nat → Prop) (a : Nat → Nat) (U : State) (H : Heap), am_E A a U H → va_T .int (a t0) n0 (fun j => .int (f j)) A U H) (h1k : ks[t1]? = some (.inr (0, n1))) (hdd : 1 ≤ dd) (hcat : (st.map fun v => v.category).sum ≤ 8) (hf : am_cp sp dp n n0 n1 (am_lt (am_cz I f t1 sp.toNatClampNeg dp.toNatClampNeg n.toNatClampNeg) K) = some r) (k : ∀ I : am_I, K I = some r → am_JQ x Q (pc + 3) lv (st) ks R I L nc ns) : am_JQ x Q (pc) lv (.int n :: .int dp :: .ref t1 :: .int sp :: .ref t0 :: st) ks R I L nc ns := by
  obtain ⟨p, l, e, Rm, s, m, args, below, meth, c, D, G, A, a0, k0, mc9, ms9⟩ := x
  obtain ⟨hx, hb, hown, hts, hr, hlocks, hK, hA, hfr, hlo, hm, hml, hnm, hE, hk9⟩ := hc
  intro a H ls locs h1 hP hD hS hl
  have ea := am_E_at (fun k q => h1 k (hk9 k q)) hE
  obtain ⟨⟨q1, q2, q3, q4, q5⟩, hf⟩ := am_cpE hf
  intro T hT X
  obtain ⟨scr, s1, ⟨s6, c0, hc0, m0, hm0⟩, s3, s4, -, s5, s7⟩ := hz _ _ _ _ ea
  have g0 : H[a t0]? = some scr := (hS.2.1 _ (Array.getElem?_eq_some_iff.mp s1).1 s7).trans s1
  have g1 : H[a t1]? = some (vp_cell G.1 (n1, .inl (I t1))) := hP t1 _ (am_ws_at h1k)
  obtain ⟨-, c1, hc1, m1, hm1⟩ := (hK.2 0 _ rfl).1 n1 (fun j => .int (I t1 j))
  have nn : ∀ z : Int32, ¬ z < 0 → z.toInt = (z.toNatClampNeg : Int) := fun z hz => by
    obtain ⟨j, hj, e⟩ := nI_of hz
    rw [e, nI_clamp hj, nI_toInt hj]
  obtain ⟨vm', X', step⟩ := X.arraycopy hx hown (hts _ hw) (hts _ hsy.1) (hts _ hsy.2.1) (hts _ hsy.2.2) (src := a t0) (dst := a t1) (cs := scr) (cd := vp_cell G.1 (n1, .inl (I t1))) (srcPos := sp) (destPos := dp) (n := n) (by rw [hT]; exact g0) (by rw [hT]; exact g1) s6 (fun _ h => by cases h) s3 (fun h => by cases h) hc0 hc1 hm0 hm1 (by simp [refKind]) q1 q2 q3
    (by rw [nn sp q1, nn n q3]; omega) (by rw [nn dp q2, nn n q3]; show ¬ _ > ((arrV G.1 n1 (fun j => .int (I t1 j))).slots.size : Int); rw [arrV_size]; omega)
    (fun vm₁ _ i hi => by rw [Array.getD_eq_getD_getElem?, s5 _ (by omega)]; exact ⟨rfl, trivial⟩)
    (g := F0 m pc ls (.int n :: .int dp :: .ref (a t1) :: .int sp :: .ref (a t0) :: st.map (am_v a))) rfl hl.1 rfl (by rw [hb]; exact hd) (by omega) (by show 2 * 0 + _ + _ ≤ _; rw [List.map_map]; have : (List.map ((fun v => v.category) ∘ am_v a) st).sum ≤ 8 := (by simpa [Function.comp_def, am_v_cat] using hcat); have h8 : nativeFrameWords "java/lang/System" "arraycopy" 5 ≤ 20 := (by decide); omega)
  have e1 : copied scr (vp_cell G.1 (n1, .inl (I t1))) sp dp n = vp_cell G.1 (n1, .inl (va_cpy f (I t1) sp.toNatClampNeg dp.toNatClampNeg n.toNatClampNeg)) := va_copiedX (fun z => .int z) scr G.1 f (I t1) s5 q4
  rw [e1] at X' step
  have hl9 : a t1 < H.size := (Array.getElem?_eq_some_iff.mp g1).1
  have oq : ∀ q : Nat, q ≠ a t1 → (H.setIfInBounds (a t1) (vp_cell G.1 (n1, .inl (va_cpy f (I t1) sp.toNatClampNeg dp.toNatClampNeg n.toNatClampNeg))))[q]? = H[q]? := fun q hq => by simp [Array.getElem?_setIfInBounds, Ne.symm hq]
  have hP1 := hP.set hD (am_ws_at h1k) (e := .inl (G.1, n1, .inl (va_cpy f (I t1) sp.toNatClampNeg dp.toNatClampNeg n.toNatClampNeg))) (show (H.setIfInBounds (a t1) _)[a t1]? = some _ by simp [Array.getElem?_setIfInBounds, hl9]) oq
  have hD1 := hD.set (am_ws_at h1k) (e := .inl (G.1, n1, .inl (va_cpy f (I t1) sp.toNatClampNeg dp.toNatClampNeg n.toNatClampNeg)))
  rw [am_ws_set (R' := R) (I' := am_cz I f t1 sp.toNatClampNeg dp.toNatClampNeg n.toNatClampNeg) (L' := L) h1k (by simp [am_e, am_cz]) (fun _ _ => rfl) (fun k q => by simp [am_cz, q]) (fun k q => rfl)] at hP1 hD1
  obtain ⟨t, a1, b1⟩ := k _ hf a _ ls _ h1 hP1 hD1 ⟨by simp; exact hS.1, fun q z1 z2 => by
      rw [oq q (fun e => z2 (by rw [e]; exact hD.2 t1 _ (am_ws_at h1k)))]
      exact hS.2.1 q z1 z2, fun q hq => by
      rcases List.mem_append.mp hq with h | h
      · exact hS.2.2 q h
      · obtain ⟨z, -, hz⟩ := List.mem_map.mp h
        rw [← hz]
        exact hD.2 t1 _ (am_ws_at h1k)⟩ hl _ (by rw [← hT]; rfl) X'
  exact ⟨t, step t a1, b1⟩
theorem j_nret (hc : am_ok x cc y nL ret dd mc ms) {ty : FieldType} {v r : Int32} {I' : am_I} {L' : am_L} (hd : decode cc pc = .ok (.ireturn, 1)) (hret : ret = some ty) (hres : res (some (.int r), ks, R, I', L')) (hn : narrow ty (.int v) = .int v) (hf : (some (v, I, L) : Option (Int32 × am_I × am_L)) = some (r, I', L'))  : am_J x res (pc) lv ([.int v]) ks R I L mc ms := by
  obtain ⟨p, l, e, Rm, s, m, args, below, meth, c, D, G, A, a0, k0, mc9, ms9⟩ := x
  obtain ⟨hx, hb, hown, hts, hr, hlocks, hK, hA, hfr, hlo, hm, hml, hnm, hE, hk9⟩ := hc
  intro a H ls locs h1 hP hD hS hl
  cases hf
  obtain ⟨e1, e2, -⟩ := hm
  subst e1; subst e2
  exact W.zret hx hb (hr.trans hret) hn (fun t ht hW => ⟨⟨a, _, hres, h1, rfl, by rw [ht]; exact hP, va_K.moved hW.alike hK, hD⟩, hS.F ht⟩) hS.2.2 hd
theorem j_i2b (hc : am_ok x cc y nL ret dd mc ms) {u : Int32} (hd : decode cc pc = .ok (.i2b, 1)) (k : am_JQ x Q (pc + 1) lv (.int u.toInt8.toInt32 :: st) ks R I L nc ns) : am_JQ x Q (pc) lv (.int u :: st) ks R I L nc ns := by
  obtain ⟨p, l, e, Rm, s, m, args, below, meth, c, D, G, A, a0, k0, mc9, ms9⟩ := x
  obtain ⟨hx, hb, hown, hts, hr, hlocks, hK, hA, hfr, hlo, hm, hml, hnm, hE, hk9⟩ := hc
  intro a H ls locs h1 hP hD hS hl
  exact lv_i2b hx hb hd rfl (k a H ls locs h1 hP hD hS hl)
theorem j_ireturn (hc : am_ok x cc y nL ret dd mc ms) {v r : Int32} {I' : am_I} {L' : am_L} (hd : decode cc pc = .ok (.ireturn, 1)) (hret : ret = some .int) (hres : res (some (.int r), ks, R, I', L')) (hf : (some (v, I, L) : Option (Int32 × am_I × am_L)) = some (r, I', L'))  : am_J x res (pc) lv ([.int v]) ks R I L mc ms := by
  obtain ⟨p, l, e, Rm, s, m, args, below, meth, c, D, G, A, a0, k0, mc9, ms9⟩ := x
  obtain ⟨hx, hb, hown, hts, hr, hlocks, hK, hA, hfr, hlo, hm, hml, hnm, hE, hk9⟩ := hc
  intro a H ls locs h1 hP hD hS hl
  cases hf
  obtain ⟨e1, e2, -⟩ := hm
  subst e1; subst e2
  exact W.iret hx hb (hr.trans hret) (fun t ht hW => ⟨⟨a, _, hres, h1, rfl, by rw [ht]; exact hP, va_K.moved hW.alike hK, hD⟩, hS.F ht⟩) hS.2.2 hd
theorem j_lreturn (hc : am_ok x cc y nL ret dd mc ms) {v r : Int64} {I' : am_I} {L' : am_L} (hd : decode cc pc = .ok (.lreturn, 1)) (hret : ret = some .long) (hres : res (some (.long r), ks, R, I', L')) (hf : (some (v, I, L) : Option (Int64 × am_I × am_L)) = some (r, I', L'))  : am_J x res (pc) lv ([.long v]) ks R I L mc ms := by
  obtain ⟨p, l, e, Rm, s, m, args, below, meth, c, D, G, A, a0, k0, mc9, ms9⟩ := x
  obtain ⟨hx, hb, hown, hts, hr, hlocks, hK, hA, hfr, hlo, hm, hml, hnm, hE, hk9⟩ := hc
  intro a H ls locs h1 hP hD hS hl
  cases hf
  obtain ⟨e1, e2, -⟩ := hm
  subst e1; subst e2
  exact W.lret hx hb (hr.trans hret) (fun t ht hW => ⟨⟨a, _, hres, h1, rfl, by rw [ht]; exact hP, va_K.moved hW.alike hK, hD⟩, hS.F ht⟩) hS.2.2 hd
theorem j_zreturn (hc : am_ok x cc y nL ret dd mc ms) {v r : Int32} {I' : am_I} {L' : am_L} (hd : decode cc pc = .ok (.ireturn, 1)) (hret : ret = some .boolean) (hres : res (some (.int r), ks, R, I', L')) (hf : am_bl v (some (v, I, L)) = some (r, I', L'))  : am_J x res (pc) lv ([.int v]) ks R I L mc ms := by
  obtain ⟨p, l, e, Rm, s, m, args, below, meth, c, D, G, A, a0, k0, mc9, ms9⟩ := x
  obtain ⟨hx, hb, hown, hts, hr, hlocks, hK, hA, hfr, hlo, hm, hml, hnm, hE, hk9⟩ := hc
  intro a H ls locs h1 hP hD hS hl
  obtain ⟨hv, hf⟩ := am_blE hf
  cases hf
  obtain ⟨e1, e2, -⟩ := hm
  subst e1; subst e2
  refine W.zret hx hb (hr.trans hret) ?_ (fun t ht hW => ⟨⟨a, _, hres, h1, rfl, by rw [ht]; exact hP, va_K.moved hW.alike hK, hD⟩, hS.F ht⟩) hS.2.2 hd
  rcases hv with rfl | rfl <;> rfl
theorem j_zret (hc : am_ok x cc y nL ret dd mc ms) {v r : Int32} {I' : am_I} {L' : am_L} (hd : decode cc pc = .ok (.ireturn, 1)) (hret : ret = some .boolean) (hres : res (some (.int r), ks, R, I', L')) (hv : v = 0 ∨ v = 1) (hf : (some (v, I, L) : Option (Int32 × am_I × am_L)) = some (r, I', L'))  : am_J x res (pc) lv ([.int v]) ks R I L mc ms := by
  obtain ⟨p, l, e, Rm, s, m, args, below, meth, c, D, G, A, a0, k0, mc9, ms9⟩ := x
  obtain ⟨hx, hb, hown, hts, hr, hlocks, hK, hA, hfr, hlo, hm, hml, hnm, hE, hk9⟩ := hc
  intro a H ls locs h1 hP hD hS hl
  cases hf
  obtain ⟨e1, e2, -⟩ := hm
  subst e1; subst e2
  refine W.zret hx hb (hr.trans hret) ?_ (fun t ht hW => ⟨⟨a, _, hres, h1, rfl, by rw [ht]; exact hP, va_K.moved hW.alike hK, hD⟩, hS.F ht⟩) hS.2.2 hd
  rcases hv with rfl | rfl <;> rfl
theorem j_return (hc : am_ok x cc y nL ret dd mc ms) {I' : am_I} {L' : am_L} (hd : decode cc pc = .ok (.return_, 1)) (hret : ret = none) (hres : res (none, ks, R, I', L')) (hf : (some (I, L) : Option (am_I × am_L)) = some (I', L'))  : am_J x res (pc) lv ([]) ks R I L mc ms := by
  obtain ⟨p, l, e, Rm, s, m, args, below, meth, c, D, G, A, a0, k0, mc9, ms9⟩ := x
  obtain ⟨hx, hb, hown, hts, hr, hlocks, hK, hA, hfr, hlo, hm, hml, hnm, hE, hk9⟩ := hc
  intro a H ls locs h1 hP hD hS hl
  cases hf
  obtain ⟨e1, e2, -⟩ := hm
  subst e1; subst e2
  exact W.vret hx hb (hr.trans hret) (fun t ht hW => ⟨⟨a, _, hres, h1, rfl, by rw [ht]; exact hP, va_K.moved hW.alike hK, hD⟩, hS.F ht⟩) hS.2.2 hd
theorem j_callVI (hc : am_ok x cc y nL ret dd mc ms) {y' : MethodName} {cc' : ByteArray} {n' : Nat} {ret' : Option FieldType} {d' i : Nat} {As : List Value} {st0 : List Value} {γ : Type} {r : γ} {F : Option (Int32 × am_I × am_L)} {K : Int32 → am_I → am_L → Option γ} {t ci N : Nat} {T : u_T} {ts : List Nat}  (hd : decode cc pc = .ok (.invokevirtual i, 3)) (hw : Cond.methodLink y.cls i y' ∈ am_gd) (hmv : am_mv y' cc' n' ret' As.length) (hk : ks[t]? = some (.inl (ci, ts))) (hcl : vwCl[ci]? = some (y'.cls, T, N)) (hst : As.reverse ++ .ref t :: st = st0) (hdd : d' + 1 ≤ dd) (hn' : n' ≤ 21) (hcat : (st.map fun v => v.category).sum ≤ 8) (hnc : nc ≤ mc ∧ ns ≤ ms) (hf : am_b3 F K = some r) (hM : ∀ (v : Int32) (I' : am_I) (L' : am_L), F = some (v, I', L') → am_C x.2.1 y' cc' n' ret' d' (.ref t :: As) ks R I L (some (.int v)) I' L') (k : ∀ (v : Int32) (I : am_I) (L : am_L), K v I L = some r → am_JQ x Q (pc + 3) lv (.int v :: st) ks R I L nc ns) : am_JQ x Q (pc) lv (st0) ks R I L nc ns := by
  obtain ⟨p, l, e, Rm, s, m, args, below, meth, c, D, G, A, a0, k0, mc9, ms9⟩ := x
  obtain ⟨hx, hb, hown, hts, hr, hlocks, hK, hA, hfr, hlo, hm, hml, hnm, hE, hk9⟩ := hc
  intro a H ls locs h1 hP hD hS hl
  obtain ⟨hcd, hin, hsel, hini, hds⟩ := hmv
  obtain ⟨v, I', L', e1, e2⟩ := am_b3E hf
  have hC := hM v I' L' e1 D G a H.size
  have hFc : ∀ q, va_A (am_ws G a ks R I L) H.size q → A q := fun q h => h.elim (fun ⟨k, e, h⟩ => hD.2 k (q, e) h) (fun h => hA q (Nat.le_trans hS.1 h))
  subst hst
  refine am_run (va_runV (n := As.length) (As := As.map (am_v a)) (rest := st.map (am_v a)) ⟨hx, hb, rfl, hown, hts⟩ hC ⟨callB_of As.length hts (fun w h => ⟨(List.mem_cons.mp h).elim (fun q => q ▸ hcd) (fun q => q), good_of_word ((List.mem_cons.mp h).elim (fun q => q ▸ rfl) (fun q => List.all_eq_true.mp am_good w q))⟩) rfl rfl rfl (hts _ hini) (hts _ hw) hds ⟨by show d' + 1 ≤ _; omega, by show 8 + (n' + 11) + 40 * d' ≤ _; omega⟩, hts _ hin, hts _ hsel⟩ ⟨fun a U g mk q => by obtain ⟨q0, q1, qP, qK, qD, qE⟩ := q; exact ⟨q0, q1, qP, va_K.moved (u := U) (U := U.calling g mk a) (Vm.Alike.refl U.vm) qK, qD, am_E_same (s := U) (U := U.calling g mk a) rfl qE⟩, va_recv hK hP (ci := ci) hcl (q0 := t) (am_ws_at hk), fun U hU hW => ⟨rfl, by rw [hU], by rw [hU]; exact hP, va_K.moved hW.alike hK, hD.weaken (fun _ _ _ _ => trivial), by rw [hU]; exact am_E_warm hW (am_E_call hS hFc (am_E_at (fun k q => h1 k (hk9 k q)) hE))⟩⟩ rfl (by simp) hl.1 (by simp [am_v]) (lv_room (by rw [List.map_map]; simpa [Function.comp_def, am_v_cat] using hcat)) hd ⟨by have := hm.2.2.1; have := hnc.1; omega, by have := hm.2.2.2; have := hnc.2; omega⟩) hS (fun q _ h => hFc q h) hFc (fun a' res9 t H1 locs1 ht hres9 h2 hP1 hD1 hS1 _ => ?_)
  subst hres9
  have ea : a' = a := funext fun k => h2 k trivial
  subst ea
  exact k v I' L' e2 a' H1 ls locs1 h1 (by rw [← ht]; exact hP1) (hD1.weaken (fun k q _ h => hFc q.1 h)) hS1 hl
theorem j_callVL (hc : am_ok x cc y nL ret dd mc ms) {y' : MethodName} {cc' : ByteArray} {n' : Nat} {ret' : Option FieldType} {d' i : Nat} {As : List Value} {st0 : List Value} {γ : Type} {r : γ} {F : Option (Int64 × am_I × am_L)} {K : Int64 → am_I → am_L → Option γ} {t ci N : Nat} {T : u_T} {ts : List Nat}  (hd : decode cc pc = .ok (.invokevirtual i, 3)) (hw : Cond.methodLink y.cls i y' ∈ am_gd) (hmv : am_mv y' cc' n' ret' As.length) (hk : ks[t]? = some (.inl (ci, ts))) (hcl : vwCl[ci]? = some (y'.cls, T, N)) (hst : As.reverse ++ .ref t :: st = st0) (hdd : d' + 1 ≤ dd) (hn' : n' ≤ 21) (hcat : (st.map fun v => v.category).sum ≤ 8) (hnc : nc ≤ mc ∧ ns ≤ ms) (hf : am_b3 F K = some r) (hM : ∀ (v : Int64) (I' : am_I) (L' : am_L), F = some (v, I', L') → am_C x.2.1 y' cc' n' ret' d' (.ref t :: As) ks R I L (some (.long v)) I' L') (k : ∀ (v : Int64) (I : am_I) (L : am_L), K v I L = some r → am_JQ x Q (pc + 3) lv (.long v :: st) ks R I L nc ns) : am_JQ x Q (pc) lv (st0) ks R I L nc ns := by
  obtain ⟨p, l, e, Rm, s, m, args, below, meth, c, D, G, A, a0, k0, mc9, ms9⟩ := x
  obtain ⟨hx, hb, hown, hts, hr, hlocks, hK, hA, hfr, hlo, hm, hml, hnm, hE, hk9⟩ := hc
  intro a H ls locs h1 hP hD hS hl
  obtain ⟨hcd, hin, hsel, hini, hds⟩ := hmv
  obtain ⟨v, I', L', e1, e2⟩ := am_b3E hf
  have hC := hM v I' L' e1 D G a H.size
  have hFc : ∀ q, va_A (am_ws G a ks R I L) H.size q → A q := fun q h => h.elim (fun ⟨k, e, h⟩ => hD.2 k (q, e) h) (fun h => hA q (Nat.le_trans hS.1 h))
  subst hst
  refine am_run (va_runV (n := As.length) (As := As.map (am_v a)) (rest := st.map (am_v a)) ⟨hx, hb, rfl, hown, hts⟩ hC ⟨callB_of As.length hts (fun w h => ⟨(List.mem_cons.mp h).elim (fun q => q ▸ hcd) (fun q => q), good_of_word ((List.mem_cons.mp h).elim (fun q => q ▸ rfl) (fun q => List.all_eq_true.mp am_good w q))⟩) rfl rfl rfl (hts _ hini) (hts _ hw) hds ⟨by show d' + 1 ≤ _; omega, by show 8 + (n' + 11) + 40 * d' ≤ _; omega⟩, hts _ hin, hts _ hsel⟩ ⟨fun a U g mk q => by obtain ⟨q0, q1, qP, qK, qD, qE⟩ := q; exact ⟨q0, q1, qP, va_K.moved (u := U) (U := U.calling g mk a) (Vm.Alike.refl U.vm) qK, qD, am_E_same (s := U) (U := U.calling g mk a) rfl qE⟩, va_recv hK hP (ci := ci) hcl (q0 := t) (am_ws_at hk), fun U hU hW => ⟨rfl, by rw [hU], by rw [hU]; exact hP, va_K.moved hW.alike hK, hD.weaken (fun _ _ _ _ => trivial), by rw [hU]; exact am_E_warm hW (am_E_call hS hFc (am_E_at (fun k q => h1 k (hk9 k q)) hE))⟩⟩ rfl (by simp) hl.1 (by simp [am_v]) (lv_room (by rw [List.map_map]; simpa [Function.comp_def, am_v_cat] using hcat)) hd ⟨by have := hm.2.2.1; have := hnc.1; omega, by have := hm.2.2.2; have := hnc.2; omega⟩) hS (fun q _ h => hFc q h) hFc (fun a' res9 t H1 locs1 ht hres9 h2 hP1 hD1 hS1 _ => ?_)
  subst hres9
  have ea : a' = a := funext fun k => h2 k trivial
  subst ea
  exact k v I' L' e2 a' H1 ls locs1 h1 (by rw [← ht]; exact hP1) (hD1.weaken (fun k q _ h => hFc q.1 h)) hS1 hl
theorem j_callVV (hc : am_ok x cc y nL ret dd mc ms) {y' : MethodName} {cc' : ByteArray} {n' : Nat} {ret' : Option FieldType} {d' i : Nat} {As : List Value} {st0 : List Value} {γ : Type} {r : γ} {F : Option (am_I × am_L)} {K : am_I → am_L → Option γ} {t ci N : Nat} {T : u_T} {ts : List Nat}  (hd : decode cc pc = .ok (.invokevirtual i, 3)) (hw : Cond.methodLink y.cls i y' ∈ am_gd) (hmv : am_mv y' cc' n' ret' As.length) (hk : ks[t]? = some (.inl (ci, ts))) (hcl : vwCl[ci]? = some (y'.cls, T, N)) (hst : As.reverse ++ .ref t :: st = st0) (hdd : d' + 1 ≤ dd) (hn' : n' ≤ 21) (hcat : (st.map fun v => v.category).sum ≤ 8) (hnc : nc ≤ mc ∧ ns ≤ ms) (hf : am_b2 F K = some r) (hM : ∀ (I' : am_I) (L' : am_L), F = some (I', L') → am_C x.2.1 y' cc' n' ret' d' (.ref t :: As) ks R I L none I' L') (k : ∀ (I : am_I) (L : am_L), K I L = some r → am_JQ x Q (pc + 3) lv (st) ks R I L nc ns) : am_JQ x Q (pc) lv (st0) ks R I L nc ns := by
  obtain ⟨p, l, e, Rm, s, m, args, below, meth, c, D, G, A, a0, k0, mc9, ms9⟩ := x
  obtain ⟨hx, hb, hown, hts, hr, hlocks, hK, hA, hfr, hlo, hm, hml, hnm, hE, hk9⟩ := hc
  intro a H ls locs h1 hP hD hS hl
  obtain ⟨hcd, hin, hsel, hini, hds⟩ := hmv
  obtain ⟨I', L', e1, e2⟩ := am_b2E hf
  have hC := hM I' L' e1 D G a H.size
  have hFc : ∀ q, va_A (am_ws G a ks R I L) H.size q → A q := fun q h => h.elim (fun ⟨k, e, h⟩ => hD.2 k (q, e) h) (fun h => hA q (Nat.le_trans hS.1 h))
  subst hst
  refine am_run (va_runV (n := As.length) (As := As.map (am_v a)) (rest := st.map (am_v a)) ⟨hx, hb, rfl, hown, hts⟩ hC ⟨callB_of As.length hts (fun w h => ⟨(List.mem_cons.mp h).elim (fun q => q ▸ hcd) (fun q => q), good_of_word ((List.mem_cons.mp h).elim (fun q => q ▸ rfl) (fun q => List.all_eq_true.mp am_good w q))⟩) rfl rfl rfl (hts _ hini) (hts _ hw) hds ⟨by show d' + 1 ≤ _; omega, by show 8 + (n' + 11) + 40 * d' ≤ _; omega⟩, hts _ hin, hts _ hsel⟩ ⟨fun a U g mk q => by obtain ⟨q0, q1, qP, qK, qD, qE⟩ := q; exact ⟨q0, q1, qP, va_K.moved (u := U) (U := U.calling g mk a) (Vm.Alike.refl U.vm) qK, qD, am_E_same (s := U) (U := U.calling g mk a) rfl qE⟩, va_recv hK hP (ci := ci) hcl (q0 := t) (am_ws_at hk), fun U hU hW => ⟨rfl, by rw [hU], by rw [hU]; exact hP, va_K.moved hW.alike hK, hD.weaken (fun _ _ _ _ => trivial), by rw [hU]; exact am_E_warm hW (am_E_call hS hFc (am_E_at (fun k q => h1 k (hk9 k q)) hE))⟩⟩ rfl (by simp) hl.1 (by simp [am_v]) (lv_room (by rw [List.map_map]; simpa [Function.comp_def, am_v_cat] using hcat)) hd ⟨by have := hm.2.2.1; have := hnc.1; omega, by have := hm.2.2.2; have := hnc.2; omega⟩) hS (fun q _ h => hFc q h) hFc (fun a' res9 t H1 locs1 ht hres9 h2 hP1 hD1 hS1 _ => ?_)
  subst hres9
  have ea : a' = a := funext fun k => h2 k trivial
  subst ea
  exact k I' L' e2 a' H1 ls locs1 h1 (by rw [← ht]; exact hP1) (hD1.weaken (fun k q _ h => hFc q.1 h)) hS1 hl
theorem j_callVW (hc : am_ok x cc y nL ret dd mc ms) {y' : MethodName} {cc' : ByteArray} {n' : Nat} {ret' : Option FieldType} {d' i : Nat} {As : List Value} {st0 : List Value} {γ : Type} {r : γ} {F : Option (Int32 × am_I × am_L)} {K : Int32 → am_I → am_L → Option γ} {t ci N : Nat} {T : u_T} {ts : List Nat}  (hd : decode cc pc = .ok (.invokevirtual i, 3)) (hw : Cond.methodLink y.cls i y' ∈ am_gd) (hmv : am_mv y' cc' n' ret' As.length) (hk : ks[t]? = some (.inl (ci, ts))) (hcl : vwCl[ci]? = some (y'.cls, T, N)) (hst : As.reverse ++ .ref t :: st = st0) (hdd : d' + 1 ≤ dd) (hn' : n' ≤ 21) (hcat : (st.map fun v => v.category).sum ≤ 8) (hnc : nc ≤ mc ∧ ns ≤ ms) (hf : am_b3 F K = some r) (hM : ∀ (v : Int32) (I' : am_I) (L' : am_L), F = some (v, I', L') → am_C x.2.1 y' cc' n' ret' d' (.ref t :: As) ks R I L none I' L') (k : ∀ (v : Int32) (I : am_I) (L : am_L), K v I L = some r → am_JQ x Q (pc + 3) lv (st) ks R I L nc ns) : am_JQ x Q (pc) lv (st0) ks R I L nc ns := by
  obtain ⟨p, l, e, Rm, s, m, args, below, meth, c, D, G, A, a0, k0, mc9, ms9⟩ := x
  obtain ⟨hx, hb, hown, hts, hr, hlocks, hK, hA, hfr, hlo, hm, hml, hnm, hE, hk9⟩ := hc
  intro a H ls locs h1 hP hD hS hl
  obtain ⟨hcd, hin, hsel, hini, hds⟩ := hmv
  obtain ⟨v, I', L', e1, e2⟩ := am_b3E hf
  have hC := hM v I' L' e1 D G a H.size
  have hFc : ∀ q, va_A (am_ws G a ks R I L) H.size q → A q := fun q h => h.elim (fun ⟨k, e, h⟩ => hD.2 k (q, e) h) (fun h => hA q (Nat.le_trans hS.1 h))
  subst hst
  refine am_run (va_runV (n := As.length) (As := As.map (am_v a)) (rest := st.map (am_v a)) ⟨hx, hb, rfl, hown, hts⟩ hC ⟨callB_of As.length hts (fun w h => ⟨(List.mem_cons.mp h).elim (fun q => q ▸ hcd) (fun q => q), good_of_word ((List.mem_cons.mp h).elim (fun q => q ▸ rfl) (fun q => List.all_eq_true.mp am_good w q))⟩) rfl rfl rfl (hts _ hini) (hts _ hw) hds ⟨by show d' + 1 ≤ _; omega, by show 8 + (n' + 11) + 40 * d' ≤ _; omega⟩, hts _ hin, hts _ hsel⟩ ⟨fun a U g mk q => by obtain ⟨q0, q1, qP, qK, qD, qE⟩ := q; exact ⟨q0, q1, qP, va_K.moved (u := U) (U := U.calling g mk a) (Vm.Alike.refl U.vm) qK, qD, am_E_same (s := U) (U := U.calling g mk a) rfl qE⟩, va_recv hK hP (ci := ci) hcl (q0 := t) (am_ws_at hk), fun U hU hW => ⟨rfl, by rw [hU], by rw [hU]; exact hP, va_K.moved hW.alike hK, hD.weaken (fun _ _ _ _ => trivial), by rw [hU]; exact am_E_warm hW (am_E_call hS hFc (am_E_at (fun k q => h1 k (hk9 k q)) hE))⟩⟩ rfl (by simp) hl.1 (by simp [am_v]) (lv_room (by rw [List.map_map]; simpa [Function.comp_def, am_v_cat] using hcat)) hd ⟨by have := hm.2.2.1; have := hnc.1; omega, by have := hm.2.2.2; have := hnc.2; omega⟩) hS (fun q _ h => hFc q h) hFc (fun a' res9 t H1 locs1 ht hres9 h2 hP1 hD1 hS1 _ => ?_)
  subst hres9
  have ea : a' = a := funext fun k => h2 k trivial
  subst ea
  exact k v I' L' e2 a' H1 ls locs1 h1 (by rw [← ht]; exact hP1) (hD1.weaken (fun k q _ h => hFc q.1 h)) hS1 hl
theorem j_callSI (hc : am_ok x cc y nL ret dd mc ms) {y' : MethodName} {cc' : ByteArray} {n' : Nat} {ret' : Option FieldType} {d' i : Nat} {As : List Value} {st0 : List Value} {γ : Type} {r : γ} {F : Option (Int32 × am_I × am_L)} {K : Int32 → am_I → am_L → Option γ}  (hd : decode cc pc = .ok (.invokestatic i, 3)) (hw : Cond.methodLink y.cls i y' ∈ am_gd) (hmv : am_ms y' cc' n' ret' As.length) (hst : As.reverse ++ st = st0) (hdd : d' + 1 ≤ dd) (hn' : n' ≤ 21) (hcat : (st.map fun v => v.category).sum ≤ 8) (hnc : nc ≤ mc ∧ ns ≤ ms) (hf : am_b3 F K = some r) (hM : ∀ (v : Int32) (I' : am_I) (L' : am_L), F = some (v, I', L') → am_C x.2.1 y' cc' n' ret' d' As ks R I L (some (.int v)) I' L') (k : ∀ (v : Int32) (I : am_I) (L : am_L), K v I L = some r → am_JQ x Q (pc + 3) lv (.int v :: st) ks R I L nc ns) : am_JQ x Q (pc) lv (st0) ks R I L nc ns := by
  obtain ⟨p, l, e, Rm, s, m, args, below, meth, c, D, G, A, a0, k0, mc9, ms9⟩ := x
  obtain ⟨hx, hb, hown, hts, hr, hlocks, hK, hA, hfr, hlo, hm, hml, hnm, hE, hk9⟩ := hc
  intro a H ls locs h1 hP hD hS hl
  obtain ⟨hcd, hin, hini, hds⟩ := hmv
  obtain ⟨v, I', L', e1, e2⟩ := am_b3E hf
  have hC := hM v I' L' e1 D G a H.size
  have hFc : ∀ q, va_A (am_ws G a ks R I L) H.size q → A q := fun q h => h.elim (fun ⟨k, e, h⟩ => hD.2 k (q, e) h) (fun h => hA q (Nat.le_trans hS.1 h))
  subst hst
  refine am_run (va_runS (n := As.length) (As := As.map (am_v a)) (rest := st.map (am_v a)) ⟨hx, hb, rfl, hown, hts⟩ hC ⟨callB_of As.length hts (fun w h => ⟨(List.mem_cons.mp h).elim (fun q => q ▸ hcd) (fun q => q), good_of_word ((List.mem_cons.mp h).elim (fun q => q ▸ rfl) (fun q => List.all_eq_true.mp am_good w q))⟩) rfl rfl rfl (hts _ hini) (hts _ hw) hds ⟨by show d' + 1 ≤ _; omega, by show 8 + (n' + 11) + 40 * d' ≤ _; omega⟩, hts _ hin⟩ ⟨fun a U g mk q => by obtain ⟨q0, q1, qP, qK, qD, qE⟩ := q; exact ⟨q0, q1, qP, va_K.moved (u := U) (U := U.calling g mk a) (Vm.Alike.refl U.vm) qK, qD, am_E_same (s := U) (U := U.calling g mk a) rfl qE⟩, fun U hU hW => ⟨rfl, by rw [hU], by rw [hU]; exact hP, va_K.moved hW.alike hK, hD.weaken (fun _ _ _ _ => trivial), by rw [hU]; exact am_E_warm hW (am_E_call hS hFc (am_E_at (fun k q => h1 k (hk9 k q)) hE))⟩⟩ rfl (by simp) hl.1 (by simp [am_v]) (lv_room (by rw [List.map_map]; simpa [Function.comp_def, am_v_cat] using hcat)) hd ⟨by have := hm.2.2.1; have := hnc.1; omega, by have := hm.2.2.2; have := hnc.2; omega⟩) hS (fun q _ h => hFc q h) hFc (fun a' res9 t H1 locs1 ht hres9 h2 hP1 hD1 hS1 _ => ?_)
  subst hres9
  have ea : a' = a := funext fun k => h2 k trivial
  subst ea
  exact k v I' L' e2 a' H1 ls locs1 h1 (by rw [← ht]; exact hP1) (hD1.weaken (fun k q _ h => hFc q.1 h)) hS1 hl
theorem j_callSL (hc : am_ok x cc y nL ret dd mc ms) {y' : MethodName} {cc' : ByteArray} {n' : Nat} {ret' : Option FieldType} {d' i : Nat} {As : List Value} {st0 : List Value} {γ : Type} {r : γ} {F : Option (Int64 × am_I × am_L)} {K : Int64 → am_I → am_L → Option γ}  (hd : decode cc pc = .ok (.invokestatic i, 3)) (hw : Cond.methodLink y.cls i y' ∈ am_gd) (hmv : am_ms y' cc' n' ret' As.length) (hst : As.reverse ++ st = st0) (hdd : d' + 1 ≤ dd) (hn' : n' ≤ 21) (hcat : (st.map fun v => v.category).sum ≤ 8) (hnc : nc ≤ mc ∧ ns ≤ ms) (hf : am_b3 F K = some r) (hM : ∀ (v : Int64) (I' : am_I) (L' : am_L), F = some (v, I', L') → am_C x.2.1 y' cc' n' ret' d' As ks R I L (some (.long v)) I' L') (k : ∀ (v : Int64) (I : am_I) (L : am_L), K v I L = some r → am_JQ x Q (pc + 3) lv (.long v :: st) ks R I L nc ns) : am_JQ x Q (pc) lv (st0) ks R I L nc ns := by
  obtain ⟨p, l, e, Rm, s, m, args, below, meth, c, D, G, A, a0, k0, mc9, ms9⟩ := x
  obtain ⟨hx, hb, hown, hts, hr, hlocks, hK, hA, hfr, hlo, hm, hml, hnm, hE, hk9⟩ := hc
  intro a H ls locs h1 hP hD hS hl
  obtain ⟨hcd, hin, hini, hds⟩ := hmv
  obtain ⟨v, I', L', e1, e2⟩ := am_b3E hf
  have hC := hM v I' L' e1 D G a H.size
  have hFc : ∀ q, va_A (am_ws G a ks R I L) H.size q → A q := fun q h => h.elim (fun ⟨k, e, h⟩ => hD.2 k (q, e) h) (fun h => hA q (Nat.le_trans hS.1 h))
  subst hst
  refine am_run (va_runS (n := As.length) (As := As.map (am_v a)) (rest := st.map (am_v a)) ⟨hx, hb, rfl, hown, hts⟩ hC ⟨callB_of As.length hts (fun w h => ⟨(List.mem_cons.mp h).elim (fun q => q ▸ hcd) (fun q => q), good_of_word ((List.mem_cons.mp h).elim (fun q => q ▸ rfl) (fun q => List.all_eq_true.mp am_good w q))⟩) rfl rfl rfl (hts _ hini) (hts _ hw) hds ⟨by show d' + 1 ≤ _; omega, by show 8 + (n' + 11) + 40 * d' ≤ _; omega⟩, hts _ hin⟩ ⟨fun a U g mk q => by obtain ⟨q0, q1, qP, qK, qD, qE⟩ := q; exact ⟨q0, q1, qP, va_K.moved (u := U) (U := U.calling g mk a) (Vm.Alike.refl U.vm) qK, qD, am_E_same (s := U) (U := U.calling g mk a) rfl qE⟩, fun U hU hW => ⟨rfl, by rw [hU], by rw [hU]; exact hP, va_K.moved hW.alike hK, hD.weaken (fun _ _ _ _ => trivial), by rw [hU]; exact am_E_warm hW (am_E_call hS hFc (am_E_at (fun k q => h1 k (hk9 k q)) hE))⟩⟩ rfl (by simp) hl.1 (by simp [am_v]) (lv_room (by rw [List.map_map]; simpa [Function.comp_def, am_v_cat] using hcat)) hd ⟨by have := hm.2.2.1; have := hnc.1; omega, by have := hm.2.2.2; have := hnc.2; omega⟩) hS (fun q _ h => hFc q h) hFc (fun a' res9 t H1 locs1 ht hres9 h2 hP1 hD1 hS1 _ => ?_)
  subst hres9
  have ea : a' = a := funext fun k => h2 k trivial
  subst ea
  exact k v I' L' e2 a' H1 ls locs1 h1 (by rw [← ht]; exact hP1) (hD1.weaken (fun k q _ h => hFc q.1 h)) hS1 hl
theorem j_callSV (hc : am_ok x cc y nL ret dd mc ms) {y' : MethodName} {cc' : ByteArray} {n' : Nat} {ret' : Option FieldType} {d' i : Nat} {As : List Value} {st0 : List Value} {γ : Type} {r : γ} {F : Option (am_I × am_L)} {K : am_I → am_L → Option γ}  (hd : decode cc pc = .ok (.invokestatic i, 3)) (hw : Cond.methodLink y.cls i y' ∈ am_gd) (hmv : am_ms y' cc' n' ret' As.length) (hst : As.reverse ++ st = st0) (hdd : d' + 1 ≤ dd) (hn' : n' ≤ 21) (hcat : (st.map fun v => v.category).sum ≤ 8) (hnc : nc ≤ mc ∧ ns ≤ ms) (hf : am_b2 F K = some r) (hM : ∀ (I' : am_I) (L' : am_L), F = some (I', L') → am_C x.2.1 y' cc' n' ret' d' As ks R I L none I' L') (k : ∀ (I : am_I) (L : am_L), K I L = some r → am_JQ x Q (pc + 3) lv (st) ks R I L nc ns) : am_JQ x Q (pc) lv (st0) ks R I L nc ns := by
  obtain ⟨p, l, e, Rm, s, m, args, below, meth, c, D, G, A, a0, k0, mc9, ms9⟩ := x
  obtain ⟨hx, hb, hown, hts, hr, hlocks, hK, hA, hfr, hlo, hm, hml, hnm, hE, hk9⟩ := hc
  intro a H ls locs h1 hP hD hS hl
  obtain ⟨hcd, hin, hini, hds⟩ := hmv
  obtain ⟨I', L', e1, e2⟩ := am_b2E hf
  have hC := hM I' L' e1 D G a H.size
  have hFc : ∀ q, va_A (am_ws G a ks R I L) H.size q → A q := fun q h => h.elim (fun ⟨k, e, h⟩ => hD.2 k (q, e) h) (fun h => hA q (Nat.le_trans hS.1 h))
  subst hst
  refine am_run (va_runS (n := As.length) (As := As.map (am_v a)) (rest := st.map (am_v a)) ⟨hx, hb, rfl, hown, hts⟩ hC ⟨callB_of As.length hts (fun w h => ⟨(List.mem_cons.mp h).elim (fun q => q ▸ hcd) (fun q => q), good_of_word ((List.mem_cons.mp h).elim (fun q => q ▸ rfl) (fun q => List.all_eq_true.mp am_good w q))⟩) rfl rfl rfl (hts _ hini) (hts _ hw) hds ⟨by show d' + 1 ≤ _; omega, by show 8 + (n' + 11) + 40 * d' ≤ _; omega⟩, hts _ hin⟩ ⟨fun a U g mk q => by obtain ⟨q0, q1, qP, qK, qD, qE⟩ := q; exact ⟨q0, q1, qP, va_K.moved (u := U) (U := U.calling g mk a) (Vm.Alike.refl U.vm) qK, qD, am_E_same (s := U) (U := U.calling g mk a) rfl qE⟩, fun U hU hW => ⟨rfl, by rw [hU], by rw [hU]; exact hP, va_K.moved hW.alike hK, hD.weaken (fun _ _ _ _ => trivial), by rw [hU]; exact am_E_warm hW (am_E_call hS hFc (am_E_at (fun k q => h1 k (hk9 k q)) hE))⟩⟩ rfl (by simp) hl.1 (by simp [am_v]) (lv_room (by rw [List.map_map]; simpa [Function.comp_def, am_v_cat] using hcat)) hd ⟨by have := hm.2.2.1; have := hnc.1; omega, by have := hm.2.2.2; have := hnc.2; omega⟩) hS (fun q _ h => hFc q h) hFc (fun a' res9 t H1 locs1 ht hres9 h2 hP1 hD1 hS1 _ => ?_)
  subst hres9
  have ea : a' = a := funext fun k => h2 k trivial
  subst ea
  exact k I' L' e2 a' H1 ls locs1 h1 (by rw [← ht]; exact hP1) (hD1.weaken (fun k q _ h => hFc q.1 h)) hS1 hl
theorem j_callSW (hc : am_ok x cc y nL ret dd mc ms) {y' : MethodName} {cc' : ByteArray} {n' : Nat} {ret' : Option FieldType} {d' i : Nat} {As : List Value} {st0 : List Value} {γ : Type} {r : γ} {F : Option (Int32 × am_I × am_L)} {K : Int32 → am_I → am_L → Option γ}  (hd : decode cc pc = .ok (.invokestatic i, 3)) (hw : Cond.methodLink y.cls i y' ∈ am_gd) (hmv : am_ms y' cc' n' ret' As.length) (hst : As.reverse ++ st = st0) (hdd : d' + 1 ≤ dd) (hn' : n' ≤ 21) (hcat : (st.map fun v => v.category).sum ≤ 8) (hnc : nc ≤ mc ∧ ns ≤ ms) (hf : am_b3 F K = some r) (hM : ∀ (v : Int32) (I' : am_I) (L' : am_L), F = some (v, I', L') → am_C x.2.1 y' cc' n' ret' d' As ks R I L none I' L') (k : ∀ (v : Int32) (I : am_I) (L : am_L), K v I L = some r → am_JQ x Q (pc + 3) lv (st) ks R I L nc ns) : am_JQ x Q (pc) lv (st0) ks R I L nc ns := by
  obtain ⟨p, l, e, Rm, s, m, args, below, meth, c, D, G, A, a0, k0, mc9, ms9⟩ := x
  obtain ⟨hx, hb, hown, hts, hr, hlocks, hK, hA, hfr, hlo, hm, hml, hnm, hE, hk9⟩ := hc
  intro a H ls locs h1 hP hD hS hl
  obtain ⟨hcd, hin, hini, hds⟩ := hmv
  obtain ⟨v, I', L', e1, e2⟩ := am_b3E hf
  have hC := hM v I' L' e1 D G a H.size
  have hFc : ∀ q, va_A (am_ws G a ks R I L) H.size q → A q := fun q h => h.elim (fun ⟨k, e, h⟩ => hD.2 k (q, e) h) (fun h => hA q (Nat.le_trans hS.1 h))
  subst hst
  refine am_run (va_runS (n := As.length) (As := As.map (am_v a)) (rest := st.map (am_v a)) ⟨hx, hb, rfl, hown, hts⟩ hC ⟨callB_of As.length hts (fun w h => ⟨(List.mem_cons.mp h).elim (fun q => q ▸ hcd) (fun q => q), good_of_word ((List.mem_cons.mp h).elim (fun q => q ▸ rfl) (fun q => List.all_eq_true.mp am_good w q))⟩) rfl rfl rfl (hts _ hini) (hts _ hw) hds ⟨by show d' + 1 ≤ _; omega, by show 8 + (n' + 11) + 40 * d' ≤ _; omega⟩, hts _ hin⟩ ⟨fun a U g mk q => by obtain ⟨q0, q1, qP, qK, qD, qE⟩ := q; exact ⟨q0, q1, qP, va_K.moved (u := U) (U := U.calling g mk a) (Vm.Alike.refl U.vm) qK, qD, am_E_same (s := U) (U := U.calling g mk a) rfl qE⟩, fun U hU hW => ⟨rfl, by rw [hU], by rw [hU]; exact hP, va_K.moved hW.alike hK, hD.weaken (fun _ _ _ _ => trivial), by rw [hU]; exact am_E_warm hW (am_E_call hS hFc (am_E_at (fun k q => h1 k (hk9 k q)) hE))⟩⟩ rfl (by simp) hl.1 (by simp [am_v]) (lv_room (by rw [List.map_map]; simpa [Function.comp_def, am_v_cat] using hcat)) hd ⟨by have := hm.2.2.1; have := hnc.1; omega, by have := hm.2.2.2; have := hnc.2; omega⟩) hS (fun q _ h => hFc q h) hFc (fun a' res9 t H1 locs1 ht hres9 h2 hP1 hD1 hS1 _ => ?_)
  subst hres9
  have ea : a' = a := funext fun k => h2 k trivial
  subst ea
  exact k v I' L' e2 a' H1 ls locs1 h1 (by rw [← ht]; exact hP1) (hD1.weaken (fun k q _ h => hFc q.1 h)) hS1 hl
theorem j_callKI (hc : am_ok x cc y nL ret dd mc ms) {y' : MethodName} {cc' : ByteArray} {n' : Nat} {ret' : Option FieldType} {d' i : Nat} {As : List Value} {st0 : List Value} {γ : Type} {r : γ} {F : Option (Int32 × am_I × am_L)} {K : Int32 → am_I → am_L → Option γ} {t : Nat}  (hd : decode cc pc = .ok (.invokevirtual i, 3)) (hw : Cond.methodLink y.cls i y' ∈ am_gd) (hmv : am_mv y' cc' n' ret' As.length) (hk : ∀ (A : Nat → Prop) (a : Nat → Nat) (U : State) (H : Heap), am_E A a U H → va_O y'.cls (a t) A U H) (hst : As.reverse ++ .ref t :: st = st0) (hdd : d' + 1 ≤ dd) (hn' : n' ≤ 21) (hcat : (st.map fun v => v.category).sum ≤ 8) (hnc : nc ≤ mc ∧ ns ≤ ms) (hf : am_b3 F K = some r) (hM : ∀ (v : Int32) (I' : am_I) (L' : am_L), F = some (v, I', L') → am_C x.2.1 y' cc' n' ret' d' (.ref t :: As) ks R I L (some (.int v)) I' L') (k : ∀ (v : Int32) (I : am_I) (L : am_L), K v I L = some r → am_JQ x Q (pc + 3) lv (.int v :: st) ks R I L nc ns) : am_JQ x Q (pc) lv (st0) ks R I L nc ns := by
  obtain ⟨p, l, e, Rm, s, m, args, below, meth, c, D, G, A, a0, k0, mc9, ms9⟩ := x
  obtain ⟨hx, hb, hown, hts, hr, hlocks, hK, hA, hfr, hlo, hm, hml, hnm, hE, hk9⟩ := hc
  intro a H ls locs h1 hP hD hS hl
  obtain ⟨hcd, hin, hsel, hini, hds⟩ := hmv
  obtain ⟨v, I', L', e1, e2⟩ := am_b3E hf
  have hC := hM v I' L' e1 D G a H.size
  have hFc : ∀ q, va_A (am_ws G a ks R I L) H.size q → A q := fun q h => h.elim (fun ⟨k, e, h⟩ => hD.2 k (q, e) h) (fun h => hA q (Nat.le_trans hS.1 h))
  subst hst
  refine am_run (va_runV (n := As.length) (As := As.map (am_v a)) (rest := st.map (am_v a)) ⟨hx, hb, rfl, hown, hts⟩ hC ⟨callB_of As.length hts (fun w h => ⟨(List.mem_cons.mp h).elim (fun q => q ▸ hcd) (fun q => q), good_of_word ((List.mem_cons.mp h).elim (fun q => q ▸ rfl) (fun q => List.all_eq_true.mp am_good w q))⟩) rfl rfl rfl (hts _ hini) (hts _ hw) hds ⟨by show d' + 1 ≤ _; omega, by show 8 + (n' + 11) + 40 * d' ≤ _; omega⟩, hts _ hin, hts _ hsel⟩ ⟨fun a U g mk q => by obtain ⟨q0, q1, qP, qK, qD, qE⟩ := q; exact ⟨q0, q1, qP, va_K.moved (u := U) (U := U.calling g mk a) (Vm.Alike.refl U.vm) qK, qD, am_E_same (s := U) (U := U.calling g mk a) rfl qE⟩, am_rcv ((hk _ _ _ _ (am_E_at (fun k q => h1 k (hk9 k q)) hE)).kept hS.2.1), fun U hU hW => ⟨rfl, by rw [hU], by rw [hU]; exact hP, va_K.moved hW.alike hK, hD.weaken (fun _ _ _ _ => trivial), by rw [hU]; exact am_E_warm hW (am_E_call hS hFc (am_E_at (fun k q => h1 k (hk9 k q)) hE))⟩⟩ rfl (by simp) hl.1 (by simp [am_v]) (lv_room (by rw [List.map_map]; simpa [Function.comp_def, am_v_cat] using hcat)) hd ⟨by have := hm.2.2.1; have := hnc.1; omega, by have := hm.2.2.2; have := hnc.2; omega⟩) hS (fun q _ h => hFc q h) hFc (fun a' res9 t H1 locs1 ht hres9 h2 hP1 hD1 hS1 _ => ?_)
  subst hres9
  have ea : a' = a := funext fun k => h2 k trivial
  subst ea
  exact k v I' L' e2 a' H1 ls locs1 h1 (by rw [← ht]; exact hP1) (hD1.weaken (fun k q _ h => hFc q.1 h)) hS1 hl
theorem j_callKL (hc : am_ok x cc y nL ret dd mc ms) {y' : MethodName} {cc' : ByteArray} {n' : Nat} {ret' : Option FieldType} {d' i : Nat} {As : List Value} {st0 : List Value} {γ : Type} {r : γ} {F : Option (Int64 × am_I × am_L)} {K : Int64 → am_I → am_L → Option γ} {t : Nat}  (hd : decode cc pc = .ok (.invokevirtual i, 3)) (hw : Cond.methodLink y.cls i y' ∈ am_gd) (hmv : am_mv y' cc' n' ret' As.length) (hk : ∀ (A : Nat → Prop) (a : Nat → Nat) (U : State) (H : Heap), am_E A a U H → va_O y'.cls (a t) A U H) (hst : As.reverse ++ .ref t :: st = st0) (hdd : d' + 1 ≤ dd) (hn' : n' ≤ 21) (hcat : (st.map fun v => v.category).sum ≤ 8) (hnc : nc ≤ mc ∧ ns ≤ ms) (hf : am_b3 F K = some r) (hM : ∀ (v : Int64) (I' : am_I) (L' : am_L), F = some (v, I', L') → am_C x.2.1 y' cc' n' ret' d' (.ref t :: As) ks R I L (some (.long v)) I' L') (k : ∀ (v : Int64) (I : am_I) (L : am_L), K v I L = some r → am_JQ x Q (pc + 3) lv (.long v :: st) ks R I L nc ns) : am_JQ x Q (pc) lv (st0) ks R I L nc ns := by
  obtain ⟨p, l, e, Rm, s, m, args, below, meth, c, D, G, A, a0, k0, mc9, ms9⟩ := x
  obtain ⟨hx, hb, hown, hts, hr, hlocks, hK, hA, hfr, hlo, hm, hml, hnm, hE, hk9⟩ := hc
  intro a H ls locs h1 hP hD hS hl
  obtain ⟨hcd, hin, hsel, hini, hds⟩ := hmv
  obtain ⟨v, I', L', e1, e2⟩ := am_b3E hf
  have hC := hM v I' L' e1 D G a H.size
  have hFc : ∀ q, va_A (am_ws G a ks R I L) H.size q → A q := fun q h => h.elim (fun ⟨k, e, h⟩ => hD.2 k (q, e) h) (fun h => hA q (Nat.le_trans hS.1 h))
  subst hst
  refine am_run (va_runV (n := As.length) (As := As.map (am_v a)) (rest := st.map (am_v a)) ⟨hx, hb, rfl, hown, hts⟩ hC ⟨callB_of As.length hts (fun w h => ⟨(List.mem_cons.mp h).elim (fun q => q ▸ hcd) (fun q => q), good_of_word ((List.mem_cons.mp h).elim (fun q => q ▸ rfl) (fun q => List.all_eq_true.mp am_good w q))⟩) rfl rfl rfl (hts _ hini) (hts _ hw) hds ⟨by show d' + 1 ≤ _; omega, by show 8 + (n' + 11) + 40 * d' ≤ _; omega⟩, hts _ hin, hts _ hsel⟩ ⟨fun a U g mk q => by obtain ⟨q0, q1, qP, qK, qD, qE⟩ := q; exact ⟨q0, q1, qP, va_K.moved (u := U) (U := U.calling g mk a) (Vm.Alike.refl U.vm) qK, qD, am_E_same (s := U) (U := U.calling g mk a) rfl qE⟩, am_rcv ((hk _ _ _ _ (am_E_at (fun k q => h1 k (hk9 k q)) hE)).kept hS.2.1), fun U hU hW => ⟨rfl, by rw [hU], by rw [hU]; exact hP, va_K.moved hW.alike hK, hD.weaken (fun _ _ _ _ => trivial), by rw [hU]; exact am_E_warm hW (am_E_call hS hFc (am_E_at (fun k q => h1 k (hk9 k q)) hE))⟩⟩ rfl (by simp) hl.1 (by simp [am_v]) (lv_room (by rw [List.map_map]; simpa [Function.comp_def, am_v_cat] using hcat)) hd ⟨by have := hm.2.2.1; have := hnc.1; omega, by have := hm.2.2.2; have := hnc.2; omega⟩) hS (fun q _ h => hFc q h) hFc (fun a' res9 t H1 locs1 ht hres9 h2 hP1 hD1 hS1 _ => ?_)
  subst hres9
  have ea : a' = a := funext fun k => h2 k trivial
  subst ea
  exact k v I' L' e2 a' H1 ls locs1 h1 (by rw [← ht]; exact hP1) (hD1.weaken (fun k q _ h => hFc q.1 h)) hS1 hl
theorem j_callKV (hc : am_ok x cc y nL ret dd mc ms) {y' : MethodName} {cc' : ByteArray} {n' : Nat} {ret' : Option FieldType} {d' i : Nat} {As : List Value} {st0 : List Value} {γ : Type} {r : γ} {F : Option (am_I × am_L)} {K : am_I → am_L → Option γ} {t : Nat}  (hd : decode cc pc = .ok (.invokevirtual i, 3)) (hw : Cond.methodLink y.cls i y' ∈ am_gd) (hmv : am_mv y' cc' n' ret' As.length) (hk : ∀ (A : Nat → Prop) (a : Nat → Nat) (U : State) (H : Heap), am_E A a U H → va_O y'.cls (a t) A U H) (hst : As.reverse ++ .ref t :: st = st0) (hdd : d' + 1 ≤ dd) (hn' : n' ≤ 21) (hcat : (st.map fun v => v.category).sum ≤ 8) (hnc : nc ≤ mc ∧ ns ≤ ms) (hf : am_b2 F K = some r) (hM : ∀ (I' : am_I) (L' : am_L), F = some (I', L') → am_C x.2.1 y' cc' n' ret' d' (.ref t :: As) ks R I L none I' L') (k : ∀ (I : am_I) (L : am_L), K I L = some r → am_JQ x Q (pc + 3) lv (st) ks R I L nc ns) : am_JQ x Q (pc) lv (st0) ks R I L nc ns := by
  obtain ⟨p, l, e, Rm, s, m, args, below, meth, c, D, G, A, a0, k0, mc9, ms9⟩ := x
  obtain ⟨hx, hb, hown, hts, hr, hlocks, hK, hA, hfr, hlo, hm, hml, hnm, hE, hk9⟩ := hc
  intro a H ls locs h1 hP hD hS hl
  obtain ⟨hcd, hin, hsel, hini, hds⟩ := hmv
  obtain ⟨I', L', e1, e2⟩ := am_b2E hf
  have hC := hM I' L' e1 D G a H.size
  have hFc : ∀ q, va_A (am_ws G a ks R I L) H.size q → A q := fun q h => h.elim (fun ⟨k, e, h⟩ => hD.2 k (q, e) h) (fun h => hA q (Nat.le_trans hS.1 h))
  subst hst
  refine am_run (va_runV (n := As.length) (As := As.map (am_v a)) (rest := st.map (am_v a)) ⟨hx, hb, rfl, hown, hts⟩ hC ⟨callB_of As.length hts (fun w h => ⟨(List.mem_cons.mp h).elim (fun q => q ▸ hcd) (fun q => q), good_of_word ((List.mem_cons.mp h).elim (fun q => q ▸ rfl) (fun q => List.all_eq_true.mp am_good w q))⟩) rfl rfl rfl (hts _ hini) (hts _ hw) hds ⟨by show d' + 1 ≤ _; omega, by show 8 + (n' + 11) + 40 * d' ≤ _; omega⟩, hts _ hin, hts _ hsel⟩ ⟨fun a U g mk q => by obtain ⟨q0, q1, qP, qK, qD, qE⟩ := q; exact ⟨q0, q1, qP, va_K.moved (u := U) (U := U.calling g mk a) (Vm.Alike.refl U.vm) qK, qD, am_E_same (s := U) (U := U.calling g mk a) rfl qE⟩, am_rcv ((hk _ _ _ _ (am_E_at (fun k q => h1 k (hk9 k q)) hE)).kept hS.2.1), fun U hU hW => ⟨rfl, by rw [hU], by rw [hU]; exact hP, va_K.moved hW.alike hK, hD.weaken (fun _ _ _ _ => trivial), by rw [hU]; exact am_E_warm hW (am_E_call hS hFc (am_E_at (fun k q => h1 k (hk9 k q)) hE))⟩⟩ rfl (by simp) hl.1 (by simp [am_v]) (lv_room (by rw [List.map_map]; simpa [Function.comp_def, am_v_cat] using hcat)) hd ⟨by have := hm.2.2.1; have := hnc.1; omega, by have := hm.2.2.2; have := hnc.2; omega⟩) hS (fun q _ h => hFc q h) hFc (fun a' res9 t H1 locs1 ht hres9 h2 hP1 hD1 hS1 _ => ?_)
  subst hres9
  have ea : a' = a := funext fun k => h2 k trivial
  subst ea
  exact k I' L' e2 a' H1 ls locs1 h1 (by rw [← ht]; exact hP1) (hD1.weaken (fun k q _ h => hFc q.1 h)) hS1 hl
theorem j_callKW (hc : am_ok x cc y nL ret dd mc ms) {y' : MethodName} {cc' : ByteArray} {n' : Nat} {ret' : Option FieldType} {d' i : Nat} {As : List Value} {st0 : List Value} {γ : Type} {r : γ} {F : Option (Int32 × am_I × am_L)} {K : Int32 → am_I → am_L → Option γ} {t : Nat}  (hd : decode cc pc = .ok (.invokevirtual i, 3)) (hw : Cond.methodLink y.cls i y' ∈ am_gd) (hmv : am_mv y' cc' n' ret' As.length) (hk : ∀ (A : Nat → Prop) (a : Nat → Nat) (U : State) (H : Heap), am_E A a U H → va_O y'.cls (a t) A U H) (hst : As.reverse ++ .ref t :: st = st0) (hdd : d' + 1 ≤ dd) (hn' : n' ≤ 21) (hcat : (st.map fun v => v.category).sum ≤ 8) (hnc : nc ≤ mc ∧ ns ≤ ms) (hf : am_b3 F K = some r) (hM : ∀ (v : Int32) (I' : am_I) (L' : am_L), F = some (v, I', L') → am_C x.2.1 y' cc' n' ret' d' (.ref t :: As) ks R I L none I' L') (k : ∀ (v : Int32) (I : am_I) (L : am_L), K v I L = some r → am_JQ x Q (pc + 3) lv (st) ks R I L nc ns) : am_JQ x Q (pc) lv (st0) ks R I L nc ns := by
  obtain ⟨p, l, e, Rm, s, m, args, below, meth, c, D, G, A, a0, k0, mc9, ms9⟩ := x
  obtain ⟨hx, hb, hown, hts, hr, hlocks, hK, hA, hfr, hlo, hm, hml, hnm, hE, hk9⟩ := hc
  intro a H ls locs h1 hP hD hS hl
  obtain ⟨hcd, hin, hsel, hini, hds⟩ := hmv
  obtain ⟨v, I', L', e1, e2⟩ := am_b3E hf
  have hC := hM v I' L' e1 D G a H.size
  have hFc : ∀ q, va_A (am_ws G a ks R I L) H.size q → A q := fun q h => h.elim (fun ⟨k, e, h⟩ => hD.2 k (q, e) h) (fun h => hA q (Nat.le_trans hS.1 h))
  subst hst
  refine am_run (va_runV (n := As.length) (As := As.map (am_v a)) (rest := st.map (am_v a)) ⟨hx, hb, rfl, hown, hts⟩ hC ⟨callB_of As.length hts (fun w h => ⟨(List.mem_cons.mp h).elim (fun q => q ▸ hcd) (fun q => q), good_of_word ((List.mem_cons.mp h).elim (fun q => q ▸ rfl) (fun q => List.all_eq_true.mp am_good w q))⟩) rfl rfl rfl (hts _ hini) (hts _ hw) hds ⟨by show d' + 1 ≤ _; omega, by show 8 + (n' + 11) + 40 * d' ≤ _; omega⟩, hts _ hin, hts _ hsel⟩ ⟨fun a U g mk q => by obtain ⟨q0, q1, qP, qK, qD, qE⟩ := q; exact ⟨q0, q1, qP, va_K.moved (u := U) (U := U.calling g mk a) (Vm.Alike.refl U.vm) qK, qD, am_E_same (s := U) (U := U.calling g mk a) rfl qE⟩, am_rcv ((hk _ _ _ _ (am_E_at (fun k q => h1 k (hk9 k q)) hE)).kept hS.2.1), fun U hU hW => ⟨rfl, by rw [hU], by rw [hU]; exact hP, va_K.moved hW.alike hK, hD.weaken (fun _ _ _ _ => trivial), by rw [hU]; exact am_E_warm hW (am_E_call hS hFc (am_E_at (fun k q => h1 k (hk9 k q)) hE))⟩⟩ rfl (by simp) hl.1 (by simp [am_v]) (lv_room (by rw [List.map_map]; simpa [Function.comp_def, am_v_cat] using hcat)) hd ⟨by have := hm.2.2.1; have := hnc.1; omega, by have := hm.2.2.2; have := hnc.2; omega⟩) hS (fun q _ h => hFc q h) hFc (fun a' res9 t H1 locs1 ht hres9 h2 hP1 hD1 hS1 _ => ?_)
  subst hres9
  have ea : a' = a := funext fun k => h2 k trivial
  subst ea
  exact k v I' L' e2 a' H1 ls locs1 h1 (by rw [← ht]; exact hP1) (hD1.weaken (fun k q _ h => hFc q.1 h)) hS1 hl
end AMJ
theorem j_widen {x : am_X} {Q : State → Prop} {pc : Nat} {lv : List (Option Value)} {st : List Value} {ks : List am_k} {R : am_R} {I : am_I} {L : am_L} {nc ns nc' ns' : Nat} (h1 : nc ≤ nc') (h2 : ns ≤ ns') (k : am_JQ x Q pc lv st ks R I L nc' ns') : am_JQ x Q pc lv st ks R I L nc ns := by
  obtain ⟨p, l, e, Rm, s, m, args, below, meth, c, D, G, A, a0, k0, mc9, ms9⟩ := x
  intro a H ls locs g1 hP hD hS hl
  exact W.widen h1 h2 (k a H ls locs g1 hP hD hS hl)
theorem j_sub {x : am_X} {Q : State → Prop} {pc : Nat} {lv lv' : List (Option Value)} {st : List Value} {ks : List am_k} {R : am_R} {I : am_I} {L : am_L} {nc ns : Nat} (k : am_JQ x Q pc lv' st ks R I L nc ns) (h : am_le lv lv') : am_JQ x Q pc lv st ks R I L nc ns := by
  obtain ⟨p, l, e, Rm, s, m, args, below, meth, c, D, G, A, a0, k0, mc9, ms9⟩ := x
  intro a H ls locs h1 hP hD hS hl
  exact k a H ls locs h1 hP hD hS (am_has_le h hl)
