/-! THE STATE: numbers, truths, longs, by the reference's own fields; then its arrays; then the last code -/
abbrev z_S : Type := (Nat → Nat) × (Nat → Bool) × (Nat → Int64) × (Nat → Nat → Nat) × (Nat → Nat → Bool) × (Nat → Nat → Int64) × (Nat → Nat → Int32) × Int32
def sN (S : z_S) (j : Nat) : Nat := S.1 j
def sB (S : z_S) (j : Nat) : Bool := S.2.1 j
def sL (S : z_S) (j : Nat) : Int64 := S.2.2.1 j
def sAN (S : z_S) (j k : Nat) : Nat := S.2.2.2.1 j k
def sAB (S : z_S) (j k : Nat) : Bool := S.2.2.2.2.1 j k
def sAL (S : z_S) (j k : Nat) : Int64 := S.2.2.2.2.2.1 j k
def sAI (S : z_S) (j k : Nat) : Int32 := S.2.2.2.2.2.2.1 j k
def sF (S : z_S) : Int32 := S.2.2.2.2.2.2.2
def uN (S : z_S) (j v : Nat) : z_S := (va_up S.1 j v, S.2)
def uB (S : z_S) (j : Nat) (v : Bool) : z_S := (S.1, va_up S.2.1 j v, S.2.2)
def uL (S : z_S) (j : Nat) (v : Int64) : z_S := (S.1, S.2.1, va_up S.2.2.1 j v, S.2.2.2)
def uAN (S : z_S) (j : Nat) (f : Nat → Nat) : z_S := (S.1, S.2.1, S.2.2.1, va_up S.2.2.2.1 j f, S.2.2.2.2)
def uAB (S : z_S) (j : Nat) (f : Nat → Bool) : z_S := (S.1, S.2.1, S.2.2.1, S.2.2.2.1, va_up S.2.2.2.2.1 j f, S.2.2.2.2.2)
def uAL (S : z_S) (j : Nat) (f : Nat → Int64) : z_S := (S.1, S.2.1, S.2.2.1, S.2.2.2.1, S.2.2.2.2.1, va_up S.2.2.2.2.2.1 j f, S.2.2.2.2.2.2)
def uAI (S : z_S) (j : Nat) (f : Nat → Int32) : z_S := (S.1, S.2.1, S.2.2.1, S.2.2.2.1, S.2.2.2.2.1, S.2.2.2.2.2.1, va_up S.2.2.2.2.2.2.1 j f, S.2.2.2.2.2.2.2)
def uF (S : z_S) (v : Int32) : z_S := (S.1, S.2.1, S.2.2.1, S.2.2.2.1, S.2.2.2.2.1, S.2.2.2.2.2.1, S.2.2.2.2.2.2.1, v)
/-- the whole heap: 0 the script, 1 to 10 the class's own cells, 11 to 30 the reference's, 31 the law's row, then what calls make -/
def HP (c m : Nat → z_E) (d : z_H) : z_H := [c 0, c 1, c 2, c 3, c 4, c 5, c 6, c 7, c 8, c 9, c 10, m 11, m 12, m 13, m 14, m 15, m 16, m 17, m 18, m 19, m 20, m 21, m 22, m 23, m 24, m 25, m 26, m 27, m 28, m 29, m 30, m 31] ++ d
/-- the reference's cells -/
def mfun (S : z_S) (o : Nat → Int64) (k : Nat) : z_E := match k with
  | 11 => .inr (7, [.int (nI (sN S 0)), .int (nI (sN S 1)), .int (nI (sN S 2)), .long (sL S 3), .long (sL S 4), .int (z_b (sB S 5)), .int (z_b (sB S 6)), .int (nI (sN S 7)), .int (nI (sN S 8)), .ref 12, .ref 13, .ref 14, .ref 15, .ref 16, .ref 17, .ref 18, .ref 19, .ref 20, .ref 21, .ref 22, .int (nI (sN S 20)), .ref 23, .ref 24, .ref 25, .ref 26, .ref 27, .int (z_b (sB S 26)), .int (nI (sN S 27)), .int (nI (sN S 28)), .int (nI (sN S 29)), .int (nI (sN S 30)), .int (z_b (sB S 31)), .int (nI (sN S 32)), .int (z_b (sB S 33)), .int (z_b (sB S 34)), .int (nI (sN S 35)), .ref 28, .int (z_b (sB S 37)), .int (nI (sN S 38)), .ref 29, .int (nI (sN S 40)), .ref 30, .int (sF S)])
  | 12 => .inl (0, 40, .inl (sAI S 9))
  | 13 => .inl (0, 40, .inl (fun k => nI (sAN S 10 k)))
  | 14 => .inl (0, 40, .inl (fun k => nI (sAN S 11 k)))
  | 15 => .inl (0, 40, .inl (fun k => nI (sAN S 12 k)))
  | 16 => .inl (2, 40, .inr (.inl (sAL S 13)))
  | 17 => .inl (3, 40, .inl (fun k => z_b (sAB S 14 k)))
  | 18 => .inl (2, 40, .inr (.inl (sAL S 15)))
  | 19 => .inl (3, 40, .inl (fun k => z_b (sAB S 16 k)))
  | 20 => .inl (3, 40, .inl (fun k => z_b (sAB S 17 k)))
  | 21 => .inl (0, 320, .inl (fun k => nI (sAN S 18 k)))
  | 22 => .inl (0, 320, .inl (fun k => nI (sAN S 19 k)))
  | 23 => .inl (0, 10, .inl (sAI S 21))
  | 24 => .inl (0, 10, .inl (fun k => nI (sAN S 22 k)))
  | 25 => .inl (3, 10, .inl (fun k => z_b (sAB S 23 k)))
  | 26 => .inl (0, 10, .inl (fun k => nI (sAN S 24 k)))
  | 27 => .inl (0, 10, .inl (fun k => nI (sAN S 25 k)))
  | 28 => .inl (0, 60, .inl (fun k => nI (sAN S 36 k)))
  | 29 => .inl (0, 60, .inl (fun k => nI (sAN S 39 k)))
  | 30 => .inl (0, 1000, .inl (fun k => nI (sAN S 41 k)))
  | _ => .inl (2, 1, .inr (.inl o))
theorem z_heap {cl : List vw_C} {G : z_G} {nL : Nat} {X : z_X} {Q : State → Prop} {cells slots pc : Nat} {lv : List (Nat × Value)} {st : List Value} {h : z_H} (h2 : z_H) (he : h = h2) (k : z_V cl G nL X Q cells slots pc lv st h2) : z_V cl G nL X Q cells slots pc lv st h := by rw [he]; exact k
/-- within a range, of whole numbers -/
def inZ (x a b : Int) : Bool := decide (a ≤ x) && decide (x ≤ b)

set_option maxRecDepth 100000 in
set_option maxHeartbeats 1000000 in
theorem c_X6_isIn {h : z_H} (x a b : Int64) : z_K yX6_isIn cX6_isIn 6 (some .boolean) 0 0 0 [.long x, .long a, .long b] h (fun v h' => v = some (.int (z_b (inZ x.toInt a.toInt b.toInt))) ∧ h' = h) := by
  refine z_met vI_X6_isIn (Nat.le_of_ble_eq_true rfl) (fun G X F hr hnm => ?_)
  refine z_lload_n F dX6_isIn_0 rfl ?_
  refine z_lload_n F dX6_isIn_1 rfl ?_
  refine z_lcmp F dX6_isIn_2 ?_
  refine z_if_lt (tgt := 17) F dX6_isIn_3 (by decide) (fun c3 => ?_) (fun c3 => ?_)
  · have hz : inZ x.toInt a.toInt b.toInt = false := by unfold inZ; rw [decide_eq_false (by have := Int64.lt_iff_toInt_lt.mp ((lg_cmp_lt _ _).mp c3); omega)]; rfl
    refine z_iconst (v := 0) F dX6_isIn_17 rfl ?_
    exact z_iret F hr dX6_isIn_18 rfl (Nat.le_of_ble_eq_true rfl) (Nat.le_of_ble_eq_true rfl) (⟨by rw [hz]; rfl, rfl⟩)
  · refine z_lload_n F dX6_isIn_6 rfl ?_
    refine z_lload F dX6_isIn_7 rfl ?_
    refine z_lcmp F dX6_isIn_9 ?_
    refine z_if_gt (tgt := 17) F dX6_isIn_10 (by decide) (fun c10 => ?_) (fun c10 => ?_)
    · have hz : inZ x.toInt a.toInt b.toInt = false := by unfold inZ; rw [decide_eq_false (p := x.toInt ≤ b.toInt) (by have := Int64.lt_iff_toInt_lt.mp ((lg_cmp_gt _ _).mp c10); omega)]; simp
      refine z_iconst (v := 0) F dX6_isIn_17 rfl ?_
      exact z_iret F hr dX6_isIn_18 rfl (Nat.le_of_ble_eq_true rfl) (Nat.le_of_ble_eq_true rfl) (⟨by rw [hz]; rfl, rfl⟩)
    · have h3 : ¬ x.toInt < a.toInt := fun q => c3 ((lg_cmp_lt _ _).mpr (Int64.lt_iff_toInt_lt.mpr q))
      have h9 : ¬ b.toInt < x.toInt := fun q => c10 ((lg_cmp_gt _ _).mpr (Int64.lt_iff_toInt_lt.mpr q))
      have hz : inZ x.toInt a.toInt b.toInt = true := by unfold inZ; rw [decide_eq_true (by omega), decide_eq_true (by omega)]; rfl
      refine z_iconst (v := 1) F dX6_isIn_13 rfl ?_
      refine z_goto (tgt := 18) F dX6_isIn_14 (by decide) ?_
      exact z_iret F hr dX6_isIn_18 rfl (Nat.le_of_ble_eq_true rfl) (Nat.le_of_ble_eq_true rfl) (⟨by rw [hz]; rfl, rfl⟩)

set_option maxRecDepth 100000 in
set_option maxHeartbeats 1000000 in
theorem c_X5_isWithin {h : z_H} (x a b : Int32) : z_K yX5_isWithin cX5_isWithin 3 (some .boolean) 0 0 0 [.int x, .int a, .int b] h (fun v h' => v = some (.int (z_b (inZ x.toInt a.toInt b.toInt))) ∧ h' = h) := by
  refine z_met vI_X5_isWithin (Nat.le_of_ble_eq_true rfl) (fun G X F hr hnm => ?_)
  refine z_iload_n F dX5_isWithin_0 rfl ?_
  refine z_iload_n F dX5_isWithin_1 rfl ?_
  refine z_icmp_lt (tgt := 14) F dX5_isWithin_2 (by decide) (fun c2 => ?_) (fun c2 => ?_)
  · have hz : inZ x.toInt a.toInt b.toInt = false := by unfold inZ; rw [decide_eq_false (by have := Int32.lt_iff_toInt_lt.mp c2; omega)]; rfl
    refine z_iconst (v := 0) F dX5_isWithin_14 rfl ?_
    exact z_iret F hr dX5_isWithin_15 rfl (Nat.le_of_ble_eq_true rfl) (Nat.le_of_ble_eq_true rfl) (⟨by rw [hz]; rfl, rfl⟩)
  · refine z_iload_n F dX5_isWithin_5 rfl ?_
    refine z_iload_n F dX5_isWithin_6 rfl ?_
    refine z_icmp_gt (tgt := 14) F dX5_isWithin_7 (by decide) (fun c7 => ?_) (fun c7 => ?_)
    · have hz : inZ x.toInt a.toInt b.toInt = false := by unfold inZ; rw [decide_eq_false (p := x.toInt ≤ b.toInt) (by have := Int32.lt_iff_toInt_lt.mp c7; omega)]; simp
      refine z_iconst (v := 0) F dX5_isWithin_14 rfl ?_
      exact z_iret F hr dX5_isWithin_15 rfl (Nat.le_of_ble_eq_true rfl) (Nat.le_of_ble_eq_true rfl) (⟨by rw [hz]; rfl, rfl⟩)
    · have h3 : ¬ x.toInt < a.toInt := fun q => c2 (Int32.lt_iff_toInt_lt.mpr q)
      have h9 : ¬ b.toInt < x.toInt := fun q => c7 (Int32.lt_iff_toInt_lt.mpr q)
      have hz : inZ x.toInt a.toInt b.toInt = true := by unfold inZ; rw [decide_eq_true (by omega), decide_eq_true (by omega)]; rfl
      refine z_iconst (v := 1) F dX5_isWithin_10 rfl ?_
      refine z_goto (tgt := 15) F dX5_isWithin_11 (by decide) ?_
      exact z_iret F hr dX5_isWithin_15 rfl (Nat.le_of_ble_eq_true rfl) (Nat.le_of_ble_eq_true rfl) (⟨by rw [hz]; rfl, rfl⟩)

set_option maxRecDepth 100000 in
set_option maxHeartbeats 1000000 in
theorem c_X6_thrown {c : Nat → z_E} {S : z_S} {o : Nat → Int64} {d : z_H} : z_K yX6_thrown cX6_thrown 1 (some .int) 0 0 0 [.ref 11] (HP c (mfun S o) d) (fun v h' => v = some (.int (nI (sN S 0))) ∧ h' = (HP c (mfun S o) d)) := by
  refine z_met vI_X6_thrown (Nat.le_of_ble_eq_true rfl) (fun G X F hr hnm => ?_)
  refine z_aload_n F dX6_thrown_0 rfl rfl ?_
  refine z_getf F vF_X6_83 dX6_thrown_1 rfl rfl ?_
  exact z_iret F hr dX6_thrown_4 rfl (Nat.le_of_ble_eq_true rfl) (Nat.le_of_ble_eq_true rfl) (⟨rfl, rfl⟩)

set_option maxRecDepth 100000 in
set_option maxHeartbeats 1000000 in
theorem c_X6_code {c : Nat → z_E} {S : z_S} {o : Nat → Int64} {d : z_H} : z_K yX6_code cX6_code 1 (some .int) 0 0 0 [.ref 11] (HP c (mfun S o) d) (fun v h' => v = some (.int (sF S)) ∧ h' = HP c (mfun (uN S 0 0) o) d) := by
  refine z_met vI_X6_code (Nat.le_of_ble_eq_true rfl) (fun G X F hr hnm => ?_)
  refine z_aload_n F dX6_code_0 rfl rfl ?_
  refine z_iconst (v := 0) F dX6_code_1 rfl ?_
  refine z_putf F vF_X6_83 vT_X6 vD_X6_0 dX6_code_2 rfl (Nat.le_of_ble_eq_true rfl) rfl rfl (fun g2 => ?_)
  refine z_heap (HP c (mfun (uN S 0 0) o) d) rfl ?_
  refine z_aload_n F dX6_code_5 rfl rfl ?_
  refine z_getf F vF_X6_80 dX6_code_6 rfl rfl ?_
  exact z_iret F hr dX6_code_9 rfl (Nat.le_of_ble_eq_true rfl) (Nat.le_of_ble_eq_true rfl) (⟨rfl, rfl⟩)
