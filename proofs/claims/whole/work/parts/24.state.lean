/-! THE STATE: numbers, truths, longs, by the reference's own fields; then its arrays; then the last code -/
abbrev z_S : Type := (Nat → Nat) × (Nat → Bool) × (Nat → Int64) × (Nat → Nat → Nat) × (Nat → Nat → Bool) × (Nat → Nat → Int64) × (Nat → Nat → Int32) × Int32
def sN (S : z_S) (j : Nat) : Nat := S.1 j
def sB (S : z_S) (j : Nat) : Bool := S.2.1 j
def sL (S : z_S) (j : Nat) : Int64 := S.2.2.1 j
def sAN (S : z_S) (j k : Nat) : Nat := S.2.2.2.1 j k
def sAB (S : z_S) (j k : Nat) : Bool := S.2.2.2.2.1 j k
def sAL (S : z_S) (j k : Nat) : Int64 := S.2.2.2.2.2.1 j k
def sAI (S : z_S) (j k : Nat) : Int32 := S.2.2.2.2.2.2.1 j k
def sF (S : z_S) : Int32 := S.2.2.2.2.2.2.2
def uN (S : z_S) (j v : Nat) : z_S := (va_up S.1 j v, S.2)
def uB (S : z_S) (j : Nat) (v : Bool) : z_S := (S.1, va_up S.2.1 j v, S.2.2)
def uL (S : z_S) (j : Nat) (v : Int64) : z_S := (S.1, S.2.1, va_up S.2.2.1 j v, S.2.2.2)
def uAN (S : z_S) (j : Nat) (f : Nat → Nat) : z_S := (S.1, S.2.1, S.2.2.1, va_up S.2.2.2.1 j f, S.2.2.2.2)
def uAB (S : z_S) (j : Nat) (f : Nat → Bool) : z_S := (S.1, S.2.1, S.2.2.1, S.2.2.2.1, va_up S.2.2.2.2.1 j f, S.2.2.2.2.2)
def uAL (S : z_S) (j : Nat) (f : Nat → Int64) : z_S := (S.1, S.2.1, S.2.2.1, S.2.2.2.1, S.2.2.2.2.1, va_up S.2.2.2.2.2.1 j f, S.2.2.2.2.2.2)
def uAI (S : z_S) (j : Nat) (f : Nat → Int32) : z_S := (S.1, S.2.1, S.2.2.1, S.2.2.2.1, S.2.2.2.2.1, S.2.2.2.2.2.1, va_up S.2.2.2.2.2.2.1 j f, S.2.2.2.2.2.2.2)
def uF (S : z_S) (v : Int32) : z_S := (S.1, S.2.1, S.2.2.1, S.2.2.2.1, S.2.2.2.2.1, S.2.2.2.2.2.1, S.2.2.2.2.2.2.1, v)
/-- the whole heap: 0 the script, 1 to 10 the class's own cells, 11 to 30 the reference's, 31 the law's row, then what calls make -/
def HP (c m : Nat → z_E) (d : z_H) : z_H := [c 0, c 1, c 2, c 3, c 4, c 5, c 6, c 7, c 8, c 9, c 10, m 11, m 12, m 13, m 14, m 15, m 16, m 17, m 18, m 19, m 20, m 21, m 22, m 23, m 24, m 25, m 26, m 27, m 28, m 29, m 30, m 31] ++ d
def mO (S : z_S) : List Value := [.int (nI (sN S 0)), .int (nI (sN S 1)), .int (nI (sN S 2)), .long (sL S 3), .long (sL S 4), .int (z_b (sB S 5)), .int (z_b (sB S 6)), .int (nI (sN S 7)), .int (nI (sN S 8)), .ref 12, .ref 13, .ref 14, .ref 15, .ref 16, .ref 17, .ref 18, .ref 19, .ref 20, .ref 21, .ref 22, .int (nI (sN S 20)), .ref 23, .ref 24, .ref 25, .ref 26, .ref 27, .int (z_b (sB S 26)), .int (nI (sN S 27)), .int (nI (sN S 28)), .int (nI (sN S 29)), .int (nI (sN S 30)), .int (z_b (sB S 31)), .int (nI (sN S 32)), .int (z_b (sB S 33)), .int (z_b (sB S 34)), .int (nI (sN S 35)), .ref 28, .int (z_b (sB S 37)), .int (nI (sN S 38)), .ref 29, .int (nI (sN S 40)), .ref 30, .int (sF S)]
/-- the reference's cells -/
def mfun (S : z_S) (o : Nat → Int64) (k : Nat) : z_E := match k with
  | 11 => .inr (7, mO S)
  | 12 => .inl (0, 40, .inl (sAI S 9))
  | 13 => .inl (0, 40, .inl (fun k => nI (sAN S 10 k)))
  | 14 => .inl (0, 40, .inl (fun k => nI (sAN S 11 k)))
  | 15 => .inl (0, 40, .inl (fun k => nI (sAN S 12 k)))
  | 16 => .inl (2, 40, .inr (.inl (sAL S 13)))
  | 17 => .inl (3, 40, .inl (fun k => z_b (sAB S 14 k)))
  | 18 => .inl (2, 40, .inr (.inl (sAL S 15)))
  | 19 => .inl (3, 40, .inl (fun k => z_b (sAB S 16 k)))
  | 20 => .inl (3, 40, .inl (fun k => z_b (sAB S 17 k)))
  | 21 => .inl (0, 320, .inl (fun k => nI (sAN S 18 k)))
  | 22 => .inl (0, 320, .inl (fun k => nI (sAN S 19 k)))
  | 23 => .inl (0, 10, .inl (sAI S 21))
  | 24 => .inl (0, 10, .inl (fun k => nI (sAN S 22 k)))
  | 25 => .inl (3, 10, .inl (fun k => z_b (sAB S 23 k)))
  | 26 => .inl (0, 10, .inl (fun k => nI (sAN S 24 k)))
  | 27 => .inl (0, 10, .inl (fun k => nI (sAN S 25 k)))
  | 28 => .inl (0, 60, .inl (fun k => nI (sAN S 36 k)))
  | 29 => .inl (0, 60, .inl (fun k => nI (sAN S 39 k)))
  | 30 => .inl (0, 1000, .inl (fun k => nI (sAN S 41 k)))
  | _ => .inl (2, 1, .inr (.inl o))
theorem z_heap {cl : List vw_C} {G : z_G} {nL : Nat} {X : z_X} {Q : State → Prop} {cells slots pc : Nat} {lv : List (Nat × Value)} {st : List Value} {h : z_H} (h2 : z_H) (he : h = h2) (k : z_V cl G nL X Q cells slots pc lv st h2) : z_V cl G nL X Q cells slots pc lv st h := by rw [he]; exact k
/-- within a range, of whole numbers -/
def inZ (x a b : Int) : Bool := decide (a ≤ x) && decide (x ≤ b)

theorem upd_nI (f : Nat → Nat) (n l : Nat) : upd (fun k => nI (f k)) n (nI l) = fun k => nI (va_up f n l k) := by
  funext k
  by_cases h : k = n <;> simp [upd, va_up, h]
theorem upd_b (f : Nat → Bool) (n : Nat) (b : Bool) : upd (fun k => z_b (f k)) n (z_b b &&& 1) = fun k => z_b (va_up f n b k) := by
  funext k
  have hb : z_b b &&& 1 = z_b b := by cases b <;> rfl
  by_cases h : k = n <;> simp [upd, va_up, h, hb]
theorem mO_at {c : Nat → z_E} {S : z_S} {o : Nat → Int64} {d : z_H} : (HP c (mfun S o) d)[11]? = some (.inr (7, mO S)) := rfl
theorem ms_0 {c : Nat → z_E} {S : z_S} {o : Nat → Int64} {d : z_H} {v : Nat} : (HP c (mfun S o) d).set 11 (.inr (7, (mO S).set 0 (.int (nI v)))) = HP c (mfun (uN S 0 v) o) d := rfl
theorem ms_1 {c : Nat → z_E} {S : z_S} {o : Nat → Int64} {d : z_H} {v : Nat} : (HP c (mfun S o) d).set 11 (.inr (7, (mO S).set 1 (.int (nI v)))) = HP c (mfun (uN S 1 v) o) d := rfl
theorem ms_2 {c : Nat → z_E} {S : z_S} {o : Nat → Int64} {d : z_H} {v : Nat} : (HP c (mfun S o) d).set 11 (.inr (7, (mO S).set 2 (.int (nI v)))) = HP c (mfun (uN S 2 v) o) d := rfl
theorem ms_3 {c : Nat → z_E} {S : z_S} {o : Nat → Int64} {d : z_H} {v : Int64} : (HP c (mfun S o) d).set 11 (.inr (7, (mO S).set 3 (.long v))) = HP c (mfun (uL S 3 v) o) d := rfl
theorem ms_4 {c : Nat → z_E} {S : z_S} {o : Nat → Int64} {d : z_H} {v : Int64} : (HP c (mfun S o) d).set 11 (.inr (7, (mO S).set 4 (.long v))) = HP c (mfun (uL S 4 v) o) d := rfl
theorem ms_5 {c : Nat → z_E} {S : z_S} {o : Nat → Int64} {d : z_H} {v : Bool} : (HP c (mfun S o) d).set 11 (.inr (7, (mO S).set 5 (.int (z_b v)))) = HP c (mfun (uB S 5 v) o) d := rfl
theorem ms_6 {c : Nat → z_E} {S : z_S} {o : Nat → Int64} {d : z_H} {v : Bool} : (HP c (mfun S o) d).set 11 (.inr (7, (mO S).set 6 (.int (z_b v)))) = HP c (mfun (uB S 6 v) o) d := rfl
theorem ms_7 {c : Nat → z_E} {S : z_S} {o : Nat → Int64} {d : z_H} {v : Nat} : (HP c (mfun S o) d).set 11 (.inr (7, (mO S).set 7 (.int (nI v)))) = HP c (mfun (uN S 7 v) o) d := rfl
theorem ms_8 {c : Nat → z_E} {S : z_S} {o : Nat → Int64} {d : z_H} {v : Nat} : (HP c (mfun S o) d).set 11 (.inr (7, (mO S).set 8 (.int (nI v)))) = HP c (mfun (uN S 8 v) o) d := rfl
theorem mA_9 {c : Nat → z_E} {S : z_S} {o : Nat → Int64} {d : z_H} : (HP c (mfun S o) d)[12]? = some (.inl (0, 40, .inl (sAI S 9))) := rfl
theorem ma_9 {c : Nat → z_E} {S : z_S} {o : Nat → Int64} {d : z_H} {n : Nat} {v : Int32} : (HP c (mfun S o) d).set 12 (.inl (0, 40, .inl (upd (sAI S 9) n v))) = HP c (mfun (uAI S 9 (va_up (sAI S 9) n v)) o) d := rfl
theorem mA_10 {c : Nat → z_E} {S : z_S} {o : Nat → Int64} {d : z_H} : (HP c (mfun S o) d)[13]? = some (.inl (0, 40, .inl (fun k => nI (sAN S 10 k)))) := rfl
theorem ma_10 {c : Nat → z_E} {S : z_S} {o : Nat → Int64} {d : z_H} {n v : Nat} : (HP c (mfun S o) d).set 13 (.inl (0, 40, .inl (upd (fun k => nI (sAN S 10 k)) n (nI v)))) = HP c (mfun (uAN S 10 (va_up (sAN S 10) n v)) o) d := by rw [upd_nI]; rfl
theorem mA_11 {c : Nat → z_E} {S : z_S} {o : Nat → Int64} {d : z_H} : (HP c (mfun S o) d)[14]? = some (.inl (0, 40, .inl (fun k => nI (sAN S 11 k)))) := rfl
theorem ma_11 {c : Nat → z_E} {S : z_S} {o : Nat → Int64} {d : z_H} {n v : Nat} : (HP c (mfun S o) d).set 14 (.inl (0, 40, .inl (upd (fun k => nI (sAN S 11 k)) n (nI v)))) = HP c (mfun (uAN S 11 (va_up (sAN S 11) n v)) o) d := by rw [upd_nI]; rfl
theorem mA_12 {c : Nat → z_E} {S : z_S} {o : Nat → Int64} {d : z_H} : (HP c (mfun S o) d)[15]? = some (.inl (0, 40, .inl (fun k => nI (sAN S 12 k)))) := rfl
theorem ma_12 {c : Nat → z_E} {S : z_S} {o : Nat → Int64} {d : z_H} {n v : Nat} : (HP c (mfun S o) d).set 15 (.inl (0, 40, .inl (upd (fun k => nI (sAN S 12 k)) n (nI v)))) = HP c (mfun (uAN S 12 (va_up (sAN S 12) n v)) o) d := by rw [upd_nI]; rfl
theorem mA_13 {c : Nat → z_E} {S : z_S} {o : Nat → Int64} {d : z_H} : (HP c (mfun S o) d)[16]? = some (.inl (2, 40, .inr (.inl (sAL S 13)))) := rfl
theorem ma_13 {c : Nat → z_E} {S : z_S} {o : Nat → Int64} {d : z_H} {n : Nat} {v : Int64} : (HP c (mfun S o) d).set 16 (.inl (2, 40, .inr (.inl (vp_updL (sAL S 13) n v)))) = HP c (mfun (uAL S 13 (va_up (sAL S 13) n v)) o) d := rfl
theorem mA_14 {c : Nat → z_E} {S : z_S} {o : Nat → Int64} {d : z_H} : (HP c (mfun S o) d)[17]? = some (.inl (3, 40, .inl (fun k => z_b (sAB S 14 k)))) := rfl
theorem ma_14 {c : Nat → z_E} {S : z_S} {o : Nat → Int64} {d : z_H} {n : Nat} {v : Bool} : (HP c (mfun S o) d).set 17 (.inl (3, 40, .inl (upd (fun k => z_b (sAB S 14 k)) n (z_b v &&& 1)))) = HP c (mfun (uAB S 14 (va_up (sAB S 14) n v)) o) d := by rw [upd_b]; rfl
theorem mA_15 {c : Nat → z_E} {S : z_S} {o : Nat → Int64} {d : z_H} : (HP c (mfun S o) d)[18]? = some (.inl (2, 40, .inr (.inl (sAL S 15)))) := rfl
theorem ma_15 {c : Nat → z_E} {S : z_S} {o : Nat → Int64} {d : z_H} {n : Nat} {v : Int64} : (HP c (mfun S o) d).set 18 (.inl (2, 40, .inr (.inl (vp_updL (sAL S 15) n v)))) = HP c (mfun (uAL S 15 (va_up (sAL S 15) n v)) o) d := rfl
theorem mA_16 {c : Nat → z_E} {S : z_S} {o : Nat → Int64} {d : z_H} : (HP c (mfun S o) d)[19]? = some (.inl (3, 40, .inl (fun k => z_b (sAB S 16 k)))) := rfl
theorem ma_16 {c : Nat → z_E} {S : z_S} {o : Nat → Int64} {d : z_H} {n : Nat} {v : Bool} : (HP c (mfun S o) d).set 19 (.inl (3, 40, .inl (upd (fun k => z_b (sAB S 16 k)) n (z_b v &&& 1)))) = HP c (mfun (uAB S 16 (va_up (sAB S 16) n v)) o) d := by rw [upd_b]; rfl
theorem mA_17 {c : Nat → z_E} {S : z_S} {o : Nat → Int64} {d : z_H} : (HP c (mfun S o) d)[20]? = some (.inl (3, 40, .inl (fun k => z_b (sAB S 17 k)))) := rfl
theorem ma_17 {c : Nat → z_E} {S : z_S} {o : Nat → Int64} {d : z_H} {n : Nat} {v : Bool} : (HP c (mfun S o) d).set 20 (.inl (3, 40, .inl (upd (fun k => z_b (sAB S 17 k)) n (z_b v &&& 1)))) = HP c (mfun (uAB S 17 (va_up (sAB S 17) n v)) o) d := by rw [upd_b]; rfl
theorem mA_18 {c : Nat → z_E} {S : z_S} {o : Nat → Int64} {d : z_H} : (HP c (mfun S o) d)[21]? = some (.inl (0, 320, .inl (fun k => nI (sAN S 18 k)))) := rfl
theorem ma_18 {c : Nat → z_E} {S : z_S} {o : Nat → Int64} {d : z_H} {n v : Nat} : (HP c (mfun S o) d).set 21 (.inl (0, 320, .inl (upd (fun k => nI (sAN S 18 k)) n (nI v)))) = HP c (mfun (uAN S 18 (va_up (sAN S 18) n v)) o) d := by rw [upd_nI]; rfl
theorem mA_19 {c : Nat → z_E} {S : z_S} {o : Nat → Int64} {d : z_H} : (HP c (mfun S o) d)[22]? = some (.inl (0, 320, .inl (fun k => nI (sAN S 19 k)))) := rfl
theorem ma_19 {c : Nat → z_E} {S : z_S} {o : Nat → Int64} {d : z_H} {n v : Nat} : (HP c (mfun S o) d).set 22 (.inl (0, 320, .inl (upd (fun k => nI (sAN S 19 k)) n (nI v)))) = HP c (mfun (uAN S 19 (va_up (sAN S 19) n v)) o) d := by rw [upd_nI]; rfl
theorem ms_20 {c : Nat → z_E} {S : z_S} {o : Nat → Int64} {d : z_H} {v : Nat} : (HP c (mfun S o) d).set 11 (.inr (7, (mO S).set 20 (.int (nI v)))) = HP c (mfun (uN S 20 v) o) d := rfl
theorem mA_21 {c : Nat → z_E} {S : z_S} {o : Nat → Int64} {d : z_H} : (HP c (mfun S o) d)[23]? = some (.inl (0, 10, .inl (sAI S 21))) := rfl
theorem ma_21 {c : Nat → z_E} {S : z_S} {o : Nat → Int64} {d : z_H} {n : Nat} {v : Int32} : (HP c (mfun S o) d).set 23 (.inl (0, 10, .inl (upd (sAI S 21) n v))) = HP c (mfun (uAI S 21 (va_up (sAI S 21) n v)) o) d := rfl
theorem mA_22 {c : Nat → z_E} {S : z_S} {o : Nat → Int64} {d : z_H} : (HP c (mfun S o) d)[24]? = some (.inl (0, 10, .inl (fun k => nI (sAN S 22 k)))) := rfl
theorem ma_22 {c : Nat → z_E} {S : z_S} {o : Nat → Int64} {d : z_H} {n v : Nat} : (HP c (mfun S o) d).set 24 (.inl (0, 10, .inl (upd (fun k => nI (sAN S 22 k)) n (nI v)))) = HP c (mfun (uAN S 22 (va_up (sAN S 22) n v)) o) d := by rw [upd_nI]; rfl
theorem mA_23 {c : Nat → z_E} {S : z_S} {o : Nat → Int64} {d : z_H} : (HP c (mfun S o) d)[25]? = some (.inl (3, 10, .inl (fun k => z_b (sAB S 23 k)))) := rfl
theorem ma_23 {c : Nat → z_E} {S : z_S} {o : Nat → Int64} {d : z_H} {n : Nat} {v : Bool} : (HP c (mfun S o) d).set 25 (.inl (3, 10, .inl (upd (fun k => z_b (sAB S 23 k)) n (z_b v &&& 1)))) = HP c (mfun (uAB S 23 (va_up (sAB S 23) n v)) o) d := by rw [upd_b]; rfl
theorem mA_24 {c : Nat → z_E} {S : z_S} {o : Nat → Int64} {d : z_H} : (HP c (mfun S o) d)[26]? = some (.inl (0, 10, .inl (fun k => nI (sAN S 24 k)))) := rfl
theorem ma_24 {c : Nat → z_E} {S : z_S} {o : Nat → Int64} {d : z_H} {n v : Nat} : (HP c (mfun S o) d).set 26 (.inl (0, 10, .inl (upd (fun k => nI (sAN S 24 k)) n (nI v)))) = HP c (mfun (uAN S 24 (va_up (sAN S 24) n v)) o) d := by rw [upd_nI]; rfl
theorem mA_25 {c : Nat → z_E} {S : z_S} {o : Nat → Int64} {d : z_H} : (HP c (mfun S o) d)[27]? = some (.inl (0, 10, .inl (fun k => nI (sAN S 25 k)))) := rfl
theorem ma_25 {c : Nat → z_E} {S : z_S} {o : Nat → Int64} {d : z_H} {n v : Nat} : (HP c (mfun S o) d).set 27 (.inl (0, 10, .inl (upd (fun k => nI (sAN S 25 k)) n (nI v)))) = HP c (mfun (uAN S 25 (va_up (sAN S 25) n v)) o) d := by rw [upd_nI]; rfl
theorem ms_26 {c : Nat → z_E} {S : z_S} {o : Nat → Int64} {d : z_H} {v : Bool} : (HP c (mfun S o) d).set 11 (.inr (7, (mO S).set 26 (.int (z_b v)))) = HP c (mfun (uB S 26 v) o) d := rfl
theorem ms_27 {c : Nat → z_E} {S : z_S} {o : Nat → Int64} {d : z_H} {v : Nat} : (HP c (mfun S o) d).set 11 (.inr (7, (mO S).set 27 (.int (nI v)))) = HP c (mfun (uN S 27 v) o) d := rfl
theorem ms_28 {c : Nat → z_E} {S : z_S} {o : Nat → Int64} {d : z_H} {v : Nat} : (HP c (mfun S o) d).set 11 (.inr (7, (mO S).set 28 (.int (nI v)))) = HP c (mfun (uN S 28 v) o) d := rfl
theorem ms_29 {c : Nat → z_E} {S : z_S} {o : Nat → Int64} {d : z_H} {v : Nat} : (HP c (mfun S o) d).set 11 (.inr (7, (mO S).set 29 (.int (nI v)))) = HP c (mfun (uN S 29 v) o) d := rfl
theorem ms_30 {c : Nat → z_E} {S : z_S} {o : Nat → Int64} {d : z_H} {v : Nat} : (HP c (mfun S o) d).set 11 (.inr (7, (mO S).set 30 (.int (nI v)))) = HP c (mfun (uN S 30 v) o) d := rfl
theorem ms_31 {c : Nat → z_E} {S : z_S} {o : Nat → Int64} {d : z_H} {v : Bool} : (HP c (mfun S o) d).set 11 (.inr (7, (mO S).set 31 (.int (z_b v)))) = HP c (mfun (uB S 31 v) o) d := rfl
theorem ms_32 {c : Nat → z_E} {S : z_S} {o : Nat → Int64} {d : z_H} {v : Nat} : (HP c (mfun S o) d).set 11 (.inr (7, (mO S).set 32 (.int (nI v)))) = HP c (mfun (uN S 32 v) o) d := rfl
theorem ms_33 {c : Nat → z_E} {S : z_S} {o : Nat → Int64} {d : z_H} {v : Bool} : (HP c (mfun S o) d).set 11 (.inr (7, (mO S).set 33 (.int (z_b v)))) = HP c (mfun (uB S 33 v) o) d := rfl
theorem ms_34 {c : Nat → z_E} {S : z_S} {o : Nat → Int64} {d : z_H} {v : Bool} : (HP c (mfun S o) d).set 11 (.inr (7, (mO S).set 34 (.int (z_b v)))) = HP c (mfun (uB S 34 v) o) d := rfl
theorem ms_35 {c : Nat → z_E} {S : z_S} {o : Nat → Int64} {d : z_H} {v : Nat} : (HP c (mfun S o) d).set 11 (.inr (7, (mO S).set 35 (.int (nI v)))) = HP c (mfun (uN S 35 v) o) d := rfl
theorem mA_36 {c : Nat → z_E} {S : z_S} {o : Nat → Int64} {d : z_H} : (HP c (mfun S o) d)[28]? = some (.inl (0, 60, .inl (fun k => nI (sAN S 36 k)))) := rfl
theorem ma_36 {c : Nat → z_E} {S : z_S} {o : Nat → Int64} {d : z_H} {n v : Nat} : (HP c (mfun S o) d).set 28 (.inl (0, 60, .inl (upd (fun k => nI (sAN S 36 k)) n (nI v)))) = HP c (mfun (uAN S 36 (va_up (sAN S 36) n v)) o) d := by rw [upd_nI]; rfl
theorem ms_37 {c : Nat → z_E} {S : z_S} {o : Nat → Int64} {d : z_H} {v : Bool} : (HP c (mfun S o) d).set 11 (.inr (7, (mO S).set 37 (.int (z_b v)))) = HP c (mfun (uB S 37 v) o) d := rfl
theorem ms_38 {c : Nat → z_E} {S : z_S} {o : Nat → Int64} {d : z_H} {v : Nat} : (HP c (mfun S o) d).set 11 (.inr (7, (mO S).set 38 (.int (nI v)))) = HP c (mfun (uN S 38 v) o) d := rfl
theorem mA_39 {c : Nat → z_E} {S : z_S} {o : Nat → Int64} {d : z_H} : (HP c (mfun S o) d)[29]? = some (.inl (0, 60, .inl (fun k => nI (sAN S 39 k)))) := rfl
theorem ma_39 {c : Nat → z_E} {S : z_S} {o : Nat → Int64} {d : z_H} {n v : Nat} : (HP c (mfun S o) d).set 29 (.inl (0, 60, .inl (upd (fun k => nI (sAN S 39 k)) n (nI v)))) = HP c (mfun (uAN S 39 (va_up (sAN S 39) n v)) o) d := by rw [upd_nI]; rfl
theorem ms_40 {c : Nat → z_E} {S : z_S} {o : Nat → Int64} {d : z_H} {v : Nat} : (HP c (mfun S o) d).set 11 (.inr (7, (mO S).set 40 (.int (nI v)))) = HP c (mfun (uN S 40 v) o) d := rfl
theorem mA_41 {c : Nat → z_E} {S : z_S} {o : Nat → Int64} {d : z_H} : (HP c (mfun S o) d)[30]? = some (.inl (0, 1000, .inl (fun k => nI (sAN S 41 k)))) := rfl
theorem ma_41 {c : Nat → z_E} {S : z_S} {o : Nat → Int64} {d : z_H} {n v : Nat} : (HP c (mfun S o) d).set 30 (.inl (0, 1000, .inl (upd (fun k => nI (sAN S 41 k)) n (nI v)))) = HP c (mfun (uAN S 41 (va_up (sAN S 41) n v)) o) d := by rw [upd_nI]; rfl
theorem ms_42 {c : Nat → z_E} {S : z_S} {o : Nat → Int64} {d : z_H} {v : Int32} : (HP c (mfun S o) d).set 11 (.inr (7, (mO S).set 42 (.int v))) = HP c (mfun (uF S v) o) d := rfl
set_option maxRecDepth 100000 in
set_option maxHeartbeats 1000000 in
theorem c_X6_isIn {h : z_H} (x a b : Int64) : z_K yX6_isIn cX6_isIn 6 (some .boolean) 0 0 0 [.long x, .long a, .long b] h (fun v h' => v = some (.int (z_b (inZ x.toInt a.toInt b.toInt))) ∧ h' = h) := by
  refine z_met vI_X6_isIn (Nat.le_of_ble_eq_true rfl) (fun G X F hr hnm => ?_)
  refine z_lload_n F dX6_isIn_0 rfl ?_
  refine z_lload_n F dX6_isIn_1 rfl ?_
  refine z_lcmp F dX6_isIn_2 ?_
  refine z_if_lt (tgt := 17) F dX6_isIn_3 (by decide) (fun c3 => ?_) (fun c3 => ?_)
  · have hz : inZ x.toInt a.toInt b.toInt = false := by unfold inZ; rw [decide_eq_false (by have := Int64.lt_iff_toInt_lt.mp ((lg_cmp_lt _ _).mp c3); omega)]; rfl
    refine z_iconst (v := 0) F dX6_isIn_17 rfl ?_
    exact z_iret F hr dX6_isIn_18 rfl (Nat.le_of_ble_eq_true rfl) (Nat.le_of_ble_eq_true rfl) (⟨by rw [hz]; rfl, rfl⟩)
  · refine z_lload_n F dX6_isIn_6 rfl ?_
    refine z_lload F dX6_isIn_7 rfl ?_
    refine z_lcmp F dX6_isIn_9 ?_
    refine z_if_gt (tgt := 17) F dX6_isIn_10 (by decide) (fun c10 => ?_) (fun c10 => ?_)
    · have hz : inZ x.toInt a.toInt b.toInt = false := by unfold inZ; rw [decide_eq_false (p := x.toInt ≤ b.toInt) (by have := Int64.lt_iff_toInt_lt.mp ((lg_cmp_gt _ _).mp c10); omega)]; simp
      refine z_iconst (v := 0) F dX6_isIn_17 rfl ?_
      exact z_iret F hr dX6_isIn_18 rfl (Nat.le_of_ble_eq_true rfl) (Nat.le_of_ble_eq_true rfl) (⟨by rw [hz]; rfl, rfl⟩)
    · have h3 : ¬ x.toInt < a.toInt := fun q => c3 ((lg_cmp_lt _ _).mpr (Int64.lt_iff_toInt_lt.mpr q))
      have h9 : ¬ b.toInt < x.toInt := fun q => c10 ((lg_cmp_gt _ _).mpr (Int64.lt_iff_toInt_lt.mpr q))
      have hz : inZ x.toInt a.toInt b.toInt = true := by unfold inZ; rw [decide_eq_true (by omega), decide_eq_true (by omega)]; rfl
      refine z_iconst (v := 1) F dX6_isIn_13 rfl ?_
      refine z_goto (tgt := 18) F dX6_isIn_14 (by decide) ?_
      exact z_iret F hr dX6_isIn_18 rfl (Nat.le_of_ble_eq_true rfl) (Nat.le_of_ble_eq_true rfl) (⟨by rw [hz]; rfl, rfl⟩)

set_option maxRecDepth 100000 in
set_option maxHeartbeats 1000000 in
theorem c_X5_isWithin {h : z_H} (x a b : Int32) : z_K yX5_isWithin cX5_isWithin 3 (some .boolean) 0 0 0 [.int x, .int a, .int b] h (fun v h' => v = some (.int (z_b (inZ x.toInt a.toInt b.toInt))) ∧ h' = h) := by
  refine z_met vI_X5_isWithin (Nat.le_of_ble_eq_true rfl) (fun G X F hr hnm => ?_)
  refine z_iload_n F dX5_isWithin_0 rfl ?_
  refine z_iload_n F dX5_isWithin_1 rfl ?_
  refine z_icmp_lt (tgt := 14) F dX5_isWithin_2 (by decide) (fun c2 => ?_) (fun c2 => ?_)
  · have hz : inZ x.toInt a.toInt b.toInt = false := by unfold inZ; rw [decide_eq_false (by have := Int32.lt_iff_toInt_lt.mp c2; omega)]; rfl
    refine z_iconst (v := 0) F dX5_isWithin_14 rfl ?_
    exact z_iret F hr dX5_isWithin_15 rfl (Nat.le_of_ble_eq_true rfl) (Nat.le_of_ble_eq_true rfl) (⟨by rw [hz]; rfl, rfl⟩)
  · refine z_iload_n F dX5_isWithin_5 rfl ?_
    refine z_iload_n F dX5_isWithin_6 rfl ?_
    refine z_icmp_gt (tgt := 14) F dX5_isWithin_7 (by decide) (fun c7 => ?_) (fun c7 => ?_)
    · have hz : inZ x.toInt a.toInt b.toInt = false := by unfold inZ; rw [decide_eq_false (p := x.toInt ≤ b.toInt) (by have := Int32.lt_iff_toInt_lt.mp c7; omega)]; simp
      refine z_iconst (v := 0) F dX5_isWithin_14 rfl ?_
      exact z_iret F hr dX5_isWithin_15 rfl (Nat.le_of_ble_eq_true rfl) (Nat.le_of_ble_eq_true rfl) (⟨by rw [hz]; rfl, rfl⟩)
    · have h3 : ¬ x.toInt < a.toInt := fun q => c2 (Int32.lt_iff_toInt_lt.mpr q)
      have h9 : ¬ b.toInt < x.toInt := fun q => c7 (Int32.lt_iff_toInt_lt.mpr q)
      have hz : inZ x.toInt a.toInt b.toInt = true := by unfold inZ; rw [decide_eq_true (by omega), decide_eq_true (by omega)]; rfl
      refine z_iconst (v := 1) F dX5_isWithin_10 rfl ?_
      refine z_goto (tgt := 15) F dX5_isWithin_11 (by decide) ?_
      exact z_iret F hr dX5_isWithin_15 rfl (Nat.le_of_ble_eq_true rfl) (Nat.le_of_ble_eq_true rfl) (⟨by rw [hz]; rfl, rfl⟩)

set_option maxRecDepth 100000 in
set_option maxHeartbeats 1000000 in
theorem c_X6_thrown {c : Nat → z_E} {S : z_S} {o : Nat → Int64} {d : z_H} : z_K yX6_thrown cX6_thrown 1 (some .int) 0 0 0 [.ref 11] (HP c (mfun S o) d) (fun v h' => v = some (.int (nI (sN S 0))) ∧ h' = (HP c (mfun S o) d)) := by
  refine z_met vI_X6_thrown (Nat.le_of_ble_eq_true rfl) (fun G X F hr hnm => ?_)
  refine z_aload_n F dX6_thrown_0 rfl rfl ?_
  refine z_getf F vF_X6_83 dX6_thrown_1 mO_at rfl ?_
  exact z_iret F hr dX6_thrown_4 rfl (Nat.le_of_ble_eq_true rfl) (Nat.le_of_ble_eq_true rfl) (⟨rfl, rfl⟩)

set_option maxRecDepth 100000 in
set_option maxHeartbeats 1000000 in
theorem c_X6_code {c : Nat → z_E} {S : z_S} {o : Nat → Int64} {d : z_H} : z_K yX6_code cX6_code 1 (some .int) 0 0 0 [.ref 11] (HP c (mfun S o) d) (fun v h' => v = some (.int (sF S)) ∧ h' = HP c (mfun (uN S 0 0) o) d) := by
  refine z_met vI_X6_code (Nat.le_of_ble_eq_true rfl) (fun G X F hr hnm => ?_)
  refine z_aload_n F dX6_code_0 rfl rfl ?_
  refine z_iconst (v := 0) F dX6_code_1 rfl ?_
  refine z_putf F vF_X6_83 vT_X6 vD_X6_0 dX6_code_2 mO_at (Nat.le_of_ble_eq_true rfl) rfl rfl (fun g2 => ?_)
  refine z_heap _ (ms_0 (v := 0)) ?_
  refine z_aload_n F dX6_code_5 rfl rfl ?_
  refine z_getf F vF_X6_80 dX6_code_6 mO_at rfl ?_
  exact z_iret F hr dX6_code_9 rfl (Nat.le_of_ble_eq_true rfl) (Nat.le_of_ble_eq_true rfl) (⟨rfl, rfl⟩)
