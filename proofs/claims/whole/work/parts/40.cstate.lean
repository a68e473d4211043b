/-! THE CLASS'S CELLS: what they hold beside the state: the question's octets and due, the other question, the answer's octets, the transfer's numbers, where identifiers and routines lie, what is held, the parts -/
abbrev z_Xc : Type := (Nat → Int32) × (Nat × Bool × Int64) × (Bool × Nat × Nat × Bool × (Nat → Int32)) × (Nat → Int32) × (Nat × Nat × Nat) × (Nat → Nat) × (Nat → Nat) × (Nat → Nat) × (Nat → Nat) × (Nat → Int64) × (Nat → Nat → Option Nat) × (Nat → Nat → Int32)
def xf (x : z_Xc) : Nat → Int32 := x.1
def xd (x : z_Xc) : Nat := x.2.1.1
def xb (x : z_Xc) : Bool := x.2.1.2.1
def xl (x : z_Xc) : Int64 := x.2.1.2.2
def xq (x : z_Xc) : Bool × Nat × Nat × Bool × (Nat → Int32) := x.2.2.1
def xa (x : z_Xc) : Nat → Int32 := x.2.2.2.1
def xt (x : z_Xc) : Nat × Nat × Nat := x.2.2.2.2.1
def xi (x : z_Xc) : Nat → Nat := x.2.2.2.2.2.1
def xs (x : z_Xc) : Nat → Nat := x.2.2.2.2.2.2.1
def xp (x : z_Xc) : Nat → Nat := x.2.2.2.2.2.2.2.1
def xr (x : z_Xc) : Nat → Nat := x.2.2.2.2.2.2.2.2.1
def xh (x : z_Xc) : Nat → Int64 := x.2.2.2.2.2.2.2.2.2.1
def xsf (x : z_Xc) : Nat → Nat → Option Nat := x.2.2.2.2.2.2.2.2.2.2.1
def xpf (x : z_Xc) : Nat → Nat → Int32 := x.2.2.2.2.2.2.2.2.2.2.2
def wf (x : z_Xc) (f : Nat → Int32) : z_Xc := (f, x.2)
def wd (x : z_Xc) (n : Nat) : z_Xc := (x.1, (n, x.2.1.2), x.2.2)
def wb (x : z_Xc) (b : Bool) : z_Xc := (x.1, (x.2.1.1, b, x.2.1.2.2), x.2.2)
def wl (x : z_Xc) (v : Int64) : z_Xc := (x.1, (x.2.1.1, x.2.1.2.1, v), x.2.2)
def wq (x : z_Xc) (q : Bool × Nat × Nat × Bool × (Nat → Int32)) : z_Xc := (x.1, x.2.1, q, x.2.2.2)
def wa (x : z_Xc) (f : Nat → Int32) : z_Xc := (x.1, x.2.1, x.2.2.1, f, x.2.2.2.2)
def wt (x : z_Xc) (t : Nat × Nat × Nat) : z_Xc := (x.1, x.2.1, x.2.2.1, x.2.2.2.1, t, x.2.2.2.2.2)
def wi (x : z_Xc) (f : Nat → Nat) : z_Xc := (x.1, x.2.1, x.2.2.1, x.2.2.2.1, x.2.2.2.2.1, f, x.2.2.2.2.2.2)
def wr (x : z_Xc) (f : Nat → Nat) : z_Xc := (x.1, x.2.1, x.2.2.1, x.2.2.2.1, x.2.2.2.2.1, x.2.2.2.2.2.1, x.2.2.2.2.2.2.1, x.2.2.2.2.2.2.2.1, f, x.2.2.2.2.2.2.2.2.2)
def wh (x : z_Xc) (f : Nat → Int64) : z_Xc := (x.1, x.2.1, x.2.2.1, x.2.2.2.1, x.2.2.2.2.1, x.2.2.2.2.2.1, x.2.2.2.2.2.2.1, x.2.2.2.2.2.2.2.1, x.2.2.2.2.2.2.2.2.1, f, x.2.2.2.2.2.2.2.2.2.2)
def cO (S : z_S) (x : z_Xc) : List Value := [.ref 2, .int (nI (sN S 8)), .ref 3, .int (nI (sN S 20)), .int (z_b (sB S 5)), .int (z_b (sB S 6)), .int (nI (sN S 1)), .int (nI (sN S 2)), .int (nI (sN S 7)), .long (sL S 3), .long (xl x), .int (sF S), .ref 4, .ref 6, .ref 8, .ref 10]
def rfs (f : Nat → Nat) (n k : Nat) : Option Nat := if k < n then some (f k + 32) else none
def cfun (S : z_S) (x : z_Xc) (k : Nat) : z_E := match k with
  | 0 => .inr (8, [])
  | 1 => .inr (6, cO S x)
  | 2 => .inl (4, 40, .inr (.inr (.inr (.inr (rfs (xi x) (sN S 8))))))
  | 3 => .inl (5, 10, .inr (.inr (.inr (.inr (rfs (xr x) (sN S 20))))))
  | 4 => Q_o 5 (xb x) (xd x) (sN S 35) (sB S 34)
  | 5 => .inl (1, 60, .inl (xf x))
  | 6 => Q_o 7 (xq x).1 (xq x).2.1 (xq x).2.2.1 (xq x).2.2.2.1
  | 7 => .inl (1, 60, .inl (xq x).2.2.2.2)
  | 8 => .inr (1, [.ref 9, .int (nI (sN S 40))])
  | 9 => .inl (1, 41, .inl (xa x))
  | _ => T_o (sB S 26) (xt x).1 (xt x).2.1 (xt x).2.2
/-- the cells of identifiers and routines -/
def IO (S : z_S) (x : z_Xc) (k : Nat) : z_E := I_o (sAI S 9 k) (sAN S 11 k) (sAN S 12 k) (sAB S 17 k) (sAN S 10 k) (!sAB S 16 k) (sAL S 13 k) (sAB S 14 k) (xh x k) (xs x k + 32) (xp x k + 32)
def RO (S : z_S) (k : Nat) : z_E := R_o (sAI S 21 k) (sAN S 22 k) (sAB S 23 k) (sAN S 24 k) (sAN S 25 k)
def DI (S : z_S) (x : z_Xc) (d : z_H) : Prop := (∀ k, k < sN S 8 → d[xi x k]? = some (IO S x k)) ∧ (∀ k, k < sN S 8 → sAB S 14 k = true → xh x k = sAL S 15 k)
def DT (S : z_S) (x : z_Xc) (d : z_H) : Prop := ∀ k, k < sN S 8 → sAB S 17 k = true → d[xs x k]? = some (.inl (4, 8, .inr (.inr (.inr (.inr (xsf x k)))))) ∧ d[xp x k]? = some (.inl (0, 8, .inl (xpf x k))) ∧ ∀ p, p < sAN S 10 k → xsf x k p = some (xi x (sAN S 18 (8 * k + p)) + 32) ∧ xpf x k p = nI (sAN S 19 (8 * k + p))
def DR (S : z_S) (x : z_Xc) (d : z_H) : Prop := ∀ k, k < sN S 20 → d[xr x k]? = some (RO S k)
def DJ (S : z_S) (x : z_Xc) : Prop := (∀ j k, j < sN S 8 → k < sN S 8 → xi x j = xi x k → j = k) ∧ (∀ j k, j < sN S 8 → k < sN S 8 → sAB S 17 j = true → sAB S 17 k = true → xs x j = xs x k → j = k) ∧ (∀ j k, j < sN S 8 → k < sN S 8 → sAB S 17 j = true → sAB S 17 k = true → xp x j = xp x k → j = k) ∧ ∀ j k, j < sN S 20 → k < sN S 20 → xr x j = xr x k → j = k
def QR (S : z_S) (x : z_Xc) : Prop := (sB S 33 = true → xd x = sN S 35 + sN S 32) ∧ (∀ j, j < sN S 35 → (xf x j).toBitVec.toNat % 256 = sAN S 36 j)
def AR (S : z_S) (x : z_Xc) : Prop := sN S 40 ≤ 41 ∧ ∀ j, j < sN S 40 → xa x j = (nI (sAN S 41 j)).toInt8.toInt32
def TR (S : z_S) (x : z_Xc) : Prop := (sB S 26 = true → (xt x).1 + sN S 28 = sN S 27 ∧ (xt x).2.1 = sN S 29 ∧ (sB S 31 = true ↔ 0 < (xt x).2.2) ∧ (sB S 31 = true → (xt x).2.2 % 256 = sN S 30) ∧ (xt x).2.2 ≤ sN S 28) ∧ (sB S 26 = false → (xt x).1 = 0) ∧ (xt x).1 ≤ 200 ∧ (xt x).2.1 < 65536 ∧ (xt x).2.2 ≤ 200
def KX (x x' : z_Xc) : Prop := xf x' = xf x ∧ x'.2.1 = x.2.1 ∧ xq x' = xq x
/-- THE CLASS HOLDS THE STATE -/
def CR (S : z_S) (x : z_Xc) (d : z_H) : Prop := DI S x d ∧ DT S x d ∧ DR S x d ∧ DJ S x ∧ QR S x ∧ AR S x ∧ TR S x

theorem cO_at {S : z_S} {x : z_Xc} {m : Nat → z_E} {d : z_H} : (HP (cfun S x) m d)[1]? = some (.inr (6, cO S x)) := rfl
theorem cs_4 {S : z_S} {x : z_Xc} {m : Nat → z_E} {d : z_H} {v : Bool} : (HP (cfun S x) m d).set 1 (.inr (6, (cO S x).set 4 (.int (z_b v)))) = HP (cfun (uB S 5 v) x) m d := rfl
theorem cs_5 {S : z_S} {x : z_Xc} {m : Nat → z_E} {d : z_H} {v : Bool} : (HP (cfun S x) m d).set 1 (.inr (6, (cO S x).set 5 (.int (z_b v)))) = HP (cfun (uB S 6 v) x) m d := rfl
theorem cs_6 {S : z_S} {x : z_Xc} {m : Nat → z_E} {d : z_H} {v : Nat} : (HP (cfun S x) m d).set 1 (.inr (6, (cO S x).set 6 (.int (nI v)))) = HP (cfun (uN S 1 v) x) m d := rfl
theorem cs_7 {S : z_S} {x : z_Xc} {m : Nat → z_E} {d : z_H} {v : Nat} : (HP (cfun S x) m d).set 1 (.inr (6, (cO S x).set 7 (.int (nI v)))) = HP (cfun (uN S 2 v) x) m d := rfl
theorem cs_8 {S : z_S} {x : z_Xc} {m : Nat → z_E} {d : z_H} {v : Nat} : (HP (cfun S x) m d).set 1 (.inr (6, (cO S x).set 8 (.int (nI v)))) = HP (cfun (uN S 7 v) x) m d := rfl
theorem cs_9 {S : z_S} {x : z_Xc} {m : Nat → z_E} {d : z_H} {v : Int64} : (HP (cfun S x) m d).set 1 (.inr (6, (cO S x).set 9 (.long v))) = HP (cfun (uL S 3 v) x) m d := rfl
theorem cs_10 {S : z_S} {x : z_Xc} {m : Nat → z_E} {d : z_H} {v : Int64} : (HP (cfun S x) m d).set 1 (.inr (6, (cO S x).set 10 (.long v))) = HP (cfun (S) (wl x v)) m d := rfl
theorem cs_11 {S : z_S} {x : z_Xc} {m : Nat → z_E} {d : z_H} {v : Int32} : (HP (cfun S x) m d).set 1 (.inr (6, (cO S x).set 11 (.int v))) = HP (cfun (uF S v) x) m d := rfl
theorem cA_0 {S : z_S} {x : z_Xc} {m : Nat → z_E} {d : z_H} : (HP (cfun S x) m d)[2]? = some (.inl (4, 40, .inr (.inr (.inr (.inr (rfs (xi x) (sN S 8))))))) := rfl
theorem cA_2 {S : z_S} {x : z_Xc} {m : Nat → z_E} {d : z_H} : (HP (cfun S x) m d)[3]? = some (.inl (5, 10, .inr (.inr (.inr (.inr (rfs (xr x) (sN S 20))))))) := rfl
theorem cQ1 {S : z_S} {x : z_Xc} {m : Nat → z_E} {d : z_H} : Q_at (HP (cfun S x) m d) 4 5 (xb x) (xd x) (sN S 35) (sB S 34) (xf x) := ⟨rfl, rfl, by decide⟩
theorem cQ2 {S : z_S} {x : z_Xc} {m : Nat → z_E} {d : z_H} : Q_at (HP (cfun S x) m d) 6 7 (xq x).1 (xq x).2.1 (xq x).2.2.1 (xq x).2.2.2.1 (xq x).2.2.2.2 := ⟨rfl, rfl, by decide⟩
theorem cAn {S : z_S} {x : z_Xc} {m : Nat → z_E} {d : z_H} : A_at (HP (cfun S x) m d) 8 9 (sN S 40) (xa x) := ⟨rfl, rfl, by decide⟩
theorem cTr {S : z_S} {x : z_Xc} {m : Nat → z_E} {d : z_H} : (HP (cfun S x) m d)[10]? = some (T_o (sB S 26) (xt x).1 (xt x).2.1 (xt x).2.2) := rfl
theorem sAn {S : z_S} {x : z_Xc} {m : Nat → z_E} {d : z_H} {n : Nat} {f : Nat → Int32} : A_set (HP (cfun S x) m d) 8 9 n f = HP (cfun (uN S 40 n) (wa x f)) m d := rfl
theorem sTr {S : z_S} {x : z_Xc} {m : Nat → z_E} {d : z_H} {op : Bool} {a b e : Nat} : (HP (cfun S x) m d).set 10 (T_o op a b e) = HP (cfun (uB S 26 op) (wt x (a, b, e))) m d := rfl
theorem sQ1 {S : z_S} {x : z_Xc} {m : Nat → z_E} {d : z_H} {bg al : Bool} {due n : Nat} {f : Nat → Int32} : Q_set (HP (cfun S x) m d) 4 5 bg due n al f = HP (cfun (uB (uN S 35 n) 34 al) (wf (wb (wd x due) bg) f)) m d := rfl
theorem sQ2 {S : z_S} {x : z_Xc} {m : Nat → z_E} {d : z_H} {bg al : Bool} {due n : Nat} {f : Nat → Int32} : Q_set (HP (cfun S x) m d) 6 7 bg due n al f = HP (cfun S (wq x (bg, due, n, al, f))) m d := rfl
theorem HPd {c m : Nat → z_E} {d : z_H} {j : Nat} {e : z_E} (h : d[j]? = some e) : (HP c m d)[j + 32]? = some e := h
theorem HPs {c m : Nat → z_E} {d : z_H} {j : Nat} {e : z_E} : (HP c m d).set (j + 32) e = HP c m (d.set j e) := rfl
theorem HPa {c m : Nat → z_E} {d : z_H} {e : z_E} : HP c m d ++ [e] = HP c m (d ++ [e]) := rfl
theorem rfs_in {f : Nat → Nat} {n k : Nat} (h : k < n) : rfs f n k = some (f k + 32) := if_pos h
theorem rfs_out {f : Nat → Nat} {n k : Nat} (h : ¬ k < n) : rfs f n k = none := if_neg h
theorem c_within {h : z_H} (y a b : Int32) {A B : Int} (ha : a.toInt = A) (hb : b.toInt = B) : z_K yX5_isWithin cX5_isWithin 3 (some .boolean) 0 0 0 [.int y, .int a, .int b] h (fun v h' => v = some (.int (z_b (inZ y.toInt A B))) ∧ h' = h) := by
  have := c_X5_isWithin (h := h) y a b
  rw [ha, hb] at this
  exact this
/-- a reference to identifier r, or null -/
def rI (x : z_Xc) (r : Option Nat) : Value := match r with
  | none => .null
  | some k => .ref (xi x k + 32)
def rR (x : z_Xc) (r : Option Nat) : Value := match r with
  | none => .null
  | some k => .ref (xr x k + 32)

set_option maxRecDepth 100000 in
set_option maxHeartbeats 1000000 in
theorem l_X5_findIdentifier {S : z_S} {x : z_Xc} {m : Nat → z_E} {d : z_H} {y : Int32} (C : DI S x d) (hn : sN S 8 ≤ 40) {G : z_G} {X : z_X} (F : z_F vwCl z_ats z_nw wsL_law G RX5 cX5_findIdentifier 4 (z_rm 0 0 0) X) (hr : X.2.2.2.2.2.2.2.2.1.sig.returnType = some (.object RX1)) :
    ∀ (m' i : Nat), (i + m' = 40 ∧ ∀ j, j < i → j < sN S 8 → ¬ sAI S 9 j = y) → z_V vwCl G 4 X (z_end vwCl z_ats z_nw G X 0 0 (fun v h' => v = some (rI x (fnd (sAI S 9) y (sN S 8))) ∧ h' = (HP (cfun S x) m d))) 0 0 2 [(0, .ref 1), (1, .int y), (2, .int (nI i))] [] (HP (cfun S x) m d) := by
  intro m'
  induction m' with
  | zero =>
    intro i hi
    obtain ⟨hi, hm⟩ := hi
    have hz : fnd (sAI S 9) y (sN S 8) = none := fnd_none.mpr (fun j hj => hm j (by omega) hj)
    refine z_iload_n F dX5_findIdentifier_2 rfl ?_
    refine z_aload_n F dX5_findIdentifier_3 rfl rfl ?_
    refine z_getf F vF_X5_11 dX5_findIdentifier_4 cO_at rfl ?_
    refine z_alen (v := nI 40) F dX5_findIdentifier_7 cA_0 rfl rfl ?_
    refine z_icmp_ge (tgt := 38) F dX5_findIdentifier_8 (by decide) (fun c8 => ?_) (fun c8 => absurd (nI_le (a := 40) (b := i) (by omega) (by omega)) c8)
    refine z_null F dX5_findIdentifier_38 ?_
    exact z_aret F hr rfl dX5_findIdentifier_39 (Nat.le_of_ble_eq_true rfl) (Nat.le_of_ble_eq_true rfl) (⟨by rw [hz]; rfl, rfl⟩)
  | succ m' ih =>
    intro i hi
    obtain ⟨hi, hm⟩ := hi
    refine z_iload_n F dX5_findIdentifier_2 rfl ?_
    refine z_aload_n F dX5_findIdentifier_3 rfl rfl ?_
    refine z_getf F vF_X5_11 dX5_findIdentifier_4 cO_at rfl ?_
    refine z_alen (v := nI 40) F dX5_findIdentifier_7 cA_0 rfl rfl ?_
    refine z_icmp_ge (tgt := 38) F dX5_findIdentifier_8 (by decide) (fun c8 => absurd c8 (nI_ge (a := i) (b := 40) (by omega) (by decide))) (fun c8 => ?_)
    refine z_aload_n F dX5_findIdentifier_11 rfl rfl ?_
    refine z_getf F vF_X5_11 dX5_findIdentifier_12 cO_at rfl ?_
    refine z_iload_n F dX5_findIdentifier_15 rfl ?_
    refine z_aald (j := i) F dX5_findIdentifier_16 cA_0 rfl rfl (show i < 40 by omega) (Nat.le_of_ble_eq_true rfl) ?_
    by_cases hin : i < sN S 8
    · rw [rfs_in hin]
      have hc := HPd (c := cfun S x) (m := m) (C.1 i hin)
      refine z_astore_n F dX5_findIdentifier_17 rfl (Nat.le_of_ble_eq_true rfl) ?_
      refine z_aload_n F dX5_findIdentifier_18 rfl rfl ?_
      refine z_ifnull (tgt := 32) F dX5_findIdentifier_19 (by decide) rfl (fun c19 => absurd c19 (by intro q; cases q)) (fun c19 => ?_)
      refine z_aload_n F dX5_findIdentifier_22 rfl rfl ?_
      refine z_getf F vF_X5_166 dX5_findIdentifier_23 hc rfl ?_
      refine z_iload_n F dX5_findIdentifier_26 rfl ?_
      refine z_icmp_ne (tgt := 32) F dX5_findIdentifier_27 (by decide) (fun c27 => ?_) (fun c27 => ?_)
      · refine z_iinc (w := 1) F dX5_findIdentifier_32 rfl rfl (Nat.le_of_ble_eq_true rfl) ?_
        rw [nI_1]
        refine z_goto (tgt := 2) F dX5_findIdentifier_35 (by decide) ?_
        refine z_pick [0, 1, 2] rfl ?_
        refine ih (i + 1) ⟨by omega, fun j hj hj2 => ?_⟩
        by_cases hji : j = i
        · rw [hji]; exact c27
        · exact hm j (by omega) hj2
      · have hz : fnd (sAI S 9) y (sN S 8) = some i := fnd_at c27 (fun j hj => hm j hj (by omega)) hin
        refine z_aload_n F dX5_findIdentifier_30 rfl rfl ?_
        exact z_aret F hr rfl dX5_findIdentifier_31 (Nat.le_of_ble_eq_true rfl) (Nat.le_of_ble_eq_true rfl) (⟨by rw [hz]; rfl, rfl⟩)
    · rw [rfs_out hin]
      refine z_astore_n F dX5_findIdentifier_17 rfl (Nat.le_of_ble_eq_true rfl) ?_
      refine z_aload_n F dX5_findIdentifier_18 rfl rfl ?_
      refine z_ifnull (tgt := 32) F dX5_findIdentifier_19 (by decide) rfl (fun c19 => ?_) (fun c19 => absurd rfl c19)
      refine z_iinc (w := 1) F dX5_findIdentifier_32 rfl rfl (Nat.le_of_ble_eq_true rfl) ?_
      rw [nI_1]
      refine z_goto (tgt := 2) F dX5_findIdentifier_35 (by decide) ?_
      refine z_pick [0, 1, 2] rfl ?_
      exact ih (i + 1) ⟨by omega, fun j hj hj2 => hm j (by omega) hj2⟩

set_option maxRecDepth 100000 in
set_option maxHeartbeats 1000000 in
theorem c_X5_findIdentifier {S : z_S} {x : z_Xc} {m : Nat → z_E} {d : z_H} {y : Int32} (C : DI S x d) (hn : sN S 8 ≤ 40) : z_K yX5_findIdentifier cX5_findIdentifier 4 (some (.object "ServiceRows2$Identifier")) 0 0 0 [.ref 1, .int y] (HP (cfun S x) m d) (fun v h' => v = some (rI x (fnd (sAI S 9) y (sN S 8))) ∧ h' = (HP (cfun S x) m d)) := by
  refine z_met vI_X5_findIdentifier (Nat.le_of_ble_eq_true rfl) (fun G X F hr hnm => ?_)
  refine z_iconst (v := 0) F dX5_findIdentifier_0 rfl ?_
  refine z_istore_n F dX5_findIdentifier_1 (Nat.le_of_ble_eq_true rfl) ?_
  exact l_X5_findIdentifier C hn F hr 40 0 ⟨by omega, fun j hj => absurd hj (Nat.not_lt_zero j)⟩

set_option maxRecDepth 100000 in
set_option maxHeartbeats 1000000 in
theorem l_X5_findRoutine {S : z_S} {x : z_Xc} {m : Nat → z_E} {d : z_H} {y : Int32} (C : DR S x d) (hn : sN S 20 ≤ 10) {G : z_G} {X : z_X} (F : z_F vwCl z_ats z_nw wsL_law G RX5 cX5_findRoutine 4 (z_rm 0 0 0) X) (hr : X.2.2.2.2.2.2.2.2.1.sig.returnType = some (.object RX3)) :
    ∀ (m' i : Nat), (i + m' = 10 ∧ ∀ j, j < i → j < sN S 20 → ¬ sAI S 21 j = y) → z_V vwCl G 4 X (z_end vwCl z_ats z_nw G X 0 0 (fun v h' => v = some (rR x (fnd (sAI S 21) y (sN S 20))) ∧ h' = (HP (cfun S x) m d))) 0 0 2 [(0, .ref 1), (1, .int y), (2, .int (nI i))] [] (HP (cfun S x) m d) := by
  intro m'
  induction m' with
  | zero =>
    intro i hi
    obtain ⟨hi, hm⟩ := hi
    have hz : fnd (sAI S 21) y (sN S 20) = none := fnd_none.mpr (fun j hj => hm j (by omega) hj)
    refine z_iload_n F dX5_findRoutine_2 rfl ?_
    refine z_aload_n F dX5_findRoutine_3 rfl rfl ?_
    refine z_getf F vF_X5_21 dX5_findRoutine_4 cO_at rfl ?_
    refine z_alen (v := nI 10) F dX5_findRoutine_7 cA_2 rfl rfl ?_
    refine z_icmp_ge (tgt := 38) F dX5_findRoutine_8 (by decide) (fun c8 => ?_) (fun c8 => absurd (nI_le (a := 10) (b := i) (by omega) (by omega)) c8)
    refine z_null F dX5_findRoutine_38 ?_
    exact z_aret F hr rfl dX5_findRoutine_39 (Nat.le_of_ble_eq_true rfl) (Nat.le_of_ble_eq_true rfl) (⟨by rw [hz]; rfl, rfl⟩)
  | succ m' ih =>
    intro i hi
    obtain ⟨hi, hm⟩ := hi
    refine z_iload_n F dX5_findRoutine_2 rfl ?_
    refine z_aload_n F dX5_findRoutine_3 rfl rfl ?_
    refine z_getf F vF_X5_21 dX5_findRoutine_4 cO_at rfl ?_
    refine z_alen (v := nI 10) F dX5_findRoutine_7 cA_2 rfl rfl ?_
    refine z_icmp_ge (tgt := 38) F dX5_findRoutine_8 (by decide) (fun c8 => absurd c8 (nI_ge (a := i) (b := 10) (by omega) (by decide))) (fun c8 => ?_)
    refine z_aload_n F dX5_findRoutine_11 rfl rfl ?_
    refine z_getf F vF_X5_21 dX5_findRoutine_12 cO_at rfl ?_
    refine z_iload_n F dX5_findRoutine_15 rfl ?_
    refine z_aald (j := i) F dX5_findRoutine_16 cA_2 rfl rfl (show i < 10 by omega) (Nat.le_of_ble_eq_true rfl) ?_
    by_cases hin : i < sN S 20
    · rw [rfs_in hin]
      have hc := HPd (c := cfun S x) (m := m) (C i hin)
      refine z_astore_n F dX5_findRoutine_17 rfl (Nat.le_of_ble_eq_true rfl) ?_
      refine z_aload_n F dX5_findRoutine_18 rfl rfl ?_
      refine z_ifnull (tgt := 32) F dX5_findRoutine_19 (by decide) rfl (fun c19 => absurd c19 (by intro q; cases q)) (fun c19 => ?_)
      refine z_aload_n F dX5_findRoutine_22 rfl rfl ?_
      refine z_getf F vF_X5_169 dX5_findRoutine_23 hc rfl ?_
      refine z_iload_n F dX5_findRoutine_26 rfl ?_
      refine z_icmp_ne (tgt := 32) F dX5_findRoutine_27 (by decide) (fun c27 => ?_) (fun c27 => ?_)
      · refine z_iinc (w := 1) F dX5_findRoutine_32 rfl rfl (Nat.le_of_ble_eq_true rfl) ?_
        rw [nI_1]
        refine z_goto (tgt := 2) F dX5_findRoutine_35 (by decide) ?_
        refine z_pick [0, 1, 2] rfl ?_
        refine ih (i + 1) ⟨by omega, fun j hj hj2 => ?_⟩
        by_cases hji : j = i
        · rw [hji]; exact c27
        · exact hm j (by omega) hj2
      · have hz : fnd (sAI S 21) y (sN S 20) = some i := fnd_at c27 (fun j hj => hm j hj (by omega)) hin
        refine z_aload_n F dX5_findRoutine_30 rfl rfl ?_
        exact z_aret F hr rfl dX5_findRoutine_31 (Nat.le_of_ble_eq_true rfl) (Nat.le_of_ble_eq_true rfl) (⟨by rw [hz]; rfl, rfl⟩)
    · rw [rfs_out hin]
      refine z_astore_n F dX5_findRoutine_17 rfl (Nat.le_of_ble_eq_true rfl) ?_
      refine z_aload_n F dX5_findRoutine_18 rfl rfl ?_
      refine z_ifnull (tgt := 32) F dX5_findRoutine_19 (by decide) rfl (fun c19 => ?_) (fun c19 => absurd rfl c19)
      refine z_iinc (w := 1) F dX5_findRoutine_32 rfl rfl (Nat.le_of_ble_eq_true rfl) ?_
      rw [nI_1]
      refine z_goto (tgt := 2) F dX5_findRoutine_35 (by decide) ?_
      refine z_pick [0, 1, 2] rfl ?_
      exact ih (i + 1) ⟨by omega, fun j hj hj2 => hm j (by omega) hj2⟩

set_option maxRecDepth 100000 in
set_option maxHeartbeats 1000000 in
theorem c_X5_findRoutine {S : z_S} {x : z_Xc} {m : Nat → z_E} {d : z_H} {y : Int32} (C : DR S x d) (hn : sN S 20 ≤ 10) : z_K yX5_findRoutine cX5_findRoutine 4 (some (.object "ServiceRows2$Routine")) 0 0 0 [.ref 1, .int y] (HP (cfun S x) m d) (fun v h' => v = some (rR x (fnd (sAI S 21) y (sN S 20))) ∧ h' = (HP (cfun S x) m d)) := by
  refine z_met vI_X5_findRoutine (Nat.le_of_ble_eq_true rfl) (fun G X F hr hnm => ?_)
  refine z_iconst (v := 0) F dX5_findRoutine_0 rfl ?_
  refine z_istore_n F dX5_findRoutine_1 (Nat.le_of_ble_eq_true rfl) ?_
  exact l_X5_findRoutine C hn F hr 10 0 ⟨by omega, fun j hj => absurd hj (Nat.not_lt_zero j)⟩
