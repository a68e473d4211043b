/-! THE QUESTION THAT IS SERVED: w says which of the two -/
def qb (w : Bool) (S : z_S) (x : z_Xc) : Bool × Nat × Nat × Bool × (Nat → Int32) := match w with
  | true => xq x
  | false => (xb x, xd x, sN S 35, sB S 34, xf x)
def qa (w : Bool) : Nat := match w with
  | true => 6
  | false => 4
def qo (w : Bool) : Nat := match w with
  | true => 7
  | false => 5
theorem cQ {S : z_S} {x : z_Xc} {m : Nat → z_E} {d : z_H} {w : Bool} : Q_at (HP (cfun S x) m d) (qa w) (qo w) (qb w S x).1 (qb w S x).2.1 (qb w S x).2.2.1 (qb w S x).2.2.2.1 (qb w S x).2.2.2.2 := by
  cases w
  · exact cQ1
  · exact cQ2
def QV (w : Bool) (S : z_S) (x : z_Xc) : Prop := (qb w S x).2.2.1 = sN S 38 ∧ sN S 38 ≤ 60 ∧ (∀ k, k < sN S 38 → Qn (qb w S x).2.2.2.2 (sN S 38) k = sAN S 39 k) ∧ (qb w S x).2.2.2.1 = sB S 37
theorem QV_to {w : Bool} {S S' : z_S} {x x' : z_Xc} (Q : QV w S x) (hq : qb w S' x' = qb w S x) (h1 : sN S' 38 = sN S 38) (h2 : sAN S' 39 = sAN S 39) (h3 : sB S' 37 = sB S 37) : QV w S' x' := by
  unfold QV
  rw [hq, h1, h2, h3]
  exact Q
theorem numL_eq {g h : Nat → Int32} : ∀ {n : Nat}, (∀ i, i < n → g i = h i) → numL g n = numL h n
  | 0, _ => rfl
  | n + 1, H => by
    unfold numL
    rw [numL_eq (fun i hi => H i (by omega)), H n (by omega)]

theorem c_qsize {S : z_S} {x : z_Xc} {m : Nat → z_E} {d : z_H} {w : Bool} (Q : QV w S x)  : z_K yX2_size cX2_size 1 (some .int) 0 0 0 [.ref (qa w)] (HP (cfun S x) m d) (fun v h' => v = some (.int (nI (sN S 38 - 1))) ∧ h' = (HP (cfun S x) m d)) := by
  have hq := cQ (S := S) (x := x) (m := m) (d := d) (w := w)
  rw [Q.1] at hq
  exact c_X2_size hq Q.2.1
theorem c_qempty {S : z_S} {x : z_Xc} {m : Nat → z_E} {d : z_H} {w : Bool} (Q : QV w S x)  : z_K yX2_isEmpty cX2_isEmpty 1 (some .boolean) 0 0 0 [.ref (qa w)] (HP (cfun S x) m d) (fun v h' => v = some (.int (z_b (decide (sN S 38 = 0)))) ∧ h' = (HP (cfun S x) m d)) := by
  have hq := cQ (S := S) (x := x) (m := m) (d := d) (w := w)
  rw [Q.1] at hq
  exact c_X2_isEmpty hq Q.2.1
theorem c_qsvc0 {S : z_S} {x : z_Xc} {m : Nat → z_E} {d : z_H} {w : Bool} (Q : QV w S x)  : z_K yX2_service cX2_service 1 (some .int) 0 0 0 [.ref (qa w)] (HP (cfun S x) m d) (fun v h' => v = some (.int (nI (lkV S))) ∧ h' = (HP (cfun S x) m d)) := by
  have hq := cQ (S := S) (x := x) (m := m) (d := d) (w := w)
  rw [Q.1] at hq
  have h := c_X2_service hq Q.2.1
  rw [Qo_nI] at h
  unfold lkV
  by_cases h0 : sN S 38 = 0
  · rw [if_pos h0]
    unfold Qn at h
    rw [if_neg (show ¬ 0 < sN S 38 by omega)] at h
    exact h
  · rw [if_neg h0, ← Q.2.2.1 0 (by omega)]
    exact h
theorem c_qsvc {S : z_S} {x : z_Xc} {m : Nat → z_E} {d : z_H} {w : Bool} (Q : QV w S x) (h0 : 0 < sN S 38) : z_K yX2_service cX2_service 1 (some .int) 0 0 0 [.ref (qa w)] (HP (cfun S x) m d) (fun v h' => v = some (.int (nI (sAN S 39 0))) ∧ h' = (HP (cfun S x) m d)) := by
  have hq := cQ (S := S) (x := x) (m := m) (d := d) (w := w)
  rw [Q.1] at hq
  have h := c_X2_service hq Q.2.1
  rw [Qo_nI, Q.2.2.1 0 h0] at h
  exact h
theorem c_qoct {S : z_S} {x : z_Xc} {m : Nat → z_E} {d : z_H} {w : Bool} (Q : QV w S x) {p : Nat} (hp : p + 1 < sN S 38) : z_K yX2_octetAt cX2_octetAt 3 (some .int) 0 0 0 [.ref (qa w), .int (nI p)] (HP (cfun S x) m d) (fun v h' => v = some (.int (nI (sAN S 39 (p + 1)))) ∧ h' = (HP (cfun S x) m d)) := by
  have hq := cQ (S := S) (x := x) (m := m) (d := d) (w := w)
  rw [Q.1] at hq
  have h := c_X2_octetAt (p := p) hq Q.2.1 (by have := Q.2.1; omega)
  rw [Qo_nI, Q.2.2.1 _ hp] at h
  exact h
theorem c_qword {S : z_S} {x : z_Xc} {m : Nat → z_E} {d : z_H} {w : Bool} (Q : QV w S x) {p : Nat} (hp : p + 2 < sN S 38) : z_K yX2_word cX2_word 2 (some .int) 1 0 0 [.ref (qa w), .int (nI p)] (HP (cfun S x) m d) (fun v h' => v = some (.int (nI (toldN S (p + 1)))) ∧ h' = (HP (cfun S x) m d)) := by
  have hq := cQ (S := S) (x := x) (m := m) (d := d) (w := w)
  rw [Q.1] at hq
  have h := c_X2_word (p := p) hq Q.2.1 (by have := Q.2.1; omega)
  rw [Qo_nI, Qo_nI, nI_word (Qn_lt _ _ _) (Qn_lt _ _ _), Q.2.2.1 _ hp, Q.2.2.1 _ (by omega)] at h
  exact h
theorem c_qfun {S : z_S} {x : z_Xc} {m : Nat → z_E} {d : z_H} {w : Bool} (Q : QV w S x) (h1 : 1 < sN S 38) : z_K yX2_function cX2_function 1 (some .int) 1 0 0 [.ref (qa w)] (HP (cfun S x) m d) (fun v h' => v = some (.int (nI (fn S))) ∧ h' = (HP (cfun S x) m d)) := by
  have hq := cQ (S := S) (x := x) (m := m) (d := d) (w := w)
  rw [Q.1] at hq
  have h := c_X2_function hq Q.2.1
  rw [Qo_nI, pk_andN (n := Qn _ _ _) (Nat.lt_trans (Qn_lt _ _ _) (by decide)) 7 (by decide), Q.2.2.1 1 h1] at h
  exact h
theorem c_qnum {S : z_S} {x : z_Xc} {m : Nat → z_E} {d : z_H} {w : Bool} (Q : QV w S x) {p L : Nat} (hp : p + 1 + L ≤ sN S 38) : z_K yX2_number cX2_number 6 (some .long) 1 0 0 [.ref (qa w), .int (nI p), .int (nI L)] (HP (cfun S x) m d) (fun v h' => v = some (.long (numL (fun i => nI (sAN S 39 (p + 1 + i))) L)) ∧ h' = (HP (cfun S x) m d)) := by
  have hq := cQ (S := S) (x := x) (m := m) (d := d) (w := w)
  rw [Q.1] at hq
  have h := c_X2_number (p := p) (L := L) hq Q.2.1 (by have := Q.2.1; omega)
  rw [numL_eq (h := fun i => nI (sAN S 39 (p + 1 + i))) (fun i hi => by rw [Qo_nI, Q.2.2.1 _ (by omega)])] at h
  exact h

/-! WHAT IS SAID -/
def sx (S : z_S) (x : z_Xc) (b : Nat) : z_Xc := wa x (upd (xa x) (sN S 40) (nI b).toInt8.toInt32)
theorem i8_mod (b : Nat) : (nI (b % 256)).toInt8 = (nI b).toInt8 := by
  apply Int8.toBitVec_inj.mp
  show (BitVec.ofNat 32 (b % 256)).signExtend 8 = (BitVec.ofNat 32 b).signExtend 8
  apply BitVec.eq_of_toNat_eq
  rw [BitVec.signExtend_eq_setWidth_of_le _ (by decide), BitVec.signExtend_eq_setWidth_of_le _ (by decide), BitVec.toNat_setWidth, BitVec.toNat_setWidth, BitVec.toNat_ofNat, BitVec.toNat_ofNat]
  omega
theorem CR_say {S : z_S} {x : z_Xc} {d : z_H} (C : CR S x d) (hn : sN S 40 < 41) (b : Nat) : CR (sayS S b) (sx S x b) d := by
  obtain ⟨c1, c2, c3, c4, c5, c6, c7⟩ := C
  refine ⟨c1, c2, c3, c4, c5, ⟨hn, fun j hj => ?_⟩, c7⟩
  show upd (xa x) (sN S 40) _ j = (nI (va_up (sAN S 41) (sN S 40) (b % 256) j)).toInt8.toInt32
  by_cases h : j = sN S 40
  · rw [h, pk_us, va_up_self, i8_mod]
  · rw [pk_un h, va_up_ne _ _ h]
    have hj2 : j < sN S 40 + 1 := hj
    exact c6.2 j (by omega)
theorem c_put {S : z_S} {x : z_Xc} {m : Nat → z_E} {d : z_H} {b : Nat} (hn : sN S 40 < 41) : z_K yX0_put cX0_put 2 none 0 0 0 [.ref 8, .int (nI b)] (HP (cfun S x) m d) (fun v h' => v = none ∧ h' = HP (cfun (sayS S b) (sx S x b)) m d) := c_X0_put (nI b) cAn hn
theorem c_putW {S : z_S} {x : z_Xc} {m : Nat → z_E} {d : z_H} {a b : Nat} (ha : a < 256) (hb : b < 256) (hn : sN S 40 + 1 < 41) : z_K yX0_putWord cX0_putWord 2 none 1 0 0 [.ref 8, .int (nI (a * 256 + b))] (HP (cfun S x) m d) (fun v h' => v = none ∧ h' = HP (cfun (sayS (sayS S a) b) (sx (sayS S a) (sx S x a) b)) m d) := by
  have h := c_X0_putWord (nI (a * 256 + b)) (cAn (S := S) (x := x) (m := m) (d := d)) hn
  rw [pk_shrN (n := a * 256 + b) (by omega) ((8 : Int32) &&& 31) 8 (by decide), show (a * 256 + b) / 2 ^ 8 = a by omega, ← i8_mod (a * 256 + b), show (a * 256 + b) % 256 = b by omega] at h
  exact h

set_option maxRecDepth 100000 in
set_option maxHeartbeats 1000000 in
theorem c_X5_beginReply {S : z_S} {x : z_Xc} {m : Nat → z_E} {d : z_H} {w : Bool} (Q : QV w S x) (h0 : 0 < sN S 38) (hn : sN S 40 < 41) : z_K yX5_beginReply cX5_beginReply 2 none 1 0 0 [.ref 1, .ref (qa w)] (HP (cfun S x) m d) (fun v h' => v = none ∧ h' = HP (cfun (sayS S (sAN S 39 0 + 64)) (sx S x (sAN S 39 0 + 64))) m d) := by
  refine z_met vI_X5_beginReply (Nat.le_of_ble_eq_true rfl) (fun G X F hr hnm => ?_)
  refine z_aload_n F dX5_beginReply_0 rfl rfl ?_
  refine z_getf F vF_X5_67 dX5_beginReply_1 cO_at rfl ?_
  refine z_aload_n F dX5_beginReply_4 rfl rfl ?_
  refine z_callV F z_nwOK wL_good (c_qsvc Q h0) cQ.1 rfl vI_X2_service vM_X5_193 vV_X2_service vL_X2_service rfl dX5_beginReply_5 rfl rfl (Nat.le_of_ble_eq_true rfl) ⟨(Nat.le_of_ble_eq_true rfl), (Nat.le_of_ble_eq_true rfl), (Nat.le_of_ble_eq_true rfl), (Nat.le_of_ble_eq_true rfl)⟩ (fun v h1 hq => ?_)
  obtain ⟨rfl, rfl⟩ := hq
  refine z_bipush (v := 64) F dX5_beginReply_8 rfl ?_
  refine z_iadd F dX5_beginReply_10 ?_
  rw [show nI (sAN S 39 0) + 64 = nI (sAN S 39 0 + 64) from nI_add _ 64]
  refine z_callV F z_nwOK wL_good (c_put (b := sAN S 39 0 + 64) hn) cAn.1 rfl vI_X0_put vM_X5_190 vV_X0_put vL_X0_put rfl dX5_beginReply_11 rfl rfl (Nat.le_of_ble_eq_true rfl) ⟨(Nat.le_of_ble_eq_true rfl), (Nat.le_of_ble_eq_true rfl), (Nat.le_of_ble_eq_true rfl), (Nat.le_of_ble_eq_true rfl)⟩ (fun v h1 hq => ?_)
  obtain ⟨rfl, rfl⟩ := hq
  exact z_vret F hr dX5_beginReply_14 (Nat.le_of_ble_eq_true rfl) (Nat.le_of_ble_eq_true rfl) (⟨rfl, rfl⟩)

set_option maxRecDepth 100000 in
set_option maxHeartbeats 1000000 in
theorem c_X5_hasRoom {S : z_S} {x : z_Xc} {m : Nat → z_E} {d : z_H} (h40 : sN S 8 ≤ 40) : z_K yX5_hasRoomForIdentifier cX5_hasRoomForIdentifier 1 (some .boolean) 0 0 0 [.ref 1] (HP (cfun S x) m d) (fun v h' => v = some (.int (z_b (decide (sN S 8 < 40)))) ∧ h' = (HP (cfun S x) m d)) := by
  refine z_met vI_X5_hasRoomForIdentifier (Nat.le_of_ble_eq_true rfl) (fun G X F hr hnm => ?_)
  refine z_aload_n F dX5_hasRoomForIdentifier_0 rfl rfl ?_
  refine z_getf F vF_X5_15 dX5_hasRoomForIdentifier_1 cO_at rfl ?_
  refine z_aload_n F dX5_hasRoomForIdentifier_4 rfl rfl ?_
  refine z_getf F vF_X5_11 dX5_hasRoomForIdentifier_5 cO_at rfl ?_
  refine z_alen (v := nI 40) F dX5_hasRoomForIdentifier_8 cA_0 rfl rfl ?_
  refine z_icmp_ge (tgt := 16) F dX5_hasRoomForIdentifier_9 (by decide) (fun c9 => ?_) (fun c9 => ?_)
  · have hz : ¬ sN S 8 < 40 := fun e => nI_ge (a := sN S 8) (b := 40) e (by decide) c9
    refine z_iconst (v := 0) F dX5_hasRoomForIdentifier_16 rfl ?_
    exact z_iret F hr dX5_hasRoomForIdentifier_17 rfl (Nat.le_of_ble_eq_true rfl) (Nat.le_of_ble_eq_true rfl) (⟨by rw [show decide (sN S 8 < 40) = _ from by first | exact decide_eq_true hz | exact decide_eq_false hz]; rfl, rfl⟩)
  · have hz : sN S 8 < 40 := Nat.lt_of_not_le (fun e => c9 (nI_le (a := 40) (b := sN S 8) e (by omega)))
    refine z_iconst (v := 1) F dX5_hasRoomForIdentifier_12 rfl ?_
    refine z_goto (tgt := 17) F dX5_hasRoomForIdentifier_13 (by decide) ?_
    exact z_iret F hr dX5_hasRoomForIdentifier_17 rfl (Nat.le_of_ble_eq_true rfl) (Nat.le_of_ble_eq_true rfl) (⟨by rw [show decide (sN S 8 < 40) = _ from by first | exact decide_eq_true hz | exact decide_eq_false hz]; rfl, rfl⟩)

theorem rfs_up (f : Nat → Nat) (n u : Nat) : va_up (rfs f n) n (some (u + 32)) = rfs (va_up f n u) (n + 1) := by
  funext k
  by_cases h : k = n
  · rw [h, va_up_self, rfs_in (Nat.lt_succ_self n), va_up_self]
  · rw [va_up_ne _ _ h]
    unfold rfs
    rw [va_up_ne _ _ h]
    by_cases h2 : k < n
    · rw [if_pos h2, if_pos (by omega)]
    · rw [if_neg h2, if_neg (by omega)]

set_option maxRecDepth 100000 in
set_option maxHeartbeats 1000000 in
theorem c_X5_addIdentifier {S : z_S} {x : z_Xc} {m : Nat → z_E} {d : z_H} {u : Nat} {fs : List Value} (hu : d[u]? = some (.inr (2, fs))) (hn : sN S 8 < 40) : z_K yX5_addIdentifier cX5_addIdentifier 2 none 1 0 0 [.ref 1, .ref (u + 32)] (HP (cfun S x) m d) (fun v h' => v = none ∧ h' = HP (cfun (uN S 8 (sN S 8 + 1)) (wi x (va_up (xi x) (sN S 8) u))) m d) := by
  refine z_met vI_X5_addIdentifier (Nat.le_of_ble_eq_true rfl) (fun G X F hr hnm => ?_)
  refine z_aload_n F dX5_addIdentifier_0 rfl rfl ?_
  refine z_callV F z_nwOK wL_good (c_X5_hasRoom (by omega)) cO_at rfl vI_X5_hasRoomForIdentifier vM_X5_87 vV_X5_hasRoomForIdentifier vL_X5_hasRoomForIdentifier rfl dX5_addIdentifier_1 rfl rfl (Nat.le_of_ble_eq_true rfl) ⟨(Nat.le_of_ble_eq_true rfl), (Nat.le_of_ble_eq_true rfl), (Nat.le_of_ble_eq_true rfl), (Nat.le_of_ble_eq_true rfl)⟩ (fun v h1 hq => ?_)
  obtain ⟨rfl, rfl⟩ := hq
  refine z_if_eq (tgt := 27) F dX5_addIdentifier_4 (by decide) (fun c4 => absurd c4 (by rw [decide_eq_true hn]; decide)) (fun c4 => ?_)
  refine z_aload_n F dX5_addIdentifier_7 rfl rfl ?_
  refine z_getf F vF_X5_11 dX5_addIdentifier_8 cO_at rfl ?_
  refine z_aload_n F dX5_addIdentifier_11 rfl rfl ?_
  refine z_getf F vF_X5_15 dX5_addIdentifier_12 cO_at rfl ?_
  refine z_aload_n F dX5_addIdentifier_15 rfl rfl ?_
  refine z_aast F dX5_addIdentifier_16 cA_0 (HPd hu) rfl rfl rfl (show sN S 8 < 40 from hn) (Nat.le_of_ble_eq_true rfl) ?_
  refine z_aload_n F dX5_addIdentifier_17 rfl rfl ?_
  refine z_dup F dX5_addIdentifier_18 rfl ?_
  refine z_getf F vF_X5_15 dX5_addIdentifier_19 (show _ = some (Sum.inr (6, cO S x)) from rfl) rfl ?_
  refine z_iconst (v := 1) F dX5_addIdentifier_22 rfl ?_
  refine z_iadd F dX5_addIdentifier_23 ?_
  rw [nI_1]
  refine z_putf F vF_X5_15 vT_X5 vD_X5_1 dX5_addIdentifier_24 (show _ = some (Sum.inr (6, cO S x)) from rfl) (Nat.le_of_ble_eq_true rfl) rfl rfl (fun g24 => ?_)
  refine z_heap (HP (cfun (uN S 8 (sN S 8 + 1)) (wi x (va_up (xi x) (sN S 8) u))) m d) (by rw [rfs_up]; rfl) ?_
  exact z_vret F hr dX5_addIdentifier_27 (Nat.le_of_ble_eq_true rfl) (Nat.le_of_ble_eq_true rfl) (⟨rfl, rfl⟩)

set_option maxRecDepth 100000 in
set_option maxHeartbeats 1000000 in
theorem c_X5_findHere {S : z_S} {x : z_Xc} {m : Nat → z_E} {d : z_H} {t : Nat} (C : CR S x d) (h40 : sN S 8 ≤ 40) (V : numsOK S) : z_K yX5_findHere cX5_findHere 3 (some (.object "ServiceRows2$Identifier")) 1 0 0 [.ref 1, .int (nI t)] (HP (cfun S x) m d) (fun v h' => v = some (rI x (hereF S t)) ∧ h' = (HP (cfun S x) m d)) := by
  refine z_met vI_X5_findHere (Nat.le_of_ble_eq_true rfl) (fun G X F hr hnm => ?_)
  refine z_aload_n F dX5_findHere_0 rfl rfl ?_
  refine z_iload_n F dX5_findHere_1 rfl ?_
  refine z_callV F z_nwOK wL_good (c_X5_findIdentifier C.1 h40) cO_at rfl vI_X5_findIdentifier vM_X5_83 vV_X5_findIdentifier vL_X5_findIdentifier rfl dX5_findHere_2 rfl rfl (Nat.le_of_ble_eq_true rfl) ⟨(Nat.le_of_ble_eq_true rfl), (Nat.le_of_ble_eq_true rfl), (Nat.le_of_ble_eq_true rfl), (Nat.le_of_ble_eq_true rfl)⟩ (fun v h1 hq => ?_)
  obtain ⟨rfl, rfl⟩ := hq
  cases hf : fnd (sAI S 9) (nI t) (sN S 8) with
  | none =>
    have hs : hereF S t = none := by unfold hereF; rw [hf]
    refine z_astore_n F dX5_findHere_5 rfl (Nat.le_of_ble_eq_true rfl) ?_
    refine z_aload_n F dX5_findHere_6 rfl rfl ?_
    refine z_ifnull (tgt := 21) F dX5_findHere_7 (by decide) rfl (fun c7 => ?_) (fun c7 => absurd rfl c7)
    refine z_null F dX5_findHere_21 ?_
    refine z_goto (tgt := 26) F dX5_findHere_22 (by decide) ?_
    exact z_aret F hr rfl dX5_findHere_26 (Nat.le_of_ble_eq_true rfl) (Nat.le_of_ble_eq_true rfl) (⟨by rw [hs]; try rfl, rfl⟩)
  | some k =>
    have hk := fnd_lt hf
    have hc := HPd (c := cfun S x) (m := m) (C.1.1 k hk)
    refine z_astore_n F dX5_findHere_5 rfl (Nat.le_of_ble_eq_true rfl) ?_
    refine z_aload_n F dX5_findHere_6 rfl rfl ?_
    refine z_ifnull (tgt := 21) F dX5_findHere_7 (by decide) rfl (fun c7 => absurd c7 (by intro q; cases q)) (fun c7 => ?_)
    refine z_aload_n F dX5_findHere_10 rfl rfl ?_
    refine z_getf F vF_X5_170 dX5_findHere_11 hc rfl ?_
    refine z_aload_n F dX5_findHere_14 rfl rfl ?_
    refine z_getf F vF_X5_35 dX5_findHere_15 cO_at rfl ?_
    refine z_icmp_le (tgt := 25) F dX5_findHere_18 (by decide) (fun c18 => ?_) (fun c18 => ?_)
    · have hs : hereF S t = some k := by unfold hereF; rw [hf]; exact if_pos ((nI_leI (a := sAN S 11 k) (b := sN S 1) (by have := V.2.2.2.1 k; omega) (by have := V.1; omega)).mp c18)
      refine z_aload_n F dX5_findHere_25 rfl rfl ?_
      exact z_aret F hr rfl dX5_findHere_26 (Nat.le_of_ble_eq_true rfl) (Nat.le_of_ble_eq_true rfl) (⟨by rw [hs]; try rfl, rfl⟩)
    · have hs : hereF S t = none := by unfold hereF; rw [hf]; exact if_neg (fun e => c18 ((nI_leI (a := sAN S 11 k) (b := sN S 1) (by have := V.2.2.2.1 k; omega) (by have := V.1; omega)).mpr e))
      refine z_null F dX5_findHere_21 ?_
      refine z_goto (tgt := 26) F dX5_findHere_22 (by decide) ?_
      exact z_aret F hr rfl dX5_findHere_26 (Nat.le_of_ble_eq_true rfl) (Nat.le_of_ble_eq_true rfl) (⟨by rw [hs]; try rfl, rfl⟩)

def clj (S : z_S) (i : Nat) : z_S := uAB S 14 (clr S (min i (sN S 8)))
theorem clj_out {S : z_S} {i : Nat} (h : ¬ i < sN S 8) : clj S i = clj S (i + 1) := by
  unfold clj
  rw [Nat.min_eq_right (by omega), Nat.min_eq_right (by omega)]
theorem clj_0 (S : z_S) : clj S 0 = S := by
  unfold clj
  rw [Nat.zero_min, show clr S 0 = sAB S 14 from by funext k; simp [clr]]
  exact uAB_same S 14
theorem clj_all {S : z_S} {i : Nat} (h : sN S 8 ≤ i) : clj S i = uAB S 14 (clr S (sN S 8)) := by
  unfold clj
  rw [Nat.min_eq_right h]
theorem clj_self {S : z_S} {i : Nat} (h : i < sN S 8) : sAB (clj S (i + 1)) 14 i = false := by
  show clr S (min (i + 1) (sN S 8)) i = false
  rw [Nat.min_eq_left (by omega)]
  exact if_pos (Nat.lt_succ_self i)
theorem clj_ne {S : z_S} {i j : Nat} (h : i < sN S 8) (hj : ¬ j = i) : sAB (clj S (i + 1)) 14 j = sAB (clj S i) 14 j := by
  show clr S (min (i + 1) (sN S 8)) j = clr S (min i (sN S 8)) j
  rw [Nat.min_eq_left (by omega), Nat.min_eq_left (by omega)]
  unfold clr
  by_cases h2 : j < i
  · rw [if_pos h2, if_pos (by omega)]
  · rw [if_neg h2, if_neg (by omega)]
theorem CR_clj {S : z_S} {x : z_Xc} {d : z_H} {i : Nat} (C : CR (clj S i) x d) (h : i < sN S 8) : CR (clj S (i + 1)) x (d.set (xi x i) (IO (clj S (i + 1)) x i)) :=
  CR_id (S := clj S i) (S' := clj S (i + 1)) (x' := x) C h rfl rfl rfl rfl rfl rfl rfl rfl rfl rfl rfl rfl (fun _ => rfl) (fun j hj => by unfold IO; rw [clj_ne h hj]; rfl) (fun j hj ht => by
    by_cases hji : j = i
    · rw [hji, clj_self h] at ht; cases ht
    · rw [clj_ne h hji] at ht
      exact C.1.2 j hj ht) C.2.2.2.2.1 C.2.2.2.2.2.1 C.2.2.2.2.2.2

theorem TR_end {S : z_S} {x : z_Xc} {f : Nat} (t : TR S x) : TR (endS S f) (wt x (0, (xt x).2.1, (xt x).2.2)) :=
  ⟨fun h => absurd (show false = true from h) (by decide), fun _ => rfl, Nat.zero_le _, t.2.2.2⟩

set_option maxRecDepth 100000 in
set_option maxHeartbeats 1000000 in
theorem l_X5_endSession {S : z_S} {x : z_Xc} {m : Nat → z_E} {f : Nat} (h40 : sN S 8 ≤ 40) {G : z_G} {X : z_X} (F : z_F vwCl z_ats z_nw wsL_law G RX5 cX5_endSession 4 (z_rm 1 0 0) X) (hr : X.2.2.2.2.2.2.2.2.1.sig.returnType = none) :
    ∀ (m' i : Nat) (d : z_H), (i + m' = 40 ∧ CR (clj S (i)) x d) → z_V vwCl G 4 X (z_end vwCl z_ats z_nw G X 0 0 (fun v h' => v = none ∧ ∃ d' : z_H, h' = HP (cfun (endS S f) (wt x (0, (xt x).2.1, (xt x).2.2))) m d' ∧ CR (endS S f) (wt x (0, (xt x).2.1, (xt x).2.2)) d')) 0 0 2 [(0, .ref 1), (1, .int (nI f)), (2, .int (nI i))] [] (HP (cfun (clj S (i)) x) m d) := by
  intro m'
  induction m' with
  | zero =>
    intro i d hi
    obtain ⟨hi, C⟩ := hi
    obtain rfl : i = 40 := by omega
    rw [clj_all h40] at C ⊢
    refine z_iload_n F dX5_endSession_2 rfl ?_
    refine z_aload_n F dX5_endSession_3 rfl rfl ?_
    refine z_getf F vF_X5_11 dX5_endSession_4 cO_at rfl ?_
    refine z_alen (v := nI 40) F dX5_endSession_7 cA_0 rfl rfl ?_
    refine z_icmp_ge (tgt := 32) F dX5_endSession_8 (by decide) (fun c8 => ?_) (fun c8 => absurd (nI_le (a := 40) (b := 40) (by omega) (by omega)) c8)
    refine z_aload_n F dX5_endSession_32 rfl rfl ?_
    refine z_getf F vF_X5_74 dX5_endSession_33 cO_at rfl ?_
    refine z_callV F z_nwOK wL_good (c_X4_close cTr) cTr rfl vI_X4_close vM_X5_174 vV_X4_close vL_X4_close rfl dX5_endSession_36 rfl rfl (Nat.le_of_ble_eq_true rfl) ⟨(Nat.le_of_ble_eq_true rfl), (Nat.le_of_ble_eq_true rfl), (Nat.le_of_ble_eq_true rfl), (Nat.le_of_ble_eq_true rfl)⟩ (fun v h1 hq => ?_)
    obtain ⟨rfl, rfl⟩ := hq
    refine z_heap _ sTr ?_
    refine z_aload_n F dX5_endSession_39 rfl rfl ?_
    refine z_iconst (v := 0) F dX5_endSession_40 rfl ?_
    refine z_putf F vF_X5_38 vT_X5 vD_X5_7 dX5_endSession_41 cO_at (Nat.le_of_ble_eq_true rfl) rfl rfl (fun g41 => ?_)
    refine z_heap _ (cs_7 (v := 0)) ?_
    refine z_aload_n F dX5_endSession_44 rfl rfl ?_
    refine z_iload_n F dX5_endSession_45 rfl ?_
    refine z_putf F vF_X5_35 vT_X5 vD_X5_6 dX5_endSession_46 cO_at (Nat.le_of_ble_eq_true rfl) rfl rfl (fun g46 => ?_)
    refine z_heap _ (cs_6) ?_
    exact z_vret F hr dX5_endSession_49 (Nat.le_of_ble_eq_true rfl) (Nat.le_of_ble_eq_true rfl) (⟨rfl, d, rfl, C.1, C.2.1, C.2.2.1, C.2.2.2.1, C.2.2.2.2.1, C.2.2.2.2.2.1, TR_end C.2.2.2.2.2.2⟩)
  | succ m' ih =>
    intro i d hi
    obtain ⟨hi, C⟩ := hi
    have ih0 := C
    refine z_iload_n F dX5_endSession_2 rfl ?_
    refine z_aload_n F dX5_endSession_3 rfl rfl ?_
    refine z_getf F vF_X5_11 dX5_endSession_4 cO_at rfl ?_
    refine z_alen (v := nI 40) F dX5_endSession_7 cA_0 rfl rfl ?_
    refine z_icmp_ge (tgt := 32) F dX5_endSession_8 (by decide) (fun c8 => absurd c8 (nI_ge (a := i) (b := 40) (by omega) (by decide))) (fun c8 => ?_)
    refine z_aload_n F dX5_endSession_11 rfl rfl ?_
    refine z_getf F vF_X5_11 dX5_endSession_12 cO_at rfl ?_
    refine z_iload_n F dX5_endSession_15 rfl ?_
    refine z_aald (j := i) F dX5_endSession_16 cA_0 rfl rfl (show i < 40 by omega) (Nat.le_of_ble_eq_true rfl) ?_
    by_cases hin : i < sN S 8
    · rw [show rfs (xi x) (sN (clj S (i)) 8) i = _ from rfs_in hin]
      have hc := HPd (c := cfun (clj S i) x) (m := m) (C.1.1 i hin)
      refine z_astore_n F dX5_endSession_17 rfl (Nat.le_of_ble_eq_true rfl) ?_
      refine z_aload_n F dX5_endSession_18 rfl rfl ?_
      refine z_ifnull (tgt := 26) F dX5_endSession_19 (by decide) rfl (fun c19 => absurd c19 (by intro q; cases q)) (fun c19 => ?_)
      refine z_aload_n F dX5_endSession_22 rfl rfl ?_
      refine z_callV F z_nwOK wL_good (c_X1_release hc) hc rfl vI_X1_release vM_X5_171 vV_X1_release vL_X1_release rfl dX5_endSession_23 rfl rfl (Nat.le_of_ble_eq_true rfl) ⟨(Nat.le_of_ble_eq_true rfl), (Nat.le_of_ble_eq_true rfl), (Nat.le_of_ble_eq_true rfl), (Nat.le_of_ble_eq_true rfl)⟩ (fun v h1 hq => ?_)
      obtain ⟨rfl, rfl⟩ := hq
      refine z_heap (HP (cfun (clj S (i + 1)) x) m (d.set (xi x i) (IO (clj S (i + 1)) x i))) (by unfold IO; rw [clj_self hin]; rfl) ?_
      refine z_iinc (w := 1) F dX5_endSession_26 rfl rfl (Nat.le_of_ble_eq_true rfl) ?_
      rw [nI_1]
      refine z_goto (tgt := 2) F dX5_endSession_29 (by decide) ?_
      refine z_pick [0, 1, 2] rfl ?_
      exact ih (i + 1) _ ⟨by omega, CR_clj C hin⟩
    · rw [show rfs (xi x) (sN (clj S (i)) 8) i = _ from rfs_out hin]
      refine z_astore_n F dX5_endSession_17 rfl (Nat.le_of_ble_eq_true rfl) ?_
      refine z_aload_n F dX5_endSession_18 rfl rfl ?_
      refine z_ifnull (tgt := 26) F dX5_endSession_19 (by decide) rfl (fun c19 => ?_) (fun c19 => absurd rfl c19)
      refine z_iinc (w := 1) F dX5_endSession_26 rfl rfl (Nat.le_of_ble_eq_true rfl) ?_
      rw [nI_1]
      refine z_goto (tgt := 2) F dX5_endSession_29 (by decide) ?_
      rw [clj_out hin] at ih0 ⊢
      refine z_pick [0, 1, 2] rfl ?_
      exact ih (i + 1) (d) ⟨by omega, ih0⟩

set_option maxRecDepth 100000 in
set_option maxHeartbeats 1000000 in
theorem c_X5_endSession {S : z_S} {x : z_Xc} {m : Nat → z_E} {d : z_H} {f : Nat} (C : CR S x d) (h40 : sN S 8 ≤ 40) : z_K yX5_endSession cX5_endSession 4 none 1 0 0 [.ref 1, .int (nI f)] (HP (cfun S x) m d) (fun v h' => v = none ∧ ∃ d' : z_H, h' = HP (cfun (endS S f) (wt x (0, (xt x).2.1, (xt x).2.2))) m d' ∧ CR (endS S f) (wt x (0, (xt x).2.1, (xt x).2.2)) d') := by
  refine z_met vI_X5_endSession (Nat.le_of_ble_eq_true rfl) (fun G X F hr hnm => ?_)
  refine z_iconst (v := 0) F dX5_endSession_0 rfl ?_
  refine z_istore_n F dX5_endSession_1 (Nat.le_of_ble_eq_true rfl) ?_
  rw [← clj_0 S] at C
  refine z_heap (HP (cfun (clj S 0) x) m d) (by rw [clj_0]) ?_
  exact l_X5_endSession h40 F hr 40 0 d ⟨by omega, C⟩
