/-- what the answer's saying leaves -/
def KL (S T : z_S) : Prop := sN T 0 = sN S 0 ∧ sN T 1 = sN S 1 ∧ sN T 2 = sN S 2 ∧ sN T 7 = sN S 7 ∧ sN T 8 = sN S 8 ∧ sN T 20 = sN S 20 ∧ sN T 27 = sN S 27 ∧ sN T 28 = sN S 28 ∧ sN T 29 = sN S 29 ∧ sN T 30 = sN S 30 ∧ sN T 32 = sN S 32 ∧ sN T 35 = sN S 35 ∧ sN T 38 = sN S 38 ∧ sB T = sB S ∧ sL T = sL S ∧ sAN T 10 = sAN S 10 ∧ sAN T 11 = sAN S 11 ∧ sAN T 12 = sAN S 12 ∧ sAN T 18 = sAN S 18 ∧ sAN T 19 = sAN S 19 ∧ sAN T 22 = sAN S 22 ∧ sAN T 24 = sAN S 24 ∧ sAN T 25 = sAN S 25 ∧ sAN T 36 = sAN S 36 ∧ sAN T 39 = sAN S 39 ∧ sAB T = sAB S ∧ sAL T = sAL S ∧ sAI T = sAI S
set_option maxRecDepth 100000 in
set_option maxHeartbeats 1000000 in
theorem kl_lk (S : z_S) : KL (lkR S).2 (lkS S) := by
  unfold lkS
  repeat' split
  all_goals exact ⟨rfl, rfl, rfl, rfl, rfl, rfl, rfl, rfl, rfl, rfl, rfl, rfl, rfl, rfl, rfl, rfl, rfl, rfl, rfl, rfl, rfl, rfl, rfl, rfl, rfl, rfl, rfl, rfl⟩
theorem lk_B33 (S : z_S) : sB (lkS S) 33 = sB S 33 := (congrFun (kl_lk S).2.2.2.2.2.2.2.2.2.2.2.2.2.1 33).trans (ks_lk S).1.2.2.2.2.2.2.2.2.1
theorem lk_L4 (S : z_S) : sL (lkS S) 4 = sL S 3 := (congrFun (kl_lk S).2.2.2.2.2.2.2.2.2.2.2.2.2.2.1 4).trans (congrFun (ks_lk S).1.2.2.2.2.2.2.2.2.2.2.2.1 4)
theorem i8_b8 (y : Int32) : y.toInt8.toInt32.toBitVec.toNat % 256 = b8 y := by
  have key : ∀ v : BitVec 8, (v.signExtend 32).toNat % 256 = v.toNat := by decide +kernel
  show ((y.toBitVec.signExtend 8).signExtend 32).toNat % 256 = y.toBitVec.toNat % 256
  rw [key, BitVec.signExtend_eq_setWidth_of_le _ (by decide), BitVec.toNat_setWidth]
theorem neg_b8 {b : Int32} (hb : b.toInt8.toInt32 = b) : decide (b < 0) = decide (127 < b8 b) := by
  have key : ∀ v : BitVec 8, decide ((Int8.ofBitVec v).toInt32 < 0) = decide (127 < b8 (Int8.ofBitVec v).toInt32) := by decide +kernel
  rw [← hb]
  exact key b.toInt8.toBitVec
theorem due_b8 (b : Int32) : b.toBitVec.toNat % 128 = b8 b % 128 := by unfold b8; omega
theorem sv54_open (S : z_S) : (sv54 S).1 = 0 → sB S 26 = true ∧ sB (sv54 S).2 26 = sB S 26 ∧ sN (sv54 S).2 27 = sN S 27 := by
  unfold sv54
  repeat' split
  all_goals first | (intro h; exact absurd h (Nat.succ_ne_zero _)) | (intro _; exact ⟨by simpa using (by assumption : ¬ sB S 26 = false), rfl, rfl⟩)
theorem lkR_tr (S : z_S) (c b : Int32) : lkR (trD S c b) = sv54 (lk0 (trD S c b)) := rfl
theorem tr_open {S : z_S} {c b : Int32} (h : (lkR (trD S c b)).1 = 0) : sB S 26 = true ∧ sB (lkS (trD S c b)) 26 = true ∧ sN (lkS (trD S c b)) 27 = sN S 27 := by
  have K := kl_lk (trD S c b)
  rw [lkR_tr] at h K
  have h2 := sv54_open _ h
  exact ⟨h2.1, (congrFun K.2.2.2.2.2.2.2.2.2.2.2.2.2.1 26).trans (h2.2.1.trans h2.1), K.2.2.2.2.2.2.1.trans h2.2.2⟩

theorem q_oct {S : z_S} {f : Nat → Int32} {b : Int32} (h : ∀ j, j < sN S 35 → (f j).toBitVec.toNat % 256 = sAN S 36 j) : ∀ j, j < sN S 35 + 1 → (upd f (sN S 35) b.toInt8.toInt32 j).toBitVec.toNat % 256 = va_up (sAN S 36) (sN S 35) (b8 b) j := fun j hj => by
  by_cases e : j = sN S 35
  · rw [e, pk_us, va_up_self, i8_b8]
  · rw [pk_un e, va_up_ne _ _ e]
    exact h j (by omega)
theorem row_up {f : Nat → Nat} {n v : Nat} (h : ∀ k, f k < 256) (hv : v < 256) : ∀ k, va_up f n v k < 256 := fun k => by
  by_cases e : k = n
  · rw [e, va_up_self]; exact hv
  · rw [va_up_ne _ _ e]; exact h k

set_option maxRecDepth 100000 in
set_option maxHeartbeats 1000000 in
theorem c_X5_ask {S : z_S} {x : z_Xc} {m : Nat → z_E} {d : z_H} {b : Int32} (hb : b.toInt8.toInt32 = b) (C : CT S x d) (R : rowOK S) (W : idsOK S) (V : numsOK S) (U : trOK S) (Y : rtsOK S) (Z : rtU S) (N : undOK S) : z_K yX5_ask cX5_ask 2 (some .int) 7 0 0 [.ref 1, .int b] (HP (cfun S x) m d) (fun v h' => v = some (.int (sp_ask S b).1) ∧ ∃ (x' : z_Xc) (d' : z_H), h' = HP (cfun (sp_ask S b).2 x') m d' ∧ CT (sp_ask S b).2 x' d') := by
  refine z_met vI_X5_ask (Nat.le_of_ble_eq_true rfl) (fun G X F hr hnm => ?_)
  by_cases hB : sB S 33 = true
  · have h1 : ask1 S b = uB (uN (uN (uAN (uN S 0 0) 36 (va_up (sAN S 36) (sN S 35) (b8 b))) 35 (sN S 35 + 1)) 32 (sN S 32 - 1)) 33 (decide (0 < sN S 32 - 1)) := if_pos hB
    have hq1 : Q_at (HP (cfun S x) m d) 4 5 true (xd x) (sN S 35) (sB S 34) (xf x) := by have h := cQ1 (S := S) (x := x) (m := m) (d := d); rw [C.2.2.1, hB] at h; exact h
    obtain ⟨n1, n2⟩ := N.2.2 hB
    have hxd : xd x = sN S 35 + sN S 32 := C.1.2.2.2.2.1.1 hB
    have QD : QR (uB (uN (uN (uAN (uN S 0 0) 36 (va_up (sAN S 36) (sN S 35) (b8 b))) 35 (sN S 35 + 1)) 32 (sN S 32 - 1)) 33 (decide (0 < sN S 32 - 1))) (wf (wb (wd x (xd x)) true) (upd (xf x) (sN S 35) b.toInt8.toInt32)) := ⟨fun _ => show xd x = sN S 35 + 1 + (sN S 32 - 1) by omega, q_oct C.1.2.2.2.2.1.2⟩
    have CD : CR (uB (uN (uN (uAN (uN S 0 0) 36 (va_up (sAN S 36) (sN S 35) (b8 b))) 35 (sN S 35 + 1)) 32 (sN S 32 - 1)) 33 (decide (0 < sN S 32 - 1))) (wf (wb (wd x (xd x)) true) (upd (xf x) (sN S 35) b.toInt8.toInt32)) d := ⟨C.1.1, C.1.2.1, C.1.2.2.1, C.1.2.2.2.1, QD, C.1.2.2.2.2.2⟩
    have hu : ∀ k, sAN (uB (uN (uN (uAN (uN S 0 0) 36 (va_up (sAN S 36) (sN S 35) (b8 b))) 35 (sN S 35 + 1)) 32 (sN S 32 - 1)) 33 (decide (0 < sN S 32 - 1))) 36 k < 256 := row_up N.1 (b8_lt b)
    have hdu : xd (wf (wb (wd x (xd x)) true) (upd (xf x) (sN S 35) b.toInt8.toInt32)) ≤ 60 := show xd x ≤ 60 by omega
    refine z_aload_n F dX5_ask_0 rfl rfl ?_
    refine z_getf F vF_X5_57 dX5_ask_1 cO_at rfl ?_
    refine z_iload_n F dX5_ask_4 rfl ?_
    refine z_callV F z_nwOK wL_good (c_X2_take1 b hq1 (by have := N.2.2 hB; omega)) hq1.1 rfl vI_X2_take vM_X5_121 vV_X2_take vL_X2_take rfl dX5_ask_5 rfl rfl (Nat.le_of_ble_eq_true rfl) ⟨(Nat.le_of_ble_eq_true rfl), (Nat.le_of_ble_eq_true rfl), (Nat.le_of_ble_eq_true rfl), (Nat.le_of_ble_eq_true rfl)⟩ (fun v h1 hq => ?_)
    obtain ⟨rfl, rfl⟩ := hq
    refine z_heap (HP (cfun (uB (uN (uN (uAN (uN S 0 0) 36 (va_up (sAN S 36) (sN S 35) (b8 b))) 35 (sN S 35 + 1)) 32 (sN S 32 - 1)) 33 (decide (0 < sN S 32 - 1))) (wf (wb (wd x (xd x)) true) (upd (xf x) (sN S 35) b.toInt8.toInt32))) m d) rfl ?_
    refine z_aload_n F dX5_ask_8 rfl rfl ?_
    refine z_getf F vF_X5_57 dX5_ask_9 cO_at rfl ?_
    refine z_callV F z_nwOK wL_good (c_X2_isWhole (cQ1 (S := uB (uN (uN (uAN (uN S 0 0) 36 (va_up (sAN S 36) (sN S 35) (b8 b))) 35 (sN S 35 + 1)) 32 (sN S 32 - 1)) 33 (decide (0 < sN S 32 - 1))) (x := wf (wb (wd x (xd x)) true) (upd (xf x) (sN S 35) b.toInt8.toInt32))) (show sN S 35 + 1 ≤ 60 by omega) hdu) cQ1.1 rfl vI_X2_isWhole vM_X5_125 vV_X2_isWhole vL_X2_isWhole rfl dX5_ask_12 rfl rfl (Nat.le_of_ble_eq_true rfl) ⟨(Nat.le_of_ble_eq_true rfl), (Nat.le_of_ble_eq_true rfl), (Nat.le_of_ble_eq_true rfl), (Nat.le_of_ble_eq_true rfl)⟩ (fun v h1 hq => ?_)
    obtain ⟨rfl, rfl⟩ := hq
    refine z_if_ne (tgt := 20) F dX5_ask_15 (by decide) (fun c15 => ?_) (fun c15 => ?_)
    · have hD : sB (uB (uN (uN (uAN (uN S 0 0) 36 (va_up (sAN S 36) (sN S 35) (b8 b))) 35 (sN S 35 + 1)) 32 (sN S 32 - 1)) 33 (decide (0 < sN S 32 - 1))) 33 = false := decide_eq_false (fun h => by have h9 := of_decide_eq_true (z_b1 c15); have h9 : xd x ≤ sN S 35 + 1 := h9; omega)
      have hs : sp_ask S b = (nI (sN (lkS (ask2 (uB (uN (uN (uAN (uN S 0 0) 36 (va_up (sAN S 36) (sN S 35) (b8 b))) 35 (sN S 35 + 1)) 32 (sN S 32 - 1)) 33 (decide (0 < sN S 32 - 1))))) 40), lkS (ask2 (uB (uN (uN (uAN (uN S 0 0) 36 (va_up (sAN S 36) (sN S 35) (b8 b))) 35 (sN S 35 + 1)) 32 (sN S 32 - 1)) 33 (decide (0 < sN S 32 - 1))))) := by unfold sp_ask askE; rw [h1, if_neg (by rw [hD]; decide)]
      have C2 : CR (ask2 (uB (uN (uN (uAN (uN S 0 0) 36 (va_up (sAN S 36) (sN S 35) (b8 b))) 35 (sN S 35 + 1)) 32 (sN S 32 - 1)) 33 (decide (0 < sN S 32 - 1)))) (wf (wb (wd x (xd x)) true) (upd (xf x) (sN S 35) b.toInt8.toInt32)) d := CD
      have Q2 : QV false (ask2 (uB (uN (uN (uAN (uN S 0 0) 36 (va_up (sAN S 36) (sN S 35) (b8 b))) 35 (sN S 35 + 1)) 32 (sN S 32 - 1)) 33 (decide (0 < sN S 32 - 1)))) (wf (wb (wd x (xd x)) true) (upd (xf x) (sN S 35) b.toInt8.toInt32)) := ⟨rfl, show sN S 35 + 1 ≤ 60 by omega, fun k hk => (if_pos hk).trans ((CD.2.2.2.2.1.2 k hk).trans (if_pos hk).symm), rfl⟩
      have R2 : rowOK (ask2 (uB (uN (uN (uAN (uN S 0 0) 36 (va_up (sAN S 36) (sN S 35) (b8 b))) 35 (sN S 35 + 1)) 32 (sN S 32 - 1)) 33 (decide (0 < sN S 32 - 1)))) := fun k => by show cpyR (uB (uN (uN (uAN (uN S 0 0) 36 (va_up (sAN S 36) (sN S 35) (b8 b))) 35 (sN S 35 + 1)) 32 (sN S 32 - 1)) 33 (decide (0 < sN S 32 - 1))) (sN (uB (uN (uN (uAN (uN S 0 0) 36 (va_up (sAN S 36) (sN S 35) (b8 b))) 35 (sN S 35 + 1)) 32 (sN S 32 - 1)) 33 (decide (0 < sN S 32 - 1))) 35) k < 256; unfold cpyR; split; exact hu k; exact R k
      refine z_heap (HP (cfun (ask2 (uB (uN (uN (uAN (uN S 0 0) 36 (va_up (sAN S 36) (sN S 35) (b8 b))) 35 (sN S 35 + 1)) 32 (sN S 32 - 1)) 33 (decide (0 < sN S 32 - 1)))) (wf (wb (wd x (xd x)) true) (upd (xf x) (sN S 35) b.toInt8.toInt32))) m d) rfl ?_
      refine z_aload_n F dX5_ask_20 rfl rfl ?_
      refine z_aload_n F dX5_ask_21 rfl rfl ?_
      refine z_getf F vF_X5_57 dX5_ask_22 cO_at rfl ?_
      refine z_callV F z_nwOK wL_good (c_X5_conclude (S := ask2 (uB (uN (uN (uAN (uN S 0 0) 36 (va_up (sAN S 36) (sN S 35) (b8 b))) 35 (sN S 35 + 1)) 32 (sN S 32 - 1)) 33 (decide (0 < sN S 32 - 1)))) (w := false) C2 Q2 R2 W V U Y Z) cO_at rfl vI_X5_conclude vM_X5_128 vV_X5_conclude vL_X5_conclude rfl dX5_ask_25 rfl rfl (Nat.le_of_ble_eq_true rfl) ⟨(Nat.le_of_ble_eq_true rfl), (Nat.le_of_ble_eq_true rfl), (Nat.le_of_ble_eq_true rfl), (Nat.le_of_ble_eq_true rfl)⟩ (fun v h1 hq => ?_)
      obtain ⟨rfl, x2, d2, rfl, C3, E3⟩ := hq
      refine z_aload_n F dX5_ask_28 rfl rfl ?_
      refine z_getf F vF_X5_67 dX5_ask_29 cO_at rfl ?_
      refine z_getf F vF_X5_132 dX5_ask_32 cAn.1 rfl ?_
      exact z_iret F hr dX5_ask_35 rfl (Nat.le_of_ble_eq_true rfl) (Nat.le_of_ble_eq_true rfl) (⟨by rw [hs], x2, d2, by rw [hs], by rw [hs]; exact ⟨C3, (congrArg (fun t => t.1) (E3.2.2 rfl).2).trans C.2.1, (E3.2.2 rfl).1.trans (hD.symm.trans (lk_B33 (ask2 (uB (uN (uN (uAN (uN S 0 0) 36 (va_up (sAN S 36) (sN S 35) (b8 b))) 35 (sN S 35 + 1)) 32 (sN S 32 - 1)) 33 (decide (0 < sN S 32 - 1))))).symm), E3.1.trans (lk_L4 (ask2 (uB (uN (uN (uAN (uN S 0 0) 36 (va_up (sAN S 36) (sN S 35) (b8 b))) 35 (sN S 35 + 1)) 32 (sN S 32 - 1)) 33 (decide (0 < sN S 32 - 1))))).symm⟩⟩)
    · have hD : sB (uB (uN (uN (uAN (uN S 0 0) 36 (va_up (sAN S 36) (sN S 35) (b8 b))) 35 (sN S 35 + 1)) 32 (sN S 32 - 1)) 33 (decide (0 < sN S 32 - 1))) 33 = true := decide_eq_true (by have h9 := of_decide_eq_false (z_b0.mp c15); have h9 : ¬ xd x ≤ sN S 35 + 1 := h9; omega)
      have hs : sp_ask S b = (0, uB (uN (uN (uAN (uN S 0 0) 36 (va_up (sAN S 36) (sN S 35) (b8 b))) 35 (sN S 35 + 1)) 32 (sN S 32 - 1)) 33 (decide (0 < sN S 32 - 1))) := by unfold sp_ask askE; rw [h1, if_pos hD]
      refine z_iconst (v := 0) F dX5_ask_18 rfl ?_
      exact z_iret F hr dX5_ask_19 rfl (Nat.le_of_ble_eq_true rfl) (Nat.le_of_ble_eq_true rfl) (⟨by rw [hs], wf (wb (wd x (xd x)) true) (upd (xf x) (sN S 35) b.toInt8.toInt32), d, by rw [hs], by rw [hs]; exact ⟨CD, C.2.1, hD.symm, C.2.2.2⟩⟩)
  · have h1 : ask1 S b = uB (uN (uB (uN (uN (uN S 0 0) 32 (b8 b % 128)) 32 (min (b8 b % 128) 60)) 34 (decide (127 < b8 b))) 35 0) 33 (decide (0 < (min (b8 b % 128) 60))) := if_neg hB
    have hq1 : Q_at (HP (cfun S x) m d) 4 5 false (xd x) (sN S 35) (sB S 34) (xf x) := by have h := cQ1 (S := S) (x := x) (m := m) (d := d); rw [C.2.2.1, eq_false_of_ne_true hB] at h; exact h
    have QD : QR (uB (uN (uB (uN (uN (uN S 0 0) 32 (b8 b % 128)) 32 (min (b8 b % 128) 60)) 34 (decide (127 < b8 b))) 35 0) 33 (decide (0 < (min (b8 b % 128) 60)))) (wf (wb (wd x (min (b8 b % 128) 60)) true) (xf x)) := ⟨fun _ => show (min (b8 b % 128) 60) = 0 + (min (b8 b % 128) 60) by omega, fun j hj => absurd hj (Nat.not_lt_zero j)⟩
    have CD : CR (uB (uN (uB (uN (uN (uN S 0 0) 32 (b8 b % 128)) 32 (min (b8 b % 128) 60)) 34 (decide (127 < b8 b))) 35 0) 33 (decide (0 < (min (b8 b % 128) 60)))) (wf (wb (wd x (min (b8 b % 128) 60)) true) (xf x)) d := ⟨C.1.1, C.1.2.1, C.1.2.2.1, C.1.2.2.2.1, QD, C.1.2.2.2.2.2⟩
    have hu : ∀ k, sAN (uB (uN (uB (uN (uN (uN S 0 0) 32 (b8 b % 128)) 32 (min (b8 b % 128) 60)) 34 (decide (127 < b8 b))) 35 0) 33 (decide (0 < (min (b8 b % 128) 60)))) 36 k < 256 := N.1
    have hdu : xd (wf (wb (wd x (min (b8 b % 128) 60)) true) (xf x)) ≤ 60 := show (min (b8 b % 128) 60) ≤ 60 by omega
    have hT := c_X2_take0 b hq1
    rw [due_b8, neg_b8 hb] at hT
    refine z_aload_n F dX5_ask_0 rfl rfl ?_
    refine z_getf F vF_X5_57 dX5_ask_1 cO_at rfl ?_
    refine z_iload_n F dX5_ask_4 rfl ?_
    refine z_callV F z_nwOK wL_good (hT) hq1.1 rfl vI_X2_take vM_X5_121 vV_X2_take vL_X2_take rfl dX5_ask_5 rfl rfl (Nat.le_of_ble_eq_true rfl) ⟨(Nat.le_of_ble_eq_true rfl), (Nat.le_of_ble_eq_true rfl), (Nat.le_of_ble_eq_true rfl), (Nat.le_of_ble_eq_true rfl)⟩ (fun v h1 hq => ?_)
    obtain ⟨rfl, rfl⟩ := hq
    refine z_heap (HP (cfun (uB (uN (uB (uN (uN (uN S 0 0) 32 (b8 b % 128)) 32 (min (b8 b % 128) 60)) 34 (decide (127 < b8 b))) 35 0) 33 (decide (0 < (min (b8 b % 128) 60)))) (wf (wb (wd x (min (b8 b % 128) 60)) true) (xf x))) m d) rfl ?_
    refine z_aload_n F dX5_ask_8 rfl rfl ?_
    refine z_getf F vF_X5_57 dX5_ask_9 cO_at rfl ?_
    refine z_callV F z_nwOK wL_good (c_X2_isWhole (cQ1 (S := uB (uN (uB (uN (uN (uN S 0 0) 32 (b8 b % 128)) 32 (min (b8 b % 128) 60)) 34 (decide (127 < b8 b))) 35 0) 33 (decide (0 < (min (b8 b % 128) 60)))) (x := wf (wb (wd x (min (b8 b % 128) 60)) true) (xf x))) (Nat.zero_le 60) hdu) cQ1.1 rfl vI_X2_isWhole vM_X5_125 vV_X2_isWhole vL_X2_isWhole rfl dX5_ask_12 rfl rfl (Nat.le_of_ble_eq_true rfl) ⟨(Nat.le_of_ble_eq_true rfl), (Nat.le_of_ble_eq_true rfl), (Nat.le_of_ble_eq_true rfl), (Nat.le_of_ble_eq_true rfl)⟩ (fun v h1 hq => ?_)
    obtain ⟨rfl, rfl⟩ := hq
    refine z_if_ne (tgt := 20) F dX5_ask_15 (by decide) (fun c15 => ?_) (fun c15 => ?_)
    · have hD : sB (uB (uN (uB (uN (uN (uN S 0 0) 32 (b8 b % 128)) 32 (min (b8 b % 128) 60)) 34 (decide (127 < b8 b))) 35 0) 33 (decide (0 < (min (b8 b % 128) 60)))) 33 = false := decide_eq_false (fun h => by have h9 := of_decide_eq_true (z_b1 c15); have h9 : (min (b8 b % 128) 60) ≤ 0 := h9; omega)
      have hs : sp_ask S b = (nI (sN (lkS (ask2 (uB (uN (uB (uN (uN (uN S 0 0) 32 (b8 b % 128)) 32 (min (b8 b % 128) 60)) 34 (decide (127 < b8 b))) 35 0) 33 (decide (0 < (min (b8 b % 128) 60)))))) 40), lkS (ask2 (uB (uN (uB (uN (uN (uN S 0 0) 32 (b8 b % 128)) 32 (min (b8 b % 128) 60)) 34 (decide (127 < b8 b))) 35 0) 33 (decide (0 < (min (b8 b % 128) 60)))))) := by unfold sp_ask askE; rw [h1, if_neg (by rw [hD]; decide)]
      have C2 : CR (ask2 (uB (uN (uB (uN (uN (uN S 0 0) 32 (b8 b % 128)) 32 (min (b8 b % 128) 60)) 34 (decide (127 < b8 b))) 35 0) 33 (decide (0 < (min (b8 b % 128) 60))))) (wf (wb (wd x (min (b8 b % 128) 60)) true) (xf x)) d := CD
      have Q2 : QV false (ask2 (uB (uN (uB (uN (uN (uN S 0 0) 32 (b8 b % 128)) 32 (min (b8 b % 128) 60)) 34 (decide (127 < b8 b))) 35 0) 33 (decide (0 < (min (b8 b % 128) 60))))) (wf (wb (wd x (min (b8 b % 128) 60)) true) (xf x)) := ⟨rfl, Nat.zero_le 60, fun k hk => (if_pos hk).trans ((CD.2.2.2.2.1.2 k hk).trans (if_pos hk).symm), rfl⟩
      have R2 : rowOK (ask2 (uB (uN (uB (uN (uN (uN S 0 0) 32 (b8 b % 128)) 32 (min (b8 b % 128) 60)) 34 (decide (127 < b8 b))) 35 0) 33 (decide (0 < (min (b8 b % 128) 60))))) := fun k => by show cpyR (uB (uN (uB (uN (uN (uN S 0 0) 32 (b8 b % 128)) 32 (min (b8 b % 128) 60)) 34 (decide (127 < b8 b))) 35 0) 33 (decide (0 < (min (b8 b % 128) 60)))) (sN (uB (uN (uB (uN (uN (uN S 0 0) 32 (b8 b % 128)) 32 (min (b8 b % 128) 60)) 34 (decide (127 < b8 b))) 35 0) 33 (decide (0 < (min (b8 b % 128) 60)))) 35) k < 256; unfold cpyR; split; exact hu k; exact R k
      refine z_heap (HP (cfun (ask2 (uB (uN (uB (uN (uN (uN S 0 0) 32 (b8 b % 128)) 32 (min (b8 b % 128) 60)) 34 (decide (127 < b8 b))) 35 0) 33 (decide (0 < (min (b8 b % 128) 60))))) (wf (wb (wd x (min (b8 b % 128) 60)) true) (xf x))) m d) rfl ?_
      refine z_aload_n F dX5_ask_20 rfl rfl ?_
      refine z_aload_n F dX5_ask_21 rfl rfl ?_
      refine z_getf F vF_X5_57 dX5_ask_22 cO_at rfl ?_
      refine z_callV F z_nwOK wL_good (c_X5_conclude (S := ask2 (uB (uN (uB (uN (uN (uN S 0 0) 32 (b8 b % 128)) 32 (min (b8 b % 128) 60)) 34 (decide (127 < b8 b))) 35 0) 33 (decide (0 < (min (b8 b % 128) 60))))) (w := false) C2 Q2 R2 W V U Y Z) cO_at rfl vI_X5_conclude vM_X5_128 vV_X5_conclude vL_X5_conclude rfl dX5_ask_25 rfl rfl (Nat.le_of_ble_eq_true rfl) ⟨(Nat.le_of_ble_eq_true rfl), (Nat.le_of_ble_eq_true rfl), (Nat.le_of_ble_eq_true rfl), (Nat.le_of_ble_eq_true rfl)⟩ (fun v h1 hq => ?_)
      obtain ⟨rfl, x2, d2, rfl, C3, E3⟩ := hq
      refine z_aload_n F dX5_ask_28 rfl rfl ?_
      refine z_getf F vF_X5_67 dX5_ask_29 cO_at rfl ?_
      refine z_getf F vF_X5_132 dX5_ask_32 cAn.1 rfl ?_
      exact z_iret F hr dX5_ask_35 rfl (Nat.le_of_ble_eq_true rfl) (Nat.le_of_ble_eq_true rfl) (⟨by rw [hs], x2, d2, by rw [hs], by rw [hs]; exact ⟨C3, (congrArg (fun t => t.1) (E3.2.2 rfl).2).trans C.2.1, (E3.2.2 rfl).1.trans (hD.symm.trans (lk_B33 (ask2 (uB (uN (uB (uN (uN (uN S 0 0) 32 (b8 b % 128)) 32 (min (b8 b % 128) 60)) 34 (decide (127 < b8 b))) 35 0) 33 (decide (0 < (min (b8 b % 128) 60)))))).symm), E3.1.trans (lk_L4 (ask2 (uB (uN (uB (uN (uN (uN S 0 0) 32 (b8 b % 128)) 32 (min (b8 b % 128) 60)) 34 (decide (127 < b8 b))) 35 0) 33 (decide (0 < (min (b8 b % 128) 60)))))).symm⟩⟩)
    · have hD : sB (uB (uN (uB (uN (uN (uN S 0 0) 32 (b8 b % 128)) 32 (min (b8 b % 128) 60)) 34 (decide (127 < b8 b))) 35 0) 33 (decide (0 < (min (b8 b % 128) 60)))) 33 = true := decide_eq_true (by have h9 := of_decide_eq_false (z_b0.mp c15); have h9 : ¬ (min (b8 b % 128) 60) ≤ 0 := h9; omega)
      have hs : sp_ask S b = (0, uB (uN (uB (uN (uN (uN S 0 0) 32 (b8 b % 128)) 32 (min (b8 b % 128) 60)) 34 (decide (127 < b8 b))) 35 0) 33 (decide (0 < (min (b8 b % 128) 60)))) := by unfold sp_ask askE; rw [h1, if_pos hD]
      refine z_iconst (v := 0) F dX5_ask_18 rfl ?_
      exact z_iret F hr dX5_ask_19 rfl (Nat.le_of_ble_eq_true rfl) (Nat.le_of_ble_eq_true rfl) (⟨by rw [hs], wf (wb (wd x (min (b8 b % 128) 60)) true) (xf x), d, by rw [hs], by rw [hs]; exact ⟨CD, C.2.1, hD.symm, C.2.2.2⟩⟩)

theorem tr_take {S : z_S} {x : z_Xc} {m : Nat → z_E} {d : z_H} {f g : Nat → Int32} {n k : Nat} : Q_set (HP (cfun S (wq x (true, 3, n, false, f))) m d) 6 7 true 3 k false g = HP (cfun S (wq x (true, 3, k, false, g))) m d := rfl
theorem tr_heap {S : z_S} {x : z_Xc} {m : Nat → z_E} {d : z_H} {c b : Int32} : HP (cfun S x) m d = HP (cfun (trD S c b) x) m d := rfl
theorem tr_row {S : z_S} {c b : Int32} {f : Nat → Int32} : ∀ k, k < 3 → Qn (upd (upd (upd f 0 (54 : Int32).toInt8.toInt32) 1 c.toInt8.toInt32.toInt8.toInt32) 2 b.toInt8.toInt32) 3 k = sAN (trD S c b) 39 k := fun k hk => by
  unfold Qn
  rw [if_pos hk]
  have h3 : k = 0 ∨ k = 1 ∨ k = 2 := by omega
  rcases h3 with rfl | rfl | rfl
  · show (54 : Int32).toInt8.toInt32.toBitVec.toNat % 256 = 54
    decide
  · show c.toInt8.toInt32.toInt8.toInt32.toBitVec.toNat % 256 = b8 c
    rw [i8_b8]
    exact i8_b8 c
  · show b.toInt8.toInt32.toBitVec.toNat % 256 = b8 b
    exact i8_b8 b

set_option maxRecDepth 100000 in
set_option maxHeartbeats 1000000 in
theorem c_X5_transfer {S : z_S} {x : z_Xc} {m : Nat → z_E} {d : z_H} {c b : Int32} (C : CT S x d) (R : rowOK S) (W : idsOK S) (V : numsOK S) (U : trOK S) (Y : rtsOK S) (Z : rtU S) : z_K yX5_transfer cX5_transfer 4 (some .int) 7 0 0 [.ref 1, .int c, .int b] (HP (cfun S x) m d) (fun v h' => v = some (.int (sp_transfer S c b).1) ∧ ∃ (x' : z_Xc) (d' : z_H), h' = HP (cfun (sp_transfer S c b).2 x') m d' ∧ CT (sp_transfer S c b).2 x' d') := by
  have hq1 : Q_at (HP (cfun S x) m d) 6 7 false (xq x).2.1 (xq x).2.2.1 (xq x).2.2.2.1 (xq x).2.2.2.2 := by have h := cQ2 (S := S) (x := x) (m := m) (d := d); rw [C.2.1] at h; exact h
  have hT := c_X2_take0 3 hq1
  rw [show min ((3 : Int32).toBitVec.toNat % 128) 60 = 3 from by decide, show decide ((3 : Int32) < 0) = false from by decide] at hT
  refine z_met vI_X5_transfer (Nat.le_of_ble_eq_true rfl) (fun G X F hr hnm => ?_)
  refine z_aload_n F dX5_transfer_0 rfl rfl ?_
  refine z_getf F vF_X5_74 dX5_transfer_1 cO_at rfl ?_
  refine z_getf F vF_X5_148 dX5_transfer_4 cTr rfl ?_
  refine z_istore_n F dX5_transfer_7 (Nat.le_of_ble_eq_true rfl) ?_
  refine z_aload_n F dX5_transfer_8 rfl rfl ?_
  refine z_getf F vF_X5_61 dX5_transfer_9 cO_at rfl ?_
  refine z_iconst (v := 3) F dX5_transfer_12 rfl ?_
  refine z_callV F z_nwOK wL_good (hT) cQ2.1 rfl vI_X2_take vM_X5_121 vV_X2_take vL_X2_take rfl dX5_transfer_13 rfl rfl (Nat.le_of_ble_eq_true rfl) ⟨(Nat.le_of_ble_eq_true rfl), (Nat.le_of_ble_eq_true rfl), (Nat.le_of_ble_eq_true rfl), (Nat.le_of_ble_eq_true rfl)⟩ (fun v h1 hq => ?_)
  obtain ⟨rfl, rfl⟩ := hq
  refine z_heap _ sQ2 ?_
  refine z_aload_n F dX5_transfer_16 rfl rfl ?_
  refine z_getf F vF_X5_61 dX5_transfer_17 cO_at rfl ?_
  refine z_bipush (v := 54) F dX5_transfer_20 rfl ?_
  refine z_callV F z_nwOK wL_good (c_X2_take1 (due := 3) (n := 0) (al := false) (f := (xq x).2.2.2.2) 54 cQ2 (by decide)) cQ2.1 rfl vI_X2_take vM_X5_121 vV_X2_take vL_X2_take rfl dX5_transfer_22 rfl rfl (Nat.le_of_ble_eq_true rfl) ⟨(Nat.le_of_ble_eq_true rfl), (Nat.le_of_ble_eq_true rfl), (Nat.le_of_ble_eq_true rfl), (Nat.le_of_ble_eq_true rfl)⟩ (fun v h1 hq => ?_)
  obtain ⟨rfl, rfl⟩ := hq
  refine z_heap _ tr_take ?_
  refine z_aload_n F dX5_transfer_25 rfl rfl ?_
  refine z_getf F vF_X5_61 dX5_transfer_26 cO_at rfl ?_
  refine z_iload_n F dX5_transfer_29 rfl ?_
  refine z_i2b F dX5_transfer_30 ?_
  refine z_callV F z_nwOK wL_good (c_X2_take1 (due := 3) (n := 1) (al := false) (f := (upd (xq x).2.2.2.2 0 (54 : Int32).toInt8.toInt32)) c.toInt8.toInt32 cQ2 (by decide)) cQ2.1 rfl vI_X2_take vM_X5_121 vV_X2_take vL_X2_take rfl dX5_transfer_31 rfl rfl (Nat.le_of_ble_eq_true rfl) ⟨(Nat.le_of_ble_eq_true rfl), (Nat.le_of_ble_eq_true rfl), (Nat.le_of_ble_eq_true rfl), (Nat.le_of_ble_eq_true rfl)⟩ (fun v h1 hq => ?_)
  obtain ⟨rfl, rfl⟩ := hq
  refine z_heap _ tr_take ?_
  refine z_aload_n F dX5_transfer_34 rfl rfl ?_
  refine z_getf F vF_X5_61 dX5_transfer_35 cO_at rfl ?_
  refine z_iload_n F dX5_transfer_38 rfl ?_
  refine z_callV F z_nwOK wL_good (c_X2_take1 (due := 3) (n := 2) (al := false) (f := (upd (upd (xq x).2.2.2.2 0 (54 : Int32).toInt8.toInt32) 1 c.toInt8.toInt32.toInt8.toInt32)) b cQ2 (by decide)) cQ2.1 rfl vI_X2_take vM_X5_121 vV_X2_take vL_X2_take rfl dX5_transfer_39 rfl rfl (Nat.le_of_ble_eq_true rfl) ⟨(Nat.le_of_ble_eq_true rfl), (Nat.le_of_ble_eq_true rfl), (Nat.le_of_ble_eq_true rfl), (Nat.le_of_ble_eq_true rfl)⟩ (fun v h1 hq => ?_)
  obtain ⟨rfl, rfl⟩ := hq
  refine z_heap _ tr_take ?_
  have C4 : CR (trD S c b) (wq x (true, 3, 2 + 1, false, (upd (upd (upd (xq x).2.2.2.2 0 (54 : Int32).toInt8.toInt32) 1 c.toInt8.toInt32.toInt8.toInt32) 2 b.toInt8.toInt32))) d := C.1
  have Q4 : QV true (trD S c b) (wq x (true, 3, 2 + 1, false, (upd (upd (upd (xq x).2.2.2.2 0 (54 : Int32).toInt8.toInt32) 1 c.toInt8.toInt32.toInt8.toInt32) 2 b.toInt8.toInt32))) := ⟨rfl, Nat.le_of_ble_eq_true rfl, tr_row, rfl⟩
  refine z_heap _ (tr_heap (c := c) (b := b)) ?_
  refine z_aload_n F dX5_transfer_42 rfl rfl ?_
  refine z_aload_n F dX5_transfer_43 rfl rfl ?_
  refine z_getf F vF_X5_61 dX5_transfer_44 cO_at rfl ?_
  refine z_callV F z_nwOK wL_good (c_X5_conclude (S := trD S c b) (w := true) C4 Q4 (trD_row R c b) W V U Y Z) cO_at rfl vI_X5_conclude vM_X5_128 vV_X5_conclude vL_X5_conclude rfl dX5_transfer_47 rfl rfl (Nat.le_of_ble_eq_true rfl) ⟨(Nat.le_of_ble_eq_true rfl), (Nat.le_of_ble_eq_true rfl), (Nat.le_of_ble_eq_true rfl), (Nat.le_of_ble_eq_true rfl)⟩ (fun v h1 hq => ?_)
  obtain ⟨rfl, x5, d5, rfl, C5, E5⟩ := hq
  refine z_aload_n F dX5_transfer_50 rfl rfl ?_
  refine z_getf F vF_X5_51 dX5_transfer_51 cO_at rfl ?_
  rw [sF_lk]
  refine z_if_eq (tgt := 63) F dX5_transfer_54 (by decide) (fun c54 => ?_) (fun c54 => ?_)
  · have hp : (lkR (trD S c b)).1 = 0 := (nI_eq (a := (lkR (trD S c b)).1) (b := 0) (by have := (svK_lk (S := trD S c b) W).2.2.2.1; omega) (by decide)).mp c54
    obtain ⟨o1, o2, o3⟩ := tr_open hp
    have v1 := (C.1.2.2.2.2.2.2.1 o1).1
    have v2 := (C5.2.2.2.2.2.2.1 o2).1
    have b1 := C.1.2.2.2.2.2.2.2.2.1
    have b2 := C5.2.2.2.2.2.2.2.2.1
    refine z_aload_n F dX5_transfer_63 rfl rfl ?_
    refine z_getf F vF_X5_74 dX5_transfer_64 cO_at rfl ?_
    refine z_getf F vF_X5_148 dX5_transfer_67 cTr rfl ?_
    refine z_iload_n F dX5_transfer_70 rfl ?_
    refine z_icmp_ge (tgt := 78) F dX5_transfer_71 (by decide) (fun c71 => ?_) (fun c71 => ?_)
    · have hs : sp_transfer S c b = (2, lkS (trD S c b)) := by unfold sp_transfer; rw [if_neg (by omega), if_neg (by have := (nI_leI (a := (xt x).1) (b := (xt x5).1) (by omega) (by omega)).mp c71; omega)]
      refine z_iconst (v := 2) F dX5_transfer_78 rfl ?_
      exact z_iret F hr dX5_transfer_79 rfl (Nat.le_of_ble_eq_true rfl) (Nat.le_of_ble_eq_true rfl) (⟨by rw [hs]; try rfl, x5, d5, by rw [hs], by rw [hs]; exact ⟨C5, (E5.2.1 rfl).2, (E5.2.1 rfl).1.trans (C.2.2.1.trans (lk_B33 (trD S c b)).symm), E5.1.trans (lk_L4 (trD S c b)).symm⟩⟩)
    · have hs : sp_transfer S c b = (1, lkS (trD S c b)) := by unfold sp_transfer; rw [if_neg (by omega), if_pos (by have := mt (nI_leI (a := (xt x).1) (b := (xt x5).1) (by omega) (by omega)).mpr c71; omega)]
      refine z_iconst (v := 1) F dX5_transfer_74 rfl ?_
      refine z_goto (tgt := 79) F dX5_transfer_75 (by decide) ?_
      exact z_iret F hr dX5_transfer_79 rfl (Nat.le_of_ble_eq_true rfl) (Nat.le_of_ble_eq_true rfl) (⟨by rw [hs]; try rfl, x5, d5, by rw [hs], by rw [hs]; exact ⟨C5, (E5.2.1 rfl).2, (E5.2.1 rfl).1.trans (C.2.2.1.trans (lk_B33 (trD S c b)).symm), E5.1.trans (lk_L4 (trD S c b)).symm⟩⟩)
  · have hp : 0 < (lkR (trD S c b)).1 := Nat.pos_of_ne_zero (fun e => c54 (by rw [e]; rfl))
    have hs : sp_transfer S c b = (-nI (lkR (trD S c b)).1, lkS (trD S c b)) := by unfold sp_transfer; rw [if_pos hp]
    refine z_aload_n F dX5_transfer_57 rfl rfl ?_
    refine z_getf F vF_X5_51 dX5_transfer_58 cO_at rfl ?_
    rw [sF_lk]
    refine z_ineg F dX5_transfer_61 ?_
    exact z_iret F hr dX5_transfer_62 rfl (Nat.le_of_ble_eq_true rfl) (Nat.le_of_ble_eq_true rfl) (⟨by rw [hs]; try rfl, x5, d5, by rw [hs], by rw [hs]; exact ⟨C5, (E5.2.1 rfl).2, (E5.2.1 rfl).1.trans (C.2.2.1.trans (lk_B33 (trD S c b)).symm), E5.1.trans (lk_L4 (trD S c b)).symm⟩⟩)
