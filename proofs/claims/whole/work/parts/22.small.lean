theorem A_keep {h h' : z_H} {a o n : Nat} {f : Nat → Int32} (H : A_at h a o n f) (h1 : h'[a]? = h[a]?) (h2 : h'[o]? = h[o]?) : A_at h' a o n f := ⟨h1.trans H.1, h2.trans H.2.1, H.2.2⟩
theorem Q_keep {h h' : z_H} {q o due n : Nat} {bg al : Bool} {f : Nat → Int32} (H : Q_at h q o bg due n al f) (h1 : h'[q]? = h[q]?) (h2 : h'[o]? = h[o]?) : Q_at h' q o bg due n al f := ⟨h1.trans H.1, h2.trans H.2.1, H.2.2⟩
/-- octets as numbers -/
def Qn (f : Nat → Int32) (n k : Nat) : Nat := if k < n then (f k).toBitVec.toNat % 256 else 0
theorem Qo_nI (f : Nat → Int32) (n k : Nat) : Qo f n k = nI (Qn f n k) := by
  unfold Qo Qn
  split
  · exact pk_and _ 8 (by decide)
  · rfl
theorem Qn_lt (f : Nat → Int32) (n k : Nat) : Qn f n k < 256 := by
  unfold Qn
  split
  · exact Nat.mod_lt _ (by decide)
  · decide
def sumN (s : Nat) (g : Nat → Nat) : Nat → Nat
  | 0 => s
  | k + 1 => (sumN s g k + g k) % 65536
theorem sumN_lt {s : Nat} (hs : s < 65536) (g : Nat → Nat) : ∀ k, sumN s g k < 65536
  | 0 => hs
  | _ + 1 => Nat.mod_lt _ (by decide)
/-! Routine -/
abbrev R_o (id : Int32) (steps : Nat) (st : Bool) (left w : Nat) : z_E := .inr (4, [.int id, .int (nI steps), .int (z_b st), .int (nI left), .int (nI w)])
/-! Transfer -/
abbrev T_o (op : Bool) (ms sm bl : Nat) : z_E := .inr (5, [.int (z_b op), .int (nI ms), .int (nI sm), .int (nI bl)])

set_option maxRecDepth 100000 in
set_option maxHeartbeats 1000000 in
theorem c_X3_init {h : z_H} {r s : Nat} {id : Int32} (hr0 : h[r]? = some (.inr (4, [.int 0, .int 0, .int 0, .int 0, .int 0]))) : z_K yX3_init cX3_init 3 none 1 0 0 [.ref r, .int id, .int (nI s)] h (fun v h' => v = none ∧ h' = h.set r (R_o id s false 0 0)) := by
  refine z_met vI_X3_init (Nat.le_of_ble_eq_true rfl) (fun G X F hr hnm => ?_)
  refine z_aload_n F dX3_init_0 rfl rfl ?_
  refine z_objInit F vM_X3_1 vO_i vO_c dX3_init_1 (Nat.le_of_ble_eq_true rfl) (Nat.le_of_ble_eq_true rfl) ?_
  refine z_aload_n F dX3_init_4 rfl rfl ?_
  refine z_iconst (v := 0) F dX3_init_5 rfl ?_
  refine z_putf F vF_X3_7 vT_X3 vD_X3_2 dX3_init_6 hr0 (Nat.le_of_ble_eq_true rfl) rfl rfl (fun g6 => ?_)
  refine z_aload_n F dX3_init_9 rfl rfl ?_
  refine z_iconst (v := 0) F dX3_init_10 rfl ?_
  refine z_putf F vF_X3_13 vT_X3 vD_X3_3 dX3_init_11 g6 (Nat.le_of_ble_eq_true rfl) rfl rfl (fun g11 => ?_)
  refine z_aload_n F dX3_init_14 rfl rfl ?_
  refine z_iconst (v := 0) F dX3_init_15 rfl ?_
  refine z_putf F vF_X3_17 vT_X3 vD_X3_4 dX3_init_16 g11 (Nat.le_of_ble_eq_true rfl) rfl rfl (fun g16 => ?_)
  refine z_aload_n F dX3_init_19 rfl rfl ?_
  refine z_iload_n F dX3_init_20 rfl ?_
  refine z_putF F vF_X3_20 vT_X3 vD_X3_0 ⟨_, rfl, rfl⟩ hnm dX3_init_21 g16 (Nat.le_of_ble_eq_true rfl) rfl rfl (fun g21 => ?_)
  refine z_aload_n F dX3_init_24 rfl rfl ?_
  refine z_iload_n F dX3_init_25 rfl ?_
  refine z_putF F vF_X3_23 vT_X3 vD_X3_1 ⟨_, rfl, rfl⟩ hnm dX3_init_26 g21 (Nat.le_of_ble_eq_true rfl) rfl rfl (fun g26 => ?_)
  exact z_vret F hr dX3_init_29 (Nat.le_of_ble_eq_true rfl) (Nat.le_of_ble_eq_true rfl) (⟨rfl, by simp only [List.set_set]; rfl⟩)

set_option maxRecDepth 100000 in
set_option maxHeartbeats 1000000 in
theorem c_X3_start {h : z_H} {r s l w : Nat} {id : Int32} {st : Bool} (hr0 : h[r]? = some (R_o id s st l w)) : z_K yX3_start cX3_start 1 none 0 0 0 [.ref r] h (fun v h' => v = none ∧ h' = h.set r (R_o id s true s 0)) := by
  refine z_met vI_X3_start (Nat.le_of_ble_eq_true rfl) (fun G X F hr hnm => ?_)
  refine z_aload_n F dX3_start_0 rfl rfl ?_
  refine z_iconst (v := 1) F dX3_start_1 rfl ?_
  refine z_putf F vF_X3_7 vT_X3 vD_X3_2 dX3_start_2 hr0 (Nat.le_of_ble_eq_true rfl) rfl rfl (fun g2 => ?_)
  refine z_aload_n F dX3_start_5 rfl rfl ?_
  refine z_aload_n F dX3_start_6 rfl rfl ?_
  refine z_getf F vF_X3_23 dX3_start_7 g2 rfl ?_
  refine z_putf F vF_X3_13 vT_X3 vD_X3_3 dX3_start_10 g2 (Nat.le_of_ble_eq_true rfl) rfl rfl (fun g10 => ?_)
  refine z_aload_n F dX3_start_13 rfl rfl ?_
  refine z_iconst (v := 0) F dX3_start_14 rfl ?_
  refine z_putf F vF_X3_17 vT_X3 vD_X3_4 dX3_start_15 g10 (Nat.le_of_ble_eq_true rfl) rfl rfl (fun g15 => ?_)
  exact z_vret F hr dX3_start_18 (Nat.le_of_ble_eq_true rfl) (Nat.le_of_ble_eq_true rfl) (⟨rfl, by simp only [List.set_set]; rfl⟩)

set_option maxRecDepth 100000 in
set_option maxHeartbeats 1000000 in
theorem c_X3_forget {h : z_H} {r s l w : Nat} {id : Int32} {st : Bool} (hr0 : h[r]? = some (R_o id s st l w)) : z_K yX3_forget cX3_forget 1 none 0 0 0 [.ref r] h (fun v h' => v = none ∧ h' = h.set r (R_o id s false 0 w)) := by
  refine z_met vI_X3_forget (Nat.le_of_ble_eq_true rfl) (fun G X F hr hnm => ?_)
  refine z_aload_n F dX3_forget_0 rfl rfl ?_
  refine z_iconst (v := 0) F dX3_forget_1 rfl ?_
  refine z_putf F vF_X3_7 vT_X3 vD_X3_2 dX3_forget_2 hr0 (Nat.le_of_ble_eq_true rfl) rfl rfl (fun g2 => ?_)
  refine z_aload_n F dX3_forget_5 rfl rfl ?_
  refine z_iconst (v := 0) F dX3_forget_6 rfl ?_
  refine z_putf F vF_X3_13 vT_X3 vD_X3_3 dX3_forget_7 g2 (Nat.le_of_ble_eq_true rfl) rfl rfl (fun g7 => ?_)
  exact z_vret F hr dX3_forget_10 (Nat.le_of_ble_eq_true rfl) (Nat.le_of_ble_eq_true rfl) (⟨rfl, by simp only [List.set_set]; rfl⟩)

set_option maxRecDepth 100000 in
set_option maxHeartbeats 1000000 in
theorem c_X3_step {h : z_H} {r s l w : Nat} {id : Int32} {st : Bool} (hr0 : h[r]? = some (R_o id s st l w)) (hl : l < 1000) : z_K yX3_step cX3_step 1 none 0 0 0 [.ref r] h (fun v h' => v = none ∧ h' = h.set r (R_o id s st (if st then l - 1 else l) w)) := by
  refine z_met vI_X3_step (Nat.le_of_ble_eq_true rfl) (fun G X F hr hnm => ?_)
  refine z_aload_n F dX3_step_0 rfl rfl ?_
  refine z_getf F vF_X3_7 dX3_step_1 hr0 rfl ?_
  refine z_if_eq (tgt := 24) F dX3_step_4 (by decide) (fun c4 => ?_) (fun c4 => ?_)
  · have hs := z_b0.mp c4
    subst hs
    exact z_vret F hr dX3_step_24 (Nat.le_of_ble_eq_true rfl) (Nat.le_of_ble_eq_true rfl) ⟨rfl, (z_sid hr0).symm⟩
  · refine z_aload_n F dX3_step_7 rfl rfl ?_
    refine z_getf F vF_X3_13 dX3_step_8 hr0 rfl ?_
    refine z_if_le (tgt := 24) F dX3_step_11 (by decide) (fun c11 => ?_) (fun c11 => ?_)
    · have h1 : l = 0 := by have := (nI_leI (b := 0) (by omega) (by decide)).mp c11; omega
      subst h1
      exact z_vret F hr dX3_step_24 (Nat.le_of_ble_eq_true rfl) (Nat.le_of_ble_eq_true rfl) ⟨rfl, by cases st <;> exact (z_sid hr0).symm⟩
    · have h1 : 0 < l := by have := mt (nI_leI (a := l) (b := 0) (by omega) (by decide)).mpr c11; omega
      have h2 : st = true := by cases st <;> first | rfl | exact absurd rfl c4
      subst h2
      refine z_aload_n F dX3_step_14 rfl rfl ?_
      refine z_dup F dX3_step_15 rfl ?_
      refine z_getf F vF_X3_13 dX3_step_16 hr0 rfl ?_
      refine z_iconst (v := 1) F dX3_step_19 rfl ?_
      refine z_isub F dX3_step_20 ?_
      rw [show nI l - 1 = nI (l - 1) from pk_sub (b := 1) h1]
      refine z_putf F vF_X3_13 vT_X3 vD_X3_3 dX3_step_21 hr0 (Nat.le_of_ble_eq_true rfl) rfl rfl (fun g21 => ?_)
      exact z_vret F hr dX3_step_24 (Nat.le_of_ble_eq_true rfl) (Nat.le_of_ble_eq_true rfl) (⟨rfl, rfl⟩)

set_option maxRecDepth 100000 in
set_option maxHeartbeats 1000000 in
theorem c_X4_init {h : z_H} {t : Nat} (ht : h[t]? = some (.inr (5, [.int 0, .int 0, .int 0, .int 0]))) : z_K yX4_init cX4_init 1 none 1 0 0 [.ref t] h (fun v h' => v = none ∧ h' = h.set t (T_o false 0 0 0)) := by
  refine z_met vI_X4_init (Nat.le_of_ble_eq_true rfl) (fun G X F hr hnm => ?_)
  refine z_aload_n F dX4_init_0 rfl rfl ?_
  refine z_objInit F vM_X4_1 vO_i vO_c dX4_init_1 (Nat.le_of_ble_eq_true rfl) (Nat.le_of_ble_eq_true rfl) ?_
  refine z_aload_n F dX4_init_4 rfl rfl ?_
  refine z_iconst (v := 0) F dX4_init_5 rfl ?_
  refine z_putf F vF_X4_7 vT_X4 vD_X4_0 dX4_init_6 ht (Nat.le_of_ble_eq_true rfl) rfl rfl (fun g6 => ?_)
  refine z_aload_n F dX4_init_9 rfl rfl ?_
  refine z_iconst (v := 0) F dX4_init_10 rfl ?_
  refine z_putf F vF_X4_13 vT_X4 vD_X4_1 dX4_init_11 g6 (Nat.le_of_ble_eq_true rfl) rfl rfl (fun g11 => ?_)
  refine z_aload_n F dX4_init_14 rfl rfl ?_
  refine z_iconst (v := 0) F dX4_init_15 rfl ?_
  refine z_putf F vF_X4_17 vT_X4 vD_X4_2 dX4_init_16 g11 (Nat.le_of_ble_eq_true rfl) rfl rfl (fun g16 => ?_)
  refine z_aload_n F dX4_init_19 rfl rfl ?_
  refine z_iconst (v := 0) F dX4_init_20 rfl ?_
  refine z_putf F vF_X4_20 vT_X4 vD_X4_3 dX4_init_21 g16 (Nat.le_of_ble_eq_true rfl) rfl rfl (fun g21 => ?_)
  exact z_vret F hr dX4_init_24 (Nat.le_of_ble_eq_true rfl) (Nat.le_of_ble_eq_true rfl) (⟨rfl, by simp only [List.set_set]; rfl⟩)

set_option maxRecDepth 100000 in
set_option maxHeartbeats 1000000 in
theorem c_X4_open {h : z_H} {t ms sm bl : Nat} {op : Bool} (ht : h[t]? = some (T_o op ms sm bl)) (k : Nat) : z_K yX4_open cX4_open 2 none 0 0 0 [.ref t, .int (nI k)] h (fun v h' => v = none ∧ h' = h.set t (T_o true k 0 0)) := by
  refine z_met vI_X4_open (Nat.le_of_ble_eq_true rfl) (fun G X F hr hnm => ?_)
  refine z_aload_n F dX4_open_0 rfl rfl ?_
  refine z_iconst (v := 1) F dX4_open_1 rfl ?_
  refine z_putf F vF_X4_7 vT_X4 vD_X4_0 dX4_open_2 ht (Nat.le_of_ble_eq_true rfl) rfl rfl (fun g2 => ?_)
  refine z_aload_n F dX4_open_5 rfl rfl ?_
  refine z_iload_n F dX4_open_6 rfl ?_
  refine z_putf F vF_X4_13 vT_X4 vD_X4_1 dX4_open_7 g2 (Nat.le_of_ble_eq_true rfl) rfl rfl (fun g7 => ?_)
  refine z_aload_n F dX4_open_10 rfl rfl ?_
  refine z_iconst (v := 0) F dX4_open_11 rfl ?_
  refine z_putf F vF_X4_17 vT_X4 vD_X4_2 dX4_open_12 g7 (Nat.le_of_ble_eq_true rfl) rfl rfl (fun g12 => ?_)
  refine z_aload_n F dX4_open_15 rfl rfl ?_
  refine z_iconst (v := 0) F dX4_open_16 rfl ?_
  refine z_putf F vF_X4_20 vT_X4 vD_X4_3 dX4_open_17 g12 (Nat.le_of_ble_eq_true rfl) rfl rfl (fun g17 => ?_)
  exact z_vret F hr dX4_open_20 (Nat.le_of_ble_eq_true rfl) (Nat.le_of_ble_eq_true rfl) (⟨rfl, by simp only [List.set_set]; rfl⟩)

set_option maxRecDepth 100000 in
set_option maxHeartbeats 1000000 in
theorem c_X4_close {h : z_H} {t ms sm bl : Nat} {op : Bool} (ht : h[t]? = some (T_o op ms sm bl)) : z_K yX4_close cX4_close 1 none 0 0 0 [.ref t] h (fun v h' => v = none ∧ h' = h.set t (T_o false 0 sm bl)) := by
  refine z_met vI_X4_close (Nat.le_of_ble_eq_true rfl) (fun G X F hr hnm => ?_)
  refine z_aload_n F dX4_close_0 rfl rfl ?_
  refine z_iconst (v := 0) F dX4_close_1 rfl ?_
  refine z_putf F vF_X4_7 vT_X4 vD_X4_0 dX4_close_2 ht (Nat.le_of_ble_eq_true rfl) rfl rfl (fun g2 => ?_)
  refine z_aload_n F dX4_close_5 rfl rfl ?_
  refine z_iconst (v := 0) F dX4_close_6 rfl ?_
  refine z_putf F vF_X4_13 vT_X4 vD_X4_1 dX4_close_7 g2 (Nat.le_of_ble_eq_true rfl) rfl rfl (fun g7 => ?_)
  exact z_vret F hr dX4_close_10 (Nat.le_of_ble_eq_true rfl) (Nat.le_of_ble_eq_true rfl) (⟨rfl, by simp only [List.set_set]; rfl⟩)

set_option maxRecDepth 100000 in
set_option maxHeartbeats 1000000 in
theorem c_X4_nextBlock {h : z_H} {t ms sm bl : Nat} {op : Bool} (ht : h[t]? = some (T_o op ms sm bl)) (hb : bl < 1000) : z_K yX4_nextBlock cX4_nextBlock 1 (some .int) 0 0 0 [.ref t] h (fun v h' => v = some (.int (nI ((bl + 1) % 256))) ∧ h' = h) := by
  refine z_met vI_X4_nextBlock (Nat.le_of_ble_eq_true rfl) (fun G X F hr hnm => ?_)
  refine z_aload_n F dX4_nextBlock_0 rfl rfl ?_
  refine z_getf F vF_X4_20 dX4_nextBlock_1 ht rfl ?_
  refine z_iconst (v := 1) F dX4_nextBlock_4 rfl ?_
  refine z_iadd F dX4_nextBlock_5 ?_
  rw [nI_1]
  refine z_sipush (v := 255) F dX4_nextBlock_6 rfl ?_
  refine z_iand F dX4_nextBlock_9 ?_
  rw [pk_andN (show bl + 1 < 2 ^ 32 by omega) 8 (by decide)]
  exact z_iret F hr dX4_nextBlock_10 rfl (Nat.le_of_ble_eq_true rfl) (Nat.le_of_ble_eq_true rfl) (⟨rfl, rfl⟩)

set_option maxRecDepth 100000 in
set_option maxHeartbeats 1000000 in
theorem c_X4_isBlockBefore {h : z_H} {t ms sm bl : Nat} {op : Bool} (ht : h[t]? = some (T_o op ms sm bl)) (c : Int32) (hb : bl < 1000) : z_K yX4_isBlockBefore cX4_isBlockBefore 2 (some .boolean) 0 0 0 [.ref t, .int c] h (fun v h' => v = some (.int (z_b (decide (0 < bl) && decide (c = nI (bl % 256))))) ∧ h' = h) := by
  refine z_met vI_X4_isBlockBefore (Nat.le_of_ble_eq_true rfl) (fun G X F hr hnm => ?_)
  refine z_aload_n F dX4_isBlockBefore_0 rfl rfl ?_
  refine z_getf F vF_X4_20 dX4_isBlockBefore_1 ht rfl ?_
  refine z_if_le (tgt := 23) F dX4_isBlockBefore_4 (by decide) (fun c4 => ?_) (fun c4 => ?_)
  · have hz : (decide (0 < bl) && decide (c = nI (bl % 256))) = false := by rw [decide_eq_false (by have := (nI_leI (b := 0) (by omega) (by decide)).mp c4; omega)]; rfl
    refine z_iconst (v := 0) F dX4_isBlockBefore_23 rfl ?_
    exact z_iret F hr dX4_isBlockBefore_24 rfl (Nat.le_of_ble_eq_true rfl) (Nat.le_of_ble_eq_true rfl) (⟨by rw [hz]; rfl, rfl⟩)
  · have hb0 : decide (0 < bl) = true := decide_eq_true (by have := mt (nI_leI (a := bl) (b := 0) (by omega) (by decide)).mpr c4; omega)
    refine z_iload_n F dX4_isBlockBefore_7 rfl ?_
    refine z_aload_n F dX4_isBlockBefore_8 rfl rfl ?_
    refine z_getf F vF_X4_20 dX4_isBlockBefore_9 ht rfl ?_
    refine z_sipush (v := 255) F dX4_isBlockBefore_12 rfl ?_
    refine z_iand F dX4_isBlockBefore_15 ?_
    rw [pk_andN (show bl < 2 ^ 32 by omega) 8 (by decide)]
    refine z_icmp_ne (tgt := 23) F dX4_isBlockBefore_16 (by decide) (fun c16 => ?_) (fun c16 => ?_)
    · have hz : (decide (0 < bl) && decide (c = nI (bl % 256))) = false := by rw [hb0, decide_eq_false c16]; rfl
      refine z_iconst (v := 0) F dX4_isBlockBefore_23 rfl ?_
      exact z_iret F hr dX4_isBlockBefore_24 rfl (Nat.le_of_ble_eq_true rfl) (Nat.le_of_ble_eq_true rfl) (⟨by rw [hz]; rfl, rfl⟩)
    · have hz : (decide (0 < bl) && decide (c = nI (bl % 256))) = true := by rw [hb0, decide_eq_true c16]; rfl
      refine z_iconst (v := 1) F dX4_isBlockBefore_19 rfl ?_
      refine z_goto (tgt := 24) F dX4_isBlockBefore_20 (by decide) ?_
      exact z_iret F hr dX4_isBlockBefore_24 rfl (Nat.le_of_ble_eq_true rfl) (Nat.le_of_ble_eq_true rfl) (⟨by rw [hz]; rfl, rfl⟩)

set_option maxRecDepth 100000 in
set_option maxHeartbeats 1000000 in
theorem l_X4_add {h : z_H} {t ms sm bl q o due n k : Nat} {op bg al : Bool} {f : Nat → Int32} (ht : h[t]? = some (T_o op ms sm bl)) (H : Q_at h q o bg due n al f) (htq : t ≠ q) (hto : t ≠ o) (hn : n ≤ 60) (hk : k < 60) (hsm : sm < 65536) (hkm : k ≤ ms) (hms : ms < 1000) (hbl : bl < 1000) {G : z_G} {X : z_X} (F : z_F vwCl z_ats z_nw wsL_law G RX4 cX4_add 4 (z_rm 1 0 0) X) (hr : X.2.2.2.2.2.2.2.2.1.sig.returnType = none) :
    ∀ (m i : Nat), i + m = k → z_V vwCl G 4 X (z_end vwCl z_ats z_nw G X 0 0 (fun v h' => v = none ∧ h' = h.set t (T_o op (ms - k) (sumN sm (fun i => Qn f n (i + 2)) k) (bl + 1)))) 0 0 2 [(0, .ref t), (1, .ref q), (2, .int (nI k)), (3, .int (nI (i + 1)))] [] (h.set t (T_o op ms (sumN sm (fun i => Qn f n (i + 2)) i) bl)) := by
  intro m
  induction m with
  | zero =>
    intro i hi
    obtain rfl : i = k := by omega
    have g0 := z_ss (c := T_o op ms (sumN sm (fun i => Qn f n (i + 2)) i) bl) ht
    refine z_iload_n F dX4_add_2 rfl ?_
    refine z_iload_n F dX4_add_3 rfl ?_
    refine z_icmp_gt (tgt := 30) F dX4_add_4 (by decide) (fun c4 => ?_) (fun c4 => absurd (nI_lt (show i < i + 1 by omega) (by omega)) c4)
    refine z_aload_n F dX4_add_30 rfl rfl ?_
    refine z_dup F dX4_add_31 rfl ?_
    refine z_getf F vF_X4_13 dX4_add_32 g0 rfl ?_
    refine z_iload_n F dX4_add_35 rfl ?_
    refine z_isub F dX4_add_36 ?_
    rw [pk_sub hkm]
    refine z_putf F vF_X4_13 vT_X4 vD_X4_1 dX4_add_37 g0 (Nat.le_of_ble_eq_true rfl) rfl rfl (fun g37 => ?_)
    refine z_aload_n F dX4_add_40 rfl rfl ?_
    refine z_dup F dX4_add_41 rfl ?_
    refine z_getf F vF_X4_20 dX4_add_42 g37 rfl ?_
    refine z_iconst (v := 1) F dX4_add_45 rfl ?_
    refine z_iadd F dX4_add_46 ?_
    rw [nI_1]
    refine z_putf F vF_X4_20 vT_X4 vD_X4_3 dX4_add_47 g37 (Nat.le_of_ble_eq_true rfl) rfl rfl (fun g47 => ?_)
    exact z_vret F hr dX4_add_50 (Nat.le_of_ble_eq_true rfl) (Nat.le_of_ble_eq_true rfl) (⟨rfl, by simp only [List.set_set]; rfl⟩)
  | succ m ih =>
    intro i hi
    have g0 := z_ss (c := T_o op ms (sumN sm (fun i => Qn f n (i + 2)) i) bl) ht
    have HQ := Q_keep (h' := h.set t (T_o op ms (sumN sm (fun i => Qn f n (i + 2)) i) bl)) H (z_sn htq) (z_sn hto)
    have hs := sumN_lt hsm (fun i => Qn f n (i + 2)) i
    have hx := Qn_lt f n (i + 1 + 1)
    refine z_iload_n F dX4_add_2 rfl ?_
    refine z_iload_n F dX4_add_3 rfl ?_
    refine z_icmp_gt (tgt := 30) F dX4_add_4 (by decide) (fun c4 => absurd c4 (nI_nlt (show i + 1 ≤ k by omega) (by omega))) (fun c4 => ?_)
    refine z_aload_n F dX4_add_7 rfl rfl ?_
    refine z_aload_n F dX4_add_8 rfl rfl ?_
    refine z_getf F vF_X4_17 dX4_add_9 g0 rfl ?_
    refine z_aload_n F dX4_add_12 rfl rfl ?_
    refine z_iload_n F dX4_add_13 rfl ?_
    refine z_callV F z_nwOK wL_good (c_X2_octetAt (p := i + 1) HQ hn (by omega)) HQ.1 rfl vI_X2_octetAt vM_X4_23 vV_X2_octetAt vL_X2_octetAt rfl dX4_add_14 rfl rfl (Nat.le_of_ble_eq_true rfl) ⟨(Nat.le_of_ble_eq_true rfl), (Nat.le_of_ble_eq_true rfl), (Nat.le_of_ble_eq_true rfl), (Nat.le_of_ble_eq_true rfl)⟩ (fun v h1 hq => ?_)
    obtain ⟨rfl, rfl⟩ := hq
    rw [Qo_nI]
    refine z_iadd F dX4_add_17 ?_
    rw [nI_add]
    refine z_ldc F vK_X4_29 dX4_add_18 ?_
    refine z_iand F dX4_add_20 ?_
    rw [pk_andN (show sumN sm (fun i => Qn f n (i + 2)) i + Qn f n (i + 1 + 1) < 2 ^ 32 by omega) 16 (by decide)]
    refine z_putf F vF_X4_17 vT_X4 vD_X4_2 dX4_add_21 g0 (Nat.le_of_ble_eq_true rfl) rfl rfl (fun g21 => ?_)
    refine z_iinc (w := 1) F dX4_add_24 rfl rfl (Nat.le_of_ble_eq_true rfl) ?_
    rw [nI_1]
    refine z_goto (tgt := 2) F dX4_add_27 (by decide) ?_
    simp only [List.set_set]
    exact ih (i + 1) (by omega)

set_option maxRecDepth 100000 in
set_option maxHeartbeats 1000000 in
theorem c_X4_add {h : z_H} {t ms sm bl q o due n k : Nat} {op bg al : Bool} {f : Nat → Int32} (ht : h[t]? = some (T_o op ms sm bl)) (H : Q_at h q o bg due n al f) (htq : t ≠ q) (hto : t ≠ o) (hn : n ≤ 60) (hk : k < 60) (hsm : sm < 65536) (hkm : k ≤ ms) (hms : ms < 1000) (hbl : bl < 1000) : z_K yX4_add cX4_add 4 none 1 0 0 [.ref t, .ref q, .int (nI k)] h (fun v h' => v = none ∧ h' = h.set t (T_o op (ms - k) (sumN sm (fun i => Qn f n (i + 2)) k) (bl + 1))) := by
  refine z_met vI_X4_add (Nat.le_of_ble_eq_true rfl) (fun G X F hr hnm => ?_)
  refine z_iconst (v := 1) F dX4_add_0 rfl ?_
  refine z_istore_n F dX4_add_1 (Nat.le_of_ble_eq_true rfl) ?_
  have hl := l_X4_add ht H htq hto hn hk hsm hkm hms hbl F hr k 0 (by omega)
  rw [show h.set t (T_o op ms (sumN sm (fun i => Qn f n (i + 2)) 0) bl) = h from z_sid ht] at hl
  exact hl
