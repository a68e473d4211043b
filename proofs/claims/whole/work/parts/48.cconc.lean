/-- what no service changes -/
def KS (S T : z_S) : Prop := sN T 8 = sN S 8 ∧ sN T 20 = sN S 20 ∧ sN T 7 = sN S 7 ∧ sN T 32 = sN S 32 ∧ sN T 35 = sN S 35 ∧ sN T 38 = sN S 38 ∧ sB T 5 = sB S 5 ∧ sB T 6 = sB S 6 ∧ sB T 33 = sB S 33 ∧ sB T 34 = sB S 34 ∧ sB T 37 = sB S 37 ∧ sL T = sL S ∧ sAN T 10 = sAN S 10 ∧ sAN T 11 = sAN S 11 ∧ sAN T 12 = sAN S 12 ∧ sAN T 18 = sAN S 18 ∧ sAN T 19 = sAN S 19 ∧ sAN T 22 = sAN S 22 ∧ sAN T 36 = sAN S 36 ∧ sAN T 39 = sAN S 39 ∧ sAB T 16 = sAB S 16 ∧ sAB T 17 = sAB S 17 ∧ sAI T = sAI S
set_option maxRecDepth 100000 in
set_option maxHeartbeats 1000000 in
theorem ks_16 (S : z_S) : KS S (sv16 S).2 ∧ ((sv16 S).1 = 0 ∨ sN (sv16 S).2 40 = sN S 40) := by
  unfold sv16
  repeat' split
  all_goals exact ⟨⟨rfl, rfl, rfl, rfl, rfl, rfl, rfl, rfl, rfl, rfl, rfl, rfl, rfl, rfl, rfl, rfl, rfl, rfl, rfl, rfl, rfl, rfl, rfl⟩, by first | exact Or.inl rfl | exact Or.inr rfl⟩
set_option maxRecDepth 100000 in
set_option maxHeartbeats 1000000 in
theorem ks_62 (S : z_S) : KS S (sv62 S).2 ∧ ((sv62 S).1 = 0 ∨ sN (sv62 S).2 40 = sN S 40) := by
  unfold sv62
  repeat' split
  all_goals exact ⟨⟨rfl, rfl, rfl, rfl, rfl, rfl, rfl, rfl, rfl, rfl, rfl, rfl, rfl, rfl, rfl, rfl, rfl, rfl, rfl, rfl, rfl, rfl, rfl⟩, by first | exact Or.inl rfl | exact Or.inr rfl⟩
set_option maxRecDepth 100000 in
set_option maxHeartbeats 1000000 in
theorem ks_17 (S : z_S) : KS S (sv17 S).2 ∧ ((sv17 S).1 = 0 ∨ sN (sv17 S).2 40 = sN S 40) := by
  unfold sv17
  repeat' split
  all_goals exact ⟨⟨rfl, rfl, rfl, rfl, rfl, rfl, rfl, rfl, rfl, rfl, rfl, rfl, rfl, rfl, rfl, rfl, rfl, rfl, rfl, rfl, rfl, rfl, rfl⟩, by first | exact Or.inl rfl | exact Or.inr rfl⟩
set_option maxRecDepth 100000 in
set_option maxHeartbeats 1000000 in
theorem ks_46 (S : z_S) : KS S (sv46 S).2 ∧ ((sv46 S).1 = 0 ∨ sN (sv46 S).2 40 = sN S 40) := by
  unfold sv46
  repeat' split
  all_goals exact ⟨⟨rfl, rfl, rfl, rfl, rfl, rfl, rfl, rfl, rfl, rfl, rfl, rfl, rfl, rfl, rfl, rfl, rfl, rfl, rfl, rfl, rfl, rfl, rfl⟩, by first | exact Or.inl rfl | exact Or.inr rfl⟩
set_option maxRecDepth 100000 in
set_option maxHeartbeats 1000000 in
theorem ks_47 (S : z_S) : KS S (sv47 S).2 ∧ ((sv47 S).1 = 0 ∨ sN (sv47 S).2 40 = sN S 40) := by
  unfold sv47
  repeat' split
  all_goals exact ⟨⟨rfl, rfl, rfl, rfl, rfl, rfl, rfl, rfl, rfl, rfl, rfl, rfl, rfl, rfl, rfl, rfl, rfl, rfl, rfl, rfl, rfl, rfl, rfl⟩, by first | exact Or.inl rfl | exact Or.inr rfl⟩
set_option maxRecDepth 100000 in
set_option maxHeartbeats 1000000 in
theorem ks_49 (S : z_S) : KS S (sv49 S).2 ∧ ((sv49 S).1 = 0 ∨ sN (sv49 S).2 40 = sN S 40) := by
  unfold sv49
  repeat' split
  all_goals exact ⟨⟨rfl, rfl, rfl, rfl, rfl, rfl, rfl, rfl, rfl, rfl, rfl, rfl, rfl, rfl, rfl, rfl, rfl, rfl, rfl, rfl, rfl, rfl, rfl⟩, by first | exact Or.inl rfl | exact Or.inr rfl⟩
set_option maxRecDepth 100000 in
set_option maxHeartbeats 1000000 in
theorem ks_52 (S : z_S) : KS S (sv52 S).2 ∧ ((sv52 S).1 = 0 ∨ sN (sv52 S).2 40 = sN S 40) := by
  unfold sv52
  repeat' split
  all_goals exact ⟨⟨rfl, rfl, rfl, rfl, rfl, rfl, rfl, rfl, rfl, rfl, rfl, rfl, rfl, rfl, rfl, rfl, rfl, rfl, rfl, rfl, rfl, rfl, rfl⟩, by first | exact Or.inl rfl | exact Or.inr rfl⟩
set_option maxRecDepth 100000 in
set_option maxHeartbeats 1000000 in
theorem ks_54 (S : z_S) : KS S (sv54 S).2 ∧ ((sv54 S).1 = 0 ∨ sN (sv54 S).2 40 = sN S 40) := by
  unfold sv54
  repeat' split
  all_goals exact ⟨⟨rfl, rfl, rfl, rfl, rfl, rfl, rfl, rfl, rfl, rfl, rfl, rfl, rfl, rfl, rfl, rfl, rfl, rfl, rfl, rfl, rfl, rfl, rfl⟩, by first | exact Or.inl rfl | exact Or.inr rfl⟩
set_option maxRecDepth 100000 in
set_option maxHeartbeats 1000000 in
theorem ks_55 (S : z_S) : KS S (sv55 S).2 ∧ ((sv55 S).1 = 0 ∨ sN (sv55 S).2 40 = sN S 40) := by
  unfold sv55
  repeat' split
  all_goals exact ⟨⟨rfl, rfl, rfl, rfl, rfl, rfl, rfl, rfl, rfl, rfl, rfl, rfl, rfl, rfl, rfl, rfl, rfl, rfl, rfl, rfl, rfl, rfl, rfl⟩, by first | exact Or.inl rfl | exact Or.inr rfl⟩
set_option maxRecDepth 100000 in
set_option maxHeartbeats 1000000 in
theorem ks_34 (S : z_S) : KS S (sv34 S).2 ∧ ((sv34 S).1 = 0 ∨ sN (sv34 S).2 40 = sN S 40) := by
  unfold sv34
  repeat' split
  all_goals exact ⟨⟨rfl, rfl, rfl, rfl, rfl, rfl, rfl, rfl, rfl, rfl, rfl, rfl, rfl, rfl, rfl, rfl, rfl, rfl, rfl, rfl, rfl, rfl, rfl⟩, by first | exact Or.inl rfl | exact Or.inr rfl⟩
theorem ks_d (S : z_S) : KS S (svd S).2 ∧ ((svd S).1 = 0 ∨ sN (svd S).2 40 = sN S 40) := by
  unfold svd
  repeat' split
  · exact ks_16 S
  · exact ks_17 S
  · exact ks_34 S
  · exact ks_46 S
  · exact ks_47 S
  · exact ks_49 S
  · exact ks_52 S
  · exact ks_54 S
  · exact ks_55 S
  · exact ks_62 S
  · exact ⟨⟨rfl, rfl, rfl, rfl, rfl, rfl, rfl, rfl, rfl, rfl, rfl, rfl, rfl, rfl, rfl, rfl, rfl, rfl, rfl, rfl, rfl, rfl, rfl⟩, Or.inr rfl⟩
theorem ks_lk (S : z_S) : KS (lk0 S) (lkR S).2 ∧ ((lkR S).1 = 0 ∨ sN (lkR S).2 40 = 0) := by
  unfold lkR
  split
  · exact ⟨⟨rfl, rfl, rfl, rfl, rfl, rfl, rfl, rfl, rfl, rfl, rfl, rfl, rfl, rfl, rfl, rfl, rfl, rfl, rfl, rfl, rfl, rfl, rfl⟩, Or.inr rfl⟩
  · exact ks_d (lk0 S)
theorem uN_same (S : z_S) (j : Nat) : uN S j (sN S j) = S := by
  unfold uN
  rw [show va_up S.1 j (sN S j) = S.1 from va_same _ j]
/-- the question ends -/
def eX (w : Bool) (x : z_Xc) : z_Xc := match w with
  | true => wq x (false, (xq x).2)
  | false => wb x false
theorem cEnd {S : z_S} {x : z_Xc} {m : Nat → z_E} {d : z_H} {w : Bool} : Q_set (HP (cfun S x) m d) (qa w) (qo w) false (qb w S x).2.1 (qb w S x).2.2.1 (qb w S x).2.2.2.1 (qb w S x).2.2.2.2 = HP (cfun S (eX w x)) m d := by cases w <;> rfl
theorem CR_eX {S : z_S} {x : z_Xc} {d : z_H} {w : Bool} (C : CR S x d) : CR S (eX w x) d := by
  cases w
  · exact C
  · exact C
theorem q_no {w : Bool} {S : z_S} {x : z_Xc} (Q : QV w S x) (h0 : 0 < sN S 38) (R : rowOK S) : Qw (Qo (qb w S x).2.2.2.2 (qb w S x).2.2.1 1) (Qo (qb w S x).2.2.2.2 (qb w S x).2.2.1 0) = noA S := by
  rw [Q.1, Qo_nI, Qo_nI, Q.2.2.1 0 h0]
  have r0 := R 0
  have r1 := R 1
  unfold Qw noA
  have e : ∀ v : Nat, v < 128 → decide (nI (sAN S 39 0) = nI v) = decide (sAN S 39 0 = v) := fun v hv => decide_eq_decide.mpr (nI_eq (by omega) (by omega))
  rw [show (16 : Int32) = nI 16 from rfl, show (17 : Int32) = nI 17 from rfl, show (49 : Int32) = nI 49 from rfl, show (62 : Int32) = nI 62 from rfl, e 16 (by decide), e 17 (by decide), e 49 (by decide), e 62 (by decide)]
  by_cases h : 1 < sN S 38
  · rw [Q.2.2.1 1 h, decide_eq_true h, show decide ((127 : Int32) < nI (sAN S 39 1)) = decide (127 < sAN S 39 1) from decide_eq_decide.mpr (nI_ltI (a := 127) (by decide) (by omega)), Bool.true_and]
  · unfold Qn
    rw [if_neg h, decide_eq_false h, Bool.false_and, Bool.false_and]
    rfl
/-- the class holds the state between calls -/
def CT (S : z_S) (x : z_Xc) (d : z_H) : Prop := CR S x d ∧ (xq x).1 = false ∧ xb x = sB S 33 ∧ xl x = sL S 4
def CE (w : Bool) (S : z_S) (x x' : z_Xc) : Prop := xl x' = sL S 3 ∧ (w = true → xb x' = xb x ∧ (xq x').1 = false) ∧ (w = false → xb x' = false ∧ xq x' = xq x)

theorem lkR_empty {S : z_S} (e : sN S 38 = 0) : (lkR S).1 = 19 := by unfold lkR; rw [if_pos e]
theorem CE_of {w : Bool} {S : z_S} {x x5 : z_Xc} (h1 : xl x5 = sL S 3) (h2 : xb x5 = xb x) (h3 : xq x5 = xq x) : CE w S x (eX w x5) := by
  cases w
  · exact ⟨h1, fun h => absurd h (by decide), fun _ => ⟨rfl, h3⟩⟩
  · exact ⟨h1, fun _ => ⟨h2, rfl⟩, fun h => absurd h (by decide)⟩
theorem qb_eq {w : Bool} {S T : z_S} {x x1 : z_Xc} (K1 : KX x x1) (h1 : sN T 35 = sN S 35) (h2 : sB T 34 = sB S 34) : qb w T x1 = qb w S x := by
  cases w
  · show (xb x1, xd x1, sN T 35, sB T 34, xf x1) = (xb x, xd x, sN S 35, sB S 34, xf x)
    rw [show xb x1 = xb x from congrArg (fun t => t.2.1) K1.2.1, show xd x1 = xd x from congrArg (fun t => t.1) K1.2.1, h1, h2, K1.1]
  · exact K1.2.2

set_option maxRecDepth 100000 in
set_option maxHeartbeats 1000000 in
theorem c_X5_conclude {S : z_S} {x : z_Xc} {m : Nat → z_E} {d : z_H} {w : Bool} (C : CR S x d) (Q : QV w S x) (R : rowOK S) (W : idsOK S) (V : numsOK S) (U : trOK S) (Y : rtsOK S) (Z : rtU S) : z_K yX5_conclude cX5_conclude 2 none 6 0 0 [.ref 1, .ref (qa w)] (HP (cfun S x) m d) (fun v h' => v = none ∧ ∃ (x' : z_Xc) (d' : z_H), h' = HP (cfun (lkS S) x') m d' ∧ CR (lkS S) x' d' ∧ CE w S x x') := by
  refine z_met vI_X5_conclude (Nat.le_of_ble_eq_true rfl) (fun G X F hr hnm => ?_)
  refine z_aload_n F dX5_conclude_0 rfl rfl ?_
  refine z_getf F vF_X5_67 dX5_conclude_1 cO_at rfl ?_
  refine z_callV F z_nwOK wL_good (c_X0_clear cAn) cAn.1 rfl vI_X0_clear vM_X5_177 vV_X0_clear vL_X0_clear rfl dX5_conclude_4 rfl rfl (Nat.le_of_ble_eq_true rfl) ⟨(Nat.le_of_ble_eq_true rfl), (Nat.le_of_ble_eq_true rfl), (Nat.le_of_ble_eq_true rfl), (Nat.le_of_ble_eq_true rfl)⟩ (fun v h1 hq => ?_)
  obtain ⟨rfl, rfl⟩ := hq
  refine z_heap (HP (cfun (lk0 S) x) m d) rfl ?_
  have C0 : CR (lk0 S) x d := ⟨C.1, C.2.1, C.2.2.1, C.2.2.2.1, C.2.2.2.2.1, ⟨Nat.zero_le _, fun j hj => absurd hj (Nat.not_lt_zero j)⟩, C.2.2.2.2.2.2⟩
  refine z_aload_n F dX5_conclude_7 rfl rfl ?_
  refine z_aload_n F dX5_conclude_8 rfl rfl ?_
  refine z_aload_n F dX5_conclude_9 rfl rfl ?_
  refine z_callV F z_nwOK wL_good (c_X5_serve (S := lk0 S) C0 (QV_to (S' := lk0 S) (x' := x) Q (by cases w <;> rfl) rfl rfl rfl) R W V U Y rfl Z) cO_at rfl vI_X5_serve vM_X5_180 vV_X5_serve vL_X5_serve rfl dX5_conclude_10 rfl rfl (Nat.le_of_ble_eq_true rfl) ⟨(Nat.le_of_ble_eq_true rfl), (Nat.le_of_ble_eq_true rfl), (Nat.le_of_ble_eq_true rfl), (Nat.le_of_ble_eq_true rfl)⟩ (fun v h1 hq => ?_)
  obtain ⟨rfl, x1, d1, rfl, C1, K1⟩ := hq
  have hz := (ks_lk S).2
  have K := (ks_lk S).1
  have h128 := (svK_lk W).2.2.2.1
  have e9 : srv (lk0 S) = lkR S := rfl
  rw [e9] at C1 ⊢
  clear e9
  cases hL : lkR S with
  | mk c T =>
    rw [hL] at C1 hz K h128
    have C1 : CR T x1 d1 := C1
    have hz : c = 0 ∨ sN T 40 = 0 := hz
    have h128 : c < 128 := h128
    have C2 : CR (uF T (nI c)) (wl x1 (sL T 3)) d1 := C1
    have hq3 : qb w T x1 = qb w S x := qb_eq K1 K.2.2.2.2.1 K.2.2.2.2.2.2.2.2.2.1
    have QT0 : QV w T x1 := QV_to Q hq3 K.2.2.2.2.2.1 K.2.2.2.2.2.2.2.2.2.2.2.2.2.2.2.2.2.2.2.1 K.2.2.2.2.2.2.2.2.2.2.1
    have QT : QV w (uF T (nI c)) (wl x1 (sL T 3)) := QV_to (S' := uF T (nI c)) (x' := (wl x1 (sL T 3))) QT0 (by cases w <;> rfl) rfl rfl rfl
    have hl3 : sL T 3 = sL S 3 := congrFun K.2.2.2.2.2.2.2.2.2.2.2.1 3
    refine z_putf F vF_X5_51 vT_X5 vD_X5_11 dX5_conclude_13 cO_at (Nat.le_of_ble_eq_true rfl) rfl rfl (fun g13 => ?_)
    refine z_heap _ (cs_11) ?_
    refine z_aload_n F dX5_conclude_16 rfl rfl ?_
    refine z_aload_n F dX5_conclude_17 rfl rfl ?_
    refine z_getf F vF_X5_44 dX5_conclude_18 cO_at rfl ?_
    refine z_putf F vF_X5_48 vT_X5 vD_X5_10 dX5_conclude_21 cO_at (Nat.le_of_ble_eq_true rfl) rfl rfl (fun g21 => ?_)
    refine z_heap _ (cs_10) ?_
    refine z_heap (HP (cfun (uF T (nI c)) (wl x1 (sL T 3))) m d1) rfl ?_
    refine z_aload_n F dX5_conclude_24 rfl rfl ?_
    refine z_getf F vF_X5_51 dX5_conclude_25 cO_at rfl ?_
    rw [show sF (uF T (nI c)) = nI c from rfl]
    refine z_if_eq (tgt := 82) F dX5_conclude_28 (by decide) (fun c28 => ?_) (fun c28 => ?_)
    · have hp : c = 0 := (nI_eq (a := c) (b := 0) (by omega) (by decide)).mp c28
      have h0 : 0 < sN S 38 := Nat.pos_of_ne_zero (fun e => absurd (lkR_empty e) (by rw [hL]; intro h9; have h9 : c = 19 := h9; omega))
      refine z_aload_n F dX5_conclude_82 rfl rfl ?_
      refine z_callV F z_nwOK wL_good (c_X2_wantsNoAnswer cQ (by rw [QT.1]; exact QT.2.1)) cQ.1 rfl vI_X2_wantsNoAnswer vM_X5_197 vV_X2_wantsNoAnswer vL_X2_wantsNoAnswer rfl dX5_conclude_83 rfl rfl (Nat.le_of_ble_eq_true rfl) ⟨(Nat.le_of_ble_eq_true rfl), (Nat.le_of_ble_eq_true rfl), (Nat.le_of_ble_eq_true rfl), (Nat.le_of_ble_eq_true rfl)⟩ (fun v h1 hq => ?_)
      obtain ⟨rfl, rfl⟩ := hq
      rw [q_no QT (show 0 < sN T 38 by rw [show sN T 38 = sN S 38 from K.2.2.2.2.2.1]; exact h0) (fun k => by rw [show sAN (uF T (nI c)) 39 = sAN S 39 from K.2.2.2.2.2.2.2.2.2.2.2.2.2.2.2.2.2.2.2.1]; exact R k), show noA (uF T (nI c)) = noA S from by unfold noA; rw [show sN (uF T (nI c)) 38 = sN S 38 from K.2.2.2.2.2.1, show sAN (uF T (nI c)) 39 = sAN S 39 from K.2.2.2.2.2.2.2.2.2.2.2.2.2.2.2.2.2.2.2.1]]
      refine z_if_eq (tgt := 96) F dX5_conclude_86 (by decide) (fun c86 => ?_) (fun c86 => ?_)
      · have hs : lkS S = uF T (nI c) := by unfold lkS; rw [hL]; show (if 0 < c then _ else _) = _; rw [if_neg (by omega), if_neg (by rw [z_b0.mp c86]; decide)]
        refine z_aload_n F dX5_conclude_96 rfl rfl ?_
        refine z_callV F z_nwOK wL_good (c_X2_end cQ) cQ.1 rfl vI_X2_end vM_X5_200 vV_X2_end vL_X2_end rfl dX5_conclude_97 rfl rfl (Nat.le_of_ble_eq_true rfl) ⟨(Nat.le_of_ble_eq_true rfl), (Nat.le_of_ble_eq_true rfl), (Nat.le_of_ble_eq_true rfl), (Nat.le_of_ble_eq_true rfl)⟩ (fun v h1 hq => ?_)
        obtain ⟨rfl, rfl⟩ := hq
        rw [cEnd]
        exact z_vret F hr dX5_conclude_100 (Nat.le_of_ble_eq_true rfl) (Nat.le_of_ble_eq_true rfl) (⟨rfl, eX w (wl x1 (sL T 3)), d1, by rw [hs]; try rfl, by rw [hs]; exact CR_eX C2, CE_of hl3 (congrArg (fun t => t.2.1) K1.2.1) K1.2.2⟩)
      · have hs : lkS S = uN (uF T (nI c)) 40 0 := by unfold lkS; rw [hL]; show (if 0 < c then _ else _) = _; rw [if_neg (by omega), if_pos (z_b1 c86)]
        refine z_aload_n F dX5_conclude_89 rfl rfl ?_
        refine z_getf F vF_X5_67 dX5_conclude_90 cO_at rfl ?_
        refine z_callV F z_nwOK wL_good (c_X0_clear cAn) cAn.1 rfl vI_X0_clear vM_X5_177 vV_X0_clear vL_X0_clear rfl dX5_conclude_93 rfl rfl (Nat.le_of_ble_eq_true rfl) ⟨(Nat.le_of_ble_eq_true rfl), (Nat.le_of_ble_eq_true rfl), (Nat.le_of_ble_eq_true rfl), (Nat.le_of_ble_eq_true rfl)⟩ (fun v h1 hq => ?_)
        obtain ⟨rfl, rfl⟩ := hq
        refine z_heap (HP (cfun (uN (uF T (nI c)) 40 0) (wl x1 (sL T 3))) m d1) rfl ?_
        have C20 : CR (uN (uF T (nI c)) 40 0) (wl x1 (sL T 3)) d1 := ⟨C2.1, C2.2.1, C2.2.2.1, C2.2.2.2.1, C2.2.2.2.2.1, ⟨Nat.zero_le _, fun j hj => absurd hj (Nat.not_lt_zero j)⟩, C2.2.2.2.2.2.2⟩
        refine z_aload_n F dX5_conclude_96 rfl rfl ?_
        refine z_callV F z_nwOK wL_good (c_X2_end cQ) cQ.1 rfl vI_X2_end vM_X5_200 vV_X2_end vL_X2_end rfl dX5_conclude_97 rfl rfl (Nat.le_of_ble_eq_true rfl) ⟨(Nat.le_of_ble_eq_true rfl), (Nat.le_of_ble_eq_true rfl), (Nat.le_of_ble_eq_true rfl), (Nat.le_of_ble_eq_true rfl)⟩ (fun v h1 hq => ?_)
        obtain ⟨rfl, rfl⟩ := hq
        rw [cEnd]
        exact z_vret F hr dX5_conclude_100 (Nat.le_of_ble_eq_true rfl) (Nat.le_of_ble_eq_true rfl) (⟨rfl, eX w (wl x1 (sL T 3)), d1, by rw [hs]; try rfl, by rw [hs]; exact CR_eX C20, CE_of hl3 (congrArg (fun t => t.2.1) K1.2.1) K1.2.2⟩)
    · have hp : 0 < c := Nat.pos_of_ne_zero (fun e => c28 (by rw [e]; rfl))
      have hT40 : sN T 40 = 0 := hz.resolve_left (by omega)
      have e40 : uN (uF T (nI c)) 40 0 = uF T (nI c) := by have h := uN_same (uF T (nI c)) 40; rw [show sN (uF T (nI c)) 40 = 0 from hT40] at h; exact h
      refine z_aload_n F dX5_conclude_31 rfl rfl ?_
      refine z_getf F vF_X5_184 dX5_conclude_32 cQ.1 rfl ?_
      rw [show (qb w (uF T (nI c)) (wl x1 (sL T 3))).2.2.2.1 = sB S 37 from QT.2.2.2.trans K.2.2.2.2.2.2.2.2.2.2.1]
      refine z_if_eq (tgt := 48) F dX5_conclude_35 (by decide) (fun c35 => ?_) (fun c35 => ?_)
      · have hk : (sB S 37 && keptA c) = false := by rw [z_b0.mp c35]; rfl
        have hs : lkS S = sayS (sayS (sayS (uF T (nI c)) (127)) (lkV S)) (c) := by unfold lkS; rw [hL]; show (if 0 < c then _ else _) = _; rw [if_pos hp, if_neg (by rw [hk]; decide), e40]
        have h40 : sN T 40 = 0 := hT40
        have hlv : lkV (sayS (uF T (nI c)) (127)) = lkV S := by unfold lkV; rw [show sN (sayS (uF T (nI c)) (127)) 38 = sN S 38 from K.2.2.2.2.2.1, show sAN (sayS (uF T (nI c)) (127)) 39 = sAN S 39 from K.2.2.2.2.2.2.2.2.2.2.2.2.2.2.2.2.2.2.2.1]
        refine z_aload_n F dX5_conclude_48 rfl rfl ?_
        refine z_getf F vF_X5_67 dX5_conclude_49 cO_at rfl ?_
        refine z_bipush (v := 127) F dX5_conclude_52 rfl ?_
        refine z_callV F z_nwOK wL_good (c_put (b := 127) (show sN T 40 + 0 < 41 by omega)) cAn.1 rfl vI_X0_put vM_X5_190 vV_X0_put vL_X0_put rfl dX5_conclude_54 rfl rfl (Nat.le_of_ble_eq_true rfl) ⟨(Nat.le_of_ble_eq_true rfl), (Nat.le_of_ble_eq_true rfl), (Nat.le_of_ble_eq_true rfl), (Nat.le_of_ble_eq_true rfl)⟩ (fun v h1 hq => ?_)
        obtain ⟨rfl, rfl⟩ := hq
        refine z_aload_n F dX5_conclude_57 rfl rfl ?_
        refine z_getf F vF_X5_67 dX5_conclude_58 cO_at rfl ?_
        refine z_aload_n F dX5_conclude_61 rfl rfl ?_
        refine z_callV F z_nwOK wL_good (c_qsvc0 (QV_to (S' := sayS (uF T (nI c)) (127)) (x' := (sx (uF T (nI c)) (wl x1 (sL T 3)) (127))) QT (by cases w <;> rfl) rfl rfl rfl)) cQ.1 rfl vI_X2_service vM_X5_193 vV_X2_service vL_X2_service rfl dX5_conclude_62 rfl rfl (Nat.le_of_ble_eq_true rfl) ⟨(Nat.le_of_ble_eq_true rfl), (Nat.le_of_ble_eq_true rfl), (Nat.le_of_ble_eq_true rfl), (Nat.le_of_ble_eq_true rfl)⟩ (fun v h1 hq => ?_)
        obtain ⟨rfl, rfl⟩ := hq
        rw [hlv]
        refine z_callV F z_nwOK wL_good (c_put (b := lkV S) (show sN T 40 + 1 < 41 by omega)) cAn.1 rfl vI_X0_put vM_X5_190 vV_X0_put vL_X0_put rfl dX5_conclude_65 rfl rfl (Nat.le_of_ble_eq_true rfl) ⟨(Nat.le_of_ble_eq_true rfl), (Nat.le_of_ble_eq_true rfl), (Nat.le_of_ble_eq_true rfl), (Nat.le_of_ble_eq_true rfl)⟩ (fun v h1 hq => ?_)
        obtain ⟨rfl, rfl⟩ := hq
        refine z_aload_n F dX5_conclude_68 rfl rfl ?_
        refine z_getf F vF_X5_67 dX5_conclude_69 cO_at rfl ?_
        refine z_aload_n F dX5_conclude_72 rfl rfl ?_
        refine z_getf F vF_X5_51 dX5_conclude_73 cO_at rfl ?_
        rw [show sF (sayS (sayS (uF T (nI c)) (127)) (lkV S)) = nI c from rfl]
        refine z_callV F z_nwOK wL_good (c_put (b := c) (show sN T 40 + 2 < 41 by omega)) cAn.1 rfl vI_X0_put vM_X5_190 vV_X0_put vL_X0_put rfl dX5_conclude_76 rfl rfl (Nat.le_of_ble_eq_true rfl) ⟨(Nat.le_of_ble_eq_true rfl), (Nat.le_of_ble_eq_true rfl), (Nat.le_of_ble_eq_true rfl), (Nat.le_of_ble_eq_true rfl)⟩ (fun v h1 hq => ?_)
        obtain ⟨rfl, rfl⟩ := hq
        refine z_goto (tgt := 96) F dX5_conclude_79 (by decide) ?_
        refine z_aload_n F dX5_conclude_96 rfl rfl ?_
        refine z_callV F z_nwOK wL_good (c_X2_end cQ) cQ.1 rfl vI_X2_end vM_X5_200 vV_X2_end vL_X2_end rfl dX5_conclude_97 rfl rfl (Nat.le_of_ble_eq_true rfl) ⟨(Nat.le_of_ble_eq_true rfl), (Nat.le_of_ble_eq_true rfl), (Nat.le_of_ble_eq_true rfl), (Nat.le_of_ble_eq_true rfl)⟩ (fun v h1 hq => ?_)
        obtain ⟨rfl, rfl⟩ := hq
        rw [cEnd]
        exact z_vret F hr dX5_conclude_100 (Nat.le_of_ble_eq_true rfl) (Nat.le_of_ble_eq_true rfl) (⟨rfl, eX w (sx (sayS (sayS (uF T (nI c)) (127)) (lkV S)) (sx (sayS (uF T (nI c)) (127)) (sx (uF T (nI c)) (wl x1 (sL T 3)) (127)) (lkV S)) (c)), d1, by rw [hs]; try rfl, by rw [hs]; exact CR_eX (CR_say (CR_say (CR_say C2 (show sN T 40 + 0 < 41 by omega) (127)) (show sN T 40 + 1 < 41 by omega) (lkV S)) (show sN T 40 + 2 < 41 by omega) (c)), CE_of hl3 (congrArg (fun t => t.2.1) K1.2.1) K1.2.2⟩)
      · have ha : sB S 37 = true := z_b1 c35
        refine z_aload_n F dX5_conclude_38 rfl rfl ?_
        refine z_getf F vF_X5_51 dX5_conclude_39 cO_at rfl ?_
        rw [show sF (uF T (nI c)) = nI c from rfl]
        refine z_callS F z_nwOK wL_good (c_X5_isKept h128) vI_X5_isKeptFromAll vM_X5_187 vS_X5_isKeptFromAll rfl dX5_conclude_42 rfl rfl (Nat.le_of_ble_eq_true rfl) ⟨(Nat.le_of_ble_eq_true rfl), (Nat.le_of_ble_eq_true rfl), (Nat.le_of_ble_eq_true rfl), (Nat.le_of_ble_eq_true rfl)⟩ (fun v h1 hq => ?_)
        obtain ⟨rfl, rfl⟩ := hq
        refine z_if_ne (tgt := 96) F dX5_conclude_45 (by decide) (fun c45 => ?_) (fun c45 => ?_)
        · have hk : (sB S 37 && keptA c) = true := by rw [ha, z_b1 c45]; rfl
          have hs : lkS S = uF T (nI c) := by unfold lkS; rw [hL]; show (if 0 < c then _ else _) = _; rw [if_pos hp, if_pos hk, e40]
          refine z_aload_n F dX5_conclude_96 rfl rfl ?_
          refine z_callV F z_nwOK wL_good (c_X2_end cQ) cQ.1 rfl vI_X2_end vM_X5_200 vV_X2_end vL_X2_end rfl dX5_conclude_97 rfl rfl (Nat.le_of_ble_eq_true rfl) ⟨(Nat.le_of_ble_eq_true rfl), (Nat.le_of_ble_eq_true rfl), (Nat.le_of_ble_eq_true rfl), (Nat.le_of_ble_eq_true rfl)⟩ (fun v h1 hq => ?_)
          obtain ⟨rfl, rfl⟩ := hq
          rw [cEnd]
          exact z_vret F hr dX5_conclude_100 (Nat.le_of_ble_eq_true rfl) (Nat.le_of_ble_eq_true rfl) (⟨rfl, eX w (wl x1 (sL T 3)), d1, by rw [hs]; try rfl, by rw [hs]; exact CR_eX C2, CE_of hl3 (congrArg (fun t => t.2.1) K1.2.1) K1.2.2⟩)
        · have hk : (sB S 37 && keptA c) = false := by rw [ha, z_b0.mp c45]; rfl
          have hs : lkS S = sayS (sayS (sayS (uF T (nI c)) (127)) (lkV S)) (c) := by unfold lkS; rw [hL]; show (if 0 < c then _ else _) = _; rw [if_pos hp, if_neg (by rw [hk]; decide), e40]
          have h40 : sN T 40 = 0 := hT40
          have hlv : lkV (sayS (uF T (nI c)) (127)) = lkV S := by unfold lkV; rw [show sN (sayS (uF T (nI c)) (127)) 38 = sN S 38 from K.2.2.2.2.2.1, show sAN (sayS (uF T (nI c)) (127)) 39 = sAN S 39 from K.2.2.2.2.2.2.2.2.2.2.2.2.2.2.2.2.2.2.2.1]
          refine z_aload_n F dX5_conclude_48 rfl rfl ?_
          refine z_getf F vF_X5_67 dX5_conclude_49 cO_at rfl ?_
          refine z_bipush (v := 127) F dX5_conclude_52 rfl ?_
          refine z_callV F z_nwOK wL_good (c_put (b := 127) (show sN T 40 + 0 < 41 by omega)) cAn.1 rfl vI_X0_put vM_X5_190 vV_X0_put vL_X0_put rfl dX5_conclude_54 rfl rfl (Nat.le_of_ble_eq_true rfl) ⟨(Nat.le_of_ble_eq_true rfl), (Nat.le_of_ble_eq_true rfl), (Nat.le_of_ble_eq_true rfl), (Nat.le_of_ble_eq_true rfl)⟩ (fun v h1 hq => ?_)
          obtain ⟨rfl, rfl⟩ := hq
          refine z_aload_n F dX5_conclude_57 rfl rfl ?_
          refine z_getf F vF_X5_67 dX5_conclude_58 cO_at rfl ?_
          refine z_aload_n F dX5_conclude_61 rfl rfl ?_
          refine z_callV F z_nwOK wL_good (c_qsvc0 (QV_to (S' := sayS (uF T (nI c)) (127)) (x' := (sx (uF T (nI c)) (wl x1 (sL T 3)) (127))) QT (by cases w <;> rfl) rfl rfl rfl)) cQ.1 rfl vI_X2_service vM_X5_193 vV_X2_service vL_X2_service rfl dX5_conclude_62 rfl rfl (Nat.le_of_ble_eq_true rfl) ⟨(Nat.le_of_ble_eq_true rfl), (Nat.le_of_ble_eq_true rfl), (Nat.le_of_ble_eq_true rfl), (Nat.le_of_ble_eq_true rfl)⟩ (fun v h1 hq => ?_)
          obtain ⟨rfl, rfl⟩ := hq
          rw [hlv]
          refine z_callV F z_nwOK wL_good (c_put (b := lkV S) (show sN T 40 + 1 < 41 by omega)) cAn.1 rfl vI_X0_put vM_X5_190 vV_X0_put vL_X0_put rfl dX5_conclude_65 rfl rfl (Nat.le_of_ble_eq_true rfl) ⟨(Nat.le_of_ble_eq_true rfl), (Nat.le_of_ble_eq_true rfl), (Nat.le_of_ble_eq_true rfl), (Nat.le_of_ble_eq_true rfl)⟩ (fun v h1 hq => ?_)
          obtain ⟨rfl, rfl⟩ := hq
          refine z_aload_n F dX5_conclude_68 rfl rfl ?_
          refine z_getf F vF_X5_67 dX5_conclude_69 cO_at rfl ?_
          refine z_aload_n F dX5_conclude_72 rfl rfl ?_
          refine z_getf F vF_X5_51 dX5_conclude_73 cO_at rfl ?_
          rw [show sF (sayS (sayS (uF T (nI c)) (127)) (lkV S)) = nI c from rfl]
          refine z_callV F z_nwOK wL_good (c_put (b := c) (show sN T 40 + 2 < 41 by omega)) cAn.1 rfl vI_X0_put vM_X5_190 vV_X0_put vL_X0_put rfl dX5_conclude_76 rfl rfl (Nat.le_of_ble_eq_true rfl) ⟨(Nat.le_of_ble_eq_true rfl), (Nat.le_of_ble_eq_true rfl), (Nat.le_of_ble_eq_true rfl), (Nat.le_of_ble_eq_true rfl)⟩ (fun v h1 hq => ?_)
          obtain ⟨rfl, rfl⟩ := hq
          refine z_goto (tgt := 96) F dX5_conclude_79 (by decide) ?_
          refine z_aload_n F dX5_conclude_96 rfl rfl ?_
          refine z_callV F z_nwOK wL_good (c_X2_end cQ) cQ.1 rfl vI_X2_end vM_X5_200 vV_X2_end vL_X2_end rfl dX5_conclude_97 rfl rfl (Nat.le_of_ble_eq_true rfl) ⟨(Nat.le_of_ble_eq_true rfl), (Nat.le_of_ble_eq_true rfl), (Nat.le_of_ble_eq_true rfl), (Nat.le_of_ble_eq_true rfl)⟩ (fun v h1 hq => ?_)
          obtain ⟨rfl, rfl⟩ := hq
          rw [cEnd]
          exact z_vret F hr dX5_conclude_100 (Nat.le_of_ble_eq_true rfl) (Nat.le_of_ble_eq_true rfl) (⟨rfl, eX w (sx (sayS (sayS (uF T (nI c)) (127)) (lkV S)) (sx (sayS (uF T (nI c)) (127)) (sx (uF T (nI c)) (wl x1 (sL T 3)) (127)) (lkV S)) (c)), d1, by rw [hs]; try rfl, by rw [hs]; exact CR_eX (CR_say (CR_say (CR_say C2 (show sN T 40 + 0 < 41 by omega) (127)) (show sN T 40 + 1 < 41 by omega) (lkV S)) (show sN T 40 + 2 < 41 by omega) (c)), CE_of hl3 (congrArg (fun t => t.2.1) K1.2.1) K1.2.2⟩)
