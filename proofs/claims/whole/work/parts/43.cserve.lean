theorem c_bR {S : z_S} {x : z_Xc} {m : Nat → z_E} {d : z_H} {w : Bool} (Q : QV w S x) {b : Nat} (h0 : 0 < sN S 38) (hn : sN S 40 < 41) (hb : sAN S 39 0 + 64 = b) : z_K yX5_beginReply cX5_beginReply 2 none 1 0 0 [.ref 1, .ref (qa w)] (HP (cfun S x) m d) (fun v h' => v = none ∧ h' = HP (cfun (sayS S b) (sx S x b)) m d) := by
  subst hb
  exact c_X5_beginReply Q h0 hn
theorem res_ne {S : z_S} {i j : Nat} (hj : ¬ j = i) : RO (resS S (i + 1)) j = RO (resS S i) j := by
  unfold RO
  rw [show sAB (resS S (i + 1)) 23 j = sAB (resS S i) 23 j from by
      show clrB (sAB S 23) (i + 1) j = clrB (sAB S 23) i j
      rw [← clrB_step, va_up_ne _ _ hj], show sAN (resS S (i + 1)) 24 j = sAN (resS S i) 24 j from by
      show clrN (sAN S 24) (i + 1) j = clrN (sAN S 24) i j
      rw [← clrN_step, va_up_ne _ _ hj]]
  rfl
theorem res_self (S : z_S) (i : Nat) : RO (resS S (i + 1)) i = R_o (sAI S 21 i) (sAN S 22 i) false 0 (sAN S 25 i) := by
  unfold RO
  rw [show sAB (resS S (i + 1)) 23 i = false from if_pos (Nat.lt_succ_self i), show sAN (resS S (i + 1)) 24 i = 0 from if_pos (Nat.lt_succ_self i)]
  rfl
theorem CR_res_out {S : z_S} {x : z_Xc} {d : z_H} {i : Nat} (C : CR (resS S i) x d) (h : ¬ i < sN S 20) : CR (resS S (i + 1)) x d :=
  ⟨C.1, C.2.1, fun k hk => (C.2.2.1 k hk).trans (congrArg some (res_ne (j := k) (i := i) (fun e => h (e ▸ hk))).symm), C.2.2.2⟩
theorem CR_res {S : z_S} {x : z_Xc} {d : z_H} {i : Nat} (C : CR (resS S i) x d) (h : i < sN S 20) : CR (resS S (i + 1)) x (d.set (xr x i) (RO (resS S (i + 1)) i)) :=
  CR_rt (S := resS S i) (S' := resS S (i + 1)) C h rfl rfl (fun j hj => res_ne hj) (fun _ => rfl) rfl rfl rfl rfl rfl rfl C.2.2.2.2.1 C.2.2.2.2.2.1 C.2.2.2.2.2.2
theorem own_ne {S : z_S} {x : z_Xc} {i j : Nat} (hj : ¬ j = i) : IO (ownS S (i + 1)) x j = IO (ownS S i) x j := by
  unfold IO
  rw [show sAL (ownS S (i + 1)) 13 j = sAL (ownS S i) 13 j from by
      show clrL (sAL S 13) (i + 1) j = clrL (sAL S 13) i j
      rw [← clrL_step, va_up_ne _ _ hj]]
  rfl
theorem CR_own {S : z_S} {x : z_Xc} {d : z_H} {i : Nat} (C : CR (ownS S i) x d) (h : i < sN S 8) : CR (ownS S (i + 1)) x (d.set (xi x i) (IO (ownS S (i + 1)) x i)) :=
  CR_id (S := ownS S i) (S' := ownS S (i + 1)) (x' := x) C h rfl rfl rfl rfl rfl rfl rfl rfl rfl rfl rfl rfl (fun _ => rfl) (fun j hj => own_ne hj) C.1.2 C.2.2.2.2.1 C.2.2.2.2.2.1 C.2.2.2.2.2.2
theorem CR_own_out {S : z_S} {x : z_Xc} {d : z_H} {i : Nat} (C : CR (ownS S i) x d) (h : ¬ i < sN S 8) : CR (ownS S (i + 1)) x d :=
  ⟨⟨fun k hk => (C.1.1 k hk).trans (congrArg some (own_ne (j := k) (i := i) (fun e => h (e ▸ hk))).symm), C.1.2⟩, C.2⟩
theorem CR_own_all {S : z_S} {x : z_Xc} {d : z_H} {i : Nat} (C : CR (ownS S i) x d) (h : sN S 8 ≤ i) : CR (ownS S (sN S 8)) x d := by
  refine ⟨⟨fun k hk => (C.1.1 k hk).trans (congrArg some ?_), C.1.2⟩, C.2⟩
  have hk2 : k < sN S 8 := hk
  unfold IO
  rw [show sAL (ownS S i) 13 k = 0 from if_pos (by omega), show sAL (ownS S (sN S 8)) 13 k = 0 from if_pos hk2]
  rfl

set_option maxRecDepth 100000 in
set_option maxHeartbeats 1000000 in
theorem l_X5_forget {S : z_S} {x : z_Xc} {m : Nat → z_E} {G : z_G} {X : z_X} (F : z_F vwCl z_ats z_nw wsL_law G RX5 cX5_forgetRoutines 3 (z_rm 1 0 0) X) (hr : X.2.2.2.2.2.2.2.2.1.sig.returnType = none) :
    ∀ (m' i : Nat) (d : z_H), (i + m' = 10 ∧ CR (resS S (i)) x d) → z_V vwCl G 3 X (z_end vwCl z_ats z_nw G X 0 0 (fun v h' => v = none ∧ ∃ d' : z_H, h' = HP (cfun (resS S 10) x) m d' ∧ CR (resS S 10) x d')) 0 0 2 [(0, .ref 1), (1, .int (nI i))] [] (HP (cfun (resS S (i)) x) m d) := by
  intro m'
  induction m' with
  | zero =>
    intro i d hi
    obtain ⟨hi, C⟩ := hi
    obtain rfl : i = 10 := by omega
    refine z_iload_n F dX5_forgetRoutines_2 rfl ?_
    refine z_aload_n F dX5_forgetRoutines_3 rfl rfl ?_
    refine z_getf F vF_X5_21 dX5_forgetRoutines_4 cO_at rfl ?_
    refine z_alen (v := nI 10) F dX5_forgetRoutines_7 cA_2 rfl rfl ?_
    refine z_icmp_ge (tgt := 32) F dX5_forgetRoutines_8 (by decide) (fun c8 => ?_) (fun c8 => absurd (nI_le (a := 10) (b := 10) (by omega) (by omega)) c8)
    exact z_vret F hr dX5_forgetRoutines_32 (Nat.le_of_ble_eq_true rfl) (Nat.le_of_ble_eq_true rfl) (⟨rfl, d, rfl, C⟩)
  | succ m' ih =>
    intro i d hi
    obtain ⟨hi, C⟩ := hi
    refine z_iload_n F dX5_forgetRoutines_2 rfl ?_
    refine z_aload_n F dX5_forgetRoutines_3 rfl rfl ?_
    refine z_getf F vF_X5_21 dX5_forgetRoutines_4 cO_at rfl ?_
    refine z_alen (v := nI 10) F dX5_forgetRoutines_7 cA_2 rfl rfl ?_
    refine z_icmp_ge (tgt := 32) F dX5_forgetRoutines_8 (by decide) (fun c8 => absurd c8 (nI_ge (a := i) (b := 10) (by omega) (by decide))) (fun c8 => ?_)
    refine z_aload_n F dX5_forgetRoutines_11 rfl rfl ?_
    refine z_getf F vF_X5_21 dX5_forgetRoutines_12 cO_at rfl ?_
    refine z_iload_n F dX5_forgetRoutines_15 rfl ?_
    refine z_aald (j := i) F dX5_forgetRoutines_16 cA_2 rfl rfl (show i < 10 by omega) (Nat.le_of_ble_eq_true rfl) ?_
    by_cases hin : i < sN S 20
    · rw [show rfs (xr x) (sN (resS S (i)) 20) i = _ from rfs_in hin]
      have hc := HPd (c := cfun (resS S i) x) (m := m) (C.2.2.1 i hin)
      refine z_astore_n F dX5_forgetRoutines_17 rfl (Nat.le_of_ble_eq_true rfl) ?_
      refine z_aload_n F dX5_forgetRoutines_18 rfl rfl ?_
      refine z_ifnull (tgt := 26) F dX5_forgetRoutines_19 (by decide) rfl (fun c19 => absurd c19 (by intro q; cases q)) (fun c19 => ?_)
      refine z_aload_n F dX5_forgetRoutines_22 rfl rfl ?_
      refine z_callV F z_nwOK wL_good (c_X3_forget hc) hc rfl vI_X3_forget vM_X5_251 vV_X3_forget vL_X3_forget rfl dX5_forgetRoutines_23 rfl rfl (Nat.le_of_ble_eq_true rfl) ⟨(Nat.le_of_ble_eq_true rfl), (Nat.le_of_ble_eq_true rfl), (Nat.le_of_ble_eq_true rfl), (Nat.le_of_ble_eq_true rfl)⟩ (fun v h1 hq => ?_)
      obtain ⟨rfl, rfl⟩ := hq
      refine z_heap (HP (cfun (resS S (i + 1)) x) m (d.set (xr x i) (RO (resS S (i + 1)) i))) (by rw [res_self]; rfl) ?_
      refine z_iinc (w := 1) F dX5_forgetRoutines_26 rfl rfl (Nat.le_of_ble_eq_true rfl) ?_
      rw [nI_1]
      refine z_goto (tgt := 2) F dX5_forgetRoutines_29 (by decide) ?_
      refine z_pick [0, 1] rfl ?_
      exact ih (i + 1) _ ⟨by omega, CR_res C hin⟩
    · rw [show rfs (xr x) (sN (resS S (i)) 20) i = _ from rfs_out hin]
      refine z_astore_n F dX5_forgetRoutines_17 rfl (Nat.le_of_ble_eq_true rfl) ?_
      refine z_aload_n F dX5_forgetRoutines_18 rfl rfl ?_
      refine z_ifnull (tgt := 26) F dX5_forgetRoutines_19 (by decide) rfl (fun c19 => ?_) (fun c19 => absurd rfl c19)
      refine z_iinc (w := 1) F dX5_forgetRoutines_26 rfl rfl (Nat.le_of_ble_eq_true rfl) ?_
      rw [nI_1]
      refine z_goto (tgt := 2) F dX5_forgetRoutines_29 (by decide) ?_
      refine z_pick [0, 1] rfl ?_
      refine z_heap (HP (cfun (resS S (i + 1)) x) m d) rfl ?_
      exact ih (i + 1) d ⟨by omega, CR_res_out C hin⟩

set_option maxRecDepth 100000 in
set_option maxHeartbeats 1000000 in
theorem c_X5_forget {S : z_S} {x : z_Xc} {m : Nat → z_E} {d : z_H} (C : CR S x d) : z_K yX5_forgetRoutines cX5_forgetRoutines 3 none 1 0 0 [.ref 1] (HP (cfun S x) m d) (fun v h' => v = none ∧ ∃ d' : z_H, h' = HP (cfun (resS S 10) x) m d' ∧ CR (resS S 10) x d') := by
  refine z_met vI_X5_forgetRoutines (Nat.le_of_ble_eq_true rfl) (fun G X F hr hnm => ?_)
  refine z_iconst (v := 0) F dX5_forgetRoutines_0 rfl ?_
  refine z_istore_n F dX5_forgetRoutines_1 (Nat.le_of_ble_eq_true rfl) ?_
  rw [← resS_0 S] at C
  refine z_heap (HP (cfun (resS S 0) x) m d) (by rw [resS_0]) ?_
  exact l_X5_forget F hr 10 0 d ⟨by omega, C⟩

set_option maxRecDepth 100000 in
set_option maxHeartbeats 1000000 in
theorem l_X5_clearOwn {S : z_S} {x : z_Xc} {m : Nat → z_E} (h40 : sN S 8 ≤ 40) {G : z_G} {X : z_X} (F : z_F vwCl z_ats z_nw wsL_law G RX5 cX5_clearOwnValues 3 (z_rm 0 0 0) X) (hr : X.2.2.2.2.2.2.2.2.1.sig.returnType = none) :
    ∀ (m' i : Nat) (d : z_H), (i + m' = 40 ∧ CR (ownS S (i)) x d) → z_V vwCl G 3 X (z_end vwCl z_ats z_nw G X 0 0 (fun v h' => v = none ∧ ∃ d' : z_H, h' = HP (cfun (ownS S (sN S 8)) x) m d' ∧ CR (ownS S (sN S 8)) x d')) 0 0 2 [(0, .ref 1), (1, .int (nI i))] [] (HP (cfun (ownS S (i)) x) m d) := by
  intro m'
  induction m' with
  | zero =>
    intro i d hi
    obtain ⟨hi, C⟩ := hi
    obtain rfl : i = 40 := by omega
    refine z_iload_n F dX5_clearOwnValues_2 rfl ?_
    refine z_aload_n F dX5_clearOwnValues_3 rfl rfl ?_
    refine z_getf F vF_X5_11 dX5_clearOwnValues_4 cO_at rfl ?_
    refine z_alen (v := nI 40) F dX5_clearOwnValues_7 cA_0 rfl rfl ?_
    refine z_icmp_ge (tgt := 33) F dX5_clearOwnValues_8 (by decide) (fun c8 => ?_) (fun c8 => absurd (nI_le (a := 40) (b := 40) (by omega) (by omega)) c8)
    exact z_vret F hr dX5_clearOwnValues_33 (Nat.le_of_ble_eq_true rfl) (Nat.le_of_ble_eq_true rfl) (⟨rfl, d, rfl, CR_own_all C h40⟩)
  | succ m' ih =>
    intro i d hi
    obtain ⟨hi, C⟩ := hi
    refine z_iload_n F dX5_clearOwnValues_2 rfl ?_
    refine z_aload_n F dX5_clearOwnValues_3 rfl rfl ?_
    refine z_getf F vF_X5_11 dX5_clearOwnValues_4 cO_at rfl ?_
    refine z_alen (v := nI 40) F dX5_clearOwnValues_7 cA_0 rfl rfl ?_
    refine z_icmp_ge (tgt := 33) F dX5_clearOwnValues_8 (by decide) (fun c8 => absurd c8 (nI_ge (a := i) (b := 40) (by omega) (by decide))) (fun c8 => ?_)
    refine z_aload_n F dX5_clearOwnValues_11 rfl rfl ?_
    refine z_getf F vF_X5_11 dX5_clearOwnValues_12 cO_at rfl ?_
    refine z_iload_n F dX5_clearOwnValues_15 rfl ?_
    refine z_aald (j := i) F dX5_clearOwnValues_16 cA_0 rfl rfl (show i < 40 by omega) (Nat.le_of_ble_eq_true rfl) ?_
    by_cases hin : i < sN S 8
    · rw [show rfs (xi x) (sN (ownS S (i)) 8) i = _ from rfs_in hin]
      have hc := HPd (c := cfun (ownS S i) x) (m := m) (C.1.1 i hin)
      refine z_astore_n F dX5_clearOwnValues_17 rfl (Nat.le_of_ble_eq_true rfl) ?_
      refine z_aload_n F dX5_clearOwnValues_18 rfl rfl ?_
      refine z_ifnull (tgt := 27) F dX5_clearOwnValues_19 (by decide) rfl (fun c19 => absurd c19 (by intro q; cases q)) (fun c19 => ?_)
      refine z_aload_n F dX5_clearOwnValues_22 rfl rfl ?_
      refine z_lconst (v := 0) F dX5_clearOwnValues_23 rfl ?_
      refine z_putf F vF_X5_115 vT_X1 vD_X1_6 dX5_clearOwnValues_24 hc (Nat.le_of_ble_eq_true rfl) rfl rfl (fun g24 => ?_)
      refine z_heap (HP (cfun (ownS S (i + 1)) x) m (d.set (xi x i) (IO (ownS S (i + 1)) x i))) (by unfold IO; rw [show sAL (ownS S (i + 1)) 13 i = 0 from if_pos (Nat.lt_succ_self i)]; rfl) ?_
      refine z_iinc (w := 1) F dX5_clearOwnValues_27 rfl rfl (Nat.le_of_ble_eq_true rfl) ?_
      rw [nI_1]
      refine z_goto (tgt := 2) F dX5_clearOwnValues_30 (by decide) ?_
      refine z_pick [0, 1] rfl ?_
      exact ih (i + 1) _ ⟨by omega, CR_own C hin⟩
    · rw [show rfs (xi x) (sN (ownS S (i)) 8) i = _ from rfs_out hin]
      refine z_astore_n F dX5_clearOwnValues_17 rfl (Nat.le_of_ble_eq_true rfl) ?_
      refine z_aload_n F dX5_clearOwnValues_18 rfl rfl ?_
      refine z_ifnull (tgt := 27) F dX5_clearOwnValues_19 (by decide) rfl (fun c19 => ?_) (fun c19 => absurd rfl c19)
      refine z_iinc (w := 1) F dX5_clearOwnValues_27 rfl rfl (Nat.le_of_ble_eq_true rfl) ?_
      rw [nI_1]
      refine z_goto (tgt := 2) F dX5_clearOwnValues_30 (by decide) ?_
      refine z_pick [0, 1] rfl ?_
      refine z_heap (HP (cfun (ownS S (i + 1)) x) m d) rfl ?_
      exact ih (i + 1) d ⟨by omega, CR_own_out C hin⟩

set_option maxRecDepth 100000 in
set_option maxHeartbeats 1000000 in
theorem c_X5_clearOwn {S : z_S} {x : z_Xc} {m : Nat → z_E} {d : z_H} (C : CR S x d) (h40 : sN S 8 ≤ 40) : z_K yX5_clearOwnValues cX5_clearOwnValues 3 none 0 0 0 [.ref 1] (HP (cfun S x) m d) (fun v h' => v = none ∧ ∃ d' : z_H, h' = HP (cfun (ownS S (sN S 8)) x) m d' ∧ CR (ownS S (sN S 8)) x d') := by
  refine z_met vI_X5_clearOwnValues (Nat.le_of_ble_eq_true rfl) (fun G X F hr hnm => ?_)
  refine z_iconst (v := 0) F dX5_clearOwnValues_0 rfl ?_
  refine z_istore_n F dX5_clearOwnValues_1 (Nat.le_of_ble_eq_true rfl) ?_
  have e0 : ownS S 0 = S := (by unfold ownS; rw [clrL_0]; exact uAL_same S 13)
  rw [← e0] at C
  refine z_heap (HP (cfun (ownS S 0) x) m d) (by rw [e0]) ?_
  exact l_X5_clearOwn h40 F hr 40 0 d ⟨by omega, C⟩

set_option maxRecDepth 100000 in
set_option maxHeartbeats 1000000 in
theorem c_X5_changeSession {S : z_S} {x : z_Xc} {m : Nat → z_E} {d : z_H} {w : Bool} (C : CR S x d) (Q : QV w S x) (R : rowOK S) (W : idsOK S) (V : numsOK S) (U : trOK S) (Y : rtsOK S) (h0 : 0 < sN S 38) (hA : sN S 40 = 0) (hV : sAN S 39 0 = 16) : z_K yX5_changeSession cX5_changeSession 3 (some .int) 3 0 0 [.ref 1, .ref (qa w)] (HP (cfun S x) m d) (fun v h' => v = some (.int (nI (sv16 S).1)) ∧ ∃ (x' : z_Xc) (d' : z_H), h' = HP (cfun (sv16 S).2 x') m d' ∧ CR (sv16 S).2 x' d' ∧ KX x x') := by
  have hM := Q.2.1
  refine z_met vI_X5_changeSession (Nat.le_of_ble_eq_true rfl) (fun G X F hr hnm => ?_)
  refine z_aload_n F dX5_changeSession_0 rfl rfl ?_
  refine z_callV F z_nwOK wL_good (c_qsize Q) cQ.1 rfl vI_X2_size vM_X5_236 vV_X2_size vL_X2_size rfl dX5_changeSession_1 rfl rfl (Nat.le_of_ble_eq_true rfl) ⟨(Nat.le_of_ble_eq_true rfl), (Nat.le_of_ble_eq_true rfl), (Nat.le_of_ble_eq_true rfl), (Nat.le_of_ble_eq_true rfl)⟩ (fun v h1 hq => ?_)
  obtain ⟨rfl, rfl⟩ := hq
  refine z_iconst (v := 1) F dX5_changeSession_4 rfl ?_
  refine z_icmp_eq (tgt := 11) F dX5_changeSession_5 (by decide) (fun c5 => ?_) (fun c5 => ?_)
  · have hn : sN S 38 - 1 = 1 := (nI_eq (b := 1) (by omega) (by decide)).mp c5
    have f128 : fn S < 128 := Nat.mod_lt _ (by decide)
    refine z_aload_n F dX5_changeSession_11 rfl rfl ?_
    refine z_callV F z_nwOK wL_good (c_qfun Q (by omega)) cQ.1 rfl vI_X2_function vM_X5_239 vV_X2_function vL_X2_function rfl dX5_changeSession_12 rfl rfl (Nat.le_of_ble_eq_true rfl) ⟨(Nat.le_of_ble_eq_true rfl), (Nat.le_of_ble_eq_true rfl), (Nat.le_of_ble_eq_true rfl), (Nat.le_of_ble_eq_true rfl)⟩ (fun v h1 hq => ?_)
    obtain ⟨rfl, rfl⟩ := hq
    refine z_istore_n F dX5_changeSession_15 (Nat.le_of_ble_eq_true rfl) ?_
    refine z_iload_n F dX5_changeSession_16 rfl ?_
    refine z_iconst (v := 1) F dX5_changeSession_17 rfl ?_
    refine z_iconst (v := 3) F dX5_changeSession_18 rfl ?_
    refine z_callS F z_nwOK wL_good (c_within (A := 1) (B := 3) (nI (fn S)) 1 3 rfl rfl) vI_X5_isWithin vM_X5_79 vS_X5_isWithin rfl dX5_changeSession_19 rfl rfl (Nat.le_of_ble_eq_true rfl) ⟨(Nat.le_of_ble_eq_true rfl), (Nat.le_of_ble_eq_true rfl), (Nat.le_of_ble_eq_true rfl), (Nat.le_of_ble_eq_true rfl)⟩ (fun v h1 hq => ?_)
    obtain ⟨rfl, rfl⟩ := hq
    refine z_if_ne (tgt := 28) F dX5_changeSession_22 (by decide) (fun c22 => ?_) (fun c22 => ?_)
    · have hf : 1 ≤ fn S ∧ fn S ≤ 3 := by have h9 := z_b1 c22; rw [nI_toInt (by omega)] at h9; unfold inZ at h9; simp at h9; omega
      refine z_iload_n F dX5_changeSession_28 rfl ?_
      refine z_iconst (v := 3) F dX5_changeSession_29 rfl ?_
      refine z_icmp_ne (tgt := 43) F dX5_changeSession_30 (by decide) (fun c30 => ?_) (fun c30 => ?_)
      · have hd : ¬ (fn S = 3 ∧ sB S 5 = false) := fun e => c30 (by rw [e.1]; rfl)
        have hs : sv16 S = (0, sayS (sayS (endS S (fn S)) 80) (fn S)) := by unfold sv16; rw [if_neg (not_not_intro hn), if_neg (not_not_intro hf), if_neg hd]
        refine z_aload_n F dX5_changeSession_43 rfl rfl ?_
        refine z_iload_n F dX5_changeSession_44 rfl ?_
        refine z_callV F z_nwOK wL_good (c_X5_endSession (f := fn S) C W.1) cO_at rfl vI_X5_endSession vM_X5_158 vV_X5_endSession vL_X5_endSession rfl dX5_changeSession_45 rfl rfl (Nat.le_of_ble_eq_true rfl) ⟨(Nat.le_of_ble_eq_true rfl), (Nat.le_of_ble_eq_true rfl), (Nat.le_of_ble_eq_true rfl), (Nat.le_of_ble_eq_true rfl)⟩ (fun v h1 hq => ?_)
        obtain ⟨rfl, d1, rfl, C1⟩ := hq
        refine z_aload_n F dX5_changeSession_48 rfl rfl ?_
        refine z_aload_n F dX5_changeSession_49 rfl rfl ?_
        refine z_callV F z_nwOK wL_good (c_bR (b := 80) (QV_to (S' := endS S (fn S)) (x' := (wt x (0, (xt x).2.1, (xt x).2.2))) Q (by cases w <;> rfl) rfl rfl rfl) h0 (show sN S 40 + 0 < 41 by omega) (show sAN S 39 0 + 64 = 80 by omega)) cO_at rfl vI_X5_beginReply vM_X5_242 vV_X5_beginReply vL_X5_beginReply rfl dX5_changeSession_50 rfl rfl (Nat.le_of_ble_eq_true rfl) ⟨(Nat.le_of_ble_eq_true rfl), (Nat.le_of_ble_eq_true rfl), (Nat.le_of_ble_eq_true rfl), (Nat.le_of_ble_eq_true rfl)⟩ (fun v h1 hq => ?_)
        obtain ⟨rfl, rfl⟩ := hq
        refine z_aload_n F dX5_changeSession_53 rfl rfl ?_
        refine z_getf F vF_X5_67 dX5_changeSession_54 cO_at rfl ?_
        refine z_iload_n F dX5_changeSession_57 rfl ?_
        refine z_callV F z_nwOK wL_good (c_put (b := fn S) (show sN S 40 + 1 < 41 by omega)) cAn.1 rfl vI_X0_put vM_X5_190 vV_X0_put vL_X0_put rfl dX5_changeSession_58 rfl rfl (Nat.le_of_ble_eq_true rfl) ⟨(Nat.le_of_ble_eq_true rfl), (Nat.le_of_ble_eq_true rfl), (Nat.le_of_ble_eq_true rfl), (Nat.le_of_ble_eq_true rfl)⟩ (fun v h1 hq => ?_)
        obtain ⟨rfl, rfl⟩ := hq
        refine z_iconst (v := 0) F dX5_changeSession_61 rfl ?_
        exact z_iret F hr dX5_changeSession_62 rfl (Nat.le_of_ble_eq_true rfl) (Nat.le_of_ble_eq_true rfl) (⟨by rw [hs]; try rfl, (sx (sayS (endS S (fn S)) (80)) (sx (endS S (fn S)) (wt x (0, (xt x).2.1, (xt x).2.2)) (80)) (fn S)), d1, by rw [hs]; try rfl, by rw [hs]; exact (CR_say (CR_say C1 (show sN S 40 + 0 < 41 by omega) (80)) (show sN S 40 + 1 < 41 by omega) (fn S)), rfl, rfl, rfl⟩)
      · refine z_aload_n F dX5_changeSession_33 rfl rfl ?_
        refine z_getf F vF_X5_28 dX5_changeSession_34 cO_at rfl ?_
        refine z_if_ne (tgt := 43) F dX5_changeSession_37 (by decide) (fun c37 => ?_) (fun c37 => ?_)
        · have hd : ¬ (fn S = 3 ∧ sB S 5 = false) := fun e => absurd e.2 (by rw [z_b1 c37]; decide)
          have hs : sv16 S = (0, sayS (sayS (endS S (fn S)) 80) (fn S)) := by unfold sv16; rw [if_neg (not_not_intro hn), if_neg (not_not_intro hf), if_neg hd]
          refine z_aload_n F dX5_changeSession_43 rfl rfl ?_
          refine z_iload_n F dX5_changeSession_44 rfl ?_
          refine z_callV F z_nwOK wL_good (c_X5_endSession (f := fn S) C W.1) cO_at rfl vI_X5_endSession vM_X5_158 vV_X5_endSession vL_X5_endSession rfl dX5_changeSession_45 rfl rfl (Nat.le_of_ble_eq_true rfl) ⟨(Nat.le_of_ble_eq_true rfl), (Nat.le_of_ble_eq_true rfl), (Nat.le_of_ble_eq_true rfl), (Nat.le_of_ble_eq_true rfl)⟩ (fun v h1 hq => ?_)
          obtain ⟨rfl, d1, rfl, C1⟩ := hq
          refine z_aload_n F dX5_changeSession_48 rfl rfl ?_
          refine z_aload_n F dX5_changeSession_49 rfl rfl ?_
          refine z_callV F z_nwOK wL_good (c_bR (b := 80) (QV_to (S' := endS S (fn S)) (x' := (wt x (0, (xt x).2.1, (xt x).2.2))) Q (by cases w <;> rfl) rfl rfl rfl) h0 (show sN S 40 + 0 < 41 by omega) (show sAN S 39 0 + 64 = 80 by omega)) cO_at rfl vI_X5_beginReply vM_X5_242 vV_X5_beginReply vL_X5_beginReply rfl dX5_changeSession_50 rfl rfl (Nat.le_of_ble_eq_true rfl) ⟨(Nat.le_of_ble_eq_true rfl), (Nat.le_of_ble_eq_true rfl), (Nat.le_of_ble_eq_true rfl), (Nat.le_of_ble_eq_true rfl)⟩ (fun v h1 hq => ?_)
          obtain ⟨rfl, rfl⟩ := hq
          refine z_aload_n F dX5_changeSession_53 rfl rfl ?_
          refine z_getf F vF_X5_67 dX5_changeSession_54 cO_at rfl ?_
          refine z_iload_n F dX5_changeSession_57 rfl ?_
          refine z_callV F z_nwOK wL_good (c_put (b := fn S) (show sN S 40 + 1 < 41 by omega)) cAn.1 rfl vI_X0_put vM_X5_190 vV_X0_put vL_X0_put rfl dX5_changeSession_58 rfl rfl (Nat.le_of_ble_eq_true rfl) ⟨(Nat.le_of_ble_eq_true rfl), (Nat.le_of_ble_eq_true rfl), (Nat.le_of_ble_eq_true rfl), (Nat.le_of_ble_eq_true rfl)⟩ (fun v h1 hq => ?_)
          obtain ⟨rfl, rfl⟩ := hq
          refine z_iconst (v := 0) F dX5_changeSession_61 rfl ?_
          exact z_iret F hr dX5_changeSession_62 rfl (Nat.le_of_ble_eq_true rfl) (Nat.le_of_ble_eq_true rfl) (⟨by rw [hs]; try rfl, (sx (sayS (endS S (fn S)) (80)) (sx (endS S (fn S)) (wt x (0, (xt x).2.1, (xt x).2.2)) (80)) (fn S)), d1, by rw [hs]; try rfl, by rw [hs]; exact (CR_say (CR_say C1 (show sN S 40 + 0 < 41 by omega) (80)) (show sN S 40 + 1 < 41 by omega) (fn S)), rfl, rfl, rfl⟩)
        · have hs : sv16 S = (34, S) := by unfold sv16; rw [if_neg (not_not_intro hn), if_neg (not_not_intro hf), if_pos ⟨(nI_eq (b := 3) (by omega) (by decide)).mp c30, z_b0.mp c37⟩]
          refine z_bipush (v := 34) F dX5_changeSession_40 rfl ?_
          exact z_iret F hr dX5_changeSession_42 rfl (Nat.le_of_ble_eq_true rfl) (Nat.le_of_ble_eq_true rfl) (⟨by rw [hs]; try rfl, x, d, by rw [hs]; try rfl, by rw [hs]; exact C, rfl, rfl, rfl⟩)
    · have hf : ¬ (1 ≤ fn S ∧ fn S ≤ 3) := by have h9 := z_b0.mp c22; rw [nI_toInt (by omega)] at h9; unfold inZ at h9; simp at h9; omega
      have hs : sv16 S = (18, S) := by unfold sv16; rw [if_neg (not_not_intro hn), if_pos hf]
      refine z_bipush (v := 18) F dX5_changeSession_25 rfl ?_
      exact z_iret F hr dX5_changeSession_27 rfl (Nat.le_of_ble_eq_true rfl) (Nat.le_of_ble_eq_true rfl) (⟨by rw [hs]; try rfl, x, d, by rw [hs]; try rfl, by rw [hs]; exact C, rfl, rfl, rfl⟩)
  · have hn : ¬ sN S 38 - 1 = 1 := fun e => c5 (by rw [e]; rfl)
    have hs : sv16 S = (19, S) := if_pos hn
    refine z_bipush (v := 19) F dX5_changeSession_8 rfl ?_
    exact z_iret F hr dX5_changeSession_10 rfl (Nat.le_of_ble_eq_true rfl) (Nat.le_of_ble_eq_true rfl) (⟨by rw [hs]; try rfl, x, d, by rw [hs]; try rfl, by rw [hs]; exact C, rfl, rfl, rfl⟩)

set_option maxRecDepth 100000 in
set_option maxHeartbeats 1000000 in
theorem c_X5_stayPresent {S : z_S} {x : z_Xc} {m : Nat → z_E} {d : z_H} {w : Bool} (C : CR S x d) (Q : QV w S x) (R : rowOK S) (W : idsOK S) (V : numsOK S) (U : trOK S) (Y : rtsOK S) (h0 : 0 < sN S 38) (hA : sN S 40 = 0) (hV : sAN S 39 0 = 62) : z_K yX5_stayPresent cX5_stayPresent 2 (some .int) 3 0 0 [.ref 1, .ref (qa w)] (HP (cfun S x) m d) (fun v h' => v = some (.int (nI (sv62 S).1)) ∧ ∃ (x' : z_Xc) (d' : z_H), h' = HP (cfun (sv62 S).2 x') m d' ∧ CR (sv62 S).2 x' d' ∧ KX x x') := by
  have hM := Q.2.1
  refine z_met vI_X5_stayPresent (Nat.le_of_ble_eq_true rfl) (fun G X F hr hnm => ?_)
  refine z_aload_n F dX5_stayPresent_0 rfl rfl ?_
  refine z_callV F z_nwOK wL_good (c_qsize Q) cQ.1 rfl vI_X2_size vM_X5_236 vV_X2_size vL_X2_size rfl dX5_stayPresent_1 rfl rfl (Nat.le_of_ble_eq_true rfl) ⟨(Nat.le_of_ble_eq_true rfl), (Nat.le_of_ble_eq_true rfl), (Nat.le_of_ble_eq_true rfl), (Nat.le_of_ble_eq_true rfl)⟩ (fun v h1 hq => ?_)
  obtain ⟨rfl, rfl⟩ := hq
  refine z_iconst (v := 1) F dX5_stayPresent_4 rfl ?_
  refine z_icmp_eq (tgt := 11) F dX5_stayPresent_5 (by decide) (fun c5 => ?_) (fun c5 => ?_)
  · have hn : sN S 38 - 1 = 1 := (nI_eq (b := 1) (by omega) (by decide)).mp c5
    have f128 : fn S < 128 := Nat.mod_lt _ (by decide)
    refine z_aload_n F dX5_stayPresent_11 rfl rfl ?_
    refine z_callV F z_nwOK wL_good (c_qfun Q (by omega)) cQ.1 rfl vI_X2_function vM_X5_239 vV_X2_function vL_X2_function rfl dX5_stayPresent_12 rfl rfl (Nat.le_of_ble_eq_true rfl) ⟨(Nat.le_of_ble_eq_true rfl), (Nat.le_of_ble_eq_true rfl), (Nat.le_of_ble_eq_true rfl), (Nat.le_of_ble_eq_true rfl)⟩ (fun v h1 hq => ?_)
    obtain ⟨rfl, rfl⟩ := hq
    refine z_if_eq (tgt := 21) F dX5_stayPresent_15 (by decide) (fun c15 => ?_) (fun c15 => ?_)
    · have hf : fn S = 0 := (nI_eq (b := 0) (by omega) (by decide)).mp c15
      have hs : sv62 S = (0, sayS (sayS S 126) 0) := by unfold sv62; rw [if_neg (not_not_intro hn), if_neg (not_not_intro hf)]
      refine z_aload_n F dX5_stayPresent_21 rfl rfl ?_
      refine z_aload_n F dX5_stayPresent_22 rfl rfl ?_
      refine z_callV F z_nwOK wL_good (c_bR (b := 126) (QV_to (S' := S) (x' := x) Q (by cases w <;> rfl) rfl rfl rfl) h0 (show sN S 40 + 0 < 41 by omega) (show sAN S 39 0 + 64 = 126 by omega)) cO_at rfl vI_X5_beginReply vM_X5_242 vV_X5_beginReply vL_X5_beginReply rfl dX5_stayPresent_23 rfl rfl (Nat.le_of_ble_eq_true rfl) ⟨(Nat.le_of_ble_eq_true rfl), (Nat.le_of_ble_eq_true rfl), (Nat.le_of_ble_eq_true rfl), (Nat.le_of_ble_eq_true rfl)⟩ (fun v h1 hq => ?_)
      obtain ⟨rfl, rfl⟩ := hq
      refine z_aload_n F dX5_stayPresent_26 rfl rfl ?_
      refine z_getf F vF_X5_67 dX5_stayPresent_27 cO_at rfl ?_
      refine z_iconst (v := 0) F dX5_stayPresent_30 rfl ?_
      refine z_callV F z_nwOK wL_good (c_put (b := 0) (show sN S 40 + 1 < 41 by omega)) cAn.1 rfl vI_X0_put vM_X5_190 vV_X0_put vL_X0_put rfl dX5_stayPresent_31 rfl rfl (Nat.le_of_ble_eq_true rfl) ⟨(Nat.le_of_ble_eq_true rfl), (Nat.le_of_ble_eq_true rfl), (Nat.le_of_ble_eq_true rfl), (Nat.le_of_ble_eq_true rfl)⟩ (fun v h1 hq => ?_)
      obtain ⟨rfl, rfl⟩ := hq
      refine z_iconst (v := 0) F dX5_stayPresent_34 rfl ?_
      exact z_iret F hr dX5_stayPresent_35 rfl (Nat.le_of_ble_eq_true rfl) (Nat.le_of_ble_eq_true rfl) (⟨by rw [hs]; try rfl, (sx (sayS (S) (126)) (sx (S) x (126)) (0)), d, by rw [hs]; try rfl, by rw [hs]; exact (CR_say (CR_say C (show sN S 40 + 0 < 41 by omega) (126)) (show sN S 40 + 1 < 41 by omega) (0)), rfl, rfl, rfl⟩)
    · have hf : ¬ fn S = 0 := fun e => c15 (by rw [e]; rfl)
      have hs : sv62 S = (18, S) := by unfold sv62; rw [if_neg (not_not_intro hn), if_pos hf]
      refine z_bipush (v := 18) F dX5_stayPresent_18 rfl ?_
      exact z_iret F hr dX5_stayPresent_20 rfl (Nat.le_of_ble_eq_true rfl) (Nat.le_of_ble_eq_true rfl) (⟨by rw [hs]; try rfl, x, d, by rw [hs]; try rfl, by rw [hs]; exact C, rfl, rfl, rfl⟩)
  · have hn : ¬ sN S 38 - 1 = 1 := fun e => c5 (by rw [e]; rfl)
    have hs : sv62 S = (19, S) := if_pos hn
    refine z_bipush (v := 19) F dX5_stayPresent_8 rfl ?_
    exact z_iret F hr dX5_stayPresent_10 rfl (Nat.le_of_ble_eq_true rfl) (Nat.le_of_ble_eq_true rfl) (⟨by rw [hs]; try rfl, x, d, by rw [hs]; try rfl, by rw [hs]; exact C, rfl, rfl, rfl⟩)

set_option maxRecDepth 100000 in
set_option maxHeartbeats 1000000 in
theorem c_X5_reset {S : z_S} {x : z_Xc} {m : Nat → z_E} {d : z_H} {w : Bool} (C : CR S x d) (Q : QV w S x) (R : rowOK S) (W : idsOK S) (V : numsOK S) (U : trOK S) (Y : rtsOK S) (h0 : 0 < sN S 38) (hA : sN S 40 = 0) (hV : sAN S 39 0 = 17) : z_K yX5_reset cX5_reset 3 (some .int) 3 0 0 [.ref 1, .ref (qa w)] (HP (cfun S x) m d) (fun v h' => v = some (.int (nI (sv17 S).1)) ∧ ∃ (x' : z_Xc) (d' : z_H), h' = HP (cfun (sv17 S).2 x') m d' ∧ CR (sv17 S).2 x' d' ∧ KX x x') := by
  have hM := Q.2.1
  refine z_met vI_X5_reset (Nat.le_of_ble_eq_true rfl) (fun G X F hr hnm => ?_)
  refine z_aload_n F dX5_reset_0 rfl rfl ?_
  refine z_callV F z_nwOK wL_good (c_qsize Q) cQ.1 rfl vI_X2_size vM_X5_236 vV_X2_size vL_X2_size rfl dX5_reset_1 rfl rfl (Nat.le_of_ble_eq_true rfl) ⟨(Nat.le_of_ble_eq_true rfl), (Nat.le_of_ble_eq_true rfl), (Nat.le_of_ble_eq_true rfl), (Nat.le_of_ble_eq_true rfl)⟩ (fun v h1 hq => ?_)
  obtain ⟨rfl, rfl⟩ := hq
  refine z_iconst (v := 1) F dX5_reset_4 rfl ?_
  refine z_icmp_eq (tgt := 11) F dX5_reset_5 (by decide) (fun c5 => ?_) (fun c5 => ?_)
  · have hn : sN S 38 - 1 = 1 := (nI_eq (b := 1) (by omega) (by decide)).mp c5
    have f128 : fn S < 128 := Nat.mod_lt _ (by decide)
    refine z_aload_n F dX5_reset_11 rfl rfl ?_
    refine z_callV F z_nwOK wL_good (c_qfun Q (by omega)) cQ.1 rfl vI_X2_function vM_X5_239 vV_X2_function vL_X2_function rfl dX5_reset_12 rfl rfl (Nat.le_of_ble_eq_true rfl) ⟨(Nat.le_of_ble_eq_true rfl), (Nat.le_of_ble_eq_true rfl), (Nat.le_of_ble_eq_true rfl), (Nat.le_of_ble_eq_true rfl)⟩ (fun v h1 hq => ?_)
    obtain ⟨rfl, rfl⟩ := hq
    refine z_istore_n F dX5_reset_15 (Nat.le_of_ble_eq_true rfl) ?_
    refine z_iload_n F dX5_reset_16 rfl ?_
    refine z_iconst (v := 1) F dX5_reset_17 rfl ?_
    refine z_icmp_eq (tgt := 29) F dX5_reset_18 (by decide) (fun c18 => ?_) (fun c18 => ?_)
    · have hf : fn S = 1 ∨ fn S = 3 := Or.inl ((nI_eq (b := 1) (by omega) (by decide)).mp c18)
      refine z_aload_n F dX5_reset_29 rfl rfl ?_
      refine z_getf F vF_X5_28 dX5_reset_30 cO_at rfl ?_
      refine z_if_ne (tgt := 39) F dX5_reset_33 (by decide) (fun c33 => ?_) (fun c33 => ?_)
      · have hd : ¬ sB S 5 = false := by rw [z_b1 c33]; decide
        rcases id hf with hk | hk
        · rw [hk]
          have hs : sv17 S = (0, sayS (sayS (ownS (resS (endS S 1) 10) (sN S 8)) 81) 1) := by unfold sv17; rw [if_neg (not_not_intro hn), if_neg (not_not_intro hf), if_neg hd, if_pos hk]
          refine z_aload_n F dX5_reset_39 rfl rfl ?_
          refine z_iconst (v := 1) F dX5_reset_40 rfl ?_
          refine z_callV F z_nwOK wL_good (c_X5_endSession (f := 1) C W.1) cO_at rfl vI_X5_endSession vM_X5_158 vV_X5_endSession vL_X5_endSession rfl dX5_reset_41 rfl rfl (Nat.le_of_ble_eq_true rfl) ⟨(Nat.le_of_ble_eq_true rfl), (Nat.le_of_ble_eq_true rfl), (Nat.le_of_ble_eq_true rfl), (Nat.le_of_ble_eq_true rfl)⟩ (fun v h1 hq => ?_)
          obtain ⟨rfl, d1, rfl, C1⟩ := hq
          refine z_aload_n F dX5_reset_44 rfl rfl ?_
          refine z_callV F z_nwOK wL_good (c_X5_forget C1) cO_at rfl vI_X5_forgetRoutines vM_X5_245 vV_X5_forgetRoutines vL_X5_forgetRoutines rfl dX5_reset_45 rfl rfl (Nat.le_of_ble_eq_true rfl) ⟨(Nat.le_of_ble_eq_true rfl), (Nat.le_of_ble_eq_true rfl), (Nat.le_of_ble_eq_true rfl), (Nat.le_of_ble_eq_true rfl)⟩ (fun v h1 hq => ?_)
          obtain ⟨rfl, d2, rfl, C2⟩ := hq
          refine z_iload_n F dX5_reset_48 rfl ?_
          refine z_iconst (v := 1) F dX5_reset_49 rfl ?_
          refine z_icmp_ne (tgt := 57) F dX5_reset_50 (by decide) (fun c50 => absurd rfl c50) (fun c50 => ?_)
          refine z_aload_n F dX5_reset_53 rfl rfl ?_
          refine z_callV F z_nwOK wL_good (c_X5_clearOwn (S := resS (endS S 1) 10) C2 W.1) cO_at rfl vI_X5_clearOwnValues vM_X5_248 vV_X5_clearOwnValues vL_X5_clearOwnValues rfl dX5_reset_54 rfl rfl (Nat.le_of_ble_eq_true rfl) ⟨(Nat.le_of_ble_eq_true rfl), (Nat.le_of_ble_eq_true rfl), (Nat.le_of_ble_eq_true rfl), (Nat.le_of_ble_eq_true rfl)⟩ (fun v h1 hq => ?_)
          obtain ⟨rfl, d3, rfl, C3⟩ := hq
          refine z_aload_n F dX5_reset_57 rfl rfl ?_
          refine z_aload_n F dX5_reset_58 rfl rfl ?_
          refine z_callV F z_nwOK wL_good (c_bR (b := 81) (QV_to (S' := ownS (resS (endS S 1) 10) (sN S 8)) (x' := (wt x (0, (xt x).2.1, (xt x).2.2))) Q (by cases w <;> rfl) rfl rfl rfl) h0 (show sN S 40 + 0 < 41 by omega) (show sAN S 39 0 + 64 = 81 by omega)) cO_at rfl vI_X5_beginReply vM_X5_242 vV_X5_beginReply vL_X5_beginReply rfl dX5_reset_59 rfl rfl (Nat.le_of_ble_eq_true rfl) ⟨(Nat.le_of_ble_eq_true rfl), (Nat.le_of_ble_eq_true rfl), (Nat.le_of_ble_eq_true rfl), (Nat.le_of_ble_eq_true rfl)⟩ (fun v h1 hq => ?_)
          obtain ⟨rfl, rfl⟩ := hq
          refine z_aload_n F dX5_reset_62 rfl rfl ?_
          refine z_getf F vF_X5_67 dX5_reset_63 cO_at rfl ?_
          refine z_iload_n F dX5_reset_66 rfl ?_
          refine z_callV F z_nwOK wL_good (c_put (b := 1) (show sN S 40 + 1 < 41 by omega)) cAn.1 rfl vI_X0_put vM_X5_190 vV_X0_put vL_X0_put rfl dX5_reset_67 rfl rfl (Nat.le_of_ble_eq_true rfl) ⟨(Nat.le_of_ble_eq_true rfl), (Nat.le_of_ble_eq_true rfl), (Nat.le_of_ble_eq_true rfl), (Nat.le_of_ble_eq_true rfl)⟩ (fun v h1 hq => ?_)
          obtain ⟨rfl, rfl⟩ := hq
          refine z_iconst (v := 0) F dX5_reset_70 rfl ?_
          exact z_iret F hr dX5_reset_71 rfl (Nat.le_of_ble_eq_true rfl) (Nat.le_of_ble_eq_true rfl) (⟨by rw [hs]; try rfl, (sx (sayS (ownS (resS (endS S 1) 10) (sN S 8)) (81)) (sx (ownS (resS (endS S 1) 10) (sN S 8)) (wt x (0, (xt x).2.1, (xt x).2.2)) (81)) (1)), d3, by rw [hs]; try rfl, by rw [hs]; exact (CR_say (CR_say C3 (show sN S 40 + 0 < 41 by omega) (81)) (show sN S 40 + 1 < 41 by omega) (1)), rfl, rfl, rfl⟩)
        · rw [hk]
          have hs : sv17 S = (0, sayS (sayS (resS (endS S 1) 10) 81) 3) := by unfold sv17; rw [if_neg (not_not_intro hn), if_neg (not_not_intro hf), if_neg hd, if_neg (by omega)]
          refine z_aload_n F dX5_reset_39 rfl rfl ?_
          refine z_iconst (v := 1) F dX5_reset_40 rfl ?_
          refine z_callV F z_nwOK wL_good (c_X5_endSession (f := 1) C W.1) cO_at rfl vI_X5_endSession vM_X5_158 vV_X5_endSession vL_X5_endSession rfl dX5_reset_41 rfl rfl (Nat.le_of_ble_eq_true rfl) ⟨(Nat.le_of_ble_eq_true rfl), (Nat.le_of_ble_eq_true rfl), (Nat.le_of_ble_eq_true rfl), (Nat.le_of_ble_eq_true rfl)⟩ (fun v h1 hq => ?_)
          obtain ⟨rfl, d1, rfl, C1⟩ := hq
          refine z_aload_n F dX5_reset_44 rfl rfl ?_
          refine z_callV F z_nwOK wL_good (c_X5_forget C1) cO_at rfl vI_X5_forgetRoutines vM_X5_245 vV_X5_forgetRoutines vL_X5_forgetRoutines rfl dX5_reset_45 rfl rfl (Nat.le_of_ble_eq_true rfl) ⟨(Nat.le_of_ble_eq_true rfl), (Nat.le_of_ble_eq_true rfl), (Nat.le_of_ble_eq_true rfl), (Nat.le_of_ble_eq_true rfl)⟩ (fun v h1 hq => ?_)
          obtain ⟨rfl, d2, rfl, C2⟩ := hq
          refine z_iload_n F dX5_reset_48 rfl ?_
          refine z_iconst (v := 1) F dX5_reset_49 rfl ?_
          refine z_icmp_ne (tgt := 57) F dX5_reset_50 (by decide) (fun c50 => ?_) (fun c50 => absurd c50 (by decide))
          refine z_aload_n F dX5_reset_57 rfl rfl ?_
          refine z_aload_n F dX5_reset_58 rfl rfl ?_
          refine z_callV F z_nwOK wL_good (c_bR (b := 81) (QV_to (S' := resS (endS S 1) 10) (x' := (wt x (0, (xt x).2.1, (xt x).2.2))) Q (by cases w <;> rfl) rfl rfl rfl) h0 (show sN S 40 + 0 < 41 by omega) (show sAN S 39 0 + 64 = 81 by omega)) cO_at rfl vI_X5_beginReply vM_X5_242 vV_X5_beginReply vL_X5_beginReply rfl dX5_reset_59 rfl rfl (Nat.le_of_ble_eq_true rfl) ⟨(Nat.le_of_ble_eq_true rfl), (Nat.le_of_ble_eq_true rfl), (Nat.le_of_ble_eq_true rfl), (Nat.le_of_ble_eq_true rfl)⟩ (fun v h1 hq => ?_)
          obtain ⟨rfl, rfl⟩ := hq
          refine z_aload_n F dX5_reset_62 rfl rfl ?_
          refine z_getf F vF_X5_67 dX5_reset_63 cO_at rfl ?_
          refine z_iload_n F dX5_reset_66 rfl ?_
          refine z_callV F z_nwOK wL_good (c_put (b := 3) (show sN S 40 + 1 < 41 by omega)) cAn.1 rfl vI_X0_put vM_X5_190 vV_X0_put vL_X0_put rfl dX5_reset_67 rfl rfl (Nat.le_of_ble_eq_true rfl) ⟨(Nat.le_of_ble_eq_true rfl), (Nat.le_of_ble_eq_true rfl), (Nat.le_of_ble_eq_true rfl), (Nat.le_of_ble_eq_true rfl)⟩ (fun v h1 hq => ?_)
          obtain ⟨rfl, rfl⟩ := hq
          refine z_iconst (v := 0) F dX5_reset_70 rfl ?_
          exact z_iret F hr dX5_reset_71 rfl (Nat.le_of_ble_eq_true rfl) (Nat.le_of_ble_eq_true rfl) (⟨by rw [hs]; try rfl, (sx (sayS (resS (endS S 1) 10) (81)) (sx (resS (endS S 1) 10) (wt x (0, (xt x).2.1, (xt x).2.2)) (81)) (3)), d2, by rw [hs]; try rfl, by rw [hs]; exact (CR_say (CR_say C2 (show sN S 40 + 0 < 41 by omega) (81)) (show sN S 40 + 1 < 41 by omega) (3)), rfl, rfl, rfl⟩)
      · have hs : sv17 S = (34, S) := by unfold sv17; rw [if_neg (not_not_intro hn), if_neg (not_not_intro hf), if_pos (z_b0.mp c33)]
        refine z_bipush (v := 34) F dX5_reset_36 rfl ?_
        exact z_iret F hr dX5_reset_38 rfl (Nat.le_of_ble_eq_true rfl) (Nat.le_of_ble_eq_true rfl) (⟨by rw [hs]; try rfl, x, d, by rw [hs]; try rfl, by rw [hs]; exact C, rfl, rfl, rfl⟩)
    · refine z_iload_n F dX5_reset_21 rfl ?_
      refine z_iconst (v := 3) F dX5_reset_22 rfl ?_
      refine z_icmp_eq (tgt := 29) F dX5_reset_23 (by decide) (fun c23 => ?_) (fun c23 => ?_)
      · have hf : fn S = 1 ∨ fn S = 3 := Or.inr ((nI_eq (b := 3) (by omega) (by decide)).mp c23)
        refine z_aload_n F dX5_reset_29 rfl rfl ?_
        refine z_getf F vF_X5_28 dX5_reset_30 cO_at rfl ?_
        refine z_if_ne (tgt := 39) F dX5_reset_33 (by decide) (fun c33 => ?_) (fun c33 => ?_)
        · have hd : ¬ sB S 5 = false := by rw [z_b1 c33]; decide
          rcases id hf with hk | hk
          · rw [hk]
            have hs : sv17 S = (0, sayS (sayS (ownS (resS (endS S 1) 10) (sN S 8)) 81) 1) := by unfold sv17; rw [if_neg (not_not_intro hn), if_neg (not_not_intro hf), if_neg hd, if_pos hk]
            refine z_aload_n F dX5_reset_39 rfl rfl ?_
            refine z_iconst (v := 1) F dX5_reset_40 rfl ?_
            refine z_callV F z_nwOK wL_good (c_X5_endSession (f := 1) C W.1) cO_at rfl vI_X5_endSession vM_X5_158 vV_X5_endSession vL_X5_endSession rfl dX5_reset_41 rfl rfl (Nat.le_of_ble_eq_true rfl) ⟨(Nat.le_of_ble_eq_true rfl), (Nat.le_of_ble_eq_true rfl), (Nat.le_of_ble_eq_true rfl), (Nat.le_of_ble_eq_true rfl)⟩ (fun v h1 hq => ?_)
            obtain ⟨rfl, d1, rfl, C1⟩ := hq
            refine z_aload_n F dX5_reset_44 rfl rfl ?_
            refine z_callV F z_nwOK wL_good (c_X5_forget C1) cO_at rfl vI_X5_forgetRoutines vM_X5_245 vV_X5_forgetRoutines vL_X5_forgetRoutines rfl dX5_reset_45 rfl rfl (Nat.le_of_ble_eq_true rfl) ⟨(Nat.le_of_ble_eq_true rfl), (Nat.le_of_ble_eq_true rfl), (Nat.le_of_ble_eq_true rfl), (Nat.le_of_ble_eq_true rfl)⟩ (fun v h1 hq => ?_)
            obtain ⟨rfl, d2, rfl, C2⟩ := hq
            refine z_iload_n F dX5_reset_48 rfl ?_
            refine z_iconst (v := 1) F dX5_reset_49 rfl ?_
            refine z_icmp_ne (tgt := 57) F dX5_reset_50 (by decide) (fun c50 => absurd rfl c50) (fun c50 => ?_)
            refine z_aload_n F dX5_reset_53 rfl rfl ?_
            refine z_callV F z_nwOK wL_good (c_X5_clearOwn (S := resS (endS S 1) 10) C2 W.1) cO_at rfl vI_X5_clearOwnValues vM_X5_248 vV_X5_clearOwnValues vL_X5_clearOwnValues rfl dX5_reset_54 rfl rfl (Nat.le_of_ble_eq_true rfl) ⟨(Nat.le_of_ble_eq_true rfl), (Nat.le_of_ble_eq_true rfl), (Nat.le_of_ble_eq_true rfl), (Nat.le_of_ble_eq_true rfl)⟩ (fun v h1 hq => ?_)
            obtain ⟨rfl, d3, rfl, C3⟩ := hq
            refine z_aload_n F dX5_reset_57 rfl rfl ?_
            refine z_aload_n F dX5_reset_58 rfl rfl ?_
            refine z_callV F z_nwOK wL_good (c_bR (b := 81) (QV_to (S' := ownS (resS (endS S 1) 10) (sN S 8)) (x' := (wt x (0, (xt x).2.1, (xt x).2.2))) Q (by cases w <;> rfl) rfl rfl rfl) h0 (show sN S 40 + 0 < 41 by omega) (show sAN S 39 0 + 64 = 81 by omega)) cO_at rfl vI_X5_beginReply vM_X5_242 vV_X5_beginReply vL_X5_beginReply rfl dX5_reset_59 rfl rfl (Nat.le_of_ble_eq_true rfl) ⟨(Nat.le_of_ble_eq_true rfl), (Nat.le_of_ble_eq_true rfl), (Nat.le_of_ble_eq_true rfl), (Nat.le_of_ble_eq_true rfl)⟩ (fun v h1 hq => ?_)
            obtain ⟨rfl, rfl⟩ := hq
            refine z_aload_n F dX5_reset_62 rfl rfl ?_
            refine z_getf F vF_X5_67 dX5_reset_63 cO_at rfl ?_
            refine z_iload_n F dX5_reset_66 rfl ?_
            refine z_callV F z_nwOK wL_good (c_put (b := 1) (show sN S 40 + 1 < 41 by omega)) cAn.1 rfl vI_X0_put vM_X5_190 vV_X0_put vL_X0_put rfl dX5_reset_67 rfl rfl (Nat.le_of_ble_eq_true rfl) ⟨(Nat.le_of_ble_eq_true rfl), (Nat.le_of_ble_eq_true rfl), (Nat.le_of_ble_eq_true rfl), (Nat.le_of_ble_eq_true rfl)⟩ (fun v h1 hq => ?_)
            obtain ⟨rfl, rfl⟩ := hq
            refine z_iconst (v := 0) F dX5_reset_70 rfl ?_
            exact z_iret F hr dX5_reset_71 rfl (Nat.le_of_ble_eq_true rfl) (Nat.le_of_ble_eq_true rfl) (⟨by rw [hs]; try rfl, (sx (sayS (ownS (resS (endS S 1) 10) (sN S 8)) (81)) (sx (ownS (resS (endS S 1) 10) (sN S 8)) (wt x (0, (xt x).2.1, (xt x).2.2)) (81)) (1)), d3, by rw [hs]; try rfl, by rw [hs]; exact (CR_say (CR_say C3 (show sN S 40 + 0 < 41 by omega) (81)) (show sN S 40 + 1 < 41 by omega) (1)), rfl, rfl, rfl⟩)
          · rw [hk]
            have hs : sv17 S = (0, sayS (sayS (resS (endS S 1) 10) 81) 3) := by unfold sv17; rw [if_neg (not_not_intro hn), if_neg (not_not_intro hf), if_neg hd, if_neg (by omega)]
            refine z_aload_n F dX5_reset_39 rfl rfl ?_
            refine z_iconst (v := 1) F dX5_reset_40 rfl ?_
            refine z_callV F z_nwOK wL_good (c_X5_endSession (f := 1) C W.1) cO_at rfl vI_X5_endSession vM_X5_158 vV_X5_endSession vL_X5_endSession rfl dX5_reset_41 rfl rfl (Nat.le_of_ble_eq_true rfl) ⟨(Nat.le_of_ble_eq_true rfl), (Nat.le_of_ble_eq_true rfl), (Nat.le_of_ble_eq_true rfl), (Nat.le_of_ble_eq_true rfl)⟩ (fun v h1 hq => ?_)
            obtain ⟨rfl, d1, rfl, C1⟩ := hq
            refine z_aload_n F dX5_reset_44 rfl rfl ?_
            refine z_callV F z_nwOK wL_good (c_X5_forget C1) cO_at rfl vI_X5_forgetRoutines vM_X5_245 vV_X5_forgetRoutines vL_X5_forgetRoutines rfl dX5_reset_45 rfl rfl (Nat.le_of_ble_eq_true rfl) ⟨(Nat.le_of_ble_eq_true rfl), (Nat.le_of_ble_eq_true rfl), (Nat.le_of_ble_eq_true rfl), (Nat.le_of_ble_eq_true rfl)⟩ (fun v h1 hq => ?_)
            obtain ⟨rfl, d2, rfl, C2⟩ := hq
            refine z_iload_n F dX5_reset_48 rfl ?_
            refine z_iconst (v := 1) F dX5_reset_49 rfl ?_
            refine z_icmp_ne (tgt := 57) F dX5_reset_50 (by decide) (fun c50 => ?_) (fun c50 => absurd c50 (by decide))
            refine z_aload_n F dX5_reset_57 rfl rfl ?_
            refine z_aload_n F dX5_reset_58 rfl rfl ?_
            refine z_callV F z_nwOK wL_good (c_bR (b := 81) (QV_to (S' := resS (endS S 1) 10) (x' := (wt x (0, (xt x).2.1, (xt x).2.2))) Q (by cases w <;> rfl) rfl rfl rfl) h0 (show sN S 40 + 0 < 41 by omega) (show sAN S 39 0 + 64 = 81 by omega)) cO_at rfl vI_X5_beginReply vM_X5_242 vV_X5_beginReply vL_X5_beginReply rfl dX5_reset_59 rfl rfl (Nat.le_of_ble_eq_true rfl) ⟨(Nat.le_of_ble_eq_true rfl), (Nat.le_of_ble_eq_true rfl), (Nat.le_of_ble_eq_true rfl), (Nat.le_of_ble_eq_true rfl)⟩ (fun v h1 hq => ?_)
            obtain ⟨rfl, rfl⟩ := hq
            refine z_aload_n F dX5_reset_62 rfl rfl ?_
            refine z_getf F vF_X5_67 dX5_reset_63 cO_at rfl ?_
            refine z_iload_n F dX5_reset_66 rfl ?_
            refine z_callV F z_nwOK wL_good (c_put (b := 3) (show sN S 40 + 1 < 41 by omega)) cAn.1 rfl vI_X0_put vM_X5_190 vV_X0_put vL_X0_put rfl dX5_reset_67 rfl rfl (Nat.le_of_ble_eq_true rfl) ⟨(Nat.le_of_ble_eq_true rfl), (Nat.le_of_ble_eq_true rfl), (Nat.le_of_ble_eq_true rfl), (Nat.le_of_ble_eq_true rfl)⟩ (fun v h1 hq => ?_)
            obtain ⟨rfl, rfl⟩ := hq
            refine z_iconst (v := 0) F dX5_reset_70 rfl ?_
            exact z_iret F hr dX5_reset_71 rfl (Nat.le_of_ble_eq_true rfl) (Nat.le_of_ble_eq_true rfl) (⟨by rw [hs]; try rfl, (sx (sayS (resS (endS S 1) 10) (81)) (sx (resS (endS S 1) 10) (wt x (0, (xt x).2.1, (xt x).2.2)) (81)) (3)), d2, by rw [hs]; try rfl, by rw [hs]; exact (CR_say (CR_say C2 (show sN S 40 + 0 < 41 by omega) (81)) (show sN S 40 + 1 < 41 by omega) (3)), rfl, rfl, rfl⟩)
        · have hs : sv17 S = (34, S) := by unfold sv17; rw [if_neg (not_not_intro hn), if_neg (not_not_intro hf), if_pos (z_b0.mp c33)]
          refine z_bipush (v := 34) F dX5_reset_36 rfl ?_
          exact z_iret F hr dX5_reset_38 rfl (Nat.le_of_ble_eq_true rfl) (Nat.le_of_ble_eq_true rfl) (⟨by rw [hs]; try rfl, x, d, by rw [hs]; try rfl, by rw [hs]; exact C, rfl, rfl, rfl⟩)
      · have hf : ¬ (fn S = 1 ∨ fn S = 3) := fun e => e.elim (fun e => c18 (by rw [e]; rfl)) (fun e => c23 (by rw [e]; rfl))
        have hs : sv17 S = (18, S) := by unfold sv17; rw [if_neg (not_not_intro hn), if_pos hf]
        refine z_bipush (v := 18) F dX5_reset_26 rfl ?_
        exact z_iret F hr dX5_reset_28 rfl (Nat.le_of_ble_eq_true rfl) (Nat.le_of_ble_eq_true rfl) (⟨by rw [hs]; try rfl, x, d, by rw [hs]; try rfl, by rw [hs]; exact C, rfl, rfl, rfl⟩)
  · have hn : ¬ sN S 38 - 1 = 1 := fun e => c5 (by rw [e]; rfl)
    have hs : sv17 S = (19, S) := if_pos hn
    refine z_bipush (v := 19) F dX5_reset_8 rfl ?_
    exact z_iret F hr dX5_reset_10 rfl (Nat.le_of_ble_eq_true rfl) (Nat.le_of_ble_eq_true rfl) (⟨by rw [hs]; try rfl, x, d, by rw [hs]; try rfl, by rw [hs]; exact C, rfl, rfl, rfl⟩)
