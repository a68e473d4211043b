set_option maxRecDepth 100000 in
set_option maxHeartbeats 1000000 in
theorem c_X5_openTransfer {S : z_S} {x : z_Xc} {m : Nat → z_E} {d : z_H} {w : Bool} (C : CR S x d) (Q : QV w S x) (R : rowOK S) (W : idsOK S) (V : numsOK S) (U : trOK S) (Y : rtsOK S) (h0 : 0 < sN S 38) (hA : sN S 40 = 0) (hV : sAN S 39 0 = 52) : z_K yX5_openTransfer cX5_openTransfer 3 (some .int) 3 0 0 [.ref 1, .ref (qa w)] (HP (cfun S x) m d) (fun v h' => v = some (.int (nI (sv52 S).1)) ∧ ∃ (x' : z_Xc) (d' : z_H), h' = HP (cfun (sv52 S).2 x') m d' ∧ CR (sv52 S).2 x' d' ∧ KX x x') := by
  have hM := Q.2.1
  obtain ⟨u1, u2, u3, u4⟩ := id U
  obtain ⟨t1, t2, t3, t4, t5⟩ := id C.2.2.2.2.2.2
  refine z_met vI_X5_openTransfer (Nat.le_of_ble_eq_true rfl) (fun G X F hr hnm => ?_)
  refine z_aload_n F dX5_openTransfer_0 rfl rfl ?_
  refine z_getf F vF_X5_35 dX5_openTransfer_1 cO_at rfl ?_
  refine z_iconst (v := 3) F dX5_openTransfer_4 rfl ?_
  refine z_icmp_eq (tgt := 11) F dX5_openTransfer_5 (by decide) (fun c5 => ?_) (fun c5 => ?_)
  · have hs1 : sN S 1 = 3 := (nI_eq (a := sN S 1) (b := 3) (by have := V.1; omega) (by decide)).mp c5
    refine z_aload_n F dX5_openTransfer_11 rfl rfl ?_
    refine z_callV F z_nwOK wL_good (c_qsize Q) cQ.1 rfl vI_X2_size vM_X5_236 vV_X2_size vL_X2_size rfl dX5_openTransfer_12 rfl rfl (Nat.le_of_ble_eq_true rfl) ⟨(Nat.le_of_ble_eq_true rfl), (Nat.le_of_ble_eq_true rfl), (Nat.le_of_ble_eq_true rfl), (Nat.le_of_ble_eq_true rfl)⟩ (fun v h1 hq => ?_)
    obtain ⟨rfl, rfl⟩ := hq
    refine z_iconst (v := 2) F dX5_openTransfer_15 rfl ?_
    refine z_icmp_eq (tgt := 22) F dX5_openTransfer_16 (by decide) (fun c16 => ?_) (fun c16 => ?_)
    · have hn : sN S 38 - 1 = 2 := (nI_eq (b := 2) (by omega) (by decide)).mp c16
      refine z_aload_n F dX5_openTransfer_22 rfl rfl ?_
      refine z_getf F vF_X5_74 dX5_openTransfer_23 cO_at rfl ?_
      refine z_getf F vF_X5_305 dX5_openTransfer_26 cTr rfl ?_
      refine z_if_eq (tgt := 35) F dX5_openTransfer_29 (by decide) (fun c29 => ?_) (fun c29 => ?_)
      · have ho : ¬ sB S 26 = true := by rw [z_b0.mp c29]; decide
        have hw : toldN S 1 < 65536 := by unfold toldN; have := R 1; have := R (1 + 1); omega
        refine z_aload_n F dX5_openTransfer_35 rfl rfl ?_
        refine z_iconst (v := 0) F dX5_openTransfer_36 rfl ?_
        refine z_callV F z_nwOK wL_good (c_qword (p := 0) Q (show 0 + 2 < sN S 38 by omega)) cQ.1 rfl vI_X2_word vM_X5_254 vV_X2_word vL_X2_word rfl dX5_openTransfer_37 rfl rfl (Nat.le_of_ble_eq_true rfl) ⟨(Nat.le_of_ble_eq_true rfl), (Nat.le_of_ble_eq_true rfl), (Nat.le_of_ble_eq_true rfl), (Nat.le_of_ble_eq_true rfl)⟩ (fun v h1 hq => ?_)
        obtain ⟨rfl, rfl⟩ := hq
        rw [show toldN S (0 + 1) = toldN S 1 from rfl]
        refine z_istore_n F dX5_openTransfer_40 (Nat.le_of_ble_eq_true rfl) ?_
        refine z_iload_n F dX5_openTransfer_41 rfl ?_
        refine z_iconst (v := 1) F dX5_openTransfer_42 rfl ?_
        refine z_sipush (v := 200) F dX5_openTransfer_43 rfl ?_
        refine z_callS F z_nwOK wL_good (c_within (A := 1) (B := 200) (nI (toldN S 1)) 1 200 rfl rfl) vI_X5_isWithin vM_X5_79 vS_X5_isWithin rfl dX5_openTransfer_46 rfl rfl (Nat.le_of_ble_eq_true rfl) ⟨(Nat.le_of_ble_eq_true rfl), (Nat.le_of_ble_eq_true rfl), (Nat.le_of_ble_eq_true rfl), (Nat.le_of_ble_eq_true rfl)⟩ (fun v h1 hq => ?_)
        obtain ⟨rfl, rfl⟩ := hq
        refine z_if_ne (tgt := 55) F dX5_openTransfer_49 (by decide) (fun c49 => ?_) (fun c49 => ?_)
        · have ht : 1 ≤ toldN S 1 ∧ toldN S 1 ≤ 200 := by have h9 := z_b1 c49; rw [nI_toInt (by omega)] at h9; unfold inZ at h9; simp at h9; omega
          have hs : sv52 S = (0, sayS (sayS (uB (uN (uN (uN (uB S 26 true) 27 (toldN S 1)) 28 0) 29 0) 31 false) 116) 8) := by unfold sv52; rw [if_neg (not_not_intro hs1), if_neg (not_not_intro hn), if_neg ho, if_neg (not_not_intro ht)]
          have TI : TR (uB (uN (uN (uN (uB S 26 true) 27 (toldN S 1)) 28 0) 29 0) 31 false) (wt x (toldN S 1, 0, 0)) := ⟨fun _ => ⟨rfl, rfl, ⟨fun h => absurd (show false = true from h) (by decide), fun h => absurd (show 0 < 0 from h) (by decide)⟩, fun h => absurd (show false = true from h) (by decide), Nat.le_refl 0⟩, fun h => absurd (show true = false from h) (by decide), ht.2, Nat.le_of_ble_eq_true rfl, Nat.zero_le _⟩
          have CI : CR (uB (uN (uN (uN (uB S 26 true) 27 (toldN S 1)) 28 0) 29 0) 31 false) (wt x (toldN S 1, 0, 0)) d := ⟨C.1, C.2.1, C.2.2.1, C.2.2.2.1, C.2.2.2.2.1, C.2.2.2.2.2.1, TI⟩
          refine z_aload_n F dX5_openTransfer_55 rfl rfl ?_
          refine z_getf F vF_X5_74 dX5_openTransfer_56 cO_at rfl ?_
          refine z_iload_n F dX5_openTransfer_59 rfl ?_
          refine z_callV F z_nwOK wL_good (c_X4_open cTr (toldN S 1)) cTr rfl vI_X4_open vM_X5_308 vV_X4_open vL_X4_open rfl dX5_openTransfer_60 rfl rfl (Nat.le_of_ble_eq_true rfl) ⟨(Nat.le_of_ble_eq_true rfl), (Nat.le_of_ble_eq_true rfl), (Nat.le_of_ble_eq_true rfl), (Nat.le_of_ble_eq_true rfl)⟩ (fun v h1 hq => ?_)
          obtain ⟨rfl, rfl⟩ := hq
          refine z_heap (HP (cfun (uB (uN (uN (uN (uB S 26 true) 27 (toldN S 1)) 28 0) 29 0) 31 false) (wt x (toldN S 1, 0, 0))) m d) rfl ?_
          refine z_aload_n F dX5_openTransfer_63 rfl rfl ?_
          refine z_aload_n F dX5_openTransfer_64 rfl rfl ?_
          refine z_callV F z_nwOK wL_good (c_bR (b := 116) (QV_to (S' := uB (uN (uN (uN (uB S 26 true) 27 (toldN S 1)) 28 0) 29 0) 31 false) (x' := (wt x (toldN S 1, 0, 0))) Q (by cases w <;> rfl) rfl rfl rfl) h0 (show sN S 40 + 0 < 41 by omega) (show sAN S 39 0 + 64 = 116 by omega)) cO_at rfl vI_X5_beginReply vM_X5_242 vV_X5_beginReply vL_X5_beginReply rfl dX5_openTransfer_65 rfl rfl (Nat.le_of_ble_eq_true rfl) ⟨(Nat.le_of_ble_eq_true rfl), (Nat.le_of_ble_eq_true rfl), (Nat.le_of_ble_eq_true rfl), (Nat.le_of_ble_eq_true rfl)⟩ (fun v h1 hq => ?_)
          obtain ⟨rfl, rfl⟩ := hq
          refine z_aload_n F dX5_openTransfer_68 rfl rfl ?_
          refine z_getf F vF_X5_67 dX5_openTransfer_69 cO_at rfl ?_
          refine z_bipush (v := 8) F dX5_openTransfer_72 rfl ?_
          refine z_callV F z_nwOK wL_good (c_put (b := 8) (show sN S 40 + 1 < 41 by omega)) cAn.1 rfl vI_X0_put vM_X5_190 vV_X0_put vL_X0_put rfl dX5_openTransfer_74 rfl rfl (Nat.le_of_ble_eq_true rfl) ⟨(Nat.le_of_ble_eq_true rfl), (Nat.le_of_ble_eq_true rfl), (Nat.le_of_ble_eq_true rfl), (Nat.le_of_ble_eq_true rfl)⟩ (fun v h1 hq => ?_)
          obtain ⟨rfl, rfl⟩ := hq
          refine z_iconst (v := 0) F dX5_openTransfer_77 rfl ?_
          exact z_iret F hr dX5_openTransfer_78 rfl (Nat.le_of_ble_eq_true rfl) (Nat.le_of_ble_eq_true rfl) (⟨by rw [hs]; try rfl, (sx (sayS (uB (uN (uN (uN (uB S 26 true) 27 (toldN S 1)) 28 0) 29 0) 31 false) (116)) (sx (uB (uN (uN (uN (uB S 26 true) 27 (toldN S 1)) 28 0) 29 0) 31 false) (wt x (toldN S 1, 0, 0)) (116)) (8)), d, by rw [hs]; try rfl, by rw [hs]; exact (CR_say (CR_say CI (show sN S 40 + 0 < 41 by omega) (116)) (show sN S 40 + 1 < 41 by omega) (8)), rfl, rfl, rfl⟩)
        · have ht : ¬ (1 ≤ toldN S 1 ∧ toldN S 1 ≤ 200) := by have h9 := z_b0.mp c49; rw [nI_toInt (by omega)] at h9; unfold inZ at h9; simp at h9; omega
          have hs : sv52 S = (49, S) := by unfold sv52; rw [if_neg (not_not_intro hs1), if_neg (not_not_intro hn), if_neg ho, if_pos ht]
          refine z_bipush (v := 49) F dX5_openTransfer_52 rfl ?_
          exact z_iret F hr dX5_openTransfer_54 rfl (Nat.le_of_ble_eq_true rfl) (Nat.le_of_ble_eq_true rfl) (⟨by rw [hs]; try rfl, x, d, by rw [hs]; try rfl, by rw [hs]; exact C, rfl, rfl, rfl⟩)
      · have hs : sv52 S = (112, S) := by unfold sv52; rw [if_neg (not_not_intro hs1), if_neg (not_not_intro hn), if_pos (z_b1 c29)]
        refine z_bipush (v := 112) F dX5_openTransfer_32 rfl ?_
        exact z_iret F hr dX5_openTransfer_34 rfl (Nat.le_of_ble_eq_true rfl) (Nat.le_of_ble_eq_true rfl) (⟨by rw [hs]; try rfl, x, d, by rw [hs]; try rfl, by rw [hs]; exact C, rfl, rfl, rfl⟩)
    · have hn : ¬ sN S 38 - 1 = 2 := fun e => c16 (by rw [e]; rfl)
      have hs : sv52 S = (19, S) := by unfold sv52; rw [if_neg (not_not_intro hs1), if_pos hn]
      refine z_bipush (v := 19) F dX5_openTransfer_19 rfl ?_
      exact z_iret F hr dX5_openTransfer_21 rfl (Nat.le_of_ble_eq_true rfl) (Nat.le_of_ble_eq_true rfl) (⟨by rw [hs]; try rfl, x, d, by rw [hs]; try rfl, by rw [hs]; exact C, rfl, rfl, rfl⟩)
  · have hs1 : ¬ sN S 1 = 3 := fun e => c5 (by rw [e]; rfl)
    have hs : sv52 S = (127, S) := if_pos hs1
    refine z_bipush (v := 127) F dX5_openTransfer_8 rfl ?_
    exact z_iret F hr dX5_openTransfer_10 rfl (Nat.le_of_ble_eq_true rfl) (Nat.le_of_ble_eq_true rfl) (⟨by rw [hs]; try rfl, x, d, by rw [hs]; try rfl, by rw [hs]; exact C, rfl, rfl, rfl⟩)

theorem nxt_eq {b : Bool} {n l : Nat} (v3 : b = true ↔ 0 < n) (v4 : b = true → n % 256 = l) : (if b then (l + 1) % 256 else 1) = (n + 1) % 256 := by
  cases b with
  | true =>
    rw [← v4 rfl]
    show (n % 256 + 1) % 256 = _
    omega
  | false =>
    have h : ¬ 0 < n := fun q => absurd (v3.mpr q) (by decide)
    show 1 = _
    omega
theorem sayS_mod (S : z_S) (b : Nat) : sayS S (b % 256) = sayS S b := by
  unfold sayS
  rw [Nat.mod_mod]
theorem sumN_eq {s : Nat} {g h : Nat → Nat} : ∀ {n : Nat}, (∀ i, i < n → g i = h i) → sumN s g n = sumN s h n
  | 0, _ => rfl
  | n + 1, H => by
    unfold sumN
    rw [sumN_eq (fun i hi => H i (by omega)), H n (by omega)]

set_option maxRecDepth 100000 in
set_option maxHeartbeats 1000000 in
theorem c_X5_closeTransfer {S : z_S} {x : z_Xc} {m : Nat → z_E} {d : z_H} {w : Bool} (C : CR S x d) (Q : QV w S x) (R : rowOK S) (W : idsOK S) (V : numsOK S) (U : trOK S) (Y : rtsOK S) (h0 : 0 < sN S 38) (hA : sN S 40 = 0) (hV : sAN S 39 0 = 55) : z_K yX5_closeTransfer cX5_closeTransfer 3 (some .int) 3 0 0 [.ref 1, .ref (qa w)] (HP (cfun S x) m d) (fun v h' => v = some (.int (nI (sv55 S).1)) ∧ ∃ (x' : z_Xc) (d' : z_H), h' = HP (cfun (sv55 S).2 x') m d' ∧ CR (sv55 S).2 x' d' ∧ KX x x') := by
  have hM := Q.2.1
  obtain ⟨u1, u2, u3, u4⟩ := id U
  obtain ⟨t1, t2, t3, t4, t5⟩ := id C.2.2.2.2.2.2
  refine z_met vI_X5_closeTransfer (Nat.le_of_ble_eq_true rfl) (fun G X F hr hnm => ?_)
  refine z_aload_n F dX5_closeTransfer_0 rfl rfl ?_
  refine z_getf F vF_X5_35 dX5_closeTransfer_1 cO_at rfl ?_
  refine z_iconst (v := 3) F dX5_closeTransfer_4 rfl ?_
  refine z_icmp_eq (tgt := 11) F dX5_closeTransfer_5 (by decide) (fun c5 => ?_) (fun c5 => ?_)
  · have hs1 : sN S 1 = 3 := (nI_eq (a := sN S 1) (b := 3) (by have := V.1; omega) (by decide)).mp c5
    refine z_aload_n F dX5_closeTransfer_11 rfl rfl ?_
    refine z_callV F z_nwOK wL_good (c_qsize Q) cQ.1 rfl vI_X2_size vM_X5_236 vV_X2_size vL_X2_size rfl dX5_closeTransfer_12 rfl rfl (Nat.le_of_ble_eq_true rfl) ⟨(Nat.le_of_ble_eq_true rfl), (Nat.le_of_ble_eq_true rfl), (Nat.le_of_ble_eq_true rfl), (Nat.le_of_ble_eq_true rfl)⟩ (fun v h1 hq => ?_)
    obtain ⟨rfl, rfl⟩ := hq
    refine z_if_eq (tgt := 21) F dX5_closeTransfer_15 (by decide) (fun c15 => ?_) (fun c15 => ?_)
    · have hn : sN S 38 - 1 = 0 := (nI_eq (b := 0) (by omega) (by decide)).mp c15
      refine z_aload_n F dX5_closeTransfer_21 rfl rfl ?_
      refine z_getf F vF_X5_74 dX5_closeTransfer_22 cO_at rfl ?_
      refine z_getf F vF_X5_305 dX5_closeTransfer_25 cTr rfl ?_
      refine z_if_eq (tgt := 41) F dX5_closeTransfer_28 (by decide) (fun c28 => ?_) (fun c28 => ?_)
      · have hs : sv55 S = (36, S) := by unfold sv55; rw [if_neg (not_not_intro hs1), if_neg (not_not_intro hn), if_pos (Or.inl (z_b0.mp c28))]
        refine z_bipush (v := 36) F dX5_closeTransfer_41 rfl ?_
        exact z_iret F hr dX5_closeTransfer_43 rfl (Nat.le_of_ble_eq_true rfl) (Nat.le_of_ble_eq_true rfl) (⟨by rw [hs]; try rfl, x, d, by rw [hs]; try rfl, by rw [hs]; exact C, rfl, rfl, rfl⟩)
      · have ho := z_b1 c28
        obtain ⟨v1, v2, v3, v4, v5⟩ := t1 ho
        refine z_aload_n F dX5_closeTransfer_31 rfl rfl ?_
        refine z_getf F vF_X5_74 dX5_closeTransfer_32 cO_at rfl ?_
        refine z_getf F vF_X5_148 dX5_closeTransfer_35 cTr rfl ?_
        refine z_if_le (tgt := 44) F dX5_closeTransfer_38 (by decide) (fun c38 => ?_) (fun c38 => ?_)
        · have ht : ¬ (sB S 26 = false ∨ sN S 28 < sN S 27) := fun e => e.elim (fun q => absurd q (by rw [ho]; decide)) (fun q => by have := (nI_leI (a := (xt x).1) (b := 0) (by omega) (by decide)).mp c38; omega)
          have hs : sv55 S = (0, sayS (sayS (sayS (uB S 26 false) 119) (sN S 29 / 256)) (sN S 29 % 256)) := by unfold sv55; rw [if_neg (not_not_intro hs1), if_neg (not_not_intro hn), if_neg ht, sayS_mod]
          have TI : TR (uB S 26 false) (wt x (0, (xt x).2.1, (xt x).2.2)) := ⟨fun h => absurd (show false = true from h) (by decide), fun _ => rfl, Nat.zero_le _, t4, t5⟩
          have CI : CR (uB S 26 false) (wt x (0, (xt x).2.1, (xt x).2.2)) d := ⟨C.1, C.2.1, C.2.2.1, C.2.2.2.1, C.2.2.2.2.1, C.2.2.2.2.2.1, TI⟩
          refine z_aload_n F dX5_closeTransfer_44 rfl rfl ?_
          refine z_getf F vF_X5_74 dX5_closeTransfer_45 cO_at rfl ?_
          refine z_getf F vF_X5_321 dX5_closeTransfer_48 cTr rfl ?_
          rw [show nI (xt x).2.1 = nI (sN S 29 / 256 * 256 + sN S 29 % 256) from congrArg nI (v2.trans (by omega))]
          refine z_istore_n F dX5_closeTransfer_51 (Nat.le_of_ble_eq_true rfl) ?_
          refine z_aload_n F dX5_closeTransfer_52 rfl rfl ?_
          refine z_getf F vF_X5_74 dX5_closeTransfer_53 cO_at rfl ?_
          refine z_callV F z_nwOK wL_good (c_X4_close cTr) cTr rfl vI_X4_close vM_X5_174 vV_X4_close vL_X4_close rfl dX5_closeTransfer_56 rfl rfl (Nat.le_of_ble_eq_true rfl) ⟨(Nat.le_of_ble_eq_true rfl), (Nat.le_of_ble_eq_true rfl), (Nat.le_of_ble_eq_true rfl), (Nat.le_of_ble_eq_true rfl)⟩ (fun v h1 hq => ?_)
          obtain ⟨rfl, rfl⟩ := hq
          refine z_heap (HP (cfun (uB S 26 false) (wt x (0, (xt x).2.1, (xt x).2.2))) m d) rfl ?_
          refine z_aload_n F dX5_closeTransfer_59 rfl rfl ?_
          refine z_aload_n F dX5_closeTransfer_60 rfl rfl ?_
          refine z_callV F z_nwOK wL_good (c_bR (b := 119) (QV_to (S' := uB S 26 false) (x' := (wt x (0, (xt x).2.1, (xt x).2.2))) Q (by cases w <;> rfl) rfl rfl rfl) h0 (show sN S 40 + 0 < 41 by omega) (show sAN S 39 0 + 64 = 119 by omega)) cO_at rfl vI_X5_beginReply vM_X5_242 vV_X5_beginReply vL_X5_beginReply rfl dX5_closeTransfer_61 rfl rfl (Nat.le_of_ble_eq_true rfl) ⟨(Nat.le_of_ble_eq_true rfl), (Nat.le_of_ble_eq_true rfl), (Nat.le_of_ble_eq_true rfl), (Nat.le_of_ble_eq_true rfl)⟩ (fun v h1 hq => ?_)
          obtain ⟨rfl, rfl⟩ := hq
          refine z_aload_n F dX5_closeTransfer_64 rfl rfl ?_
          refine z_getf F vF_X5_67 dX5_closeTransfer_65 cO_at rfl ?_
          refine z_iload_n F dX5_closeTransfer_68 rfl ?_
          refine z_callV F z_nwOK wL_good (c_putW (a := sN S 29 / 256) (b := sN S 29 % 256) (by omega) (by omega) (show sN S 40 + 1 + 1 < 41 by omega)) cAn.1 rfl vI_X0_putWord vM_X5_265 vV_X0_putWord vL_X0_putWord rfl dX5_closeTransfer_69 rfl rfl (Nat.le_of_ble_eq_true rfl) ⟨(Nat.le_of_ble_eq_true rfl), (Nat.le_of_ble_eq_true rfl), (Nat.le_of_ble_eq_true rfl), (Nat.le_of_ble_eq_true rfl)⟩ (fun v h1 hq => ?_)
          obtain ⟨rfl, rfl⟩ := hq
          refine z_iconst (v := 0) F dX5_closeTransfer_72 rfl ?_
          exact z_iret F hr dX5_closeTransfer_73 rfl (Nat.le_of_ble_eq_true rfl) (Nat.le_of_ble_eq_true rfl) (⟨by rw [hs]; try rfl, (sx (sayS (sayS (uB S 26 false) (119)) (sN S 29 / 256)) (sx (sayS (uB S 26 false) (119)) (sx (uB S 26 false) (wt x (0, (xt x).2.1, (xt x).2.2)) (119)) (sN S 29 / 256)) (sN S 29 % 256)), d, by rw [hs]; try rfl, by rw [hs]; exact (CR_say (CR_say (CR_say CI (show sN S 40 + 0 < 41 by omega) (119)) (show sN S 40 + 1 < 41 by omega) (sN S 29 / 256)) (show sN S 40 + 2 < 41 by omega) (sN S 29 % 256)), rfl, rfl, rfl⟩)
        · have hs : sv55 S = (36, S) := by unfold sv55; rw [if_neg (not_not_intro hs1), if_neg (not_not_intro hn), if_pos (Or.inr (by have := mt (nI_leI (a := (xt x).1) (b := 0) (by omega) (by decide)).mpr c38; omega))]
          refine z_bipush (v := 36) F dX5_closeTransfer_41 rfl ?_
          exact z_iret F hr dX5_closeTransfer_43 rfl (Nat.le_of_ble_eq_true rfl) (Nat.le_of_ble_eq_true rfl) (⟨by rw [hs]; try rfl, x, d, by rw [hs]; try rfl, by rw [hs]; exact C, rfl, rfl, rfl⟩)
    · have hn : ¬ sN S 38 - 1 = 0 := fun e => c15 (by rw [e]; rfl)
      have hs : sv55 S = (19, S) := by unfold sv55; rw [if_neg (not_not_intro hs1), if_pos hn]
      refine z_bipush (v := 19) F dX5_closeTransfer_18 rfl ?_
      exact z_iret F hr dX5_closeTransfer_20 rfl (Nat.le_of_ble_eq_true rfl) (Nat.le_of_ble_eq_true rfl) (⟨by rw [hs]; try rfl, x, d, by rw [hs]; try rfl, by rw [hs]; exact C, rfl, rfl, rfl⟩)
  · have hs1 : ¬ sN S 1 = 3 := fun e => c5 (by rw [e]; rfl)
    have hs : sv55 S = (127, S) := if_pos hs1
    refine z_bipush (v := 127) F dX5_closeTransfer_8 rfl ?_
    exact z_iret F hr dX5_closeTransfer_10 rfl (Nat.le_of_ble_eq_true rfl) (Nat.le_of_ble_eq_true rfl) (⟨by rw [hs]; try rfl, x, d, by rw [hs]; try rfl, by rw [hs]; exact C, rfl, rfl, rfl⟩)

set_option maxRecDepth 100000 in
set_option maxHeartbeats 1000000 in
theorem c_X5_takeBlock {S : z_S} {x : z_Xc} {m : Nat → z_E} {d : z_H} {w : Bool} (C : CR S x d) (Q : QV w S x) (R : rowOK S) (W : idsOK S) (V : numsOK S) (U : trOK S) (Y : rtsOK S) (h0 : 0 < sN S 38) (hA : sN S 40 = 0) (hV : sAN S 39 0 = 54) : z_K yX5_takeBlock cX5_takeBlock 4 (some .int) 3 0 0 [.ref 1, .ref (qa w)] (HP (cfun S x) m d) (fun v h' => v = some (.int (nI (sv54 S).1)) ∧ ∃ (x' : z_Xc) (d' : z_H), h' = HP (cfun (sv54 S).2 x') m d' ∧ CR (sv54 S).2 x' d' ∧ KX x x') := by
  have hM := Q.2.1
  obtain ⟨u1, u2, u3, u4⟩ := id U
  obtain ⟨t1, t2, t3, t4, t5⟩ := id C.2.2.2.2.2.2
  refine z_met vI_X5_takeBlock (Nat.le_of_ble_eq_true rfl) (fun G X F hr hnm => ?_)
  refine z_aload_n F dX5_takeBlock_0 rfl rfl ?_
  refine z_getf F vF_X5_35 dX5_takeBlock_1 cO_at rfl ?_
  refine z_iconst (v := 3) F dX5_takeBlock_4 rfl ?_
  refine z_icmp_eq (tgt := 11) F dX5_takeBlock_5 (by decide) (fun c5 => ?_) (fun c5 => ?_)
  · have hs1 : sN S 1 = 3 := (nI_eq (a := sN S 1) (b := 3) (by have := V.1; omega) (by decide)).mp c5
    refine z_aload_n F dX5_takeBlock_11 rfl rfl ?_
    refine z_callV F z_nwOK wL_good (c_qsize Q) cQ.1 rfl vI_X2_size vM_X5_236 vV_X2_size vL_X2_size rfl dX5_takeBlock_12 rfl rfl (Nat.le_of_ble_eq_true rfl) ⟨(Nat.le_of_ble_eq_true rfl), (Nat.le_of_ble_eq_true rfl), (Nat.le_of_ble_eq_true rfl), (Nat.le_of_ble_eq_true rfl)⟩ (fun v h1 hq => ?_)
    obtain ⟨rfl, rfl⟩ := hq
    refine z_iconst (v := 1) F dX5_takeBlock_15 rfl ?_
    refine z_isub F dX5_takeBlock_16 ?_
    refine z_istore_n F dX5_takeBlock_17 (Nat.le_of_ble_eq_true rfl) ?_
    refine z_iload_n F dX5_takeBlock_18 rfl ?_
    refine z_iconst (v := 1) F dX5_takeBlock_19 rfl ?_
    refine z_bipush (v := 8) F dX5_takeBlock_20 rfl ?_
    refine z_callS F z_nwOK wL_good (c_within (A := 1) (B := 8) (nI (sN S 38 - 1) - 1) 1 8 rfl rfl) vI_X5_isWithin vM_X5_79 vS_X5_isWithin rfl dX5_takeBlock_22 rfl rfl (Nat.le_of_ble_eq_true rfl) ⟨(Nat.le_of_ble_eq_true rfl), (Nat.le_of_ble_eq_true rfl), (Nat.le_of_ble_eq_true rfl), (Nat.le_of_ble_eq_true rfl)⟩ (fun v h1 hq => ?_)
    obtain ⟨rfl, rfl⟩ := hq
    refine z_if_ne (tgt := 31) F dX5_takeBlock_25 (by decide) (fun c25 => ?_) (fun c25 => ?_)
    · have hn : ¬ (sN S 38 - 1 < 2 ∨ 9 < sN S 38 - 1) := by have h9 := z_b1 c25; rw [show (nI (sN S 38 - 1) - 1).toInt = ((sN S 38 - 1 : Nat) : Int) - (1 : Nat) from pk_sub_toInt (b := 1) (by omega) (by decide)] at h9; unfold inZ at h9; simp at h9; omega
      rw [show nI (sN S 38 - 1) - 1 = nI (sN S 38 - 1 - 1) from pk_sub (b := 1) (by omega)]
      refine z_aload_n F dX5_takeBlock_31 rfl rfl ?_
      refine z_getf F vF_X5_74 dX5_takeBlock_32 cO_at rfl ?_
      refine z_getf F vF_X5_305 dX5_takeBlock_35 cTr rfl ?_
      refine z_if_ne (tgt := 44) F dX5_takeBlock_38 (by decide) (fun c38 => ?_) (fun c38 => ?_)
      · have ho := z_b1 c38
        have ho2 : ¬ sB S 26 = false := by rw [ho]; decide
        obtain ⟨v1, v2, v3, v4, v5⟩ := t1 ho
        have hr1 := R 1
        refine z_aload_n F dX5_takeBlock_44 rfl rfl ?_
        refine z_iconst (v := 0) F dX5_takeBlock_45 rfl ?_
        refine z_callV F z_nwOK wL_good (c_qoct (p := 0) Q (show 0 + 1 < sN S 38 by omega)) cQ.1 rfl vI_X2_octetAt vM_X5_273 vV_X2_octetAt vL_X2_octetAt rfl dX5_takeBlock_46 rfl rfl (Nat.le_of_ble_eq_true rfl) ⟨(Nat.le_of_ble_eq_true rfl), (Nat.le_of_ble_eq_true rfl), (Nat.le_of_ble_eq_true rfl), (Nat.le_of_ble_eq_true rfl)⟩ (fun v h1 hq => ?_)
        obtain ⟨rfl, rfl⟩ := hq
        rw [show sAN S 39 (0 + 1) = sAN S 39 1 from rfl]
        refine z_istore_n F dX5_takeBlock_49 (Nat.le_of_ble_eq_true rfl) ?_
        refine z_aload_n F dX5_takeBlock_50 rfl rfl ?_
        refine z_getf F vF_X5_74 dX5_takeBlock_51 cO_at rfl ?_
        refine z_iload_n F dX5_takeBlock_54 rfl ?_
        refine z_callV F z_nwOK wL_good (c_X4_isBlockBefore cTr (nI (sAN S 39 1)) (by omega)) cTr rfl vI_X4_isBlockBefore vM_X5_311 vV_X4_isBlockBefore vL_X4_isBlockBefore rfl dX5_takeBlock_55 rfl rfl (Nat.le_of_ble_eq_true rfl) ⟨(Nat.le_of_ble_eq_true rfl), (Nat.le_of_ble_eq_true rfl), (Nat.le_of_ble_eq_true rfl), (Nat.le_of_ble_eq_true rfl)⟩ (fun v h1 hq => ?_)
        obtain ⟨rfl, rfl⟩ := hq
        refine z_if_ne (tgt := 98) F dX5_takeBlock_58 (by decide) (fun c58 => ?_) (fun c58 => ?_)
        · have hb := z_b1 c58
          rw [Bool.and_eq_true, decide_eq_true_iff, decide_eq_true_iff] at hb
          have h31 : sB S 31 = true := v3.mpr hb.1
          have hcn : sAN S 39 1 = sN S 30 := ((nI_eq (a := sAN S 39 1) (b := (xt x).2.2 % 256) (by omega) (by omega)).mp hb.2).trans (v4 h31)
          have hs : sv54 S = (0, sayS (sayS S 118) (sAN S 39 1)) := by unfold sv54; rw [if_neg (not_not_intro hs1), if_neg hn, if_neg ho2, if_pos ⟨h31, hcn⟩]
          refine z_aload_n F dX5_takeBlock_98 rfl rfl ?_
          refine z_aload_n F dX5_takeBlock_99 rfl rfl ?_
          refine z_callV F z_nwOK wL_good (c_bR (b := 118) (QV_to (S' := S) (x' := x) Q (by cases w <;> rfl) rfl rfl rfl) h0 (show sN S 40 + 0 < 41 by omega) (show sAN S 39 0 + 64 = 118 by omega)) cO_at rfl vI_X5_beginReply vM_X5_242 vV_X5_beginReply vL_X5_beginReply rfl dX5_takeBlock_100 rfl rfl (Nat.le_of_ble_eq_true rfl) ⟨(Nat.le_of_ble_eq_true rfl), (Nat.le_of_ble_eq_true rfl), (Nat.le_of_ble_eq_true rfl), (Nat.le_of_ble_eq_true rfl)⟩ (fun v h1 hq => ?_)
          obtain ⟨rfl, rfl⟩ := hq
          refine z_aload_n F dX5_takeBlock_103 rfl rfl ?_
          refine z_getf F vF_X5_67 dX5_takeBlock_104 cO_at rfl ?_
          refine z_iload_n F dX5_takeBlock_107 rfl ?_
          refine z_callV F z_nwOK wL_good (c_put (b := sAN S 39 1) (show sN S 40 + 1 < 41 by omega)) cAn.1 rfl vI_X0_put vM_X5_190 vV_X0_put vL_X0_put rfl dX5_takeBlock_108 rfl rfl (Nat.le_of_ble_eq_true rfl) ⟨(Nat.le_of_ble_eq_true rfl), (Nat.le_of_ble_eq_true rfl), (Nat.le_of_ble_eq_true rfl), (Nat.le_of_ble_eq_true rfl)⟩ (fun v h1 hq => ?_)
          obtain ⟨rfl, rfl⟩ := hq
          refine z_iconst (v := 0) F dX5_takeBlock_111 rfl ?_
          exact z_iret F hr dX5_takeBlock_112 rfl (Nat.le_of_ble_eq_true rfl) (Nat.le_of_ble_eq_true rfl) (⟨by rw [hs]; try rfl, (sx (sayS (S) (118)) (sx (S) x (118)) (sAN S 39 1)), d, by rw [hs]; try rfl, by rw [hs]; exact (CR_say (CR_say C (show sN S 40 + 0 < 41 by omega) (118)) (show sN S 40 + 1 < 41 by omega) (sAN S 39 1)), rfl, rfl, rfl⟩)
        · have hb := z_b0.mp c58
          rw [Bool.and_eq_false_iff, decide_eq_false_iff_not, decide_eq_false_iff_not] at hb
          have hnb : ¬ (sB S 31 = true ∧ sAN S 39 1 = sN S 30) := fun e => hb.elim (fun q => q (v3.mp e.1)) (fun q => q ((nI_eq (a := sAN S 39 1) (b := (xt x).2.2 % 256) (by omega) (by omega)).mpr (e.2.trans (v4 e.1).symm)))
          have hnx : (if sB S 31 then (sN S 30 + 1) % 256 else 1) = ((xt x).2.2 + 1) % 256 := nxt_eq v3 v4
          refine z_iload_n F dX5_takeBlock_61 rfl ?_
          refine z_aload_n F dX5_takeBlock_62 rfl rfl ?_
          refine z_getf F vF_X5_74 dX5_takeBlock_63 cO_at rfl ?_
          refine z_callV F z_nwOK wL_good (c_X4_nextBlock cTr (by omega)) cTr rfl vI_X4_nextBlock vM_X5_314 vV_X4_nextBlock vL_X4_nextBlock rfl dX5_takeBlock_66 rfl rfl (Nat.le_of_ble_eq_true rfl) ⟨(Nat.le_of_ble_eq_true rfl), (Nat.le_of_ble_eq_true rfl), (Nat.le_of_ble_eq_true rfl), (Nat.le_of_ble_eq_true rfl)⟩ (fun v h1 hq => ?_)
          obtain ⟨rfl, rfl⟩ := hq
          refine z_icmp_eq (tgt := 75) F dX5_takeBlock_69 (by decide) (fun c69 => ?_) (fun c69 => ?_)
          · have hcx : sAN S 39 1 = ((xt x).2.2 + 1) % 256 := (nI_eq (a := sAN S 39 1) (b := ((xt x).2.2 + 1) % 256) (by omega) (by omega)).mp c69
            have hc1 : sAN S 39 1 = (if sB S 31 then (sN S 30 + 1) % 256 else 1) := hcx.trans hnx.symm
            refine z_iload_n F dX5_takeBlock_75 rfl ?_
            refine z_aload_n F dX5_takeBlock_76 rfl rfl ?_
            refine z_getf F vF_X5_74 dX5_takeBlock_77 cO_at rfl ?_
            refine z_getf F vF_X5_148 dX5_takeBlock_80 cTr rfl ?_
            refine z_icmp_le (tgt := 89) F dX5_takeBlock_83 (by decide) (fun c83 => ?_) (fun c83 => ?_)
            · have hm1 := (nI_leI (a := (sN S 38 - 1 - 1)) (b := (xt x).1) (by omega) (by omega)).mp c83
              have hm : ¬ sN S 27 - sN S 28 < (sN S 38 - 1 - 1) := by omega
              have hs : sv54 S = (0, sayS (sayS (uB (uN (uN (uN S 29 (sumS S (sN S 38 - 2))) 28 (sN S 28 + (sN S 38 - 1 - 1))) 30 (sAN S 39 1)) 31 true) 118) (sAN S 39 1)) := by unfold sv54; rw [if_neg (not_not_intro hs1), if_neg hn, if_neg ho2, if_neg hnb, if_neg (not_not_intro hc1), if_neg hm]
              have hq1 := cQ (S := S) (x := x) (m := m) (d := d) (w := w)
              rw [Q.1] at hq1
              have hsm : sumN (xt x).2.1 (fun i => Qn (qb w S x).2.2.2.2 (sN S 38) (i + 2)) (sN S 38 - 1 - 1) = sumS S (sN S 38 - 2) := by unfold sumS; rw [v2, show sN S 38 - 2 = (sN S 38 - 1 - 1) by omega]; exact sumN_eq (fun i hi => Q.2.2.1 (i + 2) (by omega))
              have hlt : sumS S (sN S 38 - 2) < 65536 := sumN_lt u3 _ _
              have TI : TR (uB (uN (uN (uN S 29 (sumS S (sN S 38 - 2))) 28 (sN S 28 + (sN S 38 - 1 - 1))) 30 (sAN S 39 1)) 31 true) (wt x ((xt x).1 - (sN S 38 - 1 - 1), sumS S (sN S 38 - 2), (xt x).2.2 + 1)) := ⟨fun _ => ⟨show (xt x).1 - (sN S 38 - 1 - 1) + (sN S 28 + (sN S 38 - 1 - 1)) = sN S 27 by omega, rfl, ⟨fun _ => Nat.succ_pos _, fun _ => rfl⟩, fun _ => hcx.symm, show (xt x).2.2 + 1 ≤ sN S 28 + (sN S 38 - 1 - 1) by omega⟩, fun h => absurd (show sB S 26 = false from h) ho2, show (xt x).1 - (sN S 38 - 1 - 1) ≤ 200 by omega, hlt, show (xt x).2.2 + 1 ≤ 200 by omega⟩
              have CI : CR (uB (uN (uN (uN S 29 (sumS S (sN S 38 - 2))) 28 (sN S 28 + (sN S 38 - 1 - 1))) 30 (sAN S 39 1)) 31 true) (wt x ((xt x).1 - (sN S 38 - 1 - 1), sumS S (sN S 38 - 2), (xt x).2.2 + 1)) d := ⟨C.1, C.2.1, C.2.2.1, C.2.2.2.1, C.2.2.2.2.1, C.2.2.2.2.2.1, TI⟩
              refine z_aload_n F dX5_takeBlock_89 rfl rfl ?_
              refine z_getf F vF_X5_74 dX5_takeBlock_90 cO_at rfl ?_
              refine z_aload_n F dX5_takeBlock_93 rfl rfl ?_
              refine z_iload_n F dX5_takeBlock_94 rfl ?_
              refine z_callV F z_nwOK wL_good (c_X4_add (k := (sN S 38 - 1 - 1)) cTr hq1 (by cases w <;> decide) (by cases w <;> decide) hM (by omega) (by omega) hm1 (by omega) (by omega)) cTr rfl vI_X4_add vM_X5_317 vV_X4_add vL_X4_add rfl dX5_takeBlock_95 rfl rfl (Nat.le_of_ble_eq_true rfl) ⟨(Nat.le_of_ble_eq_true rfl), (Nat.le_of_ble_eq_true rfl), (Nat.le_of_ble_eq_true rfl), (Nat.le_of_ble_eq_true rfl)⟩ (fun v h1 hq => ?_)
              obtain ⟨rfl, rfl⟩ := hq
              refine z_heap (HP (cfun (uB (uN (uN (uN S 29 (sumS S (sN S 38 - 2))) 28 (sN S 28 + (sN S 38 - 1 - 1))) 30 (sAN S 39 1)) 31 true) (wt x ((xt x).1 - (sN S 38 - 1 - 1), sumS S (sN S 38 - 2), (xt x).2.2 + 1))) m d) (by rw [hsm]; rfl) ?_
              refine z_aload_n F dX5_takeBlock_98 rfl rfl ?_
              refine z_aload_n F dX5_takeBlock_99 rfl rfl ?_
              refine z_callV F z_nwOK wL_good (c_bR (b := 118) (QV_to (S' := uB (uN (uN (uN S 29 (sumS S (sN S 38 - 2))) 28 (sN S 28 + (sN S 38 - 1 - 1))) 30 (sAN S 39 1)) 31 true) (x' := (wt x ((xt x).1 - (sN S 38 - 1 - 1), sumS S (sN S 38 - 2), (xt x).2.2 + 1))) Q (by cases w <;> rfl) rfl rfl rfl) h0 (show sN S 40 + 0 < 41 by omega) (show sAN S 39 0 + 64 = 118 by omega)) cO_at rfl vI_X5_beginReply vM_X5_242 vV_X5_beginReply vL_X5_beginReply rfl dX5_takeBlock_100 rfl rfl (Nat.le_of_ble_eq_true rfl) ⟨(Nat.le_of_ble_eq_true rfl), (Nat.le_of_ble_eq_true rfl), (Nat.le_of_ble_eq_true rfl), (Nat.le_of_ble_eq_true rfl)⟩ (fun v h1 hq => ?_)
              obtain ⟨rfl, rfl⟩ := hq
              refine z_aload_n F dX5_takeBlock_103 rfl rfl ?_
              refine z_getf F vF_X5_67 dX5_takeBlock_104 cO_at rfl ?_
              refine z_iload_n F dX5_takeBlock_107 rfl ?_
              refine z_callV F z_nwOK wL_good (c_put (b := sAN S 39 1) (show sN S 40 + 1 < 41 by omega)) cAn.1 rfl vI_X0_put vM_X5_190 vV_X0_put vL_X0_put rfl dX5_takeBlock_108 rfl rfl (Nat.le_of_ble_eq_true rfl) ⟨(Nat.le_of_ble_eq_true rfl), (Nat.le_of_ble_eq_true rfl), (Nat.le_of_ble_eq_true rfl), (Nat.le_of_ble_eq_true rfl)⟩ (fun v h1 hq => ?_)
              obtain ⟨rfl, rfl⟩ := hq
              refine z_iconst (v := 0) F dX5_takeBlock_111 rfl ?_
              exact z_iret F hr dX5_takeBlock_112 rfl (Nat.le_of_ble_eq_true rfl) (Nat.le_of_ble_eq_true rfl) (⟨by rw [hs]; try rfl, (sx (sayS (uB (uN (uN (uN S 29 (sumS S (sN S 38 - 2))) 28 (sN S 28 + (sN S 38 - 1 - 1))) 30 (sAN S 39 1)) 31 true) (118)) (sx (uB (uN (uN (uN S 29 (sumS S (sN S 38 - 2))) 28 (sN S 28 + (sN S 38 - 1 - 1))) 30 (sAN S 39 1)) 31 true) (wt x ((xt x).1 - (sN S 38 - 1 - 1), sumS S (sN S 38 - 2), (xt x).2.2 + 1)) (118)) (sAN S 39 1)), d, by rw [hs]; try rfl, by rw [hs]; exact (CR_say (CR_say CI (show sN S 40 + 0 < 41 by omega) (118)) (show sN S 40 + 1 < 41 by omega) (sAN S 39 1)), rfl, rfl, rfl⟩)
            · have hm : sN S 27 - sN S 28 < (sN S 38 - 1 - 1) := by have := mt (nI_leI (a := (sN S 38 - 1 - 1)) (b := (xt x).1) (by omega) (by omega)).mpr c83; omega
              have hs : sv54 S = (113, S) := by unfold sv54; rw [if_neg (not_not_intro hs1), if_neg hn, if_neg ho2, if_neg hnb, if_neg (not_not_intro hc1), if_pos hm]
              refine z_bipush (v := 113) F dX5_takeBlock_86 rfl ?_
              exact z_iret F hr dX5_takeBlock_88 rfl (Nat.le_of_ble_eq_true rfl) (Nat.le_of_ble_eq_true rfl) (⟨by rw [hs]; try rfl, x, d, by rw [hs]; try rfl, by rw [hs]; exact C, rfl, rfl, rfl⟩)
          · have hc1 : ¬ sAN S 39 1 = (if sB S 31 then (sN S 30 + 1) % 256 else 1) := fun e => c69 (by rw [e, hnx])
            have hs : sv54 S = (115, S) := by unfold sv54; rw [if_neg (not_not_intro hs1), if_neg hn, if_neg ho2, if_neg hnb, if_pos hc1]
            refine z_bipush (v := 115) F dX5_takeBlock_72 rfl ?_
            exact z_iret F hr dX5_takeBlock_74 rfl (Nat.le_of_ble_eq_true rfl) (Nat.le_of_ble_eq_true rfl) (⟨by rw [hs]; try rfl, x, d, by rw [hs]; try rfl, by rw [hs]; exact C, rfl, rfl, rfl⟩)
      · have hs : sv54 S = (36, S) := by unfold sv54; rw [if_neg (not_not_intro hs1), if_neg hn, if_pos (z_b0.mp c38)]
        refine z_bipush (v := 36) F dX5_takeBlock_41 rfl ?_
        exact z_iret F hr dX5_takeBlock_43 rfl (Nat.le_of_ble_eq_true rfl) (Nat.le_of_ble_eq_true rfl) (⟨by rw [hs]; try rfl, x, d, by rw [hs]; try rfl, by rw [hs]; exact C, rfl, rfl, rfl⟩)
    · have hn : sN S 38 - 1 < 2 ∨ 9 < sN S 38 - 1 := by have h9 := z_b0.mp c25; rw [show (nI (sN S 38 - 1) - 1).toInt = ((sN S 38 - 1 : Nat) : Int) - (1 : Nat) from pk_sub_toInt (b := 1) (by omega) (by decide)] at h9; unfold inZ at h9; simp at h9; omega
      have hs : sv54 S = (19, S) := by unfold sv54; rw [if_neg (not_not_intro hs1), if_pos hn]
      refine z_bipush (v := 19) F dX5_takeBlock_28 rfl ?_
      exact z_iret F hr dX5_takeBlock_30 rfl (Nat.le_of_ble_eq_true rfl) (Nat.le_of_ble_eq_true rfl) (⟨by rw [hs]; try rfl, x, d, by rw [hs]; try rfl, by rw [hs]; exact C, rfl, rfl, rfl⟩)
  · have hs1 : ¬ sN S 1 = 3 := fun e => c5 (by rw [e]; rfl)
    have hs : sv54 S = (127, S) := if_pos hs1
    refine z_bipush (v := 127) F dX5_takeBlock_8 rfl ?_
    exact z_iret F hr dX5_takeBlock_10 rfl (Nat.le_of_ble_eq_true rfl) (Nat.le_of_ble_eq_true rfl) (⟨by rw [hs]; try rfl, x, d, by rw [hs]; try rfl, by rw [hs]; exact C, rfl, rfl, rfl⟩)

set_option maxRecDepth 100000 in
set_option maxHeartbeats 1000000 in
theorem c_X5_isKept {h : z_H} {c : Nat} (h128 : c < 128) : z_K yX5_isKeptFromAll cX5_isKeptFromAll 1 (some .boolean) 0 0 0 [.int (nI c)] h (fun v h' => v = some (.int (z_b (keptA c))) ∧ h' = h) := by
  refine z_met vI_X5_isKeptFromAll (Nat.le_of_ble_eq_true rfl) (fun G X F hr hnm => ?_)
  refine z_iload_n F dX5_isKeptFromAll_0 rfl ?_
  refine z_bipush (v := 17) F dX5_isKeptFromAll_1 rfl ?_
  refine z_icmp_eq (tgt := 24) F dX5_isKeptFromAll_3 (by decide) (fun c3 => ?_) (fun c3 => ?_)
  · have hz : keptA c = true := by unfold keptA; rw [show c = 17 from (nI_eq (a := c) (b := 17) (by omega) (by decide)).mp c3]; rfl
    refine z_iconst (v := 1) F dX5_isKeptFromAll_24 rfl ?_
    refine z_goto (tgt := 29) F dX5_isKeptFromAll_25 (by decide) ?_
    exact z_iret F hr dX5_isKeptFromAll_29 rfl (Nat.le_of_ble_eq_true rfl) (Nat.le_of_ble_eq_true rfl) (⟨by rw [hz]; rfl, rfl⟩)
  · have e3 : ¬ c = 17 := fun e => c3 (by rw [e]; rfl)
    refine z_iload_n F dX5_isKeptFromAll_6 rfl ?_
    refine z_bipush (v := 18) F dX5_isKeptFromAll_7 rfl ?_
    refine z_icmp_eq (tgt := 24) F dX5_isKeptFromAll_9 (by decide) (fun c9 => ?_) (fun c9 => ?_)
    · have hz : keptA c = true := by unfold keptA; rw [show c = 18 from (nI_eq (a := c) (b := 18) (by omega) (by decide)).mp c9]; rfl
      refine z_iconst (v := 1) F dX5_isKeptFromAll_24 rfl ?_
      refine z_goto (tgt := 29) F dX5_isKeptFromAll_25 (by decide) ?_
      exact z_iret F hr dX5_isKeptFromAll_29 rfl (Nat.le_of_ble_eq_true rfl) (Nat.le_of_ble_eq_true rfl) (⟨by rw [hz]; rfl, rfl⟩)
    · have e9 : ¬ c = 18 := fun e => c9 (by rw [e]; rfl)
      refine z_iload_n F dX5_isKeptFromAll_12 rfl ?_
      refine z_bipush (v := 49) F dX5_isKeptFromAll_13 rfl ?_
      refine z_icmp_eq (tgt := 24) F dX5_isKeptFromAll_15 (by decide) (fun c15 => ?_) (fun c15 => ?_)
      · have hz : keptA c = true := by unfold keptA; rw [show c = 49 from (nI_eq (a := c) (b := 49) (by omega) (by decide)).mp c15]; rfl
        refine z_iconst (v := 1) F dX5_isKeptFromAll_24 rfl ?_
        refine z_goto (tgt := 29) F dX5_isKeptFromAll_25 (by decide) ?_
        exact z_iret F hr dX5_isKeptFromAll_29 rfl (Nat.le_of_ble_eq_true rfl) (Nat.le_of_ble_eq_true rfl) (⟨by rw [hz]; rfl, rfl⟩)
      · have e15 : ¬ c = 49 := fun e => c15 (by rw [e]; rfl)
        refine z_iload_n F dX5_isKeptFromAll_18 rfl ?_
        refine z_bipush (v := 127) F dX5_isKeptFromAll_19 rfl ?_
        refine z_icmp_ne (tgt := 28) F dX5_isKeptFromAll_21 (by decide) (fun c21 => ?_) (fun c21 => ?_)
        · have hz : keptA c = false := by unfold keptA; rw [decide_eq_false e3, decide_eq_false e9, decide_eq_false e15, decide_eq_false (fun e => c21 (by rw [e]; rfl))]; rfl
          refine z_iconst (v := 0) F dX5_isKeptFromAll_28 rfl ?_
          exact z_iret F hr dX5_isKeptFromAll_29 rfl (Nat.le_of_ble_eq_true rfl) (Nat.le_of_ble_eq_true rfl) (⟨by rw [hz]; rfl, rfl⟩)
        · have hz : keptA c = true := by unfold keptA; rw [show c = 127 from (nI_eq (a := c) (b := 127) (by omega) (by decide)).mp c21]; rfl
          refine z_iconst (v := 1) F dX5_isKeptFromAll_24 rfl ?_
          refine z_goto (tgt := 29) F dX5_isKeptFromAll_25 (by decide) ?_
          exact z_iret F hr dX5_isKeptFromAll_29 rfl (Nat.le_of_ble_eq_true rfl) (Nat.le_of_ble_eq_true rfl) (⟨by rw [hz]; rfl, rfl⟩)

def srv (S : z_S) : Nat × z_S := if sN S 38 = 0 then (19, S) else svd S
set_option maxRecDepth 100000 in
set_option maxHeartbeats 1000000 in
theorem c_X5_serve {S : z_S} {x : z_Xc} {m : Nat → z_E} {d : z_H} {w : Bool} (C : CR S x d) (Q : QV w S x) (R : rowOK S) (W : idsOK S) (V : numsOK S) (U : trOK S) (Y : rtsOK S) (hA : sN S 40 = 0) (Z : rtU S) : z_K yX5_serve cX5_serve 2 (some .int) 5 0 0 [.ref 1, .ref (qa w)] (HP (cfun S x) m d) (fun v h' => v = some (.int (nI (srv S).1)) ∧ ∃ (x' : z_Xc) (d' : z_H), h' = HP (cfun (srv S).2 x') m d' ∧ CR (srv S).2 x' d' ∧ KX x x') := by
  refine z_met vI_X5_serve (Nat.le_of_ble_eq_true rfl) (fun G X F hr hnm => ?_)
  refine z_aload_n F dX5_serve_0 rfl rfl ?_
  refine z_callV F z_nwOK wL_good (c_qempty Q) cQ.1 rfl vI_X2_isEmpty vM_X5_203 vV_X2_isEmpty vL_X2_isEmpty rfl dX5_serve_1 rfl rfl (Nat.le_of_ble_eq_true rfl) ⟨(Nat.le_of_ble_eq_true rfl), (Nat.le_of_ble_eq_true rfl), (Nat.le_of_ble_eq_true rfl), (Nat.le_of_ble_eq_true rfl)⟩ (fun v h1 hq => ?_)
  obtain ⟨rfl, rfl⟩ := hq
  refine z_if_eq (tgt := 10) F dX5_serve_4 (by decide) (fun c4 => ?_) (fun c4 => ?_)
  · have hne : ¬ sN S 38 = 0 := of_decide_eq_false (z_b0.mp c4)
    have h0 : 0 < sN S 38 := by omega
    refine z_aload_n F dX5_serve_10 rfl rfl ?_
    refine z_callV F z_nwOK wL_good (c_qsvc Q h0) cQ.1 rfl vI_X2_service vM_X5_193 vV_X2_service vL_X2_service rfl dX5_serve_11 rfl rfl (Nat.le_of_ble_eq_true rfl) ⟨(Nat.le_of_ble_eq_true rfl), (Nat.le_of_ble_eq_true rfl), (Nat.le_of_ble_eq_true rfl), (Nat.le_of_ble_eq_true rfl)⟩ (fun v h1 hq => ?_)
    obtain ⟨rfl, rfl⟩ := hq
    have hr0 := R 0
    by_cases e16 : sAN S 39 0 = 16
    · have hs : srv S = sv16 S := by unfold srv svd; rw [if_neg hne, if_pos e16]
      refine z_lookup (off := 90) (tgt := 104) F dX5_serve_14 (by decide) (by rw [show sAN S 39 0 = 16 from e16]; decide) (by decide) ?_
      refine z_aload_n F dX5_serve_104 rfl rfl ?_
      refine z_aload_n F dX5_serve_105 rfl rfl ?_
      refine z_callV F z_nwOK wL_good (c_X5_changeSession C Q R W V U Y h0 hA e16) cO_at rfl vI_X5_changeSession vM_X5_206 vV_X5_changeSession vL_X5_changeSession rfl dX5_serve_106 rfl rfl (Nat.le_of_ble_eq_true rfl) ⟨(Nat.le_of_ble_eq_true rfl), (Nat.le_of_ble_eq_true rfl), (Nat.le_of_ble_eq_true rfl), (Nat.le_of_ble_eq_true rfl)⟩ (fun v h1 hq => ?_)
      obtain ⟨rfl, x1, d1, rfl, C1, K1⟩ := hq
      exact z_iret F hr dX5_serve_109 rfl (Nat.le_of_ble_eq_true rfl) (Nat.le_of_ble_eq_true rfl) (⟨by rw [hs], x1, d1, by rw [hs], by rw [hs]; exact C1, K1⟩)
    by_cases e17 : sAN S 39 0 = 17
    · have hs : srv S = sv17 S := by unfold srv svd; rw [if_neg hne, if_neg e16, if_pos e17]
      refine z_lookup (off := 96) (tgt := 110) F dX5_serve_14 (by decide) (by rw [show sAN S 39 0 = 17 from e17]; decide) (by decide) ?_
      refine z_aload_n F dX5_serve_110 rfl rfl ?_
      refine z_aload_n F dX5_serve_111 rfl rfl ?_
      refine z_callV F z_nwOK wL_good (c_X5_reset C Q R W V U Y h0 hA e17) cO_at rfl vI_X5_reset vM_X5_209 vV_X5_reset vL_X5_reset rfl dX5_serve_112 rfl rfl (Nat.le_of_ble_eq_true rfl) ⟨(Nat.le_of_ble_eq_true rfl), (Nat.le_of_ble_eq_true rfl), (Nat.le_of_ble_eq_true rfl), (Nat.le_of_ble_eq_true rfl)⟩ (fun v h1 hq => ?_)
      obtain ⟨rfl, x1, d1, rfl, C1, K1⟩ := hq
      exact z_iret F hr dX5_serve_115 rfl (Nat.le_of_ble_eq_true rfl) (Nat.le_of_ble_eq_true rfl) (⟨by rw [hs], x1, d1, by rw [hs], by rw [hs]; exact C1, K1⟩)
    by_cases e34 : sAN S 39 0 = 34
    · have hs : srv S = sv34 S := by unfold srv svd; rw [if_neg hne, if_neg e16, if_neg e17, if_pos e34]
      refine z_lookup (off := 102) (tgt := 116) F dX5_serve_14 (by decide) (by rw [show sAN S 39 0 = 34 from e34]; decide) (by decide) ?_
      refine z_aload_n F dX5_serve_116 rfl rfl ?_
      refine z_aload_n F dX5_serve_117 rfl rfl ?_
      refine z_callV F z_nwOK wL_good (c_X5_read C Q R W V U Y h0 hA e34) cO_at rfl vI_X5_read vM_X5_212 vV_X5_read vL_X5_read rfl dX5_serve_118 rfl rfl (Nat.le_of_ble_eq_true rfl) ⟨(Nat.le_of_ble_eq_true rfl), (Nat.le_of_ble_eq_true rfl), (Nat.le_of_ble_eq_true rfl), (Nat.le_of_ble_eq_true rfl)⟩ (fun v h1 hq => ?_)
      obtain ⟨rfl, x1, d1, rfl, C1, K1⟩ := hq
      exact z_iret F hr dX5_serve_121 rfl (Nat.le_of_ble_eq_true rfl) (Nat.le_of_ble_eq_true rfl) (⟨by rw [hs], x1, d1, by rw [hs], by rw [hs]; exact C1, K1⟩)
    by_cases e46 : sAN S 39 0 = 46
    · have hs : srv S = sv46 S := by unfold srv svd; rw [if_neg hne, if_neg e16, if_neg e17, if_neg e34, if_pos e46]
      refine z_lookup (off := 108) (tgt := 122) F dX5_serve_14 (by decide) (by rw [show sAN S 39 0 = 46 from e46]; decide) (by decide) ?_
      refine z_aload_n F dX5_serve_122 rfl rfl ?_
      refine z_aload_n F dX5_serve_123 rfl rfl ?_
      refine z_callV F z_nwOK wL_good (c_X5_write C Q R W V U Y h0 hA e46) cO_at rfl vI_X5_write vM_X5_215 vV_X5_write vL_X5_write rfl dX5_serve_124 rfl rfl (Nat.le_of_ble_eq_true rfl) ⟨(Nat.le_of_ble_eq_true rfl), (Nat.le_of_ble_eq_true rfl), (Nat.le_of_ble_eq_true rfl), (Nat.le_of_ble_eq_true rfl)⟩ (fun v h1 hq => ?_)
      obtain ⟨rfl, x1, d1, rfl, C1, K1⟩ := hq
      exact z_iret F hr dX5_serve_127 rfl (Nat.le_of_ble_eq_true rfl) (Nat.le_of_ble_eq_true rfl) (⟨by rw [hs], x1, d1, by rw [hs], by rw [hs]; exact C1, K1⟩)
    by_cases e47 : sAN S 39 0 = 47
    · have hs : srv S = sv47 S := by unfold srv svd; rw [if_neg hne, if_neg e16, if_neg e17, if_neg e34, if_neg e46, if_pos e47]
      refine z_lookup (off := 114) (tgt := 128) F dX5_serve_14 (by decide) (by rw [show sAN S 39 0 = 47 from e47]; decide) (by decide) ?_
      refine z_aload_n F dX5_serve_128 rfl rfl ?_
      refine z_aload_n F dX5_serve_129 rfl rfl ?_
      refine z_callV F z_nwOK wL_good (c_X5_takeControl C Q R W V U Y h0 hA e47) cO_at rfl vI_X5_takeControl vM_X5_218 vV_X5_takeControl vL_X5_takeControl rfl dX5_serve_130 rfl rfl (Nat.le_of_ble_eq_true rfl) ⟨(Nat.le_of_ble_eq_true rfl), (Nat.le_of_ble_eq_true rfl), (Nat.le_of_ble_eq_true rfl), (Nat.le_of_ble_eq_true rfl)⟩ (fun v h1 hq => ?_)
      obtain ⟨rfl, x1, d1, rfl, C1, K1⟩ := hq
      exact z_iret F hr dX5_serve_133 rfl (Nat.le_of_ble_eq_true rfl) (Nat.le_of_ble_eq_true rfl) (⟨by rw [hs], x1, d1, by rw [hs], by rw [hs]; exact C1, K1⟩)
    by_cases e49 : sAN S 39 0 = 49
    · have hs : srv S = sv49 S := by unfold srv svd; rw [if_neg hne, if_neg e16, if_neg e17, if_neg e34, if_neg e46, if_neg e47, if_pos e49]
      refine z_lookup (off := 120) (tgt := 134) F dX5_serve_14 (by decide) (by rw [show sAN S 39 0 = 49 from e49]; decide) (by decide) ?_
      refine z_aload_n F dX5_serve_134 rfl rfl ?_
      refine z_aload_n F dX5_serve_135 rfl rfl ?_
      refine z_callV F z_nwOK wL_good (c_X5_handleRoutine C Q R W V U Y h0 hA Z e49) cO_at rfl vI_X5_handleRoutine vM_X5_221 vV_X5_handleRoutine vL_X5_handleRoutine rfl dX5_serve_136 rfl rfl (Nat.le_of_ble_eq_true rfl) ⟨(Nat.le_of_ble_eq_true rfl), (Nat.le_of_ble_eq_true rfl), (Nat.le_of_ble_eq_true rfl), (Nat.le_of_ble_eq_true rfl)⟩ (fun v h1 hq => ?_)
      obtain ⟨rfl, x1, d1, rfl, C1, K1⟩ := hq
      exact z_iret F hr dX5_serve_139 rfl (Nat.le_of_ble_eq_true rfl) (Nat.le_of_ble_eq_true rfl) (⟨by rw [hs], x1, d1, by rw [hs], by rw [hs]; exact C1, K1⟩)
    by_cases e52 : sAN S 39 0 = 52
    · have hs : srv S = sv52 S := by unfold srv svd; rw [if_neg hne, if_neg e16, if_neg e17, if_neg e34, if_neg e46, if_neg e47, if_neg e49, if_pos e52]
      refine z_lookup (off := 126) (tgt := 140) F dX5_serve_14 (by decide) (by rw [show sAN S 39 0 = 52 from e52]; decide) (by decide) ?_
      refine z_aload_n F dX5_serve_140 rfl rfl ?_
      refine z_aload_n F dX5_serve_141 rfl rfl ?_
      refine z_callV F z_nwOK wL_good (c_X5_openTransfer C Q R W V U Y h0 hA e52) cO_at rfl vI_X5_openTransfer vM_X5_224 vV_X5_openTransfer vL_X5_openTransfer rfl dX5_serve_142 rfl rfl (Nat.le_of_ble_eq_true rfl) ⟨(Nat.le_of_ble_eq_true rfl), (Nat.le_of_ble_eq_true rfl), (Nat.le_of_ble_eq_true rfl), (Nat.le_of_ble_eq_true rfl)⟩ (fun v h1 hq => ?_)
      obtain ⟨rfl, x1, d1, rfl, C1, K1⟩ := hq
      exact z_iret F hr dX5_serve_145 rfl (Nat.le_of_ble_eq_true rfl) (Nat.le_of_ble_eq_true rfl) (⟨by rw [hs], x1, d1, by rw [hs], by rw [hs]; exact C1, K1⟩)
    by_cases e54 : sAN S 39 0 = 54
    · have hs : srv S = sv54 S := by unfold srv svd; rw [if_neg hne, if_neg e16, if_neg e17, if_neg e34, if_neg e46, if_neg e47, if_neg e49, if_neg e52, if_pos e54]
      refine z_lookup (off := 132) (tgt := 146) F dX5_serve_14 (by decide) (by rw [show sAN S 39 0 = 54 from e54]; decide) (by decide) ?_
      refine z_aload_n F dX5_serve_146 rfl rfl ?_
      refine z_aload_n F dX5_serve_147 rfl rfl ?_
      refine z_callV F z_nwOK wL_good (c_X5_takeBlock C Q R W V U Y h0 hA e54) cO_at rfl vI_X5_takeBlock vM_X5_227 vV_X5_takeBlock vL_X5_takeBlock rfl dX5_serve_148 rfl rfl (Nat.le_of_ble_eq_true rfl) ⟨(Nat.le_of_ble_eq_true rfl), (Nat.le_of_ble_eq_true rfl), (Nat.le_of_ble_eq_true rfl), (Nat.le_of_ble_eq_true rfl)⟩ (fun v h1 hq => ?_)
      obtain ⟨rfl, x1, d1, rfl, C1, K1⟩ := hq
      exact z_iret F hr dX5_serve_151 rfl (Nat.le_of_ble_eq_true rfl) (Nat.le_of_ble_eq_true rfl) (⟨by rw [hs], x1, d1, by rw [hs], by rw [hs]; exact C1, K1⟩)
    by_cases e55 : sAN S 39 0 = 55
    · have hs : srv S = sv55 S := by unfold srv svd; rw [if_neg hne, if_neg e16, if_neg e17, if_neg e34, if_neg e46, if_neg e47, if_neg e49, if_neg e52, if_neg e54, if_pos e55]
      refine z_lookup (off := 138) (tgt := 152) F dX5_serve_14 (by decide) (by rw [show sAN S 39 0 = 55 from e55]; decide) (by decide) ?_
      refine z_aload_n F dX5_serve_152 rfl rfl ?_
      refine z_aload_n F dX5_serve_153 rfl rfl ?_
      refine z_callV F z_nwOK wL_good (c_X5_closeTransfer C Q R W V U Y h0 hA e55) cO_at rfl vI_X5_closeTransfer vM_X5_230 vV_X5_closeTransfer vL_X5_closeTransfer rfl dX5_serve_154 rfl rfl (Nat.le_of_ble_eq_true rfl) ⟨(Nat.le_of_ble_eq_true rfl), (Nat.le_of_ble_eq_true rfl), (Nat.le_of_ble_eq_true rfl), (Nat.le_of_ble_eq_true rfl)⟩ (fun v h1 hq => ?_)
      obtain ⟨rfl, x1, d1, rfl, C1, K1⟩ := hq
      exact z_iret F hr dX5_serve_157 rfl (Nat.le_of_ble_eq_true rfl) (Nat.le_of_ble_eq_true rfl) (⟨by rw [hs], x1, d1, by rw [hs], by rw [hs]; exact C1, K1⟩)
    by_cases e62 : sAN S 39 0 = 62
    · have hs : srv S = sv62 S := by unfold srv svd; rw [if_neg hne, if_neg e16, if_neg e17, if_neg e34, if_neg e46, if_neg e47, if_neg e49, if_neg e52, if_neg e54, if_neg e55, if_pos e62]
      refine z_lookup (off := 144) (tgt := 158) F dX5_serve_14 (by decide) (by rw [show sAN S 39 0 = 62 from e62]; decide) (by decide) ?_
      refine z_aload_n F dX5_serve_158 rfl rfl ?_
      refine z_aload_n F dX5_serve_159 rfl rfl ?_
      refine z_callV F z_nwOK wL_good (c_X5_stayPresent C Q R W V U Y h0 hA e62) cO_at rfl vI_X5_stayPresent vM_X5_233 vV_X5_stayPresent vL_X5_stayPresent rfl dX5_serve_160 rfl rfl (Nat.le_of_ble_eq_true rfl) ⟨(Nat.le_of_ble_eq_true rfl), (Nat.le_of_ble_eq_true rfl), (Nat.le_of_ble_eq_true rfl), (Nat.le_of_ble_eq_true rfl)⟩ (fun v h1 hq => ?_)
      obtain ⟨rfl, x1, d1, rfl, C1, K1⟩ := hq
      exact z_iret F hr dX5_serve_163 rfl (Nat.le_of_ble_eq_true rfl) (Nat.le_of_ble_eq_true rfl) (⟨by rw [hs], x1, d1, by rw [hs], by rw [hs]; exact C1, K1⟩)
    have hs : srv S = (17, S) := by unfold srv svd; rw [if_neg hne, if_neg e16, if_neg e17, if_neg e34, if_neg e46, if_neg e47, if_neg e49, if_neg e52, if_neg e54, if_neg e55, if_neg e62]
    refine z_lookup (off := 150) (tgt := 164) F dX5_serve_14 (by decide) (by rw [nI_toInt (by omega)]; simp only [Op.lookupswitch.offset_cons]; simp [show ¬ ((16 : Int) = (sAN S 39 0 : Int)) from by omega, show ¬ ((17 : Int) = (sAN S 39 0 : Int)) from by omega, show ¬ ((34 : Int) = (sAN S 39 0 : Int)) from by omega, show ¬ ((46 : Int) = (sAN S 39 0 : Int)) from by omega, show ¬ ((47 : Int) = (sAN S 39 0 : Int)) from by omega, show ¬ ((49 : Int) = (sAN S 39 0 : Int)) from by omega, show ¬ ((52 : Int) = (sAN S 39 0 : Int)) from by omega, show ¬ ((54 : Int) = (sAN S 39 0 : Int)) from by omega, show ¬ ((55 : Int) = (sAN S 39 0 : Int)) from by omega, show ¬ ((62 : Int) = (sAN S 39 0 : Int)) from by omega]; rfl) (by decide) ?_
    refine z_bipush (v := 17) F dX5_serve_164 rfl ?_
    exact z_iret F hr dX5_serve_166 rfl (Nat.le_of_ble_eq_true rfl) (Nat.le_of_ble_eq_true rfl) (⟨by rw [hs]; try rfl, x, d, by rw [hs]; try rfl, by rw [hs]; exact C, rfl, rfl, rfl⟩)
  · have hne : sN S 38 = 0 := of_decide_eq_true (z_b1 c4)
    have hs : srv S = (19, S) := if_pos hne
    refine z_bipush (v := 19) F dX5_serve_7 rfl ?_
    exact z_iret F hr dX5_serve_9 rfl (Nat.le_of_ble_eq_true rfl) (Nat.le_of_ble_eq_true rfl) (⟨by rw [hs]; try rfl, x, d, by rw [hs]; try rfl, by rw [hs]; exact C, rfl, rfl, rfl⟩)
