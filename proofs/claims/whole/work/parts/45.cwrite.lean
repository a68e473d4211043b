set_option maxRecDepth 100000 in
set_option maxHeartbeats 1000000 in
theorem c_X5_write {S : z_S} {x : z_Xc} {m : Nat → z_E} {d : z_H} {w : Bool} (C : CR S x d) (Q : QV w S x) (R : rowOK S) (W : idsOK S) (V : numsOK S) (U : trOK S) (Y : rtsOK S) (h0 : 0 < sN S 38) (hA : sN S 40 = 0) (hV : sAN S 39 0 = 46) : z_K yX5_write cX5_write 4 (some .int) 3 0 0 [.ref 1, .ref (qa w)] (HP (cfun S x) m d) (fun v h' => v = some (.int (nI (sv46 S).1)) ∧ ∃ (x' : z_Xc) (d' : z_H), h' = HP (cfun (sv46 S).2 x') m d' ∧ CR (sv46 S).2 x' d' ∧ KX x x') := by
  have hM := Q.2.1
  refine z_met vI_X5_write (Nat.le_of_ble_eq_true rfl) (fun G X F hr hnm => ?_)
  refine z_aload_n F dX5_write_0 rfl rfl ?_
  refine z_callV F z_nwOK wL_good (c_qsize Q) cQ.1 rfl vI_X2_size vM_X5_236 vV_X2_size vL_X2_size rfl dX5_write_1 rfl rfl (Nat.le_of_ble_eq_true rfl) ⟨(Nat.le_of_ble_eq_true rfl), (Nat.le_of_ble_eq_true rfl), (Nat.le_of_ble_eq_true rfl), (Nat.le_of_ble_eq_true rfl)⟩ (fun v h1 hq => ?_)
  obtain ⟨rfl, rfl⟩ := hq
  refine z_istore_n F dX5_write_4 (Nat.le_of_ble_eq_true rfl) ?_
  refine z_iload_n F dX5_write_5 rfl ?_
  refine z_iconst (v := 2) F dX5_write_6 rfl ?_
  refine z_icmp_gt (tgt := 13) F dX5_write_7 (by decide) (fun c7 => ?_) (fun c7 => ?_)
  · have hn3 : ¬ sN S 38 - 1 < 3 := by have h9 := (nI_ltI (a := 2) (b := sN S 38 - 1) (by decide) (by omega)).mp c7; omega
    refine z_aload_n F dX5_write_13 rfl rfl ?_
    refine z_aload_n F dX5_write_14 rfl rfl ?_
    refine z_iconst (v := 0) F dX5_write_15 rfl ?_
    refine z_callV F z_nwOK wL_good (c_qword (p := 0) Q (show 0 + 2 < sN S 38 by omega)) cQ.1 rfl vI_X2_word vM_X5_254 vV_X2_word vL_X2_word rfl dX5_write_16 rfl rfl (Nat.le_of_ble_eq_true rfl) ⟨(Nat.le_of_ble_eq_true rfl), (Nat.le_of_ble_eq_true rfl), (Nat.le_of_ble_eq_true rfl), (Nat.le_of_ble_eq_true rfl)⟩ (fun v h1 hq => ?_)
    obtain ⟨rfl, rfl⟩ := hq
    rw [show toldN S (0 + 1) = toldN S 1 from rfl]
    refine z_callV F z_nwOK wL_good (c_X5_findHere (t := toldN S 1) C W.1 V) cO_at rfl vI_X5_findHere vM_X5_258 vV_X5_findHere vL_X5_findHere rfl dX5_write_19 rfl rfl (Nat.le_of_ble_eq_true rfl) ⟨(Nat.le_of_ble_eq_true rfl), (Nat.le_of_ble_eq_true rfl), (Nat.le_of_ble_eq_true rfl), (Nat.le_of_ble_eq_true rfl)⟩ (fun v h1 hq => ?_)
    obtain ⟨rfl, rfl⟩ := hq
    rcases here_cases S (toldN S 1) with ⟨hF, -⟩ | ⟨k, hfd, hF, -, hk⟩
    · rw [hF]
      have hs : sv46 S = (49, S) := by unfold sv46; rw [if_neg hn3, hF]
      refine z_astore_n F dX5_write_22 rfl (Nat.le_of_ble_eq_true rfl) ?_
      refine z_aload_n F dX5_write_23 rfl rfl ?_
      refine z_ifnull (tgt := 41) F dX5_write_24 (by decide) rfl (fun c24 => ?_) (fun c24 => absurd rfl c24)
      refine z_bipush (v := 49) F dX5_write_41 rfl ?_
      exact z_iret F hr dX5_write_43 rfl (Nat.le_of_ble_eq_true rfl) (Nat.le_of_ble_eq_true rfl) (⟨by rw [hs]; try rfl, x, d, by rw [hs]; try rfl, by rw [hs]; exact C, rfl, rfl, rfl⟩)
    · rw [hF]
      have hc := HPd (c := cfun S x) (m := m) (C.1.1 k hk)
      have h8 := (W.2 k hk).1
      have hid : sAI S 9 k = nI (sAN S 39 1 * 256 + sAN S 39 2) := (fnd_some hfd).2.1
      refine z_astore_n F dX5_write_22 rfl (Nat.le_of_ble_eq_true rfl) ?_
      refine z_aload_n F dX5_write_23 rfl rfl ?_
      refine z_ifnull (tgt := 41) F dX5_write_24 (by decide) rfl (fun c24 => absurd c24 (by intro q; cases q)) (fun c24 => ?_)
      refine z_aload_n F dX5_write_27 rfl rfl ?_
      refine z_getf F vF_X5_101 dX5_write_28 hc rfl ?_
      refine z_if_ne (tgt := 41) F dX5_write_31 (by decide) (fun c31 => ?_) (fun c31 => ?_)
      · have hT : sAB S 17 k = true := z_b1 c31
        have hs : sv46 S = (49, S) := by unfold sv46; rw [if_neg hn3, hF]; exact if_pos (by rw [hT]; rfl)
        refine z_bipush (v := 49) F dX5_write_41 rfl ?_
        exact z_iret F hr dX5_write_43 rfl (Nat.le_of_ble_eq_true rfl) (Nat.le_of_ble_eq_true rfl) (⟨by rw [hs]; try rfl, x, d, by rw [hs]; try rfl, by rw [hs]; exact C, rfl, rfl, rfl⟩)
      · have hT : sAB S 17 k = false := z_b0.mp c31
        refine z_aload_n F dX5_write_34 rfl rfl ?_
        refine z_getf F vF_X5_118 dX5_write_35 hc rfl ?_
        refine z_if_ne (tgt := 44) F dX5_write_38 (by decide) (fun c38 => ?_) (fun c38 => ?_)
        · have hK : sAB S 16 k = false := by have h9 := z_b1 c38; simpa using h9
          have hTK : ¬ (sAB S 17 k || sAB S 16 k) = true := by rw [hT, hK]; decide
          refine z_iload_n F dX5_write_44 rfl ?_
          refine z_iconst (v := 2) F dX5_write_45 rfl ?_
          refine z_isub F dX5_write_46 ?_
          rw [show nI (sN S 38 - 1) - 2 = nI (sN S 38 - 1 - 2) from pk_sub (b := 2) (by omega)]
          refine z_aload_n F dX5_write_47 rfl rfl ?_
          refine z_getf F vF_X5_98 dX5_write_48 hc rfl ?_
          refine z_icmp_eq (tgt := 57) F dX5_write_51 (by decide) (fun c51 => ?_) (fun c51 => ?_)
          · have hl : sN S 38 - 1 - 2 = sAN S 10 k := (nI_eq (a := sN S 38 - 1 - 2) (b := sAN S 10 k) (by omega) (by omega)).mp c51
            refine z_aload_n F dX5_write_57 rfl rfl ?_
            refine z_getf F vF_X5_261 dX5_write_58 hc rfl ?_
            refine z_aload_n F dX5_write_61 rfl rfl ?_
            refine z_getf F vF_X5_38 dX5_write_62 cO_at rfl ?_
            refine z_icmp_le (tgt := 71) F dX5_write_65 (by decide) (fun c65 => ?_) (fun c65 => ?_)
            · have hv : ¬ sN S 2 < sAN S 12 k := Nat.not_lt.mpr ((nI_leI (a := sAN S 12 k) (b := sN S 2) (by have := V.2.2.2.2 k; omega) (by have := V.2.1; omega)).mp c65)
              refine z_aload_n F dX5_write_71 rfl rfl ?_
              refine z_getf F vF_X5_28 dX5_write_72 cO_at rfl ?_
              refine z_if_ne (tgt := 81) F dX5_write_75 (by decide) (fun c75 => ?_) (fun c75 => ?_)
              · have hb : ¬ sB S 5 = false := by rw [z_b1 c75]; decide
                have hs : sv46 S = (0, sayS (sayS (sayS (uAL S 13 (va_up (sAL S 13) k (numL (fun i => nI (sAN S 39 (3 + i))) (sAN S 10 k)))) 110) (sAN S 39 1)) (sAN S 39 2)) := by unfold sv46; rw [if_neg hn3, hF]; show (if _ then _ else _) = _; rw [if_neg hTK, if_neg (not_not_intro hl), if_neg hv, if_neg hb]
                have CI : CR (uAL S 13 (va_up (sAL S 13) k (numL (fun i => nI (sAN S 39 (3 + i))) (sAN S 10 k)))) x (d.set (xi x k) (IO (uAL S 13 (va_up (sAL S 13) k (numL (fun i => nI (sAN S 39 (3 + i))) (sAN S 10 k)))) x k)) := CR_id C hk rfl rfl rfl rfl rfl rfl rfl rfl rfl rfl rfl rfl (fun _ => rfl) (fun j hj => by unfold IO; rw [show sAL (uAL S 13 (va_up (sAL S 13) k (numL (fun i => nI (sAN S 39 (3 + i))) (sAN S 10 k)))) 13 j = sAL S 13 j from va_up_ne _ _ hj]; rfl) C.1.2 C.2.2.2.2.1 C.2.2.2.2.2.1 C.2.2.2.2.2.2
                have hc2 := HPd (c := cfun (sayS (uAL S 13 (va_up (sAL S 13) k (numL (fun i => nI (sAN S 39 (3 + i))) (sAN S 10 k)))) 110) (sx (uAL S 13 (va_up (sAL S 13) k (numL (fun i => nI (sAN S 39 (3 + i))) (sAN S 10 k)))) x 110)) (m := m) (CI.1.1 k hk)
                refine z_aload_n F dX5_write_81 rfl rfl ?_
                refine z_aload_n F dX5_write_82 rfl rfl ?_
                refine z_iconst (v := 2) F dX5_write_83 rfl ?_
                refine z_aload_n F dX5_write_84 rfl rfl ?_
                refine z_getf F vF_X5_98 dX5_write_85 hc rfl ?_
                refine z_callV F z_nwOK wL_good (c_qnum (p := 2) (L := sAN S 10 k) Q (by omega)) cQ.1 rfl vI_X2_number vM_X5_270 vV_X2_number vL_X2_number rfl dX5_write_88 rfl rfl (Nat.le_of_ble_eq_true rfl) ⟨(Nat.le_of_ble_eq_true rfl), (Nat.le_of_ble_eq_true rfl), (Nat.le_of_ble_eq_true rfl), (Nat.le_of_ble_eq_true rfl)⟩ (fun v h1 hq => ?_)
                obtain ⟨rfl, rfl⟩ := hq
                refine z_putf F vF_X5_115 vT_X1 vD_X1_6 dX5_write_91 hc (Nat.le_of_ble_eq_true rfl) rfl rfl (fun g91 => ?_)
                refine z_heap (HP (cfun (uAL S 13 (va_up (sAL S 13) k (numL (fun i => nI (sAN S 39 (3 + i))) (sAN S 10 k)))) x) m (d.set (xi x k) (IO (uAL S 13 (va_up (sAL S 13) k (numL (fun i => nI (sAN S 39 (3 + i))) (sAN S 10 k)))) x k))) (by unfold IO; rw [show sAL (uAL S 13 (va_up (sAL S 13) k (numL (fun i => nI (sAN S 39 (3 + i))) (sAN S 10 k)))) 13 k = numL (fun i => nI (sAN S 39 (3 + i))) (sAN S 10 k) from va_up_self _ _ _]; rfl) ?_
                refine z_aload_n F dX5_write_94 rfl rfl ?_
                refine z_aload_n F dX5_write_95 rfl rfl ?_
                refine z_callV F z_nwOK wL_good (c_bR (b := 110) (QV_to (S' := uAL S 13 (va_up (sAL S 13) k (numL (fun i => nI (sAN S 39 (3 + i))) (sAN S 10 k)))) (x' := x) Q (by cases w <;> rfl) rfl rfl rfl) h0 (show sN S 40 + 0 < 41 by omega) (show sAN S 39 0 + 64 = 110 by omega)) cO_at rfl vI_X5_beginReply vM_X5_242 vV_X5_beginReply vL_X5_beginReply rfl dX5_write_96 rfl rfl (Nat.le_of_ble_eq_true rfl) ⟨(Nat.le_of_ble_eq_true rfl), (Nat.le_of_ble_eq_true rfl), (Nat.le_of_ble_eq_true rfl), (Nat.le_of_ble_eq_true rfl)⟩ (fun v h1 hq => ?_)
                obtain ⟨rfl, rfl⟩ := hq
                refine z_aload_n F dX5_write_99 rfl rfl ?_
                refine z_getf F vF_X5_67 dX5_write_100 cO_at rfl ?_
                refine z_aload_n F dX5_write_103 rfl rfl ?_
                refine z_getf F vF_X5_166 dX5_write_104 hc2 rfl ?_
                rw [show sAI (uAL S 13 (va_up (sAL S 13) k (numL (fun i => nI (sAN S 39 (3 + i))) (sAN S 10 k)))) 9 k = nI (sAN S 39 1 * 256 + sAN S 39 2) from hid]
                refine z_callV F z_nwOK wL_good (c_putW (a := sAN S 39 1) (b := sAN S 39 2) (R _) (R _) (show sN S 40 + 1 + 1 < 41 by omega)) cAn.1 rfl vI_X0_putWord vM_X5_265 vV_X0_putWord vL_X0_putWord rfl dX5_write_107 rfl rfl (Nat.le_of_ble_eq_true rfl) ⟨(Nat.le_of_ble_eq_true rfl), (Nat.le_of_ble_eq_true rfl), (Nat.le_of_ble_eq_true rfl), (Nat.le_of_ble_eq_true rfl)⟩ (fun v h1 hq => ?_)
                obtain ⟨rfl, rfl⟩ := hq
                refine z_iconst (v := 0) F dX5_write_110 rfl ?_
                exact z_iret F hr dX5_write_111 rfl (Nat.le_of_ble_eq_true rfl) (Nat.le_of_ble_eq_true rfl) (⟨by rw [hs]; try rfl, (sx (sayS (sayS (uAL S 13 (va_up (sAL S 13) k (numL (fun i => nI (sAN S 39 (3 + i))) (sAN S 10 k)))) (110)) (sAN S 39 1)) (sx (sayS (uAL S 13 (va_up (sAL S 13) k (numL (fun i => nI (sAN S 39 (3 + i))) (sAN S 10 k)))) (110)) (sx (uAL S 13 (va_up (sAL S 13) k (numL (fun i => nI (sAN S 39 (3 + i))) (sAN S 10 k)))) x (110)) (sAN S 39 1)) (sAN S 39 2)), d.set (xi x k) (IO (uAL S 13 (va_up (sAL S 13) k (numL (fun i => nI (sAN S 39 (3 + i))) (sAN S 10 k)))) x k), by rw [hs]; try rfl, by rw [hs]; exact (CR_say (CR_say (CR_say CI (show sN S 40 + 0 < 41 by omega) (110)) (show sN S 40 + 1 < 41 by omega) (sAN S 39 1)) (show sN S 40 + 2 < 41 by omega) (sAN S 39 2)), rfl, rfl, rfl⟩)
              · have hb : sB S 5 = false := z_b0.mp c75
                have hs : sv46 S = (34, S) := by unfold sv46; rw [if_neg hn3, hF]; show (if _ then _ else _) = _; rw [if_neg hTK, if_neg (not_not_intro hl), if_neg hv, if_pos hb]
                refine z_bipush (v := 34) F dX5_write_78 rfl ?_
                exact z_iret F hr dX5_write_80 rfl (Nat.le_of_ble_eq_true rfl) (Nat.le_of_ble_eq_true rfl) (⟨by rw [hs]; try rfl, x, d, by rw [hs]; try rfl, by rw [hs]; exact C, rfl, rfl, rfl⟩)
            · have hv : sN S 2 < sAN S 12 k := Nat.lt_of_not_le (fun e => c65 ((nI_leI (a := sAN S 12 k) (b := sN S 2) (by have := V.2.2.2.2 k; omega) (by have := V.2.1; omega)).mpr e))
              have hs : sv46 S = (51, S) := by unfold sv46; rw [if_neg hn3, hF]; show (if _ then _ else _) = _; rw [if_neg hTK, if_neg (not_not_intro hl), if_pos hv]
              refine z_bipush (v := 51) F dX5_write_68 rfl ?_
              exact z_iret F hr dX5_write_70 rfl (Nat.le_of_ble_eq_true rfl) (Nat.le_of_ble_eq_true rfl) (⟨by rw [hs]; try rfl, x, d, by rw [hs]; try rfl, by rw [hs]; exact C, rfl, rfl, rfl⟩)
          · have hl : ¬ sN S 38 - 1 - 2 = sAN S 10 k := fun e => c51 (by rw [e])
            have hs : sv46 S = (19, S) := by unfold sv46; rw [if_neg hn3, hF]; show (if _ then _ else _) = _; rw [if_neg hTK, if_pos hl]
            refine z_bipush (v := 19) F dX5_write_54 rfl ?_
            exact z_iret F hr dX5_write_56 rfl (Nat.le_of_ble_eq_true rfl) (Nat.le_of_ble_eq_true rfl) (⟨by rw [hs]; try rfl, x, d, by rw [hs]; try rfl, by rw [hs]; exact C, rfl, rfl, rfl⟩)
        · have hK : sAB S 16 k = true := by have h9 := z_b0.mp c38; simpa using h9
          have hs : sv46 S = (49, S) := by unfold sv46; rw [if_neg hn3, hF]; exact if_pos (by rw [hK]; simp)
          refine z_bipush (v := 49) F dX5_write_41 rfl ?_
          exact z_iret F hr dX5_write_43 rfl (Nat.le_of_ble_eq_true rfl) (Nat.le_of_ble_eq_true rfl) (⟨by rw [hs]; try rfl, x, d, by rw [hs]; try rfl, by rw [hs]; exact C, rfl, rfl, rfl⟩)
  · have hn3 : sN S 38 - 1 < 3 := Nat.lt_of_not_le (fun e => c7 ((nI_ltI (a := 2) (b := sN S 38 - 1) (by decide) (by omega)).mpr (by omega)))
    have hs : sv46 S = (19, S) := if_pos hn3
    refine z_bipush (v := 19) F dX5_write_10 rfl ?_
    exact z_iret F hr dX5_write_12 rfl (Nat.le_of_ble_eq_true rfl) (Nat.le_of_ble_eq_true rfl) (⟨by rw [hs]; try rfl, x, d, by rw [hs]; try rfl, by rw [hs]; exact C, rfl, rfl, rfl⟩)

/-- control k is set: held or not, and what is held -/
def ctS (S : z_S) (k : Nat) (b : Bool) (v : Int64) : z_S := uAL (uAB S 14 (va_up (sAB S 14) k b)) 15 (va_up (sAL S 15) k v)
theorem CR_ct {S : z_S} {x : z_Xc} {d : z_H} (C : CR S x d) {k : Nat} (hk : k < sN S 8) (b : Bool) (v u : Int64) (h : b = true → u = v) : CR (ctS S k b v) (wh x (va_up (xh x) k u)) (d.set (xi x k) (IO (ctS S k b v) (wh x (va_up (xh x) k u)) k)) :=
  CR_id C hk rfl rfl rfl rfl rfl rfl rfl rfl rfl rfl rfl rfl (fun _ => rfl) (fun j hj => by
    unfold IO
    rw [show sAB (ctS S k b v) 14 j = sAB S 14 j from va_up_ne _ _ hj, show xh (wh x (va_up (xh x) k u)) j = xh x j from va_up_ne _ _ hj]
    rfl) (fun j hj ht => by
    by_cases hjk : j = k
    · subst hjk
      rw [show xh (wh x (va_up (xh x) j u)) j = u from va_up_self _ _ _, show sAL (ctS S j b v) 15 j = v from va_up_self _ _ _]
      exact h ((show sAB (ctS S j b v) 14 j = b from va_up_self _ _ _).symm.trans ht)
    · rw [show xh (wh x (va_up (xh x) k u)) j = xh x j from va_up_ne _ _ hjk, show sAL (ctS S k b v) 15 j = sAL S 15 j from va_up_ne _ _ hjk]
      exact C.1.2 j hj ((show sAB (ctS S k b v) 14 j = sAB S 14 j from va_up_ne _ _ hjk).symm.trans ht)) C.2.2.2.2.1 C.2.2.2.2.2.1 C.2.2.2.2.2.2
theorem ct_IO (S : z_S) (x : z_Xc) (k : Nat) (b : Bool) (v u : Int64) : IO (ctS S k b v) (wh x (va_up (xh x) k u)) k = I_o (sAI S 9 k) (sAN S 11 k) (sAN S 12 k) (sAB S 17 k) (sAN S 10 k) (!sAB S 16 k) (sAL S 13 k) b u (xs x k + 32) (xp x k + 32) := by
  unfold IO
  rw [show sAB (ctS S k b v) 14 k = b from va_up_self _ _ _, show xh (wh x (va_up (xh x) k u)) k = u from va_up_self _ _ _]
  rfl

set_option maxRecDepth 100000 in
set_option maxHeartbeats 1000000 in
theorem c_X5_setControl {S : z_S} {x : z_Xc} {m : Nat → z_E} {d : z_H} {w : Bool} (Q : QV w S x) {k : Nat} (C : CR S x d) (W : idsOK S) (hk : k < sN S 8) (h3 : sAN S 39 3 ≤ 3) (hq3 : sAN S 39 3 = 3 → sN S 38 - 1 = 3 + sAN S 10 k) : z_K yX5_setControl cX5_setControl 3 none 3 0 0 [.ref (xi x k + 32), .int (nI (sAN S 39 3)), .ref (qa w)] (HP (cfun S x) m d) (fun v h' => v = none ∧ ∃ u : Int64, h' = HP (cfun (ctS S k (decide (0 < sAN S 39 3)) (ctlV S k)) (wh x (va_up (xh x) k u))) m (d.set (xi x k) (IO (ctS S k (decide (0 < sAN S 39 3)) (ctlV S k)) (wh x (va_up (xh x) k u)) k)) ∧ (decide (0 < sAN S 39 3) = true → u = ctlV S k)) := by
  refine z_met vI_X5_setControl (Nat.le_of_ble_eq_true rfl) (fun G X F hr hnm => ?_)
  refine z_iload_n F dX5_setControl_0 rfl ?_
  have hc := HPd (c := cfun S x) (m := m) (C.1.1 k hk)
  have h4 : sAN S 39 3 = 0 ∨ sAN S 39 3 = 1 ∨ sAN S 39 3 = 2 ∨ sAN S 39 3 = 3 := by omega
  rcases h4 with hz | hz | hz | hz
  · have hcd : decide (0 < sAN S 39 3) = false := by rw [hz]; rfl
    rw [hz]
    refine z_tableIn (off := 27) (tgt := 28) F dX5_setControl_1 (by decide) (by decide) rfl (by decide) ?_
    refine z_aload_n F dX5_setControl_28 rfl rfl ?_
    refine z_callV F z_nwOK wL_good (c_X1_release hc) hc rfl vI_X1_release vM_X5_171 vV_X1_release vL_X1_release rfl dX5_setControl_29 rfl rfl (Nat.le_of_ble_eq_true rfl) ⟨(Nat.le_of_ble_eq_true rfl), (Nat.le_of_ble_eq_true rfl), (Nat.le_of_ble_eq_true rfl), (Nat.le_of_ble_eq_true rfl)⟩ (fun v h1 hq => ?_)
    obtain ⟨rfl, rfl⟩ := hq
    refine z_goto (tgt := 67) F dX5_setControl_32 (by decide) ?_
    exact z_vret F hr dX5_setControl_67 (Nat.le_of_ble_eq_true rfl) (Nat.le_of_ble_eq_true rfl) (⟨rfl, xh x k, by rw [ct_IO]; rfl, fun h => absurd h (by decide)⟩)
  · have hcd : decide (0 < sAN S 39 3) = true := by rw [hz]; rfl
    have hcv : ctlV S k = 0 := by unfold ctlV; rw [hz]; rfl
    rw [hz]
    refine z_tableIn (off := 34) (tgt := 35) F dX5_setControl_1 (by decide) (by decide) rfl (by decide) ?_
    refine z_aload_n F dX5_setControl_35 rfl rfl ?_
    refine z_lconst (v := 0) F dX5_setControl_36 rfl ?_
    refine z_callV F z_nwOK wL_good (c_X1_hold hc 0) hc rfl vI_X1_hold vM_X5_278 vV_X1_hold vL_X1_hold rfl dX5_setControl_37 rfl rfl (Nat.le_of_ble_eq_true rfl) ⟨(Nat.le_of_ble_eq_true rfl), (Nat.le_of_ble_eq_true rfl), (Nat.le_of_ble_eq_true rfl), (Nat.le_of_ble_eq_true rfl)⟩ (fun v h1 hq => ?_)
    obtain ⟨rfl, rfl⟩ := hq
    refine z_goto (tgt := 67) F dX5_setControl_40 (by decide) ?_
    exact z_vret F hr dX5_setControl_67 (Nat.le_of_ble_eq_true rfl) (Nat.le_of_ble_eq_true rfl) (⟨rfl, 0, by rw [ct_IO]; rfl, fun _ => hcv.symm⟩)
  · have hcd : decide (0 < sAN S 39 3) = true := by rw [hz]; rfl
    have hcv : ctlV S k = valS S k := by unfold ctlV; rw [hz]; rfl
    rw [hz]
    refine z_tableIn (off := 42) (tgt := 43) F dX5_setControl_1 (by decide) (by decide) rfl (by decide) ?_
    refine z_aload_n F dX5_setControl_43 rfl rfl ?_
    refine z_aload_n F dX5_setControl_44 rfl rfl ?_
    refine z_callV F z_nwOK wL_good (c_X1_num C W hk) hc rfl vI_X1_number vM_X5_162 vV_X1_number vL_X1_number rfl dX5_setControl_45 rfl rfl (Nat.le_of_ble_eq_true rfl) ⟨(Nat.le_of_ble_eq_true rfl), (Nat.le_of_ble_eq_true rfl), (Nat.le_of_ble_eq_true rfl), (Nat.le_of_ble_eq_true rfl)⟩ (fun v h1 hq => ?_)
    obtain ⟨rfl, rfl⟩ := hq
    refine z_callV F z_nwOK wL_good (c_X1_hold hc (valS S k)) hc rfl vI_X1_hold vM_X5_278 vV_X1_hold vL_X1_hold rfl dX5_setControl_48 rfl rfl (Nat.le_of_ble_eq_true rfl) ⟨(Nat.le_of_ble_eq_true rfl), (Nat.le_of_ble_eq_true rfl), (Nat.le_of_ble_eq_true rfl), (Nat.le_of_ble_eq_true rfl)⟩ (fun v h1 hq => ?_)
    obtain ⟨rfl, rfl⟩ := hq
    refine z_goto (tgt := 67) F dX5_setControl_51 (by decide) ?_
    exact z_vret F hr dX5_setControl_67 (Nat.le_of_ble_eq_true rfl) (Nat.le_of_ble_eq_true rfl) (⟨rfl, valS S k, by rw [ct_IO]; rfl, fun _ => hcv.symm⟩)
  · have hcd : decide (0 < sAN S 39 3) = true := by rw [hz]; rfl
    have hcv : ctlV S k = numL (fun i => nI (sAN S 39 (4 + i))) (sAN S 10 k) := by unfold ctlV; rw [hz]; rfl
    rw [hz]
    refine z_tableOut (tgt := 54) F dX5_setControl_1 (Or.inr (by decide)) (by decide) ?_
    refine z_aload_n F dX5_setControl_54 rfl rfl ?_
    refine z_aload_n F dX5_setControl_55 rfl rfl ?_
    refine z_iconst (v := 3) F dX5_setControl_56 rfl ?_
    refine z_aload_n F dX5_setControl_57 rfl rfl ?_
    refine z_getf F vF_X5_98 dX5_setControl_58 hc rfl ?_
    refine z_callV F z_nwOK wL_good (c_qnum (p := 3) (L := sAN S 10 k) Q (by have := hq3 hz; omega)) cQ.1 rfl vI_X2_number vM_X5_270 vV_X2_number vL_X2_number rfl dX5_setControl_61 rfl rfl (Nat.le_of_ble_eq_true rfl) ⟨(Nat.le_of_ble_eq_true rfl), (Nat.le_of_ble_eq_true rfl), (Nat.le_of_ble_eq_true rfl), (Nat.le_of_ble_eq_true rfl)⟩ (fun v h1 hq => ?_)
    obtain ⟨rfl, rfl⟩ := hq
    refine z_callV F z_nwOK wL_good (c_X1_hold hc (numL (fun i => nI (sAN S 39 (4 + i))) (sAN S 10 k))) hc rfl vI_X1_hold vM_X5_278 vV_X1_hold vL_X1_hold rfl dX5_setControl_64 rfl rfl (Nat.le_of_ble_eq_true rfl) ⟨(Nat.le_of_ble_eq_true rfl), (Nat.le_of_ble_eq_true rfl), (Nat.le_of_ble_eq_true rfl), (Nat.le_of_ble_eq_true rfl)⟩ (fun v h1 hq => ?_)
    obtain ⟨rfl, rfl⟩ := hq
    exact z_vret F hr dX5_setControl_67 (Nat.le_of_ble_eq_true rfl) (Nat.le_of_ble_eq_true rfl) (⟨rfl, numL (fun i => nI (sAN S 39 (4 + i))) (sAN S 10 k), by rw [ct_IO]; rfl, fun _ => hcv.symm⟩)

set_option maxRecDepth 100000 in
set_option maxHeartbeats 1000000 in
theorem c_X5_takeControl {S : z_S} {x : z_Xc} {m : Nat → z_E} {d : z_H} {w : Bool} (C : CR S x d) (Q : QV w S x) (R : rowOK S) (W : idsOK S) (V : numsOK S) (U : trOK S) (Y : rtsOK S) (h0 : 0 < sN S 38) (hA : sN S 40 = 0) (hV : sAN S 39 0 = 47) : z_K yX5_takeControl cX5_takeControl 5 (some .int) 4 0 0 [.ref 1, .ref (qa w)] (HP (cfun S x) m d) (fun v h' => v = some (.int (nI (sv47 S).1)) ∧ ∃ (x' : z_Xc) (d' : z_H), h' = HP (cfun (sv47 S).2 x') m d' ∧ CR (sv47 S).2 x' d' ∧ KX x x') := by
  have hM := Q.2.1
  refine z_met vI_X5_takeControl (Nat.le_of_ble_eq_true rfl) (fun G X F hr hnm => ?_)
  refine z_aload_n F dX5_takeControl_0 rfl rfl ?_
  refine z_getf F vF_X5_35 dX5_takeControl_1 cO_at rfl ?_
  refine z_iconst (v := 1) F dX5_takeControl_4 rfl ?_
  refine z_icmp_ne (tgt := 11) F dX5_takeControl_5 (by decide) (fun c5 => ?_) (fun c5 => ?_)
  · have hs1 : ¬ sN S 1 = 1 := fun e => c5 (by rw [e]; rfl)
    refine z_aload_n F dX5_takeControl_11 rfl rfl ?_
    refine z_callV F z_nwOK wL_good (c_qsize Q) cQ.1 rfl vI_X2_size vM_X5_236 vV_X2_size vL_X2_size rfl dX5_takeControl_12 rfl rfl (Nat.le_of_ble_eq_true rfl) ⟨(Nat.le_of_ble_eq_true rfl), (Nat.le_of_ble_eq_true rfl), (Nat.le_of_ble_eq_true rfl), (Nat.le_of_ble_eq_true rfl)⟩ (fun v h1 hq => ?_)
    obtain ⟨rfl, rfl⟩ := hq
    refine z_istore_n F dX5_takeControl_15 (Nat.le_of_ble_eq_true rfl) ?_
    refine z_iload_n F dX5_takeControl_16 rfl ?_
    refine z_iconst (v := 2) F dX5_takeControl_17 rfl ?_
    refine z_icmp_gt (tgt := 24) F dX5_takeControl_18 (by decide) (fun c18 => ?_) (fun c18 => ?_)
    · have hn3 : ¬ sN S 38 - 1 < 3 := by have h9 := (nI_ltI (a := 2) (b := sN S 38 - 1) (by decide) (by omega)).mp c18; omega
      refine z_aload_n F dX5_takeControl_24 rfl rfl ?_
      refine z_aload_n F dX5_takeControl_25 rfl rfl ?_
      refine z_iconst (v := 0) F dX5_takeControl_26 rfl ?_
      refine z_callV F z_nwOK wL_good (c_qword (p := 0) Q (show 0 + 2 < sN S 38 by omega)) cQ.1 rfl vI_X2_word vM_X5_254 vV_X2_word vL_X2_word rfl dX5_takeControl_27 rfl rfl (Nat.le_of_ble_eq_true rfl) ⟨(Nat.le_of_ble_eq_true rfl), (Nat.le_of_ble_eq_true rfl), (Nat.le_of_ble_eq_true rfl), (Nat.le_of_ble_eq_true rfl)⟩ (fun v h1 hq => ?_)
      obtain ⟨rfl, rfl⟩ := hq
      rw [show toldN S (0 + 1) = toldN S 1 from rfl]
      refine z_callV F z_nwOK wL_good (c_X5_findHere (t := toldN S 1) C W.1 V) cO_at rfl vI_X5_findHere vM_X5_258 vV_X5_findHere vL_X5_findHere rfl dX5_takeControl_30 rfl rfl (Nat.le_of_ble_eq_true rfl) ⟨(Nat.le_of_ble_eq_true rfl), (Nat.le_of_ble_eq_true rfl), (Nat.le_of_ble_eq_true rfl), (Nat.le_of_ble_eq_true rfl)⟩ (fun v h1 hq => ?_)
      obtain ⟨rfl, rfl⟩ := hq
      rcases here_cases S (toldN S 1) with ⟨hF, -⟩ | ⟨k, hfd, hF, -, hk⟩
      · rw [hF]
        have hs : sv47 S = (49, S) := by unfold sv47; rw [if_neg hs1, if_neg hn3, hF]
        refine z_astore_n F dX5_takeControl_33 rfl (Nat.le_of_ble_eq_true rfl) ?_
        refine z_aload_n F dX5_takeControl_34 rfl rfl ?_
        refine z_ifnull (tgt := 45) F dX5_takeControl_35 (by decide) rfl (fun c35 => ?_) (fun c35 => absurd rfl c35)
        refine z_bipush (v := 49) F dX5_takeControl_45 rfl ?_
        exact z_iret F hr dX5_takeControl_47 rfl (Nat.le_of_ble_eq_true rfl) (Nat.le_of_ble_eq_true rfl) (⟨by rw [hs]; try rfl, x, d, by rw [hs]; try rfl, by rw [hs]; exact C, rfl, rfl, rfl⟩)
      · rw [hF]
        have hc := HPd (c := cfun S x) (m := m) (C.1.1 k hk)
        have h8 := (W.2 k hk).1
        have hid : sAI S 9 k = nI (sAN S 39 1 * 256 + sAN S 39 2) := (fnd_some hfd).2.1
        have hr3 := R 3
        refine z_astore_n F dX5_takeControl_33 rfl (Nat.le_of_ble_eq_true rfl) ?_
        refine z_aload_n F dX5_takeControl_34 rfl rfl ?_
        refine z_ifnull (tgt := 45) F dX5_takeControl_35 (by decide) rfl (fun c35 => absurd c35 (by intro q; cases q)) (fun c35 => ?_)
        refine z_aload_n F dX5_takeControl_38 rfl rfl ?_
        refine z_getf F vF_X5_101 dX5_takeControl_39 hc rfl ?_
        refine z_if_eq (tgt := 48) F dX5_takeControl_42 (by decide) (fun c42 => ?_) (fun c42 => ?_)
        · have hT : sAB S 17 k = false := z_b0.mp c42
          refine z_aload_n F dX5_takeControl_48 rfl rfl ?_
          refine z_getf F vF_X5_261 dX5_takeControl_49 hc rfl ?_
          refine z_aload_n F dX5_takeControl_52 rfl rfl ?_
          refine z_getf F vF_X5_38 dX5_takeControl_53 cO_at rfl ?_
          refine z_icmp_le (tgt := 62) F dX5_takeControl_56 (by decide) (fun c56 => ?_) (fun c56 => ?_)
          · have hv : ¬ sN S 2 < sAN S 12 k := Nat.not_lt.mpr ((nI_leI (a := sAN S 12 k) (b := sN S 2) (by have := V.2.2.2.2 k; omega) (by have := V.2.1; omega)).mp c56)
            refine z_aload_n F dX5_takeControl_62 rfl rfl ?_
            refine z_iconst (v := 2) F dX5_takeControl_63 rfl ?_
            refine z_callV F z_nwOK wL_good (c_qoct (p := 2) Q (show 2 + 1 < sN S 38 by omega)) cQ.1 rfl vI_X2_octetAt vM_X5_273 vV_X2_octetAt vL_X2_octetAt rfl dX5_takeControl_64 rfl rfl (Nat.le_of_ble_eq_true rfl) ⟨(Nat.le_of_ble_eq_true rfl), (Nat.le_of_ble_eq_true rfl), (Nat.le_of_ble_eq_true rfl), (Nat.le_of_ble_eq_true rfl)⟩ (fun v h1 hq => ?_)
            obtain ⟨rfl, rfl⟩ := hq
            rw [show sAN S 39 (2 + 1) = sAN S 39 3 from rfl]
            refine z_istore F dX5_takeControl_67 (Nat.le_of_ble_eq_true rfl) ?_
            refine z_iload F dX5_takeControl_69 rfl ?_
            refine z_iconst (v := 0) F dX5_takeControl_71 rfl ?_
            refine z_iconst (v := 3) F dX5_takeControl_72 rfl ?_
            refine z_callS F z_nwOK wL_good (c_within (A := 0) (B := 3) (nI (sAN S 39 3)) 0 3 rfl rfl) vI_X5_isWithin vM_X5_79 vS_X5_isWithin rfl dX5_takeControl_73 rfl rfl (Nat.le_of_ble_eq_true rfl) ⟨(Nat.le_of_ble_eq_true rfl), (Nat.le_of_ble_eq_true rfl), (Nat.le_of_ble_eq_true rfl), (Nat.le_of_ble_eq_true rfl)⟩ (fun v h1 hq => ?_)
            obtain ⟨rfl, rfl⟩ := hq
            refine z_if_ne (tgt := 82) F dX5_takeControl_76 (by decide) (fun c76 => ?_) (fun c76 => ?_)
            · have h3n : ¬ 3 < sAN S 39 3 := by have h9 := z_b1 c76; rw [nI_toInt (by omega)] at h9; unfold inZ at h9; simp at h9; omega
              refine z_iload_n F dX5_takeControl_82 rfl ?_
              refine z_iconst (v := 3) F dX5_takeControl_83 rfl ?_
              refine z_isub F dX5_takeControl_84 ?_
              rw [show nI (sN S 38 - 1) - 3 = nI (sN S 38 - 1 - 3) from pk_sub (b := 3) (by omega)]
              refine z_iload F dX5_takeControl_85 rfl ?_
              refine z_iconst (v := 3) F dX5_takeControl_87 rfl ?_
              refine z_icmp_ne (tgt := 98) F dX5_takeControl_88 (by decide) (fun c88 => ?_) (fun c88 => ?_)
              · have hz : ¬ sAN S 39 3 = 3 := fun e => c88 (by rw [e]; rfl)
                refine z_iconst (v := 0) F dX5_takeControl_98 rfl ?_
                refine z_icmp_eq (tgt := 105) F dX5_takeControl_99 (by decide) (fun c99 => ?_) (fun c99 => ?_)
                · have hl : (sN S 38 - 1 = 3 + (if sAN S 39 3 = 3 then sAN S 10 k else 0)) := by rw [if_neg hz]; have h9 := (nI_eq (a := sN S 38 - 1 - 3) (b := 0) (by omega) (by decide)).mp c99; omega
                  have hs : sv47 S = (0, sayS (sayS (sayS (sayS (ctS S k (decide (0 < sAN S 39 3)) (ctlV S k)) 111) (sAN S 39 1)) (sAN S 39 2)) (sAN S 39 3)) := by unfold sv47; rw [if_neg hs1, if_neg hn3, hF]; show (if _ then _ else _) = _; rw [if_neg (by rw [hT]; decide), if_neg hv, if_neg h3n, if_neg (not_not_intro hl)]; rfl
                  refine z_aload_n F dX5_takeControl_105 rfl rfl ?_
                  refine z_iload F dX5_takeControl_106 rfl ?_
                  refine z_aload_n F dX5_takeControl_108 rfl rfl ?_
                  refine z_callS F z_nwOK wL_good (c_X5_setControl Q C W hk (by omega) (fun e => absurd e hz)) vI_X5_setControl vM_X5_274 vS_X5_setControl rfl dX5_takeControl_109 rfl rfl (Nat.le_of_ble_eq_true rfl) ⟨(Nat.le_of_ble_eq_true rfl), (Nat.le_of_ble_eq_true rfl), (Nat.le_of_ble_eq_true rfl), (Nat.le_of_ble_eq_true rfl)⟩ (fun v h1 hq => ?_)
                  obtain ⟨rfl, u, rfl, hu⟩ := hq
                  have CI := CR_ct C hk (decide (0 < sAN S 39 3)) (ctlV S k) u hu
                  have hc2 := HPd (c := cfun (sayS (ctS S k (decide (0 < sAN S 39 3)) (ctlV S k)) 111) (sx (ctS S k (decide (0 < sAN S 39 3)) (ctlV S k)) (wh x (va_up (xh x) k u)) 111)) (m := m) (CI.1.1 k hk)
                  refine z_aload_n F dX5_takeControl_112 rfl rfl ?_
                  refine z_aload_n F dX5_takeControl_113 rfl rfl ?_
                  refine z_callV F z_nwOK wL_good (c_bR (b := 111) (QV_to (S' := ctS S k (decide (0 < sAN S 39 3)) (ctlV S k)) (x' := wh x (va_up (xh x) k u)) Q (by cases w <;> rfl) rfl rfl rfl) h0 (show sN S 40 + 0 < 41 by omega) (show sAN S 39 0 + 64 = 111 by omega)) cO_at rfl vI_X5_beginReply vM_X5_242 vV_X5_beginReply vL_X5_beginReply rfl dX5_takeControl_114 rfl rfl (Nat.le_of_ble_eq_true rfl) ⟨(Nat.le_of_ble_eq_true rfl), (Nat.le_of_ble_eq_true rfl), (Nat.le_of_ble_eq_true rfl), (Nat.le_of_ble_eq_true rfl)⟩ (fun v h1 hq => ?_)
                  obtain ⟨rfl, rfl⟩ := hq
                  refine z_aload_n F dX5_takeControl_117 rfl rfl ?_
                  refine z_getf F vF_X5_67 dX5_takeControl_118 cO_at rfl ?_
                  refine z_aload_n F dX5_takeControl_121 rfl rfl ?_
                  refine z_getf F vF_X5_166 dX5_takeControl_122 hc2 rfl ?_
                  rw [show sAI (ctS S k (decide (0 < sAN S 39 3)) (ctlV S k)) 9 k = nI (sAN S 39 1 * 256 + sAN S 39 2) from hid]
                  refine z_callV F z_nwOK wL_good (c_putW (a := sAN S 39 1) (b := sAN S 39 2) (R _) (R _) (show sN S 40 + 1 + 1 < 41 by omega)) cAn.1 rfl vI_X0_putWord vM_X5_265 vV_X0_putWord vL_X0_putWord rfl dX5_takeControl_125 rfl rfl (Nat.le_of_ble_eq_true rfl) ⟨(Nat.le_of_ble_eq_true rfl), (Nat.le_of_ble_eq_true rfl), (Nat.le_of_ble_eq_true rfl), (Nat.le_of_ble_eq_true rfl)⟩ (fun v h1 hq => ?_)
                  obtain ⟨rfl, rfl⟩ := hq
                  refine z_aload_n F dX5_takeControl_128 rfl rfl ?_
                  refine z_getf F vF_X5_67 dX5_takeControl_129 cO_at rfl ?_
                  refine z_iload F dX5_takeControl_132 rfl ?_
                  refine z_callV F z_nwOK wL_good (c_put (b := sAN S 39 3) (show sN S 40 + 3 < 41 by omega)) cAn.1 rfl vI_X0_put vM_X5_190 vV_X0_put vL_X0_put rfl dX5_takeControl_134 rfl rfl (Nat.le_of_ble_eq_true rfl) ⟨(Nat.le_of_ble_eq_true rfl), (Nat.le_of_ble_eq_true rfl), (Nat.le_of_ble_eq_true rfl), (Nat.le_of_ble_eq_true rfl)⟩ (fun v h1 hq => ?_)
                  obtain ⟨rfl, rfl⟩ := hq
                  refine z_iconst (v := 0) F dX5_takeControl_137 rfl ?_
                  exact z_iret F hr dX5_takeControl_138 rfl (Nat.le_of_ble_eq_true rfl) (Nat.le_of_ble_eq_true rfl) (⟨by rw [hs]; try rfl, (sx (sayS (sayS (sayS (ctS S k (decide (0 < sAN S 39 3)) (ctlV S k)) (111)) (sAN S 39 1)) (sAN S 39 2)) (sx (sayS (sayS (ctS S k (decide (0 < sAN S 39 3)) (ctlV S k)) (111)) (sAN S 39 1)) (sx (sayS (ctS S k (decide (0 < sAN S 39 3)) (ctlV S k)) (111)) (sx (ctS S k (decide (0 < sAN S 39 3)) (ctlV S k)) (wh x (va_up (xh x) k u)) (111)) (sAN S 39 1)) (sAN S 39 2)) (sAN S 39 3)), d.set (xi x k) (IO (ctS S k (decide (0 < sAN S 39 3)) (ctlV S k)) (wh x (va_up (xh x) k u)) k), by rw [hs]; try rfl, by rw [hs]; exact (CR_say (CR_say (CR_say (CR_say CI (show sN S 40 + 0 < 41 by omega) (111)) (show sN S 40 + 1 < 41 by omega) (sAN S 39 1)) (show sN S 40 + 2 < 41 by omega) (sAN S 39 2)) (show sN S 40 + 3 < 41 by omega) (sAN S 39 3)), rfl, rfl, rfl⟩)
                · have hl : ¬ (sN S 38 - 1 = 3 + (if sAN S 39 3 = 3 then sAN S 10 k else 0)) := by rw [if_neg hz]; intro e; exact c99 (by rw [show sN S 38 - 1 - 3 = 0 by omega]; rfl)
                  have hs : sv47 S = (19, S) := by unfold sv47; rw [if_neg hs1, if_neg hn3, hF]; show (if _ then _ else _) = _; rw [if_neg (by rw [hT]; decide), if_neg hv, if_neg h3n, if_pos hl]
                  refine z_bipush (v := 19) F dX5_takeControl_102 rfl ?_
                  exact z_iret F hr dX5_takeControl_104 rfl (Nat.le_of_ble_eq_true rfl) (Nat.le_of_ble_eq_true rfl) (⟨by rw [hs]; try rfl, x, d, by rw [hs]; try rfl, by rw [hs]; exact C, rfl, rfl, rfl⟩)
              · have hz : sAN S 39 3 = 3 := (nI_eq (a := sAN S 39 3) (b := 3) (by have := R 3; omega) (by decide)).mp c88
                refine z_aload_n F dX5_takeControl_91 rfl rfl ?_
                refine z_getf F vF_X5_98 dX5_takeControl_92 hc rfl ?_
                refine z_goto (tgt := 99) F dX5_takeControl_95 (by decide) ?_
                refine z_icmp_eq (tgt := 105) F dX5_takeControl_99 (by decide) (fun c99 => ?_) (fun c99 => ?_)
                · have hl : (sN S 38 - 1 = 3 + (if sAN S 39 3 = 3 then sAN S 10 k else 0)) := by rw [if_pos hz]; have h9 := (nI_eq (a := sN S 38 - 1 - 3) (b := sAN S 10 k) (by omega) (by omega)).mp c99; omega
                  have hs : sv47 S = (0, sayS (sayS (sayS (sayS (ctS S k (decide (0 < sAN S 39 3)) (ctlV S k)) 111) (sAN S 39 1)) (sAN S 39 2)) (sAN S 39 3)) := by unfold sv47; rw [if_neg hs1, if_neg hn3, hF]; show (if _ then _ else _) = _; rw [if_neg (by rw [hT]; decide), if_neg hv, if_neg h3n, if_neg (not_not_intro hl)]; rfl
                  refine z_aload_n F dX5_takeControl_105 rfl rfl ?_
                  refine z_iload F dX5_takeControl_106 rfl ?_
                  refine z_aload_n F dX5_takeControl_108 rfl rfl ?_
                  refine z_callS F z_nwOK wL_good (c_X5_setControl Q C W hk (by omega) (fun _ => by rw [if_pos hz] at hl; exact hl)) vI_X5_setControl vM_X5_274 vS_X5_setControl rfl dX5_takeControl_109 rfl rfl (Nat.le_of_ble_eq_true rfl) ⟨(Nat.le_of_ble_eq_true rfl), (Nat.le_of_ble_eq_true rfl), (Nat.le_of_ble_eq_true rfl), (Nat.le_of_ble_eq_true rfl)⟩ (fun v h1 hq => ?_)
                  obtain ⟨rfl, u, rfl, hu⟩ := hq
                  have CI := CR_ct C hk (decide (0 < sAN S 39 3)) (ctlV S k) u hu
                  have hc2 := HPd (c := cfun (sayS (ctS S k (decide (0 < sAN S 39 3)) (ctlV S k)) 111) (sx (ctS S k (decide (0 < sAN S 39 3)) (ctlV S k)) (wh x (va_up (xh x) k u)) 111)) (m := m) (CI.1.1 k hk)
                  refine z_aload_n F dX5_takeControl_112 rfl rfl ?_
                  refine z_aload_n F dX5_takeControl_113 rfl rfl ?_
                  refine z_callV F z_nwOK wL_good (c_bR (b := 111) (QV_to (S' := ctS S k (decide (0 < sAN S 39 3)) (ctlV S k)) (x' := wh x (va_up (xh x) k u)) Q (by cases w <;> rfl) rfl rfl rfl) h0 (show sN S 40 + 0 < 41 by omega) (show sAN S 39 0 + 64 = 111 by omega)) cO_at rfl vI_X5_beginReply vM_X5_242 vV_X5_beginReply vL_X5_beginReply rfl dX5_takeControl_114 rfl rfl (Nat.le_of_ble_eq_true rfl) ⟨(Nat.le_of_ble_eq_true rfl), (Nat.le_of_ble_eq_true rfl), (Nat.le_of_ble_eq_true rfl), (Nat.le_of_ble_eq_true rfl)⟩ (fun v h1 hq => ?_)
                  obtain ⟨rfl, rfl⟩ := hq
                  refine z_aload_n F dX5_takeControl_117 rfl rfl ?_
                  refine z_getf F vF_X5_67 dX5_takeControl_118 cO_at rfl ?_
                  refine z_aload_n F dX5_takeControl_121 rfl rfl ?_
                  refine z_getf F vF_X5_166 dX5_takeControl_122 hc2 rfl ?_
                  rw [show sAI (ctS S k (decide (0 < sAN S 39 3)) (ctlV S k)) 9 k = nI (sAN S 39 1 * 256 + sAN S 39 2) from hid]
                  refine z_callV F z_nwOK wL_good (c_putW (a := sAN S 39 1) (b := sAN S 39 2) (R _) (R _) (show sN S 40 + 1 + 1 < 41 by omega)) cAn.1 rfl vI_X0_putWord vM_X5_265 vV_X0_putWord vL_X0_putWord rfl dX5_takeControl_125 rfl rfl (Nat.le_of_ble_eq_true rfl) ⟨(Nat.le_of_ble_eq_true rfl), (Nat.le_of_ble_eq_true rfl), (Nat.le_of_ble_eq_true rfl), (Nat.le_of_ble_eq_true rfl)⟩ (fun v h1 hq => ?_)
                  obtain ⟨rfl, rfl⟩ := hq
                  refine z_aload_n F dX5_takeControl_128 rfl rfl ?_
                  refine z_getf F vF_X5_67 dX5_takeControl_129 cO_at rfl ?_
                  refine z_iload F dX5_takeControl_132 rfl ?_
                  refine z_callV F z_nwOK wL_good (c_put (b := sAN S 39 3) (show sN S 40 + 3 < 41 by omega)) cAn.1 rfl vI_X0_put vM_X5_190 vV_X0_put vL_X0_put rfl dX5_takeControl_134 rfl rfl (Nat.le_of_ble_eq_true rfl) ⟨(Nat.le_of_ble_eq_true rfl), (Nat.le_of_ble_eq_true rfl), (Nat.le_of_ble_eq_true rfl), (Nat.le_of_ble_eq_true rfl)⟩ (fun v h1 hq => ?_)
                  obtain ⟨rfl, rfl⟩ := hq
                  refine z_iconst (v := 0) F dX5_takeControl_137 rfl ?_
                  exact z_iret F hr dX5_takeControl_138 rfl (Nat.le_of_ble_eq_true rfl) (Nat.le_of_ble_eq_true rfl) (⟨by rw [hs]; try rfl, (sx (sayS (sayS (sayS (ctS S k (decide (0 < sAN S 39 3)) (ctlV S k)) (111)) (sAN S 39 1)) (sAN S 39 2)) (sx (sayS (sayS (ctS S k (decide (0 < sAN S 39 3)) (ctlV S k)) (111)) (sAN S 39 1)) (sx (sayS (ctS S k (decide (0 < sAN S 39 3)) (ctlV S k)) (111)) (sx (ctS S k (decide (0 < sAN S 39 3)) (ctlV S k)) (wh x (va_up (xh x) k u)) (111)) (sAN S 39 1)) (sAN S 39 2)) (sAN S 39 3)), d.set (xi x k) (IO (ctS S k (decide (0 < sAN S 39 3)) (ctlV S k)) (wh x (va_up (xh x) k u)) k), by rw [hs]; try rfl, by rw [hs]; exact (CR_say (CR_say (CR_say (CR_say CI (show sN S 40 + 0 < 41 by omega) (111)) (show sN S 40 + 1 < 41 by omega) (sAN S 39 1)) (show sN S 40 + 2 < 41 by omega) (sAN S 39 2)) (show sN S 40 + 3 < 41 by omega) (sAN S 39 3)), rfl, rfl, rfl⟩)
                · have hl : ¬ (sN S 38 - 1 = 3 + (if sAN S 39 3 = 3 then sAN S 10 k else 0)) := by rw [if_pos hz]; intro e; exact c99 (by rw [show sN S 38 - 1 - 3 = sAN S 10 k by omega])
                  have hs : sv47 S = (19, S) := by unfold sv47; rw [if_neg hs1, if_neg hn3, hF]; show (if _ then _ else _) = _; rw [if_neg (by rw [hT]; decide), if_neg hv, if_neg h3n, if_pos hl]
                  refine z_bipush (v := 19) F dX5_takeControl_102 rfl ?_
                  exact z_iret F hr dX5_takeControl_104 rfl (Nat.le_of_ble_eq_true rfl) (Nat.le_of_ble_eq_true rfl) (⟨by rw [hs]; try rfl, x, d, by rw [hs]; try rfl, by rw [hs]; exact C, rfl, rfl, rfl⟩)
            · have h3n : 3 < sAN S 39 3 := by have h9 := z_b0.mp c76; rw [nI_toInt (by omega)] at h9; unfold inZ at h9; simp at h9; omega
              have hs : sv47 S = (49, S) := by unfold sv47; rw [if_neg hs1, if_neg hn3, hF]; show (if _ then _ else _) = _; rw [if_neg (by rw [hT]; decide), if_neg hv, if_pos h3n]
              refine z_bipush (v := 49) F dX5_takeControl_79 rfl ?_
              exact z_iret F hr dX5_takeControl_81 rfl (Nat.le_of_ble_eq_true rfl) (Nat.le_of_ble_eq_true rfl) (⟨by rw [hs]; try rfl, x, d, by rw [hs]; try rfl, by rw [hs]; exact C, rfl, rfl, rfl⟩)
          · have hv : sN S 2 < sAN S 12 k := Nat.lt_of_not_le (fun e => c56 ((nI_leI (a := sAN S 12 k) (b := sN S 2) (by have := V.2.2.2.2 k; omega) (by have := V.2.1; omega)).mpr e))
            have hs : sv47 S = (51, S) := by unfold sv47; rw [if_neg hs1, if_neg hn3, hF]; show (if _ then _ else _) = _; rw [if_neg (by rw [hT]; decide), if_pos hv]
            refine z_bipush (v := 51) F dX5_takeControl_59 rfl ?_
            exact z_iret F hr dX5_takeControl_61 rfl (Nat.le_of_ble_eq_true rfl) (Nat.le_of_ble_eq_true rfl) (⟨by rw [hs]; try rfl, x, d, by rw [hs]; try rfl, by rw [hs]; exact C, rfl, rfl, rfl⟩)
        · have hT : sAB S 17 k = true := z_b1 c42
          have hs : sv47 S = (49, S) := by unfold sv47; rw [if_neg hs1, if_neg hn3, hF]; exact if_pos hT
          refine z_bipush (v := 49) F dX5_takeControl_45 rfl ?_
          exact z_iret F hr dX5_takeControl_47 rfl (Nat.le_of_ble_eq_true rfl) (Nat.le_of_ble_eq_true rfl) (⟨by rw [hs]; try rfl, x, d, by rw [hs]; try rfl, by rw [hs]; exact C, rfl, rfl, rfl⟩)
    · have hn3 : sN S 38 - 1 < 3 := Nat.lt_of_not_le (fun e => c18 ((nI_ltI (a := 2) (b := sN S 38 - 1) (by decide) (by omega)).mpr (by omega)))
      have hs : sv47 S = (19, S) := by unfold sv47; rw [if_neg hs1, if_pos hn3]
      refine z_bipush (v := 19) F dX5_takeControl_21 rfl ?_
      exact z_iret F hr dX5_takeControl_23 rfl (Nat.le_of_ble_eq_true rfl) (Nat.le_of_ble_eq_true rfl) (⟨by rw [hs]; try rfl, x, d, by rw [hs]; try rfl, by rw [hs]; exact C, rfl, rfl, rfl⟩)
  · have hs1 : sN S 1 = 1 := (nI_eq (a := sN S 1) (b := 1) (by have := V.1; omega) (by decide)).mp c5
    have hs : sv47 S = (127, S) := if_pos hs1
    refine z_bipush (v := 127) F dX5_takeControl_8 rfl ?_
    exact z_iret F hr dX5_takeControl_10 rfl (Nat.le_of_ble_eq_true rfl) (Nat.le_of_ble_eq_true rfl) (⟨by rw [hs]; try rfl, x, d, by rw [hs]; try rfl, by rw [hs]; exact C, rfl, rfl, rfl⟩)
