set_option maxRecDepth 100000 in
set_option maxHeartbeats 1000000 in
theorem svK_16 {S : z_S} (hA : sN S 40 = 0) : svK S (sv16 S) := by
  unfold sv16
  repeat' split
  all_goals first | (refine ⟨rfl, rfl, rfl, Nat.le_of_ble_eq_true rfl, ?_⟩; first | (show sN S 40 ≤ 50; omega) | (show sN S 40 + 1 + 1 ≤ 50; omega) | (show sN S 40 + 1 + 1 + 1 ≤ 50; omega) | (show sN S 40 + 1 + 1 + 1 + 1 ≤ 50; omega) | (show sN S 40 + 1 + 1 + 1 + 1 + 1 ≤ 50; omega))

set_option maxRecDepth 100000 in
set_option maxHeartbeats 1000000 in
theorem svK_62 {S : z_S} (hA : sN S 40 = 0) : svK S (sv62 S) := by
  unfold sv62
  repeat' split
  all_goals first | (refine ⟨rfl, rfl, rfl, Nat.le_of_ble_eq_true rfl, ?_⟩; first | (show sN S 40 ≤ 50; omega) | (show sN S 40 + 1 + 1 ≤ 50; omega) | (show sN S 40 + 1 + 1 + 1 ≤ 50; omega) | (show sN S 40 + 1 + 1 + 1 + 1 ≤ 50; omega) | (show sN S 40 + 1 + 1 + 1 + 1 + 1 ≤ 50; omega))

set_option maxRecDepth 100000 in
set_option maxHeartbeats 1000000 in
theorem svK_17 {S : z_S} (hA : sN S 40 = 0) : svK S (sv17 S) := by
  unfold sv17
  repeat' split
  all_goals first | (refine ⟨rfl, rfl, rfl, Nat.le_of_ble_eq_true rfl, ?_⟩; first | (show sN S 40 ≤ 50; omega) | (show sN S 40 + 1 + 1 ≤ 50; omega) | (show sN S 40 + 1 + 1 + 1 ≤ 50; omega) | (show sN S 40 + 1 + 1 + 1 + 1 ≤ 50; omega) | (show sN S 40 + 1 + 1 + 1 + 1 + 1 ≤ 50; omega))

set_option maxRecDepth 100000 in
set_option maxHeartbeats 1000000 in
theorem svK_46 {S : z_S} (hA : sN S 40 = 0) : svK S (sv46 S) := by
  unfold sv46
  repeat' split
  all_goals first | (refine ⟨rfl, rfl, rfl, Nat.le_of_ble_eq_true rfl, ?_⟩; first | (show sN S 40 ≤ 50; omega) | (show sN S 40 + 1 + 1 ≤ 50; omega) | (show sN S 40 + 1 + 1 + 1 ≤ 50; omega) | (show sN S 40 + 1 + 1 + 1 + 1 ≤ 50; omega) | (show sN S 40 + 1 + 1 + 1 + 1 + 1 ≤ 50; omega))

set_option maxRecDepth 100000 in
set_option maxHeartbeats 1000000 in
theorem svK_47 {S : z_S} (hA : sN S 40 = 0) : svK S (sv47 S) := by
  unfold sv47
  repeat' split
  all_goals first | (refine ⟨rfl, rfl, rfl, Nat.le_of_ble_eq_true rfl, ?_⟩; first | (show sN S 40 ≤ 50; omega) | (show sN S 40 + 1 + 1 ≤ 50; omega) | (show sN S 40 + 1 + 1 + 1 ≤ 50; omega) | (show sN S 40 + 1 + 1 + 1 + 1 ≤ 50; omega) | (show sN S 40 + 1 + 1 + 1 + 1 + 1 ≤ 50; omega))

set_option maxRecDepth 100000 in
set_option maxHeartbeats 1000000 in
theorem svK_49 {S : z_S} (hA : sN S 40 = 0) : svK S (sv49 S) := by
  unfold sv49
  repeat' split
  all_goals first | (refine ⟨rfl, rfl, rfl, Nat.le_of_ble_eq_true rfl, ?_⟩; first | (show sN S 40 ≤ 50; omega) | (show sN S 40 + 1 + 1 ≤ 50; omega) | (show sN S 40 + 1 + 1 + 1 ≤ 50; omega) | (show sN S 40 + 1 + 1 + 1 + 1 ≤ 50; omega) | (show sN S 40 + 1 + 1 + 1 + 1 + 1 ≤ 50; omega))

set_option maxRecDepth 100000 in
set_option maxHeartbeats 1000000 in
theorem svK_52 {S : z_S} (hA : sN S 40 = 0) : svK S (sv52 S) := by
  unfold sv52
  repeat' split
  all_goals first | (refine ⟨rfl, rfl, rfl, Nat.le_of_ble_eq_true rfl, ?_⟩; first | (show sN S 40 ≤ 50; omega) | (show sN S 40 + 1 + 1 ≤ 50; omega) | (show sN S 40 + 1 + 1 + 1 ≤ 50; omega) | (show sN S 40 + 1 + 1 + 1 + 1 ≤ 50; omega) | (show sN S 40 + 1 + 1 + 1 + 1 + 1 ≤ 50; omega))

set_option maxRecDepth 100000 in
set_option maxHeartbeats 1000000 in
theorem svK_54 {S : z_S} (hA : sN S 40 = 0) : svK S (sv54 S) := by
  unfold sv54
  repeat' split
  all_goals first | (refine ⟨rfl, rfl, rfl, Nat.le_of_ble_eq_true rfl, ?_⟩; first | (show sN S 40 ≤ 50; omega) | (show sN S 40 + 1 + 1 ≤ 50; omega) | (show sN S 40 + 1 + 1 + 1 ≤ 50; omega) | (show sN S 40 + 1 + 1 + 1 + 1 ≤ 50; omega) | (show sN S 40 + 1 + 1 + 1 + 1 + 1 ≤ 50; omega))

set_option maxRecDepth 100000 in
set_option maxHeartbeats 1000000 in
theorem svK_55 {S : z_S} (hA : sN S 40 = 0) : svK S (sv55 S) := by
  unfold sv55
  repeat' split
  all_goals first | (refine ⟨rfl, rfl, rfl, Nat.le_of_ble_eq_true rfl, ?_⟩; first | (show sN S 40 ≤ 50; omega) | (show sN S 40 + 1 + 1 ≤ 50; omega) | (show sN S 40 + 1 + 1 + 1 ≤ 50; omega) | (show sN S 40 + 1 + 1 + 1 + 1 ≤ 50; omega) | (show sN S 40 + 1 + 1 + 1 + 1 + 1 ≤ 50; omega))

set_option maxRecDepth 100000 in
set_option maxHeartbeats 1000000 in
theorem svK_34 {S : z_S} (hA : sN S 40 = 0) (W : idsOK S) : svK S (sv34 S) := by
  unfold sv34
  split
  · exact ⟨rfl, rfl, rfl, show 19 < 128 by decide, show sN S 40 ≤ 50 by omega⟩
  · rename_i hn
    split
    · exact ⟨rfl, rfl, rfl, show 49 < 128 by decide, show sN S 40 ≤ 50 by omega⟩
    · split
      · exact ⟨rfl, rfl, rfl, show 51 < 128 by decide, show sN S 40 ≤ 50 by omega⟩
      · have := rdA_len W ((sN S 38 - 1) / 2)
        exact ⟨rfl, rfl, rfl, show 0 < 128 by decide, show (rdA S ((sN S 38 - 1) / 2)).1 ≤ 50 by omega⟩
theorem svK_d {S : z_S} (hA : sN S 40 = 0) (W : idsOK S) : svK S (svd S) := by
  unfold svd
  repeat' split
  · exact svK_16 hA
  · exact svK_17 hA
  · exact svK_34 hA W
  · exact svK_46 hA
  · exact svK_47 hA
  · exact svK_49 hA
  · exact svK_52 hA
  · exact svK_54 hA
  · exact svK_55 hA
  · exact svK_62 hA
  · exact ⟨rfl, rfl, rfl, show 17 < 128 by decide, show sN S 40 ≤ 50 by omega⟩
theorem svK_lk {S : z_S} (W : idsOK S) : svK S (lkR S) := by
  unfold lkR
  split
  · exact ⟨rfl, rfl, rfl, show 19 < 128 by decide, show 0 ≤ 50 by decide⟩
  · exact svK_d (S := lk0 S) rfl W

set_option maxRecDepth 100000 in
set_option maxHeartbeats 1000000 in
theorem c_X6_looked {c : Nat → z_E} {S : z_S} {o : Nat → Int64} {d : z_H} (R : rowOK S) (W : idsOK S) (V : numsOK S) (hM : sN S 38 ≤ 60) (U : trOK S) (Y : rtsOK S) : z_K yX6_looked cX6_looked 4 (some .int) 4 0 0 [.ref 11] (HP c (mfun S o) d) (fun v h' => v = some (.int (nI (sN (lkS S) 40))) ∧ h' = (HP c (mfun (lkS S) o) d)) := by
  refine z_met vI_X6_looked (Nat.le_of_ble_eq_true rfl) (fun G X F hr hnm => ?_)
  refine z_aload_n F dX6_looked_0 rfl rfl ?_
  refine z_aload_n F dX6_looked_1 rfl rfl ?_
  refine z_getf F vF_X6_192 dX6_looked_2 mO_at rfl ?_
  refine z_putf F vF_X6_196 vT_X6 vD_X6_4 dX6_looked_5 mO_at (Nat.le_of_ble_eq_true rfl) rfl rfl (fun g5 => ?_)
  refine z_heap _ (ms_4) ?_
  refine z_aload_n F dX6_looked_8 rfl rfl ?_
  refine z_iconst (v := 0) F dX6_looked_9 rfl ?_
  refine z_putf F vF_X6_128 vT_X6 vD_X6_40 dX6_looked_10 mO_at (Nat.le_of_ble_eq_true rfl) rfl rfl (fun g10 => ?_)
  refine z_heap _ (ms_40 (v := 0)) ?_
  refine z_aload_n F dX6_looked_13 rfl rfl ?_
  refine z_getf F vF_X6_138 dX6_looked_14 mO_at rfl ?_
  refine z_if_ne (tgt := 24) F dX6_looked_17 (by decide) (fun c17 => ?_) (fun c17 => ?_)
  · have h0 : ¬ sN S 38 = 0 := fun e => c17 (by show nI (sN S 38) = 0; rw [e]; rfl)
    have hV : lkV S = sAN S 39 0 := if_neg h0
    have hq : lkR S = svd (lk0 S) := if_neg h0
    have K := svK_lk W
    refine z_aload_n F dX6_looked_24 rfl rfl ?_
    refine z_getf F vF_X6_74 dX6_looked_25 mO_at rfl ?_
    refine z_iconst (v := 0) F dX6_looked_28 rfl ?_
    refine z_iald (j := 0) F dX6_looked_29 mA_39 rfl rfl (show 0 < 60 by decide) (Nat.le_of_ble_eq_true rfl) ?_
    refine z_istore_n F dX6_looked_30 (Nat.le_of_ble_eq_true rfl) ?_
    refine z_aload_n F dX6_looked_31 rfl rfl ?_
    refine z_getf F vF_X6_138 dX6_looked_32 mO_at rfl ?_
    refine z_if_ne (tgt := 43) F dX6_looked_35 (by decide) (fun c35 => ?_) (fun c35 => absurd c35 c17)
    refine z_aload_n F dX6_looked_43 rfl rfl ?_
    refine z_callV F z_nwOK wL_good (c_X6_served (S := lk0 S) R W V hM (show 1 ≤ sN S 38 by omega) rfl U Y) mO_at rfl vI_X6_served vM_X6_199 vV_X6_served vL_X6_served rfl dX6_looked_44 rfl rfl (Nat.le_of_ble_eq_true rfl) ⟨(Nat.le_of_ble_eq_true rfl), (Nat.le_of_ble_eq_true rfl), (Nat.le_of_ble_eq_true rfl), (Nat.le_of_ble_eq_true rfl)⟩ (fun v h1 hq => ?_)
    obtain ⟨rfl, rfl⟩ := hq
    have ht := t_X6_looked (c := c) (o := o) (d := d) (q := (lkR S).1) (T := (lkR S).2) K rfl R hM F hr
    rw [hV, hq] at ht
    exact ht
  · have h0 : sN S 38 = 0 := (nI_eq (b := 0) (by omega) (by decide)).mp c17
    have hV : lkV S = 0 := if_pos h0
    have hq : lkR S = (19, lk0 S) := if_pos h0
    have K := svK_lk W
    rw [hq] at K
    refine z_iconst (v := 0) F dX6_looked_20 rfl ?_
    refine z_goto (tgt := 30) F dX6_looked_21 (by decide) ?_
    refine z_istore_n F dX6_looked_30 (Nat.le_of_ble_eq_true rfl) ?_
    refine z_aload_n F dX6_looked_31 rfl rfl ?_
    refine z_getf F vF_X6_138 dX6_looked_32 mO_at rfl ?_
    refine z_if_ne (tgt := 43) F dX6_looked_35 (by decide) (fun c35 => absurd c17 c35) (fun c35 => ?_)
    refine z_bipush (v := 19) F dX6_looked_38 rfl ?_
    refine z_goto (tgt := 47) F dX6_looked_40 (by decide) ?_
    have ht := t_X6_looked (c := c) (o := o) (d := d) K hq R hM F hr
    rw [hV] at ht
    exact ht

def sp_answer (S : z_S) (i : Int32) : Option Nat := if inZ i.toInt 0 ((sN S 40 : Int) - 1) = true then some (tn i) else none
theorem nI_b8 {x : Nat} : (nI x).toInt8.toInt32.toInt8.toInt32 = (nI x).toInt8.toInt32 := z_b8 _

set_option maxRecDepth 100000 in
set_option maxHeartbeats 1000000 in
theorem c_X6_answer_y {c : Nat → z_E} {S : z_S} {o : Nat → Int64} {d : z_H} {j : Nat} (hj : j < sN S 40) (h1000 : sN S 40 ≤ 1000) : z_K yX6_answer cX6_answer 2 (some .byte) 0 0 0 [.ref 11, .int (nI j)] (HP c (mfun S o) d) (fun v h' => v = some (.int (nI (sAN S 41 j)).toInt8.toInt32) ∧ h' = (HP c (mfun (uN S 0 0) o) d)) := by
  refine z_met vI_X6_answer (Nat.le_of_ble_eq_true rfl) (fun G X F hr hnm => ?_)
  refine z_aload_n F dX6_answer_0 rfl rfl ?_
  refine z_iload_n F dX6_answer_1 rfl ?_
  refine z_if_lt (tgt := 13) F dX6_answer_2 (by decide) (fun c2 => absurd c2 (nI_pos (by omega))) (fun c2 => ?_)
  refine z_iload_n F dX6_answer_5 rfl ?_
  refine z_aload_n F dX6_answer_6 rfl rfl ?_
  refine z_getf F vF_X6_128 dX6_answer_7 mO_at rfl ?_
  refine z_icmp_lt (tgt := 17) F dX6_answer_10 (by decide) (fun c10 => ?_) (fun c10 => absurd (nI_lt hj (by omega)) c10)
  refine z_iconst (v := 0) F dX6_answer_17 rfl ?_
  refine z_putf F vF_X6_83 vT_X6 vD_X6_0 dX6_answer_18 mO_at (Nat.le_of_ble_eq_true rfl) rfl rfl (fun g18 => ?_)
  refine z_heap _ (ms_0 (v := 0)) ?_
  refine z_aload_n F dX6_answer_21 rfl rfl ?_
  refine z_getf F vF_X6_83 dX6_answer_22 mO_at rfl ?_
  refine z_if_le (tgt := 32) F dX6_answer_25 (by decide) (fun c25 => ?_) (fun c25 => absurd (show nI 0 ≤ 0 by decide) c25)
  refine z_aload_n F dX6_answer_32 rfl rfl ?_
  refine z_getf F vF_X6_77 dX6_answer_33 mO_at rfl ?_
  refine z_iload_n F dX6_answer_36 rfl ?_
  refine z_iald (j := j) F dX6_answer_37 mA_41 rfl rfl (show j < 1000 by omega) (Nat.le_of_ble_eq_true rfl) ?_
  refine z_i2b F dX6_answer_38 ?_
  exact z_iret F hr dX6_answer_39 (congrArg Value.int (z_b8 _)) (Nat.le_of_ble_eq_true rfl) (Nat.le_of_ble_eq_true rfl) (⟨rfl, rfl⟩)

set_option maxRecDepth 100000 in
set_option maxHeartbeats 1000000 in
theorem c_X6_answer_n {c : Nat → z_E} {S : z_S} {o : Nat → Int64} {d : z_H} {i : Int32} (hi : ¬ i < 0 → ¬ nI (sN S 40) ≤ i → False) : z_K yX6_answer cX6_answer 2 (some .byte) 0 0 0 [.ref 11, .int i] (HP c (mfun S o) d) (fun v h' => v = some (.int 0) ∧ h' = (HP c (mfun (uN S 0 1) o) d)) := by
  refine z_met vI_X6_answer (Nat.le_of_ble_eq_true rfl) (fun G X F hr hnm => ?_)
  refine z_aload_n F dX6_answer_0 rfl rfl ?_
  refine z_iload_n F dX6_answer_1 rfl ?_
  refine z_if_lt (tgt := 13) F dX6_answer_2 (by decide) (fun c2 => ?_) (fun c2 => ?_)
  · refine z_iconst (v := 1) F dX6_answer_13 rfl ?_
    refine z_goto (tgt := 18) F dX6_answer_14 (by decide) ?_
    refine z_putf F vF_X6_83 vT_X6 vD_X6_0 dX6_answer_18 mO_at (Nat.le_of_ble_eq_true rfl) rfl rfl (fun g18 => ?_)
    refine z_heap _ (ms_0 (v := 1)) ?_
    refine z_aload_n F dX6_answer_21 rfl rfl ?_
    refine z_getf F vF_X6_83 dX6_answer_22 mO_at rfl ?_
    refine z_if_le (tgt := 32) F dX6_answer_25 (by decide) (fun c25 => absurd (show nI 1 ≤ 0 from c25) (by decide)) (fun c25 => ?_)
    refine z_iconst (v := 0) F dX6_answer_28 rfl ?_
    refine z_goto (tgt := 39) F dX6_answer_29 (by decide) ?_
    exact z_iret F hr dX6_answer_39 rfl (Nat.le_of_ble_eq_true rfl) (Nat.le_of_ble_eq_true rfl) (⟨rfl, rfl⟩)
  · refine z_iload_n F dX6_answer_5 rfl ?_
    refine z_aload_n F dX6_answer_6 rfl rfl ?_
    refine z_getf F vF_X6_128 dX6_answer_7 mO_at rfl ?_
    refine z_icmp_lt (tgt := 17) F dX6_answer_10 (by decide) (fun c10 => absurd (hi c2 (k2_nle c10)) id) (fun c10 => ?_)
    refine z_iconst (v := 1) F dX6_answer_13 rfl ?_
    refine z_goto (tgt := 18) F dX6_answer_14 (by decide) ?_
    refine z_putf F vF_X6_83 vT_X6 vD_X6_0 dX6_answer_18 mO_at (Nat.le_of_ble_eq_true rfl) rfl rfl (fun g18 => ?_)
    refine z_heap _ (ms_0 (v := 1)) ?_
    refine z_aload_n F dX6_answer_21 rfl rfl ?_
    refine z_getf F vF_X6_83 dX6_answer_22 mO_at rfl ?_
    refine z_if_le (tgt := 32) F dX6_answer_25 (by decide) (fun c25 => absurd (show nI 1 ≤ 0 from c25) (by decide)) (fun c25 => ?_)
    refine z_iconst (v := 0) F dX6_answer_28 rfl ?_
    refine z_goto (tgt := 39) F dX6_answer_29 (by decide) ?_
    exact z_iret F hr dX6_answer_39 rfl (Nat.le_of_ble_eq_true rfl) (Nat.le_of_ble_eq_true rfl) (⟨rfl, rfl⟩)

def tkN (S : z_S) (i k : Nat) : Nat := if k < i then (if sAB S 23 k then sAN S 24 k - 1 else sAN S 24 k) else sAN S 24 k
def tkS (S : z_S) (i : Nat) : z_S := uAN S 24 (tkN S i)
theorem tkN_step (S : z_S) (i v : Nat) (hv : v = (if sAB S 23 i then sAN S 24 i - 1 else sAN S 24 i)) : va_up (tkN S i) i v = tkN S (i + 1) := by
  funext k
  unfold va_up tkN
  by_cases h : k = i
  · subst h; simp [hv]
  · by_cases h2 : k < i
    · have h3 : k < i + 1 := by omega
      simp [h, h2, h3]
    · have h3 : ¬ k < i + 1 := by omega
      simp [h, h2, h3]
def tkO (S : z_S) (t : Int64) : Bool := decide (¬ sN S 1 = 1) && decide (5000 ≤ t - sL S 4)
def tk1 (S : z_S) (t : Int64) : z_S := if tkO S t = true then endS (uL (uN S 0 0) 3 t) 1 else uL (uN S 0 0) 3 t
def sp_tick (S : z_S) (t : Int64) : Int32 × z_S := if (t < sL S 3 ∨ 1152921504606846976 < t) then (-2, uN S 0 0) else (z_b (tkO S t), tkS (tk1 S t) (sN S 20))

set_option maxRecDepth 100000 in
set_option maxHeartbeats 1000000 in
theorem l_X6_tick {c : Nat → z_E} {o : Nat → Int64} {d : z_H} {D : z_S} {b : Bool} {t : Int64} (Y : rtsOK D) {Q' : Option Value → z_H → Prop} (hq : Q' (some (.int (z_b b))) (HP c (mfun (tkS D (sN D 20)) o) d)) {G : z_G} {X : z_X} (F : z_F vwCl z_ats z_nw wsL_law G RX6 cX6_tick 5 (z_rm 1 0 0) X) (hr : X.2.2.2.2.2.2.2.2.1.sig.returnType = some .int) :
    ∀ (m i : Nat), i + m = sN D 20 → z_V vwCl G 5 X (z_end vwCl z_ats z_nw G X 0 0 Q') 0 0 69 [(0, .ref 11), (1, .long t), (3, .int (z_b b)), (4, .int (nI i))] [] (HP c (mfun (tkS D i) o) d) := by
  intro m
  induction m with
  | zero =>
    intro i hi
    obtain rfl : i = sN D 20 := by omega
    have y1 := Y.1
    refine z_iload F dX6_tick_69 rfl ?_
    refine z_aload_n F dX6_tick_71 rfl rfl ?_
    refine z_getf F vF_X6_109 dX6_tick_72 mO_at rfl ?_
    refine z_icmp_ge (tgt := 130) F dX6_tick_75 (by decide) (fun c75 => ?_) (fun c75 => absurd (nI_le (a := sN D 20) (Nat.le_refl _) (by omega)) c75)
    refine z_iload_n F dX6_tick_130 rfl ?_
    refine z_if_eq (tgt := 138) F dX6_tick_131 (by decide) (fun c131 => ?_) (fun c131 => ?_)
    · have hb := z_b0.mp c131
      subst hb
      refine z_iconst (v := 0) F dX6_tick_138 rfl ?_
      exact z_iret F hr dX6_tick_139 rfl (Nat.le_of_ble_eq_true rfl) (Nat.le_of_ble_eq_true rfl) (hq)
    · have hb := z_b1 c131
      subst hb
      refine z_iconst (v := 1) F dX6_tick_134 rfl ?_
      refine z_goto (tgt := 139) F dX6_tick_135 (by decide) ?_
      exact z_iret F hr dX6_tick_139 rfl (Nat.le_of_ble_eq_true rfl) (Nat.le_of_ble_eq_true rfl) (hq)
  | succ m ih =>
    intro i hi
    have y1 := Y.1
    have hy : tkN D i i = sAN D 24 i := by unfold tkN; simp
    have y3 := Y.2.2.1 i
    refine z_iload F dX6_tick_69 rfl ?_
    refine z_aload_n F dX6_tick_71 rfl rfl ?_
    refine z_getf F vF_X6_109 dX6_tick_72 mO_at rfl ?_
    refine z_icmp_ge (tgt := 130) F dX6_tick_75 (by decide) (fun c75 => absurd c75 (nI_ge (a := i) (b := sN D 20) (by omega) (by omega))) (fun c75 => ?_)
    refine z_aload_n F dX6_tick_78 rfl rfl ?_
    refine z_getf F vF_X6_65 dX6_tick_79 mO_at rfl ?_
    refine z_iload F dX6_tick_82 rfl ?_
    refine z_aload_n F dX6_tick_84 rfl rfl ?_
    refine z_getf F vF_X6_62 dX6_tick_85 mO_at rfl ?_
    refine z_iload F dX6_tick_88 rfl ?_
    refine z_zald (j := i) F dX6_tick_90 mA_23 rfl rfl (show i < 10 by omega) (Nat.le_of_ble_eq_true rfl) ?_
    refine z_if_eq (tgt := 116) F dX6_tick_91 (by decide) (fun c91 => ?_) (fun c91 => ?_)
    · have hv : tkN D i i = (if sAB D 23 i then sAN D 24 i - 1 else sAN D 24 i) := by rw [show sAB D 23 i = false from z_b0.mp c91]; exact hy
      refine z_aload_n F dX6_tick_116 rfl rfl ?_
      refine z_getf F vF_X6_65 dX6_tick_117 mO_at rfl ?_
      refine z_iload F dX6_tick_120 rfl ?_
      refine z_iald (j := i) F dX6_tick_122 mA_24 rfl rfl (show i < 10 by omega) (Nat.le_of_ble_eq_true rfl) ?_
      refine z_iast (j := i) F dX6_tick_123 mA_24 rfl rfl (show i < 10 by omega) (Nat.le_of_ble_eq_true rfl) ?_
      refine z_heap _ (ma_24) ?_
      refine z_iinc (w := 1) F dX6_tick_124 rfl rfl (Nat.le_of_ble_eq_true rfl) ?_
      rw [nI_1]
      refine z_goto (tgt := 69) F dX6_tick_127 (by decide) ?_
      refine z_heap _ (z_hS (S2 := tkS D (i + 1)) (by show uAN (uAN D 24 (tkN D i)) 24 (va_up (tkN D i) i (tkN D i i)) = _; rw [tkN_step D i _ (hv), uAN_again]; rfl)) ?_
      exact ih (i + 1) (by omega)
    · have hb : sAB D 23 i = true := z_b1 c91
      refine z_aload_n F dX6_tick_94 rfl rfl ?_
      refine z_getf F vF_X6_65 dX6_tick_95 mO_at rfl ?_
      refine z_iload F dX6_tick_98 rfl ?_
      refine z_iald (j := i) F dX6_tick_100 mA_24 rfl rfl (show i < 10 by omega) (Nat.le_of_ble_eq_true rfl) ?_
      refine z_if_le (tgt := 116) F dX6_tick_101 (by decide) (fun c101 => ?_) (fun c101 => ?_)
      · have hv : tkN D i i = (if sAB D 23 i then sAN D 24 i - 1 else sAN D 24 i) := by have h9 := (nI_leI (a := tkN D i i) (b := 0) (by omega) (by decide)).mp c101; rw [hb]; simp; omega
        refine z_aload_n F dX6_tick_116 rfl rfl ?_
        refine z_getf F vF_X6_65 dX6_tick_117 mO_at rfl ?_
        refine z_iload F dX6_tick_120 rfl ?_
        refine z_iald (j := i) F dX6_tick_122 mA_24 rfl rfl (show i < 10 by omega) (Nat.le_of_ble_eq_true rfl) ?_
        refine z_iast (j := i) F dX6_tick_123 mA_24 rfl rfl (show i < 10 by omega) (Nat.le_of_ble_eq_true rfl) ?_
        refine z_heap _ (ma_24) ?_
        refine z_iinc (w := 1) F dX6_tick_124 rfl rfl (Nat.le_of_ble_eq_true rfl) ?_
        rw [nI_1]
        refine z_goto (tgt := 69) F dX6_tick_127 (by decide) ?_
        refine z_heap _ (z_hS (S2 := tkS D (i + 1)) (by show uAN (uAN D 24 (tkN D i)) 24 (va_up (tkN D i) i (tkN D i i)) = _; rw [tkN_step D i _ (hv), uAN_again]; rfl)) ?_
        exact ih (i + 1) (by omega)
      · have h9 : 0 < tkN D i i := by have := mt (nI_leI (a := tkN D i i) (b := 0) (by omega) (by decide)).mpr c101; omega
        have hv : tkN D i i - 1 = (if sAB D 23 i then sAN D 24 i - 1 else sAN D 24 i) := by rw [hb, hy]; rfl
        refine z_aload_n F dX6_tick_104 rfl rfl ?_
        refine z_getf F vF_X6_65 dX6_tick_105 mO_at rfl ?_
        refine z_iload F dX6_tick_108 rfl ?_
        refine z_iald (j := i) F dX6_tick_110 mA_24 rfl rfl (show i < 10 by omega) (Nat.le_of_ble_eq_true rfl) ?_
        refine z_iconst (v := 1) F dX6_tick_111 rfl ?_
        refine z_isub F dX6_tick_112 ?_
        rw [show nI (sAN (tkS D i) 24 i) - 1 = nI (tkN D i i - 1) from pk_sub (a := tkN D i i) (b := 1) h9]
        refine z_goto (tgt := 123) F dX6_tick_113 (by decide) ?_
        refine z_iast (j := i) F dX6_tick_123 mA_24 rfl rfl (show i < 10 by omega) (Nat.le_of_ble_eq_true rfl) ?_
        refine z_heap _ (ma_24) ?_
        refine z_iinc (w := 1) F dX6_tick_124 rfl rfl (Nat.le_of_ble_eq_true rfl) ?_
        rw [nI_1]
        refine z_goto (tgt := 69) F dX6_tick_127 (by decide) ?_
        refine z_heap _ (z_hS (S2 := tkS D (i + 1)) (by show uAN (uAN D 24 (tkN D i)) 24 (va_up (tkN D i) i (tkN D i i - 1)) = _; rw [tkN_step D i _ (hv), uAN_again]; rfl)) ?_
        exact ih (i + 1) (by omega)

set_option maxRecDepth 100000 in
set_option maxHeartbeats 1000000 in
theorem c_X6_tick {c : Nat → z_E} {S : z_S} {o : Nat → Int64} {d : z_H} (t : Int64) (W : idsOK S) (V : numsOK S) (Y : rtsOK S) : z_K yX6_tick cX6_tick 5 (some .int) 1 0 0 [.ref 11, .long t] (HP c (mfun S o) d) (fun v h' => v = some (.int (sp_tick S t).1) ∧ h' = (HP c (mfun ((sp_tick S t).2) o) d)) := by
  refine z_met vI_X6_tick (Nat.le_of_ble_eq_true rfl) (fun G X F hr hnm => ?_)
  refine z_aload_n F dX6_tick_0 rfl rfl ?_
  refine z_iconst (v := 0) F dX6_tick_1 rfl ?_
  refine z_putf F vF_X6_83 vT_X6 vD_X6_0 dX6_tick_2 mO_at (Nat.le_of_ble_eq_true rfl) rfl rfl (fun g2 => ?_)
  refine z_heap _ (ms_0 (v := 0)) ?_
  refine z_lload_n F dX6_tick_5 rfl ?_
  refine z_aload_n F dX6_tick_6 rfl rfl ?_
  refine z_getf F vF_X6_192 dX6_tick_7 mO_at rfl ?_
  refine z_lcmp F dX6_tick_10 ?_
  refine z_if_lt (tgt := 22) F dX6_tick_11 (by decide) (fun c11 => ?_) (fun c11 => ?_)
  · have hs : sp_tick S t = (-2, uN S 0 0) := if_pos (Or.inl ((lg_cmp_lt _ _).mp c11))
    refine z_bipush (v := (-2)) F dX6_tick_22 rfl ?_
    exact z_iret F hr dX6_tick_24 rfl (Nat.le_of_ble_eq_true rfl) (Nat.le_of_ble_eq_true rfl) (⟨by rw [hs]; try rfl, by rw [hs]; try rfl⟩)
  · refine z_lload_n F dX6_tick_14 rfl ?_
    refine z_ldc2 F vK_X6_221 dX6_tick_15 ?_
    refine z_lcmp F dX6_tick_18 ?_
    refine z_if_le (tgt := 25) F dX6_tick_19 (by decide) (fun c19 => ?_) (fun c19 => ?_)
    · have hs : sp_tick S t = (z_b (tkO S t), tkS (tk1 S t) (sN S 20)) := if_neg (fun e => e.elim (fun q => c11 ((lg_cmp_lt _ _).mpr q)) (fun q => absurd ((lg_cmp_le _ _).mp c19) (by simp only [Int64.le_iff_toInt_le, Int64.lt_iff_toInt_lt] at q ⊢; omega)))
      refine z_aload_n F dX6_tick_25 rfl rfl ?_
      refine z_lload_n F dX6_tick_26 rfl ?_
      refine z_putf F vF_X6_192 vT_X6 vD_X6_3 dX6_tick_27 mO_at (Nat.le_of_ble_eq_true rfl) rfl rfl (fun g27 => ?_)
      refine z_heap _ (ms_3) ?_
      refine z_aload_n F dX6_tick_30 rfl rfl ?_
      refine z_getf F vF_X6_7 dX6_tick_31 mO_at rfl ?_
      refine z_iconst (v := 1) F dX6_tick_34 rfl ?_
      refine z_icmp_eq (tgt := 55) F dX6_tick_35 (by decide) (fun c35 => ?_) (fun c35 => ?_)
      · have hO : tkO S t = false := by unfold tkO; rw [decide_eq_false (p := ¬ sN S 1 = 1) (not_not_intro ((nI_eq (b := 1) (by have := V.1; omega) (by decide)).mp c35))]; rfl
        have h1 : tk1 S t = uL (uN S 0 0) 3 t := if_neg (by rw [hO]; decide)
        rw [hO, h1] at hs
        refine z_iconst (v := 0) F dX6_tick_55 rfl ?_
        refine z_istore_n F dX6_tick_56 (Nat.le_of_ble_eq_true rfl) ?_
        refine z_iload_n F dX6_tick_57 rfl ?_
        refine z_if_eq (tgt := 66) F dX6_tick_58 (by decide) (fun c58 => ?_) (fun c58 => absurd (by decide) c58)
        refine z_iconst (v := 0) F dX6_tick_66 rfl ?_
        refine z_istore F dX6_tick_67 (Nat.le_of_ble_eq_true rfl) ?_
        refine z_heap _ (z_hS (S2 := tkS (uL (uN S 0 0) 3 t) 0) (by unfold tkS; rw [show tkN (uL (uN S 0 0) 3 t) 0 = sAN (uL (uN S 0 0) 3 t) 24 from by funext k; simp [tkN]]; exact (uAN_same _ 24).symm)) ?_
        exact l_X6_tick (D := uL (uN S 0 0) 3 t) (b := false) Y ⟨by rw [hs], by rw [hs]; rfl⟩ F hr (sN S 20) 0 (by show 0 + sN S 20 = sN S 20; omega)
      · refine z_lload_n F dX6_tick_38 rfl ?_
        refine z_aload_n F dX6_tick_39 rfl rfl ?_
        refine z_getf F vF_X6_196 dX6_tick_40 mO_at rfl ?_
        refine z_lsub F dX6_tick_43 ?_
        refine z_ldc2 F vK_X6_223 dX6_tick_44 ?_
        refine z_lcmp F dX6_tick_47 ?_
        refine z_if_lt (tgt := 55) F dX6_tick_48 (by decide) (fun c48 => ?_) (fun c48 => ?_)
        · have hO : tkO S t = false := by unfold tkO; rw [decide_eq_false (p := 5000 ≤ t - sL S 4) (by have h9 := (lg_cmp_lt _ _).mp c48; intro q; simp only [Int64.le_iff_toInt_le, Int64.lt_iff_toInt_lt] at q h9; exact absurd q (Int.not_le.mpr h9))]; simp
          have h1 : tk1 S t = uL (uN S 0 0) 3 t := if_neg (by rw [hO]; decide)
          rw [hO, h1] at hs
          refine z_iconst (v := 0) F dX6_tick_55 rfl ?_
          refine z_istore_n F dX6_tick_56 (Nat.le_of_ble_eq_true rfl) ?_
          refine z_iload_n F dX6_tick_57 rfl ?_
          refine z_if_eq (tgt := 66) F dX6_tick_58 (by decide) (fun c58 => ?_) (fun c58 => absurd (by decide) c58)
          refine z_iconst (v := 0) F dX6_tick_66 rfl ?_
          refine z_istore F dX6_tick_67 (Nat.le_of_ble_eq_true rfl) ?_
          refine z_heap _ (z_hS (S2 := tkS (uL (uN S 0 0) 3 t) 0) (by unfold tkS; rw [show tkN (uL (uN S 0 0) 3 t) 0 = sAN (uL (uN S 0 0) 3 t) 24 from by funext k; simp [tkN]]; exact (uAN_same _ 24).symm)) ?_
          exact l_X6_tick (D := uL (uN S 0 0) 3 t) (b := false) Y ⟨by rw [hs], by rw [hs]; rfl⟩ F hr (sN S 20) 0 (by show 0 + sN S 20 = sN S 20; omega)
        · have hO : tkO S t = true := by unfold tkO; rw [decide_eq_true (p := ¬ sN S 1 = 1) (fun e => c35 (by show nI (sN S 1) = 1; rw [e]; rfl)), decide_eq_true (p := 5000 ≤ t - sL S 4) (by have h9 := mt (lg_cmp_lt _ _).mpr c48; simp only [Int64.le_iff_toInt_le, Int64.lt_iff_toInt_lt] at h9 ⊢; exact Int.not_lt.mp h9)]; rfl
          have h1 : tk1 S t = endS (uL (uN S 0 0) 3 t) 1 := if_pos hO
          rw [hO, h1] at hs
          refine z_iconst (v := 1) F dX6_tick_51 rfl ?_
          refine z_goto (tgt := 56) F dX6_tick_52 (by decide) ?_
          refine z_istore_n F dX6_tick_56 (Nat.le_of_ble_eq_true rfl) ?_
          refine z_iload_n F dX6_tick_57 rfl ?_
          refine z_if_eq (tgt := 66) F dX6_tick_58 (by decide) (fun c58 => absurd c58 (by decide)) (fun c58 => ?_)
          refine z_aload_n F dX6_tick_61 rfl rfl ?_
          refine z_iconst (v := 1) F dX6_tick_62 rfl ?_
          refine z_callV F z_nwOK wL_good (c_X6_ends (S := uL (uN S 0 0) 3 t) (f := 1) W.1) mO_at rfl vI_X6_ends vM_X6_141 vV_X6_ends vL_X6_ends rfl dX6_tick_63 rfl rfl (Nat.le_of_ble_eq_true rfl) ⟨(Nat.le_of_ble_eq_true rfl), (Nat.le_of_ble_eq_true rfl), (Nat.le_of_ble_eq_true rfl), (Nat.le_of_ble_eq_true rfl)⟩ (fun v h1 hq => ?_)
          obtain ⟨rfl, rfl⟩ := hq
          refine z_iconst (v := 0) F dX6_tick_66 rfl ?_
          refine z_istore F dX6_tick_67 (Nat.le_of_ble_eq_true rfl) ?_
          refine z_heap _ (z_hS (S2 := tkS (endS (uL (uN S 0 0) 3 t) 1) 0) (by unfold tkS; rw [show tkN (endS (uL (uN S 0 0) 3 t) 1) 0 = sAN (endS (uL (uN S 0 0) 3 t) 1) 24 from by funext k; simp [tkN]]; exact (uAN_same _ 24).symm)) ?_
          exact l_X6_tick (D := endS (uL (uN S 0 0) 3 t) 1) (b := true) Y ⟨by rw [hs], by rw [hs]; rfl⟩ F hr (sN S 20) 0 (by show 0 + sN S 20 = sN S 20; omega)
    · have hs : sp_tick S t = (-2, uN S 0 0) := if_pos (Or.inr (by have h9 := mt (lg_cmp_le _ _).mpr c19; simp only [Int64.le_iff_toInt_le, Int64.lt_iff_toInt_lt] at h9 ⊢; exact Int.not_le.mp h9))
      refine z_bipush (v := (-2)) F dX6_tick_22 rfl ?_
      exact z_iret F hr dX6_tick_24 rfl (Nat.le_of_ble_eq_true rfl) (Nat.le_of_ble_eq_true rfl) (⟨by rw [hs]; try rfl, by rw [hs]; try rfl⟩)
