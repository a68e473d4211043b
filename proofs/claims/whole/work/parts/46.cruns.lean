/-- no two routines have one number -/
def rtU (S : z_S) : Prop := ∀ i j, i < sN S 20 → j < sN S 20 → sAI S 21 i = sAI S 21 j → i = j
theorem lst_fnd {f : Nat → Int32} {y : Int32} : ∀ {n : Nat}, (∀ i j, i < n → j < n → f i = f j → i = j) → lst f y n = fnd f y n
  | 0, _ => rfl
  | n + 1, hu => by
    have ih := lst_fnd (f := f) (y := y) (n := n) (fun i j hi hj => hu i j (by omega) (by omega))
    unfold lst fnd
    by_cases h : f n = y
    · rw [if_pos h, if_pos h]
      cases hf : fnd f y n with
      | none => rfl
      | some k =>
        have hk := fnd_some hf
        have := hu k n (by omega) (by omega) (hk.2.1.trans h.symm)
        omega
    · rw [if_neg h, if_neg h, ih]
      cases fnd f y n <;> rfl
def stS (S : z_S) (r : Nat) : z_S := uAN (uAN (uAB S 23 (va_up (sAB S 23) r true)) 24 (va_up (sAN S 24) r (sAN S 22 r))) 25 (va_up (sAN S 25) r 0)
def spS (S : z_S) (r : Nat) : z_S := uAN S 24 (va_up (sAN S 24) r 0)
def wtS (S : z_S) (r : Nat) : z_S := uAN S 25 (va_up (sAN S 25) r (sAN S 25 r + 1))
def ap1 (S : z_S) (r : Nat) : Nat × z_S := if 0 < sAN S 24 r then (36, S) else if sB S 5 = false then (34, S) else (0, stS S r)
def ap3 (S : z_S) (r : Nat) : Nat × z_S := if 0 < sAN S 24 r then (if sN S 7 ≤ sAN S 25 r then (16, S) else (120, wtS S r)) else (0, S)
def apR (S : z_S) (r f : Nat) : Nat × z_S := if f = 1 then ap1 S r else if sAB S 23 r = false then (36, S) else if f = 2 then (0, spS S r) else ap3 S r
theorem ap_K (S : z_S) (r f : Nat) : (apR S r f).1 < 128 ∧ (∀ j, sN (apR S r f).2 j = sN S j) ∧ (∀ j, sB (apR S r f).2 j = sB S j) ∧ sAN (apR S r f).2 39 = sAN S 39 ∧ sAI (apR S r f).2 21 = sAI S 21 := by
  unfold apR ap1 ap3
  repeat' split
  all_goals exact ⟨Nat.le_of_ble_eq_true rfl, fun _ => rfl, fun _ => rfl, rfl, rfl⟩
theorem sv49_ap {S : z_S} {r : Nat} (h1 : ¬ sN S 1 = 1) (hn : sN S 38 - 1 = 3) (hf : 1 ≤ fn S ∧ fn S ≤ 3) (hL : lst (sAI S 21) (nI (toldN S 2)) (sN S 20) = some r) : sv49 S = if (apR S r (fn S)).1 = 0 then (0, say5 (apR S r (fn S)).2 (fn S) r) else apR S r (fn S) := by
  unfold sv49
  rw [if_neg h1, if_neg (not_not_intro hn), if_neg (not_not_intro (show 1 ≤ sAN S 39 1 % 128 ∧ sAN S 39 1 % 128 ≤ 3 from hf)), hL]
  show (if fn S = 1 then _ else _) = _
  unfold apR ap1 ap3
  by_cases f1 : fn S = 1
  · rw [if_pos f1, if_pos f1]
    by_cases h2 : 0 < sAN S 24 r
    · rw [if_pos h2, if_pos h2]; rfl
    · rw [if_neg h2, if_neg h2]
      by_cases h3 : sB S 5 = false
      · rw [if_pos h3, if_pos h3]; rfl
      · rw [if_neg h3, if_neg h3, f1]; rfl
  · rw [if_neg f1, if_neg f1]
    by_cases h2 : sAB S 23 r = false
    · rw [if_pos h2, if_pos h2]; rfl
    · rw [if_neg h2, if_neg h2]
      show (if fn S = 2 then _ else _) = _
      by_cases f2 : fn S = 2
      · rw [if_pos f2, if_pos f2, f2]; rfl
      · rw [if_neg f2, if_neg f2]
        have f3 : fn S = 3 := by omega
        by_cases h3 : 0 < sAN S 24 r
        · rw [if_pos h3, if_pos h3]
          by_cases h4 : sN S 7 ≤ sAN S 25 r
          · rw [if_pos h4, if_pos h4]; rfl
          · rw [if_neg h4, if_neg h4]; rfl
        · rw [if_neg h3, if_neg h3, f3]; rfl

theorem CR_st {S : z_S} {x : z_Xc} {d : z_H} (C : CR S x d) {r : Nat} (hr0 : r < sN S 20) : CR (stS S r) x (d.set (xr x r) (RO (stS S r) r)) :=
  CR_rt C hr0 rfl rfl (fun j hj => by unfold RO; rw [show sAB (stS S r) 23 j = sAB S 23 j from va_up_ne _ _ hj, show sAN (stS S r) 24 j = sAN S 24 j from va_up_ne _ _ hj, show sAN (stS S r) 25 j = sAN S 25 j from va_up_ne _ _ hj]; rfl) (fun _ => rfl) rfl rfl rfl rfl rfl rfl C.2.2.2.2.1 C.2.2.2.2.2.1 C.2.2.2.2.2.2
theorem CR_sp {S : z_S} {x : z_Xc} {d : z_H} (C : CR S x d) {r : Nat} (hr0 : r < sN S 20) : CR (spS S r) x (d.set (xr x r) (RO (spS S r) r)) :=
  CR_rt C hr0 rfl rfl (fun j hj => by unfold RO; rw [show sAN (spS S r) 24 j = sAN S 24 j from va_up_ne _ _ hj]; rfl) (fun _ => rfl) rfl rfl rfl rfl rfl rfl C.2.2.2.2.1 C.2.2.2.2.2.1 C.2.2.2.2.2.2
theorem CR_wt {S : z_S} {x : z_Xc} {d : z_H} (C : CR S x d) {r : Nat} (hr0 : r < sN S 20) : CR (wtS S r) x (d.set (xr x r) (RO (wtS S r) r)) :=
  CR_rt C hr0 rfl rfl (fun j hj => by unfold RO; rw [show sAN (wtS S r) 25 j = sAN S 25 j from va_up_ne _ _ hj]; rfl) (fun _ => rfl) rfl rfl rfl rfl rfl rfl C.2.2.2.2.1 C.2.2.2.2.2.1 C.2.2.2.2.2.2
set_option maxRecDepth 100000 in
set_option maxHeartbeats 1000000 in
theorem c_X5_startRoutine {S : z_S} {x : z_Xc} {m : Nat → z_E} {d : z_H} {r : Nat} (C : CR S x d) (Y : rtsOK S) (V : numsOK S) (hr0 : r < sN S 20) : z_K yX5_startRoutine cX5_startRoutine 2 (some .int) 1 0 0 [.ref 1, .ref (xr x r + 32)] (HP (cfun S x) m d) (fun v h' => v = some (.int (nI (ap1 S r).1)) ∧ ∃ d' : z_H, h' = HP (cfun (ap1 S r).2 x) m d' ∧ CR (ap1 S r).2 x d') := by
  have hc := HPd (c := cfun S x) (m := m) (C.2.2.1 r hr0)
  have h24 := Y.2.2.1 r
  have h25 := Y.2.2.2 r
  have h7 := V.2.2.1
  refine z_met vI_X5_startRoutine (Nat.le_of_ble_eq_true rfl) (fun G X F hr hnm => ?_)
  refine z_aload_n F dX5_startRoutine_0 rfl rfl ?_
  refine z_getf F vF_X5_286 dX5_startRoutine_1 hc rfl ?_
  refine z_if_le (tgt := 10) F dX5_startRoutine_4 (by decide) (fun c4 => ?_) (fun c4 => ?_)
  · have hz : ¬ 0 < sAN S 24 r := Nat.not_lt.mpr ((nI_leI (a := sAN S 24 r) (b := 0) (by omega) (by decide)).mp c4)
    refine z_aload_n F dX5_startRoutine_10 rfl rfl ?_
    refine z_getf F vF_X5_28 dX5_startRoutine_11 cO_at rfl ?_
    refine z_if_ne (tgt := 20) F dX5_startRoutine_14 (by decide) (fun c14 => ?_) (fun c14 => ?_)
    · have hs : ap1 S r = (0, stS S r) := by unfold ap1; rw [if_neg hz, if_neg (by rw [z_b1 c14]; decide)]
      refine z_aload_n F dX5_startRoutine_20 rfl rfl ?_
      refine z_callV F z_nwOK wL_good (c_X3_start hc) hc rfl vI_X3_start vM_X5_299 vV_X3_start vL_X3_start rfl dX5_startRoutine_21 rfl rfl (Nat.le_of_ble_eq_true rfl) ⟨(Nat.le_of_ble_eq_true rfl), (Nat.le_of_ble_eq_true rfl), (Nat.le_of_ble_eq_true rfl), (Nat.le_of_ble_eq_true rfl)⟩ (fun v h1 hq => ?_)
      obtain ⟨rfl, rfl⟩ := hq
      refine z_heap (HP (cfun (stS S r) x) m (d.set (xr x r) (RO (stS S r) r))) (by unfold RO; rw [show sAB (stS S r) 23 r = true from va_up_self _ _ _, show sAN (stS S r) 24 r = sAN S 22 r from va_up_self _ _ _, show sAN (stS S r) 25 r = 0 from va_up_self _ _ _]; rfl) ?_
      refine z_iconst (v := 0) F dX5_startRoutine_24 rfl ?_
      exact z_iret F hr dX5_startRoutine_25 rfl (Nat.le_of_ble_eq_true rfl) (Nat.le_of_ble_eq_true rfl) (⟨by rw [hs]; try rfl, d.set (xr x r) (RO (stS S r) r), by rw [hs]; try rfl, by rw [hs]; exact CR_st C hr0⟩)
    · have hs : ap1 S r = (34, S) := by unfold ap1; rw [if_neg hz, if_pos (z_b0.mp c14)]
      refine z_bipush (v := 34) F dX5_startRoutine_17 rfl ?_
      exact z_iret F hr dX5_startRoutine_19 rfl (Nat.le_of_ble_eq_true rfl) (Nat.le_of_ble_eq_true rfl) (⟨by rw [hs]; try rfl, d, by rw [hs]; try rfl, by rw [hs]; exact C⟩)
  · have hz : 0 < sAN S 24 r := Nat.lt_of_not_le (fun e => c4 ((nI_leI (a := sAN S 24 r) (b := 0) (by omega) (by decide)).mpr e))
    have hs : ap1 S r = (36, S) := if_pos hz
    refine z_bipush (v := 36) F dX5_startRoutine_7 rfl ?_
    exact z_iret F hr dX5_startRoutine_9 rfl (Nat.le_of_ble_eq_true rfl) (Nat.le_of_ble_eq_true rfl) (⟨by rw [hs]; try rfl, d, by rw [hs]; try rfl, by rw [hs]; exact C⟩)

set_option maxRecDepth 100000 in
set_option maxHeartbeats 1000000 in
theorem c_X5_askResult {S : z_S} {x : z_Xc} {m : Nat → z_E} {d : z_H} {r : Nat} (C : CR S x d) (Y : rtsOK S) (V : numsOK S) (hr0 : r < sN S 20) : z_K yX5_askResult cX5_askResult 2 (some .int) 0 0 0 [.ref 1, .ref (xr x r + 32)] (HP (cfun S x) m d) (fun v h' => v = some (.int (nI (ap3 S r).1)) ∧ ∃ d' : z_H, h' = HP (cfun (ap3 S r).2 x) m d' ∧ CR (ap3 S r).2 x d') := by
  have hc := HPd (c := cfun S x) (m := m) (C.2.2.1 r hr0)
  have h24 := Y.2.2.1 r
  have h25 := Y.2.2.2 r
  have h7 := V.2.2.1
  refine z_met vI_X5_askResult (Nat.le_of_ble_eq_true rfl) (fun G X F hr hnm => ?_)
  refine z_aload_n F dX5_askResult_0 rfl rfl ?_
  refine z_getf F vF_X5_286 dX5_askResult_1 hc rfl ?_
  refine z_if_ne (tgt := 9) F dX5_askResult_4 (by decide) (fun c4 => ?_) (fun c4 => ?_)
  · have hz : 0 < sAN S 24 r := Nat.pos_of_ne_zero (fun e => c4 (by rw [e]; rfl))
    refine z_aload_n F dX5_askResult_9 rfl rfl ?_
    refine z_getf F vF_X5_302 dX5_askResult_10 hc rfl ?_
    refine z_aload_n F dX5_askResult_13 rfl rfl ?_
    refine z_getf F vF_X5_41 dX5_askResult_14 cO_at rfl ?_
    refine z_icmp_lt (tgt := 23) F dX5_askResult_17 (by decide) (fun c17 => ?_) (fun c17 => ?_)
    · have hs : ap3 S r = (120, wtS S r) := by unfold ap3; rw [if_pos hz, if_neg (Nat.not_le.mpr ((nI_ltI (a := sAN S 25 r) (b := sN S 7) (by omega) (by omega)).mp c17))]
      refine z_aload_n F dX5_askResult_23 rfl rfl ?_
      refine z_dup F dX5_askResult_24 rfl ?_
      refine z_getf F vF_X5_302 dX5_askResult_25 hc rfl ?_
      refine z_iconst (v := 1) F dX5_askResult_28 rfl ?_
      refine z_iadd F dX5_askResult_29 ?_
      rw [nI_1]
      refine z_putf F vF_X5_302 vT_X3 vD_X3_4 dX5_askResult_30 hc (Nat.le_of_ble_eq_true rfl) rfl rfl (fun g30 => ?_)
      refine z_heap (HP (cfun (wtS S r) x) m (d.set (xr x r) (RO (wtS S r) r))) (by unfold RO; rw [show sAN (wtS S r) 25 r = sAN S 25 r + 1 from va_up_self _ _ _]; rfl) ?_
      refine z_bipush (v := 120) F dX5_askResult_33 rfl ?_
      exact z_iret F hr dX5_askResult_35 rfl (Nat.le_of_ble_eq_true rfl) (Nat.le_of_ble_eq_true rfl) (⟨by rw [hs]; try rfl, d.set (xr x r) (RO (wtS S r) r), by rw [hs]; try rfl, by rw [hs]; exact CR_wt C hr0⟩)
    · have hs : ap3 S r = (16, S) := by unfold ap3; rw [if_pos hz, if_pos (Nat.not_lt.mp (fun e => c17 ((nI_ltI (a := sAN S 25 r) (b := sN S 7) (by omega) (by omega)).mpr e)))]
      refine z_bipush (v := 16) F dX5_askResult_20 rfl ?_
      exact z_iret F hr dX5_askResult_22 rfl (Nat.le_of_ble_eq_true rfl) (Nat.le_of_ble_eq_true rfl) (⟨by rw [hs]; try rfl, d, by rw [hs]; try rfl, by rw [hs]; exact C⟩)
  · have hz : sAN S 24 r = 0 := (nI_eq (a := sAN S 24 r) (b := 0) (by omega) (by decide)).mp c4
    have hs : ap3 S r = (0, S) := if_neg (by omega)
    refine z_iconst (v := 0) F dX5_askResult_7 rfl ?_
    exact z_iret F hr dX5_askResult_8 rfl (Nat.le_of_ble_eq_true rfl) (Nat.le_of_ble_eq_true rfl) (⟨by rw [hs]; try rfl, d, by rw [hs]; try rfl, by rw [hs]; exact C⟩)

set_option maxRecDepth 100000 in
set_option maxHeartbeats 1000000 in
theorem c_X5_applyToRoutine {S : z_S} {x : z_Xc} {m : Nat → z_E} {d : z_H} {r : Nat} (C : CR S x d) (Y : rtsOK S) (V : numsOK S) (hr0 : r < sN S 20) {f : Nat} (h128 : f < 128) : z_K yX5_applyToRoutine cX5_applyToRoutine 3 (some .int) 2 0 0 [.ref 1, .ref (xr x r + 32), .int (nI f)] (HP (cfun S x) m d) (fun v h' => v = some (.int (nI (apR S r f).1)) ∧ ∃ d' : z_H, h' = HP (cfun (apR S r f).2 x) m d' ∧ CR (apR S r f).2 x d') := by
  have hc := HPd (c := cfun S x) (m := m) (C.2.2.1 r hr0)
  have h24 := Y.2.2.1 r
  have h25 := Y.2.2.2 r
  have h7 := V.2.2.1
  refine z_met vI_X5_applyToRoutine (Nat.le_of_ble_eq_true rfl) (fun G X F hr hnm => ?_)
  refine z_iload_n F dX5_applyToRoutine_0 rfl ?_
  refine z_iconst (v := 1) F dX5_applyToRoutine_1 rfl ?_
  refine z_icmp_ne (tgt := 11) F dX5_applyToRoutine_2 (by decide) (fun c2 => ?_) (fun c2 => ?_)
  · have hf : ¬ f = 1 := fun e => c2 (by rw [e]; rfl)
    refine z_aload_n F dX5_applyToRoutine_11 rfl rfl ?_
    refine z_getf F vF_X5_293 dX5_applyToRoutine_12 hc rfl ?_
    refine z_if_ne (tgt := 21) F dX5_applyToRoutine_15 (by decide) (fun c15 => ?_) (fun c15 => ?_)
    · have hz : ¬ sAB S 23 r = false := by rw [z_b1 c15]; decide
      refine z_iload_n F dX5_applyToRoutine_21 rfl ?_
      refine z_iconst (v := 2) F dX5_applyToRoutine_22 rfl ?_
      refine z_icmp_ne (tgt := 33) F dX5_applyToRoutine_23 (by decide) (fun c23 => ?_) (fun c23 => ?_)
      · have hs : apR S r f = ap3 S r := by unfold apR; rw [if_neg hf, if_neg hz, if_neg (fun e => c23 (by rw [e]; rfl))]
        refine z_aload_n F dX5_applyToRoutine_33 rfl rfl ?_
        refine z_aload_n F dX5_applyToRoutine_34 rfl rfl ?_
        refine z_callV F z_nwOK wL_good (c_X5_askResult C Y V hr0) cO_at rfl vI_X5_askResult vM_X5_296 vV_X5_askResult vL_X5_askResult rfl dX5_applyToRoutine_35 rfl rfl (Nat.le_of_ble_eq_true rfl) ⟨(Nat.le_of_ble_eq_true rfl), (Nat.le_of_ble_eq_true rfl), (Nat.le_of_ble_eq_true rfl), (Nat.le_of_ble_eq_true rfl)⟩ (fun v h1 hq => ?_)
        obtain ⟨rfl, d1, rfl, C1⟩ := hq
        exact z_iret F hr dX5_applyToRoutine_38 rfl (Nat.le_of_ble_eq_true rfl) (Nat.le_of_ble_eq_true rfl) (⟨by rw [hs], d1, by rw [hs], by rw [hs]; exact C1⟩)
      · have hs : apR S r f = (0, spS S r) := by unfold apR; rw [if_neg hf, if_neg hz, if_pos ((nI_eq (a := f) (b := 2) (by omega) (by decide)).mp c23)]
        refine z_aload_n F dX5_applyToRoutine_26 rfl rfl ?_
        refine z_iconst (v := 0) F dX5_applyToRoutine_27 rfl ?_
        refine z_putf F vF_X5_286 vT_X3 vD_X3_3 dX5_applyToRoutine_28 hc (Nat.le_of_ble_eq_true rfl) rfl rfl (fun g28 => ?_)
        refine z_heap (HP (cfun (spS S r) x) m (d.set (xr x r) (RO (spS S r) r))) (by unfold RO; rw [show sAN (spS S r) 24 r = 0 from va_up_self _ _ _]; rfl) ?_
        refine z_iconst (v := 0) F dX5_applyToRoutine_31 rfl ?_
        exact z_iret F hr dX5_applyToRoutine_32 rfl (Nat.le_of_ble_eq_true rfl) (Nat.le_of_ble_eq_true rfl) (⟨by rw [hs]; try rfl, d.set (xr x r) (RO (spS S r) r), by rw [hs]; try rfl, by rw [hs]; exact CR_sp C hr0⟩)
    · have hs : apR S r f = (36, S) := by unfold apR; rw [if_neg hf, if_pos (z_b0.mp c15)]
      refine z_bipush (v := 36) F dX5_applyToRoutine_18 rfl ?_
      exact z_iret F hr dX5_applyToRoutine_20 rfl (Nat.le_of_ble_eq_true rfl) (Nat.le_of_ble_eq_true rfl) (⟨by rw [hs]; try rfl, d, by rw [hs]; try rfl, by rw [hs]; exact C⟩)
  · have hf : f = 1 := (nI_eq (a := f) (b := 1) (by omega) (by decide)).mp c2
    have hs : apR S r f = ap1 S r := if_pos hf
    refine z_aload_n F dX5_applyToRoutine_5 rfl rfl ?_
    refine z_aload_n F dX5_applyToRoutine_6 rfl rfl ?_
    refine z_callV F z_nwOK wL_good (c_X5_startRoutine C Y V hr0) cO_at rfl vI_X5_startRoutine vM_X5_289 vV_X5_startRoutine vL_X5_startRoutine rfl dX5_applyToRoutine_7 rfl rfl (Nat.le_of_ble_eq_true rfl) ⟨(Nat.le_of_ble_eq_true rfl), (Nat.le_of_ble_eq_true rfl), (Nat.le_of_ble_eq_true rfl), (Nat.le_of_ble_eq_true rfl)⟩ (fun v h1 hq => ?_)
    obtain ⟨rfl, d1, rfl, C1⟩ := hq
    exact z_iret F hr dX5_applyToRoutine_10 rfl (Nat.le_of_ble_eq_true rfl) (Nat.le_of_ble_eq_true rfl) (⟨by rw [hs], d1, by rw [hs], by rw [hs]; exact C1⟩)

set_option maxRecDepth 100000 in
set_option maxHeartbeats 1000000 in
theorem c_X5_handleRoutine {S : z_S} {x : z_Xc} {m : Nat → z_E} {d : z_H} {w : Bool} (C : CR S x d) (Q : QV w S x) (R : rowOK S) (W : idsOK S) (V : numsOK S) (U : trOK S) (Y : rtsOK S) (h0 : 0 < sN S 38) (hA : sN S 40 = 0) (Z : rtU S) (hV : sAN S 39 0 = 49) : z_K yX5_handleRoutine cX5_handleRoutine 5 (some .int) 3 0 0 [.ref 1, .ref (qa w)] (HP (cfun S x) m d) (fun v h' => v = some (.int (nI (sv49 S).1)) ∧ ∃ (x' : z_Xc) (d' : z_H), h' = HP (cfun (sv49 S).2 x') m d' ∧ CR (sv49 S).2 x' d' ∧ KX x x') := by
  have hM := Q.2.1
  refine z_met vI_X5_handleRoutine (Nat.le_of_ble_eq_true rfl) (fun G X F hr hnm => ?_)
  refine z_aload_n F dX5_handleRoutine_0 rfl rfl ?_
  refine z_getf F vF_X5_35 dX5_handleRoutine_1 cO_at rfl ?_
  refine z_iconst (v := 1) F dX5_handleRoutine_4 rfl ?_
  refine z_icmp_ne (tgt := 11) F dX5_handleRoutine_5 (by decide) (fun c5 => ?_) (fun c5 => ?_)
  · have hs1 : ¬ sN S 1 = 1 := fun e => c5 (by rw [e]; rfl)
    refine z_aload_n F dX5_handleRoutine_11 rfl rfl ?_
    refine z_callV F z_nwOK wL_good (c_qsize Q) cQ.1 rfl vI_X2_size vM_X5_236 vV_X2_size vL_X2_size rfl dX5_handleRoutine_12 rfl rfl (Nat.le_of_ble_eq_true rfl) ⟨(Nat.le_of_ble_eq_true rfl), (Nat.le_of_ble_eq_true rfl), (Nat.le_of_ble_eq_true rfl), (Nat.le_of_ble_eq_true rfl)⟩ (fun v h1 hq => ?_)
    obtain ⟨rfl, rfl⟩ := hq
    refine z_iconst (v := 3) F dX5_handleRoutine_15 rfl ?_
    refine z_icmp_eq (tgt := 22) F dX5_handleRoutine_16 (by decide) (fun c16 => ?_) (fun c16 => ?_)
    · have hn : sN S 38 - 1 = 3 := (nI_eq (b := 3) (by omega) (by decide)).mp c16
      have f128 : fn S < 128 := Nat.mod_lt _ (by decide)
      refine z_aload_n F dX5_handleRoutine_22 rfl rfl ?_
      refine z_callV F z_nwOK wL_good (c_qfun Q (by omega)) cQ.1 rfl vI_X2_function vM_X5_239 vV_X2_function vL_X2_function rfl dX5_handleRoutine_23 rfl rfl (Nat.le_of_ble_eq_true rfl) ⟨(Nat.le_of_ble_eq_true rfl), (Nat.le_of_ble_eq_true rfl), (Nat.le_of_ble_eq_true rfl), (Nat.le_of_ble_eq_true rfl)⟩ (fun v h1 hq => ?_)
      obtain ⟨rfl, rfl⟩ := hq
      refine z_istore_n F dX5_handleRoutine_26 (Nat.le_of_ble_eq_true rfl) ?_
      refine z_iload_n F dX5_handleRoutine_27 rfl ?_
      refine z_iconst (v := 1) F dX5_handleRoutine_28 rfl ?_
      refine z_iconst (v := 3) F dX5_handleRoutine_29 rfl ?_
      refine z_callS F z_nwOK wL_good (c_within (A := 1) (B := 3) (nI (fn S)) 1 3 rfl rfl) vI_X5_isWithin vM_X5_79 vS_X5_isWithin rfl dX5_handleRoutine_30 rfl rfl (Nat.le_of_ble_eq_true rfl) ⟨(Nat.le_of_ble_eq_true rfl), (Nat.le_of_ble_eq_true rfl), (Nat.le_of_ble_eq_true rfl), (Nat.le_of_ble_eq_true rfl)⟩ (fun v h1 hq => ?_)
      obtain ⟨rfl, rfl⟩ := hq
      refine z_if_ne (tgt := 39) F dX5_handleRoutine_33 (by decide) (fun c33 => ?_) (fun c33 => ?_)
      · have hf : 1 ≤ fn S ∧ fn S ≤ 3 := by have h9 := z_b1 c33; rw [nI_toInt (by omega)] at h9; unfold inZ at h9; simp at h9; omega
        refine z_aload_n F dX5_handleRoutine_39 rfl rfl ?_
        refine z_aload_n F dX5_handleRoutine_40 rfl rfl ?_
        refine z_iconst (v := 1) F dX5_handleRoutine_41 rfl ?_
        refine z_callV F z_nwOK wL_good (c_qword (p := 1) Q (show 1 + 2 < sN S 38 by omega)) cQ.1 rfl vI_X2_word vM_X5_254 vV_X2_word vL_X2_word rfl dX5_handleRoutine_42 rfl rfl (Nat.le_of_ble_eq_true rfl) ⟨(Nat.le_of_ble_eq_true rfl), (Nat.le_of_ble_eq_true rfl), (Nat.le_of_ble_eq_true rfl), (Nat.le_of_ble_eq_true rfl)⟩ (fun v h1 hq => ?_)
        obtain ⟨rfl, rfl⟩ := hq
        rw [show toldN S (1 + 1) = toldN S 2 from rfl]
        refine z_callV F z_nwOK wL_good (c_X5_findRoutine (y := nI (toldN S 2)) C.2.2.1 Y.1) cO_at rfl vI_X5_findRoutine vM_X5_108 vV_X5_findRoutine vL_X5_findRoutine rfl dX5_handleRoutine_45 rfl rfl (Nat.le_of_ble_eq_true rfl) ⟨(Nat.le_of_ble_eq_true rfl), (Nat.le_of_ble_eq_true rfl), (Nat.le_of_ble_eq_true rfl), (Nat.le_of_ble_eq_true rfl)⟩ (fun v h1 hq => ?_)
        obtain ⟨rfl, rfl⟩ := hq
        cases hfd : fnd (sAI S 21) (nI (toldN S 2)) (sN S 20) with
        | none =>
          have hL : lst (sAI S 21) (nI (toldN S 2)) (sN S 20) = none := (lst_fnd Z).trans hfd
          have hs : sv49 S = (49, S) := by unfold sv49; rw [if_neg hs1, if_neg (not_not_intro hn), if_neg (not_not_intro (show 1 ≤ sAN S 39 1 % 128 ∧ sAN S 39 1 % 128 ≤ 3 from hf)), hL]
          refine z_astore_n F dX5_handleRoutine_48 rfl (Nat.le_of_ble_eq_true rfl) ?_
          refine z_aload_n F dX5_handleRoutine_49 rfl rfl ?_
          refine z_ifnonnull (tgt := 56) F dX5_handleRoutine_50 (by decide) rfl (fun c50 => absurd rfl c50) (fun c50 => ?_)
          refine z_bipush (v := 49) F dX5_handleRoutine_53 rfl ?_
          exact z_iret F hr dX5_handleRoutine_55 rfl (Nat.le_of_ble_eq_true rfl) (Nat.le_of_ble_eq_true rfl) (⟨by rw [hs]; try rfl, x, d, by rw [hs]; try rfl, by rw [hs]; exact C, rfl, rfl, rfl⟩)
        | some r =>
          have hr0 := fnd_lt hfd
          have hL : lst (sAI S 21) (nI (toldN S 2)) (sN S 20) = some r := (lst_fnd Z).trans hfd
          have hap := sv49_ap hs1 hn hf hL
          have hK := ap_K S r (fn S)
          refine z_astore_n F dX5_handleRoutine_48 rfl (Nat.le_of_ble_eq_true rfl) ?_
          refine z_aload_n F dX5_handleRoutine_49 rfl rfl ?_
          refine z_ifnonnull (tgt := 56) F dX5_handleRoutine_50 (by decide) rfl (fun c50 => ?_) (fun c50 => absurd c50 (by intro q; cases q))
          refine z_aload_n F dX5_handleRoutine_56 rfl rfl ?_
          refine z_aload_n F dX5_handleRoutine_57 rfl rfl ?_
          refine z_iload_n F dX5_handleRoutine_58 rfl ?_
          refine z_callV F z_nwOK wL_good (c_X5_applyToRoutine (f := fn S) C Y V hr0 f128) cO_at rfl vI_X5_applyToRoutine vM_X5_282 vV_X5_applyToRoutine vL_X5_applyToRoutine rfl dX5_handleRoutine_59 rfl rfl (Nat.le_of_ble_eq_true rfl) ⟨(Nat.le_of_ble_eq_true rfl), (Nat.le_of_ble_eq_true rfl), (Nat.le_of_ble_eq_true rfl), (Nat.le_of_ble_eq_true rfl)⟩ (fun v h1 hq => ?_)
          obtain ⟨rfl, d1, rfl, C1⟩ := hq
          generalize apR S r (fn S) = p at hap hK C1 ⊢
          obtain ⟨c, T⟩ := p
          obtain ⟨k128, kN, kB, kR, kI⟩ := hK
          have k128 : c < 128 := k128
          have kN : ∀ j, sN T j = sN S j := kN
          have kB : ∀ j, sB T j = sB S j := kB
          have kR : sAN T 39 = sAN S 39 := kR
          have kI : sAI T 21 = sAI S 21 := kI
          have C1 : CR T x d1 := C1
          have hap : sv49 S = if c = 0 then (0, say5 T (fn S) r) else (c, T) := hap
          refine z_istore F dX5_handleRoutine_62 (Nat.le_of_ble_eq_true rfl) ?_
          refine z_iload F dX5_handleRoutine_64 rfl ?_
          refine z_if_eq (tgt := 72) F dX5_handleRoutine_66 (by decide) (fun c66 => ?_) (fun c66 => ?_)
          · have hz : c = 0 := (nI_eq (a := c) (b := 0) (by omega) (by decide)).mp c66
            have hs : sv49 S = (0, say5 T (fn S) r) := by rw [hap, if_pos hz]
            have hid : sAI T 21 r = nI (sAN T 39 2 * 256 + sAN T 39 3) := by rw [kI, kR]; exact (fnd_some hfd).2.1
            have hA2 : sN T 40 = 0 := (kN 40).trans hA
            have hr2 : r < sN T 20 := by rw [kN]; exact hr0
            have Q2 : QV w T x := QV_to Q (by cases w <;> simp only [qb, kN, kB]) (kN 38) kR (kB 37)
            have R2 : ∀ k, sAN T 39 k < 256 := fun k => by rw [kR]; exact R k
            have hc1 := HPd (c := cfun (sayS (sayS (T) (113)) (fn S)) (sx (sayS (T) (113)) (sx (T) x (113)) (fn S))) (m := m) (C1.2.2.1 r hr2)
            have hc2 := HPd (c := cfun (sayS (sayS (sayS (sayS (T) (113)) (fn S)) (sAN T 39 2)) (sAN T 39 3)) (sx (sayS (sayS (sayS (T) (113)) (fn S)) (sAN T 39 2)) (sx (sayS (sayS (T) (113)) (fn S)) (sx (sayS (T) (113)) (sx (T) x (113)) (fn S)) (sAN T 39 2)) (sAN T 39 3))) (m := m) (C1.2.2.1 r hr2)
            refine z_aload_n F dX5_handleRoutine_72 rfl rfl ?_
            refine z_aload_n F dX5_handleRoutine_73 rfl rfl ?_
            refine z_callV F z_nwOK wL_good (c_bR (b := 113) Q2 (by rw [kN]; exact h0) (show sN T 40 < 41 by omega) (by rw [kR]; omega)) cO_at rfl vI_X5_beginReply vM_X5_242 vV_X5_beginReply vL_X5_beginReply rfl dX5_handleRoutine_74 rfl rfl (Nat.le_of_ble_eq_true rfl) ⟨(Nat.le_of_ble_eq_true rfl), (Nat.le_of_ble_eq_true rfl), (Nat.le_of_ble_eq_true rfl), (Nat.le_of_ble_eq_true rfl)⟩ (fun v h1 hq => ?_)
            obtain ⟨rfl, rfl⟩ := hq
            refine z_aload_n F dX5_handleRoutine_77 rfl rfl ?_
            refine z_getf F vF_X5_67 dX5_handleRoutine_78 cO_at rfl ?_
            refine z_iload_n F dX5_handleRoutine_81 rfl ?_
            refine z_callV F z_nwOK wL_good (c_put (b := fn S) (show sN T 40 + 1 < 41 by omega)) cAn.1 rfl vI_X0_put vM_X5_190 vV_X0_put vL_X0_put rfl dX5_handleRoutine_82 rfl rfl (Nat.le_of_ble_eq_true rfl) ⟨(Nat.le_of_ble_eq_true rfl), (Nat.le_of_ble_eq_true rfl), (Nat.le_of_ble_eq_true rfl), (Nat.le_of_ble_eq_true rfl)⟩ (fun v h1 hq => ?_)
            obtain ⟨rfl, rfl⟩ := hq
            refine z_aload_n F dX5_handleRoutine_85 rfl rfl ?_
            refine z_getf F vF_X5_67 dX5_handleRoutine_86 cO_at rfl ?_
            refine z_aload_n F dX5_handleRoutine_89 rfl rfl ?_
            refine z_getf F vF_X5_169 dX5_handleRoutine_90 hc1 rfl ?_
            rw [hid]
            refine z_callV F z_nwOK wL_good (c_putW (a := sAN T 39 2) (b := sAN T 39 3) (R2 2) (R2 3) (show sN T 40 + 2 + 1 < 41 by omega)) cAn.1 rfl vI_X0_putWord vM_X5_265 vV_X0_putWord vL_X0_putWord rfl dX5_handleRoutine_93 rfl rfl (Nat.le_of_ble_eq_true rfl) ⟨(Nat.le_of_ble_eq_true rfl), (Nat.le_of_ble_eq_true rfl), (Nat.le_of_ble_eq_true rfl), (Nat.le_of_ble_eq_true rfl)⟩ (fun v h1 hq => ?_)
            obtain ⟨rfl, rfl⟩ := hq
            refine z_aload_n F dX5_handleRoutine_96 rfl rfl ?_
            refine z_getf F vF_X5_67 dX5_handleRoutine_97 cO_at rfl ?_
            refine z_aload_n F dX5_handleRoutine_100 rfl rfl ?_
            refine z_getf F vF_X5_286 dX5_handleRoutine_101 hc2 rfl ?_
            refine z_callV F z_nwOK wL_good (c_put (b := sAN T 24 r) (show sN T 40 + 4 < 41 by omega)) cAn.1 rfl vI_X0_put vM_X5_190 vV_X0_put vL_X0_put rfl dX5_handleRoutine_104 rfl rfl (Nat.le_of_ble_eq_true rfl) ⟨(Nat.le_of_ble_eq_true rfl), (Nat.le_of_ble_eq_true rfl), (Nat.le_of_ble_eq_true rfl), (Nat.le_of_ble_eq_true rfl)⟩ (fun v h1 hq => ?_)
            obtain ⟨rfl, rfl⟩ := hq
            refine z_iconst (v := 0) F dX5_handleRoutine_107 rfl ?_
            exact z_iret F hr dX5_handleRoutine_108 rfl (Nat.le_of_ble_eq_true rfl) (Nat.le_of_ble_eq_true rfl) (⟨by rw [hs]; try rfl, (sx (sayS (sayS (sayS (sayS (T) (113)) (fn S)) (sAN T 39 2)) (sAN T 39 3)) (sx (sayS (sayS (sayS (T) (113)) (fn S)) (sAN T 39 2)) (sx (sayS (sayS (T) (113)) (fn S)) (sx (sayS (T) (113)) (sx (T) x (113)) (fn S)) (sAN T 39 2)) (sAN T 39 3)) (sAN T 24 r)), d1, by rw [hs]; try rfl, by rw [hs]; exact (CR_say (CR_say (CR_say (CR_say (CR_say C1 (show sN T 40 + 0 < 41 by omega) (113)) (show sN T 40 + 1 < 41 by omega) (fn S)) (show sN T 40 + 2 < 41 by omega) (sAN T 39 2)) (show sN T 40 + 3 < 41 by omega) (sAN T 39 3)) (show sN T 40 + 4 < 41 by omega) (sAN T 24 r)), rfl, rfl, rfl⟩)
          · have hz : ¬ c = 0 := fun e => c66 (by rw [e]; rfl)
            have hs : sv49 S = (c, T) := by rw [hap, if_neg hz]
            refine z_iload F dX5_handleRoutine_69 rfl ?_
            exact z_iret F hr dX5_handleRoutine_71 rfl (Nat.le_of_ble_eq_true rfl) (Nat.le_of_ble_eq_true rfl) (⟨by rw [hs], x, d1, by rw [hs], by rw [hs]; exact C1, rfl, rfl, rfl⟩)
      · have hf : ¬ (1 ≤ fn S ∧ fn S ≤ 3) := by have h9 := z_b0.mp c33; rw [nI_toInt (by omega)] at h9; unfold inZ at h9; simp at h9; omega
        have hs : sv49 S = (18, S) := by unfold sv49; rw [if_neg hs1, if_neg (not_not_intro hn), if_pos (show ¬ (1 ≤ sAN S 39 1 % 128 ∧ sAN S 39 1 % 128 ≤ 3) from hf)]
        refine z_bipush (v := 18) F dX5_handleRoutine_36 rfl ?_
        exact z_iret F hr dX5_handleRoutine_38 rfl (Nat.le_of_ble_eq_true rfl) (Nat.le_of_ble_eq_true rfl) (⟨by rw [hs]; try rfl, x, d, by rw [hs]; try rfl, by rw [hs]; exact C, rfl, rfl, rfl⟩)
    · have hn : ¬ sN S 38 - 1 = 3 := fun e => c16 (by rw [e]; rfl)
      have hs : sv49 S = (19, S) := by unfold sv49; rw [if_neg hs1, if_pos hn]
      refine z_bipush (v := 19) F dX5_handleRoutine_19 rfl ?_
      exact z_iret F hr dX5_handleRoutine_21 rfl (Nat.le_of_ble_eq_true rfl) (Nat.le_of_ble_eq_true rfl) (⟨by rw [hs]; try rfl, x, d, by rw [hs]; try rfl, by rw [hs]; exact C, rfl, rfl, rfl⟩)
  · have hs1 : sN S 1 = 1 := (nI_eq (a := sN S 1) (b := 1) (by have := V.1; omega) (by decide)).mp c5
    have hs : sv49 S = (127, S) := if_pos hs1
    refine z_bipush (v := 127) F dX5_handleRoutine_8 rfl ?_
    exact z_iret F hr dX5_handleRoutine_10 rfl (Nat.le_of_ble_eq_true rfl) (Nat.le_of_ble_eq_true rfl) (⟨by rw [hs]; try rfl, x, d, by rw [hs]; try rfl, by rw [hs]; exact C, rfl, rfl, rfl⟩)
