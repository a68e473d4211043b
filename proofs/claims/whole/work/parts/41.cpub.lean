theorem CR_far {S : z_S} {x : z_Xc} {d : z_H} (C : CR S x d) {k : Nat} (hk : k < sN S 8) (e : z_E) :
    (∀ j, j < sN S 8 → ¬ j = k → (d.set (xi x k) e)[xi x j]? = d[xi x j]?) ∧ (∀ j, j < sN S 8 → sAB S 17 j = true → (d.set (xi x k) e)[xs x j]? = d[xs x j]? ∧ (d.set (xi x k) e)[xp x j]? = d[xp x j]?) ∧ ∀ j, j < sN S 20 → (d.set (xi x k) e)[xr x j]? = d[xr x j]? := by
  obtain ⟨⟨c1, -⟩, c2, c3, ⟨j1, -, -, -⟩, -⟩ := C
  have hc := c1 k hk
  refine ⟨fun j hj hne => z_sn (fun q => hne (j1 j k hj hk q.symm)), fun j hj ht => ⟨z_sn (fun q => ?_), z_sn (fun q => ?_)⟩, fun j hj => z_sn (fun q => ?_)⟩
  · have h1 := (c2 j hj ht).1
    rw [← q, hc] at h1
    cases h1
  · have h1 := (c2 j hj ht).2.1
    rw [← q, hc] at h1
    cases h1
  · have h1 := c3 j hj
    rw [← q, hc] at h1
    cases h1
/-- an identifier's cell is written: what it holds stands for the new state -/
theorem CR_id {S S' : z_S} {x x' : z_Xc} {d : z_H} (C : CR S x d) {k : Nat} (hk : k < sN S 8) (e8 : sN S' 8 = sN S 8) (e20 : sN S' 20 = sN S 20) (ei : xi x' = xi x) (es : xs x' = xs x) (ep : xp x' = xp x) (er : xr x' = xr x) (esf : xsf x' = xsf x) (epf : xpf x' = xpf x)
    (e17 : sAB S' 17 = sAB S 17) (e10 : sAN S' 10 = sAN S 10) (e18 : sAN S' 18 = sAN S 18) (e19 : sAN S' 19 = sAN S 19) (hR : ∀ j, RO S' j = RO S j) (hI : ∀ j, ¬ j = k → IO S' x' j = IO S x j) (hH : ∀ j, j < sN S 8 → sAB S' 14 j = true → xh x' j = sAL S' 15 j) (hq : QR S' x') (ha : AR S' x') (ht : TR S' x') :
    CR S' x' (d.set (xi x k) (IO S' x' k)) := by
  obtain ⟨f1, f2, f3⟩ := CR_far C hk (IO S' x' k)
  obtain ⟨⟨c1, -⟩, c2, c3, c4, -⟩ := C
  refine ⟨⟨fun j hj => ?_, fun j hj => hH j (by rw [← e8]; exact hj)⟩, fun j hj hj2 => ?_, fun j hj => ?_, ?_, hq, ha, ht⟩
  · rw [e8] at hj
    rw [ei]
    by_cases hjk : j = k
    · subst hjk
      exact z_ss (c1 j hk)
    · rw [f1 j hj hjk, hI j hjk]
      exact c1 j hj
  · rw [e8] at hj
    rw [e17] at hj2
    rw [es, ep, esf, epf, ei, e10, e18, e19, (f2 j hj hj2).1, (f2 j hj hj2).2]
    exact c2 j hj hj2
  · rw [e20] at hj
    rw [er, f3 j hj, hR j]
    exact c3 j hj
  · unfold DJ
    rw [e8, e20, ei, es, ep, er, e17]
    exact c4
/-- a routine's cell is written -/
theorem CR_rt {S S' : z_S} {x : z_Xc} {d : z_H} (C : CR S x d) {k : Nat} (hk : k < sN S 20) (e8 : sN S' 8 = sN S 8) (e20 : sN S' 20 = sN S 20) (hR : ∀ j, ¬ j = k → RO S' j = RO S j) (hI : ∀ j, IO S' x j = IO S x j)
    (e17 : sAB S' 17 = sAB S 17) (e10 : sAN S' 10 = sAN S 10) (e18 : sAN S' 18 = sAN S 18) (e19 : sAN S' 19 = sAN S 19) (hH : sAB S' 14 = sAB S 14) (hH2 : sAL S' 15 = sAL S 15) (hq : QR S' x) (ha : AR S' x) (ht : TR S' x) : CR S' x (d.set (xr x k) (RO S' k)) := by
  obtain ⟨⟨c1, c1b⟩, c2, c3, c4, -⟩ := C
  have hc := c3 k hk
  refine ⟨⟨fun j hj => ?_, fun j hj => ?_⟩, fun j hj hj2 => ?_, fun j hj => ?_, ?_, hq, ha, ht⟩
  · rw [e8] at hj
    rw [z_sn (fun q => ?_), hI j]
    · exact c1 j hj
    · have h1 := c1 j hj
      rw [← q, hc] at h1
      cases h1
  · rw [e8] at hj
    rw [hH, hH2]
    exact c1b j hj
  · rw [e8] at hj
    rw [e17] at hj2
    obtain ⟨a1, a2, a3⟩ := c2 j hj hj2
    rw [e10, e18, e19]
    refine ⟨?_, ?_, a3⟩
    · rw [z_sn (fun q => by rw [← q, hc] at a1; cases a1)]; exact a1
    · rw [z_sn (fun q => by rw [← q, hc] at a2; cases a2)]; exact a2
  · rw [e20] at hj
    by_cases hjk : j = k
    · subst hjk
      exact z_ss hc
    · rw [z_sn (fun q => hjk (c4.2.2.2 j k hj hk q.symm)), hR j hjk]
      exact c3 j hj
  · unfold DJ
    rw [e8, e20, e17]
    exact c4

set_option maxRecDepth 100000 in
set_option maxHeartbeats 1000000 in
theorem c_X5_rights {S : z_S} {x : z_Xc} {m : Nat → z_E} {d : z_H} (y : Int32) (C : CR S x d) : z_K yX5_rights cX5_rights 3 (some .int) 1 0 0 [.ref 1, .int y] (HP (cfun S x) m d) (fun v h' => v = some (.int (sp_rights S y).1) ∧ ∃ (x' : z_Xc) (d' : z_H), h' = HP (cfun (sp_rights S y).2 x') m d' ∧ CR (sp_rights S y).2 x' d' ∧ KX x x') := by
  refine z_met vI_X5_rights (Nat.le_of_ble_eq_true rfl) (fun G X F hr hnm => ?_)
  refine z_iload_n F dX5_rights_0 rfl ?_
  refine z_iconst (v := 0) F dX5_rights_1 rfl ?_
  refine z_iconst (v := 3) F dX5_rights_2 rfl ?_
  refine z_callS F z_nwOK wL_good (c_within (A := 0) (B := 3) y 0 3 rfl rfl) vI_X5_isWithin vM_X5_79 vS_X5_isWithin rfl dX5_rights_3 rfl rfl (Nat.le_of_ble_eq_true rfl) ⟨(Nat.le_of_ble_eq_true rfl), (Nat.le_of_ble_eq_true rfl), (Nat.le_of_ble_eq_true rfl), (Nat.le_of_ble_eq_true rfl)⟩ (fun v h1 hq => ?_)
  obtain ⟨rfl, rfl⟩ := hq
  refine z_if_ne (tgt := 12) F dX5_rights_6 (by decide) (fun c6 => ?_) (fun c6 => ?_)
  · have hA := z_b1 c6
    obtain ⟨h1, h2, h3⟩ := inZ_nI (by decide) hA
    have hs : sp_rights S y = (nI (sN S 2), uN (uN S 0 0) 2 (tn y)) := if_pos hA
    refine z_aload_n F dX5_rights_12 rfl rfl ?_
    refine z_getf F vF_X5_38 dX5_rights_13 cO_at rfl ?_
    refine z_istore_n F dX5_rights_16 (Nat.le_of_ble_eq_true rfl) ?_
    refine z_aload_n F dX5_rights_17 rfl rfl ?_
    refine z_iload_n F dX5_rights_18 rfl ?_
    rw [show Value.int y = Value.int (nI (tn y)) from congrArg Value.int h1]
    refine z_putf F vF_X5_38 vT_X5 vD_X5_7 dX5_rights_19 cO_at (Nat.le_of_ble_eq_true rfl) rfl rfl (fun g19 => ?_)
    refine z_heap _ (cs_7) ?_
    refine z_iload_n F dX5_rights_22 rfl ?_
    exact z_iret F hr dX5_rights_23 rfl (Nat.le_of_ble_eq_true rfl) (Nat.le_of_ble_eq_true rfl) (⟨by rw [hs]; try rfl, x, d, by rw [hs]; try rfl, by rw [hs]; exact C, rfl, rfl, rfl⟩)
  · have hs : sp_rights S y = (-2, uN S 0 0) := if_neg (by rw [z_b0.mp c6]; decide)
    refine z_bipush (v := (-2)) F dX5_rights_9 rfl ?_
    exact z_iret F hr dX5_rights_11 rfl (Nat.le_of_ble_eq_true rfl) (Nat.le_of_ble_eq_true rfl) (⟨by rw [hs]; try rfl, x, d, by rw [hs]; try rfl, by rw [hs]; exact C, rfl, rfl, rfl⟩)

set_option maxRecDepth 100000 in
set_option maxHeartbeats 1000000 in
theorem c_X5_pending {S : z_S} {x : z_Xc} {m : Nat → z_E} {d : z_H} (y : Int32) (C : CR S x d) : z_K yX5_pending cX5_pending 3 (some .int) 1 0 0 [.ref 1, .int y] (HP (cfun S x) m d) (fun v h' => v = some (.int (sp_pending S y).1) ∧ ∃ (x' : z_Xc) (d' : z_H), h' = HP (cfun (sp_pending S y).2 x') m d' ∧ CR (sp_pending S y).2 x' d' ∧ KX x x') := by
  refine z_met vI_X5_pending (Nat.le_of_ble_eq_true rfl) (fun G X F hr hnm => ?_)
  refine z_iload_n F dX5_pending_0 rfl ?_
  refine z_iconst (v := 0) F dX5_pending_1 rfl ?_
  refine z_bipush (v := 10) F dX5_pending_2 rfl ?_
  refine z_callS F z_nwOK wL_good (c_within (A := 0) (B := 10) y 0 10 rfl rfl) vI_X5_isWithin vM_X5_79 vS_X5_isWithin rfl dX5_pending_4 rfl rfl (Nat.le_of_ble_eq_true rfl) ⟨(Nat.le_of_ble_eq_true rfl), (Nat.le_of_ble_eq_true rfl), (Nat.le_of_ble_eq_true rfl), (Nat.le_of_ble_eq_true rfl)⟩ (fun v h1 hq => ?_)
  obtain ⟨rfl, rfl⟩ := hq
  refine z_if_ne (tgt := 13) F dX5_pending_7 (by decide) (fun c7 => ?_) (fun c7 => ?_)
  · have hA := z_b1 c7
    obtain ⟨h1, h2, h3⟩ := inZ_nI (by decide) hA
    have hs : sp_pending S y = (nI (sN S 7), uN (uN S 0 0) 7 (tn y)) := if_pos hA
    refine z_aload_n F dX5_pending_13 rfl rfl ?_
    refine z_getf F vF_X5_41 dX5_pending_14 cO_at rfl ?_
    refine z_istore_n F dX5_pending_17 (Nat.le_of_ble_eq_true rfl) ?_
    refine z_aload_n F dX5_pending_18 rfl rfl ?_
    refine z_iload_n F dX5_pending_19 rfl ?_
    rw [show Value.int y = Value.int (nI (tn y)) from congrArg Value.int h1]
    refine z_putf F vF_X5_41 vT_X5 vD_X5_8 dX5_pending_20 cO_at (Nat.le_of_ble_eq_true rfl) rfl rfl (fun g20 => ?_)
    refine z_heap _ (cs_8) ?_
    refine z_iload_n F dX5_pending_23 rfl ?_
    exact z_iret F hr dX5_pending_24 rfl (Nat.le_of_ble_eq_true rfl) (Nat.le_of_ble_eq_true rfl) (⟨by rw [hs]; try rfl, x, d, by rw [hs]; try rfl, by rw [hs]; exact C, rfl, rfl, rfl⟩)
  · have hs : sp_pending S y = (-2, uN S 0 0) := if_neg (by rw [z_b0.mp c7]; decide)
    refine z_bipush (v := (-2)) F dX5_pending_10 rfl ?_
    exact z_iret F hr dX5_pending_12 rfl (Nat.le_of_ble_eq_true rfl) (Nat.le_of_ble_eq_true rfl) (⟨by rw [hs]; try rfl, x, d, by rw [hs]; try rfl, by rw [hs]; exact C, rfl, rfl, rfl⟩)

set_option maxRecDepth 100000 in
set_option maxHeartbeats 1000000 in
theorem c_X5_code {S : z_S} {x : z_Xc} {m : Nat → z_E} {d : z_H} : z_K yX5_code cX5_code 1 (some .int) 0 0 0 [.ref 1] (HP (cfun S x) m d) (fun v h' => v = some (.int (sF S)) ∧ h' = (HP (cfun S x) m d)) := by
  refine z_met vI_X5_code (Nat.le_of_ble_eq_true rfl) (fun G X F hr hnm => ?_)
  refine z_aload_n F dX5_code_0 rfl rfl ?_
  refine z_getf F vF_X5_51 dX5_code_1 cO_at rfl ?_
  exact z_iret F hr dX5_code_4 rfl (Nat.le_of_ble_eq_true rfl) (Nat.le_of_ble_eq_true rfl) (⟨rfl, rfl⟩)

set_option maxRecDepth 100000 in
set_option maxHeartbeats 1000000 in
theorem c_X5_condition {S : z_S} {x : z_Xc} {m : Nat → z_E} {d : z_H} (k : Int32) (b : Bool) (C : CR S x d) : z_K yX5_condition cX5_condition 3 (some .int) 0 0 0 [.ref 1, .int k, .int (z_b b)] (HP (cfun S x) m d) (fun v h' => v = some (.int (sp_condition S k b).1) ∧ ∃ (x' : z_Xc) (d' : z_H), h' = HP (cfun (sp_condition S k b).2 x') m d' ∧ CR (sp_condition S k b).2 x' d' ∧ KX x x') := by
  refine z_met vI_X5_condition (Nat.le_of_ble_eq_true rfl) (fun G X F hr hnm => ?_)
  refine z_iload_n F dX5_condition_0 rfl ?_
  refine z_if_ne (tgt := 12) F dX5_condition_1 (by decide) (fun c1 => ?_) (fun c1 => ?_)
  · refine z_iload_n F dX5_condition_12 rfl ?_
    refine z_iconst (v := 1) F dX5_condition_13 rfl ?_
    refine z_icmp_ne (tgt := 25) F dX5_condition_14 (by decide) (fun c14 => ?_) (fun c14 => ?_)
    · have hs : sp_condition S k b = (-1, uN S 0 0) := by unfold sp_condition; rw [if_neg c1, if_neg c14]
      refine z_iconst (v := (-1)) F dX5_condition_25 rfl ?_
      exact z_iret F hr dX5_condition_26 rfl (Nat.le_of_ble_eq_true rfl) (Nat.le_of_ble_eq_true rfl) (⟨by rw [hs]; try rfl, x, d, by rw [hs]; try rfl, by rw [hs]; exact C, rfl, rfl, rfl⟩)
    · have hs : sp_condition S k b = (z_b (sB S 5 && b), uB (uN S 0 0) 6 b) := by unfold sp_condition; rw [if_neg c1, if_pos c14]
      refine z_aload_n F dX5_condition_17 rfl rfl ?_
      refine z_iload_n F dX5_condition_18 rfl ?_
      refine z_putf F vF_X5_32 vT_X5 vD_X5_5 dX5_condition_19 cO_at (Nat.le_of_ble_eq_true rfl) (z_bnar b) (z_bfit b) (fun g19 => ?_)
      refine z_heap _ (cs_5) ?_
      refine z_goto (tgt := 27) F dX5_condition_22 (by decide) ?_
      refine z_aload_n F dX5_condition_27 rfl rfl ?_
      refine z_getf F vF_X5_28 dX5_condition_28 cO_at rfl ?_
      refine z_if_eq (tgt := 45) F dX5_condition_31 (by decide) (fun c31 => ?_) (fun c31 => ?_)
      · have hz : sB S 5 = false := z_b0.mp c31
        have hv : z_b (sB S 5 && b) = 0 := by rw [hz]; rfl
        refine z_iconst (v := 0) F dX5_condition_45 rfl ?_
        exact z_iret F hr dX5_condition_46 rfl (Nat.le_of_ble_eq_true rfl) (Nat.le_of_ble_eq_true rfl) (⟨by rw [hs, hv], x, d, by rw [hs]; try rfl, by rw [hs]; exact C, rfl, rfl, rfl⟩)
      · have hz : sB S 5 = true := z_b1 c31
        refine z_aload_n F dX5_condition_34 rfl rfl ?_
        refine z_getf F vF_X5_32 dX5_condition_35 cO_at rfl ?_
        refine z_if_eq (tgt := 45) F dX5_condition_38 (by decide) (fun c38 => ?_) (fun c38 => ?_)
        · have hy : b = false := z_b0.mp c38
          have hv : z_b (sB S 5 && b) = 0 := by rw [hy]; simp; rfl
          refine z_iconst (v := 0) F dX5_condition_45 rfl ?_
          exact z_iret F hr dX5_condition_46 rfl (Nat.le_of_ble_eq_true rfl) (Nat.le_of_ble_eq_true rfl) (⟨by rw [hs, hv], x, d, by rw [hs]; try rfl, by rw [hs]; exact C, rfl, rfl, rfl⟩)
        · have hy : b = true := z_b1 c38
          have hv : z_b (sB S 5 && b) = 1 := by rw [hz, hy]; rfl
          refine z_iconst (v := 1) F dX5_condition_41 rfl ?_
          refine z_goto (tgt := 46) F dX5_condition_42 (by decide) ?_
          exact z_iret F hr dX5_condition_46 rfl (Nat.le_of_ble_eq_true rfl) (Nat.le_of_ble_eq_true rfl) (⟨by rw [hs, hv], x, d, by rw [hs]; try rfl, by rw [hs]; exact C, rfl, rfl, rfl⟩)
  · have hs : sp_condition S k b = (z_b (b && sB S 6), uB (uN S 0 0) 5 b) := if_pos c1
    refine z_aload_n F dX5_condition_4 rfl rfl ?_
    refine z_iload_n F dX5_condition_5 rfl ?_
    refine z_putf F vF_X5_28 vT_X5 vD_X5_4 dX5_condition_6 cO_at (Nat.le_of_ble_eq_true rfl) (z_bnar b) (z_bfit b) (fun g6 => ?_)
    refine z_heap _ (cs_4) ?_
    refine z_goto (tgt := 27) F dX5_condition_9 (by decide) ?_
    refine z_aload_n F dX5_condition_27 rfl rfl ?_
    refine z_getf F vF_X5_28 dX5_condition_28 cO_at rfl ?_
    refine z_if_eq (tgt := 45) F dX5_condition_31 (by decide) (fun c31 => ?_) (fun c31 => ?_)
    · have hz : b = false := z_b0.mp c31
      have hv : z_b (b && sB S 6) = 0 := by rw [hz]; rfl
      refine z_iconst (v := 0) F dX5_condition_45 rfl ?_
      exact z_iret F hr dX5_condition_46 rfl (Nat.le_of_ble_eq_true rfl) (Nat.le_of_ble_eq_true rfl) (⟨by rw [hs, hv], x, d, by rw [hs]; try rfl, by rw [hs]; exact C, rfl, rfl, rfl⟩)
    · have hz : b = true := z_b1 c31
      refine z_aload_n F dX5_condition_34 rfl rfl ?_
      refine z_getf F vF_X5_32 dX5_condition_35 cO_at rfl ?_
      refine z_if_eq (tgt := 45) F dX5_condition_38 (by decide) (fun c38 => ?_) (fun c38 => ?_)
      · have hy : sB S 6 = false := z_b0.mp c38
        have hv : z_b (b && sB S 6) = 0 := by rw [hy]; simp; rfl
        refine z_iconst (v := 0) F dX5_condition_45 rfl ?_
        exact z_iret F hr dX5_condition_46 rfl (Nat.le_of_ble_eq_true rfl) (Nat.le_of_ble_eq_true rfl) (⟨by rw [hs, hv], x, d, by rw [hs]; try rfl, by rw [hs]; exact C, rfl, rfl, rfl⟩)
      · have hy : sB S 6 = true := z_b1 c38
        have hv : z_b (b && sB S 6) = 1 := by rw [hz, hy]; rfl
        refine z_iconst (v := 1) F dX5_condition_41 rfl ?_
        refine z_goto (tgt := 46) F dX5_condition_42 (by decide) ?_
        exact z_iret F hr dX5_condition_46 rfl (Nat.le_of_ble_eq_true rfl) (Nat.le_of_ble_eq_true rfl) (⟨by rw [hs, hv], x, d, by rw [hs]; try rfl, by rw [hs]; exact C, rfl, rfl, rfl⟩)

set_option maxRecDepth 100000 in
set_option maxHeartbeats 1000000 in
theorem c_X1_oct {S : z_S} {x : z_Xc} {m : Nat → z_E} {d : z_H} {k p : Nat} (C : CR S x d) (W : idsOK S) (hk : k < sN S 8) (hp : p < sAN S 10 k) : z_K yX1_octetAt cX1_octetAt 3 (some .int) 1 0 0 [.ref (xi x k + 32), .int (nI p)] (HP (cfun S x) m d) (fun v h' => v = some (.int (nI (octS S k p))) ∧ h' = (HP (cfun S x) m d)) := by
  obtain ⟨hl, hP⟩ := W.2 k hk
  have hc := HPd (c := cfun S x) (m := m) (C.1.1 k hk)
  have key : ∀ j, j < sN S 8 → (if sAB S 14 j then xh x j else sAL S 13 j) = (if sAB S 14 j then sAL S 15 j else sAL S 13 j) := fun j hj => by
    cases hb : sAB S 14 j with
    | false => rfl
    | true => exact C.1.2 j hj hb
  cases hj : sAB S 17 k with
  | false =>
    have hs : octS S k p = octV (if sAB S 14 k then xh x k else sAL S 13 k) (8 * (sAN S 10 k - 1 - p)) := by unfold octS; rw [key k hk]; simp [hj]
    rw [hs]
    unfold IO at hc
    rw [hj] at hc
    exact c_X1_octetAt_n hc hp hl
  | true =>
    obtain ⟨a1, a2, a3⟩ := hP hj p hp
    obtain ⟨b1, b2, b3⟩ := C.2.1 k hk hj
    have hs : octS S k p = octV (if sAB S 14 (sAN S 18 (8 * k + p)) then xh x (sAN S 18 (8 * k + p)) else sAL S 13 (sAN S 18 (8 * k + p))) (8 * (sAN S 10 (sAN S 18 (8 * k + p)) - 1 - sAN S 19 (8 * k + p))) := by unfold octS; rw [key _ a1]; simp [hj]
    rw [hs]
    unfold IO at hc
    rw [hj] at hc
    exact c_X1_octetAt_y hc (HPd b1) (HPd b2) (HPd (C.1.1 _ a1)) (by omega) (b3 p hp).1 (b3 p hp).2 a3 (W.2 _ a1).1
theorem c_X1_num {S : z_S} {x : z_Xc} {m : Nat → z_E} {d : z_H} {k : Nat} (C : CR S x d) (W : idsOK S) (hk : k < sN S 8) : z_K yX1_number cX1_number 4 (some .long) 2 0 0 [.ref (xi x k + 32)] (HP (cfun S x) m d) (fun v h' => v = some (.long (valS S k)) ∧ h' = (HP (cfun S x) m d)) :=
  c_X1_number (HPd (C.1.1 k hk)) (octS S k) (fun _ hp => c_X1_oct C W hk hp) (W.2 k hk).1

set_option maxRecDepth 100000 in
set_option maxHeartbeats 1000000 in
theorem c_X5_value {S : z_S} {x : z_Xc} {m : Nat → z_E} {d : z_H} (y : Int32) (C : CR S x d) (W : idsOK S) : z_K yX5_value cX5_value 3 (some .long) 3 0 0 [.ref 1, .int y] (HP (cfun S x) m d) (fun v h' => v = some (.long (sp_value S y)) ∧ h' = (HP (cfun S x) m d)) := by
  refine z_met vI_X5_value (Nat.le_of_ble_eq_true rfl) (fun G X F hr hnm => ?_)
  refine z_aload_n F dX5_value_0 rfl rfl ?_
  refine z_iload_n F dX5_value_1 rfl ?_
  refine z_callV F z_nwOK wL_good (c_X5_findIdentifier C.1 W.1) cO_at rfl vI_X5_findIdentifier vM_X5_83 vV_X5_findIdentifier vL_X5_findIdentifier rfl dX5_value_2 rfl rfl (Nat.le_of_ble_eq_true rfl) ⟨(Nat.le_of_ble_eq_true rfl), (Nat.le_of_ble_eq_true rfl), (Nat.le_of_ble_eq_true rfl), (Nat.le_of_ble_eq_true rfl)⟩ (fun v h1 hq => ?_)
  obtain ⟨rfl, rfl⟩ := hq
  cases hf : fnd (sAI S 9) y (sN S 8) with
  | none =>
    have hs : sp_value S y = 0 := by unfold sp_value; rw [hf]
    refine z_astore_n F dX5_value_5 rfl (Nat.le_of_ble_eq_true rfl) ?_
    refine z_aload_n F dX5_value_6 rfl rfl ?_
    refine z_ifnonnull (tgt := 14) F dX5_value_7 (by decide) rfl (fun c7 => absurd rfl c7) (fun c7 => ?_)
    refine z_lconst (v := 0) F dX5_value_10 rfl ?_
    refine z_goto (tgt := 18) F dX5_value_11 (by decide) ?_
    exact z_lret F hr dX5_value_18 (Nat.le_of_ble_eq_true rfl) (Nat.le_of_ble_eq_true rfl) (⟨by rw [hs], rfl⟩)
  | some k =>
    have hk := fnd_lt hf
    have hs : sp_value S y = valS S k := by unfold sp_value; rw [hf]
    refine z_astore_n F dX5_value_5 rfl (Nat.le_of_ble_eq_true rfl) ?_
    refine z_aload_n F dX5_value_6 rfl rfl ?_
    refine z_ifnonnull (tgt := 14) F dX5_value_7 (by decide) rfl (fun c7 => ?_) (fun c7 => absurd c7 (by intro q; cases q))
    refine z_aload_n F dX5_value_14 rfl rfl ?_
    refine z_callV F z_nwOK wL_good (c_X1_num C W hk) (HPd (C.1.1 k hk)) rfl vI_X1_number vM_X5_162 vV_X1_number vL_X1_number rfl dX5_value_15 rfl rfl (Nat.le_of_ble_eq_true rfl) ⟨(Nat.le_of_ble_eq_true rfl), (Nat.le_of_ble_eq_true rfl), (Nat.le_of_ble_eq_true rfl), (Nat.le_of_ble_eq_true rfl)⟩ (fun v h1 hq => ?_)
    obtain ⟨rfl, rfl⟩ := hq
    exact z_lret F hr dX5_value_18 (Nat.le_of_ble_eq_true rfl) (Nat.le_of_ble_eq_true rfl) (⟨by rw [hs], rfl⟩)

set_option maxRecDepth 100000 in
set_option maxHeartbeats 1000000 in
theorem c_X5_control {S : z_S} {x : z_Xc} {m : Nat → z_E} {d : z_H} (id k : Int32) (w : Int64) (C : CR S x d) (h40 : sN S 8 ≤ 40) : z_K yX5_control cX5_control 6 (some .int) 1 0 0 [.ref 1, .int id, .int k, .long w] (HP (cfun S x) m d) (fun v h' => v = some (.int (sp_control S id k w).1) ∧ ∃ (x' : z_Xc) (d' : z_H), h' = HP (cfun (sp_control S id k w).2 x') m d' ∧ CR (sp_control S id k w).2 x' d' ∧ KX x x') := by
  refine z_met vI_X5_control (Nat.le_of_ble_eq_true rfl) (fun G X F hr hnm => ?_)
  refine z_aload_n F dX5_control_0 rfl rfl ?_
  refine z_iload_n F dX5_control_1 rfl ?_
  refine z_callV F z_nwOK wL_good (c_X5_findIdentifier C.1 h40) cO_at rfl vI_X5_findIdentifier vM_X5_83 vV_X5_findIdentifier vL_X5_findIdentifier rfl dX5_control_2 rfl rfl (Nat.le_of_ble_eq_true rfl) ⟨(Nat.le_of_ble_eq_true rfl), (Nat.le_of_ble_eq_true rfl), (Nat.le_of_ble_eq_true rfl), (Nat.le_of_ble_eq_true rfl)⟩ (fun v h1 hq => ?_)
  obtain ⟨rfl, rfl⟩ := hq
  cases hf : fnd (sAI S 9) id (sN S 8) with
  | none =>
    have hs : sp_control S id k w = (-1, uN S 0 0) := by unfold sp_control; rw [hf]
    refine z_astore F dX5_control_5 rfl (Nat.le_of_ble_eq_true rfl) ?_
    refine z_aload F dX5_control_7 rfl rfl ?_
    refine z_ifnonnull (tgt := 14) F dX5_control_9 (by decide) rfl (fun c9 => absurd rfl c9) (fun c9 => ?_)
    refine z_iconst (v := (-1)) F dX5_control_12 rfl ?_
    exact z_iret F hr dX5_control_13 rfl (Nat.le_of_ble_eq_true rfl) (Nat.le_of_ble_eq_true rfl) (⟨by rw [hs]; try rfl, x, d, by rw [hs]; try rfl, by rw [hs]; exact C, rfl, rfl, rfl⟩)
  | some i =>
    have hk := fnd_lt hf
    have hc := HPd (c := cfun S x) (m := m) (C.1.1 i hk)
    refine z_astore F dX5_control_5 rfl (Nat.le_of_ble_eq_true rfl) ?_
    refine z_aload F dX5_control_7 rfl rfl ?_
    refine z_ifnonnull (tgt := 14) F dX5_control_9 (by decide) rfl (fun c9 => ?_) (fun c9 => absurd c9 (by intro q; cases q))
    refine z_iload_n F dX5_control_14 rfl ?_
    refine z_iconst (v := 0) F dX5_control_15 rfl ?_
    refine z_iconst (v := 1) F dX5_control_16 rfl ?_
    refine z_callS F z_nwOK wL_good (c_within (A := 0) (B := 1) k 0 1 rfl rfl) vI_X5_isWithin vM_X5_79 vS_X5_isWithin rfl dX5_control_17 rfl rfl (Nat.le_of_ble_eq_true rfl) ⟨(Nat.le_of_ble_eq_true rfl), (Nat.le_of_ble_eq_true rfl), (Nat.le_of_ble_eq_true rfl), (Nat.le_of_ble_eq_true rfl)⟩ (fun v h1 hq => ?_)
    obtain ⟨rfl, rfl⟩ := hq
    refine z_if_ne (tgt := 26) F dX5_control_20 (by decide) (fun c20 => ?_) (fun c20 => ?_)
    · have hA := z_b1 c20
      refine z_aload F dX5_control_26 rfl rfl ?_
      refine z_getf F vF_X5_101 dX5_control_28 hc rfl ?_
      refine z_if_eq (tgt := 37) F dX5_control_31 (by decide) (fun c31 => ?_) (fun c31 => ?_)
      · have hJ : sAB S 17 i = false := z_b0.mp c31
        refine z_iload_n F dX5_control_37 rfl ?_
        refine z_if_ne (tgt := 50) F dX5_control_38 (by decide) (fun c38 => ?_) (fun c38 => ?_)
        · have hs : sp_control S id k w = (1, uAB (uN S 0 0) 16 (va_up (sAB S 16) i (decide (w = 0)))) := by unfold sp_control; rw [hf]; show (if _ then _ else _) = _; rw [if_pos hA, if_neg (by rw [hJ]; decide), if_neg c38]
          refine z_aload F dX5_control_50 rfl rfl ?_
          refine z_lload_n F dX5_control_52 rfl ?_
          refine z_lconst (v := 0) F dX5_control_53 rfl ?_
          refine z_lcmp F dX5_control_54 ?_
          refine z_if_eq (tgt := 62) F dX5_control_55 (by decide) (fun c55 => ?_) (fun c55 => ?_)
          · rw [decide_eq_true ((lg_cmp_eq w 0).mp c55)] at hs
            have CI : CR (uAB (uN S 0 0) 16 (va_up (sAB S 16) i true)) x (d.set (xi x i) (IO (uAB (uN S 0 0) 16 (va_up (sAB S 16) i true)) x i)) := CR_id C hk rfl rfl rfl rfl rfl rfl rfl rfl rfl rfl rfl rfl (fun _ => rfl) (fun j hj => by unfold IO; rw [show sAB (uAB (uN S 0 0) 16 (va_up (sAB S 16) i true)) 16 j = sAB S 16 j from va_up_ne _ _ hj]; rfl) C.1.2 C.2.2.2.2.1 C.2.2.2.2.2.1 C.2.2.2.2.2.2
            refine z_iconst (v := 0) F dX5_control_62 rfl ?_
            refine z_putf F vF_X5_118 vT_X1 vD_X1_5 dX5_control_63 hc (Nat.le_of_ble_eq_true rfl) rfl rfl (fun g63 => ?_)
            refine z_heap (HP (cfun S x) m (d.set (xi x i) (IO (uAB (uN S 0 0) 16 (va_up (sAB S 16) i true)) x i))) (by unfold IO; rw [show sAB (uAB (uN S 0 0) 16 (va_up (sAB S 16) i true)) 16 i = true from va_up_self _ _ _]; rfl) ?_
            refine z_iconst (v := 1) F dX5_control_66 rfl ?_
            exact z_iret F hr dX5_control_67 rfl (Nat.le_of_ble_eq_true rfl) (Nat.le_of_ble_eq_true rfl) (⟨by rw [hs]; try rfl, x, d.set (xi x i) (IO (uAB (uN S 0 0) 16 (va_up (sAB S 16) i true)) x i), by rw [hs]; try rfl, by rw [hs]; exact CI, rfl, rfl, rfl⟩)
          · rw [decide_eq_false (fun e => c55 ((lg_cmp_eq w 0).mpr e))] at hs
            have CI : CR (uAB (uN S 0 0) 16 (va_up (sAB S 16) i false)) x (d.set (xi x i) (IO (uAB (uN S 0 0) 16 (va_up (sAB S 16) i false)) x i)) := CR_id C hk rfl rfl rfl rfl rfl rfl rfl rfl rfl rfl rfl rfl (fun _ => rfl) (fun j hj => by unfold IO; rw [show sAB (uAB (uN S 0 0) 16 (va_up (sAB S 16) i false)) 16 j = sAB S 16 j from va_up_ne _ _ hj]; rfl) C.1.2 C.2.2.2.2.1 C.2.2.2.2.2.1 C.2.2.2.2.2.2
            refine z_iconst (v := 1) F dX5_control_58 rfl ?_
            refine z_goto (tgt := 63) F dX5_control_59 (by decide) ?_
            refine z_putf F vF_X5_118 vT_X1 vD_X1_5 dX5_control_63 hc (Nat.le_of_ble_eq_true rfl) rfl rfl (fun g63 => ?_)
            refine z_heap (HP (cfun S x) m (d.set (xi x i) (IO (uAB (uN S 0 0) 16 (va_up (sAB S 16) i false)) x i))) (by unfold IO; rw [show sAB (uAB (uN S 0 0) 16 (va_up (sAB S 16) i false)) 16 i = false from va_up_self _ _ _]; rfl) ?_
            refine z_iconst (v := 1) F dX5_control_66 rfl ?_
            exact z_iret F hr dX5_control_67 rfl (Nat.le_of_ble_eq_true rfl) (Nat.le_of_ble_eq_true rfl) (⟨by rw [hs]; try rfl, x, d.set (xi x i) (IO (uAB (uN S 0 0) 16 (va_up (sAB S 16) i false)) x i), by rw [hs]; try rfl, by rw [hs]; exact CI, rfl, rfl, rfl⟩)
        · have hs : sp_control S id k w = (1, uAL (uN S 0 0) 13 (va_up (sAL S 13) i w)) := by unfold sp_control; rw [hf]; show (if _ then _ else _) = _; rw [if_pos hA, if_neg (by rw [hJ]; decide), if_pos c38]
          have CI : CR (uAL (uN S 0 0) 13 (va_up (sAL S 13) i w)) x (d.set (xi x i) (IO (uAL (uN S 0 0) 13 (va_up (sAL S 13) i w)) x i)) := CR_id C hk rfl rfl rfl rfl rfl rfl rfl rfl rfl rfl rfl rfl (fun _ => rfl) (fun j hj => by unfold IO; rw [show sAL (uAL (uN S 0 0) 13 (va_up (sAL S 13) i w)) 13 j = sAL S 13 j from va_up_ne _ _ hj]; rfl) C.1.2 C.2.2.2.2.1 C.2.2.2.2.2.1 C.2.2.2.2.2.2
          refine z_aload F dX5_control_41 rfl rfl ?_
          refine z_lload_n F dX5_control_43 rfl ?_
          refine z_putf F vF_X5_115 vT_X1 vD_X1_6 dX5_control_44 hc (Nat.le_of_ble_eq_true rfl) rfl rfl (fun g44 => ?_)
          refine z_heap (HP (cfun S x) m (d.set (xi x i) (IO (uAL (uN S 0 0) 13 (va_up (sAL S 13) i w)) x i))) (by unfold IO; rw [show sAL (uAL (uN S 0 0) 13 (va_up (sAL S 13) i w)) 13 i = w from va_up_self _ _ _]; rfl) ?_
          refine z_goto (tgt := 66) F dX5_control_47 (by decide) ?_
          refine z_iconst (v := 1) F dX5_control_66 rfl ?_
          exact z_iret F hr dX5_control_67 rfl (Nat.le_of_ble_eq_true rfl) (Nat.le_of_ble_eq_true rfl) (⟨by rw [hs]; try rfl, x, d.set (xi x i) (IO (uAL (uN S 0 0) 13 (va_up (sAL S 13) i w)) x i), by rw [hs]; try rfl, by rw [hs]; exact CI, rfl, rfl, rfl⟩)
      · have hJ : sAB S 17 i = true := z_b1 c31
        have hs : sp_control S id k w = (-3, uN S 0 0) := by unfold sp_control; rw [hf]; show (if _ then _ else _) = _; rw [if_pos hA, if_pos hJ]
        refine z_bipush (v := (-3)) F dX5_control_34 rfl ?_
        exact z_iret F hr dX5_control_36 rfl (Nat.le_of_ble_eq_true rfl) (Nat.le_of_ble_eq_true rfl) (⟨by rw [hs]; try rfl, x, d, by rw [hs]; try rfl, by rw [hs]; exact C, rfl, rfl, rfl⟩)
    · have hs : sp_control S id k w = (-2, uN S 0 0) := by unfold sp_control; rw [hf]; exact if_neg (by rw [z_b0.mp c20]; decide)
      refine z_bipush (v := (-2)) F dX5_control_23 rfl ?_
      exact z_iret F hr dX5_control_25 rfl (Nat.le_of_ble_eq_true rfl) (Nat.le_of_ble_eq_true rfl) (⟨by rw [hs]; try rfl, x, d, by rw [hs]; try rfl, by rw [hs]; exact C, rfl, rfl, rfl⟩)
