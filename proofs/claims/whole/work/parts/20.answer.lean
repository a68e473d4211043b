/-! cells: reading behind a writing -/
theorem z_ss {h : z_H} {a : Nat} {c e : z_E} (ha : h[a]? = some e) : (h.set a c)[a]? = some c := List.getElem?_set_self (List.getElem?_eq_some_iff.mp ha).1
theorem z_sn {h : z_H} {a b : Nat} {c : z_E} (hne : a ≠ b) : (h.set a c)[b]? = h[b]? := List.getElem?_set_ne hne
theorem z_pa {h : z_H} {a : Nat} {x e : z_E} (ha : h[a]? = some x) : (h ++ [e])[a]? = some x := by
  rw [List.getElem?_append_left (List.getElem?_eq_some_iff.mp ha).1]; exact ha
theorem z_pl {h : z_H} {e : z_E} : (h ++ [e])[h.length]? = some e := by simp
theorem z_sid {h : z_H} {a : Nat} {c : z_E} (ha : h[a]? = some c) : h.set a c = h := by
  apply List.ext_getElem?
  intro i
  by_cases hi : a = i
  · subst hi; rw [z_ss ha, ha]
  · rw [z_sn hi]
theorem z_b8 (x : Int32) : x.toInt8.toInt32.toInt8.toInt32 = x.toInt8.toInt32 := by rw [Int8.toInt8_toInt32]
/-! Answer: at a, its octets at o -/
def A_at (h : z_H) (a o n : Nat) (f : Nat → Int32) : Prop := h[a]? = some (.inr (1, [.ref o, .int (nI n)])) ∧ h[o]? = some (.inl (1, 41, .inl f)) ∧ a ≠ o
def A_set (h : z_H) (a o n : Nat) (f : Nat → Int32) : z_H := (h.set o (.inl (1, 41, .inl f))).set a (.inr (1, [.ref o, .int (nI n)]))
theorem A_ss {h : z_H} {a o n m : Nat} {f g : Nat → Int32} (H : A_at h a o n f) : A_at (A_set h a o m g) a o m g :=
  ⟨z_ss (e := .inr (1, [.ref o, .int (nI n)])) (by rw [z_sn (Ne.symm H.2.2)]; exact H.1), by unfold A_set; rw [z_sn H.2.2]; exact z_ss H.2.1, H.2.2⟩
theorem A_set2 {h : z_H} {a o n m : Nat} {f g : Nat → Int32} (hne : a ≠ o) : A_set (A_set h a o n f) a o m g = A_set h a o m g := by
  unfold A_set
  rw [List.set_comm _ _ hne, List.set_set, List.set_set]
theorem A_self {h : z_H} {a o n : Nat} {f : Nat → Int32} (H : A_at h a o n f) : A_set h a o n f = h := by
  unfold A_set
  rw [z_sid H.2.1, z_sid H.1]
theorem A_ne {h : z_H} {a o n k : Nat} {f : Nat → Int32} (h1 : a ≠ k) (h2 : o ≠ k) : (A_set h a o n f)[k]? = h[k]? := by
  unfold A_set
  rw [z_sn h1, z_sn h2]
theorem A_len {h : z_H} {a o n : Nat} {f : Nat → Int32} : (A_set h a o n f).length = h.length := by
  unfold A_set
  rw [List.length_set, List.length_set]

set_option maxRecDepth 100000 in
set_option maxHeartbeats 1000000 in
theorem c_X0_clear {h : z_H} {a o n : Nat} {f : Nat → Int32} (H : A_at h a o n f) : z_K yX0_clear cX0_clear 1 none 0 0 0 [.ref a] h (fun v h' => v = none ∧ h' = A_set h a o 0 f) := by
  refine z_met vI_X0_clear (Nat.le_of_ble_eq_true rfl) (fun G X F hr hnm => ?_)
  refine z_aload_n F dX0_clear_0 rfl rfl ?_
  refine z_iconst (v := 0) F dX0_clear_1 rfl ?_
  refine z_putf F vF_X0_15 vT_X0 vD_X0_1 dX0_clear_2 H.1 (Nat.le_of_ble_eq_true rfl) rfl rfl (fun g2 => ?_)
  exact z_vret F hr dX0_clear_5 (Nat.le_of_ble_eq_true rfl) (Nat.le_of_ble_eq_true rfl) (⟨rfl, by unfold A_set; rw [z_sid H.2.1]; rfl⟩)

set_option maxRecDepth 100000 in
set_option maxHeartbeats 1000000 in
theorem c_X0_put {h : z_H} {a o n : Nat} {f : Nat → Int32} (x : Int32) (H : A_at h a o n f) (hn : n < 41) : z_K yX0_put cX0_put 2 none 0 0 0 [.ref a, .int x] h (fun v h' => v = none ∧ h' = A_set h a o (n + 1) (upd f n x.toInt8.toInt32)) := by
  refine z_met vI_X0_put (Nat.le_of_ble_eq_true rfl) (fun G X F hr hnm => ?_)
  refine z_aload_n F dX0_put_0 rfl rfl ?_
  refine z_getf F vF_X0_15 dX0_put_1 H.1 rfl ?_
  refine z_if_lt (tgt := 40) F dX0_put_4 (by decide) (fun c4 => absurd c4 (nI_pos (by omega))) (fun c4 => ?_)
  refine z_aload_n F dX0_put_7 rfl rfl ?_
  refine z_getf F vF_X0_15 dX0_put_8 H.1 rfl ?_
  refine z_aload_n F dX0_put_11 rfl rfl ?_
  refine z_getf F vF_X0_9 dX0_put_12 H.1 rfl ?_
  refine z_alen (v := nI 41) F dX0_put_15 H.2.1 rfl rfl ?_
  refine z_icmp_ge (tgt := 40) F dX0_put_16 (by decide) (fun c16 => absurd c16 (nI_ge hn (by decide))) (fun c16 => ?_)
  refine z_aload_n F dX0_put_19 rfl rfl ?_
  refine z_getf F vF_X0_9 dX0_put_20 H.1 rfl ?_
  refine z_aload_n F dX0_put_23 rfl rfl ?_
  refine z_getf F vF_X0_15 dX0_put_24 H.1 rfl ?_
  refine z_iload_n F dX0_put_27 rfl ?_
  refine z_i2b F dX0_put_28 ?_
  refine z_bast F dX0_put_29 H.2.1 rfl rfl hn (Nat.le_of_ble_eq_true rfl) ?_
  have h29 : (h.set o (.inl (1, 41, .inl (upd f n x.toInt8.toInt32.toInt8.toInt32))))[a]? = some (.inr (1, [.ref o, .int (nI n)])) := by rw [z_sn (Ne.symm H.2.2)]; exact H.1
  refine z_aload_n F dX0_put_30 rfl rfl ?_
  refine z_dup F dX0_put_31 rfl ?_
  refine z_getf F vF_X0_15 dX0_put_32 h29 rfl ?_
  refine z_iconst (v := 1) F dX0_put_35 rfl ?_
  refine z_iadd F dX0_put_36 ?_
  rw [nI_1]
  refine z_putf F vF_X0_15 vT_X0 vD_X0_1 dX0_put_37 h29 (Nat.le_of_ble_eq_true rfl) rfl rfl (fun g37 => ?_)
  exact z_vret F hr dX0_put_40 (Nat.le_of_ble_eq_true rfl) (Nat.le_of_ble_eq_true rfl) (⟨rfl, by rw [z_b8]; rfl⟩)

set_option maxRecDepth 100000 in
set_option maxHeartbeats 1000000 in
theorem c_X0_putWord {h : z_H} {a o n : Nat} {f : Nat → Int32} (x : Int32) (H : A_at h a o n f) (hn : n + 1 < 41) : z_K yX0_putWord cX0_putWord 2 none 1 0 0 [.ref a, .int x] h (fun v h' => v = none ∧ h' = A_set h a o (n + 2) (upd (upd f n (x >>> ((8 : Int32) &&& 31)).toInt8.toInt32) (n + 1) x.toInt8.toInt32)) := by
  refine z_met vI_X0_putWord (Nat.le_of_ble_eq_true rfl) (fun G X F hr hnm => ?_)
  refine z_aload_n F dX0_putWord_0 rfl rfl ?_
  refine z_iload_n F dX0_putWord_1 rfl ?_
  refine z_bipush (v := 8) F dX0_putWord_2 rfl ?_
  refine z_ishr F dX0_putWord_4 ?_
  refine z_callV F z_nwOK wL_good (c_X0_put (x >>> ((8 : Int32) &&& 31)) H (by omega)) H.1 rfl vI_X0_put vM_X0_19 vV_X0_put vL_X0_put rfl dX0_putWord_5 rfl rfl (Nat.le_of_ble_eq_true rfl) ⟨(Nat.le_of_ble_eq_true rfl), (Nat.le_of_ble_eq_true rfl), (Nat.le_of_ble_eq_true rfl), (Nat.le_of_ble_eq_true rfl)⟩ (fun v h1 hq => ?_)
  obtain ⟨rfl, rfl⟩ := hq
  have H2 := A_ss (m := n + 1) (g := upd f n (x >>> ((8 : Int32) &&& 31)).toInt8.toInt32) H
  refine z_aload_n F dX0_putWord_8 rfl rfl ?_
  refine z_iload_n F dX0_putWord_9 rfl ?_
  refine z_callV F z_nwOK wL_good (c_X0_put x H2 (by omega)) H2.1 rfl vI_X0_put vM_X0_19 vV_X0_put vL_X0_put rfl dX0_putWord_10 rfl rfl (Nat.le_of_ble_eq_true rfl) ⟨(Nat.le_of_ble_eq_true rfl), (Nat.le_of_ble_eq_true rfl), (Nat.le_of_ble_eq_true rfl), (Nat.le_of_ble_eq_true rfl)⟩ (fun v h1 hq => ?_)
  obtain ⟨rfl, rfl⟩ := hq
  exact z_vret F hr dX0_putWord_13 (Nat.le_of_ble_eq_true rfl) (Nat.le_of_ble_eq_true rfl) (⟨rfl, by rw [A_set2 H.2.2]⟩)

set_option maxRecDepth 100000 in
set_option maxHeartbeats 1000000 in
theorem c_X0_has_y {h : z_H} {a o n : Nat} {f : Nat → Int32} {j : Nat} (H : A_at h a o n f) (hn : n ≤ 41) (hj : j < n) : z_K yX0_has cX0_has 2 (some .boolean) 0 0 0 [.ref a, .int (nI j)] h (fun v h' => v = some (.int 1) ∧ h' = h) := by
  refine z_met vI_X0_has (Nat.le_of_ble_eq_true rfl) (fun G X F hr hnm => ?_)
  refine z_iload_n F dX0_has_0 rfl ?_
  refine z_if_lt (tgt := 25) F dX0_has_1 (by decide) (fun c1 => absurd c1 (nI_pos (by omega))) (fun c1 => ?_)
  refine z_iload_n F dX0_has_4 rfl ?_
  refine z_aload_n F dX0_has_5 rfl rfl ?_
  refine z_getf F vF_X0_15 dX0_has_6 H.1 rfl ?_
  refine z_icmp_ge (tgt := 25) F dX0_has_9 (by decide) (fun c9 => absurd c9 (nI_ge hj (by omega))) (fun c9 => ?_)
  refine z_iload_n F dX0_has_12 rfl ?_
  refine z_aload_n F dX0_has_13 rfl rfl ?_
  refine z_getf F vF_X0_9 dX0_has_14 H.1 rfl ?_
  refine z_alen (v := nI 41) F dX0_has_17 H.2.1 rfl rfl ?_
  refine z_icmp_ge (tgt := 25) F dX0_has_18 (by decide) (fun c18 => absurd c18 (nI_ge (by omega) (by decide))) (fun c18 => ?_)
  refine z_iconst (v := 1) F dX0_has_21 rfl ?_
  refine z_goto (tgt := 26) F dX0_has_22 (by decide) ?_
  exact z_iret F hr dX0_has_26 rfl (Nat.le_of_ble_eq_true rfl) (Nat.le_of_ble_eq_true rfl) (⟨rfl, rfl⟩)

set_option maxRecDepth 100000 in
set_option maxHeartbeats 1000000 in
theorem c_X0_has_n {h : z_H} {a o n : Nat} {f : Nat → Int32} {i : Int32} (H : A_at h a o n f) (hi : ¬ i < 0 → ¬ nI n ≤ i → False) : z_K yX0_has cX0_has 2 (some .boolean) 0 0 0 [.ref a, .int i] h (fun v h' => v = some (.int 0) ∧ h' = h) := by
  refine z_met vI_X0_has (Nat.le_of_ble_eq_true rfl) (fun G X F hr hnm => ?_)
  refine z_iload_n F dX0_has_0 rfl ?_
  refine z_if_lt (tgt := 25) F dX0_has_1 (by decide) (fun c1 => ?_) (fun c1 => ?_)
  · refine z_iconst (v := 0) F dX0_has_25 rfl ?_
    exact z_iret F hr dX0_has_26 rfl (Nat.le_of_ble_eq_true rfl) (Nat.le_of_ble_eq_true rfl) (⟨rfl, rfl⟩)
  · refine z_iload_n F dX0_has_4 rfl ?_
    refine z_aload_n F dX0_has_5 rfl rfl ?_
    refine z_getf F vF_X0_15 dX0_has_6 H.1 rfl ?_
    refine z_icmp_ge (tgt := 25) F dX0_has_9 (by decide) (fun c9 => ?_) (fun c9 => absurd (hi c1 c9) id)
    refine z_iconst (v := 0) F dX0_has_25 rfl ?_
    exact z_iret F hr dX0_has_26 rfl (Nat.le_of_ble_eq_true rfl) (Nat.le_of_ble_eq_true rfl) (⟨rfl, rfl⟩)

set_option maxRecDepth 100000 in
set_option maxHeartbeats 1000000 in
theorem c_X0_octetAt {h : z_H} {a o n : Nat} {f : Nat → Int32} {j : Nat} (H : A_at h a o n f) (hn : n ≤ 41) (hj : j < n) (hb : (f j).toInt8.toInt32 = f j) : z_K yX0_octetAt cX0_octetAt 2 (some .byte) 1 0 0 [.ref a, .int (nI j)] h (fun v h' => v = some (.int (f j)) ∧ h' = h) := by
  refine z_met vI_X0_octetAt (Nat.le_of_ble_eq_true rfl) (fun G X F hr hnm => ?_)
  refine z_aload_n F dX0_octetAt_0 rfl rfl ?_
  refine z_iload_n F dX0_octetAt_1 rfl ?_
  refine z_callV F z_nwOK wL_good (c_X0_has_y H hn hj) H.1 rfl vI_X0_has vM_X0_23 vV_X0_has vL_X0_has rfl dX0_octetAt_2 rfl rfl (Nat.le_of_ble_eq_true rfl) ⟨(Nat.le_of_ble_eq_true rfl), (Nat.le_of_ble_eq_true rfl), (Nat.le_of_ble_eq_true rfl), (Nat.le_of_ble_eq_true rfl)⟩ (fun v h1 hq => ?_)
  obtain ⟨rfl, rfl⟩ := hq
  refine z_if_eq (tgt := 17) F dX0_octetAt_5 (by decide) (fun c5 => absurd c5 (by decide)) (fun c5 => ?_)
  refine z_aload_n F dX0_octetAt_8 rfl rfl ?_
  refine z_getf F vF_X0_9 dX0_octetAt_9 H.1 rfl ?_
  refine z_iload_n F dX0_octetAt_12 rfl ?_
  refine z_bald F dX0_octetAt_13 H.2.1 rfl rfl (Nat.lt_of_lt_of_le hj hn) (Nat.le_of_ble_eq_true rfl) ?_
  refine z_goto (tgt := 18) F dX0_octetAt_14 (by decide) ?_
  exact z_iret F hr dX0_octetAt_18 (congrArg Value.int hb) (Nat.le_of_ble_eq_true rfl) (Nat.le_of_ble_eq_true rfl) (⟨rfl, rfl⟩)

set_option maxRecDepth 100000 in
set_option maxHeartbeats 1000000 in
theorem c_X0_init {h : z_H} {a : Nat} (ha : h[a]? = some (.inr (1, [.null, .int 0]))) : z_K yX0_init cX0_init 1 none 1 1 41 [.ref a] h (fun v h' => v = none ∧ h' = (h ++ [(.inl (1, 41, .inl (fun _ => 0)) : z_E)]).set a (.inr (1, [.ref h.length, .int 0]))) := by
  refine z_met vI_X0_init (Nat.le_of_ble_eq_true rfl) (fun G X F hr hnm => ?_)
  refine z_aload_n F dX0_init_0 rfl rfl ?_
  refine z_objInit F vM_X0_3 vO_i vO_c dX0_init_1 (Nat.le_of_ble_eq_true rfl) (Nat.le_of_ble_eq_true rfl) ?_
  refine z_aload_n F dX0_init_4 rfl rfl ?_
  refine z_bipush (v := 41) F dX0_init_5 rfl ?_
  refine z_newa (atype := .byte) (N := 41) (a0 := (41, (.inl (fun _ => 0)))) (t := 1) F vA_byte rfl (fun _ _ => rfl) (by decide) rfl (Nat.le_of_ble_eq_true rfl) dX0_init_7 (Nat.le_of_ble_eq_true rfl) (Nat.le_of_ble_eq_true rfl) ?_
  refine z_putF F vF_X0_9 vT_X0 vD_X0_0 ⟨_, rfl, rfl⟩ hnm dX0_init_9 (z_pa ha) (Nat.le_of_ble_eq_true rfl) rfl rfl (fun g9 => ?_)
  refine z_aload_n F dX0_init_12 rfl rfl ?_
  refine z_iconst (v := 0) F dX0_init_13 rfl ?_
  refine z_putf F vF_X0_15 vT_X0 vD_X0_1 dX0_init_14 g9 (Nat.le_of_ble_eq_true rfl) rfl rfl (fun g14 => ?_)
  exact z_vret F hr dX0_init_17 (Nat.le_of_ble_eq_true rfl) (Nat.le_of_ble_eq_true rfl) (⟨rfl, by rw [List.set_set]; rfl⟩)
