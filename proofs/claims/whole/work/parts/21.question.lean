/-! truth values, octets, numbers out of octets -/
def z_b (b : Bool) : Int32 := match b with
  | true => 1
  | false => 0
theorem z_b0 {b : Bool} : z_b b = 0 ↔ b = false := by cases b <;> decide
theorem z_bnar (b : Bool) : narrow .boolean (.int (z_b b)) = .int (z_b b) := by cases b <;> rfl
theorem z_bfit (b : Bool) : fits .boolean (.int (z_b b)) = true := by cases b <;> rfl
/-- octet k of a question of n octets f, 0 where there is none -/
def Qo (f : Nat → Int32) (n k : Nat) : Int32 := if k < n then f k &&& 255 else 0
def numL (g : Nat → Int32) : Nat → Int64
  | 0 => 0
  | k + 1 => (numL g k <<< ((8 : Int32).toInt64 &&& 63)) ||| (g k).toInt64
/-! Question: at q, its octets at o -/
def Q_o (o : Nat) (bg : Bool) (due n : Nat) (al : Bool) : z_E := .inr (3, [.ref o, .int (z_b bg), .int (nI due), .int (nI n), .int (z_b al)])
def Q_at (h : z_H) (q o : Nat) (bg : Bool) (due n : Nat) (al : Bool) (f : Nat → Int32) : Prop := h[q]? = some (.inr (3, [.ref o, .int (z_b bg), .int (nI due), .int (nI n), .int (z_b al)])) ∧ h[o]? = some (.inl (1, 60, .inl f)) ∧ q ≠ o
def Q_set (h : z_H) (q o : Nat) (bg : Bool) (due n : Nat) (al : Bool) (f : Nat → Int32) : z_H := (h.set o (.inl (1, 60, .inl f))).set q (Q_o o bg due n al)
theorem Q_ss {h : z_H} {q o due n due' n' : Nat} {bg al bg' al' : Bool} {f g : Nat → Int32} (H : Q_at h q o bg due n al f) : Q_at (Q_set h q o bg' due' n' al' g) q o bg' due' n' al' g :=
  ⟨z_ss (e := Q_o o bg due n al) (by rw [z_sn (Ne.symm H.2.2)]; exact H.1), by unfold Q_set; rw [z_sn H.2.2]; exact z_ss H.2.1, H.2.2⟩
theorem Q_set2 {h : z_H} {q o due n due' n' : Nat} {bg al bg' al' : Bool} {f g : Nat → Int32} (hne : q ≠ o) : Q_set (Q_set h q o bg due n al f) q o bg' due' n' al' g = Q_set h q o bg' due' n' al' g := by
  unfold Q_set
  rw [List.set_comm _ _ hne, List.set_set, List.set_set]
theorem Q_self {h : z_H} {q o due n : Nat} {bg al : Bool} {f : Nat → Int32} (H : Q_at h q o bg due n al f) : Q_set h q o bg due n al f = h := by
  unfold Q_set Q_o
  rw [z_sid H.2.1, z_sid H.1]
theorem Q_ne {h : z_H} {q o due n k : Nat} {bg al : Bool} {f : Nat → Int32} (h1 : q ≠ k) (h2 : o ≠ k) : (Q_set h q o bg due n al f)[k]? = h[k]? := by
  unfold Q_set
  rw [z_sn h1, z_sn h2]
theorem Q_len {h : z_H} {q o due n : Nat} {bg al : Bool} {f : Nat → Int32} : (Q_set h q o bg due n al f).length = h.length := by
  unfold Q_set
  rw [List.length_set, List.length_set]
theorem nI_min60 (m : Nat) (hm : m < 128) : (if (60 : Int32) < nI m then 60 else nI m) = nI (min m 60) := by
  rw [show (60 : Int32) = nI 60 from rfl]
  by_cases hc : m ≤ 60
  · rw [if_neg (show ¬ nI 60 < nI m from nI_nlt hc (by decide)), Nat.min_eq_left hc]
  · rw [if_pos (show nI 60 < nI m from nI_lt (by omega) (by omega)), Nat.min_eq_right (by omega)]

set_option maxRecDepth 100000 in
set_option maxHeartbeats 1000000 in
theorem c_X2_end {h : z_H} {q o due n : Nat} {bg al : Bool} {f : Nat → Int32} (H : Q_at h q o bg due n al f) : z_K yX2_end cX2_end 1 none 0 0 0 [.ref q] h (fun v h' => v = none ∧ h' = Q_set h q o false due n al f) := by
  refine z_met vI_X2_end (Nat.le_of_ble_eq_true rfl) (fun G X F hr hnm => ?_)
  refine z_aload_n F dX2_end_0 rfl rfl ?_
  refine z_iconst (v := 0) F dX2_end_1 rfl ?_
  refine z_putf F vF_X2_15 vT_X2 vD_X2_1 dX2_end_2 H.1 (Nat.le_of_ble_eq_true rfl) rfl rfl (fun g2 => ?_)
  exact z_vret F hr dX2_end_5 (Nat.le_of_ble_eq_true rfl) (Nat.le_of_ble_eq_true rfl) (⟨rfl, by unfold Q_set; rw [z_sid H.2.1]; rfl⟩)

set_option maxRecDepth 100000 in
set_option maxHeartbeats 1000000 in
theorem c_X2_isWhole {h : z_H} {q o due n : Nat} {bg al : Bool} {f : Nat → Int32} (H : Q_at h q o bg due n al f) (hn : n ≤ 60) (hd : due ≤ 60) : z_K yX2_isWhole cX2_isWhole 1 (some .boolean) 0 0 0 [.ref q] h (fun v h' => v = some (.int (z_b (bg && decide (due ≤ n)))) ∧ h' = h) := by
  refine z_met vI_X2_isWhole (Nat.le_of_ble_eq_true rfl) (fun G X F hr hnm => ?_)
  refine z_aload_n F dX2_isWhole_0 rfl rfl ?_
  refine z_getf F vF_X2_15 dX2_isWhole_1 H.1 rfl ?_
  refine z_if_eq (tgt := 22) F dX2_isWhole_4 (by decide) (fun c4 => ?_) (fun c4 => ?_)
  · have hz : (bg && decide (due ≤ n)) = false := by rw [z_b0.mp c4]; rfl
    refine z_iconst (v := 0) F dX2_isWhole_22 rfl ?_
    exact z_iret F hr dX2_isWhole_23 rfl (Nat.le_of_ble_eq_true rfl) (Nat.le_of_ble_eq_true rfl) (⟨by rw [hz]; rfl, rfl⟩)
  · refine z_aload_n F dX2_isWhole_7 rfl rfl ?_
    refine z_getf F vF_X2_23 dX2_isWhole_8 H.1 rfl ?_
    refine z_aload_n F dX2_isWhole_11 rfl rfl ?_
    refine z_getf F vF_X2_19 dX2_isWhole_12 H.1 rfl ?_
    refine z_icmp_lt (tgt := 22) F dX2_isWhole_15 (by decide) (fun c15 => ?_) (fun c15 => ?_)
    · have hz : (bg && decide (due ≤ n)) = false := by have := (nI_ltI (by omega) (by omega)).mp c15; simp; intro _; omega
      refine z_iconst (v := 0) F dX2_isWhole_22 rfl ?_
      exact z_iret F hr dX2_isWhole_23 rfl (Nat.le_of_ble_eq_true rfl) (Nat.le_of_ble_eq_true rfl) (⟨by rw [hz]; rfl, rfl⟩)
    · have h2 : bg = true := by cases bg <;> first | rfl | exact absurd rfl c4
      have h3 : ¬ n < due := fun q => c15 ((nI_ltI (by omega) (by omega)).mpr q)
      have hz : (bg && decide (due ≤ n)) = true := by rw [h2, decide_eq_true (Nat.not_lt.mp h3)]; rfl
      refine z_iconst (v := 1) F dX2_isWhole_18 rfl ?_
      refine z_goto (tgt := 23) F dX2_isWhole_19 (by decide) ?_
      exact z_iret F hr dX2_isWhole_23 rfl (Nat.le_of_ble_eq_true rfl) (Nat.le_of_ble_eq_true rfl) (⟨by rw [hz]; rfl, rfl⟩)

set_option maxRecDepth 100000 in
set_option maxHeartbeats 1000000 in
theorem c_X2_isEmpty {h : z_H} {q o due n : Nat} {bg al : Bool} {f : Nat → Int32} (H : Q_at h q o bg due n al f) (hn : n ≤ 60) : z_K yX2_isEmpty cX2_isEmpty 1 (some .boolean) 0 0 0 [.ref q] h (fun v h' => v = some (.int (z_b (decide (n = 0)))) ∧ h' = h) := by
  refine z_met vI_X2_isEmpty (Nat.le_of_ble_eq_true rfl) (fun G X F hr hnm => ?_)
  refine z_aload_n F dX2_isEmpty_0 rfl rfl ?_
  refine z_getf F vF_X2_23 dX2_isEmpty_1 H.1 rfl ?_
  refine z_if_ne (tgt := 11) F dX2_isEmpty_4 (by decide) (fun c4 => ?_) (fun c4 => ?_)
  · have hz : decide (n = 0) = false := by simp; intro e; exact c4 (by rw [e]; rfl)
    refine z_iconst (v := 0) F dX2_isEmpty_11 rfl ?_
    exact z_iret F hr dX2_isEmpty_12 rfl (Nat.le_of_ble_eq_true rfl) (Nat.le_of_ble_eq_true rfl) (⟨by rw [hz]; rfl, rfl⟩)
  · have hz : decide (n = 0) = true := by have := (nI_eq (b := 0) (by omega) (by decide)).mp c4; simp [this]
    refine z_iconst (v := 1) F dX2_isEmpty_7 rfl ?_
    refine z_goto (tgt := 12) F dX2_isEmpty_8 (by decide) ?_
    exact z_iret F hr dX2_isEmpty_12 rfl (Nat.le_of_ble_eq_true rfl) (Nat.le_of_ble_eq_true rfl) (⟨by rw [hz]; rfl, rfl⟩)

set_option maxRecDepth 100000 in
set_option maxHeartbeats 1000000 in
theorem c_X2_service {h : z_H} {q o due n : Nat} {bg al : Bool} {f : Nat → Int32} (H : Q_at h q o bg due n al f) (hn : n ≤ 60) : z_K yX2_service cX2_service 1 (some .int) 0 0 0 [.ref q] h (fun v h' => v = some (.int (Qo f n 0)) ∧ h' = h) := by
  refine z_met vI_X2_service (Nat.le_of_ble_eq_true rfl) (fun G X F hr hnm => ?_)
  refine z_aload_n F dX2_service_0 rfl rfl ?_
  refine z_getf F vF_X2_23 dX2_service_1 H.1 rfl ?_
  refine z_if_ne (tgt := 11) F dX2_service_4 (by decide) (fun c4 => ?_) (fun c4 => ?_)
  · have hz : Qo f n 0 = f 0 &&& 255 := if_pos (Nat.pos_of_ne_zero (fun e => c4 (by rw [e]; rfl)))
    refine z_aload_n F dX2_service_11 rfl rfl ?_
    refine z_getf F vF_X2_9 dX2_service_12 H.1 rfl ?_
    refine z_iconst (v := 0) F dX2_service_15 rfl ?_
    refine z_bald F dX2_service_16 H.2.1 rfl rfl (show 0 < 60 by decide) (Nat.le_of_ble_eq_true rfl) ?_
    refine z_sipush (v := 255) F dX2_service_17 rfl ?_
    refine z_iand F dX2_service_20 ?_
    exact z_iret F hr dX2_service_21 rfl (Nat.le_of_ble_eq_true rfl) (Nat.le_of_ble_eq_true rfl) (⟨by rw [hz], rfl⟩)
  · have hz : Qo f n 0 = 0 := if_neg (by have := (nI_eq (b := 0) (by omega) (by decide)).mp c4; omega)
    refine z_iconst (v := 0) F dX2_service_7 rfl ?_
    refine z_goto (tgt := 21) F dX2_service_8 (by decide) ?_
    exact z_iret F hr dX2_service_21 rfl (Nat.le_of_ble_eq_true rfl) (Nat.le_of_ble_eq_true rfl) (⟨by rw [hz], rfl⟩)

set_option maxRecDepth 100000 in
set_option maxHeartbeats 1000000 in
theorem c_X2_size {h : z_H} {q o due n : Nat} {bg al : Bool} {f : Nat → Int32} (H : Q_at h q o bg due n al f) (hn : n ≤ 60) : z_K yX2_size cX2_size 1 (some .int) 0 0 0 [.ref q] h (fun v h' => v = some (.int (nI (n - 1))) ∧ h' = h) := by
  refine z_met vI_X2_size (Nat.le_of_ble_eq_true rfl) (fun G X F hr hnm => ?_)
  refine z_aload_n F dX2_size_0 rfl rfl ?_
  refine z_getf F vF_X2_23 dX2_size_1 H.1 rfl ?_
  refine z_if_ne (tgt := 11) F dX2_size_4 (by decide) (fun c4 => ?_) (fun c4 => ?_)
  · have hz : nI n - 1 = nI (n - 1) := pk_sub (b := 1) (Nat.pos_of_ne_zero (fun e => c4 (by rw [e]; rfl)))
    refine z_aload_n F dX2_size_11 rfl rfl ?_
    refine z_getf F vF_X2_23 dX2_size_12 H.1 rfl ?_
    refine z_iconst (v := 1) F dX2_size_15 rfl ?_
    refine z_isub F dX2_size_16 ?_
    exact z_iret F hr dX2_size_17 rfl (Nat.le_of_ble_eq_true rfl) (Nat.le_of_ble_eq_true rfl) (⟨by rw [hz], rfl⟩)
  · have hz : (0 : Int32) = nI (n - 1) := by have := (nI_eq (b := 0) (by omega) (by decide)).mp c4; subst this; rfl
    refine z_iconst (v := 0) F dX2_size_7 rfl ?_
    refine z_goto (tgt := 17) F dX2_size_8 (by decide) ?_
    exact z_iret F hr dX2_size_17 rfl (Nat.le_of_ble_eq_true rfl) (Nat.le_of_ble_eq_true rfl) (⟨by rw [hz], rfl⟩)

set_option maxRecDepth 100000 in
set_option maxHeartbeats 1000000 in
theorem c_X2_octetAt {h : z_H} {q o due n : Nat} {bg al : Bool} {f : Nat → Int32} {p : Nat} (H : Q_at h q o bg due n al f) (hn : n ≤ 60) (hp : p < 100) : z_K yX2_octetAt cX2_octetAt 3 (some .int) 0 0 0 [.ref q, .int (nI p)] h (fun v h' => v = some (.int (Qo f n (p + 1))) ∧ h' = h) := by
  refine z_met vI_X2_octetAt (Nat.le_of_ble_eq_true rfl) (fun G X F hr hnm => ?_)
  refine z_iload_n F dX2_octetAt_0 rfl ?_
  refine z_iconst (v := 1) F dX2_octetAt_1 rfl ?_
  refine z_iadd F dX2_octetAt_2 ?_
  rw [nI_1]
  refine z_istore_n F dX2_octetAt_3 (Nat.le_of_ble_eq_true rfl) ?_
  refine z_iload_n F dX2_octetAt_4 rfl ?_
  refine z_iconst (v := 1) F dX2_octetAt_5 rfl ?_
  refine z_icmp_lt (tgt := 26) F dX2_octetAt_6 (by decide) (fun c6 => absurd c6 (show ¬ nI (p + 1) < nI 1 from nI_nlt (by omega) (by omega))) (fun c6 => ?_)
  refine z_iload_n F dX2_octetAt_9 rfl ?_
  refine z_aload_n F dX2_octetAt_10 rfl rfl ?_
  refine z_getf F vF_X2_23 dX2_octetAt_11 H.1 rfl ?_
  refine z_icmp_ge (tgt := 26) F dX2_octetAt_14 (by decide) (fun c14 => ?_) (fun c14 => ?_)
  · have hz : Qo f n (p + 1) = 0 := if_neg (by have := (nI_leI (by omega) (by omega)).mp c14; omega)
    refine z_iconst (v := 0) F dX2_octetAt_26 rfl ?_
    refine z_goto (tgt := 40) F dX2_octetAt_27 (by decide) ?_
    exact z_iret F hr dX2_octetAt_40 rfl (Nat.le_of_ble_eq_true rfl) (Nat.le_of_ble_eq_true rfl) (⟨by rw [hz], rfl⟩)
  · have hp2 : p + 1 < n := by have := mt (nI_leI (a := n) (b := p + 1) (by omega) (by omega)).mpr c14; omega
    have hz : Qo f n (p + 1) = f (p + 1) &&& 255 := if_pos hp2
    refine z_iload_n F dX2_octetAt_17 rfl ?_
    refine z_aload_n F dX2_octetAt_18 rfl rfl ?_
    refine z_getf F vF_X2_9 dX2_octetAt_19 H.1 rfl ?_
    refine z_alen (v := nI 60) F dX2_octetAt_22 H.2.1 rfl rfl ?_
    refine z_icmp_lt (tgt := 30) F dX2_octetAt_23 (by decide) (fun c23 => ?_) (fun c23 => absurd (nI_lt (show p + 1 < 60 by omega) (by decide)) c23)
    refine z_aload_n F dX2_octetAt_30 rfl rfl ?_
    refine z_getf F vF_X2_9 dX2_octetAt_31 H.1 rfl ?_
    refine z_iload_n F dX2_octetAt_34 rfl ?_
    refine z_bald F dX2_octetAt_35 H.2.1 rfl rfl (show p + 1 < 60 by omega) (Nat.le_of_ble_eq_true rfl) ?_
    refine z_sipush (v := 255) F dX2_octetAt_36 rfl ?_
    refine z_iand F dX2_octetAt_39 ?_
    exact z_iret F hr dX2_octetAt_40 rfl (Nat.le_of_ble_eq_true rfl) (Nat.le_of_ble_eq_true rfl) (⟨by rw [hz], rfl⟩)

set_option maxRecDepth 100000 in
set_option maxHeartbeats 1000000 in
theorem c_X2_word {h : z_H} {q o due n : Nat} {bg al : Bool} {f : Nat → Int32} {p : Nat} (H : Q_at h q o bg due n al f) (hn : n ≤ 60) (hp : p < 99) : z_K yX2_word cX2_word 2 (some .int) 1 0 0 [.ref q, .int (nI p)] h (fun v h' => v = some (.int ((Qo f n (p + 1) <<< ((8 : Int32) &&& 31)) ||| Qo f n (p + 2))) ∧ h' = h) := by
  refine z_met vI_X2_word (Nat.le_of_ble_eq_true rfl) (fun G X F hr hnm => ?_)
  refine z_aload_n F dX2_word_0 rfl rfl ?_
  refine z_iload_n F dX2_word_1 rfl ?_
  refine z_callV F z_nwOK wL_good (c_X2_octetAt H hn (by omega)) H.1 rfl vI_X2_octetAt vM_X2_35 vV_X2_octetAt vL_X2_octetAt rfl dX2_word_2 rfl rfl (Nat.le_of_ble_eq_true rfl) ⟨(Nat.le_of_ble_eq_true rfl), (Nat.le_of_ble_eq_true rfl), (Nat.le_of_ble_eq_true rfl), (Nat.le_of_ble_eq_true rfl)⟩ (fun v h1 hq => ?_)
  obtain ⟨rfl, rfl⟩ := hq
  refine z_bipush (v := 8) F dX2_word_5 rfl ?_
  refine z_ishl F dX2_word_7 ?_
  refine z_aload_n F dX2_word_8 rfl rfl ?_
  refine z_iload_n F dX2_word_9 rfl ?_
  refine z_iconst (v := 1) F dX2_word_10 rfl ?_
  refine z_iadd F dX2_word_11 ?_
  rw [nI_1]
  refine z_callV F z_nwOK wL_good (c_X2_octetAt H hn (by omega)) H.1 rfl vI_X2_octetAt vM_X2_35 vV_X2_octetAt vL_X2_octetAt rfl dX2_word_12 rfl rfl (Nat.le_of_ble_eq_true rfl) ⟨(Nat.le_of_ble_eq_true rfl), (Nat.le_of_ble_eq_true rfl), (Nat.le_of_ble_eq_true rfl), (Nat.le_of_ble_eq_true rfl)⟩ (fun v h1 hq => ?_)
  obtain ⟨rfl, rfl⟩ := hq
  refine z_ior F dX2_word_15 ?_
  exact z_iret F hr dX2_word_16 rfl (Nat.le_of_ble_eq_true rfl) (Nat.le_of_ble_eq_true rfl) (⟨rfl, rfl⟩)

set_option maxRecDepth 100000 in
set_option maxHeartbeats 1000000 in
theorem c_X2_function {h : z_H} {q o due n : Nat} {bg al : Bool} {f : Nat → Int32} (H : Q_at h q o bg due n al f) (hn : n ≤ 60) : z_K yX2_function cX2_function 1 (some .int) 1 0 0 [.ref q] h (fun v h' => v = some (.int (Qo f n 1 &&& 127)) ∧ h' = h) := by
  refine z_met vI_X2_function (Nat.le_of_ble_eq_true rfl) (fun G X F hr hnm => ?_)
  refine z_aload_n F dX2_function_0 rfl rfl ?_
  refine z_iconst (v := 0) F dX2_function_1 rfl ?_
  refine z_callV F z_nwOK wL_good (c_X2_octetAt (p := 0) H hn (by omega)) H.1 rfl vI_X2_octetAt vM_X2_35 vV_X2_octetAt vL_X2_octetAt rfl dX2_function_2 rfl rfl (Nat.le_of_ble_eq_true rfl) ⟨(Nat.le_of_ble_eq_true rfl), (Nat.le_of_ble_eq_true rfl), (Nat.le_of_ble_eq_true rfl), (Nat.le_of_ble_eq_true rfl)⟩ (fun v h1 hq => ?_)
  obtain ⟨rfl, rfl⟩ := hq
  refine z_bipush (v := 127) F dX2_function_5 rfl ?_
  refine z_iand F dX2_function_7 ?_
  exact z_iret F hr dX2_function_8 rfl (Nat.le_of_ble_eq_true rfl) (Nat.le_of_ble_eq_true rfl) (⟨rfl, rfl⟩)

set_option maxRecDepth 100000 in
set_option maxHeartbeats 1000000 in
theorem l_X2_number {h : z_H} {q o due n p L : Nat} {bg al : Bool} {f : Nat → Int32} {G : z_G} {X : z_X} {Q' : Option Value → z_H → Prop} (F : z_F vwCl z_ats z_nw wsL_law G RX2 cX2_number 6 (z_rm 1 0 0) X) (hr : X.2.2.2.2.2.2.2.2.1.sig.returnType = some .long) (H : Q_at h q o bg due n al f) (hn : n ≤ 60) (hL : p + L < 100) (hq' : Q' (some (.long (numL (fun i => Qo f n (p + 1 + i)) L))) h) :
    ∀ (k i : Nat), i + k = L → z_V vwCl G 6 X (z_end vwCl z_ats z_nw G X 0 0 Q') 0 0 5 [(0, .ref q), (1, .int (nI p)), (2, .int (nI L)), (3, .long (numL (fun i => Qo f n (p + 1 + i)) i)), (5, .int (nI i))] [] h := by
  intro k
  induction k with
  | zero =>
    intro i hi
    obtain rfl : i = L := by omega
    refine z_iload F dX2_number_5 rfl ?_
    refine z_iload_n F dX2_number_7 rfl ?_
    refine z_icmp_ge (tgt := 32) F dX2_number_8 (by decide) (fun c8 => ?_) (fun c8 => absurd (nI_le (Nat.le_refl i) (by omega)) c8)
    refine z_lload_n F dX2_number_32 rfl ?_
    exact z_lret F hr dX2_number_33 (Nat.le_of_ble_eq_true rfl) (Nat.le_of_ble_eq_true rfl) (hq')
  | succ k ih =>
    intro i hi
    refine z_iload F dX2_number_5 rfl ?_
    refine z_iload_n F dX2_number_7 rfl ?_
    refine z_icmp_ge (tgt := 32) F dX2_number_8 (by decide) (fun c8 => absurd c8 (nI_ge (show i < L by omega) (by omega))) (fun c8 => ?_)
    refine z_lload_n F dX2_number_11 rfl ?_
    refine z_bipush (v := 8) F dX2_number_12 rfl ?_
    refine z_lshl F dX2_number_14 ?_
    refine z_aload_n F dX2_number_15 rfl rfl ?_
    refine z_iload_n F dX2_number_16 rfl ?_
    refine z_iload F dX2_number_17 rfl ?_
    refine z_iadd F dX2_number_19 ?_
    rw [nI_add]
    refine z_callV F z_nwOK wL_good (c_X2_octetAt (p := p + i) H hn (by omega)) H.1 rfl vI_X2_octetAt vM_X2_35 vV_X2_octetAt vL_X2_octetAt rfl dX2_number_20 rfl rfl (Nat.le_of_ble_eq_true rfl) ⟨(Nat.le_of_ble_eq_true rfl), (Nat.le_of_ble_eq_true rfl), (Nat.le_of_ble_eq_true rfl), (Nat.le_of_ble_eq_true rfl)⟩ (fun v h1 hq => ?_)
    obtain ⟨rfl, rfl⟩ := hq
    rw [show p + i + 1 = p + 1 + i by omega]
    refine z_i2l F dX2_number_23 ?_
    refine z_lor F dX2_number_24 ?_
    refine z_lstore_n F dX2_number_25 (Nat.le_of_ble_eq_true rfl) ?_
    refine z_iinc (w := 1) F dX2_number_26 rfl rfl (Nat.le_of_ble_eq_true rfl) ?_
    rw [nI_1]
    refine z_goto (tgt := 5) F dX2_number_29 (by decide) ?_
    exact ih (i + 1) (by omega)

set_option maxRecDepth 100000 in
set_option maxHeartbeats 1000000 in
theorem c_X2_number {h : z_H} {q o due n : Nat} {bg al : Bool} {f : Nat → Int32} {p L : Nat} (H : Q_at h q o bg due n al f) (hn : n ≤ 60) (hL : p + L < 100) : z_K yX2_number cX2_number 6 (some .long) 1 0 0 [.ref q, .int (nI p), .int (nI L)] h (fun v h' => v = some (.long (numL (fun i => Qo f n (p + 1 + i)) L)) ∧ h' = h) := by
  refine z_met vI_X2_number (Nat.le_of_ble_eq_true rfl) (fun G X F hr hnm => ?_)
  refine z_lconst (v := 0) F dX2_number_0 rfl ?_
  refine z_lstore_n F dX2_number_1 (Nat.le_of_ble_eq_true rfl) ?_
  refine z_iconst (v := 0) F dX2_number_2 rfl ?_
  refine z_istore F dX2_number_3 (Nat.le_of_ble_eq_true rfl) ?_
  exact l_X2_number F hr H hn hL ⟨rfl, rfl⟩ L 0 (by omega)

set_option maxRecDepth 100000 in
set_option maxHeartbeats 1000000 in
theorem c_X2_take0 {h : z_H} {q o due n : Nat} {al : Bool} {f : Nat → Int32} (b : Int32) (H : Q_at h q o false due n al f) : z_K yX2_take cX2_take 2 none 1 0 0 [.ref q, .int b] h (fun v h' => v = none ∧ h' = Q_set h q o true (min (b.toBitVec.toNat % 128) 60) 0 (decide (b < 0)) f) := by
  refine z_met vI_X2_take (Nat.le_of_ble_eq_true rfl) (fun G X F hr hnm => ?_)
  refine z_aload_n F dX2_take_0 rfl rfl ?_
  refine z_getf F vF_X2_15 dX2_take_1 H.1 rfl ?_
  refine z_if_ne (tgt := 46) F dX2_take_4 (by decide) (fun c4 => absurd rfl c4) (fun c4 => ?_)
  refine z_aload_n F dX2_take_7 rfl rfl ?_
  refine z_iconst (v := 1) F dX2_take_8 rfl ?_
  refine z_putf F vF_X2_15 vT_X2 vD_X2_1 dX2_take_9 H.1 (Nat.le_of_ble_eq_true rfl) rfl rfl (fun g9 => ?_)
  refine z_aload_n F dX2_take_12 rfl rfl ?_
  refine z_iload_n F dX2_take_13 rfl ?_
  refine z_if_ge (tgt := 21) F dX2_take_14 (by decide) (fun c14 => ?_) (fun c14 => ?_)
  · refine z_iconst (v := 0) F dX2_take_21 rfl ?_
    refine z_putf F vF_X2_26 vT_X2 vD_X2_4 dX2_take_22 g9 (Nat.le_of_ble_eq_true rfl) (z_bnar false) (z_bfit false) (fun g22 => ?_)
    refine z_aload_n F dX2_take_25 rfl rfl ?_
    refine z_iload_n F dX2_take_26 rfl ?_
    refine z_bipush (v := 127) F dX2_take_27 rfl ?_
    refine z_iand F dX2_take_29 ?_
    refine z_bipush (v := 60) F dX2_take_30 rfl ?_
    rw [pk_and b 7 (by decide)]
    refine z_mmin F vM_X2_29 dX2_take_32 (Nat.le_of_ble_eq_true rfl) (Nat.le_of_ble_eq_true rfl) (Nat.le_of_ble_eq_true rfl) (Nat.le_of_ble_eq_true rfl) ?_
    rw [nI_min60 _ (Nat.mod_lt _ (by decide))]
    refine z_putf F vF_X2_19 vT_X2 vD_X2_2 dX2_take_35 g22 (Nat.le_of_ble_eq_true rfl) rfl rfl (fun g35 => ?_)
    refine z_aload_n F dX2_take_38 rfl rfl ?_
    refine z_iconst (v := 0) F dX2_take_39 rfl ?_
    refine z_putf F vF_X2_23 vT_X2 vD_X2_3 dX2_take_40 g35 (Nat.le_of_ble_eq_true rfl) rfl rfl (fun g40 => ?_)
    refine z_goto (tgt := 85) F dX2_take_43 (by decide) ?_
    exact z_vret F hr dX2_take_85 (Nat.le_of_ble_eq_true rfl) (Nat.le_of_ble_eq_true rfl) (⟨rfl, by rw [List.set_set, List.set_set, List.set_set, show decide (b < 0) = false from decide_eq_false (k2_nlt c14)]; unfold Q_set; rw [z_sid H.2.1]; rfl⟩)
  · refine z_iconst (v := 1) F dX2_take_17 rfl ?_
    refine z_goto (tgt := 22) F dX2_take_18 (by decide) ?_
    refine z_putf F vF_X2_26 vT_X2 vD_X2_4 dX2_take_22 g9 (Nat.le_of_ble_eq_true rfl) (z_bnar true) (z_bfit true) (fun g22 => ?_)
    refine z_aload_n F dX2_take_25 rfl rfl ?_
    refine z_iload_n F dX2_take_26 rfl ?_
    refine z_bipush (v := 127) F dX2_take_27 rfl ?_
    refine z_iand F dX2_take_29 ?_
    refine z_bipush (v := 60) F dX2_take_30 rfl ?_
    rw [pk_and b 7 (by decide)]
    refine z_mmin F vM_X2_29 dX2_take_32 (Nat.le_of_ble_eq_true rfl) (Nat.le_of_ble_eq_true rfl) (Nat.le_of_ble_eq_true rfl) (Nat.le_of_ble_eq_true rfl) ?_
    rw [nI_min60 _ (Nat.mod_lt _ (by decide))]
    refine z_putf F vF_X2_19 vT_X2 vD_X2_2 dX2_take_35 g22 (Nat.le_of_ble_eq_true rfl) rfl rfl (fun g35 => ?_)
    refine z_aload_n F dX2_take_38 rfl rfl ?_
    refine z_iconst (v := 0) F dX2_take_39 rfl ?_
    refine z_putf F vF_X2_23 vT_X2 vD_X2_3 dX2_take_40 g35 (Nat.le_of_ble_eq_true rfl) rfl rfl (fun g40 => ?_)
    refine z_goto (tgt := 85) F dX2_take_43 (by decide) ?_
    exact z_vret F hr dX2_take_85 (Nat.le_of_ble_eq_true rfl) (Nat.le_of_ble_eq_true rfl) (⟨rfl, by rw [List.set_set, List.set_set, List.set_set, show decide (b < 0) = true from decide_eq_true (k2_lt c14)]; unfold Q_set; rw [z_sid H.2.1]; rfl⟩)

set_option maxRecDepth 100000 in
set_option maxHeartbeats 1000000 in
theorem c_X2_take1 {h : z_H} {q o due n : Nat} {al : Bool} {f : Nat → Int32} (b : Int32) (H : Q_at h q o true due n al f) (hn : n < 60) : z_K yX2_take cX2_take 2 none 1 0 0 [.ref q, .int b] h (fun v h' => v = none ∧ h' = Q_set h q o true due (n + 1) al (upd f n b.toInt8.toInt32)) := by
  refine z_met vI_X2_take (Nat.le_of_ble_eq_true rfl) (fun G X F hr hnm => ?_)
  refine z_aload_n F dX2_take_0 rfl rfl ?_
  refine z_getf F vF_X2_15 dX2_take_1 H.1 rfl ?_
  refine z_if_ne (tgt := 46) F dX2_take_4 (by decide) (fun c4 => ?_) (fun c4 => absurd c4 (by decide))
  refine z_aload_n F dX2_take_46 rfl rfl ?_
  refine z_getf F vF_X2_23 dX2_take_47 H.1 rfl ?_
  refine z_if_lt (tgt := 85) F dX2_take_50 (by decide) (fun c50 => absurd c50 (nI_pos (by omega))) (fun c50 => ?_)
  refine z_aload_n F dX2_take_53 rfl rfl ?_
  refine z_getf F vF_X2_23 dX2_take_54 H.1 rfl ?_
  refine z_aload_n F dX2_take_57 rfl rfl ?_
  refine z_getf F vF_X2_9 dX2_take_58 H.1 rfl ?_
  refine z_alen (v := nI 60) F dX2_take_61 H.2.1 rfl rfl ?_
  refine z_icmp_ge (tgt := 85) F dX2_take_62 (by decide) (fun c62 => absurd c62 (nI_ge hn (by decide))) (fun c62 => ?_)
  refine z_aload_n F dX2_take_65 rfl rfl ?_
  refine z_getf F vF_X2_9 dX2_take_66 H.1 rfl ?_
  refine z_aload_n F dX2_take_69 rfl rfl ?_
  refine z_getf F vF_X2_23 dX2_take_70 H.1 rfl ?_
  refine z_iload_n F dX2_take_73 rfl ?_
  refine z_bast F dX2_take_74 H.2.1 rfl rfl hn (Nat.le_of_ble_eq_true rfl) ?_
  have g1 : (h.set o (.inl (1, 60, .inl (upd f n b.toInt8.toInt32))))[q]? = some (.inr (3, [.ref o, .int (z_b true), .int (nI due), .int (nI n), .int (z_b al)])) := by rw [z_sn (Ne.symm H.2.2)]; exact H.1
  refine z_aload_n F dX2_take_75 rfl rfl ?_
  refine z_dup F dX2_take_76 rfl ?_
  refine z_getf F vF_X2_23 dX2_take_77 g1 rfl ?_
  refine z_iconst (v := 1) F dX2_take_80 rfl ?_
  refine z_iadd F dX2_take_81 ?_
  rw [nI_1]
  refine z_putf F vF_X2_23 vT_X2 vD_X2_3 dX2_take_82 g1 (Nat.le_of_ble_eq_true rfl) rfl rfl (fun g82 => ?_)
  exact z_vret F hr dX2_take_85 (Nat.le_of_ble_eq_true rfl) (Nat.le_of_ble_eq_true rfl) (⟨rfl, rfl⟩)

/-- is no answer wanted: the octet behind the service, the service -/
def Qw (x s : Int32) : Bool := decide (127 < x) && (decide (s = 16) || decide (s = 17) || decide (s = 49) || decide (s = 62))

set_option maxRecDepth 100000 in
set_option maxHeartbeats 1000000 in
theorem c_X2_wantsNoAnswer {h : z_H} {q o due n : Nat} {bg al : Bool} {f : Nat → Int32} (H : Q_at h q o bg due n al f) (hn : n ≤ 60) : z_K yX2_wantsNoAnswer cX2_wantsNoAnswer 2 (some .boolean) 1 0 0 [.ref q] h (fun v h' => v = some (.int (z_b (Qw (Qo f n 1) (Qo f n 0)))) ∧ h' = h) := by
  refine z_met vI_X2_wantsNoAnswer (Nat.le_of_ble_eq_true rfl) (fun G X F hr hnm => ?_)
  refine z_aload_n F dX2_wantsNoAnswer_0 rfl rfl ?_
  refine z_callV F z_nwOK wL_good (c_X2_service H hn) H.1 rfl vI_X2_service vM_X2_39 vV_X2_service vL_X2_service rfl dX2_wantsNoAnswer_1 rfl rfl (Nat.le_of_ble_eq_true rfl) ⟨(Nat.le_of_ble_eq_true rfl), (Nat.le_of_ble_eq_true rfl), (Nat.le_of_ble_eq_true rfl), (Nat.le_of_ble_eq_true rfl)⟩ (fun v h1 hq => ?_)
  obtain ⟨rfl, rfl⟩ := hq
  refine z_istore_n F dX2_wantsNoAnswer_4 (Nat.le_of_ble_eq_true rfl) ?_
  refine z_aload_n F dX2_wantsNoAnswer_5 rfl rfl ?_
  refine z_iconst (v := 0) F dX2_wantsNoAnswer_6 rfl ?_
  refine z_callV F z_nwOK wL_good (c_X2_octetAt (p := 0) H hn (by omega)) H.1 rfl vI_X2_octetAt vM_X2_35 vV_X2_octetAt vL_X2_octetAt rfl dX2_wantsNoAnswer_7 rfl rfl (Nat.le_of_ble_eq_true rfl) ⟨(Nat.le_of_ble_eq_true rfl), (Nat.le_of_ble_eq_true rfl), (Nat.le_of_ble_eq_true rfl), (Nat.le_of_ble_eq_true rfl)⟩ (fun v h1 hq => ?_)
  obtain ⟨rfl, rfl⟩ := hq
  refine z_bipush (v := 127) F dX2_wantsNoAnswer_10 rfl ?_
  refine z_icmp_le (tgt := 43) F dX2_wantsNoAnswer_12 (by decide) (fun c12 => ?_) (fun c12 => ?_)
  · have hz : Qw (Qo f n 1) (Qo f n 0) = false := by unfold Qw; rw [decide_eq_false (fun q => absurd c12 (k2_nle q))]; rfl
    refine z_iconst (v := 0) F dX2_wantsNoAnswer_43 rfl ?_
    exact z_iret F hr dX2_wantsNoAnswer_44 rfl (Nat.le_of_ble_eq_true rfl) (Nat.le_of_ble_eq_true rfl) (⟨by rw [hz]; rfl, rfl⟩)
  · refine z_iload_n F dX2_wantsNoAnswer_15 rfl ?_
    refine z_bipush (v := 16) F dX2_wantsNoAnswer_16 rfl ?_
    refine z_icmp_eq (tgt := 39) F dX2_wantsNoAnswer_18 (by decide) (fun c18 => ?_) (fun c18 => ?_)
    · have hz : Qw (Qo f n 1) (Qo f n 0) = true := by unfold Qw; rw [decide_eq_true (k2_lt c12)]; simp [c18]
      refine z_iconst (v := 1) F dX2_wantsNoAnswer_39 rfl ?_
      refine z_goto (tgt := 44) F dX2_wantsNoAnswer_40 (by decide) ?_
      exact z_iret F hr dX2_wantsNoAnswer_44 rfl (Nat.le_of_ble_eq_true rfl) (Nat.le_of_ble_eq_true rfl) (⟨by rw [hz]; rfl, rfl⟩)
    · refine z_iload_n F dX2_wantsNoAnswer_21 rfl ?_
      refine z_bipush (v := 17) F dX2_wantsNoAnswer_22 rfl ?_
      refine z_icmp_eq (tgt := 39) F dX2_wantsNoAnswer_24 (by decide) (fun c24 => ?_) (fun c24 => ?_)
      · have hz : Qw (Qo f n 1) (Qo f n 0) = true := by unfold Qw; rw [decide_eq_true (k2_lt c12)]; simp [c24]
        refine z_iconst (v := 1) F dX2_wantsNoAnswer_39 rfl ?_
        refine z_goto (tgt := 44) F dX2_wantsNoAnswer_40 (by decide) ?_
        exact z_iret F hr dX2_wantsNoAnswer_44 rfl (Nat.le_of_ble_eq_true rfl) (Nat.le_of_ble_eq_true rfl) (⟨by rw [hz]; rfl, rfl⟩)
      · refine z_iload_n F dX2_wantsNoAnswer_27 rfl ?_
        refine z_bipush (v := 49) F dX2_wantsNoAnswer_28 rfl ?_
        refine z_icmp_eq (tgt := 39) F dX2_wantsNoAnswer_30 (by decide) (fun c30 => ?_) (fun c30 => ?_)
        · have hz : Qw (Qo f n 1) (Qo f n 0) = true := by unfold Qw; rw [decide_eq_true (k2_lt c12)]; simp [c30]
          refine z_iconst (v := 1) F dX2_wantsNoAnswer_39 rfl ?_
          refine z_goto (tgt := 44) F dX2_wantsNoAnswer_40 (by decide) ?_
          exact z_iret F hr dX2_wantsNoAnswer_44 rfl (Nat.le_of_ble_eq_true rfl) (Nat.le_of_ble_eq_true rfl) (⟨by rw [hz]; rfl, rfl⟩)
        · refine z_iload_n F dX2_wantsNoAnswer_33 rfl ?_
          refine z_bipush (v := 62) F dX2_wantsNoAnswer_34 rfl ?_
          refine z_icmp_ne (tgt := 43) F dX2_wantsNoAnswer_36 (by decide) (fun c36 => ?_) (fun c36 => ?_)
          · have hz : Qw (Qo f n 1) (Qo f n 0) = false := by unfold Qw; simp [c18, c24, c30, c36]
            refine z_iconst (v := 0) F dX2_wantsNoAnswer_43 rfl ?_
            exact z_iret F hr dX2_wantsNoAnswer_44 rfl (Nat.le_of_ble_eq_true rfl) (Nat.le_of_ble_eq_true rfl) (⟨by rw [hz]; rfl, rfl⟩)
          · have hz : Qw (Qo f n 1) (Qo f n 0) = true := by unfold Qw; rw [decide_eq_true (k2_lt c12)]; simp [c36]
            refine z_iconst (v := 1) F dX2_wantsNoAnswer_39 rfl ?_
            refine z_goto (tgt := 44) F dX2_wantsNoAnswer_40 (by decide) ?_
            exact z_iret F hr dX2_wantsNoAnswer_44 rfl (Nat.le_of_ble_eq_true rfl) (Nat.le_of_ble_eq_true rfl) (⟨by rw [hz]; rfl, rfl⟩)

set_option maxRecDepth 100000 in
set_option maxHeartbeats 1000000 in
theorem c_X2_init {h : z_H} {a : Nat} (ha : h[a]? = some (.inr (3, [.null, .int 0, .int 0, .int 0, .int 0]))) : z_K yX2_init cX2_init 1 none 1 1 60 [.ref a] h (fun v h' => v = none ∧ h' = (h ++ [(.inl (1, 60, .inl (fun _ => 0)) : z_E)]).set a (Q_o h.length false 0 0 false)) := by
  refine z_met vI_X2_init (Nat.le_of_ble_eq_true rfl) (fun G X F hr hnm => ?_)
  refine z_aload_n F dX2_init_0 rfl rfl ?_
  refine z_objInit F vM_X2_3 vO_i vO_c dX2_init_1 (Nat.le_of_ble_eq_true rfl) (Nat.le_of_ble_eq_true rfl) ?_
  refine z_aload_n F dX2_init_4 rfl rfl ?_
  refine z_bipush (v := 60) F dX2_init_5 rfl ?_
  refine z_newa (atype := .byte) (N := 60) (a0 := (60, (.inl (fun _ => 0)))) (t := 1) F vA_byte rfl (fun _ _ => rfl) (by decide) rfl (Nat.le_of_ble_eq_true rfl) dX2_init_7 (Nat.le_of_ble_eq_true rfl) (Nat.le_of_ble_eq_true rfl) ?_
  refine z_putF F vF_X2_9 vT_X2 vD_X2_0 ⟨_, rfl, rfl⟩ hnm dX2_init_9 (z_pa ha) (Nat.le_of_ble_eq_true rfl) rfl rfl (fun g9 => ?_)
  refine z_aload_n F dX2_init_12 rfl rfl ?_
  refine z_iconst (v := 0) F dX2_init_13 rfl ?_
  refine z_putf F vF_X2_15 vT_X2 vD_X2_1 dX2_init_14 g9 (Nat.le_of_ble_eq_true rfl) rfl rfl (fun g14 => ?_)
  refine z_aload_n F dX2_init_17 rfl rfl ?_
  refine z_iconst (v := 0) F dX2_init_18 rfl ?_
  refine z_putf F vF_X2_19 vT_X2 vD_X2_2 dX2_init_19 g14 (Nat.le_of_ble_eq_true rfl) rfl rfl (fun g19 => ?_)
  refine z_aload_n F dX2_init_22 rfl rfl ?_
  refine z_iconst (v := 0) F dX2_init_23 rfl ?_
  refine z_putf F vF_X2_23 vT_X2 vD_X2_3 dX2_init_24 g19 (Nat.le_of_ble_eq_true rfl) rfl rfl (fun g24 => ?_)
  refine z_aload_n F dX2_init_27 rfl rfl ?_
  refine z_iconst (v := 0) F dX2_init_28 rfl ?_
  refine z_putf F vF_X2_26 vT_X2 vD_X2_4 dX2_init_29 g24 (Nat.le_of_ble_eq_true rfl) rfl rfl (fun g29 => ?_)
  exact z_vret F hr dX2_init_32 (Nat.le_of_ble_eq_true rfl) (Nat.le_of_ble_eq_true rfl) (⟨rfl, by simp only [List.set_set]; rfl⟩)
