/-! THE SERVICES, as the reference has them: row 39 the question's octets, 38 how many, 40 and 41 the answer -/
theorem nI_word {a b : Nat} (ha : a < 256) (hb : b < 256) : (nI a <<< ((8 : Int32) &&& 31)) ||| nI b = nI (a * 256 + b) := by
  rw [pk_shlN (n := a) ((8 : Int32) &&& 31) 8 (by decide) (by omega)]
  apply Int32.toBitVec_inj.mp
  rw [Int32.toBitVec_or]
  show BitVec.ofNat 32 (a * 2 ^ 8) ||| BitVec.ofNat 32 b = BitVec.ofNat 32 (a * 256 + b)
  apply BitVec.eq_of_toNat_eq
  rw [BitVec.toNat_or, BitVec.toNat_ofNat, BitVec.toNat_ofNat, BitVec.toNat_ofNat, Nat.mod_eq_of_lt (by omega), Nat.mod_eq_of_lt (by omega), Nat.mod_eq_of_lt (by omega)]
  rw [Nat.mul_comm a (2 ^ 8), ← Nat.two_pow_add_eq_or_of_lt (by omega : b < 2 ^ 8)]
def toldN (S : z_S) (a : Nat) : Nat := sAN S 39 a * 256 + sAN S 39 (a + 1)
def rowOK (S : z_S) : Prop := ∀ k, sAN S 39 k < 256
def sayS (S : z_S) (b : Nat) : z_S := uN (uAN S 41 (va_up (sAN S 41) (sN S 40) (b % 256))) 40 (sN S 40 + 1)
def clr (S : z_S) (i k : Nat) : Bool := if k < i then false else sAB S 14 k
def endS (S : z_S) (f : Nat) : z_S := uN (uN (uB (uAB S 14 (clr S (sN S 8))) 26 false) 2 0) 1 f
def hereS (S : z_S) (r : Option Nat) : Bool := match r with
  | none => false
  | some k => decide (sAN S 11 k ≤ sN S 1)
/-- the identifier told, if it is here -/
def hereF (S : z_S) (t : Nat) : Option Nat := match fnd (sAI S 9) (nI t) (sN S 8) with
  | none => none
  | some k => if sAN S 11 k ≤ sN S 1 then some k else none
theorem here_cases (S : z_S) (t : Nat) : (hereF S t = none ∧ hereS S (fnd (sAI S 9) (nI t) (sN S 8)) = false) ∨ ∃ k, fnd (sAI S 9) (nI t) (sN S 8) = some k ∧ hereF S t = some k ∧ hereS S (some k) = true ∧ k < sN S 8 := by
  unfold hereF
  cases hf : fnd (sAI S 9) (nI t) (sN S 8) with
  | none => exact Or.inl ⟨rfl, rfl⟩
  | some k =>
    by_cases h : sAN S 11 k ≤ sN S 1
    · exact Or.inr ⟨k, rfl, if_pos h, decide_eq_true h, fnd_lt hf⟩
    · exact Or.inl ⟨if_neg h, decide_eq_false h⟩
theorem va_same {α : Type} (f : Nat → α) (j : Nat) : va_up f j (f j) = f := by
  funext k
  by_cases h : k = j <;> simp [va_up, h]
theorem uAB_again (S : z_S) (j : Nat) (f g : Nat → Bool) : uAB (uAB S j f) j g = uAB S j g := by
  unfold uAB
  rw [bx_uu]
theorem uAN_again (S : z_S) (j : Nat) (f g : Nat → Nat) : uAN (uAN S j f) j g = uAN S j g := by
  unfold uAN
  rw [bx_uu]
theorem uAL_again (S : z_S) (j : Nat) (f g : Nat → Int64) : uAL (uAL S j f) j g = uAL S j g := by
  unfold uAL
  rw [bx_uu]
theorem uN_again (S : z_S) (j v w : Nat) : uN (uN S j v) j w = uN S j w := by
  unfold uN
  rw [bx_uu]
theorem uAB_same (S : z_S) (j : Nat) : uAB S j (sAB S j) = S := by
  unfold uAB
  rw [show va_up S.2.2.2.2.1 j (sAB S j) = S.2.2.2.2.1 from va_same _ j]
theorem uAN_same (S : z_S) (j : Nat) : uAN S j (sAN S j) = S := by
  unfold uAN
  rw [show va_up S.2.2.2.1 j (sAN S j) = S.2.2.2.1 from va_same _ j]
theorem uAL_same (S : z_S) (j : Nat) : uAL S j (sAL S j) = S := by
  unfold uAL
  rw [show va_up S.2.2.2.2.2.1 j (sAL S j) = S.2.2.2.2.2.1 from va_same _ j]
theorem clr_step (S : z_S) (i : Nat) : uAB (uAB S 14 (clr S i)) 14 (va_up (clr S i) i false) = uAB S 14 (clr S (i + 1)) := by
  rw [uAB_again]
  congr 1
  funext k
  unfold va_up clr
  by_cases h : k = i
  · simp [h]
  · by_cases h2 : k < i
    · have h3 : k < i + 1 := by omega
      simp [h, h2, h3]
    · have h3 : ¬ k < i + 1 := by omega
      simp [h, h2, h3]
theorem z_hS {c : Nat → z_E} {o : Nat → Int64} {d : z_H} {S S2 : z_S} (h : S = S2) : HP c (mfun S o) d = HP c (mfun S2 o) d := by rw [h]

set_option maxRecDepth 100000 in
set_option maxHeartbeats 1000000 in
theorem c_X6_told {c : Nat → z_E} {S : z_S} {o : Nat → Int64} {d : z_H} {a : Nat} (W : rowOK S) (ha : a + 1 < 60) : z_K yX6_told cX6_told 2 (some .int) 0 0 0 [.ref 11, .int (nI a)] (HP c (mfun S o) d) (fun v h' => v = some (.int (nI (toldN S a))) ∧ h' = (HP c (mfun S o) d)) := by
  refine z_met vI_X6_told (Nat.le_of_ble_eq_true rfl) (fun G X F hr hnm => ?_)
  refine z_aload_n F dX6_told_0 rfl rfl ?_
  refine z_getf F vF_X6_74 dX6_told_1 mO_at rfl ?_
  refine z_iload_n F dX6_told_4 rfl ?_
  refine z_iald F dX6_told_5 mA_39 rfl rfl (show a < 60 by omega) (Nat.le_of_ble_eq_true rfl) ?_
  refine z_bipush (v := 8) F dX6_told_6 rfl ?_
  refine z_ishl F dX6_told_8 ?_
  refine z_aload_n F dX6_told_9 rfl rfl ?_
  refine z_getf F vF_X6_74 dX6_told_10 mO_at rfl ?_
  refine z_iload_n F dX6_told_13 rfl ?_
  refine z_iconst (v := 1) F dX6_told_14 rfl ?_
  refine z_iadd F dX6_told_15 ?_
  rw [nI_1]
  refine z_iald F dX6_told_16 mA_39 rfl rfl (show a + 1 < 60 by omega) (Nat.le_of_ble_eq_true rfl) ?_
  refine z_ior F dX6_told_17 ?_
  rw [nI_word (W a) (W (a + 1))]
  exact z_iret F hr dX6_told_18 rfl (Nat.le_of_ble_eq_true rfl) (Nat.le_of_ble_eq_true rfl) (⟨rfl, rfl⟩)

set_option maxRecDepth 100000 in
set_option maxHeartbeats 1000000 in
theorem l_X6_number {c : Nat → z_E} {S : z_S} {o : Nat → Int64} {d : z_H} {a n : Nat} (ha : a + n ≤ 60) {G : z_G} {X : z_X} (F : z_F vwCl z_ats z_nw wsL_law G RX6 cX6_number 6 (z_rm 0 0 0) X) (hr : X.2.2.2.2.2.2.2.2.1.sig.returnType = some .long) :
    ∀ (m i : Nat), i + m = n → z_V vwCl G 6 X (z_end vwCl z_ats z_nw G X 0 0 (fun v h' => v = some (.long (numL (fun i => nI (sAN S 39 (a + i))) n)) ∧ h' = (HP c (mfun S o) d))) 0 0 5 [(0, .ref 11), (1, .int (nI a)), (2, .int (nI n)), (3, .long (numL (fun i => nI (sAN S 39 (a + i))) i)), (5, .int (nI i))] [] (HP c (mfun S o) d) := by
  intro m
  induction m with
  | zero =>
    intro i hi
    obtain rfl : i = n := by omega
    refine z_iload F dX6_number_5 rfl ?_
    refine z_iload_n F dX6_number_7 rfl ?_
    refine z_icmp_ge (tgt := 33) F dX6_number_8 (by decide) (fun c8 => ?_) (fun c8 => absurd (nI_le (Nat.le_refl _) (by omega)) c8)
    refine z_lload_n F dX6_number_33 rfl ?_
    exact z_lret F hr dX6_number_34 (Nat.le_of_ble_eq_true rfl) (Nat.le_of_ble_eq_true rfl) (⟨rfl, rfl⟩)
  | succ m ih =>
    intro i hi
    refine z_iload F dX6_number_5 rfl ?_
    refine z_iload_n F dX6_number_7 rfl ?_
    refine z_icmp_ge (tgt := 33) F dX6_number_8 (by decide) (fun c8 => absurd c8 (nI_ge (show i < n by omega) (by omega))) (fun c8 => ?_)
    refine z_lload_n F dX6_number_11 rfl ?_
    refine z_bipush (v := 8) F dX6_number_12 rfl ?_
    refine z_lshl F dX6_number_14 ?_
    refine z_aload_n F dX6_number_15 rfl rfl ?_
    refine z_getf F vF_X6_74 dX6_number_16 mO_at rfl ?_
    refine z_iload_n F dX6_number_19 rfl ?_
    refine z_iload F dX6_number_20 rfl ?_
    refine z_iadd F dX6_number_22 ?_
    rw [nI_add]
    refine z_iald F dX6_number_23 mA_39 rfl rfl (show a + i < 60 by omega) (Nat.le_of_ble_eq_true rfl) ?_
    refine z_i2l F dX6_number_24 ?_
    refine z_lor F dX6_number_25 ?_
    refine z_lstore_n F dX6_number_26 (Nat.le_of_ble_eq_true rfl) ?_
    refine z_iinc (w := 1) F dX6_number_27 rfl rfl (Nat.le_of_ble_eq_true rfl) ?_
    rw [nI_1]
    refine z_goto (tgt := 5) F dX6_number_30 (by decide) ?_
    exact ih (i + 1) (by omega)

set_option maxRecDepth 100000 in
set_option maxHeartbeats 1000000 in
theorem c_X6_number {c : Nat → z_E} {S : z_S} {o : Nat → Int64} {d : z_H} {a n : Nat} (ha : a + n ≤ 60) : z_K yX6_number cX6_number 6 (some .long) 0 0 0 [.ref 11, .int (nI a), .int (nI n)] (HP c (mfun S o) d) (fun v h' => v = some (.long (numL (fun i => nI (sAN S 39 (a + i))) n)) ∧ h' = (HP c (mfun S o) d)) := by
  refine z_met vI_X6_number (Nat.le_of_ble_eq_true rfl) (fun G X F hr hnm => ?_)
  refine z_lconst (v := 0) F dX6_number_0 rfl ?_
  refine z_lstore_n F dX6_number_1 (Nat.le_of_ble_eq_true rfl) ?_
  refine z_iconst (v := 0) F dX6_number_2 rfl ?_
  refine z_istore F dX6_number_3 (Nat.le_of_ble_eq_true rfl) ?_
  exact l_X6_number ha F hr n 0 (by omega)

set_option maxRecDepth 100000 in
set_option maxHeartbeats 1000000 in
theorem c_X6_say {c : Nat → z_E} {S : z_S} {o : Nat → Int64} {d : z_H} {b : Nat} (ha : sN S 40 < 1000) (hb : b < 2 ^ 31) : z_K yX6_say cX6_say 2 none 0 0 0 [.ref 11, .int (nI b)] (HP c (mfun S o) d) (fun v h' => v = none ∧ h' = (HP c (mfun (sayS S b) o) d)) := by
  refine z_met vI_X6_say (Nat.le_of_ble_eq_true rfl) (fun G X F hr hnm => ?_)
  refine z_aload_n F dX6_say_0 rfl rfl ?_
  refine z_getf F vF_X6_77 dX6_say_1 mO_at rfl ?_
  refine z_aload_n F dX6_say_4 rfl rfl ?_
  refine z_getf F vF_X6_128 dX6_say_5 mO_at rfl ?_
  refine z_iload_n F dX6_say_8 rfl ?_
  refine z_sipush (v := 255) F dX6_say_9 rfl ?_
  refine z_iand F dX6_say_12 ?_
  rw [pk_andN (show b < 2 ^ 32 by omega) 8 (by decide)]
  refine z_iast F dX6_say_13 mA_41 rfl rfl ha (Nat.le_of_ble_eq_true rfl) ?_
  refine z_heap _ (ma_41) ?_
  refine z_aload_n F dX6_say_14 rfl rfl ?_
  refine z_dup F dX6_say_15 rfl ?_
  refine z_getf F vF_X6_128 dX6_say_16 mO_at rfl ?_
  refine z_iconst (v := 1) F dX6_say_19 rfl ?_
  refine z_iadd F dX6_say_20 ?_
  rw [nI_1]
  refine z_putf F vF_X6_128 vT_X6 vD_X6_40 dX6_say_21 mO_at (Nat.le_of_ble_eq_true rfl) rfl rfl (fun g21 => ?_)
  refine z_heap _ (ms_40) ?_
  exact z_vret F hr dX6_say_24 (Nat.le_of_ble_eq_true rfl) (Nat.le_of_ble_eq_true rfl) (⟨rfl, rfl⟩)

set_option maxRecDepth 100000 in
set_option maxHeartbeats 1000000 in
theorem c_X6_threeSaid {c : Nat → z_E} {S : z_S} {o : Nat → Int64} {d : z_H} {x y w : Nat} (ha : sN S 40 < 900) (hx : x < 2 ^ 31) (hy : y < 2 ^ 31) (hw : w < 2 ^ 31) : z_K yX6_threeSaid cX6_threeSaid 4 none 1 0 0 [.ref 11, .int (nI x), .int (nI y), .int (nI w)] (HP c (mfun S o) d) (fun v h' => v = none ∧ h' = (HP c (mfun (sayS (sayS (sayS S x) y) w) o) d)) := by
  refine z_met vI_X6_threeSaid (Nat.le_of_ble_eq_true rfl) (fun G X F hr hnm => ?_)
  refine z_aload_n F dX6_threeSaid_0 rfl rfl ?_
  refine z_iload_n F dX6_threeSaid_1 rfl ?_
  refine z_callV F z_nwOK wL_good (c_X6_say (b := x) (by omega) hx) mO_at rfl vI_X6_say vM_X6_131 vV_X6_say vL_X6_say rfl dX6_threeSaid_2 rfl rfl (Nat.le_of_ble_eq_true rfl) ⟨(Nat.le_of_ble_eq_true rfl), (Nat.le_of_ble_eq_true rfl), (Nat.le_of_ble_eq_true rfl), (Nat.le_of_ble_eq_true rfl)⟩ (fun v h1 hq => ?_)
  obtain ⟨rfl, rfl⟩ := hq
  refine z_aload_n F dX6_threeSaid_5 rfl rfl ?_
  refine z_iload_n F dX6_threeSaid_6 rfl ?_
  refine z_callV F z_nwOK wL_good (c_X6_say (S := sayS S x) (b := y) (show sN S 40 + 1 < 1000 by omega) hy) mO_at rfl vI_X6_say vM_X6_131 vV_X6_say vL_X6_say rfl dX6_threeSaid_7 rfl rfl (Nat.le_of_ble_eq_true rfl) ⟨(Nat.le_of_ble_eq_true rfl), (Nat.le_of_ble_eq_true rfl), (Nat.le_of_ble_eq_true rfl), (Nat.le_of_ble_eq_true rfl)⟩ (fun v h1 hq => ?_)
  obtain ⟨rfl, rfl⟩ := hq
  refine z_aload_n F dX6_threeSaid_10 rfl rfl ?_
  refine z_iload_n F dX6_threeSaid_11 rfl ?_
  refine z_callV F z_nwOK wL_good (c_X6_say (S := sayS (sayS S x) y) (b := w) (show sN S 40 + 1 + 1 < 1000 by omega) hw) mO_at rfl vI_X6_say vM_X6_131 vV_X6_say vL_X6_say rfl dX6_threeSaid_12 rfl rfl (Nat.le_of_ble_eq_true rfl) ⟨(Nat.le_of_ble_eq_true rfl), (Nat.le_of_ble_eq_true rfl), (Nat.le_of_ble_eq_true rfl), (Nat.le_of_ble_eq_true rfl)⟩ (fun v h1 hq => ?_)
  obtain ⟨rfl, rfl⟩ := hq
  exact z_vret F hr dX6_threeSaid_15 (Nat.le_of_ble_eq_true rfl) (Nat.le_of_ble_eq_true rfl) (⟨rfl, rfl⟩)

set_option maxRecDepth 100000 in
set_option maxHeartbeats 1000000 in
theorem l_X6_ends {c : Nat → z_E} {S : z_S} {o : Nat → Int64} {d : z_H} {f : Nat} (h40 : sN S 8 ≤ 40) {G : z_G} {X : z_X} (F : z_F vwCl z_ats z_nw wsL_law G RX6 cX6_ends 3 (z_rm 0 0 0) X) (hr : X.2.2.2.2.2.2.2.2.1.sig.returnType = none) :
    ∀ (m i : Nat), i + m = sN S 8 → z_V vwCl G 3 X (z_end vwCl z_ats z_nw G X 0 0 (fun v h' => v = none ∧ h' = (HP c (mfun (endS S f) o) d))) 0 0 2 [(0, .ref 11), (1, .int (nI f)), (2, .int (nI i))] [] (HP c (mfun (uAB S 14 (clr S i)) o) d) := by
  intro m
  induction m with
  | zero =>
    intro i hi
    obtain rfl : i = sN S 8 := by omega
    refine z_iload_n F dX6_ends_2 rfl ?_
    refine z_aload_n F dX6_ends_3 rfl rfl ?_
    refine z_getf F vF_X6_86 dX6_ends_4 mO_at rfl ?_
    refine z_icmp_ge (tgt := 23) F dX6_ends_7 (by decide) (fun c7 => ?_) (fun c7 => absurd (nI_le (show sN S 8 ≤ sN S 8 from Nat.le_refl _) (by omega)) c7)
    refine z_aload_n F dX6_ends_23 rfl rfl ?_
    refine z_iconst (v := 0) F dX6_ends_24 rfl ?_
    refine z_putf F vF_X6_135 vT_X6 vD_X6_26 dX6_ends_25 mO_at (Nat.le_of_ble_eq_true rfl) rfl rfl (fun g25 => ?_)
    refine z_heap _ (ms_26 (v := false)) ?_
    refine z_aload_n F dX6_ends_28 rfl rfl ?_
    refine z_iconst (v := 0) F dX6_ends_29 rfl ?_
    refine z_putf F vF_X6_112 vT_X6 vD_X6_2 dX6_ends_30 mO_at (Nat.le_of_ble_eq_true rfl) rfl rfl (fun g30 => ?_)
    refine z_heap _ (ms_2 (v := 0)) ?_
    refine z_aload_n F dX6_ends_33 rfl rfl ?_
    refine z_iload_n F dX6_ends_34 rfl ?_
    refine z_putf F vF_X6_7 vT_X6 vD_X6_1 dX6_ends_35 mO_at (Nat.le_of_ble_eq_true rfl) rfl rfl (fun g35 => ?_)
    refine z_heap _ (ms_1) ?_
    exact z_vret F hr dX6_ends_38 (Nat.le_of_ble_eq_true rfl) (Nat.le_of_ble_eq_true rfl) (⟨rfl, rfl⟩)
  | succ m ih =>
    intro i hi
    refine z_iload_n F dX6_ends_2 rfl ?_
    refine z_aload_n F dX6_ends_3 rfl rfl ?_
    refine z_getf F vF_X6_86 dX6_ends_4 mO_at rfl ?_
    refine z_icmp_ge (tgt := 23) F dX6_ends_7 (by decide) (fun c7 => absurd c7 (nI_ge (a := i) (b := sN S 8) (by omega) (by omega))) (fun c7 => ?_)
    refine z_aload_n F dX6_ends_10 rfl rfl ?_
    refine z_getf F vF_X6_37 dX6_ends_11 mO_at rfl ?_
    refine z_iload_n F dX6_ends_14 rfl ?_
    refine z_iconst (v := 0) F dX6_ends_15 rfl ?_
    refine z_zast F dX6_ends_16 mA_14 rfl rfl (show i < 40 by omega) (Nat.le_of_ble_eq_true rfl) ?_
    refine z_heap _ (ma_14 (v := false)) ?_
    refine z_iinc (w := 1) F dX6_ends_17 rfl rfl (Nat.le_of_ble_eq_true rfl) ?_
    rw [nI_1]
    refine z_goto (tgt := 2) F dX6_ends_20 (by decide) ?_
    refine z_heap _ (z_hS (clr_step S i)) ?_
    exact ih (i + 1) (by omega)

set_option maxRecDepth 100000 in
set_option maxHeartbeats 1000000 in
theorem c_X6_ends {c : Nat → z_E} {S : z_S} {o : Nat → Int64} {d : z_H} {f : Nat} (h40 : sN S 8 ≤ 40) : z_K yX6_ends cX6_ends 3 none 0 0 0 [.ref 11, .int (nI f)] (HP c (mfun S o) d) (fun v h' => v = none ∧ h' = (HP c (mfun (endS S f) o) d)) := by
  refine z_met vI_X6_ends (Nat.le_of_ble_eq_true rfl) (fun G X F hr hnm => ?_)
  refine z_iconst (v := 0) F dX6_ends_0 rfl ?_
  refine z_istore_n F dX6_ends_1 (Nat.le_of_ble_eq_true rfl) ?_
  refine z_heap _ (z_hS (S2 := uAB S 14 (clr S 0)) (by rw [show clr S 0 = sAB S 14 from by funext k; simp [clr]]; exact (uAB_same S 14).symm)) ?_
  exact l_X6_ends h40 F hr (sN S 8) 0 (by omega)

set_option maxRecDepth 100000 in
set_option maxHeartbeats 1000000 in
theorem c_X6_isHere_n {c : Nat → z_E} {S : z_S} {o : Nat → Int64} {d : z_H} : z_K yX6_isHere cX6_isHere 2 (some .boolean) 0 0 0 [.ref 11, .int (fI none)] (HP c (mfun S o) d) (fun v h' => v = some (.int (z_b (hereS S none))) ∧ h' = (HP c (mfun S o) d)) := by
  refine z_met vI_X6_isHere (Nat.le_of_ble_eq_true rfl) (fun G X F hr hnm => ?_)
  refine z_iload_n F dX6_isHere_0 rfl ?_
  refine z_if_lt (tgt := 21) F dX6_isHere_1 (by decide) (fun c1 => ?_) (fun c1 => absurd (by decide) c1)
  refine z_iconst (v := 0) F dX6_isHere_21 rfl ?_
  exact z_iret F hr dX6_isHere_22 rfl (Nat.le_of_ble_eq_true rfl) (Nat.le_of_ble_eq_true rfl) (⟨rfl, rfl⟩)

set_option maxRecDepth 100000 in
set_option maxHeartbeats 1000000 in
theorem c_X6_isHere_s {c : Nat → z_E} {S : z_S} {o : Nat → Int64} {d : z_H} {k : Nat} (hk : k < 40) (h1 : sN S 1 < 1000) (h2 : sAN S 11 k < 1000) : z_K yX6_isHere cX6_isHere 2 (some .boolean) 0 0 0 [.ref 11, .int (fI (some k))] (HP c (mfun S o) d) (fun v h' => v = some (.int (z_b (hereS S (some k)))) ∧ h' = (HP c (mfun S o) d)) := by
  refine z_met vI_X6_isHere (Nat.le_of_ble_eq_true rfl) (fun G X F hr hnm => ?_)
  refine z_iload_n F dX6_isHere_0 rfl ?_
  refine z_if_lt (tgt := 21) F dX6_isHere_1 (by decide) (fun c1 => absurd c1 (nI_pos (by omega))) (fun c1 => ?_)
  refine z_aload_n F dX6_isHere_4 rfl rfl ?_
  refine z_getf F vF_X6_27 dX6_isHere_5 mO_at rfl ?_
  refine z_iload_n F dX6_isHere_8 rfl ?_
  refine z_iald F dX6_isHere_9 mA_11 rfl rfl (show k < 40 by omega) (Nat.le_of_ble_eq_true rfl) ?_
  refine z_aload_n F dX6_isHere_10 rfl rfl ?_
  refine z_getf F vF_X6_7 dX6_isHere_11 mO_at rfl ?_
  refine z_icmp_gt (tgt := 21) F dX6_isHere_14 (by decide) (fun c14 => ?_) (fun c14 => ?_)
  · have hz : hereS S (some k) = false := decide_eq_false (by have := mt (nI_ltI (a := sN S 1) (b := sAN S 11 k) (by omega) (by omega)).mpr; have := (nI_ltI (by omega) (by omega)).mp c14; omega)
    refine z_iconst (v := 0) F dX6_isHere_21 rfl ?_
    exact z_iret F hr dX6_isHere_22 rfl (Nat.le_of_ble_eq_true rfl) (Nat.le_of_ble_eq_true rfl) (⟨by rw [hz]; rfl, rfl⟩)
  · have hz : hereS S (some k) = true := decide_eq_true (by have := mt (nI_ltI (a := sN S 1) (b := sAN S 11 k) (by omega) (by omega)).mpr c14; omega)
    refine z_iconst (v := 1) F dX6_isHere_17 rfl ?_
    refine z_goto (tgt := 22) F dX6_isHere_18 (by decide) ?_
    exact z_iret F hr dX6_isHere_22 rfl (Nat.le_of_ble_eq_true rfl) (Nat.le_of_ble_eq_true rfl) (⟨by rw [hz]; rfl, rfl⟩)

/-- bounds of the state, for the services -/
def numsOK (S : z_S) : Prop := sN S 1 ≤ 3 ∧ sN S 2 ≤ 3 ∧ sN S 7 ≤ 10 ∧ (∀ k, sAN S 11 k ≤ 3) ∧ (∀ k, sAN S 12 k ≤ 3)
set_option maxRecDepth 100000 in
set_option maxHeartbeats 1000000 in
theorem c_X6_isHere {c : Nat → z_E} {S : z_S} {o : Nat → Int64} {d : z_H} {x : Int32} (W : idsOK S) (V : numsOK S) : z_K yX6_isHere cX6_isHere 2 (some .boolean) 0 0 0 [.ref 11, .int (fI (fnd (sAI S 9) x (sN S 8)))] (HP c (mfun S o) d) (fun v h' => v = some (.int (z_b (hereS S (fnd (sAI S 9) x (sN S 8))))) ∧ h' = (HP c (mfun S o) d)) := by
  cases hf : fnd (sAI S 9) x (sN S 8) with
  | none => exact c_X6_isHere_n
  | some k => exact c_X6_isHere_s (Nat.lt_of_lt_of_le (fnd_lt hf) W.1) (Nat.lt_of_le_of_lt V.1 (by decide)) (Nat.lt_of_le_of_lt (V.2.2.2.1 k) (by decide))

def sv46 (S : z_S) : Nat × z_S :=
  if sN S 38 - 1 < 3 then (19, S) else
  match hereF S (toldN S 1) with
  | none => (49, S)
  | some k => if (sAB S 17 k || sAB S 16 k) = true then (49, S) else if ¬ sN S 38 - 1 - 2 = sAN S 10 k then (19, S) else if sN S 2 < sAN S 12 k then (51, S) else if sB S 5 = false then (34, S)
    else (0, sayS (sayS (sayS (uAL S 13 (va_up (sAL S 13) k (numL (fun i => nI (sAN S 39 (3 + i))) (sAN S 10 k)))) 110) (sAN S 39 1)) (sAN S 39 2))

set_option maxRecDepth 100000 in
set_option maxHeartbeats 1000000 in
theorem c_X6_write {c : Nat → z_E} {S : z_S} {o : Nat → Int64} {d : z_H} (R : rowOK S) (W : idsOK S) (V : numsOK S) (hM : sN S 38 ≤ 60) (hM1 : 1 ≤ sN S 38) (hA : sN S 40 = 0) : z_K yX6_write cX6_write 3 (some .int) 2 0 0 [.ref 11, .int (nI (sN S 38 - 1))] (HP c (mfun S o) d) (fun v h' => v = some (.int (nI (sv46 S).1)) ∧ h' = (HP c (mfun ((sv46 S).2) o) d)) := by
  refine z_met vI_X6_write (Nat.le_of_ble_eq_true rfl) (fun G X F hr hnm => ?_)
  refine z_iload_n F dX6_write_0 rfl ?_
  refine z_iconst (v := 3) F dX6_write_1 rfl ?_
  refine z_icmp_ge (tgt := 8) F dX6_write_2 (by decide) (fun c2 => ?_) (fun c2 => ?_)
  · have h3 : ¬ sN S 38 - 1 < 3 := by have := (nI_leI (a := 3) (b := sN S 38 - 1) (by decide) (by omega)).mp c2; omega
    refine z_aload_n F dX6_write_8 rfl rfl ?_
    refine z_aload_n F dX6_write_9 rfl rfl ?_
    refine z_iconst (v := 1) F dX6_write_10 rfl ?_
    refine z_callV F z_nwOK wL_good (c_X6_told (a := 1) R (by decide)) mO_at rfl vI_X6_told vM_X6_156 vV_X6_told vL_X6_told rfl dX6_write_11 rfl rfl (Nat.le_of_ble_eq_true rfl) ⟨(Nat.le_of_ble_eq_true rfl), (Nat.le_of_ble_eq_true rfl), (Nat.le_of_ble_eq_true rfl), (Nat.le_of_ble_eq_true rfl)⟩ (fun v h1 hq => ?_)
    obtain ⟨rfl, rfl⟩ := hq
    refine z_callV F z_nwOK wL_good (c_X6_find W.1) mO_at rfl vI_X6_find vM_X6_99 vV_X6_find vL_X6_find rfl dX6_write_14 rfl rfl (Nat.le_of_ble_eq_true rfl) ⟨(Nat.le_of_ble_eq_true rfl), (Nat.le_of_ble_eq_true rfl), (Nat.le_of_ble_eq_true rfl), (Nat.le_of_ble_eq_true rfl)⟩ (fun v h1 hq => ?_)
    obtain ⟨rfl, rfl⟩ := hq
    refine z_istore_n F dX6_write_17 (Nat.le_of_ble_eq_true rfl) ?_
    refine z_aload_n F dX6_write_18 rfl rfl ?_
    refine z_iload_n F dX6_write_19 rfl ?_
    refine z_callV F z_nwOK wL_good (c_X6_isHere W V) mO_at rfl vI_X6_isHere vM_X6_180 vV_X6_isHere vL_X6_isHere rfl dX6_write_20 rfl rfl (Nat.le_of_ble_eq_true rfl) ⟨(Nat.le_of_ble_eq_true rfl), (Nat.le_of_ble_eq_true rfl), (Nat.le_of_ble_eq_true rfl), (Nat.le_of_ble_eq_true rfl)⟩ (fun v h1 hq => ?_)
    obtain ⟨rfl, rfl⟩ := hq
    rcases here_cases S (toldN S 1) with ⟨hF, h2⟩ | ⟨k, hr', hF, h2, hk⟩
    · rw [h2]
      have hs : sv46 S = (49, S) := by unfold sv46; rw [if_neg h3, hF]
      refine z_if_eq (tgt := 44) F dX6_write_23 (by decide) (fun c23 => ?_) (fun c23 => absurd rfl c23)
      refine z_bipush (v := 49) F dX6_write_44 rfl ?_
      exact z_iret F hr dX6_write_46 rfl (Nat.le_of_ble_eq_true rfl) (Nat.le_of_ble_eq_true rfl) (⟨by rw [hs]; try rfl, by rw [hs]; try rfl⟩)
    · rw [hr', h2]
      have h40 := W.1
      have hl := (W.2 k hk).1
      refine z_if_eq (tgt := 44) F dX6_write_23 (by decide) (fun c23 => absurd c23 (by decide)) (fun c23 => ?_)
      refine z_aload_n F dX6_write_26 rfl rfl ?_
      refine z_getf F vF_X6_47 dX6_write_27 mO_at rfl ?_
      refine z_iload_n F dX6_write_30 rfl ?_
      refine z_zald F dX6_write_31 mA_17 rfl rfl (show k < 40 by omega) (Nat.le_of_ble_eq_true rfl) ?_
      refine z_if_ne (tgt := 44) F dX6_write_32 (by decide) (fun c32 => ?_) (fun c32 => ?_)
      · have hj : sAB S 17 k = true := z_b1 c32
        have hs : sv46 S = (49, S) := by unfold sv46; rw [if_neg h3, hF]; show (if _ then _ else _) = _; rw [if_pos (by rw [hj]; rfl)]
        refine z_bipush (v := 49) F dX6_write_44 rfl ?_
        exact z_iret F hr dX6_write_46 rfl (Nat.le_of_ble_eq_true rfl) (Nat.le_of_ble_eq_true rfl) (⟨by rw [hs]; try rfl, by rw [hs]; try rfl⟩)
      · have hj : sAB S 17 k = false := z_b0.mp c32
        refine z_aload_n F dX6_write_35 rfl rfl ?_
        refine z_getf F vF_X6_44 dX6_write_36 mO_at rfl ?_
        refine z_iload_n F dX6_write_39 rfl ?_
        refine z_zald F dX6_write_40 mA_16 rfl rfl (show k < 40 by omega) (Nat.le_of_ble_eq_true rfl) ?_
        refine z_if_eq (tgt := 47) F dX6_write_41 (by decide) (fun c41 => ?_) (fun c41 => ?_)
        · have hp : sAB S 16 k = false := z_b0.mp c41
          have hjp : ¬ (sAB S 17 k || sAB S 16 k) = true := by rw [hj, hp]; decide
          refine z_iload_n F dX6_write_47 rfl ?_
          refine z_iconst (v := 2) F dX6_write_48 rfl ?_
          refine z_isub F dX6_write_49 ?_
          refine z_aload_n F dX6_write_50 rfl rfl ?_
          refine z_getf F vF_X6_24 dX6_write_51 mO_at rfl ?_
          refine z_iload_n F dX6_write_54 rfl ?_
          refine z_iald F dX6_write_55 mA_10 rfl rfl (show k < 40 by omega) (Nat.le_of_ble_eq_true rfl) ?_
          rw [show nI (sN S 38 - 1) - 2 = nI (sN S 38 - 1 - 2) from pk_sub (b := 2) (by omega)]
          refine z_icmp_eq (tgt := 62) F dX6_write_56 (by decide) (fun c56 => ?_) (fun c56 => ?_)
          · have hn : sN S 38 - 1 - 2 = sAN S 10 k := (nI_eq (by omega) (by omega)).mp c56
            refine z_aload_n F dX6_write_62 rfl rfl ?_
            refine z_getf F vF_X6_30 dX6_write_63 mO_at rfl ?_
            refine z_iload_n F dX6_write_66 rfl ?_
            refine z_iald F dX6_write_67 mA_12 rfl rfl (show k < 40 by omega) (Nat.le_of_ble_eq_true rfl) ?_
            refine z_aload_n F dX6_write_68 rfl rfl ?_
            refine z_getf F vF_X6_112 dX6_write_69 mO_at rfl ?_
            refine z_icmp_le (tgt := 78) F dX6_write_72 (by decide) (fun c72 => ?_) (fun c72 => ?_)
            · have hv : ¬ sN S 2 < sAN S 12 k := by have := (nI_leI (by have := V.2.2.2.2 k; omega) (by have := V.2.1; omega)).mp c72; omega
              refine z_aload_n F dX6_write_78 rfl rfl ?_
              refine z_getf F vF_X6_13 dX6_write_79 mO_at rfl ?_
              refine z_if_ne (tgt := 88) F dX6_write_82 (by decide) (fun c82 => ?_) (fun c82 => ?_)
              · have hd : ¬ sB S 5 = false := by rw [z_b1 c82]; decide
                have hs : sv46 S = (0, sayS (sayS (sayS (uAL S 13 (va_up (sAL S 13) k (numL (fun i => nI (sAN S 39 (3 + i))) (sAN S 10 k)))) 110) (sAN S 39 1)) (sAN S 39 2)) := by unfold sv46; rw [if_neg h3, hF]; show (if _ then _ else _) = _; rw [if_neg hjp, if_neg (not_not_intro hn), if_neg hv, if_neg hd]
                refine z_aload_n F dX6_write_88 rfl rfl ?_
                refine z_getf F vF_X6_33 dX6_write_89 mO_at rfl ?_
                refine z_iload_n F dX6_write_92 rfl ?_
                refine z_aload_n F dX6_write_93 rfl rfl ?_
                refine z_iconst (v := 3) F dX6_write_94 rfl ?_
                refine z_aload_n F dX6_write_95 rfl rfl ?_
                refine z_getf F vF_X6_24 dX6_write_96 mO_at rfl ?_
                refine z_iload_n F dX6_write_99 rfl ?_
                refine z_iald F dX6_write_100 mA_10 rfl rfl (show k < 40 by omega) (Nat.le_of_ble_eq_true rfl) ?_
                refine z_callV F z_nwOK wL_good (c_X6_number (a := 3) (n := sAN S 10 k) (by omega)) mO_at rfl vI_X6_number vM_X6_184 vV_X6_number vL_X6_number rfl dX6_write_101 rfl rfl (Nat.le_of_ble_eq_true rfl) ⟨(Nat.le_of_ble_eq_true rfl), (Nat.le_of_ble_eq_true rfl), (Nat.le_of_ble_eq_true rfl), (Nat.le_of_ble_eq_true rfl)⟩ (fun v h1 hq => ?_)
                obtain ⟨rfl, rfl⟩ := hq
                refine z_last F dX6_write_104 mA_13 rfl rfl (show k < 40 by omega) (Nat.le_of_ble_eq_true rfl) ?_
                refine z_heap _ (ma_13) ?_
                refine z_aload_n F dX6_write_105 rfl rfl ?_
                refine z_bipush (v := 110) F dX6_write_106 rfl ?_
                refine z_aload_n F dX6_write_108 rfl rfl ?_
                refine z_getf F vF_X6_74 dX6_write_109 mO_at rfl ?_
                refine z_iconst (v := 1) F dX6_write_112 rfl ?_
                refine z_iald F dX6_write_113 mA_39 rfl rfl (show 1 < 60 by decide) (Nat.le_of_ble_eq_true rfl) ?_
                refine z_aload_n F dX6_write_114 rfl rfl ?_
                refine z_getf F vF_X6_74 dX6_write_115 mO_at rfl ?_
                refine z_iconst (v := 2) F dX6_write_118 rfl ?_
                refine z_iald F dX6_write_119 mA_39 rfl rfl (show 2 < 60 by decide) (Nat.le_of_ble_eq_true rfl) ?_
                refine z_callV F z_nwOK wL_good (c_X6_threeSaid (S := uAL S 13 (va_up (sAL S 13) k (numL (fun i => nI (sAN S 39 (3 + i))) (sAN S 10 k)))) (x := 110) (y := sAN S 39 1) (w := sAN S 39 2) (show sN S 40 < 900 by omega) (by decide) (by have := R 1; omega) (by have := R 2; omega)) mO_at rfl vI_X6_threeSaid vM_X6_176 vV_X6_threeSaid vL_X6_threeSaid rfl dX6_write_120 rfl rfl (Nat.le_of_ble_eq_true rfl) ⟨(Nat.le_of_ble_eq_true rfl), (Nat.le_of_ble_eq_true rfl), (Nat.le_of_ble_eq_true rfl), (Nat.le_of_ble_eq_true rfl)⟩ (fun v h1 hq => ?_)
                obtain ⟨rfl, rfl⟩ := hq
                refine z_iconst (v := 0) F dX6_write_123 rfl ?_
                exact z_iret F hr dX6_write_124 rfl (Nat.le_of_ble_eq_true rfl) (Nat.le_of_ble_eq_true rfl) (⟨by rw [hs]; try rfl, by rw [hs]; try rfl⟩)
              · have hd : sB S 5 = false := z_b0.mp c82
                have hs : sv46 S = (34, S) := by unfold sv46; rw [if_neg h3, hF]; show (if _ then _ else _) = _; rw [if_neg hjp, if_neg (not_not_intro hn), if_neg hv, if_pos hd]
                refine z_bipush (v := 34) F dX6_write_85 rfl ?_
                exact z_iret F hr dX6_write_87 rfl (Nat.le_of_ble_eq_true rfl) (Nat.le_of_ble_eq_true rfl) (⟨by rw [hs]; try rfl, by rw [hs]; try rfl⟩)
            · have hv : sN S 2 < sAN S 12 k := by have := mt (nI_leI (a := sAN S 12 k) (b := sN S 2) (by have := V.2.2.2.2 k; omega) (by have := V.2.1; omega)).mpr c72; omega
              have hs : sv46 S = (51, S) := by unfold sv46; rw [if_neg h3, hF]; show (if _ then _ else _) = _; rw [if_neg hjp, if_neg (not_not_intro hn), if_pos hv]
              refine z_bipush (v := 51) F dX6_write_75 rfl ?_
              exact z_iret F hr dX6_write_77 rfl (Nat.le_of_ble_eq_true rfl) (Nat.le_of_ble_eq_true rfl) (⟨by rw [hs]; try rfl, by rw [hs]; try rfl⟩)
          · have hn : ¬ sN S 38 - 1 - 2 = sAN S 10 k := fun e => c56 (by rw [e])
            have hs : sv46 S = (19, S) := by unfold sv46; rw [if_neg h3, hF]; show (if _ then _ else _) = _; rw [if_neg hjp, if_pos hn]
            refine z_bipush (v := 19) F dX6_write_59 rfl ?_
            exact z_iret F hr dX6_write_61 rfl (Nat.le_of_ble_eq_true rfl) (Nat.le_of_ble_eq_true rfl) (⟨by rw [hs]; try rfl, by rw [hs]; try rfl⟩)
        · have hp : sAB S 16 k = true := z_b1 c41
          have hs : sv46 S = (49, S) := by unfold sv46; rw [if_neg h3, hF]; show (if _ then _ else _) = _; rw [if_pos (by rw [hp]; simp)]
          refine z_bipush (v := 49) F dX6_write_44 rfl ?_
          exact z_iret F hr dX6_write_46 rfl (Nat.le_of_ble_eq_true rfl) (Nat.le_of_ble_eq_true rfl) (⟨by rw [hs]; try rfl, by rw [hs]; try rfl⟩)
  · have h3 : sN S 38 - 1 < 3 := by have := mt (nI_leI (a := 3) (b := sN S 38 - 1) (by decide) (by omega)).mpr c2; omega
    have hs : sv46 S = (19, S) := if_pos h3
    refine z_bipush (v := 19) F dX6_write_5 rfl ?_
    exact z_iret F hr dX6_write_7 rfl (Nat.le_of_ble_eq_true rfl) (Nat.le_of_ble_eq_true rfl) (⟨by rw [hs]; try rfl, by rw [hs]; try rfl⟩)
