/-- the first place with this number -/
def fnd (f : Nat → Int32) (x : Int32) : Nat → Option Nat
  | 0 => none
  | n + 1 => match fnd f x n with
    | some k => some k
    | none => if f n = x then some n else none
def fI (r : Option Nat) : Int32 := match r with
  | none => -1
  | some k => nI k
theorem fnd_none {f : Nat → Int32} {x : Int32} : ∀ {n : Nat}, fnd f x n = none ↔ ∀ j, j < n → ¬ f j = x
  | 0 => ⟨fun _ j hj => absurd hj (Nat.not_lt_zero j), fun _ => rfl⟩
  | n + 1 => by
    unfold fnd
    cases h : fnd f x n with
    | some k =>
      refine ⟨fun q => by simp at q, fun q => ?_⟩
      have := (fnd_none (n := n)).mpr (fun j hj => q j (by omega))
      rw [h] at this
      cases this
    | none =>
      have h2 := fnd_none.mp h
      by_cases e : f n = x
      · simp only [e, if_pos]
        exact ⟨fun q => by simp at q, fun q => absurd e (q n (by omega))⟩
      · simp only [if_neg e, true_iff]
        intro j hj
        by_cases hjn : j = n
        · rw [hjn]; exact e
        · exact h2 j (by omega)
theorem fnd_at {f : Nat → Int32} {x : Int32} {k : Nat} (hf : f k = x) (hm : ∀ j, j < k → ¬ f j = x) : ∀ {n : Nat}, k < n → fnd f x n = some k
  | n + 1, hk => by
    unfold fnd
    by_cases hkn : k = n
    · subst hkn
      rw [fnd_none.mpr hm]
      simp [hf]
    · rw [fnd_at hf hm (n := n) (by omega)]
theorem fnd_some {f : Nat → Int32} {x : Int32} : ∀ {n k : Nat}, fnd f x n = some k → k < n ∧ f k = x ∧ ∀ j, j < k → ¬ f j = x
  | n + 1, k, h => by
    unfold fnd at h
    cases e : fnd f x n with
    | some j =>
      rw [e] at h
      cases h
      have := fnd_some e
      exact ⟨by omega, this.2⟩
    | none =>
      rw [e] at h
      by_cases e2 : f n = x
      · simp only [e2, if_pos] at h
        cases h
        exact ⟨by omega, e2, fnd_none.mp e⟩
      · simp only [if_neg e2] at h
        cases h
theorem z_b1 {b : Bool} (h : ¬ z_b b = 0) : b = true := by cases b <;> first | rfl | exact absurd rfl h
def tn (x : Int32) : Nat := x.toInt.toNat
theorem inZ_nI {x : Int32} {a b : Int} (ha : 0 ≤ a) (h : inZ x.toInt a b = true) : x = nI (tn x) ∧ a ≤ (tn x : Int) ∧ (tn x : Int) ≤ b := by
  unfold inZ at h
  simp only [Bool.and_eq_true, decide_eq_true_eq] at h
  have h1 : ((tn x : Nat) : Int) = x.toInt := Int.toNat_of_nonneg (by omega)
  have hlt : x.toInt < 2 ^ 31 := Int32.toInt_lt x
  refine ⟨?_, by omega, by omega⟩
  apply Int32.toInt_inj.mp
  rw [nI_toInt (by omega), h1]
theorem c_isIn32 {h : z_H} (x : Int32) (a b : Int64) {A B : Int} (ha : a.toInt = A) (hb : b.toInt = B) : z_K yX6_isIn cX6_isIn 6 (some .boolean) 0 0 0 [.long x.toInt64, .long a, .long b] h (fun v h' => v = some (.int (z_b (inZ x.toInt A B))) ∧ h' = h) := by
  have := c_X6_isIn (h := h) x.toInt64 a b
  rw [Int32.toInt_toInt64, ha, hb] at this
  exact this

set_option maxRecDepth 100000 in
set_option maxHeartbeats 1000000 in
theorem l_X6_find {c : Nat → z_E} {S : z_S} {o : Nat → Int64} {d : z_H} {x : Int32} (h40 : sN S 8 ≤ 40) {G : z_G} {X : z_X} (F : z_F vwCl z_ats z_nw wsL_law G RX6 cX6_find 3 (z_rm 0 0 0) X) (hr : X.2.2.2.2.2.2.2.2.1.sig.returnType = some .int) :
    ∀ (m i : Nat), (i + m = sN S 8 ∧ ∀ j, j < i → ¬ sAI S 9 j = x) → z_V vwCl G 3 X (z_end vwCl z_ats z_nw G X 0 0 (fun v h' => v = some (.int (fI (fnd (sAI S 9) x (sN S 8)))) ∧ h' = (HP c (mfun S o) d))) 0 0 2 [(0, .ref 11), (1, .int x), (2, .int (nI i))] [] (HP c (mfun S o) d) := by
  intro m
  induction m with
  | zero =>
    intro i hi
    obtain ⟨hi, hm⟩ := hi
    have hz : fnd (sAI S 9) x (sN S 8) = none := fnd_none.mpr (fun j hj => hm j (by omega))
    refine z_iload_n F dX6_find_2 rfl ?_
    refine z_aload_n F dX6_find_3 rfl rfl ?_
    refine z_getf F vF_X6_86 dX6_find_4 mO_at rfl ?_
    refine z_icmp_ge (tgt := 28) F dX6_find_7 (by decide) (fun c7 => ?_) (fun c7 => absurd (nI_le (show sN S 8 ≤ i by omega) (by omega)) c7)
    refine z_iconst (v := (-1)) F dX6_find_28 rfl ?_
    exact z_iret F hr dX6_find_29 rfl (Nat.le_of_ble_eq_true rfl) (Nat.le_of_ble_eq_true rfl) (⟨by rw [hz]; rfl, rfl⟩)
  | succ m ih =>
    intro i hi
    obtain ⟨hi, hm⟩ := hi
    refine z_iload_n F dX6_find_2 rfl ?_
    refine z_aload_n F dX6_find_3 rfl rfl ?_
    refine z_getf F vF_X6_86 dX6_find_4 mO_at rfl ?_
    refine z_icmp_ge (tgt := 28) F dX6_find_7 (by decide) (fun c7 => absurd c7 (nI_ge (show i < sN S 8 by omega) (by omega))) (fun c7 => ?_)
    refine z_aload_n F dX6_find_10 rfl rfl ?_
    refine z_getf F vF_X6_20 dX6_find_11 mO_at rfl ?_
    refine z_iload_n F dX6_find_14 rfl ?_
    refine z_iald F dX6_find_15 mA_9 rfl rfl (show i < 40 by omega) (Nat.le_of_ble_eq_true rfl) ?_
    refine z_iload_n F dX6_find_16 rfl ?_
    refine z_icmp_ne (tgt := 22) F dX6_find_17 (by decide) (fun c17 => ?_) (fun c17 => ?_)
    · refine z_iinc (w := 1) F dX6_find_22 rfl rfl (Nat.le_of_ble_eq_true rfl) ?_
      rw [nI_1]
      refine z_goto (tgt := 2) F dX6_find_25 (by decide) ?_
      refine ih (i + 1) ⟨by omega, fun j hj => ?_⟩
      by_cases hji : j = i
      · rw [hji]; exact c17
      · exact hm j (by omega)
    · have hz : fnd (sAI S 9) x (sN S 8) = some i := fnd_at c17 hm (by omega)
      refine z_iload_n F dX6_find_20 rfl ?_
      exact z_iret F hr dX6_find_21 rfl (Nat.le_of_ble_eq_true rfl) (Nat.le_of_ble_eq_true rfl) (⟨by rw [hz]; rfl, rfl⟩)

set_option maxRecDepth 100000 in
set_option maxHeartbeats 1000000 in
theorem c_X6_find {c : Nat → z_E} {S : z_S} {o : Nat → Int64} {d : z_H} {x : Int32} (h40 : sN S 8 ≤ 40) : z_K yX6_find cX6_find 3 (some .int) 0 0 0 [.ref 11, .int x] (HP c (mfun S o) d) (fun v h' => v = some (.int (fI (fnd (sAI S 9) x (sN S 8)))) ∧ h' = (HP c (mfun S o) d)) := by
  refine z_met vI_X6_find (Nat.le_of_ble_eq_true rfl) (fun G X F hr hnm => ?_)
  refine z_iconst (v := 0) F dX6_find_0 rfl ?_
  refine z_istore_n F dX6_find_1 (Nat.le_of_ble_eq_true rfl) ?_
  exact l_X6_find h40 F hr (sN S 8) 0 ⟨by omega, fun j hj => absurd hj (Nat.not_lt_zero j)⟩

def s_add (S : z_S) (id : Int32) (n s l : Nat) : z_S := uN (uAN (uAN (uAN (uAI S 9 (va_up (sAI S 9) (sN S 8) id)) 10 (va_up (sAN S 10) (sN S 8) n)) 11 (va_up (sAN S 11) (sN S 8) s)) 12 (va_up (sAN S 12) (sN S 8) l)) 8 (sN S 8 + 1)

set_option maxRecDepth 100000 in
set_option maxHeartbeats 1000000 in
theorem c_X6_add {c : Nat → z_E} {S : z_S} {o : Nat → Int64} {d : z_H} {id : Int32} {n s l : Nat} (h40 : sN S 8 < 40) : z_K yX6_add cX6_add 5 (some .int) 0 0 0 [.ref 11, .int id, .int (nI n), .int (nI s), .int (nI l)] (HP c (mfun S o) d) (fun v h' => v = some (.int (nI (sN S 8 + 1))) ∧ h' = (HP c (mfun (s_add S id n s l) o) d)) := by
  refine z_met vI_X6_add (Nat.le_of_ble_eq_true rfl) (fun G X F hr hnm => ?_)
  refine z_aload_n F dX6_add_0 rfl rfl ?_
  refine z_getf F vF_X6_20 dX6_add_1 mO_at rfl ?_
  refine z_aload_n F dX6_add_4 rfl rfl ?_
  refine z_getf F vF_X6_86 dX6_add_5 mO_at rfl ?_
  refine z_iload_n F dX6_add_8 rfl ?_
  refine z_iast F dX6_add_9 mA_9 rfl rfl h40 (Nat.le_of_ble_eq_true rfl) ?_
  refine z_heap _ (ma_9) ?_
  refine z_aload_n F dX6_add_10 rfl rfl ?_
  refine z_getf F vF_X6_24 dX6_add_11 mO_at rfl ?_
  refine z_aload_n F dX6_add_14 rfl rfl ?_
  refine z_getf F vF_X6_86 dX6_add_15 mO_at rfl ?_
  refine z_iload_n F dX6_add_18 rfl ?_
  refine z_iast F dX6_add_19 mA_10 rfl rfl h40 (Nat.le_of_ble_eq_true rfl) ?_
  refine z_heap _ (ma_10) ?_
  refine z_aload_n F dX6_add_20 rfl rfl ?_
  refine z_getf F vF_X6_27 dX6_add_21 mO_at rfl ?_
  refine z_aload_n F dX6_add_24 rfl rfl ?_
  refine z_getf F vF_X6_86 dX6_add_25 mO_at rfl ?_
  refine z_iload_n F dX6_add_28 rfl ?_
  refine z_iast F dX6_add_29 mA_11 rfl rfl h40 (Nat.le_of_ble_eq_true rfl) ?_
  refine z_heap _ (ma_11) ?_
  refine z_aload_n F dX6_add_30 rfl rfl ?_
  refine z_getf F vF_X6_30 dX6_add_31 mO_at rfl ?_
  refine z_aload_n F dX6_add_34 rfl rfl ?_
  refine z_getf F vF_X6_86 dX6_add_35 mO_at rfl ?_
  refine z_iload F dX6_add_38 rfl ?_
  refine z_iast F dX6_add_40 mA_12 rfl rfl h40 (Nat.le_of_ble_eq_true rfl) ?_
  refine z_heap _ (ma_12) ?_
  refine z_aload_n F dX6_add_41 rfl rfl ?_
  refine z_dup F dX6_add_42 rfl ?_
  refine z_getf F vF_X6_86 dX6_add_43 mO_at rfl ?_
  refine z_iconst (v := 1) F dX6_add_46 rfl ?_
  refine z_iadd F dX6_add_47 ?_
  rw [nI_1]
  refine z_putf F vF_X6_86 vT_X6 vD_X6_8 dX6_add_48 mO_at (Nat.le_of_ble_eq_true rfl) rfl rfl (fun g48 => ?_)
  refine z_heap _ (ms_8) ?_
  refine z_aload_n F dX6_add_51 rfl rfl ?_
  refine z_getf F vF_X6_86 dX6_add_52 mO_at rfl ?_
  exact z_iret F hr dX6_add_55 rfl (Nat.le_of_ble_eq_true rfl) (Nat.le_of_ble_eq_true rfl) (⟨rfl, rfl⟩)

def sp_rights (S : z_S) (x : Int32) : Int32 × z_S := if inZ x.toInt 0 3 = true then (nI (sN S 2), uN (uN S 0 0) 2 (tn x)) else (-2, uN S 0 0)

set_option maxRecDepth 100000 in
set_option maxHeartbeats 1000000 in
theorem c_X6_rights {c : Nat → z_E} {S : z_S} {o : Nat → Int64} {d : z_H} (x : Int32) : z_K yX6_rights cX6_rights 3 (some .int) 1 0 0 [.ref 11, .int x] (HP c (mfun S o) d) (fun v h' => v = some (.int (sp_rights S x).1) ∧ h' = (HP c (mfun ((sp_rights S x).2) o) d)) := by
  refine z_met vI_X6_rights (Nat.le_of_ble_eq_true rfl) (fun G X F hr hnm => ?_)
  refine z_aload_n F dX6_rights_0 rfl rfl ?_
  refine z_iconst (v := 0) F dX6_rights_1 rfl ?_
  refine z_putf F vF_X6_83 vT_X6 vD_X6_0 dX6_rights_2 mO_at (Nat.le_of_ble_eq_true rfl) rfl rfl (fun g2 => ?_)
  refine z_heap _ (ms_0 (v := 0)) ?_
  refine z_iload_n F dX6_rights_5 rfl ?_
  refine z_i2l F dX6_rights_6 ?_
  refine z_lconst (v := 0) F dX6_rights_7 rfl ?_
  refine z_ldc2 F vK_X6_97 dX6_rights_8 ?_
  refine z_callS F z_nwOK wL_good (c_isIn32 (A := 0) (B := 3) x 0 3 rfl rfl) vI_X6_isIn vM_X6_91 vS_X6_isIn rfl dX6_rights_11 rfl rfl (Nat.le_of_ble_eq_true rfl) ⟨(Nat.le_of_ble_eq_true rfl), (Nat.le_of_ble_eq_true rfl), (Nat.le_of_ble_eq_true rfl), (Nat.le_of_ble_eq_true rfl)⟩ (fun v h1 hq => ?_)
  obtain ⟨rfl, rfl⟩ := hq
  refine z_if_ne (tgt := 20) F dX6_rights_14 (by decide) (fun c14 => ?_) (fun c14 => ?_)
  · have hA := z_b1 c14
    obtain ⟨h1, h2, h3⟩ := inZ_nI (by decide) hA
    have hs : sp_rights S x = (nI (sN S 2), uN (uN S 0 0) 2 (tn x)) := if_pos hA
    refine z_aload_n F dX6_rights_20 rfl rfl ?_
    refine z_getf F vF_X6_112 dX6_rights_21 mO_at rfl ?_
    refine z_istore_n F dX6_rights_24 (Nat.le_of_ble_eq_true rfl) ?_
    refine z_aload_n F dX6_rights_25 rfl rfl ?_
    refine z_iload_n F dX6_rights_26 rfl ?_
    rw [show Value.int x = Value.int (nI (tn x)) from congrArg Value.int h1]
    refine z_putf F vF_X6_112 vT_X6 vD_X6_2 dX6_rights_27 mO_at (Nat.le_of_ble_eq_true rfl) rfl rfl (fun g27 => ?_)
    refine z_heap _ (ms_2) ?_
    refine z_iload_n F dX6_rights_30 rfl ?_
    exact z_iret F hr dX6_rights_31 rfl (Nat.le_of_ble_eq_true rfl) (Nat.le_of_ble_eq_true rfl) (⟨by rw [hs]; try rfl, by rw [hs]; try rfl⟩)
  · have hs : sp_rights S x = (-2, uN S 0 0) := if_neg (by rw [z_b0.mp c14]; decide)
    refine z_bipush (v := (-2)) F dX6_rights_17 rfl ?_
    exact z_iret F hr dX6_rights_19 rfl (Nat.le_of_ble_eq_true rfl) (Nat.le_of_ble_eq_true rfl) (⟨by rw [hs]; try rfl, by rw [hs]; try rfl⟩)

def sp_pending (S : z_S) (x : Int32) : Int32 × z_S := if inZ x.toInt 0 10 = true then (nI (sN S 7), uN (uN S 0 0) 7 (tn x)) else (-2, uN S 0 0)

set_option maxRecDepth 100000 in
set_option maxHeartbeats 1000000 in
theorem c_X6_pending {c : Nat → z_E} {S : z_S} {o : Nat → Int64} {d : z_H} (x : Int32) : z_K yX6_pending cX6_pending 3 (some .int) 1 0 0 [.ref 11, .int x] (HP c (mfun S o) d) (fun v h' => v = some (.int (sp_pending S x).1) ∧ h' = (HP c (mfun ((sp_pending S x).2) o) d)) := by
  refine z_met vI_X6_pending (Nat.le_of_ble_eq_true rfl) (fun G X F hr hnm => ?_)
  refine z_aload_n F dX6_pending_0 rfl rfl ?_
  refine z_iconst (v := 0) F dX6_pending_1 rfl ?_
  refine z_putf F vF_X6_83 vT_X6 vD_X6_0 dX6_pending_2 mO_at (Nat.le_of_ble_eq_true rfl) rfl rfl (fun g2 => ?_)
  refine z_heap _ (ms_0 (v := 0)) ?_
  refine z_iload_n F dX6_pending_5 rfl ?_
  refine z_i2l F dX6_pending_6 ?_
  refine z_lconst (v := 0) F dX6_pending_7 rfl ?_
  refine z_ldc2 F vK_X6_115 dX6_pending_8 ?_
  refine z_callS F z_nwOK wL_good (c_isIn32 (A := 0) (B := 10) x 0 10 rfl rfl) vI_X6_isIn vM_X6_91 vS_X6_isIn rfl dX6_pending_11 rfl rfl (Nat.le_of_ble_eq_true rfl) ⟨(Nat.le_of_ble_eq_true rfl), (Nat.le_of_ble_eq_true rfl), (Nat.le_of_ble_eq_true rfl), (Nat.le_of_ble_eq_true rfl)⟩ (fun v h1 hq => ?_)
  obtain ⟨rfl, rfl⟩ := hq
  refine z_if_ne (tgt := 20) F dX6_pending_14 (by decide) (fun c14 => ?_) (fun c14 => ?_)
  · have hA := z_b1 c14
    obtain ⟨h1, h2, h3⟩ := inZ_nI (by decide) hA
    have hs : sp_pending S x = (nI (sN S 7), uN (uN S 0 0) 7 (tn x)) := if_pos hA
    refine z_aload_n F dX6_pending_20 rfl rfl ?_
    refine z_getf F vF_X6_117 dX6_pending_21 mO_at rfl ?_
    refine z_istore_n F dX6_pending_24 (Nat.le_of_ble_eq_true rfl) ?_
    refine z_aload_n F dX6_pending_25 rfl rfl ?_
    refine z_iload_n F dX6_pending_26 rfl ?_
    rw [show Value.int x = Value.int (nI (tn x)) from congrArg Value.int h1]
    refine z_putf F vF_X6_117 vT_X6 vD_X6_7 dX6_pending_27 mO_at (Nat.le_of_ble_eq_true rfl) rfl rfl (fun g27 => ?_)
    refine z_heap _ (ms_7) ?_
    refine z_iload_n F dX6_pending_30 rfl ?_
    exact z_iret F hr dX6_pending_31 rfl (Nat.le_of_ble_eq_true rfl) (Nat.le_of_ble_eq_true rfl) (⟨by rw [hs]; try rfl, by rw [hs]; try rfl⟩)
  · have hs : sp_pending S x = (-2, uN S 0 0) := if_neg (by rw [z_b0.mp c14]; decide)
    refine z_bipush (v := (-2)) F dX6_pending_17 rfl ?_
    exact z_iret F hr dX6_pending_19 rfl (Nat.le_of_ble_eq_true rfl) (Nat.le_of_ble_eq_true rfl) (⟨by rw [hs]; try rfl, by rw [hs]; try rfl⟩)
