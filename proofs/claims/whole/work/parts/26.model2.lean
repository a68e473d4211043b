theorem tn_nI {j : Nat} (h : j < 2 ^ 31) : tn (nI j) = j := by unfold tn; rw [nI_toInt h]; rfl
theorem inZ_ex {x : Int32} {a b : Nat} (h : inZ x.toInt a b = true) : ∃ j : Nat, a ≤ j ∧ j ≤ b ∧ x = nI j := by
  obtain ⟨h1, h2, h3⟩ := inZ_nI (a := (a : Int)) (by omega) h
  exact ⟨tn x, by omega, by omega, h1⟩
theorem fnd_lt {f : Nat → Int32} {x : Int32} {n k : Nat} (h : fnd f x n = some k) : k < n := (fnd_some h).1

def sp_identifier (S : z_S) (id n s l : Int32) : Int32 × z_S :=
  if (inZ id.toInt 0 65535 && inZ n.toInt 1 8 && inZ s.toInt 1 3 && inZ l.toInt 0 3) = true then
    (match fnd (sAI S 9) id (sN S 8) with
    | some _ => (-3, uN S 0 0)
    | none => if sN S 8 = 40 then (-4, uN S 0 0) else (nI (sN S 8 + 1), s_add (uN S 0 0) id (tn n) (tn s) (tn l)))
  else (-2, uN S 0 0)

set_option maxRecDepth 100000 in
set_option maxHeartbeats 1000000 in
theorem c_X6_identifier {c : Nat → z_E} {S : z_S} {o : Nat → Int64} {d : z_H} (id n s l : Int32) (h40 : sN S 8 ≤ 40) : z_K yX6_identifier cX6_identifier 5 (some .int) 1 0 0 [.ref 11, .int id, .int n, .int s, .int l] (HP c (mfun S o) d) (fun v h' => v = some (.int (sp_identifier S id n s l).1) ∧ h' = (HP c (mfun ((sp_identifier S id n s l).2) o) d)) := by
  refine z_met vI_X6_identifier (Nat.le_of_ble_eq_true rfl) (fun G X F hr hnm => ?_)
  refine z_aload_n F dX6_identifier_0 rfl rfl ?_
  refine z_iconst (v := 0) F dX6_identifier_1 rfl ?_
  refine z_putf F vF_X6_83 vT_X6 vD_X6_0 dX6_identifier_2 mO_at (Nat.le_of_ble_eq_true rfl) rfl rfl (fun g2 => ?_)
  refine z_heap _ (ms_0 (v := 0)) ?_
  refine z_iload_n F dX6_identifier_5 rfl ?_
  refine z_i2l F dX6_identifier_6 ?_
  refine z_lconst (v := 0) F dX6_identifier_7 rfl ?_
  refine z_ldc2 F vK_X6_89 dX6_identifier_8 ?_
  refine z_callS F z_nwOK wL_good (c_isIn32 (A := 0) (B := 65535) id 0 65535 rfl rfl) vI_X6_isIn vM_X6_91 vS_X6_isIn rfl dX6_identifier_11 rfl rfl (Nat.le_of_ble_eq_true rfl) ⟨(Nat.le_of_ble_eq_true rfl), (Nat.le_of_ble_eq_true rfl), (Nat.le_of_ble_eq_true rfl), (Nat.le_of_ble_eq_true rfl)⟩ (fun v h1 hq => ?_)
  obtain ⟨rfl, rfl⟩ := hq
  refine z_if_eq (tgt := 54) F dX6_identifier_14 (by decide) (fun c14 => ?_) (fun c14 => ?_)
  · have hs : sp_identifier S id n s l = (-2, uN S 0 0) := if_neg (by rw [z_b0.mp c14]; simp)
    refine z_bipush (v := (-2)) F dX6_identifier_54 rfl ?_
    exact z_iret F hr dX6_identifier_56 rfl (Nat.le_of_ble_eq_true rfl) (Nat.le_of_ble_eq_true rfl) (⟨by rw [hs]; try rfl, by rw [hs]; try rfl⟩)
  · have hA := z_b1 c14
    refine z_iload_n F dX6_identifier_17 rfl ?_
    refine z_i2l F dX6_identifier_18 ?_
    refine z_lconst (v := 1) F dX6_identifier_19 rfl ?_
    refine z_ldc2 F vK_X6_95 dX6_identifier_20 ?_
    refine z_callS F z_nwOK wL_good (c_isIn32 (A := 1) (B := 8) n 1 8 rfl rfl) vI_X6_isIn vM_X6_91 vS_X6_isIn rfl dX6_identifier_23 rfl rfl (Nat.le_of_ble_eq_true rfl) ⟨(Nat.le_of_ble_eq_true rfl), (Nat.le_of_ble_eq_true rfl), (Nat.le_of_ble_eq_true rfl), (Nat.le_of_ble_eq_true rfl)⟩ (fun v h1 hq => ?_)
    obtain ⟨rfl, rfl⟩ := hq
    refine z_if_eq (tgt := 54) F dX6_identifier_26 (by decide) (fun c26 => ?_) (fun c26 => ?_)
    · have hs : sp_identifier S id n s l = (-2, uN S 0 0) := if_neg (by rw [z_b0.mp c26]; simp)
      refine z_bipush (v := (-2)) F dX6_identifier_54 rfl ?_
      exact z_iret F hr dX6_identifier_56 rfl (Nat.le_of_ble_eq_true rfl) (Nat.le_of_ble_eq_true rfl) (⟨by rw [hs]; try rfl, by rw [hs]; try rfl⟩)
    · have hB := z_b1 c26
      refine z_iload_n F dX6_identifier_29 rfl ?_
      refine z_i2l F dX6_identifier_30 ?_
      refine z_lconst (v := 1) F dX6_identifier_31 rfl ?_
      refine z_ldc2 F vK_X6_97 dX6_identifier_32 ?_
      refine z_callS F z_nwOK wL_good (c_isIn32 (A := 1) (B := 3) s 1 3 rfl rfl) vI_X6_isIn vM_X6_91 vS_X6_isIn rfl dX6_identifier_35 rfl rfl (Nat.le_of_ble_eq_true rfl) ⟨(Nat.le_of_ble_eq_true rfl), (Nat.le_of_ble_eq_true rfl), (Nat.le_of_ble_eq_true rfl), (Nat.le_of_ble_eq_true rfl)⟩ (fun v h1 hq => ?_)
      obtain ⟨rfl, rfl⟩ := hq
      refine z_if_eq (tgt := 54) F dX6_identifier_38 (by decide) (fun c38 => ?_) (fun c38 => ?_)
      · have hs : sp_identifier S id n s l = (-2, uN S 0 0) := if_neg (by rw [z_b0.mp c38]; simp)
        refine z_bipush (v := (-2)) F dX6_identifier_54 rfl ?_
        exact z_iret F hr dX6_identifier_56 rfl (Nat.le_of_ble_eq_true rfl) (Nat.le_of_ble_eq_true rfl) (⟨by rw [hs]; try rfl, by rw [hs]; try rfl⟩)
      · have hC := z_b1 c38
        refine z_iload F dX6_identifier_41 rfl ?_
        refine z_i2l F dX6_identifier_43 ?_
        refine z_lconst (v := 0) F dX6_identifier_44 rfl ?_
        refine z_ldc2 F vK_X6_97 dX6_identifier_45 ?_
        refine z_callS F z_nwOK wL_good (c_isIn32 (A := 0) (B := 3) l 0 3 rfl rfl) vI_X6_isIn vM_X6_91 vS_X6_isIn rfl dX6_identifier_48 rfl rfl (Nat.le_of_ble_eq_true rfl) ⟨(Nat.le_of_ble_eq_true rfl), (Nat.le_of_ble_eq_true rfl), (Nat.le_of_ble_eq_true rfl), (Nat.le_of_ble_eq_true rfl)⟩ (fun v h1 hq => ?_)
        obtain ⟨rfl, rfl⟩ := hq
        refine z_if_ne (tgt := 57) F dX6_identifier_51 (by decide) (fun c51 => ?_) (fun c51 => ?_)
        · have hD := z_b1 c51
          have hR : (inZ id.toInt 0 65535 && inZ n.toInt 1 8 && inZ s.toInt 1 3 && inZ l.toInt 0 3) = true := by rw [hA, hB, hC, hD]; rfl
          refine z_aload_n F dX6_identifier_57 rfl rfl ?_
          refine z_iload_n F dX6_identifier_58 rfl ?_
          refine z_callV F z_nwOK wL_good (c_X6_find (S := uN S 0 0) h40) mO_at rfl vI_X6_find vM_X6_99 vV_X6_find vL_X6_find rfl dX6_identifier_59 rfl rfl (Nat.le_of_ble_eq_true rfl) ⟨(Nat.le_of_ble_eq_true rfl), (Nat.le_of_ble_eq_true rfl), (Nat.le_of_ble_eq_true rfl), (Nat.le_of_ble_eq_true rfl)⟩ (fun v h1 hq => ?_)
          obtain ⟨rfl, rfl⟩ := hq
          cases hf : fnd (sAI S 9) id (sN S 8) with
          | none =>
            rw [show fnd (sAI (uN S 0 0) 9) id (sN (uN S 0 0) 8) = none from hf]
            refine z_if_lt (tgt := 68) F dX6_identifier_62 (by decide) (fun c62 => ?_) (fun c62 => absurd (by decide) c62)
            refine z_aload_n F dX6_identifier_68 rfl rfl ?_
            refine z_getf F vF_X6_86 dX6_identifier_69 mO_at rfl ?_
            refine z_bipush (v := 40) F dX6_identifier_72 rfl ?_
            refine z_icmp_ne (tgt := 82) F dX6_identifier_74 (by decide) (fun c74 => ?_) (fun c74 => ?_)
            · have e40 : ¬ sN S 8 = 40 := fun e => c74 (by show nI (sN S 8) = nI 40; rw [e])
              have hs : sp_identifier S id n s l = (nI (sN S 8 + 1), s_add (uN S 0 0) id (tn n) (tn s) (tn l)) := by unfold sp_identifier; rw [if_pos hR, hf]; exact if_neg e40
              obtain ⟨jn, -, hn2, rfl⟩ := inZ_ex (a := 1) (b := 8) hB
              obtain ⟨js, -, hs2, rfl⟩ := inZ_ex (a := 1) (b := 3) hC
              obtain ⟨jl, -, hl2, rfl⟩ := inZ_ex (a := 0) (b := 3) hD
              rw [tn_nI (by omega), tn_nI (by omega), tn_nI (by omega)] at hs
              refine z_aload_n F dX6_identifier_82 rfl rfl ?_
              refine z_iload_n F dX6_identifier_83 rfl ?_
              refine z_iload_n F dX6_identifier_84 rfl ?_
              refine z_iload_n F dX6_identifier_85 rfl ?_
              refine z_iload F dX6_identifier_86 rfl ?_
              refine z_callV F z_nwOK wL_good (c_X6_add (S := uN S 0 0) (show sN S 8 < 40 by omega)) mO_at rfl vI_X6_add vM_X6_103 vV_X6_add vL_X6_add rfl dX6_identifier_88 rfl rfl (Nat.le_of_ble_eq_true rfl) ⟨(Nat.le_of_ble_eq_true rfl), (Nat.le_of_ble_eq_true rfl), (Nat.le_of_ble_eq_true rfl), (Nat.le_of_ble_eq_true rfl)⟩ (fun v h1 hq => ?_)
              obtain ⟨rfl, rfl⟩ := hq
              exact z_iret F hr dX6_identifier_91 rfl (Nat.le_of_ble_eq_true rfl) (Nat.le_of_ble_eq_true rfl) (⟨by rw [hs]; try rfl, by rw [hs]; try rfl⟩)
            · have e40 : sN S 8 = 40 := (nI_eq (by omega) (by decide)).mp c74
              have hs : sp_identifier S id n s l = (-4, uN S 0 0) := by unfold sp_identifier; rw [if_pos hR, hf]; exact if_pos e40
              refine z_bipush (v := (-4)) F dX6_identifier_77 rfl ?_
              refine z_goto (tgt := 91) F dX6_identifier_79 (by decide) ?_
              exact z_iret F hr dX6_identifier_91 rfl (Nat.le_of_ble_eq_true rfl) (Nat.le_of_ble_eq_true rfl) (⟨by rw [hs]; try rfl, by rw [hs]; try rfl⟩)
          | some k =>
            rw [show fnd (sAI (uN S 0 0) 9) id (sN (uN S 0 0) 8) = some k from hf]
            have hk := fnd_lt hf
            have hs : sp_identifier S id n s l = (-3, uN S 0 0) := by unfold sp_identifier; rw [if_pos hR, hf]
            refine z_if_lt (tgt := 68) F dX6_identifier_62 (by decide) (fun c62 => absurd c62 (nI_pos (by omega))) (fun c62 => ?_)
            refine z_bipush (v := (-3)) F dX6_identifier_65 rfl ?_
            exact z_iret F hr dX6_identifier_67 rfl (Nat.le_of_ble_eq_true rfl) (Nat.le_of_ble_eq_true rfl) (⟨by rw [hs]; try rfl, by rw [hs]; try rfl⟩)
        · have hs : sp_identifier S id n s l = (-2, uN S 0 0) := if_neg (by rw [z_b0.mp c51]; simp)
          refine z_bipush (v := (-2)) F dX6_identifier_54 rfl ?_
          exact z_iret F hr dX6_identifier_56 rfl (Nat.le_of_ble_eq_true rfl) (Nat.le_of_ble_eq_true rfl) (⟨by rw [hs]; try rfl, by rw [hs]; try rfl⟩)

def sp_condition (S : z_S) (k : Int32) (b : Bool) : Int32 × z_S :=
  if k = 0 then (z_b (b && sB S 6), uB (uN S 0 0) 5 b) else if k = 1 then (z_b (sB S 5 && b), uB (uN S 0 0) 6 b) else (-1, uN S 0 0)

set_option maxRecDepth 100000 in
set_option maxHeartbeats 1000000 in
theorem c_X6_condition {c : Nat → z_E} {S : z_S} {o : Nat → Int64} {d : z_H} (k : Int32) (b : Bool) : z_K yX6_condition cX6_condition 3 (some .int) 1 0 0 [.ref 11, .int k, .int (z_b b)] (HP c (mfun S o) d) (fun v h' => v = some (.int (sp_condition S k b).1) ∧ h' = (HP c (mfun ((sp_condition S k b).2) o) d)) := by
  refine z_met vI_X6_condition (Nat.le_of_ble_eq_true rfl) (fun G X F hr hnm => ?_)
  refine z_aload_n F dX6_condition_0 rfl rfl ?_
  refine z_iconst (v := 0) F dX6_condition_1 rfl ?_
  refine z_putf F vF_X6_83 vT_X6 vD_X6_0 dX6_condition_2 mO_at (Nat.le_of_ble_eq_true rfl) rfl rfl (fun g2 => ?_)
  refine z_heap _ (ms_0 (v := 0)) ?_
  refine z_iload_n F dX6_condition_5 rfl ?_
  refine z_i2l F dX6_condition_6 ?_
  refine z_lconst (v := 0) F dX6_condition_7 rfl ?_
  refine z_lconst (v := 1) F dX6_condition_8 rfl ?_
  refine z_callS F z_nwOK wL_good (c_isIn32 (A := 0) (B := 1) k 0 1 rfl rfl) vI_X6_isIn vM_X6_91 vS_X6_isIn rfl dX6_condition_9 rfl rfl (Nat.le_of_ble_eq_true rfl) ⟨(Nat.le_of_ble_eq_true rfl), (Nat.le_of_ble_eq_true rfl), (Nat.le_of_ble_eq_true rfl), (Nat.le_of_ble_eq_true rfl)⟩ (fun v h1 hq => ?_)
  obtain ⟨rfl, rfl⟩ := hq
  refine z_if_ne (tgt := 17) F dX6_condition_12 (by decide) (fun c12 => ?_) (fun c12 => ?_)
  · have hA := z_b1 c12
    refine z_iload_n F dX6_condition_17 rfl ?_
    refine z_if_ne (tgt := 29) F dX6_condition_18 (by decide) (fun c18 => ?_) (fun c18 => ?_)
    · have h1 : k = 1 := by obtain ⟨j, -, h2, rfl⟩ := inZ_ex (a := 0) (b := 1) hA; have : ¬ j = 0 := fun e => c18 (by rw [e]; rfl); rw [show j = 1 by omega]; rfl
      have hs : sp_condition S k b = (z_b (sB S 5 && b), uB (uN S 0 0) 6 b) := by unfold sp_condition; rw [if_neg c18, if_pos h1]
      refine z_aload_n F dX6_condition_29 rfl rfl ?_
      refine z_iload_n F dX6_condition_30 rfl ?_
      refine z_putf F vF_X6_17 vT_X6 vD_X6_6 dX6_condition_31 mO_at (Nat.le_of_ble_eq_true rfl) (z_bnar b) (z_bfit b) (fun g31 => ?_)
      refine z_heap _ (ms_6) ?_
      refine z_aload_n F dX6_condition_34 rfl rfl ?_
      refine z_getf F vF_X6_13 dX6_condition_35 mO_at rfl ?_
      refine z_if_eq (tgt := 52) F dX6_condition_38 (by decide) (fun c38 => ?_) (fun c38 => ?_)
      · have hz : sB S 5 = false := z_b0.mp c38
        have hv : z_b (sB S 5 && b) = 0 := by rw [hz]; rfl
        refine z_iconst (v := 0) F dX6_condition_52 rfl ?_
        exact z_iret F hr dX6_condition_53 rfl (Nat.le_of_ble_eq_true rfl) (Nat.le_of_ble_eq_true rfl) (⟨by rw [hs, hv], by rw [hs]; try rfl⟩)
      · have hz : sB S 5 = true := z_b1 c38
        refine z_aload_n F dX6_condition_41 rfl rfl ?_
        refine z_getf F vF_X6_17 dX6_condition_42 mO_at rfl ?_
        refine z_if_eq (tgt := 52) F dX6_condition_45 (by decide) (fun c45 => ?_) (fun c45 => ?_)
        · have hy : b = false := z_b0.mp c45
          have hv : z_b (sB S 5 && b) = 0 := by rw [hy]; simp; rfl
          refine z_iconst (v := 0) F dX6_condition_52 rfl ?_
          exact z_iret F hr dX6_condition_53 rfl (Nat.le_of_ble_eq_true rfl) (Nat.le_of_ble_eq_true rfl) (⟨by rw [hs, hv], by rw [hs]; try rfl⟩)
        · have hy : b = true := z_b1 c45
          have hv : z_b (sB S 5 && b) = 1 := by rw [hz, hy]; rfl
          refine z_iconst (v := 1) F dX6_condition_48 rfl ?_
          refine z_goto (tgt := 53) F dX6_condition_49 (by decide) ?_
          exact z_iret F hr dX6_condition_53 rfl (Nat.le_of_ble_eq_true rfl) (Nat.le_of_ble_eq_true rfl) (⟨by rw [hs, hv], by rw [hs]; try rfl⟩)
    · have hs : sp_condition S k b = (z_b (b && sB S 6), uB (uN S 0 0) 5 b) := if_pos c18
      refine z_aload_n F dX6_condition_21 rfl rfl ?_
      refine z_iload_n F dX6_condition_22 rfl ?_
      refine z_putf F vF_X6_13 vT_X6 vD_X6_5 dX6_condition_23 mO_at (Nat.le_of_ble_eq_true rfl) (z_bnar b) (z_bfit b) (fun g23 => ?_)
      refine z_heap _ (ms_5) ?_
      refine z_goto (tgt := 34) F dX6_condition_26 (by decide) ?_
      refine z_aload_n F dX6_condition_34 rfl rfl ?_
      refine z_getf F vF_X6_13 dX6_condition_35 mO_at rfl ?_
      refine z_if_eq (tgt := 52) F dX6_condition_38 (by decide) (fun c38 => ?_) (fun c38 => ?_)
      · have hz : b = false := z_b0.mp c38
        have hv : z_b (b && sB S 6) = 0 := by rw [hz]; rfl
        refine z_iconst (v := 0) F dX6_condition_52 rfl ?_
        exact z_iret F hr dX6_condition_53 rfl (Nat.le_of_ble_eq_true rfl) (Nat.le_of_ble_eq_true rfl) (⟨by rw [hs, hv], by rw [hs]; try rfl⟩)
      · have hz : b = true := z_b1 c38
        refine z_aload_n F dX6_condition_41 rfl rfl ?_
        refine z_getf F vF_X6_17 dX6_condition_42 mO_at rfl ?_
        refine z_if_eq (tgt := 52) F dX6_condition_45 (by decide) (fun c45 => ?_) (fun c45 => ?_)
        · have hy : sB S 6 = false := z_b0.mp c45
          have hv : z_b (b && sB S 6) = 0 := by rw [hy]; simp; rfl
          refine z_iconst (v := 0) F dX6_condition_52 rfl ?_
          exact z_iret F hr dX6_condition_53 rfl (Nat.le_of_ble_eq_true rfl) (Nat.le_of_ble_eq_true rfl) (⟨by rw [hs, hv], by rw [hs]; try rfl⟩)
        · have hy : sB S 6 = true := z_b1 c45
          have hv : z_b (b && sB S 6) = 1 := by rw [hz, hy]; rfl
          refine z_iconst (v := 1) F dX6_condition_48 rfl ?_
          refine z_goto (tgt := 53) F dX6_condition_49 (by decide) ?_
          exact z_iret F hr dX6_condition_53 rfl (Nat.le_of_ble_eq_true rfl) (Nat.le_of_ble_eq_true rfl) (⟨by rw [hs, hv], by rw [hs]; try rfl⟩)
  · have hA := z_b0.mp c12
    have hs : sp_condition S k b = (-1, uN S 0 0) := by unfold sp_condition; rw [if_neg (by intro e; rw [e] at hA; exact absurd hA (by decide)), if_neg (by intro e; rw [e] at hA; exact absurd hA (by decide))]
    refine z_iconst (v := (-1)) F dX6_condition_15 rfl ?_
    exact z_iret F hr dX6_condition_16 rfl (Nat.le_of_ble_eq_true rfl) (Nat.le_of_ble_eq_true rfl) (⟨by rw [hs]; try rfl, by rw [hs]; try rfl⟩)

def sp_control (S : z_S) (id k : Int32) (v : Int64) : Int32 × z_S :=
  match fnd (sAI S 9) id (sN S 8) with
  | none => (-1, uN S 0 0)
  | some i => if inZ k.toInt 0 1 = true then
      (if sAB S 17 i = true then (-3, uN S 0 0) else if k = 0 then (1, uAL (uN S 0 0) 13 (va_up (sAL S 13) i v)) else (1, uAB (uN S 0 0) 16 (va_up (sAB S 16) i (decide (v = 0)))))
    else (-2, uN S 0 0)

set_option maxRecDepth 100000 in
set_option maxHeartbeats 1000000 in
theorem c_X6_control {c : Nat → z_E} {S : z_S} {o : Nat → Int64} {d : z_H} (id k : Int32) (w : Int64) (h40 : sN S 8 ≤ 40) : z_K yX6_control cX6_control 6 (some .int) 1 0 0 [.ref 11, .int id,   .int k, .long w] (HP c (mfun S o) d) (fun v h' => v = some (.int (sp_control S id k w).1) ∧ h' = (HP c (mfun ((sp_control S id k w).2) o) d)) := by
  refine z_met vI_X6_control (Nat.le_of_ble_eq_true rfl) (fun G X F hr hnm => ?_)
  refine z_aload_n F dX6_control_0 rfl rfl ?_
  refine z_iconst (v := 0) F dX6_control_1 rfl ?_
  refine z_putf F vF_X6_83 vT_X6 vD_X6_0 dX6_control_2 mO_at (Nat.le_of_ble_eq_true rfl) rfl rfl (fun g2 => ?_)
  refine z_heap _ (ms_0 (v := 0)) ?_
  refine z_aload_n F dX6_control_5 rfl rfl ?_
  refine z_iload_n F dX6_control_6 rfl ?_
  refine z_callV F z_nwOK wL_good (c_X6_find (S := uN S 0 0) h40) mO_at rfl vI_X6_find vM_X6_99 vV_X6_find vL_X6_find rfl dX6_control_7 rfl rfl (Nat.le_of_ble_eq_true rfl) ⟨(Nat.le_of_ble_eq_true rfl), (Nat.le_of_ble_eq_true rfl), (Nat.le_of_ble_eq_true rfl), (Nat.le_of_ble_eq_true rfl)⟩ (fun v h1 hq => ?_)
  obtain ⟨rfl, rfl⟩ := hq
  cases hf : fnd (sAI S 9) id (sN S 8) with
  | none =>
    rw [show fnd (sAI (uN S 0 0) 9) id (sN (uN S 0 0) 8) = none from hf]
    have hs : sp_control S id k w = (-1, uN S 0 0) := by unfold sp_control; rw [hf]
    refine z_istore F dX6_control_10 (Nat.le_of_ble_eq_true rfl) ?_
    refine z_iload F dX6_control_12 rfl ?_
    refine z_if_ge (tgt := 19) F dX6_control_14 (by decide) (fun c14 => absurd c14 (by decide)) (fun c14 => ?_)
    refine z_iconst (v := (-1)) F dX6_control_17 rfl ?_
    exact z_iret F hr dX6_control_18 rfl (Nat.le_of_ble_eq_true rfl) (Nat.le_of_ble_eq_true rfl) (⟨by rw [hs]; try rfl, by rw [hs]; try rfl⟩)
  | some i =>
    rw [show fnd (sAI (uN S 0 0) 9) id (sN (uN S 0 0) 8) = some i from hf]
    have hk := fnd_lt hf
    refine z_istore F dX6_control_10 (Nat.le_of_ble_eq_true rfl) ?_
    refine z_iload F dX6_control_12 rfl ?_
    refine z_if_ge (tgt := 19) F dX6_control_14 (by decide) (fun c14 => ?_) (fun c14 => absurd (nI_pos' (by omega)) c14)
    refine z_iload_n F dX6_control_19 rfl ?_
    refine z_i2l F dX6_control_20 ?_
    refine z_lconst (v := 0) F dX6_control_21 rfl ?_
    refine z_lconst (v := 1) F dX6_control_22 rfl ?_
    refine z_callS F z_nwOK wL_good (c_isIn32 (A := 0) (B := 1) k 0 1 rfl rfl) vI_X6_isIn vM_X6_91 vS_X6_isIn rfl dX6_control_23 rfl rfl (Nat.le_of_ble_eq_true rfl) ⟨(Nat.le_of_ble_eq_true rfl), (Nat.le_of_ble_eq_true rfl), (Nat.le_of_ble_eq_true rfl), (Nat.le_of_ble_eq_true rfl)⟩ (fun v h1 hq => ?_)
    obtain ⟨rfl, rfl⟩ := hq
    refine z_if_ne (tgt := 32) F dX6_control_26 (by decide) (fun c26 => ?_) (fun c26 => ?_)
    · have hA := z_b1 c26
      refine z_aload_n F dX6_control_32 rfl rfl ?_
      refine z_getf F vF_X6_47 dX6_control_33 mO_at rfl ?_
      refine z_iload F dX6_control_36 rfl ?_
      refine z_zald F dX6_control_38 mA_17 rfl rfl (show i < 40 by omega) (Nat.le_of_ble_eq_true rfl) ?_
      refine z_if_eq (tgt := 45) F dX6_control_39 (by decide) (fun c39 => ?_) (fun c39 => ?_)
      · have hJ : sAB S 17 i = false := z_b0.mp c39
        refine z_iload_n F dX6_control_45 rfl ?_
        refine z_if_ne (tgt := 60) F dX6_control_46 (by decide) (fun c46 => ?_) (fun c46 => ?_)
        · have hs : sp_control S id k w = (1, uAB (uN S 0 0) 16 (va_up (sAB S 16) i (decide (w = 0)))) := by unfold sp_control; rw [hf]; show (if _ then _ else _) = _; rw [if_pos hA, if_neg (by rw [hJ]; decide), if_neg c46]
          refine z_aload_n F dX6_control_60 rfl rfl ?_
          refine z_getf F vF_X6_44 dX6_control_61 mO_at rfl ?_
          refine z_iload F dX6_control_64 rfl ?_
          refine z_lload_n F dX6_control_66 rfl ?_
          refine z_lconst (v := 0) F dX6_control_67 rfl ?_
          refine z_lcmp F dX6_control_68 ?_
          refine z_if_ne (tgt := 76) F dX6_control_69 (by decide) (fun c69 => ?_) (fun c69 => ?_)
          · rw [decide_eq_false (fun e => c69 ((lg_cmp_eq w 0).mpr e))] at hs
            refine z_iconst (v := 0) F dX6_control_76 rfl ?_
            refine z_zast F dX6_control_77 mA_16 rfl rfl (show i < 40 by omega) (Nat.le_of_ble_eq_true rfl) ?_
            refine z_heap _ (ma_16 (v := false)) ?_
            refine z_iconst (v := 1) F dX6_control_78 rfl ?_
            exact z_iret F hr dX6_control_79 rfl (Nat.le_of_ble_eq_true rfl) (Nat.le_of_ble_eq_true rfl) (⟨by rw [hs]; try rfl, by rw [hs]; try rfl⟩)
          · rw [decide_eq_true ((lg_cmp_eq w 0).mp c69)] at hs
            refine z_iconst (v := 1) F dX6_control_72 rfl ?_
            refine z_goto (tgt := 77) F dX6_control_73 (by decide) ?_
            refine z_zast F dX6_control_77 mA_16 rfl rfl (show i < 40 by omega) (Nat.le_of_ble_eq_true rfl) ?_
            refine z_heap _ (ma_16 (v := true)) ?_
            refine z_iconst (v := 1) F dX6_control_78 rfl ?_
            exact z_iret F hr dX6_control_79 rfl (Nat.le_of_ble_eq_true rfl) (Nat.le_of_ble_eq_true rfl) (⟨by rw [hs]; try rfl, by rw [hs]; try rfl⟩)
        · have hs : sp_control S id k w = (1, uAL (uN S 0 0) 13 (va_up (sAL S 13) i w)) := by unfold sp_control; rw [hf]; show (if _ then _ else _) = _; rw [if_pos hA, if_neg (by rw [hJ]; decide), if_pos c46]
          refine z_aload_n F dX6_control_49 rfl rfl ?_
          refine z_getf F vF_X6_33 dX6_control_50 mO_at rfl ?_
          refine z_iload F dX6_control_53 rfl ?_
          refine z_lload_n F dX6_control_55 rfl ?_
          refine z_last F dX6_control_56 mA_13 rfl rfl (show i < 40 by omega) (Nat.le_of_ble_eq_true rfl) ?_
          refine z_heap _ (ma_13) ?_
          refine z_goto (tgt := 78) F dX6_control_57 (by decide) ?_
          refine z_iconst (v := 1) F dX6_control_78 rfl ?_
          exact z_iret F hr dX6_control_79 rfl (Nat.le_of_ble_eq_true rfl) (Nat.le_of_ble_eq_true rfl) (⟨by rw [hs]; try rfl, by rw [hs]; try rfl⟩)
      · have hJ : sAB S 17 i = true := z_b1 c39
        have hs : sp_control S id k w = (-3, uN S 0 0) := by unfold sp_control; rw [hf]; show (if _ then _ else _) = _; rw [if_pos hA, if_pos hJ]
        refine z_bipush (v := (-3)) F dX6_control_42 rfl ?_
        exact z_iret F hr dX6_control_44 rfl (Nat.le_of_ble_eq_true rfl) (Nat.le_of_ble_eq_true rfl) (⟨by rw [hs]; try rfl, by rw [hs]; try rfl⟩)
    · have hs : sp_control S id k w = (-2, uN S 0 0) := by unfold sp_control; rw [hf]; exact if_neg (by rw [z_b0.mp c26]; decide)
      refine z_bipush (v := (-2)) F dX6_control_29 rfl ?_
      exact z_iret F hr dX6_control_31 rfl (Nat.le_of_ble_eq_true rfl) (Nat.le_of_ble_eq_true rfl) (⟨by rw [hs]; try rfl, by rw [hs]; try rfl⟩)

/-- octet p of identifier k -/
def octS (S : z_S) (k p : Nat) : Nat :=
  let f := if sAB S 17 k then sAN S 18 (8 * k + p) else k
  let a := if sAB S 17 k then sAN S 19 (8 * k + p) else p
  octV (if sAB S 14 f then sAL S 15 f else sAL S 13 f) (8 * (sAN S 10 f - 1 - a))
/-- what the parts of a put together one are -/
def partOK (S : z_S) (k p : Nat) : Prop := sAN S 18 (8 * k + p) < sN S 8 ∧ sAB S 17 (sAN S 18 (8 * k + p)) = false ∧ sAN S 19 (8 * k + p) < sAN S 10 (sAN S 18 (8 * k + p))

set_option maxRecDepth 100000 in
set_option maxHeartbeats 1000000 in
theorem c_X6_octet_n {c : Nat → z_E} {S : z_S} {o : Nat → Int64} {d : z_H} {k p : Nat} (h40 : sN S 8 ≤ 40) (hk : k < sN S 8) (hj : sAB S 17 k = false) (hp : p < sAN S 10 k) (hl : sAN S 10 k ≤ 8) : z_K yX6_octet cX6_octet 7 (some .int) 0 0 0 [.ref 11, .int (nI k), .int (nI p)] (HP c (mfun S o) d) (fun v h' => v = some (.int (nI (octS S k p))) ∧ h' = (HP c (mfun S o) d)) := by
  refine z_met vI_X6_octet (Nat.le_of_ble_eq_true rfl) (fun G X F hr hnm => ?_)
  refine z_aload_n F dX6_octet_0 rfl rfl ?_
  refine z_getf F vF_X6_47 dX6_octet_1 mO_at rfl ?_
  refine z_iload_n F dX6_octet_4 rfl ?_
  refine z_zald F dX6_octet_5 mA_17 rfl rfl (show k < 40 by omega) (Nat.le_of_ble_eq_true rfl) ?_
  refine z_if_eq (tgt := 23) F dX6_octet_6 (by decide) (fun c6 => ?_) (fun c6 => absurd (by rw [hj]; rfl) c6)
  refine z_iload_n F dX6_octet_23 rfl ?_
  refine z_istore_n F dX6_octet_24 (Nat.le_of_ble_eq_true rfl) ?_
  refine z_aload_n F dX6_octet_25 rfl rfl ?_
  refine z_getf F vF_X6_47 dX6_octet_26 mO_at rfl ?_
  refine z_iload_n F dX6_octet_29 rfl ?_
  refine z_zald F dX6_octet_30 mA_17 rfl rfl (show k < 40 by omega) (Nat.le_of_ble_eq_true rfl) ?_
  refine z_if_eq (tgt := 48) F dX6_octet_31 (by decide) (fun c31 => ?_) (fun c31 => absurd (by rw [hj]; rfl) c31)
  refine z_iload_n F dX6_octet_48 rfl ?_
  refine z_istore F dX6_octet_49 (Nat.le_of_ble_eq_true rfl) ?_
  refine z_aload_n F dX6_octet_51 rfl rfl ?_
  refine z_getf F vF_X6_37 dX6_octet_52 mO_at rfl ?_
  refine z_iload_n F dX6_octet_55 rfl ?_
  refine z_zald F dX6_octet_56 mA_14 rfl rfl (show k < 40 by omega) (Nat.le_of_ble_eq_true rfl) ?_
  refine z_if_eq (tgt := 69) F dX6_octet_57 (by decide) (fun c57 => ?_) (fun c57 => ?_)
  · have hc : sAB S 14 (k) = false := z_b0.mp c57
    have hs : octS S k p = octV (sAL S 13 (k)) (8 * (sAN S 10 (k) - 1 - p)) := by unfold octS; simp [hj, hc]
    refine z_aload_n F dX6_octet_69 rfl rfl ?_
    refine z_getf F vF_X6_33 dX6_octet_70 mO_at rfl ?_
    refine z_iload_n F dX6_octet_73 rfl ?_
    refine z_lald F dX6_octet_74 mA_13 rfl rfl (show k < 40 by omega) (Nat.le_of_ble_eq_true rfl) ?_
    refine z_lstore F dX6_octet_75 (Nat.le_of_ble_eq_true rfl) ?_
    refine z_lload F dX6_octet_77 rfl ?_
    refine z_bipush (v := 8) F dX6_octet_79 rfl ?_
    refine z_aload_n F dX6_octet_81 rfl rfl ?_
    refine z_getf F vF_X6_24 dX6_octet_82 mO_at rfl ?_
    refine z_iload_n F dX6_octet_85 rfl ?_
    refine z_iald F dX6_octet_86 mA_10 rfl rfl (show k < 40 by omega) (Nat.le_of_ble_eq_true rfl) ?_
    refine z_iconst (v := 1) F dX6_octet_87 rfl ?_
    refine z_isub F dX6_octet_88 ?_
    refine z_iload F dX6_octet_89 rfl ?_
    refine z_isub F dX6_octet_91 ?_
    refine z_imul F dX6_octet_92 ?_
    rw [z_sh (show p < sAN S 10 (k) by omega)]
    refine z_lshr F dX6_octet_93 ?_
    refine z_l2i F dX6_octet_94 ?_
    refine z_sipush (v := 255) F dX6_octet_95 rfl ?_
    refine z_iand F dX6_octet_98 ?_
    rw [z_shr8 _ (by omega)]
    exact z_iret F hr dX6_octet_99 rfl (Nat.le_of_ble_eq_true rfl) (Nat.le_of_ble_eq_true rfl) (⟨by rw [hs], rfl⟩)
  · have hc : sAB S 14 (k) = true := z_b1 c57
    have hs : octS S k p = octV (sAL S 15 (k)) (8 * (sAN S 10 (k) - 1 - p)) := by unfold octS; simp [hj, hc]
    refine z_aload_n F dX6_octet_60 rfl rfl ?_
    refine z_getf F vF_X6_41 dX6_octet_61 mO_at rfl ?_
    refine z_iload_n F dX6_octet_64 rfl ?_
    refine z_lald F dX6_octet_65 mA_15 rfl rfl (show k < 40 by omega) (Nat.le_of_ble_eq_true rfl) ?_
    refine z_goto (tgt := 75) F dX6_octet_66 (by decide) ?_
    refine z_lstore F dX6_octet_75 (Nat.le_of_ble_eq_true rfl) ?_
    refine z_lload F dX6_octet_77 rfl ?_
    refine z_bipush (v := 8) F dX6_octet_79 rfl ?_
    refine z_aload_n F dX6_octet_81 rfl rfl ?_
    refine z_getf F vF_X6_24 dX6_octet_82 mO_at rfl ?_
    refine z_iload_n F dX6_octet_85 rfl ?_
    refine z_iald F dX6_octet_86 mA_10 rfl rfl (show k < 40 by omega) (Nat.le_of_ble_eq_true rfl) ?_
    refine z_iconst (v := 1) F dX6_octet_87 rfl ?_
    refine z_isub F dX6_octet_88 ?_
    refine z_iload F dX6_octet_89 rfl ?_
    refine z_isub F dX6_octet_91 ?_
    refine z_imul F dX6_octet_92 ?_
    rw [z_sh (show p < sAN S 10 (k) by omega)]
    refine z_lshr F dX6_octet_93 ?_
    refine z_l2i F dX6_octet_94 ?_
    refine z_sipush (v := 255) F dX6_octet_95 rfl ?_
    refine z_iand F dX6_octet_98 ?_
    rw [z_shr8 _ (by omega)]
    exact z_iret F hr dX6_octet_99 rfl (Nat.le_of_ble_eq_true rfl) (Nat.le_of_ble_eq_true rfl) (⟨by rw [hs], rfl⟩)

set_option maxRecDepth 100000 in
set_option maxHeartbeats 1000000 in
theorem c_X6_octet_y {c : Nat → z_E} {S : z_S} {o : Nat → Int64} {d : z_H} {k p : Nat} (h40 : sN S 8 ≤ 40) (hk : k < sN S 8) (hj : sAB S 17 k = true) (hp : p < 8) (h1 : sAN S 18 (8 * k + p) < sN S 8) (h2 : sAN S 19 (8 * k + p) < sAN S 10 (sAN S 18 (8 * k + p))) (h3 : sAN S 10 (sAN S 18 (8 * k + p)) ≤ 8) : z_K yX6_octet cX6_octet 7 (some .int) 0 0 0 [.ref 11, .int (nI k), .int (nI p)] (HP c (mfun S o) d) (fun v h' => v = some (.int (nI (octS S k p))) ∧ h' = (HP c (mfun S o) d)) := by
  refine z_met vI_X6_octet (Nat.le_of_ble_eq_true rfl) (fun G X F hr hnm => ?_)
  refine z_aload_n F dX6_octet_0 rfl rfl ?_
  refine z_getf F vF_X6_47 dX6_octet_1 mO_at rfl ?_
  refine z_iload_n F dX6_octet_4 rfl ?_
  refine z_zald F dX6_octet_5 mA_17 rfl rfl (show k < 40 by omega) (Nat.le_of_ble_eq_true rfl) ?_
  refine z_if_eq (tgt := 23) F dX6_octet_6 (by decide) (fun c6 => absurd (z_b0.mp c6) (by rw [hj]; decide)) (fun c6 => ?_)
  refine z_aload_n F dX6_octet_9 rfl rfl ?_
  refine z_getf F vF_X6_50 dX6_octet_10 mO_at rfl ?_
  refine z_bipush (v := 8) F dX6_octet_13 rfl ?_
  refine z_iload_n F dX6_octet_15 rfl ?_
  refine z_imul F dX6_octet_16 ?_
  refine z_iload_n F dX6_octet_17 rfl ?_
  refine z_iadd F dX6_octet_18 ?_
  rw [show (8 : Int32) * nI k + nI p = nI (8 * k + p) from by rw [show (8 : Int32) = nI 8 from rfl, pk_mul, nI_add]]
  refine z_iald F dX6_octet_19 mA_18 rfl rfl (show 8 * k + p < 320 by omega) (Nat.le_of_ble_eq_true rfl) ?_
  refine z_goto (tgt := 24) F dX6_octet_20 (by decide) ?_
  refine z_istore_n F dX6_octet_24 (Nat.le_of_ble_eq_true rfl) ?_
  refine z_aload_n F dX6_octet_25 rfl rfl ?_
  refine z_getf F vF_X6_47 dX6_octet_26 mO_at rfl ?_
  refine z_iload_n F dX6_octet_29 rfl ?_
  refine z_zald F dX6_octet_30 mA_17 rfl rfl (show k < 40 by omega) (Nat.le_of_ble_eq_true rfl) ?_
  refine z_if_eq (tgt := 48) F dX6_octet_31 (by decide) (fun c31 => absurd (z_b0.mp c31) (by rw [hj]; decide)) (fun c31 => ?_)
  refine z_aload_n F dX6_octet_34 rfl rfl ?_
  refine z_getf F vF_X6_53 dX6_octet_35 mO_at rfl ?_
  refine z_bipush (v := 8) F dX6_octet_38 rfl ?_
  refine z_iload_n F dX6_octet_40 rfl ?_
  refine z_imul F dX6_octet_41 ?_
  refine z_iload_n F dX6_octet_42 rfl ?_
  refine z_iadd F dX6_octet_43 ?_
  rw [show (8 : Int32) * nI k + nI p = nI (8 * k + p) from by rw [show (8 : Int32) = nI 8 from rfl, pk_mul, nI_add]]
  refine z_iald F dX6_octet_44 mA_19 rfl rfl (show 8 * k + p < 320 by omega) (Nat.le_of_ble_eq_true rfl) ?_
  refine z_goto (tgt := 49) F dX6_octet_45 (by decide) ?_
  refine z_istore F dX6_octet_49 (Nat.le_of_ble_eq_true rfl) ?_
  refine z_aload_n F dX6_octet_51 rfl rfl ?_
  refine z_getf F vF_X6_37 dX6_octet_52 mO_at rfl ?_
  refine z_iload_n F dX6_octet_55 rfl ?_
  refine z_zald F dX6_octet_56 mA_14 rfl rfl (show sAN S 18 (8 * k + p) < 40 by omega) (Nat.le_of_ble_eq_true rfl) ?_
  refine z_if_eq (tgt := 69) F dX6_octet_57 (by decide) (fun c57 => ?_) (fun c57 => ?_)
  · have hc : sAB S 14 (sAN S 18 (8 * k + p)) = false := z_b0.mp c57
    have hs : octS S k p = octV (sAL S 13 (sAN S 18 (8 * k + p))) (8 * (sAN S 10 (sAN S 18 (8 * k + p)) - 1 - sAN S 19 (8 * k + p))) := by unfold octS; simp [hj, hc]
    refine z_aload_n F dX6_octet_69 rfl rfl ?_
    refine z_getf F vF_X6_33 dX6_octet_70 mO_at rfl ?_
    refine z_iload_n F dX6_octet_73 rfl ?_
    refine z_lald F dX6_octet_74 mA_13 rfl rfl (show sAN S 18 (8 * k + p) < 40 by omega) (Nat.le_of_ble_eq_true rfl) ?_
    refine z_lstore F dX6_octet_75 (Nat.le_of_ble_eq_true rfl) ?_
    refine z_lload F dX6_octet_77 rfl ?_
    refine z_bipush (v := 8) F dX6_octet_79 rfl ?_
    refine z_aload_n F dX6_octet_81 rfl rfl ?_
    refine z_getf F vF_X6_24 dX6_octet_82 mO_at rfl ?_
    refine z_iload_n F dX6_octet_85 rfl ?_
    refine z_iald F dX6_octet_86 mA_10 rfl rfl (show sAN S 18 (8 * k + p) < 40 by omega) (Nat.le_of_ble_eq_true rfl) ?_
    refine z_iconst (v := 1) F dX6_octet_87 rfl ?_
    refine z_isub F dX6_octet_88 ?_
    refine z_iload F dX6_octet_89 rfl ?_
    refine z_isub F dX6_octet_91 ?_
    refine z_imul F dX6_octet_92 ?_
    rw [z_sh (show sAN S 19 (8 * k + p) < sAN S 10 (sAN S 18 (8 * k + p)) by omega)]
    refine z_lshr F dX6_octet_93 ?_
    refine z_l2i F dX6_octet_94 ?_
    refine z_sipush (v := 255) F dX6_octet_95 rfl ?_
    refine z_iand F dX6_octet_98 ?_
    rw [z_shr8 _ (by omega)]
    exact z_iret F hr dX6_octet_99 rfl (Nat.le_of_ble_eq_true rfl) (Nat.le_of_ble_eq_true rfl) (⟨by rw [hs], rfl⟩)
  · have hc : sAB S 14 (sAN S 18 (8 * k + p)) = true := z_b1 c57
    have hs : octS S k p = octV (sAL S 15 (sAN S 18 (8 * k + p))) (8 * (sAN S 10 (sAN S 18 (8 * k + p)) - 1 - sAN S 19 (8 * k + p))) := by unfold octS; simp [hj, hc]
    refine z_aload_n F dX6_octet_60 rfl rfl ?_
    refine z_getf F vF_X6_41 dX6_octet_61 mO_at rfl ?_
    refine z_iload_n F dX6_octet_64 rfl ?_
    refine z_lald F dX6_octet_65 mA_15 rfl rfl (show sAN S 18 (8 * k + p) < 40 by omega) (Nat.le_of_ble_eq_true rfl) ?_
    refine z_goto (tgt := 75) F dX6_octet_66 (by decide) ?_
    refine z_lstore F dX6_octet_75 (Nat.le_of_ble_eq_true rfl) ?_
    refine z_lload F dX6_octet_77 rfl ?_
    refine z_bipush (v := 8) F dX6_octet_79 rfl ?_
    refine z_aload_n F dX6_octet_81 rfl rfl ?_
    refine z_getf F vF_X6_24 dX6_octet_82 mO_at rfl ?_
    refine z_iload_n F dX6_octet_85 rfl ?_
    refine z_iald F dX6_octet_86 mA_10 rfl rfl (show sAN S 18 (8 * k + p) < 40 by omega) (Nat.le_of_ble_eq_true rfl) ?_
    refine z_iconst (v := 1) F dX6_octet_87 rfl ?_
    refine z_isub F dX6_octet_88 ?_
    refine z_iload F dX6_octet_89 rfl ?_
    refine z_isub F dX6_octet_91 ?_
    refine z_imul F dX6_octet_92 ?_
    rw [z_sh (show sAN S 19 (8 * k + p) < sAN S 10 (sAN S 18 (8 * k + p)) by omega)]
    refine z_lshr F dX6_octet_93 ?_
    refine z_l2i F dX6_octet_94 ?_
    refine z_sipush (v := 255) F dX6_octet_95 rfl ?_
    refine z_iand F dX6_octet_98 ?_
    rw [z_shr8 _ (by omega)]
    exact z_iret F hr dX6_octet_99 rfl (Nat.le_of_ble_eq_true rfl) (Nat.le_of_ble_eq_true rfl) (⟨by rw [hs], rfl⟩)

/-- identifiers as they stand: lengths, parts -/
def idsOK (S : z_S) : Prop := sN S 8 ≤ 40 ∧ ∀ k, k < sN S 8 → sAN S 10 k ≤ 8 ∧ (sAB S 17 k = true → ∀ p, p < sAN S 10 k → partOK S k p)
set_option maxRecDepth 100000 in
set_option maxHeartbeats 1000000 in
theorem c_X6_octet {c : Nat → z_E} {S : z_S} {o : Nat → Int64} {d : z_H} {k p : Nat} (W : idsOK S) (hk : k < sN S 8) (hp : p < sAN S 10 k) : z_K yX6_octet cX6_octet 7 (some .int) 0 0 0 [.ref 11, .int (nI k), .int (nI p)] (HP c (mfun S o) d) (fun v h' => v = some (.int (nI (octS S k p))) ∧ h' = (HP c (mfun S o) d)) := by
  obtain ⟨h40, W⟩ := W
  obtain ⟨hl, hP⟩ := W k hk
  cases hj : sAB S 17 k with
  | false => exact c_X6_octet_n h40 hk hj hp hl
  | true =>
    obtain ⟨a1, a2, a3⟩ := hP hj p hp
    exact c_X6_octet_y h40 hk hj (by omega) a1 a3 (W _ a1).1

set_option maxRecDepth 100000 in
set_option maxHeartbeats 1000000 in
theorem l_X6_valueOf {c : Nat → z_E} {S : z_S} {o : Nat → Int64} {d : z_H} {k : Nat} (W : idsOK S) (hk : k < sN S 8) {G : z_G} {X : z_X} (F : z_F vwCl z_ats z_nw wsL_law G RX6 cX6_valueOf 5 (z_rm 1 0 0) X) (hr : X.2.2.2.2.2.2.2.2.1.sig.returnType = some .long) :
    ∀ (m i : Nat), i + m = sAN S 10 k → z_V vwCl G 5 X (z_end vwCl z_ats z_nw G X 0 0 (fun v h' => v = some (.long (numL (fun j => nI (octS S k j)) (sAN S 10 k))) ∧ h' = (HP c (mfun S o) d))) 0 0 5 [(0, .ref 11), (1, .int (nI k)), (2, .long (numL (fun j => nI (octS S k j)) i)), (4, .int (nI i))] [] (HP c (mfun S o) d) := by
  intro m
  induction m with
  | zero =>
    intro i hi
    have h40 := W.1
    have hl := (W.2 k hk).1
    obtain rfl : i = sAN S 10 k := by omega
    refine z_iload F dX6_valueOf_5 rfl ?_
    refine z_aload_n F dX6_valueOf_7 rfl rfl ?_
    refine z_getf F vF_X6_24 dX6_valueOf_8 mO_at rfl ?_
    refine z_iload_n F dX6_valueOf_11 rfl ?_
    refine z_iald F dX6_valueOf_12 mA_10 rfl rfl (show k < 40 by omega) (Nat.le_of_ble_eq_true rfl) ?_
    refine z_icmp_ge (tgt := 36) F dX6_valueOf_13 (by decide) (fun c13 => ?_) (fun c13 => absurd (nI_le (Nat.le_refl _) (by omega)) c13)
    refine z_lload_n F dX6_valueOf_36 rfl ?_
    exact z_lret F hr dX6_valueOf_37 (Nat.le_of_ble_eq_true rfl) (Nat.le_of_ble_eq_true rfl) (⟨rfl, rfl⟩)
  | succ m ih =>
    intro i hi
    have h40 := W.1
    have hl := (W.2 k hk).1
    refine z_iload F dX6_valueOf_5 rfl ?_
    refine z_aload_n F dX6_valueOf_7 rfl rfl ?_
    refine z_getf F vF_X6_24 dX6_valueOf_8 mO_at rfl ?_
    refine z_iload_n F dX6_valueOf_11 rfl ?_
    refine z_iald F dX6_valueOf_12 mA_10 rfl rfl (show k < 40 by omega) (Nat.le_of_ble_eq_true rfl) ?_
    refine z_icmp_ge (tgt := 36) F dX6_valueOf_13 (by decide) (fun c13 => absurd c13 (nI_ge (show i < sAN S 10 k by omega) (by omega))) (fun c13 => ?_)
    refine z_lload_n F dX6_valueOf_16 rfl ?_
    refine z_bipush (v := 8) F dX6_valueOf_17 rfl ?_
    refine z_lshl F dX6_valueOf_19 ?_
    refine z_aload_n F dX6_valueOf_20 rfl rfl ?_
    refine z_iload_n F dX6_valueOf_21 rfl ?_
    refine z_iload F dX6_valueOf_22 rfl ?_
    refine z_callV F z_nwOK wL_good (c_X6_octet W hk (show i < sAN S 10 k by omega)) mO_at rfl vI_X6_octet vM_X6_120 vV_X6_octet vL_X6_octet rfl dX6_valueOf_24 rfl rfl (Nat.le_of_ble_eq_true rfl) ⟨(Nat.le_of_ble_eq_true rfl), (Nat.le_of_ble_eq_true rfl), (Nat.le_of_ble_eq_true rfl), (Nat.le_of_ble_eq_true rfl)⟩ (fun v h1 hq => ?_)
    obtain ⟨rfl, rfl⟩ := hq
    refine z_i2l F dX6_valueOf_27 ?_
    refine z_lor F dX6_valueOf_28 ?_
    refine z_lstore_n F dX6_valueOf_29 (Nat.le_of_ble_eq_true rfl) ?_
    refine z_iinc (w := 1) F dX6_valueOf_30 rfl rfl (Nat.le_of_ble_eq_true rfl) ?_
    rw [nI_1]
    refine z_goto (tgt := 5) F dX6_valueOf_33 (by decide) ?_
    exact ih (i + 1) (by omega)

set_option maxRecDepth 100000 in
set_option maxHeartbeats 1000000 in
theorem c_X6_valueOf {c : Nat → z_E} {S : z_S} {o : Nat → Int64} {d : z_H} {k : Nat} (W : idsOK S) (hk : k < sN S 8) : z_K yX6_valueOf cX6_valueOf 5 (some .long) 1 0 0 [.ref 11, .int (nI k)] (HP c (mfun S o) d) (fun v h' => v = some (.long (numL (fun j => nI (octS S k j)) (sAN S 10 k))) ∧ h' = (HP c (mfun S o) d)) := by
  refine z_met vI_X6_valueOf (Nat.le_of_ble_eq_true rfl) (fun G X F hr hnm => ?_)
  refine z_lconst (v := 0) F dX6_valueOf_0 rfl ?_
  refine z_lstore_n F dX6_valueOf_1 (Nat.le_of_ble_eq_true rfl) ?_
  refine z_iconst (v := 0) F dX6_valueOf_2 rfl ?_
  refine z_istore F dX6_valueOf_3 (Nat.le_of_ble_eq_true rfl) ?_
  exact l_X6_valueOf W hk F hr (sAN S 10 k) 0 (by omega)

def valS (S : z_S) (k : Nat) : Int64 := numL (fun j => nI (octS S k j)) (sAN S 10 k)
def sp_value (S : z_S) (id : Int32) : Int64 := match fnd (sAI S 9) id (sN S 8) with
  | none => 0
  | some k => valS S k

set_option maxRecDepth 100000 in
set_option maxHeartbeats 1000000 in
theorem c_X6_value {c : Nat → z_E} {S : z_S} {o : Nat → Int64} {d : z_H} (id : Int32) (W : idsOK S) : z_K yX6_value cX6_value 3 (some .long) 2 0 0 [.ref 11, .int id] (HP c (mfun S o) d) (fun v h' => v = some (.long (sp_value S id)) ∧ h' = (HP c (mfun (uN S 0 0) o) d)) := by
  refine z_met vI_X6_value (Nat.le_of_ble_eq_true rfl) (fun G X F hr hnm => ?_)
  refine z_aload_n F dX6_value_0 rfl rfl ?_
  refine z_iconst (v := 0) F dX6_value_1 rfl ?_
  refine z_putf F vF_X6_83 vT_X6 vD_X6_0 dX6_value_2 mO_at (Nat.le_of_ble_eq_true rfl) rfl rfl (fun g2 => ?_)
  refine z_heap _ (ms_0 (v := 0)) ?_
  refine z_aload_n F dX6_value_5 rfl rfl ?_
  refine z_iload_n F dX6_value_6 rfl ?_
  refine z_callV F z_nwOK wL_good (c_X6_find (S := uN S 0 0) W.1) mO_at rfl vI_X6_find vM_X6_99 vV_X6_find vL_X6_find rfl dX6_value_7 rfl rfl (Nat.le_of_ble_eq_true rfl) ⟨(Nat.le_of_ble_eq_true rfl), (Nat.le_of_ble_eq_true rfl), (Nat.le_of_ble_eq_true rfl), (Nat.le_of_ble_eq_true rfl)⟩ (fun v h1 hq => ?_)
  obtain ⟨rfl, rfl⟩ := hq
  cases hf : fnd (sAI S 9) id (sN S 8) with
  | none =>
    rw [show fnd (sAI (uN S 0 0) 9) id (sN (uN S 0 0) 8) = none from hf]
    have hs : sp_value S id = 0 := by unfold sp_value; rw [hf]
    refine z_istore_n F dX6_value_10 (Nat.le_of_ble_eq_true rfl) ?_
    refine z_iload_n F dX6_value_11 rfl ?_
    refine z_if_ge (tgt := 19) F dX6_value_12 (by decide) (fun c12 => absurd c12 (by decide)) (fun c12 => ?_)
    refine z_lconst (v := 0) F dX6_value_15 rfl ?_
    refine z_goto (tgt := 24) F dX6_value_16 (by decide) ?_
    exact z_lret F hr dX6_value_24 (Nat.le_of_ble_eq_true rfl) (Nat.le_of_ble_eq_true rfl) (⟨by rw [hs], rfl⟩)
  | some i =>
    rw [show fnd (sAI (uN S 0 0) 9) id (sN (uN S 0 0) 8) = some i from hf]
    have hk := fnd_lt hf
    have hs : sp_value S id = valS S i := by unfold sp_value; rw [hf]
    have h40 := W.1
    refine z_istore_n F dX6_value_10 (Nat.le_of_ble_eq_true rfl) ?_
    refine z_iload_n F dX6_value_11 rfl ?_
    refine z_if_ge (tgt := 19) F dX6_value_12 (by decide) (fun c12 => ?_) (fun c12 => absurd (nI_pos' (by omega)) c12)
    refine z_aload_n F dX6_value_19 rfl rfl ?_
    refine z_iload_n F dX6_value_20 rfl ?_
    refine z_callV F z_nwOK wL_good (c_X6_valueOf (S := uN S 0 0) W hk) mO_at rfl vI_X6_valueOf vM_X6_124 vV_X6_valueOf vL_X6_valueOf rfl dX6_value_21 rfl rfl (Nat.le_of_ble_eq_true rfl) ⟨(Nat.le_of_ble_eq_true rfl), (Nat.le_of_ble_eq_true rfl), (Nat.le_of_ble_eq_true rfl), (Nat.le_of_ble_eq_true rfl)⟩ (fun v h1 hq => ?_)
    obtain ⟨rfl, rfl⟩ := hq
    exact z_lret F hr dX6_value_24 (Nat.le_of_ble_eq_true rfl) (Nat.le_of_ble_eq_true rfl) (⟨by rw [hs]; rfl, rfl⟩)
