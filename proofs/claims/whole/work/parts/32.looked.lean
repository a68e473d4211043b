def keptA (c : Nat) : Bool := decide (c = 17) || decide (c = 18) || decide (c = 49) || decide (c = 127)
def noA (S : z_S) : Bool := decide (1 < sN S 38) && decide (127 < sAN S 39 1) && (decide (sAN S 39 0 = 16) || decide (sAN S 39 0 = 17) || decide (sAN S 39 0 = 49) || decide (sAN S 39 0 = 62))
/-- the state as the services find it -/
def lk0 (S : z_S) : z_S := uN (uL S 4 (sL S 3)) 40 0
def lkR (S : z_S) : Nat × z_S := if sN S 38 = 0 then (19, lk0 S) else svd (lk0 S)
def lkV (S : z_S) : Nat := if sN S 38 = 0 then 0 else sAN S 39 0
def lkS (S : z_S) : z_S :=
  if 0 < (lkR S).1 then
    (if (sB S 37 && keptA (lkR S).1) = true then uN (uF (lkR S).2 (nI (lkR S).1)) 40 0 else sayS (sayS (sayS (uN (uF (lkR S).2 (nI (lkR S).1)) 40 0) 127) (lkV S)) (lkR S).1)
  else if noA S = true then uN (uF (lkR S).2 (nI (lkR S).1)) 40 0 else uF (lkR S).2 (nI (lkR S).1)

/-- a service leaves the question, and the flag of all, as they were; its code is small; a code of 0 leaves few octets -/
def svK (S : z_S) (r : Nat × z_S) : Prop := sN r.2 38 = sN S 38 ∧ sAN r.2 39 = sAN S 39 ∧ sB r.2 37 = sB S 37 ∧ r.1 < 128 ∧ sN r.2 40 ≤ 50

set_option maxRecDepth 100000 in
set_option maxHeartbeats 1000000 in
theorem t_X6_looked {c : Nat → z_E} {S : z_S} {o : Nat → Int64} {d : z_H} {q : Nat} {T : z_S} (K : svK S (q, T)) (hq : lkR S = (q, T)) (R : rowOK S) (hM : sN S 38 ≤ 60) {G : z_G} {X : z_X} (F : z_F vwCl z_ats z_nw wsL_law G RX6 cX6_looked 4 (z_rm 4 0 0) X) (hr : X.2.2.2.2.2.2.2.2.1.sig.returnType = some .int) : z_V vwCl G 4 X (z_end vwCl z_ats z_nw G X 0 0 (fun v h' => v = some (.int (nI (sN (lkS S) 40))) ∧ h' = (HP c (mfun (lkS S) o) d))) 0 0 47 [(0, .ref 11), (1, .int (nI (lkV S)))] [.int (nI q)] (HP c (mfun (T) o) d) := by
  obtain ⟨k1, k2, k3, k4, k5⟩ := K
  have k4 : q < 128 := k4
  have k5 : sN T 40 ≤ 50 := k5
  have k2 : sAN T 39 = sAN S 39 := k2
  have k3 : sB T 37 = sB S 37 := k3
  have k1 : sN T 38 = sN S 38 := k1
  have hv : lkV S < 256 := by unfold lkV; split; decide; exact R 0
  refine z_istore_n F dX6_looked_47 (Nat.le_of_ble_eq_true rfl) ?_
  refine z_aload_n F dX6_looked_48 rfl rfl ?_
  refine z_iload_n F dX6_looked_49 rfl ?_
  refine z_putf F vF_X6_80 vT_X6 vD_X6_42 dX6_looked_50 mO_at (Nat.le_of_ble_eq_true rfl) rfl rfl (fun g50 => ?_)
  refine z_heap _ (ms_42) ?_
  refine z_iload_n F dX6_looked_53 rfl ?_
  refine z_if_le (tgt := 114) F dX6_looked_54 (by decide) (fun c54 => ?_) (fun c54 => ?_)
  · have h0 : ¬ 0 < q := by have := (nI_leI (a := q) (b := 0) (by omega) (by decide)).mp c54; omega
    refine z_aload_n F dX6_looked_114 rfl rfl ?_
    refine z_getf F vF_X6_138 dX6_looked_115 mO_at rfl ?_
    refine z_iconst (v := 1) F dX6_looked_118 rfl ?_
    refine z_icmp_le (tgt := 162) F dX6_looked_119 (by decide) (fun c119 => ?_) (fun c119 => ?_)
    · have hz : noA S = false := by unfold noA; rw [decide_eq_false (by have := (nI_leI (a := sN T 38) (b := 1) (by omega) (by decide)).mp c119; omega)]; rfl
      have hs : lkS S = uF T (nI q) := by unfold lkS; rw [hq]; show (if 0 < q then _ else if noA S = true then _ else _) = _; rw [if_neg h0, if_neg (by rw [hz]; decide)]
      refine z_aload_n F dX6_looked_162 rfl rfl ?_
      refine z_getf F vF_X6_128 dX6_looked_163 mO_at rfl ?_
      exact z_iret F hr dX6_looked_166 rfl (Nat.le_of_ble_eq_true rfl) (Nat.le_of_ble_eq_true rfl) (⟨by rw [hs]; try rfl, by rw [hs]; try rfl⟩)
    · have m1 : 1 < sN S 38 := by have := mt (nI_leI (a := sN T 38) (b := 1) (by omega) (by decide)).mpr c119; omega
      have hV : lkV S = sAN S 39 0 := if_neg (by omega)
      refine z_aload_n F dX6_looked_122 rfl rfl ?_
      refine z_getf F vF_X6_74 dX6_looked_123 mO_at rfl ?_
      refine z_iconst (v := 1) F dX6_looked_126 rfl ?_
      refine z_iald (j := 1) F dX6_looked_127 mA_39 rfl rfl (show 1 < 60 by decide) (Nat.le_of_ble_eq_true rfl) ?_
      refine z_bipush (v := 127) F dX6_looked_128 rfl ?_
      refine z_icmp_le (tgt := 162) F dX6_looked_130 (by decide) (fun c130 => ?_) (fun c130 => ?_)
      · have hz : noA S = false := by unfold noA; rw [decide_eq_false (p := 127 < sAN S 39 1) (by have h9 := (nI_leI (a := sAN T 39 1) (b := 127) (by rw [k2]; have := R 1; omega) (by decide)).mp c130; rw [k2] at h9; omega)]; simp
        have hs : lkS S = uF T (nI q) := by unfold lkS; rw [hq]; show (if 0 < q then _ else if noA S = true then _ else _) = _; rw [if_neg h0, if_neg (by rw [hz]; decide)]
        refine z_aload_n F dX6_looked_162 rfl rfl ?_
        refine z_getf F vF_X6_128 dX6_looked_163 mO_at rfl ?_
        exact z_iret F hr dX6_looked_166 rfl (Nat.le_of_ble_eq_true rfl) (Nat.le_of_ble_eq_true rfl) (⟨by rw [hs]; try rfl, by rw [hs]; try rfl⟩)
      · have r1 : 127 < sAN S 39 1 := by have h9 := mt (nI_leI (a := sAN T 39 1) (b := 127) (by rw [k2]; have := R 1; omega) (by decide)).mpr c130; rw [k2] at h9; omega
        refine z_iload_n F dX6_looked_133 rfl ?_
        refine z_bipush (v := 16) F dX6_looked_134 rfl ?_
        refine z_icmp_eq (tgt := 157) F dX6_looked_136 (by decide) (fun c136 => ?_) (fun c136 => ?_)
        · have hz : noA S = true := by unfold noA; have e := (nI_eq (b := 16) (by omega) (by decide)).mp c136; rw [hV] at e; simp [m1, r1, e]
          have hs : lkS S = uN (uF T (nI q)) 40 0 := by unfold lkS; rw [hq]; show (if 0 < q then _ else if noA S = true then _ else _) = _; rw [if_neg h0, if_pos hz]
          refine z_aload_n F dX6_looked_157 rfl rfl ?_
          refine z_iconst (v := 0) F dX6_looked_158 rfl ?_
          refine z_putf F vF_X6_128 vT_X6 vD_X6_40 dX6_looked_159 mO_at (Nat.le_of_ble_eq_true rfl) rfl rfl (fun g159 => ?_)
          refine z_heap _ (ms_40 (v := 0)) ?_
          refine z_aload_n F dX6_looked_162 rfl rfl ?_
          refine z_getf F vF_X6_128 dX6_looked_163 mO_at rfl ?_
          exact z_iret F hr dX6_looked_166 rfl (Nat.le_of_ble_eq_true rfl) (Nat.le_of_ble_eq_true rfl) (⟨by rw [hs]; try rfl, by rw [hs]; try rfl⟩)
        · refine z_iload_n F dX6_looked_139 rfl ?_
          refine z_bipush (v := 17) F dX6_looked_140 rfl ?_
          refine z_icmp_eq (tgt := 157) F dX6_looked_142 (by decide) (fun c142 => ?_) (fun c142 => ?_)
          · have hz : noA S = true := by unfold noA; have e := (nI_eq (b := 17) (by omega) (by decide)).mp c142; rw [hV] at e; simp [m1, r1, e]
            have hs : lkS S = uN (uF T (nI q)) 40 0 := by unfold lkS; rw [hq]; show (if 0 < q then _ else if noA S = true then _ else _) = _; rw [if_neg h0, if_pos hz]
            refine z_aload_n F dX6_looked_157 rfl rfl ?_
            refine z_iconst (v := 0) F dX6_looked_158 rfl ?_
            refine z_putf F vF_X6_128 vT_X6 vD_X6_40 dX6_looked_159 mO_at (Nat.le_of_ble_eq_true rfl) rfl rfl (fun g159 => ?_)
            refine z_heap _ (ms_40 (v := 0)) ?_
            refine z_aload_n F dX6_looked_162 rfl rfl ?_
            refine z_getf F vF_X6_128 dX6_looked_163 mO_at rfl ?_
            exact z_iret F hr dX6_looked_166 rfl (Nat.le_of_ble_eq_true rfl) (Nat.le_of_ble_eq_true rfl) (⟨by rw [hs]; try rfl, by rw [hs]; try rfl⟩)
          · refine z_iload_n F dX6_looked_145 rfl ?_
            refine z_bipush (v := 49) F dX6_looked_146 rfl ?_
            refine z_icmp_eq (tgt := 157) F dX6_looked_148 (by decide) (fun c148 => ?_) (fun c148 => ?_)
            · have hz : noA S = true := by unfold noA; have e := (nI_eq (b := 49) (by omega) (by decide)).mp c148; rw [hV] at e; simp [m1, r1, e]
              have hs : lkS S = uN (uF T (nI q)) 40 0 := by unfold lkS; rw [hq]; show (if 0 < q then _ else if noA S = true then _ else _) = _; rw [if_neg h0, if_pos hz]
              refine z_aload_n F dX6_looked_157 rfl rfl ?_
              refine z_iconst (v := 0) F dX6_looked_158 rfl ?_
              refine z_putf F vF_X6_128 vT_X6 vD_X6_40 dX6_looked_159 mO_at (Nat.le_of_ble_eq_true rfl) rfl rfl (fun g159 => ?_)
              refine z_heap _ (ms_40 (v := 0)) ?_
              refine z_aload_n F dX6_looked_162 rfl rfl ?_
              refine z_getf F vF_X6_128 dX6_looked_163 mO_at rfl ?_
              exact z_iret F hr dX6_looked_166 rfl (Nat.le_of_ble_eq_true rfl) (Nat.le_of_ble_eq_true rfl) (⟨by rw [hs]; try rfl, by rw [hs]; try rfl⟩)
            · refine z_iload_n F dX6_looked_151 rfl ?_
              refine z_bipush (v := 62) F dX6_looked_152 rfl ?_
              refine z_icmp_ne (tgt := 162) F dX6_looked_154 (by decide) (fun c154 => ?_) (fun c154 => ?_)
              · have hz : noA S = false := by unfold noA; rw [decide_eq_false (p := sAN S 39 0 = 16) (fun e => c136 (by rw [hV, e]; rfl)), decide_eq_false (p := sAN S 39 0 = 17) (fun e => c142 (by rw [hV, e]; rfl)), decide_eq_false (p := sAN S 39 0 = 49) (fun e => c148 (by rw [hV, e]; rfl)), decide_eq_false (p := sAN S 39 0 = 62) (fun e => c154 (by rw [hV, e]; rfl))]; simp
                have hs : lkS S = uF T (nI q) := by unfold lkS; rw [hq]; show (if 0 < q then _ else if noA S = true then _ else _) = _; rw [if_neg h0, if_neg (by rw [hz]; decide)]
                refine z_aload_n F dX6_looked_162 rfl rfl ?_
                refine z_getf F vF_X6_128 dX6_looked_163 mO_at rfl ?_
                exact z_iret F hr dX6_looked_166 rfl (Nat.le_of_ble_eq_true rfl) (Nat.le_of_ble_eq_true rfl) (⟨by rw [hs]; try rfl, by rw [hs]; try rfl⟩)
              · have hz : noA S = true := by unfold noA; have e := (nI_eq (b := 62) (by omega) (by decide)).mp c154; rw [hV] at e; simp [m1, r1, e]
                have hs : lkS S = uN (uF T (nI q)) 40 0 := by unfold lkS; rw [hq]; show (if 0 < q then _ else if noA S = true then _ else _) = _; rw [if_neg h0, if_pos hz]
                refine z_aload_n F dX6_looked_157 rfl rfl ?_
                refine z_iconst (v := 0) F dX6_looked_158 rfl ?_
                refine z_putf F vF_X6_128 vT_X6 vD_X6_40 dX6_looked_159 mO_at (Nat.le_of_ble_eq_true rfl) rfl rfl (fun g159 => ?_)
                refine z_heap _ (ms_40 (v := 0)) ?_
                refine z_aload_n F dX6_looked_162 rfl rfl ?_
                refine z_getf F vF_X6_128 dX6_looked_163 mO_at rfl ?_
                exact z_iret F hr dX6_looked_166 rfl (Nat.le_of_ble_eq_true rfl) (Nat.le_of_ble_eq_true rfl) (⟨by rw [hs]; try rfl, by rw [hs]; try rfl⟩)
  · have h0 : 0 < q := by have := mt (nI_leI (a := q) (b := 0) (by omega) (by decide)).mpr c54; omega
    refine z_aload_n F dX6_looked_57 rfl rfl ?_
    refine z_iconst (v := 0) F dX6_looked_58 rfl ?_
    refine z_putf F vF_X6_128 vT_X6 vD_X6_40 dX6_looked_59 mO_at (Nat.le_of_ble_eq_true rfl) rfl rfl (fun g59 => ?_)
    refine z_heap _ (ms_40 (v := 0)) ?_
    refine z_aload_n F dX6_looked_62 rfl rfl ?_
    refine z_getf F vF_X6_203 dX6_looked_63 mO_at rfl ?_
    refine z_if_eq (tgt := 97) F dX6_looked_66 (by decide) (fun c66 => ?_) (fun c66 => ?_)
    · have ha : sB S 37 = false := k3.symm.trans (z_b0.mp c66)
      have hs : lkS S = sayS (sayS (sayS (uN (uF T (nI q)) 40 0) 127) (lkV S)) q := by unfold lkS; rw [hq]; show (if 0 < q then (if (sB S 37 && keptA q) = true then _ else _) else _) = _; rw [if_pos h0, if_neg (by rw [ha]; simp)]
      refine z_iconst (v := 0) F dX6_looked_97 rfl ?_
      refine z_istore_n F dX6_looked_98 (Nat.le_of_ble_eq_true rfl) ?_
      refine z_iload_n F dX6_looked_99 rfl ?_
      refine z_if_ne (tgt := 111) F dX6_looked_100 (by decide) (fun c100 => absurd rfl c100) (fun c100 => ?_)
      refine z_aload_n F dX6_looked_103 rfl rfl ?_
      refine z_bipush (v := 127) F dX6_looked_104 rfl ?_
      refine z_iload_n F dX6_looked_106 rfl ?_
      refine z_iload_n F dX6_looked_107 rfl ?_
      refine z_callV F z_nwOK wL_good (c_X6_threeSaid (S := uN (uF T (nI q)) 40 0) (x := 127) (y := lkV S) (w := q) (show 0 < 900 by decide) (by decide) (by omega) (by omega)) mO_at rfl vI_X6_threeSaid vM_X6_176 vV_X6_threeSaid vL_X6_threeSaid rfl dX6_looked_108 rfl rfl (Nat.le_of_ble_eq_true rfl) ⟨(Nat.le_of_ble_eq_true rfl), (Nat.le_of_ble_eq_true rfl), (Nat.le_of_ble_eq_true rfl), (Nat.le_of_ble_eq_true rfl)⟩ (fun v h1 hq => ?_)
      obtain ⟨rfl, rfl⟩ := hq
      refine z_goto (tgt := 162) F dX6_looked_111 (by decide) ?_
      refine z_aload_n F dX6_looked_162 rfl rfl ?_
      refine z_getf F vF_X6_128 dX6_looked_163 mO_at rfl ?_
      exact z_iret F hr dX6_looked_166 rfl (Nat.le_of_ble_eq_true rfl) (Nat.le_of_ble_eq_true rfl) (⟨by rw [hs]; try rfl, by rw [hs]; try rfl⟩)
    · have ha : sB S 37 = true := k3.symm.trans (z_b1 c66)
      refine z_iload_n F dX6_looked_69 rfl ?_
      refine z_bipush (v := 17) F dX6_looked_70 rfl ?_
      refine z_icmp_eq (tgt := 93) F dX6_looked_72 (by decide) (fun c72 => ?_) (fun c72 => ?_)
      · have hk : keptA q = true := by have e := (nI_eq (b := 17) (by omega) (by decide)).mp c72; subst e; rfl
        have hs : lkS S = uN (uF T (nI q)) 40 0 := by unfold lkS; rw [hq]; show (if 0 < q then (if (sB S 37 && keptA q) = true then _ else _) else _) = _; rw [if_pos h0, if_pos (by rw [ha, hk]; rfl)]
        refine z_iconst (v := 1) F dX6_looked_93 rfl ?_
        refine z_goto (tgt := 98) F dX6_looked_94 (by decide) ?_
        refine z_istore_n F dX6_looked_98 (Nat.le_of_ble_eq_true rfl) ?_
        refine z_iload_n F dX6_looked_99 rfl ?_
        refine z_if_ne (tgt := 111) F dX6_looked_100 (by decide) (fun c100 => ?_) (fun c100 => absurd c100 (by decide))
        refine z_goto (tgt := 162) F dX6_looked_111 (by decide) ?_
        refine z_aload_n F dX6_looked_162 rfl rfl ?_
        refine z_getf F vF_X6_128 dX6_looked_163 mO_at rfl ?_
        exact z_iret F hr dX6_looked_166 rfl (Nat.le_of_ble_eq_true rfl) (Nat.le_of_ble_eq_true rfl) (⟨by rw [hs]; try rfl, by rw [hs]; try rfl⟩)
      · refine z_iload_n F dX6_looked_75 rfl ?_
        refine z_bipush (v := 18) F dX6_looked_76 rfl ?_
        refine z_icmp_eq (tgt := 93) F dX6_looked_78 (by decide) (fun c78 => ?_) (fun c78 => ?_)
        · have hk : keptA q = true := by have e := (nI_eq (b := 18) (by omega) (by decide)).mp c78; subst e; rfl
          have hs : lkS S = uN (uF T (nI q)) 40 0 := by unfold lkS; rw [hq]; show (if 0 < q then (if (sB S 37 && keptA q) = true then _ else _) else _) = _; rw [if_pos h0, if_pos (by rw [ha, hk]; rfl)]
          refine z_iconst (v := 1) F dX6_looked_93 rfl ?_
          refine z_goto (tgt := 98) F dX6_looked_94 (by decide) ?_
          refine z_istore_n F dX6_looked_98 (Nat.le_of_ble_eq_true rfl) ?_
          refine z_iload_n F dX6_looked_99 rfl ?_
          refine z_if_ne (tgt := 111) F dX6_looked_100 (by decide) (fun c100 => ?_) (fun c100 => absurd c100 (by decide))
          refine z_goto (tgt := 162) F dX6_looked_111 (by decide) ?_
          refine z_aload_n F dX6_looked_162 rfl rfl ?_
          refine z_getf F vF_X6_128 dX6_looked_163 mO_at rfl ?_
          exact z_iret F hr dX6_looked_166 rfl (Nat.le_of_ble_eq_true rfl) (Nat.le_of_ble_eq_true rfl) (⟨by rw [hs]; try rfl, by rw [hs]; try rfl⟩)
        · refine z_iload_n F dX6_looked_81 rfl ?_
          refine z_bipush (v := 49) F dX6_looked_82 rfl ?_
          refine z_icmp_eq (tgt := 93) F dX6_looked_84 (by decide) (fun c84 => ?_) (fun c84 => ?_)
          · have hk : keptA q = true := by have e := (nI_eq (b := 49) (by omega) (by decide)).mp c84; subst e; rfl
            have hs : lkS S = uN (uF T (nI q)) 40 0 := by unfold lkS; rw [hq]; show (if 0 < q then (if (sB S 37 && keptA q) = true then _ else _) else _) = _; rw [if_pos h0, if_pos (by rw [ha, hk]; rfl)]
            refine z_iconst (v := 1) F dX6_looked_93 rfl ?_
            refine z_goto (tgt := 98) F dX6_looked_94 (by decide) ?_
            refine z_istore_n F dX6_looked_98 (Nat.le_of_ble_eq_true rfl) ?_
            refine z_iload_n F dX6_looked_99 rfl ?_
            refine z_if_ne (tgt := 111) F dX6_looked_100 (by decide) (fun c100 => ?_) (fun c100 => absurd c100 (by decide))
            refine z_goto (tgt := 162) F dX6_looked_111 (by decide) ?_
            refine z_aload_n F dX6_looked_162 rfl rfl ?_
            refine z_getf F vF_X6_128 dX6_looked_163 mO_at rfl ?_
            exact z_iret F hr dX6_looked_166 rfl (Nat.le_of_ble_eq_true rfl) (Nat.le_of_ble_eq_true rfl) (⟨by rw [hs]; try rfl, by rw [hs]; try rfl⟩)
          · refine z_iload_n F dX6_looked_87 rfl ?_
            refine z_bipush (v := 127) F dX6_looked_88 rfl ?_
            refine z_icmp_ne (tgt := 97) F dX6_looked_90 (by decide) (fun c90 => ?_) (fun c90 => ?_)
            · have hk : keptA q = false := by unfold keptA; rw [decide_eq_false (fun e => c72 (by rw [e]; rfl)), decide_eq_false (fun e => c78 (by rw [e]; rfl)), decide_eq_false (fun e => c84 (by rw [e]; rfl)), decide_eq_false (fun e => c90 (by rw [e]; rfl))]; rfl
              have hs : lkS S = sayS (sayS (sayS (uN (uF T (nI q)) 40 0) 127) (lkV S)) q := by unfold lkS; rw [hq]; show (if 0 < q then (if (sB S 37 && keptA q) = true then _ else _) else _) = _; rw [if_pos h0, if_neg (by rw [hk]; simp)]
              refine z_iconst (v := 0) F dX6_looked_97 rfl ?_
              refine z_istore_n F dX6_looked_98 (Nat.le_of_ble_eq_true rfl) ?_
              refine z_iload_n F dX6_looked_99 rfl ?_
              refine z_if_ne (tgt := 111) F dX6_looked_100 (by decide) (fun c100 => absurd rfl c100) (fun c100 => ?_)
              refine z_aload_n F dX6_looked_103 rfl rfl ?_
              refine z_bipush (v := 127) F dX6_looked_104 rfl ?_
              refine z_iload_n F dX6_looked_106 rfl ?_
              refine z_iload_n F dX6_looked_107 rfl ?_
              refine z_callV F z_nwOK wL_good (c_X6_threeSaid (S := uN (uF T (nI q)) 40 0) (x := 127) (y := lkV S) (w := q) (show 0 < 900 by decide) (by decide) (by omega) (by omega)) mO_at rfl vI_X6_threeSaid vM_X6_176 vV_X6_threeSaid vL_X6_threeSaid rfl dX6_looked_108 rfl rfl (Nat.le_of_ble_eq_true rfl) ⟨(Nat.le_of_ble_eq_true rfl), (Nat.le_of_ble_eq_true rfl), (Nat.le_of_ble_eq_true rfl), (Nat.le_of_ble_eq_true rfl)⟩ (fun v h1 hq => ?_)
              obtain ⟨rfl, rfl⟩ := hq
              refine z_goto (tgt := 162) F dX6_looked_111 (by decide) ?_
              refine z_aload_n F dX6_looked_162 rfl rfl ?_
              refine z_getf F vF_X6_128 dX6_looked_163 mO_at rfl ?_
              exact z_iret F hr dX6_looked_166 rfl (Nat.le_of_ble_eq_true rfl) (Nat.le_of_ble_eq_true rfl) (⟨by rw [hs]; try rfl, by rw [hs]; try rfl⟩)
            · have hk : keptA q = true := by have e := (nI_eq (b := 127) (by omega) (by decide)).mp c90; subst e; rfl
              have hs : lkS S = uN (uF T (nI q)) 40 0 := by unfold lkS; rw [hq]; show (if 0 < q then (if (sB S 37 && keptA q) = true then _ else _) else _) = _; rw [if_pos h0, if_pos (by rw [ha, hk]; rfl)]
              refine z_iconst (v := 1) F dX6_looked_93 rfl ?_
              refine z_goto (tgt := 98) F dX6_looked_94 (by decide) ?_
              refine z_istore_n F dX6_looked_98 (Nat.le_of_ble_eq_true rfl) ?_
              refine z_iload_n F dX6_looked_99 rfl ?_
              refine z_if_ne (tgt := 111) F dX6_looked_100 (by decide) (fun c100 => ?_) (fun c100 => absurd c100 (by decide))
              refine z_goto (tgt := 162) F dX6_looked_111 (by decide) ?_
              refine z_aload_n F dX6_looked_162 rfl rfl ?_
              refine z_getf F vF_X6_128 dX6_looked_163 mO_at rfl ?_
              exact z_iret F hr dX6_looked_166 rfl (Nat.le_of_ble_eq_true rfl) (Nat.le_of_ble_eq_true rfl) (⟨by rw [hs]; try rfl, by rw [hs]; try rfl⟩)
