set_option maxRecDepth 100000 in
set_option maxHeartbeats 1000000 in
theorem l_X5_replyOctetsOf {S : z_S} {x : z_Xc} {m : Nat → z_E} {d : z_H} {k : Nat} (W : idsOK S) (hk : k < sN S 8) {A : Nat × (Nat → Nat)} (hb : A.1 + sAN S 10 k ≤ 41) {G : z_G} {X : z_X} (F : z_F vwCl z_ats z_nw wsL_law G RX5 cX5_replyOctetsOf 3 (z_rm 2 0 0) X) (hr : X.2.2.2.2.2.2.2.2.1.sig.returnType = none) :
    ∀ (m' i : Nat) (f : Nat → Int32), (i + m' = sAN S 10 k ∧ CR (withA S (octA S k A i)) (wa x f) d) → z_V vwCl G 3 X (z_end vwCl z_ats z_nw G X 0 0 (fun v h' => v = none ∧ ∃ f' : Nat → Int32, h' = HP (cfun (withA S (octA S k A (sAN S 10 k))) (wa x f')) m d ∧ CR (withA S (octA S k A (sAN S 10 k))) (wa x f') d)) 0 0 13 [(0, .ref 1), (1, .ref (xi x k + 32)), (2, .int (nI i))] [] (HP (cfun (withA S (octA S k A i)) (wa x f)) m d) := by
  intro m'
  induction m' with
  | zero =>
    intro i f hi
    obtain ⟨hi, C⟩ := hi
    obtain rfl : i = sAN S 10 k := by omega
    have h8 := (W.2 k hk).1
    have hc := HPd (c := cfun (withA S (octA S k A (sAN S 10 k))) (wa x f)) (m := m) (C.1.1 k hk)
    refine z_iload_n F dX5_replyOctetsOf_13 rfl ?_
    refine z_aload_n F dX5_replyOctetsOf_14 rfl rfl ?_
    refine z_getf F vF_X5_98 dX5_replyOctetsOf_15 hc rfl ?_
    refine z_icmp_ge (tgt := 39) F dX5_replyOctetsOf_18 (by decide) (fun c18 => ?_) (fun c18 => absurd (nI_le (a := sAN S 10 k) (b := sAN S 10 k) (Nat.le_refl _) (by omega)) c18)
    exact z_vret F hr dX5_replyOctetsOf_39 (Nat.le_of_ble_eq_true rfl) (Nat.le_of_ble_eq_true rfl) (⟨rfl, f, rfl, C⟩)
  | succ m' ih =>
    intro i f hi
    obtain ⟨hi, C⟩ := hi
    have h8 := (W.2 k hk).1
    have hlen := octA_len S k A i
    have hlt : i < sAN S 10 k := by omega
    have hc := HPd (c := cfun (withA S (octA S k A i)) (wa x f)) (m := m) (C.1.1 k hk)
    have C2 : CR (withA S (octA S k A (i + 1))) (wa x (upd f (octA S k A i).1 (nI (octS S k i)).toInt8.toInt32)) d := by
      have h := CR_say C (show (octA S k A i).1 < 41 by omega) (octS S k i)
      rw [sayS_withA] at h
      exact h
    refine z_iload_n F dX5_replyOctetsOf_13 rfl ?_
    refine z_aload_n F dX5_replyOctetsOf_14 rfl rfl ?_
    refine z_getf F vF_X5_98 dX5_replyOctetsOf_15 hc rfl ?_
    refine z_icmp_ge (tgt := 39) F dX5_replyOctetsOf_18 (by decide) (fun c18 => absurd c18 (nI_ge (a := i) (b := sAN S 10 k) hlt (by omega))) (fun c18 => ?_)
    refine z_aload_n F dX5_replyOctetsOf_21 rfl rfl ?_
    refine z_getf F vF_X5_67 dX5_replyOctetsOf_22 cO_at rfl ?_
    refine z_aload_n F dX5_replyOctetsOf_25 rfl rfl ?_
    refine z_iload_n F dX5_replyOctetsOf_26 rfl ?_
    refine z_callV F z_nwOK wL_good (c_X1_oct C W hk hlt) hc rfl vI_X1_octetAt vM_X5_268 vV_X1_octetAt vL_X1_octetAt rfl dX5_replyOctetsOf_27 rfl rfl (Nat.le_of_ble_eq_true rfl) ⟨(Nat.le_of_ble_eq_true rfl), (Nat.le_of_ble_eq_true rfl), (Nat.le_of_ble_eq_true rfl), (Nat.le_of_ble_eq_true rfl)⟩ (fun v h1 hq => ?_)
    obtain ⟨rfl, rfl⟩ := hq
    refine z_callV F z_nwOK wL_good (c_put (b := octS S k i) (show (octA S k A i).1 < 41 by omega)) cAn.1 rfl vI_X0_put vM_X5_190 vV_X0_put vL_X0_put rfl dX5_replyOctetsOf_30 rfl rfl (Nat.le_of_ble_eq_true rfl) ⟨(Nat.le_of_ble_eq_true rfl), (Nat.le_of_ble_eq_true rfl), (Nat.le_of_ble_eq_true rfl), (Nat.le_of_ble_eq_true rfl)⟩ (fun v h1 hq => ?_)
    obtain ⟨rfl, rfl⟩ := hq
    refine z_heap (HP (cfun (withA S (octA S k A (i + 1))) (wa x (upd f (octA S k A i).1 (nI (octS S k i)).toInt8.toInt32))) m d) (by rw [show withA S (octA S k A (i + 1)) = sayS (withA S (octA S k A i)) (octS S k i) from (sayS_withA _ _ _).symm]; rfl) ?_
    refine z_iinc (w := 1) F dX5_replyOctetsOf_33 rfl rfl (Nat.le_of_ble_eq_true rfl) ?_
    rw [nI_1]
    refine z_goto (tgt := 13) F dX5_replyOctetsOf_36 (by decide) ?_
    refine z_pick [0, 1, 2] rfl ?_
    exact ih (i + 1) _ ⟨by omega, C2⟩

set_option maxRecDepth 100000 in
set_option maxHeartbeats 1000000 in
theorem c_X5_replyOctetsOf {S : z_S} {x : z_Xc} {m : Nat → z_E} {d : z_H} {k : Nat} (W : idsOK S) (hk : k < sN S 8) {a : Nat × (Nat → Nat)} {f : Nat → Int32} {b1 b2 : Nat} (C : CR (withA S a) (wa x f) d) (hid : sAI S 9 k = nI (b1 * 256 + b2)) (h1 : b1 < 256) (h2 : b2 < 256) (hb : a.1 + 2 + sAN S 10 k ≤ 41) : z_K yX5_replyOctetsOf cX5_replyOctetsOf 3 none 2 0 0 [.ref 1, .ref (xi x k + 32)] (HP (cfun (withA S a) (wa x f)) m d) (fun v h' => v = none ∧ ∃ f' : Nat → Int32, h' = HP (cfun (withA S (octA S k (sayA (sayA a b1) b2) (sAN S 10 k))) (wa x f')) m d ∧ CR (withA S (octA S k (sayA (sayA a b1) b2) (sAN S 10 k))) (wa x f') d) := by
  have hc := HPd (c := cfun (withA S a) (wa x f)) (m := m) (C.1.1 k hk)
  have C2 : CR (withA S (sayA (sayA a b1) b2)) (wa x (upd (upd f a.1 (nI b1).toInt8.toInt32) (a.1 + 1) (nI b2).toInt8.toInt32)) d := by
    have h := CR_say (CR_say C (show a.1 < 41 by omega) b1) (show a.1 + 1 < 41 by omega) b2
    rw [sayS_withA, sayS_withA] at h
    exact h
  refine z_met vI_X5_replyOctetsOf (Nat.le_of_ble_eq_true rfl) (fun G X F hr hnm => ?_)
  refine z_aload_n F dX5_replyOctetsOf_0 rfl rfl ?_
  refine z_getf F vF_X5_67 dX5_replyOctetsOf_1 cO_at rfl ?_
  refine z_aload_n F dX5_replyOctetsOf_4 rfl rfl ?_
  refine z_getf F vF_X5_166 dX5_replyOctetsOf_5 hc rfl ?_
  rw [show sAI (withA S a) 9 k = nI (b1 * 256 + b2) from hid]
  refine z_callV F z_nwOK wL_good (c_putW (a := b1) (b := b2) h1 h2 (show a.1 + 1 < 41 by omega)) cAn.1 rfl vI_X0_putWord vM_X5_265 vV_X0_putWord vL_X0_putWord rfl dX5_replyOctetsOf_8 rfl rfl (Nat.le_of_ble_eq_true rfl) ⟨(Nat.le_of_ble_eq_true rfl), (Nat.le_of_ble_eq_true rfl), (Nat.le_of_ble_eq_true rfl), (Nat.le_of_ble_eq_true rfl)⟩ (fun v h1 hq => ?_)
  obtain ⟨rfl, rfl⟩ := hq
  refine z_heap (HP (cfun (withA S (sayA (sayA a b1) b2)) (wa x (upd (upd f a.1 (nI b1).toInt8.toInt32) (a.1 + 1) (nI b2).toInt8.toInt32))) m d) (by rw [← sayS_withA, ← sayS_withA]; rfl) ?_
  refine z_iconst (v := 0) F dX5_replyOctetsOf_11 rfl ?_
  refine z_istore_n F dX5_replyOctetsOf_12 (Nat.le_of_ble_eq_true rfl) ?_
  exact l_X5_replyOctetsOf W hk (A := (sayA (sayA a b1) b2)) (show a.1 + 1 + 1 + sAN S 10 k ≤ 41 by omega) F hr (sAN S 10 k) 0 _ ⟨by omega, C2⟩

set_option maxRecDepth 100000 in
set_option maxHeartbeats 1000000 in
theorem l_X5_read2 {S : z_S} {x : z_Xc} {m : Nat → z_E} {d : z_H} {w : Bool} (C : CR S x d) (Q : QV w S x) (R : rowOK S) (W : idsOK S) (V : numsOK S) (U : trOK S) (Y : rtsOK S) (h0 : 0 < sN S 38) (hA : sN S 40 = 0) (hV : sAN S 39 0 = 34) (hn : ¬ (sN S 38 - 1 < 2 ∨ 8 < sN S 38 - 1 ∨ (sN S 38 - 1) % 2 = 1)) (hs : sv34 S = (0, withA S (rdA S ((sN S 38 - 1) / 2)))) {G : z_G} {X : z_X} (F : z_F vwCl z_ats z_nw wsL_law G RX5 cX5_read 7 (z_rm 3 0 0) X) (hr : X.2.2.2.2.2.2.2.2.1.sig.returnType = some .int) :
    ∀ (m' j : Nat) (f : Nat → Int32), (j + m' = ((sN S 38 - 1) / 2) ∧ CR (withA S (rdA S j)) (wa x f) d) → z_V vwCl G 7 X (z_end vwCl z_ats z_nw G X 0 0 (fun v h' => v = some (.int (nI (sv34 S).1)) ∧ ∃ (x' : z_Xc) (d' : z_H), h' = HP (cfun (sv34 S).2 x') m d' ∧ CR (sv34 S).2 x' d' ∧ KX x x')) 0 0 110 [(0, .ref 1), (1, .ref (qa w)), (2, .int (nI (sN S 38 - 1))), (5, .int (nI (2 * j)))] [] (HP (cfun (withA S (rdA S j)) (wa x f)) m d) := by
  intro m'
  induction m' with
  | zero =>
    intro j f hi
    obtain ⟨hi, C2⟩ := hi
    obtain rfl : j = ((sN S 38 - 1) / 2) := by omega
    have hM := Q.2.1
    refine z_iload F dX5_read_110 rfl ?_
    refine z_iload_n F dX5_read_112 rfl ?_
    refine z_icmp_ge (tgt := 145) F dX5_read_113 (by decide) (fun c113 => ?_) (fun c113 => absurd (nI_le (a := sN S 38 - 1) (b := 2 * ((sN S 38 - 1) / 2)) (by omega) (by omega)) c113)
    refine z_iconst (v := 0) F dX5_read_145 rfl ?_
    exact z_iret F hr dX5_read_146 rfl (Nat.le_of_ble_eq_true rfl) (Nat.le_of_ble_eq_true rfl) (⟨by rw [hs]; try rfl, wa x f, d, by rw [hs]; try rfl, by rw [hs]; exact C2, rfl, rfl, rfl⟩)
  | succ m' ih =>
    intro j f hi
    obtain ⟨hi, C2⟩ := hi
    have hM := Q.2.1
    refine z_iload F dX5_read_110 rfl ?_
    refine z_iload_n F dX5_read_112 rfl ?_
    refine z_icmp_ge (tgt := 145) F dX5_read_113 (by decide) (fun c113 => absurd c113 (nI_ge (a := 2 * j) (b := sN S 38 - 1) (by omega) (by omega))) (fun c113 => ?_)
    refine z_aload_n F dX5_read_116 rfl rfl ?_
    refine z_aload_n F dX5_read_117 rfl rfl ?_
    refine z_iload F dX5_read_118 rfl ?_
    refine z_callV F z_nwOK wL_good (c_qword (p := 2 * j) (QV_to (S' := withA S (rdA S j)) (x' := wa x f) Q (by cases w <;> rfl) rfl rfl rfl) (show 2 * j + 2 < sN S 38 by omega)) cQ.1 rfl vI_X2_word vM_X5_254 vV_X2_word vL_X2_word rfl dX5_read_120 rfl rfl (Nat.le_of_ble_eq_true rfl) ⟨(Nat.le_of_ble_eq_true rfl), (Nat.le_of_ble_eq_true rfl), (Nat.le_of_ble_eq_true rfl), (Nat.le_of_ble_eq_true rfl)⟩ (fun v h1 hq => ?_)
    obtain ⟨rfl, rfl⟩ := hq
    rw [show toldN (withA S (rdA S j)) (2 * j + 1) = (toldN S (1 + 2 * j)) from congrArg (toldN S) (Nat.add_comm (2 * j) 1)]
    refine z_callV F z_nwOK wL_good (c_X5_findHere (t := (toldN S (1 + 2 * j))) C2 W.1 V) cO_at rfl vI_X5_findHere vM_X5_258 vV_X5_findHere vL_X5_findHere rfl dX5_read_123 rfl rfl (Nat.le_of_ble_eq_true rfl) ⟨(Nat.le_of_ble_eq_true rfl), (Nat.le_of_ble_eq_true rfl), (Nat.le_of_ble_eq_true rfl), (Nat.le_of_ble_eq_true rfl)⟩ (fun v h1 hq => ?_)
    obtain ⟨rfl, rfl⟩ := hq
    rw [show rI (wa x f) (hereF (withA S (rdA S j)) (toldN S (1 + 2 * j))) = rI x (hereF S (toldN S (1 + 2 * j))) from rfl]
    rcases here_cases S (toldN S (1 + 2 * j)) with ⟨hF, -⟩ | ⟨k, hfd, hF, -, hk⟩
    · rw [hF]
      have hj : rdA S (j + 1) = rdA S j := by show (match hereF S (toldN S (1 + 2 * j)) with | none => _ | some k => _) = _; rw [hF]
      rw [← hj] at C2 ⊢
      refine z_astore F dX5_read_126 rfl (Nat.le_of_ble_eq_true rfl) ?_
      refine z_aload F dX5_read_128 rfl rfl ?_
      refine z_ifnull (tgt := 139) F dX5_read_130 (by decide) rfl (fun c130 => ?_) (fun c130 => absurd rfl c130)
      refine z_iinc (w := 2) F dX5_read_139 rfl rfl (Nat.le_of_ble_eq_true rfl) ?_
      rw [show nI (2 * j) + 2 = nI (2 * (j + 1)) from nI_add (2 * j) 2]
      refine z_goto (tgt := 110) F dX5_read_142 (by decide) ?_
      refine z_pick (lv' := [(0, .ref 1), (1, .ref (qa w)), (2, .int (nI (sN S 38 - 1))), (5, .int (nI (2 * (j + 1))))]) [0, 1, 2, 3] rfl ?_
      exact ih (j + 1) (f) ⟨by omega, C2⟩
    · rw [hF]
      have hj : rdA S (j + 1) = (octA S k (sayA (sayA (rdA S j) (sAN S 39 (1 + 2 * j))) (sAN S 39 (1 + 2 * j + 1))) (sAN S 10 k)) := by show (match hereF S (toldN S (1 + 2 * j)) with | none => _ | some k => _) = _; rw [hF]
      have h8 := (W.2 k hk).1
      have hlen := rdA_len W j
      have hid : sAI S 9 k = nI (sAN S 39 (1 + 2 * j) * 256 + sAN S 39 (1 + 2 * j + 1)) := (fnd_some hfd).2.1
      refine z_astore F dX5_read_126 rfl (Nat.le_of_ble_eq_true rfl) ?_
      refine z_aload F dX5_read_128 rfl rfl ?_
      refine z_ifnull (tgt := 139) F dX5_read_130 (by decide) rfl (fun c130 => absurd c130 (by intro q; cases q)) (fun c130 => ?_)
      refine z_aload_n F dX5_read_133 rfl rfl ?_
      refine z_aload F dX5_read_134 rfl rfl ?_
      refine z_callV F z_nwOK wL_good (c_X5_replyOctetsOf W hk (a := rdA S j) (f := f) C2 hid (R _) (R _) (by omega)) cO_at rfl vI_X5_replyOctetsOf vM_X5_262 vV_X5_replyOctetsOf vL_X5_replyOctetsOf rfl dX5_read_136 rfl rfl (Nat.le_of_ble_eq_true rfl) ⟨(Nat.le_of_ble_eq_true rfl), (Nat.le_of_ble_eq_true rfl), (Nat.le_of_ble_eq_true rfl), (Nat.le_of_ble_eq_true rfl)⟩ (fun v h1 hq => ?_)
      obtain ⟨rfl, f', rfl, C3⟩ := hq
      rw [← hj] at C3 ⊢
      refine z_iinc (w := 2) F dX5_read_139 rfl rfl (Nat.le_of_ble_eq_true rfl) ?_
      rw [show nI (2 * j) + 2 = nI (2 * (j + 1)) from nI_add (2 * j) 2]
      refine z_goto (tgt := 110) F dX5_read_142 (by decide) ?_
      refine z_pick (lv' := [(0, .ref 1), (1, .ref (qa w)), (2, .int (nI (sN S 38 - 1))), (5, .int (nI (2 * (j + 1))))]) [0, 1, 2, 3] rfl ?_
      exact ih (j + 1) (f') ⟨by omega, C3⟩

set_option maxRecDepth 100000 in
set_option maxHeartbeats 1000000 in
theorem l_X5_read1 {S : z_S} {x : z_Xc} {m : Nat → z_E} {d : z_H} {w : Bool} (C : CR S x d) (Q : QV w S x) (R : rowOK S) (W : idsOK S) (V : numsOK S) (U : trOK S) (Y : rtsOK S) (h0 : 0 < sN S 38) (hA : sN S 40 = 0) (hV : sAN S 39 0 = 34) (hn : ¬ (sN S 38 - 1 < 2 ∨ 8 < sN S 38 - 1 ∨ (sN S 38 - 1) % 2 = 1))  {G : z_G} {X : z_X} (F : z_F vwCl z_ats z_nw wsL_law G RX5 cX5_read 7 (z_rm 3 0 0) X) (hr : X.2.2.2.2.2.2.2.2.1.sig.returnType = some .int) :
    ∀ (m' j : Nat), j + m' = ((sN S 38 - 1) / 2) → z_V vwCl G 7 X (z_end vwCl z_ats z_nw G X 0 0 (fun v h' => v = some (.int (nI (sv34 S).1)) ∧ ∃ (x' : z_Xc) (d' : z_H), h' = HP (cfun (sv34 S).2 x') m d' ∧ CR (sv34 S).2 x' d' ∧ KX x x')) 0 0 32 [(0, .ref 1), (1, .ref (qa w)), (2, .int (nI (sN S 38 - 1))), (3, .int (z_b (scan S j).1)), (4, .int (z_b (!(scan S j).2))), (5, .int (nI (2 * j)))] [] (HP (cfun S x) m d) := by
  intro m'
  induction m' with
  | zero =>
    intro j hi
    obtain rfl : j = ((sN S 38 - 1) / 2) := by omega
    have hM := Q.2.1
    refine z_iload F dX5_read_32 rfl ?_
    refine z_iload_n F dX5_read_34 rfl ?_
    refine z_icmp_ge (tgt := 87) F dX5_read_35 (by decide) (fun c35 => ?_) (fun c35 => absurd (nI_le (a := sN S 38 - 1) (b := 2 * ((sN S 38 - 1) / 2)) (by omega) (by omega)) c35)
    refine z_iload_n F dX5_read_87 rfl ?_
    refine z_if_ne (tgt := 94) F dX5_read_88 (by decide) (fun c88 => ?_) (fun c88 => ?_)
    · have ha : (scan S ((sN S 38 - 1) / 2)).1 = true := z_b1 c88
      refine z_iload F dX5_read_94 rfl ?_
      refine z_if_eq (tgt := 102) F dX5_read_96 (by decide) (fun c96 => ?_) (fun c96 => ?_)
      · have hb : (scan S ((sN S 38 - 1) / 2)).2 = true := by have h9 := z_b0.mp c96; cases hz : (scan S ((sN S 38 - 1) / 2)).2 with
            | true => rfl
            | false => rw [hz] at h9; cases h9
        have hs : sv34 S = (0, withA S (rdA S ((sN S 38 - 1) / 2))) := by unfold sv34; rw [if_neg hn, if_neg (by rw [ha]; decide), if_neg (by rw [hb]; decide)]
        have e0 : sayS S 98 = withA S (rdA S 0) := by rw [show rdA S 0 = sayA (sN S 40, sAN S 41) 98 from rfl, ← sayS_withA, withA_self]
        have C2 := CR_say C (show sN S 40 < 41 by omega) 98
        rw [e0] at C2
        refine z_aload_n F dX5_read_102 rfl rfl ?_
        refine z_aload_n F dX5_read_103 rfl rfl ?_
        refine z_callV F z_nwOK wL_good (c_bR (b := 98) (QV_to (S' := S) (x' := x) Q (by cases w <;> rfl) rfl rfl rfl) h0 (show sN S 40 + 0 < 41 by omega) (show sAN S 39 0 + 64 = 98 by omega)) cO_at rfl vI_X5_beginReply vM_X5_242 vV_X5_beginReply vL_X5_beginReply rfl dX5_read_104 rfl rfl (Nat.le_of_ble_eq_true rfl) ⟨(Nat.le_of_ble_eq_true rfl), (Nat.le_of_ble_eq_true rfl), (Nat.le_of_ble_eq_true rfl), (Nat.le_of_ble_eq_true rfl)⟩ (fun v h1 hq => ?_)
        obtain ⟨rfl, rfl⟩ := hq
        rw [e0]
        refine z_iconst (v := 0) F dX5_read_107 rfl ?_
        refine z_istore F dX5_read_108 (Nat.le_of_ble_eq_true rfl) ?_
        refine z_pick (lv' := [(0, .ref 1), (1, .ref (qa w)), (2, .int (nI (sN S 38 - 1))), (5, .int (nI (2 * 0)))]) [0, 1, 2, 5] rfl ?_
        exact l_X5_read2 C Q R W V U Y h0 hA hV hn hs F hr ((sN S 38 - 1) / 2) 0 _ ⟨by omega, C2⟩
      · have hb : (scan S ((sN S 38 - 1) / 2)).2 = false := by have h9 := z_b1 c96; cases hz : (scan S ((sN S 38 - 1) / 2)).2 with
            | false => rfl
            | true => rw [hz] at h9; cases h9
        have hs : sv34 S = (51, S) := by unfold sv34; rw [if_neg hn, if_neg (by rw [ha]; decide), if_pos hb]
        refine z_bipush (v := 51) F dX5_read_99 rfl ?_
        exact z_iret F hr dX5_read_101 rfl (Nat.le_of_ble_eq_true rfl) (Nat.le_of_ble_eq_true rfl) (⟨by rw [hs]; try rfl, x, d, by rw [hs]; try rfl, by rw [hs]; exact C, rfl, rfl, rfl⟩)
    · have ha : (scan S ((sN S 38 - 1) / 2)).1 = false := z_b0.mp c88
      have hs : sv34 S = (49, S) := by unfold sv34; rw [if_neg hn, if_pos ha]
      refine z_bipush (v := 49) F dX5_read_91 rfl ?_
      exact z_iret F hr dX5_read_93 rfl (Nat.le_of_ble_eq_true rfl) (Nat.le_of_ble_eq_true rfl) (⟨by rw [hs]; try rfl, x, d, by rw [hs]; try rfl, by rw [hs]; exact C, rfl, rfl, rfl⟩)
  | succ m' ih =>
    intro j hi
    have hM := Q.2.1
    refine z_iload F dX5_read_32 rfl ?_
    refine z_iload_n F dX5_read_34 rfl ?_
    refine z_icmp_ge (tgt := 87) F dX5_read_35 (by decide) (fun c35 => absurd c35 (nI_ge (a := 2 * j) (b := sN S 38 - 1) (by omega) (by omega))) (fun c35 => ?_)
    refine z_aload_n F dX5_read_38 rfl rfl ?_
    refine z_aload_n F dX5_read_39 rfl rfl ?_
    refine z_iload F dX5_read_40 rfl ?_
    refine z_callV F z_nwOK wL_good (c_qword (p := 2 * j) Q (show 2 * j + 2 < sN S 38 by omega)) cQ.1 rfl vI_X2_word vM_X5_254 vV_X2_word vL_X2_word rfl dX5_read_42 rfl rfl (Nat.le_of_ble_eq_true rfl) ⟨(Nat.le_of_ble_eq_true rfl), (Nat.le_of_ble_eq_true rfl), (Nat.le_of_ble_eq_true rfl), (Nat.le_of_ble_eq_true rfl)⟩ (fun v h1 hq => ?_)
    obtain ⟨rfl, rfl⟩ := hq
    rw [show toldN S (2 * j + 1) = (toldN S (1 + 2 * j)) from congrArg (toldN S) (Nat.add_comm (2 * j) 1)]
    refine z_callV F z_nwOK wL_good (c_X5_findHere (t := (toldN S (1 + 2 * j))) C W.1 V) cO_at rfl vI_X5_findHere vM_X5_258 vV_X5_findHere vL_X5_findHere rfl dX5_read_45 rfl rfl (Nat.le_of_ble_eq_true rfl) ⟨(Nat.le_of_ble_eq_true rfl), (Nat.le_of_ble_eq_true rfl), (Nat.le_of_ble_eq_true rfl), (Nat.le_of_ble_eq_true rfl)⟩ (fun v h1 hq => ?_)
    obtain ⟨rfl, rfl⟩ := hq
    rcases here_cases S (toldN S (1 + 2 * j)) with ⟨hF, -⟩ | ⟨k, hfd, hF, -, hk⟩
    · rw [hF]
      have hj : scan S (j + 1) = scan S j := by show (match hereF S (toldN S (1 + 2 * j)) with | none => _ | some k => _) = _; rw [hF]
      have ih2 := ih (j + 1) (by omega)
      rw [hj] at ih2
      refine z_astore F dX5_read_48 rfl (Nat.le_of_ble_eq_true rfl) ?_
      refine z_aload F dX5_read_50 rfl rfl ?_
      refine z_ifnull (tgt := 81) F dX5_read_52 (by decide) rfl (fun c52 => ?_) (fun c52 => absurd rfl c52)
      refine z_iinc (w := 2) F dX5_read_81 rfl rfl (Nat.le_of_ble_eq_true rfl) ?_
      rw [show nI (2 * j) + 2 = nI (2 * (j + 1)) from nI_add (2 * j) 2]
      refine z_goto (tgt := 32) F dX5_read_84 (by decide) ?_
      refine z_pick (lv' := [(0, .ref 1), (1, .ref (qa w)), (2, .int (nI (sN S 38 - 1))), (3, .int (z_b (scan S j).1)), (4, .int (z_b (!(scan S j).2))), (5, .int (nI (2 * (j + 1))))]) [0, 1, 2, 3, 4, 5] rfl ?_
      exact ih2
    · rw [hF]
      have hj : scan S (j + 1) = (true, (scan S j).2 && decide (sAN S 12 k ≤ sN S 2)) := by show (match hereF S (toldN S (1 + 2 * j)) with | none => _ | some k => _) = _; rw [hF]
      have ih2 := ih (j + 1) (by omega)
      have hc := HPd (c := cfun S x) (m := m) (C.1.1 k hk)
      refine z_astore F dX5_read_48 rfl (Nat.le_of_ble_eq_true rfl) ?_
      refine z_aload F dX5_read_50 rfl rfl ?_
      refine z_ifnull (tgt := 81) F dX5_read_52 (by decide) rfl (fun c52 => absurd c52 (by intro q; cases q)) (fun c52 => ?_)
      refine z_iconst (v := 1) F dX5_read_55 rfl ?_
      refine z_istore_n F dX5_read_56 (Nat.le_of_ble_eq_true rfl) ?_
      refine z_iload F dX5_read_57 rfl ?_
      refine z_if_ne (tgt := 74) F dX5_read_59 (by decide) (fun c59 => ?_) (fun c59 => ?_)
      · have hb : (scan S j).2 = false := by have h9 := z_b1 c59; cases hz : (scan S j).2 with
        | false => rfl
        | true => rw [hz] at h9; cases h9
        refine z_iconst (v := 1) F dX5_read_74 rfl ?_
        refine z_goto (tgt := 79) F dX5_read_75 (by decide) ?_
        refine z_istore F dX5_read_79 (Nat.le_of_ble_eq_true rfl) ?_
        refine z_iinc (w := 2) F dX5_read_81 rfl rfl (Nat.le_of_ble_eq_true rfl) ?_
        rw [show nI (2 * j) + 2 = nI (2 * (j + 1)) from nI_add (2 * j) 2]
        refine z_goto (tgt := 32) F dX5_read_84 (by decide) ?_
        refine z_pick (lv' := [(0, .ref 1), (1, .ref (qa w)), (2, .int (nI (sN S 38 - 1))), (3, .int 1), (4, .int 1), (5, .int (nI (2 * (j + 1))))]) [0, 1, 2, 3, 4, 5] rfl ?_
        rw [hj, hb, Bool.false_and] at ih2
        exact ih2
      · have hb : (scan S j).2 = true := by have h9 := z_b0.mp c59; cases hz : (scan S j).2 with
        | true => rfl
        | false => rw [hz] at h9; cases h9
        refine z_aload F dX5_read_62 rfl rfl ?_
        refine z_getf F vF_X5_261 dX5_read_64 hc rfl ?_
        refine z_aload_n F dX5_read_67 rfl rfl ?_
        refine z_getf F vF_X5_38 dX5_read_68 cO_at rfl ?_
        refine z_icmp_le (tgt := 78) F dX5_read_71 (by decide) (fun c71 => ?_) (fun c71 => ?_)
        · have hl : decide (sAN S 12 k ≤ sN S 2) = true := decide_eq_true ((nI_leI (a := sAN S 12 k) (b := sN S 2) (by have := V.2.2.2.2 k; omega) (by have := V.2.1; omega)).mp c71)
          refine z_iconst (v := 0) F dX5_read_78 rfl ?_
          refine z_istore F dX5_read_79 (Nat.le_of_ble_eq_true rfl) ?_
          refine z_iinc (w := 2) F dX5_read_81 rfl rfl (Nat.le_of_ble_eq_true rfl) ?_
          rw [show nI (2 * j) + 2 = nI (2 * (j + 1)) from nI_add (2 * j) 2]
          refine z_goto (tgt := 32) F dX5_read_84 (by decide) ?_
          refine z_pick (lv' := [(0, .ref 1), (1, .ref (qa w)), (2, .int (nI (sN S 38 - 1))), (3, .int 1), (4, .int 0), (5, .int (nI (2 * (j + 1))))]) [0, 1, 2, 3, 4, 5] rfl ?_
          rw [hj, hb, hl] at ih2
          exact ih2
        · have hl : decide (sAN S 12 k ≤ sN S 2) = false := decide_eq_false (fun e => c71 ((nI_leI (a := sAN S 12 k) (b := sN S 2) (by have := V.2.2.2.2 k; omega) (by have := V.2.1; omega)).mpr e))
          refine z_iconst (v := 1) F dX5_read_74 rfl ?_
          refine z_goto (tgt := 79) F dX5_read_75 (by decide) ?_
          refine z_istore F dX5_read_79 (Nat.le_of_ble_eq_true rfl) ?_
          refine z_iinc (w := 2) F dX5_read_81 rfl rfl (Nat.le_of_ble_eq_true rfl) ?_
          rw [show nI (2 * j) + 2 = nI (2 * (j + 1)) from nI_add (2 * j) 2]
          refine z_goto (tgt := 32) F dX5_read_84 (by decide) ?_
          refine z_pick (lv' := [(0, .ref 1), (1, .ref (qa w)), (2, .int (nI (sN S 38 - 1))), (3, .int 1), (4, .int 1), (5, .int (nI (2 * (j + 1))))]) [0, 1, 2, 3, 4, 5] rfl ?_
          rw [hj, hb, hl] at ih2
          exact ih2

set_option maxRecDepth 100000 in
set_option maxHeartbeats 1000000 in
theorem c_X5_read {S : z_S} {x : z_Xc} {m : Nat → z_E} {d : z_H} {w : Bool} (C : CR S x d) (Q : QV w S x) (R : rowOK S) (W : idsOK S) (V : numsOK S) (U : trOK S) (Y : rtsOK S) (h0 : 0 < sN S 38) (hA : sN S 40 = 0) (hV : sAN S 39 0 = 34) : z_K yX5_read cX5_read 7 (some .int) 3 0 0 [.ref 1, .ref (qa w)] (HP (cfun S x) m d) (fun v h' => v = some (.int (nI (sv34 S).1)) ∧ ∃ (x' : z_Xc) (d' : z_H), h' = HP (cfun (sv34 S).2 x') m d' ∧ CR (sv34 S).2 x' d' ∧ KX x x') := by
  have hM := Q.2.1
  refine z_met vI_X5_read (Nat.le_of_ble_eq_true rfl) (fun G X F hr hnm => ?_)
  refine z_aload_n F dX5_read_0 rfl rfl ?_
  refine z_callV F z_nwOK wL_good (c_qsize Q) cQ.1 rfl vI_X2_size vM_X5_236 vV_X2_size vL_X2_size rfl dX5_read_1 rfl rfl (Nat.le_of_ble_eq_true rfl) ⟨(Nat.le_of_ble_eq_true rfl), (Nat.le_of_ble_eq_true rfl), (Nat.le_of_ble_eq_true rfl), (Nat.le_of_ble_eq_true rfl)⟩ (fun v h1 hq => ?_)
  obtain ⟨rfl, rfl⟩ := hq
  refine z_istore_n F dX5_read_4 (Nat.le_of_ble_eq_true rfl) ?_
  refine z_iload_n F dX5_read_5 rfl ?_
  refine z_iconst (v := 2) F dX5_read_6 rfl ?_
  refine z_bipush (v := 8) F dX5_read_7 rfl ?_
  refine z_callS F z_nwOK wL_good (c_within (A := 2) (B := 8) (nI (sN S 38 - 1)) 2 8 rfl rfl) vI_X5_isWithin vM_X5_79 vS_X5_isWithin rfl dX5_read_9 rfl rfl (Nat.le_of_ble_eq_true rfl) ⟨(Nat.le_of_ble_eq_true rfl), (Nat.le_of_ble_eq_true rfl), (Nat.le_of_ble_eq_true rfl), (Nat.le_of_ble_eq_true rfl)⟩ (fun v h1 hq => ?_)
  obtain ⟨rfl, rfl⟩ := hq
  refine z_if_eq (tgt := 21) F dX5_read_12 (by decide) (fun c12 => ?_) (fun c12 => ?_)
  · have hs : sv34 S = (19, S) := by unfold sv34; rw [if_pos (by have h9 := z_b0.mp c12; rw [nI_toInt (by omega)] at h9; unfold inZ at h9; simp at h9; omega)]
    refine z_bipush (v := 19) F dX5_read_21 rfl ?_
    exact z_iret F hr dX5_read_23 rfl (Nat.le_of_ble_eq_true rfl) (Nat.le_of_ble_eq_true rfl) (⟨by rw [hs]; try rfl, x, d, by rw [hs]; try rfl, by rw [hs]; exact C, rfl, rfl, rfl⟩)
  · have h2 : 2 ≤ sN S 38 - 1 ∧ sN S 38 - 1 ≤ 8 := by have h9 := z_b1 c12; rw [nI_toInt (by omega)] at h9; unfold inZ at h9; simp at h9; omega
    refine z_iload_n F dX5_read_15 rfl ?_
    refine z_iconst (v := 1) F dX5_read_16 rfl ?_
    refine z_iand F dX5_read_17 ?_
    refine z_if_eq (tgt := 24) F dX5_read_18 (by decide) (fun c18 => ?_) (fun c18 => ?_)
    · rw [pk_andN (n := sN S 38 - 1) (by omega) (m := 1) 1 (by decide)] at c18
      have hn : ¬ (sN S 38 - 1 < 2 ∨ 8 < sN S 38 - 1 ∨ (sN S 38 - 1) % 2 = 1) := by have h9 := (nI_eq (b := 0) (by omega) (by decide)).mp c18; omega
      refine z_iconst (v := 0) F dX5_read_24 rfl ?_
      refine z_istore_n F dX5_read_25 (Nat.le_of_ble_eq_true rfl) ?_
      refine z_iconst (v := 0) F dX5_read_26 rfl ?_
      refine z_istore F dX5_read_27 (Nat.le_of_ble_eq_true rfl) ?_
      refine z_iconst (v := 0) F dX5_read_29 rfl ?_
      refine z_istore F dX5_read_30 (Nat.le_of_ble_eq_true rfl) ?_
      refine z_pick (lv' := [(0, .ref 1), (1, .ref (qa w)), (2, .int (nI (sN S 38 - 1))), (3, .int 0), (4, .int 0), (5, .int 0)]) [0, 1, 2, 3, 4, 5] rfl ?_
      exact l_X5_read1 C Q R W V U Y h0 hA hV hn F hr ((sN S 38 - 1) / 2) 0 (by omega)
    · rw [pk_andN (n := sN S 38 - 1) (by omega) (m := 1) 1 (by decide)] at c18
      have hod : ¬ (sN S 38 - 1) % 2 = 0 := fun e => c18 (by rw [show (2 : Nat) ^ 1 = 2 from rfl, e]; rfl)
      have hs : sv34 S = (19, S) := by unfold sv34; rw [if_pos (Or.inr (Or.inr (by omega)))]
      refine z_bipush (v := 19) F dX5_read_21 rfl ?_
      exact z_iret F hr dX5_read_23 rfl (Nat.le_of_ble_eq_true rfl) (Nat.le_of_ble_eq_true rfl) (⟨by rw [hs]; try rfl, x, d, by rw [hs]; try rfl, by rw [hs]; exact C, rfl, rfl, rfl⟩)
