/-! reading several: the answer so far is a, how many and which -/
def sayA (a : Nat × (Nat → Nat)) (b : Nat) : Nat × (Nat → Nat) := (a.1 + 1, va_up a.2 a.1 (b % 256))
def withA (S : z_S) (a : Nat × (Nat → Nat)) : z_S := uN (uAN S 41 a.2) 40 a.1
theorem sayS_withA (S : z_S) (a : Nat × (Nat → Nat)) (b : Nat) : sayS (withA S a) b = withA S (sayA a b) := by
  unfold sayS withA sayA uN uAN
  simp only [sAN, sN]
  rw [show va_up (va_up S.1 40 a.1) 40 (va_up S.1 40 a.1 40 + 1) = va_up S.1 40 (a.1 + 1) from by rw [bx_uu, va_up_self]]
  rw [bx_uu, va_up_self]
  rfl
theorem withA_self (S : z_S) : withA S (sN S 40, sAN S 41) = S := by
  unfold withA
  rw [uAN_same]
  unfold uN
  rw [show va_up S.1 40 (sN S 40, sAN S 41).1 = S.1 from va_same _ _]
/-- of the first j told: is some here, may all that are here be read -/
def scan (S : z_S) : Nat → Bool × Bool
  | 0 => (false, true)
  | j + 1 => match hereF S (toldN S (1 + 2 * j)) with
    | none => scan S j
    | some k => (true, (scan S j).2 && decide (sAN S 12 k ≤ sN S 2))
def octA (S : z_S) (k : Nat) (a : Nat × (Nat → Nat)) : Nat → Nat × (Nat → Nat)
  | 0 => a
  | i + 1 => sayA (octA S k a i) (octS S k i)
def rdA (S : z_S) : Nat → Nat × (Nat → Nat)
  | 0 => sayA (sN S 40, sAN S 41) 98
  | j + 1 => match hereF S (toldN S (1 + 2 * j)) with
    | none => rdA S j
    | some k => octA S k (sayA (sayA (rdA S j) (sAN S 39 (1 + 2 * j))) (sAN S 39 (1 + 2 * j + 1))) (sAN S 10 k)
theorem octA_len (S : z_S) (k : Nat) (a : Nat × (Nat → Nat)) : ∀ i, (octA S k a i).1 = a.1 + i
  | 0 => rfl
  | i + 1 => by show (octA S k a i).1 + 1 = a.1 + (i + 1); rw [octA_len S k a i]; omega
theorem rdA_len {S : z_S} (W : idsOK S) : ∀ j, (rdA S j).1 ≤ sN S 40 + 1 + 10 * j
  | 0 => Nat.le_refl _
  | j + 1 => by
    have ih := rdA_len W j
    unfold rdA
    rcases here_cases S (toldN S (1 + 2 * j)) with ⟨hF, -⟩ | ⟨k, -, hF, -, hk⟩
    · rw [hF]
      show (rdA S j).1 ≤ _
      omega
    · rw [hF]
      show (octA S k _ (sAN S 10 k)).1 ≤ _
      rw [octA_len]
      have := (W.2 k hk).1
      show (rdA S j).1 + 1 + 1 + sAN S 10 k ≤ _
      omega
def sv34 (S : z_S) : Nat × z_S :=
  if (sN S 38 - 1 < 2 ∨ 8 < sN S 38 - 1 ∨ (sN S 38 - 1) % 2 = 1) then (19, S)
  else if (scan S ((sN S 38 - 1) / 2)).1 = false then (49, S)
  else if (scan S ((sN S 38 - 1) / 2)).2 = false then (51, S)
  else (0, withA S (rdA S ((sN S 38 - 1) / 2)))

set_option maxRecDepth 100000 in
set_option maxHeartbeats 1000000 in
theorem l_X6_read3 {c : Nat → z_E} {S : z_S} {o : Nat → Int64} {d : z_H} (R : rowOK S) (W : idsOK S) (V : numsOK S) (hM : sN S 38 ≤ 60) (hn : ¬ (sN S 38 - 1 < 2 ∨ 8 < sN S 38 - 1 ∨ (sN S 38 - 1) % 2 = 1)) {j k : Nat} {a : Nat × (Nat → Nat)} (hk : k < sN S 8) (ha : a.1 < 500) {G : z_G} {X : z_X} {Q' : Option Value → z_H → Prop} (F : z_F vwCl z_ats z_nw wsL_law G RX6 cX6_read 7 (z_rm 1 0 0) X) (kk : z_V vwCl G 7 X (z_end vwCl z_ats z_nw G X 0 0 Q') 0 0 206 [(0, .ref 11), (1, .int (nI (sN S 38 - 1))), (2, .int (z_b true)), (3, .int (z_b true)), (4, .int (nI (1 + 2 * j)))] [] (HP c (mfun (withA S (octA S k a (sAN S 10 k))) o) d)) :
    ∀ (m i : Nat), i + m = sAN S 10 k → z_V vwCl G 7 X (z_end vwCl z_ats z_nw G X 0 0 Q') 0 0 176 [(0, .ref 11), (1, .int (nI (sN S 38 - 1))), (2, .int (z_b true)), (3, .int (z_b true)), (4, .int (nI (1 + 2 * j))), (5, .int (nI k)), (6, .int (nI i))] [] (HP c (mfun (withA S (octA S k a i)) o) d) := by
  intro m
  induction m with
  | zero =>
    intro i hi
    have h40 := W.1
    have hl := (W.2 k hk).1
    obtain rfl : i = sAN S 10 k := by omega
    refine z_iload F dX6_read_176 rfl ?_
    refine z_aload_n F dX6_read_178 rfl rfl ?_
    refine z_getf F vF_X6_24 dX6_read_179 mO_at rfl ?_
    refine z_iload F dX6_read_182 rfl ?_
    refine z_iald (j := k) F dX6_read_184 mA_10 rfl rfl (show k < 40 by omega) (Nat.le_of_ble_eq_true rfl) ?_
    refine z_icmp_ge (tgt := 206) F dX6_read_185 (by decide) (fun c185 => ?_) (fun c185 => absurd (nI_le (Nat.le_refl (sAN S 10 k)) (by omega)) c185)
    exact z_pick [0, 1, 2, 3, 4] rfl kk
  | succ m ih =>
    intro i hi
    have h40 := W.1
    have hl := (W.2 k hk).1
    have hz := octA_len S k a i
    refine z_iload F dX6_read_176 rfl ?_
    refine z_aload_n F dX6_read_178 rfl rfl ?_
    refine z_getf F vF_X6_24 dX6_read_179 mO_at rfl ?_
    refine z_iload F dX6_read_182 rfl ?_
    refine z_iald (j := k) F dX6_read_184 mA_10 rfl rfl (show k < 40 by omega) (Nat.le_of_ble_eq_true rfl) ?_
    refine z_icmp_ge (tgt := 206) F dX6_read_185 (by decide) (fun c185 => absurd c185 (nI_ge (a := i) (b := sAN S 10 k) (by omega) (by omega))) (fun c185 => ?_)
    refine z_aload_n F dX6_read_188 rfl rfl ?_
    refine z_aload_n F dX6_read_189 rfl rfl ?_
    refine z_iload F dX6_read_190 rfl ?_
    refine z_iload F dX6_read_192 rfl ?_
    refine z_callV F z_nwOK wL_good (c_X6_octet (S := withA S (octA S k a i)) W hk (show i < sAN S 10 k by omega)) mO_at rfl vI_X6_octet vM_X6_120 vV_X6_octet vL_X6_octet rfl dX6_read_194 rfl rfl (Nat.le_of_ble_eq_true rfl) ⟨(Nat.le_of_ble_eq_true rfl), (Nat.le_of_ble_eq_true rfl), (Nat.le_of_ble_eq_true rfl), (Nat.le_of_ble_eq_true rfl)⟩ (fun v h1 hq => ?_)
    obtain ⟨rfl, rfl⟩ := hq
    refine z_callV F z_nwOK wL_good (c_X6_say (S := withA S (octA S k a i)) (b := octS S k i) (show (octA S k a i).1 < 1000 by omega) (Nat.lt_of_lt_of_le (show octS S k i < 256 from octV_lt _ _) (by decide))) mO_at rfl vI_X6_say vM_X6_131 vV_X6_say vL_X6_say rfl dX6_read_197 rfl rfl (Nat.le_of_ble_eq_true rfl) ⟨(Nat.le_of_ble_eq_true rfl), (Nat.le_of_ble_eq_true rfl), (Nat.le_of_ble_eq_true rfl), (Nat.le_of_ble_eq_true rfl)⟩ (fun v h1 hq => ?_)
    obtain ⟨rfl, rfl⟩ := hq
    refine z_iinc (w := 1) F dX6_read_200 rfl rfl (Nat.le_of_ble_eq_true rfl) ?_
    rw [nI_1]
    refine z_goto (tgt := 176) F dX6_read_203 (by decide) ?_
    refine z_heap _ (z_hS (sayS_withA S (octA S k a i) (octS S k i))) ?_
    exact ih (i + 1) (by omega)

set_option maxRecDepth 100000 in
set_option maxHeartbeats 1000000 in
theorem l_X6_read2 {c : Nat → z_E} {S : z_S} {o : Nat → Int64} {d : z_H} (R : rowOK S) (W : idsOK S) (V : numsOK S) (hM : sN S 38 ≤ 60) (hn : ¬ (sN S 38 - 1 < 2 ∨ 8 < sN S 38 - 1 ∨ (sN S 38 - 1) % 2 = 1)) (hA : sN S 40 = 0) (hs : sv34 S = (0, withA S (rdA S ((sN S 38 - 1) / 2)))) {G : z_G} {X : z_X} (F : z_F vwCl z_ats z_nw wsL_law G RX6 cX6_read 7 (z_rm 1 0 0) X) (hr : X.2.2.2.2.2.2.2.2.1.sig.returnType = some .int) :
    ∀ (m j : Nat), j + m = (sN S 38 - 1) / 2 → z_V vwCl G 7 X (z_end vwCl z_ats z_nw G X 0 0 (fun v h' => v = some (.int (nI (sv34 S).1)) ∧ h' = (HP c (mfun ((sv34 S).2) o) d))) 0 0 116 [(0, .ref 11), (1, .int (nI (sN S 38 - 1))), (2, .int (z_b true)), (3, .int (z_b true)), (4, .int (nI (1 + 2 * j)))] [] (HP c (mfun (withA S (rdA S j)) o) d) := by
  intro m
  induction m with
  | zero =>
    intro j hi
    have hz : j = (sN S 38 - 1) / 2 := by omega
    subst hz
    refine z_iload F dX6_read_116 rfl ?_
    refine z_aload_n F dX6_read_118 rfl rfl ?_
    refine z_getf F vF_X6_138 dX6_read_119 mO_at rfl ?_
    refine z_icmp_ge (tgt := 212) F dX6_read_122 (by decide) (fun c122 => ?_) (fun c122 => absurd (nI_le (a := sN S 38) (b := 1 + 2 * ((sN S 38 - 1) / 2)) (by omega) (by omega)) c122)
    refine z_iconst (v := 0) F dX6_read_212 rfl ?_
    exact z_iret F hr dX6_read_213 rfl (Nat.le_of_ble_eq_true rfl) (Nat.le_of_ble_eq_true rfl) (⟨by rw [hs]; try rfl, by rw [hs]; try rfl⟩)
  | succ m ih =>
    intro j hi
    refine z_iload F dX6_read_116 rfl ?_
    refine z_aload_n F dX6_read_118 rfl rfl ?_
    refine z_getf F vF_X6_138 dX6_read_119 mO_at rfl ?_
    refine z_icmp_ge (tgt := 212) F dX6_read_122 (by decide) (fun c122 => absurd c122 (nI_ge (a := 1 + 2 * j) (b := sN S 38) (by omega) (by omega))) (fun c122 => ?_)
    refine z_aload_n F dX6_read_125 rfl rfl ?_
    refine z_aload_n F dX6_read_126 rfl rfl ?_
    refine z_iload F dX6_read_127 rfl ?_
    refine z_callV F z_nwOK wL_good (c_X6_told (S := withA S (rdA S j)) (a := 1 + 2 * j) R (by omega)) mO_at rfl vI_X6_told vM_X6_156 vV_X6_told vL_X6_told rfl dX6_read_129 rfl rfl (Nat.le_of_ble_eq_true rfl) ⟨(Nat.le_of_ble_eq_true rfl), (Nat.le_of_ble_eq_true rfl), (Nat.le_of_ble_eq_true rfl), (Nat.le_of_ble_eq_true rfl)⟩ (fun v h1 hq => ?_)
    obtain ⟨rfl, rfl⟩ := hq
    refine z_callV F z_nwOK wL_good (c_X6_find (S := withA S (rdA S j)) W.1) mO_at rfl vI_X6_find vM_X6_99 vV_X6_find vL_X6_find rfl dX6_read_132 rfl rfl (Nat.le_of_ble_eq_true rfl) ⟨(Nat.le_of_ble_eq_true rfl), (Nat.le_of_ble_eq_true rfl), (Nat.le_of_ble_eq_true rfl), (Nat.le_of_ble_eq_true rfl)⟩ (fun v h1 hq => ?_)
    obtain ⟨rfl, rfl⟩ := hq
    refine z_istore F dX6_read_135 (Nat.le_of_ble_eq_true rfl) ?_
    refine z_aload_n F dX6_read_137 rfl rfl ?_
    refine z_iload F dX6_read_138 rfl ?_
    refine z_callV F z_nwOK wL_good (c_X6_isHere (S := withA S (rdA S j)) W V) mO_at rfl vI_X6_isHere vM_X6_180 vV_X6_isHere vL_X6_isHere rfl dX6_read_140 rfl rfl (Nat.le_of_ble_eq_true rfl) ⟨(Nat.le_of_ble_eq_true rfl), (Nat.le_of_ble_eq_true rfl), (Nat.le_of_ble_eq_true rfl), (Nat.le_of_ble_eq_true rfl)⟩ (fun v h1 hq => ?_)
    obtain ⟨rfl, rfl⟩ := hq
    rcases here_cases S (toldN S (1 + 2 * j)) with ⟨hF, h2⟩ | ⟨k, hr', hF, h2, hk⟩
    · have hz : rdA S (j + 1) = rdA S j := by show (match hereF S (toldN S (1 + 2 * j)) with | none => rdA S j | some k => _) = _; rw [hF]
      rw [show hereS (withA S (rdA S j)) (fnd (sAI (withA S (rdA S j)) 9) (nI (toldN (withA S (rdA S j)) (1 + 2 * j))) (sN (withA S (rdA S j)) 8)) = false from h2]
      refine z_if_ne (tgt := 149) F dX6_read_143 (by decide) (fun c143 => absurd rfl c143) (fun c143 => ?_)
      refine z_goto (tgt := 206) F dX6_read_146 (by decide) ?_
      refine z_iinc (w := 2) F dX6_read_206 rfl rfl (Nat.le_of_ble_eq_true rfl) ?_
      rw [show nI (1 + 2 * j) + 2 = nI (1 + 2 * (j + 1)) from nI_add (1 + 2 * j) 2]
      refine z_goto (tgt := 116) F dX6_read_209 (by decide) ?_
      refine z_pick [0, 1, 2, 3, 4] rfl ?_
      have he := ih (j + 1) (by omega)
      rw [hz] at he
      exact he
    · have h40 := W.1
      have hln := rdA_len W j
      have hz : rdA S (j + 1) = octA S k (sayA (sayA (rdA S j) (sAN S 39 (1 + 2 * j))) (sAN S 39 (1 + 2 * j + 1))) (sAN S 10 k) := by show (match hereF S (toldN S (1 + 2 * j)) with | none => rdA S j | some k => _) = _; rw [hF]
      rw [show fnd (sAI (withA S (rdA S j)) 9) (nI (toldN (withA S (rdA S j)) (1 + 2 * j))) (sN (withA S (rdA S j)) 8) = some k from hr', show hereS (withA S (rdA S j)) (some k) = true from h2]
      refine z_if_ne (tgt := 149) F dX6_read_143 (by decide) (fun c143 => ?_) (fun c143 => absurd c143 (by decide))
      refine z_aload_n F dX6_read_149 rfl rfl ?_
      refine z_aload_n F dX6_read_150 rfl rfl ?_
      refine z_getf F vF_X6_74 dX6_read_151 mO_at rfl ?_
      refine z_iload F dX6_read_154 rfl ?_
      refine z_iald (j := 1 + 2 * j) F dX6_read_156 mA_39 rfl rfl (show 1 + 2 * j < 60 by omega) (Nat.le_of_ble_eq_true rfl) ?_
      refine z_callV F z_nwOK wL_good (c_X6_say (S := withA S (rdA S j)) (b := sAN S 39 (1 + 2 * j)) (show (rdA S j).1 < 1000 by omega) (by have := R (1 + 2 * j); omega)) mO_at rfl vI_X6_say vM_X6_131 vV_X6_say vL_X6_say rfl dX6_read_157 rfl rfl (Nat.le_of_ble_eq_true rfl) ⟨(Nat.le_of_ble_eq_true rfl), (Nat.le_of_ble_eq_true rfl), (Nat.le_of_ble_eq_true rfl), (Nat.le_of_ble_eq_true rfl)⟩ (fun v h1 hq => ?_)
      obtain ⟨rfl, rfl⟩ := hq
      refine z_heap _ (z_hS (sayS_withA S (rdA S j) (sAN S 39 (1 + 2 * j)))) ?_
      refine z_aload_n F dX6_read_160 rfl rfl ?_
      refine z_aload_n F dX6_read_161 rfl rfl ?_
      refine z_getf F vF_X6_74 dX6_read_162 mO_at rfl ?_
      refine z_iload F dX6_read_165 rfl ?_
      refine z_iconst (v := 1) F dX6_read_167 rfl ?_
      refine z_iadd F dX6_read_168 ?_
      rw [nI_1]
      refine z_iald (j := 1 + 2 * j + 1) F dX6_read_169 mA_39 rfl rfl (show 1 + 2 * j + 1 < 60 by omega) (Nat.le_of_ble_eq_true rfl) ?_
      refine z_callV F z_nwOK wL_good (c_X6_say (S := withA S (sayA (rdA S j) (sAN S 39 (1 + 2 * j)))) (b := sAN S 39 (1 + 2 * j + 1)) (show (rdA S j).1 + 1 < 1000 by omega) (by have := R (1 + 2 * j + 1); omega)) mO_at rfl vI_X6_say vM_X6_131 vV_X6_say vL_X6_say rfl dX6_read_170 rfl rfl (Nat.le_of_ble_eq_true rfl) ⟨(Nat.le_of_ble_eq_true rfl), (Nat.le_of_ble_eq_true rfl), (Nat.le_of_ble_eq_true rfl), (Nat.le_of_ble_eq_true rfl)⟩ (fun v h1 hq => ?_)
      obtain ⟨rfl, rfl⟩ := hq
      refine z_heap _ (z_hS (sayS_withA S _ (sAN S 39 (1 + 2 * j + 1)))) ?_
      refine z_iconst (v := 0) F dX6_read_173 rfl ?_
      refine z_istore F dX6_read_174 (Nat.le_of_ble_eq_true rfl) ?_
      refine l_X6_read3 R W V hM hn hk (a := sayA (sayA (rdA S j) (sAN S 39 (1 + 2 * j))) (sAN S 39 (1 + 2 * j + 1))) (show (rdA S j).1 + 1 + 1 < 500 by omega) F ?_ (sAN S 10 k) 0 (by omega)
      rw [← hz]
      refine z_iinc (w := 2) F dX6_read_206 rfl rfl (Nat.le_of_ble_eq_true rfl) ?_
      rw [show nI (1 + 2 * j) + 2 = nI (1 + 2 * (j + 1)) from nI_add (1 + 2 * j) 2]
      refine z_goto (tgt := 116) F dX6_read_209 (by decide) ?_
      exact ih (j + 1) (by omega)

set_option maxRecDepth 100000 in
set_option maxHeartbeats 1000000 in
theorem l_X6_read1 {c : Nat → z_E} {S : z_S} {o : Nat → Int64} {d : z_H} (R : rowOK S) (W : idsOK S) (V : numsOK S) (hM : sN S 38 ≤ 60) (hn : ¬ (sN S 38 - 1 < 2 ∨ 8 < sN S 38 - 1 ∨ (sN S 38 - 1) % 2 = 1)) (hA : sN S 40 = 0) {G : z_G} {X : z_X} (F : z_F vwCl z_ats z_nw wsL_law G RX6 cX6_read 7 (z_rm 1 0 0) X) (hr : X.2.2.2.2.2.2.2.2.1.sig.returnType = some .int) :
    ∀ (m j : Nat), j + m = (sN S 38 - 1) / 2 → z_V vwCl G 7 X (z_end vwCl z_ats z_nw G X 0 0 (fun v h' => v = some (.int (nI (sv34 S).1)) ∧ h' = (HP c (mfun ((sv34 S).2) o) d))) 0 0 28 [(0, .ref 11), (1, .int (nI (sN S 38 - 1))), (2, .int (z_b (scan S j).1)), (3, .int (z_b (scan S j).2)), (4, .int (nI (1 + 2 * j)))] [] (HP c (mfun S o) d) := by
  intro m
  induction m with
  | zero =>
    intro j hi
    have hz : j = (sN S 38 - 1) / 2 := by omega
    subst hz
    refine z_iload F dX6_read_28 rfl ?_
    refine z_aload_n F dX6_read_30 rfl rfl ?_
    refine z_getf F vF_X6_138 dX6_read_31 mO_at rfl ?_
    refine z_icmp_ge (tgt := 93) F dX6_read_34 (by decide) (fun c34 => ?_) (fun c34 => absurd (nI_le (a := sN S 38) (b := 1 + 2 * ((sN S 38 - 1) / 2)) (by omega) (by omega)) c34)
    refine z_iload_n F dX6_read_93 rfl ?_
    refine z_if_ne (tgt := 100) F dX6_read_94 (by decide) (fun c94 => ?_) (fun c94 => ?_)
    · have e1 := z_b1 c94
      refine z_iload_n F dX6_read_100 rfl ?_
      refine z_if_ne (tgt := 107) F dX6_read_101 (by decide) (fun c101 => ?_) (fun c101 => ?_)
      · have e2 := z_b1 c101
        have hs : sv34 S = (0, withA S (rdA S ((sN S 38 - 1) / 2))) := by unfold sv34; rw [if_neg hn, if_neg (by rw [e1]; decide), if_neg (by rw [e2]; decide)]
        rw [e1, e2]
        refine z_aload_n F dX6_read_107 rfl rfl ?_
        refine z_bipush (v := 98) F dX6_read_108 rfl ?_
        refine z_callV F z_nwOK wL_good (c_X6_say (b := 98) (show sN S 40 < 1000 by omega) (by decide)) mO_at rfl vI_X6_say vM_X6_131 vV_X6_say vL_X6_say rfl dX6_read_110 rfl rfl (Nat.le_of_ble_eq_true rfl) ⟨(Nat.le_of_ble_eq_true rfl), (Nat.le_of_ble_eq_true rfl), (Nat.le_of_ble_eq_true rfl), (Nat.le_of_ble_eq_true rfl)⟩ (fun v h1 hq => ?_)
        obtain ⟨rfl, rfl⟩ := hq
        refine z_iconst (v := 1) F dX6_read_113 rfl ?_
        refine z_istore F dX6_read_114 (Nat.le_of_ble_eq_true rfl) ?_
        exact l_X6_read2 R W V hM hn hA hs F hr ((sN S 38 - 1) / 2) 0 (by omega)
      · have hs : sv34 S = (51, S) := by unfold sv34; rw [if_neg hn, if_neg (by rw [e1]; decide), if_pos (z_b0.mp c101)]
        refine z_bipush (v := 51) F dX6_read_104 rfl ?_
        exact z_iret F hr dX6_read_106 rfl (Nat.le_of_ble_eq_true rfl) (Nat.le_of_ble_eq_true rfl) (⟨by rw [hs]; try rfl, by rw [hs]; try rfl⟩)
    · have hs : sv34 S = (49, S) := by unfold sv34; rw [if_neg hn, if_pos (z_b0.mp c94)]
      refine z_bipush (v := 49) F dX6_read_97 rfl ?_
      exact z_iret F hr dX6_read_99 rfl (Nat.le_of_ble_eq_true rfl) (Nat.le_of_ble_eq_true rfl) (⟨by rw [hs]; try rfl, by rw [hs]; try rfl⟩)
  | succ m ih =>
    intro j hi
    refine z_iload F dX6_read_28 rfl ?_
    refine z_aload_n F dX6_read_30 rfl rfl ?_
    refine z_getf F vF_X6_138 dX6_read_31 mO_at rfl ?_
    refine z_icmp_ge (tgt := 93) F dX6_read_34 (by decide) (fun c34 => absurd c34 (nI_ge (a := 1 + 2 * j) (b := sN S 38) (by omega) (by omega))) (fun c34 => ?_)
    refine z_aload_n F dX6_read_37 rfl rfl ?_
    refine z_aload_n F dX6_read_38 rfl rfl ?_
    refine z_iload F dX6_read_39 rfl ?_
    refine z_callV F z_nwOK wL_good (c_X6_told (a := 1 + 2 * j) R (by omega)) mO_at rfl vI_X6_told vM_X6_156 vV_X6_told vL_X6_told rfl dX6_read_41 rfl rfl (Nat.le_of_ble_eq_true rfl) ⟨(Nat.le_of_ble_eq_true rfl), (Nat.le_of_ble_eq_true rfl), (Nat.le_of_ble_eq_true rfl), (Nat.le_of_ble_eq_true rfl)⟩ (fun v h1 hq => ?_)
    obtain ⟨rfl, rfl⟩ := hq
    refine z_callV F z_nwOK wL_good (c_X6_find W.1) mO_at rfl vI_X6_find vM_X6_99 vV_X6_find vL_X6_find rfl dX6_read_44 rfl rfl (Nat.le_of_ble_eq_true rfl) ⟨(Nat.le_of_ble_eq_true rfl), (Nat.le_of_ble_eq_true rfl), (Nat.le_of_ble_eq_true rfl), (Nat.le_of_ble_eq_true rfl)⟩ (fun v h1 hq => ?_)
    obtain ⟨rfl, rfl⟩ := hq
    refine z_istore F dX6_read_47 (Nat.le_of_ble_eq_true rfl) ?_
    refine z_aload_n F dX6_read_49 rfl rfl ?_
    refine z_iload F dX6_read_50 rfl ?_
    refine z_callV F z_nwOK wL_good (c_X6_isHere W V) mO_at rfl vI_X6_isHere vM_X6_180 vV_X6_isHere vL_X6_isHere rfl dX6_read_52 rfl rfl (Nat.le_of_ble_eq_true rfl) ⟨(Nat.le_of_ble_eq_true rfl), (Nat.le_of_ble_eq_true rfl), (Nat.le_of_ble_eq_true rfl), (Nat.le_of_ble_eq_true rfl)⟩ (fun v h1 hq => ?_)
    obtain ⟨rfl, rfl⟩ := hq
    rcases here_cases S (toldN S (1 + 2 * j)) with ⟨hF, h2⟩ | ⟨k, hr', hF, h2, hk⟩
    · have hz : scan S (j + 1) = scan S j := by show (match hereF S (toldN S (1 + 2 * j)) with | none => scan S j | some k => _) = _; rw [hF]
      rw [h2]
      refine z_if_ne (tgt := 61) F dX6_read_55 (by decide) (fun c55 => absurd rfl c55) (fun c55 => ?_)
      refine z_goto (tgt := 87) F dX6_read_58 (by decide) ?_
      refine z_iinc (w := 2) F dX6_read_87 rfl rfl (Nat.le_of_ble_eq_true rfl) ?_
      rw [show nI (1 + 2 * j) + 2 = nI (1 + 2 * (j + 1)) from nI_add (1 + 2 * j) 2]
      refine z_goto (tgt := 28) F dX6_read_90 (by decide) ?_
      refine z_pick [0, 1, 2, 3, 4] rfl ?_
      have he := ih (j + 1) (by omega)
      rw [hz] at he
      exact he
    · have h40 := W.1
      have hz : scan S (j + 1) = (true, (scan S j).2 && decide (sAN S 12 k ≤ sN S 2)) := by show (match hereF S (toldN S (1 + 2 * j)) with | none => scan S j | some k => _) = _; rw [hF]
      rw [hr', h2]
      refine z_if_ne (tgt := 61) F dX6_read_55 (by decide) (fun c55 => ?_) (fun c55 => absurd c55 (by decide))
      refine z_iconst (v := 1) F dX6_read_61 rfl ?_
      refine z_istore_n F dX6_read_62 (Nat.le_of_ble_eq_true rfl) ?_
      refine z_iload_n F dX6_read_63 rfl ?_
      refine z_if_eq (tgt := 85) F dX6_read_64 (by decide) (fun c64 => ?_) (fun c64 => ?_)
      · have hy : ((scan S j).2 && decide (sAN S 12 k ≤ sN S 2)) = false := by rw [z_b0.mp c64]; rfl
        refine z_iconst (v := 0) F dX6_read_85 rfl ?_
        refine z_istore_n F dX6_read_86 (Nat.le_of_ble_eq_true rfl) ?_
        refine z_iinc (w := 2) F dX6_read_87 rfl rfl (Nat.le_of_ble_eq_true rfl) ?_
        rw [show nI (1 + 2 * j) + 2 = nI (1 + 2 * (j + 1)) from nI_add (1 + 2 * j) 2]
        refine z_goto (tgt := 28) F dX6_read_90 (by decide) ?_
        refine z_pick [0, 1, 2, 3, 4] rfl ?_
        have he := ih (j + 1) (by omega)
        rw [hz, hy] at he
        exact he
      · have e2 := z_b1 c64
        refine z_aload_n F dX6_read_67 rfl rfl ?_
        refine z_getf F vF_X6_30 dX6_read_68 mO_at rfl ?_
        refine z_iload F dX6_read_71 rfl ?_
        refine z_iald (j := k) F dX6_read_73 mA_12 rfl rfl (show k < 40 by omega) (Nat.le_of_ble_eq_true rfl) ?_
        refine z_aload_n F dX6_read_74 rfl rfl ?_
        refine z_getf F vF_X6_112 dX6_read_75 mO_at rfl ?_
        refine z_icmp_gt (tgt := 85) F dX6_read_78 (by decide) (fun c78 => ?_) (fun c78 => ?_)
        · have hy : ((scan S j).2 && decide (sAN S 12 k ≤ sN S 2)) = false := by rw [decide_eq_false (by have := (nI_ltI (a := sN S 2) (b := sAN S 12 k) (by have := V.2.1; omega) (by have := V.2.2.2.2 k; omega)).mp c78; omega)]; simp
          refine z_iconst (v := 0) F dX6_read_85 rfl ?_
          refine z_istore_n F dX6_read_86 (Nat.le_of_ble_eq_true rfl) ?_
          refine z_iinc (w := 2) F dX6_read_87 rfl rfl (Nat.le_of_ble_eq_true rfl) ?_
          rw [show nI (1 + 2 * j) + 2 = nI (1 + 2 * (j + 1)) from nI_add (1 + 2 * j) 2]
          refine z_goto (tgt := 28) F dX6_read_90 (by decide) ?_
          refine z_pick [0, 1, 2, 3, 4] rfl ?_
          have he := ih (j + 1) (by omega)
          rw [hz, hy] at he
          exact he
        · have hy : ((scan S j).2 && decide (sAN S 12 k ≤ sN S 2)) = true := by rw [e2, decide_eq_true (by have := mt (nI_ltI (a := sN S 2) (b := sAN S 12 k) (by have := V.2.1; omega) (by have := V.2.2.2.2 k; omega)).mpr c78; omega)]; rfl
          refine z_iconst (v := 1) F dX6_read_81 rfl ?_
          refine z_goto (tgt := 86) F dX6_read_82 (by decide) ?_
          refine z_istore_n F dX6_read_86 (Nat.le_of_ble_eq_true rfl) ?_
          refine z_iinc (w := 2) F dX6_read_87 rfl rfl (Nat.le_of_ble_eq_true rfl) ?_
          rw [show nI (1 + 2 * j) + 2 = nI (1 + 2 * (j + 1)) from nI_add (1 + 2 * j) 2]
          refine z_goto (tgt := 28) F dX6_read_90 (by decide) ?_
          refine z_pick [0, 1, 2, 3, 4] rfl ?_
          have he := ih (j + 1) (by omega)
          rw [hz, hy] at he
          exact he

set_option maxRecDepth 100000 in
set_option maxHeartbeats 1000000 in
theorem c_X6_read {c : Nat → z_E} {S : z_S} {o : Nat → Int64} {d : z_H} (R : rowOK S) (W : idsOK S) (V : numsOK S) (hM : sN S 38 ≤ 60) (hM1 : 1 ≤ sN S 38) (hA : sN S 40 = 0) : z_K yX6_read cX6_read 7 (some .int) 1 0 0 [.ref 11, .int (nI (sN S 38 - 1))] (HP c (mfun S o) d) (fun v h' => v = some (.int (nI (sv34 S).1)) ∧ h' = (HP c (mfun ((sv34 S).2) o) d)) := by
  refine z_met vI_X6_read (Nat.le_of_ble_eq_true rfl) (fun G X F hr hnm => ?_)
  refine z_iload_n F dX6_read_0 rfl ?_
  refine z_iconst (v := 2) F dX6_read_1 rfl ?_
  refine z_icmp_lt (tgt := 18) F dX6_read_2 (by decide) (fun c2 => ?_) (fun c2 => ?_)
  · have hn : sN S 38 - 1 < 2 ∨ 8 < sN S 38 - 1 ∨ (sN S 38 - 1) % 2 = 1 := Or.inl ((nI_ltI (b := 2) (by omega) (by decide)).mp c2)
    have hs : sv34 S = (19, S) := if_pos hn
    refine z_bipush (v := 19) F dX6_read_18 rfl ?_
    exact z_iret F hr dX6_read_20 rfl (Nat.le_of_ble_eq_true rfl) (Nat.le_of_ble_eq_true rfl) (⟨by rw [hs]; try rfl, by rw [hs]; try rfl⟩)
  · have n1 := mt (nI_ltI (a := sN S 38 - 1) (b := 2) (by omega) (by decide)).mpr c2
    refine z_iload_n F dX6_read_5 rfl ?_
    refine z_bipush (v := 8) F dX6_read_6 rfl ?_
    refine z_icmp_gt (tgt := 18) F dX6_read_8 (by decide) (fun c8 => ?_) (fun c8 => ?_)
    · have hn : sN S 38 - 1 < 2 ∨ 8 < sN S 38 - 1 ∨ (sN S 38 - 1) % 2 = 1 := Or.inr (Or.inl ((nI_ltI (a := 8) (by decide) (by omega)).mp c8))
      have hs : sv34 S = (19, S) := if_pos hn
      refine z_bipush (v := 19) F dX6_read_18 rfl ?_
      exact z_iret F hr dX6_read_20 rfl (Nat.le_of_ble_eq_true rfl) (Nat.le_of_ble_eq_true rfl) (⟨by rw [hs]; try rfl, by rw [hs]; try rfl⟩)
    · have n2 := mt (nI_ltI (a := 8) (b := sN S 38 - 1) (by decide) (by omega)).mpr c8
      refine z_iload_n F dX6_read_11 rfl ?_
      refine z_iconst (v := 2) F dX6_read_12 rfl ?_
      refine z_irem F dX6_read_13 (by decide) ?_
      refine z_iconst (v := 1) F dX6_read_14 rfl ?_
      rw [show (2 : Int32) = nI 2 from rfl, pk_rem (a := sN S 38 - 1) (d := 2) (by omega) (by decide) (by decide)]
      refine z_icmp_ne (tgt := 21) F dX6_read_15 (by decide) (fun c15 => ?_) (fun c15 => ?_)
      · have n3 : ¬ (sN S 38 - 1) % 2 = 1 := fun e => c15 (by rw [e]; rfl)
        have hn : ¬ (sN S 38 - 1 < 2 ∨ 8 < sN S 38 - 1 ∨ (sN S 38 - 1) % 2 = 1) := by omega
        refine z_iconst (v := 0) F dX6_read_21 rfl ?_
        refine z_istore_n F dX6_read_22 (Nat.le_of_ble_eq_true rfl) ?_
        refine z_iconst (v := 1) F dX6_read_23 rfl ?_
        refine z_istore_n F dX6_read_24 (Nat.le_of_ble_eq_true rfl) ?_
        refine z_iconst (v := 1) F dX6_read_25 rfl ?_
        refine z_istore F dX6_read_26 (Nat.le_of_ble_eq_true rfl) ?_
        exact l_X6_read1 R W V hM hn hA F hr ((sN S 38 - 1) / 2) 0 (by omega)
      · have hn : sN S 38 - 1 < 2 ∨ 8 < sN S 38 - 1 ∨ (sN S 38 - 1) % 2 = 1 := Or.inr (Or.inr ((nI_eq (b := 1) (by omega) (by decide)).mp c15))
        have hs : sv34 S = (19, S) := if_pos hn
        refine z_bipush (v := 19) F dX6_read_18 rfl ?_
        exact z_iret F hr dX6_read_20 rfl (Nat.le_of_ble_eq_true rfl) (Nat.le_of_ble_eq_true rfl) (⟨by rw [hs]; try rfl, by rw [hs]; try rfl⟩)
