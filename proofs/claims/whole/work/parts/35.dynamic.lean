def ptF (g : Nat → Nat) (b f i k : Nat) : Nat := if (b ≤ k ∧ k < b + i) then f else g k
def ptA (g : Nat → Nat) (b i k : Nat) : Nat := if (b ≤ k ∧ k < b + i) then k - b else g k
theorem ptF_step (g : Nat → Nat) (b f i : Nat) : va_up (ptF g b f i) (b + i) f = ptF g b f (i + 1) := by
  funext k
  unfold va_up ptF
  by_cases h : k = b + i
  · subst h; simp
  · by_cases h2 : b ≤ k ∧ k < b + i
    · have h3 : b ≤ k ∧ k < b + (i + 1) := by omega
      simp [h, h2, h3]
    · have h3 : ¬ (b ≤ k ∧ k < b + (i + 1)) := by omega
      simp only [if_neg h, if_neg h2, if_neg h3]
theorem ptA_step (g : Nat → Nat) (b i : Nat) : va_up (ptA g b i) (b + i) i = ptA g b (i + 1) := by
  funext k
  unfold va_up ptA
  by_cases h : k = b + i
  · subst h; simp
  · by_cases h2 : b ≤ k ∧ k < b + i
    · have h3 : b ≤ k ∧ k < b + (i + 1) := by omega
      simp [h, h2, h3]
    · have h3 : ¬ (b ≤ k ∧ k < b + (i + 1)) := by omega
      simp only [if_neg h, if_neg h2, if_neg h3]
def dpS (D : z_S) (b f i : Nat) : z_S := uAN (uAN D 18 (ptF (sAN D 18) b f i)) 19 (ptA (sAN D 19) b i)
theorem dpS_0 (D : z_S) (b f : Nat) : dpS D b f 0 = D := by
  unfold dpS
  rw [show ptF (sAN D 18) b f 0 = sAN D 18 from by funext k; unfold ptF; rw [if_neg (by omega)], show ptA (sAN D 19) b 0 = sAN D 19 from by funext k; unfold ptA; rw [if_neg (by omega)], uAN_same]
  exact uAN_same D 19
theorem dpS_step (D : z_S) (b f i : Nat) : uAN (uAN (dpS D b f i) 18 (va_up (ptF (sAN D 18) b f i) (b + i) f)) 19 (va_up (ptA (sAN D 19) b i) (b + i) i) = dpS D b f (i + 1) := by
  rw [ptF_step, ptA_step]
  unfold dpS uAN
  show (_, _, _, va_up (va_up (va_up (va_up D.2.2.2.1 18 _) 19 _) 18 _) 19 _, _) = (_, _, _, va_up (va_up D.2.2.2.1 18 _) 19 _, _)
  rw [show va_up (va_up (va_up (va_up D.2.2.2.1 18 (ptF (sAN D 18) b f i)) 19 (ptA (sAN D 19) b i)) 18 (ptF (sAN D 18) b f (i + 1))) 19 (ptA (sAN D 19) b (i + 1)) = va_up (va_up D.2.2.2.1 18 (ptF (sAN D 18) b f (i + 1))) 19 (ptA (sAN D 19) b (i + 1)) from by
    funext j
    unfold va_up
    by_cases h1 : j = 19
    · simp [h1]
    · by_cases h2 : j = 18 <;> simp [h1, h2]]
/-- the new parts, and the length with them -/
def dyS (D : z_S) (e has f n : Nat) : z_S := uAN (dpS D (8 * e + has) f n) 10 (va_up (sAN D 10) e (has + n))
def sp_dynamic (S : z_S) (id fr n : Int32) : Int32 × z_S :=
  match fnd (sAI S 9) fr (sN S 8) with
  | none => (-1, uN S 0 0)
  | some f => if (inZ id.toInt 0 65535 && inZ n.toInt 1 (sAN S 10 f)) = true then
      (match fnd (sAI S 9) id (sN S 8) with
      | none => if sAB S 17 f = true then (-3, uN S 0 0) else if sN S 8 = 40 then (-4, uN S 0 0)
          else (nI (0 + tn n), dyS (uAB (s_add (uN S 0 0) id 0 1 0) 17 (va_up (sAB (s_add (uN S 0 0) id 0 1 0) 17) (sN (uN S 0 0) 8) true)) (sN (uN S 0 0) 8) 0 f (tn n))
      | some e => if (sAB S 17 f = true ∨ sAB S 17 e = false) then (-3, uN S 0 0) else if 8 < sAN S 10 e + tn n then (-4, uN S 0 0)
          else (nI (sAN S 10 e + tn n), dyS (uN S 0 0) e (sAN S 10 e) f (tn n)))
    else (-2, uN S 0 0)

set_option maxRecDepth 100000 in
set_option maxHeartbeats 1000000 in
theorem l_X6_dyn {c : Nat → z_E} {o : Nat → Int64} {d : z_H} {D : z_S} {e has f n : Nat} {id fr : Int32} {Q' : Option Value → z_H → Prop} (he : e < 40) (hh : has + n ≤ 8) (hq : Q' (some (.int (nI (has + n)))) (HP c (mfun (dyS D e has f n) o) d)) {G : z_G} {X : z_X} (F : z_F vwCl z_ats z_nw wsL_law G RX6 cX6_dynamic 8 (z_rm 1 0 0) X) (hr : X.2.2.2.2.2.2.2.2.1.sig.returnType = some .int) :
    ∀ (m i : Nat), i + m = n → z_V vwCl G 8 X (z_end vwCl z_ats z_nw G X 0 0 Q') 0 0 162 [(0, .ref 11), (1, .int id), (2, .int fr), (3, .int (nI n)), (4, .int (nI f)), (5, .int (nI e)), (6, .int (nI has)), (7, .int (nI i))] [] (HP c (mfun (dpS D (8 * e + has) f i) o) d) := by
  intro m
  induction m with
  | zero =>
    intro i hi
    obtain rfl : i = n := by omega
    refine z_iload F dX6_dynamic_162 rfl ?_
    refine z_iload_n F dX6_dynamic_164 rfl ?_
    refine z_icmp_ge (tgt := 210) F dX6_dynamic_165 (by decide) (fun c165 => ?_) (fun c165 => absurd (nI_le (Nat.le_refl i) (by omega)) c165)
    refine z_aload_n F dX6_dynamic_210 rfl rfl ?_
    refine z_getf F vF_X6_24 dX6_dynamic_211 mO_at rfl ?_
    refine z_iload F dX6_dynamic_214 rfl ?_
    refine z_iload F dX6_dynamic_216 rfl ?_
    refine z_iload_n F dX6_dynamic_218 rfl ?_
    refine z_iadd F dX6_dynamic_219 ?_
    rw [nI_add]
    refine z_iast (j := e) F dX6_dynamic_220 mA_10 rfl rfl (show e < 40 by omega) (Nat.le_of_ble_eq_true rfl) ?_
    refine z_heap _ (ma_10) ?_
    refine z_aload_n F dX6_dynamic_221 rfl rfl ?_
    refine z_getf F vF_X6_24 dX6_dynamic_222 mO_at rfl ?_
    refine z_iload F dX6_dynamic_225 rfl ?_
    refine z_iald (j := e) F dX6_dynamic_227 mA_10 rfl rfl (show e < 40 by omega) (Nat.le_of_ble_eq_true rfl) ?_
    refine z_topi (nI (has + i)) (congrArg nI (show va_up (sAN D 10) e (has + i) e = has + i from va_up_self _ _ _)) ?_
    exact z_iret F hr dX6_dynamic_228 rfl (Nat.le_of_ble_eq_true rfl) (Nat.le_of_ble_eq_true rfl) (hq)
  | succ m ih =>
    intro i hi
    refine z_iload F dX6_dynamic_162 rfl ?_
    refine z_iload_n F dX6_dynamic_164 rfl ?_
    refine z_icmp_ge (tgt := 210) F dX6_dynamic_165 (by decide) (fun c165 => absurd c165 (nI_ge (show i < n by omega) (by omega))) (fun c165 => ?_)
    refine z_aload_n F dX6_dynamic_168 rfl rfl ?_
    refine z_getf F vF_X6_50 dX6_dynamic_169 mO_at rfl ?_
    refine z_bipush (v := 8) F dX6_dynamic_172 rfl ?_
    refine z_iload F dX6_dynamic_174 rfl ?_
    refine z_imul F dX6_dynamic_176 ?_
    refine z_iload F dX6_dynamic_177 rfl ?_
    refine z_iadd F dX6_dynamic_179 ?_
    refine z_iload F dX6_dynamic_180 rfl ?_
    refine z_iadd F dX6_dynamic_182 ?_
    rw [show (8 : Int32) * nI e + nI has + nI i = nI (8 * e + has + i) from by rw [show (8 : Int32) = nI 8 from rfl, pk_mul, nI_add, nI_add]]
    refine z_iload F dX6_dynamic_183 rfl ?_
    refine z_iast (j := 8 * e + has + i) F dX6_dynamic_185 mA_18 rfl rfl (show 8 * e + has + i < 320 by omega) (Nat.le_of_ble_eq_true rfl) ?_
    refine z_heap _ (ma_18) ?_
    refine z_aload_n F dX6_dynamic_186 rfl rfl ?_
    refine z_getf F vF_X6_53 dX6_dynamic_187 mO_at rfl ?_
    refine z_bipush (v := 8) F dX6_dynamic_190 rfl ?_
    refine z_iload F dX6_dynamic_192 rfl ?_
    refine z_imul F dX6_dynamic_194 ?_
    refine z_iload F dX6_dynamic_195 rfl ?_
    refine z_iadd F dX6_dynamic_197 ?_
    refine z_iload F dX6_dynamic_198 rfl ?_
    refine z_iadd F dX6_dynamic_200 ?_
    rw [show (8 : Int32) * nI e + nI has + nI i = nI (8 * e + has + i) from by rw [show (8 : Int32) = nI 8 from rfl, pk_mul, nI_add, nI_add]]
    refine z_iload F dX6_dynamic_201 rfl ?_
    refine z_iast (j := 8 * e + has + i) F dX6_dynamic_203 mA_19 rfl rfl (show 8 * e + has + i < 320 by omega) (Nat.le_of_ble_eq_true rfl) ?_
    refine z_heap _ (ma_19) ?_
    refine z_iinc (w := 1) F dX6_dynamic_204 rfl rfl (Nat.le_of_ble_eq_true rfl) ?_
    rw [nI_1]
    refine z_goto (tgt := 162) F dX6_dynamic_207 (by decide) ?_
    refine z_heap _ (z_hS (S2 := dpS D (8 * e + has) f (i + 1)) (dpS_step D (8 * e + has) f i)) ?_
    exact ih (i + 1) (by omega)

set_option maxRecDepth 100000 in
set_option maxHeartbeats 1000000 in
theorem c_X6_dynamic {c : Nat → z_E} {S : z_S} {o : Nat → Int64} {d : z_H} (id fr n : Int32) (W : idsOK S) : z_K yX6_dynamic cX6_dynamic 8 (some .int) 1 0 0 [.ref 11, .int id, .int fr, .int n] (HP c (mfun S o) d) (fun v h' => v = some (.int (sp_dynamic S id fr n).1) ∧ h' = (HP c (mfun ((sp_dynamic S id fr n).2) o) d)) := by
  refine z_met vI_X6_dynamic (Nat.le_of_ble_eq_true rfl) (fun G X F hr hnm => ?_)
  refine z_aload_n F dX6_dynamic_0 rfl rfl ?_
  refine z_iconst (v := 0) F dX6_dynamic_1 rfl ?_
  refine z_putf F vF_X6_83 vT_X6 vD_X6_0 dX6_dynamic_2 mO_at (Nat.le_of_ble_eq_true rfl) rfl rfl (fun g2 => ?_)
  refine z_heap _ (ms_0 (v := 0)) ?_
  refine z_aload_n F dX6_dynamic_5 rfl rfl ?_
  refine z_iload_n F dX6_dynamic_6 rfl ?_
  refine z_callV F z_nwOK wL_good (c_X6_find (S := uN S 0 0) (x := fr) W.1) mO_at rfl vI_X6_find vM_X6_99 vV_X6_find vL_X6_find rfl dX6_dynamic_7 rfl rfl (Nat.le_of_ble_eq_true rfl) ⟨(Nat.le_of_ble_eq_true rfl), (Nat.le_of_ble_eq_true rfl), (Nat.le_of_ble_eq_true rfl), (Nat.le_of_ble_eq_true rfl)⟩ (fun v h1 hq => ?_)
  obtain ⟨rfl, rfl⟩ := hq
  cases hf : fnd (sAI S 9) fr (sN S 8) with
  | none =>
    rw [show fnd (sAI (uN S 0 0) 9) fr (sN (uN S 0 0) 8) = none from hf]
    have hs : sp_dynamic S id fr n = (-1, uN S 0 0) := by unfold sp_dynamic; rw [hf]
    refine z_istore F dX6_dynamic_10 (Nat.le_of_ble_eq_true rfl) ?_
    refine z_iload F dX6_dynamic_12 rfl ?_
    refine z_if_ge (tgt := 19) F dX6_dynamic_14 (by decide) (fun c14 => absurd c14 (by decide)) (fun c14 => ?_)
    refine z_iconst (v := (-1)) F dX6_dynamic_17 rfl ?_
    exact z_iret F hr dX6_dynamic_18 rfl (Nat.le_of_ble_eq_true rfl) (Nat.le_of_ble_eq_true rfl) (⟨by rw [hs]; try rfl, by rw [hs]; try rfl⟩)
  | some f =>
    rw [show fnd (sAI (uN S 0 0) 9) fr (sN (uN S 0 0) 8) = some f from hf]
    have hfl := fnd_lt hf
    have h40 := W.1
    have hlf := (W.2 f hfl).1
    refine z_istore F dX6_dynamic_10 (Nat.le_of_ble_eq_true rfl) ?_
    refine z_pick (lv' := [(0, .ref 11), (1, .int id), (2, .int fr), (3, .int n), (4, .int (nI f))]) [0, 1, 2, 3, 4] rfl ?_
    refine z_iload F dX6_dynamic_12 rfl ?_
    refine z_if_ge (tgt := 19) F dX6_dynamic_14 (by decide) (fun c14 => ?_) (fun c14 => absurd (nI_pos' (by omega)) c14)
    refine z_iload_n F dX6_dynamic_19 rfl ?_
    refine z_i2l F dX6_dynamic_20 ?_
    refine z_lconst (v := 0) F dX6_dynamic_21 rfl ?_
    refine z_ldc2 F vK_X6_89 dX6_dynamic_22 ?_
    refine z_callS F z_nwOK wL_good (c_isIn32 (A := 0) (B := 65535) id 0 65535 rfl rfl) vI_X6_isIn vM_X6_91 vS_X6_isIn rfl dX6_dynamic_25 rfl rfl (Nat.le_of_ble_eq_true rfl) ⟨(Nat.le_of_ble_eq_true rfl), (Nat.le_of_ble_eq_true rfl), (Nat.le_of_ble_eq_true rfl), (Nat.le_of_ble_eq_true rfl)⟩ (fun v h1 hq => ?_)
    obtain ⟨rfl, rfl⟩ := hq
    refine z_if_eq (tgt := 48) F dX6_dynamic_28 (by decide) (fun c28 => ?_) (fun c28 => ?_)
    · have hs : sp_dynamic S id fr n = (-2, uN S 0 0) := by unfold sp_dynamic; rw [hf]; exact if_neg (by rw [show inZ id.toInt 0 65535 = false from z_b0.mp c28]; simp)
      refine z_bipush (v := (-2)) F dX6_dynamic_48 rfl ?_
      exact z_iret F hr dX6_dynamic_50 rfl (Nat.le_of_ble_eq_true rfl) (Nat.le_of_ble_eq_true rfl) (⟨by rw [hs]; try rfl, by rw [hs]; try rfl⟩)
    · have hA := z_b1 c28
      refine z_iload_n F dX6_dynamic_31 rfl ?_
      refine z_i2l F dX6_dynamic_32 ?_
      refine z_lconst (v := 1) F dX6_dynamic_33 rfl ?_
      refine z_aload_n F dX6_dynamic_34 rfl rfl ?_
      refine z_getf F vF_X6_24 dX6_dynamic_35 mO_at rfl ?_
      refine z_iload F dX6_dynamic_38 rfl ?_
      refine z_iald (j := f) F dX6_dynamic_40 mA_10 rfl rfl (show f < 40 by omega) (Nat.le_of_ble_eq_true rfl) ?_
      refine z_i2l F dX6_dynamic_41 ?_
      refine z_callS F z_nwOK wL_good (c_isIn32 (A := 1) (B := sAN S 10 f) n 1 (nI (sAN S 10 f)).toInt64 rfl (by rw [Int32.toInt_toInt64, nI_toInt (by omega)])) vI_X6_isIn vM_X6_91 vS_X6_isIn rfl dX6_dynamic_42 rfl rfl (Nat.le_of_ble_eq_true rfl) ⟨(Nat.le_of_ble_eq_true rfl), (Nat.le_of_ble_eq_true rfl), (Nat.le_of_ble_eq_true rfl), (Nat.le_of_ble_eq_true rfl)⟩ (fun v h1 hq => ?_)
      obtain ⟨rfl, rfl⟩ := hq
      refine z_if_ne (tgt := 51) F dX6_dynamic_45 (by decide) (fun c45 => ?_) (fun c45 => ?_)
      · have hB : inZ n.toInt 1 (sAN S 10 f) = true := z_b1 c45
        have hR : (inZ id.toInt 0 65535 && inZ n.toInt 1 (sAN S 10 f)) = true := by rw [hA, hB]; rfl
        obtain ⟨jn, hn1, hn2, rfl⟩ := inZ_ex (a := 1) (b := sAN S 10 f) hB
        refine z_aload_n F dX6_dynamic_51 rfl rfl ?_
        refine z_iload_n F dX6_dynamic_52 rfl ?_
        refine z_callV F z_nwOK wL_good (c_X6_find (S := uN S 0 0) (x := id) W.1) mO_at rfl vI_X6_find vM_X6_99 vV_X6_find vL_X6_find rfl dX6_dynamic_53 rfl rfl (Nat.le_of_ble_eq_true rfl) ⟨(Nat.le_of_ble_eq_true rfl), (Nat.le_of_ble_eq_true rfl), (Nat.le_of_ble_eq_true rfl), (Nat.le_of_ble_eq_true rfl)⟩ (fun v h1 hq => ?_)
        obtain ⟨rfl, rfl⟩ := hq
        cases he : fnd (sAI S 9) id (sN S 8) with
        | none =>
          rw [show fnd (sAI (uN S 0 0) 9) id (sN (uN S 0 0) 8) = none from he]
          refine z_istore F dX6_dynamic_56 (Nat.le_of_ble_eq_true rfl) ?_
          refine z_pick (lv' := [(0, .ref 11), (1, .int id), (2, .int fr), (3, .int (nI jn)), (4, .int (nI f)), (5, .int (-1))]) [0, 1, 2, 3, 4, 5] rfl ?_
          refine z_iload F dX6_dynamic_58 rfl ?_
          refine z_if_lt (tgt := 73) F dX6_dynamic_60 (by decide) (fun c60 => ?_) (fun c60 => absurd (by decide) c60)
          refine z_aload_n F dX6_dynamic_73 rfl rfl ?_
          refine z_getf F vF_X6_47 dX6_dynamic_74 mO_at rfl ?_
          refine z_iload F dX6_dynamic_77 rfl ?_
          refine z_zald (j := f) F dX6_dynamic_79 mA_17 rfl rfl (show f < 40 by omega) (Nat.le_of_ble_eq_true rfl) ?_
          refine z_if_eq (tgt := 86) F dX6_dynamic_80 (by decide) (fun c80 => ?_) (fun c80 => ?_)
          · have hj : ¬ sAB S 17 f = true := by rw [show sAB S 17 f = false from z_b0.mp c80]; decide
            refine z_iload F dX6_dynamic_86 rfl ?_
            refine z_if_ge (tgt := 95) F dX6_dynamic_88 (by decide) (fun c88 => absurd c88 (by decide)) (fun c88 => ?_)
            refine z_iconst (v := 0) F dX6_dynamic_91 rfl ?_
            refine z_goto (tgt := 102) F dX6_dynamic_92 (by decide) ?_
            refine z_istore F dX6_dynamic_102 (Nat.le_of_ble_eq_true rfl) ?_
            refine z_pick (lv' := [(0, .ref 11), (1, .int id), (2, .int fr), (3, .int (nI jn)), (4, .int (nI f)), (5, .int (-1)), (6, .int 0)]) [0, 1, 2, 3, 4, 5, 6] rfl ?_
            refine z_iload F dX6_dynamic_104 rfl ?_
            refine z_iload_n F dX6_dynamic_106 rfl ?_
            refine z_iadd F dX6_dynamic_107 ?_
            refine z_topi (nI (0 + jn)) (nI_add 0 jn) ?_
            refine z_bipush (v := 8) F dX6_dynamic_108 rfl ?_
            refine z_icmp_gt (tgt := 127) F dX6_dynamic_110 (by decide) (fun c110 => absurd c110 (show ¬ nI 8 < nI (0 + jn) from nI_nlt (by omega) (by omega))) (fun c110 => ?_)
            refine z_iload F dX6_dynamic_113 rfl ?_
            refine z_if_ge (tgt := 130) F dX6_dynamic_115 (by decide) (fun c115 => absurd c115 (by decide)) (fun c115 => ?_)
            refine z_aload_n F dX6_dynamic_118 rfl rfl ?_
            refine z_getf F vF_X6_86 dX6_dynamic_119 mO_at rfl ?_
            refine z_bipush (v := 40) F dX6_dynamic_122 rfl ?_
            refine z_icmp_ne (tgt := 130) F dX6_dynamic_124 (by decide) (fun c124 => ?_) (fun c124 => ?_)
            · have e40 : ¬ sN S 8 = 40 := fun e => c124 (by show nI (sN S 8) = 40; rw [e]; rfl)
              have hs : sp_dynamic S id fr (nI jn) = (nI (0 + jn), dyS (uAB (s_add (uN S 0 0) id 0 1 0) 17 (va_up (sAB (s_add (uN S 0 0) id 0 1 0) 17) (sN (uN S 0 0) 8) true)) (sN (uN S 0 0) 8) 0 f jn) := by unfold sp_dynamic; rw [hf]; show (if _ then _ else _) = _; rw [if_pos hR, he]; show (if _ then _ else if _ then _ else _) = _; rw [if_neg hj, if_neg e40, tn_nI (by omega)]
              refine z_iload F dX6_dynamic_130 rfl ?_
              refine z_if_ge (tgt := 159) F dX6_dynamic_132 (by decide) (fun c132 => absurd c132 (by decide)) (fun c132 => ?_)
              refine z_aload_n F dX6_dynamic_135 rfl rfl ?_
              refine z_getf F vF_X6_86 dX6_dynamic_136 mO_at rfl ?_
              refine z_istore F dX6_dynamic_139 (Nat.le_of_ble_eq_true rfl) ?_
              refine z_pick (lv' := [(0, .ref 11), (1, .int id), (2, .int fr), (3, .int (nI jn)), (4, .int (nI f)), (5, .int (nI (sN (uN S 0 0) 8))), (6, .int 0)]) [0, 1, 2, 3, 4, 5, 6] rfl ?_
              refine z_aload_n F dX6_dynamic_141 rfl rfl ?_
              refine z_iload_n F dX6_dynamic_142 rfl ?_
              refine z_iconst (v := 0) F dX6_dynamic_143 rfl ?_
              refine z_iconst (v := 1) F dX6_dynamic_144 rfl ?_
              refine z_iconst (v := 0) F dX6_dynamic_145 rfl ?_
              refine z_callV F z_nwOK wL_good (c_X6_add (S := uN S 0 0) (id := id) (n := 0) (s := 1) (l := 0) (show sN S 8 < 40 by omega)) mO_at rfl vI_X6_add vM_X6_103 vV_X6_add vL_X6_add rfl dX6_dynamic_146 rfl rfl (Nat.le_of_ble_eq_true rfl) ⟨(Nat.le_of_ble_eq_true rfl), (Nat.le_of_ble_eq_true rfl), (Nat.le_of_ble_eq_true rfl), (Nat.le_of_ble_eq_true rfl)⟩ (fun v h1 hq => ?_)
              obtain ⟨rfl, rfl⟩ := hq
              refine z_istore F dX6_dynamic_149 (Nat.le_of_ble_eq_true rfl) ?_
              refine z_pick (lv' := [(0, .ref 11), (1, .int id), (2, .int fr), (3, .int (nI jn)), (4, .int (nI f)), (5, .int (nI (sN (uN S 0 0) 8))), (6, .int 0)]) [0, 1, 2, 3, 4, 5, 6] rfl ?_
              refine z_aload_n F dX6_dynamic_151 rfl rfl ?_
              refine z_getf F vF_X6_47 dX6_dynamic_152 mO_at rfl ?_
              refine z_iload F dX6_dynamic_155 rfl ?_
              refine z_iconst (v := 1) F dX6_dynamic_157 rfl ?_
              refine z_zast (j := sN S 8) F dX6_dynamic_158 mA_17 rfl rfl (show sN S 8 < 40 by omega) (Nat.le_of_ble_eq_true rfl) ?_
              refine z_heap _ (ma_17 (v := true)) ?_
              refine z_iconst (v := 0) F dX6_dynamic_159 rfl ?_
              refine z_istore F dX6_dynamic_160 (Nat.le_of_ble_eq_true rfl) ?_
              refine z_heap _ (z_hS (S2 := dpS (uAB (s_add (uN S 0 0) id 0 1 0) 17 (va_up (sAB (s_add (uN S 0 0) id 0 1 0) 17) (sN (uN S 0 0) 8) true)) (8 * (sN (uN S 0 0) 8) + 0) f 0) (dpS_0 _ _ _).symm) ?_
              refine z_pick (lv' := [(0, .ref 11), (1, .int id), (2, .int fr), (3, .int (nI jn)), (4, .int (nI f)), (5, .int (nI (sN (uN S 0 0) 8))), (6, .int (nI 0)), (7, .int (nI 0))]) [0, 1, 2, 3, 4, 5, 6, 7] rfl ?_
              have hq1 : some (Value.int (nI (0 + jn))) = some (Value.int (sp_dynamic S id fr (nI jn)).1) := by rw [hs]
              have hq2 : HP c (mfun (dyS (uAB (s_add (uN S 0 0) id 0 1 0) 17 (va_up (sAB (s_add (uN S 0 0) id 0 1 0) 17) (sN (uN S 0 0) 8) true)) (sN (uN S 0 0) 8) 0 f jn) o) d = HP c (mfun (sp_dynamic S id fr (nI jn)).2 o) d := by rw [hs]
              exact l_X6_dyn (D := uAB (s_add (uN S 0 0) id 0 1 0) 17 (va_up (sAB (s_add (uN S 0 0) id 0 1 0) 17) (sN (uN S 0 0) 8) true)) (e := (sN (uN S 0 0) 8)) (has := 0) (f := f) (show sN S 8 < 40 by omega) (show 0 + jn ≤ 8 by omega) ⟨hq1, hq2⟩ F hr jn 0 (by omega)
            · have e40 : sN S 8 = 40 := (nI_eq (b := 40) (by omega) (by decide)).mp c124
              have hs : sp_dynamic S id fr (nI jn) = (-4, uN S 0 0) := by unfold sp_dynamic; rw [hf]; show (if _ then _ else _) = _; rw [if_pos hR, he]; show (if _ then _ else if _ then _ else _) = _; rw [if_neg hj, if_pos e40]
              refine z_bipush (v := (-4)) F dX6_dynamic_127 rfl ?_
              exact z_iret F hr dX6_dynamic_129 rfl (Nat.le_of_ble_eq_true rfl) (Nat.le_of_ble_eq_true rfl) (⟨by rw [hs]; try rfl, by rw [hs]; try rfl⟩)
          · have hj : sAB S 17 f = true := z_b1 c80
            have hs : sp_dynamic S id fr (nI jn) = (-3, uN S 0 0) := by unfold sp_dynamic; rw [hf]; show (if _ then _ else _) = _; rw [if_pos hR, he]; show (if _ then _ else _) = _; rw [if_pos hj]
            refine z_bipush (v := (-3)) F dX6_dynamic_83 rfl ?_
            exact z_iret F hr dX6_dynamic_85 rfl (Nat.le_of_ble_eq_true rfl) (Nat.le_of_ble_eq_true rfl) (⟨by rw [hs]; try rfl, by rw [hs]; try rfl⟩)
        | some e =>
          rw [show fnd (sAI (uN S 0 0) 9) id (sN (uN S 0 0) 8) = some e from he]
          have hel := fnd_lt he
          have hle := (W.2 e hel).1
          refine z_istore F dX6_dynamic_56 (Nat.le_of_ble_eq_true rfl) ?_
          refine z_pick (lv' := [(0, .ref 11), (1, .int id), (2, .int fr), (3, .int (nI jn)), (4, .int (nI f)), (5, .int (nI e))]) [0, 1, 2, 3, 4, 5] rfl ?_
          refine z_iload F dX6_dynamic_58 rfl ?_
          refine z_if_lt (tgt := 73) F dX6_dynamic_60 (by decide) (fun c60 => absurd c60 (nI_pos (by omega))) (fun c60 => ?_)
          refine z_aload_n F dX6_dynamic_63 rfl rfl ?_
          refine z_getf F vF_X6_47 dX6_dynamic_64 mO_at rfl ?_
          refine z_iload F dX6_dynamic_67 rfl ?_
          refine z_zald (j := e) F dX6_dynamic_69 mA_17 rfl rfl (show e < 40 by omega) (Nat.le_of_ble_eq_true rfl) ?_
          refine z_if_eq (tgt := 83) F dX6_dynamic_70 (by decide) (fun c70 => ?_) (fun c70 => ?_)
          · have hs : sp_dynamic S id fr (nI jn) = (-3, uN S 0 0) := by unfold sp_dynamic; rw [hf]; show (if _ then _ else _) = _; rw [if_pos hR, he]; show (if _ then _ else _) = _; rw [if_pos (show sAB S 17 f = true ∨ sAB S 17 e = false from Or.inr (z_b0.mp c70))]
            refine z_bipush (v := (-3)) F dX6_dynamic_83 rfl ?_
            exact z_iret F hr dX6_dynamic_85 rfl (Nat.le_of_ble_eq_true rfl) (Nat.le_of_ble_eq_true rfl) (⟨by rw [hs]; try rfl, by rw [hs]; try rfl⟩)
          · have hje : sAB S 17 e = true := z_b1 c70
            refine z_aload_n F dX6_dynamic_73 rfl rfl ?_
            refine z_getf F vF_X6_47 dX6_dynamic_74 mO_at rfl ?_
            refine z_iload F dX6_dynamic_77 rfl ?_
            refine z_zald (j := f) F dX6_dynamic_79 mA_17 rfl rfl (show f < 40 by omega) (Nat.le_of_ble_eq_true rfl) ?_
            refine z_if_eq (tgt := 86) F dX6_dynamic_80 (by decide) (fun c80 => ?_) (fun c80 => ?_)
            · have hj : ¬ (sAB S 17 f = true ∨ sAB S 17 e = false) := by rw [show sAB S 17 f = false from z_b0.mp c80, hje]; decide
              refine z_iload F dX6_dynamic_86 rfl ?_
              refine z_if_ge (tgt := 95) F dX6_dynamic_88 (by decide) (fun c88 => ?_) (fun c88 => absurd (nI_pos' (by omega)) c88)
              refine z_aload_n F dX6_dynamic_95 rfl rfl ?_
              refine z_getf F vF_X6_24 dX6_dynamic_96 mO_at rfl ?_
              refine z_iload F dX6_dynamic_99 rfl ?_
              refine z_iald (j := e) F dX6_dynamic_101 mA_10 rfl rfl (show e < 40 by omega) (Nat.le_of_ble_eq_true rfl) ?_
              refine z_istore F dX6_dynamic_102 (Nat.le_of_ble_eq_true rfl) ?_
              refine z_pick (lv' := [(0, .ref 11), (1, .int id), (2, .int fr), (3, .int (nI jn)), (4, .int (nI f)), (5, .int (nI e)), (6, .int (nI (sAN S 10 e)))]) [0, 1, 2, 3, 4, 5, 6] rfl ?_
              refine z_iload F dX6_dynamic_104 rfl ?_
              refine z_iload_n F dX6_dynamic_106 rfl ?_
              refine z_iadd F dX6_dynamic_107 ?_
              refine z_topi (nI (sAN S 10 e + jn)) (nI_add (sAN S 10 e) jn) ?_
              refine z_bipush (v := 8) F dX6_dynamic_108 rfl ?_
              refine z_icmp_gt (tgt := 127) F dX6_dynamic_110 (by decide) (fun c110 => ?_) (fun c110 => ?_)
              · have h8 : 8 < sAN S 10 e + jn := (nI_ltI (a := 8) (by decide) (by omega)).mp c110
                have hs : sp_dynamic S id fr (nI jn) = (-4, uN S 0 0) := by unfold sp_dynamic; rw [hf]; show (if _ then _ else _) = _; rw [if_pos hR, he]; show (if _ then _ else if _ then _ else _) = _; rw [if_neg hj, tn_nI (by omega), if_pos h8]
                refine z_bipush (v := (-4)) F dX6_dynamic_127 rfl ?_
                exact z_iret F hr dX6_dynamic_129 rfl (Nat.le_of_ble_eq_true rfl) (Nat.le_of_ble_eq_true rfl) (⟨by rw [hs]; try rfl, by rw [hs]; try rfl⟩)
              · have h8 : ¬ 8 < sAN S 10 e + jn := mt (nI_ltI (a := 8) (b := sAN S 10 e + jn) (by decide) (by omega)).mpr c110
                have hs : sp_dynamic S id fr (nI jn) = (nI (sAN S 10 e + jn), dyS (uN S 0 0) e (sAN S 10 e) f jn) := by unfold sp_dynamic; rw [hf]; show (if _ then _ else _) = _; rw [if_pos hR, he]; show (if _ then _ else if _ then _ else _) = _; rw [if_neg hj, tn_nI (by omega), if_neg h8]
                refine z_iload F dX6_dynamic_113 rfl ?_
                refine z_if_ge (tgt := 130) F dX6_dynamic_115 (by decide) (fun c115 => ?_) (fun c115 => absurd (nI_pos' (by omega)) c115)
                refine z_iload F dX6_dynamic_130 rfl ?_
                refine z_if_ge (tgt := 159) F dX6_dynamic_132 (by decide) (fun c132 => ?_) (fun c132 => absurd (nI_pos' (by omega)) c132)
                refine z_iconst (v := 0) F dX6_dynamic_159 rfl ?_
                refine z_istore F dX6_dynamic_160 (Nat.le_of_ble_eq_true rfl) ?_
                refine z_heap _ (z_hS (S2 := dpS (uN S 0 0) (8 * e + (sAN S 10 e)) f 0) (dpS_0 _ _ _).symm) ?_
                refine z_pick (lv' := [(0, .ref 11), (1, .int id), (2, .int fr), (3, .int (nI jn)), (4, .int (nI f)), (5, .int (nI e)), (6, .int (nI (sAN S 10 e))), (7, .int (nI 0))]) [0, 1, 2, 3, 4, 5, 6, 7] rfl ?_
                have hq1 : some (Value.int (nI ((sAN S 10 e) + jn))) = some (Value.int (sp_dynamic S id fr (nI jn)).1) := by rw [hs]
                have hq2 : HP c (mfun (dyS (uN S 0 0) e (sAN S 10 e) f jn) o) d = HP c (mfun (sp_dynamic S id fr (nI jn)).2 o) d := by rw [hs]
                exact l_X6_dyn (D := uN S 0 0) (e := e) (has := (sAN S 10 e)) (f := f) (show e < 40 by omega) (show (sAN S 10 e) + jn ≤ 8 by omega) ⟨hq1, hq2⟩ F hr jn 0 (by omega)
            · have hs : sp_dynamic S id fr (nI jn) = (-3, uN S 0 0) := by unfold sp_dynamic; rw [hf]; show (if _ then _ else _) = _; rw [if_pos hR, he]; show (if _ then _ else _) = _; rw [if_pos (show sAB S 17 f = true ∨ sAB S 17 e = false from Or.inl (z_b1 c80))]
              refine z_bipush (v := (-3)) F dX6_dynamic_83 rfl ?_
              exact z_iret F hr dX6_dynamic_85 rfl (Nat.le_of_ble_eq_true rfl) (Nat.le_of_ble_eq_true rfl) (⟨by rw [hs]; try rfl, by rw [hs]; try rfl⟩)
      · have hs : sp_dynamic S id fr n = (-2, uN S 0 0) := by unfold sp_dynamic; rw [hf]; exact if_neg (by rw [show inZ n.toInt 1 (sAN S 10 f) = false from z_b0.mp c45]; simp)
        refine z_bipush (v := (-2)) F dX6_dynamic_48 rfl ?_
        exact z_iret F hr dX6_dynamic_50 rfl (Nat.le_of_ble_eq_true rfl) (Nat.le_of_ble_eq_true rfl) (⟨by rw [hs]; try rfl, by rw [hs]; try rfl⟩)

/-- the state at first -/
def S_0 : z_S := (va_up (fun _ => 0) 1 1, va_up (va_up (fun _ => false) 5 true) 6 true, fun _ => 0, fun _ _ => 0, fun _ _ => false, fun _ _ => 0, fun _ _ => 0, -1)
def HC (c : Nat → z_E) : z_H := [c 0, c 1, c 2, c 3, c 4, c 5, c 6, c 7, c 8, c 9, c 10]
def HM (c m : Nat → z_E) : z_H := [c 0, c 1, c 2, c 3, c 4, c 5, c 6, c 7, c 8, c 9, c 10, m 11, m 12, m 13, m 14, m 15, m 16, m 17, m 18, m 19, m 20, m 21, m 22, m 23, m 24, m 25, m 26, m 27, m 28, m 29, m 30]

set_option maxRecDepth 100000 in
set_option maxHeartbeats 1000000 in
theorem c_X6_init {c : Nat → z_E} {o : Nat → Int64} : z_K yX6_init cX6_init 1 none 1 19 2170 [.ref 11] [c 0, c 1, c 2, c 3, c 4, c 5, c 6, c 7, c 8, c 9, c 10, (.inr (7, [.int 0, .int 0, .int 0, .long 0, .long 0, .int 0, .int 0, .int 0, .int 0, .null, .null, .null, .null, .null, .null, .null, .null, .null, .null, .null, .int 0, .null, .null, .null, .null, .null, .int 0, .int 0, .int 0, .int 0, .int 0, .int 0, .int 0, .int 0, .int 0, .int 0, .null, .int 0, .int 0, .null, .int 0, .null, .int 0]) : z_E)] (fun v h' => v = none ∧ h' = HM c (mfun S_0 o)) := by
  refine z_met vI_X6_init (Nat.le_of_ble_eq_true rfl) (fun G X F hr hnm => ?_)
  refine z_aload_n F dX6_init_0 rfl rfl ?_
  refine z_objInit F vM_X6_1 vO_i vO_c dX6_init_1 (Nat.le_of_ble_eq_true rfl) (Nat.le_of_ble_eq_true rfl) ?_
  refine z_aload_n F dX6_init_4 rfl rfl ?_
  refine z_iconst (v := 1) F dX6_init_5 rfl ?_
  refine z_putf F vF_X6_7 vT_X6 vD_X6_1 dX6_init_6 rfl (Nat.le_of_ble_eq_true rfl) rfl rfl (fun g6 => ?_)
  refine z_heap [c 0, c 1, c 2, c 3, c 4, c 5, c 6, c 7, c 8, c 9, c 10, .inr (7, [.int 0, .int 1, .int 0, .long 0, .long 0, .int 0, .int 0, .int 0, .int 0, .null, .null, .null, .null, .null, .null, .null, .null, .null, .null, .null, .int 0, .null, .null, .null, .null, .null, .int 0, .int 0, .int 0, .int 0, .int 0, .int 0, .int 0, .int 0, .int 0, .int 0, .null, .int 0, .int 0, .null, .int 0, .null, .int 0])] rfl ?_
  refine z_aload_n F dX6_init_9 rfl rfl ?_
  refine z_iconst (v := 1) F dX6_init_10 rfl ?_
  refine z_putf F vF_X6_13 vT_X6 vD_X6_5 dX6_init_11 rfl (Nat.le_of_ble_eq_true rfl) rfl rfl (fun g11 => ?_)
  refine z_heap [c 0, c 1, c 2, c 3, c 4, c 5, c 6, c 7, c 8, c 9, c 10, .inr (7, [.int 0, .int 1, .int 0, .long 0, .long 0, .int 1, .int 0, .int 0, .int 0, .null, .null, .null, .null, .null, .null, .null, .null, .null, .null, .null, .int 0, .null, .null, .null, .null, .null, .int 0, .int 0, .int 0, .int 0, .int 0, .int 0, .int 0, .int 0, .int 0, .int 0, .null, .int 0, .int 0, .null, .int 0, .null, .int 0])] rfl ?_
  refine z_aload_n F dX6_init_14 rfl rfl ?_
  refine z_iconst (v := 1) F dX6_init_15 rfl ?_
  refine z_putf F vF_X6_17 vT_X6 vD_X6_6 dX6_init_16 rfl (Nat.le_of_ble_eq_true rfl) rfl rfl (fun g16 => ?_)
  refine z_heap [c 0, c 1, c 2, c 3, c 4, c 5, c 6, c 7, c 8, c 9, c 10, .inr (7, [.int 0, .int 1, .int 0, .long 0, .long 0, .int 1, .int 1, .int 0, .int 0, .null, .null, .null, .null, .null, .null, .null, .null, .null, .null, .null, .int 0, .null, .null, .null, .null, .null, .int 0, .int 0, .int 0, .int 0, .int 0, .int 0, .int 0, .int 0, .int 0, .int 0, .null, .int 0, .int 0, .null, .int 0, .null, .int 0])] rfl ?_
  refine z_aload_n F dX6_init_19 rfl rfl ?_
  refine z_bipush (v := 40) F dX6_init_20 rfl ?_
  refine z_newa (atype := .int) (N := 40) (a0 := (40, (.inl (fun _ => 0)))) (t := 0) F vA_int rfl (fun _ _ => rfl) (by decide) rfl (Nat.le_of_ble_eq_true rfl) dX6_init_22 (Nat.le_of_ble_eq_true rfl) (Nat.le_of_ble_eq_true rfl) ?_
  refine z_putF F vF_X6_20 vT_X6 vD_X6_9 ⟨_, rfl, rfl⟩ hnm dX6_init_24 rfl (Nat.le_of_ble_eq_true rfl) rfl rfl (fun g24 => ?_)
  refine z_heap [c 0, c 1, c 2, c 3, c 4, c 5, c 6, c 7, c 8, c 9, c 10, .inr (7, [.int 0, .int 1, .int 0, .long 0, .long 0, .int 1, .int 1, .int 0, .int 0, .ref 12, .null, .null, .null, .null, .null, .null, .null, .null, .null, .null, .int 0, .null, .null, .null, .null, .null, .int 0, .int 0, .int 0, .int 0, .int 0, .int 0, .int 0, .int 0, .int 0, .int 0, .null, .int 0, .int 0, .null, .int 0, .null, .int 0]), .inl (0, 40, .inl (fun _ => 0))] rfl ?_
  refine z_aload_n F dX6_init_27 rfl rfl ?_
  refine z_bipush (v := 40) F dX6_init_28 rfl ?_
  refine z_newa (atype := .int) (N := 40) (a0 := (40, (.inl (fun _ => 0)))) (t := 0) F vA_int rfl (fun _ _ => rfl) (by decide) rfl (Nat.le_of_ble_eq_true rfl) dX6_init_30 (Nat.le_of_ble_eq_true rfl) (Nat.le_of_ble_eq_true rfl) ?_
  refine z_putF F vF_X6_24 vT_X6 vD_X6_10 ⟨_, rfl, rfl⟩ hnm dX6_init_32 rfl (Nat.le_of_ble_eq_true rfl) rfl rfl (fun g32 => ?_)
  refine z_heap [c 0, c 1, c 2, c 3, c 4, c 5, c 6, c 7, c 8, c 9, c 10, .inr (7, [.int 0, .int 1, .int 0, .long 0, .long 0, .int 1, .int 1, .int 0, .int 0, .ref 12, .ref 13, .null, .null, .null, .null, .null, .null, .null, .null, .null, .int 0, .null, .null, .null, .null, .null, .int 0, .int 0, .int 0, .int 0, .int 0, .int 0, .int 0, .int 0, .int 0, .int 0, .null, .int 0, .int 0, .null, .int 0, .null, .int 0]), .inl (0, 40, .inl (fun _ => 0)), .inl (0, 40, .inl (fun _ => 0))] rfl ?_
  refine z_aload_n F dX6_init_35 rfl rfl ?_
  refine z_bipush (v := 40) F dX6_init_36 rfl ?_
  refine z_newa (atype := .int) (N := 40) (a0 := (40, (.inl (fun _ => 0)))) (t := 0) F vA_int rfl (fun _ _ => rfl) (by decide) rfl (Nat.le_of_ble_eq_true rfl) dX6_init_38 (Nat.le_of_ble_eq_true rfl) (Nat.le_of_ble_eq_true rfl) ?_
  refine z_putF F vF_X6_27 vT_X6 vD_X6_11 ⟨_, rfl, rfl⟩ hnm dX6_init_40 rfl (Nat.le_of_ble_eq_true rfl) rfl rfl (fun g40 => ?_)
  refine z_heap [c 0, c 1, c 2, c 3, c 4, c 5, c 6, c 7, c 8, c 9, c 10, .inr (7, [.int 0, .int 1, .int 0, .long 0, .long 0, .int 1, .int 1, .int 0, .int 0, .ref 12, .ref 13, .ref 14, .null, .null, .null, .null, .null, .null, .null, .null, .int 0, .null, .null, .null, .null, .null, .int 0, .int 0, .int 0, .int 0, .int 0, .int 0, .int 0, .int 0, .int 0, .int 0, .null, .int 0, .int 0, .null, .int 0, .null, .int 0]), .inl (0, 40, .inl (fun _ => 0)), .inl (0, 40, .inl (fun _ => 0)), .inl (0, 40, .inl (fun _ => 0))] rfl ?_
  refine z_aload_n F dX6_init_43 rfl rfl ?_
  refine z_bipush (v := 40) F dX6_init_44 rfl ?_
  refine z_newa (atype := .int) (N := 40) (a0 := (40, (.inl (fun _ => 0)))) (t := 0) F vA_int rfl (fun _ _ => rfl) (by decide) rfl (Nat.le_of_ble_eq_true rfl) dX6_init_46 (Nat.le_of_ble_eq_true rfl) (Nat.le_of_ble_eq_true rfl) ?_
  refine z_putF F vF_X6_30 vT_X6 vD_X6_12 ⟨_, rfl, rfl⟩ hnm dX6_init_48 rfl (Nat.le_of_ble_eq_true rfl) rfl rfl (fun g48 => ?_)
  refine z_heap [c 0, c 1, c 2, c 3, c 4, c 5, c 6, c 7, c 8, c 9, c 10, .inr (7, [.int 0, .int 1, .int 0, .long 0, .long 0, .int 1, .int 1, .int 0, .int 0, .ref 12, .ref 13, .ref 14, .ref 15, .null, .null, .null, .null, .null, .null, .null, .int 0, .null, .null, .null, .null, .null, .int 0, .int 0, .int 0, .int 0, .int 0, .int 0, .int 0, .int 0, .int 0, .int 0, .null, .int 0, .int 0, .null, .int 0, .null, .int 0]), .inl (0, 40, .inl (fun _ => 0)), .inl (0, 40, .inl (fun _ => 0)), .inl (0, 40, .inl (fun _ => 0)), .inl (0, 40, .inl (fun _ => 0))] rfl ?_
  refine z_aload_n F dX6_init_51 rfl rfl ?_
  refine z_bipush (v := 40) F dX6_init_52 rfl ?_
  refine z_newa (atype := .long) (N := 40) (a0 := (40, (.inr (.inl (fun _ => 0))))) (t := 2) F vA_long rfl (fun _ _ => rfl) (by decide) rfl (Nat.le_of_ble_eq_true rfl) dX6_init_54 (Nat.le_of_ble_eq_true rfl) (Nat.le_of_ble_eq_true rfl) ?_
  refine z_putF F vF_X6_33 vT_X6 vD_X6_13 ⟨_, rfl, rfl⟩ hnm dX6_init_56 rfl (Nat.le_of_ble_eq_true rfl) rfl rfl (fun g56 => ?_)
  refine z_heap [c 0, c 1, c 2, c 3, c 4, c 5, c 6, c 7, c 8, c 9, c 10, .inr (7, [.int 0, .int 1, .int 0, .long 0, .long 0, .int 1, .int 1, .int 0, .int 0, .ref 12, .ref 13, .ref 14, .ref 15, .ref 16, .null, .null, .null, .null, .null, .null, .int 0, .null, .null, .null, .null, .null, .int 0, .int 0, .int 0, .int 0, .int 0, .int 0, .int 0, .int 0, .int 0, .int 0, .null, .int 0, .int 0, .null, .int 0, .null, .int 0]), .inl (0, 40, .inl (fun _ => 0)), .inl (0, 40, .inl (fun _ => 0)), .inl (0, 40, .inl (fun _ => 0)), .inl (0, 40, .inl (fun _ => 0)), .inl (2, 40, .inr (.inl (fun _ => 0)))] rfl ?_
  refine z_aload_n F dX6_init_59 rfl rfl ?_
  refine z_bipush (v := 40) F dX6_init_60 rfl ?_
  refine z_newa (atype := .boolean) (N := 40) (a0 := (40, (.inl (fun _ => 0)))) (t := 3) F vA_boolean rfl (fun _ _ => rfl) (by decide) rfl (Nat.le_of_ble_eq_true rfl) dX6_init_62 (Nat.le_of_ble_eq_true rfl) (Nat.le_of_ble_eq_true rfl) ?_
  refine z_putF F vF_X6_37 vT_X6 vD_X6_14 ⟨_, rfl, rfl⟩ hnm dX6_init_64 rfl (Nat.le_of_ble_eq_true rfl) rfl rfl (fun g64 => ?_)
  refine z_heap [c 0, c 1, c 2, c 3, c 4, c 5, c 6, c 7, c 8, c 9, c 10, .inr (7, [.int 0, .int 1, .int 0, .long 0, .long 0, .int 1, .int 1, .int 0, .int 0, .ref 12, .ref 13, .ref 14, .ref 15, .ref 16, .ref 17, .null, .null, .null, .null, .null, .int 0, .null, .null, .null, .null, .null, .int 0, .int 0, .int 0, .int 0, .int 0, .int 0, .int 0, .int 0, .int 0, .int 0, .null, .int 0, .int 0, .null, .int 0, .null, .int 0]), .inl (0, 40, .inl (fun _ => 0)), .inl (0, 40, .inl (fun _ => 0)), .inl (0, 40, .inl (fun _ => 0)), .inl (0, 40, .inl (fun _ => 0)), .inl (2, 40, .inr (.inl (fun _ => 0))), .inl (3, 40, .inl (fun _ => 0))] rfl ?_
  refine z_aload_n F dX6_init_67 rfl rfl ?_
  refine z_bipush (v := 40) F dX6_init_68 rfl ?_
  refine z_newa (atype := .long) (N := 40) (a0 := (40, (.inr (.inl (fun _ => 0))))) (t := 2) F vA_long rfl (fun _ _ => rfl) (by decide) rfl (Nat.le_of_ble_eq_true rfl) dX6_init_70 (Nat.le_of_ble_eq_true rfl) (Nat.le_of_ble_eq_true rfl) ?_
  refine z_putF F vF_X6_41 vT_X6 vD_X6_15 ⟨_, rfl, rfl⟩ hnm dX6_init_72 rfl (Nat.le_of_ble_eq_true rfl) rfl rfl (fun g72 => ?_)
  refine z_heap [c 0, c 1, c 2, c 3, c 4, c 5, c 6, c 7, c 8, c 9, c 10, .inr (7, [.int 0, .int 1, .int 0, .long 0, .long 0, .int 1, .int 1, .int 0, .int 0, .ref 12, .ref 13, .ref 14, .ref 15, .ref 16, .ref 17, .ref 18, .null, .null, .null, .null, .int 0, .null, .null, .null, .null, .null, .int 0, .int 0, .int 0, .int 0, .int 0, .int 0, .int 0, .int 0, .int 0, .int 0, .null, .int 0, .int 0, .null, .int 0, .null, .int 0]), .inl (0, 40, .inl (fun _ => 0)), .inl (0, 40, .inl (fun _ => 0)), .inl (0, 40, .inl (fun _ => 0)), .inl (0, 40, .inl (fun _ => 0)), .inl (2, 40, .inr (.inl (fun _ => 0))), .inl (3, 40, .inl (fun _ => 0)), .inl (2, 40, .inr (.inl (fun _ => 0)))] rfl ?_
  refine z_aload_n F dX6_init_75 rfl rfl ?_
  refine z_bipush (v := 40) F dX6_init_76 rfl ?_
  refine z_newa (atype := .boolean) (N := 40) (a0 := (40, (.inl (fun _ => 0)))) (t := 3) F vA_boolean rfl (fun _ _ => rfl) (by decide) rfl (Nat.le_of_ble_eq_true rfl) dX6_init_78 (Nat.le_of_ble_eq_true rfl) (Nat.le_of_ble_eq_true rfl) ?_
  refine z_putF F vF_X6_44 vT_X6 vD_X6_16 ⟨_, rfl, rfl⟩ hnm dX6_init_80 rfl (Nat.le_of_ble_eq_true rfl) rfl rfl (fun g80 => ?_)
  refine z_heap [c 0, c 1, c 2, c 3, c 4, c 5, c 6, c 7, c 8, c 9, c 10, .inr (7, [.int 0, .int 1, .int 0, .long 0, .long 0, .int 1, .int 1, .int 0, .int 0, .ref 12, .ref 13, .ref 14, .ref 15, .ref 16, .ref 17, .ref 18, .ref 19, .null, .null, .null, .int 0, .null, .null, .null, .null, .null, .int 0, .int 0, .int 0, .int 0, .int 0, .int 0, .int 0, .int 0, .int 0, .int 0, .null, .int 0, .int 0, .null, .int 0, .null, .int 0]), .inl (0, 40, .inl (fun _ => 0)), .inl (0, 40, .inl (fun _ => 0)), .inl (0, 40, .inl (fun _ => 0)), .inl (0, 40, .inl (fun _ => 0)), .inl (2, 40, .inr (.inl (fun _ => 0))), .inl (3, 40, .inl (fun _ => 0)), .inl (2, 40, .inr (.inl (fun _ => 0))), .inl (3, 40, .inl (fun _ => 0))] rfl ?_
  refine z_aload_n F dX6_init_83 rfl rfl ?_
  refine z_bipush (v := 40) F dX6_init_84 rfl ?_
  refine z_newa (atype := .boolean) (N := 40) (a0 := (40, (.inl (fun _ => 0)))) (t := 3) F vA_boolean rfl (fun _ _ => rfl) (by decide) rfl (Nat.le_of_ble_eq_true rfl) dX6_init_86 (Nat.le_of_ble_eq_true rfl) (Nat.le_of_ble_eq_true rfl) ?_
  refine z_putF F vF_X6_47 vT_X6 vD_X6_17 ⟨_, rfl, rfl⟩ hnm dX6_init_88 rfl (Nat.le_of_ble_eq_true rfl) rfl rfl (fun g88 => ?_)
  refine z_heap [c 0, c 1, c 2, c 3, c 4, c 5, c 6, c 7, c 8, c 9, c 10, .inr (7, [.int 0, .int 1, .int 0, .long 0, .long 0, .int 1, .int 1, .int 0, .int 0, .ref 12, .ref 13, .ref 14, .ref 15, .ref 16, .ref 17, .ref 18, .ref 19, .ref 20, .null, .null, .int 0, .null, .null, .null, .null, .null, .int 0, .int 0, .int 0, .int 0, .int 0, .int 0, .int 0, .int 0, .int 0, .int 0, .null, .int 0, .int 0, .null, .int 0, .null, .int 0]), .inl (0, 40, .inl (fun _ => 0)), .inl (0, 40, .inl (fun _ => 0)), .inl (0, 40, .inl (fun _ => 0)), .inl (0, 40, .inl (fun _ => 0)), .inl (2, 40, .inr (.inl (fun _ => 0))), .inl (3, 40, .inl (fun _ => 0)), .inl (2, 40, .inr (.inl (fun _ => 0))), .inl (3, 40, .inl (fun _ => 0)), .inl (3, 40, .inl (fun _ => 0))] rfl ?_
  refine z_aload_n F dX6_init_91 rfl rfl ?_
  refine z_sipush (v := 320) F dX6_init_92 rfl ?_
  refine z_newa (atype := .int) (N := 320) (a0 := (320, (.inl (fun _ => 0)))) (t := 0) F vA_int rfl (fun _ _ => rfl) (by decide) rfl (Nat.le_of_ble_eq_true rfl) dX6_init_95 (Nat.le_of_ble_eq_true rfl) (Nat.le_of_ble_eq_true rfl) ?_
  refine z_putF F vF_X6_50 vT_X6 vD_X6_18 ⟨_, rfl, rfl⟩ hnm dX6_init_97 rfl (Nat.le_of_ble_eq_true rfl) rfl rfl (fun g97 => ?_)
  refine z_heap [c 0, c 1, c 2, c 3, c 4, c 5, c 6, c 7, c 8, c 9, c 10, .inr (7, [.int 0, .int 1, .int 0, .long 0, .long 0, .int 1, .int 1, .int 0, .int 0, .ref 12, .ref 13, .ref 14, .ref 15, .ref 16, .ref 17, .ref 18, .ref 19, .ref 20, .ref 21, .null, .int 0, .null, .null, .null, .null, .null, .int 0, .int 0, .int 0, .int 0, .int 0, .int 0, .int 0, .int 0, .int 0, .int 0, .null, .int 0, .int 0, .null, .int 0, .null, .int 0]), .inl (0, 40, .inl (fun _ => 0)), .inl (0, 40, .inl (fun _ => 0)), .inl (0, 40, .inl (fun _ => 0)), .inl (0, 40, .inl (fun _ => 0)), .inl (2, 40, .inr (.inl (fun _ => 0))), .inl (3, 40, .inl (fun _ => 0)), .inl (2, 40, .inr (.inl (fun _ => 0))), .inl (3, 40, .inl (fun _ => 0)), .inl (3, 40, .inl (fun _ => 0)), .inl (0, 320, .inl (fun _ => 0))] rfl ?_
  refine z_aload_n F dX6_init_100 rfl rfl ?_
  refine z_sipush (v := 320) F dX6_init_101 rfl ?_
  refine z_newa (atype := .int) (N := 320) (a0 := (320, (.inl (fun _ => 0)))) (t := 0) F vA_int rfl (fun _ _ => rfl) (by decide) rfl (Nat.le_of_ble_eq_true rfl) dX6_init_104 (Nat.le_of_ble_eq_true rfl) (Nat.le_of_ble_eq_true rfl) ?_
  refine z_putF F vF_X6_53 vT_X6 vD_X6_19 ⟨_, rfl, rfl⟩ hnm dX6_init_106 rfl (Nat.le_of_ble_eq_true rfl) rfl rfl (fun g106 => ?_)
  refine z_heap [c 0, c 1, c 2, c 3, c 4, c 5, c 6, c 7, c 8, c 9, c 10, .inr (7, [.int 0, .int 1, .int 0, .long 0, .long 0, .int 1, .int 1, .int 0, .int 0, .ref 12, .ref 13, .ref 14, .ref 15, .ref 16, .ref 17, .ref 18, .ref 19, .ref 20, .ref 21, .ref 22, .int 0, .null, .null, .null, .null, .null, .int 0, .int 0, .int 0, .int 0, .int 0, .int 0, .int 0, .int 0, .int 0, .int 0, .null, .int 0, .int 0, .null, .int 0, .null, .int 0]), .inl (0, 40, .inl (fun _ => 0)), .inl (0, 40, .inl (fun _ => 0)), .inl (0, 40, .inl (fun _ => 0)), .inl (0, 40, .inl (fun _ => 0)), .inl (2, 40, .inr (.inl (fun _ => 0))), .inl (3, 40, .inl (fun _ => 0)), .inl (2, 40, .inr (.inl (fun _ => 0))), .inl (3, 40, .inl (fun _ => 0)), .inl (3, 40, .inl (fun _ => 0)), .inl (0, 320, .inl (fun _ => 0)), .inl (0, 320, .inl (fun _ => 0))] rfl ?_
  refine z_aload_n F dX6_init_109 rfl rfl ?_
  refine z_bipush (v := 10) F dX6_init_110 rfl ?_
  refine z_newa (atype := .int) (N := 10) (a0 := (10, (.inl (fun _ => 0)))) (t := 0) F vA_int rfl (fun _ _ => rfl) (by decide) rfl (Nat.le_of_ble_eq_true rfl) dX6_init_112 (Nat.le_of_ble_eq_true rfl) (Nat.le_of_ble_eq_true rfl) ?_
  refine z_putF F vF_X6_56 vT_X6 vD_X6_21 ⟨_, rfl, rfl⟩ hnm dX6_init_114 rfl (Nat.le_of_ble_eq_true rfl) rfl rfl (fun g114 => ?_)
  refine z_heap [c 0, c 1, c 2, c 3, c 4, c 5, c 6, c 7, c 8, c 9, c 10, .inr (7, [.int 0, .int 1, .int 0, .long 0, .long 0, .int 1, .int 1, .int 0, .int 0, .ref 12, .ref 13, .ref 14, .ref 15, .ref 16, .ref 17, .ref 18, .ref 19, .ref 20, .ref 21, .ref 22, .int 0, .ref 23, .null, .null, .null, .null, .int 0, .int 0, .int 0, .int 0, .int 0, .int 0, .int 0, .int 0, .int 0, .int 0, .null, .int 0, .int 0, .null, .int 0, .null, .int 0]), .inl (0, 40, .inl (fun _ => 0)), .inl (0, 40, .inl (fun _ => 0)), .inl (0, 40, .inl (fun _ => 0)), .inl (0, 40, .inl (fun _ => 0)), .inl (2, 40, .inr (.inl (fun _ => 0))), .inl (3, 40, .inl (fun _ => 0)), .inl (2, 40, .inr (.inl (fun _ => 0))), .inl (3, 40, .inl (fun _ => 0)), .inl (3, 40, .inl (fun _ => 0)), .inl (0, 320, .inl (fun _ => 0)), .inl (0, 320, .inl (fun _ => 0)), .inl (0, 10, .inl (fun _ => 0))] rfl ?_
  refine z_aload_n F dX6_init_117 rfl rfl ?_
  refine z_bipush (v := 10) F dX6_init_118 rfl ?_
  refine z_newa (atype := .int) (N := 10) (a0 := (10, (.inl (fun _ => 0)))) (t := 0) F vA_int rfl (fun _ _ => rfl) (by decide) rfl (Nat.le_of_ble_eq_true rfl) dX6_init_120 (Nat.le_of_ble_eq_true rfl) (Nat.le_of_ble_eq_true rfl) ?_
  refine z_putF F vF_X6_59 vT_X6 vD_X6_22 ⟨_, rfl, rfl⟩ hnm dX6_init_122 rfl (Nat.le_of_ble_eq_true rfl) rfl rfl (fun g122 => ?_)
  refine z_heap [c 0, c 1, c 2, c 3, c 4, c 5, c 6, c 7, c 8, c 9, c 10, .inr (7, [.int 0, .int 1, .int 0, .long 0, .long 0, .int 1, .int 1, .int 0, .int 0, .ref 12, .ref 13, .ref 14, .ref 15, .ref 16, .ref 17, .ref 18, .ref 19, .ref 20, .ref 21, .ref 22, .int 0, .ref 23, .ref 24, .null, .null, .null, .int 0, .int 0, .int 0, .int 0, .int 0, .int 0, .int 0, .int 0, .int 0, .int 0, .null, .int 0, .int 0, .null, .int 0, .null, .int 0]), .inl (0, 40, .inl (fun _ => 0)), .inl (0, 40, .inl (fun _ => 0)), .inl (0, 40, .inl (fun _ => 0)), .inl (0, 40, .inl (fun _ => 0)), .inl (2, 40, .inr (.inl (fun _ => 0))), .inl (3, 40, .inl (fun _ => 0)), .inl (2, 40, .inr (.inl (fun _ => 0))), .inl (3, 40, .inl (fun _ => 0)), .inl (3, 40, .inl (fun _ => 0)), .inl (0, 320, .inl (fun _ => 0)), .inl (0, 320, .inl (fun _ => 0)), .inl (0, 10, .inl (fun _ => 0)), .inl (0, 10, .inl (fun _ => 0))] rfl ?_
  refine z_aload_n F dX6_init_125 rfl rfl ?_
  refine z_bipush (v := 10) F dX6_init_126 rfl ?_
  refine z_newa (atype := .boolean) (N := 10) (a0 := (10, (.inl (fun _ => 0)))) (t := 3) F vA_boolean rfl (fun _ _ => rfl) (by decide) rfl (Nat.le_of_ble_eq_true rfl) dX6_init_128 (Nat.le_of_ble_eq_true rfl) (Nat.le_of_ble_eq_true rfl) ?_
  refine z_putF F vF_X6_62 vT_X6 vD_X6_23 ⟨_, rfl, rfl⟩ hnm dX6_init_130 rfl (Nat.le_of_ble_eq_true rfl) rfl rfl (fun g130 => ?_)
  refine z_heap [c 0, c 1, c 2, c 3, c 4, c 5, c 6, c 7, c 8, c 9, c 10, .inr (7, [.int 0, .int 1, .int 0, .long 0, .long 0, .int 1, .int 1, .int 0, .int 0, .ref 12, .ref 13, .ref 14, .ref 15, .ref 16, .ref 17, .ref 18, .ref 19, .ref 20, .ref 21, .ref 22, .int 0, .ref 23, .ref 24, .ref 25, .null, .null, .int 0, .int 0, .int 0, .int 0, .int 0, .int 0, .int 0, .int 0, .int 0, .int 0, .null, .int 0, .int 0, .null, .int 0, .null, .int 0]), .inl (0, 40, .inl (fun _ => 0)), .inl (0, 40, .inl (fun _ => 0)), .inl (0, 40, .inl (fun _ => 0)), .inl (0, 40, .inl (fun _ => 0)), .inl (2, 40, .inr (.inl (fun _ => 0))), .inl (3, 40, .inl (fun _ => 0)), .inl (2, 40, .inr (.inl (fun _ => 0))), .inl (3, 40, .inl (fun _ => 0)), .inl (3, 40, .inl (fun _ => 0)), .inl (0, 320, .inl (fun _ => 0)), .inl (0, 320, .inl (fun _ => 0)), .inl (0, 10, .inl (fun _ => 0)), .inl (0, 10, .inl (fun _ => 0)), .inl (3, 10, .inl (fun _ => 0))] rfl ?_
  refine z_aload_n F dX6_init_133 rfl rfl ?_
  refine z_bipush (v := 10) F dX6_init_134 rfl ?_
  refine z_newa (atype := .int) (N := 10) (a0 := (10, (.inl (fun _ => 0)))) (t := 0) F vA_int rfl (fun _ _ => rfl) (by decide) rfl (Nat.le_of_ble_eq_true rfl) dX6_init_136 (Nat.le_of_ble_eq_true rfl) (Nat.le_of_ble_eq_true rfl) ?_
  refine z_putF F vF_X6_65 vT_X6 vD_X6_24 ⟨_, rfl, rfl⟩ hnm dX6_init_138 rfl (Nat.le_of_ble_eq_true rfl) rfl rfl (fun g138 => ?_)
  refine z_heap [c 0, c 1, c 2, c 3, c 4, c 5, c 6, c 7, c 8, c 9, c 10, .inr (7, [.int 0, .int 1, .int 0, .long 0, .long 0, .int 1, .int 1, .int 0, .int 0, .ref 12, .ref 13, .ref 14, .ref 15, .ref 16, .ref 17, .ref 18, .ref 19, .ref 20, .ref 21, .ref 22, .int 0, .ref 23, .ref 24, .ref 25, .ref 26, .null, .int 0, .int 0, .int 0, .int 0, .int 0, .int 0, .int 0, .int 0, .int 0, .int 0, .null, .int 0, .int 0, .null, .int 0, .null, .int 0]), .inl (0, 40, .inl (fun _ => 0)), .inl (0, 40, .inl (fun _ => 0)), .inl (0, 40, .inl (fun _ => 0)), .inl (0, 40, .inl (fun _ => 0)), .inl (2, 40, .inr (.inl (fun _ => 0))), .inl (3, 40, .inl (fun _ => 0)), .inl (2, 40, .inr (.inl (fun _ => 0))), .inl (3, 40, .inl (fun _ => 0)), .inl (3, 40, .inl (fun _ => 0)), .inl (0, 320, .inl (fun _ => 0)), .inl (0, 320, .inl (fun _ => 0)), .inl (0, 10, .inl (fun _ => 0)), .inl (0, 10, .inl (fun _ => 0)), .inl (3, 10, .inl (fun _ => 0)), .inl (0, 10, .inl (fun _ => 0))] rfl ?_
  refine z_aload_n F dX6_init_141 rfl rfl ?_
  refine z_bipush (v := 10) F dX6_init_142 rfl ?_
  refine z_newa (atype := .int) (N := 10) (a0 := (10, (.inl (fun _ => 0)))) (t := 0) F vA_int rfl (fun _ _ => rfl) (by decide) rfl (Nat.le_of_ble_eq_true rfl) dX6_init_144 (Nat.le_of_ble_eq_true rfl) (Nat.le_of_ble_eq_true rfl) ?_
  refine z_putF F vF_X6_68 vT_X6 vD_X6_25 ⟨_, rfl, rfl⟩ hnm dX6_init_146 rfl (Nat.le_of_ble_eq_true rfl) rfl rfl (fun g146 => ?_)
  refine z_heap [c 0, c 1, c 2, c 3, c 4, c 5, c 6, c 7, c 8, c 9, c 10, .inr (7, [.int 0, .int 1, .int 0, .long 0, .long 0, .int 1, .int 1, .int 0, .int 0, .ref 12, .ref 13, .ref 14, .ref 15, .ref 16, .ref 17, .ref 18, .ref 19, .ref 20, .ref 21, .ref 22, .int 0, .ref 23, .ref 24, .ref 25, .ref 26, .ref 27, .int 0, .int 0, .int 0, .int 0, .int 0, .int 0, .int 0, .int 0, .int 0, .int 0, .null, .int 0, .int 0, .null, .int 0, .null, .int 0]), .inl (0, 40, .inl (fun _ => 0)), .inl (0, 40, .inl (fun _ => 0)), .inl (0, 40, .inl (fun _ => 0)), .inl (0, 40, .inl (fun _ => 0)), .inl (2, 40, .inr (.inl (fun _ => 0))), .inl (3, 40, .inl (fun _ => 0)), .inl (2, 40, .inr (.inl (fun _ => 0))), .inl (3, 40, .inl (fun _ => 0)), .inl (3, 40, .inl (fun _ => 0)), .inl (0, 320, .inl (fun _ => 0)), .inl (0, 320, .inl (fun _ => 0)), .inl (0, 10, .inl (fun _ => 0)), .inl (0, 10, .inl (fun _ => 0)), .inl (3, 10, .inl (fun _ => 0)), .inl (0, 10, .inl (fun _ => 0)), .inl (0, 10, .inl (fun _ => 0))] rfl ?_
  refine z_aload_n F dX6_init_149 rfl rfl ?_
  refine z_bipush (v := 60) F dX6_init_150 rfl ?_
  refine z_newa (atype := .int) (N := 60) (a0 := (60, (.inl (fun _ => 0)))) (t := 0) F vA_int rfl (fun _ _ => rfl) (by decide) rfl (Nat.le_of_ble_eq_true rfl) dX6_init_152 (Nat.le_of_ble_eq_true rfl) (Nat.le_of_ble_eq_true rfl) ?_
  refine z_putF F vF_X6_71 vT_X6 vD_X6_36 ⟨_, rfl, rfl⟩ hnm dX6_init_154 rfl (Nat.le_of_ble_eq_true rfl) rfl rfl (fun g154 => ?_)
  refine z_heap [c 0, c 1, c 2, c 3, c 4, c 5, c 6, c 7, c 8, c 9, c 10, .inr (7, [.int 0, .int 1, .int 0, .long 0, .long 0, .int 1, .int 1, .int 0, .int 0, .ref 12, .ref 13, .ref 14, .ref 15, .ref 16, .ref 17, .ref 18, .ref 19, .ref 20, .ref 21, .ref 22, .int 0, .ref 23, .ref 24, .ref 25, .ref 26, .ref 27, .int 0, .int 0, .int 0, .int 0, .int 0, .int 0, .int 0, .int 0, .int 0, .int 0, .ref 28, .int 0, .int 0, .null, .int 0, .null, .int 0]), .inl (0, 40, .inl (fun _ => 0)), .inl (0, 40, .inl (fun _ => 0)), .inl (0, 40, .inl (fun _ => 0)), .inl (0, 40, .inl (fun _ => 0)), .inl (2, 40, .inr (.inl (fun _ => 0))), .inl (3, 40, .inl (fun _ => 0)), .inl (2, 40, .inr (.inl (fun _ => 0))), .inl (3, 40, .inl (fun _ => 0)), .inl (3, 40, .inl (fun _ => 0)), .inl (0, 320, .inl (fun _ => 0)), .inl (0, 320, .inl (fun _ => 0)), .inl (0, 10, .inl (fun _ => 0)), .inl (0, 10, .inl (fun _ => 0)), .inl (3, 10, .inl (fun _ => 0)), .inl (0, 10, .inl (fun _ => 0)), .inl (0, 10, .inl (fun _ => 0)), .inl (0, 60, .inl (fun _ => 0))] rfl ?_
  refine z_aload_n F dX6_init_157 rfl rfl ?_
  refine z_bipush (v := 60) F dX6_init_158 rfl ?_
  refine z_newa (atype := .int) (N := 60) (a0 := (60, (.inl (fun _ => 0)))) (t := 0) F vA_int rfl (fun _ _ => rfl) (by decide) rfl (Nat.le_of_ble_eq_true rfl) dX6_init_160 (Nat.le_of_ble_eq_true rfl) (Nat.le_of_ble_eq_true rfl) ?_
  refine z_putF F vF_X6_74 vT_X6 vD_X6_39 ⟨_, rfl, rfl⟩ hnm dX6_init_162 rfl (Nat.le_of_ble_eq_true rfl) rfl rfl (fun g162 => ?_)
  refine z_heap [c 0, c 1, c 2, c 3, c 4, c 5, c 6, c 7, c 8, c 9, c 10, .inr (7, [.int 0, .int 1, .int 0, .long 0, .long 0, .int 1, .int 1, .int 0, .int 0, .ref 12, .ref 13, .ref 14, .ref 15, .ref 16, .ref 17, .ref 18, .ref 19, .ref 20, .ref 21, .ref 22, .int 0, .ref 23, .ref 24, .ref 25, .ref 26, .ref 27, .int 0, .int 0, .int 0, .int 0, .int 0, .int 0, .int 0, .int 0, .int 0, .int 0, .ref 28, .int 0, .int 0, .ref 29, .int 0, .null, .int 0]), .inl (0, 40, .inl (fun _ => 0)), .inl (0, 40, .inl (fun _ => 0)), .inl (0, 40, .inl (fun _ => 0)), .inl (0, 40, .inl (fun _ => 0)), .inl (2, 40, .inr (.inl (fun _ => 0))), .inl (3, 40, .inl (fun _ => 0)), .inl (2, 40, .inr (.inl (fun _ => 0))), .inl (3, 40, .inl (fun _ => 0)), .inl (3, 40, .inl (fun _ => 0)), .inl (0, 320, .inl (fun _ => 0)), .inl (0, 320, .inl (fun _ => 0)), .inl (0, 10, .inl (fun _ => 0)), .inl (0, 10, .inl (fun _ => 0)), .inl (3, 10, .inl (fun _ => 0)), .inl (0, 10, .inl (fun _ => 0)), .inl (0, 10, .inl (fun _ => 0)), .inl (0, 60, .inl (fun _ => 0)), .inl (0, 60, .inl (fun _ => 0))] rfl ?_
  refine z_aload_n F dX6_init_165 rfl rfl ?_
  refine z_sipush (v := 1000) F dX6_init_166 rfl ?_
  refine z_newa (atype := .int) (N := 1000) (a0 := (1000, (.inl (fun _ => 0)))) (t := 0) F vA_int rfl (fun _ _ => rfl) (by decide) rfl (Nat.le_of_ble_eq_true rfl) dX6_init_169 (Nat.le_of_ble_eq_true rfl) (Nat.le_of_ble_eq_true rfl) ?_
  refine z_putF F vF_X6_77 vT_X6 vD_X6_41 ⟨_, rfl, rfl⟩ hnm dX6_init_171 rfl (Nat.le_of_ble_eq_true rfl) rfl rfl (fun g171 => ?_)
  refine z_heap [c 0, c 1, c 2, c 3, c 4, c 5, c 6, c 7, c 8, c 9, c 10, .inr (7, [.int 0, .int 1, .int 0, .long 0, .long 0, .int 1, .int 1, .int 0, .int 0, .ref 12, .ref 13, .ref 14, .ref 15, .ref 16, .ref 17, .ref 18, .ref 19, .ref 20, .ref 21, .ref 22, .int 0, .ref 23, .ref 24, .ref 25, .ref 26, .ref 27, .int 0, .int 0, .int 0, .int 0, .int 0, .int 0, .int 0, .int 0, .int 0, .int 0, .ref 28, .int 0, .int 0, .ref 29, .int 0, .ref 30, .int 0]), .inl (0, 40, .inl (fun _ => 0)), .inl (0, 40, .inl (fun _ => 0)), .inl (0, 40, .inl (fun _ => 0)), .inl (0, 40, .inl (fun _ => 0)), .inl (2, 40, .inr (.inl (fun _ => 0))), .inl (3, 40, .inl (fun _ => 0)), .inl (2, 40, .inr (.inl (fun _ => 0))), .inl (3, 40, .inl (fun _ => 0)), .inl (3, 40, .inl (fun _ => 0)), .inl (0, 320, .inl (fun _ => 0)), .inl (0, 320, .inl (fun _ => 0)), .inl (0, 10, .inl (fun _ => 0)), .inl (0, 10, .inl (fun _ => 0)), .inl (3, 10, .inl (fun _ => 0)), .inl (0, 10, .inl (fun _ => 0)), .inl (0, 10, .inl (fun _ => 0)), .inl (0, 60, .inl (fun _ => 0)), .inl (0, 60, .inl (fun _ => 0)), .inl (0, 1000, .inl (fun _ => 0))] rfl ?_
  refine z_aload_n F dX6_init_174 rfl rfl ?_
  refine z_iconst (v := (-1)) F dX6_init_175 rfl ?_
  refine z_putf F vF_X6_80 vT_X6 vD_X6_42 dX6_init_176 rfl (Nat.le_of_ble_eq_true rfl) rfl rfl (fun g176 => ?_)
  refine z_heap [c 0, c 1, c 2, c 3, c 4, c 5, c 6, c 7, c 8, c 9, c 10, .inr (7, [.int 0, .int 1, .int 0, .long 0, .long 0, .int 1, .int 1, .int 0, .int 0, .ref 12, .ref 13, .ref 14, .ref 15, .ref 16, .ref 17, .ref 18, .ref 19, .ref 20, .ref 21, .ref 22, .int 0, .ref 23, .ref 24, .ref 25, .ref 26, .ref 27, .int 0, .int 0, .int 0, .int 0, .int 0, .int 0, .int 0, .int 0, .int 0, .int 0, .ref 28, .int 0, .int 0, .ref 29, .int 0, .ref 30, .int (-1)]), .inl (0, 40, .inl (fun _ => 0)), .inl (0, 40, .inl (fun _ => 0)), .inl (0, 40, .inl (fun _ => 0)), .inl (0, 40, .inl (fun _ => 0)), .inl (2, 40, .inr (.inl (fun _ => 0))), .inl (3, 40, .inl (fun _ => 0)), .inl (2, 40, .inr (.inl (fun _ => 0))), .inl (3, 40, .inl (fun _ => 0)), .inl (3, 40, .inl (fun _ => 0)), .inl (0, 320, .inl (fun _ => 0)), .inl (0, 320, .inl (fun _ => 0)), .inl (0, 10, .inl (fun _ => 0)), .inl (0, 10, .inl (fun _ => 0)), .inl (3, 10, .inl (fun _ => 0)), .inl (0, 10, .inl (fun _ => 0)), .inl (0, 10, .inl (fun _ => 0)), .inl (0, 60, .inl (fun _ => 0)), .inl (0, 60, .inl (fun _ => 0)), .inl (0, 1000, .inl (fun _ => 0))] rfl ?_
  exact z_vret F hr dX6_init_179 (Nat.le_of_ble_eq_true rfl) (Nat.le_of_ble_eq_true rfl) (⟨rfl, rfl⟩)
