def clrB (g : Nat → Bool) (i k : Nat) : Bool := if k < i then false else g k
def clrN (g : Nat → Nat) (i k : Nat) : Nat := if k < i then 0 else g k
def clrL (g : Nat → Int64) (i k : Nat) : Int64 := if k < i then 0 else g k
theorem clrB_step (g : Nat → Bool) (i : Nat) : va_up (clrB g i) i false = clrB g (i + 1) := by
  funext k
  unfold va_up clrB
  by_cases h : k = i
  · simp [h]
  · by_cases h2 : k < i
    · have h3 : k < i + 1 := by omega
      simp [h, h2, h3]
    · have h3 : ¬ k < i + 1 := by omega
      simp [h, h2, h3]
theorem clrN_step (g : Nat → Nat) (i : Nat) : va_up (clrN g i) i 0 = clrN g (i + 1) := by
  funext k
  unfold va_up clrN
  by_cases h : k = i
  · simp [h]
  · by_cases h2 : k < i
    · have h3 : k < i + 1 := by omega
      simp [h, h2, h3]
    · have h3 : ¬ k < i + 1 := by omega
      simp [h, h2, h3]
theorem clrL_step (g : Nat → Int64) (i : Nat) : va_up (clrL g i) i 0 = clrL g (i + 1) := by
  funext k
  unfold va_up clrL
  by_cases h : k = i
  · simp [h]
  · by_cases h2 : k < i
    · have h3 : k < i + 1 := by omega
      simp [h, h2, h3]
    · have h3 : ¬ k < i + 1 := by omega
      simp [h, h2, h3]
theorem clrB_0 (g : Nat → Bool) : clrB g 0 = g := by funext k; simp [clrB]
theorem clrN_0 (g : Nat → Nat) : clrN g 0 = g := by funext k; simp [clrN]
theorem clrL_0 (g : Nat → Int64) : clrL g 0 = g := by funext k; simp [clrL]
def resS (S : z_S) (i : Nat) : z_S := uAN (uAB S 23 (clrB (sAB S 23) i)) 24 (clrN (sAN S 24) i)
theorem resS_step (S : z_S) (i : Nat) : uAN (uAB (resS S i) 23 (va_up (sAB (resS S i) 23) i false)) 24 (va_up (sAN (uAB (resS S i) 23 (va_up (sAB (resS S i) 23) i false)) 24) i 0) = resS S (i + 1) := by
  show uAN (uAB (uAN (uAB S 23 (clrB (sAB S 23) i)) 24 (clrN (sAN S 24) i)) 23 (va_up (clrB (sAB S 23) i) i false)) 24 (va_up (clrN (sAN S 24) i) i 0) = _
  rw [clrB_step, clrN_step]
  unfold resS uAN uAB
  simp only [bx_uu]
theorem resS_0 (S : z_S) : resS S 0 = S := by
  unfold resS
  rw [clrB_0, clrN_0, uAB_same]
  exact uAN_same S 24
def ownS (S : z_S) (i : Nat) : z_S := uAL S 13 (clrL (sAL S 13) i)
def fn (S : z_S) : Nat := sAN S 39 1 % 128
def sv16 (S : z_S) : Nat × z_S :=
  if ¬ sN S 38 - 1 = 1 then (19, S) else if ¬ (1 ≤ fn S ∧ fn S ≤ 3) then (18, S) else if (fn S = 3 ∧ sB S 5 = false) then (34, S) else (0, sayS (sayS (endS S (fn S)) 80) (fn S))
def sv62 (S : z_S) : Nat × z_S :=
  if ¬ sN S 38 - 1 = 1 then (19, S) else if ¬ fn S = 0 then (18, S) else (0, sayS (sayS S 126) 0)
def sv17 (S : z_S) : Nat × z_S :=
  if ¬ sN S 38 - 1 = 1 then (19, S) else if ¬ (fn S = 1 ∨ fn S = 3) then (18, S) else if sB S 5 = false then (34, S)
  else if fn S = 1 then (0, sayS (sayS (ownS (resS (endS S 1) 10) (sN S 8)) 81) 1) else (0, sayS (sayS (resS (endS S 1) 10) 81) 3)
def sv52 (S : z_S) : Nat × z_S :=
  if ¬ sN S 1 = 3 then (127, S) else if ¬ sN S 38 - 1 = 2 then (19, S) else if sB S 26 = true then (112, S) else if ¬ (1 ≤ toldN S 1 ∧ toldN S 1 ≤ 200) then (49, S)
  else (0, sayS (sayS (uB (uN (uN (uN (uB S 26 true) 27 (toldN S 1)) 28 0) 29 0) 31 false) 116) 8)
def sv55 (S : z_S) : Nat × z_S :=
  if ¬ sN S 1 = 3 then (127, S) else if ¬ sN S 38 - 1 = 0 then (19, S) else if (sB S 26 = false ∨ sN S 28 < sN S 27) then (36, S)
  else (0, sayS (sayS (sayS (uB S 26 false) 119) (sN S 29 / 256)) (sN S 29))
def svd (S : z_S) : Nat × z_S :=
  if sAN S 39 0 = 16 then sv16 S else if sAN S 39 0 = 17 then sv17 S else if sAN S 39 0 = 34 then sv34 S else if sAN S 39 0 = 46 then sv46 S else if sAN S 39 0 = 47 then sv47 S
  else if sAN S 39 0 = 49 then sv49 S else if sAN S 39 0 = 52 then sv52 S else if sAN S 39 0 = 54 then sv54 S else if sAN S 39 0 = 55 then sv55 S else if sAN S 39 0 = 62 then sv62 S else (17, S)

set_option maxRecDepth 100000 in
set_option maxHeartbeats 1000000 in
theorem t_X6_16 {c : Nat → z_E} {S : z_S} {o : Nat → Int64} {d : z_H} (R : rowOK S) (W : idsOK S) (V : numsOK S) (hM : sN S 38 ≤ 60) (hM1 : 1 ≤ sN S 38) (hA : sN S 40 = 0) (U : trOK S) (Y : rtsOK S) {x : Int32} (hx : 2 ≤ sN S 38 → x = nI (fn S)) {G : z_G} {X : z_X} (F : z_F vwCl z_ats z_nw wsL_law G RX6 cX6_served 4 (z_rm 3 0 0) X) (hr : X.2.2.2.2.2.2.2.2.1.sig.returnType = some .int) : z_V vwCl G 4 X (z_end vwCl z_ats z_nw G X 0 0 (fun v h' => v = some (.int (nI (sv16 S).1)) ∧ h' = (HP c (mfun ((sv16 S).2) o) d))) 0 0 120 [(0, .ref 11), (1, .int (nI (sN S 38 - 1))), (2, .int x)] [] (HP c (mfun S o) d) := by
  refine z_iload_n F dX6_served_120 rfl ?_
  refine z_iconst (v := 1) F dX6_served_121 rfl ?_
  refine z_icmp_eq (tgt := 128) F dX6_served_122 (by decide) (fun c122 => ?_) (fun c122 => ?_)
  · have hn : sN S 38 - 1 = 1 := (nI_eq (b := 1) (by omega) (by decide)).mp c122
    have f0 := hx (by omega)
    subst f0
    have f128 : fn S < 128 := Nat.mod_lt _ (by decide)
    refine z_iload_n F dX6_served_128 rfl ?_
    refine z_i2l F dX6_served_129 ?_
    refine z_lconst (v := 1) F dX6_served_130 rfl ?_
    refine z_ldc2 F vK_X6_97 dX6_served_131 ?_
    refine z_callS F z_nwOK wL_good (c_isIn32 (A := 1) (B := 3) (nI (fn S)) 1 3 rfl rfl) vI_X6_isIn vM_X6_91 vS_X6_isIn rfl dX6_served_134 rfl rfl (Nat.le_of_ble_eq_true rfl) ⟨(Nat.le_of_ble_eq_true rfl), (Nat.le_of_ble_eq_true rfl), (Nat.le_of_ble_eq_true rfl), (Nat.le_of_ble_eq_true rfl)⟩ (fun v h1 hq => ?_)
    obtain ⟨rfl, rfl⟩ := hq
    refine z_if_ne (tgt := 143) F dX6_served_137 (by decide) (fun c137 => ?_) (fun c137 => ?_)
    · have hf : 1 ≤ fn S ∧ fn S ≤ 3 := by have h9 := z_b1 c137; rw [nI_toInt (by omega)] at h9; unfold inZ at h9; simp at h9; omega
      refine z_iload_n F dX6_served_143 rfl ?_
      refine z_iconst (v := 3) F dX6_served_144 rfl ?_
      refine z_icmp_ne (tgt := 158) F dX6_served_145 (by decide) (fun c145 => ?_) (fun c145 => ?_)
      · have hd : ¬ (fn S = 3 ∧ sB S 5 = false) := fun e => c145 (by rw [e.1]; rfl)
        have hs : sv16 S = (0, sayS (sayS (endS S (fn S)) 80) (fn S)) := by unfold sv16; rw [if_neg (not_not_intro hn), if_neg (not_not_intro hf), if_neg hd]
        refine z_aload_n F dX6_served_158 rfl rfl ?_
        refine z_iload_n F dX6_served_159 rfl ?_
        refine z_callV F z_nwOK wL_good (c_X6_ends (f := fn S) W.1) mO_at rfl vI_X6_ends vM_X6_141 vV_X6_ends vL_X6_ends rfl dX6_served_160 rfl rfl (Nat.le_of_ble_eq_true rfl) ⟨(Nat.le_of_ble_eq_true rfl), (Nat.le_of_ble_eq_true rfl), (Nat.le_of_ble_eq_true rfl), (Nat.le_of_ble_eq_true rfl)⟩ (fun v h1 hq => ?_)
        obtain ⟨rfl, rfl⟩ := hq
        refine z_aload_n F dX6_served_163 rfl rfl ?_
        refine z_bipush (v := 80) F dX6_served_164 rfl ?_
        refine z_callV F z_nwOK wL_good (c_X6_say (S := endS S (fn S)) (b := 80) (show sN S 40 < 1000 by omega) (by decide)) mO_at rfl vI_X6_say vM_X6_131 vV_X6_say vL_X6_say rfl dX6_served_166 rfl rfl (Nat.le_of_ble_eq_true rfl) ⟨(Nat.le_of_ble_eq_true rfl), (Nat.le_of_ble_eq_true rfl), (Nat.le_of_ble_eq_true rfl), (Nat.le_of_ble_eq_true rfl)⟩ (fun v h1 hq => ?_)
        obtain ⟨rfl, rfl⟩ := hq
        refine z_aload_n F dX6_served_169 rfl rfl ?_
        refine z_iload_n F dX6_served_170 rfl ?_
        refine z_callV F z_nwOK wL_good (c_X6_say (S := sayS (endS S (fn S)) 80) (b := fn S) (show sN S 40 + 1 < 1000 by omega) (by omega)) mO_at rfl vI_X6_say vM_X6_131 vV_X6_say vL_X6_say rfl dX6_served_171 rfl rfl (Nat.le_of_ble_eq_true rfl) ⟨(Nat.le_of_ble_eq_true rfl), (Nat.le_of_ble_eq_true rfl), (Nat.le_of_ble_eq_true rfl), (Nat.le_of_ble_eq_true rfl)⟩ (fun v h1 hq => ?_)
        obtain ⟨rfl, rfl⟩ := hq
        refine z_iconst (v := 0) F dX6_served_174 rfl ?_
        exact z_iret F hr dX6_served_175 rfl (Nat.le_of_ble_eq_true rfl) (Nat.le_of_ble_eq_true rfl) (⟨by rw [hs]; try rfl, by rw [hs]; try rfl⟩)
      · refine z_aload_n F dX6_served_148 rfl rfl ?_
        refine z_getf F vF_X6_13 dX6_served_149 mO_at rfl ?_
        refine z_if_ne (tgt := 158) F dX6_served_152 (by decide) (fun c152 => ?_) (fun c152 => ?_)
        · have hd : ¬ (fn S = 3 ∧ sB S 5 = false) := fun e => absurd e.2 (by rw [z_b1 c152]; decide)
          have hs : sv16 S = (0, sayS (sayS (endS S (fn S)) 80) (fn S)) := by unfold sv16; rw [if_neg (not_not_intro hn), if_neg (not_not_intro hf), if_neg hd]
          refine z_aload_n F dX6_served_158 rfl rfl ?_
          refine z_iload_n F dX6_served_159 rfl ?_
          refine z_callV F z_nwOK wL_good (c_X6_ends (f := fn S) W.1) mO_at rfl vI_X6_ends vM_X6_141 vV_X6_ends vL_X6_ends rfl dX6_served_160 rfl rfl (Nat.le_of_ble_eq_true rfl) ⟨(Nat.le_of_ble_eq_true rfl), (Nat.le_of_ble_eq_true rfl), (Nat.le_of_ble_eq_true rfl), (Nat.le_of_ble_eq_true rfl)⟩ (fun v h1 hq => ?_)
          obtain ⟨rfl, rfl⟩ := hq
          refine z_aload_n F dX6_served_163 rfl rfl ?_
          refine z_bipush (v := 80) F dX6_served_164 rfl ?_
          refine z_callV F z_nwOK wL_good (c_X6_say (S := endS S (fn S)) (b := 80) (show sN S 40 < 1000 by omega) (by decide)) mO_at rfl vI_X6_say vM_X6_131 vV_X6_say vL_X6_say rfl dX6_served_166 rfl rfl (Nat.le_of_ble_eq_true rfl) ⟨(Nat.le_of_ble_eq_true rfl), (Nat.le_of_ble_eq_true rfl), (Nat.le_of_ble_eq_true rfl), (Nat.le_of_ble_eq_true rfl)⟩ (fun v h1 hq => ?_)
          obtain ⟨rfl, rfl⟩ := hq
          refine z_aload_n F dX6_served_169 rfl rfl ?_
          refine z_iload_n F dX6_served_170 rfl ?_
          refine z_callV F z_nwOK wL_good (c_X6_say (S := sayS (endS S (fn S)) 80) (b := fn S) (show sN S 40 + 1 < 1000 by omega) (by omega)) mO_at rfl vI_X6_say vM_X6_131 vV_X6_say vL_X6_say rfl dX6_served_171 rfl rfl (Nat.le_of_ble_eq_true rfl) ⟨(Nat.le_of_ble_eq_true rfl), (Nat.le_of_ble_eq_true rfl), (Nat.le_of_ble_eq_true rfl), (Nat.le_of_ble_eq_true rfl)⟩ (fun v h1 hq => ?_)
          obtain ⟨rfl, rfl⟩ := hq
          refine z_iconst (v := 0) F dX6_served_174 rfl ?_
          exact z_iret F hr dX6_served_175 rfl (Nat.le_of_ble_eq_true rfl) (Nat.le_of_ble_eq_true rfl) (⟨by rw [hs]; try rfl, by rw [hs]; try rfl⟩)
        · have hs : sv16 S = (34, S) := by unfold sv16; rw [if_neg (not_not_intro hn), if_neg (not_not_intro hf), if_pos ⟨(nI_eq (b := 3) (by omega) (by decide)).mp c145, z_b0.mp c152⟩]
          refine z_bipush (v := 34) F dX6_served_155 rfl ?_
          exact z_iret F hr dX6_served_157 rfl (Nat.le_of_ble_eq_true rfl) (Nat.le_of_ble_eq_true rfl) (⟨by rw [hs]; try rfl, by rw [hs]; try rfl⟩)
    · have hf : ¬ (1 ≤ fn S ∧ fn S ≤ 3) := by have h9 := z_b0.mp c137; rw [nI_toInt (by omega)] at h9; unfold inZ at h9; simp at h9; omega
      have hs : sv16 S = (18, S) := by unfold sv16; rw [if_neg (not_not_intro hn), if_pos hf]
      refine z_bipush (v := 18) F dX6_served_140 rfl ?_
      exact z_iret F hr dX6_served_142 rfl (Nat.le_of_ble_eq_true rfl) (Nat.le_of_ble_eq_true rfl) (⟨by rw [hs]; try rfl, by rw [hs]; try rfl⟩)
  · have hn : ¬ sN S 38 - 1 = 1 := fun e => c122 (by rw [e]; rfl)
    have hs : sv16 S = (19, S) := if_pos hn
    refine z_bipush (v := 19) F dX6_served_125 rfl ?_
    exact z_iret F hr dX6_served_127 rfl (Nat.le_of_ble_eq_true rfl) (Nat.le_of_ble_eq_true rfl) (⟨by rw [hs]; try rfl, by rw [hs]; try rfl⟩)

set_option maxRecDepth 100000 in
set_option maxHeartbeats 1000000 in
theorem t_X6_62 {c : Nat → z_E} {S : z_S} {o : Nat → Int64} {d : z_H} (R : rowOK S) (W : idsOK S) (V : numsOK S) (hM : sN S 38 ≤ 60) (hM1 : 1 ≤ sN S 38) (hA : sN S 40 = 0) (U : trOK S) (Y : rtsOK S) {x : Int32} (hx : 2 ≤ sN S 38 → x = nI (fn S)) {G : z_G} {X : z_X} (F : z_F vwCl z_ats z_nw wsL_law G RX6 cX6_served 4 (z_rm 3 0 0) X) (hr : X.2.2.2.2.2.2.2.2.1.sig.returnType = some .int) : z_V vwCl G 4 X (z_end vwCl z_ats z_nw G X 0 0 (fun v h' => v = some (.int (nI (sv62 S).1)) ∧ h' = (HP c (mfun ((sv62 S).2) o) d))) 0 0 176 [(0, .ref 11), (1, .int (nI (sN S 38 - 1))), (2, .int x)] [] (HP c (mfun S o) d) := by
  refine z_iload_n F dX6_served_176 rfl ?_
  refine z_iconst (v := 1) F dX6_served_177 rfl ?_
  refine z_icmp_eq (tgt := 184) F dX6_served_178 (by decide) (fun c178 => ?_) (fun c178 => ?_)
  · have hn : sN S 38 - 1 = 1 := (nI_eq (b := 1) (by omega) (by decide)).mp c178
    have f0 := hx (by omega)
    subst f0
    have f128 : fn S < 128 := Nat.mod_lt _ (by decide)
    refine z_iload_n F dX6_served_184 rfl ?_
    refine z_if_eq (tgt := 191) F dX6_served_185 (by decide) (fun c185 => ?_) (fun c185 => ?_)
    · have hf : fn S = 0 := (nI_eq (b := 0) (by omega) (by decide)).mp c185
      have hs : sv62 S = (0, sayS (sayS S 126) 0) := by unfold sv62; rw [if_neg (not_not_intro hn), if_neg (not_not_intro hf)]
      refine z_aload_n F dX6_served_191 rfl rfl ?_
      refine z_bipush (v := 126) F dX6_served_192 rfl ?_
      refine z_callV F z_nwOK wL_good (c_X6_say (S := S) (b := 126) (show sN S 40 < 1000 by omega) (by decide)) mO_at rfl vI_X6_say vM_X6_131 vV_X6_say vL_X6_say rfl dX6_served_194 rfl rfl (Nat.le_of_ble_eq_true rfl) ⟨(Nat.le_of_ble_eq_true rfl), (Nat.le_of_ble_eq_true rfl), (Nat.le_of_ble_eq_true rfl), (Nat.le_of_ble_eq_true rfl)⟩ (fun v h1 hq => ?_)
      obtain ⟨rfl, rfl⟩ := hq
      refine z_aload_n F dX6_served_197 rfl rfl ?_
      refine z_iconst (v := 0) F dX6_served_198 rfl ?_
      refine z_callV F z_nwOK wL_good (c_X6_say (S := sayS (S) 126) (b := 0) (show sN S 40 + 1 < 1000 by omega) (by decide)) mO_at rfl vI_X6_say vM_X6_131 vV_X6_say vL_X6_say rfl dX6_served_199 rfl rfl (Nat.le_of_ble_eq_true rfl) ⟨(Nat.le_of_ble_eq_true rfl), (Nat.le_of_ble_eq_true rfl), (Nat.le_of_ble_eq_true rfl), (Nat.le_of_ble_eq_true rfl)⟩ (fun v h1 hq => ?_)
      obtain ⟨rfl, rfl⟩ := hq
      refine z_iconst (v := 0) F dX6_served_202 rfl ?_
      exact z_iret F hr dX6_served_203 rfl (Nat.le_of_ble_eq_true rfl) (Nat.le_of_ble_eq_true rfl) (⟨by rw [hs]; try rfl, by rw [hs]; try rfl⟩)
    · have hf : ¬ fn S = 0 := fun e => c185 (by rw [e]; rfl)
      have hs : sv62 S = (18, S) := by unfold sv62; rw [if_neg (not_not_intro hn), if_pos hf]
      refine z_bipush (v := 18) F dX6_served_188 rfl ?_
      exact z_iret F hr dX6_served_190 rfl (Nat.le_of_ble_eq_true rfl) (Nat.le_of_ble_eq_true rfl) (⟨by rw [hs]; try rfl, by rw [hs]; try rfl⟩)
  · have hn : ¬ sN S 38 - 1 = 1 := fun e => c178 (by rw [e]; rfl)
    have hs : sv62 S = (19, S) := if_pos hn
    refine z_bipush (v := 19) F dX6_served_181 rfl ?_
    exact z_iret F hr dX6_served_183 rfl (Nat.le_of_ble_eq_true rfl) (Nat.le_of_ble_eq_true rfl) (⟨by rw [hs]; try rfl, by rw [hs]; try rfl⟩)

set_option maxRecDepth 100000 in
set_option maxHeartbeats 1000000 in
theorem l_X6_own {c : Nat → z_E} {S : z_S} {o : Nat → Int64} {d : z_H} (R : rowOK S) (W : idsOK S) (V : numsOK S) (hM : sN S 38 ≤ 60) (hM1 : 1 ≤ sN S 38) (hA : sN S 40 = 0) (U : trOK S) (Y : rtsOK S) {x : Int32} (hx : 2 ≤ sN S 38 → x = nI (fn S)) (hf : fn S = 1) (hs : sv17 S = (0, sayS (sayS (ownS (resS (endS S 1) 10) (sN S 8)) 81) 1)) {G : z_G} {X : z_X} (F : z_F vwCl z_ats z_nw wsL_law G RX6 cX6_served 4 (z_rm 3 0 0) X) (hr : X.2.2.2.2.2.2.2.2.1.sig.returnType = some .int) :
    ∀ (m i : Nat), i + m = sN S 8 → z_V vwCl G 4 X (z_end vwCl z_ats z_nw G X 0 0 (fun v h' => v = some (.int (nI (sv17 S).1)) ∧ h' = (HP c (mfun ((sv17 S).2) o) d))) 0 0 270 [(0, .ref 11), (1, .int (nI (sN S 38 - 1))), (2, .int 1), (3, .int (nI i))] [] (HP c (mfun (ownS (resS (endS S 1) 10) i) o) d) := by
  intro m
  induction m with
  | zero =>
    intro i hi
    obtain rfl : i = sN S 8 := by omega
    have h40 := W.1
    refine z_iload_n F dX6_served_270 rfl ?_
    refine z_aload_n F dX6_served_271 rfl rfl ?_
    refine z_getf F vF_X6_86 dX6_served_272 mO_at rfl ?_
    refine z_icmp_ge (tgt := 296) F dX6_served_275 (by decide) (fun c275 => ?_) (fun c275 => absurd (nI_le (a := sN S 8) (Nat.le_refl _) (by omega)) c275)
    refine z_aload_n F dX6_served_296 rfl rfl ?_
    refine z_bipush (v := 81) F dX6_served_297 rfl ?_
    refine z_callV F z_nwOK wL_good (c_X6_say (S := ownS (resS (endS S 1) 10) (sN S 8)) (b := 81) (show sN S 40 < 1000 by omega) (by decide)) mO_at rfl vI_X6_say vM_X6_131 vV_X6_say vL_X6_say rfl dX6_served_299 rfl rfl (Nat.le_of_ble_eq_true rfl) ⟨(Nat.le_of_ble_eq_true rfl), (Nat.le_of_ble_eq_true rfl), (Nat.le_of_ble_eq_true rfl), (Nat.le_of_ble_eq_true rfl)⟩ (fun v h1 hq => ?_)
    obtain ⟨rfl, rfl⟩ := hq
    refine z_aload_n F dX6_served_302 rfl rfl ?_
    refine z_iload_n F dX6_served_303 rfl ?_
    refine z_callV F z_nwOK wL_good (c_X6_say (S := sayS (ownS (resS (endS S 1) 10) (sN S 8)) 81) (b := 1) (show sN S 40 + 1 < 1000 by omega) (by decide)) mO_at rfl vI_X6_say vM_X6_131 vV_X6_say vL_X6_say rfl dX6_served_304 rfl rfl (Nat.le_of_ble_eq_true rfl) ⟨(Nat.le_of_ble_eq_true rfl), (Nat.le_of_ble_eq_true rfl), (Nat.le_of_ble_eq_true rfl), (Nat.le_of_ble_eq_true rfl)⟩ (fun v h1 hq => ?_)
    obtain ⟨rfl, rfl⟩ := hq
    refine z_iconst (v := 0) F dX6_served_307 rfl ?_
    exact z_iret F hr dX6_served_308 rfl (Nat.le_of_ble_eq_true rfl) (Nat.le_of_ble_eq_true rfl) (⟨by rw [hs]; try rfl, by rw [hs]; try rfl⟩)
  | succ m ih =>
    intro i hi
    have h40 := W.1
    refine z_iload_n F dX6_served_270 rfl ?_
    refine z_aload_n F dX6_served_271 rfl rfl ?_
    refine z_getf F vF_X6_86 dX6_served_272 mO_at rfl ?_
    refine z_icmp_ge (tgt := 296) F dX6_served_275 (by decide) (fun c275 => absurd c275 (nI_ge (a := i) (b := sN S 8) (by omega) (by omega))) (fun c275 => ?_)
    refine z_iload_n F dX6_served_278 rfl ?_
    refine z_iconst (v := 1) F dX6_served_279 rfl ?_
    refine z_icmp_ne (tgt := 296) F dX6_served_280 (by decide) (fun c280 => absurd rfl c280) (fun c280 => ?_)
    refine z_aload_n F dX6_served_283 rfl rfl ?_
    refine z_getf F vF_X6_33 dX6_served_284 mO_at rfl ?_
    refine z_iload_n F dX6_served_287 rfl ?_
    refine z_lconst (v := 0) F dX6_served_288 rfl ?_
    refine z_last (j := i) F dX6_served_289 mA_13 rfl rfl (show i < 40 by omega) (Nat.le_of_ble_eq_true rfl) ?_
    refine z_heap _ (ma_13 (v := 0)) ?_
    refine z_iinc (w := 1) F dX6_served_290 rfl rfl (Nat.le_of_ble_eq_true rfl) ?_
    rw [nI_1]
    refine z_goto (tgt := 270) F dX6_served_293 (by decide) ?_
    refine z_heap _ (z_hS (S2 := ownS (resS (endS S 1) 10) (i + 1)) (by show uAL (uAL (resS (endS S 1) 10) 13 (clrL (sAL (resS (endS S 1) 10) 13) i)) 13 (va_up (clrL (sAL (resS (endS S 1) 10) 13) i) i 0) = _; rw [clrL_step, uAL_again]; rfl)) ?_
    exact ih (i + 1) (by omega)

set_option maxRecDepth 100000 in
set_option maxHeartbeats 1000000 in
theorem l_X6_res {c : Nat → z_E} {S : z_S} {o : Nat → Int64} {d : z_H} (R : rowOK S) (W : idsOK S) (V : numsOK S) (hM : sN S 38 ≤ 60) (hM1 : 1 ≤ sN S 38) (hA : sN S 40 = 0) (U : trOK S) (Y : rtsOK S) {x : Int32} (hx : 2 ≤ sN S 38 → x = nI (fn S)) (hn : sN S 38 - 1 = 1) (hf : fn S = 1 ∨ fn S = 3) (hd : ¬ sB S 5 = false) {G : z_G} {X : z_X} (F : z_F vwCl z_ats z_nw wsL_law G RX6 cX6_served 4 (z_rm 3 0 0) X) (hr : X.2.2.2.2.2.2.2.2.1.sig.returnType = some .int) :
    ∀ (m i : Nat), i + m = 10 → z_V vwCl G 4 X (z_end vwCl z_ats z_nw G X 0 0 (fun v h' => v = some (.int (nI (sv17 S).1)) ∧ h' = (HP c (mfun ((sv17 S).2) o) d))) 0 0 242 [(0, .ref 11), (1, .int (nI (sN S 38 - 1))), (2, .int (nI (fn S))), (3, .int (nI i))] [] (HP c (mfun (resS (endS S 1) i) o) d) := by
  intro m
  induction m with
  | zero =>
    intro i hi
    obtain rfl : i = 10 := by omega
    refine z_iload_n F dX6_served_242 rfl ?_
    refine z_bipush (v := 10) F dX6_served_243 rfl ?_
    refine z_icmp_ge (tgt := 268) F dX6_served_245 (by decide) (fun c245 => ?_) (fun c245 => absurd (nI_le (Nat.le_refl 10) (by decide)) c245)
    rcases id hf with hf1 | hf3
    · have hs : sv17 S = (0, sayS (sayS (ownS (resS (endS S 1) 10) (sN S 8)) 81) 1) := by unfold sv17; rw [if_neg (not_not_intro hn), if_neg (not_not_intro hf), if_neg hd, if_pos hf1]
      rw [hf1]
      refine z_iconst (v := 0) F dX6_served_268 rfl ?_
      refine z_istore_n F dX6_served_269 (Nat.le_of_ble_eq_true rfl) ?_
      refine z_heap _ (z_hS (S2 := ownS (resS (endS S 1) 10) 0) (by unfold ownS; rw [clrL_0]; exact (uAL_same _ 13).symm)) ?_
      exact l_X6_own R W V hM hM1 hA U Y hx hf1 hs F hr (sN S 8) 0 (by omega)
    · have hs : sv17 S = (0, sayS (sayS (resS (endS S 1) 10) 81) 3) := by unfold sv17; rw [if_neg (not_not_intro hn), if_neg (not_not_intro hf), if_neg hd, if_neg (by omega)]
      rw [hf3]
      refine z_iconst (v := 0) F dX6_served_268 rfl ?_
      refine z_istore_n F dX6_served_269 (Nat.le_of_ble_eq_true rfl) ?_
      refine z_iload_n F dX6_served_270 rfl ?_
      refine z_aload_n F dX6_served_271 rfl rfl ?_
      refine z_getf F vF_X6_86 dX6_served_272 mO_at rfl ?_
      refine z_icmp_ge (tgt := 296) F dX6_served_275 (by decide) (fun c275 => ?_) (fun c275 => ?_)
      · refine z_aload_n F dX6_served_296 rfl rfl ?_
        refine z_bipush (v := 81) F dX6_served_297 rfl ?_
        refine z_callV F z_nwOK wL_good (c_X6_say (S := resS (endS S 1) 10) (b := 81) (show sN S 40 < 1000 by omega) (by decide)) mO_at rfl vI_X6_say vM_X6_131 vV_X6_say vL_X6_say rfl dX6_served_299 rfl rfl (Nat.le_of_ble_eq_true rfl) ⟨(Nat.le_of_ble_eq_true rfl), (Nat.le_of_ble_eq_true rfl), (Nat.le_of_ble_eq_true rfl), (Nat.le_of_ble_eq_true rfl)⟩ (fun v h1 hq => ?_)
        obtain ⟨rfl, rfl⟩ := hq
        refine z_aload_n F dX6_served_302 rfl rfl ?_
        refine z_iload_n F dX6_served_303 rfl ?_
        refine z_callV F z_nwOK wL_good (c_X6_say (S := sayS (resS (endS S 1) 10) 81) (b := 3) (show sN S 40 + 1 < 1000 by omega) (by decide)) mO_at rfl vI_X6_say vM_X6_131 vV_X6_say vL_X6_say rfl dX6_served_304 rfl rfl (Nat.le_of_ble_eq_true rfl) ⟨(Nat.le_of_ble_eq_true rfl), (Nat.le_of_ble_eq_true rfl), (Nat.le_of_ble_eq_true rfl), (Nat.le_of_ble_eq_true rfl)⟩ (fun v h1 hq => ?_)
        obtain ⟨rfl, rfl⟩ := hq
        refine z_iconst (v := 0) F dX6_served_307 rfl ?_
        exact z_iret F hr dX6_served_308 rfl (Nat.le_of_ble_eq_true rfl) (Nat.le_of_ble_eq_true rfl) (⟨by rw [hs]; try rfl, by rw [hs]; try rfl⟩)
      · refine z_iload_n F dX6_served_278 rfl ?_
        refine z_iconst (v := 1) F dX6_served_279 rfl ?_
        refine z_icmp_ne (tgt := 296) F dX6_served_280 (by decide) (fun c280 => ?_) (fun c280 => absurd c280 (by decide))
        refine z_aload_n F dX6_served_296 rfl rfl ?_
        refine z_bipush (v := 81) F dX6_served_297 rfl ?_
        refine z_callV F z_nwOK wL_good (c_X6_say (S := resS (endS S 1) 10) (b := 81) (show sN S 40 < 1000 by omega) (by decide)) mO_at rfl vI_X6_say vM_X6_131 vV_X6_say vL_X6_say rfl dX6_served_299 rfl rfl (Nat.le_of_ble_eq_true rfl) ⟨(Nat.le_of_ble_eq_true rfl), (Nat.le_of_ble_eq_true rfl), (Nat.le_of_ble_eq_true rfl), (Nat.le_of_ble_eq_true rfl)⟩ (fun v h1 hq => ?_)
        obtain ⟨rfl, rfl⟩ := hq
        refine z_aload_n F dX6_served_302 rfl rfl ?_
        refine z_iload_n F dX6_served_303 rfl ?_
        refine z_callV F z_nwOK wL_good (c_X6_say (S := sayS (resS (endS S 1) 10) 81) (b := 3) (show sN S 40 + 1 < 1000 by omega) (by decide)) mO_at rfl vI_X6_say vM_X6_131 vV_X6_say vL_X6_say rfl dX6_served_304 rfl rfl (Nat.le_of_ble_eq_true rfl) ⟨(Nat.le_of_ble_eq_true rfl), (Nat.le_of_ble_eq_true rfl), (Nat.le_of_ble_eq_true rfl), (Nat.le_of_ble_eq_true rfl)⟩ (fun v h1 hq => ?_)
        obtain ⟨rfl, rfl⟩ := hq
        refine z_iconst (v := 0) F dX6_served_307 rfl ?_
        exact z_iret F hr dX6_served_308 rfl (Nat.le_of_ble_eq_true rfl) (Nat.le_of_ble_eq_true rfl) (⟨by rw [hs]; try rfl, by rw [hs]; try rfl⟩)
  | succ m ih =>
    intro i hi
    refine z_iload_n F dX6_served_242 rfl ?_
    refine z_bipush (v := 10) F dX6_served_243 rfl ?_
    refine z_icmp_ge (tgt := 268) F dX6_served_245 (by decide) (fun c245 => absurd c245 (nI_ge (b := 10) (show i < 10 by omega) (by decide))) (fun c245 => ?_)
    refine z_aload_n F dX6_served_248 rfl rfl ?_
    refine z_getf F vF_X6_62 dX6_served_249 mO_at rfl ?_
    refine z_iload_n F dX6_served_252 rfl ?_
    refine z_iconst (v := 0) F dX6_served_253 rfl ?_
    refine z_zast (j := i) F dX6_served_254 mA_23 rfl rfl (show i < 10 by omega) (Nat.le_of_ble_eq_true rfl) ?_
    refine z_heap _ (ma_23 (v := false)) ?_
    refine z_aload_n F dX6_served_255 rfl rfl ?_
    refine z_getf F vF_X6_65 dX6_served_256 mO_at rfl ?_
    refine z_iload_n F dX6_served_259 rfl ?_
    refine z_iconst (v := 0) F dX6_served_260 rfl ?_
    refine z_iast (j := i) F dX6_served_261 mA_24 rfl rfl (show i < 10 by omega) (Nat.le_of_ble_eq_true rfl) ?_
    refine z_heap _ (ma_24 (v := 0)) ?_
    refine z_iinc (w := 1) F dX6_served_262 rfl rfl (Nat.le_of_ble_eq_true rfl) ?_
    rw [nI_1]
    refine z_goto (tgt := 242) F dX6_served_265 (by decide) ?_
    refine z_heap _ (z_hS (resS_step (endS S 1) i)) ?_
    exact ih (i + 1) (by omega)

set_option maxRecDepth 100000 in
set_option maxHeartbeats 1000000 in
theorem t_X6_17 {c : Nat → z_E} {S : z_S} {o : Nat → Int64} {d : z_H} (R : rowOK S) (W : idsOK S) (V : numsOK S) (hM : sN S 38 ≤ 60) (hM1 : 1 ≤ sN S 38) (hA : sN S 40 = 0) (U : trOK S) (Y : rtsOK S) {x : Int32} (hx : 2 ≤ sN S 38 → x = nI (fn S)) {G : z_G} {X : z_X} (F : z_F vwCl z_ats z_nw wsL_law G RX6 cX6_served 4 (z_rm 3 0 0) X) (hr : X.2.2.2.2.2.2.2.2.1.sig.returnType = some .int) : z_V vwCl G 4 X (z_end vwCl z_ats z_nw G X 0 0 (fun v h' => v = some (.int (nI (sv17 S).1)) ∧ h' = (HP c (mfun ((sv17 S).2) o) d))) 0 0 204 [(0, .ref 11), (1, .int (nI (sN S 38 - 1))), (2, .int x)] [] (HP c (mfun S o) d) := by
  refine z_iload_n F dX6_served_204 rfl ?_
  refine z_iconst (v := 1) F dX6_served_205 rfl ?_
  refine z_icmp_eq (tgt := 212) F dX6_served_206 (by decide) (fun c206 => ?_) (fun c206 => ?_)
  · have hn : sN S 38 - 1 = 1 := (nI_eq (b := 1) (by omega) (by decide)).mp c206
    have f0 := hx (by omega)
    subst f0
    have f128 : fn S < 128 := Nat.mod_lt _ (by decide)
    refine z_iload_n F dX6_served_212 rfl ?_
    refine z_iconst (v := 1) F dX6_served_213 rfl ?_
    refine z_icmp_eq (tgt := 225) F dX6_served_214 (by decide) (fun c214 => ?_) (fun c214 => ?_)
    · have hf : fn S = 1 ∨ fn S = 3 := Or.inl ((nI_eq (b := 1) (by omega) (by decide)).mp c214)
      refine z_aload_n F dX6_served_225 rfl rfl ?_
      refine z_getf F vF_X6_13 dX6_served_226 mO_at rfl ?_
      refine z_if_ne (tgt := 235) F dX6_served_229 (by decide) (fun c229 => ?_) (fun c229 => ?_)
      · have hd : ¬ sB S 5 = false := by rw [z_b1 c229]; decide
        refine z_aload_n F dX6_served_235 rfl rfl ?_
        refine z_iconst (v := 1) F dX6_served_236 rfl ?_
        refine z_callV F z_nwOK wL_good (c_X6_ends (f := 1) W.1) mO_at rfl vI_X6_ends vM_X6_141 vV_X6_ends vL_X6_ends rfl dX6_served_237 rfl rfl (Nat.le_of_ble_eq_true rfl) ⟨(Nat.le_of_ble_eq_true rfl), (Nat.le_of_ble_eq_true rfl), (Nat.le_of_ble_eq_true rfl), (Nat.le_of_ble_eq_true rfl)⟩ (fun v h1 hq => ?_)
        obtain ⟨rfl, rfl⟩ := hq
        refine z_iconst (v := 0) F dX6_served_240 rfl ?_
        refine z_istore_n F dX6_served_241 (Nat.le_of_ble_eq_true rfl) ?_
        refine z_heap _ (z_hS (S2 := resS (endS S 1) 0) (resS_0 _).symm) ?_
        exact l_X6_res R W V hM hM1 hA U Y (fun _ => rfl) hn hf hd F hr 10 0 (by omega)
      · have hs : sv17 S = (34, S) := by unfold sv17; rw [if_neg (not_not_intro hn), if_neg (not_not_intro hf), if_pos (z_b0.mp c229)]
        refine z_bipush (v := 34) F dX6_served_232 rfl ?_
        exact z_iret F hr dX6_served_234 rfl (Nat.le_of_ble_eq_true rfl) (Nat.le_of_ble_eq_true rfl) (⟨by rw [hs]; try rfl, by rw [hs]; try rfl⟩)
    · refine z_iload_n F dX6_served_217 rfl ?_
      refine z_iconst (v := 3) F dX6_served_218 rfl ?_
      refine z_icmp_eq (tgt := 225) F dX6_served_219 (by decide) (fun c219 => ?_) (fun c219 => ?_)
      · have hf : fn S = 1 ∨ fn S = 3 := Or.inr ((nI_eq (b := 3) (by omega) (by decide)).mp c219)
        refine z_aload_n F dX6_served_225 rfl rfl ?_
        refine z_getf F vF_X6_13 dX6_served_226 mO_at rfl ?_
        refine z_if_ne (tgt := 235) F dX6_served_229 (by decide) (fun c229 => ?_) (fun c229 => ?_)
        · have hd : ¬ sB S 5 = false := by rw [z_b1 c229]; decide
          refine z_aload_n F dX6_served_235 rfl rfl ?_
          refine z_iconst (v := 1) F dX6_served_236 rfl ?_
          refine z_callV F z_nwOK wL_good (c_X6_ends (f := 1) W.1) mO_at rfl vI_X6_ends vM_X6_141 vV_X6_ends vL_X6_ends rfl dX6_served_237 rfl rfl (Nat.le_of_ble_eq_true rfl) ⟨(Nat.le_of_ble_eq_true rfl), (Nat.le_of_ble_eq_true rfl), (Nat.le_of_ble_eq_true rfl), (Nat.le_of_ble_eq_true rfl)⟩ (fun v h1 hq => ?_)
          obtain ⟨rfl, rfl⟩ := hq
          refine z_iconst (v := 0) F dX6_served_240 rfl ?_
          refine z_istore_n F dX6_served_241 (Nat.le_of_ble_eq_true rfl) ?_
          refine z_heap _ (z_hS (S2 := resS (endS S 1) 0) (resS_0 _).symm) ?_
          exact l_X6_res R W V hM hM1 hA U Y (fun _ => rfl) hn hf hd F hr 10 0 (by omega)
        · have hs : sv17 S = (34, S) := by unfold sv17; rw [if_neg (not_not_intro hn), if_neg (not_not_intro hf), if_pos (z_b0.mp c229)]
          refine z_bipush (v := 34) F dX6_served_232 rfl ?_
          exact z_iret F hr dX6_served_234 rfl (Nat.le_of_ble_eq_true rfl) (Nat.le_of_ble_eq_true rfl) (⟨by rw [hs]; try rfl, by rw [hs]; try rfl⟩)
      · have hf : ¬ (fn S = 1 ∨ fn S = 3) := fun e => e.elim (fun q => c214 (by rw [q]; rfl)) (fun q => c219 (by rw [q]; rfl))
        have hs : sv17 S = (18, S) := by unfold sv17; rw [if_neg (not_not_intro hn), if_pos hf]
        refine z_bipush (v := 18) F dX6_served_222 rfl ?_
        exact z_iret F hr dX6_served_224 rfl (Nat.le_of_ble_eq_true rfl) (Nat.le_of_ble_eq_true rfl) (⟨by rw [hs]; try rfl, by rw [hs]; try rfl⟩)
  · have hn : ¬ sN S 38 - 1 = 1 := fun e => c206 (by rw [e]; rfl)
    have hs : sv17 S = (19, S) := if_pos hn
    refine z_bipush (v := 19) F dX6_served_209 rfl ?_
    exact z_iret F hr dX6_served_211 rfl (Nat.le_of_ble_eq_true rfl) (Nat.le_of_ble_eq_true rfl) (⟨by rw [hs]; try rfl, by rw [hs]; try rfl⟩)

set_option maxRecDepth 100000 in
set_option maxHeartbeats 1000000 in
theorem t_X6_52 {c : Nat → z_E} {S : z_S} {o : Nat → Int64} {d : z_H} (R : rowOK S) (W : idsOK S) (V : numsOK S) (hM : sN S 38 ≤ 60) (hM1 : 1 ≤ sN S 38) (hA : sN S 40 = 0) (U : trOK S) (Y : rtsOK S) {x : Int32} (hx : 2 ≤ sN S 38 → x = nI (fn S)) {G : z_G} {X : z_X} (F : z_F vwCl z_ats z_nw wsL_law G RX6 cX6_served 4 (z_rm 3 0 0) X) (hr : X.2.2.2.2.2.2.2.2.1.sig.returnType = some .int) : z_V vwCl G 4 X (z_end vwCl z_ats z_nw G X 0 0 (fun v h' => v = some (.int (nI (sv52 S).1)) ∧ h' = (HP c (mfun ((sv52 S).2) o) d))) 0 0 334 [(0, .ref 11), (1, .int (nI (sN S 38 - 1))), (2, .int x)] [] (HP c (mfun S o) d) := by
  refine z_aload_n F dX6_served_334 rfl rfl ?_
  refine z_getf F vF_X6_7 dX6_served_335 mO_at rfl ?_
  refine z_iconst (v := 3) F dX6_served_338 rfl ?_
  refine z_icmp_eq (tgt := 345) F dX6_served_339 (by decide) (fun c339 => ?_) (fun c339 => ?_)
  · have hp3 : sN S 1 = 3 := (nI_eq (b := 3) (by have := V.1; omega) (by decide)).mp c339
    refine z_iload_n F dX6_served_345 rfl ?_
    refine z_iconst (v := 2) F dX6_served_346 rfl ?_
    refine z_icmp_eq (tgt := 353) F dX6_served_347 (by decide) (fun c347 => ?_) (fun c347 => ?_)
    · have hn : sN S 38 - 1 = 2 := (nI_eq (b := 2) (by omega) (by decide)).mp c347
      refine z_aload_n F dX6_served_353 rfl rfl ?_
      refine z_getf F vF_X6_135 dX6_served_354 mO_at rfl ?_
      refine z_if_eq (tgt := 363) F dX6_served_357 (by decide) (fun c357 => ?_) (fun c357 => ?_)
      · have ho : ¬ sB S 26 = true := by rw [z_b0.mp c357]; decide
        have ht : toldN S 1 < 65536 := by have a1 := R 1; have a2 := R (1 + 1); unfold toldN; omega
        refine z_aload_n F dX6_served_363 rfl rfl ?_
        refine z_iconst (v := 1) F dX6_served_364 rfl ?_
        refine z_callV F z_nwOK wL_good (c_X6_told (a := 1) R (by decide)) mO_at rfl vI_X6_told vM_X6_156 vV_X6_told vL_X6_told rfl dX6_served_365 rfl rfl (Nat.le_of_ble_eq_true rfl) ⟨(Nat.le_of_ble_eq_true rfl), (Nat.le_of_ble_eq_true rfl), (Nat.le_of_ble_eq_true rfl), (Nat.le_of_ble_eq_true rfl)⟩ (fun v h1 hq => ?_)
        obtain ⟨rfl, rfl⟩ := hq
        refine z_i2l F dX6_served_368 ?_
        refine z_lconst (v := 1) F dX6_served_369 rfl ?_
        refine z_ldc2 F vK_X6_159 dX6_served_370 ?_
        refine z_callS F z_nwOK wL_good (c_isIn32 (A := 1) (B := 200) (nI (toldN S 1)) 1 200 rfl rfl) vI_X6_isIn vM_X6_91 vS_X6_isIn rfl dX6_served_373 rfl rfl (Nat.le_of_ble_eq_true rfl) ⟨(Nat.le_of_ble_eq_true rfl), (Nat.le_of_ble_eq_true rfl), (Nat.le_of_ble_eq_true rfl), (Nat.le_of_ble_eq_true rfl)⟩ (fun v h1 hq => ?_)
        obtain ⟨rfl, rfl⟩ := hq
        refine z_if_ne (tgt := 382) F dX6_served_376 (by decide) (fun c376 => ?_) (fun c376 => ?_)
        · have hf : 1 ≤ toldN S 1 ∧ toldN S 1 ≤ 200 := by have h9 := z_b1 c376; rw [nI_toInt (by omega)] at h9; unfold inZ at h9; simp at h9; omega
          have hs : sv52 S = (0, sayS (sayS (uB (uN (uN (uN (uB S 26 true) 27 (toldN S 1)) 28 0) 29 0) 31 false) 116) 8) := by unfold sv52; rw [if_neg (not_not_intro hp3), if_neg (not_not_intro hn), if_neg ho, if_neg (not_not_intro hf)]
          refine z_aload_n F dX6_served_382 rfl rfl ?_
          refine z_iconst (v := 1) F dX6_served_383 rfl ?_
          refine z_putf F vF_X6_135 vT_X6 vD_X6_26 dX6_served_384 mO_at (Nat.le_of_ble_eq_true rfl) rfl rfl (fun g384 => ?_)
          refine z_heap _ (ms_26 (v := true)) ?_
          refine z_aload_n F dX6_served_387 rfl rfl ?_
          refine z_aload_n F dX6_served_388 rfl rfl ?_
          refine z_iconst (v := 1) F dX6_served_389 rfl ?_
          refine z_callV F z_nwOK wL_good (c_X6_told (S := uB S 26 true) (a := 1) R (by decide)) mO_at rfl vI_X6_told vM_X6_156 vV_X6_told vL_X6_told rfl dX6_served_390 rfl rfl (Nat.le_of_ble_eq_true rfl) ⟨(Nat.le_of_ble_eq_true rfl), (Nat.le_of_ble_eq_true rfl), (Nat.le_of_ble_eq_true rfl), (Nat.le_of_ble_eq_true rfl)⟩ (fun v h1 hq => ?_)
          obtain ⟨rfl, rfl⟩ := hq
          refine z_putf F vF_X6_161 vT_X6 vD_X6_27 dX6_served_393 mO_at (Nat.le_of_ble_eq_true rfl) rfl rfl (fun g393 => ?_)
          refine z_heap _ (ms_27) ?_
          refine z_aload_n F dX6_served_396 rfl rfl ?_
          refine z_iconst (v := 0) F dX6_served_397 rfl ?_
          refine z_putf F vF_X6_164 vT_X6 vD_X6_28 dX6_served_398 mO_at (Nat.le_of_ble_eq_true rfl) rfl rfl (fun g398 => ?_)
          refine z_heap _ (ms_28 (v := 0)) ?_
          refine z_aload_n F dX6_served_401 rfl rfl ?_
          refine z_iconst (v := 0) F dX6_served_402 rfl ?_
          refine z_putf F vF_X6_167 vT_X6 vD_X6_29 dX6_served_403 mO_at (Nat.le_of_ble_eq_true rfl) rfl rfl (fun g403 => ?_)
          refine z_heap _ (ms_29 (v := 0)) ?_
          refine z_aload_n F dX6_served_406 rfl rfl ?_
          refine z_iconst (v := 0) F dX6_served_407 rfl ?_
          refine z_putf F vF_X6_170 vT_X6 vD_X6_31 dX6_served_408 mO_at (Nat.le_of_ble_eq_true rfl) rfl rfl (fun g408 => ?_)
          refine z_heap _ (ms_31 (v := false)) ?_
          refine z_aload_n F dX6_served_411 rfl rfl ?_
          refine z_bipush (v := 116) F dX6_served_412 rfl ?_
          refine z_callV F z_nwOK wL_good (c_X6_say (S := uB (uN (uN (uN (uB S 26 true) 27 (toldN S 1)) 28 0) 29 0) 31 false) (b := 116) (show sN S 40 < 1000 by omega) (by decide)) mO_at rfl vI_X6_say vM_X6_131 vV_X6_say vL_X6_say rfl dX6_served_414 rfl rfl (Nat.le_of_ble_eq_true rfl) ⟨(Nat.le_of_ble_eq_true rfl), (Nat.le_of_ble_eq_true rfl), (Nat.le_of_ble_eq_true rfl), (Nat.le_of_ble_eq_true rfl)⟩ (fun v h1 hq => ?_)
          obtain ⟨rfl, rfl⟩ := hq
          refine z_aload_n F dX6_served_417 rfl rfl ?_
          refine z_bipush (v := 8) F dX6_served_418 rfl ?_
          refine z_callV F z_nwOK wL_good (c_X6_say (S := sayS (uB (uN (uN (uN (uB S 26 true) 27 (toldN S 1)) 28 0) 29 0) 31 false) 116) (b := 8) (show sN S 40 + 1 < 1000 by omega) (by decide)) mO_at rfl vI_X6_say vM_X6_131 vV_X6_say vL_X6_say rfl dX6_served_420 rfl rfl (Nat.le_of_ble_eq_true rfl) ⟨(Nat.le_of_ble_eq_true rfl), (Nat.le_of_ble_eq_true rfl), (Nat.le_of_ble_eq_true rfl), (Nat.le_of_ble_eq_true rfl)⟩ (fun v h1 hq => ?_)
          obtain ⟨rfl, rfl⟩ := hq
          refine z_iconst (v := 0) F dX6_served_423 rfl ?_
          exact z_iret F hr dX6_served_424 rfl (Nat.le_of_ble_eq_true rfl) (Nat.le_of_ble_eq_true rfl) (⟨by rw [hs]; try rfl, by rw [hs]; try rfl⟩)
        · have hf : ¬ (1 ≤ toldN S 1 ∧ toldN S 1 ≤ 200) := by have h9 := z_b0.mp c376; rw [nI_toInt (by omega)] at h9; unfold inZ at h9; simp at h9; omega
          have hs : sv52 S = (49, S) := by unfold sv52; rw [if_neg (not_not_intro hp3), if_neg (not_not_intro hn), if_neg ho, if_pos hf]
          refine z_bipush (v := 49) F dX6_served_379 rfl ?_
          exact z_iret F hr dX6_served_381 rfl (Nat.le_of_ble_eq_true rfl) (Nat.le_of_ble_eq_true rfl) (⟨by rw [hs]; try rfl, by rw [hs]; try rfl⟩)
      · have hs : sv52 S = (112, S) := by unfold sv52; rw [if_neg (not_not_intro hp3), if_neg (not_not_intro hn), if_pos (z_b1 c357)]
        refine z_bipush (v := 112) F dX6_served_360 rfl ?_
        exact z_iret F hr dX6_served_362 rfl (Nat.le_of_ble_eq_true rfl) (Nat.le_of_ble_eq_true rfl) (⟨by rw [hs]; try rfl, by rw [hs]; try rfl⟩)
    · have hn : ¬ sN S 38 - 1 = 2 := fun e => c347 (by rw [e]; rfl)
      have hs : sv52 S = (19, S) := by unfold sv52; rw [if_neg (not_not_intro hp3), if_pos hn]
      refine z_bipush (v := 19) F dX6_served_350 rfl ?_
      exact z_iret F hr dX6_served_352 rfl (Nat.le_of_ble_eq_true rfl) (Nat.le_of_ble_eq_true rfl) (⟨by rw [hs]; try rfl, by rw [hs]; try rfl⟩)
  · have hp3 : ¬ sN S 1 = 3 := fun e => c339 (by rw [e]; rfl)
    have hs : sv52 S = (127, S) := if_pos hp3
    refine z_bipush (v := 127) F dX6_served_342 rfl ?_
    exact z_iret F hr dX6_served_344 rfl (Nat.le_of_ble_eq_true rfl) (Nat.le_of_ble_eq_true rfl) (⟨by rw [hs]; try rfl, by rw [hs]; try rfl⟩)

set_option maxRecDepth 100000 in
set_option maxHeartbeats 1000000 in
theorem t_X6_55 {c : Nat → z_E} {S : z_S} {o : Nat → Int64} {d : z_H} (R : rowOK S) (W : idsOK S) (V : numsOK S) (hM : sN S 38 ≤ 60) (hM1 : 1 ≤ sN S 38) (hA : sN S 40 = 0) (U : trOK S) (Y : rtsOK S) {x : Int32} (hx : 2 ≤ sN S 38 → x = nI (fn S)) {G : z_G} {X : z_X} (F : z_F vwCl z_ats z_nw wsL_law G RX6 cX6_served 4 (z_rm 3 0 0) X) (hr : X.2.2.2.2.2.2.2.2.1.sig.returnType = some .int) : z_V vwCl G 4 X (z_end vwCl z_ats z_nw G X 0 0 (fun v h' => v = some (.int (nI (sv55 S).1)) ∧ h' = (HP c (mfun ((sv55 S).2) o) d))) 0 0 431 [(0, .ref 11), (1, .int (nI (sN S 38 - 1))), (2, .int x)] [] (HP c (mfun S o) d) := by
  refine z_aload_n F dX6_served_431 rfl rfl ?_
  refine z_getf F vF_X6_7 dX6_served_432 mO_at rfl ?_
  refine z_iconst (v := 3) F dX6_served_435 rfl ?_
  refine z_icmp_eq (tgt := 442) F dX6_served_436 (by decide) (fun c436 => ?_) (fun c436 => ?_)
  · have hp3 : sN S 1 = 3 := (nI_eq (b := 3) (by have := V.1; omega) (by decide)).mp c436
    refine z_iload_n F dX6_served_442 rfl ?_
    refine z_if_eq (tgt := 449) F dX6_served_443 (by decide) (fun c443 => ?_) (fun c443 => ?_)
    · have hn : sN S 38 - 1 = 0 := (nI_eq (b := 0) (by omega) (by decide)).mp c443
      obtain ⟨u1, u2, u3, u4⟩ := id U
      refine z_aload_n F dX6_served_449 rfl rfl ?_
      refine z_getf F vF_X6_135 dX6_served_450 mO_at rfl ?_
      refine z_if_eq (tgt := 467) F dX6_served_453 (by decide) (fun c453 => ?_) (fun c453 => ?_)
      · have hs : sv55 S = (36, S) := by unfold sv55; rw [if_neg (not_not_intro hp3), if_neg (not_not_intro hn), if_pos (Or.inl (z_b0.mp c453))]
        refine z_bipush (v := 36) F dX6_served_467 rfl ?_
        exact z_iret F hr dX6_served_469 rfl (Nat.le_of_ble_eq_true rfl) (Nat.le_of_ble_eq_true rfl) (⟨by rw [hs]; try rfl, by rw [hs]; try rfl⟩)
      · refine z_aload_n F dX6_served_456 rfl rfl ?_
        refine z_getf F vF_X6_164 dX6_served_457 mO_at rfl ?_
        refine z_aload_n F dX6_served_460 rfl rfl ?_
        refine z_getf F vF_X6_161 dX6_served_461 mO_at rfl ?_
        refine z_icmp_ge (tgt := 470) F dX6_served_464 (by decide) (fun c464 => ?_) (fun c464 => ?_)
        · have ht : ¬ (sB S 26 = false ∨ sN S 28 < sN S 27) := fun e => e.elim (fun q => absurd q (by rw [z_b1 c453]; decide)) (fun q => by have := (nI_leI (a := sN S 27) (b := sN S 28) (by omega) (by omega)).mp c464; omega)
          have hs : sv55 S = (0, sayS (sayS (sayS (uB S 26 false) 119) (sN S 29 / 256)) (sN S 29)) := by unfold sv55; rw [if_neg (not_not_intro hp3), if_neg (not_not_intro hn), if_neg ht]
          refine z_aload_n F dX6_served_470 rfl rfl ?_
          refine z_iconst (v := 0) F dX6_served_471 rfl ?_
          refine z_putf F vF_X6_135 vT_X6 vD_X6_26 dX6_served_472 mO_at (Nat.le_of_ble_eq_true rfl) rfl rfl (fun g472 => ?_)
          refine z_heap _ (ms_26 (v := false)) ?_
          refine z_aload_n F dX6_served_475 rfl rfl ?_
          refine z_bipush (v := 119) F dX6_served_476 rfl ?_
          refine z_aload_n F dX6_served_478 rfl rfl ?_
          refine z_getf F vF_X6_167 dX6_served_479 mO_at rfl ?_
          refine z_bipush (v := 8) F dX6_served_482 rfl ?_
          refine z_ishr F dX6_served_484 ?_
          rw [pk_shrN (n := sN (uB S 26 false) 29) (show sN S 29 < 2 ^ 31 by omega) ((8 : Int32) &&& 31) 8 (by decide)]
          refine z_aload_n F dX6_served_485 rfl rfl ?_
          refine z_getf F vF_X6_167 dX6_served_486 mO_at rfl ?_
          refine z_callV F z_nwOK wL_good (c_X6_threeSaid (S := uB S 26 false) (x := 119) (y := sN S 29 / 256) (w := sN S 29) (show sN S 40 < 900 by omega) (by decide) (by omega) (by omega)) mO_at rfl vI_X6_threeSaid vM_X6_176 vV_X6_threeSaid vL_X6_threeSaid rfl dX6_served_489 rfl rfl (Nat.le_of_ble_eq_true rfl) ⟨(Nat.le_of_ble_eq_true rfl), (Nat.le_of_ble_eq_true rfl), (Nat.le_of_ble_eq_true rfl), (Nat.le_of_ble_eq_true rfl)⟩ (fun v h1 hq => ?_)
          obtain ⟨rfl, rfl⟩ := hq
          refine z_iconst (v := 0) F dX6_served_492 rfl ?_
          exact z_iret F hr dX6_served_493 rfl (Nat.le_of_ble_eq_true rfl) (Nat.le_of_ble_eq_true rfl) (⟨by rw [hs]; try rfl, by rw [hs]; try rfl⟩)
        · have hs : sv55 S = (36, S) := by unfold sv55; rw [if_neg (not_not_intro hp3), if_neg (not_not_intro hn), if_pos (Or.inr (by have := mt (nI_leI (a := sN S 27) (b := sN S 28) (by omega) (by omega)).mpr c464; omega))]
          refine z_bipush (v := 36) F dX6_served_467 rfl ?_
          exact z_iret F hr dX6_served_469 rfl (Nat.le_of_ble_eq_true rfl) (Nat.le_of_ble_eq_true rfl) (⟨by rw [hs]; try rfl, by rw [hs]; try rfl⟩)
    · have hn : ¬ sN S 38 - 1 = 0 := fun e => c443 (by rw [e]; rfl)
      have hs : sv55 S = (19, S) := by unfold sv55; rw [if_neg (not_not_intro hp3), if_pos hn]
      refine z_bipush (v := 19) F dX6_served_446 rfl ?_
      exact z_iret F hr dX6_served_448 rfl (Nat.le_of_ble_eq_true rfl) (Nat.le_of_ble_eq_true rfl) (⟨by rw [hs]; try rfl, by rw [hs]; try rfl⟩)
  · have hp3 : ¬ sN S 1 = 3 := fun e => c436 (by rw [e]; rfl)
    have hs : sv55 S = (127, S) := if_pos hp3
    refine z_bipush (v := 127) F dX6_served_439 rfl ?_
    exact z_iret F hr dX6_served_441 rfl (Nat.le_of_ble_eq_true rfl) (Nat.le_of_ble_eq_true rfl) (⟨by rw [hs]; try rfl, by rw [hs]; try rfl⟩)

set_option maxRecDepth 100000 in
set_option maxHeartbeats 1000000 in
theorem t_X6_34 {c : Nat → z_E} {S : z_S} {o : Nat → Int64} {d : z_H} (R : rowOK S) (W : idsOK S) (V : numsOK S) (hM : sN S 38 ≤ 60) (hM1 : 1 ≤ sN S 38) (hA : sN S 40 = 0) (U : trOK S) (Y : rtsOK S) {x : Int32} (hx : 2 ≤ sN S 38 → x = nI (fn S)) {G : z_G} {X : z_X} (F : z_F vwCl z_ats z_nw wsL_law G RX6 cX6_served 4 (z_rm 3 0 0) X) (hr : X.2.2.2.2.2.2.2.2.1.sig.returnType = some .int) : z_V vwCl G 4 X (z_end vwCl z_ats z_nw G X 0 0 (fun v h' => v = some (.int (nI (sv34 S).1)) ∧ h' = (HP c (mfun ((sv34 S).2) o) d))) 0 0 309 [(0, .ref 11), (1, .int (nI (sN S 38 - 1))), (2, .int x)] [] (HP c (mfun S o) d) := by
  refine z_aload_n F dX6_served_309 rfl rfl ?_
  refine z_iload_n F dX6_served_310 rfl ?_
  refine z_callV F z_nwOK wL_good (c_X6_read R W V hM hM1 hA) mO_at rfl vI_X6_read vM_X6_144 vV_X6_read vL_X6_read rfl dX6_served_311 rfl rfl (Nat.le_of_ble_eq_true rfl) ⟨(Nat.le_of_ble_eq_true rfl), (Nat.le_of_ble_eq_true rfl), (Nat.le_of_ble_eq_true rfl), (Nat.le_of_ble_eq_true rfl)⟩ (fun v h1 hq => ?_)
  obtain ⟨rfl, rfl⟩ := hq
  exact z_iret F hr dX6_served_314 rfl (Nat.le_of_ble_eq_true rfl) (Nat.le_of_ble_eq_true rfl) (⟨rfl, rfl⟩)

set_option maxRecDepth 100000 in
set_option maxHeartbeats 1000000 in
theorem t_X6_46 {c : Nat → z_E} {S : z_S} {o : Nat → Int64} {d : z_H} (R : rowOK S) (W : idsOK S) (V : numsOK S) (hM : sN S 38 ≤ 60) (hM1 : 1 ≤ sN S 38) (hA : sN S 40 = 0) (U : trOK S) (Y : rtsOK S) {x : Int32} (hx : 2 ≤ sN S 38 → x = nI (fn S)) {G : z_G} {X : z_X} (F : z_F vwCl z_ats z_nw wsL_law G RX6 cX6_served 4 (z_rm 3 0 0) X) (hr : X.2.2.2.2.2.2.2.2.1.sig.returnType = some .int) : z_V vwCl G 4 X (z_end vwCl z_ats z_nw G X 0 0 (fun v h' => v = some (.int (nI (sv46 S).1)) ∧ h' = (HP c (mfun ((sv46 S).2) o) d))) 0 0 315 [(0, .ref 11), (1, .int (nI (sN S 38 - 1))), (2, .int x)] [] (HP c (mfun S o) d) := by
  refine z_aload_n F dX6_served_315 rfl rfl ?_
  refine z_iload_n F dX6_served_316 rfl ?_
  refine z_callV F z_nwOK wL_good (c_X6_write R W V hM hM1 hA) mO_at rfl vI_X6_write vM_X6_147 vV_X6_write vL_X6_write rfl dX6_served_317 rfl rfl (Nat.le_of_ble_eq_true rfl) ⟨(Nat.le_of_ble_eq_true rfl), (Nat.le_of_ble_eq_true rfl), (Nat.le_of_ble_eq_true rfl), (Nat.le_of_ble_eq_true rfl)⟩ (fun v h1 hq => ?_)
  obtain ⟨rfl, rfl⟩ := hq
  exact z_iret F hr dX6_served_320 rfl (Nat.le_of_ble_eq_true rfl) (Nat.le_of_ble_eq_true rfl) (⟨rfl, rfl⟩)

set_option maxRecDepth 100000 in
set_option maxHeartbeats 1000000 in
theorem t_X6_47 {c : Nat → z_E} {S : z_S} {o : Nat → Int64} {d : z_H} (R : rowOK S) (W : idsOK S) (V : numsOK S) (hM : sN S 38 ≤ 60) (hM1 : 1 ≤ sN S 38) (hA : sN S 40 = 0) (U : trOK S) (Y : rtsOK S) {x : Int32} (hx : 2 ≤ sN S 38 → x = nI (fn S)) {G : z_G} {X : z_X} (F : z_F vwCl z_ats z_nw wsL_law G RX6 cX6_served 4 (z_rm 3 0 0) X) (hr : X.2.2.2.2.2.2.2.2.1.sig.returnType = some .int) : z_V vwCl G 4 X (z_end vwCl z_ats z_nw G X 0 0 (fun v h' => v = some (.int (nI (sv47 S).1)) ∧ h' = (HP c (mfun ((sv47 S).2) o) d))) 0 0 321 [(0, .ref 11), (1, .int (nI (sN S 38 - 1))), (2, .int x)] [] (HP c (mfun S o) d) := by
  refine z_aload_n F dX6_served_321 rfl rfl ?_
  refine z_iload_n F dX6_served_322 rfl ?_
  refine z_callV F z_nwOK wL_good (c_X6_controls R W V hM hM1 hA) mO_at rfl vI_X6_controls vM_X6_150 vV_X6_controls vL_X6_controls rfl dX6_served_323 rfl rfl (Nat.le_of_ble_eq_true rfl) ⟨(Nat.le_of_ble_eq_true rfl), (Nat.le_of_ble_eq_true rfl), (Nat.le_of_ble_eq_true rfl), (Nat.le_of_ble_eq_true rfl)⟩ (fun v h1 hq => ?_)
  obtain ⟨rfl, rfl⟩ := hq
  exact z_iret F hr dX6_served_326 rfl (Nat.le_of_ble_eq_true rfl) (Nat.le_of_ble_eq_true rfl) (⟨rfl, rfl⟩)

set_option maxRecDepth 100000 in
set_option maxHeartbeats 1000000 in
theorem t_X6_49 {c : Nat → z_E} {S : z_S} {o : Nat → Int64} {d : z_H} (R : rowOK S) (W : idsOK S) (V : numsOK S) (hM : sN S 38 ≤ 60) (hM1 : 1 ≤ sN S 38) (hA : sN S 40 = 0) (U : trOK S) (Y : rtsOK S) {x : Int32} (hx : 2 ≤ sN S 38 → x = nI (fn S)) {G : z_G} {X : z_X} (F : z_F vwCl z_ats z_nw wsL_law G RX6 cX6_served 4 (z_rm 3 0 0) X) (hr : X.2.2.2.2.2.2.2.2.1.sig.returnType = some .int) : z_V vwCl G 4 X (z_end vwCl z_ats z_nw G X 0 0 (fun v h' => v = some (.int (nI (sv49 S).1)) ∧ h' = (HP c (mfun ((sv49 S).2) o) d))) 0 0 327 [(0, .ref 11), (1, .int (nI (sN S 38 - 1))), (2, .int x)] [] (HP c (mfun S o) d) := by
  refine z_aload_n F dX6_served_327 rfl rfl ?_
  refine z_iload_n F dX6_served_328 rfl ?_
  refine z_iload_n F dX6_served_329 rfl ?_
  refine z_callV F z_nwOK wL_good (c_X6_runs R W V hM hM1 hA hx Y) mO_at rfl vI_X6_runs vM_X6_153 vV_X6_runs vL_X6_runs rfl dX6_served_330 rfl rfl (Nat.le_of_ble_eq_true rfl) ⟨(Nat.le_of_ble_eq_true rfl), (Nat.le_of_ble_eq_true rfl), (Nat.le_of_ble_eq_true rfl), (Nat.le_of_ble_eq_true rfl)⟩ (fun v h1 hq => ?_)
  obtain ⟨rfl, rfl⟩ := hq
  exact z_iret F hr dX6_served_333 rfl (Nat.le_of_ble_eq_true rfl) (Nat.le_of_ble_eq_true rfl) (⟨rfl, rfl⟩)

set_option maxRecDepth 100000 in
set_option maxHeartbeats 1000000 in
theorem t_X6_54 {c : Nat → z_E} {S : z_S} {o : Nat → Int64} {d : z_H} (R : rowOK S) (W : idsOK S) (V : numsOK S) (hM : sN S 38 ≤ 60) (hM1 : 1 ≤ sN S 38) (hA : sN S 40 = 0) (U : trOK S) (Y : rtsOK S) {x : Int32} (hx : 2 ≤ sN S 38 → x = nI (fn S)) {G : z_G} {X : z_X} (F : z_F vwCl z_ats z_nw wsL_law G RX6 cX6_served 4 (z_rm 3 0 0) X) (hr : X.2.2.2.2.2.2.2.2.1.sig.returnType = some .int) : z_V vwCl G 4 X (z_end vwCl z_ats z_nw G X 0 0 (fun v h' => v = some (.int (nI (sv54 S).1)) ∧ h' = (HP c (mfun ((sv54 S).2) o) d))) 0 0 425 [(0, .ref 11), (1, .int (nI (sN S 38 - 1))), (2, .int x)] [] (HP c (mfun S o) d) := by
  refine z_aload_n F dX6_served_425 rfl rfl ?_
  refine z_iload_n F dX6_served_426 rfl ?_
  refine z_callV F z_nwOK wL_good (c_X6_takes R W V hM hM1 hA U) mO_at rfl vI_X6_takes vM_X6_173 vV_X6_takes vL_X6_takes rfl dX6_served_427 rfl rfl (Nat.le_of_ble_eq_true rfl) ⟨(Nat.le_of_ble_eq_true rfl), (Nat.le_of_ble_eq_true rfl), (Nat.le_of_ble_eq_true rfl), (Nat.le_of_ble_eq_true rfl)⟩ (fun v h1 hq => ?_)
  obtain ⟨rfl, rfl⟩ := hq
  exact z_iret F hr dX6_served_430 rfl (Nat.le_of_ble_eq_true rfl) (Nat.le_of_ble_eq_true rfl) (⟨rfl, rfl⟩)

set_option maxRecDepth 100000 in
set_option maxHeartbeats 1000000 in
theorem c_X6_served {c : Nat → z_E} {S : z_S} {o : Nat → Int64} {d : z_H} (R : rowOK S) (W : idsOK S) (V : numsOK S) (hM : sN S 38 ≤ 60) (hM1 : 1 ≤ sN S 38) (hA : sN S 40 = 0) (U : trOK S) (Y : rtsOK S) : z_K yX6_served cX6_served 4 (some .int) 3 0 0 [.ref 11] (HP c (mfun S o) d) (fun v h' => v = some (.int (nI (svd S).1)) ∧ h' = (HP c (mfun ((svd S).2) o) d)) := by
  refine z_met vI_X6_served (Nat.le_of_ble_eq_true rfl) (fun G X F hr hnm => ?_)
  refine z_aload_n F dX6_served_0 rfl rfl ?_
  refine z_getf F vF_X6_138 dX6_served_1 mO_at rfl ?_
  refine z_iconst (v := 1) F dX6_served_4 rfl ?_
  refine z_isub F dX6_served_5 ?_
  rw [show nI (sN S 38) - 1 = nI (sN S 38 - 1) from pk_sub (b := 1) hM1]
  refine z_istore_n F dX6_served_6 (Nat.le_of_ble_eq_true rfl) ?_
  refine z_iload_n F dX6_served_7 rfl ?_
  refine z_if_le (tgt := 23) F dX6_served_8 (by decide) (fun c8 => ?_) (fun c8 => ?_)
  · refine z_iconst (v := (-1)) F dX6_served_23 rfl ?_
    refine z_istore_n F dX6_served_24 (Nat.le_of_ble_eq_true rfl) ?_
    refine z_aload_n F dX6_served_25 rfl rfl ?_
    refine z_getf F vF_X6_74 dX6_served_26 mO_at rfl ?_
    refine z_iconst (v := 0) F dX6_served_29 rfl ?_
    refine z_iald (j := 0) F dX6_served_30 mA_39 rfl rfl (show 0 < 60 by decide) (Nat.le_of_ble_eq_true rfl) ?_
    have hx : 2 ≤ sN S 38 → (-1 : Int32) = nI (fn S) := fun h9 => absurd ((nI_leI (b := 0) (by omega) (by decide)).mp c8) (by omega)
    have hr0 := R 0
    by_cases e16 : sAN S 39 0 = 16
    · have hsv : svd S = sv16 S := by unfold svd; rw [if_pos e16]
      refine z_lookup (off := 89) (tgt := 120) F dX6_served_31 (by decide) (by rw [show sAN S 39 0 = 16 from e16]; decide) (by decide) ?_
      rw [hsv]
      exact t_X6_16 R W V hM hM1 hA U Y hx F hr
    by_cases e17 : sAN S 39 0 = 17
    · have hsv : svd S = sv17 S := by unfold svd; rw [if_neg e16, if_pos e17]
      refine z_lookup (off := 173) (tgt := 204) F dX6_served_31 (by decide) (by rw [show sAN S 39 0 = 17 from e17]; decide) (by decide) ?_
      rw [hsv]
      exact t_X6_17 R W V hM hM1 hA U Y hx F hr
    by_cases e34 : sAN S 39 0 = 34
    · have hsv : svd S = sv34 S := by unfold svd; rw [if_neg e16, if_neg e17, if_pos e34]
      refine z_lookup (off := 278) (tgt := 309) F dX6_served_31 (by decide) (by rw [show sAN S 39 0 = 34 from e34]; decide) (by decide) ?_
      rw [hsv]
      exact t_X6_34 R W V hM hM1 hA U Y hx F hr
    by_cases e46 : sAN S 39 0 = 46
    · have hsv : svd S = sv46 S := by unfold svd; rw [if_neg e16, if_neg e17, if_neg e34, if_pos e46]
      refine z_lookup (off := 284) (tgt := 315) F dX6_served_31 (by decide) (by rw [show sAN S 39 0 = 46 from e46]; decide) (by decide) ?_
      rw [hsv]
      exact t_X6_46 R W V hM hM1 hA U Y hx F hr
    by_cases e47 : sAN S 39 0 = 47
    · have hsv : svd S = sv47 S := by unfold svd; rw [if_neg e16, if_neg e17, if_neg e34, if_neg e46, if_pos e47]
      refine z_lookup (off := 290) (tgt := 321) F dX6_served_31 (by decide) (by rw [show sAN S 39 0 = 47 from e47]; decide) (by decide) ?_
      rw [hsv]
      exact t_X6_47 R W V hM hM1 hA U Y hx F hr
    by_cases e49 : sAN S 39 0 = 49
    · have hsv : svd S = sv49 S := by unfold svd; rw [if_neg e16, if_neg e17, if_neg e34, if_neg e46, if_neg e47, if_pos e49]
      refine z_lookup (off := 296) (tgt := 327) F dX6_served_31 (by decide) (by rw [show sAN S 39 0 = 49 from e49]; decide) (by decide) ?_
      rw [hsv]
      exact t_X6_49 R W V hM hM1 hA U Y hx F hr
    by_cases e52 : sAN S 39 0 = 52
    · have hsv : svd S = sv52 S := by unfold svd; rw [if_neg e16, if_neg e17, if_neg e34, if_neg e46, if_neg e47, if_neg e49, if_pos e52]
      refine z_lookup (off := 303) (tgt := 334) F dX6_served_31 (by decide) (by rw [show sAN S 39 0 = 52 from e52]; decide) (by decide) ?_
      rw [hsv]
      exact t_X6_52 R W V hM hM1 hA U Y hx F hr
    by_cases e54 : sAN S 39 0 = 54
    · have hsv : svd S = sv54 S := by unfold svd; rw [if_neg e16, if_neg e17, if_neg e34, if_neg e46, if_neg e47, if_neg e49, if_neg e52, if_pos e54]
      refine z_lookup (off := 394) (tgt := 425) F dX6_served_31 (by decide) (by rw [show sAN S 39 0 = 54 from e54]; decide) (by decide) ?_
      rw [hsv]
      exact t_X6_54 R W V hM hM1 hA U Y hx F hr
    by_cases e55 : sAN S 39 0 = 55
    · have hsv : svd S = sv55 S := by unfold svd; rw [if_neg e16, if_neg e17, if_neg e34, if_neg e46, if_neg e47, if_neg e49, if_neg e52, if_neg e54, if_pos e55]
      refine z_lookup (off := 400) (tgt := 431) F dX6_served_31 (by decide) (by rw [show sAN S 39 0 = 55 from e55]; decide) (by decide) ?_
      rw [hsv]
      exact t_X6_55 R W V hM hM1 hA U Y hx F hr
    by_cases e62 : sAN S 39 0 = 62
    · have hsv : svd S = sv62 S := by unfold svd; rw [if_neg e16, if_neg e17, if_neg e34, if_neg e46, if_neg e47, if_neg e49, if_neg e52, if_neg e54, if_neg e55, if_pos e62]
      refine z_lookup (off := 145) (tgt := 176) F dX6_served_31 (by decide) (by rw [show sAN S 39 0 = 62 from e62]; decide) (by decide) ?_
      rw [hsv]
      exact t_X6_62 R W V hM hM1 hA U Y hx F hr
    have hs : svd S = (17, S) := by unfold svd; rw [if_neg e16, if_neg e17, if_neg e34, if_neg e46, if_neg e47, if_neg e49, if_neg e52, if_neg e54, if_neg e55, if_neg e62]
    refine z_lookup (off := 463) (tgt := 494) F dX6_served_31 (by decide) (by rw [nI_toInt (by omega)]; simp only [Op.lookupswitch.offset_cons]; simp [show ¬ ((16 : Int) = (sAN S 39 0 : Int)) from by omega, show ¬ ((17 : Int) = (sAN S 39 0 : Int)) from by omega, show ¬ ((34 : Int) = (sAN S 39 0 : Int)) from by omega, show ¬ ((46 : Int) = (sAN S 39 0 : Int)) from by omega, show ¬ ((47 : Int) = (sAN S 39 0 : Int)) from by omega, show ¬ ((49 : Int) = (sAN S 39 0 : Int)) from by omega, show ¬ ((52 : Int) = (sAN S 39 0 : Int)) from by omega, show ¬ ((54 : Int) = (sAN S 39 0 : Int)) from by omega, show ¬ ((55 : Int) = (sAN S 39 0 : Int)) from by omega, show ¬ ((62 : Int) = (sAN S 39 0 : Int)) from by omega]; rfl) (by decide) ?_
    refine z_bipush (v := 17) F dX6_served_494 rfl ?_
    exact z_iret F hr dX6_served_496 rfl (Nat.le_of_ble_eq_true rfl) (Nat.le_of_ble_eq_true rfl) (⟨by rw [hs]; try rfl, by rw [hs]; try rfl⟩)
  · refine z_aload_n F dX6_served_11 rfl rfl ?_
    refine z_getf F vF_X6_74 dX6_served_12 mO_at rfl ?_
    refine z_iconst (v := 1) F dX6_served_15 rfl ?_
    refine z_iald (j := 1) F dX6_served_16 mA_39 rfl rfl (show 1 < 60 by decide) (Nat.le_of_ble_eq_true rfl) ?_
    refine z_bipush (v := 127) F dX6_served_17 rfl ?_
    refine z_iand F dX6_served_19 ?_
    rw [pk_andN (show sAN S 39 1 < 2 ^ 32 by have := R 1; omega) 7 (by decide)]
    refine z_goto (tgt := 24) F dX6_served_20 (by decide) ?_
    refine z_istore_n F dX6_served_24 (Nat.le_of_ble_eq_true rfl) ?_
    refine z_aload_n F dX6_served_25 rfl rfl ?_
    refine z_getf F vF_X6_74 dX6_served_26 mO_at rfl ?_
    refine z_iconst (v := 0) F dX6_served_29 rfl ?_
    refine z_iald (j := 0) F dX6_served_30 mA_39 rfl rfl (show 0 < 60 by decide) (Nat.le_of_ble_eq_true rfl) ?_
    have hx : 2 ≤ sN S 38 → nI (sAN S 39 1 % 2 ^ 7) = nI (fn S) := fun _ => rfl
    have hr0 := R 0
    by_cases e16 : sAN S 39 0 = 16
    · have hsv : svd S = sv16 S := by unfold svd; rw [if_pos e16]
      refine z_lookup (off := 89) (tgt := 120) F dX6_served_31 (by decide) (by rw [show sAN S 39 0 = 16 from e16]; decide) (by decide) ?_
      rw [hsv]
      exact t_X6_16 R W V hM hM1 hA U Y hx F hr
    by_cases e17 : sAN S 39 0 = 17
    · have hsv : svd S = sv17 S := by unfold svd; rw [if_neg e16, if_pos e17]
      refine z_lookup (off := 173) (tgt := 204) F dX6_served_31 (by decide) (by rw [show sAN S 39 0 = 17 from e17]; decide) (by decide) ?_
      rw [hsv]
      exact t_X6_17 R W V hM hM1 hA U Y hx F hr
    by_cases e34 : sAN S 39 0 = 34
    · have hsv : svd S = sv34 S := by unfold svd; rw [if_neg e16, if_neg e17, if_pos e34]
      refine z_lookup (off := 278) (tgt := 309) F dX6_served_31 (by decide) (by rw [show sAN S 39 0 = 34 from e34]; decide) (by decide) ?_
      rw [hsv]
      exact t_X6_34 R W V hM hM1 hA U Y hx F hr
    by_cases e46 : sAN S 39 0 = 46
    · have hsv : svd S = sv46 S := by unfold svd; rw [if_neg e16, if_neg e17, if_neg e34, if_pos e46]
      refine z_lookup (off := 284) (tgt := 315) F dX6_served_31 (by decide) (by rw [show sAN S 39 0 = 46 from e46]; decide) (by decide) ?_
      rw [hsv]
      exact t_X6_46 R W V hM hM1 hA U Y hx F hr
    by_cases e47 : sAN S 39 0 = 47
    · have hsv : svd S = sv47 S := by unfold svd; rw [if_neg e16, if_neg e17, if_neg e34, if_neg e46, if_pos e47]
      refine z_lookup (off := 290) (tgt := 321) F dX6_served_31 (by decide) (by rw [show sAN S 39 0 = 47 from e47]; decide) (by decide) ?_
      rw [hsv]
      exact t_X6_47 R W V hM hM1 hA U Y hx F hr
    by_cases e49 : sAN S 39 0 = 49
    · have hsv : svd S = sv49 S := by unfold svd; rw [if_neg e16, if_neg e17, if_neg e34, if_neg e46, if_neg e47, if_pos e49]
      refine z_lookup (off := 296) (tgt := 327) F dX6_served_31 (by decide) (by rw [show sAN S 39 0 = 49 from e49]; decide) (by decide) ?_
      rw [hsv]
      exact t_X6_49 R W V hM hM1 hA U Y hx F hr
    by_cases e52 : sAN S 39 0 = 52
    · have hsv : svd S = sv52 S := by unfold svd; rw [if_neg e16, if_neg e17, if_neg e34, if_neg e46, if_neg e47, if_neg e49, if_pos e52]
      refine z_lookup (off := 303) (tgt := 334) F dX6_served_31 (by decide) (by rw [show sAN S 39 0 = 52 from e52]; decide) (by decide) ?_
      rw [hsv]
      exact t_X6_52 R W V hM hM1 hA U Y hx F hr
    by_cases e54 : sAN S 39 0 = 54
    · have hsv : svd S = sv54 S := by unfold svd; rw [if_neg e16, if_neg e17, if_neg e34, if_neg e46, if_neg e47, if_neg e49, if_neg e52, if_pos e54]
      refine z_lookup (off := 394) (tgt := 425) F dX6_served_31 (by decide) (by rw [show sAN S 39 0 = 54 from e54]; decide) (by decide) ?_
      rw [hsv]
      exact t_X6_54 R W V hM hM1 hA U Y hx F hr
    by_cases e55 : sAN S 39 0 = 55
    · have hsv : svd S = sv55 S := by unfold svd; rw [if_neg e16, if_neg e17, if_neg e34, if_neg e46, if_neg e47, if_neg e49, if_neg e52, if_neg e54, if_pos e55]
      refine z_lookup (off := 400) (tgt := 431) F dX6_served_31 (by decide) (by rw [show sAN S 39 0 = 55 from e55]; decide) (by decide) ?_
      rw [hsv]
      exact t_X6_55 R W V hM hM1 hA U Y hx F hr
    by_cases e62 : sAN S 39 0 = 62
    · have hsv : svd S = sv62 S := by unfold svd; rw [if_neg e16, if_neg e17, if_neg e34, if_neg e46, if_neg e47, if_neg e49, if_neg e52, if_neg e54, if_neg e55, if_pos e62]
      refine z_lookup (off := 145) (tgt := 176) F dX6_served_31 (by decide) (by rw [show sAN S 39 0 = 62 from e62]; decide) (by decide) ?_
      rw [hsv]
      exact t_X6_62 R W V hM hM1 hA U Y hx F hr
    have hs : svd S = (17, S) := by unfold svd; rw [if_neg e16, if_neg e17, if_neg e34, if_neg e46, if_neg e47, if_neg e49, if_neg e52, if_neg e54, if_neg e55, if_neg e62]
    refine z_lookup (off := 463) (tgt := 494) F dX6_served_31 (by decide) (by rw [nI_toInt (by omega)]; simp only [Op.lookupswitch.offset_cons]; simp [show ¬ ((16 : Int) = (sAN S 39 0 : Int)) from by omega, show ¬ ((17 : Int) = (sAN S 39 0 : Int)) from by omega, show ¬ ((34 : Int) = (sAN S 39 0 : Int)) from by omega, show ¬ ((46 : Int) = (sAN S 39 0 : Int)) from by omega, show ¬ ((47 : Int) = (sAN S 39 0 : Int)) from by omega, show ¬ ((49 : Int) = (sAN S 39 0 : Int)) from by omega, show ¬ ((52 : Int) = (sAN S 39 0 : Int)) from by omega, show ¬ ((54 : Int) = (sAN S 39 0 : Int)) from by omega, show ¬ ((55 : Int) = (sAN S 39 0 : Int)) from by omega, show ¬ ((62 : Int) = (sAN S 39 0 : Int)) from by omega]; rfl) (by decide) ?_
    refine z_bipush (v := 17) F dX6_served_494 rfl ?_
    exact z_iret F hr dX6_served_496 rfl (Nat.le_of_ble_eq_true rfl) (Nat.le_of_ble_eq_true rfl) (⟨by rw [hs]; try rfl, by rw [hs]; try rfl⟩)
