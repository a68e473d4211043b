theorem z_pick {cl : List vw_C} {G : z_G} {nL : Nat} {X : z_X} {Q : State → Prop} {cells slots pc : Nat} {lv lv' : List (Nat × Value)} {st : List Value} {h : z_H} (ks : List Nat) (hl : lv_pick lv ks = lv') (k : z_V cl G nL X Q cells slots pc lv' st h) : z_V cl G nL X Q cells slots pc lv st h := by
  intro H locs ls a b d
  refine k H locs ls a b ⟨d.1, d.2.1, fun q hq => d.2.2 q ?_⟩
  obtain ⟨q0, h1, rfl⟩ := List.mem_map.mp hq
  rw [← hl] at h1
  obtain ⟨i, -, hi⟩ := List.mem_filterMap.mp h1
  exact List.mem_map.mpr ⟨q0, List.mem_of_getElem? hi, rfl⟩
/-- the last place with this number -/
def lst (f : Nat → Int32) (x : Int32) : Nat → Option Nat
  | 0 => none
  | n + 1 => if f n = x then some n else lst f x n
theorem lst_lt {f : Nat → Int32} {x : Int32} : ∀ {n k : Nat}, lst f x n = some k → k < n
  | n + 1, k, h => by
    unfold lst at h
    split at h
    · cases h; omega
    · have := lst_lt h; omega
def rtsOK (S : z_S) : Prop := sN S 20 ≤ 10 ∧ (∀ k, sAN S 22 k ≤ 100) ∧ (∀ k, sAN S 24 k ≤ 100) ∧ ∀ k, sAN S 25 k ≤ 10
def say5 (S : z_S) (f r : Nat) : z_S := sayS (sayS (sayS (sayS (sayS S 113) f) (sAN S 39 2)) (sAN S 39 3)) (sAN S 24 r)
def sv49 (S : z_S) : Nat × z_S :=
  if sN S 1 = 1 then (127, S) else if ¬ sN S 38 - 1 = 3 then (19, S) else if ¬ (1 ≤ sAN S 39 1 % 128 ∧ sAN S 39 1 % 128 ≤ 3) then (18, S) else
  match lst (sAI S 21) (nI (toldN S 2)) (sN S 20) with
  | none => (49, S)
  | some r =>
    if sAN S 39 1 % 128 = 1 then
      (if 0 < sAN S 24 r then (36, S) else if sB S 5 = false then (34, S)
       else (0, say5 (uAN (uAN (uAB S 23 (va_up (sAB S 23) r true)) 24 (va_up (sAN S 24) r (sAN S 22 r))) 25 (va_up (sAN S 25) r 0)) 1 r))
    else if sAB S 23 r = false then (36, S)
    else if sAN S 39 1 % 128 = 2 then (0, say5 (uAN S 24 (va_up (sAN S 24) r 0)) 2 r)
    else if 0 < sAN S 24 r then (if sN S 7 ≤ sAN S 25 r then (16, S) else (120, uAN S 25 (va_up (sAN S 25) r (sAN S 25 r + 1))))
    else (0, say5 S 3 r)

set_option maxRecDepth 100000 in
set_option maxHeartbeats 1000000 in
theorem t_X6_runs_s {c : Nat → z_E} {S : z_S} {o : Nat → Int64} {d : z_H} (R : rowOK S) (W : idsOK S) (V : numsOK S) (hM : sN S 38 ≤ 60) (hM1 : 1 ≤ sN S 38) (hA : sN S 40 = 0) {x : Int32} (hx : 2 ≤ sN S 38 → x = nI (sAN S 39 1 % 128)) (U : rtsOK S) (f0 : x = nI (sAN S 39 1 % 128)) (hp1 : ¬ sN S 1 = 1) (hn : sN S 38 - 1 = 3) (hf : 1 ≤ sAN S 39 1 % 128 ∧ sAN S 39 1 % 128 ≤ 3) {r : Nat} (hF : lst (sAI S 21) (nI (toldN S 2)) (sN S 20) = some r) {G : z_G} {X : z_X} (F : z_F vwCl z_ats z_nw wsL_law G RX6 cX6_runs 5 (z_rm 1 0 0) X) (hr : X.2.2.2.2.2.2.2.2.1.sig.returnType = some .int) : z_V vwCl G 5 X (z_end vwCl z_ats z_nw G X 0 0 (fun v h' => v = some (.int (nI (sv49 S).1)) ∧ h' = (HP c (mfun ((sv49 S).2) o) d))) 0 0 76 [(0, .ref 11), (1, .int (nI (sN S 38 - 1))), (2, .int (nI (sAN S 39 1 % 128))), (3, .int (fI (some r)))] [] (HP c (mfun S o) d) := by
  have hr10 := lst_lt hF
  obtain ⟨u1, u2, u3, u4⟩ := id U
  have u3r := u3 r
  have u4r := u4 r
  have v7 := V.2.2.1
  have r10 : r < 10 := by omega
  refine z_iload_n F dX6_runs_76 rfl ?_
  refine z_if_ge (tgt := 83) F dX6_runs_77 (by decide) (fun c77 => ?_) (fun c77 => absurd (nI_pos' (by omega)) c77)
  refine z_iload_n F dX6_runs_83 rfl ?_
  refine z_iconst (v := 1) F dX6_runs_84 rfl ?_
  refine z_icmp_ne (tgt := 139) F dX6_runs_85 (by decide) (fun c85 => ?_) (fun c85 => ?_)
  · have f1 : ¬ sAN S 39 1 % 128 = 1 := fun e => c85 (by rw [e]; rfl)
    refine z_aload_n F dX6_runs_139 rfl rfl ?_
    refine z_getf F vF_X6_62 dX6_runs_140 mO_at rfl ?_
    refine z_iload_n F dX6_runs_143 rfl ?_
    refine z_zald (j := r) F dX6_runs_144 mA_23 rfl rfl (show r < 10 by omega) (Nat.le_of_ble_eq_true rfl) ?_
    refine z_if_ne (tgt := 151) F dX6_runs_145 (by decide) (fun c145 => ?_) (fun c145 => ?_)
    · have hd : ¬ sAB S 23 r = false := by rw [z_b1 c145]; decide
      refine z_iload_n F dX6_runs_151 rfl ?_
      refine z_iconst (v := 2) F dX6_runs_152 rfl ?_
      refine z_icmp_ne (tgt := 163) F dX6_runs_153 (by decide) (fun c153 => ?_) (fun c153 => ?_)
      · have f2 : ¬ sAN S 39 1 % 128 = 2 := fun e => c153 (by rw [e]; rfl)
        have f3 : sAN S 39 1 % 128 = 3 := by omega
        rw [f3]
        refine z_aload_n F dX6_runs_163 rfl rfl ?_
        refine z_getf F vF_X6_65 dX6_runs_164 mO_at rfl ?_
        refine z_iload_n F dX6_runs_167 rfl ?_
        refine z_iald (j := r) F dX6_runs_168 mA_24 rfl rfl (show r < 10 by omega) (Nat.le_of_ble_eq_true rfl) ?_
        refine z_if_le (tgt := 201) F dX6_runs_169 (by decide) (fun c169 => ?_) (fun c169 => ?_)
        · have hl : ¬ 0 < sAN S 24 r := by have := (nI_leI (a := sAN S 24 r) (b := 0) (by omega) (by decide)).mp c169; omega
          have hs : sv49 S = (0, say5 S 3 r) := by unfold sv49; rw [if_neg hp1, if_neg (not_not_intro hn), if_neg (not_not_intro hf), hF]; show (if _ then _ else _) = _; rw [if_neg f1, if_neg hd, if_neg f2, if_neg hl]
          refine z_aload_n F dX6_runs_201 rfl rfl ?_
          refine z_bipush (v := 113) F dX6_runs_202 rfl ?_
          refine z_callV F z_nwOK wL_good (c_X6_say (S := S) (b := 113) (show sN S 40 < 1000 by omega) (by decide)) mO_at rfl vI_X6_say vM_X6_131 vV_X6_say vL_X6_say rfl dX6_runs_204 rfl rfl (Nat.le_of_ble_eq_true rfl) ⟨(Nat.le_of_ble_eq_true rfl), (Nat.le_of_ble_eq_true rfl), (Nat.le_of_ble_eq_true rfl), (Nat.le_of_ble_eq_true rfl)⟩ (fun v h1 hq => ?_)
          obtain ⟨rfl, rfl⟩ := hq
          refine z_aload_n F dX6_runs_207 rfl rfl ?_
          refine z_iload_n F dX6_runs_208 rfl ?_
          refine z_callV F z_nwOK wL_good (c_X6_say (S := sayS (S) (113)) (b := 3) (show sN S 40 + 1 < 1000 by omega) (by decide)) mO_at rfl vI_X6_say vM_X6_131 vV_X6_say vL_X6_say rfl dX6_runs_209 rfl rfl (Nat.le_of_ble_eq_true rfl) ⟨(Nat.le_of_ble_eq_true rfl), (Nat.le_of_ble_eq_true rfl), (Nat.le_of_ble_eq_true rfl), (Nat.le_of_ble_eq_true rfl)⟩ (fun v h1 hq => ?_)
          obtain ⟨rfl, rfl⟩ := hq
          refine z_aload_n F dX6_runs_212 rfl rfl ?_
          refine z_aload_n F dX6_runs_213 rfl rfl ?_
          refine z_getf F vF_X6_74 dX6_runs_214 mO_at rfl ?_
          refine z_iconst (v := 2) F dX6_runs_217 rfl ?_
          refine z_iald (j := 2) F dX6_runs_218 mA_39 rfl rfl (show 2 < 60 by decide) (Nat.le_of_ble_eq_true rfl) ?_
          refine z_callV F z_nwOK wL_good (c_X6_say (S := sayS (sayS (S) (113)) (3)) (b := sAN S 39 2) (show sN S 40 + 1 + 1 < 1000 by omega) (by have := R 2; omega)) mO_at rfl vI_X6_say vM_X6_131 vV_X6_say vL_X6_say rfl dX6_runs_219 rfl rfl (Nat.le_of_ble_eq_true rfl) ⟨(Nat.le_of_ble_eq_true rfl), (Nat.le_of_ble_eq_true rfl), (Nat.le_of_ble_eq_true rfl), (Nat.le_of_ble_eq_true rfl)⟩ (fun v h1 hq => ?_)
          obtain ⟨rfl, rfl⟩ := hq
          refine z_aload_n F dX6_runs_222 rfl rfl ?_
          refine z_aload_n F dX6_runs_223 rfl rfl ?_
          refine z_getf F vF_X6_74 dX6_runs_224 mO_at rfl ?_
          refine z_iconst (v := 3) F dX6_runs_227 rfl ?_
          refine z_iald (j := 3) F dX6_runs_228 mA_39 rfl rfl (show 3 < 60 by decide) (Nat.le_of_ble_eq_true rfl) ?_
          refine z_callV F z_nwOK wL_good (c_X6_say (S := sayS (sayS (sayS (S) (113)) (3)) (sAN S 39 2)) (b := sAN S 39 3) (show sN S 40 + 1 + 1 + 1 < 1000 by omega) (by have := R 3; omega)) mO_at rfl vI_X6_say vM_X6_131 vV_X6_say vL_X6_say rfl dX6_runs_229 rfl rfl (Nat.le_of_ble_eq_true rfl) ⟨(Nat.le_of_ble_eq_true rfl), (Nat.le_of_ble_eq_true rfl), (Nat.le_of_ble_eq_true rfl), (Nat.le_of_ble_eq_true rfl)⟩ (fun v h1 hq => ?_)
          obtain ⟨rfl, rfl⟩ := hq
          refine z_aload_n F dX6_runs_232 rfl rfl ?_
          refine z_aload_n F dX6_runs_233 rfl rfl ?_
          refine z_getf F vF_X6_65 dX6_runs_234 mO_at rfl ?_
          refine z_iload_n F dX6_runs_237 rfl ?_
          refine z_iald (j := r) F dX6_runs_238 mA_24 rfl rfl (show r < 10 by omega) (Nat.le_of_ble_eq_true rfl) ?_
          refine z_callV F z_nwOK wL_good (c_X6_say (S := sayS (sayS (sayS (sayS (S) (113)) (3)) (sAN S 39 2)) (sAN S 39 3)) (b := sAN (S) 24 r) (show sN S 40 + 1 + 1 + 1 + 1 < 1000 by omega) (by omega)) mO_at rfl vI_X6_say vM_X6_131 vV_X6_say vL_X6_say rfl dX6_runs_239 rfl rfl (Nat.le_of_ble_eq_true rfl) ⟨(Nat.le_of_ble_eq_true rfl), (Nat.le_of_ble_eq_true rfl), (Nat.le_of_ble_eq_true rfl), (Nat.le_of_ble_eq_true rfl)⟩ (fun v h1 hq => ?_)
          obtain ⟨rfl, rfl⟩ := hq
          refine z_iconst (v := 0) F dX6_runs_242 rfl ?_
          exact z_iret F hr dX6_runs_243 rfl (Nat.le_of_ble_eq_true rfl) (Nat.le_of_ble_eq_true rfl) (⟨by rw [hs]; try rfl, by rw [hs]; try rfl⟩)
        · have hl : 0 < sAN S 24 r := by have := mt (nI_leI (a := sAN S 24 r) (b := 0) (by omega) (by decide)).mpr c169; omega
          refine z_aload_n F dX6_runs_172 rfl rfl ?_
          refine z_getf F vF_X6_68 dX6_runs_173 mO_at rfl ?_
          refine z_iload_n F dX6_runs_176 rfl ?_
          refine z_iald (j := r) F dX6_runs_177 mA_25 rfl rfl (show r < 10 by omega) (Nat.le_of_ble_eq_true rfl) ?_
          refine z_aload_n F dX6_runs_178 rfl rfl ?_
          refine z_getf F vF_X6_117 dX6_runs_179 mO_at rfl ?_
          refine z_icmp_lt (tgt := 188) F dX6_runs_182 (by decide) (fun c182 => ?_) (fun c182 => ?_)
          · have hb : ¬ sN S 7 ≤ sAN S 25 r := by have := (nI_ltI (a := sAN S 25 r) (b := sN S 7) (by omega) (by omega)).mp c182; omega
            have hs : sv49 S = (120, uAN S 25 (va_up (sAN S 25) r (sAN S 25 r + 1))) := by unfold sv49; rw [if_neg hp1, if_neg (not_not_intro hn), if_neg (not_not_intro hf), hF]; show (if _ then _ else _) = _; rw [if_neg f1, if_neg hd, if_neg f2, if_pos hl, if_neg hb]
            refine z_aload_n F dX6_runs_188 rfl rfl ?_
            refine z_getf F vF_X6_68 dX6_runs_189 mO_at rfl ?_
            refine z_iload_n F dX6_runs_192 rfl ?_
            refine z_dup2 F dX6_runs_193 rfl rfl ?_
            refine z_iald (j := r) F dX6_runs_194 mA_25 rfl rfl (show r < 10 by omega) (Nat.le_of_ble_eq_true rfl) ?_
            refine z_iconst (v := 1) F dX6_runs_195 rfl ?_
            refine z_iadd F dX6_runs_196 ?_
            rw [nI_1]
            refine z_iast (j := r) F dX6_runs_197 mA_25 rfl rfl (show r < 10 by omega) (Nat.le_of_ble_eq_true rfl) ?_
            refine z_heap _ (ma_25) ?_
            refine z_bipush (v := 120) F dX6_runs_198 rfl ?_
            exact z_iret F hr dX6_runs_200 rfl (Nat.le_of_ble_eq_true rfl) (Nat.le_of_ble_eq_true rfl) (⟨by rw [hs]; try rfl, by rw [hs]; try rfl⟩)
          · have hb : sN S 7 ≤ sAN S 25 r := by have := mt (nI_ltI (a := sAN S 25 r) (b := sN S 7) (by omega) (by omega)).mpr c182; omega
            have hs : sv49 S = (16, S) := by unfold sv49; rw [if_neg hp1, if_neg (not_not_intro hn), if_neg (not_not_intro hf), hF]; show (if _ then _ else _) = _; rw [if_neg f1, if_neg hd, if_neg f2, if_pos hl, if_pos hb]
            refine z_bipush (v := 16) F dX6_runs_185 rfl ?_
            exact z_iret F hr dX6_runs_187 rfl (Nat.le_of_ble_eq_true rfl) (Nat.le_of_ble_eq_true rfl) (⟨by rw [hs]; try rfl, by rw [hs]; try rfl⟩)
      · have f2 : sAN S 39 1 % 128 = 2 := (nI_eq (b := 2) (by omega) (by decide)).mp c153
        have hs : sv49 S = (0, say5 (uAN S 24 (va_up (sAN S 24) r 0)) 2 r) := by unfold sv49; rw [if_neg hp1, if_neg (not_not_intro hn), if_neg (not_not_intro hf), hF]; show (if _ then _ else _) = _; rw [if_neg f1, if_neg hd, if_pos f2]
        rw [f2]
        refine z_aload_n F dX6_runs_156 rfl rfl ?_
        refine z_getf F vF_X6_65 dX6_runs_157 mO_at rfl ?_
        refine z_iload_n F dX6_runs_160 rfl ?_
        refine z_iconst (v := 0) F dX6_runs_161 rfl ?_
        refine z_iast (j := r) F dX6_runs_162 mA_24 rfl rfl (show r < 10 by omega) (Nat.le_of_ble_eq_true rfl) ?_
        refine z_heap _ (ma_24 (v := 0)) ?_
        refine z_aload_n F dX6_runs_163 rfl rfl ?_
        refine z_getf F vF_X6_65 dX6_runs_164 mO_at rfl ?_
        refine z_iload_n F dX6_runs_167 rfl ?_
        refine z_iald (j := r) F dX6_runs_168 mA_24 rfl rfl (show r < 10 by omega) (Nat.le_of_ble_eq_true rfl) ?_
        refine z_if_le (tgt := 201) F dX6_runs_169 (by decide) (fun c169 => ?_) (fun c169 => ?_)
        · refine z_aload_n F dX6_runs_201 rfl rfl ?_
          refine z_bipush (v := 113) F dX6_runs_202 rfl ?_
          refine z_callV F z_nwOK wL_good (c_X6_say (S := uAN S 24 (va_up (sAN S 24) r 0)) (b := 113) (show sN S 40 < 1000 by omega) (by decide)) mO_at rfl vI_X6_say vM_X6_131 vV_X6_say vL_X6_say rfl dX6_runs_204 rfl rfl (Nat.le_of_ble_eq_true rfl) ⟨(Nat.le_of_ble_eq_true rfl), (Nat.le_of_ble_eq_true rfl), (Nat.le_of_ble_eq_true rfl), (Nat.le_of_ble_eq_true rfl)⟩ (fun v h1 hq => ?_)
          obtain ⟨rfl, rfl⟩ := hq
          refine z_aload_n F dX6_runs_207 rfl rfl ?_
          refine z_iload_n F dX6_runs_208 rfl ?_
          refine z_callV F z_nwOK wL_good (c_X6_say (S := sayS (uAN S 24 (va_up (sAN S 24) r 0)) (113)) (b := 2) (show sN S 40 + 1 < 1000 by omega) (by decide)) mO_at rfl vI_X6_say vM_X6_131 vV_X6_say vL_X6_say rfl dX6_runs_209 rfl rfl (Nat.le_of_ble_eq_true rfl) ⟨(Nat.le_of_ble_eq_true rfl), (Nat.le_of_ble_eq_true rfl), (Nat.le_of_ble_eq_true rfl), (Nat.le_of_ble_eq_true rfl)⟩ (fun v h1 hq => ?_)
          obtain ⟨rfl, rfl⟩ := hq
          refine z_aload_n F dX6_runs_212 rfl rfl ?_
          refine z_aload_n F dX6_runs_213 rfl rfl ?_
          refine z_getf F vF_X6_74 dX6_runs_214 mO_at rfl ?_
          refine z_iconst (v := 2) F dX6_runs_217 rfl ?_
          refine z_iald (j := 2) F dX6_runs_218 mA_39 rfl rfl (show 2 < 60 by decide) (Nat.le_of_ble_eq_true rfl) ?_
          refine z_callV F z_nwOK wL_good (c_X6_say (S := sayS (sayS (uAN S 24 (va_up (sAN S 24) r 0)) (113)) (2)) (b := sAN S 39 2) (show sN S 40 + 1 + 1 < 1000 by omega) (by have := R 2; omega)) mO_at rfl vI_X6_say vM_X6_131 vV_X6_say vL_X6_say rfl dX6_runs_219 rfl rfl (Nat.le_of_ble_eq_true rfl) ⟨(Nat.le_of_ble_eq_true rfl), (Nat.le_of_ble_eq_true rfl), (Nat.le_of_ble_eq_true rfl), (Nat.le_of_ble_eq_true rfl)⟩ (fun v h1 hq => ?_)
          obtain ⟨rfl, rfl⟩ := hq
          refine z_aload_n F dX6_runs_222 rfl rfl ?_
          refine z_aload_n F dX6_runs_223 rfl rfl ?_
          refine z_getf F vF_X6_74 dX6_runs_224 mO_at rfl ?_
          refine z_iconst (v := 3) F dX6_runs_227 rfl ?_
          refine z_iald (j := 3) F dX6_runs_228 mA_39 rfl rfl (show 3 < 60 by decide) (Nat.le_of_ble_eq_true rfl) ?_
          refine z_callV F z_nwOK wL_good (c_X6_say (S := sayS (sayS (sayS (uAN S 24 (va_up (sAN S 24) r 0)) (113)) (2)) (sAN S 39 2)) (b := sAN S 39 3) (show sN S 40 + 1 + 1 + 1 < 1000 by omega) (by have := R 3; omega)) mO_at rfl vI_X6_say vM_X6_131 vV_X6_say vL_X6_say rfl dX6_runs_229 rfl rfl (Nat.le_of_ble_eq_true rfl) ⟨(Nat.le_of_ble_eq_true rfl), (Nat.le_of_ble_eq_true rfl), (Nat.le_of_ble_eq_true rfl), (Nat.le_of_ble_eq_true rfl)⟩ (fun v h1 hq => ?_)
          obtain ⟨rfl, rfl⟩ := hq
          refine z_aload_n F dX6_runs_232 rfl rfl ?_
          refine z_aload_n F dX6_runs_233 rfl rfl ?_
          refine z_getf F vF_X6_65 dX6_runs_234 mO_at rfl ?_
          refine z_iload_n F dX6_runs_237 rfl ?_
          refine z_iald (j := r) F dX6_runs_238 mA_24 rfl rfl (show r < 10 by omega) (Nat.le_of_ble_eq_true rfl) ?_
          refine z_callV F z_nwOK wL_good (c_X6_say (S := sayS (sayS (sayS (sayS (uAN S 24 (va_up (sAN S 24) r 0)) (113)) (2)) (sAN S 39 2)) (sAN S 39 3)) (b := sAN (uAN S 24 (va_up (sAN S 24) r 0)) 24 r) (show sN S 40 + 1 + 1 + 1 + 1 < 1000 by omega) (show va_up (sAN S 24) r 0 r < 2 ^ 31 by rw [va_up_self]; decide)) mO_at rfl vI_X6_say vM_X6_131 vV_X6_say vL_X6_say rfl dX6_runs_239 rfl rfl (Nat.le_of_ble_eq_true rfl) ⟨(Nat.le_of_ble_eq_true rfl), (Nat.le_of_ble_eq_true rfl), (Nat.le_of_ble_eq_true rfl), (Nat.le_of_ble_eq_true rfl)⟩ (fun v h1 hq => ?_)
          obtain ⟨rfl, rfl⟩ := hq
          refine z_iconst (v := 0) F dX6_runs_242 rfl ?_
          exact z_iret F hr dX6_runs_243 rfl (Nat.le_of_ble_eq_true rfl) (Nat.le_of_ble_eq_true rfl) (⟨by rw [hs]; try rfl, by rw [hs]; try rfl⟩)
        · exact absurd c169 (not_not_intro (show nI (va_up (sAN S 24) r 0 r) ≤ 0 by rw [va_up_self]; decide))
    · have hd : sAB S 23 r = false := z_b0.mp c145
      have hs : sv49 S = (36, S) := by unfold sv49; rw [if_neg hp1, if_neg (not_not_intro hn), if_neg (not_not_intro hf), hF]; show (if _ then _ else _) = _; rw [if_neg f1, if_pos hd]
      refine z_bipush (v := 36) F dX6_runs_148 rfl ?_
      exact z_iret F hr dX6_runs_150 rfl (Nat.le_of_ble_eq_true rfl) (Nat.le_of_ble_eq_true rfl) (⟨by rw [hs]; try rfl, by rw [hs]; try rfl⟩)
  · have f1 : sAN S 39 1 % 128 = 1 := (nI_eq (b := 1) (by omega) (by decide)).mp c85
    refine z_aload_n F dX6_runs_88 rfl rfl ?_
    refine z_getf F vF_X6_65 dX6_runs_89 mO_at rfl ?_
    refine z_iload_n F dX6_runs_92 rfl ?_
    refine z_iald (j := r) F dX6_runs_93 mA_24 rfl rfl (show r < 10 by omega) (Nat.le_of_ble_eq_true rfl) ?_
    refine z_if_le (tgt := 100) F dX6_runs_94 (by decide) (fun c94 => ?_) (fun c94 => ?_)
    · have hl : ¬ 0 < sAN S 24 r := by have := (nI_leI (a := sAN S 24 r) (b := 0) (by omega) (by decide)).mp c94; omega
      refine z_aload_n F dX6_runs_100 rfl rfl ?_
      refine z_getf F vF_X6_13 dX6_runs_101 mO_at rfl ?_
      refine z_if_ne (tgt := 110) F dX6_runs_104 (by decide) (fun c104 => ?_) (fun c104 => ?_)
      · have hd : ¬ sB S 5 = false := by rw [z_b1 c104]; decide
        have hs : sv49 S = (0, say5 (uAN (uAN (uAB S 23 (va_up (sAB S 23) r true)) 24 (va_up (sAN S 24) r (sAN S 22 r))) 25 (va_up (sAN S 25) r 0)) 1 r) := by unfold sv49; rw [if_neg hp1, if_neg (not_not_intro hn), if_neg (not_not_intro hf), hF]; show (if _ then _ else _) = _; rw [if_pos f1, if_neg hl, if_neg hd]
        rw [f1]
        refine z_aload_n F dX6_runs_110 rfl rfl ?_
        refine z_getf F vF_X6_62 dX6_runs_111 mO_at rfl ?_
        refine z_iload_n F dX6_runs_114 rfl ?_
        refine z_iconst (v := 1) F dX6_runs_115 rfl ?_
        refine z_zast (j := r) F dX6_runs_116 mA_23 rfl rfl (show r < 10 by omega) (Nat.le_of_ble_eq_true rfl) ?_
        refine z_heap _ (ma_23 (v := true)) ?_
        refine z_aload_n F dX6_runs_117 rfl rfl ?_
        refine z_getf F vF_X6_65 dX6_runs_118 mO_at rfl ?_
        refine z_iload_n F dX6_runs_121 rfl ?_
        refine z_aload_n F dX6_runs_122 rfl rfl ?_
        refine z_getf F vF_X6_59 dX6_runs_123 mO_at rfl ?_
        refine z_iload_n F dX6_runs_126 rfl ?_
        refine z_iald (j := r) F dX6_runs_127 mA_22 rfl rfl (show r < 10 by omega) (Nat.le_of_ble_eq_true rfl) ?_
        refine z_iast (j := r) F dX6_runs_128 mA_24 rfl rfl (show r < 10 by omega) (Nat.le_of_ble_eq_true rfl) ?_
        refine z_heap _ (ma_24) ?_
        refine z_aload_n F dX6_runs_129 rfl rfl ?_
        refine z_getf F vF_X6_68 dX6_runs_130 mO_at rfl ?_
        refine z_iload_n F dX6_runs_133 rfl ?_
        refine z_iconst (v := 0) F dX6_runs_134 rfl ?_
        refine z_iast (j := r) F dX6_runs_135 mA_25 rfl rfl (show r < 10 by omega) (Nat.le_of_ble_eq_true rfl) ?_
        refine z_heap _ (ma_25 (v := 0)) ?_
        refine z_goto (tgt := 201) F dX6_runs_136 (by decide) ?_
        refine z_aload_n F dX6_runs_201 rfl rfl ?_
        refine z_bipush (v := 113) F dX6_runs_202 rfl ?_
        refine z_callV F z_nwOK wL_good (c_X6_say (S := uAN (uAN (uAB S 23 (va_up (sAB S 23) r true)) 24 (va_up (sAN S 24) r (sAN S 22 r))) 25 (va_up (sAN S 25) r 0)) (b := 113) (show sN S 40 < 1000 by omega) (by decide)) mO_at rfl vI_X6_say vM_X6_131 vV_X6_say vL_X6_say rfl dX6_runs_204 rfl rfl (Nat.le_of_ble_eq_true rfl) ⟨(Nat.le_of_ble_eq_true rfl), (Nat.le_of_ble_eq_true rfl), (Nat.le_of_ble_eq_true rfl), (Nat.le_of_ble_eq_true rfl)⟩ (fun v h1 hq => ?_)
        obtain ⟨rfl, rfl⟩ := hq
        refine z_aload_n F dX6_runs_207 rfl rfl ?_
        refine z_iload_n F dX6_runs_208 rfl ?_
        refine z_callV F z_nwOK wL_good (c_X6_say (S := sayS (uAN (uAN (uAB S 23 (va_up (sAB S 23) r true)) 24 (va_up (sAN S 24) r (sAN S 22 r))) 25 (va_up (sAN S 25) r 0)) (113)) (b := 1) (show sN S 40 + 1 < 1000 by omega) (by decide)) mO_at rfl vI_X6_say vM_X6_131 vV_X6_say vL_X6_say rfl dX6_runs_209 rfl rfl (Nat.le_of_ble_eq_true rfl) ⟨(Nat.le_of_ble_eq_true rfl), (Nat.le_of_ble_eq_true rfl), (Nat.le_of_ble_eq_true rfl), (Nat.le_of_ble_eq_true rfl)⟩ (fun v h1 hq => ?_)
        obtain ⟨rfl, rfl⟩ := hq
        refine z_aload_n F dX6_runs_212 rfl rfl ?_
        refine z_aload_n F dX6_runs_213 rfl rfl ?_
        refine z_getf F vF_X6_74 dX6_runs_214 mO_at rfl ?_
        refine z_iconst (v := 2) F dX6_runs_217 rfl ?_
        refine z_iald (j := 2) F dX6_runs_218 mA_39 rfl rfl (show 2 < 60 by decide) (Nat.le_of_ble_eq_true rfl) ?_
        refine z_callV F z_nwOK wL_good (c_X6_say (S := sayS (sayS (uAN (uAN (uAB S 23 (va_up (sAB S 23) r true)) 24 (va_up (sAN S 24) r (sAN S 22 r))) 25 (va_up (sAN S 25) r 0)) (113)) (1)) (b := sAN S 39 2) (show sN S 40 + 1 + 1 < 1000 by omega) (by have := R 2; omega)) mO_at rfl vI_X6_say vM_X6_131 vV_X6_say vL_X6_say rfl dX6_runs_219 rfl rfl (Nat.le_of_ble_eq_true rfl) ⟨(Nat.le_of_ble_eq_true rfl), (Nat.le_of_ble_eq_true rfl), (Nat.le_of_ble_eq_true rfl), (Nat.le_of_ble_eq_true rfl)⟩ (fun v h1 hq => ?_)
        obtain ⟨rfl, rfl⟩ := hq
        refine z_aload_n F dX6_runs_222 rfl rfl ?_
        refine z_aload_n F dX6_runs_223 rfl rfl ?_
        refine z_getf F vF_X6_74 dX6_runs_224 mO_at rfl ?_
        refine z_iconst (v := 3) F dX6_runs_227 rfl ?_
        refine z_iald (j := 3) F dX6_runs_228 mA_39 rfl rfl (show 3 < 60 by decide) (Nat.le_of_ble_eq_true rfl) ?_
        refine z_callV F z_nwOK wL_good (c_X6_say (S := sayS (sayS (sayS (uAN (uAN (uAB S 23 (va_up (sAB S 23) r true)) 24 (va_up (sAN S 24) r (sAN S 22 r))) 25 (va_up (sAN S 25) r 0)) (113)) (1)) (sAN S 39 2)) (b := sAN S 39 3) (show sN S 40 + 1 + 1 + 1 < 1000 by omega) (by have := R 3; omega)) mO_at rfl vI_X6_say vM_X6_131 vV_X6_say vL_X6_say rfl dX6_runs_229 rfl rfl (Nat.le_of_ble_eq_true rfl) ⟨(Nat.le_of_ble_eq_true rfl), (Nat.le_of_ble_eq_true rfl), (Nat.le_of_ble_eq_true rfl), (Nat.le_of_ble_eq_true rfl)⟩ (fun v h1 hq => ?_)
        obtain ⟨rfl, rfl⟩ := hq
        refine z_aload_n F dX6_runs_232 rfl rfl ?_
        refine z_aload_n F dX6_runs_233 rfl rfl ?_
        refine z_getf F vF_X6_65 dX6_runs_234 mO_at rfl ?_
        refine z_iload_n F dX6_runs_237 rfl ?_
        refine z_iald (j := r) F dX6_runs_238 mA_24 rfl rfl (show r < 10 by omega) (Nat.le_of_ble_eq_true rfl) ?_
        refine z_callV F z_nwOK wL_good (c_X6_say (S := sayS (sayS (sayS (sayS (uAN (uAN (uAB S 23 (va_up (sAB S 23) r true)) 24 (va_up (sAN S 24) r (sAN S 22 r))) 25 (va_up (sAN S 25) r 0)) (113)) (1)) (sAN S 39 2)) (sAN S 39 3)) (b := sAN (uAN (uAN (uAB S 23 (va_up (sAB S 23) r true)) 24 (va_up (sAN S 24) r (sAN S 22 r))) 25 (va_up (sAN S 25) r 0)) 24 r) (show sN S 40 + 1 + 1 + 1 + 1 < 1000 by omega) (show va_up (sAN S 24) r (sAN S 22 r) r < 2 ^ 31 by rw [va_up_self]; have := U.2.1 r; omega)) mO_at rfl vI_X6_say vM_X6_131 vV_X6_say vL_X6_say rfl dX6_runs_239 rfl rfl (Nat.le_of_ble_eq_true rfl) ⟨(Nat.le_of_ble_eq_true rfl), (Nat.le_of_ble_eq_true rfl), (Nat.le_of_ble_eq_true rfl), (Nat.le_of_ble_eq_true rfl)⟩ (fun v h1 hq => ?_)
        obtain ⟨rfl, rfl⟩ := hq
        refine z_iconst (v := 0) F dX6_runs_242 rfl ?_
        exact z_iret F hr dX6_runs_243 rfl (Nat.le_of_ble_eq_true rfl) (Nat.le_of_ble_eq_true rfl) (⟨by rw [hs]; try rfl, by rw [hs]; try rfl⟩)
      · have hd : sB S 5 = false := z_b0.mp c104
        have hs : sv49 S = (34, S) := by unfold sv49; rw [if_neg hp1, if_neg (not_not_intro hn), if_neg (not_not_intro hf), hF]; show (if _ then _ else _) = _; rw [if_pos f1, if_neg hl, if_pos hd]
        refine z_bipush (v := 34) F dX6_runs_107 rfl ?_
        exact z_iret F hr dX6_runs_109 rfl (Nat.le_of_ble_eq_true rfl) (Nat.le_of_ble_eq_true rfl) (⟨by rw [hs]; try rfl, by rw [hs]; try rfl⟩)
    · have hl : 0 < sAN S 24 r := by have := mt (nI_leI (a := sAN S 24 r) (b := 0) (by omega) (by decide)).mpr c94; omega
      have hs : sv49 S = (36, S) := by unfold sv49; rw [if_neg hp1, if_neg (not_not_intro hn), if_neg (not_not_intro hf), hF]; show (if _ then _ else _) = _; rw [if_pos f1, if_pos hl]
      refine z_bipush (v := 36) F dX6_runs_97 rfl ?_
      exact z_iret F hr dX6_runs_99 rfl (Nat.le_of_ble_eq_true rfl) (Nat.le_of_ble_eq_true rfl) (⟨by rw [hs]; try rfl, by rw [hs]; try rfl⟩)

set_option maxRecDepth 100000 in
set_option maxHeartbeats 1000000 in
theorem t_X6_runs_n {c : Nat → z_E} {S : z_S} {o : Nat → Int64} {d : z_H} (R : rowOK S) (W : idsOK S) (V : numsOK S) (hM : sN S 38 ≤ 60) (hM1 : 1 ≤ sN S 38) (hA : sN S 40 = 0) {x : Int32} (hx : 2 ≤ sN S 38 → x = nI (sAN S 39 1 % 128)) (U : rtsOK S) (f0 : x = nI (sAN S 39 1 % 128)) (hp1 : ¬ sN S 1 = 1) (hn : sN S 38 - 1 = 3) (hf : 1 ≤ sAN S 39 1 % 128 ∧ sAN S 39 1 % 128 ≤ 3) (hF : lst (sAI S 21) (nI (toldN S 2)) (sN S 20) = none) {G : z_G} {X : z_X} (F : z_F vwCl z_ats z_nw wsL_law G RX6 cX6_runs 5 (z_rm 1 0 0) X) (hr : X.2.2.2.2.2.2.2.2.1.sig.returnType = some .int) : z_V vwCl G 5 X (z_end vwCl z_ats z_nw G X 0 0 (fun v h' => v = some (.int (nI (sv49 S).1)) ∧ h' = (HP c (mfun ((sv49 S).2) o) d))) 0 0 76 [(0, .ref 11), (1, .int (nI (sN S 38 - 1))), (2, .int (nI (sAN S 39 1 % 128))), (3, .int (fI none))] [] (HP c (mfun S o) d) := by
  have hs : sv49 S = (49, S) := by unfold sv49; rw [if_neg hp1, if_neg (not_not_intro hn), if_neg (not_not_intro hf), hF]
  refine z_iload_n F dX6_runs_76 rfl ?_
  refine z_if_ge (tgt := 83) F dX6_runs_77 (by decide) (fun c77 => absurd c77 (by decide)) (fun c77 => ?_)
  refine z_bipush (v := 49) F dX6_runs_80 rfl ?_
  exact z_iret F hr dX6_runs_82 rfl (Nat.le_of_ble_eq_true rfl) (Nat.le_of_ble_eq_true rfl) (⟨by rw [hs]; try rfl, by rw [hs]; try rfl⟩)

set_option maxRecDepth 100000 in
set_option maxHeartbeats 1000000 in
theorem l_X6_runs {c : Nat → z_E} {S : z_S} {o : Nat → Int64} {d : z_H} (R : rowOK S) (W : idsOK S) (V : numsOK S) (hM : sN S 38 ≤ 60) (hM1 : 1 ≤ sN S 38) (hA : sN S 40 = 0) {x : Int32} (hx : 2 ≤ sN S 38 → x = nI (sAN S 39 1 % 128)) (U : rtsOK S) (f0 : x = nI (sAN S 39 1 % 128)) (hp1 : ¬ sN S 1 = 1) (hn : sN S 38 - 1 = 3) (hf : 1 ≤ sAN S 39 1 % 128 ∧ sAN S 39 1 % 128 ≤ 3) {G : z_G} {X : z_X} (F : z_F vwCl z_ats z_nw wsL_law G RX6 cX6_runs 5 (z_rm 1 0 0) X) (hr : X.2.2.2.2.2.2.2.2.1.sig.returnType = some .int) :
    ∀ (m i : Nat), i + m = sN S 20 → z_V vwCl G 5 X (z_end vwCl z_ats z_nw G X 0 0 (fun v h' => v = some (.int (nI (sv49 S).1)) ∧ h' = (HP c (mfun ((sv49 S).2) o) d))) 0 0 39 [(0, .ref 11), (1, .int (nI (sN S 38 - 1))), (2, .int (nI (sAN S 39 1 % 128))), (3, .int (fI (lst (sAI S 21) (nI (toldN S 2)) i))), (4, .int (nI i))] [] (HP c (mfun S o) d) := by
  intro m
  induction m with
  | zero =>
    intro i hi
    obtain rfl : i = sN S 20 := by omega
    have u1 := U.1
    refine z_iload F dX6_runs_39 rfl ?_
    refine z_aload_n F dX6_runs_41 rfl rfl ?_
    refine z_getf F vF_X6_109 dX6_runs_42 mO_at rfl ?_
    refine z_icmp_ge (tgt := 76) F dX6_runs_45 (by decide) (fun c45 => ?_) (fun c45 => absurd (nI_le (Nat.le_refl (sN S 20)) (by omega)) c45)
    cases hF : lst (sAI S 21) (nI (toldN S 2)) (sN S 20) with
    | none =>
      exact z_pick [0, 1, 2, 3] rfl (t_X6_runs_n R W V hM hM1 hA hx U f0 hp1 hn hf hF F hr)
    | some r =>
      exact z_pick [0, 1, 2, 3] rfl (t_X6_runs_s R W V hM hM1 hA hx U f0 hp1 hn hf hF F hr)
  | succ m ih =>
    intro i hi
    have u1 := U.1
    refine z_iload F dX6_runs_39 rfl ?_
    refine z_aload_n F dX6_runs_41 rfl rfl ?_
    refine z_getf F vF_X6_109 dX6_runs_42 mO_at rfl ?_
    refine z_icmp_ge (tgt := 76) F dX6_runs_45 (by decide) (fun c45 => absurd c45 (nI_ge (show i < sN S 20 by omega) (by omega))) (fun c45 => ?_)
    refine z_aload_n F dX6_runs_48 rfl rfl ?_
    refine z_getf F vF_X6_56 dX6_runs_49 mO_at rfl ?_
    refine z_iload F dX6_runs_52 rfl ?_
    refine z_iald (j := i) F dX6_runs_54 mA_21 rfl rfl (show i < 10 by omega) (Nat.le_of_ble_eq_true rfl) ?_
    refine z_aload_n F dX6_runs_55 rfl rfl ?_
    refine z_iconst (v := 2) F dX6_runs_56 rfl ?_
    refine z_callV F z_nwOK wL_good (c_X6_told (a := 2) R (by decide)) mO_at rfl vI_X6_told vM_X6_156 vV_X6_told vL_X6_told rfl dX6_runs_57 rfl rfl (Nat.le_of_ble_eq_true rfl) ⟨(Nat.le_of_ble_eq_true rfl), (Nat.le_of_ble_eq_true rfl), (Nat.le_of_ble_eq_true rfl), (Nat.le_of_ble_eq_true rfl)⟩ (fun v h1 hq => ?_)
    obtain ⟨rfl, rfl⟩ := hq
    refine z_icmp_ne (tgt := 68) F dX6_runs_60 (by decide) (fun c60 => ?_) (fun c60 => ?_)
    · have hz : lst (sAI S 21) (nI (toldN S 2)) (i + 1) = lst (sAI S 21) (nI (toldN S 2)) i := if_neg c60
      refine z_iload_n F dX6_runs_68 rfl ?_
      refine z_istore_n F dX6_runs_69 (Nat.le_of_ble_eq_true rfl) ?_
      refine z_iinc (w := 1) F dX6_runs_70 rfl rfl (Nat.le_of_ble_eq_true rfl) ?_
      rw [nI_1]
      refine z_goto (tgt := 39) F dX6_runs_73 (by decide) ?_
      have he := ih (i + 1) (by omega)
      rw [hz] at he
      exact he
    · have hz : lst (sAI S 21) (nI (toldN S 2)) (i + 1) = some i := if_pos c60
      refine z_iload F dX6_runs_63 rfl ?_
      refine z_goto (tgt := 69) F dX6_runs_65 (by decide) ?_
      refine z_istore_n F dX6_runs_69 (Nat.le_of_ble_eq_true rfl) ?_
      refine z_iinc (w := 1) F dX6_runs_70 rfl rfl (Nat.le_of_ble_eq_true rfl) ?_
      rw [nI_1]
      refine z_goto (tgt := 39) F dX6_runs_73 (by decide) ?_
      have he := ih (i + 1) (by omega)
      rw [hz] at he
      exact he

set_option maxRecDepth 100000 in
set_option maxHeartbeats 1000000 in
theorem c_X6_runs {c : Nat → z_E} {S : z_S} {o : Nat → Int64} {d : z_H} (R : rowOK S) (W : idsOK S) (V : numsOK S) (hM : sN S 38 ≤ 60) (hM1 : 1 ≤ sN S 38) (hA : sN S 40 = 0) {x : Int32} (hx : 2 ≤ sN S 38 → x = nI (sAN S 39 1 % 128)) (U : rtsOK S) : z_K yX6_runs cX6_runs 5 (some .int) 1 0 0 [.ref 11, .int (nI (sN S 38 - 1)), .int x] (HP c (mfun S o) d) (fun v h' => v = some (.int (nI (sv49 S).1)) ∧ h' = (HP c (mfun ((sv49 S).2) o) d)) := by
  refine z_met vI_X6_runs (Nat.le_of_ble_eq_true rfl) (fun G X F hr hnm => ?_)
  refine z_aload_n F dX6_runs_0 rfl rfl ?_
  refine z_getf F vF_X6_7 dX6_runs_1 mO_at rfl ?_
  refine z_iconst (v := 1) F dX6_runs_4 rfl ?_
  refine z_icmp_ne (tgt := 11) F dX6_runs_5 (by decide) (fun c5 => ?_) (fun c5 => ?_)
  · have hp1 : ¬ sN S 1 = 1 := fun e => c5 (by rw [e]; rfl)
    refine z_iload_n F dX6_runs_11 rfl ?_
    refine z_iconst (v := 3) F dX6_runs_12 rfl ?_
    refine z_icmp_eq (tgt := 19) F dX6_runs_13 (by decide) (fun c13 => ?_) (fun c13 => ?_)
    · have hn : sN S 38 - 1 = 3 := (nI_eq (b := 3) (by omega) (by decide)).mp c13
      have f0 := hx (by omega)
      subst f0
      refine z_iload_n F dX6_runs_19 rfl ?_
      refine z_i2l F dX6_runs_20 ?_
      refine z_lconst (v := 1) F dX6_runs_21 rfl ?_
      refine z_ldc2 F vK_X6_97 dX6_runs_22 ?_
      refine z_callS F z_nwOK wL_good (c_isIn32 (A := 1) (B := 3) (nI (sAN S 39 1 % 128)) 1 3 rfl rfl) vI_X6_isIn vM_X6_91 vS_X6_isIn rfl dX6_runs_25 rfl rfl (Nat.le_of_ble_eq_true rfl) ⟨(Nat.le_of_ble_eq_true rfl), (Nat.le_of_ble_eq_true rfl), (Nat.le_of_ble_eq_true rfl), (Nat.le_of_ble_eq_true rfl)⟩ (fun v h1 hq => ?_)
      obtain ⟨rfl, rfl⟩ := hq
      refine z_if_ne (tgt := 34) F dX6_runs_28 (by decide) (fun c28 => ?_) (fun c28 => ?_)
      · have hf : 1 ≤ sAN S 39 1 % 128 ∧ sAN S 39 1 % 128 ≤ 3 := by have h9 := z_b1 c28; rw [nI_toInt (by omega)] at h9; unfold inZ at h9; simp at h9; omega
        refine z_iconst (v := (-1)) F dX6_runs_34 rfl ?_
        refine z_istore_n F dX6_runs_35 (Nat.le_of_ble_eq_true rfl) ?_
        refine z_iconst (v := 0) F dX6_runs_36 rfl ?_
        refine z_istore F dX6_runs_37 (Nat.le_of_ble_eq_true rfl) ?_
        exact l_X6_runs R W V hM hM1 hA hx U rfl hp1 hn hf F hr (sN S 20) 0 (by omega)
      · have hf : ¬ (1 ≤ sAN S 39 1 % 128 ∧ sAN S 39 1 % 128 ≤ 3) := by have h9 := z_b0.mp c28; rw [nI_toInt (by omega)] at h9; unfold inZ at h9; simp at h9; omega
        have hs : sv49 S = (18, S) := by unfold sv49; rw [if_neg hp1, if_neg (not_not_intro hn), if_pos hf]
        refine z_bipush (v := 18) F dX6_runs_31 rfl ?_
        exact z_iret F hr dX6_runs_33 rfl (Nat.le_of_ble_eq_true rfl) (Nat.le_of_ble_eq_true rfl) (⟨by rw [hs]; try rfl, by rw [hs]; try rfl⟩)
    · have hn : ¬ sN S 38 - 1 = 3 := fun e => c13 (by rw [e]; rfl)
      have hs : sv49 S = (19, S) := by unfold sv49; rw [if_neg hp1, if_pos hn]
      refine z_bipush (v := 19) F dX6_runs_16 rfl ?_
      exact z_iret F hr dX6_runs_18 rfl (Nat.le_of_ble_eq_true rfl) (Nat.le_of_ble_eq_true rfl) (⟨by rw [hs]; try rfl, by rw [hs]; try rfl⟩)
  · have hp1 : sN S 1 = 1 := (nI_eq (b := 1) (by have := V.1; omega) (by decide)).mp c5
    have hs : sv49 S = (127, S) := if_pos hp1
    refine z_bipush (v := 127) F dX6_runs_8 rfl ?_
    exact z_iret F hr dX6_runs_10 rfl (Nat.le_of_ble_eq_true rfl) (Nat.le_of_ble_eq_true rfl) (⟨by rw [hs]; try rfl, by rw [hs]; try rfl⟩)
