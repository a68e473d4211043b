def ctlV (S : z_S) (k : Nat) : Int64 := if sAN S 39 3 = 2 then valS S k else if sAN S 39 3 = 3 then numL (fun i => nI (sAN S 39 (4 + i))) (sAN S 10 k) else 0
def sv47 (S : z_S) : Nat × z_S :=
  if sN S 1 = 1 then (127, S) else if sN S 38 - 1 < 3 then (19, S) else
  match hereF S (toldN S 1) with
  | none => (49, S)
  | some k => if sAB S 17 k = true then (49, S) else if sN S 2 < sAN S 12 k then (51, S) else if 3 < sAN S 39 3 then (49, S)
    else if ¬ sN S 38 - 1 = 3 + (if sAN S 39 3 = 3 then sAN S 10 k else 0) then (19, S)
    else (0, sayS (sayS (sayS (sayS (uAL (uAB S 14 (va_up (sAB S 14) k (decide (0 < sAN S 39 3)))) 15 (va_up (sAL S 15) k (ctlV S k))) 111) (sAN S 39 1)) (sAN S 39 2)) (sAN S 39 3))

set_option maxRecDepth 100000 in
set_option maxHeartbeats 1000000 in
theorem c_X6_controls {c : Nat → z_E} {S : z_S} {o : Nat → Int64} {d : z_H} (R : rowOK S) (W : idsOK S) (V : numsOK S) (hM : sN S 38 ≤ 60) (hM1 : 1 ≤ sN S 38) (hA : sN S 40 = 0) : z_K yX6_controls cX6_controls 6 (some .int) 2 0 0 [.ref 11, .int (nI (sN S 38 - 1))] (HP c (mfun S o) d) (fun v h' => v = some (.int (nI (sv47 S).1)) ∧ h' = (HP c (mfun ((sv47 S).2) o) d)) := by
  refine z_met vI_X6_controls (Nat.le_of_ble_eq_true rfl) (fun G X F hr hnm => ?_)
  refine z_aload_n F dX6_controls_0 rfl rfl ?_
  refine z_getf F vF_X6_7 dX6_controls_1 mO_at rfl ?_
  refine z_iconst (v := 1) F dX6_controls_4 rfl ?_
  refine z_icmp_ne (tgt := 11) F dX6_controls_5 (by decide) (fun c5 => ?_) (fun c5 => ?_)
  · have hp1 : ¬ sN S 1 = 1 := fun e => c5 (by rw [e]; rfl)
    refine z_iload_n F dX6_controls_11 rfl ?_
    refine z_iconst (v := 3) F dX6_controls_12 rfl ?_
    refine z_icmp_ge (tgt := 19) F dX6_controls_13 (by decide) (fun c13 => ?_) (fun c13 => ?_)
    · have h3 : ¬ sN S 38 - 1 < 3 := by have := (nI_leI (a := 3) (b := sN S 38 - 1) (by decide) (by omega)).mp c13; omega
      refine z_aload_n F dX6_controls_19 rfl rfl ?_
      refine z_aload_n F dX6_controls_20 rfl rfl ?_
      refine z_iconst (v := 1) F dX6_controls_21 rfl ?_
      refine z_callV F z_nwOK wL_good (c_X6_told (a := 1) R (by decide)) mO_at rfl vI_X6_told vM_X6_156 vV_X6_told vL_X6_told rfl dX6_controls_22 rfl rfl (Nat.le_of_ble_eq_true rfl) ⟨(Nat.le_of_ble_eq_true rfl), (Nat.le_of_ble_eq_true rfl), (Nat.le_of_ble_eq_true rfl), (Nat.le_of_ble_eq_true rfl)⟩ (fun v h1 hq => ?_)
      obtain ⟨rfl, rfl⟩ := hq
      refine z_callV F z_nwOK wL_good (c_X6_find W.1) mO_at rfl vI_X6_find vM_X6_99 vV_X6_find vL_X6_find rfl dX6_controls_25 rfl rfl (Nat.le_of_ble_eq_true rfl) ⟨(Nat.le_of_ble_eq_true rfl), (Nat.le_of_ble_eq_true rfl), (Nat.le_of_ble_eq_true rfl), (Nat.le_of_ble_eq_true rfl)⟩ (fun v h1 hq => ?_)
      obtain ⟨rfl, rfl⟩ := hq
      refine z_istore_n F dX6_controls_28 (Nat.le_of_ble_eq_true rfl) ?_
      refine z_aload_n F dX6_controls_29 rfl rfl ?_
      refine z_iload_n F dX6_controls_30 rfl ?_
      refine z_callV F z_nwOK wL_good (c_X6_isHere W V) mO_at rfl vI_X6_isHere vM_X6_180 vV_X6_isHere vL_X6_isHere rfl dX6_controls_31 rfl rfl (Nat.le_of_ble_eq_true rfl) ⟨(Nat.le_of_ble_eq_true rfl), (Nat.le_of_ble_eq_true rfl), (Nat.le_of_ble_eq_true rfl), (Nat.le_of_ble_eq_true rfl)⟩ (fun v h1 hq => ?_)
      obtain ⟨rfl, rfl⟩ := hq
      rcases here_cases S (toldN S 1) with ⟨hF, h2⟩ | ⟨k, hr', hF, h2, hk⟩
      · rw [h2]
        have hs : sv47 S = (49, S) := by unfold sv47; rw [if_neg hp1, if_neg h3, hF]
        refine z_if_eq (tgt := 46) F dX6_controls_34 (by decide) (fun c34 => ?_) (fun c34 => absurd rfl c34)
        refine z_bipush (v := 49) F dX6_controls_46 rfl ?_
        exact z_iret F hr dX6_controls_48 rfl (Nat.le_of_ble_eq_true rfl) (Nat.le_of_ble_eq_true rfl) (⟨by rw [hs]; try rfl, by rw [hs]; try rfl⟩)
      · rw [hr', h2]
        have h40 := W.1
        have hl := (W.2 k hk).1
        have hr3 := R 3
        refine z_if_eq (tgt := 46) F dX6_controls_34 (by decide) (fun c34 => absurd c34 (by decide)) (fun c34 => ?_)
        refine z_aload_n F dX6_controls_37 rfl rfl ?_
        refine z_getf F vF_X6_47 dX6_controls_38 mO_at rfl ?_
        refine z_iload_n F dX6_controls_41 rfl ?_
        refine z_zald (j := k) F dX6_controls_42 mA_17 rfl rfl (show k < 40 by omega) (Nat.le_of_ble_eq_true rfl) ?_
        refine z_if_eq (tgt := 49) F dX6_controls_43 (by decide) (fun c43 => ?_) (fun c43 => ?_)
        · have hj : ¬ sAB S 17 k = true := by rw [z_b0.mp c43]; decide
          refine z_aload_n F dX6_controls_49 rfl rfl ?_
          refine z_getf F vF_X6_30 dX6_controls_50 mO_at rfl ?_
          refine z_iload_n F dX6_controls_53 rfl ?_
          refine z_iald (j := k) F dX6_controls_54 mA_12 rfl rfl (show k < 40 by omega) (Nat.le_of_ble_eq_true rfl) ?_
          refine z_aload_n F dX6_controls_55 rfl rfl ?_
          refine z_getf F vF_X6_112 dX6_controls_56 mO_at rfl ?_
          refine z_icmp_le (tgt := 65) F dX6_controls_59 (by decide) (fun c59 => ?_) (fun c59 => ?_)
          · have hv : ¬ sN S 2 < sAN S 12 k := by have := (nI_leI (by have := V.2.2.2.2 k; omega) (by have := V.2.1; omega)).mp c59; omega
            refine z_aload_n F dX6_controls_65 rfl rfl ?_
            refine z_getf F vF_X6_74 dX6_controls_66 mO_at rfl ?_
            refine z_iconst (v := 3) F dX6_controls_69 rfl ?_
            refine z_iald (j := 3) F dX6_controls_70 mA_39 rfl rfl (show 3 < 60 by decide) (Nat.le_of_ble_eq_true rfl) ?_
            refine z_istore_n F dX6_controls_71 (Nat.le_of_ble_eq_true rfl) ?_
            refine z_iload_n F dX6_controls_72 rfl ?_
            refine z_iconst (v := 3) F dX6_controls_73 rfl ?_
            refine z_icmp_le (tgt := 80) F dX6_controls_74 (by decide) (fun c74 => ?_) (fun c74 => ?_)
            · have h33 : ¬ 3 < sAN S 39 3 := by have := (nI_leI (b := 3) (by omega) (by decide)).mp c74; omega
              refine z_iload_n F dX6_controls_80 rfl ?_
              refine z_iload_n F dX6_controls_81 rfl ?_
              refine z_iconst (v := 3) F dX6_controls_82 rfl ?_
              refine z_icmp_ne (tgt := 97) F dX6_controls_83 (by decide) (fun c83 => ?_) (fun c83 => ?_)
              · have hk3 : ¬ sAN S 39 3 = 3 := fun e => c83 (by rw [e]; rfl)
                have he : (if sAN S 39 3 = 3 then sAN S 10 k else 0) = 0 := if_neg hk3
                refine z_iconst (v := 3) F dX6_controls_97 rfl ?_
                refine z_icmp_eq (tgt := 104) F dX6_controls_98 (by decide) (fun c98 => ?_) (fun c98 => ?_)
                · have hn : sN S 38 - 1 = 3 + (if sAN S 39 3 = 3 then sAN S 10 k else 0) := by rw [he]; first | exact (nI_eq (by omega) (by omega)).mp (c98.trans (nI_add 3 _)) | exact (nI_eq (b := 3) (by omega) (by omega)).mp c98
                  have hs : sv47 S = (0, sayS (sayS (sayS (sayS (uAL (uAB S 14 (va_up (sAB S 14) k (decide (0 < sAN S 39 3)))) 15 (va_up (sAL S 15) k (ctlV S k))) 111) (sAN S 39 1)) (sAN S 39 2)) (sAN S 39 3)) := by unfold sv47; rw [if_neg hp1, if_neg h3, hF]; show (if _ then _ else _) = _; rw [if_neg hj, if_neg hv, if_neg h33, if_neg (not_not_intro hn)]
                  refine z_iload_n F dX6_controls_104 rfl ?_
                  refine z_iconst (v := 1) F dX6_controls_105 rfl ?_
                  refine z_icmp_ne (tgt := 113) F dX6_controls_106 (by decide) (fun c106 => ?_) (fun c106 => ?_)
                  · have e1 : ¬ sAN S 39 3 = 1 := fun e => c106 (by rw [e]; rfl)
                    refine z_iload_n F dX6_controls_113 rfl ?_
                    refine z_iconst (v := 2) F dX6_controls_114 rfl ?_
                    refine z_icmp_ne (tgt := 126) F dX6_controls_115 (by decide) (fun c115 => ?_) (fun c115 => ?_)
                    · have e2 : ¬ sAN S 39 3 = 2 := fun e => c115 (by rw [e]; rfl)
                      refine z_iload_n F dX6_controls_126 rfl ?_
                      refine z_iconst (v := 3) F dX6_controls_127 rfl ?_
                      refine z_icmp_ne (tgt := 145) F dX6_controls_128 (by decide) (fun c128 => ?_) (fun c128 => ?_)
                      · have e3 : ¬ sAN S 39 3 = 3 := fun e => c128 (by rw [e]; rfl)
                        have hV : (0 : Int64) = ctlV S k := by unfold ctlV; rw [if_neg e2, if_neg e3]
                        refine z_lconst (v := 0) F dX6_controls_145 rfl ?_
                        rw [show (0 : Int64) = ctlV S k from hV]
                        refine z_lstore F dX6_controls_146 (Nat.le_of_ble_eq_true rfl) ?_
                        refine z_aload_n F dX6_controls_148 rfl rfl ?_
                        refine z_getf F vF_X6_37 dX6_controls_149 mO_at rfl ?_
                        refine z_iload_n F dX6_controls_152 rfl ?_
                        refine z_iload_n F dX6_controls_153 rfl ?_
                        refine z_if_le (tgt := 161) F dX6_controls_154 (by decide) (fun c154 => ?_) (fun c154 => ?_)
                        · have hz : decide (0 < sAN S 39 3) = false := decide_eq_false (by have := (nI_leI (b := 0) (by omega) (by decide)).mp c154; omega)
                          rw [hz] at hs
                          refine z_iconst (v := 0) F dX6_controls_161 rfl ?_
                          refine z_zast (j := k) F dX6_controls_162 mA_14 rfl rfl (show k < 40 by omega) (Nat.le_of_ble_eq_true rfl) ?_
                          refine z_heap _ (ma_14 (v := false)) ?_
                          refine z_aload_n F dX6_controls_163 rfl rfl ?_
                          refine z_getf F vF_X6_41 dX6_controls_164 mO_at rfl ?_
                          refine z_iload_n F dX6_controls_167 rfl ?_
                          refine z_lload F dX6_controls_168 rfl ?_
                          refine z_last (j := k) F dX6_controls_170 mA_15 rfl rfl (show k < 40 by omega) (Nat.le_of_ble_eq_true rfl) ?_
                          refine z_heap _ (ma_15) ?_
                          refine z_aload_n F dX6_controls_171 rfl rfl ?_
                          refine z_bipush (v := 111) F dX6_controls_172 rfl ?_
                          refine z_aload_n F dX6_controls_174 rfl rfl ?_
                          refine z_getf F vF_X6_74 dX6_controls_175 mO_at rfl ?_
                          refine z_iconst (v := 1) F dX6_controls_178 rfl ?_
                          refine z_iald (j := 1) F dX6_controls_179 mA_39 rfl rfl (show 1 < 60 by decide) (Nat.le_of_ble_eq_true rfl) ?_
                          refine z_aload_n F dX6_controls_180 rfl rfl ?_
                          refine z_getf F vF_X6_74 dX6_controls_181 mO_at rfl ?_
                          refine z_iconst (v := 2) F dX6_controls_184 rfl ?_
                          refine z_iald (j := 2) F dX6_controls_185 mA_39 rfl rfl (show 2 < 60 by decide) (Nat.le_of_ble_eq_true rfl) ?_
                          refine z_callV F z_nwOK wL_good (c_X6_threeSaid (x := 111) (y := sAN S 39 1) (w := sAN S 39 2) (show sN S 40 < 900 by omega) (by decide) (by have := R 1; omega) (by have := R 2; omega)) mO_at rfl vI_X6_threeSaid vM_X6_176 vV_X6_threeSaid vL_X6_threeSaid rfl dX6_controls_186 rfl rfl (Nat.le_of_ble_eq_true rfl) ⟨(Nat.le_of_ble_eq_true rfl), (Nat.le_of_ble_eq_true rfl), (Nat.le_of_ble_eq_true rfl), (Nat.le_of_ble_eq_true rfl)⟩ (fun v h1 hq => ?_)
                          obtain ⟨rfl, rfl⟩ := hq
                          refine z_aload_n F dX6_controls_189 rfl rfl ?_
                          refine z_iload_n F dX6_controls_190 rfl ?_
                          refine z_callV F z_nwOK wL_good (c_X6_say (b := sAN S 39 3) (show sN S 40 + 1 + 1 + 1 < 1000 by omega) (by omega)) mO_at rfl vI_X6_say vM_X6_131 vV_X6_say vL_X6_say rfl dX6_controls_191 rfl rfl (Nat.le_of_ble_eq_true rfl) ⟨(Nat.le_of_ble_eq_true rfl), (Nat.le_of_ble_eq_true rfl), (Nat.le_of_ble_eq_true rfl), (Nat.le_of_ble_eq_true rfl)⟩ (fun v h1 hq => ?_)
                          obtain ⟨rfl, rfl⟩ := hq
                          refine z_iconst (v := 0) F dX6_controls_194 rfl ?_
                          exact z_iret F hr dX6_controls_195 rfl (Nat.le_of_ble_eq_true rfl) (Nat.le_of_ble_eq_true rfl) (⟨by rw [hs]; try rfl, by rw [hs]; try rfl⟩)
                        · have hz : decide (0 < sAN S 39 3) = true := decide_eq_true (by have := mt (nI_leI (a := sAN S 39 3) (b := 0) (by omega) (by decide)).mpr c154; omega)
                          rw [hz] at hs
                          refine z_iconst (v := 1) F dX6_controls_157 rfl ?_
                          refine z_goto (tgt := 162) F dX6_controls_158 (by decide) ?_
                          refine z_zast (j := k) F dX6_controls_162 mA_14 rfl rfl (show k < 40 by omega) (Nat.le_of_ble_eq_true rfl) ?_
                          refine z_heap _ (ma_14 (v := true)) ?_
                          refine z_aload_n F dX6_controls_163 rfl rfl ?_
                          refine z_getf F vF_X6_41 dX6_controls_164 mO_at rfl ?_
                          refine z_iload_n F dX6_controls_167 rfl ?_
                          refine z_lload F dX6_controls_168 rfl ?_
                          refine z_last (j := k) F dX6_controls_170 mA_15 rfl rfl (show k < 40 by omega) (Nat.le_of_ble_eq_true rfl) ?_
                          refine z_heap _ (ma_15) ?_
                          refine z_aload_n F dX6_controls_171 rfl rfl ?_
                          refine z_bipush (v := 111) F dX6_controls_172 rfl ?_
                          refine z_aload_n F dX6_controls_174 rfl rfl ?_
                          refine z_getf F vF_X6_74 dX6_controls_175 mO_at rfl ?_
                          refine z_iconst (v := 1) F dX6_controls_178 rfl ?_
                          refine z_iald (j := 1) F dX6_controls_179 mA_39 rfl rfl (show 1 < 60 by decide) (Nat.le_of_ble_eq_true rfl) ?_
                          refine z_aload_n F dX6_controls_180 rfl rfl ?_
                          refine z_getf F vF_X6_74 dX6_controls_181 mO_at rfl ?_
                          refine z_iconst (v := 2) F dX6_controls_184 rfl ?_
                          refine z_iald (j := 2) F dX6_controls_185 mA_39 rfl rfl (show 2 < 60 by decide) (Nat.le_of_ble_eq_true rfl) ?_
                          refine z_callV F z_nwOK wL_good (c_X6_threeSaid (x := 111) (y := sAN S 39 1) (w := sAN S 39 2) (show sN S 40 < 900 by omega) (by decide) (by have := R 1; omega) (by have := R 2; omega)) mO_at rfl vI_X6_threeSaid vM_X6_176 vV_X6_threeSaid vL_X6_threeSaid rfl dX6_controls_186 rfl rfl (Nat.le_of_ble_eq_true rfl) ⟨(Nat.le_of_ble_eq_true rfl), (Nat.le_of_ble_eq_true rfl), (Nat.le_of_ble_eq_true rfl), (Nat.le_of_ble_eq_true rfl)⟩ (fun v h1 hq => ?_)
                          obtain ⟨rfl, rfl⟩ := hq
                          refine z_aload_n F dX6_controls_189 rfl rfl ?_
                          refine z_iload_n F dX6_controls_190 rfl ?_
                          refine z_callV F z_nwOK wL_good (c_X6_say (b := sAN S 39 3) (show sN S 40 + 1 + 1 + 1 < 1000 by omega) (by omega)) mO_at rfl vI_X6_say vM_X6_131 vV_X6_say vL_X6_say rfl dX6_controls_191 rfl rfl (Nat.le_of_ble_eq_true rfl) ⟨(Nat.le_of_ble_eq_true rfl), (Nat.le_of_ble_eq_true rfl), (Nat.le_of_ble_eq_true rfl), (Nat.le_of_ble_eq_true rfl)⟩ (fun v h1 hq => ?_)
                          obtain ⟨rfl, rfl⟩ := hq
                          refine z_iconst (v := 0) F dX6_controls_194 rfl ?_
                          exact z_iret F hr dX6_controls_195 rfl (Nat.le_of_ble_eq_true rfl) (Nat.le_of_ble_eq_true rfl) (⟨by rw [hs]; try rfl, by rw [hs]; try rfl⟩)
                      · have e3 : sAN S 39 3 = 3 := (nI_eq (b := 3) (by omega) (by decide)).mp c128
                        have hV : numL (fun i => nI (sAN S 39 (4 + i))) (sAN S 10 k) = ctlV S k := by unfold ctlV; rw [if_neg e2, if_pos e3]
                        have hn60 : 4 + sAN S 10 k ≤ 60 := by omega
                        refine z_aload_n F dX6_controls_131 rfl rfl ?_
                        refine z_iconst (v := 4) F dX6_controls_132 rfl ?_
                        refine z_aload_n F dX6_controls_133 rfl rfl ?_
                        refine z_getf F vF_X6_24 dX6_controls_134 mO_at rfl ?_
                        refine z_iload_n F dX6_controls_137 rfl ?_
                        refine z_iald (j := k) F dX6_controls_138 mA_10 rfl rfl (show k < 40 by omega) (Nat.le_of_ble_eq_true rfl) ?_
                        refine z_callV F z_nwOK wL_good (c_X6_number (a := 4) (n := sAN S 10 k) hn60) mO_at rfl vI_X6_number vM_X6_184 vV_X6_number vL_X6_number rfl dX6_controls_139 rfl rfl (Nat.le_of_ble_eq_true rfl) ⟨(Nat.le_of_ble_eq_true rfl), (Nat.le_of_ble_eq_true rfl), (Nat.le_of_ble_eq_true rfl), (Nat.le_of_ble_eq_true rfl)⟩ (fun v h1 hq => ?_)
                        obtain ⟨rfl, rfl⟩ := hq
                        refine z_goto (tgt := 146) F dX6_controls_142 (by decide) ?_
                        rw [show numL (fun i => nI (sAN S 39 (4 + i))) (sAN S 10 k) = ctlV S k from hV]
                        refine z_lstore F dX6_controls_146 (Nat.le_of_ble_eq_true rfl) ?_
                        refine z_aload_n F dX6_controls_148 rfl rfl ?_
                        refine z_getf F vF_X6_37 dX6_controls_149 mO_at rfl ?_
                        refine z_iload_n F dX6_controls_152 rfl ?_
                        refine z_iload_n F dX6_controls_153 rfl ?_
                        refine z_if_le (tgt := 161) F dX6_controls_154 (by decide) (fun c154 => ?_) (fun c154 => ?_)
                        · have hz : decide (0 < sAN S 39 3) = false := decide_eq_false (by have := (nI_leI (b := 0) (by omega) (by decide)).mp c154; omega)
                          rw [hz] at hs
                          refine z_iconst (v := 0) F dX6_controls_161 rfl ?_
                          refine z_zast (j := k) F dX6_controls_162 mA_14 rfl rfl (show k < 40 by omega) (Nat.le_of_ble_eq_true rfl) ?_
                          refine z_heap _ (ma_14 (v := false)) ?_
                          refine z_aload_n F dX6_controls_163 rfl rfl ?_
                          refine z_getf F vF_X6_41 dX6_controls_164 mO_at rfl ?_
                          refine z_iload_n F dX6_controls_167 rfl ?_
                          refine z_lload F dX6_controls_168 rfl ?_
                          refine z_last (j := k) F dX6_controls_170 mA_15 rfl rfl (show k < 40 by omega) (Nat.le_of_ble_eq_true rfl) ?_
                          refine z_heap _ (ma_15) ?_
                          refine z_aload_n F dX6_controls_171 rfl rfl ?_
                          refine z_bipush (v := 111) F dX6_controls_172 rfl ?_
                          refine z_aload_n F dX6_controls_174 rfl rfl ?_
                          refine z_getf F vF_X6_74 dX6_controls_175 mO_at rfl ?_
                          refine z_iconst (v := 1) F dX6_controls_178 rfl ?_
                          refine z_iald (j := 1) F dX6_controls_179 mA_39 rfl rfl (show 1 < 60 by decide) (Nat.le_of_ble_eq_true rfl) ?_
                          refine z_aload_n F dX6_controls_180 rfl rfl ?_
                          refine z_getf F vF_X6_74 dX6_controls_181 mO_at rfl ?_
                          refine z_iconst (v := 2) F dX6_controls_184 rfl ?_
                          refine z_iald (j := 2) F dX6_controls_185 mA_39 rfl rfl (show 2 < 60 by decide) (Nat.le_of_ble_eq_true rfl) ?_
                          refine z_callV F z_nwOK wL_good (c_X6_threeSaid (x := 111) (y := sAN S 39 1) (w := sAN S 39 2) (show sN S 40 < 900 by omega) (by decide) (by have := R 1; omega) (by have := R 2; omega)) mO_at rfl vI_X6_threeSaid vM_X6_176 vV_X6_threeSaid vL_X6_threeSaid rfl dX6_controls_186 rfl rfl (Nat.le_of_ble_eq_true rfl) ⟨(Nat.le_of_ble_eq_true rfl), (Nat.le_of_ble_eq_true rfl), (Nat.le_of_ble_eq_true rfl), (Nat.le_of_ble_eq_true rfl)⟩ (fun v h1 hq => ?_)
                          obtain ⟨rfl, rfl⟩ := hq
                          refine z_aload_n F dX6_controls_189 rfl rfl ?_
                          refine z_iload_n F dX6_controls_190 rfl ?_
                          refine z_callV F z_nwOK wL_good (c_X6_say (b := sAN S 39 3) (show sN S 40 + 1 + 1 + 1 < 1000 by omega) (by omega)) mO_at rfl vI_X6_say vM_X6_131 vV_X6_say vL_X6_say rfl dX6_controls_191 rfl rfl (Nat.le_of_ble_eq_true rfl) ⟨(Nat.le_of_ble_eq_true rfl), (Nat.le_of_ble_eq_true rfl), (Nat.le_of_ble_eq_true rfl), (Nat.le_of_ble_eq_true rfl)⟩ (fun v h1 hq => ?_)
                          obtain ⟨rfl, rfl⟩ := hq
                          refine z_iconst (v := 0) F dX6_controls_194 rfl ?_
                          exact z_iret F hr dX6_controls_195 rfl (Nat.le_of_ble_eq_true rfl) (Nat.le_of_ble_eq_true rfl) (⟨by rw [hs]; try rfl, by rw [hs]; try rfl⟩)
                        · have hz : decide (0 < sAN S 39 3) = true := decide_eq_true (by have := mt (nI_leI (a := sAN S 39 3) (b := 0) (by omega) (by decide)).mpr c154; omega)
                          rw [hz] at hs
                          refine z_iconst (v := 1) F dX6_controls_157 rfl ?_
                          refine z_goto (tgt := 162) F dX6_controls_158 (by decide) ?_
                          refine z_zast (j := k) F dX6_controls_162 mA_14 rfl rfl (show k < 40 by omega) (Nat.le_of_ble_eq_true rfl) ?_
                          refine z_heap _ (ma_14 (v := true)) ?_
                          refine z_aload_n F dX6_controls_163 rfl rfl ?_
                          refine z_getf F vF_X6_41 dX6_controls_164 mO_at rfl ?_
                          refine z_iload_n F dX6_controls_167 rfl ?_
                          refine z_lload F dX6_controls_168 rfl ?_
                          refine z_last (j := k) F dX6_controls_170 mA_15 rfl rfl (show k < 40 by omega) (Nat.le_of_ble_eq_true rfl) ?_
                          refine z_heap _ (ma_15) ?_
                          refine z_aload_n F dX6_controls_171 rfl rfl ?_
                          refine z_bipush (v := 111) F dX6_controls_172 rfl ?_
                          refine z_aload_n F dX6_controls_174 rfl rfl ?_
                          refine z_getf F vF_X6_74 dX6_controls_175 mO_at rfl ?_
                          refine z_iconst (v := 1) F dX6_controls_178 rfl ?_
                          refine z_iald (j := 1) F dX6_controls_179 mA_39 rfl rfl (show 1 < 60 by decide) (Nat.le_of_ble_eq_true rfl) ?_
                          refine z_aload_n F dX6_controls_180 rfl rfl ?_
                          refine z_getf F vF_X6_74 dX6_controls_181 mO_at rfl ?_
                          refine z_iconst (v := 2) F dX6_controls_184 rfl ?_
                          refine z_iald (j := 2) F dX6_controls_185 mA_39 rfl rfl (show 2 < 60 by decide) (Nat.le_of_ble_eq_true rfl) ?_
                          refine z_callV F z_nwOK wL_good (c_X6_threeSaid (x := 111) (y := sAN S 39 1) (w := sAN S 39 2) (show sN S 40 < 900 by omega) (by decide) (by have := R 1; omega) (by have := R 2; omega)) mO_at rfl vI_X6_threeSaid vM_X6_176 vV_X6_threeSaid vL_X6_threeSaid rfl dX6_controls_186 rfl rfl (Nat.le_of_ble_eq_true rfl) ⟨(Nat.le_of_ble_eq_true rfl), (Nat.le_of_ble_eq_true rfl), (Nat.le_of_ble_eq_true rfl), (Nat.le_of_ble_eq_true rfl)⟩ (fun v h1 hq => ?_)
                          obtain ⟨rfl, rfl⟩ := hq
                          refine z_aload_n F dX6_controls_189 rfl rfl ?_
                          refine z_iload_n F dX6_controls_190 rfl ?_
                          refine z_callV F z_nwOK wL_good (c_X6_say (b := sAN S 39 3) (show sN S 40 + 1 + 1 + 1 < 1000 by omega) (by omega)) mO_at rfl vI_X6_say vM_X6_131 vV_X6_say vL_X6_say rfl dX6_controls_191 rfl rfl (Nat.le_of_ble_eq_true rfl) ⟨(Nat.le_of_ble_eq_true rfl), (Nat.le_of_ble_eq_true rfl), (Nat.le_of_ble_eq_true rfl), (Nat.le_of_ble_eq_true rfl)⟩ (fun v h1 hq => ?_)
                          obtain ⟨rfl, rfl⟩ := hq
                          refine z_iconst (v := 0) F dX6_controls_194 rfl ?_
                          exact z_iret F hr dX6_controls_195 rfl (Nat.le_of_ble_eq_true rfl) (Nat.le_of_ble_eq_true rfl) (⟨by rw [hs]; try rfl, by rw [hs]; try rfl⟩)
                    · have e2 : sAN S 39 3 = 2 := (nI_eq (b := 2) (by omega) (by decide)).mp c115
                      have hV : numL (fun j => nI (octS S k j)) (sAN S 10 k) = ctlV S k := by unfold ctlV; rw [if_pos e2]; rfl
                      refine z_aload_n F dX6_controls_118 rfl rfl ?_
                      refine z_iload_n F dX6_controls_119 rfl ?_
                      refine z_callV F z_nwOK wL_good (c_X6_valueOf W hk) mO_at rfl vI_X6_valueOf vM_X6_124 vV_X6_valueOf vL_X6_valueOf rfl dX6_controls_120 rfl rfl (Nat.le_of_ble_eq_true rfl) ⟨(Nat.le_of_ble_eq_true rfl), (Nat.le_of_ble_eq_true rfl), (Nat.le_of_ble_eq_true rfl), (Nat.le_of_ble_eq_true rfl)⟩ (fun v h1 hq => ?_)
                      obtain ⟨rfl, rfl⟩ := hq
                      refine z_goto (tgt := 146) F dX6_controls_123 (by decide) ?_
                      rw [show numL (fun j => nI (octS S k j)) (sAN S 10 k) = ctlV S k from hV]
                      refine z_lstore F dX6_controls_146 (Nat.le_of_ble_eq_true rfl) ?_
                      refine z_aload_n F dX6_controls_148 rfl rfl ?_
                      refine z_getf F vF_X6_37 dX6_controls_149 mO_at rfl ?_
                      refine z_iload_n F dX6_controls_152 rfl ?_
                      refine z_iload_n F dX6_controls_153 rfl ?_
                      refine z_if_le (tgt := 161) F dX6_controls_154 (by decide) (fun c154 => ?_) (fun c154 => ?_)
                      · have hz : decide (0 < sAN S 39 3) = false := decide_eq_false (by have := (nI_leI (b := 0) (by omega) (by decide)).mp c154; omega)
                        rw [hz] at hs
                        refine z_iconst (v := 0) F dX6_controls_161 rfl ?_
                        refine z_zast (j := k) F dX6_controls_162 mA_14 rfl rfl (show k < 40 by omega) (Nat.le_of_ble_eq_true rfl) ?_
                        refine z_heap _ (ma_14 (v := false)) ?_
                        refine z_aload_n F dX6_controls_163 rfl rfl ?_
                        refine z_getf F vF_X6_41 dX6_controls_164 mO_at rfl ?_
                        refine z_iload_n F dX6_controls_167 rfl ?_
                        refine z_lload F dX6_controls_168 rfl ?_
                        refine z_last (j := k) F dX6_controls_170 mA_15 rfl rfl (show k < 40 by omega) (Nat.le_of_ble_eq_true rfl) ?_
                        refine z_heap _ (ma_15) ?_
                        refine z_aload_n F dX6_controls_171 rfl rfl ?_
                        refine z_bipush (v := 111) F dX6_controls_172 rfl ?_
                        refine z_aload_n F dX6_controls_174 rfl rfl ?_
                        refine z_getf F vF_X6_74 dX6_controls_175 mO_at rfl ?_
                        refine z_iconst (v := 1) F dX6_controls_178 rfl ?_
                        refine z_iald (j := 1) F dX6_controls_179 mA_39 rfl rfl (show 1 < 60 by decide) (Nat.le_of_ble_eq_true rfl) ?_
                        refine z_aload_n F dX6_controls_180 rfl rfl ?_
                        refine z_getf F vF_X6_74 dX6_controls_181 mO_at rfl ?_
                        refine z_iconst (v := 2) F dX6_controls_184 rfl ?_
                        refine z_iald (j := 2) F dX6_controls_185 mA_39 rfl rfl (show 2 < 60 by decide) (Nat.le_of_ble_eq_true rfl) ?_
                        refine z_callV F z_nwOK wL_good (c_X6_threeSaid (x := 111) (y := sAN S 39 1) (w := sAN S 39 2) (show sN S 40 < 900 by omega) (by decide) (by have := R 1; omega) (by have := R 2; omega)) mO_at rfl vI_X6_threeSaid vM_X6_176 vV_X6_threeSaid vL_X6_threeSaid rfl dX6_controls_186 rfl rfl (Nat.le_of_ble_eq_true rfl) ⟨(Nat.le_of_ble_eq_true rfl), (Nat.le_of_ble_eq_true rfl), (Nat.le_of_ble_eq_true rfl), (Nat.le_of_ble_eq_true rfl)⟩ (fun v h1 hq => ?_)
                        obtain ⟨rfl, rfl⟩ := hq
                        refine z_aload_n F dX6_controls_189 rfl rfl ?_
                        refine z_iload_n F dX6_controls_190 rfl ?_
                        refine z_callV F z_nwOK wL_good (c_X6_say (b := sAN S 39 3) (show sN S 40 + 1 + 1 + 1 < 1000 by omega) (by omega)) mO_at rfl vI_X6_say vM_X6_131 vV_X6_say vL_X6_say rfl dX6_controls_191 rfl rfl (Nat.le_of_ble_eq_true rfl) ⟨(Nat.le_of_ble_eq_true rfl), (Nat.le_of_ble_eq_true rfl), (Nat.le_of_ble_eq_true rfl), (Nat.le_of_ble_eq_true rfl)⟩ (fun v h1 hq => ?_)
                        obtain ⟨rfl, rfl⟩ := hq
                        refine z_iconst (v := 0) F dX6_controls_194 rfl ?_
                        exact z_iret F hr dX6_controls_195 rfl (Nat.le_of_ble_eq_true rfl) (Nat.le_of_ble_eq_true rfl) (⟨by rw [hs]; try rfl, by rw [hs]; try rfl⟩)
                      · have hz : decide (0 < sAN S 39 3) = true := decide_eq_true (by have := mt (nI_leI (a := sAN S 39 3) (b := 0) (by omega) (by decide)).mpr c154; omega)
                        rw [hz] at hs
                        refine z_iconst (v := 1) F dX6_controls_157 rfl ?_
                        refine z_goto (tgt := 162) F dX6_controls_158 (by decide) ?_
                        refine z_zast (j := k) F dX6_controls_162 mA_14 rfl rfl (show k < 40 by omega) (Nat.le_of_ble_eq_true rfl) ?_
                        refine z_heap _ (ma_14 (v := true)) ?_
                        refine z_aload_n F dX6_controls_163 rfl rfl ?_
                        refine z_getf F vF_X6_41 dX6_controls_164 mO_at rfl ?_
                        refine z_iload_n F dX6_controls_167 rfl ?_
                        refine z_lload F dX6_controls_168 rfl ?_
                        refine z_last (j := k) F dX6_controls_170 mA_15 rfl rfl (show k < 40 by omega) (Nat.le_of_ble_eq_true rfl) ?_
                        refine z_heap _ (ma_15) ?_
                        refine z_aload_n F dX6_controls_171 rfl rfl ?_
                        refine z_bipush (v := 111) F dX6_controls_172 rfl ?_
                        refine z_aload_n F dX6_controls_174 rfl rfl ?_
                        refine z_getf F vF_X6_74 dX6_controls_175 mO_at rfl ?_
                        refine z_iconst (v := 1) F dX6_controls_178 rfl ?_
                        refine z_iald (j := 1) F dX6_controls_179 mA_39 rfl rfl (show 1 < 60 by decide) (Nat.le_of_ble_eq_true rfl) ?_
                        refine z_aload_n F dX6_controls_180 rfl rfl ?_
                        refine z_getf F vF_X6_74 dX6_controls_181 mO_at rfl ?_
                        refine z_iconst (v := 2) F dX6_controls_184 rfl ?_
                        refine z_iald (j := 2) F dX6_controls_185 mA_39 rfl rfl (show 2 < 60 by decide) (Nat.le_of_ble_eq_true rfl) ?_
                        refine z_callV F z_nwOK wL_good (c_X6_threeSaid (x := 111) (y := sAN S 39 1) (w := sAN S 39 2) (show sN S 40 < 900 by omega) (by decide) (by have := R 1; omega) (by have := R 2; omega)) mO_at rfl vI_X6_threeSaid vM_X6_176 vV_X6_threeSaid vL_X6_threeSaid rfl dX6_controls_186 rfl rfl (Nat.le_of_ble_eq_true rfl) ⟨(Nat.le_of_ble_eq_true rfl), (Nat.le_of_ble_eq_true rfl), (Nat.le_of_ble_eq_true rfl), (Nat.le_of_ble_eq_true rfl)⟩ (fun v h1 hq => ?_)
                        obtain ⟨rfl, rfl⟩ := hq
                        refine z_aload_n F dX6_controls_189 rfl rfl ?_
                        refine z_iload_n F dX6_controls_190 rfl ?_
                        refine z_callV F z_nwOK wL_good (c_X6_say (b := sAN S 39 3) (show sN S 40 + 1 + 1 + 1 < 1000 by omega) (by omega)) mO_at rfl vI_X6_say vM_X6_131 vV_X6_say vL_X6_say rfl dX6_controls_191 rfl rfl (Nat.le_of_ble_eq_true rfl) ⟨(Nat.le_of_ble_eq_true rfl), (Nat.le_of_ble_eq_true rfl), (Nat.le_of_ble_eq_true rfl), (Nat.le_of_ble_eq_true rfl)⟩ (fun v h1 hq => ?_)
                        obtain ⟨rfl, rfl⟩ := hq
                        refine z_iconst (v := 0) F dX6_controls_194 rfl ?_
                        exact z_iret F hr dX6_controls_195 rfl (Nat.le_of_ble_eq_true rfl) (Nat.le_of_ble_eq_true rfl) (⟨by rw [hs]; try rfl, by rw [hs]; try rfl⟩)
                  · have e1 : sAN S 39 3 = 1 := (nI_eq (b := 1) (by omega) (by decide)).mp c106
                    have hV : (0 : Int64) = ctlV S k := by unfold ctlV; rw [if_neg (by omega), if_neg (by omega)]
                    refine z_lconst (v := 0) F dX6_controls_109 rfl ?_
                    refine z_goto (tgt := 146) F dX6_controls_110 (by decide) ?_
                    rw [show (0 : Int64) = ctlV S k from hV]
                    refine z_lstore F dX6_controls_146 (Nat.le_of_ble_eq_true rfl) ?_
                    refine z_aload_n F dX6_controls_148 rfl rfl ?_
                    refine z_getf F vF_X6_37 dX6_controls_149 mO_at rfl ?_
                    refine z_iload_n F dX6_controls_152 rfl ?_
                    refine z_iload_n F dX6_controls_153 rfl ?_
                    refine z_if_le (tgt := 161) F dX6_controls_154 (by decide) (fun c154 => ?_) (fun c154 => ?_)
                    · have hz : decide (0 < sAN S 39 3) = false := decide_eq_false (by have := (nI_leI (b := 0) (by omega) (by decide)).mp c154; omega)
                      rw [hz] at hs
                      refine z_iconst (v := 0) F dX6_controls_161 rfl ?_
                      refine z_zast (j := k) F dX6_controls_162 mA_14 rfl rfl (show k < 40 by omega) (Nat.le_of_ble_eq_true rfl) ?_
                      refine z_heap _ (ma_14 (v := false)) ?_
                      refine z_aload_n F dX6_controls_163 rfl rfl ?_
                      refine z_getf F vF_X6_41 dX6_controls_164 mO_at rfl ?_
                      refine z_iload_n F dX6_controls_167 rfl ?_
                      refine z_lload F dX6_controls_168 rfl ?_
                      refine z_last (j := k) F dX6_controls_170 mA_15 rfl rfl (show k < 40 by omega) (Nat.le_of_ble_eq_true rfl) ?_
                      refine z_heap _ (ma_15) ?_
                      refine z_aload_n F dX6_controls_171 rfl rfl ?_
                      refine z_bipush (v := 111) F dX6_controls_172 rfl ?_
                      refine z_aload_n F dX6_controls_174 rfl rfl ?_
                      refine z_getf F vF_X6_74 dX6_controls_175 mO_at rfl ?_
                      refine z_iconst (v := 1) F dX6_controls_178 rfl ?_
                      refine z_iald (j := 1) F dX6_controls_179 mA_39 rfl rfl (show 1 < 60 by decide) (Nat.le_of_ble_eq_true rfl) ?_
                      refine z_aload_n F dX6_controls_180 rfl rfl ?_
                      refine z_getf F vF_X6_74 dX6_controls_181 mO_at rfl ?_
                      refine z_iconst (v := 2) F dX6_controls_184 rfl ?_
                      refine z_iald (j := 2) F dX6_controls_185 mA_39 rfl rfl (show 2 < 60 by decide) (Nat.le_of_ble_eq_true rfl) ?_
                      refine z_callV F z_nwOK wL_good (c_X6_threeSaid (x := 111) (y := sAN S 39 1) (w := sAN S 39 2) (show sN S 40 < 900 by omega) (by decide) (by have := R 1; omega) (by have := R 2; omega)) mO_at rfl vI_X6_threeSaid vM_X6_176 vV_X6_threeSaid vL_X6_threeSaid rfl dX6_controls_186 rfl rfl (Nat.le_of_ble_eq_true rfl) ⟨(Nat.le_of_ble_eq_true rfl), (Nat.le_of_ble_eq_true rfl), (Nat.le_of_ble_eq_true rfl), (Nat.le_of_ble_eq_true rfl)⟩ (fun v h1 hq => ?_)
                      obtain ⟨rfl, rfl⟩ := hq
                      refine z_aload_n F dX6_controls_189 rfl rfl ?_
                      refine z_iload_n F dX6_controls_190 rfl ?_
                      refine z_callV F z_nwOK wL_good (c_X6_say (b := sAN S 39 3) (show sN S 40 + 1 + 1 + 1 < 1000 by omega) (by omega)) mO_at rfl vI_X6_say vM_X6_131 vV_X6_say vL_X6_say rfl dX6_controls_191 rfl rfl (Nat.le_of_ble_eq_true rfl) ⟨(Nat.le_of_ble_eq_true rfl), (Nat.le_of_ble_eq_true rfl), (Nat.le_of_ble_eq_true rfl), (Nat.le_of_ble_eq_true rfl)⟩ (fun v h1 hq => ?_)
                      obtain ⟨rfl, rfl⟩ := hq
                      refine z_iconst (v := 0) F dX6_controls_194 rfl ?_
                      exact z_iret F hr dX6_controls_195 rfl (Nat.le_of_ble_eq_true rfl) (Nat.le_of_ble_eq_true rfl) (⟨by rw [hs]; try rfl, by rw [hs]; try rfl⟩)
                    · have hz : decide (0 < sAN S 39 3) = true := decide_eq_true (by have := mt (nI_leI (a := sAN S 39 3) (b := 0) (by omega) (by decide)).mpr c154; omega)
                      rw [hz] at hs
                      refine z_iconst (v := 1) F dX6_controls_157 rfl ?_
                      refine z_goto (tgt := 162) F dX6_controls_158 (by decide) ?_
                      refine z_zast (j := k) F dX6_controls_162 mA_14 rfl rfl (show k < 40 by omega) (Nat.le_of_ble_eq_true rfl) ?_
                      refine z_heap _ (ma_14 (v := true)) ?_
                      refine z_aload_n F dX6_controls_163 rfl rfl ?_
                      refine z_getf F vF_X6_41 dX6_controls_164 mO_at rfl ?_
                      refine z_iload_n F dX6_controls_167 rfl ?_
                      refine z_lload F dX6_controls_168 rfl ?_
                      refine z_last (j := k) F dX6_controls_170 mA_15 rfl rfl (show k < 40 by omega) (Nat.le_of_ble_eq_true rfl) ?_
                      refine z_heap _ (ma_15) ?_
                      refine z_aload_n F dX6_controls_171 rfl rfl ?_
                      refine z_bipush (v := 111) F dX6_controls_172 rfl ?_
                      refine z_aload_n F dX6_controls_174 rfl rfl ?_
                      refine z_getf F vF_X6_74 dX6_controls_175 mO_at rfl ?_
                      refine z_iconst (v := 1) F dX6_controls_178 rfl ?_
                      refine z_iald (j := 1) F dX6_controls_179 mA_39 rfl rfl (show 1 < 60 by decide) (Nat.le_of_ble_eq_true rfl) ?_
                      refine z_aload_n F dX6_controls_180 rfl rfl ?_
                      refine z_getf F vF_X6_74 dX6_controls_181 mO_at rfl ?_
                      refine z_iconst (v := 2) F dX6_controls_184 rfl ?_
                      refine z_iald (j := 2) F dX6_controls_185 mA_39 rfl rfl (show 2 < 60 by decide) (Nat.le_of_ble_eq_true rfl) ?_
                      refine z_callV F z_nwOK wL_good (c_X6_threeSaid (x := 111) (y := sAN S 39 1) (w := sAN S 39 2) (show sN S 40 < 900 by omega) (by decide) (by have := R 1; omega) (by have := R 2; omega)) mO_at rfl vI_X6_threeSaid vM_X6_176 vV_X6_threeSaid vL_X6_threeSaid rfl dX6_controls_186 rfl rfl (Nat.le_of_ble_eq_true rfl) ⟨(Nat.le_of_ble_eq_true rfl), (Nat.le_of_ble_eq_true rfl), (Nat.le_of_ble_eq_true rfl), (Nat.le_of_ble_eq_true rfl)⟩ (fun v h1 hq => ?_)
                      obtain ⟨rfl, rfl⟩ := hq
                      refine z_aload_n F dX6_controls_189 rfl rfl ?_
                      refine z_iload_n F dX6_controls_190 rfl ?_
                      refine z_callV F z_nwOK wL_good (c_X6_say (b := sAN S 39 3) (show sN S 40 + 1 + 1 + 1 < 1000 by omega) (by omega)) mO_at rfl vI_X6_say vM_X6_131 vV_X6_say vL_X6_say rfl dX6_controls_191 rfl rfl (Nat.le_of_ble_eq_true rfl) ⟨(Nat.le_of_ble_eq_true rfl), (Nat.le_of_ble_eq_true rfl), (Nat.le_of_ble_eq_true rfl), (Nat.le_of_ble_eq_true rfl)⟩ (fun v h1 hq => ?_)
                      obtain ⟨rfl, rfl⟩ := hq
                      refine z_iconst (v := 0) F dX6_controls_194 rfl ?_
                      exact z_iret F hr dX6_controls_195 rfl (Nat.le_of_ble_eq_true rfl) (Nat.le_of_ble_eq_true rfl) (⟨by rw [hs]; try rfl, by rw [hs]; try rfl⟩)
                · have hn : ¬ sN S 38 - 1 = 3 + (if sAN S 39 3 = 3 then sAN S 10 k else 0) := fun e => c98 (by rw [e, he]; first | rfl | exact (nI_add 3 _).symm)
                  have hs : sv47 S = (19, S) := by unfold sv47; rw [if_neg hp1, if_neg h3, hF]; show (if _ then _ else _) = _; rw [if_neg hj, if_neg hv, if_neg h33, if_pos hn]
                  refine z_bipush (v := 19) F dX6_controls_101 rfl ?_
                  exact z_iret F hr dX6_controls_103 rfl (Nat.le_of_ble_eq_true rfl) (Nat.le_of_ble_eq_true rfl) (⟨by rw [hs]; try rfl, by rw [hs]; try rfl⟩)
              · have hk3 : sAN S 39 3 = 3 := (nI_eq (b := 3) (by omega) (by decide)).mp c83
                have he : (if sAN S 39 3 = 3 then sAN S 10 k else 0) = sAN S 10 k := if_pos hk3
                refine z_iconst (v := 3) F dX6_controls_86 rfl ?_
                refine z_aload_n F dX6_controls_87 rfl rfl ?_
                refine z_getf F vF_X6_24 dX6_controls_88 mO_at rfl ?_
                refine z_iload_n F dX6_controls_91 rfl ?_
                refine z_iald (j := k) F dX6_controls_92 mA_10 rfl rfl (show k < 40 by omega) (Nat.le_of_ble_eq_true rfl) ?_
                refine z_iadd F dX6_controls_93 ?_
                refine z_goto (tgt := 98) F dX6_controls_94 (by decide) ?_
                refine z_icmp_eq (tgt := 104) F dX6_controls_98 (by decide) (fun c98 => ?_) (fun c98 => ?_)
                · have hn : sN S 38 - 1 = 3 + (if sAN S 39 3 = 3 then sAN S 10 k else 0) := by rw [he]; first | exact (nI_eq (by omega) (by omega)).mp (c98.trans (nI_add 3 _)) | exact (nI_eq (b := 3) (by omega) (by omega)).mp c98
                  have hs : sv47 S = (0, sayS (sayS (sayS (sayS (uAL (uAB S 14 (va_up (sAB S 14) k (decide (0 < sAN S 39 3)))) 15 (va_up (sAL S 15) k (ctlV S k))) 111) (sAN S 39 1)) (sAN S 39 2)) (sAN S 39 3)) := by unfold sv47; rw [if_neg hp1, if_neg h3, hF]; show (if _ then _ else _) = _; rw [if_neg hj, if_neg hv, if_neg h33, if_neg (not_not_intro hn)]
                  refine z_iload_n F dX6_controls_104 rfl ?_
                  refine z_iconst (v := 1) F dX6_controls_105 rfl ?_
                  refine z_icmp_ne (tgt := 113) F dX6_controls_106 (by decide) (fun c106 => ?_) (fun c106 => ?_)
                  · have e1 : ¬ sAN S 39 3 = 1 := fun e => c106 (by rw [e]; rfl)
                    refine z_iload_n F dX6_controls_113 rfl ?_
                    refine z_iconst (v := 2) F dX6_controls_114 rfl ?_
                    refine z_icmp_ne (tgt := 126) F dX6_controls_115 (by decide) (fun c115 => ?_) (fun c115 => ?_)
                    · have e2 : ¬ sAN S 39 3 = 2 := fun e => c115 (by rw [e]; rfl)
                      refine z_iload_n F dX6_controls_126 rfl ?_
                      refine z_iconst (v := 3) F dX6_controls_127 rfl ?_
                      refine z_icmp_ne (tgt := 145) F dX6_controls_128 (by decide) (fun c128 => ?_) (fun c128 => ?_)
                      · have e3 : ¬ sAN S 39 3 = 3 := fun e => c128 (by rw [e]; rfl)
                        have hV : (0 : Int64) = ctlV S k := by unfold ctlV; rw [if_neg e2, if_neg e3]
                        refine z_lconst (v := 0) F dX6_controls_145 rfl ?_
                        rw [show (0 : Int64) = ctlV S k from hV]
                        refine z_lstore F dX6_controls_146 (Nat.le_of_ble_eq_true rfl) ?_
                        refine z_aload_n F dX6_controls_148 rfl rfl ?_
                        refine z_getf F vF_X6_37 dX6_controls_149 mO_at rfl ?_
                        refine z_iload_n F dX6_controls_152 rfl ?_
                        refine z_iload_n F dX6_controls_153 rfl ?_
                        refine z_if_le (tgt := 161) F dX6_controls_154 (by decide) (fun c154 => ?_) (fun c154 => ?_)
                        · have hz : decide (0 < sAN S 39 3) = false := decide_eq_false (by have := (nI_leI (b := 0) (by omega) (by decide)).mp c154; omega)
                          rw [hz] at hs
                          refine z_iconst (v := 0) F dX6_controls_161 rfl ?_
                          refine z_zast (j := k) F dX6_controls_162 mA_14 rfl rfl (show k < 40 by omega) (Nat.le_of_ble_eq_true rfl) ?_
                          refine z_heap _ (ma_14 (v := false)) ?_
                          refine z_aload_n F dX6_controls_163 rfl rfl ?_
                          refine z_getf F vF_X6_41 dX6_controls_164 mO_at rfl ?_
                          refine z_iload_n F dX6_controls_167 rfl ?_
                          refine z_lload F dX6_controls_168 rfl ?_
                          refine z_last (j := k) F dX6_controls_170 mA_15 rfl rfl (show k < 40 by omega) (Nat.le_of_ble_eq_true rfl) ?_
                          refine z_heap _ (ma_15) ?_
                          refine z_aload_n F dX6_controls_171 rfl rfl ?_
                          refine z_bipush (v := 111) F dX6_controls_172 rfl ?_
                          refine z_aload_n F dX6_controls_174 rfl rfl ?_
                          refine z_getf F vF_X6_74 dX6_controls_175 mO_at rfl ?_
                          refine z_iconst (v := 1) F dX6_controls_178 rfl ?_
                          refine z_iald (j := 1) F dX6_controls_179 mA_39 rfl rfl (show 1 < 60 by decide) (Nat.le_of_ble_eq_true rfl) ?_
                          refine z_aload_n F dX6_controls_180 rfl rfl ?_
                          refine z_getf F vF_X6_74 dX6_controls_181 mO_at rfl ?_
                          refine z_iconst (v := 2) F dX6_controls_184 rfl ?_
                          refine z_iald (j := 2) F dX6_controls_185 mA_39 rfl rfl (show 2 < 60 by decide) (Nat.le_of_ble_eq_true rfl) ?_
                          refine z_callV F z_nwOK wL_good (c_X6_threeSaid (x := 111) (y := sAN S 39 1) (w := sAN S 39 2) (show sN S 40 < 900 by omega) (by decide) (by have := R 1; omega) (by have := R 2; omega)) mO_at rfl vI_X6_threeSaid vM_X6_176 vV_X6_threeSaid vL_X6_threeSaid rfl dX6_controls_186 rfl rfl (Nat.le_of_ble_eq_true rfl) ⟨(Nat.le_of_ble_eq_true rfl), (Nat.le_of_ble_eq_true rfl), (Nat.le_of_ble_eq_true rfl), (Nat.le_of_ble_eq_true rfl)⟩ (fun v h1 hq => ?_)
                          obtain ⟨rfl, rfl⟩ := hq
                          refine z_aload_n F dX6_controls_189 rfl rfl ?_
                          refine z_iload_n F dX6_controls_190 rfl ?_
                          refine z_callV F z_nwOK wL_good (c_X6_say (b := sAN S 39 3) (show sN S 40 + 1 + 1 + 1 < 1000 by omega) (by omega)) mO_at rfl vI_X6_say vM_X6_131 vV_X6_say vL_X6_say rfl dX6_controls_191 rfl rfl (Nat.le_of_ble_eq_true rfl) ⟨(Nat.le_of_ble_eq_true rfl), (Nat.le_of_ble_eq_true rfl), (Nat.le_of_ble_eq_true rfl), (Nat.le_of_ble_eq_true rfl)⟩ (fun v h1 hq => ?_)
                          obtain ⟨rfl, rfl⟩ := hq
                          refine z_iconst (v := 0) F dX6_controls_194 rfl ?_
                          exact z_iret F hr dX6_controls_195 rfl (Nat.le_of_ble_eq_true rfl) (Nat.le_of_ble_eq_true rfl) (⟨by rw [hs]; try rfl, by rw [hs]; try rfl⟩)
                        · have hz : decide (0 < sAN S 39 3) = true := decide_eq_true (by have := mt (nI_leI (a := sAN S 39 3) (b := 0) (by omega) (by decide)).mpr c154; omega)
                          rw [hz] at hs
                          refine z_iconst (v := 1) F dX6_controls_157 rfl ?_
                          refine z_goto (tgt := 162) F dX6_controls_158 (by decide) ?_
                          refine z_zast (j := k) F dX6_controls_162 mA_14 rfl rfl (show k < 40 by omega) (Nat.le_of_ble_eq_true rfl) ?_
                          refine z_heap _ (ma_14 (v := true)) ?_
                          refine z_aload_n F dX6_controls_163 rfl rfl ?_
                          refine z_getf F vF_X6_41 dX6_controls_164 mO_at rfl ?_
                          refine z_iload_n F dX6_controls_167 rfl ?_
                          refine z_lload F dX6_controls_168 rfl ?_
                          refine z_last (j := k) F dX6_controls_170 mA_15 rfl rfl (show k < 40 by omega) (Nat.le_of_ble_eq_true rfl) ?_
                          refine z_heap _ (ma_15) ?_
                          refine z_aload_n F dX6_controls_171 rfl rfl ?_
                          refine z_bipush (v := 111) F dX6_controls_172 rfl ?_
                          refine z_aload_n F dX6_controls_174 rfl rfl ?_
                          refine z_getf F vF_X6_74 dX6_controls_175 mO_at rfl ?_
                          refine z_iconst (v := 1) F dX6_controls_178 rfl ?_
                          refine z_iald (j := 1) F dX6_controls_179 mA_39 rfl rfl (show 1 < 60 by decide) (Nat.le_of_ble_eq_true rfl) ?_
                          refine z_aload_n F dX6_controls_180 rfl rfl ?_
                          refine z_getf F vF_X6_74 dX6_controls_181 mO_at rfl ?_
                          refine z_iconst (v := 2) F dX6_controls_184 rfl ?_
                          refine z_iald (j := 2) F dX6_controls_185 mA_39 rfl rfl (show 2 < 60 by decide) (Nat.le_of_ble_eq_true rfl) ?_
                          refine z_callV F z_nwOK wL_good (c_X6_threeSaid (x := 111) (y := sAN S 39 1) (w := sAN S 39 2) (show sN S 40 < 900 by omega) (by decide) (by have := R 1; omega) (by have := R 2; omega)) mO_at rfl vI_X6_threeSaid vM_X6_176 vV_X6_threeSaid vL_X6_threeSaid rfl dX6_controls_186 rfl rfl (Nat.le_of_ble_eq_true rfl) ⟨(Nat.le_of_ble_eq_true rfl), (Nat.le_of_ble_eq_true rfl), (Nat.le_of_ble_eq_true rfl), (Nat.le_of_ble_eq_true rfl)⟩ (fun v h1 hq => ?_)
                          obtain ⟨rfl, rfl⟩ := hq
                          refine z_aload_n F dX6_controls_189 rfl rfl ?_
                          refine z_iload_n F dX6_controls_190 rfl ?_
                          refine z_callV F z_nwOK wL_good (c_X6_say (b := sAN S 39 3) (show sN S 40 + 1 + 1 + 1 < 1000 by omega) (by omega)) mO_at rfl vI_X6_say vM_X6_131 vV_X6_say vL_X6_say rfl dX6_controls_191 rfl rfl (Nat.le_of_ble_eq_true rfl) ⟨(Nat.le_of_ble_eq_true rfl), (Nat.le_of_ble_eq_true rfl), (Nat.le_of_ble_eq_true rfl), (Nat.le_of_ble_eq_true rfl)⟩ (fun v h1 hq => ?_)
                          obtain ⟨rfl, rfl⟩ := hq
                          refine z_iconst (v := 0) F dX6_controls_194 rfl ?_
                          exact z_iret F hr dX6_controls_195 rfl (Nat.le_of_ble_eq_true rfl) (Nat.le_of_ble_eq_true rfl) (⟨by rw [hs]; try rfl, by rw [hs]; try rfl⟩)
                      · have e3 : sAN S 39 3 = 3 := (nI_eq (b := 3) (by omega) (by decide)).mp c128
                        have hV : numL (fun i => nI (sAN S 39 (4 + i))) (sAN S 10 k) = ctlV S k := by unfold ctlV; rw [if_neg e2, if_pos e3]
                        have hn60 : 4 + sAN S 10 k ≤ 60 := by omega
                        refine z_aload_n F dX6_controls_131 rfl rfl ?_
                        refine z_iconst (v := 4) F dX6_controls_132 rfl ?_
                        refine z_aload_n F dX6_controls_133 rfl rfl ?_
                        refine z_getf F vF_X6_24 dX6_controls_134 mO_at rfl ?_
                        refine z_iload_n F dX6_controls_137 rfl ?_
                        refine z_iald (j := k) F dX6_controls_138 mA_10 rfl rfl (show k < 40 by omega) (Nat.le_of_ble_eq_true rfl) ?_
                        refine z_callV F z_nwOK wL_good (c_X6_number (a := 4) (n := sAN S 10 k) hn60) mO_at rfl vI_X6_number vM_X6_184 vV_X6_number vL_X6_number rfl dX6_controls_139 rfl rfl (Nat.le_of_ble_eq_true rfl) ⟨(Nat.le_of_ble_eq_true rfl), (Nat.le_of_ble_eq_true rfl), (Nat.le_of_ble_eq_true rfl), (Nat.le_of_ble_eq_true rfl)⟩ (fun v h1 hq => ?_)
                        obtain ⟨rfl, rfl⟩ := hq
                        refine z_goto (tgt := 146) F dX6_controls_142 (by decide) ?_
                        rw [show numL (fun i => nI (sAN S 39 (4 + i))) (sAN S 10 k) = ctlV S k from hV]
                        refine z_lstore F dX6_controls_146 (Nat.le_of_ble_eq_true rfl) ?_
                        refine z_aload_n F dX6_controls_148 rfl rfl ?_
                        refine z_getf F vF_X6_37 dX6_controls_149 mO_at rfl ?_
                        refine z_iload_n F dX6_controls_152 rfl ?_
                        refine z_iload_n F dX6_controls_153 rfl ?_
                        refine z_if_le (tgt := 161) F dX6_controls_154 (by decide) (fun c154 => ?_) (fun c154 => ?_)
                        · have hz : decide (0 < sAN S 39 3) = false := decide_eq_false (by have := (nI_leI (b := 0) (by omega) (by decide)).mp c154; omega)
                          rw [hz] at hs
                          refine z_iconst (v := 0) F dX6_controls_161 rfl ?_
                          refine z_zast (j := k) F dX6_controls_162 mA_14 rfl rfl (show k < 40 by omega) (Nat.le_of_ble_eq_true rfl) ?_
                          refine z_heap _ (ma_14 (v := false)) ?_
                          refine z_aload_n F dX6_controls_163 rfl rfl ?_
                          refine z_getf F vF_X6_41 dX6_controls_164 mO_at rfl ?_
                          refine z_iload_n F dX6_controls_167 rfl ?_
                          refine z_lload F dX6_controls_168 rfl ?_
                          refine z_last (j := k) F dX6_controls_170 mA_15 rfl rfl (show k < 40 by omega) (Nat.le_of_ble_eq_true rfl) ?_
                          refine z_heap _ (ma_15) ?_
                          refine z_aload_n F dX6_controls_171 rfl rfl ?_
                          refine z_bipush (v := 111) F dX6_controls_172 rfl ?_
                          refine z_aload_n F dX6_controls_174 rfl rfl ?_
                          refine z_getf F vF_X6_74 dX6_controls_175 mO_at rfl ?_
                          refine z_iconst (v := 1) F dX6_controls_178 rfl ?_
                          refine z_iald (j := 1) F dX6_controls_179 mA_39 rfl rfl (show 1 < 60 by decide) (Nat.le_of_ble_eq_true rfl) ?_
                          refine z_aload_n F dX6_controls_180 rfl rfl ?_
                          refine z_getf F vF_X6_74 dX6_controls_181 mO_at rfl ?_
                          refine z_iconst (v := 2) F dX6_controls_184 rfl ?_
                          refine z_iald (j := 2) F dX6_controls_185 mA_39 rfl rfl (show 2 < 60 by decide) (Nat.le_of_ble_eq_true rfl) ?_
                          refine z_callV F z_nwOK wL_good (c_X6_threeSaid (x := 111) (y := sAN S 39 1) (w := sAN S 39 2) (show sN S 40 < 900 by omega) (by decide) (by have := R 1; omega) (by have := R 2; omega)) mO_at rfl vI_X6_threeSaid vM_X6_176 vV_X6_threeSaid vL_X6_threeSaid rfl dX6_controls_186 rfl rfl (Nat.le_of_ble_eq_true rfl) ⟨(Nat.le_of_ble_eq_true rfl), (Nat.le_of_ble_eq_true rfl), (Nat.le_of_ble_eq_true rfl), (Nat.le_of_ble_eq_true rfl)⟩ (fun v h1 hq => ?_)
                          obtain ⟨rfl, rfl⟩ := hq
                          refine z_aload_n F dX6_controls_189 rfl rfl ?_
                          refine z_iload_n F dX6_controls_190 rfl ?_
                          refine z_callV F z_nwOK wL_good (c_X6_say (b := sAN S 39 3) (show sN S 40 + 1 + 1 + 1 < 1000 by omega) (by omega)) mO_at rfl vI_X6_say vM_X6_131 vV_X6_say vL_X6_say rfl dX6_controls_191 rfl rfl (Nat.le_of_ble_eq_true rfl) ⟨(Nat.le_of_ble_eq_true rfl), (Nat.le_of_ble_eq_true rfl), (Nat.le_of_ble_eq_true rfl), (Nat.le_of_ble_eq_true rfl)⟩ (fun v h1 hq => ?_)
                          obtain ⟨rfl, rfl⟩ := hq
                          refine z_iconst (v := 0) F dX6_controls_194 rfl ?_
                          exact z_iret F hr dX6_controls_195 rfl (Nat.le_of_ble_eq_true rfl) (Nat.le_of_ble_eq_true rfl) (⟨by rw [hs]; try rfl, by rw [hs]; try rfl⟩)
                        · have hz : decide (0 < sAN S 39 3) = true := decide_eq_true (by have := mt (nI_leI (a := sAN S 39 3) (b := 0) (by omega) (by decide)).mpr c154; omega)
                          rw [hz] at hs
                          refine z_iconst (v := 1) F dX6_controls_157 rfl ?_
                          refine z_goto (tgt := 162) F dX6_controls_158 (by decide) ?_
                          refine z_zast (j := k) F dX6_controls_162 mA_14 rfl rfl (show k < 40 by omega) (Nat.le_of_ble_eq_true rfl) ?_
                          refine z_heap _ (ma_14 (v := true)) ?_
                          refine z_aload_n F dX6_controls_163 rfl rfl ?_
                          refine z_getf F vF_X6_41 dX6_controls_164 mO_at rfl ?_
                          refine z_iload_n F dX6_controls_167 rfl ?_
                          refine z_lload F dX6_controls_168 rfl ?_
                          refine z_last (j := k) F dX6_controls_170 mA_15 rfl rfl (show k < 40 by omega) (Nat.le_of_ble_eq_true rfl) ?_
                          refine z_heap _ (ma_15) ?_
                          refine z_aload_n F dX6_controls_171 rfl rfl ?_
                          refine z_bipush (v := 111) F dX6_controls_172 rfl ?_
                          refine z_aload_n F dX6_controls_174 rfl rfl ?_
                          refine z_getf F vF_X6_74 dX6_controls_175 mO_at rfl ?_
                          refine z_iconst (v := 1) F dX6_controls_178 rfl ?_
                          refine z_iald (j := 1) F dX6_controls_179 mA_39 rfl rfl (show 1 < 60 by decide) (Nat.le_of_ble_eq_true rfl) ?_
                          refine z_aload_n F dX6_controls_180 rfl rfl ?_
                          refine z_getf F vF_X6_74 dX6_controls_181 mO_at rfl ?_
                          refine z_iconst (v := 2) F dX6_controls_184 rfl ?_
                          refine z_iald (j := 2) F dX6_controls_185 mA_39 rfl rfl (show 2 < 60 by decide) (Nat.le_of_ble_eq_true rfl) ?_
                          refine z_callV F z_nwOK wL_good (c_X6_threeSaid (x := 111) (y := sAN S 39 1) (w := sAN S 39 2) (show sN S 40 < 900 by omega) (by decide) (by have := R 1; omega) (by have := R 2; omega)) mO_at rfl vI_X6_threeSaid vM_X6_176 vV_X6_threeSaid vL_X6_threeSaid rfl dX6_controls_186 rfl rfl (Nat.le_of_ble_eq_true rfl) ⟨(Nat.le_of_ble_eq_true rfl), (Nat.le_of_ble_eq_true rfl), (Nat.le_of_ble_eq_true rfl), (Nat.le_of_ble_eq_true rfl)⟩ (fun v h1 hq => ?_)
                          obtain ⟨rfl, rfl⟩ := hq
                          refine z_aload_n F dX6_controls_189 rfl rfl ?_
                          refine z_iload_n F dX6_controls_190 rfl ?_
                          refine z_callV F z_nwOK wL_good (c_X6_say (b := sAN S 39 3) (show sN S 40 + 1 + 1 + 1 < 1000 by omega) (by omega)) mO_at rfl vI_X6_say vM_X6_131 vV_X6_say vL_X6_say rfl dX6_controls_191 rfl rfl (Nat.le_of_ble_eq_true rfl) ⟨(Nat.le_of_ble_eq_true rfl), (Nat.le_of_ble_eq_true rfl), (Nat.le_of_ble_eq_true rfl), (Nat.le_of_ble_eq_true rfl)⟩ (fun v h1 hq => ?_)
                          obtain ⟨rfl, rfl⟩ := hq
                          refine z_iconst (v := 0) F dX6_controls_194 rfl ?_
                          exact z_iret F hr dX6_controls_195 rfl (Nat.le_of_ble_eq_true rfl) (Nat.le_of_ble_eq_true rfl) (⟨by rw [hs]; try rfl, by rw [hs]; try rfl⟩)
                    · have e2 : sAN S 39 3 = 2 := (nI_eq (b := 2) (by omega) (by decide)).mp c115
                      have hV : numL (fun j => nI (octS S k j)) (sAN S 10 k) = ctlV S k := by unfold ctlV; rw [if_pos e2]; rfl
                      refine z_aload_n F dX6_controls_118 rfl rfl ?_
                      refine z_iload_n F dX6_controls_119 rfl ?_
                      refine z_callV F z_nwOK wL_good (c_X6_valueOf W hk) mO_at rfl vI_X6_valueOf vM_X6_124 vV_X6_valueOf vL_X6_valueOf rfl dX6_controls_120 rfl rfl (Nat.le_of_ble_eq_true rfl) ⟨(Nat.le_of_ble_eq_true rfl), (Nat.le_of_ble_eq_true rfl), (Nat.le_of_ble_eq_true rfl), (Nat.le_of_ble_eq_true rfl)⟩ (fun v h1 hq => ?_)
                      obtain ⟨rfl, rfl⟩ := hq
                      refine z_goto (tgt := 146) F dX6_controls_123 (by decide) ?_
                      rw [show numL (fun j => nI (octS S k j)) (sAN S 10 k) = ctlV S k from hV]
                      refine z_lstore F dX6_controls_146 (Nat.le_of_ble_eq_true rfl) ?_
                      refine z_aload_n F dX6_controls_148 rfl rfl ?_
                      refine z_getf F vF_X6_37 dX6_controls_149 mO_at rfl ?_
                      refine z_iload_n F dX6_controls_152 rfl ?_
                      refine z_iload_n F dX6_controls_153 rfl ?_
                      refine z_if_le (tgt := 161) F dX6_controls_154 (by decide) (fun c154 => ?_) (fun c154 => ?_)
                      · have hz : decide (0 < sAN S 39 3) = false := decide_eq_false (by have := (nI_leI (b := 0) (by omega) (by decide)).mp c154; omega)
                        rw [hz] at hs
                        refine z_iconst (v := 0) F dX6_controls_161 rfl ?_
                        refine z_zast (j := k) F dX6_controls_162 mA_14 rfl rfl (show k < 40 by omega) (Nat.le_of_ble_eq_true rfl) ?_
                        refine z_heap _ (ma_14 (v := false)) ?_
                        refine z_aload_n F dX6_controls_163 rfl rfl ?_
                        refine z_getf F vF_X6_41 dX6_controls_164 mO_at rfl ?_
                        refine z_iload_n F dX6_controls_167 rfl ?_
                        refine z_lload F dX6_controls_168 rfl ?_
                        refine z_last (j := k) F dX6_controls_170 mA_15 rfl rfl (show k < 40 by omega) (Nat.le_of_ble_eq_true rfl) ?_
                        refine z_heap _ (ma_15) ?_
                        refine z_aload_n F dX6_controls_171 rfl rfl ?_
                        refine z_bipush (v := 111) F dX6_controls_172 rfl ?_
                        refine z_aload_n F dX6_controls_174 rfl rfl ?_
                        refine z_getf F vF_X6_74 dX6_controls_175 mO_at rfl ?_
                        refine z_iconst (v := 1) F dX6_controls_178 rfl ?_
                        refine z_iald (j := 1) F dX6_controls_179 mA_39 rfl rfl (show 1 < 60 by decide) (Nat.le_of_ble_eq_true rfl) ?_
                        refine z_aload_n F dX6_controls_180 rfl rfl ?_
                        refine z_getf F vF_X6_74 dX6_controls_181 mO_at rfl ?_
                        refine z_iconst (v := 2) F dX6_controls_184 rfl ?_
                        refine z_iald (j := 2) F dX6_controls_185 mA_39 rfl rfl (show 2 < 60 by decide) (Nat.le_of_ble_eq_true rfl) ?_
                        refine z_callV F z_nwOK wL_good (c_X6_threeSaid (x := 111) (y := sAN S 39 1) (w := sAN S 39 2) (show sN S 40 < 900 by omega) (by decide) (by have := R 1; omega) (by have := R 2; omega)) mO_at rfl vI_X6_threeSaid vM_X6_176 vV_X6_threeSaid vL_X6_threeSaid rfl dX6_controls_186 rfl rfl (Nat.le_of_ble_eq_true rfl) ⟨(Nat.le_of_ble_eq_true rfl), (Nat.le_of_ble_eq_true rfl), (Nat.le_of_ble_eq_true rfl), (Nat.le_of_ble_eq_true rfl)⟩ (fun v h1 hq => ?_)
                        obtain ⟨rfl, rfl⟩ := hq
                        refine z_aload_n F dX6_controls_189 rfl rfl ?_
                        refine z_iload_n F dX6_controls_190 rfl ?_
                        refine z_callV F z_nwOK wL_good (c_X6_say (b := sAN S 39 3) (show sN S 40 + 1 + 1 + 1 < 1000 by omega) (by omega)) mO_at rfl vI_X6_say vM_X6_131 vV_X6_say vL_X6_say rfl dX6_controls_191 rfl rfl (Nat.le_of_ble_eq_true rfl) ⟨(Nat.le_of_ble_eq_true rfl), (Nat.le_of_ble_eq_true rfl), (Nat.le_of_ble_eq_true rfl), (Nat.le_of_ble_eq_true rfl)⟩ (fun v h1 hq => ?_)
                        obtain ⟨rfl, rfl⟩ := hq
                        refine z_iconst (v := 0) F dX6_controls_194 rfl ?_
                        exact z_iret F hr dX6_controls_195 rfl (Nat.le_of_ble_eq_true rfl) (Nat.le_of_ble_eq_true rfl) (⟨by rw [hs]; try rfl, by rw [hs]; try rfl⟩)
                      · have hz : decide (0 < sAN S 39 3) = true := decide_eq_true (by have := mt (nI_leI (a := sAN S 39 3) (b := 0) (by omega) (by decide)).mpr c154; omega)
                        rw [hz] at hs
                        refine z_iconst (v := 1) F dX6_controls_157 rfl ?_
                        refine z_goto (tgt := 162) F dX6_controls_158 (by decide) ?_
                        refine z_zast (j := k) F dX6_controls_162 mA_14 rfl rfl (show k < 40 by omega) (Nat.le_of_ble_eq_true rfl) ?_
                        refine z_heap _ (ma_14 (v := true)) ?_
                        refine z_aload_n F dX6_controls_163 rfl rfl ?_
                        refine z_getf F vF_X6_41 dX6_controls_164 mO_at rfl ?_
                        refine z_iload_n F dX6_controls_167 rfl ?_
                        refine z_lload F dX6_controls_168 rfl ?_
                        refine z_last (j := k) F dX6_controls_170 mA_15 rfl rfl (show k < 40 by omega) (Nat.le_of_ble_eq_true rfl) ?_
                        refine z_heap _ (ma_15) ?_
                        refine z_aload_n F dX6_controls_171 rfl rfl ?_
                        refine z_bipush (v := 111) F dX6_controls_172 rfl ?_
                        refine z_aload_n F dX6_controls_174 rfl rfl ?_
                        refine z_getf F vF_X6_74 dX6_controls_175 mO_at rfl ?_
                        refine z_iconst (v := 1) F dX6_controls_178 rfl ?_
                        refine z_iald (j := 1) F dX6_controls_179 mA_39 rfl rfl (show 1 < 60 by decide) (Nat.le_of_ble_eq_true rfl) ?_
                        refine z_aload_n F dX6_controls_180 rfl rfl ?_
                        refine z_getf F vF_X6_74 dX6_controls_181 mO_at rfl ?_
                        refine z_iconst (v := 2) F dX6_controls_184 rfl ?_
                        refine z_iald (j := 2) F dX6_controls_185 mA_39 rfl rfl (show 2 < 60 by decide) (Nat.le_of_ble_eq_true rfl) ?_
                        refine z_callV F z_nwOK wL_good (c_X6_threeSaid (x := 111) (y := sAN S 39 1) (w := sAN S 39 2) (show sN S 40 < 900 by omega) (by decide) (by have := R 1; omega) (by have := R 2; omega)) mO_at rfl vI_X6_threeSaid vM_X6_176 vV_X6_threeSaid vL_X6_threeSaid rfl dX6_controls_186 rfl rfl (Nat.le_of_ble_eq_true rfl) ⟨(Nat.le_of_ble_eq_true rfl), (Nat.le_of_ble_eq_true rfl), (Nat.le_of_ble_eq_true rfl), (Nat.le_of_ble_eq_true rfl)⟩ (fun v h1 hq => ?_)
                        obtain ⟨rfl, rfl⟩ := hq
                        refine z_aload_n F dX6_controls_189 rfl rfl ?_
                        refine z_iload_n F dX6_controls_190 rfl ?_
                        refine z_callV F z_nwOK wL_good (c_X6_say (b := sAN S 39 3) (show sN S 40 + 1 + 1 + 1 < 1000 by omega) (by omega)) mO_at rfl vI_X6_say vM_X6_131 vV_X6_say vL_X6_say rfl dX6_controls_191 rfl rfl (Nat.le_of_ble_eq_true rfl) ⟨(Nat.le_of_ble_eq_true rfl), (Nat.le_of_ble_eq_true rfl), (Nat.le_of_ble_eq_true rfl), (Nat.le_of_ble_eq_true rfl)⟩ (fun v h1 hq => ?_)
                        obtain ⟨rfl, rfl⟩ := hq
                        refine z_iconst (v := 0) F dX6_controls_194 rfl ?_
                        exact z_iret F hr dX6_controls_195 rfl (Nat.le_of_ble_eq_true rfl) (Nat.le_of_ble_eq_true rfl) (⟨by rw [hs]; try rfl, by rw [hs]; try rfl⟩)
                  · have e1 : sAN S 39 3 = 1 := (nI_eq (b := 1) (by omega) (by decide)).mp c106
                    have hV : (0 : Int64) = ctlV S k := by unfold ctlV; rw [if_neg (by omega), if_neg (by omega)]
                    refine z_lconst (v := 0) F dX6_controls_109 rfl ?_
                    refine z_goto (tgt := 146) F dX6_controls_110 (by decide) ?_
                    rw [show (0 : Int64) = ctlV S k from hV]
                    refine z_lstore F dX6_controls_146 (Nat.le_of_ble_eq_true rfl) ?_
                    refine z_aload_n F dX6_controls_148 rfl rfl ?_
                    refine z_getf F vF_X6_37 dX6_controls_149 mO_at rfl ?_
                    refine z_iload_n F dX6_controls_152 rfl ?_
                    refine z_iload_n F dX6_controls_153 rfl ?_
                    refine z_if_le (tgt := 161) F dX6_controls_154 (by decide) (fun c154 => ?_) (fun c154 => ?_)
                    · have hz : decide (0 < sAN S 39 3) = false := decide_eq_false (by have := (nI_leI (b := 0) (by omega) (by decide)).mp c154; omega)
                      rw [hz] at hs
                      refine z_iconst (v := 0) F dX6_controls_161 rfl ?_
                      refine z_zast (j := k) F dX6_controls_162 mA_14 rfl rfl (show k < 40 by omega) (Nat.le_of_ble_eq_true rfl) ?_
                      refine z_heap _ (ma_14 (v := false)) ?_
                      refine z_aload_n F dX6_controls_163 rfl rfl ?_
                      refine z_getf F vF_X6_41 dX6_controls_164 mO_at rfl ?_
                      refine z_iload_n F dX6_controls_167 rfl ?_
                      refine z_lload F dX6_controls_168 rfl ?_
                      refine z_last (j := k) F dX6_controls_170 mA_15 rfl rfl (show k < 40 by omega) (Nat.le_of_ble_eq_true rfl) ?_
                      refine z_heap _ (ma_15) ?_
                      refine z_aload_n F dX6_controls_171 rfl rfl ?_
                      refine z_bipush (v := 111) F dX6_controls_172 rfl ?_
                      refine z_aload_n F dX6_controls_174 rfl rfl ?_
                      refine z_getf F vF_X6_74 dX6_controls_175 mO_at rfl ?_
                      refine z_iconst (v := 1) F dX6_controls_178 rfl ?_
                      refine z_iald (j := 1) F dX6_controls_179 mA_39 rfl rfl (show 1 < 60 by decide) (Nat.le_of_ble_eq_true rfl) ?_
                      refine z_aload_n F dX6_controls_180 rfl rfl ?_
                      refine z_getf F vF_X6_74 dX6_controls_181 mO_at rfl ?_
                      refine z_iconst (v := 2) F dX6_controls_184 rfl ?_
                      refine z_iald (j := 2) F dX6_controls_185 mA_39 rfl rfl (show 2 < 60 by decide) (Nat.le_of_ble_eq_true rfl) ?_
                      refine z_callV F z_nwOK wL_good (c_X6_threeSaid (x := 111) (y := sAN S 39 1) (w := sAN S 39 2) (show sN S 40 < 900 by omega) (by decide) (by have := R 1; omega) (by have := R 2; omega)) mO_at rfl vI_X6_threeSaid vM_X6_176 vV_X6_threeSaid vL_X6_threeSaid rfl dX6_controls_186 rfl rfl (Nat.le_of_ble_eq_true rfl) ⟨(Nat.le_of_ble_eq_true rfl), (Nat.le_of_ble_eq_true rfl), (Nat.le_of_ble_eq_true rfl), (Nat.le_of_ble_eq_true rfl)⟩ (fun v h1 hq => ?_)
                      obtain ⟨rfl, rfl⟩ := hq
                      refine z_aload_n F dX6_controls_189 rfl rfl ?_
                      refine z_iload_n F dX6_controls_190 rfl ?_
                      refine z_callV F z_nwOK wL_good (c_X6_say (b := sAN S 39 3) (show sN S 40 + 1 + 1 + 1 < 1000 by omega) (by omega)) mO_at rfl vI_X6_say vM_X6_131 vV_X6_say vL_X6_say rfl dX6_controls_191 rfl rfl (Nat.le_of_ble_eq_true rfl) ⟨(Nat.le_of_ble_eq_true rfl), (Nat.le_of_ble_eq_true rfl), (Nat.le_of_ble_eq_true rfl), (Nat.le_of_ble_eq_true rfl)⟩ (fun v h1 hq => ?_)
                      obtain ⟨rfl, rfl⟩ := hq
                      refine z_iconst (v := 0) F dX6_controls_194 rfl ?_
                      exact z_iret F hr dX6_controls_195 rfl (Nat.le_of_ble_eq_true rfl) (Nat.le_of_ble_eq_true rfl) (⟨by rw [hs]; try rfl, by rw [hs]; try rfl⟩)
                    · have hz : decide (0 < sAN S 39 3) = true := decide_eq_true (by have := mt (nI_leI (a := sAN S 39 3) (b := 0) (by omega) (by decide)).mpr c154; omega)
                      rw [hz] at hs
                      refine z_iconst (v := 1) F dX6_controls_157 rfl ?_
                      refine z_goto (tgt := 162) F dX6_controls_158 (by decide) ?_
                      refine z_zast (j := k) F dX6_controls_162 mA_14 rfl rfl (show k < 40 by omega) (Nat.le_of_ble_eq_true rfl) ?_
                      refine z_heap _ (ma_14 (v := true)) ?_
                      refine z_aload_n F dX6_controls_163 rfl rfl ?_
                      refine z_getf F vF_X6_41 dX6_controls_164 mO_at rfl ?_
                      refine z_iload_n F dX6_controls_167 rfl ?_
                      refine z_lload F dX6_controls_168 rfl ?_
                      refine z_last (j := k) F dX6_controls_170 mA_15 rfl rfl (show k < 40 by omega) (Nat.le_of_ble_eq_true rfl) ?_
                      refine z_heap _ (ma_15) ?_
                      refine z_aload_n F dX6_controls_171 rfl rfl ?_
                      refine z_bipush (v := 111) F dX6_controls_172 rfl ?_
                      refine z_aload_n F dX6_controls_174 rfl rfl ?_
                      refine z_getf F vF_X6_74 dX6_controls_175 mO_at rfl ?_
                      refine z_iconst (v := 1) F dX6_controls_178 rfl ?_
                      refine z_iald (j := 1) F dX6_controls_179 mA_39 rfl rfl (show 1 < 60 by decide) (Nat.le_of_ble_eq_true rfl) ?_
                      refine z_aload_n F dX6_controls_180 rfl rfl ?_
                      refine z_getf F vF_X6_74 dX6_controls_181 mO_at rfl ?_
                      refine z_iconst (v := 2) F dX6_controls_184 rfl ?_
                      refine z_iald (j := 2) F dX6_controls_185 mA_39 rfl rfl (show 2 < 60 by decide) (Nat.le_of_ble_eq_true rfl) ?_
                      refine z_callV F z_nwOK wL_good (c_X6_threeSaid (x := 111) (y := sAN S 39 1) (w := sAN S 39 2) (show sN S 40 < 900 by omega) (by decide) (by have := R 1; omega) (by have := R 2; omega)) mO_at rfl vI_X6_threeSaid vM_X6_176 vV_X6_threeSaid vL_X6_threeSaid rfl dX6_controls_186 rfl rfl (Nat.le_of_ble_eq_true rfl) ⟨(Nat.le_of_ble_eq_true rfl), (Nat.le_of_ble_eq_true rfl), (Nat.le_of_ble_eq_true rfl), (Nat.le_of_ble_eq_true rfl)⟩ (fun v h1 hq => ?_)
                      obtain ⟨rfl, rfl⟩ := hq
                      refine z_aload_n F dX6_controls_189 rfl rfl ?_
                      refine z_iload_n F dX6_controls_190 rfl ?_
                      refine z_callV F z_nwOK wL_good (c_X6_say (b := sAN S 39 3) (show sN S 40 + 1 + 1 + 1 < 1000 by omega) (by omega)) mO_at rfl vI_X6_say vM_X6_131 vV_X6_say vL_X6_say rfl dX6_controls_191 rfl rfl (Nat.le_of_ble_eq_true rfl) ⟨(Nat.le_of_ble_eq_true rfl), (Nat.le_of_ble_eq_true rfl), (Nat.le_of_ble_eq_true rfl), (Nat.le_of_ble_eq_true rfl)⟩ (fun v h1 hq => ?_)
                      obtain ⟨rfl, rfl⟩ := hq
                      refine z_iconst (v := 0) F dX6_controls_194 rfl ?_
                      exact z_iret F hr dX6_controls_195 rfl (Nat.le_of_ble_eq_true rfl) (Nat.le_of_ble_eq_true rfl) (⟨by rw [hs]; try rfl, by rw [hs]; try rfl⟩)
                · have hn : ¬ sN S 38 - 1 = 3 + (if sAN S 39 3 = 3 then sAN S 10 k else 0) := fun e => c98 (by rw [e, he]; first | rfl | exact (nI_add 3 _).symm)
                  have hs : sv47 S = (19, S) := by unfold sv47; rw [if_neg hp1, if_neg h3, hF]; show (if _ then _ else _) = _; rw [if_neg hj, if_neg hv, if_neg h33, if_pos hn]
                  refine z_bipush (v := 19) F dX6_controls_101 rfl ?_
                  exact z_iret F hr dX6_controls_103 rfl (Nat.le_of_ble_eq_true rfl) (Nat.le_of_ble_eq_true rfl) (⟨by rw [hs]; try rfl, by rw [hs]; try rfl⟩)
            · have h33 : 3 < sAN S 39 3 := by have := mt (nI_leI (a := sAN S 39 3) (b := 3) (by omega) (by decide)).mpr c74; omega
              have hs : sv47 S = (49, S) := by unfold sv47; rw [if_neg hp1, if_neg h3, hF]; show (if _ then _ else _) = _; rw [if_neg hj, if_neg hv, if_pos h33]
              refine z_bipush (v := 49) F dX6_controls_77 rfl ?_
              exact z_iret F hr dX6_controls_79 rfl (Nat.le_of_ble_eq_true rfl) (Nat.le_of_ble_eq_true rfl) (⟨by rw [hs]; try rfl, by rw [hs]; try rfl⟩)
          · have hv : sN S 2 < sAN S 12 k := by have := mt (nI_leI (a := sAN S 12 k) (b := sN S 2) (by have := V.2.2.2.2 k; omega) (by have := V.2.1; omega)).mpr c59; omega
            have hs : sv47 S = (51, S) := by unfold sv47; rw [if_neg hp1, if_neg h3, hF]; show (if _ then _ else _) = _; rw [if_neg hj, if_pos hv]
            refine z_bipush (v := 51) F dX6_controls_62 rfl ?_
            exact z_iret F hr dX6_controls_64 rfl (Nat.le_of_ble_eq_true rfl) (Nat.le_of_ble_eq_true rfl) (⟨by rw [hs]; try rfl, by rw [hs]; try rfl⟩)
        · have hj : sAB S 17 k = true := z_b1 c43
          have hs : sv47 S = (49, S) := by unfold sv47; rw [if_neg hp1, if_neg h3, hF]; show (if _ then _ else _) = _; rw [if_pos hj]
          refine z_bipush (v := 49) F dX6_controls_46 rfl ?_
          exact z_iret F hr dX6_controls_48 rfl (Nat.le_of_ble_eq_true rfl) (Nat.le_of_ble_eq_true rfl) (⟨by rw [hs]; try rfl, by rw [hs]; try rfl⟩)
    · have h3 : sN S 38 - 1 < 3 := by have := mt (nI_leI (a := 3) (b := sN S 38 - 1) (by decide) (by omega)).mpr c13; omega
      have hs : sv47 S = (19, S) := by unfold sv47; rw [if_neg hp1, if_pos h3]
      refine z_bipush (v := 19) F dX6_controls_16 rfl ?_
      exact z_iret F hr dX6_controls_18 rfl (Nat.le_of_ble_eq_true rfl) (Nat.le_of_ble_eq_true rfl) (⟨by rw [hs]; try rfl, by rw [hs]; try rfl⟩)
  · have hp1 : sN S 1 = 1 := (nI_eq (b := 1) (by have := V.1; omega) (by decide)).mp c5
    have hs : sv47 S = (127, S) := if_pos hp1
    refine z_bipush (v := 127) F dX6_controls_8 rfl ?_
    exact z_iret F hr dX6_controls_10 rfl (Nat.le_of_ble_eq_true rfl) (Nat.le_of_ble_eq_true rfl) (⟨by rw [hs]; try rfl, by rw [hs]; try rfl⟩)

def trOK (S : z_S) : Prop := sN S 27 ≤ 200 ∧ sN S 28 ≤ sN S 27 ∧ sN S 29 < 65536 ∧ sN S 30 < 256
/-- the sum behind the octets from place 2 on -/
def sumS (S : z_S) : Nat → Nat := sumN (sN S 29) (fun i => sAN S 39 (i + 2))
def sv54 (S : z_S) : Nat × z_S :=
  if ¬ sN S 1 = 3 then (127, S) else if (sN S 38 - 1 < 2 ∨ 9 < sN S 38 - 1) then (19, S) else if sB S 26 = false then (36, S)
  else if (sB S 31 = true ∧ sAN S 39 1 = sN S 30) then (0, sayS (sayS S 118) (sAN S 39 1))
  else if ¬ sAN S 39 1 = (if sB S 31 then (sN S 30 + 1) % 256 else 1) then (115, S)
  else if sN S 27 - sN S 28 < sN S 38 - 1 - 1 then (113, S)
  else (0, sayS (sayS (uB (uN (uN (uN S 29 (sumS S (sN S 38 - 2))) 28 (sN S 28 + (sN S 38 - 1 - 1))) 30 (sAN S 39 1)) 31 true) 118) (sAN S 39 1))

set_option maxRecDepth 100000 in
set_option maxHeartbeats 1000000 in
theorem l_X6_takes {c : Nat → z_E} {S : z_S} {o : Nat → Int64} {d : z_H} (R : rowOK S) (W : idsOK S) (V : numsOK S) (hM : sN S 38 ≤ 60) (hM1 : 1 ≤ sN S 38) (hA : sN S 40 = 0) (U : trOK S) (hn2 : 2 ≤ sN S 38 - 1) (ht : sN S 38 - 1 - 1 ≤ sN S 27 - sN S 28) (hs : sv54 S = (0, sayS (sayS (uB (uN (uN (uN S 29 (sumS S (sN S 38 - 2))) 28 (sN S 28 + (sN S 38 - 1 - 1))) 30 (sAN S 39 1)) 31 true) 118) (sAN S 39 1))) {G : z_G} {X : z_X} (F : z_F vwCl z_ats z_nw wsL_law G RX6 cX6_takes 4 (z_rm 1 0 0) X) (hr : X.2.2.2.2.2.2.2.2.1.sig.returnType = some .int) :
    ∀ (m i : Nat), i + m = sN S 38 - 2 → z_V vwCl G 4 X (z_end vwCl z_ats z_nw G X 0 0 (fun v h' => v = some (.int (nI (sv54 S).1)) ∧ h' = (HP c (mfun ((sv54 S).2) o) d))) 0 0 105 [(0, .ref 11), (1, .int (nI (sN S 38 - 1))), (2, .int (nI (sAN S 39 1))), (3, .int (nI (i + 2)))] [] (HP c (mfun (uN S 29 (sumS S i)) o) d) := by
  intro m
  induction m with
  | zero =>
    intro i hi
    obtain rfl : i = sN S 38 - 2 := by omega
    obtain ⟨u1, u2, u3, u4⟩ := U
    refine z_iload_n F dX6_takes_105 rfl ?_
    refine z_aload_n F dX6_takes_106 rfl rfl ?_
    refine z_getf F vF_X6_138 dX6_takes_107 mO_at rfl ?_
    refine z_icmp_ge (tgt := 137) F dX6_takes_110 (by decide) (fun c110 => ?_) (fun c110 => absurd (nI_le (a := sN S 38) (b := sN S 38 - 2 + 2) (by omega) (by omega)) c110)
    refine z_aload_n F dX6_takes_137 rfl rfl ?_
    refine z_dup F dX6_takes_138 rfl ?_
    refine z_getf F vF_X6_164 dX6_takes_139 mO_at rfl ?_
    refine z_iload_n F dX6_takes_142 rfl ?_
    refine z_iconst (v := 1) F dX6_takes_143 rfl ?_
    refine z_isub F dX6_takes_144 ?_
    rw [show nI (sN S 38 - 1) - 1 = nI (sN S 38 - 1 - 1) from pk_sub (b := 1) (by omega)]
    refine z_iadd F dX6_takes_145 ?_
    rw [nI_add]
    refine z_putf F vF_X6_164 vT_X6 vD_X6_28 dX6_takes_146 mO_at (Nat.le_of_ble_eq_true rfl) rfl rfl (fun g146 => ?_)
    refine z_heap _ (ms_28) ?_
    refine z_aload_n F dX6_takes_149 rfl rfl ?_
    refine z_iload_n F dX6_takes_150 rfl ?_
    refine z_putf F vF_X6_188 vT_X6 vD_X6_30 dX6_takes_151 mO_at (Nat.le_of_ble_eq_true rfl) rfl rfl (fun g151 => ?_)
    refine z_heap _ (ms_30) ?_
    refine z_aload_n F dX6_takes_154 rfl rfl ?_
    refine z_iconst (v := 1) F dX6_takes_155 rfl ?_
    refine z_putf F vF_X6_170 vT_X6 vD_X6_31 dX6_takes_156 mO_at (Nat.le_of_ble_eq_true rfl) rfl rfl (fun g156 => ?_)
    refine z_heap _ (ms_31 (v := true)) ?_
    refine z_aload_n F dX6_takes_159 rfl rfl ?_
    refine z_bipush (v := 118) F dX6_takes_160 rfl ?_
    refine z_callV F z_nwOK wL_good (c_X6_say (b := 118) (show sN S 40 < 1000 by omega) (by decide)) mO_at rfl vI_X6_say vM_X6_131 vV_X6_say vL_X6_say rfl dX6_takes_162 rfl rfl (Nat.le_of_ble_eq_true rfl) ⟨(Nat.le_of_ble_eq_true rfl), (Nat.le_of_ble_eq_true rfl), (Nat.le_of_ble_eq_true rfl), (Nat.le_of_ble_eq_true rfl)⟩ (fun v h1 hq => ?_)
    obtain ⟨rfl, rfl⟩ := hq
    refine z_aload_n F dX6_takes_165 rfl rfl ?_
    refine z_iload_n F dX6_takes_166 rfl ?_
    refine z_callV F z_nwOK wL_good (c_X6_say (b := sAN S 39 1) (show sN S 40 + 1 < 1000 by omega) (by have := R 1; omega)) mO_at rfl vI_X6_say vM_X6_131 vV_X6_say vL_X6_say rfl dX6_takes_167 rfl rfl (Nat.le_of_ble_eq_true rfl) ⟨(Nat.le_of_ble_eq_true rfl), (Nat.le_of_ble_eq_true rfl), (Nat.le_of_ble_eq_true rfl), (Nat.le_of_ble_eq_true rfl)⟩ (fun v h1 hq => ?_)
    obtain ⟨rfl, rfl⟩ := hq
    refine z_iconst (v := 0) F dX6_takes_170 rfl ?_
    exact z_iret F hr dX6_takes_171 rfl (Nat.le_of_ble_eq_true rfl) (Nat.le_of_ble_eq_true rfl) (⟨by rw [hs]; try rfl, by rw [hs]; try rfl⟩)
  | succ m ih =>
    intro i hi
    obtain ⟨u1, u2, u3, u4⟩ := id U
    have hx := R (i + 2)
    have hsm : sumS S i < 65536 := sumN_lt u3 _ i
    refine z_iload_n F dX6_takes_105 rfl ?_
    refine z_aload_n F dX6_takes_106 rfl rfl ?_
    refine z_getf F vF_X6_138 dX6_takes_107 mO_at rfl ?_
    refine z_icmp_ge (tgt := 137) F dX6_takes_110 (by decide) (fun c110 => absurd c110 (nI_ge (a := i + 2) (b := sN S 38) (by omega) (by omega))) (fun c110 => ?_)
    refine z_aload_n F dX6_takes_113 rfl rfl ?_
    refine z_aload_n F dX6_takes_114 rfl rfl ?_
    refine z_getf F vF_X6_167 dX6_takes_115 mO_at rfl ?_
    refine z_aload_n F dX6_takes_118 rfl rfl ?_
    refine z_getf F vF_X6_74 dX6_takes_119 mO_at rfl ?_
    refine z_iload_n F dX6_takes_122 rfl ?_
    refine z_iald (j := i + 2) F dX6_takes_123 mA_39 rfl rfl (show i + 2 < 60 by omega) (Nat.le_of_ble_eq_true rfl) ?_
    refine z_iadd F dX6_takes_124 ?_
    rw [nI_add]
    refine z_ldc F vK_X6_191 dX6_takes_125 ?_
    refine z_irem F dX6_takes_127 (by decide) ?_
    rw [show (65536 : Int32) = nI 65536 from rfl, pk_rem (a := sN (uN S 29 (sumS S i)) 29 + sAN (uN S 29 (sumS S i)) 39 (i + 2)) (d := 65536) (show sumS S i + sAN S 39 (i + 2) < 2 ^ 31 by omega) (by decide) (by decide)]
    refine z_putf F vF_X6_167 vT_X6 vD_X6_29 dX6_takes_128 mO_at (Nat.le_of_ble_eq_true rfl) rfl rfl (fun g128 => ?_)
    refine z_heap _ (ms_29) ?_
    refine z_iinc (w := 1) F dX6_takes_131 rfl rfl (Nat.le_of_ble_eq_true rfl) ?_
    rw [nI_1]
    refine z_goto (tgt := 105) F dX6_takes_134 (by decide) ?_
    refine z_heap _ (z_hS (S2 := uN S 29 (sumS S (i + 1))) (uN_again S 29 _ _)) ?_
    exact ih (i + 1) (by omega)

set_option maxRecDepth 100000 in
set_option maxHeartbeats 1000000 in
theorem c_X6_takes {c : Nat → z_E} {S : z_S} {o : Nat → Int64} {d : z_H} (R : rowOK S) (W : idsOK S) (V : numsOK S) (hM : sN S 38 ≤ 60) (hM1 : 1 ≤ sN S 38) (hA : sN S 40 = 0) (U : trOK S) : z_K yX6_takes cX6_takes 4 (some .int) 1 0 0 [.ref 11, .int (nI (sN S 38 - 1))] (HP c (mfun S o) d) (fun v h' => v = some (.int (nI (sv54 S).1)) ∧ h' = (HP c (mfun ((sv54 S).2) o) d)) := by
  refine z_met vI_X6_takes (Nat.le_of_ble_eq_true rfl) (fun G X F hr hnm => ?_)
  refine z_aload_n F dX6_takes_0 rfl rfl ?_
  refine z_getf F vF_X6_7 dX6_takes_1 mO_at rfl ?_
  refine z_iconst (v := 3) F dX6_takes_4 rfl ?_
  refine z_icmp_eq (tgt := 11) F dX6_takes_5 (by decide) (fun c5 => ?_) (fun c5 => ?_)
  · have hp3 : sN S 1 = 3 := (nI_eq (b := 3) (by have := V.1; omega) (by decide)).mp c5
    refine z_iload_n F dX6_takes_11 rfl ?_
    refine z_iconst (v := 2) F dX6_takes_12 rfl ?_
    refine z_icmp_lt (tgt := 22) F dX6_takes_13 (by decide) (fun c13 => ?_) (fun c13 => ?_)
    · have hn : sN S 38 - 1 < 2 ∨ 9 < sN S 38 - 1 := Or.inl ((nI_ltI (b := 2) (by omega) (by decide)).mp c13)
      have hs : sv54 S = (19, S) := by unfold sv54; rw [if_neg (not_not_intro hp3), if_pos hn]
      refine z_bipush (v := 19) F dX6_takes_22 rfl ?_
      exact z_iret F hr dX6_takes_24 rfl (Nat.le_of_ble_eq_true rfl) (Nat.le_of_ble_eq_true rfl) (⟨by rw [hs]; try rfl, by rw [hs]; try rfl⟩)
    · have hn1 : ¬ sN S 38 - 1 < 2 := mt (nI_ltI (b := 2) (by omega) (by decide)).mpr c13
      refine z_iload_n F dX6_takes_16 rfl ?_
      refine z_bipush (v := 9) F dX6_takes_17 rfl ?_
      refine z_icmp_le (tgt := 25) F dX6_takes_19 (by decide) (fun c19 => ?_) (fun c19 => ?_)
      · have hn2 := (nI_leI (b := 9) (by omega) (by decide)).mp c19
        have hn : ¬ (sN S 38 - 1 < 2 ∨ 9 < sN S 38 - 1) := by omega
        refine z_aload_n F dX6_takes_25 rfl rfl ?_
        refine z_getf F vF_X6_135 dX6_takes_26 mO_at rfl ?_
        refine z_if_ne (tgt := 35) F dX6_takes_29 (by decide) (fun c29 => ?_) (fun c29 => ?_)
        · have ho : ¬ sB S 26 = false := by rw [z_b1 c29]; decide
          obtain ⟨u1, u2, u3, u4⟩ := id U
          have hr1 := R 1
          refine z_aload_n F dX6_takes_35 rfl rfl ?_
          refine z_getf F vF_X6_74 dX6_takes_36 mO_at rfl ?_
          refine z_iconst (v := 1) F dX6_takes_39 rfl ?_
          refine z_iald (j := 1) F dX6_takes_40 mA_39 rfl rfl (show 1 < 60 by decide) (Nat.le_of_ble_eq_true rfl) ?_
          refine z_istore_n F dX6_takes_41 (Nat.le_of_ble_eq_true rfl) ?_
          refine z_aload_n F dX6_takes_42 rfl rfl ?_
          refine z_getf F vF_X6_170 dX6_takes_43 mO_at rfl ?_
          refine z_if_eq (tgt := 57) F dX6_takes_46 (by decide) (fun c46 => ?_) (fun c46 => ?_)
          · have hB : sB S 31 = false := z_b0.mp c46
            have hbf : ¬ (sB S 31 = true ∧ sAN S 39 1 = sN S 30) := by rw [hB]; simp
            refine z_iload_n F dX6_takes_57 rfl ?_
            refine z_aload_n F dX6_takes_58 rfl rfl ?_
            refine z_getf F vF_X6_170 dX6_takes_59 mO_at rfl ?_
            refine z_if_eq (tgt := 78) F dX6_takes_62 (by decide) (fun c62 => ?_) (fun c62 => absurd (by rw [hB]; rfl) c62)
            refine z_iconst (v := 1) F dX6_takes_78 rfl ?_
            refine z_icmp_eq (tgt := 85) F dX6_takes_79 (by decide) (fun c79 => ?_) (fun c79 => ?_)
            · have hc : sAN S 39 1 = (if sB S 31 then (sN S 30 + 1) % 256 else 1) := by rw [hB]; exact (nI_eq (b := 1) (by omega) (by omega)).mp c79
              refine z_iload_n F dX6_takes_85 rfl ?_
              refine z_iconst (v := 1) F dX6_takes_86 rfl ?_
              refine z_isub F dX6_takes_87 ?_
              refine z_aload_n F dX6_takes_88 rfl rfl ?_
              refine z_getf F vF_X6_161 dX6_takes_89 mO_at rfl ?_
              refine z_aload_n F dX6_takes_92 rfl rfl ?_
              refine z_getf F vF_X6_164 dX6_takes_93 mO_at rfl ?_
              refine z_isub F dX6_takes_96 ?_
              rw [pk_sub (a := sN S 27) (b := sN S 28) (by omega), show nI (sN S 38 - 1) - 1 = nI (sN S 38 - 1 - 1) from pk_sub (b := 1) (by omega)]
              refine z_icmp_le (tgt := 103) F dX6_takes_97 (by decide) (fun c97 => ?_) (fun c97 => ?_)
              · have ht : ¬ sN S 27 - sN S 28 < sN S 38 - 1 - 1 := by have := (nI_leI (a := sN S 38 - 1 - 1) (b := sN S 27 - sN S 28) (by omega) (by omega)).mp c97; omega
                have hs : sv54 S = (0, sayS (sayS (uB (uN (uN (uN S 29 (sumS S (sN S 38 - 2))) 28 (sN S 28 + (sN S 38 - 1 - 1))) 30 (sAN S 39 1)) 31 true) 118) (sAN S 39 1)) := by unfold sv54; rw [if_neg (not_not_intro hp3), if_neg hn, if_neg ho, if_neg hbf, if_neg (not_not_intro hc), if_neg ht]
                refine z_iconst (v := 2) F dX6_takes_103 rfl ?_
                refine z_istore_n F dX6_takes_104 (Nat.le_of_ble_eq_true rfl) ?_
                refine z_heap _ (z_hS (S2 := uN S 29 (sumS S 0)) (by unfold uN; rw [show va_up S.1 29 (sumS S 0) = S.1 from va_same _ _])) ?_
                exact l_X6_takes R W V hM hM1 hA U (by omega) (by omega) hs F hr (sN S 38 - 2) 0 (by omega)
              · have ht : sN S 27 - sN S 28 < sN S 38 - 1 - 1 := by have := mt (nI_leI (a := sN S 38 - 1 - 1) (b := sN S 27 - sN S 28) (by omega) (by omega)).mpr c97; omega
                have hs : sv54 S = (113, S) := by unfold sv54; rw [if_neg (not_not_intro hp3), if_neg hn, if_neg ho, if_neg hbf, if_neg (not_not_intro hc), if_pos ht]
                refine z_bipush (v := 113) F dX6_takes_100 rfl ?_
                exact z_iret F hr dX6_takes_102 rfl (Nat.le_of_ble_eq_true rfl) (Nat.le_of_ble_eq_true rfl) (⟨by rw [hs]; try rfl, by rw [hs]; try rfl⟩)
            · have hc : ¬ sAN S 39 1 = (if sB S 31 then (sN S 30 + 1) % 256 else 1) := by rw [hB]; exact fun e => c79 (by rw [show sAN S 39 1 = 1 from e]; try rfl)
              have hs : sv54 S = (115, S) := by unfold sv54; rw [if_neg (not_not_intro hp3), if_neg hn, if_neg ho, if_neg hbf, if_pos hc]
              refine z_bipush (v := 115) F dX6_takes_82 rfl ?_
              exact z_iret F hr dX6_takes_84 rfl (Nat.le_of_ble_eq_true rfl) (Nat.le_of_ble_eq_true rfl) (⟨by rw [hs]; try rfl, by rw [hs]; try rfl⟩)
          · have hB : sB S 31 = true := z_b1 c46
            refine z_iload_n F dX6_takes_49 rfl ?_
            refine z_aload_n F dX6_takes_50 rfl rfl ?_
            refine z_getf F vF_X6_188 dX6_takes_51 mO_at rfl ?_
            refine z_icmp_eq (tgt := 159) F dX6_takes_54 (by decide) (fun c54 => ?_) (fun c54 => ?_)
            · have hs : sv54 S = (0, sayS (sayS S 118) (sAN S 39 1)) := by unfold sv54; rw [if_neg (not_not_intro hp3), if_neg hn, if_neg ho, if_pos ⟨hB, (nI_eq (by omega) (by omega)).mp c54⟩]
              refine z_aload_n F dX6_takes_159 rfl rfl ?_
              refine z_bipush (v := 118) F dX6_takes_160 rfl ?_
              refine z_callV F z_nwOK wL_good (c_X6_say (b := 118) (show sN S 40 < 1000 by omega) (by decide)) mO_at rfl vI_X6_say vM_X6_131 vV_X6_say vL_X6_say rfl dX6_takes_162 rfl rfl (Nat.le_of_ble_eq_true rfl) ⟨(Nat.le_of_ble_eq_true rfl), (Nat.le_of_ble_eq_true rfl), (Nat.le_of_ble_eq_true rfl), (Nat.le_of_ble_eq_true rfl)⟩ (fun v h1 hq => ?_)
              obtain ⟨rfl, rfl⟩ := hq
              refine z_aload_n F dX6_takes_165 rfl rfl ?_
              refine z_iload_n F dX6_takes_166 rfl ?_
              refine z_callV F z_nwOK wL_good (c_X6_say (b := sAN S 39 1) (show sN S 40 + 1 < 1000 by omega) (by have := R 1; omega)) mO_at rfl vI_X6_say vM_X6_131 vV_X6_say vL_X6_say rfl dX6_takes_167 rfl rfl (Nat.le_of_ble_eq_true rfl) ⟨(Nat.le_of_ble_eq_true rfl), (Nat.le_of_ble_eq_true rfl), (Nat.le_of_ble_eq_true rfl), (Nat.le_of_ble_eq_true rfl)⟩ (fun v h1 hq => ?_)
              obtain ⟨rfl, rfl⟩ := hq
              refine z_iconst (v := 0) F dX6_takes_170 rfl ?_
              exact z_iret F hr dX6_takes_171 rfl (Nat.le_of_ble_eq_true rfl) (Nat.le_of_ble_eq_true rfl) (⟨by rw [hs]; try rfl, by rw [hs]; try rfl⟩)
            · have hbf : ¬ (sB S 31 = true ∧ sAN S 39 1 = sN S 30) := fun e => c54 (by rw [e.2])
              refine z_iload_n F dX6_takes_57 rfl ?_
              refine z_aload_n F dX6_takes_58 rfl rfl ?_
              refine z_getf F vF_X6_170 dX6_takes_59 mO_at rfl ?_
              refine z_if_eq (tgt := 78) F dX6_takes_62 (by decide) (fun c62 => absurd (z_b0.mp c62) (by rw [hB]; decide)) (fun c62 => ?_)
              refine z_aload_n F dX6_takes_65 rfl rfl ?_
              refine z_getf F vF_X6_188 dX6_takes_66 mO_at rfl ?_
              refine z_iconst (v := 1) F dX6_takes_69 rfl ?_
              refine z_iadd F dX6_takes_70 ?_
              refine z_sipush (v := 256) F dX6_takes_71 rfl ?_
              refine z_irem F dX6_takes_74 (by decide) ?_
              refine z_goto (tgt := 79) F dX6_takes_75 (by decide) ?_
              rw [nI_1, show (256 : Int32) = nI 256 from rfl, pk_rem (a := sN S 30 + 1) (by omega) (by decide) (by decide)]
              refine z_icmp_eq (tgt := 85) F dX6_takes_79 (by decide) (fun c79 => ?_) (fun c79 => ?_)
              · have hc : sAN S 39 1 = (if sB S 31 then (sN S 30 + 1) % 256 else 1) := by rw [hB]; exact (nI_eq (b := (sN S 30 + 1) % 256) (by omega) (by omega)).mp c79
                refine z_iload_n F dX6_takes_85 rfl ?_
                refine z_iconst (v := 1) F dX6_takes_86 rfl ?_
                refine z_isub F dX6_takes_87 ?_
                refine z_aload_n F dX6_takes_88 rfl rfl ?_
                refine z_getf F vF_X6_161 dX6_takes_89 mO_at rfl ?_
                refine z_aload_n F dX6_takes_92 rfl rfl ?_
                refine z_getf F vF_X6_164 dX6_takes_93 mO_at rfl ?_
                refine z_isub F dX6_takes_96 ?_
                rw [pk_sub (a := sN S 27) (b := sN S 28) (by omega), show nI (sN S 38 - 1) - 1 = nI (sN S 38 - 1 - 1) from pk_sub (b := 1) (by omega)]
                refine z_icmp_le (tgt := 103) F dX6_takes_97 (by decide) (fun c97 => ?_) (fun c97 => ?_)
                · have ht : ¬ sN S 27 - sN S 28 < sN S 38 - 1 - 1 := by have := (nI_leI (a := sN S 38 - 1 - 1) (b := sN S 27 - sN S 28) (by omega) (by omega)).mp c97; omega
                  have hs : sv54 S = (0, sayS (sayS (uB (uN (uN (uN S 29 (sumS S (sN S 38 - 2))) 28 (sN S 28 + (sN S 38 - 1 - 1))) 30 (sAN S 39 1)) 31 true) 118) (sAN S 39 1)) := by unfold sv54; rw [if_neg (not_not_intro hp3), if_neg hn, if_neg ho, if_neg hbf, if_neg (not_not_intro hc), if_neg ht]
                  refine z_iconst (v := 2) F dX6_takes_103 rfl ?_
                  refine z_istore_n F dX6_takes_104 (Nat.le_of_ble_eq_true rfl) ?_
                  refine z_heap _ (z_hS (S2 := uN S 29 (sumS S 0)) (by unfold uN; rw [show va_up S.1 29 (sumS S 0) = S.1 from va_same _ _])) ?_
                  exact l_X6_takes R W V hM hM1 hA U (by omega) (by omega) hs F hr (sN S 38 - 2) 0 (by omega)
                · have ht : sN S 27 - sN S 28 < sN S 38 - 1 - 1 := by have := mt (nI_leI (a := sN S 38 - 1 - 1) (b := sN S 27 - sN S 28) (by omega) (by omega)).mpr c97; omega
                  have hs : sv54 S = (113, S) := by unfold sv54; rw [if_neg (not_not_intro hp3), if_neg hn, if_neg ho, if_neg hbf, if_neg (not_not_intro hc), if_pos ht]
                  refine z_bipush (v := 113) F dX6_takes_100 rfl ?_
                  exact z_iret F hr dX6_takes_102 rfl (Nat.le_of_ble_eq_true rfl) (Nat.le_of_ble_eq_true rfl) (⟨by rw [hs]; try rfl, by rw [hs]; try rfl⟩)
              · have hc : ¬ sAN S 39 1 = (if sB S 31 then (sN S 30 + 1) % 256 else 1) := by rw [hB]; exact fun e => c79 (by rw [show sAN S 39 1 = (sN S 30 + 1) % 256 from e]; try rfl)
                have hs : sv54 S = (115, S) := by unfold sv54; rw [if_neg (not_not_intro hp3), if_neg hn, if_neg ho, if_neg hbf, if_pos hc]
                refine z_bipush (v := 115) F dX6_takes_82 rfl ?_
                exact z_iret F hr dX6_takes_84 rfl (Nat.le_of_ble_eq_true rfl) (Nat.le_of_ble_eq_true rfl) (⟨by rw [hs]; try rfl, by rw [hs]; try rfl⟩)
        · have ho : sB S 26 = false := z_b0.mp c29
          have hs : sv54 S = (36, S) := by unfold sv54; rw [if_neg (not_not_intro hp3), if_neg hn, if_pos ho]
          refine z_bipush (v := 36) F dX6_takes_32 rfl ?_
          exact z_iret F hr dX6_takes_34 rfl (Nat.le_of_ble_eq_true rfl) (Nat.le_of_ble_eq_true rfl) (⟨by rw [hs]; try rfl, by rw [hs]; try rfl⟩)
      · have hn : sN S 38 - 1 < 2 ∨ 9 < sN S 38 - 1 := Or.inr (by have := mt (nI_leI (a := sN S 38 - 1) (b := 9) (by omega) (by decide)).mpr c19; omega)
        have hs : sv54 S = (19, S) := by unfold sv54; rw [if_neg (not_not_intro hp3), if_pos hn]
        refine z_bipush (v := 19) F dX6_takes_22 rfl ?_
        exact z_iret F hr dX6_takes_24 rfl (Nat.le_of_ble_eq_true rfl) (Nat.le_of_ble_eq_true rfl) (⟨by rw [hs]; try rfl, by rw [hs]; try rfl⟩)
  · have hp3 : ¬ sN S 1 = 3 := fun e => c5 (by rw [e]; rfl)
    have hs : sv54 S = (127, S) := if_pos hp3
    refine z_bipush (v := 127) F dX6_takes_8 rfl ?_
    exact z_iret F hr dX6_takes_10 rfl (Nat.le_of_ble_eq_true rfl) (Nat.le_of_ble_eq_true rfl) (⟨by rw [hs]; try rfl, by rw [hs]; try rfl⟩)
