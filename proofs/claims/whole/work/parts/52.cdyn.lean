theorem CR_app2 {S : z_S} {x : z_Xc} {d : z_H} (C : CR S x d) (W : idsOK S) {e f k len : Nat} (he : e < sN S 8) (te : sAB S 17 e = true) (hl : sAN S 10 e = len) (hk8 : len + k ≤ 8) : CR (dyS S e len f k) (xP x e len (xi x f + 32) k) (dP d S x e len (xi x f + 32) k) := by
  subst hl
  exact CR_app C W he te hk8
theorem c_app {S : z_S} {x : z_Xc} {m : Nat → z_E} {d : z_H} (C : CR S x d) {e f k len : Nat} (he : e < sN S 8) (te : sAB S 17 e = true) (hf : f < sN S 8) (tf : sAB S 17 f = false) (hl : sAN S 10 e = len) (hk8 : len + k ≤ 8) : z_K yX1_append cX1_append 4 none 0 0 0 [.ref (xi x e + 32), .ref (xi x f + 32), .int (nI k)] (HP (cfun S x) m d) (fun v h' => v = none ∧ h' = HP (cfun (dyS S e len f k) (xP x e len (xi x f + 32) k)) m (dP d S x e len (xi x f + 32) k)) := by
  obtain ⟨e1, e2, e3⟩ := C.2.1 e he te
  have e0 := C.1.1 e he
  have f0 := C.1.1 f hf
  have hef : ¬ e = f := fun q => by rw [q, tf] at te; cases te
  have hsp : xs x e ≠ xp x e := fun q => by rw [q, e2] at e1; cases e1
  have hsi : xs x e ≠ xi x e := fun q => by rw [q, e0] at e1; cases e1
  have hpi : xp x e ≠ xi x e := fun q => by rw [q, e0] at e2; cases e2
  have hsf : xs x e ≠ xi x f := fun q => by rw [q, f0] at e1; cases e1
  have hpf : xp x e ≠ xi x f := fun q => by rw [q, f0] at e2; cases e2
  have hif : xi x e ≠ xi x f := fun q => hef (C.2.2.2.1.1 e f he hf q)
  have hc := HPd (c := cfun S x) (m := m) e0
  unfold IO at hc
  rw [te, hl] at hc
  rw [← ap_heap]
  exact c_X1_append hc (HPd e1) (HPd e2) (HPd f0) (by omega) (by omega) (by omega) (by omega) (by omega) (by omega) hk8
theorem z_args3 {cl : List vw_C} {G : z_G} {nL : Nat} {X : z_X} {Q : State → Prop} {cells slots pc : Nat} {lv : List (Nat × Value)} {st : List Value} {h : z_H} {y a : Int32} {p q p' q' : Nat} (hy : y = a) (hp : p = p') (hq : q = q') (k : z_V cl G nL X Q cells slots pc lv (.int a :: .ref (p' + 32) :: .ref (q' + 32) :: st) h) : z_V cl G nL X Q cells slots pc lv (.int y :: .ref (p + 32) :: .ref (q + 32) :: st) h := by subst hy hp hq; exact k
theorem idA_ids {S : z_S} (W : idsOK S) (hn : sN S 8 < 40) (id : Int32) (s l : Nat) (b : Bool) {len : Nat} (hl : len ≤ 8) (hb : b = true → len = 0) : idsOK (idA S id len s l b) := by
  have h10 : ∀ j, ¬ j = sN S 8 → sAN (idA S id len s l b) 10 j = sAN S 10 j := fun j hj => va_up_ne _ _ hj
  have h17 : ∀ j, ¬ j = sN S 8 → sAB (idA S id len s l b) 17 j = sAB S 17 j := fun j hj => va_up_ne _ _ hj
  refine ⟨hn, fun k hk => ?_⟩
  have hk : k < sN S 8 + 1 := hk
  by_cases h : k = sN S 8
  · subst h
    rw [show sAN (idA S id len s l b) 10 (sN S 8) = len from va_up_self _ _ _, show sAB (idA S id len s l b) 17 (sN S 8) = b from va_up_self _ _ _]
    exact ⟨hl, fun t p hp => absurd (hb t ▸ hp) (Nat.not_lt_zero p)⟩
  · rw [h10 k h, h17 k h]
    refine ⟨(W.2 k (by omega)).1, fun t p hp => ?_⟩
    obtain ⟨p1, p2, p3⟩ := (W.2 k (by omega)).2 t p hp
    unfold partOK
    show sAN S 18 (8 * k + p) < sN S 8 + 1 ∧ sAB (idA S id len s l b) 17 (sAN S 18 (8 * k + p)) = false ∧ sAN S 19 (8 * k + p) < sAN (idA S id len s l b) 10 (sAN S 18 (8 * k + p))
    rw [h10 _ (by omega), h17 _ (by omega)]
    exact ⟨by omega, p2, p3⟩

set_option maxRecDepth 100000 in
set_option maxHeartbeats 1000000 in
theorem c_X5_dynamic {S : z_S} {x : z_Xc} {m : Nat → z_E} {d : z_H} {id fr y : Int32} (C : CR S x d) (B : DF S) (W : idsOK S) : z_K yX5_dynamic cX5_dynamic 6 (some .int) 2 3 27 [.ref 1, .int id, .int fr, .int y] (HP (cfun S x) m d) (fun v h' => v = some (.int (sp_dynamic S id fr y).1) ∧ ∃ (x' : z_Xc) (d' : z_H), h' = HP (cfun (sp_dynamic S id fr y).2 x') m d' ∧ CR (sp_dynamic S id fr y).2 x' d' ∧ KX x x') := by
  refine z_met vI_X5_dynamic (Nat.le_of_ble_eq_true rfl) (fun G X F hr hnm => ?_)
  refine z_aload_n F dX5_dynamic_0 rfl rfl ?_
  refine z_iload_n F dX5_dynamic_1 rfl ?_
  refine z_callV F z_nwOK wL_good (c_X5_findIdentifier (y := fr) C.1 W.1) cO_at rfl vI_X5_findIdentifier vM_X5_83 vV_X5_findIdentifier vL_X5_findIdentifier rfl dX5_dynamic_2 rfl rfl (Nat.le_of_ble_eq_true rfl) ⟨(Nat.le_of_ble_eq_true rfl), (Nat.le_of_ble_eq_true rfl), (Nat.le_of_ble_eq_true rfl), (Nat.le_of_ble_eq_true rfl)⟩ (fun v h1 hq => ?_)
  obtain ⟨rfl, rfl⟩ := hq
  cases hf : fnd (sAI S 9) fr (sN S 8) with
  | none =>
    have hs : sp_dynamic S id fr y = (-1, uN S 0 0) := by unfold sp_dynamic; rw [hf]
    refine z_astore F dX5_dynamic_5 rfl (Nat.le_of_ble_eq_true rfl) ?_
    refine z_aload F dX5_dynamic_7 rfl rfl ?_
    refine z_ifnonnull (tgt := 14) F dX5_dynamic_9 (by decide) rfl (fun c9 => absurd rfl c9) (fun c9 => ?_)
    refine z_iconst (v := (-1)) F dX5_dynamic_12 rfl ?_
    exact z_iret F hr dX5_dynamic_13 rfl (Nat.le_of_ble_eq_true rfl) (Nat.le_of_ble_eq_true rfl) (⟨by rw [hs]; try rfl, x, d, by rw [hs]; try rfl, by rw [hs]; exact C, rfl, rfl, rfl⟩)
  | some f =>
    have hkf := fnd_lt hf
    have hcf := HPd (c := cfun S x) (m := m) (C.1.1 f hkf)
    have f8 := (W.2 f hkf).1
    refine z_astore F dX5_dynamic_5 rfl (Nat.le_of_ble_eq_true rfl) ?_
    refine z_aload F dX5_dynamic_7 rfl rfl ?_
    refine z_ifnonnull (tgt := 14) F dX5_dynamic_9 (by decide) rfl (fun c9 => ?_) (fun c9 => absurd c9 (by intro q; cases q))
    refine z_iload_n F dX5_dynamic_14 rfl ?_
    refine z_iconst (v := 0) F dX5_dynamic_15 rfl ?_
    refine z_ldc F vK_X5_78 dX5_dynamic_16 ?_
    refine z_callS F z_nwOK wL_good (c_within (A := 0) (B := 65535) id 0 65535 rfl rfl) vI_X5_isWithin vM_X5_79 vS_X5_isWithin rfl dX5_dynamic_18 rfl rfl (Nat.le_of_ble_eq_true rfl) ⟨(Nat.le_of_ble_eq_true rfl), (Nat.le_of_ble_eq_true rfl), (Nat.le_of_ble_eq_true rfl), (Nat.le_of_ble_eq_true rfl)⟩ (fun v h1 hq => ?_)
    obtain ⟨rfl, rfl⟩ := hq
    refine z_if_eq (tgt := 37) F dX5_dynamic_21 (by decide) (fun c21 => ?_) (fun c21 => ?_)
    · have hR : (inZ id.toInt 0 65535 && inZ y.toInt 1 (sAN S 10 f)) = false := by rw [show inZ id.toInt 0 65535 = false from z_b0.mp c21]; simp
      have hs : sp_dynamic S id fr y = (-2, uN S 0 0) := by unfold sp_dynamic; rw [hf]; exact if_neg (by rw [hR]; decide)
      refine z_bipush (v := (-2)) F dX5_dynamic_37 rfl ?_
      exact z_iret F hr dX5_dynamic_39 rfl (Nat.le_of_ble_eq_true rfl) (Nat.le_of_ble_eq_true rfl) (⟨by rw [hs]; try rfl, x, d, by rw [hs]; try rfl, by rw [hs]; exact C, rfl, rfl, rfl⟩)
    · refine z_iload_n F dX5_dynamic_24 rfl ?_
      refine z_iconst (v := 1) F dX5_dynamic_25 rfl ?_
      refine z_aload F dX5_dynamic_26 rfl rfl ?_
      refine z_getf F vF_X5_98 dX5_dynamic_28 hcf rfl ?_
      refine z_callS F z_nwOK wL_good (c_within (A := 1) (B := (sAN S 10 f : Int)) y 1 (nI (sAN S 10 f)) rfl (nI_toInt (by omega))) vI_X5_isWithin vM_X5_79 vS_X5_isWithin rfl dX5_dynamic_31 rfl rfl (Nat.le_of_ble_eq_true rfl) ⟨(Nat.le_of_ble_eq_true rfl), (Nat.le_of_ble_eq_true rfl), (Nat.le_of_ble_eq_true rfl), (Nat.le_of_ble_eq_true rfl)⟩ (fun v h1 hq => ?_)
      obtain ⟨rfl, rfl⟩ := hq
      refine z_if_ne (tgt := 40) F dX5_dynamic_34 (by decide) (fun c34 => ?_) (fun c34 => ?_)
      · have hR : (inZ id.toInt 0 65535 && inZ y.toInt 1 (sAN S 10 f)) = true := by rw [show inZ id.toInt 0 65535 = true from z_b1 c21, show inZ y.toInt 1 (sAN S 10 f) = true from z_b1 c34]; rfl
        have hyy := inZ_nI (a := 1) (by decide) (show inZ y.toInt 1 (sAN S 10 f) = true from z_b1 c34)
        have hy := hyy.1
        have hy2 : (tn y) ≤ sAN S 10 f := by have := hyy.2.2; omega
        refine z_aload_n F dX5_dynamic_40 rfl rfl ?_
        refine z_iload_n F dX5_dynamic_41 rfl ?_
        refine z_callV F z_nwOK wL_good (c_X5_findIdentifier (y := id) C.1 W.1) cO_at rfl vI_X5_findIdentifier vM_X5_83 vV_X5_findIdentifier vL_X5_findIdentifier rfl dX5_dynamic_42 rfl rfl (Nat.le_of_ble_eq_true rfl) ⟨(Nat.le_of_ble_eq_true rfl), (Nat.le_of_ble_eq_true rfl), (Nat.le_of_ble_eq_true rfl), (Nat.le_of_ble_eq_true rfl)⟩ (fun v h1 hq => ?_)
        obtain ⟨rfl, rfl⟩ := hq
        cases he : fnd (sAI S 9) id (sN S 8) with
        | none =>
          refine z_astore F dX5_dynamic_45 rfl (Nat.le_of_ble_eq_true rfl) ?_
          refine z_aload F dX5_dynamic_47 rfl rfl ?_
          refine z_getf F vF_X5_101 dX5_dynamic_49 hcf rfl ?_
          refine z_if_ne (tgt := 68) F dX5_dynamic_52 (by decide) (fun c52 => ?_) (fun c52 => ?_)
          · have hs : sp_dynamic S id fr y = (-3, uN S 0 0) := by unfold sp_dynamic; rw [hf]; show (if _ then _ else _) = _; rw [if_pos hR, he]; exact if_pos (z_b1 c52)
            refine z_bipush (v := (-3)) F dX5_dynamic_68 rfl ?_
            exact z_iret F hr dX5_dynamic_70 rfl (Nat.le_of_ble_eq_true rfl) (Nat.le_of_ble_eq_true rfl) (⟨by rw [hs]; try rfl, x, d, by rw [hs]; try rfl, by rw [hs]; exact C, rfl, rfl, rfl⟩)
          · have tf : sAB S 17 f = false := z_b0.mp c52
            refine z_aload F dX5_dynamic_55 rfl rfl ?_
            refine z_ifnull (tgt := 71) F dX5_dynamic_57 (by decide) rfl (fun c57 => ?_) (fun c57 => absurd rfl c57)
            refine z_aload F dX5_dynamic_71 rfl rfl ?_
            refine z_ifnonnull (tgt := 86) F dX5_dynamic_73 (by decide) rfl (fun c73 => absurd rfl c73) (fun c73 => ?_)
            refine z_aload_n F dX5_dynamic_76 rfl rfl ?_
            refine z_callV F z_nwOK wL_good (c_X5_hasRoom W.1) cO_at rfl vI_X5_hasRoomForIdentifier vM_X5_87 vV_X5_hasRoomForIdentifier vL_X5_hasRoomForIdentifier rfl dX5_dynamic_77 rfl rfl (Nat.le_of_ble_eq_true rfl) ⟨(Nat.le_of_ble_eq_true rfl), (Nat.le_of_ble_eq_true rfl), (Nat.le_of_ble_eq_true rfl), (Nat.le_of_ble_eq_true rfl)⟩ (fun v h1 hq => ?_)
            obtain ⟨rfl, rfl⟩ := hq
            refine z_if_ne (tgt := 101) F dX5_dynamic_80 (by decide) (fun c80 => ?_) (fun c80 => ?_)
            · have hz : sN S 8 < 40 := of_decide_eq_true (z_b1 c80)
              have hs : sp_dynamic S id fr y = (nI (0 + (tn y)), dyS (idA S id 0 1 0 true) (sN S 8) 0 f (tn y)) := by unfold sp_dynamic; rw [hf]; show (if _ then _ else _) = _; rw [if_pos hR, he]; show (if _ then _ else _) = _; rw [if_neg (by rw [tf]; decide), if_neg (by omega)]; rfl
              have C1 : CR (idA S id 0 1 0 true) (xA x (sN S 8) d.length (fun _ => none) (fun _ => 0)) (d ++ [idE id 1 0 true 0 d.length] ++ [(.inl (4, 8, .inr (.inr (.inr (.inr (fun _ => none))))) : z_E)] ++ [(.inl (0, 8, .inl (fun _ => 0)) : z_E)]) := CR_idA C B W id 0 1 0 true (fun _ => ⟨rfl, rfl, rfl⟩)
              have W1 : idsOK (idA S id 0 1 0 true) := idA_ids W hz id 1 0 true (Nat.zero_le 8) (fun _ => rfl)
              have xe : xi (xA x (sN S 8) d.length (fun _ => none) (fun _ => 0)) (sN S 8) = d.length := va_up_self _ _ _
              have xfe : xi (xA x (sN S 8) d.length (fun _ => none) (fun _ => 0)) f = xi x f := va_up_ne _ _ (by omega)
              have te : sAB (idA S id 0 1 0 true) 17 (sN S 8) = true := va_up_self _ _ _
              have tf1 : sAB (idA S id 0 1 0 true) 17 f = false := (va_up_ne _ _ (by omega) : sAB (idA S id 0 1 0 true) 17 f = sAB S 17 f).trans tf
              have l0 : sAN (idA S id 0 1 0 true) 10 (sN S 8) = 0 := va_up_self _ _ _
              have C2 : CR (dyS (idA S id 0 1 0 true) (sN S 8) 0 f (tn y)) (xP (xA x (sN S 8) d.length (fun _ => none) (fun _ => 0)) (sN S 8) 0 (xi (xA x (sN S 8) d.length (fun _ => none) (fun _ => 0)) f + 32) (tn y)) (dP (d ++ [idE id 1 0 true 0 d.length] ++ [(.inl (4, 8, .inr (.inr (.inr (.inr (fun _ => none))))) : z_E)] ++ [(.inl (0, 8, .inl (fun _ => 0)) : z_E)]) (idA S id 0 1 0 true) (xA x (sN S 8) d.length (fun _ => none) (fun _ => 0)) (sN S 8) 0 (xi (xA x (sN S 8) d.length (fun _ => none) (fun _ => 0)) f + 32) (tn y)) := CR_app2 C1 W1 (show sN S 8 < sN S 8 + 1 by omega) te l0 (by omega)
              have hc3 : (HP (cfun (dyS (idA S id 0 1 0 true) (sN S 8) 0 f (tn y)) (xP (xA x (sN S 8) d.length (fun _ => none) (fun _ => 0)) (sN S 8) 0 (xi (xA x (sN S 8) d.length (fun _ => none) (fun _ => 0)) f + 32) (tn y))) m (dP (d ++ [idE id 1 0 true 0 d.length] ++ [(.inl (4, 8, .inr (.inr (.inr (.inr (fun _ => none))))) : z_E)] ++ [(.inl (0, 8, .inl (fun _ => 0)) : z_E)]) (idA S id 0 1 0 true) (xA x (sN S 8) d.length (fun _ => none) (fun _ => 0)) (sN S 8) 0 (xi (xA x (sN S 8) d.length (fun _ => none) (fun _ => 0)) f + 32) (tn y)))[d.length + 32]? = some (IO (dyS (idA S id 0 1 0 true) (sN S 8) 0 f (tn y)) (xP (xA x (sN S 8) d.length (fun _ => none) (fun _ => 0)) (sN S 8) 0 (xi (xA x (sN S 8) d.length (fun _ => none) (fun _ => 0)) f + 32) (tn y)) (sN S 8)) := by have h := HPd (c := cfun (dyS (idA S id 0 1 0 true) (sN S 8) 0 f (tn y)) (xP (xA x (sN S 8) d.length (fun _ => none) (fun _ => 0)) (sN S 8) 0 (xi (xA x (sN S 8) d.length (fun _ => none) (fun _ => 0)) f + 32) (tn y))) (m := m) (C2.1.1 (sN S 8) (show sN S 8 < sN S 8 + 1 by omega)); rw [show xi (xP (xA x (sN S 8) d.length (fun _ => none) (fun _ => 0)) (sN S 8) 0 (xi (xA x (sN S 8) d.length (fun _ => none) (fun _ => 0)) f + 32) (tn y)) (sN S 8) = d.length from va_up_self _ _ _] at h; exact h
              refine z_aload F dX5_dynamic_101 rfl rfl ?_
              refine z_ifnonnull (tgt := 126) F dX5_dynamic_103 (by decide) rfl (fun c103 => absurd rfl c103) (fun c103 => ?_)
              refine z_new F vN_X5_9 dX5_dynamic_106 (Nat.le_of_ble_eq_true rfl) (Nat.le_of_ble_eq_true rfl) ?_
              rw [HPlen]
              refine z_heap _ HPa ?_
              refine z_dup F dX5_dynamic_109 rfl ?_
              refine z_iload_n F dX5_dynamic_110 rfl ?_
              refine z_iconst (v := 0) F dX5_dynamic_111 rfl ?_
              refine z_iconst (v := 1) F dX5_dynamic_112 rfl ?_
              refine z_iconst (v := 0) F dX5_dynamic_113 rfl ?_
              refine z_iconst (v := 1) F dX5_dynamic_114 rfl ?_
              refine z_callI F z_nwOK wL_good (c_X1_init_y (a := d.length + 32) (len := 0) (ses := 1) (lev := 0) (id := id) (HPd (d := d ++ [(.inr (2, [.int 0, .int 0, .int 0, .int 0, .int 0, .int 0, .long 0, .int 0, .long 0, .null, .null]) : z_E)]) z_pl)) vI_X1_init vM_X5_91 vV_X1_init rfl rfl dX5_dynamic_115 rfl rfl (Nat.le_of_ble_eq_true rfl) ⟨(Nat.le_of_ble_eq_true rfl), (Nat.le_of_ble_eq_true rfl), (Nat.le_of_ble_eq_true rfl), (Nat.le_of_ble_eq_true rfl)⟩ (fun v h1 hq => ?_)
              obtain ⟨rfl, rfl⟩ := hq
              rw [len1]
              refine z_heap (HP (cfun S x) m (d ++ [idE id 1 0 true 0 d.length] ++ [(.inl (4, 8, .inr (.inr (.inr (.inr (fun _ => none))))) : z_E)] ++ [(.inl (0, 8, .inl (fun _ => 0)) : z_E)])) in_heap ?_
              refine z_astore F dX5_dynamic_118 rfl (Nat.le_of_ble_eq_true rfl) ?_
              refine z_aload_n F dX5_dynamic_120 rfl rfl ?_
              refine z_aload F dX5_dynamic_121 rfl rfl ?_
              refine z_callV F z_nwOK wL_good (c_X5_addIdentifier (d := (d ++ [idE id 1 0 true 0 d.length] ++ [(.inl (4, 8, .inr (.inr (.inr (.inr (fun _ => none))))) : z_E)] ++ [(.inl (0, 8, .inl (fun _ => 0)) : z_E)])) (u := d.length) push_1 hz) cO_at rfl vI_X5_addIdentifier vM_X5_94 vV_X5_addIdentifier vL_X5_addIdentifier rfl dX5_dynamic_123 rfl rfl (Nat.le_of_ble_eq_true rfl) ⟨(Nat.le_of_ble_eq_true rfl), (Nat.le_of_ble_eq_true rfl), (Nat.le_of_ble_eq_true rfl), (Nat.le_of_ble_eq_true rfl)⟩ (fun v h1 hq => ?_)
              obtain ⟨rfl, rfl⟩ := hq
              refine z_heap (HP (cfun (idA S id 0 1 0 true) (xA x (sN S 8) d.length (fun _ => none) (fun _ => 0))) m (d ++ [idE id 1 0 true 0 d.length] ++ [(.inl (4, 8, .inr (.inr (.inr (.inr (fun _ => none))))) : z_E)] ++ [(.inl (0, 8, .inl (fun _ => 0)) : z_E)])) ad_heap ?_
              refine z_aload F dX5_dynamic_126 rfl rfl ?_
              refine z_aload F dX5_dynamic_128 rfl rfl ?_
              refine z_iload_n F dX5_dynamic_130 rfl ?_
              refine z_args3 hy xfe.symm xe.symm ?_
              refine z_callV F z_nwOK wL_good (c_app C1 (e := sN S 8) (f := f) (k := (tn y)) (len := 0) (show sN S 8 < sN S 8 + 1 by omega) te (show f < sN S 8 + 1 by omega) tf1 l0 (by omega)) (HPd (C1.1.1 (sN S 8) (show sN S 8 < sN S 8 + 1 by omega))) rfl vI_X1_append vM_X5_104 vV_X1_append vL_X1_append rfl dX5_dynamic_131 rfl rfl (Nat.le_of_ble_eq_true rfl) ⟨(Nat.le_of_ble_eq_true rfl), (Nat.le_of_ble_eq_true rfl), (Nat.le_of_ble_eq_true rfl), (Nat.le_of_ble_eq_true rfl)⟩ (fun v h1 hq => ?_)
              obtain ⟨rfl, rfl⟩ := hq
              refine z_aload F dX5_dynamic_134 rfl rfl ?_
              refine z_getf F vF_X5_98 dX5_dynamic_136 hc3 rfl ?_
              rw [show sAN (dyS (idA S id 0 1 0 true) (sN S 8) 0 f (tn y)) 10 (sN S 8) = 0 + (tn y) from va_up_self _ _ _]
              exact z_iret F hr dX5_dynamic_139 rfl (Nat.le_of_ble_eq_true rfl) (Nat.le_of_ble_eq_true rfl) (⟨by rw [hs], (xP (xA x (sN S 8) d.length (fun _ => none) (fun _ => 0)) (sN S 8) 0 (xi (xA x (sN S 8) d.length (fun _ => none) (fun _ => 0)) f + 32) (tn y)), (dP (d ++ [idE id 1 0 true 0 d.length] ++ [(.inl (4, 8, .inr (.inr (.inr (.inr (fun _ => none))))) : z_E)] ++ [(.inl (0, 8, .inl (fun _ => 0)) : z_E)]) (idA S id 0 1 0 true) (xA x (sN S 8) d.length (fun _ => none) (fun _ => 0)) (sN S 8) 0 (xi (xA x (sN S 8) d.length (fun _ => none) (fun _ => 0)) f + 32) (tn y)), by rw [hs], by rw [hs]; exact C2, rfl, rfl, rfl⟩)
            · have hz : ¬ sN S 8 < 40 := of_decide_eq_false (z_b0.mp c80)
              have hs : sp_dynamic S id fr y = (-4, uN S 0 0) := by unfold sp_dynamic; rw [hf]; show (if _ then _ else _) = _; rw [if_pos hR, he]; show (if _ then _ else _) = _; rw [if_neg (by rw [tf]; decide), if_pos (by have := W.1; omega)]
              refine z_goto (tgt := 98) F dX5_dynamic_83 (by decide) ?_
              refine z_bipush (v := (-4)) F dX5_dynamic_98 rfl ?_
              exact z_iret F hr dX5_dynamic_100 rfl (Nat.le_of_ble_eq_true rfl) (Nat.le_of_ble_eq_true rfl) (⟨by rw [hs]; try rfl, x, d, by rw [hs]; try rfl, by rw [hs]; exact C, rfl, rfl, rfl⟩)
        | some e =>
          have hke := fnd_lt he
          have hce := HPd (c := cfun S x) (m := m) (C.1.1 e hke)
          have e8 := (W.2 e hke).1
          refine z_astore F dX5_dynamic_45 rfl (Nat.le_of_ble_eq_true rfl) ?_
          refine z_aload F dX5_dynamic_47 rfl rfl ?_
          refine z_getf F vF_X5_101 dX5_dynamic_49 hcf rfl ?_
          refine z_if_ne (tgt := 68) F dX5_dynamic_52 (by decide) (fun c52 => ?_) (fun c52 => ?_)
          · have hs : sp_dynamic S id fr y = (-3, uN S 0 0) := by unfold sp_dynamic; rw [hf]; show (if _ then _ else _) = _; rw [if_pos hR, he]; show (if _ then _ else _) = _; rw [if_pos (show sAB S 17 f = true ∨ sAB S 17 e = false from Or.inl (z_b1 c52))]
            refine z_bipush (v := (-3)) F dX5_dynamic_68 rfl ?_
            exact z_iret F hr dX5_dynamic_70 rfl (Nat.le_of_ble_eq_true rfl) (Nat.le_of_ble_eq_true rfl) (⟨by rw [hs]; try rfl, x, d, by rw [hs]; try rfl, by rw [hs]; exact C, rfl, rfl, rfl⟩)
          · have tf : sAB S 17 f = false := z_b0.mp c52
            refine z_aload F dX5_dynamic_55 rfl rfl ?_
            refine z_ifnull (tgt := 71) F dX5_dynamic_57 (by decide) rfl (fun c57 => absurd c57 (by intro q; cases q)) (fun c57 => ?_)
            refine z_aload F dX5_dynamic_60 rfl rfl ?_
            refine z_getf F vF_X5_101 dX5_dynamic_62 hce rfl ?_
            refine z_if_ne (tgt := 71) F dX5_dynamic_65 (by decide) (fun c65 => ?_) (fun c65 => ?_)
            · have te : sAB S 17 e = true := z_b1 c65
              refine z_aload F dX5_dynamic_71 rfl rfl ?_
              refine z_ifnonnull (tgt := 86) F dX5_dynamic_73 (by decide) rfl (fun c73 => ?_) (fun c73 => absurd c73 (by intro q; cases q))
              refine z_aload F dX5_dynamic_86 rfl rfl ?_
              refine z_getf F vF_X5_98 dX5_dynamic_88 hce rfl ?_
              refine z_iload_n F dX5_dynamic_91 rfl ?_
              refine z_iadd F dX5_dynamic_92 ?_
              rw [show nI (sAN S 10 e) + y = nI (sAN S 10 e + (tn y)) from (congrArg (fun t => nI (sAN S 10 e) + t) hy).trans (nI_add _ _)]
              refine z_bipush (v := 8) F dX5_dynamic_93 rfl ?_
              refine z_icmp_le (tgt := 101) F dX5_dynamic_95 (by decide) (fun c95 => ?_) (fun c95 => ?_)
              · have h9 := (nI_leI (a := sAN S 10 e + (tn y)) (b := 8) (by omega) (by decide)).mp c95
                have hs : sp_dynamic S id fr y = (nI (sAN S 10 e + (tn y)), dyS (uN S 0 0) e (sAN S 10 e) f (tn y)) := by unfold sp_dynamic; rw [hf]; show (if _ then _ else _) = _; rw [if_pos hR, he]; show (if _ then _ else _) = _; rw [if_neg (show ¬ (sAB S 17 f = true ∨ sAB S 17 e = false) from fun q => q.elim (fun q => by rw [tf] at q; cases q) (fun q => by rw [te] at q; cases q)), if_neg (by omega)]
                have C0 : CR (uN S 0 0) x d := C
                have C2 : CR (dyS (uN S 0 0) e (sAN S 10 e) f (tn y)) (xP x e (sAN S 10 e) (xi x f + 32) (tn y)) (dP d (uN S 0 0) x e (sAN S 10 e) (xi x f + 32) (tn y)) := CR_app2 C0 W hke te rfl (by omega)
                have hc3 := HPd (c := cfun (dyS (uN S 0 0) e (sAN S 10 e) f (tn y)) (xP x e (sAN S 10 e) (xi x f + 32) (tn y))) (m := m) (C2.1.1 e hke)
                refine z_heap (HP (cfun (uN S 0 0) x) m d) rfl ?_
                refine z_aload F dX5_dynamic_101 rfl rfl ?_
                refine z_ifnonnull (tgt := 126) F dX5_dynamic_103 (by decide) rfl (fun c103 => ?_) (fun c103 => absurd c103 (by intro q; cases q))
                refine z_aload F dX5_dynamic_126 rfl rfl ?_
                refine z_aload F dX5_dynamic_128 rfl rfl ?_
                refine z_iload_n F dX5_dynamic_130 rfl ?_
                refine z_args3 hy rfl rfl ?_
                refine z_callV F z_nwOK wL_good (c_app C0 (e := e) (f := f) (k := (tn y)) (len := sAN S 10 e) hke te hkf tf rfl (by omega)) (HPd (C0.1.1 e hke)) rfl vI_X1_append vM_X5_104 vV_X1_append vL_X1_append rfl dX5_dynamic_131 rfl rfl (Nat.le_of_ble_eq_true rfl) ⟨(Nat.le_of_ble_eq_true rfl), (Nat.le_of_ble_eq_true rfl), (Nat.le_of_ble_eq_true rfl), (Nat.le_of_ble_eq_true rfl)⟩ (fun v h1 hq => ?_)
                obtain ⟨rfl, rfl⟩ := hq
                refine z_aload F dX5_dynamic_134 rfl rfl ?_
                refine z_getf F vF_X5_98 dX5_dynamic_136 hc3 rfl ?_
                rw [show sAN (dyS (uN S 0 0) e (sAN S 10 e) f (tn y)) 10 e = sAN S 10 e + (tn y) from va_up_self _ _ _]
                exact z_iret F hr dX5_dynamic_139 rfl (Nat.le_of_ble_eq_true rfl) (Nat.le_of_ble_eq_true rfl) (⟨by rw [hs], (xP x e (sAN S 10 e) (xi x f + 32) (tn y)), (dP d (uN S 0 0) x e (sAN S 10 e) (xi x f + 32) (tn y)), by rw [hs], by rw [hs]; exact C2, rfl, rfl, rfl⟩)
              · have h9 := mt (nI_leI (a := sAN S 10 e + (tn y)) (b := 8) (by omega) (by decide)).mpr c95
                have hs : sp_dynamic S id fr y = (-4, uN S 0 0) := by unfold sp_dynamic; rw [hf]; show (if _ then _ else _) = _; rw [if_pos hR, he]; show (if _ then _ else _) = _; rw [if_neg (show ¬ (sAB S 17 f = true ∨ sAB S 17 e = false) from fun q => q.elim (fun q => by rw [tf] at q; cases q) (fun q => by rw [te] at q; cases q)), if_pos (by omega)]
                refine z_bipush (v := (-4)) F dX5_dynamic_98 rfl ?_
                exact z_iret F hr dX5_dynamic_100 rfl (Nat.le_of_ble_eq_true rfl) (Nat.le_of_ble_eq_true rfl) (⟨by rw [hs]; try rfl, x, d, by rw [hs]; try rfl, by rw [hs]; exact C, rfl, rfl, rfl⟩)
            · have hs : sp_dynamic S id fr y = (-3, uN S 0 0) := by unfold sp_dynamic; rw [hf]; show (if _ then _ else _) = _; rw [if_pos hR, he]; show (if _ then _ else _) = _; rw [if_pos (show sAB S 17 f = true ∨ sAB S 17 e = false from Or.inr (z_b0.mp c65))]
              refine z_bipush (v := (-3)) F dX5_dynamic_68 rfl ?_
              exact z_iret F hr dX5_dynamic_70 rfl (Nat.le_of_ble_eq_true rfl) (Nat.le_of_ble_eq_true rfl) (⟨by rw [hs]; try rfl, x, d, by rw [hs]; try rfl, by rw [hs]; exact C, rfl, rfl, rfl⟩)
      · have hR : (inZ id.toInt 0 65535 && inZ y.toInt 1 (sAN S 10 f)) = false := by rw [show inZ y.toInt 1 (sAN S 10 f) = false from z_b0.mp c34]; simp
        have hs : sp_dynamic S id fr y = (-2, uN S 0 0) := by unfold sp_dynamic; rw [hf]; exact if_neg (by rw [hR]; decide)
        refine z_bipush (v := (-2)) F dX5_dynamic_37 rfl ?_
        exact z_iret F hr dX5_dynamic_39 rfl (Nat.le_of_ble_eq_true rfl) (Nat.le_of_ble_eq_true rfl) (⟨by rw [hs]; try rfl, x, d, by rw [hs]; try rfl, by rw [hs]; exact C, rfl, rfl, rfl⟩)
