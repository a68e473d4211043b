def tkj (D : z_S) (i : Nat) : z_S := tkS D (min i (sN D 20))
theorem tkj_out {D : z_S} {i : Nat} (h : ¬ i < sN D 20) : tkj D i = tkj D (i + 1) := by
  unfold tkj
  rw [Nat.min_eq_right (by omega), Nat.min_eq_right (by omega)]
theorem tkj_0 (D : z_S) : tkj D 0 = D := by
  unfold tkj tkS
  rw [Nat.zero_min, show tkN D 0 = sAN D 24 from by funext k; simp [tkN]]
  exact uAN_same D 24
theorem tkj_all {D : z_S} {i : Nat} (h : sN D 20 ≤ i) : tkj D i = tkS D (sN D 20) := by
  unfold tkj
  rw [Nat.min_eq_right h]
theorem tkj_self {D : z_S} {i : Nat} (h : i < sN D 20) : sAN (tkj D (i + 1)) 24 i = if sAB D 23 i then sAN D 24 i - 1 else sAN D 24 i := by
  show tkN D (min (i + 1) (sN D 20)) i = _
  rw [Nat.min_eq_left (by omega)]
  exact if_pos (Nat.lt_succ_self i)
theorem tkj_at {D : z_S} {i : Nat} (h : i < sN D 20) : sAN (tkj D i) 24 i = sAN D 24 i := by
  show tkN D (min i (sN D 20)) i = _
  rw [Nat.min_eq_left (by omega)]
  exact if_neg (Nat.lt_irrefl i)
theorem tkj_ne {D : z_S} {i j : Nat} (h : i < sN D 20) (hj : ¬ j = i) : sAN (tkj D (i + 1)) 24 j = sAN (tkj D i) 24 j := by
  show tkN D (min (i + 1) (sN D 20)) j = tkN D (min i (sN D 20)) j
  rw [Nat.min_eq_left (by omega), Nat.min_eq_left (by omega)]
  unfold tkN
  by_cases h2 : j < i
  · rw [if_pos h2, if_pos (by omega)]
  · rw [if_neg h2, if_neg (by omega)]
theorem CR_tkj {D : z_S} {x : z_Xc} {d : z_H} {i : Nat} (C : CR (tkj D i) x d) (h : i < sN D 20) : CR (tkj D (i + 1)) x (d.set (xr x i) (RO (tkj D (i + 1)) i)) :=
  CR_rt (S := tkj D i) (S' := tkj D (i + 1)) C h rfl rfl (fun j hj => by unfold RO; rw [tkj_ne h hj]; rfl) (fun _ => rfl) rfl rfl rfl rfl rfl rfl C.2.2.2.2.1 C.2.2.2.2.2.1 C.2.2.2.2.2.2
theorem tk_end (D : z_S) (n f : Nat) : endS (tkS D n) f = tkS (endS D f) n := rfl
theorem tk_cell {D : z_S} {x : z_Xc} {m : Nat → z_E} {d : z_H} {i : Nat} (h : i < sN D 20) : (HP (cfun (tkj D i) x) m d).set (xr x i + 32) (R_o (sAI (tkj D i) 21 i) (sAN (tkj D i) 22 i) (sAB (tkj D i) 23 i) (if sAB (tkj D i) 23 i then sAN (tkj D i) 24 i - 1 else sAN (tkj D i) 24 i) (sAN (tkj D i) 25 i)) = HP (cfun (tkj D (i + 1)) x) m (d.set (xr x i) (RO (tkj D (i + 1)) i)) := by
  unfold RO
  rw [tkj_self h, tkj_at h]
  rfl

set_option maxRecDepth 100000 in
set_option maxHeartbeats 1000000 in
theorem l_X5_tick {S : z_S} {x : z_Xc} {m : Nat → z_E} {t : Int64} (hx : xl x = sL S 4) (W : idsOK S) (V : numsOK S) (Y : rtsOK S) (hok : sp_tick S t = (z_b (tkO S t), tkS (tk1 S t) (sN S 20))) {G : z_G} {X : z_X} (F : z_F vwCl z_ats z_nw wsL_law G RX5 cX5_tick 5 (z_rm 2 0 0) X) (hr : X.2.2.2.2.2.2.2.2.1.sig.returnType = some .int) :
    ∀ (m' i : Nat) (d : z_H), (i + m' = 10 ∧ CR (tkj (uL (uN S 0 0) 3 t) (i)) x d) → z_V vwCl G 5 X (z_end vwCl z_ats z_nw G X 0 0 (fun v h' => v = some (.int (sp_tick S t).1) ∧ ∃ (x' : z_Xc) (d' : z_H), h' = HP (cfun (sp_tick S t).2 x') m d' ∧ CR (sp_tick S t).2 x' d' ∧ KX x x')) 0 0 27 [(0, .ref 1), (1, .long t), (3, .int (nI i))] [] (HP (cfun (tkj (uL (uN S 0 0) 3 t) (i)) x) m d) := by
  intro m'
  induction m' with
  | zero =>
    intro i d hi
    obtain ⟨hi, C⟩ := hi
    obtain rfl : i = 10 := by omega
    rw [tkj_all (D := (uL (uN S 0 0) 3 t)) (show sN S 20 ≤ 10 from Y.1)] at C ⊢
    refine z_iload_n F dX5_tick_27 rfl ?_
    refine z_aload_n F dX5_tick_28 rfl rfl ?_
    refine z_getf F vF_X5_21 dX5_tick_29 cO_at rfl ?_
    refine z_alen (v := nI 10) F dX5_tick_32 cA_2 rfl rfl ?_
    refine z_icmp_ge (tgt := 60) F dX5_tick_33 (by decide) (fun c33 => ?_) (fun c33 => absurd (nI_le (a := 10) (b := 10) (by omega) (by omega)) c33)
    refine z_aload_n F dX5_tick_60 rfl rfl ?_
    refine z_getf F vF_X5_35 dX5_tick_61 cO_at rfl ?_
    refine z_iconst (v := 1) F dX5_tick_64 rfl ?_
    refine z_icmp_eq (tgt := 81) F dX5_tick_65 (by decide) (fun c65 => ?_) (fun c65 => ?_)
    · have hO : tkO S t = false := by unfold tkO; rw [show sN S 1 = 1 from (nI_eq (a := sN S 1) (b := 1) (by have := V.1; omega) (by decide)).mp c65]; rfl
      have hs : sp_tick S t = (0, tkS (uL (uN S 0 0) 3 t) (sN S 20)) := by rw [hok, show tk1 S t = (uL (uN S 0 0) 3 t) from if_neg (by rw [hO]; decide), hO]; rfl
      refine z_iconst (v := 0) F dX5_tick_81 rfl ?_
      exact z_iret F hr dX5_tick_82 rfl (Nat.le_of_ble_eq_true rfl) (Nat.le_of_ble_eq_true rfl) (⟨by rw [hs], x, d, by rw [hs]; try rfl, by rw [hs]; exact C, rfl, rfl, rfl⟩)
    · have h1 : ¬ sN S 1 = 1 := fun e => c65 (by rw [show sN (tkS (uL (uN S 0 0) 3 t) (sN (uL (uN S 0 0) 3 t) 20)) 1 = sN S 1 from rfl, e]; rfl)
      refine z_lload_n F dX5_tick_68 rfl ?_
      refine z_aload_n F dX5_tick_69 rfl rfl ?_
      refine z_getf F vF_X5_48 dX5_tick_70 cO_at rfl ?_
      rw [hx]
      refine z_lsub F dX5_tick_73 ?_
      refine z_ldc2 F vK_X5_156 dX5_tick_74 ?_
      refine z_lcmp F dX5_tick_77 ?_
      refine z_if_ge (tgt := 83) F dX5_tick_78 (by decide) (fun c78 => ?_) (fun c78 => ?_)
      · have hO : tkO S t = true := by unfold tkO; rw [decide_eq_true h1, decide_eq_true ((lg_cmp_ge _ _).mp c78)]; rfl
        have hs : sp_tick S t = (1, endS (tkS (uL (uN S 0 0) 3 t) (sN S 20)) 1) := by rw [hok, show tk1 S t = endS (uL (uN S 0 0) 3 t) 1 from if_pos hO, hO, tk_end]; rfl
        refine z_aload_n F dX5_tick_83 rfl rfl ?_
        refine z_iconst (v := 1) F dX5_tick_84 rfl ?_
        refine z_callV F z_nwOK wL_good (c_X5_endSession (f := 1) C W.1) cO_at rfl vI_X5_endSession vM_X5_158 vV_X5_endSession vL_X5_endSession rfl dX5_tick_85 rfl rfl (Nat.le_of_ble_eq_true rfl) ⟨(Nat.le_of_ble_eq_true rfl), (Nat.le_of_ble_eq_true rfl), (Nat.le_of_ble_eq_true rfl), (Nat.le_of_ble_eq_true rfl)⟩ (fun v h1 hq => ?_)
        obtain ⟨rfl, d1, rfl, C1⟩ := hq
        refine z_iconst (v := 1) F dX5_tick_88 rfl ?_
        exact z_iret F hr dX5_tick_89 rfl (Nat.le_of_ble_eq_true rfl) (Nat.le_of_ble_eq_true rfl) (⟨by rw [hs], wt x (0, (xt x).2.1, (xt x).2.2), d1, by rw [hs]; rfl, by rw [hs]; exact C1, rfl, rfl, rfl⟩)
      · have hO : tkO S t = false := by unfold tkO; rw [decide_eq_false (fun e => c78 ((lg_cmp_ge _ _).mpr e))]; simp
        have hs : sp_tick S t = (0, tkS (uL (uN S 0 0) 3 t) (sN S 20)) := by rw [hok, show tk1 S t = (uL (uN S 0 0) 3 t) from if_neg (by rw [hO]; decide), hO]; rfl
        refine z_iconst (v := 0) F dX5_tick_81 rfl ?_
        exact z_iret F hr dX5_tick_82 rfl (Nat.le_of_ble_eq_true rfl) (Nat.le_of_ble_eq_true rfl) (⟨by rw [hs], x, d, by rw [hs]; try rfl, by rw [hs]; exact C, rfl, rfl, rfl⟩)
  | succ m' ih =>
    intro i d hi
    obtain ⟨hi, C⟩ := hi
    refine z_iload_n F dX5_tick_27 rfl ?_
    refine z_aload_n F dX5_tick_28 rfl rfl ?_
    refine z_getf F vF_X5_21 dX5_tick_29 cO_at rfl ?_
    refine z_alen (v := nI 10) F dX5_tick_32 cA_2 rfl rfl ?_
    refine z_icmp_ge (tgt := 60) F dX5_tick_33 (by decide) (fun c33 => absurd c33 (nI_ge (a := i) (b := 10) (by omega) (by decide))) (fun c33 => ?_)
    refine z_aload_n F dX5_tick_36 rfl rfl ?_
    refine z_getf F vF_X5_21 dX5_tick_37 cO_at rfl ?_
    refine z_iload_n F dX5_tick_40 rfl ?_
    refine z_aald (j := i) F dX5_tick_41 cA_2 rfl rfl (show i < 10 by omega) (Nat.le_of_ble_eq_true rfl) ?_
    by_cases hin : i < sN S 20
    · rw [show rfs (xr x) (sN (tkj (uL (uN S 0 0) 3 t) (i)) 20) i = _ from rfs_in hin]
      have hc := HPd (c := cfun (tkj (uL (uN S 0 0) 3 t) i) x) (m := m) (C.2.2.1 i hin)
      have hl : sAN S 24 i ≤ 100 := Y.2.2.1 i
      refine z_astore F dX5_tick_42 rfl (Nat.le_of_ble_eq_true rfl) ?_
      refine z_aload F dX5_tick_44 rfl rfl ?_
      refine z_ifnull (tgt := 54) F dX5_tick_46 (by decide) rfl (fun c46 => absurd c46 (by intro q; cases q)) (fun c46 => ?_)
      refine z_aload F dX5_tick_49 rfl rfl ?_
      refine z_callV F z_nwOK wL_good (c_X3_step hc (by rw [tkj_at (D := (uL (uN S 0 0) 3 t)) hin]; show sAN S 24 i < 1000; omega)) hc rfl vI_X3_step vM_X5_153 vV_X3_step vL_X3_step rfl dX5_tick_51 rfl rfl (Nat.le_of_ble_eq_true rfl) ⟨(Nat.le_of_ble_eq_true rfl), (Nat.le_of_ble_eq_true rfl), (Nat.le_of_ble_eq_true rfl), (Nat.le_of_ble_eq_true rfl)⟩ (fun v h1 hq => ?_)
      obtain ⟨rfl, rfl⟩ := hq
      refine z_heap _ (tk_cell (D := (uL (uN S 0 0) 3 t)) hin) ?_
      refine z_iinc (w := 1) F dX5_tick_54 rfl rfl (Nat.le_of_ble_eq_true rfl) ?_
      rw [nI_1]
      refine z_goto (tgt := 27) F dX5_tick_57 (by decide) ?_
      refine z_pick [0, 1, 2] rfl ?_
      exact ih (i + 1) _ ⟨by omega, CR_tkj (D := (uL (uN S 0 0) 3 t)) C hin⟩
    · rw [show rfs (xr x) (sN (tkj (uL (uN S 0 0) 3 t) (i)) 20) i = _ from rfs_out hin]
      refine z_astore F dX5_tick_42 rfl (Nat.le_of_ble_eq_true rfl) ?_
      refine z_aload F dX5_tick_44 rfl rfl ?_
      refine z_ifnull (tgt := 54) F dX5_tick_46 (by decide) rfl (fun c46 => ?_) (fun c46 => absurd rfl c46)
      refine z_iinc (w := 1) F dX5_tick_54 rfl rfl (Nat.le_of_ble_eq_true rfl) ?_
      rw [nI_1]
      refine z_goto (tgt := 27) F dX5_tick_57 (by decide) ?_
      refine z_pick [0, 1, 2] rfl ?_
      rw [tkj_out (D := (uL (uN S 0 0) 3 t)) hin] at C ⊢
      exact ih (i + 1) d ⟨by omega, C⟩

set_option maxRecDepth 100000 in
set_option maxHeartbeats 1000000 in
theorem c_X5_tick {S : z_S} {x : z_Xc} {m : Nat → z_E} {d : z_H} {t : Int64} (C : CR S x d) (hx : xl x = sL S 4) (W : idsOK S) (V : numsOK S) (Y : rtsOK S) : z_K yX5_tick cX5_tick 5 (some .int) 2 0 0 [.ref 1, .long t] (HP (cfun S x) m d) (fun v h' => v = some (.int (sp_tick S t).1) ∧ ∃ (x' : z_Xc) (d' : z_H), h' = HP (cfun (sp_tick S t).2 x') m d' ∧ CR (sp_tick S t).2 x' d' ∧ KX x x') := by
  refine z_met vI_X5_tick (Nat.le_of_ble_eq_true rfl) (fun G X F hr hnm => ?_)
  refine z_lload_n F dX5_tick_0 rfl ?_
  refine z_aload_n F dX5_tick_1 rfl rfl ?_
  refine z_getf F vF_X5_44 dX5_tick_2 cO_at rfl ?_
  refine z_lcmp F dX5_tick_5 ?_
  refine z_if_lt (tgt := 17) F dX5_tick_6 (by decide) (fun c6 => ?_) (fun c6 => ?_)
  · have hs : sp_tick S t = (-2, uN S 0 0) := if_pos (Or.inl ((lg_cmp_lt _ _).mp c6))
    refine z_bipush (v := (-2)) F dX5_tick_17 rfl ?_
    exact z_iret F hr dX5_tick_19 rfl (Nat.le_of_ble_eq_true rfl) (Nat.le_of_ble_eq_true rfl) (⟨by rw [hs]; try rfl, x, d, by rw [hs]; try rfl, by rw [hs]; exact C, rfl, rfl, rfl⟩)
  · refine z_lload_n F dX5_tick_9 rfl ?_
    refine z_ldc2 F vK_X5_151 dX5_tick_10 ?_
    refine z_lcmp F dX5_tick_13 ?_
    refine z_if_le (tgt := 20) F dX5_tick_14 (by decide) (fun c14 => ?_) (fun c14 => ?_)
    · have hok : sp_tick S t = (z_b (tkO S t), tkS (tk1 S t) (sN S 20)) := if_neg (fun e => e.elim (fun q => c6 ((lg_cmp_lt _ _).mpr q)) (fun q => absurd ((lg_cmp_le _ _).mp c14) (by simp only [Int64.le_iff_toInt_le, Int64.lt_iff_toInt_lt] at q ⊢; omega)))
      refine z_aload_n F dX5_tick_20 rfl rfl ?_
      refine z_lload_n F dX5_tick_21 rfl ?_
      refine z_putf F vF_X5_44 vT_X5 vD_X5_9 dX5_tick_22 cO_at (Nat.le_of_ble_eq_true rfl) rfl rfl (fun g22 => ?_)
      refine z_heap _ (cs_9) ?_
      refine z_iconst (v := 0) F dX5_tick_25 rfl ?_
      refine z_istore_n F dX5_tick_26 (Nat.le_of_ble_eq_true rfl) ?_
      have C2 : CR (tkj (uL (uN S 0 0) 3 t) 0) x d := by rw [tkj_0]; exact C
      refine z_heap (HP (cfun (tkj (uL (uN S 0 0) 3 t) 0) x) m d) (by rw [tkj_0]; rfl) ?_
      exact l_X5_tick hx W V Y hok F hr 10 0 d ⟨by omega, C2⟩
    · have hs : sp_tick S t = (-2, uN S 0 0) := if_pos (Or.inr (by have h9 := mt (lg_cmp_le _ _).mpr c14; simp only [Int64.le_iff_toInt_le, Int64.lt_iff_toInt_lt] at h9 ⊢; exact Int.not_le.mp h9))
      refine z_bipush (v := (-2)) F dX5_tick_17 rfl ?_
      exact z_iret F hr dX5_tick_19 rfl (Nat.le_of_ble_eq_true rfl) (Nat.le_of_ble_eq_true rfl) (⟨by rw [hs]; try rfl, x, d, by rw [hs]; try rfl, by rw [hs]; exact C, rfl, rfl, rfl⟩)

theorem HPlen {c m : Nat → z_E} {d : z_H} : (HP c m d).length = d.length + 32 := rfl
theorem set_last {d : z_H} {e e2 : z_E} : (d ++ [e]).set d.length e2 = d ++ [e2] := by
  rw [List.set_append_right _ _ (Nat.le_refl _), Nat.sub_self]
  rfl
theorem at_lt {d : z_H} {k : Nat} {e : z_E} (h : d[k]? = some e) : k < d.length := (List.getElem?_eq_some_iff.mp h).1
theorem CR_push {S : z_S} {x : z_Xc} {d : z_H} (C : CR S x d) (e : z_E) : CR S x (d ++ [e]) :=
  ⟨⟨fun k hk => z_pa (C.1.1 k hk), C.1.2⟩, fun k hk ht => ⟨z_pa (C.2.1 k hk ht).1, z_pa (C.2.1 k hk ht).2.1, (C.2.1 k hk ht).2.2⟩, fun k hk => z_pa (C.2.2.1 k hk), C.2.2.2⟩
/-- beyond the identifiers and routines there is nothing -/
def DF (S : z_S) : Prop := (∀ k, sN S 8 ≤ k → sAB S 14 k = false ∧ sAB S 16 k = false ∧ sAB S 17 k = false ∧ sAL S 13 k = 0) ∧ ∀ k, sN S 20 ≤ k → sAB S 23 k = false ∧ sAN S 24 k = 0 ∧ sAN S 25 k = 0
def rtA (S : z_S) (id : Int32) (n : Nat) : z_S := uN (uAN (uAI (uN S 0 0) 21 (va_up (sAI S 21) (sN S 20) id)) 22 (va_up (sAN S 22) (sN S 20) n)) 20 (sN S 20 + 1)
theorem CR_rtA {S : z_S} {x : z_Xc} {d : z_H} (C : CR S x d) (B : DF S) (id : Int32) (n : Nat) : CR (rtA S id n) (wr x (va_up (xr x) (sN S 20) d.length)) (d ++ [R_o id n false 0 0]) := by
  have P := CR_push C (R_o id n false 0 0)
  have hlt : ∀ k, k < sN S 20 → xr x k < d.length := fun k hk => at_lt (C.2.2.1 k hk)
  refine ⟨P.1, P.2.1, fun k hk => ?_, ⟨P.2.2.2.1.1, P.2.2.2.1.2.1, P.2.2.2.1.2.2.1, fun j k hj hk he => ?_⟩, P.2.2.2.2⟩
  · have hk : k < sN S 20 + 1 := hk
    show (d ++ [R_o id n false 0 0])[va_up (xr x) (sN S 20) d.length k]? = some (RO (rtA S id n) k)
    by_cases h : k = sN S 20
    · subst h
      obtain ⟨b1, b2, b3⟩ := B.2 (sN S 20) (Nat.le_refl _)
      rw [va_up_self]
      unfold RO
      rw [show sAI (rtA S id n) 21 (sN S 20) = id from va_up_self _ _ _, show sAN (rtA S id n) 22 (sN S 20) = n from va_up_self _ _ _, show sAB (rtA S id n) 23 (sN S 20) = false from b1, show sAN (rtA S id n) 24 (sN S 20) = 0 from b2, show sAN (rtA S id n) 25 (sN S 20) = 0 from b3]
      exact z_pl
    · rw [va_up_ne _ _ h]
      unfold RO
      rw [show sAI (rtA S id n) 21 k = sAI S 21 k from va_up_ne _ _ h, show sAN (rtA S id n) 22 k = sAN S 22 k from va_up_ne _ _ h]
      exact P.2.2.1 k (show k < sN S 20 by omega)
  · have hj : j < sN S 20 + 1 := hj
    have hk : k < sN S 20 + 1 := hk
    have he : va_up (xr x) (sN S 20) d.length j = va_up (xr x) (sN S 20) d.length k := he
    by_cases h1 : j = sN S 20
    · by_cases h2 : k = sN S 20
      · omega
      · rw [h1, va_up_self, va_up_ne _ _ h2] at he
        have := hlt k (by omega)
        omega
    · by_cases h2 : k = sN S 20
      · rw [h2, va_up_self, va_up_ne _ _ h1] at he
        have := hlt j (by omega)
        omega
      · rw [va_up_ne _ _ h1, va_up_ne _ _ h2] at he
        exact C.2.2.2.1.2.2.2 j k (by omega) (by omega) he
theorem rt_heap {S : z_S} {x : z_Xc} {m : Nat → z_E} {d : z_H} {id : Int32} {n u : Nat} : ((HP (cfun S x) m d).set 3 (.inl (5, 10, .inr (.inr (.inr (.inr (va_up (rfs (xr x) (sN S 20)) (sN S 20) (some (u + 32))))))))).set 1 (.inr (6, (cO S x).set 3 (.int (nI (sN S 20 + 1))))) = HP (cfun (rtA S id n) (wr x (va_up (xr x) (sN S 20) u))) m d := by
  rw [rfs_up]
  rfl

set_option maxRecDepth 100000 in
set_option maxHeartbeats 1000000 in
theorem c_X5_routine {S : z_S} {x : z_Xc} {m : Nat → z_E} {d : z_H} {id y : Int32} (C : CR S x d) (B : DF S) (Y : rtsOK S) : z_K yX5_routine cX5_routine 3 (some .int) 2 1 5 [.ref 1, .int id, .int y] (HP (cfun S x) m d) (fun v h' => v = some (.int (sp_routine S id y).1) ∧ ∃ (x' : z_Xc) (d' : z_H), h' = HP (cfun (sp_routine S id y).2 x') m d' ∧ CR (sp_routine S id y).2 x' d' ∧ KX x x') := by
  refine z_met vI_X5_routine (Nat.le_of_ble_eq_true rfl) (fun G X F hr hnm => ?_)
  refine z_iload_n F dX5_routine_0 rfl ?_
  refine z_iconst (v := 0) F dX5_routine_1 rfl ?_
  refine z_ldc F vK_X5_78 dX5_routine_2 ?_
  refine z_callS F z_nwOK wL_good (c_within (A := 0) (B := 65535) id 0 65535 rfl rfl) vI_X5_isWithin vM_X5_79 vS_X5_isWithin rfl dX5_routine_4 rfl rfl (Nat.le_of_ble_eq_true rfl) ⟨(Nat.le_of_ble_eq_true rfl), (Nat.le_of_ble_eq_true rfl), (Nat.le_of_ble_eq_true rfl), (Nat.le_of_ble_eq_true rfl)⟩ (fun v h1 hq => ?_)
  obtain ⟨rfl, rfl⟩ := hq
  refine z_if_eq (tgt := 20) F dX5_routine_7 (by decide) (fun c7 => ?_) (fun c7 => ?_)
  · have hA : (inZ id.toInt 0 65535 && inZ y.toInt 0 100) = false := by rw [z_b0.mp c7]; rfl
    have hs : sp_routine S id y = (-2, uN S 0 0) := if_neg (by rw [hA]; decide)
    refine z_bipush (v := (-2)) F dX5_routine_20 rfl ?_
    exact z_iret F hr dX5_routine_22 rfl (Nat.le_of_ble_eq_true rfl) (Nat.le_of_ble_eq_true rfl) (⟨by rw [hs]; try rfl, x, d, by rw [hs]; try rfl, by rw [hs]; exact C, rfl, rfl, rfl⟩)
  · refine z_iload_n F dX5_routine_10 rfl ?_
    refine z_iconst (v := 0) F dX5_routine_11 rfl ?_
    refine z_bipush (v := 100) F dX5_routine_12 rfl ?_
    refine z_callS F z_nwOK wL_good (c_within (A := 0) (B := 100) y 0 100 rfl rfl) vI_X5_isWithin vM_X5_79 vS_X5_isWithin rfl dX5_routine_14 rfl rfl (Nat.le_of_ble_eq_true rfl) ⟨(Nat.le_of_ble_eq_true rfl), (Nat.le_of_ble_eq_true rfl), (Nat.le_of_ble_eq_true rfl), (Nat.le_of_ble_eq_true rfl)⟩ (fun v h1 hq => ?_)
    obtain ⟨rfl, rfl⟩ := hq
    refine z_if_ne (tgt := 23) F dX5_routine_17 (by decide) (fun c17 => ?_) (fun c17 => ?_)
    · have hA : (inZ id.toInt 0 65535 && inZ y.toInt 0 100) = true := by rw [z_b1 c7, z_b1 c17]; rfl
      have hy := (inZ_nI (by decide) (z_b1 c17)).1
      have y1 := Y.1
      refine z_aload_n F dX5_routine_23 rfl rfl ?_
      refine z_iload_n F dX5_routine_24 rfl ?_
      refine z_callV F z_nwOK wL_good (c_X5_findRoutine (y := id) C.2.2.1 Y.1) cO_at rfl vI_X5_findRoutine vM_X5_108 vV_X5_findRoutine vL_X5_findRoutine rfl dX5_routine_25 rfl rfl (Nat.le_of_ble_eq_true rfl) ⟨(Nat.le_of_ble_eq_true rfl), (Nat.le_of_ble_eq_true rfl), (Nat.le_of_ble_eq_true rfl), (Nat.le_of_ble_eq_true rfl)⟩ (fun v h1 hq => ?_)
      obtain ⟨rfl, rfl⟩ := hq
      cases hf : fnd (sAI S 21) id (sN S 20) with
      | none =>
        have hs0 : sp_routine S id y = if sN S 20 = 10 then (-4, uN S 0 0) else (nI (sN S 20 + 1), rtA S id (tn y)) := by unfold sp_routine; rw [if_pos hA, hf]; rfl
        refine z_ifnull (tgt := 34) F dX5_routine_28 (by decide) rfl (fun c28 => ?_) (fun c28 => absurd rfl c28)
        refine z_aload_n F dX5_routine_34 rfl rfl ?_
        refine z_getf F vF_X5_25 dX5_routine_35 cO_at rfl ?_
        refine z_aload_n F dX5_routine_38 rfl rfl ?_
        refine z_getf F vF_X5_21 dX5_routine_39 cO_at rfl ?_
        refine z_alen (v := nI 10) F dX5_routine_42 cA_2 rfl rfl ?_
        refine z_icmp_lt (tgt := 49) F dX5_routine_43 (by decide) (fun c43 => ?_) (fun c43 => ?_)
        · have hz : sN S 20 < 10 := (nI_ltI (a := sN S 20) (b := 10) (by omega) (by decide)).mp c43
          have hs : sp_routine S id y = (nI (sN S 20 + 1), rtA S id (tn y)) := by rw [hs0, if_neg (by omega)]
          refine z_aload_n F dX5_routine_49 rfl rfl ?_
          refine z_getf F vF_X5_21 dX5_routine_50 cO_at rfl ?_
          refine z_aload_n F dX5_routine_53 rfl rfl ?_
          refine z_getf F vF_X5_25 dX5_routine_54 cO_at rfl ?_
          refine z_new F vN_X5_19 dX5_routine_57 (Nat.le_of_ble_eq_true rfl) (Nat.le_of_ble_eq_true rfl) ?_
          rw [HPlen]
          refine z_heap _ HPa ?_
          refine z_dup F dX5_routine_60 rfl ?_
          refine z_iload_n F dX5_routine_61 rfl ?_
          refine z_iload_n F dX5_routine_62 rfl ?_
          refine z_topi (nI (tn y)) hy ?_
          refine z_callI F z_nwOK wL_good (c_X3_init (r := d.length + 32) (s := tn y) (id := id) (HPd (d := d ++ [(.inr (4, [.int 0, .int 0, .int 0, .int 0, .int 0]) : z_E)]) z_pl)) vI_X3_init vM_X5_112 vV_X3_init rfl rfl dX5_routine_63 rfl rfl (Nat.le_of_ble_eq_true rfl) ⟨(Nat.le_of_ble_eq_true rfl), (Nat.le_of_ble_eq_true rfl), (Nat.le_of_ble_eq_true rfl), (Nat.le_of_ble_eq_true rfl)⟩ (fun v h1 hq => ?_)
          obtain ⟨rfl, rfl⟩ := hq
          rw [HPs, set_last]
          refine z_aast F dX5_routine_66 cA_2 (HPd z_pl) rfl rfl rfl (show sN S 20 < 10 from hz) (Nat.le_of_ble_eq_true rfl) ?_
          refine z_aload_n F dX5_routine_67 rfl rfl ?_
          refine z_dup F dX5_routine_68 rfl ?_
          refine z_getf F vF_X5_25 dX5_routine_69 (show _ = some (Sum.inr (6, cO S x)) from rfl) rfl ?_
          refine z_iconst (v := 1) F dX5_routine_72 rfl ?_
          refine z_iadd F dX5_routine_73 ?_
          rw [nI_1]
          refine z_putf F vF_X5_25 vT_X5 vD_X5_3 dX5_routine_74 (show _ = some (Sum.inr (6, cO S x)) from rfl) (Nat.le_of_ble_eq_true rfl) rfl rfl (fun g74 => ?_)
          refine z_heap _ (rt_heap (id := id) (n := tn y)) ?_
          refine z_aload_n F dX5_routine_77 rfl rfl ?_
          refine z_getf F vF_X5_25 dX5_routine_78 cO_at rfl ?_
          exact z_iret F hr dX5_routine_81 rfl (Nat.le_of_ble_eq_true rfl) (Nat.le_of_ble_eq_true rfl) (⟨by rw [hs]; try rfl, wr x (va_up (xr x) (sN S 20) d.length), d ++ [R_o id (tn y) false 0 0], by rw [hs], by rw [hs]; exact CR_rtA C B id (tn y), rfl, rfl, rfl⟩)
        · have hz : sN S 20 = 10 := by have h9 := mt (nI_ltI (a := sN S 20) (b := 10) (by omega) (by decide)).mpr c43; omega
          have hs : sp_routine S id y = (-4, uN S 0 0) := by rw [hs0, if_pos hz]
          refine z_bipush (v := (-4)) F dX5_routine_46 rfl ?_
          exact z_iret F hr dX5_routine_48 rfl (Nat.le_of_ble_eq_true rfl) (Nat.le_of_ble_eq_true rfl) (⟨by rw [hs]; try rfl, x, d, by rw [hs]; try rfl, by rw [hs]; exact C, rfl, rfl, rfl⟩)
      | some k =>
        have hs : sp_routine S id y = (-3, uN S 0 0) := by unfold sp_routine; rw [if_pos hA, hf]
        refine z_ifnull (tgt := 34) F dX5_routine_28 (by decide) rfl (fun c28 => absurd c28 (by intro q; cases q)) (fun c28 => ?_)
        refine z_bipush (v := (-3)) F dX5_routine_31 rfl ?_
        exact z_iret F hr dX5_routine_33 rfl (Nat.le_of_ble_eq_true rfl) (Nat.le_of_ble_eq_true rfl) (⟨by rw [hs]; try rfl, x, d, by rw [hs]; try rfl, by rw [hs]; exact C, rfl, rfl, rfl⟩)
    · have hA : (inZ id.toInt 0 65535 && inZ y.toInt 0 100) = false := by rw [z_b0.mp c17]; simp
      have hs : sp_routine S id y = (-2, uN S 0 0) := if_neg (by rw [hA]; decide)
      refine z_bipush (v := (-2)) F dX5_routine_20 rfl ?_
      exact z_iret F hr dX5_routine_22 rfl (Nat.le_of_ble_eq_true rfl) (Nat.le_of_ble_eq_true rfl) (⟨by rw [hs]; try rfl, x, d, by rw [hs]; try rfl, by rw [hs]; exact C, rfl, rfl, rfl⟩)
