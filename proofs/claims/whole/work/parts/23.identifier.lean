/-! octets of a value -/
def octV (v : Int64) (s : Nat) : Nat := v.toBitVec.toNat / 2 ^ s % 256
theorem octV_lt (v : Int64) (s : Nat) : octV v s < 256 := Nat.mod_lt _ (by decide)
theorem z_lo8 (x : Int64) : x.toInt32 &&& 255 = nI (x.toBitVec.toNat % 256) := by
  rw [pk_and x.toInt32 8 (by decide)]
  congr 1
  rw [Int64.toBitVec_toInt32, BitVec.signExtend_eq_setWidth_of_le _ (by decide), BitVec.toNat_setWidth]
  omega
theorem z_cnt : ∀ k, k < 64 → ((nI k).toInt64.toUInt64 &&& Int64.toUInt64 63) = UInt64.ofNat k := by decide +kernel
theorem z_cnt2 : ∀ k, k < 64 → ((nI k).toInt64 &&& 63).toBitVec.smod 64 = BitVec.ofNat 64 k := by decide +kernel
theorem z_ushr8 (v : Int64) {s : Nat} (hs : s < 64) : (v.toUInt64 >>> ((nI s).toInt64.toUInt64 &&& Int64.toUInt64 63)).toInt64.toInt32 &&& 255 = nI (octV v s) := by
  rw [z_lo8, z_cnt s hs]
  congr 1
  show (v.toUInt64 >>> UInt64.ofNat s).toNat % 256 = _
  have h1 : (UInt64.ofNat s).toNat = s := by
    show (BitVec.ofNat 64 s).toNat = s
    rw [BitVec.toNat_ofNat, Nat.mod_eq_of_lt (by omega)]
  rw [UInt64.toNat_shiftRight, h1, Nat.mod_eq_of_lt hs, Nat.shiftRight_eq_div_pow]
  rfl
theorem z_sar (V : BitVec 64) (s : Nat) (hs : s ≤ 56) : (V.sshiftRight s).toNat % 2 ^ 8 = V.toNat / 2 ^ s % 2 ^ 8 := by
  apply Nat.eq_of_testBit_eq
  intro i
  rw [Nat.testBit_mod_two_pow, Nat.testBit_mod_two_pow, Nat.testBit_div_two_pow]
  by_cases hi : i < 8
  · simp only [hi, decide_true, Bool.true_and]
    rw [BitVec.testBit_toNat, BitVec.getLsbD_sshiftRight, BitVec.testBit_toNat]
    have h1 : ¬ 64 ≤ i := by omega
    have h2 : s + i < 64 := by omega
    simp [h1, h2, Nat.add_comm]
  · simp [hi]
theorem z_shr8 (v : Int64) {s : Nat} (hs : s ≤ 56) : (v >>> ((nI s).toInt64 &&& 63)).toInt32 &&& 255 = nI (octV v s) := by
  rw [z_lo8]
  congr 1
  show (BitVec.sshiftRight v.toBitVec (((nI s).toInt64 &&& 63).toBitVec.smod 64).toNat).toNat % 2 ^ 8 = _
  rw [z_cnt2 s (by omega), BitVec.toNat_ofNat, Nat.mod_eq_of_lt (show s < 2 ^ 64 by omega), z_sar _ _ hs]
  rfl
theorem z_sh {len p : Nat} (hp : p < len) : (8 : Int32) * (nI len - 1 - nI p) = nI (8 * (len - 1 - p)) := by
  rw [show nI len - 1 = nI (len - 1) from pk_sub (b := 1) (by omega), pk_sub (by omega)]
  exact pk_mul 8 _
/-! Identifier -/
abbrev I_o (id : Int32) (ses lev : Nat) (tog : Bool) (len : Nat) (mbw : Bool) (own : Int64) (hd : Bool) (hv : Int64) (src plc : Nat) : z_E := .inr (2, [.int id, .int (nI ses), .int (nI lev), .int (z_b tog), .int (nI len), .int (z_b mbw), .long own, .int (z_b hd), .long hv, .ref src, .ref plc])
theorem z_spush {h : z_H} {a : Nat} {c e x : z_E} (ha : h[a]? = some x) : h.set a c ++ [e] = (h ++ [e]).set a c := (List.set_append_left _ _ (List.getElem?_eq_some_iff.mp ha).1).symm

set_option maxRecDepth 100000 in
set_option maxHeartbeats 1000000 in
theorem c_X1_init_n {h : z_H} {a len ses lev : Nat} {id : Int32} (ha : h[a]? = some (.inr (2, [.int 0, .int 0, .int 0, .int 0, .int 0, .int 0, .long 0, .int 0, .long 0, .null, .null]))) : z_K yX1_init cX1_init 6 none 1 2 0 [.ref a, .int id, .int (nI len), .int (nI ses), .int (nI lev), .int (z_b false)] h (fun v h' => v = none ∧ h' = (h ++ [(.inl (4, 0, .inr (.inr (.inr (.inr (fun _ => none))))) : z_E)] ++ [(.inl (0, 0, .inl (fun _ => 0)) : z_E)]).set a (I_o id ses lev false len true 0 false 0 h.length (h.length + 1))) := by
  refine z_met vI_X1_init (Nat.le_of_ble_eq_true rfl) (fun G X F hr hnm => ?_)
  refine z_aload_n F dX1_init_0 rfl rfl ?_
  refine z_objInit F vM_X1_3 vO_i vO_c dX1_init_1 (Nat.le_of_ble_eq_true rfl) (Nat.le_of_ble_eq_true rfl) ?_
  refine z_aload_n F dX1_init_4 rfl rfl ?_
  refine z_iconst (v := 1) F dX1_init_5 rfl ?_
  refine z_putf F vF_X1_9 vT_X1 vD_X1_5 dX1_init_6 ha (Nat.le_of_ble_eq_true rfl) rfl rfl (fun g6 => ?_)
  refine z_aload_n F dX1_init_9 rfl rfl ?_
  refine z_lconst (v := 0) F dX1_init_10 rfl ?_
  refine z_putf F vF_X1_15 vT_X1 vD_X1_6 dX1_init_11 g6 (Nat.le_of_ble_eq_true rfl) rfl rfl (fun g11 => ?_)
  refine z_aload_n F dX1_init_14 rfl rfl ?_
  refine z_iconst (v := 0) F dX1_init_15 rfl ?_
  refine z_putf F vF_X1_19 vT_X1 vD_X1_7 dX1_init_16 g11 (Nat.le_of_ble_eq_true rfl) rfl rfl (fun g16 => ?_)
  refine z_aload_n F dX1_init_19 rfl rfl ?_
  refine z_lconst (v := 0) F dX1_init_20 rfl ?_
  refine z_putf F vF_X1_22 vT_X1 vD_X1_8 dX1_init_21 g16 (Nat.le_of_ble_eq_true rfl) rfl rfl (fun g21 => ?_)
  refine z_aload_n F dX1_init_24 rfl rfl ?_
  refine z_iload_n F dX1_init_25 rfl ?_
  refine z_putF F vF_X1_25 vT_X1 vD_X1_0 ⟨_, rfl, rfl⟩ hnm dX1_init_26 g21 (Nat.le_of_ble_eq_true rfl) rfl rfl (fun g26 => ?_)
  refine z_aload_n F dX1_init_29 rfl rfl ?_
  refine z_iload_n F dX1_init_30 rfl ?_
  refine z_putf F vF_X1_29 vT_X1 vD_X1_4 dX1_init_31 g26 (Nat.le_of_ble_eq_true rfl) rfl rfl (fun g31 => ?_)
  refine z_aload_n F dX1_init_34 rfl rfl ?_
  refine z_iload_n F dX1_init_35 rfl ?_
  refine z_putF F vF_X1_32 vT_X1 vD_X1_1 ⟨_, rfl, rfl⟩ hnm dX1_init_36 g31 (Nat.le_of_ble_eq_true rfl) rfl rfl (fun g36 => ?_)
  refine z_aload_n F dX1_init_39 rfl rfl ?_
  refine z_iload F dX1_init_40 rfl ?_
  refine z_putF F vF_X1_35 vT_X1 vD_X1_2 ⟨_, rfl, rfl⟩ hnm dX1_init_42 g36 (Nat.le_of_ble_eq_true rfl) rfl rfl (fun g42 => ?_)
  refine z_aload_n F dX1_init_45 rfl rfl ?_
  refine z_iload F dX1_init_46 rfl ?_
  refine z_putF F vF_X1_38 vT_X1 vD_X1_3 ⟨_, rfl, rfl⟩ hnm dX1_init_48 g42 (Nat.le_of_ble_eq_true rfl) (z_bnar false) (z_bfit false) (fun g48 => ?_)
  refine z_aload_n F dX1_init_51 rfl rfl ?_
  refine z_iload F dX1_init_52 rfl ?_
  refine z_if_eq (tgt := 62) F dX1_init_54 (by decide) (fun c54 => ?_) (fun c54 => absurd rfl c54)
  refine z_iconst (v := 0) F dX1_init_62 rfl ?_
  simp only [List.set_set] at g48 ⊢
  refine z_newq (N := 0) (t := 4) F vC_X1_10 F.nws.1 rfl (by decide) rfl (Nat.le_of_ble_eq_true rfl) dX1_init_63 (Nat.le_of_ble_eq_true rfl) (Nat.le_of_ble_eq_true rfl) ?_
  refine z_putF F vF_X1_41 vT_X1 vD_X1_9 ⟨_, rfl, rfl⟩ hnm dX1_init_66 (z_pa g48) (Nat.le_of_ble_eq_true rfl) rfl rfl (fun g66 => ?_)
  refine z_aload_n F dX1_init_69 rfl rfl ?_
  refine z_iload F dX1_init_70 rfl ?_
  refine z_if_eq (tgt := 80) F dX1_init_72 (by decide) (fun c72 => ?_) (fun c72 => absurd rfl c72)
  refine z_iconst (v := 0) F dX1_init_80 rfl ?_
  refine z_newa (atype := .int) (N := 0) (a0 := (0, (.inl (fun _ => 0)))) (t := 0) F vA_int rfl (fun _ _ => rfl) (by decide) rfl (Nat.le_of_ble_eq_true rfl) dX1_init_81 (Nat.le_of_ble_eq_true rfl) (Nat.le_of_ble_eq_true rfl) ?_
  refine z_putF F vF_X1_45 vT_X1 vD_X1_10 ⟨_, rfl, rfl⟩ hnm dX1_init_83 (z_pa g66) (Nat.le_of_ble_eq_true rfl) rfl rfl (fun g83 => ?_)
  exact z_vret F hr dX1_init_86 (Nat.le_of_ble_eq_true rfl) (Nat.le_of_ble_eq_true rfl) (⟨rfl, by simp only [List.set_set, z_spush ha, z_spush (z_pa ha), List.length_set, List.length_append]; rfl⟩)

set_option maxRecDepth 100000 in
set_option maxHeartbeats 1000000 in
theorem c_X1_init_y {h : z_H} {a len ses lev : Nat} {id : Int32} (ha : h[a]? = some (.inr (2, [.int 0, .int 0, .int 0, .int 0, .int 0, .int 0, .long 0, .int 0, .long 0, .null, .null]))) : z_K yX1_init cX1_init 6 none 1 2 16 [.ref a, .int id, .int (nI len), .int (nI ses), .int (nI lev), .int (z_b true)] h (fun v h' => v = none ∧ h' = (h ++ [(.inl (4, 8, .inr (.inr (.inr (.inr (fun _ => none))))) : z_E)] ++ [(.inl (0, 8, .inl (fun _ => 0)) : z_E)]).set a (I_o id ses lev true len true 0 false 0 h.length (h.length + 1))) := by
  refine z_met vI_X1_init (Nat.le_of_ble_eq_true rfl) (fun G X F hr hnm => ?_)
  refine z_aload_n F dX1_init_0 rfl rfl ?_
  refine z_objInit F vM_X1_3 vO_i vO_c dX1_init_1 (Nat.le_of_ble_eq_true rfl) (Nat.le_of_ble_eq_true rfl) ?_
  refine z_aload_n F dX1_init_4 rfl rfl ?_
  refine z_iconst (v := 1) F dX1_init_5 rfl ?_
  refine z_putf F vF_X1_9 vT_X1 vD_X1_5 dX1_init_6 ha (Nat.le_of_ble_eq_true rfl) rfl rfl (fun g6 => ?_)
  refine z_aload_n F dX1_init_9 rfl rfl ?_
  refine z_lconst (v := 0) F dX1_init_10 rfl ?_
  refine z_putf F vF_X1_15 vT_X1 vD_X1_6 dX1_init_11 g6 (Nat.le_of_ble_eq_true rfl) rfl rfl (fun g11 => ?_)
  refine z_aload_n F dX1_init_14 rfl rfl ?_
  refine z_iconst (v := 0) F dX1_init_15 rfl ?_
  refine z_putf F vF_X1_19 vT_X1 vD_X1_7 dX1_init_16 g11 (Nat.le_of_ble_eq_true rfl) rfl rfl (fun g16 => ?_)
  refine z_aload_n F dX1_init_19 rfl rfl ?_
  refine z_lconst (v := 0) F dX1_init_20 rfl ?_
  refine z_putf F vF_X1_22 vT_X1 vD_X1_8 dX1_init_21 g16 (Nat.le_of_ble_eq_true rfl) rfl rfl (fun g21 => ?_)
  refine z_aload_n F dX1_init_24 rfl rfl ?_
  refine z_iload_n F dX1_init_25 rfl ?_
  refine z_putF F vF_X1_25 vT_X1 vD_X1_0 ⟨_, rfl, rfl⟩ hnm dX1_init_26 g21 (Nat.le_of_ble_eq_true rfl) rfl rfl (fun g26 => ?_)
  refine z_aload_n F dX1_init_29 rfl rfl ?_
  refine z_iload_n F dX1_init_30 rfl ?_
  refine z_putf F vF_X1_29 vT_X1 vD_X1_4 dX1_init_31 g26 (Nat.le_of_ble_eq_true rfl) rfl rfl (fun g31 => ?_)
  refine z_aload_n F dX1_init_34 rfl rfl ?_
  refine z_iload_n F dX1_init_35 rfl ?_
  refine z_putF F vF_X1_32 vT_X1 vD_X1_1 ⟨_, rfl, rfl⟩ hnm dX1_init_36 g31 (Nat.le_of_ble_eq_true rfl) rfl rfl (fun g36 => ?_)
  refine z_aload_n F dX1_init_39 rfl rfl ?_
  refine z_iload F dX1_init_40 rfl ?_
  refine z_putF F vF_X1_35 vT_X1 vD_X1_2 ⟨_, rfl, rfl⟩ hnm dX1_init_42 g36 (Nat.le_of_ble_eq_true rfl) rfl rfl (fun g42 => ?_)
  refine z_aload_n F dX1_init_45 rfl rfl ?_
  refine z_iload F dX1_init_46 rfl ?_
  refine z_putF F vF_X1_38 vT_X1 vD_X1_3 ⟨_, rfl, rfl⟩ hnm dX1_init_48 g42 (Nat.le_of_ble_eq_true rfl) (z_bnar true) (z_bfit true) (fun g48 => ?_)
  refine z_aload_n F dX1_init_51 rfl rfl ?_
  refine z_iload F dX1_init_52 rfl ?_
  refine z_if_eq (tgt := 62) F dX1_init_54 (by decide) (fun c54 => absurd c54 (by decide)) (fun c54 => ?_)
  refine z_bipush (v := 8) F dX1_init_57 rfl ?_
  refine z_goto (tgt := 63) F dX1_init_59 (by decide) ?_
  simp only [List.set_set] at g48 ⊢
  refine z_newq (N := 8) (t := 4) F vC_X1_10 F.nws.1 rfl (by decide) rfl (Nat.le_of_ble_eq_true rfl) dX1_init_63 (Nat.le_of_ble_eq_true rfl) (Nat.le_of_ble_eq_true rfl) ?_
  refine z_putF F vF_X1_41 vT_X1 vD_X1_9 ⟨_, rfl, rfl⟩ hnm dX1_init_66 (z_pa g48) (Nat.le_of_ble_eq_true rfl) rfl rfl (fun g66 => ?_)
  refine z_aload_n F dX1_init_69 rfl rfl ?_
  refine z_iload F dX1_init_70 rfl ?_
  refine z_if_eq (tgt := 80) F dX1_init_72 (by decide) (fun c72 => absurd c72 (by decide)) (fun c72 => ?_)
  refine z_bipush (v := 8) F dX1_init_75 rfl ?_
  refine z_goto (tgt := 81) F dX1_init_77 (by decide) ?_
  refine z_newa (atype := .int) (N := 8) (a0 := (8, (.inl (fun _ => 0)))) (t := 0) F vA_int rfl (fun _ _ => rfl) (by decide) rfl (Nat.le_of_ble_eq_true rfl) dX1_init_81 (Nat.le_of_ble_eq_true rfl) (Nat.le_of_ble_eq_true rfl) ?_
  refine z_putF F vF_X1_45 vT_X1 vD_X1_10 ⟨_, rfl, rfl⟩ hnm dX1_init_83 (z_pa g66) (Nat.le_of_ble_eq_true rfl) rfl rfl (fun g83 => ?_)
  exact z_vret F hr dX1_init_86 (Nat.le_of_ble_eq_true rfl) (Nat.le_of_ble_eq_true rfl) (⟨rfl, by simp only [List.set_set, z_spush ha, z_spush (z_pa ha), List.length_set, List.length_append]; rfl⟩)

set_option maxRecDepth 100000 in
set_option maxHeartbeats 1000000 in
theorem c_X1_release {h : z_H} {i ses lev len src plc : Nat} {id : Int32} {tog mbw hd : Bool} {own hv : Int64} (hi : h[i]? = some (I_o id ses lev tog len mbw own hd hv src plc)) : z_K yX1_release cX1_release 1 none 0 0 0 [.ref i] h (fun v h' => v = none ∧ h' = h.set i (I_o id ses lev tog len mbw own false hv src plc)) := by
  refine z_met vI_X1_release (Nat.le_of_ble_eq_true rfl) (fun G X F hr hnm => ?_)
  refine z_aload_n F dX1_release_0 rfl rfl ?_
  refine z_iconst (v := 0) F dX1_release_1 rfl ?_
  refine z_putf F vF_X1_19 vT_X1 vD_X1_7 dX1_release_2 hi (Nat.le_of_ble_eq_true rfl) rfl rfl (fun g2 => ?_)
  exact z_vret F hr dX1_release_5 (Nat.le_of_ble_eq_true rfl) (Nat.le_of_ble_eq_true rfl) (⟨rfl, rfl⟩)

set_option maxRecDepth 100000 in
set_option maxHeartbeats 1000000 in
theorem c_X1_hold {h : z_H} {i ses lev len src plc : Nat} {id : Int32} {tog mbw hd : Bool} {own hv : Int64} (hi : h[i]? = some (I_o id ses lev tog len mbw own hd hv src plc)) (x : Int64) : z_K yX1_hold cX1_hold 3 none 0 0 0 [.ref i, .long x] h (fun v h' => v = none ∧ h' = h.set i (I_o id ses lev tog len mbw own true x src plc)) := by
  refine z_met vI_X1_hold (Nat.le_of_ble_eq_true rfl) (fun G X F hr hnm => ?_)
  refine z_aload_n F dX1_hold_0 rfl rfl ?_
  refine z_iconst (v := 1) F dX1_hold_1 rfl ?_
  refine z_putf F vF_X1_19 vT_X1 vD_X1_7 dX1_hold_2 hi (Nat.le_of_ble_eq_true rfl) rfl rfl (fun g2 => ?_)
  refine z_aload_n F dX1_hold_5 rfl rfl ?_
  refine z_lload_n F dX1_hold_6 rfl ?_
  refine z_putf F vF_X1_22 vT_X1 vD_X1_8 dX1_hold_7 g2 (Nat.le_of_ble_eq_true rfl) rfl rfl (fun g7 => ?_)
  exact z_vret F hr dX1_hold_10 (Nat.le_of_ble_eq_true rfl) (Nat.le_of_ble_eq_true rfl) (⟨rfl, by simp only [List.set_set]; rfl⟩)

set_option maxRecDepth 100000 in
set_option maxHeartbeats 1000000 in
theorem c_X1_ordinaryOctetAt {h : z_H} {i ses lev len src plc : Nat} {id : Int32} {tog mbw hd : Bool} {own hv : Int64} (hi : h[i]? = some (I_o id ses lev tog len mbw own hd hv src plc)) {p : Nat} (hp : p < len) (hl : len ≤ 8) : z_K yX1_ordinaryOctetAt cX1_ordinaryOctetAt 4 (some .int) 0 0 0 [.ref i, .int (nI p)] h (fun v h' => v = some (.int (nI (octV (if hd then hv else own) (8 * (len - 1 - p))))) ∧ h' = h) := by
  refine z_met vI_X1_ordinaryOctetAt (Nat.le_of_ble_eq_true rfl) (fun G X F hr hnm => ?_)
  refine z_aload_n F dX1_ordinaryOctetAt_0 rfl rfl ?_
  refine z_getf F vF_X1_19 dX1_ordinaryOctetAt_1 hi rfl ?_
  refine z_if_eq (tgt := 14) F dX1_ordinaryOctetAt_4 (by decide) (fun c4 => ?_) (fun c4 => ?_)
  · have hz : (if hd then hv else own) = own := by rw [z_b0.mp c4]; rfl
    refine z_aload_n F dX1_ordinaryOctetAt_14 rfl rfl ?_
    refine z_getf F vF_X1_15 dX1_ordinaryOctetAt_15 hi rfl ?_
    refine z_lstore_n F dX1_ordinaryOctetAt_18 (Nat.le_of_ble_eq_true rfl) ?_
    refine z_lload_n F dX1_ordinaryOctetAt_19 rfl ?_
    refine z_bipush (v := 8) F dX1_ordinaryOctetAt_20 rfl ?_
    refine z_aload_n F dX1_ordinaryOctetAt_22 rfl rfl ?_
    refine z_getf F vF_X1_29 dX1_ordinaryOctetAt_23 hi rfl ?_
    refine z_iconst (v := 1) F dX1_ordinaryOctetAt_26 rfl ?_
    refine z_isub F dX1_ordinaryOctetAt_27 ?_
    refine z_iload_n F dX1_ordinaryOctetAt_28 rfl ?_
    refine z_isub F dX1_ordinaryOctetAt_29 ?_
    refine z_imul F dX1_ordinaryOctetAt_30 ?_
    rw [z_sh hp]
    refine z_lushr F dX1_ordinaryOctetAt_31 ?_
    refine z_l2i F dX1_ordinaryOctetAt_32 ?_
    refine z_sipush (v := 255) F dX1_ordinaryOctetAt_33 rfl ?_
    refine z_iand F dX1_ordinaryOctetAt_36 ?_
    rw [z_ushr8 _ (by omega)]
    exact z_iret F hr dX1_ordinaryOctetAt_37 rfl (Nat.le_of_ble_eq_true rfl) (Nat.le_of_ble_eq_true rfl) (⟨by rw [hz], rfl⟩)
  · have hz : (if hd then hv else own) = hv := by cases hd <;> first | rfl | exact absurd rfl c4
    refine z_aload_n F dX1_ordinaryOctetAt_7 rfl rfl ?_
    refine z_getf F vF_X1_22 dX1_ordinaryOctetAt_8 hi rfl ?_
    refine z_goto (tgt := 18) F dX1_ordinaryOctetAt_11 (by decide) ?_
    refine z_lstore_n F dX1_ordinaryOctetAt_18 (Nat.le_of_ble_eq_true rfl) ?_
    refine z_lload_n F dX1_ordinaryOctetAt_19 rfl ?_
    refine z_bipush (v := 8) F dX1_ordinaryOctetAt_20 rfl ?_
    refine z_aload_n F dX1_ordinaryOctetAt_22 rfl rfl ?_
    refine z_getf F vF_X1_29 dX1_ordinaryOctetAt_23 hi rfl ?_
    refine z_iconst (v := 1) F dX1_ordinaryOctetAt_26 rfl ?_
    refine z_isub F dX1_ordinaryOctetAt_27 ?_
    refine z_iload_n F dX1_ordinaryOctetAt_28 rfl ?_
    refine z_isub F dX1_ordinaryOctetAt_29 ?_
    refine z_imul F dX1_ordinaryOctetAt_30 ?_
    rw [z_sh hp]
    refine z_lushr F dX1_ordinaryOctetAt_31 ?_
    refine z_l2i F dX1_ordinaryOctetAt_32 ?_
    refine z_sipush (v := 255) F dX1_ordinaryOctetAt_33 rfl ?_
    refine z_iand F dX1_ordinaryOctetAt_36 ?_
    rw [z_ushr8 _ (by omega)]
    exact z_iret F hr dX1_ordinaryOctetAt_37 rfl (Nat.le_of_ble_eq_true rfl) (Nat.le_of_ble_eq_true rfl) (⟨by rw [hz], rfl⟩)

set_option maxRecDepth 100000 in
set_option maxHeartbeats 1000000 in
theorem c_X1_octetAt_n {h : z_H} {i ses lev len src plc : Nat} {id : Int32} {mbw hd : Bool} {own hv : Int64} (hi : h[i]? = some (I_o id ses lev false len mbw own hd hv src plc)) {p : Nat} (hp : p < len) (hl : len ≤ 8) : z_K yX1_octetAt cX1_octetAt 3 (some .int) 1 0 0 [.ref i, .int (nI p)] h (fun v h' => v = some (.int (nI (octV (if hd then hv else own) (8 * (len - 1 - p))))) ∧ h' = h) := by
  refine z_met vI_X1_octetAt (Nat.le_of_ble_eq_true rfl) (fun G X F hr hnm => ?_)
  refine z_aload_n F dX1_octetAt_0 rfl rfl ?_
  refine z_getf F vF_X1_38 dX1_octetAt_1 hi rfl ?_
  refine z_if_ne (tgt := 13) F dX1_octetAt_4 (by decide) (fun c4 => absurd rfl c4) (fun c4 => ?_)
  refine z_aload_n F dX1_octetAt_7 rfl rfl ?_
  refine z_iload_n F dX1_octetAt_8 rfl ?_
  refine z_callV F z_nwOK wL_good (c_X1_ordinaryOctetAt hi hp hl) hi rfl vI_X1_ordinaryOctetAt vM_X1_49 vV_X1_ordinaryOctetAt vL_X1_ordinaryOctetAt rfl dX1_octetAt_9 rfl rfl (Nat.le_of_ble_eq_true rfl) ⟨(Nat.le_of_ble_eq_true rfl), (Nat.le_of_ble_eq_true rfl), (Nat.le_of_ble_eq_true rfl), (Nat.le_of_ble_eq_true rfl)⟩ (fun v h1 hq => ?_)
  obtain ⟨rfl, rfl⟩ := hq
  exact z_iret F hr dX1_octetAt_12 rfl (Nat.le_of_ble_eq_true rfl) (Nat.le_of_ble_eq_true rfl) (⟨rfl, rfl⟩)

set_option maxRecDepth 100000 in
set_option maxHeartbeats 1000000 in
theorem c_X1_octetAt_y {h : z_H} {i ses lev len src plc : Nat} {id : Int32} {mbw hd : Bool} {own hv : Int64} (hi : h[i]? = some (I_o id ses lev true len mbw own hd hv src plc)) {p p2 : Nat} {sf : Nat → Option Nat} {pf : Nat → Int32} (hsf : h[src]? = some (.inl (4, 8, .inr (.inr (.inr (.inr sf)))))) (hpf : h[plc]? = some (.inl (0, 8, .inl pf))) {s ses2 lev2 len2 src2 plc2 : Nat} {id2 : Int32} {tog2 mbw2 hd2 : Bool} {own2 hv2 : Int64} (hs : h[s]? = some (I_o id2 ses2 lev2 tog2 len2 mbw2 own2 hd2 hv2 src2 plc2)) (hp : p < 8) (hsp : sf p = some s) (hpp : pf p = nI p2) (hp2 : p2 < len2) (hl2 : len2 ≤ 8) : z_K yX1_octetAt cX1_octetAt 3 (some .int) 1 0 0 [.ref i, .int (nI p)] h (fun v h' => v = some (.int (nI (octV (if hd2 then hv2 else own2) (8 * (len2 - 1 - p2))))) ∧ h' = h) := by
  refine z_met vI_X1_octetAt (Nat.le_of_ble_eq_true rfl) (fun G X F hr hnm => ?_)
  refine z_aload_n F dX1_octetAt_0 rfl rfl ?_
  refine z_getf F vF_X1_38 dX1_octetAt_1 hi rfl ?_
  refine z_if_ne (tgt := 13) F dX1_octetAt_4 (by decide) (fun c4 => ?_) (fun c4 => absurd c4 (by decide))
  refine z_iload_n F dX1_octetAt_13 rfl ?_
  refine z_if_lt (tgt := 35) F dX1_octetAt_14 (by decide) (fun c14 => absurd c14 (nI_pos (by omega))) (fun c14 => ?_)
  refine z_iload_n F dX1_octetAt_17 rfl ?_
  refine z_aload_n F dX1_octetAt_18 rfl rfl ?_
  refine z_getf F vF_X1_41 dX1_octetAt_19 hi rfl ?_
  refine z_alen (v := nI 8) F dX1_octetAt_22 hsf rfl rfl ?_
  refine z_icmp_ge (tgt := 35) F dX1_octetAt_23 (by decide) (fun c23 => absurd c23 (nI_ge (by omega) (by decide))) (fun c23 => ?_)
  refine z_iload_n F dX1_octetAt_26 rfl ?_
  refine z_aload_n F dX1_octetAt_27 rfl rfl ?_
  refine z_getf F vF_X1_45 dX1_octetAt_28 hi rfl ?_
  refine z_alen (v := nI 8) F dX1_octetAt_31 hpf rfl rfl ?_
  refine z_icmp_lt (tgt := 37) F dX1_octetAt_32 (by decide) (fun c32 => ?_) (fun c32 => absurd (nI_lt (by omega) (by decide)) c32)
  refine z_aload_n F dX1_octetAt_37 rfl rfl ?_
  refine z_getf F vF_X1_41 dX1_octetAt_38 hi rfl ?_
  refine z_iload_n F dX1_octetAt_41 rfl ?_
  refine z_aald F dX1_octetAt_42 hsf rfl rfl (show p < 8 by omega) (Nat.le_of_ble_eq_true rfl) ?_
  rw [hsp]
  refine z_astore_n F dX1_octetAt_43 rfl (Nat.le_of_ble_eq_true rfl) ?_
  refine z_aload_n F dX1_octetAt_44 rfl rfl ?_
  refine z_ifnonnull (tgt := 52) F dX1_octetAt_45 (by decide) rfl (fun c45 => ?_) (fun c45 => absurd c45 (by intro e; cases e))
  refine z_aload_n F dX1_octetAt_52 rfl rfl ?_
  refine z_aload_n F dX1_octetAt_53 rfl rfl ?_
  refine z_getf F vF_X1_45 dX1_octetAt_54 hi rfl ?_
  refine z_iload_n F dX1_octetAt_57 rfl ?_
  refine z_iald F dX1_octetAt_58 hpf rfl rfl (show p < 8 by omega) (Nat.le_of_ble_eq_true rfl) ?_
  rw [hpp]
  refine z_callV F z_nwOK wL_good (c_X1_ordinaryOctetAt hs hp2 hl2) hs rfl vI_X1_ordinaryOctetAt vM_X1_49 vV_X1_ordinaryOctetAt vL_X1_ordinaryOctetAt rfl dX1_octetAt_59 rfl rfl (Nat.le_of_ble_eq_true rfl) ⟨(Nat.le_of_ble_eq_true rfl), (Nat.le_of_ble_eq_true rfl), (Nat.le_of_ble_eq_true rfl), (Nat.le_of_ble_eq_true rfl)⟩ (fun v h1 hq => ?_)
  obtain ⟨rfl, rfl⟩ := hq
  exact z_iret F hr dX1_octetAt_62 rfl (Nat.le_of_ble_eq_true rfl) (Nat.le_of_ble_eq_true rfl) (⟨rfl, rfl⟩)

set_option maxRecDepth 100000 in
set_option maxHeartbeats 1000000 in
theorem l_X1_number {h : z_H} {i ses lev len src plc : Nat} {id : Int32} {tog mbw hd : Bool} {own hv : Int64} (hi : h[i]? = some (I_o id ses lev tog len mbw own hd hv src plc)) (g : Nat → Nat) (hO : ∀ p, p < len → z_K yX1_octetAt cX1_octetAt 3 (some .int) 1 0 0 [.ref i, .int (nI p)] h (fun v h' => v = some (.int (nI (g p))) ∧ h' = h)) (hl : len ≤ 8) {G : z_G} {X : z_X} {Q' : Option Value → z_H → Prop} (F : z_F vwCl z_ats z_nw wsL_law G RX1 cX1_number 4 (z_rm 2 0 0) X) (hr : X.2.2.2.2.2.2.2.2.1.sig.returnType = some .long) (hq' : Q' (some (.long (numL (fun j => nI (g j)) len))) h) :
    ∀ (m j : Nat), j + m = len → z_V vwCl G 4 X (z_end vwCl z_ats z_nw G X 0 0 Q') 0 0 4 [(0, .ref i), (1, .long (numL (fun j => nI (g j)) j)), (3, .int (nI j))] [] h := by
  intro m
  induction m with
  | zero =>
    intro j hj
    obtain rfl : j = len := by omega
    refine z_iload_n F dX1_number_4 rfl ?_
    refine z_aload_n F dX1_number_5 rfl rfl ?_
    refine z_getf F vF_X1_29 dX1_number_6 hi rfl ?_
    refine z_icmp_ge (tgt := 30) F dX1_number_9 (by decide) (fun c9 => ?_) (fun c9 => absurd (nI_le (Nat.le_refl j) (by omega)) c9)
    refine z_lload_n F dX1_number_30 rfl ?_
    exact z_lret F hr dX1_number_31 (Nat.le_of_ble_eq_true rfl) (Nat.le_of_ble_eq_true rfl) (hq')
  | succ m ih =>
    intro j hj
    refine z_iload_n F dX1_number_4 rfl ?_
    refine z_aload_n F dX1_number_5 rfl rfl ?_
    refine z_getf F vF_X1_29 dX1_number_6 hi rfl ?_
    refine z_icmp_ge (tgt := 30) F dX1_number_9 (by decide) (fun c9 => absurd c9 (nI_ge (show j < len by omega) (by omega))) (fun c9 => ?_)
    refine z_lload_n F dX1_number_12 rfl ?_
    refine z_bipush (v := 8) F dX1_number_13 rfl ?_
    refine z_lshl F dX1_number_15 ?_
    refine z_aload_n F dX1_number_16 rfl rfl ?_
    refine z_iload_n F dX1_number_17 rfl ?_
    refine z_callV F z_nwOK wL_good (hO j (by omega)) hi rfl vI_X1_octetAt vM_X1_53 vV_X1_octetAt vL_X1_octetAt rfl dX1_number_18 rfl rfl (Nat.le_of_ble_eq_true rfl) ⟨(Nat.le_of_ble_eq_true rfl), (Nat.le_of_ble_eq_true rfl), (Nat.le_of_ble_eq_true rfl), (Nat.le_of_ble_eq_true rfl)⟩ (fun v h1 hq => ?_)
    obtain ⟨rfl, rfl⟩ := hq
    refine z_i2l F dX1_number_21 ?_
    refine z_lor F dX1_number_22 ?_
    refine z_lstore_n F dX1_number_23 (Nat.le_of_ble_eq_true rfl) ?_
    refine z_iinc (w := 1) F dX1_number_24 rfl rfl (Nat.le_of_ble_eq_true rfl) ?_
    rw [nI_1]
    refine z_goto (tgt := 4) F dX1_number_27 (by decide) ?_
    exact ih (j + 1) (by omega)

set_option maxRecDepth 100000 in
set_option maxHeartbeats 1000000 in
theorem c_X1_number {h : z_H} {i ses lev len src plc : Nat} {id : Int32} {tog mbw hd : Bool} {own hv : Int64} (hi : h[i]? = some (I_o id ses lev tog len mbw own hd hv src plc)) (g : Nat → Nat) (hO : ∀ p, p < len → z_K yX1_octetAt cX1_octetAt 3 (some .int) 1 0 0 [.ref i, .int (nI p)] h (fun v h' => v = some (.int (nI (g p))) ∧ h' = h)) (hl : len ≤ 8) : z_K yX1_number cX1_number 4 (some .long) 2 0 0 [.ref i] h (fun v h' => v = some (.long (numL (fun j => nI (g j)) len)) ∧ h' = h) := by
  refine z_met vI_X1_number (Nat.le_of_ble_eq_true rfl) (fun G X F hr hnm => ?_)
  refine z_lconst (v := 0) F dX1_number_0 rfl ?_
  refine z_lstore_n F dX1_number_1 (Nat.le_of_ble_eq_true rfl) ?_
  refine z_iconst (v := 0) F dX1_number_2 rfl ?_
  refine z_istore_n F dX1_number_3 (Nat.le_of_ble_eq_true rfl) ?_
  exact l_X1_number hi g hO hl F hr ⟨rfl, rfl⟩ len 0 (by omega)

def apS (sf : Nat → Option Nat) (len s : Nat) : Nat → Nat → Option Nat
  | 0 => sf
  | j + 1 => va_up (apS sf len s j) (len + j) (some s)
def apP (pf : Nat → Int32) (len : Nat) : Nat → Nat → Int32
  | 0 => pf
  | j + 1 => upd (apP pf len j) (len + j) (nI j)
def z_set3 (h : z_H) (s p i : Nat) (a b c : z_E) : z_H := ((h.set s a).set p b).set i c
theorem z_set3_again {h : z_H} {s p i : Nat} {a b c a' b' c' : z_E} (h1 : s ≠ p) (h2 : s ≠ i) (h3 : p ≠ i) : (((z_set3 h s p i a b c).set s a').set p b').set i c' = z_set3 h s p i a' b' c' := by
  unfold z_set3
  apply List.ext_getElem?
  intro k
  simp only [List.getElem?_set, List.length_set]
  by_cases e1 : i = k
  · simp [e1]
  · by_cases e2 : p = k
    · simp [e1, e2]
    · by_cases e3 : s = k
      · simp [e1, e2, e3]
      · simp [e1, e2, e3]
theorem z_set3_i {h : z_H} {s p i : Nat} {a b c e : z_E} (hi : h[i]? = some e) : (z_set3 h s p i a b c)[i]? = some c := by
  unfold z_set3
  refine List.getElem?_set_self ?_
  rw [List.length_set, List.length_set]
  exact (List.getElem?_eq_some_iff.mp hi).1
theorem z_set3_p {h : z_H} {s p i : Nat} {a b c e : z_E} (hp : h[p]? = some e) (h3 : p ≠ i) : (z_set3 h s p i a b c)[p]? = some b := by
  unfold z_set3
  rw [z_sn (Ne.symm h3)]
  refine List.getElem?_set_self ?_
  rw [List.length_set]
  exact (List.getElem?_eq_some_iff.mp hp).1
theorem z_set3_s {h : z_H} {s p i : Nat} {a b c e : z_E} (hs : h[s]? = some e) (h1 : s ≠ p) (h2 : s ≠ i) : (z_set3 h s p i a b c)[s]? = some a := by
  unfold z_set3
  rw [z_sn (Ne.symm h2), z_sn (Ne.symm h1)]
  exact z_ss hs
theorem z_set3_n {h : z_H} {s p i k : Nat} {a b c : z_E} (h1 : s ≠ k) (h2 : p ≠ k) (h3 : i ≠ k) : (z_set3 h s p i a b c)[k]? = h[k]? := by
  unfold z_set3
  rw [z_sn h3, z_sn h2, z_sn h1]

set_option maxRecDepth 100000 in
set_option maxHeartbeats 1000000 in
theorem l_X1_append {h : z_H} {i ses lev len src plc : Nat} {id : Int32} {mbw hd : Bool} {own hv : Int64} (hi : h[i]? = some (I_o id ses lev true len mbw own hd hv src plc)) {s k : Nat} {sf : Nat → Option Nat} {pf : Nat → Int32} {fs : List Value} (hsf : h[src]? = some (.inl (4, 8, .inr (.inr (.inr (.inr sf)))))) (hpf : h[plc]? = some (.inl (0, 8, .inl pf))) (hs : h[s]? = some (.inr (2, fs))) (hsp : src ≠ plc) (hsi : src ≠ i) (hpi : plc ≠ i) (hss : src ≠ s) (hps : plc ≠ s) (his : i ≠ s) (hk : len + k ≤ 8) {G : z_G} {X : z_X} (F : z_F vwCl z_ats z_nw wsL_law G RX1 cX1_append 4 (z_rm 0 0 0) X) (hr : X.2.2.2.2.2.2.2.2.1.sig.returnType = none) :
    ∀ (m j : Nat), j + m = k → z_V vwCl G 4 X (z_end vwCl z_ats z_nw G X 0 0 (fun v h' => v = none ∧ h' = (z_set3 h src plc i (.inl (4, 8, .inr (.inr (.inr (.inr (apS sf len s k)))))) (.inl (0, 8, .inl (apP pf len k))) (I_o id ses lev true (len + k) mbw own hd hv src plc)))) 0 0 2 [(0, .ref i), (1, .ref s), (2, .int (nI k)), (3, .int (nI j))] [] (z_set3 h src plc i (.inl (4, 8, .inr (.inr (.inr (.inr (apS sf len s j)))))) (.inl (0, 8, .inl (apP pf len j))) (I_o id ses lev true (len + j) mbw own hd hv src plc)) := by
  intro m
  induction m with
  | zero =>
    intro j hj
    obtain rfl : j = k := by omega
    refine z_iload_n F dX1_append_2 rfl ?_
    refine z_iload_n F dX1_append_3 rfl ?_
    refine z_icmp_ge (tgt := 74) F dX1_append_4 (by decide) (fun c4 => ?_) (fun c4 => absurd (nI_le (Nat.le_refl j) (by omega)) c4)
    exact z_vret F hr dX1_append_74 (Nat.le_of_ble_eq_true rfl) (Nat.le_of_ble_eq_true rfl) (⟨rfl, rfl⟩)
  | succ m ih =>
    intro j hj
    have g0 : (z_set3 h src plc i (.inl (4, 8, .inr (.inr (.inr (.inr (apS sf len s j)))))) (.inl (0, 8, .inl (apP pf len j))) (I_o id ses lev true (len + j) mbw own hd hv src plc))[i]? = some _ := z_set3_i hi
    have g1 : (z_set3 h src plc i (.inl (4, 8, .inr (.inr (.inr (.inr (apS sf len s j)))))) (.inl (0, 8, .inl (apP pf len j))) (I_o id ses lev true (len + j) mbw own hd hv src plc))[src]? = some _ := z_set3_s hsf hsp hsi
    have g2 : (z_set3 h src plc i (.inl (4, 8, .inr (.inr (.inr (.inr (apS sf len s j)))))) (.inl (0, 8, .inl (apP pf len j))) (I_o id ses lev true (len + j) mbw own hd hv src plc))[plc]? = some _ := z_set3_p hpf hpi
    have g3 : (z_set3 h src plc i (.inl (4, 8, .inr (.inr (.inr (.inr (apS sf len s j)))))) (.inl (0, 8, .inl (apP pf len j))) (I_o id ses lev true (len + j) mbw own hd hv src plc))[s]? = some (.inr (2, fs)) := by rw [z_set3_n hss hps his]; exact hs
    refine z_iload_n F dX1_append_2 rfl ?_
    refine z_iload_n F dX1_append_3 rfl ?_
    refine z_icmp_ge (tgt := 74) F dX1_append_4 (by decide) (fun c4 => absurd c4 (nI_ge (show j < k by omega) (by omega))) (fun c4 => ?_)
    refine z_aload_n F dX1_append_7 rfl rfl ?_
    refine z_getf F vF_X1_29 dX1_append_8 g0 rfl ?_
    refine z_if_lt (tgt := 68) F dX1_append_11 (by decide) (fun c11 => absurd c11 (nI_pos (by omega))) (fun c11 => ?_)
    refine z_aload_n F dX1_append_14 rfl rfl ?_
    refine z_getf F vF_X1_29 dX1_append_15 g0 rfl ?_
    refine z_aload_n F dX1_append_18 rfl rfl ?_
    refine z_getf F vF_X1_41 dX1_append_19 g0 rfl ?_
    refine z_alen (v := nI 8) F dX1_append_22 g1 rfl rfl ?_
    refine z_icmp_ge (tgt := 68) F dX1_append_23 (by decide) (fun c23 => absurd c23 (nI_ge (show len + j < 8 by omega) (by decide))) (fun c23 => ?_)
    refine z_aload_n F dX1_append_26 rfl rfl ?_
    refine z_getf F vF_X1_29 dX1_append_27 g0 rfl ?_
    refine z_aload_n F dX1_append_30 rfl rfl ?_
    refine z_getf F vF_X1_45 dX1_append_31 g0 rfl ?_
    refine z_alen (v := nI 8) F dX1_append_34 g2 rfl rfl ?_
    refine z_icmp_ge (tgt := 68) F dX1_append_35 (by decide) (fun c35 => absurd c35 (nI_ge (show len + j < 8 by omega) (by decide))) (fun c35 => ?_)
    refine z_aload_n F dX1_append_38 rfl rfl ?_
    refine z_getf F vF_X1_41 dX1_append_39 g0 rfl ?_
    refine z_aload_n F dX1_append_42 rfl rfl ?_
    refine z_getf F vF_X1_29 dX1_append_43 g0 rfl ?_
    refine z_aload_n F dX1_append_46 rfl rfl ?_
    refine z_aast F dX1_append_47 g1 g3 rfl rfl rfl (show len + j < 8 by omega) (Nat.le_of_ble_eq_true rfl) ?_
    have f0 := (z_sn (c := .inl (4, 8, .inr (.inr (.inr (.inr (va_up (apS sf len s j) (len + j) (some s))))))) hsi).trans g0
    have f2 := (z_sn (c := .inl (4, 8, .inr (.inr (.inr (.inr (va_up (apS sf len s j) (len + j) (some s))))))) hsp).trans g2
    refine z_aload_n F dX1_append_48 rfl rfl ?_
    refine z_getf F vF_X1_45 dX1_append_49 f0 rfl ?_
    refine z_aload_n F dX1_append_52 rfl rfl ?_
    refine z_getf F vF_X1_29 dX1_append_53 f0 rfl ?_
    refine z_iload_n F dX1_append_56 rfl ?_
    refine z_iast F dX1_append_57 f2 rfl rfl (show len + j < 8 by omega) (Nat.le_of_ble_eq_true rfl) ?_
    have e0 := (z_sn (c := .inl (0, 8, .inl (upd (apP pf len j) (len + j) (nI j)))) hpi).trans f0
    refine z_aload_n F dX1_append_58 rfl rfl ?_
    refine z_dup F dX1_append_59 rfl ?_
    refine z_getf F vF_X1_29 dX1_append_60 e0 rfl ?_
    refine z_iconst (v := 1) F dX1_append_63 rfl ?_
    refine z_iadd F dX1_append_64 ?_
    rw [nI_1]
    refine z_putf F vF_X1_29 vT_X1 vD_X1_4 dX1_append_65 e0 (Nat.le_of_ble_eq_true rfl) rfl rfl (fun g65 => ?_)
    refine z_iinc (w := 1) F dX1_append_68 rfl rfl (Nat.le_of_ble_eq_true rfl) ?_
    rw [nI_1]
    refine z_goto (tgt := 2) F dX1_append_71 (by decide) ?_
    rw [z_set3_again hsp hsi hpi]
    exact ih (j + 1) (by omega)

set_option maxRecDepth 100000 in
set_option maxHeartbeats 1000000 in
theorem c_X1_append {h : z_H} {i ses lev len src plc : Nat} {id : Int32} {mbw hd : Bool} {own hv : Int64} (hi : h[i]? = some (I_o id ses lev true len mbw own hd hv src plc)) {s k : Nat} {sf : Nat → Option Nat} {pf : Nat → Int32} {fs : List Value} (hsf : h[src]? = some (.inl (4, 8, .inr (.inr (.inr (.inr sf)))))) (hpf : h[plc]? = some (.inl (0, 8, .inl pf))) (hs : h[s]? = some (.inr (2, fs))) (hsp : src ≠ plc) (hsi : src ≠ i) (hpi : plc ≠ i) (hss : src ≠ s) (hps : plc ≠ s) (his : i ≠ s) (hk : len + k ≤ 8) : z_K yX1_append cX1_append 4 none 0 0 0 [.ref i, .ref s, .int (nI k)] h (fun v h' => v = none ∧ h' = (z_set3 h src plc i (.inl (4, 8, .inr (.inr (.inr (.inr (apS sf len s k)))))) (.inl (0, 8, .inl (apP pf len k))) (I_o id ses lev true (len + k) mbw own hd hv src plc))) := by
  refine z_met vI_X1_append (Nat.le_of_ble_eq_true rfl) (fun G X F hr hnm => ?_)
  refine z_iconst (v := 0) F dX1_append_0 rfl ?_
  refine z_istore_n F dX1_append_1 (Nat.le_of_ble_eq_true rfl) ?_
  have hl := l_X1_append hi hsf hpf hs hsp hsi hpi hss hps his hk F hr k 0 (by omega)
  have e0 : (z_set3 h src plc i (.inl (4, 8, .inr (.inr (.inr (.inr (apS sf len s 0)))))) (.inl (0, 8, .inl (apP pf len 0))) (I_o id ses lev true (len + 0) mbw own hd hv src plc)) = h := by
    show ((h.set src (.inl (4, 8, .inr (.inr (.inr (.inr sf)))))).set plc (.inl (0, 8, .inl pf))).set i (I_o id ses lev true len mbw own hd hv src plc) = h
    rw [z_sid hsf, z_sid hpf, z_sid hi]
  rw [e0] at hl
  exact hl
