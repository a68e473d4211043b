/-! THE LAW: its script at the first cell -/
def z_SX (G : z_G) (X : z_X) (L : Nat) (xs : Nat → Int32) : Prop := va_X G.2.2.1 L xs X.2.2.2.2.1 X.2.2.2.2.1.heap ∧ G.2.2.1 < X.2.2.2.2.1.heap.size ∧ G.2.2.1 < G.2.2.2
theorem z_sld {cl : List vw_C} {ats : List FieldType} {nw : State → Prop} {TB : List Cond} {G : z_G} {own : String} {cc : ByteArray} {nL : Nat} {R0 : Room} {X : z_X} {Q : State → Prop} {cells slots pc : Nat} {lv : List (Nat × Value)} {st : List Value} {h : z_H} (F : z_F cl ats nw TB G own cc nL R0 X) {L : Nat} {xs : Nat → Int32} (Sx : z_SX G X L xs) (hd : decode cc pc = .ok (.iaload, 1)) {i : Int32} {j : Nat} (hi : i = nI j) (hj : j < L) (hL : L < 2147483648) (kk : z_V cl G nL X Q cells slots (pc + 1) lv (.int (xs j) :: st) h) : z_V cl G nL X Q cells slots pc lv (.int i :: .ref 0 :: st) h := by
  intro H locs ls r b d
  subst hi
  have hk := kk H locs ls r b d
  have e : (nI j).toNatClampNeg = j := nI_clamp (by omega)
  refine va_sld (A := z_A G) F.1 F.2.1 Sx.1 Sx.2.1 (Nat.not_le.mpr Sx.2.2) b (vp_in_nI hj hL) hd ?_
  rw [e]
  exact hk
theorem z_salen {cl : List vw_C} {ats : List FieldType} {nw : State → Prop} {TB : List Cond} {G : z_G} {own : String} {cc : ByteArray} {nL : Nat} {R0 : Room} {X : z_X} {Q : State → Prop} {cells slots pc : Nat} {lv : List (Nat × Value)} {st : List Value} {h : z_H} (F : z_F cl ats nw TB G own cc nL R0 X) {L : Nat} {xs : Nat → Int32} (Sx : z_SX G X L xs) (hd : decode cc pc = .ok (.arraylength, 1)) (kk : z_V cl G nL X Q cells slots (pc + 1) lv (.int (nI L) :: st) h) : z_V cl G nL X Q cells slots pc lv (.ref 0 :: st) h := by
  intro H locs ls r b d
  exact va_slen (A := z_A G) F.1 F.2.1 Sx.1 Sx.2.1 (Nat.not_le.mpr Sx.2.2) b hd (kk H locs ls r b d)
theorem nI_p1 (i : Nat) : nI i + 1 = nI (i + 1) := by rw [show (1 : Int32) = nI 1 from rfl, nI_add]
theorem nI_p2 (i : Nat) : nI i + 2 = nI (i + 2) := by rw [show (2 : Int32) = nI 2 from rfl, nI_add]
theorem nI_p3 (i : Nat) : nI i + 3 = nI (i + 3) := by rw [show (3 : Int32) = nI 3 from rfl, nI_add]
theorem nI_p4 (i : Nat) : nI i + 4 = nI (i + 4) := by rw [show (4 : Int32) = nI 4 from rfl, nI_add]
theorem nI_p5 (i : Nat) : nI i + 5 = nI (i + 5) := by rw [show (5 : Int32) = nI 5 from rfl, nI_add]
theorem lw_cmp {L i : Nat} (hL : L ≤ 2560) (hi : i ≤ 2570) : nI L - 5 < nI i ↔ L < i + 5 := by
  by_cases h5 : 5 ≤ L
  · have e : nI L - 5 = nI (L - 5) := by
      have h := nI_p5 (L - 5)
      rw [show L - 5 + 5 = L by omega] at h
      rw [← h, Int32.add_sub_cancel]
    rw [e, nI_ltI (by omega) (by omega)]
    omega
  · have hn : (nI L - 5).toInt < 0 := by
      rcases (show L = 0 ∨ L = 1 ∨ L = 2 ∨ L = 3 ∨ L = 4 by omega) with rfl | rfl | rfl | rfl | rfl <;> decide
    refine ⟨fun _ => by omega, fun _ => ?_⟩
    rw [Int32.lt_iff_toInt_lt, nI_toInt (by omega)]
    omega
theorem lw_and (v : Int32) : ∃ j : Nat, j < 16 ∧ v &&& 15 = nI j := by
  refine ⟨(v &&& 15).toBitVec.toNat, ?_, ?_⟩
  · rw [Int32.toBitVec_and, BitVec.toNat_and]
    exact Nat.lt_of_le_of_lt Nat.and_le_right (by decide)
  · apply Int32.toBitVec_inj.mp
    show _ = BitVec.ofNat 32 _
    rw [BitVec.ofNat_toNat, BitVec.setWidth_eq]
theorem lw_i8 (v : Int32) : v.toInt8.toInt32.toInt8.toInt32 = v.toInt8.toInt32 := by rw [Int8.toInt8_toInt32]
theorem CT_kx {S S' : z_S} {x x' : z_Xc} {d d' : z_H} (C : CT S x d) (C' : CR S' x' d') (K : KX x x') (h : sB S' 33 = sB S 33 ∧ sL S' 4 = sL S 4) : CT S' x' d' := by
  obtain ⟨-, c1, c2, c3⟩ := C
  obtain ⟨-, k2, k3⟩ := K
  refine ⟨C', by rw [k3]; exact c1, ?_, ?_⟩
  · rw [h.1, ← c2]; exact congrArg (fun q : Nat × Bool × Int64 => q.2.1) k2
  · rw [h.2, ← c3]; exact congrArg (fun q : Nat × Bool × Int64 => q.2.2) k2
theorem kp_identifier (S : z_S) (id n s l : Int32) : sB (sp_identifier S id n s l).2 33 = sB S 33 ∧ sL (sp_identifier S id n s l).2 4 = sL S 4 := by
  unfold sp_identifier
  repeat' split
  all_goals exact ⟨rfl, rfl⟩
theorem kp_dynamic (S : z_S) (id fr n : Int32) : sB (sp_dynamic S id fr n).2 33 = sB S 33 ∧ sL (sp_dynamic S id fr n).2 4 = sL S 4 := by
  unfold sp_dynamic
  repeat' split
  all_goals exact ⟨rfl, rfl⟩
theorem kp_routine (S : z_S) (id n : Int32) : sB (sp_routine S id n).2 33 = sB S 33 ∧ sL (sp_routine S id n).2 4 = sL S 4 := by
  unfold sp_routine
  repeat' split
  all_goals exact ⟨rfl, rfl⟩
theorem kp_condition (S : z_S) (k : Int32) (b : Bool) : sB (sp_condition S k b).2 33 = sB S 33 ∧ sL (sp_condition S k b).2 4 = sL S 4 := by
  unfold sp_condition
  repeat' split
  all_goals exact ⟨rfl, rfl⟩
theorem kp_rights (S : z_S) (y : Int32) : sB (sp_rights S y).2 33 = sB S 33 ∧ sL (sp_rights S y).2 4 = sL S 4 := by
  unfold sp_rights
  repeat' split
  all_goals exact ⟨rfl, rfl⟩
theorem kp_pending (S : z_S) (y : Int32) : sB (sp_pending S y).2 33 = sB S 33 ∧ sL (sp_pending S y).2 4 = sL S 4 := by
  unfold sp_pending
  repeat' split
  all_goals exact ⟨rfl, rfl⟩
theorem kp_control (S : z_S) (id k : Int32) (v : Int64) : sB (sp_control S id k v).2 33 = sB S 33 ∧ sL (sp_control S id k v).2 4 = sL S 4 := by
  unfold sp_control
  repeat' split
  all_goals exact ⟨rfl, rfl⟩
theorem kp_tick (S : z_S) (t : Int64) : sB (sp_tick S t).2 33 = sB S 33 ∧ sL (sp_tick S t).2 4 = sL S 4 := by
  unfold sp_tick tk1
  repeat' split
  all_goals exact ⟨rfl, rfl⟩
theorem an_cases {n : Nat} (hn : n ≤ 41) (y : Int32) : (∃ j, j < n ∧ y = nI j) ∨ (y < 0 ∨ nI n ≤ y) := by
  by_cases h0 : y < 0
  · exact Or.inr (Or.inl h0)
  · by_cases h1 : nI n ≤ y
    · exact Or.inr (Or.inr h1)
    · refine Or.inl ⟨y.toInt.toNat, ?_, ?_⟩
      · have a : y < nI n := Int32.not_le.mp h1
        rw [Int32.lt_iff_toInt_lt, nI_toInt (by omega)] at a
        have b := Int32.not_lt.mp h0
        rw [Int32.le_iff_toInt_le] at b
        have b : (0 : Int) ≤ y.toInt := b
        omega
      · have a : y < nI n := Int32.not_le.mp h1
        rw [Int32.lt_iff_toInt_lt, nI_toInt (by omega)] at a
        have b := Int32.not_lt.mp h0
        rw [Int32.le_iff_toInt_le] at b
        have b : (0 : Int) ≤ y.toInt := b
        apply Int32.toInt_inj.mp
        rw [nI_toInt (by omega)]
        omega
theorem lg_cmp_self (v : Int64) : lg_cmp v v = 0 := by
  unfold lg_cmp
  simp
/-- what follows a call: the next round -/
def LK (G : z_G) (X : z_X) (Q : State → Prop) (cells slots i : Nat) : Prop := ∀ (S : z_S) (x : z_Xc) (o : Nat → Int64) (d : z_H) (c' s' : Nat), INV S → CT S x d → c' ≤ cells + 3 → s' ≤ slots + 27 → z_V vwCl G 7 X Q c' s' 653 [(0, .ref 0), (1, .ref 1), (2, .ref 11), (3, .ref 31), (4, .int (nI i))] [] (HP (cfun S x) (mfun S o) d)
theorem CT_pn {S : z_S} {x : z_Xc} {d : z_H} (C : CT S x d) : CT (uN S 0 1) x (d ++ [(.inr (0, []) : z_E)]) :=
  have C' : CT S x (d ++ [(.inr (0, []) : z_E)]) := ⟨CR_push C.1 _, C.2.1, C.2.2.1, C.2.2.2⟩
  C'

set_option maxRecDepth 100000 in
set_option maxHeartbeats 1000000 in
theorem w_identifier {G : z_G} {X : z_X} {Q : State → Prop} {L : Nat} {xs : Nat → Int32} (F : z_F vwCl z_ats z_nw wsL_law G RL cL_law 7 room_1 X) (Sx : z_SX G X L xs) {cells slots i : Nat} (hi : i + 5 ≤ L) (hL : L ≤ 2560) (hc : cells + 3 ≤ 601024) (hs : slots + 27 ≤ 7293034) {S : z_S} {x : z_Xc} {o : Nat → Int64} {d : z_H} (I : INV S) (C : CT S x d) (K : LK G X Q cells slots i) : z_V vwCl G 7 X Q cells slots 104 [(0, .ref 0), (1, .ref 1), (2, .ref 11), (3, .ref 31), (4, .int (nI i))] [] (HP (cfun S x) (mfun S o) d) := by
  refine z_aload_n F dL_law_104 rfl rfl ?_
  refine z_aload_n F dL_law_105 rfl rfl ?_
  refine z_iload F dL_law_106 rfl ?_
  refine z_iconst (v := 1) F dL_law_108 rfl ?_
  refine z_iadd F dL_law_109 ?_
  refine z_sld (j := i + 1) F Sx dL_law_110 (nI_p1 i) (show i + 1 < L by omega) (show L < 2147483648 by omega) ?_
  refine z_aload_n F dL_law_111 rfl rfl ?_
  refine z_iload F dL_law_112 rfl ?_
  refine z_iconst (v := 2) F dL_law_114 rfl ?_
  refine z_iadd F dL_law_115 ?_
  refine z_sld (j := i + 2) F Sx dL_law_116 (nI_p2 i) (show i + 2 < L by omega) (show L < 2147483648 by omega) ?_
  refine z_aload_n F dL_law_117 rfl rfl ?_
  refine z_iload F dL_law_118 rfl ?_
  refine z_iconst (v := 3) F dL_law_120 rfl ?_
  refine z_iadd F dL_law_121 ?_
  refine z_sld (j := i + 3) F Sx dL_law_122 (nI_p3 i) (show i + 3 < L by omega) (show L < 2147483648 by omega) ?_
  refine z_aload_n F dL_law_123 rfl rfl ?_
  refine z_iload F dL_law_124 rfl ?_
  refine z_iconst (v := 4) F dL_law_126 rfl ?_
  refine z_iadd F dL_law_127 ?_
  refine z_sld (j := i + 4) F Sx dL_law_128 (nI_p4 i) (show i + 4 < L by omega) (show L < 2147483648 by omega) ?_
  refine z_callV F z_nwOK wL_good (c_X5_identifier (id := (xs (i + 1))) (y := (xs (i + 2))) (s := (xs (i + 3))) (l := (xs (i + 4))) C.1 I.2.2.2.2.2.2.2 I.2.1) cO_at rfl vI_X5_identifier vM_L_19 vV_X5_identifier vL_X5_identifier rfl dL_law_129 rfl rfl (Nat.le_of_ble_eq_true rfl) ⟨(Nat.le_of_ble_eq_true rfl), (Nat.le_of_ble_eq_true rfl), (show _ ≤ 601024 by omega), (show _ ≤ 7293034 by omega)⟩ (fun v h1 hq => ?_)
  obtain ⟨rfl, x', d', rfl, C', K'⟩ := hq
  refine z_aload_n F dL_law_132 rfl rfl ?_
  refine z_aload_n F dL_law_133 rfl rfl ?_
  refine z_iload F dL_law_134 rfl ?_
  refine z_iconst (v := 1) F dL_law_136 rfl ?_
  refine z_iadd F dL_law_137 ?_
  refine z_sld (j := i + 1) F Sx dL_law_138 (nI_p1 i) (show i + 1 < L by omega) (show L < 2147483648 by omega) ?_
  refine z_aload_n F dL_law_139 rfl rfl ?_
  refine z_iload F dL_law_140 rfl ?_
  refine z_iconst (v := 2) F dL_law_142 rfl ?_
  refine z_iadd F dL_law_143 ?_
  refine z_sld (j := i + 2) F Sx dL_law_144 (nI_p2 i) (show i + 2 < L by omega) (show L < 2147483648 by omega) ?_
  refine z_aload_n F dL_law_145 rfl rfl ?_
  refine z_iload F dL_law_146 rfl ?_
  refine z_iconst (v := 3) F dL_law_148 rfl ?_
  refine z_iadd F dL_law_149 ?_
  refine z_sld (j := i + 3) F Sx dL_law_150 (nI_p3 i) (show i + 3 < L by omega) (show L < 2147483648 by omega) ?_
  refine z_aload_n F dL_law_151 rfl rfl ?_
  refine z_iload F dL_law_152 rfl ?_
  refine z_iconst (v := 4) F dL_law_154 rfl ?_
  refine z_iadd F dL_law_155 ?_
  refine z_sld (j := i + 4) F Sx dL_law_156 (nI_p4 i) (show i + 4 < L by omega) (show L < 2147483648 by omega) ?_
  refine z_callV F z_nwOK wL_good (c_X6_identifier (S := S) (xs (i + 1)) (xs (i + 2)) (xs (i + 3)) (xs (i + 4)) I.2.1.1) mO_at rfl vI_X6_identifier vM_L_23 vV_X6_identifier vL_X6_identifier rfl dL_law_157 rfl rfl (Nat.le_of_ble_eq_true rfl) ⟨(Nat.le_of_ble_eq_true rfl), (Nat.le_of_ble_eq_true rfl), (show _ ≤ 601024 by omega), (show _ ≤ 7293034 by omega)⟩ (fun v h1 hq => ?_)
  obtain ⟨rfl, rfl⟩ := hq
  refine z_icmp_eq (tgt := 653) F dL_law_160 (by decide) (fun c160 => ?_) (fun c160 => absurd rfl c160)
  exact K _ _ _ _ _ _ (INV_identifier I) (CT_kx C C' K' (kp_identifier _ _ _ _ _)) (by omega) (by omega)

set_option maxRecDepth 100000 in
set_option maxHeartbeats 1000000 in
theorem w_dynamic {G : z_G} {X : z_X} {Q : State → Prop} {L : Nat} {xs : Nat → Int32} (F : z_F vwCl z_ats z_nw wsL_law G RL cL_law 7 room_1 X) (Sx : z_SX G X L xs) {cells slots i : Nat} (hi : i + 5 ≤ L) (hL : L ≤ 2560) (hc : cells + 3 ≤ 601024) (hs : slots + 27 ≤ 7293034) {S : z_S} {x : z_Xc} {o : Nat → Int64} {d : z_H} (I : INV S) (C : CT S x d) (K : LK G X Q cells slots i) : z_V vwCl G 7 X Q cells slots 165 [(0, .ref 0), (1, .ref 1), (2, .ref 11), (3, .ref 31), (4, .int (nI i))] [] (HP (cfun S x) (mfun S o) d) := by
  refine z_aload_n F dL_law_165 rfl rfl ?_
  refine z_aload_n F dL_law_166 rfl rfl ?_
  refine z_iload F dL_law_167 rfl ?_
  refine z_iconst (v := 1) F dL_law_169 rfl ?_
  refine z_iadd F dL_law_170 ?_
  refine z_sld (j := i + 1) F Sx dL_law_171 (nI_p1 i) (show i + 1 < L by omega) (show L < 2147483648 by omega) ?_
  refine z_aload_n F dL_law_172 rfl rfl ?_
  refine z_iload F dL_law_173 rfl ?_
  refine z_iconst (v := 2) F dL_law_175 rfl ?_
  refine z_iadd F dL_law_176 ?_
  refine z_sld (j := i + 2) F Sx dL_law_177 (nI_p2 i) (show i + 2 < L by omega) (show L < 2147483648 by omega) ?_
  refine z_aload_n F dL_law_178 rfl rfl ?_
  refine z_iload F dL_law_179 rfl ?_
  refine z_iconst (v := 3) F dL_law_181 rfl ?_
  refine z_iadd F dL_law_182 ?_
  refine z_sld (j := i + 3) F Sx dL_law_183 (nI_p3 i) (show i + 3 < L by omega) (show L < 2147483648 by omega) ?_
  refine z_callV F z_nwOK wL_good (c_X5_dynamic (id := (xs (i + 1))) (fr := (xs (i + 2))) (y := (xs (i + 3))) C.1 I.2.2.2.2.2.2.2 I.2.1) cO_at rfl vI_X5_dynamic vM_L_24 vV_X5_dynamic vL_X5_dynamic rfl dL_law_184 rfl rfl (Nat.le_of_ble_eq_true rfl) ⟨(Nat.le_of_ble_eq_true rfl), (Nat.le_of_ble_eq_true rfl), (show _ ≤ 601024 by omega), (show _ ≤ 7293034 by omega)⟩ (fun v h1 hq => ?_)
  obtain ⟨rfl, x', d', rfl, C', K'⟩ := hq
  refine z_aload_n F dL_law_187 rfl rfl ?_
  refine z_aload_n F dL_law_188 rfl rfl ?_
  refine z_iload F dL_law_189 rfl ?_
  refine z_iconst (v := 1) F dL_law_191 rfl ?_
  refine z_iadd F dL_law_192 ?_
  refine z_sld (j := i + 1) F Sx dL_law_193 (nI_p1 i) (show i + 1 < L by omega) (show L < 2147483648 by omega) ?_
  refine z_aload_n F dL_law_194 rfl rfl ?_
  refine z_iload F dL_law_195 rfl ?_
  refine z_iconst (v := 2) F dL_law_197 rfl ?_
  refine z_iadd F dL_law_198 ?_
  refine z_sld (j := i + 2) F Sx dL_law_199 (nI_p2 i) (show i + 2 < L by omega) (show L < 2147483648 by omega) ?_
  refine z_aload_n F dL_law_200 rfl rfl ?_
  refine z_iload F dL_law_201 rfl ?_
  refine z_iconst (v := 3) F dL_law_203 rfl ?_
  refine z_iadd F dL_law_204 ?_
  refine z_sld (j := i + 3) F Sx dL_law_205 (nI_p3 i) (show i + 3 < L by omega) (show L < 2147483648 by omega) ?_
  refine z_callV F z_nwOK wL_good (c_X6_dynamic (S := S) (xs (i + 1)) (xs (i + 2)) (xs (i + 3)) I.2.1) mO_at rfl vI_X6_dynamic vM_L_28 vV_X6_dynamic vL_X6_dynamic rfl dL_law_206 rfl rfl (Nat.le_of_ble_eq_true rfl) ⟨(Nat.le_of_ble_eq_true rfl), (Nat.le_of_ble_eq_true rfl), (show _ ≤ 601024 by omega), (show _ ≤ 7293034 by omega)⟩ (fun v h1 hq => ?_)
  obtain ⟨rfl, rfl⟩ := hq
  refine z_icmp_eq (tgt := 653) F dL_law_209 (by decide) (fun c209 => ?_) (fun c209 => absurd rfl c209)
  exact K _ _ _ _ _ _ (INV_dynamic I) (CT_kx C C' K' (kp_dynamic _ _ _ _)) (by omega) (by omega)

set_option maxRecDepth 100000 in
set_option maxHeartbeats 1000000 in
theorem w_routine {G : z_G} {X : z_X} {Q : State → Prop} {L : Nat} {xs : Nat → Int32} (F : z_F vwCl z_ats z_nw wsL_law G RL cL_law 7 room_1 X) (Sx : z_SX G X L xs) {cells slots i : Nat} (hi : i + 5 ≤ L) (hL : L ≤ 2560) (hc : cells + 3 ≤ 601024) (hs : slots + 27 ≤ 7293034) {S : z_S} {x : z_Xc} {o : Nat → Int64} {d : z_H} (I : INV S) (C : CT S x d) (K : LK G X Q cells slots i) : z_V vwCl G 7 X Q cells slots 214 [(0, .ref 0), (1, .ref 1), (2, .ref 11), (3, .ref 31), (4, .int (nI i))] [] (HP (cfun S x) (mfun S o) d) := by
  refine z_aload_n F dL_law_214 rfl rfl ?_
  refine z_aload_n F dL_law_215 rfl rfl ?_
  refine z_iload F dL_law_216 rfl ?_
  refine z_iconst (v := 1) F dL_law_218 rfl ?_
  refine z_iadd F dL_law_219 ?_
  refine z_sld (j := i + 1) F Sx dL_law_220 (nI_p1 i) (show i + 1 < L by omega) (show L < 2147483648 by omega) ?_
  refine z_aload_n F dL_law_221 rfl rfl ?_
  refine z_iload F dL_law_222 rfl ?_
  refine z_iconst (v := 2) F dL_law_224 rfl ?_
  refine z_iadd F dL_law_225 ?_
  refine z_sld (j := i + 2) F Sx dL_law_226 (nI_p2 i) (show i + 2 < L by omega) (show L < 2147483648 by omega) ?_
  refine z_callV F z_nwOK wL_good (c_X5_routine (id := (xs (i + 1))) (y := (xs (i + 2))) C.1 I.2.2.2.2.2.2.2 I.2.2.2.2.1) cO_at rfl vI_X5_routine vM_L_29 vV_X5_routine vL_X5_routine rfl dL_law_227 rfl rfl (Nat.le_of_ble_eq_true rfl) ⟨(Nat.le_of_ble_eq_true rfl), (Nat.le_of_ble_eq_true rfl), (show _ ≤ 601024 by omega), (show _ ≤ 7293034 by omega)⟩ (fun v h1 hq => ?_)
  obtain ⟨rfl, x', d', rfl, C', K'⟩ := hq
  refine z_aload_n F dL_law_230 rfl rfl ?_
  refine z_aload_n F dL_law_231 rfl rfl ?_
  refine z_iload F dL_law_232 rfl ?_
  refine z_iconst (v := 1) F dL_law_234 rfl ?_
  refine z_iadd F dL_law_235 ?_
  refine z_sld (j := i + 1) F Sx dL_law_236 (nI_p1 i) (show i + 1 < L by omega) (show L < 2147483648 by omega) ?_
  refine z_aload_n F dL_law_237 rfl rfl ?_
  refine z_iload F dL_law_238 rfl ?_
  refine z_iconst (v := 2) F dL_law_240 rfl ?_
  refine z_iadd F dL_law_241 ?_
  refine z_sld (j := i + 2) F Sx dL_law_242 (nI_p2 i) (show i + 2 < L by omega) (show L < 2147483648 by omega) ?_
  refine z_callV F z_nwOK wL_good (c_X6_routine (S := S) (xs (i + 1)) (xs (i + 2)) I.2.2.2.2.1.1) mO_at rfl vI_X6_routine vM_L_33 vV_X6_routine vL_X6_routine rfl dL_law_243 rfl rfl (Nat.le_of_ble_eq_true rfl) ⟨(Nat.le_of_ble_eq_true rfl), (Nat.le_of_ble_eq_true rfl), (show _ ≤ 601024 by omega), (show _ ≤ 7293034 by omega)⟩ (fun v h1 hq => ?_)
  obtain ⟨rfl, rfl⟩ := hq
  refine z_icmp_eq (tgt := 653) F dL_law_246 (by decide) (fun c246 => ?_) (fun c246 => absurd rfl c246)
  exact K _ _ _ _ _ _ (INV_routine I) (CT_kx C C' K' (kp_routine _ _ _)) (by omega) (by omega)

set_option maxRecDepth 100000 in
set_option maxHeartbeats 1000000 in
theorem w_rights {G : z_G} {X : z_X} {Q : State → Prop} {L : Nat} {xs : Nat → Int32} (F : z_F vwCl z_ats z_nw wsL_law G RL cL_law 7 room_1 X) (Sx : z_SX G X L xs) {cells slots i : Nat} (hi : i + 5 ≤ L) (hL : L ≤ 2560) (hc : cells + 3 ≤ 601024) (hs : slots + 27 ≤ 7293034) {S : z_S} {x : z_Xc} {o : Nat → Int64} {d : z_H} (I : INV S) (C : CT S x d) (K : LK G X Q cells slots i) : z_V vwCl G 7 X Q cells slots 304 [(0, .ref 0), (1, .ref 1), (2, .ref 11), (3, .ref 31), (4, .int (nI i))] [] (HP (cfun S x) (mfun S o) d) := by
  refine z_aload_n F dL_law_304 rfl rfl ?_
  refine z_aload_n F dL_law_305 rfl rfl ?_
  refine z_iload F dL_law_306 rfl ?_
  refine z_iconst (v := 1) F dL_law_308 rfl ?_
  refine z_iadd F dL_law_309 ?_
  refine z_sld (j := i + 1) F Sx dL_law_310 (nI_p1 i) (show i + 1 < L by omega) (show L < 2147483648 by omega) ?_
  refine z_callV F z_nwOK wL_good (c_X5_rights (xs (i + 1)) C.1) cO_at rfl vI_X5_rights vM_L_39 vV_X5_rights vL_X5_rights rfl dL_law_311 rfl rfl (Nat.le_of_ble_eq_true rfl) ⟨(Nat.le_of_ble_eq_true rfl), (Nat.le_of_ble_eq_true rfl), (show _ ≤ 601024 by omega), (show _ ≤ 7293034 by omega)⟩ (fun v h1 hq => ?_)
  obtain ⟨rfl, x', d', rfl, C', K'⟩ := hq
  refine z_aload_n F dL_law_314 rfl rfl ?_
  refine z_aload_n F dL_law_315 rfl rfl ?_
  refine z_iload F dL_law_316 rfl ?_
  refine z_iconst (v := 1) F dL_law_318 rfl ?_
  refine z_iadd F dL_law_319 ?_
  refine z_sld (j := i + 1) F Sx dL_law_320 (nI_p1 i) (show i + 1 < L by omega) (show L < 2147483648 by omega) ?_
  refine z_callV F z_nwOK wL_good (c_X6_rights (S := S) (xs (i + 1))) mO_at rfl vI_X6_rights vM_L_43 vV_X6_rights vL_X6_rights rfl dL_law_321 rfl rfl (Nat.le_of_ble_eq_true rfl) ⟨(Nat.le_of_ble_eq_true rfl), (Nat.le_of_ble_eq_true rfl), (show _ ≤ 601024 by omega), (show _ ≤ 7293034 by omega)⟩ (fun v h1 hq => ?_)
  obtain ⟨rfl, rfl⟩ := hq
  refine z_icmp_eq (tgt := 653) F dL_law_324 (by decide) (fun c324 => ?_) (fun c324 => absurd rfl c324)
  exact K _ _ _ _ _ _ (INV_rights I) (CT_kx C C' K' (kp_rights _ _)) (by omega) (by omega)

set_option maxRecDepth 100000 in
set_option maxHeartbeats 1000000 in
theorem w_pending {G : z_G} {X : z_X} {Q : State → Prop} {L : Nat} {xs : Nat → Int32} (F : z_F vwCl z_ats z_nw wsL_law G RL cL_law 7 room_1 X) (Sx : z_SX G X L xs) {cells slots i : Nat} (hi : i + 5 ≤ L) (hL : L ≤ 2560) (hc : cells + 3 ≤ 601024) (hs : slots + 27 ≤ 7293034) {S : z_S} {x : z_Xc} {o : Nat → Int64} {d : z_H} (I : INV S) (C : CT S x d) (K : LK G X Q cells slots i) : z_V vwCl G 7 X Q cells slots 410 [(0, .ref 0), (1, .ref 1), (2, .ref 11), (3, .ref 31), (4, .int (nI i))] [] (HP (cfun S x) (mfun S o) d) := by
  refine z_aload_n F dL_law_410 rfl rfl ?_
  refine z_aload_n F dL_law_411 rfl rfl ?_
  refine z_iload F dL_law_412 rfl ?_
  refine z_iconst (v := 1) F dL_law_414 rfl ?_
  refine z_iadd F dL_law_415 ?_
  refine z_sld (j := i + 1) F Sx dL_law_416 (nI_p1 i) (show i + 1 < L by omega) (show L < 2147483648 by omega) ?_
  refine z_callV F z_nwOK wL_good (c_X5_pending (xs (i + 1)) C.1) cO_at rfl vI_X5_pending vM_L_51 vV_X5_pending vL_X5_pending rfl dL_law_417 rfl rfl (Nat.le_of_ble_eq_true rfl) ⟨(Nat.le_of_ble_eq_true rfl), (Nat.le_of_ble_eq_true rfl), (show _ ≤ 601024 by omega), (show _ ≤ 7293034 by omega)⟩ (fun v h1 hq => ?_)
  obtain ⟨rfl, x', d', rfl, C', K'⟩ := hq
  refine z_aload_n F dL_law_420 rfl rfl ?_
  refine z_aload_n F dL_law_421 rfl rfl ?_
  refine z_iload F dL_law_422 rfl ?_
  refine z_iconst (v := 1) F dL_law_424 rfl ?_
  refine z_iadd F dL_law_425 ?_
  refine z_sld (j := i + 1) F Sx dL_law_426 (nI_p1 i) (show i + 1 < L by omega) (show L < 2147483648 by omega) ?_
  refine z_callV F z_nwOK wL_good (c_X6_pending (S := S) (xs (i + 1))) mO_at rfl vI_X6_pending vM_L_54 vV_X6_pending vL_X6_pending rfl dL_law_427 rfl rfl (Nat.le_of_ble_eq_true rfl) ⟨(Nat.le_of_ble_eq_true rfl), (Nat.le_of_ble_eq_true rfl), (show _ ≤ 601024 by omega), (show _ ≤ 7293034 by omega)⟩ (fun v h1 hq => ?_)
  obtain ⟨rfl, rfl⟩ := hq
  refine z_icmp_eq (tgt := 653) F dL_law_430 (by decide) (fun c430 => ?_) (fun c430 => absurd rfl c430)
  exact K _ _ _ _ _ _ (INV_pending I) (CT_kx C C' K' (kp_pending _ _)) (by omega) (by omega)

set_option maxRecDepth 100000 in
set_option maxHeartbeats 1000000 in
theorem w_control {G : z_G} {X : z_X} {Q : State → Prop} {L : Nat} {xs : Nat → Int32} (F : z_F vwCl z_ats z_nw wsL_law G RL cL_law 7 room_1 X) (Sx : z_SX G X L xs) {cells slots i : Nat} (hi : i + 5 ≤ L) (hL : L ≤ 2560) (hc : cells + 3 ≤ 601024) (hs : slots + 27 ≤ 7293034) {S : z_S} {x : z_Xc} {o : Nat → Int64} {d : z_H} (I : INV S) (C : CT S x d) (K : LK G X Q cells slots i) : z_V vwCl G 7 X Q cells slots 329 [(0, .ref 0), (1, .ref 1), (2, .ref 11), (3, .ref 31), (4, .int (nI i))] [] (HP (cfun S x) (mfun S o) d) := by
  refine z_aload_n F dL_law_329 rfl rfl ?_
  refine z_aload_n F dL_law_330 rfl rfl ?_
  refine z_iload F dL_law_331 rfl ?_
  refine z_iconst (v := 1) F dL_law_333 rfl ?_
  refine z_iadd F dL_law_334 ?_
  refine z_sld (j := i + 1) F Sx dL_law_335 (nI_p1 i) (show i + 1 < L by omega) (show L < 2147483648 by omega) ?_
  refine z_aload_n F dL_law_336 rfl rfl ?_
  refine z_iload F dL_law_337 rfl ?_
  refine z_iconst (v := 2) F dL_law_339 rfl ?_
  refine z_iadd F dL_law_340 ?_
  refine z_sld (j := i + 2) F Sx dL_law_341 (nI_p2 i) (show i + 2 < L by omega) (show L < 2147483648 by omega) ?_
  refine z_aload_n F dL_law_342 rfl rfl ?_
  refine z_iload F dL_law_343 rfl ?_
  refine z_iconst (v := 3) F dL_law_345 rfl ?_
  refine z_iadd F dL_law_346 ?_
  refine z_sld (j := i + 3) F Sx dL_law_347 (nI_p3 i) (show i + 3 < L by omega) (show L < 2147483648 by omega) ?_
  refine z_i2l F dL_law_348 ?_
  refine z_bipush (v := 32) F dL_law_349 rfl ?_
  refine z_lshl F dL_law_351 ?_
  refine z_aload_n F dL_law_352 rfl rfl ?_
  refine z_iload F dL_law_353 rfl ?_
  refine z_iconst (v := 4) F dL_law_355 rfl ?_
  refine z_iadd F dL_law_356 ?_
  refine z_sld (j := i + 4) F Sx dL_law_357 (nI_p4 i) (show i + 4 < L by omega) (show L < 2147483648 by omega) ?_
  refine z_i2l F dL_law_358 ?_
  refine z_ldc2 F vK_L_44 dL_law_359 ?_
  refine z_land F dL_law_362 ?_
  refine z_lor F dL_law_363 ?_
  refine z_callV F z_nwOK wL_good (c_X5_control (xs (i + 1)) (xs (i + 2)) (((xs (i + 3)).toInt64 <<< ((32 : Int32).toInt64 &&& 63)) ||| ((xs (i + 4)).toInt64 &&& 4294967295)) C.1 I.2.1.1) cO_at rfl vI_X5_control vM_L_46 vV_X5_control vL_X5_control rfl dL_law_364 rfl rfl (Nat.le_of_ble_eq_true rfl) ⟨(Nat.le_of_ble_eq_true rfl), (Nat.le_of_ble_eq_true rfl), (show _ ≤ 601024 by omega), (show _ ≤ 7293034 by omega)⟩ (fun v h1 hq => ?_)
  obtain ⟨rfl, x', d', rfl, C', K'⟩ := hq
  refine z_aload_n F dL_law_367 rfl rfl ?_
  refine z_aload_n F dL_law_368 rfl rfl ?_
  refine z_iload F dL_law_369 rfl ?_
  refine z_iconst (v := 1) F dL_law_371 rfl ?_
  refine z_iadd F dL_law_372 ?_
  refine z_sld (j := i + 1) F Sx dL_law_373 (nI_p1 i) (show i + 1 < L by omega) (show L < 2147483648 by omega) ?_
  refine z_aload_n F dL_law_374 rfl rfl ?_
  refine z_iload F dL_law_375 rfl ?_
  refine z_iconst (v := 2) F dL_law_377 rfl ?_
  refine z_iadd F dL_law_378 ?_
  refine z_sld (j := i + 2) F Sx dL_law_379 (nI_p2 i) (show i + 2 < L by omega) (show L < 2147483648 by omega) ?_
  refine z_aload_n F dL_law_380 rfl rfl ?_
  refine z_iload F dL_law_381 rfl ?_
  refine z_iconst (v := 3) F dL_law_383 rfl ?_
  refine z_iadd F dL_law_384 ?_
  refine z_sld (j := i + 3) F Sx dL_law_385 (nI_p3 i) (show i + 3 < L by omega) (show L < 2147483648 by omega) ?_
  refine z_i2l F dL_law_386 ?_
  refine z_bipush (v := 32) F dL_law_387 rfl ?_
  refine z_lshl F dL_law_389 ?_
  refine z_aload_n F dL_law_390 rfl rfl ?_
  refine z_iload F dL_law_391 rfl ?_
  refine z_iconst (v := 4) F dL_law_393 rfl ?_
  refine z_iadd F dL_law_394 ?_
  refine z_sld (j := i + 4) F Sx dL_law_395 (nI_p4 i) (show i + 4 < L by omega) (show L < 2147483648 by omega) ?_
  refine z_i2l F dL_law_396 ?_
  refine z_ldc2 F vK_L_44 dL_law_397 ?_
  refine z_land F dL_law_400 ?_
  refine z_lor F dL_law_401 ?_
  refine z_callV F z_nwOK wL_good (c_X6_control (S := S) (xs (i + 1)) (xs (i + 2)) (((xs (i + 3)).toInt64 <<< ((32 : Int32).toInt64 &&& 63)) ||| ((xs (i + 4)).toInt64 &&& 4294967295)) I.2.1.1) mO_at rfl vI_X6_control vM_L_50 vV_X6_control vL_X6_control rfl dL_law_402 rfl rfl (Nat.le_of_ble_eq_true rfl) ⟨(Nat.le_of_ble_eq_true rfl), (Nat.le_of_ble_eq_true rfl), (show _ ≤ 601024 by omega), (show _ ≤ 7293034 by omega)⟩ (fun v h1 hq => ?_)
  obtain ⟨rfl, rfl⟩ := hq
  refine z_icmp_eq (tgt := 653) F dL_law_405 (by decide) (fun c405 => ?_) (fun c405 => absurd rfl c405)
  exact K _ _ _ _ _ _ (INV_control I) (CT_kx C C' K' (kp_control _ _ _ _)) (by omega) (by omega)

set_option maxRecDepth 100000 in
set_option maxHeartbeats 1000000 in
theorem w_tick {G : z_G} {X : z_X} {Q : State → Prop} {L : Nat} {xs : Nat → Int32} (F : z_F vwCl z_ats z_nw wsL_law G RL cL_law 7 room_1 X) (Sx : z_SX G X L xs) {cells slots i : Nat} (hi : i + 5 ≤ L) (hL : L ≤ 2560) (hc : cells + 3 ≤ 601024) (hs : slots + 27 ≤ 7293034) {S : z_S} {x : z_Xc} {o : Nat → Int64} {d : z_H} (I : INV S) (C : CT S x d) (K : LK G X Q cells slots i) : z_V vwCl G 7 X Q cells slots 570 [(0, .ref 0), (1, .ref 1), (2, .ref 11), (3, .ref 31), (4, .int (nI i))] [] (HP (cfun S x) (mfun S o) d) := by
  refine z_aload_n F dL_law_570 rfl rfl ?_
  refine z_aload_n F dL_law_571 rfl rfl ?_
  refine z_iload F dL_law_572 rfl ?_
  refine z_iconst (v := 1) F dL_law_574 rfl ?_
  refine z_iadd F dL_law_575 ?_
  refine z_sld (j := i + 1) F Sx dL_law_576 (nI_p1 i) (show i + 1 < L by omega) (show L < 2147483648 by omega) ?_
  refine z_i2l F dL_law_577 ?_
  refine z_bipush (v := 32) F dL_law_578 rfl ?_
  refine z_lshl F dL_law_580 ?_
  refine z_aload_n F dL_law_581 rfl rfl ?_
  refine z_iload F dL_law_582 rfl ?_
  refine z_iconst (v := 2) F dL_law_584 rfl ?_
  refine z_iadd F dL_law_585 ?_
  refine z_sld (j := i + 2) F Sx dL_law_586 (nI_p2 i) (show i + 2 < L by omega) (show L < 2147483648 by omega) ?_
  refine z_i2l F dL_law_587 ?_
  refine z_ldc2 F vK_L_44 dL_law_588 ?_
  refine z_land F dL_law_591 ?_
  refine z_lor F dL_law_592 ?_
  refine z_callV F z_nwOK wL_good (c_X5_tick (t := (((xs (i + 1)).toInt64 <<< ((32 : Int32).toInt64 &&& 63)) ||| ((xs (i + 2)).toInt64 &&& 4294967295))) C.1 C.2.2.2 I.2.1 I.2.2.1 I.2.2.2.2.1) cO_at rfl vI_X5_tick vM_L_79 vV_X5_tick vL_X5_tick rfl dL_law_593 rfl rfl (Nat.le_of_ble_eq_true rfl) ⟨(Nat.le_of_ble_eq_true rfl), (Nat.le_of_ble_eq_true rfl), (show _ ≤ 601024 by omega), (show _ ≤ 7293034 by omega)⟩ (fun v h1 hq => ?_)
  obtain ⟨rfl, x', d', rfl, C', K'⟩ := hq
  refine z_aload_n F dL_law_596 rfl rfl ?_
  refine z_aload_n F dL_law_597 rfl rfl ?_
  refine z_iload F dL_law_598 rfl ?_
  refine z_iconst (v := 1) F dL_law_600 rfl ?_
  refine z_iadd F dL_law_601 ?_
  refine z_sld (j := i + 1) F Sx dL_law_602 (nI_p1 i) (show i + 1 < L by omega) (show L < 2147483648 by omega) ?_
  refine z_i2l F dL_law_603 ?_
  refine z_bipush (v := 32) F dL_law_604 rfl ?_
  refine z_lshl F dL_law_606 ?_
  refine z_aload_n F dL_law_607 rfl rfl ?_
  refine z_iload F dL_law_608 rfl ?_
  refine z_iconst (v := 2) F dL_law_610 rfl ?_
  refine z_iadd F dL_law_611 ?_
  refine z_sld (j := i + 2) F Sx dL_law_612 (nI_p2 i) (show i + 2 < L by omega) (show L < 2147483648 by omega) ?_
  refine z_i2l F dL_law_613 ?_
  refine z_ldc2 F vK_L_44 dL_law_614 ?_
  refine z_land F dL_law_617 ?_
  refine z_lor F dL_law_618 ?_
  refine z_callV F z_nwOK wL_good (c_X6_tick (S := S) (((xs (i + 1)).toInt64 <<< ((32 : Int32).toInt64 &&& 63)) ||| ((xs (i + 2)).toInt64 &&& 4294967295)) I.2.1 I.2.2.1 I.2.2.2.2.1) mO_at rfl vI_X6_tick vM_L_83 vV_X6_tick vL_X6_tick rfl dL_law_619 rfl rfl (Nat.le_of_ble_eq_true rfl) ⟨(Nat.le_of_ble_eq_true rfl), (Nat.le_of_ble_eq_true rfl), (show _ ≤ 601024 by omega), (show _ ≤ 7293034 by omega)⟩ (fun v h1 hq => ?_)
  obtain ⟨rfl, rfl⟩ := hq
  refine z_icmp_eq (tgt := 653) F dL_law_622 (by decide) (fun c622 => ?_) (fun c622 => absurd rfl c622)
  exact K _ _ _ _ _ _ (INV_tick I) (CT_kx C C' K' (kp_tick _ _)) (by omega) (by omega)

set_option maxRecDepth 100000 in
set_option maxHeartbeats 1000000 in
theorem w_ask {G : z_G} {X : z_X} {Q : State → Prop} {L : Nat} {xs : Nat → Int32} (F : z_F vwCl z_ats z_nw wsL_law G RL cL_law 7 room_1 X) (Sx : z_SX G X L xs) {cells slots i : Nat} (hi : i + 5 ≤ L) (hL : L ≤ 2560) (hc : cells + 3 ≤ 601024) (hs : slots + 27 ≤ 7293034) {S : z_S} {x : z_Xc} {o : Nat → Int64} {d : z_H} (I : INV S) (C : CT S x d) (K : LK G X Q cells slots i) : z_V vwCl G 7 X Q cells slots 435 [(0, .ref 0), (1, .ref 1), (2, .ref 11), (3, .ref 31), (4, .int (nI i))] [] (HP (cfun S x) (mfun S o) d) := by
  refine z_aload_n F dL_law_435 rfl rfl ?_
  refine z_aload_n F dL_law_436 rfl rfl ?_
  refine z_iload F dL_law_437 rfl ?_
  refine z_iconst (v := 1) F dL_law_439 rfl ?_
  refine z_iadd F dL_law_440 ?_
  refine z_sld (j := i + 1) F Sx dL_law_441 (nI_p1 i) (show i + 1 < L by omega) (show L < 2147483648 by omega) ?_
  refine z_i2b F dL_law_442 ?_
  refine z_callV F z_nwOK wL_good (c_X5_ask (b := (xs (i + 1)).toInt8.toInt32) (lw_i8 (xs (i + 1))) C I.1 I.2.1 I.2.2.1 I.2.2.2.1 I.2.2.2.2.1 I.2.2.2.2.2.2.1 I.2.2.2.2.2.1) cO_at rfl vI_X5_ask vM_L_55 vV_X5_ask vL_X5_ask rfl dL_law_443 rfl rfl (Nat.le_of_ble_eq_true rfl) ⟨(Nat.le_of_ble_eq_true rfl), (Nat.le_of_ble_eq_true rfl), (show _ ≤ 601024 by omega), (show _ ≤ 7293034 by omega)⟩ (fun v h1 hq => ?_)
  obtain ⟨rfl, x', d', rfl, C'⟩ := hq
  refine z_aload_n F dL_law_446 rfl rfl ?_
  refine z_aload_n F dL_law_447 rfl rfl ?_
  refine z_iload F dL_law_448 rfl ?_
  refine z_iconst (v := 1) F dL_law_450 rfl ?_
  refine z_iadd F dL_law_451 ?_
  refine z_sld (j := i + 1) F Sx dL_law_452 (nI_p1 i) (show i + 1 < L by omega) (show L < 2147483648 by omega) ?_
  refine z_i2b F dL_law_453 ?_
  refine z_callV F z_nwOK wL_good (c_X6_ask (S := S) I.1 I.2.1 I.2.2.1 I.2.2.2.1 I.2.2.2.2.1 I.2.2.2.2.2.1 (xs (i + 1)).toInt8.toInt32) mO_at rfl vI_X6_ask vM_L_59 vV_X6_ask vL_X6_ask rfl dL_law_454 rfl rfl (Nat.le_of_ble_eq_true rfl) ⟨(Nat.le_of_ble_eq_true rfl), (Nat.le_of_ble_eq_true rfl), (show _ ≤ 601024 by omega), (show _ ≤ 7293034 by omega)⟩ (fun v h1 hq => ?_)
  obtain ⟨rfl, rfl⟩ := hq
  refine z_icmp_eq (tgt := 653) F dL_law_457 (by decide) (fun c457 => ?_) (fun c457 => absurd rfl c457)
  exact K _ _ _ _ _ _ (INV_ask I) C' (by omega) (by omega)

set_option maxRecDepth 100000 in
set_option maxHeartbeats 1000000 in
theorem w_transfer {G : z_G} {X : z_X} {Q : State → Prop} {L : Nat} {xs : Nat → Int32} (F : z_F vwCl z_ats z_nw wsL_law G RL cL_law 7 room_1 X) (Sx : z_SX G X L xs) {cells slots i : Nat} (hi : i + 5 ≤ L) (hL : L ≤ 2560) (hc : cells + 3 ≤ 601024) (hs : slots + 27 ≤ 7293034) {S : z_S} {x : z_Xc} {o : Nat → Int64} {d : z_H} (I : INV S) (C : CT S x d) (K : LK G X Q cells slots i) : z_V vwCl G 7 X Q cells slots 531 [(0, .ref 0), (1, .ref 1), (2, .ref 11), (3, .ref 31), (4, .int (nI i))] [] (HP (cfun S x) (mfun S o) d) := by
  refine z_aload_n F dL_law_531 rfl rfl ?_
  refine z_aload_n F dL_law_532 rfl rfl ?_
  refine z_iload F dL_law_533 rfl ?_
  refine z_iconst (v := 1) F dL_law_535 rfl ?_
  refine z_iadd F dL_law_536 ?_
  refine z_sld (j := i + 1) F Sx dL_law_537 (nI_p1 i) (show i + 1 < L by omega) (show L < 2147483648 by omega) ?_
  refine z_aload_n F dL_law_538 rfl rfl ?_
  refine z_iload F dL_law_539 rfl ?_
  refine z_iconst (v := 2) F dL_law_541 rfl ?_
  refine z_iadd F dL_law_542 ?_
  refine z_sld (j := i + 2) F Sx dL_law_543 (nI_p2 i) (show i + 2 < L by omega) (show L < 2147483648 by omega) ?_
  refine z_i2b F dL_law_544 ?_
  refine z_callV F z_nwOK wL_good (c_X5_transfer (c := (xs (i + 1))) (b := (xs (i + 2)).toInt8.toInt32) C I.1 I.2.1 I.2.2.1 I.2.2.2.1 I.2.2.2.2.1 I.2.2.2.2.2.2.1) cO_at rfl vI_X5_transfer vM_L_74 vV_X5_transfer vL_X5_transfer rfl dL_law_545 rfl rfl (Nat.le_of_ble_eq_true rfl) ⟨(Nat.le_of_ble_eq_true rfl), (Nat.le_of_ble_eq_true rfl), (show _ ≤ 601024 by omega), (show _ ≤ 7293034 by omega)⟩ (fun v h1 hq => ?_)
  obtain ⟨rfl, x', d', rfl, C'⟩ := hq
  refine z_aload_n F dL_law_548 rfl rfl ?_
  refine z_aload_n F dL_law_549 rfl rfl ?_
  refine z_iload F dL_law_550 rfl ?_
  refine z_iconst (v := 1) F dL_law_552 rfl ?_
  refine z_iadd F dL_law_553 ?_
  refine z_sld (j := i + 1) F Sx dL_law_554 (nI_p1 i) (show i + 1 < L by omega) (show L < 2147483648 by omega) ?_
  refine z_aload_n F dL_law_555 rfl rfl ?_
  refine z_iload F dL_law_556 rfl ?_
  refine z_iconst (v := 2) F dL_law_558 rfl ?_
  refine z_iadd F dL_law_559 ?_
  refine z_sld (j := i + 2) F Sx dL_law_560 (nI_p2 i) (show i + 2 < L by omega) (show L < 2147483648 by omega) ?_
  refine z_i2b F dL_law_561 ?_
  refine z_callV F z_nwOK wL_good (c_X6_transfer (S := S) I.1 I.2.1 I.2.2.1 I.2.2.2.1 I.2.2.2.2.1 (xs (i + 1)) (xs (i + 2)).toInt8.toInt32 (Nat.le_trans (INV_transfer (x := (xs (i + 1))) (b := (xs (i + 2)).toInt8.toInt32) I).2.2.2.1.2.1 (INV_transfer (x := (xs (i + 1))) (b := (xs (i + 2)).toInt8.toInt32) I).2.2.2.1.1)) mO_at rfl vI_X6_transfer vM_L_78 vV_X6_transfer vL_X6_transfer rfl dL_law_562 rfl rfl (Nat.le_of_ble_eq_true rfl) ⟨(Nat.le_of_ble_eq_true rfl), (Nat.le_of_ble_eq_true rfl), (show _ ≤ 601024 by omega), (show _ ≤ 7293034 by omega)⟩ (fun v h1 hq => ?_)
  obtain ⟨rfl, rfl⟩ := hq
  refine z_icmp_eq (tgt := 653) F dL_law_565 (by decide) (fun c565 => ?_) (fun c565 => absurd rfl c565)
  exact K _ _ _ _ _ _ (INV_transfer I) C' (by omega) (by omega)

set_option maxRecDepth 100000 in
set_option maxHeartbeats 1000000 in
theorem w_cond1 {G : z_G} {X : z_X} {Q : State → Prop} {L : Nat} {xs : Nat → Int32} (F : z_F vwCl z_ats z_nw wsL_law G RL cL_law 7 room_1 X) (Sx : z_SX G X L xs) {cells slots i : Nat} (hi : i + 5 ≤ L) (hL : L ≤ 2560) (hc : cells + 3 ≤ 601024) (hs : slots + 27 ≤ 7293034) {S : z_S} {x : z_Xc} {o : Nat → Int64} {d : z_H} (I : INV S) (C : CT S x d) (K : LK G X Q cells slots i) (c264 : ¬ xs (i + 2) = 0) : z_V vwCl G 7 X Q cells slots 267 [(0, .ref 0), (1, .ref 1), (2, .ref 11), (3, .ref 31), (4, .int (nI i))] [.int (xs (i + 1)), .ref 1] (HP (cfun S x) (mfun S o) d) := by
  refine z_iconst (v := 1) F dL_law_267 rfl ?_
  refine z_goto (tgt := 272) F dL_law_268 (by decide) ?_
  refine z_callV F z_nwOK wL_good (c_X5_condition (xs (i + 1)) true C.1) cO_at rfl vI_X5_condition vM_L_34 vV_X5_condition vL_X5_condition rfl dL_law_272 rfl rfl (Nat.le_of_ble_eq_true rfl) ⟨(Nat.le_of_ble_eq_true rfl), (Nat.le_of_ble_eq_true rfl), (show _ ≤ 601024 by omega), (show _ ≤ 7293034 by omega)⟩ (fun v h1 hq => ?_)
  obtain ⟨rfl, x', d', rfl, C', K'⟩ := hq
  refine z_aload_n F dL_law_275 rfl rfl ?_
  refine z_aload_n F dL_law_276 rfl rfl ?_
  refine z_iload F dL_law_277 rfl ?_
  refine z_iconst (v := 1) F dL_law_279 rfl ?_
  refine z_iadd F dL_law_280 ?_
  refine z_sld (j := i + 1) F Sx dL_law_281 (nI_p1 i) (show i + 1 < L by omega) (show L < 2147483648 by omega) ?_
  refine z_aload_n F dL_law_282 rfl rfl ?_
  refine z_iload F dL_law_283 rfl ?_
  refine z_iconst (v := 2) F dL_law_285 rfl ?_
  refine z_iadd F dL_law_286 ?_
  refine z_sld (j := i + 2) F Sx dL_law_287 (nI_p2 i) (show i + 2 < L by omega) (show L < 2147483648 by omega) ?_
  refine z_if_eq (tgt := 295) F dL_law_288 (by decide) (fun c288 => absurd c288 c264) (fun c288 => ?_)
  refine z_iconst (v := 1) F dL_law_291 rfl ?_
  refine z_goto (tgt := 296) F dL_law_292 (by decide) ?_
  refine z_callV F z_nwOK wL_good (c_X6_condition (S := S) (xs (i + 1)) true) mO_at rfl vI_X6_condition vM_L_38 vV_X6_condition vL_X6_condition rfl dL_law_296 rfl rfl (Nat.le_of_ble_eq_true rfl) ⟨(Nat.le_of_ble_eq_true rfl), (Nat.le_of_ble_eq_true rfl), (show _ ≤ 601024 by omega), (show _ ≤ 7293034 by omega)⟩ (fun v h1 hq => ?_)
  obtain ⟨rfl, rfl⟩ := hq
  refine z_icmp_eq (tgt := 653) F dL_law_299 (by decide) (fun c299 => ?_) (fun c299 => absurd rfl c299)
  exact K _ _ _ _ _ _ (INV_condition I) (CT_kx C C' K' (kp_condition _ _ _)) (by omega) (by omega)

set_option maxRecDepth 100000 in
set_option maxHeartbeats 1000000 in
theorem w_cond0 {G : z_G} {X : z_X} {Q : State → Prop} {L : Nat} {xs : Nat → Int32} (F : z_F vwCl z_ats z_nw wsL_law G RL cL_law 7 room_1 X) (Sx : z_SX G X L xs) {cells slots i : Nat} (hi : i + 5 ≤ L) (hL : L ≤ 2560) (hc : cells + 3 ≤ 601024) (hs : slots + 27 ≤ 7293034) {S : z_S} {x : z_Xc} {o : Nat → Int64} {d : z_H} (I : INV S) (C : CT S x d) (K : LK G X Q cells slots i) (c264 : xs (i + 2) = 0) : z_V vwCl G 7 X Q cells slots 271 [(0, .ref 0), (1, .ref 1), (2, .ref 11), (3, .ref 31), (4, .int (nI i))] [.int (xs (i + 1)), .ref 1] (HP (cfun S x) (mfun S o) d) := by
  refine z_iconst (v := 0) F dL_law_271 rfl ?_
  refine z_callV F z_nwOK wL_good (c_X5_condition (xs (i + 1)) false C.1) cO_at rfl vI_X5_condition vM_L_34 vV_X5_condition vL_X5_condition rfl dL_law_272 rfl rfl (Nat.le_of_ble_eq_true rfl) ⟨(Nat.le_of_ble_eq_true rfl), (Nat.le_of_ble_eq_true rfl), (show _ ≤ 601024 by omega), (show _ ≤ 7293034 by omega)⟩ (fun v h1 hq => ?_)
  obtain ⟨rfl, x', d', rfl, C', K'⟩ := hq
  refine z_aload_n F dL_law_275 rfl rfl ?_
  refine z_aload_n F dL_law_276 rfl rfl ?_
  refine z_iload F dL_law_277 rfl ?_
  refine z_iconst (v := 1) F dL_law_279 rfl ?_
  refine z_iadd F dL_law_280 ?_
  refine z_sld (j := i + 1) F Sx dL_law_281 (nI_p1 i) (show i + 1 < L by omega) (show L < 2147483648 by omega) ?_
  refine z_aload_n F dL_law_282 rfl rfl ?_
  refine z_iload F dL_law_283 rfl ?_
  refine z_iconst (v := 2) F dL_law_285 rfl ?_
  refine z_iadd F dL_law_286 ?_
  refine z_sld (j := i + 2) F Sx dL_law_287 (nI_p2 i) (show i + 2 < L by omega) (show L < 2147483648 by omega) ?_
  refine z_if_eq (tgt := 295) F dL_law_288 (by decide) (fun c288 => ?_) (fun c288 => absurd c264 c288)
  refine z_iconst (v := 0) F dL_law_295 rfl ?_
  refine z_callV F z_nwOK wL_good (c_X6_condition (S := S) (xs (i + 1)) false) mO_at rfl vI_X6_condition vM_L_38 vV_X6_condition vL_X6_condition rfl dL_law_296 rfl rfl (Nat.le_of_ble_eq_true rfl) ⟨(Nat.le_of_ble_eq_true rfl), (Nat.le_of_ble_eq_true rfl), (show _ ≤ 601024 by omega), (show _ ≤ 7293034 by omega)⟩ (fun v h1 hq => ?_)
  obtain ⟨rfl, rfl⟩ := hq
  refine z_icmp_eq (tgt := 653) F dL_law_299 (by decide) (fun c299 => ?_) (fun c299 => absurd rfl c299)
  exact K _ _ _ _ _ _ (INV_condition I) (CT_kx C C' K' (kp_condition _ _ _)) (by omega) (by omega)

set_option maxRecDepth 100000 in
set_option maxHeartbeats 1000000 in
theorem w_condition {G : z_G} {X : z_X} {Q : State → Prop} {L : Nat} {xs : Nat → Int32} (F : z_F vwCl z_ats z_nw wsL_law G RL cL_law 7 room_1 X) (Sx : z_SX G X L xs) {cells slots i : Nat} (hi : i + 5 ≤ L) (hL : L ≤ 2560) (hc : cells + 3 ≤ 601024) (hs : slots + 27 ≤ 7293034) {S : z_S} {x : z_Xc} {o : Nat → Int64} {d : z_H} (I : INV S) (C : CT S x d) (K : LK G X Q cells slots i) : z_V vwCl G 7 X Q cells slots 251 [(0, .ref 0), (1, .ref 1), (2, .ref 11), (3, .ref 31), (4, .int (nI i))] [] (HP (cfun S x) (mfun S o) d) := by
  refine z_aload_n F dL_law_251 rfl rfl ?_
  refine z_aload_n F dL_law_252 rfl rfl ?_
  refine z_iload F dL_law_253 rfl ?_
  refine z_iconst (v := 1) F dL_law_255 rfl ?_
  refine z_iadd F dL_law_256 ?_
  refine z_sld (j := i + 1) F Sx dL_law_257 (nI_p1 i) (show i + 1 < L by omega) (show L < 2147483648 by omega) ?_
  refine z_aload_n F dL_law_258 rfl rfl ?_
  refine z_iload F dL_law_259 rfl ?_
  refine z_iconst (v := 2) F dL_law_261 rfl ?_
  refine z_iadd F dL_law_262 ?_
  refine z_sld (j := i + 2) F Sx dL_law_263 (nI_p2 i) (show i + 2 < L by omega) (show L < 2147483648 by omega) ?_
  refine z_if_eq (tgt := 271) F dL_law_264 (by decide) (fun c264 => ?_) (fun c264 => ?_)
  · exact w_cond0 F Sx hi hL hc hs I C K c264
  · exact w_cond1 F Sx hi hL hc hs I C K c264

set_option maxRecDepth 100000 in
set_option maxHeartbeats 1000000 in
theorem w_code {G : z_G} {X : z_X} {Q : State → Prop} {L : Nat} {xs : Nat → Int32} (F : z_F vwCl z_ats z_nw wsL_law G RL cL_law 7 room_1 X) (Sx : z_SX G X L xs) {cells slots i : Nat} (hi : i + 5 ≤ L) (hL : L ≤ 2560) (hc : cells + 3 ≤ 601024) (hs : slots + 27 ≤ 7293034) {S : z_S} {x : z_Xc} {o : Nat → Int64} {d : z_H} (I : INV S) (C : CT S x d) (K : LK G X Q cells slots i) : z_V vwCl G 7 X Q cells slots 518 [(0, .ref 0), (1, .ref 1), (2, .ref 11), (3, .ref 31), (4, .int (nI i))] [] (HP (cfun S x) (mfun S o) d) := by
  refine z_aload_n F dL_law_518 rfl rfl ?_
  refine z_callV F z_nwOK wL_good (c_X5_code) cO_at rfl vI_X5_code vM_L_70 vV_X5_code vL_X5_code rfl dL_law_519 rfl rfl (Nat.le_of_ble_eq_true rfl) ⟨(Nat.le_of_ble_eq_true rfl), (Nat.le_of_ble_eq_true rfl), (show _ ≤ 601024 by omega), (show _ ≤ 7293034 by omega)⟩ (fun v h1 hq => ?_)
  obtain ⟨rfl, rfl⟩ := hq
  refine z_aload_n F dL_law_522 rfl rfl ?_
  refine z_callV F z_nwOK wL_good (c_X6_code (S := S)) mO_at rfl vI_X6_code vM_L_73 vV_X6_code vL_X6_code rfl dL_law_523 rfl rfl (Nat.le_of_ble_eq_true rfl) ⟨(Nat.le_of_ble_eq_true rfl), (Nat.le_of_ble_eq_true rfl), (show _ ≤ 601024 by omega), (show _ ≤ 7293034 by omega)⟩ (fun v h1 hq => ?_)
  obtain ⟨rfl, rfl⟩ := hq
  refine z_heap (HP (cfun (uN S 0 0) x) (mfun (uN S 0 0) o) d) rfl ?_
  refine z_icmp_eq (tgt := 653) F dL_law_526 (by decide) (fun c526 => ?_) (fun c526 => absurd rfl c526)
  exact K (uN S 0 0) x o d _ _ (INV_0n 0 I) C (by omega) (by omega)

set_option maxRecDepth 100000 in
set_option maxHeartbeats 1000000 in
theorem w_value {G : z_G} {X : z_X} {Q : State → Prop} {L : Nat} {xs : Nat → Int32} (F : z_F vwCl z_ats z_nw wsL_law G RL cL_law 7 room_1 X) (Sx : z_SX G X L xs) {cells slots i : Nat} (hi : i + 5 ≤ L) (hL : L ≤ 2560) (hc : cells + 3 ≤ 601024) (hs : slots + 27 ≤ 7293034) {S : z_S} {x : z_Xc} {o : Nat → Int64} {d : z_H} (I : INV S) (C : CT S x d) (K : LK G X Q cells slots i) : z_V vwCl G 7 X Q cells slots 627 [(0, .ref 0), (1, .ref 1), (2, .ref 11), (3, .ref 31), (4, .int (nI i))] [] (HP (cfun S x) (mfun S o) d) := by
  refine z_aload_n F dL_law_627 rfl rfl ?_
  refine z_aload_n F dL_law_628 rfl rfl ?_
  refine z_iload F dL_law_629 rfl ?_
  refine z_iconst (v := 1) F dL_law_631 rfl ?_
  refine z_iadd F dL_law_632 ?_
  refine z_sld (j := i + 1) F Sx dL_law_633 (nI_p1 i) (show i + 1 < L by omega) (show L < 2147483648 by omega) ?_
  refine z_callV F z_nwOK wL_good (c_X5_value (xs (i + 1)) C.1 I.2.1) cO_at rfl vI_X5_value vM_L_84 vV_X5_value vL_X5_value rfl dL_law_634 rfl rfl (Nat.le_of_ble_eq_true rfl) ⟨(Nat.le_of_ble_eq_true rfl), (Nat.le_of_ble_eq_true rfl), (show _ ≤ 601024 by omega), (show _ ≤ 7293034 by omega)⟩ (fun v h1 hq => ?_)
  obtain ⟨rfl, rfl⟩ := hq
  refine z_aload_n F dL_law_637 rfl rfl ?_
  refine z_aload_n F dL_law_638 rfl rfl ?_
  refine z_iload F dL_law_639 rfl ?_
  refine z_iconst (v := 1) F dL_law_641 rfl ?_
  refine z_iadd F dL_law_642 ?_
  refine z_sld (j := i + 1) F Sx dL_law_643 (nI_p1 i) (show i + 1 < L by omega) (show L < 2147483648 by omega) ?_
  refine z_callV F z_nwOK wL_good (c_X6_value (S := S) (xs (i + 1)) I.2.1) mO_at rfl vI_X6_value vM_L_88 vV_X6_value vL_X6_value rfl dL_law_644 rfl rfl (Nat.le_of_ble_eq_true rfl) ⟨(Nat.le_of_ble_eq_true rfl), (Nat.le_of_ble_eq_true rfl), (show _ ≤ 601024 by omega), (show _ ≤ 7293034 by omega)⟩ (fun v h1 hq => ?_)
  obtain ⟨rfl, rfl⟩ := hq
  refine z_heap (HP (cfun (uN S 0 0) x) (mfun (uN S 0 0) o) d) rfl ?_
  refine z_lcmp F dL_law_647 ?_
  refine z_if_eq (tgt := 653) F dL_law_648 (by decide) (fun c648 => ?_) (fun c648 => absurd (lg_cmp_self _) c648)
  exact K (uN S 0 0) x o d _ _ (INV_0n 0 I) C (by omega) (by omega)

set_option maxRecDepth 100000 in
set_option maxHeartbeats 1000000 in
theorem w_answerY {G : z_G} {X : z_X} {Q : State → Prop} {L : Nat} {xs : Nat → Int32} (F : z_F vwCl z_ats z_nw wsL_law G RL cL_law 7 room_1 X) (Sx : z_SX G X L xs) {cells slots i : Nat} (hi : i + 5 ≤ L) (hL : L ≤ 2560) (hc : cells + 3 ≤ 601024) (hs : slots + 27 ≤ 7293034) {S : z_S} {x : z_Xc} {o : Nat → Int64} {d : z_H} (I : INV S) (C : CT S x d) (K : LK G X Q cells slots i) (hl0 : X.2.1.stackTraces = false) (hTH : y_TH G.2.2.2 X.2.2.2.2.1) {j : Nat} (hj : j < sN S 40) (hy : xs (i + 1) = nI j) : z_V vwCl G 7 X Q cells slots 462 [(0, .ref 0), (1, .ref 1), (2, .ref 11), (3, .ref 31), (4, .int (nI i))] [] (HP (cfun S x) (mfun S o) d) := by
  have A : AR S x := C.1.2.2.2.2.2.1
  have A1 := A.1
  refine z_aload_n F dL_law_462 rfl rfl ?_
  refine z_aload_n F dL_law_463 rfl rfl ?_
  refine z_iload F dL_law_464 rfl ?_
  refine z_iconst (v := 1) F dL_law_466 rfl ?_
  refine z_iadd F dL_law_467 ?_
  refine z_sld (j := i + 1) F Sx dL_law_468 (nI_p1 i) (show i + 1 < L by omega) (show L < 2147483648 by omega) ?_
  refine z_aload_n F dL_law_469 rfl rfl ?_
  rw [hy]
  refine z_callSW F hl0 hTH (c_L_answer_y (S := S) (S' := S) (x := x) (o := o) (d := d) (j := j) A hj (by rw [A.2 j hj]; exact lw_i8 _)) vM_L_60 dL_law_470 rfl rfl (Nat.le_of_ble_eq_true rfl) ⟨(Nat.le_of_ble_eq_true rfl), (Nat.le_of_ble_eq_true rfl), (show _ ≤ 601024 by omega), (show _ ≤ 7293034 by omega)⟩ (fun v h1 hq => ?_)
  obtain ⟨rfl, rfl⟩ := hq
  refine z_istore F dL_law_473 (Nat.le_of_ble_eq_true rfl) ?_
  refine z_pick (lv' := [(0, .ref 0), (1, .ref 1), (2, .ref 11), (3, .ref 31), (4, .int (nI i)), (5, .int 0)]) [0, 1, 2, 3, 4, 5] rfl ?_
  refine z_aload_n F dL_law_475 rfl rfl ?_
  refine z_aload_n F dL_law_476 rfl rfl ?_
  refine z_iload F dL_law_477 rfl ?_
  refine z_iconst (v := 1) F dL_law_479 rfl ?_
  refine z_iadd F dL_law_480 ?_
  refine z_sld (j := i + 1) F Sx dL_law_481 (nI_p1 i) (show i + 1 < L by omega) (show L < 2147483648 by omega) ?_
  rw [hy]
  refine z_callV F z_nwOK wL_good (c_X6_answer_y (S := S) (j := j) hj (by omega)) mO_at rfl vI_X6_answer vM_L_65 vV_X6_answer vL_X6_answer rfl dL_law_482 rfl rfl (Nat.le_of_ble_eq_true rfl) ⟨(Nat.le_of_ble_eq_true rfl), (Nat.le_of_ble_eq_true rfl), (show _ ≤ 601024 by omega), (show _ ≤ 7293034 by omega)⟩ (fun v h1 hq => ?_)
  obtain ⟨rfl, rfl⟩ := hq
  refine z_heap (HP (cfun (uN S 0 0) x) (mfun (uN S 0 0) (vp_updL o 0 (xa x j).toInt64)) d) rfl ?_
  refine z_istore F dL_law_485 (Nat.le_of_ble_eq_true rfl) ?_
  refine z_aload_n F dL_law_487 rfl rfl ?_
  refine z_callV F z_nwOK wL_good (c_X6_thrown (S := uN S 0 0)) mO_at rfl vI_X6_thrown vM_L_66 vV_X6_thrown vL_X6_thrown rfl dL_law_488 rfl rfl (Nat.le_of_ble_eq_true rfl) ⟨(Nat.le_of_ble_eq_true rfl), (Nat.le_of_ble_eq_true rfl), (show _ ≤ 601024 by omega), (show _ ≤ 7293034 by omega)⟩ (fun v h1 hq => ?_)
  obtain ⟨rfl, rfl⟩ := hq
  refine z_iload F dL_law_491 rfl ?_
  refine z_icmp_eq (tgt := 498) F dL_law_493 (by decide) (fun c493 => ?_) (fun c493 => absurd rfl c493)
  refine z_iload F dL_law_498 rfl ?_
  refine z_if_ne (tgt := 515) F dL_law_500 (by decide) (fun c500 => absurd rfl c500) (fun c500 => ?_)
  refine z_aload_n F dL_law_503 rfl rfl ?_
  refine z_iconst (v := 0) F dL_law_504 rfl ?_
  refine z_lald (j := 0) F dL_law_505 mA_o rfl rfl (show 0 < 1 by omega) (Nat.le_of_ble_eq_true rfl) ?_
  refine z_iload F dL_law_506 rfl ?_
  refine z_i2l F dL_law_508 ?_
  refine z_lcmp F dL_law_509 ?_
  refine z_if_eq (tgt := 515) F dL_law_510 (by decide) (fun c510 => ?_) (fun c510 => absurd (by rw [A.2 j hj]; exact lg_cmp_self _) c510)
  refine z_goto (tgt := 653) F dL_law_515 (by decide) ?_
  refine z_pick [0, 1, 2, 3, 4] rfl ?_
  exact K (uN S 0 0) x _ d _ _ (INV_0n 0 I) C (by omega) (by omega)

set_option maxRecDepth 100000 in
set_option maxHeartbeats 1000000 in
theorem w_answerN {G : z_G} {X : z_X} {Q : State → Prop} {L : Nat} {xs : Nat → Int32} (F : z_F vwCl z_ats z_nw wsL_law G RL cL_law 7 room_1 X) (Sx : z_SX G X L xs) {cells slots i : Nat} (hi : i + 5 ≤ L) (hL : L ≤ 2560) (hc : cells + 3 ≤ 601024) (hs : slots + 27 ≤ 7293034) {S : z_S} {x : z_Xc} {o : Nat → Int64} {d : z_H} (I : INV S) (C : CT S x d) (K : LK G X Q cells slots i) (hl0 : X.2.1.stackTraces = false) (hTH : y_TH G.2.2.2 X.2.2.2.2.1) (hy : xs (i + 1) < 0 ∨ nI (sN S 40) ≤ xs (i + 1)) : z_V vwCl G 7 X Q cells slots 462 [(0, .ref 0), (1, .ref 1), (2, .ref 11), (3, .ref 31), (4, .int (nI i))] [] (HP (cfun S x) (mfun S o) d) := by
  have A : AR S x := C.1.2.2.2.2.2.1
  have A1 := A.1
  refine z_aload_n F dL_law_462 rfl rfl ?_
  refine z_aload_n F dL_law_463 rfl rfl ?_
  refine z_iload F dL_law_464 rfl ?_
  refine z_iconst (v := 1) F dL_law_466 rfl ?_
  refine z_iadd F dL_law_467 ?_
  refine z_sld (j := i + 1) F Sx dL_law_468 (nI_p1 i) (show i + 1 < L by omega) (show L < 2147483648 by omega) ?_
  refine z_aload_n F dL_law_469 rfl rfl ?_
  refine z_callSW F hl0 hTH (c_L_answer_n (S := S) (S' := S) (x := x) (o := o) (d := d) hy) vM_L_60 dL_law_470 rfl rfl (Nat.le_of_ble_eq_true rfl) ⟨(Nat.le_of_ble_eq_true rfl), (Nat.le_of_ble_eq_true rfl), (show _ ≤ 601024 by omega), (show _ ≤ 7293034 by omega)⟩ (fun v h1 hq => ?_)
  obtain ⟨rfl, rfl⟩ := hq
  refine z_istore F dL_law_473 (Nat.le_of_ble_eq_true rfl) ?_
  refine z_pick (lv' := [(0, .ref 0), (1, .ref 1), (2, .ref 11), (3, .ref 31), (4, .int (nI i)), (5, .int 1)]) [0, 1, 2, 3, 4, 5] rfl ?_
  refine z_aload_n F dL_law_475 rfl rfl ?_
  refine z_aload_n F dL_law_476 rfl rfl ?_
  refine z_iload F dL_law_477 rfl ?_
  refine z_iconst (v := 1) F dL_law_479 rfl ?_
  refine z_iadd F dL_law_480 ?_
  refine z_sld (j := i + 1) F Sx dL_law_481 (nI_p1 i) (show i + 1 < L by omega) (show L < 2147483648 by omega) ?_
  refine z_callV F z_nwOK wL_good (c_X6_answer_n (S := S) (i := (xs (i + 1))) (fun a b => by rcases hy with h | h; exact a h; exact b h)) mO_at rfl vI_X6_answer vM_L_65 vV_X6_answer vL_X6_answer rfl dL_law_482 rfl rfl (Nat.le_of_ble_eq_true rfl) ⟨(Nat.le_of_ble_eq_true rfl), (Nat.le_of_ble_eq_true rfl), (show _ ≤ 601024 by omega), (show _ ≤ 7293034 by omega)⟩ (fun v h1 hq => ?_)
  obtain ⟨rfl, rfl⟩ := hq
  refine z_heap (HP (cfun (uN S 0 1) x) (mfun (uN S 0 1) o) (d ++ [.inr (0, [])])) rfl ?_
  refine z_istore F dL_law_485 (Nat.le_of_ble_eq_true rfl) ?_
  refine z_aload_n F dL_law_487 rfl rfl ?_
  refine z_callV F z_nwOK wL_good (c_X6_thrown (S := uN S 0 1)) mO_at rfl vI_X6_thrown vM_L_66 vV_X6_thrown vL_X6_thrown rfl dL_law_488 rfl rfl (Nat.le_of_ble_eq_true rfl) ⟨(Nat.le_of_ble_eq_true rfl), (Nat.le_of_ble_eq_true rfl), (show _ ≤ 601024 by omega), (show _ ≤ 7293034 by omega)⟩ (fun v h1 hq => ?_)
  obtain ⟨rfl, rfl⟩ := hq
  refine z_iload F dL_law_491 rfl ?_
  refine z_icmp_eq (tgt := 498) F dL_law_493 (by decide) (fun c493 => ?_) (fun c493 => absurd rfl c493)
  refine z_iload F dL_law_498 rfl ?_
  refine z_if_ne (tgt := 515) F dL_law_500 (by decide) (fun c500 => ?_) (fun c500 => absurd c500 (by decide))
  refine z_goto (tgt := 653) F dL_law_515 (by decide) ?_
  refine z_pick [0, 1, 2, 3, 4] rfl ?_
  refine K (uN S 0 1) x o (d ++ [(.inr (0, []) : z_E)]) _ _ (INV_0n 1 I) (CT_pn C) ?_ ?_ <;> omega

set_option maxRecDepth 100000 in
set_option maxHeartbeats 1000000 in
theorem w_answer {G : z_G} {X : z_X} {Q : State → Prop} {L : Nat} {xs : Nat → Int32} (F : z_F vwCl z_ats z_nw wsL_law G RL cL_law 7 room_1 X) (Sx : z_SX G X L xs) {cells slots i : Nat} (hi : i + 5 ≤ L) (hL : L ≤ 2560) (hc : cells + 3 ≤ 601024) (hs : slots + 27 ≤ 7293034) {S : z_S} {x : z_Xc} {o : Nat → Int64} {d : z_H} (I : INV S) (C : CT S x d) (K : LK G X Q cells slots i) (hl0 : X.2.1.stackTraces = false) (hTH : y_TH G.2.2.2 X.2.2.2.2.1) : z_V vwCl G 7 X Q cells slots 462 [(0, .ref 0), (1, .ref 1), (2, .ref 11), (3, .ref 31), (4, .int (nI i))] [] (HP (cfun S x) (mfun S o) d) := by
  rcases an_cases (show sN S 40 ≤ 41 from C.1.2.2.2.2.2.1.1) (xs (i + 1)) with ⟨j, hj, hy⟩ | hy
  · exact w_answerY F Sx hi hL hc hs I C K hl0 hTH hj hy
  · exact w_answerN F Sx hi hL hc hs I C K hl0 hTH hy

set_option maxRecDepth 100000 in
set_option maxHeartbeats 1000000 in
theorem w_round {G : z_G} {X : z_X} {Q : State → Prop} {L : Nat} {xs : Nat → Int32} (F : z_F vwCl z_ats z_nw wsL_law G RL cL_law 7 room_1 X) (Sx : z_SX G X L xs) {cells slots i : Nat} (hi : i + 5 ≤ L) (hL : L ≤ 2560) (hc : cells + 3 ≤ 601024) (hs : slots + 27 ≤ 7293034) {S : z_S} {x : z_Xc} {o : Nat → Int64} {d : z_H} (I : INV S) (C : CT S x d) (K : LK G X Q cells slots i) (hl0 : X.2.1.stackTraces = false) (hTH : y_TH G.2.2.2 X.2.2.2.2.1) : z_V vwCl G 7 X Q cells slots 32 [(0, .ref 0), (1, .ref 1), (2, .ref 11), (3, .ref 31), (4, .int (nI i))] [] (HP (cfun S x) (mfun S o) d) := by
  obtain ⟨j, hj, hv⟩ := lw_and (xs i)
  refine z_aload_n F dL_law_32 rfl rfl ?_
  refine z_iload F dL_law_33 rfl ?_
  refine z_sld (j := i) F Sx dL_law_35 rfl (by omega) (by omega) ?_
  refine z_bipush (v := 15) F dL_law_36 rfl ?_
  refine z_iand F dL_law_38 ?_
  rw [hv]
  rcases (show j = 0 ∨ j = 1 ∨ j = 2 ∨ j = 3 ∨ j = 4 ∨ j = 5 ∨ j = 6 ∨ j = 7 ∨ j = 8 ∨ j = 9 ∨ j = 10 ∨ j = 11 ∨ j = 12 ∨ j = 13 ∨ j = 14 ∨ j = 15 by omega) with rfl | rfl | rfl | rfl | rfl | rfl | rfl | rfl | rfl | rfl | rfl | rfl | rfl | rfl | rfl | rfl
  · exact z_tableIn (off := 65) (tgt := 104) F dL_law_39 (by decide) (by decide) rfl (by decide) (w_identifier F Sx hi hL hc hs I C K)
  · exact z_tableIn (off := 126) (tgt := 165) F dL_law_39 (by decide) (by decide) rfl (by decide) (w_dynamic F Sx hi hL hc hs I C K)
  · exact z_tableIn (off := 175) (tgt := 214) F dL_law_39 (by decide) (by decide) rfl (by decide) (w_routine F Sx hi hL hc hs I C K)
  · exact z_tableIn (off := 212) (tgt := 251) F dL_law_39 (by decide) (by decide) rfl (by decide) (w_condition F Sx hi hL hc hs I C K)
  · exact z_tableIn (off := 265) (tgt := 304) F dL_law_39 (by decide) (by decide) rfl (by decide) (w_rights F Sx hi hL hc hs I C K)
  · exact z_tableIn (off := 290) (tgt := 329) F dL_law_39 (by decide) (by decide) rfl (by decide) (w_control F Sx hi hL hc hs I C K)
  · exact z_tableIn (off := 371) (tgt := 410) F dL_law_39 (by decide) (by decide) rfl (by decide) (w_pending F Sx hi hL hc hs I C K)
  · exact z_tableIn (off := 396) (tgt := 435) F dL_law_39 (by decide) (by decide) rfl (by decide) (w_ask F Sx hi hL hc hs I C K)
  · exact z_tableIn (off := 423) (tgt := 462) F dL_law_39 (by decide) (by decide) rfl (by decide) (w_answer F Sx hi hL hc hs I C K hl0 hTH)
  · exact z_tableIn (off := 479) (tgt := 518) F dL_law_39 (by decide) (by decide) rfl (by decide) (w_code F Sx hi hL hc hs I C K)
  · exact z_tableIn (off := 492) (tgt := 531) F dL_law_39 (by decide) (by decide) rfl (by decide) (w_transfer F Sx hi hL hc hs I C K)
  · exact z_tableIn (off := 531) (tgt := 570) F dL_law_39 (by decide) (by decide) rfl (by decide) (w_tick F Sx hi hL hc hs I C K)
  · exact z_tableIn (off := 588) (tgt := 627) F dL_law_39 (by decide) (by decide) rfl (by decide) (w_value F Sx hi hL hc hs I C K)
  · exact z_tableOut (tgt := 653) F dL_law_39 (by decide) (by decide) (K S x o d _ _ I C (by omega) (by omega))
  · exact z_tableOut (tgt := 653) F dL_law_39 (by decide) (by decide) (K S x o d _ _ I C (by omega) (by omega))
  · exact z_tableOut (tgt := 653) F dL_law_39 (by decide) (by decide) (K S x o d _ _ I C (by omega) (by omega))

set_option maxRecDepth 100000 in
set_option maxHeartbeats 1000000 in
theorem w_loop {G : z_G} {X : z_X} {Q : State → Prop} {L : Nat} {xs : Nat → Int32} (F : z_F vwCl z_ats z_nw wsL_law G RL cL_law 7 room_1 X) (Sx : z_SX G X L xs) (hL : L ≤ 2560) (hl0 : X.2.1.stackTraces = false) (hTH : y_TH G.2.2.2 X.2.2.2.2.1) (E : ∀ (h : z_H) (lv : List (Nat × Value)) (c' s' : Nat), c' ≤ 601024 → s' ≤ 7293034 → z_V vwCl G 7 X Q c' s' 659 lv [] h) :
    ∀ (n i : Nat) (S : z_S) (x : z_Xc) (o : Nat → Int64) (d : z_H) (cells slots : Nat), INV S → CT S x d → L < i + 5 * n → i ≤ 2565 → cells + 3 * n ≤ 601024 → slots + 27 * n ≤ 7293034 → z_V vwCl G 7 X Q cells slots 23 [(0, .ref 0), (1, .ref 1), (2, .ref 11), (3, .ref 31), (4, .int (nI i))] [] (HP (cfun S x) (mfun S o) d) := by
  intro n
  induction n with
  | zero =>
    intro i S x o d cells slots I C hn hi hc hs
    refine z_iload F dL_law_23 rfl ?_
    refine z_aload_n F dL_law_25 rfl rfl ?_
    refine z_salen F Sx dL_law_26 ?_
    refine z_iconst (v := 5) F dL_law_27 rfl ?_
    refine z_isub F dL_law_28 ?_
    refine z_icmp_gt (tgt := 659) F dL_law_29 (by decide) (fun _ => E _ _ _ _ (by omega) (by omega)) (fun c29 => absurd ((lw_cmp hL (by omega)).mpr (by omega)) c29)
  | succ n ih =>
    intro i S x o d cells slots I C hn hi hc hs
    refine z_iload F dL_law_23 rfl ?_
    refine z_aload_n F dL_law_25 rfl rfl ?_
    refine z_salen F Sx dL_law_26 ?_
    refine z_iconst (v := 5) F dL_law_27 rfl ?_
    refine z_isub F dL_law_28 ?_
    refine z_icmp_gt (tgt := 659) F dL_law_29 (by decide) (fun _ => E _ _ _ _ (by omega) (by omega)) (fun c29 => ?_)
    have hi5 : i + 5 ≤ L := by
      have := mt (lw_cmp (L := L) (i := i) hL (by omega)).mpr c29
      omega
    refine w_round F Sx hi5 hL (by omega) (by omega) I C (fun S' x' o' d' c' s' I' C' hc' hs' => ?_) hl0 hTH
    refine z_iinc (w := 5) F dL_law_653 rfl rfl (Nat.le_of_ble_eq_true rfl) ?_
    refine z_goto (tgt := 23) F dL_law_656 (by decide) ?_
    rw [nI_p5]
    refine z_pick (lv' := [(0, .ref 0), (1, .ref 1), (2, .ref 11), (3, .ref 31), (4, .int (nI (i + 5)))]) [0, 1, 2, 3, 4] rfl ?_
    exact ih (i + 5) S' x' o' d' c' s' I' C' (by omega) (by omega) (by omega) (by omega)
