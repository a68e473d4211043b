theorem z_topi {cl : List vw_C} {G : z_G} {nL : Nat} {X : z_X} {Q : State → Prop} {cells slots pc : Nat} {lv : List (Nat × Value)} {st : List Value} {h : z_H} {x : Int32} (y : Int32) (hx : x = y) (k : z_V cl G nL X Q cells slots pc lv (.int y :: st) h) : z_V cl G nL X Q cells slots pc lv (.int x :: st) h := by rw [hx]; exact k
theorem z_topl {cl : List vw_C} {G : z_G} {nL : Nat} {X : z_X} {Q : State → Prop} {cells slots pc : Nat} {lv : List (Nat × Value)} {st : List Value} {h : z_H} {x : Int64} (y : Int64) (hx : x = y) (k : z_V cl G nL X Q cells slots pc lv (.long y :: st) h) : z_V cl G nL X Q cells slots pc lv (.long x :: st) h := by rw [hx]; exact k
def b8 (b : Int32) : Nat := b.toBitVec.toNat % 256
theorem b8_lt (b : Int32) : b8 b < 256 := Nat.mod_lt _ (by decide)
theorem b8_and (b : Int32) : b &&& 255 = nI (b8 b) := pk_and b 8 (by decide)
def undOK (S : z_S) : Prop := (∀ k, sAN S 36 k < 256) ∧ sN S 35 ≤ 60 ∧ (sB S 33 = true → 0 < sN S 32 ∧ sN S 35 + sN S 32 ≤ 60)
def cpyR (S : z_S) (i k : Nat) : Nat := if k < i then sAN S 36 k else sAN S 39 k
theorem cpyR_step (S : z_S) (i : Nat) : va_up (cpyR S i) i (sAN S 36 i) = cpyR S (i + 1) := by
  funext k
  unfold va_up cpyR
  by_cases h : k = i
  · subst h; simp
  · by_cases h2 : k < i
    · have h3 : k < i + 1 := by omega
      simp [h, h2, h3]
    · have h3 : ¬ k < i + 1 := by omega
      simp [h, h2, h3]
def askM (D : z_S) (i : Nat) : z_S := uAN (uN (uB D 37 (sB D 34)) 38 (sN D 35)) 39 (cpyR D i)
def ask2 (D : z_S) : z_S := askM D (sN D 35)
def askE (D : z_S) : Int32 × z_S := if sB D 33 = true then (0, D) else (nI (sN (lkS (ask2 D)) 40), lkS (ask2 D))
def ask1 (S : z_S) (b : Int32) : z_S :=
  if sB S 33 = true then uB (uN (uN (uAN (uN S 0 0) 36 (va_up (sAN S 36) (sN S 35) (b8 b))) 35 (sN S 35 + 1)) 32 (sN S 32 - 1)) 33 (decide (0 < sN S 32 - 1))
  else uB (uN (uB (uN (uN (uN S 0 0) 32 (b8 b % 128)) 32 (min (b8 b % 128) 60)) 34 (decide (127 < b8 b))) 35 0) 33 (decide (0 < min (b8 b % 128) 60))
def sp_ask (S : z_S) (b : Int32) : Int32 × z_S := askE (ask1 S b)

set_option maxRecDepth 100000 in
set_option maxHeartbeats 1000000 in
theorem l_X6_ask {c : Nat → z_E} {o : Nat → Int64} {d : z_H} {D : z_S} (R : rowOK D) (W : idsOK D) (V : numsOK D) (U : trOK D) (Y : rtsOK D) (hu : ∀ k, sAN D 36 k < 256) (hn : sN D 35 ≤ 60) (hB : ¬ sB D 33 = true) {G : z_G} {X : z_X} {b w : Int32} (F : z_F vwCl z_ats z_nw wsL_law G RX6 cX6_ask 4 (z_rm 5 0 0) X) (hr : X.2.2.2.2.2.2.2.2.1.sig.returnType = some .int) :
    ∀ (m i : Nat), i + m = sN D 35 → z_V vwCl G 4 X (z_end vwCl z_ats z_nw G X 0 0 (fun v h' => v = some (.int (askE D).1) ∧ h' = (HP c (mfun ((askE D).2) o) d))) 0 0 160 [(0, .ref 11), (1, .int b), (2, .int w), (3, .int (nI i))] [] (HP c (mfun (askM D i) o) d) := by
  intro m
  induction m with
  | zero =>
    intro i hi
    obtain rfl : i = sN D 35 := by omega
    have hs : askE D = (nI (sN (lkS (ask2 D)) 40), lkS (ask2 D)) := if_neg hB
    have R2 : rowOK (ask2 D) := fun k => by show cpyR D (sN D 35) k < 256; unfold cpyR; split; exact hu k; exact R k
    refine z_iload_n F dX6_ask_160 rfl ?_
    refine z_aload_n F dX6_ask_161 rfl rfl ?_
    refine z_getf F vF_X6_138 dX6_ask_162 mO_at rfl ?_
    refine z_icmp_ge (tgt := 186) F dX6_ask_165 (by decide) (fun c165 => ?_) (fun c165 => absurd (nI_le (a := sN D 35) (Nat.le_refl _) (by omega)) c165)
    refine z_aload_n F dX6_ask_186 rfl rfl ?_
    refine z_callV F z_nwOK wL_good (c_X6_looked (S := ask2 D) R2 W V hn U Y) mO_at rfl vI_X6_looked vM_X6_218 vV_X6_looked vL_X6_looked rfl dX6_ask_187 rfl rfl (Nat.le_of_ble_eq_true rfl) ⟨(Nat.le_of_ble_eq_true rfl), (Nat.le_of_ble_eq_true rfl), (Nat.le_of_ble_eq_true rfl), (Nat.le_of_ble_eq_true rfl)⟩ (fun v h1 hq => ?_)
    obtain ⟨rfl, rfl⟩ := hq
    exact z_iret F hr dX6_ask_190 rfl (Nat.le_of_ble_eq_true rfl) (Nat.le_of_ble_eq_true rfl) (⟨by rw [hs]; try rfl, by rw [hs]; try rfl⟩)
  | succ m ih =>
    intro i hi
    refine z_iload_n F dX6_ask_160 rfl ?_
    refine z_aload_n F dX6_ask_161 rfl rfl ?_
    refine z_getf F vF_X6_138 dX6_ask_162 mO_at rfl ?_
    refine z_icmp_ge (tgt := 186) F dX6_ask_165 (by decide) (fun c165 => absurd c165 (nI_ge (a := i) (b := sN D 35) (by omega) (by omega))) (fun c165 => ?_)
    refine z_aload_n F dX6_ask_168 rfl rfl ?_
    refine z_getf F vF_X6_74 dX6_ask_169 mO_at rfl ?_
    refine z_iload_n F dX6_ask_172 rfl ?_
    refine z_aload_n F dX6_ask_173 rfl rfl ?_
    refine z_getf F vF_X6_71 dX6_ask_174 mO_at rfl ?_
    refine z_iload_n F dX6_ask_177 rfl ?_
    refine z_iald (j := i) F dX6_ask_178 mA_36 rfl rfl (show i < 60 by omega) (Nat.le_of_ble_eq_true rfl) ?_
    refine z_iast (j := i) F dX6_ask_179 mA_39 rfl rfl (show i < 60 by omega) (Nat.le_of_ble_eq_true rfl) ?_
    refine z_heap _ (ma_39) ?_
    refine z_iinc (w := 1) F dX6_ask_180 rfl rfl (Nat.le_of_ble_eq_true rfl) ?_
    rw [nI_1]
    refine z_goto (tgt := 160) F dX6_ask_183 (by decide) ?_
    refine z_heap _ (z_hS (S2 := askM D (i + 1)) (by show uAN (uAN (uN (uB D 37 (sB D 34)) 38 (sN D 35)) 39 (cpyR D i)) 39 (va_up (cpyR D i) i (sAN D 36 i)) = _; rw [cpyR_step, uAN_again]; rfl)) ?_
    exact ih (i + 1) (by omega)

set_option maxRecDepth 100000 in
set_option maxHeartbeats 1000000 in
theorem t_X6_ask {c : Nat → z_E} {o : Nat → Int64} {d : z_H} {D : z_S} (R : rowOK D) (W : idsOK D) (V : numsOK D) (U : trOK D) (Y : rtsOK D) (hu : ∀ k, sAN D 36 k < 256) (hn : sN D 35 ≤ 60) {G : z_G} {X : z_X} {b w : Int32} (F : z_F vwCl z_ats z_nw wsL_law G RX6 cX6_ask 4 (z_rm 5 0 0) X) (hr : X.2.2.2.2.2.2.2.2.1.sig.returnType = some .int) : z_V vwCl G 4 X (z_end vwCl z_ats z_nw G X 0 0 (fun v h' => v = some (.int (askE D).1) ∧ h' = (HP c (mfun ((askE D).2) o) d))) 0 0 133 [(0, .ref 11), (1, .int b), (2, .int w)] [] (HP c (mfun (D) o) d) := by
  refine z_aload_n F dX6_ask_133 rfl rfl ?_
  refine z_getf F vF_X6_206 dX6_ask_134 mO_at rfl ?_
  refine z_if_eq (tgt := 142) F dX6_ask_137 (by decide) (fun c137 => ?_) (fun c137 => ?_)
  · have hB : ¬ sB D 33 = true := by rw [z_b0.mp c137]; decide
    refine z_aload_n F dX6_ask_142 rfl rfl ?_
    refine z_aload_n F dX6_ask_143 rfl rfl ?_
    refine z_getf F vF_X6_212 dX6_ask_144 mO_at rfl ?_
    refine z_putf F vF_X6_203 vT_X6 vD_X6_37 dX6_ask_147 mO_at (Nat.le_of_ble_eq_true rfl) (z_bnar _) (z_bfit _) (fun g147 => ?_)
    refine z_heap _ (ms_37) ?_
    refine z_aload_n F dX6_ask_150 rfl rfl ?_
    refine z_aload_n F dX6_ask_151 rfl rfl ?_
    refine z_getf F vF_X6_215 dX6_ask_152 mO_at rfl ?_
    refine z_putf F vF_X6_138 vT_X6 vD_X6_38 dX6_ask_155 mO_at (Nat.le_of_ble_eq_true rfl) rfl rfl (fun g155 => ?_)
    refine z_heap _ (ms_38) ?_
    refine z_iconst (v := 0) F dX6_ask_158 rfl ?_
    refine z_istore_n F dX6_ask_159 (Nat.le_of_ble_eq_true rfl) ?_
    refine z_heap _ (z_hS (S2 := askM D 0) (by unfold askM; rw [show cpyR D 0 = sAN D 39 from by funext k; simp [cpyR]]; exact (uAN_same (uN (uB D 37 (sB D 34)) 38 (sN D 35)) 39).symm)) ?_
    exact l_X6_ask R W V U Y hu hn hB F hr (sN D 35) 0 (by omega)
  · have hs : askE D = (0, D) := if_pos (z_b1 c137)
    refine z_iconst (v := 0) F dX6_ask_140 rfl ?_
    exact z_iret F hr dX6_ask_141 rfl (Nat.le_of_ble_eq_true rfl) (Nat.le_of_ble_eq_true rfl) (⟨by rw [hs]; try rfl, by rw [hs]; try rfl⟩)

set_option maxRecDepth 100000 in
set_option maxHeartbeats 1000000 in
theorem c_X6_ask {c : Nat → z_E} {S : z_S} {o : Nat → Int64} {d : z_H} (R : rowOK S) (W : idsOK S) (V : numsOK S) (U : trOK S) (Y : rtsOK S) (N : undOK S) (b : Int32) : z_K yX6_ask cX6_ask 4 (some .int) 5 0 0 [.ref 11, .int b] (HP c (mfun S o) d) (fun v h' => v = some (.int (sp_ask S b).1) ∧ h' = (HP c (mfun ((sp_ask S b).2) o) d)) := by
  refine z_met vI_X6_ask (Nat.le_of_ble_eq_true rfl) (fun G X F hr hnm => ?_)
  refine z_aload_n F dX6_ask_0 rfl rfl ?_
  refine z_iconst (v := 0) F dX6_ask_1 rfl ?_
  refine z_putf F vF_X6_83 vT_X6 vD_X6_0 dX6_ask_2 mO_at (Nat.le_of_ble_eq_true rfl) rfl rfl (fun g2 => ?_)
  refine z_heap _ (ms_0 (v := 0)) ?_
  refine z_iload_n F dX6_ask_5 rfl ?_
  refine z_sipush (v := 255) F dX6_ask_6 rfl ?_
  refine z_iand F dX6_ask_9 ?_
  rw [b8_and]
  refine z_istore_n F dX6_ask_10 (Nat.le_of_ble_eq_true rfl) ?_
  refine z_aload_n F dX6_ask_11 rfl rfl ?_
  refine z_getf F vF_X6_206 dX6_ask_12 mO_at rfl ?_
  refine z_if_ne (tgt := 87) F dX6_ask_15 (by decide) (fun c15 => ?_) (fun c15 => ?_)
  · have hB : sB S 33 = true := z_b1 c15
    obtain ⟨n1, n2⟩ := N.2.2 hB
    have hb := b8_lt b
    refine z_aload_n F dX6_ask_87 rfl rfl ?_
    refine z_getf F vF_X6_71 dX6_ask_88 mO_at rfl ?_
    refine z_aload_n F dX6_ask_91 rfl rfl ?_
    refine z_getf F vF_X6_215 dX6_ask_92 mO_at rfl ?_
    refine z_iload_n F dX6_ask_95 rfl ?_
    refine z_iast (j := sN S 35) F dX6_ask_96 mA_36 rfl rfl (show sN S 35 < 60 by omega) (Nat.le_of_ble_eq_true rfl) ?_
    refine z_heap _ (ma_36) ?_
    refine z_aload_n F dX6_ask_97 rfl rfl ?_
    refine z_dup F dX6_ask_98 rfl ?_
    refine z_getf F vF_X6_215 dX6_ask_99 mO_at rfl ?_
    refine z_iconst (v := 1) F dX6_ask_102 rfl ?_
    refine z_iadd F dX6_ask_103 ?_
    rw [nI_1]
    refine z_putf F vF_X6_215 vT_X6 vD_X6_35 dX6_ask_104 mO_at (Nat.le_of_ble_eq_true rfl) rfl rfl (fun g104 => ?_)
    refine z_heap _ (ms_35) ?_
    refine z_aload_n F dX6_ask_107 rfl rfl ?_
    refine z_dup F dX6_ask_108 rfl ?_
    refine z_getf F vF_X6_209 dX6_ask_109 mO_at rfl ?_
    refine z_iconst (v := 1) F dX6_ask_112 rfl ?_
    refine z_isub F dX6_ask_113 ?_
    refine z_topi (nI (sN S 32 - 1)) (pk_sub (a := sN S 32) (b := 1) n1) ?_
    refine z_putf F vF_X6_209 vT_X6 vD_X6_32 dX6_ask_114 mO_at (Nat.le_of_ble_eq_true rfl) rfl rfl (fun g114 => ?_)
    refine z_heap _ (ms_32) ?_
    refine z_aload_n F dX6_ask_117 rfl rfl ?_
    refine z_aload_n F dX6_ask_118 rfl rfl ?_
    refine z_getf F vF_X6_209 dX6_ask_119 mO_at rfl ?_
    refine z_if_le (tgt := 129) F dX6_ask_122 (by decide) (fun c122 => ?_) (fun c122 => ?_)
    · have eg : decide (0 < sN S 32 - 1) = false := decide_eq_false (by have := (nI_leI (a := sN S 32 - 1) (b := 0) (by omega) (by decide)).mp c122; omega)
      refine z_iconst (v := 0) F dX6_ask_129 rfl ?_
      refine z_putf F vF_X6_206 vT_X6 vD_X6_33 dX6_ask_130 mO_at (Nat.le_of_ble_eq_true rfl) rfl rfl (fun g130 => ?_)
      refine z_heap _ (ms_33 (v := false)) ?_
      have h1 : ask1 S b = uB (uN (uN (uAN (uN S 0 0) 36 (va_up (sAN S 36) (sN S 35) (b8 b))) 35 (sN S 35 + 1)) 32 (sN S 32 - 1)) 33 false := by unfold ask1; rw [if_pos hB, show decide (0 < sN S 32 - 1) = false from eg]
      have R' : rowOK (ask1 S b) := by rw [h1]; exact R
      have W' : idsOK (ask1 S b) := by rw [h1]; exact W
      have V' : numsOK (ask1 S b) := by rw [h1]; exact V
      have U' : trOK (ask1 S b) := by rw [h1]; exact U
      have Y' : rtsOK (ask1 S b) := by rw [h1]; exact Y
      have hu' : ∀ k, sAN (ask1 S b) 36 k < 256 := by rw [h1]; intro k; show va_up (sAN S 36) (sN S 35) (b8 b) k < 256; unfold va_up; split; exact hb; exact N.1 k
      have hn' : sN (ask1 S b) 35 ≤ 60 := by rw [h1]; show sN S 35 + 1 ≤ 60; omega
      have ht := t_X6_ask (c := c) (o := o) (d := d) (D := ask1 S b) (b := b) (w := nI (b8 b)) R' W' V' U' Y' hu' hn' F hr
      rw [h1] at ht
      unfold sp_ask
      rw [h1]
      exact ht
    · have eg : decide (0 < sN S 32 - 1) = true := decide_eq_true (by have := mt (nI_leI (a := sN S 32 - 1) (b := 0) (by omega) (by decide)).mpr c122; omega)
      refine z_iconst (v := 1) F dX6_ask_125 rfl ?_
      refine z_goto (tgt := 130) F dX6_ask_126 (by decide) ?_
      refine z_putf F vF_X6_206 vT_X6 vD_X6_33 dX6_ask_130 mO_at (Nat.le_of_ble_eq_true rfl) rfl rfl (fun g130 => ?_)
      refine z_heap _ (ms_33 (v := true)) ?_
      have h1 : ask1 S b = uB (uN (uN (uAN (uN S 0 0) 36 (va_up (sAN S 36) (sN S 35) (b8 b))) 35 (sN S 35 + 1)) 32 (sN S 32 - 1)) 33 true := by unfold ask1; rw [if_pos hB, show decide (0 < sN S 32 - 1) = true from eg]
      have R' : rowOK (ask1 S b) := by rw [h1]; exact R
      have W' : idsOK (ask1 S b) := by rw [h1]; exact W
      have V' : numsOK (ask1 S b) := by rw [h1]; exact V
      have U' : trOK (ask1 S b) := by rw [h1]; exact U
      have Y' : rtsOK (ask1 S b) := by rw [h1]; exact Y
      have hu' : ∀ k, sAN (ask1 S b) 36 k < 256 := by rw [h1]; intro k; show va_up (sAN S 36) (sN S 35) (b8 b) k < 256; unfold va_up; split; exact hb; exact N.1 k
      have hn' : sN (ask1 S b) 35 ≤ 60 := by rw [h1]; show sN S 35 + 1 ≤ 60; omega
      have ht := t_X6_ask (c := c) (o := o) (d := d) (D := ask1 S b) (b := b) (w := nI (b8 b)) R' W' V' U' Y' hu' hn' F hr
      rw [h1] at ht
      unfold sp_ask
      rw [h1]
      exact ht
  · have hB : ¬ sB S 33 = true := by rw [show sB S 33 = false from z_b0.mp c15]; decide
    have hc : b8 b % 128 < 128 := Nat.mod_lt _ (by decide)
    have hb := b8_lt b
    refine z_aload_n F dX6_ask_18 rfl rfl ?_
    refine z_iload_n F dX6_ask_19 rfl ?_
    refine z_bipush (v := 127) F dX6_ask_20 rfl ?_
    refine z_iand F dX6_ask_22 ?_
    rw [pk_andN (show b8 b < 2 ^ 32 by omega) 7 (by decide)]
    refine z_putf F vF_X6_209 vT_X6 vD_X6_32 dX6_ask_23 mO_at (Nat.le_of_ble_eq_true rfl) rfl rfl (fun g23 => ?_)
    refine z_heap _ (ms_32) ?_
    refine z_aload_n F dX6_ask_26 rfl rfl ?_
    refine z_aload_n F dX6_ask_27 rfl rfl ?_
    refine z_getf F vF_X6_209 dX6_ask_28 mO_at rfl ?_
    refine z_bipush (v := 60) F dX6_ask_31 rfl ?_
    refine z_icmp_le (tgt := 41) F dX6_ask_33 (by decide) (fun c33 => ?_) (fun c33 => ?_)
    · have em : min (b8 b % 128) 60 = b8 b % 128 := Nat.min_eq_left ((nI_leI (a := b8 b % 128) (b := 60) (by omega) (by decide)).mp c33)
      refine z_aload_n F dX6_ask_41 rfl rfl ?_
      refine z_getf F vF_X6_209 dX6_ask_42 mO_at rfl ?_
      rw [show nI (sN (uN (uN S 0 0) 32 (b8 b % 2 ^ 7)) 32) = nI (min (b8 b % 128) 60) from by rw [em]; rfl]
      refine z_putf F vF_X6_209 vT_X6 vD_X6_32 dX6_ask_45 mO_at (Nat.le_of_ble_eq_true rfl) rfl rfl (fun g45 => ?_)
      refine z_heap _ (ms_32 (v := min (b8 b % 128) 60)) ?_
      refine z_aload_n F dX6_ask_48 rfl rfl ?_
      refine z_iload_n F dX6_ask_49 rfl ?_
      refine z_bipush (v := 127) F dX6_ask_50 rfl ?_
      refine z_icmp_le (tgt := 59) F dX6_ask_52 (by decide) (fun c52 => ?_) (fun c52 => ?_)
      · have ea : decide (127 < b8 b) = false := decide_eq_false (by have := (nI_leI (a := b8 b) (b := 127) (by omega) (by decide)).mp c52; omega)
        refine z_iconst (v := 0) F dX6_ask_59 rfl ?_
        refine z_putf F vF_X6_212 vT_X6 vD_X6_34 dX6_ask_60 mO_at (Nat.le_of_ble_eq_true rfl) rfl rfl (fun g60 => ?_)
        refine z_heap _ (ms_34 (v := false)) ?_
        refine z_aload_n F dX6_ask_63 rfl rfl ?_
        refine z_iconst (v := 0) F dX6_ask_64 rfl ?_
        refine z_putf F vF_X6_215 vT_X6 vD_X6_35 dX6_ask_65 mO_at (Nat.le_of_ble_eq_true rfl) rfl rfl (fun g65 => ?_)
        refine z_heap _ (ms_35 (v := 0)) ?_
        refine z_aload_n F dX6_ask_68 rfl rfl ?_
        refine z_aload_n F dX6_ask_69 rfl rfl ?_
        refine z_getf F vF_X6_209 dX6_ask_70 mO_at rfl ?_
        refine z_if_le (tgt := 80) F dX6_ask_73 (by decide) (fun c73 => ?_) (fun c73 => ?_)
        · have eg : decide (0 < min (b8 b % 128) 60) = false := decide_eq_false (by have := (nI_leI (a := min (b8 b % 128) 60) (b := 0) (by omega) (by decide)).mp c73; omega)
          refine z_iconst (v := 0) F dX6_ask_80 rfl ?_
          refine z_putf F vF_X6_206 vT_X6 vD_X6_33 dX6_ask_81 mO_at (Nat.le_of_ble_eq_true rfl) rfl rfl (fun g81 => ?_)
          refine z_heap _ (ms_33 (v := false)) ?_
          refine z_goto (tgt := 133) F dX6_ask_84 (by decide) ?_
          have h1 : ask1 S b = uB (uN (uB (uN (uN (uN S 0 0) 32 (b8 b % 128)) 32 (min (b8 b % 128) 60)) 34 false) 35 0) 33 false := by unfold ask1; rw [if_neg hB, show decide (127 < b8 b) = false from ea, show decide (0 < min (b8 b % 128) 60) = false from eg]
          have R' : rowOK (ask1 S b) := by rw [h1]; exact R
          have W' : idsOK (ask1 S b) := by rw [h1]; exact W
          have V' : numsOK (ask1 S b) := by rw [h1]; exact V
          have U' : trOK (ask1 S b) := by rw [h1]; exact U
          have Y' : rtsOK (ask1 S b) := by rw [h1]; exact Y
          have hu' : ∀ k, sAN (ask1 S b) 36 k < 256 := by rw [h1]; exact N.1
          have hn' : sN (ask1 S b) 35 ≤ 60 := by rw [h1]; show 0 ≤ 60; decide
          have ht := t_X6_ask (c := c) (o := o) (d := d) (D := ask1 S b) (b := b) (w := nI (b8 b)) R' W' V' U' Y' hu' hn' F hr
          rw [h1] at ht
          unfold sp_ask
          rw [h1]
          exact ht
        · have eg : decide (0 < min (b8 b % 128) 60) = true := decide_eq_true (by have := mt (nI_leI (a := min (b8 b % 128) 60) (b := 0) (by omega) (by decide)).mpr c73; omega)
          refine z_iconst (v := 1) F dX6_ask_76 rfl ?_
          refine z_goto (tgt := 81) F dX6_ask_77 (by decide) ?_
          refine z_putf F vF_X6_206 vT_X6 vD_X6_33 dX6_ask_81 mO_at (Nat.le_of_ble_eq_true rfl) rfl rfl (fun g81 => ?_)
          refine z_heap _ (ms_33 (v := true)) ?_
          refine z_goto (tgt := 133) F dX6_ask_84 (by decide) ?_
          have h1 : ask1 S b = uB (uN (uB (uN (uN (uN S 0 0) 32 (b8 b % 128)) 32 (min (b8 b % 128) 60)) 34 false) 35 0) 33 true := by unfold ask1; rw [if_neg hB, show decide (127 < b8 b) = false from ea, show decide (0 < min (b8 b % 128) 60) = true from eg]
          have R' : rowOK (ask1 S b) := by rw [h1]; exact R
          have W' : idsOK (ask1 S b) := by rw [h1]; exact W
          have V' : numsOK (ask1 S b) := by rw [h1]; exact V
          have U' : trOK (ask1 S b) := by rw [h1]; exact U
          have Y' : rtsOK (ask1 S b) := by rw [h1]; exact Y
          have hu' : ∀ k, sAN (ask1 S b) 36 k < 256 := by rw [h1]; exact N.1
          have hn' : sN (ask1 S b) 35 ≤ 60 := by rw [h1]; show 0 ≤ 60; decide
          have ht := t_X6_ask (c := c) (o := o) (d := d) (D := ask1 S b) (b := b) (w := nI (b8 b)) R' W' V' U' Y' hu' hn' F hr
          rw [h1] at ht
          unfold sp_ask
          rw [h1]
          exact ht
      · have ea : decide (127 < b8 b) = true := decide_eq_true (by have := mt (nI_leI (a := b8 b) (b := 127) (by omega) (by decide)).mpr c52; omega)
        refine z_iconst (v := 1) F dX6_ask_55 rfl ?_
        refine z_goto (tgt := 60) F dX6_ask_56 (by decide) ?_
        refine z_putf F vF_X6_212 vT_X6 vD_X6_34 dX6_ask_60 mO_at (Nat.le_of_ble_eq_true rfl) rfl rfl (fun g60 => ?_)
        refine z_heap _ (ms_34 (v := true)) ?_
        refine z_aload_n F dX6_ask_63 rfl rfl ?_
        refine z_iconst (v := 0) F dX6_ask_64 rfl ?_
        refine z_putf F vF_X6_215 vT_X6 vD_X6_35 dX6_ask_65 mO_at (Nat.le_of_ble_eq_true rfl) rfl rfl (fun g65 => ?_)
        refine z_heap _ (ms_35 (v := 0)) ?_
        refine z_aload_n F dX6_ask_68 rfl rfl ?_
        refine z_aload_n F dX6_ask_69 rfl rfl ?_
        refine z_getf F vF_X6_209 dX6_ask_70 mO_at rfl ?_
        refine z_if_le (tgt := 80) F dX6_ask_73 (by decide) (fun c73 => ?_) (fun c73 => ?_)
        · have eg : decide (0 < min (b8 b % 128) 60) = false := decide_eq_false (by have := (nI_leI (a := min (b8 b % 128) 60) (b := 0) (by omega) (by decide)).mp c73; omega)
          refine z_iconst (v := 0) F dX6_ask_80 rfl ?_
          refine z_putf F vF_X6_206 vT_X6 vD_X6_33 dX6_ask_81 mO_at (Nat.le_of_ble_eq_true rfl) rfl rfl (fun g81 => ?_)
          refine z_heap _ (ms_33 (v := false)) ?_
          refine z_goto (tgt := 133) F dX6_ask_84 (by decide) ?_
          have h1 : ask1 S b = uB (uN (uB (uN (uN (uN S 0 0) 32 (b8 b % 128)) 32 (min (b8 b % 128) 60)) 34 true) 35 0) 33 false := by unfold ask1; rw [if_neg hB, show decide (127 < b8 b) = true from ea, show decide (0 < min (b8 b % 128) 60) = false from eg]
          have R' : rowOK (ask1 S b) := by rw [h1]; exact R
          have W' : idsOK (ask1 S b) := by rw [h1]; exact W
          have V' : numsOK (ask1 S b) := by rw [h1]; exact V
          have U' : trOK (ask1 S b) := by rw [h1]; exact U
          have Y' : rtsOK (ask1 S b) := by rw [h1]; exact Y
          have hu' : ∀ k, sAN (ask1 S b) 36 k < 256 := by rw [h1]; exact N.1
          have hn' : sN (ask1 S b) 35 ≤ 60 := by rw [h1]; show 0 ≤ 60; decide
          have ht := t_X6_ask (c := c) (o := o) (d := d) (D := ask1 S b) (b := b) (w := nI (b8 b)) R' W' V' U' Y' hu' hn' F hr
          rw [h1] at ht
          unfold sp_ask
          rw [h1]
          exact ht
        · have eg : decide (0 < min (b8 b % 128) 60) = true := decide_eq_true (by have := mt (nI_leI (a := min (b8 b % 128) 60) (b := 0) (by omega) (by decide)).mpr c73; omega)
          refine z_iconst (v := 1) F dX6_ask_76 rfl ?_
          refine z_goto (tgt := 81) F dX6_ask_77 (by decide) ?_
          refine z_putf F vF_X6_206 vT_X6 vD_X6_33 dX6_ask_81 mO_at (Nat.le_of_ble_eq_true rfl) rfl rfl (fun g81 => ?_)
          refine z_heap _ (ms_33 (v := true)) ?_
          refine z_goto (tgt := 133) F dX6_ask_84 (by decide) ?_
          have h1 : ask1 S b = uB (uN (uB (uN (uN (uN S 0 0) 32 (b8 b % 128)) 32 (min (b8 b % 128) 60)) 34 true) 35 0) 33 true := by unfold ask1; rw [if_neg hB, show decide (127 < b8 b) = true from ea, show decide (0 < min (b8 b % 128) 60) = true from eg]
          have R' : rowOK (ask1 S b) := by rw [h1]; exact R
          have W' : idsOK (ask1 S b) := by rw [h1]; exact W
          have V' : numsOK (ask1 S b) := by rw [h1]; exact V
          have U' : trOK (ask1 S b) := by rw [h1]; exact U
          have Y' : rtsOK (ask1 S b) := by rw [h1]; exact Y
          have hu' : ∀ k, sAN (ask1 S b) 36 k < 256 := by rw [h1]; exact N.1
          have hn' : sN (ask1 S b) 35 ≤ 60 := by rw [h1]; show 0 ≤ 60; decide
          have ht := t_X6_ask (c := c) (o := o) (d := d) (D := ask1 S b) (b := b) (w := nI (b8 b)) R' W' V' U' Y' hu' hn' F hr
          rw [h1] at ht
          unfold sp_ask
          rw [h1]
          exact ht
    · have em : min (b8 b % 128) 60 = 60 := Nat.min_eq_right (by have := mt (nI_leI (a := b8 b % 128) (b := 60) (by omega) (by decide)).mpr c33; omega)
      refine z_bipush (v := 60) F dX6_ask_36 rfl ?_
      refine z_goto (tgt := 45) F dX6_ask_38 (by decide) ?_
      rw [show (60 : Int32) = nI (min (b8 b % 128) 60) from by rw [em]; rfl]
      refine z_putf F vF_X6_209 vT_X6 vD_X6_32 dX6_ask_45 mO_at (Nat.le_of_ble_eq_true rfl) rfl rfl (fun g45 => ?_)
      refine z_heap _ (ms_32 (v := min (b8 b % 128) 60)) ?_
      refine z_aload_n F dX6_ask_48 rfl rfl ?_
      refine z_iload_n F dX6_ask_49 rfl ?_
      refine z_bipush (v := 127) F dX6_ask_50 rfl ?_
      refine z_icmp_le (tgt := 59) F dX6_ask_52 (by decide) (fun c52 => ?_) (fun c52 => ?_)
      · have ea : decide (127 < b8 b) = false := decide_eq_false (by have := (nI_leI (a := b8 b) (b := 127) (by omega) (by decide)).mp c52; omega)
        refine z_iconst (v := 0) F dX6_ask_59 rfl ?_
        refine z_putf F vF_X6_212 vT_X6 vD_X6_34 dX6_ask_60 mO_at (Nat.le_of_ble_eq_true rfl) rfl rfl (fun g60 => ?_)
        refine z_heap _ (ms_34 (v := false)) ?_
        refine z_aload_n F dX6_ask_63 rfl rfl ?_
        refine z_iconst (v := 0) F dX6_ask_64 rfl ?_
        refine z_putf F vF_X6_215 vT_X6 vD_X6_35 dX6_ask_65 mO_at (Nat.le_of_ble_eq_true rfl) rfl rfl (fun g65 => ?_)
        refine z_heap _ (ms_35 (v := 0)) ?_
        refine z_aload_n F dX6_ask_68 rfl rfl ?_
        refine z_aload_n F dX6_ask_69 rfl rfl ?_
        refine z_getf F vF_X6_209 dX6_ask_70 mO_at rfl ?_
        refine z_if_le (tgt := 80) F dX6_ask_73 (by decide) (fun c73 => ?_) (fun c73 => ?_)
        · have eg : decide (0 < min (b8 b % 128) 60) = false := decide_eq_false (by have := (nI_leI (a := min (b8 b % 128) 60) (b := 0) (by omega) (by decide)).mp c73; omega)
          refine z_iconst (v := 0) F dX6_ask_80 rfl ?_
          refine z_putf F vF_X6_206 vT_X6 vD_X6_33 dX6_ask_81 mO_at (Nat.le_of_ble_eq_true rfl) rfl rfl (fun g81 => ?_)
          refine z_heap _ (ms_33 (v := false)) ?_
          refine z_goto (tgt := 133) F dX6_ask_84 (by decide) ?_
          have h1 : ask1 S b = uB (uN (uB (uN (uN (uN S 0 0) 32 (b8 b % 128)) 32 (min (b8 b % 128) 60)) 34 false) 35 0) 33 false := by unfold ask1; rw [if_neg hB, show decide (127 < b8 b) = false from ea, show decide (0 < min (b8 b % 128) 60) = false from eg]
          have R' : rowOK (ask1 S b) := by rw [h1]; exact R
          have W' : idsOK (ask1 S b) := by rw [h1]; exact W
          have V' : numsOK (ask1 S b) := by rw [h1]; exact V
          have U' : trOK (ask1 S b) := by rw [h1]; exact U
          have Y' : rtsOK (ask1 S b) := by rw [h1]; exact Y
          have hu' : ∀ k, sAN (ask1 S b) 36 k < 256 := by rw [h1]; exact N.1
          have hn' : sN (ask1 S b) 35 ≤ 60 := by rw [h1]; show 0 ≤ 60; decide
          have ht := t_X6_ask (c := c) (o := o) (d := d) (D := ask1 S b) (b := b) (w := nI (b8 b)) R' W' V' U' Y' hu' hn' F hr
          rw [h1] at ht
          unfold sp_ask
          rw [h1]
          exact ht
        · have eg : decide (0 < min (b8 b % 128) 60) = true := decide_eq_true (by have := mt (nI_leI (a := min (b8 b % 128) 60) (b := 0) (by omega) (by decide)).mpr c73; omega)
          refine z_iconst (v := 1) F dX6_ask_76 rfl ?_
          refine z_goto (tgt := 81) F dX6_ask_77 (by decide) ?_
          refine z_putf F vF_X6_206 vT_X6 vD_X6_33 dX6_ask_81 mO_at (Nat.le_of_ble_eq_true rfl) rfl rfl (fun g81 => ?_)
          refine z_heap _ (ms_33 (v := true)) ?_
          refine z_goto (tgt := 133) F dX6_ask_84 (by decide) ?_
          have h1 : ask1 S b = uB (uN (uB (uN (uN (uN S 0 0) 32 (b8 b % 128)) 32 (min (b8 b % 128) 60)) 34 false) 35 0) 33 true := by unfold ask1; rw [if_neg hB, show decide (127 < b8 b) = false from ea, show decide (0 < min (b8 b % 128) 60) = true from eg]
          have R' : rowOK (ask1 S b) := by rw [h1]; exact R
          have W' : idsOK (ask1 S b) := by rw [h1]; exact W
          have V' : numsOK (ask1 S b) := by rw [h1]; exact V
          have U' : trOK (ask1 S b) := by rw [h1]; exact U
          have Y' : rtsOK (ask1 S b) := by rw [h1]; exact Y
          have hu' : ∀ k, sAN (ask1 S b) 36 k < 256 := by rw [h1]; exact N.1
          have hn' : sN (ask1 S b) 35 ≤ 60 := by rw [h1]; show 0 ≤ 60; decide
          have ht := t_X6_ask (c := c) (o := o) (d := d) (D := ask1 S b) (b := b) (w := nI (b8 b)) R' W' V' U' Y' hu' hn' F hr
          rw [h1] at ht
          unfold sp_ask
          rw [h1]
          exact ht
      · have ea : decide (127 < b8 b) = true := decide_eq_true (by have := mt (nI_leI (a := b8 b) (b := 127) (by omega) (by decide)).mpr c52; omega)
        refine z_iconst (v := 1) F dX6_ask_55 rfl ?_
        refine z_goto (tgt := 60) F dX6_ask_56 (by decide) ?_
        refine z_putf F vF_X6_212 vT_X6 vD_X6_34 dX6_ask_60 mO_at (Nat.le_of_ble_eq_true rfl) rfl rfl (fun g60 => ?_)
        refine z_heap _ (ms_34 (v := true)) ?_
        refine z_aload_n F dX6_ask_63 rfl rfl ?_
        refine z_iconst (v := 0) F dX6_ask_64 rfl ?_
        refine z_putf F vF_X6_215 vT_X6 vD_X6_35 dX6_ask_65 mO_at (Nat.le_of_ble_eq_true rfl) rfl rfl (fun g65 => ?_)
        refine z_heap _ (ms_35 (v := 0)) ?_
        refine z_aload_n F dX6_ask_68 rfl rfl ?_
        refine z_aload_n F dX6_ask_69 rfl rfl ?_
        refine z_getf F vF_X6_209 dX6_ask_70 mO_at rfl ?_
        refine z_if_le (tgt := 80) F dX6_ask_73 (by decide) (fun c73 => ?_) (fun c73 => ?_)
        · have eg : decide (0 < min (b8 b % 128) 60) = false := decide_eq_false (by have := (nI_leI (a := min (b8 b % 128) 60) (b := 0) (by omega) (by decide)).mp c73; omega)
          refine z_iconst (v := 0) F dX6_ask_80 rfl ?_
          refine z_putf F vF_X6_206 vT_X6 vD_X6_33 dX6_ask_81 mO_at (Nat.le_of_ble_eq_true rfl) rfl rfl (fun g81 => ?_)
          refine z_heap _ (ms_33 (v := false)) ?_
          refine z_goto (tgt := 133) F dX6_ask_84 (by decide) ?_
          have h1 : ask1 S b = uB (uN (uB (uN (uN (uN S 0 0) 32 (b8 b % 128)) 32 (min (b8 b % 128) 60)) 34 true) 35 0) 33 false := by unfold ask1; rw [if_neg hB, show decide (127 < b8 b) = true from ea, show decide (0 < min (b8 b % 128) 60) = false from eg]
          have R' : rowOK (ask1 S b) := by rw [h1]; exact R
          have W' : idsOK (ask1 S b) := by rw [h1]; exact W
          have V' : numsOK (ask1 S b) := by rw [h1]; exact V
          have U' : trOK (ask1 S b) := by rw [h1]; exact U
          have Y' : rtsOK (ask1 S b) := by rw [h1]; exact Y
          have hu' : ∀ k, sAN (ask1 S b) 36 k < 256 := by rw [h1]; exact N.1
          have hn' : sN (ask1 S b) 35 ≤ 60 := by rw [h1]; show 0 ≤ 60; decide
          have ht := t_X6_ask (c := c) (o := o) (d := d) (D := ask1 S b) (b := b) (w := nI (b8 b)) R' W' V' U' Y' hu' hn' F hr
          rw [h1] at ht
          unfold sp_ask
          rw [h1]
          exact ht
        · have eg : decide (0 < min (b8 b % 128) 60) = true := decide_eq_true (by have := mt (nI_leI (a := min (b8 b % 128) 60) (b := 0) (by omega) (by decide)).mpr c73; omega)
          refine z_iconst (v := 1) F dX6_ask_76 rfl ?_
          refine z_goto (tgt := 81) F dX6_ask_77 (by decide) ?_
          refine z_putf F vF_X6_206 vT_X6 vD_X6_33 dX6_ask_81 mO_at (Nat.le_of_ble_eq_true rfl) rfl rfl (fun g81 => ?_)
          refine z_heap _ (ms_33 (v := true)) ?_
          refine z_goto (tgt := 133) F dX6_ask_84 (by decide) ?_
          have h1 : ask1 S b = uB (uN (uB (uN (uN (uN S 0 0) 32 (b8 b % 128)) 32 (min (b8 b % 128) 60)) 34 true) 35 0) 33 true := by unfold ask1; rw [if_neg hB, show decide (127 < b8 b) = true from ea, show decide (0 < min (b8 b % 128) 60) = true from eg]
          have R' : rowOK (ask1 S b) := by rw [h1]; exact R
          have W' : idsOK (ask1 S b) := by rw [h1]; exact W
          have V' : numsOK (ask1 S b) := by rw [h1]; exact V
          have U' : trOK (ask1 S b) := by rw [h1]; exact U
          have Y' : rtsOK (ask1 S b) := by rw [h1]; exact Y
          have hu' : ∀ k, sAN (ask1 S b) 36 k < 256 := by rw [h1]; exact N.1
          have hn' : sN (ask1 S b) 35 ≤ 60 := by rw [h1]; show 0 ≤ 60; decide
          have ht := t_X6_ask (c := c) (o := o) (d := d) (D := ask1 S b) (b := b) (w := nI (b8 b)) R' W' V' U' Y' hu' hn' F hr
          rw [h1] at ht
          unfold sp_ask
          rw [h1]
          exact ht

def trD (S : z_S) (x b : Int32) : z_S := uAN (uAN (uAN (uN (uB (uN S 0 0) 37 false) 38 3) 39 (va_up (sAN S 39) 0 54)) 39 (va_up (va_up (sAN S 39) 0 54) 1 (b8 x))) 39 (va_up (va_up (va_up (sAN S 39) 0 54) 1 (b8 x)) 2 (b8 b))
def sp_transfer (S : z_S) (x b : Int32) : Int32 × z_S := (if 0 < (lkR (trD S x b)).1 then -nI (lkR (trD S x b)).1 else if sN S 28 < sN (lkS (trD S x b)) 28 then 1 else 2, lkS (trD S x b))
theorem sF_lk (S : z_S) : sF (lkS S) = nI (lkR S).1 := by
  unfold lkS
  repeat' split
  all_goals rfl
theorem trD_row {S : z_S} (R : rowOK S) (x b : Int32) : rowOK (trD S x b) := by
  intro k
  show va_up (va_up (va_up (sAN S 39) 0 54) 1 (b8 x)) 2 (b8 b) k < 256
  unfold va_up
  split
  · exact b8_lt b
  · split
    · exact b8_lt x
    · split
      · decide
      · exact R k

set_option maxRecDepth 100000 in
set_option maxHeartbeats 1000000 in
theorem c_X6_transfer {c : Nat → z_E} {S : z_S} {o : Nat → Int64} {d : z_H} (R : rowOK S) (W : idsOK S) (V : numsOK S) (U : trOK S) (Y : rtsOK S) (x b : Int32) (Z : sN (lkS (trD S x b)) 28 ≤ 200) : z_K yX6_transfer cX6_transfer 5 (some .int) 5 0 0 [.ref 11, .int x, .int b] (HP c (mfun S o) d) (fun v h' => v = some (.int (sp_transfer S x b).1) ∧ h' = (HP c (mfun ((sp_transfer S x b).2) o) d)) := by
  have K := svK_lk (S := trD S x b) W
  have K4 : (lkR (trD S x b)).1 < 128 := K.2.2.2.1
  have t1 : sN S 28 ≤ 200 := Nat.le_trans U.2.1 U.1
  refine z_met vI_X6_transfer (Nat.le_of_ble_eq_true rfl) (fun G X F hr hnm => ?_)
  refine z_aload_n F dX6_transfer_0 rfl rfl ?_
  refine z_iconst (v := 0) F dX6_transfer_1 rfl ?_
  refine z_putf F vF_X6_83 vT_X6 vD_X6_0 dX6_transfer_2 mO_at (Nat.le_of_ble_eq_true rfl) rfl rfl (fun g2 => ?_)
  refine z_heap _ (ms_0 (v := 0)) ?_
  refine z_aload_n F dX6_transfer_5 rfl rfl ?_
  refine z_iconst (v := 0) F dX6_transfer_6 rfl ?_
  refine z_putf F vF_X6_203 vT_X6 vD_X6_37 dX6_transfer_7 mO_at (Nat.le_of_ble_eq_true rfl) rfl rfl (fun g7 => ?_)
  refine z_heap _ (ms_37 (v := false)) ?_
  refine z_aload_n F dX6_transfer_10 rfl rfl ?_
  refine z_iconst (v := 3) F dX6_transfer_11 rfl ?_
  refine z_putf F vF_X6_138 vT_X6 vD_X6_38 dX6_transfer_12 mO_at (Nat.le_of_ble_eq_true rfl) rfl rfl (fun g12 => ?_)
  refine z_heap _ (ms_38 (v := 3)) ?_
  refine z_aload_n F dX6_transfer_15 rfl rfl ?_
  refine z_getf F vF_X6_74 dX6_transfer_16 mO_at rfl ?_
  refine z_iconst (v := 0) F dX6_transfer_19 rfl ?_
  refine z_bipush (v := 54) F dX6_transfer_20 rfl ?_
  refine z_iast (j := 0) F dX6_transfer_22 mA_39 rfl rfl (show 0 < 60 by decide) (Nat.le_of_ble_eq_true rfl) ?_
  refine z_heap _ (ma_39 (v := 54)) ?_
  refine z_aload_n F dX6_transfer_23 rfl rfl ?_
  refine z_getf F vF_X6_74 dX6_transfer_24 mO_at rfl ?_
  refine z_iconst (v := 1) F dX6_transfer_27 rfl ?_
  refine z_iload_n F dX6_transfer_28 rfl ?_
  refine z_sipush (v := 255) F dX6_transfer_29 rfl ?_
  refine z_iand F dX6_transfer_32 ?_
  rw [b8_and]
  refine z_iast (j := 1) F dX6_transfer_33 mA_39 rfl rfl (show 1 < 60 by decide) (Nat.le_of_ble_eq_true rfl) ?_
  refine z_heap _ (ma_39) ?_
  refine z_aload_n F dX6_transfer_34 rfl rfl ?_
  refine z_getf F vF_X6_74 dX6_transfer_35 mO_at rfl ?_
  refine z_iconst (v := 2) F dX6_transfer_38 rfl ?_
  refine z_iload_n F dX6_transfer_39 rfl ?_
  refine z_sipush (v := 255) F dX6_transfer_40 rfl ?_
  refine z_iand F dX6_transfer_43 ?_
  rw [b8_and]
  refine z_iast (j := 2) F dX6_transfer_44 mA_39 rfl rfl (show 2 < 60 by decide) (Nat.le_of_ble_eq_true rfl) ?_
  refine z_heap _ (ma_39) ?_
  refine z_aload_n F dX6_transfer_45 rfl rfl ?_
  refine z_getf F vF_X6_164 dX6_transfer_46 mO_at rfl ?_
  refine z_istore_n F dX6_transfer_49 (Nat.le_of_ble_eq_true rfl) ?_
  refine z_aload_n F dX6_transfer_50 rfl rfl ?_
  refine z_callV F z_nwOK wL_good (c_X6_looked (S := trD S x b) (trD_row R x b) W V (show 3 ≤ 60 by decide) U Y) mO_at rfl vI_X6_looked vM_X6_218 vV_X6_looked vL_X6_looked rfl dX6_transfer_51 rfl rfl (Nat.le_of_ble_eq_true rfl) ⟨(Nat.le_of_ble_eq_true rfl), (Nat.le_of_ble_eq_true rfl), (Nat.le_of_ble_eq_true rfl), (Nat.le_of_ble_eq_true rfl)⟩ (fun v h1 hq => ?_)
  obtain ⟨rfl, rfl⟩ := hq
  refine z_istore F dX6_transfer_54 (Nat.le_of_ble_eq_true rfl) ?_
  refine z_aload_n F dX6_transfer_56 rfl rfl ?_
  refine z_getf F vF_X6_80 dX6_transfer_57 mO_at rfl ?_
  rw [sF_lk]
  refine z_if_le (tgt := 71) F dX6_transfer_60 (by decide) (fun c60 => ?_) (fun c60 => ?_)
  · have h0 : ¬ 0 < (lkR (trD S x b)).1 := by have := (nI_leI (a := (lkR (trD S x b)).1) (b := 0) (by omega) (by decide)).mp c60; omega
    refine z_aload_n F dX6_transfer_71 rfl rfl ?_
    refine z_getf F vF_X6_164 dX6_transfer_72 mO_at rfl ?_
    refine z_iload_n F dX6_transfer_75 rfl ?_
    refine z_icmp_le (tgt := 83) F dX6_transfer_76 (by decide) (fun c76 => ?_) (fun c76 => ?_)
    · have hs : (sp_transfer S x b).1 = 2 := by show (if _ then _ else if _ then _ else _) = _; rw [if_neg h0, if_neg (by have := (nI_leI (a := sN (lkS (trD S x b)) 28) (b := sN S 28) (by omega) (by omega)).mp c76; omega)]
      refine z_iconst (v := 2) F dX6_transfer_83 rfl ?_
      exact z_iret F hr dX6_transfer_84 rfl (Nat.le_of_ble_eq_true rfl) (Nat.le_of_ble_eq_true rfl) (⟨by rw [hs], rfl⟩)
    · have hs : (sp_transfer S x b).1 = 1 := by show (if _ then _ else if _ then _ else _) = _; rw [if_neg h0, if_pos (by have := mt (nI_leI (a := sN (lkS (trD S x b)) 28) (b := sN S 28) (by omega) (by omega)).mpr c76; omega)]
      refine z_iconst (v := 1) F dX6_transfer_79 rfl ?_
      refine z_goto (tgt := 84) F dX6_transfer_80 (by decide) ?_
      exact z_iret F hr dX6_transfer_84 rfl (Nat.le_of_ble_eq_true rfl) (Nat.le_of_ble_eq_true rfl) (⟨by rw [hs], rfl⟩)
  · have h0 : 0 < (lkR (trD S x b)).1 := by have := mt (nI_leI (a := (lkR (trD S x b)).1) (b := 0) (by omega) (by decide)).mpr c60; omega
    have hs : (sp_transfer S x b).1 = -nI (lkR (trD S x b)).1 := if_pos h0
    refine z_aload_n F dX6_transfer_63 rfl rfl ?_
    refine z_getf F vF_X6_80 dX6_transfer_64 mO_at rfl ?_
    rw [sF_lk]
    refine z_ineg F dX6_transfer_67 ?_
    refine z_goto (tgt := 84) F dX6_transfer_68 (by decide) ?_
    exact z_iret F hr dX6_transfer_84 rfl (Nat.le_of_ble_eq_true rfl) (Nat.le_of_ble_eq_true rfl) (⟨by rw [hs], rfl⟩)

def sp_routine (S : z_S) (id n : Int32) : Int32 × z_S :=
  if (inZ id.toInt 0 65535 && inZ n.toInt 0 100) = true then
    (match fnd (sAI S 21) id (sN S 20) with
    | some _ => (-3, uN S 0 0)
    | none => if sN S 20 = 10 then (-4, uN S 0 0) else (nI (sN S 20 + 1), uN (uAN (uAI (uN S 0 0) 21 (va_up (sAI S 21) (sN S 20) id)) 22 (va_up (sAN S 22) (sN S 20) (tn n))) 20 (sN S 20 + 1)))
  else (-2, uN S 0 0)

set_option maxRecDepth 100000 in
set_option maxHeartbeats 1000000 in
theorem l_X6_routine {c : Nat → z_E} {S : z_S} {o : Nat → Int64} {d : z_H} {id n : Int32} (h10 : sN S 20 ≤ 10) (hR : (inZ id.toInt 0 65535 && inZ n.toInt 0 100) = true) (hD : inZ n.toInt 0 100 = true) {G : z_G} {X : z_X} (F : z_F vwCl z_ats z_nw wsL_law G RX6 cX6_routine 4 (z_rm 1 0 0) X) (hr : X.2.2.2.2.2.2.2.2.1.sig.returnType = some .int) :
    ∀ (m i : Nat), (i + m = sN S 20 ∧ ∀ j, j < i → ¬ sAI S 21 j = id) → z_V vwCl G 4 X (z_end vwCl z_ats z_nw G X 0 0 (fun v h' => v = some (.int (sp_routine S id n).1) ∧ h' = (HP c (mfun ((sp_routine S id n).2) o) d))) 0 0 34 [(0, .ref 11), (1, .int id), (2, .int n), (3, .int (nI i))] [] (HP c (mfun (uN S 0 0) o) d) := by
  intro m
  induction m with
  | zero =>
    intro i hi
    obtain ⟨hi, hm⟩ := hi
    have hf : fnd (sAI S 21) id (sN S 20) = none := fnd_none.mpr (fun j hj => hm j (by omega))
    refine z_iload_n F dX6_routine_34 rfl ?_
    refine z_aload_n F dX6_routine_35 rfl rfl ?_
    refine z_getf F vF_X6_109 dX6_routine_36 mO_at rfl ?_
    refine z_icmp_ge (tgt := 61) F dX6_routine_39 (by decide) (fun c39 => ?_) (fun c39 => absurd (nI_le (a := sN S 20) (b := i) (by omega) (by omega)) c39)
    refine z_aload_n F dX6_routine_61 rfl rfl ?_
    refine z_getf F vF_X6_109 dX6_routine_62 mO_at rfl ?_
    refine z_bipush (v := 10) F dX6_routine_65 rfl ?_
    refine z_icmp_ne (tgt := 73) F dX6_routine_67 (by decide) (fun c67 => ?_) (fun c67 => ?_)
    · have e10 : ¬ sN S 20 = 10 := fun e => c67 (by show nI (sN S 20) = 10; rw [e]; rfl)
      have hs : sp_routine S id n = (nI (sN S 20 + 1), uN (uAN (uAI (uN S 0 0) 21 (va_up (sAI S 21) (sN S 20) id)) 22 (va_up (sAN S 22) (sN S 20) (tn n))) 20 (sN S 20 + 1)) := by unfold sp_routine; rw [if_pos hR, hf]; exact if_neg e10
      obtain ⟨jn, -, hn2, rfl⟩ := inZ_ex (a := 0) (b := 100) hD
      rw [tn_nI (by omega)] at hs
      refine z_aload_n F dX6_routine_73 rfl rfl ?_
      refine z_getf F vF_X6_56 dX6_routine_74 mO_at rfl ?_
      refine z_aload_n F dX6_routine_77 rfl rfl ?_
      refine z_getf F vF_X6_109 dX6_routine_78 mO_at rfl ?_
      refine z_iload_n F dX6_routine_81 rfl ?_
      refine z_iast (j := sN S 20) F dX6_routine_82 mA_21 rfl rfl (show sN S 20 < 10 by omega) (Nat.le_of_ble_eq_true rfl) ?_
      refine z_heap _ (ma_21) ?_
      refine z_aload_n F dX6_routine_83 rfl rfl ?_
      refine z_getf F vF_X6_59 dX6_routine_84 mO_at rfl ?_
      refine z_aload_n F dX6_routine_87 rfl rfl ?_
      refine z_getf F vF_X6_109 dX6_routine_88 mO_at rfl ?_
      refine z_iload_n F dX6_routine_91 rfl ?_
      refine z_iast (j := sN S 20) F dX6_routine_92 mA_22 rfl rfl (show sN S 20 < 10 by omega) (Nat.le_of_ble_eq_true rfl) ?_
      refine z_heap _ (ma_22) ?_
      refine z_aload_n F dX6_routine_93 rfl rfl ?_
      refine z_dup F dX6_routine_94 rfl ?_
      refine z_getf F vF_X6_109 dX6_routine_95 mO_at rfl ?_
      refine z_iconst (v := 1) F dX6_routine_98 rfl ?_
      refine z_iadd F dX6_routine_99 ?_
      rw [nI_1]
      refine z_putf F vF_X6_109 vT_X6 vD_X6_20 dX6_routine_100 mO_at (Nat.le_of_ble_eq_true rfl) rfl rfl (fun g100 => ?_)
      refine z_heap _ (ms_20) ?_
      refine z_aload_n F dX6_routine_103 rfl rfl ?_
      refine z_getf F vF_X6_109 dX6_routine_104 mO_at rfl ?_
      exact z_iret F hr dX6_routine_107 rfl (Nat.le_of_ble_eq_true rfl) (Nat.le_of_ble_eq_true rfl) (⟨by rw [hs]; try rfl, by rw [hs]; try rfl⟩)
    · have e10 : sN S 20 = 10 := (nI_eq (b := 10) (by omega) (by decide)).mp c67
      have hs : sp_routine S id n = (-4, uN S 0 0) := by unfold sp_routine; rw [if_pos hR, hf]; exact if_pos e10
      refine z_bipush (v := (-4)) F dX6_routine_70 rfl ?_
      exact z_iret F hr dX6_routine_72 rfl (Nat.le_of_ble_eq_true rfl) (Nat.le_of_ble_eq_true rfl) (⟨by rw [hs]; try rfl, by rw [hs]; try rfl⟩)
  | succ m ih =>
    intro i hi
    obtain ⟨hi, hm⟩ := hi
    refine z_iload_n F dX6_routine_34 rfl ?_
    refine z_aload_n F dX6_routine_35 rfl rfl ?_
    refine z_getf F vF_X6_109 dX6_routine_36 mO_at rfl ?_
    refine z_icmp_ge (tgt := 61) F dX6_routine_39 (by decide) (fun c39 => absurd c39 (nI_ge (a := i) (b := sN S 20) (by omega) (by omega))) (fun c39 => ?_)
    refine z_aload_n F dX6_routine_42 rfl rfl ?_
    refine z_getf F vF_X6_56 dX6_routine_43 mO_at rfl ?_
    refine z_iload_n F dX6_routine_46 rfl ?_
    refine z_iald (j := i) F dX6_routine_47 mA_21 rfl rfl (show i < 10 by omega) (Nat.le_of_ble_eq_true rfl) ?_
    refine z_iload_n F dX6_routine_48 rfl ?_
    refine z_icmp_ne (tgt := 55) F dX6_routine_49 (by decide) (fun c49 => ?_) (fun c49 => ?_)
    · refine z_iinc (w := 1) F dX6_routine_55 rfl rfl (Nat.le_of_ble_eq_true rfl) ?_
      rw [nI_1]
      refine z_goto (tgt := 34) F dX6_routine_58 (by decide) ?_
      refine ih (i + 1) ⟨by omega, fun j hj => ?_⟩
      by_cases hji : j = i
      · rw [hji]; exact c49
      · exact hm j (by omega)
    · have hf : fnd (sAI S 21) id (sN S 20) = some i := fnd_at c49 hm (by omega)
      have hs : sp_routine S id n = (-3, uN S 0 0) := by unfold sp_routine; rw [if_pos hR, hf]
      refine z_bipush (v := (-3)) F dX6_routine_52 rfl ?_
      exact z_iret F hr dX6_routine_54 rfl (Nat.le_of_ble_eq_true rfl) (Nat.le_of_ble_eq_true rfl) (⟨by rw [hs]; try rfl, by rw [hs]; try rfl⟩)

set_option maxRecDepth 100000 in
set_option maxHeartbeats 1000000 in
theorem c_X6_routine {c : Nat → z_E} {S : z_S} {o : Nat → Int64} {d : z_H} (id n : Int32) (h10 : sN S 20 ≤ 10) : z_K yX6_routine cX6_routine 4 (some .int) 1 0 0 [.ref 11, .int id, .int n] (HP c (mfun S o) d) (fun v h' => v = some (.int (sp_routine S id n).1) ∧ h' = (HP c (mfun ((sp_routine S id n).2) o) d)) := by
  refine z_met vI_X6_routine (Nat.le_of_ble_eq_true rfl) (fun G X F hr hnm => ?_)
  refine z_aload_n F dX6_routine_0 rfl rfl ?_
  refine z_iconst (v := 0) F dX6_routine_1 rfl ?_
  refine z_putf F vF_X6_83 vT_X6 vD_X6_0 dX6_routine_2 mO_at (Nat.le_of_ble_eq_true rfl) rfl rfl (fun g2 => ?_)
  refine z_heap _ (ms_0 (v := 0)) ?_
  refine z_iload_n F dX6_routine_5 rfl ?_
  refine z_i2l F dX6_routine_6 ?_
  refine z_lconst (v := 0) F dX6_routine_7 rfl ?_
  refine z_ldc2 F vK_X6_89 dX6_routine_8 ?_
  refine z_callS F z_nwOK wL_good (c_isIn32 (A := 0) (B := 65535) id 0 65535 rfl rfl) vI_X6_isIn vM_X6_91 vS_X6_isIn rfl dX6_routine_11 rfl rfl (Nat.le_of_ble_eq_true rfl) ⟨(Nat.le_of_ble_eq_true rfl), (Nat.le_of_ble_eq_true rfl), (Nat.le_of_ble_eq_true rfl), (Nat.le_of_ble_eq_true rfl)⟩ (fun v h1 hq => ?_)
  obtain ⟨rfl, rfl⟩ := hq
  refine z_if_eq (tgt := 29) F dX6_routine_14 (by decide) (fun c14 => ?_) (fun c14 => ?_)
  · have hs : sp_routine S id n = (-2, uN S 0 0) := if_neg (by rw [z_b0.mp c14]; simp)
    refine z_bipush (v := (-2)) F dX6_routine_29 rfl ?_
    exact z_iret F hr dX6_routine_31 rfl (Nat.le_of_ble_eq_true rfl) (Nat.le_of_ble_eq_true rfl) (⟨by rw [hs]; try rfl, by rw [hs]; try rfl⟩)
  · have hA := z_b1 c14
    refine z_iload_n F dX6_routine_17 rfl ?_
    refine z_i2l F dX6_routine_18 ?_
    refine z_lconst (v := 0) F dX6_routine_19 rfl ?_
    refine z_ldc2 F vK_X6_107 dX6_routine_20 ?_
    refine z_callS F z_nwOK wL_good (c_isIn32 (A := 0) (B := 100) n 0 100 rfl rfl) vI_X6_isIn vM_X6_91 vS_X6_isIn rfl dX6_routine_23 rfl rfl (Nat.le_of_ble_eq_true rfl) ⟨(Nat.le_of_ble_eq_true rfl), (Nat.le_of_ble_eq_true rfl), (Nat.le_of_ble_eq_true rfl), (Nat.le_of_ble_eq_true rfl)⟩ (fun v h1 hq => ?_)
    obtain ⟨rfl, rfl⟩ := hq
    refine z_if_ne (tgt := 32) F dX6_routine_26 (by decide) (fun c26 => ?_) (fun c26 => ?_)
    · have hD := z_b1 c26
      have hR : (inZ id.toInt 0 65535 && inZ n.toInt 0 100) = true := by rw [hA, hD]; rfl
      refine z_iconst (v := 0) F dX6_routine_32 rfl ?_
      refine z_istore_n F dX6_routine_33 (Nat.le_of_ble_eq_true rfl) ?_
      exact l_X6_routine h10 hR hD F hr (sN S 20) 0 ⟨by omega, fun j hj => absurd hj (Nat.not_lt_zero j)⟩
    · have hs : sp_routine S id n = (-2, uN S 0 0) := if_neg (by rw [z_b0.mp c26]; simp)
      refine z_bipush (v := (-2)) F dX6_routine_29 rfl ?_
      exact z_iret F hr dX6_routine_31 rfl (Nat.le_of_ble_eq_true rfl) (Nat.le_of_ble_eq_true rfl) (⟨by rw [hs]; try rfl, by rw [hs]; try rfl⟩)
