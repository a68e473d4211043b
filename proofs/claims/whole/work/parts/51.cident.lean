def xN (x : z_Xc) (i s p : Nat → Nat) (h : Nat → Int64) (sf : Nat → Nat → Option Nat) (pf : Nat → Nat → Int32) : z_Xc := (x.1, x.2.1, x.2.2.1, x.2.2.2.1, x.2.2.2.2.1, i, s, p, xr x, h, sf, pf)
/-- an identifier is added: its cell at L, its two rows behind it -/
def xA (x : z_Xc) (n L : Nat) (sf : Nat → Option Nat) (pf : Nat → Int32) : z_Xc := xN x (va_up (xi x) n L) (va_up (xs x) n (L + 1)) (va_up (xp x) n (L + 2)) (va_up (xh x) n 0) (va_up (xsf x) n sf) (va_up (xpf x) n pf)
def idA (S : z_S) (id : Int32) (len s l : Nat) (b : Bool) : z_S := uAB (s_add (uN S 0 0) id len s l) 17 (va_up (sAB S 17) (sN S 8) b)
theorem idA_false {S : z_S} (B : DF S) (id : Int32) (len s l : Nat) : idA S id len s l false = s_add (uN S 0 0) id len s l := by
  unfold idA
  rw [show va_up (sAB S 17) (sN S 8) false = sAB S 17 from by rw [← (B.1 (sN S 8) (Nat.le_refl _)).2.2.1]; exact va_same _ _]
  exact uAB_same (s_add (uN S 0 0) id len s l) 17
theorem va_inj {f : Nat → Nat} {n v : Nat} {P : Nat → Prop} (hf : ∀ j k, j < n → k < n → P j → P k → f j = f k → j = k) (hv : ∀ j, j < n → P j → ¬ f j = v) : ∀ j k, j < n + 1 → k < n + 1 → (j < n → P j) → (k < n → P k) → va_up f n v j = va_up f n v k → j = k := fun j k hj hk pj pk he => by
  by_cases h1 : j = n
  · by_cases h2 : k = n
    · omega
    · rw [h1, va_up_self, va_up_ne _ _ h2] at he
      exact absurd he.symm (hv k (by omega) (pk (by omega)))
  · by_cases h2 : k = n
    · rw [h2, va_up_self, va_up_ne _ _ h1] at he
      exact absurd he (hv j (by omega) (pj (by omega)))
    · rw [va_up_ne _ _ h1, va_up_ne _ _ h2] at he
      exact hf j k (by omega) (by omega) (pj (by omega)) (pk (by omega)) he
abbrev idE (id : Int32) (s l : Nat) (b : Bool) (len L : Nat) : z_E := I_o id s l b len true 0 false 0 (L + 1 + 32) (L + 2 + 32)
theorem idA_n {S : z_S} {x : z_Xc} (B : DF S) (id : Int32) (len s l L : Nat) (b : Bool) (sf : Nat → Option Nat) (pf : Nat → Int32) : IO (idA S id len s l b) (xA x (sN S 8) L sf pf) (sN S 8) = idE id s l b len L := by
  obtain ⟨b1, b2, b3, b4⟩ := B.1 (sN S 8) (Nat.le_refl _)
  unfold IO
  rw [show sAI (idA S id len s l b) 9 (sN S 8) = id from va_up_self _ _ _, show sAN (idA S id len s l b) 11 (sN S 8) = s from va_up_self _ _ _, show sAN (idA S id len s l b) 12 (sN S 8) = l from va_up_self _ _ _, show sAB (idA S id len s l b) 17 (sN S 8) = b from va_up_self _ _ _, show sAN (idA S id len s l b) 10 (sN S 8) = len from va_up_self _ _ _, show sAB (idA S id len s l b) 16 (sN S 8) = false from b2, show sAL (idA S id len s l b) 13 (sN S 8) = 0 from b4, show sAB (idA S id len s l b) 14 (sN S 8) = false from b1, show xh (xA x (sN S 8) L sf pf) (sN S 8) = 0 from va_up_self _ _ _, show xs (xA x (sN S 8) L sf pf) (sN S 8) = L + 1 from va_up_self _ _ _, show xp (xA x (sN S 8) L sf pf) (sN S 8) = L + 2 from va_up_self _ _ _]
  rfl
theorem idA_k {S : z_S} {x : z_Xc} (id : Int32) (len s l L : Nat) (b : Bool) (sf : Nat → Option Nat) (pf : Nat → Int32) {k : Nat} (h : ¬ k = sN S 8) : IO (idA S id len s l b) (xA x (sN S 8) L sf pf) k = IO S x k := by
  unfold IO
  rw [show sAI (idA S id len s l b) 9 k = sAI S 9 k from va_up_ne _ _ h, show sAN (idA S id len s l b) 11 k = sAN S 11 k from va_up_ne _ _ h, show sAN (idA S id len s l b) 12 k = sAN S 12 k from va_up_ne _ _ h, show sAB (idA S id len s l b) 17 k = sAB S 17 k from va_up_ne _ _ h, show sAN (idA S id len s l b) 10 k = sAN S 10 k from va_up_ne _ _ h, show xh (xA x (sN S 8) L sf pf) k = xh x k from va_up_ne _ _ h, show xs (xA x (sN S 8) L sf pf) k = xs x k from va_up_ne _ _ h, show xp (xA x (sN S 8) L sf pf) k = xp x k from va_up_ne _ _ h]
  rfl
theorem push_1 {d : z_H} {e a b : z_E} : (d ++ [e] ++ [a] ++ [b])[d.length]? = some e := by simp
theorem push_2 {d : z_H} {e a b : z_E} : (d ++ [e] ++ [a] ++ [b])[d.length + 1]? = some a := by simp
theorem push_3 {d : z_H} {e a b : z_E} : (d ++ [e] ++ [a] ++ [b])[d.length + 2]? = some b := by simp
theorem CR_idA {S : z_S} {x : z_Xc} {d : z_H} (C : CR S x d) (B : DF S) (W : idsOK S) (id : Int32) (len s l : Nat) (b : Bool) {sf : Nat → Option Nat} {pf : Nat → Int32} {a1 a2 : z_E} (hT : b = true → a1 = .inl (4, 8, .inr (.inr (.inr (.inr sf)))) ∧ a2 = .inl (0, 8, .inl pf) ∧ len = 0) :
    CR (idA S id len s l b) (xA x (sN S 8) d.length sf pf) (d ++ [idE id s l b len d.length] ++ [a1] ++ [a2]) := by
  have P := CR_push (CR_push (CR_push C (idE id s l b len d.length)) a1) a2
  have hlt : ∀ k, k < sN S 8 → xi x k < d.length := fun k hk => at_lt (C.1.1 k hk)
  have h17 : ∀ k, k < sN S 8 → sAB (idA S id len s l b) 17 k = sAB S 17 k := fun k hk => va_up_ne _ _ (by omega)
  refine ⟨⟨fun k hk => ?_, fun k hk ht => ?_⟩, fun k hk ht => ?_, P.2.2.1, ⟨fun j k hj hk he => ?_, fun j k hj hk tj tk he => ?_, fun j k hj hk tj tk he => ?_, P.2.2.2.1.2.2.2⟩, P.2.2.2.2⟩
  · have hk : k < sN S 8 + 1 := hk
    show (d ++ [idE id s l b len d.length] ++ [a1] ++ [a2])[va_up (xi x) (sN S 8) d.length k]? = _
    by_cases h : k = sN S 8
    · rw [h, va_up_self, idA_n B]
      exact push_1
    · rw [va_up_ne _ _ h, idA_k _ _ _ _ _ _ _ _ h]
      exact P.1.1 k (by omega)
  · have hk : k < sN S 8 + 1 := hk
    by_cases h : k = sN S 8
    · rw [h] at ht
      rw [show sAB (idA S id len s l b) 14 (sN S 8) = false from (B.1 (sN S 8) (Nat.le_refl _)).1] at ht
      cases ht
    · rw [show xh (xA x (sN S 8) d.length sf pf) k = xh x k from va_up_ne _ _ h]
      exact C.1.2 k (by omega) ht
  · have hk : k < sN S 8 + 1 := hk
    by_cases h : k = sN S 8
    · subst h
      have hb : b = true := (show sAB (idA S id len s l b) 17 (sN S 8) = b from va_up_self _ _ _).symm.trans ht
      obtain ⟨t1, t2, t3⟩ := hT hb
      rw [show xs (xA x (sN S 8) d.length sf pf) (sN S 8) = d.length + 1 from va_up_self _ _ _, show xp (xA x (sN S 8) d.length sf pf) (sN S 8) = d.length + 2 from va_up_self _ _ _, show xsf (xA x (sN S 8) d.length sf pf) (sN S 8) = sf from va_up_self _ _ _, show xpf (xA x (sN S 8) d.length sf pf) (sN S 8) = pf from va_up_self _ _ _, show sAN (idA S id len s l b) 10 (sN S 8) = len from va_up_self _ _ _, t3, ← t1, ← t2]
      exact ⟨push_2, push_3, fun p hp => absurd hp (Nat.not_lt_zero p)⟩
    · have hk2 : k < sN S 8 := by omega
      rw [h17 k hk2] at ht
      obtain ⟨q1, q2, q3⟩ := P.2.1 k hk2 ht
      rw [show xs (xA x (sN S 8) d.length sf pf) k = xs x k from va_up_ne _ _ h, show xp (xA x (sN S 8) d.length sf pf) k = xp x k from va_up_ne _ _ h, show xsf (xA x (sN S 8) d.length sf pf) k = xsf x k from va_up_ne _ _ h, show xpf (xA x (sN S 8) d.length sf pf) k = xpf x k from va_up_ne _ _ h, show sAN (idA S id len s l b) 10 k = sAN S 10 k from va_up_ne _ _ h]
      refine ⟨q1, q2, fun p hp => ⟨?_, (q3 p hp).2⟩⟩
      have hpt : sAN S 18 (8 * k + p) < sN S 8 := ((W.2 k hk2).2 ht p hp).1
      rw [(q3 p hp).1]
      show _ = some (va_up (xi x) (sN S 8) d.length (sAN S 18 (8 * k + p)) + 32)
      rw [va_up_ne _ _ (by omega)]
  · exact va_inj (P := fun _ => True) (fun j k hj hk _ _ => C.2.2.2.1.1 j k hj hk) (fun j hj _ e => by have := hlt j hj; omega) j k hj hk (fun _ => trivial) (fun _ => trivial) he
  · exact va_inj (P := fun k => sAB S 17 k = true) (fun j k hj hk => C.2.2.2.1.2.1 j k hj hk) (fun j hj t e => by have := at_lt (C.2.1 j hj t).1; omega) j k hj hk (fun h => (h17 j h).symm.trans tj) (fun h => (h17 k h).symm.trans tk) he
  · exact va_inj (P := fun k => sAB S 17 k = true) (fun j k hj hk => C.2.2.2.1.2.2.1 j k hj hk) (fun j hj t e => by have := at_lt (C.2.1 j hj t).2.1; omega) j k hj hk (fun h => (h17 j h).symm.trans tj) (fun h => (h17 k h).symm.trans tk) he
/-! more octets of a put together one -/
theorem apS_at (sf : Nat → Option Nat) (len s p : Nat) : ∀ k, apS sf len s k p = if (len ≤ p ∧ p < len + k) then some s else sf p
  | 0 => by rw [if_neg (by omega)]; rfl
  | k + 1 => by
    show va_up (apS sf len s k) (len + k) (some s) p = _
    by_cases h : p = len + k
    · rw [h, va_up_self, if_pos (by omega)]
    · rw [va_up_ne _ _ h, apS_at sf len s p k]
      by_cases h2 : len ≤ p ∧ p < len + k
      · rw [if_pos h2, if_pos (by omega)]
      · rw [if_neg h2, if_neg (by omega)]
theorem apP_at (pf : Nat → Int32) (len p : Nat) : ∀ k, apP pf len k p = if (len ≤ p ∧ p < len + k) then nI (p - len) else pf p
  | 0 => by rw [if_neg (by omega)]; rfl
  | k + 1 => by
    show upd (apP pf len k) (len + k) (nI k) p = _
    by_cases h : p = len + k
    · rw [h, pk_us, if_pos (by omega), show len + k - len = k by omega]
    · rw [pk_un h, apP_at pf len p k]
      by_cases h2 : len ≤ p ∧ p < len + k
      · rw [if_pos h2, if_pos (by omega)]
      · rw [if_neg h2, if_neg (by omega)]
def xP (x : z_Xc) (e len s k : Nat) : z_Xc := xN x (xi x) (xs x) (xp x) (xh x) (va_up (xsf x) e (apS (xsf x e) len s k)) (va_up (xpf x) e (apP (xpf x e) len k))
def dP (d : z_H) (S : z_S) (x : z_Xc) (e len s k : Nat) : z_H := z_set3 d (xs x e) (xp x e) (xi x e) (.inl (4, 8, .inr (.inr (.inr (.inr (apS (xsf x e) len s k)))))) (.inl (0, 8, .inl (apP (xpf x e) len k))) (I_o (sAI S 9 e) (sAN S 11 e) (sAN S 12 e) true (len + k) (!sAB S 16 e) (sAL S 13 e) (sAB S 14 e) (xh x e) (xs x e + 32) (xp x e + 32))
theorem CR_app {S : z_S} {x : z_Xc} {d : z_H} (C : CR S x d) (W : idsOK S) {e f k : Nat} (he : e < sN S 8) (te : sAB S 17 e = true) (hk8 : sAN S 10 e + k ≤ 8) : CR (dyS S e (sAN S 10 e) f k) (xP x e (sAN S 10 e) (xi x f + 32) k) (dP d S x e (sAN S 10 e) (xi x f + 32) k) := by
  obtain ⟨e1, e2, e3⟩ := C.2.1 e he te
  have e0 := C.1.1 e he
  have hsp : xs x e ≠ xp x e := fun q => by rw [q, e2] at e1; cases e1
  have hsi : xs x e ≠ xi x e := fun q => by rw [q, e0] at e1; cases e1
  have hpi : xp x e ≠ xi x e := fun q => by rw [q, e0] at e2; cases e2
  have h10 : ∀ j, ¬ j = e → sAN (dyS S e (sAN S 10 e) f k) 10 j = sAN S 10 j := fun j hj => va_up_ne _ _ hj
  have hIO : ∀ j, ¬ j = e → IO (dyS S e (sAN S 10 e) f k) (xP x e (sAN S 10 e) (xi x f + 32) k) j = IO S x j := fun j hj => by
    unfold IO
    rw [h10 j hj]
    rfl
  refine ⟨⟨fun j hj => ?_, C.1.2⟩, fun j hj ht => ?_, fun j hj => ?_, C.2.2.2.1, C.2.2.2.2⟩
  · have hj : j < sN S 8 := hj
    show (dP d S x e (sAN S 10 e) (xi x f + 32) k)[xi x j]? = _
    by_cases h : j = e
    · subst h
      unfold dP
      rw [z_set3_i e0]
      unfold IO
      rw [show sAN (dyS S j (sAN S 10 j) f k) 10 j = sAN S 10 j + k from va_up_self _ _ _, show sAB (dyS S j (sAN S 10 j) f k) 17 j = true from te]
      rfl
    · unfold dP
      rw [z_set3_n (fun q => by rw [q, C.1.1 j hj] at e1; cases e1) (fun q => by rw [q, C.1.1 j hj] at e2; cases e2) (fun q => h (C.2.2.2.1.1 j e hj he q.symm)), hIO j h]
      exact C.1.1 j hj
  · have hj : j < sN S 8 := hj
    have ht : sAB S 17 j = true := ht
    show (dP d S x e (sAN S 10 e) (xi x f + 32) k)[xs x j]? = _ ∧ (dP d S x e (sAN S 10 e) (xi x f + 32) k)[xp x j]? = _ ∧ _
    by_cases h : j = e
    · subst h
      unfold dP
      rw [z_set3_s e1 hsp hsi, z_set3_p e2 hpi, show xsf (xP x j (sAN S 10 j) (xi x f + 32) k) j = apS (xsf x j) (sAN S 10 j) (xi x f + 32) k from va_up_self _ _ _, show xpf (xP x j (sAN S 10 j) (xi x f + 32) k) j = apP (xpf x j) (sAN S 10 j) k from va_up_self _ _ _, show sAN (dyS S j (sAN S 10 j) f k) 10 j = sAN S 10 j + k from va_up_self _ _ _]
      refine ⟨rfl, rfl, fun p hp => ?_⟩
      rw [apS_at, apP_at]
      show _ = some (xi x (ptF (sAN S 18) (8 * j + sAN S 10 j) f k (8 * j + p)) + 32) ∧ _ = nI (ptA (sAN S 19) (8 * j + sAN S 10 j) k (8 * j + p))
      unfold ptF ptA
      by_cases h2 : sAN S 10 j ≤ p ∧ p < sAN S 10 j + k
      · rw [if_pos h2, if_pos h2, if_pos (by omega), if_pos (by omega), show 8 * j + p - (8 * j + sAN S 10 j) = p - sAN S 10 j by omega]
        exact ⟨rfl, rfl⟩
      · rw [if_neg h2, if_neg h2, if_neg (by omega), if_neg (by omega)]
        exact e3 p (by omega)
    · obtain ⟨q1, q2, q3⟩ := C.2.1 j hj ht
      unfold dP
      rw [z_set3_n (fun q => h (C.2.2.2.1.2.1 j e hj he ht te q.symm)) (fun q => by rw [q, q1] at e2; cases e2) (fun q => by rw [q, q1] at e0; cases e0), z_set3_n (fun q => by rw [q, q2] at e1; cases e1) (fun q => h (C.2.2.2.1.2.2.1 j e hj he ht te q.symm)) (fun q => by rw [q, q2] at e0; cases e0), show xsf (xP x e (sAN S 10 e) (xi x f + 32) k) j = xsf x j from va_up_ne _ _ h, show xpf (xP x e (sAN S 10 e) (xi x f + 32) k) j = xpf x j from va_up_ne _ _ h, h10 j h]
      refine ⟨q1, q2, fun p hp => ?_⟩
      have h8 := (W.2 j hj).1
      show xsf x j p = some (xi x (ptF (sAN S 18) (8 * e + sAN S 10 e) f k (8 * j + p)) + 32) ∧ xpf x j p = nI (ptA (sAN S 19) (8 * e + sAN S 10 e) k (8 * j + p))
      unfold ptF ptA
      rw [if_neg (by omega), if_neg (by omega)]
      exact q3 p hp
  · have hj : j < sN S 20 := hj
    show (dP d S x e (sAN S 10 e) (xi x f + 32) k)[xr x j]? = _
    have r0 := C.2.2.1 j hj
    unfold dP
    rw [z_set3_n (fun q => by rw [q, r0] at e1; cases e1) (fun q => by rw [q, r0] at e2; cases e2) (fun q => by rw [q, r0] at e0; cases e0)]
    exact r0
theorem ad_heap {S : z_S} {x : z_Xc} {m : Nat → z_E} {d : z_H} {id : Int32} {len s l L : Nat} {b : Bool} {sf : Nat → Option Nat} {pf : Nat → Int32} : HP (cfun (uN S 8 (sN S 8 + 1)) (wi x (va_up (xi x) (sN S 8) L))) m d = HP (cfun (idA S id len s l b) (xA x (sN S 8) L sf pf)) m d := rfl
theorem ap_heap {S : z_S} {x : z_Xc} {m : Nat → z_E} {d : z_H} {e f len s k : Nat} : z_set3 (HP (cfun S x) m d) (xs x e + 32) (xp x e + 32) (xi x e + 32) (.inl (4, 8, .inr (.inr (.inr (.inr (apS (xsf x e) len s k)))))) (.inl (0, 8, .inl (apP (xpf x e) len k))) (I_o (sAI S 9 e) (sAN S 11 e) (sAN S 12 e) true (len + k) (!sAB S 16 e) (sAL S 13 e) (sAB S 14 e) (xh x e) (xs x e + 32) (xp x e + 32)) = HP (cfun (dyS S e len f k) (xP x e len s k)) m (dP d S x e len s k) := rfl

theorem in_heap {c m : Nat → z_E} {d : z_H} {bl e a b : z_E} : (HP c m (d ++ [bl]) ++ [a] ++ [b]).set (d.length + 32) e = HP c m (d ++ [e] ++ [a] ++ [b]) := by
  rw [HPa, HPa, HPs]
  congr 1
  rw [List.append_assoc, List.append_assoc, List.append_assoc, List.append_assoc, List.set_append_right _ _ (Nat.le_refl _), Nat.sub_self]
  rfl
theorem len1 {c m : Nat → z_E} {d : z_H} {e : z_E} : (HP c m (d ++ [e])).length = d.length + 1 + 32 := by rw [HPlen, List.length_append]; rfl

theorem z_args4 {cl : List vw_C} {G : z_G} {nL : Nat} {X : z_X} {Q : State → Prop} {cells slots pc : Nat} {lv : List (Nat × Value)} {st : List Value} {h : z_H} {v : Value} {y s l : Int32} {a b c : Int32} (hy : y = a) (hs : s = b) (hl : l = c) (k : z_V cl G nL X Q cells slots pc lv (v :: .int c :: .int b :: .int a :: st) h) : z_V cl G nL X Q cells slots pc lv (v :: .int l :: .int s :: .int y :: st) h := by subst hy hs hl; exact k

set_option maxRecDepth 100000 in
set_option maxHeartbeats 1000000 in
theorem c_X5_identifier {S : z_S} {x : z_Xc} {m : Nat → z_E} {d : z_H} {id y s l : Int32} (C : CR S x d) (B : DF S) (W : idsOK S) : z_K yX5_identifier cX5_identifier 5 (some .int) 2 3 11 [.ref 1, .int id, .int y, .int s, .int l] (HP (cfun S x) m d) (fun v h' => v = some (.int (sp_identifier S id y s l).1) ∧ ∃ (x' : z_Xc) (d' : z_H), h' = HP (cfun (sp_identifier S id y s l).2 x') m d' ∧ CR (sp_identifier S id y s l).2 x' d' ∧ KX x x') := by
  refine z_met vI_X5_identifier (Nat.le_of_ble_eq_true rfl) (fun G X F hr hnm => ?_)
  refine z_iload_n F dX5_identifier_0 rfl ?_
  refine z_iconst (v := 0) F dX5_identifier_1 rfl ?_
  refine z_ldc F vK_X5_78 dX5_identifier_2 ?_
  refine z_callS F z_nwOK wL_good (c_within (A := 0) (B := 65535) id 0 65535 rfl rfl) vI_X5_isWithin vM_X5_79 vS_X5_isWithin rfl dX5_identifier_4 rfl rfl (Nat.le_of_ble_eq_true rfl) ⟨(Nat.le_of_ble_eq_true rfl), (Nat.le_of_ble_eq_true rfl), (Nat.le_of_ble_eq_true rfl), (Nat.le_of_ble_eq_true rfl)⟩ (fun v h1 hq => ?_)
  obtain ⟨rfl, rfl⟩ := hq
  refine z_if_eq (tgt := 39) F dX5_identifier_7 (by decide) (fun c7 => ?_) (fun c7 => ?_)
  · have hA : (inZ id.toInt 0 65535 && inZ y.toInt 1 8 && inZ s.toInt 1 3 && inZ l.toInt 0 3) = false := by rw [show inZ _ _ _ = false from z_b0.mp c7]; simp
    have hs : sp_identifier S id y s l = (-2, uN S 0 0) := if_neg (by rw [hA]; decide)
    refine z_bipush (v := (-2)) F dX5_identifier_39 rfl ?_
    exact z_iret F hr dX5_identifier_41 rfl (Nat.le_of_ble_eq_true rfl) (Nat.le_of_ble_eq_true rfl) (⟨by rw [hs]; try rfl, x, d, by rw [hs]; try rfl, by rw [hs]; exact C, rfl, rfl, rfl⟩)
  · refine z_iload_n F dX5_identifier_10 rfl ?_
    refine z_iconst (v := 1) F dX5_identifier_11 rfl ?_
    refine z_bipush (v := 8) F dX5_identifier_12 rfl ?_
    refine z_callS F z_nwOK wL_good (c_within (A := 1) (B := 8) y 1 8 rfl rfl) vI_X5_isWithin vM_X5_79 vS_X5_isWithin rfl dX5_identifier_14 rfl rfl (Nat.le_of_ble_eq_true rfl) ⟨(Nat.le_of_ble_eq_true rfl), (Nat.le_of_ble_eq_true rfl), (Nat.le_of_ble_eq_true rfl), (Nat.le_of_ble_eq_true rfl)⟩ (fun v h1 hq => ?_)
    obtain ⟨rfl, rfl⟩ := hq
    refine z_if_eq (tgt := 39) F dX5_identifier_17 (by decide) (fun c17 => ?_) (fun c17 => ?_)
    · have hA : (inZ id.toInt 0 65535 && inZ y.toInt 1 8 && inZ s.toInt 1 3 && inZ l.toInt 0 3) = false := by rw [show inZ _ _ _ = false from z_b0.mp c17]; simp
      have hs : sp_identifier S id y s l = (-2, uN S 0 0) := if_neg (by rw [hA]; decide)
      refine z_bipush (v := (-2)) F dX5_identifier_39 rfl ?_
      exact z_iret F hr dX5_identifier_41 rfl (Nat.le_of_ble_eq_true rfl) (Nat.le_of_ble_eq_true rfl) (⟨by rw [hs]; try rfl, x, d, by rw [hs]; try rfl, by rw [hs]; exact C, rfl, rfl, rfl⟩)
    · refine z_iload_n F dX5_identifier_20 rfl ?_
      refine z_iconst (v := 1) F dX5_identifier_21 rfl ?_
      refine z_iconst (v := 3) F dX5_identifier_22 rfl ?_
      refine z_callS F z_nwOK wL_good (c_within (A := 1) (B := 3) s 1 3 rfl rfl) vI_X5_isWithin vM_X5_79 vS_X5_isWithin rfl dX5_identifier_23 rfl rfl (Nat.le_of_ble_eq_true rfl) ⟨(Nat.le_of_ble_eq_true rfl), (Nat.le_of_ble_eq_true rfl), (Nat.le_of_ble_eq_true rfl), (Nat.le_of_ble_eq_true rfl)⟩ (fun v h1 hq => ?_)
      obtain ⟨rfl, rfl⟩ := hq
      refine z_if_eq (tgt := 39) F dX5_identifier_26 (by decide) (fun c26 => ?_) (fun c26 => ?_)
      · have hA : (inZ id.toInt 0 65535 && inZ y.toInt 1 8 && inZ s.toInt 1 3 && inZ l.toInt 0 3) = false := by rw [show inZ _ _ _ = false from z_b0.mp c26]; simp
        have hs : sp_identifier S id y s l = (-2, uN S 0 0) := if_neg (by rw [hA]; decide)
        refine z_bipush (v := (-2)) F dX5_identifier_39 rfl ?_
        exact z_iret F hr dX5_identifier_41 rfl (Nat.le_of_ble_eq_true rfl) (Nat.le_of_ble_eq_true rfl) (⟨by rw [hs]; try rfl, x, d, by rw [hs]; try rfl, by rw [hs]; exact C, rfl, rfl, rfl⟩)
      · refine z_iload F dX5_identifier_29 rfl ?_
        refine z_iconst (v := 0) F dX5_identifier_31 rfl ?_
        refine z_iconst (v := 3) F dX5_identifier_32 rfl ?_
        refine z_callS F z_nwOK wL_good (c_within (A := 0) (B := 3) l 0 3 rfl rfl) vI_X5_isWithin vM_X5_79 vS_X5_isWithin rfl dX5_identifier_33 rfl rfl (Nat.le_of_ble_eq_true rfl) ⟨(Nat.le_of_ble_eq_true rfl), (Nat.le_of_ble_eq_true rfl), (Nat.le_of_ble_eq_true rfl), (Nat.le_of_ble_eq_true rfl)⟩ (fun v h1 hq => ?_)
        obtain ⟨rfl, rfl⟩ := hq
        refine z_if_ne (tgt := 42) F dX5_identifier_36 (by decide) (fun c36 => ?_) (fun c36 => ?_)
        · have hA : (inZ id.toInt 0 65535 && inZ y.toInt 1 8 && inZ s.toInt 1 3 && inZ l.toInt 0 3) = true := by rw [z_b1 c7, z_b1 c17, z_b1 c26, z_b1 c36]; rfl
          have hy := (inZ_nI (by decide) (z_b1 c17)).1
          have hs1 := (inZ_nI (by decide) (z_b1 c26)).1
          have hl1 := (inZ_nI (by decide) (z_b1 c36)).1
          refine z_aload_n F dX5_identifier_42 rfl rfl ?_
          refine z_iload_n F dX5_identifier_43 rfl ?_
          refine z_callV F z_nwOK wL_good (c_X5_findIdentifier (y := id) C.1 W.1) cO_at rfl vI_X5_findIdentifier vM_X5_83 vV_X5_findIdentifier vL_X5_findIdentifier rfl dX5_identifier_44 rfl rfl (Nat.le_of_ble_eq_true rfl) ⟨(Nat.le_of_ble_eq_true rfl), (Nat.le_of_ble_eq_true rfl), (Nat.le_of_ble_eq_true rfl), (Nat.le_of_ble_eq_true rfl)⟩ (fun v h1 hq => ?_)
          obtain ⟨rfl, rfl⟩ := hq
          cases hf : fnd (sAI S 9) id (sN S 8) with
          | none =>
            have hs0 : sp_identifier S id y s l = if sN S 8 = 40 then (-4, uN S 0 0) else (nI (sN S 8 + 1), s_add (uN S 0 0) id (tn y) (tn s) (tn l)) := by unfold sp_identifier; rw [if_pos hA, hf]
            refine z_ifnull (tgt := 53) F dX5_identifier_47 (by decide) rfl (fun c47 => ?_) (fun c47 => absurd rfl c47)
            refine z_aload_n F dX5_identifier_53 rfl rfl ?_
            refine z_callV F z_nwOK wL_good (c_X5_hasRoom W.1) cO_at rfl vI_X5_hasRoomForIdentifier vM_X5_87 vV_X5_hasRoomForIdentifier vL_X5_hasRoomForIdentifier rfl dX5_identifier_54 rfl rfl (Nat.le_of_ble_eq_true rfl) ⟨(Nat.le_of_ble_eq_true rfl), (Nat.le_of_ble_eq_true rfl), (Nat.le_of_ble_eq_true rfl), (Nat.le_of_ble_eq_true rfl)⟩ (fun v h1 hq => ?_)
            obtain ⟨rfl, rfl⟩ := hq
            refine z_if_ne (tgt := 63) F dX5_identifier_57 (by decide) (fun c57 => ?_) (fun c57 => ?_)
            · have hz : sN S 8 < 40 := of_decide_eq_true (z_b1 c57)
              have hs : sp_identifier S id y s l = (nI (sN S 8 + 1), idA S id (tn y) (tn s) (tn l) false) := by rw [hs0, if_neg (by omega), idA_false B]
              refine z_aload_n F dX5_identifier_63 rfl rfl ?_
              refine z_new F vN_X5_9 dX5_identifier_64 (Nat.le_of_ble_eq_true rfl) (Nat.le_of_ble_eq_true rfl) ?_
              rw [HPlen]
              refine z_heap _ HPa ?_
              refine z_dup F dX5_identifier_67 rfl ?_
              refine z_iload_n F dX5_identifier_68 rfl ?_
              refine z_iload_n F dX5_identifier_69 rfl ?_
              refine z_iload_n F dX5_identifier_70 rfl ?_
              refine z_iload F dX5_identifier_71 rfl ?_
              refine z_iconst (v := 0) F dX5_identifier_73 rfl ?_
              refine z_args4 hy hs1 hl1 ?_
              refine z_callI F z_nwOK wL_good (c_X1_init_n (a := d.length + 32) (len := tn y) (ses := tn s) (lev := tn l) (id := id) (HPd (d := d ++ [(.inr (2, [.int 0, .int 0, .int 0, .int 0, .int 0, .int 0, .long 0, .int 0, .long 0, .null, .null]) : z_E)]) z_pl)) vI_X1_init vM_X5_91 vV_X1_init rfl rfl dX5_identifier_74 rfl rfl (Nat.le_of_ble_eq_true rfl) ⟨(Nat.le_of_ble_eq_true rfl), (Nat.le_of_ble_eq_true rfl), (Nat.le_of_ble_eq_true rfl), (Nat.le_of_ble_eq_true rfl)⟩ (fun v h1 hq => ?_)
              obtain ⟨rfl, rfl⟩ := hq
              rw [len1]
              refine z_heap (HP (cfun S x) m (d ++ [idE id (tn s) (tn l) false (tn y) d.length] ++ [(.inl (4, 0, .inr (.inr (.inr (.inr (fun _ => none))))) : z_E)] ++ [(.inl (0, 0, .inl (fun _ => 0)) : z_E)])) in_heap ?_
              refine z_callV F z_nwOK wL_good (c_X5_addIdentifier (d := d ++ [idE id (tn s) (tn l) false (tn y) d.length] ++ [(.inl (4, 0, .inr (.inr (.inr (.inr (fun _ => none))))) : z_E)] ++ [(.inl (0, 0, .inl (fun _ => 0)) : z_E)]) (u := d.length) push_1 hz) cO_at rfl vI_X5_addIdentifier vM_X5_94 vV_X5_addIdentifier vL_X5_addIdentifier rfl dX5_identifier_77 rfl rfl (Nat.le_of_ble_eq_true rfl) ⟨(Nat.le_of_ble_eq_true rfl), (Nat.le_of_ble_eq_true rfl), (Nat.le_of_ble_eq_true rfl), (Nat.le_of_ble_eq_true rfl)⟩ (fun v h1 hq => ?_)
              obtain ⟨rfl, rfl⟩ := hq
              refine z_heap (HP (cfun (idA S id (tn y) (tn s) (tn l) false) (xA x (sN S 8) d.length (fun _ => none) (fun _ => 0))) m (d ++ [idE id (tn s) (tn l) false (tn y) d.length] ++ [(.inl (4, 0, .inr (.inr (.inr (.inr (fun _ => none))))) : z_E)] ++ [(.inl (0, 0, .inl (fun _ => 0)) : z_E)])) ad_heap ?_
              refine z_aload_n F dX5_identifier_80 rfl rfl ?_
              refine z_getf F vF_X5_15 dX5_identifier_81 cO_at rfl ?_
              exact z_iret F hr dX5_identifier_84 rfl (Nat.le_of_ble_eq_true rfl) (Nat.le_of_ble_eq_true rfl) (⟨by rw [hs]; try rfl, xA x (sN S 8) d.length (fun _ => none) (fun _ => 0), d ++ [idE id (tn s) (tn l) false (tn y) d.length] ++ [(.inl (4, 0, .inr (.inr (.inr (.inr (fun _ => none))))) : z_E)] ++ [(.inl (0, 0, .inl (fun _ => 0)) : z_E)], by rw [hs], by rw [hs]; exact CR_idA C B W id (tn y) (tn s) (tn l) false (fun h => absurd h (by decide)), rfl, rfl, rfl⟩)
            · have hz : ¬ sN S 8 < 40 := of_decide_eq_false (z_b0.mp c57)
              have hs : sp_identifier S id y s l = (-4, uN S 0 0) := by rw [hs0, if_pos (by have := W.1; omega)]
              refine z_bipush (v := (-4)) F dX5_identifier_60 rfl ?_
              exact z_iret F hr dX5_identifier_62 rfl (Nat.le_of_ble_eq_true rfl) (Nat.le_of_ble_eq_true rfl) (⟨by rw [hs]; try rfl, x, d, by rw [hs]; try rfl, by rw [hs]; exact C, rfl, rfl, rfl⟩)
          | some k =>
            have hs : sp_identifier S id y s l = (-3, uN S 0 0) := by unfold sp_identifier; rw [if_pos hA, hf]
            refine z_ifnull (tgt := 53) F dX5_identifier_47 (by decide) rfl (fun c47 => absurd c47 (by intro q; cases q)) (fun c47 => ?_)
            refine z_bipush (v := (-3)) F dX5_identifier_50 rfl ?_
            exact z_iret F hr dX5_identifier_52 rfl (Nat.le_of_ble_eq_true rfl) (Nat.le_of_ble_eq_true rfl) (⟨by rw [hs]; try rfl, x, d, by rw [hs]; try rfl, by rw [hs]; exact C, rfl, rfl, rfl⟩)
        · have hA : (inZ id.toInt 0 65535 && inZ y.toInt 1 8 && inZ s.toInt 1 3 && inZ l.toInt 0 3) = false := by rw [show inZ _ _ _ = false from z_b0.mp c36]; simp
          have hs : sp_identifier S id y s l = (-2, uN S 0 0) := if_neg (by rw [hA]; decide)
          refine z_bipush (v := (-2)) F dX5_identifier_39 rfl ?_
          exact z_iret F hr dX5_identifier_41 rfl (Nat.le_of_ble_eq_true rfl) (Nat.le_of_ble_eq_true rfl) (⟨by rw [hs]; try rfl, x, d, by rw [hs]; try rfl, by rw [hs]; exact C, rfl, rfl, rfl⟩)
