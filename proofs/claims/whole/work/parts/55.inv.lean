/-! THE INVARIANT of the state, and that every call keeps it -/
def INV (S : z_S) : Prop := rowOK S ∧ idsOK S ∧ numsOK S ∧ trOK S ∧ rtsOK S ∧ undOK S ∧ rtU S ∧ DF S
theorem up_ne {α : Type} {f : Nat → α} {j k : Nat} {v : α} (h : k ≠ j) : va_up f j v k = f k := by simp [va_up, h]
theorem up_at {α : Type} (f : Nat → α) (j : Nat) (v : α) : va_up f j v j = v := by simp [va_up]
theorem up_le {f : Nat → Nat} {j v b : Nat} (h : ∀ k, f k ≤ b) (hv : v ≤ b) : ∀ k, va_up f j v k ≤ b := by
  intro k
  by_cases e : k = j
  · rw [e, up_at]; exact hv
  · rw [up_ne e]; exact h k
theorem up_lt {f : Nat → Nat} {j v b : Nat} (h : ∀ k, f k < b) (hv : v < b) : ∀ k, va_up f j v k < b := by
  intro k
  by_cases e : k = j
  · rw [e, up_at]; exact hv
  · rw [up_ne e]; exact h k
theorem INV_0 : INV S_0 :=
  ⟨fun _ => (by decide : (0 : Nat) < 256), ⟨by decide, fun k hk => absurd hk (Nat.not_lt_zero k)⟩, ⟨by decide, by decide, by decide, fun _ => (by decide : (0 : Nat) ≤ 3), fun _ => (by decide : (0 : Nat) ≤ 3)⟩, ⟨by decide, by decide, by decide, by decide⟩,
   ⟨by decide, fun _ => (by decide : (0 : Nat) ≤ 100), fun _ => (by decide : (0 : Nat) ≤ 100), fun _ => (by decide : (0 : Nat) ≤ 10)⟩, ⟨fun _ => (by decide : (0 : Nat) < 256), by decide, fun h => by cases (show false = true from h)⟩, fun i _ hi => absurd hi (Nat.not_lt_zero i), ⟨fun _ _ => ⟨rfl, rfl, rfl, rfl⟩, fun _ _ => ⟨rfl, rfl, rfl⟩⟩⟩
theorem INV_0n {S : z_S} (v : Nat) (h : INV S) : INV (uN S 0 v) := h
theorem INV_rights {S : z_S} {y : Int32} (h : INV S) : INV (sp_rights S y).2 := by
  unfold sp_rights
  split
  · rename_i hz
    obtain ⟨j, h1, h2, rfl⟩ := inZ_ex (a := 0) (b := 3) hz
    rw [tn_nI (by omega)]
    obtain ⟨a, b, c, d⟩ := h
    exact ⟨a, b, ⟨c.1, h2, c.2.2⟩, d⟩
  · exact h
theorem INV_pending {S : z_S} {y : Int32} (h : INV S) : INV (sp_pending S y).2 := by
  unfold sp_pending
  split
  · rename_i hz
    obtain ⟨j, h1, h2, rfl⟩ := inZ_ex (a := 0) (b := 10) hz
    rw [tn_nI (by omega)]
    obtain ⟨a, b, c, d⟩ := h
    exact ⟨a, b, ⟨c.1, c.2.1, h2, c.2.2.2⟩, d⟩
  · exact h
theorem INV_condition {S : z_S} {k : Int32} {b : Bool} (h : INV S) : INV (sp_condition S k b).2 := by
  unfold sp_condition
  split
  · exact h
  · split <;> exact h
theorem DF_13 {S : z_S} {k : Nat} {v : Int64} (hk : k < sN S 8) (h : DF S) : DF (uAL S 13 (va_up (sAL S 13) k v)) :=
  ⟨fun j hj => ⟨(h.1 j hj).1, (h.1 j hj).2.1, (h.1 j hj).2.2.1, (up_ne (by have : sN S 8 ≤ j := hj; omega)).trans (h.1 j hj).2.2.2⟩, h.2⟩
theorem DF_16 {S : z_S} {k : Nat} {v : Bool} (hk : k < sN S 8) (h : DF S) : DF (uAB S 16 (va_up (sAB S 16) k v)) :=
  ⟨fun j hj => ⟨(h.1 j hj).1, (up_ne (by have : sN S 8 ≤ j := hj; omega)).trans (h.1 j hj).2.1, (h.1 j hj).2.2.1, (h.1 j hj).2.2.2⟩, h.2⟩
theorem DF_14 {S : z_S} {k : Nat} {v : Bool} (hk : k < sN S 8) (h : DF S) : DF (uAB S 14 (va_up (sAB S 14) k v)) :=
  ⟨fun j hj => ⟨(up_ne (by have : sN S 8 ≤ j := hj; omega)).trans (h.1 j hj).1, (h.1 j hj).2.1, (h.1 j hj).2.2.1, (h.1 j hj).2.2.2⟩, h.2⟩
theorem DF_23 {S : z_S} {r : Nat} {v : Bool} (hr : r < sN S 20) (h : DF S) : DF (uAB S 23 (va_up (sAB S 23) r v)) :=
  ⟨h.1, fun j hj => ⟨(up_ne (by have : sN S 20 ≤ j := hj; omega)).trans (h.2 j hj).1, (h.2 j hj).2.1, (h.2 j hj).2.2⟩⟩
theorem DF_24 {S : z_S} {r : Nat} {v : Nat} (hr : r < sN S 20) (h : DF S) : DF (uAN S 24 (va_up (sAN S 24) r v)) :=
  ⟨h.1, fun j hj => ⟨(h.2 j hj).1, (up_ne (by have : sN S 20 ≤ j := hj; omega)).trans (h.2 j hj).2.1, (h.2 j hj).2.2⟩⟩
theorem DF_25 {S : z_S} {r : Nat} {v : Nat} (hr : r < sN S 20) (h : DF S) : DF (uAN S 25 (va_up (sAN S 25) r v)) :=
  ⟨h.1, fun j hj => ⟨(h.2 j hj).1, (h.2 j hj).2.1, (up_ne (by have : sN S 20 ≤ j := hj; omega)).trans (h.2 j hj).2.2⟩⟩
theorem INV_control {S : z_S} {id k : Int32} {v : Int64} (h : INV S) : INV (sp_control S id k v).2 := by
  unfold sp_control
  cases hf : fnd (sAI S 9) id (sN S 8) with
  | none => exact h
  | some i =>
    have hi := fnd_lt hf
    obtain ⟨a, b, c, d, e, f, g, D⟩ := h
    show INV (if _ then _ else _ : Int32 × z_S).2
    split
    · split
      · exact ⟨a, b, c, d, e, f, g, D⟩
      · split
        · exact ⟨a, b, c, d, e, f, g, DF_13 (S := uN S 0 0) hi D⟩
        · exact ⟨a, b, c, d, e, f, g, DF_16 (S := uN S 0 0) hi D⟩
    · exact ⟨a, b, c, d, e, f, g, D⟩
/-- a new identifier -/
theorem ids_add {S : z_S} {id : Int32} {n s l : Nat} (h40 : ¬ sN S 8 = 40) (hn : n ≤ 8) (W : idsOK S) (D : DF S) : idsOK (s_add S id n s l) := by
  have h8 := W.1
  refine ⟨show sN S 8 + 1 ≤ 40 by omega, fun k hk => ?_⟩
  have hk : k < sN S 8 + 1 := hk
  by_cases e : k = sN S 8
  · subst e
    refine ⟨?_, fun hj => ?_⟩
    · show va_up (sAN S 10) (sN S 8) n (sN S 8) ≤ 8
      rw [up_at]; exact hn
    · have hj : sAB S 17 (sN S 8) = true := hj
      rw [(D.1 _ (Nat.le_refl _)).2.2.1] at hj
      cases hj
  · obtain ⟨w1, w2⟩ := W.2 k (by omega)
    have e10 : sAN (s_add S id n s l) 10 k = sAN S 10 k := up_ne e
    refine ⟨by rw [e10]; exact w1, fun hj p hp => ?_⟩
    rw [e10] at hp
    obtain ⟨p1, p2, p3⟩ := w2 hj p hp
    refine ⟨show sAN S 18 (8 * k + p) < sN S 8 + 1 by omega, p2, ?_⟩
    show sAN S 19 (8 * k + p) < va_up (sAN S 10) (sN S 8) n (sAN S 18 (8 * k + p))
    rw [up_ne (by omega)]
    exact p3
theorem DF_add {S : z_S} {id : Int32} {n s l : Nat} (D : DF S) : DF (s_add S id n s l) :=
  ⟨fun j hj => D.1 j (Nat.le_of_succ_le (show sN S 8 + 1 ≤ j from hj)), D.2⟩
theorem INV_add {S : z_S} {id : Int32} {n s l : Nat} (h40 : ¬ sN S 8 = 40) (hn : n ≤ 8) (hs : s ≤ 3) (hl : l ≤ 3) (h : INV S) : INV (s_add S id n s l) := by
  obtain ⟨a, b, c, d, e, f, g, D⟩ := h
  exact ⟨a, ids_add h40 hn b D, ⟨c.1, c.2.1, c.2.2.1, up_le c.2.2.2.1 hs, up_le c.2.2.2.2 hl⟩, d, e, f, g, DF_add D⟩
theorem INV_identifier {S : z_S} {id n s l : Int32} (h : INV S) : INV (sp_identifier S id n s l).2 := by
  unfold sp_identifier
  split
  · rename_i hz
    simp only [Bool.and_eq_true] at hz
    obtain ⟨⟨⟨-, z2⟩, z3⟩, z4⟩ := hz
    obtain ⟨jn, -, n2, rfl⟩ := inZ_ex (a := 1) (b := 8) z2
    obtain ⟨js, -, s2, rfl⟩ := inZ_ex (a := 1) (b := 3) z3
    obtain ⟨jl, -, l2, rfl⟩ := inZ_ex (a := 0) (b := 3) z4
    cases fnd (sAI S 9) id (sN S 8) with
    | some _ => exact h
    | none =>
      show INV (if _ then _ else _ : Int32 × z_S).2
      split
      · exact h
      · rename_i h40
        rw [tn_nI (by omega), tn_nI (by omega), tn_nI (by omega)]
        exact INV_add (S := uN S 0 0) h40 n2 s2 l2 h
  · exact h
/-- the parts -/
theorem ids_dy {D : z_S} {e has f n : Nat} (W : idsOK D) (he : e < sN D 8) (hf : f < sN D 8) (je : sAB D 17 e = true) (jf : sAB D 17 f = false) (h8 : has + n ≤ 8) (hh : sAN D 10 e = has) (hn : n ≤ sAN D 10 f) : idsOK (dyS D e has f n) := by
  have nef : f ≠ e := fun q => by rw [q, je] at jf; cases jf
  refine ⟨W.1, fun k hk => ?_⟩
  have hk : k < sN D 8 := hk
  obtain ⟨w1, w2⟩ := W.2 k hk
  by_cases ek : k = e
  · subst ek
    have e10 : sAN (dyS D k has f n) 10 k = has + n := up_at _ _ _
    refine ⟨by rw [e10]; exact h8, fun hj p hp => ?_⟩
    rw [e10] at hp
    show ptF (sAN D 18) (8 * k + has) f n (8 * k + p) < sN D 8 ∧ sAB D 17 (ptF (sAN D 18) (8 * k + has) f n (8 * k + p)) = false ∧ ptA (sAN D 19) (8 * k + has) n (8 * k + p) < va_up (sAN D 10) k (has + n) (ptF (sAN D 18) (8 * k + has) f n (8 * k + p))
    by_cases hpl : p < has
    · obtain ⟨p1, p2, p3⟩ := w2 hj p (by omega)
      have e1 : ptF (sAN D 18) (8 * k + has) f n (8 * k + p) = sAN D 18 (8 * k + p) := if_neg (by omega)
      have e2 : ptA (sAN D 19) (8 * k + has) n (8 * k + p) = sAN D 19 (8 * k + p) := if_neg (by omega)
      rw [e1, e2, up_ne (fun q => by rw [q, je] at p2; cases p2)]
      exact ⟨p1, p2, p3⟩
    · have e1 : ptF (sAN D 18) (8 * k + has) f n (8 * k + p) = f := if_pos (by omega)
      have e2 : ptA (sAN D 19) (8 * k + has) n (8 * k + p) = 8 * k + p - (8 * k + has) := if_pos (by omega)
      rw [e1, e2, up_ne nef]
      exact ⟨hf, jf, by omega⟩
  · have e10 : sAN (dyS D e has f n) 10 k = sAN D 10 k := up_ne ek
    refine ⟨by rw [e10]; exact w1, fun hj p hp => ?_⟩
    rw [e10] at hp
    obtain ⟨p1, p2, p3⟩ := w2 hj p hp
    show ptF (sAN D 18) (8 * e + has) f n (8 * k + p) < sN D 8 ∧ sAB D 17 (ptF (sAN D 18) (8 * e + has) f n (8 * k + p)) = false ∧ ptA (sAN D 19) (8 * e + has) n (8 * k + p) < va_up (sAN D 10) e (has + n) (ptF (sAN D 18) (8 * e + has) f n (8 * k + p))
    have e1 : ptF (sAN D 18) (8 * e + has) f n (8 * k + p) = sAN D 18 (8 * k + p) := if_neg (by omega)
    have e2 : ptA (sAN D 19) (8 * e + has) n (8 * k + p) = sAN D 19 (8 * k + p) := if_neg (by omega)
    rw [e1, e2, up_ne (fun q => by rw [q, je] at p2; cases p2)]
    exact ⟨p1, p2, p3⟩
theorem INV_dy {D : z_S} {e has f n : Nat} (h : INV D) (he : e < sN D 8) (hf : f < sN D 8) (je : sAB D 17 e = true) (jf : sAB D 17 f = false) (h8 : has + n ≤ 8) (hh : sAN D 10 e = has) (hn : n ≤ sAN D 10 f) : INV (dyS D e has f n) := by
  obtain ⟨a, b, c, d, e', f', g, D'⟩ := h
  exact ⟨a, ids_dy b he hf je jf h8 hh hn, c, d, e', f', g, D'⟩
theorem INV_dynamic {S : z_S} {id fr n : Int32} (h : INV S) : INV (sp_dynamic S id fr n).2 := by
  unfold sp_dynamic
  cases hf : fnd (sAI S 9) fr (sN S 8) with
  | none => exact h
  | some f =>
    have hfl := fnd_lt hf
    have W := h.2.1
    have w8 := W.1
    have wf := (W.2 f hfl).1
    show INV (if _ then _ else _ : Int32 × z_S).2
    split
    · rename_i hz
      simp only [Bool.and_eq_true] at hz
      obtain ⟨jn, n1, n2, rfl⟩ := inZ_ex (a := 1) (b := sAN S 10 f) hz.2
      rw [tn_nI (by omega)]
      cases he : fnd (sAI S 9) id (sN S 8) with
      | none =>
        show INV (if _ then _ else _ : Int32 × z_S).2
        split
        · exact h
        · rename_i jf
          split
          · exact h
          · rename_i h40
            have h0 : INV (s_add (uN S 0 0) id 0 1 0) := INV_add (S := uN S 0 0) h40 (by omega) (by omega) (by omega) h
            have nf : f ≠ sN S 8 := by omega
            have e10 : va_up (sAN S 10) (sN S 8) 0 f = sAN S 10 f := up_ne nf
            have jf' : sAB S 17 f = false := by cases hq : sAB S 17 f with
              | false => rfl
              | true => exact absurd hq jf
            refine INV_dy (D := uAB (s_add (uN S 0 0) id 0 1 0) 17 (va_up (sAB (s_add (uN S 0 0) id 0 1 0) 17) (sN (uN S 0 0) 8) true)) ?_ (show sN S 8 < sN S 8 + 1 by omega) (show f < sN S 8 + 1 by omega) (up_at _ _ _) ((up_ne nf).trans jf') (by omega) (show va_up (sAN S 10) (sN S 8) 0 (sN S 8) = 0 from up_at _ _ _) (show jn ≤ va_up (sAN S 10) (sN S 8) 0 f by rw [e10]; exact n2)
            obtain ⟨a, b, c, d, e', f', g, D'⟩ := h0
            refine ⟨a, ⟨b.1, fun k hk => ?_⟩, c, d, e', f', g, ⟨fun j hj => ?_, D'.2⟩⟩
            · have hk : k < sN S 8 + 1 := hk
              by_cases ek : k = sN S 8
              · subst ek
                have z10 : sAN (s_add (uN S 0 0) id 0 1 0) 10 (sN S 8) = 0 := up_at _ _ _
                refine ⟨(b.2 _ hk).1, fun _ p hp => ?_⟩
                have hp : p < sAN (s_add (uN S 0 0) id 0 1 0) 10 (sN S 8) := hp
                rw [z10] at hp
                exact absurd hp (Nat.not_lt_zero p)
              · obtain ⟨w1, w2⟩ := b.2 k hk
                refine ⟨w1, fun hj p hp => ?_⟩
                have hj : va_up (sAB S 17) (sN S 8) true k = true := hj
                rw [up_ne ek] at hj
                obtain ⟨p1, p2, p3⟩ := (W.2 k (by omega)).2 hj p (by have hp : p < va_up (sAN S 10) (sN S 8) 0 k := hp; rw [up_ne ek] at hp; exact hp)
                refine ⟨show sAN S 18 (8 * k + p) < sN S 8 + 1 by omega, ?_, ?_⟩
                · show va_up (sAB S 17) (sN S 8) true (sAN S 18 (8 * k + p)) = false
                  rw [up_ne (by omega)]; exact p2
                · show sAN S 19 (8 * k + p) < va_up (sAN S 10) (sN S 8) 0 (sAN S 18 (8 * k + p))
                  rw [up_ne (by omega)]; exact p3
            · obtain ⟨d1, d2, d3, d4⟩ := D'.1 j hj
              have hj : sN S 8 + 1 ≤ j := hj
              exact ⟨d1, d2, (up_ne (show j ≠ sN S 8 by omega)).trans d3, d4⟩
      | some e =>
        have hel := fnd_lt he
        show INV (if _ then _ else _ : Int32 × z_S).2
        split
        · exact h
        · rename_i jj
          split
          · exact h
          · rename_i j8
            have jf' : sAB S 17 f = false := by cases hq : sAB S 17 f with
              | false => rfl
              | true => exact absurd (Or.inl hq) jj
            have je' : sAB S 17 e = true := by cases hq : sAB S 17 e with
              | true => rfl
              | false => exact absurd (Or.inr hq) jj
            exact INV_dy (D := uN S 0 0) h hel hfl je' jf' (by omega) rfl n2
    · exact h
theorem INV_routine {S : z_S} {id n : Int32} (h : INV S) : INV (sp_routine S id n).2 := by
  unfold sp_routine
  split
  · rename_i hz
    simp only [Bool.and_eq_true] at hz
    obtain ⟨jn, n1, n2, rfl⟩ := inZ_ex (a := 0) (b := 100) hz.2
    cases hf : fnd (sAI S 21) id (sN S 20) with
    | some _ => exact h
    | none =>
      show INV (if _ then _ else _ : Int32 × z_S).2
      split
      · exact h
      · rename_i h10
        rw [tn_nI (by omega)]
        obtain ⟨a, b, c, d, e, f, g, D⟩ := h
        have e1 := e.1
        have hno := fnd_none.mp hf
        refine ⟨a, b, c, d, ⟨show sN S 20 + 1 ≤ 10 by omega, up_le e.2.1 n2, e.2.2.1, e.2.2.2⟩, f, fun i j hi hj hij => ?_, ⟨D.1, fun k hk => D.2 k (Nat.le_of_succ_le (show sN S 20 + 1 ≤ k from hk))⟩⟩
        have hi : i < sN S 20 + 1 := hi
        have hj : j < sN S 20 + 1 := hj
        have hij : va_up (sAI S 21) (sN S 20) id i = va_up (sAI S 21) (sN S 20) id j := hij
        by_cases ei : i = sN S 20
        · by_cases ej : j = sN S 20
          · omega
          · rw [ei, up_at, up_ne ej] at hij
            exact absurd hij.symm (hno j (by omega))
        · by_cases ej : j = sN S 20
          · rw [ej, up_at, up_ne ei] at hij
            exact absurd hij (hno i (by omega))
          · rw [up_ne ei, up_ne ej] at hij
            exact g i j (by omega) (by omega) hij
  · exact h
/-! what the services may change -/
def VI (S : z_S) : Prop := sN S 1 ≤ 3 ∧ sN S 2 ≤ 3 ∧ trOK S ∧ (∀ k, sAN S 24 k ≤ 100) ∧ (∀ k, sAN S 25 k ≤ 10) ∧ DF S
theorem VI_of {S : z_S} (h : INV S) : VI S := ⟨h.2.2.1.1, h.2.2.1.2.1, h.2.2.2.1, h.2.2.2.2.1.2.2.1, h.2.2.2.2.1.2.2.2, h.2.2.2.2.2.2.2⟩
theorem DF_end {S : z_S} {f : Nat} (h : DF S) : DF (endS S f) :=
  ⟨fun j hj => ⟨(if_neg (Nat.not_lt.mpr (show sN S 8 ≤ j from hj))).trans (h.1 j hj).1, (h.1 j hj).2.1, (h.1 j hj).2.2.1, (h.1 j hj).2.2.2⟩, h.2⟩
theorem VI_end {S : z_S} {f : Nat} (hf : f ≤ 3) (h : VI S) : VI (endS S f) := ⟨hf, Nat.zero_le 3, h.2.2.1, h.2.2.2.1, h.2.2.2.2.1, DF_end h.2.2.2.2.2⟩
theorem VI_res {S : z_S} {i : Nat} (h : VI S) : VI (resS S i) := by
  obtain ⟨a, b, c, d, e, f⟩ := h
  refine ⟨a, b, c, fun k => ?_, e, f.1, fun k hk => ⟨?_, ?_, (f.2 k hk).2.2⟩⟩
  · show clrN (sAN S 24) i k ≤ 100
    unfold clrN
    split
    · omega
    · exact d k
  · show clrB (sAB S 23) i k = false
    unfold clrB
    split
    · rfl
    · exact (f.2 k hk).1
  · show clrN (sAN S 24) i k = 0
    unfold clrN
    split
    · rfl
    · exact (f.2 k hk).2.1
theorem VI_own {S : z_S} {i : Nat} (h : VI S) : VI (ownS S i) := by
  obtain ⟨a, b, c, d, e, f⟩ := h
  refine ⟨a, b, c, d, e, fun k hk => ⟨(f.1 k hk).1, (f.1 k hk).2.1, (f.1 k hk).2.2.1, ?_⟩, f.2⟩
  show clrL (sAL S 13) i k = 0
  unfold clrL
  split
  · rfl
  · exact (f.1 k hk).2.2.2
theorem VI_16 {S : z_S} (h : VI S) : VI (sv16 S).2 := by
  unfold sv16
  split
  · exact h
  · split
    · exact h
    · rename_i h3
      split
      · exact h
      · exact VI_end (S := S) (f := fn S) (by omega) h
theorem VI_62 {S : z_S} (h : VI S) : VI (sv62 S).2 := by
  unfold sv62
  repeat' split
  all_goals exact h
theorem VI_17 {S : z_S} (h : VI S) : VI (sv17 S).2 := by
  unfold sv17
  split
  · exact h
  · split
    · exact h
    · split
      · exact h
      · split
        · exact VI_own (i := sN S 8) (VI_res (i := 10) (VI_end (S := S) (f := 1) (by omega) h))
        · exact VI_res (i := 10) (VI_end (S := S) (f := 1) (by omega) h)
theorem here_lt {S : z_S} {t k : Nat} (h : hereF S t = some k) : k < sN S 8 := by
  rcases here_cases S t with ⟨h1, -⟩ | ⟨j, -, h2, -, h4⟩
  · rw [h1] at h; cases h
  · rw [h2] at h; cases h; exact h4
theorem VI_46 {S : z_S} (h : VI S) : VI (sv46 S).2 := by
  unfold sv46
  split
  · exact h
  · cases hk : hereF S (toldN S 1) with
    | none => exact h
    | some k =>
      have hl := here_lt hk
      show VI (if _ then _ else _ : Nat × z_S).2
      split
      · exact h
      · split
        · exact h
        · split
          · exact h
          · split
            · exact h
            · obtain ⟨a, b, c, d, e, f⟩ := h
              exact ⟨a, b, c, d, e, DF_13 hl f⟩
theorem VI_47 {S : z_S} (h : VI S) : VI (sv47 S).2 := by
  unfold sv47
  split
  · exact h
  · split
    · exact h
    · cases hk : hereF S (toldN S 1) with
      | none => exact h
      | some k =>
        have hl := here_lt hk
        show VI (if _ then _ else _ : Nat × z_S).2
        split
        · exact h
        · split
          · exact h
          · split
            · exact h
            · generalize (if sAN S 39 3 = 3 then sAN S 10 k else 0) = z
              split
              · exact h
              · obtain ⟨a, b, c, d, e, f⟩ := h
                exact ⟨a, b, c, d, e, DF_14 hl f⟩
theorem VI_24 {S : z_S} {r v : Nat} (hr : r < sN S 20) (hv : v ≤ 100) (h : VI S) : VI (uAN S 24 (va_up (sAN S 24) r v)) := by
  obtain ⟨a, b, c, d, e, f⟩ := h
  exact ⟨a, b, c, up_le d hv, e, DF_24 hr f⟩
theorem VI_25 {S : z_S} {r v : Nat} (hr : r < sN S 20) (hv : v ≤ 10) (h : VI S) : VI (uAN S 25 (va_up (sAN S 25) r v)) := by
  obtain ⟨a, b, c, d, e, f⟩ := h
  exact ⟨a, b, c, d, up_le e hv, DF_25 hr f⟩
theorem VI_23 {S : z_S} {r : Nat} {v : Bool} (hr : r < sN S 20) (h : VI S) : VI (uAB S 23 (va_up (sAB S 23) r v)) := by
  obtain ⟨a, b, c, d, e, f⟩ := h
  exact ⟨a, b, c, d, e, DF_23 hr f⟩
theorem VI_49 {S : z_S} (h22 : ∀ k, sAN S 22 k ≤ 100) (h7 : sN S 7 ≤ 10) (h : VI S) : VI (sv49 S).2 := by
  unfold sv49
  split
  · exact h
  · split
    · exact h
    · split
      · exact h
      · cases hr : lst (sAI S 21) (nI (toldN S 2)) (sN S 20) with
        | none => exact h
        | some r =>
          have hl := lst_lt hr
          show VI (if _ then _ else _ : Nat × z_S).2
          split
          · split
            · exact h
            · split
              · exact h
              · exact VI_25 (S := uAN (uAB S 23 (va_up (sAB S 23) r true)) 24 (va_up (sAN S 24) r (sAN S 22 r))) hl (by omega) (VI_24 (S := uAB S 23 (va_up (sAB S 23) r true)) hl (h22 r) (VI_23 hl h))
          · split
            · exact h
            · split
              · exact VI_24 hl (by omega) h
              · split
                · split
                  · exact h
                  · rename_i h9
                    exact VI_25 hl (by omega) h
                · exact h
theorem VI_34 {S : z_S} (h : VI S) : VI (sv34 S).2 := by
  unfold sv34
  repeat' split
  all_goals exact h
theorem VI_52 {S : z_S} (h : VI S) : VI (sv52 S).2 := by
  unfold sv52
  split
  · exact h
  · split
    · exact h
    · split
      · exact h
      · split
        · exact h
        · rename_i ht
          obtain ⟨a, b, c, d, e, f⟩ := h
          exact ⟨a, b, ⟨show toldN S 1 ≤ 200 by omega, Nat.zero_le _, show (0 : Nat) < 65536 by decide, c.2.2.2⟩, d, e, f⟩
theorem VI_54 {S : z_S} (R : rowOK S) (h : VI S) : VI (sv54 S).2 := by
  unfold sv54
  split
  · exact h
  · split
    · exact h
    · split
      · exact h
      · split
        · exact h
        · generalize (if sB S 31 = true then (sN S 30 + 1) % 256 else 1) = z
          split
          · exact h
          · split
            · exact h
            · rename_i h9
              obtain ⟨a, b, c, d, e, f⟩ := h
              have c2 := c.2.1
              exact ⟨a, b, ⟨c.1, show sN S 28 + (sN S 38 - 1 - 1) ≤ sN S 27 by omega, sumN_lt c.2.2.1 _ _, R 1⟩, d, e, f⟩
theorem VI_55 {S : z_S} (h : VI S) : VI (sv55 S).2 := by
  unfold sv55
  repeat' split
  all_goals exact h
theorem VI_d {S : z_S} (R : rowOK S) (h22 : ∀ k, sAN S 22 k ≤ 100) (h7 : sN S 7 ≤ 10) (h : VI S) : VI (svd S).2 := by
  unfold svd
  split
  · exact VI_16 h
  · split
    · exact VI_17 h
    · split
      · exact VI_34 h
      · split
        · exact VI_46 h
        · split
          · exact VI_47 h
          · split
            · exact VI_49 h22 h7 h
            · split
              · exact VI_52 h
              · split
                · exact VI_54 R h
                · split
                  · exact VI_55 h
                  · split
                    · exact VI_62 h
                    · exact h
theorem INV_ks {S T : z_S} (h : INV S) (K : KS S T) (v : VI T) : INV T := by
  obtain ⟨a, b, c, d, e, f, g, D⟩ := h
  obtain ⟨k8, k20, k7, k32, k35, k38, k5, k6, k33, k34, k37, kL, k10, k11, k12, k18, k19, k22, k36, k39, k16, k17, kI⟩ := K
  obtain ⟨v1, v2, v3, v4, v5, v6⟩ := v
  refine ⟨fun k => by rw [k39]; exact a k, ⟨by rw [k8]; exact b.1, fun k hk => ?_⟩, ⟨v1, v2, by rw [k7]; exact c.2.2.1, fun k => by rw [k11]; exact c.2.2.2.1 k, fun k => by rw [k12]; exact c.2.2.2.2 k⟩, v3, ⟨by rw [k20]; exact e.1, fun k => by rw [k22]; exact e.2.1 k, v4, v5⟩, ⟨fun k => by rw [k36]; exact f.1 k, by rw [k35]; exact f.2.1, fun hq => by rw [k33] at hq; rw [k32, k35]; exact f.2.2 hq⟩, fun i j hi hj hij => ?_, v6⟩
  · rw [k8] at hk
    obtain ⟨w1, w2⟩ := b.2 k hk
    rw [k10, k17]
    refine ⟨w1, fun hj p hp => ?_⟩
    have := w2 hj p hp
    unfold partOK at this ⊢
    rw [k18, k19, k8, k17, k10]
    exact this
  · rw [k20] at hi hj
    rw [kI] at hij
    exact g i j hi hj hij
theorem INV_kl {S T : z_S} (h : INV S) (K : KL S T) : INV T := by
  obtain ⟨a, b, c, d, e, f, g, D⟩ := h
  obtain ⟨k0, k1, k2, k7, k8, k20, k27, k28, k29, k30, k32, k35, k38, kB, kL, k10, k11, k12, k18, k19, k22, k24, k25, k36, k39, kAB, kAL, kI⟩ := K
  refine ⟨fun k => by rw [k39]; exact a k, ⟨by rw [k8]; exact b.1, fun k hk => ?_⟩, ⟨by rw [k1]; exact c.1, by rw [k2]; exact c.2.1, by rw [k7]; exact c.2.2.1, fun k => by rw [k11]; exact c.2.2.2.1 k, fun k => by rw [k12]; exact c.2.2.2.2 k⟩, ⟨by rw [k27]; exact d.1, by rw [k27, k28]; exact d.2.1, by rw [k29]; exact d.2.2.1, by rw [k30]; exact d.2.2.2⟩, ⟨by rw [k20]; exact e.1, fun k => by rw [k22]; exact e.2.1 k, fun k => by rw [k24]; exact e.2.2.1 k, fun k => by rw [k25]; exact e.2.2.2 k⟩, ⟨fun k => by rw [k36]; exact f.1 k, by rw [k35]; exact f.2.1, fun hq => by rw [kB] at hq; rw [k32, k35]; exact f.2.2 hq⟩, fun i j hi hj hij => ?_, ⟨fun k hk => ?_, fun k hk => ?_⟩⟩
  · rw [k8] at hk
    obtain ⟨w1, w2⟩ := b.2 k hk
    rw [k10, kAB]
    refine ⟨w1, fun hj p hp => ?_⟩
    have := w2 hj p hp
    unfold partOK at this ⊢
    rw [k18, k19, k8, kAB, k10]
    exact this
  · rw [k20] at hi hj
    rw [kI] at hij
    exact g i j hi hj hij
  · rw [k8] at hk
    rw [kAB, kAL]
    exact D.1 k hk
  · rw [k20] at hk
    rw [kAB, k24, k25]
    exact D.2 k hk
theorem INV_lk {S : z_S} (h : INV S) : INV (lkS S) := by
  have h0 : INV (lk0 S) := h
  refine INV_kl (INV_ks h0 (ks_lk S).1 ?_) (kl_lk S)
  unfold lkR
  split
  · exact VI_of h0
  · exact VI_d h0.1 h0.2.2.2.2.1.2.1 h0.2.2.1.2.2.1 (VI_of h0)
theorem INV_tr {S : z_S} {x b : Int32} (h : INV S) : INV (trD S x b) := by
  obtain ⟨a, r⟩ := h
  exact ⟨up_lt (up_lt (up_lt a (by decide)) (b8_lt x)) (b8_lt b), r⟩
theorem INV_transfer {S : z_S} {x b : Int32} (h : INV S) : INV (sp_transfer S x b).2 := INV_lk (INV_tr h)
theorem INV_ask1 {S : z_S} {b : Int32} (h : INV S) : INV (ask1 S b) := by
  obtain ⟨a, b', c, d, e, f, g⟩ := h
  unfold ask1
  split
  · rename_i h33
    obtain ⟨f1, f2, f3⟩ := f
    obtain ⟨f4, f5⟩ := f3 h33
    exact ⟨a, b', c, d, e, ⟨up_lt f1 (b8_lt b), show sN S 35 + 1 ≤ 60 by omega, fun hq => by have hq : decide (0 < sN S 32 - 1) = true := hq; rw [decide_eq_true_eq] at hq; exact ⟨hq, show sN S 35 + 1 + (sN S 32 - 1) ≤ 60 by omega⟩⟩, g⟩
  · exact ⟨a, b', c, d, e, ⟨f.1, Nat.zero_le 60, fun hq => by have hq : decide (0 < min (b8 b % 128) 60) = true := hq; rw [decide_eq_true_eq] at hq; exact ⟨hq, show 0 + min (b8 b % 128) 60 ≤ 60 by omega⟩⟩, g⟩
theorem INV_ask2 {S : z_S} (h : INV S) : INV (ask2 S) := by
  obtain ⟨a, b, c, d, e, f, g⟩ := h
  refine ⟨fun k => ?_, b, c, d, e, f, g⟩
  show cpyR S (sN S 35) k < 256
  unfold cpyR
  split
  · exact f.1 k
  · exact a k
theorem INV_ask {S : z_S} {b : Int32} (h : INV S) : INV (sp_ask S b).2 := by
  unfold sp_ask askE
  split
  · exact INV_ask1 h
  · exact INV_lk (INV_ask2 (INV_ask1 h))
theorem INV_tick {S : z_S} {t : Int64} (h : INV S) : INV (sp_tick S t).2 := by
  unfold sp_tick
  split
  · exact h
  · have h1 : INV (tk1 S t) := by
      unfold tk1
      split
      · obtain ⟨a, b, c, d, e, f, g, D⟩ := h
        exact ⟨a, b, ⟨show (1 : Nat) ≤ 3 by decide, Nat.zero_le 3, c.2.2⟩, d, e, f, g, DF_end (S := uL (uN S 0 0) 3 t) D⟩
      · exact h
    obtain ⟨a, b, c, d, e, f, g, D⟩ := h1
    have htk : ∀ k, tkN (tk1 S t) (sN S 20) k ≤ sAN (tk1 S t) 24 k := by
      intro k
      unfold tkN
      split
      · split
        · omega
        · exact Nat.le_refl _
      · exact Nat.le_refl _
    exact ⟨a, b, c, d, ⟨e.1, e.2.1, fun k => Nat.le_trans (htk k) (e.2.2.1 k), e.2.2.2⟩, f, g, ⟨D.1, fun k hk => ⟨(D.2 k hk).1, Nat.eq_zero_of_le_zero (by have := htk k; rw [(D.2 k hk).2.1] at this; exact this), (D.2 k hk).2.2⟩⟩⟩
