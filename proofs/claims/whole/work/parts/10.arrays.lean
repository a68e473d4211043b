section ZR
variable {cl : List vw_C} {ats : List FieldType} {nw : State → Prop} {TB : List Cond} {G : z_G} {own : String} {cc : ByteArray} {nL : Nat} {R0 : Room} {X : z_X} {Q : State → Prop} {cells slots pc : Nat} {lv : List (Nat × Value)} {st : List Value} {h : z_H}
theorem z_ty {t : Nat} {ty : FieldType} (ht : ats[t]? = some ty) : (z_tys G ats)[t]? = some (G.2.1 t, ty) := by
  unfold z_tys
  rw [List.getElem?_mapIdx, ht]
  rfl
theorem z_iald (F : z_F cl ats nw TB G own cc nL R0 X) {k t n : Nat} {f : Nat → Int32} {i : Int32} (hd : decode cc pc = .ok (.iaload, 1)) (hk : h[k]? = some (.inl (t, n, .inl f))) (ht : ats[t]? = some .int) {j : Nat} (hi : i = nI j) (hj : j < n) (hN : n < 2147483648) (kk : z_V cl G nL X Q cells slots (pc + 1) lv (.int (f j) :: st) h) : z_V cl G nL X Q cells slots pc lv (.int i :: .ref k :: st) h := by
  have hin : vp_in i n := by subst hi; exact vp_in_nI hj hN
  have hcl : i.toNatClampNeg = j := by subst hi; exact nI_clamp (by omega)
  intro H locs ls r b d
  obtain ⟨w, rfl⟩ := r.arr hk
  refine va_iald F.1 F.2.1 F.kn r.2.2 w t (z_ws_at hk) (z_ty ht) hin hd ?_
  rw [hcl]
  exact kk H locs ls r b d
theorem z_bald (F : z_F cl ats nw TB G own cc nL R0 X) {k t n : Nat} {f : Nat → Int32} {i : Int32} (hd : decode cc pc = .ok (.baload, 1)) (hk : h[k]? = some (.inl (t, n, .inl f))) (ht : ats[t]? = some .byte) {j : Nat} (hi : i = nI j) (hj : j < n) (hN : n < 2147483648) (kk : z_V cl G nL X Q cells slots (pc + 1) lv (.int (f j) :: st) h) : z_V cl G nL X Q cells slots pc lv (.int i :: .ref k :: st) h := by
  have hin : vp_in i n := by subst hi; exact vp_in_nI hj hN
  have hcl : i.toNatClampNeg = j := by subst hi; exact nI_clamp (by omega)
  intro H locs ls r b d
  obtain ⟨w, rfl⟩ := r.arr hk
  refine va_bald F.1 F.2.1 F.kn r.2.2 w t (z_ws_at hk) (z_ty ht) hin hd ?_
  rw [hcl]
  exact kk H locs ls r b d
theorem z_zald (F : z_F cl ats nw TB G own cc nL R0 X) {k t n : Nat} {f : Nat → Int32} {i : Int32} (hd : decode cc pc = .ok (.baload, 1)) (hk : h[k]? = some (.inl (t, n, .inl f))) (ht : ats[t]? = some .boolean) {j : Nat} (hi : i = nI j) (hj : j < n) (hN : n < 2147483648) (kk : z_V cl G nL X Q cells slots (pc + 1) lv (.int (f j) :: st) h) : z_V cl G nL X Q cells slots pc lv (.int i :: .ref k :: st) h := by
  have hin : vp_in i n := by subst hi; exact vp_in_nI hj hN
  have hcl : i.toNatClampNeg = j := by subst hi; exact nI_clamp (by omega)
  intro H locs ls r b d
  obtain ⟨w, rfl⟩ := r.arr hk
  refine va_zald F.1 F.2.1 F.kn r.2.2 w t (z_ws_at hk) (z_ty ht) hin hd ?_
  rw [hcl]
  exact kk H locs ls r b d
theorem z_lald (F : z_F cl ats nw TB G own cc nL R0 X) {k t n : Nat} {f : Nat → Int64} {i : Int32} (hd : decode cc pc = .ok (.laload, 1)) (hk : h[k]? = some (.inl (t, n, .inr (.inl f)))) (ht : ats[t]? = some .long) {j : Nat} (hi : i = nI j) (hj : j < n) (hN : n < 2147483648) (kk : z_V cl G nL X Q cells slots (pc + 1) lv (.long (f j) :: st) h) : z_V cl G nL X Q cells slots pc lv (.int i :: .ref k :: st) h := by
  have hin : vp_in i n := by subst hi; exact vp_in_nI hj hN
  have hcl : i.toNatClampNeg = j := by subst hi; exact nI_clamp (by omega)
  intro H locs ls r b d
  obtain ⟨w, rfl⟩ := r.arr hk
  refine va_lald F.1 F.2.1 F.kn r.2.2 w t (z_ws_at hk) (z_ty ht) hin hd ?_
  rw [hcl]
  exact kk H locs ls r b d
theorem z_rfv (x : Option Nat) : va_rf (x.map (z_ad G)) = z_v G (va_rf x) := by cases x <;> rfl
theorem z_aald (F : z_F cl ats nw TB G own cc nL R0 X) {k t n : Nat} {C : String} {f : Nat → Option Nat} {i : Int32} (hd : decode cc pc = .ok (.aaload, 1)) (hk : h[k]? = some (.inl (t, n, .inr (.inr (.inr (.inr f)))))) (ht : ats[t]? = some (.object C)) {j : Nat} (hi : i = nI j) (hj : j < n) (hN : n < 2147483648) (kk : z_V cl G nL X Q cells slots (pc + 1) lv (va_rf (f j) :: st) h) : z_V cl G nL X Q cells slots pc lv (.int i :: .ref k :: st) h := by
  have hin : vp_in i n := by subst hi; exact vp_in_nI hj hN
  have hcl : i.toNatClampNeg = j := by subst hi; exact nI_clamp (by omega)
  intro H locs ls r b d
  obtain ⟨w, rfl⟩ := r.arr hk
  refine va_aldq F.1 F.2.1 F.kn r.2.2 w t (z_ws_at hk) (z_ty ht) hin hd ?_
  rw [hcl]
  have := kk H locs ls r b d
  rw [List.map_cons, ← z_rfv] at this
  exact this
theorem z_alen (F : z_F cl ats nw TB G own cc nL R0 X) {k t n : Nat} {ty : FieldType} {x : (Nat → Int32) ⊕ (Nat → Int64) ⊕ (Nat → UInt32) ⊕ (Nat → UInt64) ⊕ (Nat → Option Nat)} {v : Int32} (hd : decode cc pc = .ok (.arraylength, 1)) (hk : h[k]? = some (.inl (t, n, x))) (ht : ats[t]? = some ty) (hv : Int32.ofNat n = v) (kk : z_V cl G nL X Q cells slots (pc + 1) lv (.int v :: st) h) : z_V cl G nL X Q cells slots pc lv (.ref k :: st) h := by
  intro H locs ls r b d
  obtain ⟨j, rfl⟩ := r.arr hk
  refine va_alen (x := z_o G (n, x)) F.1 F.2.1 F.kn r.2.2 j t (z_ws_at hk) (z_ty ht) (v := v) ?_ hd (kk H locs ls r b d)
  rw [← hv]
  rcases x with f | f | f | f | f <;> rfl
/-- the heap behind a store into an array -/
theorem z_R.puta {k t : Nat} {a a' : vp_A} {H H1 : Heap} (r : z_R cl G h H) (hk : h[k + 1]? = some (.inl (t, a))) (hcell : H1[z_ad G (k + 1)]? = some (vp_cell (G.2.1 t) (z_o G a'))) (hz : H1.size = H.size) (ho : ∀ q, q ≠ z_ad G (k + 1) → H1[q]? = H[q]?) : z_R cl G (h.set (k + 1) (.inl (t, a'))) H1 := by
  refine ⟨?_, by rw [List.length_set, hz]; exact r.2.1, ?_⟩
  · rw [List.getElem?_set_ne (by omega)]; exact r.1
  · rw [z_ws_set]
    exact va_P.set r.2.2 (z_D G h) (z_ws_at hk) hcell ho
theorem z_upd (f : Nat → Int32) (k : Nat) (x : Int32) : updV (fun j => Value.int (f j)) k (.int x) = fun j => Value.int (upd f k x j) := by
  funext q
  by_cases hq : q = k <;> simp [updV, upd, hq]
theorem z_updL (f : Nat → Int64) (k : Nat) (x : Int64) : updV (fun j => Value.long (f j)) k (.long x) = fun j => Value.long (vp_updL f k x j) := by
  funext q
  by_cases hq : q = k <;> simp [updV, vp_updL, hq]
theorem z_arrI (cA : ClassId) (n k : Nat) (f : Nat → Int32) (x : Int32) : some ((vp_cell cA (z_o G (n, .inl f))).setSlot k (.int x)) = some (vp_cell cA (z_o G (n, .inl (upd f k x)))) := by
  show some (Cell.setSlot (arrV cA n (fun j => Value.int (f j))) k (.int x)) = some (arrV cA n (fun j => Value.int (upd f k x j)))
  rw [arrV_store, z_upd]
theorem z_arrL (cA : ClassId) (n k : Nat) (f : Nat → Int64) (x : Int64) : some ((vp_cell cA (z_o G (n, .inr (.inl f)))).setSlot k (.long x)) = some (vp_cell cA (z_o G (n, .inr (.inl (vp_updL f k x))))) := by
  show some (Cell.setSlot (arrV cA n (fun j => Value.long (f j))) k (.long x)) = some (arrV cA n (fun j => Value.long (vp_updL f k x j)))
  rw [arrV_store, z_updL]
theorem z_arrQ (cA : ClassId) (n k u : Nat) (f : Nat → Option Nat) : some ((vp_cell cA (z_o G (n, .inr (.inr (.inr (.inr f)))))).setSlot k (.ref (z_ad G u))) = some (vp_cell cA (z_o G (n, .inr (.inr (.inr (.inr (va_up f k (some u)))))))) := by
  show some (Cell.setSlot (arrV cA n (fun j => va_rf ((f j).map (z_ad G)))) k (.ref (z_ad G u))) = some (arrV cA n (fun j => va_rf ((va_up f k (some u) j).map (z_ad G))))
  rw [arrV_store]
  congr 2
  funext q
  by_cases hq : q = k <;> simp [updV, va_up, va_rf, hq]
theorem z_iast (F : z_F cl ats nw TB G own cc nL R0 X) {k t n : Nat} {f : Nat → Int32} {i x : Int32} (hd : decode cc pc = .ok (.iastore, 1)) (hk : h[k]? = some (.inl (t, n, .inl f))) (ht : ats[t]? = some .int) {j : Nat} (hi : i = nI j) (hj : j < n) (hN : n < 2147483648) (kk : z_V cl G nL X Q cells slots (pc + 1) lv st (h.set k (.inl (t, n, .inl (upd f j x))))) : z_V cl G nL X Q cells slots pc lv (.int x :: .int i :: .ref k :: st) h := by
  have hin : vp_in i n := by subst hi; exact vp_in_nI hj hN
  have hcl : i.toNatClampNeg = j := by subst hi; exact nI_clamp (by omega)
  intro H locs ls r b d
  obtain ⟨w, rfl⟩ := r.arr hk
  have hc := r.2.2 w _ (z_ws_at hk)
  refine W.iast F.1 F.2.1 hc ((F.kn.2 t _ (z_ty ht)).1 n (fun j => .int (f j))) (fun q => by cases q) (by show ¬ (i < 0 ∨ (arrV _ _ _).slots.size ≤ _); rw [arrV_size]; exact hin) rfl rfl hd fun H1 e z oq => ?_
  rw [hcl] at e
  refine kk H1 _ ls (r.puta hk ?_ z oq) (b.put z oq ((z_D G h).2 w _ (z_ws_at hk))) d
  exact e.trans (z_arrI _ _ _ _ _)
theorem z_bast (F : z_F cl ats nw TB G own cc nL R0 X) {k t n : Nat} {f : Nat → Int32} {i x : Int32} (hd : decode cc pc = .ok (.bastore, 1)) (hk : h[k]? = some (.inl (t, n, .inl f))) (ht : ats[t]? = some .byte) {j : Nat} (hi : i = nI j) (hj : j < n) (hN : n < 2147483648) (kk : z_V cl G nL X Q cells slots (pc + 1) lv st (h.set k (.inl (t, n, .inl (upd f j x.toInt8.toInt32))))) : z_V cl G nL X Q cells slots pc lv (.int x :: .int i :: .ref k :: st) h := by
  have hin : vp_in i n := by subst hi; exact vp_in_nI hj hN
  have hcl : i.toNatClampNeg = j := by subst hi; exact nI_clamp (by omega)
  intro H locs ls r b d
  obtain ⟨w, rfl⟩ := r.arr hk
  have hc := r.2.2 w _ (z_ws_at hk)
  refine W.bast F.1 F.2.1 hc ((F.kn.2 t _ (z_ty ht)).1 n (fun j => .int (f j))) (fun q => by cases q) (by show ¬ (i < 0 ∨ (arrV _ _ _).slots.size ≤ _); rw [arrV_size]; exact hin) rfl rfl hd fun H1 e z oq => ?_
  rw [hcl] at e
  refine kk H1 _ ls (r.puta hk ?_ z oq) (b.put z oq ((z_D G h).2 w _ (z_ws_at hk))) d
  exact e.trans (z_arrI _ _ _ _ _)
theorem z_zast (F : z_F cl ats nw TB G own cc nL R0 X) {k t n : Nat} {f : Nat → Int32} {i x : Int32} (hd : decode cc pc = .ok (.bastore, 1)) (hk : h[k]? = some (.inl (t, n, .inl f))) (ht : ats[t]? = some .boolean) {j : Nat} (hi : i = nI j) (hj : j < n) (hN : n < 2147483648) (kk : z_V cl G nL X Q cells slots (pc + 1) lv st (h.set k (.inl (t, n, .inl (upd f j (x &&& 1)))))) : z_V cl G nL X Q cells slots pc lv (.int x :: .int i :: .ref k :: st) h := by
  have hin : vp_in i n := by subst hi; exact vp_in_nI hj hN
  have hcl : i.toNatClampNeg = j := by subst hi; exact nI_clamp (by omega)
  intro H locs ls r b d
  obtain ⟨w, rfl⟩ := r.arr hk
  have hc := r.2.2 w _ (z_ws_at hk)
  refine W.zast F.1 F.2.1 hc ((F.kn.2 t _ (z_ty ht)).1 n (fun j => .int (f j))) (fun q => by cases q) (by show ¬ (i < 0 ∨ (arrV _ _ _).slots.size ≤ _); rw [arrV_size]; exact hin) rfl rfl hd fun H1 e z oq => ?_
  rw [hcl] at e
  refine kk H1 _ ls (r.puta hk ?_ z oq) (b.put z oq ((z_D G h).2 w _ (z_ws_at hk))) d
  exact e.trans (z_arrI _ _ _ _ _)
theorem z_last (F : z_F cl ats nw TB G own cc nL R0 X) {k t n : Nat} {f : Nat → Int64} {i : Int32} {x : Int64} (hd : decode cc pc = .ok (.lastore, 1)) (hk : h[k]? = some (.inl (t, n, .inr (.inl f)))) (ht : ats[t]? = some .long) {j : Nat} (hi : i = nI j) (hj : j < n) (hN : n < 2147483648) (kk : z_V cl G nL X Q cells slots (pc + 1) lv st (h.set k (.inl (t, n, .inr (.inl (vp_updL f j x)))))) : z_V cl G nL X Q cells slots pc lv (.long x :: .int i :: .ref k :: st) h := by
  have hin : vp_in i n := by subst hi; exact vp_in_nI hj hN
  have hcl : i.toNatClampNeg = j := by subst hi; exact nI_clamp (by omega)
  intro H locs ls r b d
  obtain ⟨w, rfl⟩ := r.arr hk
  have hc := r.2.2 w _ (z_ws_at hk)
  refine W.last F.1 F.2.1 hc ((F.kn.2 t _ (z_ty ht)).1 n (fun j => .long (f j))) (fun q => by cases q) (by show ¬ (i < 0 ∨ (arrV _ _ _).slots.size ≤ _); rw [arrV_size]; exact hin) rfl rfl hd fun H1 e z oq => ?_
  rw [hcl] at e
  refine kk H1 _ ls (r.puta hk ?_ z oq) (b.put z oq ((z_D G h).2 w _ (z_ws_at hk))) d
  exact e.trans (z_arrL _ _ _ _ _)
theorem z_aast (F : z_F cl ats nw TB G own cc nL R0 X) {k t n u ci : Nat} {f : Nat → Option Nat} {i : Int32} {q : vw_C} {fs : List Value} (hd : decode cc pc = .ok (.aastore, 1)) (hk : h[k]? = some (.inl (t, n, .inr (.inr (.inr (.inr f)))))) (hu : h[u]? = some (.inr (ci, fs))) (hc : cl[ci]? = some q) (ht : ats[t]? = some (.object q.1)) {j : Nat} (hi : i = nI j) (hj : j < n) (hN : n < 2147483648) (kk : z_V cl G nL X Q cells slots (pc + 1) lv st (h.set k (.inl (t, n, .inr (.inr (.inr (.inr (va_up f j (some u))))))))) : z_V cl G nL X Q cells slots pc lv (.ref u :: .int i :: .ref k :: st) h := by
  have hin : vp_in i n := by subst hi; exact vp_in_nI hj hN
  have hcl : i.toNatClampNeg = j := by subst hi; exact nI_clamp (by omega)
  intro H locs ls r b d
  obtain ⟨w, rfl⟩ := r.arr hk
  obtain ⟨u, rfl⟩ := r.obj hu hc
  have hlt : i.toNatClampNeg < n := Nat.not_le.mp fun q => hin (Or.inr q)
  have h0 : ¬ i < 0 := fun q => hin (Or.inl q)
  have hca := r.2.2 w _ (z_ws_at hk)
  obtain ⟨r', hr', cellV, g1, g2, g3, -⟩ := r.2.2 u _ (z_ws_at hu)
  have hcls := (F.kn.1 ci q hc).2
  obtain ⟨kA, comp, k1, k2, k3, -⟩ := (F.kn.2 t _ (z_ty ht)).2
  have hcomp : comp = G.1.1 ci := Option.some.inj (k3.symm.trans hcls.1)
  subst hcomp
  obtain ⟨kC, hkC, -⟩ := id hcls.2
  refine W.aast F.1 F.2.1 hca (fun q h => by cases h) (fun h => by cases h) k1 k2 rfl hkC ⟨h0, by show _ < (arrV _ _ _).slots.size; rw [arrV_size]; exact hlt⟩ g1 (fun q h => by rw [g3] at h; cases h) (by rw [g2]; exact hkC) (by rw [g2]; exact va_assign hcls) rfl rfl hd fun H1 e z oq => ?_
  rw [hcl] at e
  refine kk H1 _ ls (r.puta hk ?_ z oq) (b.put z oq ((z_D G h).2 w _ (z_ws_at hk))) d
  exact e.trans (z_arrQ (G := G) _ _ _ (u + 1) f)
/-- the heap behind a making -/
theorem z_R.push {H H1 : Heap} {e : z_E} (r : z_R cl G h H) (hn : va_at G.1 cl (z_ad G h.length, z_c G e) H1) (hz : H1.size = H.size + 1) (ho : ∀ q, q < H.size → H1[q]? = H[q]?) : z_R cl G (h ++ [e]) H1 := by
  refine ⟨?_, ?_, ?_⟩
  · rw [List.getElem?_append_left r.pos]; exact r.1
  · rw [hz, List.length_append]; have := r.2.1; simp only [List.length_cons, List.length_nil]; omega
  · rw [z_ws_push G h e r.pos]
    refine (va_P.kept r.2.2 (fun k x hx => ho x.1 ((r.2.2 k x hx).lt))).app (fun k x hx => ?_)
    have hk : k < 1 := (List.getElem?_eq_some_iff.mp hx).1
    rw [show k = 0 by omega] at hx
    cases hx
    exact hn
theorem z_R.top {H : Heap} (r : z_R cl G h H) : z_ad G h.length = H.size := by
  have h1 := r.pos
  have h2 := r.2.1
  cases hl : h.length with
  | zero => omega
  | succ n => rw [hl] at h2; show G.2.2.2 + n = H.size; omega
theorem z_Sp {H0 H H1 : Heap} {A : Nat → Prop} {locs : List Loc} (b : va_S A H0 H locs) (hz : H1.size = H.size + 1) (ho : ∀ q, q < H.size → H1[q]? = H[q]?) : va_S A H0 H1 locs :=
  ⟨Nat.le_trans b.1 (by omega), fun x h1 h2 => (ho x (Nat.lt_of_lt_of_le h1 b.1)).trans (b.2.1 x h1 h2), b.2.2⟩
theorem z_vV (fs : List Value) (j : Nat) : vp_V (fs.map (z_v G)) j = z_v G (vp_V fs j) := by
  unfold vp_V
  rw [List.getD_eq_getElem?_getD, List.getD_eq_getElem?_getD, List.getElem?_map]
  cases fs[j]? <;> rfl
theorem z_dv (t : FieldType) : z_v G (defaultValue t) = defaultValue t := by cases t <;> rfl
/-- a class that may be made -/
def z_FN (cl : List vw_C) (TB : List Cond) (own : String) (idx ci : Nat) (fs : List Value) (N : Nat) : Prop :=
  ∃ q : vw_C, cl[ci]? = some q ∧ q.2.2 = N ∧ Cond.classLink own idx q.1 ∈ TB ∧ Cond.instantiable q.1 q.2.2 ∈ TB ∧ Cond.initialized q.1 ∈ TB ∧ (∀ w ∈ u_ws q.1 q.2.1 q.2.2, w ∈ TB) ∧ ∃ ty0 : Nat → FieldType, (∀ k, k < q.2.2 → parseFieldDescriptor (q.2.1 k).2.2.1 = some (ty0 k)) ∧ ∀ j, j < q.2.2 → defaultValue (ty0 j) = vp_V fs j
theorem z_new (F : z_F cl ats nw TB G own cc nL R0 X) {idx ci N : Nat} {fs : List Value} (A : z_FN cl TB own idx ci fs N) (hd : decode cc pc = .ok (.new idx, 3)) (hcells : cells + 1 ≤ R0.cells) (hslots : slots + N ≤ R0.slots)
    (kk : z_V cl G nL X Q (cells + 1) (slots + N) (pc + 3) lv (.ref h.length :: st) (h ++ [.inr (ci, fs)])) : z_V cl G nL X Q cells slots pc lv st h := by
  intro H locs ls r b d
  obtain ⟨⟨C, T, N'⟩, hc, hN, hl, hinst, hini, hin, ty0, hty, hfs⟩ := A
  have hN : N' = N := hN
  subst hN
  have hKn := F.kn.1 ci _ hc
  refine W.newcK F.1 F.2.1 F.own (F.wd _ hl) (F.wd _ hinst) (F.wd _ hini) rfl hd (by rw [F.room]; exact hcells) (by rw [F.room]; exact hslots) hKn.2.1 r.top.symm fun H1 kC hkC e1 z1 o1 => ?_
  have z2 : H1.size = H.size + 1 := by rw [z1, r.top]
  have o2 : ∀ q, q < H.size → H1[q]? = H[q]? := fun q hq => o1 q (by rw [r.top]; exact hq)
  exact kk H1 locs ls (r.push ⟨_, hc, (u_born ty0 F.wd hin hKn hkC e1 hty).to (fun j hj => by rw [z_vV, ← hfs j hj, z_dv])⟩ z2 o2) (z_Sp b z2 o2) d
theorem z_newa (F : z_F cl ats nw TB G own cc nL R0 X) {atype : ArrayType} {t N : Nat} {n : Int32} {a0 : vp_A} (hw : Cond.arrayClass (newarray.typeOf atype) ∈ TB) (ht : ats[t]? = some (newarray.typeOf atype)) (ha : ∀ (G : z_G) (cA : ClassId), vp_cell cA (z_o G a0) = arrV cA N (fun _ => defaultValue (newarray.typeOf atype))) (hn : ¬ n < 0) (hN : n.toNatClampNeg = N) (hby : N * componentBytes (newarray.typeOf atype) ≤ 536870912) (hd : decode cc pc = .ok (.newarray atype, 2)) (hcells : cells + 1 ≤ R0.cells) (hslots : slots + N ≤ R0.slots)
    (kk : z_V cl G nL X Q (cells + 1) (slots + N) (pc + 2) lv (.ref h.length :: st) (h ++ [.inl (t, a0)])) : z_V cl G nL X Q cells slots pc lv (.int n :: st) h := by
  intro H locs ls r b d
  refine va_newaK F.1 F.2.1 (F.wd _ hw) rfl hd rfl hn hN hby (by rw [F.room]; exact hcells) (by rw [F.room]; exact hslots) r.top.symm fun H1 cA e1 z1 o1 hAr hNm => ?_
  have z2 : H1.size = H.size + 1 := by rw [z1, r.top]
  have o2 : ∀ q, q < H.size → H1[q]? = H[q]? := fun q hq => o1 q (by rw [r.top]; exact hq)
  have hRA : (z_Xs X).vm.findClass ("[" ++ (newarray.typeOf atype).toString) = some (G.2.1 t) := by
    have := (F.kn.2 t _ (z_ty ht)).2
    cases atype <;> exact this
  have hcA : cA = G.2.1 t := Option.some.inj (hNm.symm.trans hRA)
  subst hcA
  refine kk H1 locs ls (r.push ?_ z2 o2) (z_Sp b z2 o2) d
  show H1[z_ad G h.length]? = some (vp_cell _ (z_o G a0))
  rw [ha G]
  exact e1
theorem z_newq (F : z_F cl ats nw TB G own cc nL R0 X) {C : String} {idx t N : Nat} {n : Int32} (hl : Cond.classLink own idx C ∈ TB) (hov : va_AO C (z_Xs X)) (ht : ats[t]? = some (.object C)) (hn : ¬ n < 0) (hN : n.toNatClampNeg = N) (hby : N * 4 ≤ 536870912) (hd : decode cc pc = .ok (.anewarray idx, 3)) (hcells : cells + 1 ≤ R0.cells) (hslots : slots + N ≤ R0.slots)
    (kk : z_V cl G nL X Q (cells + 1) (slots + N) (pc + 3) lv (.ref h.length :: st) (h ++ [.inl (t, N, .inr (.inr (.inr (.inr (fun _ => none)))))])) : z_V cl G nL X Q cells slots pc lv (.int n :: st) h := by
  intro H locs ls r b d
  subst hN
  refine W.anew F.1 F.2.1 F.own (F.wd _ hl) (va_AO.use hov) rfl hd rfl hn hby (by rw [F.room]; exact hcells) (by rw [F.room]; exact hslots) fun cA kA comp f1 f2 f3 f4 => ?_
  generalize hH1 : H.push ({ cls := cA, slots := Array.replicate n.toNatClampNeg .null, vm := .none } : Cell) = H1
  have z1 : H1.size = H.size + 1 := by rw [← hH1, Array.size_push]
  have e1 : H1[H.size]? = some (arrV cA n.toNatClampNeg (fun _ => .null)) := by rw [← hH1, Array.getElem?_push_size, ← arrV_new]
  have o1 : ∀ q : Nat, q < H.size → H1[q]? = H[q]? := fun q hq => by rw [← hH1, Array.getElem?_push, if_neg (Nat.ne_of_lt hq)]
  obtain ⟨kA2, comp2, k1, k2, k3, k4⟩ := (F.kn.2 t _ (z_ty ht)).2
  have hcA : cA = G.2.1 t := Option.some.inj (f1.symm.trans k4)
  subst hcA
  have hW := kk H1 locs ls (r.push (by
    show H1[z_ad G h.length]? = some (vp_cell _ _)
    rw [r.top]
    exact e1) z1 o1) (z_Sp b z1 o1) d
  rw [List.map_cons, show z_v G (.ref h.length) = .ref H.size from congrArg Value.ref r.top] at hW
  exact hW
end ZR
