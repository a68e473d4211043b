section ZR
variable {cl : List vw_C} {ats : List FieldType} {nw : State → Prop} {TB : List Cond} {G : z_G} {own : String} {cc : ByteArray} {nL : Nat} {R0 : Room} {X : z_X} {Q : State → Prop} {cells slots pc : Nat} {lv : List (Nat × Value)} {st : List Value} {h : z_H}
/-- a field by its number in the constant pool: class ci of cl, field j -/
def z_FA (cl : List vw_C) (TB : List Cond) (own : String) (idx ci j : Nat) : Prop :=
  ∃ q : vw_C, cl[ci]? = some q ∧ Cond.fieldLink own idx q.1 (q.2.1 j).2.1 (q.2.1 j).2.2.1 ∈ TB ∧ (∀ w ∈ u_ws q.1 q.2.1 q.2.2, w ∈ TB) ∧ j < q.2.2 ∧ (q.2.1 j).1 = q.1
theorem z_getf (F : z_F cl ats nw TB G own cc nL R0 X) {idx ci j k : Nat} {fs : List Value} {v : Value} (A : z_FA cl TB own idx ci j) (hd : decode cc pc = .ok (.getfield idx, 3)) (hk : h[k]? = some (.inr (ci, fs))) (hv : fs[j]? = some v)
    (kk : z_V cl G nL X Q cells slots (pc + 3) lv (v :: st) h) : z_V cl G nL X Q cells slots pc lv (.ref k :: st) h := by
  intro H locs ls r b d
  obtain ⟨⟨C, T, N⟩, hc, hl, hin, hj, hq⟩ := A
  obtain ⟨i, rfl⟩ := r.obj hk hc
  refine va_get (D := G.1) (ci := ci) (v := z_v G v) (fs := fs.map (z_v G)) (C := C) (T := T) (N := N) F.1 F.2.1 F.wd hin F.own F.kn r.2.2 i (z_ws_at hk) hc j hj (F.wd _ hl) (fun x h9 => ?_) ?_ hd (kk H locs ls r b d)
  · rw [← show (T j).1 = C from hq]; exact h9
  · rw [List.getElem?_map, hv]; rfl
theorem z_nar {ty : FieldType} {v : Value} (hn : narrow ty v = v) : narrow ty (z_v G v) = z_v G v := by
  cases v <;> first | exact hn | (cases ty <;> rfl)
theorem z_fit {ty : FieldType} {v : Value} (hn : fits ty v = true) : fits ty (z_v G v) = true := by
  cases v <;> first | exact hn | (cases ty <;> first | rfl | exact hn)
/-- what a store wants of the fields' table beside z_FA -/
def z_FT (cl : List vw_C) (ci : Nat) : Prop :=
  ∃ q : vw_C, cl[ci]? = some q ∧ ∃ ty0 : Nat → FieldType, (∀ k, k < q.2.2 → parseFieldDescriptor (q.2.1 k).2.2.1 = some (ty0 k)) ∧ (∀ a, a < q.2.2 → ∀ b, b < q.2.2 → a ≠ b → (q.2.1 a).2.1 ≠ (q.2.1 b).2.1)
def z_FD (cl : List vw_C) (ci j : Nat) (fin : Bool) (ty : FieldType) : Prop := ∃ q : vw_C, cl[ci]? = some q ∧ (q.2.1 j).2.2.2 = fin ∧ parseFieldDescriptor (q.2.1 j).2.2.1 = some ty
/-- the heap behind a store into an object -/
theorem z_R.put {k ci j : Nat} {fs : List Value} {v : Value} {H H1 : Heap} {q : vw_C} {cell : Cell} {iS : Nat} (r : z_R cl G h H) (hk : h[k + 1]? = some (.inr (ci, fs))) (hc : cl[ci]? = some q) (hj : j < fs.length) (hcell : H[z_ad G (k + 1)]? = some cell)
    (hob : t_OB (z_ad G (k + 1)) (G.1.1 ci) q.2.2 (G.1.2 ci) H1 (updV (vp_V (fs.map (z_v G))) j (z_v G v))) (hz : H1.size = H.size) (ho : ∀ q, q ≠ z_ad G (k + 1) → H1[q]? = H[q]?) : z_R cl G (h.set (k + 1) (.inr (ci, fs.set j v))) H1 := by
  refine ⟨?_, by rw [List.length_set, hz]; exact r.2.1, ?_⟩
  · rw [List.getElem?_set_ne (by omega)]; exact r.1
  · rw [z_ws_set]
    refine va_P.set r.2.2 (z_D G h) (z_ws_at hk) ⟨q, hc, ?_⟩ ho
    refine t_OB.to hob (fun i _ => ?_)
    rw [List.map_set]
    exact vp_updV_set (by rw [List.length_map]; exact hj) _ i
theorem z_putf (F : z_F cl ats nw TB G own cc nL R0 X) {idx ci j k : Nat} {fs : List Value} {v : Value} {ty : FieldType} (A : z_FA cl TB own idx ci j) (B : z_FT cl ci) (E : z_FD cl ci j false ty) (hd : decode cc pc = .ok (.putfield idx, 3)) (hk : h[k]? = some (.inr (ci, fs))) (hj2 : j < fs.length) (hn : narrow ty v = v) (hf : fits ty v = true)
    (kk : (h.set k (.inr (ci, fs.set j v)))[k]? = some (.inr (ci, fs.set j v)) → z_V cl G nL X Q cells slots (pc + 3) lv st (h.set k (.inr (ci, fs.set j v)))) : z_V cl G nL X Q cells slots pc lv (v :: .ref k :: st) h := by
  intro H locs ls r b d
  obtain ⟨⟨C, T, N⟩, hc, hl, hin, hj, hq⟩ := A
  obtain ⟨q2, hc2, ty0, hty, hnm⟩ := B
  obtain ⟨q3, hc3, hfin, hd3⟩ := E
  cases hc.symm.trans hc2
  cases hc.symm.trans hc3
  obtain ⟨i, rfl⟩ := r.obj hk hc
  have hap := va_apart (own := own) F.wd hin ty0 hty hnm F.kn hc
  obtain ⟨rr, h1, cell, q1, q2, q3, q4⟩ := r.2.2 i _ (z_ws_at hk)
  cases h1.symm.trans hc
  obtain ⟨hS, hfc, kC, hkC, hkind⟩ := F.kn.1 ci _ hc
  obtain ⟨cf, kf, fi, f, hi, hsl⟩ := hS j hj
  have hlay := F.wd _ (hin _ (u_in_lay hj))
  unfold u_lay at hlay
  rw [if_neg (by rw [hfin]; decide)] at hlay
  have hi2 : (z_Xs X).fieldFound? C (T j).2.1 (T j).2.2.1 = some (cf, kf, fi, f) := by rw [← show (T j).1 = C from hq]; exact hi
  have hst := (u_facts hfc hkC (u_lays F.wd hin hj) hi).1
  have h6 := u_store hfc hkC hkind hlay hi hd3 (z_nar (G := G) hn) (z_fit (G := G) hf)
  refine W.putK F.1 F.2.1 (f := f) ⟨F.own, F.wd _ hl, ⟨_, _, _, hi2⟩, hst⟩ (by rw [q2]; exact h6) q1 q3 (by rw [hsl]; exact k2_hasslot (q4 j hj)) rfl rfl hd fun H' e1 e2 e3 => ?_
  rw [hsl] at e1 ⊢
  exact kk (List.getElem?_set_self (List.getElem?_eq_some_iff.mp hk).1) H' _ ls (r.put (iS := 0) hk hc hj2 q1 ⟨_, e1, q2, q3, t_set q4 hap hj _⟩ e2 e3) (b.put e2 e3 ((z_D G h).2 i _ (z_ws_at hk))) d
theorem z_putF (F : z_F cl ats nw TB G own cc nL R0 X) {idx ci j k : Nat} {fs : List Value} {v : Value} {ty : FieldType} (A : z_FA cl TB own idx ci j) (B : z_FT cl ci) (E : z_FD cl ci j true ty) (hO : ∃ q : vw_C, cl[ci]? = some q ∧ q.1 = own) (hI : X.2.2.2.2.2.2.2.2.1.name = "<init>") (hd : decode cc pc = .ok (.putfield idx, 3)) (hk : h[k]? = some (.inr (ci, fs))) (hj2 : j < fs.length) (hn : narrow ty v = v) (hf : fits ty v = true)
    (kk : (h.set k (.inr (ci, fs.set j v)))[k]? = some (.inr (ci, fs.set j v)) → z_V cl G nL X Q cells slots (pc + 3) lv st (h.set k (.inr (ci, fs.set j v)))) : z_V cl G nL X Q cells slots pc lv (v :: .ref k :: st) h := by
  intro H locs ls r b d
  obtain ⟨⟨C, T, N⟩, hc, hl, hin, hj, hq⟩ := A
  obtain ⟨q2, hc2, ty0, hty, hnm⟩ := B
  obtain ⟨q3, hc3, hfin, hd3⟩ := E
  obtain ⟨q5, hc5, hown5⟩ := hO
  cases hc.symm.trans hc2
  cases hc.symm.trans hc3
  cases hc.symm.trans hc5
  obtain ⟨i, rfl⟩ := r.obj hk hc
  have hap := va_apart (own := own) F.wd hin ty0 hty hnm F.kn hc
  obtain ⟨rr, h1, cell, q1, q2, q3, q4⟩ := r.2.2 i _ (z_ws_at hk)
  cases h1.symm.trans hc
  obtain ⟨hS, hfc, kC, hkC, hkind⟩ := F.kn.1 ci _ hc
  obtain ⟨cf, kf, fi, f, hi, hsl⟩ := hS j hj
  have hlay := F.wd _ (hin _ (u_in_lay hj))
  unfold u_lay at hlay
  rw [if_pos hfin] at hlay
  have hi2 : (z_Xs X).fieldFound? C (T j).2.1 (T j).2.2.1 = some (cf, kf, fi, f) := by rw [← show (T j).1 = C from hq]; exact hi
  have hst := (u_facts hfc hkC (u_lays F.wd hin hj) hi).1
  have hcf : (z_Xm X).cls = cf := by
    obtain ⟨_, _, c', _, _, _, -, -, hf', -, -, -, hown2, -⟩ := Cond.laysFinal_spec hlay
    have e1 : c' = cf := by have := hi.symm.trans hf'; simp at this; exact this.1.symm
    rw [show (T j).1 = C from hq, show C = own from hown5] at hown2
    rw [← e1]; exact Option.some.inj (F.own.symm.trans hown2)
  have h6 := u_fits hfc hkC hkind (Or.inr hlay) hi hd3 (z_nar (G := G) hn) (z_fit (G := G) hf)
  refine W.putFinK F.1 F.2.1 F.own (F.wd _ hl) hi2 hst hcf hI (by rw [q2]; exact h6) q1 q3 (by rw [hsl]; exact k2_hasslot (q4 j hj)) rfl rfl hd fun H' e1 e2 e3 => ?_
  rw [hsl] at e1 ⊢
  exact kk (List.getElem?_set_self (List.getElem?_eq_some_iff.mp hk).1) H' _ ls (r.put (iS := 0) hk hc hj2 q1 ⟨_, e1, q2, q3, t_set q4 hap hj _⟩ e2 e3) (b.put e2 e3 ((z_D G h).2 i _ (z_ws_at hk))) d
end ZR
