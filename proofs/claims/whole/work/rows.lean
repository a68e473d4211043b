section
/-! THE LOGICAL MACHINE. A run is told over a logical heap h (a list of cells; a reference is a place in it; place 0 stands for the script), and judged by z_V; one row an instruction, each out of the kit's own row. A contract is z_M: arguments, heap before, and what holds of answer and heap behind. -/
abbrev z_E : Type := (Nat × vp_A) ⊕ (Nat × List Value)
abbrev z_H : Type := List z_E
/-- class numbers and slots, array classes, the script's cell, the first address of ours -/
abbrev z_G : Type := va_G × (Nat → ClassId) × Nat × Nat
def z_ad (G : z_G) (k : Nat) : Nat := match k with
  | 0 => G.2.2.1
  | k + 1 => G.2.2.2 + k
def z_v (G : z_G) (v : Value) : Value := match v with
  | .ref k => .ref (z_ad G k)
  | v => v
def z_o (G : z_G) (a : vp_A) : vp_A := match a with
  | (n, .inr (.inr (.inr (.inr f)))) => (n, .inr (.inr (.inr (.inr (fun j => (f j).map (z_ad G))))))
  | a => a
def z_c (G : z_G) (e : z_E) : va_E := match e with
  | .inl (k, a) => .inl (G.2.1 k, z_o G a)
  | .inr (ci, fs) => .inr (ci, fs.map (z_v G))
def z_ws (G : z_G) (h : z_H) : va_W := (h.drop 1).mapIdx (fun k e => (G.2.2.2 + k, z_c G e))
def z_A (G : z_G) : Nat → Prop := fun q => G.2.2.2 ≤ q
def z_tys (G : z_G) (ats : List FieldType) : List (ClassId × FieldType) := ats.mapIdx (fun k t => (G.2.1 k, t))
theorem z_v_cat (G : z_G) (v : Value) : (z_v G v).category = v.category := by cases v <;> rfl
theorem z_cats (G : z_G) (st : List Value) : ((st.map (z_v G)).map fun v => v.category) = st.map fun v => v.category := by
  rw [List.map_map]
  exact List.map_congr_left (fun v _ => z_v_cat G v)
theorem z_ws_at {G : z_G} {h : z_H} {k : Nat} {e : z_E} (he : h[k + 1]? = some e) : (z_ws G h)[k]? = some (z_ad G (k + 1), z_c G e) := by
  unfold z_ws
  rw [List.getElem?_mapIdx, List.getElem?_drop, Nat.add_comm 1 k, he]
  rfl
theorem z_ws_set (G : z_G) (h : z_H) (k : Nat) (e : z_E) : z_ws G (h.set (k + 1) e) = (z_ws G h).set k (z_ad G (k + 1), z_c G e) := by
  apply List.ext_getElem?
  intro i
  unfold z_ws
  simp only [List.getElem?_set, List.getElem?_mapIdx, List.getElem?_drop, List.length_mapIdx, List.length_drop]
  by_cases hi : k = i
  · subst hi
    by_cases hl : k + 1 < h.length
    · have h1 : k < h.length - 1 := by omega
      have h2 : 1 + k < h.length := by omega
      simp [Nat.add_comm 1 k, hl, h1, z_ad]
    · have h1 : ¬ k < h.length - 1 := by omega
      simp [Nat.add_comm 1 k, hl, h1]
  · have h1 : ¬ k + 1 = 1 + i := by omega
    simp [hi, h1]
theorem z_ws_push (G : z_G) (h : z_H) (e : z_E) (h1 : 1 ≤ h.length) : z_ws G (h ++ [e]) = z_ws G h ++ [(z_ad G h.length, z_c G e)] := by
  cases h with
  | nil => simp at h1
  | cons x t =>
    simp only [z_ws, List.cons_append, List.drop_succ_cons, List.drop_zero, List.length_cons, z_ad]
    rw [List.mapIdx_append]
    simp
theorem z_D (G : z_G) (h : z_H) : va_D (z_A G) (z_ws G h) := by
  have key : ∀ (i : Nat) (p : Nat × va_E), (z_ws G h)[i]? = some p → p.1 = G.2.2.2 + i := by
    intro i p hi
    unfold z_ws at hi
    rw [List.getElem?_mapIdx] at hi
    cases hq : (h.drop 1)[i]? with
    | none => rw [hq] at hi; cases hi
    | some x => rw [hq] at hi; cases hi; rfl
  refine ⟨fun i j p q hi hj hpq => ?_, fun k q hk => ?_⟩
  · have a := key i p hi
    have b := key j q hj
    omega
  · show G.2.2.2 ≤ q.1
    rw [key k q hk]
    omega
/-- the heap holds h -/
def z_R (cl : List vw_C) (G : z_G) (h : z_H) (H : Heap) : Prop := h[0]? = some (.inr (cl.length, [])) ∧ H.size + 1 = G.2.2.2 + h.length ∧ va_P G.1 cl (z_ws G h) H
theorem z_R.pos {cl : List vw_C} {G : z_G} {h : z_H} {H : Heap} (r : z_R cl G h H) : 1 ≤ h.length := by
  have := (List.getElem?_eq_some_iff.mp r.1).1
  omega
theorem z_R.obj {cl : List vw_C} {G : z_G} {h : z_H} {H : Heap} (r : z_R cl G h H) {k ci : Nat} {fs : List Value} {q : vw_C} (hk : h[k]? = some (.inr (ci, fs))) (hc : cl[ci]? = some q) : ∃ j, k = j + 1 := by
  cases k with
  | succ j => exact ⟨j, rfl⟩
  | zero =>
    rw [r.1] at hk
    have h1 : cl.length = ci := by injection hk with hk; injection hk with hk; injection hk
    rw [← h1] at hc
    simp at hc
theorem z_R.arr {cl : List vw_C} {G : z_G} {h : z_H} {H : Heap} (r : z_R cl G h H) {k : Nat} {a : Nat × vp_A} (hk : h[k]? = some (.inl a)) : ∃ j, k = j + 1 := by
  cases k with
  | succ j => exact ⟨j, rfl⟩
  | zero => rw [r.1] at hk; cases hk
def z_U (cl : List vw_C) (ats : List FieldType) (nw : State → Prop) (G : z_G) (h : z_H) (U : State) : Prop := z_R cl G h U.heap ∧ va_K G.1 cl (z_tys G ats) U ∧ nw U
def z_Q (cl : List vw_C) (ats : List FieldType) (nw : State → Prop) (G : z_G) (Q : Option Value → z_H → Prop) : Array Value → State → Outcome → State → Prop := fun _ st oc t => (∃ (r : Option Value) (h' : z_H), oc = .returned (r.map (z_v G)) ∧ Q r h' ∧ z_R cl G h' t.heap) ∧ va_F (z_A G) st t
def z_rm (rk mc ms : Nat) : Room := { frames := rk, cells := mc, slots := ms, locals := 40 * rk }
/-- the method under way: machine, room, entry state, frame, code -/
abbrev z_X : Type := Program × Launch × Env × Room × State × MethodId × Array Value × List Frame × Method × Code
abbrev z_Xs (X : z_X) : State := X.2.2.2.2.1
abbrev z_Xm (X : z_X) : MethodId := X.2.2.2.2.2.1
abbrev z_Xa (X : z_X) : Array Value := X.2.2.2.2.2.2.1
abbrev z_W (X : z_X) (H : Heap) (locs : List Loc) (cells slots : Nat) (Q : State → Prop) (g : JFrame) : Prop :=
  W X.1 X.2.1 X.2.2.1 X.2.2.2.1 X.2.2.2.2.1 X.2.2.2.2.2.1 X.2.2.2.2.2.2.1 X.2.2.2.2.2.2.2.1 X.2.2.2.2.2.2.2.2.1 X.2.2.2.2.2.2.2.2.2 H locs cells slots Q g
/-- what is known of it throughout -/
def z_F (cl : List vw_C) (ats : List FieldType) (nw : State → Prop) (TB : List Cond) (G : z_G) (own : String) (cc : ByteArray) (nL : Nat) (R0 : Room) (X : z_X) : Prop :=
  X.1.tables.exec = Jvm.exec ∧ X.2.2.2.2.2.2.2.2.2.code = cc ∧ X.2.2.2.2.2.2.2.2.2.maxLocals = nL ∧ X.2.2.2.2.1.vm.findClass own = some X.2.2.2.2.2.1.cls ∧ (∀ w ∈ TB, w.before X.2.2.2.2.2.2.1 X.2.2.2.2.1 = true) ∧ va_K G.1 cl (z_tys G ats) X.2.2.2.2.1 ∧ nw X.2.2.2.2.1 ∧ G.2.2.2 ≤ X.2.2.2.2.1.heap.size ∧ X.2.2.2.1 = R0 ∧ X.2.2.2.2.2.2.2.2.1.locks = false
theorem z_F.own {cl : List vw_C} {ats : List FieldType} {nw : State → Prop} {TB : List Cond} {G : z_G} {own : String} {cc : ByteArray} {nL : Nat} {R0 : Room} {X : z_X} (F : z_F cl ats nw TB G own cc nL R0 X) : X.2.2.2.2.1.vm.findClass own = some X.2.2.2.2.2.1.cls := F.2.2.2.1
theorem z_F.wd {cl : List vw_C} {ats : List FieldType} {nw : State → Prop} {TB : List Cond} {G : z_G} {own : String} {cc : ByteArray} {nL : Nat} {R0 : Room} {X : z_X} (F : z_F cl ats nw TB G own cc nL R0 X) : ∀ w ∈ TB, w.before X.2.2.2.2.2.2.1 X.2.2.2.2.1 = true := F.2.2.2.2.1
theorem z_F.kn {cl : List vw_C} {ats : List FieldType} {nw : State → Prop} {TB : List Cond} {G : z_G} {own : String} {cc : ByteArray} {nL : Nat} {R0 : Room} {X : z_X} (F : z_F cl ats nw TB G own cc nL R0 X) : va_K G.1 cl (z_tys G ats) X.2.2.2.2.1 := F.2.2.2.2.2.1
theorem z_F.nws {cl : List vw_C} {ats : List FieldType} {nw : State → Prop} {TB : List Cond} {G : z_G} {own : String} {cc : ByteArray} {nL : Nat} {R0 : Room} {X : z_X} (F : z_F cl ats nw TB G own cc nL R0 X) : nw X.2.2.2.2.1 := F.2.2.2.2.2.2.1
theorem z_F.base {cl : List vw_C} {ats : List FieldType} {nw : State → Prop} {TB : List Cond} {G : z_G} {own : String} {cc : ByteArray} {nL : Nat} {R0 : Room} {X : z_X} (F : z_F cl ats nw TB G own cc nL R0 X) : G.2.2.2 ≤ X.2.2.2.2.1.heap.size := F.2.2.2.2.2.2.2.1
theorem z_F.room {cl : List vw_C} {ats : List FieldType} {nw : State → Prop} {TB : List Cond} {G : z_G} {own : String} {cc : ByteArray} {nL : Nat} {R0 : Room} {X : z_X} (F : z_F cl ats nw TB G own cc nL R0 X) : X.2.2.2.1 = R0 := F.2.2.2.2.2.2.2.2.1
theorem z_F.lock {cl : List vw_C} {ats : List FieldType} {nw : State → Prop} {TB : List Cond} {G : z_G} {own : String} {cc : ByteArray} {nL : Nat} {R0 : Room} {X : z_X} (F : z_F cl ats nw TB G own cc nL R0 X) : X.2.2.2.2.2.2.2.2.1.locks = false := F.2.2.2.2.2.2.2.2.2
/-- locals: a list of places and values, in the order of the places -/
def z_lv (G : z_G) (lv : List (Nat × Value)) : List (Nat × Value) := lv.map (fun q => (q.1, z_v G q.2))
def z_at : List (Nat × Value) → Nat → Option Value
  | [], _ => none
  | (j, v) :: r, i => match Nat.beq j i with
    | true => some v
    | false => z_at r i
def z_ins (i : Nat) (v : Value) : List (Nat × Value) → List (Nat × Value)
  | [] => [(i, v)]
  | (j, w) :: r => match Nat.ble i j with
    | true => (i, v) :: (j, w) :: r
    | false => (j, w) :: z_ins i v r
def z_fl1 (i : Nat) : List (Nat × Value) → List (Nat × Value)
  | [] => []
  | (j, w) :: r => match Nat.beq j i || (Nat.beq (j + 1) i && Nat.beq w.category 2) with
    | true => z_fl1 i r
    | false => (j, w) :: z_fl1 i r
def z_st (lv : List (Nat × Value)) (i : Nat) (v : Value) : List (Nat × Value) := match Nat.beq v.category 2 with
  | true => z_ins i v (z_fl1 i (z_fl1 (i + 1) lv))
  | false => z_ins i v (z_fl1 i lv)
theorem z_at_mem : ∀ {lv : List (Nat × Value)} {i : Nat} {v : Value}, z_at lv i = some v → (i, v) ∈ lv
  | [], i, v, h => by cases h
  | (j, w) :: r, i, v, h => by
    unfold z_at at h
    split at h
    · rename_i hb
      have := Nat.eq_of_beq_eq_true hb
      subst this
      cases h
      exact List.mem_cons_self
    · exact List.mem_cons_of_mem _ (z_at_mem h)
theorem z_ins_mem {i : Nat} {v : Value} : ∀ {l : List (Nat × Value)} {q : Nat × Value}, q ∈ z_ins i v l → q = (i, v) ∨ q ∈ l
  | [], q, h => by
    simp [z_ins] at h
    exact Or.inl h
  | (j, w) :: r, q, h => by
    unfold z_ins at h
    split at h
    · rcases List.mem_cons.mp h with h | h
      · exact Or.inl h
      · exact Or.inr h
    · rcases List.mem_cons.mp h with h | h
      · exact Or.inr (by rw [h]; exact List.mem_cons_self)
      · rcases z_ins_mem h with h | h
        · exact Or.inl h
        · exact Or.inr (List.mem_cons_of_mem _ h)
theorem z_fl1_mem {i : Nat} : ∀ {l : List (Nat × Value)} {q : Nat × Value}, q ∈ z_fl1 i l → q ∈ l ∧ ¬ q.1 = i ∧ ¬ (q.1 + 1 = i ∧ q.2.category = 2)
  | [], q, h => by cases h
  | (j, w) :: r, q, h => by
    unfold z_fl1 at h
    split at h
    · have := z_fl1_mem h
      exact ⟨List.mem_cons_of_mem _ this.1, this.2⟩
    · rename_i hb
      rcases List.mem_cons.mp h with h | h
      · subst h
        refine ⟨List.mem_cons_self, fun e => ?_, fun e => ?_⟩
        · have e : j = i := e
          subst e
          simp at hb
        · have e1 : j + 1 = i := e.1
          have e2 : w.category = 2 := e.2
          subst e1
          simp [e2] at hb
      · have := z_fl1_mem h
        exact ⟨List.mem_cons_of_mem _ this.1, this.2⟩
theorem z_atL {G : z_G} {ls : Array Slot} {nL : Nat} {lv : List (Nat × Value)} {i : Nat} {v : Value} (d : lv_has ls nL (z_lv G lv)) (h : z_at lv i = some v) : ls[i]? = some (.val (z_v G v)) :=
  d.2.2 (i, z_v G v) (List.mem_map.mpr ⟨(i, v), z_at_mem h, rfl⟩)
theorem z_atI {G : z_G} {lv : List (Nat × Value)} {i : Nat} {v : Value} (h : z_at lv i = some v) : ∃ j : Nat, (z_lv G lv)[j]? = some (i, z_v G v) :=
  List.getElem?_of_mem (List.mem_map.mpr ⟨(i, v), z_at_mem h, rfl⟩)
theorem z_st1 {G : z_G} {ls : Array Slot} {nL : Nat} {lv : List (Nat × Value)} {i : Nat} {v w : Value} (d : lv_has ls nL ((i, w) :: (z_lv G lv).filter (fun q => !(q.1 == i) && !(q.1 + 1 == i && q.2.category == 2)))) (hw : z_v G v = w) (hc : v.category = 1) : lv_has ls nL (z_lv G (z_st lv i v)) := by
  subst hw
  refine ⟨d.1, d.2.1, fun q hq => d.2.2 q ?_⟩
  obtain ⟨q0, h1, rfl⟩ := List.mem_map.mp hq
  unfold z_st at h1
  rw [hc] at h1
  rcases z_ins_mem h1 with h | h
  · rw [h]; exact List.mem_cons_self
  · obtain ⟨h2, h3, h4⟩ := z_fl1_mem h
    refine List.mem_cons_of_mem _ (List.mem_filter.mpr ⟨List.mem_map.mpr ⟨q0, h2, rfl⟩, ?_⟩)
    simp only [z_v_cat]
    simp only [Bool.and_eq_true, Bool.not_eq_true', beq_eq_false_iff_ne, Bool.and_eq_false_imp, beq_iff_eq]
    exact ⟨h3, fun e1 e2 => h4 ⟨e1, e2⟩⟩
theorem z_st2 {G : z_G} {ls : Array Slot} {nL : Nat} {lv : List (Nat × Value)} {i : Nat} {v w : Value} (d : lv_has ls nL ((i, w) :: (z_lv G lv).filter (fun q => !(q.1 == i) && (!(q.1 == i + 1) && !(q.1 + 1 == i && q.2.category == 2))))) (hw : z_v G v = w) (hc : v.category = 2) : lv_has ls nL (z_lv G (z_st lv i v)) := by
  subst hw
  refine ⟨d.1, d.2.1, fun q hq => d.2.2 q ?_⟩
  obtain ⟨q0, h1, rfl⟩ := List.mem_map.mp hq
  unfold z_st at h1
  rw [hc] at h1
  rcases z_ins_mem h1 with h | h
  · rw [h]; exact List.mem_cons_self
  · obtain ⟨h2, h3, h4⟩ := z_fl1_mem h
    obtain ⟨h5, h6, h7⟩ := z_fl1_mem h2
    refine List.mem_cons_of_mem _ (List.mem_filter.mpr ⟨List.mem_map.mpr ⟨q0, h5, rfl⟩, ?_⟩)
    simp only [z_v_cat]
    simp only [Bool.and_eq_true, Bool.not_eq_true', beq_eq_false_iff_ne, Bool.and_eq_false_imp, beq_iff_eq]
    exact ⟨h3, h6, fun e1 e2 => h4 ⟨e1, e2⟩⟩
def z_isR (v : Value) : Bool := match v with
  | .null => true
  | .ref _ => true
  | _ => false
/-- from here the run ends in Q -/
def z_V (cl : List vw_C) (G : z_G) (nL : Nat) (X : z_X) (Q : State → Prop) (cells slots pc : Nat) (lv : List (Nat × Value)) (st : List Value) (h : z_H) : Prop :=
  ∀ (H : Heap) (locs : List Loc) (ls : Array Slot), z_R cl G h H → va_S (z_A G) X.2.2.2.2.1.heap H locs → lv_has ls nL (z_lv G lv) → z_W X H locs cells slots Q (F0 X.2.2.2.2.2.1 pc ls (st.map (z_v G)))
end
section
section ZR
variable {cl : List vw_C} {ats : List FieldType} {nw : State → Prop} {TB : List Cond} {G : z_G} {own : String} {cc : ByteArray} {nL : Nat} {R0 : Room} {X : z_X} {Q : State → Prop} {cells slots pc : Nat} {lv : List (Nat × Value)} {st : List Value} {h : z_H}
theorem z_iconst (F : z_F cl ats nw TB G own cc nL R0 X) {n : Int} {v : Int32} (hd : decode cc pc = .ok (.iconst n, 1)) (hv : Int32.ofInt n = v) (k : z_V cl G nL X Q cells slots (pc + 1) lv (.int v :: st) h) : z_V cl G nL X Q cells slots pc lv (st) h :=
  fun H locs ls a b d => lv_iconst F.1 F.2.1 hd hv (k H locs ls a b d)
theorem z_bipush (F : z_F cl ats nw TB G own cc nL R0 X) {n : Int} {v : Int32} (hd : decode cc pc = .ok (.bipush n, 2)) (hv : (Int8.ofInt n).toInt32 = v) (k : z_V cl G nL X Q cells slots (pc + 2) lv (.int v :: st) h) : z_V cl G nL X Q cells slots pc lv (st) h :=
  fun H locs ls a b d => lv_bipush F.1 F.2.1 hd hv (k H locs ls a b d)
theorem z_sipush (F : z_F cl ats nw TB G own cc nL R0 X) {n : Int} {v : Int32} (hd : decode cc pc = .ok (.sipush n, 3)) (hv : (Int16.ofInt n).toInt32 = v) (k : z_V cl G nL X Q cells slots (pc + 3) lv (.int v :: st) h) : z_V cl G nL X Q cells slots pc lv (st) h :=
  fun H locs ls a b d => lv_sipush F.1 F.2.1 hd hv (k H locs ls a b d)
theorem z_lconst (F : z_F cl ats nw TB G own cc nL R0 X) {n : Fin 2} {v : Int64} (hd : decode cc pc = .ok (.lconst n, 1)) (hv : Int64.ofNat (n : Nat) = v) (k : z_V cl G nL X Q cells slots (pc + 1) lv (.long v :: st) h) : z_V cl G nL X Q cells slots pc lv (st) h :=
  fun H locs ls a b d => lv_lconst F.1 F.2.1 hd hv (k H locs ls a b d)
theorem z_null (F : z_F cl ats nw TB G own cc nL R0 X) (hd : decode cc pc = .ok (.aconst_null, 1)) (k : z_V cl G nL X Q cells slots (pc + 1) lv (.null :: st) h) : z_V cl G nL X Q cells slots pc lv (st) h :=
  fun H locs ls a b d => lv_null F.1 F.2.1 hd (k H locs ls a b d)
theorem z_ldc (F : z_F cl ats nw TB G own cc nL R0 X) {idx : Nat} {v : Int32} (hw : Cond.constant own idx v ∈ TB) (hd : decode cc pc = .ok (.ldc idx, 2)) (k : z_V cl G nL X Q cells slots (pc + 2) lv (.int v :: st) h) : z_V cl G nL X Q cells slots pc lv st h :=
  fun H locs ls a b d => lv_ldc F.1 F.2.1 F.own (F.wd _ hw) hd (k H locs ls a b d)
theorem z_ldc2 (F : z_F cl ats nw TB G own cc nL R0 X) {idx : Nat} {v : Int64} (hw : Cond.constantLong own idx v ∈ TB) (hd : decode cc pc = .ok (.ldc2_w idx, 3)) (k : z_V cl G nL X Q cells slots (pc + 3) lv (.long v :: st) h) : z_V cl G nL X Q cells slots pc lv st h :=
  fun H locs ls a b d => lv_ldc2 F.1 F.2.1 F.own (F.wd _ hw) hd (k H locs ls a b d)
theorem z_iload_n (F : z_F cl ats nw TB G own cc nL R0 X) {n : Fin 4} {x : Int32} (hd : decode cc pc = .ok (.iload_n n, 1)) (hl : z_at lv n = some (.int x)) (k : z_V cl G nL X Q cells slots (pc + 1) lv (.int x :: st) h) : z_V cl G nL X Q cells slots pc lv st h :=
  fun H locs ls a b d => lv_iload_n F.1 F.2.1 hd rfl (z_atL d hl) (k H locs ls a b d)
theorem z_iload (F : z_F cl ats nw TB G own cc nL R0 X) {n : Nat} {x : Int32} (hd : decode cc pc = .ok (.iload n, 2)) (hl : z_at lv n = some (.int x)) (k : z_V cl G nL X Q cells slots (pc + 2) lv (.int x :: st) h) : z_V cl G nL X Q cells slots pc lv st h :=
  fun H locs ls a b d => lv_iload F.1 F.2.1 hd (z_atL d hl) (k H locs ls a b d)
theorem z_lload_n (F : z_F cl ats nw TB G own cc nL R0 X) {n : Fin 4} {x : Int64} (hd : decode cc pc = .ok (.lload_n n, 1)) (hl : z_at lv n = some (.long x)) (k : z_V cl G nL X Q cells slots (pc + 1) lv (.long x :: st) h) : z_V cl G nL X Q cells slots pc lv st h :=
  fun H locs ls a b d => lv_lload_n F.1 F.2.1 hd rfl (z_atL d hl) (k H locs ls a b d)
theorem z_lload (F : z_F cl ats nw TB G own cc nL R0 X) {n : Nat} {x : Int64} (hd : decode cc pc = .ok (.lload n, 2)) (hl : z_at lv n = some (.long x)) (k : z_V cl G nL X Q cells slots (pc + 2) lv (.long x :: st) h) : z_V cl G nL X Q cells slots pc lv st h :=
  fun H locs ls a b d => lv_lload F.1 F.2.1 hd (z_atL d hl) (k H locs ls a b d)
theorem z_aload_n (F : z_F cl ats nw TB G own cc nL R0 X) {n : Fin 4} {v : Value} (hd : decode cc pc = .ok (.aload_n n, 1)) (hl : z_at lv n = some v) (hv : z_isR v = true) (k : z_V cl G nL X Q cells slots (pc + 1) lv (v :: st) h) : z_V cl G nL X Q cells slots pc lv st h :=
  fun H locs ls a b d => by
    cases v <;> first | exact Bool.noConfusion (show false = true from hv) | exact lv_aload_n F.1 F.2.1 hd rfl (z_atL d hl) (k H locs ls a b d) | exact lv_aload_nN F.1 F.2.1 hd rfl (z_atL d hl) (k H locs ls a b d)
theorem z_aload (F : z_F cl ats nw TB G own cc nL R0 X) {n : Nat} {v : Value} (hd : decode cc pc = .ok (.aload n, 2)) (hl : z_at lv n = some v) (hv : z_isR v = true) (k : z_V cl G nL X Q cells slots (pc + 2) lv (v :: st) h) : z_V cl G nL X Q cells slots pc lv st h :=
  fun H locs ls a b d => by
    cases v <;> first | exact Bool.noConfusion (show false = true from hv) | exact lv_aload F.1 F.2.1 hd (z_atL d hl) (k H locs ls a b d) | exact lv_aloadN F.1 F.2.1 hd (z_atL d hl) (k H locs ls a b d)
theorem z_istore_n (F : z_F cl ats nw TB G own cc nL R0 X) {n : Fin 4} {x : Int32} (hd : decode cc pc = .ok (.istore_n n, 1)) (hn : (n : Nat) < nL) (k : z_V cl G nL X Q cells slots (pc + 1) (z_st lv n (.int x)) st h) : z_V cl G nL X Q cells slots pc lv (.int x :: st) h :=
  fun H locs ls a b d => lv_istore_n F.1 F.2.1 hd rfl d hn rfl (fun ls' d' => k H locs ls' a b (z_st1 d' rfl rfl))
theorem z_lstore_n (F : z_F cl ats nw TB G own cc nL R0 X) {n : Fin 4} {x : Int64} (hd : decode cc pc = .ok (.lstore_n n, 1)) (hn : (n : Nat) + 1 < nL) (k : z_V cl G nL X Q cells slots (pc + 1) (z_st lv n (.long x)) st h) : z_V cl G nL X Q cells slots pc lv (.long x :: st) h :=
  fun H locs ls a b d => lv_lstore_n F.1 F.2.1 hd rfl d hn rfl (fun ls' d' => k H locs ls' a b (z_st2 d' rfl rfl))
theorem z_astore_n (F : z_F cl ats nw TB G own cc nL R0 X) {n : Fin 4} {v : Value} (hd : decode cc pc = .ok (.astore_n n, 1)) (hv : z_isR v = true) (hn : (n : Nat) < nL) (k : z_V cl G nL X Q cells slots (pc + 1) (z_st lv n v) st h) : z_V cl G nL X Q cells slots pc lv (v :: st) h :=
  fun H locs ls a b d => by
    cases v <;> first | exact Bool.noConfusion (show false = true from hv) | exact lv_astore_n F.1 F.2.1 hd rfl d hn rfl (fun ls' d' => k H locs ls' a b (z_st1 d' rfl rfl)) | exact lv_astore_nN F.1 F.2.1 hd rfl d hn rfl (fun ls' d' => k H locs ls' a b (z_st1 d' rfl rfl))
theorem z_istore (F : z_F cl ats nw TB G own cc nL R0 X) {n : Nat} {x : Int32} (hd : decode cc pc = .ok (.istore n, 2)) (hn : (n : Nat) < nL) (k : z_V cl G nL X Q cells slots (pc + 2) (z_st lv n (.int x)) st h) : z_V cl G nL X Q cells slots pc lv (.int x :: st) h :=
  fun H locs ls a b d => lv_istore F.1 F.2.1 hd d hn rfl (fun ls' d' => k H locs ls' a b (z_st1 d' rfl rfl))
theorem z_lstore (F : z_F cl ats nw TB G own cc nL R0 X) {n : Nat} {x : Int64} (hd : decode cc pc = .ok (.lstore n, 2)) (hn : (n : Nat) + 1 < nL) (k : z_V cl G nL X Q cells slots (pc + 2) (z_st lv n (.long x)) st h) : z_V cl G nL X Q cells slots pc lv (.long x :: st) h :=
  fun H locs ls a b d => lv_lstore F.1 F.2.1 hd d hn rfl (fun ls' d' => k H locs ls' a b (z_st2 d' rfl rfl))
theorem z_astore (F : z_F cl ats nw TB G own cc nL R0 X) {n : Nat} {v : Value} (hd : decode cc pc = .ok (.astore n, 2)) (hv : z_isR v = true) (hn : (n : Nat) < nL) (k : z_V cl G nL X Q cells slots (pc + 2) (z_st lv n v) st h) : z_V cl G nL X Q cells slots pc lv (v :: st) h :=
  fun H locs ls a b d => by
    cases v <;> first | exact Bool.noConfusion (show false = true from hv) | exact lv_astore F.1 F.2.1 hd d hn rfl (fun ls' d' => k H locs ls' a b (z_st1 d' rfl rfl)) | exact lv_astoreN F.1 F.2.1 hd d hn rfl (fun ls' d' => k H locs ls' a b (z_st1 d' rfl rfl))
theorem z_iinc (F : z_F cl ats nw TB G own cc nL R0 X) {i : Nat} {n : Int} {x v : Int32} (hd : decode cc pc = .ok (.iinc i n, 3)) (hl : z_at lv i = some (.int x)) (hv : x + Int32.ofInt n = v) (hn : i < nL) (k : z_V cl G nL X Q cells slots (pc + 3) (z_st lv i (.int v)) st h) : z_V cl G nL X Q cells slots pc lv st h :=
  fun H locs ls a b d => by
    obtain ⟨j, hj⟩ := z_atI (G := G) hl
    exact lv_iinc F.1 F.2.1 hd d hj hv hn rfl (fun ls' d' => k H locs ls' a b (z_st1 d' rfl rfl))
theorem z_iadd (F : z_F cl ats nw TB G own cc nL R0 X) {x y : Int32} (hd : decode cc pc = .ok (.iadd, 1)) (k : z_V cl G nL X Q cells slots (pc + 1) lv (.int (x + y) :: st) h) : z_V cl G nL X Q cells slots pc lv (.int y :: .int x :: st) h :=
  fun H locs ls a b d => lv_iadd F.1 F.2.1 hd (k H locs ls a b d)
theorem z_isub (F : z_F cl ats nw TB G own cc nL R0 X) {x y : Int32} (hd : decode cc pc = .ok (.isub, 1)) (k : z_V cl G nL X Q cells slots (pc + 1) lv (.int (x - y) :: st) h) : z_V cl G nL X Q cells slots pc lv (.int y :: .int x :: st) h :=
  fun H locs ls a b d => lv_isub F.1 F.2.1 hd (k H locs ls a b d)
theorem z_imul (F : z_F cl ats nw TB G own cc nL R0 X) {x y : Int32} (hd : decode cc pc = .ok (.imul, 1)) (k : z_V cl G nL X Q cells slots (pc + 1) lv (.int (x * y) :: st) h) : z_V cl G nL X Q cells slots pc lv (.int y :: .int x :: st) h :=
  fun H locs ls a b d => lv_imul F.1 F.2.1 hd (k H locs ls a b d)
theorem z_iand (F : z_F cl ats nw TB G own cc nL R0 X) {x y : Int32} (hd : decode cc pc = .ok (.iand, 1)) (k : z_V cl G nL X Q cells slots (pc + 1) lv (.int (x &&& y) :: st) h) : z_V cl G nL X Q cells slots pc lv (.int y :: .int x :: st) h :=
  fun H locs ls a b d => lv_iand F.1 F.2.1 hd (k H locs ls a b d)
theorem z_ior (F : z_F cl ats nw TB G own cc nL R0 X) {x y : Int32} (hd : decode cc pc = .ok (.ior, 1)) (k : z_V cl G nL X Q cells slots (pc + 1) lv (.int (x ||| y) :: st) h) : z_V cl G nL X Q cells slots pc lv (.int y :: .int x :: st) h :=
  fun H locs ls a b d => lv_ior F.1 F.2.1 hd (k H locs ls a b d)
theorem z_ixor (F : z_F cl ats nw TB G own cc nL R0 X) {x y : Int32} (hd : decode cc pc = .ok (.ixor, 1)) (k : z_V cl G nL X Q cells slots (pc + 1) lv (.int (x ^^^ y) :: st) h) : z_V cl G nL X Q cells slots pc lv (.int y :: .int x :: st) h :=
  fun H locs ls a b d => lv_ixor F.1 F.2.1 hd (k H locs ls a b d)
theorem z_ishl (F : z_F cl ats nw TB G own cc nL R0 X) {x y : Int32} (hd : decode cc pc = .ok (.ishl, 1)) (k : z_V cl G nL X Q cells slots (pc + 1) lv (.int (x <<< (y &&& 31)) :: st) h) : z_V cl G nL X Q cells slots pc lv (.int y :: .int x :: st) h :=
  fun H locs ls a b d => lv_ishl F.1 F.2.1 hd (k H locs ls a b d)
theorem z_ishr (F : z_F cl ats nw TB G own cc nL R0 X) {x y : Int32} (hd : decode cc pc = .ok (.ishr, 1)) (k : z_V cl G nL X Q cells slots (pc + 1) lv (.int (x >>> (y &&& 31)) :: st) h) : z_V cl G nL X Q cells slots pc lv (.int y :: .int x :: st) h :=
  fun H locs ls a b d => lv_ishr F.1 F.2.1 hd (k H locs ls a b d)
theorem z_iushr (F : z_F cl ats nw TB G own cc nL R0 X) {x y : Int32} (hd : decode cc pc = .ok (.iushr, 1)) (k : z_V cl G nL X Q cells slots (pc + 1) lv (.int ((x.toUInt32 >>> (y.toUInt32 &&& Int32.toUInt32 31)).toInt32) :: st) h) : z_V cl G nL X Q cells slots pc lv (.int y :: .int x :: st) h :=
  fun H locs ls a b d => lv_iushr F.1 F.2.1 hd rfl (k H locs ls a b d)
theorem z_ladd (F : z_F cl ats nw TB G own cc nL R0 X) {x y : Int64} (hd : decode cc pc = .ok (.ladd, 1)) (k : z_V cl G nL X Q cells slots (pc + 1) lv (.long (x + y) :: st) h) : z_V cl G nL X Q cells slots pc lv (.long y :: .long x :: st) h :=
  fun H locs ls a b d => lv_ladd F.1 F.2.1 hd (k H locs ls a b d)
theorem z_lsub (F : z_F cl ats nw TB G own cc nL R0 X) {x y : Int64} (hd : decode cc pc = .ok (.lsub, 1)) (k : z_V cl G nL X Q cells slots (pc + 1) lv (.long (x - y) :: st) h) : z_V cl G nL X Q cells slots pc lv (.long y :: .long x :: st) h :=
  fun H locs ls a b d => lv_lsub F.1 F.2.1 hd (k H locs ls a b d)
theorem z_lmul (F : z_F cl ats nw TB G own cc nL R0 X) {x y : Int64} (hd : decode cc pc = .ok (.lmul, 1)) (k : z_V cl G nL X Q cells slots (pc + 1) lv (.long (x * y) :: st) h) : z_V cl G nL X Q cells slots pc lv (.long y :: .long x :: st) h :=
  fun H locs ls a b d => lv_lmul F.1 F.2.1 hd (k H locs ls a b d)
theorem z_land (F : z_F cl ats nw TB G own cc nL R0 X) {x y : Int64} (hd : decode cc pc = .ok (.land, 1)) (k : z_V cl G nL X Q cells slots (pc + 1) lv (.long (x &&& y) :: st) h) : z_V cl G nL X Q cells slots pc lv (.long y :: .long x :: st) h :=
  fun H locs ls a b d => lv_land F.1 F.2.1 hd (k H locs ls a b d)
theorem z_lor (F : z_F cl ats nw TB G own cc nL R0 X) {x y : Int64} (hd : decode cc pc = .ok (.lor, 1)) (k : z_V cl G nL X Q cells slots (pc + 1) lv (.long (x ||| y) :: st) h) : z_V cl G nL X Q cells slots pc lv (.long y :: .long x :: st) h :=
  fun H locs ls a b d => lv_lor F.1 F.2.1 hd (k H locs ls a b d)
theorem z_lxor (F : z_F cl ats nw TB G own cc nL R0 X) {x y : Int64} (hd : decode cc pc = .ok (.lxor, 1)) (k : z_V cl G nL X Q cells slots (pc + 1) lv (.long (x ^^^ y) :: st) h) : z_V cl G nL X Q cells slots pc lv (.long y :: .long x :: st) h :=
  fun H locs ls a b d => lv_lxor F.1 F.2.1 hd (k H locs ls a b d)
theorem z_lshl (F : z_F cl ats nw TB G own cc nL R0 X) {x : Int64} {y : Int32} (hd : decode cc pc = .ok (.lshl, 1)) (k : z_V cl G nL X Q cells slots (pc + 1) lv (.long (x <<< (y.toInt64 &&& 63)) :: st) h) : z_V cl G nL X Q cells slots pc lv (.int y :: .long x :: st) h :=
  fun H locs ls a b d => lv_lshl F.1 F.2.1 hd rfl (k H locs ls a b d)
theorem z_lshr (F : z_F cl ats nw TB G own cc nL R0 X) {x : Int64} {y : Int32} (hd : decode cc pc = .ok (.lshr, 1)) (k : z_V cl G nL X Q cells slots (pc + 1) lv (.long (x >>> (y.toInt64 &&& 63)) :: st) h) : z_V cl G nL X Q cells slots pc lv (.int y :: .long x :: st) h :=
  fun H locs ls a b d => lv_lshr F.1 F.2.1 hd rfl (k H locs ls a b d)
theorem z_lushr (F : z_F cl ats nw TB G own cc nL R0 X) {x : Int64} {y : Int32} (hd : decode cc pc = .ok (.lushr, 1)) (k : z_V cl G nL X Q cells slots (pc + 1) lv (.long ((x.toUInt64 >>> (y.toInt64.toUInt64 &&& Int64.toUInt64 63)).toInt64) :: st) h) : z_V cl G nL X Q cells slots pc lv (.int y :: .long x :: st) h :=
  fun H locs ls a b d => lv_lushr F.1 F.2.1 hd rfl (k H locs ls a b d)
theorem z_lcmp (F : z_F cl ats nw TB G own cc nL R0 X) {x y : Int64} (hd : decode cc pc = .ok (.lcmp, 1)) (k : z_V cl G nL X Q cells slots (pc + 1) lv (.int (lg_cmp x y) :: st) h) : z_V cl G nL X Q cells slots pc lv (.long y :: .long x :: st) h :=
  fun H locs ls a b d => W.lcmp F.1 F.2.1 hd (k H locs ls a b d)
theorem z_ineg (F : z_F cl ats nw TB G own cc nL R0 X) {x : Int32} (hd : decode cc pc = .ok (.ineg, 1)) (k : z_V cl G nL X Q cells slots (pc + 1) lv (.int (-x) :: st) h) : z_V cl G nL X Q cells slots pc lv (.int x :: st) h :=
  fun H locs ls a b d => lv_ineg F.1 F.2.1 hd (k H locs ls a b d)
theorem z_lneg (F : z_F cl ats nw TB G own cc nL R0 X) {x : Int64} (hd : decode cc pc = .ok (.lneg, 1)) (k : z_V cl G nL X Q cells slots (pc + 1) lv (.long (-x) :: st) h) : z_V cl G nL X Q cells slots pc lv (.long x :: st) h :=
  fun H locs ls a b d => lv_lneg F.1 F.2.1 hd (k H locs ls a b d)
theorem z_i2l (F : z_F cl ats nw TB G own cc nL R0 X) {x : Int32} (hd : decode cc pc = .ok (.i2l, 1)) (k : z_V cl G nL X Q cells slots (pc + 1) lv (.long x.toInt64 :: st) h) : z_V cl G nL X Q cells slots pc lv (.int x :: st) h :=
  fun H locs ls a b d => lv_i2l F.1 F.2.1 hd rfl (k H locs ls a b d)
theorem z_l2i (F : z_F cl ats nw TB G own cc nL R0 X) {x : Int64} (hd : decode cc pc = .ok (.l2i, 1)) (k : z_V cl G nL X Q cells slots (pc + 1) lv (.int x.toInt32 :: st) h) : z_V cl G nL X Q cells slots pc lv (.long x :: st) h :=
  fun H locs ls a b d => lv_l2i F.1 F.2.1 hd rfl (k H locs ls a b d)
theorem z_i2b (F : z_F cl ats nw TB G own cc nL R0 X) {x : Int32} (hd : decode cc pc = .ok (.i2b, 1)) (k : z_V cl G nL X Q cells slots (pc + 1) lv (.int x.toInt8.toInt32 :: st) h) : z_V cl G nL X Q cells slots pc lv (.int x :: st) h :=
  fun H locs ls a b d => lv_i2b F.1 F.2.1 hd rfl (k H locs ls a b d)
theorem z_dup (F : z_F cl ats nw TB G own cc nL R0 X) {u : Value} (hd : decode cc pc = .ok (.dup, 1)) (hu : u.category = 1) (k : z_V cl G nL X Q cells slots (pc + 1) lv (u :: u :: st) h) : z_V cl G nL X Q cells slots pc lv (u :: st) h :=
  fun H locs ls a b d => lv_dup F.1 F.2.1 hd ((z_v_cat G u).trans hu) (k H locs ls a b d)
theorem z_pop (F : z_F cl ats nw TB G own cc nL R0 X) {u : Value} (hd : decode cc pc = .ok (.pop, 1)) (hu : u.category = 1) (k : z_V cl G nL X Q cells slots (pc + 1) lv (st) h) : z_V cl G nL X Q cells slots pc lv (u :: st) h :=
  fun H locs ls a b d => lv_pop F.1 F.2.1 hd ((z_v_cat G u).trans hu) (k H locs ls a b d)
theorem z_dup_x1 (F : z_F cl ats nw TB G own cc nL R0 X) {u w : Value} (hd : decode cc pc = .ok (.dup_x1, 1)) (hu : u.category = 1) (hw : w.category = 1) (k : z_V cl G nL X Q cells slots (pc + 1) lv (u :: w :: u :: st) h) : z_V cl G nL X Q cells slots pc lv (u :: w :: st) h :=
  fun H locs ls a b d => lv_dup_x1 F.1 F.2.1 hd ((z_v_cat G u).trans hu) ((z_v_cat G w).trans hw) (k H locs ls a b d)
theorem z_dup_x2 (F : z_F cl ats nw TB G own cc nL R0 X) {u w z : Value} (hd : decode cc pc = .ok (.dup_x2, 1)) (hu : u.category = 1) (hw : w.category = 1) (hz : z.category = 1) (k : z_V cl G nL X Q cells slots (pc + 1) lv (u :: w :: z :: u :: st) h) : z_V cl G nL X Q cells slots pc lv (u :: w :: z :: st) h :=
  fun H locs ls a b d => lv_dup_x2 F.1 F.2.1 hd ((z_v_cat G u).trans hu) ((z_v_cat G w).trans hw) ((z_v_cat G z).trans hz) (k H locs ls a b d)
theorem z_dup2 (F : z_F cl ats nw TB G own cc nL R0 X) {u w : Value} (hd : decode cc pc = .ok (.dup2, 1)) (hu : u.category = 1) (hw : w.category = 1) (k : z_V cl G nL X Q cells slots (pc + 1) lv (u :: w :: u :: w :: st) h) : z_V cl G nL X Q cells slots pc lv (u :: w :: st) h :=
  fun H locs ls a b d => lv_dup2_11 F.1 F.2.1 hd ((z_v_cat G u).trans hu) ((z_v_cat G w).trans hw) (k H locs ls a b d)
theorem z_pop2 (F : z_F cl ats nw TB G own cc nL R0 X) {u : Value} (hd : decode cc pc = .ok (.pop2, 1)) (hu : u.category = 2) (k : z_V cl G nL X Q cells slots (pc + 1) lv (st) h) : z_V cl G nL X Q cells slots pc lv (u :: st) h :=
  fun H locs ls a b d => lv_pop2_2 F.1 F.2.1 hd ((z_v_cat G u).trans hu) (k H locs ls a b d)
theorem z_if_eq (F : z_F cl ats nw TB G own cc nL R0 X) {x : Int32} {off : Int} {tgt : Nat} (hd : decode cc pc = .ok (.ifCond .eq off, 3)) (ht : (pc : Int) + off = (tgt : Int)) (kt : x = 0 → z_V cl G nL X Q cells slots tgt lv st h) (kf : ¬ x = 0 → z_V cl G nL X Q cells slots (pc + 3) lv st h) : z_V cl G nL X Q cells slots pc lv (.int x :: st) h :=
  fun H locs ls a b d => lv_if_eq F.1 F.2.1 hd ht (fun q => kt q H locs ls a b d) (fun q => kf q H locs ls a b d)
theorem z_icmp_eq (F : z_F cl ats nw TB G own cc nL R0 X) {x y : Int32} {off : Int} {tgt : Nat} (hd : decode cc pc = .ok (.if_icmp .eq off, 3)) (ht : (pc : Int) + off = (tgt : Int)) (kt : x = y → z_V cl G nL X Q cells slots tgt lv st h) (kf : ¬ x = y → z_V cl G nL X Q cells slots (pc + 3) lv st h) : z_V cl G nL X Q cells slots pc lv (.int y :: .int x :: st) h :=
  fun H locs ls a b d => lv_icmp_eq F.1 F.2.1 hd ht (fun q => kt q H locs ls a b d) (fun q => kf q H locs ls a b d)
theorem z_if_ne (F : z_F cl ats nw TB G own cc nL R0 X) {x : Int32} {off : Int} {tgt : Nat} (hd : decode cc pc = .ok (.ifCond .ne off, 3)) (ht : (pc : Int) + off = (tgt : Int)) (kt : ¬ x = 0 → z_V cl G nL X Q cells slots tgt lv st h) (kf : x = 0 → z_V cl G nL X Q cells slots (pc + 3) lv st h) : z_V cl G nL X Q cells slots pc lv (.int x :: st) h :=
  fun H locs ls a b d => lv_if_ne F.1 F.2.1 hd ht (fun q => kt q H locs ls a b d) (fun q => kf q H locs ls a b d)
theorem z_icmp_ne (F : z_F cl ats nw TB G own cc nL R0 X) {x y : Int32} {off : Int} {tgt : Nat} (hd : decode cc pc = .ok (.if_icmp .ne off, 3)) (ht : (pc : Int) + off = (tgt : Int)) (kt : ¬ x = y → z_V cl G nL X Q cells slots tgt lv st h) (kf : x = y → z_V cl G nL X Q cells slots (pc + 3) lv st h) : z_V cl G nL X Q cells slots pc lv (.int y :: .int x :: st) h :=
  fun H locs ls a b d => lv_icmp_ne F.1 F.2.1 hd ht (fun q => kt q H locs ls a b d) (fun q => kf q H locs ls a b d)
theorem z_if_lt (F : z_F cl ats nw TB G own cc nL R0 X) {x : Int32} {off : Int} {tgt : Nat} (hd : decode cc pc = .ok (.ifCond .lt off, 3)) (ht : (pc : Int) + off = (tgt : Int)) (kt : x < 0 → z_V cl G nL X Q cells slots tgt lv st h) (kf : ¬ x < 0 → z_V cl G nL X Q cells slots (pc + 3) lv st h) : z_V cl G nL X Q cells slots pc lv (.int x :: st) h :=
  fun H locs ls a b d => lv_if_lt F.1 F.2.1 hd ht (fun q => kt q H locs ls a b d) (fun q => kf q H locs ls a b d)
theorem z_icmp_lt (F : z_F cl ats nw TB G own cc nL R0 X) {x y : Int32} {off : Int} {tgt : Nat} (hd : decode cc pc = .ok (.if_icmp .lt off, 3)) (ht : (pc : Int) + off = (tgt : Int)) (kt : x < y → z_V cl G nL X Q cells slots tgt lv st h) (kf : ¬ x < y → z_V cl G nL X Q cells slots (pc + 3) lv st h) : z_V cl G nL X Q cells slots pc lv (.int y :: .int x :: st) h :=
  fun H locs ls a b d => lv_icmp_lt F.1 F.2.1 hd ht (fun q => kt q H locs ls a b d) (fun q => kf q H locs ls a b d)
theorem z_if_ge (F : z_F cl ats nw TB G own cc nL R0 X) {x : Int32} {off : Int} {tgt : Nat} (hd : decode cc pc = .ok (.ifCond .ge off, 3)) (ht : (pc : Int) + off = (tgt : Int)) (kt : 0 ≤ x → z_V cl G nL X Q cells slots tgt lv st h) (kf : ¬ 0 ≤ x → z_V cl G nL X Q cells slots (pc + 3) lv st h) : z_V cl G nL X Q cells slots pc lv (.int x :: st) h :=
  fun H locs ls a b d => lv_if_ge F.1 F.2.1 hd ht (fun q => kt q H locs ls a b d) (fun q => kf q H locs ls a b d)
theorem z_icmp_ge (F : z_F cl ats nw TB G own cc nL R0 X) {x y : Int32} {off : Int} {tgt : Nat} (hd : decode cc pc = .ok (.if_icmp .ge off, 3)) (ht : (pc : Int) + off = (tgt : Int)) (kt : y ≤ x → z_V cl G nL X Q cells slots tgt lv st h) (kf : ¬ y ≤ x → z_V cl G nL X Q cells slots (pc + 3) lv st h) : z_V cl G nL X Q cells slots pc lv (.int y :: .int x :: st) h :=
  fun H locs ls a b d => lv_icmp_ge F.1 F.2.1 hd ht (fun q => kt q H locs ls a b d) (fun q => kf q H locs ls a b d)
theorem z_if_gt (F : z_F cl ats nw TB G own cc nL R0 X) {x : Int32} {off : Int} {tgt : Nat} (hd : decode cc pc = .ok (.ifCond .gt off, 3)) (ht : (pc : Int) + off = (tgt : Int)) (kt : 0 < x → z_V cl G nL X Q cells slots tgt lv st h) (kf : ¬ 0 < x → z_V cl G nL X Q cells slots (pc + 3) lv st h) : z_V cl G nL X Q cells slots pc lv (.int x :: st) h :=
  fun H locs ls a b d => lv_if_gt F.1 F.2.1 hd ht (fun q => kt q H locs ls a b d) (fun q => kf q H locs ls a b d)
theorem z_icmp_gt (F : z_F cl ats nw TB G own cc nL R0 X) {x y : Int32} {off : Int} {tgt : Nat} (hd : decode cc pc = .ok (.if_icmp .gt off, 3)) (ht : (pc : Int) + off = (tgt : Int)) (kt : y < x → z_V cl G nL X Q cells slots tgt lv st h) (kf : ¬ y < x → z_V cl G nL X Q cells slots (pc + 3) lv st h) : z_V cl G nL X Q cells slots pc lv (.int y :: .int x :: st) h :=
  fun H locs ls a b d => lv_icmp_gt F.1 F.2.1 hd ht (fun q => kt q H locs ls a b d) (fun q => kf q H locs ls a b d)
theorem z_if_le (F : z_F cl ats nw TB G own cc nL R0 X) {x : Int32} {off : Int} {tgt : Nat} (hd : decode cc pc = .ok (.ifCond .le off, 3)) (ht : (pc : Int) + off = (tgt : Int)) (kt : x ≤ 0 → z_V cl G nL X Q cells slots tgt lv st h) (kf : ¬ x ≤ 0 → z_V cl G nL X Q cells slots (pc + 3) lv st h) : z_V cl G nL X Q cells slots pc lv (.int x :: st) h :=
  fun H locs ls a b d => lv_if_le F.1 F.2.1 hd ht (fun q => kt q H locs ls a b d) (fun q => kf q H locs ls a b d)
theorem z_icmp_le (F : z_F cl ats nw TB G own cc nL R0 X) {x y : Int32} {off : Int} {tgt : Nat} (hd : decode cc pc = .ok (.if_icmp .le off, 3)) (ht : (pc : Int) + off = (tgt : Int)) (kt : x ≤ y → z_V cl G nL X Q cells slots tgt lv st h) (kf : ¬ x ≤ y → z_V cl G nL X Q cells slots (pc + 3) lv st h) : z_V cl G nL X Q cells slots pc lv (.int y :: .int x :: st) h :=
  fun H locs ls a b d => lv_icmp_le F.1 F.2.1 hd ht (fun q => kt q H locs ls a b d) (fun q => kf q H locs ls a b d)
theorem z_goto (F : z_F cl ats nw TB G own cc nL R0 X) {off : Int} {tgt : Nat} (hd : decode cc pc = .ok (.goto off, 3)) (ht : (pc : Int) + off = (tgt : Int)) (k : z_V cl G nL X Q cells slots tgt lv st h) : z_V cl G nL X Q cells slots pc lv st h :=
  fun H locs ls a b d => lv_goto F.1 F.2.1 hd ht (k H locs ls a b d)
theorem z_ifnull (F : z_F cl ats nw TB G own cc nL R0 X) {u : Value} {off : Int} {tgt : Nat} (hd : decode cc pc = .ok (.ifnull off, 3)) (ht : (pc : Int) + off = (tgt : Int)) (hu : z_isR u = true) (kt : u = .null → z_V cl G nL X Q cells slots tgt lv st h) (kf : ¬ u = .null → z_V cl G nL X Q cells slots (pc + 3) lv st h) : z_V cl G nL X Q cells slots pc lv (u :: st) h :=
  fun H locs ls a b d => by
    cases u <;> first | exact Bool.noConfusion (show false = true from hu) | exact lv_ifnullN F.1 F.2.1 hd ht (kt rfl H locs ls a b d) | exact lv_ifnull F.1 F.2.1 hd (kf (fun q => by cases q) H locs ls a b d)
theorem z_ifnonnull (F : z_F cl ats nw TB G own cc nL R0 X) {u : Value} {off : Int} {tgt : Nat} (hd : decode cc pc = .ok (.ifnonnull off, 3)) (ht : (pc : Int) + off = (tgt : Int)) (hu : z_isR u = true) (kt : ¬ u = .null → z_V cl G nL X Q cells slots tgt lv st h) (kf : u = .null → z_V cl G nL X Q cells slots (pc + 3) lv st h) : z_V cl G nL X Q cells slots pc lv (u :: st) h :=
  fun H locs ls a b d => by
    cases u <;> first | exact Bool.noConfusion (show false = true from hu) | exact lv_ifnonnullN F.1 F.2.1 hd (kf rfl H locs ls a b d) | exact lv_ifnonnull F.1 F.2.1 hd ht (kt (fun q => by cases q) H locs ls a b d)
theorem z_tableIn (F : z_F cl ats nw TB G own cc nL R0 X) {x : Int32} {dflt lo hi off : Int} {offs : Array Int} {len tgt : Nat} (hd : decode cc pc = .ok (.tableswitch dflt lo hi offs, len)) (h1 : ¬ x.toInt < lo) (h2 : ¬ hi < x.toInt) (ho : offs[(x.toInt - lo).toNat]? = some off) (ht : (pc : Int) + off = (tgt : Int)) (k : z_V cl G nL X Q cells slots tgt lv st h) : z_V cl G nL X Q cells slots pc lv (.int x :: st) h :=
  fun H locs ls a b d => lv_tableIn F.1 F.2.1 hd h1 h2 ho ht (k H locs ls a b d)
theorem z_tableOut (F : z_F cl ats nw TB G own cc nL R0 X) {x : Int32} {dflt lo hi : Int} {offs : Array Int} {len tgt : Nat} (hd : decode cc pc = .ok (.tableswitch dflt lo hi offs, len)) (h1 : x.toInt < lo ∨ hi < x.toInt) (ht : (pc : Int) + dflt = (tgt : Int)) (k : z_V cl G nL X Q cells slots tgt lv st h) : z_V cl G nL X Q cells slots pc lv (.int x :: st) h :=
  fun H locs ls a b d => lv_tableOut F.1 F.2.1 hd h1 ht (k H locs ls a b d)
theorem z_lookup (F : z_F cl ats nw TB G own cc nL R0 X) {x : Int32} {dflt off : Int} {ps : Array (Int × Int)} {len tgt : Nat} (hd : decode cc pc = .ok (.lookupswitch dflt ps, len)) (hp : (ps.toList.zip (ps.toList.drop 1)).all (fun (a, next) => a.1 < next.1) = true) (ho : Op.lookupswitch.offset ps.toList dflt x.toInt = off) (ht : (pc : Int) + off = (tgt : Int)) (k : z_V cl G nL X Q cells slots tgt lv st h) : z_V cl G nL X Q cells slots pc lv (.int x :: st) h :=
  fun H locs ls a b d => lv_lookup F.1 F.2.1 hd hp ho ht (k H locs ls a b d)

end ZR
end
section
section ZR
variable {cl : List vw_C} {ats : List FieldType} {nw : State → Prop} {TB : List Cond} {G : z_G} {own : String} {cc : ByteArray} {nL : Nat} {R0 : Room} {X : z_X} {Q : State → Prop} {cells slots pc : Nat} {lv : List (Nat × Value)} {st : List Value} {h : z_H}
/-- a field by its number in the constant pool: class ci of cl, field j -/
def z_FA (cl : List vw_C) (TB : List Cond) (own : String) (idx ci j : Nat) : Prop :=
  ∃ q : vw_C, cl[ci]? = some q ∧ Cond.fieldLink own idx q.1 (q.2.1 j).2.1 (q.2.1 j).2.2.1 ∈ TB ∧ (∀ w ∈ u_ws q.1 q.2.1 q.2.2, w ∈ TB) ∧ j < q.2.2 ∧ (q.2.1 j).1 = q.1
theorem z_getf (F : z_F cl ats nw TB G own cc nL R0 X) {idx ci j k : Nat} {fs : List Value} {v : Value} (A : z_FA cl TB own idx ci j) (hd : decode cc pc = .ok (.getfield idx, 3)) (hk : h[k]? = some (.inr (ci, fs))) (hv : fs[j]? = some v)
    (kk : z_V cl G nL X Q cells slots (pc + 3) lv (v :: st) h) : z_V cl G nL X Q cells slots pc lv (.ref k :: st) h := by
  intro H locs ls r b d
  obtain ⟨⟨C, T, N⟩, hc, hl, hin, hj, hq⟩ := A
  obtain ⟨i, rfl⟩ := r.obj hk hc
  refine va_get (D := G.1) (ci := ci) (v := z_v G v) (fs := fs.map (z_v G)) (C := C) (T := T) (N := N) F.1 F.2.1 F.wd hin F.own F.kn r.2.2 i (z_ws_at hk) hc j hj (F.wd _ hl) (fun x h9 => ?_) ?_ hd (kk H locs ls r b d)
  · rw [← show (T j).1 = C from hq]; exact h9
  · rw [List.getElem?_map, hv]; rfl
theorem z_nar {ty : FieldType} {v : Value} (hn : narrow ty v = v) : narrow ty (z_v G v) = z_v G v := by
  cases v <;> first | exact hn | (cases ty <;> rfl)
theorem z_fit {ty : FieldType} {v : Value} (hn : fits ty v = true) : fits ty (z_v G v) = true := by
  cases v <;> first | exact hn | (cases ty <;> first | rfl | exact hn)
/-- what a store wants of the fields' table beside z_FA -/
def z_FT (cl : List vw_C) (ci : Nat) : Prop :=
  ∃ q : vw_C, cl[ci]? = some q ∧ ∃ ty0 : Nat → FieldType, (∀ k, k < q.2.2 → parseFieldDescriptor (q.2.1 k).2.2.1 = some (ty0 k)) ∧ (∀ a, a < q.2.2 → ∀ b, b < q.2.2 → a ≠ b → (q.2.1 a).2.1 ≠ (q.2.1 b).2.1)
def z_FD (cl : List vw_C) (ci j : Nat) (fin : Bool) (ty : FieldType) : Prop := ∃ q : vw_C, cl[ci]? = some q ∧ (q.2.1 j).2.2.2 = fin ∧ parseFieldDescriptor (q.2.1 j).2.2.1 = some ty
/-- the heap behind a store into an object -/
theorem z_R.put {k ci j : Nat} {fs : List Value} {v : Value} {H H1 : Heap} {q : vw_C} {cell : Cell} {iS : Nat} (r : z_R cl G h H) (hk : h[k + 1]? = some (.inr (ci, fs))) (hc : cl[ci]? = some q) (hj : j < fs.length) (hcell : H[z_ad G (k + 1)]? = some cell)
    (hob : t_OB (z_ad G (k + 1)) (G.1.1 ci) q.2.2 (G.1.2 ci) H1 (updV (vp_V (fs.map (z_v G))) j (z_v G v))) (hz : H1.size = H.size) (ho : ∀ q, q ≠ z_ad G (k + 1) → H1[q]? = H[q]?) : z_R cl G (h.set (k + 1) (.inr (ci, fs.set j v))) H1 := by
  refine ⟨?_, by rw [List.length_set, hz]; exact r.2.1, ?_⟩
  · rw [List.getElem?_set_ne (by omega)]; exact r.1
  · rw [z_ws_set]
    refine va_P.set r.2.2 (z_D G h) (z_ws_at hk) ⟨q, hc, ?_⟩ ho
    refine t_OB.to hob (fun i _ => ?_)
    rw [List.map_set]
    exact vp_updV_set (by rw [List.length_map]; exact hj) _ i
theorem z_putf (F : z_F cl ats nw TB G own cc nL R0 X) {idx ci j k : Nat} {fs : List Value} {v : Value} {ty : FieldType} (A : z_FA cl TB own idx ci j) (B : z_FT cl ci) (E : z_FD cl ci j false ty) (hd : decode cc pc = .ok (.putfield idx, 3)) (hk : h[k]? = some (.inr (ci, fs))) (hj2 : j < fs.length) (hn : narrow ty v = v) (hf : fits ty v = true)
    (kk : z_V cl G nL X Q cells slots (pc + 3) lv st (h.set k (.inr (ci, fs.set j v)))) : z_V cl G nL X Q cells slots pc lv (v :: .ref k :: st) h := by
  intro H locs ls r b d
  obtain ⟨⟨C, T, N⟩, hc, hl, hin, hj, hq⟩ := A
  obtain ⟨q2, hc2, ty0, hty, hnm⟩ := B
  obtain ⟨q3, hc3, hfin, hd3⟩ := E
  cases hc.symm.trans hc2
  cases hc.symm.trans hc3
  obtain ⟨i, rfl⟩ := r.obj hk hc
  have hap := va_apart (own := own) F.wd hin ty0 hty hnm F.kn hc
  obtain ⟨rr, h1, cell, q1, q2, q3, q4⟩ := r.2.2 i _ (z_ws_at hk)
  cases h1.symm.trans hc
  obtain ⟨hS, hfc, kC, hkC, hkind⟩ := F.kn.1 ci _ hc
  obtain ⟨cf, kf, fi, f, hi, hsl⟩ := hS j hj
  have hlay := F.wd _ (hin _ (u_in_lay hj))
  unfold u_lay at hlay
  rw [if_neg (by rw [hfin]; decide)] at hlay
  have hi2 : (z_Xs X).fieldFound? C (T j).2.1 (T j).2.2.1 = some (cf, kf, fi, f) := by rw [← show (T j).1 = C from hq]; exact hi
  have hst := (u_facts hfc hkC (u_lays F.wd hin hj) hi).1
  have h6 := u_store hfc hkC hkind hlay hi hd3 (z_nar (G := G) hn) (z_fit (G := G) hf)
  refine W.putK F.1 F.2.1 (f := f) ⟨F.own, F.wd _ hl, ⟨_, _, _, hi2⟩, hst⟩ (by rw [q2]; exact h6) q1 q3 (by rw [hsl]; exact k2_hasslot (q4 j hj)) rfl rfl hd fun H' e1 e2 e3 => ?_
  rw [hsl] at e1 ⊢
  exact kk H' _ ls (r.put (iS := 0) hk hc hj2 q1 ⟨_, e1, q2, q3, t_set q4 hap hj _⟩ e2 e3) (b.put e2 e3 ((z_D G h).2 i _ (z_ws_at hk))) d
theorem z_putF (F : z_F cl ats nw TB G own cc nL R0 X) {idx ci j k : Nat} {fs : List Value} {v : Value} {ty : FieldType} (A : z_FA cl TB own idx ci j) (B : z_FT cl ci) (E : z_FD cl ci j true ty) (hO : ∃ q : vw_C, cl[ci]? = some q ∧ q.1 = own) (hI : X.2.2.2.2.2.2.2.2.1.name = "<init>") (hd : decode cc pc = .ok (.putfield idx, 3)) (hk : h[k]? = some (.inr (ci, fs))) (hj2 : j < fs.length) (hn : narrow ty v = v) (hf : fits ty v = true)
    (kk : z_V cl G nL X Q cells slots (pc + 3) lv st (h.set k (.inr (ci, fs.set j v)))) : z_V cl G nL X Q cells slots pc lv (v :: .ref k :: st) h := by
  intro H locs ls r b d
  obtain ⟨⟨C, T, N⟩, hc, hl, hin, hj, hq⟩ := A
  obtain ⟨q2, hc2, ty0, hty, hnm⟩ := B
  obtain ⟨q3, hc3, hfin, hd3⟩ := E
  obtain ⟨q5, hc5, hown5⟩ := hO
  cases hc.symm.trans hc2
  cases hc.symm.trans hc3
  cases hc.symm.trans hc5
  obtain ⟨i, rfl⟩ := r.obj hk hc
  have hap := va_apart (own := own) F.wd hin ty0 hty hnm F.kn hc
  obtain ⟨rr, h1, cell, q1, q2, q3, q4⟩ := r.2.2 i _ (z_ws_at hk)
  cases h1.symm.trans hc
  obtain ⟨hS, hfc, kC, hkC, hkind⟩ := F.kn.1 ci _ hc
  obtain ⟨cf, kf, fi, f, hi, hsl⟩ := hS j hj
  have hlay := F.wd _ (hin _ (u_in_lay hj))
  unfold u_lay at hlay
  rw [if_pos hfin] at hlay
  have hi2 : (z_Xs X).fieldFound? C (T j).2.1 (T j).2.2.1 = some (cf, kf, fi, f) := by rw [← show (T j).1 = C from hq]; exact hi
  have hst := (u_facts hfc hkC (u_lays F.wd hin hj) hi).1
  have hcf : (z_Xm X).cls = cf := by
    obtain ⟨_, _, c', _, _, _, -, -, hf', -, -, -, hown2, -⟩ := Cond.laysFinal_spec hlay
    have e1 : c' = cf := by have := hi.symm.trans hf'; simp at this; exact this.1.symm
    rw [show (T j).1 = C from hq, show C = own from hown5] at hown2
    rw [← e1]; exact Option.some.inj (F.own.symm.trans hown2)
  have h6 := u_fits hfc hkC hkind (Or.inr hlay) hi hd3 (z_nar (G := G) hn) (z_fit (G := G) hf)
  refine W.putFinK F.1 F.2.1 F.own (F.wd _ hl) hi2 hst hcf hI (by rw [q2]; exact h6) q1 q3 (by rw [hsl]; exact k2_hasslot (q4 j hj)) rfl rfl hd fun H' e1 e2 e3 => ?_
  rw [hsl] at e1 ⊢
  exact kk H' _ ls (r.put (iS := 0) hk hc hj2 q1 ⟨_, e1, q2, q3, t_set q4 hap hj _⟩ e2 e3) (b.put e2 e3 ((z_D G h).2 i _ (z_ws_at hk))) d
end ZR
end
section
section ZR
variable {cl : List vw_C} {ats : List FieldType} {nw : State → Prop} {TB : List Cond} {G : z_G} {own : String} {cc : ByteArray} {nL : Nat} {R0 : Room} {X : z_X} {Q : State → Prop} {cells slots pc : Nat} {lv : List (Nat × Value)} {st : List Value} {h : z_H}
theorem z_ty {t : Nat} {ty : FieldType} (ht : ats[t]? = some ty) : (z_tys G ats)[t]? = some (G.2.1 t, ty) := by
  unfold z_tys
  rw [List.getElem?_mapIdx, ht]
  rfl
theorem z_iald (F : z_F cl ats nw TB G own cc nL R0 X) {k t n : Nat} {f : Nat → Int32} {i : Int32} (ht : ats[t]? = some .int) (hd : decode cc pc = .ok (.iaload, 1)) (hk : h[k]? = some (.inl (t, n, .inl f))) (hin : vp_in i n) (kk : z_V cl G nL X Q cells slots (pc + 1) lv (.int (f i.toNatClampNeg) :: st) h) : z_V cl G nL X Q cells slots pc lv (.int i :: .ref k :: st) h := by
  intro H locs ls r b d
  obtain ⟨j, rfl⟩ := r.arr hk
  exact va_iald F.1 F.2.1 F.kn r.2.2 j t (z_ws_at hk) (z_ty ht) hin hd (kk H locs ls r b d)
theorem z_bald (F : z_F cl ats nw TB G own cc nL R0 X) {k t n : Nat} {f : Nat → Int32} {i : Int32} (ht : ats[t]? = some .byte) (hd : decode cc pc = .ok (.baload, 1)) (hk : h[k]? = some (.inl (t, n, .inl f))) (hin : vp_in i n) (kk : z_V cl G nL X Q cells slots (pc + 1) lv (.int (f i.toNatClampNeg) :: st) h) : z_V cl G nL X Q cells slots pc lv (.int i :: .ref k :: st) h := by
  intro H locs ls r b d
  obtain ⟨j, rfl⟩ := r.arr hk
  exact va_bald F.1 F.2.1 F.kn r.2.2 j t (z_ws_at hk) (z_ty ht) hin hd (kk H locs ls r b d)
theorem z_zald (F : z_F cl ats nw TB G own cc nL R0 X) {k t n : Nat} {f : Nat → Int32} {i : Int32} (ht : ats[t]? = some .boolean) (hd : decode cc pc = .ok (.baload, 1)) (hk : h[k]? = some (.inl (t, n, .inl f))) (hin : vp_in i n) (kk : z_V cl G nL X Q cells slots (pc + 1) lv (.int (f i.toNatClampNeg) :: st) h) : z_V cl G nL X Q cells slots pc lv (.int i :: .ref k :: st) h := by
  intro H locs ls r b d
  obtain ⟨j, rfl⟩ := r.arr hk
  exact va_zald F.1 F.2.1 F.kn r.2.2 j t (z_ws_at hk) (z_ty ht) hin hd (kk H locs ls r b d)
theorem z_lald (F : z_F cl ats nw TB G own cc nL R0 X) {k t n : Nat} {f : Nat → Int64} {i : Int32} (ht : ats[t]? = some .long) (hd : decode cc pc = .ok (.laload, 1)) (hk : h[k]? = some (.inl (t, n, .inr (.inl f)))) (hin : vp_in i n) (kk : z_V cl G nL X Q cells slots (pc + 1) lv (.long (f i.toNatClampNeg) :: st) h) : z_V cl G nL X Q cells slots pc lv (.int i :: .ref k :: st) h := by
  intro H locs ls r b d
  obtain ⟨j, rfl⟩ := r.arr hk
  exact va_lald F.1 F.2.1 F.kn r.2.2 j t (z_ws_at hk) (z_ty ht) hin hd (kk H locs ls r b d)
theorem z_rfv (x : Option Nat) : va_rf (x.map (z_ad G)) = z_v G (va_rf x) := by cases x <;> rfl
theorem z_aald (F : z_F cl ats nw TB G own cc nL R0 X) {k t n : Nat} {C : String} {f : Nat → Option Nat} {i : Int32} (ht : ats[t]? = some (.object C)) (hd : decode cc pc = .ok (.aaload, 1)) (hk : h[k]? = some (.inl (t, n, .inr (.inr (.inr (.inr f)))))) (hin : vp_in i n) (kk : z_V cl G nL X Q cells slots (pc + 1) lv (va_rf (f i.toNatClampNeg) :: st) h) : z_V cl G nL X Q cells slots pc lv (.int i :: .ref k :: st) h := by
  intro H locs ls r b d
  obtain ⟨j, rfl⟩ := r.arr hk
  refine va_aldq F.1 F.2.1 F.kn r.2.2 j t (z_ws_at hk) (z_ty ht) hin hd ?_
  have := kk H locs ls r b d
  rw [List.map_cons, ← z_rfv] at this
  exact this
theorem z_alen (F : z_F cl ats nw TB G own cc nL R0 X) {k t n : Nat} {ty : FieldType} {x : (Nat → Int32) ⊕ (Nat → Int64) ⊕ (Nat → UInt32) ⊕ (Nat → UInt64) ⊕ (Nat → Option Nat)} {v : Int32} (ht : ats[t]? = some ty) (hd : decode cc pc = .ok (.arraylength, 1)) (hk : h[k]? = some (.inl (t, n, x))) (hv : Int32.ofNat n = v) (kk : z_V cl G nL X Q cells slots (pc + 1) lv (.int v :: st) h) : z_V cl G nL X Q cells slots pc lv (.ref k :: st) h := by
  intro H locs ls r b d
  obtain ⟨j, rfl⟩ := r.arr hk
  refine va_alen (x := z_o G (n, x)) F.1 F.2.1 F.kn r.2.2 j t (z_ws_at hk) (z_ty ht) (v := v) ?_ hd (kk H locs ls r b d)
  rw [← hv]
  rcases x with f | f | f | f | f <;> rfl
/-- the heap behind a store into an array -/
theorem z_R.puta {k t : Nat} {a a' : vp_A} {H H1 : Heap} (r : z_R cl G h H) (hk : h[k + 1]? = some (.inl (t, a))) (hcell : H1[z_ad G (k + 1)]? = some (vp_cell (G.2.1 t) (z_o G a'))) (hz : H1.size = H.size) (ho : ∀ q, q ≠ z_ad G (k + 1) → H1[q]? = H[q]?) : z_R cl G (h.set (k + 1) (.inl (t, a'))) H1 := by
  refine ⟨?_, by rw [List.length_set, hz]; exact r.2.1, ?_⟩
  · rw [List.getElem?_set_ne (by omega)]; exact r.1
  · rw [z_ws_set]
    exact va_P.set r.2.2 (z_D G h) (z_ws_at hk) hcell ho
theorem z_upd (f : Nat → Int32) (k : Nat) (x : Int32) : updV (fun j => Value.int (f j)) k (.int x) = fun j => Value.int (upd f k x j) := by
  funext q
  by_cases hq : q = k <;> simp [updV, upd, hq]
theorem z_updL (f : Nat → Int64) (k : Nat) (x : Int64) : updV (fun j => Value.long (f j)) k (.long x) = fun j => Value.long (vp_updL f k x j) := by
  funext q
  by_cases hq : q = k <;> simp [updV, vp_updL, hq]
theorem z_arrI (cA : ClassId) (n k : Nat) (f : Nat → Int32) (x : Int32) : some ((vp_cell cA (z_o G (n, .inl f))).setSlot k (.int x)) = some (vp_cell cA (z_o G (n, .inl (upd f k x)))) := by
  show some (Cell.setSlot (arrV cA n (fun j => Value.int (f j))) k (.int x)) = some (arrV cA n (fun j => Value.int (upd f k x j)))
  rw [arrV_store, z_upd]
theorem z_arrL (cA : ClassId) (n k : Nat) (f : Nat → Int64) (x : Int64) : some ((vp_cell cA (z_o G (n, .inr (.inl f)))).setSlot k (.long x)) = some (vp_cell cA (z_o G (n, .inr (.inl (vp_updL f k x))))) := by
  show some (Cell.setSlot (arrV cA n (fun j => Value.long (f j))) k (.long x)) = some (arrV cA n (fun j => Value.long (vp_updL f k x j)))
  rw [arrV_store, z_updL]
theorem z_arrQ (cA : ClassId) (n k u : Nat) (f : Nat → Option Nat) : some ((vp_cell cA (z_o G (n, .inr (.inr (.inr (.inr f)))))).setSlot k (.ref (z_ad G u))) = some (vp_cell cA (z_o G (n, .inr (.inr (.inr (.inr (va_up f k (some u)))))))) := by
  show some (Cell.setSlot (arrV cA n (fun j => va_rf ((f j).map (z_ad G)))) k (.ref (z_ad G u))) = some (arrV cA n (fun j => va_rf ((va_up f k (some u) j).map (z_ad G))))
  rw [arrV_store]
  congr 2
  funext q
  by_cases hq : q = k <;> simp [updV, va_up, va_rf, hq]
theorem z_iast (F : z_F cl ats nw TB G own cc nL R0 X) {k t n : Nat} {f : Nat → Int32} {i x : Int32} (ht : ats[t]? = some .int) (hd : decode cc pc = .ok (.iastore, 1)) (hk : h[k]? = some (.inl (t, n, .inl f))) (hin : vp_in i n) (kk : z_V cl G nL X Q cells slots (pc + 1) lv st (h.set k (.inl (t, n, .inl (upd f i.toNatClampNeg x))))) : z_V cl G nL X Q cells slots pc lv (.int x :: .int i :: .ref k :: st) h := by
  intro H locs ls r b d
  obtain ⟨j, rfl⟩ := r.arr hk
  have hc := r.2.2 j _ (z_ws_at hk)
  refine W.iast F.1 F.2.1 hc ((F.kn.2 t _ (z_ty ht)).1 n (fun j => .int (f j))) (fun q => by cases q) (by show ¬ (i < 0 ∨ (arrV _ _ _).slots.size ≤ _); rw [arrV_size]; exact hin) rfl rfl hd fun H1 e z oq => ?_
  refine kk H1 _ ls (r.puta hk ?_ z oq) (b.put z oq ((z_D G h).2 j _ (z_ws_at hk))) d
  exact e.trans (z_arrI _ _ _ _ _)
theorem z_bast (F : z_F cl ats nw TB G own cc nL R0 X) {k t n : Nat} {f : Nat → Int32} {i x : Int32} (ht : ats[t]? = some .byte) (hd : decode cc pc = .ok (.bastore, 1)) (hk : h[k]? = some (.inl (t, n, .inl f))) (hin : vp_in i n) (kk : z_V cl G nL X Q cells slots (pc + 1) lv st (h.set k (.inl (t, n, .inl (upd f i.toNatClampNeg x.toInt8.toInt32))))) : z_V cl G nL X Q cells slots pc lv (.int x :: .int i :: .ref k :: st) h := by
  intro H locs ls r b d
  obtain ⟨j, rfl⟩ := r.arr hk
  have hc := r.2.2 j _ (z_ws_at hk)
  refine W.bast F.1 F.2.1 hc ((F.kn.2 t _ (z_ty ht)).1 n (fun j => .int (f j))) (fun q => by cases q) (by show ¬ (i < 0 ∨ (arrV _ _ _).slots.size ≤ _); rw [arrV_size]; exact hin) rfl rfl hd fun H1 e z oq => ?_
  refine kk H1 _ ls (r.puta hk ?_ z oq) (b.put z oq ((z_D G h).2 j _ (z_ws_at hk))) d
  exact e.trans (z_arrI _ _ _ _ _)
theorem z_zast (F : z_F cl ats nw TB G own cc nL R0 X) {k t n : Nat} {f : Nat → Int32} {i x : Int32} (ht : ats[t]? = some .boolean) (hd : decode cc pc = .ok (.bastore, 1)) (hk : h[k]? = some (.inl (t, n, .inl f))) (hin : vp_in i n) (kk : z_V cl G nL X Q cells slots (pc + 1) lv st (h.set k (.inl (t, n, .inl (upd f i.toNatClampNeg (x &&& 1)))))) : z_V cl G nL X Q cells slots pc lv (.int x :: .int i :: .ref k :: st) h := by
  intro H locs ls r b d
  obtain ⟨j, rfl⟩ := r.arr hk
  have hc := r.2.2 j _ (z_ws_at hk)
  refine W.zast F.1 F.2.1 hc ((F.kn.2 t _ (z_ty ht)).1 n (fun j => .int (f j))) (fun q => by cases q) (by show ¬ (i < 0 ∨ (arrV _ _ _).slots.size ≤ _); rw [arrV_size]; exact hin) rfl rfl hd fun H1 e z oq => ?_
  refine kk H1 _ ls (r.puta hk ?_ z oq) (b.put z oq ((z_D G h).2 j _ (z_ws_at hk))) d
  exact e.trans (z_arrI _ _ _ _ _)
theorem z_last (F : z_F cl ats nw TB G own cc nL R0 X) {k t n : Nat} {f : Nat → Int64} {i : Int32} {x : Int64} (ht : ats[t]? = some .long) (hd : decode cc pc = .ok (.lastore, 1)) (hk : h[k]? = some (.inl (t, n, .inr (.inl f)))) (hin : vp_in i n) (kk : z_V cl G nL X Q cells slots (pc + 1) lv st (h.set k (.inl (t, n, .inr (.inl (vp_updL f i.toNatClampNeg x)))))) : z_V cl G nL X Q cells slots pc lv (.long x :: .int i :: .ref k :: st) h := by
  intro H locs ls r b d
  obtain ⟨j, rfl⟩ := r.arr hk
  have hc := r.2.2 j _ (z_ws_at hk)
  refine W.last F.1 F.2.1 hc ((F.kn.2 t _ (z_ty ht)).1 n (fun j => .long (f j))) (fun q => by cases q) (by show ¬ (i < 0 ∨ (arrV _ _ _).slots.size ≤ _); rw [arrV_size]; exact hin) rfl rfl hd fun H1 e z oq => ?_
  refine kk H1 _ ls (r.puta hk ?_ z oq) (b.put z oq ((z_D G h).2 j _ (z_ws_at hk))) d
  exact e.trans (z_arrL _ _ _ _ _)
theorem z_aast (F : z_F cl ats nw TB G own cc nL R0 X) {k t n u ci : Nat} {f : Nat → Option Nat} {i : Int32} {q : vw_C} {fs : List Value} (ht : ats[t]? = some (.object q.1)) (hc : cl[ci]? = some q) (hd : decode cc pc = .ok (.aastore, 1)) (hk : h[k]? = some (.inl (t, n, .inr (.inr (.inr (.inr f)))))) (hu : h[u]? = some (.inr (ci, fs))) (hin : vp_in i n) (kk : z_V cl G nL X Q cells slots (pc + 1) lv st (h.set k (.inl (t, n, .inr (.inr (.inr (.inr (va_up f i.toNatClampNeg (some u))))))))) : z_V cl G nL X Q cells slots pc lv (.ref u :: .int i :: .ref k :: st) h := by
  intro H locs ls r b d
  obtain ⟨j, rfl⟩ := r.arr hk
  obtain ⟨u, rfl⟩ := r.obj hu hc
  have hlt : i.toNatClampNeg < n := Nat.not_le.mp fun q => hin (Or.inr q)
  have h0 : ¬ i < 0 := fun q => hin (Or.inl q)
  have hca := r.2.2 j _ (z_ws_at hk)
  obtain ⟨r', hr', cellV, g1, g2, g3, -⟩ := r.2.2 u _ (z_ws_at hu)
  have hcls := (F.kn.1 ci q hc).2
  obtain ⟨kA, comp, k1, k2, k3, -⟩ := (F.kn.2 t _ (z_ty ht)).2
  have hcomp : comp = G.1.1 ci := Option.some.inj (k3.symm.trans hcls.1)
  subst hcomp
  obtain ⟨kC, hkC, -⟩ := id hcls.2
  refine W.aast F.1 F.2.1 hca (fun q h => by cases h) (fun h => by cases h) k1 k2 rfl hkC ⟨h0, by show _ < (arrV _ _ _).slots.size; rw [arrV_size]; exact hlt⟩ g1 (fun q h => by rw [g3] at h; cases h) (by rw [g2]; exact hkC) (by rw [g2]; exact va_assign hcls) rfl rfl hd fun H1 e z oq => ?_
  refine kk H1 _ ls (r.puta hk ?_ z oq) (b.put z oq ((z_D G h).2 j _ (z_ws_at hk))) d
  exact e.trans (z_arrQ (G := G) _ _ _ (u + 1) f)
/-- the heap behind a making -/
theorem z_R.push {H H1 : Heap} {e : z_E} (r : z_R cl G h H) (hn : va_at G.1 cl (z_ad G h.length, z_c G e) H1) (hz : H1.size = H.size + 1) (ho : ∀ q, q < H.size → H1[q]? = H[q]?) : z_R cl G (h ++ [e]) H1 := by
  refine ⟨?_, ?_, ?_⟩
  · rw [List.getElem?_append_left r.pos]; exact r.1
  · rw [hz, List.length_append]; have := r.2.1; simp only [List.length_cons, List.length_nil]; omega
  · rw [z_ws_push G h e r.pos]
    refine (va_P.kept r.2.2 (fun k x hx => ho x.1 ((r.2.2 k x hx).lt))).app (fun k x hx => ?_)
    have hk : k < 1 := (List.getElem?_eq_some_iff.mp hx).1
    rw [show k = 0 by omega] at hx
    cases hx
    exact hn
theorem z_R.top {H : Heap} (r : z_R cl G h H) : z_ad G h.length = H.size := by
  have h1 := r.pos
  have h2 := r.2.1
  cases hl : h.length with
  | zero => omega
  | succ n => rw [hl] at h2; show G.2.2.2 + n = H.size; omega
theorem z_Sp {H0 H H1 : Heap} {A : Nat → Prop} {locs : List Loc} (b : va_S A H0 H locs) (hz : H1.size = H.size + 1) (ho : ∀ q, q < H.size → H1[q]? = H[q]?) : va_S A H0 H1 locs :=
  ⟨Nat.le_trans b.1 (by omega), fun x h1 h2 => (ho x (Nat.lt_of_lt_of_le h1 b.1)).trans (b.2.1 x h1 h2), b.2.2⟩
theorem z_vV (fs : List Value) (j : Nat) : vp_V (fs.map (z_v G)) j = z_v G (vp_V fs j) := by
  unfold vp_V
  rw [List.getD_eq_getElem?_getD, List.getD_eq_getElem?_getD, List.getElem?_map]
  cases fs[j]? <;> rfl
theorem z_dv (t : FieldType) : z_v G (defaultValue t) = defaultValue t := by cases t <;> rfl
/-- a class that may be made -/
def z_FN (cl : List vw_C) (TB : List Cond) (own : String) (idx ci : Nat) (fs : List Value) (N : Nat) : Prop :=
  ∃ q : vw_C, cl[ci]? = some q ∧ q.2.2 = N ∧ Cond.classLink own idx q.1 ∈ TB ∧ Cond.instantiable q.1 q.2.2 ∈ TB ∧ Cond.initialized q.1 ∈ TB ∧ (∀ w ∈ u_ws q.1 q.2.1 q.2.2, w ∈ TB) ∧ ∃ ty0 : Nat → FieldType, (∀ k, k < q.2.2 → parseFieldDescriptor (q.2.1 k).2.2.1 = some (ty0 k)) ∧ ∀ j, j < q.2.2 → defaultValue (ty0 j) = vp_V fs j
theorem z_new (F : z_F cl ats nw TB G own cc nL R0 X) {idx ci N : Nat} {fs : List Value} (A : z_FN cl TB own idx ci fs N) (hd : decode cc pc = .ok (.new idx, 3)) (hcells : cells + 1 ≤ R0.cells) (hslots : slots + N ≤ R0.slots)
    (kk : z_V cl G nL X Q (cells + 1) (slots + N) (pc + 3) lv (.ref h.length :: st) (h ++ [.inr (ci, fs)])) : z_V cl G nL X Q cells slots pc lv st h := by
  intro H locs ls r b d
  obtain ⟨⟨C, T, N'⟩, hc, hN, hl, hinst, hini, hin, ty0, hty, hfs⟩ := A
  have hN : N' = N := hN
  subst hN
  have hKn := F.kn.1 ci _ hc
  refine W.newcK F.1 F.2.1 F.own (F.wd _ hl) (F.wd _ hinst) (F.wd _ hini) rfl hd (by rw [F.room]; exact hcells) (by rw [F.room]; exact hslots) hKn.2.1 r.top.symm fun H1 kC hkC e1 z1 o1 => ?_
  have z2 : H1.size = H.size + 1 := by rw [z1, r.top]
  have o2 : ∀ q, q < H.size → H1[q]? = H[q]? := fun q hq => o1 q (by rw [r.top]; exact hq)
  exact kk H1 locs ls (r.push ⟨_, hc, (u_born ty0 F.wd hin hKn hkC e1 hty).to (fun j hj => by rw [z_vV, ← hfs j hj, z_dv])⟩ z2 o2) (z_Sp b z2 o2) d
theorem z_newa (F : z_F cl ats nw TB G own cc nL R0 X) {atype : ArrayType} {t N : Nat} {n : Int32} {a0 : vp_A} (hw : Cond.arrayClass (newarray.typeOf atype) ∈ TB) (ht : ats[t]? = some (newarray.typeOf atype)) (ha : ∀ (G : z_G) (cA : ClassId), vp_cell cA (z_o G a0) = arrV cA N (fun _ => defaultValue (newarray.typeOf atype))) (hn : ¬ n < 0) (hN : n.toNatClampNeg = N) (hby : N * componentBytes (newarray.typeOf atype) ≤ 536870912) (hd : decode cc pc = .ok (.newarray atype, 2)) (hcells : cells + 1 ≤ R0.cells) (hslots : slots + N ≤ R0.slots)
    (kk : z_V cl G nL X Q (cells + 1) (slots + N) (pc + 2) lv (.ref h.length :: st) (h ++ [.inl (t, a0)])) : z_V cl G nL X Q cells slots pc lv (.int n :: st) h := by
  intro H locs ls r b d
  refine va_newaK F.1 F.2.1 (F.wd _ hw) rfl hd rfl hn hN hby (by rw [F.room]; exact hcells) (by rw [F.room]; exact hslots) r.top.symm fun H1 cA e1 z1 o1 hAr hNm => ?_
  have z2 : H1.size = H.size + 1 := by rw [z1, r.top]
  have o2 : ∀ q, q < H.size → H1[q]? = H[q]? := fun q hq => o1 q (by rw [r.top]; exact hq)
  have hRA : (z_Xs X).vm.findClass ("[" ++ (newarray.typeOf atype).toString) = some (G.2.1 t) := by
    have := (F.kn.2 t _ (z_ty ht)).2
    cases atype <;> exact this
  have hcA : cA = G.2.1 t := Option.some.inj (hNm.symm.trans hRA)
  subst hcA
  refine kk H1 locs ls (r.push ?_ z2 o2) (z_Sp b z2 o2) d
  show H1[z_ad G h.length]? = some (vp_cell _ (z_o G a0))
  rw [ha G]
  exact e1
theorem z_newq (F : z_F cl ats nw TB G own cc nL R0 X) {C : String} {idx t N : Nat} {n : Int32} (hl : Cond.classLink own idx C ∈ TB) (hov : va_AO C (z_Xs X)) (ht : ats[t]? = some (.object C)) (hn : ¬ n < 0) (hN : n.toNatClampNeg = N) (hby : N * 4 ≤ 536870912) (hd : decode cc pc = .ok (.anewarray idx, 3)) (hcells : cells + 1 ≤ R0.cells) (hslots : slots + N ≤ R0.slots)
    (kk : z_V cl G nL X Q (cells + 1) (slots + N) (pc + 3) lv (.ref h.length :: st) (h ++ [.inl (t, N, .inr (.inr (.inr (.inr (fun _ => none)))))])) : z_V cl G nL X Q cells slots pc lv (.int n :: st) h := by
  intro H locs ls r b d
  subst hN
  refine W.anew F.1 F.2.1 F.own (F.wd _ hl) (va_AO.use hov) rfl hd rfl hn hby (by rw [F.room]; exact hcells) (by rw [F.room]; exact hslots) fun cA kA comp f1 f2 f3 f4 => ?_
  generalize hH1 : H.push ({ cls := cA, slots := Array.replicate n.toNatClampNeg .null, vm := .none } : Cell) = H1
  have z1 : H1.size = H.size + 1 := by rw [← hH1, Array.size_push]
  have e1 : H1[H.size]? = some (arrV cA n.toNatClampNeg (fun _ => .null)) := by rw [← hH1, Array.getElem?_push_size, ← arrV_new]
  have o1 : ∀ q : Nat, q < H.size → H1[q]? = H[q]? := fun q hq => by rw [← hH1, Array.getElem?_push, if_neg (Nat.ne_of_lt hq)]
  obtain ⟨kA2, comp2, k1, k2, k3, k4⟩ := (F.kn.2 t _ (z_ty ht)).2
  have hcA : cA = G.2.1 t := Option.some.inj (f1.symm.trans k4)
  subst hcA
  have hW := kk H1 locs ls (r.push (by
    show H1[z_ad G h.length]? = some (vp_cell _ _)
    rw [r.top]
    exact e1) z1 o1) (z_Sp b z1 o1) d
  rw [List.map_cons, show z_v G (.ref h.length) = .ref H.size from congrArg Value.ref r.top] at hW
  exact hW
end ZR
end
section
section ZR
variable {cl : List vw_C} {ats : List FieldType} {nw : State → Prop} {TB : List Cond} {G : z_G} {own : String} {cc : ByteArray} {nL : Nat} {R0 : Room} {X : z_X} {Q : State → Prop} {cells slots pc : Nat} {lv : List (Nat × Value)} {st : List Value} {h : z_H}
/-- a method of ours as the tables have it -/
def z_FI (TB : List Cond) (y : MethodName) (c : ByteArray) (maxL : Nat) (rt : Option FieldType) : Prop :=
  Cond.code y c maxL rt ∈ TB ∧ Cond.initialized y.cls ∈ TB ∧ (y.cls ≠ "java/lang/invoke/MethodHandle" ∧ y.cls ≠ "java/lang/invoke/VarHandle") ∧ plainName y.cls = true
def z_NW (nw : State → Prop) : Prop := (∀ (s U : State), s.WarmedH U.vm → nw s → nw U) ∧ ∀ (a : Array Value) (U : State) (g : JFrame) (mk : MethodId), nw U → nw (U.calling g mk a)
/-- THE CONTRACT of a method at these arguments and this heap -/
def z_M (cl : List vw_C) (ats : List FieldType) (nw : State → Prop) (TB : List Cond) (y : MethodName) (c : ByteArray) (maxL : Nat) (rt : Option FieldType) (rk mc ms : Nat) (as : List Value) (h : z_H) (Q : Option Value → z_H → Prop) : Prop :=
  ∀ (l : Launch) (G : z_G), Met l y (Cond.code y c maxL rt :: TB) (z_rm rk mc ms) (va_Pc (as.map (z_v G)) (z_U cl ats nw G h)) (z_Q cl ats nw G Q) mc ms (z_A G)
theorem z_good {TB : List Cond} (hg : TB.all goodWord = true) {c : Cond} (hc : c ∈ TB) : GoodIn TB (c :: TB) := by
  intro w hw
  have hm : w ∈ TB := by
    rcases List.mem_cons.mp hw with rfl | h
    · exact hc
    · exact h
  exact ⟨hm, good_of_word (List.all_eq_true.mp hg w hm)⟩
theorem z_blind {as : List Value} (hnw : z_NW nw) : FrameBlind (va_Pc as (z_U cl ats nw G h)) := by
  intro a U g mk q
  obtain ⟨q0, q1, q2, q3⟩ := q
  exact ⟨q0, q1, va_K.moved (u := U) (U := U.calling g mk a) (Vm.Alike.refl U.vm) q2, hnw.2 a U g mk q3⟩
/-- behind a call -/
theorem z_back {lc : List Loc} {H : Heap} {ls : Array Slot} {mc ms : Nat} {stk rest : List Value} {a : Array Value} {Q' : Option Value → z_H → Prop} (r : z_R cl G h H) (b : va_S (z_A G) X.2.2.2.2.1.heap H lc) (d : lv_has ls nL (z_lv G lv))
    (hrun : va_Run X.1 X.2.1 X.2.2.1 X.2.2.2.1 X.2.2.2.2.1 X.2.2.2.2.2.1 X.2.2.2.2.2.2.1 X.2.2.2.2.2.2.2.1 X.2.2.2.2.2.2.2.2.1 X.2.2.2.2.2.2.2.2.2 H lc cells slots mc ms (F0 X.2.2.2.2.2.1 pc ls stk) (rest.map (z_v G)) (z_Q cl ats nw G Q' a) (z_A G))
    (kk : ∀ (v : Option Value) (h' : z_H), Q' v h' → z_V cl G nL X Q (cells + mc) (slots + ms) (pc + 3) lv (v.toList ++ rest) h') : z_W X H lc cells slots Q (F0 X.2.2.2.2.2.1 pc ls stk) := by
  intro T hT S
  obtain ⟨v, st0, t, T', L, h1, S', hL, e1, e2, ⟨⟨v', h', hv, hq, hr⟩, hF⟩, go⟩ := hrun T hT S
  injection hv with hv
  subst hv
  have b' : va_S (z_A G) X.2.2.2.2.1.heap t.heap (lc ++ L) := by
    refine ⟨Nat.le_trans b.1 (by rw [← h1]; exact hF.1), fun q q1 q2 => ?_, fun l hl => ?_⟩
    · rw [hF.2 q (by rw [h1]; exact Nat.lt_of_lt_of_le q1 b.1) q2, h1]
      exact b.2.1 q q1 q2
    · rcases List.mem_append.mp hl with hl | hl
      · exact b.2.2 l hl
      · exact hL l hl
  have hw := kk v' h' hq t.heap (lc ++ L) ls hr b' d
  have he : (v'.toList ++ rest).map (z_v G) = (v'.map (z_v G)).toList ++ rest.map (z_v G) := by cases v' <;> rfl
  rw [he] at hw
  obtain ⟨t2, s1, s2⟩ := hw T' e1 S'
  exact ⟨t2, go t2 s1, s2⟩
theorem z_room {m : MethodId} {ls : Array Slot} {stk rest : List Value} (h : (rest.map fun v => v.category).sum ≤ 8) : 2 * (F0 m pc ls stk).monitorRoom + ((rest.map (z_v G)).map fun v => v.category).sum ≤ 8 := by
  rw [z_cats]
  exact lv_room h
theorem z_callS (F : z_F cl ats nw TB G own cc nL R0 X) (hnw : z_NW nw) (hg : TB.all goodWord = true) {y : MethodName} {c : ByteArray} {maxL rk mc ms idx n : Nat} {rt : Option FieldType} {as rest : List Value} {stk : List Value} {Q' : Option Value → z_H → Prop} (hM : z_M cl ats nw TB y c maxL rt rk mc ms as h Q') (I : z_FI TB y c maxL rt) (hl : Cond.methodLink own idx y ∈ TB) (hs : Cond.static y ∈ TB) (hn : (parseMethodDescriptor y.desc).map (fun d => d.parameters.length) = some n) (hd : decode cc pc = .ok (.invokestatic idx, 3))
    (hstk : stk = as.reverse ++ rest) (hlen : as.length = n) (hcat : (rest.map fun v => v.category).sum ≤ 8) (hR : rk + 1 ≤ R0.frames ∧ 8 + (maxL + 11) + 40 * rk ≤ R0.locals ∧ cells + mc ≤ R0.cells ∧ slots + ms ≤ R0.slots)
    (kk : ∀ (v : Option Value) (h' : z_H), Q' v h' → z_V cl G nL X Q (cells + mc) (slots + ms) (pc + 3) lv (v.toList ++ rest) h') : z_V cl G nL X Q cells slots pc lv stk h := by
  intro H locs ls r b d
  subst hstk
  have hcw := callB_of (R := X.2.2.2.1) (s := X.2.2.2.2.1) (args := X.2.2.2.2.2.2.1) (rm := z_rm rk mc ms) (mc := mc) (ms := ms) n F.wd (z_good hg I.1) rfl rfl rfl (F.wd _ I.2.1) (F.wd _ hl) ⟨I.2.2.1.1, I.2.2.1.2, hn⟩ ⟨by rw [F.room]; exact hR.1, by rw [F.room]; exact hR.2.1⟩
  refine z_back r b d (va_runS (As := as.map (z_v G)) (rest := rest.map (z_v G)) ⟨F.1, F.2.1, F.2.2.1, F.own, F.wd⟩ (hM X.2.1 G) ⟨hcw, F.wd _ hs⟩ ⟨z_blind hnw, fun U hU hW => ⟨rfl, by rw [hU]; exact r, va_K.moved hW.alike F.kn, hnw.1 _ _ hW F.nws⟩⟩ rfl (by rw [List.length_map]; exact hlen) d.1 (by rw [List.map_append, List.map_reverse]) (z_room hcat) hd ⟨by rw [F.room]; exact hR.2.2.1, by rw [F.room]; exact hR.2.2.2⟩) kk
theorem z_callV (F : z_F cl ats nw TB G own cc nL R0 X) (hnw : z_NW nw) (hg : TB.all goodWord = true) {y : MethodName} {c : ByteArray} {maxL rk mc ms idx n k ci : Nat} {rt : Option FieldType} {as rest fs : List Value} {stk : List Value} {q : vw_C} {Q' : Option Value → z_H → Prop} (hM : z_M cl ats nw TB y c maxL rt rk mc ms (.ref k :: as) h Q') (I : z_FI TB y c maxL rt) (hl : Cond.methodLink own idx y ∈ TB) (hv : Cond.instanceMethod y ∈ TB) (hs : Cond.selects q.1 y y ∈ TB) (hn : (parseMethodDescriptor y.desc).map (fun d => d.parameters.length) = some n) (hd : decode cc pc = .ok (.invokevirtual idx, 3)) (hc : cl[ci]? = some q) (hk : h[k]? = some (.inr (ci, fs)))
    (hstk : stk = as.reverse ++ .ref k :: rest) (hlen : as.length = n) (hcat : (rest.map fun v => v.category).sum ≤ 8) (hR : rk + 1 ≤ R0.frames ∧ 8 + (maxL + 11) + 40 * rk ≤ R0.locals ∧ cells + mc ≤ R0.cells ∧ slots + ms ≤ R0.slots)
    (kk : ∀ (v : Option Value) (h' : z_H), Q' v h' → z_V cl G nL X Q (cells + mc) (slots + ms) (pc + 3) lv (v.toList ++ rest) h') : z_V cl G nL X Q cells slots pc lv stk h := by
  intro H locs ls r b d
  subst hstk
  obtain ⟨i, rfl⟩ := r.obj hk hc
  have hcw := callB_of (R := X.2.2.2.1) (s := X.2.2.2.2.1) (args := X.2.2.2.2.2.2.1) (rm := z_rm rk mc ms) (mc := mc) (ms := ms) n F.wd (z_good hg I.1) rfl rfl rfl (F.wd _ I.2.1) (F.wd _ hl) ⟨I.2.2.1.1, I.2.2.1.2, hn⟩ ⟨by rw [F.room]; exact hR.1, by rw [F.room]; exact hR.2.1⟩
  refine z_back r b d (va_runV (As := as.map (z_v G)) (b := z_ad G (i + 1)) (rest := rest.map (z_v G)) ⟨F.1, F.2.1, F.2.2.1, F.own, F.wd⟩ (hM X.2.1 G) ⟨hcw, F.wd _ hv, F.wd _ hs⟩ ⟨z_blind hnw, va_recv F.kn r.2.2 hc (z_ws_at hk), fun U hU hW => ⟨rfl, by rw [hU]; exact r, va_K.moved hW.alike F.kn, hnw.1 _ _ hW F.nws⟩⟩ rfl (by rw [List.length_map]; exact hlen) d.1 (by rw [List.map_append, List.map_reverse]; rfl) (z_room hcat) hd ⟨by rw [F.room]; exact hR.2.2.1, by rw [F.room]; exact hR.2.2.2⟩) kk
theorem z_callI (F : z_F cl ats nw TB G own cc nL R0 X) (hnw : z_NW nw) (hg : TB.all goodWord = true) {y : MethodName} {c : ByteArray} {maxL rk mc ms idx n k : Nat} {as rest : List Value} {stk : List Value} {Q' : Option Value → z_H → Prop} (hM : z_M cl ats nw TB y c maxL none rk mc ms (.ref k :: as) h Q') (I : z_FI TB y c maxL none) (hl : Cond.methodLink own idx y ∈ TB) (hv : Cond.instanceMethod y ∈ TB) (hy : y.name = "<init>") (hn : (parseMethodDescriptor y.desc).map (fun d => d.parameters.length) = some n) (hd : decode cc pc = .ok (.invokespecial idx, 3))
    (hstk : stk = as.reverse ++ .ref k :: rest) (hlen : as.length = n) (hcat : (rest.map fun v => v.category).sum ≤ 8) (hR : rk + 1 ≤ R0.frames ∧ 8 + (maxL + 11) + 40 * rk ≤ R0.locals ∧ cells + mc ≤ R0.cells ∧ slots + ms ≤ R0.slots)
    (kk : ∀ (v : Option Value) (h' : z_H), Q' v h' → z_V cl G nL X Q (cells + mc) (slots + ms) (pc + 3) lv (v.toList ++ rest) h') : z_V cl G nL X Q cells slots pc lv stk h := by
  intro H locs ls r b d
  subst hstk
  have hcw := callB_of (R := X.2.2.2.1) (s := X.2.2.2.2.1) (args := X.2.2.2.2.2.2.1) (rm := z_rm rk mc ms) (mc := mc) (ms := ms) n F.wd (z_good hg I.1) rfl rfl rfl (F.wd _ I.2.1) (F.wd _ hl) ⟨I.2.2.1.1, I.2.2.1.2, hn⟩ ⟨by rw [F.room]; exact hR.1, by rw [F.room]; exact hR.2.1⟩
  refine z_back r b d (va_runI (As := as.map (z_v G)) (b := z_ad G k) (rest := rest.map (z_v G)) ⟨F.1, F.2.1, F.2.2.1, F.own, F.wd⟩ (hM X.2.1 G) ⟨hcw, hy, F.wd _ hv⟩ ⟨z_blind hnw, fun U hU hW => ⟨rfl, by rw [hU]; exact r, va_K.moved hW.alike F.kn, hnw.1 _ _ hW F.nws⟩⟩ rfl (by rw [List.length_map]; exact hlen) d.1 (by rw [List.map_append, List.map_reverse]; rfl) (z_room hcat) hd ⟨by rw [F.room]; exact hR.2.2.1, by rw [F.room]; exact hR.2.2.2⟩) kk
theorem z_objInit (F : z_F cl ats nw TB G own cc nL R0 X) {k idx : Nat} (hl : Cond.methodLink own idx objectInit ∈ TB) (hv : Cond.instanceMethod objectInit ∈ TB) (hcd : Cond.code objectInit ⟨#[0xb1]⟩ 1 none ∈ TB) (hd : decode cc pc = .ok (.invokespecial idx, 3)) (hfr : 1 ≤ R0.frames) (hlo : (st.map fun v => v.category).sum + 12 ≤ R0.locals) (kk : z_V cl G nL X Q cells slots (pc + 3) lv st h) : z_V cl G nL X Q cells slots pc lv (.ref k :: st) h := by
  intro H locs ls r b d
  refine W.objInit F.1 F.2.1 F.own (F.wd _ hl) (F.wd _ hv) (F.wd _ hcd) rfl (by rw [F.2.2.1]; exact d.1) rfl hd (by rw [F.room]; exact hfr) ?_ (kk H locs ls r b d)
  rw [F.room, z_cats]
  show 2 * 0 + _ + 12 ≤ _
  omega
/-- a method's end -/
def z_end (cl : List vw_C) (ats : List FieldType) (nw : State → Prop) (G : z_G) (X : z_X) (mc ms : Nat) (Q' : Option Value → z_H → Prop) : State → Prop := MQ X.2.2.2.2.2.2.2.1 (z_Q cl ats nw G Q') X.2.2.2.2.2.2.1 X.2.2.2.2.1 mc ms (z_A G)
variable {mc ms : Nat} {Q' : Option Value → z_H → Prop}
theorem z_iret (F : z_F cl ats nw TB G own cc nL R0 X) {x : Int32} {ty : FieldType} (hr : X.2.2.2.2.2.2.2.2.1.sig.returnType = some ty) (hd : decode cc pc = .ok (.ireturn, 1)) (hn : narrow ty (.int x) = .int x) (hc : cells ≤ mc) (hs : slots ≤ ms) (hq : Q' (some (.int x)) h) : z_V cl G nL X (z_end cl ats nw G X mc ms Q') cells slots pc lv [.int x] h := by
  intro H locs ls r b d
  refine W.widen hc hs ?_
  exact W.zret F.1 F.2.1 hr hn (fun t ht hW => ⟨⟨some (.int x), h, rfl, hq, by rw [ht]; exact r⟩, b.F ht⟩) b.2.2 hd F.lock
theorem z_lret (F : z_F cl ats nw TB G own cc nL R0 X) {x : Int64} (hr : X.2.2.2.2.2.2.2.2.1.sig.returnType = some .long) (hd : decode cc pc = .ok (.lreturn, 1)) (hc : cells ≤ mc) (hs : slots ≤ ms) (hq : Q' (some (.long x)) h) : z_V cl G nL X (z_end cl ats nw G X mc ms Q') cells slots pc lv [.long x] h := by
  intro H locs ls r b d
  refine W.widen hc hs ?_
  exact W.lret F.1 F.2.1 hr (fun t ht hW => ⟨⟨some (.long x), h, rfl, hq, by rw [ht]; exact r⟩, b.F ht⟩) b.2.2 hd F.lock
theorem z_vret (F : z_F cl ats nw TB G own cc nL R0 X) (hr : X.2.2.2.2.2.2.2.2.1.sig.returnType = none) (hd : decode cc pc = .ok (.return_, 1)) (hc : cells ≤ mc) (hs : slots ≤ ms) (hq : Q' none h) : z_V cl G nL X (z_end cl ats nw G X mc ms Q') cells slots pc lv [] h := by
  intro H locs ls r b d
  refine W.widen hc hs ?_
  exact W.vret F.1 F.2.1 hr (fun t ht hW => ⟨⟨none, h, rfl, hq, by rw [ht]; exact r⟩, b.F ht⟩) b.2.2 hd F.lock
theorem z_aret (F : z_F cl ats nw TB G own cc nL R0 X) {u : Value} {C : String} (hr : X.2.2.2.2.2.2.2.2.1.sig.returnType = some (.object C)) (hu : z_isR u = true) (hd : decode cc pc = .ok (.areturn, 1)) (hc : cells ≤ mc) (hs : slots ≤ ms) (hq : Q' (some u) h) : z_V cl G nL X (z_end cl ats nw G X mc ms Q') cells slots pc lv [u] h := by
  intro H locs ls r b d
  refine W.widen hc hs ?_
  have hv : z_v G u = .null ∨ ∃ a, z_v G u = .ref a := by
    cases u <;> first | exact Bool.noConfusion (show false = true from hu) | exact Or.inl rfl | exact Or.inr ⟨_, rfl⟩
  exact W.aret F.1 F.2.1 hr (Or.inl ⟨_, rfl⟩) hv (fun t ht hW => ⟨⟨some u, h, rfl, hq, by rw [ht]; exact r⟩, b.F ht⟩) b.2.2 hd F.lock
theorem z_args (G : z_G) : ∀ (as : List Value) (i : Nat), lv_args i (as.map (z_v G)) = z_lv G (lv_args i as)
  | [], i => rfl
  | v :: vs, i => by
    simp only [List.map_cons, lv_args, z_v_cat, z_lv]
    rw [z_args G vs]
    rfl
theorem z_slen (G : z_G) (as : List Value) : (lg_sl (as.map (z_v G))).length = (lg_sl as).length := by
  unfold lg_sl
  induction as with
  | nil => rfl
  | cons v vs ih =>
    simp only [List.map_cons, List.flatMap_cons, List.length_append, z_v_cat, ih]
    congr 1
    split <;> rfl
/-- a contract out of a walk -/
theorem z_met {y : MethodName} {c : ByteArray} {maxL rk : Nat} {rt : Option FieldType} {as : List Value} (I : z_FI TB y c maxL rt) (hlen : (lg_sl as).length ≤ maxL)
    (body : ∀ (G : z_G) (X : z_X), z_F cl ats nw TB G y.cls c maxL (z_rm rk mc ms) X → X.2.2.2.2.2.2.2.2.1.sig.returnType = rt → X.2.2.2.2.2.2.2.2.1.name = y.name → z_V cl G maxL X (z_end cl ats nw G X mc ms Q') 0 0 0 (lv_args 0 as) [] h) : z_M cl ats nw TB y c maxL rt rk mc ms as h Q' := by
  intro l G
  refine Met.ofW (cc := c) (maxL := maxL) (ret := rt) I.2.2.2 rfl ?_
  intro p e s m args below meth cd s₁ B hml hv
  obtain ⟨rfl, hR, hK, hN⟩ := hv
  have hts := atoms_spec (ws := Cond.code y c maxL rt :: TB) B.pre
  have hb : G.2.2.2 ≤ s.heap.size := by have h1 := hR.pos; have h2 := hR.2.1; omega
  have hl := lv_entry (as.map (z_v G)) (n := maxL) (by rw [z_slen]; exact hlen)
  rw [lg_entry_eq]
  rw [z_args] at hl
  exact body G (p, l, e, z_rm rk mc ms, s, m, (as.map (z_v G)).toArray, below, meth, cd) ⟨B.exec, B.bytes, hml, findClass_of_methodNamed B.named, fun w hw => hts w (List.mem_cons_of_mem _ hw), hK, hN, hb, rfl, B.notSynchronized⟩ B.returns (name_of_methodNamed B.named B.method).1 s.heap [] _ hR va_S.rf hl
end ZR
end
