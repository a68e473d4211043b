/-! THE LOGICAL MACHINE. A run is told over a logical heap h (a list of cells; a reference is a place in it; place 0 stands for the script), and judged by z_V; one row an instruction, each out of the kit's own row. A contract is z_M: arguments, heap before, and what holds of answer and heap behind. -/
abbrev z_E : Type := (Nat × vp_A) ⊕ (Nat × List Value)
abbrev z_H : Type := List z_E
/-- class numbers and slots, array classes, the script's cell, the first address of ours -/
abbrev z_G : Type := va_G × (Nat → ClassId) × Nat × Nat
def z_ad (G : z_G) (k : Nat) : Nat := match k with
  | 0 => G.2.2.1
  | k + 1 => G.2.2.2 + k
def z_v (G : z_G) (v : Value) : Value := match v with
  | .ref k => .ref (z_ad G k)
  | v => v
def z_o (G : z_G) (a : vp_A) : vp_A := match a with
  | (n, .inr (.inr (.inr (.inr f)))) => (n, .inr (.inr (.inr (.inr (fun j => (f j).map (z_ad G))))))
  | a => a
def z_c (G : z_G) (e : z_E) : va_E := match e with
  | .inl (k, a) => .inl (G.2.1 k, z_o G a)
  | .inr (ci, fs) => .inr (ci, fs.map (z_v G))
def z_ws (G : z_G) (h : z_H) : va_W := (h.drop 1).mapIdx (fun k e => (G.2.2.2 + k, z_c G e))
def z_A (G : z_G) : Nat → Prop := fun q => G.2.2.2 ≤ q
def z_tys (G : z_G) (ats : List FieldType) : List (ClassId × FieldType) := ats.mapIdx (fun k t => (G.2.1 k, t))
theorem z_v_cat (G : z_G) (v : Value) : (z_v G v).category = v.category := by cases v <;> rfl
theorem z_cats (G : z_G) (st : List Value) : ((st.map (z_v G)).map fun v => v.category) = st.map fun v => v.category := by
  rw [List.map_map]
  exact List.map_congr_left (fun v _ => z_v_cat G v)
theorem z_ws_at {G : z_G} {h : z_H} {k : Nat} {e : z_E} (he : h[k + 1]? = some e) : (z_ws G h)[k]? = some (z_ad G (k + 1), z_c G e) := by
  unfold z_ws
  rw [List.getElem?_mapIdx, List.getElem?_drop, Nat.add_comm 1 k, he]
  rfl
theorem z_ws_set (G : z_G) (h : z_H) (k : Nat) (e : z_E) : z_ws G (h.set (k + 1) e) = (z_ws G h).set k (z_ad G (k + 1), z_c G e) := by
  apply List.ext_getElem?
  intro i
  unfold z_ws
  simp only [List.getElem?_set, List.getElem?_mapIdx, List.getElem?_drop, List.length_mapIdx, List.length_drop]
  by_cases hi : k = i
  · subst hi
    by_cases hl : k + 1 < h.length
    · have h1 : k < h.length - 1 := by omega
      have h2 : 1 + k < h.length := by omega
      simp [Nat.add_comm 1 k, hl, h1, z_ad]
    · have h1 : ¬ k < h.length - 1 := by omega
      simp [Nat.add_comm 1 k, hl, h1]
  · have h1 : ¬ k + 1 = 1 + i := by omega
    simp [hi, h1]
theorem z_ws_push (G : z_G) (h : z_H) (e : z_E) (h1 : 1 ≤ h.length) : z_ws G (h ++ [e]) = z_ws G h ++ [(z_ad G h.length, z_c G e)] := by
  cases h with
  | nil => simp at h1
  | cons x t =>
    simp only [z_ws, List.cons_append, List.drop_succ_cons, List.drop_zero, List.length_cons, z_ad]
    rw [List.mapIdx_append]
    simp
theorem z_D (G : z_G) (h : z_H) : va_D (z_A G) (z_ws G h) := by
  have key : ∀ (i : Nat) (p : Nat × va_E), (z_ws G h)[i]? = some p → p.1 = G.2.2.2 + i := by
    intro i p hi
    unfold z_ws at hi
    rw [List.getElem?_mapIdx] at hi
    cases hq : (h.drop 1)[i]? with
    | none => rw [hq] at hi; cases hi
    | some x => rw [hq] at hi; cases hi; rfl
  refine ⟨fun i j p q hi hj hpq => ?_, fun k q hk => ?_⟩
  · have a := key i p hi
    have b := key j q hj
    omega
  · show G.2.2.2 ≤ q.1
    rw [key k q hk]
    omega
/-- the heap holds h -/
def z_R (cl : List vw_C) (G : z_G) (h : z_H) (H : Heap) : Prop := h[0]? = some (.inr (cl.length, [])) ∧ H.size + 1 = G.2.2.2 + h.length ∧ va_P G.1 cl (z_ws G h) H
theorem z_R.pos {cl : List vw_C} {G : z_G} {h : z_H} {H : Heap} (r : z_R cl G h H) : 1 ≤ h.length := by
  have := (List.getElem?_eq_some_iff.mp r.1).1
  omega
theorem z_R.obj {cl : List vw_C} {G : z_G} {h : z_H} {H : Heap} (r : z_R cl G h H) {k ci : Nat} {fs : List Value} {q : vw_C} (hk : h[k]? = some (.inr (ci, fs))) (hc : cl[ci]? = some q) : ∃ j, k = j + 1 := by
  cases k with
  | succ j => exact ⟨j, rfl⟩
  | zero =>
    rw [r.1] at hk
    have h1 : cl.length = ci := by injection hk with hk; injection hk with hk; injection hk
    rw [← h1] at hc
    simp at hc
theorem z_R.arr {cl : List vw_C} {G : z_G} {h : z_H} {H : Heap} (r : z_R cl G h H) {k : Nat} {a : Nat × vp_A} (hk : h[k]? = some (.inl a)) : ∃ j, k = j + 1 := by
  cases k with
  | succ j => exact ⟨j, rfl⟩
  | zero => rw [r.1] at hk; cases hk
def z_U (cl : List vw_C) (ats : List FieldType) (nw : State → Prop) (G : z_G) (h : z_H) (U : State) : Prop := z_R cl G h U.heap ∧ va_K G.1 cl (z_tys G ats) U ∧ nw U
def z_Q (cl : List vw_C) (ats : List FieldType) (nw : State → Prop) (G : z_G) (Q : Option Value → z_H → Prop) : Array Value → State → Outcome → State → Prop := fun _ st oc t => (∃ (r : Option Value) (h' : z_H), oc = .returned (r.map (z_v G)) ∧ Q r h' ∧ z_R cl G h' t.heap) ∧ va_F (z_A G) st t
def z_rm (rk mc ms : Nat) : Room := { frames := rk, cells := mc, slots := ms, locals := 40 * rk }
/-- the method under way: machine, room, entry state, frame, code -/
abbrev z_X : Type := Program × Launch × Env × Room × State × MethodId × Array Value × List Frame × Method × Code
abbrev z_Xs (X : z_X) : State := X.2.2.2.2.1
abbrev z_Xm (X : z_X) : MethodId := X.2.2.2.2.2.1
abbrev z_Xa (X : z_X) : Array Value := X.2.2.2.2.2.2.1
abbrev z_W (X : z_X) (H : Heap) (locs : List Loc) (cells slots : Nat) (Q : State → Prop) (g : JFrame) : Prop :=
  W X.1 X.2.1 X.2.2.1 X.2.2.2.1 X.2.2.2.2.1 X.2.2.2.2.2.1 X.2.2.2.2.2.2.1 X.2.2.2.2.2.2.2.1 X.2.2.2.2.2.2.2.2.1 X.2.2.2.2.2.2.2.2.2 H locs cells slots Q g
/-- what is known of it throughout -/
def z_F (cl : List vw_C) (ats : List FieldType) (nw : State → Prop) (TB : List Cond) (G : z_G) (own : String) (cc : ByteArray) (nL : Nat) (R0 : Room) (X : z_X) : Prop :=
  X.1.tables.exec = Jvm.exec ∧ X.2.2.2.2.2.2.2.2.2.code = cc ∧ X.2.2.2.2.2.2.2.2.2.maxLocals = nL ∧ X.2.2.2.2.1.vm.findClass own = some X.2.2.2.2.2.1.cls ∧ (∀ w ∈ TB, w.before X.2.2.2.2.2.2.1 X.2.2.2.2.1 = true) ∧ va_K G.1 cl (z_tys G ats) X.2.2.2.2.1 ∧ nw X.2.2.2.2.1 ∧ G.2.2.2 ≤ X.2.2.2.2.1.heap.size ∧ X.2.2.2.1 = R0 ∧ X.2.2.2.2.2.2.2.2.1.locks = false
theorem z_F.own {cl : List vw_C} {ats : List FieldType} {nw : State → Prop} {TB : List Cond} {G : z_G} {own : String} {cc : ByteArray} {nL : Nat} {R0 : Room} {X : z_X} (F : z_F cl ats nw TB G own cc nL R0 X) : X.2.2.2.2.1.vm.findClass own = some X.2.2.2.2.2.1.cls := F.2.2.2.1
theorem z_F.wd {cl : List vw_C} {ats : List FieldType} {nw : State → Prop} {TB : List Cond} {G : z_G} {own : String} {cc : ByteArray} {nL : Nat} {R0 : Room} {X : z_X} (F : z_F cl ats nw TB G own cc nL R0 X) : ∀ w ∈ TB, w.before X.2.2.2.2.2.2.1 X.2.2.2.2.1 = true := F.2.2.2.2.1
theorem z_F.kn {cl : List vw_C} {ats : List FieldType} {nw : State → Prop} {TB : List Cond} {G : z_G} {own : String} {cc : ByteArray} {nL : Nat} {R0 : Room} {X : z_X} (F : z_F cl ats nw TB G own cc nL R0 X) : va_K G.1 cl (z_tys G ats) X.2.2.2.2.1 := F.2.2.2.2.2.1
theorem z_F.nws {cl : List vw_C} {ats : List FieldType} {nw : State → Prop} {TB : List Cond} {G : z_G} {own : String} {cc : ByteArray} {nL : Nat} {R0 : Room} {X : z_X} (F : z_F cl ats nw TB G own cc nL R0 X) : nw X.2.2.2.2.1 := F.2.2.2.2.2.2.1
theorem z_F.base {cl : List vw_C} {ats : List FieldType} {nw : State → Prop} {TB : List Cond} {G : z_G} {own : String} {cc : ByteArray} {nL : Nat} {R0 : Room} {X : z_X} (F : z_F cl ats nw TB G own cc nL R0 X) : G.2.2.2 ≤ X.2.2.2.2.1.heap.size := F.2.2.2.2.2.2.2.1
theorem z_F.room {cl : List vw_C} {ats : List FieldType} {nw : State → Prop} {TB : List Cond} {G : z_G} {own : String} {cc : ByteArray} {nL : Nat} {R0 : Room} {X : z_X} (F : z_F cl ats nw TB G own cc nL R0 X) : X.2.2.2.1 = R0 := F.2.2.2.2.2.2.2.2.1
theorem z_F.lock {cl : List vw_C} {ats : List FieldType} {nw : State → Prop} {TB : List Cond} {G : z_G} {own : String} {cc : ByteArray} {nL : Nat} {R0 : Room} {X : z_X} (F : z_F cl ats nw TB G own cc nL R0 X) : X.2.2.2.2.2.2.2.2.1.locks = false := F.2.2.2.2.2.2.2.2.2
/-- locals: a list of places and values, in the order of the places -/
def z_lv (G : z_G) (lv : List (Nat × Value)) : List (Nat × Value) := lv.map (fun q => (q.1, z_v G q.2))
def z_at : List (Nat × Value) → Nat → Option Value
  | [], _ => none
  | (j, v) :: r, i => match Nat.beq j i with
    | true => some v
    | false => z_at r i
def z_ins (i : Nat) (v : Value) : List (Nat × Value) → List (Nat × Value)
  | [] => [(i, v)]
  | (j, w) :: r => match Nat.ble i j with
    | true => (i, v) :: (j, w) :: r
    | false => (j, w) :: z_ins i v r
def z_fl1 (i : Nat) : List (Nat × Value) → List (Nat × Value)
  | [] => []
  | (j, w) :: r => match Nat.beq j i || (Nat.beq (j + 1) i && Nat.beq w.category 2) with
    | true => z_fl1 i r
    | false => (j, w) :: z_fl1 i r
def z_st (lv : List (Nat × Value)) (i : Nat) (v : Value) : List (Nat × Value) := match Nat.beq v.category 2 with
  | true => z_ins i v (z_fl1 i (z_fl1 (i + 1) lv))
  | false => z_ins i v (z_fl1 i lv)
theorem z_at_mem : ∀ {lv : List (Nat × Value)} {i : Nat} {v : Value}, z_at lv i = some v → (i, v) ∈ lv
  | [], i, v, h => by cases h
  | (j, w) :: r, i, v, h => by
    unfold z_at at h
    split at h
    · rename_i hb
      have := Nat.eq_of_beq_eq_true hb
      subst this
      cases h
      exact List.mem_cons_self
    · exact List.mem_cons_of_mem _ (z_at_mem h)
theorem z_ins_mem {i : Nat} {v : Value} : ∀ {l : List (Nat × Value)} {q : Nat × Value}, q ∈ z_ins i v l → q = (i, v) ∨ q ∈ l
  | [], q, h => by
    simp [z_ins] at h
    exact Or.inl h
  | (j, w) :: r, q, h => by
    unfold z_ins at h
    split at h
    · rcases List.mem_cons.mp h with h | h
      · exact Or.inl h
      · exact Or.inr h
    · rcases List.mem_cons.mp h with h | h
      · exact Or.inr (by rw [h]; exact List.mem_cons_self)
      · rcases z_ins_mem h with h | h
        · exact Or.inl h
        · exact Or.inr (List.mem_cons_of_mem _ h)
theorem z_fl1_mem {i : Nat} : ∀ {l : List (Nat × Value)} {q : Nat × Value}, q ∈ z_fl1 i l → q ∈ l ∧ ¬ q.1 = i ∧ ¬ (q.1 + 1 = i ∧ q.2.category = 2)
  | [], q, h => by cases h
  | (j, w) :: r, q, h => by
    unfold z_fl1 at h
    split at h
    · have := z_fl1_mem h
      exact ⟨List.mem_cons_of_mem _ this.1, this.2⟩
    · rename_i hb
      rcases List.mem_cons.mp h with h | h
      · subst h
        refine ⟨List.mem_cons_self, fun e => ?_, fun e => ?_⟩
        · have e : j = i := e
          subst e
          simp at hb
        · have e1 : j + 1 = i := e.1
          have e2 : w.category = 2 := e.2
          subst e1
          simp [e2] at hb
      · have := z_fl1_mem h
        exact ⟨List.mem_cons_of_mem _ this.1, this.2⟩
theorem z_atL {G : z_G} {ls : Array Slot} {nL : Nat} {lv : List (Nat × Value)} {i : Nat} {v : Value} (d : lv_has ls nL (z_lv G lv)) (h : z_at lv i = some v) : ls[i]? = some (.val (z_v G v)) :=
  d.2.2 (i, z_v G v) (List.mem_map.mpr ⟨(i, v), z_at_mem h, rfl⟩)
theorem z_atI {G : z_G} {lv : List (Nat × Value)} {i : Nat} {v : Value} (h : z_at lv i = some v) : ∃ j : Nat, (z_lv G lv)[j]? = some (i, z_v G v) :=
  List.getElem?_of_mem (List.mem_map.mpr ⟨(i, v), z_at_mem h, rfl⟩)
theorem z_st1 {G : z_G} {ls : Array Slot} {nL : Nat} {lv : List (Nat × Value)} {i : Nat} {v w : Value} (d : lv_has ls nL ((i, w) :: (z_lv G lv).filter (fun q => !(q.1 == i) && !(q.1 + 1 == i && q.2.category == 2)))) (hw : z_v G v = w) (hc : v.category = 1) : lv_has ls nL (z_lv G (z_st lv i v)) := by
  subst hw
  refine ⟨d.1, d.2.1, fun q hq => d.2.2 q ?_⟩
  obtain ⟨q0, h1, rfl⟩ := List.mem_map.mp hq
  unfold z_st at h1
  rw [hc] at h1
  rcases z_ins_mem h1 with h | h
  · rw [h]; exact List.mem_cons_self
  · obtain ⟨h2, h3, h4⟩ := z_fl1_mem h
    refine List.mem_cons_of_mem _ (List.mem_filter.mpr ⟨List.mem_map.mpr ⟨q0, h2, rfl⟩, ?_⟩)
    simp only [z_v_cat]
    simp only [Bool.and_eq_true, Bool.not_eq_true', beq_eq_false_iff_ne, Bool.and_eq_false_imp, beq_iff_eq]
    exact ⟨h3, fun e1 e2 => h4 ⟨e1, e2⟩⟩
theorem z_st2 {G : z_G} {ls : Array Slot} {nL : Nat} {lv : List (Nat × Value)} {i : Nat} {v w : Value} (d : lv_has ls nL ((i, w) :: (z_lv G lv).filter (fun q => !(q.1 == i) && (!(q.1 == i + 1) && !(q.1 + 1 == i && q.2.category == 2))))) (hw : z_v G v = w) (hc : v.category = 2) : lv_has ls nL (z_lv G (z_st lv i v)) := by
  subst hw
  refine ⟨d.1, d.2.1, fun q hq => d.2.2 q ?_⟩
  obtain ⟨q0, h1, rfl⟩ := List.mem_map.mp hq
  unfold z_st at h1
  rw [hc] at h1
  rcases z_ins_mem h1 with h | h
  · rw [h]; exact List.mem_cons_self
  · obtain ⟨h2, h3, h4⟩ := z_fl1_mem h
    obtain ⟨h5, h6, h7⟩ := z_fl1_mem h2
    refine List.mem_cons_of_mem _ (List.mem_filter.mpr ⟨List.mem_map.mpr ⟨q0, h5, rfl⟩, ?_⟩)
    simp only [z_v_cat]
    simp only [Bool.and_eq_true, Bool.not_eq_true', beq_eq_false_iff_ne, Bool.and_eq_false_imp, beq_iff_eq]
    exact ⟨h3, h6, fun e1 e2 => h4 ⟨e1, e2⟩⟩
def z_isR (v : Value) : Bool := match v with
  | .null => true
  | .ref _ => true
  | _ => false
/-- from here the run ends in Q -/
def z_V (cl : List vw_C) (G : z_G) (nL : Nat) (X : z_X) (Q : State → Prop) (cells slots pc : Nat) (lv : List (Nat × Value)) (st : List Value) (h : z_H) : Prop :=
  ∀ (H : Heap) (locs : List Loc) (ls : Array Slot), z_R cl G h H → va_S (z_A G) X.2.2.2.2.1.heap H locs → lv_has ls nL (z_lv G lv) → z_W X H locs cells slots Q (F0 X.2.2.2.2.2.1 pc ls (st.map (z_v G)))
