/-! A THROW THAT IS CAUGHT: the search for the handler, a contract that ends in a throw, its call -/
/-- what the search through the table finds, where the handler's class may still be unresolved -/
def y_Find (e : Env) (s : State) (f : JFrame) (a : Addr) (pc : Nat) (vm' : Vm) : Prop :=
  ∀ (Q : Handler → Pre) (E : CtlPost) (d : Bool) (acts : List Action), wp (findHandler f a) Q E e d acts s ↔ Q (.found pc) d acts (s.setVm vm')
theorem y_find1 {e : Env} {s : State} {f : JFrame} {a : Addr} {meth : Method} {code : Code} (hm : s.vm.method? f.method = some meth) (hc : meth.code = some code) {x : ExceptionTableEntry} (hx1 : code.exceptionTable.toList = [x]) (hx : covers x f.pc = true) (h0 : x.catchType ≠ 0) {c : ClassId} {cell : Cell}
    (hl : s.vm.ClassLinks e.platform f.method.cls x.catchType c) (hcell : s.heap[a]? = some cell) (hobj : ∀ k, cell.vm ≠ .statics k)
    (hk : ∃ k, s.vm.classes[cell.cls]? = some k) (hcl : ∃ k, s.vm.classes[c]? = some k) (hfit : s.vm.assignable cell.cls c = true) :
    y_Find e s f a x.handlerPc (s.vm.noted f.method.cls x.catchType (.cls c)) := by
  intro Q E d acts
  rw [W.findHandler_eq hm hc, hx1]
  simp only [covers] at hx
  obtain ⟨ha, ht⟩ := (resolveClass_links e.toSetting hl).op (op := VmOp.resolveClass f.method.cls x.catchType) rfl
  have hal : s.vm.Alike (s.vm.noted f.method.cls x.catchType (.cls c)) := (Vm.Alike.refl s.vm).noted _ _ _
  obtain ⟨k1, hk1⟩ := hk
  obtain ⟨k2, hk2⟩ := hcl
  obtain ⟨k1', hk1', -⟩ := hal.2.2 _ _ hk1
  obtain ⟨k2', hk2', -⟩ := hal.2.2 _ _ hk2
  have hfit' : (s.vm.noted f.method.cls x.catchType (.cls c)).assignable cell.cls c = true := by rw [hal.assignable]; exact hfit
  simp [findHandler.go, hx, h0, ha, ht, hcell, hobj, hk1', hk2', hfit', VmOp.dirties, VmOp.acts]
theorem y_caught {tb : Tables} {e : Env} {s target : State} {g : JFrame} {c : Code} {below : List Frame} {a : Addr} (h : At s g.method c below) {pc : Nat} {vm' : Vm}
    (hfind : y_Find e ((s.setTop g).pushFrame (.throwing a)) g a pc vm') (hrest : Steps tb e below ((s.setVm vm').setTop { g with pc := pc, stack := [.ref a] }) target) :
    Steps tb e below ((s.setTop g).pushFrame (.throwing a)) target := by
  obtain ⟨hgo, hw⟩ := h.throwing a
  refine Steps.head hgo hw ?_
  have hstep : (stepThrowing e ((s.setTop g).pushFrame (.throwing a)) a (.java g :: s.frames.tail)).Is (((((s.setTop g).pushFrame (.throwing a)).setVm vm')).setFrames (.java { g with pc := pc, stack := [.ref a] } :: s.frames.tail)) [] := by
    simp only [stepThrowing, searchFrame, vmDo]
    generalize hr : Sem.go _ e false [] _ = res
    obtain ⟨as, rfl, ha⟩ := Sem.eq_ok_of hr (a := Handler.found pc) (s' := ((s.setTop g).pushFrame (.throwing a)).setVm vm') (acts' := []) (by simp [hfind _ _ _ _])
    exact ⟨rfl, ha⟩
  rw [stepThread_throwing (frames_entered h.top _), hstep.1]
  obtain ⟨g₀, hg⟩ := Option.isSome_iff_exists.mp h.top
  obtain ⟨r, hr⟩ := State.topJava?_eq_some.mp hg
  have hr' : (s.setVm vm').frames = .java g₀ :: r := hr
  rw [State.setTop_of_frames _ hr'] at hrest
  have e1 : (((s.setTop g).pushFrame (.throwing a)).setVm vm').setFrames (.java { g with pc := pc, stack := [.ref a] } :: s.frames.tail) = (s.setVm vm').setFrames (.java { g with pc := pc, stack := [.ref a] } :: r) := by
    have e2 : ((s.setTop g).pushFrame (.throwing a)).setVm vm' = (s.setVm vm').setFrames (.throwing a :: (s.setTop g).frames) := by
      rw [State.pushFrame, State.setTop_of_frames _ hr, State.setFrames_setFrames]
      rfl
    rw [e2, State.setFrames_setFrames, hr]
    rfl
  rw [e1]
  exact hrest

/-- a contract that ends in a throw -/
def y_MT (l : Launch) (y : MethodName) (ws : List Cond) (rm : Room) (Pc : Array Value → State → Prop) (Qt : Array Value → State → Addr → State → Prop) (mc ms : Nat) (free : Addr → Prop) : Prop :=
  MetFree l y (headSpec ws rm) Pc (fun _ _ _ _ _ => True) (fun a st o t => (∃ x, o = .threw x ∧ Qt a st x t) ∧ st.WarmedH t.vm ∧ ∃ L, st.sameButNew ({ t with vm := st.vm } : State) L mc ms ∧ ∀ q ∈ L, free q.base)
section YC
variable {p : Program} {l : Launch} {e : Env} {R : Room} {s : State} {m : MethodId} {args : Array Value} {below : List Frame} {meth : Method} {c : Code} {T : State} {locs : List Loc} {cells slots : Nat}
theorem y_callVT (X : Stand p l e R s m args below meth c T locs cells slots) (hexec : p.tables.exec = Jvm.exec) {own C : String} {index : Nat} {y : MethodName} {bytes : ByteArray} {maxL : Nat} {ret : Option FieldType}
    (hown : s.vm.findClass own = some m.cls) (hlink : (Cond.methodLink own index y).before args s = true) (hinst : (Cond.instanceMethod y).before args s = true) (hsel : (Cond.selects C y y).before args s = true)
    (hcode : (Cond.code y bytes maxL ret).before args s = true) (hy : y.cls ≠ "java/lang/invoke/MethodHandle" ∧ y.cls ≠ "java/lang/invoke/VarHandle")
    {ws : List Cond} {rm : Room} {Pc : Array Value → State → Prop} {Qt : Array Value → State → Addr → State → Prop} {mc ms : Nat} {free : Addr → Prop} (hM : y_MT l y ws rm Pc Qt mc ms free) (hblind : FrameBlind Pc)
    (hrc : rm.cells = mc) (hrs : rm.slots = ms) (hfr : rm.frames + 1 ≤ R.frames) (hlo : 8 + (maxL + 11) + rm.locals ≤ R.locals) (hws : ∀ w ∈ ws, ∀ a' U, s.WarmedH U.vm → w.before a' U = true)
    (hini : ∀ a' U, s.WarmedH U.vm → (Cond.initialized y.cls).before a' U = true) (hcd : ∀ a' U, s.WarmedH U.vm → (Cond.code y bytes maxL ret).before a' U = true)
    {b : Addr} {cellB : Cell} (hcell : T.heap[b]? = some cellB) (hobj : cellB.vm.isStatics = false) (hcls : s.vm.findClass C = some cellB.cls)
    {g : JFrame} (hg : g.method = m) (hsize : g.locals.size = c.maxLocals) {argsL rest : List Value} (hlen : ∀ sig, parseMethodDescriptor y.desc = some sig → argsL.length = sig.parameters.length)
    (hstack : g.stack = argsL.reverse ++ .ref b :: rest) (hW : 2 * g.monitorRoom + (rest.map fun v => v.category).sum ≤ 8) (hdg : decode c.code g.pc = .ok (.invokevirtual index, 3))
    (hcells : cells + mc ≤ R.cells) (hslots : slots + ms ≤ R.slots) (hPc : ∀ vm₁, s.WarmedH vm₁ → Pc (Value.ref b :: argsL).toArray (T.setVm vm₁)) :
    ∃ (x : Addr) (st0 t T' : State) (L : List Loc), st0.heap = T.heap ∧ Stand p l e R s m args below meth c T' (locs ++ L) (cells + mc) (slots + ms) ∧ (∀ q ∈ L, free q.base) ∧ T'.heap = t.heap ∧ Qt (Value.ref b :: argsL).toArray st0 x t ∧
      ∀ target, Steps p.tables e below ((T'.setTop { g with stack := rest }).pushFrame (.throwing x)) target → Steps p.tables e below (T.setTop g) target := by
  obtain ⟨mk, methM, hnamed, hmethM, hstM, habM⟩ := Cond.instanceMethod_spec hinst
  obtain ⟨methM', cM, hmethM', -, -, -, -, -, -, hsigM⟩ := Cond.code_spec hnamed hcode
  cases hmethM.symm.trans hmethM'
  obtain ⟨c2, r2, m2, q1, q2, q3, q4, kP, hkP, hkPi⟩ := Cond.selects_spec hsel
  cases hcls.symm.trans q1
  cases (State.methodFound?_of_named hnamed hy).symm.trans q2
  cases hnamed.symm.trans q3
  have hselP : selectMethod e.platform s.vm cellB.cls mk = .method mk := by rw [Launch.admits_selectMethod X.admits]; exact q4
  obtain ⟨vm₁, X₁, hstep₁⟩ := X.invokevirtual hexec hown hlink hnamed hmethM hstM hkP hkPi hy (a := b) (cell := cellB) hcell
    (fun z h => by rw [h] at hobj; cases hobj) hselP hmethM habM hkP hkPi (g := g) hg (argsL := argsL) (rest := rest) (hlen _ hsigM) hstack hdg
  have hn := X₁.named hnamed
  have hP := hPc vm₁ X₁.warmed
  have h2 := hcd (Value.ref b :: argsL).toArray (T.setVm vm₁) X₁.warmed
  have h3 := hini (Value.ref b :: argsL).toArray (T.setVm vm₁) X₁.warmed
  obtain ⟨methY, cY, hmY, hcY, -, hlY, -, -, -, -⟩ := Cond.code_spec hn h2
  obtain ⟨kY, hkY, -⟩ := className_of_methodNamed hn
  have hinitY : kY.init = .initialized := Cond.initialized_spec (findClass_of_methodNamed hn) hkY h3
  have hg' : ({ g with stack := rest } : JFrame).method = m := hg
  have h : At (T.setVm vm₁) ({ g with stack := rest } : JFrame).method c below := by rw [hg']; exact X₁.here
  have happ : (headSpec ws rm).appliesLoose y e.platform ((T.setVm vm₁).calling { g with stack := rest } mk (Value.ref b :: argsL).toArray) = true :=
    Spec.appliesLoose_calling (g := { g with stack := rest }) h hdg hn hkY hinitY
      (X₁.room_calling (g := { g with stack := rest }) (R' := rm) hsize hmY hcY hfr (by rw [hlY]; show _ + (rest.map fun v => v.category).sum + _ + _ ≤ _; have : ({ g with stack := rest } : JFrame).monitorRoom = g.monitorRoom := rfl; omega) (by rw [hrc]; exact hcells) (by rw [hrs]; exact hslots)) (atoms_intro fun w hw => hws w hw _ _ X₁.warmed)
  obtain ⟨mid, hmid⟩ := h.above
  have hfr2 : ((T.setVm vm₁).setTop { g with stack := rest }).frames = (.java { g with stack := rest } :: mid) ++ below := by rw [State.frames_setTop' _ h.top, hmid]; rfl
  obtain ⟨o, s₂, hsteps, -, hend, hq⟩ := Steps.callFree hM p X.admits X.cas X.clock (acts := []) hfr2 happ (hblind _ _ _ _ hP) trivial
  obtain ⟨⟨x, rfl, hqt⟩, hW₂, L, hsame, hL⟩ := hq
  rw [State.frames_setTop' _ h.top] at hend
  have hend' : Ended s₂ (.java { g with stack := rest } :: below) (.threw x) := by rw [← X₁.tail]; exact hend
  obtain ⟨T', XT, hWT, -, ht⟩ := X₁.outOfThrown hg' hend' hW₂ hsame
  refine ⟨x, (T.setVm vm₁).calling { g with stack := rest } mk (Value.ref b :: argsL).toArray, s₂, T', L, rfl, XT, hL, ?_, hqt, fun target hrest => ?_⟩
  · rw [ht, Stand.throwing_heap]
  · refine hstep₁ _ fun acts => ?_
    rw [doInvoke_state]
    rw [ht] at hsteps
    exact hsteps.trans hrest
end YC

/-! what the making of the exception reads: words of the tables, two statics, a text; they hold of an older state whose cells all stand -/
def y_xn : String := "java/lang/ArrayIndexOutOfBoundsException"
def y_up : List String := ["java/lang/IndexOutOfBoundsException", "java/lang/RuntimeException", "java/lang/Exception"]
abbrev y_L0 : List Cond := Jvm.Bundle.ownAtoms "ServiceRows2" 141 y_xn y_up
abbrev y_S0 : Cond := Cond.stringRef "ServiceRows2" 139 "the last answer has no such octet"
def y_kind (w : Cond) : Bool := match w with
  | .laysStatic _ _ _ => true
  | .isRef (.static _ _ _) => true
  | w => w.onTables
theorem y_up1 {w : Cond} (hk : y_kind w = true) {A A' : Array Value} {s U : State} (hh : ∀ (q : Nat) (c : Cell), s.heap[q]? = some c → U.heap[q]? = some c) (h : w.before A (s.setVm U.vm) = true) : w.before A' U = true := by
  have tab : ∀ u : Cond, u.onTables = true → u.before A (s.setVm U.vm) = true → u.before A' U = true := by
    intro u hu h
    have e := Cond.onTables_vm (A := A) (A' := A') (U := s) (U' := U) U.vm u hu
    rw [show U.setVm U.vm = U from rfl] at e
    rw [← e]
    exact h
  cases w with
  | laysStatic o n d =>
    simp only [Cond.before, Cond.holds, Cond.value] at h ⊢
    have e1 : (s.setVm U.vm).fieldFound? o n d = U.fieldFound? o n d := rfl
    have e2 : (s.setVm U.vm).vm = U.vm := rfl
    rw [e1, e2] at h
    cases hc : U.vm.findClass o with
    | none => rw [hc] at h; simp at h
    | some c =>
      cases hf : U.fieldFound? o n d with
      | none => rw [hc, hf] at h; simp at h
      | some y =>
        obtain ⟨c', k, i, f⟩ := y
        rw [hc, hf] at h
        simp only at h ⊢
        cases hst : k.statics with
        | none => rw [hst] at h; simp at h
        | some q =>
          rw [hst] at h
          simp only [Option.bind_some] at h ⊢
          have e3 : (s.setVm U.vm).heap = s.heap := rfl
          rw [e3] at h
          cases hq : s.heap[q]? with
          | none => rw [hq] at h; simp at h
          | some cell =>
            rw [hq] at h
            rw [hh q cell hq]
            exact h
  | isRef t =>
    cases t with
    | static o n d =>
      simp only [Cond.before, Cond.holds, Cond.value, Term.eval] at h ⊢
      have e1 : (s.setVm U.vm).fieldNamed? o n d true = U.fieldNamed? o n d true := rfl
      rw [e1] at h
      cases hf : U.fieldNamed? o n d true with
      | none => rw [hf] at h; simp at h
      | some y =>
        obtain ⟨c', k, i⟩ := y
        rw [hf] at h
        simp only [Option.bind_eq_bind, Option.bind_some] at h ⊢
        cases hst : k.statics with
        | none => rw [hst] at h; simp at h
        | some q =>
          rw [hst] at h
          simp only [Option.bind_some] at h ⊢
          have e3 : (s.setVm U.vm).heap = s.heap := rfl
          rw [e3] at h
          cases hq : s.heap[q]? with
          | none => rw [hq] at h; simp at h
          | some cell =>
            rw [hq] at h
            rw [hh q cell hq]
            exact h
    | _ => exact tab _ hk h
  | _ => exact tab _ hk h
theorem y_L0_kind : ∀ w ∈ y_L0, y_kind w = true := fun w hw => List.all_eq_true.mp (show y_L0.all y_kind = true by decide +kernel) w hw
theorem y_strMoved {A A' : Array Value} {s U : State} (hW : s.WarmedH U.vm) (h : y_S0.before A s = true) : y_S0.before A' U = true := by
  simp only [Cond.before, Cond.holds, Cond.value] at h ⊢
  have hal := hW.alike
  rw [show U.vm.findClass "ServiceRows2" = s.vm.findClass "ServiceRows2" from hal.findClass _ _]
  cases hc : s.vm.findClass "ServiceRows2" with
  | none => rw [hc] at h; simp at h
  | some cur =>
    rw [hc] at h
    simp only [Option.map_some, beq_iff_eq, Option.some.injEq, Bool.and_eq_true] at h ⊢
    obtain ⟨h1, h2⟩ := h
    cases hk : s.vm.classes[cur]? with
    | none => simp [State.resolvedAt?, hc, hk] at h2
    | some k =>
      obtain ⟨k', hk', he⟩ := hal.2.2 _ _ hk
      have hcU : U.vm.findClass "ServiceRows2" = some cur := (hal.findClass _ _).trans hc
      refine ⟨?_, ?_⟩
      · have : U.names "ServiceRows2" 139 (.string "the last answer has no such octet") = s.names "ServiceRows2" 139 (.string "the last answer has no such octet") := by
          unfold State.names State.poolOf?
          simp only [hcU, hc, hk, hk', Option.bind_eq_bind, Option.bind_some]
          rw [he]
        rw [this]
        exact h1
      · have hr : s.resolvedAt? "ServiceRows2" 139 = (k.resolved[139]?).join := by simp [State.resolvedAt?, hc, hk]
        have hr' : U.resolvedAt? "ServiceRows2" 139 = (k'.resolved[139]?).join := by simp [State.resolvedAt?, hcU, hk']
        rw [hr'] 
        rw [hr] at h2
        rcases hW.entry hk hk' 139 with e | ⟨e, -⟩
        · rw [e]; exact h2
        · rw [e] at h2; simp at h2
abbrev y_C0 : Cond := Cond.classLink "ServiceRows2Law" 13 y_xn
def y_TH (b : Nat) (U : State) : Prop := ∃ s0 : State, ((∀ w ∈ y_L0, w.before #[] s0 = true) ∧ y_C0.before #[] s0 = true) ∧ y_S0.before #[] s0 = true ∧ s0.WarmedH U.vm ∧ (∀ (q : Nat) (c : Cell), s0.heap[q]? = some c → U.heap[q]? = some c) ∧ s0.heap.size ≤ b
theorem y_TH.moved {b : Nat} {s U : State} (h : y_TH b s) (hW : s.WarmedH U.vm) (hh : ∀ (q : Nat) (c : Cell), q < b → s.heap[q]? = some c → U.heap[q]? = some c) : y_TH b U := by
  obtain ⟨s0, h1, h2, h3, h4, h5⟩ := h
  exact ⟨s0, h1, h2, State.WarmedH.trans h3 hW, fun q c hq => hh q c (Nat.lt_of_lt_of_le (Array.getElem?_eq_some_iff.mp hq).1 h5) (h4 q c hq), h5⟩
theorem y_TH.words {b : Nat} {U : State} (h : y_TH b U) (A : Array Value) : (∀ w ∈ y_L0, w.before A U = true) ∧ y_S0.before A U = true ∧ y_C0.before A U = true := by
  obtain ⟨s0, h1, h2, h3, h4, h5⟩ := h
  refine ⟨fun w hw => y_up1 (y_L0_kind w hw) h4 (Cond.before_shiftedFace (State.Shifted.of_warmed h3) w (Jvm.Bundle.ownAtoms_keepsFace w hw) (h1.1 w hw)), y_strMoved h3 h2, y_up1 (w := y_C0) rfl h4 (Cond.before_shiftedFace (State.Shifted.of_warmed h3) y_C0 rfl h1.2)⟩

/-! ServiceRows2.answer where it throws -/
theorem y_getf {cl : List vw_C} {ats : List FieldType} {nw : State → Prop} {TB : List Cond} {G : z_G} {own : String} {cc : ByteArray} {nL : Nat} {R0 : Room} {X : z_X} {Q : State → Prop} {cells slots pc : Nat} {st : List Value} {h : z_H} {H : Heap} {locs : List Loc} {ls : Array Slot} (F : z_F cl ats nw TB G own cc nL R0 X) {idx ci j k : Nat} {fs : List Value} {v : Value} (A : z_FA cl TB own idx ci j) (hd : decode cc pc = .ok (.getfield idx, 3)) (r : z_R cl G h H) (hk : h[k]? = some (.inr (ci, fs))) (hv : fs[j]? = some v)
    (kk : z_W X H locs cells slots Q (F0 X.2.2.2.2.2.1 (pc + 3) ls ((v :: st).map (z_v G)))) : z_W X H locs cells slots Q (F0 X.2.2.2.2.2.1 pc ls ((Value.ref k :: st).map (z_v G))) := by
  obtain ⟨⟨C, T, N⟩, hc, hl, hin, hj, hq⟩ := A
  obtain ⟨i, rfl⟩ := r.obj hk hc
  refine va_get (D := G.1) (ci := ci) (v := z_v G v) (fs := fs.map (z_v G)) (C := C) (T := T) (N := N) F.1 F.2.1 F.wd hin F.own F.kn r.2.2 i (z_ws_at hk) hc j hj (F.wd _ hl) (fun x h9 => ?_) ?_ hd kk
  · rw [← show (T j).1 = C from hq]; exact h9
  · rw [List.getElem?_map, hv]; rfl
/-- the octet isn't there: nothing is written -/
theorem y_has {h : z_H} {a o n : Nat} {i : Int32} (ha : h[a]? = some (.inr (1, [.ref o, .int (nI n)]))) (hi : i < 0 ∨ nI n ≤ i) (l : Launch) (G : z_G) :
    Met l yX0_has (Cond.code yX0_has cX0_has 2 (some .boolean) :: wsL_law) (z_rm 0 0 0) (va_Pc ([Value.ref a, .int i].map (z_v G)) (z_U vwCl z_ats z_nw G h)) (fun _ st oc t => oc = .returned (some (.int 0)) ∧ t.heap = st.heap) 0 0 (fun _ => False) := by
  refine Met.ofW (cc := cX0_has) (maxL := 2) (ret := some .boolean) vI_X0_has.2.2.2 rfl ?_
  intro p e s m args below meth cd s₁ B hml hv
  obtain ⟨rfl, hR, hK, hN⟩ := hv
  have hts := atoms_spec (ws := Cond.code yX0_has cX0_has 2 (some .boolean) :: wsL_law) B.pre
  have hb : G.2.2.2 ≤ s.heap.size := by have h1 := hR.pos; have h2 := hR.2.1; omega
  have hl := lv_entry ([Value.ref a, .int i].map (z_v G)) (n := 2) (by rw [z_slen]; exact Nat.le_refl 2)
  rw [lg_entry_eq]
  rw [z_args] at hl
  have F : z_F vwCl z_ats z_nw wsL_law G RX0 cX0_has 2 (z_rm 0 0 0) (p, l, e, z_rm 0 0 0, s, m, ([Value.ref a, .int i].map (z_v G)).toArray, below, meth, cd) := ⟨B.exec, B.bytes, hml, findClass_of_methodNamed B.named, fun w hw => hts w (List.mem_cons_of_mem _ hw), hK, hN, hb, rfl, B.notSynchronized⟩
  have fin : ∀ ls : Array Slot, W p l e (z_rm 0 0 0) s m ([Value.ref a, .int i].map (z_v G)).toArray below meth cd s.heap [] 0 0 (MQ below (fun _ st oc t => oc = .returned (some (.int 0)) ∧ t.heap = st.heap) ([Value.ref a, .int i].map (z_v G)).toArray s 0 0 (fun _ => False)) (F0 m 25 ls []) := fun ls =>
    lv_iconst F.1 F.2.1 dX0_has_25 (v := 0) rfl (W.zret F.1 F.2.1 B.returns rfl (fun t ht _ => ⟨rfl, ht⟩) (fun q hq => by cases hq) dX0_has_26 B.notSynchronized)
  refine lv_iload_n F.1 F.2.1 dX0_has_0 rfl (z_atL hl (i := 1) (v := .int i) rfl) ?_
  refine lv_if_lt (tgt := 25) F.1 F.2.1 dX0_has_1 (by decide) (fun _ => fin _) (fun c1 => ?_)
  refine lv_iload_n F.1 F.2.1 dX0_has_4 rfl (z_atL hl (i := 1) (v := .int i) rfl) ?_
  refine lv_aload_n F.1 F.2.1 dX0_has_5 rfl (z_atL hl (i := 0) (v := .ref a) rfl) ?_
  refine y_getf (X := (p, l, e, z_rm 0 0 0, s, m, ([Value.ref a, .int i].map (z_v G)).toArray, below, meth, cd)) (st := [.int i]) (k := a) (v := .int (nI n)) F vF_X0_15 dX0_has_6 hR ha rfl ?_
  refine lv_icmp_ge (tgt := 25) F.1 F.2.1 dX0_has_9 (by decide) (fun _ => fin _) (fun c2 => ?_)
  rcases hi with hi | hi
  · exact absurd hi c1
  · exact absurd hi c2
/-- the octet isn't there: the exception stands at the heap's end -/
def y_Q (G : z_G) (h : z_H) : Array Value → State → Addr → State → Prop := fun _ st x t => x = z_ad G h.length ∧ z_R vwCl G (h ++ [.inr (0, [])]) t.heap ∧ va_F (z_A G) st t
theorem y_clJ : Cond.classLink RX5 137 RJx00060 ∈ wsL_law := wL_23 _ (by decide +kernel)
theorem y_inJ : Cond.instantiable RJx00060 6 ∈ wsL_law := wL_23 _ (by decide +kernel)
theorem y_iiJ : Cond.initialized RJx00060 ∈ wsL_law := wL_23 _ (by decide +kernel)
theorem y_same {s U : State} {n k : Nat} (h : s.sameButNew ({ U with vm := s.vm } : State) [] n k) : s.heap.size ≤ U.heap.size ∧ U.heap.size ≤ s.heap.size + n ∧ ∀ q, q < s.heap.size → U.heap[q]? = s.heap[q]? := by
  obtain ⟨-, h1, h2, -, -, h5⟩ := h
  refine ⟨h1, h2, fun q hq => ?_⟩
  obtain ⟨c', e1, e2, e3, e4⟩ := h5 q s.heap[q] (Array.getElem?_eq_some_iff.mpr ⟨hq, rfl⟩)
  have e5 : c'.slots = s.heap[q].slots := Array.ext_getElem? (fun i => e4 i (by intro h; cases h))
  rw [e5] at e2
  rw [Array.getElem?_eq_some_iff.mpr ⟨hq, rfl⟩]
  exact e1.trans (congrArg some e2)
set_option maxHeartbeats 4000000 in
theorem y_answer {h : z_H} {fs : List Value} {a o n : Nat} {i : Int32} (hx : h[1]? = some (.inr (6, fs))) (hf : fs[14]? = some (.ref a)) (ha : h[a]? = some (.inr (1, [.ref o, .int (nI n)]))) (hi : i < 0 ∨ nI n ≤ i) (l : Launch) (hl0 : l.stackTraces = false) (G : z_G) :
    y_MT l yX5_answer (Cond.code yX5_answer cX5_answer 2 (some .byte) :: wsL_law) (z_rm 7 1 6) (va_Pc ([Value.ref 1, .int i].map (z_v G)) (fun U => z_U vwCl z_ats z_nw G h U ∧ y_TH G.2.2.2 U)) (y_Q G h) 1 6 (z_A G) := by
  refine MetFree.of_bodyS (code := cX5_answer) (maxLocals := 2) (ret := some .byte) vI_X5_answer.2.2.2 ?_ ?_
  · intro args s m h hn
    obtain ⟨meth, c, h1, h2, h3, h4, h5, h6, -, -⟩ := Cond.code_spec hn (atoms_spec (ws := Cond.code yX5_answer cX5_answer 2 (some .byte) :: wsL_law) h _ List.mem_cons_self)
    exact ⟨meth, c, h1, h2, h3, h4, h5, h6⟩
  intro p e s m args below meth cd s₁ B hml hv _
  obtain ⟨rfl, ⟨hR, hK, hN⟩, hT0⟩ := hv
  have hh0 : s₁.heap = s.heap := by rw [B.state]; rfl
  have hts := atoms_spec (ws := Cond.code yX5_answer cX5_answer 2 (some .byte) :: wsL_law) B.pre
  have hb : G.2.2.2 ≤ s.heap.size := by have h1 := hR.pos; have h2 := hR.2.1; omega
  have hl := lv_entry ([Value.ref 1, .int i].map (z_v G)) (n := 2) (by rw [z_slen]; exact Nat.le_refl 2)
  rw [z_args] at hl
  have hcodeV := hts _ List.mem_cons_self
  have F : z_F vwCl z_ats z_nw wsL_law G RX5 cX5_answer 2 (z_rm 7 1 6) (p, l, e, z_rm 7 1 6, s, m, ([Value.ref 1, .int i].map (z_v G)).toArray, below, meth, cd) := ⟨B.exec, B.bytes, hml, findClass_of_methodNamed B.named, fun w hw => hts w (List.mem_cons_of_mem _ hw), hK, hN, hb, rfl, B.notSynchronized⟩
  have X₀ := Stand.of_body B
  have htr : e.platform.stackTraces = false := by rw [Jvm.Example.NoTraceControls.admits_follows X₀.admits]; exact hl0
  obtain ⟨hwords, hstr, -⟩ := hT0.words ([Value.ref 1, .int i].map (z_v G)).toArray
  have key : W p l e (z_rm 7 1 6) s m ([Value.ref 1, .int i].map (z_v G)).toArray below meth cd s.heap [] 0 0 (fun t => ∃ oc, t.status = .running ∧ Ended t below oc ∧ (∃ x, oc = .threw x ∧ y_Q G h ([Value.ref 1, .int i].map (z_v G)).toArray s x t) ∧ s.WarmedH t.vm ∧ ∃ L, s.sameButNew ({ t with vm := s.vm } : State) L 1 6 ∧ ∀ q ∈ L, z_A G q.base) (entryFrame m ([Value.ref 1, .int i].map (z_v G)).toArray 2) := by
    rw [lg_entry_eq]
    refine lv_aload_n F.1 F.2.1 dX5_answer_0 rfl (z_atL hl (i := 0) (v := .ref 1) rfl) ?_
    refine y_getf (X := (p, l, e, z_rm 7 1 6, s, m, ([Value.ref 1, .int i].map (z_v G)).toArray, below, meth, cd)) (st := []) (k := 1) (v := .ref a) F vF_X5_67 dX5_answer_1 hR hx hf ?_
    refine lv_iload_n F.1 F.2.1 dX5_answer_4 rfl (z_atL hl (i := 1) (v := .int i) rfl) ?_
    have hcw := callB_of (R := z_rm 7 1 6) (s := s) (args := ([Value.ref 1, .int i].map (z_v G)).toArray) (rm := z_rm 0 0 0) (mc := 0) (ms := 0) 1 F.wd (z_good wL_good vI_X0_has.1) rfl rfl rfl (F.wd _ vI_X0_has.2.1) (F.wd _ vM_X5_133) ⟨vI_X0_has.2.2.1.1, vI_X0_has.2.2.1.2, rfl⟩ ⟨by decide, by decide⟩
    obtain ⟨ia, rfl⟩ := hR.obj ha (q := (RX0, TX0, 2)) rfl
    have hrun := va_runV (p := p) (l := l) (e := e) (below := below) (meth := meth) (H := s.heap) (locs := []) (cells := 0) (slots := 0) (C := RX0) (As := [Value.int i]) (b := z_ad G (ia + 1)) (rest := []) ⟨F.1, F.2.1, F.2.2.1, F.own, F.wd⟩ (y_has ha hi l G) ⟨hcw, F.wd _ vV_X0_has, F.wd _ vL_X0_has⟩ ⟨z_blind z_nwOK, va_recv (D := G.1) (ci := 1) F.kn hR.2.2 rfl (z_ws_at ha), fun U hU hW => ⟨rfl, by rw [hU]; exact hR, va_K.moved hW.alike F.kn, z_nwOK.1 _ _ hW F.nws⟩⟩ (g := F0 m 5 ((lg_sl ([Value.ref 1, .int i].map (z_v G)) ++ List.replicate (2 - (lg_sl ([Value.ref 1, .int i].map (z_v G))).length) Slot.unset).toArray) (.int i :: [.ref (z_ad G (ia + 1))])) rfl rfl hl.1 rfl (Nat.le_of_ble_eq_true rfl) dX5_answer_5 ⟨by decide, by decide⟩
    intro T hT X
    obtain ⟨v, st0, t, T', L, h1, X1, hL, e1, e2, ⟨hv, e3⟩, go⟩ := hrun T hT X
    obtain rfl : L = [] := List.eq_nil_iff_forall_not_mem.mpr (fun q hq => hL q hq)
    injection hv with hv
    subst hv
    have hT1 : T'.heap = s.heap := by rw [e1, e3, h1]
    suffices hk : W p l e (z_rm 7 1 6) s m ([Value.ref 1, .int i].map (z_v G)).toArray below meth cd s.heap [] 0 0 (fun t => ∃ oc, t.status = .running ∧ Ended t below oc ∧ (∃ x, oc = .threw x ∧ y_Q G h ([Value.ref 1, .int i].map (z_v G)).toArray s x t) ∧ s.WarmedH t.vm ∧ ∃ L, s.sameButNew ({ t with vm := s.vm } : State) L 1 6 ∧ ∀ q ∈ L, z_A G q.base) (F0 m 8 ((lg_sl ([Value.ref 1, .int i].map (z_v G)) ++ List.replicate (2 - (lg_sl ([Value.ref 1, .int i].map (z_v G))).length) Slot.unset).toArray) [.int 0]) by
      obtain ⟨t2, s1, s2⟩ := hk T' hT1 X1
      exact ⟨t2, go t2 s1, s2⟩
    refine lv_if_ne (tgt := 21) F.1 F.2.1 dX5_answer_8 (by decide) (fun c8 => absurd rfl c8) (fun _ => ?_)
    refine W.newc F.1 F.2.1 F.own (F.wd _ y_clJ) (F.wd _ y_inJ) (F.wd _ y_iiJ) rfl dX5_answer_11 (by decide) (by decide) (fun cX kX hfX hkX _ _ => ?_)
    refine lv_dup F.1 F.2.1 dX5_answer_14 rfl ?_
    intro T2 hT2 X2
    obtain ⟨-, -, -, sa, -, -, -, -, -, hev⟩ := Cond.stringRef_spec F.own hstr
    have hcell : T2.heap[s.heap.size]? = some (freshCell cX kX) := by rw [hT2]; exact Array.getElem?_push_size
    obtain ⟨U, hsteps, hrun2, hend, hW, hsame, ce, hce, K⟩ := X2.ctorThrowS F.1 htr (own := "ServiceRows2") (cls := y_xn) (names := y_up) (ic := 141) F.own (by decide +kernel) (by decide +kernel) hwords (fun y hy => by cases hy) hfX hkX hcell (Nat.le_refl _) (msg := .ref sa) rfl
      (g := F0 m 17 ((lg_sl ([Value.ref 1, .int i].map (z_v G)) ++ List.replicate (2 - (lg_sl ([Value.ref 1, .int i].map (z_v G))).length) Slot.unset).toArray) [.ref sa, .ref s.heap.size, .ref s.heap.size]) rfl (hl.1.trans hml.symm) rfl rfl (rest := []) rfl
      (by rw [B.bytes]; exact dX5_answer_17) (by rw [B.bytes]; exact dX5_answer_20) (covers_of_empty (B.noHandlers hcodeV) _) (by decide) (Nat.le_of_ble_eq_true rfl) B.notSynchronized
    refine ⟨U, X2.ldcString F.1 (own := "ServiceRows2") (text := "the last answer has no such octet") (index := 139) (a := sa) F.own hstr hev (g := F0 m 15 ((lg_sl ([Value.ref 1, .int i].map (z_v G)) ++ List.replicate (2 - (lg_sl ([Value.ref 1, .int i].map (z_v G))).length) Slot.unset).toArray) [.ref s.heap.size, .ref s.heap.size]) rfl (by rw [B.bytes]; exact dX5_answer_15) _ hsteps, .threw s.heap.size, hrun2, hend, ⟨_, rfl, hR.top.symm, ?_, ?_⟩, hW, [], hsame, fun q hq => by cases hq⟩
    · obtain ⟨z1, z2, z3⟩ := y_same (s := s) (n := 1) (k := 6) hsame
      have hlt : s.heap.size < U.heap.size := (Array.getElem?_eq_some_iff.mp hce).1
      have hc0 : ce.cls = G.1.1 0 := Option.some.inj (K.cls.symm.trans (hK.1 0 (RJx00060, TJx00060, 0) rfl).2.1)
      refine hR.push (e := .inr (0, [])) ⟨(RJx00060, TJx00060, 0), rfl, ce, ?_, hc0, K.vm, fun k hk => absurd hk (Nat.not_lt_zero k)⟩ (by omega) z3
      rw [hR.top]; exact hce
    · obtain ⟨z1, z2, z3⟩ := y_same hsame
      exact ⟨z1, fun q hq _ => z3 q hq⟩
  obtain ⟨t, a1, oc, b1, b2, b3, b4, b5⟩ := key s₁ hh0 X₀
  exact ⟨t, oc, a1, b1, b2, b3, b4, b5⟩

theorem y_blind {as : List Value} {G : z_G} {h : z_H} : FrameBlind (va_Pc as (fun U => z_U vwCl z_ats z_nw G h U ∧ y_TH G.2.2.2 U)) := by
  intro a U g mk q
  obtain ⟨q0, q1, q2⟩ := q
  exact ⟨q0, (z_blind (as := as) z_nwOK a U g mk ⟨q0, q1⟩).2, q2.moved (State.WarmedH.refl U) (fun _ _ _ e => e)⟩
theorem y_kept {G : z_G} {s : State} {H : Heap} {locs : List Loc} (b : va_S (z_A G) s.heap H locs) (q : Nat) (c : Cell) (hq : q < G.2.2.2) (e : s.heap[q]? = some c) : H[q]? = some c := by
  rw [b.2.1 q (Array.getElem?_eq_some_iff.mp e).1 (fun h => absurd hq (Nat.not_lt.mpr h))]
  exact e
theorem y_castJ : Cond.castable y_xn y_xn ∈ y_L0 := by simp [Jvm.Bundle.ownAtoms]
/-- a call that throws, and is caught here -/
theorem z_callT {G : z_G} {own : String} {cc : ByteArray} {nL : Nat} {R0 : Room} {X : z_X} {Q : State → Prop} {cells slots pc : Nat} {lv : List (Nat × Value)} {h : z_H} (F : z_F vwCl z_ats z_nw wsL_law G own cc nL R0 X) (hTH : y_TH G.2.2.2 X.2.2.2.2.1) {y : MethodName} {c : ByteArray} {maxL rk mc ms idx n k ci : Nat} {rt : Option FieldType} {as rest fs : List Value} {stk : List Value} {q : vw_C}
    (hM : y_MT X.2.1 y (Cond.code y c maxL rt :: wsL_law) (z_rm rk mc ms) (va_Pc ((Value.ref k :: as).map (z_v G)) (fun U => z_U vwCl z_ats z_nw G h U ∧ y_TH G.2.2.2 U)) (y_Q G h) mc ms (z_A G)) (hk : h[k]? = some (.inr (ci, fs))) (hc : vwCl[ci]? = some q) (I : z_FI wsL_law y c maxL rt) (hl : Cond.methodLink own idx y ∈ wsL_law) (hv : Cond.instanceMethod y ∈ wsL_law) (hs : Cond.selects q.1 y y ∈ wsL_law) (hn : (parseMethodDescriptor y.desc).map (fun d => d.parameters.length) = some n) (hd : decode cc pc = .ok (.invokevirtual idx, 3))
    (hstk : stk = as.reverse ++ .ref k :: rest) (hlen : as.length = n) (hcat : (rest.map fun v => v.category).sum ≤ 8) (hR : rk + 1 ≤ R0.frames ∧ 8 + (maxL + 11) + 40 * rk ≤ R0.locals ∧ cells + mc ≤ R0.cells ∧ slots + ms ≤ R0.slots)
    {x : ExceptionTableEntry} (hx1 : X.2.2.2.2.2.2.2.2.2.exceptionTable.toList = [x]) (hcov : covers x pc = true) (hcl0 : own = "ServiceRows2Law" ∧ x.catchType = 13)
    (kk : z_V vwCl G nL X Q (cells + mc) (slots + ms) x.handlerPc lv [.ref h.length] (h ++ [.inr (0, [])])) : z_V vwCl G nL X Q cells slots pc lv stk h := by
  intro H locs ls r b d
  subst hstk
  obtain ⟨ik, rfl⟩ := r.obj hk hc
  intro T hT S
  have hG : GoodIn wsL_law (Cond.code y c maxL rt :: wsL_law) := z_good wL_good I.1
  have hpay := pay_in F.wd hG
  obtain ⟨cellB, hcB, hoB, hclB⟩ := va_recv (D := G.1) (ci := ci) F.kn r.2.2 hc (z_ws_at hk)
  obtain ⟨x0, st0, t, T', L, h1, S', hL, e1, ⟨hx0, hR1, hF1⟩, go⟩ := y_callVT S F.1 (own := own) (C := q.1) (index := idx) (y := y) (bytes := c) (maxL := maxL) (ret := rt) F.own (F.wd _ hl) (F.wd _ hv) (F.wd _ hs) (F.wd _ I.1) I.2.2.1 hM y_blind rfl rfl
    (by rw [F.room]; exact hR.1) (by rw [F.room]; exact hR.2.1) hpay (fun a' U hW => word_at hW (Or.inl rfl) (F.wd _ I.2.1)) (hpay _ List.mem_cons_self) (b := z_ad G (ik + 1)) (by rw [hT]; exact hcB) hoB hclB (g := F0 X.2.2.2.2.2.1 pc ls ((as.reverse ++ Value.ref (ik + 1) :: rest).map (z_v G))) rfl (d.1.trans F.2.2.1.symm)
    (argsL := as.map (z_v G)) (rest := rest.map (z_v G)) (fun sig hsig => by rw [hsig] at hn; rw [List.length_map, hlen]; exact (Option.some.inj hn).symm) (by rw [List.map_append, List.map_reverse]; rfl) (z_room hcat) (by rw [F.2.1]; exact hd) (by rw [F.room]; exact hR.2.2.1) (by rw [F.room]; exact hR.2.2.2)
    (fun vm₁ hW => ⟨rfl, ⟨by show z_R vwCl G h T.heap; rw [hT]; exact r, va_K.moved (U := T.setVm vm₁) hW.alike F.kn, z_nwOK.1 _ (T.setVm vm₁) hW F.nws⟩, hTH.moved (U := T.setVm vm₁) hW (fun q0 c0 hq0 e0 => by show T.heap[q0]? = some c0; rw [hT]; exact y_kept b q0 c0 hq0 e0)⟩)
  subst hx0
  have b' : va_S (z_A G) X.2.2.2.2.1.heap t.heap (locs ++ L) := by
    have h1' : st0.heap = H := h1.trans hT
    refine ⟨Nat.le_trans b.1 (by rw [← h1']; exact hF1.1), fun q0 q1 q2 => ?_, fun l0 hl0 => ?_⟩
    · rw [hF1.2 q0 (by rw [h1']; exact Nat.lt_of_lt_of_le q1 b.1) q2, h1']
      exact b.2.1 q0 q1 q2
    · rcases List.mem_append.mp hl0 with hl0 | hl0
      · exact b.2.2 l0 hl0
      · exact hL l0 hl0
  have hlen0 := r.pos
  have hat : (h ++ [(.inr (0, []) : z_E)])[(h.length - 1) + 1]? = some (.inr (0, [])) := by
    rw [show h.length - 1 + 1 = h.length by omega]; simp
  obtain ⟨r0, hr0, ce, hce, hcc, hcv, -⟩ := hR1.2.2 _ _ (z_ws_at hat)
  have hce' : T'.heap[z_ad G h.length]? = some ce := by rw [e1]; rw [show h.length - 1 + 1 = h.length by omega] at hce; exact hce
  obtain ⟨hwords, -, hlink0⟩ := hTH.words X.2.2.2.2.2.2.1
  have hlink : (Cond.classLink own x.catchType y_xn).before X.2.2.2.2.2.2.1 X.2.2.2.2.1 = true := by rw [hcl0.1, hcl0.2]; exact hlink0
  have hpl : X.2.2.1.platform.magicAccessors = ({} : Platform).magicAccessors := by rw [S.admits.platform]
  obtain ⟨cT, hcT, hcl⟩ := Cond.classLink_spec F.own hlink X.2.2.1.platform hpl
  obtain ⟨dk, _, _, kt, hd0, _, _, _, _, hkt, _, hopen⟩ := hcl.here
  have hcl1 := S'.warmed.classLinks hcl
  have hW' : X.2.2.2.2.1.WarmedH (T'.vm.noted X.2.2.2.2.2.1.cls x.catchType (.cls cT)) := S'.warmed.noted hd0 hopen (State.rightAt_cls hcl)
  have hal := S'.warmed.alike
  obtain ⟨kt', hkt', -⟩ := hal.2.2 _ _ hkt
  obtain ⟨c3, c4, hc3, hc4, hasg⟩ := Cond.castable_spec (hwords _ y_castJ)
  cases hcT.symm.trans hc3
  cases hcT.symm.trans hc4
  have hceC : ce.cls = cT := by rw [hcc]; exact Option.some.inj ((F.kn.1 0 (RJx00060, TJx00060, 0) rfl).2.1.symm.trans hcT)
  have hfit' : T'.vm.assignable ce.cls cT = true := by rw [hal.assignable, hceC]; exact hasg
  have hw := kk t.heap (locs ++ L) ls hR1 b' d
  obtain ⟨t2, s1, s2⟩ := hw (T'.setVm (T'.vm.noted X.2.2.2.2.2.1.cls x.catchType (.cls cT))) e1 (S'.noted hW')
  refine ⟨t2, go t2 ?_, s2⟩
  exact y_caught (s := T') (c := X.2.2.2.2.2.2.2.2.2) (g := F0 X.2.2.2.2.2.1 pc ls (rest.map (z_v G))) S'.here (y_find1 (f := F0 X.2.2.2.2.2.1 pc ls (rest.map (z_v G))) (s := (T'.setTop (F0 X.2.2.2.2.2.1 pc ls (rest.map (z_v G)))).pushFrame (.throwing (z_ad G h.length))) (meth := X.2.2.2.2.2.2.2.2.1) (code := X.2.2.2.2.2.2.2.2.2) S'.method' S'.code hx1 hcov (by rw [hcl0.2]; decide) (c := cT) (cell := ce) hcl1 hce' (fun k0 => by rw [hcv]; intro e; cases e)
    (Vm.classAt_of_assignable hfit' ⟨kt', hkt'⟩) ⟨kt', hkt'⟩ hfit') s1

abbrev y_hh : List (Nat × Nat × Nat × Nat) := [(0, 9, 12, 13)]
theorem y_cdL : Cond.codeWith yL_answer cL_answer 4 (some .int) y_hh ∈ wsL_law := wL_23 _ (by decide +kernel)
theorem y_inL : Cond.initialized RL ∈ wsL_law := wL_23 _ (by decide +kernel)
theorem y_stL : Cond.static yL_answer ∈ wsL_law := wL_22 _ (by decide +kernel)
/-- the contract of the law's own method, with its table -/
def z_MW (as : List Value) (h : z_H) (Q' : Option Value → z_H → Prop) : Prop :=
  ∀ l : Launch, l.stackTraces = false → ∀ G : z_G, Met l yL_answer (Cond.codeWith yL_answer cL_answer 4 (some .int) y_hh :: wsL_law) (z_rm 8 1 6) (va_Pc (as.map (z_v G)) (fun U => z_U vwCl z_ats z_nw G h U ∧ y_TH G.2.2.2 U)) (z_Q vwCl z_ats z_nw G Q') 1 6 (z_A G)
theorem z_metW {as : List Value} {h : z_H} {Q' : Option Value → z_H → Prop} (hlen : (lg_sl as).length ≤ 4)
    (body : ∀ (G : z_G) (X : z_X), X.2.1.stackTraces = false → z_F vwCl z_ats z_nw wsL_law G RL cL_answer 4 (z_rm 8 1 6) X → y_TH G.2.2.2 X.2.2.2.2.1 → (∃ x : ExceptionTableEntry, X.2.2.2.2.2.2.2.2.2.exceptionTable.toList = [x] ∧ x.startPc = 0 ∧ x.endPc = 9 ∧ x.handlerPc = 12 ∧ x.catchType = 13) → X.2.2.2.2.2.2.2.2.1.sig.returnType = some .int → z_V vwCl G 4 X (z_end vwCl z_ats z_nw G X 1 6 Q') 0 0 0 (lv_args 0 as) [] h) : z_MW as h Q' := by
  intro l hl0 G
  refine va_MetW (hh := y_hh) (cc := cL_answer) (maxL := 4) (ret := some .int) (by decide +kernel) rfl ?_
  intro p e s m args below meth cd s₁ B hml hv
  obtain ⟨rfl, ⟨hR, hK, hN⟩, hT0⟩ := hv
  have hts := atoms_spec (ws := Cond.codeWith yL_answer cL_answer 4 (some .int) y_hh :: wsL_law) B.pre
  have hb : G.2.2.2 ≤ s.heap.size := by have h1 := hR.pos; have h2 := hR.2.1; omega
  have hl := lv_entry (as.map (z_v G)) (n := 4) (by rw [z_slen]; exact hlen)
  rw [lg_entry_eq]
  rw [z_args] at hl
  obtain ⟨m9, meth9, c9, hn9, hm9, hc9, -, -, htab, -⟩ := Cond.codeWith_spec (hts _ List.mem_cons_self)
  cases hn9.symm.trans B.named
  cases hm9.symm.trans B.method
  cases hc9.symm.trans (Stand.of_body B).code
  have hx : ∃ x : ExceptionTableEntry, cd.exceptionTable.toList = [x] ∧ x.startPc = 0 ∧ x.endPc = 9 ∧ x.handlerPc = 12 ∧ x.catchType = 13 := by
    cases hL : cd.exceptionTable.toList with
    | nil => rw [hL] at htab; have h9 := congrArg List.length htab; simp at h9
    | cons x xs =>
      rw [hL] at htab
      cases xs with
      | cons x2 xs2 => have h9 := congrArg List.length htab; simp at h9
      | nil =>
        simp only [List.map_cons, List.map_nil, List.cons.injEq, Prod.mk.injEq, and_true] at htab
        exact ⟨x, rfl, htab.1, htab.2.1, htab.2.2.1, htab.2.2.2⟩
  exact body G (p, l, e, z_rm 8 1 6, s, m, (as.map (z_v G)).toArray, below, meth, cd) hl0 ⟨B.exec, B.bytes, hml, findClass_of_methodNamed B.named, fun w hw => hts w (List.mem_cons_of_mem _ hw), hK, hN, hb, rfl, B.notSynchronized⟩ hT0 hx B.returns s.heap [] _ hR va_S.rf hl
/-- its call -/
theorem z_callSW {G : z_G} {own : String} {cc : ByteArray} {nL : Nat} {R0 : Room} {X : z_X} {Q : State → Prop} {cells slots pc : Nat} {lv : List (Nat × Value)} {h : z_H} (F : z_F vwCl z_ats z_nw wsL_law G own cc nL R0 X) (hl0 : X.2.1.stackTraces = false) (hTH : y_TH G.2.2.2 X.2.2.2.2.1) {idx : Nat} {as rest : List Value} {stk : List Value} {Q' : Option Value → z_H → Prop} (hM : z_MW as h Q') (hl : Cond.methodLink own idx yL_answer ∈ wsL_law) (hd : decode cc pc = .ok (.invokestatic idx, 3))
    (hstk : stk = as.reverse ++ rest) (hlen : as.length = 3) (hcat : (rest.map fun v => v.category).sum ≤ 8) (hR : 9 ≤ R0.frames ∧ 343 ≤ R0.locals ∧ cells + 1 ≤ R0.cells ∧ slots + 6 ≤ R0.slots)
    (kk : ∀ (v : Option Value) (h' : z_H), Q' v h' → z_V vwCl G nL X Q (cells + 1) (slots + 6) (pc + 3) lv (v.toList ++ rest) h') : z_V vwCl G nL X Q cells slots pc lv stk h := by
  intro H locs ls r b d
  subst hstk
  refine z_back (ats := z_ats) (nw := z_nw) (a := (as.map (z_v G)).toArray) (stk := ((as.reverse ++ rest).map (z_v G))) r b d ?_ kk
  have hG : GoodIn wsL_law (Cond.codeWith yL_answer cL_answer 4 (some .int) y_hh :: wsL_law) := z_good wL_good y_cdL
  have hpay := pay_in F.wd hG
  have hK : Back X.2.1 X.2.2.2.1 X.1 X.2.2.1 X.2.2.2.2.2.2.2.1 X.2.2.2.2.1 X.2.2.2.2.2.2.1 yL_answer 3 8 (PreOf X.2.2.2.1 1 6 _) (PostOf _ 1 6 (z_A G)) := va_backW (hh := y_hh) (bytes := cL_answer) (maxL := 4) (ret := some .int) (hM X.2.1 hl0 G) y_blind rfl rfl (by rw [F.room]; exact hR.1) (by rw [F.room]; exact hR.2.1) hpay List.mem_cons_self (fun a' U hW => word_at hW (Or.inl rfl) (F.wd _ y_inL))
  intro T hT S
  obtain ⟨mk, methM, cM, hnamed, hmethM, -, -, -, -, -, -, hsigM⟩ := Cond.codeWith_spec (F.wd _ y_cdL)
  have hstatic : methM.isStatic = true := Cond.static_spec hnamed hmethM (F.wd _ y_stL)
  obtain ⟨kP, hkP, -⟩ := className_of_methodNamed hnamed
  have hinitP : kP.init = .initialized := Cond.initialized_spec (findClass_of_methodNamed hnamed) hkP (F.wd _ y_inL)
  have hsl : methM.sig.parameters.length = 3 := by
    have h3 : (parseMethodDescriptor yL_answer.desc).map (fun d => d.parameters.length) = some 3 := by decide +kernel
    rw [hsigM] at h3
    exact Option.some.inj h3
  obtain ⟨vm₁, X₁, hstep₁⟩ := S.invokestatic F.1 F.own (F.wd _ hl) hnamed hmethM hstatic hkP hinitP (by decide +kernel) (g := F0 X.2.2.2.2.2.1 pc ls ((as.reverse ++ rest).map (z_v G))) rfl (argsL := as.map (z_v G)) (rest := rest.map (z_v G)) (by rw [List.length_map, hlen, hsl]) (by rw [List.map_append, List.map_reverse]) (by rw [F.2.1]; exact hd)
  obtain ⟨v, ⟨U', l2, c2, s2⟩, X', ⟨g', mk2, t, L, e1, e2, hq, h1, hL, h2, h3⟩, hsteps⟩ := hK X.2.2.2.2.2.1 X.2.2.2.2.2.2.2.2.1 X.2.2.2.2.2.2.2.2.2 ⟨T.setVm vm₁, locs, cells, slots⟩ (F0 X.2.2.2.2.2.1 pc ls (rest.map (z_v G))) (.invokestatic idx) mk (as.map (z_v G)).toArray X₁ rfl (d.1.trans F.2.2.1.symm) (by rw [F.2.1]; exact hd) (z_room hcat) (X₁.named hnamed)
    ⟨by rw [F.room]; exact hR.2.2.1, by rw [F.room]; exact hR.2.2.2, rfl, ⟨by show z_R vwCl G h T.heap; rw [hT]; exact r, va_K.moved (U := T.setVm vm₁) X₁.warmed.alike F.kn, z_nwOK.1 _ (T.setVm vm₁) X₁.warmed F.nws⟩, hTH.moved (U := T.setVm vm₁) X₁.warmed (fun q0 c0 hq0 e0 => by show T.heap[q0]? = some c0; rw [hT]; exact y_kept b q0 c0 hq0 e0)⟩
  dsimp only [Pt.U, Pt.locs, Pt.cells, Pt.slots] at X' e1 e2 h1 h2 h3 hsteps
  subst h1; subst h2; subst h3
  exact ⟨v, (T.setVm vm₁).calling g' mk2 (as.map (z_v G)).toArray, t, U', L, hT, X', hL, e1, e2, hq, fun target hh => hstep₁ _ fun acts => by rw [doInvoke_state]; exact hsteps.trans hh⟩

set_option maxRecDepth 100000 in
set_option maxHeartbeats 1000000 in
theorem c_X5_answer {S : z_S} {x : z_Xc} {m : Nat → z_E} {d : z_H} {j : Nat} (A : AR S x) (hj : j < sN S 40) (hb : (xa x j).toInt8.toInt32 = xa x j) : z_K yX5_answer cX5_answer 2 (some .byte) 2 0 0 [.ref 1, .int (nI j)] (HP (cfun S x) m d) (fun v h' => v = some (.int (xa x j)) ∧ h' = (HP (cfun S x) m d)) := by
  refine z_met vI_X5_answer (Nat.le_of_ble_eq_true rfl) (fun G X F hr hnm => ?_)
  refine z_aload_n F dX5_answer_0 rfl rfl ?_
  refine z_getf F vF_X5_67 dX5_answer_1 cO_at rfl ?_
  refine z_iload_n F dX5_answer_4 rfl ?_
  refine z_callV F z_nwOK wL_good (c_X0_has_y cAn (show sN S 40 ≤ 41 from A.1) hj) cAn.1 rfl vI_X0_has vM_X5_133 vV_X0_has vL_X0_has rfl dX5_answer_5 rfl rfl (Nat.le_of_ble_eq_true rfl) ⟨(Nat.le_of_ble_eq_true rfl), (Nat.le_of_ble_eq_true rfl), (Nat.le_of_ble_eq_true rfl), (Nat.le_of_ble_eq_true rfl)⟩ (fun v h1 hq => ?_)
  obtain ⟨rfl, rfl⟩ := hq
  refine z_if_ne (tgt := 21) F dX5_answer_8 (by decide) (fun c8 => ?_) (fun c8 => absurd c8 (by decide))
  refine z_aload_n F dX5_answer_21 rfl rfl ?_
  refine z_getf F vF_X5_67 dX5_answer_22 cO_at rfl ?_
  refine z_iload_n F dX5_answer_25 rfl ?_
  refine z_callV F z_nwOK wL_good (c_X0_octetAt cAn (show sN S 40 ≤ 41 from A.1) hj hb) cAn.1 rfl vI_X0_octetAt vM_X5_144 vV_X0_octetAt vL_X0_octetAt rfl dX5_answer_26 rfl rfl (Nat.le_of_ble_eq_true rfl) ⟨(Nat.le_of_ble_eq_true rfl), (Nat.le_of_ble_eq_true rfl), (Nat.le_of_ble_eq_true rfl), (Nat.le_of_ble_eq_true rfl)⟩ (fun v h1 hq => ?_)
  obtain ⟨rfl, rfl⟩ := hq
  exact z_iret F hr dX5_answer_29 (congrArg Value.int hb) (Nat.le_of_ble_eq_true rfl) (Nat.le_of_ble_eq_true rfl) (⟨rfl, rfl⟩)

theorem mA_o {c : Nat → z_E} {S : z_S} {o : Nat → Int64} {d : z_H} : (HP c (mfun S o) d)[31]? = some (.inl (2, 1, .inr (.inl o))) := rfl
theorem ms_o {c : Nat → z_E} {S : z_S} {o o' : Nat → Int64} {d : z_H} : (HP c (mfun S o) d).set 31 (.inl (2, 1, .inr (.inl o'))) = HP c (mfun S o') d := rfl

set_option maxRecDepth 100000 in
set_option maxHeartbeats 1000000 in
theorem c_L_answer_y {S S' : z_S} {x : z_Xc} {o : Nat → Int64} {d : z_H} {j : Nat} (A : AR S x) (hj : j < sN S 40) (hb : (xa x j).toInt8.toInt32 = xa x j) : z_MW [.ref 1, .int (nI j), .ref 31] (HP (cfun S x) (mfun S' o) d) (fun v h' => v = some (.int 0) ∧ h' = HP (cfun S x) (mfun S' (vp_updL o 0 (xa x j).toInt64)) d) := by
  refine z_metW (Nat.le_of_ble_eq_true rfl) (fun G X hl0 F hTH hx hr => ?_)
  refine z_aload_n F dL_answer_0 rfl rfl ?_
  refine z_iconst (v := 0) F dL_answer_1 rfl ?_
  refine z_aload_n F dL_answer_2 rfl rfl ?_
  refine z_iload_n F dL_answer_3 rfl ?_
  refine z_callV F z_nwOK wL_good (c_X5_answer A hj hb) cO_at rfl vI_X5_answer vM_L_7 vV_X5_answer vL_X5_answer rfl dL_answer_4 rfl rfl (Nat.le_of_ble_eq_true rfl) ⟨(Nat.le_of_ble_eq_true rfl), (Nat.le_of_ble_eq_true rfl), (Nat.le_of_ble_eq_true rfl), (Nat.le_of_ble_eq_true rfl)⟩ (fun v h1 hq => ?_)
  obtain ⟨rfl, rfl⟩ := hq
  refine z_i2l F dL_answer_7 ?_
  refine z_last (j := 0) F dL_answer_8 mA_o rfl rfl (show 0 < 1 by omega) (Nat.le_of_ble_eq_true rfl) ?_
  refine z_goto (tgt := 15) F dL_answer_9 (by decide) ?_
  refine z_iconst (v := 0) F dL_answer_15 rfl ?_
  exact z_iret F hr dL_answer_16 rfl (Nat.le_of_ble_eq_true rfl) (Nat.le_of_ble_eq_true rfl) (⟨rfl, rfl⟩)

set_option maxRecDepth 100000 in
set_option maxHeartbeats 1000000 in
theorem c_L_answer_n {S S' : z_S} {x : z_Xc} {o : Nat → Int64} {d : z_H} {i : Int32} (hi : i < 0 ∨ nI (sN S 40) ≤ i) : z_MW [.ref 1, .int i, .ref 31] (HP (cfun S x) (mfun S' o) d) (fun v h' => v = some (.int 1) ∧ h' = HP (cfun S x) (mfun S' o) (d ++ [.inr (0, [])])) := by
  refine z_metW (Nat.le_of_ble_eq_true rfl) (fun G X hl0 F hTH hx hr => ?_)
  obtain ⟨x0, hx1, hx2, hx3, hx4, hx5⟩ := hx
  refine z_aload_n F dL_answer_0 rfl rfl ?_
  refine z_iconst (v := 0) F dL_answer_1 rfl ?_
  refine z_aload_n F dL_answer_2 rfl rfl ?_
  refine z_iload_n F dL_answer_3 rfl ?_
  refine z_callT (q := (RX5, TX5, 16)) F hTH (y_answer (h := (HP (cfun S x) (mfun S' o) d)) cO_at rfl cAn.1 hi X.2.1 hl0 G) cO_at rfl vI_X5_answer vM_L_7 vV_X5_answer vL_X5_answer rfl dL_answer_4 rfl rfl (Nat.le_of_ble_eq_true rfl) ⟨(Nat.le_of_ble_eq_true rfl), (Nat.le_of_ble_eq_true rfl), (Nat.le_of_ble_eq_true rfl), (Nat.le_of_ble_eq_true rfl)⟩ hx1 (by unfold covers; rw [hx2, hx3]; rfl) ⟨rfl, hx5⟩ ?_
  rw [hx4]
  refine z_astore_n F dL_answer_12 rfl (by decide) ?_
  refine z_iconst (v := 1) F dL_answer_13 rfl ?_
  exact z_iret F hr dL_answer_14 rfl (Nat.le_of_ble_eq_true rfl) (Nat.le_of_ble_eq_true rfl) ⟨rfl, rfl⟩
