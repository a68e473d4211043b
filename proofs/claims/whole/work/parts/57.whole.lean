/-! THE CLAIM OUT OF ONE WALK OF THE LAW'S BODY. Your part is whole_start (and what it stands on); all else here is the same for every law, but numbers. -/
def R_law : String := "ServiceRows2Law"
def lw_P (b : Addr) (xs : List Int32) (args : Array Value) (s : State) : Prop := args = #[.ref b] ∧ s.IntsAt b xs ∧ xs.length ≤ 2560 ∧ (Jvm.Cond.and given_1 narrow_1).before args s = true
def lw_Q (_ : Array Value) (s : State) (o : Outcome) (t : State) : Prop := o = .returned (some (.int 1)) ∧ Framed s o t [] 601024 7293034
def lw_Z (below : List Frame) (a : Array Value) (s : State) : State → Prop := fun t => ∃ o, t.status = .running ∧ Ended t below o ∧ lw_Q a s o t
/-- the law's own end, with 1 on the stack, nothing written that was there before, its room as the claim has it -/
theorem lw_ret {p : Program} {l : Launch} {e : Env} {s : State} {m : MethodId} {below : List Frame} {meth : Method} {c : Code} {b : Nat} (hx : p.tables.exec = Jvm.exec) (hb : c.code = code) (hr : meth.sig.returnType = ret) (hlocks : meth.locks = false) {pc : Nat} {H : Heap} {ls : Array Slot} (hdg : decode code pc = .ok (.ireturn, 1)) : W p l e room_1 s m #[Value.ref b] below meth c H [] 601024 7293034 (lw_Z below #[Value.ref b] s) (F0 m pc ls [.int 1]) := by
  intro T hT X
  obtain ⟨fs, hret, hrun, hended, hW, hframe⟩ := X.leave (v := some (.int 1)) (hlocks := hlocks) (fun h => by rw [hr] at h; cases h)
  have hmeth' : T.vm.method? m = some meth := X.method'
  refine ⟨T.setFrames fs, ?_, .returned (some (.int 1)), hrun, hended, rfl, ⟨_, rfl⟩, hW, hframe⟩
  jvm_step X.here [X.here.top, hx, hb, hdg, hmeth', hr, ret, narrow_b1]
  (try refine ⟨rfl, ?_⟩); (try refine ⟨rfl, ?_⟩)
  first | (intro acts; rw [hret _ acts rfl rfl rfl]) | rw [hret _ _ rfl rfl rfl]
  exact Steps.refl _
/-- what holds at the law's entry: the machine, the code, the tables' words (any of lw_tbl by 'hts w (by decide +kernel)'), the script of L ints xs at the cell b, what the Statement gives of the start (any of its parts by flat_of_before) -/
def lw_At (p : Program) (s : State) (m : MethodId) (meth : Method) (c : Code) (b L : Nat) (xs : Nat → Int32) : Prop :=
  p.tables.exec = Jvm.exec ∧ c.code = code ∧ meth.sig.returnType = ret ∧ c.maxLocals = 7 ∧ s.vm.findClass R_law = some m.cls ∧ (∀ w ∈ lw_tbl, w.before #[Value.ref b] s = true) ∧ va_X b L xs s s.heap ∧ b < s.heap.size ∧ meth.locks = false ∧ (Jvm.Cond.and given_1 narrow_1).before #[Value.ref b] s = true

theorem CT_0 : CT S_0 x_0 [] :=
  ⟨⟨⟨fun k hk => absurd hk (Nat.not_lt_zero k), fun k hk => absurd hk (Nat.not_lt_zero k)⟩, fun k hk => absurd hk (Nat.not_lt_zero k), fun k hk => absurd hk (Nat.not_lt_zero k), ⟨fun j _ hj => absurd hj (Nat.not_lt_zero j), fun j _ hj => absurd hj (Nat.not_lt_zero j), fun j _ hj => absurd hj (Nat.not_lt_zero j), fun j _ hj => absurd hj (Nat.not_lt_zero j)⟩,
    ⟨fun h => absurd (show false = true from h) (by decide), fun j hj => absurd hj (Nat.not_lt_zero j)⟩, ⟨by decide, fun j hj => absurd hj (Nat.not_lt_zero j)⟩, ⟨fun h => absurd (show false = true from h) (by decide), fun _ => rfl, by decide, by decide, by decide⟩⟩, rfl, rfl, rfl⟩
theorem s_ao1 : Cond.arrayOver (.object RX1) ∈ lw_tbl := by decide +kernel
theorem s_ao3 : Cond.arrayOver (.object RX3) ∈ lw_tbl := by decide +kernel
theorem s_nl56 : z_nl 56 yX2_init ∈ lw_tbl := by decide +kernel
theorem s_nl66 : z_nl 66 yX0_init ∈ lw_tbl := by decide +kernel
theorem s_nl73 : z_nl 73 yX4_init ∈ lw_tbl := by decide +kernel
theorem s_str : y_S0 ∈ lw_tbl := by decide +kernel
theorem s_cl13 : y_C0 ∈ lw_tbl := by decide +kernel
def s_isSt (w : Cond) : Bool := match w with
  | .isRef _ => true
  | _ => false
theorem s_L0 : ∀ w ∈ y_L0, s_isSt w = true ∨ w ∈ lw_tbl := by decide +kernel
theorem s_TH {s : State} {A : Array Value} (hts : ∀ w ∈ lw_tbl, w.before A s = true) (hst : ∀ w ∈ y_L0, s_isSt w = true → w.before A s = true) : y_TH s.heap.size s := by
  have hw : ∀ w ∈ y_L0, w.before A s = true := fun w h => by
    rcases s_L0 w h with h1 | h1
    · exact hst w h h1
    · exact hts w h1
  exact ⟨s, ⟨fun w h => y_up1 (y_L0_kind w h) (fun _ _ e => e) (hw w h), y_up1 (w := y_C0) rfl (fun _ _ e => e) (hts _ s_cl13)⟩, y_strMoved (State.WarmedH.refl s) (hts _ s_str), State.WarmedH.refl s, fun _ _ e => e, Nat.le_refl _⟩
theorem s_st {b : Nat} {s : State} (hgv : (Jvm.Cond.and given_1 narrow_1).before #[Value.ref b] s = true) : ∀ w ∈ y_L0, s_isSt w = true → w.before #[Value.ref b] s = true := by
  have hs := flat_of_before _ hgv
  have h1 : (Cond.isRef (.static "java/lang/Throwable" "UNASSIGNED_STACK" "[Ljava/lang/StackTraceElement;")).before #[Value.ref b] s = true := hs _ (by decide +kernel)
  have h2 : (Cond.isRef (.static "java/lang/Throwable" "SUPPRESSED_SENTINEL" "Ljava/util/List;")).before #[Value.ref b] s = true := hs _ (by decide +kernel)
  have hall : ∀ w ∈ y_L0, s_isSt w = true → w = Cond.isRef (.static "java/lang/Throwable" "UNASSIGNED_STACK" "[Ljava/lang/StackTraceElement;") ∨ w = Cond.isRef (.static "java/lang/Throwable" "SUPPRESSED_SENTINEL" "Ljava/util/List;") := by decide +kernel
  intro w hw hi
  rcases hall w hw hi with e | e
  · rw [e]; exact h1
  · rw [e]; exact h2
theorem s_arr {s : State} {A : Array Value} {t : FieldType} (h : (Cond.arrayClass t).before A s = true) : ∃ cA : ClassId, ArrOfT s cA t ∧ s.vm.findClass ("[" ++ t.toString) = some cA := by
  obtain ⟨c, k, comp, h1, h2, h3⟩ := Cond.arrayClass_spec h
  exact ⟨c, fun n z => ⟨fun _ e => (by cases e), k, h2, comp, h3⟩, h1⟩
theorem s_arrO {s : State} {A : Array Value} {C : String} (h : (Cond.arrayOver (.object C)).before A s = true) : ∃ cA : ClassId, ArrOfT s cA (.object C) ∧ va_RA s cA (.object C) := by
  obtain ⟨comp, c, k, h1, -, h2, h3, h4⟩ := Cond.arrayOver_spec h
  exact ⟨c, fun n z => ⟨fun _ e => (by cases e), k, h2, comp, h3⟩, k, comp, h2, h3, h1, h4⟩

set_option maxRecDepth 100000 in
set_option maxHeartbeats 1000000 in
theorem s_known {s : State} {A : Array Value} (hw : ∀ w ∈ wsL_law, w.before A s = true) : ∃ (dC : Nat → ClassId) (dI : Nat → Nat → Nat), ∀ (k : Nat) (q : vw_C), vwCl[k]? = some q → u_Kn s q.1 q.2.1 q.2.2 (dC k) (dI k) := by
  obtain ⟨c0, i0, k0⟩ := u_known (C := RJx00060) (T := TJx00060) (N := 0) (n := 6) hw (fun w h => by cases h) (hw (Cond.instantiable RJx00060 6) (wL_23 _ (by decide +kernel)))
  obtain ⟨c1, i1, k1⟩ := u_known (C := RX0) (T := TX0) (N := 2) (n := 2) hw inlX0 (hw (Cond.instantiable RX0 2) (wL_2 _ (by decide +kernel)))
  obtain ⟨c2, i2, k2⟩ := u_known (C := RX1) (T := TX1) (N := 11) (n := 11) hw inlX1 (hw (Cond.instantiable RX1 11) (wL_5 _ (by decide +kernel)))
  obtain ⟨c3, i3, k3⟩ := u_known (C := RX2) (T := TX2) (N := 5) (n := 5) hw inlX2 (hw (Cond.instantiable RX2 5) (wL_2 _ (by decide +kernel)))
  obtain ⟨c4, i4, k4⟩ := u_known (C := RX3) (T := TX3) (N := 5) (n := 5) hw inlX3 (hw (Cond.instantiable RX3 5) (wL_8 _ (by decide +kernel)))
  obtain ⟨c5, i5, k5⟩ := u_known (C := RX4) (T := TX4) (N := 4) (n := 4) hw inlX4 (hw (Cond.instantiable RX4 4) (wL_2 _ (by decide +kernel)))
  obtain ⟨c6, i6, k6⟩ := u_known (C := RX5) (T := TX5) (N := 16) (n := 16) hw inlX5 (hw (Cond.instantiable RX5 16) (wL_1 _ (by decide +kernel)))
  obtain ⟨c7, i7, k7⟩ := u_known (C := RX6) (T := TX6) (N := 43) (n := 43) hw inlX6 (hw (Cond.instantiable RX6 43) (wL_1 _ (by decide +kernel)))
  refine ⟨fun k => match k with | 0 => c0 | 1 => c1 | 2 => c2 | 3 => c3 | 4 => c4 | 5 => c5 | 6 => c6 | _ => c7, fun k => match k with | 0 => i0 | 1 => i1 | 2 => i2 | 3 => i3 | 4 => i4 | 5 => i5 | 6 => i6 | _ => i7, ?_⟩
  intro k q hq
  match k, hq with
  | 0, hq => cases hq; exact k0
  | 1, hq => cases hq; exact k1
  | 2, hq => cases hq; exact k2
  | 3, hq => cases hq; exact k3
  | 4, hq => cases hq; exact k4
  | 5, hq => cases hq; exact k5
  | 6, hq => cases hq; exact k6
  | 7, hq => cases hq; exact k7
  | k + 8, hq => simp [vwCl] at hq

set_option maxRecDepth 100000 in
set_option maxHeartbeats 1000000 in
theorem s_arrs {s : State} {A : Array Value} (hts : ∀ w ∈ lw_tbl, w.before A s = true) (hw : ∀ w ∈ wsL_law, w.before A s = true) : ∃ cA : Nat → ClassId, ∀ (k : Nat) (t : FieldType), z_ats[k]? = some t → ArrOfT s (cA k) t ∧ va_RA s (cA k) t := by
  obtain ⟨a0, p0, q0⟩ := s_arr (hw (.arrayClass .int) vA_int)
  obtain ⟨a1, p1, q1⟩ := s_arr (hw (.arrayClass .byte) vA_byte)
  obtain ⟨a2, p2, q2⟩ := s_arr (hw (.arrayClass .long) vA_long)
  obtain ⟨a3, p3, q3⟩ := s_arr (hw (.arrayClass .boolean) vA_boolean)
  obtain ⟨a4, p4, q4⟩ := s_arrO (hts _ s_ao1)
  obtain ⟨a5, p5, q5⟩ := s_arrO (hts _ s_ao3)
  refine ⟨fun k => match k with | 0 => a0 | 1 => a1 | 2 => a2 | 3 => a3 | 4 => a4 | _ => a5, ?_⟩
  intro k t ht
  match k, ht with
  | 0, ht => cases ht; exact ⟨p0, q0⟩
  | 1, ht => cases ht; exact ⟨p1, q1⟩
  | 2, ht => cases ht; exact ⟨p2, q2⟩
  | 3, ht => cases ht; exact ⟨p3, q3⟩
  | 4, ht => cases ht; exact ⟨p4, q4⟩
  | 5, ht => cases ht; exact ⟨p5, q5⟩
  | k + 6, ht => simp [z_ats] at ht

set_option maxRecDepth 100000 in
set_option maxHeartbeats 1000000 in
theorem s_walk {G : z_G} {X : z_X} {Q : State → Prop} {L : Nat} {xs : Nat → Int32} (F : z_F vwCl z_ats z_nw wsL_law G RL cL_law 7 room_1 X) (Sx : z_SX G X L xs) (hL : L ≤ 2560) (hl0 : X.2.1.stackTraces = false) (hTH : y_TH G.2.2.2 X.2.2.2.2.1) (E : ∀ (h : z_H) (lv : List (Nat × Value)) (c' s' : Nat), c' ≤ 601024 → s' ≤ 7293034 → z_V vwCl G 7 X Q c' s' 659 lv [] h) : z_V vwCl G 7 X Q 0 0 0 [(0, .ref 0)] [] [(.inr (8, []) : z_E)] := by
  refine z_new F vN_L_8 dL_law_0 (Nat.le_of_ble_eq_true rfl) (Nat.le_of_ble_eq_true rfl) ?_
  refine z_dup F dL_law_3 rfl ?_
  refine z_callI F z_nwOK wL_good (c_X5_init) vI_X5_init vM_L_15 vV_X5_init rfl rfl dL_law_4 rfl rfl (Nat.le_of_ble_eq_true rfl) ⟨(Nat.le_of_ble_eq_true rfl), (Nat.le_of_ble_eq_true rfl), (Nat.le_of_ble_eq_true rfl), (Nat.le_of_ble_eq_true rfl)⟩ (fun v h1 hq => ?_)
  obtain ⟨rfl, rfl⟩ := hq
  refine z_astore_n F dL_law_7 rfl (Nat.le_of_ble_eq_true rfl) ?_
  refine z_new F vN_L_16 dL_law_8 (Nat.le_of_ble_eq_true rfl) (Nat.le_of_ble_eq_true rfl) ?_
  refine z_heap [cfun S_0 x_0 0, cfun S_0 x_0 1, cfun S_0 x_0 2, cfun S_0 x_0 3, cfun S_0 x_0 4, cfun S_0 x_0 5, cfun S_0 x_0 6, cfun S_0 x_0 7, cfun S_0 x_0 8, cfun S_0 x_0 9, cfun S_0 x_0 10, (.inr (7, [.int 0, .int 0, .int 0, .long 0, .long 0, .int 0, .int 0, .int 0, .int 0, .null, .null, .null, .null, .null, .null, .null, .null, .null, .null, .null, .int 0, .null, .null, .null, .null, .null, .int 0, .int 0, .int 0, .int 0, .int 0, .int 0, .int 0, .int 0, .int 0, .int 0, .null, .int 0, .int 0, .null, .int 0, .null, .int 0]) : z_E)] rfl ?_
  refine z_dup F dL_law_11 rfl ?_
  refine z_callI F z_nwOK wL_good (c_X6_init (c := cfun S_0 x_0) (o := fun _ => 0)) vI_X6_init vM_L_18 vV_X6_init rfl rfl dL_law_12 rfl rfl (Nat.le_of_ble_eq_true rfl) ⟨(Nat.le_of_ble_eq_true rfl), (Nat.le_of_ble_eq_true rfl), (Nat.le_of_ble_eq_true rfl), (Nat.le_of_ble_eq_true rfl)⟩ (fun v h1 hq => ?_)
  obtain ⟨rfl, rfl⟩ := hq
  refine z_astore_n F dL_law_15 rfl (Nat.le_of_ble_eq_true rfl) ?_
  refine z_iconst (v := 1) F dL_law_16 rfl ?_
  refine z_newa (atype := .long) (N := 1) (a0 := (1, (.inr (.inl (fun _ => 0))))) (t := 2) F vA_long rfl (fun _ _ => rfl) (by decide) rfl (Nat.le_of_ble_eq_true rfl) dL_law_17 (Nat.le_of_ble_eq_true rfl) (Nat.le_of_ble_eq_true rfl) ?_
  refine z_heap (HP (cfun S_0 x_0) (mfun S_0 (fun _ => 0)) []) rfl ?_
  refine z_astore_n F dL_law_19 rfl (Nat.le_of_ble_eq_true rfl) ?_
  refine z_iconst (v := 0) F dL_law_20 rfl ?_
  refine z_istore F dL_law_21 (Nat.le_of_ble_eq_true rfl) ?_
  refine z_pick (lv' := [(0, .ref 0), (1, .ref 1), (2, .ref 11), (3, .ref 31), (4, .int (nI 0))]) [0, 1, 2, 3, 4] rfl ?_
  exact w_loop F Sx hL hl0 hTH E 513 0 S_0 x_0 (fun _ => 0) [] _ _ INV_0 CT_0 (by omega) (by omega) (Nat.le_of_ble_eq_true rfl) (Nat.le_of_ble_eq_true rfl)

set_option maxRecDepth 100000 in
set_option maxHeartbeats 1000000 in
theorem whole_start {p : Program} {e : Env} {s : State} {m : MethodId} {below : List Frame} {meth : Method} {c : Code} (l : Launch) (hl0 : l.stackTraces = false) {b L : Nat} {xs : Nat → Int32} (hL : L ≤ 2560) (C0 : lw_At p s m meth c b L xs) : W p l e room_1 s m #[Value.ref b] below meth c s.heap [] 0 0 (lw_Z below #[Value.ref b] s) (entryFrame m ([Value.ref b] : List Value).toArray 7) := by
  obtain ⟨hx, hb, hr, hml, hown, hts, hX, hbl, hlocks, hgv⟩ := id C0
  have hw : ∀ w ∈ wsL_law, w.before #[Value.ref b] s = true := fun w h => hts w (wsL_law_in w h)
  obtain ⟨dC, dI, hKc⟩ := s_known hw
  obtain ⟨cA, hAr⟩ := s_arrs hts hw
  have hnw : z_nw s := ⟨va_AO.of (hts _ s_ao1), va_AO.of (hts _ s_ao3), va_Nw.of rfl (hts _ s_nl56), va_Nw.of rfl (hts _ s_nl66), va_Nw.of rfl (hts _ s_nl73)⟩
  have hK : va_K (dC, dI) vwCl (z_tys ((dC, dI), cA, b, s.heap.size) z_ats) s := by
    refine ⟨hKc, fun k q hq => ?_⟩
    unfold z_tys at hq
    rw [List.getElem?_mapIdx] at hq
    cases ht : z_ats[k]? with
    | none => rw [ht] at hq; cases hq
    | some t =>
      rw [ht] at hq
      cases hq
      exact hAr k t ht
  have F : z_F vwCl z_ats z_nw wsL_law ((dC, dI), cA, b, s.heap.size) RL cL_law 7 room_1 (p, l, e, room_1, s, m, #[Value.ref b], below, meth, c) := ⟨hx, hb, hml, hown, hw, hK, hnw, Nat.le_refl _, rfl, hlocks⟩
  have key := s_walk (Q := lw_Z below #[Value.ref b] s) F (L := L) (xs := xs) ⟨hX, hbl, hbl⟩ hL hl0 (s_TH hts (s_st hgv)) (fun h lv c' s' hc hs => z_iconst (v := 1) F dL_law_659 rfl (fun H locs ls r b' d => W.widen hc hs (W.forget (locs := []) (L := locs) (fun q hq => b'.2.2 q hq) (lw_ret hx hb hr hlocks dL_law_660))))
  have hl := lv_entry ([Value.ref b]) (n := 7) (Nat.le_of_ble_eq_true rfl)
  rw [lg_entry_eq]
  exact key s.heap [] _ ⟨rfl, rfl, fun k q hk => by simp [z_ws] at hk⟩ va_S.rf hl

set_option maxHeartbeats 4000000 in
theorem lw_walk (l : Launch) (hl0 : l.stackTraces = false) (b : Addr) (xs : List Int32) : MetFree l x (headSpec (Jvm.Cond.code x code maxLocals ret :: tables_1) room_1) (lw_P b xs) (fun _ _ _ _ _ => True) lw_Q := by
  refine MetFree.of_bodyS (code := code) (maxLocals := maxLocals) (ret := ret) (by decide) ?_ ?_
  · intro args s m h hn
    obtain ⟨meth, c, h1, h2, h3, h4, h5, h6, -, -⟩ := Cond.code_spec hn (atoms_spec (ws := Jvm.Cond.code x code maxLocals ret :: tables_1) h _ List.mem_cons_self)
    exact ⟨meth, c, h1, h2, h3, h4, h5, h6⟩
  · intro p e s m args below meth c s₁ B hml0 hP _
    obtain ⟨rfl, hx, hbd, hgv⟩ := hP
    obtain ⟨scr, harrAt, hlist, hof, hsmall⟩ := hx
    obtain ⟨hcb, hkn, -, -⟩ := State.arrayAt?_spec harrAt
    have hown : s.vm.findClass R_law = some m.cls := findClass_of_methodNamed B.named
    have hts0 : ∀ c ∈ (Jvm.Cond.code x code maxLocals ret :: tables_1), c.before #[Value.ref b] s = true := atoms_spec (ws := Jvm.Cond.code x code maxLocals ret :: tables_1) B.pre
    have hts : ∀ w ∈ lw_tbl, w.before #[Value.ref b] s = true := k2_hts_sels lw_privs (fun w hw => hts0 w (List.mem_cons_of_mem _ hw)) lw_privs_ok
    have hml : c.maxLocals = 7 := B.maxLocals_eq (hts0 _ List.mem_cons_self)
    have X₀ : Stand p l e room_1 s m #[Value.ref b] below meth c s₁ [] 0 0 := Stand.of_body B
    have hh0 : s₁.heap = s.heap := by rw [B.state]; rfl
    have hsz : scr.slots.size = xs.length := by rw [← Array.length_toList, hlist, List.length_map]
    have hval : ∀ j : Nat, j < xs.length → scr.slots[j]? = some (.int (xs.getD j 0)) := fun j hj => by
      rw [← Array.getElem?_toList, hlist]
      simp [hj]
    have hbl : b < s.heap.size := (Array.getElem?_eq_some_iff.mp hcb).1
    have hX : va_X b xs.length (fun j => xs.getD j 0) s s.heap := ⟨scr, hcb, hof, hkn, hsz, hval⟩
    have K : W p l e room_1 s m #[Value.ref b] below meth c s₁.heap [] 0 0 (lw_Z below #[Value.ref b] s) (entryFrame m ([Value.ref b] : List Value).toArray 7) := by
      rw [hh0]
      exact whole_start l hl0 hbd ⟨B.exec, B.bytes, B.returns, hml, hown, hts, hX, hbl, B.notSynchronized, hgv⟩
    obtain ⟨t, a1, o, b1, b2, b3⟩ := K s₁ rfl X₀
    exact ⟨t, o, a1, b1, b2, b3⟩
theorem lw_pre_spec {args : Array Value} {s : State} (h : (Jvm.Cond.and given_1 narrow_1).before args s = true) (hr : rest_1_c.before args s = true) : ∃ (b : Addr) (xs : List Int32), lw_P b xs args s := by
  have hs := flat_of_before _ h
  have hq := flat_of_before _ hr
  have hc : (Cond.count 1).before args s = true := hs _ (by decide +kernel)
  have harr : (Cond.arrayOf (.arg 0) .int).before args s = true := hs _ (by decide +kernel)
  have hle : (Cond.le (.length (.arg 0)) (.int 2560)).before args s = true := hs _ (by decide +kernel)
  have hlen : (Cond.isInt (.length (.arg 0))).before args s = true := hq _ (by decide +kernel)
  have hall : (Cond.all (.arg 0) (.isInt (.elem (.arg 0) (.index 0)))).before args s = true := hq _ (by decide +kernel)
  obtain ⟨b, xs, hb, hx⟩ := State.ints_of_pre rfl harr hlen hall
  have hsm : xs.length < 2 ^ 31 := hx.choose_spec.2.2.2
  have hev : (Term.length (.arg 0)).eval args s none [] s = some (.int xs.length.toInt32) := hx.length_eval hb
  have hv := Cond.le_ints hev (show (Term.int 2560).eval args s none [] s = some (.int 2560) from rfl)
  have hd : xs.length.toInt32 ≤ 2560 := by
    simpa [Cond.before, Cond.holds, hv] using hle
  have hN : xs.length ≤ 2560 := (Int32.ofNat_le_ofNat hsm (by decide)).mp (show Int32.ofNat xs.length ≤ Int32.ofNat 2560 from hd)
  exact ⟨b, xs, Cond.one_arg hc (show args[0]? = some (.ref b) from hb), hx, hN, h⟩
theorem lw_comes (l : Launch) (hl0 : l.stackTraces = false) : Comes l x (Jvm.Cond.code x code maxLocals ret :: tables_1) room_1 (fun tb e args s => Calls_1 tb e args s ∧ rest_1 tb e args s ∧ Pre_1 tb e args s)
    (fun _ _ args s o t => lw_Q args s o t) := by
  intro p e ha hc hk s m args below hf hfit hheap happ hpre
  obtain ⟨b, xs, hP⟩ := lw_pre_spec hpre.2.2 hpre.2.1
  obtain ⟨k, o, h1, h2, h3, hQ⟩ := lw_walk l hl0 b xs p e ha hc hk s m args below hf ((Spec.applies_iff_loose hf).mp happ).1 hP trivial
  exact ⟨k, o, h1, h2, h3, hQ⟩
theorem lw_frame {s t : State} {o : Outcome} {args : Array Value} (h : Framed s o t [] 601024 7293034) :
    Framed s o t (fieldLocs frame_1_writes args s ++ arrayLocs frame_1_arrays args s ++ staticLocs frame_1_statics s) 601024 7293034 := h
theorem lw_limb (L : Cond) (hL : ∀ (args : Array Value) (s t : State), L.after args s (.returned (some (.int 1))) t = true) :
    ArmFor flags0 classFile x code maxLocals ret World_1 tables_1 room_1 Calls_1 rest_1 Pre_1
      (fun tb e a s o t => postC L tb e a s o t ∧ Framed s o t (fieldLocs frame_1_writes a s ++ arrayLocs frame_1_arrays a s ++ staticLocs frame_1_statics s) 601024 7293034) := by
  intro l hfl _ _ p e ha hc hk s m args below hf hfit hheap happ hpre
  obtain ⟨k, o, h1, h2, h3, rfl, hF⟩ := lw_comes l (by unfold Launch.stackTraces; rw [hfl]; decide +kernel) p e ha hc hk s m args below hf hfit hheap happ hpre
  exact ⟨k, _, h1, h2, h3, hL args s _, lw_frame hF⟩
theorem i_vc : Claimed_1_1 ∧ Claimed_1_2 := ⟨lw_limb limb_1_1 (fun args s t => by simp [limb_1_1, Cond.after, Cond.holds, Cond.value]), lw_limb limb_1_2 (fun args s t => Cond.after_iff.mpr (by
  first | (rw [show limb_1_2 = Cond.eq .result (.int 1) from rfl, Cond.eq_ints (x := 1) (y := 1) rfl rfl]; simp; done) | (simp [limb_1_2, Cond.value, Term.eval]; done)))⟩
