section ZR
variable {cl : List vw_C} {ats : List FieldType} {nw : State → Prop} {TB : List Cond} {G : z_G} {own : String} {cc : ByteArray} {nL : Nat} {R0 : Room} {X : z_X} {Q : State → Prop} {cells slots pc : Nat} {lv : List (Nat × Value)} {st : List Value} {h : z_H}
/-- a method of ours as the tables have it -/
def z_FI (TB : List Cond) (y : MethodName) (c : ByteArray) (maxL : Nat) (rt : Option FieldType) : Prop :=
  Cond.code y c maxL rt ∈ TB ∧ Cond.initialized y.cls ∈ TB ∧ (y.cls ≠ "java/lang/invoke/MethodHandle" ∧ y.cls ≠ "java/lang/invoke/VarHandle") ∧ plainName y.cls = true
def z_NW (nw : State → Prop) : Prop := (∀ (s U : State), s.WarmedH U.vm → nw s → nw U) ∧ ∀ (a : Array Value) (U : State) (g : JFrame) (mk : MethodId), nw U → nw (U.calling g mk a)
/-- THE CONTRACT of a method at these arguments and this heap -/
def z_M (cl : List vw_C) (ats : List FieldType) (nw : State → Prop) (TB : List Cond) (y : MethodName) (c : ByteArray) (maxL : Nat) (rt : Option FieldType) (rk mc ms : Nat) (as : List Value) (h : z_H) (Q : Option Value → z_H → Prop) : Prop :=
  ∀ (l : Launch) (G : z_G), Met l y (Cond.code y c maxL rt :: TB) (z_rm rk mc ms) (va_Pc (as.map (z_v G)) (z_U cl ats nw G h)) (z_Q cl ats nw G Q) mc ms (z_A G)
theorem z_good {TB : List Cond} (hg : TB.all goodWord = true) {c : Cond} (hc : c ∈ TB) : GoodIn TB (c :: TB) := by
  intro w hw
  have hm : w ∈ TB := by
    rcases List.mem_cons.mp hw with rfl | h
    · exact hc
    · exact h
  exact ⟨hm, good_of_word (List.all_eq_true.mp hg w hm)⟩
theorem z_blind {as : List Value} (hnw : z_NW nw) : FrameBlind (va_Pc as (z_U cl ats nw G h)) := by
  intro a U g mk q
  obtain ⟨q0, q1, q2, q3⟩ := q
  exact ⟨q0, q1, va_K.moved (u := U) (U := U.calling g mk a) (Vm.Alike.refl U.vm) q2, hnw.2 a U g mk q3⟩
/-- behind a call -/
theorem z_back {lc : List Loc} {H : Heap} {ls : Array Slot} {mc ms : Nat} {stk rest : List Value} {a : Array Value} {Q' : Option Value → z_H → Prop} (r : z_R cl G h H) (b : va_S (z_A G) X.2.2.2.2.1.heap H lc) (d : lv_has ls nL (z_lv G lv))
    (hrun : va_Run X.1 X.2.1 X.2.2.1 X.2.2.2.1 X.2.2.2.2.1 X.2.2.2.2.2.1 X.2.2.2.2.2.2.1 X.2.2.2.2.2.2.2.1 X.2.2.2.2.2.2.2.2.1 X.2.2.2.2.2.2.2.2.2 H lc cells slots mc ms (F0 X.2.2.2.2.2.1 pc ls stk) (rest.map (z_v G)) (z_Q cl ats nw G Q' a) (z_A G))
    (kk : ∀ (v : Option Value) (h' : z_H), Q' v h' → z_V cl G nL X Q (cells + mc) (slots + ms) (pc + 3) lv (v.toList ++ rest) h') : z_W X H lc cells slots Q (F0 X.2.2.2.2.2.1 pc ls stk) := by
  intro T hT S
  obtain ⟨v, st0, t, T', L, h1, S', hL, e1, e2, ⟨⟨v', h', hv, hq, hr⟩, hF⟩, go⟩ := hrun T hT S
  injection hv with hv
  subst hv
  have b' : va_S (z_A G) X.2.2.2.2.1.heap t.heap (lc ++ L) := by
    refine ⟨Nat.le_trans b.1 (by rw [← h1]; exact hF.1), fun q q1 q2 => ?_, fun l hl => ?_⟩
    · rw [hF.2 q (by rw [h1]; exact Nat.lt_of_lt_of_le q1 b.1) q2, h1]
      exact b.2.1 q q1 q2
    · rcases List.mem_append.mp hl with hl | hl
      · exact b.2.2 l hl
      · exact hL l hl
  have hw := kk v' h' hq t.heap (lc ++ L) ls hr b' d
  have he : (v'.toList ++ rest).map (z_v G) = (v'.map (z_v G)).toList ++ rest.map (z_v G) := by cases v' <;> rfl
  rw [he] at hw
  obtain ⟨t2, s1, s2⟩ := hw T' e1 S'
  exact ⟨t2, go t2 s1, s2⟩
theorem z_room {m : MethodId} {ls : Array Slot} {stk rest : List Value} (h : (rest.map fun v => v.category).sum ≤ 8) : 2 * (F0 m pc ls stk).monitorRoom + ((rest.map (z_v G)).map fun v => v.category).sum ≤ 8 := by
  rw [z_cats]
  exact lv_room h
theorem z_callS (F : z_F cl ats nw TB G own cc nL R0 X) (hnw : z_NW nw) (hg : TB.all goodWord = true) {y : MethodName} {c : ByteArray} {maxL rk mc ms idx n : Nat} {rt : Option FieldType} {as rest : List Value} {stk : List Value} {Q' : Option Value → z_H → Prop} (hM : z_M cl ats nw TB y c maxL rt rk mc ms as h Q') (I : z_FI TB y c maxL rt) (hl : Cond.methodLink own idx y ∈ TB) (hs : Cond.static y ∈ TB) (hn : (parseMethodDescriptor y.desc).map (fun d => d.parameters.length) = some n) (hd : decode cc pc = .ok (.invokestatic idx, 3))
    (hstk : stk = as.reverse ++ rest) (hlen : as.length = n) (hcat : (rest.map fun v => v.category).sum ≤ 8) (hR : rk + 1 ≤ R0.frames ∧ 8 + (maxL + 11) + 40 * rk ≤ R0.locals ∧ cells + mc ≤ R0.cells ∧ slots + ms ≤ R0.slots)
    (kk : ∀ (v : Option Value) (h' : z_H), Q' v h' → z_V cl G nL X Q (cells + mc) (slots + ms) (pc + 3) lv (v.toList ++ rest) h') : z_V cl G nL X Q cells slots pc lv stk h := by
  intro H locs ls r b d
  subst hstk
  have hcw := callB_of (R := X.2.2.2.1) (s := X.2.2.2.2.1) (args := X.2.2.2.2.2.2.1) (rm := z_rm rk mc ms) (mc := mc) (ms := ms) n F.wd (z_good hg I.1) rfl rfl rfl (F.wd _ I.2.1) (F.wd _ hl) ⟨I.2.2.1.1, I.2.2.1.2, hn⟩ ⟨by rw [F.room]; exact hR.1, by rw [F.room]; exact hR.2.1⟩
  refine z_back r b d (va_runS (As := as.map (z_v G)) (rest := rest.map (z_v G)) ⟨F.1, F.2.1, F.2.2.1, F.own, F.wd⟩ (hM X.2.1 G) ⟨hcw, F.wd _ hs⟩ ⟨z_blind hnw, fun U hU hW => ⟨rfl, by rw [hU]; exact r, va_K.moved hW.alike F.kn, hnw.1 _ _ hW F.nws⟩⟩ rfl (by rw [List.length_map]; exact hlen) d.1 (by rw [List.map_append, List.map_reverse]) (z_room hcat) hd ⟨by rw [F.room]; exact hR.2.2.1, by rw [F.room]; exact hR.2.2.2⟩) kk
theorem z_callV (F : z_F cl ats nw TB G own cc nL R0 X) (hnw : z_NW nw) (hg : TB.all goodWord = true) {y : MethodName} {c : ByteArray} {maxL rk mc ms idx n k ci : Nat} {rt : Option FieldType} {as rest fs : List Value} {stk : List Value} {q : vw_C} {Q' : Option Value → z_H → Prop} (hM : z_M cl ats nw TB y c maxL rt rk mc ms (.ref k :: as) h Q') (hk : h[k]? = some (.inr (ci, fs))) (hc : cl[ci]? = some q) (I : z_FI TB y c maxL rt) (hl : Cond.methodLink own idx y ∈ TB) (hv : Cond.instanceMethod y ∈ TB) (hs : Cond.selects q.1 y y ∈ TB) (hn : (parseMethodDescriptor y.desc).map (fun d => d.parameters.length) = some n) (hd : decode cc pc = .ok (.invokevirtual idx, 3))
    (hstk : stk = as.reverse ++ .ref k :: rest) (hlen : as.length = n) (hcat : (rest.map fun v => v.category).sum ≤ 8) (hR : rk + 1 ≤ R0.frames ∧ 8 + (maxL + 11) + 40 * rk ≤ R0.locals ∧ cells + mc ≤ R0.cells ∧ slots + ms ≤ R0.slots)
    (kk : ∀ (v : Option Value) (h' : z_H), Q' v h' → z_V cl G nL X Q (cells + mc) (slots + ms) (pc + 3) lv (v.toList ++ rest) h') : z_V cl G nL X Q cells slots pc lv stk h := by
  intro H locs ls r b d
  subst hstk
  obtain ⟨i, rfl⟩ := r.obj hk hc
  have hcw := callB_of (R := X.2.2.2.1) (s := X.2.2.2.2.1) (args := X.2.2.2.2.2.2.1) (rm := z_rm rk mc ms) (mc := mc) (ms := ms) n F.wd (z_good hg I.1) rfl rfl rfl (F.wd _ I.2.1) (F.wd _ hl) ⟨I.2.2.1.1, I.2.2.1.2, hn⟩ ⟨by rw [F.room]; exact hR.1, by rw [F.room]; exact hR.2.1⟩
  refine z_back r b d (va_runV (As := as.map (z_v G)) (b := z_ad G (i + 1)) (rest := rest.map (z_v G)) ⟨F.1, F.2.1, F.2.2.1, F.own, F.wd⟩ (hM X.2.1 G) ⟨hcw, F.wd _ hv, F.wd _ hs⟩ ⟨z_blind hnw, va_recv F.kn r.2.2 hc (z_ws_at hk), fun U hU hW => ⟨rfl, by rw [hU]; exact r, va_K.moved hW.alike F.kn, hnw.1 _ _ hW F.nws⟩⟩ rfl (by rw [List.length_map]; exact hlen) d.1 (by rw [List.map_append, List.map_reverse]; rfl) (z_room hcat) hd ⟨by rw [F.room]; exact hR.2.2.1, by rw [F.room]; exact hR.2.2.2⟩) kk
theorem z_callI (F : z_F cl ats nw TB G own cc nL R0 X) (hnw : z_NW nw) (hg : TB.all goodWord = true) {y : MethodName} {c : ByteArray} {maxL rk mc ms idx n k : Nat} {as rest : List Value} {stk : List Value} {Q' : Option Value → z_H → Prop} (hM : z_M cl ats nw TB y c maxL none rk mc ms (.ref k :: as) h Q') (I : z_FI TB y c maxL none) (hl : Cond.methodLink own idx y ∈ TB) (hv : Cond.instanceMethod y ∈ TB) (hy : y.name = "<init>") (hn : (parseMethodDescriptor y.desc).map (fun d => d.parameters.length) = some n) (hd : decode cc pc = .ok (.invokespecial idx, 3))
    (hstk : stk = as.reverse ++ .ref k :: rest) (hlen : as.length = n) (hcat : (rest.map fun v => v.category).sum ≤ 8) (hR : rk + 1 ≤ R0.frames ∧ 8 + (maxL + 11) + 40 * rk ≤ R0.locals ∧ cells + mc ≤ R0.cells ∧ slots + ms ≤ R0.slots)
    (kk : ∀ (v : Option Value) (h' : z_H), Q' v h' → z_V cl G nL X Q (cells + mc) (slots + ms) (pc + 3) lv (v.toList ++ rest) h') : z_V cl G nL X Q cells slots pc lv stk h := by
  intro H locs ls r b d
  subst hstk
  have hcw := callB_of (R := X.2.2.2.1) (s := X.2.2.2.2.1) (args := X.2.2.2.2.2.2.1) (rm := z_rm rk mc ms) (mc := mc) (ms := ms) n F.wd (z_good hg I.1) rfl rfl rfl (F.wd _ I.2.1) (F.wd _ hl) ⟨I.2.2.1.1, I.2.2.1.2, hn⟩ ⟨by rw [F.room]; exact hR.1, by rw [F.room]; exact hR.2.1⟩
  refine z_back r b d (va_runI (As := as.map (z_v G)) (b := z_ad G k) (rest := rest.map (z_v G)) ⟨F.1, F.2.1, F.2.2.1, F.own, F.wd⟩ (hM X.2.1 G) ⟨hcw, hy, F.wd _ hv⟩ ⟨z_blind hnw, fun U hU hW => ⟨rfl, by rw [hU]; exact r, va_K.moved hW.alike F.kn, hnw.1 _ _ hW F.nws⟩⟩ rfl (by rw [List.length_map]; exact hlen) d.1 (by rw [List.map_append, List.map_reverse]; rfl) (z_room hcat) hd ⟨by rw [F.room]; exact hR.2.2.1, by rw [F.room]; exact hR.2.2.2⟩) kk
theorem z_objInit (F : z_F cl ats nw TB G own cc nL R0 X) {k idx : Nat} (hl : Cond.methodLink own idx objectInit ∈ TB) (hv : Cond.instanceMethod objectInit ∈ TB) (hcd : Cond.code objectInit ⟨#[0xb1]⟩ 1 none ∈ TB) (hd : decode cc pc = .ok (.invokespecial idx, 3)) (hfr : 1 ≤ R0.frames) (hlo : (st.map fun v => v.category).sum + 12 ≤ R0.locals) (kk : z_V cl G nL X Q cells slots (pc + 3) lv st h) : z_V cl G nL X Q cells slots pc lv (.ref k :: st) h := by
  intro H locs ls r b d
  refine W.objInit F.1 F.2.1 F.own (F.wd _ hl) (F.wd _ hv) (F.wd _ hcd) rfl (by rw [F.2.2.1]; exact d.1) rfl hd (by rw [F.room]; exact hfr) ?_ (kk H locs ls r b d)
  rw [F.room, z_cats]
  show 2 * 0 + _ + 12 ≤ _
  omega
/-- a method's end -/
def z_end (cl : List vw_C) (ats : List FieldType) (nw : State → Prop) (G : z_G) (X : z_X) (mc ms : Nat) (Q' : Option Value → z_H → Prop) : State → Prop := MQ X.2.2.2.2.2.2.2.1 (z_Q cl ats nw G Q') X.2.2.2.2.2.2.1 X.2.2.2.2.1 mc ms (z_A G)
variable {mc ms : Nat} {Q' : Option Value → z_H → Prop}
theorem z_iret (F : z_F cl ats nw TB G own cc nL R0 X) {x : Int32} {ty : FieldType} (hr : X.2.2.2.2.2.2.2.2.1.sig.returnType = some ty) (hd : decode cc pc = .ok (.ireturn, 1)) (hn : narrow ty (.int x) = .int x) (hc : cells ≤ mc) (hs : slots ≤ ms) (hq : Q' (some (.int x)) h) : z_V cl G nL X (z_end cl ats nw G X mc ms Q') cells slots pc lv [.int x] h := by
  intro H locs ls r b d
  refine W.widen hc hs ?_
  exact W.zret F.1 F.2.1 hr hn (fun t ht hW => ⟨⟨some (.int x), h, rfl, hq, by rw [ht]; exact r⟩, b.F ht⟩) b.2.2 hd F.lock
theorem z_lret (F : z_F cl ats nw TB G own cc nL R0 X) {x : Int64} (hr : X.2.2.2.2.2.2.2.2.1.sig.returnType = some .long) (hd : decode cc pc = .ok (.lreturn, 1)) (hc : cells ≤ mc) (hs : slots ≤ ms) (hq : Q' (some (.long x)) h) : z_V cl G nL X (z_end cl ats nw G X mc ms Q') cells slots pc lv [.long x] h := by
  intro H locs ls r b d
  refine W.widen hc hs ?_
  exact W.lret F.1 F.2.1 hr (fun t ht hW => ⟨⟨some (.long x), h, rfl, hq, by rw [ht]; exact r⟩, b.F ht⟩) b.2.2 hd F.lock
theorem z_vret (F : z_F cl ats nw TB G own cc nL R0 X) (hr : X.2.2.2.2.2.2.2.2.1.sig.returnType = none) (hd : decode cc pc = .ok (.return_, 1)) (hc : cells ≤ mc) (hs : slots ≤ ms) (hq : Q' none h) : z_V cl G nL X (z_end cl ats nw G X mc ms Q') cells slots pc lv [] h := by
  intro H locs ls r b d
  refine W.widen hc hs ?_
  exact W.vret F.1 F.2.1 hr (fun t ht hW => ⟨⟨none, h, rfl, hq, by rw [ht]; exact r⟩, b.F ht⟩) b.2.2 hd F.lock
theorem z_aret (F : z_F cl ats nw TB G own cc nL R0 X) {u : Value} {C : String} (hr : X.2.2.2.2.2.2.2.2.1.sig.returnType = some (.object C)) (hu : z_isR u = true) (hd : decode cc pc = .ok (.areturn, 1)) (hc : cells ≤ mc) (hs : slots ≤ ms) (hq : Q' (some u) h) : z_V cl G nL X (z_end cl ats nw G X mc ms Q') cells slots pc lv [u] h := by
  intro H locs ls r b d
  refine W.widen hc hs ?_
  have hv : z_v G u = .null ∨ ∃ a, z_v G u = .ref a := by
    cases u <;> first | exact Bool.noConfusion (show false = true from hu) | exact Or.inl rfl | exact Or.inr ⟨_, rfl⟩
  exact W.aret F.1 F.2.1 hr (Or.inl ⟨_, rfl⟩) hv (fun t ht hW => ⟨⟨some u, h, rfl, hq, by rw [ht]; exact r⟩, b.F ht⟩) b.2.2 hd F.lock
theorem z_args (G : z_G) : ∀ (as : List Value) (i : Nat), lv_args i (as.map (z_v G)) = z_lv G (lv_args i as)
  | [], i => rfl
  | v :: vs, i => by
    simp only [List.map_cons, lv_args, z_v_cat, z_lv]
    rw [z_args G vs]
    rfl
theorem z_slen (G : z_G) (as : List Value) : (lg_sl (as.map (z_v G))).length = (lg_sl as).length := by
  unfold lg_sl
  induction as with
  | nil => rfl
  | cons v vs ih =>
    simp only [List.map_cons, List.flatMap_cons, List.length_append, z_v_cat, ih]
    congr 1
    split <;> rfl
/-- a contract out of a walk -/
theorem z_met {y : MethodName} {c : ByteArray} {maxL rk : Nat} {rt : Option FieldType} {as : List Value} (I : z_FI TB y c maxL rt) (hlen : (lg_sl as).length ≤ maxL)
    (body : ∀ (G : z_G) (X : z_X), z_F cl ats nw TB G y.cls c maxL (z_rm rk mc ms) X → X.2.2.2.2.2.2.2.2.1.sig.returnType = rt → X.2.2.2.2.2.2.2.2.1.name = y.name → z_V cl G maxL X (z_end cl ats nw G X mc ms Q') 0 0 0 (lv_args 0 as) [] h) : z_M cl ats nw TB y c maxL rt rk mc ms as h Q' := by
  intro l G
  refine Met.ofW (cc := c) (maxL := maxL) (ret := rt) I.2.2.2 rfl ?_
  intro p e s m args below meth cd s₁ B hml hv
  obtain ⟨rfl, hR, hK, hN⟩ := hv
  have hts := atoms_spec (ws := Cond.code y c maxL rt :: TB) B.pre
  have hb : G.2.2.2 ≤ s.heap.size := by have h1 := hR.pos; have h2 := hR.2.1; omega
  have hl := lv_entry (as.map (z_v G)) (n := maxL) (by rw [z_slen]; exact hlen)
  rw [lg_entry_eq]
  rw [z_args] at hl
  exact body G (p, l, e, z_rm rk mc ms, s, m, (as.map (z_v G)).toArray, below, meth, cd) ⟨B.exec, B.bytes, hml, findClass_of_methodNamed B.named, fun w hw => hts w (List.mem_cons_of_mem _ hw), hK, hN, hb, rfl, B.notSynchronized⟩ B.returns (name_of_methodNamed B.named B.method).1 s.heap [] _ hR va_S.rf hl
end ZR
