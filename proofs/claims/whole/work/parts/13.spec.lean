/-! our classes in the logical machine: 0 the exception, 1 Answer, 2 Identifier, 3 Question, 4 Routine, 5 Transfer, 6 ServiceRows2, 7 the reference -/
abbrev z_ats : List FieldType := [.int, .byte, .long, .boolean, .object RX1, .object RX3]
abbrev z_nl (i : Nat) (y : MethodName) : Cond := .methodLinkNest RX5 i y RX5
def z_nw (U : State) : Prop := va_AO RX1 U ∧ va_AO RX3 U ∧ va_Nw (z_nl 56 yX2_init) U ∧ va_Nw (z_nl 66 yX0_init) U ∧ va_Nw (z_nl 73 yX4_init) U
theorem z_nwOK : z_NW z_nw :=
  ⟨fun _ _ hW h => ⟨h.1.moved hW.alike, h.2.1.moved hW.alike, va_Nw.warmM hW h.2.2.1, va_Nw.warmM hW h.2.2.2.1, va_Nw.warmM hW h.2.2.2.2⟩,
   fun _ U _ _ h => ⟨h.1.moved (Vm.Alike.refl U.vm), h.2.1.moved (Vm.Alike.refl U.vm), va_Nw.same rfl rfl h.2.2.1, va_Nw.same rfl rfl h.2.2.2.1, va_Nw.same rfl rfl h.2.2.2.2⟩⟩
abbrev z_K (y : MethodName) (c : ByteArray) (maxL : Nat) (rt : Option FieldType) (rk mc ms : Nat) (as : List Value) (h : z_H) (Q : Option Value → z_H → Prop) : Prop := z_M vwCl z_ats z_nw wsL_law y c maxL rt rk mc ms as h Q
theorem vM_X2_29 : Cond.methodLink RX2 29 Lib.Math.min.name ∈ wsL_law := wL_10 _ (by decide +kernel)
theorem vS_min : Cond.static Lib.Math.min.name ∈ wsL_law := wL_10 _ (by decide +kernel)
theorem vI_min : Cond.initialized "java/lang/Math" ∈ wsL_law := wL_10 _ (by decide +kernel)
theorem vC_min : Cond.code Lib.Math.min.name Lib.Math.min.code 2 (some .int) ∈ wsL_law := wL_10 _ (by decide +kernel)
theorem z_mmin {G : z_G} {own : String} {cc : ByteArray} {nL : Nat} {R0 : Room} {X : z_X} {Q : State → Prop} {cells slots pc : Nat} {lv : List (Nat × Value)} {st : List Value} {h : z_H} (F : z_F vwCl z_ats z_nw wsL_law G own cc nL R0 X) {idx : Nat} {x y : Int32} (hl : Cond.methodLink own idx Lib.Math.min.name ∈ wsL_law) (hd : decode cc pc = .ok (.invokestatic idx, 3)) (hfr : 1 ≤ R0.frames) (hlo : (st.map fun v => v.category).sum + 13 ≤ R0.locals) (hc : cells ≤ R0.cells) (hs : slots ≤ R0.slots)
    (kk : z_V vwCl G nL X Q cells slots (pc + 3) lv (.int (if y < x then y else x) :: st) h) : z_V vwCl G nL X Q cells slots pc lv (.int y :: .int x :: st) h := by
  intro H locs ls r b d
  exact va_mmin F.1 F.2.1 (by rw [F.2.2.1]; exact d.1.symm) F.own (F.wd _ hl) (F.wd _ vS_min) (F.wd _ vI_min) (F.wd _ vC_min) (by rw [F.room]; exact hfr) (by rw [F.room, z_cats]; exact hlo) (by rw [F.room]; exact hc) (by rw [F.room]; exact hs) hd (kk H locs ls r b d)
/-- a constructor of a class of the same nest, by the link that says so -/
theorem z_callIN {cl : List vw_C} {ats : List FieldType} {nw : State → Prop} {TB : List Cond} {G : z_G} {own : String} {cc : ByteArray} {nL : Nat} {R0 : Room} {X : z_X} {Q : State → Prop} {cells slots pc : Nat} {lv : List (Nat × Value)} {h : z_H} (F : z_F cl ats nw TB G own cc nL R0 X) (hnw : z_NW nw) (hg : TB.all goodWord = true) {y : MethodName} {c : ByteArray} {maxL rk mc ms idx n k : Nat} {host : String} {as rest : List Value} {stk : List Value} {Q' : Option Value → z_H → Prop} (hM : z_M cl ats nw TB y c maxL none rk mc ms (.ref k :: as) h Q') (I : z_FI TB y c maxL none) (hl : ∀ U : State, nw U → va_Nw (.methodLinkNest own idx y host) U) (hv : Cond.instanceMethod y ∈ TB) (hy : y.name = "<init>") (hn : (parseMethodDescriptor y.desc).map (fun d => d.parameters.length) = some n) (hd : decode cc pc = .ok (.invokespecial idx, 3))
    (hstk : stk = as.reverse ++ .ref k :: rest) (hlen : as.length = n) (hcat : (rest.map fun v => v.category).sum ≤ 8) (hR : rk + 1 ≤ R0.frames ∧ 8 + (maxL + 11) + 40 * rk ≤ R0.locals ∧ cells + mc ≤ R0.cells ∧ slots + ms ≤ R0.slots)
    (kk : ∀ (v : Option Value) (h' : z_H), Q' v h' → z_V cl G nL X Q (cells + mc) (slots + ms) (pc + 3) lv (v.toList ++ rest) h') : z_V cl G nL X Q cells slots pc lv stk h := by
  intro H locs ls r b d
  subst hstk
  have hcw := va_cnB (R := X.2.2.2.1) (s := X.2.2.2.2.1) (args := X.2.2.2.2.2.2.1) (own := own) (host := host) (index := idx) (rm := z_rm rk mc ms) (mc := mc) (ms := ms) n F.wd (z_good hg I.1) rfl rfl rfl (hl _ F.nws) (F.wd _ I.2.1) ⟨I.2.2.1.1, I.2.2.1.2, hn⟩ ⟨by rw [F.room]; exact hR.1, by rw [F.room]; exact hR.2.1⟩
  refine z_back r b d (va_runIN (As := as.map (z_v G)) (b := z_ad G k) (rest := rest.map (z_v G)) ⟨F.1, F.2.1, F.2.2.1, F.own, F.wd⟩ (hM X.2.1 G) ⟨hcw, hy, F.wd _ hv⟩ ⟨z_blind hnw, fun U hU hW => ⟨rfl, by rw [hU]; exact r, va_K.moved hW.alike F.kn, hnw.1 _ _ hW F.nws⟩⟩ rfl (by rw [List.length_map]; exact hlen) d.1 (by rw [List.map_append, List.map_reverse]; rfl) (z_room hcat) hd ⟨by rw [F.room]; exact hR.2.2.1, by rw [F.room]; exact hR.2.2.2⟩) kk
