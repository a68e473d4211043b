/-! our classes in the logical machine: 0 the exception, 1 Answer, 2 Identifier, 3 Question, 4 Routine, 5 Transfer, 6 ServiceRows2, 7 the reference -/
abbrev z_ats : List FieldType := [.int, .byte, .long, .boolean, .object RX1, .object RX3]
def z_nw (U : State) : Prop := va_AO RX1 U ∧ va_AO RX3 U
theorem z_nwOK : z_NW z_nw := ⟨fun _ _ hW h => ⟨h.1.moved hW.alike, h.2.moved hW.alike⟩, fun _ U _ _ h => ⟨h.1.moved (Vm.Alike.refl U.vm), h.2.moved (Vm.Alike.refl U.vm)⟩⟩
abbrev z_K (y : MethodName) (c : ByteArray) (maxL : Nat) (rt : Option FieldType) (rk mc ms : Nat) (as : List Value) (h : z_H) (Q : Option Value → z_H → Prop) : Prop := z_M vwCl z_ats z_nw wsL_law y c maxL rt rk mc ms as h Q
theorem vM_X2_29 : Cond.methodLink RX2 29 Lib.Math.min.name ∈ wsL_law := wL_10 _ (by decide +kernel)
theorem vS_min : Cond.static Lib.Math.min.name ∈ wsL_law := wL_10 _ (by decide +kernel)
theorem vI_min : Cond.initialized "java/lang/Math" ∈ wsL_law := wL_10 _ (by decide +kernel)
theorem vC_min : Cond.code Lib.Math.min.name Lib.Math.min.code 2 (some .int) ∈ wsL_law := wL_10 _ (by decide +kernel)
theorem z_mmin {G : z_G} {own : String} {cc : ByteArray} {nL : Nat} {R0 : Room} {X : z_X} {Q : State → Prop} {cells slots pc : Nat} {lv : List (Nat × Value)} {st : List Value} {h : z_H} (F : z_F vwCl z_ats z_nw wsL_law G own cc nL R0 X) {idx : Nat} {x y : Int32} (hl : Cond.methodLink own idx Lib.Math.min.name ∈ wsL_law) (hd : decode cc pc = .ok (.invokestatic idx, 3)) (hfr : 1 ≤ R0.frames) (hlo : (st.map fun v => v.category).sum + 13 ≤ R0.locals) (hc : cells ≤ R0.cells) (hs : slots ≤ R0.slots)
    (kk : z_V vwCl G nL X Q cells slots (pc + 3) lv (.int (if y < x then y else x) :: st) h) : z_V vwCl G nL X Q cells slots pc lv (.int y :: .int x :: st) h := by
  intro H locs ls r b d
  exact va_mmin F.1 F.2.1 (by rw [F.2.2.1]; exact d.1.symm) F.own (F.wd _ hl) (F.wd _ vS_min) (F.wd _ vI_min) (F.wd _ vC_min) (by rw [F.room]; exact hfr) (by rw [F.room, z_cats]; exact hlo) (by rw [F.room]; exact hc) (by rw [F.room]; exact hs) hd (kk H locs ls r b d)
