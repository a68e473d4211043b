/-! our classes in the logical machine: 0 the exception, 1 Answer, 2 Identifier, 3 Question, 4 Routine, 5 Transfer, 6 ServiceRows2, 7 the reference -/
abbrev z_ats : List FieldType := [.int, .byte, .long, .boolean, .object RX1, .object RX3]
def z_nw (U : State) : Prop := va_AO RX1 U ∧ va_AO RX3 U
theorem z_nwOK : z_NW z_nw := ⟨fun _ _ hW h => ⟨h.1.moved hW.alike, h.2.moved hW.alike⟩, fun _ U _ _ h => ⟨h.1.moved (Vm.Alike.refl U.vm), h.2.moved (Vm.Alike.refl U.vm)⟩⟩
abbrev z_K (y : MethodName) (c : ByteArray) (maxL : Nat) (rt : Option FieldType) (rk mc ms : Nat) (as : List Value) (h : z_H) (Q : Option Value → z_H → Prop) : Prop := z_M vwCl z_ats z_nw wsL_law y c maxL rt rk mc ms as h Q
theorem vI_min : z_FI wsL_law Lib.Math.min.name Lib.Math.min.code 2 (some .int) := ⟨wL_10 _ (by decide +kernel), wL_10 _ (by decide +kernel), by decide +kernel, by decide +kernel⟩
theorem vM_X2_29 : Cond.methodLink RX2 29 Lib.Math.min.name ∈ wsL_law := wL_10 _ (by decide +kernel)
theorem vS_min : Cond.static Lib.Math.min.name ∈ wsL_law := wL_10 _ (by decide +kernel)
