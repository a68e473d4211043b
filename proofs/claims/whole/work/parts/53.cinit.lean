/-- what the class holds beside the state at first -/
def x_0 : z_Xc := (fun _ => 0, (0, false, 0), (false, 0, 0, false, fun _ => 0), fun _ => 0, (0, 0, 0), fun _ => 0, fun _ => 0, fun _ => 0, fun _ => 0, fun _ => 0, fun _ _ => none, fun _ _ => 0)
theorem rfs_0 (f : Nat → Nat) : rfs f 0 = fun _ => none := by
  funext k
  exact rfs_out (Nat.not_lt_zero k)

theorem h_X5_init : ([(.inr (8, []) : z_E), .inr (6, [.ref 2, .int 0, .ref 3, .int 0, .int 1, .int 1, .int 1, .int 0, .int 0, .long 0, .long 0, .int (-1), .ref 4, .ref 6, .ref 8, .ref 10]), .inl (4, 40, .inr (.inr (.inr (.inr (fun _ => none))))), .inl (5, 10, .inr (.inr (.inr (.inr (fun _ => none))))), Q_o 5 false 0 0 false, .inl (1, 60, .inl (fun _ => 0)), Q_o 7 false 0 0 false, .inl (1, 60, .inl (fun _ => 0)), .inr (1, [.ref 9, .int 0]), .inl (1, 41, .inl (fun _ => 0)), T_o false 0 0 0] : z_H) = HC (cfun S_0 x_0) := by
  show _ = [(.inr (8, []) : z_E), cfun S_0 x_0 1, .inl (4, 40, .inr (.inr (.inr (.inr (rfs (fun _ => 0) 0))))), .inl (5, 10, .inr (.inr (.inr (.inr (rfs (fun _ => 0) 0))))), cfun S_0 x_0 4, cfun S_0 x_0 5, cfun S_0 x_0 6, cfun S_0 x_0 7, cfun S_0 x_0 8, cfun S_0 x_0 9, cfun S_0 x_0 10]
  rw [rfs_0]
  rfl

set_option maxRecDepth 100000 in
set_option maxHeartbeats 1000000 in
theorem c_X5_init  : z_K yX5_init cX5_init 1 none 2 9 227 [.ref 1] [(.inr (8, []) : z_E), (.inr (6, [.null, .int 0, .null, .int 0, .int 0, .int 0, .int 0, .int 0, .int 0, .long 0, .long 0, .int 0, .null, .null, .null, .null]) : z_E)] (fun v h' => v = none ∧ h' = HC (cfun S_0 x_0)) := by
  refine z_met vI_X5_init (Nat.le_of_ble_eq_true rfl) (fun G X F hr hnm => ?_)
  refine z_aload_n F dX5_init_0 rfl rfl ?_
  refine z_objInit F vM_X5_1 vO_i vO_c dX5_init_1 (Nat.le_of_ble_eq_true rfl) (Nat.le_of_ble_eq_true rfl) ?_
  refine z_aload_n F dX5_init_4 rfl rfl ?_
  refine z_bipush (v := 40) F dX5_init_5 rfl ?_
  refine z_newq (N := 40) (t := 4) F vC_X5_9 F.nws.1 rfl (by decide) rfl (Nat.le_of_ble_eq_true rfl) dX5_init_7 (Nat.le_of_ble_eq_true rfl) (Nat.le_of_ble_eq_true rfl) ?_
  refine z_putF F vF_X5_11 vT_X5 vD_X5_0 ⟨_, rfl, rfl⟩ hnm dX5_init_10 rfl (Nat.le_of_ble_eq_true rfl) rfl rfl (fun g10 => ?_)
  refine z_heap [(.inr (8, []) : z_E), .inr (6, [.ref 2, .int 0, .null, .int 0, .int 0, .int 0, .int 0, .int 0, .int 0, .long 0, .long 0, .int 0, .null, .null, .null, .null]), .inl (4, 40, .inr (.inr (.inr (.inr (fun _ => none)))))] rfl ?_
  refine z_aload_n F dX5_init_13 rfl rfl ?_
  refine z_iconst (v := 0) F dX5_init_14 rfl ?_
  refine z_putf F vF_X5_15 vT_X5 vD_X5_1 dX5_init_15 rfl (Nat.le_of_ble_eq_true rfl) rfl rfl (fun g15 => ?_)
  refine z_heap [(.inr (8, []) : z_E), .inr (6, [.ref 2, .int 0, .null, .int 0, .int 0, .int 0, .int 0, .int 0, .int 0, .long 0, .long 0, .int 0, .null, .null, .null, .null]), .inl (4, 40, .inr (.inr (.inr (.inr (fun _ => none)))))] rfl ?_
  refine z_aload_n F dX5_init_18 rfl rfl ?_
  refine z_bipush (v := 10) F dX5_init_19 rfl ?_
  refine z_newq (N := 10) (t := 5) F vC_X5_19 F.nws.2.1 rfl (by decide) rfl (Nat.le_of_ble_eq_true rfl) dX5_init_21 (Nat.le_of_ble_eq_true rfl) (Nat.le_of_ble_eq_true rfl) ?_
  refine z_putF F vF_X5_21 vT_X5 vD_X5_2 ⟨_, rfl, rfl⟩ hnm dX5_init_24 rfl (Nat.le_of_ble_eq_true rfl) rfl rfl (fun g24 => ?_)
  refine z_heap [(.inr (8, []) : z_E), .inr (6, [.ref 2, .int 0, .ref 3, .int 0, .int 0, .int 0, .int 0, .int 0, .int 0, .long 0, .long 0, .int 0, .null, .null, .null, .null]), .inl (4, 40, .inr (.inr (.inr (.inr (fun _ => none))))), .inl (5, 10, .inr (.inr (.inr (.inr (fun _ => none)))))] rfl ?_
  refine z_aload_n F dX5_init_27 rfl rfl ?_
  refine z_iconst (v := 0) F dX5_init_28 rfl ?_
  refine z_putf F vF_X5_25 vT_X5 vD_X5_3 dX5_init_29 rfl (Nat.le_of_ble_eq_true rfl) rfl rfl (fun g29 => ?_)
  refine z_heap [(.inr (8, []) : z_E), .inr (6, [.ref 2, .int 0, .ref 3, .int 0, .int 0, .int 0, .int 0, .int 0, .int 0, .long 0, .long 0, .int 0, .null, .null, .null, .null]), .inl (4, 40, .inr (.inr (.inr (.inr (fun _ => none))))), .inl (5, 10, .inr (.inr (.inr (.inr (fun _ => none)))))] rfl ?_
  refine z_aload_n F dX5_init_32 rfl rfl ?_
  refine z_iconst (v := 1) F dX5_init_33 rfl ?_
  refine z_putf F vF_X5_28 vT_X5 vD_X5_4 dX5_init_34 rfl (Nat.le_of_ble_eq_true rfl) rfl rfl (fun g34 => ?_)
  refine z_heap [(.inr (8, []) : z_E), .inr (6, [.ref 2, .int 0, .ref 3, .int 0, .int 1, .int 0, .int 0, .int 0, .int 0, .long 0, .long 0, .int 0, .null, .null, .null, .null]), .inl (4, 40, .inr (.inr (.inr (.inr (fun _ => none))))), .inl (5, 10, .inr (.inr (.inr (.inr (fun _ => none)))))] rfl ?_
  refine z_aload_n F dX5_init_37 rfl rfl ?_
  refine z_iconst (v := 1) F dX5_init_38 rfl ?_
  refine z_putf F vF_X5_32 vT_X5 vD_X5_5 dX5_init_39 rfl (Nat.le_of_ble_eq_true rfl) rfl rfl (fun g39 => ?_)
  refine z_heap [(.inr (8, []) : z_E), .inr (6, [.ref 2, .int 0, .ref 3, .int 0, .int 1, .int 1, .int 0, .int 0, .int 0, .long 0, .long 0, .int 0, .null, .null, .null, .null]), .inl (4, 40, .inr (.inr (.inr (.inr (fun _ => none))))), .inl (5, 10, .inr (.inr (.inr (.inr (fun _ => none)))))] rfl ?_
  refine z_aload_n F dX5_init_42 rfl rfl ?_
  refine z_iconst (v := 1) F dX5_init_43 rfl ?_
  refine z_putf F vF_X5_35 vT_X5 vD_X5_6 dX5_init_44 rfl (Nat.le_of_ble_eq_true rfl) rfl rfl (fun g44 => ?_)
  refine z_heap [(.inr (8, []) : z_E), .inr (6, [.ref 2, .int 0, .ref 3, .int 0, .int 1, .int 1, .int 1, .int 0, .int 0, .long 0, .long 0, .int 0, .null, .null, .null, .null]), .inl (4, 40, .inr (.inr (.inr (.inr (fun _ => none))))), .inl (5, 10, .inr (.inr (.inr (.inr (fun _ => none)))))] rfl ?_
  refine z_aload_n F dX5_init_47 rfl rfl ?_
  refine z_iconst (v := 0) F dX5_init_48 rfl ?_
  refine z_putf F vF_X5_38 vT_X5 vD_X5_7 dX5_init_49 rfl (Nat.le_of_ble_eq_true rfl) rfl rfl (fun g49 => ?_)
  refine z_heap [(.inr (8, []) : z_E), .inr (6, [.ref 2, .int 0, .ref 3, .int 0, .int 1, .int 1, .int 1, .int 0, .int 0, .long 0, .long 0, .int 0, .null, .null, .null, .null]), .inl (4, 40, .inr (.inr (.inr (.inr (fun _ => none))))), .inl (5, 10, .inr (.inr (.inr (.inr (fun _ => none)))))] rfl ?_
  refine z_aload_n F dX5_init_52 rfl rfl ?_
  refine z_iconst (v := 0) F dX5_init_53 rfl ?_
  refine z_putf F vF_X5_41 vT_X5 vD_X5_8 dX5_init_54 rfl (Nat.le_of_ble_eq_true rfl) rfl rfl (fun g54 => ?_)
  refine z_heap [(.inr (8, []) : z_E), .inr (6, [.ref 2, .int 0, .ref 3, .int 0, .int 1, .int 1, .int 1, .int 0, .int 0, .long 0, .long 0, .int 0, .null, .null, .null, .null]), .inl (4, 40, .inr (.inr (.inr (.inr (fun _ => none))))), .inl (5, 10, .inr (.inr (.inr (.inr (fun _ => none)))))] rfl ?_
  refine z_aload_n F dX5_init_57 rfl rfl ?_
  refine z_lconst (v := 0) F dX5_init_58 rfl ?_
  refine z_putf F vF_X5_44 vT_X5 vD_X5_9 dX5_init_59 rfl (Nat.le_of_ble_eq_true rfl) rfl rfl (fun g59 => ?_)
  refine z_heap [(.inr (8, []) : z_E), .inr (6, [.ref 2, .int 0, .ref 3, .int 0, .int 1, .int 1, .int 1, .int 0, .int 0, .long 0, .long 0, .int 0, .null, .null, .null, .null]), .inl (4, 40, .inr (.inr (.inr (.inr (fun _ => none))))), .inl (5, 10, .inr (.inr (.inr (.inr (fun _ => none)))))] rfl ?_
  refine z_aload_n F dX5_init_62 rfl rfl ?_
  refine z_lconst (v := 0) F dX5_init_63 rfl ?_
  refine z_putf F vF_X5_48 vT_X5 vD_X5_10 dX5_init_64 rfl (Nat.le_of_ble_eq_true rfl) rfl rfl (fun g64 => ?_)
  refine z_heap [(.inr (8, []) : z_E), .inr (6, [.ref 2, .int 0, .ref 3, .int 0, .int 1, .int 1, .int 1, .int 0, .int 0, .long 0, .long 0, .int 0, .null, .null, .null, .null]), .inl (4, 40, .inr (.inr (.inr (.inr (fun _ => none))))), .inl (5, 10, .inr (.inr (.inr (.inr (fun _ => none)))))] rfl ?_
  refine z_aload_n F dX5_init_67 rfl rfl ?_
  refine z_iconst (v := (-1)) F dX5_init_68 rfl ?_
  refine z_putf F vF_X5_51 vT_X5 vD_X5_11 dX5_init_69 rfl (Nat.le_of_ble_eq_true rfl) rfl rfl (fun g69 => ?_)
  refine z_heap [(.inr (8, []) : z_E), .inr (6, [.ref 2, .int 0, .ref 3, .int 0, .int 1, .int 1, .int 1, .int 0, .int 0, .long 0, .long 0, .int (-1), .null, .null, .null, .null]), .inl (4, 40, .inr (.inr (.inr (.inr (fun _ => none))))), .inl (5, 10, .inr (.inr (.inr (.inr (fun _ => none)))))] rfl ?_
  refine z_aload_n F dX5_init_72 rfl rfl ?_
  refine z_new F vN_X5_54 dX5_init_73 (Nat.le_of_ble_eq_true rfl) (Nat.le_of_ble_eq_true rfl) ?_
  refine z_dup F dX5_init_76 rfl ?_
  refine z_callIN F z_nwOK wL_good (c_X2_init (a := 4) rfl) vI_X2_init (fun U h => h.2.2.1) vV_X2_init rfl rfl dX5_init_77 rfl rfl (Nat.le_of_ble_eq_true rfl) ⟨(Nat.le_of_ble_eq_true rfl), (Nat.le_of_ble_eq_true rfl), (Nat.le_of_ble_eq_true rfl), (Nat.le_of_ble_eq_true rfl)⟩ (fun v h1 hq => ?_)
  obtain ⟨rfl, rfl⟩ := hq
  refine z_heap [(.inr (8, []) : z_E), .inr (6, [.ref 2, .int 0, .ref 3, .int 0, .int 1, .int 1, .int 1, .int 0, .int 0, .long 0, .long 0, .int (-1), .null, .null, .null, .null]), .inl (4, 40, .inr (.inr (.inr (.inr (fun _ => none))))), .inl (5, 10, .inr (.inr (.inr (.inr (fun _ => none))))), Q_o 5 false 0 0 false, .inl (1, 60, .inl (fun _ => 0))] rfl ?_
  refine z_putF F vF_X5_57 vT_X5 vD_X5_12 ⟨_, rfl, rfl⟩ hnm dX5_init_80 rfl (Nat.le_of_ble_eq_true rfl) rfl rfl (fun g80 => ?_)
  refine z_heap [(.inr (8, []) : z_E), .inr (6, [.ref 2, .int 0, .ref 3, .int 0, .int 1, .int 1, .int 1, .int 0, .int 0, .long 0, .long 0, .int (-1), .ref 4, .null, .null, .null]), .inl (4, 40, .inr (.inr (.inr (.inr (fun _ => none))))), .inl (5, 10, .inr (.inr (.inr (.inr (fun _ => none))))), Q_o 5 false 0 0 false, .inl (1, 60, .inl (fun _ => 0))] rfl ?_
  refine z_aload_n F dX5_init_83 rfl rfl ?_
  refine z_new F vN_X5_54 dX5_init_84 (Nat.le_of_ble_eq_true rfl) (Nat.le_of_ble_eq_true rfl) ?_
  refine z_dup F dX5_init_87 rfl ?_
  refine z_callIN F z_nwOK wL_good (c_X2_init (a := 6) rfl) vI_X2_init (fun U h => h.2.2.1) vV_X2_init rfl rfl dX5_init_88 rfl rfl (Nat.le_of_ble_eq_true rfl) ⟨(Nat.le_of_ble_eq_true rfl), (Nat.le_of_ble_eq_true rfl), (Nat.le_of_ble_eq_true rfl), (Nat.le_of_ble_eq_true rfl)⟩ (fun v h1 hq => ?_)
  obtain ⟨rfl, rfl⟩ := hq
  refine z_heap [(.inr (8, []) : z_E), .inr (6, [.ref 2, .int 0, .ref 3, .int 0, .int 1, .int 1, .int 1, .int 0, .int 0, .long 0, .long 0, .int (-1), .ref 4, .null, .null, .null]), .inl (4, 40, .inr (.inr (.inr (.inr (fun _ => none))))), .inl (5, 10, .inr (.inr (.inr (.inr (fun _ => none))))), Q_o 5 false 0 0 false, .inl (1, 60, .inl (fun _ => 0)), Q_o 7 false 0 0 false, .inl (1, 60, .inl (fun _ => 0))] rfl ?_
  refine z_putF F vF_X5_61 vT_X5 vD_X5_13 ⟨_, rfl, rfl⟩ hnm dX5_init_91 rfl (Nat.le_of_ble_eq_true rfl) rfl rfl (fun g91 => ?_)
  refine z_heap [(.inr (8, []) : z_E), .inr (6, [.ref 2, .int 0, .ref 3, .int 0, .int 1, .int 1, .int 1, .int 0, .int 0, .long 0, .long 0, .int (-1), .ref 4, .ref 6, .null, .null]), .inl (4, 40, .inr (.inr (.inr (.inr (fun _ => none))))), .inl (5, 10, .inr (.inr (.inr (.inr (fun _ => none))))), Q_o 5 false 0 0 false, .inl (1, 60, .inl (fun _ => 0)), Q_o 7 false 0 0 false, .inl (1, 60, .inl (fun _ => 0))] rfl ?_
  refine z_aload_n F dX5_init_94 rfl rfl ?_
  refine z_new F vN_X5_64 dX5_init_95 (Nat.le_of_ble_eq_true rfl) (Nat.le_of_ble_eq_true rfl) ?_
  refine z_dup F dX5_init_98 rfl ?_
  refine z_callIN F z_nwOK wL_good (c_X0_init (a := 8) rfl) vI_X0_init (fun U h => h.2.2.2.1) vV_X0_init rfl rfl dX5_init_99 rfl rfl (Nat.le_of_ble_eq_true rfl) ⟨(Nat.le_of_ble_eq_true rfl), (Nat.le_of_ble_eq_true rfl), (Nat.le_of_ble_eq_true rfl), (Nat.le_of_ble_eq_true rfl)⟩ (fun v h1 hq => ?_)
  obtain ⟨rfl, rfl⟩ := hq
  refine z_heap [(.inr (8, []) : z_E), .inr (6, [.ref 2, .int 0, .ref 3, .int 0, .int 1, .int 1, .int 1, .int 0, .int 0, .long 0, .long 0, .int (-1), .ref 4, .ref 6, .null, .null]), .inl (4, 40, .inr (.inr (.inr (.inr (fun _ => none))))), .inl (5, 10, .inr (.inr (.inr (.inr (fun _ => none))))), Q_o 5 false 0 0 false, .inl (1, 60, .inl (fun _ => 0)), Q_o 7 false 0 0 false, .inl (1, 60, .inl (fun _ => 0)), .inr (1, [.ref 9, .int 0]), .inl (1, 41, .inl (fun _ => 0))] rfl ?_
  refine z_putF F vF_X5_67 vT_X5 vD_X5_14 ⟨_, rfl, rfl⟩ hnm dX5_init_102 rfl (Nat.le_of_ble_eq_true rfl) rfl rfl (fun g102 => ?_)
  refine z_heap [(.inr (8, []) : z_E), .inr (6, [.ref 2, .int 0, .ref 3, .int 0, .int 1, .int 1, .int 1, .int 0, .int 0, .long 0, .long 0, .int (-1), .ref 4, .ref 6, .ref 8, .null]), .inl (4, 40, .inr (.inr (.inr (.inr (fun _ => none))))), .inl (5, 10, .inr (.inr (.inr (.inr (fun _ => none))))), Q_o 5 false 0 0 false, .inl (1, 60, .inl (fun _ => 0)), Q_o 7 false 0 0 false, .inl (1, 60, .inl (fun _ => 0)), .inr (1, [.ref 9, .int 0]), .inl (1, 41, .inl (fun _ => 0))] rfl ?_
  refine z_aload_n F dX5_init_105 rfl rfl ?_
  refine z_new F vN_X5_71 dX5_init_106 (Nat.le_of_ble_eq_true rfl) (Nat.le_of_ble_eq_true rfl) ?_
  refine z_dup F dX5_init_109 rfl ?_
  refine z_callIN F z_nwOK wL_good (c_X4_init (t := 10) rfl) vI_X4_init (fun U h => h.2.2.2.2) vV_X4_init rfl rfl dX5_init_110 rfl rfl (Nat.le_of_ble_eq_true rfl) ⟨(Nat.le_of_ble_eq_true rfl), (Nat.le_of_ble_eq_true rfl), (Nat.le_of_ble_eq_true rfl), (Nat.le_of_ble_eq_true rfl)⟩ (fun v h1 hq => ?_)
  obtain ⟨rfl, rfl⟩ := hq
  refine z_heap [(.inr (8, []) : z_E), .inr (6, [.ref 2, .int 0, .ref 3, .int 0, .int 1, .int 1, .int 1, .int 0, .int 0, .long 0, .long 0, .int (-1), .ref 4, .ref 6, .ref 8, .null]), .inl (4, 40, .inr (.inr (.inr (.inr (fun _ => none))))), .inl (5, 10, .inr (.inr (.inr (.inr (fun _ => none))))), Q_o 5 false 0 0 false, .inl (1, 60, .inl (fun _ => 0)), Q_o 7 false 0 0 false, .inl (1, 60, .inl (fun _ => 0)), .inr (1, [.ref 9, .int 0]), .inl (1, 41, .inl (fun _ => 0)), T_o false 0 0 0] rfl ?_
  refine z_putF F vF_X5_74 vT_X5 vD_X5_15 ⟨_, rfl, rfl⟩ hnm dX5_init_113 rfl (Nat.le_of_ble_eq_true rfl) rfl rfl (fun g113 => ?_)
  refine z_heap [(.inr (8, []) : z_E), .inr (6, [.ref 2, .int 0, .ref 3, .int 0, .int 1, .int 1, .int 1, .int 0, .int 0, .long 0, .long 0, .int (-1), .ref 4, .ref 6, .ref 8, .ref 10]), .inl (4, 40, .inr (.inr (.inr (.inr (fun _ => none))))), .inl (5, 10, .inr (.inr (.inr (.inr (fun _ => none))))), Q_o 5 false 0 0 false, .inl (1, 60, .inl (fun _ => 0)), Q_o 7 false 0 0 false, .inl (1, 60, .inl (fun _ => 0)), .inr (1, [.ref 9, .int 0]), .inl (1, 41, .inl (fun _ => 0)), T_o false 0 0 0] rfl ?_
  exact z_vret F hr dX5_init_116 (Nat.le_of_ble_eq_true rfl) (Nat.le_of_ble_eq_true rfl) (⟨rfl, h_X5_init⟩)
