theorem cj_X6_init {D : va_G} {I : ClassId} {pre : va_W} {a : Nat} : jn_M D I mi_X6_init ({ frames := 2, cells := 3, slots := 1042, locals := 128 } : Room) 3 1042 (pre ++ [(a, .inr (5, [.null, .null, .null, .int 0, .int 0]))]) [.ref a] (fun ws => ∃ q1 q2 q3 : Nat, ws = pre ++ (a, .inr (5, [.ref q1, .ref q2, .ref q3, .int (nI 0), .int (nI 0)])) :: [(q1, .inl (I, (960, .inl (fun _ => 0)))), (q2, .inl (I, (18, .inl (fun _ => 0)))), (q3, .inl (I, (64, .inl (fun _ => 0))))]) := by
  refine jn_enter (by decide) rfl rfl (Nat.le_of_ble_eq_true rfl) (fun A => ?_)
  refine jn_aload_n 0 0 1 dX6_init_0 rfl rfl rfl ?_
  refine jn_obj 4 dX6_init_1 rfl oo_X6 (Nat.le_of_ble_eq_true rfl) (Nat.le_of_ble_eq_true rfl) ?_
  refine jn_aload_n 0 0 5 dX6_init_4 rfl rfl rfl ?_
  refine jn_sipush (nI 960) 8 dX6_init_5 rfl rfl ?_
  refine jn_newa (N := 960) 10 dX6_init_8 rfl rfl (Nat.le_of_ble_eq_true rfl) (Nat.le_of_ble_eq_true rfl) (Nat.le_of_ble_eq_true rfl) (fun q1 => ?_)
  refine jn_ws (ws' := pre ++ (a, .inr (5, [.null, .null, .null, .int 0, .int 0])) :: [(q1, .inl (I, (960, .inl (fun _ => 0))))]) (List.append_assoc _ _ _) ?_
  refine jn_putF (k := 0) (ty := .array .int) 13 dX6_init_10 rfl lay_X6 rfl tyX6 tyX6_ok nmX6 (by decide) rfl rfl rfl fl_X6_9 (by decide +kernel) rfl rfl (Nat.le_of_ble_eq_true rfl) ?_
  refine jn_aload_n 0 0 14 dX6_init_13 rfl rfl rfl ?_
  refine jn_bipush (nI 18) 16 dX6_init_14 rfl rfl ?_
  refine jn_newa (N := 18) 18 dX6_init_16 rfl rfl (Nat.le_of_ble_eq_true rfl) (Nat.le_of_ble_eq_true rfl) (Nat.le_of_ble_eq_true rfl) (fun q2 => ?_)
  refine jn_ws (ws' := pre ++ (a, .inr (5, [.ref q1, .null, .null, .int 0, .int 0])) :: [(q1, .inl (I, (960, .inl (fun _ => 0)))), (q2, .inl (I, (18, .inl (fun _ => 0))))]) (List.append_assoc _ _ _) ?_
  refine jn_putF (k := 1) (ty := .array .int) 21 dX6_init_18 rfl lay_X6 rfl tyX6 tyX6_ok nmX6 (by decide) rfl rfl rfl fl_X6_15 (by decide +kernel) rfl rfl (Nat.le_of_ble_eq_true rfl) ?_
  refine jn_aload_n 0 0 22 dX6_init_21 rfl rfl rfl ?_
  refine jn_bipush (nI 64) 24 dX6_init_22 rfl rfl ?_
  refine jn_newa (N := 64) 26 dX6_init_24 rfl rfl (Nat.le_of_ble_eq_true rfl) (Nat.le_of_ble_eq_true rfl) (Nat.le_of_ble_eq_true rfl) (fun q3 => ?_)
  refine jn_ws (ws' := pre ++ (a, .inr (5, [.ref q1, .ref q2, .null, .int 0, .int 0])) :: [(q1, .inl (I, (960, .inl (fun _ => 0)))), (q2, .inl (I, (18, .inl (fun _ => 0)))), (q3, .inl (I, (64, .inl (fun _ => 0))))]) (List.append_assoc _ _ _) ?_
  refine jn_putF (k := 2) (ty := .array .int) 29 dX6_init_26 rfl lay_X6 rfl tyX6 tyX6_ok nmX6 (by decide) rfl rfl rfl fl_X6_18 (by decide +kernel) rfl rfl (Nat.le_of_ble_eq_true rfl) ?_
  refine jn_aload_n 0 0 30 dX6_init_29 rfl rfl rfl ?_
  refine jn_iconst (nI 0) 31 dX6_init_30 rfl rfl ?_
  refine jn_putI (k := 3) (ty := .int) 34 dX6_init_31 rfl lay_X6 rfl tyX6 tyX6_ok nmX6 (by decide) rfl rfl fl_X6_21 (by decide +kernel) rfl rfl (Nat.le_of_ble_eq_true rfl) ?_
  refine jn_aload_n 0 0 35 dX6_init_34 rfl rfl rfl ?_
  refine jn_iconst (nI 0) 36 dX6_init_35 rfl rfl ?_
  refine jn_putI (k := 4) (ty := .int) 39 dX6_init_36 rfl lay_X6 rfl tyX6 tyX6_ok nmX6 (by decide) rfl rfl fl_X6_25 (by decide +kernel) rfl rfl (Nat.le_of_ble_eq_true rfl) ?_
  exact jn_ret dX6_init_39 (Nat.le_of_ble_eq_true rfl) (Nat.le_of_ble_eq_true rfl) ⟨q1, q2, q3, rfl⟩
theorem cj_X2_init {D : va_G} {I : ClassId} {pre : va_W} {a x0 : Nat} : jn_M D I mi_X2_init ({ frames := 2, cells := 1, slots := 160, locals := 128 } : Room) 1 160 (pre ++ [(a, .inr (1, [.null, .null, .int 0, .int 0, .int 0, .int 0, .int 0, .int 0]))]) [.ref a, .ref x0] (fun ws => ∃ q1 : Nat, ws = pre ++ (a, .inr (1, [.ref x0, .ref q1, .int (nI 0), .int (-24), .int (nI 0), .int (nI 0), .int (nI 0), .int (-1)])) :: [(q1, .inl (I, (160, .inl (fun _ => 0))))]) := by
  refine jn_enter (by decide) rfl rfl (Nat.le_of_ble_eq_true rfl) (fun A => ?_)
  refine jn_aload_n 0 0 1 dX2_init_0 rfl rfl rfl ?_
  refine jn_obj 4 dX2_init_1 rfl oo_X2 (Nat.le_of_ble_eq_true rfl) (Nat.le_of_ble_eq_true rfl) ?_
  refine jn_aload_n 0 0 5 dX2_init_4 rfl rfl rfl ?_
  refine jn_sipush (nI 160) 8 dX2_init_5 rfl rfl ?_
  refine jn_newa (N := 160) 10 dX2_init_8 rfl rfl (Nat.le_of_ble_eq_true rfl) (Nat.le_of_ble_eq_true rfl) (Nat.le_of_ble_eq_true rfl) (fun q1 => ?_)
  refine jn_ws (ws' := pre ++ (a, .inr (1, [.null, .null, .int 0, .int 0, .int 0, .int 0, .int 0, .int 0])) :: [(q1, .inl (I, (160, .inl (fun _ => 0))))]) (List.append_assoc _ _ _) ?_
  refine jn_putF (k := 1) (ty := .array .int) 13 dX2_init_10 rfl lay_X2 rfl tyX2 tyX2_ok nmX2 (by decide) rfl rfl rfl fl_X2_9 (by decide +kernel) rfl rfl (Nat.le_of_ble_eq_true rfl) ?_
  refine jn_aload_n 0 0 14 dX2_init_13 rfl rfl rfl ?_
  refine jn_iconst (nI 0) 15 dX2_init_14 rfl rfl ?_
  refine jn_putI (k := 2) (ty := .int) 18 dX2_init_15 rfl lay_X2 rfl tyX2 tyX2_ok nmX2 (by decide) rfl rfl fl_X2_15 (by decide +kernel) rfl rfl (Nat.le_of_ble_eq_true rfl) ?_
  refine jn_aload_n 0 0 19 dX2_init_18 rfl rfl rfl ?_
  refine jn_bipush (-24) 21 dX2_init_19 rfl rfl ?_
  refine jn_putI (k := 3) (ty := .int) 24 dX2_init_21 rfl lay_X2 rfl tyX2 tyX2_ok nmX2 (by decide) rfl rfl fl_X2_21 (by decide +kernel) rfl rfl (Nat.le_of_ble_eq_true rfl) ?_
  refine jn_aload_n 0 0 25 dX2_init_24 rfl rfl rfl ?_
  refine jn_iconst (nI 0) 26 dX2_init_25 rfl rfl ?_
  refine jn_putI (k := 4) (ty := .int) 29 dX2_init_26 rfl lay_X2 rfl tyX2 tyX2_ok nmX2 (by decide) rfl rfl fl_X2_24 (by decide +kernel) rfl rfl (Nat.le_of_ble_eq_true rfl) ?_
  refine jn_aload_n 0 0 30 dX2_init_29 rfl rfl rfl ?_
  refine jn_iconst (nI 0) 31 dX2_init_30 rfl rfl ?_
  refine jn_putI (k := 5) (ty := .int) 34 dX2_init_31 rfl lay_X2 rfl tyX2 tyX2_ok nmX2 (by decide) rfl rfl fl_X2_27 (by decide +kernel) rfl rfl (Nat.le_of_ble_eq_true rfl) ?_
  refine jn_aload_n 0 0 35 dX2_init_34 rfl rfl rfl ?_
  refine jn_iconst (nI 0) 36 dX2_init_35 rfl rfl ?_
  refine jn_putI (k := 6) (ty := .int) 39 dX2_init_36 rfl lay_X2 rfl tyX2 tyX2_ok nmX2 (by decide) rfl rfl fl_X2_30 (by decide +kernel) rfl rfl (Nat.le_of_ble_eq_true rfl) ?_
  refine jn_aload_n 0 0 40 dX2_init_39 rfl rfl rfl ?_
  refine jn_iconst (-1) 41 dX2_init_40 rfl rfl ?_
  refine jn_putI (k := 7) (ty := .int) 44 dX2_init_41 rfl lay_X2 rfl tyX2 tyX2_ok nmX2 (by decide) rfl rfl fl_X2_33 (by decide +kernel) rfl rfl (Nat.le_of_ble_eq_true rfl) ?_
  refine jn_aload_n 0 0 45 dX2_init_44 rfl rfl rfl ?_
  refine jn_aload_n 1 1 46 dX2_init_45 rfl rfl rfl ?_
  refine jn_putF (k := 0) (ty := .object "GoneRed$Texts") 49 dX2_init_46 rfl lay_X2 rfl tyX2 tyX2_ok nmX2 (by decide) rfl rfl rfl fl_X2_36 (by decide +kernel) rfl rfl (Nat.le_of_ble_eq_true rfl) ?_
  exact jn_ret dX2_init_49 (Nat.le_of_ble_eq_true rfl) (Nat.le_of_ble_eq_true rfl) ⟨q1, rfl⟩
theorem cj_X7_init {D : va_G} {I : ClassId} {pre : va_W} {a : Nat} : jn_M D I mi_X7_init ({ frames := 2, cells := 1, slots := 5, locals := 128 } : Room) 1 5 (pre ++ [(a, .inr (6, [.int 0, .int 0, .int 0, .int 0, .int 0, .int 0, .int 0, .int 0, .null, .int 0]))]) [.ref a] (fun ws => ∃ q1 : Nat, ws = pre ++ (a, .inr (6, [.int (-1), .int (-1), .int (nI 0), .int (-1), .int (-1), .int (-1), .int (nI 0), .int (nI 0), .ref q1, .int (nI 0)])) :: [(q1, .inl (I, (5, .inl (fun _ => 0))))]) := by
  refine jn_enter (by decide) rfl rfl (Nat.le_of_ble_eq_true rfl) (fun A => ?_)
  refine jn_aload_n 0 0 1 dX7_init_0 rfl rfl rfl ?_
  refine jn_obj 4 dX7_init_1 rfl oo_X7 (Nat.le_of_ble_eq_true rfl) (Nat.le_of_ble_eq_true rfl) ?_
  refine jn_aload_n 0 0 5 dX7_init_4 rfl rfl rfl ?_
  refine jn_iconst (-1) 6 dX7_init_5 rfl rfl ?_
  refine jn_putI (k := 0) (ty := .int) 9 dX7_init_6 rfl lay_X7 rfl tyX7 tyX7_ok nmX7 (by decide) rfl rfl fl_X7_9 (by decide +kernel) rfl rfl (Nat.le_of_ble_eq_true rfl) ?_
  refine jn_aload_n 0 0 10 dX7_init_9 rfl rfl rfl ?_
  refine jn_iconst (-1) 11 dX7_init_10 rfl rfl ?_
  refine jn_putI (k := 1) (ty := .int) 14 dX7_init_11 rfl lay_X7 rfl tyX7 tyX7_ok nmX7 (by decide) rfl rfl fl_X7_15 (by decide +kernel) rfl rfl (Nat.le_of_ble_eq_true rfl) ?_
  refine jn_aload_n 0 0 15 dX7_init_14 rfl rfl rfl ?_
  refine jn_iconst (nI 0) 16 dX7_init_15 rfl rfl ?_
  refine jn_putI (k := 2) (ty := .int) 19 dX7_init_16 rfl lay_X7 rfl tyX7 tyX7_ok nmX7 (by decide) rfl rfl fl_X7_18 (by decide +kernel) rfl rfl (Nat.le_of_ble_eq_true rfl) ?_
  refine jn_aload_n 0 0 20 dX7_init_19 rfl rfl rfl ?_
  refine jn_iconst (-1) 21 dX7_init_20 rfl rfl ?_
  refine jn_putI (k := 3) (ty := .int) 24 dX7_init_21 rfl lay_X7 rfl tyX7 tyX7_ok nmX7 (by decide) rfl rfl fl_X7_21 (by decide +kernel) rfl rfl (Nat.le_of_ble_eq_true rfl) ?_
  refine jn_aload_n 0 0 25 dX7_init_24 rfl rfl rfl ?_
  refine jn_iconst (-1) 26 dX7_init_25 rfl rfl ?_
  refine jn_putI (k := 4) (ty := .int) 29 dX7_init_26 rfl lay_X7 rfl tyX7 tyX7_ok nmX7 (by decide) rfl rfl fl_X7_24 (by decide +kernel) rfl rfl (Nat.le_of_ble_eq_true rfl) ?_
  refine jn_aload_n 0 0 30 dX7_init_29 rfl rfl rfl ?_
  refine jn_iconst (-1) 31 dX7_init_30 rfl rfl ?_
  refine jn_putI (k := 5) (ty := .int) 34 dX7_init_31 rfl lay_X7 rfl tyX7 tyX7_ok nmX7 (by decide) rfl rfl fl_X7_27 (by decide +kernel) rfl rfl (Nat.le_of_ble_eq_true rfl) ?_
  refine jn_aload_n 0 0 35 dX7_init_34 rfl rfl rfl ?_
  refine jn_iconst (nI 0) 36 dX7_init_35 rfl rfl ?_
  refine jn_putI (k := 6) (ty := .int) 39 dX7_init_36 rfl lay_X7 rfl tyX7 tyX7_ok nmX7 (by decide) rfl rfl fl_X7_30 (by decide +kernel) rfl rfl (Nat.le_of_ble_eq_true rfl) ?_
  refine jn_aload_n 0 0 40 dX7_init_39 rfl rfl rfl ?_
  refine jn_iconst (nI 0) 41 dX7_init_40 rfl rfl ?_
  refine jn_putI (k := 7) (ty := .int) 44 dX7_init_41 rfl lay_X7 rfl tyX7 tyX7_ok nmX7 (by decide) rfl rfl fl_X7_33 (by decide +kernel) rfl rfl (Nat.le_of_ble_eq_true rfl) ?_
  refine jn_aload_n 0 0 45 dX7_init_44 rfl rfl rfl ?_
  refine jn_iconst (nI 5) 46 dX7_init_45 rfl rfl ?_
  refine jn_newa (N := 5) 48 dX7_init_46 rfl rfl (Nat.le_of_ble_eq_true rfl) (Nat.le_of_ble_eq_true rfl) (Nat.le_of_ble_eq_true rfl) (fun q1 => ?_)
  refine jn_ws (ws' := pre ++ (a, .inr (6, [.int (-1), .int (-1), .int (nI 0), .int (-1), .int (-1), .int (-1), .int (nI 0), .int (nI 0), .null, .int 0])) :: [(q1, .inl (I, (5, .inl (fun _ => 0))))]) (List.append_assoc _ _ _) ?_
  refine jn_putF (k := 8) (ty := .array .int) 51 dX7_init_48 rfl lay_X7 rfl tyX7 tyX7_ok nmX7 (by decide) rfl rfl rfl fl_X7_36 (by decide +kernel) rfl rfl (Nat.le_of_ble_eq_true rfl) ?_
  refine jn_aload_n 0 0 52 dX7_init_51 rfl rfl rfl ?_
  refine jn_iconst (nI 0) 53 dX7_init_52 rfl rfl ?_
  refine jn_putI (k := 9) (ty := .int) 56 dX7_init_53 rfl lay_X7 rfl tyX7 tyX7_ok nmX7 (by decide) rfl rfl fl_X7_40 (by decide +kernel) rfl rfl (Nat.le_of_ble_eq_true rfl) ?_
  exact jn_ret dX7_init_56 (Nat.le_of_ble_eq_true rfl) (Nat.le_of_ble_eq_true rfl) ⟨q1, rfl⟩
theorem cj_X1_init {D : va_G} {I : ClassId} {pre : va_W} {a : Nat} : jn_M D I mi_X1_init ({ frames := 2, cells := 1, slots := 6, locals := 128 } : Room) 1 6 (pre ++ [(a, .inr (0, [.null]))]) [.ref a] (fun ws => ∃ q1 : Nat, ws = pre ++ (a, .inr (0, [.ref q1])) :: [(q1, .inl (I, (6, .inl (fun _ => 0))))]) := by
  refine jn_enter (by decide) rfl rfl (Nat.le_of_ble_eq_true rfl) (fun A => ?_)
  refine jn_aload_n 0 0 1 dX1_init_0 rfl rfl rfl ?_
  refine jn_obj 4 dX1_init_1 rfl oo_X1 (Nat.le_of_ble_eq_true rfl) (Nat.le_of_ble_eq_true rfl) ?_
  refine jn_aload_n 0 0 5 dX1_init_4 rfl rfl rfl ?_
  refine jn_bipush (nI 6) 7 dX1_init_5 rfl rfl ?_
  refine jn_newa (N := 6) 9 dX1_init_7 rfl rfl (Nat.le_of_ble_eq_true rfl) (Nat.le_of_ble_eq_true rfl) (Nat.le_of_ble_eq_true rfl) (fun q1 => ?_)
  refine jn_ws (ws' := pre ++ (a, .inr (0, [.null])) :: [(q1, .inl (I, (6, .inl (fun _ => 0))))]) (List.append_assoc _ _ _) ?_
  refine jn_putF (k := 0) (ty := .array .int) 12 dX1_init_9 rfl lay_X1 rfl tyX1 tyX1_ok nmX1 (by decide) rfl rfl rfl fl_X1_9 (by decide +kernel) rfl rfl (Nat.le_of_ble_eq_true rfl) ?_
  exact jn_ret dX1_init_12 (Nat.le_of_ble_eq_true rfl) (Nat.le_of_ble_eq_true rfl) ⟨q1, rfl⟩
theorem cj_X3_init {D : va_G} {I : ClassId} {pre : va_W} {a : Nat} : jn_M D I mi_X3_init ({ frames := 2, cells := 8, slots := 52, locals := 128 } : Room) 8 52 (pre ++ [(a, .inr (2, [.null, .null, .null, .null, .null, .null, .null, .null, .int 0, .int 0, .int 0]))]) [.ref a] (fun ws => ∃ q1 q2 q3 q4 q5 q6 q7 q8 : Nat, ws = pre ++ (a, .inr (2, [.ref q1, .ref q2, .ref q3, .ref q4, .ref q5, .ref q6, .ref q7, .ref q8, .int (nI 0), .int (nI 0), .int (nI 0)])) :: [(q1, .inl (I, (5, .inl (fun _ => 0)))), (q2, .inl (I, (5, .inl (fun _ => 0)))), (q3, .inl (I, (5, .inl (fun _ => 0)))), (q4, .inl (I, (5, .inl (fun _ => 0)))), (q5, .inl (I, (8, .inl (fun _ => 0)))), (q6, .inl (I, (8, .inl (fun _ => 0)))), (q7, .inl (I, (8, .inl (fun _ => 0)))), (q8, .inl (I, (8, .inl (fun _ => 0))))]) := by
  refine jn_enter (by decide) rfl rfl (Nat.le_of_ble_eq_true rfl) (fun A => ?_)
  refine jn_aload_n 0 0 1 dX3_init_0 rfl rfl rfl ?_
  refine jn_obj 4 dX3_init_1 rfl oo_X3 (Nat.le_of_ble_eq_true rfl) (Nat.le_of_ble_eq_true rfl) ?_
  refine jn_aload_n 0 0 5 dX3_init_4 rfl rfl rfl ?_
  refine jn_iconst (nI 5) 6 dX3_init_5 rfl rfl ?_
  refine jn_newa (N := 5) 8 dX3_init_6 rfl rfl (Nat.le_of_ble_eq_true rfl) (Nat.le_of_ble_eq_true rfl) (Nat.le_of_ble_eq_true rfl) (fun q1 => ?_)
  refine jn_ws (ws' := pre ++ (a, .inr (2, [.null, .null, .null, .null, .null, .null, .null, .null, .int 0, .int 0, .int 0])) :: [(q1, .inl (I, (5, .inl (fun _ => 0))))]) (List.append_assoc _ _ _) ?_
  refine jn_putF (k := 0) (ty := .array .int) 11 dX3_init_8 rfl lay_X3 rfl tyX3 tyX3_ok nmX3 (by decide) rfl rfl rfl fl_X3_9 (by decide +kernel) rfl rfl (Nat.le_of_ble_eq_true rfl) ?_
  refine jn_aload_n 0 0 12 dX3_init_11 rfl rfl rfl ?_
  refine jn_iconst (nI 5) 13 dX3_init_12 rfl rfl ?_
  refine jn_newa (N := 5) 15 dX3_init_13 rfl rfl (Nat.le_of_ble_eq_true rfl) (Nat.le_of_ble_eq_true rfl) (Nat.le_of_ble_eq_true rfl) (fun q2 => ?_)
  refine jn_ws (ws' := pre ++ (a, .inr (2, [.ref q1, .null, .null, .null, .null, .null, .null, .null, .int 0, .int 0, .int 0])) :: [(q1, .inl (I, (5, .inl (fun _ => 0)))), (q2, .inl (I, (5, .inl (fun _ => 0))))]) (List.append_assoc _ _ _) ?_
  refine jn_putF (k := 1) (ty := .array .int) 18 dX3_init_15 rfl lay_X3 rfl tyX3 tyX3_ok nmX3 (by decide) rfl rfl rfl fl_X3_15 (by decide +kernel) rfl rfl (Nat.le_of_ble_eq_true rfl) ?_
  refine jn_aload_n 0 0 19 dX3_init_18 rfl rfl rfl ?_
  refine jn_iconst (nI 5) 20 dX3_init_19 rfl rfl ?_
  refine jn_newa (N := 5) 22 dX3_init_20 rfl rfl (Nat.le_of_ble_eq_true rfl) (Nat.le_of_ble_eq_true rfl) (Nat.le_of_ble_eq_true rfl) (fun q3 => ?_)
  refine jn_ws (ws' := pre ++ (a, .inr (2, [.ref q1, .ref q2, .null, .null, .null, .null, .null, .null, .int 0, .int 0, .int 0])) :: [(q1, .inl (I, (5, .inl (fun _ => 0)))), (q2, .inl (I, (5, .inl (fun _ => 0)))), (q3, .inl (I, (5, .inl (fun _ => 0))))]) (List.append_assoc _ _ _) ?_
  refine jn_putF (k := 2) (ty := .array .int) 25 dX3_init_22 rfl lay_X3 rfl tyX3 tyX3_ok nmX3 (by decide) rfl rfl rfl fl_X3_18 (by decide +kernel) rfl rfl (Nat.le_of_ble_eq_true rfl) ?_
  refine jn_aload_n 0 0 26 dX3_init_25 rfl rfl rfl ?_
  refine jn_iconst (nI 5) 27 dX3_init_26 rfl rfl ?_
  refine jn_newa (N := 5) 29 dX3_init_27 rfl rfl (Nat.le_of_ble_eq_true rfl) (Nat.le_of_ble_eq_true rfl) (Nat.le_of_ble_eq_true rfl) (fun q4 => ?_)
  refine jn_ws (ws' := pre ++ (a, .inr (2, [.ref q1, .ref q2, .ref q3, .null, .null, .null, .null, .null, .int 0, .int 0, .int 0])) :: [(q1, .inl (I, (5, .inl (fun _ => 0)))), (q2, .inl (I, (5, .inl (fun _ => 0)))), (q3, .inl (I, (5, .inl (fun _ => 0)))), (q4, .inl (I, (5, .inl (fun _ => 0))))]) (List.append_assoc _ _ _) ?_
  refine jn_putF (k := 3) (ty := .array .int) 32 dX3_init_29 rfl lay_X3 rfl tyX3 tyX3_ok nmX3 (by decide) rfl rfl rfl fl_X3_21 (by decide +kernel) rfl rfl (Nat.le_of_ble_eq_true rfl) ?_
  refine jn_aload_n 0 0 33 dX3_init_32 rfl rfl rfl ?_
  refine jn_bipush (nI 8) 35 dX3_init_33 rfl rfl ?_
  refine jn_newa (N := 8) 37 dX3_init_35 rfl rfl (Nat.le_of_ble_eq_true rfl) (Nat.le_of_ble_eq_true rfl) (Nat.le_of_ble_eq_true rfl) (fun q5 => ?_)
  refine jn_ws (ws' := pre ++ (a, .inr (2, [.ref q1, .ref q2, .ref q3, .ref q4, .null, .null, .null, .null, .int 0, .int 0, .int 0])) :: [(q1, .inl (I, (5, .inl (fun _ => 0)))), (q2, .inl (I, (5, .inl (fun _ => 0)))), (q3, .inl (I, (5, .inl (fun _ => 0)))), (q4, .inl (I, (5, .inl (fun _ => 0)))), (q5, .inl (I, (8, .inl (fun _ => 0))))]) (List.append_assoc _ _ _) ?_
  refine jn_putF (k := 4) (ty := .array .int) 40 dX3_init_37 rfl lay_X3 rfl tyX3 tyX3_ok nmX3 (by decide) rfl rfl rfl fl_X3_24 (by decide +kernel) rfl rfl (Nat.le_of_ble_eq_true rfl) ?_
  refine jn_aload_n 0 0 41 dX3_init_40 rfl rfl rfl ?_
  refine jn_bipush (nI 8) 43 dX3_init_41 rfl rfl ?_
  refine jn_newa (N := 8) 45 dX3_init_43 rfl rfl (Nat.le_of_ble_eq_true rfl) (Nat.le_of_ble_eq_true rfl) (Nat.le_of_ble_eq_true rfl) (fun q6 => ?_)
  refine jn_ws (ws' := pre ++ (a, .inr (2, [.ref q1, .ref q2, .ref q3, .ref q4, .ref q5, .null, .null, .null, .int 0, .int 0, .int 0])) :: [(q1, .inl (I, (5, .inl (fun _ => 0)))), (q2, .inl (I, (5, .inl (fun _ => 0)))), (q3, .inl (I, (5, .inl (fun _ => 0)))), (q4, .inl (I, (5, .inl (fun _ => 0)))), (q5, .inl (I, (8, .inl (fun _ => 0)))), (q6, .inl (I, (8, .inl (fun _ => 0))))]) (List.append_assoc _ _ _) ?_
  refine jn_putF (k := 5) (ty := .array .int) 48 dX3_init_45 rfl lay_X3 rfl tyX3 tyX3_ok nmX3 (by decide) rfl rfl rfl fl_X3_27 (by decide +kernel) rfl rfl (Nat.le_of_ble_eq_true rfl) ?_
  refine jn_aload_n 0 0 49 dX3_init_48 rfl rfl rfl ?_
  refine jn_bipush (nI 8) 51 dX3_init_49 rfl rfl ?_
  refine jn_newa (N := 8) 53 dX3_init_51 rfl rfl (Nat.le_of_ble_eq_true rfl) (Nat.le_of_ble_eq_true rfl) (Nat.le_of_ble_eq_true rfl) (fun q7 => ?_)
  refine jn_ws (ws' := pre ++ (a, .inr (2, [.ref q1, .ref q2, .ref q3, .ref q4, .ref q5, .ref q6, .null, .null, .int 0, .int 0, .int 0])) :: [(q1, .inl (I, (5, .inl (fun _ => 0)))), (q2, .inl (I, (5, .inl (fun _ => 0)))), (q3, .inl (I, (5, .inl (fun _ => 0)))), (q4, .inl (I, (5, .inl (fun _ => 0)))), (q5, .inl (I, (8, .inl (fun _ => 0)))), (q6, .inl (I, (8, .inl (fun _ => 0)))), (q7, .inl (I, (8, .inl (fun _ => 0))))]) (List.append_assoc _ _ _) ?_
  refine jn_putF (k := 6) (ty := .array .int) 56 dX3_init_53 rfl lay_X3 rfl tyX3 tyX3_ok nmX3 (by decide) rfl rfl rfl fl_X3_30 (by decide +kernel) rfl rfl (Nat.le_of_ble_eq_true rfl) ?_
  refine jn_aload_n 0 0 57 dX3_init_56 rfl rfl rfl ?_
  refine jn_bipush (nI 8) 59 dX3_init_57 rfl rfl ?_
  refine jn_newa (N := 8) 61 dX3_init_59 rfl rfl (Nat.le_of_ble_eq_true rfl) (Nat.le_of_ble_eq_true rfl) (Nat.le_of_ble_eq_true rfl) (fun q8 => ?_)
  refine jn_ws (ws' := pre ++ (a, .inr (2, [.ref q1, .ref q2, .ref q3, .ref q4, .ref q5, .ref q6, .ref q7, .null, .int 0, .int 0, .int 0])) :: [(q1, .inl (I, (5, .inl (fun _ => 0)))), (q2, .inl (I, (5, .inl (fun _ => 0)))), (q3, .inl (I, (5, .inl (fun _ => 0)))), (q4, .inl (I, (5, .inl (fun _ => 0)))), (q5, .inl (I, (8, .inl (fun _ => 0)))), (q6, .inl (I, (8, .inl (fun _ => 0)))), (q7, .inl (I, (8, .inl (fun _ => 0)))), (q8, .inl (I, (8, .inl (fun _ => 0))))]) (List.append_assoc _ _ _) ?_
  refine jn_putF (k := 7) (ty := .array .int) 64 dX3_init_61 rfl lay_X3 rfl tyX3 tyX3_ok nmX3 (by decide) rfl rfl rfl fl_X3_33 (by decide +kernel) rfl rfl (Nat.le_of_ble_eq_true rfl) ?_
  refine jn_aload_n 0 0 65 dX3_init_64 rfl rfl rfl ?_
  refine jn_iconst (nI 0) 66 dX3_init_65 rfl rfl ?_
  refine jn_putI (k := 8) (ty := .int) 69 dX3_init_66 rfl lay_X3 rfl tyX3 tyX3_ok nmX3 (by decide) rfl rfl fl_X3_36 (by decide +kernel) rfl rfl (Nat.le_of_ble_eq_true rfl) ?_
  refine jn_aload_n 0 0 70 dX3_init_69 rfl rfl rfl ?_
  refine jn_iconst (nI 0) 71 dX3_init_70 rfl rfl ?_
  refine jn_putI (k := 9) (ty := .int) 74 dX3_init_71 rfl lay_X3 rfl tyX3 tyX3_ok nmX3 (by decide) rfl rfl fl_X3_40 (by decide +kernel) rfl rfl (Nat.le_of_ble_eq_true rfl) ?_
  refine jn_aload_n 0 0 75 dX3_init_74 rfl rfl rfl ?_
  refine jn_iconst (nI 0) 76 dX3_init_75 rfl rfl ?_
  refine jn_putI (k := 10) (ty := .int) 79 dX3_init_76 rfl lay_X3 rfl tyX3 tyX3_ok nmX3 (by decide) rfl rfl fl_X3_43 (by decide +kernel) rfl rfl (Nat.le_of_ble_eq_true rfl) ?_
  exact jn_ret dX3_init_79 (Nat.le_of_ble_eq_true rfl) (Nat.le_of_ble_eq_true rfl) ⟨q1, q2, q3, q4, q5, q6, q7, q8, rfl⟩
theorem cj_X5_init {D : va_G} {I : ClassId} {pre : va_W} {a : Nat} : jn_M D I mi_X5_init ({ frames := 2, cells := 3, slots := 168, locals := 128 } : Room) 3 168 (pre ++ [(a, .inr (4, [.null, .null, .null]))]) [.ref a] (fun ws => ∃ q1 q2 q3 : Nat, ws = pre ++ (a, .inr (4, [.ref q1, .ref q2, .ref q3])) :: [(q1, .inl (I, (4, .inl (upd (upd (upd (upd (fun _ => 0) 0 (-1)) 1 (-1)) 2 (-1)) 3 (-1))))), (q2, .inl (I, (4, .inl (fun _ => 0)))), (q3, .inl (I, (160, .inl (fun _ => 0))))]) := by
  refine jn_enter (by decide) rfl rfl (Nat.le_of_ble_eq_true rfl) (fun A => ?_)
  refine jn_aload_n 0 0 1 dX5_init_0 rfl rfl rfl ?_
  refine jn_obj 4 dX5_init_1 rfl oo_X5 (Nat.le_of_ble_eq_true rfl) (Nat.le_of_ble_eq_true rfl) ?_
  refine jn_aload_n 0 0 5 dX5_init_4 rfl rfl rfl ?_
  refine jn_iconst (nI 4) 6 dX5_init_5 rfl rfl ?_
  refine jn_newa (N := 4) 8 dX5_init_6 rfl rfl (Nat.le_of_ble_eq_true rfl) (Nat.le_of_ble_eq_true rfl) (Nat.le_of_ble_eq_true rfl) (fun q1 => ?_)
  refine jn_dup 9 dX5_init_8 rfl rfl ?_
  refine jn_iconst (nI 0) 10 dX5_init_9 rfl rfl ?_
  refine jn_iconst (-1) 11 dX5_init_10 rfl rfl ?_
  refine jn_iast (k := 0) 12 dX5_init_11 rfl rfl (Nat.le_of_ble_eq_true rfl) (Nat.le_of_ble_eq_true rfl) ?_
  refine jn_dup 13 dX5_init_12 rfl rfl ?_
  refine jn_iconst (nI 1) 14 dX5_init_13 rfl rfl ?_
  refine jn_iconst (-1) 15 dX5_init_14 rfl rfl ?_
  refine jn_iast (k := 1) 16 dX5_init_15 rfl rfl (Nat.le_of_ble_eq_true rfl) (Nat.le_of_ble_eq_true rfl) ?_
  refine jn_dup 17 dX5_init_16 rfl rfl ?_
  refine jn_iconst (nI 2) 18 dX5_init_17 rfl rfl ?_
  refine jn_iconst (-1) 19 dX5_init_18 rfl rfl ?_
  refine jn_iast (k := 2) 20 dX5_init_19 rfl rfl (Nat.le_of_ble_eq_true rfl) (Nat.le_of_ble_eq_true rfl) ?_
  refine jn_dup 21 dX5_init_20 rfl rfl ?_
  refine jn_iconst (nI 3) 22 dX5_init_21 rfl rfl ?_
  refine jn_iconst (-1) 23 dX5_init_22 rfl rfl ?_
  refine jn_iast (k := 3) 24 dX5_init_23 rfl rfl (Nat.le_of_ble_eq_true rfl) (Nat.le_of_ble_eq_true rfl) ?_
  refine jn_ws (ws' := pre ++ (a, .inr (4, [.null, .null, .null])) :: [(q1, .inl (I, (4, .inl (upd (upd (upd (upd (fun _ => 0) 0 (-1)) 1 (-1)) 2 (-1)) 3 (-1)))))]) (List.append_assoc _ _ _) ?_
  refine jn_putF (k := 0) (ty := .array .int) 27 dX5_init_24 rfl lay_X5 rfl tyX5 tyX5_ok nmX5 (by decide) rfl rfl rfl fl_X5_11 (by decide +kernel) rfl rfl (Nat.le_of_ble_eq_true rfl) ?_
  refine jn_aload_n 0 0 28 dX5_init_27 rfl rfl rfl ?_
  refine jn_iconst (nI 4) 29 dX5_init_28 rfl rfl ?_
  refine jn_newa (N := 4) 31 dX5_init_29 rfl rfl (Nat.le_of_ble_eq_true rfl) (Nat.le_of_ble_eq_true rfl) (Nat.le_of_ble_eq_true rfl) (fun q2 => ?_)
  refine jn_ws (ws' := pre ++ (a, .inr (4, [.ref q1, .null, .null])) :: [(q1, .inl (I, (4, .inl (upd (upd (upd (upd (fun _ => 0) 0 (-1)) 1 (-1)) 2 (-1)) 3 (-1))))), (q2, .inl (I, (4, .inl (fun _ => 0))))]) (List.append_assoc _ _ _) ?_
  refine jn_putF (k := 1) (ty := .array .int) 34 dX5_init_31 rfl lay_X5 rfl tyX5 tyX5_ok nmX5 (by decide) rfl rfl rfl fl_X5_15 (by decide +kernel) rfl rfl (Nat.le_of_ble_eq_true rfl) ?_
  refine jn_aload_n 0 0 35 dX5_init_34 rfl rfl rfl ?_
  refine jn_sipush (nI 160) 38 dX5_init_35 rfl rfl ?_
  refine jn_newa (N := 160) 40 dX5_init_38 rfl rfl (Nat.le_of_ble_eq_true rfl) (Nat.le_of_ble_eq_true rfl) (Nat.le_of_ble_eq_true rfl) (fun q3 => ?_)
  refine jn_ws (ws' := pre ++ (a, .inr (4, [.ref q1, .ref q2, .null])) :: [(q1, .inl (I, (4, .inl (upd (upd (upd (upd (fun _ => 0) 0 (-1)) 1 (-1)) 2 (-1)) 3 (-1))))), (q2, .inl (I, (4, .inl (fun _ => 0)))), (q3, .inl (I, (160, .inl (fun _ => 0))))]) (List.append_assoc _ _ _) ?_
  refine jn_putF (k := 2) (ty := .array .int) 43 dX5_init_40 rfl lay_X5 rfl tyX5 tyX5_ok nmX5 (by decide) rfl rfl rfl fl_X5_18 (by decide +kernel) rfl rfl (Nat.le_of_ble_eq_true rfl) ?_
  exact jn_ret dX5_init_43 (Nat.le_of_ble_eq_true rfl) (Nat.le_of_ble_eq_true rfl) ⟨q1, q2, q3, rfl⟩
theorem cj_X4_init {D : va_G} {I : ClassId} {pre : va_W} {a x0 x1 : Nat} : jn_M D I mi_X4_init ({ frames := 4, cells := 5, slots := 422, locals := 256 } : Room) 5 422 (pre ++ [(a, .inr (3, [.null, .null, .null, .null, .null, .null, .int 0]))]) [.ref a, .ref x0, .ref x1] (fun ws => ∃ q1 q2 q3 q4 q5 : Nat, ws = pre ++ (a, .inr (3, [.ref q1, .ref x0, .ref x1, .ref q3, .ref q4, .ref q5, .int (nI 0)])) :: [(q1, .inr (0, [.ref q2])), (q2, .inl (I, (6, .inl (fun _ => 0)))), (q3, .inl (I, (205, .inl (fun _ => 0)))), (q4, .inl (I, (205, .inl (fun _ => 0)))), (q5, .inl (I, (5, .inl (fun _ => 0))))]) := by
  refine jn_enter (by decide) rfl rfl (Nat.le_of_ble_eq_true rfl) (fun A => ?_)
  refine jn_aload_n 0 0 1 dX4_init_0 rfl rfl rfl ?_
  refine jn_obj 4 dX4_init_1 rfl oo_X4 (Nat.le_of_ble_eq_true rfl) (Nat.le_of_ble_eq_true rfl) ?_
  refine jn_aload_n 0 0 5 dX4_init_4 rfl rfl rfl ?_
  refine jn_new (ci := 0) (N := 1) (T := TX1) [.null] tyX1 8 dX4_init_5 rfl lay_X1 tyX1_ok cl_X4_9 ib_X1 iz_X1 rfl (fun j hj => by rcases (show j = 0 by omega) with rfl <;> rfl) (Nat.le_of_ble_eq_true rfl) (Nat.le_of_ble_eq_true rfl) (fun q1 => ?_)
  refine jn_dup 9 dX4_init_8 rfl rfl ?_
  refine jn_callN (a := q1) (As := []) (rest := [.ref q1, .ref a]) on_X4_11 rfl (Nat.le_of_ble_eq_true rfl) 12 dX4_init_9 rfl rfl rfl rfl ⟨(Nat.le_of_ble_eq_true rfl), (Nat.le_of_ble_eq_true rfl)⟩ ⟨(Nat.le_of_ble_eq_true rfl), (Nat.le_of_ble_eq_true rfl)⟩ (cj_X1_init) (fun ws1 hw1 => ?_)
  obtain ⟨q2, rfl⟩ := hw1
  refine jn_ws (ws' := pre ++ (a, .inr (3, [.null, .null, .null, .null, .null, .null, .int 0])) :: [(q1, .inr (0, [.ref q2])), (q2, .inl (I, (6, .inl (fun _ => 0))))]) (List.append_assoc _ _ _) ?_
  refine jn_putF (k := 0) (ty := .object "GoneRed$Names") 15 dX4_init_12 rfl lay_X4 rfl tyX4 tyX4_ok nmX4 (by decide) rfl rfl rfl fl_X4_12 (by decide +kernel) rfl rfl (Nat.le_of_ble_eq_true rfl) ?_
  refine jn_aload_n 0 0 16 dX4_init_15 rfl rfl rfl ?_
  refine jn_sipush (nI 205) 19 dX4_init_16 rfl rfl ?_
  refine jn_newa (N := 205) 21 dX4_init_19 rfl rfl (Nat.le_of_ble_eq_true rfl) (Nat.le_of_ble_eq_true rfl) (Nat.le_of_ble_eq_true rfl) (fun q3 => ?_)
  refine jn_ws (ws' := pre ++ (a, .inr (3, [.ref q1, .null, .null, .null, .null, .null, .int 0])) :: [(q1, .inr (0, [.ref q2])), (q2, .inl (I, (6, .inl (fun _ => 0)))), (q3, .inl (I, (205, .inl (fun _ => 0))))]) (List.append_assoc _ _ _) ?_
  refine jn_putF (k := 3) (ty := .array .int) 24 dX4_init_21 rfl lay_X4 rfl tyX4 tyX4_ok nmX4 (by decide) rfl rfl rfl fl_X4_18 (by decide +kernel) rfl rfl (Nat.le_of_ble_eq_true rfl) ?_
  refine jn_aload_n 0 0 25 dX4_init_24 rfl rfl rfl ?_
  refine jn_sipush (nI 205) 28 dX4_init_25 rfl rfl ?_
  refine jn_newa (N := 205) 30 dX4_init_28 rfl rfl (Nat.le_of_ble_eq_true rfl) (Nat.le_of_ble_eq_true rfl) (Nat.le_of_ble_eq_true rfl) (fun q4 => ?_)
  refine jn_ws (ws' := pre ++ (a, .inr (3, [.ref q1, .null, .null, .ref q3, .null, .null, .int 0])) :: [(q1, .inr (0, [.ref q2])), (q2, .inl (I, (6, .inl (fun _ => 0)))), (q3, .inl (I, (205, .inl (fun _ => 0)))), (q4, .inl (I, (205, .inl (fun _ => 0))))]) (List.append_assoc _ _ _) ?_
  refine jn_putF (k := 4) (ty := .array .int) 33 dX4_init_30 rfl lay_X4 rfl tyX4 tyX4_ok nmX4 (by decide) rfl rfl rfl fl_X4_22 (by decide +kernel) rfl rfl (Nat.le_of_ble_eq_true rfl) ?_
  refine jn_aload_n 0 0 34 dX4_init_33 rfl rfl rfl ?_
  refine jn_iconst (nI 5) 35 dX4_init_34 rfl rfl ?_
  refine jn_newa (N := 5) 37 dX4_init_35 rfl rfl (Nat.le_of_ble_eq_true rfl) (Nat.le_of_ble_eq_true rfl) (Nat.le_of_ble_eq_true rfl) (fun q5 => ?_)
  refine jn_ws (ws' := pre ++ (a, .inr (3, [.ref q1, .null, .null, .ref q3, .ref q4, .null, .int 0])) :: [(q1, .inr (0, [.ref q2])), (q2, .inl (I, (6, .inl (fun _ => 0)))), (q3, .inl (I, (205, .inl (fun _ => 0)))), (q4, .inl (I, (205, .inl (fun _ => 0)))), (q5, .inl (I, (5, .inl (fun _ => 0))))]) (List.append_assoc _ _ _) ?_
  refine jn_putF (k := 5) (ty := .array .int) 40 dX4_init_37 rfl lay_X4 rfl tyX4 tyX4_ok nmX4 (by decide) rfl rfl rfl fl_X4_25 (by decide +kernel) rfl rfl (Nat.le_of_ble_eq_true rfl) ?_
  refine jn_aload_n 0 0 41 dX4_init_40 rfl rfl rfl ?_
  refine jn_iconst (nI 0) 42 dX4_init_41 rfl rfl ?_
  refine jn_putI (k := 6) (ty := .int) 45 dX4_init_42 rfl lay_X4 rfl tyX4 tyX4_ok nmX4 (by decide) rfl rfl fl_X4_28 (by decide +kernel) rfl rfl (Nat.le_of_ble_eq_true rfl) ?_
  refine jn_aload_n 0 0 46 dX4_init_45 rfl rfl rfl ?_
  refine jn_aload_n 1 1 47 dX4_init_46 rfl rfl rfl ?_
  refine jn_putF (k := 1) (ty := .object "GoneRed$Texts") 50 dX4_init_47 rfl lay_X4 rfl tyX4 tyX4_ok nmX4 (by decide) rfl rfl rfl fl_X4_32 (by decide +kernel) rfl rfl (Nat.le_of_ble_eq_true rfl) ?_
  refine jn_aload_n 0 0 51 dX4_init_50 rfl rfl rfl ?_
  refine jn_aload_n 2 2 52 dX4_init_51 rfl rfl rfl ?_
  refine jn_putF (k := 2) (ty := .object "GoneRed$Twist") 55 dX4_init_52 rfl lay_X4 rfl tyX4 tyX4_ok nmX4 (by decide) rfl rfl rfl fl_X4_36 (by decide +kernel) rfl rfl (Nat.le_of_ble_eq_true rfl) ?_
  exact jn_ret dX4_init_55 (Nat.le_of_ble_eq_true rfl) (Nat.le_of_ble_eq_true rfl) ⟨q1, q2, q3, q4, q5, rfl⟩
