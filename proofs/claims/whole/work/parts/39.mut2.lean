theorem pp_asks {G : jr_G} {d : Nat} {σ : jr_Sg} {a b c e f : Int32} (h : IV σ) : jr_pair G (d + 20) mi_X9_asks mi_X10_asks [.int a, .int b, .int c, .int e, .int f] σ := by
  obtain ⟨T, n, nf, nc, kd, se, lw, tp, h⟩ := h
  have hh := h
  obtain ⟨hTC, hTR, ⟨hsc, hsr, hl1, hl2, hlw, hfc, hli, hca⟩, htp, himg, hsh, hrest, hwd⟩ := hh
  have hnf := hsc.1
  have h5 := hsc.2.1
  have hnc := hsc.2.2.1
  have h8 := hsc.2.2.2.1
  have rnf := hsr.1
  have rnc := hsr.2.2.1
  have hlm := hrest.2.2.2.1
  unfold jr_pair
  rcases jr_rg a (m := 2) (by decide) with qp | ⟨p, hp, rfl⟩
  · refine jr_enter (L := [some (.ref 0), some (.int a), some (.int b), some (.int c), some (.int e), some (.int f), none]) (by decide) (Nat.le_of_ble_eq_true rfl) rfl ?_
    refine jr_iload_n 1 1 dX9_asks_0 rfl rfl rfl ?_
    refine jr_iconst (2) 2 dX9_asks_1 rfl rfl ?_
    refine cs_X9_104 5 dX9_asks_2 rfl rfl (Nat.le_of_ble_eq_true rfl) (wp_wiF qp ?_)
    refine jr_if_eq 61 8 dX9_asks_5 rfl rfl (fun q5 => ?_) (fun q => absurd (by decide) q)
    refine jr_iconst (0) 62 dX9_asks_61 rfl rfl ?_
    refine jr_istore (L' := [_, _, _, _, _, _, _]) 64 dX9_asks_62 rfl (by decide) rfl ?_
    refine jr_iload 66 dX9_asks_64 rfl rfl ?_
    refine jr_if_ne 72 69 dX9_asks_66 rfl rfl (fun q => absurd (by decide) q) (fun q66 => ?_)
    refine jr_bipush ((-2)) 71 dX9_asks_69 rfl rfl ?_
    refine jr_ireturn dX9_asks_71 rfl rfl ?_
    refine jr_enter (L := [some (.ref 46), some (.int a), some (.int b), some (.int c), some (.int e), some (.int f), none]) (by decide) (Nat.le_of_ble_eq_true rfl) rfl ?_
    refine jr_iload_n 1 1 dX10_asks_0 rfl rfl rfl ?_
    refine jr_iconst (0) 2 dX10_asks_1 rfl rfl ?_
    refine jr_iconst (2) 3 dX10_asks_2 rfl rfl ?_
    refine cs_X10_108 6 dX10_asks_3 rfl rfl (Nat.le_of_ble_eq_true rfl) (wp_inF qp ?_)
    refine jr_if_eq 62 9 dX10_asks_6 rfl rfl (fun q6 => ?_) (fun q => absurd (by decide) q)
    refine jr_iconst (0) 63 dX10_asks_62 rfl rfl ?_
    refine jr_istore (L' := [_, _, _, _, _, _, _]) 65 dX10_asks_63 rfl (by decide) rfl ?_
    refine jr_iload 67 dX10_asks_65 rfl rfl ?_
    refine jr_if_eq 99 70 dX10_asks_67 rfl rfl (fun q67 => ?_) (fun q => absurd (by decide) q)
    refine jr_bipush ((-2)) 101 dX10_asks_99 rfl rfl ?_
    refine jr_ireturn dX10_asks_101 rfl rfl ?_
    exact ⟨rfl, IV_mov (iv_same_x (jr_eqx_rf [] _) (by decide)) h⟩
  · rcases jr_rg b (m := 400) (by decide) with qx | ⟨x, hx, rfl⟩
    · refine jr_enter (L := [some (.ref 0), some (.int (nI p)), some (.int b), some (.int c), some (.int e), some (.int f), none]) (by decide) (Nat.le_of_ble_eq_true rfl) rfl ?_
      refine jr_iload_n 1 1 dX9_asks_0 rfl rfl rfl ?_
      refine jr_iconst (2) 2 dX9_asks_1 rfl rfl ?_
      refine cs_X9_104 5 dX9_asks_2 rfl rfl (Nat.le_of_ble_eq_true rfl) (wp_wiT hp (by decide) rfl ?_)
      refine jr_if_eq 61 8 dX9_asks_5 rfl rfl (fun q => absurd q (by decide)) (fun q5 => ?_)
      refine jr_iload_n 2 9 dX9_asks_8 rfl rfl rfl ?_
      refine jr_sipush (400) 12 dX9_asks_9 rfl rfl ?_
      refine cs_X9_104 15 dX9_asks_12 rfl rfl (Nat.le_of_ble_eq_true rfl) (wp_wiF qx ?_)
      refine jr_if_eq 61 18 dX9_asks_15 rfl rfl (fun q15 => ?_) (fun q => absurd (by decide) q)
      refine jr_iconst (0) 62 dX9_asks_61 rfl rfl ?_
      refine jr_istore (L' := [_, _, _, _, _, _, _]) 64 dX9_asks_62 rfl (by decide) rfl ?_
      refine jr_iload 66 dX9_asks_64 rfl rfl ?_
      refine jr_if_ne 72 69 dX9_asks_66 rfl rfl (fun q => absurd (by decide) q) (fun q66 => ?_)
      refine jr_bipush ((-2)) 71 dX9_asks_69 rfl rfl ?_
      refine jr_ireturn dX9_asks_71 rfl rfl ?_
      refine jr_enter (L := [some (.ref 46), some (.int (nI p)), some (.int b), some (.int c), some (.int e), some (.int f), none]) (by decide) (Nat.le_of_ble_eq_true rfl) rfl ?_
      refine jr_iload_n 1 1 dX10_asks_0 rfl rfl rfl ?_
      refine jr_iconst (0) 2 dX10_asks_1 rfl rfl ?_
      refine jr_iconst (2) 3 dX10_asks_2 rfl rfl ?_
      refine cs_X10_108 6 dX10_asks_3 rfl rfl (Nat.le_of_ble_eq_true rfl) (wp_inT hp (by decide) rfl ?_)
      refine jr_if_eq 62 9 dX10_asks_6 rfl rfl (fun q => absurd q (by decide)) (fun q6 => ?_)
      refine jr_iload_n 2 10 dX10_asks_9 rfl rfl rfl ?_
      refine cs_X10_191 13 dX10_asks_10 rfl rfl (Nat.le_of_ble_eq_true rfl) (wp_risMuch (fun a b => absurd ⟨a, b⟩ qx) (fun _ => ?_))
      refine jr_if_eq 62 16 dX10_asks_13 rfl rfl (fun q13 => ?_) (fun q => absurd (by decide) q)
      refine jr_iconst (0) 63 dX10_asks_62 rfl rfl ?_
      refine jr_istore (L' := [_, _, _, _, _, _, _]) 65 dX10_asks_63 rfl (by decide) rfl ?_
      refine jr_iload 67 dX10_asks_65 rfl rfl ?_
      refine jr_if_eq 99 70 dX10_asks_67 rfl rfl (fun q67 => ?_) (fun q => absurd (by decide) q)
      refine jr_bipush ((-2)) 101 dX10_asks_99 rfl rfl ?_
      refine jr_ireturn dX10_asks_101 rfl rfl ?_
      exact ⟨rfl, IV_mov (iv_same_x (jr_eqx_rf [] _) (by decide)) h⟩
    · rcases jr_rg c (m := 49) (by decide) with qy | ⟨y, hy, rfl⟩
      · refine jr_enter (L := [some (.ref 0), some (.int (nI p)), some (.int (nI x)), some (.int c), some (.int e), some (.int f), none]) (by decide) (Nat.le_of_ble_eq_true rfl) rfl ?_
        refine jr_iload_n 1 1 dX9_asks_0 rfl rfl rfl ?_
        refine jr_iconst (2) 2 dX9_asks_1 rfl rfl ?_
        refine cs_X9_104 5 dX9_asks_2 rfl rfl (Nat.le_of_ble_eq_true rfl) (wp_wiT hp (by decide) rfl ?_)
        refine jr_if_eq 61 8 dX9_asks_5 rfl rfl (fun q => absurd q (by decide)) (fun q5 => ?_)
        refine jr_iload_n 2 9 dX9_asks_8 rfl rfl rfl ?_
        refine jr_sipush (400) 12 dX9_asks_9 rfl rfl ?_
        refine cs_X9_104 15 dX9_asks_12 rfl rfl (Nat.le_of_ble_eq_true rfl) (wp_wiT hx (by decide) rfl ?_)
        refine jr_if_eq 61 18 dX9_asks_15 rfl rfl (fun q => absurd q (by decide)) (fun q15 => ?_)
        refine jr_iload_n 3 19 dX9_asks_18 rfl rfl rfl ?_
        refine jr_bipush (49) 21 dX9_asks_19 rfl rfl ?_
        refine cs_X9_104 24 dX9_asks_21 rfl rfl (Nat.le_of_ble_eq_true rfl) (wp_wiF qy ?_)
        refine jr_if_eq 61 27 dX9_asks_24 rfl rfl (fun q24 => ?_) (fun q => absurd (by decide) q)
        refine jr_iconst (0) 62 dX9_asks_61 rfl rfl ?_
        refine jr_istore (L' := [_, _, _, _, _, _, _]) 64 dX9_asks_62 rfl (by decide) rfl ?_
        refine jr_iload 66 dX9_asks_64 rfl rfl ?_
        refine jr_if_ne 72 69 dX9_asks_66 rfl rfl (fun q => absurd (by decide) q) (fun q66 => ?_)
        refine jr_bipush ((-2)) 71 dX9_asks_69 rfl rfl ?_
        refine jr_ireturn dX9_asks_71 rfl rfl ?_
        refine jr_enter (L := [some (.ref 46), some (.int (nI p)), some (.int (nI x)), some (.int c), some (.int e), some (.int f), none]) (by decide) (Nat.le_of_ble_eq_true rfl) rfl ?_
        refine jr_iload_n 1 1 dX10_asks_0 rfl rfl rfl ?_
        refine jr_iconst (0) 2 dX10_asks_1 rfl rfl ?_
        refine jr_iconst (2) 3 dX10_asks_2 rfl rfl ?_
        refine cs_X10_108 6 dX10_asks_3 rfl rfl (Nat.le_of_ble_eq_true rfl) (wp_inT hp (by decide) rfl ?_)
        refine jr_if_eq 62 9 dX10_asks_6 rfl rfl (fun q => absurd q (by decide)) (fun q6 => ?_)
        refine jr_iload_n 2 10 dX10_asks_9 rfl rfl rfl ?_
        refine cs_X10_191 13 dX10_asks_10 rfl rfl (Nat.le_of_ble_eq_true rfl) (wp_risMuch (fun _ _ => ?_) (fun q => absurd ⟨nI_pos' (by omega), nI_le (b := 400) hx (by omega)⟩ q))
        refine jr_if_eq 62 16 dX10_asks_13 rfl rfl (fun q => absurd q (by decide)) (fun q13 => ?_)
        refine jr_iload_n 3 17 dX10_asks_16 rfl rfl rfl ?_
        refine jr_iconst (0) 18 dX10_asks_17 rfl rfl ?_
        refine jr_bipush (49) 20 dX10_asks_18 rfl rfl ?_
        refine cs_X10_108 23 dX10_asks_20 rfl rfl (Nat.le_of_ble_eq_true rfl) (wp_inF qy ?_)
        refine jr_if_eq 62 26 dX10_asks_23 rfl rfl (fun q23 => ?_) (fun q => absurd (by decide) q)
        refine jr_iconst (0) 63 dX10_asks_62 rfl rfl ?_
        refine jr_istore (L' := [_, _, _, _, _, _, _]) 65 dX10_asks_63 rfl (by decide) rfl ?_
        refine jr_iload 67 dX10_asks_65 rfl rfl ?_
        refine jr_if_eq 99 70 dX10_asks_67 rfl rfl (fun q67 => ?_) (fun q => absurd (by decide) q)
        refine jr_bipush ((-2)) 101 dX10_asks_99 rfl rfl ?_
        refine jr_ireturn dX10_asks_101 rfl rfl ?_
        exact ⟨rfl, IV_mov (iv_same_x (jr_eqx_rf [] _) (by decide)) h⟩
      · rcases jr_rg e (m := 401) (by decide) with qz | ⟨z, hz, rfl⟩
        · refine jr_enter (L := [some (.ref 0), some (.int (nI p)), some (.int (nI x)), some (.int (nI y)), some (.int e), some (.int f), none]) (by decide) (Nat.le_of_ble_eq_true rfl) rfl ?_
          refine jr_iload_n 1 1 dX9_asks_0 rfl rfl rfl ?_
          refine jr_iconst (2) 2 dX9_asks_1 rfl rfl ?_
          refine cs_X9_104 5 dX9_asks_2 rfl rfl (Nat.le_of_ble_eq_true rfl) (wp_wiT hp (by decide) rfl ?_)
          refine jr_if_eq 61 8 dX9_asks_5 rfl rfl (fun q => absurd q (by decide)) (fun q5 => ?_)
          refine jr_iload_n 2 9 dX9_asks_8 rfl rfl rfl ?_
          refine jr_sipush (400) 12 dX9_asks_9 rfl rfl ?_
          refine cs_X9_104 15 dX9_asks_12 rfl rfl (Nat.le_of_ble_eq_true rfl) (wp_wiT hx (by decide) rfl ?_)
          refine jr_if_eq 61 18 dX9_asks_15 rfl rfl (fun q => absurd q (by decide)) (fun q15 => ?_)
          refine jr_iload_n 3 19 dX9_asks_18 rfl rfl rfl ?_
          refine jr_bipush (49) 21 dX9_asks_19 rfl rfl ?_
          refine cs_X9_104 24 dX9_asks_21 rfl rfl (Nat.le_of_ble_eq_true rfl) (wp_wiT hy (by decide) rfl ?_)
          refine jr_if_eq 61 27 dX9_asks_24 rfl rfl (fun q => absurd q (by decide)) (fun q24 => ?_)
          refine jr_iload 29 dX9_asks_27 rfl rfl ?_
          refine jr_sipush (401) 32 dX9_asks_29 rfl rfl ?_
          refine cs_X9_104 35 dX9_asks_32 rfl rfl (Nat.le_of_ble_eq_true rfl) (wp_wiF qz ?_)
          refine jr_if_eq 61 38 dX9_asks_35 rfl rfl (fun q35 => ?_) (fun q => absurd (by decide) q)
          refine jr_iconst (0) 62 dX9_asks_61 rfl rfl ?_
          refine jr_istore (L' := [_, _, _, _, _, _, _]) 64 dX9_asks_62 rfl (by decide) rfl ?_
          refine jr_iload 66 dX9_asks_64 rfl rfl ?_
          refine jr_if_ne 72 69 dX9_asks_66 rfl rfl (fun q => absurd (by decide) q) (fun q66 => ?_)
          refine jr_bipush ((-2)) 71 dX9_asks_69 rfl rfl ?_
          refine jr_ireturn dX9_asks_71 rfl rfl ?_
          refine jr_enter (L := [some (.ref 46), some (.int (nI p)), some (.int (nI x)), some (.int (nI y)), some (.int e), some (.int f), none]) (by decide) (Nat.le_of_ble_eq_true rfl) rfl ?_
          refine jr_iload_n 1 1 dX10_asks_0 rfl rfl rfl ?_
          refine jr_iconst (0) 2 dX10_asks_1 rfl rfl ?_
          refine jr_iconst (2) 3 dX10_asks_2 rfl rfl ?_
          refine cs_X10_108 6 dX10_asks_3 rfl rfl (Nat.le_of_ble_eq_true rfl) (wp_inT hp (by decide) rfl ?_)
          refine jr_if_eq 62 9 dX10_asks_6 rfl rfl (fun q => absurd q (by decide)) (fun q6 => ?_)
          refine jr_iload_n 2 10 dX10_asks_9 rfl rfl rfl ?_
          refine cs_X10_191 13 dX10_asks_10 rfl rfl (Nat.le_of_ble_eq_true rfl) (wp_risMuch (fun _ _ => ?_) (fun q => absurd ⟨nI_pos' (by omega), nI_le (b := 400) hx (by omega)⟩ q))
          refine jr_if_eq 62 16 dX10_asks_13 rfl rfl (fun q => absurd q (by decide)) (fun q13 => ?_)
          refine jr_iload_n 3 17 dX10_asks_16 rfl rfl rfl ?_
          refine jr_iconst (0) 18 dX10_asks_17 rfl rfl ?_
          refine jr_bipush (49) 20 dX10_asks_18 rfl rfl ?_
          refine cs_X10_108 23 dX10_asks_20 rfl rfl (Nat.le_of_ble_eq_true rfl) (wp_inT hy (by decide) rfl ?_)
          refine jr_if_eq 62 26 dX10_asks_23 rfl rfl (fun q => absurd q (by decide)) (fun q23 => ?_)
          refine jr_iload 28 dX10_asks_26 rfl rfl ?_
          refine jr_iconst (0) 29 dX10_asks_28 rfl rfl ?_
          refine jr_sipush (401) 32 dX10_asks_29 rfl rfl ?_
          refine cs_X10_108 35 dX10_asks_32 rfl rfl (Nat.le_of_ble_eq_true rfl) (wp_inF qz ?_)
          refine jr_if_eq 62 38 dX10_asks_35 rfl rfl (fun q35 => ?_) (fun q => absurd (by decide) q)
          refine jr_iconst (0) 63 dX10_asks_62 rfl rfl ?_
          refine jr_istore (L' := [_, _, _, _, _, _, _]) 65 dX10_asks_63 rfl (by decide) rfl ?_
          refine jr_iload 67 dX10_asks_65 rfl rfl ?_
          refine jr_if_eq 99 70 dX10_asks_67 rfl rfl (fun q67 => ?_) (fun q => absurd (by decide) q)
          refine jr_bipush ((-2)) 101 dX10_asks_99 rfl rfl ?_
          refine jr_ireturn dX10_asks_101 rfl rfl ?_
          exact ⟨rfl, IV_mov (iv_same_x (jr_eqx_rf [] _) (by decide)) h⟩
        · have y1 : nI y / nI 10 = nI (y / 10) := pk_div (by omega) (by omega) (by omega)
          have y2 : nI y - nI y / nI 10 * nI 10 = nI (y % 10) := pk_rem (by omega) (by omega) (by omega)
          have z1 : nI z / nI 10 = nI (z / 10) := pk_div (by omega) (by omega) (by omega)
          have z2 : nI z - nI z / nI 10 * nI 10 = nI (z % 10) := pk_rem (by omega) (by omega) (by omega)
          by_cases hz2 : z % 10 < 2
          · rcases jr_rg f (m := 9) (by decide) with qu | ⟨u, hu, rfl⟩
            · refine jr_enter (L := [some (.ref 0), some (.int (nI p)), some (.int (nI x)), some (.int (nI y)), some (.int (nI z)), some (.int f), none]) (by decide) (Nat.le_of_ble_eq_true rfl) rfl ?_
              refine jr_iload_n 1 1 dX9_asks_0 rfl rfl rfl ?_
              refine jr_iconst (nI 2) 2 dX9_asks_1 rfl rfl ?_
              refine cs_X9_104 5 dX9_asks_2 rfl rfl (Nat.le_of_ble_eq_true rfl) (wp_wiT hp (by decide) rfl ?_)
              refine jr_if_eq 61 8 dX9_asks_5 rfl rfl (fun q => absurd q (by decide)) (fun q5 => ?_)
              refine jr_iload_n 2 9 dX9_asks_8 rfl rfl rfl ?_
              refine jr_sipush (nI 400) 12 dX9_asks_9 rfl rfl ?_
              refine cs_X9_104 15 dX9_asks_12 rfl rfl (Nat.le_of_ble_eq_true rfl) (wp_wiT hx (by decide) rfl ?_)
              refine jr_if_eq 61 18 dX9_asks_15 rfl rfl (fun q => absurd q (by decide)) (fun q15 => ?_)
              refine jr_iload_n 3 19 dX9_asks_18 rfl rfl rfl ?_
              refine jr_bipush (nI 49) 21 dX9_asks_19 rfl rfl ?_
              refine cs_X9_104 24 dX9_asks_21 rfl rfl (Nat.le_of_ble_eq_true rfl) (wp_wiT hy (by decide) rfl ?_)
              refine jr_if_eq 61 27 dX9_asks_24 rfl rfl (fun q => absurd q (by decide)) (fun q24 => ?_)
              refine jr_iload 29 dX9_asks_27 rfl rfl ?_
              refine jr_sipush (nI 401) 32 dX9_asks_29 rfl rfl ?_
              refine cs_X9_104 35 dX9_asks_32 rfl rfl (Nat.le_of_ble_eq_true rfl) (wp_wiT hz (by decide) rfl ?_)
              refine jr_if_eq 61 38 dX9_asks_35 rfl rfl (fun q => absurd q (by decide)) (fun q35 => ?_)
              refine jr_iload 40 dX9_asks_38 rfl rfl ?_
              refine jr_bipush (nI 10) 42 dX9_asks_40 rfl rfl ?_
              refine jr_irem 43 dX9_asks_42 rfl (by decide) ?_
              rw [z2]
              refine jr_iconst (nI 1) 44 dX9_asks_43 rfl rfl ?_
              refine jr_icmp_gt 61 47 dX9_asks_44 rfl rfl (fun q => absurd q (Int32.not_lt.mpr (nI_le (b := 1) (by omega) (by omega)))) (fun q44 => ?_)
              refine jr_iload 49 dX9_asks_47 rfl rfl ?_
              refine jr_bipush (nI 9) 51 dX9_asks_49 rfl rfl ?_
              refine cs_X9_104 54 dX9_asks_51 rfl rfl (Nat.le_of_ble_eq_true rfl) (wp_wiF qu ?_)
              refine jr_if_eq 61 57 dX9_asks_54 rfl rfl (fun q54 => ?_) (fun q => absurd (by decide) q)
              refine jr_iconst (nI 0) 62 dX9_asks_61 rfl rfl ?_
              refine jr_istore (L' := [_, _, _, _, _, _, _]) 64 dX9_asks_62 rfl (by decide) rfl ?_
              refine jr_iload 66 dX9_asks_64 rfl rfl ?_
              refine jr_if_ne 72 69 dX9_asks_66 rfl rfl (fun q => absurd (by decide) q) (fun q66 => ?_)
              refine jr_bipush ((-2)) 71 dX9_asks_69 rfl rfl ?_
              refine jr_ireturn dX9_asks_71 rfl rfl ?_
              refine jr_enter (L := [some (.ref 46), some (.int (nI p)), some (.int (nI x)), some (.int (nI y)), some (.int (nI z)), some (.int f), none]) (by decide) (Nat.le_of_ble_eq_true rfl) rfl ?_
              refine jr_iload_n 1 1 dX10_asks_0 rfl rfl rfl ?_
              refine jr_iconst (nI 0) 2 dX10_asks_1 rfl rfl ?_
              refine jr_iconst (nI 2) 3 dX10_asks_2 rfl rfl ?_
              refine cs_X10_108 6 dX10_asks_3 rfl rfl (Nat.le_of_ble_eq_true rfl) (wp_inT hp (by decide) rfl ?_)
              refine jr_if_eq 62 9 dX10_asks_6 rfl rfl (fun q => absurd q (by decide)) (fun q6 => ?_)
              refine jr_iload_n 2 10 dX10_asks_9 rfl rfl rfl ?_
              refine cs_X10_191 13 dX10_asks_10 rfl rfl (Nat.le_of_ble_eq_true rfl) (wp_risMuch (fun _ _ => ?_) (fun q => absurd ⟨nI_pos' (by omega), nI_le (b := 400) hx (by omega)⟩ q))
              refine jr_if_eq 62 16 dX10_asks_13 rfl rfl (fun q => absurd q (by decide)) (fun q13 => ?_)
              refine jr_iload_n 3 17 dX10_asks_16 rfl rfl rfl ?_
              refine jr_iconst (nI 0) 18 dX10_asks_17 rfl rfl ?_
              refine jr_bipush (nI 49) 20 dX10_asks_18 rfl rfl ?_
              refine cs_X10_108 23 dX10_asks_20 rfl rfl (Nat.le_of_ble_eq_true rfl) (wp_inT hy (by decide) rfl ?_)
              refine jr_if_eq 62 26 dX10_asks_23 rfl rfl (fun q => absurd q (by decide)) (fun q23 => ?_)
              refine jr_iload 28 dX10_asks_26 rfl rfl ?_
              refine jr_iconst (nI 0) 29 dX10_asks_28 rfl rfl ?_
              refine jr_sipush (nI 401) 32 dX10_asks_29 rfl rfl ?_
              refine cs_X10_108 35 dX10_asks_32 rfl rfl (Nat.le_of_ble_eq_true rfl) (wp_inT hz (by decide) rfl ?_)
              refine jr_if_eq 62 38 dX10_asks_35 rfl rfl (fun q => absurd q (by decide)) (fun q35 => ?_)
              refine jr_iload 40 dX10_asks_38 rfl rfl ?_
              refine jr_bipush (nI 10) 42 dX10_asks_40 rfl rfl ?_
              refine jr_irem 43 dX10_asks_42 rfl (by decide) ?_
              rw [z2]
              refine jr_iconst (nI 2) 44 dX10_asks_43 rfl rfl ?_
              refine jr_icmp_ge 62 47 dX10_asks_44 rfl rfl (fun q => absurd q (nI_ge (b := 2) hz2 (by omega))) (fun q44 => ?_)
              refine jr_iload 49 dX10_asks_47 rfl rfl ?_
              refine jr_iconst (nI 0) 50 dX10_asks_49 rfl rfl ?_
              refine jr_bipush (nI 9) 52 dX10_asks_50 rfl rfl ?_
              refine cs_X10_108 55 dX10_asks_52 rfl rfl (Nat.le_of_ble_eq_true rfl) (wp_inF qu ?_)
              refine jr_if_eq 62 58 dX10_asks_55 rfl rfl (fun q55 => ?_) (fun q => absurd (by decide) q)
              refine jr_iconst (nI 0) 63 dX10_asks_62 rfl rfl ?_
              refine jr_istore (L' := [_, _, _, _, _, _, _]) 65 dX10_asks_63 rfl (by decide) rfl ?_
              refine jr_iload 67 dX10_asks_65 rfl rfl ?_
              refine jr_if_eq 99 70 dX10_asks_67 rfl rfl (fun q67 => ?_) (fun q => absurd (by decide) q)
              refine jr_bipush ((-2)) 101 dX10_asks_99 rfl rfl ?_
              refine jr_ireturn dX10_asks_101 rfl rfl ?_
              exact ⟨rfl, IV_mov (iv_same_x (jr_eqx_rf [] _) (by decide)) h⟩
            · rcases (by omega : p = 0 ∨ p = 1 ∨ p = 2) with rfl | rfl | rfl
              · refine jr_enter (L := [some (.ref 0), some (.int (nI 0)), some (.int (nI x)), some (.int (nI y)), some (.int (nI z)), some (.int (nI u)), none]) (by decide) (Nat.le_of_ble_eq_true rfl) rfl ?_
                refine jr_iload_n 1 1 dX9_asks_0 rfl rfl rfl ?_
                refine jr_iconst (nI 2) 2 dX9_asks_1 rfl rfl ?_
                refine cs_X9_104 5 dX9_asks_2 rfl rfl (Nat.le_of_ble_eq_true rfl) (wp_wiT hp (by decide) rfl ?_)
                refine jr_if_eq 61 8 dX9_asks_5 rfl rfl (fun q => absurd q (by decide)) (fun q5 => ?_)
                refine jr_iload_n 2 9 dX9_asks_8 rfl rfl rfl ?_
                refine jr_sipush (nI 400) 12 dX9_asks_9 rfl rfl ?_
                refine cs_X9_104 15 dX9_asks_12 rfl rfl (Nat.le_of_ble_eq_true rfl) (wp_wiT hx (by decide) rfl ?_)
                refine jr_if_eq 61 18 dX9_asks_15 rfl rfl (fun q => absurd q (by decide)) (fun q15 => ?_)
                refine jr_iload_n 3 19 dX9_asks_18 rfl rfl rfl ?_
                refine jr_bipush (nI 49) 21 dX9_asks_19 rfl rfl ?_
                refine cs_X9_104 24 dX9_asks_21 rfl rfl (Nat.le_of_ble_eq_true rfl) (wp_wiT hy (by decide) rfl ?_)
                refine jr_if_eq 61 27 dX9_asks_24 rfl rfl (fun q => absurd q (by decide)) (fun q24 => ?_)
                refine jr_iload 29 dX9_asks_27 rfl rfl ?_
                refine jr_sipush (nI 401) 32 dX9_asks_29 rfl rfl ?_
                refine cs_X9_104 35 dX9_asks_32 rfl rfl (Nat.le_of_ble_eq_true rfl) (wp_wiT hz (by decide) rfl ?_)
                refine jr_if_eq 61 38 dX9_asks_35 rfl rfl (fun q => absurd q (by decide)) (fun q35 => ?_)
                refine jr_iload 40 dX9_asks_38 rfl rfl ?_
                refine jr_bipush (nI 10) 42 dX9_asks_40 rfl rfl ?_
                refine jr_irem 43 dX9_asks_42 rfl (by decide) ?_
                rw [z2]
                refine jr_iconst (nI 1) 44 dX9_asks_43 rfl rfl ?_
                refine jr_icmp_gt 61 47 dX9_asks_44 rfl rfl (fun q => absurd q (Int32.not_lt.mpr (nI_le (b := 1) (by omega) (by omega)))) (fun q44 => ?_)
                refine jr_iload 49 dX9_asks_47 rfl rfl ?_
                refine jr_bipush (nI 9) 51 dX9_asks_49 rfl rfl ?_
                refine cs_X9_104 54 dX9_asks_51 rfl rfl (Nat.le_of_ble_eq_true rfl) (wp_wiT hu (by decide) rfl ?_)
                refine jr_if_eq 61 57 dX9_asks_54 rfl rfl (fun q => absurd q (by decide)) (fun q54 => ?_)
                refine jr_iconst (1) 58 dX9_asks_57 rfl rfl ?_
                refine jr_goto 62 dX9_asks_58 rfl ?_
                refine jr_istore (L' := [_, _, _, _, _, _, _]) 64 dX9_asks_62 rfl (by decide) rfl ?_
                refine jr_iload 66 dX9_asks_64 rfl rfl ?_
                refine jr_if_ne 72 69 dX9_asks_66 rfl rfl (fun q66 => ?_) (fun q => absurd q (by decide))
                refine jr_aload_n 0 73 dX9_asks_72 rfl rfl rfl ?_
                refine gf_X9_37 76 dX9_asks_73 rfl rfl rfl rfl ?_
                refine gf_X9_108 79 dX9_asks_76 rfl rfl rfl rfl ?_
                refine jr_iload_n 2 80 dX9_asks_79 rfl rfl rfl ?_
                refine jr_iload_n 3 81 dX9_asks_80 rfl rfl rfl ?_
                refine jr_bipush (nI 10) 83 dX9_asks_81 rfl rfl ?_
                refine jr_irem 84 dX9_asks_83 rfl (by decide) ?_
                rw [y2]
                refine jr_iload 86 dX9_asks_84 rfl rfl ?_
                refine jr_bipush (nI 10) 88 dX9_asks_86 rfl rfl ?_
                refine jr_idiv 89 dX9_asks_88 rfl (by decide) ?_
                rw [z1]
                refine jr_iload 91 dX9_asks_89 rfl rfl ?_
                refine jr_bipush (nI 10) 93 dX9_asks_91 rfl rfl ?_
                refine jr_irem 94 dX9_asks_93 rfl (by decide) ?_
                rw [z2]
                refine cs_X9_112 97 dX9_asks_94 rfl rfl rfl (Nat.le_of_ble_eq_true rfl) (wp_tell ?_)
                refine jr_aload_n 0 98 dX9_asks_97 rfl rfl rfl ?_
                refine gf_X9_37 101 dX9_asks_98 rfl rfl rfl rfl ?_
                refine gf_X9_108 104 dX9_asks_101 rfl rfl rfl rfl ?_
                refine jr_iload_n 3 105 dX9_asks_104 rfl rfl rfl ?_
                refine jr_bipush (nI 10) 107 dX9_asks_105 rfl rfl ?_
                refine jr_idiv 108 dX9_asks_107 rfl (by decide) ?_
                rw [y1]
                refine jr_iload 110 dX9_asks_108 rfl rfl ?_
                refine cs_X9_118 113 dX9_asks_110 rfl rfl rfl (Nat.le_of_ble_eq_true rfl) (wp_tellLooks ?_)
                refine jr_iload_n 1 114 dX9_asks_113 rfl rfl rfl ?_
                refine jr_iconst (nI 2) 115 dX9_asks_114 rfl rfl ?_
                refine jr_icmp_ne 152 118 dX9_asks_115 rfl rfl (fun q115 => ?_) (fun q => absurd q (by decide))
                refine jr_aload_n 0 153 dX9_asks_152 rfl rfl rfl ?_
                refine gf_X9_10 156 dX9_asks_153 rfl rfl rfl rfl ?_
                refine jr_aload_n 0 157 dX9_asks_156 rfl rfl rfl ?_
                refine gf_X9_44 160 dX9_asks_157 rfl rfl rfl rfl ?_
                refine gf_X9_94 163 dX9_asks_160 rfl rfl rfl rfl ?_
                refine jr_topi (y := nI lw) hl1 ?_
                refine jr_iload_n 1 164 dX9_asks_163 rfl rfl rfl ?_
                refine jr_aload_n 0 165 dX9_asks_164 rfl rfl rfl ?_
                refine gf_X9_37 168 dX9_asks_165 rfl rfl rfl rfl ?_
                refine gf_X9_108 171 dX9_asks_168 rfl rfl rfl rfl ?_
                refine gf_X9_122 174 dX9_asks_171 rfl rfl rfl rfl ?_
                refine cs_X9_130 177 dX9_asks_174 rfl rfl rfl (Nat.le_of_ble_eq_true rfl) (wp_boundedN (nm := (pu_nm (nI x) (nI (y / 10)) (nI (y % 10)) (nI (z / 10)) (nI (z % 10)) (nI u))) hTC hlw (by omega) (six rfl rfl rfl rfl rfl rfl) (fun f1 => ?_))
                refine jr_ireturn dX9_asks_177 rfl rfl ?_
                have g1 : jr_eqx iv_CX σ (jr_upc (jr_up (jr_up (jr_up (jr_up (jr_up (jr_up σ 11 0 (nI x)) 11 2 (nI (y % 10))) 11 3 (nI (z / 10))) 11 4 (nI (z % 10))) 11 1 (nI (y / 10))) 11 5 (nI u)) 4 f1) := jr_eqx_tr (by repeat (first | exact jr_eqx_rf _ _ | refine jr_eqx_tr ?_ (jr_eqx_up _ _ _ (by decide)))) (jr_eqx_upc _ _ (by decide))
                have h1 := iv_mov (iv_cx g1) h
                refine jr_enter (L := [some (.ref 46), some (.int (nI 0)), some (.int (nI x)), some (.int (nI y)), some (.int (nI z)), some (.int (nI u)), none]) (by decide) (Nat.le_of_ble_eq_true rfl) rfl ?_
                refine jr_iload_n 1 1 dX10_asks_0 rfl rfl rfl ?_
                refine jr_iconst (nI 0) 2 dX10_asks_1 rfl rfl ?_
                refine jr_iconst (nI 2) 3 dX10_asks_2 rfl rfl ?_
                refine cs_X10_108 6 dX10_asks_3 rfl rfl (Nat.le_of_ble_eq_true rfl) (wp_inT hp (by decide) rfl ?_)
                refine jr_if_eq 62 9 dX10_asks_6 rfl rfl (fun q => absurd q (by decide)) (fun q6 => ?_)
                refine jr_iload_n 2 10 dX10_asks_9 rfl rfl rfl ?_
                refine cs_X10_191 13 dX10_asks_10 rfl rfl (Nat.le_of_ble_eq_true rfl) (wp_risMuch (fun _ _ => ?_) (fun q => absurd ⟨nI_pos' (by omega), nI_le (b := 400) hx (by omega)⟩ q))
                refine jr_if_eq 62 16 dX10_asks_13 rfl rfl (fun q => absurd q (by decide)) (fun q13 => ?_)
                refine jr_iload_n 3 17 dX10_asks_16 rfl rfl rfl ?_
                refine jr_iconst (nI 0) 18 dX10_asks_17 rfl rfl ?_
                refine jr_bipush (nI 49) 20 dX10_asks_18 rfl rfl ?_
                refine cs_X10_108 23 dX10_asks_20 rfl rfl (Nat.le_of_ble_eq_true rfl) (wp_inT hy (by decide) rfl ?_)
                refine jr_if_eq 62 26 dX10_asks_23 rfl rfl (fun q => absurd q (by decide)) (fun q23 => ?_)
                refine jr_iload 28 dX10_asks_26 rfl rfl ?_
                refine jr_iconst (nI 0) 29 dX10_asks_28 rfl rfl ?_
                refine jr_sipush (nI 401) 32 dX10_asks_29 rfl rfl ?_
                refine cs_X10_108 35 dX10_asks_32 rfl rfl (Nat.le_of_ble_eq_true rfl) (wp_inT hz (by decide) rfl ?_)
                refine jr_if_eq 62 38 dX10_asks_35 rfl rfl (fun q => absurd q (by decide)) (fun q35 => ?_)
                refine jr_iload 40 dX10_asks_38 rfl rfl ?_
                refine jr_bipush (nI 10) 42 dX10_asks_40 rfl rfl ?_
                refine jr_irem 43 dX10_asks_42 rfl (by decide) ?_
                rw [z2]
                refine jr_iconst (nI 2) 44 dX10_asks_43 rfl rfl ?_
                refine jr_icmp_ge 62 47 dX10_asks_44 rfl rfl (fun q => absurd q (nI_ge (b := 2) hz2 (by omega))) (fun q44 => ?_)
                refine jr_iload 49 dX10_asks_47 rfl rfl ?_
                refine jr_iconst (nI 0) 50 dX10_asks_49 rfl rfl ?_
                refine jr_bipush (nI 9) 52 dX10_asks_50 rfl rfl ?_
                refine cs_X10_108 55 dX10_asks_52 rfl rfl (Nat.le_of_ble_eq_true rfl) (wp_inT hu (by decide) rfl ?_)
                refine jr_if_eq 62 58 dX10_asks_55 rfl rfl (fun q => absurd q (by decide)) (fun q55 => ?_)
                refine jr_iconst (1) 59 dX10_asks_58 rfl rfl ?_
                refine jr_goto 63 dX10_asks_59 rfl ?_
                refine jr_istore (L' := [_, _, _, _, _, _, _]) 65 dX10_asks_63 rfl (by decide) rfl ?_
                refine jr_iload 67 dX10_asks_65 rfl rfl ?_
                refine jr_if_eq 99 70 dX10_asks_67 rfl rfl (fun q => absurd q (by decide)) (fun q67 => ?_)
                refine jr_aload_n 0 71 dX10_asks_70 rfl rfl rfl ?_
                refine jr_iload_n 1 72 dX10_asks_71 rfl rfl rfl ?_
                refine jr_iload_n 2 73 dX10_asks_72 rfl rfl rfl ?_
                refine jr_iload_n 3 74 dX10_asks_73 rfl rfl rfl ?_
                refine jr_bipush (nI 10) 76 dX10_asks_74 rfl rfl ?_
                refine jr_idiv 77 dX10_asks_76 rfl (by decide) ?_
                rw [y1]
                refine jr_iload_n 3 78 dX10_asks_77 rfl rfl rfl ?_
                refine jr_bipush (nI 10) 80 dX10_asks_78 rfl rfl ?_
                refine jr_irem 81 dX10_asks_80 rfl (by decide) ?_
                rw [y2]
                refine jr_iload 83 dX10_asks_81 rfl rfl ?_
                refine jr_bipush (nI 10) 85 dX10_asks_83 rfl rfl ?_
                refine jr_idiv 86 dX10_asks_85 rfl (by decide) ?_
                rw [z1]
                refine jr_iload 88 dX10_asks_86 rfl rfl ?_
                refine jr_bipush (nI 10) 90 dX10_asks_88 rfl rfl ?_
                refine jr_irem 91 dX10_asks_90 rfl (by decide) ?_
                rw [z2]
                refine jr_iload 93 dX10_asks_91 rfl rfl ?_
                refine cs_X10_194 96 dX10_asks_93 rfl rfl rfl (Nat.le_of_ble_eq_true rfl) (wp_asksOf h1.2.1 hlw h1.2.2.1.2.2.2.1 (by omega) (fun f2 f3 => ?_))
                refine jr_goto 101 dX10_asks_96 rfl ?_
                refine jr_ireturn dX10_asks_101 rfl rfl ?_
                exact ⟨rfl, IV_mov (iv_same_tr (iv_cx g1) (iv_same_x (X := [63, 64]) (jr_eqx_tr (jr_eqx_upc _ _ (by decide)) (jr_eqx_upc _ _ (by decide))) (by decide))) h⟩
              · refine jr_enter (L := [some (.ref 0), some (.int (nI 1)), some (.int (nI x)), some (.int (nI y)), some (.int (nI z)), some (.int (nI u)), none]) (by decide) (Nat.le_of_ble_eq_true rfl) rfl ?_
                refine jr_iload_n 1 1 dX9_asks_0 rfl rfl rfl ?_
                refine jr_iconst (nI 2) 2 dX9_asks_1 rfl rfl ?_
                refine cs_X9_104 5 dX9_asks_2 rfl rfl (Nat.le_of_ble_eq_true rfl) (wp_wiT hp (by decide) rfl ?_)
                refine jr_if_eq 61 8 dX9_asks_5 rfl rfl (fun q => absurd q (by decide)) (fun q5 => ?_)
                refine jr_iload_n 2 9 dX9_asks_8 rfl rfl rfl ?_
                refine jr_sipush (nI 400) 12 dX9_asks_9 rfl rfl ?_
                refine cs_X9_104 15 dX9_asks_12 rfl rfl (Nat.le_of_ble_eq_true rfl) (wp_wiT hx (by decide) rfl ?_)
                refine jr_if_eq 61 18 dX9_asks_15 rfl rfl (fun q => absurd q (by decide)) (fun q15 => ?_)
                refine jr_iload_n 3 19 dX9_asks_18 rfl rfl rfl ?_
                refine jr_bipush (nI 49) 21 dX9_asks_19 rfl rfl ?_
                refine cs_X9_104 24 dX9_asks_21 rfl rfl (Nat.le_of_ble_eq_true rfl) (wp_wiT hy (by decide) rfl ?_)
                refine jr_if_eq 61 27 dX9_asks_24 rfl rfl (fun q => absurd q (by decide)) (fun q24 => ?_)
                refine jr_iload 29 dX9_asks_27 rfl rfl ?_
                refine jr_sipush (nI 401) 32 dX9_asks_29 rfl rfl ?_
                refine cs_X9_104 35 dX9_asks_32 rfl rfl (Nat.le_of_ble_eq_true rfl) (wp_wiT hz (by decide) rfl ?_)
                refine jr_if_eq 61 38 dX9_asks_35 rfl rfl (fun q => absurd q (by decide)) (fun q35 => ?_)
                refine jr_iload 40 dX9_asks_38 rfl rfl ?_
                refine jr_bipush (nI 10) 42 dX9_asks_40 rfl rfl ?_
                refine jr_irem 43 dX9_asks_42 rfl (by decide) ?_
                rw [z2]
                refine jr_iconst (nI 1) 44 dX9_asks_43 rfl rfl ?_
                refine jr_icmp_gt 61 47 dX9_asks_44 rfl rfl (fun q => absurd q (Int32.not_lt.mpr (nI_le (b := 1) (by omega) (by omega)))) (fun q44 => ?_)
                refine jr_iload 49 dX9_asks_47 rfl rfl ?_
                refine jr_bipush (nI 9) 51 dX9_asks_49 rfl rfl ?_
                refine cs_X9_104 54 dX9_asks_51 rfl rfl (Nat.le_of_ble_eq_true rfl) (wp_wiT hu (by decide) rfl ?_)
                refine jr_if_eq 61 57 dX9_asks_54 rfl rfl (fun q => absurd q (by decide)) (fun q54 => ?_)
                refine jr_iconst (1) 58 dX9_asks_57 rfl rfl ?_
                refine jr_goto 62 dX9_asks_58 rfl ?_
                refine jr_istore (L' := [_, _, _, _, _, _, _]) 64 dX9_asks_62 rfl (by decide) rfl ?_
                refine jr_iload 66 dX9_asks_64 rfl rfl ?_
                refine jr_if_ne 72 69 dX9_asks_66 rfl rfl (fun q66 => ?_) (fun q => absurd q (by decide))
                refine jr_aload_n 0 73 dX9_asks_72 rfl rfl rfl ?_
                refine gf_X9_37 76 dX9_asks_73 rfl rfl rfl rfl ?_
                refine gf_X9_108 79 dX9_asks_76 rfl rfl rfl rfl ?_
                refine jr_iload_n 2 80 dX9_asks_79 rfl rfl rfl ?_
                refine jr_iload_n 3 81 dX9_asks_80 rfl rfl rfl ?_
                refine jr_bipush (nI 10) 83 dX9_asks_81 rfl rfl ?_
                refine jr_irem 84 dX9_asks_83 rfl (by decide) ?_
                rw [y2]
                refine jr_iload 86 dX9_asks_84 rfl rfl ?_
                refine jr_bipush (nI 10) 88 dX9_asks_86 rfl rfl ?_
                refine jr_idiv 89 dX9_asks_88 rfl (by decide) ?_
                rw [z1]
                refine jr_iload 91 dX9_asks_89 rfl rfl ?_
                refine jr_bipush (nI 10) 93 dX9_asks_91 rfl rfl ?_
                refine jr_irem 94 dX9_asks_93 rfl (by decide) ?_
                rw [z2]
                refine cs_X9_112 97 dX9_asks_94 rfl rfl rfl (Nat.le_of_ble_eq_true rfl) (wp_tell ?_)
                refine jr_aload_n 0 98 dX9_asks_97 rfl rfl rfl ?_
                refine gf_X9_37 101 dX9_asks_98 rfl rfl rfl rfl ?_
                refine gf_X9_108 104 dX9_asks_101 rfl rfl rfl rfl ?_
                refine jr_iload_n 3 105 dX9_asks_104 rfl rfl rfl ?_
                refine jr_bipush (nI 10) 107 dX9_asks_105 rfl rfl ?_
                refine jr_idiv 108 dX9_asks_107 rfl (by decide) ?_
                rw [y1]
                refine jr_iload 110 dX9_asks_108 rfl rfl ?_
                refine cs_X9_118 113 dX9_asks_110 rfl rfl rfl (Nat.le_of_ble_eq_true rfl) (wp_tellLooks ?_)
                refine jr_iload_n 1 114 dX9_asks_113 rfl rfl rfl ?_
                refine jr_iconst (nI 2) 115 dX9_asks_114 rfl rfl ?_
                refine jr_icmp_ne 152 118 dX9_asks_115 rfl rfl (fun q115 => ?_) (fun q => absurd q (by decide))
                refine jr_aload_n 0 153 dX9_asks_152 rfl rfl rfl ?_
                refine gf_X9_10 156 dX9_asks_153 rfl rfl rfl rfl ?_
                refine jr_aload_n 0 157 dX9_asks_156 rfl rfl rfl ?_
                refine gf_X9_44 160 dX9_asks_157 rfl rfl rfl rfl ?_
                refine gf_X9_94 163 dX9_asks_160 rfl rfl rfl rfl ?_
                refine jr_topi (y := nI lw) hl1 ?_
                refine jr_iload_n 1 164 dX9_asks_163 rfl rfl rfl ?_
                refine jr_aload_n 0 165 dX9_asks_164 rfl rfl rfl ?_
                refine gf_X9_37 168 dX9_asks_165 rfl rfl rfl rfl ?_
                refine gf_X9_108 171 dX9_asks_168 rfl rfl rfl rfl ?_
                refine gf_X9_122 174 dX9_asks_171 rfl rfl rfl rfl ?_
                refine cs_X9_130 177 dX9_asks_174 rfl rfl rfl (Nat.le_of_ble_eq_true rfl) (wp_boundedN (nm := (pu_nm (nI x) (nI (y / 10)) (nI (y % 10)) (nI (z / 10)) (nI (z % 10)) (nI u))) hTC hlw (by omega) (six rfl rfl rfl rfl rfl rfl) (fun f1 => ?_))
                refine jr_ireturn dX9_asks_177 rfl rfl ?_
                have g1 : jr_eqx iv_CX σ (jr_upc (jr_up (jr_up (jr_up (jr_up (jr_up (jr_up σ 11 0 (nI x)) 11 2 (nI (y % 10))) 11 3 (nI (z / 10))) 11 4 (nI (z % 10))) 11 1 (nI (y / 10))) 11 5 (nI u)) 4 f1) := jr_eqx_tr (by repeat (first | exact jr_eqx_rf _ _ | refine jr_eqx_tr ?_ (jr_eqx_up _ _ _ (by decide)))) (jr_eqx_upc _ _ (by decide))
                have h1 := iv_mov (iv_cx g1) h
                refine jr_enter (L := [some (.ref 46), some (.int (nI 1)), some (.int (nI x)), some (.int (nI y)), some (.int (nI z)), some (.int (nI u)), none]) (by decide) (Nat.le_of_ble_eq_true rfl) rfl ?_
                refine jr_iload_n 1 1 dX10_asks_0 rfl rfl rfl ?_
                refine jr_iconst (nI 0) 2 dX10_asks_1 rfl rfl ?_
                refine jr_iconst (nI 2) 3 dX10_asks_2 rfl rfl ?_
                refine cs_X10_108 6 dX10_asks_3 rfl rfl (Nat.le_of_ble_eq_true rfl) (wp_inT hp (by decide) rfl ?_)
                refine jr_if_eq 62 9 dX10_asks_6 rfl rfl (fun q => absurd q (by decide)) (fun q6 => ?_)
                refine jr_iload_n 2 10 dX10_asks_9 rfl rfl rfl ?_
                refine cs_X10_191 13 dX10_asks_10 rfl rfl (Nat.le_of_ble_eq_true rfl) (wp_risMuch (fun _ _ => ?_) (fun q => absurd ⟨nI_pos' (by omega), nI_le (b := 400) hx (by omega)⟩ q))
                refine jr_if_eq 62 16 dX10_asks_13 rfl rfl (fun q => absurd q (by decide)) (fun q13 => ?_)
                refine jr_iload_n 3 17 dX10_asks_16 rfl rfl rfl ?_
                refine jr_iconst (nI 0) 18 dX10_asks_17 rfl rfl ?_
                refine jr_bipush (nI 49) 20 dX10_asks_18 rfl rfl ?_
                refine cs_X10_108 23 dX10_asks_20 rfl rfl (Nat.le_of_ble_eq_true rfl) (wp_inT hy (by decide) rfl ?_)
                refine jr_if_eq 62 26 dX10_asks_23 rfl rfl (fun q => absurd q (by decide)) (fun q23 => ?_)
                refine jr_iload 28 dX10_asks_26 rfl rfl ?_
                refine jr_iconst (nI 0) 29 dX10_asks_28 rfl rfl ?_
                refine jr_sipush (nI 401) 32 dX10_asks_29 rfl rfl ?_
                refine cs_X10_108 35 dX10_asks_32 rfl rfl (Nat.le_of_ble_eq_true rfl) (wp_inT hz (by decide) rfl ?_)
                refine jr_if_eq 62 38 dX10_asks_35 rfl rfl (fun q => absurd q (by decide)) (fun q35 => ?_)
                refine jr_iload 40 dX10_asks_38 rfl rfl ?_
                refine jr_bipush (nI 10) 42 dX10_asks_40 rfl rfl ?_
                refine jr_irem 43 dX10_asks_42 rfl (by decide) ?_
                rw [z2]
                refine jr_iconst (nI 2) 44 dX10_asks_43 rfl rfl ?_
                refine jr_icmp_ge 62 47 dX10_asks_44 rfl rfl (fun q => absurd q (nI_ge (b := 2) hz2 (by omega))) (fun q44 => ?_)
                refine jr_iload 49 dX10_asks_47 rfl rfl ?_
                refine jr_iconst (nI 0) 50 dX10_asks_49 rfl rfl ?_
                refine jr_bipush (nI 9) 52 dX10_asks_50 rfl rfl ?_
                refine cs_X10_108 55 dX10_asks_52 rfl rfl (Nat.le_of_ble_eq_true rfl) (wp_inT hu (by decide) rfl ?_)
                refine jr_if_eq 62 58 dX10_asks_55 rfl rfl (fun q => absurd q (by decide)) (fun q55 => ?_)
                refine jr_iconst (1) 59 dX10_asks_58 rfl rfl ?_
                refine jr_goto 63 dX10_asks_59 rfl ?_
                refine jr_istore (L' := [_, _, _, _, _, _, _]) 65 dX10_asks_63 rfl (by decide) rfl ?_
                refine jr_iload 67 dX10_asks_65 rfl rfl ?_
                refine jr_if_eq 99 70 dX10_asks_67 rfl rfl (fun q => absurd q (by decide)) (fun q67 => ?_)
                refine jr_aload_n 0 71 dX10_asks_70 rfl rfl rfl ?_
                refine jr_iload_n 1 72 dX10_asks_71 rfl rfl rfl ?_
                refine jr_iload_n 2 73 dX10_asks_72 rfl rfl rfl ?_
                refine jr_iload_n 3 74 dX10_asks_73 rfl rfl rfl ?_
                refine jr_bipush (nI 10) 76 dX10_asks_74 rfl rfl ?_
                refine jr_idiv 77 dX10_asks_76 rfl (by decide) ?_
                rw [y1]
                refine jr_iload_n 3 78 dX10_asks_77 rfl rfl rfl ?_
                refine jr_bipush (nI 10) 80 dX10_asks_78 rfl rfl ?_
                refine jr_irem 81 dX10_asks_80 rfl (by decide) ?_
                rw [y2]
                refine jr_iload 83 dX10_asks_81 rfl rfl ?_
                refine jr_bipush (nI 10) 85 dX10_asks_83 rfl rfl ?_
                refine jr_idiv 86 dX10_asks_85 rfl (by decide) ?_
                rw [z1]
                refine jr_iload 88 dX10_asks_86 rfl rfl ?_
                refine jr_bipush (nI 10) 90 dX10_asks_88 rfl rfl ?_
                refine jr_irem 91 dX10_asks_90 rfl (by decide) ?_
                rw [z2]
                refine jr_iload 93 dX10_asks_91 rfl rfl ?_
                refine cs_X10_194 96 dX10_asks_93 rfl rfl rfl (Nat.le_of_ble_eq_true rfl) (wp_asksOf h1.2.1 hlw h1.2.2.1.2.2.2.1 (by omega) (fun f2 f3 => ?_))
                refine jr_goto 101 dX10_asks_96 rfl ?_
                refine jr_ireturn dX10_asks_101 rfl rfl ?_
                exact ⟨rfl, IV_mov (iv_same_tr (iv_cx g1) (iv_same_x (X := [63, 64]) (jr_eqx_tr (jr_eqx_upc _ _ (by decide)) (jr_eqx_upc _ _ (by decide))) (by decide))) h⟩
              · refine jr_enter (L := [some (.ref 0), some (.int (nI 2)), some (.int (nI x)), some (.int (nI y)), some (.int (nI z)), some (.int (nI u)), none]) (by decide) (Nat.le_of_ble_eq_true rfl) rfl ?_
                refine jr_iload_n 1 1 dX9_asks_0 rfl rfl rfl ?_
                refine jr_iconst (nI 2) 2 dX9_asks_1 rfl rfl ?_
                refine cs_X9_104 5 dX9_asks_2 rfl rfl (Nat.le_of_ble_eq_true rfl) (wp_wiT hp (by decide) rfl ?_)
                refine jr_if_eq 61 8 dX9_asks_5 rfl rfl (fun q => absurd q (by decide)) (fun q5 => ?_)
                refine jr_iload_n 2 9 dX9_asks_8 rfl rfl rfl ?_
                refine jr_sipush (nI 400) 12 dX9_asks_9 rfl rfl ?_
                refine cs_X9_104 15 dX9_asks_12 rfl rfl (Nat.le_of_ble_eq_true rfl) (wp_wiT hx (by decide) rfl ?_)
                refine jr_if_eq 61 18 dX9_asks_15 rfl rfl (fun q => absurd q (by decide)) (fun q15 => ?_)
                refine jr_iload_n 3 19 dX9_asks_18 rfl rfl rfl ?_
                refine jr_bipush (nI 49) 21 dX9_asks_19 rfl rfl ?_
                refine cs_X9_104 24 dX9_asks_21 rfl rfl (Nat.le_of_ble_eq_true rfl) (wp_wiT hy (by decide) rfl ?_)
                refine jr_if_eq 61 27 dX9_asks_24 rfl rfl (fun q => absurd q (by decide)) (fun q24 => ?_)
                refine jr_iload 29 dX9_asks_27 rfl rfl ?_
                refine jr_sipush (nI 401) 32 dX9_asks_29 rfl rfl ?_
                refine cs_X9_104 35 dX9_asks_32 rfl rfl (Nat.le_of_ble_eq_true rfl) (wp_wiT hz (by decide) rfl ?_)
                refine jr_if_eq 61 38 dX9_asks_35 rfl rfl (fun q => absurd q (by decide)) (fun q35 => ?_)
                refine jr_iload 40 dX9_asks_38 rfl rfl ?_
                refine jr_bipush (nI 10) 42 dX9_asks_40 rfl rfl ?_
                refine jr_irem 43 dX9_asks_42 rfl (by decide) ?_
                rw [z2]
                refine jr_iconst (nI 1) 44 dX9_asks_43 rfl rfl ?_
                refine jr_icmp_gt 61 47 dX9_asks_44 rfl rfl (fun q => absurd q (Int32.not_lt.mpr (nI_le (b := 1) (by omega) (by omega)))) (fun q44 => ?_)
                refine jr_iload 49 dX9_asks_47 rfl rfl ?_
                refine jr_bipush (nI 9) 51 dX9_asks_49 rfl rfl ?_
                refine cs_X9_104 54 dX9_asks_51 rfl rfl (Nat.le_of_ble_eq_true rfl) (wp_wiT hu (by decide) rfl ?_)
                refine jr_if_eq 61 57 dX9_asks_54 rfl rfl (fun q => absurd q (by decide)) (fun q54 => ?_)
                refine jr_iconst (1) 58 dX9_asks_57 rfl rfl ?_
                refine jr_goto 62 dX9_asks_58 rfl ?_
                refine jr_istore (L' := [_, _, _, _, _, _, _]) 64 dX9_asks_62 rfl (by decide) rfl ?_
                refine jr_iload 66 dX9_asks_64 rfl rfl ?_
                refine jr_if_ne 72 69 dX9_asks_66 rfl rfl (fun q66 => ?_) (fun q => absurd q (by decide))
                refine jr_aload_n 0 73 dX9_asks_72 rfl rfl rfl ?_
                refine gf_X9_37 76 dX9_asks_73 rfl rfl rfl rfl ?_
                refine gf_X9_108 79 dX9_asks_76 rfl rfl rfl rfl ?_
                refine jr_iload_n 2 80 dX9_asks_79 rfl rfl rfl ?_
                refine jr_iload_n 3 81 dX9_asks_80 rfl rfl rfl ?_
                refine jr_bipush (nI 10) 83 dX9_asks_81 rfl rfl ?_
                refine jr_irem 84 dX9_asks_83 rfl (by decide) ?_
                rw [y2]
                refine jr_iload 86 dX9_asks_84 rfl rfl ?_
                refine jr_bipush (nI 10) 88 dX9_asks_86 rfl rfl ?_
                refine jr_idiv 89 dX9_asks_88 rfl (by decide) ?_
                rw [z1]
                refine jr_iload 91 dX9_asks_89 rfl rfl ?_
                refine jr_bipush (nI 10) 93 dX9_asks_91 rfl rfl ?_
                refine jr_irem 94 dX9_asks_93 rfl (by decide) ?_
                rw [z2]
                refine cs_X9_112 97 dX9_asks_94 rfl rfl rfl (Nat.le_of_ble_eq_true rfl) (wp_tell ?_)
                refine jr_aload_n 0 98 dX9_asks_97 rfl rfl rfl ?_
                refine gf_X9_37 101 dX9_asks_98 rfl rfl rfl rfl ?_
                refine gf_X9_108 104 dX9_asks_101 rfl rfl rfl rfl ?_
                refine jr_iload_n 3 105 dX9_asks_104 rfl rfl rfl ?_
                refine jr_bipush (nI 10) 107 dX9_asks_105 rfl rfl ?_
                refine jr_idiv 108 dX9_asks_107 rfl (by decide) ?_
                rw [y1]
                refine jr_iload 110 dX9_asks_108 rfl rfl ?_
                refine cs_X9_118 113 dX9_asks_110 rfl rfl rfl (Nat.le_of_ble_eq_true rfl) (wp_tellLooks ?_)
                refine jr_iload_n 1 114 dX9_asks_113 rfl rfl rfl ?_
                refine jr_iconst (nI 2) 115 dX9_asks_114 rfl rfl ?_
                refine jr_icmp_ne 152 118 dX9_asks_115 rfl rfl (fun q => absurd (by decide) q) (fun q115 => ?_)
                refine jr_aload_n 0 119 dX9_asks_118 rfl rfl rfl ?_
                refine gf_X9_10 122 dX9_asks_119 rfl rfl rfl rfl ?_
                refine jr_aload_n 0 123 dX9_asks_122 rfl rfl rfl ?_
                refine gf_X9_44 126 dX9_asks_123 rfl rfl rfl rfl ?_
                refine gf_X9_94 129 dX9_asks_126 rfl rfl rfl rfl ?_
                refine jr_topi (y := nI lw) hl1 ?_
                refine jr_iload_n 1 130 dX9_asks_129 rfl rfl rfl ?_
                refine jr_aload_n 0 131 dX9_asks_130 rfl rfl rfl ?_
                refine gf_X9_37 134 dX9_asks_131 rfl rfl rfl rfl ?_
                refine gf_X9_108 137 dX9_asks_134 rfl rfl rfl rfl ?_
                refine gf_X9_122 140 dX9_asks_137 rfl rfl rfl rfl ?_
                refine cs_X9_126 143 dX9_asks_140 rfl rfl rfl (Nat.le_of_ble_eq_true rfl) (wp_valueN (nm := (pu_nm (nI x) (nI (y / 10)) (nI (y % 10)) (nI (z / 10)) (nI (z % 10)) (nI u))) hTC hlw (by omega) (six rfl rfl rfl rfl rfl rfl) (fun f1 => ?_))
                refine jr_if_eq 150 146 dX9_asks_143 rfl rfl (fun q143 => ?_) (fun q143 => ?_)
                · refine jr_iconst (0) 151 dX9_asks_150 rfl rfl ?_
                  refine jr_ireturn dX9_asks_151 rfl rfl ?_
                  have g1 : jr_eqx iv_CX σ (jr_upc (jr_up (jr_up (jr_up (jr_up (jr_up (jr_up σ 11 0 (nI x)) 11 2 (nI (y % 10))) 11 3 (nI (z / 10))) 11 4 (nI (z % 10))) 11 1 (nI (y / 10))) 11 5 (nI u)) 4 f1) := jr_eqx_tr (by repeat (first | exact jr_eqx_rf _ _ | refine jr_eqx_tr ?_ (jr_eqx_up _ _ _ (by decide)))) (jr_eqx_upc _ _ (by decide))
                  have h1 := iv_mov (iv_cx g1) h
                  refine jr_enter (L := [some (.ref 46), some (.int (nI 2)), some (.int (nI x)), some (.int (nI y)), some (.int (nI z)), some (.int (nI u)), none]) (by decide) (Nat.le_of_ble_eq_true rfl) rfl ?_
                  refine jr_iload_n 1 1 dX10_asks_0 rfl rfl rfl ?_
                  refine jr_iconst (nI 0) 2 dX10_asks_1 rfl rfl ?_
                  refine jr_iconst (nI 2) 3 dX10_asks_2 rfl rfl ?_
                  refine cs_X10_108 6 dX10_asks_3 rfl rfl (Nat.le_of_ble_eq_true rfl) (wp_inT hp (by decide) rfl ?_)
                  refine jr_if_eq 62 9 dX10_asks_6 rfl rfl (fun q => absurd q (by decide)) (fun q6 => ?_)
                  refine jr_iload_n 2 10 dX10_asks_9 rfl rfl rfl ?_
                  refine cs_X10_191 13 dX10_asks_10 rfl rfl (Nat.le_of_ble_eq_true rfl) (wp_risMuch (fun _ _ => ?_) (fun q => absurd ⟨nI_pos' (by omega), nI_le (b := 400) hx (by omega)⟩ q))
                  refine jr_if_eq 62 16 dX10_asks_13 rfl rfl (fun q => absurd q (by decide)) (fun q13 => ?_)
                  refine jr_iload_n 3 17 dX10_asks_16 rfl rfl rfl ?_
                  refine jr_iconst (nI 0) 18 dX10_asks_17 rfl rfl ?_
                  refine jr_bipush (nI 49) 20 dX10_asks_18 rfl rfl ?_
                  refine cs_X10_108 23 dX10_asks_20 rfl rfl (Nat.le_of_ble_eq_true rfl) (wp_inT hy (by decide) rfl ?_)
                  refine jr_if_eq 62 26 dX10_asks_23 rfl rfl (fun q => absurd q (by decide)) (fun q23 => ?_)
                  refine jr_iload 28 dX10_asks_26 rfl rfl ?_
                  refine jr_iconst (nI 0) 29 dX10_asks_28 rfl rfl ?_
                  refine jr_sipush (nI 401) 32 dX10_asks_29 rfl rfl ?_
                  refine cs_X10_108 35 dX10_asks_32 rfl rfl (Nat.le_of_ble_eq_true rfl) (wp_inT hz (by decide) rfl ?_)
                  refine jr_if_eq 62 38 dX10_asks_35 rfl rfl (fun q => absurd q (by decide)) (fun q35 => ?_)
                  refine jr_iload 40 dX10_asks_38 rfl rfl ?_
                  refine jr_bipush (nI 10) 42 dX10_asks_40 rfl rfl ?_
                  refine jr_irem 43 dX10_asks_42 rfl (by decide) ?_
                  rw [z2]
                  refine jr_iconst (nI 2) 44 dX10_asks_43 rfl rfl ?_
                  refine jr_icmp_ge 62 47 dX10_asks_44 rfl rfl (fun q => absurd q (nI_ge (b := 2) hz2 (by omega))) (fun q44 => ?_)
                  refine jr_iload 49 dX10_asks_47 rfl rfl ?_
                  refine jr_iconst (nI 0) 50 dX10_asks_49 rfl rfl ?_
                  refine jr_bipush (nI 9) 52 dX10_asks_50 rfl rfl ?_
                  refine cs_X10_108 55 dX10_asks_52 rfl rfl (Nat.le_of_ble_eq_true rfl) (wp_inT hu (by decide) rfl ?_)
                  refine jr_if_eq 62 58 dX10_asks_55 rfl rfl (fun q => absurd q (by decide)) (fun q55 => ?_)
                  refine jr_iconst (1) 59 dX10_asks_58 rfl rfl ?_
                  refine jr_goto 63 dX10_asks_59 rfl ?_
                  refine jr_istore (L' := [_, _, _, _, _, _, _]) 65 dX10_asks_63 rfl (by decide) rfl ?_
                  refine jr_iload 67 dX10_asks_65 rfl rfl ?_
                  refine jr_if_eq 99 70 dX10_asks_67 rfl rfl (fun q => absurd q (by decide)) (fun q67 => ?_)
                  refine jr_aload_n 0 71 dX10_asks_70 rfl rfl rfl ?_
                  refine jr_iload_n 1 72 dX10_asks_71 rfl rfl rfl ?_
                  refine jr_iload_n 2 73 dX10_asks_72 rfl rfl rfl ?_
                  refine jr_iload_n 3 74 dX10_asks_73 rfl rfl rfl ?_
                  refine jr_bipush (nI 10) 76 dX10_asks_74 rfl rfl ?_
                  refine jr_idiv 77 dX10_asks_76 rfl (by decide) ?_
                  rw [y1]
                  refine jr_iload_n 3 78 dX10_asks_77 rfl rfl rfl ?_
                  refine jr_bipush (nI 10) 80 dX10_asks_78 rfl rfl ?_
                  refine jr_irem 81 dX10_asks_80 rfl (by decide) ?_
                  rw [y2]
                  refine jr_iload 83 dX10_asks_81 rfl rfl ?_
                  refine jr_bipush (nI 10) 85 dX10_asks_83 rfl rfl ?_
                  refine jr_idiv 86 dX10_asks_85 rfl (by decide) ?_
                  rw [z1]
                  refine jr_iload 88 dX10_asks_86 rfl rfl ?_
                  refine jr_bipush (nI 10) 90 dX10_asks_88 rfl rfl ?_
                  refine jr_irem 91 dX10_asks_90 rfl (by decide) ?_
                  rw [z2]
                  refine jr_iload 93 dX10_asks_91 rfl rfl ?_
                  refine cs_X10_194 96 dX10_asks_93 rfl rfl rfl (Nat.le_of_ble_eq_true rfl) (wp_asksOf h1.2.1 hlw h1.2.2.1.2.2.2.1 (by omega) (fun f2 f3 => ?_))
                  refine jr_goto 101 dX10_asks_96 rfl ?_
                  refine jr_ireturn dX10_asks_101 rfl rfl ?_
                  exact ⟨congrArg Value.int (by unfold pu_say; rw [if_pos rfl]; exact if_pos q143), IV_mov (iv_same_tr (iv_cx g1) (iv_same_x (X := [63, 64]) (jr_eqx_tr (jr_eqx_upc _ _ (by decide)) (jr_eqx_upc _ _ (by decide))) (by decide))) h⟩
                · refine jr_iconst (1) 147 dX9_asks_146 rfl rfl ?_
                  refine jr_goto 151 dX9_asks_147 rfl ?_
                  refine jr_ireturn dX9_asks_151 rfl rfl ?_
                  have g1 : jr_eqx iv_CX σ (jr_upc (jr_up (jr_up (jr_up (jr_up (jr_up (jr_up σ 11 0 (nI x)) 11 2 (nI (y % 10))) 11 3 (nI (z / 10))) 11 4 (nI (z % 10))) 11 1 (nI (y / 10))) 11 5 (nI u)) 4 f1) := jr_eqx_tr (by repeat (first | exact jr_eqx_rf _ _ | refine jr_eqx_tr ?_ (jr_eqx_up _ _ _ (by decide)))) (jr_eqx_upc _ _ (by decide))
                  have h1 := iv_mov (iv_cx g1) h
                  refine jr_enter (L := [some (.ref 46), some (.int (nI 2)), some (.int (nI x)), some (.int (nI y)), some (.int (nI z)), some (.int (nI u)), none]) (by decide) (Nat.le_of_ble_eq_true rfl) rfl ?_
                  refine jr_iload_n 1 1 dX10_asks_0 rfl rfl rfl ?_
                  refine jr_iconst (nI 0) 2 dX10_asks_1 rfl rfl ?_
                  refine jr_iconst (nI 2) 3 dX10_asks_2 rfl rfl ?_
                  refine cs_X10_108 6 dX10_asks_3 rfl rfl (Nat.le_of_ble_eq_true rfl) (wp_inT hp (by decide) rfl ?_)
                  refine jr_if_eq 62 9 dX10_asks_6 rfl rfl (fun q => absurd q (by decide)) (fun q6 => ?_)
                  refine jr_iload_n 2 10 dX10_asks_9 rfl rfl rfl ?_
                  refine cs_X10_191 13 dX10_asks_10 rfl rfl (Nat.le_of_ble_eq_true rfl) (wp_risMuch (fun _ _ => ?_) (fun q => absurd ⟨nI_pos' (by omega), nI_le (b := 400) hx (by omega)⟩ q))
                  refine jr_if_eq 62 16 dX10_asks_13 rfl rfl (fun q => absurd q (by decide)) (fun q13 => ?_)
                  refine jr_iload_n 3 17 dX10_asks_16 rfl rfl rfl ?_
                  refine jr_iconst (nI 0) 18 dX10_asks_17 rfl rfl ?_
                  refine jr_bipush (nI 49) 20 dX10_asks_18 rfl rfl ?_
                  refine cs_X10_108 23 dX10_asks_20 rfl rfl (Nat.le_of_ble_eq_true rfl) (wp_inT hy (by decide) rfl ?_)
                  refine jr_if_eq 62 26 dX10_asks_23 rfl rfl (fun q => absurd q (by decide)) (fun q23 => ?_)
                  refine jr_iload 28 dX10_asks_26 rfl rfl ?_
                  refine jr_iconst (nI 0) 29 dX10_asks_28 rfl rfl ?_
                  refine jr_sipush (nI 401) 32 dX10_asks_29 rfl rfl ?_
                  refine cs_X10_108 35 dX10_asks_32 rfl rfl (Nat.le_of_ble_eq_true rfl) (wp_inT hz (by decide) rfl ?_)
                  refine jr_if_eq 62 38 dX10_asks_35 rfl rfl (fun q => absurd q (by decide)) (fun q35 => ?_)
                  refine jr_iload 40 dX10_asks_38 rfl rfl ?_
                  refine jr_bipush (nI 10) 42 dX10_asks_40 rfl rfl ?_
                  refine jr_irem 43 dX10_asks_42 rfl (by decide) ?_
                  rw [z2]
                  refine jr_iconst (nI 2) 44 dX10_asks_43 rfl rfl ?_
                  refine jr_icmp_ge 62 47 dX10_asks_44 rfl rfl (fun q => absurd q (nI_ge (b := 2) hz2 (by omega))) (fun q44 => ?_)
                  refine jr_iload 49 dX10_asks_47 rfl rfl ?_
                  refine jr_iconst (nI 0) 50 dX10_asks_49 rfl rfl ?_
                  refine jr_bipush (nI 9) 52 dX10_asks_50 rfl rfl ?_
                  refine cs_X10_108 55 dX10_asks_52 rfl rfl (Nat.le_of_ble_eq_true rfl) (wp_inT hu (by decide) rfl ?_)
                  refine jr_if_eq 62 58 dX10_asks_55 rfl rfl (fun q => absurd q (by decide)) (fun q55 => ?_)
                  refine jr_iconst (1) 59 dX10_asks_58 rfl rfl ?_
                  refine jr_goto 63 dX10_asks_59 rfl ?_
                  refine jr_istore (L' := [_, _, _, _, _, _, _]) 65 dX10_asks_63 rfl (by decide) rfl ?_
                  refine jr_iload 67 dX10_asks_65 rfl rfl ?_
                  refine jr_if_eq 99 70 dX10_asks_67 rfl rfl (fun q => absurd q (by decide)) (fun q67 => ?_)
                  refine jr_aload_n 0 71 dX10_asks_70 rfl rfl rfl ?_
                  refine jr_iload_n 1 72 dX10_asks_71 rfl rfl rfl ?_
                  refine jr_iload_n 2 73 dX10_asks_72 rfl rfl rfl ?_
                  refine jr_iload_n 3 74 dX10_asks_73 rfl rfl rfl ?_
                  refine jr_bipush (nI 10) 76 dX10_asks_74 rfl rfl ?_
                  refine jr_idiv 77 dX10_asks_76 rfl (by decide) ?_
                  rw [y1]
                  refine jr_iload_n 3 78 dX10_asks_77 rfl rfl rfl ?_
                  refine jr_bipush (nI 10) 80 dX10_asks_78 rfl rfl ?_
                  refine jr_irem 81 dX10_asks_80 rfl (by decide) ?_
                  rw [y2]
                  refine jr_iload 83 dX10_asks_81 rfl rfl ?_
                  refine jr_bipush (nI 10) 85 dX10_asks_83 rfl rfl ?_
                  refine jr_idiv 86 dX10_asks_85 rfl (by decide) ?_
                  rw [z1]
                  refine jr_iload 88 dX10_asks_86 rfl rfl ?_
                  refine jr_bipush (nI 10) 90 dX10_asks_88 rfl rfl ?_
                  refine jr_irem 91 dX10_asks_90 rfl (by decide) ?_
                  rw [z2]
                  refine jr_iload 93 dX10_asks_91 rfl rfl ?_
                  refine cs_X10_194 96 dX10_asks_93 rfl rfl rfl (Nat.le_of_ble_eq_true rfl) (wp_asksOf h1.2.1 hlw h1.2.2.1.2.2.2.1 (by omega) (fun f2 f3 => ?_))
                  refine jr_goto 101 dX10_asks_96 rfl ?_
                  refine jr_ireturn dX10_asks_101 rfl rfl ?_
                  exact ⟨congrArg Value.int (by unfold pu_say; rw [if_pos rfl]; exact if_neg q143), IV_mov (iv_same_tr (iv_cx g1) (iv_same_x (X := [63, 64]) (jr_eqx_tr (jr_eqx_upc _ _ (by decide)) (jr_eqx_upc _ _ (by decide))) (by decide))) h⟩
          · refine jr_enter (L := [some (.ref 0), some (.int (nI p)), some (.int (nI x)), some (.int (nI y)), some (.int (nI z)), some (.int f), none]) (by decide) (Nat.le_of_ble_eq_true rfl) rfl ?_
            refine jr_iload_n 1 1 dX9_asks_0 rfl rfl rfl ?_
            refine jr_iconst (nI 2) 2 dX9_asks_1 rfl rfl ?_
            refine cs_X9_104 5 dX9_asks_2 rfl rfl (Nat.le_of_ble_eq_true rfl) (wp_wiT hp (by decide) rfl ?_)
            refine jr_if_eq 61 8 dX9_asks_5 rfl rfl (fun q => absurd q (by decide)) (fun q5 => ?_)
            refine jr_iload_n 2 9 dX9_asks_8 rfl rfl rfl ?_
            refine jr_sipush (nI 400) 12 dX9_asks_9 rfl rfl ?_
            refine cs_X9_104 15 dX9_asks_12 rfl rfl (Nat.le_of_ble_eq_true rfl) (wp_wiT hx (by decide) rfl ?_)
            refine jr_if_eq 61 18 dX9_asks_15 rfl rfl (fun q => absurd q (by decide)) (fun q15 => ?_)
            refine jr_iload_n 3 19 dX9_asks_18 rfl rfl rfl ?_
            refine jr_bipush (nI 49) 21 dX9_asks_19 rfl rfl ?_
            refine cs_X9_104 24 dX9_asks_21 rfl rfl (Nat.le_of_ble_eq_true rfl) (wp_wiT hy (by decide) rfl ?_)
            refine jr_if_eq 61 27 dX9_asks_24 rfl rfl (fun q => absurd q (by decide)) (fun q24 => ?_)
            refine jr_iload 29 dX9_asks_27 rfl rfl ?_
            refine jr_sipush (nI 401) 32 dX9_asks_29 rfl rfl ?_
            refine cs_X9_104 35 dX9_asks_32 rfl rfl (Nat.le_of_ble_eq_true rfl) (wp_wiT hz (by decide) rfl ?_)
            refine jr_if_eq 61 38 dX9_asks_35 rfl rfl (fun q => absurd q (by decide)) (fun q35 => ?_)
            refine jr_iload 40 dX9_asks_38 rfl rfl ?_
            refine jr_bipush (nI 10) 42 dX9_asks_40 rfl rfl ?_
            refine jr_irem 43 dX9_asks_42 rfl (by decide) ?_
            rw [z2]
            refine jr_iconst (nI 1) 44 dX9_asks_43 rfl rfl ?_
            refine jr_icmp_gt 61 47 dX9_asks_44 rfl rfl (fun q44 => ?_) (fun q => absurd (nI_lt (a := 1) (by omega) (by omega)) q)
            refine jr_iconst (nI 0) 62 dX9_asks_61 rfl rfl ?_
            refine jr_istore (L' := [_, _, _, _, _, _, _]) 64 dX9_asks_62 rfl (by decide) rfl ?_
            refine jr_iload 66 dX9_asks_64 rfl rfl ?_
            refine jr_if_ne 72 69 dX9_asks_66 rfl rfl (fun q => absurd (by decide) q) (fun q66 => ?_)
            refine jr_bipush ((-2)) 71 dX9_asks_69 rfl rfl ?_
            refine jr_ireturn dX9_asks_71 rfl rfl ?_
            refine jr_enter (L := [some (.ref 46), some (.int (nI p)), some (.int (nI x)), some (.int (nI y)), some (.int (nI z)), some (.int f), none]) (by decide) (Nat.le_of_ble_eq_true rfl) rfl ?_
            refine jr_iload_n 1 1 dX10_asks_0 rfl rfl rfl ?_
            refine jr_iconst (nI 0) 2 dX10_asks_1 rfl rfl ?_
            refine jr_iconst (nI 2) 3 dX10_asks_2 rfl rfl ?_
            refine cs_X10_108 6 dX10_asks_3 rfl rfl (Nat.le_of_ble_eq_true rfl) (wp_inT hp (by decide) rfl ?_)
            refine jr_if_eq 62 9 dX10_asks_6 rfl rfl (fun q => absurd q (by decide)) (fun q6 => ?_)
            refine jr_iload_n 2 10 dX10_asks_9 rfl rfl rfl ?_
            refine cs_X10_191 13 dX10_asks_10 rfl rfl (Nat.le_of_ble_eq_true rfl) (wp_risMuch (fun _ _ => ?_) (fun q => absurd ⟨nI_pos' (by omega), nI_le (b := 400) hx (by omega)⟩ q))
            refine jr_if_eq 62 16 dX10_asks_13 rfl rfl (fun q => absurd q (by decide)) (fun q13 => ?_)
            refine jr_iload_n 3 17 dX10_asks_16 rfl rfl rfl ?_
            refine jr_iconst (nI 0) 18 dX10_asks_17 rfl rfl ?_
            refine jr_bipush (nI 49) 20 dX10_asks_18 rfl rfl ?_
            refine cs_X10_108 23 dX10_asks_20 rfl rfl (Nat.le_of_ble_eq_true rfl) (wp_inT hy (by decide) rfl ?_)
            refine jr_if_eq 62 26 dX10_asks_23 rfl rfl (fun q => absurd q (by decide)) (fun q23 => ?_)
            refine jr_iload 28 dX10_asks_26 rfl rfl ?_
            refine jr_iconst (nI 0) 29 dX10_asks_28 rfl rfl ?_
            refine jr_sipush (nI 401) 32 dX10_asks_29 rfl rfl ?_
            refine cs_X10_108 35 dX10_asks_32 rfl rfl (Nat.le_of_ble_eq_true rfl) (wp_inT hz (by decide) rfl ?_)
            refine jr_if_eq 62 38 dX10_asks_35 rfl rfl (fun q => absurd q (by decide)) (fun q35 => ?_)
            refine jr_iload 40 dX10_asks_38 rfl rfl ?_
            refine jr_bipush (nI 10) 42 dX10_asks_40 rfl rfl ?_
            refine jr_irem 43 dX10_asks_42 rfl (by decide) ?_
            rw [z2]
            refine jr_iconst (nI 2) 44 dX10_asks_43 rfl rfl ?_
            refine jr_icmp_ge 62 47 dX10_asks_44 rfl rfl (fun q44 => ?_) (fun q => absurd (nI_le (a := 2) (by omega) (by omega)) q)
            refine jr_iconst (nI 0) 63 dX10_asks_62 rfl rfl ?_
            refine jr_istore (L' := [_, _, _, _, _, _, _]) 65 dX10_asks_63 rfl (by decide) rfl ?_
            refine jr_iload 67 dX10_asks_65 rfl rfl ?_
            refine jr_if_eq 99 70 dX10_asks_67 rfl rfl (fun q67 => ?_) (fun q => absurd (by decide) q)
            refine jr_bipush ((-2)) 101 dX10_asks_99 rfl rfl ?_
            refine jr_ireturn dX10_asks_101 rfl rfl ?_
            exact ⟨rfl, IV_mov (iv_same_x (jr_eqx_rf [] _) (by decide)) h⟩
theorem wp_isUnder {G : jr_G} {d : Nat} {σ : jr_Sg} {k : Value → jr_Sg → Prop} {c o : Nat} (hc : c < 6) (ho : o < 6) (h : k (.int (pu_is c (nI o))) σ) : jr_M G d mi_X10_isUnder [.int (nI c), .int (nI o)] σ (jr_k k) := by
  rcases (by omega : c = 0 ∨ c = 1 ∨ c = 2 ∨ c = 3 ∨ c = 4 ∨ c = 5) with rfl | rfl | rfl | rfl | rfl | rfl
  · rcases (by omega : o = 0 ∨ o = 1 ∨ o = 2 ∨ o = 3 ∨ o = 4 ∨ o = 5) with rfl | rfl | rfl | rfl | rfl | rfl
    · refine jr_enter (L := [some (.int (nI 0)), some (.int (nI 0))]) (by decide) (Nat.le_of_ble_eq_true rfl) rfl ?_
      refine jr_iload_n 1 1 dX10_isUnder_0 rfl rfl rfl ?_
      refine jr_if_eq 29 4 dX10_isUnder_1 rfl rfl (fun q1 => ?_) (fun q => absurd (by decide) q)
      refine jr_iconst (nI 1) 30 dX10_isUnder_29 rfl rfl ?_
      refine jr_goto 34 dX10_isUnder_30 rfl ?_
      refine jr_ireturn dX10_isUnder_34 rfl rfl ?_
      exact h
    · refine jr_enter (L := [some (.int (nI 0)), some (.int (nI 1))]) (by decide) (Nat.le_of_ble_eq_true rfl) rfl ?_
      refine jr_iload_n 1 1 dX10_isUnder_0 rfl rfl rfl ?_
      refine jr_if_eq 29 4 dX10_isUnder_1 rfl rfl (fun q => absurd q (by decide)) (fun q1 => ?_)
      refine jr_iload_n 0 5 dX10_isUnder_4 rfl rfl rfl ?_
      refine jr_iload_n 1 6 dX10_isUnder_5 rfl rfl rfl ?_
      refine jr_icmp_eq 29 9 dX10_isUnder_6 rfl rfl (fun q => absurd q (by decide)) (fun q6 => ?_)
      refine jr_iload_n 1 10 dX10_isUnder_9 rfl rfl rfl ?_
      refine jr_iconst (nI 1) 11 dX10_isUnder_10 rfl rfl ?_
      refine jr_icmp_ne 19 14 dX10_isUnder_11 rfl rfl (fun q => absurd (by decide) q) (fun q11 => ?_)
      refine jr_iload_n 0 15 dX10_isUnder_14 rfl rfl rfl ?_
      refine jr_iconst (nI 3) 16 dX10_isUnder_15 rfl rfl ?_
      refine jr_icmp_eq 29 19 dX10_isUnder_16 rfl rfl (fun q => absurd q (by decide)) (fun q16 => ?_)
      refine jr_iload_n 1 20 dX10_isUnder_19 rfl rfl rfl ?_
      refine jr_iconst (nI 2) 21 dX10_isUnder_20 rfl rfl ?_
      refine jr_icmp_ne 33 24 dX10_isUnder_21 rfl rfl (fun q21 => ?_) (fun q => absurd q (by decide))
      refine jr_iconst (nI 0) 34 dX10_isUnder_33 rfl rfl ?_
      refine jr_ireturn dX10_isUnder_34 rfl rfl ?_
      exact h
    · refine jr_enter (L := [some (.int (nI 0)), some (.int (nI 2))]) (by decide) (Nat.le_of_ble_eq_true rfl) rfl ?_
      refine jr_iload_n 1 1 dX10_isUnder_0 rfl rfl rfl ?_
      refine jr_if_eq 29 4 dX10_isUnder_1 rfl rfl (fun q => absurd q (by decide)) (fun q1 => ?_)
      refine jr_iload_n 0 5 dX10_isUnder_4 rfl rfl rfl ?_
      refine jr_iload_n 1 6 dX10_isUnder_5 rfl rfl rfl ?_
      refine jr_icmp_eq 29 9 dX10_isUnder_6 rfl rfl (fun q => absurd q (by decide)) (fun q6 => ?_)
      refine jr_iload_n 1 10 dX10_isUnder_9 rfl rfl rfl ?_
      refine jr_iconst (nI 1) 11 dX10_isUnder_10 rfl rfl ?_
      refine jr_icmp_ne 19 14 dX10_isUnder_11 rfl rfl (fun q11 => ?_) (fun q => absurd q (by decide))
      refine jr_iload_n 1 20 dX10_isUnder_19 rfl rfl rfl ?_
      refine jr_iconst (nI 2) 21 dX10_isUnder_20 rfl rfl ?_
      refine jr_icmp_ne 33 24 dX10_isUnder_21 rfl rfl (fun q => absurd (by decide) q) (fun q21 => ?_)
      refine jr_iload_n 0 25 dX10_isUnder_24 rfl rfl rfl ?_
      refine jr_iconst (nI 4) 26 dX10_isUnder_25 rfl rfl ?_
      refine jr_icmp_ne 33 29 dX10_isUnder_26 rfl rfl (fun q26 => ?_) (fun q => absurd q (by decide))
      refine jr_iconst (nI 0) 34 dX10_isUnder_33 rfl rfl ?_
      refine jr_ireturn dX10_isUnder_34 rfl rfl ?_
      exact h
    · refine jr_enter (L := [some (.int (nI 0)), some (.int (nI 3))]) (by decide) (Nat.le_of_ble_eq_true rfl) rfl ?_
      refine jr_iload_n 1 1 dX10_isUnder_0 rfl rfl rfl ?_
      refine jr_if_eq 29 4 dX10_isUnder_1 rfl rfl (fun q => absurd q (by decide)) (fun q1 => ?_)
      refine jr_iload_n 0 5 dX10_isUnder_4 rfl rfl rfl ?_
      refine jr_iload_n 1 6 dX10_isUnder_5 rfl rfl rfl ?_
      refine jr_icmp_eq 29 9 dX10_isUnder_6 rfl rfl (fun q => absurd q (by decide)) (fun q6 => ?_)
      refine jr_iload_n 1 10 dX10_isUnder_9 rfl rfl rfl ?_
      refine jr_iconst (nI 1) 11 dX10_isUnder_10 rfl rfl ?_
      refine jr_icmp_ne 19 14 dX10_isUnder_11 rfl rfl (fun q11 => ?_) (fun q => absurd q (by decide))
      refine jr_iload_n 1 20 dX10_isUnder_19 rfl rfl rfl ?_
      refine jr_iconst (nI 2) 21 dX10_isUnder_20 rfl rfl ?_
      refine jr_icmp_ne 33 24 dX10_isUnder_21 rfl rfl (fun q21 => ?_) (fun q => absurd q (by decide))
      refine jr_iconst (nI 0) 34 dX10_isUnder_33 rfl rfl ?_
      refine jr_ireturn dX10_isUnder_34 rfl rfl ?_
      exact h
    · refine jr_enter (L := [some (.int (nI 0)), some (.int (nI 4))]) (by decide) (Nat.le_of_ble_eq_true rfl) rfl ?_
      refine jr_iload_n 1 1 dX10_isUnder_0 rfl rfl rfl ?_
      refine jr_if_eq 29 4 dX10_isUnder_1 rfl rfl (fun q => absurd q (by decide)) (fun q1 => ?_)
      refine jr_iload_n 0 5 dX10_isUnder_4 rfl rfl rfl ?_
      refine jr_iload_n 1 6 dX10_isUnder_5 rfl rfl rfl ?_
      refine jr_icmp_eq 29 9 dX10_isUnder_6 rfl rfl (fun q => absurd q (by decide)) (fun q6 => ?_)
      refine jr_iload_n 1 10 dX10_isUnder_9 rfl rfl rfl ?_
      refine jr_iconst (nI 1) 11 dX10_isUnder_10 rfl rfl ?_
      refine jr_icmp_ne 19 14 dX10_isUnder_11 rfl rfl (fun q11 => ?_) (fun q => absurd q (by decide))
      refine jr_iload_n 1 20 dX10_isUnder_19 rfl rfl rfl ?_
      refine jr_iconst (nI 2) 21 dX10_isUnder_20 rfl rfl ?_
      refine jr_icmp_ne 33 24 dX10_isUnder_21 rfl rfl (fun q21 => ?_) (fun q => absurd q (by decide))
      refine jr_iconst (nI 0) 34 dX10_isUnder_33 rfl rfl ?_
      refine jr_ireturn dX10_isUnder_34 rfl rfl ?_
      exact h
    · refine jr_enter (L := [some (.int (nI 0)), some (.int (nI 5))]) (by decide) (Nat.le_of_ble_eq_true rfl) rfl ?_
      refine jr_iload_n 1 1 dX10_isUnder_0 rfl rfl rfl ?_
      refine jr_if_eq 29 4 dX10_isUnder_1 rfl rfl (fun q => absurd q (by decide)) (fun q1 => ?_)
      refine jr_iload_n 0 5 dX10_isUnder_4 rfl rfl rfl ?_
      refine jr_iload_n 1 6 dX10_isUnder_5 rfl rfl rfl ?_
      refine jr_icmp_eq 29 9 dX10_isUnder_6 rfl rfl (fun q => absurd q (by decide)) (fun q6 => ?_)
      refine jr_iload_n 1 10 dX10_isUnder_9 rfl rfl rfl ?_
      refine jr_iconst (nI 1) 11 dX10_isUnder_10 rfl rfl ?_
      refine jr_icmp_ne 19 14 dX10_isUnder_11 rfl rfl (fun q11 => ?_) (fun q => absurd q (by decide))
      refine jr_iload_n 1 20 dX10_isUnder_19 rfl rfl rfl ?_
      refine jr_iconst (nI 2) 21 dX10_isUnder_20 rfl rfl ?_
      refine jr_icmp_ne 33 24 dX10_isUnder_21 rfl rfl (fun q21 => ?_) (fun q => absurd q (by decide))
      refine jr_iconst (nI 0) 34 dX10_isUnder_33 rfl rfl ?_
      refine jr_ireturn dX10_isUnder_34 rfl rfl ?_
      exact h
  · rcases (by omega : o = 0 ∨ o = 1 ∨ o = 2 ∨ o = 3 ∨ o = 4 ∨ o = 5) with rfl | rfl | rfl | rfl | rfl | rfl
    · refine jr_enter (L := [some (.int (nI 1)), some (.int (nI 0))]) (by decide) (Nat.le_of_ble_eq_true rfl) rfl ?_
      refine jr_iload_n 1 1 dX10_isUnder_0 rfl rfl rfl ?_
      refine jr_if_eq 29 4 dX10_isUnder_1 rfl rfl (fun q1 => ?_) (fun q => absurd (by decide) q)
      refine jr_iconst (nI 1) 30 dX10_isUnder_29 rfl rfl ?_
      refine jr_goto 34 dX10_isUnder_30 rfl ?_
      refine jr_ireturn dX10_isUnder_34 rfl rfl ?_
      exact h
    · refine jr_enter (L := [some (.int (nI 1)), some (.int (nI 1))]) (by decide) (Nat.le_of_ble_eq_true rfl) rfl ?_
      refine jr_iload_n 1 1 dX10_isUnder_0 rfl rfl rfl ?_
      refine jr_if_eq 29 4 dX10_isUnder_1 rfl rfl (fun q => absurd q (by decide)) (fun q1 => ?_)
      refine jr_iload_n 0 5 dX10_isUnder_4 rfl rfl rfl ?_
      refine jr_iload_n 1 6 dX10_isUnder_5 rfl rfl rfl ?_
      refine jr_icmp_eq 29 9 dX10_isUnder_6 rfl rfl (fun q6 => ?_) (fun q => absurd (by decide) q)
      refine jr_iconst (nI 1) 30 dX10_isUnder_29 rfl rfl ?_
      refine jr_goto 34 dX10_isUnder_30 rfl ?_
      refine jr_ireturn dX10_isUnder_34 rfl rfl ?_
      exact h
    · refine jr_enter (L := [some (.int (nI 1)), some (.int (nI 2))]) (by decide) (Nat.le_of_ble_eq_true rfl) rfl ?_
      refine jr_iload_n 1 1 dX10_isUnder_0 rfl rfl rfl ?_
      refine jr_if_eq 29 4 dX10_isUnder_1 rfl rfl (fun q => absurd q (by decide)) (fun q1 => ?_)
      refine jr_iload_n 0 5 dX10_isUnder_4 rfl rfl rfl ?_
      refine jr_iload_n 1 6 dX10_isUnder_5 rfl rfl rfl ?_
      refine jr_icmp_eq 29 9 dX10_isUnder_6 rfl rfl (fun q => absurd q (by decide)) (fun q6 => ?_)
      refine jr_iload_n 1 10 dX10_isUnder_9 rfl rfl rfl ?_
      refine jr_iconst (nI 1) 11 dX10_isUnder_10 rfl rfl ?_
      refine jr_icmp_ne 19 14 dX10_isUnder_11 rfl rfl (fun q11 => ?_) (fun q => absurd q (by decide))
      refine jr_iload_n 1 20 dX10_isUnder_19 rfl rfl rfl ?_
      refine jr_iconst (nI 2) 21 dX10_isUnder_20 rfl rfl ?_
      refine jr_icmp_ne 33 24 dX10_isUnder_21 rfl rfl (fun q => absurd (by decide) q) (fun q21 => ?_)
      refine jr_iload_n 0 25 dX10_isUnder_24 rfl rfl rfl ?_
      refine jr_iconst (nI 4) 26 dX10_isUnder_25 rfl rfl ?_
      refine jr_icmp_ne 33 29 dX10_isUnder_26 rfl rfl (fun q26 => ?_) (fun q => absurd q (by decide))
      refine jr_iconst (nI 0) 34 dX10_isUnder_33 rfl rfl ?_
      refine jr_ireturn dX10_isUnder_34 rfl rfl ?_
      exact h
    · refine jr_enter (L := [some (.int (nI 1)), some (.int (nI 3))]) (by decide) (Nat.le_of_ble_eq_true rfl) rfl ?_
      refine jr_iload_n 1 1 dX10_isUnder_0 rfl rfl rfl ?_
      refine jr_if_eq 29 4 dX10_isUnder_1 rfl rfl (fun q => absurd q (by decide)) (fun q1 => ?_)
      refine jr_iload_n 0 5 dX10_isUnder_4 rfl rfl rfl ?_
      refine jr_iload_n 1 6 dX10_isUnder_5 rfl rfl rfl ?_
      refine jr_icmp_eq 29 9 dX10_isUnder_6 rfl rfl (fun q => absurd q (by decide)) (fun q6 => ?_)
      refine jr_iload_n 1 10 dX10_isUnder_9 rfl rfl rfl ?_
      refine jr_iconst (nI 1) 11 dX10_isUnder_10 rfl rfl ?_
      refine jr_icmp_ne 19 14 dX10_isUnder_11 rfl rfl (fun q11 => ?_) (fun q => absurd q (by decide))
      refine jr_iload_n 1 20 dX10_isUnder_19 rfl rfl rfl ?_
      refine jr_iconst (nI 2) 21 dX10_isUnder_20 rfl rfl ?_
      refine jr_icmp_ne 33 24 dX10_isUnder_21 rfl rfl (fun q21 => ?_) (fun q => absurd q (by decide))
      refine jr_iconst (nI 0) 34 dX10_isUnder_33 rfl rfl ?_
      refine jr_ireturn dX10_isUnder_34 rfl rfl ?_
      exact h
    · refine jr_enter (L := [some (.int (nI 1)), some (.int (nI 4))]) (by decide) (Nat.le_of_ble_eq_true rfl) rfl ?_
      refine jr_iload_n 1 1 dX10_isUnder_0 rfl rfl rfl ?_
      refine jr_if_eq 29 4 dX10_isUnder_1 rfl rfl (fun q => absurd q (by decide)) (fun q1 => ?_)
      refine jr_iload_n 0 5 dX10_isUnder_4 rfl rfl rfl ?_
      refine jr_iload_n 1 6 dX10_isUnder_5 rfl rfl rfl ?_
      refine jr_icmp_eq 29 9 dX10_isUnder_6 rfl rfl (fun q => absurd q (by decide)) (fun q6 => ?_)
      refine jr_iload_n 1 10 dX10_isUnder_9 rfl rfl rfl ?_
      refine jr_iconst (nI 1) 11 dX10_isUnder_10 rfl rfl ?_
      refine jr_icmp_ne 19 14 dX10_isUnder_11 rfl rfl (fun q11 => ?_) (fun q => absurd q (by decide))
      refine jr_iload_n 1 20 dX10_isUnder_19 rfl rfl rfl ?_
      refine jr_iconst (nI 2) 21 dX10_isUnder_20 rfl rfl ?_
      refine jr_icmp_ne 33 24 dX10_isUnder_21 rfl rfl (fun q21 => ?_) (fun q => absurd q (by decide))
      refine jr_iconst (nI 0) 34 dX10_isUnder_33 rfl rfl ?_
      refine jr_ireturn dX10_isUnder_34 rfl rfl ?_
      exact h
    · refine jr_enter (L := [some (.int (nI 1)), some (.int (nI 5))]) (by decide) (Nat.le_of_ble_eq_true rfl) rfl ?_
      refine jr_iload_n 1 1 dX10_isUnder_0 rfl rfl rfl ?_
      refine jr_if_eq 29 4 dX10_isUnder_1 rfl rfl (fun q => absurd q (by decide)) (fun q1 => ?_)
      refine jr_iload_n 0 5 dX10_isUnder_4 rfl rfl rfl ?_
      refine jr_iload_n 1 6 dX10_isUnder_5 rfl rfl rfl ?_
      refine jr_icmp_eq 29 9 dX10_isUnder_6 rfl rfl (fun q => absurd q (by decide)) (fun q6 => ?_)
      refine jr_iload_n 1 10 dX10_isUnder_9 rfl rfl rfl ?_
      refine jr_iconst (nI 1) 11 dX10_isUnder_10 rfl rfl ?_
      refine jr_icmp_ne 19 14 dX10_isUnder_11 rfl rfl (fun q11 => ?_) (fun q => absurd q (by decide))
      refine jr_iload_n 1 20 dX10_isUnder_19 rfl rfl rfl ?_
      refine jr_iconst (nI 2) 21 dX10_isUnder_20 rfl rfl ?_
      refine jr_icmp_ne 33 24 dX10_isUnder_21 rfl rfl (fun q21 => ?_) (fun q => absurd q (by decide))
      refine jr_iconst (nI 0) 34 dX10_isUnder_33 rfl rfl ?_
      refine jr_ireturn dX10_isUnder_34 rfl rfl ?_
      exact h
  · rcases (by omega : o = 0 ∨ o = 1 ∨ o = 2 ∨ o = 3 ∨ o = 4 ∨ o = 5) with rfl | rfl | rfl | rfl | rfl | rfl
    · refine jr_enter (L := [some (.int (nI 2)), some (.int (nI 0))]) (by decide) (Nat.le_of_ble_eq_true rfl) rfl ?_
      refine jr_iload_n 1 1 dX10_isUnder_0 rfl rfl rfl ?_
      refine jr_if_eq 29 4 dX10_isUnder_1 rfl rfl (fun q1 => ?_) (fun q => absurd (by decide) q)
      refine jr_iconst (nI 1) 30 dX10_isUnder_29 rfl rfl ?_
      refine jr_goto 34 dX10_isUnder_30 rfl ?_
      refine jr_ireturn dX10_isUnder_34 rfl rfl ?_
      exact h
    · refine jr_enter (L := [some (.int (nI 2)), some (.int (nI 1))]) (by decide) (Nat.le_of_ble_eq_true rfl) rfl ?_
      refine jr_iload_n 1 1 dX10_isUnder_0 rfl rfl rfl ?_
      refine jr_if_eq 29 4 dX10_isUnder_1 rfl rfl (fun q => absurd q (by decide)) (fun q1 => ?_)
      refine jr_iload_n 0 5 dX10_isUnder_4 rfl rfl rfl ?_
      refine jr_iload_n 1 6 dX10_isUnder_5 rfl rfl rfl ?_
      refine jr_icmp_eq 29 9 dX10_isUnder_6 rfl rfl (fun q => absurd q (by decide)) (fun q6 => ?_)
      refine jr_iload_n 1 10 dX10_isUnder_9 rfl rfl rfl ?_
      refine jr_iconst (nI 1) 11 dX10_isUnder_10 rfl rfl ?_
      refine jr_icmp_ne 19 14 dX10_isUnder_11 rfl rfl (fun q => absurd (by decide) q) (fun q11 => ?_)
      refine jr_iload_n 0 15 dX10_isUnder_14 rfl rfl rfl ?_
      refine jr_iconst (nI 3) 16 dX10_isUnder_15 rfl rfl ?_
      refine jr_icmp_eq 29 19 dX10_isUnder_16 rfl rfl (fun q => absurd q (by decide)) (fun q16 => ?_)
      refine jr_iload_n 1 20 dX10_isUnder_19 rfl rfl rfl ?_
      refine jr_iconst (nI 2) 21 dX10_isUnder_20 rfl rfl ?_
      refine jr_icmp_ne 33 24 dX10_isUnder_21 rfl rfl (fun q21 => ?_) (fun q => absurd q (by decide))
      refine jr_iconst (nI 0) 34 dX10_isUnder_33 rfl rfl ?_
      refine jr_ireturn dX10_isUnder_34 rfl rfl ?_
      exact h
    · refine jr_enter (L := [some (.int (nI 2)), some (.int (nI 2))]) (by decide) (Nat.le_of_ble_eq_true rfl) rfl ?_
      refine jr_iload_n 1 1 dX10_isUnder_0 rfl rfl rfl ?_
      refine jr_if_eq 29 4 dX10_isUnder_1 rfl rfl (fun q => absurd q (by decide)) (fun q1 => ?_)
      refine jr_iload_n 0 5 dX10_isUnder_4 rfl rfl rfl ?_
      refine jr_iload_n 1 6 dX10_isUnder_5 rfl rfl rfl ?_
      refine jr_icmp_eq 29 9 dX10_isUnder_6 rfl rfl (fun q6 => ?_) (fun q => absurd (by decide) q)
      refine jr_iconst (nI 1) 30 dX10_isUnder_29 rfl rfl ?_
      refine jr_goto 34 dX10_isUnder_30 rfl ?_
      refine jr_ireturn dX10_isUnder_34 rfl rfl ?_
      exact h
    · refine jr_enter (L := [some (.int (nI 2)), some (.int (nI 3))]) (by decide) (Nat.le_of_ble_eq_true rfl) rfl ?_
      refine jr_iload_n 1 1 dX10_isUnder_0 rfl rfl rfl ?_
      refine jr_if_eq 29 4 dX10_isUnder_1 rfl rfl (fun q => absurd q (by decide)) (fun q1 => ?_)
      refine jr_iload_n 0 5 dX10_isUnder_4 rfl rfl rfl ?_
      refine jr_iload_n 1 6 dX10_isUnder_5 rfl rfl rfl ?_
      refine jr_icmp_eq 29 9 dX10_isUnder_6 rfl rfl (fun q => absurd q (by decide)) (fun q6 => ?_)
      refine jr_iload_n 1 10 dX10_isUnder_9 rfl rfl rfl ?_
      refine jr_iconst (nI 1) 11 dX10_isUnder_10 rfl rfl ?_
      refine jr_icmp_ne 19 14 dX10_isUnder_11 rfl rfl (fun q11 => ?_) (fun q => absurd q (by decide))
      refine jr_iload_n 1 20 dX10_isUnder_19 rfl rfl rfl ?_
      refine jr_iconst (nI 2) 21 dX10_isUnder_20 rfl rfl ?_
      refine jr_icmp_ne 33 24 dX10_isUnder_21 rfl rfl (fun q21 => ?_) (fun q => absurd q (by decide))
      refine jr_iconst (nI 0) 34 dX10_isUnder_33 rfl rfl ?_
      refine jr_ireturn dX10_isUnder_34 rfl rfl ?_
      exact h
    · refine jr_enter (L := [some (.int (nI 2)), some (.int (nI 4))]) (by decide) (Nat.le_of_ble_eq_true rfl) rfl ?_
      refine jr_iload_n 1 1 dX10_isUnder_0 rfl rfl rfl ?_
      refine jr_if_eq 29 4 dX10_isUnder_1 rfl rfl (fun q => absurd q (by decide)) (fun q1 => ?_)
      refine jr_iload_n 0 5 dX10_isUnder_4 rfl rfl rfl ?_
      refine jr_iload_n 1 6 dX10_isUnder_5 rfl rfl rfl ?_
      refine jr_icmp_eq 29 9 dX10_isUnder_6 rfl rfl (fun q => absurd q (by decide)) (fun q6 => ?_)
      refine jr_iload_n 1 10 dX10_isUnder_9 rfl rfl rfl ?_
      refine jr_iconst (nI 1) 11 dX10_isUnder_10 rfl rfl ?_
      refine jr_icmp_ne 19 14 dX10_isUnder_11 rfl rfl (fun q11 => ?_) (fun q => absurd q (by decide))
      refine jr_iload_n 1 20 dX10_isUnder_19 rfl rfl rfl ?_
      refine jr_iconst (nI 2) 21 dX10_isUnder_20 rfl rfl ?_
      refine jr_icmp_ne 33 24 dX10_isUnder_21 rfl rfl (fun q21 => ?_) (fun q => absurd q (by decide))
      refine jr_iconst (nI 0) 34 dX10_isUnder_33 rfl rfl ?_
      refine jr_ireturn dX10_isUnder_34 rfl rfl ?_
      exact h
    · refine jr_enter (L := [some (.int (nI 2)), some (.int (nI 5))]) (by decide) (Nat.le_of_ble_eq_true rfl) rfl ?_
      refine jr_iload_n 1 1 dX10_isUnder_0 rfl rfl rfl ?_
      refine jr_if_eq 29 4 dX10_isUnder_1 rfl rfl (fun q => absurd q (by decide)) (fun q1 => ?_)
      refine jr_iload_n 0 5 dX10_isUnder_4 rfl rfl rfl ?_
      refine jr_iload_n 1 6 dX10_isUnder_5 rfl rfl rfl ?_
      refine jr_icmp_eq 29 9 dX10_isUnder_6 rfl rfl (fun q => absurd q (by decide)) (fun q6 => ?_)
      refine jr_iload_n 1 10 dX10_isUnder_9 rfl rfl rfl ?_
      refine jr_iconst (nI 1) 11 dX10_isUnder_10 rfl rfl ?_
      refine jr_icmp_ne 19 14 dX10_isUnder_11 rfl rfl (fun q11 => ?_) (fun q => absurd q (by decide))
      refine jr_iload_n 1 20 dX10_isUnder_19 rfl rfl rfl ?_
      refine jr_iconst (nI 2) 21 dX10_isUnder_20 rfl rfl ?_
      refine jr_icmp_ne 33 24 dX10_isUnder_21 rfl rfl (fun q21 => ?_) (fun q => absurd q (by decide))
      refine jr_iconst (nI 0) 34 dX10_isUnder_33 rfl rfl ?_
      refine jr_ireturn dX10_isUnder_34 rfl rfl ?_
      exact h
  · rcases (by omega : o = 0 ∨ o = 1 ∨ o = 2 ∨ o = 3 ∨ o = 4 ∨ o = 5) with rfl | rfl | rfl | rfl | rfl | rfl
    · refine jr_enter (L := [some (.int (nI 3)), some (.int (nI 0))]) (by decide) (Nat.le_of_ble_eq_true rfl) rfl ?_
      refine jr_iload_n 1 1 dX10_isUnder_0 rfl rfl rfl ?_
      refine jr_if_eq 29 4 dX10_isUnder_1 rfl rfl (fun q1 => ?_) (fun q => absurd (by decide) q)
      refine jr_iconst (nI 1) 30 dX10_isUnder_29 rfl rfl ?_
      refine jr_goto 34 dX10_isUnder_30 rfl ?_
      refine jr_ireturn dX10_isUnder_34 rfl rfl ?_
      exact h
    · refine jr_enter (L := [some (.int (nI 3)), some (.int (nI 1))]) (by decide) (Nat.le_of_ble_eq_true rfl) rfl ?_
      refine jr_iload_n 1 1 dX10_isUnder_0 rfl rfl rfl ?_
      refine jr_if_eq 29 4 dX10_isUnder_1 rfl rfl (fun q => absurd q (by decide)) (fun q1 => ?_)
      refine jr_iload_n 0 5 dX10_isUnder_4 rfl rfl rfl ?_
      refine jr_iload_n 1 6 dX10_isUnder_5 rfl rfl rfl ?_
      refine jr_icmp_eq 29 9 dX10_isUnder_6 rfl rfl (fun q => absurd q (by decide)) (fun q6 => ?_)
      refine jr_iload_n 1 10 dX10_isUnder_9 rfl rfl rfl ?_
      refine jr_iconst (nI 1) 11 dX10_isUnder_10 rfl rfl ?_
      refine jr_icmp_ne 19 14 dX10_isUnder_11 rfl rfl (fun q => absurd (by decide) q) (fun q11 => ?_)
      refine jr_iload_n 0 15 dX10_isUnder_14 rfl rfl rfl ?_
      refine jr_iconst (nI 3) 16 dX10_isUnder_15 rfl rfl ?_
      refine jr_icmp_eq 29 19 dX10_isUnder_16 rfl rfl (fun q16 => ?_) (fun q => absurd (by decide) q)
      refine jr_iconst (nI 1) 30 dX10_isUnder_29 rfl rfl ?_
      refine jr_goto 34 dX10_isUnder_30 rfl ?_
      refine jr_ireturn dX10_isUnder_34 rfl rfl ?_
      exact h
    · refine jr_enter (L := [some (.int (nI 3)), some (.int (nI 2))]) (by decide) (Nat.le_of_ble_eq_true rfl) rfl ?_
      refine jr_iload_n 1 1 dX10_isUnder_0 rfl rfl rfl ?_
      refine jr_if_eq 29 4 dX10_isUnder_1 rfl rfl (fun q => absurd q (by decide)) (fun q1 => ?_)
      refine jr_iload_n 0 5 dX10_isUnder_4 rfl rfl rfl ?_
      refine jr_iload_n 1 6 dX10_isUnder_5 rfl rfl rfl ?_
      refine jr_icmp_eq 29 9 dX10_isUnder_6 rfl rfl (fun q => absurd q (by decide)) (fun q6 => ?_)
      refine jr_iload_n 1 10 dX10_isUnder_9 rfl rfl rfl ?_
      refine jr_iconst (nI 1) 11 dX10_isUnder_10 rfl rfl ?_
      refine jr_icmp_ne 19 14 dX10_isUnder_11 rfl rfl (fun q11 => ?_) (fun q => absurd q (by decide))
      refine jr_iload_n 1 20 dX10_isUnder_19 rfl rfl rfl ?_
      refine jr_iconst (nI 2) 21 dX10_isUnder_20 rfl rfl ?_
      refine jr_icmp_ne 33 24 dX10_isUnder_21 rfl rfl (fun q => absurd (by decide) q) (fun q21 => ?_)
      refine jr_iload_n 0 25 dX10_isUnder_24 rfl rfl rfl ?_
      refine jr_iconst (nI 4) 26 dX10_isUnder_25 rfl rfl ?_
      refine jr_icmp_ne 33 29 dX10_isUnder_26 rfl rfl (fun q26 => ?_) (fun q => absurd q (by decide))
      refine jr_iconst (nI 0) 34 dX10_isUnder_33 rfl rfl ?_
      refine jr_ireturn dX10_isUnder_34 rfl rfl ?_
      exact h
    · refine jr_enter (L := [some (.int (nI 3)), some (.int (nI 3))]) (by decide) (Nat.le_of_ble_eq_true rfl) rfl ?_
      refine jr_iload_n 1 1 dX10_isUnder_0 rfl rfl rfl ?_
      refine jr_if_eq 29 4 dX10_isUnder_1 rfl rfl (fun q => absurd q (by decide)) (fun q1 => ?_)
      refine jr_iload_n 0 5 dX10_isUnder_4 rfl rfl rfl ?_
      refine jr_iload_n 1 6 dX10_isUnder_5 rfl rfl rfl ?_
      refine jr_icmp_eq 29 9 dX10_isUnder_6 rfl rfl (fun q6 => ?_) (fun q => absurd (by decide) q)
      refine jr_iconst (nI 1) 30 dX10_isUnder_29 rfl rfl ?_
      refine jr_goto 34 dX10_isUnder_30 rfl ?_
      refine jr_ireturn dX10_isUnder_34 rfl rfl ?_
      exact h
    · refine jr_enter (L := [some (.int (nI 3)), some (.int (nI 4))]) (by decide) (Nat.le_of_ble_eq_true rfl) rfl ?_
      refine jr_iload_n 1 1 dX10_isUnder_0 rfl rfl rfl ?_
      refine jr_if_eq 29 4 dX10_isUnder_1 rfl rfl (fun q => absurd q (by decide)) (fun q1 => ?_)
      refine jr_iload_n 0 5 dX10_isUnder_4 rfl rfl rfl ?_
      refine jr_iload_n 1 6 dX10_isUnder_5 rfl rfl rfl ?_
      refine jr_icmp_eq 29 9 dX10_isUnder_6 rfl rfl (fun q => absurd q (by decide)) (fun q6 => ?_)
      refine jr_iload_n 1 10 dX10_isUnder_9 rfl rfl rfl ?_
      refine jr_iconst (nI 1) 11 dX10_isUnder_10 rfl rfl ?_
      refine jr_icmp_ne 19 14 dX10_isUnder_11 rfl rfl (fun q11 => ?_) (fun q => absurd q (by decide))
      refine jr_iload_n 1 20 dX10_isUnder_19 rfl rfl rfl ?_
      refine jr_iconst (nI 2) 21 dX10_isUnder_20 rfl rfl ?_
      refine jr_icmp_ne 33 24 dX10_isUnder_21 rfl rfl (fun q21 => ?_) (fun q => absurd q (by decide))
      refine jr_iconst (nI 0) 34 dX10_isUnder_33 rfl rfl ?_
      refine jr_ireturn dX10_isUnder_34 rfl rfl ?_
      exact h
    · refine jr_enter (L := [some (.int (nI 3)), some (.int (nI 5))]) (by decide) (Nat.le_of_ble_eq_true rfl) rfl ?_
      refine jr_iload_n 1 1 dX10_isUnder_0 rfl rfl rfl ?_
      refine jr_if_eq 29 4 dX10_isUnder_1 rfl rfl (fun q => absurd q (by decide)) (fun q1 => ?_)
      refine jr_iload_n 0 5 dX10_isUnder_4 rfl rfl rfl ?_
      refine jr_iload_n 1 6 dX10_isUnder_5 rfl rfl rfl ?_
      refine jr_icmp_eq 29 9 dX10_isUnder_6 rfl rfl (fun q => absurd q (by decide)) (fun q6 => ?_)
      refine jr_iload_n 1 10 dX10_isUnder_9 rfl rfl rfl ?_
      refine jr_iconst (nI 1) 11 dX10_isUnder_10 rfl rfl ?_
      refine jr_icmp_ne 19 14 dX10_isUnder_11 rfl rfl (fun q11 => ?_) (fun q => absurd q (by decide))
      refine jr_iload_n 1 20 dX10_isUnder_19 rfl rfl rfl ?_
      refine jr_iconst (nI 2) 21 dX10_isUnder_20 rfl rfl ?_
      refine jr_icmp_ne 33 24 dX10_isUnder_21 rfl rfl (fun q21 => ?_) (fun q => absurd q (by decide))
      refine jr_iconst (nI 0) 34 dX10_isUnder_33 rfl rfl ?_
      refine jr_ireturn dX10_isUnder_34 rfl rfl ?_
      exact h
  · rcases (by omega : o = 0 ∨ o = 1 ∨ o = 2 ∨ o = 3 ∨ o = 4 ∨ o = 5) with rfl | rfl | rfl | rfl | rfl | rfl
    · refine jr_enter (L := [some (.int (nI 4)), some (.int (nI 0))]) (by decide) (Nat.le_of_ble_eq_true rfl) rfl ?_
      refine jr_iload_n 1 1 dX10_isUnder_0 rfl rfl rfl ?_
      refine jr_if_eq 29 4 dX10_isUnder_1 rfl rfl (fun q1 => ?_) (fun q => absurd (by decide) q)
      refine jr_iconst (nI 1) 30 dX10_isUnder_29 rfl rfl ?_
      refine jr_goto 34 dX10_isUnder_30 rfl ?_
      refine jr_ireturn dX10_isUnder_34 rfl rfl ?_
      exact h
    · refine jr_enter (L := [some (.int (nI 4)), some (.int (nI 1))]) (by decide) (Nat.le_of_ble_eq_true rfl) rfl ?_
      refine jr_iload_n 1 1 dX10_isUnder_0 rfl rfl rfl ?_
      refine jr_if_eq 29 4 dX10_isUnder_1 rfl rfl (fun q => absurd q (by decide)) (fun q1 => ?_)
      refine jr_iload_n 0 5 dX10_isUnder_4 rfl rfl rfl ?_
      refine jr_iload_n 1 6 dX10_isUnder_5 rfl rfl rfl ?_
      refine jr_icmp_eq 29 9 dX10_isUnder_6 rfl rfl (fun q => absurd q (by decide)) (fun q6 => ?_)
      refine jr_iload_n 1 10 dX10_isUnder_9 rfl rfl rfl ?_
      refine jr_iconst (nI 1) 11 dX10_isUnder_10 rfl rfl ?_
      refine jr_icmp_ne 19 14 dX10_isUnder_11 rfl rfl (fun q => absurd (by decide) q) (fun q11 => ?_)
      refine jr_iload_n 0 15 dX10_isUnder_14 rfl rfl rfl ?_
      refine jr_iconst (nI 3) 16 dX10_isUnder_15 rfl rfl ?_
      refine jr_icmp_eq 29 19 dX10_isUnder_16 rfl rfl (fun q => absurd q (by decide)) (fun q16 => ?_)
      refine jr_iload_n 1 20 dX10_isUnder_19 rfl rfl rfl ?_
      refine jr_iconst (nI 2) 21 dX10_isUnder_20 rfl rfl ?_
      refine jr_icmp_ne 33 24 dX10_isUnder_21 rfl rfl (fun q21 => ?_) (fun q => absurd q (by decide))
      refine jr_iconst (nI 0) 34 dX10_isUnder_33 rfl rfl ?_
      refine jr_ireturn dX10_isUnder_34 rfl rfl ?_
      exact h
    · refine jr_enter (L := [some (.int (nI 4)), some (.int (nI 2))]) (by decide) (Nat.le_of_ble_eq_true rfl) rfl ?_
      refine jr_iload_n 1 1 dX10_isUnder_0 rfl rfl rfl ?_
      refine jr_if_eq 29 4 dX10_isUnder_1 rfl rfl (fun q => absurd q (by decide)) (fun q1 => ?_)
      refine jr_iload_n 0 5 dX10_isUnder_4 rfl rfl rfl ?_
      refine jr_iload_n 1 6 dX10_isUnder_5 rfl rfl rfl ?_
      refine jr_icmp_eq 29 9 dX10_isUnder_6 rfl rfl (fun q => absurd q (by decide)) (fun q6 => ?_)
      refine jr_iload_n 1 10 dX10_isUnder_9 rfl rfl rfl ?_
      refine jr_iconst (nI 1) 11 dX10_isUnder_10 rfl rfl ?_
      refine jr_icmp_ne 19 14 dX10_isUnder_11 rfl rfl (fun q11 => ?_) (fun q => absurd q (by decide))
      refine jr_iload_n 1 20 dX10_isUnder_19 rfl rfl rfl ?_
      refine jr_iconst (nI 2) 21 dX10_isUnder_20 rfl rfl ?_
      refine jr_icmp_ne 33 24 dX10_isUnder_21 rfl rfl (fun q => absurd (by decide) q) (fun q21 => ?_)
      refine jr_iload_n 0 25 dX10_isUnder_24 rfl rfl rfl ?_
      refine jr_iconst (nI 4) 26 dX10_isUnder_25 rfl rfl ?_
      refine jr_icmp_ne 33 29 dX10_isUnder_26 rfl rfl (fun q => absurd (by decide) q) (fun q26 => ?_)
      refine jr_iconst (nI 1) 30 dX10_isUnder_29 rfl rfl ?_
      refine jr_goto 34 dX10_isUnder_30 rfl ?_
      refine jr_ireturn dX10_isUnder_34 rfl rfl ?_
      exact h
    · refine jr_enter (L := [some (.int (nI 4)), some (.int (nI 3))]) (by decide) (Nat.le_of_ble_eq_true rfl) rfl ?_
      refine jr_iload_n 1 1 dX10_isUnder_0 rfl rfl rfl ?_
      refine jr_if_eq 29 4 dX10_isUnder_1 rfl rfl (fun q => absurd q (by decide)) (fun q1 => ?_)
      refine jr_iload_n 0 5 dX10_isUnder_4 rfl rfl rfl ?_
      refine jr_iload_n 1 6 dX10_isUnder_5 rfl rfl rfl ?_
      refine jr_icmp_eq 29 9 dX10_isUnder_6 rfl rfl (fun q => absurd q (by decide)) (fun q6 => ?_)
      refine jr_iload_n 1 10 dX10_isUnder_9 rfl rfl rfl ?_
      refine jr_iconst (nI 1) 11 dX10_isUnder_10 rfl rfl ?_
      refine jr_icmp_ne 19 14 dX10_isUnder_11 rfl rfl (fun q11 => ?_) (fun q => absurd q (by decide))
      refine jr_iload_n 1 20 dX10_isUnder_19 rfl rfl rfl ?_
      refine jr_iconst (nI 2) 21 dX10_isUnder_20 rfl rfl ?_
      refine jr_icmp_ne 33 24 dX10_isUnder_21 rfl rfl (fun q21 => ?_) (fun q => absurd q (by decide))
      refine jr_iconst (nI 0) 34 dX10_isUnder_33 rfl rfl ?_
      refine jr_ireturn dX10_isUnder_34 rfl rfl ?_
      exact h
    · refine jr_enter (L := [some (.int (nI 4)), some (.int (nI 4))]) (by decide) (Nat.le_of_ble_eq_true rfl) rfl ?_
      refine jr_iload_n 1 1 dX10_isUnder_0 rfl rfl rfl ?_
      refine jr_if_eq 29 4 dX10_isUnder_1 rfl rfl (fun q => absurd q (by decide)) (fun q1 => ?_)
      refine jr_iload_n 0 5 dX10_isUnder_4 rfl rfl rfl ?_
      refine jr_iload_n 1 6 dX10_isUnder_5 rfl rfl rfl ?_
      refine jr_icmp_eq 29 9 dX10_isUnder_6 rfl rfl (fun q6 => ?_) (fun q => absurd (by decide) q)
      refine jr_iconst (nI 1) 30 dX10_isUnder_29 rfl rfl ?_
      refine jr_goto 34 dX10_isUnder_30 rfl ?_
      refine jr_ireturn dX10_isUnder_34 rfl rfl ?_
      exact h
    · refine jr_enter (L := [some (.int (nI 4)), some (.int (nI 5))]) (by decide) (Nat.le_of_ble_eq_true rfl) rfl ?_
      refine jr_iload_n 1 1 dX10_isUnder_0 rfl rfl rfl ?_
      refine jr_if_eq 29 4 dX10_isUnder_1 rfl rfl (fun q => absurd q (by decide)) (fun q1 => ?_)
      refine jr_iload_n 0 5 dX10_isUnder_4 rfl rfl rfl ?_
      refine jr_iload_n 1 6 dX10_isUnder_5 rfl rfl rfl ?_
      refine jr_icmp_eq 29 9 dX10_isUnder_6 rfl rfl (fun q => absurd q (by decide)) (fun q6 => ?_)
      refine jr_iload_n 1 10 dX10_isUnder_9 rfl rfl rfl ?_
      refine jr_iconst (nI 1) 11 dX10_isUnder_10 rfl rfl ?_
      refine jr_icmp_ne 19 14 dX10_isUnder_11 rfl rfl (fun q11 => ?_) (fun q => absurd q (by decide))
      refine jr_iload_n 1 20 dX10_isUnder_19 rfl rfl rfl ?_
      refine jr_iconst (nI 2) 21 dX10_isUnder_20 rfl rfl ?_
      refine jr_icmp_ne 33 24 dX10_isUnder_21 rfl rfl (fun q21 => ?_) (fun q => absurd q (by decide))
      refine jr_iconst (nI 0) 34 dX10_isUnder_33 rfl rfl ?_
      refine jr_ireturn dX10_isUnder_34 rfl rfl ?_
      exact h
  · rcases (by omega : o = 0 ∨ o = 1 ∨ o = 2 ∨ o = 3 ∨ o = 4 ∨ o = 5) with rfl | rfl | rfl | rfl | rfl | rfl
    · refine jr_enter (L := [some (.int (nI 5)), some (.int (nI 0))]) (by decide) (Nat.le_of_ble_eq_true rfl) rfl ?_
      refine jr_iload_n 1 1 dX10_isUnder_0 rfl rfl rfl ?_
      refine jr_if_eq 29 4 dX10_isUnder_1 rfl rfl (fun q1 => ?_) (fun q => absurd (by decide) q)
      refine jr_iconst (nI 1) 30 dX10_isUnder_29 rfl rfl ?_
      refine jr_goto 34 dX10_isUnder_30 rfl ?_
      refine jr_ireturn dX10_isUnder_34 rfl rfl ?_
      exact h
    · refine jr_enter (L := [some (.int (nI 5)), some (.int (nI 1))]) (by decide) (Nat.le_of_ble_eq_true rfl) rfl ?_
      refine jr_iload_n 1 1 dX10_isUnder_0 rfl rfl rfl ?_
      refine jr_if_eq 29 4 dX10_isUnder_1 rfl rfl (fun q => absurd q (by decide)) (fun q1 => ?_)
      refine jr_iload_n 0 5 dX10_isUnder_4 rfl rfl rfl ?_
      refine jr_iload_n 1 6 dX10_isUnder_5 rfl rfl rfl ?_
      refine jr_icmp_eq 29 9 dX10_isUnder_6 rfl rfl (fun q => absurd q (by decide)) (fun q6 => ?_)
      refine jr_iload_n 1 10 dX10_isUnder_9 rfl rfl rfl ?_
      refine jr_iconst (nI 1) 11 dX10_isUnder_10 rfl rfl ?_
      refine jr_icmp_ne 19 14 dX10_isUnder_11 rfl rfl (fun q => absurd (by decide) q) (fun q11 => ?_)
      refine jr_iload_n 0 15 dX10_isUnder_14 rfl rfl rfl ?_
      refine jr_iconst (nI 3) 16 dX10_isUnder_15 rfl rfl ?_
      refine jr_icmp_eq 29 19 dX10_isUnder_16 rfl rfl (fun q => absurd q (by decide)) (fun q16 => ?_)
      refine jr_iload_n 1 20 dX10_isUnder_19 rfl rfl rfl ?_
      refine jr_iconst (nI 2) 21 dX10_isUnder_20 rfl rfl ?_
      refine jr_icmp_ne 33 24 dX10_isUnder_21 rfl rfl (fun q21 => ?_) (fun q => absurd q (by decide))
      refine jr_iconst (nI 0) 34 dX10_isUnder_33 rfl rfl ?_
      refine jr_ireturn dX10_isUnder_34 rfl rfl ?_
      exact h
    · refine jr_enter (L := [some (.int (nI 5)), some (.int (nI 2))]) (by decide) (Nat.le_of_ble_eq_true rfl) rfl ?_
      refine jr_iload_n 1 1 dX10_isUnder_0 rfl rfl rfl ?_
      refine jr_if_eq 29 4 dX10_isUnder_1 rfl rfl (fun q => absurd q (by decide)) (fun q1 => ?_)
      refine jr_iload_n 0 5 dX10_isUnder_4 rfl rfl rfl ?_
      refine jr_iload_n 1 6 dX10_isUnder_5 rfl rfl rfl ?_
      refine jr_icmp_eq 29 9 dX10_isUnder_6 rfl rfl (fun q => absurd q (by decide)) (fun q6 => ?_)
      refine jr_iload_n 1 10 dX10_isUnder_9 rfl rfl rfl ?_
      refine jr_iconst (nI 1) 11 dX10_isUnder_10 rfl rfl ?_
      refine jr_icmp_ne 19 14 dX10_isUnder_11 rfl rfl (fun q11 => ?_) (fun q => absurd q (by decide))
      refine jr_iload_n 1 20 dX10_isUnder_19 rfl rfl rfl ?_
      refine jr_iconst (nI 2) 21 dX10_isUnder_20 rfl rfl ?_
      refine jr_icmp_ne 33 24 dX10_isUnder_21 rfl rfl (fun q => absurd (by decide) q) (fun q21 => ?_)
      refine jr_iload_n 0 25 dX10_isUnder_24 rfl rfl rfl ?_
      refine jr_iconst (nI 4) 26 dX10_isUnder_25 rfl rfl ?_
      refine jr_icmp_ne 33 29 dX10_isUnder_26 rfl rfl (fun q26 => ?_) (fun q => absurd q (by decide))
      refine jr_iconst (nI 0) 34 dX10_isUnder_33 rfl rfl ?_
      refine jr_ireturn dX10_isUnder_34 rfl rfl ?_
      exact h
    · refine jr_enter (L := [some (.int (nI 5)), some (.int (nI 3))]) (by decide) (Nat.le_of_ble_eq_true rfl) rfl ?_
      refine jr_iload_n 1 1 dX10_isUnder_0 rfl rfl rfl ?_
      refine jr_if_eq 29 4 dX10_isUnder_1 rfl rfl (fun q => absurd q (by decide)) (fun q1 => ?_)
      refine jr_iload_n 0 5 dX10_isUnder_4 rfl rfl rfl ?_
      refine jr_iload_n 1 6 dX10_isUnder_5 rfl rfl rfl ?_
      refine jr_icmp_eq 29 9 dX10_isUnder_6 rfl rfl (fun q => absurd q (by decide)) (fun q6 => ?_)
      refine jr_iload_n 1 10 dX10_isUnder_9 rfl rfl rfl ?_
      refine jr_iconst (nI 1) 11 dX10_isUnder_10 rfl rfl ?_
      refine jr_icmp_ne 19 14 dX10_isUnder_11 rfl rfl (fun q11 => ?_) (fun q => absurd q (by decide))
      refine jr_iload_n 1 20 dX10_isUnder_19 rfl rfl rfl ?_
      refine jr_iconst (nI 2) 21 dX10_isUnder_20 rfl rfl ?_
      refine jr_icmp_ne 33 24 dX10_isUnder_21 rfl rfl (fun q21 => ?_) (fun q => absurd q (by decide))
      refine jr_iconst (nI 0) 34 dX10_isUnder_33 rfl rfl ?_
      refine jr_ireturn dX10_isUnder_34 rfl rfl ?_
      exact h
    · refine jr_enter (L := [some (.int (nI 5)), some (.int (nI 4))]) (by decide) (Nat.le_of_ble_eq_true rfl) rfl ?_
      refine jr_iload_n 1 1 dX10_isUnder_0 rfl rfl rfl ?_
      refine jr_if_eq 29 4 dX10_isUnder_1 rfl rfl (fun q => absurd q (by decide)) (fun q1 => ?_)
      refine jr_iload_n 0 5 dX10_isUnder_4 rfl rfl rfl ?_
      refine jr_iload_n 1 6 dX10_isUnder_5 rfl rfl rfl ?_
      refine jr_icmp_eq 29 9 dX10_isUnder_6 rfl rfl (fun q => absurd q (by decide)) (fun q6 => ?_)
      refine jr_iload_n 1 10 dX10_isUnder_9 rfl rfl rfl ?_
      refine jr_iconst (nI 1) 11 dX10_isUnder_10 rfl rfl ?_
      refine jr_icmp_ne 19 14 dX10_isUnder_11 rfl rfl (fun q11 => ?_) (fun q => absurd q (by decide))
      refine jr_iload_n 1 20 dX10_isUnder_19 rfl rfl rfl ?_
      refine jr_iconst (nI 2) 21 dX10_isUnder_20 rfl rfl ?_
      refine jr_icmp_ne 33 24 dX10_isUnder_21 rfl rfl (fun q21 => ?_) (fun q => absurd q (by decide))
      refine jr_iconst (nI 0) 34 dX10_isUnder_33 rfl rfl ?_
      refine jr_ireturn dX10_isUnder_34 rfl rfl ?_
      exact h
    · refine jr_enter (L := [some (.int (nI 5)), some (.int (nI 5))]) (by decide) (Nat.le_of_ble_eq_true rfl) rfl ?_
      refine jr_iload_n 1 1 dX10_isUnder_0 rfl rfl rfl ?_
      refine jr_if_eq 29 4 dX10_isUnder_1 rfl rfl (fun q => absurd q (by decide)) (fun q1 => ?_)
      refine jr_iload_n 0 5 dX10_isUnder_4 rfl rfl rfl ?_
      refine jr_iload_n 1 6 dX10_isUnder_5 rfl rfl rfl ?_
      refine jr_icmp_eq 29 9 dX10_isUnder_6 rfl rfl (fun q6 => ?_) (fun q => absurd (by decide) q)
      refine jr_iconst (nI 1) 30 dX10_isUnder_29 rfl rfl ?_
      refine jr_goto 34 dX10_isUnder_30 rfl ?_
      refine jr_ireturn dX10_isUnder_34 rfl rfl ?_
      exact h
theorem pp_taken {G : jr_G} {d : Nat} {σ : jr_Sg} {a c : Int32} (h : IV σ) : jr_pair G (d + 20) mi_X9_taken mi_X10_taken [.int a, .int c] σ := by
  obtain ⟨T, n, nf, nc, kd, se, lw, tp, h⟩ := h
  have hh := h
  obtain ⟨hTC, hTR, ⟨hsc, hsr, hl1, hl2, hlw, hfc, hli, hca⟩, htp, himg, hsh, hrest, hwd⟩ := hh
  have hnf := hsc.1
  have h5 := hsc.2.1
  have hnc := hsc.2.2.1
  have h8 := hsc.2.2.2.1
  have rnf := hsr.1
  have rnc := hsr.2.2.1
  have hlm := hrest.2.2.2.1
  unfold jr_pair
  rcases jr_rg c (m := 6) (by decide) with qo | ⟨o, ho, rfl⟩
  · refine jr_enter (L := [some (.ref 0), some (.int a), some (.int c), none]) (by decide) (Nat.le_of_ble_eq_true rfl) rfl ?_
    refine jr_iload_n 2 1 dX9_taken_0 rfl rfl rfl ?_
    refine jr_bipush (6) 3 dX9_taken_1 rfl rfl ?_
    refine cs_X9_104 6 dX9_taken_3 rfl rfl (Nat.le_of_ble_eq_true rfl) (wp_wiF qo ?_)
    refine jr_if_ne 12 9 dX9_taken_6 rfl rfl (fun q => absurd (by decide) q) (fun q6 => ?_)
    refine jr_bipush ((-2)) 11 dX9_taken_9 rfl rfl ?_
    refine jr_ireturn dX9_taken_11 rfl rfl ?_
    refine jr_enter (L := [some (.ref 46), some (.int a), some (.int c)]) (by decide) (Nat.le_of_ble_eq_true rfl) rfl ?_
    refine jr_iload_n 2 1 dX10_taken_0 rfl rfl rfl ?_
    refine jr_iconst (0) 2 dX10_taken_1 rfl rfl ?_
    refine jr_bipush (6) 4 dX10_taken_2 rfl rfl ?_
    refine cs_X10_108 7 dX10_taken_4 rfl rfl (Nat.le_of_ble_eq_true rfl) (wp_inF qo ?_)
    refine jr_if_ne 13 10 dX10_taken_7 rfl rfl (fun q => absurd (by decide) q) (fun q7 => ?_)
    refine jr_bipush ((-2)) 12 dX10_taken_10 rfl rfl ?_
    refine jr_ireturn dX10_taken_12 rfl rfl ?_
    exact ⟨rfl, IV_mov (iv_same_x (jr_eqx_rf [] _) (by decide)) h⟩
  · rcases pk_ix a (n := 13) (by omega) with q | q | ⟨i, hi, rfl⟩
    · refine jr_enter (L := [some (.ref 0), some (.int a), some (.int (nI o)), none]) (by decide) (Nat.le_of_ble_eq_true rfl) rfl ?_
      refine jr_iload_n 2 1 dX9_taken_0 rfl rfl rfl ?_
      refine jr_bipush (6) 3 dX9_taken_1 rfl rfl ?_
      refine cs_X9_104 6 dX9_taken_3 rfl rfl (Nat.le_of_ble_eq_true rfl) (wp_wiT ho (by decide) rfl ?_)
      refine jr_if_ne 12 9 dX9_taken_6 rfl rfl (fun q6 => ?_) (fun q => absurd q (by decide))
      refine jr_iload_n 1 13 dX9_taken_12 rfl rfl rfl ?_
      refine jr_if_lt 22 16 dX9_taken_13 rfl rfl (fun q13 => ?_) (fun z => absurd q z)
      refine jr_bipush ((-12)) 24 dX9_taken_22 rfl rfl ?_
      refine jr_ireturn dX9_taken_24 rfl rfl ?_
      refine jr_enter (L := [some (.ref 46), some (.int a), some (.int (nI o))]) (by decide) (Nat.le_of_ble_eq_true rfl) rfl ?_
      refine jr_iload_n 2 1 dX10_taken_0 rfl rfl rfl ?_
      refine jr_iconst (0) 2 dX10_taken_1 rfl rfl ?_
      refine jr_bipush (6) 4 dX10_taken_2 rfl rfl ?_
      refine cs_X10_108 7 dX10_taken_4 rfl rfl (Nat.le_of_ble_eq_true rfl) (wp_inT ho (by decide) rfl ?_)
      refine jr_if_ne 13 10 dX10_taken_7 rfl rfl (fun q7 => ?_) (fun q => absurd q (by decide))
      refine jr_iload_n 1 14 dX10_taken_13 rfl rfl rfl ?_
      refine jr_iconst (0) 15 dX10_taken_14 rfl rfl ?_
      refine jr_bipush (12) 17 dX10_taken_15 rfl rfl ?_
      refine cs_X10_108 20 dX10_taken_17 rfl rfl (Nat.le_of_ble_eq_true rfl) (wp_inF (fun z => absurd q (Int32.not_lt.mpr z.1)) ?_)
      refine jr_if_ne 26 23 dX10_taken_20 rfl rfl (fun q => absurd (by decide) q) (fun q20 => ?_)
      refine jr_bipush ((-12)) 25 dX10_taken_23 rfl rfl ?_
      refine jr_ireturn dX10_taken_25 rfl rfl ?_
      exact ⟨rfl, IV_mov (iv_same_x (jr_eqx_rf [] _) (by decide)) h⟩
    · refine jr_enter (L := [some (.ref 0), some (.int a), some (.int (nI o)), none]) (by decide) (Nat.le_of_ble_eq_true rfl) rfl ?_
      refine jr_iload_n 2 1 dX9_taken_0 rfl rfl rfl ?_
      refine jr_bipush (nI 6) 3 dX9_taken_1 rfl rfl ?_
      refine cs_X9_104 6 dX9_taken_3 rfl rfl (Nat.le_of_ble_eq_true rfl) (wp_wiT ho (by decide) rfl ?_)
      refine jr_if_ne 12 9 dX9_taken_6 rfl rfl (fun q6 => ?_) (fun q => absurd q (by decide))
      refine jr_iload_n 1 13 dX9_taken_12 rfl rfl rfl ?_
      refine jr_if_lt 22 16 dX9_taken_13 rfl rfl (fun z => absurd z (Int32.not_lt.mpr (Int32.le_trans (nI_pos' (by omega)) q))) (fun q13 => ?_)
      refine jr_iload_n 1 17 dX9_taken_16 rfl rfl rfl ?_
      refine jr_bipush (nI 13) 19 dX9_taken_17 rfl rfl ?_
      refine jr_icmp_lt 25 22 dX9_taken_19 rfl rfl (fun z => absurd q (Int32.not_le.mpr z)) (fun q19 => ?_)
      refine jr_bipush ((-12)) 24 dX9_taken_22 rfl rfl ?_
      refine jr_ireturn dX9_taken_24 rfl rfl ?_
      refine jr_enter (L := [some (.ref 46), some (.int a), some (.int (nI o))]) (by decide) (Nat.le_of_ble_eq_true rfl) rfl ?_
      refine jr_iload_n 2 1 dX10_taken_0 rfl rfl rfl ?_
      refine jr_iconst (0) 2 dX10_taken_1 rfl rfl ?_
      refine jr_bipush (6) 4 dX10_taken_2 rfl rfl ?_
      refine cs_X10_108 7 dX10_taken_4 rfl rfl (Nat.le_of_ble_eq_true rfl) (wp_inT ho (by decide) rfl ?_)
      refine jr_if_ne 13 10 dX10_taken_7 rfl rfl (fun q7 => ?_) (fun q => absurd q (by decide))
      refine jr_iload_n 1 14 dX10_taken_13 rfl rfl rfl ?_
      refine jr_iconst (0) 15 dX10_taken_14 rfl rfl ?_
      refine jr_bipush (12) 17 dX10_taken_15 rfl rfl ?_
      refine cs_X10_108 20 dX10_taken_17 rfl rfl (Nat.le_of_ble_eq_true rfl) (wp_inF (fun z => absurd (Int32.le_trans q z.2) (by decide)) ?_)
      refine jr_if_ne 26 23 dX10_taken_20 rfl rfl (fun q => absurd (by decide) q) (fun q20 => ?_)
      refine jr_bipush ((-12)) 25 dX10_taken_23 rfl rfl ?_
      refine jr_ireturn dX10_taken_25 rfl rfl ?_
      exact ⟨rfl, IV_mov (iv_same_x (jr_eqx_rf [] _) (by decide)) h⟩
    · by_cases hi8 : i < 8
      · obtain ⟨el, v, hv, ev⟩ := hli i hi8
        by_cases hz : σ 47 i = 0
        · refine jr_enter (L := [some (.ref 0), some (.int (nI i)), some (.int (nI o)), none]) (by decide) (Nat.le_of_ble_eq_true rfl) rfl ?_
          refine jr_iload_n 2 1 dX9_taken_0 rfl rfl rfl ?_
          refine jr_bipush (nI 6) 3 dX9_taken_1 rfl rfl ?_
          refine cs_X9_104 6 dX9_taken_3 rfl rfl (Nat.le_of_ble_eq_true rfl) (wp_wiT ho (by decide) rfl ?_)
          refine jr_if_ne 12 9 dX9_taken_6 rfl rfl (fun q6 => ?_) (fun q => absurd q (by decide))
          refine jr_iload_n 1 13 dX9_taken_12 rfl rfl rfl ?_
          refine jr_if_lt 22 16 dX9_taken_13 rfl rfl (fun z => absurd z (nI_pos (by omega))) (fun q13 => ?_)
          refine jr_iload_n 1 17 dX9_taken_16 rfl rfl rfl ?_
          refine jr_bipush (nI 13) 19 dX9_taken_17 rfl rfl ?_
          refine jr_icmp_lt 25 22 dX9_taken_19 rfl rfl (fun q19 => ?_) (fun z => absurd (nI_lt (b := 13) hi (by omega)) z)
          refine jr_iload_n 1 26 dX9_taken_25 rfl rfl rfl ?_
          refine jr_bipush (nI 8) 28 dX9_taken_26 rfl rfl ?_
          refine jr_icmp_ge 67 31 dX9_taken_28 rfl rfl (fun z => absurd z (nI_ge (b := 8) hi8 (by omega))) (fun q28 => ?_)
          refine jr_aload_n 0 32 dX9_taken_31 rfl rfl rfl ?_
          refine gf_X9_44 35 dX9_taken_32 rfl rfl rfl rfl ?_
          refine gf_X9_158 38 dX9_taken_35 rfl rfl rfl rfl ?_
          refine jr_iload_n 1 39 dX9_taken_38 rfl rfl rfl ?_
          refine jr_iald rfl rfl (by omega) 40 dX9_taken_39 rfl ?_
          refine jr_if_ne 46 43 dX9_taken_40 rfl rfl (fun q => absurd (el.trans hz) q) (fun q40 => ?_)
          refine jr_bipush ((-11)) 45 dX9_taken_43 rfl rfl ?_
          refine jr_ireturn dX9_taken_45 rfl rfl ?_
          refine jr_enter (L := [some (.ref 46), some (.int (nI i)), some (.int (nI o))]) (by decide) (Nat.le_of_ble_eq_true rfl) rfl ?_
          refine jr_iload_n 2 1 dX10_taken_0 rfl rfl rfl ?_
          refine jr_iconst (nI 0) 2 dX10_taken_1 rfl rfl ?_
          refine jr_bipush (nI 6) 4 dX10_taken_2 rfl rfl ?_
          refine cs_X10_108 7 dX10_taken_4 rfl rfl (Nat.le_of_ble_eq_true rfl) (wp_inT ho (by decide) rfl ?_)
          refine jr_if_ne 13 10 dX10_taken_7 rfl rfl (fun q7 => ?_) (fun q => absurd q (by decide))
          refine jr_iload_n 1 14 dX10_taken_13 rfl rfl rfl ?_
          refine jr_iconst (nI 0) 15 dX10_taken_14 rfl rfl ?_
          refine jr_bipush (nI 12) 17 dX10_taken_15 rfl rfl ?_
          refine cs_X10_108 20 dX10_taken_17 rfl rfl (Nat.le_of_ble_eq_true rfl) (wp_inT (m := 12) (by omega) (by decide) rfl ?_)
          refine jr_if_ne 26 23 dX10_taken_20 rfl rfl (fun q20 => ?_) (fun q => absurd q (by decide))
          refine jr_iload_n 1 27 dX10_taken_26 rfl rfl rfl ?_
          refine jr_bipush (nI 8) 29 dX10_taken_27 rfl rfl ?_
          refine jr_icmp_ge 64 32 dX10_taken_29 rfl rfl (fun z => absurd z (nI_ge (b := 8) hi8 (by omega))) (fun q29 => ?_)
          refine jr_aload_n 0 33 dX10_taken_32 rfl rfl rfl ?_
          refine gf_X10_7 36 dX10_taken_33 rfl rfl rfl rfl ?_
          refine jr_iload_n 1 37 dX10_taken_36 rfl rfl rfl ?_
          refine jr_iald rfl rfl (by omega) 38 dX10_taken_37 rfl ?_
          refine jr_if_ne 46 41 dX10_taken_38 rfl rfl (fun q => absurd hz q) (fun q38 => ?_)
          refine jr_bipush ((-11)) 43 dX10_taken_41 rfl rfl ?_
          refine jr_goto 63 dX10_taken_43 rfl ?_
          refine jr_ireturn dX10_taken_63 rfl rfl ?_
          exact ⟨rfl, IV_mov (iv_same_x (jr_eqx_rf [] _) (by decide)) h⟩
        · by_cases h6 : o = 6
          · subst h6
            refine jr_enter (L := [some (.ref 0), some (.int (nI i)), some (.int (nI 6)), none]) (by decide) (Nat.le_of_ble_eq_true rfl) rfl ?_
            refine jr_iload_n 2 1 dX9_taken_0 rfl rfl rfl ?_
            refine jr_bipush (nI 6) 3 dX9_taken_1 rfl rfl ?_
            refine cs_X9_104 6 dX9_taken_3 rfl rfl (Nat.le_of_ble_eq_true rfl) (wp_wiT ho (by decide) rfl ?_)
            refine jr_if_ne 12 9 dX9_taken_6 rfl rfl (fun q6 => ?_) (fun q => absurd q (by decide))
            refine jr_iload_n 1 13 dX9_taken_12 rfl rfl rfl ?_
            refine jr_if_lt 22 16 dX9_taken_13 rfl rfl (fun z => absurd z (nI_pos (by omega))) (fun q13 => ?_)
            refine jr_iload_n 1 17 dX9_taken_16 rfl rfl rfl ?_
            refine jr_bipush (nI 13) 19 dX9_taken_17 rfl rfl ?_
            refine jr_icmp_lt 25 22 dX9_taken_19 rfl rfl (fun q19 => ?_) (fun z => absurd (nI_lt (b := 13) hi (by omega)) z)
            refine jr_iload_n 1 26 dX9_taken_25 rfl rfl rfl ?_
            refine jr_bipush (nI 8) 28 dX9_taken_26 rfl rfl ?_
            refine jr_icmp_ge 67 31 dX9_taken_28 rfl rfl (fun z => absurd z (nI_ge (b := 8) hi8 (by omega))) (fun q28 => ?_)
            refine jr_aload_n 0 32 dX9_taken_31 rfl rfl rfl ?_
            refine gf_X9_44 35 dX9_taken_32 rfl rfl rfl rfl ?_
            refine gf_X9_158 38 dX9_taken_35 rfl rfl rfl rfl ?_
            refine jr_iload_n 1 39 dX9_taken_38 rfl rfl rfl ?_
            refine jr_iald rfl rfl (by omega) 40 dX9_taken_39 rfl ?_
            refine jr_if_ne 46 43 dX9_taken_40 rfl rfl (fun q40 => ?_) (fun q => absurd (el.symm.trans q) hz)
            refine jr_iload_n 2 47 dX9_taken_46 rfl rfl rfl ?_
            refine jr_bipush (nI 6) 49 dX9_taken_47 rfl rfl ?_
            refine jr_icmp_ne 64 52 dX9_taken_49 rfl rfl (fun q => absurd (by decide) q) (fun q49 => ?_)
            refine jr_aload_n 0 53 dX9_taken_52 rfl rfl rfl ?_
            refine gf_X9_44 56 dX9_taken_53 rfl rfl rfl rfl ?_
            refine gf_X9_158 59 dX9_taken_56 rfl rfl rfl rfl ?_
            refine jr_iload_n 1 60 dX9_taken_59 rfl rfl rfl ?_
            refine jr_iald rfl rfl (by omega) 61 dX9_taken_60 rfl ?_
            refine jr_goto 66 dX9_taken_61 rfl ?_
            refine jr_ireturn dX9_taken_66 rfl rfl ?_
            refine jr_enter (L := [some (.ref 46), some (.int (nI i)), some (.int (nI 6))]) (by decide) (Nat.le_of_ble_eq_true rfl) rfl ?_
            refine jr_iload_n 2 1 dX10_taken_0 rfl rfl rfl ?_
            refine jr_iconst (nI 0) 2 dX10_taken_1 rfl rfl ?_
            refine jr_bipush (nI 6) 4 dX10_taken_2 rfl rfl ?_
            refine cs_X10_108 7 dX10_taken_4 rfl rfl (Nat.le_of_ble_eq_true rfl) (wp_inT ho (by decide) rfl ?_)
            refine jr_if_ne 13 10 dX10_taken_7 rfl rfl (fun q7 => ?_) (fun q => absurd q (by decide))
            refine jr_iload_n 1 14 dX10_taken_13 rfl rfl rfl ?_
            refine jr_iconst (nI 0) 15 dX10_taken_14 rfl rfl ?_
            refine jr_bipush (nI 12) 17 dX10_taken_15 rfl rfl ?_
            refine cs_X10_108 20 dX10_taken_17 rfl rfl (Nat.le_of_ble_eq_true rfl) (wp_inT (m := 12) (by omega) (by decide) rfl ?_)
            refine jr_if_ne 26 23 dX10_taken_20 rfl rfl (fun q20 => ?_) (fun q => absurd q (by decide))
            refine jr_iload_n 1 27 dX10_taken_26 rfl rfl rfl ?_
            refine jr_bipush (nI 8) 29 dX10_taken_27 rfl rfl ?_
            refine jr_icmp_ge 64 32 dX10_taken_29 rfl rfl (fun z => absurd z (nI_ge (b := 8) hi8 (by omega))) (fun q29 => ?_)
            refine jr_aload_n 0 33 dX10_taken_32 rfl rfl rfl ?_
            refine gf_X10_7 36 dX10_taken_33 rfl rfl rfl rfl ?_
            refine jr_iload_n 1 37 dX10_taken_36 rfl rfl rfl ?_
            refine jr_iald rfl rfl (by omega) 38 dX10_taken_37 rfl ?_
            refine jr_if_ne 46 41 dX10_taken_38 rfl rfl (fun q38 => ?_) (fun q => absurd q hz)
            refine jr_iload_n 2 47 dX10_taken_46 rfl rfl rfl ?_
            refine jr_bipush (nI 6) 49 dX10_taken_47 rfl rfl ?_
            refine jr_icmp_ne 61 52 dX10_taken_49 rfl rfl (fun q => absurd (by decide) q) (fun q49 => ?_)
            refine jr_aload_n 0 53 dX10_taken_52 rfl rfl rfl ?_
            refine gf_X10_7 56 dX10_taken_53 rfl rfl rfl rfl ?_
            refine jr_iload_n 1 57 dX10_taken_56 rfl rfl rfl ?_
            refine jr_iald rfl rfl (by omega) 58 dX10_taken_57 rfl ?_
            refine jr_goto 63 dX10_taken_58 rfl ?_
            refine jr_ireturn dX10_taken_63 rfl rfl ?_
            exact ⟨congrArg Value.int el.symm, IV_mov (iv_same_x (jr_eqx_rf [] _) (by decide)) h⟩
          · refine jr_enter (L := [some (.ref 0), some (.int (nI i)), some (.int (nI o)), none]) (by decide) (Nat.le_of_ble_eq_true rfl) rfl ?_
            refine jr_iload_n 2 1 dX9_taken_0 rfl rfl rfl ?_
            refine jr_bipush (nI 6) 3 dX9_taken_1 rfl rfl ?_
            refine cs_X9_104 6 dX9_taken_3 rfl rfl (Nat.le_of_ble_eq_true rfl) (wp_wiT ho (by decide) rfl ?_)
            refine jr_if_ne 12 9 dX9_taken_6 rfl rfl (fun q6 => ?_) (fun q => absurd q (by decide))
            refine jr_iload_n 1 13 dX9_taken_12 rfl rfl rfl ?_
            refine jr_if_lt 22 16 dX9_taken_13 rfl rfl (fun z => absurd z (nI_pos (by omega))) (fun q13 => ?_)
            refine jr_iload_n 1 17 dX9_taken_16 rfl rfl rfl ?_
            refine jr_bipush (nI 13) 19 dX9_taken_17 rfl rfl ?_
            refine jr_icmp_lt 25 22 dX9_taken_19 rfl rfl (fun q19 => ?_) (fun z => absurd (nI_lt (b := 13) hi (by omega)) z)
            refine jr_iload_n 1 26 dX9_taken_25 rfl rfl rfl ?_
            refine jr_bipush (nI 8) 28 dX9_taken_26 rfl rfl ?_
            refine jr_icmp_ge 67 31 dX9_taken_28 rfl rfl (fun z => absurd z (nI_ge (b := 8) hi8 (by omega))) (fun q28 => ?_)
            refine jr_aload_n 0 32 dX9_taken_31 rfl rfl rfl ?_
            refine gf_X9_44 35 dX9_taken_32 rfl rfl rfl rfl ?_
            refine gf_X9_158 38 dX9_taken_35 rfl rfl rfl rfl ?_
            refine jr_iload_n 1 39 dX9_taken_38 rfl rfl rfl ?_
            refine jr_iald rfl rfl (by omega) 40 dX9_taken_39 rfl ?_
            refine jr_if_ne 46 43 dX9_taken_40 rfl rfl (fun q40 => ?_) (fun q => absurd (el.symm.trans q) hz)
            refine jr_iload_n 2 47 dX9_taken_46 rfl rfl rfl ?_
            refine jr_bipush (nI 6) 49 dX9_taken_47 rfl rfl ?_
            refine jr_icmp_ne 64 52 dX9_taken_49 rfl rfl (fun q49 => ?_) (fun q => absurd (nI_inj (by omega) (by omega) q) h6)
            refine jr_bipush ((-13)) 66 dX9_taken_64 rfl rfl ?_
            refine jr_ireturn dX9_taken_66 rfl rfl ?_
            refine jr_enter (L := [some (.ref 46), some (.int (nI i)), some (.int (nI o))]) (by decide) (Nat.le_of_ble_eq_true rfl) rfl ?_
            refine jr_iload_n 2 1 dX10_taken_0 rfl rfl rfl ?_
            refine jr_iconst (nI 0) 2 dX10_taken_1 rfl rfl ?_
            refine jr_bipush (nI 6) 4 dX10_taken_2 rfl rfl ?_
            refine cs_X10_108 7 dX10_taken_4 rfl rfl (Nat.le_of_ble_eq_true rfl) (wp_inT ho (by decide) rfl ?_)
            refine jr_if_ne 13 10 dX10_taken_7 rfl rfl (fun q7 => ?_) (fun q => absurd q (by decide))
            refine jr_iload_n 1 14 dX10_taken_13 rfl rfl rfl ?_
            refine jr_iconst (nI 0) 15 dX10_taken_14 rfl rfl ?_
            refine jr_bipush (nI 12) 17 dX10_taken_15 rfl rfl ?_
            refine cs_X10_108 20 dX10_taken_17 rfl rfl (Nat.le_of_ble_eq_true rfl) (wp_inT (m := 12) (by omega) (by decide) rfl ?_)
            refine jr_if_ne 26 23 dX10_taken_20 rfl rfl (fun q20 => ?_) (fun q => absurd q (by decide))
            refine jr_iload_n 1 27 dX10_taken_26 rfl rfl rfl ?_
            refine jr_bipush (nI 8) 29 dX10_taken_27 rfl rfl ?_
            refine jr_icmp_ge 64 32 dX10_taken_29 rfl rfl (fun z => absurd z (nI_ge (b := 8) hi8 (by omega))) (fun q29 => ?_)
            refine jr_aload_n 0 33 dX10_taken_32 rfl rfl rfl ?_
            refine gf_X10_7 36 dX10_taken_33 rfl rfl rfl rfl ?_
            refine jr_iload_n 1 37 dX10_taken_36 rfl rfl rfl ?_
            refine jr_iald rfl rfl (by omega) 38 dX10_taken_37 rfl ?_
            refine jr_if_ne 46 41 dX10_taken_38 rfl rfl (fun q38 => ?_) (fun q => absurd q hz)
            refine jr_iload_n 2 47 dX10_taken_46 rfl rfl rfl ?_
            refine jr_bipush (nI 6) 49 dX10_taken_47 rfl rfl ?_
            refine jr_icmp_ne 61 52 dX10_taken_49 rfl rfl (fun q49 => ?_) (fun q => absurd (nI_inj (by omega) (by omega) q) h6)
            refine jr_bipush ((-13)) 63 dX10_taken_61 rfl rfl ?_
            refine jr_ireturn dX10_taken_63 rfl rfl ?_
            exact ⟨rfl, IV_mov (iv_same_x (jr_eqx_rf [] _) (by decide)) h⟩
      · obtain ⟨f, rfl⟩ : ∃ f, i = f + 8 := ⟨i - 8, by omega⟩
        have e8 : nI (f + 8) - nI 8 = nI f := by rw [pk_sub (by omega)]; congr 1
        by_cases hf : f < nf
        · obtain ⟨hk6, -, ek, -, -⟩ := hsr.2.2.2.2 f hf
          have ekc : σ 16 f = nI (kd f) := (hsc.2.2.2.2 f hf).2.2.1
          by_cases h6 : o = 6
          · subst h6
            have e6 : pu_is (kd f) (nI 6) = 0 := by
              rcases (by omega : kd f = 0 ∨ kd f = 1 ∨ kd f = 2 ∨ kd f = 3 ∨ kd f = 4 ∨ kd f = 5) with e | e | e | e | e | e <;> rw [e] <;> decide
            refine jr_enter (L := [some (.ref 0), some (.int (nI (f + 8))), some (.int (nI 6)), none]) (by decide) (Nat.le_of_ble_eq_true rfl) rfl ?_
            refine jr_iload_n 2 1 dX9_taken_0 rfl rfl rfl ?_
            refine jr_bipush (nI 6) 3 dX9_taken_1 rfl rfl ?_
            refine cs_X9_104 6 dX9_taken_3 rfl rfl (Nat.le_of_ble_eq_true rfl) (wp_wiT ho (by decide) rfl ?_)
            refine jr_if_ne 12 9 dX9_taken_6 rfl rfl (fun q6 => ?_) (fun q => absurd q (by decide))
            refine jr_iload_n 1 13 dX9_taken_12 rfl rfl rfl ?_
            refine jr_if_lt 22 16 dX9_taken_13 rfl rfl (fun z => absurd z (nI_pos (by omega))) (fun q13 => ?_)
            refine jr_iload_n 1 17 dX9_taken_16 rfl rfl rfl ?_
            refine jr_bipush (nI 13) 19 dX9_taken_17 rfl rfl ?_
            refine jr_icmp_lt 25 22 dX9_taken_19 rfl rfl (fun q19 => ?_) (fun z => absurd (nI_lt (b := 13) hi (by omega)) z)
            refine jr_iload_n 1 26 dX9_taken_25 rfl rfl rfl ?_
            refine jr_bipush (nI 8) 28 dX9_taken_26 rfl rfl ?_
            refine jr_icmp_ge 67 31 dX9_taken_28 rfl rfl (fun q28 => ?_) (fun z => absurd (nI_le (a := 8) (by omega) (by omega)) z)
            refine jr_iload_n 1 68 dX9_taken_67 rfl rfl rfl ?_
            refine jr_bipush (nI 8) 70 dX9_taken_68 rfl rfl ?_
            refine jr_isub 71 dX9_taken_70 rfl ?_
            rw [e8]
            refine jr_istore_n 3 (L' := [_, _, _, _]) 72 dX9_taken_71 rfl rfl (by decide) rfl ?_
            refine jr_aload_n 0 73 dX9_taken_72 rfl rfl rfl ?_
            refine gf_X9_44 76 dX9_taken_73 rfl rfl rfl rfl ?_
            refine jr_iload_n 3 77 dX9_taken_76 rfl rfl rfl ?_
            refine cs_X9_146 80 dX9_taken_77 rfl rfl rfl (Nat.le_of_ble_eq_true rfl) (wp_hasT_15 hnf h5 hf ?_)
            refine jr_if_ne 86 83 dX9_taken_80 rfl rfl (fun q80 => ?_) (fun q => absurd q (by decide))
            refine jr_aload_n 0 87 dX9_taken_86 rfl rfl rfl ?_
            refine gf_X9_44 90 dX9_taken_87 rfl rfl rfl rfl ?_
            refine gf_X9_161 93 dX9_taken_90 rfl rfl rfl rfl ?_
            refine jr_iload_n 3 94 dX9_taken_93 rfl rfl rfl ?_
            refine jr_iald rfl rfl (by omega) 95 dX9_taken_94 rfl ?_
            refine jr_topi (y := nI (kd f)) ekc ?_
            refine jr_iload_n 2 96 dX9_taken_95 rfl rfl rfl ?_
            refine cs_X9_330 99 dX9_taken_96 rfl rfl (Nat.le_of_ble_eq_true rfl) (wp_isAc hk6 e6 ?_)
            refine jr_if_eq 106 102 dX9_taken_99 rfl rfl (fun q99 => ?_) (fun q => absurd (by decide) q)
            refine jr_bipush ((-13)) 108 dX9_taken_106 rfl rfl ?_
            refine jr_ireturn dX9_taken_108 rfl rfl ?_
            refine jr_enter (L := [some (.ref 46), some (.int (nI (f + 8))), some (.int (nI 6))]) (by decide) (Nat.le_of_ble_eq_true rfl) rfl ?_
            refine jr_iload_n 2 1 dX10_taken_0 rfl rfl rfl ?_
            refine jr_iconst (nI 0) 2 dX10_taken_1 rfl rfl ?_
            refine jr_bipush (nI 6) 4 dX10_taken_2 rfl rfl ?_
            refine cs_X10_108 7 dX10_taken_4 rfl rfl (Nat.le_of_ble_eq_true rfl) (wp_inT ho (by decide) rfl ?_)
            refine jr_if_ne 13 10 dX10_taken_7 rfl rfl (fun q7 => ?_) (fun q => absurd q (by decide))
            refine jr_iload_n 1 14 dX10_taken_13 rfl rfl rfl ?_
            refine jr_iconst (nI 0) 15 dX10_taken_14 rfl rfl ?_
            refine jr_bipush (nI 12) 17 dX10_taken_15 rfl rfl ?_
            refine cs_X10_108 20 dX10_taken_17 rfl rfl (Nat.le_of_ble_eq_true rfl) (wp_inT (m := 12) (by omega) (by decide) rfl ?_)
            refine jr_if_ne 26 23 dX10_taken_20 rfl rfl (fun q20 => ?_) (fun q => absurd q (by decide))
            refine jr_iload_n 1 27 dX10_taken_26 rfl rfl rfl ?_
            refine jr_bipush (nI 8) 29 dX10_taken_27 rfl rfl ?_
            refine jr_icmp_ge 64 32 dX10_taken_29 rfl rfl (fun q29 => ?_) (fun z => absurd (nI_le (a := 8) (by omega) (by omega)) z)
            refine jr_iload_n 1 65 dX10_taken_64 rfl rfl rfl ?_
            refine jr_bipush (nI 8) 67 dX10_taken_65 rfl rfl ?_
            refine jr_isub 68 dX10_taken_67 rfl ?_
            rw [e8]
            refine jr_aload_n 0 69 dX10_taken_68 rfl rfl rfl ?_
            refine gf_X10_105 72 dX10_taken_69 rfl rfl rfl rfl ?_
            rw [rnf]
            refine jr_icmp_lt 80 75 dX10_taken_72 rfl rfl (fun q72 => ?_) (fun z => absurd (nI_lt hf (by omega)) z)
            refine jr_iload_n 2 81 dX10_taken_80 rfl rfl rfl ?_
            refine jr_bipush (nI 6) 83 dX10_taken_81 rfl rfl ?_
            refine jr_icmp_ge 109 86 dX10_taken_83 rfl rfl (fun q83 => ?_) (fun q => absurd (by decide) q)
            refine jr_bipush ((-13)) 111 dX10_taken_109 rfl rfl ?_
            refine jr_ireturn dX10_taken_111 rfl rfl ?_
            exact ⟨rfl, IV_mov (iv_same_x (jr_eqx_rf [] _) (by decide)) h⟩
          · have key : pu_is (kd f) (nI o) = 1 ∨ pu_is (kd f) (nI o) = 0 := by
              rcases (by omega : kd f = 0 ∨ kd f = 1 ∨ kd f = 2 ∨ kd f = 3 ∨ kd f = 4 ∨ kd f = 5) with e | e | e | e | e | e <;> rcases (by omega : o = 0 ∨ o = 1 ∨ o = 2 ∨ o = 3 ∨ o = 4 ∨ o = 5) with q | q | q | q | q | q <;> rw [e, q] <;> decide
            rcases key with e1 | e1
            · refine jr_enter (L := [some (.ref 0), some (.int (nI (f + 8))), some (.int (nI o)), none]) (by decide) (Nat.le_of_ble_eq_true rfl) rfl ?_
              refine jr_iload_n 2 1 dX9_taken_0 rfl rfl rfl ?_
              refine jr_bipush (nI 6) 3 dX9_taken_1 rfl rfl ?_
              refine cs_X9_104 6 dX9_taken_3 rfl rfl (Nat.le_of_ble_eq_true rfl) (wp_wiT ho (by decide) rfl ?_)
              refine jr_if_ne 12 9 dX9_taken_6 rfl rfl (fun q6 => ?_) (fun q => absurd q (by decide))
              refine jr_iload_n 1 13 dX9_taken_12 rfl rfl rfl ?_
              refine jr_if_lt 22 16 dX9_taken_13 rfl rfl (fun z => absurd z (nI_pos (by omega))) (fun q13 => ?_)
              refine jr_iload_n 1 17 dX9_taken_16 rfl rfl rfl ?_
              refine jr_bipush (nI 13) 19 dX9_taken_17 rfl rfl ?_
              refine jr_icmp_lt 25 22 dX9_taken_19 rfl rfl (fun q19 => ?_) (fun z => absurd (nI_lt (b := 13) hi (by omega)) z)
              refine jr_iload_n 1 26 dX9_taken_25 rfl rfl rfl ?_
              refine jr_bipush (nI 8) 28 dX9_taken_26 rfl rfl ?_
              refine jr_icmp_ge 67 31 dX9_taken_28 rfl rfl (fun q28 => ?_) (fun z => absurd (nI_le (a := 8) (by omega) (by omega)) z)
              refine jr_iload_n 1 68 dX9_taken_67 rfl rfl rfl ?_
              refine jr_bipush (nI 8) 70 dX9_taken_68 rfl rfl ?_
              refine jr_isub 71 dX9_taken_70 rfl ?_
              rw [e8]
              refine jr_istore_n 3 (L' := [_, _, _, _]) 72 dX9_taken_71 rfl rfl (by decide) rfl ?_
              refine jr_aload_n 0 73 dX9_taken_72 rfl rfl rfl ?_
              refine gf_X9_44 76 dX9_taken_73 rfl rfl rfl rfl ?_
              refine jr_iload_n 3 77 dX9_taken_76 rfl rfl rfl ?_
              refine cs_X9_146 80 dX9_taken_77 rfl rfl rfl (Nat.le_of_ble_eq_true rfl) (wp_hasT_15 hnf h5 hf ?_)
              refine jr_if_ne 86 83 dX9_taken_80 rfl rfl (fun q80 => ?_) (fun q => absurd q (by decide))
              refine jr_aload_n 0 87 dX9_taken_86 rfl rfl rfl ?_
              refine gf_X9_44 90 dX9_taken_87 rfl rfl rfl rfl ?_
              refine gf_X9_161 93 dX9_taken_90 rfl rfl rfl rfl ?_
              refine jr_iload_n 3 94 dX9_taken_93 rfl rfl rfl ?_
              refine jr_iald rfl rfl (by omega) 95 dX9_taken_94 rfl ?_
              refine jr_topi (y := nI (kd f)) ekc ?_
              refine jr_iload_n 2 96 dX9_taken_95 rfl rfl rfl ?_
              refine cs_X9_330 99 dX9_taken_96 rfl rfl (Nat.le_of_ble_eq_true rfl) (wp_isAc hk6 e1 ?_)
              refine jr_if_eq 106 102 dX9_taken_99 rfl rfl (fun q => absurd q (by decide)) (fun q99 => ?_)
              refine jr_iload_n 3 103 dX9_taken_102 rfl rfl rfl ?_
              refine jr_goto 108 dX9_taken_103 rfl ?_
              refine jr_ireturn dX9_taken_108 rfl rfl ?_
              refine jr_enter (L := [some (.ref 46), some (.int (nI (f + 8))), some (.int (nI o))]) (by decide) (Nat.le_of_ble_eq_true rfl) rfl ?_
              refine jr_iload_n 2 1 dX10_taken_0 rfl rfl rfl ?_
              refine jr_iconst (nI 0) 2 dX10_taken_1 rfl rfl ?_
              refine jr_bipush (nI 6) 4 dX10_taken_2 rfl rfl ?_
              refine cs_X10_108 7 dX10_taken_4 rfl rfl (Nat.le_of_ble_eq_true rfl) (wp_inT ho (by decide) rfl ?_)
              refine jr_if_ne 13 10 dX10_taken_7 rfl rfl (fun q7 => ?_) (fun q => absurd q (by decide))
              refine jr_iload_n 1 14 dX10_taken_13 rfl rfl rfl ?_
              refine jr_iconst (nI 0) 15 dX10_taken_14 rfl rfl ?_
              refine jr_bipush (nI 12) 17 dX10_taken_15 rfl rfl ?_
              refine cs_X10_108 20 dX10_taken_17 rfl rfl (Nat.le_of_ble_eq_true rfl) (wp_inT (m := 12) (by omega) (by decide) rfl ?_)
              refine jr_if_ne 26 23 dX10_taken_20 rfl rfl (fun q20 => ?_) (fun q => absurd q (by decide))
              refine jr_iload_n 1 27 dX10_taken_26 rfl rfl rfl ?_
              refine jr_bipush (nI 8) 29 dX10_taken_27 rfl rfl ?_
              refine jr_icmp_ge 64 32 dX10_taken_29 rfl rfl (fun q29 => ?_) (fun z => absurd (nI_le (a := 8) (by omega) (by omega)) z)
              refine jr_iload_n 1 65 dX10_taken_64 rfl rfl rfl ?_
              refine jr_bipush (nI 8) 67 dX10_taken_65 rfl rfl ?_
              refine jr_isub 68 dX10_taken_67 rfl ?_
              rw [e8]
              refine jr_aload_n 0 69 dX10_taken_68 rfl rfl rfl ?_
              refine gf_X10_105 72 dX10_taken_69 rfl rfl rfl rfl ?_
              rw [rnf]
              refine jr_icmp_lt 80 75 dX10_taken_72 rfl rfl (fun q72 => ?_) (fun z => absurd (nI_lt hf (by omega)) z)
              refine jr_iload_n 2 81 dX10_taken_80 rfl rfl rfl ?_
              refine jr_bipush (nI 6) 83 dX10_taken_81 rfl rfl ?_
              refine jr_icmp_ge 109 86 dX10_taken_83 rfl rfl (fun z => absurd z (nI_ge (b := 6) (by omega) (by omega))) (fun q83 => ?_)
              refine jr_aload_n 0 87 dX10_taken_86 rfl rfl rfl ?_
              refine gf_X10_13 90 dX10_taken_87 rfl rfl rfl rfl ?_
              refine jr_iload_n 1 91 dX10_taken_90 rfl rfl rfl ?_
              refine jr_bipush (nI 8) 93 dX10_taken_91 rfl rfl ?_
              refine jr_isub 94 dX10_taken_93 rfl ?_
              rw [e8]
              refine jr_iald rfl rfl (by omega) 95 dX10_taken_94 rfl ?_
              refine jr_topi (y := nI (kd f)) ek ?_
              refine jr_iload_n 2 96 dX10_taken_95 rfl rfl rfl ?_
              refine cs_X10_354 99 dX10_taken_96 rfl rfl (Nat.le_of_ble_eq_true rfl) (wp_isUnder hk6 (by omega) ?_)
              rw [e1]
              refine jr_if_eq 109 102 dX10_taken_99 rfl rfl (fun q => absurd q (by decide)) (fun q99 => ?_)
              refine jr_iload_n 1 103 dX10_taken_102 rfl rfl rfl ?_
              refine jr_bipush (nI 8) 105 dX10_taken_103 rfl rfl ?_
              refine jr_isub 106 dX10_taken_105 rfl ?_
              rw [e8]
              refine jr_goto 111 dX10_taken_106 rfl ?_
              refine jr_ireturn dX10_taken_111 rfl rfl ?_
              exact ⟨rfl, IV_mov (iv_same_x (jr_eqx_rf [] _) (by decide)) h⟩
            · refine jr_enter (L := [some (.ref 0), some (.int (nI (f + 8))), some (.int (nI o)), none]) (by decide) (Nat.le_of_ble_eq_true rfl) rfl ?_
              refine jr_iload_n 2 1 dX9_taken_0 rfl rfl rfl ?_
              refine jr_bipush (nI 6) 3 dX9_taken_1 rfl rfl ?_
              refine cs_X9_104 6 dX9_taken_3 rfl rfl (Nat.le_of_ble_eq_true rfl) (wp_wiT ho (by decide) rfl ?_)
              refine jr_if_ne 12 9 dX9_taken_6 rfl rfl (fun q6 => ?_) (fun q => absurd q (by decide))
              refine jr_iload_n 1 13 dX9_taken_12 rfl rfl rfl ?_
              refine jr_if_lt 22 16 dX9_taken_13 rfl rfl (fun z => absurd z (nI_pos (by omega))) (fun q13 => ?_)
              refine jr_iload_n 1 17 dX9_taken_16 rfl rfl rfl ?_
              refine jr_bipush (nI 13) 19 dX9_taken_17 rfl rfl ?_
              refine jr_icmp_lt 25 22 dX9_taken_19 rfl rfl (fun q19 => ?_) (fun z => absurd (nI_lt (b := 13) hi (by omega)) z)
              refine jr_iload_n 1 26 dX9_taken_25 rfl rfl rfl ?_
              refine jr_bipush (nI 8) 28 dX9_taken_26 rfl rfl ?_
              refine jr_icmp_ge 67 31 dX9_taken_28 rfl rfl (fun q28 => ?_) (fun z => absurd (nI_le (a := 8) (by omega) (by omega)) z)
              refine jr_iload_n 1 68 dX9_taken_67 rfl rfl rfl ?_
              refine jr_bipush (nI 8) 70 dX9_taken_68 rfl rfl ?_
              refine jr_isub 71 dX9_taken_70 rfl ?_
              rw [e8]
              refine jr_istore_n 3 (L' := [_, _, _, _]) 72 dX9_taken_71 rfl rfl (by decide) rfl ?_
              refine jr_aload_n 0 73 dX9_taken_72 rfl rfl rfl ?_
              refine gf_X9_44 76 dX9_taken_73 rfl rfl rfl rfl ?_
              refine jr_iload_n 3 77 dX9_taken_76 rfl rfl rfl ?_
              refine cs_X9_146 80 dX9_taken_77 rfl rfl rfl (Nat.le_of_ble_eq_true rfl) (wp_hasT_15 hnf h5 hf ?_)
              refine jr_if_ne 86 83 dX9_taken_80 rfl rfl (fun q80 => ?_) (fun q => absurd q (by decide))
              refine jr_aload_n 0 87 dX9_taken_86 rfl rfl rfl ?_
              refine gf_X9_44 90 dX9_taken_87 rfl rfl rfl rfl ?_
              refine gf_X9_161 93 dX9_taken_90 rfl rfl rfl rfl ?_
              refine jr_iload_n 3 94 dX9_taken_93 rfl rfl rfl ?_
              refine jr_iald rfl rfl (by omega) 95 dX9_taken_94 rfl ?_
              refine jr_topi (y := nI (kd f)) ekc ?_
              refine jr_iload_n 2 96 dX9_taken_95 rfl rfl rfl ?_
              refine cs_X9_330 99 dX9_taken_96 rfl rfl (Nat.le_of_ble_eq_true rfl) (wp_isAc hk6 e1 ?_)
              refine jr_if_eq 106 102 dX9_taken_99 rfl rfl (fun q99 => ?_) (fun q => absurd (by decide) q)
              refine jr_bipush ((-13)) 108 dX9_taken_106 rfl rfl ?_
              refine jr_ireturn dX9_taken_108 rfl rfl ?_
              refine jr_enter (L := [some (.ref 46), some (.int (nI (f + 8))), some (.int (nI o))]) (by decide) (Nat.le_of_ble_eq_true rfl) rfl ?_
              refine jr_iload_n 2 1 dX10_taken_0 rfl rfl rfl ?_
              refine jr_iconst (nI 0) 2 dX10_taken_1 rfl rfl ?_
              refine jr_bipush (nI 6) 4 dX10_taken_2 rfl rfl ?_
              refine cs_X10_108 7 dX10_taken_4 rfl rfl (Nat.le_of_ble_eq_true rfl) (wp_inT ho (by decide) rfl ?_)
              refine jr_if_ne 13 10 dX10_taken_7 rfl rfl (fun q7 => ?_) (fun q => absurd q (by decide))
              refine jr_iload_n 1 14 dX10_taken_13 rfl rfl rfl ?_
              refine jr_iconst (nI 0) 15 dX10_taken_14 rfl rfl ?_
              refine jr_bipush (nI 12) 17 dX10_taken_15 rfl rfl ?_
              refine cs_X10_108 20 dX10_taken_17 rfl rfl (Nat.le_of_ble_eq_true rfl) (wp_inT (m := 12) (by omega) (by decide) rfl ?_)
              refine jr_if_ne 26 23 dX10_taken_20 rfl rfl (fun q20 => ?_) (fun q => absurd q (by decide))
              refine jr_iload_n 1 27 dX10_taken_26 rfl rfl rfl ?_
              refine jr_bipush (nI 8) 29 dX10_taken_27 rfl rfl ?_
              refine jr_icmp_ge 64 32 dX10_taken_29 rfl rfl (fun q29 => ?_) (fun z => absurd (nI_le (a := 8) (by omega) (by omega)) z)
              refine jr_iload_n 1 65 dX10_taken_64 rfl rfl rfl ?_
              refine jr_bipush (nI 8) 67 dX10_taken_65 rfl rfl ?_
              refine jr_isub 68 dX10_taken_67 rfl ?_
              rw [e8]
              refine jr_aload_n 0 69 dX10_taken_68 rfl rfl rfl ?_
              refine gf_X10_105 72 dX10_taken_69 rfl rfl rfl rfl ?_
              rw [rnf]
              refine jr_icmp_lt 80 75 dX10_taken_72 rfl rfl (fun q72 => ?_) (fun z => absurd (nI_lt hf (by omega)) z)
              refine jr_iload_n 2 81 dX10_taken_80 rfl rfl rfl ?_
              refine jr_bipush (nI 6) 83 dX10_taken_81 rfl rfl ?_
              refine jr_icmp_ge 109 86 dX10_taken_83 rfl rfl (fun z => absurd z (nI_ge (b := 6) (by omega) (by omega))) (fun q83 => ?_)
              refine jr_aload_n 0 87 dX10_taken_86 rfl rfl rfl ?_
              refine gf_X10_13 90 dX10_taken_87 rfl rfl rfl rfl ?_
              refine jr_iload_n 1 91 dX10_taken_90 rfl rfl rfl ?_
              refine jr_bipush (nI 8) 93 dX10_taken_91 rfl rfl ?_
              refine jr_isub 94 dX10_taken_93 rfl ?_
              rw [e8]
              refine jr_iald rfl rfl (by omega) 95 dX10_taken_94 rfl ?_
              refine jr_topi (y := nI (kd f)) ek ?_
              refine jr_iload_n 2 96 dX10_taken_95 rfl rfl rfl ?_
              refine cs_X10_354 99 dX10_taken_96 rfl rfl (Nat.le_of_ble_eq_true rfl) (wp_isUnder hk6 (by omega) ?_)
              rw [e1]
              refine jr_if_eq 109 102 dX10_taken_99 rfl rfl (fun q99 => ?_) (fun q => absurd (by decide) q)
              refine jr_bipush ((-13)) 111 dX10_taken_109 rfl rfl ?_
              refine jr_ireturn dX10_taken_111 rfl rfl ?_
              exact ⟨rfl, IV_mov (iv_same_x (jr_eqx_rf [] _) (by decide)) h⟩
        · refine jr_enter (L := [some (.ref 0), some (.int (nI (f + 8))), some (.int (nI o)), none]) (by decide) (Nat.le_of_ble_eq_true rfl) rfl ?_
          refine jr_iload_n 2 1 dX9_taken_0 rfl rfl rfl ?_
          refine jr_bipush (nI 6) 3 dX9_taken_1 rfl rfl ?_
          refine cs_X9_104 6 dX9_taken_3 rfl rfl (Nat.le_of_ble_eq_true rfl) (wp_wiT ho (by decide) rfl ?_)
          refine jr_if_ne 12 9 dX9_taken_6 rfl rfl (fun q6 => ?_) (fun q => absurd q (by decide))
          refine jr_iload_n 1 13 dX9_taken_12 rfl rfl rfl ?_
          refine jr_if_lt 22 16 dX9_taken_13 rfl rfl (fun z => absurd z (nI_pos (by omega))) (fun q13 => ?_)
          refine jr_iload_n 1 17 dX9_taken_16 rfl rfl rfl ?_
          refine jr_bipush (nI 13) 19 dX9_taken_17 rfl rfl ?_
          refine jr_icmp_lt 25 22 dX9_taken_19 rfl rfl (fun q19 => ?_) (fun z => absurd (nI_lt (b := 13) hi (by omega)) z)
          refine jr_iload_n 1 26 dX9_taken_25 rfl rfl rfl ?_
          refine jr_bipush (nI 8) 28 dX9_taken_26 rfl rfl ?_
          refine jr_icmp_ge 67 31 dX9_taken_28 rfl rfl (fun q28 => ?_) (fun z => absurd (nI_le (a := 8) (by omega) (by omega)) z)
          refine jr_iload_n 1 68 dX9_taken_67 rfl rfl rfl ?_
          refine jr_bipush (nI 8) 70 dX9_taken_68 rfl rfl ?_
          refine jr_isub 71 dX9_taken_70 rfl ?_
          rw [e8]
          refine jr_istore_n 3 (L' := [_, _, _, _]) 72 dX9_taken_71 rfl rfl (by decide) rfl ?_
          refine jr_aload_n 0 73 dX9_taken_72 rfl rfl rfl ?_
          refine gf_X9_44 76 dX9_taken_73 rfl rfl rfl rfl ?_
          refine jr_iload_n 3 77 dX9_taken_76 rfl rfl rfl ?_
          refine cs_X9_146 80 dX9_taken_77 rfl rfl rfl (Nat.le_of_ble_eq_true rfl) (wp_has_15 hnf h5 (fun j hj e => absurd (nI_inj (by omega) (by omega) e) (by omega)) (fun _ => ?_))
          refine jr_if_ne 86 83 dX9_taken_80 rfl rfl (fun q => absurd (by decide) q) (fun q80 => ?_)
          refine jr_bipush ((-11)) 85 dX9_taken_83 rfl rfl ?_
          refine jr_ireturn dX9_taken_85 rfl rfl ?_
          refine jr_enter (L := [some (.ref 46), some (.int (nI (f + 8))), some (.int (nI o))]) (by decide) (Nat.le_of_ble_eq_true rfl) rfl ?_
          refine jr_iload_n 2 1 dX10_taken_0 rfl rfl rfl ?_
          refine jr_iconst (nI 0) 2 dX10_taken_1 rfl rfl ?_
          refine jr_bipush (nI 6) 4 dX10_taken_2 rfl rfl ?_
          refine cs_X10_108 7 dX10_taken_4 rfl rfl (Nat.le_of_ble_eq_true rfl) (wp_inT ho (by decide) rfl ?_)
          refine jr_if_ne 13 10 dX10_taken_7 rfl rfl (fun q7 => ?_) (fun q => absurd q (by decide))
          refine jr_iload_n 1 14 dX10_taken_13 rfl rfl rfl ?_
          refine jr_iconst (nI 0) 15 dX10_taken_14 rfl rfl ?_
          refine jr_bipush (nI 12) 17 dX10_taken_15 rfl rfl ?_
          refine cs_X10_108 20 dX10_taken_17 rfl rfl (Nat.le_of_ble_eq_true rfl) (wp_inT (m := 12) (by omega) (by decide) rfl ?_)
          refine jr_if_ne 26 23 dX10_taken_20 rfl rfl (fun q20 => ?_) (fun q => absurd q (by decide))
          refine jr_iload_n 1 27 dX10_taken_26 rfl rfl rfl ?_
          refine jr_bipush (nI 8) 29 dX10_taken_27 rfl rfl ?_
          refine jr_icmp_ge 64 32 dX10_taken_29 rfl rfl (fun q29 => ?_) (fun z => absurd (nI_le (a := 8) (by omega) (by omega)) z)
          refine jr_iload_n 1 65 dX10_taken_64 rfl rfl rfl ?_
          refine jr_bipush (nI 8) 67 dX10_taken_65 rfl rfl ?_
          refine jr_isub 68 dX10_taken_67 rfl ?_
          rw [e8]
          refine jr_aload_n 0 69 dX10_taken_68 rfl rfl rfl ?_
          refine gf_X10_105 72 dX10_taken_69 rfl rfl rfl rfl ?_
          rw [rnf]
          refine jr_icmp_lt 80 75 dX10_taken_72 rfl rfl (fun z => absurd z (nI_nlt (by omega) (by omega))) (fun q72 => ?_)
          refine jr_bipush ((-11)) 77 dX10_taken_75 rfl rfl ?_
          refine jr_goto 111 dX10_taken_77 rfl ?_
          refine jr_ireturn dX10_taken_111 rfl rfl ?_
          exact ⟨rfl, IV_mov (iv_same_x (jr_eqx_rf [] _) (by decide)) h⟩
theorem iv_sit {T : Nat → Nat → List Nat} {n nf nc : Nat} {kd se : Nat → Nat} {lw tp f s : Nat} {σ : jr_Sg} (h : iv T n nf nc kd se lw tp σ) (hf : f < nf) (hs : s < 8) : iv T n nf nc kd (mv_se σ nf f s) lw tp (jr_upc (jr_upc σ 19 (pu_move (σ 19) nf f (nI s))) 51 (pu_move (σ 51) nf f (nI s))) := by
  obtain ⟨a1, a2, ⟨b1, b2, b3, b4, b5, b6, b7, b8⟩, a4, a5, a6, a7, a8⟩ := h
  have m := fun x (hx : x < nf) => mv_se_eq b2 hf hs hx
  have mc : ∀ x, x < nf → pu_move (σ 19) nf f (nI s) x = nI (mv_se σ nf f s x) := fun x hx => by
    rw [mv_congr hf (se' := σ 51) (fun y hy => ((b1.2.2.2.2 y hy).2.2.2).trans (b2.2.2.2.2 y hy).2.2.2.1.symm) x hx]
    exact (m x hx).2
  exact ⟨a1, a2, ⟨⟨b1.1, b1.2.1, b1.2.2.1, b1.2.2.2.1, fun x hx => ⟨(b1.2.2.2.2 x hx).1, (m x hx).1, (b1.2.2.2.2 x hx).2.2.1, mc x hx⟩⟩, ⟨b2.1, b2.2.1, b2.2.2.1, b2.2.2.2.1, fun x hx => ⟨(b2.2.2.2.2 x hx).1, (m x hx).1, (b2.2.2.2.2 x hx).2.2.1, (m x hx).2, (b2.2.2.2.2 x hx).2.2.2.2⟩⟩, b3, b4, b5, b6, b7, b8⟩, a4, a5, a6, a7, a8⟩
theorem pp_sit {G : jr_G} {d : Nat} {σ : jr_Sg} {f c : Int32} (h : IV σ) : jr_pair G (d + 20) mi_X9_sit mi_X10_sit [.int f, .int c] σ := by
  obtain ⟨T, n, nf, nc, kd, se, lw, tp, h⟩ := h
  have hh := h
  obtain ⟨hTC, hTR, ⟨hsc, hsr, hl1, hl2, hlw, hfc, hli, hca⟩, htp, himg, hsh, hrest, hwd⟩ := hh
  have hnf := hsc.1
  have h5 := hsc.2.1
  have hnc := hsc.2.2.1
  have h8 := hsc.2.2.2.1
  have rnf := hsr.1
  have rnc := hsr.2.2.1
  have hlm := hrest.2.2.2.1
  unfold jr_pair
  rcases jr_fc f h5 with hf | ⟨j, hj, rfl⟩
  · refine jr_enter (L := [some (.ref 0), some (.int f), some (.int c), none]) (by decide) (Nat.le_of_ble_eq_true rfl) rfl ?_
    refine jr_aload_n 0 1 dX9_sit_0 rfl rfl rfl ?_
    refine gf_X9_44 4 dX9_sit_1 rfl rfl rfl rfl ?_
    refine jr_iload_n 1 5 dX9_sit_4 rfl rfl rfl ?_
    refine cs_X9_146 8 dX9_sit_5 rfl rfl rfl (Nat.le_of_ble_eq_true rfl) (wp_has_15 hnf h5 (fun j hj e => absurd hf (by rw [e]; exact jr_fcn hj (by omega))) (fun _ => ?_))
    refine jr_if_ne 14 11 dX9_sit_8 rfl rfl (fun q => absurd (by decide) q) (fun q8 => ?_)
    refine jr_bipush ((-5)) 13 dX9_sit_11 rfl rfl ?_
    refine jr_ireturn dX9_sit_13 rfl rfl ?_
    refine jr_enter (L := [some (.ref 46), some (.int f), some (.int c)]) (by decide) (Nat.le_of_ble_eq_true rfl) rfl ?_
    refine jr_aload_n 0 1 dX10_sit_0 rfl rfl rfl ?_
    refine jr_iload_n 1 2 dX10_sit_1 rfl rfl rfl ?_
    refine cs_X10_204 5 dX10_sit_2 rfl rfl rfl (Nat.le_of_ble_eq_true rfl) (wp_isFace rnf h5 (fun j hj e => absurd hf (by rw [e]; exact jr_fcn hj (by omega))) (fun _ => ?_))
    refine jr_if_ne 11 8 dX10_sit_5 rfl rfl (fun q => absurd (by decide) q) (fun q5 => ?_)
    refine jr_bipush ((-5)) 10 dX10_sit_8 rfl rfl ?_
    refine jr_ireturn dX10_sit_10 rfl rfl ?_
    exact ⟨rfl, IV_mov (iv_same_x (jr_eqx_rf [] _) (by decide)) h⟩
  · rcases jr_rg c (m := 7) (by decide) with qs | ⟨s, hs, rfl⟩
    · refine jr_enter (L := [some (.ref 0), some (.int (nI j)), some (.int c), none]) (by decide) (Nat.le_of_ble_eq_true rfl) rfl ?_
      refine jr_aload_n 0 1 dX9_sit_0 rfl rfl rfl ?_
      refine gf_X9_44 4 dX9_sit_1 rfl rfl rfl rfl ?_
      refine jr_iload_n 1 5 dX9_sit_4 rfl rfl rfl ?_
      refine cs_X9_146 8 dX9_sit_5 rfl rfl rfl (Nat.le_of_ble_eq_true rfl) (wp_hasT_15 hnf h5 hj ?_)
      refine jr_if_ne 14 11 dX9_sit_8 rfl rfl (fun q8 => ?_) (fun q => absurd q (by decide))
      refine jr_iload_n 2 15 dX9_sit_14 rfl rfl rfl ?_
      refine cs_X9_135 18 dX9_sit_15 rfl rfl (Nat.le_of_ble_eq_true rfl) (wp_isSeat (fun a b => absurd ⟨a, b⟩ qs) (fun _ => ?_))
      refine jr_if_ne 24 21 dX9_sit_18 rfl rfl (fun q => absurd (by decide) q) (fun q18 => ?_)
      refine jr_bipush ((-7)) 23 dX9_sit_21 rfl rfl ?_
      refine jr_ireturn dX9_sit_23 rfl rfl ?_
      refine jr_enter (L := [some (.ref 46), some (.int (nI j)), some (.int c)]) (by decide) (Nat.le_of_ble_eq_true rfl) rfl ?_
      refine jr_aload_n 0 1 dX10_sit_0 rfl rfl rfl ?_
      refine jr_iload_n 1 2 dX10_sit_1 rfl rfl rfl ?_
      refine cs_X10_204 5 dX10_sit_2 rfl rfl rfl (Nat.le_of_ble_eq_true rfl) (wp_isFace rnf h5 (fun _ _ _ => ?_) (fun q => absurd q (jr_fcn hj (by omega))))
      refine jr_if_ne 11 8 dX10_sit_5 rfl rfl (fun q5 => ?_) (fun q => absurd q (by decide))
      refine jr_iload_n 2 12 dX10_sit_11 rfl rfl rfl ?_
      refine cs_X10_198 15 dX10_sit_12 rfl rfl (Nat.le_of_ble_eq_true rfl) (wp_risSeat (fun a b => absurd ⟨a, b⟩ qs) (fun _ => ?_))
      refine jr_if_eq 27 18 dX10_sit_15 rfl rfl (fun q15 => ?_) (fun q => absurd (by decide) q)
      refine jr_bipush ((-7)) 29 dX10_sit_27 rfl rfl ?_
      refine jr_ireturn dX10_sit_29 rfl rfl ?_
      exact ⟨rfl, IV_mov (iv_same_x (jr_eqx_rf [] _) (by decide)) h⟩
    · refine jr_enter (L := [some (.ref 0), some (.int (nI j)), some (.int (nI s)), none]) (by decide) (Nat.le_of_ble_eq_true rfl) rfl ?_
      refine jr_aload_n 0 1 dX9_sit_0 rfl rfl rfl ?_
      refine gf_X9_44 4 dX9_sit_1 rfl rfl rfl rfl ?_
      refine jr_iload_n 1 5 dX9_sit_4 rfl rfl rfl ?_
      refine cs_X9_146 8 dX9_sit_5 rfl rfl rfl (Nat.le_of_ble_eq_true rfl) (wp_hasT_15 hnf h5 hj ?_)
      refine jr_if_ne 14 11 dX9_sit_8 rfl rfl (fun q8 => ?_) (fun q => absurd q (by decide))
      refine jr_iload_n 2 15 dX9_sit_14 rfl rfl rfl ?_
      refine cs_X9_135 18 dX9_sit_15 rfl rfl (Nat.le_of_ble_eq_true rfl) (wp_isSeat (fun _ _ => ?_) (fun q => absurd ⟨nI_pos' (by omega), nI_le (b := 7) hs (by decide)⟩ q))
      refine jr_if_ne 24 21 dX9_sit_18 rfl rfl (fun q18 => ?_) (fun q => absurd q (by decide))
      refine jr_aload_n 0 25 dX9_sit_24 rfl rfl rfl ?_
      refine gf_X9_44 28 dX9_sit_25 rfl rfl rfl rfl ?_
      refine gf_X9_152 31 dX9_sit_28 rfl rfl rfl rfl ?_
      refine jr_iload_n 1 32 dX9_sit_31 rfl rfl rfl ?_
      refine jr_iald rfl rfl (by omega) 33 dX9_sit_32 rfl ?_
      refine jr_istore_n 3 (L' := [_, _, _, _]) 34 dX9_sit_33 rfl rfl (by decide) rfl ?_
      refine jr_aload_n 0 35 dX9_sit_34 rfl rfl rfl ?_
      refine gf_X9_44 38 dX9_sit_35 rfl rfl rfl rfl ?_
      refine jr_iload_n 1 39 dX9_sit_38 rfl rfl rfl ?_
      refine jr_iload_n 2 40 dX9_sit_39 rfl rfl rfl ?_
      refine cs_X9_155 43 dX9_sit_40 rfl rfl rfl (Nat.le_of_ble_eq_true rfl) (wp_move_15 hnf h5 hj (by omega) ?_)
      refine jr_iload_n 3 44 dX9_sit_43 rfl rfl rfl ?_
      refine jr_ireturn dX9_sit_44 rfl rfl ?_
      refine jr_enter (L := [some (.ref 46), some (.int (nI j)), some (.int (nI s))]) (by decide) (Nat.le_of_ble_eq_true rfl) rfl ?_
      refine jr_aload_n 0 1 dX10_sit_0 rfl rfl rfl ?_
      refine jr_iload_n 1 2 dX10_sit_1 rfl rfl rfl ?_
      refine cs_X10_204 5 dX10_sit_2 rfl rfl rfl (Nat.le_of_ble_eq_true rfl) (wp_isFace rnf h5 (fun _ _ _ => ?_) (fun q => absurd q (jr_fcn hj (by omega))))
      refine jr_if_ne 11 8 dX10_sit_5 rfl rfl (fun q5 => ?_) (fun q => absurd q (by decide))
      refine jr_iload_n 2 12 dX10_sit_11 rfl rfl rfl ?_
      refine cs_X10_198 15 dX10_sit_12 rfl rfl (Nat.le_of_ble_eq_true rfl) (wp_risSeat (fun _ _ => ?_) (fun q => absurd ⟨nI_pos' (by omega), nI_le (b := 7) hs (by decide)⟩ q))
      refine jr_if_eq 27 18 dX10_sit_15 rfl rfl (fun q => absurd q (by decide)) (fun q15 => ?_)
      refine jr_aload_n 0 19 dX10_sit_18 rfl rfl rfl ?_
      refine jr_iload_n 1 20 dX10_sit_19 rfl rfl rfl ?_
      refine jr_iload_n 2 21 dX10_sit_20 rfl rfl rfl ?_
      refine cs_X10_207 24 dX10_sit_21 rfl rfl rfl (Nat.le_of_ble_eq_true rfl) (wp_sits (nf := nf) rnf h5 hj ?_)
      refine jr_goto 29 dX10_sit_24 rfl ?_
      refine jr_ireturn dX10_sit_29 rfl rfl ?_
      exact ⟨congrArg Value.int ((hsr.2.2.2.2 j hj).2.2.2.1.trans (hsc.2.2.2.2 j hj).2.2.2.symm), T, n, nf, nc, kd, mv_se σ nf j s, lw, tp, iv_sit h hj (by omega)⟩
theorem wp_sAdd {G : jr_G} {d : Nat} {σ : jr_Sg} {k : Value → jr_Sg → Prop} {nc : Nat} {a b c : Int32} (hnc : σ 15 9 = nI nc) (h8 : nc < 8) (h : k (.int (nI nc)) (jr_up (jr_up (jr_up (jr_up σ 21 nc a) 22 nc b) 23 nc c) 15 9 (nI (nc + 1)))) : jr_M G d mi_X3_addCause [.ref 15, .int a, .int b, .int c] σ (jr_k k) := by
  refine jr_enter (L := [some (.ref 15), some (.int a), some (.int b), some (.int c)]) (by decide) (Nat.le_of_ble_eq_true rfl) rfl ?_
  refine jr_aload_n 0 1 dX3_addCause_0 rfl rfl rfl ?_
  refine gf_X3_40 4 dX3_addCause_1 rfl rfl rfl rfl ?_
  refine jr_topi (y := nI nc) hnc ?_
  refine jr_if_lt 16 7 dX3_addCause_4 rfl rfl (fun z => absurd z (nI_pos (by omega))) (fun q4 => ?_)
  refine jr_aload_n 0 8 dX3_addCause_7 rfl rfl rfl ?_
  refine gf_X3_40 11 dX3_addCause_8 rfl rfl rfl rfl ?_
  refine jr_topi (y := nI nc) hnc ?_
  refine jr_bipush (nI 8) 13 dX3_addCause_11 rfl rfl ?_
  refine jr_icmp_lt 19 16 dX3_addCause_13 rfl rfl (fun q13 => ?_) (fun z => absurd (nI_lt (b := 8) h8 (by decide)) z)
  refine jr_aload_n 0 20 dX3_addCause_19 rfl rfl rfl ?_
  refine gf_X3_27 23 dX3_addCause_20 rfl rfl rfl rfl ?_
  refine jr_aload_n 0 24 dX3_addCause_23 rfl rfl rfl ?_
  refine gf_X3_40 27 dX3_addCause_24 rfl rfl rfl rfl ?_
  refine jr_topi (y := nI nc) hnc ?_
  refine jr_iload_n 1 28 dX3_addCause_27 rfl rfl rfl ?_
  refine jr_iast rfl rfl (by omega) 29 dX3_addCause_28 rfl ?_
  refine jr_aload_n 0 30 dX3_addCause_29 rfl rfl rfl ?_
  refine gf_X3_30 33 dX3_addCause_30 rfl rfl rfl rfl ?_
  refine jr_aload_n 0 34 dX3_addCause_33 rfl rfl rfl ?_
  refine gf_X3_40 37 dX3_addCause_34 rfl rfl rfl rfl ?_
  refine jr_topi (y := nI nc) hnc ?_
  refine jr_iload_n 2 38 dX3_addCause_37 rfl rfl rfl ?_
  refine jr_iast rfl rfl (by omega) 39 dX3_addCause_38 rfl ?_
  refine jr_aload_n 0 40 dX3_addCause_39 rfl rfl rfl ?_
  refine gf_X3_33 43 dX3_addCause_40 rfl rfl rfl rfl ?_
  refine jr_aload_n 0 44 dX3_addCause_43 rfl rfl rfl ?_
  refine gf_X3_40 47 dX3_addCause_44 rfl rfl rfl rfl ?_
  refine jr_topi (y := nI nc) hnc ?_
  refine jr_iload_n 3 48 dX3_addCause_47 rfl rfl rfl ?_
  refine jr_iast rfl rfl (by omega) 49 dX3_addCause_48 rfl ?_
  refine jr_aload_n 0 50 dX3_addCause_49 rfl rfl rfl ?_
  refine jr_dup 51 dX3_addCause_50 rfl rfl ?_
  refine gf_X3_40 54 dX3_addCause_51 rfl rfl rfl rfl ?_
  refine jr_topi (y := nI nc) hnc ?_
  refine jr_iconst (nI 1) 55 dX3_addCause_54 rfl rfl ?_
  refine jr_iadd 56 dX3_addCause_55 rfl ?_
  rw [nI_add]
  refine pf_X3_40 59 dX3_addCause_56 rfl rfl rfl rfl ?_
  refine jr_aload_n 0 60 dX3_addCause_59 rfl rfl rfl ?_
  refine gf_X3_40 63 dX3_addCause_60 rfl rfl rfl rfl ?_
  refine jr_topi (y := nI (nc + 1)) rfl ?_
  refine jr_iconst (nI 1) 64 dX3_addCause_63 rfl rfl ?_
  refine jr_isub 65 dX3_addCause_64 rfl ?_
  rw [show nI (nc + 1) - nI 1 = nI nc by rw [pk_sub (by omega)]; rfl]
  refine jr_ireturn dX3_addCause_65 rfl rfl ?_
  exact h
theorem iv_cause {T : Nat → Nat → List Nat} {n nf nc : Nat} {kd se : Nat → Nat} {lw tp : Nat} {σ : jr_Sg} {a b c : Int32} (h : iv T n nf nc kd se lw tp σ) (h8 : nc < 8) : iv T n nf (nc + 1) kd se lw tp (jr_up (jr_up (jr_up (jr_up (jr_up (jr_up (jr_up (jr_up σ 21 nc a) 22 nc b) 23 nc c) 15 9 (nI (nc + 1))) 52 (3 * nc) a) 52 (3 * nc + 1) b) 52 (3 * nc + 2) c) 46 6 (nI (nc + 1))) := by
  obtain ⟨a1, a2, ⟨b1, b2, b3, b4, b5, b6, b7, b8⟩, a4, a5, a6, a7, a8⟩ := h
  refine ⟨a1, a2, ⟨⟨b1.1, b1.2.1, rfl, h8, b1.2.2.2.2⟩, ⟨b2.1, b2.2.1, rfl, h8, b2.2.2.2.2⟩, b3, b4, b5, b6, b7, fun k hk => ?_⟩, a4, a5, a6, a7, a8⟩
  show upd (σ 21) nc a k = upd (upd (upd (σ 52) (3 * nc) a) (3 * nc + 1) b) (3 * nc + 2) c (3 * k) ∧ upd (σ 22) nc b k = upd (upd (upd (σ 52) (3 * nc) a) (3 * nc + 1) b) (3 * nc + 2) c (3 * k + 1) ∧ upd (σ 23) nc c k = upd (upd (upd (σ 52) (3 * nc) a) (3 * nc + 1) b) (3 * nc + 2) c (3 * k + 2)
  by_cases e : k = nc
  · subst e
    refine ⟨?_, ?_, ?_⟩
    · rw [pk_us, pk_un (by omega), pk_un (by omega), pk_us]
    · rw [pk_us, pk_un (by omega), pk_us]
    · rw [pk_us, pk_us]
  · refine ⟨?_, ?_, ?_⟩
    · rw [pk_un e, pk_un (by omega), pk_un (by omega), pk_un (by omega)]; exact (b8 k (by omega)).1
    · rw [pk_un e, pk_un (by omega), pk_un (by omega), pk_un (by omega)]; exact (b8 k (by omega)).2.1
    · rw [pk_un e, pk_un (by omega), pk_un (by omega), pk_un (by omega)]; exact (b8 k (by omega)).2.2
theorem pp_cause {G : jr_G} {d : Nat} {σ : jr_Sg} {a f c : Int32} (h : IV σ) : jr_pair G (d + 20) mi_X9_cause mi_X10_cause [.int a, .int f, .int c] σ := by
  obtain ⟨T, n, nf, nc, kd, se, lw, tp, h⟩ := h
  have hh := h
  obtain ⟨hTC, hTR, ⟨hsc, hsr, hl1, hl2, hlw, hfc, hli, hca⟩, htp, himg, hsh, hrest, hwd⟩ := hh
  have hnf := hsc.1
  have h5 := hsc.2.1
  have hnc := hsc.2.2.1
  have h8 := hsc.2.2.2.1
  have rnf := hsr.1
  have rnc := hsr.2.2.1
  have hlm := hrest.2.2.2.1
  unfold jr_pair
  rcases jr_fc f h5 with hf | ⟨j, hj, rfl⟩
  · refine jr_enter (L := [some (.ref 0), some (.int a), some (.int f), some (.int c)]) (by decide) (Nat.le_of_ble_eq_true rfl) rfl ?_
    refine jr_aload_n 0 1 dX9_cause_0 rfl rfl rfl ?_
    refine gf_X9_44 4 dX9_cause_1 rfl rfl rfl rfl ?_
    refine jr_iload_n 2 5 dX9_cause_4 rfl rfl rfl ?_
    refine cs_X9_146 8 dX9_cause_5 rfl rfl rfl (Nat.le_of_ble_eq_true rfl) (wp_has_15 hnf h5 (fun j hj e => absurd hf (by rw [e]; exact jr_fcn hj (by omega))) (fun _ => ?_))
    refine jr_if_ne 14 11 dX9_cause_8 rfl rfl (fun q => absurd (by decide) q) (fun q8 => ?_)
    refine jr_bipush ((-5)) 13 dX9_cause_11 rfl rfl ?_
    refine jr_ireturn dX9_cause_13 rfl rfl ?_
    refine jr_enter (L := [some (.ref 46), some (.int a), some (.int f), some (.int c)]) (by decide) (Nat.le_of_ble_eq_true rfl) rfl ?_
    refine jr_aload_n 0 1 dX10_cause_0 rfl rfl rfl ?_
    refine jr_iload_n 2 2 dX10_cause_1 rfl rfl rfl ?_
    refine cs_X10_204 5 dX10_cause_2 rfl rfl rfl (Nat.le_of_ble_eq_true rfl) (wp_isFace rnf h5 (fun j hj e => absurd hf (by rw [e]; exact jr_fcn hj (by omega))) (fun _ => ?_))
    refine jr_if_ne 11 8 dX10_cause_5 rfl rfl (fun q => absurd (by decide) q) (fun q5 => ?_)
    refine jr_bipush ((-5)) 10 dX10_cause_8 rfl rfl ?_
    refine jr_ireturn dX10_cause_10 rfl rfl ?_
    exact ⟨rfl, IV_mov (iv_same_x (jr_eqx_rf [] _) (by decide)) h⟩
  · rcases jr_rg a (m := 39) (by decide) with qt | ⟨t, ht, rfl⟩
    · refine jr_enter (L := [some (.ref 0), some (.int a), some (.int (nI j)), some (.int c)]) (by decide) (Nat.le_of_ble_eq_true rfl) rfl ?_
      refine jr_aload_n 0 1 dX9_cause_0 rfl rfl rfl ?_
      refine gf_X9_44 4 dX9_cause_1 rfl rfl rfl rfl ?_
      refine jr_iload_n 2 5 dX9_cause_4 rfl rfl rfl ?_
      refine cs_X9_146 8 dX9_cause_5 rfl rfl rfl (Nat.le_of_ble_eq_true rfl) (wp_hasT_15 hnf h5 hj ?_)
      refine jr_if_ne 14 11 dX9_cause_8 rfl rfl (fun q8 => ?_) (fun q => absurd q (by decide))
      refine jr_iload_n 1 15 dX9_cause_14 rfl rfl rfl ?_
      refine cs_X9_173 18 dX9_cause_15 rfl rfl (Nat.le_of_ble_eq_true rfl) (wp_isSecond (fun a b => absurd ⟨a, b⟩ qt) (fun _ => ?_))
      refine jr_if_eq 31 21 dX9_cause_18 rfl rfl (fun q18 => ?_) (fun q => absurd (by decide) q)
      refine jr_bipush ((-7)) 33 dX9_cause_31 rfl rfl ?_
      refine jr_ireturn dX9_cause_33 rfl rfl ?_
      refine jr_enter (L := [some (.ref 46), some (.int a), some (.int (nI j)), some (.int c)]) (by decide) (Nat.le_of_ble_eq_true rfl) rfl ?_
      refine jr_aload_n 0 1 dX10_cause_0 rfl rfl rfl ?_
      refine jr_iload_n 2 2 dX10_cause_1 rfl rfl rfl ?_
      refine cs_X10_204 5 dX10_cause_2 rfl rfl rfl (Nat.le_of_ble_eq_true rfl) (wp_isFace rnf h5 (fun _ _ _ => ?_) (fun q => absurd q (jr_fcn hj (by omega))))
      refine jr_if_ne 11 8 dX10_cause_5 rfl rfl (fun q5 => ?_) (fun q => absurd q (by decide))
      refine jr_iload_n 1 12 dX10_cause_11 rfl rfl rfl ?_
      refine jr_iconst (0) 13 dX10_cause_12 rfl rfl ?_
      refine jr_bipush (39) 15 dX10_cause_13 rfl rfl ?_
      refine cs_X10_108 18 dX10_cause_15 rfl rfl (Nat.le_of_ble_eq_true rfl) (wp_inF qt ?_)
      refine jr_if_eq 28 21 dX10_cause_18 rfl rfl (fun q18 => ?_) (fun q => absurd (by decide) q)
      refine jr_bipush ((-7)) 30 dX10_cause_28 rfl rfl ?_
      refine jr_ireturn dX10_cause_30 rfl rfl ?_
      exact ⟨rfl, IV_mov (iv_same_x (jr_eqx_rf [] _) (by decide)) h⟩
    · rcases jr_rg c (m := 400) (by decide) with qv | ⟨v, hv, rfl⟩
      · refine jr_enter (L := [some (.ref 0), some (.int (nI t)), some (.int (nI j)), some (.int c)]) (by decide) (Nat.le_of_ble_eq_true rfl) rfl ?_
        refine jr_aload_n 0 1 dX9_cause_0 rfl rfl rfl ?_
        refine gf_X9_44 4 dX9_cause_1 rfl rfl rfl rfl ?_
        refine jr_iload_n 2 5 dX9_cause_4 rfl rfl rfl ?_
        refine cs_X9_146 8 dX9_cause_5 rfl rfl rfl (Nat.le_of_ble_eq_true rfl) (wp_hasT_15 hnf h5 hj ?_)
        refine jr_if_ne 14 11 dX9_cause_8 rfl rfl (fun q8 => ?_) (fun q => absurd q (by decide))
        refine jr_iload_n 1 15 dX9_cause_14 rfl rfl rfl ?_
        refine cs_X9_173 18 dX9_cause_15 rfl rfl (Nat.le_of_ble_eq_true rfl) (wp_isSecond (fun _ _ => ?_) (fun q => absurd ⟨nI_pos' (by omega), nI_le (b := 39) ht (by decide)⟩ q))
        refine jr_if_eq 31 21 dX9_cause_18 rfl rfl (fun q => absurd q (by decide)) (fun q18 => ?_)
        refine jr_iload_n 3 22 dX9_cause_21 rfl rfl rfl ?_
        refine jr_sipush (400) 25 dX9_cause_22 rfl rfl ?_
        refine cs_X9_104 28 dX9_cause_25 rfl rfl (Nat.le_of_ble_eq_true rfl) (wp_wiF qv ?_)
        refine jr_if_ne 34 31 dX9_cause_28 rfl rfl (fun q => absurd (by decide) q) (fun q28 => ?_)
        refine jr_bipush ((-7)) 33 dX9_cause_31 rfl rfl ?_
        refine jr_ireturn dX9_cause_33 rfl rfl ?_
        refine jr_enter (L := [some (.ref 46), some (.int (nI t)), some (.int (nI j)), some (.int c)]) (by decide) (Nat.le_of_ble_eq_true rfl) rfl ?_
        refine jr_aload_n 0 1 dX10_cause_0 rfl rfl rfl ?_
        refine jr_iload_n 2 2 dX10_cause_1 rfl rfl rfl ?_
        refine cs_X10_204 5 dX10_cause_2 rfl rfl rfl (Nat.le_of_ble_eq_true rfl) (wp_isFace rnf h5 (fun _ _ _ => ?_) (fun q => absurd q (jr_fcn hj (by omega))))
        refine jr_if_ne 11 8 dX10_cause_5 rfl rfl (fun q5 => ?_) (fun q => absurd q (by decide))
        refine jr_iload_n 1 12 dX10_cause_11 rfl rfl rfl ?_
        refine jr_iconst (0) 13 dX10_cause_12 rfl rfl ?_
        refine jr_bipush (39) 15 dX10_cause_13 rfl rfl ?_
        refine cs_X10_108 18 dX10_cause_15 rfl rfl (Nat.le_of_ble_eq_true rfl) (wp_inT ht (by decide) rfl ?_)
        refine jr_if_eq 28 21 dX10_cause_18 rfl rfl (fun q => absurd q (by decide)) (fun q18 => ?_)
        refine jr_iload_n 3 22 dX10_cause_21 rfl rfl rfl ?_
        refine cs_X10_191 25 dX10_cause_22 rfl rfl (Nat.le_of_ble_eq_true rfl) (wp_risMuch (fun a b => absurd ⟨a, b⟩ qv) (fun _ => ?_))
        refine jr_if_ne 31 28 dX10_cause_25 rfl rfl (fun q => absurd (by decide) q) (fun q25 => ?_)
        refine jr_bipush ((-7)) 30 dX10_cause_28 rfl rfl ?_
        refine jr_ireturn dX10_cause_30 rfl rfl ?_
        exact ⟨rfl, IV_mov (iv_same_x (jr_eqx_rf [] _) (by decide)) h⟩
      · by_cases e8 : nc = 8
        · refine jr_enter (L := [some (.ref 0), some (.int (nI t)), some (.int (nI j)), some (.int (nI v))]) (by decide) (Nat.le_of_ble_eq_true rfl) rfl ?_
          refine jr_aload_n 0 1 dX9_cause_0 rfl rfl rfl ?_
          refine gf_X9_44 4 dX9_cause_1 rfl rfl rfl rfl ?_
          refine jr_iload_n 2 5 dX9_cause_4 rfl rfl rfl ?_
          refine cs_X9_146 8 dX9_cause_5 rfl rfl rfl (Nat.le_of_ble_eq_true rfl) (wp_hasT_15 hnf h5 hj ?_)
          refine jr_if_ne 14 11 dX9_cause_8 rfl rfl (fun q8 => ?_) (fun q => absurd q (by decide))
          refine jr_iload_n 1 15 dX9_cause_14 rfl rfl rfl ?_
          refine cs_X9_173 18 dX9_cause_15 rfl rfl (Nat.le_of_ble_eq_true rfl) (wp_isSecond (fun _ _ => ?_) (fun q => absurd ⟨nI_pos' (by omega), nI_le (b := 39) ht (by decide)⟩ q))
          refine jr_if_eq 31 21 dX9_cause_18 rfl rfl (fun q => absurd q (by decide)) (fun q18 => ?_)
          refine jr_iload_n 3 22 dX9_cause_21 rfl rfl rfl ?_
          refine jr_sipush (nI 400) 25 dX9_cause_22 rfl rfl ?_
          refine cs_X9_104 28 dX9_cause_25 rfl rfl (Nat.le_of_ble_eq_true rfl) (wp_wiT hv (by decide) rfl ?_)
          refine jr_if_ne 34 31 dX9_cause_28 rfl rfl (fun q28 => ?_) (fun q => absurd q (by decide))
          refine jr_aload_n 0 35 dX9_cause_34 rfl rfl rfl ?_
          refine gf_X9_44 38 dX9_cause_35 rfl rfl rfl rfl ?_
          refine gf_X9_88 41 dX9_cause_38 rfl rfl rfl rfl ?_
          rw [hnc]
          refine jr_bipush (nI 8) 43 dX9_cause_41 rfl rfl ?_
          refine jr_icmp_lt 49 46 dX9_cause_43 rfl rfl (fun q => absurd q (by rw [e8]; decide)) (fun q43 => ?_)
          refine jr_bipush ((-4)) 48 dX9_cause_46 rfl rfl ?_
          refine jr_ireturn dX9_cause_48 rfl rfl ?_
          refine jr_enter (L := [some (.ref 46), some (.int (nI t)), some (.int (nI j)), some (.int (nI v))]) (by decide) (Nat.le_of_ble_eq_true rfl) rfl ?_
          refine jr_aload_n 0 1 dX10_cause_0 rfl rfl rfl ?_
          refine jr_iload_n 2 2 dX10_cause_1 rfl rfl rfl ?_
          refine cs_X10_204 5 dX10_cause_2 rfl rfl rfl (Nat.le_of_ble_eq_true rfl) (wp_isFace rnf h5 (fun _ _ _ => ?_) (fun q => absurd q (jr_fcn hj (by omega))))
          refine jr_if_ne 11 8 dX10_cause_5 rfl rfl (fun q5 => ?_) (fun q => absurd q (by decide))
          refine jr_iload_n 1 12 dX10_cause_11 rfl rfl rfl ?_
          refine jr_iconst (nI 0) 13 dX10_cause_12 rfl rfl ?_
          refine jr_bipush (nI 39) 15 dX10_cause_13 rfl rfl ?_
          refine cs_X10_108 18 dX10_cause_15 rfl rfl (Nat.le_of_ble_eq_true rfl) (wp_inT ht (by decide) rfl ?_)
          refine jr_if_eq 28 21 dX10_cause_18 rfl rfl (fun q => absurd q (by decide)) (fun q18 => ?_)
          refine jr_iload_n 3 22 dX10_cause_21 rfl rfl rfl ?_
          refine cs_X10_191 25 dX10_cause_22 rfl rfl (Nat.le_of_ble_eq_true rfl) (wp_risMuch (fun _ _ => ?_) (fun q => absurd ⟨nI_pos' (by omega), nI_le (b := 400) hv (by omega)⟩ q))
          refine jr_if_ne 31 28 dX10_cause_25 rfl rfl (fun q25 => ?_) (fun q => absurd q (by decide))
          refine jr_aload_n 0 32 dX10_cause_31 rfl rfl rfl ?_
          refine gf_X10_112 35 dX10_cause_32 rfl rfl rfl rfl ?_
          rw [rnc]
          refine jr_bipush (nI 8) 37 dX10_cause_35 rfl rfl ?_
          refine jr_icmp_ne 43 40 dX10_cause_37 rfl rfl (fun q => absurd (by rw [e8]) q) (fun q37 => ?_)
          refine jr_bipush ((-4)) 42 dX10_cause_40 rfl rfl ?_
          refine jr_ireturn dX10_cause_42 rfl rfl ?_
          exact ⟨rfl, IV_mov (iv_same_x (jr_eqx_rf [] _) (by decide)) h⟩
        · refine jr_enter (L := [some (.ref 0), some (.int (nI t)), some (.int (nI j)), some (.int (nI v))]) (by decide) (Nat.le_of_ble_eq_true rfl) rfl ?_
          refine jr_aload_n 0 1 dX9_cause_0 rfl rfl rfl ?_
          refine gf_X9_44 4 dX9_cause_1 rfl rfl rfl rfl ?_
          refine jr_iload_n 2 5 dX9_cause_4 rfl rfl rfl ?_
          refine cs_X9_146 8 dX9_cause_5 rfl rfl rfl (Nat.le_of_ble_eq_true rfl) (wp_hasT_15 hnf h5 hj ?_)
          refine jr_if_ne 14 11 dX9_cause_8 rfl rfl (fun q8 => ?_) (fun q => absurd q (by decide))
          refine jr_iload_n 1 15 dX9_cause_14 rfl rfl rfl ?_
          refine cs_X9_173 18 dX9_cause_15 rfl rfl (Nat.le_of_ble_eq_true rfl) (wp_isSecond (fun _ _ => ?_) (fun q => absurd ⟨nI_pos' (by omega), nI_le (b := 39) ht (by decide)⟩ q))
          refine jr_if_eq 31 21 dX9_cause_18 rfl rfl (fun q => absurd q (by decide)) (fun q18 => ?_)
          refine jr_iload_n 3 22 dX9_cause_21 rfl rfl rfl ?_
          refine jr_sipush (nI 400) 25 dX9_cause_22 rfl rfl ?_
          refine cs_X9_104 28 dX9_cause_25 rfl rfl (Nat.le_of_ble_eq_true rfl) (wp_wiT hv (by decide) rfl ?_)
          refine jr_if_ne 34 31 dX9_cause_28 rfl rfl (fun q28 => ?_) (fun q => absurd q (by decide))
          refine jr_aload_n 0 35 dX9_cause_34 rfl rfl rfl ?_
          refine gf_X9_44 38 dX9_cause_35 rfl rfl rfl rfl ?_
          refine gf_X9_88 41 dX9_cause_38 rfl rfl rfl rfl ?_
          rw [hnc]
          refine jr_bipush (nI 8) 43 dX9_cause_41 rfl rfl ?_
          refine jr_icmp_lt 49 46 dX9_cause_43 rfl rfl (fun q43 => ?_) (fun q => absurd (nI_lt (b := 8) (by omega) (by decide)) q)
          refine jr_aload_n 0 50 dX9_cause_49 rfl rfl rfl ?_
          refine gf_X9_44 53 dX9_cause_50 rfl rfl rfl rfl ?_
          refine jr_iload_n 1 54 dX9_cause_53 rfl rfl rfl ?_
          refine jr_iload_n 2 55 dX9_cause_54 rfl rfl rfl ?_
          refine jr_iload_n 3 56 dX9_cause_55 rfl rfl rfl ?_
          refine cs_X9_176 59 dX9_cause_56 rfl rfl rfl (Nat.le_of_ble_eq_true rfl) (wp_sAdd hnc (by omega) ?_)
          refine jr_ireturn dX9_cause_59 rfl rfl ?_
          refine jr_enter (L := [some (.ref 46), some (.int (nI t)), some (.int (nI j)), some (.int (nI v))]) (by decide) (Nat.le_of_ble_eq_true rfl) rfl ?_
          refine jr_aload_n 0 1 dX10_cause_0 rfl rfl rfl ?_
          refine jr_iload_n 2 2 dX10_cause_1 rfl rfl rfl ?_
          refine cs_X10_204 5 dX10_cause_2 rfl rfl rfl (Nat.le_of_ble_eq_true rfl) (wp_isFace rnf h5 (fun _ _ _ => ?_) (fun q => absurd q (jr_fcn hj (by omega))))
          refine jr_if_ne 11 8 dX10_cause_5 rfl rfl (fun q5 => ?_) (fun q => absurd q (by decide))
          refine jr_iload_n 1 12 dX10_cause_11 rfl rfl rfl ?_
          refine jr_iconst (nI 0) 13 dX10_cause_12 rfl rfl ?_
          refine jr_bipush (nI 39) 15 dX10_cause_13 rfl rfl ?_
          refine cs_X10_108 18 dX10_cause_15 rfl rfl (Nat.le_of_ble_eq_true rfl) (wp_inT ht (by decide) rfl ?_)
          refine jr_if_eq 28 21 dX10_cause_18 rfl rfl (fun q => absurd q (by decide)) (fun q18 => ?_)
          refine jr_iload_n 3 22 dX10_cause_21 rfl rfl rfl ?_
          refine cs_X10_191 25 dX10_cause_22 rfl rfl (Nat.le_of_ble_eq_true rfl) (wp_risMuch (fun _ _ => ?_) (fun q => absurd ⟨nI_pos' (by omega), nI_le (b := 400) hv (by omega)⟩ q))
          refine jr_if_ne 31 28 dX10_cause_25 rfl rfl (fun q25 => ?_) (fun q => absurd q (by decide))
          refine jr_aload_n 0 32 dX10_cause_31 rfl rfl rfl ?_
          refine gf_X10_112 35 dX10_cause_32 rfl rfl rfl rfl ?_
          refine jr_topi (y := nI nc) rnc ?_
          refine jr_bipush (nI 8) 37 dX10_cause_35 rfl rfl ?_
          refine jr_icmp_ne 43 40 dX10_cause_37 rfl rfl (fun q37 => ?_) (fun q => absurd (nI_inj (by omega) (by omega) q) e8)
          refine jr_aload_n 0 44 dX10_cause_43 rfl rfl rfl ?_
          refine gf_X10_25 47 dX10_cause_44 rfl rfl rfl rfl ?_
          refine jr_iconst (nI 3) 48 dX10_cause_47 rfl rfl ?_
          refine jr_aload_n 0 49 dX10_cause_48 rfl rfl rfl ?_
          refine gf_X10_112 52 dX10_cause_49 rfl rfl rfl rfl ?_
          refine jr_topi (y := nI nc) rnc ?_
          refine jr_imul 53 dX10_cause_52 rfl ?_
          rw [pk_mul]
          refine jr_iload_n 1 54 dX10_cause_53 rfl rfl rfl ?_
          refine jr_iast rfl rfl (by omega) 55 dX10_cause_54 rfl ?_
          refine jr_aload_n 0 56 dX10_cause_55 rfl rfl rfl ?_
          refine gf_X10_25 59 dX10_cause_56 rfl rfl rfl rfl ?_
          refine jr_iconst (nI 3) 60 dX10_cause_59 rfl rfl ?_
          refine jr_aload_n 0 61 dX10_cause_60 rfl rfl rfl ?_
          refine gf_X10_112 64 dX10_cause_61 rfl rfl rfl rfl ?_
          refine jr_topi (y := nI nc) rnc ?_
          refine jr_imul 65 dX10_cause_64 rfl ?_
          rw [pk_mul]
          refine jr_iconst (nI 1) 66 dX10_cause_65 rfl rfl ?_
          refine jr_iadd 67 dX10_cause_66 rfl ?_
          rw [nI_add]
          refine jr_iload_n 2 68 dX10_cause_67 rfl rfl rfl ?_
          refine jr_iast rfl rfl (by omega) 69 dX10_cause_68 rfl ?_
          refine jr_aload_n 0 70 dX10_cause_69 rfl rfl rfl ?_
          refine gf_X10_25 73 dX10_cause_70 rfl rfl rfl rfl ?_
          refine jr_iconst (nI 3) 74 dX10_cause_73 rfl rfl ?_
          refine jr_aload_n 0 75 dX10_cause_74 rfl rfl rfl ?_
          refine gf_X10_112 78 dX10_cause_75 rfl rfl rfl rfl ?_
          refine jr_topi (y := nI nc) rnc ?_
          refine jr_imul 79 dX10_cause_78 rfl ?_
          rw [pk_mul]
          refine jr_iconst (nI 2) 80 dX10_cause_79 rfl rfl ?_
          refine jr_iadd 81 dX10_cause_80 rfl ?_
          rw [nI_add]
          refine jr_iload_n 3 82 dX10_cause_81 rfl rfl rfl ?_
          refine jr_iast rfl rfl (by omega) 83 dX10_cause_82 rfl ?_
          refine jr_aload_n 0 84 dX10_cause_83 rfl rfl rfl ?_
          refine jr_dup 85 dX10_cause_84 rfl rfl ?_
          refine gf_X10_112 88 dX10_cause_85 rfl rfl rfl rfl ?_
          refine jr_topi (y := nI nc) rnc ?_
          refine jr_iconst (nI 1) 89 dX10_cause_88 rfl rfl ?_
          refine jr_iadd 90 dX10_cause_89 rfl ?_
          rw [nI_add]
          refine pf_X10_112 93 dX10_cause_90 rfl rfl rfl rfl ?_
          refine jr_aload_n 0 94 dX10_cause_93 rfl rfl rfl ?_
          refine gf_X10_112 97 dX10_cause_94 rfl rfl rfl rfl ?_
          refine jr_topi (y := nI (nc + 1)) rfl ?_
          refine jr_iconst (nI 1) 98 dX10_cause_97 rfl rfl ?_
          refine jr_isub 99 dX10_cause_98 rfl ?_
          rw [show nI (nc + 1) - nI 1 = nI nc by rw [pk_sub (by omega)]; rfl]
          refine jr_ireturn dX10_cause_99 rfl rfl ?_
          exact ⟨rfl, T, n, nf, nc + 1, kd, se, lw, tp, iv_cause h (by omega)⟩
theorem wp_come {G : jr_G} {d : Nat} {σ : jr_Sg} {k : Value → jr_Sg → Prop} {nf : Nat} {a b c s : Int32} (hnf : σ 15 8 = nI nf) (h5 : nf < 5) (h : k (.int (nI nf)) (jr_up (jr_up (jr_up (jr_up (jr_up σ 16 nf a) 17 nf b) 18 nf c) 19 nf s) 15 8 (nI (nf + 1)))) : jr_M G d mi_X3_come [.ref 15, .int a, .int b, .int c, .int s] σ (jr_k k) := by
  refine jr_enter (L := [some (.ref 15), some (.int a), some (.int b), some (.int c), some (.int s)]) (by decide) (Nat.le_of_ble_eq_true rfl) rfl ?_
  refine jr_aload_n 0 1 dX3_come_0 rfl rfl rfl ?_
  refine gf_X3_36 4 dX3_come_1 rfl rfl rfl rfl ?_
  refine jr_topi (y := nI nf) hnf ?_
  refine jr_if_lt 15 7 dX3_come_4 rfl rfl (fun z => absurd z (nI_pos (by omega))) (fun q4 => ?_)
  refine jr_aload_n 0 8 dX3_come_7 rfl rfl rfl ?_
  refine gf_X3_36 11 dX3_come_8 rfl rfl rfl rfl ?_
  refine jr_topi (y := nI nf) hnf ?_
  refine jr_iconst (nI 5) 12 dX3_come_11 rfl rfl ?_
  refine jr_icmp_lt 18 15 dX3_come_12 rfl rfl (fun q12 => ?_) (fun z => absurd (nI_lt (b := 5) h5 (by decide)) z)
  refine jr_aload_n 0 19 dX3_come_18 rfl rfl rfl ?_
  refine gf_X3_9 22 dX3_come_19 rfl rfl rfl rfl ?_
  refine jr_aload_n 0 23 dX3_come_22 rfl rfl rfl ?_
  refine gf_X3_36 26 dX3_come_23 rfl rfl rfl rfl ?_
  refine jr_topi (y := nI nf) hnf ?_
  refine jr_iload_n 1 27 dX3_come_26 rfl rfl rfl ?_
  refine jr_iast rfl rfl (by omega) 28 dX3_come_27 rfl ?_
  refine jr_aload_n 0 29 dX3_come_28 rfl rfl rfl ?_
  refine gf_X3_15 32 dX3_come_29 rfl rfl rfl rfl ?_
  refine jr_aload_n 0 33 dX3_come_32 rfl rfl rfl ?_
  refine gf_X3_36 36 dX3_come_33 rfl rfl rfl rfl ?_
  refine jr_topi (y := nI nf) hnf ?_
  refine jr_iload_n 2 37 dX3_come_36 rfl rfl rfl ?_
  refine jr_iast rfl rfl (by omega) 38 dX3_come_37 rfl ?_
  refine jr_aload_n 0 39 dX3_come_38 rfl rfl rfl ?_
  refine gf_X3_18 42 dX3_come_39 rfl rfl rfl rfl ?_
  refine jr_aload_n 0 43 dX3_come_42 rfl rfl rfl ?_
  refine gf_X3_36 46 dX3_come_43 rfl rfl rfl rfl ?_
  refine jr_topi (y := nI nf) hnf ?_
  refine jr_iload_n 3 47 dX3_come_46 rfl rfl rfl ?_
  refine jr_iast rfl rfl (by omega) 48 dX3_come_47 rfl ?_
  refine jr_aload_n 0 49 dX3_come_48 rfl rfl rfl ?_
  refine gf_X3_21 52 dX3_come_49 rfl rfl rfl rfl ?_
  refine jr_aload_n 0 53 dX3_come_52 rfl rfl rfl ?_
  refine gf_X3_36 56 dX3_come_53 rfl rfl rfl rfl ?_
  refine jr_topi (y := nI nf) hnf ?_
  refine jr_iload 58 dX3_come_56 rfl rfl ?_
  refine jr_iast rfl rfl (by omega) 59 dX3_come_58 rfl ?_
  refine jr_aload_n 0 60 dX3_come_59 rfl rfl rfl ?_
  refine jr_dup 61 dX3_come_60 rfl rfl ?_
  refine gf_X3_36 64 dX3_come_61 rfl rfl rfl rfl ?_
  refine jr_topi (y := nI nf) hnf ?_
  refine jr_iconst (nI 1) 65 dX3_come_64 rfl rfl ?_
  refine jr_iadd 66 dX3_come_65 rfl ?_
  rw [nI_add]
  refine pf_X3_36 69 dX3_come_66 rfl rfl rfl rfl ?_
  refine jr_aload_n 0 70 dX3_come_69 rfl rfl rfl ?_
  refine gf_X3_36 73 dX3_come_70 rfl rfl rfl rfl ?_
  refine jr_topi (y := nI (nf + 1)) rfl ?_
  refine jr_iconst (nI 1) 74 dX3_come_73 rfl rfl ?_
  refine jr_isub 75 dX3_come_74 rfl ?_
  rw [show nI (nf + 1) - nI 1 = nI nf by rw [pk_sub (by omega)]; rfl]
  refine jr_ireturn dX3_come_75 rfl rfl ?_
  exact h
theorem iv_face {T : Nat → Nat → List Nat} {n nf nc c b v s : Nat} {kd se : Nat → Nat} {lw tp : Nat} {σ : jr_Sg} (h : iv T n nf nc kd se lw tp σ) (h5 : nf < 5) (hc : c < 6) (hb : b ≤ 9) (hv : v ≤ 400) (hs : s < 8) : iv T n (nf + 1) nc (kup kd nf c) (kup se nf s) lw tp (jr_up (jr_up (jr_up (jr_up (jr_up (jr_up (jr_up (jr_up (jr_up (jr_up σ 16 nf (nI c)) 17 nf (nI b)) 18 nf (nI v)) 19 nf (nI s)) 15 8 (nI (nf + 1))) 48 nf (nI c)) 49 nf (nI b)) 50 nf (nI v)) 51 nf (nI s)) 46 1 (nI (nf + 1))) := by
  obtain ⟨a1, a2, ⟨b1, b2, b3, b4, b5, b6, b7, b8⟩, a4, a5, a6, a7, a8⟩ := h
  have q : ∀ x, x < nf + 1 → x = nf ∨ x < nf := fun x hx => by omega
  have ku : ∀ (g : Nat → Int32) (kd : Nat → Nat) (c x : Nat), x < nf + 1 → (x < nf → g x = nI (kd x)) → upd g nf (nI c) x = nI (kup kd nf c x) := fun g kd c x hx hg => by
    rcases q x hx with rfl | z
    · rw [pk_us, kup_s]
    · rw [pk_un (by omega), kup_n (by omega), hg z]
  have kb : ∀ (kd : Nat → Nat) (c x m : Nat), x < nf + 1 → c < m → (x < nf → kd x < m) → kup kd nf c x < m := fun kd c x m hx hc hk => by
    rcases q x hx with rfl | z
    · rw [kup_s]; exact hc
    · rw [kup_n (by omega)]; exact hk z
  have nn : ∀ (g : Nat → Int32) (u m x : Nat), x < nf + 1 → u ≤ m → (x < nf → ∃ w : Nat, w ≤ m ∧ g x = nI w) → ∃ w : Nat, w ≤ m ∧ upd g nf (nI u) x = nI w := fun g u m x hx hu hg => by
    rcases q x hx with rfl | z
    · exact ⟨u, hu, pk_us⟩
    · rw [pk_un (by omega)]; exact hg z
  have ee : ∀ (g g' : Nat → Int32) (u x : Nat), x < nf + 1 → (x < nf → g x = g' x) → upd g nf (nI u) x = upd g' nf (nI u) x := fun g g' u x hx hg => by
    rcases q x hx with rfl | z
    · rw [pk_us, pk_us]
    · rw [pk_un (by omega), pk_un (by omega)]; exact hg z
  refine ⟨a1, a2, ⟨⟨rfl, h5, b1.2.2.1, b1.2.2.2.1, fun x hx => ⟨kb kd c x 6 hx hc (fun z => (b1.2.2.2.2 x z).1), kb se s x 8 hx hs (fun z => (b1.2.2.2.2 x z).2.1), ku _ kd c x hx (fun z => (b1.2.2.2.2 x z).2.2.1), ku _ se s x hx (fun z => (b1.2.2.2.2 x z).2.2.2)⟩⟩, ⟨rfl, h5, b2.2.2.1, b2.2.2.2.1, fun x hx => ⟨kb kd c x 6 hx hc (fun z => (b1.2.2.2.2 x z).1), kb se s x 8 hx hs (fun z => (b1.2.2.2.2 x z).2.1), ku _ kd c x hx (fun z => (b2.2.2.2.2 x z).2.2.1), ku _ se s x hx (fun z => (b2.2.2.2.2 x z).2.2.2.1), nn _ b 9 x hx hb (fun z => (b2.2.2.2.2 x z).2.2.2.2)⟩⟩, b3, b4, b5, fun x hx => ⟨ee _ _ b x hx (fun z => (b6 x z).1), ee _ _ v x hx (fun z => (b6 x z).2.1), nn _ v 400 x hx hv (fun z => (b6 x z).2.2)⟩, b7, b8⟩, a4, ?_, a6, a7, a8⟩
  rcases a5 with i0 | ⟨i1, i2, inf, inc, il, j1, j2, j3, j4, j5, j6, j7, j8, j9, j10, j11, j12, j13⟩
  · exact Or.inl i0
  · refine Or.inr ⟨i1, i2, inf, inc, il, by omega, j2, j3, j4, j5, j6, j7, j8, j9, j10, fun x hx => ?_, j12, j13⟩
    obtain ⟨k1, k2, k3⟩ := j11 x hx
    refine ⟨?_, ?_, k3⟩
    · show σ 34 x = upd (σ 16) nf (nI c) x
      rw [pk_un (by omega)]; exact k1
    · show σ 35 x = upd (σ 17) nf (nI b) x
      rw [pk_un (by omega)]; exact k2
theorem pp_face {G : jr_G} {d : Nat} {σ : jr_Sg} {a c e : Int32} (h : IV σ) : jr_pair G (d + 20) mi_X9_face mi_X10_face [.int a, .int c, .int e] σ := by
  obtain ⟨T, n, nf, nc, kd, se, lw, tp, h⟩ := h
  have hh := h
  obtain ⟨hTC, hTR, ⟨hsc, hsr, hl1, hl2, hlw, hfc, hli, hca⟩, htp, himg, hsh, hrest, hwd⟩ := hh
  have hnf := hsc.1
  have h5 := hsc.2.1
  have hnc := hsc.2.2.1
  have h8 := hsc.2.2.2.1
  have rnf := hsr.1
  have rnc := hsr.2.2.1
  have hlm := hrest.2.2.2.1
  unfold jr_pair
  rcases jr_rg a (m := 59) (by decide) with qm | ⟨m, hm, rfl⟩
  · refine jr_enter (L := [some (.ref 0), some (.int a), some (.int c), some (.int e)]) (by decide) (Nat.le_of_ble_eq_true rfl) rfl ?_
    refine jr_iload_n 1 1 dX9_face_0 rfl rfl rfl ?_
    refine jr_bipush (59) 3 dX9_face_1 rfl rfl ?_
    refine cs_X9_104 6 dX9_face_3 rfl rfl (Nat.le_of_ble_eq_true rfl) (wp_wiF qm ?_)
    refine jr_if_eq 26 9 dX9_face_6 rfl rfl (fun q6 => ?_) (fun q => absurd (by decide) q)
    refine jr_bipush ((-2)) 28 dX9_face_26 rfl rfl ?_
    refine jr_ireturn dX9_face_28 rfl rfl ?_
    refine jr_enter (L := [some (.ref 46), some (.int a), some (.int c), some (.int e)]) (by decide) (Nat.le_of_ble_eq_true rfl) rfl ?_
    refine jr_iload_n 1 1 dX10_face_0 rfl rfl rfl ?_
    refine jr_iconst (0) 2 dX10_face_1 rfl rfl ?_
    refine jr_bipush (59) 4 dX10_face_2 rfl rfl ?_
    refine cs_X10_108 7 dX10_face_4 rfl rfl (Nat.le_of_ble_eq_true rfl) (wp_inF qm ?_)
    refine jr_if_eq 24 10 dX10_face_7 rfl rfl (fun q7 => ?_) (fun q => absurd (by decide) q)
    refine jr_bipush ((-2)) 26 dX10_face_24 rfl rfl ?_
    refine jr_ireturn dX10_face_26 rfl rfl ?_
    exact ⟨rfl, IV_mov (iv_same_x (jr_eqx_rf [] _) (by decide)) h⟩
  · rcases jr_rg c (m := 400) (by decide) with qv | ⟨v, hv, rfl⟩
    · refine jr_enter (L := [some (.ref 0), some (.int (nI m)), some (.int c), some (.int e)]) (by decide) (Nat.le_of_ble_eq_true rfl) rfl ?_
      refine jr_iload_n 1 1 dX9_face_0 rfl rfl rfl ?_
      refine jr_bipush (59) 3 dX9_face_1 rfl rfl ?_
      refine cs_X9_104 6 dX9_face_3 rfl rfl (Nat.le_of_ble_eq_true rfl) (wp_wiT hm (by decide) rfl ?_)
      refine jr_if_eq 26 9 dX9_face_6 rfl rfl (fun q => absurd q (by decide)) (fun q6 => ?_)
      refine jr_iload_n 2 10 dX9_face_9 rfl rfl rfl ?_
      refine jr_sipush (400) 13 dX9_face_10 rfl rfl ?_
      refine cs_X9_104 16 dX9_face_13 rfl rfl (Nat.le_of_ble_eq_true rfl) (wp_wiF qv ?_)
      refine jr_if_eq 26 19 dX9_face_16 rfl rfl (fun q16 => ?_) (fun q => absurd (by decide) q)
      refine jr_bipush ((-2)) 28 dX9_face_26 rfl rfl ?_
      refine jr_ireturn dX9_face_28 rfl rfl ?_
      refine jr_enter (L := [some (.ref 46), some (.int (nI m)), some (.int c), some (.int e)]) (by decide) (Nat.le_of_ble_eq_true rfl) rfl ?_
      refine jr_iload_n 1 1 dX10_face_0 rfl rfl rfl ?_
      refine jr_iconst (0) 2 dX10_face_1 rfl rfl ?_
      refine jr_bipush (59) 4 dX10_face_2 rfl rfl ?_
      refine cs_X10_108 7 dX10_face_4 rfl rfl (Nat.le_of_ble_eq_true rfl) (wp_inT hm (by decide) rfl ?_)
      refine jr_if_eq 24 10 dX10_face_7 rfl rfl (fun q => absurd q (by decide)) (fun q7 => ?_)
      refine jr_iload_n 2 11 dX10_face_10 rfl rfl rfl ?_
      refine cs_X10_191 14 dX10_face_11 rfl rfl (Nat.le_of_ble_eq_true rfl) (wp_risMuch (fun a b => absurd ⟨a, b⟩ qv) (fun _ => ?_))
      refine jr_if_eq 24 17 dX10_face_14 rfl rfl (fun q14 => ?_) (fun q => absurd (by decide) q)
      refine jr_bipush ((-2)) 26 dX10_face_24 rfl rfl ?_
      refine jr_ireturn dX10_face_26 rfl rfl ?_
      exact ⟨rfl, IV_mov (iv_same_x (jr_eqx_rf [] _) (by decide)) h⟩
    · rcases jr_rg e (m := 7) (by decide) with qs | ⟨s, hs, rfl⟩
      · refine jr_enter (L := [some (.ref 0), some (.int (nI m)), some (.int (nI v)), some (.int e)]) (by decide) (Nat.le_of_ble_eq_true rfl) rfl ?_
        refine jr_iload_n 1 1 dX9_face_0 rfl rfl rfl ?_
        refine jr_bipush (59) 3 dX9_face_1 rfl rfl ?_
        refine cs_X9_104 6 dX9_face_3 rfl rfl (Nat.le_of_ble_eq_true rfl) (wp_wiT hm (by decide) rfl ?_)
        refine jr_if_eq 26 9 dX9_face_6 rfl rfl (fun q => absurd q (by decide)) (fun q6 => ?_)
        refine jr_iload_n 2 10 dX9_face_9 rfl rfl rfl ?_
        refine jr_sipush (400) 13 dX9_face_10 rfl rfl ?_
        refine cs_X9_104 16 dX9_face_13 rfl rfl (Nat.le_of_ble_eq_true rfl) (wp_wiT hv (by decide) rfl ?_)
        refine jr_if_eq 26 19 dX9_face_16 rfl rfl (fun q => absurd q (by decide)) (fun q16 => ?_)
        refine jr_iload_n 3 20 dX9_face_19 rfl rfl rfl ?_
        refine cs_X9_135 23 dX9_face_20 rfl rfl (Nat.le_of_ble_eq_true rfl) (wp_isSeat (fun a b => absurd ⟨a, b⟩ qs) (fun _ => ?_))
        refine jr_if_ne 29 26 dX9_face_23 rfl rfl (fun q => absurd (by decide) q) (fun q23 => ?_)
        refine jr_bipush ((-2)) 28 dX9_face_26 rfl rfl ?_
        refine jr_ireturn dX9_face_28 rfl rfl ?_
        refine jr_enter (L := [some (.ref 46), some (.int (nI m)), some (.int (nI v)), some (.int e)]) (by decide) (Nat.le_of_ble_eq_true rfl) rfl ?_
        refine jr_iload_n 1 1 dX10_face_0 rfl rfl rfl ?_
        refine jr_iconst (0) 2 dX10_face_1 rfl rfl ?_
        refine jr_bipush (59) 4 dX10_face_2 rfl rfl ?_
        refine cs_X10_108 7 dX10_face_4 rfl rfl (Nat.le_of_ble_eq_true rfl) (wp_inT hm (by decide) rfl ?_)
        refine jr_if_eq 24 10 dX10_face_7 rfl rfl (fun q => absurd q (by decide)) (fun q7 => ?_)
        refine jr_iload_n 2 11 dX10_face_10 rfl rfl rfl ?_
        refine cs_X10_191 14 dX10_face_11 rfl rfl (Nat.le_of_ble_eq_true rfl) (wp_risMuch (fun _ _ => ?_) (fun q => absurd ⟨nI_pos' (by omega), nI_le (b := 400) hv (by omega)⟩ q))
        refine jr_if_eq 24 17 dX10_face_14 rfl rfl (fun q => absurd q (by decide)) (fun q14 => ?_)
        refine jr_iload_n 3 18 dX10_face_17 rfl rfl rfl ?_
        refine cs_X10_198 21 dX10_face_18 rfl rfl (Nat.le_of_ble_eq_true rfl) (wp_risSeat (fun a b => absurd ⟨a, b⟩ qs) (fun _ => ?_))
        refine jr_if_ne 27 24 dX10_face_21 rfl rfl (fun q => absurd (by decide) q) (fun q21 => ?_)
        refine jr_bipush ((-2)) 26 dX10_face_24 rfl rfl ?_
        refine jr_ireturn dX10_face_26 rfl rfl ?_
        exact ⟨rfl, IV_mov (iv_same_x (jr_eqx_rf [] _) (by decide)) h⟩
      · by_cases e5 : nf = 5
        · refine jr_enter (L := [some (.ref 0), some (.int (nI m)), some (.int (nI v)), some (.int (nI s))]) (by decide) (Nat.le_of_ble_eq_true rfl) rfl ?_
          refine jr_iload_n 1 1 dX9_face_0 rfl rfl rfl ?_
          refine jr_bipush (nI 59) 3 dX9_face_1 rfl rfl ?_
          refine cs_X9_104 6 dX9_face_3 rfl rfl (Nat.le_of_ble_eq_true rfl) (wp_wiT hm (by decide) rfl ?_)
          refine jr_if_eq 26 9 dX9_face_6 rfl rfl (fun q => absurd q (by decide)) (fun q6 => ?_)
          refine jr_iload_n 2 10 dX9_face_9 rfl rfl rfl ?_
          refine jr_sipush (nI 400) 13 dX9_face_10 rfl rfl ?_
          refine cs_X9_104 16 dX9_face_13 rfl rfl (Nat.le_of_ble_eq_true rfl) (wp_wiT hv (by decide) rfl ?_)
          refine jr_if_eq 26 19 dX9_face_16 rfl rfl (fun q => absurd q (by decide)) (fun q16 => ?_)
          refine jr_iload_n 3 20 dX9_face_19 rfl rfl rfl ?_
          refine cs_X9_135 23 dX9_face_20 rfl rfl (Nat.le_of_ble_eq_true rfl) (wp_isSeat (fun _ _ => ?_) (fun q => absurd ⟨nI_pos' (by omega), nI_le (b := 7) hs (by decide)⟩ q))
          refine jr_if_ne 29 26 dX9_face_23 rfl rfl (fun q23 => ?_) (fun q => absurd q (by decide))
          refine jr_aload_n 0 30 dX9_face_29 rfl rfl rfl ?_
          refine gf_X9_44 33 dX9_face_30 rfl rfl rfl rfl ?_
          refine gf_X9_84 36 dX9_face_33 rfl rfl rfl rfl ?_
          rw [hnf]
          refine jr_iconst (nI 5) 37 dX9_face_36 rfl rfl ?_
          refine jr_icmp_lt 43 40 dX9_face_37 rfl rfl (fun q => absurd q (by rw [e5]; decide)) (fun q37 => ?_)
          refine jr_bipush ((-4)) 42 dX9_face_40 rfl rfl ?_
          refine jr_ireturn dX9_face_42 rfl rfl ?_
          refine jr_enter (L := [some (.ref 46), some (.int (nI m)), some (.int (nI v)), some (.int (nI s))]) (by decide) (Nat.le_of_ble_eq_true rfl) rfl ?_
          refine jr_iload_n 1 1 dX10_face_0 rfl rfl rfl ?_
          refine jr_iconst (nI 0) 2 dX10_face_1 rfl rfl ?_
          refine jr_bipush (nI 59) 4 dX10_face_2 rfl rfl ?_
          refine cs_X10_108 7 dX10_face_4 rfl rfl (Nat.le_of_ble_eq_true rfl) (wp_inT hm (by decide) rfl ?_)
          refine jr_if_eq 24 10 dX10_face_7 rfl rfl (fun q => absurd q (by decide)) (fun q7 => ?_)
          refine jr_iload_n 2 11 dX10_face_10 rfl rfl rfl ?_
          refine cs_X10_191 14 dX10_face_11 rfl rfl (Nat.le_of_ble_eq_true rfl) (wp_risMuch (fun _ _ => ?_) (fun q => absurd ⟨nI_pos' (by omega), nI_le (b := 400) hv (by omega)⟩ q))
          refine jr_if_eq 24 17 dX10_face_14 rfl rfl (fun q => absurd q (by decide)) (fun q14 => ?_)
          refine jr_iload_n 3 18 dX10_face_17 rfl rfl rfl ?_
          refine cs_X10_198 21 dX10_face_18 rfl rfl (Nat.le_of_ble_eq_true rfl) (wp_risSeat (fun _ _ => ?_) (fun q => absurd ⟨nI_pos' (by omega), nI_le (b := 7) hs (by decide)⟩ q))
          refine jr_if_ne 27 24 dX10_face_21 rfl rfl (fun q21 => ?_) (fun q => absurd q (by decide))
          refine jr_aload_n 0 28 dX10_face_27 rfl rfl rfl ?_
          refine gf_X10_105 31 dX10_face_28 rfl rfl rfl rfl ?_
          rw [rnf]
          refine jr_iconst (nI 5) 32 dX10_face_31 rfl rfl ?_
          refine jr_icmp_ne 38 35 dX10_face_32 rfl rfl (fun q => absurd (by rw [e5]) q) (fun q32 => ?_)
          refine jr_bipush ((-4)) 37 dX10_face_35 rfl rfl ?_
          refine jr_ireturn dX10_face_37 rfl rfl ?_
          exact ⟨rfl, IV_mov (iv_same_x (jr_eqx_rf [] _) (by decide)) h⟩
        · have esit : pu_sit (σ 19) (nI s) 0 nf = pu_sit (σ 51) (nI s) 0 nf := pu_sit_congr nf 0 (fun y _ hy => ((hsc.2.2.2.2 y (by omega)).2.2.2).trans (hsr.2.2.2.2 y (by omega)).2.2.2.1.symm)
          have ediv : nI m / nI 10 = nI (m / 10) := pk_div (by omega) (by omega) (by omega)
          have erem : nI m - nI m / nI 10 * nI 10 = nI (m % 10) := pk_rem (by omega) (by omega) (by omega)
          cases hsit : pu_sit (σ 51) (nI s) 0 nf with
          | some i =>
            have hi := (pu_sit_some _ _ _ hsit).2.1
            refine jr_enter (L := [some (.ref 0), some (.int (nI m)), some (.int (nI v)), some (.int (nI s))]) (by decide) (Nat.le_of_ble_eq_true rfl) rfl ?_
            refine jr_iload_n 1 1 dX9_face_0 rfl rfl rfl ?_
            refine jr_bipush (nI 59) 3 dX9_face_1 rfl rfl ?_
            refine cs_X9_104 6 dX9_face_3 rfl rfl (Nat.le_of_ble_eq_true rfl) (wp_wiT hm (by decide) rfl ?_)
            refine jr_if_eq 26 9 dX9_face_6 rfl rfl (fun q => absurd q (by decide)) (fun q6 => ?_)
            refine jr_iload_n 2 10 dX9_face_9 rfl rfl rfl ?_
            refine jr_sipush (nI 400) 13 dX9_face_10 rfl rfl ?_
            refine cs_X9_104 16 dX9_face_13 rfl rfl (Nat.le_of_ble_eq_true rfl) (wp_wiT hv (by decide) rfl ?_)
            refine jr_if_eq 26 19 dX9_face_16 rfl rfl (fun q => absurd q (by decide)) (fun q16 => ?_)
            refine jr_iload_n 3 20 dX9_face_19 rfl rfl rfl ?_
            refine cs_X9_135 23 dX9_face_20 rfl rfl (Nat.le_of_ble_eq_true rfl) (wp_isSeat (fun _ _ => ?_) (fun q => absurd ⟨nI_pos' (by omega), nI_le (b := 7) hs (by decide)⟩ q))
            refine jr_if_ne 29 26 dX9_face_23 rfl rfl (fun q23 => ?_) (fun q => absurd q (by decide))
            refine jr_aload_n 0 30 dX9_face_29 rfl rfl rfl ?_
            refine gf_X9_44 33 dX9_face_30 rfl rfl rfl rfl ?_
            refine gf_X9_84 36 dX9_face_33 rfl rfl rfl rfl ?_
            rw [hnf]
            refine jr_iconst (nI 5) 37 dX9_face_36 rfl rfl ?_
            refine jr_icmp_lt 43 40 dX9_face_37 rfl rfl (fun q37 => ?_) (fun q => absurd (nI_lt (b := 5) (by omega) (by decide)) q)
            refine jr_aload_n 0 44 dX9_face_43 rfl rfl rfl ?_
            refine gf_X9_44 47 dX9_face_44 rfl rfl rfl rfl ?_
            refine jr_iload_n 3 48 dX9_face_47 rfl rfl rfl ?_
            refine cs_X9_138 51 dX9_face_48 rfl rfl rfl (Nat.le_of_ble_eq_true rfl) (wp_sitterOf_15 hnf h5 ?_)
            rw [esit, hsit]
            refine jr_if_lt 57 54 dX9_face_51 rfl rfl (fun q => absurd q (nI_pos (by omega))) (fun q51 => ?_)
            refine jr_bipush ((-3)) 56 dX9_face_54 rfl rfl ?_
            refine jr_ireturn dX9_face_56 rfl rfl ?_
            refine jr_enter (L := [some (.ref 46), some (.int (nI m)), some (.int (nI v)), some (.int (nI s))]) (by decide) (Nat.le_of_ble_eq_true rfl) rfl ?_
            refine jr_iload_n 1 1 dX10_face_0 rfl rfl rfl ?_
            refine jr_iconst (nI 0) 2 dX10_face_1 rfl rfl ?_
            refine jr_bipush (nI 59) 4 dX10_face_2 rfl rfl ?_
            refine cs_X10_108 7 dX10_face_4 rfl rfl (Nat.le_of_ble_eq_true rfl) (wp_inT hm (by decide) rfl ?_)
            refine jr_if_eq 24 10 dX10_face_7 rfl rfl (fun q => absurd q (by decide)) (fun q7 => ?_)
            refine jr_iload_n 2 11 dX10_face_10 rfl rfl rfl ?_
            refine cs_X10_191 14 dX10_face_11 rfl rfl (Nat.le_of_ble_eq_true rfl) (wp_risMuch (fun _ _ => ?_) (fun q => absurd ⟨nI_pos' (by omega), nI_le (b := 400) hv (by omega)⟩ q))
            refine jr_if_eq 24 17 dX10_face_14 rfl rfl (fun q => absurd q (by decide)) (fun q14 => ?_)
            refine jr_iload_n 3 18 dX10_face_17 rfl rfl rfl ?_
            refine cs_X10_198 21 dX10_face_18 rfl rfl (Nat.le_of_ble_eq_true rfl) (wp_risSeat (fun _ _ => ?_) (fun q => absurd ⟨nI_pos' (by omega), nI_le (b := 7) hs (by decide)⟩ q))
            refine jr_if_ne 27 24 dX10_face_21 rfl rfl (fun q21 => ?_) (fun q => absurd q (by decide))
            refine jr_aload_n 0 28 dX10_face_27 rfl rfl rfl ?_
            refine gf_X10_105 31 dX10_face_28 rfl rfl rfl rfl ?_
            refine jr_topi (y := nI nf) rnf ?_
            refine jr_iconst (nI 5) 32 dX10_face_31 rfl rfl ?_
            refine jr_icmp_ne 38 35 dX10_face_32 rfl rfl (fun q32 => ?_) (fun q => absurd (nI_inj (by omega) (by omega) q) e5)
            refine jr_aload_n 0 39 dX10_face_38 rfl rfl rfl ?_
            refine jr_iload_n 3 40 dX10_face_39 rfl rfl rfl ?_
            refine cs_X10_201 43 dX10_face_40 rfl rfl rfl (Nat.le_of_ble_eq_true rfl) (wp_whoSits rnf h5 ?_)
            rw [hsit]
            refine jr_iconst ((-1)) 44 dX10_face_43 rfl rfl ?_
            refine jr_icmp_eq 50 47 dX10_face_44 rfl rfl (fun q => absurd q (jr_ne1 (by omega))) (fun q44 => ?_)
            refine jr_bipush ((-3)) 49 dX10_face_47 rfl rfl ?_
            refine jr_ireturn dX10_face_49 rfl rfl ?_
            exact ⟨rfl, IV_mov (iv_same_x (jr_eqx_rf [] _) (by decide)) h⟩
          | none =>
            refine jr_enter (L := [some (.ref 0), some (.int (nI m)), some (.int (nI v)), some (.int (nI s))]) (by decide) (Nat.le_of_ble_eq_true rfl) rfl ?_
            refine jr_iload_n 1 1 dX9_face_0 rfl rfl rfl ?_
            refine jr_bipush (nI 59) 3 dX9_face_1 rfl rfl ?_
            refine cs_X9_104 6 dX9_face_3 rfl rfl (Nat.le_of_ble_eq_true rfl) (wp_wiT hm (by decide) rfl ?_)
            refine jr_if_eq 26 9 dX9_face_6 rfl rfl (fun q => absurd q (by decide)) (fun q6 => ?_)
            refine jr_iload_n 2 10 dX9_face_9 rfl rfl rfl ?_
            refine jr_sipush (nI 400) 13 dX9_face_10 rfl rfl ?_
            refine cs_X9_104 16 dX9_face_13 rfl rfl (Nat.le_of_ble_eq_true rfl) (wp_wiT hv (by decide) rfl ?_)
            refine jr_if_eq 26 19 dX9_face_16 rfl rfl (fun q => absurd q (by decide)) (fun q16 => ?_)
            refine jr_iload_n 3 20 dX9_face_19 rfl rfl rfl ?_
            refine cs_X9_135 23 dX9_face_20 rfl rfl (Nat.le_of_ble_eq_true rfl) (wp_isSeat (fun _ _ => ?_) (fun q => absurd ⟨nI_pos' (by omega), nI_le (b := 7) hs (by decide)⟩ q))
            refine jr_if_ne 29 26 dX9_face_23 rfl rfl (fun q23 => ?_) (fun q => absurd q (by decide))
            refine jr_aload_n 0 30 dX9_face_29 rfl rfl rfl ?_
            refine gf_X9_44 33 dX9_face_30 rfl rfl rfl rfl ?_
            refine gf_X9_84 36 dX9_face_33 rfl rfl rfl rfl ?_
            rw [hnf]
            refine jr_iconst (nI 5) 37 dX9_face_36 rfl rfl ?_
            refine jr_icmp_lt 43 40 dX9_face_37 rfl rfl (fun q37 => ?_) (fun q => absurd (nI_lt (b := 5) (by omega) (by decide)) q)
            refine jr_aload_n 0 44 dX9_face_43 rfl rfl rfl ?_
            refine gf_X9_44 47 dX9_face_44 rfl rfl rfl rfl ?_
            refine jr_iload_n 3 48 dX9_face_47 rfl rfl rfl ?_
            refine cs_X9_138 51 dX9_face_48 rfl rfl rfl (Nat.le_of_ble_eq_true rfl) (wp_sitterOf_15 hnf h5 ?_)
            rw [esit, hsit]
            refine jr_if_lt 57 54 dX9_face_51 rfl rfl (fun q51 => ?_) (fun q => absurd (by decide) q)
            refine jr_aload_n 0 58 dX9_face_57 rfl rfl rfl ?_
            refine gf_X9_44 61 dX9_face_58 rfl rfl rfl rfl ?_
            refine jr_iload_n 1 62 dX9_face_61 rfl rfl rfl ?_
            refine jr_bipush (nI 10) 64 dX9_face_62 rfl rfl ?_
            refine jr_idiv 65 dX9_face_64 rfl (by decide) ?_
            rw [ediv]
            refine jr_iload_n 1 66 dX9_face_65 rfl rfl rfl ?_
            refine jr_bipush (nI 10) 68 dX9_face_66 rfl rfl ?_
            refine jr_irem 69 dX9_face_68 rfl (by decide) ?_
            rw [erem]
            refine jr_iload_n 2 70 dX9_face_69 rfl rfl rfl ?_
            refine jr_iload_n 3 71 dX9_face_70 rfl rfl rfl ?_
            refine cs_X9_142 74 dX9_face_71 rfl rfl rfl (Nat.le_of_ble_eq_true rfl) (wp_come hnf (by omega) ?_)
            refine jr_ireturn dX9_face_74 rfl rfl ?_
            refine jr_enter (L := [some (.ref 46), some (.int (nI m)), some (.int (nI v)), some (.int (nI s))]) (by decide) (Nat.le_of_ble_eq_true rfl) rfl ?_
            refine jr_iload_n 1 1 dX10_face_0 rfl rfl rfl ?_
            refine jr_iconst (nI 0) 2 dX10_face_1 rfl rfl ?_
            refine jr_bipush (nI 59) 4 dX10_face_2 rfl rfl ?_
            refine cs_X10_108 7 dX10_face_4 rfl rfl (Nat.le_of_ble_eq_true rfl) (wp_inT hm (by decide) rfl ?_)
            refine jr_if_eq 24 10 dX10_face_7 rfl rfl (fun q => absurd q (by decide)) (fun q7 => ?_)
            refine jr_iload_n 2 11 dX10_face_10 rfl rfl rfl ?_
            refine cs_X10_191 14 dX10_face_11 rfl rfl (Nat.le_of_ble_eq_true rfl) (wp_risMuch (fun _ _ => ?_) (fun q => absurd ⟨nI_pos' (by omega), nI_le (b := 400) hv (by omega)⟩ q))
            refine jr_if_eq 24 17 dX10_face_14 rfl rfl (fun q => absurd q (by decide)) (fun q14 => ?_)
            refine jr_iload_n 3 18 dX10_face_17 rfl rfl rfl ?_
            refine cs_X10_198 21 dX10_face_18 rfl rfl (Nat.le_of_ble_eq_true rfl) (wp_risSeat (fun _ _ => ?_) (fun q => absurd ⟨nI_pos' (by omega), nI_le (b := 7) hs (by decide)⟩ q))
            refine jr_if_ne 27 24 dX10_face_21 rfl rfl (fun q21 => ?_) (fun q => absurd q (by decide))
            refine jr_aload_n 0 28 dX10_face_27 rfl rfl rfl ?_
            refine gf_X10_105 31 dX10_face_28 rfl rfl rfl rfl ?_
            refine jr_topi (y := nI nf) rnf ?_
            refine jr_iconst (nI 5) 32 dX10_face_31 rfl rfl ?_
            refine jr_icmp_ne 38 35 dX10_face_32 rfl rfl (fun q32 => ?_) (fun q => absurd (nI_inj (by omega) (by omega) q) e5)
            refine jr_aload_n 0 39 dX10_face_38 rfl rfl rfl ?_
            refine jr_iload_n 3 40 dX10_face_39 rfl rfl rfl ?_
            refine cs_X10_201 43 dX10_face_40 rfl rfl rfl (Nat.le_of_ble_eq_true rfl) (wp_whoSits rnf h5 ?_)
            refine jr_topi (y := -1) (show oI (pu_sit (σ 51) (nI s) 0 nf) = -1 by rw [hsit]; rfl) ?_
            refine jr_iconst ((-1)) 44 dX10_face_43 rfl rfl ?_
            refine jr_icmp_eq 50 47 dX10_face_44 rfl rfl (fun q44 => ?_) (fun q => absurd rfl q)
            refine jr_aload_n 0 51 dX10_face_50 rfl rfl rfl ?_
            refine gf_X10_13 54 dX10_face_51 rfl rfl rfl rfl ?_
            refine jr_aload_n 0 55 dX10_face_54 rfl rfl rfl ?_
            refine gf_X10_105 58 dX10_face_55 rfl rfl rfl rfl ?_
            refine jr_topi (y := nI nf) rnf ?_
            refine jr_iload_n 1 59 dX10_face_58 rfl rfl rfl ?_
            refine jr_bipush (nI 10) 61 dX10_face_59 rfl rfl ?_
            refine jr_idiv 62 dX10_face_61 rfl (by decide) ?_
            rw [ediv]
            refine jr_iast rfl rfl (by omega) 63 dX10_face_62 rfl ?_
            refine jr_aload_n 0 64 dX10_face_63 rfl rfl rfl ?_
            refine gf_X10_16 67 dX10_face_64 rfl rfl rfl rfl ?_
            refine jr_aload_n 0 68 dX10_face_67 rfl rfl rfl ?_
            refine gf_X10_105 71 dX10_face_68 rfl rfl rfl rfl ?_
            refine jr_topi (y := nI nf) rnf ?_
            refine jr_iload_n 1 72 dX10_face_71 rfl rfl rfl ?_
            refine jr_bipush (nI 10) 74 dX10_face_72 rfl rfl ?_
            refine jr_irem 75 dX10_face_74 rfl (by decide) ?_
            rw [erem]
            refine jr_iast rfl rfl (by omega) 76 dX10_face_75 rfl ?_
            refine jr_aload_n 0 77 dX10_face_76 rfl rfl rfl ?_
            refine gf_X10_19 80 dX10_face_77 rfl rfl rfl rfl ?_
            refine jr_aload_n 0 81 dX10_face_80 rfl rfl rfl ?_
            refine gf_X10_105 84 dX10_face_81 rfl rfl rfl rfl ?_
            refine jr_topi (y := nI nf) rnf ?_
            refine jr_iload_n 2 85 dX10_face_84 rfl rfl rfl ?_
            refine jr_iast rfl rfl (by omega) 86 dX10_face_85 rfl ?_
            refine jr_aload_n 0 87 dX10_face_86 rfl rfl rfl ?_
            refine gf_X10_22 90 dX10_face_87 rfl rfl rfl rfl ?_
            refine jr_aload_n 0 91 dX10_face_90 rfl rfl rfl ?_
            refine gf_X10_105 94 dX10_face_91 rfl rfl rfl rfl ?_
            refine jr_topi (y := nI nf) rnf ?_
            refine jr_iload_n 3 95 dX10_face_94 rfl rfl rfl ?_
            refine jr_iast rfl rfl (by omega) 96 dX10_face_95 rfl ?_
            refine jr_aload_n 0 97 dX10_face_96 rfl rfl rfl ?_
            refine jr_dup 98 dX10_face_97 rfl rfl ?_
            refine gf_X10_105 101 dX10_face_98 rfl rfl rfl rfl ?_
            refine jr_topi (y := nI nf) rnf ?_
            refine jr_iconst (nI 1) 102 dX10_face_101 rfl rfl ?_
            refine jr_iadd 103 dX10_face_102 rfl ?_
            rw [nI_add]
            refine pf_X10_105 106 dX10_face_103 rfl rfl rfl rfl ?_
            refine jr_aload_n 0 107 dX10_face_106 rfl rfl rfl ?_
            refine gf_X10_105 110 dX10_face_107 rfl rfl rfl rfl ?_
            refine jr_topi (y := nI (nf + 1)) rfl ?_
            refine jr_iconst (nI 1) 111 dX10_face_110 rfl rfl ?_
            refine jr_isub 112 dX10_face_111 rfl ?_
            rw [show nI (nf + 1) - nI 1 = nI nf by rw [pk_sub (by omega)]; rfl]
            refine jr_ireturn dX10_face_112 rfl rfl ?_
            exact ⟨rfl, T, n, nf + 1, nc, kup kd nf (m / 10), kup se nf s, lw, tp, iv_face h (by omega) (by omega) (by omega) hv (by omega)⟩
