theorem tab_out {a : Int32} {m : Nat} (hm : m + 1 < 2 ^ 31) (q : ¬ (0 ≤ a ∧ a ≤ nI m)) : a.toInt < 0 ∨ (m : Int) < a.toInt := by
  rcases pk_ix a (n := m + 1) hm with z | z | ⟨j, hj, rfl⟩
  · exact Or.inl (by simpa using Int32.lt_iff_toInt_lt.mp z)
  · right
    have h := Int32.le_iff_toInt_le.mp z
    rw [nI_int (by omega)] at h
    omega
  · exact absurd ⟨nI_pos' (by omega), nI_le (by omega) (by omega)⟩ q
theorem pp_told {G : jr_G} {d : Nat} {σ : jr_Sg} {f a : Int32} (h : IV σ) : jr_pair G (d + 20) mi_X9_told mi_X10_told [.int f, .int a] σ := by
  obtain ⟨T, n, nf, nc, kd, se, lw, tp, h⟩ := h
  have hh := h
  obtain ⟨hTC, hTR, ⟨hsc, hsr, hl1, hl2, hlw, hfc, hli, hca⟩, htp, himg, hsh, hrest, hwd⟩ := hh
  have hnf := hsc.1
  have h5 := hsc.2.1
  have hnc := hsc.2.2.1
  have h8 := hsc.2.2.2.1
  have rnf := hsr.1
  have rnc := hsr.2.2.1
  have hlm := hrest.2.2.2.1
  unfold jr_pair
  rcases jr_fc f h5 with hf | ⟨j, hj, rfl⟩
  · refine jr_enter (L := [some (.ref 0), some (.int f), some (.int a)]) (by decide) (Nat.le_of_ble_eq_true rfl) rfl ?_
    refine jr_aload_n 0 1 dX9_told_0 rfl rfl rfl ?_
    refine gf_X9_44 4 dX9_told_1 rfl rfl rfl rfl ?_
    refine jr_iload_n 1 5 dX9_told_4 rfl rfl rfl ?_
    refine cs_X9_146 8 dX9_told_5 rfl rfl rfl (Nat.le_of_ble_eq_true rfl) (wp_has_15 hnf h5 (fun j hj e => absurd hf (by rw [e]; exact jr_fcn hj (by omega))) (fun _ => ?_))
    refine jr_if_ne 14 11 dX9_told_8 rfl rfl (fun q => absurd (by decide) q) (fun q8 => ?_)
    refine jr_bipush ((-5)) 13 dX9_told_11 rfl rfl ?_
    refine jr_ireturn dX9_told_13 rfl rfl ?_
    refine jr_enter (L := [some (.ref 46), some (.int f), some (.int a)]) (by decide) (Nat.le_of_ble_eq_true rfl) rfl ?_
    refine jr_aload_n 0 1 dX10_told_0 rfl rfl rfl ?_
    refine jr_iload_n 1 2 dX10_told_1 rfl rfl rfl ?_
    refine cs_X10_204 5 dX10_told_2 rfl rfl rfl (Nat.le_of_ble_eq_true rfl) (wp_isFace rnf h5 (fun j hj e => absurd hf (by rw [e]; exact jr_fcn hj (by omega))) (fun _ => ?_))
    refine jr_if_ne 11 8 dX10_told_5 rfl rfl (fun q => absurd (by decide) q) (fun q5 => ?_)
    refine jr_bipush ((-5)) 10 dX10_told_8 rfl rfl ?_
    refine jr_ireturn dX10_told_10 rfl rfl ?_
    exact ⟨rfl, IV_mov (iv_same_x (jr_eqx_rf [] _) (by decide)) h⟩
  · obtain ⟨hk6, hs8, ek, es, b0, hb0, eb⟩ := hsr.2.2.2.2 j hj
    rcases jr_rg a (m := 5) (by decide) with qi | ⟨i, hi, rfl⟩
    · have ht : a.toInt < 0 ∨ 5 < a.toInt := tab_out (m := 5) (by decide) qi
      refine jr_enter (L := [some (.ref 0), some (.int (nI j)), some (.int a)]) (by decide) (Nat.le_of_ble_eq_true rfl) rfl ?_
      refine jr_aload_n 0 1 dX9_told_0 rfl rfl rfl ?_
      refine gf_X9_44 4 dX9_told_1 rfl rfl rfl rfl ?_
      refine jr_iload_n 1 5 dX9_told_4 rfl rfl rfl ?_
      refine cs_X9_146 8 dX9_told_5 rfl rfl rfl (Nat.le_of_ble_eq_true rfl) (wp_hasT_15 hnf h5 hj ?_)
      refine jr_if_ne 14 11 dX9_told_8 rfl rfl (fun q8 => ?_) (fun q => absurd q (by decide))
      refine jr_iload_n 2 15 dX9_told_14 rfl rfl rfl ?_
      refine jr_tableOut 110 dX9_told_15 ht rfl ?_
      refine jr_bipush ((-7)) 112 dX9_told_110 rfl rfl ?_
      refine jr_ireturn dX9_told_112 rfl rfl ?_
      refine jr_enter (L := [some (.ref 46), some (.int (nI j)), some (.int a)]) (by decide) (Nat.le_of_ble_eq_true rfl) rfl ?_
      refine jr_aload_n 0 1 dX10_told_0 rfl rfl rfl ?_
      refine jr_iload_n 1 2 dX10_told_1 rfl rfl rfl ?_
      refine cs_X10_204 5 dX10_told_2 rfl rfl rfl (Nat.le_of_ble_eq_true rfl) (wp_isFace rnf h5 (fun _ _ _ => ?_) (fun q => absurd q (jr_fcn hj (by omega))))
      refine jr_if_ne 11 8 dX10_told_5 rfl rfl (fun q5 => ?_) (fun q => absurd q (by decide))
      refine jr_iload_n 2 12 dX10_told_11 rfl rfl rfl ?_
      refine jr_tableOut 98 dX10_told_12 ht rfl ?_
      refine jr_bipush ((-7)) 100 dX10_told_98 rfl rfl ?_
      refine jr_ireturn dX10_told_100 rfl rfl ?_
      exact ⟨rfl, IV_mov (iv_same_x (jr_eqx_rf [] _) (by decide)) h⟩
    · rcases (by omega : i = 0 ∨ i = 1 ∨ i = 2 ∨ i = 3 ∨ i = 4 ∨ i = 5) with rfl | rfl | rfl | rfl | rfl | rfl
      · refine jr_enter (L := [some (.ref 0), some (.int (nI j)), some (.int (nI 0))]) (by decide) (Nat.le_of_ble_eq_true rfl) rfl ?_
        refine jr_aload_n 0 1 dX9_told_0 rfl rfl rfl ?_
        refine gf_X9_44 4 dX9_told_1 rfl rfl rfl rfl ?_
        refine jr_iload_n 1 5 dX9_told_4 rfl rfl rfl ?_
        refine cs_X9_146 8 dX9_told_5 rfl rfl rfl (Nat.le_of_ble_eq_true rfl) (wp_hasT_15 hnf h5 hj ?_)
        refine jr_if_ne 14 11 dX9_told_8 rfl rfl (fun q8 => ?_) (fun q => absurd q (by decide))
        refine jr_iload_n 2 15 dX9_told_14 rfl rfl rfl ?_
        refine jr_tableIn (off := 37) 52 dX9_told_15 (by decide) (by decide) (by decide) rfl ?_
        refine jr_aload_n 0 53 dX9_told_52 rfl rfl rfl ?_
        refine gf_X9_44 56 dX9_told_53 rfl rfl rfl rfl ?_
        refine gf_X9_149 59 dX9_told_56 rfl rfl rfl rfl ?_
        refine jr_iload_n 1 60 dX9_told_59 rfl rfl rfl ?_
        refine jr_iald rfl rfl (by omega) 61 dX9_told_60 rfl ?_
        refine jr_ireturn dX9_told_61 rfl rfl ?_
        refine jr_enter (L := [some (.ref 46), some (.int (nI j)), some (.int (nI 0))]) (by decide) (Nat.le_of_ble_eq_true rfl) rfl ?_
        refine jr_aload_n 0 1 dX10_told_0 rfl rfl rfl ?_
        refine jr_iload_n 1 2 dX10_told_1 rfl rfl rfl ?_
        refine cs_X10_204 5 dX10_told_2 rfl rfl rfl (Nat.le_of_ble_eq_true rfl) (wp_isFace rnf h5 (fun _ _ _ => ?_) (fun q => absurd q (jr_fcn hj (by omega))))
        refine jr_if_ne 11 8 dX10_told_5 rfl rfl (fun q5 => ?_) (fun q => absurd q (by decide))
        refine jr_iload_n 2 12 dX10_told_11 rfl rfl rfl ?_
        refine jr_tableIn (off := 40) 52 dX10_told_12 (by decide) (by decide) (by decide) rfl ?_
        refine jr_aload_n 0 53 dX10_told_52 rfl rfl rfl ?_
        refine gf_X10_19 56 dX10_told_53 rfl rfl rfl rfl ?_
        refine jr_iload_n 1 57 dX10_told_56 rfl rfl rfl ?_
        refine jr_iald rfl rfl (by omega) 58 dX10_told_57 rfl ?_
        refine jr_ireturn dX10_told_58 rfl rfl ?_
        exact ⟨congrArg Value.int ((hfc j hj).2.1.symm), IV_mov (iv_same_x (jr_eqx_rf [] _) (by decide)) h⟩
      · refine jr_enter (L := [some (.ref 0), some (.int (nI j)), some (.int (nI 1))]) (by decide) (Nat.le_of_ble_eq_true rfl) rfl ?_
        refine jr_aload_n 0 1 dX9_told_0 rfl rfl rfl ?_
        refine gf_X9_44 4 dX9_told_1 rfl rfl rfl rfl ?_
        refine jr_iload_n 1 5 dX9_told_4 rfl rfl rfl ?_
        refine cs_X9_146 8 dX9_told_5 rfl rfl rfl (Nat.le_of_ble_eq_true rfl) (wp_hasT_15 hnf h5 hj ?_)
        refine jr_if_ne 14 11 dX9_told_8 rfl rfl (fun q8 => ?_) (fun q => absurd q (by decide))
        refine jr_iload_n 2 15 dX9_told_14 rfl rfl rfl ?_
        refine jr_tableIn (off := 47) 62 dX9_told_15 (by decide) (by decide) (by decide) rfl ?_
        refine jr_aload_n 0 63 dX9_told_62 rfl rfl rfl ?_
        refine gf_X9_44 66 dX9_told_63 rfl rfl rfl rfl ?_
        refine gf_X9_152 69 dX9_told_66 rfl rfl rfl rfl ?_
        refine jr_iload_n 1 70 dX9_told_69 rfl rfl rfl ?_
        refine jr_iald rfl rfl (by omega) 71 dX9_told_70 rfl ?_
        refine jr_ireturn dX9_told_71 rfl rfl ?_
        refine jr_enter (L := [some (.ref 46), some (.int (nI j)), some (.int (nI 1))]) (by decide) (Nat.le_of_ble_eq_true rfl) rfl ?_
        refine jr_aload_n 0 1 dX10_told_0 rfl rfl rfl ?_
        refine jr_iload_n 1 2 dX10_told_1 rfl rfl rfl ?_
        refine cs_X10_204 5 dX10_told_2 rfl rfl rfl (Nat.le_of_ble_eq_true rfl) (wp_isFace rnf h5 (fun _ _ _ => ?_) (fun q => absurd q (jr_fcn hj (by omega))))
        refine jr_if_ne 11 8 dX10_told_5 rfl rfl (fun q5 => ?_) (fun q => absurd q (by decide))
        refine jr_iload_n 2 12 dX10_told_11 rfl rfl rfl ?_
        refine jr_tableIn (off := 47) 59 dX10_told_12 (by decide) (by decide) (by decide) rfl ?_
        refine jr_aload_n 0 60 dX10_told_59 rfl rfl rfl ?_
        refine gf_X10_22 63 dX10_told_60 rfl rfl rfl rfl ?_
        refine jr_iload_n 1 64 dX10_told_63 rfl rfl rfl ?_
        refine jr_iald rfl rfl (by omega) 65 dX10_told_64 rfl ?_
        refine jr_ireturn dX10_told_65 rfl rfl ?_
        exact ⟨congrArg Value.int (es.trans (hsc.2.2.2.2 j hj).2.2.2.symm), IV_mov (iv_same_x (jr_eqx_rf [] _) (by decide)) h⟩
      · refine jr_enter (L := [some (.ref 0), some (.int (nI j)), some (.int (nI 2))]) (by decide) (Nat.le_of_ble_eq_true rfl) rfl ?_
        refine jr_aload_n 0 1 dX9_told_0 rfl rfl rfl ?_
        refine gf_X9_44 4 dX9_told_1 rfl rfl rfl rfl ?_
        refine jr_iload_n 1 5 dX9_told_4 rfl rfl rfl ?_
        refine cs_X9_146 8 dX9_told_5 rfl rfl rfl (Nat.le_of_ble_eq_true rfl) (wp_hasT_15 hnf h5 hj ?_)
        refine jr_if_ne 14 11 dX9_told_8 rfl rfl (fun q8 => ?_) (fun q => absurd q (by decide))
        refine jr_iload_n 2 15 dX9_told_14 rfl rfl rfl ?_
        refine jr_tableIn (off := 57) 72 dX9_told_15 (by decide) (by decide) (by decide) rfl ?_
        refine jr_aload_n 0 73 dX9_told_72 rfl rfl rfl ?_
        refine gf_X9_44 76 dX9_told_73 rfl rfl rfl rfl ?_
        refine gf_X9_161 79 dX9_told_76 rfl rfl rfl rfl ?_
        refine jr_iload_n 1 80 dX9_told_79 rfl rfl rfl ?_
        refine jr_iald rfl rfl (by omega) 81 dX9_told_80 rfl ?_
        refine jr_ireturn dX9_told_81 rfl rfl ?_
        refine jr_enter (L := [some (.ref 46), some (.int (nI j)), some (.int (nI 2))]) (by decide) (Nat.le_of_ble_eq_true rfl) rfl ?_
        refine jr_aload_n 0 1 dX10_told_0 rfl rfl rfl ?_
        refine jr_iload_n 1 2 dX10_told_1 rfl rfl rfl ?_
        refine cs_X10_204 5 dX10_told_2 rfl rfl rfl (Nat.le_of_ble_eq_true rfl) (wp_isFace rnf h5 (fun _ _ _ => ?_) (fun q => absurd q (jr_fcn hj (by omega))))
        refine jr_if_ne 11 8 dX10_told_5 rfl rfl (fun q5 => ?_) (fun q => absurd q (by decide))
        refine jr_iload_n 2 12 dX10_told_11 rfl rfl rfl ?_
        refine jr_tableIn (off := 54) 66 dX10_told_12 (by decide) (by decide) (by decide) rfl ?_
        refine jr_aload_n 0 67 dX10_told_66 rfl rfl rfl ?_
        refine gf_X10_13 70 dX10_told_67 rfl rfl rfl rfl ?_
        refine jr_iload_n 1 71 dX10_told_70 rfl rfl rfl ?_
        refine jr_iald rfl rfl (by omega) 72 dX10_told_71 rfl ?_
        refine jr_ireturn dX10_told_72 rfl rfl ?_
        exact ⟨congrArg Value.int (ek.trans (hsc.2.2.2.2 j hj).2.2.1.symm), IV_mov (iv_same_x (jr_eqx_rf [] _) (by decide)) h⟩
      · refine jr_enter (L := [some (.ref 0), some (.int (nI j)), some (.int (nI 3))]) (by decide) (Nat.le_of_ble_eq_true rfl) rfl ?_
        refine jr_aload_n 0 1 dX9_told_0 rfl rfl rfl ?_
        refine gf_X9_44 4 dX9_told_1 rfl rfl rfl rfl ?_
        refine jr_iload_n 1 5 dX9_told_4 rfl rfl rfl ?_
        refine cs_X9_146 8 dX9_told_5 rfl rfl rfl (Nat.le_of_ble_eq_true rfl) (wp_hasT_15 hnf h5 hj ?_)
        refine jr_if_ne 14 11 dX9_told_8 rfl rfl (fun q8 => ?_) (fun q => absurd q (by decide))
        refine jr_iload_n 2 15 dX9_told_14 rfl rfl rfl ?_
        refine jr_tableIn (off := 67) 82 dX9_told_15 (by decide) (by decide) (by decide) rfl ?_
        refine jr_aload_n 0 83 dX9_told_82 rfl rfl rfl ?_
        refine gf_X9_44 86 dX9_told_83 rfl rfl rfl rfl ?_
        refine gf_X9_164 89 dX9_told_86 rfl rfl rfl rfl ?_
        refine jr_iload_n 1 90 dX9_told_89 rfl rfl rfl ?_
        refine jr_iald rfl rfl (by omega) 91 dX9_told_90 rfl ?_
        refine jr_ireturn dX9_told_91 rfl rfl ?_
        refine jr_enter (L := [some (.ref 46), some (.int (nI j)), some (.int (nI 3))]) (by decide) (Nat.le_of_ble_eq_true rfl) rfl ?_
        refine jr_aload_n 0 1 dX10_told_0 rfl rfl rfl ?_
        refine jr_iload_n 1 2 dX10_told_1 rfl rfl rfl ?_
        refine cs_X10_204 5 dX10_told_2 rfl rfl rfl (Nat.le_of_ble_eq_true rfl) (wp_isFace rnf h5 (fun _ _ _ => ?_) (fun q => absurd q (jr_fcn hj (by omega))))
        refine jr_if_ne 11 8 dX10_told_5 rfl rfl (fun q5 => ?_) (fun q => absurd q (by decide))
        refine jr_iload_n 2 12 dX10_told_11 rfl rfl rfl ?_
        refine jr_tableIn (off := 61) 73 dX10_told_12 (by decide) (by decide) (by decide) rfl ?_
        refine jr_aload_n 0 74 dX10_told_73 rfl rfl rfl ?_
        refine gf_X10_16 77 dX10_told_74 rfl rfl rfl rfl ?_
        refine jr_iload_n 1 78 dX10_told_77 rfl rfl rfl ?_
        refine jr_iald rfl rfl (by omega) 79 dX10_told_78 rfl ?_
        refine jr_ireturn dX10_told_79 rfl rfl ?_
        exact ⟨congrArg Value.int ((hfc j hj).1.symm), IV_mov (iv_same_x (jr_eqx_rf [] _) (by decide)) h⟩
      · refine jr_enter (L := [some (.ref 0), some (.int (nI j)), some (.int (nI 4))]) (by decide) (Nat.le_of_ble_eq_true rfl) rfl ?_
        refine jr_aload_n 0 1 dX9_told_0 rfl rfl rfl ?_
        refine gf_X9_44 4 dX9_told_1 rfl rfl rfl rfl ?_
        refine jr_iload_n 1 5 dX9_told_4 rfl rfl rfl ?_
        refine cs_X9_146 8 dX9_told_5 rfl rfl rfl (Nat.le_of_ble_eq_true rfl) (wp_hasT_15 hnf h5 hj ?_)
        refine jr_if_ne 14 11 dX9_told_8 rfl rfl (fun q8 => ?_) (fun q => absurd q (by decide))
        refine jr_iload_n 2 15 dX9_told_14 rfl rfl rfl ?_
        refine jr_tableIn (off := 77) 92 dX9_told_15 (by decide) (by decide) (by decide) rfl ?_
        refine jr_aload_n 0 93 dX9_told_92 rfl rfl rfl ?_
        refine gf_X9_44 96 dX9_told_93 rfl rfl rfl rfl ?_
        refine jr_iload_n 1 97 dX9_told_96 rfl rfl rfl ?_
        refine cs_X9_167 100 dX9_told_97 rfl rfl rfl (Nat.le_of_ble_eq_true rfl) (wp_lightOf_15 hsc hj ?_)
        refine jr_ireturn dX9_told_100 rfl rfl ?_
        refine jr_enter (L := [some (.ref 46), some (.int (nI j)), some (.int (nI 4))]) (by decide) (Nat.le_of_ble_eq_true rfl) rfl ?_
        refine jr_aload_n 0 1 dX10_told_0 rfl rfl rfl ?_
        refine jr_iload_n 1 2 dX10_told_1 rfl rfl rfl ?_
        refine cs_X10_204 5 dX10_told_2 rfl rfl rfl (Nat.le_of_ble_eq_true rfl) (wp_isFace rnf h5 (fun _ _ _ => ?_) (fun q => absurd q (jr_fcn hj (by omega))))
        refine jr_if_ne 11 8 dX10_told_5 rfl rfl (fun q5 => ?_) (fun q => absurd q (by decide))
        refine jr_iload_n 2 12 dX10_told_11 rfl rfl rfl ?_
        refine jr_tableIn (off := 68) 80 dX10_told_12 (by decide) (by decide) (by decide) rfl ?_
        refine jr_aload_n 0 81 dX10_told_80 rfl rfl rfl ?_
        refine gf_X10_7 84 dX10_told_81 rfl rfl rfl rfl ?_
        refine jr_aload_n 0 85 dX10_told_84 rfl rfl rfl ?_
        refine gf_X10_22 88 dX10_told_85 rfl rfl rfl rfl ?_
        refine jr_iload_n 1 89 dX10_told_88 rfl rfl rfl ?_
        refine jr_iald rfl rfl (by omega) 90 dX10_told_89 rfl ?_
        refine jr_topi (y := nI (se j)) es ?_
        refine jr_iald rfl rfl (by omega) 91 dX10_told_90 rfl ?_
        refine jr_ireturn dX10_told_91 rfl rfl ?_
        exact ⟨congrArg Value.int (((hli _ hs8).1).symm), IV_mov (iv_same_x (jr_eqx_rf [] _) (by decide)) h⟩
      · refine jr_enter (L := [some (.ref 0), some (.int (nI j)), some (.int (nI 5))]) (by decide) (Nat.le_of_ble_eq_true rfl) rfl ?_
        refine jr_aload_n 0 1 dX9_told_0 rfl rfl rfl ?_
        refine gf_X9_44 4 dX9_told_1 rfl rfl rfl rfl ?_
        refine jr_iload_n 1 5 dX9_told_4 rfl rfl rfl ?_
        refine cs_X9_146 8 dX9_told_5 rfl rfl rfl (Nat.le_of_ble_eq_true rfl) (wp_hasT_15 hnf h5 hj ?_)
        refine jr_if_ne 14 11 dX9_told_8 rfl rfl (fun q8 => ?_) (fun q => absurd q (by decide))
        refine jr_iload_n 2 15 dX9_told_14 rfl rfl rfl ?_
        refine jr_tableIn (off := 86) 101 dX9_told_15 (by decide) (by decide) (by decide) rfl ?_
        refine jr_aload_n 0 102 dX9_told_101 rfl rfl rfl ?_
        refine gf_X9_44 105 dX9_told_102 rfl rfl rfl rfl ?_
        refine jr_iload_n 1 106 dX9_told_105 rfl rfl rfl ?_
        refine cs_X9_170 109 dX9_told_106 rfl rfl rfl (Nat.le_of_ble_eq_true rfl) (wp_sredFrom_15 hsc hj ?_)
        refine jr_ireturn dX9_told_109 rfl rfl ?_
        refine jr_enter (L := [some (.ref 46), some (.int (nI j)), some (.int (nI 5))]) (by decide) (Nat.le_of_ble_eq_true rfl) rfl ?_
        refine jr_aload_n 0 1 dX10_told_0 rfl rfl rfl ?_
        refine jr_iload_n 1 2 dX10_told_1 rfl rfl rfl ?_
        refine cs_X10_204 5 dX10_told_2 rfl rfl rfl (Nat.le_of_ble_eq_true rfl) (wp_isFace rnf h5 (fun _ _ _ => ?_) (fun q => absurd q (jr_fcn hj (by omega))))
        refine jr_if_ne 11 8 dX10_told_5 rfl rfl (fun q5 => ?_) (fun q => absurd q (by decide))
        refine jr_iload_n 2 12 dX10_told_11 rfl rfl rfl ?_
        refine jr_tableIn (off := 80) 92 dX10_told_12 (by decide) (by decide) (by decide) rfl ?_
        refine jr_aload_n 0 93 dX10_told_92 rfl rfl rfl ?_
        refine jr_iload_n 1 94 dX10_told_93 rfl rfl rfl ?_
        refine cs_X10_210 97 dX10_told_94 rfl rfl rfl (Nat.le_of_ble_eq_true rfl) (wp_redFrom (by omega) ek hk6 es hs8 ?_)
        refine jr_ireturn dX10_told_97 rfl rfl ?_
        exact ⟨congrArg Value.int (by rw [(hfc j hj).1, (hli _ hs8).1]), IV_mov (iv_same_x (jr_eqx_rf [] _) (by decide)) h⟩
theorem jr_fc8 (f : Int32) {nc : Nat} (h8 : nc ≤ 8) : (f < 0 ∨ nI nc ≤ f) ∨ ∃ j : Nat, j < nc ∧ f = nI j := by
  rcases pk_ix f (n := nc) (by omega) with q | q | q
  · exact Or.inl (Or.inl q)
  · exact Or.inl (Or.inr q)
  · exact Or.inr q
theorem in_m1 {a : Int32} {nc : Nat} (h8 : nc ≤ 8) (ha : a < 0 ∨ nI nc ≤ a) : ¬ (0 ≤ a ∧ a ≤ (if nc = 0 then (-1 : Int32) else nI (nc - 1))) := by
  rintro ⟨q1, q2⟩
  rcases ha with z | z
  · exact absurd z (Int32.not_lt.mpr q1)
  · by_cases e : nc = 0
    · rw [if_pos e] at q2; exact absurd (Int32.le_trans q1 q2) (by decide)
    · rw [if_neg e] at q2; exact absurd (Int32.le_trans z q2) (nI_ge (by omega) (by omega))
theorem pp_causeTold {G : jr_G} {d : Nat} {σ : jr_Sg} {a c : Int32} (h : IV σ) : jr_pair G (d + 20) mi_X9_causeTold mi_X10_causeTold [.int a, .int c] σ := by
  obtain ⟨T, n, nf, nc, kd, se, lw, tp, h⟩ := h
  have hh := h
  obtain ⟨hTC, hTR, ⟨hsc, hsr, hl1, hl2, hlw, hfc, hli, hca⟩, htp, himg, hsh, hrest, hwd⟩ := hh
  have hnf := hsc.1
  have h5 := hsc.2.1
  have hnc := hsc.2.2.1
  have h8 := hsc.2.2.2.1
  have rnf := hsr.1
  have rnc := hsr.2.2.1
  have hlm := hrest.2.2.2.1
  unfold jr_pair
  have nm1 : nI nc - 1 = if nc = 0 then -1 else nI (nc - 1) := by
    by_cases z : nc = 0
    · rw [if_pos z, z]; decide
    · rw [if_neg z, show (1 : Int32) = nI 1 from rfl, pk_sub (by omega)]
  rcases jr_fc8 a h8 with ha | ⟨i, hi, rfl⟩
  · rcases ha with ha | ha
    · refine jr_enter (L := [some (.ref 0), some (.int a), some (.int c)]) (by decide) (Nat.le_of_ble_eq_true rfl) rfl ?_
      refine jr_iload_n 1 1 dX9_causeTold_0 rfl rfl rfl ?_
      refine jr_if_lt 15 4 dX9_causeTold_1 rfl rfl (fun q1 => ?_) (fun q => absurd ha q)
      refine jr_bipush ((-5)) 17 dX9_causeTold_15 rfl rfl ?_
      refine jr_ireturn dX9_causeTold_17 rfl rfl ?_
      refine jr_enter (L := [some (.ref 46), some (.int a), some (.int c)]) (by decide) (Nat.le_of_ble_eq_true rfl) rfl ?_
      refine jr_iload_n 1 1 dX10_causeTold_0 rfl rfl rfl ?_
      refine jr_iconst (0) 2 dX10_causeTold_1 rfl rfl ?_
      refine jr_aload_n 0 3 dX10_causeTold_2 rfl rfl rfl ?_
      refine gf_X10_112 6 dX10_causeTold_3 rfl rfl rfl rfl ?_
      refine jr_iconst (1) 7 dX10_causeTold_6 rfl rfl ?_
      refine jr_isub 8 dX10_causeTold_7 rfl ?_
      rw [rnc, nm1]
      refine cs_X10_108 11 dX10_causeTold_8 rfl rfl (Nat.le_of_ble_eq_true rfl) (wp_in (fun a b => absurd ⟨a, b⟩ (in_m1 h8 (Or.inl ha))) (fun _ => ?_))
      refine jr_if_ne 17 14 dX10_causeTold_11 rfl rfl (fun q => absurd (by decide) q) (fun q11 => ?_)
      refine jr_bipush ((-5)) 16 dX10_causeTold_14 rfl rfl ?_
      refine jr_ireturn dX10_causeTold_16 rfl rfl ?_
      exact ⟨rfl, IV_mov (iv_same_x (jr_eqx_rf [] _) (by decide)) h⟩
    · have ha0 : ¬ a < 0 := Int32.not_lt.mpr (Int32.le_trans (nI_pos' (by omega)) ha)
      refine jr_enter (L := [some (.ref 0), some (.int a), some (.int c)]) (by decide) (Nat.le_of_ble_eq_true rfl) rfl ?_
      refine jr_iload_n 1 1 dX9_causeTold_0 rfl rfl rfl ?_
      refine jr_if_lt 15 4 dX9_causeTold_1 rfl rfl (fun q => absurd q ha0) (fun q1 => ?_)
      refine jr_iload_n 1 5 dX9_causeTold_4 rfl rfl rfl ?_
      refine jr_aload_n 0 6 dX9_causeTold_5 rfl rfl rfl ?_
      refine gf_X9_44 9 dX9_causeTold_6 rfl rfl rfl rfl ?_
      refine gf_X9_88 12 dX9_causeTold_9 rfl rfl rfl rfl ?_
      rw [hnc]
      refine jr_icmp_lt 18 15 dX9_causeTold_12 rfl rfl (fun q => absurd ha (Int32.not_le.mpr q)) (fun q12 => ?_)
      refine jr_bipush ((-5)) 17 dX9_causeTold_15 rfl rfl ?_
      refine jr_ireturn dX9_causeTold_17 rfl rfl ?_
      refine jr_enter (L := [some (.ref 46), some (.int a), some (.int c)]) (by decide) (Nat.le_of_ble_eq_true rfl) rfl ?_
      refine jr_iload_n 1 1 dX10_causeTold_0 rfl rfl rfl ?_
      refine jr_iconst (0) 2 dX10_causeTold_1 rfl rfl ?_
      refine jr_aload_n 0 3 dX10_causeTold_2 rfl rfl rfl ?_
      refine gf_X10_112 6 dX10_causeTold_3 rfl rfl rfl rfl ?_
      refine jr_iconst (1) 7 dX10_causeTold_6 rfl rfl ?_
      refine jr_isub 8 dX10_causeTold_7 rfl ?_
      rw [rnc, nm1]
      refine cs_X10_108 11 dX10_causeTold_8 rfl rfl (Nat.le_of_ble_eq_true rfl) (wp_in (fun a b => absurd ⟨a, b⟩ (in_m1 h8 (Or.inr ha))) (fun _ => ?_))
      refine jr_if_ne 17 14 dX10_causeTold_11 rfl rfl (fun q => absurd (by decide) q) (fun q11 => ?_)
      refine jr_bipush ((-5)) 16 dX10_causeTold_14 rfl rfl ?_
      refine jr_ireturn dX10_causeTold_16 rfl rfl ?_
      exact ⟨rfl, IV_mov (iv_same_x (jr_eqx_rf [] _) (by decide)) h⟩
  · rcases jr_rg c (m := 2) (by decide) with qc2 | ⟨c2, hc2, rfl⟩
    · have ht : c.toInt < 0 ∨ 2 < c.toInt := tab_out (m := 2) (by decide) qc2
      refine jr_enter (L := [some (.ref 0), some (.int (nI i)), some (.int c)]) (by decide) (Nat.le_of_ble_eq_true rfl) rfl ?_
      refine jr_iload_n 1 1 dX9_causeTold_0 rfl rfl rfl ?_
      refine jr_if_lt 15 4 dX9_causeTold_1 rfl rfl (fun q => absurd q (nI_pos (by omega))) (fun q1 => ?_)
      refine jr_iload_n 1 5 dX9_causeTold_4 rfl rfl rfl ?_
      refine jr_aload_n 0 6 dX9_causeTold_5 rfl rfl rfl ?_
      refine gf_X9_44 9 dX9_causeTold_6 rfl rfl rfl rfl ?_
      refine gf_X9_88 12 dX9_causeTold_9 rfl rfl rfl rfl ?_
      rw [hnc]
      refine jr_icmp_lt 18 15 dX9_causeTold_12 rfl rfl (fun q12 => ?_) (fun q => absurd (nI_lt hi (by omega)) q)
      refine jr_iload_n 2 19 dX9_causeTold_18 rfl rfl rfl ?_
      refine jr_tableOut 74 dX9_causeTold_19 ht rfl ?_
      refine jr_bipush ((-7)) 76 dX9_causeTold_74 rfl rfl ?_
      refine jr_ireturn dX9_causeTold_76 rfl rfl ?_
      refine jr_enter (L := [some (.ref 46), some (.int (nI i)), some (.int c)]) (by decide) (Nat.le_of_ble_eq_true rfl) rfl ?_
      refine jr_iload_n 1 1 dX10_causeTold_0 rfl rfl rfl ?_
      refine jr_iconst (0) 2 dX10_causeTold_1 rfl rfl ?_
      refine jr_aload_n 0 3 dX10_causeTold_2 rfl rfl rfl ?_
      refine gf_X10_112 6 dX10_causeTold_3 rfl rfl rfl rfl ?_
      refine jr_iconst (1) 7 dX10_causeTold_6 rfl rfl ?_
      refine jr_isub 8 dX10_causeTold_7 rfl ?_
      rw [rnc, nm1]
      refine cs_X10_108 11 dX10_causeTold_8 rfl rfl (Nat.le_of_ble_eq_true rfl) (wp_in (fun _ _ => ?_) (fun q => absurd ⟨nI_pos' (by omega), by rw [if_neg (by omega)]; exact nI_le (by omega) (by omega)⟩ q))
      refine jr_if_ne 17 14 dX10_causeTold_11 rfl rfl (fun q11 => ?_) (fun q => absurd q (by decide))
      refine jr_iload_n 2 18 dX10_causeTold_17 rfl rfl rfl ?_
      refine jr_iconst (0) 19 dX10_causeTold_18 rfl rfl ?_
      refine jr_iconst (2) 20 dX10_causeTold_19 rfl rfl ?_
      refine cs_X10_108 23 dX10_causeTold_20 rfl rfl (Nat.le_of_ble_eq_true rfl) (wp_inF qc2 ?_)
      refine jr_if_eq 39 26 dX10_causeTold_23 rfl rfl (fun q23 => ?_) (fun q => absurd (by decide) q)
      refine jr_bipush ((-7)) 41 dX10_causeTold_39 rfl rfl ?_
      refine jr_ireturn dX10_causeTold_41 rfl rfl ?_
      exact ⟨rfl, IV_mov (iv_same_x (jr_eqx_rf [] _) (by decide)) h⟩
    · rcases (by omega : c2 = 0 ∨ c2 = 1 ∨ c2 = 2) with rfl | rfl | rfl
      · refine jr_enter (L := [some (.ref 0), some (.int (nI i)), some (.int (nI 0))]) (by decide) (Nat.le_of_ble_eq_true rfl) rfl ?_
        refine jr_iload_n 1 1 dX9_causeTold_0 rfl rfl rfl ?_
        refine jr_if_lt 15 4 dX9_causeTold_1 rfl rfl (fun q => absurd q (nI_pos (by omega))) (fun q1 => ?_)
        refine jr_iload_n 1 5 dX9_causeTold_4 rfl rfl rfl ?_
        refine jr_aload_n 0 6 dX9_causeTold_5 rfl rfl rfl ?_
        refine gf_X9_44 9 dX9_causeTold_6 rfl rfl rfl rfl ?_
        refine gf_X9_88 12 dX9_causeTold_9 rfl rfl rfl rfl ?_
        rw [hnc]
        refine jr_icmp_lt 18 15 dX9_causeTold_12 rfl rfl (fun q12 => ?_) (fun q => absurd (nI_lt hi (by omega)) q)
        refine jr_iload_n 2 19 dX9_causeTold_18 rfl rfl rfl ?_
        refine jr_tableIn (off := 25) 44 dX9_causeTold_19 (by decide) (by decide) (by decide) rfl ?_
        refine jr_aload_n 0 45 dX9_causeTold_44 rfl rfl rfl ?_
        refine gf_X9_44 48 dX9_causeTold_45 rfl rfl rfl rfl ?_
        refine gf_X9_180 51 dX9_causeTold_48 rfl rfl rfl rfl ?_
        refine jr_iload_n 1 52 dX9_causeTold_51 rfl rfl rfl ?_
        refine jr_iald rfl rfl (by omega) 53 dX9_causeTold_52 rfl ?_
        refine jr_ireturn dX9_causeTold_53 rfl rfl ?_
        refine jr_enter (L := [some (.ref 46), some (.int (nI i)), some (.int (nI 0))]) (by decide) (Nat.le_of_ble_eq_true rfl) rfl ?_
        refine jr_iload_n 1 1 dX10_causeTold_0 rfl rfl rfl ?_
        refine jr_iconst (0) 2 dX10_causeTold_1 rfl rfl ?_
        refine jr_aload_n 0 3 dX10_causeTold_2 rfl rfl rfl ?_
        refine gf_X10_112 6 dX10_causeTold_3 rfl rfl rfl rfl ?_
        refine jr_iconst (1) 7 dX10_causeTold_6 rfl rfl ?_
        refine jr_isub 8 dX10_causeTold_7 rfl ?_
        rw [rnc, nm1]
        refine cs_X10_108 11 dX10_causeTold_8 rfl rfl (Nat.le_of_ble_eq_true rfl) (wp_in (fun _ _ => ?_) (fun q => absurd ⟨nI_pos' (by omega), by rw [if_neg (by omega)]; exact nI_le (by omega) (by omega)⟩ q))
        refine jr_if_ne 17 14 dX10_causeTold_11 rfl rfl (fun q11 => ?_) (fun q => absurd q (by decide))
        refine jr_iload_n 2 18 dX10_causeTold_17 rfl rfl rfl ?_
        refine jr_iconst (0) 19 dX10_causeTold_18 rfl rfl ?_
        refine jr_iconst (2) 20 dX10_causeTold_19 rfl rfl ?_
        refine cs_X10_108 23 dX10_causeTold_20 rfl rfl (Nat.le_of_ble_eq_true rfl) (wp_inT hc2 (by decide) rfl ?_)
        refine jr_if_eq 39 26 dX10_causeTold_23 rfl rfl (fun q => absurd q (by decide)) (fun q23 => ?_)
        refine jr_aload_n 0 27 dX10_causeTold_26 rfl rfl rfl ?_
        refine gf_X10_25 30 dX10_causeTold_27 rfl rfl rfl rfl ?_
        refine jr_iconst (nI 3) 31 dX10_causeTold_30 rfl rfl ?_
        refine jr_iload_n 1 32 dX10_causeTold_31 rfl rfl rfl ?_
        refine jr_imul 33 dX10_causeTold_32 rfl ?_
        refine jr_iload_n 2 34 dX10_causeTold_33 rfl rfl rfl ?_
        refine jr_iadd 35 dX10_causeTold_34 rfl ?_
        refine jr_iald rfl (show nI 3 * nI i + nI 0 = nI (3 * i + 0) by rw [pk_mul, nI_add]) (by omega) 36 dX10_causeTold_35 rfl ?_
        refine jr_goto 41 dX10_causeTold_36 rfl ?_
        refine jr_ireturn dX10_causeTold_41 rfl rfl ?_
        exact ⟨congrArg Value.int ((hca i hi).1.symm), IV_mov (iv_same_x (jr_eqx_rf [] _) (by decide)) h⟩
      · refine jr_enter (L := [some (.ref 0), some (.int (nI i)), some (.int (nI 1))]) (by decide) (Nat.le_of_ble_eq_true rfl) rfl ?_
        refine jr_iload_n 1 1 dX9_causeTold_0 rfl rfl rfl ?_
        refine jr_if_lt 15 4 dX9_causeTold_1 rfl rfl (fun q => absurd q (nI_pos (by omega))) (fun q1 => ?_)
        refine jr_iload_n 1 5 dX9_causeTold_4 rfl rfl rfl ?_
        refine jr_aload_n 0 6 dX9_causeTold_5 rfl rfl rfl ?_
        refine gf_X9_44 9 dX9_causeTold_6 rfl rfl rfl rfl ?_
        refine gf_X9_88 12 dX9_causeTold_9 rfl rfl rfl rfl ?_
        rw [hnc]
        refine jr_icmp_lt 18 15 dX9_causeTold_12 rfl rfl (fun q12 => ?_) (fun q => absurd (nI_lt hi (by omega)) q)
        refine jr_iload_n 2 19 dX9_causeTold_18 rfl rfl rfl ?_
        refine jr_tableIn (off := 35) 54 dX9_causeTold_19 (by decide) (by decide) (by decide) rfl ?_
        refine jr_aload_n 0 55 dX9_causeTold_54 rfl rfl rfl ?_
        refine gf_X9_44 58 dX9_causeTold_55 rfl rfl rfl rfl ?_
        refine gf_X9_183 61 dX9_causeTold_58 rfl rfl rfl rfl ?_
        refine jr_iload_n 1 62 dX9_causeTold_61 rfl rfl rfl ?_
        refine jr_iald rfl rfl (by omega) 63 dX9_causeTold_62 rfl ?_
        refine jr_ireturn dX9_causeTold_63 rfl rfl ?_
        refine jr_enter (L := [some (.ref 46), some (.int (nI i)), some (.int (nI 1))]) (by decide) (Nat.le_of_ble_eq_true rfl) rfl ?_
        refine jr_iload_n 1 1 dX10_causeTold_0 rfl rfl rfl ?_
        refine jr_iconst (0) 2 dX10_causeTold_1 rfl rfl ?_
        refine jr_aload_n 0 3 dX10_causeTold_2 rfl rfl rfl ?_
        refine gf_X10_112 6 dX10_causeTold_3 rfl rfl rfl rfl ?_
        refine jr_iconst (1) 7 dX10_causeTold_6 rfl rfl ?_
        refine jr_isub 8 dX10_causeTold_7 rfl ?_
        rw [rnc, nm1]
        refine cs_X10_108 11 dX10_causeTold_8 rfl rfl (Nat.le_of_ble_eq_true rfl) (wp_in (fun _ _ => ?_) (fun q => absurd ⟨nI_pos' (by omega), by rw [if_neg (by omega)]; exact nI_le (by omega) (by omega)⟩ q))
        refine jr_if_ne 17 14 dX10_causeTold_11 rfl rfl (fun q11 => ?_) (fun q => absurd q (by decide))
        refine jr_iload_n 2 18 dX10_causeTold_17 rfl rfl rfl ?_
        refine jr_iconst (0) 19 dX10_causeTold_18 rfl rfl ?_
        refine jr_iconst (2) 20 dX10_causeTold_19 rfl rfl ?_
        refine cs_X10_108 23 dX10_causeTold_20 rfl rfl (Nat.le_of_ble_eq_true rfl) (wp_inT hc2 (by decide) rfl ?_)
        refine jr_if_eq 39 26 dX10_causeTold_23 rfl rfl (fun q => absurd q (by decide)) (fun q23 => ?_)
        refine jr_aload_n 0 27 dX10_causeTold_26 rfl rfl rfl ?_
        refine gf_X10_25 30 dX10_causeTold_27 rfl rfl rfl rfl ?_
        refine jr_iconst (nI 3) 31 dX10_causeTold_30 rfl rfl ?_
        refine jr_iload_n 1 32 dX10_causeTold_31 rfl rfl rfl ?_
        refine jr_imul 33 dX10_causeTold_32 rfl ?_
        refine jr_iload_n 2 34 dX10_causeTold_33 rfl rfl rfl ?_
        refine jr_iadd 35 dX10_causeTold_34 rfl ?_
        refine jr_iald rfl (show nI 3 * nI i + nI 1 = nI (3 * i + 1) by rw [pk_mul, nI_add]) (by omega) 36 dX10_causeTold_35 rfl ?_
        refine jr_goto 41 dX10_causeTold_36 rfl ?_
        refine jr_ireturn dX10_causeTold_41 rfl rfl ?_
        exact ⟨congrArg Value.int ((hca i hi).2.1.symm), IV_mov (iv_same_x (jr_eqx_rf [] _) (by decide)) h⟩
      · refine jr_enter (L := [some (.ref 0), some (.int (nI i)), some (.int (nI 2))]) (by decide) (Nat.le_of_ble_eq_true rfl) rfl ?_
        refine jr_iload_n 1 1 dX9_causeTold_0 rfl rfl rfl ?_
        refine jr_if_lt 15 4 dX9_causeTold_1 rfl rfl (fun q => absurd q (nI_pos (by omega))) (fun q1 => ?_)
        refine jr_iload_n 1 5 dX9_causeTold_4 rfl rfl rfl ?_
        refine jr_aload_n 0 6 dX9_causeTold_5 rfl rfl rfl ?_
        refine gf_X9_44 9 dX9_causeTold_6 rfl rfl rfl rfl ?_
        refine gf_X9_88 12 dX9_causeTold_9 rfl rfl rfl rfl ?_
        rw [hnc]
        refine jr_icmp_lt 18 15 dX9_causeTold_12 rfl rfl (fun q12 => ?_) (fun q => absurd (nI_lt hi (by omega)) q)
        refine jr_iload_n 2 19 dX9_causeTold_18 rfl rfl rfl ?_
        refine jr_tableIn (off := 45) 64 dX9_causeTold_19 (by decide) (by decide) (by decide) rfl ?_
        refine jr_aload_n 0 65 dX9_causeTold_64 rfl rfl rfl ?_
        refine gf_X9_44 68 dX9_causeTold_65 rfl rfl rfl rfl ?_
        refine gf_X9_186 71 dX9_causeTold_68 rfl rfl rfl rfl ?_
        refine jr_iload_n 1 72 dX9_causeTold_71 rfl rfl rfl ?_
        refine jr_iald rfl rfl (by omega) 73 dX9_causeTold_72 rfl ?_
        refine jr_ireturn dX9_causeTold_73 rfl rfl ?_
        refine jr_enter (L := [some (.ref 46), some (.int (nI i)), some (.int (nI 2))]) (by decide) (Nat.le_of_ble_eq_true rfl) rfl ?_
        refine jr_iload_n 1 1 dX10_causeTold_0 rfl rfl rfl ?_
        refine jr_iconst (0) 2 dX10_causeTold_1 rfl rfl ?_
        refine jr_aload_n 0 3 dX10_causeTold_2 rfl rfl rfl ?_
        refine gf_X10_112 6 dX10_causeTold_3 rfl rfl rfl rfl ?_
        refine jr_iconst (1) 7 dX10_causeTold_6 rfl rfl ?_
        refine jr_isub 8 dX10_causeTold_7 rfl ?_
        rw [rnc, nm1]
        refine cs_X10_108 11 dX10_causeTold_8 rfl rfl (Nat.le_of_ble_eq_true rfl) (wp_in (fun _ _ => ?_) (fun q => absurd ⟨nI_pos' (by omega), by rw [if_neg (by omega)]; exact nI_le (by omega) (by omega)⟩ q))
        refine jr_if_ne 17 14 dX10_causeTold_11 rfl rfl (fun q11 => ?_) (fun q => absurd q (by decide))
        refine jr_iload_n 2 18 dX10_causeTold_17 rfl rfl rfl ?_
        refine jr_iconst (0) 19 dX10_causeTold_18 rfl rfl ?_
        refine jr_iconst (2) 20 dX10_causeTold_19 rfl rfl ?_
        refine cs_X10_108 23 dX10_causeTold_20 rfl rfl (Nat.le_of_ble_eq_true rfl) (wp_inT hc2 (by decide) rfl ?_)
        refine jr_if_eq 39 26 dX10_causeTold_23 rfl rfl (fun q => absurd q (by decide)) (fun q23 => ?_)
        refine jr_aload_n 0 27 dX10_causeTold_26 rfl rfl rfl ?_
        refine gf_X10_25 30 dX10_causeTold_27 rfl rfl rfl rfl ?_
        refine jr_iconst (nI 3) 31 dX10_causeTold_30 rfl rfl ?_
        refine jr_iload_n 1 32 dX10_causeTold_31 rfl rfl rfl ?_
        refine jr_imul 33 dX10_causeTold_32 rfl ?_
        refine jr_iload_n 2 34 dX10_causeTold_33 rfl rfl rfl ?_
        refine jr_iadd 35 dX10_causeTold_34 rfl ?_
        refine jr_iald rfl (show nI 3 * nI i + nI 2 = nI (3 * i + 2) by rw [pk_mul, nI_add]) (by omega) 36 dX10_causeTold_35 rfl ?_
        refine jr_goto 41 dX10_causeTold_36 rfl ?_
        refine jr_ireturn dX10_causeTold_41 rfl rfl ?_
        exact ⟨congrArg Value.int ((hca i hi).2.2.symm), IV_mov (iv_same_x (jr_eqx_rf [] _) (by decide)) h⟩
theorem iv_law {T : Nat → Nat → List Nat} {n nf nc : Nat} {kd se : Nat → Nat} {lw tp t : Nat} {σ : jr_Sg} (h : iv T n nf nc kd se lw tp σ) (ht : t < n) : iv T n nf nc kd se t tp (jr_up (jr_up σ 15 10 (nI t)) 46 13 (nI t)) := by
  obtain ⟨a1, a2, ⟨b1, b2, b3, b4, b5, b6, b7, b8⟩, a4, a5, a6, a7, a8⟩ := h
  exact ⟨a1, a2, ⟨b1, b2, rfl, rfl, ht, b6, b7, b8⟩, a4, a5, a6, a7, a8⟩
theorem pp_force {G : jr_G} {d : Nat} {σ : jr_Sg} {a : Int32} (h : IV σ) : jr_pair G (d + 20) mi_X9_force mi_X10_force [.int a] σ := by
  obtain ⟨T, n, nf, nc, kd, se, lw, tp, h⟩ := h
  have hh := h
  obtain ⟨hTC, hTR, ⟨hsc, hsr, hl1, hl2, hlw, hfc, hli, hca⟩, htp, himg, hsh, hrest, hwd⟩ := hh
  have hnf := hsc.1
  have h5 := hsc.2.1
  have hnc := hsc.2.2.1
  have h8 := hsc.2.2.2.1
  have rnf := hsr.1
  have rnc := hsr.2.2.1
  have hlm := hrest.2.2.2.1
  unfold jr_pair
  have hn6 : n ≤ 6 := hTC.2.1
  have en : σ 1 4 = nI n := hTC.1
  have en2 : σ 46 12 = nI n := hTR.1
  have nm1 : nI n - 1 = if n = 0 then -1 else nI (n - 1) := by
    by_cases z : n = 0
    · rw [if_pos z, z]; decide
    · rw [if_neg z, show (1 : Int32) = nI 1 from rfl, pk_sub (by omega)]
  rcases jr_fc8 a (nc := n) (by omega) with ha | ⟨i, hi, rfl⟩
  · rcases ha with ha | ha
    · refine jr_enter (L := [some (.ref 0), some (.int a), none]) (by decide) (Nat.le_of_ble_eq_true rfl) rfl ?_
      refine jr_iload_n 1 1 dX9_force_0 rfl rfl rfl ?_
      refine jr_if_lt 15 4 dX9_force_1 rfl rfl (fun q1 => ?_) (fun q => absurd ha q)
      refine jr_bipush ((-2)) 17 dX9_force_15 rfl rfl ?_
      refine jr_ireturn dX9_force_17 rfl rfl ?_
      refine jr_enter (L := [some (.ref 46), some (.int a), none]) (by decide) (Nat.le_of_ble_eq_true rfl) rfl ?_
      refine jr_iload_n 1 1 dX10_force_0 rfl rfl rfl ?_
      refine jr_iconst (0) 2 dX10_force_1 rfl rfl ?_
      refine jr_aload_n 0 3 dX10_force_2 rfl rfl rfl ?_
      refine gf_X10_115 6 dX10_force_3 rfl rfl rfl rfl ?_
      refine jr_iconst (1) 7 dX10_force_6 rfl rfl ?_
      refine jr_isub 8 dX10_force_7 rfl ?_
      rw [en2, nm1]
      refine cs_X10_108 11 dX10_force_8 rfl rfl (Nat.le_of_ble_eq_true rfl) (wp_in (fun a b => absurd ⟨a, b⟩ (in_m1 (by omega) (Or.inl ha))) (fun _ => ?_))
      refine jr_if_ne 17 14 dX10_force_11 rfl rfl (fun q => absurd (by decide) q) (fun q11 => ?_)
      refine jr_bipush ((-2)) 16 dX10_force_14 rfl rfl ?_
      refine jr_ireturn dX10_force_16 rfl rfl ?_
      exact ⟨rfl, IV_mov (iv_same_x (jr_eqx_rf [] _) (by decide)) h⟩
    · have ha0 : ¬ a < 0 := Int32.not_lt.mpr (Int32.le_trans (nI_pos' (by omega)) ha)
      refine jr_enter (L := [some (.ref 0), some (.int a), none]) (by decide) (Nat.le_of_ble_eq_true rfl) rfl ?_
      refine jr_iload_n 1 1 dX9_force_0 rfl rfl rfl ?_
      refine jr_if_lt 15 4 dX9_force_1 rfl rfl (fun q => absurd q ha0) (fun q1 => ?_)
      refine jr_iload_n 1 5 dX9_force_4 rfl rfl rfl ?_
      refine jr_aload_n 0 6 dX9_force_5 rfl rfl rfl ?_
      refine gf_X9_10 9 dX9_force_6 rfl rfl rfl rfl ?_
      refine gf_X9_91 12 dX9_force_9 rfl rfl rfl rfl ?_
      rw [en]
      refine jr_icmp_lt 18 15 dX9_force_12 rfl rfl (fun q => absurd ha (Int32.not_le.mpr q)) (fun q12 => ?_)
      refine jr_bipush ((-2)) 17 dX9_force_15 rfl rfl ?_
      refine jr_ireturn dX9_force_17 rfl rfl ?_
      refine jr_enter (L := [some (.ref 46), some (.int a), none]) (by decide) (Nat.le_of_ble_eq_true rfl) rfl ?_
      refine jr_iload_n 1 1 dX10_force_0 rfl rfl rfl ?_
      refine jr_iconst (0) 2 dX10_force_1 rfl rfl ?_
      refine jr_aload_n 0 3 dX10_force_2 rfl rfl rfl ?_
      refine gf_X10_115 6 dX10_force_3 rfl rfl rfl rfl ?_
      refine jr_iconst (1) 7 dX10_force_6 rfl rfl ?_
      refine jr_isub 8 dX10_force_7 rfl ?_
      rw [en2, nm1]
      refine cs_X10_108 11 dX10_force_8 rfl rfl (Nat.le_of_ble_eq_true rfl) (wp_in (fun a b => absurd ⟨a, b⟩ (in_m1 (by omega) (Or.inr ha))) (fun _ => ?_))
      refine jr_if_ne 17 14 dX10_force_11 rfl rfl (fun q => absurd (by decide) q) (fun q11 => ?_)
      refine jr_bipush ((-2)) 16 dX10_force_14 rfl rfl ?_
      refine jr_ireturn dX10_force_16 rfl rfl ?_
      exact ⟨rfl, IV_mov (iv_same_x (jr_eqx_rf [] _) (by decide)) h⟩
  · refine jr_enter (L := [some (.ref 0), some (.int (nI i)), none]) (by decide) (Nat.le_of_ble_eq_true rfl) rfl ?_
    refine jr_iload_n 1 1 dX9_force_0 rfl rfl rfl ?_
    refine jr_if_lt 15 4 dX9_force_1 rfl rfl (fun q => absurd q (nI_pos (by omega))) (fun q1 => ?_)
    refine jr_iload_n 1 5 dX9_force_4 rfl rfl rfl ?_
    refine jr_aload_n 0 6 dX9_force_5 rfl rfl rfl ?_
    refine gf_X9_10 9 dX9_force_6 rfl rfl rfl rfl ?_
    refine gf_X9_91 12 dX9_force_9 rfl rfl rfl rfl ?_
    rw [en]
    refine jr_icmp_lt 18 15 dX9_force_12 rfl rfl (fun q12 => ?_) (fun q => absurd (nI_lt hi (by omega)) q)
    refine jr_aload_n 0 19 dX9_force_18 rfl rfl rfl ?_
    refine gf_X9_44 22 dX9_force_19 rfl rfl rfl rfl ?_
    refine gf_X9_94 25 dX9_force_22 rfl rfl rfl rfl ?_
    refine jr_istore_n 2 (L' := [_, _, _]) 26 dX9_force_25 rfl rfl (by decide) rfl ?_
    refine jr_aload_n 0 27 dX9_force_26 rfl rfl rfl ?_
    refine gf_X9_44 30 dX9_force_27 rfl rfl rfl rfl ?_
    refine jr_iload_n 1 31 dX9_force_30 rfl rfl rfl ?_
    refine pf_X9_94 34 dX9_force_31 rfl rfl rfl rfl ?_
    refine jr_iload_n 2 35 dX9_force_34 rfl rfl rfl ?_
    refine jr_ireturn dX9_force_35 rfl rfl ?_
    refine jr_enter (L := [some (.ref 46), some (.int (nI i)), none]) (by decide) (Nat.le_of_ble_eq_true rfl) rfl ?_
    refine jr_iload_n 1 1 dX10_force_0 rfl rfl rfl ?_
    refine jr_iconst (0) 2 dX10_force_1 rfl rfl ?_
    refine jr_aload_n 0 3 dX10_force_2 rfl rfl rfl ?_
    refine gf_X10_115 6 dX10_force_3 rfl rfl rfl rfl ?_
    refine jr_topi (y := nI n) en2 ?_
    refine jr_iconst (1) 7 dX10_force_6 rfl rfl ?_
    refine jr_isub 8 dX10_force_7 rfl ?_
    rw [nm1]
    refine cs_X10_108 11 dX10_force_8 rfl rfl (Nat.le_of_ble_eq_true rfl) (wp_in (fun _ _ => ?_) (fun q => absurd ⟨nI_pos' (by omega), by rw [if_neg (by omega)]; exact nI_le (by omega) (by omega)⟩ q))
    refine jr_if_ne 17 14 dX10_force_11 rfl rfl (fun q11 => ?_) (fun q => absurd q (by decide))
    refine jr_aload_n 0 18 dX10_force_17 rfl rfl rfl ?_
    refine gf_X10_118 21 dX10_force_18 rfl rfl rfl rfl ?_
    refine jr_istore_n 2 (L' := [_, _, _]) 22 dX10_force_21 rfl rfl (by decide) rfl ?_
    refine jr_aload_n 0 23 dX10_force_22 rfl rfl rfl ?_
    refine jr_iload_n 1 24 dX10_force_23 rfl rfl rfl ?_
    refine pf_X10_118 27 dX10_force_24 rfl rfl rfl rfl ?_
    refine jr_iload_n 2 28 dX10_force_27 rfl rfl rfl ?_
    refine jr_ireturn dX10_force_28 rfl rfl ?_
    exact ⟨congrArg Value.int (hl2.trans hl1.symm), T, n, nf, nc, kd, se, i, tp, iv_law h hi⟩
theorem pp_warm {G : jr_G} {d : Nat} {σ : jr_Sg} {f c : Int32} (h : IV σ) : jr_pair G (d + 20) mi_X9_warm mi_X10_warm [.int f, .int c] σ := by
  obtain ⟨T, n, nf, nc, kd, se, lw, tp, h⟩ := h
  have hh := h
  obtain ⟨hTC, hTR, ⟨hsc, hsr, hl1, hl2, hlw, hfc, hli, hca⟩, htp, himg, hsh, hrest, hwd⟩ := hh
  have hnf := hsc.1
  have h5 := hsc.2.1
  have hnc := hsc.2.2.1
  have h8 := hsc.2.2.2.1
  have rnf := hsr.1
  have rnc := hsr.2.2.1
  have hlm := hrest.2.2.2.1
  unfold jr_pair
  rcases jr_fc f h5 with hf | ⟨j, hj, rfl⟩
  · refine jr_enter (L := [some (.ref 0), some (.int f), some (.int c), none]) (by decide) (Nat.le_of_ble_eq_true rfl) rfl ?_
    refine jr_aload_n 0 1 dX9_warm_0 rfl rfl rfl ?_
    refine gf_X9_44 4 dX9_warm_1 rfl rfl rfl rfl ?_
    refine jr_iload_n 1 5 dX9_warm_4 rfl rfl rfl ?_
    refine cs_X9_146 8 dX9_warm_5 rfl rfl rfl (Nat.le_of_ble_eq_true rfl) (wp_has_15 hnf h5 (fun j hj e => absurd hf (by rw [e]; exact jr_fcn hj (by omega))) (fun _ => ?_))
    refine jr_if_ne 14 11 dX9_warm_8 rfl rfl (fun q => absurd (by decide) q) (fun q8 => ?_)
    refine jr_bipush ((-5)) 13 dX9_warm_11 rfl rfl ?_
    refine jr_ireturn dX9_warm_13 rfl rfl ?_
    refine jr_enter (L := [some (.ref 46), some (.int f), some (.int c), none]) (by decide) (Nat.le_of_ble_eq_true rfl) rfl ?_
    refine jr_aload_n 0 1 dX10_warm_0 rfl rfl rfl ?_
    refine jr_iload_n 1 2 dX10_warm_1 rfl rfl rfl ?_
    refine cs_X10_204 5 dX10_warm_2 rfl rfl rfl (Nat.le_of_ble_eq_true rfl) (wp_isFace rnf h5 (fun j hj e => absurd hf (by rw [e]; exact jr_fcn hj (by omega))) (fun _ => ?_))
    refine jr_if_ne 11 8 dX10_warm_5 rfl rfl (fun q => absurd (by decide) q) (fun q5 => ?_)
    refine jr_bipush ((-5)) 10 dX10_warm_8 rfl rfl ?_
    refine jr_ireturn dX10_warm_10 rfl rfl ?_
    exact ⟨rfl, IV_mov (iv_same_x (jr_eqx_rf [] _) (by decide)) h⟩
  · rcases jr_rg c (m := 400) (by decide) with qc2 | ⟨c2, hc2, rfl⟩
    · refine jr_enter (L := [some (.ref 0), some (.int (nI j)), some (.int c), none]) (by decide) (Nat.le_of_ble_eq_true rfl) rfl ?_
      refine jr_aload_n 0 1 dX9_warm_0 rfl rfl rfl ?_
      refine gf_X9_44 4 dX9_warm_1 rfl rfl rfl rfl ?_
      refine jr_iload_n 1 5 dX9_warm_4 rfl rfl rfl ?_
      refine cs_X9_146 8 dX9_warm_5 rfl rfl rfl (Nat.le_of_ble_eq_true rfl) (wp_hasT_15 hnf h5 hj ?_)
      refine jr_if_ne 14 11 dX9_warm_8 rfl rfl (fun q8 => ?_) (fun q => absurd q (by decide))
      refine jr_iload_n 2 15 dX9_warm_14 rfl rfl rfl ?_
      refine jr_sipush (400) 18 dX9_warm_15 rfl rfl ?_
      refine cs_X9_104 21 dX9_warm_18 rfl rfl (Nat.le_of_ble_eq_true rfl) (wp_wiF qc2 ?_)
      refine jr_if_ne 27 24 dX9_warm_21 rfl rfl (fun q => absurd (by decide) q) (fun q21 => ?_)
      refine jr_bipush ((-7)) 26 dX9_warm_24 rfl rfl ?_
      refine jr_ireturn dX9_warm_26 rfl rfl ?_
      refine jr_enter (L := [some (.ref 46), some (.int (nI j)), some (.int c), none]) (by decide) (Nat.le_of_ble_eq_true rfl) rfl ?_
      refine jr_aload_n 0 1 dX10_warm_0 rfl rfl rfl ?_
      refine jr_iload_n 1 2 dX10_warm_1 rfl rfl rfl ?_
      refine cs_X10_204 5 dX10_warm_2 rfl rfl rfl (Nat.le_of_ble_eq_true rfl) (wp_isFace rnf h5 (fun _ _ _ => ?_) (fun q => absurd q (jr_fcn hj (by omega))))
      refine jr_if_ne 11 8 dX10_warm_5 rfl rfl (fun q5 => ?_) (fun q => absurd q (by decide))
      refine jr_iload_n 2 12 dX10_warm_11 rfl rfl rfl ?_
      refine cs_X10_191 15 dX10_warm_12 rfl rfl (Nat.le_of_ble_eq_true rfl) (wp_risMuch (fun a b => absurd ⟨a, b⟩ qc2) (fun _ => ?_))
      refine jr_if_ne 21 18 dX10_warm_15 rfl rfl (fun q => absurd (by decide) q) (fun q15 => ?_)
      refine jr_bipush ((-7)) 20 dX10_warm_18 rfl rfl ?_
      refine jr_ireturn dX10_warm_20 rfl rfl ?_
      exact ⟨rfl, IV_mov (iv_same_x (jr_eqx_rf [] _) (by decide)) h⟩
    · refine jr_enter (L := [some (.ref 0), some (.int (nI j)), some (.int (nI c2)), none]) (by decide) (Nat.le_of_ble_eq_true rfl) rfl ?_
      refine jr_aload_n 0 1 dX9_warm_0 rfl rfl rfl ?_
      refine gf_X9_44 4 dX9_warm_1 rfl rfl rfl rfl ?_
      refine jr_iload_n 1 5 dX9_warm_4 rfl rfl rfl ?_
      refine cs_X9_146 8 dX9_warm_5 rfl rfl rfl (Nat.le_of_ble_eq_true rfl) (wp_hasT_15 hnf h5 hj ?_)
      refine jr_if_ne 14 11 dX9_warm_8 rfl rfl (fun q8 => ?_) (fun q => absurd q (by decide))
      refine jr_iload_n 2 15 dX9_warm_14 rfl rfl rfl ?_
      refine jr_sipush (400) 18 dX9_warm_15 rfl rfl ?_
      refine cs_X9_104 21 dX9_warm_18 rfl rfl (Nat.le_of_ble_eq_true rfl) (wp_wiT hc2 (by decide) rfl ?_)
      refine jr_if_ne 27 24 dX9_warm_21 rfl rfl (fun q21 => ?_) (fun q => absurd q (by decide))
      refine jr_aload_n 0 28 dX9_warm_27 rfl rfl rfl ?_
      refine gf_X9_44 31 dX9_warm_28 rfl rfl rfl rfl ?_
      refine gf_X9_149 34 dX9_warm_31 rfl rfl rfl rfl ?_
      refine jr_iload_n 1 35 dX9_warm_34 rfl rfl rfl ?_
      refine jr_iald rfl rfl (by omega) 36 dX9_warm_35 rfl ?_
      refine jr_istore_n 3 (L' := [_, _, _, _]) 37 dX9_warm_36 rfl rfl (by decide) rfl ?_
      refine jr_aload_n 0 38 dX9_warm_37 rfl rfl rfl ?_
      refine gf_X9_44 41 dX9_warm_38 rfl rfl rfl rfl ?_
      refine gf_X9_149 44 dX9_warm_41 rfl rfl rfl rfl ?_
      refine jr_iload_n 1 45 dX9_warm_44 rfl rfl rfl ?_
      refine jr_iload_n 2 46 dX9_warm_45 rfl rfl rfl ?_
      refine jr_iast rfl rfl (by omega) 47 dX9_warm_46 rfl ?_
      refine jr_iload_n 3 48 dX9_warm_47 rfl rfl rfl ?_
      refine jr_ireturn dX9_warm_48 rfl rfl ?_
      refine jr_enter (L := [some (.ref 46), some (.int (nI j)), some (.int (nI c2)), none]) (by decide) (Nat.le_of_ble_eq_true rfl) rfl ?_
      refine jr_aload_n 0 1 dX10_warm_0 rfl rfl rfl ?_
      refine jr_iload_n 1 2 dX10_warm_1 rfl rfl rfl ?_
      refine cs_X10_204 5 dX10_warm_2 rfl rfl rfl (Nat.le_of_ble_eq_true rfl) (wp_isFace rnf h5 (fun _ _ _ => ?_) (fun q => absurd q (jr_fcn hj (by omega))))
      refine jr_if_ne 11 8 dX10_warm_5 rfl rfl (fun q5 => ?_) (fun q => absurd q (by decide))
      refine jr_iload_n 2 12 dX10_warm_11 rfl rfl rfl ?_
      refine cs_X10_191 15 dX10_warm_12 rfl rfl (Nat.le_of_ble_eq_true rfl) (wp_risMuch (fun _ _ => ?_) (fun q => absurd ⟨nI_pos' (by omega), nI_le (b := 400) hc2 (by omega)⟩ q))
      refine jr_if_ne 21 18 dX10_warm_15 rfl rfl (fun q15 => ?_) (fun q => absurd q (by decide))
      refine jr_aload_n 0 22 dX10_warm_21 rfl rfl rfl ?_
      refine gf_X10_19 25 dX10_warm_22 rfl rfl rfl rfl ?_
      refine jr_iload_n 1 26 dX10_warm_25 rfl rfl rfl ?_
      refine jr_iald rfl rfl (by omega) 27 dX10_warm_26 rfl ?_
      refine jr_istore_n 3 (L' := [_, _, _, _]) 28 dX10_warm_27 rfl rfl (by decide) rfl ?_
      refine jr_aload_n 0 29 dX10_warm_28 rfl rfl rfl ?_
      refine gf_X10_19 32 dX10_warm_29 rfl rfl rfl rfl ?_
      refine jr_iload_n 1 33 dX10_warm_32 rfl rfl rfl ?_
      refine jr_iload_n 2 34 dX10_warm_33 rfl rfl rfl ?_
      refine jr_iast rfl rfl (by omega) 35 dX10_warm_34 rfl ?_
      refine jr_iload_n 3 36 dX10_warm_35 rfl rfl rfl ?_
      refine jr_ireturn dX10_warm_36 rfl rfl ?_
      refine ⟨congrArg Value.int (hfc j hj).2.1.symm, T, n, nf, nc, kd, se, lw, tp, iv_warm h (fun a ha e1 e5 => ?_) (fun k hk => rfl) (fun f hf => ?_)⟩
      · unfold jr_up
        rw [if_neg e5, if_neg e1]
      · show upd (σ 18) j (nI c2) f = upd (σ 50) j (nI c2) f ∧ ∃ v : Nat, v ≤ 400 ∧ upd (σ 50) j (nI c2) f = nI v
        by_cases e : f = j
        · subst e; rw [pk_us, pk_us]; exact ⟨rfl, c2, hc2, rfl⟩
        · rw [pk_un e, pk_un e]; exact (hfc f hf).2
theorem iv_lamp {T : Nat → Nat → List Nat} {n nf nc : Nat} {kd se : Nat → Nat} {lw tp s v : Nat} {σ : jr_Sg} (h : iv T n nf nc kd se lw tp σ) (hv : v ≤ 9) : iv T n nf nc kd se lw tp (jr_up (jr_up σ 20 s (nI v)) 47 s (nI v)) := by
  obtain ⟨a1, a2, ⟨b1, b2, b3, b4, b5, b6, b7, b8⟩, a4, a5, a6, a7, a8⟩ := h
  refine ⟨a1, a2, ⟨b1, b2, b3, b4, b5, b6, fun x hx => ?_, b8⟩, a4, a5, a6, a7, a8⟩
  show upd (σ 20) s (nI v) x = upd (σ 47) s (nI v) x ∧ ∃ u : Nat, u ≤ 9 ∧ upd (σ 47) s (nI v) x = nI u
  by_cases e : x = s
  · subst e; rw [pk_us, pk_us]; exact ⟨rfl, v, hv, rfl⟩
  · rw [pk_un e, pk_un e]; exact b7 x hx
theorem pp_lamp {G : jr_G} {d : Nat} {σ : jr_Sg} {f c : Int32} (h : IV σ) : jr_pair G (d + 20) mi_X9_lamp mi_X10_lamp [.int f, .int c] σ := by
  obtain ⟨T, n, nf, nc, kd, se, lw, tp, h⟩ := h
  have hh := h
  obtain ⟨hTC, hTR, ⟨hsc, hsr, hl1, hl2, hlw, hfc, hli, hca⟩, htp, himg, hsh, hrest, hwd⟩ := hh
  have hnf := hsc.1
  have h5 := hsc.2.1
  have hnc := hsc.2.2.1
  have h8 := hsc.2.2.2.1
  have rnf := hsr.1
  have rnc := hsr.2.2.1
  have hlm := hrest.2.2.2.1
  unfold jr_pair
  rcases jr_rg f (m := 7) (by decide) with qj | ⟨j, hj, rfl⟩
  · refine jr_enter (L := [some (.ref 0), some (.int f), some (.int c), none]) (by decide) (Nat.le_of_ble_eq_true rfl) rfl ?_
    refine jr_iload_n 1 1 dX9_lamp_0 rfl rfl rfl ?_
    refine cs_X9_135 4 dX9_lamp_1 rfl rfl (Nat.le_of_ble_eq_true rfl) (wp_isSeat (fun a b => absurd ⟨a, b⟩ qj) (fun _ => ?_))
    refine jr_if_ne 10 7 dX9_lamp_4 rfl rfl (fun q => absurd (by decide) q) (fun q4 => ?_)
    refine jr_bipush ((-5)) 9 dX9_lamp_7 rfl rfl ?_
    refine jr_ireturn dX9_lamp_9 rfl rfl ?_
    refine jr_enter (L := [some (.ref 46), some (.int f), some (.int c), none]) (by decide) (Nat.le_of_ble_eq_true rfl) rfl ?_
    refine jr_iload_n 1 1 dX10_lamp_0 rfl rfl rfl ?_
    refine cs_X10_198 4 dX10_lamp_1 rfl rfl (Nat.le_of_ble_eq_true rfl) (wp_risSeat (fun a b => absurd ⟨a, b⟩ qj) (fun _ => ?_))
    refine jr_if_ne 10 7 dX10_lamp_4 rfl rfl (fun q => absurd (by decide) q) (fun q4 => ?_)
    refine jr_bipush ((-5)) 9 dX10_lamp_7 rfl rfl ?_
    refine jr_ireturn dX10_lamp_9 rfl rfl ?_
    exact ⟨rfl, IV_mov (iv_same_x (jr_eqx_rf [] _) (by decide)) h⟩
  · rcases jr_rg c (m := 9) (by decide) with qc2 | ⟨c2, hc2, rfl⟩
    · refine jr_enter (L := [some (.ref 0), some (.int (nI j)), some (.int c), none]) (by decide) (Nat.le_of_ble_eq_true rfl) rfl ?_
      refine jr_iload_n 1 1 dX9_lamp_0 rfl rfl rfl ?_
      refine cs_X9_135 4 dX9_lamp_1 rfl rfl (Nat.le_of_ble_eq_true rfl) (wp_isSeat (fun _ _ => ?_) (fun q => absurd ⟨nI_pos' (by omega), nI_le (b := 7) hj (by decide)⟩ q))
      refine jr_if_ne 10 7 dX9_lamp_4 rfl rfl (fun q4 => ?_) (fun q => absurd q (by decide))
      refine jr_iload_n 2 11 dX9_lamp_10 rfl rfl rfl ?_
      refine jr_bipush (9) 13 dX9_lamp_11 rfl rfl ?_
      refine cs_X9_104 16 dX9_lamp_13 rfl rfl (Nat.le_of_ble_eq_true rfl) (wp_wiF qc2 ?_)
      refine jr_if_ne 22 19 dX9_lamp_16 rfl rfl (fun q => absurd (by decide) q) (fun q16 => ?_)
      refine jr_bipush ((-7)) 21 dX9_lamp_19 rfl rfl ?_
      refine jr_ireturn dX9_lamp_21 rfl rfl ?_
      refine jr_enter (L := [some (.ref 46), some (.int (nI j)), some (.int c), none]) (by decide) (Nat.le_of_ble_eq_true rfl) rfl ?_
      refine jr_iload_n 1 1 dX10_lamp_0 rfl rfl rfl ?_
      refine cs_X10_198 4 dX10_lamp_1 rfl rfl (Nat.le_of_ble_eq_true rfl) (wp_risSeat (fun _ _ => ?_) (fun q => absurd ⟨nI_pos' (by omega), nI_le (b := 7) hj (by decide)⟩ q))
      refine jr_if_ne 10 7 dX10_lamp_4 rfl rfl (fun q4 => ?_) (fun q => absurd q (by decide))
      refine jr_iload_n 2 11 dX10_lamp_10 rfl rfl rfl ?_
      refine jr_iconst (0) 12 dX10_lamp_11 rfl rfl ?_
      refine jr_bipush (9) 14 dX10_lamp_12 rfl rfl ?_
      refine cs_X10_108 17 dX10_lamp_14 rfl rfl (Nat.le_of_ble_eq_true rfl) (wp_inF qc2 ?_)
      refine jr_if_ne 23 20 dX10_lamp_17 rfl rfl (fun q => absurd (by decide) q) (fun q17 => ?_)
      refine jr_bipush ((-7)) 22 dX10_lamp_20 rfl rfl ?_
      refine jr_ireturn dX10_lamp_22 rfl rfl ?_
      exact ⟨rfl, IV_mov (iv_same_x (jr_eqx_rf [] _) (by decide)) h⟩
    · refine jr_enter (L := [some (.ref 0), some (.int (nI j)), some (.int (nI c2)), none]) (by decide) (Nat.le_of_ble_eq_true rfl) rfl ?_
      refine jr_iload_n 1 1 dX9_lamp_0 rfl rfl rfl ?_
      refine cs_X9_135 4 dX9_lamp_1 rfl rfl (Nat.le_of_ble_eq_true rfl) (wp_isSeat (fun _ _ => ?_) (fun q => absurd ⟨nI_pos' (by omega), nI_le (b := 7) hj (by decide)⟩ q))
      refine jr_if_ne 10 7 dX9_lamp_4 rfl rfl (fun q4 => ?_) (fun q => absurd q (by decide))
      refine jr_iload_n 2 11 dX9_lamp_10 rfl rfl rfl ?_
      refine jr_bipush (9) 13 dX9_lamp_11 rfl rfl ?_
      refine cs_X9_104 16 dX9_lamp_13 rfl rfl (Nat.le_of_ble_eq_true rfl) (wp_wiT hc2 (by decide) rfl ?_)
      refine jr_if_ne 22 19 dX9_lamp_16 rfl rfl (fun q16 => ?_) (fun q => absurd q (by decide))
      refine jr_aload_n 0 23 dX9_lamp_22 rfl rfl rfl ?_
      refine gf_X9_44 26 dX9_lamp_23 rfl rfl rfl rfl ?_
      refine gf_X9_158 29 dX9_lamp_26 rfl rfl rfl rfl ?_
      refine jr_iload_n 1 30 dX9_lamp_29 rfl rfl rfl ?_
      refine jr_iald rfl rfl (by omega) 31 dX9_lamp_30 rfl ?_
      refine jr_istore_n 3 (L' := [_, _, _, _]) 32 dX9_lamp_31 rfl rfl (by decide) rfl ?_
      refine jr_aload_n 0 33 dX9_lamp_32 rfl rfl rfl ?_
      refine gf_X9_44 36 dX9_lamp_33 rfl rfl rfl rfl ?_
      refine gf_X9_158 39 dX9_lamp_36 rfl rfl rfl rfl ?_
      refine jr_iload_n 1 40 dX9_lamp_39 rfl rfl rfl ?_
      refine jr_iload_n 2 41 dX9_lamp_40 rfl rfl rfl ?_
      refine jr_iast rfl rfl (by omega) 42 dX9_lamp_41 rfl ?_
      refine jr_iload_n 3 43 dX9_lamp_42 rfl rfl rfl ?_
      refine jr_ireturn dX9_lamp_43 rfl rfl ?_
      refine jr_enter (L := [some (.ref 46), some (.int (nI j)), some (.int (nI c2)), none]) (by decide) (Nat.le_of_ble_eq_true rfl) rfl ?_
      refine jr_iload_n 1 1 dX10_lamp_0 rfl rfl rfl ?_
      refine cs_X10_198 4 dX10_lamp_1 rfl rfl (Nat.le_of_ble_eq_true rfl) (wp_risSeat (fun _ _ => ?_) (fun q => absurd ⟨nI_pos' (by omega), nI_le (b := 7) hj (by decide)⟩ q))
      refine jr_if_ne 10 7 dX10_lamp_4 rfl rfl (fun q4 => ?_) (fun q => absurd q (by decide))
      refine jr_iload_n 2 11 dX10_lamp_10 rfl rfl rfl ?_
      refine jr_iconst (0) 12 dX10_lamp_11 rfl rfl ?_
      refine jr_bipush (9) 14 dX10_lamp_12 rfl rfl ?_
      refine cs_X10_108 17 dX10_lamp_14 rfl rfl (Nat.le_of_ble_eq_true rfl) (wp_inT hc2 (by decide) rfl ?_)
      refine jr_if_ne 23 20 dX10_lamp_17 rfl rfl (fun q17 => ?_) (fun q => absurd q (by decide))
      refine jr_aload_n 0 24 dX10_lamp_23 rfl rfl rfl ?_
      refine gf_X10_7 27 dX10_lamp_24 rfl rfl rfl rfl ?_
      refine jr_iload_n 1 28 dX10_lamp_27 rfl rfl rfl ?_
      refine jr_iald rfl rfl (by omega) 29 dX10_lamp_28 rfl ?_
      refine jr_istore_n 3 (L' := [_, _, _, _]) 30 dX10_lamp_29 rfl rfl (by decide) rfl ?_
      refine jr_aload_n 0 31 dX10_lamp_30 rfl rfl rfl ?_
      refine gf_X10_7 34 dX10_lamp_31 rfl rfl rfl rfl ?_
      refine jr_iload_n 1 35 dX10_lamp_34 rfl rfl rfl ?_
      refine jr_iload_n 2 36 dX10_lamp_35 rfl rfl rfl ?_
      refine jr_iast rfl rfl (by omega) 37 dX10_lamp_36 rfl ?_
      refine jr_iload_n 3 38 dX10_lamp_37 rfl rfl rfl ?_
      refine jr_ireturn dX10_lamp_38 rfl rfl ?_
      exact ⟨congrArg Value.int (hli j (by omega)).1.symm, T, n, nf, nc, kd, se, lw, tp, iv_lamp h hc2⟩
theorem iv_unc {T : Nat → Nat → List Nat} {n nf nc : Nat} {kd se : Nat → Nat} {lw tp : Nat} {σ : jr_Sg} (h : iv T n nf (nc + 1) kd se lw tp σ) : iv T n nf nc kd se lw tp (jr_up (jr_up σ 15 9 (nI nc)) 46 6 (nI nc)) := by
  obtain ⟨a1, a2, ⟨b1, b2, b3, b4, b5, b6, b7, b8⟩, a4, a5, a6, a7, a8⟩ := h
  exact ⟨a1, a2, ⟨⟨b1.1, b1.2.1, rfl, by have := b1.2.2.2.1; omega, b1.2.2.2.2⟩, ⟨b2.1, b2.2.1, rfl, by have := b2.2.2.2.1; omega, b2.2.2.2.2⟩, b3, b4, b5, b6, b7, fun k hk => b8 k (by omega)⟩, a4, a5, a6, a7, a8⟩
theorem pp_uncause {G : jr_G} {d : Nat} {σ : jr_Sg} (h : IV σ) : jr_pair G (d + 20) mi_X9_uncause mi_X10_uncause [] σ := by
  obtain ⟨T, n, nf, nc, kd, se, lw, tp, h⟩ := h
  have hh := h
  obtain ⟨hTC, hTR, ⟨hsc, hsr, hl1, hl2, hlw, hfc, hli, hca⟩, htp, himg, hsh, hrest, hwd⟩ := hh
  have hnf := hsc.1
  have h5 := hsc.2.1
  have hnc := hsc.2.2.1
  have h8 := hsc.2.2.2.1
  have rnf := hsr.1
  have rnc := hsr.2.2.1
  have hlm := hrest.2.2.2.1
  unfold jr_pair
  rcases Nat.eq_zero_or_pos nc with rfl | hpos
  · refine jr_enter (L := [some (.ref 0)]) (by decide) (Nat.le_of_ble_eq_true rfl) rfl ?_
    refine jr_aload_n 0 1 dX9_uncause_0 rfl rfl rfl ?_
    refine gf_X9_44 4 dX9_uncause_1 rfl rfl rfl rfl ?_
    refine gf_X9_88 7 dX9_uncause_4 rfl rfl rfl rfl ?_
    rw [hnc]
    refine jr_if_gt 13 10 dX9_uncause_7 rfl rfl (fun q => absurd q (by decide)) (fun q7 => ?_)
    refine jr_bipush ((-3)) 12 dX9_uncause_10 rfl rfl ?_
    refine jr_ireturn dX9_uncause_12 rfl rfl ?_
    refine jr_enter (L := [some (.ref 46)]) (by decide) (Nat.le_of_ble_eq_true rfl) rfl ?_
    refine jr_aload_n 0 1 dX10_uncause_0 rfl rfl rfl ?_
    refine gf_X10_112 4 dX10_uncause_1 rfl rfl rfl rfl ?_
    rw [rnc]
    refine jr_if_ne 10 7 dX10_uncause_4 rfl rfl (fun q => absurd rfl q) (fun q4 => ?_)
    refine jr_bipush ((-3)) 9 dX10_uncause_7 rfl rfl ?_
    refine jr_ireturn dX10_uncause_9 rfl rfl ?_
    exact ⟨rfl, IV_mov (iv_same_x (jr_eqx_rf [] _) (by decide)) h⟩
  · obtain ⟨m, rfl⟩ : ∃ m, nc = m + 1 := ⟨nc - 1, by omega⟩
    have em : nI (m + 1) - 1 = nI m := by rw [show (1 : Int32) = nI 1 from rfl, pk_sub (by omega)]; rfl
    refine jr_enter (L := [some (.ref 0)]) (by decide) (Nat.le_of_ble_eq_true rfl) rfl ?_
    refine jr_aload_n 0 1 dX9_uncause_0 rfl rfl rfl ?_
    refine gf_X9_44 4 dX9_uncause_1 rfl rfl rfl rfl ?_
    refine gf_X9_88 7 dX9_uncause_4 rfl rfl rfl rfl ?_
    refine jr_topi (y := nI (m + 1)) hnc ?_
    refine jr_if_gt 13 10 dX9_uncause_7 rfl rfl (fun q7 => ?_) (fun q => absurd (nI_lt (a := 0) hpos (by omega)) q)
    refine jr_aload_n 0 14 dX9_uncause_13 rfl rfl rfl ?_
    refine gf_X9_44 17 dX9_uncause_14 rfl rfl rfl rfl ?_
    refine jr_dup 18 dX9_uncause_17 rfl rfl ?_
    refine gf_X9_88 21 dX9_uncause_18 rfl rfl rfl rfl ?_
    refine jr_topi (y := nI (m + 1)) hnc ?_
    refine jr_iconst (1) 22 dX9_uncause_21 rfl rfl ?_
    refine jr_isub 23 dX9_uncause_22 rfl ?_
    rw [em]
    refine pf_X9_88 26 dX9_uncause_23 rfl rfl rfl rfl ?_
    refine jr_aload_n 0 27 dX9_uncause_26 rfl rfl rfl ?_
    refine gf_X9_44 30 dX9_uncause_27 rfl rfl rfl rfl ?_
    refine gf_X9_88 33 dX9_uncause_30 rfl rfl rfl rfl ?_
    refine jr_ireturn dX9_uncause_33 rfl rfl ?_
    refine jr_enter (L := [some (.ref 46)]) (by decide) (Nat.le_of_ble_eq_true rfl) rfl ?_
    refine jr_aload_n 0 1 dX10_uncause_0 rfl rfl rfl ?_
    refine gf_X10_112 4 dX10_uncause_1 rfl rfl rfl rfl ?_
    refine jr_topi (y := nI (m + 1)) rnc ?_
    refine jr_if_ne 10 7 dX10_uncause_4 rfl rfl (fun q4 => ?_) (fun q => absurd ((nI_z (by omega)).mp q) (by omega))
    refine jr_aload_n 0 11 dX10_uncause_10 rfl rfl rfl ?_
    refine jr_dup 12 dX10_uncause_11 rfl rfl ?_
    refine gf_X10_112 15 dX10_uncause_12 rfl rfl rfl rfl ?_
    refine jr_topi (y := nI (m + 1)) rnc ?_
    refine jr_iconst (1) 16 dX10_uncause_15 rfl rfl ?_
    refine jr_isub 17 dX10_uncause_16 rfl ?_
    rw [em]
    refine pf_X10_112 20 dX10_uncause_17 rfl rfl rfl rfl ?_
    refine jr_aload_n 0 21 dX10_uncause_20 rfl rfl rfl ?_
    refine gf_X10_112 24 dX10_uncause_21 rfl rfl rfl rfl ?_
    refine jr_ireturn dX10_uncause_24 rfl rfl ?_
    exact ⟨rfl, T, n, nf, m, kd, se, lw, tp, iv_unc h⟩
