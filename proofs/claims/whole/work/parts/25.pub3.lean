/-- the first least below l0, of g, told as c -/
def bst (g c : Nat → Int32) (l0 : Int32) : Nat → Int32 × Int32
  | 0 => (-1, l0)
  | n + 1 => if g n < (bst g c l0 n).2 then (c n, g n) else bst g c l0 n
theorem bst_stop {g c : Nat → Int32} {l0 : Int32} {n : Nat} (h : (bst g c l0 n).2 ≤ 0) (hg : ∀ i, 0 ≤ g i) : ∀ m, bst g c l0 (n + m) = bst g c l0 n
  | 0 => rfl
  | m + 1 => by
    have ih := bst_stop h hg m
    show bst g c l0 (n + m + 1) = _
    rw [bst, ih, if_neg (Int32.not_lt.mpr (Int32.le_trans h (hg _)))]
theorem tr_rs_nat (W : Nat → Int32 × Int32) (rf : Int32) : ∃ c : Nat, c ≤ 40 ∧ tr_rs W rf = nI c := by
  have key : ∀ n, ∃ c : Nat, c ≤ n ∧ lp (fun i a => a + if rf ≤ (W (i + 1)).1 then 1 else 0) 0 n = nI c := by
    intro n
    induction n with
    | zero => exact ⟨0, Nat.le_refl _, rfl⟩
    | succ n ih =>
      obtain ⟨c, hc, e⟩ := ih
      rw [lp, e]
      by_cases h : rf ≤ (W (n + 1)).1
      · rw [if_pos h, nI_1]; exact ⟨c + 1, by omega, rfl⟩
      · rw [if_neg h, Int32.add_zero]; exact ⟨c, by omega, rfl⟩
  exact key 40
theorem tr_rs_0 (W : Nat → Int32 × Int32) (rf : Int32) : 0 ≤ tr_rs W rf := by
  obtain ⟨c, hc, e⟩ := tr_rs_nat W rf
  rw [e]
  exact nI_pos' (by omega)
/-- reds of j, did it STOP by k of 80 -/
noncomputable def st_g (T : Nat → Nat → List Nat) (lw nf nc : Nat) (kd se : Nat → Nat) (σ : jr_Sg) (j : Nat) (k : Nat) : Int32 := tr_rs (sm_R T lw nf nc kd se (md_s σ (nI j) (nI (k / 20)) (nI (k % 20))) j) (pr_rf kd se σ j)
def st_c (k : Nat) : Int32 := nI (100 * (k / 20) + k % 20)
theorem st_g_of {T : Nat → Nat → List Nat} {lw nf nc j k : Nat} {kd se : Nat → Nat} {σ σ' : jr_Sg} (h : jr_eqx iv_CX σ σ') : st_g T lw nf nc kd se σ' j k = st_g T lw nf nc kd se σ j k := by
  unfold st_g
  rw [sm_R_of (cx_eqs h _ _ _), pr_rf_of h]
theorem best_in {G : jr_G} {d : Nat} {σ : jr_Sg} {k : Value → jr_Sg → Prop} {T : Nat → Nat → List Nat} {n nf nc lw tp j : Nat} {kd se : Nat → Nat} {c2 : Int32} (h : iv T n nf nc kd se lw tp σ) (hj : j < nf) {u : Nat} (hu : u < 4) (cont : ∀ (σ1 : jr_Sg) (x6 x7 : Option Value), jr_eqx iv_CX σ σ1 → jr_R G (d + 19) mi_X9_best (jr_k k) 111 [some (.ref 0), some (.int (nI j)), some (.int c2), some (.int (bst (st_g T lw nf nc kd se σ j) st_c (tr_rs (sm_R T lw nf nc kd se σ j) (pr_rf kd se σ j)) (20 * (u + 1))).2), some (.int (bst (st_g T lw nf nc kd se σ j) st_c (tr_rs (sm_R T lw nf nc kd se σ j) (pr_rf kd se σ j)) (20 * (u + 1))).1), some (.int (nI u)), x6, x7] [] σ1) : ∀ (m a : Nat) (σ1 : jr_Sg) (x7 : Option Value), a + m = 20 → jr_eqx iv_CX σ σ1 → jr_R G (d + 19) mi_X9_best (jr_k k) 56 [some (.ref 0), some (.int (nI j)), some (.int c2), some (.int (bst (st_g T lw nf nc kd se σ j) st_c (tr_rs (sm_R T lw nf nc kd se σ j) (pr_rf kd se σ j)) (20 * u + a)).2), some (.int (bst (st_g T lw nf nc kd se σ j) st_c (tr_rs (sm_R T lw nf nc kd se σ j) (pr_rf kd se σ j)) (20 * u + a)).1), some (.int (nI u)), some (.int (nI a)), x7] [] σ1 := by
  have h5 : nf ≤ 5 := h.2.2.1.2.1.2.1
  intro m
  induction m with
  | zero =>
    intro a σ1 x7 ha g
    have e : a = 20 := ha
    subst e
    refine jr_iload 58 dX9_best_56 rfl rfl ?_
    refine jr_bipush (20) 60 dX9_best_58 rfl rfl ?_
    refine jr_icmp_ge 111 63 dX9_best_60 rfl rfl (fun q60 => ?_) (fun z => absurd (by decide) z)
    exact cont σ1 _ _ g
  | succ m ih =>
    intro a σ1 x7 ha g
    by_cases hz : (bst (st_g T lw nf nc kd se σ j) st_c (tr_rs (sm_R T lw nf nc kd se σ j) (pr_rf kd se σ j)) (20 * u + a)).2 ≤ 0
    · refine jr_iload 58 dX9_best_56 rfl rfl ?_
      refine jr_bipush (20) 60 dX9_best_58 rfl rfl ?_
      refine jr_icmp_ge 111 63 dX9_best_60 rfl rfl (fun z => absurd z (nI_ge (b := 20) (by omega) (by decide))) (fun q60 => ?_)
      refine jr_iload_n 3 64 dX9_best_63 rfl rfl rfl ?_
      refine jr_if_le 111 67 dX9_best_64 rfl rfl (fun q64 => ?_) (fun z => absurd hz z)
      rw [← bst_stop hz (fun i => tr_rs_0 _ _) (m + 1), show 20 * u + a + (m + 1) = 20 * (u + 1) by omega]
      exact cont σ1 _ _ g
    · refine jr_iload 58 dX9_best_56 rfl rfl ?_
      refine jr_bipush (nI 20) 60 dX9_best_58 rfl rfl ?_
      refine jr_icmp_ge 111 63 dX9_best_60 rfl rfl (fun z => absurd z (nI_ge (b := 20) (by omega) (by decide))) (fun q60 => ?_)
      refine jr_iload_n 3 64 dX9_best_63 rfl rfl rfl ?_
      refine jr_if_le 111 67 dX9_best_64 rfl rfl (fun z => absurd z hz) (fun q64 => ?_)
      have eg : st_g T lw nf nc kd se σ j (20 * u + a) = tr_rs (sm_R T lw nf nc kd se (md_s σ (nI j) (nI u) (nI a)) j) (pr_rf kd se σ j) := by
        unfold st_g
        rw [show (20 * u + a) / 20 = u by omega, show (20 * u + a) % 20 = a by omega]
      have ec : st_c (20 * u + a) = nI (100 * u + a) := by
        unfold st_c
        rw [show (20 * u + a) / 20 = u by omega, show (20 * u + a) % 20 = a by omega]
      refine jr_aload_n 0 68 dX9_best_67 rfl rfl rfl ?_
      refine jr_iload_n 1 69 dX9_best_68 rfl rfl rfl ?_
      refine jr_iload 71 dX9_best_69 rfl rfl ?_
      refine jr_iload 73 dX9_best_71 rfl rfl ?_
      refine cs_X9_232 76 dX9_best_73 rfl rfl rfl (Nat.le_of_ble_eq_true rfl) (wp_playStopped h hj g (fun σ2 g1 g2 => ?_))
      refine jr_aload_n 0 77 dX9_best_76 rfl rfl rfl ?_
      refine gf_X9_37 80 dX9_best_77 rfl rfl rfl rfl ?_
      refine jr_iload_n 1 81 dX9_best_80 rfl rfl rfl ?_
      refine cs_X9_236 84 dX9_best_81 rfl rfl rfl (Nat.le_of_ble_eq_true rfl) (wp_redSeconds (by omega) ?_)
      refine jr_topi (y := st_g T lw nf nc kd se σ j (20 * u + a)) ((pd_rs g2).trans eg.symm) ?_
      refine jr_istore (L' := [_, _, _, _, _, _, _, _]) 86 dX9_best_84 rfl (by decide) rfl ?_
      refine jr_iload 88 dX9_best_86 rfl rfl ?_
      refine jr_iload_n 3 89 dX9_best_88 rfl rfl rfl ?_
      refine jr_icmp_ge 105 92 dX9_best_89 rfl rfl (fun q89 => ?_) (fun q89 => ?_)
      · refine jr_iinc (v := nI (a + 1)) (L' := [_, _, _, _, _, _, _, _]) 108 dX9_best_105 rfl rfl (nI_1 a) (by decide) rfl ?_
        refine jr_goto 56 dX9_best_108 rfl ?_
        have hb : bst (st_g T lw nf nc kd se σ j) st_c (tr_rs (sm_R T lw nf nc kd se σ j) (pr_rf kd se σ j)) (20 * u + (a + 1)) = bst (st_g T lw nf nc kd se σ j) st_c (tr_rs (sm_R T lw nf nc kd se σ j) (pr_rf kd se σ j)) (20 * u + a) := by
          show bst (st_g T lw nf nc kd se σ j) st_c (tr_rs (sm_R T lw nf nc kd se σ j) (pr_rf kd se σ j)) (20 * u + a + 1) = _
          rw [bst, if_neg (Int32.not_lt.mpr q89)]
        rw [← hb]
        exact ih (a + 1) σ2 _ (by omega) g1
      · refine jr_iload 94 dX9_best_92 rfl rfl ?_
        refine jr_istore_n 3 (L' := [_, _, _, _, _, _, _, _]) 95 dX9_best_94 rfl rfl (by decide) rfl ?_
        refine jr_bipush (nI 100) 97 dX9_best_95 rfl rfl ?_
        refine jr_iload 99 dX9_best_97 rfl rfl ?_
        refine jr_imul 100 dX9_best_99 rfl ?_
        refine jr_iload 102 dX9_best_100 rfl rfl ?_
        refine jr_iadd 103 dX9_best_102 rfl ?_
        refine jr_topi (y := st_c (20 * u + a)) (by rw [pk_mul, nI_add, ec]) ?_
        refine jr_istore (L' := [_, _, _, _, _, _, _, _]) 105 dX9_best_103 rfl (by decide) rfl ?_
        refine jr_iinc (v := nI (a + 1)) (L' := [_, _, _, _, _, _, _, _]) 108 dX9_best_105 rfl rfl (nI_1 a) (by decide) rfl ?_
        refine jr_goto 56 dX9_best_108 rfl ?_
        have hb : bst (st_g T lw nf nc kd se σ j) st_c (tr_rs (sm_R T lw nf nc kd se σ j) (pr_rf kd se σ j)) (20 * u + (a + 1)) = (st_c (20 * u + a), st_g T lw nf nc kd se σ j (20 * u + a)) := by
          show bst (st_g T lw nf nc kd se σ j) st_c (tr_rs (sm_R T lw nf nc kd se σ j) (pr_rf kd se σ j)) (20 * u + a + 1) = _
          rw [bst, if_pos (Int32.not_le.mp q89)]
        have hih := ih (a + 1) σ2 (some (.int (st_g T lw nf nc kd se σ j (20 * u + a)))) (by omega) g1
        rw [hb] at hih
        exact hih
theorem best_out {G : jr_G} {d : Nat} {σ : jr_Sg} {k : Value → jr_Sg → Prop} {T : Nat → Nat → List Nat} {n nf nc lw tp j : Nat} {kd se : Nat → Nat} {c2 : Int32} (h : iv T n nf nc kd se lw tp σ) (hj : j < nf) (fin : ∀ (σ1 : jr_Sg) (x6 x7 : Option Value) (u : Nat), jr_eqx iv_CX σ σ1 → jr_R G (d + 19) mi_X9_best (jr_k k) 117 [some (.ref 0), some (.int (nI j)), some (.int c2), some (.int (bst (st_g T lw nf nc kd se σ j) st_c (tr_rs (sm_R T lw nf nc kd se σ j) (pr_rf kd se σ j)) 80).2), some (.int (bst (st_g T lw nf nc kd se σ j) st_c (tr_rs (sm_R T lw nf nc kd se σ j) (pr_rf kd se σ j)) 80).1), some (.int (nI u)), x6, x7] [] σ1) : ∀ (m u : Nat) (σ1 : jr_Sg) (x6 x7 : Option Value), u + m = 4 → jr_eqx iv_CX σ σ1 → jr_R G (d + 19) mi_X9_best (jr_k k) 47 [some (.ref 0), some (.int (nI j)), some (.int c2), some (.int (bst (st_g T lw nf nc kd se σ j) st_c (tr_rs (sm_R T lw nf nc kd se σ j) (pr_rf kd se σ j)) (20 * u)).2), some (.int (bst (st_g T lw nf nc kd se σ j) st_c (tr_rs (sm_R T lw nf nc kd se σ j) (pr_rf kd se σ j)) (20 * u)).1), some (.int (nI u)), x6, x7] [] σ1 := by
  intro m
  induction m with
  | zero =>
    intro u σ1 x6 x7 hu g
    have e : u = 4 := hu
    subst e
    refine jr_iload 49 dX9_best_47 rfl rfl ?_
    refine jr_iconst (4) 50 dX9_best_49 rfl rfl ?_
    refine jr_icmp_ge 117 53 dX9_best_50 rfl rfl (fun q50 => ?_) (fun z => absurd (by decide) z)
    exact fin σ1 _ _ 4 g
  | succ m ih =>
    intro u σ1 x6 x7 hu g
    refine jr_iload 49 dX9_best_47 rfl rfl ?_
    refine jr_iconst (nI 4) 50 dX9_best_49 rfl rfl ?_
    refine jr_icmp_ge 117 53 dX9_best_50 rfl rfl (fun z => absurd z (nI_ge (b := 4) (by omega) (by decide))) (fun q50 => ?_)
    refine jr_iconst (nI 0) 54 dX9_best_53 rfl rfl ?_
    refine jr_istore (L' := [_, _, _, _, _, _, _, _]) 56 dX9_best_54 rfl (by decide) rfl ?_
    refine best_in h hj (u := u) (by omega) (fun σ2 y6 y7 g2 => ?_) 20 0 σ1 _ (by omega) g
    refine jr_iinc (v := nI (u + 1)) (L' := [_, _, _, _, _, _, _, _]) 114 dX9_best_111 rfl rfl (nI_1 u) (by decide) rfl ?_
    refine jr_goto 47 dX9_best_114 rfl ?_
    exact ih (u + 1) σ2 _ _ (by omega) g2
theorem best_r {G : jr_G} {d : Nat} {σ : jr_Sg} {k : Value → jr_Sg → Prop} {T : Nat → Nat → List Nat} {n nf nc lw tp j : Nat} {kd se : Nat → Nat} {c2 : Int32} (h : iv T n nf nc kd se lw tp σ) (hj : j < nf) {σ1 : jr_Sg} (g1 : jr_eqx iv_CX σ σ1) (fin : ∀ (σ2 : jr_Sg) (x5 x6 : Option Value), jr_eqs [39, 40, 41] σ1 σ2 → jr_R G (d + 20) mi_X10_best (jr_k k) 114 [some (.ref 46), some (.int (nI j)), some (.int c2), some (.int (bst (st_g T lw nf nc kd se σ j) st_c (tr_rs (sm_R T lw nf nc kd se σ j) (pr_rf kd se σ j)) 80).1), some (.int (bst (st_g T lw nf nc kd se σ j) st_c (tr_rs (sm_R T lw nf nc kd se σ j) (pr_rf kd se σ j)) 80).2), x5, x6] [] σ2) : ∀ (m i : Nat) (σ2 : jr_Sg) (x6 : Option Value), i + m = 80 → jr_eqs [39, 40, 41] σ1 σ2 → jr_R G (d + 20) mi_X10_best (jr_k k) 36 [some (.ref 46), some (.int (nI j)), some (.int c2), some (.int (bst (st_g T lw nf nc kd se σ j) st_c (tr_rs (sm_R T lw nf nc kd se σ j) (pr_rf kd se σ j)) i).1), some (.int (bst (st_g T lw nf nc kd se σ j) st_c (tr_rs (sm_R T lw nf nc kd se σ j) (pr_rf kd se σ j)) i).2), some (.int (nI i)), x6] [] σ2 := by
  have r1 := rr_of (iv_mov (iv_cx g1) h)
  have h5 : nf ≤ 5 := r1.1.2.1
  intro m
  induction m with
  | zero =>
    intro i σ2 x6 hi g
    have e : i = 80 := hi
    subst e
    refine jr_iload 38 dX10_best_36 rfl rfl ?_
    refine jr_bipush (80) 40 dX10_best_38 rfl rfl ?_
    refine jr_icmp_ge 114 43 dX10_best_40 rfl rfl (fun q40 => ?_) (fun z => absurd (by decide) z)
    exact fin σ2 _ _ g
  | succ m ih =>
    intro i σ2 x6 hi g
    have ediv : nI i / nI 20 = nI (i / 20) := pk_div (by omega) (by omega) (by omega)
    have erem : nI i - nI i / nI 20 * nI 20 = nI (i % 20) := pk_rem (by omega) (by omega) (by omega)
    have ec : nI 100 * nI (i / 20) + nI (i % 20) = st_c i := by rw [pk_mul, nI_add]; rfl
    refine jr_iload 38 dX10_best_36 rfl rfl ?_
    refine jr_bipush (nI 80) 40 dX10_best_38 rfl rfl ?_
    refine jr_icmp_ge 114 43 dX10_best_40 rfl rfl (fun z => absurd z (nI_ge (b := 80) (by omega) (by decide))) (fun q40 => ?_)
    refine jr_aload_n 0 44 dX10_best_43 rfl rfl rfl ?_
    refine jr_iload_n 1 45 dX10_best_44 rfl rfl rfl ?_
    refine jr_iload 47 dX10_best_45 rfl rfl ?_
    refine jr_bipush (nI 20) 49 dX10_best_47 rfl rfl ?_
    refine jr_idiv 50 dX10_best_49 rfl (by decide) ?_
    rw [ediv]
    refine jr_iload 52 dX10_best_50 rfl rfl ?_
    refine jr_bipush (nI 20) 54 dX10_best_52 rfl rfl ?_
    refine jr_irem 55 dX10_best_54 rfl (by decide) ?_
    rw [erem]
    refine cs_X10_287 58 dX10_best_55 rfl rfl rfl (Nat.le_of_ble_eq_true rfl) (wp_stopsBy ?_)
    have eg : tr_rt (sm_R T lw nf nc kd se (md_s σ2 (nI j) (nI (i / 20)) (nI (i % 20))) j) (pr_rf kd se (md_s σ2 (nI j) (nI (i / 20)) (nI (i % 20))) j) 1 = st_g T lw nf nc kd se σ j i := by
      rw [sm_R_ag (md_s_ag g _ _ _), show pr_rf kd se (md_s σ2 (nI j) (nI (i / 20)) (nI (i % 20))) j = pr_rf kd se σ1 j by unfold pr_rf; show pu_redf (kd j) (σ2 49 j) (σ2 47 (se j)) = _; rw [g.1 49 (by decide) (by decide), g.1 47 (by decide) (by decide)]]
      exact st_g_of g1
    refine jr_aload_n 0 59 dX10_best_58 rfl rfl rfl ?_
    refine jr_iload_n 1 60 dX10_best_59 rfl rfl rfl ?_
    refine jr_iconst (nI 1) 61 dX10_best_60 rfl rfl ?_
    refine cs_X10_275 64 dX10_best_61 rfl rfl rfl (Nat.le_of_ble_eq_true rfl) (wp_rrt (what := 1) (rr_eqs r1 (eqs_tr g (md_s_eqs _ _ _ _)) (by decide)) hj (by omega) (fun σ3 g3 => ?_))
    rw [eg]
    refine jr_istore (L' := [_, _, _, _, _, _, _]) 66 dX10_best_64 rfl (by decide) rfl ?_
    have g4 : jr_eqs [39, 40, 41] σ1 σ3 := eqs_tr (eqs_tr g (md_s_eqs _ _ _ _)) (eqs_rx g3)
    by_cases q70 : (bst (st_g T lw nf nc kd se σ j) st_c (tr_rs (sm_R T lw nf nc kd se σ j) (pr_rf kd se σ j)) i).2 ≤ st_g T lw nf nc kd se σ j i
    · refine jr_iload 68 dX10_best_66 rfl rfl ?_
      refine jr_iload 70 dX10_best_68 rfl rfl ?_
      refine jr_icmp_ge 90 73 dX10_best_70 rfl rfl (fun _ => ?_) (fun q => absurd q70 q)
      refine jr_iload_n 3 91 dX10_best_90 rfl rfl rfl ?_
      refine jr_istore_n 3 (L' := [_, _, _, _, _, _, _]) 92 dX10_best_91 rfl rfl (by decide) rfl ?_
      refine jr_iload 94 dX10_best_92 rfl rfl ?_
      refine jr_iload 96 dX10_best_94 rfl rfl ?_
      refine jr_icmp_ge 104 99 dX10_best_96 rfl rfl (fun q96 => ?_) (fun q => absurd q70 q)
      refine jr_iload 106 dX10_best_104 rfl rfl ?_
      refine jr_istore (L' := [_, _, _, _, _, _, _]) 108 dX10_best_106 rfl (by decide) rfl ?_
      refine jr_iinc (v := nI (i + 1)) (L' := [_, _, _, _, _, _, _]) 111 dX10_best_108 rfl rfl (nI_1 i) (by decide) rfl ?_
      refine jr_goto 36 dX10_best_111 rfl ?_
      rw [show (bst (st_g T lw nf nc kd se σ j) st_c (tr_rs (sm_R T lw nf nc kd se σ j) (pr_rf kd se σ j)) i) = bst (st_g T lw nf nc kd se σ j) st_c (tr_rs (sm_R T lw nf nc kd se σ j) (pr_rf kd se σ j)) (i + 1) by rw [bst, if_neg (Int32.not_lt.mpr q70)]]
      exact ih (i + 1) _ _ (by omega) g4
    · refine jr_iload 68 dX10_best_66 rfl rfl ?_
      refine jr_iload 70 dX10_best_68 rfl rfl ?_
      refine jr_icmp_ge 90 73 dX10_best_70 rfl rfl (fun q => absurd q q70) (fun _ => ?_)
      refine jr_bipush (nI 100) 75 dX10_best_73 rfl rfl ?_
      refine jr_iload 77 dX10_best_75 rfl rfl ?_
      refine jr_bipush (nI 20) 79 dX10_best_77 rfl rfl ?_
      refine jr_idiv 80 dX10_best_79 rfl (by decide) ?_
      rw [ediv]
      refine jr_imul 81 dX10_best_80 rfl ?_
      refine jr_iload 83 dX10_best_81 rfl rfl ?_
      refine jr_bipush (nI 20) 85 dX10_best_83 rfl rfl ?_
      refine jr_irem 86 dX10_best_85 rfl (by decide) ?_
      rw [erem]
      refine jr_iadd 87 dX10_best_86 rfl ?_
      rw [ec]
      refine jr_goto 91 dX10_best_87 rfl ?_
      refine jr_istore_n 3 (L' := [_, _, _, _, _, _, _]) 92 dX10_best_91 rfl rfl (by decide) rfl ?_
      refine jr_iload 94 dX10_best_92 rfl rfl ?_
      refine jr_iload 96 dX10_best_94 rfl rfl ?_
      refine jr_icmp_ge 104 99 dX10_best_96 rfl rfl (fun q => absurd q q70) (fun q96 => ?_)
      refine jr_iload 101 dX10_best_99 rfl rfl ?_
      refine jr_goto 106 dX10_best_101 rfl ?_
      refine jr_istore (L' := [_, _, _, _, _, _, _]) 108 dX10_best_106 rfl (by decide) rfl ?_
      refine jr_iinc (v := nI (i + 1)) (L' := [_, _, _, _, _, _, _]) 111 dX10_best_108 rfl rfl (nI_1 i) (by decide) rfl ?_
      refine jr_goto 36 dX10_best_111 rfl ?_
      have hb : bst (st_g T lw nf nc kd se σ j) st_c (tr_rs (sm_R T lw nf nc kd se σ j) (pr_rf kd se σ j)) (i + 1) = (st_c i, st_g T lw nf nc kd se σ j i) := by rw [bst, if_pos (Int32.not_le.mp q70)]
      have hih := ih (i + 1) σ3 (some (.int (st_g T lw nf nc kd se σ j i))) (by omega) g4
      rw [hb] at hih
      exact hih
theorem pp_best {G : jr_G} {d : Nat} {σ : jr_Sg} {f c : Int32} (h : IV σ) : jr_pair G (d + 20) mi_X9_best mi_X10_best [.int f, .int c] σ := by
  obtain ⟨T, n, nf, nc, kd, se, lw, tp, h⟩ := h
  have hh := h
  obtain ⟨hTC, hTR, ⟨hsc, hsr, hl1, hl2, hlw, hfc, hli, hca⟩, htp, himg, hsh, hrest, hwd⟩ := hh
  have hnf := hsc.1
  have h5 := hsc.2.1
  have hnc := hsc.2.2.1
  have h8 := hsc.2.2.2.1
  have rnf := hsr.1
  have rnc := hsr.2.2.1
  have hlm := hrest.2.2.2.1
  unfold jr_pair
  rcases jr_fc f h5 with hf | ⟨j, hj, rfl⟩
  · refine jr_enter (L := [some (.ref 0), some (.int f), some (.int c), none, none, none, none, none]) (by decide) (Nat.le_of_ble_eq_true rfl) rfl ?_
    refine jr_aload_n 0 1 dX9_best_0 rfl rfl rfl ?_
    refine gf_X9_44 4 dX9_best_1 rfl rfl rfl rfl ?_
    refine jr_iload_n 1 5 dX9_best_4 rfl rfl rfl ?_
    refine cs_X9_146 8 dX9_best_5 rfl rfl rfl (Nat.le_of_ble_eq_true rfl) (wp_has_15 hnf h5 (fun j hj e => absurd hf (by rw [e]; exact jr_fcn hj (by omega))) (fun _ => ?_))
    refine jr_if_ne 14 11 dX9_best_8 rfl rfl (fun q => absurd (by decide) q) (fun q8 => ?_)
    refine jr_bipush ((-5)) 13 dX9_best_11 rfl rfl ?_
    refine jr_ireturn dX9_best_13 rfl rfl ?_
    refine jr_enter (L := [some (.ref 46), some (.int f), some (.int c), none, none, none, none]) (by decide) (Nat.le_of_ble_eq_true rfl) rfl ?_
    refine jr_aload_n 0 1 dX10_best_0 rfl rfl rfl ?_
    refine jr_iload_n 1 2 dX10_best_1 rfl rfl rfl ?_
    refine cs_X10_204 5 dX10_best_2 rfl rfl rfl (Nat.le_of_ble_eq_true rfl) (wp_isFace rnf h5 (fun j hj e => absurd hf (by rw [e]; exact jr_fcn hj (by omega))) (fun _ => ?_))
    refine jr_if_ne 11 8 dX10_best_5 rfl rfl (fun q => absurd (by decide) q) (fun q5 => ?_)
    refine jr_bipush ((-5)) 10 dX10_best_8 rfl rfl ?_
    refine jr_ireturn dX10_best_10 rfl rfl ?_
    exact ⟨rfl, IV_mov (iv_same_x (jr_eqx_rf [] _) (by decide)) h⟩
  · rcases jr_rg c (m := 1) (by decide) with qc2 | ⟨c2, hc2, rfl⟩
    · refine jr_enter (L := [some (.ref 0), some (.int (nI j)), some (.int c), none, none, none, none, none]) (by decide) (Nat.le_of_ble_eq_true rfl) rfl ?_
      refine jr_aload_n 0 1 dX9_best_0 rfl rfl rfl ?_
      refine gf_X9_44 4 dX9_best_1 rfl rfl rfl rfl ?_
      refine jr_iload_n 1 5 dX9_best_4 rfl rfl rfl ?_
      refine cs_X9_146 8 dX9_best_5 rfl rfl rfl (Nat.le_of_ble_eq_true rfl) (wp_hasT_15 hnf h5 hj ?_)
      refine jr_if_ne 14 11 dX9_best_8 rfl rfl (fun q8 => ?_) (fun q => absurd q (by decide))
      refine jr_iload_n 2 15 dX9_best_14 rfl rfl rfl ?_
      refine jr_iconst (1) 16 dX9_best_15 rfl rfl ?_
      refine cs_X9_104 19 dX9_best_16 rfl rfl (Nat.le_of_ble_eq_true rfl) (wp_wiF qc2 ?_)
      refine jr_if_ne 25 22 dX9_best_19 rfl rfl (fun q => absurd (by decide) q) (fun q19 => ?_)
      refine jr_bipush ((-7)) 24 dX9_best_22 rfl rfl ?_
      refine jr_ireturn dX9_best_24 rfl rfl ?_
      refine jr_enter (L := [some (.ref 46), some (.int (nI j)), some (.int c), none, none, none, none]) (by decide) (Nat.le_of_ble_eq_true rfl) rfl ?_
      refine jr_aload_n 0 1 dX10_best_0 rfl rfl rfl ?_
      refine jr_iload_n 1 2 dX10_best_1 rfl rfl rfl ?_
      refine cs_X10_204 5 dX10_best_2 rfl rfl rfl (Nat.le_of_ble_eq_true rfl) (wp_isFace rnf h5 (fun _ _ _ => ?_) (fun q => absurd q (jr_fcn hj (by omega))))
      refine jr_if_ne 11 8 dX10_best_5 rfl rfl (fun q5 => ?_) (fun q => absurd q (by decide))
      refine jr_iload_n 2 12 dX10_best_11 rfl rfl rfl ?_
      refine jr_iconst (0) 13 dX10_best_12 rfl rfl ?_
      refine jr_iconst (1) 14 dX10_best_13 rfl rfl ?_
      refine cs_X10_108 17 dX10_best_14 rfl rfl (Nat.le_of_ble_eq_true rfl) (wp_inF qc2 ?_)
      refine jr_if_ne 23 20 dX10_best_17 rfl rfl (fun q => absurd (by decide) q) (fun q17 => ?_)
      refine jr_bipush ((-7)) 22 dX10_best_20 rfl rfl ?_
      refine jr_ireturn dX10_best_22 rfl rfl ?_
      exact ⟨rfl, IV_mov (iv_same_x (jr_eqx_rf [] _) (by decide)) h⟩
    · rcases (by omega : c2 = 0 ∨ c2 = 1) with rfl | rfl
      · refine jr_enter (L := [some (.ref 0), some (.int (nI j)), some (.int (nI 0)), none, none, none, none, none]) (by decide) (Nat.le_of_ble_eq_true rfl) rfl ?_
        refine jr_aload_n 0 1 dX9_best_0 rfl rfl rfl ?_
        refine gf_X9_44 4 dX9_best_1 rfl rfl rfl rfl ?_
        refine jr_iload_n 1 5 dX9_best_4 rfl rfl rfl ?_
        refine cs_X9_146 8 dX9_best_5 rfl rfl rfl (Nat.le_of_ble_eq_true rfl) (wp_hasT_15 hnf h5 hj ?_)
        refine jr_if_ne 14 11 dX9_best_8 rfl rfl (fun q8 => ?_) (fun q => absurd q (by decide))
        refine jr_iload_n 2 15 dX9_best_14 rfl rfl rfl ?_
        refine jr_iconst (nI 1) 16 dX9_best_15 rfl rfl ?_
        refine cs_X9_104 19 dX9_best_16 rfl rfl (Nat.le_of_ble_eq_true rfl) (wp_wiT hc2 (by decide) rfl ?_)
        refine jr_if_ne 25 22 dX9_best_19 rfl rfl (fun q19 => ?_) (fun q => absurd q (by decide))
        refine jr_aload_n 0 26 dX9_best_25 rfl rfl rfl ?_
        refine jr_iload_n 1 27 dX9_best_26 rfl rfl rfl ?_
        refine jr_bipush (nI 40) 29 dX9_best_27 rfl rfl ?_
        refine cs_X9_189 32 dX9_best_29 rfl rfl rfl (Nat.le_of_ble_eq_true rfl) (wp_playNow (len := 40) (by omega) h hj (jr_eqx_rf _ _) (fun σ1 g1 g2 => ?_))
        refine jr_aload_n 0 33 dX9_best_32 rfl rfl rfl ?_
        refine gf_X9_37 36 dX9_best_33 rfl rfl rfl rfl ?_
        refine jr_iload_n 1 37 dX9_best_36 rfl rfl rfl ?_
        refine cs_X9_236 40 dX9_best_37 rfl rfl rfl (Nat.le_of_ble_eq_true rfl) (wp_redSeconds (by omega) ?_)
        refine jr_topi (y := (tr_rs (sm_R T lw nf nc kd se σ j) (pr_rf kd se σ j))) (pd_rs g2) ?_
        refine jr_istore_n 3 (L' := [_, _, _, _, _, _, _, _]) 41 dX9_best_40 rfl rfl (by decide) rfl ?_
        refine jr_iconst ((-1)) 42 dX9_best_41 rfl rfl ?_
        refine jr_istore (L' := [_, _, _, _, _, _, _, _]) 44 dX9_best_42 rfl (by decide) rfl ?_
        refine jr_iconst (nI 0) 45 dX9_best_44 rfl rfl ?_
        refine jr_istore (L' := [_, _, _, _, _, _, _, _]) 47 dX9_best_45 rfl (by decide) rfl ?_
        refine best_out h hj (fun σ1 x6 x7 u g1 => ?_) 4 0 _ _ _ (by omega) g1
        refine jr_iload_n 2 118 dX9_best_117 rfl rfl rfl ?_
        refine jr_if_ne 126 121 dX9_best_118 rfl rfl (fun q => absurd (by decide) q) (fun q118 => ?_)
        refine jr_iload 123 dX9_best_121 rfl rfl ?_
        refine jr_goto 127 dX9_best_123 rfl ?_
        refine jr_ireturn dX9_best_127 rfl rfl ?_
        have h1 := iv_mov (iv_cx g1) h
        have r1 := rr_of h1
        refine jr_enter (L := [some (.ref 46), some (.int (nI j)), some (.int (nI 0)), none, none, none, none]) (by decide) (Nat.le_of_ble_eq_true rfl) rfl ?_
        refine jr_aload_n 0 1 dX10_best_0 rfl rfl rfl ?_
        refine jr_iload_n 1 2 dX10_best_1 rfl rfl rfl ?_
        refine cs_X10_204 5 dX10_best_2 rfl rfl rfl (Nat.le_of_ble_eq_true rfl) (wp_isFace r1.1.1 h5 (fun _ _ _ => ?_) (fun q => absurd q (jr_fcn hj (by omega))))
        refine jr_if_ne 11 8 dX10_best_5 rfl rfl (fun q5 => ?_) (fun q => absurd q (by decide))
        refine jr_iload_n 2 12 dX10_best_11 rfl rfl rfl ?_
        refine jr_iconst (nI 0) 13 dX10_best_12 rfl rfl ?_
        refine jr_iconst (nI 1) 14 dX10_best_13 rfl rfl ?_
        refine cs_X10_108 17 dX10_best_14 rfl rfl (Nat.le_of_ble_eq_true rfl) (wp_inT hc2 (by decide) rfl ?_)
        refine jr_if_ne 23 20 dX10_best_17 rfl rfl (fun q17 => ?_) (fun q => absurd q (by decide))
        refine jr_iconst ((-1)) 24 dX10_best_23 rfl rfl ?_
        refine jr_istore_n 3 (L' := [_, _, _, _, _, _, _]) 25 dX10_best_24 rfl rfl (by decide) rfl ?_
        refine jr_aload_n 0 26 dX10_best_25 rfl rfl rfl ?_
        refine jr_iload_n 1 27 dX10_best_26 rfl rfl rfl ?_
        refine jr_iconst (nI 1) 28 dX10_best_27 rfl rfl ?_
        refine cs_X10_275 31 dX10_best_28 rfl rfl rfl (Nat.le_of_ble_eq_true rfl) (wp_rrt (what := 1) r1 hj (by omega) (fun σ2 g2 => ?_))
        refine jr_topi (y := (tr_rs (sm_R T lw nf nc kd se σ j) (pr_rf kd se σ j))) (by rw [sm_R_of g1, pr_rf_of g1]; rfl) ?_
        refine jr_istore (L' := [_, _, _, _, _, _, _]) 33 dX10_best_31 rfl (by decide) rfl ?_
        refine jr_iconst (nI 0) 34 dX10_best_33 rfl rfl ?_
        refine jr_istore (L' := [_, _, _, _, _, _, _]) 36 dX10_best_34 rfl (by decide) rfl ?_
        refine best_r h hj g1 (fun σ2 x5 x6 g2 => ?_) 80 0 _ _ (by omega) (eqs_rx g2)
        refine jr_aload_n 0 115 dX10_best_114 rfl rfl rfl ?_
        refine jr_iconst ((-1)) 116 dX10_best_115 rfl rfl ?_
        refine pf_X10_79 119 dX10_best_116 rfl rfl rfl rfl ?_
        refine jr_iload_n 2 120 dX10_best_119 rfl rfl rfl ?_
        refine jr_if_ne 127 123 dX10_best_120 rfl rfl (fun q => absurd (by decide) q) (fun q120 => ?_)
        refine jr_iload_n 3 124 dX10_best_123 rfl rfl rfl ?_
        refine jr_goto 129 dX10_best_124 rfl ?_
        refine jr_ireturn dX10_best_129 rfl rfl ?_
        exact ⟨rfl, IV_mov (iv_same_tr (iv_cx g1) (iv_eqs (FX := [39, 40, 41]) (eqs_tr g2 (eqs_up _ _ (by decide))) (fun k hk hk2 => by
            rcases (by simpa using hk : k = 39 ∨ k = 40 ∨ k = 41) with rfl | rfl | rfl
            · exact (h1.2.2.2.2.2.2.1.1).symm
            · exact absurd hk2 (by decide)
            · exact absurd hk2 (by decide)))) h⟩
      · refine jr_enter (L := [some (.ref 0), some (.int (nI j)), some (.int (nI 1)), none, none, none, none, none]) (by decide) (Nat.le_of_ble_eq_true rfl) rfl ?_
        refine jr_aload_n 0 1 dX9_best_0 rfl rfl rfl ?_
        refine gf_X9_44 4 dX9_best_1 rfl rfl rfl rfl ?_
        refine jr_iload_n 1 5 dX9_best_4 rfl rfl rfl ?_
        refine cs_X9_146 8 dX9_best_5 rfl rfl rfl (Nat.le_of_ble_eq_true rfl) (wp_hasT_15 hnf h5 hj ?_)
        refine jr_if_ne 14 11 dX9_best_8 rfl rfl (fun q8 => ?_) (fun q => absurd q (by decide))
        refine jr_iload_n 2 15 dX9_best_14 rfl rfl rfl ?_
        refine jr_iconst (nI 1) 16 dX9_best_15 rfl rfl ?_
        refine cs_X9_104 19 dX9_best_16 rfl rfl (Nat.le_of_ble_eq_true rfl) (wp_wiT hc2 (by decide) rfl ?_)
        refine jr_if_ne 25 22 dX9_best_19 rfl rfl (fun q19 => ?_) (fun q => absurd q (by decide))
        refine jr_aload_n 0 26 dX9_best_25 rfl rfl rfl ?_
        refine jr_iload_n 1 27 dX9_best_26 rfl rfl rfl ?_
        refine jr_bipush (nI 40) 29 dX9_best_27 rfl rfl ?_
        refine cs_X9_189 32 dX9_best_29 rfl rfl rfl (Nat.le_of_ble_eq_true rfl) (wp_playNow (len := 40) (by omega) h hj (jr_eqx_rf _ _) (fun σ1 g1 g2 => ?_))
        refine jr_aload_n 0 33 dX9_best_32 rfl rfl rfl ?_
        refine gf_X9_37 36 dX9_best_33 rfl rfl rfl rfl ?_
        refine jr_iload_n 1 37 dX9_best_36 rfl rfl rfl ?_
        refine cs_X9_236 40 dX9_best_37 rfl rfl rfl (Nat.le_of_ble_eq_true rfl) (wp_redSeconds (by omega) ?_)
        refine jr_topi (y := (tr_rs (sm_R T lw nf nc kd se σ j) (pr_rf kd se σ j))) (pd_rs g2) ?_
        refine jr_istore_n 3 (L' := [_, _, _, _, _, _, _, _]) 41 dX9_best_40 rfl rfl (by decide) rfl ?_
        refine jr_iconst ((-1)) 42 dX9_best_41 rfl rfl ?_
        refine jr_istore (L' := [_, _, _, _, _, _, _, _]) 44 dX9_best_42 rfl (by decide) rfl ?_
        refine jr_iconst (nI 0) 45 dX9_best_44 rfl rfl ?_
        refine jr_istore (L' := [_, _, _, _, _, _, _, _]) 47 dX9_best_45 rfl (by decide) rfl ?_
        refine best_out h hj (fun σ1 x6 x7 u g1 => ?_) 4 0 _ _ _ (by omega) g1
        refine jr_iload_n 2 118 dX9_best_117 rfl rfl rfl ?_
        refine jr_if_ne 126 121 dX9_best_118 rfl rfl (fun q118 => ?_) (fun q => absurd q (by decide))
        refine jr_iload_n 3 127 dX9_best_126 rfl rfl rfl ?_
        refine jr_ireturn dX9_best_127 rfl rfl ?_
        have h1 := iv_mov (iv_cx g1) h
        have r1 := rr_of h1
        refine jr_enter (L := [some (.ref 46), some (.int (nI j)), some (.int (nI 1)), none, none, none, none]) (by decide) (Nat.le_of_ble_eq_true rfl) rfl ?_
        refine jr_aload_n 0 1 dX10_best_0 rfl rfl rfl ?_
        refine jr_iload_n 1 2 dX10_best_1 rfl rfl rfl ?_
        refine cs_X10_204 5 dX10_best_2 rfl rfl rfl (Nat.le_of_ble_eq_true rfl) (wp_isFace r1.1.1 h5 (fun _ _ _ => ?_) (fun q => absurd q (jr_fcn hj (by omega))))
        refine jr_if_ne 11 8 dX10_best_5 rfl rfl (fun q5 => ?_) (fun q => absurd q (by decide))
        refine jr_iload_n 2 12 dX10_best_11 rfl rfl rfl ?_
        refine jr_iconst (nI 0) 13 dX10_best_12 rfl rfl ?_
        refine jr_iconst (nI 1) 14 dX10_best_13 rfl rfl ?_
        refine cs_X10_108 17 dX10_best_14 rfl rfl (Nat.le_of_ble_eq_true rfl) (wp_inT hc2 (by decide) rfl ?_)
        refine jr_if_ne 23 20 dX10_best_17 rfl rfl (fun q17 => ?_) (fun q => absurd q (by decide))
        refine jr_iconst ((-1)) 24 dX10_best_23 rfl rfl ?_
        refine jr_istore_n 3 (L' := [_, _, _, _, _, _, _]) 25 dX10_best_24 rfl rfl (by decide) rfl ?_
        refine jr_aload_n 0 26 dX10_best_25 rfl rfl rfl ?_
        refine jr_iload_n 1 27 dX10_best_26 rfl rfl rfl ?_
        refine jr_iconst (nI 1) 28 dX10_best_27 rfl rfl ?_
        refine cs_X10_275 31 dX10_best_28 rfl rfl rfl (Nat.le_of_ble_eq_true rfl) (wp_rrt (what := 1) r1 hj (by omega) (fun σ2 g2 => ?_))
        refine jr_topi (y := (tr_rs (sm_R T lw nf nc kd se σ j) (pr_rf kd se σ j))) (by rw [sm_R_of g1, pr_rf_of g1]; rfl) ?_
        refine jr_istore (L' := [_, _, _, _, _, _, _]) 33 dX10_best_31 rfl (by decide) rfl ?_
        refine jr_iconst (nI 0) 34 dX10_best_33 rfl rfl ?_
        refine jr_istore (L' := [_, _, _, _, _, _, _]) 36 dX10_best_34 rfl (by decide) rfl ?_
        refine best_r h hj g1 (fun σ2 x5 x6 g2 => ?_) 80 0 _ _ (by omega) (eqs_rx g2)
        refine jr_aload_n 0 115 dX10_best_114 rfl rfl rfl ?_
        refine jr_iconst ((-1)) 116 dX10_best_115 rfl rfl ?_
        refine pf_X10_79 119 dX10_best_116 rfl rfl rfl rfl ?_
        refine jr_iload_n 2 120 dX10_best_119 rfl rfl rfl ?_
        refine jr_if_ne 127 123 dX10_best_120 rfl rfl (fun q120 => ?_) (fun q => absurd q (by decide))
        refine jr_iload 129 dX10_best_127 rfl rfl ?_
        refine jr_ireturn dX10_best_129 rfl rfl ?_
        exact ⟨rfl, IV_mov (iv_same_tr (iv_cx g1) (iv_eqs (FX := [39, 40, 41]) (eqs_tr g2 (eqs_up _ _ (by decide))) (fun k hk hk2 => by
            rcases (by simpa using hk : k = 39 ∨ k = 40 ∨ k = 41) with rfl | rfl | rfl
            · exact (h1.2.2.2.2.2.2.1.1).symm
            · exact absurd hk2 (by decide)
            · exact absurd hk2 (by decide)))) h⟩
def lt_P (T : Nat → Nat → List Nat) (lw nf nc : Nat) (kd se : Nat → Nat) (σ : jr_Sg) (j u : Nat) (a : Nat) : Prop := ¬ pr_rf kd se σ j ≤ (sm_R T lw nf nc kd se (md_s σ (nI j) (nI u) (nI a)) j 40).1
theorem latest_x {G : jr_G} {d : Nat} {σ : jr_Sg} {k : Value → jr_Sg → Prop} {T : Nat → Nat → List Nat} {n nf nc lw tp j : Nat} {kd se : Nat → Nat} (h : iv T n nf nc kd se lw tp σ) (hj : j < nf) {u : Nat} (fin : ∀ (σ1 : jr_Sg) (x : Int32), x = oI (ls (lt_P T lw nf nc kd se σ j u) 20) → jr_eqx iv_CX σ σ1 → k (.int x) σ1) : ∀ (m : Nat) (v : Int32) (σ1 : jr_Sg), m ≤ 20 → v + 1 = nI m → ls (lt_P T lw nf nc kd se σ j u) m = ls (lt_P T lw nf nc kd se σ j u) 20 → jr_eqx iv_CX σ σ1 → jr_R G (d + 19) mi_X9_latest (jr_k k) 28 [some (.ref 0), some (.int (nI j)), some (.int (nI u)), some (.int v)] [] σ1 := by
  have h5 : nf ≤ 5 := h.2.2.1.2.1.2.1
  intro m
  induction m with
  | zero =>
    intro v σ1 hm hv hl g
    have ev : v = -1 := by
      calc v = v + 1 - 1 := by simp
        _ = -1 := by rw [hv]; rfl
    subst ev
    refine jr_iload_n 3 29 dX9_latest_28 rfl rfl rfl ?_
    refine jr_if_lt 60 32 dX9_latest_29 rfl rfl (fun q29 => ?_) (fun z => absurd (by decide) z)
    refine jr_iconst ((-1)) 61 dX9_latest_60 rfl rfl ?_
    refine jr_ireturn dX9_latest_61 rfl rfl ?_
    exact fin σ1 _ (by rw [← hl]; rfl) g
  | succ m ih =>
    intro v σ1 hm hv hl g
    have ev := tp_of hv
    subst ev
    refine jr_iload_n 3 29 dX9_latest_28 rfl rfl rfl ?_
    refine jr_if_lt 60 32 dX9_latest_29 rfl rfl (fun z => absurd z (nI_pos (by omega))) (fun q29 => ?_)
    refine jr_aload_n 0 33 dX9_latest_32 rfl rfl rfl ?_
    refine jr_iload_n 1 34 dX9_latest_33 rfl rfl rfl ?_
    refine jr_iload_n 2 35 dX9_latest_34 rfl rfl rfl ?_
    refine jr_iload_n 3 36 dX9_latest_35 rfl rfl rfl ?_
    refine cs_X9_232 39 dX9_latest_36 rfl rfl rfl (Nat.le_of_ble_eq_true rfl) (wp_playStopped h hj g (fun σ2 g1 g2 => ?_))
    have g3 : pd σ2 40 j (pr_rf kd se σ j) (sm_R T lw nf nc kd se (md_s σ (nI j) (nI u) (nI m)) j) := g2
    refine jr_aload_n 0 40 dX9_latest_39 rfl rfl rfl ?_
    refine gf_X9_37 43 dX9_latest_40 rfl rfl rfl rfl ?_
    refine jr_bipush (nI 40) 45 dX9_latest_43 rfl rfl ?_
    refine jr_iload_n 1 46 dX9_latest_45 rfl rfl rfl ?_
    refine cs_X9_196 49 dX9_latest_46 rfl rfl rfl (Nat.le_of_ble_eq_true rfl) (wp_isRedBehind (t := 40) (f := j) (by omega) (by omega) (fun qr => ?_) (fun qr => ?_))
    · refine jr_if_ne 54 52 dX9_latest_49 rfl rfl (fun q49 => ?_) (fun q => absurd q (by decide))
      refine jr_iinc (v := _ + (-1)) (L' := [_, _, _, _]) 57 dX9_latest_54 rfl rfl rfl (by decide) rfl ?_
      refine jr_goto 28 dX9_latest_57 rfl ?_
      have hp : ¬ (lt_P T lw nf nc kd se σ j u) m := by unfold lt_P; rw [← g3.1, ← (g3.2 40 (Nat.le_refl _)).1]; exact fun q => q qr
      exact ih _ σ2 (by omega) (by rw [Int32.add_assoc, show (-1 : Int32) + 1 = 0 from by decide, Int32.add_zero]) (by rw [← hl, ls_f hp]) g1
    · refine jr_if_ne 54 52 dX9_latest_49 rfl rfl (fun q => absurd (by decide) q) (fun q49 => ?_)
      refine jr_iload_n 3 53 dX9_latest_52 rfl rfl rfl ?_
      refine jr_ireturn dX9_latest_53 rfl rfl ?_
      have hp : (lt_P T lw nf nc kd se σ j u) m := by unfold lt_P; rw [← g3.1, ← (g3.2 40 (Nat.le_refl _)).1]; exact qr
      exact fin σ2 _ (by rw [← hl, ls_t hp]; rfl) g1
theorem latest_r {G : jr_G} {d : Nat} {σ : jr_Sg} {k : Value → jr_Sg → Prop} {T : Nat → Nat → List Nat} {n nf nc lw tp j : Nat} {kd se : Nat → Nat} (h : iv T n nf nc kd se lw tp σ) (hj : j < nf) {u : Nat} {σ1 : jr_Sg} (g1 : jr_eqx iv_CX σ σ1) (fin : ∀ (σ2 : jr_Sg) (x4 : Option Value), jr_eqs [39, 40, 41] σ1 σ2 → jr_R G (d + 20) mi_X10_latest (jr_k k) 70 [some (.ref 46), some (.int (nI j)), some (.int (nI u)), some (.int (oI (ls (lt_P T lw nf nc kd se σ j u) 20))), x4] [] σ2) : ∀ (m i : Nat) (σ2 : jr_Sg), i + m = 20 → jr_eqs [39, 40, 41] σ1 σ2 → jr_R G (d + 20) mi_X10_latest (jr_k k) 28 [some (.ref 46), some (.int (nI j)), some (.int (nI u)), some (.int (oI (ls (lt_P T lw nf nc kd se σ j u) i))), some (.int (nI i))] [] σ2 := by
  have r1 := rr_of (iv_mov (iv_cx g1) h)
  have h5 : nf ≤ 5 := r1.1.2.1
  intro m
  induction m with
  | zero =>
    intro i σ2 hi g
    have e : i = 20 := hi
    subst e
    refine jr_iload 30 dX10_latest_28 rfl rfl ?_
    refine jr_bipush (20) 32 dX10_latest_30 rfl rfl ?_
    refine jr_icmp_ge 70 35 dX10_latest_32 rfl rfl (fun q32 => ?_) (fun z => absurd (by decide) z)
    exact fin σ2 _ g
  | succ m ih =>
    intro i σ2 hi g
    refine jr_iload 30 dX10_latest_28 rfl rfl ?_
    refine jr_bipush (nI 20) 32 dX10_latest_30 rfl rfl ?_
    refine jr_icmp_ge 70 35 dX10_latest_32 rfl rfl (fun z => absurd z (nI_ge (b := 20) (by omega) (by decide))) (fun q32 => ?_)
    refine jr_aload_n 0 36 dX10_latest_35 rfl rfl rfl ?_
    refine jr_iload_n 1 37 dX10_latest_36 rfl rfl rfl ?_
    refine jr_iload_n 2 38 dX10_latest_37 rfl rfl rfl ?_
    refine jr_iload 40 dX10_latest_38 rfl rfl ?_
    refine cs_X10_287 43 dX10_latest_40 rfl rfl rfl (Nat.le_of_ble_eq_true rfl) (wp_stopsBy ?_)
    refine jr_aload_n 0 44 dX10_latest_43 rfl rfl rfl ?_
    refine jr_bipush (nI 40) 46 dX10_latest_44 rfl rfl ?_
    refine cs_X10_253 49 dX10_latest_46 rfl rfl rfl (Nat.le_of_ble_eq_true rfl) (wp_rruns (len := 40) (rr_eqs r1 (eqs_tr g (md_s_eqs _ _ _ _)) (by decide)) (by omega) (fun σ3 g3 g4 => ?_))
    have e1 : (sm_R T lw nf nc kd se (md_s σ2 (nI j) (nI u) (nI i)) j 40).1 = (sm_R T lw nf nc kd se (md_s σ (nI j) (nI u) (nI i)) j 40).1 := by rw [sm_R_ag (md_s_ag g _ _ _), sm_R_of (cx_eqs g1 _ _ _)]
    have e2 : pu_redf (kd j) (σ3 49 j) (σ3 47 (se j)) = pr_rf kd se σ j := by
      rw [← pr_rf_of g1]
      unfold pr_rf
      rw [g3 49 (by decide), g3 47 (by decide)]
      show pu_redf (kd j) (σ2 49 j) (σ2 47 (se j)) = _
      rw [g.1 49 (by decide) (by decide), g.1 47 (by decide) (by decide)]
    have e3 : σ3 65 j = (sm_R T lw nf nc kd se (md_s σ (nI j) (nI u) (nI i)) j 40).1 := (g4 j hj).1.trans e1
    have g5 : jr_eqs [39, 40, 41] σ1 σ3 := eqs_tr (eqs_tr g (md_s_eqs _ _ _ _)) (eqs_rx g3)
    refine jr_aload_n 0 50 dX10_latest_49 rfl rfl rfl ?_
    refine jr_iload_n 1 51 dX10_latest_50 rfl rfl rfl ?_
    refine cs_X10_250 54 dX10_latest_51 rfl rfl rfl (Nat.le_of_ble_eq_true rfl) (wp_isRedNow (f := j) (rr_rx (rr_eqs r1 (eqs_tr g (md_s_eqs _ _ _ _)) (by decide)) g3).1 hj (fun qr => ?_) (fun qr => ?_))
    · refine jr_if_eq 61 57 dX10_latest_54 rfl rfl (fun q => absurd q (by decide)) (fun q54 => ?_)
      refine jr_iload_n 3 58 dX10_latest_57 rfl rfl rfl ?_
      refine jr_goto 63 dX10_latest_58 rfl ?_
      refine jr_istore_n 3 (L' := [_, _, _, _, _]) 64 dX10_latest_63 rfl rfl (by decide) rfl ?_
      refine jr_iinc (v := nI (i + 1)) (L' := [_, _, _, _, _]) 67 dX10_latest_64 rfl rfl (nI_1 i) (by decide) rfl ?_
      refine jr_goto 28 dX10_latest_67 rfl ?_
      have hp : ¬ (lt_P T lw nf nc kd se σ j u) i := by unfold lt_P; rw [← e2, ← e3]; exact fun q => q qr
      rw [← ls_f hp]
      exact ih (i + 1) σ3 (by omega) g5
    · refine jr_if_eq 61 57 dX10_latest_54 rfl rfl (fun q54 => ?_) (fun q => absurd (by decide) q)
      refine jr_iload 63 dX10_latest_61 rfl rfl ?_
      refine jr_istore_n 3 (L' := [_, _, _, _, _]) 64 dX10_latest_63 rfl rfl (by decide) rfl ?_
      refine jr_iinc (v := nI (i + 1)) (L' := [_, _, _, _, _]) 67 dX10_latest_64 rfl rfl (nI_1 i) (by decide) rfl ?_
      refine jr_goto 28 dX10_latest_67 rfl ?_
      have hp : (lt_P T lw nf nc kd se σ j u) i := by unfold lt_P; rw [← e2, ← e3]; exact qr
      have hih := ih (i + 1) σ3 (by omega) g5
      rw [ls_t hp] at hih
      exact hih
theorem pp_latest {G : jr_G} {d : Nat} {σ : jr_Sg} {f c : Int32} (h : IV σ) : jr_pair G (d + 20) mi_X9_latest mi_X10_latest [.int f, .int c] σ := by
  obtain ⟨T, n, nf, nc, kd, se, lw, tp, h⟩ := h
  have hh := h
  obtain ⟨hTC, hTR, ⟨hsc, hsr, hl1, hl2, hlw, hfc, hli, hca⟩, htp, himg, hsh, hrest, hwd⟩ := hh
  have hnf := hsc.1
  have h5 := hsc.2.1
  have hnc := hsc.2.2.1
  have h8 := hsc.2.2.2.1
  have rnf := hsr.1
  have rnc := hsr.2.2.1
  have hlm := hrest.2.2.2.1
  unfold jr_pair
  rcases jr_fc f h5 with hf | ⟨j, hj, rfl⟩
  · refine jr_enter (L := [some (.ref 0), some (.int f), some (.int c), none]) (by decide) (Nat.le_of_ble_eq_true rfl) rfl ?_
    refine jr_aload_n 0 1 dX9_latest_0 rfl rfl rfl ?_
    refine gf_X9_44 4 dX9_latest_1 rfl rfl rfl rfl ?_
    refine jr_iload_n 1 5 dX9_latest_4 rfl rfl rfl ?_
    refine cs_X9_146 8 dX9_latest_5 rfl rfl rfl (Nat.le_of_ble_eq_true rfl) (wp_has_15 hnf h5 (fun j hj e => absurd hf (by rw [e]; exact jr_fcn hj (by omega))) (fun _ => ?_))
    refine jr_if_ne 14 11 dX9_latest_8 rfl rfl (fun q => absurd (by decide) q) (fun q8 => ?_)
    refine jr_bipush ((-5)) 13 dX9_latest_11 rfl rfl ?_
    refine jr_ireturn dX9_latest_13 rfl rfl ?_
    refine jr_enter (L := [some (.ref 46), some (.int f), some (.int c), none, none]) (by decide) (Nat.le_of_ble_eq_true rfl) rfl ?_
    refine jr_aload_n 0 1 dX10_latest_0 rfl rfl rfl ?_
    refine jr_iload_n 1 2 dX10_latest_1 rfl rfl rfl ?_
    refine cs_X10_204 5 dX10_latest_2 rfl rfl rfl (Nat.le_of_ble_eq_true rfl) (wp_isFace rnf h5 (fun j hj e => absurd hf (by rw [e]; exact jr_fcn hj (by omega))) (fun _ => ?_))
    refine jr_if_ne 11 8 dX10_latest_5 rfl rfl (fun q => absurd (by decide) q) (fun q5 => ?_)
    refine jr_bipush ((-5)) 10 dX10_latest_8 rfl rfl ?_
    refine jr_ireturn dX10_latest_10 rfl rfl ?_
    exact ⟨rfl, IV_mov (iv_same_x (jr_eqx_rf [] _) (by decide)) h⟩
  · rcases jr_rg c (m := 3) (by decide) with qu | ⟨u, hu, rfl⟩
    · refine jr_enter (L := [some (.ref 0), some (.int (nI j)), some (.int c), none]) (by decide) (Nat.le_of_ble_eq_true rfl) rfl ?_
      refine jr_aload_n 0 1 dX9_latest_0 rfl rfl rfl ?_
      refine gf_X9_44 4 dX9_latest_1 rfl rfl rfl rfl ?_
      refine jr_iload_n 1 5 dX9_latest_4 rfl rfl rfl ?_
      refine cs_X9_146 8 dX9_latest_5 rfl rfl rfl (Nat.le_of_ble_eq_true rfl) (wp_hasT_15 hnf h5 hj ?_)
      refine jr_if_ne 14 11 dX9_latest_8 rfl rfl (fun q8 => ?_) (fun q => absurd q (by decide))
      refine jr_iload_n 2 15 dX9_latest_14 rfl rfl rfl ?_
      refine jr_iconst (3) 16 dX9_latest_15 rfl rfl ?_
      refine cs_X9_104 19 dX9_latest_16 rfl rfl (Nat.le_of_ble_eq_true rfl) (wp_wiF qu ?_)
      refine jr_if_ne 25 22 dX9_latest_19 rfl rfl (fun q => absurd (by decide) q) (fun q19 => ?_)
      refine jr_bipush ((-7)) 24 dX9_latest_22 rfl rfl ?_
      refine jr_ireturn dX9_latest_24 rfl rfl ?_
      refine jr_enter (L := [some (.ref 46), some (.int (nI j)), some (.int c), none, none]) (by decide) (Nat.le_of_ble_eq_true rfl) rfl ?_
      refine jr_aload_n 0 1 dX10_latest_0 rfl rfl rfl ?_
      refine jr_iload_n 1 2 dX10_latest_1 rfl rfl rfl ?_
      refine cs_X10_204 5 dX10_latest_2 rfl rfl rfl (Nat.le_of_ble_eq_true rfl) (wp_isFace rnf h5 (fun _ _ _ => ?_) (fun q => absurd q (jr_fcn hj (by omega))))
      refine jr_if_ne 11 8 dX10_latest_5 rfl rfl (fun q5 => ?_) (fun q => absurd q (by decide))
      refine jr_iload_n 2 12 dX10_latest_11 rfl rfl rfl ?_
      refine jr_iconst (0) 13 dX10_latest_12 rfl rfl ?_
      refine jr_iconst (3) 14 dX10_latest_13 rfl rfl ?_
      refine cs_X10_108 17 dX10_latest_14 rfl rfl (Nat.le_of_ble_eq_true rfl) (wp_inF qu ?_)
      refine jr_if_ne 23 20 dX10_latest_17 rfl rfl (fun q => absurd (by decide) q) (fun q17 => ?_)
      refine jr_bipush ((-7)) 22 dX10_latest_20 rfl rfl ?_
      refine jr_ireturn dX10_latest_22 rfl rfl ?_
      exact ⟨rfl, IV_mov (iv_same_x (jr_eqx_rf [] _) (by decide)) h⟩
    · refine jr_enter (L := [some (.ref 0), some (.int (nI j)), some (.int (nI u)), none]) (by decide) (Nat.le_of_ble_eq_true rfl) rfl ?_
      refine jr_aload_n 0 1 dX9_latest_0 rfl rfl rfl ?_
      refine gf_X9_44 4 dX9_latest_1 rfl rfl rfl rfl ?_
      refine jr_iload_n 1 5 dX9_latest_4 rfl rfl rfl ?_
      refine cs_X9_146 8 dX9_latest_5 rfl rfl rfl (Nat.le_of_ble_eq_true rfl) (wp_hasT_15 hnf h5 hj ?_)
      refine jr_if_ne 14 11 dX9_latest_8 rfl rfl (fun q8 => ?_) (fun q => absurd q (by decide))
      refine jr_iload_n 2 15 dX9_latest_14 rfl rfl rfl ?_
      refine jr_iconst (nI 3) 16 dX9_latest_15 rfl rfl ?_
      refine cs_X9_104 19 dX9_latest_16 rfl rfl (Nat.le_of_ble_eq_true rfl) (wp_wiT hu (by decide) rfl ?_)
      refine jr_if_ne 25 22 dX9_latest_19 rfl rfl (fun q19 => ?_) (fun q => absurd q (by decide))
      refine jr_bipush (nI 19) 27 dX9_latest_25 rfl rfl ?_
      refine jr_istore_n 3 (L' := [_, _, _, _]) 28 dX9_latest_27 rfl rfl (by decide) rfl ?_
      refine latest_x h hj (u := u) (fun σ1 x ex g1 => ?_) 20 _ σ (by omega) (by rfl) rfl (jr_eqx_rf _ _)
      have h1 := iv_mov (iv_cx g1) h
      have r1 := rr_of h1
      refine jr_enter (L := [some (.ref 46), some (.int (nI j)), some (.int (nI u)), none, none]) (by decide) (Nat.le_of_ble_eq_true rfl) rfl ?_
      refine jr_aload_n 0 1 dX10_latest_0 rfl rfl rfl ?_
      refine jr_iload_n 1 2 dX10_latest_1 rfl rfl rfl ?_
      refine cs_X10_204 5 dX10_latest_2 rfl rfl rfl (Nat.le_of_ble_eq_true rfl) (wp_isFace r1.1.1 h5 (fun _ _ _ => ?_) (fun q => absurd q (jr_fcn hj (by omega))))
      refine jr_if_ne 11 8 dX10_latest_5 rfl rfl (fun q5 => ?_) (fun q => absurd q (by decide))
      refine jr_iload_n 2 12 dX10_latest_11 rfl rfl rfl ?_
      refine jr_iconst (nI 0) 13 dX10_latest_12 rfl rfl ?_
      refine jr_iconst (nI 3) 14 dX10_latest_13 rfl rfl ?_
      refine cs_X10_108 17 dX10_latest_14 rfl rfl (Nat.le_of_ble_eq_true rfl) (wp_inT hu (by decide) rfl ?_)
      refine jr_if_ne 23 20 dX10_latest_17 rfl rfl (fun q17 => ?_) (fun q => absurd q (by decide))
      refine jr_iconst ((-1)) 24 dX10_latest_23 rfl rfl ?_
      refine jr_istore_n 3 (L' := [_, _, _, _, _]) 25 dX10_latest_24 rfl rfl (by decide) rfl ?_
      refine jr_iconst (nI 0) 26 dX10_latest_25 rfl rfl ?_
      refine jr_istore (L' := [_, _, _, _, _]) 28 dX10_latest_26 rfl (by decide) rfl ?_
      refine latest_r h hj g1 (fun σ2 x4 g2 => ?_) 20 0 _ (by omega) (eqs_rf _ _)
      refine jr_aload_n 0 71 dX10_latest_70 rfl rfl rfl ?_
      refine jr_iconst ((-1)) 72 dX10_latest_71 rfl rfl ?_
      refine pf_X10_79 75 dX10_latest_72 rfl rfl rfl rfl ?_
      refine jr_iload_n 3 76 dX10_latest_75 rfl rfl rfl ?_
      refine jr_ireturn dX10_latest_76 rfl rfl ?_
      exact ⟨congrArg Value.int ex.symm, IV_mov (iv_same_tr (iv_cx g1) (iv_eqs (FX := [39, 40, 41]) (eqs_tr g2 (eqs_up _ _ (by decide))) (fun k hk hk2 => by
          rcases (by simpa using hk : k = 39 ∨ k = 40 ∨ k = 41) with rfl | rfl | rfl
          · exact (h1.2.2.2.2.2.2.1.1).symm
          · exact absurd hk2 (by decide)
          · exact absurd hk2 (by decide)))) h⟩
