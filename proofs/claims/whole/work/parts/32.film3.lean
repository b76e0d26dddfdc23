theorem cx_c {σ σ' : jr_Sg} (g : jr_eqx iv_CX σ σ') (y : Nat) (a b : Int32) : jr_eqx iv_CX (md_c σ y a b) (md_c σ' y a b) := jr_eqx_upb (jr_eqx_upb g (by decide)) (by decide)
/-- the reference's ONE CAUSE MORE, written in either order -/
theorem ag_c {σ1 σ2 : jr_Sg} {y : Nat} {sec much : Int32} (g : jr_eqx iv_RX (jr_up σ1 46 45 sec) σ2) : jr_ag [47, 49, 50, 52, 70, 71] [39, 40, 41, 42, 43, 45, 46] (md_c σ1 y sec much) (jr_up σ2 70 y much) := by
  refine ⟨fun c hc => ?_, fun k hk => ?_⟩
  · have hc2 : c ∉ iv_RX ∧ c ≠ 46 := by revert c; decide
    have e : σ2 c = σ1 c := (g c hc2.1).trans (by unfold jr_up; rw [if_neg hc2.2])
    unfold md_c jr_up
    rw [if_neg hc2.2]
    by_cases e7 : c = 70
    · subst e7; rw [if_pos rfl, if_pos rfl, e]
    · rw [if_neg e7, if_neg e7, e]
  · show σ2 46 k = upd (σ1 46) 45 sec k
    rw [g 46 (by decide)]
    rfl
theorem up_zero {g : Nat → Int32} {s : Nat} {v : Int32} (h : g s = 0) : upd (upd g s v) s 0 = g := by
  funext i
  by_cases e : i = s
  · subst e; rw [pk_us, h]
  · rw [pk_un e, pk_un e]
theorem rr_fld {T : Nat → Nat → List Nat} {n nf nc lw : Nat} {kd se : Nat → Nat} {σ : jr_Sg} {q : Nat} {v : Int32} (h : rr_ok T n nf nc kd se lw σ) (hq : q ∉ [1, 6, 12, 13, 46]) : rr_ok T n nf nc kd se lw (jr_up σ 46 q v) := rr_eqs h (FX := [q]) (eqs_up σ v (by simp)) (fun k hk e => hq (by rw [← List.mem_singleton.mp e]; exact hk))
theorem through_x {G : jr_G} {d : Nat} {σ : jr_Sg} {k : Value → jr_Sg → Prop} {T : Nat → Nat → List Nat} {n nf nc lw tp j0 z j b : Nat} {kd se : Nat → Nat} (h : iv T n nf nc kd se lw tp σ) (hn : fr_no σ j0 z) (hj : j < nf) (hb : b < 2 ^ 31) (fin : ∀ σ1 : jr_Sg, jr_eqx iv_CX σ σ1 → k (.int (bo (fun g => if g = j then 0 else oI (fo (σ 45) (sm_R T lw nf nc kd se (md_c σ g (nI (b % 100)) (nI (b / 100))) j) j0 z)) nf)) σ1) : ∀ (m i : Nat) (x : Int32) (σ1 : jr_Sg), i + m = nf → x = bo (fun g => if g = j then 0 else oI (fo (σ 45) (sm_R T lw nf nc kd se (md_c σ g (nI (b % 100)) (nI (b / 100))) j) j0 z)) i → jr_eqx iv_CX σ σ1 → jr_R G (d + 19) mi_X9_through (jr_k k) 62 [some (.ref 0), some (.int (nI j0)), some (.int (nI j)), some (.int (nI b)), some (.int 0), some (.int x), some (.int (nI i))] [] σ1 := by
  have h5 : nf ≤ 5 := h.2.2.1.2.1.2.1
  have ediv : nI b / nI 100 = nI (b / 100) := pk_div hb (by omega) (by omega)
  have erem : nI b - nI b / nI 100 * nI 100 = nI (b % 100) := pk_rem hb (by omega) (by omega)
  intro m
  induction m with
  | zero =>
    intro i x σ1 hi e g
    have ei : i = nf := hi
    subst ei
    have hnf1 : σ1 15 8 = nI i := by rw [g 15 (by decide)]; exact h.2.2.1.1.1
    refine jr_iload 64 dX9_through_62 rfl rfl ?_
    refine jr_aload_n 0 65 dX9_through_64 rfl rfl rfl ?_
    refine gf_X9_44 68 dX9_through_65 rfl rfl rfl rfl ?_
    refine gf_X9_84 71 dX9_through_68 rfl rfl rfl rfl ?_
    rw [hnf1]
    refine jr_icmp_ge 129 74 dX9_through_71 rfl rfl (fun q71 => ?_) (fun q => absurd (Int32.le_refl _) q)
    refine jr_iload 131 dX9_through_129 rfl rfl ?_
    refine jr_ireturn dX9_through_131 rfl rfl ?_
    rw [e]
    exact fin σ1 g
  | succ m ih =>
    intro i x σ1 hi e g
    have hnf1 : σ1 15 8 = nI nf := by rw [g 15 (by decide)]; exact h.2.2.1.1.1
    have hn3 := fn_x hn g (by decide)
    by_cases hij : i = j
    · refine jr_iload 64 dX9_through_62 rfl rfl ?_
      refine jr_aload_n 0 65 dX9_through_64 rfl rfl rfl ?_
      refine gf_X9_44 68 dX9_through_65 rfl rfl rfl rfl ?_
      refine gf_X9_84 71 dX9_through_68 rfl rfl rfl rfl ?_
      rw [hnf1]
      refine jr_icmp_ge 129 74 dX9_through_71 rfl rfl (fun q => absurd q (nI_ge (by omega) (by omega))) (fun q71 => ?_)
      refine jr_iload 76 dX9_through_74 rfl rfl ?_
      refine jr_iload_n 2 77 dX9_through_76 rfl rfl rfl ?_
      refine jr_icmp_eq 123 80 dX9_through_77 rfl rfl (fun q77 => ?_) (fun q => absurd (by rw [hij]) q)
      refine jr_iinc (v := nI (i + 1)) (L' := [_, _, _, _, _, _, _]) 126 dX9_through_123 rfl rfl (nI_1 i) (by decide) rfl ?_
      refine jr_goto 62 dX9_through_126 rfl ?_
      exact ih (i + 1) _ σ1 (by omega) (bo_s (A := (fun g => if g = j then 0 else oI (fo (σ 45) (sm_R T lw nf nc kd se (md_c σ g (nI (b % 100)) (nI (b / 100))) j) j0 z))) e (by show ¬ (if i = j then 0 else oI (fo (σ 45) (sm_R T lw nf nc kd se (md_c σ i (nI (b % 100)) (nI (b / 100))) j) j0 z)) = -1; rw [if_pos hij]; decide)) g
    · refine jr_iload 64 dX9_through_62 rfl rfl ?_
      refine jr_aload_n 0 65 dX9_through_64 rfl rfl rfl ?_
      refine gf_X9_44 68 dX9_through_65 rfl rfl rfl rfl ?_
      refine gf_X9_84 71 dX9_through_68 rfl rfl rfl rfl ?_
      rw [hnf1]
      refine jr_icmp_ge 129 74 dX9_through_71 rfl rfl (fun q => absurd q (nI_ge (by omega) (by omega))) (fun q71 => ?_)
      refine jr_iload 76 dX9_through_74 rfl rfl ?_
      refine jr_iload_n 2 77 dX9_through_76 rfl rfl rfl ?_
      refine jr_icmp_eq 123 80 dX9_through_77 rfl rfl (fun q => absurd (nI_inj (by omega) (by omega) q) hij) (fun q77 => ?_)
      refine jr_aload_n 0 81 dX9_through_80 rfl rfl rfl ?_
      refine jr_iload_n 2 82 dX9_through_81 rfl rfl rfl ?_
      refine jr_iload 84 dX9_through_82 rfl rfl ?_
      refine jr_iload_n 3 85 dX9_through_84 rfl rfl rfl ?_
      refine jr_bipush (nI 100) 87 dX9_through_85 rfl rfl ?_
      refine jr_irem 88 dX9_through_87 rfl (by decide) ?_
      rw [erem]
      refine jr_iload_n 3 89 dX9_through_88 rfl rfl rfl ?_
      refine jr_bipush (nI 100) 91 dX9_through_89 rfl rfl ?_
      refine jr_idiv 92 dX9_through_91 rfl (by decide) ?_
      rw [ediv]
      refine jr_aload_n 0 93 dX9_through_92 rfl rfl rfl ?_
      refine jr_iload_n 1 94 dX9_through_93 rfl rfl rfl ?_
      refine cs_X9_292 97 dX9_through_94 rfl rfl rfl (Nat.le_of_ble_eq_true rfl) (wp_filmLength hn3 ?_)
      refine cs_X9_270 100 dX9_through_97 rfl rfl rfl (Nat.le_of_ble_eq_true rfl) (wp_playCaused (len := 5 * z) (y := i) (by omega) (by have := hn.2.1; omega) h hj g (fun σ4 g4 g5 => ?_))
      have hn4 := fn_x hn g4 (by decide)
      have e45 : σ4 45 = σ 45 := g4 45 (by decide)
      refine jr_iload 102 dX9_through_100 rfl rfl ?_
      refine jr_aload_n 0 103 dX9_through_102 rfl rfl rfl ?_
      refine jr_iload_n 1 104 dX9_through_103 rfl rfl rfl ?_
      refine jr_iload_n 2 105 dX9_through_104 rfl rfl rfl ?_
      refine cs_X9_295 108 dX9_through_105 rfl rfl rfl (Nat.le_of_ble_eq_true rfl) (wp_firstOther (len := 5 * z) hn4 (by omega) (Nat.le_refl _) g5 ?_)
      rw [e45]
      refine jr_topi (y := (fun g => if g = j then 0 else oI (fo (σ 45) (sm_R T lw nf nc kd se (md_c σ g (nI (b % 100)) (nI (b / 100))) j) j0 z)) i) (by show _ = if i = j then 0 else oI (fo (σ 45) (sm_R T lw nf nc kd se (md_c σ i (nI (b % 100)) (nI (b / 100))) j) j0 z); rw [if_neg hij]; rfl) ?_
      refine jr_iconst ((-1)) 109 dX9_through_108 rfl rfl ?_
      refine jr_icmp_ne 119 112 dX9_through_109 rfl rfl (fun q109 => ?_) (fun q109 => ?_)
      · refine jr_iconst (0) 120 dX9_through_119 rfl rfl ?_
        refine jr_ior 121 dX9_through_120 rfl ?_
        refine jr_istore (L' := [_, _, _, _, _, _, _]) 123 dX9_through_121 rfl (by decide) rfl ?_
        refine jr_iinc (v := nI (i + 1)) (L' := [_, _, _, _, _, _, _]) 126 dX9_through_123 rfl rfl (nI_1 i) (by decide) rfl ?_
        refine jr_goto 62 dX9_through_126 rfl ?_
        exact ih (i + 1) _ σ4 (by omega) (bo_f (A := (fun g => if g = j then 0 else oI (fo (σ 45) (sm_R T lw nf nc kd se (md_c σ g (nI (b % 100)) (nI (b / 100))) j) j0 z))) e q109) g4
      · refine jr_iconst (1) 113 dX9_through_112 rfl rfl ?_
        refine jr_iload 115 dX9_through_113 rfl rfl ?_
        refine jr_ishl 116 dX9_through_115 rfl ?_
        refine jr_goto 120 dX9_through_116 rfl ?_
        refine jr_ior 121 dX9_through_120 rfl ?_
        refine jr_istore (L' := [_, _, _, _, _, _, _]) 123 dX9_through_121 rfl (by decide) rfl ?_
        refine jr_iinc (v := nI (i + 1)) (L' := [_, _, _, _, _, _, _]) 126 dX9_through_123 rfl rfl (nI_1 i) (by decide) rfl ?_
        refine jr_goto 62 dX9_through_126 rfl ?_
        exact ih (i + 1) _ σ4 (by omega) (bo_t (A := (fun g => if g = j then 0 else oI (fo (σ 45) (sm_R T lw nf nc kd se (md_c σ g (nI (b % 100)) (nI (b / 100))) j) j0 z))) e q109) g4
theorem through_r {G : jr_G} {d : Nat} {σ : jr_Sg} {k : Value → jr_Sg → Prop} {T : Nat → Nat → List Nat} {n nf nc lw tp j0 z j b : Nat} {kd se : Nat → Nat} (h : iv T n nf nc kd se lw tp σ) (hn : fr_no σ j0 z) (hj : j < nf) (hb : b < 2 ^ 31) {σ1 : jr_Sg} (g1 : jr_eqx iv_CX σ σ1) (fin : ∀ σ2 : jr_Sg, jr_eqx iv_RX (jr_up σ1 46 45 (nI (b % 100))) σ2 → k (.int (bo (fun g => if g = j then 0 else oI (fo (σ 45) (sm_R T lw nf nc kd se (md_c σ g (nI (b % 100)) (nI (b / 100))) j) j0 z)) nf)) (jr_up σ2 46 45 0)) : ∀ (m i : Nat) (x : Int32) (σ2 : jr_Sg), i + m = nf → x = bo (fun g => if g = j then 0 else oI (fo (σ 45) (sm_R T lw nf nc kd se (md_c σ g (nI (b % 100)) (nI (b / 100))) j) j0 z)) i → jr_eqx iv_RX (jr_up σ1 46 45 (nI (b % 100))) σ2 → jr_R G (d + 20) mi_X10_through (jr_k k) 56 [some (.ref 46), some (.int (nI j0)), some (.int (nI j)), some (.int (nI b)), some (.int 0), some (.int x), some (.int (nI i))] [] σ2 := by
  have h1 := iv_mov (iv_cx g1) h
  have r1 := rr_of h1
  have hn1 := fn_x hn g1 (by decide)
  have ediv : nI b / nI 100 = nI (b / 100) := pk_div hb (by omega) (by omega)
  have erem : nI b - nI b / nI 100 * nI 100 = nI (b % 100) := pk_rem hb (by omega) (by omega)
  have h5 : nf ≤ 5 := r1.1.2.1
  have rb : rr_ok T n nf nc kd se lw (jr_up σ1 46 45 (nI (b % 100))) := rr_fld r1 (by decide)
  intro m
  induction m with
  | zero =>
    intro i x σ2 hi e g
    have ei : i = nf := hi
    subst ei
    have hnf1 : σ2 46 1 = nI i := by rw [g 46 (by decide)]; exact r1.1.1
    refine jr_iload 58 dX10_through_56 rfl rfl ?_
    refine jr_aload_n 0 59 dX10_through_58 rfl rfl rfl ?_
    refine gf_X10_105 62 dX10_through_59 rfl rfl rfl rfl ?_
    rw [hnf1]
    refine jr_icmp_ge 119 65 dX10_through_62 rfl rfl (fun q62 => ?_) (fun q => absurd (Int32.le_refl _) q)
    refine jr_aload_n 0 120 dX10_through_119 rfl rfl rfl ?_
    refine jr_iconst (0) 121 dX10_through_120 rfl rfl ?_
    refine pf_X10_229 124 dX10_through_121 rfl rfl rfl rfl ?_
    refine jr_iload 126 dX10_through_124 rfl rfl ?_
    refine jr_ireturn dX10_through_126 rfl rfl ?_
    rw [e]
    exact fin σ2 g
  | succ m ih =>
    intro i x σ2 hi e g
    have hnf1 : σ2 46 1 = nI nf := by rw [g 46 (by decide)]; exact r1.1.1
    have e70 : σ2 70 i = 0 := by rw [g 70 (by decide)]; exact (h1.2.2.2.2.2.2.1.2.2.2.2 i (by omega)).1
    have r2 : rr_ok T n nf nc kd se lw (jr_up σ2 70 i (nI (b / 100))) := rr_x (rr_rx rb g) (jr_eqx_up (X := [70]) _ _ _ (by decide)) (by decide)
    have hn2 : fr_no (jr_up σ2 70 i (nI (b / 100))) j0 z := fn_x (fn_46 hn1 (σ' := σ2) (fun a ha => (g a (by revert a; decide)).trans (by unfold jr_up; rw [if_neg (by revert a; decide)]))) (jr_eqx_up (X := [70]) _ _ _ (by decide)) (by decide)
    have gz : ∀ σ3 : jr_Sg, jr_eqx iv_RX (jr_up σ2 70 i (nI (b / 100))) σ3 → jr_eqx iv_RX (jr_up σ1 46 45 (nI (b % 100))) (jr_up σ3 70 i 0) := fun σ3 g3 a ha => by
      by_cases e7 : a = 70
      · subst e7
        show upd (σ3 70) i 0 = _
        rw [g3 70 (by decide), show (jr_up σ2 70 i (nI (b / 100))) 70 = upd (σ2 70) i (nI (b / 100)) from rfl, up_zero e70]
        exact g 70 (by decide)
      · have q1 : jr_up σ3 70 i 0 a = σ3 a := by unfold jr_up; rw [if_neg e7]
        have q2 : (jr_up σ2 70 i (nI (b / 100))) a = σ2 a := by unfold jr_up; rw [if_neg e7]
        rw [q1, g3 a ha, q2]
        exact g a ha
    by_cases hij : i = j
    · refine jr_iload 58 dX10_through_56 rfl rfl ?_
      refine jr_aload_n 0 59 dX10_through_58 rfl rfl rfl ?_
      refine gf_X10_105 62 dX10_through_59 rfl rfl rfl rfl ?_
      rw [hnf1]
      refine jr_icmp_ge 119 65 dX10_through_62 rfl rfl (fun q => absurd q (nI_ge (by omega) (by omega))) (fun q62 => ?_)
      refine jr_aload_n 0 66 dX10_through_65 rfl rfl rfl ?_
      refine gf_X10_89 69 dX10_through_66 rfl rfl rfl rfl ?_
      refine jr_iload 71 dX10_through_69 rfl rfl ?_
      refine jr_iload_n 3 72 dX10_through_71 rfl rfl rfl ?_
      refine jr_bipush (nI 100) 74 dX10_through_72 rfl rfl ?_
      refine jr_idiv 75 dX10_through_74 rfl (by decide) ?_
      rw [ediv]
      refine jr_iast rfl rfl (by omega) 76 dX10_through_75 rfl ?_
      refine jr_iload 78 dX10_through_76 rfl rfl ?_
      refine jr_iload 80 dX10_through_78 rfl rfl ?_
      refine jr_iload_n 2 81 dX10_through_80 rfl rfl rfl ?_
      refine jr_icmp_eq 101 84 dX10_through_81 rfl rfl (fun q81 => ?_) (fun q => absurd (by rw [hij]) q)
      refine jr_iconst (0) 102 dX10_through_101 rfl rfl ?_
      refine jr_ior 103 dX10_through_102 rfl ?_
      refine jr_istore (L' := [_, _, _, _, _, _, _]) 105 dX10_through_103 rfl (by decide) rfl ?_
      refine jr_aload_n 0 106 dX10_through_105 rfl rfl rfl ?_
      refine gf_X10_89 109 dX10_through_106 rfl rfl rfl rfl ?_
      refine jr_iload 111 dX10_through_109 rfl rfl ?_
      refine jr_iconst (0) 112 dX10_through_111 rfl rfl ?_
      refine jr_iast rfl rfl (by omega) 113 dX10_through_112 rfl ?_
      refine jr_iinc (v := nI (i + 1)) (L' := [_, _, _, _, _, _, _]) 116 dX10_through_113 rfl rfl (nI_1 i) (by decide) rfl ?_
      refine jr_goto 56 dX10_through_116 rfl ?_
      exact ih (i + 1) _ _ (by omega) (bo_f (A := (fun g => if g = j then 0 else oI (fo (σ 45) (sm_R T lw nf nc kd se (md_c σ g (nI (b % 100)) (nI (b / 100))) j) j0 z))) e (by show ¬ (if i = j then 0 else oI (fo (σ 45) (sm_R T lw nf nc kd se (md_c σ i (nI (b % 100)) (nI (b / 100))) j) j0 z)) = -1; rw [if_pos hij]; decide)) (gz _ (jr_eqx_rf _ _))
    · have eA : oI (fo ((jr_up σ2 70 i (nI (b / 100))) 59) (sm_R T lw nf nc kd se (jr_up σ2 70 i (nI (b / 100))) j) j0 z) = (fun g => if g = j then 0 else oI (fo (σ 45) (sm_R T lw nf nc kd se (md_c σ g (nI (b % 100)) (nI (b / 100))) j) j0 z)) i := by
        show _ = if i = j then 0 else oI (fo (σ 45) (sm_R T lw nf nc kd se (md_c σ i (nI (b % 100)) (nI (b / 100))) j) j0 z)
        rw [if_neg hij, sm_R_ag (ag_c g), sm_R_of (cx_c g1 _ _ _), ← fo_congr (C := (jr_up σ2 70 i (nI (b / 100))) 45) (fun q hq => hn2.2.2.2.2.2.2 q hq), show (jr_up σ2 70 i (nI (b / 100))) 45 = σ2 45 from rfl, g 45 (by decide), show (jr_up σ1 46 45 (nI (b % 100))) 45 = σ1 45 from rfl, g1 45 (by decide)]
      refine jr_iload 58 dX10_through_56 rfl rfl ?_
      refine jr_aload_n 0 59 dX10_through_58 rfl rfl rfl ?_
      refine gf_X10_105 62 dX10_through_59 rfl rfl rfl rfl ?_
      rw [hnf1]
      refine jr_icmp_ge 119 65 dX10_through_62 rfl rfl (fun q => absurd q (nI_ge (by omega) (by omega))) (fun q62 => ?_)
      refine jr_aload_n 0 66 dX10_through_65 rfl rfl rfl ?_
      refine gf_X10_89 69 dX10_through_66 rfl rfl rfl rfl ?_
      refine jr_iload 71 dX10_through_69 rfl rfl ?_
      refine jr_iload_n 3 72 dX10_through_71 rfl rfl rfl ?_
      refine jr_bipush (nI 100) 74 dX10_through_72 rfl rfl ?_
      refine jr_idiv 75 dX10_through_74 rfl (by decide) ?_
      rw [ediv]
      refine jr_iast rfl rfl (by omega) 76 dX10_through_75 rfl ?_
      refine jr_iload 78 dX10_through_76 rfl rfl ?_
      refine jr_iload 80 dX10_through_78 rfl rfl ?_
      refine jr_iload_n 2 81 dX10_through_80 rfl rfl rfl ?_
      refine jr_icmp_eq 101 84 dX10_through_81 rfl rfl (fun q => absurd (nI_inj (by omega) (by omega) q) hij) (fun q81 => ?_)
      refine jr_aload_n 0 85 dX10_through_84 rfl rfl rfl ?_
      refine jr_iload_n 1 86 dX10_through_85 rfl rfl rfl ?_
      refine jr_iload_n 2 87 dX10_through_86 rfl rfl rfl ?_
      refine cs_X10_325 90 dX10_through_87 rfl rfl rfl (Nat.le_of_ble_eq_true rfl) (wp_unlike r2 hn2.1 hn2.2.1 hn2.2.2.2.1 (f := j) (by omega) (fun σ3 g3 => ?_))
      rw [eA]
      refine jr_iconst ((-1)) 91 dX10_through_90 rfl rfl ?_
      refine jr_icmp_ne 101 94 dX10_through_91 rfl rfl (fun q91 => ?_) (fun q91 => ?_)
      · refine jr_iconst (0) 102 dX10_through_101 rfl rfl ?_
        refine jr_ior 103 dX10_through_102 rfl ?_
        refine jr_istore (L' := [_, _, _, _, _, _, _]) 105 dX10_through_103 rfl (by decide) rfl ?_
        refine jr_aload_n 0 106 dX10_through_105 rfl rfl rfl ?_
        refine gf_X10_89 109 dX10_through_106 rfl rfl rfl rfl ?_
        refine jr_iload 111 dX10_through_109 rfl rfl ?_
        refine jr_iconst (0) 112 dX10_through_111 rfl rfl ?_
        refine jr_iast rfl rfl (by omega) 113 dX10_through_112 rfl ?_
        refine jr_iinc (v := nI (i + 1)) (L' := [_, _, _, _, _, _, _]) 116 dX10_through_113 rfl rfl (nI_1 i) (by decide) rfl ?_
        refine jr_goto 56 dX10_through_116 rfl ?_
        exact ih (i + 1) _ _ (by omega) (bo_f (A := (fun g => if g = j then 0 else oI (fo (σ 45) (sm_R T lw nf nc kd se (md_c σ g (nI (b % 100)) (nI (b / 100))) j) j0 z))) e q91) (gz σ3 g3)
      · refine jr_iconst (1) 95 dX10_through_94 rfl rfl ?_
        refine jr_iload 97 dX10_through_95 rfl rfl ?_
        refine jr_ishl 98 dX10_through_97 rfl ?_
        refine jr_goto 102 dX10_through_98 rfl ?_
        refine jr_ior 103 dX10_through_102 rfl ?_
        refine jr_istore (L' := [_, _, _, _, _, _, _]) 105 dX10_through_103 rfl (by decide) rfl ?_
        refine jr_aload_n 0 106 dX10_through_105 rfl rfl rfl ?_
        refine gf_X10_89 109 dX10_through_106 rfl rfl rfl rfl ?_
        refine jr_iload 111 dX10_through_109 rfl rfl ?_
        refine jr_iconst (0) 112 dX10_through_111 rfl rfl ?_
        refine jr_iast rfl rfl (by omega) 113 dX10_through_112 rfl ?_
        refine jr_iinc (v := nI (i + 1)) (L' := [_, _, _, _, _, _, _]) 116 dX10_through_113 rfl rfl (nI_1 i) (by decide) rfl ?_
        refine jr_goto 56 dX10_through_116 rfl ?_
        exact ih (i + 1) _ _ (by omega) (bo_t (A := (fun g => if g = j then 0 else oI (fo (σ 45) (sm_R T lw nf nc kd se (md_c σ g (nI (b % 100)) (nI (b / 100))) j) j0 z))) e q91) (gz σ3 g3)
theorem pp_through {G : jr_G} {d : Nat} {σ : jr_Sg} {a f c : Int32} (h : IV σ) : jr_pair G (d + 20) mi_X9_through mi_X10_through [.int a, .int f, .int c] σ := by
  obtain ⟨T, n, nf, nc, kd, se, lw, tp, h⟩ := h
  have hh := h
  obtain ⟨hTC, hTR, ⟨hsc, hsr, hl1, hl2, hlw, hfc, hli, hca⟩, htp, himg, hsh, hrest, hwd⟩ := hh
  have hnf := hsc.1
  have h5 := hsc.2.1
  have hnc := hsc.2.2.1
  have h8 := hsc.2.2.2.1
  have rnf := hsr.1
  have rnc := hsr.2.2.1
  have hlm := hrest.2.2.2.1
  unfold jr_pair
  rcases fr_cases hsh a with ⟨r, hr⟩ | ⟨j0, z, rfl, hn⟩
  · refine jr_enter (L := [some (.ref 0), some (.int a), some (.int f), some (.int c), none, none, none]) (by decide) (Nat.le_of_ble_eq_true rfl) rfl ?_
    refine jr_aload_n 0 1 dX9_through_0 rfl rfl rfl ?_
    refine jr_iload_n 1 2 dX9_through_1 rfl rfl rfl ?_
    refine cs_X9_289 5 dX9_through_2 rfl rfl rfl (Nat.le_of_ble_eq_true rfl) (wp_filmRefusalF hsh hr ?_)
    refine jr_istore (L' := [_, _, _, _, _, _, _]) 7 dX9_through_5 rfl (by decide) rfl ?_
    refine jr_iload 9 dX9_through_7 rfl rfl ?_
    refine jr_if_ge 15 12 dX9_through_9 rfl rfl (fun q => absurd q (Int32.not_le.mpr (fr_neg hr))) (fun q9 => ?_)
    refine jr_iload 14 dX9_through_12 rfl rfl ?_
    refine jr_ireturn dX9_through_14 rfl rfl ?_
    refine jr_enter (L := [some (.ref 46), some (.int a), some (.int f), some (.int c), none, none, none]) (by decide) (Nat.le_of_ble_eq_true rfl) rfl ?_
    refine jr_aload_n 0 1 dX10_through_0 rfl rfl rfl ?_
    refine jr_iload_n 1 2 dX10_through_1 rfl rfl rfl ?_
    refine jr_iload_n 2 3 dX10_through_2 rfl rfl rfl ?_
    refine cs_X10_322 6 dX10_through_3 rfl rfl rfl (Nat.le_of_ble_eq_true rfl) (wp_toldWrongF hr ?_)
    refine jr_istore (L' := [_, _, _, _, _, _, _]) 8 dX10_through_6 rfl (by decide) rfl ?_
    refine jr_iload 10 dX10_through_8 rfl rfl ?_
    refine jr_if_eq 16 13 dX10_through_10 rfl rfl (fun q => absurd q (fr_ne hr)) (fun q10 => ?_)
    refine jr_iload 15 dX10_through_13 rfl rfl ?_
    refine jr_ireturn dX10_through_15 rfl rfl ?_
    exact ⟨rfl, IV_mov (iv_same_x (jr_eqx_rf [] _) (by decide)) h⟩
  · rcases jr_fc f h5 with hf | ⟨j, hj, rfl⟩
    · refine jr_enter (L := [some (.ref 0), some (.int (nI j0)), some (.int f), some (.int c), none, none, none]) (by decide) (Nat.le_of_ble_eq_true rfl) rfl ?_
      refine jr_aload_n 0 1 dX9_through_0 rfl rfl rfl ?_
      refine jr_iload_n 1 2 dX9_through_1 rfl rfl rfl ?_
      refine cs_X9_289 5 dX9_through_2 rfl rfl rfl (Nat.le_of_ble_eq_true rfl) (wp_filmRefusalT hn ?_)
      refine jr_istore (L' := [_, _, _, _, _, _, _]) 7 dX9_through_5 rfl (by decide) rfl ?_
      refine jr_iload 9 dX9_through_7 rfl rfl ?_
      refine jr_if_ge 15 12 dX9_through_9 rfl rfl (fun q9 => ?_) (fun q => absurd (by decide) q)
      refine jr_aload_n 0 16 dX9_through_15 rfl rfl rfl ?_
      refine gf_X9_44 19 dX9_through_16 rfl rfl rfl rfl ?_
      refine jr_iload_n 2 20 dX9_through_19 rfl rfl rfl ?_
      refine cs_X9_146 23 dX9_through_20 rfl rfl rfl (Nat.le_of_ble_eq_true rfl) (wp_has_15 hnf h5 (fun j hj e => absurd hf (by rw [e]; exact jr_fcn hj (by omega))) (fun _ => ?_))
      refine jr_if_ne 29 26 dX9_through_23 rfl rfl (fun q => absurd (by decide) q) (fun q23 => ?_)
      refine jr_bipush ((-5)) 28 dX9_through_26 rfl rfl ?_
      refine jr_ireturn dX9_through_28 rfl rfl ?_
      refine jr_enter (L := [some (.ref 46), some (.int (nI j0)), some (.int f), some (.int c), none, none, none]) (by decide) (Nat.le_of_ble_eq_true rfl) rfl ?_
      refine jr_aload_n 0 1 dX10_through_0 rfl rfl rfl ?_
      refine jr_iload_n 1 2 dX10_through_1 rfl rfl rfl ?_
      refine jr_iload_n 2 3 dX10_through_2 rfl rfl rfl ?_
      refine cs_X10_322 6 dX10_through_3 rfl rfl rfl (Nat.le_of_ble_eq_true rfl) (wp_toldWrongN rnf h5 hf hn ?_)
      refine jr_istore (L' := [_, _, _, _, _, _, _]) 8 dX10_through_6 rfl (by decide) rfl ?_
      refine jr_iload 10 dX10_through_8 rfl rfl ?_
      refine jr_if_eq 16 13 dX10_through_10 rfl rfl (fun q => absurd q (by decide)) (fun q10 => ?_)
      refine jr_iload 15 dX10_through_13 rfl rfl ?_
      refine jr_ireturn dX10_through_15 rfl rfl ?_
      exact ⟨rfl, IV_mov (iv_same_x (jr_eqx_rf [] _) (by decide)) h⟩
    · by_cases hc : c < 0
      · refine jr_enter (L := [some (.ref 0), some (.int (nI j0)), some (.int (nI j)), some (.int c), none, none, none]) (by decide) (Nat.le_of_ble_eq_true rfl) rfl ?_
        refine jr_aload_n 0 1 dX9_through_0 rfl rfl rfl ?_
        refine jr_iload_n 1 2 dX9_through_1 rfl rfl rfl ?_
        refine cs_X9_289 5 dX9_through_2 rfl rfl rfl (Nat.le_of_ble_eq_true rfl) (wp_filmRefusalT hn ?_)
        refine jr_istore (L' := [_, _, _, _, _, _, _]) 7 dX9_through_5 rfl (by decide) rfl ?_
        refine jr_iload 9 dX9_through_7 rfl rfl ?_
        refine jr_if_ge 15 12 dX9_through_9 rfl rfl (fun q9 => ?_) (fun q => absurd (by decide) q)
        refine jr_aload_n 0 16 dX9_through_15 rfl rfl rfl ?_
        refine gf_X9_44 19 dX9_through_16 rfl rfl rfl rfl ?_
        refine jr_iload_n 2 20 dX9_through_19 rfl rfl rfl ?_
        refine cs_X9_146 23 dX9_through_20 rfl rfl rfl (Nat.le_of_ble_eq_true rfl) (wp_hasT_15 hnf h5 hj ?_)
        refine jr_if_ne 29 26 dX9_through_23 rfl rfl (fun q23 => ?_) (fun q => absurd q (by decide))
        refine jr_iload_n 3 30 dX9_through_29 rfl rfl rfl ?_
        refine jr_if_lt 53 33 dX9_through_30 rfl rfl (fun q30 => ?_) (fun q => absurd hc q)
        refine jr_bipush ((-7)) 55 dX9_through_53 rfl rfl ?_
        refine jr_ireturn dX9_through_55 rfl rfl ?_
        refine jr_enter (L := [some (.ref 46), some (.int (nI j0)), some (.int (nI j)), some (.int c), none, none, none]) (by decide) (Nat.le_of_ble_eq_true rfl) rfl ?_
        refine jr_aload_n 0 1 dX10_through_0 rfl rfl rfl ?_
        refine jr_iload_n 1 2 dX10_through_1 rfl rfl rfl ?_
        refine jr_iload_n 2 3 dX10_through_2 rfl rfl rfl ?_
        refine cs_X10_322 6 dX10_through_3 rfl rfl rfl (Nat.le_of_ble_eq_true rfl) (wp_toldWrongT rnf h5 hj hn ?_)
        refine jr_istore (L' := [_, _, _, _, _, _, _]) 8 dX10_through_6 rfl (by decide) rfl ?_
        refine jr_iload 10 dX10_through_8 rfl rfl ?_
        refine jr_if_eq 16 13 dX10_through_10 rfl rfl (fun q10 => ?_) (fun q => absurd (by decide) q)
        refine jr_iload_n 3 17 dX10_through_16 rfl rfl rfl ?_
        refine jr_if_lt 39 20 dX10_through_17 rfl rfl (fun q17 => ?_) (fun q => absurd hc q)
        refine jr_bipush ((-7)) 41 dX10_through_39 rfl rfl ?_
        refine jr_ireturn dX10_through_41 rfl rfl ?_
        exact ⟨rfl, IV_mov (iv_same_x (jr_eqx_rf [] _) (by decide)) h⟩
      · obtain ⟨b, hb, rfl⟩ := nI_of hc
        have ediv : nI b / nI 100 = nI (b / 100) := pk_div hb (by omega) (by omega)
        have erem : nI b - nI b / nI 100 * nI 100 = nI (b % 100) := pk_rem hb (by omega) (by omega)
        by_cases hd : b / 100 ≤ 400
        · by_cases hm : b % 100 < 40
          · refine jr_enter (L := [some (.ref 0), some (.int (nI j0)), some (.int (nI j)), some (.int (nI b)), none, none, none]) (by decide) (Nat.le_of_ble_eq_true rfl) rfl ?_
            refine jr_aload_n 0 1 dX9_through_0 rfl rfl rfl ?_
            refine jr_iload_n 1 2 dX9_through_1 rfl rfl rfl ?_
            refine cs_X9_289 5 dX9_through_2 rfl rfl rfl (Nat.le_of_ble_eq_true rfl) (wp_filmRefusalT hn ?_)
            refine jr_istore (L' := [_, _, _, _, _, _, _]) 7 dX9_through_5 rfl (by decide) rfl ?_
            refine jr_iload 9 dX9_through_7 rfl rfl ?_
            refine jr_if_ge 15 12 dX9_through_9 rfl rfl (fun q9 => ?_) (fun q => absurd (by decide) q)
            refine jr_aload_n 0 16 dX9_through_15 rfl rfl rfl ?_
            refine gf_X9_44 19 dX9_through_16 rfl rfl rfl rfl ?_
            refine jr_iload_n 2 20 dX9_through_19 rfl rfl rfl ?_
            refine cs_X9_146 23 dX9_through_20 rfl rfl rfl (Nat.le_of_ble_eq_true rfl) (wp_hasT_15 hnf h5 hj ?_)
            refine jr_if_ne 29 26 dX9_through_23 rfl rfl (fun q23 => ?_) (fun q => absurd q (by decide))
            refine jr_iload_n 3 30 dX9_through_29 rfl rfl rfl ?_
            refine jr_if_lt 53 33 dX9_through_30 rfl rfl (fun q => absurd q hc) (fun q30 => ?_)
            refine jr_iload_n 3 34 dX9_through_33 rfl rfl rfl ?_
            refine jr_bipush (nI 100) 36 dX9_through_34 rfl rfl ?_
            refine jr_idiv 37 dX9_through_36 rfl (by decide) ?_
            rw [ediv]
            refine jr_sipush (nI 400) 40 dX9_through_37 rfl rfl ?_
            refine jr_icmp_gt 53 43 dX9_through_40 rfl rfl (fun q => absurd q (Int32.not_lt.mpr (nI_le (b := 400) hd (by omega)))) (fun q40 => ?_)
            refine jr_iload_n 3 44 dX9_through_43 rfl rfl rfl ?_
            refine jr_bipush (nI 100) 46 dX9_through_44 rfl rfl ?_
            refine jr_irem 47 dX9_through_46 rfl (by decide) ?_
            rw [erem]
            refine cs_X9_173 50 dX9_through_47 rfl rfl (Nat.le_of_ble_eq_true rfl) (wp_isSecond (fun _ _ => ?_) (fun q => absurd ⟨nI_pos' (by omega), nI_le (b := 39) (by omega) (by omega)⟩ q))
            refine jr_if_ne 56 53 dX9_through_50 rfl rfl (fun q50 => ?_) (fun q => absurd q (by decide))
            refine jr_iconst (0) 57 dX9_through_56 rfl rfl ?_
            refine jr_istore (L' := [_, _, _, _, _, _, _]) 59 dX9_through_57 rfl (by decide) rfl ?_
            refine jr_iconst (nI 0) 60 dX9_through_59 rfl rfl ?_
            refine jr_istore (L' := [_, _, _, _, _, _, _]) 62 dX9_through_60 rfl (by decide) rfl ?_
            refine through_x h hn hj hb (fun σ1 g1 => ?_) nf 0 _ σ (Nat.zero_add _) rfl (jr_eqx_rf _ _)
            have h1 := iv_mov (iv_cx g1) h
            have r1 := rr_of h1
            have hn1 := fn_x hn g1 (by decide)
            refine jr_enter (L := [some (.ref 46), some (.int (nI j0)), some (.int (nI j)), some (.int (nI b)), none, none, none]) (by decide) (Nat.le_of_ble_eq_true rfl) rfl ?_
            refine jr_aload_n 0 1 dX10_through_0 rfl rfl rfl ?_
            refine jr_iload_n 1 2 dX10_through_1 rfl rfl rfl ?_
            refine jr_iload_n 2 3 dX10_through_2 rfl rfl rfl ?_
            refine cs_X10_322 6 dX10_through_3 rfl rfl rfl (Nat.le_of_ble_eq_true rfl) (wp_toldWrongT r1.1.1 h5 hj hn1 ?_)
            refine jr_istore (L' := [_, _, _, _, _, _, _]) 8 dX10_through_6 rfl (by decide) rfl ?_
            refine jr_iload 10 dX10_through_8 rfl rfl ?_
            refine jr_if_eq 16 13 dX10_through_10 rfl rfl (fun q10 => ?_) (fun q => absurd (by decide) q)
            refine jr_iload_n 3 17 dX10_through_16 rfl rfl rfl ?_
            refine jr_if_lt 39 20 dX10_through_17 rfl rfl (fun q => absurd q hc) (fun q17 => ?_)
            refine jr_iload_n 3 21 dX10_through_20 rfl rfl rfl ?_
            refine jr_bipush (nI 100) 23 dX10_through_21 rfl rfl ?_
            refine jr_idiv 24 dX10_through_23 rfl (by decide) ?_
            rw [ediv]
            refine cs_X10_191 27 dX10_through_24 rfl rfl (Nat.le_of_ble_eq_true rfl) (wp_risMuch (fun _ _ => ?_) (fun q => absurd ⟨nI_pos' (by omega), nI_le (b := 400) hd (by omega)⟩ q))
            refine jr_if_eq 39 30 dX10_through_27 rfl rfl (fun q => absurd q (by decide)) (fun q27 => ?_)
            refine jr_iload_n 3 31 dX10_through_30 rfl rfl rfl ?_
            refine jr_bipush (nI 100) 33 dX10_through_31 rfl rfl ?_
            refine jr_irem 34 dX10_through_33 rfl (by decide) ?_
            rw [erem]
            refine jr_bipush (nI 40) 36 dX10_through_34 rfl rfl ?_
            refine jr_icmp_lt 42 39 dX10_through_36 rfl rfl (fun q36 => ?_) (fun q => absurd (nI_lt (b := 40) hm (by omega)) q)
            refine jr_iconst (0) 43 dX10_through_42 rfl rfl ?_
            refine jr_istore (L' := [_, _, _, _, _, _, _]) 45 dX10_through_43 rfl (by decide) rfl ?_
            refine jr_aload_n 0 46 dX10_through_45 rfl rfl rfl ?_
            refine jr_iload_n 3 47 dX10_through_46 rfl rfl rfl ?_
            refine jr_bipush (nI 100) 49 dX10_through_47 rfl rfl ?_
            refine jr_irem 50 dX10_through_49 rfl (by decide) ?_
            rw [erem]
            refine pf_X10_229 53 dX10_through_50 rfl rfl rfl rfl ?_
            refine jr_iconst (nI 0) 54 dX10_through_53 rfl rfl ?_
            refine jr_istore (L' := [_, _, _, _, _, _, _]) 56 dX10_through_54 rfl (by decide) rfl ?_
            refine through_r h hn hj hb g1 (fun σ2 g3 => ?_) nf 0 _ _ (Nat.zero_add _) rfl (jr_eqx_rf _ _)
            refine ⟨rfl, IV_mov (iv_same_tr (iv_cx g1) ⟨fun a ha => ?_, fun k hk => ?_⟩) h⟩
            · have hc4 : a ∉ iv_RX ∧ a ≠ 46 := by revert a; decide
              obtain ⟨hc2, hc3⟩ := hc4
              have q1 : jr_up σ2 46 45 0 a = if a = 46 then upd (σ2 46) 45 0 else σ2 a := rfl
              rw [q1, if_neg hc3, g3 a hc2]
              unfold jr_up
              rw [if_neg hc3]
            · show upd (σ2 46) 45 0 k = σ1 46 k
              rw [g3 46 (by decide)]
              show upd (upd (σ1 46) 45 _) 45 0 k = σ1 46 k
              rw [up_zero h1.2.2.2.2.2.2.1.2.2.1]
          · refine jr_enter (L := [some (.ref 0), some (.int (nI j0)), some (.int (nI j)), some (.int (nI b)), none, none, none]) (by decide) (Nat.le_of_ble_eq_true rfl) rfl ?_
            refine jr_aload_n 0 1 dX9_through_0 rfl rfl rfl ?_
            refine jr_iload_n 1 2 dX9_through_1 rfl rfl rfl ?_
            refine cs_X9_289 5 dX9_through_2 rfl rfl rfl (Nat.le_of_ble_eq_true rfl) (wp_filmRefusalT hn ?_)
            refine jr_istore (L' := [_, _, _, _, _, _, _]) 7 dX9_through_5 rfl (by decide) rfl ?_
            refine jr_iload 9 dX9_through_7 rfl rfl ?_
            refine jr_if_ge 15 12 dX9_through_9 rfl rfl (fun q9 => ?_) (fun q => absurd (by decide) q)
            refine jr_aload_n 0 16 dX9_through_15 rfl rfl rfl ?_
            refine gf_X9_44 19 dX9_through_16 rfl rfl rfl rfl ?_
            refine jr_iload_n 2 20 dX9_through_19 rfl rfl rfl ?_
            refine cs_X9_146 23 dX9_through_20 rfl rfl rfl (Nat.le_of_ble_eq_true rfl) (wp_hasT_15 hnf h5 hj ?_)
            refine jr_if_ne 29 26 dX9_through_23 rfl rfl (fun q23 => ?_) (fun q => absurd q (by decide))
            refine jr_iload_n 3 30 dX9_through_29 rfl rfl rfl ?_
            refine jr_if_lt 53 33 dX9_through_30 rfl rfl (fun q => absurd q hc) (fun q30 => ?_)
            refine jr_iload_n 3 34 dX9_through_33 rfl rfl rfl ?_
            refine jr_bipush (nI 100) 36 dX9_through_34 rfl rfl ?_
            refine jr_idiv 37 dX9_through_36 rfl (by decide) ?_
            rw [ediv]
            refine jr_sipush (nI 400) 40 dX9_through_37 rfl rfl ?_
            refine jr_icmp_gt 53 43 dX9_through_40 rfl rfl (fun q => absurd q (Int32.not_lt.mpr (nI_le (b := 400) hd (by omega)))) (fun q40 => ?_)
            refine jr_iload_n 3 44 dX9_through_43 rfl rfl rfl ?_
            refine jr_bipush (nI 100) 46 dX9_through_44 rfl rfl ?_
            refine jr_irem 47 dX9_through_46 rfl (by decide) ?_
            rw [erem]
            refine cs_X9_173 50 dX9_through_47 rfl rfl (Nat.le_of_ble_eq_true rfl) (wp_isSecond (fun _ q => absurd q (nI_ge (a := 39) (by omega) (by omega))) (fun _ => ?_))
            refine jr_if_ne 56 53 dX9_through_50 rfl rfl (fun q => absurd (by decide) q) (fun q50 => ?_)
            refine jr_bipush ((-7)) 55 dX9_through_53 rfl rfl ?_
            refine jr_ireturn dX9_through_55 rfl rfl ?_
            refine jr_enter (L := [some (.ref 46), some (.int (nI j0)), some (.int (nI j)), some (.int (nI b)), none, none, none]) (by decide) (Nat.le_of_ble_eq_true rfl) rfl ?_
            refine jr_aload_n 0 1 dX10_through_0 rfl rfl rfl ?_
            refine jr_iload_n 1 2 dX10_through_1 rfl rfl rfl ?_
            refine jr_iload_n 2 3 dX10_through_2 rfl rfl rfl ?_
            refine cs_X10_322 6 dX10_through_3 rfl rfl rfl (Nat.le_of_ble_eq_true rfl) (wp_toldWrongT rnf h5 hj hn ?_)
            refine jr_istore (L' := [_, _, _, _, _, _, _]) 8 dX10_through_6 rfl (by decide) rfl ?_
            refine jr_iload 10 dX10_through_8 rfl rfl ?_
            refine jr_if_eq 16 13 dX10_through_10 rfl rfl (fun q10 => ?_) (fun q => absurd (by decide) q)
            refine jr_iload_n 3 17 dX10_through_16 rfl rfl rfl ?_
            refine jr_if_lt 39 20 dX10_through_17 rfl rfl (fun q => absurd q hc) (fun q17 => ?_)
            refine jr_iload_n 3 21 dX10_through_20 rfl rfl rfl ?_
            refine jr_bipush (nI 100) 23 dX10_through_21 rfl rfl ?_
            refine jr_idiv 24 dX10_through_23 rfl (by decide) ?_
            rw [ediv]
            refine cs_X10_191 27 dX10_through_24 rfl rfl (Nat.le_of_ble_eq_true rfl) (wp_risMuch (fun _ _ => ?_) (fun q => absurd ⟨nI_pos' (by omega), nI_le (b := 400) hd (by omega)⟩ q))
            refine jr_if_eq 39 30 dX10_through_27 rfl rfl (fun q => absurd q (by decide)) (fun q27 => ?_)
            refine jr_iload_n 3 31 dX10_through_30 rfl rfl rfl ?_
            refine jr_bipush (nI 100) 33 dX10_through_31 rfl rfl ?_
            refine jr_irem 34 dX10_through_33 rfl (by decide) ?_
            rw [erem]
            refine jr_bipush (nI 40) 36 dX10_through_34 rfl rfl ?_
            refine jr_icmp_lt 42 39 dX10_through_36 rfl rfl (fun q => absurd q (nI_nlt (a := b % 100) (b := 40) (by omega) (by omega))) (fun q36 => ?_)
            refine jr_bipush ((-7)) 41 dX10_through_39 rfl rfl ?_
            refine jr_ireturn dX10_through_41 rfl rfl ?_
            exact ⟨rfl, IV_mov (iv_same_x (jr_eqx_rf [] _) (by decide)) h⟩
        · refine jr_enter (L := [some (.ref 0), some (.int (nI j0)), some (.int (nI j)), some (.int (nI b)), none, none, none]) (by decide) (Nat.le_of_ble_eq_true rfl) rfl ?_
          refine jr_aload_n 0 1 dX9_through_0 rfl rfl rfl ?_
          refine jr_iload_n 1 2 dX9_through_1 rfl rfl rfl ?_
          refine cs_X9_289 5 dX9_through_2 rfl rfl rfl (Nat.le_of_ble_eq_true rfl) (wp_filmRefusalT hn ?_)
          refine jr_istore (L' := [_, _, _, _, _, _, _]) 7 dX9_through_5 rfl (by decide) rfl ?_
          refine jr_iload 9 dX9_through_7 rfl rfl ?_
          refine jr_if_ge 15 12 dX9_through_9 rfl rfl (fun q9 => ?_) (fun q => absurd (by decide) q)
          refine jr_aload_n 0 16 dX9_through_15 rfl rfl rfl ?_
          refine gf_X9_44 19 dX9_through_16 rfl rfl rfl rfl ?_
          refine jr_iload_n 2 20 dX9_through_19 rfl rfl rfl ?_
          refine cs_X9_146 23 dX9_through_20 rfl rfl rfl (Nat.le_of_ble_eq_true rfl) (wp_hasT_15 hnf h5 hj ?_)
          refine jr_if_ne 29 26 dX9_through_23 rfl rfl (fun q23 => ?_) (fun q => absurd q (by decide))
          refine jr_iload_n 3 30 dX9_through_29 rfl rfl rfl ?_
          refine jr_if_lt 53 33 dX9_through_30 rfl rfl (fun q => absurd q hc) (fun q30 => ?_)
          refine jr_iload_n 3 34 dX9_through_33 rfl rfl rfl ?_
          refine jr_bipush (nI 100) 36 dX9_through_34 rfl rfl ?_
          refine jr_idiv 37 dX9_through_36 rfl (by decide) ?_
          rw [ediv]
          refine jr_sipush (nI 400) 40 dX9_through_37 rfl rfl ?_
          refine jr_icmp_gt 53 43 dX9_through_40 rfl rfl (fun q40 => ?_) (fun q => absurd (nI_lt (a := 400) (by omega) (by omega)) q)
          refine jr_bipush ((-7)) 55 dX9_through_53 rfl rfl ?_
          refine jr_ireturn dX9_through_55 rfl rfl ?_
          refine jr_enter (L := [some (.ref 46), some (.int (nI j0)), some (.int (nI j)), some (.int (nI b)), none, none, none]) (by decide) (Nat.le_of_ble_eq_true rfl) rfl ?_
          refine jr_aload_n 0 1 dX10_through_0 rfl rfl rfl ?_
          refine jr_iload_n 1 2 dX10_through_1 rfl rfl rfl ?_
          refine jr_iload_n 2 3 dX10_through_2 rfl rfl rfl ?_
          refine cs_X10_322 6 dX10_through_3 rfl rfl rfl (Nat.le_of_ble_eq_true rfl) (wp_toldWrongT rnf h5 hj hn ?_)
          refine jr_istore (L' := [_, _, _, _, _, _, _]) 8 dX10_through_6 rfl (by decide) rfl ?_
          refine jr_iload 10 dX10_through_8 rfl rfl ?_
          refine jr_if_eq 16 13 dX10_through_10 rfl rfl (fun q10 => ?_) (fun q => absurd (by decide) q)
          refine jr_iload_n 3 17 dX10_through_16 rfl rfl rfl ?_
          refine jr_if_lt 39 20 dX10_through_17 rfl rfl (fun q => absurd q hc) (fun q17 => ?_)
          refine jr_iload_n 3 21 dX10_through_20 rfl rfl rfl ?_
          refine jr_bipush (nI 100) 23 dX10_through_21 rfl rfl ?_
          refine jr_idiv 24 dX10_through_23 rfl (by decide) ?_
          rw [ediv]
          refine cs_X10_191 27 dX10_through_24 rfl rfl (Nat.le_of_ble_eq_true rfl) (wp_risMuch (fun _ q => absurd q (nI_ge (a := 400) (by omega) (by omega))) (fun _ => ?_))
          refine jr_if_eq 39 30 dX10_through_27 rfl rfl (fun q27 => ?_) (fun q => absurd (by decide) q)
          refine jr_bipush ((-7)) 41 dX10_through_39 rfl rfl ?_
          refine jr_ireturn dX10_through_41 rfl rfl ?_
          exact ⟨rfl, IV_mov (iv_same_x (jr_eqx_rf [] _) (by decide)) h⟩
/-- bits of those i whose answer is none, long -/
def bL (A : Nat → Int32) : Nat → Int64
  | 0 => 0
  | i + 1 => if A i = -1 then bL A i ||| (1 : Int64) <<< ((nI i).toInt64 &&& 63) else bL A i
theorem bL_t {A : Nat → Int32} {i : Nat} {x : Int64} (e : x = bL A i) (h : A i = -1) : x ||| (1 : Int64) <<< ((nI i).toInt64 &&& 63) = bL A (i + 1) := by
  rw [bL, ← e, if_pos h]
theorem bL_f {A : Nat → Int32} {i : Nat} {x : Int64} (e : x = bL A i) (h : ¬ A i = -1) : x = bL A (i + 1) := by
  rw [bL, ← e, if_neg h]
/-- the reference's ONE CAUSE MORE of j, in SECOND so much -/
theorem ag_b {σ1 σ2 : jr_Sg} {y : Nat} {sec much : Int32} (g : jr_eqs [45] (jr_up σ1 70 y much) σ2) : jr_ag [47, 49, 50, 52, 70, 71] [39, 40, 41, 42, 43, 45, 46] (md_c σ1 y sec much) (jr_up σ2 46 45 sec) := by
  refine ⟨fun c hc => ?_, fun k hk => ?_⟩
  · have hc2 : c ∉ iv_RX ∧ c ≠ 46 := by revert c; decide
    have e := g.1 c hc2.1 hc2.2
    unfold md_c
    have q : ∀ τ : jr_Sg, jr_up τ 46 45 sec c = τ c := fun τ => by unfold jr_up; rw [if_neg hc2.2]
    rw [q, q, e]
  · show upd (σ2 46) 45 sec k = upd (σ1 46) 45 sec k
    by_cases e : k = 45
    · subst e; rw [pk_us, pk_us]
    · rw [pk_un e, pk_un e]; exact g.2 k (by simpa using e)
theorem began_x {G : jr_G} {d : Nat} {σ : jr_Sg} {k : Value → jr_Sg → Prop} {T : Nat → Nat → List Nat} {n nf nc lw tp j0 z j b : Nat} {kd se : Nat → Nat} (h : iv T n nf nc kd se lw tp σ) (hn : fr_no σ j0 z) (hj : j < nf) (fin : ∀ σ1 : jr_Sg, jr_eqx iv_CX σ σ1 → k (.long (bL (fun t => oI (fo (σ 45) (sm_R T lw nf nc kd se (md_c σ j (nI t) (nI b)) j) j0 z)) 40)) σ1) : ∀ (m i : Nat) (x : Int64) (σ1 : jr_Sg), i + m = 40 → x = bL (fun t => oI (fo (σ 45) (sm_R T lw nf nc kd se (md_c σ j (nI t) (nI b)) j) j0 z)) i → jr_eqx iv_CX σ σ1 → jr_R G (d + 19) mi_X9_began (jr_k k) 39 [some (.ref 0), some (.int (nI j0)), some (.int (nI j)), some (.int (nI b)), some (.long x), none, some (.int (nI i))] [] σ1 := by
  have h5 : nf ≤ 5 := h.2.2.1.2.1.2.1
  intro m
  induction m with
  | zero =>
    intro i x σ1 hi e g
    have ei : i = 40 := hi
    subst ei
    refine jr_iload 41 dX9_began_39 rfl rfl ?_
    refine jr_bipush (nI 40) 43 dX9_began_41 rfl rfl ?_
    refine jr_icmp_ge 85 46 dX9_began_43 rfl rfl (fun q43 => ?_) (fun q => absurd (by decide) q)
    refine jr_lload 87 dX9_began_85 rfl rfl ?_
    refine jr_lreturn dX9_began_87 rfl ?_
    rw [e]
    exact fin σ1 g
  | succ m ih =>
    intro i x σ1 hi e g
    have hn3 := fn_x hn g (by decide)
    refine jr_iload 41 dX9_began_39 rfl rfl ?_
    refine jr_bipush (nI 40) 43 dX9_began_41 rfl rfl ?_
    refine jr_icmp_ge 85 46 dX9_began_43 rfl rfl (fun z => absurd z (nI_ge (b := 40) (by omega) (by decide))) (fun q43 => ?_)
    refine jr_aload_n 0 47 dX9_began_46 rfl rfl rfl ?_
    refine jr_iload_n 2 48 dX9_began_47 rfl rfl rfl ?_
    refine jr_iload_n 2 49 dX9_began_48 rfl rfl rfl ?_
    refine jr_iload 51 dX9_began_49 rfl rfl ?_
    refine jr_iload_n 3 52 dX9_began_51 rfl rfl rfl ?_
    refine jr_aload_n 0 53 dX9_began_52 rfl rfl rfl ?_
    refine jr_iload_n 1 54 dX9_began_53 rfl rfl rfl ?_
    refine cs_X9_292 57 dX9_began_54 rfl rfl rfl (Nat.le_of_ble_eq_true rfl) (wp_filmLength hn3 ?_)
    refine cs_X9_270 60 dX9_began_57 rfl rfl rfl (Nat.le_of_ble_eq_true rfl) (wp_playCaused (len := 5 * z) (y := j) (by omega) (by have := hn.2.1; omega) h hj g (fun σ4 g4 g5 => ?_))
    have hn4 := fn_x hn g4 (by decide)
    have e45 : σ4 45 = σ 45 := g4 45 (by decide)
    refine jr_aload_n 0 61 dX9_began_60 rfl rfl rfl ?_
    refine jr_iload_n 1 62 dX9_began_61 rfl rfl rfl ?_
    refine jr_iload_n 2 63 dX9_began_62 rfl rfl rfl ?_
    refine cs_X9_295 66 dX9_began_63 rfl rfl rfl (Nat.le_of_ble_eq_true rfl) (wp_firstOther (len := 5 * z) hn4 (by omega) (Nat.le_refl _) g5 ?_)
    rw [e45]
    refine jr_topi (y := (fun t => oI (fo (σ 45) (sm_R T lw nf nc kd se (md_c σ j (nI t) (nI b)) j) j0 z)) i) rfl ?_
    refine jr_iconst ((-1)) 67 dX9_began_66 rfl rfl ?_
    refine jr_icmp_ne 79 70 dX9_began_67 rfl rfl (fun q67 => ?_) (fun q67 => ?_)
    · refine jr_iinc (v := nI (i + 1)) (L' := [_, _, _, _, _, _, _]) 82 dX9_began_79 rfl rfl (nI_1 i) (by decide) rfl ?_
      refine jr_goto 39 dX9_began_82 rfl ?_
      exact ih (i + 1) _ σ4 (by omega) (bL_f (A := (fun t => oI (fo (σ 45) (sm_R T lw nf nc kd se (md_c σ j (nI t) (nI b)) j) j0 z))) e q67) g4
    · refine jr_lload 72 dX9_began_70 rfl rfl ?_
      refine jr_lconst (1) 73 dX9_began_72 rfl rfl ?_
      refine jr_iload 75 dX9_began_73 rfl rfl ?_
      refine jr_lshl 76 dX9_began_75 rfl ?_
      refine jr_lor 77 dX9_began_76 rfl ?_
      refine jr_lstore (L' := [_, _, _, _, _, _, _]) 79 dX9_began_77 rfl (by decide) rfl ?_
      refine jr_iinc (v := nI (i + 1)) (L' := [_, _, _, _, _, _, _]) 82 dX9_began_79 rfl rfl (nI_1 i) (by decide) rfl ?_
      refine jr_goto 39 dX9_began_82 rfl ?_
      exact ih (i + 1) _ σ4 (by omega) (bL_t (A := (fun t => oI (fo (σ 45) (sm_R T lw nf nc kd se (md_c σ j (nI t) (nI b)) j) j0 z))) e q67) g4
theorem began_r {G : jr_G} {d : Nat} {σ : jr_Sg} {k : Value → jr_Sg → Prop} {T : Nat → Nat → List Nat} {n nf nc lw tp j0 z j b : Nat} {kd se : Nat → Nat} (h : iv T n nf nc kd se lw tp σ) (hn : fr_no σ j0 z) (hj : j < nf) {σ1 : jr_Sg} (g1 : jr_eqx iv_CX σ σ1) (fin : ∀ σ2 : jr_Sg, jr_eqs [45] (jr_up σ1 70 j (nI b)) σ2 → k (.long (bL (fun t => oI (fo (σ 45) (sm_R T lw nf nc kd se (md_c σ j (nI t) (nI b)) j) j0 z)) 40)) (jr_up (jr_up σ2 70 j 0) 46 45 0)) : ∀ (m i : Nat) (x : Int64) (σ2 : jr_Sg), i + m = 40 → x = bL (fun t => oI (fo (σ 45) (sm_R T lw nf nc kd se (md_c σ j (nI t) (nI b)) j) j0 z)) i → jr_eqs [45] (jr_up σ1 70 j (nI b)) σ2 → jr_R G (d + 20) mi_X10_began (jr_k k) 33 [some (.ref 46), some (.int (nI j0)), some (.int (nI j)), some (.int (nI b)), some (.long x), none, some (.int (nI i))] [] σ2 := by
  have h1 := iv_mov (iv_cx g1) h
  have r1 := rr_of h1
  have hn1 := fn_x hn g1 (by decide)
  have h5 : nf ≤ 5 := r1.1.2.1
  have rb : rr_ok T n nf nc kd se lw (jr_up σ1 70 j (nI b)) := rr_x r1 (jr_eqx_up (X := [70]) _ _ _ (by decide)) (by decide)
  have hnb : fr_no (jr_up σ1 70 j (nI b)) j0 z := fn_x hn1 (jr_eqx_up (X := [70]) _ _ _ (by decide)) (by decide)
  intro m
  induction m with
  | zero =>
    intro i x σ2 hi e g
    have ei : i = 40 := hi
    subst ei
    refine jr_iload 35 dX10_began_33 rfl rfl ?_
    refine jr_bipush (nI 40) 37 dX10_began_35 rfl rfl ?_
    refine jr_icmp_ge 75 40 dX10_began_37 rfl rfl (fun q37 => ?_) (fun q => absurd (by decide) q)
    refine jr_aload_n 0 76 dX10_began_75 rfl rfl rfl ?_
    refine gf_X10_89 79 dX10_began_76 rfl rfl rfl rfl ?_
    refine jr_iload_n 2 80 dX10_began_79 rfl rfl rfl ?_
    refine jr_iconst (0) 81 dX10_began_80 rfl rfl ?_
    refine jr_iast rfl rfl (by omega) 82 dX10_began_81 rfl ?_
    refine jr_aload_n 0 83 dX10_began_82 rfl rfl rfl ?_
    refine jr_iconst (0) 84 dX10_began_83 rfl rfl ?_
    refine pf_X10_229 87 dX10_began_84 rfl rfl rfl rfl ?_
    refine jr_lload 89 dX10_began_87 rfl rfl ?_
    refine jr_lreturn dX10_began_89 rfl ?_
    rw [e]
    exact fin σ2 g
  | succ m ih =>
    intro i x σ2 hi e g
    have gg : jr_eqs [45] (jr_up σ1 70 j (nI b)) (jr_up σ2 46 45 (nI i)) := eqs_tr g (eqs_up _ _ (by decide))
    have r2 : rr_ok T n nf nc kd se lw (jr_up σ2 46 45 (nI i)) := rr_eqs rb gg (by decide)
    have hn2 : fr_no (jr_up σ2 46 45 (nI i)) j0 z := fn_46 hnb (fun a ha => gg.1 a (by revert a; decide) (by revert a; decide))
    have eA : oI (fo ((jr_up σ2 46 45 (nI i)) 59) (sm_R T lw nf nc kd se (jr_up σ2 46 45 (nI i)) j) j0 z) = (fun t => oI (fo (σ 45) (sm_R T lw nf nc kd se (md_c σ j (nI t) (nI b)) j) j0 z)) i := by
      show _ = oI (fo (σ 45) (sm_R T lw nf nc kd se (md_c σ j (nI i) (nI b)) j) j0 z)
      rw [sm_R_ag (ag_b g), sm_R_of (cx_c g1 _ _ _), ← fo_congr (C := (jr_up σ2 46 45 (nI i)) 45) (fun q hq => hn2.2.2.2.2.2.2 q hq), gg.1 45 (by decide) (by decide), show (jr_up σ1 70 j (nI b)) 45 = σ1 45 from rfl, g1 45 (by decide)]
    refine jr_iload 35 dX10_began_33 rfl rfl ?_
    refine jr_bipush (nI 40) 37 dX10_began_35 rfl rfl ?_
    refine jr_icmp_ge 75 40 dX10_began_37 rfl rfl (fun z => absurd z (nI_ge (b := 40) (by omega) (by decide))) (fun q37 => ?_)
    refine jr_aload_n 0 41 dX10_began_40 rfl rfl rfl ?_
    refine jr_iload 43 dX10_began_41 rfl rfl ?_
    refine pf_X10_229 46 dX10_began_43 rfl rfl rfl rfl ?_
    refine jr_lload 48 dX10_began_46 rfl rfl ?_
    refine jr_aload_n 0 49 dX10_began_48 rfl rfl rfl ?_
    refine jr_iload_n 1 50 dX10_began_49 rfl rfl rfl ?_
    refine jr_iload_n 2 51 dX10_began_50 rfl rfl rfl ?_
    refine cs_X10_325 54 dX10_began_51 rfl rfl rfl (Nat.le_of_ble_eq_true rfl) (wp_unlike r2 hn2.1 hn2.2.1 hn2.2.2.2.1 (f := j) (by omega) (fun σ3 g3 => ?_))
    rw [eA]
    refine jr_iconst ((-1)) 55 dX10_began_54 rfl rfl ?_
    refine jr_icmp_ne 65 58 dX10_began_55 rfl rfl (fun q55 => ?_) (fun q55 => ?_)
    · refine jr_lconst (0) 66 dX10_began_65 rfl rfl ?_
      refine jr_lor 67 dX10_began_66 rfl ?_
      refine jr_lstore (L' := [_, _, _, _, _, _, _]) 69 dX10_began_67 rfl (by decide) rfl ?_
      refine jr_iinc (v := nI (i + 1)) (L' := [_, _, _, _, _, _, _]) 72 dX10_began_69 rfl rfl (nI_1 i) (by decide) rfl ?_
      refine jr_goto 33 dX10_began_72 rfl ?_
      exact ih (i + 1) _ σ3 (by omega) (by rw [Int64.or_zero]; exact bL_f (A := (fun t => oI (fo (σ 45) (sm_R T lw nf nc kd se (md_c σ j (nI t) (nI b)) j) j0 z))) e q55) (eqs_tr gg (eqs_rx g3))
    · refine jr_lconst (1) 59 dX10_began_58 rfl rfl ?_
      refine jr_iload 61 dX10_began_59 rfl rfl ?_
      refine jr_lshl 62 dX10_began_61 rfl ?_
      refine jr_goto 66 dX10_began_62 rfl ?_
      refine jr_lor 67 dX10_began_66 rfl ?_
      refine jr_lstore (L' := [_, _, _, _, _, _, _]) 69 dX10_began_67 rfl (by decide) rfl ?_
      refine jr_iinc (v := nI (i + 1)) (L' := [_, _, _, _, _, _, _]) 72 dX10_began_69 rfl rfl (nI_1 i) (by decide) rfl ?_
      refine jr_goto 33 dX10_began_72 rfl ?_
      exact ih (i + 1) _ σ3 (by omega) (bL_t (A := (fun t => oI (fo (σ 45) (sm_R T lw nf nc kd se (md_c σ j (nI t) (nI b)) j) j0 z))) e q55) (eqs_tr gg (eqs_rx g3))
theorem pp_began {G : jr_G} {d : Nat} {σ : jr_Sg} {a f c : Int32} (h : IV σ) : jr_pair G (d + 20) mi_X9_began mi_X10_began [.int a, .int f, .int c] σ := by
  obtain ⟨T, n, nf, nc, kd, se, lw, tp, h⟩ := h
  have hh := h
  obtain ⟨hTC, hTR, ⟨hsc, hsr, hl1, hl2, hlw, hfc, hli, hca⟩, htp, himg, hsh, hrest, hwd⟩ := hh
  have hnf := hsc.1
  have h5 := hsc.2.1
  have hnc := hsc.2.2.1
  have h8 := hsc.2.2.2.1
  have rnf := hsr.1
  have rnc := hsr.2.2.1
  have hlm := hrest.2.2.2.1
  unfold jr_pair
  rcases fr_cases hsh a with ⟨r, hr⟩ | ⟨j0, z, rfl, hn⟩
  · refine jr_enter (L := [some (.ref 0), some (.int a), some (.int f), some (.int c), none, none, none]) (by decide) (Nat.le_of_ble_eq_true rfl) rfl ?_
    refine jr_aload_n 0 1 dX9_began_0 rfl rfl rfl ?_
    refine jr_iload_n 1 2 dX9_began_1 rfl rfl rfl ?_
    refine cs_X9_289 5 dX9_began_2 rfl rfl rfl (Nat.le_of_ble_eq_true rfl) (wp_filmRefusalF hsh hr ?_)
    refine jr_if_lt 29 8 dX9_began_5 rfl rfl (fun q5 => ?_) (fun q => absurd (fr_neg hr) q)
    refine jr_ldc2 kc_X9_278 32 dX9_began_29 rfl ?_
    refine jr_lreturn dX9_began_32 rfl ?_
    refine jr_enter (L := [some (.ref 46), some (.int a), some (.int f), some (.int c), none, none, none]) (by decide) (Nat.le_of_ble_eq_true rfl) rfl ?_
    refine jr_aload_n 0 1 dX10_began_0 rfl rfl rfl ?_
    refine jr_iload_n 1 2 dX10_began_1 rfl rfl rfl ?_
    refine jr_iload_n 2 3 dX10_began_2 rfl rfl rfl ?_
    refine cs_X10_322 6 dX10_began_3 rfl rfl rfl (Nat.le_of_ble_eq_true rfl) (wp_toldWrongF hr ?_)
    refine jr_if_ne 16 9 dX10_began_6 rfl rfl (fun q6 => ?_) (fun q => absurd q (fr_ne hr))
    refine jr_ldc2 kc_X10_313 19 dX10_began_16 rfl ?_
    refine jr_lreturn dX10_began_19 rfl ?_
    exact ⟨rfl, IV_mov (iv_same_x (jr_eqx_rf [] _) (by decide)) h⟩
  · rcases jr_fc f h5 with hf | ⟨j, hj, rfl⟩
    · refine jr_enter (L := [some (.ref 0), some (.int (nI j0)), some (.int f), some (.int c), none, none, none]) (by decide) (Nat.le_of_ble_eq_true rfl) rfl ?_
      refine jr_aload_n 0 1 dX9_began_0 rfl rfl rfl ?_
      refine jr_iload_n 1 2 dX9_began_1 rfl rfl rfl ?_
      refine cs_X9_289 5 dX9_began_2 rfl rfl rfl (Nat.le_of_ble_eq_true rfl) (wp_filmRefusalT hn ?_)
      refine jr_if_lt 29 8 dX9_began_5 rfl rfl (fun q => absurd q (by decide)) (fun q5 => ?_)
      refine jr_aload_n 0 9 dX9_began_8 rfl rfl rfl ?_
      refine gf_X9_44 12 dX9_began_9 rfl rfl rfl rfl ?_
      refine jr_iload_n 2 13 dX9_began_12 rfl rfl rfl ?_
      refine cs_X9_146 16 dX9_began_13 rfl rfl rfl (Nat.le_of_ble_eq_true rfl) (wp_has_15 hnf h5 (fun j hj e => absurd hf (by rw [e]; exact jr_fcn hj (by omega))) (fun _ => ?_))
      refine jr_if_eq 29 19 dX9_began_16 rfl rfl (fun q16 => ?_) (fun q => absurd (by decide) q)
      refine jr_ldc2 kc_X9_278 32 dX9_began_29 rfl ?_
      refine jr_lreturn dX9_began_32 rfl ?_
      refine jr_enter (L := [some (.ref 46), some (.int (nI j0)), some (.int f), some (.int c), none, none, none]) (by decide) (Nat.le_of_ble_eq_true rfl) rfl ?_
      refine jr_aload_n 0 1 dX10_began_0 rfl rfl rfl ?_
      refine jr_iload_n 1 2 dX10_began_1 rfl rfl rfl ?_
      refine jr_iload_n 2 3 dX10_began_2 rfl rfl rfl ?_
      refine cs_X10_322 6 dX10_began_3 rfl rfl rfl (Nat.le_of_ble_eq_true rfl) (wp_toldWrongN rnf h5 hf hn ?_)
      refine jr_if_ne 16 9 dX10_began_6 rfl rfl (fun q6 => ?_) (fun q => absurd q (by decide))
      refine jr_ldc2 kc_X10_313 19 dX10_began_16 rfl ?_
      refine jr_lreturn dX10_began_19 rfl ?_
      exact ⟨rfl, IV_mov (iv_same_x (jr_eqx_rf [] _) (by decide)) h⟩
    · rcases jr_rg c (m := 400) (by decide) with qb | ⟨b, hb, rfl⟩
      · refine jr_enter (L := [some (.ref 0), some (.int (nI j0)), some (.int (nI j)), some (.int c), none, none, none]) (by decide) (Nat.le_of_ble_eq_true rfl) rfl ?_
        refine jr_aload_n 0 1 dX9_began_0 rfl rfl rfl ?_
        refine jr_iload_n 1 2 dX9_began_1 rfl rfl rfl ?_
        refine cs_X9_289 5 dX9_began_2 rfl rfl rfl (Nat.le_of_ble_eq_true rfl) (wp_filmRefusalT hn ?_)
        refine jr_if_lt 29 8 dX9_began_5 rfl rfl (fun q => absurd q (by decide)) (fun q5 => ?_)
        refine jr_aload_n 0 9 dX9_began_8 rfl rfl rfl ?_
        refine gf_X9_44 12 dX9_began_9 rfl rfl rfl rfl ?_
        refine jr_iload_n 2 13 dX9_began_12 rfl rfl rfl ?_
        refine cs_X9_146 16 dX9_began_13 rfl rfl rfl (Nat.le_of_ble_eq_true rfl) (wp_hasT_15 hnf h5 hj ?_)
        refine jr_if_eq 29 19 dX9_began_16 rfl rfl (fun q => absurd q (by decide)) (fun q16 => ?_)
        refine jr_iload_n 3 20 dX9_began_19 rfl rfl rfl ?_
        refine jr_sipush (400) 23 dX9_began_20 rfl rfl ?_
        refine cs_X9_104 26 dX9_began_23 rfl rfl (Nat.le_of_ble_eq_true rfl) (wp_wiF qb ?_)
        refine jr_if_ne 33 29 dX9_began_26 rfl rfl (fun q => absurd (by decide) q) (fun q26 => ?_)
        refine jr_ldc2 kc_X9_278 32 dX9_began_29 rfl ?_
        refine jr_lreturn dX9_began_32 rfl ?_
        refine jr_enter (L := [some (.ref 46), some (.int (nI j0)), some (.int (nI j)), some (.int c), none, none, none]) (by decide) (Nat.le_of_ble_eq_true rfl) rfl ?_
        refine jr_aload_n 0 1 dX10_began_0 rfl rfl rfl ?_
        refine jr_iload_n 1 2 dX10_began_1 rfl rfl rfl ?_
        refine jr_iload_n 2 3 dX10_began_2 rfl rfl rfl ?_
        refine cs_X10_322 6 dX10_began_3 rfl rfl rfl (Nat.le_of_ble_eq_true rfl) (wp_toldWrongT rnf h5 hj hn ?_)
        refine jr_if_ne 16 9 dX10_began_6 rfl rfl (fun q => absurd (by decide) q) (fun q6 => ?_)
        refine jr_iload_n 3 10 dX10_began_9 rfl rfl rfl ?_
        refine cs_X10_191 13 dX10_began_10 rfl rfl (Nat.le_of_ble_eq_true rfl) (wp_risMuch (fun a b => absurd ⟨a, b⟩ qb) (fun _ => ?_))
        refine jr_if_ne 20 16 dX10_began_13 rfl rfl (fun q => absurd (by decide) q) (fun q13 => ?_)
        refine jr_ldc2 kc_X10_313 19 dX10_began_16 rfl ?_
        refine jr_lreturn dX10_began_19 rfl ?_
        exact ⟨rfl, IV_mov (iv_same_x (jr_eqx_rf [] _) (by decide)) h⟩
      · refine jr_enter (L := [some (.ref 0), some (.int (nI j0)), some (.int (nI j)), some (.int (nI b)), none, none, none]) (by decide) (Nat.le_of_ble_eq_true rfl) rfl ?_
        refine jr_aload_n 0 1 dX9_began_0 rfl rfl rfl ?_
        refine jr_iload_n 1 2 dX9_began_1 rfl rfl rfl ?_
        refine cs_X9_289 5 dX9_began_2 rfl rfl rfl (Nat.le_of_ble_eq_true rfl) (wp_filmRefusalT hn ?_)
        refine jr_if_lt 29 8 dX9_began_5 rfl rfl (fun q => absurd q (by decide)) (fun q5 => ?_)
        refine jr_aload_n 0 9 dX9_began_8 rfl rfl rfl ?_
        refine gf_X9_44 12 dX9_began_9 rfl rfl rfl rfl ?_
        refine jr_iload_n 2 13 dX9_began_12 rfl rfl rfl ?_
        refine cs_X9_146 16 dX9_began_13 rfl rfl rfl (Nat.le_of_ble_eq_true rfl) (wp_hasT_15 hnf h5 hj ?_)
        refine jr_if_eq 29 19 dX9_began_16 rfl rfl (fun q => absurd q (by decide)) (fun q16 => ?_)
        refine jr_iload_n 3 20 dX9_began_19 rfl rfl rfl ?_
        refine jr_sipush (nI 400) 23 dX9_began_20 rfl rfl ?_
        refine cs_X9_104 26 dX9_began_23 rfl rfl (Nat.le_of_ble_eq_true rfl) (wp_wiT hb (by decide) rfl ?_)
        refine jr_if_ne 33 29 dX9_began_26 rfl rfl (fun q26 => ?_) (fun q => absurd q (by decide))
        refine jr_lconst (0) 34 dX9_began_33 rfl rfl ?_
        refine jr_lstore (L' := [_, _, _, _, _, _, _]) 36 dX9_began_34 rfl (by decide) rfl ?_
        refine jr_iconst (nI 0) 37 dX9_began_36 rfl rfl ?_
        refine jr_istore (L' := [_, _, _, _, _, _, _]) 39 dX9_began_37 rfl (by decide) rfl ?_
        refine began_x h hn hj (fun σ1 g1 => ?_) 40 0 _ σ (by omega) rfl (jr_eqx_rf _ _)
        have h1 := iv_mov (iv_cx g1) h
        have r1 := rr_of h1
        have hn1 := fn_x hn g1 (by decide)
        refine jr_enter (L := [some (.ref 46), some (.int (nI j0)), some (.int (nI j)), some (.int (nI b)), none, none, none]) (by decide) (Nat.le_of_ble_eq_true rfl) rfl ?_
        refine jr_aload_n 0 1 dX10_began_0 rfl rfl rfl ?_
        refine jr_iload_n 1 2 dX10_began_1 rfl rfl rfl ?_
        refine jr_iload_n 2 3 dX10_began_2 rfl rfl rfl ?_
        refine cs_X10_322 6 dX10_began_3 rfl rfl rfl (Nat.le_of_ble_eq_true rfl) (wp_toldWrongT r1.1.1 h5 hj hn1 ?_)
        refine jr_if_ne 16 9 dX10_began_6 rfl rfl (fun q => absurd (by decide) q) (fun q6 => ?_)
        refine jr_iload_n 3 10 dX10_began_9 rfl rfl rfl ?_
        refine cs_X10_191 13 dX10_began_10 rfl rfl (Nat.le_of_ble_eq_true rfl) (wp_risMuch (fun _ _ => ?_) (fun q => absurd ⟨nI_pos' (by omega), nI_le (b := 400) hb (by omega)⟩ q))
        refine jr_if_ne 20 16 dX10_began_13 rfl rfl (fun q13 => ?_) (fun q => absurd q (by decide))
        refine jr_lconst (0) 21 dX10_began_20 rfl rfl ?_
        refine jr_lstore (L' := [_, _, _, _, _, _, _]) 23 dX10_began_21 rfl (by decide) rfl ?_
        refine jr_aload_n 0 24 dX10_began_23 rfl rfl rfl ?_
        refine gf_X10_89 27 dX10_began_24 rfl rfl rfl rfl ?_
        refine jr_iload_n 2 28 dX10_began_27 rfl rfl rfl ?_
        refine jr_iload_n 3 29 dX10_began_28 rfl rfl rfl ?_
        refine jr_iast rfl rfl (by omega) 30 dX10_began_29 rfl ?_
        refine jr_iconst (nI 0) 31 dX10_began_30 rfl rfl ?_
        refine jr_istore (L' := [_, _, _, _, _, _, _]) 33 dX10_began_31 rfl (by decide) rfl ?_
        refine began_r h hn hj g1 (fun σ2 g3 => ?_) 40 0 _ _ (by omega) rfl (eqs_rf _ _)
        refine ⟨rfl, IV_mov (iv_same_tr (iv_cx g1) ⟨fun a ha => ?_, fun k hk => ?_⟩) h⟩
        · have hc4 : a ∉ iv_RX ∧ a ≠ 46 := by revert a; decide
          obtain ⟨hc2, hc3⟩ := hc4
          have q1 : jr_up (jr_up σ2 70 j 0) 46 45 0 a = jr_up σ2 70 j 0 a := by unfold jr_up; rw [if_neg hc3]
          rw [q1]
          have q2 := g3.1 a hc2 hc3
          by_cases e7 : a = 70
          · subst e7
            show upd (σ2 70) j 0 = σ1 70
            rw [q2]
            exact up_zero (h1.2.2.2.2.2.2.1.2.2.2.2 j (by omega)).1
          · have q3 : jr_up σ2 70 j 0 a = σ2 a := by unfold jr_up; rw [if_neg e7]
            rw [q3, q2]
            unfold jr_up
            rw [if_neg e7]
        · show upd (σ2 46) 45 0 k = σ1 46 k
          by_cases e4 : k = 45
          · subst e4; rw [pk_us]; exact h1.2.2.2.2.2.2.1.2.2.1.symm
          · rw [pk_un e4]; exact g3.2 k (by simpa using e4)
