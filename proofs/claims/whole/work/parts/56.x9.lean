theorem wq_tape {G : jq_G} {d : Nat} {σ : jr_Sg} {k : jr_Sg → Prop} {t : Nat} {b : Int32} (h2 : σ 5 2 = nI t) (ht : t < 160) (h : k (jr_up (jr_up σ 6 t b) 5 2 (nI (t + 1)))) : jq_M G d mi_X2_tape [.ref 5, .int b] σ (jr_kv k) := by
  refine jq_enter (L := [some (.ref 5), some (.int b)]) (by decide) (Nat.le_of_ble_eq_true rfl) rfl ?_
  refine jq_aload_n 0 1 dX2_tape_0 rfl rfl rfl ?_
  refine qf_X2_15 4 dX2_tape_1 rfl rfl rfl rfl ?_
  refine jq_topi (y := nI t) h2 ?_
  refine jq_if_lt 37 7 dX2_tape_4 rfl rfl (fun z => absurd z (nI_pos (by omega))) (fun q4 => ?_)
  refine jq_aload_n 0 8 dX2_tape_7 rfl rfl rfl ?_
  refine qf_X2_15 11 dX2_tape_8 rfl rfl rfl rfl ?_
  refine jq_topi (y := nI t) h2 ?_
  refine jq_sipush (nI 160) 14 dX2_tape_11 rfl rfl ?_
  refine jq_icmp_ge 37 17 dX2_tape_14 rfl rfl (fun z => absurd z (nI_ge (b := 160) ht (by omega))) (fun q14 => ?_)
  refine jq_aload_n 0 18 dX2_tape_17 rfl rfl rfl ?_
  refine qf_X2_9 21 dX2_tape_18 rfl rfl rfl rfl ?_
  refine jq_aload_n 0 22 dX2_tape_21 rfl rfl rfl ?_
  refine qf_X2_15 25 dX2_tape_22 rfl rfl rfl rfl ?_
  refine jq_topi (y := nI t) h2 ?_
  refine jq_iload_n 1 26 dX2_tape_25 rfl rfl rfl ?_
  refine jq_iast rfl rfl (by omega) 27 dX2_tape_26 rfl ?_
  refine jq_aload_n 0 28 dX2_tape_27 rfl rfl rfl ?_
  refine jq_dup 29 dX2_tape_28 rfl rfl ?_
  refine qf_X2_15 32 dX2_tape_29 rfl rfl rfl rfl ?_
  refine jq_topi (y := nI t) h2 ?_
  refine jq_iconst (nI 1) 33 dX2_tape_32 rfl rfl ?_
  refine jq_iadd 34 dX2_tape_33 rfl ?_
  rw [nI_add]
  refine qp_X2_15 37 dX2_tape_34 rfl rfl rfl rfl ?_
  refine jq_return dX2_tape_37 rfl ?_
  exact h
def lw_b : Nat → Nat := fun i => ([119, 97, 114, 109, 115, 32, 103, 108, 97, 110, 99, 101, 115, 32, 42, 32, 52, 32, 43, 32, 115, 101, 101, 110, 32, 42, 32, 51, 32, 59, 32, 99, 111, 111, 108, 115, 32, 51, 32, 59, 32, 108, 111, 111, 107, 115, 32, 115, 101, 101, 110, 32, 111, 114, 32, 115, 101, 99, 111, 110, 100, 32, 60, 32, 109, 111, 114, 101, 32, 59] : List Nat).getD i 0
theorem lw_b_ok : ∀ i : Fin 70, (jr_byt.getD 0 []).getD i.val 0 = nI (lw_b i.val) ∧ lw_b i.val ≤ 127 := by decide +kernel
theorem lw_len : jr_len.getD 0 0 = 70 := rfl
theorem lw_a0 : au lw_b 70 (5, (1, ([], []))) (.inr (30, [1, 100004, 18, 4, 100003, 18, 16])) := ⟨10, by decide +kernel⟩
theorem lw_k0 : lx_t lw_b 70 0 = 10 ∧ lx_n lw_b 70 0 = 5 := by decide +kernel
theorem lw_a1 : au lw_b 70 (36, (1, ([], [1, 100004, 18, 4, 100003, 18, 16]))) (.inr (40, [1, 100004, 18, 4, 100003, 18, 16, 100003])) := ⟨4, by decide +kernel⟩
theorem lw_k1 : lx_t lw_b 70 30 = 11 ∧ lx_n lw_b 70 30 = 36 := by decide +kernel
theorem lw_a2 : au lw_b 70 (46, (1, ([], [1, 100004, 18, 4, 100003, 18, 16, 100003]))) (.inr (70, [1, 100004, 18, 4, 100003, 18, 16, 100003, 4, 3, 5, 14, 11])) := ⟨8, by decide +kernel⟩
theorem lw_k2 : lx_t lw_b 70 40 = 12 ∧ lx_n lw_b 70 40 = 46 := by decide +kernel
theorem lw_k3 : lx_t lw_b 70 70 = 23 := by decide +kernel
theorem lw_no {q : Nat} (h : tq lw_b 70 3 0 [] [] (.inl q)) : False := by
  rcases h with ⟨t, -⟩ | ⟨-, ⟨q0, ha, -⟩ | ⟨p0, v0, ha, -, -, -, h⟩⟩
  · exact t lw_k0.1
  · rw [lw_k0.2] at ha
    exact absurd (au_det ha lw_a0) (by simp)
  · rw [lw_k0.2] at ha
    have e0 := Sum.inr.inj (au_det ha lw_a0)
    have e0a := congrArg Prod.fst e0
    have e0b := congrArg Prod.snd e0
    simp only at e0a e0b
    rw [e0a, e0b] at h
    rcases h with ⟨t, -⟩ | ⟨-, ⟨q1, ha, -⟩ | ⟨p1, v1, ha, -, -, -, h⟩⟩
    · exact t lw_k1.1
    · rw [lw_k1.2] at ha
      exact absurd (au_det ha lw_a1) (by simp)
    · rw [lw_k1.2] at ha
      have e1 := Sum.inr.inj (au_det ha lw_a1)
      have e1a := congrArg Prod.fst e1
      have e1b := congrArg Prod.snd e1
      simp only at e1a e1b
      rw [e1a, e1b] at h
      rcases h with ⟨t, -⟩ | ⟨-, ⟨q2, ha, -⟩ | ⟨p2, v2, ha, -, -, -, h⟩⟩
      · exact t lw_k2.1
      · rw [lw_k2.2] at ha
        exact absurd (au_det ha lw_a2) (by simp)
      · rw [lw_k2.2] at ha
        have e2 := Sum.inr.inj (au_det ha lw_a2)
        have e2a := congrArg Prod.fst e2
        have e2b := congrArg Prod.snd e2
        simp only at e2a e2b
        rw [e2a, e2b] at h
        rcases h with ⟨-, h⟩ | ⟨t, -⟩
        · cases h
        · exact t lw_k3
def jc_ad (ad : Nat → Nat) (l : List Nat) : Nat → Nat := fun i => if i < 46 then l.getD i 0 else ad i
def jc_s0 : jr_Sg := fun c => if c = 5 then (fun k => if k = 3 then -24 else if k = 7 then -1 else 0) else if c = 7 then (fun k => if k = 2 then 0 else if k = 6 then 0 else if k = 7 then 0 else if k = 9 then 0 else -1) else if c = 43 then upd (upd (upd (upd (fun _ => 0) 0 (-1)) 1 (-1)) 2 (-1)) 3 (-1) else fun _ => 0
def jq_sh0 : List jr_C := jq_shp ((fun _ => 0, fun _ _ => 0), (0, (fun _ => 0, [])))
theorem jq_sh0_small : ∀ c ∈ jq_sh0, (match c with | .inl n => decide (n < 2 ^ 31) | .inr _ => true) = true := by decide +kernel
theorem jq_sh0_len : jq_sh0.length = 46 := by decide +kernel
theorem jq_D_of {D : va_G} {I : ClassId} {ad : Nat → Nat} {A : Nat → Prop} {σ : jr_Sg} (hD : va_D A (jq_ws (D, (I, (ad, []))) σ)) : jq_D (D, (I, (ad, []))) := by
  have key : ∀ i, i < (jq_shp (D, (I, (ad, [])))).length → ∃ e, (jq_ws (D, (I, (ad, []))) σ)[i]? = some (ad i, e) := fun i hi => ⟨_, jq_ws_get (List.getElem?_eq_getElem hi)⟩
  refine ⟨fun i j hi hj e => ?_, fun i n h => ?_⟩
  · obtain ⟨e1, h1⟩ := key i hi
    obtain ⟨e2, h2⟩ := key j hj
    exact hD.1 i j _ _ h1 h2 e
  · have h1 : (Sum.inl n : jr_C) ∈ jq_sh0 := List.mem_of_getElem? (i := i) h
    have h2 := jq_sh0_small _ h1
    simpa using h2
theorem jq_A_in {G : jq_G} {A : Nat → Prop} {σ : jr_Sg} (hD : va_D A (jq_ws G σ)) : ∀ q, jq_A G q → A q := by
  intro q ⟨i, hi, e⟩
  have h := hD.2 i _ (jq_ws_get (σ := σ) (List.getElem?_eq_getElem hi))
  rw [e]
  exact h
theorem jz_ZT.ad {ad ad' : Nat → Nat} {U : State} (h : jz_ZT ad U) (e : ∀ i, 1000 ≤ i → ad' i = ad i) : jz_ZT ad' U := ⟨fun i hi => by rw [e _ (by omega)]; exact h.1 i hi, h.2⟩
theorem jz_ZH.ad {ad ad' : Nat → Nat} {A : Nat → Prop} {U : State} {H : Heap} (h : jz_ZH ad A U H) (e : ∀ i, 1000 ≤ i → ad' i = ad i) : jz_ZH ad' A U H := by
  have e1 : (fun i => ad' (1000 + i)) = fun i => ad (1000 + i) := funext fun i => e _ (by omega)
  have e2 : (fun i => ad' (1100 + i)) = fun i => ad (1100 + i) := funext fun i => e _ (by omega)
  unfold jz_ZH
  rw [e1, e2, e 1200 (by decide), e 1300 (by decide)]
  exact h
/-- the class's state behind its constructor -/
def jc_I (σ : jr_Sg) : Prop := (∃ w0 w1 w2, tq lw_b 70 3 0 [] [] (.inr [w0, w1, w2]) ∧ ∀ T, ti_C (tx_T T 0 w0 w1 w2) 1 σ) ∧ σ 5 2 = 0 ∧ ∀ a, a ∉ [1, 2, 3, 5, 6] → σ a = jc_s0 a
def jc_E (ad : Nat → Nat) (A0 : Nat → Prop) (a : Nat) (U : State) : Prop := jz_ZT ad U ∧ jz_ZH ad A0 U U.heap ∧ A0 a ∧ ∀ q, U.heap.size ≤ q → A0 q
def jq_mI (f : Nat → jr_C → Nat × va_E) : Nat → List jr_C → va_W
  | _, [] => []
  | i, c :: l => f i c :: jq_mI f (i + 1) l
theorem jq_mI_eq (f : Nat → jr_C → Nat × va_E) : ∀ (l : List jr_C) (i : Nat), jq_mI f i l = l.mapIdx (fun j c => f (i + j) c)
  | [], _ => rfl
  | c :: l, i => by
    rw [jq_mI, List.mapIdx_cons, jq_mI_eq f l (i + 1)]
    congr 1
    apply List.ext_getElem?
    intro k
    simp only [List.getElem?_mapIdx]
    rw [show i + 1 + k = i + (k + 1) by omega]
theorem jq_ws_I {G : jq_G} {σ : jr_Sg} : jq_ws G σ = jq_mI (fun i c => (G.2.2.1 i, jq_cell G (σ i) c)) 0 (jq_shp G) := by
  rw [jq_mI_eq]
  simp only [Nat.zero_add]
  rfl
theorem jc_ws {D : va_G} {I : ClassId} {ad : Nat → Nat} {a q1 q2 q3 q4 q5 q6 q7 q8 q9 q10 q11 q12 q13 q14 q15 q16 q17 q18 q19 q20 q21 q22 q23 q24 q25 q26 q27 q28 q29 q30 q31 q32 q33 q34 q35 q36 q37 q38 q39 q40 q41 q42 q43 q44 q45 : Nat} : (([] : va_W) ++ (a, .inr (7, [.ref q1, .ref q5, .ref q7, .ref q9, .ref q15, .ref q24, .ref q33, .ref q42, .int (nI 0)])) :: [(q1, .inr (5, [.ref q2, .ref q3, .ref q4, .int (nI 0), .int (nI 0)])), (q2, .inl (I, (960, .inl (fun _ => 0)))), (q3, .inl (I, (18, .inl (fun _ => 0)))), (q4, .inl (I, (64, .inl (fun _ => 0)))), (q5, .inr (1, [.ref q1, .ref q6, .int (nI 0), .int (-24), .int (nI 0), .int (nI 0), .int (nI 0), .int (-1)])), (q6, .inl (I, (160, .inl (fun _ => 0)))), (q7, .inr (6, [.int (-1), .int (-1), .int (nI 0), .int (-1), .int (-1), .int (-1), .int (nI 0), .int (nI 0), .ref q8, .int (nI 0)])), (q8, .inl (I, (5, .inl (fun _ => 0)))), (q9, .inr (3, [.ref q10, .ref q1, .ref q7, .ref q12, .ref q13, .ref q14, .int (nI 0)])), (q10, .inr (0, [.ref q11])), (q11, .inl (I, (6, .inl (fun _ => 0)))), (q12, .inl (I, (205, .inl (fun _ => 0)))), (q13, .inl (I, (205, .inl (fun _ => 0)))), (q14, .inl (I, (5, .inl (fun _ => 0)))), (q15, .inr (2, [.ref q16, .ref q17, .ref q18, .ref q19, .ref q20, .ref q21, .ref q22, .ref q23, .int (nI 0), .int (nI 0), .int (nI 0)])), (q16, .inl (I, (5, .inl (fun _ => 0)))), (q17, .inl (I, (5, .inl (fun _ => 0)))), (q18, .inl (I, (5, .inl (fun _ => 0)))), (q19, .inl (I, (5, .inl (fun _ => 0)))), (q20, .inl (I, (8, .inl (fun _ => 0)))), (q21, .inl (I, (8, .inl (fun _ => 0)))), (q22, .inl (I, (8, .inl (fun _ => 0)))), (q23, .inl (I, (8, .inl (fun _ => 0)))), (q24, .inr (2, [.ref q25, .ref q26, .ref q27, .ref q28, .ref q29, .ref q30, .ref q31, .ref q32, .int (nI 0), .int (nI 0), .int (nI 0)])), (q25, .inl (I, (5, .inl (fun _ => 0)))), (q26, .inl (I, (5, .inl (fun _ => 0)))), (q27, .inl (I, (5, .inl (fun _ => 0)))), (q28, .inl (I, (5, .inl (fun _ => 0)))), (q29, .inl (I, (8, .inl (fun _ => 0)))), (q30, .inl (I, (8, .inl (fun _ => 0)))), (q31, .inl (I, (8, .inl (fun _ => 0)))), (q32, .inl (I, (8, .inl (fun _ => 0)))), (q33, .inr (2, [.ref q34, .ref q35, .ref q36, .ref q37, .ref q38, .ref q39, .ref q40, .ref q41, .int (nI 0), .int (nI 0), .int (nI 0)])), (q34, .inl (I, (5, .inl (fun _ => 0)))), (q35, .inl (I, (5, .inl (fun _ => 0)))), (q36, .inl (I, (5, .inl (fun _ => 0)))), (q37, .inl (I, (5, .inl (fun _ => 0)))), (q38, .inl (I, (8, .inl (fun _ => 0)))), (q39, .inl (I, (8, .inl (fun _ => 0)))), (q40, .inl (I, (8, .inl (fun _ => 0)))), (q41, .inl (I, (8, .inl (fun _ => 0)))), (q42, .inr (4, [.ref q43, .ref q44, .ref q45])), (q43, .inl (I, (4, .inl (upd (upd (upd (upd (fun _ => 0) 0 (-1)) 1 (-1)) 2 (-1)) 3 (-1))))), (q44, .inl (I, (4, .inl (fun _ => 0)))), (q45, .inl (I, (160, .inl (fun _ => 0))))] : va_W) = jq_ws (D, (I, (jc_ad ad [a, q1, q2, q3, q4, q5, q6, q7, q8, q9, q10, q11, q12, q13, q14, q15, q16, q17, q18, q19, q20, q21, q22, q23, q24, q25, q26, q27, q28, q29, q30, q31, q32, q33, q34, q35, q36, q37, q38, q39, q40, q41, q42, q43, q44, q45], []))) jc_s0 := by
  rw [jq_ws_I]
  rfl
theorem x9_loop {p : Program} {l : Launch} {e : Env} {rm : Room} {s : State} {m : MethodId} {args : Array Value} {below : List Frame} {meth : Method} {c : Code} {A : Nat → Prop} {nc ns : Nat} {Q : State → Prop} {G : jq_G} (hC : jz_C p s m args c A G mi_X9_init) (hR : 100 ≤ rm.frames ∧ 6400 ≤ rm.locals ∧ nc ≤ rm.cells ∧ ns ≤ rm.slots) (fin : ∀ σ : jr_Sg, (∀ a, a ≠ 5 → a ≠ 6 → σ a = jc_s0 a) → (∀ j, j ≠ 2 → σ 5 j = jc_s0 5 j) → σ 5 2 = nI 70 → (∀ k, k < 70 → σ 6 k = nI (lw_b k)) → jz_R p l e rm s m args below meth c A nc ns Q G mi_X9_init 139 [some (.ref 0), some (.int (nI 70))] [] σ) : ∀ n i (σ : jr_Sg), i + n = 70 → (∀ a, a ≠ 5 → a ≠ 6 → σ a = jc_s0 a) → (∀ j, j ≠ 2 → σ 5 j = jc_s0 5 j) → σ 5 2 = nI i → (∀ k, k < i → σ 6 k = nI (lw_b k)) → jz_R p l e rm s m args below meth c A nc ns Q G mi_X9_init 111 [some (.ref 0), some (.int (nI i))] [] σ := by
  intro n
  induction n with
  | zero =>
    intro i σ hi g1 g2 g3 g4
    have e : i = 70 := hi
    subst e
    refine jz_iload_n hC 1 112 dX9_init_111 rfl rfl rfl ?_
    refine jz_ldcS hC (i := 0) (by decide) rfl 114 dX9_init_112 rfl ?_
    refine jz_callStr (d := 20) hC ok_X9_67 rfl (by decide) rfl (Nat.le_of_ble_eq_true rfl) ⟨by omega, by omega, hR.2.2.1, hR.2.2.2⟩ 117 dX9_init_114 rfl rfl (jq_M_mono jz_k_to (wq_length (d := 19) (i := 0) (by decide) (by decide) ?_))
    rw [lw_len]
    refine jz_icmp_ge hC 139 120 dX9_init_117 rfl rfl (fun q117 => ?_) (fun z => absurd (Int32.le_refl _) z)
    exact fin σ g1 g2 g3 g4
  | succ n ih =>
    intro i σ hi g1 g2 g3 g4
    obtain ⟨b1, b2⟩ := lw_b_ok ⟨i, by omega⟩
    simp only at b1 b2
    refine jz_iload_n hC 1 112 dX9_init_111 rfl rfl rfl ?_
    refine jz_ldcS hC (i := 0) (by decide) rfl 114 dX9_init_112 rfl ?_
    refine jz_callStr (d := 20) hC ok_X9_67 rfl (by decide) rfl (Nat.le_of_ble_eq_true rfl) ⟨by omega, by omega, hR.2.2.1, hR.2.2.2⟩ 117 dX9_init_114 rfl rfl (jq_M_mono jz_k_to (wq_length (d := 19) (i := 0) (by decide) (by decide) ?_))
    rw [lw_len]
    refine jz_icmp_ge hC 139 120 dX9_init_117 rfl rfl (fun z => absurd z (nI_ge (by omega) (by decide))) (fun q117 => ?_)
    refine jz_aload_n hC 0 121 dX9_init_120 rfl rfl rfl ?_
    refine zf_X9_21 hC 124 dX9_init_121 rfl rfl rfl rfl ?_
    refine jz_ldcS hC (i := 0) (by decide) rfl 126 dX9_init_124 rfl ?_
    refine jz_iload_n hC 1 127 dX9_init_126 rfl rfl rfl ?_
    refine jz_callStr (d := 20) hC ok_X9_73 rfl (by decide) rfl (Nat.le_of_ble_eq_true rfl) ⟨by omega, by omega, hR.2.2.1, hR.2.2.2⟩ 130 dX9_init_127 rfl rfl (jq_M_mono jz_k_to (wq_charAt (d := 17) (i := 0) (c := i) (x := lw_b i) (by decide) (by decide) (by rw [lw_len]; omega) b2 b1 ?_))
    refine jz_callV (d := 20) hC ok_X9_77 rfl rfl rfl (Nat.le_of_ble_eq_true rfl) ⟨by omega, by omega, hR.2.2.1, hR.2.2.2⟩ 133 dX9_init_130 rfl rfl (jq_M_mono jz_kv_to (wq_tape g3 (by omega) ?_))
    refine jz_iinc hC (v := nI (i + 1)) (L' := [_, _]) 136 dX9_init_133 rfl rfl (nI_1 i) (by decide) rfl ?_
    refine jz_goto hC 111 dX9_init_136 rfl ?_
    refine ih (i + 1) _ (by omega) (fun a h5 h6 => ?_) (fun j hj => ?_) rfl (fun k hk => ?_)
    · simp only [jr_up]
      rw [if_neg h5, if_neg h6]
      exact g1 a h5 h6
    · show upd (σ 5) 2 _ j = _
      rw [pk_un hj]
      exact g2 j hj
    · show upd (σ 6) i _ k = _
      by_cases z : k = i
      · subst z
        exact pk_us
      · rw [pk_un z]
        exact g4 k (by omega)
theorem x9_end {p : Program} {l : Launch} {e : Env} {rm : Room} {s : State} {m : MethodId} {args : Array Value} {below : List Frame} {meth : Method} {c : Code} {A : Nat → Prop} {nc ns : Nat} {Q : State → Prop} {G : jq_G} (hC : jz_C p s m args c A G mi_X9_init) (hR : 100 ≤ rm.frames ∧ 6400 ≤ rm.locals ∧ nc ≤ rm.cells ∧ ns ≤ rm.slots) (fin : ∀ σ : jr_Sg, jc_I σ → jz_R p l e rm s m args below meth c A nc ns Q G mi_X9_init 147 [some (.ref 0), some (.int (nI 70))] [] σ) (σ : jr_Sg) (g1 : ∀ a, a ≠ 5 → a ≠ 6 → σ a = jc_s0 a) (g3 : σ 5 2 = nI 70) (g4 : ∀ k, k < 70 → σ 6 k = nI (lw_b k)) : jz_R p l e rm s m args below meth c A nc ns Q G mi_X9_init 139 [some (.ref 0), some (.int (nI 70))] [] σ := by
  refine jz_aload_n hC 0 140 dX9_init_139 rfl rfl rfl ?_
  refine zf_X9_21 hC 143 dX9_init_140 rfl rfl rfl rfl ?_
  refine jz_callV (d := 90) hC ok_X9_81 rfl rfl rfl (Nat.le_of_ble_eq_true rfl) ⟨by omega, by omega, hR.2.2.1, hR.2.2.2⟩ 146 dX9_init_143 rfl rfl (jq_M_mono jz_k_to (wq_readTape (d := 9) (b := lw_b) (tp := 70) (n := 0) ⟨g3, by decide, fun i hi => ⟨g4 i hi, by have := (lw_b_ok ⟨i, hi⟩).2; simp only at this; omega⟩⟩ (by rw [g1 1 (by decide) (by decide)]; rfl) (by decide) (fun σ1 q ht _ _ _ _ _ _ => (lw_no ht).elim) (fun σ1 w0 w1 w2 ht f1 f2 f5 f6 f4 hl u0 u1 u2 p1 p2 p3 p4 => ?_)))
  refine jz_pop hC 147 dX9_init_146 rfl rfl ?_
  refine fin σ1 ⟨⟨w0, w1, w2, ht, fun T => ?_⟩, f2, fun a ha => ?_⟩
  · refine tx_C (T := T) (σ := σ) ⟨?_, by decide, fun t h => absurd h (Nat.not_lt_zero t)⟩ (by decide) f4 f5 f6 hl u0 u1 u2 p1 p2 p3 p4
    rw [g1 1 (by decide) (by decide)]
    rfl
  · simp only [List.mem_cons, not_or, List.not_mem_nil, not_false_eq_true, and_true] at ha
    rw [f1 a (by simp only [List.mem_cons, not_or, List.not_mem_nil, not_false_eq_true, and_true]; omega), g1 a (by omega) (by omega)]
theorem x9_start {p : Program} {l : Launch} {e : Env} {rm : Room} {s : State} {m : MethodId} {args : Array Value} {below : List Frame} {meth : Method} {c : Code} {A : Nat → Prop} {nc ns : Nat} {Q : State → Prop} {G : jq_G} (hC : jz_C p s m args c A G mi_X9_init) (hR : 100 ≤ rm.frames ∧ 6400 ≤ rm.locals ∧ nc ≤ rm.cells ∧ ns ≤ rm.slots) (fin : ∀ σ : jr_Sg, jc_I σ → jz_R p l e rm s m args below meth c A nc ns Q G mi_X9_init 147 [some (.ref 0), some (.int (nI 70))] [] σ) : jz_R p l e rm s m args below meth c A nc ns Q G mi_X9_init 109 [some (.ref 0), none] [] jc_s0 := by
  refine jz_iconst hC (nI 0) 110 dX9_init_109 rfl rfl ?_
  refine jz_istore_n hC 1 (L' := [_, _]) 111 dX9_init_110 rfl rfl (by decide) rfl ?_
  exact x9_loop hC hR (fun σ g1 g2 g3 g4 => x9_end hC hR fin σ g1 g3 g4) 70 0 jc_s0 rfl (fun _ _ _ => rfl) (fun _ _ => rfl) rfl (fun k hk => absurd hk (Nat.not_lt_zero k))
set_option maxHeartbeats 4000000 in
theorem cj_X9 {D : va_G} {I : ClassId} {ad : Nat → Nat} {A0 : Nat → Prop} {a : Nat} : jn_ME D I (jc_E ad A0 a) mi_X9_init ({ frames := 120, cells := 45, slots := 2019, locals := 7680 } : Room) 45 2019 ([] ++ [(a, .inr (7, [.null, .null, .null, .null, .null, .null, .null, .null, .int 0]))]) [.ref a] (fun ws => ∃ (ad' : Nat → Nat) (σ : jr_Sg), (∀ i, 1000 ≤ i → ad' i = ad i) ∧ ad' 0 = a ∧ jc_I σ ∧ ws = jq_ws (D, (I, (ad', []))) σ) := by
  refine jn_enterE (by decide) rfl rfl (Nat.le_of_ble_eq_true rfl) (fun sz => ?_)
  refine jn_aload_n 0 0 1 dX9_init_0 rfl rfl rfl ?_
  refine jn_obj 4 dX9_init_1 rfl oo_X9 (Nat.le_of_ble_eq_true rfl) (Nat.le_of_ble_eq_true rfl) ?_
  refine jn_aload_n 0 0 5 dX9_init_4 rfl rfl rfl ?_
  refine jn_new (ci := 5) (N := 5) (T := TX6) [.null, .null, .null, .int 0, .int 0] tyX6 8 dX9_init_5 rfl lay_X6 tyX6_ok cl_X9_7 ib_X6 iz_X6 rfl (fun j hj => by rcases (show j = 0 ∨ j = 1 ∨ j = 2 ∨ j = 3 ∨ j = 4 by omega) with rfl | rfl | rfl | rfl | rfl <;> rfl) (Nat.le_of_ble_eq_true rfl) (Nat.le_of_ble_eq_true rfl) (fun q1 => ?_)
  refine jn_dup 9 dX9_init_8 rfl rfl ?_
  refine jn_callN (a := q1) (As := []) (rest := [.ref q1, .ref a]) on_X9_9 rfl (Nat.le_of_ble_eq_true rfl) 12 dX9_init_9 rfl rfl rfl rfl ⟨(Nat.le_of_ble_eq_true rfl), (Nat.le_of_ble_eq_true rfl)⟩ ⟨(Nat.le_of_ble_eq_true rfl), (Nat.le_of_ble_eq_true rfl)⟩ (cj_X6_init) (fun ws1 hw1 => ?_)
  obtain ⟨q2, q3, q4, rfl⟩ := hw1
  refine jn_ws (ws' := ([] : va_W) ++ (a, .inr (7, [.null, .null, .null, .null, .null, .null, .null, .null, .int 0])) :: [(q1, .inr (5, [.ref q2, .ref q3, .ref q4, .int (nI 0), .int (nI 0)])), (q2, .inl (I, (960, .inl (fun _ => 0)))), (q3, .inl (I, (18, .inl (fun _ => 0)))), (q4, .inl (I, (64, .inl (fun _ => 0))))]) (List.append_assoc _ _ _) ?_
  refine jn_putF (k := 0) (ty := .object "GoneRed$Texts") 15 dX9_init_12 rfl lay_X9 rfl tyX9 tyX9_ok nmX9 (by decide) rfl rfl rfl fl_X9_10 (by decide +kernel) rfl rfl (Nat.le_of_ble_eq_true rfl) ?_
  refine jn_aload_n 0 0 16 dX9_init_15 rfl rfl rfl ?_
  refine jn_new (ci := 1) (N := 8) (T := TX2) [.null, .null, .int 0, .int 0, .int 0, .int 0, .int 0, .int 0] tyX2 19 dX9_init_16 rfl lay_X2 tyX2_ok cl_X9_16 ib_X2 iz_X2 rfl (fun j hj => by rcases (show j = 0 ∨ j = 1 ∨ j = 2 ∨ j = 3 ∨ j = 4 ∨ j = 5 ∨ j = 6 ∨ j = 7 by omega) with rfl | rfl | rfl | rfl | rfl | rfl | rfl | rfl <;> rfl) (Nat.le_of_ble_eq_true rfl) (Nat.le_of_ble_eq_true rfl) (fun q5 => ?_)
  refine jn_dup 20 dX9_init_19 rfl rfl ?_
  refine jn_aload_n 0 0 21 dX9_init_20 rfl rfl rfl ?_
  refine jn_ws (ws' := ([] : va_W) ++ (a, .inr (7, [.ref q1, .null, .null, .null, .null, .null, .null, .null, .int 0])) :: [(q1, .inr (5, [.ref q2, .ref q3, .ref q4, .int (nI 0), .int (nI 0)])), (q2, .inl (I, (960, .inl (fun _ => 0)))), (q3, .inl (I, (18, .inl (fun _ => 0)))), (q4, .inl (I, (64, .inl (fun _ => 0)))), (q5, .inr (1, [.null, .null, .int 0, .int 0, .int 0, .int 0, .int 0, .int 0]))]) (List.append_assoc _ _ _) ?_
  refine jn_get (k := 0) 24 dX9_init_21 rfl lay_X9 rfl (by decide) rfl fl_X9_10 rfl ?_
  refine jn_ws (ws' := ((([] : va_W) ++ (a, .inr (7, [.ref q1, .null, .null, .null, .null, .null, .null, .null, .int 0])) :: [(q1, .inr (5, [.ref q2, .ref q3, .ref q4, .int (nI 0), .int (nI 0)])), (q2, .inl (I, (960, .inl (fun _ => 0)))), (q3, .inl (I, (18, .inl (fun _ => 0)))), (q4, .inl (I, (64, .inl (fun _ => 0))))] : va_W) ++ ([(q5, .inr (1, [.null, .null, .int 0, .int 0, .int 0, .int 0, .int 0, .int 0]))] : va_W))) rfl ?_
  refine jn_callI (a := q5) (As := [.ref q1]) (rest := [.ref q5, .ref a]) on_X9_18 rfl (Nat.le_of_ble_eq_true rfl) 27 dX9_init_24 rfl rfl rfl rfl ⟨(Nat.le_of_ble_eq_true rfl), (Nat.le_of_ble_eq_true rfl)⟩ ⟨(Nat.le_of_ble_eq_true rfl), (Nat.le_of_ble_eq_true rfl)⟩ (cj_X2_init) (fun ws1 hw1 => ?_)
  obtain ⟨q6, rfl⟩ := hw1
  refine jn_ws (ws' := ([] : va_W) ++ (a, .inr (7, [.ref q1, .null, .null, .null, .null, .null, .null, .null, .int 0])) :: [(q1, .inr (5, [.ref q2, .ref q3, .ref q4, .int (nI 0), .int (nI 0)])), (q2, .inl (I, (960, .inl (fun _ => 0)))), (q3, .inl (I, (18, .inl (fun _ => 0)))), (q4, .inl (I, (64, .inl (fun _ => 0)))), (q5, .inr (1, [.ref q1, .ref q6, .int (nI 0), .int (-24), .int (nI 0), .int (nI 0), .int (nI 0), .int (-1)])), (q6, .inl (I, (160, .inl (fun _ => 0))))]) (List.append_assoc _ _ _) ?_
  refine jn_putF (k := 1) (ty := .object "GoneRed$Reader") 30 dX9_init_27 rfl lay_X9 rfl tyX9 tyX9_ok nmX9 (by decide) rfl rfl rfl fl_X9_21 (by decide +kernel) rfl rfl (Nat.le_of_ble_eq_true rfl) ?_
  refine jn_aload_n 0 0 31 dX9_init_30 rfl rfl rfl ?_
  refine jn_new (ci := 6) (N := 10) (T := TX7) [.int 0, .int 0, .int 0, .int 0, .int 0, .int 0, .int 0, .int 0, .null, .int 0] tyX7 34 dX9_init_31 rfl lay_X7 tyX7_ok cl_X9_25 ib_X7 iz_X7 rfl (fun j hj => by rcases (show j = 0 ∨ j = 1 ∨ j = 2 ∨ j = 3 ∨ j = 4 ∨ j = 5 ∨ j = 6 ∨ j = 7 ∨ j = 8 ∨ j = 9 by omega) with rfl | rfl | rfl | rfl | rfl | rfl | rfl | rfl | rfl | rfl <;> rfl) (Nat.le_of_ble_eq_true rfl) (Nat.le_of_ble_eq_true rfl) (fun q7 => ?_)
  refine jn_dup 35 dX9_init_34 rfl rfl ?_
  refine jn_callN (a := q7) (As := []) (rest := [.ref q7, .ref a]) on_X9_27 rfl (Nat.le_of_ble_eq_true rfl) 38 dX9_init_35 rfl rfl rfl rfl ⟨(Nat.le_of_ble_eq_true rfl), (Nat.le_of_ble_eq_true rfl)⟩ ⟨(Nat.le_of_ble_eq_true rfl), (Nat.le_of_ble_eq_true rfl)⟩ (cj_X7_init) (fun ws1 hw1 => ?_)
  obtain ⟨q8, rfl⟩ := hw1
  refine jn_ws (ws' := ([] : va_W) ++ (a, .inr (7, [.ref q1, .ref q5, .null, .null, .null, .null, .null, .null, .int 0])) :: [(q1, .inr (5, [.ref q2, .ref q3, .ref q4, .int (nI 0), .int (nI 0)])), (q2, .inl (I, (960, .inl (fun _ => 0)))), (q3, .inl (I, (18, .inl (fun _ => 0)))), (q4, .inl (I, (64, .inl (fun _ => 0)))), (q5, .inr (1, [.ref q1, .ref q6, .int (nI 0), .int (-24), .int (nI 0), .int (nI 0), .int (nI 0), .int (-1)])), (q6, .inl (I, (160, .inl (fun _ => 0)))), (q7, .inr (6, [.int (-1), .int (-1), .int (nI 0), .int (-1), .int (-1), .int (-1), .int (nI 0), .int (nI 0), .ref q8, .int (nI 0)])), (q8, .inl (I, (5, .inl (fun _ => 0))))]) (List.append_assoc _ _ _) ?_
  refine jn_putF (k := 2) (ty := .object "GoneRed$Twist") 41 dX9_init_38 rfl lay_X9 rfl tyX9 tyX9_ok nmX9 (by decide) rfl rfl rfl fl_X9_28 (by decide +kernel) rfl rfl (Nat.le_of_ble_eq_true rfl) ?_
  refine jn_aload_n 0 0 42 dX9_init_41 rfl rfl rfl ?_
  refine jn_new (ci := 3) (N := 7) (T := TX4) [.null, .null, .null, .null, .null, .null, .int 0] tyX4 45 dX9_init_42 rfl lay_X4 tyX4_ok cl_X9_32 ib_X4 iz_X4 rfl (fun j hj => by rcases (show j = 0 ∨ j = 1 ∨ j = 2 ∨ j = 3 ∨ j = 4 ∨ j = 5 ∨ j = 6 by omega) with rfl | rfl | rfl | rfl | rfl | rfl | rfl <;> rfl) (Nat.le_of_ble_eq_true rfl) (Nat.le_of_ble_eq_true rfl) (fun q9 => ?_)
  refine jn_dup 46 dX9_init_45 rfl rfl ?_
  refine jn_aload_n 0 0 47 dX9_init_46 rfl rfl rfl ?_
  refine jn_ws (ws' := ([] : va_W) ++ (a, .inr (7, [.ref q1, .ref q5, .ref q7, .null, .null, .null, .null, .null, .int 0])) :: [(q1, .inr (5, [.ref q2, .ref q3, .ref q4, .int (nI 0), .int (nI 0)])), (q2, .inl (I, (960, .inl (fun _ => 0)))), (q3, .inl (I, (18, .inl (fun _ => 0)))), (q4, .inl (I, (64, .inl (fun _ => 0)))), (q5, .inr (1, [.ref q1, .ref q6, .int (nI 0), .int (-24), .int (nI 0), .int (nI 0), .int (nI 0), .int (-1)])), (q6, .inl (I, (160, .inl (fun _ => 0)))), (q7, .inr (6, [.int (-1), .int (-1), .int (nI 0), .int (-1), .int (-1), .int (-1), .int (nI 0), .int (nI 0), .ref q8, .int (nI 0)])), (q8, .inl (I, (5, .inl (fun _ => 0)))), (q9, .inr (3, [.null, .null, .null, .null, .null, .null, .int 0]))]) (List.append_assoc _ _ _) ?_
  refine jn_get (k := 0) 50 dX9_init_47 rfl lay_X9 rfl (by decide) rfl fl_X9_10 rfl ?_
  refine jn_ws (ws' := ((([] : va_W) ++ (a, .inr (7, [.ref q1, .ref q5, .ref q7, .null, .null, .null, .null, .null, .int 0])) :: [(q1, .inr (5, [.ref q2, .ref q3, .ref q4, .int (nI 0), .int (nI 0)])), (q2, .inl (I, (960, .inl (fun _ => 0)))), (q3, .inl (I, (18, .inl (fun _ => 0)))), (q4, .inl (I, (64, .inl (fun _ => 0)))), (q5, .inr (1, [.ref q1, .ref q6, .int (nI 0), .int (-24), .int (nI 0), .int (nI 0), .int (nI 0), .int (-1)])), (q6, .inl (I, (160, .inl (fun _ => 0)))), (q7, .inr (6, [.int (-1), .int (-1), .int (nI 0), .int (-1), .int (-1), .int (-1), .int (nI 0), .int (nI 0), .ref q8, .int (nI 0)])), (q8, .inl (I, (5, .inl (fun _ => 0))))] : va_W) ++ ([(q9, .inr (3, [.null, .null, .null, .null, .null, .null, .int 0]))] : va_W))) rfl ?_
  refine jn_aload_n 0 0 51 dX9_init_50 rfl rfl rfl ?_
  refine jn_ws (ws' := ([] : va_W) ++ (a, .inr (7, [.ref q1, .ref q5, .ref q7, .null, .null, .null, .null, .null, .int 0])) :: [(q1, .inr (5, [.ref q2, .ref q3, .ref q4, .int (nI 0), .int (nI 0)])), (q2, .inl (I, (960, .inl (fun _ => 0)))), (q3, .inl (I, (18, .inl (fun _ => 0)))), (q4, .inl (I, (64, .inl (fun _ => 0)))), (q5, .inr (1, [.ref q1, .ref q6, .int (nI 0), .int (-24), .int (nI 0), .int (nI 0), .int (nI 0), .int (-1)])), (q6, .inl (I, (160, .inl (fun _ => 0)))), (q7, .inr (6, [.int (-1), .int (-1), .int (nI 0), .int (-1), .int (-1), .int (-1), .int (nI 0), .int (nI 0), .ref q8, .int (nI 0)])), (q8, .inl (I, (5, .inl (fun _ => 0)))), (q9, .inr (3, [.null, .null, .null, .null, .null, .null, .int 0]))]) (List.append_assoc _ _ _) ?_
  refine jn_get (k := 2) 54 dX9_init_51 rfl lay_X9 rfl (by decide) rfl fl_X9_28 rfl ?_
  refine jn_ws (ws' := ((([] : va_W) ++ (a, .inr (7, [.ref q1, .ref q5, .ref q7, .null, .null, .null, .null, .null, .int 0])) :: [(q1, .inr (5, [.ref q2, .ref q3, .ref q4, .int (nI 0), .int (nI 0)])), (q2, .inl (I, (960, .inl (fun _ => 0)))), (q3, .inl (I, (18, .inl (fun _ => 0)))), (q4, .inl (I, (64, .inl (fun _ => 0)))), (q5, .inr (1, [.ref q1, .ref q6, .int (nI 0), .int (-24), .int (nI 0), .int (nI 0), .int (nI 0), .int (-1)])), (q6, .inl (I, (160, .inl (fun _ => 0)))), (q7, .inr (6, [.int (-1), .int (-1), .int (nI 0), .int (-1), .int (-1), .int (-1), .int (nI 0), .int (nI 0), .ref q8, .int (nI 0)])), (q8, .inl (I, (5, .inl (fun _ => 0))))] : va_W) ++ ([(q9, .inr (3, [.null, .null, .null, .null, .null, .null, .int 0]))] : va_W))) rfl ?_
  refine jn_callI (a := q9) (As := [.ref q1, .ref q7]) (rest := [.ref q9, .ref a]) on_X9_34 rfl (Nat.le_of_ble_eq_true rfl) 57 dX9_init_54 rfl rfl rfl rfl ⟨(Nat.le_of_ble_eq_true rfl), (Nat.le_of_ble_eq_true rfl)⟩ ⟨(Nat.le_of_ble_eq_true rfl), (Nat.le_of_ble_eq_true rfl)⟩ (cj_X4_init) (fun ws1 hw1 => ?_)
  obtain ⟨q10, q11, q12, q13, q14, rfl⟩ := hw1
  refine jn_ws (ws' := ([] : va_W) ++ (a, .inr (7, [.ref q1, .ref q5, .ref q7, .null, .null, .null, .null, .null, .int 0])) :: [(q1, .inr (5, [.ref q2, .ref q3, .ref q4, .int (nI 0), .int (nI 0)])), (q2, .inl (I, (960, .inl (fun _ => 0)))), (q3, .inl (I, (18, .inl (fun _ => 0)))), (q4, .inl (I, (64, .inl (fun _ => 0)))), (q5, .inr (1, [.ref q1, .ref q6, .int (nI 0), .int (-24), .int (nI 0), .int (nI 0), .int (nI 0), .int (-1)])), (q6, .inl (I, (160, .inl (fun _ => 0)))), (q7, .inr (6, [.int (-1), .int (-1), .int (nI 0), .int (-1), .int (-1), .int (-1), .int (nI 0), .int (nI 0), .ref q8, .int (nI 0)])), (q8, .inl (I, (5, .inl (fun _ => 0)))), (q9, .inr (3, [.ref q10, .ref q1, .ref q7, .ref q12, .ref q13, .ref q14, .int (nI 0)])), (q10, .inr (0, [.ref q11])), (q11, .inl (I, (6, .inl (fun _ => 0)))), (q12, .inl (I, (205, .inl (fun _ => 0)))), (q13, .inl (I, (205, .inl (fun _ => 0)))), (q14, .inl (I, (5, .inl (fun _ => 0))))]) (List.append_assoc _ _ _) ?_
  refine jn_putF (k := 3) (ty := .object "GoneRed$Seconds") 60 dX9_init_57 rfl lay_X9 rfl tyX9 tyX9_ok nmX9 (by decide) rfl rfl rfl fl_X9_37 (by decide +kernel) rfl rfl (Nat.le_of_ble_eq_true rfl) ?_
  refine jn_aload_n 0 0 61 dX9_init_60 rfl rfl rfl ?_
  refine jn_new (ci := 2) (N := 11) (T := TX3) [.null, .null, .null, .null, .null, .null, .null, .null, .int 0, .int 0, .int 0] tyX3 64 dX9_init_61 rfl lay_X3 tyX3_ok cl_X9_41 ib_X3 iz_X3 rfl (fun j hj => by rcases (show j = 0 ∨ j = 1 ∨ j = 2 ∨ j = 3 ∨ j = 4 ∨ j = 5 ∨ j = 6 ∨ j = 7 ∨ j = 8 ∨ j = 9 ∨ j = 10 by omega) with rfl | rfl | rfl | rfl | rfl | rfl | rfl | rfl | rfl | rfl | rfl <;> rfl) (Nat.le_of_ble_eq_true rfl) (Nat.le_of_ble_eq_true rfl) (fun q15 => ?_)
  refine jn_dup 65 dX9_init_64 rfl rfl ?_
  refine jn_callN (a := q15) (As := []) (rest := [.ref q15, .ref a]) on_X9_43 rfl (Nat.le_of_ble_eq_true rfl) 68 dX9_init_65 rfl rfl rfl rfl ⟨(Nat.le_of_ble_eq_true rfl), (Nat.le_of_ble_eq_true rfl)⟩ ⟨(Nat.le_of_ble_eq_true rfl), (Nat.le_of_ble_eq_true rfl)⟩ (cj_X3_init) (fun ws1 hw1 => ?_)
  obtain ⟨q16, q17, q18, q19, q20, q21, q22, q23, rfl⟩ := hw1
  refine jn_ws (ws' := ([] : va_W) ++ (a, .inr (7, [.ref q1, .ref q5, .ref q7, .ref q9, .null, .null, .null, .null, .int 0])) :: [(q1, .inr (5, [.ref q2, .ref q3, .ref q4, .int (nI 0), .int (nI 0)])), (q2, .inl (I, (960, .inl (fun _ => 0)))), (q3, .inl (I, (18, .inl (fun _ => 0)))), (q4, .inl (I, (64, .inl (fun _ => 0)))), (q5, .inr (1, [.ref q1, .ref q6, .int (nI 0), .int (-24), .int (nI 0), .int (nI 0), .int (nI 0), .int (-1)])), (q6, .inl (I, (160, .inl (fun _ => 0)))), (q7, .inr (6, [.int (-1), .int (-1), .int (nI 0), .int (-1), .int (-1), .int (-1), .int (nI 0), .int (nI 0), .ref q8, .int (nI 0)])), (q8, .inl (I, (5, .inl (fun _ => 0)))), (q9, .inr (3, [.ref q10, .ref q1, .ref q7, .ref q12, .ref q13, .ref q14, .int (nI 0)])), (q10, .inr (0, [.ref q11])), (q11, .inl (I, (6, .inl (fun _ => 0)))), (q12, .inl (I, (205, .inl (fun _ => 0)))), (q13, .inl (I, (205, .inl (fun _ => 0)))), (q14, .inl (I, (5, .inl (fun _ => 0)))), (q15, .inr (2, [.ref q16, .ref q17, .ref q18, .ref q19, .ref q20, .ref q21, .ref q22, .ref q23, .int (nI 0), .int (nI 0), .int (nI 0)])), (q16, .inl (I, (5, .inl (fun _ => 0)))), (q17, .inl (I, (5, .inl (fun _ => 0)))), (q18, .inl (I, (5, .inl (fun _ => 0)))), (q19, .inl (I, (5, .inl (fun _ => 0)))), (q20, .inl (I, (8, .inl (fun _ => 0)))), (q21, .inl (I, (8, .inl (fun _ => 0)))), (q22, .inl (I, (8, .inl (fun _ => 0)))), (q23, .inl (I, (8, .inl (fun _ => 0))))]) (List.append_assoc _ _ _) ?_
  refine jn_putF (k := 4) (ty := .object "GoneRed$Scene") 71 dX9_init_68 rfl lay_X9 rfl tyX9 tyX9_ok nmX9 (by decide) rfl rfl rfl fl_X9_44 (by decide +kernel) rfl rfl (Nat.le_of_ble_eq_true rfl) ?_
  refine jn_aload_n 0 0 72 dX9_init_71 rfl rfl rfl ?_
  refine jn_new (ci := 2) (N := 11) (T := TX3) [.null, .null, .null, .null, .null, .null, .null, .null, .int 0, .int 0, .int 0] tyX3 75 dX9_init_72 rfl lay_X3 tyX3_ok cl_X9_41 ib_X3 iz_X3 rfl (fun j hj => by rcases (show j = 0 ∨ j = 1 ∨ j = 2 ∨ j = 3 ∨ j = 4 ∨ j = 5 ∨ j = 6 ∨ j = 7 ∨ j = 8 ∨ j = 9 ∨ j = 10 by omega) with rfl | rfl | rfl | rfl | rfl | rfl | rfl | rfl | rfl | rfl | rfl <;> rfl) (Nat.le_of_ble_eq_true rfl) (Nat.le_of_ble_eq_true rfl) (fun q24 => ?_)
  refine jn_dup 76 dX9_init_75 rfl rfl ?_
  refine jn_callN (a := q24) (As := []) (rest := [.ref q24, .ref a]) on_X9_43 rfl (Nat.le_of_ble_eq_true rfl) 79 dX9_init_76 rfl rfl rfl rfl ⟨(Nat.le_of_ble_eq_true rfl), (Nat.le_of_ble_eq_true rfl)⟩ ⟨(Nat.le_of_ble_eq_true rfl), (Nat.le_of_ble_eq_true rfl)⟩ (cj_X3_init) (fun ws1 hw1 => ?_)
  obtain ⟨q25, q26, q27, q28, q29, q30, q31, q32, rfl⟩ := hw1
  refine jn_ws (ws' := ([] : va_W) ++ (a, .inr (7, [.ref q1, .ref q5, .ref q7, .ref q9, .ref q15, .null, .null, .null, .int 0])) :: [(q1, .inr (5, [.ref q2, .ref q3, .ref q4, .int (nI 0), .int (nI 0)])), (q2, .inl (I, (960, .inl (fun _ => 0)))), (q3, .inl (I, (18, .inl (fun _ => 0)))), (q4, .inl (I, (64, .inl (fun _ => 0)))), (q5, .inr (1, [.ref q1, .ref q6, .int (nI 0), .int (-24), .int (nI 0), .int (nI 0), .int (nI 0), .int (-1)])), (q6, .inl (I, (160, .inl (fun _ => 0)))), (q7, .inr (6, [.int (-1), .int (-1), .int (nI 0), .int (-1), .int (-1), .int (-1), .int (nI 0), .int (nI 0), .ref q8, .int (nI 0)])), (q8, .inl (I, (5, .inl (fun _ => 0)))), (q9, .inr (3, [.ref q10, .ref q1, .ref q7, .ref q12, .ref q13, .ref q14, .int (nI 0)])), (q10, .inr (0, [.ref q11])), (q11, .inl (I, (6, .inl (fun _ => 0)))), (q12, .inl (I, (205, .inl (fun _ => 0)))), (q13, .inl (I, (205, .inl (fun _ => 0)))), (q14, .inl (I, (5, .inl (fun _ => 0)))), (q15, .inr (2, [.ref q16, .ref q17, .ref q18, .ref q19, .ref q20, .ref q21, .ref q22, .ref q23, .int (nI 0), .int (nI 0), .int (nI 0)])), (q16, .inl (I, (5, .inl (fun _ => 0)))), (q17, .inl (I, (5, .inl (fun _ => 0)))), (q18, .inl (I, (5, .inl (fun _ => 0)))), (q19, .inl (I, (5, .inl (fun _ => 0)))), (q20, .inl (I, (8, .inl (fun _ => 0)))), (q21, .inl (I, (8, .inl (fun _ => 0)))), (q22, .inl (I, (8, .inl (fun _ => 0)))), (q23, .inl (I, (8, .inl (fun _ => 0)))), (q24, .inr (2, [.ref q25, .ref q26, .ref q27, .ref q28, .ref q29, .ref q30, .ref q31, .ref q32, .int (nI 0), .int (nI 0), .int (nI 0)])), (q25, .inl (I, (5, .inl (fun _ => 0)))), (q26, .inl (I, (5, .inl (fun _ => 0)))), (q27, .inl (I, (5, .inl (fun _ => 0)))), (q28, .inl (I, (5, .inl (fun _ => 0)))), (q29, .inl (I, (8, .inl (fun _ => 0)))), (q30, .inl (I, (8, .inl (fun _ => 0)))), (q31, .inl (I, (8, .inl (fun _ => 0)))), (q32, .inl (I, (8, .inl (fun _ => 0))))]) (List.append_assoc _ _ _) ?_
  refine jn_putF (k := 5) (ty := .object "GoneRed$Scene") 82 dX9_init_79 rfl lay_X9 rfl tyX9 tyX9_ok nmX9 (by decide) rfl rfl rfl fl_X9_48 (by decide +kernel) rfl rfl (Nat.le_of_ble_eq_true rfl) ?_
  refine jn_aload_n 0 0 83 dX9_init_82 rfl rfl rfl ?_
  refine jn_new (ci := 2) (N := 11) (T := TX3) [.null, .null, .null, .null, .null, .null, .null, .null, .int 0, .int 0, .int 0] tyX3 86 dX9_init_83 rfl lay_X3 tyX3_ok cl_X9_41 ib_X3 iz_X3 rfl (fun j hj => by rcases (show j = 0 ∨ j = 1 ∨ j = 2 ∨ j = 3 ∨ j = 4 ∨ j = 5 ∨ j = 6 ∨ j = 7 ∨ j = 8 ∨ j = 9 ∨ j = 10 by omega) with rfl | rfl | rfl | rfl | rfl | rfl | rfl | rfl | rfl | rfl | rfl <;> rfl) (Nat.le_of_ble_eq_true rfl) (Nat.le_of_ble_eq_true rfl) (fun q33 => ?_)
  refine jn_dup 87 dX9_init_86 rfl rfl ?_
  refine jn_callN (a := q33) (As := []) (rest := [.ref q33, .ref a]) on_X9_43 rfl (Nat.le_of_ble_eq_true rfl) 90 dX9_init_87 rfl rfl rfl rfl ⟨(Nat.le_of_ble_eq_true rfl), (Nat.le_of_ble_eq_true rfl)⟩ ⟨(Nat.le_of_ble_eq_true rfl), (Nat.le_of_ble_eq_true rfl)⟩ (cj_X3_init) (fun ws1 hw1 => ?_)
  obtain ⟨q34, q35, q36, q37, q38, q39, q40, q41, rfl⟩ := hw1
  refine jn_ws (ws' := ([] : va_W) ++ (a, .inr (7, [.ref q1, .ref q5, .ref q7, .ref q9, .ref q15, .ref q24, .null, .null, .int 0])) :: [(q1, .inr (5, [.ref q2, .ref q3, .ref q4, .int (nI 0), .int (nI 0)])), (q2, .inl (I, (960, .inl (fun _ => 0)))), (q3, .inl (I, (18, .inl (fun _ => 0)))), (q4, .inl (I, (64, .inl (fun _ => 0)))), (q5, .inr (1, [.ref q1, .ref q6, .int (nI 0), .int (-24), .int (nI 0), .int (nI 0), .int (nI 0), .int (-1)])), (q6, .inl (I, (160, .inl (fun _ => 0)))), (q7, .inr (6, [.int (-1), .int (-1), .int (nI 0), .int (-1), .int (-1), .int (-1), .int (nI 0), .int (nI 0), .ref q8, .int (nI 0)])), (q8, .inl (I, (5, .inl (fun _ => 0)))), (q9, .inr (3, [.ref q10, .ref q1, .ref q7, .ref q12, .ref q13, .ref q14, .int (nI 0)])), (q10, .inr (0, [.ref q11])), (q11, .inl (I, (6, .inl (fun _ => 0)))), (q12, .inl (I, (205, .inl (fun _ => 0)))), (q13, .inl (I, (205, .inl (fun _ => 0)))), (q14, .inl (I, (5, .inl (fun _ => 0)))), (q15, .inr (2, [.ref q16, .ref q17, .ref q18, .ref q19, .ref q20, .ref q21, .ref q22, .ref q23, .int (nI 0), .int (nI 0), .int (nI 0)])), (q16, .inl (I, (5, .inl (fun _ => 0)))), (q17, .inl (I, (5, .inl (fun _ => 0)))), (q18, .inl (I, (5, .inl (fun _ => 0)))), (q19, .inl (I, (5, .inl (fun _ => 0)))), (q20, .inl (I, (8, .inl (fun _ => 0)))), (q21, .inl (I, (8, .inl (fun _ => 0)))), (q22, .inl (I, (8, .inl (fun _ => 0)))), (q23, .inl (I, (8, .inl (fun _ => 0)))), (q24, .inr (2, [.ref q25, .ref q26, .ref q27, .ref q28, .ref q29, .ref q30, .ref q31, .ref q32, .int (nI 0), .int (nI 0), .int (nI 0)])), (q25, .inl (I, (5, .inl (fun _ => 0)))), (q26, .inl (I, (5, .inl (fun _ => 0)))), (q27, .inl (I, (5, .inl (fun _ => 0)))), (q28, .inl (I, (5, .inl (fun _ => 0)))), (q29, .inl (I, (8, .inl (fun _ => 0)))), (q30, .inl (I, (8, .inl (fun _ => 0)))), (q31, .inl (I, (8, .inl (fun _ => 0)))), (q32, .inl (I, (8, .inl (fun _ => 0)))), (q33, .inr (2, [.ref q34, .ref q35, .ref q36, .ref q37, .ref q38, .ref q39, .ref q40, .ref q41, .int (nI 0), .int (nI 0), .int (nI 0)])), (q34, .inl (I, (5, .inl (fun _ => 0)))), (q35, .inl (I, (5, .inl (fun _ => 0)))), (q36, .inl (I, (5, .inl (fun _ => 0)))), (q37, .inl (I, (5, .inl (fun _ => 0)))), (q38, .inl (I, (8, .inl (fun _ => 0)))), (q39, .inl (I, (8, .inl (fun _ => 0)))), (q40, .inl (I, (8, .inl (fun _ => 0)))), (q41, .inl (I, (8, .inl (fun _ => 0))))]) (List.append_assoc _ _ _) ?_
  refine jn_putF (k := 6) (ty := .object "GoneRed$Scene") 93 dX9_init_90 rfl lay_X9 rfl tyX9 tyX9_ok nmX9 (by decide) rfl rfl rfl fl_X9_51 (by decide +kernel) rfl rfl (Nat.le_of_ble_eq_true rfl) ?_
  refine jn_aload_n 0 0 94 dX9_init_93 rfl rfl rfl ?_
  refine jn_new (ci := 4) (N := 3) (T := TX5) [.null, .null, .null] tyX5 97 dX9_init_94 rfl lay_X5 tyX5_ok cl_X9_54 ib_X5 iz_X5 rfl (fun j hj => by rcases (show j = 0 ∨ j = 1 ∨ j = 2 by omega) with rfl | rfl | rfl <;> rfl) (Nat.le_of_ble_eq_true rfl) (Nat.le_of_ble_eq_true rfl) (fun q42 => ?_)
  refine jn_dup 98 dX9_init_97 rfl rfl ?_
  refine jn_callN (a := q42) (As := []) (rest := [.ref q42, .ref a]) on_X9_56 rfl (Nat.le_of_ble_eq_true rfl) 101 dX9_init_98 rfl rfl rfl rfl ⟨(Nat.le_of_ble_eq_true rfl), (Nat.le_of_ble_eq_true rfl)⟩ ⟨(Nat.le_of_ble_eq_true rfl), (Nat.le_of_ble_eq_true rfl)⟩ (cj_X5_init) (fun ws1 hw1 => ?_)
  obtain ⟨q43, q44, q45, rfl⟩ := hw1
  refine jn_ws (ws' := ([] : va_W) ++ (a, .inr (7, [.ref q1, .ref q5, .ref q7, .ref q9, .ref q15, .ref q24, .ref q33, .null, .int 0])) :: [(q1, .inr (5, [.ref q2, .ref q3, .ref q4, .int (nI 0), .int (nI 0)])), (q2, .inl (I, (960, .inl (fun _ => 0)))), (q3, .inl (I, (18, .inl (fun _ => 0)))), (q4, .inl (I, (64, .inl (fun _ => 0)))), (q5, .inr (1, [.ref q1, .ref q6, .int (nI 0), .int (-24), .int (nI 0), .int (nI 0), .int (nI 0), .int (-1)])), (q6, .inl (I, (160, .inl (fun _ => 0)))), (q7, .inr (6, [.int (-1), .int (-1), .int (nI 0), .int (-1), .int (-1), .int (-1), .int (nI 0), .int (nI 0), .ref q8, .int (nI 0)])), (q8, .inl (I, (5, .inl (fun _ => 0)))), (q9, .inr (3, [.ref q10, .ref q1, .ref q7, .ref q12, .ref q13, .ref q14, .int (nI 0)])), (q10, .inr (0, [.ref q11])), (q11, .inl (I, (6, .inl (fun _ => 0)))), (q12, .inl (I, (205, .inl (fun _ => 0)))), (q13, .inl (I, (205, .inl (fun _ => 0)))), (q14, .inl (I, (5, .inl (fun _ => 0)))), (q15, .inr (2, [.ref q16, .ref q17, .ref q18, .ref q19, .ref q20, .ref q21, .ref q22, .ref q23, .int (nI 0), .int (nI 0), .int (nI 0)])), (q16, .inl (I, (5, .inl (fun _ => 0)))), (q17, .inl (I, (5, .inl (fun _ => 0)))), (q18, .inl (I, (5, .inl (fun _ => 0)))), (q19, .inl (I, (5, .inl (fun _ => 0)))), (q20, .inl (I, (8, .inl (fun _ => 0)))), (q21, .inl (I, (8, .inl (fun _ => 0)))), (q22, .inl (I, (8, .inl (fun _ => 0)))), (q23, .inl (I, (8, .inl (fun _ => 0)))), (q24, .inr (2, [.ref q25, .ref q26, .ref q27, .ref q28, .ref q29, .ref q30, .ref q31, .ref q32, .int (nI 0), .int (nI 0), .int (nI 0)])), (q25, .inl (I, (5, .inl (fun _ => 0)))), (q26, .inl (I, (5, .inl (fun _ => 0)))), (q27, .inl (I, (5, .inl (fun _ => 0)))), (q28, .inl (I, (5, .inl (fun _ => 0)))), (q29, .inl (I, (8, .inl (fun _ => 0)))), (q30, .inl (I, (8, .inl (fun _ => 0)))), (q31, .inl (I, (8, .inl (fun _ => 0)))), (q32, .inl (I, (8, .inl (fun _ => 0)))), (q33, .inr (2, [.ref q34, .ref q35, .ref q36, .ref q37, .ref q38, .ref q39, .ref q40, .ref q41, .int (nI 0), .int (nI 0), .int (nI 0)])), (q34, .inl (I, (5, .inl (fun _ => 0)))), (q35, .inl (I, (5, .inl (fun _ => 0)))), (q36, .inl (I, (5, .inl (fun _ => 0)))), (q37, .inl (I, (5, .inl (fun _ => 0)))), (q38, .inl (I, (8, .inl (fun _ => 0)))), (q39, .inl (I, (8, .inl (fun _ => 0)))), (q40, .inl (I, (8, .inl (fun _ => 0)))), (q41, .inl (I, (8, .inl (fun _ => 0)))), (q42, .inr (4, [.ref q43, .ref q44, .ref q45])), (q43, .inl (I, (4, .inl (upd (upd (upd (upd (fun _ => 0) 0 (-1)) 1 (-1)) 2 (-1)) 3 (-1))))), (q44, .inl (I, (4, .inl (fun _ => 0)))), (q45, .inl (I, (160, .inl (fun _ => 0))))]) (List.append_assoc _ _ _) ?_
  refine jn_putF (k := 7) (ty := .object "GoneRed$Sheets") 104 dX9_init_101 rfl lay_X9 rfl tyX9 tyX9_ok nmX9 (by decide) rfl rfl rfl fl_X9_57 (by decide +kernel) rfl rfl (Nat.le_of_ble_eq_true rfl) ?_
  refine jn_aload_n 0 0 105 dX9_init_104 rfl rfl rfl ?_
  refine jn_iconst (nI 0) 106 dX9_init_105 rfl rfl ?_
  refine jn_putI (k := 8) (ty := .boolean) 109 dX9_init_106 rfl lay_X9 rfl tyX9 tyX9_ok nmX9 (by decide) rfl rfl fl_X9_61 (by decide +kernel) rfl rfl (Nat.le_of_ble_eq_true rfl) ?_
  refine jn_ws (jc_ws (D := D) (ad := ad)) ?_
  intro p l e s m args below meth c H locs ls hx hb hml hr hown hlk hin hts hX hK hP hD hS hA hl
  obtain ⟨-, ⟨hZT, hZH, hAa, hAs⟩, hsz⟩ := hX
  have hge : ∀ i, 1000 ≤ i → jc_ad ad [a, q1, q2, q3, q4, q5, q6, q7, q8, q9, q10, q11, q12, q13, q14, q15, q16, q17, q18, q19, q20, q21, q22, q23, q24, q25, q26, q27, q28, q29, q30, q31, q32, q33, q34, q35, q36, q37, q38, q39, q40, q41, q42, q43, q44, q45] i = ad i := fun i hi => by
    unfold jc_ad
    rw [if_neg (by omega)]
  have hAn : ∀ q, va_A ([] ++ [(a, .inr (7, [.null, .null, .null, .null, .null, .null, .null, .null, .int 0]))]) sz q → A0 q := fun q hq => by
    rcases hq with ⟨k, e, h⟩ | h
    · have hk : k < 1 := (List.getElem?_eq_some_iff.mp h).1
      have k0 : k = 0 := by omega
      subst k0
      have e1 : a = q := congrArg Prod.fst (Option.some.inj h)
      rw [← e1]
      exact hAa
    · exact hAs q (by rw [hsz]; exact h)
  have hC : jz_C p s m args c (va_A ([] ++ [(a, .inr (7, [.null, .null, .null, .null, .null, .null, .null, .null, .int 0]))]) sz) (D, (I, (jc_ad ad [a, q1, q2, q3, q4, q5, q6, q7, q8, q9, q10, q11, q12, q13, q14, q15, q16, q17, q18, q19, q20, q21, q22, q23, q24, q25, q26, q27, q28, q29, q30, q31, q32, q33, q34, q35, q36, q37, q38, q39, q40, q41, q42, q43, q44, q45], []))) mi_X9_init := ⟨hx, hb, hml, hown, hts, jq_D_of hD, hK, hZT.ad hge, (hZH.ad hge).narrow hAn, jq_A_in hD⟩
  have hfin : ∀ σ : jr_Sg, jc_I σ → jz_R p l e ({ frames := 120, cells := 45, slots := 2019, locals := 7680 } : Room) s m args below meth c (va_A ([] ++ [(a, .inr (7, [.null, .null, .null, .null, .null, .null, .null, .null, .int 0]))]) sz) 45 2019 (MQ below (jn_Q D (va_A ([] ++ [(a, .inr (7, [.null, .null, .null, .null, .null, .null, .null, .null, .int 0]))]) sz) (fun ws => ∃ (ad' : Nat → Nat) (σ : jr_Sg), (∀ i, 1000 ≤ i → ad' i = ad i) ∧ ad' 0 = a ∧ jc_I σ ∧ ws = jq_ws (D, (I, (ad', []))) σ)) args s 45 2019 (va_A ([] ++ [(a, .inr (7, [.null, .null, .null, .null, .null, .null, .null, .null, .int 0]))]) sz)) (D, (I, (jc_ad ad [a, q1, q2, q3, q4, q5, q6, q7, q8, q9, q10, q11, q12, q13, q14, q15, q16, q17, q18, q19, q20, q21, q22, q23, q24, q25, q26, q27, q28, q29, q30, q31, q32, q33, q34, q35, q36, q37, q38, q39, q40, q41, q42, q43, q44, q45], []))) mi_X9_init 147 [some (.ref 0), some (.int (nI 70))] [] σ := by
    intro σ hI H1 locs1 ls1 hP1 hS1 hl1
    refine W.vret hx hb hr (fun t ht hW => ⟨⟨rfl, _, ⟨jc_ad ad [a, q1, q2, q3, q4, q5, q6, q7, q8, q9, q10, q11, q12, q13, q14, q15, q16, q17, q18, q19, q20, q21, q22, q23, q24, q25, q26, q27, q28, q29, q30, q31, q32, q33, q34, q35, q36, q37, q38, q39, q40, q41, q42, q43, q44, q45], σ, hge, rfl, hI, rfl⟩, by rw [ht]; exact hP1, ?_⟩, hS1.F ht⟩) hS1.2.2 dX9_init_147
    exact (jq_vaD (jq_D_of hD)).weaken (fun k q _ h => jq_A_in hD q.1 h)
  refine W.widen (k := 45) (n := 2019) (Nat.le_of_ble_eq_true rfl) (Nat.le_of_ble_eq_true rfl) ?_
  refine x9_start hC ⟨Nat.le_of_ble_eq_true rfl, Nat.le_of_ble_eq_true rfl, Nat.le_of_ble_eq_true rfl, Nat.le_of_ble_eq_true rfl⟩ hfin H locs ls hP hS ⟨hl.1, hl.2.1, fun k v hk => ?_⟩
  rcases k with _ | _ | k
  · have e : Value.ref 0 = v := Option.some.inj (Option.some.inj hk)
    rw [← e]
    exact lv_at hl 0 rfl
  · cases hk
  · cases hk
