def jm_f57 : Nat → Int32 := upd (upd (upd (upd (fun _ => 0) 0 (-1)) 1 (-1)) 2 (-1)) 3 (-1)
def jm_f60 : Nat → Int32 := upd (upd (upd (upd (upd (upd (upd (upd (upd (upd (upd (upd (upd (upd (upd (upd (upd (upd (upd (upd (upd (upd (upd (upd (upd (upd (upd (upd (upd (upd (upd (upd (upd (upd (upd (upd (upd (upd (upd (upd (upd (upd (upd (upd (upd (upd (upd (upd (upd (upd (upd (upd (upd (upd (upd (upd (upd (upd (upd (upd (upd (upd (upd (upd (upd (upd (upd (upd (upd (upd (fun _ => 0) 0 (nI 119)) 1 (nI 97)) 2 (nI 114)) 3 (nI 109)) 4 (nI 115)) 5 (nI 32)) 6 (nI 103)) 7 (nI 108)) 8 (nI 97)) 9 (nI 110)) 10 (nI 99)) 11 (nI 101)) 12 (nI 115)) 13 (nI 32)) 14 (nI 42)) 15 (nI 32)) 16 (nI 52)) 17 (nI 32)) 18 (nI 43)) 19 (nI 32)) 20 (nI 115)) 21 (nI 101)) 22 (nI 101)) 23 (nI 110)) 24 (nI 32)) 25 (nI 42)) 26 (nI 32)) 27 (nI 51)) 28 (nI 32)) 29 (nI 59)) 30 (nI 32)) 31 (nI 99)) 32 (nI 111)) 33 (nI 111)) 34 (nI 108)) 35 (nI 115)) 36 (nI 32)) 37 (nI 51)) 38 (nI 32)) 39 (nI 59)) 40 (nI 32)) 41 (nI 108)) 42 (nI 111)) 43 (nI 111)) 44 (nI 107)) 45 (nI 115)) 46 (nI 32)) 47 (nI 115)) 48 (nI 101)) 49 (nI 101)) 50 (nI 110)) 51 (nI 32)) 52 (nI 111)) 53 (nI 114)) 54 (nI 32)) 55 (nI 115)) 56 (nI 101)) 57 (nI 99)) 58 (nI 111)) 59 (nI 110)) 60 (nI 100)) 61 (nI 32)) 62 (nI 60)) 63 (nI 32)) 64 (nI 109)) 65 (nI 111)) 66 (nI 114)) 67 (nI 101)) 68 (nI 32)) 69 (nI 59)
def jm_f61 : Nat → Int32 := upd (upd (upd (upd (upd (upd (upd (upd (upd (upd (upd (upd (upd (upd (upd (upd (upd (upd (upd (upd (upd (upd (upd (upd (upd (upd (upd (upd (upd (upd (upd (upd (upd (upd (upd (upd (upd (upd (upd (upd (upd (upd (upd (upd (upd (upd (upd (upd (upd (upd (upd (upd (upd (upd (upd (upd (upd (upd (upd (upd (upd (upd (upd (upd (upd (upd (upd (upd (upd (upd (upd (upd (upd (upd (upd (upd (upd (upd (upd (upd (upd (upd (upd (upd (upd (upd (upd (upd (upd (upd (upd (upd (upd (upd (upd (upd (fun _ => 0) 0 (nI 119)) 1 (nI 97)) 2 (nI 114)) 3 (nI 109)) 4 (nI 115)) 5 (nI 32)) 6 (nI 32)) 7 (nI 32)) 8 (nI 99)) 9 (nI 111)) 10 (nI 111)) 11 (nI 108)) 12 (nI 115)) 13 (nI 32)) 14 (nI 32)) 15 (nI 32)) 16 (nI 108)) 17 (nI 111)) 18 (nI 111)) 19 (nI 107)) 20 (nI 115)) 21 (nI 32)) 22 (nI 32)) 23 (nI 32)) 24 (nI 119)) 25 (nI 97)) 26 (nI 114)) 27 (nI 109)) 28 (nI 116)) 29 (nI 104)) 30 (nI 32)) 31 (nI 32)) 32 (nI 103)) 33 (nI 108)) 34 (nI 97)) 35 (nI 110)) 36 (nI 99)) 37 (nI 101)) 38 (nI 115)) 39 (nI 32)) 40 (nI 108)) 41 (nI 105)) 42 (nI 103)) 43 (nI 104)) 44 (nI 116)) 45 (nI 32)) 46 (nI 32)) 47 (nI 32)) 48 (nI 115)) 49 (nI 101)) 50 (nI 99)) 51 (nI 111)) 52 (nI 110)) 53 (nI 100)) 54 (nI 32)) 55 (nI 32)) 56 (nI 115)) 57 (nI 101)) 58 (nI 101)) 59 (nI 110)) 60 (nI 32)) 61 (nI 32)) 62 (nI 32)) 63 (nI 32)) 64 (nI 109)) 65 (nI 111)) 66 (nI 114)) 67 (nI 101)) 68 (nI 32)) 69 (nI 32)) 70 (nI 32)) 71 (nI 32)) 72 (nI 111)) 73 (nI 114)) 74 (nI 32)) 75 (nI 32)) 76 (nI 32)) 77 (nI 32)) 78 (nI 32)) 79 (nI 32)) 80 (nI 97)) 81 (nI 110)) 82 (nI 100)) 83 (nI 32)) 84 (nI 32)) 85 (nI 32)) 86 (nI 32)) 87 (nI 32)) 88 (nI 110)) 89 (nI 111)) 90 (nI 116)) 91 (nI 32)) 92 (nI 32)) 93 (nI 32)) 94 (nI 32)) 95 (nI 32)
def jm_f71 : Nat → Int32 := upd (upd (upd (upd (upd (fun _ => 0) 0 (-1)) 1 (-1)) 2 (-1)) 3 (-1)) 4 (-1)
theorem jm_60 : ∀ i : Fin 70, jm_f60 i.val = nI (lw_b i.val) := by decide +kernel
theorem jm_61 : ∀ i : Fin 96, jm_f61 i.val = iv_wl.getD i.val 0 := by decide +kernel
theorem jm_57 : ∀ i : Fin 4, jm_f57 i.val = -1 ∧ jc_s0 43 i.val = -1 := by decide +kernel
theorem jm_71 : ∀ i : Fin 5, jm_f71 i.val = -1 := by decide +kernel
def jm_f46 : Nat → Int32 := fun k => if k = 39 then (-1) else if k = 42 then (-1) else if k = 43 then (-2) else 0
def jm_s0 (σ : jr_Sg) : jr_Sg := fun c => if c < 46 then σ c else if c = 46 then jm_f46 else if c = 57 then jm_f57 else if c = 60 then jm_f60 else if c = 61 then jm_f61 else if c = 71 then jm_f71 else fun _ => 0
def jm_ad (ad : Nat → Nat) (l : List Nat) : Nat → Nat := fun i => if i < 46 then ad i else if i < 73 then l.getD (i - 46) 0 else ad i
theorem jq_mI_app (f : Nat → jr_C → Nat × va_E) : ∀ (l1 l2 : List jr_C) (i : Nat), jq_mI f i (l1 ++ l2) = jq_mI f i l1 ++ jq_mI f (i + l1.length) l2
  | [], _, _ => rfl
  | c :: l1, l2, i => by
    rw [List.cons_append, jq_mI, jq_mI, jq_mI_app f l1 l2 (i + 1), List.cons_append, List.length_cons, show i + 1 + l1.length = i + (l1.length + 1) by omega]
theorem jq_mI_cg {f f' : Nat → jr_C → Nat × va_E} : ∀ (l : List jr_C) (i : Nat), (∀ k c, l[k]? = some c → f (i + k) c = f' (i + k) c) → jq_mI f i l = jq_mI f' i l
  | [], _, _ => rfl
  | c :: l, i, h => by
    have h0 : f i c = f' i c := h 0 c rfl
    have ih := jq_mI_cg (f := f) (f' := f') l (i + 1) (fun k c hk => by
      have := h (k + 1) c hk
      rw [show i + 1 + k = i + (k + 1) by omega]
      exact this)
    rw [jq_mI, jq_mI, h0, ih]
def jq_fI (f : Nat → Option Nat → Value) : Nat → List (Option Nat) → List Value
  | _, [] => []
  | i, c :: l => f i c :: jq_fI f (i + 1) l
theorem jq_fI_eq (f : Nat → Option Nat → Value) : ∀ (l : List (Option Nat)) (i : Nat), jq_fI f i l = l.mapIdx (fun j c => f (i + j) c)
  | [], _ => rfl
  | c :: l, i => by
    rw [jq_fI, List.mapIdx_cons, jq_fI_eq f l (i + 1)]
    congr 1
    apply List.ext_getElem?
    intro k
    simp only [List.getElem?_mapIdx]
    rw [show i + 1 + k = i + (k + 1) by omega]
def jq_cellI (G : jq_G) (f : Nat → Int32) (c : jr_C) : va_E := match c with
  | .inl n => .inl (G.2.1, (n, .inl f))
  | .inr r => .inr (r.1, jq_fI (fun k o => jr_fv G.2.2.1 (f k) o) 0 r.2)
theorem jq_cellI_eq (G : jq_G) (f : Nat → Int32) (c : jr_C) : jq_cell G f c = jq_cellI G f c := by
  cases c with
  | inl n => rfl
  | inr r =>
    unfold jq_cell jq_cellI
    simp only
    rw [jq_fI_eq]
    simp only [Nat.zero_add]
theorem app_cg {a b c d : va_W} (h1 : a = c) (h2 : b = d) : a ++ b = c ++ d := by rw [h1, h2]
theorem jq_sh0_refs : ∀ c ∈ jq_sh0, (match c with | .inl _ => true | .inr r => r.2.all (fun o => match o with | some j => decide (j < 46) | none => true)) = true := by decide +kernel
theorem jq_cell_cg {D : va_G} {I : ClassId} {ad ad2 : Nat → Nat} {r1 r2 : List jr_C} {f : Nat → Int32} {c : jr_C} (hc : c ∈ jq_sh0) (h : ∀ j, j < 46 → ad2 j = ad j) : jq_cell (D, (I, (ad, r1))) f c = jq_cell (D, (I, (ad2, r2))) f c := by
  have hr := jq_sh0_refs c hc
  cases c with
  | inl n => rfl
  | inr r =>
    unfold jq_cell
    simp only
    congr 2
    apply List.ext_getElem?
    intro k
    simp only [List.getElem?_mapIdx]
    cases ho : r.2[k]? with
    | none => rfl
    | some o =>
      cases o with
      | none => rfl
      | some j =>
        have h1 := List.all_eq_true.mp hr (some j) (List.mem_of_getElem? ho)
        simp only [decide_eq_true_eq] at h1
        simp only [Option.map_some, jr_fv, h j h1]
theorem jm_ws {D : va_G} {I : ClassId} {ad : Nat → Nat} {σ : jr_Sg} {a q1 q2 q3 q4 q5 q6 q7 q8 q9 q10 q11 q12 q13 q14 q15 q16 q17 q18 q19 q20 q21 q22 q23 q24 q25 q26 : Nat} : (jq_ws (D, (I, (ad, []))) σ ++ (a, .inr (8, [.ref q1, .int 0, .ref q2, .ref q3, .ref q4, .ref q5, .int 0, .ref q6, .ref q7, .int 0, .ref q8, .ref q9, .int 0, .int 0, .int 0, .int 0, .int 0, .int 0, .ref q10, .ref q11, .ref q12, .ref q13, .ref q14, .int 0, .int 0, .int 0, .int 0, .ref q15, .ref q16, .int 0, .int 0, .int 0, .ref q17, .ref q18, .ref q19, .ref q20, .ref q21, .ref q22, .ref q23, .int (-1), .int 0, .int 0, .int (-1), .int (-2), .ref q24, .int 0, .int 0, .ref q25, .ref q26])) :: [(q1, .inl (I, (8, .inl (fun _ => 0)))), (q2, .inl (I, (5, .inl (fun _ => 0)))), (q3, .inl (I, (5, .inl (fun _ => 0)))), (q4, .inl (I, (5, .inl (fun _ => 0)))), (q5, .inl (I, (5, .inl (fun _ => 0)))), (q6, .inl (I, (24, .inl (fun _ => 0)))), (q7, .inl (I, (160, .inl (fun _ => 0)))), (q8, .inl (I, (1200, .inl (fun _ => 0)))), (q9, .inl (I, (24, .inl (fun _ => 0)))), (q10, .inl (I, (42, .inl (fun _ => 0)))), (q11, .inl (I, (4, .inl (jm_f57)))), (q12, .inl (I, (4, .inl (fun _ => 0)))), (q13, .inl (I, (160, .inl (fun _ => 0)))), (q14, .inl (I, (70, .inl (jm_f60)))), (q15, .inl (I, (96, .inl (jm_f61)))), (q16, .inl (I, (200, .inl (fun _ => 0)))), (q17, .inl (I, (200, .inl (fun _ => 0)))), (q18, .inl (I, (6, .inl (fun _ => 0)))), (q19, .inl (I, (5, .inl (fun _ => 0)))), (q20, .inl (I, (5, .inl (fun _ => 0)))), (q21, .inl (I, (5, .inl (fun _ => 0)))), (q22, .inl (I, (5, .inl (fun _ => 0)))), (q23, .inl (I, (200, .inl (fun _ => 0)))), (q24, .inl (I, (5, .inl (fun _ => 0)))), (q25, .inl (I, (5, .inl (jm_f71)))), (q26, .inl (I, (5, .inl (fun _ => 0))))] : va_W) = jq_ws (jq_up (D, (I, jm_ad ad [a, q1, q2, q3, q4, q5, q6, q7, q8, q9, q10, q11, q12, q13, q14, q15, q16, q17, q18, q19, q20, q21, q22, q23, q24, q25, q26]))) (jm_s0 σ) := by
  have e1 : jq_shp (jq_up (D, (I, jm_ad ad [a, q1, q2, q3, q4, q5, q6, q7, q8, q9, q10, q11, q12, q13, q14, q15, q16, q17, q18, q19, q20, q21, q22, q23, q24, q25, q26]))) = jq_sh0 ++ jq_mR := rfl
  have e2 : jq_shp (D, (I, (ad, []))) = jq_sh0 := rfl
  rw [jq_ws_I, jq_ws_I, e1, e2, jq_mI_app, jq_sh0_len]
  refine app_cg (jq_mI_cg _ _ (fun k c hk => ?_)) ?_
  · have hk46 : k < 46 := by
      have := (List.getElem?_eq_some_iff.mp hk).1
      rw [jq_sh0_len] at this
      exact this
    have ha : ∀ j, j < 46 → jm_ad ad [a, q1, q2, q3, q4, q5, q6, q7, q8, q9, q10, q11, q12, q13, q14, q15, q16, q17, q18, q19, q20, q21, q22, q23, q24, q25, q26] j = ad j := fun j hj => if_pos hj
    have hs : jm_s0 σ (0 + k) = σ (0 + k) := by
      unfold jm_s0
      rw [if_pos (by omega)]
    show (ad (0 + k), jq_cell (D, (I, (ad, []))) (σ (0 + k)) c) = (jm_ad ad [a, q1, q2, q3, q4, q5, q6, q7, q8, q9, q10, q11, q12, q13, q14, q15, q16, q17, q18, q19, q20, q21, q22, q23, q24, q25, q26] (0 + k), jq_cell (D, (I, (jm_ad ad [a, q1, q2, q3, q4, q5, q6, q7, q8, q9, q10, q11, q12, q13, q14, q15, q16, q17, q18, q19, q20, q21, q22, q23, q24, q25, q26], jq_mR))) (jm_s0 σ (0 + k)) c)
    rw [ha _ (by omega), hs, jq_cell_cg (List.mem_of_getElem? hk) ha]
  · rw [jq_mI_cg (f' := fun i c => (jm_ad ad [a, q1, q2, q3, q4, q5, q6, q7, q8, q9, q10, q11, q12, q13, q14, q15, q16, q17, q18, q19, q20, q21, q22, q23, q24, q25, q26] i, jq_cellI (D, (I, (jm_ad ad [a, q1, q2, q3, q4, q5, q6, q7, q8, q9, q10, q11, q12, q13, q14, q15, q16, q17, q18, q19, q20, q21, q22, q23, q24, q25, q26], jq_mR))) (jm_s0 σ i) c)) jq_mR (0 + 46) (fun k c _ => by rw [jq_cellI_eq]; rfl)]
    rfl
theorem jq_D_up {G : jr_G} {A : Nat → Prop} {σ : jr_Sg} (hD : va_D A (jq_ws (jq_up G) σ)) : jq_D (jq_up G) := by
  have key : ∀ i, i < (jq_shp (jq_up G)).length → ∃ e, (jq_ws (jq_up G) σ)[i]? = some (G.2.2 i, e) := fun i hi => ⟨_, jq_ws_get (G := jq_up G) (List.getElem?_eq_getElem hi)⟩
  refine ⟨fun i j hi hj e => ?_, ?_⟩
  · obtain ⟨e1, h1⟩ := key i hi
    obtain ⟨e2, h2⟩ := key j hj
    exact hD.1 i j _ _ h1 h2 e
  · rw [jq_up_shp]
    exact jr_small
theorem x10_loop {p : Program} {l : Launch} {e : Env} {rm : Room} {s : State} {m : MethodId} {args : Array Value} {below : List Frame} {meth : Method} {c : Code} {A : Nat → Prop} {nc ns : Nat} {Q : State → Prop} {G : jr_G} {σ9 : jr_Sg} (hC : jz_C p s m args c A (jq_up G) mi_X10_init) (fin : ∀ σ : jr_Sg, (∀ a, a ≠ 46 → a ≠ 53 → σ a = jm_s0 σ9 a) → (∀ j, σ 46 j = jm_f46 j) → (∀ k, k < 70 → σ 53 k = nI (lw_b k)) → jz_R p l e rm s m args below meth c A nc ns Q (jq_up G) mi_X10_init 1267 [some (.ref 46), some (.int (nI 70))] [] σ) : ∀ n i (σ : jr_Sg), i + n = 70 → (∀ a, a ≠ 46 → a ≠ 53 → σ a = jm_s0 σ9 a) → (∀ j, σ 46 j = jm_f46 j) → (∀ k, k < i → σ 53 k = nI (lw_b k)) → jz_R p l e rm s m args below meth c A nc ns Q (jq_up G) mi_X10_init 1243 [some (.ref 46), some (.int (nI i))] [] σ := by
  intro n
  induction n with
  | zero =>
    intro i σ hi g1 g2 g4
    have e : i = 70 := hi
    subst e
    refine jz_iload_n hC 1 1244 dX10_init_1243 rfl rfl rfl ?_
    refine jz_bipush hC (nI 70) 1246 dX10_init_1244 rfl rfl ?_
    refine jz_icmp_ge hC 1267 1249 dX10_init_1246 rfl rfl (fun q1246 => ?_) (fun z => absurd (Int32.le_refl _) z)
    exact fin σ g1 g2 g4
  | succ n ih =>
    intro i σ hi g1 g2 g4
    have hlaw : σ 60 i = nI (lw_b i) := by
      rw [g1 60 (by decide) (by decide)]
      exact jm_60 ⟨i, by omega⟩
    refine jz_iload_n hC 1 1244 dX10_init_1243 rfl rfl rfl ?_
    refine jz_bipush hC (nI 70) 1246 dX10_init_1244 rfl rfl ?_
    refine jz_icmp_ge hC 1267 1249 dX10_init_1246 rfl rfl (fun z => absurd z (nI_ge (b := 70) (by omega) (by decide))) (fun q1246 => ?_)
    refine jz_aload_n hC 0 1250 dX10_init_1249 rfl rfl rfl ?_
    refine zf_X10_28 hC 1253 dX10_init_1250 rfl rfl rfl rfl ?_
    refine jz_iload_n hC 1 1254 dX10_init_1253 rfl rfl rfl ?_
    refine jz_aload_n hC 0 1255 dX10_init_1254 rfl rfl rfl ?_
    refine zf_X10_49 hC 1258 dX10_init_1255 rfl rfl rfl rfl ?_
    refine jz_iload_n hC 1 1259 dX10_init_1258 rfl rfl rfl ?_
    refine jz_iale hC (k := i) rfl rfl (by omega) hlaw 1260 dX10_init_1259 rfl ?_
    refine jz_iast hC rfl rfl (by omega) 1261 dX10_init_1260 rfl ?_
    refine jz_iinc hC (v := nI (i + 1)) (L' := [_, _]) 1264 dX10_init_1261 rfl rfl (nI_1 i) (by decide) rfl ?_
    refine jz_goto hC 1243 dX10_init_1264 rfl ?_
    refine ih (i + 1) _ (by omega) (fun a h5 h6 => ?_) (fun j => g2 j) (fun k hk => ?_)
    · simp only [jr_up]
      rw [if_neg h6]
      exact g1 a h5 h6
    · show upd (σ 53) i _ k = _
      by_cases z : k = i
      · subst z
        exact pk_us
      · rw [pk_un z]
        exact g4 k (by omega)
theorem jc_start {σ9 σ σ' : jr_Sg} {w0 w1 w2 : List Nat} {T : Nat → Nat → List Nat} (hT : ti_C T 1 σ9) (hR : ti_R T 1 σ') (h52 : σ9 5 2 = 0) (hI : ∀ a, a ∉ [1, 2, 3, 5, 6] → σ9 a = jc_s0 a) (g1 : ∀ a, a ≠ 46 → a ≠ 53 → σ a = jm_s0 σ9 a) (g2 : ∀ j, j ≠ 9 → σ 46 j = jm_f46 j)
  (s1 : ∀ a, a ∉ [46, 54, 55, 62] → σ' a = σ a) (s2 : ∀ j, j ∉ [9, 12, 23, 24, 25, 26, 29, 30, 31] → σ' 46 j = σ 46 j) (s3 : σ' 46 9 = 0) : IV σ' := by
  have c9 : ∀ a, a < 46 → σ' a = σ9 a := fun a ha => by
    rw [s1 a (by simp only [List.mem_cons, not_or, List.not_mem_nil, not_false_eq_true, and_true]; omega), g1 a (by omega) (by omega)]
    unfold jm_s0
    rw [if_pos ha]
  have c0 : ∀ a, a < 46 → a ∉ [1, 2, 3, 5, 6] → σ' a = jc_s0 a := fun a ha hb => (c9 a ha).trans (hI a hb)
  have f : ∀ j, j ∉ [9, 12, 23, 24, 25, 26, 29, 30, 31] → j ≠ 9 → σ' 46 j = jm_f46 j := fun j hj h9 => (s2 j hj).trans (g2 j h9)
  have e : ∀ a, a ∉ [46, 54, 55, 62] → a ≠ 46 → a ≠ 53 → σ' a = jm_s0 σ9 a := fun a h1 h2 h3 => (s1 a h1).trans (g1 a h2 h3)
  refine ⟨T, 1, 0, 0, fun _ => 0, fun _ => 0, 0, 0, ?_, hR, ⟨⟨?_, by decide, ?_, by decide, fun f hf => absurd hf (Nat.not_lt_zero f)⟩, ⟨?_, by decide, ?_, by decide, fun f hf => absurd hf (Nat.not_lt_zero f)⟩, ?_, ?_, by decide, fun f hf => absurd hf (Nat.not_lt_zero f), fun t ht => ?_, fun f hf => absurd hf (Nat.not_lt_zero f)⟩, ⟨?_, s3, by decide, fun i hi => absurd hi (Nat.not_lt_zero i)⟩, Or.inl ⟨?_, ?_⟩, fun t ht => ?_, ⟨?_, ?_, ?_, ⟨0, by decide, ?_⟩, fun t ht => ?_⟩, fun i hi => ?_⟩
  · unfold ti_C
    rw [c9 1 (by decide), c9 2 (by decide), c9 3 (by decide)]
    exact hT
  · rw [c0 15 (by decide) (by decide)]
    rfl
  · rw [c0 15 (by decide) (by decide)]
    rfl
  · exact f 1 (by decide) (by decide)
  · exact f 6 (by decide) (by decide)
  · rw [c0 15 (by decide) (by decide)]
    rfl
  · exact f 13 (by decide) (by decide)
  · rw [c0 20 (by decide) (by decide), e 47 (by decide) (by decide) (by decide)]
    exact ⟨rfl, 0, by decide, rfl⟩
  · rw [c9 5 (by decide)]
    exact h52
  · rw [c0 0 (by decide) (by decide)]
    rfl
  · exact f 14 (by decide) (by decide)
  · rw [c0 43 (by decide) (by decide), c0 44 (by decide) (by decide), e 57 (by decide) (by decide) (by decide), e 58 (by decide) (by decide) (by decide)]
    obtain ⟨k1, k2⟩ := jm_57 ⟨t, ht⟩
    exact ⟨k2.trans k1.symm, rfl, Or.inl k1, 0, by decide, rfl, fun i hi => absurd hi (Nat.not_lt_zero i)⟩
  · exact f 39 (by decide) (by decide)
  · exact f 42 (by decide) (by decide)
  · exact f 45 (by decide) (by decide)
  · exact f 46 (by decide) (by decide)
  · rw [e 70 (by decide) (by decide) (by decide), e 71 (by decide) (by decide) (by decide)]
    exact ⟨rfl, jm_71 ⟨t, ht⟩⟩
  · rw [e 61 (by decide) (by decide) (by decide)]
    exact jm_61 ⟨i, hi⟩
theorem tq_wf {b : Nat → Nat} {tp : Nat} {w0 w1 w2 : List Nat} (h : tq b tp 3 0 [] [] (.inr [w0, w1, w2])) : ev_wf 0 w0 ∧ ev_wf 0 w1 ∧ ev_wf 0 w2 := by
  rcases h with ⟨-, h⟩ | ⟨-, ⟨q, -, h⟩ | ⟨p0, v0, -, u0, -, -, h⟩⟩
  · cases h
  · cases h
  rcases h with ⟨-, h⟩ | ⟨-, ⟨q, -, h⟩ | ⟨p1, v1, -, u1, -, -, h⟩⟩
  · cases h
  · cases h
  rcases h with ⟨-, h⟩ | ⟨-, ⟨q, -, h⟩ | ⟨p2, v2, -, u2, -, -, h⟩⟩
  · cases h
  · cases h
  rcases h with ⟨-, h⟩ | ⟨-, h⟩
  · have e := Sum.inr.inj h
    have e0 : w0 = v0 := (List.cons.inj e).1
    have e1 : w1 = v1 := (List.cons.inj (List.cons.inj e).2).1
    have e2 : w2 = v2 := (List.cons.inj (List.cons.inj (List.cons.inj e).2).2).1
    subst e0
    subst e1
    subst e2
    exact ⟨u0, u1, u2⟩
  · cases h
theorem tq_len {tp : Nat} {b : Nat → Nat} {w0 w1 w2 : List Nat} (h : tq b tp 3 0 [] [] (.inr [w0, w1, w2])) (htp : tp ≤ 160 := by decide) : w0.length + w1.length + w2.length ≤ 160 := by
  rcases h with ⟨-, h⟩ | ⟨-, ⟨q, -, h⟩ | ⟨p0, v0, -, -, -, -, h⟩⟩
  · cases h
  · cases h
  rcases h with ⟨-, h⟩ | ⟨-, ⟨q, -, h⟩ | ⟨p1, v1, -, -, -, -, h⟩⟩
  · cases h
  · cases h
  rcases h with ⟨-, h⟩ | ⟨-, ⟨q, -, h⟩ | ⟨p2, v2, -, -, u2, l2, h⟩⟩
  · cases h
  · cases h
  rcases h with ⟨-, h⟩ | ⟨-, h⟩
  · have e := Sum.inr.inj h
    have e0 : w0 = v0 := (List.cons.inj e).1
    have e1 : w1 = v1 := (List.cons.inj (List.cons.inj e).2).1
    have e2 : w2 = v2 := (List.cons.inj (List.cons.inj (List.cons.inj e).2).2).1
    subst e0
    subst e1
    subst e2
    simp only [List.nil_append, List.length_append] at l2
    omega
  · cases h
theorem x10_end {p : Program} {l : Launch} {e : Env} {rm : Room} {s : State} {m : MethodId} {args : Array Value} {below : List Frame} {meth : Method} {c : Code} {A : Nat → Prop} {nc ns : Nat} {Q : State → Prop} {G : jr_G} {σ9 : jr_Sg} (hC : jz_C p s m args c A (jq_up G) mi_X10_init) (hR : 100 ≤ rm.frames ∧ 6400 ≤ rm.locals ∧ nc ≤ rm.cells ∧ ns ≤ rm.slots) (hI : jc_I σ9) (fin : ∀ σ : jr_Sg, IV σ → jz_R p l e rm s m args below meth c A nc ns Q (jq_up G) mi_X10_init 1278 [some (.ref 46), some (.int (nI 70))] [] σ) (σ : jr_Sg) (g1 : ∀ a, a ≠ 46 → a ≠ 53 → σ a = jm_s0 σ9 a) (g2 : ∀ j, σ 46 j = jm_f46 j) (g4 : ∀ k, k < 70 → σ 53 k = nI (lw_b k)) : jz_R p l e rm s m args below meth c A nc ns Q (jq_up G) mi_X10_init 1267 [some (.ref 46), some (.int (nI 70))] [] σ := by
  obtain ⟨⟨w0, w1, w2, htq, hTC⟩, h52, hIa⟩ := hI
  refine jz_aload_n hC 0 1268 dX10_init_1267 rfl rfl rfl ?_
  refine jz_bipush hC (nI 70) 1270 dX10_init_1268 rfl rfl ?_
  refine zp_X10_98 hC 1273 dX10_init_1270 rfl rfl rfl rfl ?_
  refine jz_aload_n hC 0 1274 dX10_init_1273 rfl rfl rfl ?_
  refine jz_callV (d := 20) hC ok_X10_101 rfl rfl rfl (Nat.le_of_ble_eq_true rfl) ⟨by omega, by omega, hR.2.2.1, hR.2.2.2⟩ 1277 dX10_init_1274 rfl rfl (jq_M_mono jz_k_to (jq_of (wp_rtext (d := 14) (b := lw_b) (tp := 70) (n := 0) (R := .inr [w0, w1, w2]) ⟨rfl, by decide, fun i hi => ⟨g4 i hi, by have := (lw_b_ok ⟨i, hi⟩).2; simp only at this; omega⟩, fun i hi => (by show σ 61 i = _; rw [g1 61 (by decide) (by decide)]; exact jm_61 ⟨i, hi⟩)⟩ ((up46 (by decide)).trans (g2 12)) (by decide) htq (fun σ2 q eq s1 s2 s3 s4 s5 s6 => ?_) (fun σ2 v0 v1 v2 eq s1 s2 s3 s4 s5 s6 k1 k2 k3 k4 k5 => ?_))))
  · cases eq
  · have eL := Sum.inr.inj eq
    have e0 : w0 = v0 := (List.cons.inj eL).1
    have e1 : w1 = v1 := (List.cons.inj (List.cons.inj eL).2).1
    have e2 : w2 = v2 := (List.cons.inj (List.cons.inj (List.cons.inj eL).2).2).1
    subst e0
    subst e1
    subst e2
    have hw := tq_wf htq
    have hl := tq_len htq
    refine jz_pop hC 1278 dX10_init_1277 rfl rfl ?_
    refine fin σ2 (jc_start (w0 := w0) (w1 := w1) (w2 := w2) (T := tx_T (fun _ _ => []) 0 w0 w1 w2) (hTC _) ?_ h52 hIa (fun a h1 h2 => ?_) (fun j hj => ?_) s1 s2 s3)
    · refine tx_R (T := fun _ _ => []) (σ := σ) ⟨g2 12, by decide, fun t h => absurd h (Nat.not_lt_zero t)⟩ (by decide) s6 s4 s5 hl hw.1 hw.2.1 hw.2.2 k1 k2 k3 k4 k5
    · unfold jr_up
      rw [if_neg h1]
      exact g1 a h1 h2
    · exact (up46 hj).trans (g2 j)
theorem x10_start {p : Program} {l : Launch} {e : Env} {rm : Room} {s : State} {m : MethodId} {args : Array Value} {below : List Frame} {meth : Method} {c : Code} {A : Nat → Prop} {nc ns : Nat} {Q : State → Prop} {G : jr_G} {σ9 : jr_Sg} (hC : jz_C p s m args c A (jq_up G) mi_X10_init) (hR : 100 ≤ rm.frames ∧ 6400 ≤ rm.locals ∧ nc ≤ rm.cells ∧ ns ≤ rm.slots) (hI : jc_I σ9) (fin : ∀ σ : jr_Sg, IV σ → jz_R p l e rm s m args below meth c A nc ns Q (jq_up G) mi_X10_init 1278 [some (.ref 46), some (.int (nI 70))] [] σ) : jz_R p l e rm s m args below meth c A nc ns Q (jq_up G) mi_X10_init 1241 [some (.ref 46), none] [] (jm_s0 σ9) := by
  refine jz_iconst hC (nI 0) 1242 dX10_init_1241 rfl rfl ?_
  refine jz_istore_n hC 1 (L' := [_, _]) 1243 dX10_init_1242 rfl rfl (by decide) rfl ?_
  exact x10_loop hC (fun σ g1 g2 g4 => x10_end hC hR hI fin σ g1 g2 g4) 70 0 (jm_s0 σ9) rfl (fun _ _ _ => rfl) (fun _ => rfl) (fun k hk => absurd hk (Nat.not_lt_zero k))
set_option maxHeartbeats 4000000 in
theorem x10_alloc {D : va_G} {I : ClassId} {A : Nat → Prop} {B : va_W → Prop} {E : State → Prop} {pre : va_W} {a : Nat} (tail : ∀ (nc ns q1 q2 q3 q4 q5 q6 q7 q8 q9 q10 q11 q12 q13 q14 q15 q16 q17 q18 q19 q20 q21 q22 q23 q24 q25 q26 : Nat), nc ≤ 26 → ns ≤ 2453 → jn_R D I A B E mi_X10_init ({ frames := 120, cells := 26, slots := 2453, locals := 7680 } : Room) 26 2453 nc ns (pre ++ (a, .inr (8, [.ref q1, .int 0, .ref q2, .ref q3, .ref q4, .ref q5, .int 0, .ref q6, .ref q7, .int 0, .ref q8, .ref q9, .int 0, .int 0, .int 0, .int 0, .int 0, .int 0, .ref q10, .ref q11, .ref q12, .ref q13, .ref q14, .int 0, .int 0, .int 0, .int 0, .ref q15, .ref q16, .int 0, .int 0, .int 0, .ref q17, .ref q18, .ref q19, .ref q20, .ref q21, .ref q22, .ref q23, .int (-1), .int 0, .int 0, .int (-1), .int (-2), .ref q24, .int 0, .int 0, .ref q25, .ref q26])) :: [(q1, .inl (I, (8, .inl (fun _ => 0)))), (q2, .inl (I, (5, .inl (fun _ => 0)))), (q3, .inl (I, (5, .inl (fun _ => 0)))), (q4, .inl (I, (5, .inl (fun _ => 0)))), (q5, .inl (I, (5, .inl (fun _ => 0)))), (q6, .inl (I, (24, .inl (fun _ => 0)))), (q7, .inl (I, (160, .inl (fun _ => 0)))), (q8, .inl (I, (1200, .inl (fun _ => 0)))), (q9, .inl (I, (24, .inl (fun _ => 0)))), (q10, .inl (I, (42, .inl (fun _ => 0)))), (q11, .inl (I, (4, .inl (jm_f57)))), (q12, .inl (I, (4, .inl (fun _ => 0)))), (q13, .inl (I, (160, .inl (fun _ => 0)))), (q14, .inl (I, (70, .inl (jm_f60)))), (q15, .inl (I, (96, .inl (jm_f61)))), (q16, .inl (I, (200, .inl (fun _ => 0)))), (q17, .inl (I, (200, .inl (fun _ => 0)))), (q18, .inl (I, (6, .inl (fun _ => 0)))), (q19, .inl (I, (5, .inl (fun _ => 0)))), (q20, .inl (I, (5, .inl (fun _ => 0)))), (q21, .inl (I, (5, .inl (fun _ => 0)))), (q22, .inl (I, (5, .inl (fun _ => 0)))), (q23, .inl (I, (200, .inl (fun _ => 0)))), (q24, .inl (I, (5, .inl (fun _ => 0)))), (q25, .inl (I, (5, .inl (jm_f71)))), (q26, .inl (I, (5, .inl (fun _ => 0))))]) 1241 (lv_args 0 [.ref a]) []) : jn_R D I A B E mi_X10_init ({ frames := 120, cells := 26, slots := 2453, locals := 7680 } : Room) 26 2453 0 0 (pre ++ [(a, .inr (8, [.null, .int 0, .null, .null, .null, .null, .int 0, .null, .null, .int 0, .null, .null, .int 0, .int 0, .int 0, .int 0, .int 0, .int 0, .null, .null, .null, .null, .null, .int 0, .int 0, .int 0, .int 0, .null, .null, .int 0, .int 0, .int 0, .null, .null, .null, .null, .null, .null, .null, .int 0, .int 0, .int 0, .int 0, .int 0, .null, .int 0, .int 0, .null, .null]))]) 0 (lv_args 0 [.ref a]) [] := by
  refine jn_aload_n 0 0 1 dX10_init_0 rfl rfl rfl ?_
  refine jn_obj 4 dX10_init_1 rfl oo_X10 (Nat.le_of_ble_eq_true rfl) (Nat.le_of_ble_eq_true rfl) ?_
  refine jn_aload_n 0 0 5 dX10_init_4 rfl rfl rfl ?_
  refine jn_bipush (nI 8) 7 dX10_init_5 rfl rfl ?_
  refine jn_newa (N := 8) 9 dX10_init_7 rfl rfl (Nat.le_of_ble_eq_true rfl) (Nat.le_of_ble_eq_true rfl) (Nat.le_of_ble_eq_true rfl) (fun q1 => ?_)
  refine jn_ws (ws' := pre ++ (a, .inr (8, [.null, .int 0, .null, .null, .null, .null, .int 0, .null, .null, .int 0, .null, .null, .int 0, .int 0, .int 0, .int 0, .int 0, .int 0, .null, .null, .null, .null, .null, .int 0, .int 0, .int 0, .int 0, .null, .null, .int 0, .int 0, .int 0, .null, .null, .null, .null, .null, .null, .null, .int 0, .int 0, .int 0, .int 0, .int 0, .null, .int 0, .int 0, .null, .null])) :: [(q1, .inl (I, (8, .inl (fun _ => 0))))]) (List.append_assoc _ _ _) ?_
  refine jn_putF (k := 0) (ty := .array .int) 12 dX10_init_9 rfl lay_X10 rfl tyX10 tyX10_ok nmX10 (by decide) rfl rfl rfl fl_X10_7 (by decide +kernel) rfl rfl (Nat.le_of_ble_eq_true rfl) ?_
  refine jn_aload_n 0 0 13 dX10_init_12 rfl rfl rfl ?_
  refine jn_iconst (nI 5) 14 dX10_init_13 rfl rfl ?_
  refine jn_newa (N := 5) 16 dX10_init_14 rfl rfl (Nat.le_of_ble_eq_true rfl) (Nat.le_of_ble_eq_true rfl) (Nat.le_of_ble_eq_true rfl) (fun q2 => ?_)
  refine jn_ws (ws' := pre ++ (a, .inr (8, [.ref q1, .int 0, .null, .null, .null, .null, .int 0, .null, .null, .int 0, .null, .null, .int 0, .int 0, .int 0, .int 0, .int 0, .int 0, .null, .null, .null, .null, .null, .int 0, .int 0, .int 0, .int 0, .null, .null, .int 0, .int 0, .int 0, .null, .null, .null, .null, .null, .null, .null, .int 0, .int 0, .int 0, .int 0, .int 0, .null, .int 0, .int 0, .null, .null])) :: [(q1, .inl (I, (8, .inl (fun _ => 0)))), (q2, .inl (I, (5, .inl (fun _ => 0))))]) (List.append_assoc _ _ _) ?_
  refine jn_putF (k := 2) (ty := .array .int) 19 dX10_init_16 rfl lay_X10 rfl tyX10 tyX10_ok nmX10 (by decide) rfl rfl rfl fl_X10_13 (by decide +kernel) rfl rfl (Nat.le_of_ble_eq_true rfl) ?_
  refine jn_aload_n 0 0 20 dX10_init_19 rfl rfl rfl ?_
  refine jn_iconst (nI 5) 21 dX10_init_20 rfl rfl ?_
  refine jn_newa (N := 5) 23 dX10_init_21 rfl rfl (Nat.le_of_ble_eq_true rfl) (Nat.le_of_ble_eq_true rfl) (Nat.le_of_ble_eq_true rfl) (fun q3 => ?_)
  refine jn_ws (ws' := pre ++ (a, .inr (8, [.ref q1, .int 0, .ref q2, .null, .null, .null, .int 0, .null, .null, .int 0, .null, .null, .int 0, .int 0, .int 0, .int 0, .int 0, .int 0, .null, .null, .null, .null, .null, .int 0, .int 0, .int 0, .int 0, .null, .null, .int 0, .int 0, .int 0, .null, .null, .null, .null, .null, .null, .null, .int 0, .int 0, .int 0, .int 0, .int 0, .null, .int 0, .int 0, .null, .null])) :: [(q1, .inl (I, (8, .inl (fun _ => 0)))), (q2, .inl (I, (5, .inl (fun _ => 0)))), (q3, .inl (I, (5, .inl (fun _ => 0))))]) (List.append_assoc _ _ _) ?_
  refine jn_putF (k := 3) (ty := .array .int) 26 dX10_init_23 rfl lay_X10 rfl tyX10 tyX10_ok nmX10 (by decide) rfl rfl rfl fl_X10_16 (by decide +kernel) rfl rfl (Nat.le_of_ble_eq_true rfl) ?_
  refine jn_aload_n 0 0 27 dX10_init_26 rfl rfl rfl ?_
  refine jn_iconst (nI 5) 28 dX10_init_27 rfl rfl ?_
  refine jn_newa (N := 5) 30 dX10_init_28 rfl rfl (Nat.le_of_ble_eq_true rfl) (Nat.le_of_ble_eq_true rfl) (Nat.le_of_ble_eq_true rfl) (fun q4 => ?_)
  refine jn_ws (ws' := pre ++ (a, .inr (8, [.ref q1, .int 0, .ref q2, .ref q3, .null, .null, .int 0, .null, .null, .int 0, .null, .null, .int 0, .int 0, .int 0, .int 0, .int 0, .int 0, .null, .null, .null, .null, .null, .int 0, .int 0, .int 0, .int 0, .null, .null, .int 0, .int 0, .int 0, .null, .null, .null, .null, .null, .null, .null, .int 0, .int 0, .int 0, .int 0, .int 0, .null, .int 0, .int 0, .null, .null])) :: [(q1, .inl (I, (8, .inl (fun _ => 0)))), (q2, .inl (I, (5, .inl (fun _ => 0)))), (q3, .inl (I, (5, .inl (fun _ => 0)))), (q4, .inl (I, (5, .inl (fun _ => 0))))]) (List.append_assoc _ _ _) ?_
  refine jn_putF (k := 4) (ty := .array .int) 33 dX10_init_30 rfl lay_X10 rfl tyX10 tyX10_ok nmX10 (by decide) rfl rfl rfl fl_X10_19 (by decide +kernel) rfl rfl (Nat.le_of_ble_eq_true rfl) ?_
  refine jn_aload_n 0 0 34 dX10_init_33 rfl rfl rfl ?_
  refine jn_iconst (nI 5) 35 dX10_init_34 rfl rfl ?_
  refine jn_newa (N := 5) 37 dX10_init_35 rfl rfl (Nat.le_of_ble_eq_true rfl) (Nat.le_of_ble_eq_true rfl) (Nat.le_of_ble_eq_true rfl) (fun q5 => ?_)
  refine jn_ws (ws' := pre ++ (a, .inr (8, [.ref q1, .int 0, .ref q2, .ref q3, .ref q4, .null, .int 0, .null, .null, .int 0, .null, .null, .int 0, .int 0, .int 0, .int 0, .int 0, .int 0, .null, .null, .null, .null, .null, .int 0, .int 0, .int 0, .int 0, .null, .null, .int 0, .int 0, .int 0, .null, .null, .null, .null, .null, .null, .null, .int 0, .int 0, .int 0, .int 0, .int 0, .null, .int 0, .int 0, .null, .null])) :: [(q1, .inl (I, (8, .inl (fun _ => 0)))), (q2, .inl (I, (5, .inl (fun _ => 0)))), (q3, .inl (I, (5, .inl (fun _ => 0)))), (q4, .inl (I, (5, .inl (fun _ => 0)))), (q5, .inl (I, (5, .inl (fun _ => 0))))]) (List.append_assoc _ _ _) ?_
  refine jn_putF (k := 5) (ty := .array .int) 40 dX10_init_37 rfl lay_X10 rfl tyX10 tyX10_ok nmX10 (by decide) rfl rfl rfl fl_X10_22 (by decide +kernel) rfl rfl (Nat.le_of_ble_eq_true rfl) ?_
  refine jn_aload_n 0 0 41 dX10_init_40 rfl rfl rfl ?_
  refine jn_bipush (nI 24) 43 dX10_init_41 rfl rfl ?_
  refine jn_newa (N := 24) 45 dX10_init_43 rfl rfl (Nat.le_of_ble_eq_true rfl) (Nat.le_of_ble_eq_true rfl) (Nat.le_of_ble_eq_true rfl) (fun q6 => ?_)
  refine jn_ws (ws' := pre ++ (a, .inr (8, [.ref q1, .int 0, .ref q2, .ref q3, .ref q4, .ref q5, .int 0, .null, .null, .int 0, .null, .null, .int 0, .int 0, .int 0, .int 0, .int 0, .int 0, .null, .null, .null, .null, .null, .int 0, .int 0, .int 0, .int 0, .null, .null, .int 0, .int 0, .int 0, .null, .null, .null, .null, .null, .null, .null, .int 0, .int 0, .int 0, .int 0, .int 0, .null, .int 0, .int 0, .null, .null])) :: [(q1, .inl (I, (8, .inl (fun _ => 0)))), (q2, .inl (I, (5, .inl (fun _ => 0)))), (q3, .inl (I, (5, .inl (fun _ => 0)))), (q4, .inl (I, (5, .inl (fun _ => 0)))), (q5, .inl (I, (5, .inl (fun _ => 0)))), (q6, .inl (I, (24, .inl (fun _ => 0))))]) (List.append_assoc _ _ _) ?_
  refine jn_putF (k := 7) (ty := .array .int) 48 dX10_init_45 rfl lay_X10 rfl tyX10 tyX10_ok nmX10 (by decide) rfl rfl rfl fl_X10_25 (by decide +kernel) rfl rfl (Nat.le_of_ble_eq_true rfl) ?_
  refine jn_aload_n 0 0 49 dX10_init_48 rfl rfl rfl ?_
  refine jn_sipush (nI 160) 52 dX10_init_49 rfl rfl ?_
  refine jn_newa (N := 160) 54 dX10_init_52 rfl rfl (Nat.le_of_ble_eq_true rfl) (Nat.le_of_ble_eq_true rfl) (Nat.le_of_ble_eq_true rfl) (fun q7 => ?_)
  refine jn_ws (ws' := pre ++ (a, .inr (8, [.ref q1, .int 0, .ref q2, .ref q3, .ref q4, .ref q5, .int 0, .ref q6, .null, .int 0, .null, .null, .int 0, .int 0, .int 0, .int 0, .int 0, .int 0, .null, .null, .null, .null, .null, .int 0, .int 0, .int 0, .int 0, .null, .null, .int 0, .int 0, .int 0, .null, .null, .null, .null, .null, .null, .null, .int 0, .int 0, .int 0, .int 0, .int 0, .null, .int 0, .int 0, .null, .null])) :: [(q1, .inl (I, (8, .inl (fun _ => 0)))), (q2, .inl (I, (5, .inl (fun _ => 0)))), (q3, .inl (I, (5, .inl (fun _ => 0)))), (q4, .inl (I, (5, .inl (fun _ => 0)))), (q5, .inl (I, (5, .inl (fun _ => 0)))), (q6, .inl (I, (24, .inl (fun _ => 0)))), (q7, .inl (I, (160, .inl (fun _ => 0))))]) (List.append_assoc _ _ _) ?_
  refine jn_putF (k := 8) (ty := .array .int) 57 dX10_init_54 rfl lay_X10 rfl tyX10 tyX10_ok nmX10 (by decide) rfl rfl rfl fl_X10_28 (by decide +kernel) rfl rfl (Nat.le_of_ble_eq_true rfl) ?_
  refine jn_aload_n 0 0 58 dX10_init_57 rfl rfl rfl ?_
  refine jn_sipush (nI 1200) 61 dX10_init_58 rfl rfl ?_
  refine jn_newa (N := 1200) 63 dX10_init_61 rfl rfl (Nat.le_of_ble_eq_true rfl) (Nat.le_of_ble_eq_true rfl) (Nat.le_of_ble_eq_true rfl) (fun q8 => ?_)
  refine jn_ws (ws' := pre ++ (a, .inr (8, [.ref q1, .int 0, .ref q2, .ref q3, .ref q4, .ref q5, .int 0, .ref q6, .ref q7, .int 0, .null, .null, .int 0, .int 0, .int 0, .int 0, .int 0, .int 0, .null, .null, .null, .null, .null, .int 0, .int 0, .int 0, .int 0, .null, .null, .int 0, .int 0, .int 0, .null, .null, .null, .null, .null, .null, .null, .int 0, .int 0, .int 0, .int 0, .int 0, .null, .int 0, .int 0, .null, .null])) :: [(q1, .inl (I, (8, .inl (fun _ => 0)))), (q2, .inl (I, (5, .inl (fun _ => 0)))), (q3, .inl (I, (5, .inl (fun _ => 0)))), (q4, .inl (I, (5, .inl (fun _ => 0)))), (q5, .inl (I, (5, .inl (fun _ => 0)))), (q6, .inl (I, (24, .inl (fun _ => 0)))), (q7, .inl (I, (160, .inl (fun _ => 0)))), (q8, .inl (I, (1200, .inl (fun _ => 0))))]) (List.append_assoc _ _ _) ?_
  refine jn_putF (k := 10) (ty := .array .int) 66 dX10_init_63 rfl lay_X10 rfl tyX10 tyX10_ok nmX10 (by decide) rfl rfl rfl fl_X10_31 (by decide +kernel) rfl rfl (Nat.le_of_ble_eq_true rfl) ?_
  refine jn_aload_n 0 0 67 dX10_init_66 rfl rfl rfl ?_
  refine jn_bipush (nI 24) 69 dX10_init_67 rfl rfl ?_
  refine jn_newa (N := 24) 71 dX10_init_69 rfl rfl (Nat.le_of_ble_eq_true rfl) (Nat.le_of_ble_eq_true rfl) (Nat.le_of_ble_eq_true rfl) (fun q9 => ?_)
  refine jn_ws (ws' := pre ++ (a, .inr (8, [.ref q1, .int 0, .ref q2, .ref q3, .ref q4, .ref q5, .int 0, .ref q6, .ref q7, .int 0, .ref q8, .null, .int 0, .int 0, .int 0, .int 0, .int 0, .int 0, .null, .null, .null, .null, .null, .int 0, .int 0, .int 0, .int 0, .null, .null, .int 0, .int 0, .int 0, .null, .null, .null, .null, .null, .null, .null, .int 0, .int 0, .int 0, .int 0, .int 0, .null, .int 0, .int 0, .null, .null])) :: [(q1, .inl (I, (8, .inl (fun _ => 0)))), (q2, .inl (I, (5, .inl (fun _ => 0)))), (q3, .inl (I, (5, .inl (fun _ => 0)))), (q4, .inl (I, (5, .inl (fun _ => 0)))), (q5, .inl (I, (5, .inl (fun _ => 0)))), (q6, .inl (I, (24, .inl (fun _ => 0)))), (q7, .inl (I, (160, .inl (fun _ => 0)))), (q8, .inl (I, (1200, .inl (fun _ => 0)))), (q9, .inl (I, (24, .inl (fun _ => 0))))]) (List.append_assoc _ _ _) ?_
  refine jn_putF (k := 11) (ty := .array .int) 74 dX10_init_71 rfl lay_X10 rfl tyX10 tyX10_ok nmX10 (by decide) rfl rfl rfl fl_X10_34 (by decide +kernel) rfl rfl (Nat.le_of_ble_eq_true rfl) ?_
  refine jn_aload_n 0 0 75 dX10_init_74 rfl rfl rfl ?_
  refine jn_bipush (nI 42) 77 dX10_init_75 rfl rfl ?_
  refine jn_newa (N := 42) 79 dX10_init_77 rfl rfl (Nat.le_of_ble_eq_true rfl) (Nat.le_of_ble_eq_true rfl) (Nat.le_of_ble_eq_true rfl) (fun q10 => ?_)
  refine jn_ws (ws' := pre ++ (a, .inr (8, [.ref q1, .int 0, .ref q2, .ref q3, .ref q4, .ref q5, .int 0, .ref q6, .ref q7, .int 0, .ref q8, .ref q9, .int 0, .int 0, .int 0, .int 0, .int 0, .int 0, .null, .null, .null, .null, .null, .int 0, .int 0, .int 0, .int 0, .null, .null, .int 0, .int 0, .int 0, .null, .null, .null, .null, .null, .null, .null, .int 0, .int 0, .int 0, .int 0, .int 0, .null, .int 0, .int 0, .null, .null])) :: [(q1, .inl (I, (8, .inl (fun _ => 0)))), (q2, .inl (I, (5, .inl (fun _ => 0)))), (q3, .inl (I, (5, .inl (fun _ => 0)))), (q4, .inl (I, (5, .inl (fun _ => 0)))), (q5, .inl (I, (5, .inl (fun _ => 0)))), (q6, .inl (I, (24, .inl (fun _ => 0)))), (q7, .inl (I, (160, .inl (fun _ => 0)))), (q8, .inl (I, (1200, .inl (fun _ => 0)))), (q9, .inl (I, (24, .inl (fun _ => 0)))), (q10, .inl (I, (42, .inl (fun _ => 0))))]) (List.append_assoc _ _ _) ?_
  refine jn_putF (k := 18) (ty := .array .int) 82 dX10_init_79 rfl lay_X10 rfl tyX10 tyX10_ok nmX10 (by decide) rfl rfl rfl fl_X10_37 (by decide +kernel) rfl rfl (Nat.le_of_ble_eq_true rfl) ?_
  refine jn_aload_n 0 0 83 dX10_init_82 rfl rfl rfl ?_
  refine jn_iconst (nI 4) 84 dX10_init_83 rfl rfl ?_
  refine jn_newa (N := 4) 86 dX10_init_84 rfl rfl (Nat.le_of_ble_eq_true rfl) (Nat.le_of_ble_eq_true rfl) (Nat.le_of_ble_eq_true rfl) (fun q11 => ?_)
  refine jn_dup 87 dX10_init_86 rfl rfl ?_
  refine jn_iconst (nI 0) 88 dX10_init_87 rfl rfl ?_
  refine jn_iconst (-1) 89 dX10_init_88 rfl rfl ?_
  refine jn_iast (k := 0) 90 dX10_init_89 rfl rfl (Nat.le_of_ble_eq_true rfl) (Nat.le_of_ble_eq_true rfl) ?_
  refine jn_dup 91 dX10_init_90 rfl rfl ?_
  refine jn_iconst (nI 1) 92 dX10_init_91 rfl rfl ?_
  refine jn_iconst (-1) 93 dX10_init_92 rfl rfl ?_
  refine jn_iast (k := 1) 94 dX10_init_93 rfl rfl (Nat.le_of_ble_eq_true rfl) (Nat.le_of_ble_eq_true rfl) ?_
  refine jn_dup 95 dX10_init_94 rfl rfl ?_
  refine jn_iconst (nI 2) 96 dX10_init_95 rfl rfl ?_
  refine jn_iconst (-1) 97 dX10_init_96 rfl rfl ?_
  refine jn_iast (k := 2) 98 dX10_init_97 rfl rfl (Nat.le_of_ble_eq_true rfl) (Nat.le_of_ble_eq_true rfl) ?_
  refine jn_dup 99 dX10_init_98 rfl rfl ?_
  refine jn_iconst (nI 3) 100 dX10_init_99 rfl rfl ?_
  refine jn_iconst (-1) 101 dX10_init_100 rfl rfl ?_
  refine jn_iast (k := 3) 102 dX10_init_101 rfl rfl (Nat.le_of_ble_eq_true rfl) (Nat.le_of_ble_eq_true rfl) ?_
  refine jn_ws (ws' := pre ++ (a, .inr (8, [.ref q1, .int 0, .ref q2, .ref q3, .ref q4, .ref q5, .int 0, .ref q6, .ref q7, .int 0, .ref q8, .ref q9, .int 0, .int 0, .int 0, .int 0, .int 0, .int 0, .ref q10, .null, .null, .null, .null, .int 0, .int 0, .int 0, .int 0, .null, .null, .int 0, .int 0, .int 0, .null, .null, .null, .null, .null, .null, .null, .int 0, .int 0, .int 0, .int 0, .int 0, .null, .int 0, .int 0, .null, .null])) :: [(q1, .inl (I, (8, .inl (fun _ => 0)))), (q2, .inl (I, (5, .inl (fun _ => 0)))), (q3, .inl (I, (5, .inl (fun _ => 0)))), (q4, .inl (I, (5, .inl (fun _ => 0)))), (q5, .inl (I, (5, .inl (fun _ => 0)))), (q6, .inl (I, (24, .inl (fun _ => 0)))), (q7, .inl (I, (160, .inl (fun _ => 0)))), (q8, .inl (I, (1200, .inl (fun _ => 0)))), (q9, .inl (I, (24, .inl (fun _ => 0)))), (q10, .inl (I, (42, .inl (fun _ => 0)))), (q11, .inl (I, (4, .inl (jm_f57))))]) (List.append_assoc _ _ _) ?_
  refine jn_putF (k := 19) (ty := .array .int) 105 dX10_init_102 rfl lay_X10 rfl tyX10 tyX10_ok nmX10 (by decide) rfl rfl rfl fl_X10_40 (by decide +kernel) rfl rfl (Nat.le_of_ble_eq_true rfl) ?_
  refine jn_aload_n 0 0 106 dX10_init_105 rfl rfl rfl ?_
  refine jn_iconst (nI 4) 107 dX10_init_106 rfl rfl ?_
  refine jn_newa (N := 4) 109 dX10_init_107 rfl rfl (Nat.le_of_ble_eq_true rfl) (Nat.le_of_ble_eq_true rfl) (Nat.le_of_ble_eq_true rfl) (fun q12 => ?_)
  refine jn_ws (ws' := pre ++ (a, .inr (8, [.ref q1, .int 0, .ref q2, .ref q3, .ref q4, .ref q5, .int 0, .ref q6, .ref q7, .int 0, .ref q8, .ref q9, .int 0, .int 0, .int 0, .int 0, .int 0, .int 0, .ref q10, .ref q11, .null, .null, .null, .int 0, .int 0, .int 0, .int 0, .null, .null, .int 0, .int 0, .int 0, .null, .null, .null, .null, .null, .null, .null, .int 0, .int 0, .int 0, .int 0, .int 0, .null, .int 0, .int 0, .null, .null])) :: [(q1, .inl (I, (8, .inl (fun _ => 0)))), (q2, .inl (I, (5, .inl (fun _ => 0)))), (q3, .inl (I, (5, .inl (fun _ => 0)))), (q4, .inl (I, (5, .inl (fun _ => 0)))), (q5, .inl (I, (5, .inl (fun _ => 0)))), (q6, .inl (I, (24, .inl (fun _ => 0)))), (q7, .inl (I, (160, .inl (fun _ => 0)))), (q8, .inl (I, (1200, .inl (fun _ => 0)))), (q9, .inl (I, (24, .inl (fun _ => 0)))), (q10, .inl (I, (42, .inl (fun _ => 0)))), (q11, .inl (I, (4, .inl (jm_f57)))), (q12, .inl (I, (4, .inl (fun _ => 0))))]) (List.append_assoc _ _ _) ?_
  refine jn_putF (k := 20) (ty := .array .int) 112 dX10_init_109 rfl lay_X10 rfl tyX10 tyX10_ok nmX10 (by decide) rfl rfl rfl fl_X10_43 (by decide +kernel) rfl rfl (Nat.le_of_ble_eq_true rfl) ?_
  refine jn_aload_n 0 0 113 dX10_init_112 rfl rfl rfl ?_
  refine jn_sipush (nI 160) 116 dX10_init_113 rfl rfl ?_
  refine jn_newa (N := 160) 118 dX10_init_116 rfl rfl (Nat.le_of_ble_eq_true rfl) (Nat.le_of_ble_eq_true rfl) (Nat.le_of_ble_eq_true rfl) (fun q13 => ?_)
  refine jn_ws (ws' := pre ++ (a, .inr (8, [.ref q1, .int 0, .ref q2, .ref q3, .ref q4, .ref q5, .int 0, .ref q6, .ref q7, .int 0, .ref q8, .ref q9, .int 0, .int 0, .int 0, .int 0, .int 0, .int 0, .ref q10, .ref q11, .ref q12, .null, .null, .int 0, .int 0, .int 0, .int 0, .null, .null, .int 0, .int 0, .int 0, .null, .null, .null, .null, .null, .null, .null, .int 0, .int 0, .int 0, .int 0, .int 0, .null, .int 0, .int 0, .null, .null])) :: [(q1, .inl (I, (8, .inl (fun _ => 0)))), (q2, .inl (I, (5, .inl (fun _ => 0)))), (q3, .inl (I, (5, .inl (fun _ => 0)))), (q4, .inl (I, (5, .inl (fun _ => 0)))), (q5, .inl (I, (5, .inl (fun _ => 0)))), (q6, .inl (I, (24, .inl (fun _ => 0)))), (q7, .inl (I, (160, .inl (fun _ => 0)))), (q8, .inl (I, (1200, .inl (fun _ => 0)))), (q9, .inl (I, (24, .inl (fun _ => 0)))), (q10, .inl (I, (42, .inl (fun _ => 0)))), (q11, .inl (I, (4, .inl (jm_f57)))), (q12, .inl (I, (4, .inl (fun _ => 0)))), (q13, .inl (I, (160, .inl (fun _ => 0))))]) (List.append_assoc _ _ _) ?_
  refine jn_putF (k := 21) (ty := .array .int) 121 dX10_init_118 rfl lay_X10 rfl tyX10 tyX10_ok nmX10 (by decide) rfl rfl rfl fl_X10_46 (by decide +kernel) rfl rfl (Nat.le_of_ble_eq_true rfl) ?_
  refine jn_aload_n 0 0 122 dX10_init_121 rfl rfl rfl ?_
  refine jn_bipush (nI 70) 124 dX10_init_122 rfl rfl ?_
  refine jn_newa (N := 70) 126 dX10_init_124 rfl rfl (Nat.le_of_ble_eq_true rfl) (Nat.le_of_ble_eq_true rfl) (Nat.le_of_ble_eq_true rfl) (fun q14 => ?_)
  refine jn_dup 127 dX10_init_126 rfl rfl ?_
  refine jn_iconst (nI 0) 128 dX10_init_127 rfl rfl ?_
  refine jn_bipush (nI 119) 130 dX10_init_128 rfl rfl ?_
  refine jn_iast (k := 0) 131 dX10_init_130 rfl rfl (Nat.le_of_ble_eq_true rfl) (Nat.le_of_ble_eq_true rfl) ?_
  refine jn_dup 132 dX10_init_131 rfl rfl ?_
  refine jn_iconst (nI 1) 133 dX10_init_132 rfl rfl ?_
  refine jn_bipush (nI 97) 135 dX10_init_133 rfl rfl ?_
  refine jn_iast (k := 1) 136 dX10_init_135 rfl rfl (Nat.le_of_ble_eq_true rfl) (Nat.le_of_ble_eq_true rfl) ?_
  refine jn_dup 137 dX10_init_136 rfl rfl ?_
  refine jn_iconst (nI 2) 138 dX10_init_137 rfl rfl ?_
  refine jn_bipush (nI 114) 140 dX10_init_138 rfl rfl ?_
  refine jn_iast (k := 2) 141 dX10_init_140 rfl rfl (Nat.le_of_ble_eq_true rfl) (Nat.le_of_ble_eq_true rfl) ?_
  refine jn_dup 142 dX10_init_141 rfl rfl ?_
  refine jn_iconst (nI 3) 143 dX10_init_142 rfl rfl ?_
  refine jn_bipush (nI 109) 145 dX10_init_143 rfl rfl ?_
  refine jn_iast (k := 3) 146 dX10_init_145 rfl rfl (Nat.le_of_ble_eq_true rfl) (Nat.le_of_ble_eq_true rfl) ?_
  refine jn_dup 147 dX10_init_146 rfl rfl ?_
  refine jn_iconst (nI 4) 148 dX10_init_147 rfl rfl ?_
  refine jn_bipush (nI 115) 150 dX10_init_148 rfl rfl ?_
  refine jn_iast (k := 4) 151 dX10_init_150 rfl rfl (Nat.le_of_ble_eq_true rfl) (Nat.le_of_ble_eq_true rfl) ?_
  refine jn_dup 152 dX10_init_151 rfl rfl ?_
  refine jn_iconst (nI 5) 153 dX10_init_152 rfl rfl ?_
  refine jn_bipush (nI 32) 155 dX10_init_153 rfl rfl ?_
  refine jn_iast (k := 5) 156 dX10_init_155 rfl rfl (Nat.le_of_ble_eq_true rfl) (Nat.le_of_ble_eq_true rfl) ?_
  refine jn_dup 157 dX10_init_156 rfl rfl ?_
  refine jn_bipush (nI 6) 159 dX10_init_157 rfl rfl ?_
  refine jn_bipush (nI 103) 161 dX10_init_159 rfl rfl ?_
  refine jn_iast (k := 6) 162 dX10_init_161 rfl rfl (Nat.le_of_ble_eq_true rfl) (Nat.le_of_ble_eq_true rfl) ?_
  refine jn_dup 163 dX10_init_162 rfl rfl ?_
  refine jn_bipush (nI 7) 165 dX10_init_163 rfl rfl ?_
  refine jn_bipush (nI 108) 167 dX10_init_165 rfl rfl ?_
  refine jn_iast (k := 7) 168 dX10_init_167 rfl rfl (Nat.le_of_ble_eq_true rfl) (Nat.le_of_ble_eq_true rfl) ?_
  refine jn_dup 169 dX10_init_168 rfl rfl ?_
  refine jn_bipush (nI 8) 171 dX10_init_169 rfl rfl ?_
  refine jn_bipush (nI 97) 173 dX10_init_171 rfl rfl ?_
  refine jn_iast (k := 8) 174 dX10_init_173 rfl rfl (Nat.le_of_ble_eq_true rfl) (Nat.le_of_ble_eq_true rfl) ?_
  refine jn_dup 175 dX10_init_174 rfl rfl ?_
  refine jn_bipush (nI 9) 177 dX10_init_175 rfl rfl ?_
  refine jn_bipush (nI 110) 179 dX10_init_177 rfl rfl ?_
  refine jn_iast (k := 9) 180 dX10_init_179 rfl rfl (Nat.le_of_ble_eq_true rfl) (Nat.le_of_ble_eq_true rfl) ?_
  refine jn_dup 181 dX10_init_180 rfl rfl ?_
  refine jn_bipush (nI 10) 183 dX10_init_181 rfl rfl ?_
  refine jn_bipush (nI 99) 185 dX10_init_183 rfl rfl ?_
  refine jn_iast (k := 10) 186 dX10_init_185 rfl rfl (Nat.le_of_ble_eq_true rfl) (Nat.le_of_ble_eq_true rfl) ?_
  refine jn_dup 187 dX10_init_186 rfl rfl ?_
  refine jn_bipush (nI 11) 189 dX10_init_187 rfl rfl ?_
  refine jn_bipush (nI 101) 191 dX10_init_189 rfl rfl ?_
  refine jn_iast (k := 11) 192 dX10_init_191 rfl rfl (Nat.le_of_ble_eq_true rfl) (Nat.le_of_ble_eq_true rfl) ?_
  refine jn_dup 193 dX10_init_192 rfl rfl ?_
  refine jn_bipush (nI 12) 195 dX10_init_193 rfl rfl ?_
  refine jn_bipush (nI 115) 197 dX10_init_195 rfl rfl ?_
  refine jn_iast (k := 12) 198 dX10_init_197 rfl rfl (Nat.le_of_ble_eq_true rfl) (Nat.le_of_ble_eq_true rfl) ?_
  refine jn_dup 199 dX10_init_198 rfl rfl ?_
  refine jn_bipush (nI 13) 201 dX10_init_199 rfl rfl ?_
  refine jn_bipush (nI 32) 203 dX10_init_201 rfl rfl ?_
  refine jn_iast (k := 13) 204 dX10_init_203 rfl rfl (Nat.le_of_ble_eq_true rfl) (Nat.le_of_ble_eq_true rfl) ?_
  refine jn_dup 205 dX10_init_204 rfl rfl ?_
  refine jn_bipush (nI 14) 207 dX10_init_205 rfl rfl ?_
  refine jn_bipush (nI 42) 209 dX10_init_207 rfl rfl ?_
  refine jn_iast (k := 14) 210 dX10_init_209 rfl rfl (Nat.le_of_ble_eq_true rfl) (Nat.le_of_ble_eq_true rfl) ?_
  refine jn_dup 211 dX10_init_210 rfl rfl ?_
  refine jn_bipush (nI 15) 213 dX10_init_211 rfl rfl ?_
  refine jn_bipush (nI 32) 215 dX10_init_213 rfl rfl ?_
  refine jn_iast (k := 15) 216 dX10_init_215 rfl rfl (Nat.le_of_ble_eq_true rfl) (Nat.le_of_ble_eq_true rfl) ?_
  refine jn_dup 217 dX10_init_216 rfl rfl ?_
  refine jn_bipush (nI 16) 219 dX10_init_217 rfl rfl ?_
  refine jn_bipush (nI 52) 221 dX10_init_219 rfl rfl ?_
  refine jn_iast (k := 16) 222 dX10_init_221 rfl rfl (Nat.le_of_ble_eq_true rfl) (Nat.le_of_ble_eq_true rfl) ?_
  refine jn_dup 223 dX10_init_222 rfl rfl ?_
  refine jn_bipush (nI 17) 225 dX10_init_223 rfl rfl ?_
  refine jn_bipush (nI 32) 227 dX10_init_225 rfl rfl ?_
  refine jn_iast (k := 17) 228 dX10_init_227 rfl rfl (Nat.le_of_ble_eq_true rfl) (Nat.le_of_ble_eq_true rfl) ?_
  refine jn_dup 229 dX10_init_228 rfl rfl ?_
  refine jn_bipush (nI 18) 231 dX10_init_229 rfl rfl ?_
  refine jn_bipush (nI 43) 233 dX10_init_231 rfl rfl ?_
  refine jn_iast (k := 18) 234 dX10_init_233 rfl rfl (Nat.le_of_ble_eq_true rfl) (Nat.le_of_ble_eq_true rfl) ?_
  refine jn_dup 235 dX10_init_234 rfl rfl ?_
  refine jn_bipush (nI 19) 237 dX10_init_235 rfl rfl ?_
  refine jn_bipush (nI 32) 239 dX10_init_237 rfl rfl ?_
  refine jn_iast (k := 19) 240 dX10_init_239 rfl rfl (Nat.le_of_ble_eq_true rfl) (Nat.le_of_ble_eq_true rfl) ?_
  refine jn_dup 241 dX10_init_240 rfl rfl ?_
  refine jn_bipush (nI 20) 243 dX10_init_241 rfl rfl ?_
  refine jn_bipush (nI 115) 245 dX10_init_243 rfl rfl ?_
  refine jn_iast (k := 20) 246 dX10_init_245 rfl rfl (Nat.le_of_ble_eq_true rfl) (Nat.le_of_ble_eq_true rfl) ?_
  refine jn_dup 247 dX10_init_246 rfl rfl ?_
  refine jn_bipush (nI 21) 249 dX10_init_247 rfl rfl ?_
  refine jn_bipush (nI 101) 251 dX10_init_249 rfl rfl ?_
  refine jn_iast (k := 21) 252 dX10_init_251 rfl rfl (Nat.le_of_ble_eq_true rfl) (Nat.le_of_ble_eq_true rfl) ?_
  refine jn_dup 253 dX10_init_252 rfl rfl ?_
  refine jn_bipush (nI 22) 255 dX10_init_253 rfl rfl ?_
  refine jn_bipush (nI 101) 257 dX10_init_255 rfl rfl ?_
  refine jn_iast (k := 22) 258 dX10_init_257 rfl rfl (Nat.le_of_ble_eq_true rfl) (Nat.le_of_ble_eq_true rfl) ?_
  refine jn_dup 259 dX10_init_258 rfl rfl ?_
  refine jn_bipush (nI 23) 261 dX10_init_259 rfl rfl ?_
  refine jn_bipush (nI 110) 263 dX10_init_261 rfl rfl ?_
  refine jn_iast (k := 23) 264 dX10_init_263 rfl rfl (Nat.le_of_ble_eq_true rfl) (Nat.le_of_ble_eq_true rfl) ?_
  refine jn_dup 265 dX10_init_264 rfl rfl ?_
  refine jn_bipush (nI 24) 267 dX10_init_265 rfl rfl ?_
  refine jn_bipush (nI 32) 269 dX10_init_267 rfl rfl ?_
  refine jn_iast (k := 24) 270 dX10_init_269 rfl rfl (Nat.le_of_ble_eq_true rfl) (Nat.le_of_ble_eq_true rfl) ?_
  refine jn_dup 271 dX10_init_270 rfl rfl ?_
  refine jn_bipush (nI 25) 273 dX10_init_271 rfl rfl ?_
  refine jn_bipush (nI 42) 275 dX10_init_273 rfl rfl ?_
  refine jn_iast (k := 25) 276 dX10_init_275 rfl rfl (Nat.le_of_ble_eq_true rfl) (Nat.le_of_ble_eq_true rfl) ?_
  refine jn_dup 277 dX10_init_276 rfl rfl ?_
  refine jn_bipush (nI 26) 279 dX10_init_277 rfl rfl ?_
  refine jn_bipush (nI 32) 281 dX10_init_279 rfl rfl ?_
  refine jn_iast (k := 26) 282 dX10_init_281 rfl rfl (Nat.le_of_ble_eq_true rfl) (Nat.le_of_ble_eq_true rfl) ?_
  refine jn_dup 283 dX10_init_282 rfl rfl ?_
  refine jn_bipush (nI 27) 285 dX10_init_283 rfl rfl ?_
  refine jn_bipush (nI 51) 287 dX10_init_285 rfl rfl ?_
  refine jn_iast (k := 27) 288 dX10_init_287 rfl rfl (Nat.le_of_ble_eq_true rfl) (Nat.le_of_ble_eq_true rfl) ?_
  refine jn_dup 289 dX10_init_288 rfl rfl ?_
  refine jn_bipush (nI 28) 291 dX10_init_289 rfl rfl ?_
  refine jn_bipush (nI 32) 293 dX10_init_291 rfl rfl ?_
  refine jn_iast (k := 28) 294 dX10_init_293 rfl rfl (Nat.le_of_ble_eq_true rfl) (Nat.le_of_ble_eq_true rfl) ?_
  refine jn_dup 295 dX10_init_294 rfl rfl ?_
  refine jn_bipush (nI 29) 297 dX10_init_295 rfl rfl ?_
  refine jn_bipush (nI 59) 299 dX10_init_297 rfl rfl ?_
  refine jn_iast (k := 29) 300 dX10_init_299 rfl rfl (Nat.le_of_ble_eq_true rfl) (Nat.le_of_ble_eq_true rfl) ?_
  refine jn_dup 301 dX10_init_300 rfl rfl ?_
  refine jn_bipush (nI 30) 303 dX10_init_301 rfl rfl ?_
  refine jn_bipush (nI 32) 305 dX10_init_303 rfl rfl ?_
  refine jn_iast (k := 30) 306 dX10_init_305 rfl rfl (Nat.le_of_ble_eq_true rfl) (Nat.le_of_ble_eq_true rfl) ?_
  refine jn_dup 307 dX10_init_306 rfl rfl ?_
  refine jn_bipush (nI 31) 309 dX10_init_307 rfl rfl ?_
  refine jn_bipush (nI 99) 311 dX10_init_309 rfl rfl ?_
  refine jn_iast (k := 31) 312 dX10_init_311 rfl rfl (Nat.le_of_ble_eq_true rfl) (Nat.le_of_ble_eq_true rfl) ?_
  refine jn_dup 313 dX10_init_312 rfl rfl ?_
  refine jn_bipush (nI 32) 315 dX10_init_313 rfl rfl ?_
  refine jn_bipush (nI 111) 317 dX10_init_315 rfl rfl ?_
  refine jn_iast (k := 32) 318 dX10_init_317 rfl rfl (Nat.le_of_ble_eq_true rfl) (Nat.le_of_ble_eq_true rfl) ?_
  refine jn_dup 319 dX10_init_318 rfl rfl ?_
  refine jn_bipush (nI 33) 321 dX10_init_319 rfl rfl ?_
  refine jn_bipush (nI 111) 323 dX10_init_321 rfl rfl ?_
  refine jn_iast (k := 33) 324 dX10_init_323 rfl rfl (Nat.le_of_ble_eq_true rfl) (Nat.le_of_ble_eq_true rfl) ?_
  refine jn_dup 325 dX10_init_324 rfl rfl ?_
  refine jn_bipush (nI 34) 327 dX10_init_325 rfl rfl ?_
  refine jn_bipush (nI 108) 329 dX10_init_327 rfl rfl ?_
  refine jn_iast (k := 34) 330 dX10_init_329 rfl rfl (Nat.le_of_ble_eq_true rfl) (Nat.le_of_ble_eq_true rfl) ?_
  refine jn_dup 331 dX10_init_330 rfl rfl ?_
  refine jn_bipush (nI 35) 333 dX10_init_331 rfl rfl ?_
  refine jn_bipush (nI 115) 335 dX10_init_333 rfl rfl ?_
  refine jn_iast (k := 35) 336 dX10_init_335 rfl rfl (Nat.le_of_ble_eq_true rfl) (Nat.le_of_ble_eq_true rfl) ?_
  refine jn_dup 337 dX10_init_336 rfl rfl ?_
  refine jn_bipush (nI 36) 339 dX10_init_337 rfl rfl ?_
  refine jn_bipush (nI 32) 341 dX10_init_339 rfl rfl ?_
  refine jn_iast (k := 36) 342 dX10_init_341 rfl rfl (Nat.le_of_ble_eq_true rfl) (Nat.le_of_ble_eq_true rfl) ?_
  refine jn_dup 343 dX10_init_342 rfl rfl ?_
  refine jn_bipush (nI 37) 345 dX10_init_343 rfl rfl ?_
  refine jn_bipush (nI 51) 347 dX10_init_345 rfl rfl ?_
  refine jn_iast (k := 37) 348 dX10_init_347 rfl rfl (Nat.le_of_ble_eq_true rfl) (Nat.le_of_ble_eq_true rfl) ?_
  refine jn_dup 349 dX10_init_348 rfl rfl ?_
  refine jn_bipush (nI 38) 351 dX10_init_349 rfl rfl ?_
  refine jn_bipush (nI 32) 353 dX10_init_351 rfl rfl ?_
  refine jn_iast (k := 38) 354 dX10_init_353 rfl rfl (Nat.le_of_ble_eq_true rfl) (Nat.le_of_ble_eq_true rfl) ?_
  refine jn_dup 355 dX10_init_354 rfl rfl ?_
  refine jn_bipush (nI 39) 357 dX10_init_355 rfl rfl ?_
  refine jn_bipush (nI 59) 359 dX10_init_357 rfl rfl ?_
  refine jn_iast (k := 39) 360 dX10_init_359 rfl rfl (Nat.le_of_ble_eq_true rfl) (Nat.le_of_ble_eq_true rfl) ?_
  refine jn_dup 361 dX10_init_360 rfl rfl ?_
  refine jn_bipush (nI 40) 363 dX10_init_361 rfl rfl ?_
  refine jn_bipush (nI 32) 365 dX10_init_363 rfl rfl ?_
  refine jn_iast (k := 40) 366 dX10_init_365 rfl rfl (Nat.le_of_ble_eq_true rfl) (Nat.le_of_ble_eq_true rfl) ?_
  refine jn_dup 367 dX10_init_366 rfl rfl ?_
  refine jn_bipush (nI 41) 369 dX10_init_367 rfl rfl ?_
  refine jn_bipush (nI 108) 371 dX10_init_369 rfl rfl ?_
  refine jn_iast (k := 41) 372 dX10_init_371 rfl rfl (Nat.le_of_ble_eq_true rfl) (Nat.le_of_ble_eq_true rfl) ?_
  refine jn_dup 373 dX10_init_372 rfl rfl ?_
  refine jn_bipush (nI 42) 375 dX10_init_373 rfl rfl ?_
  refine jn_bipush (nI 111) 377 dX10_init_375 rfl rfl ?_
  refine jn_iast (k := 42) 378 dX10_init_377 rfl rfl (Nat.le_of_ble_eq_true rfl) (Nat.le_of_ble_eq_true rfl) ?_
  refine jn_dup 379 dX10_init_378 rfl rfl ?_
  refine jn_bipush (nI 43) 381 dX10_init_379 rfl rfl ?_
  refine jn_bipush (nI 111) 383 dX10_init_381 rfl rfl ?_
  refine jn_iast (k := 43) 384 dX10_init_383 rfl rfl (Nat.le_of_ble_eq_true rfl) (Nat.le_of_ble_eq_true rfl) ?_
  refine jn_dup 385 dX10_init_384 rfl rfl ?_
  refine jn_bipush (nI 44) 387 dX10_init_385 rfl rfl ?_
  refine jn_bipush (nI 107) 389 dX10_init_387 rfl rfl ?_
  refine jn_iast (k := 44) 390 dX10_init_389 rfl rfl (Nat.le_of_ble_eq_true rfl) (Nat.le_of_ble_eq_true rfl) ?_
  refine jn_dup 391 dX10_init_390 rfl rfl ?_
  refine jn_bipush (nI 45) 393 dX10_init_391 rfl rfl ?_
  refine jn_bipush (nI 115) 395 dX10_init_393 rfl rfl ?_
  refine jn_iast (k := 45) 396 dX10_init_395 rfl rfl (Nat.le_of_ble_eq_true rfl) (Nat.le_of_ble_eq_true rfl) ?_
  refine jn_dup 397 dX10_init_396 rfl rfl ?_
  refine jn_bipush (nI 46) 399 dX10_init_397 rfl rfl ?_
  refine jn_bipush (nI 32) 401 dX10_init_399 rfl rfl ?_
  refine jn_iast (k := 46) 402 dX10_init_401 rfl rfl (Nat.le_of_ble_eq_true rfl) (Nat.le_of_ble_eq_true rfl) ?_
  refine jn_dup 403 dX10_init_402 rfl rfl ?_
  refine jn_bipush (nI 47) 405 dX10_init_403 rfl rfl ?_
  refine jn_bipush (nI 115) 407 dX10_init_405 rfl rfl ?_
  refine jn_iast (k := 47) 408 dX10_init_407 rfl rfl (Nat.le_of_ble_eq_true rfl) (Nat.le_of_ble_eq_true rfl) ?_
  refine jn_dup 409 dX10_init_408 rfl rfl ?_
  refine jn_bipush (nI 48) 411 dX10_init_409 rfl rfl ?_
  refine jn_bipush (nI 101) 413 dX10_init_411 rfl rfl ?_
  refine jn_iast (k := 48) 414 dX10_init_413 rfl rfl (Nat.le_of_ble_eq_true rfl) (Nat.le_of_ble_eq_true rfl) ?_
  refine jn_dup 415 dX10_init_414 rfl rfl ?_
  refine jn_bipush (nI 49) 417 dX10_init_415 rfl rfl ?_
  refine jn_bipush (nI 101) 419 dX10_init_417 rfl rfl ?_
  refine jn_iast (k := 49) 420 dX10_init_419 rfl rfl (Nat.le_of_ble_eq_true rfl) (Nat.le_of_ble_eq_true rfl) ?_
  refine jn_dup 421 dX10_init_420 rfl rfl ?_
  refine jn_bipush (nI 50) 423 dX10_init_421 rfl rfl ?_
  refine jn_bipush (nI 110) 425 dX10_init_423 rfl rfl ?_
  refine jn_iast (k := 50) 426 dX10_init_425 rfl rfl (Nat.le_of_ble_eq_true rfl) (Nat.le_of_ble_eq_true rfl) ?_
  refine jn_dup 427 dX10_init_426 rfl rfl ?_
  refine jn_bipush (nI 51) 429 dX10_init_427 rfl rfl ?_
  refine jn_bipush (nI 32) 431 dX10_init_429 rfl rfl ?_
  refine jn_iast (k := 51) 432 dX10_init_431 rfl rfl (Nat.le_of_ble_eq_true rfl) (Nat.le_of_ble_eq_true rfl) ?_
  refine jn_dup 433 dX10_init_432 rfl rfl ?_
  refine jn_bipush (nI 52) 435 dX10_init_433 rfl rfl ?_
  refine jn_bipush (nI 111) 437 dX10_init_435 rfl rfl ?_
  refine jn_iast (k := 52) 438 dX10_init_437 rfl rfl (Nat.le_of_ble_eq_true rfl) (Nat.le_of_ble_eq_true rfl) ?_
  refine jn_dup 439 dX10_init_438 rfl rfl ?_
  refine jn_bipush (nI 53) 441 dX10_init_439 rfl rfl ?_
  refine jn_bipush (nI 114) 443 dX10_init_441 rfl rfl ?_
  refine jn_iast (k := 53) 444 dX10_init_443 rfl rfl (Nat.le_of_ble_eq_true rfl) (Nat.le_of_ble_eq_true rfl) ?_
  refine jn_dup 445 dX10_init_444 rfl rfl ?_
  refine jn_bipush (nI 54) 447 dX10_init_445 rfl rfl ?_
  refine jn_bipush (nI 32) 449 dX10_init_447 rfl rfl ?_
  refine jn_iast (k := 54) 450 dX10_init_449 rfl rfl (Nat.le_of_ble_eq_true rfl) (Nat.le_of_ble_eq_true rfl) ?_
  refine jn_dup 451 dX10_init_450 rfl rfl ?_
  refine jn_bipush (nI 55) 453 dX10_init_451 rfl rfl ?_
  refine jn_bipush (nI 115) 455 dX10_init_453 rfl rfl ?_
  refine jn_iast (k := 55) 456 dX10_init_455 rfl rfl (Nat.le_of_ble_eq_true rfl) (Nat.le_of_ble_eq_true rfl) ?_
  refine jn_dup 457 dX10_init_456 rfl rfl ?_
  refine jn_bipush (nI 56) 459 dX10_init_457 rfl rfl ?_
  refine jn_bipush (nI 101) 461 dX10_init_459 rfl rfl ?_
  refine jn_iast (k := 56) 462 dX10_init_461 rfl rfl (Nat.le_of_ble_eq_true rfl) (Nat.le_of_ble_eq_true rfl) ?_
  refine jn_dup 463 dX10_init_462 rfl rfl ?_
  refine jn_bipush (nI 57) 465 dX10_init_463 rfl rfl ?_
  refine jn_bipush (nI 99) 467 dX10_init_465 rfl rfl ?_
  refine jn_iast (k := 57) 468 dX10_init_467 rfl rfl (Nat.le_of_ble_eq_true rfl) (Nat.le_of_ble_eq_true rfl) ?_
  refine jn_dup 469 dX10_init_468 rfl rfl ?_
  refine jn_bipush (nI 58) 471 dX10_init_469 rfl rfl ?_
  refine jn_bipush (nI 111) 473 dX10_init_471 rfl rfl ?_
  refine jn_iast (k := 58) 474 dX10_init_473 rfl rfl (Nat.le_of_ble_eq_true rfl) (Nat.le_of_ble_eq_true rfl) ?_
  refine jn_dup 475 dX10_init_474 rfl rfl ?_
  refine jn_bipush (nI 59) 477 dX10_init_475 rfl rfl ?_
  refine jn_bipush (nI 110) 479 dX10_init_477 rfl rfl ?_
  refine jn_iast (k := 59) 480 dX10_init_479 rfl rfl (Nat.le_of_ble_eq_true rfl) (Nat.le_of_ble_eq_true rfl) ?_
  refine jn_dup 481 dX10_init_480 rfl rfl ?_
  refine jn_bipush (nI 60) 483 dX10_init_481 rfl rfl ?_
  refine jn_bipush (nI 100) 485 dX10_init_483 rfl rfl ?_
  refine jn_iast (k := 60) 486 dX10_init_485 rfl rfl (Nat.le_of_ble_eq_true rfl) (Nat.le_of_ble_eq_true rfl) ?_
  refine jn_dup 487 dX10_init_486 rfl rfl ?_
  refine jn_bipush (nI 61) 489 dX10_init_487 rfl rfl ?_
  refine jn_bipush (nI 32) 491 dX10_init_489 rfl rfl ?_
  refine jn_iast (k := 61) 492 dX10_init_491 rfl rfl (Nat.le_of_ble_eq_true rfl) (Nat.le_of_ble_eq_true rfl) ?_
  refine jn_dup 493 dX10_init_492 rfl rfl ?_
  refine jn_bipush (nI 62) 495 dX10_init_493 rfl rfl ?_
  refine jn_bipush (nI 60) 497 dX10_init_495 rfl rfl ?_
  refine jn_iast (k := 62) 498 dX10_init_497 rfl rfl (Nat.le_of_ble_eq_true rfl) (Nat.le_of_ble_eq_true rfl) ?_
  refine jn_dup 499 dX10_init_498 rfl rfl ?_
  refine jn_bipush (nI 63) 501 dX10_init_499 rfl rfl ?_
  refine jn_bipush (nI 32) 503 dX10_init_501 rfl rfl ?_
  refine jn_iast (k := 63) 504 dX10_init_503 rfl rfl (Nat.le_of_ble_eq_true rfl) (Nat.le_of_ble_eq_true rfl) ?_
  refine jn_dup 505 dX10_init_504 rfl rfl ?_
  refine jn_bipush (nI 64) 507 dX10_init_505 rfl rfl ?_
  refine jn_bipush (nI 109) 509 dX10_init_507 rfl rfl ?_
  refine jn_iast (k := 64) 510 dX10_init_509 rfl rfl (Nat.le_of_ble_eq_true rfl) (Nat.le_of_ble_eq_true rfl) ?_
  refine jn_dup 511 dX10_init_510 rfl rfl ?_
  refine jn_bipush (nI 65) 513 dX10_init_511 rfl rfl ?_
  refine jn_bipush (nI 111) 515 dX10_init_513 rfl rfl ?_
  refine jn_iast (k := 65) 516 dX10_init_515 rfl rfl (Nat.le_of_ble_eq_true rfl) (Nat.le_of_ble_eq_true rfl) ?_
  refine jn_dup 517 dX10_init_516 rfl rfl ?_
  refine jn_bipush (nI 66) 519 dX10_init_517 rfl rfl ?_
  refine jn_bipush (nI 114) 521 dX10_init_519 rfl rfl ?_
  refine jn_iast (k := 66) 522 dX10_init_521 rfl rfl (Nat.le_of_ble_eq_true rfl) (Nat.le_of_ble_eq_true rfl) ?_
  refine jn_dup 523 dX10_init_522 rfl rfl ?_
  refine jn_bipush (nI 67) 525 dX10_init_523 rfl rfl ?_
  refine jn_bipush (nI 101) 527 dX10_init_525 rfl rfl ?_
  refine jn_iast (k := 67) 528 dX10_init_527 rfl rfl (Nat.le_of_ble_eq_true rfl) (Nat.le_of_ble_eq_true rfl) ?_
  refine jn_dup 529 dX10_init_528 rfl rfl ?_
  refine jn_bipush (nI 68) 531 dX10_init_529 rfl rfl ?_
  refine jn_bipush (nI 32) 533 dX10_init_531 rfl rfl ?_
  refine jn_iast (k := 68) 534 dX10_init_533 rfl rfl (Nat.le_of_ble_eq_true rfl) (Nat.le_of_ble_eq_true rfl) ?_
  refine jn_dup 535 dX10_init_534 rfl rfl ?_
  refine jn_bipush (nI 69) 537 dX10_init_535 rfl rfl ?_
  refine jn_bipush (nI 59) 539 dX10_init_537 rfl rfl ?_
  refine jn_iast (k := 69) 540 dX10_init_539 rfl rfl (Nat.le_of_ble_eq_true rfl) (Nat.le_of_ble_eq_true rfl) ?_
  refine jn_ws (ws' := pre ++ (a, .inr (8, [.ref q1, .int 0, .ref q2, .ref q3, .ref q4, .ref q5, .int 0, .ref q6, .ref q7, .int 0, .ref q8, .ref q9, .int 0, .int 0, .int 0, .int 0, .int 0, .int 0, .ref q10, .ref q11, .ref q12, .ref q13, .null, .int 0, .int 0, .int 0, .int 0, .null, .null, .int 0, .int 0, .int 0, .null, .null, .null, .null, .null, .null, .null, .int 0, .int 0, .int 0, .int 0, .int 0, .null, .int 0, .int 0, .null, .null])) :: [(q1, .inl (I, (8, .inl (fun _ => 0)))), (q2, .inl (I, (5, .inl (fun _ => 0)))), (q3, .inl (I, (5, .inl (fun _ => 0)))), (q4, .inl (I, (5, .inl (fun _ => 0)))), (q5, .inl (I, (5, .inl (fun _ => 0)))), (q6, .inl (I, (24, .inl (fun _ => 0)))), (q7, .inl (I, (160, .inl (fun _ => 0)))), (q8, .inl (I, (1200, .inl (fun _ => 0)))), (q9, .inl (I, (24, .inl (fun _ => 0)))), (q10, .inl (I, (42, .inl (fun _ => 0)))), (q11, .inl (I, (4, .inl (jm_f57)))), (q12, .inl (I, (4, .inl (fun _ => 0)))), (q13, .inl (I, (160, .inl (fun _ => 0)))), (q14, .inl (I, (70, .inl (jm_f60))))]) (List.append_assoc _ _ _) ?_
  refine jn_putF (k := 22) (ty := .array .int) 543 dX10_init_540 rfl lay_X10 rfl tyX10 tyX10_ok nmX10 (by decide) rfl rfl rfl fl_X10_49 (by decide +kernel) rfl rfl (Nat.le_of_ble_eq_true rfl) ?_
  refine jn_aload_n 0 0 544 dX10_init_543 rfl rfl rfl ?_
  refine jn_bipush (nI 96) 546 dX10_init_544 rfl rfl ?_
  refine jn_newa (N := 96) 548 dX10_init_546 rfl rfl (Nat.le_of_ble_eq_true rfl) (Nat.le_of_ble_eq_true rfl) (Nat.le_of_ble_eq_true rfl) (fun q15 => ?_)
  refine jn_dup 549 dX10_init_548 rfl rfl ?_
  refine jn_iconst (nI 0) 550 dX10_init_549 rfl rfl ?_
  refine jn_bipush (nI 119) 552 dX10_init_550 rfl rfl ?_
  refine jn_iast (k := 0) 553 dX10_init_552 rfl rfl (Nat.le_of_ble_eq_true rfl) (Nat.le_of_ble_eq_true rfl) ?_
  refine jn_dup 554 dX10_init_553 rfl rfl ?_
  refine jn_iconst (nI 1) 555 dX10_init_554 rfl rfl ?_
  refine jn_bipush (nI 97) 557 dX10_init_555 rfl rfl ?_
  refine jn_iast (k := 1) 558 dX10_init_557 rfl rfl (Nat.le_of_ble_eq_true rfl) (Nat.le_of_ble_eq_true rfl) ?_
  refine jn_dup 559 dX10_init_558 rfl rfl ?_
  refine jn_iconst (nI 2) 560 dX10_init_559 rfl rfl ?_
  refine jn_bipush (nI 114) 562 dX10_init_560 rfl rfl ?_
  refine jn_iast (k := 2) 563 dX10_init_562 rfl rfl (Nat.le_of_ble_eq_true rfl) (Nat.le_of_ble_eq_true rfl) ?_
  refine jn_dup 564 dX10_init_563 rfl rfl ?_
  refine jn_iconst (nI 3) 565 dX10_init_564 rfl rfl ?_
  refine jn_bipush (nI 109) 567 dX10_init_565 rfl rfl ?_
  refine jn_iast (k := 3) 568 dX10_init_567 rfl rfl (Nat.le_of_ble_eq_true rfl) (Nat.le_of_ble_eq_true rfl) ?_
  refine jn_dup 569 dX10_init_568 rfl rfl ?_
  refine jn_iconst (nI 4) 570 dX10_init_569 rfl rfl ?_
  refine jn_bipush (nI 115) 572 dX10_init_570 rfl rfl ?_
  refine jn_iast (k := 4) 573 dX10_init_572 rfl rfl (Nat.le_of_ble_eq_true rfl) (Nat.le_of_ble_eq_true rfl) ?_
  refine jn_dup 574 dX10_init_573 rfl rfl ?_
  refine jn_iconst (nI 5) 575 dX10_init_574 rfl rfl ?_
  refine jn_bipush (nI 32) 577 dX10_init_575 rfl rfl ?_
  refine jn_iast (k := 5) 578 dX10_init_577 rfl rfl (Nat.le_of_ble_eq_true rfl) (Nat.le_of_ble_eq_true rfl) ?_
  refine jn_dup 579 dX10_init_578 rfl rfl ?_
  refine jn_bipush (nI 6) 581 dX10_init_579 rfl rfl ?_
  refine jn_bipush (nI 32) 583 dX10_init_581 rfl rfl ?_
  refine jn_iast (k := 6) 584 dX10_init_583 rfl rfl (Nat.le_of_ble_eq_true rfl) (Nat.le_of_ble_eq_true rfl) ?_
  refine jn_dup 585 dX10_init_584 rfl rfl ?_
  refine jn_bipush (nI 7) 587 dX10_init_585 rfl rfl ?_
  refine jn_bipush (nI 32) 589 dX10_init_587 rfl rfl ?_
  refine jn_iast (k := 7) 590 dX10_init_589 rfl rfl (Nat.le_of_ble_eq_true rfl) (Nat.le_of_ble_eq_true rfl) ?_
  refine jn_dup 591 dX10_init_590 rfl rfl ?_
  refine jn_bipush (nI 8) 593 dX10_init_591 rfl rfl ?_
  refine jn_bipush (nI 99) 595 dX10_init_593 rfl rfl ?_
  refine jn_iast (k := 8) 596 dX10_init_595 rfl rfl (Nat.le_of_ble_eq_true rfl) (Nat.le_of_ble_eq_true rfl) ?_
  refine jn_dup 597 dX10_init_596 rfl rfl ?_
  refine jn_bipush (nI 9) 599 dX10_init_597 rfl rfl ?_
  refine jn_bipush (nI 111) 601 dX10_init_599 rfl rfl ?_
  refine jn_iast (k := 9) 602 dX10_init_601 rfl rfl (Nat.le_of_ble_eq_true rfl) (Nat.le_of_ble_eq_true rfl) ?_
  refine jn_dup 603 dX10_init_602 rfl rfl ?_
  refine jn_bipush (nI 10) 605 dX10_init_603 rfl rfl ?_
  refine jn_bipush (nI 111) 607 dX10_init_605 rfl rfl ?_
  refine jn_iast (k := 10) 608 dX10_init_607 rfl rfl (Nat.le_of_ble_eq_true rfl) (Nat.le_of_ble_eq_true rfl) ?_
  refine jn_dup 609 dX10_init_608 rfl rfl ?_
  refine jn_bipush (nI 11) 611 dX10_init_609 rfl rfl ?_
  refine jn_bipush (nI 108) 613 dX10_init_611 rfl rfl ?_
  refine jn_iast (k := 11) 614 dX10_init_613 rfl rfl (Nat.le_of_ble_eq_true rfl) (Nat.le_of_ble_eq_true rfl) ?_
  refine jn_dup 615 dX10_init_614 rfl rfl ?_
  refine jn_bipush (nI 12) 617 dX10_init_615 rfl rfl ?_
  refine jn_bipush (nI 115) 619 dX10_init_617 rfl rfl ?_
  refine jn_iast (k := 12) 620 dX10_init_619 rfl rfl (Nat.le_of_ble_eq_true rfl) (Nat.le_of_ble_eq_true rfl) ?_
  refine jn_dup 621 dX10_init_620 rfl rfl ?_
  refine jn_bipush (nI 13) 623 dX10_init_621 rfl rfl ?_
  refine jn_bipush (nI 32) 625 dX10_init_623 rfl rfl ?_
  refine jn_iast (k := 13) 626 dX10_init_625 rfl rfl (Nat.le_of_ble_eq_true rfl) (Nat.le_of_ble_eq_true rfl) ?_
  refine jn_dup 627 dX10_init_626 rfl rfl ?_
  refine jn_bipush (nI 14) 629 dX10_init_627 rfl rfl ?_
  refine jn_bipush (nI 32) 631 dX10_init_629 rfl rfl ?_
  refine jn_iast (k := 14) 632 dX10_init_631 rfl rfl (Nat.le_of_ble_eq_true rfl) (Nat.le_of_ble_eq_true rfl) ?_
  refine jn_dup 633 dX10_init_632 rfl rfl ?_
  refine jn_bipush (nI 15) 635 dX10_init_633 rfl rfl ?_
  refine jn_bipush (nI 32) 637 dX10_init_635 rfl rfl ?_
  refine jn_iast (k := 15) 638 dX10_init_637 rfl rfl (Nat.le_of_ble_eq_true rfl) (Nat.le_of_ble_eq_true rfl) ?_
  refine jn_dup 639 dX10_init_638 rfl rfl ?_
  refine jn_bipush (nI 16) 641 dX10_init_639 rfl rfl ?_
  refine jn_bipush (nI 108) 643 dX10_init_641 rfl rfl ?_
  refine jn_iast (k := 16) 644 dX10_init_643 rfl rfl (Nat.le_of_ble_eq_true rfl) (Nat.le_of_ble_eq_true rfl) ?_
  refine jn_dup 645 dX10_init_644 rfl rfl ?_
  refine jn_bipush (nI 17) 647 dX10_init_645 rfl rfl ?_
  refine jn_bipush (nI 111) 649 dX10_init_647 rfl rfl ?_
  refine jn_iast (k := 17) 650 dX10_init_649 rfl rfl (Nat.le_of_ble_eq_true rfl) (Nat.le_of_ble_eq_true rfl) ?_
  refine jn_dup 651 dX10_init_650 rfl rfl ?_
  refine jn_bipush (nI 18) 653 dX10_init_651 rfl rfl ?_
  refine jn_bipush (nI 111) 655 dX10_init_653 rfl rfl ?_
  refine jn_iast (k := 18) 656 dX10_init_655 rfl rfl (Nat.le_of_ble_eq_true rfl) (Nat.le_of_ble_eq_true rfl) ?_
  refine jn_dup 657 dX10_init_656 rfl rfl ?_
  refine jn_bipush (nI 19) 659 dX10_init_657 rfl rfl ?_
  refine jn_bipush (nI 107) 661 dX10_init_659 rfl rfl ?_
  refine jn_iast (k := 19) 662 dX10_init_661 rfl rfl (Nat.le_of_ble_eq_true rfl) (Nat.le_of_ble_eq_true rfl) ?_
  refine jn_dup 663 dX10_init_662 rfl rfl ?_
  refine jn_bipush (nI 20) 665 dX10_init_663 rfl rfl ?_
  refine jn_bipush (nI 115) 667 dX10_init_665 rfl rfl ?_
  refine jn_iast (k := 20) 668 dX10_init_667 rfl rfl (Nat.le_of_ble_eq_true rfl) (Nat.le_of_ble_eq_true rfl) ?_
  refine jn_dup 669 dX10_init_668 rfl rfl ?_
  refine jn_bipush (nI 21) 671 dX10_init_669 rfl rfl ?_
  refine jn_bipush (nI 32) 673 dX10_init_671 rfl rfl ?_
  refine jn_iast (k := 21) 674 dX10_init_673 rfl rfl (Nat.le_of_ble_eq_true rfl) (Nat.le_of_ble_eq_true rfl) ?_
  refine jn_dup 675 dX10_init_674 rfl rfl ?_
  refine jn_bipush (nI 22) 677 dX10_init_675 rfl rfl ?_
  refine jn_bipush (nI 32) 679 dX10_init_677 rfl rfl ?_
  refine jn_iast (k := 22) 680 dX10_init_679 rfl rfl (Nat.le_of_ble_eq_true rfl) (Nat.le_of_ble_eq_true rfl) ?_
  refine jn_dup 681 dX10_init_680 rfl rfl ?_
  refine jn_bipush (nI 23) 683 dX10_init_681 rfl rfl ?_
  refine jn_bipush (nI 32) 685 dX10_init_683 rfl rfl ?_
  refine jn_iast (k := 23) 686 dX10_init_685 rfl rfl (Nat.le_of_ble_eq_true rfl) (Nat.le_of_ble_eq_true rfl) ?_
  refine jn_dup 687 dX10_init_686 rfl rfl ?_
  refine jn_bipush (nI 24) 689 dX10_init_687 rfl rfl ?_
  refine jn_bipush (nI 119) 691 dX10_init_689 rfl rfl ?_
  refine jn_iast (k := 24) 692 dX10_init_691 rfl rfl (Nat.le_of_ble_eq_true rfl) (Nat.le_of_ble_eq_true rfl) ?_
  refine jn_dup 693 dX10_init_692 rfl rfl ?_
  refine jn_bipush (nI 25) 695 dX10_init_693 rfl rfl ?_
  refine jn_bipush (nI 97) 697 dX10_init_695 rfl rfl ?_
  refine jn_iast (k := 25) 698 dX10_init_697 rfl rfl (Nat.le_of_ble_eq_true rfl) (Nat.le_of_ble_eq_true rfl) ?_
  refine jn_dup 699 dX10_init_698 rfl rfl ?_
  refine jn_bipush (nI 26) 701 dX10_init_699 rfl rfl ?_
  refine jn_bipush (nI 114) 703 dX10_init_701 rfl rfl ?_
  refine jn_iast (k := 26) 704 dX10_init_703 rfl rfl (Nat.le_of_ble_eq_true rfl) (Nat.le_of_ble_eq_true rfl) ?_
  refine jn_dup 705 dX10_init_704 rfl rfl ?_
  refine jn_bipush (nI 27) 707 dX10_init_705 rfl rfl ?_
  refine jn_bipush (nI 109) 709 dX10_init_707 rfl rfl ?_
  refine jn_iast (k := 27) 710 dX10_init_709 rfl rfl (Nat.le_of_ble_eq_true rfl) (Nat.le_of_ble_eq_true rfl) ?_
  refine jn_dup 711 dX10_init_710 rfl rfl ?_
  refine jn_bipush (nI 28) 713 dX10_init_711 rfl rfl ?_
  refine jn_bipush (nI 116) 715 dX10_init_713 rfl rfl ?_
  refine jn_iast (k := 28) 716 dX10_init_715 rfl rfl (Nat.le_of_ble_eq_true rfl) (Nat.le_of_ble_eq_true rfl) ?_
  refine jn_dup 717 dX10_init_716 rfl rfl ?_
  refine jn_bipush (nI 29) 719 dX10_init_717 rfl rfl ?_
  refine jn_bipush (nI 104) 721 dX10_init_719 rfl rfl ?_
  refine jn_iast (k := 29) 722 dX10_init_721 rfl rfl (Nat.le_of_ble_eq_true rfl) (Nat.le_of_ble_eq_true rfl) ?_
  refine jn_dup 723 dX10_init_722 rfl rfl ?_
  refine jn_bipush (nI 30) 725 dX10_init_723 rfl rfl ?_
  refine jn_bipush (nI 32) 727 dX10_init_725 rfl rfl ?_
  refine jn_iast (k := 30) 728 dX10_init_727 rfl rfl (Nat.le_of_ble_eq_true rfl) (Nat.le_of_ble_eq_true rfl) ?_
  refine jn_dup 729 dX10_init_728 rfl rfl ?_
  refine jn_bipush (nI 31) 731 dX10_init_729 rfl rfl ?_
  refine jn_bipush (nI 32) 733 dX10_init_731 rfl rfl ?_
  refine jn_iast (k := 31) 734 dX10_init_733 rfl rfl (Nat.le_of_ble_eq_true rfl) (Nat.le_of_ble_eq_true rfl) ?_
  refine jn_dup 735 dX10_init_734 rfl rfl ?_
  refine jn_bipush (nI 32) 737 dX10_init_735 rfl rfl ?_
  refine jn_bipush (nI 103) 739 dX10_init_737 rfl rfl ?_
  refine jn_iast (k := 32) 740 dX10_init_739 rfl rfl (Nat.le_of_ble_eq_true rfl) (Nat.le_of_ble_eq_true rfl) ?_
  refine jn_dup 741 dX10_init_740 rfl rfl ?_
  refine jn_bipush (nI 33) 743 dX10_init_741 rfl rfl ?_
  refine jn_bipush (nI 108) 745 dX10_init_743 rfl rfl ?_
  refine jn_iast (k := 33) 746 dX10_init_745 rfl rfl (Nat.le_of_ble_eq_true rfl) (Nat.le_of_ble_eq_true rfl) ?_
  refine jn_dup 747 dX10_init_746 rfl rfl ?_
  refine jn_bipush (nI 34) 749 dX10_init_747 rfl rfl ?_
  refine jn_bipush (nI 97) 751 dX10_init_749 rfl rfl ?_
  refine jn_iast (k := 34) 752 dX10_init_751 rfl rfl (Nat.le_of_ble_eq_true rfl) (Nat.le_of_ble_eq_true rfl) ?_
  refine jn_dup 753 dX10_init_752 rfl rfl ?_
  refine jn_bipush (nI 35) 755 dX10_init_753 rfl rfl ?_
  refine jn_bipush (nI 110) 757 dX10_init_755 rfl rfl ?_
  refine jn_iast (k := 35) 758 dX10_init_757 rfl rfl (Nat.le_of_ble_eq_true rfl) (Nat.le_of_ble_eq_true rfl) ?_
  refine jn_dup 759 dX10_init_758 rfl rfl ?_
  refine jn_bipush (nI 36) 761 dX10_init_759 rfl rfl ?_
  refine jn_bipush (nI 99) 763 dX10_init_761 rfl rfl ?_
  refine jn_iast (k := 36) 764 dX10_init_763 rfl rfl (Nat.le_of_ble_eq_true rfl) (Nat.le_of_ble_eq_true rfl) ?_
  refine jn_dup 765 dX10_init_764 rfl rfl ?_
  refine jn_bipush (nI 37) 767 dX10_init_765 rfl rfl ?_
  refine jn_bipush (nI 101) 769 dX10_init_767 rfl rfl ?_
  refine jn_iast (k := 37) 770 dX10_init_769 rfl rfl (Nat.le_of_ble_eq_true rfl) (Nat.le_of_ble_eq_true rfl) ?_
  refine jn_dup 771 dX10_init_770 rfl rfl ?_
  refine jn_bipush (nI 38) 773 dX10_init_771 rfl rfl ?_
  refine jn_bipush (nI 115) 775 dX10_init_773 rfl rfl ?_
  refine jn_iast (k := 38) 776 dX10_init_775 rfl rfl (Nat.le_of_ble_eq_true rfl) (Nat.le_of_ble_eq_true rfl) ?_
  refine jn_dup 777 dX10_init_776 rfl rfl ?_
  refine jn_bipush (nI 39) 779 dX10_init_777 rfl rfl ?_
  refine jn_bipush (nI 32) 781 dX10_init_779 rfl rfl ?_
  refine jn_iast (k := 39) 782 dX10_init_781 rfl rfl (Nat.le_of_ble_eq_true rfl) (Nat.le_of_ble_eq_true rfl) ?_
  refine jn_dup 783 dX10_init_782 rfl rfl ?_
  refine jn_bipush (nI 40) 785 dX10_init_783 rfl rfl ?_
  refine jn_bipush (nI 108) 787 dX10_init_785 rfl rfl ?_
  refine jn_iast (k := 40) 788 dX10_init_787 rfl rfl (Nat.le_of_ble_eq_true rfl) (Nat.le_of_ble_eq_true rfl) ?_
  refine jn_dup 789 dX10_init_788 rfl rfl ?_
  refine jn_bipush (nI 41) 791 dX10_init_789 rfl rfl ?_
  refine jn_bipush (nI 105) 793 dX10_init_791 rfl rfl ?_
  refine jn_iast (k := 41) 794 dX10_init_793 rfl rfl (Nat.le_of_ble_eq_true rfl) (Nat.le_of_ble_eq_true rfl) ?_
  refine jn_dup 795 dX10_init_794 rfl rfl ?_
  refine jn_bipush (nI 42) 797 dX10_init_795 rfl rfl ?_
  refine jn_bipush (nI 103) 799 dX10_init_797 rfl rfl ?_
  refine jn_iast (k := 42) 800 dX10_init_799 rfl rfl (Nat.le_of_ble_eq_true rfl) (Nat.le_of_ble_eq_true rfl) ?_
  refine jn_dup 801 dX10_init_800 rfl rfl ?_
  refine jn_bipush (nI 43) 803 dX10_init_801 rfl rfl ?_
  refine jn_bipush (nI 104) 805 dX10_init_803 rfl rfl ?_
  refine jn_iast (k := 43) 806 dX10_init_805 rfl rfl (Nat.le_of_ble_eq_true rfl) (Nat.le_of_ble_eq_true rfl) ?_
  refine jn_dup 807 dX10_init_806 rfl rfl ?_
  refine jn_bipush (nI 44) 809 dX10_init_807 rfl rfl ?_
  refine jn_bipush (nI 116) 811 dX10_init_809 rfl rfl ?_
  refine jn_iast (k := 44) 812 dX10_init_811 rfl rfl (Nat.le_of_ble_eq_true rfl) (Nat.le_of_ble_eq_true rfl) ?_
  refine jn_dup 813 dX10_init_812 rfl rfl ?_
  refine jn_bipush (nI 45) 815 dX10_init_813 rfl rfl ?_
  refine jn_bipush (nI 32) 817 dX10_init_815 rfl rfl ?_
  refine jn_iast (k := 45) 818 dX10_init_817 rfl rfl (Nat.le_of_ble_eq_true rfl) (Nat.le_of_ble_eq_true rfl) ?_
  refine jn_dup 819 dX10_init_818 rfl rfl ?_
  refine jn_bipush (nI 46) 821 dX10_init_819 rfl rfl ?_
  refine jn_bipush (nI 32) 823 dX10_init_821 rfl rfl ?_
  refine jn_iast (k := 46) 824 dX10_init_823 rfl rfl (Nat.le_of_ble_eq_true rfl) (Nat.le_of_ble_eq_true rfl) ?_
  refine jn_dup 825 dX10_init_824 rfl rfl ?_
  refine jn_bipush (nI 47) 827 dX10_init_825 rfl rfl ?_
  refine jn_bipush (nI 32) 829 dX10_init_827 rfl rfl ?_
  refine jn_iast (k := 47) 830 dX10_init_829 rfl rfl (Nat.le_of_ble_eq_true rfl) (Nat.le_of_ble_eq_true rfl) ?_
  refine jn_dup 831 dX10_init_830 rfl rfl ?_
  refine jn_bipush (nI 48) 833 dX10_init_831 rfl rfl ?_
  refine jn_bipush (nI 115) 835 dX10_init_833 rfl rfl ?_
  refine jn_iast (k := 48) 836 dX10_init_835 rfl rfl (Nat.le_of_ble_eq_true rfl) (Nat.le_of_ble_eq_true rfl) ?_
  refine jn_dup 837 dX10_init_836 rfl rfl ?_
  refine jn_bipush (nI 49) 839 dX10_init_837 rfl rfl ?_
  refine jn_bipush (nI 101) 841 dX10_init_839 rfl rfl ?_
  refine jn_iast (k := 49) 842 dX10_init_841 rfl rfl (Nat.le_of_ble_eq_true rfl) (Nat.le_of_ble_eq_true rfl) ?_
  refine jn_dup 843 dX10_init_842 rfl rfl ?_
  refine jn_bipush (nI 50) 845 dX10_init_843 rfl rfl ?_
  refine jn_bipush (nI 99) 847 dX10_init_845 rfl rfl ?_
  refine jn_iast (k := 50) 848 dX10_init_847 rfl rfl (Nat.le_of_ble_eq_true rfl) (Nat.le_of_ble_eq_true rfl) ?_
  refine jn_dup 849 dX10_init_848 rfl rfl ?_
  refine jn_bipush (nI 51) 851 dX10_init_849 rfl rfl ?_
  refine jn_bipush (nI 111) 853 dX10_init_851 rfl rfl ?_
  refine jn_iast (k := 51) 854 dX10_init_853 rfl rfl (Nat.le_of_ble_eq_true rfl) (Nat.le_of_ble_eq_true rfl) ?_
  refine jn_dup 855 dX10_init_854 rfl rfl ?_
  refine jn_bipush (nI 52) 857 dX10_init_855 rfl rfl ?_
  refine jn_bipush (nI 110) 859 dX10_init_857 rfl rfl ?_
  refine jn_iast (k := 52) 860 dX10_init_859 rfl rfl (Nat.le_of_ble_eq_true rfl) (Nat.le_of_ble_eq_true rfl) ?_
  refine jn_dup 861 dX10_init_860 rfl rfl ?_
  refine jn_bipush (nI 53) 863 dX10_init_861 rfl rfl ?_
  refine jn_bipush (nI 100) 865 dX10_init_863 rfl rfl ?_
  refine jn_iast (k := 53) 866 dX10_init_865 rfl rfl (Nat.le_of_ble_eq_true rfl) (Nat.le_of_ble_eq_true rfl) ?_
  refine jn_dup 867 dX10_init_866 rfl rfl ?_
  refine jn_bipush (nI 54) 869 dX10_init_867 rfl rfl ?_
  refine jn_bipush (nI 32) 871 dX10_init_869 rfl rfl ?_
  refine jn_iast (k := 54) 872 dX10_init_871 rfl rfl (Nat.le_of_ble_eq_true rfl) (Nat.le_of_ble_eq_true rfl) ?_
  refine jn_dup 873 dX10_init_872 rfl rfl ?_
  refine jn_bipush (nI 55) 875 dX10_init_873 rfl rfl ?_
  refine jn_bipush (nI 32) 877 dX10_init_875 rfl rfl ?_
  refine jn_iast (k := 55) 878 dX10_init_877 rfl rfl (Nat.le_of_ble_eq_true rfl) (Nat.le_of_ble_eq_true rfl) ?_
  refine jn_dup 879 dX10_init_878 rfl rfl ?_
  refine jn_bipush (nI 56) 881 dX10_init_879 rfl rfl ?_
  refine jn_bipush (nI 115) 883 dX10_init_881 rfl rfl ?_
  refine jn_iast (k := 56) 884 dX10_init_883 rfl rfl (Nat.le_of_ble_eq_true rfl) (Nat.le_of_ble_eq_true rfl) ?_
  refine jn_dup 885 dX10_init_884 rfl rfl ?_
  refine jn_bipush (nI 57) 887 dX10_init_885 rfl rfl ?_
  refine jn_bipush (nI 101) 889 dX10_init_887 rfl rfl ?_
  refine jn_iast (k := 57) 890 dX10_init_889 rfl rfl (Nat.le_of_ble_eq_true rfl) (Nat.le_of_ble_eq_true rfl) ?_
  refine jn_dup 891 dX10_init_890 rfl rfl ?_
  refine jn_bipush (nI 58) 893 dX10_init_891 rfl rfl ?_
  refine jn_bipush (nI 101) 895 dX10_init_893 rfl rfl ?_
  refine jn_iast (k := 58) 896 dX10_init_895 rfl rfl (Nat.le_of_ble_eq_true rfl) (Nat.le_of_ble_eq_true rfl) ?_
  refine jn_dup 897 dX10_init_896 rfl rfl ?_
  refine jn_bipush (nI 59) 899 dX10_init_897 rfl rfl ?_
  refine jn_bipush (nI 110) 901 dX10_init_899 rfl rfl ?_
  refine jn_iast (k := 59) 902 dX10_init_901 rfl rfl (Nat.le_of_ble_eq_true rfl) (Nat.le_of_ble_eq_true rfl) ?_
  refine jn_dup 903 dX10_init_902 rfl rfl ?_
  refine jn_bipush (nI 60) 905 dX10_init_903 rfl rfl ?_
  refine jn_bipush (nI 32) 907 dX10_init_905 rfl rfl ?_
  refine jn_iast (k := 60) 908 dX10_init_907 rfl rfl (Nat.le_of_ble_eq_true rfl) (Nat.le_of_ble_eq_true rfl) ?_
  refine jn_dup 909 dX10_init_908 rfl rfl ?_
  refine jn_bipush (nI 61) 911 dX10_init_909 rfl rfl ?_
  refine jn_bipush (nI 32) 913 dX10_init_911 rfl rfl ?_
  refine jn_iast (k := 61) 914 dX10_init_913 rfl rfl (Nat.le_of_ble_eq_true rfl) (Nat.le_of_ble_eq_true rfl) ?_
  refine jn_dup 915 dX10_init_914 rfl rfl ?_
  refine jn_bipush (nI 62) 917 dX10_init_915 rfl rfl ?_
  refine jn_bipush (nI 32) 919 dX10_init_917 rfl rfl ?_
  refine jn_iast (k := 62) 920 dX10_init_919 rfl rfl (Nat.le_of_ble_eq_true rfl) (Nat.le_of_ble_eq_true rfl) ?_
  refine jn_dup 921 dX10_init_920 rfl rfl ?_
  refine jn_bipush (nI 63) 923 dX10_init_921 rfl rfl ?_
  refine jn_bipush (nI 32) 925 dX10_init_923 rfl rfl ?_
  refine jn_iast (k := 63) 926 dX10_init_925 rfl rfl (Nat.le_of_ble_eq_true rfl) (Nat.le_of_ble_eq_true rfl) ?_
  refine jn_dup 927 dX10_init_926 rfl rfl ?_
  refine jn_bipush (nI 64) 929 dX10_init_927 rfl rfl ?_
  refine jn_bipush (nI 109) 931 dX10_init_929 rfl rfl ?_
  refine jn_iast (k := 64) 932 dX10_init_931 rfl rfl (Nat.le_of_ble_eq_true rfl) (Nat.le_of_ble_eq_true rfl) ?_
  refine jn_dup 933 dX10_init_932 rfl rfl ?_
  refine jn_bipush (nI 65) 935 dX10_init_933 rfl rfl ?_
  refine jn_bipush (nI 111) 937 dX10_init_935 rfl rfl ?_
  refine jn_iast (k := 65) 938 dX10_init_937 rfl rfl (Nat.le_of_ble_eq_true rfl) (Nat.le_of_ble_eq_true rfl) ?_
  refine jn_dup 939 dX10_init_938 rfl rfl ?_
  refine jn_bipush (nI 66) 941 dX10_init_939 rfl rfl ?_
  refine jn_bipush (nI 114) 943 dX10_init_941 rfl rfl ?_
  refine jn_iast (k := 66) 944 dX10_init_943 rfl rfl (Nat.le_of_ble_eq_true rfl) (Nat.le_of_ble_eq_true rfl) ?_
  refine jn_dup 945 dX10_init_944 rfl rfl ?_
  refine jn_bipush (nI 67) 947 dX10_init_945 rfl rfl ?_
  refine jn_bipush (nI 101) 949 dX10_init_947 rfl rfl ?_
  refine jn_iast (k := 67) 950 dX10_init_949 rfl rfl (Nat.le_of_ble_eq_true rfl) (Nat.le_of_ble_eq_true rfl) ?_
  refine jn_dup 951 dX10_init_950 rfl rfl ?_
  refine jn_bipush (nI 68) 953 dX10_init_951 rfl rfl ?_
  refine jn_bipush (nI 32) 955 dX10_init_953 rfl rfl ?_
  refine jn_iast (k := 68) 956 dX10_init_955 rfl rfl (Nat.le_of_ble_eq_true rfl) (Nat.le_of_ble_eq_true rfl) ?_
  refine jn_dup 957 dX10_init_956 rfl rfl ?_
  refine jn_bipush (nI 69) 959 dX10_init_957 rfl rfl ?_
  refine jn_bipush (nI 32) 961 dX10_init_959 rfl rfl ?_
  refine jn_iast (k := 69) 962 dX10_init_961 rfl rfl (Nat.le_of_ble_eq_true rfl) (Nat.le_of_ble_eq_true rfl) ?_
  refine jn_dup 963 dX10_init_962 rfl rfl ?_
  refine jn_bipush (nI 70) 965 dX10_init_963 rfl rfl ?_
  refine jn_bipush (nI 32) 967 dX10_init_965 rfl rfl ?_
  refine jn_iast (k := 70) 968 dX10_init_967 rfl rfl (Nat.le_of_ble_eq_true rfl) (Nat.le_of_ble_eq_true rfl) ?_
  refine jn_dup 969 dX10_init_968 rfl rfl ?_
  refine jn_bipush (nI 71) 971 dX10_init_969 rfl rfl ?_
  refine jn_bipush (nI 32) 973 dX10_init_971 rfl rfl ?_
  refine jn_iast (k := 71) 974 dX10_init_973 rfl rfl (Nat.le_of_ble_eq_true rfl) (Nat.le_of_ble_eq_true rfl) ?_
  refine jn_dup 975 dX10_init_974 rfl rfl ?_
  refine jn_bipush (nI 72) 977 dX10_init_975 rfl rfl ?_
  refine jn_bipush (nI 111) 979 dX10_init_977 rfl rfl ?_
  refine jn_iast (k := 72) 980 dX10_init_979 rfl rfl (Nat.le_of_ble_eq_true rfl) (Nat.le_of_ble_eq_true rfl) ?_
  refine jn_dup 981 dX10_init_980 rfl rfl ?_
  refine jn_bipush (nI 73) 983 dX10_init_981 rfl rfl ?_
  refine jn_bipush (nI 114) 985 dX10_init_983 rfl rfl ?_
  refine jn_iast (k := 73) 986 dX10_init_985 rfl rfl (Nat.le_of_ble_eq_true rfl) (Nat.le_of_ble_eq_true rfl) ?_
  refine jn_dup 987 dX10_init_986 rfl rfl ?_
  refine jn_bipush (nI 74) 989 dX10_init_987 rfl rfl ?_
  refine jn_bipush (nI 32) 991 dX10_init_989 rfl rfl ?_
  refine jn_iast (k := 74) 992 dX10_init_991 rfl rfl (Nat.le_of_ble_eq_true rfl) (Nat.le_of_ble_eq_true rfl) ?_
  refine jn_dup 993 dX10_init_992 rfl rfl ?_
  refine jn_bipush (nI 75) 995 dX10_init_993 rfl rfl ?_
  refine jn_bipush (nI 32) 997 dX10_init_995 rfl rfl ?_
  refine jn_iast (k := 75) 998 dX10_init_997 rfl rfl (Nat.le_of_ble_eq_true rfl) (Nat.le_of_ble_eq_true rfl) ?_
  refine jn_dup 999 dX10_init_998 rfl rfl ?_
  refine jn_bipush (nI 76) 1001 dX10_init_999 rfl rfl ?_
  refine jn_bipush (nI 32) 1003 dX10_init_1001 rfl rfl ?_
  refine jn_iast (k := 76) 1004 dX10_init_1003 rfl rfl (Nat.le_of_ble_eq_true rfl) (Nat.le_of_ble_eq_true rfl) ?_
  refine jn_dup 1005 dX10_init_1004 rfl rfl ?_
  refine jn_bipush (nI 77) 1007 dX10_init_1005 rfl rfl ?_
  refine jn_bipush (nI 32) 1009 dX10_init_1007 rfl rfl ?_
  refine jn_iast (k := 77) 1010 dX10_init_1009 rfl rfl (Nat.le_of_ble_eq_true rfl) (Nat.le_of_ble_eq_true rfl) ?_
  refine jn_dup 1011 dX10_init_1010 rfl rfl ?_
  refine jn_bipush (nI 78) 1013 dX10_init_1011 rfl rfl ?_
  refine jn_bipush (nI 32) 1015 dX10_init_1013 rfl rfl ?_
  refine jn_iast (k := 78) 1016 dX10_init_1015 rfl rfl (Nat.le_of_ble_eq_true rfl) (Nat.le_of_ble_eq_true rfl) ?_
  refine jn_dup 1017 dX10_init_1016 rfl rfl ?_
  refine jn_bipush (nI 79) 1019 dX10_init_1017 rfl rfl ?_
  refine jn_bipush (nI 32) 1021 dX10_init_1019 rfl rfl ?_
  refine jn_iast (k := 79) 1022 dX10_init_1021 rfl rfl (Nat.le_of_ble_eq_true rfl) (Nat.le_of_ble_eq_true rfl) ?_
  refine jn_dup 1023 dX10_init_1022 rfl rfl ?_
  refine jn_bipush (nI 80) 1025 dX10_init_1023 rfl rfl ?_
  refine jn_bipush (nI 97) 1027 dX10_init_1025 rfl rfl ?_
  refine jn_iast (k := 80) 1028 dX10_init_1027 rfl rfl (Nat.le_of_ble_eq_true rfl) (Nat.le_of_ble_eq_true rfl) ?_
  refine jn_dup 1029 dX10_init_1028 rfl rfl ?_
  refine jn_bipush (nI 81) 1031 dX10_init_1029 rfl rfl ?_
  refine jn_bipush (nI 110) 1033 dX10_init_1031 rfl rfl ?_
  refine jn_iast (k := 81) 1034 dX10_init_1033 rfl rfl (Nat.le_of_ble_eq_true rfl) (Nat.le_of_ble_eq_true rfl) ?_
  refine jn_dup 1035 dX10_init_1034 rfl rfl ?_
  refine jn_bipush (nI 82) 1037 dX10_init_1035 rfl rfl ?_
  refine jn_bipush (nI 100) 1039 dX10_init_1037 rfl rfl ?_
  refine jn_iast (k := 82) 1040 dX10_init_1039 rfl rfl (Nat.le_of_ble_eq_true rfl) (Nat.le_of_ble_eq_true rfl) ?_
  refine jn_dup 1041 dX10_init_1040 rfl rfl ?_
  refine jn_bipush (nI 83) 1043 dX10_init_1041 rfl rfl ?_
  refine jn_bipush (nI 32) 1045 dX10_init_1043 rfl rfl ?_
  refine jn_iast (k := 83) 1046 dX10_init_1045 rfl rfl (Nat.le_of_ble_eq_true rfl) (Nat.le_of_ble_eq_true rfl) ?_
  refine jn_dup 1047 dX10_init_1046 rfl rfl ?_
  refine jn_bipush (nI 84) 1049 dX10_init_1047 rfl rfl ?_
  refine jn_bipush (nI 32) 1051 dX10_init_1049 rfl rfl ?_
  refine jn_iast (k := 84) 1052 dX10_init_1051 rfl rfl (Nat.le_of_ble_eq_true rfl) (Nat.le_of_ble_eq_true rfl) ?_
  refine jn_dup 1053 dX10_init_1052 rfl rfl ?_
  refine jn_bipush (nI 85) 1055 dX10_init_1053 rfl rfl ?_
  refine jn_bipush (nI 32) 1057 dX10_init_1055 rfl rfl ?_
  refine jn_iast (k := 85) 1058 dX10_init_1057 rfl rfl (Nat.le_of_ble_eq_true rfl) (Nat.le_of_ble_eq_true rfl) ?_
  refine jn_dup 1059 dX10_init_1058 rfl rfl ?_
  refine jn_bipush (nI 86) 1061 dX10_init_1059 rfl rfl ?_
  refine jn_bipush (nI 32) 1063 dX10_init_1061 rfl rfl ?_
  refine jn_iast (k := 86) 1064 dX10_init_1063 rfl rfl (Nat.le_of_ble_eq_true rfl) (Nat.le_of_ble_eq_true rfl) ?_
  refine jn_dup 1065 dX10_init_1064 rfl rfl ?_
  refine jn_bipush (nI 87) 1067 dX10_init_1065 rfl rfl ?_
  refine jn_bipush (nI 32) 1069 dX10_init_1067 rfl rfl ?_
  refine jn_iast (k := 87) 1070 dX10_init_1069 rfl rfl (Nat.le_of_ble_eq_true rfl) (Nat.le_of_ble_eq_true rfl) ?_
  refine jn_dup 1071 dX10_init_1070 rfl rfl ?_
  refine jn_bipush (nI 88) 1073 dX10_init_1071 rfl rfl ?_
  refine jn_bipush (nI 110) 1075 dX10_init_1073 rfl rfl ?_
  refine jn_iast (k := 88) 1076 dX10_init_1075 rfl rfl (Nat.le_of_ble_eq_true rfl) (Nat.le_of_ble_eq_true rfl) ?_
  refine jn_dup 1077 dX10_init_1076 rfl rfl ?_
  refine jn_bipush (nI 89) 1079 dX10_init_1077 rfl rfl ?_
  refine jn_bipush (nI 111) 1081 dX10_init_1079 rfl rfl ?_
  refine jn_iast (k := 89) 1082 dX10_init_1081 rfl rfl (Nat.le_of_ble_eq_true rfl) (Nat.le_of_ble_eq_true rfl) ?_
  refine jn_dup 1083 dX10_init_1082 rfl rfl ?_
  refine jn_bipush (nI 90) 1085 dX10_init_1083 rfl rfl ?_
  refine jn_bipush (nI 116) 1087 dX10_init_1085 rfl rfl ?_
  refine jn_iast (k := 90) 1088 dX10_init_1087 rfl rfl (Nat.le_of_ble_eq_true rfl) (Nat.le_of_ble_eq_true rfl) ?_
  refine jn_dup 1089 dX10_init_1088 rfl rfl ?_
  refine jn_bipush (nI 91) 1091 dX10_init_1089 rfl rfl ?_
  refine jn_bipush (nI 32) 1093 dX10_init_1091 rfl rfl ?_
  refine jn_iast (k := 91) 1094 dX10_init_1093 rfl rfl (Nat.le_of_ble_eq_true rfl) (Nat.le_of_ble_eq_true rfl) ?_
  refine jn_dup 1095 dX10_init_1094 rfl rfl ?_
  refine jn_bipush (nI 92) 1097 dX10_init_1095 rfl rfl ?_
  refine jn_bipush (nI 32) 1099 dX10_init_1097 rfl rfl ?_
  refine jn_iast (k := 92) 1100 dX10_init_1099 rfl rfl (Nat.le_of_ble_eq_true rfl) (Nat.le_of_ble_eq_true rfl) ?_
  refine jn_dup 1101 dX10_init_1100 rfl rfl ?_
  refine jn_bipush (nI 93) 1103 dX10_init_1101 rfl rfl ?_
  refine jn_bipush (nI 32) 1105 dX10_init_1103 rfl rfl ?_
  refine jn_iast (k := 93) 1106 dX10_init_1105 rfl rfl (Nat.le_of_ble_eq_true rfl) (Nat.le_of_ble_eq_true rfl) ?_
  refine jn_dup 1107 dX10_init_1106 rfl rfl ?_
  refine jn_bipush (nI 94) 1109 dX10_init_1107 rfl rfl ?_
  refine jn_bipush (nI 32) 1111 dX10_init_1109 rfl rfl ?_
  refine jn_iast (k := 94) 1112 dX10_init_1111 rfl rfl (Nat.le_of_ble_eq_true rfl) (Nat.le_of_ble_eq_true rfl) ?_
  refine jn_dup 1113 dX10_init_1112 rfl rfl ?_
  refine jn_bipush (nI 95) 1115 dX10_init_1113 rfl rfl ?_
  refine jn_bipush (nI 32) 1117 dX10_init_1115 rfl rfl ?_
  refine jn_iast (k := 95) 1118 dX10_init_1117 rfl rfl (Nat.le_of_ble_eq_true rfl) (Nat.le_of_ble_eq_true rfl) ?_
  refine jn_ws (ws' := pre ++ (a, .inr (8, [.ref q1, .int 0, .ref q2, .ref q3, .ref q4, .ref q5, .int 0, .ref q6, .ref q7, .int 0, .ref q8, .ref q9, .int 0, .int 0, .int 0, .int 0, .int 0, .int 0, .ref q10, .ref q11, .ref q12, .ref q13, .ref q14, .int 0, .int 0, .int 0, .int 0, .null, .null, .int 0, .int 0, .int 0, .null, .null, .null, .null, .null, .null, .null, .int 0, .int 0, .int 0, .int 0, .int 0, .null, .int 0, .int 0, .null, .null])) :: [(q1, .inl (I, (8, .inl (fun _ => 0)))), (q2, .inl (I, (5, .inl (fun _ => 0)))), (q3, .inl (I, (5, .inl (fun _ => 0)))), (q4, .inl (I, (5, .inl (fun _ => 0)))), (q5, .inl (I, (5, .inl (fun _ => 0)))), (q6, .inl (I, (24, .inl (fun _ => 0)))), (q7, .inl (I, (160, .inl (fun _ => 0)))), (q8, .inl (I, (1200, .inl (fun _ => 0)))), (q9, .inl (I, (24, .inl (fun _ => 0)))), (q10, .inl (I, (42, .inl (fun _ => 0)))), (q11, .inl (I, (4, .inl (jm_f57)))), (q12, .inl (I, (4, .inl (fun _ => 0)))), (q13, .inl (I, (160, .inl (fun _ => 0)))), (q14, .inl (I, (70, .inl (jm_f60)))), (q15, .inl (I, (96, .inl (jm_f61))))]) (List.append_assoc _ _ _) ?_
  refine jn_putF (k := 27) (ty := .array .int) 1121 dX10_init_1118 rfl lay_X10 rfl tyX10 tyX10_ok nmX10 (by decide) rfl rfl rfl fl_X10_52 (by decide +kernel) rfl rfl (Nat.le_of_ble_eq_true rfl) ?_
  refine jn_aload_n 0 0 1122 dX10_init_1121 rfl rfl rfl ?_
  refine jn_sipush (nI 200) 1125 dX10_init_1122 rfl rfl ?_
  refine jn_newa (N := 200) 1127 dX10_init_1125 rfl rfl (Nat.le_of_ble_eq_true rfl) (Nat.le_of_ble_eq_true rfl) (Nat.le_of_ble_eq_true rfl) (fun q16 => ?_)
  refine jn_ws (ws' := pre ++ (a, .inr (8, [.ref q1, .int 0, .ref q2, .ref q3, .ref q4, .ref q5, .int 0, .ref q6, .ref q7, .int 0, .ref q8, .ref q9, .int 0, .int 0, .int 0, .int 0, .int 0, .int 0, .ref q10, .ref q11, .ref q12, .ref q13, .ref q14, .int 0, .int 0, .int 0, .int 0, .ref q15, .null, .int 0, .int 0, .int 0, .null, .null, .null, .null, .null, .null, .null, .int 0, .int 0, .int 0, .int 0, .int 0, .null, .int 0, .int 0, .null, .null])) :: [(q1, .inl (I, (8, .inl (fun _ => 0)))), (q2, .inl (I, (5, .inl (fun _ => 0)))), (q3, .inl (I, (5, .inl (fun _ => 0)))), (q4, .inl (I, (5, .inl (fun _ => 0)))), (q5, .inl (I, (5, .inl (fun _ => 0)))), (q6, .inl (I, (24, .inl (fun _ => 0)))), (q7, .inl (I, (160, .inl (fun _ => 0)))), (q8, .inl (I, (1200, .inl (fun _ => 0)))), (q9, .inl (I, (24, .inl (fun _ => 0)))), (q10, .inl (I, (42, .inl (fun _ => 0)))), (q11, .inl (I, (4, .inl (jm_f57)))), (q12, .inl (I, (4, .inl (fun _ => 0)))), (q13, .inl (I, (160, .inl (fun _ => 0)))), (q14, .inl (I, (70, .inl (jm_f60)))), (q15, .inl (I, (96, .inl (jm_f61)))), (q16, .inl (I, (200, .inl (fun _ => 0))))]) (List.append_assoc _ _ _) ?_
  refine jn_putF (k := 28) (ty := .array .int) 1130 dX10_init_1127 rfl lay_X10 rfl tyX10 tyX10_ok nmX10 (by decide) rfl rfl rfl fl_X10_55 (by decide +kernel) rfl rfl (Nat.le_of_ble_eq_true rfl) ?_
  refine jn_aload_n 0 0 1131 dX10_init_1130 rfl rfl rfl ?_
  refine jn_sipush (nI 200) 1134 dX10_init_1131 rfl rfl ?_
  refine jn_newa (N := 200) 1136 dX10_init_1134 rfl rfl (Nat.le_of_ble_eq_true rfl) (Nat.le_of_ble_eq_true rfl) (Nat.le_of_ble_eq_true rfl) (fun q17 => ?_)
  refine jn_ws (ws' := pre ++ (a, .inr (8, [.ref q1, .int 0, .ref q2, .ref q3, .ref q4, .ref q5, .int 0, .ref q6, .ref q7, .int 0, .ref q8, .ref q9, .int 0, .int 0, .int 0, .int 0, .int 0, .int 0, .ref q10, .ref q11, .ref q12, .ref q13, .ref q14, .int 0, .int 0, .int 0, .int 0, .ref q15, .ref q16, .int 0, .int 0, .int 0, .null, .null, .null, .null, .null, .null, .null, .int 0, .int 0, .int 0, .int 0, .int 0, .null, .int 0, .int 0, .null, .null])) :: [(q1, .inl (I, (8, .inl (fun _ => 0)))), (q2, .inl (I, (5, .inl (fun _ => 0)))), (q3, .inl (I, (5, .inl (fun _ => 0)))), (q4, .inl (I, (5, .inl (fun _ => 0)))), (q5, .inl (I, (5, .inl (fun _ => 0)))), (q6, .inl (I, (24, .inl (fun _ => 0)))), (q7, .inl (I, (160, .inl (fun _ => 0)))), (q8, .inl (I, (1200, .inl (fun _ => 0)))), (q9, .inl (I, (24, .inl (fun _ => 0)))), (q10, .inl (I, (42, .inl (fun _ => 0)))), (q11, .inl (I, (4, .inl (jm_f57)))), (q12, .inl (I, (4, .inl (fun _ => 0)))), (q13, .inl (I, (160, .inl (fun _ => 0)))), (q14, .inl (I, (70, .inl (jm_f60)))), (q15, .inl (I, (96, .inl (jm_f61)))), (q16, .inl (I, (200, .inl (fun _ => 0)))), (q17, .inl (I, (200, .inl (fun _ => 0))))]) (List.append_assoc _ _ _) ?_
  refine jn_putF (k := 32) (ty := .array .int) 1139 dX10_init_1136 rfl lay_X10 rfl tyX10 tyX10_ok nmX10 (by decide) rfl rfl rfl fl_X10_58 (by decide +kernel) rfl rfl (Nat.le_of_ble_eq_true rfl) ?_
  refine jn_aload_n 0 0 1140 dX10_init_1139 rfl rfl rfl ?_
  refine jn_bipush (nI 6) 1142 dX10_init_1140 rfl rfl ?_
  refine jn_newa (N := 6) 1144 dX10_init_1142 rfl rfl (Nat.le_of_ble_eq_true rfl) (Nat.le_of_ble_eq_true rfl) (Nat.le_of_ble_eq_true rfl) (fun q18 => ?_)
  refine jn_ws (ws' := pre ++ (a, .inr (8, [.ref q1, .int 0, .ref q2, .ref q3, .ref q4, .ref q5, .int 0, .ref q6, .ref q7, .int 0, .ref q8, .ref q9, .int 0, .int 0, .int 0, .int 0, .int 0, .int 0, .ref q10, .ref q11, .ref q12, .ref q13, .ref q14, .int 0, .int 0, .int 0, .int 0, .ref q15, .ref q16, .int 0, .int 0, .int 0, .ref q17, .null, .null, .null, .null, .null, .null, .int 0, .int 0, .int 0, .int 0, .int 0, .null, .int 0, .int 0, .null, .null])) :: [(q1, .inl (I, (8, .inl (fun _ => 0)))), (q2, .inl (I, (5, .inl (fun _ => 0)))), (q3, .inl (I, (5, .inl (fun _ => 0)))), (q4, .inl (I, (5, .inl (fun _ => 0)))), (q5, .inl (I, (5, .inl (fun _ => 0)))), (q6, .inl (I, (24, .inl (fun _ => 0)))), (q7, .inl (I, (160, .inl (fun _ => 0)))), (q8, .inl (I, (1200, .inl (fun _ => 0)))), (q9, .inl (I, (24, .inl (fun _ => 0)))), (q10, .inl (I, (42, .inl (fun _ => 0)))), (q11, .inl (I, (4, .inl (jm_f57)))), (q12, .inl (I, (4, .inl (fun _ => 0)))), (q13, .inl (I, (160, .inl (fun _ => 0)))), (q14, .inl (I, (70, .inl (jm_f60)))), (q15, .inl (I, (96, .inl (jm_f61)))), (q16, .inl (I, (200, .inl (fun _ => 0)))), (q17, .inl (I, (200, .inl (fun _ => 0)))), (q18, .inl (I, (6, .inl (fun _ => 0))))]) (List.append_assoc _ _ _) ?_
  refine jn_putF (k := 33) (ty := .array .int) 1147 dX10_init_1144 rfl lay_X10 rfl tyX10 tyX10_ok nmX10 (by decide) rfl rfl rfl fl_X10_61 (by decide +kernel) rfl rfl (Nat.le_of_ble_eq_true rfl) ?_
  refine jn_aload_n 0 0 1148 dX10_init_1147 rfl rfl rfl ?_
  refine jn_iconst (nI 5) 1149 dX10_init_1148 rfl rfl ?_
  refine jn_newa (N := 5) 1151 dX10_init_1149 rfl rfl (Nat.le_of_ble_eq_true rfl) (Nat.le_of_ble_eq_true rfl) (Nat.le_of_ble_eq_true rfl) (fun q19 => ?_)
  refine jn_ws (ws' := pre ++ (a, .inr (8, [.ref q1, .int 0, .ref q2, .ref q3, .ref q4, .ref q5, .int 0, .ref q6, .ref q7, .int 0, .ref q8, .ref q9, .int 0, .int 0, .int 0, .int 0, .int 0, .int 0, .ref q10, .ref q11, .ref q12, .ref q13, .ref q14, .int 0, .int 0, .int 0, .int 0, .ref q15, .ref q16, .int 0, .int 0, .int 0, .ref q17, .ref q18, .null, .null, .null, .null, .null, .int 0, .int 0, .int 0, .int 0, .int 0, .null, .int 0, .int 0, .null, .null])) :: [(q1, .inl (I, (8, .inl (fun _ => 0)))), (q2, .inl (I, (5, .inl (fun _ => 0)))), (q3, .inl (I, (5, .inl (fun _ => 0)))), (q4, .inl (I, (5, .inl (fun _ => 0)))), (q5, .inl (I, (5, .inl (fun _ => 0)))), (q6, .inl (I, (24, .inl (fun _ => 0)))), (q7, .inl (I, (160, .inl (fun _ => 0)))), (q8, .inl (I, (1200, .inl (fun _ => 0)))), (q9, .inl (I, (24, .inl (fun _ => 0)))), (q10, .inl (I, (42, .inl (fun _ => 0)))), (q11, .inl (I, (4, .inl (jm_f57)))), (q12, .inl (I, (4, .inl (fun _ => 0)))), (q13, .inl (I, (160, .inl (fun _ => 0)))), (q14, .inl (I, (70, .inl (jm_f60)))), (q15, .inl (I, (96, .inl (jm_f61)))), (q16, .inl (I, (200, .inl (fun _ => 0)))), (q17, .inl (I, (200, .inl (fun _ => 0)))), (q18, .inl (I, (6, .inl (fun _ => 0)))), (q19, .inl (I, (5, .inl (fun _ => 0))))]) (List.append_assoc _ _ _) ?_
  refine jn_putF (k := 34) (ty := .array .int) 1154 dX10_init_1151 rfl lay_X10 rfl tyX10 tyX10_ok nmX10 (by decide) rfl rfl rfl fl_X10_64 (by decide +kernel) rfl rfl (Nat.le_of_ble_eq_true rfl) ?_
  refine jn_aload_n 0 0 1155 dX10_init_1154 rfl rfl rfl ?_
  refine jn_iconst (nI 5) 1156 dX10_init_1155 rfl rfl ?_
  refine jn_newa (N := 5) 1158 dX10_init_1156 rfl rfl (Nat.le_of_ble_eq_true rfl) (Nat.le_of_ble_eq_true rfl) (Nat.le_of_ble_eq_true rfl) (fun q20 => ?_)
  refine jn_ws (ws' := pre ++ (a, .inr (8, [.ref q1, .int 0, .ref q2, .ref q3, .ref q4, .ref q5, .int 0, .ref q6, .ref q7, .int 0, .ref q8, .ref q9, .int 0, .int 0, .int 0, .int 0, .int 0, .int 0, .ref q10, .ref q11, .ref q12, .ref q13, .ref q14, .int 0, .int 0, .int 0, .int 0, .ref q15, .ref q16, .int 0, .int 0, .int 0, .ref q17, .ref q18, .ref q19, .null, .null, .null, .null, .int 0, .int 0, .int 0, .int 0, .int 0, .null, .int 0, .int 0, .null, .null])) :: [(q1, .inl (I, (8, .inl (fun _ => 0)))), (q2, .inl (I, (5, .inl (fun _ => 0)))), (q3, .inl (I, (5, .inl (fun _ => 0)))), (q4, .inl (I, (5, .inl (fun _ => 0)))), (q5, .inl (I, (5, .inl (fun _ => 0)))), (q6, .inl (I, (24, .inl (fun _ => 0)))), (q7, .inl (I, (160, .inl (fun _ => 0)))), (q8, .inl (I, (1200, .inl (fun _ => 0)))), (q9, .inl (I, (24, .inl (fun _ => 0)))), (q10, .inl (I, (42, .inl (fun _ => 0)))), (q11, .inl (I, (4, .inl (jm_f57)))), (q12, .inl (I, (4, .inl (fun _ => 0)))), (q13, .inl (I, (160, .inl (fun _ => 0)))), (q14, .inl (I, (70, .inl (jm_f60)))), (q15, .inl (I, (96, .inl (jm_f61)))), (q16, .inl (I, (200, .inl (fun _ => 0)))), (q17, .inl (I, (200, .inl (fun _ => 0)))), (q18, .inl (I, (6, .inl (fun _ => 0)))), (q19, .inl (I, (5, .inl (fun _ => 0)))), (q20, .inl (I, (5, .inl (fun _ => 0))))]) (List.append_assoc _ _ _) ?_
  refine jn_putF (k := 35) (ty := .array .int) 1161 dX10_init_1158 rfl lay_X10 rfl tyX10 tyX10_ok nmX10 (by decide) rfl rfl rfl fl_X10_67 (by decide +kernel) rfl rfl (Nat.le_of_ble_eq_true rfl) ?_
  refine jn_aload_n 0 0 1162 dX10_init_1161 rfl rfl rfl ?_
  refine jn_iconst (nI 5) 1163 dX10_init_1162 rfl rfl ?_
  refine jn_newa (N := 5) 1165 dX10_init_1163 rfl rfl (Nat.le_of_ble_eq_true rfl) (Nat.le_of_ble_eq_true rfl) (Nat.le_of_ble_eq_true rfl) (fun q21 => ?_)
  refine jn_ws (ws' := pre ++ (a, .inr (8, [.ref q1, .int 0, .ref q2, .ref q3, .ref q4, .ref q5, .int 0, .ref q6, .ref q7, .int 0, .ref q8, .ref q9, .int 0, .int 0, .int 0, .int 0, .int 0, .int 0, .ref q10, .ref q11, .ref q12, .ref q13, .ref q14, .int 0, .int 0, .int 0, .int 0, .ref q15, .ref q16, .int 0, .int 0, .int 0, .ref q17, .ref q18, .ref q19, .ref q20, .null, .null, .null, .int 0, .int 0, .int 0, .int 0, .int 0, .null, .int 0, .int 0, .null, .null])) :: [(q1, .inl (I, (8, .inl (fun _ => 0)))), (q2, .inl (I, (5, .inl (fun _ => 0)))), (q3, .inl (I, (5, .inl (fun _ => 0)))), (q4, .inl (I, (5, .inl (fun _ => 0)))), (q5, .inl (I, (5, .inl (fun _ => 0)))), (q6, .inl (I, (24, .inl (fun _ => 0)))), (q7, .inl (I, (160, .inl (fun _ => 0)))), (q8, .inl (I, (1200, .inl (fun _ => 0)))), (q9, .inl (I, (24, .inl (fun _ => 0)))), (q10, .inl (I, (42, .inl (fun _ => 0)))), (q11, .inl (I, (4, .inl (jm_f57)))), (q12, .inl (I, (4, .inl (fun _ => 0)))), (q13, .inl (I, (160, .inl (fun _ => 0)))), (q14, .inl (I, (70, .inl (jm_f60)))), (q15, .inl (I, (96, .inl (jm_f61)))), (q16, .inl (I, (200, .inl (fun _ => 0)))), (q17, .inl (I, (200, .inl (fun _ => 0)))), (q18, .inl (I, (6, .inl (fun _ => 0)))), (q19, .inl (I, (5, .inl (fun _ => 0)))), (q20, .inl (I, (5, .inl (fun _ => 0)))), (q21, .inl (I, (5, .inl (fun _ => 0))))]) (List.append_assoc _ _ _) ?_
  refine jn_putF (k := 36) (ty := .array .int) 1168 dX10_init_1165 rfl lay_X10 rfl tyX10 tyX10_ok nmX10 (by decide) rfl rfl rfl fl_X10_70 (by decide +kernel) rfl rfl (Nat.le_of_ble_eq_true rfl) ?_
  refine jn_aload_n 0 0 1169 dX10_init_1168 rfl rfl rfl ?_
  refine jn_iconst (nI 5) 1170 dX10_init_1169 rfl rfl ?_
  refine jn_newa (N := 5) 1172 dX10_init_1170 rfl rfl (Nat.le_of_ble_eq_true rfl) (Nat.le_of_ble_eq_true rfl) (Nat.le_of_ble_eq_true rfl) (fun q22 => ?_)
  refine jn_ws (ws' := pre ++ (a, .inr (8, [.ref q1, .int 0, .ref q2, .ref q3, .ref q4, .ref q5, .int 0, .ref q6, .ref q7, .int 0, .ref q8, .ref q9, .int 0, .int 0, .int 0, .int 0, .int 0, .int 0, .ref q10, .ref q11, .ref q12, .ref q13, .ref q14, .int 0, .int 0, .int 0, .int 0, .ref q15, .ref q16, .int 0, .int 0, .int 0, .ref q17, .ref q18, .ref q19, .ref q20, .ref q21, .null, .null, .int 0, .int 0, .int 0, .int 0, .int 0, .null, .int 0, .int 0, .null, .null])) :: [(q1, .inl (I, (8, .inl (fun _ => 0)))), (q2, .inl (I, (5, .inl (fun _ => 0)))), (q3, .inl (I, (5, .inl (fun _ => 0)))), (q4, .inl (I, (5, .inl (fun _ => 0)))), (q5, .inl (I, (5, .inl (fun _ => 0)))), (q6, .inl (I, (24, .inl (fun _ => 0)))), (q7, .inl (I, (160, .inl (fun _ => 0)))), (q8, .inl (I, (1200, .inl (fun _ => 0)))), (q9, .inl (I, (24, .inl (fun _ => 0)))), (q10, .inl (I, (42, .inl (fun _ => 0)))), (q11, .inl (I, (4, .inl (jm_f57)))), (q12, .inl (I, (4, .inl (fun _ => 0)))), (q13, .inl (I, (160, .inl (fun _ => 0)))), (q14, .inl (I, (70, .inl (jm_f60)))), (q15, .inl (I, (96, .inl (jm_f61)))), (q16, .inl (I, (200, .inl (fun _ => 0)))), (q17, .inl (I, (200, .inl (fun _ => 0)))), (q18, .inl (I, (6, .inl (fun _ => 0)))), (q19, .inl (I, (5, .inl (fun _ => 0)))), (q20, .inl (I, (5, .inl (fun _ => 0)))), (q21, .inl (I, (5, .inl (fun _ => 0)))), (q22, .inl (I, (5, .inl (fun _ => 0))))]) (List.append_assoc _ _ _) ?_
  refine jn_putF (k := 37) (ty := .array .int) 1175 dX10_init_1172 rfl lay_X10 rfl tyX10 tyX10_ok nmX10 (by decide) rfl rfl rfl fl_X10_73 (by decide +kernel) rfl rfl (Nat.le_of_ble_eq_true rfl) ?_
  refine jn_aload_n 0 0 1176 dX10_init_1175 rfl rfl rfl ?_
  refine jn_sipush (nI 200) 1179 dX10_init_1176 rfl rfl ?_
  refine jn_newa (N := 200) 1181 dX10_init_1179 rfl rfl (Nat.le_of_ble_eq_true rfl) (Nat.le_of_ble_eq_true rfl) (Nat.le_of_ble_eq_true rfl) (fun q23 => ?_)
  refine jn_ws (ws' := pre ++ (a, .inr (8, [.ref q1, .int 0, .ref q2, .ref q3, .ref q4, .ref q5, .int 0, .ref q6, .ref q7, .int 0, .ref q8, .ref q9, .int 0, .int 0, .int 0, .int 0, .int 0, .int 0, .ref q10, .ref q11, .ref q12, .ref q13, .ref q14, .int 0, .int 0, .int 0, .int 0, .ref q15, .ref q16, .int 0, .int 0, .int 0, .ref q17, .ref q18, .ref q19, .ref q20, .ref q21, .ref q22, .null, .int 0, .int 0, .int 0, .int 0, .int 0, .null, .int 0, .int 0, .null, .null])) :: [(q1, .inl (I, (8, .inl (fun _ => 0)))), (q2, .inl (I, (5, .inl (fun _ => 0)))), (q3, .inl (I, (5, .inl (fun _ => 0)))), (q4, .inl (I, (5, .inl (fun _ => 0)))), (q5, .inl (I, (5, .inl (fun _ => 0)))), (q6, .inl (I, (24, .inl (fun _ => 0)))), (q7, .inl (I, (160, .inl (fun _ => 0)))), (q8, .inl (I, (1200, .inl (fun _ => 0)))), (q9, .inl (I, (24, .inl (fun _ => 0)))), (q10, .inl (I, (42, .inl (fun _ => 0)))), (q11, .inl (I, (4, .inl (jm_f57)))), (q12, .inl (I, (4, .inl (fun _ => 0)))), (q13, .inl (I, (160, .inl (fun _ => 0)))), (q14, .inl (I, (70, .inl (jm_f60)))), (q15, .inl (I, (96, .inl (jm_f61)))), (q16, .inl (I, (200, .inl (fun _ => 0)))), (q17, .inl (I, (200, .inl (fun _ => 0)))), (q18, .inl (I, (6, .inl (fun _ => 0)))), (q19, .inl (I, (5, .inl (fun _ => 0)))), (q20, .inl (I, (5, .inl (fun _ => 0)))), (q21, .inl (I, (5, .inl (fun _ => 0)))), (q22, .inl (I, (5, .inl (fun _ => 0)))), (q23, .inl (I, (200, .inl (fun _ => 0))))]) (List.append_assoc _ _ _) ?_
  refine jn_putF (k := 38) (ty := .array .int) 1184 dX10_init_1181 rfl lay_X10 rfl tyX10 tyX10_ok nmX10 (by decide) rfl rfl rfl fl_X10_76 (by decide +kernel) rfl rfl (Nat.le_of_ble_eq_true rfl) ?_
  refine jn_aload_n 0 0 1185 dX10_init_1184 rfl rfl rfl ?_
  refine jn_iconst (-1) 1186 dX10_init_1185 rfl rfl ?_
  refine jn_putI (k := 39) (ty := .int) 1189 dX10_init_1186 rfl lay_X10 rfl tyX10 tyX10_ok nmX10 (by decide) rfl rfl fl_X10_79 (by decide +kernel) rfl rfl (Nat.le_of_ble_eq_true rfl) ?_
  refine jn_aload_n 0 0 1190 dX10_init_1189 rfl rfl rfl ?_
  refine jn_iconst (-1) 1191 dX10_init_1190 rfl rfl ?_
  refine jn_putI (k := 42) (ty := .int) 1194 dX10_init_1191 rfl lay_X10 rfl tyX10 tyX10_ok nmX10 (by decide) rfl rfl fl_X10_83 (by decide +kernel) rfl rfl (Nat.le_of_ble_eq_true rfl) ?_
  refine jn_aload_n 0 0 1195 dX10_init_1194 rfl rfl rfl ?_
  refine jn_bipush (-2) 1197 dX10_init_1195 rfl rfl ?_
  refine jn_putI (k := 43) (ty := .int) 1200 dX10_init_1197 rfl lay_X10 rfl tyX10 tyX10_ok nmX10 (by decide) rfl rfl fl_X10_86 (by decide +kernel) rfl rfl (Nat.le_of_ble_eq_true rfl) ?_
  refine jn_aload_n 0 0 1201 dX10_init_1200 rfl rfl rfl ?_
  refine jn_iconst (nI 5) 1202 dX10_init_1201 rfl rfl ?_
  refine jn_newa (N := 5) 1204 dX10_init_1202 rfl rfl (Nat.le_of_ble_eq_true rfl) (Nat.le_of_ble_eq_true rfl) (Nat.le_of_ble_eq_true rfl) (fun q24 => ?_)
  refine jn_ws (ws' := pre ++ (a, .inr (8, [.ref q1, .int 0, .ref q2, .ref q3, .ref q4, .ref q5, .int 0, .ref q6, .ref q7, .int 0, .ref q8, .ref q9, .int 0, .int 0, .int 0, .int 0, .int 0, .int 0, .ref q10, .ref q11, .ref q12, .ref q13, .ref q14, .int 0, .int 0, .int 0, .int 0, .ref q15, .ref q16, .int 0, .int 0, .int 0, .ref q17, .ref q18, .ref q19, .ref q20, .ref q21, .ref q22, .ref q23, .int (-1), .int 0, .int 0, .int (-1), .int (-2), .null, .int 0, .int 0, .null, .null])) :: [(q1, .inl (I, (8, .inl (fun _ => 0)))), (q2, .inl (I, (5, .inl (fun _ => 0)))), (q3, .inl (I, (5, .inl (fun _ => 0)))), (q4, .inl (I, (5, .inl (fun _ => 0)))), (q5, .inl (I, (5, .inl (fun _ => 0)))), (q6, .inl (I, (24, .inl (fun _ => 0)))), (q7, .inl (I, (160, .inl (fun _ => 0)))), (q8, .inl (I, (1200, .inl (fun _ => 0)))), (q9, .inl (I, (24, .inl (fun _ => 0)))), (q10, .inl (I, (42, .inl (fun _ => 0)))), (q11, .inl (I, (4, .inl (jm_f57)))), (q12, .inl (I, (4, .inl (fun _ => 0)))), (q13, .inl (I, (160, .inl (fun _ => 0)))), (q14, .inl (I, (70, .inl (jm_f60)))), (q15, .inl (I, (96, .inl (jm_f61)))), (q16, .inl (I, (200, .inl (fun _ => 0)))), (q17, .inl (I, (200, .inl (fun _ => 0)))), (q18, .inl (I, (6, .inl (fun _ => 0)))), (q19, .inl (I, (5, .inl (fun _ => 0)))), (q20, .inl (I, (5, .inl (fun _ => 0)))), (q21, .inl (I, (5, .inl (fun _ => 0)))), (q22, .inl (I, (5, .inl (fun _ => 0)))), (q23, .inl (I, (200, .inl (fun _ => 0)))), (q24, .inl (I, (5, .inl (fun _ => 0))))]) (List.append_assoc _ _ _) ?_
  refine jn_putF (k := 44) (ty := .array .int) 1207 dX10_init_1204 rfl lay_X10 rfl tyX10 tyX10_ok nmX10 (by decide) rfl rfl rfl fl_X10_89 (by decide +kernel) rfl rfl (Nat.le_of_ble_eq_true rfl) ?_
  refine jn_aload_n 0 0 1208 dX10_init_1207 rfl rfl rfl ?_
  refine jn_iconst (nI 5) 1209 dX10_init_1208 rfl rfl ?_
  refine jn_newa (N := 5) 1211 dX10_init_1209 rfl rfl (Nat.le_of_ble_eq_true rfl) (Nat.le_of_ble_eq_true rfl) (Nat.le_of_ble_eq_true rfl) (fun q25 => ?_)
  refine jn_dup 1212 dX10_init_1211 rfl rfl ?_
  refine jn_iconst (nI 0) 1213 dX10_init_1212 rfl rfl ?_
  refine jn_iconst (-1) 1214 dX10_init_1213 rfl rfl ?_
  refine jn_iast (k := 0) 1215 dX10_init_1214 rfl rfl (Nat.le_of_ble_eq_true rfl) (Nat.le_of_ble_eq_true rfl) ?_
  refine jn_dup 1216 dX10_init_1215 rfl rfl ?_
  refine jn_iconst (nI 1) 1217 dX10_init_1216 rfl rfl ?_
  refine jn_iconst (-1) 1218 dX10_init_1217 rfl rfl ?_
  refine jn_iast (k := 1) 1219 dX10_init_1218 rfl rfl (Nat.le_of_ble_eq_true rfl) (Nat.le_of_ble_eq_true rfl) ?_
  refine jn_dup 1220 dX10_init_1219 rfl rfl ?_
  refine jn_iconst (nI 2) 1221 dX10_init_1220 rfl rfl ?_
  refine jn_iconst (-1) 1222 dX10_init_1221 rfl rfl ?_
  refine jn_iast (k := 2) 1223 dX10_init_1222 rfl rfl (Nat.le_of_ble_eq_true rfl) (Nat.le_of_ble_eq_true rfl) ?_
  refine jn_dup 1224 dX10_init_1223 rfl rfl ?_
  refine jn_iconst (nI 3) 1225 dX10_init_1224 rfl rfl ?_
  refine jn_iconst (-1) 1226 dX10_init_1225 rfl rfl ?_
  refine jn_iast (k := 3) 1227 dX10_init_1226 rfl rfl (Nat.le_of_ble_eq_true rfl) (Nat.le_of_ble_eq_true rfl) ?_
  refine jn_dup 1228 dX10_init_1227 rfl rfl ?_
  refine jn_iconst (nI 4) 1229 dX10_init_1228 rfl rfl ?_
  refine jn_iconst (-1) 1230 dX10_init_1229 rfl rfl ?_
  refine jn_iast (k := 4) 1231 dX10_init_1230 rfl rfl (Nat.le_of_ble_eq_true rfl) (Nat.le_of_ble_eq_true rfl) ?_
  refine jn_ws (ws' := pre ++ (a, .inr (8, [.ref q1, .int 0, .ref q2, .ref q3, .ref q4, .ref q5, .int 0, .ref q6, .ref q7, .int 0, .ref q8, .ref q9, .int 0, .int 0, .int 0, .int 0, .int 0, .int 0, .ref q10, .ref q11, .ref q12, .ref q13, .ref q14, .int 0, .int 0, .int 0, .int 0, .ref q15, .ref q16, .int 0, .int 0, .int 0, .ref q17, .ref q18, .ref q19, .ref q20, .ref q21, .ref q22, .ref q23, .int (-1), .int 0, .int 0, .int (-1), .int (-2), .ref q24, .int 0, .int 0, .null, .null])) :: [(q1, .inl (I, (8, .inl (fun _ => 0)))), (q2, .inl (I, (5, .inl (fun _ => 0)))), (q3, .inl (I, (5, .inl (fun _ => 0)))), (q4, .inl (I, (5, .inl (fun _ => 0)))), (q5, .inl (I, (5, .inl (fun _ => 0)))), (q6, .inl (I, (24, .inl (fun _ => 0)))), (q7, .inl (I, (160, .inl (fun _ => 0)))), (q8, .inl (I, (1200, .inl (fun _ => 0)))), (q9, .inl (I, (24, .inl (fun _ => 0)))), (q10, .inl (I, (42, .inl (fun _ => 0)))), (q11, .inl (I, (4, .inl (jm_f57)))), (q12, .inl (I, (4, .inl (fun _ => 0)))), (q13, .inl (I, (160, .inl (fun _ => 0)))), (q14, .inl (I, (70, .inl (jm_f60)))), (q15, .inl (I, (96, .inl (jm_f61)))), (q16, .inl (I, (200, .inl (fun _ => 0)))), (q17, .inl (I, (200, .inl (fun _ => 0)))), (q18, .inl (I, (6, .inl (fun _ => 0)))), (q19, .inl (I, (5, .inl (fun _ => 0)))), (q20, .inl (I, (5, .inl (fun _ => 0)))), (q21, .inl (I, (5, .inl (fun _ => 0)))), (q22, .inl (I, (5, .inl (fun _ => 0)))), (q23, .inl (I, (200, .inl (fun _ => 0)))), (q24, .inl (I, (5, .inl (fun _ => 0)))), (q25, .inl (I, (5, .inl (jm_f71))))]) (List.append_assoc _ _ _) ?_
  refine jn_putF (k := 47) (ty := .array .int) 1234 dX10_init_1231 rfl lay_X10 rfl tyX10 tyX10_ok nmX10 (by decide) rfl rfl rfl fl_X10_92 (by decide +kernel) rfl rfl (Nat.le_of_ble_eq_true rfl) ?_
  refine jn_aload_n 0 0 1235 dX10_init_1234 rfl rfl rfl ?_
  refine jn_iconst (nI 5) 1236 dX10_init_1235 rfl rfl ?_
  refine jn_newa (N := 5) 1238 dX10_init_1236 rfl rfl (Nat.le_of_ble_eq_true rfl) (Nat.le_of_ble_eq_true rfl) (Nat.le_of_ble_eq_true rfl) (fun q26 => ?_)
  refine jn_ws (ws' := pre ++ (a, .inr (8, [.ref q1, .int 0, .ref q2, .ref q3, .ref q4, .ref q5, .int 0, .ref q6, .ref q7, .int 0, .ref q8, .ref q9, .int 0, .int 0, .int 0, .int 0, .int 0, .int 0, .ref q10, .ref q11, .ref q12, .ref q13, .ref q14, .int 0, .int 0, .int 0, .int 0, .ref q15, .ref q16, .int 0, .int 0, .int 0, .ref q17, .ref q18, .ref q19, .ref q20, .ref q21, .ref q22, .ref q23, .int (-1), .int 0, .int 0, .int (-1), .int (-2), .ref q24, .int 0, .int 0, .ref q25, .null])) :: [(q1, .inl (I, (8, .inl (fun _ => 0)))), (q2, .inl (I, (5, .inl (fun _ => 0)))), (q3, .inl (I, (5, .inl (fun _ => 0)))), (q4, .inl (I, (5, .inl (fun _ => 0)))), (q5, .inl (I, (5, .inl (fun _ => 0)))), (q6, .inl (I, (24, .inl (fun _ => 0)))), (q7, .inl (I, (160, .inl (fun _ => 0)))), (q8, .inl (I, (1200, .inl (fun _ => 0)))), (q9, .inl (I, (24, .inl (fun _ => 0)))), (q10, .inl (I, (42, .inl (fun _ => 0)))), (q11, .inl (I, (4, .inl (jm_f57)))), (q12, .inl (I, (4, .inl (fun _ => 0)))), (q13, .inl (I, (160, .inl (fun _ => 0)))), (q14, .inl (I, (70, .inl (jm_f60)))), (q15, .inl (I, (96, .inl (jm_f61)))), (q16, .inl (I, (200, .inl (fun _ => 0)))), (q17, .inl (I, (200, .inl (fun _ => 0)))), (q18, .inl (I, (6, .inl (fun _ => 0)))), (q19, .inl (I, (5, .inl (fun _ => 0)))), (q20, .inl (I, (5, .inl (fun _ => 0)))), (q21, .inl (I, (5, .inl (fun _ => 0)))), (q22, .inl (I, (5, .inl (fun _ => 0)))), (q23, .inl (I, (200, .inl (fun _ => 0)))), (q24, .inl (I, (5, .inl (fun _ => 0)))), (q25, .inl (I, (5, .inl (jm_f71)))), (q26, .inl (I, (5, .inl (fun _ => 0))))]) (List.append_assoc _ _ _) ?_
  refine jn_putF (k := 48) (ty := .array .int) 1241 dX10_init_1238 rfl lay_X10 rfl tyX10 tyX10_ok nmX10 (by decide) rfl rfl rfl fl_X10_95 (by decide +kernel) rfl rfl (Nat.le_of_ble_eq_true rfl) ?_
  exact tail _ _ q1 q2 q3 q4 q5 q6 q7 q8 q9 q10 q11 q12 q13 q14 q15 q16 q17 q18 q19 q20 q21 q22 q23 q24 q25 q26 (Nat.le_of_ble_eq_true rfl) (Nat.le_of_ble_eq_true rfl)
set_option maxHeartbeats 4000000 in
theorem cj_X10 {D : va_G} {I : ClassId} {ad : Nat → Nat} {A0 : Nat → Prop} {a : Nat} {σ : jr_Sg} (hI : jc_I σ) (hA0 : ∀ i, i < 46 → A0 (ad i)) : jn_ME D I (jc_E ad A0 a) mi_X10_init ({ frames := 120, cells := 26, slots := 2453, locals := 7680 } : Room) 26 2453 (jq_ws (D, (I, (ad, []))) σ ++ [(a, .inr (8, [.null, .int 0, .null, .null, .null, .null, .int 0, .null, .null, .int 0, .null, .null, .int 0, .int 0, .int 0, .int 0, .int 0, .int 0, .null, .null, .null, .null, .null, .int 0, .int 0, .int 0, .int 0, .null, .null, .int 0, .int 0, .int 0, .null, .null, .null, .null, .null, .null, .null, .int 0, .int 0, .int 0, .int 0, .int 0, .null, .int 0, .int 0, .null, .null]))]) [.ref a] (fun ws => ∃ (ad2 : Nat → Nat) (σ2 : jr_Sg), (∀ i, 1000 ≤ i → ad2 i = ad i) ∧ ad2 0 = ad 0 ∧ ad2 46 = a ∧ IV σ2 ∧ ws = jq_ws (jq_up (D, (I, ad2))) σ2) := by
  refine jn_enterE (by decide) rfl rfl (Nat.le_of_ble_eq_true rfl) (fun sz => ?_)
  refine x10_alloc (fun nc ns q1 q2 q3 q4 q5 q6 q7 q8 q9 q10 q11 q12 q13 q14 q15 q16 q17 q18 q19 q20 q21 q22 q23 q24 q25 q26 hnc hns => ?_)
  refine jn_ws (jm_ws (D := D) (ad := ad) (σ := σ)) ?_
  intro p l e s m args below meth c H locs ls hx hb hml hr hown hlk hin hts hX hK hP hD hS hA hl
  obtain ⟨-, ⟨hZT, hZH, hAa, hAs⟩, hsz⟩ := hX
  have hge : ∀ i, 1000 ≤ i → jm_ad ad [a, q1, q2, q3, q4, q5, q6, q7, q8, q9, q10, q11, q12, q13, q14, q15, q16, q17, q18, q19, q20, q21, q22, q23, q24, q25, q26] i = ad i := fun i hi => by
    unfold jm_ad
    rw [if_neg (by omega), if_neg (by omega)]
  have hAn : ∀ q, va_A (jq_ws (D, (I, (ad, []))) σ ++ [(a, .inr (8, [.null, .int 0, .null, .null, .null, .null, .int 0, .null, .null, .int 0, .null, .null, .int 0, .int 0, .int 0, .int 0, .int 0, .int 0, .null, .null, .null, .null, .null, .int 0, .int 0, .int 0, .int 0, .null, .null, .int 0, .int 0, .int 0, .null, .null, .null, .null, .null, .null, .null, .int 0, .int 0, .int 0, .int 0, .int 0, .null, .int 0, .int 0, .null, .null]))]) sz q → A0 q := fun q hq => by
    rcases hq with ⟨k, e, h⟩ | h
    · rcases List.mem_append.mp (List.mem_of_getElem? h) with h1 | h1
      · obtain ⟨i, hi⟩ := List.getElem?_of_mem h1
        obtain ⟨g1, g2⟩ := jq_ws_some hi
        have g3 : i < 46 := by
          have e46 : (jq_shp (D, (I, (ad, [])))).length = 46 := jq_sh0_len
          omega
        have e1 : q = ad i := g2
        rw [e1]
        exact hA0 i g3
      · rcases List.mem_singleton.mp h1 with h2
        have e1 : q = a := congrArg Prod.fst h2
        rw [e1]
        exact hAa
    · exact hAs q (by rw [hsz]; exact h)
  have hC : jz_C p s m args c (va_A (jq_ws (D, (I, (ad, []))) σ ++ [(a, .inr (8, [.null, .int 0, .null, .null, .null, .null, .int 0, .null, .null, .int 0, .null, .null, .int 0, .int 0, .int 0, .int 0, .int 0, .int 0, .null, .null, .null, .null, .null, .int 0, .int 0, .int 0, .int 0, .null, .null, .int 0, .int 0, .int 0, .null, .null, .null, .null, .null, .null, .null, .int 0, .int 0, .int 0, .int 0, .int 0, .null, .int 0, .int 0, .null, .null]))]) sz) (jq_up (D, (I, jm_ad ad [a, q1, q2, q3, q4, q5, q6, q7, q8, q9, q10, q11, q12, q13, q14, q15, q16, q17, q18, q19, q20, q21, q22, q23, q24, q25, q26]))) mi_X10_init := ⟨hx, hb, hml, hown, hts, jq_D_up hD, hK, hZT.ad hge, (hZH.ad hge).narrow hAn, jq_A_in hD⟩
  have hfin : ∀ σ2 : jr_Sg, IV σ2 → jz_R p l e ({ frames := 120, cells := 26, slots := 2453, locals := 7680 } : Room) s m args below meth c (va_A (jq_ws (D, (I, (ad, []))) σ ++ [(a, .inr (8, [.null, .int 0, .null, .null, .null, .null, .int 0, .null, .null, .int 0, .null, .null, .int 0, .int 0, .int 0, .int 0, .int 0, .int 0, .null, .null, .null, .null, .null, .int 0, .int 0, .int 0, .int 0, .null, .null, .int 0, .int 0, .int 0, .null, .null, .null, .null, .null, .null, .null, .int 0, .int 0, .int 0, .int 0, .int 0, .null, .int 0, .int 0, .null, .null]))]) sz) 26 2453 (MQ below (jn_Q D (va_A (jq_ws (D, (I, (ad, []))) σ ++ [(a, .inr (8, [.null, .int 0, .null, .null, .null, .null, .int 0, .null, .null, .int 0, .null, .null, .int 0, .int 0, .int 0, .int 0, .int 0, .int 0, .null, .null, .null, .null, .null, .int 0, .int 0, .int 0, .int 0, .null, .null, .int 0, .int 0, .int 0, .null, .null, .null, .null, .null, .null, .null, .int 0, .int 0, .int 0, .int 0, .int 0, .null, .int 0, .int 0, .null, .null]))]) sz) (fun ws => ∃ (ad2 : Nat → Nat) (σ2 : jr_Sg), (∀ i, 1000 ≤ i → ad2 i = ad i) ∧ ad2 0 = ad 0 ∧ ad2 46 = a ∧ IV σ2 ∧ ws = jq_ws (jq_up (D, (I, ad2))) σ2)) args s 26 2453 (va_A (jq_ws (D, (I, (ad, []))) σ ++ [(a, .inr (8, [.null, .int 0, .null, .null, .null, .null, .int 0, .null, .null, .int 0, .null, .null, .int 0, .int 0, .int 0, .int 0, .int 0, .int 0, .null, .null, .null, .null, .null, .int 0, .int 0, .int 0, .int 0, .null, .null, .int 0, .int 0, .int 0, .null, .null, .null, .null, .null, .null, .null, .int 0, .int 0, .int 0, .int 0, .int 0, .null, .int 0, .int 0, .null, .null]))]) sz)) (jq_up (D, (I, jm_ad ad [a, q1, q2, q3, q4, q5, q6, q7, q8, q9, q10, q11, q12, q13, q14, q15, q16, q17, q18, q19, q20, q21, q22, q23, q24, q25, q26]))) mi_X10_init 1278 [some (.ref 46), some (.int (nI 70))] [] σ2 := by
    intro σ2 hI2 H1 locs1 ls1 hP1 hS1 hl1
    refine W.vret hx hb hr (fun t ht hW => ⟨⟨rfl, _, ⟨jm_ad ad [a, q1, q2, q3, q4, q5, q6, q7, q8, q9, q10, q11, q12, q13, q14, q15, q16, q17, q18, q19, q20, q21, q22, q23, q24, q25, q26], σ2, hge, rfl, rfl, hI2, rfl⟩, by rw [ht]; exact hP1, ?_⟩, hS1.F ht⟩) hS1.2.2 dX10_init_1278
    exact (jq_vaD (jq_D_up hD)).weaken (fun k q _ h => jq_A_in hD q.1 h)
  refine W.widen (k := 26) (n := 2453) hnc hns ?_
  refine x10_start hC ⟨Nat.le_of_ble_eq_true rfl, Nat.le_of_ble_eq_true rfl, Nat.le_of_ble_eq_true rfl, Nat.le_of_ble_eq_true rfl⟩ hI hfin H locs ls hP hS ⟨hl.1, hl.2.1, fun k v hk => ?_⟩
  rcases k with _ | _ | k
  · have e : Value.ref 46 = v := Option.some.inj (Option.some.inj hk)
    rw [← e]
    exact lv_at hl 0 rfl
  · cases hk
  · cases hk
