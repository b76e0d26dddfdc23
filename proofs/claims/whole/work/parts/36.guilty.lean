def nL (n : Nat) : Int64 := Int64.ofNat n
/-- the greatest that divides both: those from 2 on, so many of them -/
def cmC (a b : Nat) : Nat → Nat
  | 0 => 1
  | n + 1 => if a % (n + 2) = 0 ∧ b % (n + 2) = 0 then n + 2 else cmC a b n
def ltC (a b q : Nat) : Int64 := if b = 0 then -4611686018427387904 else (nI ((if q = 0 then a else b) / cmC a b (b - 1))).toInt64
theorem cm_pos (a b : Nat) : ∀ n, 0 < cmC a b n
  | 0 => Nat.one_pos
  | n + 1 => by
    unfold cmC
    split
    · omega
    · exact cm_pos a b n
theorem cm_le (a b : Nat) : ∀ n, cmC a b n ≤ n + 1
  | 0 => Nat.le_refl 1
  | n + 1 => by
    unfold cmC
    split
    · omega
    · have := cm_le a b n; omega
theorem cm_t {a b n : Nat} (h1 : a % (n + 2) = 0) (h2 : b % (n + 2) = 0) : cmC a b (n + 1) = n + 2 := by rw [cmC, if_pos ⟨h1, h2⟩]
theorem cm_f {a b n : Nat} (h : ¬ (a % (n + 2) = 0 ∧ b % (n + 2) = 0)) : cmC a b (n + 1) = cmC a b n := by rw [cmC, if_neg h]
theorem nI_z {n : Nat} (h : n < 2 ^ 31) : nI n = 0 ↔ n = 0 := by
  constructor
  · intro e; exact nI_inj h (by omega) e
  · intro e; rw [e]; rfl
theorem lg_gcd : ∀ a b : Fin 21, ∀ q : Fin 2, ¬ a.val = 0 → ¬ b.val = 0 → ltC a.val b.val q.val = nL ((if q.val = 0 then a.val else b.val) / Nat.gcd a.val b.val) := by decide +kernel
theorem lg_zero : ∀ b : Fin 21, ∀ q : Fin 2, ¬ b.val = 0 → ltC 0 b.val q.val = (nI q.val).toInt64 := by decide +kernel
theorem nL_rem : ∀ a b : Fin 21, ¬ b.val = 0 → nL a.val - nL a.val / nL b.val * nL b.val = nL (a.val % b.val) := by decide +kernel
theorem nL_div : ∀ a b : Fin 21, ¬ b.val = 0 → nL a.val / nL b.val = nL (a.val / b.val) := by decide +kernel
theorem nL_cmp : ∀ a : Fin 21, (lg_cmp (nL a.val) 0 = 0 ↔ a.val = 0) := by decide +kernel
theorem nL_z : ∀ a : Fin 21, (nL a.val = 0 ↔ a.val = 0) := by decide +kernel
theorem nI_L : ∀ a : Fin 21, (nI a.val).toInt64 = nL a.val := by decide +kernel
theorem lt_loop {G : jr_G} {d : Nat} {σ : jr_Sg} {k : Value → jr_Sg → Prop} {a b q : Nat} (ha : a ≤ 20) (hb : b ≤ 20) (hb0 : 0 < b) (h : k (.long (ltC a b q)) σ) (hq : q < 2) : ∀ (m i : Nat), i + m = b - 1 → jr_R G d mi_X9_lowestTerms (jr_k k) 13 [some (.int (nI a)), some (.int (nI b)), some (.int (nI q)), some (.int (nI (cmC a b i))), some (.int (nI (i + 2)))] [] σ := by
  intro m
  induction m with
  | zero =>
    intro i hi
    have ei : i = b - 1 := hi
    subst ei
    have hp := cm_pos a b (b - 1)
    have hl := cm_le a b (b - 1)
    have e1 : nI a / nI (cmC a b (b - 1)) = nI (a / cmC a b (b - 1)) := pk_div (by omega) (by omega) (by omega)
    have e2 : nI b / nI (cmC a b (b - 1)) = nI (b / cmC a b (b - 1)) := pk_div (by omega) (by omega) (by omega)
    have hne : ¬ nI (cmC a b (b - 1)) = 0 := fun e => absurd ((nI_z (by omega)).mp e) (by omega)
    unfold ltC at h
    rw [if_neg (by omega)] at h
    refine jr_iload 15 dX9_lowestTerms_13 rfl rfl ?_
    refine jr_iload_n 1 16 dX9_lowestTerms_15 rfl rfl rfl ?_
    refine jr_icmp_gt 42 19 dX9_lowestTerms_16 rfl rfl (fun q16 => ?_) (fun z => absurd (nI_lt (by omega) (by omega)) z)
    refine jr_iload_n 2 43 dX9_lowestTerms_42 rfl rfl rfl ?_
    refine jr_if_ne 53 46 dX9_lowestTerms_43 rfl rfl (fun q43 => ?_) (fun q43 => ?_)
    · refine jr_iload_n 1 54 dX9_lowestTerms_53 rfl rfl rfl ?_
      refine jr_iload_n 3 55 dX9_lowestTerms_54 rfl rfl rfl ?_
      refine jr_idiv 56 dX9_lowestTerms_55 rfl hne ?_
      rw [e2]
      refine jr_i2l 57 dX9_lowestTerms_56 rfl ?_
      refine jr_lreturn dX9_lowestTerms_57 rfl ?_
      rw [if_neg (fun z => q43 ((nI_z (by omega)).mpr z))] at h
      exact h
    · refine jr_iload_n 0 47 dX9_lowestTerms_46 rfl rfl rfl ?_
      refine jr_iload_n 3 48 dX9_lowestTerms_47 rfl rfl rfl ?_
      refine jr_idiv 49 dX9_lowestTerms_48 rfl hne ?_
      rw [e1]
      refine jr_i2l 50 dX9_lowestTerms_49 rfl ?_
      refine jr_goto 57 dX9_lowestTerms_50 rfl ?_
      refine jr_lreturn dX9_lowestTerms_57 rfl ?_
      rw [if_pos ((nI_z (by omega)).mp q43)] at h
      exact h
  | succ m ih =>
    intro i hi
    have e1 : nI a - nI a / nI (i + 2) * nI (i + 2) = nI (a % (i + 2)) := pk_rem (by omega) (by omega) (by omega)
    have e2 : nI b - nI b / nI (i + 2) * nI (i + 2) = nI (b % (i + 2)) := pk_rem (by omega) (by omega) (by omega)
    have hne : ¬ nI (i + 2) = 0 := fun e => absurd ((nI_z (by omega)).mp e) (by omega)
    have ha2 : a % (i + 2) < 2 ^ 31 := by have := Nat.mod_lt a (show 0 < i + 2 by omega); omega
    have hb2 : b % (i + 2) < 2 ^ 31 := by have := Nat.mod_lt b (show 0 < i + 2 by omega); omega
    refine jr_iload 15 dX9_lowestTerms_13 rfl rfl ?_
    refine jr_iload_n 1 16 dX9_lowestTerms_15 rfl rfl rfl ?_
    refine jr_icmp_gt 42 19 dX9_lowestTerms_16 rfl rfl (fun z => absurd z (nI_nlt (by omega) (by omega))) (fun q16 => ?_)
    refine jr_iload_n 0 20 dX9_lowestTerms_19 rfl rfl rfl ?_
    refine jr_iload 22 dX9_lowestTerms_20 rfl rfl ?_
    refine jr_irem 23 dX9_lowestTerms_22 rfl hne ?_
    rw [e1]
    refine jr_if_ne 36 26 dX9_lowestTerms_23 rfl rfl (fun q23 => ?_) (fun q23 => ?_)
    · refine jr_iinc (v := nI (i + 1 + 2)) (L' := [_, _, _, _, _]) 39 dX9_lowestTerms_36 rfl rfl (nI_1 (i + 2)) (by decide) rfl ?_
      refine jr_goto 13 dX9_lowestTerms_39 rfl ?_
      have e3 := cm_f (a := a) (b := b) (n := i) (fun z => q23 ((nI_z ha2).mpr z.1))
      have hi2 := ih (i + 1) (by omega)
      rw [e3] at hi2
      exact hi2
    · refine jr_iload_n 1 27 dX9_lowestTerms_26 rfl rfl rfl ?_
      refine jr_iload 29 dX9_lowestTerms_27 rfl rfl ?_
      refine jr_irem 30 dX9_lowestTerms_29 rfl hne ?_
      rw [e2]
      refine jr_if_ne 36 33 dX9_lowestTerms_30 rfl rfl (fun q30 => ?_) (fun q30 => ?_)
      · refine jr_iinc (v := nI (i + 1 + 2)) (L' := [_, _, _, _, _]) 39 dX9_lowestTerms_36 rfl rfl (nI_1 (i + 2)) (by decide) rfl ?_
        refine jr_goto 13 dX9_lowestTerms_39 rfl ?_
        have e3 := cm_f (a := a) (b := b) (n := i) (fun z => q30 ((nI_z hb2).mpr z.2))
        have hi2 := ih (i + 1) (by omega)
        rw [e3] at hi2
        exact hi2
      · refine jr_iload 35 dX9_lowestTerms_33 rfl rfl ?_
        refine jr_istore_n 3 (L' := [_, _, _, _, _]) 36 dX9_lowestTerms_35 rfl rfl (by decide) rfl ?_
        refine jr_iinc (v := nI (i + 1 + 2)) (L' := [_, _, _, _, _]) 39 dX9_lowestTerms_36 rfl rfl (nI_1 (i + 2)) (by decide) rfl ?_
        refine jr_goto 13 dX9_lowestTerms_39 rfl ?_
        have e3 := cm_t (a := a) (b := b) (n := i) ((nI_z ha2).mp q23) ((nI_z hb2).mp q30)
        have hi2 := ih (i + 1) (by omega)
        rw [e3] at hi2
        exact hi2
theorem wp_lowestTerms {G : jr_G} {d : Nat} {σ : jr_Sg} {k : Value → jr_Sg → Prop} {a b q : Nat} (ha : a ≤ 20) (hb : b ≤ 20) (hq : q < 2) (h : k (.long (ltC a b q)) σ) : jr_M G d mi_X9_lowestTerms [.int (nI a), .int (nI b), .int (nI q)] σ (jr_k k) := by
  rcases Nat.eq_zero_or_pos b with rfl | hb0
  · refine jr_enter (L := [some (.int (nI a)), some (.int (nI 0)), some (.int (nI q)), none, none]) (by decide) (Nat.le_of_ble_eq_true rfl) rfl ?_
    refine jr_iload_n 1 1 dX9_lowestTerms_0 rfl rfl rfl ?_
    refine jr_if_gt 8 4 dX9_lowestTerms_1 rfl rfl (fun z => absurd z (by decide)) (fun q1 => ?_)
    refine jr_ldc2 kc_X9_278 7 dX9_lowestTerms_4 rfl ?_
    refine jr_lreturn dX9_lowestTerms_7 rfl ?_
    exact h
  · refine jr_enter (L := [some (.int (nI a)), some (.int (nI b)), some (.int (nI q)), none, none]) (by decide) (Nat.le_of_ble_eq_true rfl) rfl ?_
    refine jr_iload_n 1 1 dX9_lowestTerms_0 rfl rfl rfl ?_
    refine jr_if_gt 8 4 dX9_lowestTerms_1 rfl rfl (fun q1 => ?_) (fun z => absurd (nI_lt (a := 0) hb0 (by omega)) z)
    refine jr_iconst (nI (cmC a b 0)) 9 dX9_lowestTerms_8 rfl rfl ?_
    refine jr_istore_n 3 (L' := [_, _, _, _, _]) 10 dX9_lowestTerms_9 rfl rfl (by decide) rfl ?_
    refine jr_iconst (nI (0 + 2)) 11 dX9_lowestTerms_10 rfl rfl ?_
    refine jr_istore (L' := [_, _, _, _, _]) 13 dX9_lowestTerms_11 rfl (by decide) rfl ?_
    exact lt_loop ha hb hb0 h hq (b - 1) 0 (by omega)
theorem lo_loop {G : jr_G} {d : Nat} {σ : jr_Sg} {k : Value → jr_Sg → Prop} {a b q : Nat} (ha : a ≤ 20) (hb : b ≤ 20) (hb0 : 0 < b) (ha0 : ¬ a = 0) (hq : q < 2) (h : k (.long (ltC a b q)) σ) : ∀ (m u v : Nat) (x9 x10 : Option Value), v ≤ m → u ≤ 20 → v ≤ 20 → Nat.gcd u v = Nat.gcd a b → jr_R G d mi_X10_lowest (jr_k k) 16 [some (.long (nL a)), none, some (.long (nL b)), none, some (.int (nI q)), some (.long (nL u)), none, some (.long (nL v)), none, x9, x10] [] σ := by
  intro m
  have fin : ∀ (u : Nat) (x9 x10 : Option Value), u ≤ 20 → Nat.gcd u 0 = Nat.gcd a b → jr_R G d mi_X10_lowest (jr_k k) 16 [some (.long (nL a)), none, some (.long (nL b)), none, some (.int (nI q)), some (.long (nL u)), none, some (.long (nL 0)), none, x9, x10] [] σ := by
    intro u x9 x10 hu hg
    rw [Nat.gcd_zero_right] at hg
    have hup : ¬ u = 0 := fun e => by rw [e] at hg; exact ha0 (Nat.eq_zero_of_gcd_eq_zero_left hg.symm)
    have hz : ¬ nL u = 0 := fun e => hup ((nL_z ⟨u, by omega⟩).mp e)
    have e1 : nL a / nL u = nL (a / u) := nL_div ⟨a, by omega⟩ ⟨u, by omega⟩ hup
    have e2 : nL b / nL u = nL (b / u) := nL_div ⟨b, by omega⟩ ⟨u, by omega⟩ hup
    have eL := lg_gcd ⟨a, by omega⟩ ⟨b, by omega⟩ ⟨q, hq⟩ ha0 (show ¬ b = 0 by omega)
    rw [show ltC a b q = nL ((if q = 0 then a else b) / Nat.gcd a b) from eL, ← hg] at h
    refine jr_lload 18 dX10_lowest_16 rfl rfl ?_
    refine jr_lconst (0) 19 dX10_lowest_18 rfl rfl ?_
    refine jr_lcmp 20 dX10_lowest_19 rfl ?_
    refine jr_if_eq 41 23 dX10_lowest_20 rfl rfl (fun q20 => ?_) (fun z => absurd ((nL_cmp ⟨0, by omega⟩).mpr rfl) z)
    refine jr_iload 43 dX10_lowest_41 rfl rfl ?_
    refine jr_if_ne 50 46 dX10_lowest_43 rfl rfl (fun q43 => ?_) (fun q43 => ?_)
    · refine jr_lload_n 2 51 dX10_lowest_50 rfl rfl rfl ?_
      refine jr_lload 53 dX10_lowest_51 rfl rfl ?_
      refine jr_ldiv 54 dX10_lowest_53 rfl hz ?_
      first | rw [e1] | rw [e2]
      refine jr_lreturn dX10_lowest_54 rfl ?_
      rw [if_neg (fun z => q43 ((nI_z (by omega)).mpr z))] at h
      exact h
    · refine jr_lload_n 0 47 dX10_lowest_46 rfl rfl rfl ?_
      refine jr_goto 51 dX10_lowest_47 rfl ?_
      refine jr_lload 53 dX10_lowest_51 rfl rfl ?_
      refine jr_ldiv 54 dX10_lowest_53 rfl hz ?_
      first | rw [e1] | rw [e2]
      refine jr_lreturn dX10_lowest_54 rfl ?_
      rw [if_pos ((nI_z (by omega)).mp q43)] at h
      exact h
  induction m with
  | zero =>
    intro u v x9 x10 hvm hu hv hg
    have ev : v = 0 := by omega
    subst ev
    exact fin u x9 x10 hu hg
  | succ m ih =>
    intro u v x9 x10 hvm hu hv hg
    rcases Nat.eq_zero_or_pos v with rfl | hv0
    · exact fin u x9 x10 hu hg
    · have hl := Nat.mod_lt u hv0
      have e1 : nL u - nL u / nL v * nL v = nL (u % v) := nL_rem ⟨u, by omega⟩ ⟨v, by omega⟩ (show ¬ v = 0 by omega)
      have hz : ¬ nL v = 0 := fun e => absurd ((nL_z ⟨v, by omega⟩).mp e) (show ¬ v = 0 by omega)
      refine jr_lload 18 dX10_lowest_16 rfl rfl ?_
      refine jr_lconst (0) 19 dX10_lowest_18 rfl rfl ?_
      refine jr_lcmp 20 dX10_lowest_19 rfl ?_
      refine jr_if_eq 41 23 dX10_lowest_20 rfl rfl (fun z => absurd ((nL_cmp ⟨v, by omega⟩).mp z) (show ¬ v = 0 by omega)) (fun q20 => ?_)
      refine jr_lload 25 dX10_lowest_23 rfl rfl ?_
      refine jr_lload 27 dX10_lowest_25 rfl rfl ?_
      refine jr_lrem 28 dX10_lowest_27 rfl hz ?_
      rw [e1]
      refine jr_lstore (L' := [_, _, _, _, _, _, _, _, _, _, _]) 30 dX10_lowest_28 rfl (by decide) rfl ?_
      refine jr_lload 32 dX10_lowest_30 rfl rfl ?_
      refine jr_lstore (L' := [_, _, _, _, _, _, _, _, _, _, _]) 34 dX10_lowest_32 rfl (by decide) rfl ?_
      refine jr_lload 36 dX10_lowest_34 rfl rfl ?_
      refine jr_lstore (L' := [_, _, _, _, _, _, _, _, _, _, _]) 38 dX10_lowest_36 rfl (by decide) rfl ?_
      refine jr_goto 16 dX10_lowest_38 rfl ?_
      exact ih v (u % v) _ _ (by omega) hv (by omega) (by rw [← hg, Nat.gcd_comm u v, Nat.gcd_rec v u, Nat.gcd_comm])
theorem wp_lowest {G : jr_G} {d : Nat} {σ : jr_Sg} {k : Value → jr_Sg → Prop} {a b q : Nat} (ha : a ≤ 20) (hb : b ≤ 20) (hb0 : 0 < b) (hq : q < 2) (h : k (.long (ltC a b q)) σ) : jr_M G d mi_X10_lowest [.long (nL a), .long (nL b), .int (nI q)] σ (jr_k k) := by
  by_cases ha0 : a = 0
  · subst ha0
    rw [show ltC 0 b q = (nI q).toInt64 from lg_zero ⟨b, by omega⟩ ⟨q, hq⟩ (show ¬ b = 0 by omega)] at h
    refine jr_enter (L := [some (.long (nL 0)), none, some (.long (nL b)), none, some (.int (nI q)), none, none, none, none, none, none]) (by decide) (Nat.le_of_ble_eq_true rfl) rfl ?_
    refine jr_lload_n 0 1 dX10_lowest_0 rfl rfl rfl ?_
    refine jr_lconst (0) 2 dX10_lowest_1 rfl rfl ?_
    refine jr_lcmp 3 dX10_lowest_2 rfl ?_
    refine jr_if_ne 10 6 dX10_lowest_3 rfl rfl (fun z => absurd ((nL_cmp ⟨0, by omega⟩).mpr rfl) z) (fun q3 => ?_)
    refine jr_iload 8 dX10_lowest_6 rfl rfl ?_
    refine jr_i2l 9 dX10_lowest_8 rfl ?_
    refine jr_lreturn dX10_lowest_9 rfl ?_
    exact h
  · refine jr_enter (L := [some (.long (nL a)), none, some (.long (nL b)), none, some (.int (nI q)), none, none, none, none, none, none]) (by decide) (Nat.le_of_ble_eq_true rfl) rfl ?_
    refine jr_lload_n 0 1 dX10_lowest_0 rfl rfl rfl ?_
    refine jr_lconst (0) 2 dX10_lowest_1 rfl rfl ?_
    refine jr_lcmp 3 dX10_lowest_2 rfl ?_
    refine jr_if_ne 10 6 dX10_lowest_3 rfl rfl (fun q3 => ?_) (fun z => absurd ((nL_cmp ⟨a, by omega⟩).mp z) ha0)
    refine jr_lload_n 0 11 dX10_lowest_10 rfl rfl rfl ?_
    refine jr_lstore (L' := [_, _, _, _, _, _, _, _, _, _, _]) 13 dX10_lowest_11 rfl (by decide) rfl ?_
    refine jr_lload_n 2 14 dX10_lowest_13 rfl rfl rfl ?_
    refine jr_lstore (L' := [_, _, _, _, _, _, _, _, _, _, _]) 16 dX10_lowest_14 rfl (by decide) rfl ?_
    exact lo_loop ha hb hb0 ha0 hq h b a b _ _ (Nat.le_refl _) ha hb rfl
/-- how many of i are red, f's own p1, each other's p2 -/
def gcn (f p1 p2 i : Nat) : Nat := (if f < i then p1 else 0) + (i - (if f < i then 1 else 0)) * p2
def gow (f p1 i : Nat) : Nat := if f < i then p1 else 0
theorem gcn_f {f p1 p2 i : Nat} (h : i = f) : gcn f p1 p2 (i + 1) = gcn f p1 p2 i + p1 ∧ gow f p1 (i + 1) = gow f p1 i + p1 := by
  subst h
  unfold gcn gow
  rw [if_pos (Nat.lt_succ_self i), if_neg (Nat.lt_irrefl i), if_pos (Nat.lt_succ_self i), if_neg (Nat.lt_irrefl i)]
  constructor
  · rw [show i + 1 - 1 = i by omega, show i - 0 = i by omega]; omega
  · omega
theorem gcn_o {f p1 p2 i : Nat} (h : ¬ i = f) : gcn f p1 p2 (i + 1) = gcn f p1 p2 i + p2 ∧ gow f p1 (i + 1) = gow f p1 i := by
  unfold gcn gow
  by_cases q : f < i
  · rw [if_pos (show f < i + 1 by omega), if_pos q, if_pos (show f < i + 1 by omega), if_pos q]
    refine ⟨?_, rfl⟩
    rw [show i + 1 - 1 = i - 1 + 1 by omega, Nat.add_mul]; omega
  · rw [if_neg (show ¬ f < i + 1 by omega), if_neg q, if_neg (show ¬ f < i + 1 by omega), if_neg q]
    refine ⟨?_, rfl⟩
    rw [show i + 1 - 0 = i - 0 + 1 by omega, Nat.add_mul]; omega
theorem gcn_le {f p1 p2 i : Nat} (h1 : p1 ≤ 1) (h2 : p2 ≤ 1) : gcn f p1 p2 i ≤ i := by
  unfold gcn
  have h3 : (i - (if f < i then 1 else 0)) * p2 ≤ i - (if f < i then 1 else 0) := by
    rcases (by omega : p2 = 0 ∨ p2 = 1) with rfl | rfl
    · omega
    · omega
  split at h3
  · rename_i q; rw [if_pos q, if_pos q]; omega
  · rename_i q; rw [if_neg q, if_neg q]; omega
theorem pu_min400 (c : Nat) (h : c < 2 ^ 31) : pu_min 400 (nI c) = nI (min 400 c) := by
  unfold pu_min
  by_cases q : c < 400
  · rw [if_pos (show nI c < 400 from nI_lt (b := 400) q (by omega)), Nat.min_eq_right (by omega)]
  · rw [if_neg (show ¬ nI c < 400 from nI_nlt (b := 400) (by omega) h), Nat.min_eq_left (by omega)]; rfl
theorem pu_within400 (c : Nat) (h : c < 2 ^ 31) : pu_within (nI c) 0 400 = nI (min 400 c) := by
  rw [← pu_within_mm4, pu_min400 c h]
  unfold pu_max
  by_cases q : min 400 c = 0
  · rw [q]; rfl
  · rw [if_pos (show (0 : Int32) < nI (min 400 c) from nI_lt (a := 0) (by omega) (by omega))]
theorem guilty_r {G : jr_G} {d : Nat} {σ : jr_Sg} {k : Value → jr_Sg → Prop} {T : Nat → Nat → List Nat} {n nf nc lw tp len j b q p1 p2 : Nat} {kd se : Nat → Nat} (h : iv T n nf nc kd se lw tp σ) (hlen : len ≤ 40) (hj : j < nf) (hb : b < 2 ^ 31) (hd : b / 1000 ≤ 400) (hm : b % 1000 ≤ 400) (hp1 : (p1 = 1 ∧ pr_rf kd se σ j ≤ (sm_R T lw nf nc kd se (md_c σ j 0 (nI (min 400 (b / 1000 + b % 1000)))) j len).1) ∨ (p1 = 0 ∧ ¬ pr_rf kd se σ j ≤ (sm_R T lw nf nc kd se (md_c σ j 0 (nI (min 400 (b / 1000 + b % 1000)))) j len).1)) (hp2 : (p2 = 1 ∧ pr_rf kd se σ j ≤ (sm_R T lw nf nc kd se (md_c σ j 0 (nI (b / 1000))) j len).1) ∨ (p2 = 0 ∧ ¬ pr_rf kd se σ j ≤ (sm_R T lw nf nc kd se (md_c σ j 0 (nI (b / 1000))) j len).1)) {σ1 : jr_Sg} (g1 : jr_eqx iv_CX σ σ1) (fin : ∀ (σ2 : jr_Sg) (x9 x10 : Option Value), jr_eqx iv_RX σ1 σ2 → jr_R G (d + 20) mi_X10_guilty (jr_k k) 171 [some (.ref 46), some (.int (nI j)), some (.int (nI b)), some (.int (nI len)), some (.int (nI q)), some (.int 1), some (.int (nI (b / 1000))), some (.int (nI (gcn j p1 p2 nf))), some (.int (nI (gow j p1 nf))), x9, x10] [] σ2) : ∀ (m i : Nat) (σ2 : jr_Sg) (x10 : Option Value), i + m = nf → jr_eqx iv_RX σ1 σ2 → jr_R G (d + 20) mi_X10_guilty (jr_k k) 86 [some (.ref 46), some (.int (nI j)), some (.int (nI b)), some (.int (nI len)), some (.int (nI q)), some (.int 1), some (.int (nI (b / 1000))), some (.int (nI (gcn j p1 p2 i))), some (.int (nI (gow j p1 i))), some (.int (nI i)), x10] [] σ2 := by
  have h1 := iv_mov (iv_cx g1) h
  have r1 := rr_of h1
  have ediv : nI b / nI 1000 = nI (b / 1000) := pk_div hb (by omega) (by omega)
  have erem : nI b - nI b / nI 1000 * nI 1000 = nI (b % 1000) := pk_rem hb (by omega) (by omega)
  have h5 : nf ≤ 5 := r1.1.2.1
  have hq1 : p1 ≤ 1 := by rcases hp1 with ⟨e, _⟩ | ⟨e, _⟩ <;> omega
  have hq2 : p2 ≤ 1 := by rcases hp2 with ⟨e, _⟩ | ⟨e, _⟩ <;> omega
  intro m
  induction m with
  | zero =>
    intro i σ2 x10 hi g
    have ei : i = nf := hi
    subst ei
    have hnf1 : σ2 46 1 = nI i := by rw [g 46 (by decide)]; exact r1.1.1
    refine jr_iload 88 dX10_guilty_86 rfl rfl ?_
    refine jr_aload_n 0 89 dX10_guilty_88 rfl rfl rfl ?_
    refine gf_X10_105 92 dX10_guilty_89 rfl rfl rfl rfl ?_
    rw [hnf1]
    refine jr_icmp_ge 171 95 dX10_guilty_92 rfl rfl (fun q92 => ?_) (fun q => absurd (Int32.le_refl _) q)
    exact fin σ2 _ _ g
  | succ m ih =>
    intro i σ2 x10 hi g
    have hnf1 : σ2 46 1 = nI nf := by rw [g 46 (by decide)]; exact r1.1.1
    have e70 : σ2 70 j = 0 := by rw [g 70 (by decide)]; exact (h1.2.2.2.2.2.2.1.2.2.2.2 j (by omega)).1
    have e45 : σ2 46 45 = 0 := by rw [g 46 (by decide)]; exact h1.2.2.2.2.2.2.1.2.2.1
    have ep : ∀ c : Nat, (pr_rf kd se σ2 j ≤ (sm_R T lw nf nc kd se (md_c σ2 j 0 (nI c)) j len).1) = (pr_rf kd se σ j ≤ (sm_R T lw nf nc kd se (md_c σ j 0 (nI c)) j len).1) := fun c => by
      rw [pr_rf_rx g, pr_rf_of g1, sm_R_x (show jr_eqx iv_RX (md_c σ1 j 0 (nI c)) (md_c σ2 j 0 (nI c)) from jr_eqx_upb (jr_eqx_upb g (by decide)) (by decide)) (by decide), sm_R_of (cx_c g1 _ _ _)]
    have q10 : ∀ p1 : Nat, gcn j p1 p2 i < 2 ^ 30 ∨ True := fun _ => Or.inr trivial
    by_cases hij : i = j
    · rcases hp1 with ⟨rfl, hP⟩ | ⟨rfl, hP⟩
      · refine jr_iload 88 dX10_guilty_86 rfl rfl ?_
        refine jr_aload_n 0 89 dX10_guilty_88 rfl rfl rfl ?_
        refine gf_X10_105 92 dX10_guilty_89 rfl rfl rfl rfl ?_
        rw [hnf1]
        refine jr_icmp_ge 171 95 dX10_guilty_92 rfl rfl (fun q => absurd q (nI_ge (by omega) (by omega))) (fun q92 => ?_)
        refine jr_aload_n 0 96 dX10_guilty_95 rfl rfl rfl ?_
        refine jr_iload_n 1 97 dX10_guilty_96 rfl rfl rfl ?_
        refine jr_iload 99 dX10_guilty_97 rfl rfl ?_
        refine jr_iload_n 1 100 dX10_guilty_99 rfl rfl rfl ?_
        refine jr_icmp_ne 114 103 dX10_guilty_100 rfl rfl (fun q => absurd (by rw [hij]) q) (fun q100 => ?_)
        refine jr_iload 105 dX10_guilty_103 rfl rfl ?_
        refine jr_iload_n 2 106 dX10_guilty_105 rfl rfl rfl ?_
        refine jr_sipush (nI 1000) 109 dX10_guilty_106 rfl rfl ?_
        refine jr_irem 110 dX10_guilty_109 rfl (by decide) ?_
        rw [erem]
        refine jr_iadd 111 dX10_guilty_110 rfl ?_
        rw [nI_add]
        refine jr_goto 116 dX10_guilty_111 rfl ?_
        refine jr_iconst (0) 117 dX10_guilty_116 rfl rfl ?_
        refine jr_sipush (400) 120 dX10_guilty_117 rfl rfl ?_
        refine cs_X10_188 123 dX10_guilty_120 rfl rfl (Nat.le_of_ble_eq_true rfl) (wp_within ?_)
        rw [pu_within400 _ (by omega)]
        refine jr_iload_n 3 124 dX10_guilty_123 rfl rfl rfl ?_
        refine cs_X10_310 127 dX10_guilty_124 rfl rfl rfl (Nat.le_of_ble_eq_true rfl) (wp_rRedAsked (f := j) (len := len) (much := nI (min 400 (b / 1000 + b % 1000))) (rr_rx r1 g) hj hlen e70 e45 (fun σ3 g3 _ => ?_) (fun σ3 g3 qr => absurd (by rw [ep]; exact hP) qr))
        refine jr_istore (L' := [_, _, _, _, _, _, _, _, _, _, _]) 129 dX10_guilty_127 rfl (by decide) rfl ?_
        refine jr_iload 131 dX10_guilty_129 rfl rfl ?_
        refine jr_iload 133 dX10_guilty_131 rfl rfl ?_
        refine jr_if_eq 140 136 dX10_guilty_133 rfl rfl (fun q => absurd q (by decide)) (fun q133 => ?_)
        refine jr_iconst (1) 137 dX10_guilty_136 rfl rfl ?_
        refine jr_goto 141 dX10_guilty_137 rfl ?_
        refine jr_iadd 142 dX10_guilty_141 rfl ?_
        refine jr_topi (y := nI (gcn j 1 p2 (i + 1))) (by rw [(gcn_f hij).1]; exact nI_1 _) ?_
        refine jr_istore (L' := [_, _, _, _, _, _, _, _, _, _, _]) 144 dX10_guilty_142 rfl (by decide) rfl ?_
        refine jr_iload 146 dX10_guilty_144 rfl rfl ?_
        refine jr_iload 148 dX10_guilty_146 rfl rfl ?_
        refine jr_iload_n 1 149 dX10_guilty_148 rfl rfl rfl ?_
        refine jr_icmp_ne 161 152 dX10_guilty_149 rfl rfl (fun q => absurd (by rw [hij]) q) (fun q149 => ?_)
        refine jr_iload 154 dX10_guilty_152 rfl rfl ?_
        refine jr_if_eq 161 157 dX10_guilty_154 rfl rfl (fun q => absurd q (by decide)) (fun q154 => ?_)
        refine jr_iconst (1) 158 dX10_guilty_157 rfl rfl ?_
        refine jr_goto 162 dX10_guilty_158 rfl ?_
        refine jr_iadd 163 dX10_guilty_162 rfl ?_
        refine jr_topi (y := nI (gow j 1 (i + 1))) (by rw [(gcn_f (p2 := p2) hij).2]; exact nI_1 _) ?_
        refine jr_istore (L' := [_, _, _, _, _, _, _, _, _, _, _]) 165 dX10_guilty_163 rfl (by decide) rfl ?_
        refine jr_iinc (v := nI (i + 1)) (L' := [_, _, _, _, _, _, _, _, _, _, _]) 168 dX10_guilty_165 rfl rfl (nI_1 i) (by decide) rfl ?_
        refine jr_goto 86 dX10_guilty_168 rfl ?_
        exact ih (i + 1) σ3 _ (by omega) (jr_eqx_tr g g3)
      · refine jr_iload 88 dX10_guilty_86 rfl rfl ?_
        refine jr_aload_n 0 89 dX10_guilty_88 rfl rfl rfl ?_
        refine gf_X10_105 92 dX10_guilty_89 rfl rfl rfl rfl ?_
        rw [hnf1]
        refine jr_icmp_ge 171 95 dX10_guilty_92 rfl rfl (fun q => absurd q (nI_ge (by omega) (by omega))) (fun q92 => ?_)
        refine jr_aload_n 0 96 dX10_guilty_95 rfl rfl rfl ?_
        refine jr_iload_n 1 97 dX10_guilty_96 rfl rfl rfl ?_
        refine jr_iload 99 dX10_guilty_97 rfl rfl ?_
        refine jr_iload_n 1 100 dX10_guilty_99 rfl rfl rfl ?_
        refine jr_icmp_ne 114 103 dX10_guilty_100 rfl rfl (fun q => absurd (by rw [hij]) q) (fun q100 => ?_)
        refine jr_iload 105 dX10_guilty_103 rfl rfl ?_
        refine jr_iload_n 2 106 dX10_guilty_105 rfl rfl rfl ?_
        refine jr_sipush (nI 1000) 109 dX10_guilty_106 rfl rfl ?_
        refine jr_irem 110 dX10_guilty_109 rfl (by decide) ?_
        rw [erem]
        refine jr_iadd 111 dX10_guilty_110 rfl ?_
        rw [nI_add]
        refine jr_goto 116 dX10_guilty_111 rfl ?_
        refine jr_iconst (0) 117 dX10_guilty_116 rfl rfl ?_
        refine jr_sipush (400) 120 dX10_guilty_117 rfl rfl ?_
        refine cs_X10_188 123 dX10_guilty_120 rfl rfl (Nat.le_of_ble_eq_true rfl) (wp_within ?_)
        rw [pu_within400 _ (by omega)]
        refine jr_iload_n 3 124 dX10_guilty_123 rfl rfl rfl ?_
        refine cs_X10_310 127 dX10_guilty_124 rfl rfl rfl (Nat.le_of_ble_eq_true rfl) (wp_rRedAsked (f := j) (len := len) (much := nI (min 400 (b / 1000 + b % 1000))) (rr_rx r1 g) hj hlen e70 e45 (fun σ3 g3 qr => absurd (by rw [ep] at qr; exact qr) hP) (fun σ3 g3 _ => ?_))
        refine jr_istore (L' := [_, _, _, _, _, _, _, _, _, _, _]) 129 dX10_guilty_127 rfl (by decide) rfl ?_
        refine jr_iload 131 dX10_guilty_129 rfl rfl ?_
        refine jr_iload 133 dX10_guilty_131 rfl rfl ?_
        refine jr_if_eq 140 136 dX10_guilty_133 rfl rfl (fun q133 => ?_) (fun q => absurd (by decide) q)
        refine jr_iconst (0) 141 dX10_guilty_140 rfl rfl ?_
        refine jr_iadd 142 dX10_guilty_141 rfl ?_
        refine jr_topi (y := nI (gcn j 0 p2 (i + 1))) (by rw [(gcn_f hij).1]; exact Int32.add_zero _) ?_
        refine jr_istore (L' := [_, _, _, _, _, _, _, _, _, _, _]) 144 dX10_guilty_142 rfl (by decide) rfl ?_
        refine jr_iload 146 dX10_guilty_144 rfl rfl ?_
        refine jr_iload 148 dX10_guilty_146 rfl rfl ?_
        refine jr_iload_n 1 149 dX10_guilty_148 rfl rfl rfl ?_
        refine jr_icmp_ne 161 152 dX10_guilty_149 rfl rfl (fun q => absurd (by rw [hij]) q) (fun q149 => ?_)
        refine jr_iload 154 dX10_guilty_152 rfl rfl ?_
        refine jr_if_eq 161 157 dX10_guilty_154 rfl rfl (fun q154 => ?_) (fun q => absurd (by decide) q)
        refine jr_iconst (0) 162 dX10_guilty_161 rfl rfl ?_
        refine jr_iadd 163 dX10_guilty_162 rfl ?_
        refine jr_topi (y := nI (gow j 0 (i + 1))) (by rw [(gcn_f (p2 := p2) hij).2]; exact Int32.add_zero _) ?_
        refine jr_istore (L' := [_, _, _, _, _, _, _, _, _, _, _]) 165 dX10_guilty_163 rfl (by decide) rfl ?_
        refine jr_iinc (v := nI (i + 1)) (L' := [_, _, _, _, _, _, _, _, _, _, _]) 168 dX10_guilty_165 rfl rfl (nI_1 i) (by decide) rfl ?_
        refine jr_goto 86 dX10_guilty_168 rfl ?_
        exact ih (i + 1) σ3 _ (by omega) (jr_eqx_tr g g3)
    · rcases hp2 with ⟨rfl, hP⟩ | ⟨rfl, hP⟩
      · refine jr_iload 88 dX10_guilty_86 rfl rfl ?_
        refine jr_aload_n 0 89 dX10_guilty_88 rfl rfl rfl ?_
        refine gf_X10_105 92 dX10_guilty_89 rfl rfl rfl rfl ?_
        rw [hnf1]
        refine jr_icmp_ge 171 95 dX10_guilty_92 rfl rfl (fun q => absurd q (nI_ge (by omega) (by omega))) (fun q92 => ?_)
        refine jr_aload_n 0 96 dX10_guilty_95 rfl rfl rfl ?_
        refine jr_iload_n 1 97 dX10_guilty_96 rfl rfl rfl ?_
        refine jr_iload 99 dX10_guilty_97 rfl rfl ?_
        refine jr_iload_n 1 100 dX10_guilty_99 rfl rfl rfl ?_
        refine jr_icmp_ne 114 103 dX10_guilty_100 rfl rfl (fun q100 => ?_) (fun q => absurd (nI_inj (by omega) (by omega) q) hij)
        refine jr_iload 116 dX10_guilty_114 rfl rfl ?_
        refine jr_iconst (0) 117 dX10_guilty_116 rfl rfl ?_
        refine jr_sipush (400) 120 dX10_guilty_117 rfl rfl ?_
        refine cs_X10_188 123 dX10_guilty_120 rfl rfl (Nat.le_of_ble_eq_true rfl) (wp_within ?_)
        rw [pu_within400 _ (by omega), Nat.min_eq_right hd]
        refine jr_iload_n 3 124 dX10_guilty_123 rfl rfl rfl ?_
        refine cs_X10_310 127 dX10_guilty_124 rfl rfl rfl (Nat.le_of_ble_eq_true rfl) (wp_rRedAsked (f := j) (len := len) (much := nI (b / 1000)) (rr_rx r1 g) hj hlen e70 e45 (fun σ3 g3 _ => ?_) (fun σ3 g3 qr => absurd (by rw [ep]; exact hP) qr))
        refine jr_istore (L' := [_, _, _, _, _, _, _, _, _, _, _]) 129 dX10_guilty_127 rfl (by decide) rfl ?_
        refine jr_iload 131 dX10_guilty_129 rfl rfl ?_
        refine jr_iload 133 dX10_guilty_131 rfl rfl ?_
        refine jr_if_eq 140 136 dX10_guilty_133 rfl rfl (fun q => absurd q (by decide)) (fun q133 => ?_)
        refine jr_iconst (1) 137 dX10_guilty_136 rfl rfl ?_
        refine jr_goto 141 dX10_guilty_137 rfl ?_
        refine jr_iadd 142 dX10_guilty_141 rfl ?_
        refine jr_topi (y := nI (gcn j p1 1 (i + 1))) (by rw [(gcn_o hij).1]; exact nI_1 _) ?_
        refine jr_istore (L' := [_, _, _, _, _, _, _, _, _, _, _]) 144 dX10_guilty_142 rfl (by decide) rfl ?_
        refine jr_iload 146 dX10_guilty_144 rfl rfl ?_
        refine jr_iload 148 dX10_guilty_146 rfl rfl ?_
        refine jr_iload_n 1 149 dX10_guilty_148 rfl rfl rfl ?_
        refine jr_icmp_ne 161 152 dX10_guilty_149 rfl rfl (fun q149 => ?_) (fun q => absurd (nI_inj (by omega) (by omega) q) hij)
        refine jr_iconst (0) 162 dX10_guilty_161 rfl rfl ?_
        refine jr_iadd 163 dX10_guilty_162 rfl ?_
        refine jr_topi (y := nI (gow j p1 (i + 1))) (by rw [(gcn_o (p2 := 1) hij).2]; exact Int32.add_zero _) ?_
        refine jr_istore (L' := [_, _, _, _, _, _, _, _, _, _, _]) 165 dX10_guilty_163 rfl (by decide) rfl ?_
        refine jr_iinc (v := nI (i + 1)) (L' := [_, _, _, _, _, _, _, _, _, _, _]) 168 dX10_guilty_165 rfl rfl (nI_1 i) (by decide) rfl ?_
        refine jr_goto 86 dX10_guilty_168 rfl ?_
        exact ih (i + 1) σ3 _ (by omega) (jr_eqx_tr g g3)
      · refine jr_iload 88 dX10_guilty_86 rfl rfl ?_
        refine jr_aload_n 0 89 dX10_guilty_88 rfl rfl rfl ?_
        refine gf_X10_105 92 dX10_guilty_89 rfl rfl rfl rfl ?_
        rw [hnf1]
        refine jr_icmp_ge 171 95 dX10_guilty_92 rfl rfl (fun q => absurd q (nI_ge (by omega) (by omega))) (fun q92 => ?_)
        refine jr_aload_n 0 96 dX10_guilty_95 rfl rfl rfl ?_
        refine jr_iload_n 1 97 dX10_guilty_96 rfl rfl rfl ?_
        refine jr_iload 99 dX10_guilty_97 rfl rfl ?_
        refine jr_iload_n 1 100 dX10_guilty_99 rfl rfl rfl ?_
        refine jr_icmp_ne 114 103 dX10_guilty_100 rfl rfl (fun q100 => ?_) (fun q => absurd (nI_inj (by omega) (by omega) q) hij)
        refine jr_iload 116 dX10_guilty_114 rfl rfl ?_
        refine jr_iconst (0) 117 dX10_guilty_116 rfl rfl ?_
        refine jr_sipush (400) 120 dX10_guilty_117 rfl rfl ?_
        refine cs_X10_188 123 dX10_guilty_120 rfl rfl (Nat.le_of_ble_eq_true rfl) (wp_within ?_)
        rw [pu_within400 _ (by omega), Nat.min_eq_right hd]
        refine jr_iload_n 3 124 dX10_guilty_123 rfl rfl rfl ?_
        refine cs_X10_310 127 dX10_guilty_124 rfl rfl rfl (Nat.le_of_ble_eq_true rfl) (wp_rRedAsked (f := j) (len := len) (much := nI (b / 1000)) (rr_rx r1 g) hj hlen e70 e45 (fun σ3 g3 qr => absurd (by rw [ep] at qr; exact qr) hP) (fun σ3 g3 _ => ?_))
        refine jr_istore (L' := [_, _, _, _, _, _, _, _, _, _, _]) 129 dX10_guilty_127 rfl (by decide) rfl ?_
        refine jr_iload 131 dX10_guilty_129 rfl rfl ?_
        refine jr_iload 133 dX10_guilty_131 rfl rfl ?_
        refine jr_if_eq 140 136 dX10_guilty_133 rfl rfl (fun q133 => ?_) (fun q => absurd (by decide) q)
        refine jr_iconst (0) 141 dX10_guilty_140 rfl rfl ?_
        refine jr_iadd 142 dX10_guilty_141 rfl ?_
        refine jr_topi (y := nI (gcn j p1 0 (i + 1))) (by rw [(gcn_o hij).1]; exact Int32.add_zero _) ?_
        refine jr_istore (L' := [_, _, _, _, _, _, _, _, _, _, _]) 144 dX10_guilty_142 rfl (by decide) rfl ?_
        refine jr_iload 146 dX10_guilty_144 rfl rfl ?_
        refine jr_iload 148 dX10_guilty_146 rfl rfl ?_
        refine jr_iload_n 1 149 dX10_guilty_148 rfl rfl rfl ?_
        refine jr_icmp_ne 161 152 dX10_guilty_149 rfl rfl (fun q149 => ?_) (fun q => absurd (nI_inj (by omega) (by omega) q) hij)
        refine jr_iconst (0) 162 dX10_guilty_161 rfl rfl ?_
        refine jr_iadd 163 dX10_guilty_162 rfl ?_
        refine jr_topi (y := nI (gow j p1 (i + 1))) (by rw [(gcn_o (p2 := 0) hij).2]; exact Int32.add_zero _) ?_
        refine jr_istore (L' := [_, _, _, _, _, _, _, _, _, _, _]) 165 dX10_guilty_163 rfl (by decide) rfl ?_
        refine jr_iinc (v := nI (i + 1)) (L' := [_, _, _, _, _, _, _, _, _, _, _]) 168 dX10_guilty_165 rfl rfl (nI_1 i) (by decide) rfl ?_
        refine jr_goto 86 dX10_guilty_168 rfl ?_
        exact ih (i + 1) σ3 _ (by omega) (jr_eqx_tr g g3)
theorem pp_guilty {G : jr_G} {d : Nat} {σ : jr_Sg} {f c a e : Int32} (h : IV σ) : jr_pair G (d + 20) mi_X9_guilty mi_X10_guilty [.int f, .int c, .int a, .int e] σ := by
  obtain ⟨T, n, nf, nc, kd, se, lw, tp, h⟩ := h
  have hh := h
  obtain ⟨hTC, hTR, ⟨hsc, hsr, hl1, hl2, hlw, hfc, hli, hca⟩, htp, himg, hsh, hrest, hwd⟩ := hh
  have hnf := hsc.1
  have h5 := hsc.2.1
  have hnc := hsc.2.2.1
  have h8 := hsc.2.2.2.1
  have rnf := hsr.1
  have rnc := hsr.2.2.1
  have hlm := hrest.2.2.2.1
  unfold jr_pair
  by_cases hc : c < 0
  · rcases jr_fc f h5 with hf | ⟨j, hj, rfl⟩
    · refine jr_enter (L := [some (.ref 0), some (.int f), some (.int c), some (.int a), some (.int e), none, none, none, none]) (by decide) (Nat.le_of_ble_eq_true rfl) rfl ?_
      refine jr_iload_n 2 1 dX9_guilty_0 rfl rfl rfl ?_
      refine jr_if_lt 30 4 dX9_guilty_1 rfl rfl (fun q1 => ?_) (fun q => absurd hc q)
      refine jr_iconst (0) 31 dX9_guilty_30 rfl rfl ?_
      refine jr_istore (L' := [_, _, _, _, _, _, _, _, _]) 33 dX9_guilty_31 rfl (by decide) rfl ?_
      refine jr_iload 35 dX9_guilty_33 rfl rfl ?_
      refine jr_if_eq 67 38 dX9_guilty_35 rfl rfl (fun q35 => ?_) (fun q => absurd (by decide) q)
      refine jr_ldc2 kc_X9_278 70 dX9_guilty_67 rfl ?_
      refine jr_lreturn dX9_guilty_70 rfl ?_
      refine jr_enter (L := [some (.ref 46), some (.int f), some (.int c), some (.int a), some (.int e), none, none, none, none, none, none]) (by decide) (Nat.le_of_ble_eq_true rfl) rfl ?_
      refine jr_aload_n 0 1 dX10_guilty_0 rfl rfl rfl ?_
      refine jr_iload_n 1 2 dX10_guilty_1 rfl rfl rfl ?_
      refine cs_X10_204 5 dX10_guilty_2 rfl rfl rfl (Nat.le_of_ble_eq_true rfl) (wp_isFace rnf h5 (fun j hj e => absurd hf (by rw [e]; exact jr_fcn hj (by omega))) (fun _ => ?_))
      refine jr_if_eq 58 8 dX10_guilty_5 rfl rfl (fun q5 => ?_) (fun q => absurd (by decide) q)
      refine jr_iconst (0) 59 dX10_guilty_58 rfl rfl ?_
      refine jr_istore (L' := [_, _, _, _, _, _, _, _, _, _, _]) 61 dX10_guilty_59 rfl (by decide) rfl ?_
      refine jr_iload 63 dX10_guilty_61 rfl rfl ?_
      refine jr_if_ne 70 66 dX10_guilty_63 rfl rfl (fun q => absurd (by decide) q) (fun q63 => ?_)
      refine jr_ldc2 kc_X10_313 69 dX10_guilty_66 rfl ?_
      refine jr_lreturn dX10_guilty_69 rfl ?_
      exact ⟨rfl, IV_mov (iv_same_x (jr_eqx_rf [] _) (by decide)) h⟩
    · refine jr_enter (L := [some (.ref 0), some (.int (nI j)), some (.int c), some (.int a), some (.int e), none, none, none, none]) (by decide) (Nat.le_of_ble_eq_true rfl) rfl ?_
      refine jr_iload_n 2 1 dX9_guilty_0 rfl rfl rfl ?_
      refine jr_if_lt 30 4 dX9_guilty_1 rfl rfl (fun q1 => ?_) (fun q => absurd hc q)
      refine jr_iconst (0) 31 dX9_guilty_30 rfl rfl ?_
      refine jr_istore (L' := [_, _, _, _, _, _, _, _, _]) 33 dX9_guilty_31 rfl (by decide) rfl ?_
      refine jr_iload 35 dX9_guilty_33 rfl rfl ?_
      refine jr_if_eq 67 38 dX9_guilty_35 rfl rfl (fun q35 => ?_) (fun q => absurd (by decide) q)
      refine jr_ldc2 kc_X9_278 70 dX9_guilty_67 rfl ?_
      refine jr_lreturn dX9_guilty_70 rfl ?_
      refine jr_enter (L := [some (.ref 46), some (.int (nI j)), some (.int c), some (.int a), some (.int e), none, none, none, none, none, none]) (by decide) (Nat.le_of_ble_eq_true rfl) rfl ?_
      refine jr_aload_n 0 1 dX10_guilty_0 rfl rfl rfl ?_
      refine jr_iload_n 1 2 dX10_guilty_1 rfl rfl rfl ?_
      refine cs_X10_204 5 dX10_guilty_2 rfl rfl rfl (Nat.le_of_ble_eq_true rfl) (wp_isFace rnf h5 (fun _ _ _ => ?_) (fun q => absurd q (jr_fcn hj (by omega))))
      refine jr_if_eq 58 8 dX10_guilty_5 rfl rfl (fun q => absurd q (by decide)) (fun q5 => ?_)
      refine jr_iload_n 2 9 dX10_guilty_8 rfl rfl rfl ?_
      refine jr_if_lt 58 12 dX10_guilty_9 rfl rfl (fun q9 => ?_) (fun q => absurd hc q)
      refine jr_iconst (0) 59 dX10_guilty_58 rfl rfl ?_
      refine jr_istore (L' := [_, _, _, _, _, _, _, _, _, _, _]) 61 dX10_guilty_59 rfl (by decide) rfl ?_
      refine jr_iload 63 dX10_guilty_61 rfl rfl ?_
      refine jr_if_ne 70 66 dX10_guilty_63 rfl rfl (fun q => absurd (by decide) q) (fun q63 => ?_)
      refine jr_ldc2 kc_X10_313 69 dX10_guilty_66 rfl ?_
      refine jr_lreturn dX10_guilty_69 rfl ?_
      exact ⟨rfl, IV_mov (iv_same_x (jr_eqx_rf [] _) (by decide)) h⟩
  · obtain ⟨b, hb, rfl⟩ := nI_of hc
    have ediv : nI b / nI 1000 = nI (b / 1000) := pk_div hb (by omega) (by omega)
    have erem : nI b - nI b / nI 1000 * nI 1000 = nI (b % 1000) := pk_rem hb (by omega) (by omega)
    by_cases hd : b / 1000 ≤ 400
    · by_cases hm : b % 1000 ≤ 400
      · rcases jr_fc f h5 with hf | ⟨j, hj, rfl⟩
        · refine jr_enter (L := [some (.ref 0), some (.int f), some (.int (nI b)), some (.int a), some (.int e), none, none, none, none]) (by decide) (Nat.le_of_ble_eq_true rfl) rfl ?_
          refine jr_iload_n 2 1 dX9_guilty_0 rfl rfl rfl ?_
          refine jr_if_lt 30 4 dX9_guilty_1 rfl rfl (fun q => absurd q hc) (fun q1 => ?_)
          refine jr_iload_n 2 5 dX9_guilty_4 rfl rfl rfl ?_
          refine jr_sipush (nI 1000) 8 dX9_guilty_5 rfl rfl ?_
          refine jr_idiv 9 dX9_guilty_8 rfl (by decide) ?_
          rw [ediv]
          refine jr_sipush (nI 400) 12 dX9_guilty_9 rfl rfl ?_
          refine jr_icmp_gt 30 15 dX9_guilty_12 rfl rfl (fun q => absurd q (Int32.not_lt.mpr (nI_le (b := 400) hd (by omega)))) (fun q12 => ?_)
          refine jr_iload_n 2 16 dX9_guilty_15 rfl rfl rfl ?_
          refine jr_sipush (nI 1000) 19 dX9_guilty_16 rfl rfl ?_
          refine jr_irem 20 dX9_guilty_19 rfl (by decide) ?_
          rw [erem]
          refine jr_sipush (nI 400) 23 dX9_guilty_20 rfl rfl ?_
          refine jr_icmp_gt 30 26 dX9_guilty_23 rfl rfl (fun q => absurd q (Int32.not_lt.mpr (nI_le (b := 400) hm (by omega)))) (fun q23 => ?_)
          refine jr_iconst (nI 1) 27 dX9_guilty_26 rfl rfl ?_
          refine jr_goto 31 dX9_guilty_27 rfl ?_
          refine jr_istore (L' := [_, _, _, _, _, _, _, _, _]) 33 dX9_guilty_31 rfl (by decide) rfl ?_
          refine jr_iload 35 dX9_guilty_33 rfl rfl ?_
          refine jr_if_eq 67 38 dX9_guilty_35 rfl rfl (fun q => absurd q (by decide)) (fun q35 => ?_)
          refine jr_aload_n 0 39 dX9_guilty_38 rfl rfl rfl ?_
          refine gf_X9_44 42 dX9_guilty_39 rfl rfl rfl rfl ?_
          refine jr_iload_n 1 43 dX9_guilty_42 rfl rfl rfl ?_
          refine cs_X9_146 46 dX9_guilty_43 rfl rfl rfl (Nat.le_of_ble_eq_true rfl) (wp_has_15 hnf h5 (fun j hj e => absurd hf (by rw [e]; exact jr_fcn hj (by omega))) (fun _ => ?_))
          refine jr_if_eq 67 49 dX9_guilty_46 rfl rfl (fun q46 => ?_) (fun q => absurd (by decide) q)
          refine jr_ldc2 kc_X9_278 70 dX9_guilty_67 rfl ?_
          refine jr_lreturn dX9_guilty_70 rfl ?_
          refine jr_enter (L := [some (.ref 46), some (.int f), some (.int (nI b)), some (.int a), some (.int e), none, none, none, none, none, none]) (by decide) (Nat.le_of_ble_eq_true rfl) rfl ?_
          refine jr_aload_n 0 1 dX10_guilty_0 rfl rfl rfl ?_
          refine jr_iload_n 1 2 dX10_guilty_1 rfl rfl rfl ?_
          refine cs_X10_204 5 dX10_guilty_2 rfl rfl rfl (Nat.le_of_ble_eq_true rfl) (wp_isFace rnf h5 (fun j hj e => absurd hf (by rw [e]; exact jr_fcn hj (by omega))) (fun _ => ?_))
          refine jr_if_eq 58 8 dX10_guilty_5 rfl rfl (fun q5 => ?_) (fun q => absurd (by decide) q)
          refine jr_iconst (0) 59 dX10_guilty_58 rfl rfl ?_
          refine jr_istore (L' := [_, _, _, _, _, _, _, _, _, _, _]) 61 dX10_guilty_59 rfl (by decide) rfl ?_
          refine jr_iload 63 dX10_guilty_61 rfl rfl ?_
          refine jr_if_ne 70 66 dX10_guilty_63 rfl rfl (fun q => absurd (by decide) q) (fun q63 => ?_)
          refine jr_ldc2 kc_X10_313 69 dX10_guilty_66 rfl ?_
          refine jr_lreturn dX10_guilty_69 rfl ?_
          exact ⟨rfl, IV_mov (iv_same_x (jr_eqx_rf [] _) (by decide)) h⟩
        · rcases jr_rg a (m := 40) (by decide) with qlen | ⟨len, hlen, rfl⟩
          · refine jr_enter (L := [some (.ref 0), some (.int (nI j)), some (.int (nI b)), some (.int a), some (.int e), none, none, none, none]) (by decide) (Nat.le_of_ble_eq_true rfl) rfl ?_
            refine jr_iload_n 2 1 dX9_guilty_0 rfl rfl rfl ?_
            refine jr_if_lt 30 4 dX9_guilty_1 rfl rfl (fun q => absurd q hc) (fun q1 => ?_)
            refine jr_iload_n 2 5 dX9_guilty_4 rfl rfl rfl ?_
            refine jr_sipush (nI 1000) 8 dX9_guilty_5 rfl rfl ?_
            refine jr_idiv 9 dX9_guilty_8 rfl (by decide) ?_
            rw [ediv]
            refine jr_sipush (nI 400) 12 dX9_guilty_9 rfl rfl ?_
            refine jr_icmp_gt 30 15 dX9_guilty_12 rfl rfl (fun q => absurd q (Int32.not_lt.mpr (nI_le (b := 400) hd (by omega)))) (fun q12 => ?_)
            refine jr_iload_n 2 16 dX9_guilty_15 rfl rfl rfl ?_
            refine jr_sipush (nI 1000) 19 dX9_guilty_16 rfl rfl ?_
            refine jr_irem 20 dX9_guilty_19 rfl (by decide) ?_
            rw [erem]
            refine jr_sipush (nI 400) 23 dX9_guilty_20 rfl rfl ?_
            refine jr_icmp_gt 30 26 dX9_guilty_23 rfl rfl (fun q => absurd q (Int32.not_lt.mpr (nI_le (b := 400) hm (by omega)))) (fun q23 => ?_)
            refine jr_iconst (nI 1) 27 dX9_guilty_26 rfl rfl ?_
            refine jr_goto 31 dX9_guilty_27 rfl ?_
            refine jr_istore (L' := [_, _, _, _, _, _, _, _, _]) 33 dX9_guilty_31 rfl (by decide) rfl ?_
            refine jr_iload 35 dX9_guilty_33 rfl rfl ?_
            refine jr_if_eq 67 38 dX9_guilty_35 rfl rfl (fun q => absurd q (by decide)) (fun q35 => ?_)
            refine jr_aload_n 0 39 dX9_guilty_38 rfl rfl rfl ?_
            refine gf_X9_44 42 dX9_guilty_39 rfl rfl rfl rfl ?_
            refine jr_iload_n 1 43 dX9_guilty_42 rfl rfl rfl ?_
            refine cs_X9_146 46 dX9_guilty_43 rfl rfl rfl (Nat.le_of_ble_eq_true rfl) (wp_hasT_15 hnf h5 hj ?_)
            refine jr_if_eq 67 49 dX9_guilty_46 rfl rfl (fun q => absurd q (by decide)) (fun q46 => ?_)
            refine jr_iload_n 3 50 dX9_guilty_49 rfl rfl rfl ?_
            refine jr_bipush (nI 40) 52 dX9_guilty_50 rfl rfl ?_
            refine cs_X9_104 55 dX9_guilty_52 rfl rfl (Nat.le_of_ble_eq_true rfl) (wp_wiF qlen ?_)
            refine jr_if_eq 67 58 dX9_guilty_55 rfl rfl (fun q55 => ?_) (fun q => absurd (by decide) q)
            refine jr_ldc2 kc_X9_278 70 dX9_guilty_67 rfl ?_
            refine jr_lreturn dX9_guilty_70 rfl ?_
            refine jr_enter (L := [some (.ref 46), some (.int (nI j)), some (.int (nI b)), some (.int a), some (.int e), none, none, none, none, none, none]) (by decide) (Nat.le_of_ble_eq_true rfl) rfl ?_
            refine jr_aload_n 0 1 dX10_guilty_0 rfl rfl rfl ?_
            refine jr_iload_n 1 2 dX10_guilty_1 rfl rfl rfl ?_
            refine cs_X10_204 5 dX10_guilty_2 rfl rfl rfl (Nat.le_of_ble_eq_true rfl) (wp_isFace rnf h5 (fun _ _ _ => ?_) (fun q => absurd q (jr_fcn hj (by omega))))
            refine jr_if_eq 58 8 dX10_guilty_5 rfl rfl (fun q => absurd q (by decide)) (fun q5 => ?_)
            refine jr_iload_n 2 9 dX10_guilty_8 rfl rfl rfl ?_
            refine jr_if_lt 58 12 dX10_guilty_9 rfl rfl (fun q => absurd q hc) (fun q9 => ?_)
            refine jr_iload_n 2 13 dX10_guilty_12 rfl rfl rfl ?_
            refine jr_sipush (nI 1000) 16 dX10_guilty_13 rfl rfl ?_
            refine jr_idiv 17 dX10_guilty_16 rfl (by decide) ?_
            rw [ediv]
            refine cs_X10_191 20 dX10_guilty_17 rfl rfl (Nat.le_of_ble_eq_true rfl) (wp_risMuch (fun _ _ => ?_) (fun q => absurd ⟨nI_pos' (by omega), nI_le (b := 400) hd (by omega)⟩ q))
            refine jr_if_eq 58 23 dX10_guilty_20 rfl rfl (fun q => absurd q (by decide)) (fun q20 => ?_)
            refine jr_iload_n 2 24 dX10_guilty_23 rfl rfl rfl ?_
            refine jr_sipush (nI 1000) 27 dX10_guilty_24 rfl rfl ?_
            refine jr_irem 28 dX10_guilty_27 rfl (by decide) ?_
            rw [erem]
            refine cs_X10_191 31 dX10_guilty_28 rfl rfl (Nat.le_of_ble_eq_true rfl) (wp_risMuch (fun _ _ => ?_) (fun q => absurd ⟨nI_pos' (by omega), nI_le (b := 400) hm (by omega)⟩ q))
            refine jr_if_eq 58 34 dX10_guilty_31 rfl rfl (fun q => absurd q (by decide)) (fun q31 => ?_)
            refine jr_iload_n 3 35 dX10_guilty_34 rfl rfl rfl ?_
            refine jr_iconst (nI 0) 36 dX10_guilty_35 rfl rfl ?_
            refine jr_bipush (nI 40) 38 dX10_guilty_36 rfl rfl ?_
            refine cs_X10_108 41 dX10_guilty_38 rfl rfl (Nat.le_of_ble_eq_true rfl) (wp_inF qlen ?_)
            refine jr_if_eq 58 44 dX10_guilty_41 rfl rfl (fun q41 => ?_) (fun q => absurd (by decide) q)
            refine jr_iconst (nI 0) 59 dX10_guilty_58 rfl rfl ?_
            refine jr_istore (L' := [_, _, _, _, _, _, _, _, _, _, _]) 61 dX10_guilty_59 rfl (by decide) rfl ?_
            refine jr_iload 63 dX10_guilty_61 rfl rfl ?_
            refine jr_if_ne 70 66 dX10_guilty_63 rfl rfl (fun q => absurd (by decide) q) (fun q63 => ?_)
            refine jr_ldc2 kc_X10_313 69 dX10_guilty_66 rfl ?_
            refine jr_lreturn dX10_guilty_69 rfl ?_
            exact ⟨rfl, IV_mov (iv_same_x (jr_eqx_rf [] _) (by decide)) h⟩
          · rcases jr_rg e (m := 1) (by decide) with qq | ⟨q, hq, rfl⟩
            · refine jr_enter (L := [some (.ref 0), some (.int (nI j)), some (.int (nI b)), some (.int (nI len)), some (.int e), none, none, none, none]) (by decide) (Nat.le_of_ble_eq_true rfl) rfl ?_
              refine jr_iload_n 2 1 dX9_guilty_0 rfl rfl rfl ?_
              refine jr_if_lt 30 4 dX9_guilty_1 rfl rfl (fun q => absurd q hc) (fun q1 => ?_)
              refine jr_iload_n 2 5 dX9_guilty_4 rfl rfl rfl ?_
              refine jr_sipush (nI 1000) 8 dX9_guilty_5 rfl rfl ?_
              refine jr_idiv 9 dX9_guilty_8 rfl (by decide) ?_
              rw [ediv]
              refine jr_sipush (nI 400) 12 dX9_guilty_9 rfl rfl ?_
              refine jr_icmp_gt 30 15 dX9_guilty_12 rfl rfl (fun q => absurd q (Int32.not_lt.mpr (nI_le (b := 400) hd (by omega)))) (fun q12 => ?_)
              refine jr_iload_n 2 16 dX9_guilty_15 rfl rfl rfl ?_
              refine jr_sipush (nI 1000) 19 dX9_guilty_16 rfl rfl ?_
              refine jr_irem 20 dX9_guilty_19 rfl (by decide) ?_
              rw [erem]
              refine jr_sipush (nI 400) 23 dX9_guilty_20 rfl rfl ?_
              refine jr_icmp_gt 30 26 dX9_guilty_23 rfl rfl (fun q => absurd q (Int32.not_lt.mpr (nI_le (b := 400) hm (by omega)))) (fun q23 => ?_)
              refine jr_iconst (nI 1) 27 dX9_guilty_26 rfl rfl ?_
              refine jr_goto 31 dX9_guilty_27 rfl ?_
              refine jr_istore (L' := [_, _, _, _, _, _, _, _, _]) 33 dX9_guilty_31 rfl (by decide) rfl ?_
              refine jr_iload 35 dX9_guilty_33 rfl rfl ?_
              refine jr_if_eq 67 38 dX9_guilty_35 rfl rfl (fun q => absurd q (by decide)) (fun q35 => ?_)
              refine jr_aload_n 0 39 dX9_guilty_38 rfl rfl rfl ?_
              refine gf_X9_44 42 dX9_guilty_39 rfl rfl rfl rfl ?_
              refine jr_iload_n 1 43 dX9_guilty_42 rfl rfl rfl ?_
              refine cs_X9_146 46 dX9_guilty_43 rfl rfl rfl (Nat.le_of_ble_eq_true rfl) (wp_hasT_15 hnf h5 hj ?_)
              refine jr_if_eq 67 49 dX9_guilty_46 rfl rfl (fun q => absurd q (by decide)) (fun q46 => ?_)
              refine jr_iload_n 3 50 dX9_guilty_49 rfl rfl rfl ?_
              refine jr_bipush (nI 40) 52 dX9_guilty_50 rfl rfl ?_
              refine cs_X9_104 55 dX9_guilty_52 rfl rfl (Nat.le_of_ble_eq_true rfl) (wp_wiT hlen (by decide) rfl ?_)
              refine jr_if_eq 67 58 dX9_guilty_55 rfl rfl (fun q => absurd q (by decide)) (fun q55 => ?_)
              refine jr_iload 60 dX9_guilty_58 rfl rfl ?_
              refine jr_iconst (nI 1) 61 dX9_guilty_60 rfl rfl ?_
              refine cs_X9_104 64 dX9_guilty_61 rfl rfl (Nat.le_of_ble_eq_true rfl) (wp_wiF qq ?_)
              refine jr_if_ne 71 67 dX9_guilty_64 rfl rfl (fun q => absurd (by decide) q) (fun q64 => ?_)
              refine jr_ldc2 kc_X9_278 70 dX9_guilty_67 rfl ?_
              refine jr_lreturn dX9_guilty_70 rfl ?_
              refine jr_enter (L := [some (.ref 46), some (.int (nI j)), some (.int (nI b)), some (.int (nI len)), some (.int e), none, none, none, none, none, none]) (by decide) (Nat.le_of_ble_eq_true rfl) rfl ?_
              refine jr_aload_n 0 1 dX10_guilty_0 rfl rfl rfl ?_
              refine jr_iload_n 1 2 dX10_guilty_1 rfl rfl rfl ?_
              refine cs_X10_204 5 dX10_guilty_2 rfl rfl rfl (Nat.le_of_ble_eq_true rfl) (wp_isFace rnf h5 (fun _ _ _ => ?_) (fun q => absurd q (jr_fcn hj (by omega))))
              refine jr_if_eq 58 8 dX10_guilty_5 rfl rfl (fun q => absurd q (by decide)) (fun q5 => ?_)
              refine jr_iload_n 2 9 dX10_guilty_8 rfl rfl rfl ?_
              refine jr_if_lt 58 12 dX10_guilty_9 rfl rfl (fun q => absurd q hc) (fun q9 => ?_)
              refine jr_iload_n 2 13 dX10_guilty_12 rfl rfl rfl ?_
              refine jr_sipush (nI 1000) 16 dX10_guilty_13 rfl rfl ?_
              refine jr_idiv 17 dX10_guilty_16 rfl (by decide) ?_
              rw [ediv]
              refine cs_X10_191 20 dX10_guilty_17 rfl rfl (Nat.le_of_ble_eq_true rfl) (wp_risMuch (fun _ _ => ?_) (fun q => absurd ⟨nI_pos' (by omega), nI_le (b := 400) hd (by omega)⟩ q))
              refine jr_if_eq 58 23 dX10_guilty_20 rfl rfl (fun q => absurd q (by decide)) (fun q20 => ?_)
              refine jr_iload_n 2 24 dX10_guilty_23 rfl rfl rfl ?_
              refine jr_sipush (nI 1000) 27 dX10_guilty_24 rfl rfl ?_
              refine jr_irem 28 dX10_guilty_27 rfl (by decide) ?_
              rw [erem]
              refine cs_X10_191 31 dX10_guilty_28 rfl rfl (Nat.le_of_ble_eq_true rfl) (wp_risMuch (fun _ _ => ?_) (fun q => absurd ⟨nI_pos' (by omega), nI_le (b := 400) hm (by omega)⟩ q))
              refine jr_if_eq 58 34 dX10_guilty_31 rfl rfl (fun q => absurd q (by decide)) (fun q31 => ?_)
              refine jr_iload_n 3 35 dX10_guilty_34 rfl rfl rfl ?_
              refine jr_iconst (nI 0) 36 dX10_guilty_35 rfl rfl ?_
              refine jr_bipush (nI 40) 38 dX10_guilty_36 rfl rfl ?_
              refine cs_X10_108 41 dX10_guilty_38 rfl rfl (Nat.le_of_ble_eq_true rfl) (wp_inT hlen (by decide) rfl ?_)
              refine jr_if_eq 58 44 dX10_guilty_41 rfl rfl (fun q => absurd q (by decide)) (fun q41 => ?_)
              refine jr_iload 46 dX10_guilty_44 rfl rfl ?_
              refine jr_iconst (nI 0) 47 dX10_guilty_46 rfl rfl ?_
              refine jr_iconst (nI 1) 48 dX10_guilty_47 rfl rfl ?_
              refine cs_X10_108 51 dX10_guilty_48 rfl rfl (Nat.le_of_ble_eq_true rfl) (wp_inF qq ?_)
              refine jr_if_eq 58 54 dX10_guilty_51 rfl rfl (fun q51 => ?_) (fun q => absurd (by decide) q)
              refine jr_iconst (nI 0) 59 dX10_guilty_58 rfl rfl ?_
              refine jr_istore (L' := [_, _, _, _, _, _, _, _, _, _, _]) 61 dX10_guilty_59 rfl (by decide) rfl ?_
              refine jr_iload 63 dX10_guilty_61 rfl rfl ?_
              refine jr_if_ne 70 66 dX10_guilty_63 rfl rfl (fun q => absurd (by decide) q) (fun q63 => ?_)
              refine jr_ldc2 kc_X10_313 69 dX10_guilty_66 rfl ?_
              refine jr_lreturn dX10_guilty_69 rfl ?_
              exact ⟨rfl, IV_mov (iv_same_x (jr_eqx_rf [] _) (by decide)) h⟩
            · have hpos : 0 < nf := by omega
              have n1 : nI nf - nI 1 = nI (nf - 1) := by rw [pk_sub (by omega)]
              have key : ∃ p1 p2 : Nat, ((p1 = 1 ∧ pr_rf kd se σ j ≤ (sm_R T lw nf nc kd se (md_c σ j 0 (nI (min 400 (b / 1000 + b % 1000)))) j len).1) ∨ (p1 = 0 ∧ ¬ pr_rf kd se σ j ≤ (sm_R T lw nf nc kd se (md_c σ j 0 (nI (min 400 (b / 1000 + b % 1000)))) j len).1)) ∧ ((p2 = 1 ∧ pr_rf kd se σ j ≤ (sm_R T lw nf nc kd se (md_c σ j 0 (nI (b / 1000))) j len).1) ∨ (p2 = 0 ∧ ¬ pr_rf kd se σ j ≤ (sm_R T lw nf nc kd se (md_c σ j 0 (nI (b / 1000))) j len).1)) := by
                by_cases z1 : pr_rf kd se σ j ≤ (sm_R T lw nf nc kd se (md_c σ j 0 (nI (min 400 (b / 1000 + b % 1000)))) j len).1
                · by_cases z2 : pr_rf kd se σ j ≤ (sm_R T lw nf nc kd se (md_c σ j 0 (nI (b / 1000))) j len).1
                  · exact ⟨1, 1, Or.inl ⟨rfl, z1⟩, Or.inl ⟨rfl, z2⟩⟩
                  · exact ⟨1, 0, Or.inl ⟨rfl, z1⟩, Or.inr ⟨rfl, z2⟩⟩
                · by_cases z2 : pr_rf kd se σ j ≤ (sm_R T lw nf nc kd se (md_c σ j 0 (nI (b / 1000))) j len).1
                  · exact ⟨0, 1, Or.inr ⟨rfl, z1⟩, Or.inl ⟨rfl, z2⟩⟩
                  · exact ⟨0, 0, Or.inr ⟨rfl, z1⟩, Or.inr ⟨rfl, z2⟩⟩
              obtain ⟨p1, p2, hp1, hp2⟩ := key
              have hq1 : p1 ≤ 1 := by rcases hp1 with ⟨e, _⟩ | ⟨e, _⟩ <;> omega
              have hq2 : p2 ≤ 1 := by rcases hp2 with ⟨e, _⟩ | ⟨e, _⟩ <;> omega
              have hcn : gcn j p1 p2 nf = p1 + (nf - 1) * p2 := by unfold gcn; rw [if_pos hj, if_pos hj]
              have hco : gow j p1 nf = p1 := if_pos hj
              have hle : p1 + (nf - 1) * p2 ≤ 20 := by
                rcases (by omega : p2 = 0 ∨ p2 = 1) with rfl | rfl <;> omega
              rcases hp1 with ⟨rfl, hP⟩ | ⟨rfl, hP⟩
              · have hP1 := hP
                rcases hp2 with ⟨rfl, hP⟩ | ⟨rfl, hP⟩
                · refine jr_enter (L := [some (.ref 0), some (.int (nI j)), some (.int (nI b)), some (.int (nI len)), some (.int (nI q)), none, none, none, none]) (by decide) (Nat.le_of_ble_eq_true rfl) rfl ?_
                  refine jr_iload_n 2 1 dX9_guilty_0 rfl rfl rfl ?_
                  refine jr_if_lt 30 4 dX9_guilty_1 rfl rfl (fun q => absurd q hc) (fun q1 => ?_)
                  refine jr_iload_n 2 5 dX9_guilty_4 rfl rfl rfl ?_
                  refine jr_sipush (nI 1000) 8 dX9_guilty_5 rfl rfl ?_
                  refine jr_idiv 9 dX9_guilty_8 rfl (by decide) ?_
                  rw [ediv]
                  refine jr_sipush (nI 400) 12 dX9_guilty_9 rfl rfl ?_
                  refine jr_icmp_gt 30 15 dX9_guilty_12 rfl rfl (fun q => absurd q (Int32.not_lt.mpr (nI_le (b := 400) hd (by omega)))) (fun q12 => ?_)
                  refine jr_iload_n 2 16 dX9_guilty_15 rfl rfl rfl ?_
                  refine jr_sipush (nI 1000) 19 dX9_guilty_16 rfl rfl ?_
                  refine jr_irem 20 dX9_guilty_19 rfl (by decide) ?_
                  rw [erem]
                  refine jr_sipush (nI 400) 23 dX9_guilty_20 rfl rfl ?_
                  refine jr_icmp_gt 30 26 dX9_guilty_23 rfl rfl (fun q => absurd q (Int32.not_lt.mpr (nI_le (b := 400) hm (by omega)))) (fun q23 => ?_)
                  refine jr_iconst (1) 27 dX9_guilty_26 rfl rfl ?_
                  refine jr_goto 31 dX9_guilty_27 rfl ?_
                  refine jr_istore (L' := [_, _, _, _, _, _, _, _, _]) 33 dX9_guilty_31 rfl (by decide) rfl ?_
                  refine jr_iload 35 dX9_guilty_33 rfl rfl ?_
                  refine jr_if_eq 67 38 dX9_guilty_35 rfl rfl (fun q => absurd q (by decide)) (fun q35 => ?_)
                  refine jr_aload_n 0 39 dX9_guilty_38 rfl rfl rfl ?_
                  refine gf_X9_44 42 dX9_guilty_39 rfl rfl rfl rfl ?_
                  refine jr_iload_n 1 43 dX9_guilty_42 rfl rfl rfl ?_
                  refine cs_X9_146 46 dX9_guilty_43 rfl rfl rfl (Nat.le_of_ble_eq_true rfl) (wp_hasT_15 hnf h5 hj ?_)
                  refine jr_if_eq 67 49 dX9_guilty_46 rfl rfl (fun q => absurd q (by decide)) (fun q46 => ?_)
                  refine jr_iload_n 3 50 dX9_guilty_49 rfl rfl rfl ?_
                  refine jr_bipush (nI 40) 52 dX9_guilty_50 rfl rfl ?_
                  refine cs_X9_104 55 dX9_guilty_52 rfl rfl (Nat.le_of_ble_eq_true rfl) (wp_wiT hlen (by decide) rfl ?_)
                  refine jr_if_eq 67 58 dX9_guilty_55 rfl rfl (fun q => absurd q (by decide)) (fun q55 => ?_)
                  refine jr_iload 60 dX9_guilty_58 rfl rfl ?_
                  refine jr_iconst (nI 1) 61 dX9_guilty_60 rfl rfl ?_
                  refine cs_X9_104 64 dX9_guilty_61 rfl rfl (Nat.le_of_ble_eq_true rfl) (wp_wiT hq (by decide) rfl ?_)
                  refine jr_if_ne 71 67 dX9_guilty_64 rfl rfl (fun q64 => ?_) (fun q => absurd q (by decide))
                  refine jr_iload_n 2 72 dX9_guilty_71 rfl rfl rfl ?_
                  refine jr_sipush (nI 1000) 75 dX9_guilty_72 rfl rfl ?_
                  refine jr_idiv 76 dX9_guilty_75 rfl (by decide) ?_
                  rw [ediv]
                  refine jr_istore (L' := [_, _, _, _, _, _, _, _, _]) 78 dX9_guilty_76 rfl (by decide) rfl ?_
                  refine jr_aload_n 0 79 dX9_guilty_78 rfl rfl rfl ?_
                  refine jr_iload_n 1 80 dX9_guilty_79 rfl rfl rfl ?_
                  refine jr_sipush (400) 83 dX9_guilty_80 rfl rfl ?_
                  refine jr_iload 85 dX9_guilty_83 rfl rfl ?_
                  refine jr_iload_n 2 86 dX9_guilty_85 rfl rfl rfl ?_
                  refine jr_sipush (nI 1000) 89 dX9_guilty_86 rfl rfl ?_
                  refine jr_irem 90 dX9_guilty_89 rfl (by decide) ?_
                  rw [erem]
                  refine jr_iadd 91 dX9_guilty_90 rfl ?_
                  rw [nI_add]
                  refine jr_mmin 94 dX9_guilty_91 rfl ml_X9_280 (Nat.le_of_ble_eq_true rfl) ?_
                  rw [pu_min400 _ (by omega)]
                  refine jr_iload_n 3 95 dX9_guilty_94 rfl rfl rfl ?_
                  refine cs_X9_274 98 dX9_guilty_95 rfl rfl rfl (Nat.le_of_ble_eq_true rfl) (wp_cRedAsked (f := j) (len := len) (much := nI (min 400 (b / 1000 + b % 1000))) h hj hlen (jr_eqx_rf _ _) (fun σ5 g5 _ => ?_) (fun _ _ qr => absurd hP1 qr))
                  refine jr_if_eq 105 101 dX9_guilty_98 rfl rfl (fun q => absurd q (by decide)) (fun q98 => ?_)
                  refine jr_iconst (nI 1) 102 dX9_guilty_101 rfl rfl ?_
                  refine jr_goto 106 dX9_guilty_102 rfl ?_
                  refine jr_istore (L' := [_, _, _, _, _, _, _, _, _]) 108 dX9_guilty_106 rfl (by decide) rfl ?_
                  refine jr_aload_n 0 109 dX9_guilty_108 rfl rfl rfl ?_
                  refine jr_iload_n 1 110 dX9_guilty_109 rfl rfl rfl ?_
                  refine jr_iload 112 dX9_guilty_110 rfl rfl ?_
                  refine jr_iload_n 3 113 dX9_guilty_112 rfl rfl rfl ?_
                  refine cs_X9_274 116 dX9_guilty_113 rfl rfl rfl (Nat.le_of_ble_eq_true rfl) (wp_cRedAsked (f := j) (len := len) (much := nI (b / 1000)) h hj hlen g5 (fun σ1 g1 _ => ?_) (fun _ _ qr => absurd hP qr))
                  refine jr_if_eq 131 119 dX9_guilty_116 rfl rfl (fun q => absurd q (by decide)) (fun q116 => ?_)
                  have hnf1 : σ1 15 8 = nI nf := by rw [g1 15 (by decide)]; exact hnf
                  refine jr_aload_n 0 120 dX9_guilty_119 rfl rfl rfl ?_
                  refine gf_X9_44 123 dX9_guilty_120 rfl rfl rfl rfl ?_
                  refine gf_X9_84 126 dX9_guilty_123 rfl rfl rfl rfl ?_
                  rw [hnf1]
                  refine jr_iconst (nI 1) 127 dX9_guilty_126 rfl rfl ?_
                  refine jr_isub 128 dX9_guilty_127 rfl ?_
                  rw [n1]
                  refine jr_goto 132 dX9_guilty_128 rfl ?_
                  refine jr_istore (L' := [_, _, _, _, _, _, _, _, _]) 134 dX9_guilty_132 rfl (by decide) rfl ?_
                  refine jr_iload 136 dX9_guilty_134 rfl rfl ?_
                  refine jr_iload 138 dX9_guilty_136 rfl rfl ?_
                  refine jr_iload 140 dX9_guilty_138 rfl rfl ?_
                  refine jr_iadd 141 dX9_guilty_140 rfl ?_
                  refine jr_topi (y := nI (1 + (nf - 1) * 1)) (by rw [nI_add]; congr 1; omega) ?_
                  refine jr_iload 143 dX9_guilty_141 rfl rfl ?_
                  refine cs_X9_285 146 dX9_guilty_143 rfl rfl (Nat.le_of_ble_eq_true rfl) (wp_lowestTerms (by omega) hle (by omega) ?_)
                  refine jr_lreturn dX9_guilty_146 rfl ?_
                  have h1 := iv_mov (iv_cx g1) h
                  have r1 := rr_of h1
                  refine jr_enter (L := [some (.ref 46), some (.int (nI j)), some (.int (nI b)), some (.int (nI len)), some (.int (nI q)), none, none, none, none, none, none]) (by decide) (Nat.le_of_ble_eq_true rfl) rfl ?_
                  refine jr_aload_n 0 1 dX10_guilty_0 rfl rfl rfl ?_
                  refine jr_iload_n 1 2 dX10_guilty_1 rfl rfl rfl ?_
                  refine cs_X10_204 5 dX10_guilty_2 rfl rfl rfl (Nat.le_of_ble_eq_true rfl) (wp_isFace r1.1.1 h5 (fun _ _ _ => ?_) (fun q => absurd q (jr_fcn hj (by omega))))
                  refine jr_if_eq 58 8 dX10_guilty_5 rfl rfl (fun q => absurd q (by decide)) (fun q5 => ?_)
                  refine jr_iload_n 2 9 dX10_guilty_8 rfl rfl rfl ?_
                  refine jr_if_lt 58 12 dX10_guilty_9 rfl rfl (fun q => absurd q hc) (fun q9 => ?_)
                  refine jr_iload_n 2 13 dX10_guilty_12 rfl rfl rfl ?_
                  refine jr_sipush (nI 1000) 16 dX10_guilty_13 rfl rfl ?_
                  refine jr_idiv 17 dX10_guilty_16 rfl (by decide) ?_
                  rw [ediv]
                  refine cs_X10_191 20 dX10_guilty_17 rfl rfl (Nat.le_of_ble_eq_true rfl) (wp_risMuch (fun _ _ => ?_) (fun q => absurd ⟨nI_pos' (by omega), nI_le (b := 400) hd (by omega)⟩ q))
                  refine jr_if_eq 58 23 dX10_guilty_20 rfl rfl (fun q => absurd q (by decide)) (fun q20 => ?_)
                  refine jr_iload_n 2 24 dX10_guilty_23 rfl rfl rfl ?_
                  refine jr_sipush (nI 1000) 27 dX10_guilty_24 rfl rfl ?_
                  refine jr_irem 28 dX10_guilty_27 rfl (by decide) ?_
                  rw [erem]
                  refine cs_X10_191 31 dX10_guilty_28 rfl rfl (Nat.le_of_ble_eq_true rfl) (wp_risMuch (fun _ _ => ?_) (fun q => absurd ⟨nI_pos' (by omega), nI_le (b := 400) hm (by omega)⟩ q))
                  refine jr_if_eq 58 34 dX10_guilty_31 rfl rfl (fun q => absurd q (by decide)) (fun q31 => ?_)
                  refine jr_iload_n 3 35 dX10_guilty_34 rfl rfl rfl ?_
                  refine jr_iconst (nI 0) 36 dX10_guilty_35 rfl rfl ?_
                  refine jr_bipush (nI 40) 38 dX10_guilty_36 rfl rfl ?_
                  refine cs_X10_108 41 dX10_guilty_38 rfl rfl (Nat.le_of_ble_eq_true rfl) (wp_inT hlen (by decide) rfl ?_)
                  refine jr_if_eq 58 44 dX10_guilty_41 rfl rfl (fun q => absurd q (by decide)) (fun q41 => ?_)
                  refine jr_iload 46 dX10_guilty_44 rfl rfl ?_
                  refine jr_iconst (nI 0) 47 dX10_guilty_46 rfl rfl ?_
                  refine jr_iconst (nI 1) 48 dX10_guilty_47 rfl rfl ?_
                  refine cs_X10_108 51 dX10_guilty_48 rfl rfl (Nat.le_of_ble_eq_true rfl) (wp_inT hq (by decide) rfl ?_)
                  refine jr_if_eq 58 54 dX10_guilty_51 rfl rfl (fun q => absurd q (by decide)) (fun q51 => ?_)
                  refine jr_iconst (1) 55 dX10_guilty_54 rfl rfl ?_
                  refine jr_goto 59 dX10_guilty_55 rfl ?_
                  refine jr_istore (L' := [_, _, _, _, _, _, _, _, _, _, _]) 61 dX10_guilty_59 rfl (by decide) rfl ?_
                  refine jr_iload 63 dX10_guilty_61 rfl rfl ?_
                  refine jr_if_ne 70 66 dX10_guilty_63 rfl rfl (fun q63 => ?_) (fun q => absurd q (by decide))
                  refine jr_iload_n 2 71 dX10_guilty_70 rfl rfl rfl ?_
                  refine jr_sipush (nI 1000) 74 dX10_guilty_71 rfl rfl ?_
                  refine jr_idiv 75 dX10_guilty_74 rfl (by decide) ?_
                  rw [ediv]
                  refine jr_istore (L' := [_, _, _, _, _, _, _, _, _, _, _]) 77 dX10_guilty_75 rfl (by decide) rfl ?_
                  refine jr_iconst (nI (gcn j 1 1 0)) 78 dX10_guilty_77 rfl rfl ?_
                  refine jr_istore (L' := [_, _, _, _, _, _, _, _, _, _, _]) 80 dX10_guilty_78 rfl (by decide) rfl ?_
                  refine jr_iconst (nI (gow j 1 0)) 81 dX10_guilty_80 rfl rfl ?_
                  refine jr_istore (L' := [_, _, _, _, _, _, _, _, _, _, _]) 83 dX10_guilty_81 rfl (by decide) rfl ?_
                  refine jr_iconst (nI 0) 84 dX10_guilty_83 rfl rfl ?_
                  refine jr_istore (L' := [_, _, _, _, _, _, _, _, _, _, _]) 86 dX10_guilty_84 rfl (by decide) rfl ?_
                  refine guilty_r h hlen hj hb hd hm (p1 := 1) (p2 := 1) (Or.inl ⟨rfl, hP1⟩) (Or.inl ⟨rfl, hP⟩) g1 (fun σ2 x9 x10 g3 => ?_) nf 0 σ1 _ (Nat.zero_add _) (jr_eqx_rf _ _)
                  by_cases hz : 1 + (nf - 1) * 1 = 0
                  · refine jr_iload 173 dX10_guilty_171 rfl rfl ?_
                    refine jr_if_ne 182 176 dX10_guilty_173 rfl rfl (fun z => absurd (show nI (gcn j 1 1 nf) = 0 by rw [hcn, hz]; rfl) z) (fun q173 => ?_)
                    refine jr_ldc2 kc_X10_313 179 dX10_guilty_176 rfl ?_
                    refine jr_goto 193 dX10_guilty_179 rfl ?_
                    refine jr_lreturn dX10_guilty_193 rfl ?_
                    exact ⟨by rw [show ltC 1 (1 + (nf - 1) * 1) q = -4611686018427387904 from if_pos hz], IV_mov (iv_same_tr (iv_cx g1) (iv_rx g3)) h⟩
                  · refine jr_iload 173 dX10_guilty_171 rfl rfl ?_
                    refine jr_if_ne 182 176 dX10_guilty_173 rfl rfl (fun q173 => ?_) (fun z => absurd (show gcn j 1 1 nf = 0 from (nI_z (by omega)).mp z) (by rw [hcn]; exact hz))
                    refine jr_iload 184 dX10_guilty_182 rfl rfl ?_
                    refine jr_i2l 185 dX10_guilty_184 rfl ?_
                    rw [show (nI (gow j 1 nf)).toInt64 = nL 1 by rw [hco]; exact nI_L ⟨1, by omega⟩]
                    refine jr_iload 187 dX10_guilty_185 rfl rfl ?_
                    refine jr_i2l 188 dX10_guilty_187 rfl ?_
                    rw [show (nI (gcn j 1 1 nf)).toInt64 = nL (1 + (nf - 1) * 1) by rw [hcn]; exact nI_L ⟨1 + (nf - 1) * 1, by omega⟩]
                    refine jr_iload 190 dX10_guilty_188 rfl rfl ?_
                    refine cs_X10_315 193 dX10_guilty_190 rfl rfl (Nat.le_of_ble_eq_true rfl) (wp_lowest (by omega) hle (by omega) (by omega) ?_)
                    refine jr_lreturn dX10_guilty_193 rfl ?_
                    exact ⟨rfl, IV_mov (iv_same_tr (iv_cx g1) (iv_rx g3)) h⟩
                · refine jr_enter (L := [some (.ref 0), some (.int (nI j)), some (.int (nI b)), some (.int (nI len)), some (.int (nI q)), none, none, none, none]) (by decide) (Nat.le_of_ble_eq_true rfl) rfl ?_
                  refine jr_iload_n 2 1 dX9_guilty_0 rfl rfl rfl ?_
                  refine jr_if_lt 30 4 dX9_guilty_1 rfl rfl (fun q => absurd q hc) (fun q1 => ?_)
                  refine jr_iload_n 2 5 dX9_guilty_4 rfl rfl rfl ?_
                  refine jr_sipush (nI 1000) 8 dX9_guilty_5 rfl rfl ?_
                  refine jr_idiv 9 dX9_guilty_8 rfl (by decide) ?_
                  rw [ediv]
                  refine jr_sipush (nI 400) 12 dX9_guilty_9 rfl rfl ?_
                  refine jr_icmp_gt 30 15 dX9_guilty_12 rfl rfl (fun q => absurd q (Int32.not_lt.mpr (nI_le (b := 400) hd (by omega)))) (fun q12 => ?_)
                  refine jr_iload_n 2 16 dX9_guilty_15 rfl rfl rfl ?_
                  refine jr_sipush (nI 1000) 19 dX9_guilty_16 rfl rfl ?_
                  refine jr_irem 20 dX9_guilty_19 rfl (by decide) ?_
                  rw [erem]
                  refine jr_sipush (nI 400) 23 dX9_guilty_20 rfl rfl ?_
                  refine jr_icmp_gt 30 26 dX9_guilty_23 rfl rfl (fun q => absurd q (Int32.not_lt.mpr (nI_le (b := 400) hm (by omega)))) (fun q23 => ?_)
                  refine jr_iconst (1) 27 dX9_guilty_26 rfl rfl ?_
                  refine jr_goto 31 dX9_guilty_27 rfl ?_
                  refine jr_istore (L' := [_, _, _, _, _, _, _, _, _]) 33 dX9_guilty_31 rfl (by decide) rfl ?_
                  refine jr_iload 35 dX9_guilty_33 rfl rfl ?_
                  refine jr_if_eq 67 38 dX9_guilty_35 rfl rfl (fun q => absurd q (by decide)) (fun q35 => ?_)
                  refine jr_aload_n 0 39 dX9_guilty_38 rfl rfl rfl ?_
                  refine gf_X9_44 42 dX9_guilty_39 rfl rfl rfl rfl ?_
                  refine jr_iload_n 1 43 dX9_guilty_42 rfl rfl rfl ?_
                  refine cs_X9_146 46 dX9_guilty_43 rfl rfl rfl (Nat.le_of_ble_eq_true rfl) (wp_hasT_15 hnf h5 hj ?_)
                  refine jr_if_eq 67 49 dX9_guilty_46 rfl rfl (fun q => absurd q (by decide)) (fun q46 => ?_)
                  refine jr_iload_n 3 50 dX9_guilty_49 rfl rfl rfl ?_
                  refine jr_bipush (nI 40) 52 dX9_guilty_50 rfl rfl ?_
                  refine cs_X9_104 55 dX9_guilty_52 rfl rfl (Nat.le_of_ble_eq_true rfl) (wp_wiT hlen (by decide) rfl ?_)
                  refine jr_if_eq 67 58 dX9_guilty_55 rfl rfl (fun q => absurd q (by decide)) (fun q55 => ?_)
                  refine jr_iload 60 dX9_guilty_58 rfl rfl ?_
                  refine jr_iconst (nI 1) 61 dX9_guilty_60 rfl rfl ?_
                  refine cs_X9_104 64 dX9_guilty_61 rfl rfl (Nat.le_of_ble_eq_true rfl) (wp_wiT hq (by decide) rfl ?_)
                  refine jr_if_ne 71 67 dX9_guilty_64 rfl rfl (fun q64 => ?_) (fun q => absurd q (by decide))
                  refine jr_iload_n 2 72 dX9_guilty_71 rfl rfl rfl ?_
                  refine jr_sipush (nI 1000) 75 dX9_guilty_72 rfl rfl ?_
                  refine jr_idiv 76 dX9_guilty_75 rfl (by decide) ?_
                  rw [ediv]
                  refine jr_istore (L' := [_, _, _, _, _, _, _, _, _]) 78 dX9_guilty_76 rfl (by decide) rfl ?_
                  refine jr_aload_n 0 79 dX9_guilty_78 rfl rfl rfl ?_
                  refine jr_iload_n 1 80 dX9_guilty_79 rfl rfl rfl ?_
                  refine jr_sipush (400) 83 dX9_guilty_80 rfl rfl ?_
                  refine jr_iload 85 dX9_guilty_83 rfl rfl ?_
                  refine jr_iload_n 2 86 dX9_guilty_85 rfl rfl rfl ?_
                  refine jr_sipush (nI 1000) 89 dX9_guilty_86 rfl rfl ?_
                  refine jr_irem 90 dX9_guilty_89 rfl (by decide) ?_
                  rw [erem]
                  refine jr_iadd 91 dX9_guilty_90 rfl ?_
                  rw [nI_add]
                  refine jr_mmin 94 dX9_guilty_91 rfl ml_X9_280 (Nat.le_of_ble_eq_true rfl) ?_
                  rw [pu_min400 _ (by omega)]
                  refine jr_iload_n 3 95 dX9_guilty_94 rfl rfl rfl ?_
                  refine cs_X9_274 98 dX9_guilty_95 rfl rfl rfl (Nat.le_of_ble_eq_true rfl) (wp_cRedAsked (f := j) (len := len) (much := nI (min 400 (b / 1000 + b % 1000))) h hj hlen (jr_eqx_rf _ _) (fun σ5 g5 _ => ?_) (fun _ _ qr => absurd hP1 qr))
                  refine jr_if_eq 105 101 dX9_guilty_98 rfl rfl (fun q => absurd q (by decide)) (fun q98 => ?_)
                  refine jr_iconst (nI 1) 102 dX9_guilty_101 rfl rfl ?_
                  refine jr_goto 106 dX9_guilty_102 rfl ?_
                  refine jr_istore (L' := [_, _, _, _, _, _, _, _, _]) 108 dX9_guilty_106 rfl (by decide) rfl ?_
                  refine jr_aload_n 0 109 dX9_guilty_108 rfl rfl rfl ?_
                  refine jr_iload_n 1 110 dX9_guilty_109 rfl rfl rfl ?_
                  refine jr_iload 112 dX9_guilty_110 rfl rfl ?_
                  refine jr_iload_n 3 113 dX9_guilty_112 rfl rfl rfl ?_
                  refine cs_X9_274 116 dX9_guilty_113 rfl rfl rfl (Nat.le_of_ble_eq_true rfl) (wp_cRedAsked (f := j) (len := len) (much := nI (b / 1000)) h hj hlen g5 (fun _ _ qr => absurd qr hP) (fun σ1 g1 _ => ?_))
                  refine jr_if_eq 131 119 dX9_guilty_116 rfl rfl (fun q116 => ?_) (fun q => absurd (by decide) q)
                  refine jr_iconst (nI 0) 132 dX9_guilty_131 rfl rfl ?_
                  refine jr_istore (L' := [_, _, _, _, _, _, _, _, _]) 134 dX9_guilty_132 rfl (by decide) rfl ?_
                  refine jr_iload 136 dX9_guilty_134 rfl rfl ?_
                  refine jr_iload 138 dX9_guilty_136 rfl rfl ?_
                  refine jr_iload 140 dX9_guilty_138 rfl rfl ?_
                  refine jr_iadd 141 dX9_guilty_140 rfl ?_
                  refine jr_topi (y := nI (1 + (nf - 1) * 0)) (by rw [nI_add]; congr 1) ?_
                  refine jr_iload 143 dX9_guilty_141 rfl rfl ?_
                  refine cs_X9_285 146 dX9_guilty_143 rfl rfl (Nat.le_of_ble_eq_true rfl) (wp_lowestTerms (by omega) hle (by omega) ?_)
                  refine jr_lreturn dX9_guilty_146 rfl ?_
                  have h1 := iv_mov (iv_cx g1) h
                  have r1 := rr_of h1
                  refine jr_enter (L := [some (.ref 46), some (.int (nI j)), some (.int (nI b)), some (.int (nI len)), some (.int (nI q)), none, none, none, none, none, none]) (by decide) (Nat.le_of_ble_eq_true rfl) rfl ?_
                  refine jr_aload_n 0 1 dX10_guilty_0 rfl rfl rfl ?_
                  refine jr_iload_n 1 2 dX10_guilty_1 rfl rfl rfl ?_
                  refine cs_X10_204 5 dX10_guilty_2 rfl rfl rfl (Nat.le_of_ble_eq_true rfl) (wp_isFace r1.1.1 h5 (fun _ _ _ => ?_) (fun q => absurd q (jr_fcn hj (by omega))))
                  refine jr_if_eq 58 8 dX10_guilty_5 rfl rfl (fun q => absurd q (by decide)) (fun q5 => ?_)
                  refine jr_iload_n 2 9 dX10_guilty_8 rfl rfl rfl ?_
                  refine jr_if_lt 58 12 dX10_guilty_9 rfl rfl (fun q => absurd q hc) (fun q9 => ?_)
                  refine jr_iload_n 2 13 dX10_guilty_12 rfl rfl rfl ?_
                  refine jr_sipush (nI 1000) 16 dX10_guilty_13 rfl rfl ?_
                  refine jr_idiv 17 dX10_guilty_16 rfl (by decide) ?_
                  rw [ediv]
                  refine cs_X10_191 20 dX10_guilty_17 rfl rfl (Nat.le_of_ble_eq_true rfl) (wp_risMuch (fun _ _ => ?_) (fun q => absurd ⟨nI_pos' (by omega), nI_le (b := 400) hd (by omega)⟩ q))
                  refine jr_if_eq 58 23 dX10_guilty_20 rfl rfl (fun q => absurd q (by decide)) (fun q20 => ?_)
                  refine jr_iload_n 2 24 dX10_guilty_23 rfl rfl rfl ?_
                  refine jr_sipush (nI 1000) 27 dX10_guilty_24 rfl rfl ?_
                  refine jr_irem 28 dX10_guilty_27 rfl (by decide) ?_
                  rw [erem]
                  refine cs_X10_191 31 dX10_guilty_28 rfl rfl (Nat.le_of_ble_eq_true rfl) (wp_risMuch (fun _ _ => ?_) (fun q => absurd ⟨nI_pos' (by omega), nI_le (b := 400) hm (by omega)⟩ q))
                  refine jr_if_eq 58 34 dX10_guilty_31 rfl rfl (fun q => absurd q (by decide)) (fun q31 => ?_)
                  refine jr_iload_n 3 35 dX10_guilty_34 rfl rfl rfl ?_
                  refine jr_iconst (nI 0) 36 dX10_guilty_35 rfl rfl ?_
                  refine jr_bipush (nI 40) 38 dX10_guilty_36 rfl rfl ?_
                  refine cs_X10_108 41 dX10_guilty_38 rfl rfl (Nat.le_of_ble_eq_true rfl) (wp_inT hlen (by decide) rfl ?_)
                  refine jr_if_eq 58 44 dX10_guilty_41 rfl rfl (fun q => absurd q (by decide)) (fun q41 => ?_)
                  refine jr_iload 46 dX10_guilty_44 rfl rfl ?_
                  refine jr_iconst (nI 0) 47 dX10_guilty_46 rfl rfl ?_
                  refine jr_iconst (nI 1) 48 dX10_guilty_47 rfl rfl ?_
                  refine cs_X10_108 51 dX10_guilty_48 rfl rfl (Nat.le_of_ble_eq_true rfl) (wp_inT hq (by decide) rfl ?_)
                  refine jr_if_eq 58 54 dX10_guilty_51 rfl rfl (fun q => absurd q (by decide)) (fun q51 => ?_)
                  refine jr_iconst (1) 55 dX10_guilty_54 rfl rfl ?_
                  refine jr_goto 59 dX10_guilty_55 rfl ?_
                  refine jr_istore (L' := [_, _, _, _, _, _, _, _, _, _, _]) 61 dX10_guilty_59 rfl (by decide) rfl ?_
                  refine jr_iload 63 dX10_guilty_61 rfl rfl ?_
                  refine jr_if_ne 70 66 dX10_guilty_63 rfl rfl (fun q63 => ?_) (fun q => absurd q (by decide))
                  refine jr_iload_n 2 71 dX10_guilty_70 rfl rfl rfl ?_
                  refine jr_sipush (nI 1000) 74 dX10_guilty_71 rfl rfl ?_
                  refine jr_idiv 75 dX10_guilty_74 rfl (by decide) ?_
                  rw [ediv]
                  refine jr_istore (L' := [_, _, _, _, _, _, _, _, _, _, _]) 77 dX10_guilty_75 rfl (by decide) rfl ?_
                  refine jr_iconst (nI (gcn j 1 0 0)) 78 dX10_guilty_77 rfl rfl ?_
                  refine jr_istore (L' := [_, _, _, _, _, _, _, _, _, _, _]) 80 dX10_guilty_78 rfl (by decide) rfl ?_
                  refine jr_iconst (nI (gow j 1 0)) 81 dX10_guilty_80 rfl rfl ?_
                  refine jr_istore (L' := [_, _, _, _, _, _, _, _, _, _, _]) 83 dX10_guilty_81 rfl (by decide) rfl ?_
                  refine jr_iconst (nI 0) 84 dX10_guilty_83 rfl rfl ?_
                  refine jr_istore (L' := [_, _, _, _, _, _, _, _, _, _, _]) 86 dX10_guilty_84 rfl (by decide) rfl ?_
                  refine guilty_r h hlen hj hb hd hm (p1 := 1) (p2 := 0) (Or.inl ⟨rfl, hP1⟩) (Or.inr ⟨rfl, hP⟩) g1 (fun σ2 x9 x10 g3 => ?_) nf 0 σ1 _ (Nat.zero_add _) (jr_eqx_rf _ _)
                  by_cases hz : 1 + (nf - 1) * 0 = 0
                  · refine jr_iload 173 dX10_guilty_171 rfl rfl ?_
                    refine jr_if_ne 182 176 dX10_guilty_173 rfl rfl (fun z => absurd (show nI (gcn j 1 0 nf) = 0 by rw [hcn, hz]; rfl) z) (fun q173 => ?_)
                    refine jr_ldc2 kc_X10_313 179 dX10_guilty_176 rfl ?_
                    refine jr_goto 193 dX10_guilty_179 rfl ?_
                    refine jr_lreturn dX10_guilty_193 rfl ?_
                    exact ⟨by rw [show ltC 1 (1 + (nf - 1) * 0) q = -4611686018427387904 from if_pos hz], IV_mov (iv_same_tr (iv_cx g1) (iv_rx g3)) h⟩
                  · refine jr_iload 173 dX10_guilty_171 rfl rfl ?_
                    refine jr_if_ne 182 176 dX10_guilty_173 rfl rfl (fun q173 => ?_) (fun z => absurd (show gcn j 1 0 nf = 0 from (nI_z (by omega)).mp z) (by rw [hcn]; exact hz))
                    refine jr_iload 184 dX10_guilty_182 rfl rfl ?_
                    refine jr_i2l 185 dX10_guilty_184 rfl ?_
                    rw [show (nI (gow j 1 nf)).toInt64 = nL 1 by rw [hco]; exact nI_L ⟨1, by omega⟩]
                    refine jr_iload 187 dX10_guilty_185 rfl rfl ?_
                    refine jr_i2l 188 dX10_guilty_187 rfl ?_
                    rw [show (nI (gcn j 1 0 nf)).toInt64 = nL (1 + (nf - 1) * 0) by rw [hcn]; exact nI_L ⟨1 + (nf - 1) * 0, by omega⟩]
                    refine jr_iload 190 dX10_guilty_188 rfl rfl ?_
                    refine cs_X10_315 193 dX10_guilty_190 rfl rfl (Nat.le_of_ble_eq_true rfl) (wp_lowest (by omega) hle (by omega) (by omega) ?_)
                    refine jr_lreturn dX10_guilty_193 rfl ?_
                    exact ⟨rfl, IV_mov (iv_same_tr (iv_cx g1) (iv_rx g3)) h⟩
              · have hP1 := hP
                rcases hp2 with ⟨rfl, hP⟩ | ⟨rfl, hP⟩
                · refine jr_enter (L := [some (.ref 0), some (.int (nI j)), some (.int (nI b)), some (.int (nI len)), some (.int (nI q)), none, none, none, none]) (by decide) (Nat.le_of_ble_eq_true rfl) rfl ?_
                  refine jr_iload_n 2 1 dX9_guilty_0 rfl rfl rfl ?_
                  refine jr_if_lt 30 4 dX9_guilty_1 rfl rfl (fun q => absurd q hc) (fun q1 => ?_)
                  refine jr_iload_n 2 5 dX9_guilty_4 rfl rfl rfl ?_
                  refine jr_sipush (nI 1000) 8 dX9_guilty_5 rfl rfl ?_
                  refine jr_idiv 9 dX9_guilty_8 rfl (by decide) ?_
                  rw [ediv]
                  refine jr_sipush (nI 400) 12 dX9_guilty_9 rfl rfl ?_
                  refine jr_icmp_gt 30 15 dX9_guilty_12 rfl rfl (fun q => absurd q (Int32.not_lt.mpr (nI_le (b := 400) hd (by omega)))) (fun q12 => ?_)
                  refine jr_iload_n 2 16 dX9_guilty_15 rfl rfl rfl ?_
                  refine jr_sipush (nI 1000) 19 dX9_guilty_16 rfl rfl ?_
                  refine jr_irem 20 dX9_guilty_19 rfl (by decide) ?_
                  rw [erem]
                  refine jr_sipush (nI 400) 23 dX9_guilty_20 rfl rfl ?_
                  refine jr_icmp_gt 30 26 dX9_guilty_23 rfl rfl (fun q => absurd q (Int32.not_lt.mpr (nI_le (b := 400) hm (by omega)))) (fun q23 => ?_)
                  refine jr_iconst (1) 27 dX9_guilty_26 rfl rfl ?_
                  refine jr_goto 31 dX9_guilty_27 rfl ?_
                  refine jr_istore (L' := [_, _, _, _, _, _, _, _, _]) 33 dX9_guilty_31 rfl (by decide) rfl ?_
                  refine jr_iload 35 dX9_guilty_33 rfl rfl ?_
                  refine jr_if_eq 67 38 dX9_guilty_35 rfl rfl (fun q => absurd q (by decide)) (fun q35 => ?_)
                  refine jr_aload_n 0 39 dX9_guilty_38 rfl rfl rfl ?_
                  refine gf_X9_44 42 dX9_guilty_39 rfl rfl rfl rfl ?_
                  refine jr_iload_n 1 43 dX9_guilty_42 rfl rfl rfl ?_
                  refine cs_X9_146 46 dX9_guilty_43 rfl rfl rfl (Nat.le_of_ble_eq_true rfl) (wp_hasT_15 hnf h5 hj ?_)
                  refine jr_if_eq 67 49 dX9_guilty_46 rfl rfl (fun q => absurd q (by decide)) (fun q46 => ?_)
                  refine jr_iload_n 3 50 dX9_guilty_49 rfl rfl rfl ?_
                  refine jr_bipush (nI 40) 52 dX9_guilty_50 rfl rfl ?_
                  refine cs_X9_104 55 dX9_guilty_52 rfl rfl (Nat.le_of_ble_eq_true rfl) (wp_wiT hlen (by decide) rfl ?_)
                  refine jr_if_eq 67 58 dX9_guilty_55 rfl rfl (fun q => absurd q (by decide)) (fun q55 => ?_)
                  refine jr_iload 60 dX9_guilty_58 rfl rfl ?_
                  refine jr_iconst (nI 1) 61 dX9_guilty_60 rfl rfl ?_
                  refine cs_X9_104 64 dX9_guilty_61 rfl rfl (Nat.le_of_ble_eq_true rfl) (wp_wiT hq (by decide) rfl ?_)
                  refine jr_if_ne 71 67 dX9_guilty_64 rfl rfl (fun q64 => ?_) (fun q => absurd q (by decide))
                  refine jr_iload_n 2 72 dX9_guilty_71 rfl rfl rfl ?_
                  refine jr_sipush (nI 1000) 75 dX9_guilty_72 rfl rfl ?_
                  refine jr_idiv 76 dX9_guilty_75 rfl (by decide) ?_
                  rw [ediv]
                  refine jr_istore (L' := [_, _, _, _, _, _, _, _, _]) 78 dX9_guilty_76 rfl (by decide) rfl ?_
                  refine jr_aload_n 0 79 dX9_guilty_78 rfl rfl rfl ?_
                  refine jr_iload_n 1 80 dX9_guilty_79 rfl rfl rfl ?_
                  refine jr_sipush (400) 83 dX9_guilty_80 rfl rfl ?_
                  refine jr_iload 85 dX9_guilty_83 rfl rfl ?_
                  refine jr_iload_n 2 86 dX9_guilty_85 rfl rfl rfl ?_
                  refine jr_sipush (nI 1000) 89 dX9_guilty_86 rfl rfl ?_
                  refine jr_irem 90 dX9_guilty_89 rfl (by decide) ?_
                  rw [erem]
                  refine jr_iadd 91 dX9_guilty_90 rfl ?_
                  rw [nI_add]
                  refine jr_mmin 94 dX9_guilty_91 rfl ml_X9_280 (Nat.le_of_ble_eq_true rfl) ?_
                  rw [pu_min400 _ (by omega)]
                  refine jr_iload_n 3 95 dX9_guilty_94 rfl rfl rfl ?_
                  refine cs_X9_274 98 dX9_guilty_95 rfl rfl rfl (Nat.le_of_ble_eq_true rfl) (wp_cRedAsked (f := j) (len := len) (much := nI (min 400 (b / 1000 + b % 1000))) h hj hlen (jr_eqx_rf _ _) (fun _ _ qr => absurd qr hP1) (fun σ5 g5 _ => ?_))
                  refine jr_if_eq 105 101 dX9_guilty_98 rfl rfl (fun q98 => ?_) (fun q => absurd (by decide) q)
                  refine jr_iconst (nI 0) 106 dX9_guilty_105 rfl rfl ?_
                  refine jr_istore (L' := [_, _, _, _, _, _, _, _, _]) 108 dX9_guilty_106 rfl (by decide) rfl ?_
                  refine jr_aload_n 0 109 dX9_guilty_108 rfl rfl rfl ?_
                  refine jr_iload_n 1 110 dX9_guilty_109 rfl rfl rfl ?_
                  refine jr_iload 112 dX9_guilty_110 rfl rfl ?_
                  refine jr_iload_n 3 113 dX9_guilty_112 rfl rfl rfl ?_
                  refine cs_X9_274 116 dX9_guilty_113 rfl rfl rfl (Nat.le_of_ble_eq_true rfl) (wp_cRedAsked (f := j) (len := len) (much := nI (b / 1000)) h hj hlen g5 (fun σ1 g1 _ => ?_) (fun _ _ qr => absurd hP qr))
                  refine jr_if_eq 131 119 dX9_guilty_116 rfl rfl (fun q => absurd q (by decide)) (fun q116 => ?_)
                  have hnf1 : σ1 15 8 = nI nf := by rw [g1 15 (by decide)]; exact hnf
                  refine jr_aload_n 0 120 dX9_guilty_119 rfl rfl rfl ?_
                  refine gf_X9_44 123 dX9_guilty_120 rfl rfl rfl rfl ?_
                  refine gf_X9_84 126 dX9_guilty_123 rfl rfl rfl rfl ?_
                  rw [hnf1]
                  refine jr_iconst (nI 1) 127 dX9_guilty_126 rfl rfl ?_
                  refine jr_isub 128 dX9_guilty_127 rfl ?_
                  rw [n1]
                  refine jr_goto 132 dX9_guilty_128 rfl ?_
                  refine jr_istore (L' := [_, _, _, _, _, _, _, _, _]) 134 dX9_guilty_132 rfl (by decide) rfl ?_
                  refine jr_iload 136 dX9_guilty_134 rfl rfl ?_
                  refine jr_iload 138 dX9_guilty_136 rfl rfl ?_
                  refine jr_iload 140 dX9_guilty_138 rfl rfl ?_
                  refine jr_iadd 141 dX9_guilty_140 rfl ?_
                  refine jr_topi (y := nI (0 + (nf - 1) * 1)) (by rw [nI_add]; congr 1; omega) ?_
                  refine jr_iload 143 dX9_guilty_141 rfl rfl ?_
                  refine cs_X9_285 146 dX9_guilty_143 rfl rfl (Nat.le_of_ble_eq_true rfl) (wp_lowestTerms (by omega) hle (by omega) ?_)
                  refine jr_lreturn dX9_guilty_146 rfl ?_
                  have h1 := iv_mov (iv_cx g1) h
                  have r1 := rr_of h1
                  refine jr_enter (L := [some (.ref 46), some (.int (nI j)), some (.int (nI b)), some (.int (nI len)), some (.int (nI q)), none, none, none, none, none, none]) (by decide) (Nat.le_of_ble_eq_true rfl) rfl ?_
                  refine jr_aload_n 0 1 dX10_guilty_0 rfl rfl rfl ?_
                  refine jr_iload_n 1 2 dX10_guilty_1 rfl rfl rfl ?_
                  refine cs_X10_204 5 dX10_guilty_2 rfl rfl rfl (Nat.le_of_ble_eq_true rfl) (wp_isFace r1.1.1 h5 (fun _ _ _ => ?_) (fun q => absurd q (jr_fcn hj (by omega))))
                  refine jr_if_eq 58 8 dX10_guilty_5 rfl rfl (fun q => absurd q (by decide)) (fun q5 => ?_)
                  refine jr_iload_n 2 9 dX10_guilty_8 rfl rfl rfl ?_
                  refine jr_if_lt 58 12 dX10_guilty_9 rfl rfl (fun q => absurd q hc) (fun q9 => ?_)
                  refine jr_iload_n 2 13 dX10_guilty_12 rfl rfl rfl ?_
                  refine jr_sipush (nI 1000) 16 dX10_guilty_13 rfl rfl ?_
                  refine jr_idiv 17 dX10_guilty_16 rfl (by decide) ?_
                  rw [ediv]
                  refine cs_X10_191 20 dX10_guilty_17 rfl rfl (Nat.le_of_ble_eq_true rfl) (wp_risMuch (fun _ _ => ?_) (fun q => absurd ⟨nI_pos' (by omega), nI_le (b := 400) hd (by omega)⟩ q))
                  refine jr_if_eq 58 23 dX10_guilty_20 rfl rfl (fun q => absurd q (by decide)) (fun q20 => ?_)
                  refine jr_iload_n 2 24 dX10_guilty_23 rfl rfl rfl ?_
                  refine jr_sipush (nI 1000) 27 dX10_guilty_24 rfl rfl ?_
                  refine jr_irem 28 dX10_guilty_27 rfl (by decide) ?_
                  rw [erem]
                  refine cs_X10_191 31 dX10_guilty_28 rfl rfl (Nat.le_of_ble_eq_true rfl) (wp_risMuch (fun _ _ => ?_) (fun q => absurd ⟨nI_pos' (by omega), nI_le (b := 400) hm (by omega)⟩ q))
                  refine jr_if_eq 58 34 dX10_guilty_31 rfl rfl (fun q => absurd q (by decide)) (fun q31 => ?_)
                  refine jr_iload_n 3 35 dX10_guilty_34 rfl rfl rfl ?_
                  refine jr_iconst (nI 0) 36 dX10_guilty_35 rfl rfl ?_
                  refine jr_bipush (nI 40) 38 dX10_guilty_36 rfl rfl ?_
                  refine cs_X10_108 41 dX10_guilty_38 rfl rfl (Nat.le_of_ble_eq_true rfl) (wp_inT hlen (by decide) rfl ?_)
                  refine jr_if_eq 58 44 dX10_guilty_41 rfl rfl (fun q => absurd q (by decide)) (fun q41 => ?_)
                  refine jr_iload 46 dX10_guilty_44 rfl rfl ?_
                  refine jr_iconst (nI 0) 47 dX10_guilty_46 rfl rfl ?_
                  refine jr_iconst (nI 1) 48 dX10_guilty_47 rfl rfl ?_
                  refine cs_X10_108 51 dX10_guilty_48 rfl rfl (Nat.le_of_ble_eq_true rfl) (wp_inT hq (by decide) rfl ?_)
                  refine jr_if_eq 58 54 dX10_guilty_51 rfl rfl (fun q => absurd q (by decide)) (fun q51 => ?_)
                  refine jr_iconst (1) 55 dX10_guilty_54 rfl rfl ?_
                  refine jr_goto 59 dX10_guilty_55 rfl ?_
                  refine jr_istore (L' := [_, _, _, _, _, _, _, _, _, _, _]) 61 dX10_guilty_59 rfl (by decide) rfl ?_
                  refine jr_iload 63 dX10_guilty_61 rfl rfl ?_
                  refine jr_if_ne 70 66 dX10_guilty_63 rfl rfl (fun q63 => ?_) (fun q => absurd q (by decide))
                  refine jr_iload_n 2 71 dX10_guilty_70 rfl rfl rfl ?_
                  refine jr_sipush (nI 1000) 74 dX10_guilty_71 rfl rfl ?_
                  refine jr_idiv 75 dX10_guilty_74 rfl (by decide) ?_
                  rw [ediv]
                  refine jr_istore (L' := [_, _, _, _, _, _, _, _, _, _, _]) 77 dX10_guilty_75 rfl (by decide) rfl ?_
                  refine jr_iconst (nI (gcn j 0 1 0)) 78 dX10_guilty_77 rfl rfl ?_
                  refine jr_istore (L' := [_, _, _, _, _, _, _, _, _, _, _]) 80 dX10_guilty_78 rfl (by decide) rfl ?_
                  refine jr_iconst (nI (gow j 0 0)) 81 dX10_guilty_80 rfl rfl ?_
                  refine jr_istore (L' := [_, _, _, _, _, _, _, _, _, _, _]) 83 dX10_guilty_81 rfl (by decide) rfl ?_
                  refine jr_iconst (nI 0) 84 dX10_guilty_83 rfl rfl ?_
                  refine jr_istore (L' := [_, _, _, _, _, _, _, _, _, _, _]) 86 dX10_guilty_84 rfl (by decide) rfl ?_
                  refine guilty_r h hlen hj hb hd hm (p1 := 0) (p2 := 1) (Or.inr ⟨rfl, hP1⟩) (Or.inl ⟨rfl, hP⟩) g1 (fun σ2 x9 x10 g3 => ?_) nf 0 σ1 _ (Nat.zero_add _) (jr_eqx_rf _ _)
                  by_cases hz : 0 + (nf - 1) * 1 = 0
                  · refine jr_iload 173 dX10_guilty_171 rfl rfl ?_
                    refine jr_if_ne 182 176 dX10_guilty_173 rfl rfl (fun z => absurd (show nI (gcn j 0 1 nf) = 0 by rw [hcn, hz]; rfl) z) (fun q173 => ?_)
                    refine jr_ldc2 kc_X10_313 179 dX10_guilty_176 rfl ?_
                    refine jr_goto 193 dX10_guilty_179 rfl ?_
                    refine jr_lreturn dX10_guilty_193 rfl ?_
                    exact ⟨by rw [show ltC 0 (0 + (nf - 1) * 1) q = -4611686018427387904 from if_pos hz], IV_mov (iv_same_tr (iv_cx g1) (iv_rx g3)) h⟩
                  · refine jr_iload 173 dX10_guilty_171 rfl rfl ?_
                    refine jr_if_ne 182 176 dX10_guilty_173 rfl rfl (fun q173 => ?_) (fun z => absurd (show gcn j 0 1 nf = 0 from (nI_z (by omega)).mp z) (by rw [hcn]; exact hz))
                    refine jr_iload 184 dX10_guilty_182 rfl rfl ?_
                    refine jr_i2l 185 dX10_guilty_184 rfl ?_
                    rw [show (nI (gow j 0 nf)).toInt64 = nL 0 by rw [hco]; exact nI_L ⟨0, by omega⟩]
                    refine jr_iload 187 dX10_guilty_185 rfl rfl ?_
                    refine jr_i2l 188 dX10_guilty_187 rfl ?_
                    rw [show (nI (gcn j 0 1 nf)).toInt64 = nL (0 + (nf - 1) * 1) by rw [hcn]; exact nI_L ⟨0 + (nf - 1) * 1, by omega⟩]
                    refine jr_iload 190 dX10_guilty_188 rfl rfl ?_
                    refine cs_X10_315 193 dX10_guilty_190 rfl rfl (Nat.le_of_ble_eq_true rfl) (wp_lowest (by omega) hle (by omega) (by omega) ?_)
                    refine jr_lreturn dX10_guilty_193 rfl ?_
                    exact ⟨rfl, IV_mov (iv_same_tr (iv_cx g1) (iv_rx g3)) h⟩
                · refine jr_enter (L := [some (.ref 0), some (.int (nI j)), some (.int (nI b)), some (.int (nI len)), some (.int (nI q)), none, none, none, none]) (by decide) (Nat.le_of_ble_eq_true rfl) rfl ?_
                  refine jr_iload_n 2 1 dX9_guilty_0 rfl rfl rfl ?_
                  refine jr_if_lt 30 4 dX9_guilty_1 rfl rfl (fun q => absurd q hc) (fun q1 => ?_)
                  refine jr_iload_n 2 5 dX9_guilty_4 rfl rfl rfl ?_
                  refine jr_sipush (nI 1000) 8 dX9_guilty_5 rfl rfl ?_
                  refine jr_idiv 9 dX9_guilty_8 rfl (by decide) ?_
                  rw [ediv]
                  refine jr_sipush (nI 400) 12 dX9_guilty_9 rfl rfl ?_
                  refine jr_icmp_gt 30 15 dX9_guilty_12 rfl rfl (fun q => absurd q (Int32.not_lt.mpr (nI_le (b := 400) hd (by omega)))) (fun q12 => ?_)
                  refine jr_iload_n 2 16 dX9_guilty_15 rfl rfl rfl ?_
                  refine jr_sipush (nI 1000) 19 dX9_guilty_16 rfl rfl ?_
                  refine jr_irem 20 dX9_guilty_19 rfl (by decide) ?_
                  rw [erem]
                  refine jr_sipush (nI 400) 23 dX9_guilty_20 rfl rfl ?_
                  refine jr_icmp_gt 30 26 dX9_guilty_23 rfl rfl (fun q => absurd q (Int32.not_lt.mpr (nI_le (b := 400) hm (by omega)))) (fun q23 => ?_)
                  refine jr_iconst (1) 27 dX9_guilty_26 rfl rfl ?_
                  refine jr_goto 31 dX9_guilty_27 rfl ?_
                  refine jr_istore (L' := [_, _, _, _, _, _, _, _, _]) 33 dX9_guilty_31 rfl (by decide) rfl ?_
                  refine jr_iload 35 dX9_guilty_33 rfl rfl ?_
                  refine jr_if_eq 67 38 dX9_guilty_35 rfl rfl (fun q => absurd q (by decide)) (fun q35 => ?_)
                  refine jr_aload_n 0 39 dX9_guilty_38 rfl rfl rfl ?_
                  refine gf_X9_44 42 dX9_guilty_39 rfl rfl rfl rfl ?_
                  refine jr_iload_n 1 43 dX9_guilty_42 rfl rfl rfl ?_
                  refine cs_X9_146 46 dX9_guilty_43 rfl rfl rfl (Nat.le_of_ble_eq_true rfl) (wp_hasT_15 hnf h5 hj ?_)
                  refine jr_if_eq 67 49 dX9_guilty_46 rfl rfl (fun q => absurd q (by decide)) (fun q46 => ?_)
                  refine jr_iload_n 3 50 dX9_guilty_49 rfl rfl rfl ?_
                  refine jr_bipush (nI 40) 52 dX9_guilty_50 rfl rfl ?_
                  refine cs_X9_104 55 dX9_guilty_52 rfl rfl (Nat.le_of_ble_eq_true rfl) (wp_wiT hlen (by decide) rfl ?_)
                  refine jr_if_eq 67 58 dX9_guilty_55 rfl rfl (fun q => absurd q (by decide)) (fun q55 => ?_)
                  refine jr_iload 60 dX9_guilty_58 rfl rfl ?_
                  refine jr_iconst (nI 1) 61 dX9_guilty_60 rfl rfl ?_
                  refine cs_X9_104 64 dX9_guilty_61 rfl rfl (Nat.le_of_ble_eq_true rfl) (wp_wiT hq (by decide) rfl ?_)
                  refine jr_if_ne 71 67 dX9_guilty_64 rfl rfl (fun q64 => ?_) (fun q => absurd q (by decide))
                  refine jr_iload_n 2 72 dX9_guilty_71 rfl rfl rfl ?_
                  refine jr_sipush (nI 1000) 75 dX9_guilty_72 rfl rfl ?_
                  refine jr_idiv 76 dX9_guilty_75 rfl (by decide) ?_
                  rw [ediv]
                  refine jr_istore (L' := [_, _, _, _, _, _, _, _, _]) 78 dX9_guilty_76 rfl (by decide) rfl ?_
                  refine jr_aload_n 0 79 dX9_guilty_78 rfl rfl rfl ?_
                  refine jr_iload_n 1 80 dX9_guilty_79 rfl rfl rfl ?_
                  refine jr_sipush (400) 83 dX9_guilty_80 rfl rfl ?_
                  refine jr_iload 85 dX9_guilty_83 rfl rfl ?_
                  refine jr_iload_n 2 86 dX9_guilty_85 rfl rfl rfl ?_
                  refine jr_sipush (nI 1000) 89 dX9_guilty_86 rfl rfl ?_
                  refine jr_irem 90 dX9_guilty_89 rfl (by decide) ?_
                  rw [erem]
                  refine jr_iadd 91 dX9_guilty_90 rfl ?_
                  rw [nI_add]
                  refine jr_mmin 94 dX9_guilty_91 rfl ml_X9_280 (Nat.le_of_ble_eq_true rfl) ?_
                  rw [pu_min400 _ (by omega)]
                  refine jr_iload_n 3 95 dX9_guilty_94 rfl rfl rfl ?_
                  refine cs_X9_274 98 dX9_guilty_95 rfl rfl rfl (Nat.le_of_ble_eq_true rfl) (wp_cRedAsked (f := j) (len := len) (much := nI (min 400 (b / 1000 + b % 1000))) h hj hlen (jr_eqx_rf _ _) (fun _ _ qr => absurd qr hP1) (fun σ5 g5 _ => ?_))
                  refine jr_if_eq 105 101 dX9_guilty_98 rfl rfl (fun q98 => ?_) (fun q => absurd (by decide) q)
                  refine jr_iconst (nI 0) 106 dX9_guilty_105 rfl rfl ?_
                  refine jr_istore (L' := [_, _, _, _, _, _, _, _, _]) 108 dX9_guilty_106 rfl (by decide) rfl ?_
                  refine jr_aload_n 0 109 dX9_guilty_108 rfl rfl rfl ?_
                  refine jr_iload_n 1 110 dX9_guilty_109 rfl rfl rfl ?_
                  refine jr_iload 112 dX9_guilty_110 rfl rfl ?_
                  refine jr_iload_n 3 113 dX9_guilty_112 rfl rfl rfl ?_
                  refine cs_X9_274 116 dX9_guilty_113 rfl rfl rfl (Nat.le_of_ble_eq_true rfl) (wp_cRedAsked (f := j) (len := len) (much := nI (b / 1000)) h hj hlen g5 (fun _ _ qr => absurd qr hP) (fun σ1 g1 _ => ?_))
                  refine jr_if_eq 131 119 dX9_guilty_116 rfl rfl (fun q116 => ?_) (fun q => absurd (by decide) q)
                  refine jr_iconst (nI 0) 132 dX9_guilty_131 rfl rfl ?_
                  refine jr_istore (L' := [_, _, _, _, _, _, _, _, _]) 134 dX9_guilty_132 rfl (by decide) rfl ?_
                  refine jr_iload 136 dX9_guilty_134 rfl rfl ?_
                  refine jr_iload 138 dX9_guilty_136 rfl rfl ?_
                  refine jr_iload 140 dX9_guilty_138 rfl rfl ?_
                  refine jr_iadd 141 dX9_guilty_140 rfl ?_
                  refine jr_topi (y := nI (0 + (nf - 1) * 0)) (by rw [nI_add]; congr 1) ?_
                  refine jr_iload 143 dX9_guilty_141 rfl rfl ?_
                  refine cs_X9_285 146 dX9_guilty_143 rfl rfl (Nat.le_of_ble_eq_true rfl) (wp_lowestTerms (by omega) hle (by omega) ?_)
                  refine jr_lreturn dX9_guilty_146 rfl ?_
                  have h1 := iv_mov (iv_cx g1) h
                  have r1 := rr_of h1
                  refine jr_enter (L := [some (.ref 46), some (.int (nI j)), some (.int (nI b)), some (.int (nI len)), some (.int (nI q)), none, none, none, none, none, none]) (by decide) (Nat.le_of_ble_eq_true rfl) rfl ?_
                  refine jr_aload_n 0 1 dX10_guilty_0 rfl rfl rfl ?_
                  refine jr_iload_n 1 2 dX10_guilty_1 rfl rfl rfl ?_
                  refine cs_X10_204 5 dX10_guilty_2 rfl rfl rfl (Nat.le_of_ble_eq_true rfl) (wp_isFace r1.1.1 h5 (fun _ _ _ => ?_) (fun q => absurd q (jr_fcn hj (by omega))))
                  refine jr_if_eq 58 8 dX10_guilty_5 rfl rfl (fun q => absurd q (by decide)) (fun q5 => ?_)
                  refine jr_iload_n 2 9 dX10_guilty_8 rfl rfl rfl ?_
                  refine jr_if_lt 58 12 dX10_guilty_9 rfl rfl (fun q => absurd q hc) (fun q9 => ?_)
                  refine jr_iload_n 2 13 dX10_guilty_12 rfl rfl rfl ?_
                  refine jr_sipush (nI 1000) 16 dX10_guilty_13 rfl rfl ?_
                  refine jr_idiv 17 dX10_guilty_16 rfl (by decide) ?_
                  rw [ediv]
                  refine cs_X10_191 20 dX10_guilty_17 rfl rfl (Nat.le_of_ble_eq_true rfl) (wp_risMuch (fun _ _ => ?_) (fun q => absurd ⟨nI_pos' (by omega), nI_le (b := 400) hd (by omega)⟩ q))
                  refine jr_if_eq 58 23 dX10_guilty_20 rfl rfl (fun q => absurd q (by decide)) (fun q20 => ?_)
                  refine jr_iload_n 2 24 dX10_guilty_23 rfl rfl rfl ?_
                  refine jr_sipush (nI 1000) 27 dX10_guilty_24 rfl rfl ?_
                  refine jr_irem 28 dX10_guilty_27 rfl (by decide) ?_
                  rw [erem]
                  refine cs_X10_191 31 dX10_guilty_28 rfl rfl (Nat.le_of_ble_eq_true rfl) (wp_risMuch (fun _ _ => ?_) (fun q => absurd ⟨nI_pos' (by omega), nI_le (b := 400) hm (by omega)⟩ q))
                  refine jr_if_eq 58 34 dX10_guilty_31 rfl rfl (fun q => absurd q (by decide)) (fun q31 => ?_)
                  refine jr_iload_n 3 35 dX10_guilty_34 rfl rfl rfl ?_
                  refine jr_iconst (nI 0) 36 dX10_guilty_35 rfl rfl ?_
                  refine jr_bipush (nI 40) 38 dX10_guilty_36 rfl rfl ?_
                  refine cs_X10_108 41 dX10_guilty_38 rfl rfl (Nat.le_of_ble_eq_true rfl) (wp_inT hlen (by decide) rfl ?_)
                  refine jr_if_eq 58 44 dX10_guilty_41 rfl rfl (fun q => absurd q (by decide)) (fun q41 => ?_)
                  refine jr_iload 46 dX10_guilty_44 rfl rfl ?_
                  refine jr_iconst (nI 0) 47 dX10_guilty_46 rfl rfl ?_
                  refine jr_iconst (nI 1) 48 dX10_guilty_47 rfl rfl ?_
                  refine cs_X10_108 51 dX10_guilty_48 rfl rfl (Nat.le_of_ble_eq_true rfl) (wp_inT hq (by decide) rfl ?_)
                  refine jr_if_eq 58 54 dX10_guilty_51 rfl rfl (fun q => absurd q (by decide)) (fun q51 => ?_)
                  refine jr_iconst (1) 55 dX10_guilty_54 rfl rfl ?_
                  refine jr_goto 59 dX10_guilty_55 rfl ?_
                  refine jr_istore (L' := [_, _, _, _, _, _, _, _, _, _, _]) 61 dX10_guilty_59 rfl (by decide) rfl ?_
                  refine jr_iload 63 dX10_guilty_61 rfl rfl ?_
                  refine jr_if_ne 70 66 dX10_guilty_63 rfl rfl (fun q63 => ?_) (fun q => absurd q (by decide))
                  refine jr_iload_n 2 71 dX10_guilty_70 rfl rfl rfl ?_
                  refine jr_sipush (nI 1000) 74 dX10_guilty_71 rfl rfl ?_
                  refine jr_idiv 75 dX10_guilty_74 rfl (by decide) ?_
                  rw [ediv]
                  refine jr_istore (L' := [_, _, _, _, _, _, _, _, _, _, _]) 77 dX10_guilty_75 rfl (by decide) rfl ?_
                  refine jr_iconst (nI (gcn j 0 0 0)) 78 dX10_guilty_77 rfl rfl ?_
                  refine jr_istore (L' := [_, _, _, _, _, _, _, _, _, _, _]) 80 dX10_guilty_78 rfl (by decide) rfl ?_
                  refine jr_iconst (nI (gow j 0 0)) 81 dX10_guilty_80 rfl rfl ?_
                  refine jr_istore (L' := [_, _, _, _, _, _, _, _, _, _, _]) 83 dX10_guilty_81 rfl (by decide) rfl ?_
                  refine jr_iconst (nI 0) 84 dX10_guilty_83 rfl rfl ?_
                  refine jr_istore (L' := [_, _, _, _, _, _, _, _, _, _, _]) 86 dX10_guilty_84 rfl (by decide) rfl ?_
                  refine guilty_r h hlen hj hb hd hm (p1 := 0) (p2 := 0) (Or.inr ⟨rfl, hP1⟩) (Or.inr ⟨rfl, hP⟩) g1 (fun σ2 x9 x10 g3 => ?_) nf 0 σ1 _ (Nat.zero_add _) (jr_eqx_rf _ _)
                  by_cases hz : 0 + (nf - 1) * 0 = 0
                  · refine jr_iload 173 dX10_guilty_171 rfl rfl ?_
                    refine jr_if_ne 182 176 dX10_guilty_173 rfl rfl (fun z => absurd (show nI (gcn j 0 0 nf) = 0 by rw [hcn, hz]; rfl) z) (fun q173 => ?_)
                    refine jr_ldc2 kc_X10_313 179 dX10_guilty_176 rfl ?_
                    refine jr_goto 193 dX10_guilty_179 rfl ?_
                    refine jr_lreturn dX10_guilty_193 rfl ?_
                    exact ⟨by rw [show ltC 0 (0 + (nf - 1) * 0) q = -4611686018427387904 from if_pos hz], IV_mov (iv_same_tr (iv_cx g1) (iv_rx g3)) h⟩
                  · refine jr_iload 173 dX10_guilty_171 rfl rfl ?_
                    refine jr_if_ne 182 176 dX10_guilty_173 rfl rfl (fun q173 => ?_) (fun z => absurd (show gcn j 0 0 nf = 0 from (nI_z (by omega)).mp z) (by rw [hcn]; exact hz))
                    refine jr_iload 184 dX10_guilty_182 rfl rfl ?_
                    refine jr_i2l 185 dX10_guilty_184 rfl ?_
                    rw [show (nI (gow j 0 nf)).toInt64 = nL 0 by rw [hco]; exact nI_L ⟨0, by omega⟩]
                    refine jr_iload 187 dX10_guilty_185 rfl rfl ?_
                    refine jr_i2l 188 dX10_guilty_187 rfl ?_
                    rw [show (nI (gcn j 0 0 nf)).toInt64 = nL (0 + (nf - 1) * 0) by rw [hcn]; exact nI_L ⟨0 + (nf - 1) * 0, by omega⟩]
                    refine jr_iload 190 dX10_guilty_188 rfl rfl ?_
                    refine cs_X10_315 193 dX10_guilty_190 rfl rfl (Nat.le_of_ble_eq_true rfl) (wp_lowest (by omega) hle (by omega) (by omega) ?_)
                    refine jr_lreturn dX10_guilty_193 rfl ?_
                    exact ⟨rfl, IV_mov (iv_same_tr (iv_cx g1) (iv_rx g3)) h⟩
      · rcases jr_fc f h5 with hf | ⟨j, hj, rfl⟩
        · refine jr_enter (L := [some (.ref 0), some (.int f), some (.int (nI b)), some (.int a), some (.int e), none, none, none, none]) (by decide) (Nat.le_of_ble_eq_true rfl) rfl ?_
          refine jr_iload_n 2 1 dX9_guilty_0 rfl rfl rfl ?_
          refine jr_if_lt 30 4 dX9_guilty_1 rfl rfl (fun q => absurd q hc) (fun q1 => ?_)
          refine jr_iload_n 2 5 dX9_guilty_4 rfl rfl rfl ?_
          refine jr_sipush (nI 1000) 8 dX9_guilty_5 rfl rfl ?_
          refine jr_idiv 9 dX9_guilty_8 rfl (by decide) ?_
          rw [ediv]
          refine jr_sipush (nI 400) 12 dX9_guilty_9 rfl rfl ?_
          refine jr_icmp_gt 30 15 dX9_guilty_12 rfl rfl (fun q => absurd q (Int32.not_lt.mpr (nI_le (b := 400) hd (by omega)))) (fun q12 => ?_)
          refine jr_iload_n 2 16 dX9_guilty_15 rfl rfl rfl ?_
          refine jr_sipush (nI 1000) 19 dX9_guilty_16 rfl rfl ?_
          refine jr_irem 20 dX9_guilty_19 rfl (by decide) ?_
          rw [erem]
          refine jr_sipush (nI 400) 23 dX9_guilty_20 rfl rfl ?_
          refine jr_icmp_gt 30 26 dX9_guilty_23 rfl rfl (fun q23 => ?_) (fun q => absurd (nI_lt (a := 400) (by omega) (by omega)) q)
          refine jr_iconst (nI 0) 31 dX9_guilty_30 rfl rfl ?_
          refine jr_istore (L' := [_, _, _, _, _, _, _, _, _]) 33 dX9_guilty_31 rfl (by decide) rfl ?_
          refine jr_iload 35 dX9_guilty_33 rfl rfl ?_
          refine jr_if_eq 67 38 dX9_guilty_35 rfl rfl (fun q35 => ?_) (fun q => absurd (by decide) q)
          refine jr_ldc2 kc_X9_278 70 dX9_guilty_67 rfl ?_
          refine jr_lreturn dX9_guilty_70 rfl ?_
          refine jr_enter (L := [some (.ref 46), some (.int f), some (.int (nI b)), some (.int a), some (.int e), none, none, none, none, none, none]) (by decide) (Nat.le_of_ble_eq_true rfl) rfl ?_
          refine jr_aload_n 0 1 dX10_guilty_0 rfl rfl rfl ?_
          refine jr_iload_n 1 2 dX10_guilty_1 rfl rfl rfl ?_
          refine cs_X10_204 5 dX10_guilty_2 rfl rfl rfl (Nat.le_of_ble_eq_true rfl) (wp_isFace rnf h5 (fun j hj e => absurd hf (by rw [e]; exact jr_fcn hj (by omega))) (fun _ => ?_))
          refine jr_if_eq 58 8 dX10_guilty_5 rfl rfl (fun q5 => ?_) (fun q => absurd (by decide) q)
          refine jr_iconst (0) 59 dX10_guilty_58 rfl rfl ?_
          refine jr_istore (L' := [_, _, _, _, _, _, _, _, _, _, _]) 61 dX10_guilty_59 rfl (by decide) rfl ?_
          refine jr_iload 63 dX10_guilty_61 rfl rfl ?_
          refine jr_if_ne 70 66 dX10_guilty_63 rfl rfl (fun q => absurd (by decide) q) (fun q63 => ?_)
          refine jr_ldc2 kc_X10_313 69 dX10_guilty_66 rfl ?_
          refine jr_lreturn dX10_guilty_69 rfl ?_
          exact ⟨rfl, IV_mov (iv_same_x (jr_eqx_rf [] _) (by decide)) h⟩
        · refine jr_enter (L := [some (.ref 0), some (.int (nI j)), some (.int (nI b)), some (.int a), some (.int e), none, none, none, none]) (by decide) (Nat.le_of_ble_eq_true rfl) rfl ?_
          refine jr_iload_n 2 1 dX9_guilty_0 rfl rfl rfl ?_
          refine jr_if_lt 30 4 dX9_guilty_1 rfl rfl (fun q => absurd q hc) (fun q1 => ?_)
          refine jr_iload_n 2 5 dX9_guilty_4 rfl rfl rfl ?_
          refine jr_sipush (nI 1000) 8 dX9_guilty_5 rfl rfl ?_
          refine jr_idiv 9 dX9_guilty_8 rfl (by decide) ?_
          rw [ediv]
          refine jr_sipush (nI 400) 12 dX9_guilty_9 rfl rfl ?_
          refine jr_icmp_gt 30 15 dX9_guilty_12 rfl rfl (fun q => absurd q (Int32.not_lt.mpr (nI_le (b := 400) hd (by omega)))) (fun q12 => ?_)
          refine jr_iload_n 2 16 dX9_guilty_15 rfl rfl rfl ?_
          refine jr_sipush (nI 1000) 19 dX9_guilty_16 rfl rfl ?_
          refine jr_irem 20 dX9_guilty_19 rfl (by decide) ?_
          rw [erem]
          refine jr_sipush (nI 400) 23 dX9_guilty_20 rfl rfl ?_
          refine jr_icmp_gt 30 26 dX9_guilty_23 rfl rfl (fun q23 => ?_) (fun q => absurd (nI_lt (a := 400) (by omega) (by omega)) q)
          refine jr_iconst (nI 0) 31 dX9_guilty_30 rfl rfl ?_
          refine jr_istore (L' := [_, _, _, _, _, _, _, _, _]) 33 dX9_guilty_31 rfl (by decide) rfl ?_
          refine jr_iload 35 dX9_guilty_33 rfl rfl ?_
          refine jr_if_eq 67 38 dX9_guilty_35 rfl rfl (fun q35 => ?_) (fun q => absurd (by decide) q)
          refine jr_ldc2 kc_X9_278 70 dX9_guilty_67 rfl ?_
          refine jr_lreturn dX9_guilty_70 rfl ?_
          refine jr_enter (L := [some (.ref 46), some (.int (nI j)), some (.int (nI b)), some (.int a), some (.int e), none, none, none, none, none, none]) (by decide) (Nat.le_of_ble_eq_true rfl) rfl ?_
          refine jr_aload_n 0 1 dX10_guilty_0 rfl rfl rfl ?_
          refine jr_iload_n 1 2 dX10_guilty_1 rfl rfl rfl ?_
          refine cs_X10_204 5 dX10_guilty_2 rfl rfl rfl (Nat.le_of_ble_eq_true rfl) (wp_isFace rnf h5 (fun _ _ _ => ?_) (fun q => absurd q (jr_fcn hj (by omega))))
          refine jr_if_eq 58 8 dX10_guilty_5 rfl rfl (fun q => absurd q (by decide)) (fun q5 => ?_)
          refine jr_iload_n 2 9 dX10_guilty_8 rfl rfl rfl ?_
          refine jr_if_lt 58 12 dX10_guilty_9 rfl rfl (fun q => absurd q hc) (fun q9 => ?_)
          refine jr_iload_n 2 13 dX10_guilty_12 rfl rfl rfl ?_
          refine jr_sipush (nI 1000) 16 dX10_guilty_13 rfl rfl ?_
          refine jr_idiv 17 dX10_guilty_16 rfl (by decide) ?_
          rw [ediv]
          refine cs_X10_191 20 dX10_guilty_17 rfl rfl (Nat.le_of_ble_eq_true rfl) (wp_risMuch (fun _ _ => ?_) (fun q => absurd ⟨nI_pos' (by omega), nI_le (b := 400) hd (by omega)⟩ q))
          refine jr_if_eq 58 23 dX10_guilty_20 rfl rfl (fun q => absurd q (by decide)) (fun q20 => ?_)
          refine jr_iload_n 2 24 dX10_guilty_23 rfl rfl rfl ?_
          refine jr_sipush (nI 1000) 27 dX10_guilty_24 rfl rfl ?_
          refine jr_irem 28 dX10_guilty_27 rfl (by decide) ?_
          rw [erem]
          refine cs_X10_191 31 dX10_guilty_28 rfl rfl (Nat.le_of_ble_eq_true rfl) (wp_risMuch (fun _ q => absurd q (nI_ge (a := 400) (by omega) (by omega))) (fun _ => ?_))
          refine jr_if_eq 58 34 dX10_guilty_31 rfl rfl (fun q31 => ?_) (fun q => absurd (by decide) q)
          refine jr_iconst (nI 0) 59 dX10_guilty_58 rfl rfl ?_
          refine jr_istore (L' := [_, _, _, _, _, _, _, _, _, _, _]) 61 dX10_guilty_59 rfl (by decide) rfl ?_
          refine jr_iload 63 dX10_guilty_61 rfl rfl ?_
          refine jr_if_ne 70 66 dX10_guilty_63 rfl rfl (fun q => absurd (by decide) q) (fun q63 => ?_)
          refine jr_ldc2 kc_X10_313 69 dX10_guilty_66 rfl ?_
          refine jr_lreturn dX10_guilty_69 rfl ?_
          exact ⟨rfl, IV_mov (iv_same_x (jr_eqx_rf [] _) (by decide)) h⟩
    · rcases jr_fc f h5 with hf | ⟨j, hj, rfl⟩
      · refine jr_enter (L := [some (.ref 0), some (.int f), some (.int (nI b)), some (.int a), some (.int e), none, none, none, none]) (by decide) (Nat.le_of_ble_eq_true rfl) rfl ?_
        refine jr_iload_n 2 1 dX9_guilty_0 rfl rfl rfl ?_
        refine jr_if_lt 30 4 dX9_guilty_1 rfl rfl (fun q => absurd q hc) (fun q1 => ?_)
        refine jr_iload_n 2 5 dX9_guilty_4 rfl rfl rfl ?_
        refine jr_sipush (nI 1000) 8 dX9_guilty_5 rfl rfl ?_
        refine jr_idiv 9 dX9_guilty_8 rfl (by decide) ?_
        rw [ediv]
        refine jr_sipush (nI 400) 12 dX9_guilty_9 rfl rfl ?_
        refine jr_icmp_gt 30 15 dX9_guilty_12 rfl rfl (fun q12 => ?_) (fun q => absurd (nI_lt (a := 400) (by omega) (by omega)) q)
        refine jr_iconst (nI 0) 31 dX9_guilty_30 rfl rfl ?_
        refine jr_istore (L' := [_, _, _, _, _, _, _, _, _]) 33 dX9_guilty_31 rfl (by decide) rfl ?_
        refine jr_iload 35 dX9_guilty_33 rfl rfl ?_
        refine jr_if_eq 67 38 dX9_guilty_35 rfl rfl (fun q35 => ?_) (fun q => absurd (by decide) q)
        refine jr_ldc2 kc_X9_278 70 dX9_guilty_67 rfl ?_
        refine jr_lreturn dX9_guilty_70 rfl ?_
        refine jr_enter (L := [some (.ref 46), some (.int f), some (.int (nI b)), some (.int a), some (.int e), none, none, none, none, none, none]) (by decide) (Nat.le_of_ble_eq_true rfl) rfl ?_
        refine jr_aload_n 0 1 dX10_guilty_0 rfl rfl rfl ?_
        refine jr_iload_n 1 2 dX10_guilty_1 rfl rfl rfl ?_
        refine cs_X10_204 5 dX10_guilty_2 rfl rfl rfl (Nat.le_of_ble_eq_true rfl) (wp_isFace rnf h5 (fun j hj e => absurd hf (by rw [e]; exact jr_fcn hj (by omega))) (fun _ => ?_))
        refine jr_if_eq 58 8 dX10_guilty_5 rfl rfl (fun q5 => ?_) (fun q => absurd (by decide) q)
        refine jr_iconst (0) 59 dX10_guilty_58 rfl rfl ?_
        refine jr_istore (L' := [_, _, _, _, _, _, _, _, _, _, _]) 61 dX10_guilty_59 rfl (by decide) rfl ?_
        refine jr_iload 63 dX10_guilty_61 rfl rfl ?_
        refine jr_if_ne 70 66 dX10_guilty_63 rfl rfl (fun q => absurd (by decide) q) (fun q63 => ?_)
        refine jr_ldc2 kc_X10_313 69 dX10_guilty_66 rfl ?_
        refine jr_lreturn dX10_guilty_69 rfl ?_
        exact ⟨rfl, IV_mov (iv_same_x (jr_eqx_rf [] _) (by decide)) h⟩
      · refine jr_enter (L := [some (.ref 0), some (.int (nI j)), some (.int (nI b)), some (.int a), some (.int e), none, none, none, none]) (by decide) (Nat.le_of_ble_eq_true rfl) rfl ?_
        refine jr_iload_n 2 1 dX9_guilty_0 rfl rfl rfl ?_
        refine jr_if_lt 30 4 dX9_guilty_1 rfl rfl (fun q => absurd q hc) (fun q1 => ?_)
        refine jr_iload_n 2 5 dX9_guilty_4 rfl rfl rfl ?_
        refine jr_sipush (nI 1000) 8 dX9_guilty_5 rfl rfl ?_
        refine jr_idiv 9 dX9_guilty_8 rfl (by decide) ?_
        rw [ediv]
        refine jr_sipush (nI 400) 12 dX9_guilty_9 rfl rfl ?_
        refine jr_icmp_gt 30 15 dX9_guilty_12 rfl rfl (fun q12 => ?_) (fun q => absurd (nI_lt (a := 400) (by omega) (by omega)) q)
        refine jr_iconst (nI 0) 31 dX9_guilty_30 rfl rfl ?_
        refine jr_istore (L' := [_, _, _, _, _, _, _, _, _]) 33 dX9_guilty_31 rfl (by decide) rfl ?_
        refine jr_iload 35 dX9_guilty_33 rfl rfl ?_
        refine jr_if_eq 67 38 dX9_guilty_35 rfl rfl (fun q35 => ?_) (fun q => absurd (by decide) q)
        refine jr_ldc2 kc_X9_278 70 dX9_guilty_67 rfl ?_
        refine jr_lreturn dX9_guilty_70 rfl ?_
        refine jr_enter (L := [some (.ref 46), some (.int (nI j)), some (.int (nI b)), some (.int a), some (.int e), none, none, none, none, none, none]) (by decide) (Nat.le_of_ble_eq_true rfl) rfl ?_
        refine jr_aload_n 0 1 dX10_guilty_0 rfl rfl rfl ?_
        refine jr_iload_n 1 2 dX10_guilty_1 rfl rfl rfl ?_
        refine cs_X10_204 5 dX10_guilty_2 rfl rfl rfl (Nat.le_of_ble_eq_true rfl) (wp_isFace rnf h5 (fun _ _ _ => ?_) (fun q => absurd q (jr_fcn hj (by omega))))
        refine jr_if_eq 58 8 dX10_guilty_5 rfl rfl (fun q => absurd q (by decide)) (fun q5 => ?_)
        refine jr_iload_n 2 9 dX10_guilty_8 rfl rfl rfl ?_
        refine jr_if_lt 58 12 dX10_guilty_9 rfl rfl (fun q => absurd q hc) (fun q9 => ?_)
        refine jr_iload_n 2 13 dX10_guilty_12 rfl rfl rfl ?_
        refine jr_sipush (nI 1000) 16 dX10_guilty_13 rfl rfl ?_
        refine jr_idiv 17 dX10_guilty_16 rfl (by decide) ?_
        rw [ediv]
        refine cs_X10_191 20 dX10_guilty_17 rfl rfl (Nat.le_of_ble_eq_true rfl) (wp_risMuch (fun _ q => absurd q (nI_ge (a := 400) (by omega) (by omega))) (fun _ => ?_))
        refine jr_if_eq 58 23 dX10_guilty_20 rfl rfl (fun q20 => ?_) (fun q => absurd (by decide) q)
        refine jr_iconst (nI 0) 59 dX10_guilty_58 rfl rfl ?_
        refine jr_istore (L' := [_, _, _, _, _, _, _, _, _, _, _]) 61 dX10_guilty_59 rfl (by decide) rfl ?_
        refine jr_iload 63 dX10_guilty_61 rfl rfl ?_
        refine jr_if_ne 70 66 dX10_guilty_63 rfl rfl (fun q => absurd (by decide) q) (fun q63 => ?_)
        refine jr_ldc2 kc_X10_313 69 dX10_guilty_66 rfl ?_
        refine jr_lreturn dX10_guilty_69 rfl ?_
        exact ⟨rfl, IV_mov (iv_same_x (jr_eqx_rf [] _) (by decide)) h⟩
