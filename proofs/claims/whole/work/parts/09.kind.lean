def pu_is (c : Nat) (o : Int32) : Int32 := match c with
  | 0 => if o = 0 then 1 else 0
  | 1 => if o = 1 then 1 else if o = 0 then 1 else 0
  | 2 => if o = 2 then 1 else if o = 0 then 1 else 0
  | 3 => if o = 3 then 1 else if o = 1 then 1 else if o = 0 then 1 else 0
  | 4 => if o = 4 then 1 else if o = 2 then 1 else if o = 0 then 1 else 0
  | _ => if o = 5 then 1 else if o = 0 then 1 else 0
def pu_warms (c : Nat) (mo sd rd : Int32) : Int32 := match c with
  | 1 => if rd = 0 then sd else 2 * sd
  | 3 => (if rd = 0 then sd else 2 * sd) + mo
  | 5 => sd / 2 + 1
  | _ => sd
def pu_cools (c : Nat) (mo sd wm : Int32) : Int32 := match c with
  | 3 => if 200 < wm then sd / 2 else sd
  | 5 => if wm < 10 * mo then 0 else sd
  | _ => sd
def pu_redf (c : Nat) (mo li : Int32) : Int32 := match c with
  | 2 => pu_max 1 (60 - 4 * li + 10 * mo)
  | 4 => pu_max 1 (60 - 4 * (li / 2) + 10 * mo + 20)
  | _ => pu_max 1 (60 - 4 * li)
/-- one does the STOP w of n SECONDS in SECOND t -/
def pu_do (s0 s1 s2 f w t n : Int32) : Prop := f = s0 ∧ w = s1 ∧ s2 ≤ t ∧ t < s2 + n
theorem pu_do_dec (s0 s1 s2 f w t n : Int32) : pu_do s0 s1 s2 f w t n ∨ ¬ pu_do s0 s1 s2 f w t n := Classical.em _
theorem wp_isA_m1 {G : jr_G} {d : Nat} {σ : jr_Sg} {k : Value → jr_Sg → Prop} {a0 o n : Int32} (hn : n = 0 ∨ n = 1 ∨ n = 2 ∨ n = 3) (h : k (.int 0) σ) : jr_R G d mi_X0_isA (jr_k k) 4 [some (.int a0), some (.int o), some (.int (-1)), some (.int n)] [] σ := by
  refine jr_iload_n 3 5 dX0_isA_4 rfl rfl rfl ?_
  refine jr_above 8 dX0_isA_5 rfl rfl ?_
  refine jr_aboveLen 9 dX0_isA_8 rfl ?_
  refine jr_icmp_ge 43 12 dX0_isA_9 rfl rfl (fun q => absurd q (by rcases hn with rfl | rfl | rfl | rfl <;> decide)) (fun q9 => ?_)
  refine jr_iload_n 2 13 dX0_isA_12 rfl rfl rfl ?_
  refine jr_if_lt 43 16 dX0_isA_13 rfl rfl (fun q13 => ?_) (fun q => absurd (by decide) q)
  refine jr_iconst (0) 44 dX0_isA_43 rfl rfl ?_
  refine jr_ireturn dX0_isA_44 rfl rfl ?_
  exact h
theorem wp_isAs_0 {G : jr_G} {d : Nat} {σ : jr_Sg} {k : Value → jr_Sg → Prop} {a0 o n : Int32} (hn : n = 0 ∨ n = 1 ∨ n = 2) (h1 : 0 = o → k (.int 1) σ) (hnx : ∀ {n : Int32}, (n = 1 ∨ n = 2 ∨ n = 3) → ¬ o = 0 → jr_R G d mi_X0_isA (jr_k k) 4 [some (.int a0), some (.int o), some (.int (-1)), some (.int n)] [] σ) : jr_R G d mi_X0_isA (jr_k k) 4 [some (.int a0), some (.int o), some (.int 0), some (.int n)] [] σ := by
  refine jr_iload_n 3 5 dX0_isA_4 rfl rfl rfl ?_
  refine jr_above 8 dX0_isA_5 rfl rfl ?_
  refine jr_aboveLen 9 dX0_isA_8 rfl ?_
  refine jr_icmp_ge 43 12 dX0_isA_9 rfl rfl (fun q => absurd q (by rcases hn with rfl | rfl | rfl <;> decide)) (fun q9 => ?_)
  refine jr_iload_n 2 13 dX0_isA_12 rfl rfl rfl ?_
  refine jr_if_lt 43 16 dX0_isA_13 rfl rfl (fun q => absurd q (by decide)) (fun q13 => ?_)
  refine jr_iload_n 2 17 dX0_isA_16 rfl rfl rfl ?_
  refine jr_above 20 dX0_isA_17 rfl rfl ?_
  refine jr_aboveLen 21 dX0_isA_20 rfl ?_
  refine jr_icmp_ge 43 24 dX0_isA_21 rfl rfl (fun q => absurd q (by decide)) (fun q21 => ?_)
  refine jr_iload_n 2 25 dX0_isA_24 rfl rfl rfl ?_
  refine jr_iload_n 1 26 dX0_isA_25 rfl rfl rfl ?_
  refine jr_icmp_ne 31 29 dX0_isA_26 rfl rfl (fun q26 => ?_) (fun q26 => ?_)
  · refine jr_above 34 dX0_isA_31 rfl rfl ?_
    refine jr_iload_n 2 35 dX0_isA_34 rfl rfl rfl ?_
    refine jr_aboveAt (k := 0) rfl (by decide) 36 dX0_isA_35 rfl ?_
    refine jr_istore_n 2 (L' := [_, _, _, _]) 37 dX0_isA_36 rfl rfl (by decide) rfl ?_
    refine jr_iinc (v := _ + 1) (L' := [_, _, _, _]) 40 dX0_isA_37 rfl rfl rfl (by decide) rfl ?_
    refine jr_goto 4 dX0_isA_40 rfl ?_
    exact hnx (by rcases hn with rfl | rfl | rfl <;> decide) (fun e => q26 e.symm)
  · refine jr_iconst (1) 30 dX0_isA_29 rfl rfl ?_
    refine jr_ireturn dX0_isA_30 rfl rfl ?_
    exact h1 q26
theorem wp_isAs_1 {G : jr_G} {d : Nat} {σ : jr_Sg} {k : Value → jr_Sg → Prop} {a0 o n : Int32} (hn : n = 0 ∨ n = 1) (h1 : 1 = o → k (.int 1) σ) (hnx : ∀ {n : Int32}, (n = 1 ∨ n = 2) → ¬ o = 1 → jr_R G d mi_X0_isA (jr_k k) 4 [some (.int a0), some (.int o), some (.int (0)), some (.int n)] [] σ) : jr_R G d mi_X0_isA (jr_k k) 4 [some (.int a0), some (.int o), some (.int 1), some (.int n)] [] σ := by
  refine jr_iload_n 3 5 dX0_isA_4 rfl rfl rfl ?_
  refine jr_above 8 dX0_isA_5 rfl rfl ?_
  refine jr_aboveLen 9 dX0_isA_8 rfl ?_
  refine jr_icmp_ge 43 12 dX0_isA_9 rfl rfl (fun q => absurd q (by rcases hn with rfl | rfl <;> decide)) (fun q9 => ?_)
  refine jr_iload_n 2 13 dX0_isA_12 rfl rfl rfl ?_
  refine jr_if_lt 43 16 dX0_isA_13 rfl rfl (fun q => absurd q (by decide)) (fun q13 => ?_)
  refine jr_iload_n 2 17 dX0_isA_16 rfl rfl rfl ?_
  refine jr_above 20 dX0_isA_17 rfl rfl ?_
  refine jr_aboveLen 21 dX0_isA_20 rfl ?_
  refine jr_icmp_ge 43 24 dX0_isA_21 rfl rfl (fun q => absurd q (by decide)) (fun q21 => ?_)
  refine jr_iload_n 2 25 dX0_isA_24 rfl rfl rfl ?_
  refine jr_iload_n 1 26 dX0_isA_25 rfl rfl rfl ?_
  refine jr_icmp_ne 31 29 dX0_isA_26 rfl rfl (fun q26 => ?_) (fun q26 => ?_)
  · refine jr_above 34 dX0_isA_31 rfl rfl ?_
    refine jr_iload_n 2 35 dX0_isA_34 rfl rfl rfl ?_
    refine jr_aboveAt (k := 1) rfl (by decide) 36 dX0_isA_35 rfl ?_
    refine jr_istore_n 2 (L' := [_, _, _, _]) 37 dX0_isA_36 rfl rfl (by decide) rfl ?_
    refine jr_iinc (v := _ + 1) (L' := [_, _, _, _]) 40 dX0_isA_37 rfl rfl rfl (by decide) rfl ?_
    refine jr_goto 4 dX0_isA_40 rfl ?_
    exact hnx (by rcases hn with rfl | rfl <;> decide) (fun e => q26 e.symm)
  · refine jr_iconst (1) 30 dX0_isA_29 rfl rfl ?_
    refine jr_ireturn dX0_isA_30 rfl rfl ?_
    exact h1 q26
theorem wp_isAs_2 {G : jr_G} {d : Nat} {σ : jr_Sg} {k : Value → jr_Sg → Prop} {a0 o n : Int32} (hn : n = 0 ∨ n = 1) (h1 : 2 = o → k (.int 1) σ) (hnx : ∀ {n : Int32}, (n = 1 ∨ n = 2) → ¬ o = 2 → jr_R G d mi_X0_isA (jr_k k) 4 [some (.int a0), some (.int o), some (.int (0)), some (.int n)] [] σ) : jr_R G d mi_X0_isA (jr_k k) 4 [some (.int a0), some (.int o), some (.int 2), some (.int n)] [] σ := by
  refine jr_iload_n 3 5 dX0_isA_4 rfl rfl rfl ?_
  refine jr_above 8 dX0_isA_5 rfl rfl ?_
  refine jr_aboveLen 9 dX0_isA_8 rfl ?_
  refine jr_icmp_ge 43 12 dX0_isA_9 rfl rfl (fun q => absurd q (by rcases hn with rfl | rfl <;> decide)) (fun q9 => ?_)
  refine jr_iload_n 2 13 dX0_isA_12 rfl rfl rfl ?_
  refine jr_if_lt 43 16 dX0_isA_13 rfl rfl (fun q => absurd q (by decide)) (fun q13 => ?_)
  refine jr_iload_n 2 17 dX0_isA_16 rfl rfl rfl ?_
  refine jr_above 20 dX0_isA_17 rfl rfl ?_
  refine jr_aboveLen 21 dX0_isA_20 rfl ?_
  refine jr_icmp_ge 43 24 dX0_isA_21 rfl rfl (fun q => absurd q (by decide)) (fun q21 => ?_)
  refine jr_iload_n 2 25 dX0_isA_24 rfl rfl rfl ?_
  refine jr_iload_n 1 26 dX0_isA_25 rfl rfl rfl ?_
  refine jr_icmp_ne 31 29 dX0_isA_26 rfl rfl (fun q26 => ?_) (fun q26 => ?_)
  · refine jr_above 34 dX0_isA_31 rfl rfl ?_
    refine jr_iload_n 2 35 dX0_isA_34 rfl rfl rfl ?_
    refine jr_aboveAt (k := 2) rfl (by decide) 36 dX0_isA_35 rfl ?_
    refine jr_istore_n 2 (L' := [_, _, _, _]) 37 dX0_isA_36 rfl rfl (by decide) rfl ?_
    refine jr_iinc (v := _ + 1) (L' := [_, _, _, _]) 40 dX0_isA_37 rfl rfl rfl (by decide) rfl ?_
    refine jr_goto 4 dX0_isA_40 rfl ?_
    exact hnx (by rcases hn with rfl | rfl <;> decide) (fun e => q26 e.symm)
  · refine jr_iconst (1) 30 dX0_isA_29 rfl rfl ?_
    refine jr_ireturn dX0_isA_30 rfl rfl ?_
    exact h1 q26
theorem wp_isAs_5 {G : jr_G} {d : Nat} {σ : jr_Sg} {k : Value → jr_Sg → Prop} {a0 o n : Int32} (hn : n = 0 ∨ n = 1) (h1 : 5 = o → k (.int 1) σ) (hnx : ∀ {n : Int32}, (n = 1 ∨ n = 2) → ¬ o = 5 → jr_R G d mi_X0_isA (jr_k k) 4 [some (.int a0), some (.int o), some (.int (0)), some (.int n)] [] σ) : jr_R G d mi_X0_isA (jr_k k) 4 [some (.int a0), some (.int o), some (.int 5), some (.int n)] [] σ := by
  refine jr_iload_n 3 5 dX0_isA_4 rfl rfl rfl ?_
  refine jr_above 8 dX0_isA_5 rfl rfl ?_
  refine jr_aboveLen 9 dX0_isA_8 rfl ?_
  refine jr_icmp_ge 43 12 dX0_isA_9 rfl rfl (fun q => absurd q (by rcases hn with rfl | rfl <;> decide)) (fun q9 => ?_)
  refine jr_iload_n 2 13 dX0_isA_12 rfl rfl rfl ?_
  refine jr_if_lt 43 16 dX0_isA_13 rfl rfl (fun q => absurd q (by decide)) (fun q13 => ?_)
  refine jr_iload_n 2 17 dX0_isA_16 rfl rfl rfl ?_
  refine jr_above 20 dX0_isA_17 rfl rfl ?_
  refine jr_aboveLen 21 dX0_isA_20 rfl ?_
  refine jr_icmp_ge 43 24 dX0_isA_21 rfl rfl (fun q => absurd q (by decide)) (fun q21 => ?_)
  refine jr_iload_n 2 25 dX0_isA_24 rfl rfl rfl ?_
  refine jr_iload_n 1 26 dX0_isA_25 rfl rfl rfl ?_
  refine jr_icmp_ne 31 29 dX0_isA_26 rfl rfl (fun q26 => ?_) (fun q26 => ?_)
  · refine jr_above 34 dX0_isA_31 rfl rfl ?_
    refine jr_iload_n 2 35 dX0_isA_34 rfl rfl rfl ?_
    refine jr_aboveAt (k := 5) rfl (by decide) 36 dX0_isA_35 rfl ?_
    refine jr_istore_n 2 (L' := [_, _, _, _]) 37 dX0_isA_36 rfl rfl (by decide) rfl ?_
    refine jr_iinc (v := _ + 1) (L' := [_, _, _, _]) 40 dX0_isA_37 rfl rfl rfl (by decide) rfl ?_
    refine jr_goto 4 dX0_isA_40 rfl ?_
    exact hnx (by rcases hn with rfl | rfl <;> decide) (fun e => q26 e.symm)
  · refine jr_iconst (1) 30 dX0_isA_29 rfl rfl ?_
    refine jr_ireturn dX0_isA_30 rfl rfl ?_
    exact h1 q26
theorem wp_isAs_3 {G : jr_G} {d : Nat} {σ : jr_Sg} {k : Value → jr_Sg → Prop} {a0 o n : Int32} (hn : n = 0) (h1 : 3 = o → k (.int 1) σ) (hnx : ∀ {n : Int32}, (n = 1) → ¬ o = 3 → jr_R G d mi_X0_isA (jr_k k) 4 [some (.int a0), some (.int o), some (.int (1)), some (.int n)] [] σ) : jr_R G d mi_X0_isA (jr_k k) 4 [some (.int a0), some (.int o), some (.int 3), some (.int n)] [] σ := by
  refine jr_iload_n 3 5 dX0_isA_4 rfl rfl rfl ?_
  refine jr_above 8 dX0_isA_5 rfl rfl ?_
  refine jr_aboveLen 9 dX0_isA_8 rfl ?_
  refine jr_icmp_ge 43 12 dX0_isA_9 rfl rfl (fun q => absurd q (by rcases hn with rfl <;> decide)) (fun q9 => ?_)
  refine jr_iload_n 2 13 dX0_isA_12 rfl rfl rfl ?_
  refine jr_if_lt 43 16 dX0_isA_13 rfl rfl (fun q => absurd q (by decide)) (fun q13 => ?_)
  refine jr_iload_n 2 17 dX0_isA_16 rfl rfl rfl ?_
  refine jr_above 20 dX0_isA_17 rfl rfl ?_
  refine jr_aboveLen 21 dX0_isA_20 rfl ?_
  refine jr_icmp_ge 43 24 dX0_isA_21 rfl rfl (fun q => absurd q (by decide)) (fun q21 => ?_)
  refine jr_iload_n 2 25 dX0_isA_24 rfl rfl rfl ?_
  refine jr_iload_n 1 26 dX0_isA_25 rfl rfl rfl ?_
  refine jr_icmp_ne 31 29 dX0_isA_26 rfl rfl (fun q26 => ?_) (fun q26 => ?_)
  · refine jr_above 34 dX0_isA_31 rfl rfl ?_
    refine jr_iload_n 2 35 dX0_isA_34 rfl rfl rfl ?_
    refine jr_aboveAt (k := 3) rfl (by decide) 36 dX0_isA_35 rfl ?_
    refine jr_istore_n 2 (L' := [_, _, _, _]) 37 dX0_isA_36 rfl rfl (by decide) rfl ?_
    refine jr_iinc (v := _ + 1) (L' := [_, _, _, _]) 40 dX0_isA_37 rfl rfl rfl (by decide) rfl ?_
    refine jr_goto 4 dX0_isA_40 rfl ?_
    exact hnx (by rcases hn with rfl <;> decide) (fun e => q26 e.symm)
  · refine jr_iconst (1) 30 dX0_isA_29 rfl rfl ?_
    refine jr_ireturn dX0_isA_30 rfl rfl ?_
    exact h1 q26
theorem wp_isAs_4 {G : jr_G} {d : Nat} {σ : jr_Sg} {k : Value → jr_Sg → Prop} {a0 o n : Int32} (hn : n = 0) (h1 : 4 = o → k (.int 1) σ) (hnx : ∀ {n : Int32}, (n = 1) → ¬ o = 4 → jr_R G d mi_X0_isA (jr_k k) 4 [some (.int a0), some (.int o), some (.int (2)), some (.int n)] [] σ) : jr_R G d mi_X0_isA (jr_k k) 4 [some (.int a0), some (.int o), some (.int 4), some (.int n)] [] σ := by
  refine jr_iload_n 3 5 dX0_isA_4 rfl rfl rfl ?_
  refine jr_above 8 dX0_isA_5 rfl rfl ?_
  refine jr_aboveLen 9 dX0_isA_8 rfl ?_
  refine jr_icmp_ge 43 12 dX0_isA_9 rfl rfl (fun q => absurd q (by rcases hn with rfl <;> decide)) (fun q9 => ?_)
  refine jr_iload_n 2 13 dX0_isA_12 rfl rfl rfl ?_
  refine jr_if_lt 43 16 dX0_isA_13 rfl rfl (fun q => absurd q (by decide)) (fun q13 => ?_)
  refine jr_iload_n 2 17 dX0_isA_16 rfl rfl rfl ?_
  refine jr_above 20 dX0_isA_17 rfl rfl ?_
  refine jr_aboveLen 21 dX0_isA_20 rfl ?_
  refine jr_icmp_ge 43 24 dX0_isA_21 rfl rfl (fun q => absurd q (by decide)) (fun q21 => ?_)
  refine jr_iload_n 2 25 dX0_isA_24 rfl rfl rfl ?_
  refine jr_iload_n 1 26 dX0_isA_25 rfl rfl rfl ?_
  refine jr_icmp_ne 31 29 dX0_isA_26 rfl rfl (fun q26 => ?_) (fun q26 => ?_)
  · refine jr_above 34 dX0_isA_31 rfl rfl ?_
    refine jr_iload_n 2 35 dX0_isA_34 rfl rfl rfl ?_
    refine jr_aboveAt (k := 4) rfl (by decide) 36 dX0_isA_35 rfl ?_
    refine jr_istore_n 2 (L' := [_, _, _, _]) 37 dX0_isA_36 rfl rfl (by decide) rfl ?_
    refine jr_iinc (v := _ + 1) (L' := [_, _, _, _]) 40 dX0_isA_37 rfl rfl rfl (by decide) rfl ?_
    refine jr_goto 4 dX0_isA_40 rfl ?_
    exact hnx (by rcases hn with rfl <;> decide) (fun e => q26 e.symm)
  · refine jr_iconst (1) 30 dX0_isA_29 rfl rfl ?_
    refine jr_ireturn dX0_isA_30 rfl rfl ?_
    exact h1 q26
theorem wp_isA {G : jr_G} {d : Nat} {σ : jr_Sg} {k : Value → jr_Sg → Prop} {c : Nat} {o : Int32} (hc : c < 6) (h : k (.int (pu_is c o)) σ) : jr_M G d mi_X0_isA [.int (nI c), .int o] σ (jr_k k) := by
  refine jr_enter (L := [some (.int (nI c)), some (.int o), none, none]) (by decide) (Nat.le_of_ble_eq_true rfl) rfl ?_
  refine jr_iload_n 0 1 dX0_isA_0 rfl rfl rfl ?_
  refine jr_istore_n 2 (L' := [_, _, _, _]) 2 dX0_isA_1 rfl rfl (by decide) rfl ?_
  refine jr_iconst (0) 3 dX0_isA_2 rfl rfl ?_
  refine jr_istore_n 3 (L' := [_, _, _, _]) 4 dX0_isA_3 rfl rfl (by decide) rfl ?_
  have z : ∀ {a0 n : Int32}, (n = 0 ∨ n = 1 ∨ n = 2) → (0 = o → k (.int 1) σ) → (¬ o = 0 → k (.int 0) σ) → jr_R G d mi_X0_isA (jr_k k) 4 [some (.int a0), some (.int o), some (.int 0), some (.int n)] [] σ :=
    fun hn h1 h0 => wp_isAs_0 hn h1 (fun hn2 e => wp_isA_m1 (by rcases hn2 with rfl | rfl | rfl <;> decide) (h0 e))
  have one : ∀ {a0 n : Int32}, (n = 0 ∨ n = 1) → (1 = o → k (.int 1) σ) → (0 = o → k (.int 1) σ) → (¬ o = 1 → ¬ o = 0 → k (.int 0) σ) → jr_R G d mi_X0_isA (jr_k k) 4 [some (.int a0), some (.int o), some (.int 1), some (.int n)] [] σ :=
    fun hn h1 h2 h0 => wp_isAs_1 hn h1 (fun hn2 e => z (by rcases hn2 with rfl | rfl <;> decide) h2 (h0 e))
  have two : ∀ {a0 n : Int32}, (n = 0 ∨ n = 1) → (2 = o → k (.int 1) σ) → (0 = o → k (.int 1) σ) → (¬ o = 2 → ¬ o = 0 → k (.int 0) σ) → jr_R G d mi_X0_isA (jr_k k) 4 [some (.int a0), some (.int o), some (.int 2), some (.int n)] [] σ :=
    fun hn h1 h2 h0 => wp_isAs_2 hn h1 (fun hn2 e => z (by rcases hn2 with rfl | rfl <;> decide) h2 (h0 e))
  rcases (by omega : c = 0 ∨ c = 1 ∨ c = 2 ∨ c = 3 ∨ c = 4 ∨ c = 5) with rfl | rfl | rfl | rfl | rfl | rfl
  · exact z (Or.inl rfl) (fun e => by subst e; exact h) (fun e => by simpa [pu_is, e] using h)
  · exact one (Or.inl rfl) (fun e => by subst e; exact h) (fun e => by subst e; exact h) (fun e e2 => by simpa [pu_is, e, e2] using h)
  · exact two (Or.inl rfl) (fun e => by subst e; exact h) (fun e => by subst e; exact h) (fun e e2 => by simpa [pu_is, e, e2] using h)
  · exact wp_isAs_3 rfl (fun e => by subst e; exact h) (fun hn2 e => one (by subst hn2; decide) (fun e => by subst e; exact h) (fun e => by subst e; exact h) (fun e2 e3 => by simpa [pu_is, e, e2, e3] using h))
  · exact wp_isAs_4 rfl (fun e => by subst e; exact h) (fun hn2 e => two (by subst hn2; decide) (fun e => by subst e; exact h) (fun e => by subst e; exact h) (fun e2 e3 => by simpa [pu_is, e, e2, e3] using h))
  · exact wp_isAs_5 (Or.inl rfl) (fun e => by subst e; exact h) (fun hn2 e => z (by rcases hn2 with rfl | rfl <;> decide) (fun e => by subst e; exact h) (fun e2 => by simpa [pu_is, e, e2] using h))
theorem wp_isAc {G : jr_G} {d : Nat} {σ : jr_Sg} {k : Value → jr_Sg → Prop} {c : Nat} {o r : Int32} (hc : c < 6) (e : pu_is c o = r) (h : k (.int r) σ) : jr_M G d mi_X0_isA [.int (nI c), .int o] σ (jr_k k) := wp_isA hc (by rw [e]; exact h)
theorem wp_kwarms {G : jr_G} {d : Nat} {σ : jr_Sg} {k : Value → jr_Sg → Prop} {c : Nat} {mo sd rd : Int32} (hc : c < 6) (h : k (.int (pu_warms c mo sd rd)) σ) : jr_M G (d + 1) mi_X0_warms [.int (nI c), .int mo, .int sd, .int rd] σ (jr_k k) := by
  refine jr_enter (L := [some (.int (nI c)), some (.int mo), some (.int sd), some (.int rd), none]) (by decide) (Nat.le_of_ble_eq_true rfl) rfl ?_
  rcases (by omega : c = 0 ∨ c = 1 ∨ c = 2 ∨ c = 3 ∨ c = 4 ∨ c = 5) with rfl | rfl | rfl | rfl | rfl | rfl
  · refine jr_iload_n 0 1 dX0_warms_0 rfl rfl rfl ?_
    refine jr_iconst (5) 2 dX0_warms_1 rfl rfl ?_
    refine jr_icmp_ne 11 5 dX0_warms_2 rfl rfl (fun q2 => ?_) (fun q => absurd q (by decide))
    refine jr_iload_n 3 12 dX0_warms_11 rfl rfl rfl ?_
    refine jr_if_eq 29 15 dX0_warms_12 rfl rfl (fun q12 => ?_) (fun q12 => ?_)
    · refine jr_iload_n 2 30 dX0_warms_29 rfl rfl rfl ?_
      refine jr_istore (L' := [_, _, _, _, _]) 32 dX0_warms_30 rfl (by decide) rfl ?_
      refine jr_iload_n 0 33 dX0_warms_32 rfl rfl rfl ?_
      refine jr_iconst (3) 34 dX0_warms_33 rfl rfl ?_
      refine jr_icmp_ne 44 37 dX0_warms_34 rfl rfl (fun q34 => ?_) (fun q => absurd q (by decide))
      refine jr_iload 46 dX0_warms_44 rfl rfl ?_
      refine jr_ireturn dX0_warms_46 rfl rfl ?_
      first | exact h | exact jr_eqk (by simp [pu_warms, q12]) h
    · refine jr_iload_n 0 16 dX0_warms_15 rfl rfl rfl ?_
      refine jr_iconst (1) 17 dX0_warms_16 rfl rfl ?_
      refine cs_X0_13 20 dX0_warms_17 rfl rfl (Nat.le_of_ble_eq_true rfl) (wp_isAc (by decide) (r := 0) (by decide) ?_)
      refine jr_if_eq 29 23 dX0_warms_20 rfl rfl (fun q20 => ?_) (fun q => absurd (by decide) q)
      refine jr_iload_n 2 30 dX0_warms_29 rfl rfl rfl ?_
      refine jr_istore (L' := [_, _, _, _, _]) 32 dX0_warms_30 rfl (by decide) rfl ?_
      refine jr_iload_n 0 33 dX0_warms_32 rfl rfl rfl ?_
      refine jr_iconst (3) 34 dX0_warms_33 rfl rfl ?_
      refine jr_icmp_ne 44 37 dX0_warms_34 rfl rfl (fun q34 => ?_) (fun q => absurd q (by decide))
      refine jr_iload 46 dX0_warms_44 rfl rfl ?_
      refine jr_ireturn dX0_warms_46 rfl rfl ?_
      first | exact h | exact jr_eqk (by simp [pu_warms, q12]) h
  · refine jr_iload_n 0 1 dX0_warms_0 rfl rfl rfl ?_
    refine jr_iconst (5) 2 dX0_warms_1 rfl rfl ?_
    refine jr_icmp_ne 11 5 dX0_warms_2 rfl rfl (fun q2 => ?_) (fun q => absurd q (by decide))
    refine jr_iload_n 3 12 dX0_warms_11 rfl rfl rfl ?_
    refine jr_if_eq 29 15 dX0_warms_12 rfl rfl (fun q12 => ?_) (fun q12 => ?_)
    · refine jr_iload_n 2 30 dX0_warms_29 rfl rfl rfl ?_
      refine jr_istore (L' := [_, _, _, _, _]) 32 dX0_warms_30 rfl (by decide) rfl ?_
      refine jr_iload_n 0 33 dX0_warms_32 rfl rfl rfl ?_
      refine jr_iconst (3) 34 dX0_warms_33 rfl rfl ?_
      refine jr_icmp_ne 44 37 dX0_warms_34 rfl rfl (fun q34 => ?_) (fun q => absurd q (by decide))
      refine jr_iload 46 dX0_warms_44 rfl rfl ?_
      refine jr_ireturn dX0_warms_46 rfl rfl ?_
      first | exact h | exact jr_eqk (by simp [pu_warms, q12]) h
    · refine jr_iload_n 0 16 dX0_warms_15 rfl rfl rfl ?_
      refine jr_iconst (1) 17 dX0_warms_16 rfl rfl ?_
      refine cs_X0_13 20 dX0_warms_17 rfl rfl (Nat.le_of_ble_eq_true rfl) (wp_isAc (by decide) (r := 1) (by decide) ?_)
      refine jr_if_eq 29 23 dX0_warms_20 rfl rfl (fun q => absurd q (by decide)) (fun q20 => ?_)
      refine jr_iconst (2) 24 dX0_warms_23 rfl rfl ?_
      refine jr_iload_n 2 25 dX0_warms_24 rfl rfl rfl ?_
      refine jr_imul 26 dX0_warms_25 rfl ?_
      refine jr_goto 30 dX0_warms_26 rfl ?_
      refine jr_istore (L' := [_, _, _, _, _]) 32 dX0_warms_30 rfl (by decide) rfl ?_
      refine jr_iload_n 0 33 dX0_warms_32 rfl rfl rfl ?_
      refine jr_iconst (3) 34 dX0_warms_33 rfl rfl ?_
      refine jr_icmp_ne 44 37 dX0_warms_34 rfl rfl (fun q34 => ?_) (fun q => absurd q (by decide))
      refine jr_iload 46 dX0_warms_44 rfl rfl ?_
      refine jr_ireturn dX0_warms_46 rfl rfl ?_
      first | exact h | exact jr_eqk (by simp [pu_warms, q12]) h
  · refine jr_iload_n 0 1 dX0_warms_0 rfl rfl rfl ?_
    refine jr_iconst (5) 2 dX0_warms_1 rfl rfl ?_
    refine jr_icmp_ne 11 5 dX0_warms_2 rfl rfl (fun q2 => ?_) (fun q => absurd q (by decide))
    refine jr_iload_n 3 12 dX0_warms_11 rfl rfl rfl ?_
    refine jr_if_eq 29 15 dX0_warms_12 rfl rfl (fun q12 => ?_) (fun q12 => ?_)
    · refine jr_iload_n 2 30 dX0_warms_29 rfl rfl rfl ?_
      refine jr_istore (L' := [_, _, _, _, _]) 32 dX0_warms_30 rfl (by decide) rfl ?_
      refine jr_iload_n 0 33 dX0_warms_32 rfl rfl rfl ?_
      refine jr_iconst (3) 34 dX0_warms_33 rfl rfl ?_
      refine jr_icmp_ne 44 37 dX0_warms_34 rfl rfl (fun q34 => ?_) (fun q => absurd q (by decide))
      refine jr_iload 46 dX0_warms_44 rfl rfl ?_
      refine jr_ireturn dX0_warms_46 rfl rfl ?_
      first | exact h | exact jr_eqk (by simp [pu_warms, q12]) h
    · refine jr_iload_n 0 16 dX0_warms_15 rfl rfl rfl ?_
      refine jr_iconst (1) 17 dX0_warms_16 rfl rfl ?_
      refine cs_X0_13 20 dX0_warms_17 rfl rfl (Nat.le_of_ble_eq_true rfl) (wp_isAc (by decide) (r := 0) (by decide) ?_)
      refine jr_if_eq 29 23 dX0_warms_20 rfl rfl (fun q20 => ?_) (fun q => absurd (by decide) q)
      refine jr_iload_n 2 30 dX0_warms_29 rfl rfl rfl ?_
      refine jr_istore (L' := [_, _, _, _, _]) 32 dX0_warms_30 rfl (by decide) rfl ?_
      refine jr_iload_n 0 33 dX0_warms_32 rfl rfl rfl ?_
      refine jr_iconst (3) 34 dX0_warms_33 rfl rfl ?_
      refine jr_icmp_ne 44 37 dX0_warms_34 rfl rfl (fun q34 => ?_) (fun q => absurd q (by decide))
      refine jr_iload 46 dX0_warms_44 rfl rfl ?_
      refine jr_ireturn dX0_warms_46 rfl rfl ?_
      first | exact h | exact jr_eqk (by simp [pu_warms, q12]) h
  · refine jr_iload_n 0 1 dX0_warms_0 rfl rfl rfl ?_
    refine jr_iconst (5) 2 dX0_warms_1 rfl rfl ?_
    refine jr_icmp_ne 11 5 dX0_warms_2 rfl rfl (fun q2 => ?_) (fun q => absurd q (by decide))
    refine jr_iload_n 3 12 dX0_warms_11 rfl rfl rfl ?_
    refine jr_if_eq 29 15 dX0_warms_12 rfl rfl (fun q12 => ?_) (fun q12 => ?_)
    · refine jr_iload_n 2 30 dX0_warms_29 rfl rfl rfl ?_
      refine jr_istore (L' := [_, _, _, _, _]) 32 dX0_warms_30 rfl (by decide) rfl ?_
      refine jr_iload_n 0 33 dX0_warms_32 rfl rfl rfl ?_
      refine jr_iconst (3) 34 dX0_warms_33 rfl rfl ?_
      refine jr_icmp_ne 44 37 dX0_warms_34 rfl rfl (fun q => absurd (by decide) q) (fun q34 => ?_)
      refine jr_iload 39 dX0_warms_37 rfl rfl ?_
      refine jr_iload_n 1 40 dX0_warms_39 rfl rfl rfl ?_
      refine jr_iadd 41 dX0_warms_40 rfl ?_
      refine jr_goto 46 dX0_warms_41 rfl ?_
      refine jr_ireturn dX0_warms_46 rfl rfl ?_
      first | exact h | exact jr_eqk (by simp [pu_warms, q12]) h
    · refine jr_iload_n 0 16 dX0_warms_15 rfl rfl rfl ?_
      refine jr_iconst (1) 17 dX0_warms_16 rfl rfl ?_
      refine cs_X0_13 20 dX0_warms_17 rfl rfl (Nat.le_of_ble_eq_true rfl) (wp_isAc (by decide) (r := 1) (by decide) ?_)
      refine jr_if_eq 29 23 dX0_warms_20 rfl rfl (fun q => absurd q (by decide)) (fun q20 => ?_)
      refine jr_iconst (2) 24 dX0_warms_23 rfl rfl ?_
      refine jr_iload_n 2 25 dX0_warms_24 rfl rfl rfl ?_
      refine jr_imul 26 dX0_warms_25 rfl ?_
      refine jr_goto 30 dX0_warms_26 rfl ?_
      refine jr_istore (L' := [_, _, _, _, _]) 32 dX0_warms_30 rfl (by decide) rfl ?_
      refine jr_iload_n 0 33 dX0_warms_32 rfl rfl rfl ?_
      refine jr_iconst (3) 34 dX0_warms_33 rfl rfl ?_
      refine jr_icmp_ne 44 37 dX0_warms_34 rfl rfl (fun q => absurd (by decide) q) (fun q34 => ?_)
      refine jr_iload 39 dX0_warms_37 rfl rfl ?_
      refine jr_iload_n 1 40 dX0_warms_39 rfl rfl rfl ?_
      refine jr_iadd 41 dX0_warms_40 rfl ?_
      refine jr_goto 46 dX0_warms_41 rfl ?_
      refine jr_ireturn dX0_warms_46 rfl rfl ?_
      first | exact h | exact jr_eqk (by simp [pu_warms, q12]) h
  · refine jr_iload_n 0 1 dX0_warms_0 rfl rfl rfl ?_
    refine jr_iconst (5) 2 dX0_warms_1 rfl rfl ?_
    refine jr_icmp_ne 11 5 dX0_warms_2 rfl rfl (fun q2 => ?_) (fun q => absurd q (by decide))
    refine jr_iload_n 3 12 dX0_warms_11 rfl rfl rfl ?_
    refine jr_if_eq 29 15 dX0_warms_12 rfl rfl (fun q12 => ?_) (fun q12 => ?_)
    · refine jr_iload_n 2 30 dX0_warms_29 rfl rfl rfl ?_
      refine jr_istore (L' := [_, _, _, _, _]) 32 dX0_warms_30 rfl (by decide) rfl ?_
      refine jr_iload_n 0 33 dX0_warms_32 rfl rfl rfl ?_
      refine jr_iconst (3) 34 dX0_warms_33 rfl rfl ?_
      refine jr_icmp_ne 44 37 dX0_warms_34 rfl rfl (fun q34 => ?_) (fun q => absurd q (by decide))
      refine jr_iload 46 dX0_warms_44 rfl rfl ?_
      refine jr_ireturn dX0_warms_46 rfl rfl ?_
      first | exact h | exact jr_eqk (by simp [pu_warms, q12]) h
    · refine jr_iload_n 0 16 dX0_warms_15 rfl rfl rfl ?_
      refine jr_iconst (1) 17 dX0_warms_16 rfl rfl ?_
      refine cs_X0_13 20 dX0_warms_17 rfl rfl (Nat.le_of_ble_eq_true rfl) (wp_isAc (by decide) (r := 0) (by decide) ?_)
      refine jr_if_eq 29 23 dX0_warms_20 rfl rfl (fun q20 => ?_) (fun q => absurd (by decide) q)
      refine jr_iload_n 2 30 dX0_warms_29 rfl rfl rfl ?_
      refine jr_istore (L' := [_, _, _, _, _]) 32 dX0_warms_30 rfl (by decide) rfl ?_
      refine jr_iload_n 0 33 dX0_warms_32 rfl rfl rfl ?_
      refine jr_iconst (3) 34 dX0_warms_33 rfl rfl ?_
      refine jr_icmp_ne 44 37 dX0_warms_34 rfl rfl (fun q34 => ?_) (fun q => absurd q (by decide))
      refine jr_iload 46 dX0_warms_44 rfl rfl ?_
      refine jr_ireturn dX0_warms_46 rfl rfl ?_
      first | exact h | exact jr_eqk (by simp [pu_warms, q12]) h
  · refine jr_iload_n 0 1 dX0_warms_0 rfl rfl rfl ?_
    refine jr_iconst (5) 2 dX0_warms_1 rfl rfl ?_
    refine jr_icmp_ne 11 5 dX0_warms_2 rfl rfl (fun q => absurd (by decide) q) (fun q2 => ?_)
    refine jr_iload_n 2 6 dX0_warms_5 rfl rfl rfl ?_
    refine jr_iconst (2) 7 dX0_warms_6 rfl rfl ?_
    refine jr_idiv 8 dX0_warms_7 rfl (by decide) ?_
    refine jr_iconst (1) 9 dX0_warms_8 rfl rfl ?_
    refine jr_iadd 10 dX0_warms_9 rfl ?_
    refine jr_ireturn dX0_warms_10 rfl rfl ?_
    first | exact h | exact jr_eqk (by simp [pu_warms, q12]) h
theorem wp_kcools {G : jr_G} {d : Nat} {σ : jr_Sg} {k : Value → jr_Sg → Prop} {c : Nat} {mo sd wm : Int32} (hc : c < 6) (h : k (.int (pu_cools c mo sd wm)) σ) : jr_M G d mi_X0_cools [.int (nI c), .int mo, .int sd, .int wm] σ (jr_k k) := by
  refine jr_enter (L := [some (.int (nI c)), some (.int mo), some (.int sd), some (.int wm)]) (by decide) (Nat.le_of_ble_eq_true rfl) rfl ?_
  rcases (by omega : c = 0 ∨ c = 1 ∨ c = 2 ∨ c = 3 ∨ c = 4 ∨ c = 5) with rfl | rfl | rfl | rfl | rfl | rfl
  · refine jr_iload_n 0 1 dX0_cools_0 rfl rfl rfl ?_
    refine jr_iconst (3) 2 dX0_cools_1 rfl rfl ?_
    refine jr_icmp_ne 16 5 dX0_cools_2 rfl rfl (fun q2 => ?_) (fun q => absurd q (by decide))
    refine jr_iload_n 0 17 dX0_cools_16 rfl rfl rfl ?_
    refine jr_iconst (5) 18 dX0_cools_17 rfl rfl ?_
    refine jr_icmp_ne 33 21 dX0_cools_18 rfl rfl (fun q18 => ?_) (fun q => absurd q (by decide))
    refine jr_iload_n 2 34 dX0_cools_33 rfl rfl rfl ?_
    refine jr_ireturn dX0_cools_34 rfl rfl ?_
    first | exact h | exact jr_eqk (by simp only [pu_cools]; first | rw [if_pos (Int32.not_le.mp q9)] | rw [if_neg (Int32.not_lt.mpr q9)]) h | exact jr_eqk (by simp only [pu_cools]; first | rw [if_pos (Int32.not_le.mp q26)] | rw [if_neg (Int32.not_lt.mpr q26)]) h
  · refine jr_iload_n 0 1 dX0_cools_0 rfl rfl rfl ?_
    refine jr_iconst (3) 2 dX0_cools_1 rfl rfl ?_
    refine jr_icmp_ne 16 5 dX0_cools_2 rfl rfl (fun q2 => ?_) (fun q => absurd q (by decide))
    refine jr_iload_n 0 17 dX0_cools_16 rfl rfl rfl ?_
    refine jr_iconst (5) 18 dX0_cools_17 rfl rfl ?_
    refine jr_icmp_ne 33 21 dX0_cools_18 rfl rfl (fun q18 => ?_) (fun q => absurd q (by decide))
    refine jr_iload_n 2 34 dX0_cools_33 rfl rfl rfl ?_
    refine jr_ireturn dX0_cools_34 rfl rfl ?_
    first | exact h | exact jr_eqk (by simp only [pu_cools]; first | rw [if_pos (Int32.not_le.mp q9)] | rw [if_neg (Int32.not_lt.mpr q9)]) h | exact jr_eqk (by simp only [pu_cools]; first | rw [if_pos (Int32.not_le.mp q26)] | rw [if_neg (Int32.not_lt.mpr q26)]) h
  · refine jr_iload_n 0 1 dX0_cools_0 rfl rfl rfl ?_
    refine jr_iconst (3) 2 dX0_cools_1 rfl rfl ?_
    refine jr_icmp_ne 16 5 dX0_cools_2 rfl rfl (fun q2 => ?_) (fun q => absurd q (by decide))
    refine jr_iload_n 0 17 dX0_cools_16 rfl rfl rfl ?_
    refine jr_iconst (5) 18 dX0_cools_17 rfl rfl ?_
    refine jr_icmp_ne 33 21 dX0_cools_18 rfl rfl (fun q18 => ?_) (fun q => absurd q (by decide))
    refine jr_iload_n 2 34 dX0_cools_33 rfl rfl rfl ?_
    refine jr_ireturn dX0_cools_34 rfl rfl ?_
    first | exact h | exact jr_eqk (by simp only [pu_cools]; first | rw [if_pos (Int32.not_le.mp q9)] | rw [if_neg (Int32.not_lt.mpr q9)]) h | exact jr_eqk (by simp only [pu_cools]; first | rw [if_pos (Int32.not_le.mp q26)] | rw [if_neg (Int32.not_lt.mpr q26)]) h
  · refine jr_iload_n 0 1 dX0_cools_0 rfl rfl rfl ?_
    refine jr_iconst (3) 2 dX0_cools_1 rfl rfl ?_
    refine jr_icmp_ne 16 5 dX0_cools_2 rfl rfl (fun q => absurd (by decide) q) (fun q2 => ?_)
    refine jr_iload_n 3 6 dX0_cools_5 rfl rfl rfl ?_
    refine jr_sipush (200) 9 dX0_cools_6 rfl rfl ?_
    refine jr_icmp_le 16 12 dX0_cools_9 rfl rfl (fun q9 => ?_) (fun q9 => ?_)
    · refine jr_iload_n 0 17 dX0_cools_16 rfl rfl rfl ?_
      refine jr_iconst (5) 18 dX0_cools_17 rfl rfl ?_
      refine jr_icmp_ne 33 21 dX0_cools_18 rfl rfl (fun q18 => ?_) (fun q => absurd q (by decide))
      refine jr_iload_n 2 34 dX0_cools_33 rfl rfl rfl ?_
      refine jr_ireturn dX0_cools_34 rfl rfl ?_
      first | exact h | exact jr_eqk (by simp only [pu_cools]; first | rw [if_pos (Int32.not_le.mp q9)] | rw [if_neg (Int32.not_lt.mpr q9)]) h | exact jr_eqk (by simp only [pu_cools]; first | rw [if_pos (Int32.not_le.mp q26)] | rw [if_neg (Int32.not_lt.mpr q26)]) h
    · refine jr_iload_n 2 13 dX0_cools_12 rfl rfl rfl ?_
      refine jr_iconst (2) 14 dX0_cools_13 rfl rfl ?_
      refine jr_idiv 15 dX0_cools_14 rfl (by decide) ?_
      refine jr_ireturn dX0_cools_15 rfl rfl ?_
      first | exact h | exact jr_eqk (by simp only [pu_cools]; first | rw [if_pos (Int32.not_le.mp q9)] | rw [if_neg (Int32.not_lt.mpr q9)]) h | exact jr_eqk (by simp only [pu_cools]; first | rw [if_pos (Int32.not_le.mp q26)] | rw [if_neg (Int32.not_lt.mpr q26)]) h
  · refine jr_iload_n 0 1 dX0_cools_0 rfl rfl rfl ?_
    refine jr_iconst (3) 2 dX0_cools_1 rfl rfl ?_
    refine jr_icmp_ne 16 5 dX0_cools_2 rfl rfl (fun q2 => ?_) (fun q => absurd q (by decide))
    refine jr_iload_n 0 17 dX0_cools_16 rfl rfl rfl ?_
    refine jr_iconst (5) 18 dX0_cools_17 rfl rfl ?_
    refine jr_icmp_ne 33 21 dX0_cools_18 rfl rfl (fun q18 => ?_) (fun q => absurd q (by decide))
    refine jr_iload_n 2 34 dX0_cools_33 rfl rfl rfl ?_
    refine jr_ireturn dX0_cools_34 rfl rfl ?_
    first | exact h | exact jr_eqk (by simp only [pu_cools]; first | rw [if_pos (Int32.not_le.mp q9)] | rw [if_neg (Int32.not_lt.mpr q9)]) h | exact jr_eqk (by simp only [pu_cools]; first | rw [if_pos (Int32.not_le.mp q26)] | rw [if_neg (Int32.not_lt.mpr q26)]) h
  · refine jr_iload_n 0 1 dX0_cools_0 rfl rfl rfl ?_
    refine jr_iconst (3) 2 dX0_cools_1 rfl rfl ?_
    refine jr_icmp_ne 16 5 dX0_cools_2 rfl rfl (fun q2 => ?_) (fun q => absurd q (by decide))
    refine jr_iload_n 0 17 dX0_cools_16 rfl rfl rfl ?_
    refine jr_iconst (5) 18 dX0_cools_17 rfl rfl ?_
    refine jr_icmp_ne 33 21 dX0_cools_18 rfl rfl (fun q => absurd (by decide) q) (fun q18 => ?_)
    refine jr_iload_n 3 22 dX0_cools_21 rfl rfl rfl ?_
    refine jr_bipush (10) 24 dX0_cools_22 rfl rfl ?_
    refine jr_iload_n 1 25 dX0_cools_24 rfl rfl rfl ?_
    refine jr_imul 26 dX0_cools_25 rfl ?_
    refine jr_icmp_ge 33 29 dX0_cools_26 rfl rfl (fun q26 => ?_) (fun q26 => ?_)
    · refine jr_iload_n 2 34 dX0_cools_33 rfl rfl rfl ?_
      refine jr_ireturn dX0_cools_34 rfl rfl ?_
      first | exact h | exact jr_eqk (by simp only [pu_cools]; first | rw [if_pos (Int32.not_le.mp q9)] | rw [if_neg (Int32.not_lt.mpr q9)]) h | exact jr_eqk (by simp only [pu_cools]; first | rw [if_pos (Int32.not_le.mp q26)] | rw [if_neg (Int32.not_lt.mpr q26)]) h
    · refine jr_iconst (0) 30 dX0_cools_29 rfl rfl ?_
      refine jr_goto 34 dX0_cools_30 rfl ?_
      refine jr_ireturn dX0_cools_34 rfl rfl ?_
      first | exact h | exact jr_eqk (by simp only [pu_cools]; first | rw [if_pos (Int32.not_le.mp q9)] | rw [if_neg (Int32.not_lt.mpr q9)]) h | exact jr_eqk (by simp only [pu_cools]; first | rw [if_pos (Int32.not_le.mp q26)] | rw [if_neg (Int32.not_lt.mpr q26)]) h
theorem wp_kredf {G : jr_G} {d : Nat} {σ : jr_Sg} {k : Value → jr_Sg → Prop} {c : Nat} {mo li : Int32} (hc : c < 6) (h : k (.int (pu_redf c mo li)) σ) : jr_M G (d + 1) mi_X0_redFrom [.int (nI c), .int mo, .int li] σ (jr_k k) := by
  refine jr_enter (L := [some (.int (nI c)), some (.int mo), some (.int li), none]) (by decide) (Nat.le_of_ble_eq_true rfl) rfl ?_
  rcases (by omega : c = 0 ∨ c = 1 ∨ c = 2 ∨ c = 3 ∨ c = 4 ∨ c = 5) with rfl | rfl | rfl | rfl | rfl | rfl
  · refine jr_bipush (60) 2 dX0_redFrom_0 rfl rfl ?_
    refine jr_iconst (4) 3 dX0_redFrom_2 rfl rfl ?_
    refine jr_iload_n 0 4 dX0_redFrom_3 rfl rfl rfl ?_
    refine jr_iconst (4) 5 dX0_redFrom_4 rfl rfl ?_
    refine jr_icmp_ne 14 8 dX0_redFrom_5 rfl rfl (fun q5 => ?_) (fun q => absurd q (by decide))
    refine jr_iload_n 2 15 dX0_redFrom_14 rfl rfl rfl ?_
    refine jr_imul 16 dX0_redFrom_15 rfl ?_
    refine jr_isub 17 dX0_redFrom_16 rfl ?_
    refine jr_istore_n 3 (L' := [_, _, _, _]) 18 dX0_redFrom_17 rfl rfl (by decide) rfl ?_
    refine jr_iload_n 0 19 dX0_redFrom_18 rfl rfl rfl ?_
    refine jr_iconst (2) 20 dX0_redFrom_19 rfl rfl ?_
    refine cs_X0_13 23 dX0_redFrom_20 rfl rfl (Nat.le_of_ble_eq_true rfl) (wp_isAc (by decide) (r := 0) (by decide) ?_)
    refine jr_if_eq 33 26 dX0_redFrom_23 rfl rfl (fun q23 => ?_) (fun q => absurd (by decide) q)
    refine jr_iconst (1) 34 dX0_redFrom_33 rfl rfl ?_
    refine jr_iload_n 0 35 dX0_redFrom_34 rfl rfl rfl ?_
    refine jr_iconst (4) 36 dX0_redFrom_35 rfl rfl ?_
    refine jr_icmp_ne 46 39 dX0_redFrom_36 rfl rfl (fun q36 => ?_) (fun q => absurd q (by decide))
    refine jr_iload_n 3 47 dX0_redFrom_46 rfl rfl rfl ?_
    refine jr_mmax 50 dX0_redFrom_47 rfl ml_X0_17 (Nat.le_of_ble_eq_true rfl) ?_
    refine jr_ireturn dX0_redFrom_50 rfl rfl ?_
    exact h
  · refine jr_bipush (60) 2 dX0_redFrom_0 rfl rfl ?_
    refine jr_iconst (4) 3 dX0_redFrom_2 rfl rfl ?_
    refine jr_iload_n 0 4 dX0_redFrom_3 rfl rfl rfl ?_
    refine jr_iconst (4) 5 dX0_redFrom_4 rfl rfl ?_
    refine jr_icmp_ne 14 8 dX0_redFrom_5 rfl rfl (fun q5 => ?_) (fun q => absurd q (by decide))
    refine jr_iload_n 2 15 dX0_redFrom_14 rfl rfl rfl ?_
    refine jr_imul 16 dX0_redFrom_15 rfl ?_
    refine jr_isub 17 dX0_redFrom_16 rfl ?_
    refine jr_istore_n 3 (L' := [_, _, _, _]) 18 dX0_redFrom_17 rfl rfl (by decide) rfl ?_
    refine jr_iload_n 0 19 dX0_redFrom_18 rfl rfl rfl ?_
    refine jr_iconst (2) 20 dX0_redFrom_19 rfl rfl ?_
    refine cs_X0_13 23 dX0_redFrom_20 rfl rfl (Nat.le_of_ble_eq_true rfl) (wp_isAc (by decide) (r := 0) (by decide) ?_)
    refine jr_if_eq 33 26 dX0_redFrom_23 rfl rfl (fun q23 => ?_) (fun q => absurd (by decide) q)
    refine jr_iconst (1) 34 dX0_redFrom_33 rfl rfl ?_
    refine jr_iload_n 0 35 dX0_redFrom_34 rfl rfl rfl ?_
    refine jr_iconst (4) 36 dX0_redFrom_35 rfl rfl ?_
    refine jr_icmp_ne 46 39 dX0_redFrom_36 rfl rfl (fun q36 => ?_) (fun q => absurd q (by decide))
    refine jr_iload_n 3 47 dX0_redFrom_46 rfl rfl rfl ?_
    refine jr_mmax 50 dX0_redFrom_47 rfl ml_X0_17 (Nat.le_of_ble_eq_true rfl) ?_
    refine jr_ireturn dX0_redFrom_50 rfl rfl ?_
    exact h
  · refine jr_bipush (60) 2 dX0_redFrom_0 rfl rfl ?_
    refine jr_iconst (4) 3 dX0_redFrom_2 rfl rfl ?_
    refine jr_iload_n 0 4 dX0_redFrom_3 rfl rfl rfl ?_
    refine jr_iconst (4) 5 dX0_redFrom_4 rfl rfl ?_
    refine jr_icmp_ne 14 8 dX0_redFrom_5 rfl rfl (fun q5 => ?_) (fun q => absurd q (by decide))
    refine jr_iload_n 2 15 dX0_redFrom_14 rfl rfl rfl ?_
    refine jr_imul 16 dX0_redFrom_15 rfl ?_
    refine jr_isub 17 dX0_redFrom_16 rfl ?_
    refine jr_istore_n 3 (L' := [_, _, _, _]) 18 dX0_redFrom_17 rfl rfl (by decide) rfl ?_
    refine jr_iload_n 0 19 dX0_redFrom_18 rfl rfl rfl ?_
    refine jr_iconst (2) 20 dX0_redFrom_19 rfl rfl ?_
    refine cs_X0_13 23 dX0_redFrom_20 rfl rfl (Nat.le_of_ble_eq_true rfl) (wp_isAc (by decide) (r := 1) (by decide) ?_)
    refine jr_if_eq 33 26 dX0_redFrom_23 rfl rfl (fun q => absurd q (by decide)) (fun q23 => ?_)
    refine jr_iload_n 3 27 dX0_redFrom_26 rfl rfl rfl ?_
    refine jr_bipush (10) 29 dX0_redFrom_27 rfl rfl ?_
    refine jr_iload_n 1 30 dX0_redFrom_29 rfl rfl rfl ?_
    refine jr_imul 31 dX0_redFrom_30 rfl ?_
    refine jr_iadd 32 dX0_redFrom_31 rfl ?_
    refine jr_istore_n 3 (L' := [_, _, _, _]) 33 dX0_redFrom_32 rfl rfl (by decide) rfl ?_
    refine jr_iconst (1) 34 dX0_redFrom_33 rfl rfl ?_
    refine jr_iload_n 0 35 dX0_redFrom_34 rfl rfl rfl ?_
    refine jr_iconst (4) 36 dX0_redFrom_35 rfl rfl ?_
    refine jr_icmp_ne 46 39 dX0_redFrom_36 rfl rfl (fun q36 => ?_) (fun q => absurd q (by decide))
    refine jr_iload_n 3 47 dX0_redFrom_46 rfl rfl rfl ?_
    refine jr_mmax 50 dX0_redFrom_47 rfl ml_X0_17 (Nat.le_of_ble_eq_true rfl) ?_
    refine jr_ireturn dX0_redFrom_50 rfl rfl ?_
    exact h
  · refine jr_bipush (60) 2 dX0_redFrom_0 rfl rfl ?_
    refine jr_iconst (4) 3 dX0_redFrom_2 rfl rfl ?_
    refine jr_iload_n 0 4 dX0_redFrom_3 rfl rfl rfl ?_
    refine jr_iconst (4) 5 dX0_redFrom_4 rfl rfl ?_
    refine jr_icmp_ne 14 8 dX0_redFrom_5 rfl rfl (fun q5 => ?_) (fun q => absurd q (by decide))
    refine jr_iload_n 2 15 dX0_redFrom_14 rfl rfl rfl ?_
    refine jr_imul 16 dX0_redFrom_15 rfl ?_
    refine jr_isub 17 dX0_redFrom_16 rfl ?_
    refine jr_istore_n 3 (L' := [_, _, _, _]) 18 dX0_redFrom_17 rfl rfl (by decide) rfl ?_
    refine jr_iload_n 0 19 dX0_redFrom_18 rfl rfl rfl ?_
    refine jr_iconst (2) 20 dX0_redFrom_19 rfl rfl ?_
    refine cs_X0_13 23 dX0_redFrom_20 rfl rfl (Nat.le_of_ble_eq_true rfl) (wp_isAc (by decide) (r := 0) (by decide) ?_)
    refine jr_if_eq 33 26 dX0_redFrom_23 rfl rfl (fun q23 => ?_) (fun q => absurd (by decide) q)
    refine jr_iconst (1) 34 dX0_redFrom_33 rfl rfl ?_
    refine jr_iload_n 0 35 dX0_redFrom_34 rfl rfl rfl ?_
    refine jr_iconst (4) 36 dX0_redFrom_35 rfl rfl ?_
    refine jr_icmp_ne 46 39 dX0_redFrom_36 rfl rfl (fun q36 => ?_) (fun q => absurd q (by decide))
    refine jr_iload_n 3 47 dX0_redFrom_46 rfl rfl rfl ?_
    refine jr_mmax 50 dX0_redFrom_47 rfl ml_X0_17 (Nat.le_of_ble_eq_true rfl) ?_
    refine jr_ireturn dX0_redFrom_50 rfl rfl ?_
    exact h
  · refine jr_bipush (60) 2 dX0_redFrom_0 rfl rfl ?_
    refine jr_iconst (4) 3 dX0_redFrom_2 rfl rfl ?_
    refine jr_iload_n 0 4 dX0_redFrom_3 rfl rfl rfl ?_
    refine jr_iconst (4) 5 dX0_redFrom_4 rfl rfl ?_
    refine jr_icmp_ne 14 8 dX0_redFrom_5 rfl rfl (fun q => absurd (by decide) q) (fun q5 => ?_)
    refine jr_iload_n 2 9 dX0_redFrom_8 rfl rfl rfl ?_
    refine jr_iconst (2) 10 dX0_redFrom_9 rfl rfl ?_
    refine jr_idiv 11 dX0_redFrom_10 rfl (by decide) ?_
    refine jr_goto 15 dX0_redFrom_11 rfl ?_
    refine jr_imul 16 dX0_redFrom_15 rfl ?_
    refine jr_isub 17 dX0_redFrom_16 rfl ?_
    refine jr_istore_n 3 (L' := [_, _, _, _]) 18 dX0_redFrom_17 rfl rfl (by decide) rfl ?_
    refine jr_iload_n 0 19 dX0_redFrom_18 rfl rfl rfl ?_
    refine jr_iconst (2) 20 dX0_redFrom_19 rfl rfl ?_
    refine cs_X0_13 23 dX0_redFrom_20 rfl rfl (Nat.le_of_ble_eq_true rfl) (wp_isAc (by decide) (r := 1) (by decide) ?_)
    refine jr_if_eq 33 26 dX0_redFrom_23 rfl rfl (fun q => absurd q (by decide)) (fun q23 => ?_)
    refine jr_iload_n 3 27 dX0_redFrom_26 rfl rfl rfl ?_
    refine jr_bipush (10) 29 dX0_redFrom_27 rfl rfl ?_
    refine jr_iload_n 1 30 dX0_redFrom_29 rfl rfl rfl ?_
    refine jr_imul 31 dX0_redFrom_30 rfl ?_
    refine jr_iadd 32 dX0_redFrom_31 rfl ?_
    refine jr_istore_n 3 (L' := [_, _, _, _]) 33 dX0_redFrom_32 rfl rfl (by decide) rfl ?_
    refine jr_iconst (1) 34 dX0_redFrom_33 rfl rfl ?_
    refine jr_iload_n 0 35 dX0_redFrom_34 rfl rfl rfl ?_
    refine jr_iconst (4) 36 dX0_redFrom_35 rfl rfl ?_
    refine jr_icmp_ne 46 39 dX0_redFrom_36 rfl rfl (fun q => absurd (by decide) q) (fun q36 => ?_)
    refine jr_iload_n 3 40 dX0_redFrom_39 rfl rfl rfl ?_
    refine jr_bipush (20) 42 dX0_redFrom_40 rfl rfl ?_
    refine jr_iadd 43 dX0_redFrom_42 rfl ?_
    refine jr_goto 47 dX0_redFrom_43 rfl ?_
    refine jr_mmax 50 dX0_redFrom_47 rfl ml_X0_17 (Nat.le_of_ble_eq_true rfl) ?_
    refine jr_ireturn dX0_redFrom_50 rfl rfl ?_
    exact h
  · refine jr_bipush (60) 2 dX0_redFrom_0 rfl rfl ?_
    refine jr_iconst (4) 3 dX0_redFrom_2 rfl rfl ?_
    refine jr_iload_n 0 4 dX0_redFrom_3 rfl rfl rfl ?_
    refine jr_iconst (4) 5 dX0_redFrom_4 rfl rfl ?_
    refine jr_icmp_ne 14 8 dX0_redFrom_5 rfl rfl (fun q5 => ?_) (fun q => absurd q (by decide))
    refine jr_iload_n 2 15 dX0_redFrom_14 rfl rfl rfl ?_
    refine jr_imul 16 dX0_redFrom_15 rfl ?_
    refine jr_isub 17 dX0_redFrom_16 rfl ?_
    refine jr_istore_n 3 (L' := [_, _, _, _]) 18 dX0_redFrom_17 rfl rfl (by decide) rfl ?_
    refine jr_iload_n 0 19 dX0_redFrom_18 rfl rfl rfl ?_
    refine jr_iconst (2) 20 dX0_redFrom_19 rfl rfl ?_
    refine cs_X0_13 23 dX0_redFrom_20 rfl rfl (Nat.le_of_ble_eq_true rfl) (wp_isAc (by decide) (r := 0) (by decide) ?_)
    refine jr_if_eq 33 26 dX0_redFrom_23 rfl rfl (fun q23 => ?_) (fun q => absurd (by decide) q)
    refine jr_iconst (1) 34 dX0_redFrom_33 rfl rfl ?_
    refine jr_iload_n 0 35 dX0_redFrom_34 rfl rfl rfl ?_
    refine jr_iconst (4) 36 dX0_redFrom_35 rfl rfl ?_
    refine jr_icmp_ne 46 39 dX0_redFrom_36 rfl rfl (fun q36 => ?_) (fun q => absurd q (by decide))
    refine jr_iload_n 3 47 dX0_redFrom_46 rfl rfl rfl ?_
    refine jr_mmax 50 dX0_redFrom_47 rfl ml_X0_17 (Nat.le_of_ble_eq_true rfl) ?_
    refine jr_ireturn dX0_redFrom_50 rfl rfl ?_
    exact h
def pu_nm (wm gl li se sn mo : Int32) : Nat → Int32 := fun j => match j with
  | 0 => wm
  | 1 => gl
  | 2 => li
  | 3 => se
  | 4 => sn
  | _ => mo
theorem wp_tell {G : jr_G} {d : Nat} {σ : jr_Sg} {k : jr_Sg → Prop} {wm li se sn : Int32} (h : k (jr_up (jr_up (jr_up (jr_up σ 11 0 wm) 11 2 li) 11 3 se) 11 4 sn)) : jr_M G d mi_X1_tell [.ref 10, .int wm, .int li, .int se, .int sn] σ (jr_kv k) := by
  refine jr_enter (L := [some (.ref 10), some (.int wm), some (.int li), some (.int se), some (.int sn)]) (by decide) (Nat.le_of_ble_eq_true rfl) rfl ?_
  refine jr_aload_n 0 1 dX1_tell_0 rfl rfl rfl ?_
  refine gf_X1_9 4 dX1_tell_1 rfl rfl rfl rfl ?_
  refine jr_iconst (0) 5 dX1_tell_4 rfl rfl ?_
  refine jr_iload_n 1 6 dX1_tell_5 rfl rfl rfl ?_
  refine jr_iast rfl (k := 0) rfl (by decide) 7 dX1_tell_6 rfl ?_
  refine jr_aload_n 0 8 dX1_tell_7 rfl rfl rfl ?_
  refine gf_X1_9 11 dX1_tell_8 rfl rfl rfl rfl ?_
  refine jr_iconst (2) 12 dX1_tell_11 rfl rfl ?_
  refine jr_iload_n 2 13 dX1_tell_12 rfl rfl rfl ?_
  refine jr_iast rfl (k := 2) rfl (by decide) 14 dX1_tell_13 rfl ?_
  refine jr_aload_n 0 15 dX1_tell_14 rfl rfl rfl ?_
  refine gf_X1_9 18 dX1_tell_15 rfl rfl rfl rfl ?_
  refine jr_iconst (3) 19 dX1_tell_18 rfl rfl ?_
  refine jr_iload_n 3 20 dX1_tell_19 rfl rfl rfl ?_
  refine jr_iast rfl (k := 3) rfl (by decide) 21 dX1_tell_20 rfl ?_
  refine jr_aload_n 0 22 dX1_tell_21 rfl rfl rfl ?_
  refine gf_X1_9 25 dX1_tell_22 rfl rfl rfl rfl ?_
  refine jr_iconst (4) 26 dX1_tell_25 rfl rfl ?_
  refine jr_iload 28 dX1_tell_26 rfl rfl ?_
  refine jr_iast rfl (k := 4) rfl (by decide) 29 dX1_tell_28 rfl ?_
  refine jr_return dX1_tell_29 rfl ?_
  exact h
theorem wp_tellLooks {G : jr_G} {d : Nat} {σ : jr_Sg} {k : jr_Sg → Prop} {gl mo : Int32} (h : k (jr_up (jr_up σ 11 1 gl) 11 5 mo)) : jr_M G d mi_X1_tellLooks [.ref 10, .int gl, .int mo] σ (jr_kv k) := by
  refine jr_enter (L := [some (.ref 10), some (.int gl), some (.int mo)]) (by decide) (Nat.le_of_ble_eq_true rfl) rfl ?_
  refine jr_aload_n 0 1 dX1_tellLooks_0 rfl rfl rfl ?_
  refine gf_X1_9 4 dX1_tellLooks_1 rfl rfl rfl rfl ?_
  refine jr_iconst (1) 5 dX1_tellLooks_4 rfl rfl ?_
  refine jr_iload_n 1 6 dX1_tellLooks_5 rfl rfl rfl ?_
  refine jr_iast rfl (k := 1) rfl (by decide) 7 dX1_tellLooks_6 rfl ?_
  refine jr_aload_n 0 8 dX1_tellLooks_7 rfl rfl rfl ?_
  refine gf_X1_9 11 dX1_tellLooks_8 rfl rfl rfl rfl ?_
  refine jr_iconst (5) 12 dX1_tellLooks_11 rfl rfl ?_
  refine jr_iload_n 2 13 dX1_tellLooks_12 rfl rfl rfl ?_
  refine jr_iast rfl (k := 5) rfl (by decide) 14 dX1_tellLooks_13 rfl ?_
  refine jr_return dX1_tellLooks_14 rfl ?_
  exact h
theorem wp_isDoing {G : jr_G} {d : Nat} {σ : jr_Sg} {k : Value → jr_Sg → Prop} {f x t n : Int32} (h1 : pu_do (σ 7 0) (σ 7 1) (σ 7 2) f x t n → k (.int 1) σ) (h0 : ¬ pu_do (σ 7 0) (σ 7 1) (σ 7 2) f x t n → k (.int 0) σ) : jr_M G d mi_X7_isDoing [.ref 7, .int f, .int x, .int t, .int n] σ (jr_k k) := by
  refine jr_enter (L := [some (.ref 7), some (.int f), some (.int x), some (.int t), some (.int n)]) (by decide) (Nat.le_of_ble_eq_true rfl) rfl ?_
  refine jr_iload_n 1 1 dX7_isDoing_0 rfl rfl rfl ?_
  refine jr_aload_n 0 2 dX7_isDoing_1 rfl rfl rfl ?_
  refine gf_X7_9 5 dX7_isDoing_2 rfl rfl rfl rfl ?_
  refine jr_icmp_ne 39 8 dX7_isDoing_5 rfl rfl (fun q5 => ?_) (fun q5 => ?_)
  · refine jr_iconst (0) 40 dX7_isDoing_39 rfl rfl ?_
    refine jr_ireturn dX7_isDoing_40 rfl rfl ?_
    exact h0 (by unfold pu_do; grind)
  · refine jr_iload_n 2 9 dX7_isDoing_8 rfl rfl rfl ?_
    refine jr_aload_n 0 10 dX7_isDoing_9 rfl rfl rfl ?_
    refine gf_X7_15 13 dX7_isDoing_10 rfl rfl rfl rfl ?_
    refine jr_icmp_ne 39 16 dX7_isDoing_13 rfl rfl (fun q13 => ?_) (fun q13 => ?_)
    · refine jr_iconst (0) 40 dX7_isDoing_39 rfl rfl ?_
      refine jr_ireturn dX7_isDoing_40 rfl rfl ?_
      exact h0 (by unfold pu_do; grind)
    · refine jr_iload_n 3 17 dX7_isDoing_16 rfl rfl rfl ?_
      refine jr_aload_n 0 18 dX7_isDoing_17 rfl rfl rfl ?_
      refine gf_X7_18 21 dX7_isDoing_18 rfl rfl rfl rfl ?_
      refine jr_icmp_lt 39 24 dX7_isDoing_21 rfl rfl (fun q21 => ?_) (fun q21 => ?_)
      · refine jr_iconst (0) 40 dX7_isDoing_39 rfl rfl ?_
        refine jr_ireturn dX7_isDoing_40 rfl rfl ?_
        exact h0 (by unfold pu_do; grind)
      · refine jr_iload_n 3 25 dX7_isDoing_24 rfl rfl rfl ?_
        refine jr_aload_n 0 26 dX7_isDoing_25 rfl rfl rfl ?_
        refine gf_X7_18 29 dX7_isDoing_26 rfl rfl rfl rfl ?_
        refine jr_iload 31 dX7_isDoing_29 rfl rfl ?_
        refine jr_iadd 32 dX7_isDoing_31 rfl ?_
        refine jr_icmp_ge 39 35 dX7_isDoing_32 rfl rfl (fun q32 => ?_) (fun q32 => ?_)
        · refine jr_iconst (0) 40 dX7_isDoing_39 rfl rfl ?_
          refine jr_ireturn dX7_isDoing_40 rfl rfl ?_
          exact h0 (by unfold pu_do; grind)
        · refine jr_iconst (1) 36 dX7_isDoing_35 rfl rfl ?_
          refine jr_goto 40 dX7_isDoing_36 rfl ?_
          refine jr_ireturn dX7_isDoing_40 rfl rfl ?_
          exact h1 (by unfold pu_do; grind)
theorem wp_hides {G : jr_G} {d : Nat} {σ : jr_Sg} {k : Value → jr_Sg → Prop} {f t : Int32} (h1 : pu_do (σ 7 0) (σ 7 1) (σ 7 2) f 0 t 10 → k (.int 1) σ) (h0 : ¬ pu_do (σ 7 0) (σ 7 1) (σ 7 2) f 0 t 10 → k (.int 0) σ) : jr_M G (d + 1) mi_X7_hides [.ref 7, .int f, .int t] σ (jr_k k) := by
  refine jr_enter (L := [some (.ref 7), some (.int f), some (.int t)]) (by decide) (Nat.le_of_ble_eq_true rfl) rfl ?_
  refine jr_aload_n 0 1 dX7_hides_0 rfl rfl rfl ?_
  refine jr_iload_n 1 2 dX7_hides_1 rfl rfl rfl ?_
  refine jr_iconst (0) 3 dX7_hides_2 rfl rfl ?_
  refine jr_iload_n 2 4 dX7_hides_3 rfl rfl rfl ?_
  refine jr_bipush (10) 6 dX7_hides_4 rfl rfl ?_
  refine cs_X7_49 9 dX7_hides_6 rfl rfl rfl (Nat.le_of_ble_eq_true rfl) (wp_isDoing (fun q6 => ?_) (fun q6 => ?_))
  · refine jr_ireturn dX7_hides_9 rfl rfl ?_
    exact h1 q6
  · refine jr_ireturn dX7_hides_9 rfl rfl ?_
    exact h0 q6
theorem wp_isBlind {G : jr_G} {d : Nat} {σ : jr_Sg} {k : Value → jr_Sg → Prop} {x f : Int32} (h1 : (x = σ 7 3 ∧ (σ 7 4 = 5 ∨ σ 7 4 = f)) → k (.int 1) σ) (h0 : ¬ (x = σ 7 3 ∧ (σ 7 4 = 5 ∨ σ 7 4 = f)) → k (.int 0) σ) : jr_M G d mi_X7_isBlind [.ref 7, .int x, .int f] σ (jr_k k) := by
  refine jr_enter (L := [some (.ref 7), some (.int x), some (.int f)]) (by decide) (Nat.le_of_ble_eq_true rfl) rfl ?_
  refine jr_iload_n 1 1 dX7_isBlind_0 rfl rfl rfl ?_
  refine jr_aload_n 0 2 dX7_isBlind_1 rfl rfl rfl ?_
  refine gf_X7_21 5 dX7_isBlind_2 rfl rfl rfl rfl ?_
  refine jr_icmp_ne 28 8 dX7_isBlind_5 rfl rfl (fun q5 => ?_) (fun q5 => ?_)
  · refine jr_iconst (0) 29 dX7_isBlind_28 rfl rfl ?_
    refine jr_ireturn dX7_isBlind_29 rfl rfl ?_
    exact h0 (by grind)
  · refine jr_aload_n 0 9 dX7_isBlind_8 rfl rfl rfl ?_
    refine gf_X7_24 12 dX7_isBlind_9 rfl rfl rfl rfl ?_
    refine jr_iconst (5) 13 dX7_isBlind_12 rfl rfl ?_
    refine jr_icmp_eq 24 16 dX7_isBlind_13 rfl rfl (fun q13 => ?_) (fun q13 => ?_)
    · refine jr_iconst (1) 25 dX7_isBlind_24 rfl rfl ?_
      refine jr_goto 29 dX7_isBlind_25 rfl ?_
      refine jr_ireturn dX7_isBlind_29 rfl rfl ?_
      exact h1 (by grind)
    · refine jr_aload_n 0 17 dX7_isBlind_16 rfl rfl rfl ?_
      refine gf_X7_24 20 dX7_isBlind_17 rfl rfl rfl rfl ?_
      refine jr_iload_n 2 21 dX7_isBlind_20 rfl rfl rfl ?_
      refine jr_icmp_ne 28 24 dX7_isBlind_21 rfl rfl (fun q21 => ?_) (fun q21 => ?_)
      · refine jr_iconst (0) 29 dX7_isBlind_28 rfl rfl ?_
        refine jr_ireturn dX7_isBlind_29 rfl rfl ?_
        exact h0 (by grind)
      · refine jr_iconst (1) 25 dX7_isBlind_24 rfl rfl ?_
        refine jr_goto 29 dX7_isBlind_25 rfl ?_
        refine jr_ireturn dX7_isBlind_29 rfl rfl ?_
        exact h1 (by grind)
noncomputable def pu_if (p : Prop) (a b : Int32) : Int32 := @ite Int32 p (Classical.propDecidable p) a b
theorem pu_if_t {p : Prop} {a b : Int32} (h : p) : pu_if p a b = a := by unfold pu_if; rw [if_pos h]
theorem pu_if_f {p : Prop} {a b : Int32} (h : ¬ p) : pu_if p a b = b := by unfold pu_if; rw [if_neg h]
noncomputable def pu_wso (s0 s1 s2 f t much mo : Int32) : Int32 := pu_if (pu_do s0 s1 s2 f 2 t 40) (much / 2) (pu_if (pu_do s0 s1 s2 f 3 t 10) (pu_max 0 (much - 2 * mo)) much)
noncomputable def pu_cso (s0 s1 s2 f t much : Int32) : Int32 := pu_if (pu_do s0 s1 s2 f 1 t 5) (much + 15) much
noncomputable def pu_cau (s0 s1 s2 f t much : Int32) : Int32 := pu_if (pu_do s0 s1 s2 f 2 t 1) (much + 30) much
theorem wp_warmsSo {G : jr_G} {d : Nat} {σ : jr_Sg} {k : Value → jr_Sg → Prop} {f t much mo : Int32} (h : k (.int (pu_wso (σ 7 0) (σ 7 1) (σ 7 2) f t much mo)) σ) : jr_M G (d + 1) mi_X7_warmsSo [.ref 7, .int f, .int t, .int much, .int mo] σ (jr_k k) := by
  refine jr_enter (L := [some (.ref 7), some (.int f), some (.int t), some (.int much), some (.int mo)]) (by decide) (Nat.le_of_ble_eq_true rfl) rfl ?_
  refine jr_aload_n 0 1 dX7_warmsSo_0 rfl rfl rfl ?_
  refine jr_iload_n 1 2 dX7_warmsSo_1 rfl rfl rfl ?_
  refine jr_iconst (2) 3 dX7_warmsSo_2 rfl rfl ?_
  refine jr_iload_n 2 4 dX7_warmsSo_3 rfl rfl rfl ?_
  refine jr_bipush (40) 6 dX7_warmsSo_4 rfl rfl ?_
  refine cs_X7_49 9 dX7_warmsSo_6 rfl rfl rfl (Nat.le_of_ble_eq_true rfl) (wp_isDoing (fun q6 => ?_) (fun q6 => ?_))
  · refine jr_if_eq 16 12 dX7_warmsSo_9 rfl rfl (fun q => absurd q (by decide)) (fun q9 => ?_)
    refine jr_iload_n 3 13 dX7_warmsSo_12 rfl rfl rfl ?_
    refine jr_iconst (2) 14 dX7_warmsSo_13 rfl rfl ?_
    refine jr_idiv 15 dX7_warmsSo_14 rfl (by decide) ?_
    refine jr_ireturn dX7_warmsSo_15 rfl rfl ?_
    exact jr_eqk (by simp only [pu_wso]; first | rw [pu_if_t q6] | (rw [pu_if_f q6]; first | rw [pu_if_t q22] | rw [pu_if_f q22])) h
  · refine jr_if_eq 16 12 dX7_warmsSo_9 rfl rfl (fun q9 => ?_) (fun q => absurd (by decide) q)
    refine jr_aload_n 0 17 dX7_warmsSo_16 rfl rfl rfl ?_
    refine jr_iload_n 1 18 dX7_warmsSo_17 rfl rfl rfl ?_
    refine jr_iconst (3) 19 dX7_warmsSo_18 rfl rfl ?_
    refine jr_iload_n 2 20 dX7_warmsSo_19 rfl rfl rfl ?_
    refine jr_bipush (10) 22 dX7_warmsSo_20 rfl rfl ?_
    refine cs_X7_49 25 dX7_warmsSo_22 rfl rfl rfl (Nat.le_of_ble_eq_true rfl) (wp_isDoing (fun q22 => ?_) (fun q22 => ?_))
    · refine jr_if_eq 41 28 dX7_warmsSo_25 rfl rfl (fun q => absurd q (by decide)) (fun q25 => ?_)
      refine jr_iconst (0) 29 dX7_warmsSo_28 rfl rfl ?_
      refine jr_iload_n 3 30 dX7_warmsSo_29 rfl rfl rfl ?_
      refine jr_iconst (2) 31 dX7_warmsSo_30 rfl rfl ?_
      refine jr_iload 33 dX7_warmsSo_31 rfl rfl ?_
      refine jr_imul 34 dX7_warmsSo_33 rfl ?_
      refine jr_isub 35 dX7_warmsSo_34 rfl ?_
      refine jr_mmax 38 dX7_warmsSo_35 rfl ml_X7_53 (Nat.le_of_ble_eq_true rfl) ?_
      refine jr_goto 42 dX7_warmsSo_38 rfl ?_
      refine jr_ireturn dX7_warmsSo_42 rfl rfl ?_
      exact jr_eqk (by simp only [pu_wso]; first | rw [pu_if_t q6] | (rw [pu_if_f q6]; first | rw [pu_if_t q22] | rw [pu_if_f q22])) h
    · refine jr_if_eq 41 28 dX7_warmsSo_25 rfl rfl (fun q25 => ?_) (fun q => absurd (by decide) q)
      refine jr_iload_n 3 42 dX7_warmsSo_41 rfl rfl rfl ?_
      refine jr_ireturn dX7_warmsSo_42 rfl rfl ?_
      exact jr_eqk (by simp only [pu_wso]; first | rw [pu_if_t q6] | (rw [pu_if_f q6]; first | rw [pu_if_t q22] | rw [pu_if_f q22])) h
theorem wp_coolsSo {G : jr_G} {d : Nat} {σ : jr_Sg} {k : Value → jr_Sg → Prop} {f t much : Int32} (h : k (.int (pu_cso (σ 7 0) (σ 7 1) (σ 7 2) f t much)) σ) : jr_M G (d + 1) mi_X7_coolsSo [.ref 7, .int f, .int t, .int much] σ (jr_k k) := by
  refine jr_enter (L := [some (.ref 7), some (.int f), some (.int t), some (.int much)]) (by decide) (Nat.le_of_ble_eq_true rfl) rfl ?_
  refine jr_aload_n 0 1 dX7_coolsSo_0 rfl rfl rfl ?_
  refine jr_iload_n 1 2 dX7_coolsSo_1 rfl rfl rfl ?_
  refine jr_iconst (1) 3 dX7_coolsSo_2 rfl rfl ?_
  refine jr_iload_n 2 4 dX7_coolsSo_3 rfl rfl rfl ?_
  refine jr_iconst (5) 5 dX7_coolsSo_4 rfl rfl ?_
  refine cs_X7_49 8 dX7_coolsSo_5 rfl rfl rfl (Nat.le_of_ble_eq_true rfl) (wp_isDoing (fun q5 => ?_) (fun q5 => ?_))
  · refine jr_if_eq 18 11 dX7_coolsSo_8 rfl rfl (fun q => absurd q (by decide)) (fun q8 => ?_)
    refine jr_iload_n 3 12 dX7_coolsSo_11 rfl rfl rfl ?_
    refine jr_bipush (15) 14 dX7_coolsSo_12 rfl rfl ?_
    refine jr_iadd 15 dX7_coolsSo_14 rfl ?_
    refine jr_goto 19 dX7_coolsSo_15 rfl ?_
    refine jr_ireturn dX7_coolsSo_19 rfl rfl ?_
    exact jr_eqk (by simp only [pu_cso]; first | rw [pu_if_t q5] | rw [pu_if_f q5]) h
  · refine jr_if_eq 18 11 dX7_coolsSo_8 rfl rfl (fun q8 => ?_) (fun q => absurd (by decide) q)
    refine jr_iload_n 3 19 dX7_coolsSo_18 rfl rfl rfl ?_
    refine jr_ireturn dX7_coolsSo_19 rfl rfl ?_
    exact jr_eqk (by simp only [pu_cso]; first | rw [pu_if_t q5] | rw [pu_if_f q5]) h
theorem wp_tcaused {G : jr_G} {d : Nat} {σ : jr_Sg} {k : Value → jr_Sg → Prop} {f t : Int32} (h : k (.int (pu_cau (σ 7 0) (σ 7 1) (σ 7 2) f t (pu_if (f = σ 7 5 ∧ t = σ 7 6) (σ 7 7) 0))) σ) : jr_M G (d + 1) mi_X7_causedTo [.ref 7, .int f, .int t] σ (jr_k k) := by
  refine jr_enter (L := [some (.ref 7), some (.int f), some (.int t), none]) (by decide) (Nat.le_of_ble_eq_true rfl) rfl ?_
  refine jr_iload_n 1 1 dX7_causedTo_0 rfl rfl rfl ?_
  refine jr_aload_n 0 2 dX7_causedTo_1 rfl rfl rfl ?_
  refine gf_X7_27 5 dX7_causedTo_2 rfl rfl rfl rfl ?_
  refine jr_icmp_ne 23 8 dX7_causedTo_5 rfl rfl (fun q5 => ?_) (fun q5 => ?_)
  · refine jr_iconst (0) 24 dX7_causedTo_23 rfl rfl ?_
    refine jr_istore_n 3 (L' := [_, _, _, _]) 25 dX7_causedTo_24 rfl rfl (by decide) rfl ?_
    refine jr_aload_n 0 26 dX7_causedTo_25 rfl rfl rfl ?_
    refine jr_iload_n 1 27 dX7_causedTo_26 rfl rfl rfl ?_
    refine jr_iconst (2) 28 dX7_causedTo_27 rfl rfl ?_
    refine jr_iload_n 2 29 dX7_causedTo_28 rfl rfl rfl ?_
    refine jr_iconst (1) 30 dX7_causedTo_29 rfl rfl ?_
    refine cs_X7_49 33 dX7_causedTo_30 rfl rfl rfl (Nat.le_of_ble_eq_true rfl) (wp_isDoing (fun q30 => ?_) (fun q30 => ?_))
    · refine jr_if_eq 43 36 dX7_causedTo_33 rfl rfl (fun q => absurd q (by decide)) (fun q33 => ?_)
      refine jr_iload_n 3 37 dX7_causedTo_36 rfl rfl rfl ?_
      refine jr_bipush (30) 39 dX7_causedTo_37 rfl rfl ?_
      refine jr_iadd 40 dX7_causedTo_39 rfl ?_
      refine jr_goto 44 dX7_causedTo_40 rfl ?_
      refine jr_ireturn dX7_causedTo_44 rfl rfl ?_
      exact jr_eqk (by simp only [pu_cau]; first | (rw [pu_if_t q30]; first | rw [pu_if_t (by grind)] | rw [pu_if_f (by grind)]) | (rw [pu_if_f q30]; first | rw [pu_if_t (by grind)] | rw [pu_if_f (by grind)])) h
    · refine jr_if_eq 43 36 dX7_causedTo_33 rfl rfl (fun q33 => ?_) (fun q => absurd (by decide) q)
      refine jr_iload_n 3 44 dX7_causedTo_43 rfl rfl rfl ?_
      refine jr_ireturn dX7_causedTo_44 rfl rfl ?_
      exact jr_eqk (by simp only [pu_cau]; first | (rw [pu_if_t q30]; first | rw [pu_if_t (by grind)] | rw [pu_if_f (by grind)]) | (rw [pu_if_f q30]; first | rw [pu_if_t (by grind)] | rw [pu_if_f (by grind)])) h
  · refine jr_iload_n 2 9 dX7_causedTo_8 rfl rfl rfl ?_
    refine jr_aload_n 0 10 dX7_causedTo_9 rfl rfl rfl ?_
    refine gf_X7_30 13 dX7_causedTo_10 rfl rfl rfl rfl ?_
    refine jr_icmp_ne 23 16 dX7_causedTo_13 rfl rfl (fun q13 => ?_) (fun q13 => ?_)
    · refine jr_iconst (0) 24 dX7_causedTo_23 rfl rfl ?_
      refine jr_istore_n 3 (L' := [_, _, _, _]) 25 dX7_causedTo_24 rfl rfl (by decide) rfl ?_
      refine jr_aload_n 0 26 dX7_causedTo_25 rfl rfl rfl ?_
      refine jr_iload_n 1 27 dX7_causedTo_26 rfl rfl rfl ?_
      refine jr_iconst (2) 28 dX7_causedTo_27 rfl rfl ?_
      refine jr_iload_n 2 29 dX7_causedTo_28 rfl rfl rfl ?_
      refine jr_iconst (1) 30 dX7_causedTo_29 rfl rfl ?_
      refine cs_X7_49 33 dX7_causedTo_30 rfl rfl rfl (Nat.le_of_ble_eq_true rfl) (wp_isDoing (fun q30 => ?_) (fun q30 => ?_))
      · refine jr_if_eq 43 36 dX7_causedTo_33 rfl rfl (fun q => absurd q (by decide)) (fun q33 => ?_)
        refine jr_iload_n 3 37 dX7_causedTo_36 rfl rfl rfl ?_
        refine jr_bipush (30) 39 dX7_causedTo_37 rfl rfl ?_
        refine jr_iadd 40 dX7_causedTo_39 rfl ?_
        refine jr_goto 44 dX7_causedTo_40 rfl ?_
        refine jr_ireturn dX7_causedTo_44 rfl rfl ?_
        exact jr_eqk (by simp only [pu_cau]; first | (rw [pu_if_t q30]; first | rw [pu_if_t (by grind)] | rw [pu_if_f (by grind)]) | (rw [pu_if_f q30]; first | rw [pu_if_t (by grind)] | rw [pu_if_f (by grind)])) h
      · refine jr_if_eq 43 36 dX7_causedTo_33 rfl rfl (fun q33 => ?_) (fun q => absurd (by decide) q)
        refine jr_iload_n 3 44 dX7_causedTo_43 rfl rfl rfl ?_
        refine jr_ireturn dX7_causedTo_44 rfl rfl ?_
        exact jr_eqk (by simp only [pu_cau]; first | (rw [pu_if_t q30]; first | rw [pu_if_t (by grind)] | rw [pu_if_f (by grind)]) | (rw [pu_if_f q30]; first | rw [pu_if_t (by grind)] | rw [pu_if_f (by grind)])) h
    · refine jr_aload_n 0 17 dX7_causedTo_16 rfl rfl rfl ?_
      refine gf_X7_33 20 dX7_causedTo_17 rfl rfl rfl rfl ?_
      refine jr_goto 24 dX7_causedTo_20 rfl ?_
      refine jr_istore_n 3 (L' := [_, _, _, _]) 25 dX7_causedTo_24 rfl rfl (by decide) rfl ?_
      refine jr_aload_n 0 26 dX7_causedTo_25 rfl rfl rfl ?_
      refine jr_iload_n 1 27 dX7_causedTo_26 rfl rfl rfl ?_
      refine jr_iconst (2) 28 dX7_causedTo_27 rfl rfl ?_
      refine jr_iload_n 2 29 dX7_causedTo_28 rfl rfl rfl ?_
      refine jr_iconst (1) 30 dX7_causedTo_29 rfl rfl ?_
      refine cs_X7_49 33 dX7_causedTo_30 rfl rfl rfl (Nat.le_of_ble_eq_true rfl) (wp_isDoing (fun q30 => ?_) (fun q30 => ?_))
      · refine jr_if_eq 43 36 dX7_causedTo_33 rfl rfl (fun q => absurd q (by decide)) (fun q33 => ?_)
        refine jr_iload_n 3 37 dX7_causedTo_36 rfl rfl rfl ?_
        refine jr_bipush (30) 39 dX7_causedTo_37 rfl rfl ?_
        refine jr_iadd 40 dX7_causedTo_39 rfl ?_
        refine jr_goto 44 dX7_causedTo_40 rfl ?_
        refine jr_ireturn dX7_causedTo_44 rfl rfl ?_
        exact jr_eqk (by simp only [pu_cau]; first | (rw [pu_if_t q30]; first | rw [pu_if_t (by grind)] | rw [pu_if_f (by grind)]) | (rw [pu_if_f q30]; first | rw [pu_if_t (by grind)] | rw [pu_if_f (by grind)])) h
      · refine jr_if_eq 43 36 dX7_causedTo_33 rfl rfl (fun q33 => ?_) (fun q => absurd (by decide) q)
        refine jr_iload_n 3 44 dX7_causedTo_43 rfl rfl rfl ?_
        refine jr_ireturn dX7_causedTo_44 rfl rfl ?_
        exact jr_eqk (by simp only [pu_cau]; first | (rw [pu_if_t q30]; first | rw [pu_if_t (by grind)] | rw [pu_if_f (by grind)]) | (rw [pu_if_f q30]; first | rw [pu_if_t (by grind)] | rw [pu_if_f (by grind)])) h
theorem wp_drawnTo {G : jr_G} {d : Nat} {σ : jr_Sg} {k : Value → jr_Sg → Prop} {f : Nat} {t : Int32} (hf : f < 5) (h : k (.int (pu_if (σ 8 f = t) (σ 7 9) 0)) σ) : jr_M G d mi_X7_drawnTo [.ref 7, .int (nI f), .int t] σ (jr_k k) := by
  refine jr_enter (L := [some (.ref 7), some (.int (nI f)), some (.int t)]) (by decide) (Nat.le_of_ble_eq_true rfl) rfl ?_
  refine jr_iload_n 1 1 dX7_drawnTo_0 rfl rfl rfl ?_
  refine jr_if_lt 26 4 dX7_drawnTo_1 rfl rfl (fun q => absurd q (nI_pos (by omega))) (fun q1 => ?_)
  refine jr_iload_n 1 5 dX7_drawnTo_4 rfl rfl rfl ?_
  refine jr_iconst (5) 6 dX7_drawnTo_5 rfl rfl ?_
  refine jr_icmp_ge 26 9 dX7_drawnTo_6 rfl rfl (fun q => absurd q (nI_ge (b := 5) hf (by decide))) (fun q6 => ?_)
  refine jr_aload_n 0 10 dX7_drawnTo_9 rfl rfl rfl ?_
  refine gf_X7_36 13 dX7_drawnTo_10 rfl rfl rfl rfl ?_
  refine jr_iload_n 1 14 dX7_drawnTo_13 rfl rfl rfl ?_
  refine jr_iald rfl rfl hf 15 dX7_drawnTo_14 rfl ?_
  refine jr_iload_n 2 16 dX7_drawnTo_15 rfl rfl rfl ?_
  refine jr_icmp_ne 26 19 dX7_drawnTo_16 rfl rfl (fun q16 => ?_) (fun q16 => ?_)
  · refine jr_iconst (0) 27 dX7_drawnTo_26 rfl rfl ?_
    refine jr_ireturn dX7_drawnTo_27 rfl rfl ?_
    exact jr_eqk (by first | rw [pu_if_t (by grind)] | rw [pu_if_f (by grind)]) h
  · refine jr_aload_n 0 20 dX7_drawnTo_19 rfl rfl rfl ?_
    refine gf_X7_40 23 dX7_drawnTo_20 rfl rfl rfl rfl ?_
    refine jr_goto 27 dX7_drawnTo_23 rfl ?_
    refine jr_ireturn dX7_drawnTo_27 rfl rfl ?_
    exact jr_eqk (by first | rw [pu_if_t (by grind)] | rw [pu_if_f (by grind)]) h
theorem wp_clear {G : jr_G} {d : Nat} {σ : jr_Sg} {k : jr_Sg → Prop} (h : k (jr_up (jr_up (jr_up (jr_up σ 7 0 (-1)) 7 3 (-1)) 7 5 (-1)) 7 9 0)) : jr_M G d mi_X7_clear [.ref 7] σ (jr_kv k) := by
  refine jr_enter (L := [some (.ref 7)]) (by decide) (Nat.le_of_ble_eq_true rfl) rfl ?_
  refine jr_aload_n 0 1 dX7_clear_0 rfl rfl rfl ?_
  refine jr_iconst ((-1)) 2 dX7_clear_1 rfl rfl ?_
  refine pf_X7_9 5 dX7_clear_2 rfl rfl rfl rfl ?_
  refine jr_aload_n 0 6 dX7_clear_5 rfl rfl rfl ?_
  refine jr_iconst ((-1)) 7 dX7_clear_6 rfl rfl ?_
  refine pf_X7_21 10 dX7_clear_7 rfl rfl rfl rfl ?_
  refine jr_aload_n 0 11 dX7_clear_10 rfl rfl rfl ?_
  refine jr_iconst ((-1)) 12 dX7_clear_11 rfl rfl ?_
  refine pf_X7_27 15 dX7_clear_12 rfl rfl rfl rfl ?_
  refine jr_aload_n 0 16 dX7_clear_15 rfl rfl rfl ?_
  refine jr_iconst (0) 17 dX7_clear_16 rfl rfl ?_
  refine pf_X7_40 20 dX7_clear_17 rfl rfl rfl rfl ?_
  refine jr_return dX7_clear_20 rfl ?_
  exact h
theorem wp_stop {G : jr_G} {d : Nat} {σ : jr_Sg} {k : jr_Sg → Prop} {a b c : Int32} (h : k (jr_up (jr_up (jr_up σ 7 0 a) 7 1 b) 7 2 c)) : jr_M G d mi_X7_stop [.ref 7, .int a, .int b, .int c] σ (jr_kv k) := by
  refine jr_enter (L := [some (.ref 7), some (.int a), some (.int b), some (.int c)]) (by decide) (Nat.le_of_ble_eq_true rfl) rfl ?_
  refine jr_aload_n 0 1 dX7_stop_0 rfl rfl rfl ?_
  refine jr_iload_n 1 2 dX7_stop_1 rfl rfl rfl ?_
  refine pf_X7_9 5 dX7_stop_2 rfl rfl rfl rfl ?_
  refine jr_aload_n 0 6 dX7_stop_5 rfl rfl rfl ?_
  refine jr_iload_n 2 7 dX7_stop_6 rfl rfl rfl ?_
  refine pf_X7_15 10 dX7_stop_7 rfl rfl rfl rfl ?_
  refine jr_aload_n 0 11 dX7_stop_10 rfl rfl rfl ?_
  refine jr_iload_n 3 12 dX7_stop_11 rfl rfl rfl ?_
  refine pf_X7_18 15 dX7_stop_12 rfl rfl rfl rfl ?_
  refine jr_return dX7_stop_15 rfl ?_
  exact h
theorem wp_blind {G : jr_G} {d : Nat} {σ : jr_Sg} {k : jr_Sg → Prop} {a b : Int32} (h : k (jr_up (jr_up σ 7 3 a) 7 4 b)) : jr_M G d mi_X7_blind [.ref 7, .int a, .int b] σ (jr_kv k) := by
  refine jr_enter (L := [some (.ref 7), some (.int a), some (.int b)]) (by decide) (Nat.le_of_ble_eq_true rfl) rfl ?_
  refine jr_aload_n 0 1 dX7_blind_0 rfl rfl rfl ?_
  refine jr_iload_n 1 2 dX7_blind_1 rfl rfl rfl ?_
  refine pf_X7_21 5 dX7_blind_2 rfl rfl rfl rfl ?_
  refine jr_aload_n 0 6 dX7_blind_5 rfl rfl rfl ?_
  refine jr_iload_n 2 7 dX7_blind_6 rfl rfl rfl ?_
  refine pf_X7_24 10 dX7_blind_7 rfl rfl rfl rfl ?_
  refine jr_return dX7_blind_10 rfl ?_
  exact h
theorem wp_addCause {G : jr_G} {d : Nat} {σ : jr_Sg} {k : jr_Sg → Prop} {a b c : Int32} (h : k (jr_up (jr_up (jr_up σ 7 5 a) 7 6 b) 7 7 c)) : jr_M G d mi_X7_addCause [.ref 7, .int a, .int b, .int c] σ (jr_kv k) := by
  refine jr_enter (L := [some (.ref 7), some (.int a), some (.int b), some (.int c)]) (by decide) (Nat.le_of_ble_eq_true rfl) rfl ?_
  refine jr_aload_n 0 1 dX7_addCause_0 rfl rfl rfl ?_
  refine jr_iload_n 1 2 dX7_addCause_1 rfl rfl rfl ?_
  refine pf_X7_27 5 dX7_addCause_2 rfl rfl rfl rfl ?_
  refine jr_aload_n 0 6 dX7_addCause_5 rfl rfl rfl ?_
  refine jr_iload_n 2 7 dX7_addCause_6 rfl rfl rfl ?_
  refine pf_X7_30 10 dX7_addCause_7 rfl rfl rfl rfl ?_
  refine jr_aload_n 0 11 dX7_addCause_10 rfl rfl rfl ?_
  refine jr_iload_n 3 12 dX7_addCause_11 rfl rfl rfl ?_
  refine pf_X7_33 15 dX7_addCause_12 rfl rfl rfl rfl ?_
  refine jr_return dX7_addCause_15 rfl ?_
  exact h
