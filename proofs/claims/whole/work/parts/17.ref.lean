theorem wp_isStopping {G : jr_G} {d : Nat} {σ : jr_Sg} {k : Value → jr_Sg → Prop} {f x t n : Int32} (h1 : pu_do (σ 46 39) (σ 46 40) (σ 46 41) f x t n → k (.int 1) σ) (h0 : ¬ pu_do (σ 46 39) (σ 46 40) (σ 46 41) f x t n → k (.int 0) σ) : jr_M G d mi_X10_isStopping [.ref 46, .int f, .int x, .int t, .int n] σ (jr_k k) := by
  refine jr_enter (L := [some (.ref 46), some (.int f), some (.int x), some (.int t), some (.int n)]) (by decide) (Nat.le_of_ble_eq_true rfl) rfl ?_
  refine jr_iload_n 1 1 dX10_isStopping_0 rfl rfl rfl ?_
  refine jr_aload_n 0 2 dX10_isStopping_1 rfl rfl rfl ?_
  refine gf_X10_79 5 dX10_isStopping_2 rfl rfl rfl rfl ?_
  refine jr_icmp_ne 39 8 dX10_isStopping_5 rfl rfl (fun q5 => ?_) (fun q5 => ?_)
  · refine jr_iconst (0) 40 dX10_isStopping_39 rfl rfl ?_
    refine jr_ireturn dX10_isStopping_40 rfl rfl ?_
    exact h0 (by unfold pu_do; grind)
  · refine jr_iload_n 2 9 dX10_isStopping_8 rfl rfl rfl ?_
    refine jr_aload_n 0 10 dX10_isStopping_9 rfl rfl rfl ?_
    refine gf_X10_213 13 dX10_isStopping_10 rfl rfl rfl rfl ?_
    refine jr_icmp_ne 39 16 dX10_isStopping_13 rfl rfl (fun q13 => ?_) (fun q13 => ?_)
    · refine jr_iconst (0) 40 dX10_isStopping_39 rfl rfl ?_
      refine jr_ireturn dX10_isStopping_40 rfl rfl ?_
      exact h0 (by unfold pu_do; grind)
    · refine jr_iload_n 3 17 dX10_isStopping_16 rfl rfl rfl ?_
      refine jr_aload_n 0 18 dX10_isStopping_17 rfl rfl rfl ?_
      refine gf_X10_216 21 dX10_isStopping_18 rfl rfl rfl rfl ?_
      refine jr_icmp_lt 39 24 dX10_isStopping_21 rfl rfl (fun q21 => ?_) (fun q21 => ?_)
      · refine jr_iconst (0) 40 dX10_isStopping_39 rfl rfl ?_
        refine jr_ireturn dX10_isStopping_40 rfl rfl ?_
        exact h0 (by unfold pu_do; grind)
      · refine jr_iload_n 3 25 dX10_isStopping_24 rfl rfl rfl ?_
        refine jr_aload_n 0 26 dX10_isStopping_25 rfl rfl rfl ?_
        refine gf_X10_216 29 dX10_isStopping_26 rfl rfl rfl rfl ?_
        refine jr_iload 31 dX10_isStopping_29 rfl rfl ?_
        refine jr_iadd 32 dX10_isStopping_31 rfl ?_
        refine jr_icmp_ge 39 35 dX10_isStopping_32 rfl rfl (fun q32 => ?_) (fun q32 => ?_)
        · refine jr_iconst (0) 40 dX10_isStopping_39 rfl rfl ?_
          refine jr_ireturn dX10_isStopping_40 rfl rfl ?_
          exact h0 (by unfold pu_do; grind)
        · refine jr_iconst (1) 36 dX10_isStopping_35 rfl rfl ?_
          refine jr_goto 40 dX10_isStopping_36 rfl ?_
          refine jr_ireturn dX10_isStopping_40 rfl rfl ?_
          exact h1 (by unfold pu_do; grind)
theorem wp_couldLook {G : jr_G} {d : Nat} {σ : jr_Sg} {k : Value → jr_Sg → Prop} {x f t : Int32} (h1 : (¬ x = f ∧ ¬ (x = σ 46 42 ∧ (σ 46 43 = -2 ∨ σ 46 43 = f)) ∧ ¬ pu_do (σ 46 39) (σ 46 40) (σ 46 41) f 0 t 10) → k (.int 1) σ) (h0 : ¬ (¬ x = f ∧ ¬ (x = σ 46 42 ∧ (σ 46 43 = -2 ∨ σ 46 43 = f)) ∧ ¬ pu_do (σ 46 39) (σ 46 40) (σ 46 41) f 0 t 10) → k (.int 0) σ) : jr_M G (d + 1) mi_X10_couldLook [.ref 46, .int x, .int f, .int t] σ (jr_k k) := by
  refine jr_enter (L := [some (.ref 46), some (.int x), some (.int f), some (.int t)]) (by decide) (Nat.le_of_ble_eq_true rfl) rfl ?_
  refine jr_iload_n 1 1 dX10_couldLook_0 rfl rfl rfl ?_
  refine jr_iload_n 2 2 dX10_couldLook_1 rfl rfl rfl ?_
  refine jr_icmp_eq 46 5 dX10_couldLook_2 rfl rfl (fun q2 => ?_) (fun q2 => ?_)
  · refine jr_iconst (0) 47 dX10_couldLook_46 rfl rfl ?_
    refine jr_ireturn dX10_couldLook_47 rfl rfl ?_
    exact h0 (by grind)
  · refine jr_iload_n 1 6 dX10_couldLook_5 rfl rfl rfl ?_
    refine jr_aload_n 0 7 dX10_couldLook_6 rfl rfl rfl ?_
    refine gf_X10_83 10 dX10_couldLook_7 rfl rfl rfl rfl ?_
    refine jr_icmp_ne 30 13 dX10_couldLook_10 rfl rfl (fun q10 => ?_) (fun q10 => ?_)
    · refine jr_aload_n 0 31 dX10_couldLook_30 rfl rfl rfl ?_
      refine jr_iload_n 2 32 dX10_couldLook_31 rfl rfl rfl ?_
      refine jr_iconst (0) 33 dX10_couldLook_32 rfl rfl ?_
      refine jr_iload_n 3 34 dX10_couldLook_33 rfl rfl rfl ?_
      refine jr_bipush (10) 36 dX10_couldLook_34 rfl rfl ?_
      refine cs_X10_219 39 dX10_couldLook_36 rfl rfl rfl (Nat.le_of_ble_eq_true rfl) (wp_isStopping (fun qd => ?_) (fun qd => ?_))
      · refine jr_if_ne 46 42 dX10_couldLook_39 rfl rfl (fun q39 => ?_) (fun q => absurd q (by decide))
        refine jr_iconst (0) 47 dX10_couldLook_46 rfl rfl ?_
        refine jr_ireturn dX10_couldLook_47 rfl rfl ?_
        exact h0 (by grind)
      · refine jr_if_ne 46 42 dX10_couldLook_39 rfl rfl (fun q => absurd (by decide) q) (fun q39 => ?_)
        refine jr_iconst (1) 43 dX10_couldLook_42 rfl rfl ?_
        refine jr_goto 47 dX10_couldLook_43 rfl ?_
        refine jr_ireturn dX10_couldLook_47 rfl rfl ?_
        exact h1 (by grind)
    · refine jr_aload_n 0 14 dX10_couldLook_13 rfl rfl rfl ?_
      refine gf_X10_86 17 dX10_couldLook_14 rfl rfl rfl rfl ?_
      refine jr_bipush ((-2)) 19 dX10_couldLook_17 rfl rfl ?_
      refine jr_icmp_eq 46 22 dX10_couldLook_19 rfl rfl (fun q19 => ?_) (fun q19 => ?_)
      · refine jr_iconst (0) 47 dX10_couldLook_46 rfl rfl ?_
        refine jr_ireturn dX10_couldLook_47 rfl rfl ?_
        exact h0 (by grind)
      · refine jr_aload_n 0 23 dX10_couldLook_22 rfl rfl rfl ?_
        refine gf_X10_86 26 dX10_couldLook_23 rfl rfl rfl rfl ?_
        refine jr_iload_n 2 27 dX10_couldLook_26 rfl rfl rfl ?_
        refine jr_icmp_eq 46 30 dX10_couldLook_27 rfl rfl (fun q27 => ?_) (fun q27 => ?_)
        · refine jr_iconst (0) 47 dX10_couldLook_46 rfl rfl ?_
          refine jr_ireturn dX10_couldLook_47 rfl rfl ?_
          exact h0 (by grind)
        · refine jr_aload_n 0 31 dX10_couldLook_30 rfl rfl rfl ?_
          refine jr_iload_n 2 32 dX10_couldLook_31 rfl rfl rfl ?_
          refine jr_iconst (0) 33 dX10_couldLook_32 rfl rfl ?_
          refine jr_iload_n 3 34 dX10_couldLook_33 rfl rfl rfl ?_
          refine jr_bipush (10) 36 dX10_couldLook_34 rfl rfl ?_
          refine cs_X10_219 39 dX10_couldLook_36 rfl rfl rfl (Nat.le_of_ble_eq_true rfl) (wp_isStopping (fun qd => ?_) (fun qd => ?_))
          · refine jr_if_ne 46 42 dX10_couldLook_39 rfl rfl (fun q39 => ?_) (fun q => absurd q (by decide))
            refine jr_iconst (0) 47 dX10_couldLook_46 rfl rfl ?_
            refine jr_ireturn dX10_couldLook_47 rfl rfl ?_
            exact h0 (by grind)
          · refine jr_if_ne 46 42 dX10_couldLook_39 rfl rfl (fun q => absurd (by decide) q) (fun q39 => ?_)
            refine jr_iconst (1) 43 dX10_couldLook_42 rfl rfl ?_
            refine jr_goto 47 dX10_couldLook_43 rfl ?_
            refine jr_ireturn dX10_couldLook_47 rfl rfl ?_
            exact h1 (by grind)
theorem pu_redf_b4 (m l : Int32) : (if 80 - 4 * (l / 2) + 10 * m < 1 then (1 : Int32) else 80 - 4 * (l / 2) + 10 * m) = pu_redf 4 m l := by
  have e : 60 - 4 * (l / 2) + 10 * m + 20 = 80 - 4 * (l / 2) + 10 * m := by grind
  unfold pu_redf pu_max
  rw [e]
  grind
theorem wp_redFrom {G : jr_G} {d : Nat} {σ : jr_Sg} {k : Value → jr_Sg → Prop} {f c s : Nat} (hf : f < 5) (hkd : σ 48 f = nI c) (hc : c < 6) (hse : σ 51 f = nI s) (hs : s < 8) (h : k (.int (pu_redf c (σ 49 f) (σ 47 s))) σ) : jr_M G d mi_X10_redFrom [.ref 46, .int (nI f)] σ (jr_k k) := by
  refine jr_enter (L := [some (.ref 46), some (.int (nI f)), none, none, none]) (by decide) (Nat.le_of_ble_eq_true rfl) rfl ?_
  rcases (by omega : c = 0 ∨ c = 1 ∨ c = 2 ∨ c = 3 ∨ c = 4 ∨ c = 5) with rfl | rfl | rfl | rfl | rfl | rfl
  · refine jr_aload_n 0 1 dX10_redFrom_0 rfl rfl rfl ?_
    refine gf_X10_7 4 dX10_redFrom_1 rfl rfl rfl rfl ?_
    refine jr_aload_n 0 5 dX10_redFrom_4 rfl rfl rfl ?_
    refine gf_X10_22 8 dX10_redFrom_5 rfl rfl rfl rfl ?_
    refine jr_iload_n 1 9 dX10_redFrom_8 rfl rfl rfl ?_
    refine jr_iale rfl rfl (by omega) hse 10 dX10_redFrom_9 rfl ?_
    refine jr_iald rfl rfl hs 11 dX10_redFrom_10 rfl ?_
    refine jr_istore_n 2 (L' := [_, _, _, _, _]) 12 dX10_redFrom_11 rfl rfl (by decide) rfl ?_
    refine jr_aload_n 0 13 dX10_redFrom_12 rfl rfl rfl ?_
    refine gf_X10_13 16 dX10_redFrom_13 rfl rfl rfl rfl ?_
    refine jr_iload_n 1 17 dX10_redFrom_16 rfl rfl rfl ?_
    refine jr_iale rfl rfl (by omega) hkd 18 dX10_redFrom_17 rfl ?_
    refine jr_istore_n 3 (L' := [_, _, _, _, _]) 19 dX10_redFrom_18 rfl rfl (by decide) rfl ?_
    refine jr_iload_n 3 20 dX10_redFrom_19 rfl rfl rfl ?_
    refine jr_iconst (2) 21 dX10_redFrom_20 rfl rfl ?_
    refine jr_icmp_ne 43 24 dX10_redFrom_21 rfl rfl (fun q21 => ?_) (fun q => absurd q (by decide))
    refine jr_iload_n 3 44 dX10_redFrom_43 rfl rfl rfl ?_
    refine jr_iconst (4) 45 dX10_redFrom_44 rfl rfl ?_
    refine jr_icmp_ne 69 48 dX10_redFrom_45 rfl rfl (fun q45 => ?_) (fun q => absurd q (by decide))
    refine jr_bipush (60) 71 dX10_redFrom_69 rfl rfl ?_
    refine jr_iconst (4) 72 dX10_redFrom_71 rfl rfl ?_
    refine jr_iload_n 2 73 dX10_redFrom_72 rfl rfl rfl ?_
    refine jr_imul 74 dX10_redFrom_73 rfl ?_
    refine jr_isub 75 dX10_redFrom_74 rfl ?_
    refine jr_istore (L' := [_, _, _, _, _]) 77 dX10_redFrom_75 rfl (by decide) rfl ?_
    refine jr_iload 79 dX10_redFrom_77 rfl rfl ?_
    refine jr_iconst (1) 80 dX10_redFrom_79 rfl rfl ?_
    refine jr_icmp_ge 87 83 dX10_redFrom_80 rfl rfl (fun q80 => ?_) (fun q80 => ?_)
    · refine jr_iload 89 dX10_redFrom_87 rfl rfl ?_
      refine jr_ireturn dX10_redFrom_89 rfl rfl ?_
      exact jr_eqk (by first | (unfold pu_redf pu_max; grind) | (rw [← pu_redf_b4]; first | rw [if_pos (Int32.not_le.mp (by assumption))] | rw [if_neg (Int32.not_lt.mpr (by assumption))])) h
    · refine jr_iconst (1) 84 dX10_redFrom_83 rfl rfl ?_
      refine jr_goto 89 dX10_redFrom_84 rfl ?_
      refine jr_ireturn dX10_redFrom_89 rfl rfl ?_
      exact jr_eqk (by first | (unfold pu_redf pu_max; grind) | (rw [← pu_redf_b4]; first | rw [if_pos (Int32.not_le.mp (by assumption))] | rw [if_neg (Int32.not_lt.mpr (by assumption))])) h
  · refine jr_aload_n 0 1 dX10_redFrom_0 rfl rfl rfl ?_
    refine gf_X10_7 4 dX10_redFrom_1 rfl rfl rfl rfl ?_
    refine jr_aload_n 0 5 dX10_redFrom_4 rfl rfl rfl ?_
    refine gf_X10_22 8 dX10_redFrom_5 rfl rfl rfl rfl ?_
    refine jr_iload_n 1 9 dX10_redFrom_8 rfl rfl rfl ?_
    refine jr_iale rfl rfl (by omega) hse 10 dX10_redFrom_9 rfl ?_
    refine jr_iald rfl rfl hs 11 dX10_redFrom_10 rfl ?_
    refine jr_istore_n 2 (L' := [_, _, _, _, _]) 12 dX10_redFrom_11 rfl rfl (by decide) rfl ?_
    refine jr_aload_n 0 13 dX10_redFrom_12 rfl rfl rfl ?_
    refine gf_X10_13 16 dX10_redFrom_13 rfl rfl rfl rfl ?_
    refine jr_iload_n 1 17 dX10_redFrom_16 rfl rfl rfl ?_
    refine jr_iale rfl rfl (by omega) hkd 18 dX10_redFrom_17 rfl ?_
    refine jr_istore_n 3 (L' := [_, _, _, _, _]) 19 dX10_redFrom_18 rfl rfl (by decide) rfl ?_
    refine jr_iload_n 3 20 dX10_redFrom_19 rfl rfl rfl ?_
    refine jr_iconst (2) 21 dX10_redFrom_20 rfl rfl ?_
    refine jr_icmp_ne 43 24 dX10_redFrom_21 rfl rfl (fun q21 => ?_) (fun q => absurd q (by decide))
    refine jr_iload_n 3 44 dX10_redFrom_43 rfl rfl rfl ?_
    refine jr_iconst (4) 45 dX10_redFrom_44 rfl rfl ?_
    refine jr_icmp_ne 69 48 dX10_redFrom_45 rfl rfl (fun q45 => ?_) (fun q => absurd q (by decide))
    refine jr_bipush (60) 71 dX10_redFrom_69 rfl rfl ?_
    refine jr_iconst (4) 72 dX10_redFrom_71 rfl rfl ?_
    refine jr_iload_n 2 73 dX10_redFrom_72 rfl rfl rfl ?_
    refine jr_imul 74 dX10_redFrom_73 rfl ?_
    refine jr_isub 75 dX10_redFrom_74 rfl ?_
    refine jr_istore (L' := [_, _, _, _, _]) 77 dX10_redFrom_75 rfl (by decide) rfl ?_
    refine jr_iload 79 dX10_redFrom_77 rfl rfl ?_
    refine jr_iconst (1) 80 dX10_redFrom_79 rfl rfl ?_
    refine jr_icmp_ge 87 83 dX10_redFrom_80 rfl rfl (fun q80 => ?_) (fun q80 => ?_)
    · refine jr_iload 89 dX10_redFrom_87 rfl rfl ?_
      refine jr_ireturn dX10_redFrom_89 rfl rfl ?_
      exact jr_eqk (by first | (unfold pu_redf pu_max; grind) | (rw [← pu_redf_b4]; first | rw [if_pos (Int32.not_le.mp (by assumption))] | rw [if_neg (Int32.not_lt.mpr (by assumption))])) h
    · refine jr_iconst (1) 84 dX10_redFrom_83 rfl rfl ?_
      refine jr_goto 89 dX10_redFrom_84 rfl ?_
      refine jr_ireturn dX10_redFrom_89 rfl rfl ?_
      exact jr_eqk (by first | (unfold pu_redf pu_max; grind) | (rw [← pu_redf_b4]; first | rw [if_pos (Int32.not_le.mp (by assumption))] | rw [if_neg (Int32.not_lt.mpr (by assumption))])) h
  · refine jr_aload_n 0 1 dX10_redFrom_0 rfl rfl rfl ?_
    refine gf_X10_7 4 dX10_redFrom_1 rfl rfl rfl rfl ?_
    refine jr_aload_n 0 5 dX10_redFrom_4 rfl rfl rfl ?_
    refine gf_X10_22 8 dX10_redFrom_5 rfl rfl rfl rfl ?_
    refine jr_iload_n 1 9 dX10_redFrom_8 rfl rfl rfl ?_
    refine jr_iale rfl rfl (by omega) hse 10 dX10_redFrom_9 rfl ?_
    refine jr_iald rfl rfl hs 11 dX10_redFrom_10 rfl ?_
    refine jr_istore_n 2 (L' := [_, _, _, _, _]) 12 dX10_redFrom_11 rfl rfl (by decide) rfl ?_
    refine jr_aload_n 0 13 dX10_redFrom_12 rfl rfl rfl ?_
    refine gf_X10_13 16 dX10_redFrom_13 rfl rfl rfl rfl ?_
    refine jr_iload_n 1 17 dX10_redFrom_16 rfl rfl rfl ?_
    refine jr_iale rfl rfl (by omega) hkd 18 dX10_redFrom_17 rfl ?_
    refine jr_istore_n 3 (L' := [_, _, _, _, _]) 19 dX10_redFrom_18 rfl rfl (by decide) rfl ?_
    refine jr_iload_n 3 20 dX10_redFrom_19 rfl rfl rfl ?_
    refine jr_iconst (2) 21 dX10_redFrom_20 rfl rfl ?_
    refine jr_icmp_ne 43 24 dX10_redFrom_21 rfl rfl (fun q => absurd (by decide) q) (fun q21 => ?_)
    refine jr_bipush (60) 26 dX10_redFrom_24 rfl rfl ?_
    refine jr_iconst (4) 27 dX10_redFrom_26 rfl rfl ?_
    refine jr_iload_n 2 28 dX10_redFrom_27 rfl rfl rfl ?_
    refine jr_imul 29 dX10_redFrom_28 rfl ?_
    refine jr_isub 30 dX10_redFrom_29 rfl ?_
    refine jr_bipush (10) 32 dX10_redFrom_30 rfl rfl ?_
    refine jr_aload_n 0 33 dX10_redFrom_32 rfl rfl rfl ?_
    refine gf_X10_16 36 dX10_redFrom_33 rfl rfl rfl rfl ?_
    refine jr_iload_n 1 37 dX10_redFrom_36 rfl rfl rfl ?_
    refine jr_iald rfl rfl (by omega) 38 dX10_redFrom_37 rfl ?_
    refine jr_imul 39 dX10_redFrom_38 rfl ?_
    refine jr_iadd 40 dX10_redFrom_39 rfl ?_
    refine jr_goto 75 dX10_redFrom_40 rfl ?_
    refine jr_istore (L' := [_, _, _, _, _]) 77 dX10_redFrom_75 rfl (by decide) rfl ?_
    refine jr_iload 79 dX10_redFrom_77 rfl rfl ?_
    refine jr_iconst (1) 80 dX10_redFrom_79 rfl rfl ?_
    refine jr_icmp_ge 87 83 dX10_redFrom_80 rfl rfl (fun q80 => ?_) (fun q80 => ?_)
    · refine jr_iload 89 dX10_redFrom_87 rfl rfl ?_
      refine jr_ireturn dX10_redFrom_89 rfl rfl ?_
      exact jr_eqk (by first | (unfold pu_redf pu_max; grind) | (rw [← pu_redf_b4]; first | rw [if_pos (Int32.not_le.mp (by assumption))] | rw [if_neg (Int32.not_lt.mpr (by assumption))])) h
    · refine jr_iconst (1) 84 dX10_redFrom_83 rfl rfl ?_
      refine jr_goto 89 dX10_redFrom_84 rfl ?_
      refine jr_ireturn dX10_redFrom_89 rfl rfl ?_
      exact jr_eqk (by first | (unfold pu_redf pu_max; grind) | (rw [← pu_redf_b4]; first | rw [if_pos (Int32.not_le.mp (by assumption))] | rw [if_neg (Int32.not_lt.mpr (by assumption))])) h
  · refine jr_aload_n 0 1 dX10_redFrom_0 rfl rfl rfl ?_
    refine gf_X10_7 4 dX10_redFrom_1 rfl rfl rfl rfl ?_
    refine jr_aload_n 0 5 dX10_redFrom_4 rfl rfl rfl ?_
    refine gf_X10_22 8 dX10_redFrom_5 rfl rfl rfl rfl ?_
    refine jr_iload_n 1 9 dX10_redFrom_8 rfl rfl rfl ?_
    refine jr_iale rfl rfl (by omega) hse 10 dX10_redFrom_9 rfl ?_
    refine jr_iald rfl rfl hs 11 dX10_redFrom_10 rfl ?_
    refine jr_istore_n 2 (L' := [_, _, _, _, _]) 12 dX10_redFrom_11 rfl rfl (by decide) rfl ?_
    refine jr_aload_n 0 13 dX10_redFrom_12 rfl rfl rfl ?_
    refine gf_X10_13 16 dX10_redFrom_13 rfl rfl rfl rfl ?_
    refine jr_iload_n 1 17 dX10_redFrom_16 rfl rfl rfl ?_
    refine jr_iale rfl rfl (by omega) hkd 18 dX10_redFrom_17 rfl ?_
    refine jr_istore_n 3 (L' := [_, _, _, _, _]) 19 dX10_redFrom_18 rfl rfl (by decide) rfl ?_
    refine jr_iload_n 3 20 dX10_redFrom_19 rfl rfl rfl ?_
    refine jr_iconst (2) 21 dX10_redFrom_20 rfl rfl ?_
    refine jr_icmp_ne 43 24 dX10_redFrom_21 rfl rfl (fun q21 => ?_) (fun q => absurd q (by decide))
    refine jr_iload_n 3 44 dX10_redFrom_43 rfl rfl rfl ?_
    refine jr_iconst (4) 45 dX10_redFrom_44 rfl rfl ?_
    refine jr_icmp_ne 69 48 dX10_redFrom_45 rfl rfl (fun q45 => ?_) (fun q => absurd q (by decide))
    refine jr_bipush (60) 71 dX10_redFrom_69 rfl rfl ?_
    refine jr_iconst (4) 72 dX10_redFrom_71 rfl rfl ?_
    refine jr_iload_n 2 73 dX10_redFrom_72 rfl rfl rfl ?_
    refine jr_imul 74 dX10_redFrom_73 rfl ?_
    refine jr_isub 75 dX10_redFrom_74 rfl ?_
    refine jr_istore (L' := [_, _, _, _, _]) 77 dX10_redFrom_75 rfl (by decide) rfl ?_
    refine jr_iload 79 dX10_redFrom_77 rfl rfl ?_
    refine jr_iconst (1) 80 dX10_redFrom_79 rfl rfl ?_
    refine jr_icmp_ge 87 83 dX10_redFrom_80 rfl rfl (fun q80 => ?_) (fun q80 => ?_)
    · refine jr_iload 89 dX10_redFrom_87 rfl rfl ?_
      refine jr_ireturn dX10_redFrom_89 rfl rfl ?_
      exact jr_eqk (by first | (unfold pu_redf pu_max; grind) | (rw [← pu_redf_b4]; first | rw [if_pos (Int32.not_le.mp (by assumption))] | rw [if_neg (Int32.not_lt.mpr (by assumption))])) h
    · refine jr_iconst (1) 84 dX10_redFrom_83 rfl rfl ?_
      refine jr_goto 89 dX10_redFrom_84 rfl ?_
      refine jr_ireturn dX10_redFrom_89 rfl rfl ?_
      exact jr_eqk (by first | (unfold pu_redf pu_max; grind) | (rw [← pu_redf_b4]; first | rw [if_pos (Int32.not_le.mp (by assumption))] | rw [if_neg (Int32.not_lt.mpr (by assumption))])) h
  · refine jr_aload_n 0 1 dX10_redFrom_0 rfl rfl rfl ?_
    refine gf_X10_7 4 dX10_redFrom_1 rfl rfl rfl rfl ?_
    refine jr_aload_n 0 5 dX10_redFrom_4 rfl rfl rfl ?_
    refine gf_X10_22 8 dX10_redFrom_5 rfl rfl rfl rfl ?_
    refine jr_iload_n 1 9 dX10_redFrom_8 rfl rfl rfl ?_
    refine jr_iale rfl rfl (by omega) hse 10 dX10_redFrom_9 rfl ?_
    refine jr_iald rfl rfl hs 11 dX10_redFrom_10 rfl ?_
    refine jr_istore_n 2 (L' := [_, _, _, _, _]) 12 dX10_redFrom_11 rfl rfl (by decide) rfl ?_
    refine jr_aload_n 0 13 dX10_redFrom_12 rfl rfl rfl ?_
    refine gf_X10_13 16 dX10_redFrom_13 rfl rfl rfl rfl ?_
    refine jr_iload_n 1 17 dX10_redFrom_16 rfl rfl rfl ?_
    refine jr_iale rfl rfl (by omega) hkd 18 dX10_redFrom_17 rfl ?_
    refine jr_istore_n 3 (L' := [_, _, _, _, _]) 19 dX10_redFrom_18 rfl rfl (by decide) rfl ?_
    refine jr_iload_n 3 20 dX10_redFrom_19 rfl rfl rfl ?_
    refine jr_iconst (2) 21 dX10_redFrom_20 rfl rfl ?_
    refine jr_icmp_ne 43 24 dX10_redFrom_21 rfl rfl (fun q21 => ?_) (fun q => absurd q (by decide))
    refine jr_iload_n 3 44 dX10_redFrom_43 rfl rfl rfl ?_
    refine jr_iconst (4) 45 dX10_redFrom_44 rfl rfl ?_
    refine jr_icmp_ne 69 48 dX10_redFrom_45 rfl rfl (fun q => absurd (by decide) q) (fun q45 => ?_)
    refine jr_bipush (80) 50 dX10_redFrom_48 rfl rfl ?_
    refine jr_iconst (4) 51 dX10_redFrom_50 rfl rfl ?_
    refine jr_iload_n 2 52 dX10_redFrom_51 rfl rfl rfl ?_
    refine jr_iconst (2) 53 dX10_redFrom_52 rfl rfl ?_
    refine jr_idiv 54 dX10_redFrom_53 rfl (by decide) ?_
    refine jr_imul 55 dX10_redFrom_54 rfl ?_
    refine jr_isub 56 dX10_redFrom_55 rfl ?_
    refine jr_bipush (10) 58 dX10_redFrom_56 rfl rfl ?_
    refine jr_aload_n 0 59 dX10_redFrom_58 rfl rfl rfl ?_
    refine gf_X10_16 62 dX10_redFrom_59 rfl rfl rfl rfl ?_
    refine jr_iload_n 1 63 dX10_redFrom_62 rfl rfl rfl ?_
    refine jr_iald rfl rfl (by omega) 64 dX10_redFrom_63 rfl ?_
    refine jr_imul 65 dX10_redFrom_64 rfl ?_
    refine jr_iadd 66 dX10_redFrom_65 rfl ?_
    refine jr_goto 75 dX10_redFrom_66 rfl ?_
    refine jr_istore (L' := [_, _, _, _, _]) 77 dX10_redFrom_75 rfl (by decide) rfl ?_
    refine jr_iload 79 dX10_redFrom_77 rfl rfl ?_
    refine jr_iconst (1) 80 dX10_redFrom_79 rfl rfl ?_
    refine jr_icmp_ge 87 83 dX10_redFrom_80 rfl rfl (fun q80 => ?_) (fun q80 => ?_)
    · refine jr_iload 89 dX10_redFrom_87 rfl rfl ?_
      refine jr_ireturn dX10_redFrom_89 rfl rfl ?_
      exact jr_eqk (by first | (unfold pu_redf pu_max; grind) | (rw [← pu_redf_b4]; first | rw [if_pos (Int32.not_le.mp (by assumption))] | rw [if_neg (Int32.not_lt.mpr (by assumption))])) h
    · refine jr_iconst (1) 84 dX10_redFrom_83 rfl rfl ?_
      refine jr_goto 89 dX10_redFrom_84 rfl ?_
      refine jr_ireturn dX10_redFrom_89 rfl rfl ?_
      exact jr_eqk (by first | (unfold pu_redf pu_max; grind) | (rw [← pu_redf_b4]; first | rw [if_pos (Int32.not_le.mp (by assumption))] | rw [if_neg (Int32.not_lt.mpr (by assumption))])) h
  · refine jr_aload_n 0 1 dX10_redFrom_0 rfl rfl rfl ?_
    refine gf_X10_7 4 dX10_redFrom_1 rfl rfl rfl rfl ?_
    refine jr_aload_n 0 5 dX10_redFrom_4 rfl rfl rfl ?_
    refine gf_X10_22 8 dX10_redFrom_5 rfl rfl rfl rfl ?_
    refine jr_iload_n 1 9 dX10_redFrom_8 rfl rfl rfl ?_
    refine jr_iale rfl rfl (by omega) hse 10 dX10_redFrom_9 rfl ?_
    refine jr_iald rfl rfl hs 11 dX10_redFrom_10 rfl ?_
    refine jr_istore_n 2 (L' := [_, _, _, _, _]) 12 dX10_redFrom_11 rfl rfl (by decide) rfl ?_
    refine jr_aload_n 0 13 dX10_redFrom_12 rfl rfl rfl ?_
    refine gf_X10_13 16 dX10_redFrom_13 rfl rfl rfl rfl ?_
    refine jr_iload_n 1 17 dX10_redFrom_16 rfl rfl rfl ?_
    refine jr_iale rfl rfl (by omega) hkd 18 dX10_redFrom_17 rfl ?_
    refine jr_istore_n 3 (L' := [_, _, _, _, _]) 19 dX10_redFrom_18 rfl rfl (by decide) rfl ?_
    refine jr_iload_n 3 20 dX10_redFrom_19 rfl rfl rfl ?_
    refine jr_iconst (2) 21 dX10_redFrom_20 rfl rfl ?_
    refine jr_icmp_ne 43 24 dX10_redFrom_21 rfl rfl (fun q21 => ?_) (fun q => absurd q (by decide))
    refine jr_iload_n 3 44 dX10_redFrom_43 rfl rfl rfl ?_
    refine jr_iconst (4) 45 dX10_redFrom_44 rfl rfl ?_
    refine jr_icmp_ne 69 48 dX10_redFrom_45 rfl rfl (fun q45 => ?_) (fun q => absurd q (by decide))
    refine jr_bipush (60) 71 dX10_redFrom_69 rfl rfl ?_
    refine jr_iconst (4) 72 dX10_redFrom_71 rfl rfl ?_
    refine jr_iload_n 2 73 dX10_redFrom_72 rfl rfl rfl ?_
    refine jr_imul 74 dX10_redFrom_73 rfl ?_
    refine jr_isub 75 dX10_redFrom_74 rfl ?_
    refine jr_istore (L' := [_, _, _, _, _]) 77 dX10_redFrom_75 rfl (by decide) rfl ?_
    refine jr_iload 79 dX10_redFrom_77 rfl rfl ?_
    refine jr_iconst (1) 80 dX10_redFrom_79 rfl rfl ?_
    refine jr_icmp_ge 87 83 dX10_redFrom_80 rfl rfl (fun q80 => ?_) (fun q80 => ?_)
    · refine jr_iload 89 dX10_redFrom_87 rfl rfl ?_
      refine jr_ireturn dX10_redFrom_89 rfl rfl ?_
      exact jr_eqk (by first | (unfold pu_redf pu_max; grind) | (rw [← pu_redf_b4]; first | rw [if_pos (Int32.not_le.mp (by assumption))] | rw [if_neg (Int32.not_lt.mpr (by assumption))])) h
    · refine jr_iconst (1) 84 dX10_redFrom_83 rfl rfl ?_
      refine jr_goto 89 dX10_redFrom_84 rfl ?_
      refine jr_ireturn dX10_redFrom_89 rfl rfl ?_
      exact jr_eqk (by first | (unfold pu_redf pu_max; grind) | (rw [← pu_redf_b4]; first | rw [if_pos (Int32.not_le.mp (by assumption))] | rw [if_neg (Int32.not_lt.mpr (by assumption))])) h
theorem wp_isSeen {G : jr_G} {d : Nat} {σ : jr_Sg} {k : Value → jr_Sg → Prop} {f c s : Nat} (hf : f < 5) (hkd : σ 48 f = nI c) (hc : c < 6) (hse : σ 51 f = nI s) (hs : s < 8) (h : k (.int (if (pu_redf c (σ 49 f) (σ 47 s)) ≤ σ 66 f then (1 : Int32) else 0)) σ) : jr_M G (d + 1) mi_X10_isSeen [.ref 46, .int (nI f)] σ (jr_k k) := by
  refine jr_enter (L := [some (.ref 46), some (.int (nI f))]) (by decide) (Nat.le_of_ble_eq_true rfl) rfl ?_
  refine jr_aload_n 0 1 dX10_isSeen_0 rfl rfl rfl ?_
  refine gf_X10_67 4 dX10_isSeen_1 rfl rfl rfl rfl ?_
  refine jr_iload_n 1 5 dX10_isSeen_4 rfl rfl rfl ?_
  refine jr_iald rfl rfl (by omega) 6 dX10_isSeen_5 rfl ?_
  refine jr_aload_n 0 7 dX10_isSeen_6 rfl rfl rfl ?_
  refine jr_iload_n 1 8 dX10_isSeen_7 rfl rfl rfl ?_
  refine cs_X10_210 11 dX10_isSeen_8 rfl rfl rfl (Nat.le_of_ble_eq_true rfl) (wp_redFrom hf hkd hc hse hs ?_)
  refine jr_icmp_lt 18 14 dX10_isSeen_11 rfl rfl (fun q11 => ?_) (fun q11 => ?_)
  · refine jr_iconst (0) 19 dX10_isSeen_18 rfl rfl ?_
    refine jr_ireturn dX10_isSeen_19 rfl rfl ?_
    rw [if_neg (Int32.not_le.mpr q11)] at h
    exact h
  · refine jr_iconst (1) 15 dX10_isSeen_14 rfl rfl ?_
    refine jr_goto 19 dX10_isSeen_15 rfl ?_
    refine jr_ireturn dX10_isSeen_19 rfl rfl ?_
    rw [if_pos (Int32.not_lt.mp q11)] at h
    exact h
theorem ti_R_of {T : Nat → Nat → List Nat} {n : Nat} {σ σ' : jr_Sg} (h : ti_R T n σ) (e1 : σ' 46 12 = σ 46 12) (e2 : σ' 54 = σ 54) (e3 : σ' 55 = σ 55) : ti_R T n σ' := by
  unfold ti_R at h ⊢
  rw [e1, e2, e3]
  exact h
/-- who is blind to f, by the reference -/
def pr_bl (σ : jr_Sg) (f : Nat) (x : Nat) : Prop := nI x = σ 46 42 ∧ (σ 46 43 = -2 ∨ σ 46 43 = nI f)
theorem howMany_loop {G : jr_G} {d : Nat} {σ : jr_Sg} {k : Value → jr_Sg → Prop} {nf : Nat} {f c s : Nat} (hf : f < 5) (hkd : σ 48 f = nI c) (hc : c < 6) (hse : σ 51 f = nI s) (hs : s < 8) {T : Nat → Nat → List Nat} {n lw t : Nat} (hT : ti_R T n σ) (hlw : lw < n) (hru : σ 46 13 = nI lw) (hnf : σ 46 1 = nI nf) (h5 : nf ≤ 5) (hk : ∀ σ' : jr_Sg, jr_eqx [63, 64] σ σ' → k (.int (pu_if (pu_do (σ 46 39) (σ 46 40) (σ 46 41) (nI f) 0 (nI t) 10) 0 (sm_cnt (fun m => ev_t T lw 2 (pu_nm (σ 66 f) (σ 68 f) (σ 47 s) (nI t) (if (pu_redf c (σ 49 f) (σ 47 s)) ≤ σ 66 f then (1 : Int32) else 0) m)) (σ 49) f (pr_bl σ f) nf))) σ') : ∀ (m j : Nat) (acc : Int32) (σ1 : jr_Sg), j + m = nf → acc = pu_if (pu_do (σ 46 39) (σ 46 40) (σ 46 41) (nI f) 0 (nI t) 10) 0 (sm_cnt (fun m => ev_t T lw 2 (pu_nm (σ 66 f) (σ 68 f) (σ 47 s) (nI t) (if (pu_redf c (σ 49 f) (σ 47 s)) ≤ σ 66 f then (1 : Int32) else 0) m)) (σ 49) f (pr_bl σ f) j) → jr_eqx [63, 64] σ σ1 → jr_R G (d + 3) mi_X10_howManyLook (jr_k k) 5 [some (.ref 46), some (.int (nI f)), some (.int (nI t)), some (.int acc), some (.int (nI j))] [] σ1 := by
  intro m
  induction m with
  | zero =>
    intro j acc σ1 hj hacc he
    have e : j = nf := hj
    subst e
    subst hacc
    have hnf1 : σ1 46 1 = nI j := by rw [he 46 (by decide)]; exact hnf
    refine jr_iload 7 dX10_howManyLook_5 rfl rfl ?_
    refine jr_aload_n 0 8 dX10_howManyLook_7 rfl rfl rfl ?_
    refine gf_X10_105 11 dX10_howManyLook_8 rfl rfl rfl rfl ?_
    rw [hnf1]
    refine jr_icmp_ge 79 14 dX10_howManyLook_11 rfl rfl (fun q11 => ?_) (fun z => absurd (Int32.le_refl _) z)
    refine jr_iload_n 3 80 dX10_howManyLook_79 rfl rfl rfl ?_
    refine jr_ireturn dX10_howManyLook_80 rfl rfl ?_
    exact hk σ1 he
  | succ m ih =>
    intro j acc σ1 hj hacc he
    have hnf1 : σ1 46 1 = nI nf := by rw [he 46 (by decide)]; exact hnf
    have hT1 : ti_R T n σ1 := ti_R_of hT (by rw [he 46 (by decide)]) (he 54 (by decide)) (he 55 (by decide))
    have hru1 : σ1 46 13 = nI lw := by rw [he 46 (by decide)]; exact hru
    have e66 : σ1 66 f = σ 66 f := by rw [he 66 (by decide)]
    have e68 : σ1 68 f = σ 68 f := by rw [he 68 (by decide)]
    have e51 : σ1 51 f = nI s := by rw [he 51 (by decide)]; exact hse
    have e48 : σ1 48 f = nI c := by rw [he 48 (by decide)]; exact hkd
    have e47 : σ1 47 s = σ 47 s := by rw [he 47 (by decide)]
    have e49 : σ1 49 j = σ 49 j := by rw [he 49 (by decide)]
    have e49f : σ1 49 f = σ 49 f := by rw [he 49 (by decide)]
    have hcl : ∀ p : Prop, p ↔ p := fun _ => Iff.rfl
    refine jr_iload 7 dX10_howManyLook_5 rfl rfl ?_
    refine jr_aload_n 0 8 dX10_howManyLook_7 rfl rfl rfl ?_
    refine gf_X10_105 11 dX10_howManyLook_8 rfl rfl rfl rfl ?_
    rw [hnf1]
    refine jr_icmp_ge 79 14 dX10_howManyLook_11 rfl rfl (fun z => absurd z (nI_ge (by omega) (by omega))) (fun q11 => ?_)
    refine jr_iload_n 3 15 dX10_howManyLook_14 rfl rfl rfl ?_
    refine jr_aload_n 0 16 dX10_howManyLook_15 rfl rfl rfl ?_
    refine jr_iload 18 dX10_howManyLook_16 rfl rfl ?_
    refine jr_iload_n 1 19 dX10_howManyLook_18 rfl rfl rfl ?_
    refine jr_iload_n 2 20 dX10_howManyLook_19 rfl rfl rfl ?_
    refine cs_X10_223 23 dX10_howManyLook_20 rfl rfl rfl (Nat.le_of_ble_eq_true rfl) (wp_couldLook (fun qc => ?_) (fun qc => ?_))
    · refine jr_if_eq 70 26 dX10_howManyLook_23 rfl rfl (fun q => absurd q (by decide)) (fun q23 => ?_)
      refine jr_aload_n 0 27 dX10_howManyLook_26 rfl rfl rfl ?_
      refine jr_iconst (2) 28 dX10_howManyLook_27 rfl rfl ?_
      refine jr_aload_n 0 29 dX10_howManyLook_28 rfl rfl rfl ?_
      refine gf_X10_67 32 dX10_howManyLook_29 rfl rfl rfl rfl ?_
      refine jr_iload_n 1 33 dX10_howManyLook_32 rfl rfl rfl ?_
      refine jr_iale rfl rfl (by omega) e66 34 dX10_howManyLook_33 rfl ?_
      refine jr_aload_n 0 35 dX10_howManyLook_34 rfl rfl rfl ?_
      refine gf_X10_73 38 dX10_howManyLook_35 rfl rfl rfl rfl ?_
      refine jr_iload_n 1 39 dX10_howManyLook_38 rfl rfl rfl ?_
      refine jr_iale rfl rfl (by omega) e68 40 dX10_howManyLook_39 rfl ?_
      refine jr_aload_n 0 41 dX10_howManyLook_40 rfl rfl rfl ?_
      refine gf_X10_7 44 dX10_howManyLook_41 rfl rfl rfl rfl ?_
      refine jr_aload_n 0 45 dX10_howManyLook_44 rfl rfl rfl ?_
      refine gf_X10_22 48 dX10_howManyLook_45 rfl rfl rfl rfl ?_
      refine jr_iload_n 1 49 dX10_howManyLook_48 rfl rfl rfl ?_
      refine jr_iale rfl rfl (by omega) e51 50 dX10_howManyLook_49 rfl ?_
      refine jr_iale rfl rfl hs e47 51 dX10_howManyLook_50 rfl ?_
      refine jr_iload_n 2 52 dX10_howManyLook_51 rfl rfl rfl ?_
      refine jr_aload_n 0 53 dX10_howManyLook_52 rfl rfl rfl ?_
      refine jr_iload_n 1 54 dX10_howManyLook_53 rfl rfl rfl ?_
      refine cs_X10_226 57 dX10_howManyLook_54 rfl rfl rfl (Nat.le_of_ble_eq_true rfl) (wp_isSeen hf e48 hc e51 hs ?_)
      refine jr_topi (y := (if (pu_redf c (σ 49 f) (σ 47 s)) ≤ σ 66 f then (1 : Int32) else 0)) (by rw [e49f, e47, e66]) ?_
      refine jr_aload_n 0 58 dX10_howManyLook_57 rfl rfl rfl ?_
      refine gf_X10_16 61 dX10_howManyLook_58 rfl rfl rfl rfl ?_
      refine jr_iload 63 dX10_howManyLook_61 rfl rfl ?_
      refine jr_iale rfl rfl (by omega) e49 64 dX10_howManyLook_63 rfl ?_
      refine cs_X10_194 67 dX10_howManyLook_64 rfl rfl rfl (Nat.le_of_ble_eq_true rfl) (wp_asksOf (T := T) (n := n) (r := lw) (p := 2) hT1 hlw hru1 (by omega) (fun fg ff => ?_))
      refine jr_goto 71 dX10_howManyLook_67 rfl ?_
      refine jr_iadd 72 dX10_howManyLook_71 rfl ?_
      refine jr_istore_n 3 (L' := [_, _, _, _, _]) 73 dX10_howManyLook_72 rfl rfl (by decide) rfl ?_
      refine jr_iinc (v := nI (j + 1)) (L' := [_, _, _, _, _]) 76 dX10_howManyLook_73 rfl rfl (nI_1 j) (by decide) rfl ?_
      refine jr_goto 5 dX10_howManyLook_76 rfl ?_
      have qc2 : (¬ nI j = nI f ∧ ¬ pr_bl σ f j ∧ ¬ pu_do (σ 46 39) (σ 46 40) (σ 46 41) (nI f) 0 (nI t) 10) := (by unfold pr_bl; rw [he 46 (by decide)] at qc; exact qc)
      exact ih (j + 1) _ _ (by omega) (by rw [hacc, pu_if_f qc2.2.2, pu_if_f qc2.2.2, sm_cnt, pu_if_f (fun e => e.elim (fun e => qc2.1 (by rw [e])) qc2.2.1)]; unfold pu_say; rw [if_pos rfl]) (jr_eqx_tr he (jr_eqx_tr (jr_eqx_upc _ _ (by decide)) (jr_eqx_upc _ _ (by decide))))
    · refine jr_if_eq 70 26 dX10_howManyLook_23 rfl rfl (fun q23 => ?_) (fun q => absurd (by decide) q)
      refine jr_iconst (0) 71 dX10_howManyLook_70 rfl rfl ?_
      refine jr_iadd 72 dX10_howManyLook_71 rfl ?_
      refine jr_istore_n 3 (L' := [_, _, _, _, _]) 73 dX10_howManyLook_72 rfl rfl (by decide) rfl ?_
      refine jr_iinc (v := nI (j + 1)) (L' := [_, _, _, _, _]) 76 dX10_howManyLook_73 rfl rfl (nI_1 j) (by decide) rfl ?_
      refine jr_goto 5 dX10_howManyLook_76 rfl ?_
      have qc2 : ¬ (¬ nI j = nI f ∧ ¬ pr_bl σ f j ∧ ¬ pu_do (σ 46 39) (σ 46 40) (σ 46 41) (nI f) 0 (nI t) 10) := (by unfold pr_bl; rw [he 46 (by decide)] at qc; exact qc)
      exact ih (j + 1) _ _ (by omega) (by
        rw [hacc]
        by_cases hd : pu_do (σ 46 39) (σ 46 40) (σ 46 41) (nI f) 0 (nI t) 10
        · rw [pu_if_t hd, pu_if_t hd]; rfl
        · rw [pu_if_f hd, pu_if_f hd, sm_cnt, pu_if_t (by
            by_cases e : j = f
            · exact Or.inl e
            · by_cases e2 : pr_bl σ f j
              · exact Or.inr e2
              · exact absurd ⟨fun e3 => e (nI_inj (by omega) (by omega) e3), e2, hd⟩ qc2)]) he
theorem wp_howManyLook {G : jr_G} {d : Nat} {σ : jr_Sg} {k : Value → jr_Sg → Prop} {nf : Nat} {f c s : Nat} (hf : f < 5) (hkd : σ 48 f = nI c) (hc : c < 6) (hse : σ 51 f = nI s) (hs : s < 8) {T : Nat → Nat → List Nat} {n lw t : Nat} (hT : ti_R T n σ) (hlw : lw < n) (hru : σ 46 13 = nI lw) (hnf : σ 46 1 = nI nf) (h5 : nf ≤ 5) (hk : ∀ σ' : jr_Sg, jr_eqx [63, 64] σ σ' → k (.int (pu_if (pu_do (σ 46 39) (σ 46 40) (σ 46 41) (nI f) 0 (nI t) 10) 0 (sm_cnt (fun m => ev_t T lw 2 (pu_nm (σ 66 f) (σ 68 f) (σ 47 s) (nI t) (if (pu_redf c (σ 49 f) (σ 47 s)) ≤ σ 66 f then (1 : Int32) else 0) m)) (σ 49) f (pr_bl σ f) nf))) σ') : jr_M G (d + 3) mi_X10_howManyLook [.ref 46, .int (nI f), .int (nI t)] σ (jr_k k) := by
  refine jr_enter (L := [some (.ref 46), some (.int (nI f)), some (.int (nI t)), none, none]) (by decide) (Nat.le_of_ble_eq_true rfl) rfl ?_
  refine jr_iconst (0) 1 dX10_howManyLook_0 rfl rfl ?_
  refine jr_istore_n 3 (L' := [_, _, _, _, _]) 2 dX10_howManyLook_1 rfl rfl (by decide) rfl ?_
  refine jr_iconst (0) 3 dX10_howManyLook_2 rfl rfl ?_
  refine jr_istore (L' := [_, _, _, _, _]) 5 dX10_howManyLook_3 rfl (by decide) rfl ?_
  exact howMany_loop hf hkd hc hse hs hT hlw hru hnf h5 hk nf 0 0 σ (by omega) (by unfold sm_cnt; by_cases hd : pu_do (σ 46 39) (σ 46 40) (σ 46 41) (nI f) 0 (nI t) 10 <;> first | rw [pu_if_t hd] | rw [pu_if_f hd]) (jr_eqx_rf _ _)
theorem pw_nat (x : Int32) : ∃ a : Nat, a ≤ 99 ∧ pu_within x 0 99 = nI a := by
  rcases pk_ix x (n := 100) (by omega) with q | q | ⟨j, hj, rfl⟩
  · exact ⟨0, by omega, by unfold pu_within; rw [if_pos q]; rfl⟩
  · refine ⟨99, by omega, ?_⟩
    have h1 : ¬ x < 0 := Int32.not_lt.mpr (Int32.le_trans (by decide) q)
    have h2 : (99 : Int32) < x := Int32.lt_of_lt_of_le (by decide) q
    unfold pu_within
    rw [if_neg h1, if_pos h2]
    rfl
  · refine ⟨j, by omega, ?_⟩
    unfold pu_within
    rw [if_neg (nI_pos (by omega)), if_neg (show ¬ (99 : Int32) < nI j from nI_nlt (a := 99) (by omega) (by omega))]
theorem pw_warms (c : Nat) {a b : Nat} (ha : a ≤ 99) (hb : b ≤ 9) (sn : Int32) : ∃ v : Nat, v ≤ 300 ∧ pu_warms c (nI b) (nI a) sn = nI v := by
  have h2 : (2 : Int32) * nI a = nI (2 * a) := pk_mul 2 a
  unfold pu_warms
  split
  · by_cases e : sn = 0
    · rw [if_pos e]; exact ⟨a, by omega, rfl⟩
    · rw [if_neg e, h2]; exact ⟨2 * a, by omega, rfl⟩
  · by_cases e : sn = 0
    · rw [if_pos e, nI_add]; exact ⟨a + b, by omega, rfl⟩
    · rw [if_neg e, h2, nI_add]; exact ⟨2 * a + b, by omega, rfl⟩
  · rw [show (2 : Int32) = nI 2 from rfl, pk_div (by omega) (by omega) (by omega), nI_1]; exact ⟨a / 2 + 1, by omega, rfl⟩
  · exact ⟨a, by omega, rfl⟩
theorem pw_wish {v m : Nat} (hv : v ≤ 300) (hm : m ≤ 9) : pu_within (nI v - 2 * nI m) 0 400 = pu_max 0 (nI v - 2 * nI m) := by
  have h2 : (2 : Int32) * nI m = nI (2 * m) := pk_mul 2 m
  rw [h2]
  by_cases h : 2 * m ≤ v
  · rw [pk_sub h]
    unfold pu_within pu_max
    rw [if_neg (nI_pos (by omega)), if_neg (show ¬ (400 : Int32) < nI (v - 2 * m) from nI_nlt (a := 400) (by omega) (by omega))]
    by_cases e : v - 2 * m = 0
    · rw [e]; rfl
    · rw [if_pos (show (0 : Int32) < nI (v - 2 * m) from nI_lt (a := 0) (by omega) (by omega))]
  · have hn := pk_sneg (a := v) (b := 2 * m) (by omega) (by omega)
    unfold pu_within pu_max
    rw [if_pos hn, if_neg (Int32.not_lt.mpr (Int32.le_of_lt hn))]
theorem wp_warmsBy {G : jr_G} {d : Nat} {σ : jr_Sg} {k : Value → jr_Sg → Prop} {f c s : Nat} (hf : f < 5) (hkd : σ 48 f = nI c) (hc : c < 6) (hse : σ 51 f = nI s) (hs : s < 8) {T : Nat → Nat → List Nat} {n lw t : Nat} (hT : ti_R T n σ) (hlw : lw < n) (hru : σ 46 13 = nI lw) (hmo : ∃ b : Nat, b ≤ 9 ∧ σ 49 f = nI b) (hk : ∀ g g2 : Nat → Int32, k (.int (pu_wso (σ 46 39) (σ 46 40) (σ 46 41) (nI f) (nI t) (pu_warms c (σ 49 f) (pu_within (ev_t T lw 0 (pu_nm (σ 66 f) (σ 67 f) (σ 47 s) (nI t) (if (pu_redf c (σ 49 f) (σ 47 s)) ≤ σ 66 f then (1 : Int32) else 0) (σ 49 f))) 0 99) (if (pu_redf c (σ 49 f) (σ 47 s)) ≤ σ 66 f then (1 : Int32) else 0)) (σ 49 f))) (jr_upc (jr_upc σ 64 g) 63 g2)) : jr_M G (d + 3) mi_X10_warmsBy [.ref 46, .int (nI f), .int (nI t)] σ (jr_k k) := by
  have hwish : pu_within ((pu_warms c (σ 49 f) (pu_within (ev_t T lw 0 (pu_nm (σ 66 f) (σ 67 f) (σ 47 s) (nI t) (if (pu_redf c (σ 49 f) (σ 47 s)) ≤ σ 66 f then (1 : Int32) else 0) (σ 49 f))) 0 99) (if (pu_redf c (σ 49 f) (σ 47 s)) ≤ σ 66 f then (1 : Int32) else 0)) - 2 * σ 49 f) 0 400 = pu_max 0 ((pu_warms c (σ 49 f) (pu_within (ev_t T lw 0 (pu_nm (σ 66 f) (σ 67 f) (σ 47 s) (nI t) (if (pu_redf c (σ 49 f) (σ 47 s)) ≤ σ 66 f then (1 : Int32) else 0) (σ 49 f))) 0 99) (if (pu_redf c (σ 49 f) (σ 47 s)) ≤ σ 66 f then (1 : Int32) else 0)) - 2 * σ 49 f) := by
    obtain ⟨b, hb, eb⟩ := hmo
    obtain ⟨a, ha, ea⟩ := pw_nat (ev_t T lw 0 (pu_nm (σ 66 f) (σ 67 f) (σ 47 s) (nI t) (if (pu_redf c (σ 49 f) (σ 47 s)) ≤ σ 66 f then (1 : Int32) else 0) (σ 49 f)))
    rw [ea, eb]
    obtain ⟨v, hv, e⟩ := pw_warms c ha hb (if (pu_redf c ((nI b)) (σ 47 s)) ≤ σ 66 f then (1 : Int32) else 0)
    rw [e]
    exact pw_wish hv hb
  have hsn : (if (pu_redf c (σ 49 f) (σ 47 s)) ≤ σ 66 f then (1 : Int32) else 0) = 0 ∨ (if (pu_redf c (σ 49 f) (σ 47 s)) ≤ σ 66 f then (1 : Int32) else 0) = 1 := by split <;> simp
  refine jr_enter (L := [some (.ref 46), some (.int (nI f)), some (.int (nI t)), none, none]) (by decide) (Nat.le_of_ble_eq_true rfl) rfl ?_
  rcases (by omega : c = 0 ∨ c = 1 ∨ c = 2 ∨ c = 3 ∨ c = 4 ∨ c = 5) with rfl | rfl | rfl | rfl | rfl | rfl
  · refine jr_aload_n 0 1 dX10_warmsBy_0 rfl rfl rfl ?_
    refine jr_iconst (0) 2 dX10_warmsBy_1 rfl rfl ?_
    refine jr_aload_n 0 3 dX10_warmsBy_2 rfl rfl rfl ?_
    refine gf_X10_67 6 dX10_warmsBy_3 rfl rfl rfl rfl ?_
    refine jr_iload_n 1 7 dX10_warmsBy_6 rfl rfl rfl ?_
    refine jr_iald rfl rfl (by omega) 8 dX10_warmsBy_7 rfl ?_
    refine jr_aload_n 0 9 dX10_warmsBy_8 rfl rfl rfl ?_
    refine gf_X10_70 12 dX10_warmsBy_9 rfl rfl rfl rfl ?_
    refine jr_iload_n 1 13 dX10_warmsBy_12 rfl rfl rfl ?_
    refine jr_iald rfl rfl (by omega) 14 dX10_warmsBy_13 rfl ?_
    refine jr_aload_n 0 15 dX10_warmsBy_14 rfl rfl rfl ?_
    refine gf_X10_7 18 dX10_warmsBy_15 rfl rfl rfl rfl ?_
    refine jr_aload_n 0 19 dX10_warmsBy_18 rfl rfl rfl ?_
    refine gf_X10_22 22 dX10_warmsBy_19 rfl rfl rfl rfl ?_
    refine jr_iload_n 1 23 dX10_warmsBy_22 rfl rfl rfl ?_
    refine jr_iale rfl rfl (by omega) hse 24 dX10_warmsBy_23 rfl ?_
    refine jr_iald rfl rfl hs 25 dX10_warmsBy_24 rfl ?_
    refine jr_iload_n 2 26 dX10_warmsBy_25 rfl rfl rfl ?_
    refine jr_aload_n 0 27 dX10_warmsBy_26 rfl rfl rfl ?_
    refine jr_iload_n 1 28 dX10_warmsBy_27 rfl rfl rfl ?_
    refine cs_X10_226 31 dX10_warmsBy_28 rfl rfl rfl (Nat.le_of_ble_eq_true rfl) (wp_isSeen hf hkd hc hse hs ?_)
    refine jr_aload_n 0 32 dX10_warmsBy_31 rfl rfl rfl ?_
    refine gf_X10_16 35 dX10_warmsBy_32 rfl rfl rfl rfl ?_
    refine jr_iload_n 1 36 dX10_warmsBy_35 rfl rfl rfl ?_
    refine jr_iald rfl rfl (by omega) 37 dX10_warmsBy_36 rfl ?_
    refine cs_X10_194 40 dX10_warmsBy_37 rfl rfl rfl (Nat.le_of_ble_eq_true rfl) (wp_asksOf (T := T) (n := n) (r := lw) (p := 0) hT hlw hru (by omega) (fun g g2 => ?_))
    refine jr_topi (y := (pu_within (ev_t T lw 0 (pu_nm (σ 66 f) (σ 67 f) (σ 47 s) (nI t) (if (pu_redf 0 (σ 49 f) (σ 47 s)) ≤ σ 66 f then (1 : Int32) else 0) (σ 49 f))) 0 99)) rfl ?_
    refine jr_istore_n 3 (L' := [_, _, _, _, _]) 41 dX10_warmsBy_40 rfl rfl (by decide) rfl ?_
    refine jr_aload_n 0 42 dX10_warmsBy_41 rfl rfl rfl ?_
    refine gf_X10_13 45 dX10_warmsBy_42 rfl rfl rfl rfl ?_
    refine jr_iload_n 1 46 dX10_warmsBy_45 rfl rfl rfl ?_
    refine jr_iale rfl rfl (by omega) hkd 47 dX10_warmsBy_46 rfl ?_
    refine jr_istore (L' := [_, _, _, _, _]) 49 dX10_warmsBy_47 rfl (by decide) rfl ?_
    refine jr_iload 51 dX10_warmsBy_49 rfl rfl ?_
    refine jr_iconst (1) 52 dX10_warmsBy_51 rfl rfl ?_
    refine jr_icmp_eq 61 55 dX10_warmsBy_52 rfl rfl (fun q => absurd q (by decide)) (fun q52 => ?_)
    refine jr_iload 57 dX10_warmsBy_55 rfl rfl ?_
    refine jr_iconst (3) 58 dX10_warmsBy_57 rfl rfl ?_
    refine jr_icmp_ne 78 61 dX10_warmsBy_58 rfl rfl (fun q58 => ?_) (fun q => absurd q (by decide))
    refine jr_iload 80 dX10_warmsBy_78 rfl rfl ?_
    refine jr_iconst (3) 81 dX10_warmsBy_80 rfl rfl ?_
    refine jr_icmp_ne 95 84 dX10_warmsBy_81 rfl rfl (fun q81 => ?_) (fun q => absurd q (by decide))
    refine jr_iload 97 dX10_warmsBy_95 rfl rfl ?_
    refine jr_iconst (5) 98 dX10_warmsBy_97 rfl rfl ?_
    refine jr_icmp_ne 109 101 dX10_warmsBy_98 rfl rfl (fun q98 => ?_) (fun q => absurd q (by decide))
    refine jr_iload_n 3 110 dX10_warmsBy_109 rfl rfl rfl ?_
    refine jr_istore_n 3 (L' := [_, _, _, _, _]) 111 dX10_warmsBy_110 rfl rfl (by decide) rfl ?_
    refine jr_aload_n 0 112 dX10_warmsBy_111 rfl rfl rfl ?_
    refine jr_iload_n 1 113 dX10_warmsBy_112 rfl rfl rfl ?_
    refine jr_iconst (2) 114 dX10_warmsBy_113 rfl rfl ?_
    refine jr_iload_n 2 115 dX10_warmsBy_114 rfl rfl rfl ?_
    refine jr_bipush (40) 117 dX10_warmsBy_115 rfl rfl ?_
    refine cs_X10_219 120 dX10_warmsBy_117 rfl rfl rfl (Nat.le_of_ble_eq_true rfl) (wp_isStopping (fun (qd : pu_do (σ 46 39) (σ 46 40) (σ 46 41) (nI f) 2 (nI t) 40) => ?_) (fun (qd : ¬ pu_do (σ 46 39) (σ 46 40) (σ 46 41) (nI f) 2 (nI t) 40) => ?_))
    · refine jr_if_eq 129 123 dX10_warmsBy_120 rfl rfl (fun q => absurd q (by decide)) (fun q120 => ?_)
      refine jr_iload_n 3 124 dX10_warmsBy_123 rfl rfl rfl ?_
      refine jr_iconst (2) 125 dX10_warmsBy_124 rfl rfl ?_
      refine jr_idiv 126 dX10_warmsBy_125 rfl (by decide) ?_
      refine jr_goto 130 dX10_warmsBy_126 rfl ?_
      refine jr_istore_n 3 (L' := [_, _, _, _, _]) 131 dX10_warmsBy_130 rfl rfl (by decide) rfl ?_
      refine jr_aload_n 0 132 dX10_warmsBy_131 rfl rfl rfl ?_
      refine jr_iload_n 1 133 dX10_warmsBy_132 rfl rfl rfl ?_
      refine jr_iconst (3) 134 dX10_warmsBy_133 rfl rfl ?_
      refine jr_iload_n 2 135 dX10_warmsBy_134 rfl rfl rfl ?_
      refine jr_bipush (10) 137 dX10_warmsBy_135 rfl rfl ?_
      refine cs_X10_219 140 dX10_warmsBy_137 rfl rfl rfl (Nat.le_of_ble_eq_true rfl) (wp_isStopping (fun (qe : pu_do (σ 46 39) (σ 46 40) (σ 46 41) (nI f) 3 (nI t) 10) => ?_) (fun (qe : ¬ pu_do (σ 46 39) (σ 46 40) (σ 46 41) (nI f) 3 (nI t) 10) => ?_))
      · refine jr_if_eq 163 143 dX10_warmsBy_140 rfl rfl (fun q => absurd q (by decide)) (fun q140 => ?_)
        refine jr_iload_n 3 144 dX10_warmsBy_143 rfl rfl rfl ?_
        refine jr_iconst (2) 145 dX10_warmsBy_144 rfl rfl ?_
        refine jr_aload_n 0 146 dX10_warmsBy_145 rfl rfl rfl ?_
        refine gf_X10_16 149 dX10_warmsBy_146 rfl rfl rfl rfl ?_
        refine jr_iload_n 1 150 dX10_warmsBy_149 rfl rfl rfl ?_
        refine jr_iald rfl rfl (by omega) 151 dX10_warmsBy_150 rfl ?_
        refine jr_imul 152 dX10_warmsBy_151 rfl ?_
        refine jr_isub 153 dX10_warmsBy_152 rfl ?_
        refine jr_iconst (0) 154 dX10_warmsBy_153 rfl rfl ?_
        refine jr_sipush (400) 157 dX10_warmsBy_154 rfl rfl ?_
        refine cs_X10_188 160 dX10_warmsBy_157 rfl rfl (Nat.le_of_ble_eq_true rfl) (wp_within ?_)
        refine jr_goto 164 dX10_warmsBy_160 rfl ?_
        refine jr_ireturn dX10_warmsBy_164 rfl rfl ?_
        first
        | exact absurd (qd.2.1.trans qe.2.1.symm) (by decide)
        | (have hw := hk g g2; unfold pu_wso at hw; rw [pu_if_t qd] at hw; skip; exact hw)
        | (have hw := hk g g2; unfold pu_wso at hw; rw [pu_if_f qd, pu_if_t qe, ← hwish] at hw; skip; exact hw)
        | (have hw := hk g g2; unfold pu_wso at hw; rw [pu_if_f qd, pu_if_f qe] at hw; skip; exact hw)
      · refine jr_if_eq 163 143 dX10_warmsBy_140 rfl rfl (fun q140 => ?_) (fun q => absurd (by decide) q)
        refine jr_iload_n 3 164 dX10_warmsBy_163 rfl rfl rfl ?_
        refine jr_ireturn dX10_warmsBy_164 rfl rfl ?_
        first
        | exact absurd (qd.2.1.trans qe.2.1.symm) (by decide)
        | (have hw := hk g g2; unfold pu_wso at hw; rw [pu_if_t qd] at hw; skip; exact hw)
        | (have hw := hk g g2; unfold pu_wso at hw; rw [pu_if_f qd, pu_if_t qe, ← hwish] at hw; skip; exact hw)
        | (have hw := hk g g2; unfold pu_wso at hw; rw [pu_if_f qd, pu_if_f qe] at hw; skip; exact hw)
    · refine jr_if_eq 129 123 dX10_warmsBy_120 rfl rfl (fun q120 => ?_) (fun q => absurd (by decide) q)
      refine jr_iload_n 3 130 dX10_warmsBy_129 rfl rfl rfl ?_
      refine jr_istore_n 3 (L' := [_, _, _, _, _]) 131 dX10_warmsBy_130 rfl rfl (by decide) rfl ?_
      refine jr_aload_n 0 132 dX10_warmsBy_131 rfl rfl rfl ?_
      refine jr_iload_n 1 133 dX10_warmsBy_132 rfl rfl rfl ?_
      refine jr_iconst (3) 134 dX10_warmsBy_133 rfl rfl ?_
      refine jr_iload_n 2 135 dX10_warmsBy_134 rfl rfl rfl ?_
      refine jr_bipush (10) 137 dX10_warmsBy_135 rfl rfl ?_
      refine cs_X10_219 140 dX10_warmsBy_137 rfl rfl rfl (Nat.le_of_ble_eq_true rfl) (wp_isStopping (fun (qe : pu_do (σ 46 39) (σ 46 40) (σ 46 41) (nI f) 3 (nI t) 10) => ?_) (fun (qe : ¬ pu_do (σ 46 39) (σ 46 40) (σ 46 41) (nI f) 3 (nI t) 10) => ?_))
      · refine jr_if_eq 163 143 dX10_warmsBy_140 rfl rfl (fun q => absurd q (by decide)) (fun q140 => ?_)
        refine jr_iload_n 3 144 dX10_warmsBy_143 rfl rfl rfl ?_
        refine jr_iconst (2) 145 dX10_warmsBy_144 rfl rfl ?_
        refine jr_aload_n 0 146 dX10_warmsBy_145 rfl rfl rfl ?_
        refine gf_X10_16 149 dX10_warmsBy_146 rfl rfl rfl rfl ?_
        refine jr_iload_n 1 150 dX10_warmsBy_149 rfl rfl rfl ?_
        refine jr_iald rfl rfl (by omega) 151 dX10_warmsBy_150 rfl ?_
        refine jr_imul 152 dX10_warmsBy_151 rfl ?_
        refine jr_isub 153 dX10_warmsBy_152 rfl ?_
        refine jr_iconst (0) 154 dX10_warmsBy_153 rfl rfl ?_
        refine jr_sipush (400) 157 dX10_warmsBy_154 rfl rfl ?_
        refine cs_X10_188 160 dX10_warmsBy_157 rfl rfl (Nat.le_of_ble_eq_true rfl) (wp_within ?_)
        refine jr_goto 164 dX10_warmsBy_160 rfl ?_
        refine jr_ireturn dX10_warmsBy_164 rfl rfl ?_
        first
        | exact absurd (qd.2.1.trans qe.2.1.symm) (by decide)
        | (have hw := hk g g2; unfold pu_wso at hw; rw [pu_if_t qd] at hw; skip; exact hw)
        | (have hw := hk g g2; unfold pu_wso at hw; rw [pu_if_f qd, pu_if_t qe, ← hwish] at hw; skip; exact hw)
        | (have hw := hk g g2; unfold pu_wso at hw; rw [pu_if_f qd, pu_if_f qe] at hw; skip; exact hw)
      · refine jr_if_eq 163 143 dX10_warmsBy_140 rfl rfl (fun q140 => ?_) (fun q => absurd (by decide) q)
        refine jr_iload_n 3 164 dX10_warmsBy_163 rfl rfl rfl ?_
        refine jr_ireturn dX10_warmsBy_164 rfl rfl ?_
        first
        | exact absurd (qd.2.1.trans qe.2.1.symm) (by decide)
        | (have hw := hk g g2; unfold pu_wso at hw; rw [pu_if_t qd] at hw; skip; exact hw)
        | (have hw := hk g g2; unfold pu_wso at hw; rw [pu_if_f qd, pu_if_t qe, ← hwish] at hw; skip; exact hw)
        | (have hw := hk g g2; unfold pu_wso at hw; rw [pu_if_f qd, pu_if_f qe] at hw; skip; exact hw)
  · refine jr_aload_n 0 1 dX10_warmsBy_0 rfl rfl rfl ?_
    refine jr_iconst (0) 2 dX10_warmsBy_1 rfl rfl ?_
    refine jr_aload_n 0 3 dX10_warmsBy_2 rfl rfl rfl ?_
    refine gf_X10_67 6 dX10_warmsBy_3 rfl rfl rfl rfl ?_
    refine jr_iload_n 1 7 dX10_warmsBy_6 rfl rfl rfl ?_
    refine jr_iald rfl rfl (by omega) 8 dX10_warmsBy_7 rfl ?_
    refine jr_aload_n 0 9 dX10_warmsBy_8 rfl rfl rfl ?_
    refine gf_X10_70 12 dX10_warmsBy_9 rfl rfl rfl rfl ?_
    refine jr_iload_n 1 13 dX10_warmsBy_12 rfl rfl rfl ?_
    refine jr_iald rfl rfl (by omega) 14 dX10_warmsBy_13 rfl ?_
    refine jr_aload_n 0 15 dX10_warmsBy_14 rfl rfl rfl ?_
    refine gf_X10_7 18 dX10_warmsBy_15 rfl rfl rfl rfl ?_
    refine jr_aload_n 0 19 dX10_warmsBy_18 rfl rfl rfl ?_
    refine gf_X10_22 22 dX10_warmsBy_19 rfl rfl rfl rfl ?_
    refine jr_iload_n 1 23 dX10_warmsBy_22 rfl rfl rfl ?_
    refine jr_iale rfl rfl (by omega) hse 24 dX10_warmsBy_23 rfl ?_
    refine jr_iald rfl rfl hs 25 dX10_warmsBy_24 rfl ?_
    refine jr_iload_n 2 26 dX10_warmsBy_25 rfl rfl rfl ?_
    refine jr_aload_n 0 27 dX10_warmsBy_26 rfl rfl rfl ?_
    refine jr_iload_n 1 28 dX10_warmsBy_27 rfl rfl rfl ?_
    refine cs_X10_226 31 dX10_warmsBy_28 rfl rfl rfl (Nat.le_of_ble_eq_true rfl) (wp_isSeen hf hkd hc hse hs ?_)
    refine jr_aload_n 0 32 dX10_warmsBy_31 rfl rfl rfl ?_
    refine gf_X10_16 35 dX10_warmsBy_32 rfl rfl rfl rfl ?_
    refine jr_iload_n 1 36 dX10_warmsBy_35 rfl rfl rfl ?_
    refine jr_iald rfl rfl (by omega) 37 dX10_warmsBy_36 rfl ?_
    refine cs_X10_194 40 dX10_warmsBy_37 rfl rfl rfl (Nat.le_of_ble_eq_true rfl) (wp_asksOf (T := T) (n := n) (r := lw) (p := 0) hT hlw hru (by omega) (fun g g2 => ?_))
    refine jr_topi (y := (pu_within (ev_t T lw 0 (pu_nm (σ 66 f) (σ 67 f) (σ 47 s) (nI t) (if (pu_redf 1 (σ 49 f) (σ 47 s)) ≤ σ 66 f then (1 : Int32) else 0) (σ 49 f))) 0 99)) rfl ?_
    refine jr_istore_n 3 (L' := [_, _, _, _, _]) 41 dX10_warmsBy_40 rfl rfl (by decide) rfl ?_
    refine jr_aload_n 0 42 dX10_warmsBy_41 rfl rfl rfl ?_
    refine gf_X10_13 45 dX10_warmsBy_42 rfl rfl rfl rfl ?_
    refine jr_iload_n 1 46 dX10_warmsBy_45 rfl rfl rfl ?_
    refine jr_iale rfl rfl (by omega) hkd 47 dX10_warmsBy_46 rfl ?_
    refine jr_istore (L' := [_, _, _, _, _]) 49 dX10_warmsBy_47 rfl (by decide) rfl ?_
    refine jr_iload 51 dX10_warmsBy_49 rfl rfl ?_
    refine jr_iconst (1) 52 dX10_warmsBy_51 rfl rfl ?_
    refine jr_icmp_eq 61 55 dX10_warmsBy_52 rfl rfl (fun q52 => ?_) (fun q => absurd (by decide) q)
    refine jr_aload_n 0 62 dX10_warmsBy_61 rfl rfl rfl ?_
    refine jr_iload_n 1 63 dX10_warmsBy_62 rfl rfl rfl ?_
    refine cs_X10_226 66 dX10_warmsBy_63 rfl rfl rfl (Nat.le_of_ble_eq_true rfl) (wp_isSeen hf hkd hc hse hs ?_)
    refine jr_topi (y := (if (pu_redf 1 (σ 49 f) (σ 47 s)) ≤ σ 66 f then (1 : Int32) else 0)) rfl ?_
    refine jr_iconst (1) 67 dX10_warmsBy_66 rfl rfl ?_
    refine jr_icmp_ne 76 70 dX10_warmsBy_67 rfl rfl (fun q67 => ?_) (fun q67 => ?_)
    · refine jr_iload_n 3 77 dX10_warmsBy_76 rfl rfl rfl ?_
      refine jr_istore_n 3 (L' := [_, _, _, _, _]) 78 dX10_warmsBy_77 rfl rfl (by decide) rfl ?_
      refine jr_iload 80 dX10_warmsBy_78 rfl rfl ?_
      refine jr_iconst (3) 81 dX10_warmsBy_80 rfl rfl ?_
      refine jr_icmp_ne 95 84 dX10_warmsBy_81 rfl rfl (fun q81 => ?_) (fun q => absurd q (by decide))
      refine jr_iload 97 dX10_warmsBy_95 rfl rfl ?_
      refine jr_iconst (5) 98 dX10_warmsBy_97 rfl rfl ?_
      refine jr_icmp_ne 109 101 dX10_warmsBy_98 rfl rfl (fun q98 => ?_) (fun q => absurd q (by decide))
      refine jr_iload_n 3 110 dX10_warmsBy_109 rfl rfl rfl ?_
      refine jr_istore_n 3 (L' := [_, _, _, _, _]) 111 dX10_warmsBy_110 rfl rfl (by decide) rfl ?_
      refine jr_aload_n 0 112 dX10_warmsBy_111 rfl rfl rfl ?_
      refine jr_iload_n 1 113 dX10_warmsBy_112 rfl rfl rfl ?_
      refine jr_iconst (2) 114 dX10_warmsBy_113 rfl rfl ?_
      refine jr_iload_n 2 115 dX10_warmsBy_114 rfl rfl rfl ?_
      refine jr_bipush (40) 117 dX10_warmsBy_115 rfl rfl ?_
      refine cs_X10_219 120 dX10_warmsBy_117 rfl rfl rfl (Nat.le_of_ble_eq_true rfl) (wp_isStopping (fun (qd : pu_do (σ 46 39) (σ 46 40) (σ 46 41) (nI f) 2 (nI t) 40) => ?_) (fun (qd : ¬ pu_do (σ 46 39) (σ 46 40) (σ 46 41) (nI f) 2 (nI t) 40) => ?_))
      · refine jr_if_eq 129 123 dX10_warmsBy_120 rfl rfl (fun q => absurd q (by decide)) (fun q120 => ?_)
        refine jr_iload_n 3 124 dX10_warmsBy_123 rfl rfl rfl ?_
        refine jr_iconst (2) 125 dX10_warmsBy_124 rfl rfl ?_
        refine jr_idiv 126 dX10_warmsBy_125 rfl (by decide) ?_
        refine jr_goto 130 dX10_warmsBy_126 rfl ?_
        refine jr_istore_n 3 (L' := [_, _, _, _, _]) 131 dX10_warmsBy_130 rfl rfl (by decide) rfl ?_
        refine jr_aload_n 0 132 dX10_warmsBy_131 rfl rfl rfl ?_
        refine jr_iload_n 1 133 dX10_warmsBy_132 rfl rfl rfl ?_
        refine jr_iconst (3) 134 dX10_warmsBy_133 rfl rfl ?_
        refine jr_iload_n 2 135 dX10_warmsBy_134 rfl rfl rfl ?_
        refine jr_bipush (10) 137 dX10_warmsBy_135 rfl rfl ?_
        refine cs_X10_219 140 dX10_warmsBy_137 rfl rfl rfl (Nat.le_of_ble_eq_true rfl) (wp_isStopping (fun (qe : pu_do (σ 46 39) (σ 46 40) (σ 46 41) (nI f) 3 (nI t) 10) => ?_) (fun (qe : ¬ pu_do (σ 46 39) (σ 46 40) (σ 46 41) (nI f) 3 (nI t) 10) => ?_))
        · refine jr_if_eq 163 143 dX10_warmsBy_140 rfl rfl (fun q => absurd q (by decide)) (fun q140 => ?_)
          refine jr_iload_n 3 144 dX10_warmsBy_143 rfl rfl rfl ?_
          refine jr_iconst (2) 145 dX10_warmsBy_144 rfl rfl ?_
          refine jr_aload_n 0 146 dX10_warmsBy_145 rfl rfl rfl ?_
          refine gf_X10_16 149 dX10_warmsBy_146 rfl rfl rfl rfl ?_
          refine jr_iload_n 1 150 dX10_warmsBy_149 rfl rfl rfl ?_
          refine jr_iald rfl rfl (by omega) 151 dX10_warmsBy_150 rfl ?_
          refine jr_imul 152 dX10_warmsBy_151 rfl ?_
          refine jr_isub 153 dX10_warmsBy_152 rfl ?_
          refine jr_iconst (0) 154 dX10_warmsBy_153 rfl rfl ?_
          refine jr_sipush (400) 157 dX10_warmsBy_154 rfl rfl ?_
          refine cs_X10_188 160 dX10_warmsBy_157 rfl rfl (Nat.le_of_ble_eq_true rfl) (wp_within ?_)
          refine jr_goto 164 dX10_warmsBy_160 rfl ?_
          refine jr_ireturn dX10_warmsBy_164 rfl rfl ?_
          first
          | exact absurd (qd.2.1.trans qe.2.1.symm) (by decide)
          | (have hw := hk g g2; unfold pu_wso at hw; rw [pu_if_t qd] at hw; unfold pu_warms at hw; (first | rw [if_neg (by rw [q67]; decide)] at hw | rw [if_pos (hsn.resolve_right q67)] at hw); exact hw)
          | (have hw := hk g g2; unfold pu_wso at hw; rw [pu_if_f qd, pu_if_t qe, ← hwish] at hw; unfold pu_warms at hw; (first | rw [if_neg (by rw [q67]; decide)] at hw | rw [if_pos (hsn.resolve_right q67)] at hw); exact hw)
          | (have hw := hk g g2; unfold pu_wso at hw; rw [pu_if_f qd, pu_if_f qe] at hw; unfold pu_warms at hw; (first | rw [if_neg (by rw [q67]; decide)] at hw | rw [if_pos (hsn.resolve_right q67)] at hw); exact hw)
        · refine jr_if_eq 163 143 dX10_warmsBy_140 rfl rfl (fun q140 => ?_) (fun q => absurd (by decide) q)
          refine jr_iload_n 3 164 dX10_warmsBy_163 rfl rfl rfl ?_
          refine jr_ireturn dX10_warmsBy_164 rfl rfl ?_
          first
          | exact absurd (qd.2.1.trans qe.2.1.symm) (by decide)
          | (have hw := hk g g2; unfold pu_wso at hw; rw [pu_if_t qd] at hw; unfold pu_warms at hw; (first | rw [if_neg (by rw [q67]; decide)] at hw | rw [if_pos (hsn.resolve_right q67)] at hw); exact hw)
          | (have hw := hk g g2; unfold pu_wso at hw; rw [pu_if_f qd, pu_if_t qe, ← hwish] at hw; unfold pu_warms at hw; (first | rw [if_neg (by rw [q67]; decide)] at hw | rw [if_pos (hsn.resolve_right q67)] at hw); exact hw)
          | (have hw := hk g g2; unfold pu_wso at hw; rw [pu_if_f qd, pu_if_f qe] at hw; unfold pu_warms at hw; (first | rw [if_neg (by rw [q67]; decide)] at hw | rw [if_pos (hsn.resolve_right q67)] at hw); exact hw)
      · refine jr_if_eq 129 123 dX10_warmsBy_120 rfl rfl (fun q120 => ?_) (fun q => absurd (by decide) q)
        refine jr_iload_n 3 130 dX10_warmsBy_129 rfl rfl rfl ?_
        refine jr_istore_n 3 (L' := [_, _, _, _, _]) 131 dX10_warmsBy_130 rfl rfl (by decide) rfl ?_
        refine jr_aload_n 0 132 dX10_warmsBy_131 rfl rfl rfl ?_
        refine jr_iload_n 1 133 dX10_warmsBy_132 rfl rfl rfl ?_
        refine jr_iconst (3) 134 dX10_warmsBy_133 rfl rfl ?_
        refine jr_iload_n 2 135 dX10_warmsBy_134 rfl rfl rfl ?_
        refine jr_bipush (10) 137 dX10_warmsBy_135 rfl rfl ?_
        refine cs_X10_219 140 dX10_warmsBy_137 rfl rfl rfl (Nat.le_of_ble_eq_true rfl) (wp_isStopping (fun (qe : pu_do (σ 46 39) (σ 46 40) (σ 46 41) (nI f) 3 (nI t) 10) => ?_) (fun (qe : ¬ pu_do (σ 46 39) (σ 46 40) (σ 46 41) (nI f) 3 (nI t) 10) => ?_))
        · refine jr_if_eq 163 143 dX10_warmsBy_140 rfl rfl (fun q => absurd q (by decide)) (fun q140 => ?_)
          refine jr_iload_n 3 144 dX10_warmsBy_143 rfl rfl rfl ?_
          refine jr_iconst (2) 145 dX10_warmsBy_144 rfl rfl ?_
          refine jr_aload_n 0 146 dX10_warmsBy_145 rfl rfl rfl ?_
          refine gf_X10_16 149 dX10_warmsBy_146 rfl rfl rfl rfl ?_
          refine jr_iload_n 1 150 dX10_warmsBy_149 rfl rfl rfl ?_
          refine jr_iald rfl rfl (by omega) 151 dX10_warmsBy_150 rfl ?_
          refine jr_imul 152 dX10_warmsBy_151 rfl ?_
          refine jr_isub 153 dX10_warmsBy_152 rfl ?_
          refine jr_iconst (0) 154 dX10_warmsBy_153 rfl rfl ?_
          refine jr_sipush (400) 157 dX10_warmsBy_154 rfl rfl ?_
          refine cs_X10_188 160 dX10_warmsBy_157 rfl rfl (Nat.le_of_ble_eq_true rfl) (wp_within ?_)
          refine jr_goto 164 dX10_warmsBy_160 rfl ?_
          refine jr_ireturn dX10_warmsBy_164 rfl rfl ?_
          first
          | exact absurd (qd.2.1.trans qe.2.1.symm) (by decide)
          | (have hw := hk g g2; unfold pu_wso at hw; rw [pu_if_t qd] at hw; unfold pu_warms at hw; (first | rw [if_neg (by rw [q67]; decide)] at hw | rw [if_pos (hsn.resolve_right q67)] at hw); exact hw)
          | (have hw := hk g g2; unfold pu_wso at hw; rw [pu_if_f qd, pu_if_t qe, ← hwish] at hw; unfold pu_warms at hw; (first | rw [if_neg (by rw [q67]; decide)] at hw | rw [if_pos (hsn.resolve_right q67)] at hw); exact hw)
          | (have hw := hk g g2; unfold pu_wso at hw; rw [pu_if_f qd, pu_if_f qe] at hw; unfold pu_warms at hw; (first | rw [if_neg (by rw [q67]; decide)] at hw | rw [if_pos (hsn.resolve_right q67)] at hw); exact hw)
        · refine jr_if_eq 163 143 dX10_warmsBy_140 rfl rfl (fun q140 => ?_) (fun q => absurd (by decide) q)
          refine jr_iload_n 3 164 dX10_warmsBy_163 rfl rfl rfl ?_
          refine jr_ireturn dX10_warmsBy_164 rfl rfl ?_
          first
          | exact absurd (qd.2.1.trans qe.2.1.symm) (by decide)
          | (have hw := hk g g2; unfold pu_wso at hw; rw [pu_if_t qd] at hw; unfold pu_warms at hw; (first | rw [if_neg (by rw [q67]; decide)] at hw | rw [if_pos (hsn.resolve_right q67)] at hw); exact hw)
          | (have hw := hk g g2; unfold pu_wso at hw; rw [pu_if_f qd, pu_if_t qe, ← hwish] at hw; unfold pu_warms at hw; (first | rw [if_neg (by rw [q67]; decide)] at hw | rw [if_pos (hsn.resolve_right q67)] at hw); exact hw)
          | (have hw := hk g g2; unfold pu_wso at hw; rw [pu_if_f qd, pu_if_f qe] at hw; unfold pu_warms at hw; (first | rw [if_neg (by rw [q67]; decide)] at hw | rw [if_pos (hsn.resolve_right q67)] at hw); exact hw)
    · refine jr_iconst (2) 71 dX10_warmsBy_70 rfl rfl ?_
      refine jr_iload_n 3 72 dX10_warmsBy_71 rfl rfl rfl ?_
      refine jr_imul 73 dX10_warmsBy_72 rfl ?_
      refine jr_goto 77 dX10_warmsBy_73 rfl ?_
      refine jr_istore_n 3 (L' := [_, _, _, _, _]) 78 dX10_warmsBy_77 rfl rfl (by decide) rfl ?_
      refine jr_iload 80 dX10_warmsBy_78 rfl rfl ?_
      refine jr_iconst (3) 81 dX10_warmsBy_80 rfl rfl ?_
      refine jr_icmp_ne 95 84 dX10_warmsBy_81 rfl rfl (fun q81 => ?_) (fun q => absurd q (by decide))
      refine jr_iload 97 dX10_warmsBy_95 rfl rfl ?_
      refine jr_iconst (5) 98 dX10_warmsBy_97 rfl rfl ?_
      refine jr_icmp_ne 109 101 dX10_warmsBy_98 rfl rfl (fun q98 => ?_) (fun q => absurd q (by decide))
      refine jr_iload_n 3 110 dX10_warmsBy_109 rfl rfl rfl ?_
      refine jr_istore_n 3 (L' := [_, _, _, _, _]) 111 dX10_warmsBy_110 rfl rfl (by decide) rfl ?_
      refine jr_aload_n 0 112 dX10_warmsBy_111 rfl rfl rfl ?_
      refine jr_iload_n 1 113 dX10_warmsBy_112 rfl rfl rfl ?_
      refine jr_iconst (2) 114 dX10_warmsBy_113 rfl rfl ?_
      refine jr_iload_n 2 115 dX10_warmsBy_114 rfl rfl rfl ?_
      refine jr_bipush (40) 117 dX10_warmsBy_115 rfl rfl ?_
      refine cs_X10_219 120 dX10_warmsBy_117 rfl rfl rfl (Nat.le_of_ble_eq_true rfl) (wp_isStopping (fun (qd : pu_do (σ 46 39) (σ 46 40) (σ 46 41) (nI f) 2 (nI t) 40) => ?_) (fun (qd : ¬ pu_do (σ 46 39) (σ 46 40) (σ 46 41) (nI f) 2 (nI t) 40) => ?_))
      · refine jr_if_eq 129 123 dX10_warmsBy_120 rfl rfl (fun q => absurd q (by decide)) (fun q120 => ?_)
        refine jr_iload_n 3 124 dX10_warmsBy_123 rfl rfl rfl ?_
        refine jr_iconst (2) 125 dX10_warmsBy_124 rfl rfl ?_
        refine jr_idiv 126 dX10_warmsBy_125 rfl (by decide) ?_
        refine jr_goto 130 dX10_warmsBy_126 rfl ?_
        refine jr_istore_n 3 (L' := [_, _, _, _, _]) 131 dX10_warmsBy_130 rfl rfl (by decide) rfl ?_
        refine jr_aload_n 0 132 dX10_warmsBy_131 rfl rfl rfl ?_
        refine jr_iload_n 1 133 dX10_warmsBy_132 rfl rfl rfl ?_
        refine jr_iconst (3) 134 dX10_warmsBy_133 rfl rfl ?_
        refine jr_iload_n 2 135 dX10_warmsBy_134 rfl rfl rfl ?_
        refine jr_bipush (10) 137 dX10_warmsBy_135 rfl rfl ?_
        refine cs_X10_219 140 dX10_warmsBy_137 rfl rfl rfl (Nat.le_of_ble_eq_true rfl) (wp_isStopping (fun (qe : pu_do (σ 46 39) (σ 46 40) (σ 46 41) (nI f) 3 (nI t) 10) => ?_) (fun (qe : ¬ pu_do (σ 46 39) (σ 46 40) (σ 46 41) (nI f) 3 (nI t) 10) => ?_))
        · refine jr_if_eq 163 143 dX10_warmsBy_140 rfl rfl (fun q => absurd q (by decide)) (fun q140 => ?_)
          refine jr_iload_n 3 144 dX10_warmsBy_143 rfl rfl rfl ?_
          refine jr_iconst (2) 145 dX10_warmsBy_144 rfl rfl ?_
          refine jr_aload_n 0 146 dX10_warmsBy_145 rfl rfl rfl ?_
          refine gf_X10_16 149 dX10_warmsBy_146 rfl rfl rfl rfl ?_
          refine jr_iload_n 1 150 dX10_warmsBy_149 rfl rfl rfl ?_
          refine jr_iald rfl rfl (by omega) 151 dX10_warmsBy_150 rfl ?_
          refine jr_imul 152 dX10_warmsBy_151 rfl ?_
          refine jr_isub 153 dX10_warmsBy_152 rfl ?_
          refine jr_iconst (0) 154 dX10_warmsBy_153 rfl rfl ?_
          refine jr_sipush (400) 157 dX10_warmsBy_154 rfl rfl ?_
          refine cs_X10_188 160 dX10_warmsBy_157 rfl rfl (Nat.le_of_ble_eq_true rfl) (wp_within ?_)
          refine jr_goto 164 dX10_warmsBy_160 rfl ?_
          refine jr_ireturn dX10_warmsBy_164 rfl rfl ?_
          first
          | exact absurd (qd.2.1.trans qe.2.1.symm) (by decide)
          | (have hw := hk g g2; unfold pu_wso at hw; rw [pu_if_t qd] at hw; unfold pu_warms at hw; (first | rw [if_neg (by rw [q67]; decide)] at hw | rw [if_pos (hsn.resolve_right q67)] at hw); exact hw)
          | (have hw := hk g g2; unfold pu_wso at hw; rw [pu_if_f qd, pu_if_t qe, ← hwish] at hw; unfold pu_warms at hw; (first | rw [if_neg (by rw [q67]; decide)] at hw | rw [if_pos (hsn.resolve_right q67)] at hw); exact hw)
          | (have hw := hk g g2; unfold pu_wso at hw; rw [pu_if_f qd, pu_if_f qe] at hw; unfold pu_warms at hw; (first | rw [if_neg (by rw [q67]; decide)] at hw | rw [if_pos (hsn.resolve_right q67)] at hw); exact hw)
        · refine jr_if_eq 163 143 dX10_warmsBy_140 rfl rfl (fun q140 => ?_) (fun q => absurd (by decide) q)
          refine jr_iload_n 3 164 dX10_warmsBy_163 rfl rfl rfl ?_
          refine jr_ireturn dX10_warmsBy_164 rfl rfl ?_
          first
          | exact absurd (qd.2.1.trans qe.2.1.symm) (by decide)
          | (have hw := hk g g2; unfold pu_wso at hw; rw [pu_if_t qd] at hw; unfold pu_warms at hw; (first | rw [if_neg (by rw [q67]; decide)] at hw | rw [if_pos (hsn.resolve_right q67)] at hw); exact hw)
          | (have hw := hk g g2; unfold pu_wso at hw; rw [pu_if_f qd, pu_if_t qe, ← hwish] at hw; unfold pu_warms at hw; (first | rw [if_neg (by rw [q67]; decide)] at hw | rw [if_pos (hsn.resolve_right q67)] at hw); exact hw)
          | (have hw := hk g g2; unfold pu_wso at hw; rw [pu_if_f qd, pu_if_f qe] at hw; unfold pu_warms at hw; (first | rw [if_neg (by rw [q67]; decide)] at hw | rw [if_pos (hsn.resolve_right q67)] at hw); exact hw)
      · refine jr_if_eq 129 123 dX10_warmsBy_120 rfl rfl (fun q120 => ?_) (fun q => absurd (by decide) q)
        refine jr_iload_n 3 130 dX10_warmsBy_129 rfl rfl rfl ?_
        refine jr_istore_n 3 (L' := [_, _, _, _, _]) 131 dX10_warmsBy_130 rfl rfl (by decide) rfl ?_
        refine jr_aload_n 0 132 dX10_warmsBy_131 rfl rfl rfl ?_
        refine jr_iload_n 1 133 dX10_warmsBy_132 rfl rfl rfl ?_
        refine jr_iconst (3) 134 dX10_warmsBy_133 rfl rfl ?_
        refine jr_iload_n 2 135 dX10_warmsBy_134 rfl rfl rfl ?_
        refine jr_bipush (10) 137 dX10_warmsBy_135 rfl rfl ?_
        refine cs_X10_219 140 dX10_warmsBy_137 rfl rfl rfl (Nat.le_of_ble_eq_true rfl) (wp_isStopping (fun (qe : pu_do (σ 46 39) (σ 46 40) (σ 46 41) (nI f) 3 (nI t) 10) => ?_) (fun (qe : ¬ pu_do (σ 46 39) (σ 46 40) (σ 46 41) (nI f) 3 (nI t) 10) => ?_))
        · refine jr_if_eq 163 143 dX10_warmsBy_140 rfl rfl (fun q => absurd q (by decide)) (fun q140 => ?_)
          refine jr_iload_n 3 144 dX10_warmsBy_143 rfl rfl rfl ?_
          refine jr_iconst (2) 145 dX10_warmsBy_144 rfl rfl ?_
          refine jr_aload_n 0 146 dX10_warmsBy_145 rfl rfl rfl ?_
          refine gf_X10_16 149 dX10_warmsBy_146 rfl rfl rfl rfl ?_
          refine jr_iload_n 1 150 dX10_warmsBy_149 rfl rfl rfl ?_
          refine jr_iald rfl rfl (by omega) 151 dX10_warmsBy_150 rfl ?_
          refine jr_imul 152 dX10_warmsBy_151 rfl ?_
          refine jr_isub 153 dX10_warmsBy_152 rfl ?_
          refine jr_iconst (0) 154 dX10_warmsBy_153 rfl rfl ?_
          refine jr_sipush (400) 157 dX10_warmsBy_154 rfl rfl ?_
          refine cs_X10_188 160 dX10_warmsBy_157 rfl rfl (Nat.le_of_ble_eq_true rfl) (wp_within ?_)
          refine jr_goto 164 dX10_warmsBy_160 rfl ?_
          refine jr_ireturn dX10_warmsBy_164 rfl rfl ?_
          first
          | exact absurd (qd.2.1.trans qe.2.1.symm) (by decide)
          | (have hw := hk g g2; unfold pu_wso at hw; rw [pu_if_t qd] at hw; unfold pu_warms at hw; (first | rw [if_neg (by rw [q67]; decide)] at hw | rw [if_pos (hsn.resolve_right q67)] at hw); exact hw)
          | (have hw := hk g g2; unfold pu_wso at hw; rw [pu_if_f qd, pu_if_t qe, ← hwish] at hw; unfold pu_warms at hw; (first | rw [if_neg (by rw [q67]; decide)] at hw | rw [if_pos (hsn.resolve_right q67)] at hw); exact hw)
          | (have hw := hk g g2; unfold pu_wso at hw; rw [pu_if_f qd, pu_if_f qe] at hw; unfold pu_warms at hw; (first | rw [if_neg (by rw [q67]; decide)] at hw | rw [if_pos (hsn.resolve_right q67)] at hw); exact hw)
        · refine jr_if_eq 163 143 dX10_warmsBy_140 rfl rfl (fun q140 => ?_) (fun q => absurd (by decide) q)
          refine jr_iload_n 3 164 dX10_warmsBy_163 rfl rfl rfl ?_
          refine jr_ireturn dX10_warmsBy_164 rfl rfl ?_
          first
          | exact absurd (qd.2.1.trans qe.2.1.symm) (by decide)
          | (have hw := hk g g2; unfold pu_wso at hw; rw [pu_if_t qd] at hw; unfold pu_warms at hw; (first | rw [if_neg (by rw [q67]; decide)] at hw | rw [if_pos (hsn.resolve_right q67)] at hw); exact hw)
          | (have hw := hk g g2; unfold pu_wso at hw; rw [pu_if_f qd, pu_if_t qe, ← hwish] at hw; unfold pu_warms at hw; (first | rw [if_neg (by rw [q67]; decide)] at hw | rw [if_pos (hsn.resolve_right q67)] at hw); exact hw)
          | (have hw := hk g g2; unfold pu_wso at hw; rw [pu_if_f qd, pu_if_f qe] at hw; unfold pu_warms at hw; (first | rw [if_neg (by rw [q67]; decide)] at hw | rw [if_pos (hsn.resolve_right q67)] at hw); exact hw)
  · refine jr_aload_n 0 1 dX10_warmsBy_0 rfl rfl rfl ?_
    refine jr_iconst (0) 2 dX10_warmsBy_1 rfl rfl ?_
    refine jr_aload_n 0 3 dX10_warmsBy_2 rfl rfl rfl ?_
    refine gf_X10_67 6 dX10_warmsBy_3 rfl rfl rfl rfl ?_
    refine jr_iload_n 1 7 dX10_warmsBy_6 rfl rfl rfl ?_
    refine jr_iald rfl rfl (by omega) 8 dX10_warmsBy_7 rfl ?_
    refine jr_aload_n 0 9 dX10_warmsBy_8 rfl rfl rfl ?_
    refine gf_X10_70 12 dX10_warmsBy_9 rfl rfl rfl rfl ?_
    refine jr_iload_n 1 13 dX10_warmsBy_12 rfl rfl rfl ?_
    refine jr_iald rfl rfl (by omega) 14 dX10_warmsBy_13 rfl ?_
    refine jr_aload_n 0 15 dX10_warmsBy_14 rfl rfl rfl ?_
    refine gf_X10_7 18 dX10_warmsBy_15 rfl rfl rfl rfl ?_
    refine jr_aload_n 0 19 dX10_warmsBy_18 rfl rfl rfl ?_
    refine gf_X10_22 22 dX10_warmsBy_19 rfl rfl rfl rfl ?_
    refine jr_iload_n 1 23 dX10_warmsBy_22 rfl rfl rfl ?_
    refine jr_iale rfl rfl (by omega) hse 24 dX10_warmsBy_23 rfl ?_
    refine jr_iald rfl rfl hs 25 dX10_warmsBy_24 rfl ?_
    refine jr_iload_n 2 26 dX10_warmsBy_25 rfl rfl rfl ?_
    refine jr_aload_n 0 27 dX10_warmsBy_26 rfl rfl rfl ?_
    refine jr_iload_n 1 28 dX10_warmsBy_27 rfl rfl rfl ?_
    refine cs_X10_226 31 dX10_warmsBy_28 rfl rfl rfl (Nat.le_of_ble_eq_true rfl) (wp_isSeen hf hkd hc hse hs ?_)
    refine jr_aload_n 0 32 dX10_warmsBy_31 rfl rfl rfl ?_
    refine gf_X10_16 35 dX10_warmsBy_32 rfl rfl rfl rfl ?_
    refine jr_iload_n 1 36 dX10_warmsBy_35 rfl rfl rfl ?_
    refine jr_iald rfl rfl (by omega) 37 dX10_warmsBy_36 rfl ?_
    refine cs_X10_194 40 dX10_warmsBy_37 rfl rfl rfl (Nat.le_of_ble_eq_true rfl) (wp_asksOf (T := T) (n := n) (r := lw) (p := 0) hT hlw hru (by omega) (fun g g2 => ?_))
    refine jr_topi (y := (pu_within (ev_t T lw 0 (pu_nm (σ 66 f) (σ 67 f) (σ 47 s) (nI t) (if (pu_redf 2 (σ 49 f) (σ 47 s)) ≤ σ 66 f then (1 : Int32) else 0) (σ 49 f))) 0 99)) rfl ?_
    refine jr_istore_n 3 (L' := [_, _, _, _, _]) 41 dX10_warmsBy_40 rfl rfl (by decide) rfl ?_
    refine jr_aload_n 0 42 dX10_warmsBy_41 rfl rfl rfl ?_
    refine gf_X10_13 45 dX10_warmsBy_42 rfl rfl rfl rfl ?_
    refine jr_iload_n 1 46 dX10_warmsBy_45 rfl rfl rfl ?_
    refine jr_iale rfl rfl (by omega) hkd 47 dX10_warmsBy_46 rfl ?_
    refine jr_istore (L' := [_, _, _, _, _]) 49 dX10_warmsBy_47 rfl (by decide) rfl ?_
    refine jr_iload 51 dX10_warmsBy_49 rfl rfl ?_
    refine jr_iconst (1) 52 dX10_warmsBy_51 rfl rfl ?_
    refine jr_icmp_eq 61 55 dX10_warmsBy_52 rfl rfl (fun q => absurd q (by decide)) (fun q52 => ?_)
    refine jr_iload 57 dX10_warmsBy_55 rfl rfl ?_
    refine jr_iconst (3) 58 dX10_warmsBy_57 rfl rfl ?_
    refine jr_icmp_ne 78 61 dX10_warmsBy_58 rfl rfl (fun q58 => ?_) (fun q => absurd q (by decide))
    refine jr_iload 80 dX10_warmsBy_78 rfl rfl ?_
    refine jr_iconst (3) 81 dX10_warmsBy_80 rfl rfl ?_
    refine jr_icmp_ne 95 84 dX10_warmsBy_81 rfl rfl (fun q81 => ?_) (fun q => absurd q (by decide))
    refine jr_iload 97 dX10_warmsBy_95 rfl rfl ?_
    refine jr_iconst (5) 98 dX10_warmsBy_97 rfl rfl ?_
    refine jr_icmp_ne 109 101 dX10_warmsBy_98 rfl rfl (fun q98 => ?_) (fun q => absurd q (by decide))
    refine jr_iload_n 3 110 dX10_warmsBy_109 rfl rfl rfl ?_
    refine jr_istore_n 3 (L' := [_, _, _, _, _]) 111 dX10_warmsBy_110 rfl rfl (by decide) rfl ?_
    refine jr_aload_n 0 112 dX10_warmsBy_111 rfl rfl rfl ?_
    refine jr_iload_n 1 113 dX10_warmsBy_112 rfl rfl rfl ?_
    refine jr_iconst (2) 114 dX10_warmsBy_113 rfl rfl ?_
    refine jr_iload_n 2 115 dX10_warmsBy_114 rfl rfl rfl ?_
    refine jr_bipush (40) 117 dX10_warmsBy_115 rfl rfl ?_
    refine cs_X10_219 120 dX10_warmsBy_117 rfl rfl rfl (Nat.le_of_ble_eq_true rfl) (wp_isStopping (fun (qd : pu_do (σ 46 39) (σ 46 40) (σ 46 41) (nI f) 2 (nI t) 40) => ?_) (fun (qd : ¬ pu_do (σ 46 39) (σ 46 40) (σ 46 41) (nI f) 2 (nI t) 40) => ?_))
    · refine jr_if_eq 129 123 dX10_warmsBy_120 rfl rfl (fun q => absurd q (by decide)) (fun q120 => ?_)
      refine jr_iload_n 3 124 dX10_warmsBy_123 rfl rfl rfl ?_
      refine jr_iconst (2) 125 dX10_warmsBy_124 rfl rfl ?_
      refine jr_idiv 126 dX10_warmsBy_125 rfl (by decide) ?_
      refine jr_goto 130 dX10_warmsBy_126 rfl ?_
      refine jr_istore_n 3 (L' := [_, _, _, _, _]) 131 dX10_warmsBy_130 rfl rfl (by decide) rfl ?_
      refine jr_aload_n 0 132 dX10_warmsBy_131 rfl rfl rfl ?_
      refine jr_iload_n 1 133 dX10_warmsBy_132 rfl rfl rfl ?_
      refine jr_iconst (3) 134 dX10_warmsBy_133 rfl rfl ?_
      refine jr_iload_n 2 135 dX10_warmsBy_134 rfl rfl rfl ?_
      refine jr_bipush (10) 137 dX10_warmsBy_135 rfl rfl ?_
      refine cs_X10_219 140 dX10_warmsBy_137 rfl rfl rfl (Nat.le_of_ble_eq_true rfl) (wp_isStopping (fun (qe : pu_do (σ 46 39) (σ 46 40) (σ 46 41) (nI f) 3 (nI t) 10) => ?_) (fun (qe : ¬ pu_do (σ 46 39) (σ 46 40) (σ 46 41) (nI f) 3 (nI t) 10) => ?_))
      · refine jr_if_eq 163 143 dX10_warmsBy_140 rfl rfl (fun q => absurd q (by decide)) (fun q140 => ?_)
        refine jr_iload_n 3 144 dX10_warmsBy_143 rfl rfl rfl ?_
        refine jr_iconst (2) 145 dX10_warmsBy_144 rfl rfl ?_
        refine jr_aload_n 0 146 dX10_warmsBy_145 rfl rfl rfl ?_
        refine gf_X10_16 149 dX10_warmsBy_146 rfl rfl rfl rfl ?_
        refine jr_iload_n 1 150 dX10_warmsBy_149 rfl rfl rfl ?_
        refine jr_iald rfl rfl (by omega) 151 dX10_warmsBy_150 rfl ?_
        refine jr_imul 152 dX10_warmsBy_151 rfl ?_
        refine jr_isub 153 dX10_warmsBy_152 rfl ?_
        refine jr_iconst (0) 154 dX10_warmsBy_153 rfl rfl ?_
        refine jr_sipush (400) 157 dX10_warmsBy_154 rfl rfl ?_
        refine cs_X10_188 160 dX10_warmsBy_157 rfl rfl (Nat.le_of_ble_eq_true rfl) (wp_within ?_)
        refine jr_goto 164 dX10_warmsBy_160 rfl ?_
        refine jr_ireturn dX10_warmsBy_164 rfl rfl ?_
        first
        | exact absurd (qd.2.1.trans qe.2.1.symm) (by decide)
        | (have hw := hk g g2; unfold pu_wso at hw; rw [pu_if_t qd] at hw; skip; exact hw)
        | (have hw := hk g g2; unfold pu_wso at hw; rw [pu_if_f qd, pu_if_t qe, ← hwish] at hw; skip; exact hw)
        | (have hw := hk g g2; unfold pu_wso at hw; rw [pu_if_f qd, pu_if_f qe] at hw; skip; exact hw)
      · refine jr_if_eq 163 143 dX10_warmsBy_140 rfl rfl (fun q140 => ?_) (fun q => absurd (by decide) q)
        refine jr_iload_n 3 164 dX10_warmsBy_163 rfl rfl rfl ?_
        refine jr_ireturn dX10_warmsBy_164 rfl rfl ?_
        first
        | exact absurd (qd.2.1.trans qe.2.1.symm) (by decide)
        | (have hw := hk g g2; unfold pu_wso at hw; rw [pu_if_t qd] at hw; skip; exact hw)
        | (have hw := hk g g2; unfold pu_wso at hw; rw [pu_if_f qd, pu_if_t qe, ← hwish] at hw; skip; exact hw)
        | (have hw := hk g g2; unfold pu_wso at hw; rw [pu_if_f qd, pu_if_f qe] at hw; skip; exact hw)
    · refine jr_if_eq 129 123 dX10_warmsBy_120 rfl rfl (fun q120 => ?_) (fun q => absurd (by decide) q)
      refine jr_iload_n 3 130 dX10_warmsBy_129 rfl rfl rfl ?_
      refine jr_istore_n 3 (L' := [_, _, _, _, _]) 131 dX10_warmsBy_130 rfl rfl (by decide) rfl ?_
      refine jr_aload_n 0 132 dX10_warmsBy_131 rfl rfl rfl ?_
      refine jr_iload_n 1 133 dX10_warmsBy_132 rfl rfl rfl ?_
      refine jr_iconst (3) 134 dX10_warmsBy_133 rfl rfl ?_
      refine jr_iload_n 2 135 dX10_warmsBy_134 rfl rfl rfl ?_
      refine jr_bipush (10) 137 dX10_warmsBy_135 rfl rfl ?_
      refine cs_X10_219 140 dX10_warmsBy_137 rfl rfl rfl (Nat.le_of_ble_eq_true rfl) (wp_isStopping (fun (qe : pu_do (σ 46 39) (σ 46 40) (σ 46 41) (nI f) 3 (nI t) 10) => ?_) (fun (qe : ¬ pu_do (σ 46 39) (σ 46 40) (σ 46 41) (nI f) 3 (nI t) 10) => ?_))
      · refine jr_if_eq 163 143 dX10_warmsBy_140 rfl rfl (fun q => absurd q (by decide)) (fun q140 => ?_)
        refine jr_iload_n 3 144 dX10_warmsBy_143 rfl rfl rfl ?_
        refine jr_iconst (2) 145 dX10_warmsBy_144 rfl rfl ?_
        refine jr_aload_n 0 146 dX10_warmsBy_145 rfl rfl rfl ?_
        refine gf_X10_16 149 dX10_warmsBy_146 rfl rfl rfl rfl ?_
        refine jr_iload_n 1 150 dX10_warmsBy_149 rfl rfl rfl ?_
        refine jr_iald rfl rfl (by omega) 151 dX10_warmsBy_150 rfl ?_
        refine jr_imul 152 dX10_warmsBy_151 rfl ?_
        refine jr_isub 153 dX10_warmsBy_152 rfl ?_
        refine jr_iconst (0) 154 dX10_warmsBy_153 rfl rfl ?_
        refine jr_sipush (400) 157 dX10_warmsBy_154 rfl rfl ?_
        refine cs_X10_188 160 dX10_warmsBy_157 rfl rfl (Nat.le_of_ble_eq_true rfl) (wp_within ?_)
        refine jr_goto 164 dX10_warmsBy_160 rfl ?_
        refine jr_ireturn dX10_warmsBy_164 rfl rfl ?_
        first
        | exact absurd (qd.2.1.trans qe.2.1.symm) (by decide)
        | (have hw := hk g g2; unfold pu_wso at hw; rw [pu_if_t qd] at hw; skip; exact hw)
        | (have hw := hk g g2; unfold pu_wso at hw; rw [pu_if_f qd, pu_if_t qe, ← hwish] at hw; skip; exact hw)
        | (have hw := hk g g2; unfold pu_wso at hw; rw [pu_if_f qd, pu_if_f qe] at hw; skip; exact hw)
      · refine jr_if_eq 163 143 dX10_warmsBy_140 rfl rfl (fun q140 => ?_) (fun q => absurd (by decide) q)
        refine jr_iload_n 3 164 dX10_warmsBy_163 rfl rfl rfl ?_
        refine jr_ireturn dX10_warmsBy_164 rfl rfl ?_
        first
        | exact absurd (qd.2.1.trans qe.2.1.symm) (by decide)
        | (have hw := hk g g2; unfold pu_wso at hw; rw [pu_if_t qd] at hw; skip; exact hw)
        | (have hw := hk g g2; unfold pu_wso at hw; rw [pu_if_f qd, pu_if_t qe, ← hwish] at hw; skip; exact hw)
        | (have hw := hk g g2; unfold pu_wso at hw; rw [pu_if_f qd, pu_if_f qe] at hw; skip; exact hw)
  · refine jr_aload_n 0 1 dX10_warmsBy_0 rfl rfl rfl ?_
    refine jr_iconst (0) 2 dX10_warmsBy_1 rfl rfl ?_
    refine jr_aload_n 0 3 dX10_warmsBy_2 rfl rfl rfl ?_
    refine gf_X10_67 6 dX10_warmsBy_3 rfl rfl rfl rfl ?_
    refine jr_iload_n 1 7 dX10_warmsBy_6 rfl rfl rfl ?_
    refine jr_iald rfl rfl (by omega) 8 dX10_warmsBy_7 rfl ?_
    refine jr_aload_n 0 9 dX10_warmsBy_8 rfl rfl rfl ?_
    refine gf_X10_70 12 dX10_warmsBy_9 rfl rfl rfl rfl ?_
    refine jr_iload_n 1 13 dX10_warmsBy_12 rfl rfl rfl ?_
    refine jr_iald rfl rfl (by omega) 14 dX10_warmsBy_13 rfl ?_
    refine jr_aload_n 0 15 dX10_warmsBy_14 rfl rfl rfl ?_
    refine gf_X10_7 18 dX10_warmsBy_15 rfl rfl rfl rfl ?_
    refine jr_aload_n 0 19 dX10_warmsBy_18 rfl rfl rfl ?_
    refine gf_X10_22 22 dX10_warmsBy_19 rfl rfl rfl rfl ?_
    refine jr_iload_n 1 23 dX10_warmsBy_22 rfl rfl rfl ?_
    refine jr_iale rfl rfl (by omega) hse 24 dX10_warmsBy_23 rfl ?_
    refine jr_iald rfl rfl hs 25 dX10_warmsBy_24 rfl ?_
    refine jr_iload_n 2 26 dX10_warmsBy_25 rfl rfl rfl ?_
    refine jr_aload_n 0 27 dX10_warmsBy_26 rfl rfl rfl ?_
    refine jr_iload_n 1 28 dX10_warmsBy_27 rfl rfl rfl ?_
    refine cs_X10_226 31 dX10_warmsBy_28 rfl rfl rfl (Nat.le_of_ble_eq_true rfl) (wp_isSeen hf hkd hc hse hs ?_)
    refine jr_aload_n 0 32 dX10_warmsBy_31 rfl rfl rfl ?_
    refine gf_X10_16 35 dX10_warmsBy_32 rfl rfl rfl rfl ?_
    refine jr_iload_n 1 36 dX10_warmsBy_35 rfl rfl rfl ?_
    refine jr_iald rfl rfl (by omega) 37 dX10_warmsBy_36 rfl ?_
    refine cs_X10_194 40 dX10_warmsBy_37 rfl rfl rfl (Nat.le_of_ble_eq_true rfl) (wp_asksOf (T := T) (n := n) (r := lw) (p := 0) hT hlw hru (by omega) (fun g g2 => ?_))
    refine jr_topi (y := (pu_within (ev_t T lw 0 (pu_nm (σ 66 f) (σ 67 f) (σ 47 s) (nI t) (if (pu_redf 3 (σ 49 f) (σ 47 s)) ≤ σ 66 f then (1 : Int32) else 0) (σ 49 f))) 0 99)) rfl ?_
    refine jr_istore_n 3 (L' := [_, _, _, _, _]) 41 dX10_warmsBy_40 rfl rfl (by decide) rfl ?_
    refine jr_aload_n 0 42 dX10_warmsBy_41 rfl rfl rfl ?_
    refine gf_X10_13 45 dX10_warmsBy_42 rfl rfl rfl rfl ?_
    refine jr_iload_n 1 46 dX10_warmsBy_45 rfl rfl rfl ?_
    refine jr_iale rfl rfl (by omega) hkd 47 dX10_warmsBy_46 rfl ?_
    refine jr_istore (L' := [_, _, _, _, _]) 49 dX10_warmsBy_47 rfl (by decide) rfl ?_
    refine jr_iload 51 dX10_warmsBy_49 rfl rfl ?_
    refine jr_iconst (1) 52 dX10_warmsBy_51 rfl rfl ?_
    refine jr_icmp_eq 61 55 dX10_warmsBy_52 rfl rfl (fun q => absurd q (by decide)) (fun q52 => ?_)
    refine jr_iload 57 dX10_warmsBy_55 rfl rfl ?_
    refine jr_iconst (3) 58 dX10_warmsBy_57 rfl rfl ?_
    refine jr_icmp_ne 78 61 dX10_warmsBy_58 rfl rfl (fun q => absurd (by decide) q) (fun q58 => ?_)
    refine jr_aload_n 0 62 dX10_warmsBy_61 rfl rfl rfl ?_
    refine jr_iload_n 1 63 dX10_warmsBy_62 rfl rfl rfl ?_
    refine cs_X10_226 66 dX10_warmsBy_63 rfl rfl rfl (Nat.le_of_ble_eq_true rfl) (wp_isSeen hf hkd hc hse hs ?_)
    refine jr_topi (y := (if (pu_redf 3 (σ 49 f) (σ 47 s)) ≤ σ 66 f then (1 : Int32) else 0)) rfl ?_
    refine jr_iconst (1) 67 dX10_warmsBy_66 rfl rfl ?_
    refine jr_icmp_ne 76 70 dX10_warmsBy_67 rfl rfl (fun q67 => ?_) (fun q67 => ?_)
    · refine jr_iload_n 3 77 dX10_warmsBy_76 rfl rfl rfl ?_
      refine jr_istore_n 3 (L' := [_, _, _, _, _]) 78 dX10_warmsBy_77 rfl rfl (by decide) rfl ?_
      refine jr_iload 80 dX10_warmsBy_78 rfl rfl ?_
      refine jr_iconst (3) 81 dX10_warmsBy_80 rfl rfl ?_
      refine jr_icmp_ne 95 84 dX10_warmsBy_81 rfl rfl (fun q => absurd (by decide) q) (fun q81 => ?_)
      refine jr_iload_n 3 85 dX10_warmsBy_84 rfl rfl rfl ?_
      refine jr_aload_n 0 86 dX10_warmsBy_85 rfl rfl rfl ?_
      refine gf_X10_16 89 dX10_warmsBy_86 rfl rfl rfl rfl ?_
      refine jr_iload_n 1 90 dX10_warmsBy_89 rfl rfl rfl ?_
      refine jr_iald rfl rfl (by omega) 91 dX10_warmsBy_90 rfl ?_
      refine jr_iadd 92 dX10_warmsBy_91 rfl ?_
      refine jr_goto 110 dX10_warmsBy_92 rfl ?_
      refine jr_istore_n 3 (L' := [_, _, _, _, _]) 111 dX10_warmsBy_110 rfl rfl (by decide) rfl ?_
      refine jr_aload_n 0 112 dX10_warmsBy_111 rfl rfl rfl ?_
      refine jr_iload_n 1 113 dX10_warmsBy_112 rfl rfl rfl ?_
      refine jr_iconst (2) 114 dX10_warmsBy_113 rfl rfl ?_
      refine jr_iload_n 2 115 dX10_warmsBy_114 rfl rfl rfl ?_
      refine jr_bipush (40) 117 dX10_warmsBy_115 rfl rfl ?_
      refine cs_X10_219 120 dX10_warmsBy_117 rfl rfl rfl (Nat.le_of_ble_eq_true rfl) (wp_isStopping (fun (qd : pu_do (σ 46 39) (σ 46 40) (σ 46 41) (nI f) 2 (nI t) 40) => ?_) (fun (qd : ¬ pu_do (σ 46 39) (σ 46 40) (σ 46 41) (nI f) 2 (nI t) 40) => ?_))
      · refine jr_if_eq 129 123 dX10_warmsBy_120 rfl rfl (fun q => absurd q (by decide)) (fun q120 => ?_)
        refine jr_iload_n 3 124 dX10_warmsBy_123 rfl rfl rfl ?_
        refine jr_iconst (2) 125 dX10_warmsBy_124 rfl rfl ?_
        refine jr_idiv 126 dX10_warmsBy_125 rfl (by decide) ?_
        refine jr_goto 130 dX10_warmsBy_126 rfl ?_
        refine jr_istore_n 3 (L' := [_, _, _, _, _]) 131 dX10_warmsBy_130 rfl rfl (by decide) rfl ?_
        refine jr_aload_n 0 132 dX10_warmsBy_131 rfl rfl rfl ?_
        refine jr_iload_n 1 133 dX10_warmsBy_132 rfl rfl rfl ?_
        refine jr_iconst (3) 134 dX10_warmsBy_133 rfl rfl ?_
        refine jr_iload_n 2 135 dX10_warmsBy_134 rfl rfl rfl ?_
        refine jr_bipush (10) 137 dX10_warmsBy_135 rfl rfl ?_
        refine cs_X10_219 140 dX10_warmsBy_137 rfl rfl rfl (Nat.le_of_ble_eq_true rfl) (wp_isStopping (fun (qe : pu_do (σ 46 39) (σ 46 40) (σ 46 41) (nI f) 3 (nI t) 10) => ?_) (fun (qe : ¬ pu_do (σ 46 39) (σ 46 40) (σ 46 41) (nI f) 3 (nI t) 10) => ?_))
        · refine jr_if_eq 163 143 dX10_warmsBy_140 rfl rfl (fun q => absurd q (by decide)) (fun q140 => ?_)
          refine jr_iload_n 3 144 dX10_warmsBy_143 rfl rfl rfl ?_
          refine jr_iconst (2) 145 dX10_warmsBy_144 rfl rfl ?_
          refine jr_aload_n 0 146 dX10_warmsBy_145 rfl rfl rfl ?_
          refine gf_X10_16 149 dX10_warmsBy_146 rfl rfl rfl rfl ?_
          refine jr_iload_n 1 150 dX10_warmsBy_149 rfl rfl rfl ?_
          refine jr_iald rfl rfl (by omega) 151 dX10_warmsBy_150 rfl ?_
          refine jr_imul 152 dX10_warmsBy_151 rfl ?_
          refine jr_isub 153 dX10_warmsBy_152 rfl ?_
          refine jr_iconst (0) 154 dX10_warmsBy_153 rfl rfl ?_
          refine jr_sipush (400) 157 dX10_warmsBy_154 rfl rfl ?_
          refine cs_X10_188 160 dX10_warmsBy_157 rfl rfl (Nat.le_of_ble_eq_true rfl) (wp_within ?_)
          refine jr_goto 164 dX10_warmsBy_160 rfl ?_
          refine jr_ireturn dX10_warmsBy_164 rfl rfl ?_
          first
          | exact absurd (qd.2.1.trans qe.2.1.symm) (by decide)
          | (have hw := hk g g2; unfold pu_wso at hw; rw [pu_if_t qd] at hw; unfold pu_warms at hw; (first | rw [if_neg (by rw [q67]; decide)] at hw | rw [if_pos (hsn.resolve_right q67)] at hw); exact hw)
          | (have hw := hk g g2; unfold pu_wso at hw; rw [pu_if_f qd, pu_if_t qe, ← hwish] at hw; unfold pu_warms at hw; (first | rw [if_neg (by rw [q67]; decide)] at hw | rw [if_pos (hsn.resolve_right q67)] at hw); exact hw)
          | (have hw := hk g g2; unfold pu_wso at hw; rw [pu_if_f qd, pu_if_f qe] at hw; unfold pu_warms at hw; (first | rw [if_neg (by rw [q67]; decide)] at hw | rw [if_pos (hsn.resolve_right q67)] at hw); exact hw)
        · refine jr_if_eq 163 143 dX10_warmsBy_140 rfl rfl (fun q140 => ?_) (fun q => absurd (by decide) q)
          refine jr_iload_n 3 164 dX10_warmsBy_163 rfl rfl rfl ?_
          refine jr_ireturn dX10_warmsBy_164 rfl rfl ?_
          first
          | exact absurd (qd.2.1.trans qe.2.1.symm) (by decide)
          | (have hw := hk g g2; unfold pu_wso at hw; rw [pu_if_t qd] at hw; unfold pu_warms at hw; (first | rw [if_neg (by rw [q67]; decide)] at hw | rw [if_pos (hsn.resolve_right q67)] at hw); exact hw)
          | (have hw := hk g g2; unfold pu_wso at hw; rw [pu_if_f qd, pu_if_t qe, ← hwish] at hw; unfold pu_warms at hw; (first | rw [if_neg (by rw [q67]; decide)] at hw | rw [if_pos (hsn.resolve_right q67)] at hw); exact hw)
          | (have hw := hk g g2; unfold pu_wso at hw; rw [pu_if_f qd, pu_if_f qe] at hw; unfold pu_warms at hw; (first | rw [if_neg (by rw [q67]; decide)] at hw | rw [if_pos (hsn.resolve_right q67)] at hw); exact hw)
      · refine jr_if_eq 129 123 dX10_warmsBy_120 rfl rfl (fun q120 => ?_) (fun q => absurd (by decide) q)
        refine jr_iload_n 3 130 dX10_warmsBy_129 rfl rfl rfl ?_
        refine jr_istore_n 3 (L' := [_, _, _, _, _]) 131 dX10_warmsBy_130 rfl rfl (by decide) rfl ?_
        refine jr_aload_n 0 132 dX10_warmsBy_131 rfl rfl rfl ?_
        refine jr_iload_n 1 133 dX10_warmsBy_132 rfl rfl rfl ?_
        refine jr_iconst (3) 134 dX10_warmsBy_133 rfl rfl ?_
        refine jr_iload_n 2 135 dX10_warmsBy_134 rfl rfl rfl ?_
        refine jr_bipush (10) 137 dX10_warmsBy_135 rfl rfl ?_
        refine cs_X10_219 140 dX10_warmsBy_137 rfl rfl rfl (Nat.le_of_ble_eq_true rfl) (wp_isStopping (fun (qe : pu_do (σ 46 39) (σ 46 40) (σ 46 41) (nI f) 3 (nI t) 10) => ?_) (fun (qe : ¬ pu_do (σ 46 39) (σ 46 40) (σ 46 41) (nI f) 3 (nI t) 10) => ?_))
        · refine jr_if_eq 163 143 dX10_warmsBy_140 rfl rfl (fun q => absurd q (by decide)) (fun q140 => ?_)
          refine jr_iload_n 3 144 dX10_warmsBy_143 rfl rfl rfl ?_
          refine jr_iconst (2) 145 dX10_warmsBy_144 rfl rfl ?_
          refine jr_aload_n 0 146 dX10_warmsBy_145 rfl rfl rfl ?_
          refine gf_X10_16 149 dX10_warmsBy_146 rfl rfl rfl rfl ?_
          refine jr_iload_n 1 150 dX10_warmsBy_149 rfl rfl rfl ?_
          refine jr_iald rfl rfl (by omega) 151 dX10_warmsBy_150 rfl ?_
          refine jr_imul 152 dX10_warmsBy_151 rfl ?_
          refine jr_isub 153 dX10_warmsBy_152 rfl ?_
          refine jr_iconst (0) 154 dX10_warmsBy_153 rfl rfl ?_
          refine jr_sipush (400) 157 dX10_warmsBy_154 rfl rfl ?_
          refine cs_X10_188 160 dX10_warmsBy_157 rfl rfl (Nat.le_of_ble_eq_true rfl) (wp_within ?_)
          refine jr_goto 164 dX10_warmsBy_160 rfl ?_
          refine jr_ireturn dX10_warmsBy_164 rfl rfl ?_
          first
          | exact absurd (qd.2.1.trans qe.2.1.symm) (by decide)
          | (have hw := hk g g2; unfold pu_wso at hw; rw [pu_if_t qd] at hw; unfold pu_warms at hw; (first | rw [if_neg (by rw [q67]; decide)] at hw | rw [if_pos (hsn.resolve_right q67)] at hw); exact hw)
          | (have hw := hk g g2; unfold pu_wso at hw; rw [pu_if_f qd, pu_if_t qe, ← hwish] at hw; unfold pu_warms at hw; (first | rw [if_neg (by rw [q67]; decide)] at hw | rw [if_pos (hsn.resolve_right q67)] at hw); exact hw)
          | (have hw := hk g g2; unfold pu_wso at hw; rw [pu_if_f qd, pu_if_f qe] at hw; unfold pu_warms at hw; (first | rw [if_neg (by rw [q67]; decide)] at hw | rw [if_pos (hsn.resolve_right q67)] at hw); exact hw)
        · refine jr_if_eq 163 143 dX10_warmsBy_140 rfl rfl (fun q140 => ?_) (fun q => absurd (by decide) q)
          refine jr_iload_n 3 164 dX10_warmsBy_163 rfl rfl rfl ?_
          refine jr_ireturn dX10_warmsBy_164 rfl rfl ?_
          first
          | exact absurd (qd.2.1.trans qe.2.1.symm) (by decide)
          | (have hw := hk g g2; unfold pu_wso at hw; rw [pu_if_t qd] at hw; unfold pu_warms at hw; (first | rw [if_neg (by rw [q67]; decide)] at hw | rw [if_pos (hsn.resolve_right q67)] at hw); exact hw)
          | (have hw := hk g g2; unfold pu_wso at hw; rw [pu_if_f qd, pu_if_t qe, ← hwish] at hw; unfold pu_warms at hw; (first | rw [if_neg (by rw [q67]; decide)] at hw | rw [if_pos (hsn.resolve_right q67)] at hw); exact hw)
          | (have hw := hk g g2; unfold pu_wso at hw; rw [pu_if_f qd, pu_if_f qe] at hw; unfold pu_warms at hw; (first | rw [if_neg (by rw [q67]; decide)] at hw | rw [if_pos (hsn.resolve_right q67)] at hw); exact hw)
    · refine jr_iconst (2) 71 dX10_warmsBy_70 rfl rfl ?_
      refine jr_iload_n 3 72 dX10_warmsBy_71 rfl rfl rfl ?_
      refine jr_imul 73 dX10_warmsBy_72 rfl ?_
      refine jr_goto 77 dX10_warmsBy_73 rfl ?_
      refine jr_istore_n 3 (L' := [_, _, _, _, _]) 78 dX10_warmsBy_77 rfl rfl (by decide) rfl ?_
      refine jr_iload 80 dX10_warmsBy_78 rfl rfl ?_
      refine jr_iconst (3) 81 dX10_warmsBy_80 rfl rfl ?_
      refine jr_icmp_ne 95 84 dX10_warmsBy_81 rfl rfl (fun q => absurd (by decide) q) (fun q81 => ?_)
      refine jr_iload_n 3 85 dX10_warmsBy_84 rfl rfl rfl ?_
      refine jr_aload_n 0 86 dX10_warmsBy_85 rfl rfl rfl ?_
      refine gf_X10_16 89 dX10_warmsBy_86 rfl rfl rfl rfl ?_
      refine jr_iload_n 1 90 dX10_warmsBy_89 rfl rfl rfl ?_
      refine jr_iald rfl rfl (by omega) 91 dX10_warmsBy_90 rfl ?_
      refine jr_iadd 92 dX10_warmsBy_91 rfl ?_
      refine jr_goto 110 dX10_warmsBy_92 rfl ?_
      refine jr_istore_n 3 (L' := [_, _, _, _, _]) 111 dX10_warmsBy_110 rfl rfl (by decide) rfl ?_
      refine jr_aload_n 0 112 dX10_warmsBy_111 rfl rfl rfl ?_
      refine jr_iload_n 1 113 dX10_warmsBy_112 rfl rfl rfl ?_
      refine jr_iconst (2) 114 dX10_warmsBy_113 rfl rfl ?_
      refine jr_iload_n 2 115 dX10_warmsBy_114 rfl rfl rfl ?_
      refine jr_bipush (40) 117 dX10_warmsBy_115 rfl rfl ?_
      refine cs_X10_219 120 dX10_warmsBy_117 rfl rfl rfl (Nat.le_of_ble_eq_true rfl) (wp_isStopping (fun (qd : pu_do (σ 46 39) (σ 46 40) (σ 46 41) (nI f) 2 (nI t) 40) => ?_) (fun (qd : ¬ pu_do (σ 46 39) (σ 46 40) (σ 46 41) (nI f) 2 (nI t) 40) => ?_))
      · refine jr_if_eq 129 123 dX10_warmsBy_120 rfl rfl (fun q => absurd q (by decide)) (fun q120 => ?_)
        refine jr_iload_n 3 124 dX10_warmsBy_123 rfl rfl rfl ?_
        refine jr_iconst (2) 125 dX10_warmsBy_124 rfl rfl ?_
        refine jr_idiv 126 dX10_warmsBy_125 rfl (by decide) ?_
        refine jr_goto 130 dX10_warmsBy_126 rfl ?_
        refine jr_istore_n 3 (L' := [_, _, _, _, _]) 131 dX10_warmsBy_130 rfl rfl (by decide) rfl ?_
        refine jr_aload_n 0 132 dX10_warmsBy_131 rfl rfl rfl ?_
        refine jr_iload_n 1 133 dX10_warmsBy_132 rfl rfl rfl ?_
        refine jr_iconst (3) 134 dX10_warmsBy_133 rfl rfl ?_
        refine jr_iload_n 2 135 dX10_warmsBy_134 rfl rfl rfl ?_
        refine jr_bipush (10) 137 dX10_warmsBy_135 rfl rfl ?_
        refine cs_X10_219 140 dX10_warmsBy_137 rfl rfl rfl (Nat.le_of_ble_eq_true rfl) (wp_isStopping (fun (qe : pu_do (σ 46 39) (σ 46 40) (σ 46 41) (nI f) 3 (nI t) 10) => ?_) (fun (qe : ¬ pu_do (σ 46 39) (σ 46 40) (σ 46 41) (nI f) 3 (nI t) 10) => ?_))
        · refine jr_if_eq 163 143 dX10_warmsBy_140 rfl rfl (fun q => absurd q (by decide)) (fun q140 => ?_)
          refine jr_iload_n 3 144 dX10_warmsBy_143 rfl rfl rfl ?_
          refine jr_iconst (2) 145 dX10_warmsBy_144 rfl rfl ?_
          refine jr_aload_n 0 146 dX10_warmsBy_145 rfl rfl rfl ?_
          refine gf_X10_16 149 dX10_warmsBy_146 rfl rfl rfl rfl ?_
          refine jr_iload_n 1 150 dX10_warmsBy_149 rfl rfl rfl ?_
          refine jr_iald rfl rfl (by omega) 151 dX10_warmsBy_150 rfl ?_
          refine jr_imul 152 dX10_warmsBy_151 rfl ?_
          refine jr_isub 153 dX10_warmsBy_152 rfl ?_
          refine jr_iconst (0) 154 dX10_warmsBy_153 rfl rfl ?_
          refine jr_sipush (400) 157 dX10_warmsBy_154 rfl rfl ?_
          refine cs_X10_188 160 dX10_warmsBy_157 rfl rfl (Nat.le_of_ble_eq_true rfl) (wp_within ?_)
          refine jr_goto 164 dX10_warmsBy_160 rfl ?_
          refine jr_ireturn dX10_warmsBy_164 rfl rfl ?_
          first
          | exact absurd (qd.2.1.trans qe.2.1.symm) (by decide)
          | (have hw := hk g g2; unfold pu_wso at hw; rw [pu_if_t qd] at hw; unfold pu_warms at hw; (first | rw [if_neg (by rw [q67]; decide)] at hw | rw [if_pos (hsn.resolve_right q67)] at hw); exact hw)
          | (have hw := hk g g2; unfold pu_wso at hw; rw [pu_if_f qd, pu_if_t qe, ← hwish] at hw; unfold pu_warms at hw; (first | rw [if_neg (by rw [q67]; decide)] at hw | rw [if_pos (hsn.resolve_right q67)] at hw); exact hw)
          | (have hw := hk g g2; unfold pu_wso at hw; rw [pu_if_f qd, pu_if_f qe] at hw; unfold pu_warms at hw; (first | rw [if_neg (by rw [q67]; decide)] at hw | rw [if_pos (hsn.resolve_right q67)] at hw); exact hw)
        · refine jr_if_eq 163 143 dX10_warmsBy_140 rfl rfl (fun q140 => ?_) (fun q => absurd (by decide) q)
          refine jr_iload_n 3 164 dX10_warmsBy_163 rfl rfl rfl ?_
          refine jr_ireturn dX10_warmsBy_164 rfl rfl ?_
          first
          | exact absurd (qd.2.1.trans qe.2.1.symm) (by decide)
          | (have hw := hk g g2; unfold pu_wso at hw; rw [pu_if_t qd] at hw; unfold pu_warms at hw; (first | rw [if_neg (by rw [q67]; decide)] at hw | rw [if_pos (hsn.resolve_right q67)] at hw); exact hw)
          | (have hw := hk g g2; unfold pu_wso at hw; rw [pu_if_f qd, pu_if_t qe, ← hwish] at hw; unfold pu_warms at hw; (first | rw [if_neg (by rw [q67]; decide)] at hw | rw [if_pos (hsn.resolve_right q67)] at hw); exact hw)
          | (have hw := hk g g2; unfold pu_wso at hw; rw [pu_if_f qd, pu_if_f qe] at hw; unfold pu_warms at hw; (first | rw [if_neg (by rw [q67]; decide)] at hw | rw [if_pos (hsn.resolve_right q67)] at hw); exact hw)
      · refine jr_if_eq 129 123 dX10_warmsBy_120 rfl rfl (fun q120 => ?_) (fun q => absurd (by decide) q)
        refine jr_iload_n 3 130 dX10_warmsBy_129 rfl rfl rfl ?_
        refine jr_istore_n 3 (L' := [_, _, _, _, _]) 131 dX10_warmsBy_130 rfl rfl (by decide) rfl ?_
        refine jr_aload_n 0 132 dX10_warmsBy_131 rfl rfl rfl ?_
        refine jr_iload_n 1 133 dX10_warmsBy_132 rfl rfl rfl ?_
        refine jr_iconst (3) 134 dX10_warmsBy_133 rfl rfl ?_
        refine jr_iload_n 2 135 dX10_warmsBy_134 rfl rfl rfl ?_
        refine jr_bipush (10) 137 dX10_warmsBy_135 rfl rfl ?_
        refine cs_X10_219 140 dX10_warmsBy_137 rfl rfl rfl (Nat.le_of_ble_eq_true rfl) (wp_isStopping (fun (qe : pu_do (σ 46 39) (σ 46 40) (σ 46 41) (nI f) 3 (nI t) 10) => ?_) (fun (qe : ¬ pu_do (σ 46 39) (σ 46 40) (σ 46 41) (nI f) 3 (nI t) 10) => ?_))
        · refine jr_if_eq 163 143 dX10_warmsBy_140 rfl rfl (fun q => absurd q (by decide)) (fun q140 => ?_)
          refine jr_iload_n 3 144 dX10_warmsBy_143 rfl rfl rfl ?_
          refine jr_iconst (2) 145 dX10_warmsBy_144 rfl rfl ?_
          refine jr_aload_n 0 146 dX10_warmsBy_145 rfl rfl rfl ?_
          refine gf_X10_16 149 dX10_warmsBy_146 rfl rfl rfl rfl ?_
          refine jr_iload_n 1 150 dX10_warmsBy_149 rfl rfl rfl ?_
          refine jr_iald rfl rfl (by omega) 151 dX10_warmsBy_150 rfl ?_
          refine jr_imul 152 dX10_warmsBy_151 rfl ?_
          refine jr_isub 153 dX10_warmsBy_152 rfl ?_
          refine jr_iconst (0) 154 dX10_warmsBy_153 rfl rfl ?_
          refine jr_sipush (400) 157 dX10_warmsBy_154 rfl rfl ?_
          refine cs_X10_188 160 dX10_warmsBy_157 rfl rfl (Nat.le_of_ble_eq_true rfl) (wp_within ?_)
          refine jr_goto 164 dX10_warmsBy_160 rfl ?_
          refine jr_ireturn dX10_warmsBy_164 rfl rfl ?_
          first
          | exact absurd (qd.2.1.trans qe.2.1.symm) (by decide)
          | (have hw := hk g g2; unfold pu_wso at hw; rw [pu_if_t qd] at hw; unfold pu_warms at hw; (first | rw [if_neg (by rw [q67]; decide)] at hw | rw [if_pos (hsn.resolve_right q67)] at hw); exact hw)
          | (have hw := hk g g2; unfold pu_wso at hw; rw [pu_if_f qd, pu_if_t qe, ← hwish] at hw; unfold pu_warms at hw; (first | rw [if_neg (by rw [q67]; decide)] at hw | rw [if_pos (hsn.resolve_right q67)] at hw); exact hw)
          | (have hw := hk g g2; unfold pu_wso at hw; rw [pu_if_f qd, pu_if_f qe] at hw; unfold pu_warms at hw; (first | rw [if_neg (by rw [q67]; decide)] at hw | rw [if_pos (hsn.resolve_right q67)] at hw); exact hw)
        · refine jr_if_eq 163 143 dX10_warmsBy_140 rfl rfl (fun q140 => ?_) (fun q => absurd (by decide) q)
          refine jr_iload_n 3 164 dX10_warmsBy_163 rfl rfl rfl ?_
          refine jr_ireturn dX10_warmsBy_164 rfl rfl ?_
          first
          | exact absurd (qd.2.1.trans qe.2.1.symm) (by decide)
          | (have hw := hk g g2; unfold pu_wso at hw; rw [pu_if_t qd] at hw; unfold pu_warms at hw; (first | rw [if_neg (by rw [q67]; decide)] at hw | rw [if_pos (hsn.resolve_right q67)] at hw); exact hw)
          | (have hw := hk g g2; unfold pu_wso at hw; rw [pu_if_f qd, pu_if_t qe, ← hwish] at hw; unfold pu_warms at hw; (first | rw [if_neg (by rw [q67]; decide)] at hw | rw [if_pos (hsn.resolve_right q67)] at hw); exact hw)
          | (have hw := hk g g2; unfold pu_wso at hw; rw [pu_if_f qd, pu_if_f qe] at hw; unfold pu_warms at hw; (first | rw [if_neg (by rw [q67]; decide)] at hw | rw [if_pos (hsn.resolve_right q67)] at hw); exact hw)
  · refine jr_aload_n 0 1 dX10_warmsBy_0 rfl rfl rfl ?_
    refine jr_iconst (0) 2 dX10_warmsBy_1 rfl rfl ?_
    refine jr_aload_n 0 3 dX10_warmsBy_2 rfl rfl rfl ?_
    refine gf_X10_67 6 dX10_warmsBy_3 rfl rfl rfl rfl ?_
    refine jr_iload_n 1 7 dX10_warmsBy_6 rfl rfl rfl ?_
    refine jr_iald rfl rfl (by omega) 8 dX10_warmsBy_7 rfl ?_
    refine jr_aload_n 0 9 dX10_warmsBy_8 rfl rfl rfl ?_
    refine gf_X10_70 12 dX10_warmsBy_9 rfl rfl rfl rfl ?_
    refine jr_iload_n 1 13 dX10_warmsBy_12 rfl rfl rfl ?_
    refine jr_iald rfl rfl (by omega) 14 dX10_warmsBy_13 rfl ?_
    refine jr_aload_n 0 15 dX10_warmsBy_14 rfl rfl rfl ?_
    refine gf_X10_7 18 dX10_warmsBy_15 rfl rfl rfl rfl ?_
    refine jr_aload_n 0 19 dX10_warmsBy_18 rfl rfl rfl ?_
    refine gf_X10_22 22 dX10_warmsBy_19 rfl rfl rfl rfl ?_
    refine jr_iload_n 1 23 dX10_warmsBy_22 rfl rfl rfl ?_
    refine jr_iale rfl rfl (by omega) hse 24 dX10_warmsBy_23 rfl ?_
    refine jr_iald rfl rfl hs 25 dX10_warmsBy_24 rfl ?_
    refine jr_iload_n 2 26 dX10_warmsBy_25 rfl rfl rfl ?_
    refine jr_aload_n 0 27 dX10_warmsBy_26 rfl rfl rfl ?_
    refine jr_iload_n 1 28 dX10_warmsBy_27 rfl rfl rfl ?_
    refine cs_X10_226 31 dX10_warmsBy_28 rfl rfl rfl (Nat.le_of_ble_eq_true rfl) (wp_isSeen hf hkd hc hse hs ?_)
    refine jr_aload_n 0 32 dX10_warmsBy_31 rfl rfl rfl ?_
    refine gf_X10_16 35 dX10_warmsBy_32 rfl rfl rfl rfl ?_
    refine jr_iload_n 1 36 dX10_warmsBy_35 rfl rfl rfl ?_
    refine jr_iald rfl rfl (by omega) 37 dX10_warmsBy_36 rfl ?_
    refine cs_X10_194 40 dX10_warmsBy_37 rfl rfl rfl (Nat.le_of_ble_eq_true rfl) (wp_asksOf (T := T) (n := n) (r := lw) (p := 0) hT hlw hru (by omega) (fun g g2 => ?_))
    refine jr_topi (y := (pu_within (ev_t T lw 0 (pu_nm (σ 66 f) (σ 67 f) (σ 47 s) (nI t) (if (pu_redf 4 (σ 49 f) (σ 47 s)) ≤ σ 66 f then (1 : Int32) else 0) (σ 49 f))) 0 99)) rfl ?_
    refine jr_istore_n 3 (L' := [_, _, _, _, _]) 41 dX10_warmsBy_40 rfl rfl (by decide) rfl ?_
    refine jr_aload_n 0 42 dX10_warmsBy_41 rfl rfl rfl ?_
    refine gf_X10_13 45 dX10_warmsBy_42 rfl rfl rfl rfl ?_
    refine jr_iload_n 1 46 dX10_warmsBy_45 rfl rfl rfl ?_
    refine jr_iale rfl rfl (by omega) hkd 47 dX10_warmsBy_46 rfl ?_
    refine jr_istore (L' := [_, _, _, _, _]) 49 dX10_warmsBy_47 rfl (by decide) rfl ?_
    refine jr_iload 51 dX10_warmsBy_49 rfl rfl ?_
    refine jr_iconst (1) 52 dX10_warmsBy_51 rfl rfl ?_
    refine jr_icmp_eq 61 55 dX10_warmsBy_52 rfl rfl (fun q => absurd q (by decide)) (fun q52 => ?_)
    refine jr_iload 57 dX10_warmsBy_55 rfl rfl ?_
    refine jr_iconst (3) 58 dX10_warmsBy_57 rfl rfl ?_
    refine jr_icmp_ne 78 61 dX10_warmsBy_58 rfl rfl (fun q58 => ?_) (fun q => absurd q (by decide))
    refine jr_iload 80 dX10_warmsBy_78 rfl rfl ?_
    refine jr_iconst (3) 81 dX10_warmsBy_80 rfl rfl ?_
    refine jr_icmp_ne 95 84 dX10_warmsBy_81 rfl rfl (fun q81 => ?_) (fun q => absurd q (by decide))
    refine jr_iload 97 dX10_warmsBy_95 rfl rfl ?_
    refine jr_iconst (5) 98 dX10_warmsBy_97 rfl rfl ?_
    refine jr_icmp_ne 109 101 dX10_warmsBy_98 rfl rfl (fun q98 => ?_) (fun q => absurd q (by decide))
    refine jr_iload_n 3 110 dX10_warmsBy_109 rfl rfl rfl ?_
    refine jr_istore_n 3 (L' := [_, _, _, _, _]) 111 dX10_warmsBy_110 rfl rfl (by decide) rfl ?_
    refine jr_aload_n 0 112 dX10_warmsBy_111 rfl rfl rfl ?_
    refine jr_iload_n 1 113 dX10_warmsBy_112 rfl rfl rfl ?_
    refine jr_iconst (2) 114 dX10_warmsBy_113 rfl rfl ?_
    refine jr_iload_n 2 115 dX10_warmsBy_114 rfl rfl rfl ?_
    refine jr_bipush (40) 117 dX10_warmsBy_115 rfl rfl ?_
    refine cs_X10_219 120 dX10_warmsBy_117 rfl rfl rfl (Nat.le_of_ble_eq_true rfl) (wp_isStopping (fun (qd : pu_do (σ 46 39) (σ 46 40) (σ 46 41) (nI f) 2 (nI t) 40) => ?_) (fun (qd : ¬ pu_do (σ 46 39) (σ 46 40) (σ 46 41) (nI f) 2 (nI t) 40) => ?_))
    · refine jr_if_eq 129 123 dX10_warmsBy_120 rfl rfl (fun q => absurd q (by decide)) (fun q120 => ?_)
      refine jr_iload_n 3 124 dX10_warmsBy_123 rfl rfl rfl ?_
      refine jr_iconst (2) 125 dX10_warmsBy_124 rfl rfl ?_
      refine jr_idiv 126 dX10_warmsBy_125 rfl (by decide) ?_
      refine jr_goto 130 dX10_warmsBy_126 rfl ?_
      refine jr_istore_n 3 (L' := [_, _, _, _, _]) 131 dX10_warmsBy_130 rfl rfl (by decide) rfl ?_
      refine jr_aload_n 0 132 dX10_warmsBy_131 rfl rfl rfl ?_
      refine jr_iload_n 1 133 dX10_warmsBy_132 rfl rfl rfl ?_
      refine jr_iconst (3) 134 dX10_warmsBy_133 rfl rfl ?_
      refine jr_iload_n 2 135 dX10_warmsBy_134 rfl rfl rfl ?_
      refine jr_bipush (10) 137 dX10_warmsBy_135 rfl rfl ?_
      refine cs_X10_219 140 dX10_warmsBy_137 rfl rfl rfl (Nat.le_of_ble_eq_true rfl) (wp_isStopping (fun (qe : pu_do (σ 46 39) (σ 46 40) (σ 46 41) (nI f) 3 (nI t) 10) => ?_) (fun (qe : ¬ pu_do (σ 46 39) (σ 46 40) (σ 46 41) (nI f) 3 (nI t) 10) => ?_))
      · refine jr_if_eq 163 143 dX10_warmsBy_140 rfl rfl (fun q => absurd q (by decide)) (fun q140 => ?_)
        refine jr_iload_n 3 144 dX10_warmsBy_143 rfl rfl rfl ?_
        refine jr_iconst (2) 145 dX10_warmsBy_144 rfl rfl ?_
        refine jr_aload_n 0 146 dX10_warmsBy_145 rfl rfl rfl ?_
        refine gf_X10_16 149 dX10_warmsBy_146 rfl rfl rfl rfl ?_
        refine jr_iload_n 1 150 dX10_warmsBy_149 rfl rfl rfl ?_
        refine jr_iald rfl rfl (by omega) 151 dX10_warmsBy_150 rfl ?_
        refine jr_imul 152 dX10_warmsBy_151 rfl ?_
        refine jr_isub 153 dX10_warmsBy_152 rfl ?_
        refine jr_iconst (0) 154 dX10_warmsBy_153 rfl rfl ?_
        refine jr_sipush (400) 157 dX10_warmsBy_154 rfl rfl ?_
        refine cs_X10_188 160 dX10_warmsBy_157 rfl rfl (Nat.le_of_ble_eq_true rfl) (wp_within ?_)
        refine jr_goto 164 dX10_warmsBy_160 rfl ?_
        refine jr_ireturn dX10_warmsBy_164 rfl rfl ?_
        first
        | exact absurd (qd.2.1.trans qe.2.1.symm) (by decide)
        | (have hw := hk g g2; unfold pu_wso at hw; rw [pu_if_t qd] at hw; skip; exact hw)
        | (have hw := hk g g2; unfold pu_wso at hw; rw [pu_if_f qd, pu_if_t qe, ← hwish] at hw; skip; exact hw)
        | (have hw := hk g g2; unfold pu_wso at hw; rw [pu_if_f qd, pu_if_f qe] at hw; skip; exact hw)
      · refine jr_if_eq 163 143 dX10_warmsBy_140 rfl rfl (fun q140 => ?_) (fun q => absurd (by decide) q)
        refine jr_iload_n 3 164 dX10_warmsBy_163 rfl rfl rfl ?_
        refine jr_ireturn dX10_warmsBy_164 rfl rfl ?_
        first
        | exact absurd (qd.2.1.trans qe.2.1.symm) (by decide)
        | (have hw := hk g g2; unfold pu_wso at hw; rw [pu_if_t qd] at hw; skip; exact hw)
        | (have hw := hk g g2; unfold pu_wso at hw; rw [pu_if_f qd, pu_if_t qe, ← hwish] at hw; skip; exact hw)
        | (have hw := hk g g2; unfold pu_wso at hw; rw [pu_if_f qd, pu_if_f qe] at hw; skip; exact hw)
    · refine jr_if_eq 129 123 dX10_warmsBy_120 rfl rfl (fun q120 => ?_) (fun q => absurd (by decide) q)
      refine jr_iload_n 3 130 dX10_warmsBy_129 rfl rfl rfl ?_
      refine jr_istore_n 3 (L' := [_, _, _, _, _]) 131 dX10_warmsBy_130 rfl rfl (by decide) rfl ?_
      refine jr_aload_n 0 132 dX10_warmsBy_131 rfl rfl rfl ?_
      refine jr_iload_n 1 133 dX10_warmsBy_132 rfl rfl rfl ?_
      refine jr_iconst (3) 134 dX10_warmsBy_133 rfl rfl ?_
      refine jr_iload_n 2 135 dX10_warmsBy_134 rfl rfl rfl ?_
      refine jr_bipush (10) 137 dX10_warmsBy_135 rfl rfl ?_
      refine cs_X10_219 140 dX10_warmsBy_137 rfl rfl rfl (Nat.le_of_ble_eq_true rfl) (wp_isStopping (fun (qe : pu_do (σ 46 39) (σ 46 40) (σ 46 41) (nI f) 3 (nI t) 10) => ?_) (fun (qe : ¬ pu_do (σ 46 39) (σ 46 40) (σ 46 41) (nI f) 3 (nI t) 10) => ?_))
      · refine jr_if_eq 163 143 dX10_warmsBy_140 rfl rfl (fun q => absurd q (by decide)) (fun q140 => ?_)
        refine jr_iload_n 3 144 dX10_warmsBy_143 rfl rfl rfl ?_
        refine jr_iconst (2) 145 dX10_warmsBy_144 rfl rfl ?_
        refine jr_aload_n 0 146 dX10_warmsBy_145 rfl rfl rfl ?_
        refine gf_X10_16 149 dX10_warmsBy_146 rfl rfl rfl rfl ?_
        refine jr_iload_n 1 150 dX10_warmsBy_149 rfl rfl rfl ?_
        refine jr_iald rfl rfl (by omega) 151 dX10_warmsBy_150 rfl ?_
        refine jr_imul 152 dX10_warmsBy_151 rfl ?_
        refine jr_isub 153 dX10_warmsBy_152 rfl ?_
        refine jr_iconst (0) 154 dX10_warmsBy_153 rfl rfl ?_
        refine jr_sipush (400) 157 dX10_warmsBy_154 rfl rfl ?_
        refine cs_X10_188 160 dX10_warmsBy_157 rfl rfl (Nat.le_of_ble_eq_true rfl) (wp_within ?_)
        refine jr_goto 164 dX10_warmsBy_160 rfl ?_
        refine jr_ireturn dX10_warmsBy_164 rfl rfl ?_
        first
        | exact absurd (qd.2.1.trans qe.2.1.symm) (by decide)
        | (have hw := hk g g2; unfold pu_wso at hw; rw [pu_if_t qd] at hw; skip; exact hw)
        | (have hw := hk g g2; unfold pu_wso at hw; rw [pu_if_f qd, pu_if_t qe, ← hwish] at hw; skip; exact hw)
        | (have hw := hk g g2; unfold pu_wso at hw; rw [pu_if_f qd, pu_if_f qe] at hw; skip; exact hw)
      · refine jr_if_eq 163 143 dX10_warmsBy_140 rfl rfl (fun q140 => ?_) (fun q => absurd (by decide) q)
        refine jr_iload_n 3 164 dX10_warmsBy_163 rfl rfl rfl ?_
        refine jr_ireturn dX10_warmsBy_164 rfl rfl ?_
        first
        | exact absurd (qd.2.1.trans qe.2.1.symm) (by decide)
        | (have hw := hk g g2; unfold pu_wso at hw; rw [pu_if_t qd] at hw; skip; exact hw)
        | (have hw := hk g g2; unfold pu_wso at hw; rw [pu_if_f qd, pu_if_t qe, ← hwish] at hw; skip; exact hw)
        | (have hw := hk g g2; unfold pu_wso at hw; rw [pu_if_f qd, pu_if_f qe] at hw; skip; exact hw)
  · refine jr_aload_n 0 1 dX10_warmsBy_0 rfl rfl rfl ?_
    refine jr_iconst (0) 2 dX10_warmsBy_1 rfl rfl ?_
    refine jr_aload_n 0 3 dX10_warmsBy_2 rfl rfl rfl ?_
    refine gf_X10_67 6 dX10_warmsBy_3 rfl rfl rfl rfl ?_
    refine jr_iload_n 1 7 dX10_warmsBy_6 rfl rfl rfl ?_
    refine jr_iald rfl rfl (by omega) 8 dX10_warmsBy_7 rfl ?_
    refine jr_aload_n 0 9 dX10_warmsBy_8 rfl rfl rfl ?_
    refine gf_X10_70 12 dX10_warmsBy_9 rfl rfl rfl rfl ?_
    refine jr_iload_n 1 13 dX10_warmsBy_12 rfl rfl rfl ?_
    refine jr_iald rfl rfl (by omega) 14 dX10_warmsBy_13 rfl ?_
    refine jr_aload_n 0 15 dX10_warmsBy_14 rfl rfl rfl ?_
    refine gf_X10_7 18 dX10_warmsBy_15 rfl rfl rfl rfl ?_
    refine jr_aload_n 0 19 dX10_warmsBy_18 rfl rfl rfl ?_
    refine gf_X10_22 22 dX10_warmsBy_19 rfl rfl rfl rfl ?_
    refine jr_iload_n 1 23 dX10_warmsBy_22 rfl rfl rfl ?_
    refine jr_iale rfl rfl (by omega) hse 24 dX10_warmsBy_23 rfl ?_
    refine jr_iald rfl rfl hs 25 dX10_warmsBy_24 rfl ?_
    refine jr_iload_n 2 26 dX10_warmsBy_25 rfl rfl rfl ?_
    refine jr_aload_n 0 27 dX10_warmsBy_26 rfl rfl rfl ?_
    refine jr_iload_n 1 28 dX10_warmsBy_27 rfl rfl rfl ?_
    refine cs_X10_226 31 dX10_warmsBy_28 rfl rfl rfl (Nat.le_of_ble_eq_true rfl) (wp_isSeen hf hkd hc hse hs ?_)
    refine jr_aload_n 0 32 dX10_warmsBy_31 rfl rfl rfl ?_
    refine gf_X10_16 35 dX10_warmsBy_32 rfl rfl rfl rfl ?_
    refine jr_iload_n 1 36 dX10_warmsBy_35 rfl rfl rfl ?_
    refine jr_iald rfl rfl (by omega) 37 dX10_warmsBy_36 rfl ?_
    refine cs_X10_194 40 dX10_warmsBy_37 rfl rfl rfl (Nat.le_of_ble_eq_true rfl) (wp_asksOf (T := T) (n := n) (r := lw) (p := 0) hT hlw hru (by omega) (fun g g2 => ?_))
    refine jr_topi (y := (pu_within (ev_t T lw 0 (pu_nm (σ 66 f) (σ 67 f) (σ 47 s) (nI t) (if (pu_redf 5 (σ 49 f) (σ 47 s)) ≤ σ 66 f then (1 : Int32) else 0) (σ 49 f))) 0 99)) rfl ?_
    refine jr_istore_n 3 (L' := [_, _, _, _, _]) 41 dX10_warmsBy_40 rfl rfl (by decide) rfl ?_
    refine jr_aload_n 0 42 dX10_warmsBy_41 rfl rfl rfl ?_
    refine gf_X10_13 45 dX10_warmsBy_42 rfl rfl rfl rfl ?_
    refine jr_iload_n 1 46 dX10_warmsBy_45 rfl rfl rfl ?_
    refine jr_iale rfl rfl (by omega) hkd 47 dX10_warmsBy_46 rfl ?_
    refine jr_istore (L' := [_, _, _, _, _]) 49 dX10_warmsBy_47 rfl (by decide) rfl ?_
    refine jr_iload 51 dX10_warmsBy_49 rfl rfl ?_
    refine jr_iconst (1) 52 dX10_warmsBy_51 rfl rfl ?_
    refine jr_icmp_eq 61 55 dX10_warmsBy_52 rfl rfl (fun q => absurd q (by decide)) (fun q52 => ?_)
    refine jr_iload 57 dX10_warmsBy_55 rfl rfl ?_
    refine jr_iconst (3) 58 dX10_warmsBy_57 rfl rfl ?_
    refine jr_icmp_ne 78 61 dX10_warmsBy_58 rfl rfl (fun q58 => ?_) (fun q => absurd q (by decide))
    refine jr_iload 80 dX10_warmsBy_78 rfl rfl ?_
    refine jr_iconst (3) 81 dX10_warmsBy_80 rfl rfl ?_
    refine jr_icmp_ne 95 84 dX10_warmsBy_81 rfl rfl (fun q81 => ?_) (fun q => absurd q (by decide))
    refine jr_iload 97 dX10_warmsBy_95 rfl rfl ?_
    refine jr_iconst (5) 98 dX10_warmsBy_97 rfl rfl ?_
    refine jr_icmp_ne 109 101 dX10_warmsBy_98 rfl rfl (fun q => absurd (by decide) q) (fun q98 => ?_)
    refine jr_iload_n 3 102 dX10_warmsBy_101 rfl rfl rfl ?_
    refine jr_iconst (2) 103 dX10_warmsBy_102 rfl rfl ?_
    refine jr_idiv 104 dX10_warmsBy_103 rfl (by decide) ?_
    refine jr_iconst (1) 105 dX10_warmsBy_104 rfl rfl ?_
    refine jr_iadd 106 dX10_warmsBy_105 rfl ?_
    refine jr_goto 110 dX10_warmsBy_106 rfl ?_
    refine jr_istore_n 3 (L' := [_, _, _, _, _]) 111 dX10_warmsBy_110 rfl rfl (by decide) rfl ?_
    refine jr_aload_n 0 112 dX10_warmsBy_111 rfl rfl rfl ?_
    refine jr_iload_n 1 113 dX10_warmsBy_112 rfl rfl rfl ?_
    refine jr_iconst (2) 114 dX10_warmsBy_113 rfl rfl ?_
    refine jr_iload_n 2 115 dX10_warmsBy_114 rfl rfl rfl ?_
    refine jr_bipush (40) 117 dX10_warmsBy_115 rfl rfl ?_
    refine cs_X10_219 120 dX10_warmsBy_117 rfl rfl rfl (Nat.le_of_ble_eq_true rfl) (wp_isStopping (fun (qd : pu_do (σ 46 39) (σ 46 40) (σ 46 41) (nI f) 2 (nI t) 40) => ?_) (fun (qd : ¬ pu_do (σ 46 39) (σ 46 40) (σ 46 41) (nI f) 2 (nI t) 40) => ?_))
    · refine jr_if_eq 129 123 dX10_warmsBy_120 rfl rfl (fun q => absurd q (by decide)) (fun q120 => ?_)
      refine jr_iload_n 3 124 dX10_warmsBy_123 rfl rfl rfl ?_
      refine jr_iconst (2) 125 dX10_warmsBy_124 rfl rfl ?_
      refine jr_idiv 126 dX10_warmsBy_125 rfl (by decide) ?_
      refine jr_goto 130 dX10_warmsBy_126 rfl ?_
      refine jr_istore_n 3 (L' := [_, _, _, _, _]) 131 dX10_warmsBy_130 rfl rfl (by decide) rfl ?_
      refine jr_aload_n 0 132 dX10_warmsBy_131 rfl rfl rfl ?_
      refine jr_iload_n 1 133 dX10_warmsBy_132 rfl rfl rfl ?_
      refine jr_iconst (3) 134 dX10_warmsBy_133 rfl rfl ?_
      refine jr_iload_n 2 135 dX10_warmsBy_134 rfl rfl rfl ?_
      refine jr_bipush (10) 137 dX10_warmsBy_135 rfl rfl ?_
      refine cs_X10_219 140 dX10_warmsBy_137 rfl rfl rfl (Nat.le_of_ble_eq_true rfl) (wp_isStopping (fun (qe : pu_do (σ 46 39) (σ 46 40) (σ 46 41) (nI f) 3 (nI t) 10) => ?_) (fun (qe : ¬ pu_do (σ 46 39) (σ 46 40) (σ 46 41) (nI f) 3 (nI t) 10) => ?_))
      · refine jr_if_eq 163 143 dX10_warmsBy_140 rfl rfl (fun q => absurd q (by decide)) (fun q140 => ?_)
        refine jr_iload_n 3 144 dX10_warmsBy_143 rfl rfl rfl ?_
        refine jr_iconst (2) 145 dX10_warmsBy_144 rfl rfl ?_
        refine jr_aload_n 0 146 dX10_warmsBy_145 rfl rfl rfl ?_
        refine gf_X10_16 149 dX10_warmsBy_146 rfl rfl rfl rfl ?_
        refine jr_iload_n 1 150 dX10_warmsBy_149 rfl rfl rfl ?_
        refine jr_iald rfl rfl (by omega) 151 dX10_warmsBy_150 rfl ?_
        refine jr_imul 152 dX10_warmsBy_151 rfl ?_
        refine jr_isub 153 dX10_warmsBy_152 rfl ?_
        refine jr_iconst (0) 154 dX10_warmsBy_153 rfl rfl ?_
        refine jr_sipush (400) 157 dX10_warmsBy_154 rfl rfl ?_
        refine cs_X10_188 160 dX10_warmsBy_157 rfl rfl (Nat.le_of_ble_eq_true rfl) (wp_within ?_)
        refine jr_goto 164 dX10_warmsBy_160 rfl ?_
        refine jr_ireturn dX10_warmsBy_164 rfl rfl ?_
        first
        | exact absurd (qd.2.1.trans qe.2.1.symm) (by decide)
        | (have hw := hk g g2; unfold pu_wso at hw; rw [pu_if_t qd] at hw; skip; exact hw)
        | (have hw := hk g g2; unfold pu_wso at hw; rw [pu_if_f qd, pu_if_t qe, ← hwish] at hw; skip; exact hw)
        | (have hw := hk g g2; unfold pu_wso at hw; rw [pu_if_f qd, pu_if_f qe] at hw; skip; exact hw)
      · refine jr_if_eq 163 143 dX10_warmsBy_140 rfl rfl (fun q140 => ?_) (fun q => absurd (by decide) q)
        refine jr_iload_n 3 164 dX10_warmsBy_163 rfl rfl rfl ?_
        refine jr_ireturn dX10_warmsBy_164 rfl rfl ?_
        first
        | exact absurd (qd.2.1.trans qe.2.1.symm) (by decide)
        | (have hw := hk g g2; unfold pu_wso at hw; rw [pu_if_t qd] at hw; skip; exact hw)
        | (have hw := hk g g2; unfold pu_wso at hw; rw [pu_if_f qd, pu_if_t qe, ← hwish] at hw; skip; exact hw)
        | (have hw := hk g g2; unfold pu_wso at hw; rw [pu_if_f qd, pu_if_f qe] at hw; skip; exact hw)
    · refine jr_if_eq 129 123 dX10_warmsBy_120 rfl rfl (fun q120 => ?_) (fun q => absurd (by decide) q)
      refine jr_iload_n 3 130 dX10_warmsBy_129 rfl rfl rfl ?_
      refine jr_istore_n 3 (L' := [_, _, _, _, _]) 131 dX10_warmsBy_130 rfl rfl (by decide) rfl ?_
      refine jr_aload_n 0 132 dX10_warmsBy_131 rfl rfl rfl ?_
      refine jr_iload_n 1 133 dX10_warmsBy_132 rfl rfl rfl ?_
      refine jr_iconst (3) 134 dX10_warmsBy_133 rfl rfl ?_
      refine jr_iload_n 2 135 dX10_warmsBy_134 rfl rfl rfl ?_
      refine jr_bipush (10) 137 dX10_warmsBy_135 rfl rfl ?_
      refine cs_X10_219 140 dX10_warmsBy_137 rfl rfl rfl (Nat.le_of_ble_eq_true rfl) (wp_isStopping (fun (qe : pu_do (σ 46 39) (σ 46 40) (σ 46 41) (nI f) 3 (nI t) 10) => ?_) (fun (qe : ¬ pu_do (σ 46 39) (σ 46 40) (σ 46 41) (nI f) 3 (nI t) 10) => ?_))
      · refine jr_if_eq 163 143 dX10_warmsBy_140 rfl rfl (fun q => absurd q (by decide)) (fun q140 => ?_)
        refine jr_iload_n 3 144 dX10_warmsBy_143 rfl rfl rfl ?_
        refine jr_iconst (2) 145 dX10_warmsBy_144 rfl rfl ?_
        refine jr_aload_n 0 146 dX10_warmsBy_145 rfl rfl rfl ?_
        refine gf_X10_16 149 dX10_warmsBy_146 rfl rfl rfl rfl ?_
        refine jr_iload_n 1 150 dX10_warmsBy_149 rfl rfl rfl ?_
        refine jr_iald rfl rfl (by omega) 151 dX10_warmsBy_150 rfl ?_
        refine jr_imul 152 dX10_warmsBy_151 rfl ?_
        refine jr_isub 153 dX10_warmsBy_152 rfl ?_
        refine jr_iconst (0) 154 dX10_warmsBy_153 rfl rfl ?_
        refine jr_sipush (400) 157 dX10_warmsBy_154 rfl rfl ?_
        refine cs_X10_188 160 dX10_warmsBy_157 rfl rfl (Nat.le_of_ble_eq_true rfl) (wp_within ?_)
        refine jr_goto 164 dX10_warmsBy_160 rfl ?_
        refine jr_ireturn dX10_warmsBy_164 rfl rfl ?_
        first
        | exact absurd (qd.2.1.trans qe.2.1.symm) (by decide)
        | (have hw := hk g g2; unfold pu_wso at hw; rw [pu_if_t qd] at hw; skip; exact hw)
        | (have hw := hk g g2; unfold pu_wso at hw; rw [pu_if_f qd, pu_if_t qe, ← hwish] at hw; skip; exact hw)
        | (have hw := hk g g2; unfold pu_wso at hw; rw [pu_if_f qd, pu_if_f qe] at hw; skip; exact hw)
      · refine jr_if_eq 163 143 dX10_warmsBy_140 rfl rfl (fun q140 => ?_) (fun q => absurd (by decide) q)
        refine jr_iload_n 3 164 dX10_warmsBy_163 rfl rfl rfl ?_
        refine jr_ireturn dX10_warmsBy_164 rfl rfl ?_
        first
        | exact absurd (qd.2.1.trans qe.2.1.symm) (by decide)
        | (have hw := hk g g2; unfold pu_wso at hw; rw [pu_if_t qd] at hw; skip; exact hw)
        | (have hw := hk g g2; unfold pu_wso at hw; rw [pu_if_f qd, pu_if_t qe, ← hwish] at hw; skip; exact hw)
        | (have hw := hk g g2; unfold pu_wso at hw; rw [pu_if_f qd, pu_if_f qe] at hw; skip; exact hw)
theorem wp_coolsBy {G : jr_G} {d : Nat} {σ : jr_Sg} {k : Value → jr_Sg → Prop} {f c s : Nat} (hf : f < 5) (hkd : σ 48 f = nI c) (hc : c < 6) (hse : σ 51 f = nI s) (hs : s < 8) {T : Nat → Nat → List Nat} {n lw t : Nat} (hT : ti_R T n σ) (hlw : lw < n) (hru : σ 46 13 = nI lw) (hk : ∀ g g2 : Nat → Int32, k (.int (pu_cso (σ 46 39) (σ 46 40) (σ 46 41) (nI f) (nI t) (pu_cools c (σ 49 f) (pu_within (ev_t T lw 1 (pu_nm (σ 66 f) (σ 67 f) (σ 47 s) (nI t) (if (pu_redf c (σ 49 f) (σ 47 s)) ≤ σ 66 f then (1 : Int32) else 0) (σ 49 f))) 0 99) (σ 66 f)))) (jr_upc (jr_upc σ 64 g) 63 g2)) : jr_M G (d + 3) mi_X10_coolsBy [.ref 46, .int (nI f), .int (nI t)] σ (jr_k k) := by
  refine jr_enter (L := [some (.ref 46), some (.int (nI f)), some (.int (nI t)), none]) (by decide) (Nat.le_of_ble_eq_true rfl) rfl ?_
  rcases (by omega : c = 0 ∨ c = 1 ∨ c = 2 ∨ c = 3 ∨ c = 4 ∨ c = 5) with rfl | rfl | rfl | rfl | rfl | rfl
  · refine jr_aload_n 0 1 dX10_coolsBy_0 rfl rfl rfl ?_
    refine jr_iconst (1) 2 dX10_coolsBy_1 rfl rfl ?_
    refine jr_aload_n 0 3 dX10_coolsBy_2 rfl rfl rfl ?_
    refine gf_X10_67 6 dX10_coolsBy_3 rfl rfl rfl rfl ?_
    refine jr_iload_n 1 7 dX10_coolsBy_6 rfl rfl rfl ?_
    refine jr_iald rfl rfl (by omega) 8 dX10_coolsBy_7 rfl ?_
    refine jr_aload_n 0 9 dX10_coolsBy_8 rfl rfl rfl ?_
    refine gf_X10_70 12 dX10_coolsBy_9 rfl rfl rfl rfl ?_
    refine jr_iload_n 1 13 dX10_coolsBy_12 rfl rfl rfl ?_
    refine jr_iald rfl rfl (by omega) 14 dX10_coolsBy_13 rfl ?_
    refine jr_aload_n 0 15 dX10_coolsBy_14 rfl rfl rfl ?_
    refine gf_X10_7 18 dX10_coolsBy_15 rfl rfl rfl rfl ?_
    refine jr_aload_n 0 19 dX10_coolsBy_18 rfl rfl rfl ?_
    refine gf_X10_22 22 dX10_coolsBy_19 rfl rfl rfl rfl ?_
    refine jr_iload_n 1 23 dX10_coolsBy_22 rfl rfl rfl ?_
    refine jr_iale rfl rfl (by omega) hse 24 dX10_coolsBy_23 rfl ?_
    refine jr_iald rfl rfl hs 25 dX10_coolsBy_24 rfl ?_
    refine jr_iload_n 2 26 dX10_coolsBy_25 rfl rfl rfl ?_
    refine jr_aload_n 0 27 dX10_coolsBy_26 rfl rfl rfl ?_
    refine jr_iload_n 1 28 dX10_coolsBy_27 rfl rfl rfl ?_
    refine cs_X10_226 31 dX10_coolsBy_28 rfl rfl rfl (Nat.le_of_ble_eq_true rfl) (wp_isSeen hf hkd hc hse hs ?_)
    refine jr_aload_n 0 32 dX10_coolsBy_31 rfl rfl rfl ?_
    refine gf_X10_16 35 dX10_coolsBy_32 rfl rfl rfl rfl ?_
    refine jr_iload_n 1 36 dX10_coolsBy_35 rfl rfl rfl ?_
    refine jr_iald rfl rfl (by omega) 37 dX10_coolsBy_36 rfl ?_
    refine cs_X10_194 40 dX10_coolsBy_37 rfl rfl rfl (Nat.le_of_ble_eq_true rfl) (wp_asksOf (T := T) (n := n) (r := lw) (p := 1) hT hlw hru (by omega) (fun g g2 => ?_))
    refine jr_topi (y := (pu_within (ev_t T lw 1 (pu_nm (σ 66 f) (σ 67 f) (σ 47 s) (nI t) (if (pu_redf 0 (σ 49 f) (σ 47 s)) ≤ σ 66 f then (1 : Int32) else 0) (σ 49 f))) 0 99)) rfl ?_
    refine jr_istore_n 3 (L' := [_, _, _, _]) 41 dX10_coolsBy_40 rfl rfl (by decide) rfl ?_
    refine jr_aload_n 0 42 dX10_coolsBy_41 rfl rfl rfl ?_
    refine gf_X10_13 45 dX10_coolsBy_42 rfl rfl rfl rfl ?_
    refine jr_iload_n 1 46 dX10_coolsBy_45 rfl rfl rfl ?_
    refine jr_iale rfl rfl (by omega) hkd 47 dX10_coolsBy_46 rfl ?_
    refine jr_iconst (3) 48 dX10_coolsBy_47 rfl rfl ?_
    refine jr_icmp_ne 69 51 dX10_coolsBy_48 rfl rfl (fun q48 => ?_) (fun q => absurd q (by decide))
    refine jr_aload_n 0 70 dX10_coolsBy_69 rfl rfl rfl ?_
    refine gf_X10_13 73 dX10_coolsBy_70 rfl rfl rfl rfl ?_
    refine jr_iload_n 1 74 dX10_coolsBy_73 rfl rfl rfl ?_
    refine jr_iale rfl rfl (by omega) hkd 75 dX10_coolsBy_74 rfl ?_
    refine jr_iconst (5) 76 dX10_coolsBy_75 rfl rfl ?_
    refine jr_icmp_ne 101 79 dX10_coolsBy_76 rfl rfl (fun q76 => ?_) (fun q => absurd q (by decide))
    refine jr_iload_n 3 102 dX10_coolsBy_101 rfl rfl rfl ?_
    refine jr_istore_n 3 (L' := [_, _, _, _]) 103 dX10_coolsBy_102 rfl rfl (by decide) rfl ?_
    refine jr_aload_n 0 104 dX10_coolsBy_103 rfl rfl rfl ?_
    refine jr_iload_n 1 105 dX10_coolsBy_104 rfl rfl rfl ?_
    refine jr_iconst (1) 106 dX10_coolsBy_105 rfl rfl ?_
    refine jr_iload_n 2 107 dX10_coolsBy_106 rfl rfl rfl ?_
    refine jr_iconst (5) 108 dX10_coolsBy_107 rfl rfl ?_
    refine cs_X10_219 111 dX10_coolsBy_108 rfl rfl rfl (Nat.le_of_ble_eq_true rfl) (wp_isStopping (fun (qd : pu_do (σ 46 39) (σ 46 40) (σ 46 41) (nI f) 1 (nI t) 5) => ?_) (fun (qd : ¬ pu_do (σ 46 39) (σ 46 40) (σ 46 41) (nI f) 1 (nI t) 5) => ?_))
    · refine jr_if_eq 121 114 dX10_coolsBy_111 rfl rfl (fun q => absurd q (by decide)) (fun q111 => ?_)
      refine jr_iload_n 3 115 dX10_coolsBy_114 rfl rfl rfl ?_
      refine jr_bipush (15) 117 dX10_coolsBy_115 rfl rfl ?_
      refine jr_iadd 118 dX10_coolsBy_117 rfl ?_
      refine jr_goto 122 dX10_coolsBy_118 rfl ?_
      refine jr_ireturn dX10_coolsBy_122 rfl rfl ?_
      first
      | (have hw := hk g g2; unfold pu_cso at hw; rw [pu_if_t qd] at hw; skip; exact hw)
      | (have hw := hk g g2; unfold pu_cso at hw; rw [pu_if_f qd] at hw; skip; exact hw)
    · refine jr_if_eq 121 114 dX10_coolsBy_111 rfl rfl (fun q111 => ?_) (fun q => absurd (by decide) q)
      refine jr_iload_n 3 122 dX10_coolsBy_121 rfl rfl rfl ?_
      refine jr_ireturn dX10_coolsBy_122 rfl rfl ?_
      first
      | (have hw := hk g g2; unfold pu_cso at hw; rw [pu_if_t qd] at hw; skip; exact hw)
      | (have hw := hk g g2; unfold pu_cso at hw; rw [pu_if_f qd] at hw; skip; exact hw)
  · refine jr_aload_n 0 1 dX10_coolsBy_0 rfl rfl rfl ?_
    refine jr_iconst (1) 2 dX10_coolsBy_1 rfl rfl ?_
    refine jr_aload_n 0 3 dX10_coolsBy_2 rfl rfl rfl ?_
    refine gf_X10_67 6 dX10_coolsBy_3 rfl rfl rfl rfl ?_
    refine jr_iload_n 1 7 dX10_coolsBy_6 rfl rfl rfl ?_
    refine jr_iald rfl rfl (by omega) 8 dX10_coolsBy_7 rfl ?_
    refine jr_aload_n 0 9 dX10_coolsBy_8 rfl rfl rfl ?_
    refine gf_X10_70 12 dX10_coolsBy_9 rfl rfl rfl rfl ?_
    refine jr_iload_n 1 13 dX10_coolsBy_12 rfl rfl rfl ?_
    refine jr_iald rfl rfl (by omega) 14 dX10_coolsBy_13 rfl ?_
    refine jr_aload_n 0 15 dX10_coolsBy_14 rfl rfl rfl ?_
    refine gf_X10_7 18 dX10_coolsBy_15 rfl rfl rfl rfl ?_
    refine jr_aload_n 0 19 dX10_coolsBy_18 rfl rfl rfl ?_
    refine gf_X10_22 22 dX10_coolsBy_19 rfl rfl rfl rfl ?_
    refine jr_iload_n 1 23 dX10_coolsBy_22 rfl rfl rfl ?_
    refine jr_iale rfl rfl (by omega) hse 24 dX10_coolsBy_23 rfl ?_
    refine jr_iald rfl rfl hs 25 dX10_coolsBy_24 rfl ?_
    refine jr_iload_n 2 26 dX10_coolsBy_25 rfl rfl rfl ?_
    refine jr_aload_n 0 27 dX10_coolsBy_26 rfl rfl rfl ?_
    refine jr_iload_n 1 28 dX10_coolsBy_27 rfl rfl rfl ?_
    refine cs_X10_226 31 dX10_coolsBy_28 rfl rfl rfl (Nat.le_of_ble_eq_true rfl) (wp_isSeen hf hkd hc hse hs ?_)
    refine jr_aload_n 0 32 dX10_coolsBy_31 rfl rfl rfl ?_
    refine gf_X10_16 35 dX10_coolsBy_32 rfl rfl rfl rfl ?_
    refine jr_iload_n 1 36 dX10_coolsBy_35 rfl rfl rfl ?_
    refine jr_iald rfl rfl (by omega) 37 dX10_coolsBy_36 rfl ?_
    refine cs_X10_194 40 dX10_coolsBy_37 rfl rfl rfl (Nat.le_of_ble_eq_true rfl) (wp_asksOf (T := T) (n := n) (r := lw) (p := 1) hT hlw hru (by omega) (fun g g2 => ?_))
    refine jr_topi (y := (pu_within (ev_t T lw 1 (pu_nm (σ 66 f) (σ 67 f) (σ 47 s) (nI t) (if (pu_redf 1 (σ 49 f) (σ 47 s)) ≤ σ 66 f then (1 : Int32) else 0) (σ 49 f))) 0 99)) rfl ?_
    refine jr_istore_n 3 (L' := [_, _, _, _]) 41 dX10_coolsBy_40 rfl rfl (by decide) rfl ?_
    refine jr_aload_n 0 42 dX10_coolsBy_41 rfl rfl rfl ?_
    refine gf_X10_13 45 dX10_coolsBy_42 rfl rfl rfl rfl ?_
    refine jr_iload_n 1 46 dX10_coolsBy_45 rfl rfl rfl ?_
    refine jr_iale rfl rfl (by omega) hkd 47 dX10_coolsBy_46 rfl ?_
    refine jr_iconst (3) 48 dX10_coolsBy_47 rfl rfl ?_
    refine jr_icmp_ne 69 51 dX10_coolsBy_48 rfl rfl (fun q48 => ?_) (fun q => absurd q (by decide))
    refine jr_aload_n 0 70 dX10_coolsBy_69 rfl rfl rfl ?_
    refine gf_X10_13 73 dX10_coolsBy_70 rfl rfl rfl rfl ?_
    refine jr_iload_n 1 74 dX10_coolsBy_73 rfl rfl rfl ?_
    refine jr_iale rfl rfl (by omega) hkd 75 dX10_coolsBy_74 rfl ?_
    refine jr_iconst (5) 76 dX10_coolsBy_75 rfl rfl ?_
    refine jr_icmp_ne 101 79 dX10_coolsBy_76 rfl rfl (fun q76 => ?_) (fun q => absurd q (by decide))
    refine jr_iload_n 3 102 dX10_coolsBy_101 rfl rfl rfl ?_
    refine jr_istore_n 3 (L' := [_, _, _, _]) 103 dX10_coolsBy_102 rfl rfl (by decide) rfl ?_
    refine jr_aload_n 0 104 dX10_coolsBy_103 rfl rfl rfl ?_
    refine jr_iload_n 1 105 dX10_coolsBy_104 rfl rfl rfl ?_
    refine jr_iconst (1) 106 dX10_coolsBy_105 rfl rfl ?_
    refine jr_iload_n 2 107 dX10_coolsBy_106 rfl rfl rfl ?_
    refine jr_iconst (5) 108 dX10_coolsBy_107 rfl rfl ?_
    refine cs_X10_219 111 dX10_coolsBy_108 rfl rfl rfl (Nat.le_of_ble_eq_true rfl) (wp_isStopping (fun (qd : pu_do (σ 46 39) (σ 46 40) (σ 46 41) (nI f) 1 (nI t) 5) => ?_) (fun (qd : ¬ pu_do (σ 46 39) (σ 46 40) (σ 46 41) (nI f) 1 (nI t) 5) => ?_))
    · refine jr_if_eq 121 114 dX10_coolsBy_111 rfl rfl (fun q => absurd q (by decide)) (fun q111 => ?_)
      refine jr_iload_n 3 115 dX10_coolsBy_114 rfl rfl rfl ?_
      refine jr_bipush (15) 117 dX10_coolsBy_115 rfl rfl ?_
      refine jr_iadd 118 dX10_coolsBy_117 rfl ?_
      refine jr_goto 122 dX10_coolsBy_118 rfl ?_
      refine jr_ireturn dX10_coolsBy_122 rfl rfl ?_
      first
      | (have hw := hk g g2; unfold pu_cso at hw; rw [pu_if_t qd] at hw; skip; exact hw)
      | (have hw := hk g g2; unfold pu_cso at hw; rw [pu_if_f qd] at hw; skip; exact hw)
    · refine jr_if_eq 121 114 dX10_coolsBy_111 rfl rfl (fun q111 => ?_) (fun q => absurd (by decide) q)
      refine jr_iload_n 3 122 dX10_coolsBy_121 rfl rfl rfl ?_
      refine jr_ireturn dX10_coolsBy_122 rfl rfl ?_
      first
      | (have hw := hk g g2; unfold pu_cso at hw; rw [pu_if_t qd] at hw; skip; exact hw)
      | (have hw := hk g g2; unfold pu_cso at hw; rw [pu_if_f qd] at hw; skip; exact hw)
  · refine jr_aload_n 0 1 dX10_coolsBy_0 rfl rfl rfl ?_
    refine jr_iconst (1) 2 dX10_coolsBy_1 rfl rfl ?_
    refine jr_aload_n 0 3 dX10_coolsBy_2 rfl rfl rfl ?_
    refine gf_X10_67 6 dX10_coolsBy_3 rfl rfl rfl rfl ?_
    refine jr_iload_n 1 7 dX10_coolsBy_6 rfl rfl rfl ?_
    refine jr_iald rfl rfl (by omega) 8 dX10_coolsBy_7 rfl ?_
    refine jr_aload_n 0 9 dX10_coolsBy_8 rfl rfl rfl ?_
    refine gf_X10_70 12 dX10_coolsBy_9 rfl rfl rfl rfl ?_
    refine jr_iload_n 1 13 dX10_coolsBy_12 rfl rfl rfl ?_
    refine jr_iald rfl rfl (by omega) 14 dX10_coolsBy_13 rfl ?_
    refine jr_aload_n 0 15 dX10_coolsBy_14 rfl rfl rfl ?_
    refine gf_X10_7 18 dX10_coolsBy_15 rfl rfl rfl rfl ?_
    refine jr_aload_n 0 19 dX10_coolsBy_18 rfl rfl rfl ?_
    refine gf_X10_22 22 dX10_coolsBy_19 rfl rfl rfl rfl ?_
    refine jr_iload_n 1 23 dX10_coolsBy_22 rfl rfl rfl ?_
    refine jr_iale rfl rfl (by omega) hse 24 dX10_coolsBy_23 rfl ?_
    refine jr_iald rfl rfl hs 25 dX10_coolsBy_24 rfl ?_
    refine jr_iload_n 2 26 dX10_coolsBy_25 rfl rfl rfl ?_
    refine jr_aload_n 0 27 dX10_coolsBy_26 rfl rfl rfl ?_
    refine jr_iload_n 1 28 dX10_coolsBy_27 rfl rfl rfl ?_
    refine cs_X10_226 31 dX10_coolsBy_28 rfl rfl rfl (Nat.le_of_ble_eq_true rfl) (wp_isSeen hf hkd hc hse hs ?_)
    refine jr_aload_n 0 32 dX10_coolsBy_31 rfl rfl rfl ?_
    refine gf_X10_16 35 dX10_coolsBy_32 rfl rfl rfl rfl ?_
    refine jr_iload_n 1 36 dX10_coolsBy_35 rfl rfl rfl ?_
    refine jr_iald rfl rfl (by omega) 37 dX10_coolsBy_36 rfl ?_
    refine cs_X10_194 40 dX10_coolsBy_37 rfl rfl rfl (Nat.le_of_ble_eq_true rfl) (wp_asksOf (T := T) (n := n) (r := lw) (p := 1) hT hlw hru (by omega) (fun g g2 => ?_))
    refine jr_topi (y := (pu_within (ev_t T lw 1 (pu_nm (σ 66 f) (σ 67 f) (σ 47 s) (nI t) (if (pu_redf 2 (σ 49 f) (σ 47 s)) ≤ σ 66 f then (1 : Int32) else 0) (σ 49 f))) 0 99)) rfl ?_
    refine jr_istore_n 3 (L' := [_, _, _, _]) 41 dX10_coolsBy_40 rfl rfl (by decide) rfl ?_
    refine jr_aload_n 0 42 dX10_coolsBy_41 rfl rfl rfl ?_
    refine gf_X10_13 45 dX10_coolsBy_42 rfl rfl rfl rfl ?_
    refine jr_iload_n 1 46 dX10_coolsBy_45 rfl rfl rfl ?_
    refine jr_iale rfl rfl (by omega) hkd 47 dX10_coolsBy_46 rfl ?_
    refine jr_iconst (3) 48 dX10_coolsBy_47 rfl rfl ?_
    refine jr_icmp_ne 69 51 dX10_coolsBy_48 rfl rfl (fun q48 => ?_) (fun q => absurd q (by decide))
    refine jr_aload_n 0 70 dX10_coolsBy_69 rfl rfl rfl ?_
    refine gf_X10_13 73 dX10_coolsBy_70 rfl rfl rfl rfl ?_
    refine jr_iload_n 1 74 dX10_coolsBy_73 rfl rfl rfl ?_
    refine jr_iale rfl rfl (by omega) hkd 75 dX10_coolsBy_74 rfl ?_
    refine jr_iconst (5) 76 dX10_coolsBy_75 rfl rfl ?_
    refine jr_icmp_ne 101 79 dX10_coolsBy_76 rfl rfl (fun q76 => ?_) (fun q => absurd q (by decide))
    refine jr_iload_n 3 102 dX10_coolsBy_101 rfl rfl rfl ?_
    refine jr_istore_n 3 (L' := [_, _, _, _]) 103 dX10_coolsBy_102 rfl rfl (by decide) rfl ?_
    refine jr_aload_n 0 104 dX10_coolsBy_103 rfl rfl rfl ?_
    refine jr_iload_n 1 105 dX10_coolsBy_104 rfl rfl rfl ?_
    refine jr_iconst (1) 106 dX10_coolsBy_105 rfl rfl ?_
    refine jr_iload_n 2 107 dX10_coolsBy_106 rfl rfl rfl ?_
    refine jr_iconst (5) 108 dX10_coolsBy_107 rfl rfl ?_
    refine cs_X10_219 111 dX10_coolsBy_108 rfl rfl rfl (Nat.le_of_ble_eq_true rfl) (wp_isStopping (fun (qd : pu_do (σ 46 39) (σ 46 40) (σ 46 41) (nI f) 1 (nI t) 5) => ?_) (fun (qd : ¬ pu_do (σ 46 39) (σ 46 40) (σ 46 41) (nI f) 1 (nI t) 5) => ?_))
    · refine jr_if_eq 121 114 dX10_coolsBy_111 rfl rfl (fun q => absurd q (by decide)) (fun q111 => ?_)
      refine jr_iload_n 3 115 dX10_coolsBy_114 rfl rfl rfl ?_
      refine jr_bipush (15) 117 dX10_coolsBy_115 rfl rfl ?_
      refine jr_iadd 118 dX10_coolsBy_117 rfl ?_
      refine jr_goto 122 dX10_coolsBy_118 rfl ?_
      refine jr_ireturn dX10_coolsBy_122 rfl rfl ?_
      first
      | (have hw := hk g g2; unfold pu_cso at hw; rw [pu_if_t qd] at hw; skip; exact hw)
      | (have hw := hk g g2; unfold pu_cso at hw; rw [pu_if_f qd] at hw; skip; exact hw)
    · refine jr_if_eq 121 114 dX10_coolsBy_111 rfl rfl (fun q111 => ?_) (fun q => absurd (by decide) q)
      refine jr_iload_n 3 122 dX10_coolsBy_121 rfl rfl rfl ?_
      refine jr_ireturn dX10_coolsBy_122 rfl rfl ?_
      first
      | (have hw := hk g g2; unfold pu_cso at hw; rw [pu_if_t qd] at hw; skip; exact hw)
      | (have hw := hk g g2; unfold pu_cso at hw; rw [pu_if_f qd] at hw; skip; exact hw)
  · refine jr_aload_n 0 1 dX10_coolsBy_0 rfl rfl rfl ?_
    refine jr_iconst (1) 2 dX10_coolsBy_1 rfl rfl ?_
    refine jr_aload_n 0 3 dX10_coolsBy_2 rfl rfl rfl ?_
    refine gf_X10_67 6 dX10_coolsBy_3 rfl rfl rfl rfl ?_
    refine jr_iload_n 1 7 dX10_coolsBy_6 rfl rfl rfl ?_
    refine jr_iald rfl rfl (by omega) 8 dX10_coolsBy_7 rfl ?_
    refine jr_aload_n 0 9 dX10_coolsBy_8 rfl rfl rfl ?_
    refine gf_X10_70 12 dX10_coolsBy_9 rfl rfl rfl rfl ?_
    refine jr_iload_n 1 13 dX10_coolsBy_12 rfl rfl rfl ?_
    refine jr_iald rfl rfl (by omega) 14 dX10_coolsBy_13 rfl ?_
    refine jr_aload_n 0 15 dX10_coolsBy_14 rfl rfl rfl ?_
    refine gf_X10_7 18 dX10_coolsBy_15 rfl rfl rfl rfl ?_
    refine jr_aload_n 0 19 dX10_coolsBy_18 rfl rfl rfl ?_
    refine gf_X10_22 22 dX10_coolsBy_19 rfl rfl rfl rfl ?_
    refine jr_iload_n 1 23 dX10_coolsBy_22 rfl rfl rfl ?_
    refine jr_iale rfl rfl (by omega) hse 24 dX10_coolsBy_23 rfl ?_
    refine jr_iald rfl rfl hs 25 dX10_coolsBy_24 rfl ?_
    refine jr_iload_n 2 26 dX10_coolsBy_25 rfl rfl rfl ?_
    refine jr_aload_n 0 27 dX10_coolsBy_26 rfl rfl rfl ?_
    refine jr_iload_n 1 28 dX10_coolsBy_27 rfl rfl rfl ?_
    refine cs_X10_226 31 dX10_coolsBy_28 rfl rfl rfl (Nat.le_of_ble_eq_true rfl) (wp_isSeen hf hkd hc hse hs ?_)
    refine jr_aload_n 0 32 dX10_coolsBy_31 rfl rfl rfl ?_
    refine gf_X10_16 35 dX10_coolsBy_32 rfl rfl rfl rfl ?_
    refine jr_iload_n 1 36 dX10_coolsBy_35 rfl rfl rfl ?_
    refine jr_iald rfl rfl (by omega) 37 dX10_coolsBy_36 rfl ?_
    refine cs_X10_194 40 dX10_coolsBy_37 rfl rfl rfl (Nat.le_of_ble_eq_true rfl) (wp_asksOf (T := T) (n := n) (r := lw) (p := 1) hT hlw hru (by omega) (fun g g2 => ?_))
    refine jr_topi (y := (pu_within (ev_t T lw 1 (pu_nm (σ 66 f) (σ 67 f) (σ 47 s) (nI t) (if (pu_redf 3 (σ 49 f) (σ 47 s)) ≤ σ 66 f then (1 : Int32) else 0) (σ 49 f))) 0 99)) rfl ?_
    refine jr_istore_n 3 (L' := [_, _, _, _]) 41 dX10_coolsBy_40 rfl rfl (by decide) rfl ?_
    refine jr_aload_n 0 42 dX10_coolsBy_41 rfl rfl rfl ?_
    refine gf_X10_13 45 dX10_coolsBy_42 rfl rfl rfl rfl ?_
    refine jr_iload_n 1 46 dX10_coolsBy_45 rfl rfl rfl ?_
    refine jr_iale rfl rfl (by omega) hkd 47 dX10_coolsBy_46 rfl ?_
    refine jr_iconst (3) 48 dX10_coolsBy_47 rfl rfl ?_
    refine jr_icmp_ne 69 51 dX10_coolsBy_48 rfl rfl (fun q => absurd (by decide) q) (fun q48 => ?_)
    refine jr_aload_n 0 52 dX10_coolsBy_51 rfl rfl rfl ?_
    refine gf_X10_67 55 dX10_coolsBy_52 rfl rfl rfl rfl ?_
    refine jr_iload_n 1 56 dX10_coolsBy_55 rfl rfl rfl ?_
    refine jr_iale (v := σ 66 f) rfl rfl (by omega) rfl 57 dX10_coolsBy_56 rfl ?_
    refine jr_sipush (200) 60 dX10_coolsBy_57 rfl rfl ?_
    refine jr_icmp_le 69 63 dX10_coolsBy_60 rfl rfl (fun q60 => ?_) (fun q60 => ?_)
    · refine jr_aload_n 0 70 dX10_coolsBy_69 rfl rfl rfl ?_
      refine gf_X10_13 73 dX10_coolsBy_70 rfl rfl rfl rfl ?_
      refine jr_iload_n 1 74 dX10_coolsBy_73 rfl rfl rfl ?_
      refine jr_iale rfl rfl (by omega) hkd 75 dX10_coolsBy_74 rfl ?_
      refine jr_iconst (5) 76 dX10_coolsBy_75 rfl rfl ?_
      refine jr_icmp_ne 101 79 dX10_coolsBy_76 rfl rfl (fun q76 => ?_) (fun q => absurd q (by decide))
      refine jr_iload_n 3 102 dX10_coolsBy_101 rfl rfl rfl ?_
      refine jr_istore_n 3 (L' := [_, _, _, _]) 103 dX10_coolsBy_102 rfl rfl (by decide) rfl ?_
      refine jr_aload_n 0 104 dX10_coolsBy_103 rfl rfl rfl ?_
      refine jr_iload_n 1 105 dX10_coolsBy_104 rfl rfl rfl ?_
      refine jr_iconst (1) 106 dX10_coolsBy_105 rfl rfl ?_
      refine jr_iload_n 2 107 dX10_coolsBy_106 rfl rfl rfl ?_
      refine jr_iconst (5) 108 dX10_coolsBy_107 rfl rfl ?_
      refine cs_X10_219 111 dX10_coolsBy_108 rfl rfl rfl (Nat.le_of_ble_eq_true rfl) (wp_isStopping (fun (qd : pu_do (σ 46 39) (σ 46 40) (σ 46 41) (nI f) 1 (nI t) 5) => ?_) (fun (qd : ¬ pu_do (σ 46 39) (σ 46 40) (σ 46 41) (nI f) 1 (nI t) 5) => ?_))
      · refine jr_if_eq 121 114 dX10_coolsBy_111 rfl rfl (fun q => absurd q (by decide)) (fun q111 => ?_)
        refine jr_iload_n 3 115 dX10_coolsBy_114 rfl rfl rfl ?_
        refine jr_bipush (15) 117 dX10_coolsBy_115 rfl rfl ?_
        refine jr_iadd 118 dX10_coolsBy_117 rfl ?_
        refine jr_goto 122 dX10_coolsBy_118 rfl ?_
        refine jr_ireturn dX10_coolsBy_122 rfl rfl ?_
        first
        | (have hw := hk g g2; unfold pu_cso at hw; rw [pu_if_t qd] at hw; unfold pu_cools at hw; (first | rw [if_pos (Int32.not_le.mp q60)] at hw | rw [if_neg (Int32.not_lt.mpr q60)] at hw); exact hw)
        | (have hw := hk g g2; unfold pu_cso at hw; rw [pu_if_f qd] at hw; unfold pu_cools at hw; (first | rw [if_pos (Int32.not_le.mp q60)] at hw | rw [if_neg (Int32.not_lt.mpr q60)] at hw); exact hw)
      · refine jr_if_eq 121 114 dX10_coolsBy_111 rfl rfl (fun q111 => ?_) (fun q => absurd (by decide) q)
        refine jr_iload_n 3 122 dX10_coolsBy_121 rfl rfl rfl ?_
        refine jr_ireturn dX10_coolsBy_122 rfl rfl ?_
        first
        | (have hw := hk g g2; unfold pu_cso at hw; rw [pu_if_t qd] at hw; unfold pu_cools at hw; (first | rw [if_pos (Int32.not_le.mp q60)] at hw | rw [if_neg (Int32.not_lt.mpr q60)] at hw); exact hw)
        | (have hw := hk g g2; unfold pu_cso at hw; rw [pu_if_f qd] at hw; unfold pu_cools at hw; (first | rw [if_pos (Int32.not_le.mp q60)] at hw | rw [if_neg (Int32.not_lt.mpr q60)] at hw); exact hw)
    · refine jr_iload_n 3 64 dX10_coolsBy_63 rfl rfl rfl ?_
      refine jr_iconst (2) 65 dX10_coolsBy_64 rfl rfl ?_
      refine jr_idiv 66 dX10_coolsBy_65 rfl (by decide) ?_
      refine jr_goto 102 dX10_coolsBy_66 rfl ?_
      refine jr_istore_n 3 (L' := [_, _, _, _]) 103 dX10_coolsBy_102 rfl rfl (by decide) rfl ?_
      refine jr_aload_n 0 104 dX10_coolsBy_103 rfl rfl rfl ?_
      refine jr_iload_n 1 105 dX10_coolsBy_104 rfl rfl rfl ?_
      refine jr_iconst (1) 106 dX10_coolsBy_105 rfl rfl ?_
      refine jr_iload_n 2 107 dX10_coolsBy_106 rfl rfl rfl ?_
      refine jr_iconst (5) 108 dX10_coolsBy_107 rfl rfl ?_
      refine cs_X10_219 111 dX10_coolsBy_108 rfl rfl rfl (Nat.le_of_ble_eq_true rfl) (wp_isStopping (fun (qd : pu_do (σ 46 39) (σ 46 40) (σ 46 41) (nI f) 1 (nI t) 5) => ?_) (fun (qd : ¬ pu_do (σ 46 39) (σ 46 40) (σ 46 41) (nI f) 1 (nI t) 5) => ?_))
      · refine jr_if_eq 121 114 dX10_coolsBy_111 rfl rfl (fun q => absurd q (by decide)) (fun q111 => ?_)
        refine jr_iload_n 3 115 dX10_coolsBy_114 rfl rfl rfl ?_
        refine jr_bipush (15) 117 dX10_coolsBy_115 rfl rfl ?_
        refine jr_iadd 118 dX10_coolsBy_117 rfl ?_
        refine jr_goto 122 dX10_coolsBy_118 rfl ?_
        refine jr_ireturn dX10_coolsBy_122 rfl rfl ?_
        first
        | (have hw := hk g g2; unfold pu_cso at hw; rw [pu_if_t qd] at hw; unfold pu_cools at hw; (first | rw [if_pos (Int32.not_le.mp q60)] at hw | rw [if_neg (Int32.not_lt.mpr q60)] at hw); exact hw)
        | (have hw := hk g g2; unfold pu_cso at hw; rw [pu_if_f qd] at hw; unfold pu_cools at hw; (first | rw [if_pos (Int32.not_le.mp q60)] at hw | rw [if_neg (Int32.not_lt.mpr q60)] at hw); exact hw)
      · refine jr_if_eq 121 114 dX10_coolsBy_111 rfl rfl (fun q111 => ?_) (fun q => absurd (by decide) q)
        refine jr_iload_n 3 122 dX10_coolsBy_121 rfl rfl rfl ?_
        refine jr_ireturn dX10_coolsBy_122 rfl rfl ?_
        first
        | (have hw := hk g g2; unfold pu_cso at hw; rw [pu_if_t qd] at hw; unfold pu_cools at hw; (first | rw [if_pos (Int32.not_le.mp q60)] at hw | rw [if_neg (Int32.not_lt.mpr q60)] at hw); exact hw)
        | (have hw := hk g g2; unfold pu_cso at hw; rw [pu_if_f qd] at hw; unfold pu_cools at hw; (first | rw [if_pos (Int32.not_le.mp q60)] at hw | rw [if_neg (Int32.not_lt.mpr q60)] at hw); exact hw)
  · refine jr_aload_n 0 1 dX10_coolsBy_0 rfl rfl rfl ?_
    refine jr_iconst (1) 2 dX10_coolsBy_1 rfl rfl ?_
    refine jr_aload_n 0 3 dX10_coolsBy_2 rfl rfl rfl ?_
    refine gf_X10_67 6 dX10_coolsBy_3 rfl rfl rfl rfl ?_
    refine jr_iload_n 1 7 dX10_coolsBy_6 rfl rfl rfl ?_
    refine jr_iald rfl rfl (by omega) 8 dX10_coolsBy_7 rfl ?_
    refine jr_aload_n 0 9 dX10_coolsBy_8 rfl rfl rfl ?_
    refine gf_X10_70 12 dX10_coolsBy_9 rfl rfl rfl rfl ?_
    refine jr_iload_n 1 13 dX10_coolsBy_12 rfl rfl rfl ?_
    refine jr_iald rfl rfl (by omega) 14 dX10_coolsBy_13 rfl ?_
    refine jr_aload_n 0 15 dX10_coolsBy_14 rfl rfl rfl ?_
    refine gf_X10_7 18 dX10_coolsBy_15 rfl rfl rfl rfl ?_
    refine jr_aload_n 0 19 dX10_coolsBy_18 rfl rfl rfl ?_
    refine gf_X10_22 22 dX10_coolsBy_19 rfl rfl rfl rfl ?_
    refine jr_iload_n 1 23 dX10_coolsBy_22 rfl rfl rfl ?_
    refine jr_iale rfl rfl (by omega) hse 24 dX10_coolsBy_23 rfl ?_
    refine jr_iald rfl rfl hs 25 dX10_coolsBy_24 rfl ?_
    refine jr_iload_n 2 26 dX10_coolsBy_25 rfl rfl rfl ?_
    refine jr_aload_n 0 27 dX10_coolsBy_26 rfl rfl rfl ?_
    refine jr_iload_n 1 28 dX10_coolsBy_27 rfl rfl rfl ?_
    refine cs_X10_226 31 dX10_coolsBy_28 rfl rfl rfl (Nat.le_of_ble_eq_true rfl) (wp_isSeen hf hkd hc hse hs ?_)
    refine jr_aload_n 0 32 dX10_coolsBy_31 rfl rfl rfl ?_
    refine gf_X10_16 35 dX10_coolsBy_32 rfl rfl rfl rfl ?_
    refine jr_iload_n 1 36 dX10_coolsBy_35 rfl rfl rfl ?_
    refine jr_iald rfl rfl (by omega) 37 dX10_coolsBy_36 rfl ?_
    refine cs_X10_194 40 dX10_coolsBy_37 rfl rfl rfl (Nat.le_of_ble_eq_true rfl) (wp_asksOf (T := T) (n := n) (r := lw) (p := 1) hT hlw hru (by omega) (fun g g2 => ?_))
    refine jr_topi (y := (pu_within (ev_t T lw 1 (pu_nm (σ 66 f) (σ 67 f) (σ 47 s) (nI t) (if (pu_redf 4 (σ 49 f) (σ 47 s)) ≤ σ 66 f then (1 : Int32) else 0) (σ 49 f))) 0 99)) rfl ?_
    refine jr_istore_n 3 (L' := [_, _, _, _]) 41 dX10_coolsBy_40 rfl rfl (by decide) rfl ?_
    refine jr_aload_n 0 42 dX10_coolsBy_41 rfl rfl rfl ?_
    refine gf_X10_13 45 dX10_coolsBy_42 rfl rfl rfl rfl ?_
    refine jr_iload_n 1 46 dX10_coolsBy_45 rfl rfl rfl ?_
    refine jr_iale rfl rfl (by omega) hkd 47 dX10_coolsBy_46 rfl ?_
    refine jr_iconst (3) 48 dX10_coolsBy_47 rfl rfl ?_
    refine jr_icmp_ne 69 51 dX10_coolsBy_48 rfl rfl (fun q48 => ?_) (fun q => absurd q (by decide))
    refine jr_aload_n 0 70 dX10_coolsBy_69 rfl rfl rfl ?_
    refine gf_X10_13 73 dX10_coolsBy_70 rfl rfl rfl rfl ?_
    refine jr_iload_n 1 74 dX10_coolsBy_73 rfl rfl rfl ?_
    refine jr_iale rfl rfl (by omega) hkd 75 dX10_coolsBy_74 rfl ?_
    refine jr_iconst (5) 76 dX10_coolsBy_75 rfl rfl ?_
    refine jr_icmp_ne 101 79 dX10_coolsBy_76 rfl rfl (fun q76 => ?_) (fun q => absurd q (by decide))
    refine jr_iload_n 3 102 dX10_coolsBy_101 rfl rfl rfl ?_
    refine jr_istore_n 3 (L' := [_, _, _, _]) 103 dX10_coolsBy_102 rfl rfl (by decide) rfl ?_
    refine jr_aload_n 0 104 dX10_coolsBy_103 rfl rfl rfl ?_
    refine jr_iload_n 1 105 dX10_coolsBy_104 rfl rfl rfl ?_
    refine jr_iconst (1) 106 dX10_coolsBy_105 rfl rfl ?_
    refine jr_iload_n 2 107 dX10_coolsBy_106 rfl rfl rfl ?_
    refine jr_iconst (5) 108 dX10_coolsBy_107 rfl rfl ?_
    refine cs_X10_219 111 dX10_coolsBy_108 rfl rfl rfl (Nat.le_of_ble_eq_true rfl) (wp_isStopping (fun (qd : pu_do (σ 46 39) (σ 46 40) (σ 46 41) (nI f) 1 (nI t) 5) => ?_) (fun (qd : ¬ pu_do (σ 46 39) (σ 46 40) (σ 46 41) (nI f) 1 (nI t) 5) => ?_))
    · refine jr_if_eq 121 114 dX10_coolsBy_111 rfl rfl (fun q => absurd q (by decide)) (fun q111 => ?_)
      refine jr_iload_n 3 115 dX10_coolsBy_114 rfl rfl rfl ?_
      refine jr_bipush (15) 117 dX10_coolsBy_115 rfl rfl ?_
      refine jr_iadd 118 dX10_coolsBy_117 rfl ?_
      refine jr_goto 122 dX10_coolsBy_118 rfl ?_
      refine jr_ireturn dX10_coolsBy_122 rfl rfl ?_
      first
      | (have hw := hk g g2; unfold pu_cso at hw; rw [pu_if_t qd] at hw; skip; exact hw)
      | (have hw := hk g g2; unfold pu_cso at hw; rw [pu_if_f qd] at hw; skip; exact hw)
    · refine jr_if_eq 121 114 dX10_coolsBy_111 rfl rfl (fun q111 => ?_) (fun q => absurd (by decide) q)
      refine jr_iload_n 3 122 dX10_coolsBy_121 rfl rfl rfl ?_
      refine jr_ireturn dX10_coolsBy_122 rfl rfl ?_
      first
      | (have hw := hk g g2; unfold pu_cso at hw; rw [pu_if_t qd] at hw; skip; exact hw)
      | (have hw := hk g g2; unfold pu_cso at hw; rw [pu_if_f qd] at hw; skip; exact hw)
  · refine jr_aload_n 0 1 dX10_coolsBy_0 rfl rfl rfl ?_
    refine jr_iconst (1) 2 dX10_coolsBy_1 rfl rfl ?_
    refine jr_aload_n 0 3 dX10_coolsBy_2 rfl rfl rfl ?_
    refine gf_X10_67 6 dX10_coolsBy_3 rfl rfl rfl rfl ?_
    refine jr_iload_n 1 7 dX10_coolsBy_6 rfl rfl rfl ?_
    refine jr_iald rfl rfl (by omega) 8 dX10_coolsBy_7 rfl ?_
    refine jr_aload_n 0 9 dX10_coolsBy_8 rfl rfl rfl ?_
    refine gf_X10_70 12 dX10_coolsBy_9 rfl rfl rfl rfl ?_
    refine jr_iload_n 1 13 dX10_coolsBy_12 rfl rfl rfl ?_
    refine jr_iald rfl rfl (by omega) 14 dX10_coolsBy_13 rfl ?_
    refine jr_aload_n 0 15 dX10_coolsBy_14 rfl rfl rfl ?_
    refine gf_X10_7 18 dX10_coolsBy_15 rfl rfl rfl rfl ?_
    refine jr_aload_n 0 19 dX10_coolsBy_18 rfl rfl rfl ?_
    refine gf_X10_22 22 dX10_coolsBy_19 rfl rfl rfl rfl ?_
    refine jr_iload_n 1 23 dX10_coolsBy_22 rfl rfl rfl ?_
    refine jr_iale rfl rfl (by omega) hse 24 dX10_coolsBy_23 rfl ?_
    refine jr_iald rfl rfl hs 25 dX10_coolsBy_24 rfl ?_
    refine jr_iload_n 2 26 dX10_coolsBy_25 rfl rfl rfl ?_
    refine jr_aload_n 0 27 dX10_coolsBy_26 rfl rfl rfl ?_
    refine jr_iload_n 1 28 dX10_coolsBy_27 rfl rfl rfl ?_
    refine cs_X10_226 31 dX10_coolsBy_28 rfl rfl rfl (Nat.le_of_ble_eq_true rfl) (wp_isSeen hf hkd hc hse hs ?_)
    refine jr_aload_n 0 32 dX10_coolsBy_31 rfl rfl rfl ?_
    refine gf_X10_16 35 dX10_coolsBy_32 rfl rfl rfl rfl ?_
    refine jr_iload_n 1 36 dX10_coolsBy_35 rfl rfl rfl ?_
    refine jr_iald rfl rfl (by omega) 37 dX10_coolsBy_36 rfl ?_
    refine cs_X10_194 40 dX10_coolsBy_37 rfl rfl rfl (Nat.le_of_ble_eq_true rfl) (wp_asksOf (T := T) (n := n) (r := lw) (p := 1) hT hlw hru (by omega) (fun g g2 => ?_))
    refine jr_topi (y := (pu_within (ev_t T lw 1 (pu_nm (σ 66 f) (σ 67 f) (σ 47 s) (nI t) (if (pu_redf 5 (σ 49 f) (σ 47 s)) ≤ σ 66 f then (1 : Int32) else 0) (σ 49 f))) 0 99)) rfl ?_
    refine jr_istore_n 3 (L' := [_, _, _, _]) 41 dX10_coolsBy_40 rfl rfl (by decide) rfl ?_
    refine jr_aload_n 0 42 dX10_coolsBy_41 rfl rfl rfl ?_
    refine gf_X10_13 45 dX10_coolsBy_42 rfl rfl rfl rfl ?_
    refine jr_iload_n 1 46 dX10_coolsBy_45 rfl rfl rfl ?_
    refine jr_iale rfl rfl (by omega) hkd 47 dX10_coolsBy_46 rfl ?_
    refine jr_iconst (3) 48 dX10_coolsBy_47 rfl rfl ?_
    refine jr_icmp_ne 69 51 dX10_coolsBy_48 rfl rfl (fun q48 => ?_) (fun q => absurd q (by decide))
    refine jr_aload_n 0 70 dX10_coolsBy_69 rfl rfl rfl ?_
    refine gf_X10_13 73 dX10_coolsBy_70 rfl rfl rfl rfl ?_
    refine jr_iload_n 1 74 dX10_coolsBy_73 rfl rfl rfl ?_
    refine jr_iale rfl rfl (by omega) hkd 75 dX10_coolsBy_74 rfl ?_
    refine jr_iconst (5) 76 dX10_coolsBy_75 rfl rfl ?_
    refine jr_icmp_ne 101 79 dX10_coolsBy_76 rfl rfl (fun q => absurd (by decide) q) (fun q76 => ?_)
    refine jr_aload_n 0 80 dX10_coolsBy_79 rfl rfl rfl ?_
    refine gf_X10_67 83 dX10_coolsBy_80 rfl rfl rfl rfl ?_
    refine jr_iload_n 1 84 dX10_coolsBy_83 rfl rfl rfl ?_
    refine jr_iale (v := σ 66 f) rfl rfl (by omega) rfl 85 dX10_coolsBy_84 rfl ?_
    refine jr_bipush (10) 87 dX10_coolsBy_85 rfl rfl ?_
    refine jr_aload_n 0 88 dX10_coolsBy_87 rfl rfl rfl ?_
    refine gf_X10_16 91 dX10_coolsBy_88 rfl rfl rfl rfl ?_
    refine jr_iload_n 1 92 dX10_coolsBy_91 rfl rfl rfl ?_
    refine jr_iale (v := σ 49 f) rfl rfl (by omega) rfl 93 dX10_coolsBy_92 rfl ?_
    refine jr_imul 94 dX10_coolsBy_93 rfl ?_
    refine jr_icmp_ge 101 97 dX10_coolsBy_94 rfl rfl (fun q94 => ?_) (fun q94 => ?_)
    · refine jr_iload_n 3 102 dX10_coolsBy_101 rfl rfl rfl ?_
      refine jr_istore_n 3 (L' := [_, _, _, _]) 103 dX10_coolsBy_102 rfl rfl (by decide) rfl ?_
      refine jr_aload_n 0 104 dX10_coolsBy_103 rfl rfl rfl ?_
      refine jr_iload_n 1 105 dX10_coolsBy_104 rfl rfl rfl ?_
      refine jr_iconst (1) 106 dX10_coolsBy_105 rfl rfl ?_
      refine jr_iload_n 2 107 dX10_coolsBy_106 rfl rfl rfl ?_
      refine jr_iconst (5) 108 dX10_coolsBy_107 rfl rfl ?_
      refine cs_X10_219 111 dX10_coolsBy_108 rfl rfl rfl (Nat.le_of_ble_eq_true rfl) (wp_isStopping (fun (qd : pu_do (σ 46 39) (σ 46 40) (σ 46 41) (nI f) 1 (nI t) 5) => ?_) (fun (qd : ¬ pu_do (σ 46 39) (σ 46 40) (σ 46 41) (nI f) 1 (nI t) 5) => ?_))
      · refine jr_if_eq 121 114 dX10_coolsBy_111 rfl rfl (fun q => absurd q (by decide)) (fun q111 => ?_)
        refine jr_iload_n 3 115 dX10_coolsBy_114 rfl rfl rfl ?_
        refine jr_bipush (15) 117 dX10_coolsBy_115 rfl rfl ?_
        refine jr_iadd 118 dX10_coolsBy_117 rfl ?_
        refine jr_goto 122 dX10_coolsBy_118 rfl ?_
        refine jr_ireturn dX10_coolsBy_122 rfl rfl ?_
        first
        | (have hw := hk g g2; unfold pu_cso at hw; rw [pu_if_t qd] at hw; unfold pu_cools at hw; (first | rw [if_neg (Int32.not_lt.mpr q94)] at hw | rw [if_pos (Int32.not_le.mp q94)] at hw); exact hw)
        | (have hw := hk g g2; unfold pu_cso at hw; rw [pu_if_f qd] at hw; unfold pu_cools at hw; (first | rw [if_neg (Int32.not_lt.mpr q94)] at hw | rw [if_pos (Int32.not_le.mp q94)] at hw); exact hw)
      · refine jr_if_eq 121 114 dX10_coolsBy_111 rfl rfl (fun q111 => ?_) (fun q => absurd (by decide) q)
        refine jr_iload_n 3 122 dX10_coolsBy_121 rfl rfl rfl ?_
        refine jr_ireturn dX10_coolsBy_122 rfl rfl ?_
        first
        | (have hw := hk g g2; unfold pu_cso at hw; rw [pu_if_t qd] at hw; unfold pu_cools at hw; (first | rw [if_neg (Int32.not_lt.mpr q94)] at hw | rw [if_pos (Int32.not_le.mp q94)] at hw); exact hw)
        | (have hw := hk g g2; unfold pu_cso at hw; rw [pu_if_f qd] at hw; unfold pu_cools at hw; (first | rw [if_neg (Int32.not_lt.mpr q94)] at hw | rw [if_pos (Int32.not_le.mp q94)] at hw); exact hw)
    · refine jr_iconst (0) 98 dX10_coolsBy_97 rfl rfl ?_
      refine jr_goto 102 dX10_coolsBy_98 rfl ?_
      refine jr_istore_n 3 (L' := [_, _, _, _]) 103 dX10_coolsBy_102 rfl rfl (by decide) rfl ?_
      refine jr_aload_n 0 104 dX10_coolsBy_103 rfl rfl rfl ?_
      refine jr_iload_n 1 105 dX10_coolsBy_104 rfl rfl rfl ?_
      refine jr_iconst (1) 106 dX10_coolsBy_105 rfl rfl ?_
      refine jr_iload_n 2 107 dX10_coolsBy_106 rfl rfl rfl ?_
      refine jr_iconst (5) 108 dX10_coolsBy_107 rfl rfl ?_
      refine cs_X10_219 111 dX10_coolsBy_108 rfl rfl rfl (Nat.le_of_ble_eq_true rfl) (wp_isStopping (fun (qd : pu_do (σ 46 39) (σ 46 40) (σ 46 41) (nI f) 1 (nI t) 5) => ?_) (fun (qd : ¬ pu_do (σ 46 39) (σ 46 40) (σ 46 41) (nI f) 1 (nI t) 5) => ?_))
      · refine jr_if_eq 121 114 dX10_coolsBy_111 rfl rfl (fun q => absurd q (by decide)) (fun q111 => ?_)
        refine jr_iload_n 3 115 dX10_coolsBy_114 rfl rfl rfl ?_
        refine jr_bipush (15) 117 dX10_coolsBy_115 rfl rfl ?_
        refine jr_iadd 118 dX10_coolsBy_117 rfl ?_
        refine jr_goto 122 dX10_coolsBy_118 rfl ?_
        refine jr_ireturn dX10_coolsBy_122 rfl rfl ?_
        first
        | (have hw := hk g g2; unfold pu_cso at hw; rw [pu_if_t qd] at hw; unfold pu_cools at hw; (first | rw [if_neg (Int32.not_lt.mpr q94)] at hw | rw [if_pos (Int32.not_le.mp q94)] at hw); exact hw)
        | (have hw := hk g g2; unfold pu_cso at hw; rw [pu_if_f qd] at hw; unfold pu_cools at hw; (first | rw [if_neg (Int32.not_lt.mpr q94)] at hw | rw [if_pos (Int32.not_le.mp q94)] at hw); exact hw)
      · refine jr_if_eq 121 114 dX10_coolsBy_111 rfl rfl (fun q111 => ?_) (fun q => absurd (by decide) q)
        refine jr_iload_n 3 122 dX10_coolsBy_121 rfl rfl rfl ?_
        refine jr_ireturn dX10_coolsBy_122 rfl rfl ?_
        first
        | (have hw := hk g g2; unfold pu_cso at hw; rw [pu_if_t qd] at hw; unfold pu_cools at hw; (first | rw [if_neg (Int32.not_lt.mpr q94)] at hw | rw [if_pos (Int32.not_le.mp q94)] at hw); exact hw)
        | (have hw := hk g g2; unfold pu_cso at hw; rw [pu_if_f qd] at hw; unfold pu_cools at hw; (first | rw [if_neg (Int32.not_lt.mpr q94)] at hw | rw [if_pos (Int32.not_le.mp q94)] at hw); exact hw)
def pr_cs (co : Nat → Int32) (a f t : Int32) : Nat → Int32
  | 0 => a
  | n + 1 => pr_cs co a f t n + if co (3 * n) = t ∧ co (3 * n + 1) = f then co (3 * n + 2) else 0
theorem rcaused_loop {G : jr_G} {d : Nat} {σ : jr_Sg} {k : Value → jr_Sg → Prop} {f : Nat} {t : Int32} {nc : Nat} (hf : f < 5) (hnc : σ 46 6 = nI nc) (h8 : nc ≤ 8) (h : k (.int (pu_cau (σ 46 39) (σ 46 40) (σ 46 41) (nI f) t (pr_cs (σ 52) (pu_if (t = σ 46 45) (σ 70 f) 0) (nI f) t nc))) σ) : ∀ (m j : Nat) (acc : Int32), j + m = nc → acc = pr_cs (σ 52) (pu_if (t = σ 46 45) (σ 70 f) 0) (nI f) t j → jr_R G (d + 1) mi_X10_causedTo (jr_k k) 22 [some (.ref 46), some (.int (nI f)), some (.int t), some (.int acc), some (.int (nI j))] [] σ := by
  intro m
  induction m with
  | zero =>
    intro j acc hj hacc
    have e : j = nc := hj
    subst e
    subst hacc
    refine jr_iload 24 dX10_causedTo_22 rfl rfl ?_
    refine jr_aload_n 0 25 dX10_causedTo_24 rfl rfl rfl ?_
    refine gf_X10_112 28 dX10_causedTo_25 rfl rfl rfl rfl ?_
    rw [hnc]
    refine jr_icmp_ge 83 31 dX10_causedTo_28 rfl rfl (fun q28 => ?_) (fun z => absurd (Int32.le_refl _) z)
    refine jr_aload_n 0 84 dX10_causedTo_83 rfl rfl rfl ?_
    refine jr_iload_n 1 85 dX10_causedTo_84 rfl rfl rfl ?_
    refine jr_iconst (2) 86 dX10_causedTo_85 rfl rfl ?_
    refine jr_iload_n 2 87 dX10_causedTo_86 rfl rfl rfl ?_
    refine jr_iconst (1) 88 dX10_causedTo_87 rfl rfl ?_
    refine cs_X10_219 91 dX10_causedTo_88 rfl rfl rfl (Nat.le_of_ble_eq_true rfl) (wp_isStopping (fun qd => ?_) (fun qd => ?_))
    · refine jr_if_eq 101 94 dX10_causedTo_91 rfl rfl (fun q => absurd q (by decide)) (fun q91 => ?_)
      refine jr_iload_n 3 95 dX10_causedTo_94 rfl rfl rfl ?_
      refine jr_bipush (30) 97 dX10_causedTo_95 rfl rfl ?_
      refine jr_iadd 98 dX10_causedTo_97 rfl ?_
      refine jr_goto 102 dX10_causedTo_98 rfl ?_
      refine jr_ireturn dX10_causedTo_102 rfl rfl ?_
      unfold pu_cau at h
      first
      | (rw [pu_if_t qd] at h; exact h)
      | (rw [pu_if_f qd] at h; exact h)
    · refine jr_if_eq 101 94 dX10_causedTo_91 rfl rfl (fun q91 => ?_) (fun q => absurd (by decide) q)
      refine jr_iload_n 3 102 dX10_causedTo_101 rfl rfl rfl ?_
      refine jr_ireturn dX10_causedTo_102 rfl rfl ?_
      unfold pu_cau at h
      first
      | (rw [pu_if_t qd] at h; exact h)
      | (rw [pu_if_f qd] at h; exact h)
  | succ m ih =>
    intro j acc hj hacc
    refine jr_iload 24 dX10_causedTo_22 rfl rfl ?_
    refine jr_aload_n 0 25 dX10_causedTo_24 rfl rfl rfl ?_
    refine gf_X10_112 28 dX10_causedTo_25 rfl rfl rfl rfl ?_
    rw [hnc]
    refine jr_icmp_ge 83 31 dX10_causedTo_28 rfl rfl (fun z => absurd z (nI_ge (by omega) (by omega))) (fun q28 => ?_)
    refine jr_iload_n 3 32 dX10_causedTo_31 rfl rfl rfl ?_
    refine jr_aload_n 0 33 dX10_causedTo_32 rfl rfl rfl ?_
    refine gf_X10_25 36 dX10_causedTo_33 rfl rfl rfl rfl ?_
    refine jr_iconst (nI 3) 37 dX10_causedTo_36 rfl rfl ?_
    refine jr_iload 39 dX10_causedTo_37 rfl rfl ?_
    refine jr_imul 40 dX10_causedTo_39 rfl ?_
    refine jr_iald rfl (pk_mul 3 j) (by omega) 41 dX10_causedTo_40 rfl ?_
    refine jr_iload_n 2 42 dX10_causedTo_41 rfl rfl rfl ?_
    refine jr_icmp_ne 74 45 dX10_causedTo_42 rfl rfl (fun q42 => ?_) (fun q42 => ?_)
    · refine jr_iconst (nI 0) 75 dX10_causedTo_74 rfl rfl ?_
      refine jr_iadd 76 dX10_causedTo_75 rfl ?_
      refine jr_istore_n 3 (L' := [_, _, _, _, _]) 77 dX10_causedTo_76 rfl rfl (by decide) rfl ?_
      refine jr_iinc (v := nI (j + 1)) (L' := [_, _, _, _, _]) 80 dX10_causedTo_77 rfl rfl (nI_1 j) (by decide) rfl ?_
      refine jr_goto 22 dX10_causedTo_80 rfl ?_
      first
      | exact ih (j + 1) _ (by omega) (by rw [hacc, pr_cs, if_pos ⟨by assumption, by assumption⟩])
      | exact ih (j + 1) _ (by omega) (by rw [hacc, pr_cs, if_neg (by grind)]; rfl)
    · refine jr_aload_n 0 46 dX10_causedTo_45 rfl rfl rfl ?_
      refine gf_X10_25 49 dX10_causedTo_46 rfl rfl rfl rfl ?_
      refine jr_iconst (nI 3) 50 dX10_causedTo_49 rfl rfl ?_
      refine jr_iload 52 dX10_causedTo_50 rfl rfl ?_
      refine jr_imul 53 dX10_causedTo_52 rfl ?_
      refine jr_iconst (nI 1) 54 dX10_causedTo_53 rfl rfl ?_
      refine jr_iadd 55 dX10_causedTo_54 rfl ?_
      refine jr_iald rfl (k := 3 * j + 1) (by rw [pk_mul, nI_add]) (by omega) 56 dX10_causedTo_55 rfl ?_
      refine jr_iload_n 1 57 dX10_causedTo_56 rfl rfl rfl ?_
      refine jr_icmp_ne 74 60 dX10_causedTo_57 rfl rfl (fun q57 => ?_) (fun q57 => ?_)
      · refine jr_iconst (nI 0) 75 dX10_causedTo_74 rfl rfl ?_
        refine jr_iadd 76 dX10_causedTo_75 rfl ?_
        refine jr_istore_n 3 (L' := [_, _, _, _, _]) 77 dX10_causedTo_76 rfl rfl (by decide) rfl ?_
        refine jr_iinc (v := nI (j + 1)) (L' := [_, _, _, _, _]) 80 dX10_causedTo_77 rfl rfl (nI_1 j) (by decide) rfl ?_
        refine jr_goto 22 dX10_causedTo_80 rfl ?_
        first
        | exact ih (j + 1) _ (by omega) (by rw [hacc, pr_cs, if_pos ⟨by assumption, by assumption⟩])
        | exact ih (j + 1) _ (by omega) (by rw [hacc, pr_cs, if_neg (by grind)]; rfl)
      · refine jr_aload_n 0 61 dX10_causedTo_60 rfl rfl rfl ?_
        refine gf_X10_25 64 dX10_causedTo_61 rfl rfl rfl rfl ?_
        refine jr_iconst (nI 3) 65 dX10_causedTo_64 rfl rfl ?_
        refine jr_iload 67 dX10_causedTo_65 rfl rfl ?_
        refine jr_imul 68 dX10_causedTo_67 rfl ?_
        refine jr_iconst (nI 2) 69 dX10_causedTo_68 rfl rfl ?_
        refine jr_iadd 70 dX10_causedTo_69 rfl ?_
        refine jr_iald rfl (k := 3 * j + 2) (by rw [pk_mul, nI_add]) (by omega) 71 dX10_causedTo_70 rfl ?_
        refine jr_goto 75 dX10_causedTo_71 rfl ?_
        refine jr_iadd 76 dX10_causedTo_75 rfl ?_
        refine jr_istore_n 3 (L' := [_, _, _, _, _]) 77 dX10_causedTo_76 rfl rfl (by decide) rfl ?_
        refine jr_iinc (v := nI (j + 1)) (L' := [_, _, _, _, _]) 80 dX10_causedTo_77 rfl rfl (nI_1 j) (by decide) rfl ?_
        refine jr_goto 22 dX10_causedTo_80 rfl ?_
        first
        | exact ih (j + 1) _ (by omega) (by rw [hacc, pr_cs, if_pos ⟨by assumption, by assumption⟩])
        | exact ih (j + 1) _ (by omega) (by rw [hacc, pr_cs, if_neg (by grind)]; rfl)
theorem wp_rcausedTo {G : jr_G} {d : Nat} {σ : jr_Sg} {k : Value → jr_Sg → Prop} {f : Nat} {t : Int32} {nc : Nat} (hf : f < 5) (hnc : σ 46 6 = nI nc) (h8 : nc ≤ 8) (h : k (.int (pu_cau (σ 46 39) (σ 46 40) (σ 46 41) (nI f) t (pr_cs (σ 52) (pu_if (t = σ 46 45) (σ 70 f) 0) (nI f) t nc))) σ) : jr_M G (d + 1) mi_X10_causedTo [.ref 46, .int (nI f), .int t] σ (jr_k k) := by
  refine jr_enter (L := [some (.ref 46), some (.int (nI f)), some (.int t), none, none]) (by decide) (Nat.le_of_ble_eq_true rfl) rfl ?_
  refine jr_iload_n 2 1 dX10_causedTo_0 rfl rfl rfl ?_
  refine jr_aload_n 0 2 dX10_causedTo_1 rfl rfl rfl ?_
  refine gf_X10_229 5 dX10_causedTo_2 rfl rfl rfl rfl ?_
  refine jr_icmp_ne 17 8 dX10_causedTo_5 rfl rfl (fun q5 => ?_) (fun q5 => ?_)
  · refine jr_iconst (0) 18 dX10_causedTo_17 rfl rfl ?_
    refine jr_istore_n 3 (L' := [_, _, _, _, _]) 19 dX10_causedTo_18 rfl rfl (by decide) rfl ?_
    refine jr_iconst (0) 20 dX10_causedTo_19 rfl rfl ?_
    refine jr_istore (L' := [_, _, _, _, _]) 22 dX10_causedTo_20 rfl (by decide) rfl ?_
    first
    | exact rcaused_loop hf hnc h8 h nc 0 _ (by omega) (by rw [pr_cs, pu_if_t (by assumption)])
    | exact rcaused_loop hf hnc h8 h nc 0 _ (by omega) (by rw [pr_cs, pu_if_f (by assumption)])
  · refine jr_aload_n 0 9 dX10_causedTo_8 rfl rfl rfl ?_
    refine gf_X10_89 12 dX10_causedTo_9 rfl rfl rfl rfl ?_
    refine jr_iload_n 1 13 dX10_causedTo_12 rfl rfl rfl ?_
    refine jr_iald rfl rfl (by omega) 14 dX10_causedTo_13 rfl ?_
    refine jr_goto 18 dX10_causedTo_14 rfl ?_
    refine jr_istore_n 3 (L' := [_, _, _, _, _]) 19 dX10_causedTo_18 rfl rfl (by decide) rfl ?_
    refine jr_iconst (0) 20 dX10_causedTo_19 rfl rfl ?_
    refine jr_istore (L' := [_, _, _, _, _]) 22 dX10_causedTo_20 rfl (by decide) rfl ?_
    first
    | exact rcaused_loop hf hnc h8 h nc 0 _ (by omega) (by rw [pr_cs, pu_if_t (by assumption)])
    | exact rcaused_loop hf hnc h8 h nc 0 _ (by omega) (by rw [pr_cs, pu_if_f (by assumption)])
