theorem cpy0 {f g : Nat → Int32} {n i : Nat} (h : i < n) : va_cpy f g 0 0 n i = f i := by
  unfold va_cpy
  rw [if_pos ⟨Nat.zero_le _, by omega⟩]
  congr 1
  omega
/-- σ' is σ, but the scene at b is the one at c -/
def bc_ok (b c : Nat) (σ σ' : jr_Sg) : Prop := (∀ a, a < b ∨ b + 8 < a → σ' a = σ a) ∧ (∀ i, i < 5 → σ' (b + 1) i = σ (c + 1) i ∧ σ' (b + 2) i = σ (c + 2) i ∧ σ' (b + 3) i = σ (c + 3) i ∧ σ' (b + 4) i = σ (c + 4) i) ∧ (∀ i, i < 8 → σ' (b + 5) i = σ (c + 5) i ∧ σ' (b + 6) i = σ (c + 6) i ∧ σ' (b + 7) i = σ (c + 7) i ∧ σ' (b + 8) i = σ (c + 8) i) ∧ σ' b 8 = σ c 8 ∧ σ' b 9 = σ c 9 ∧ σ' b 10 = σ c 10
theorem wp_become_24_15 {G : jr_G} {d : Nat} {σ : jr_Sg} {k : jr_Sg → Prop} (hk : ∀ σ' : jr_Sg, bc_ok 24 15 σ σ' → k σ') : jr_M G d mi_X3_become [.ref 24, .ref 15] σ (jr_kv k) := by
  refine jr_enter (L := [some (.ref 24), some (.ref 15)]) (by decide) (Nat.le_of_ble_eq_true rfl) rfl ?_
  refine jr_aload_n 1 1 dX3_become_0 rfl rfl rfl ?_
  refine gf_X3_9 4 dX3_become_1 rfl rfl rfl rfl ?_
  refine jr_iconst (nI 0) 5 dX3_become_4 rfl rfl ?_
  refine jr_aload_n 0 6 dX3_become_5 rfl rfl rfl ?_
  refine gf_X3_9 9 dX3_become_6 rfl rfl rfl rfl ?_
  refine jr_iconst (nI 0) 10 dX3_become_9 rfl rfl ?_
  refine jr_iconst (nI 5) 11 dX3_become_10 rfl rfl ?_
  refine jr_acopy (sp := 0) (dp := 0) (n := 5) ac_X3_46 rfl rfl rfl rfl rfl (by omega) (by omega) (by decide) 14 dX3_become_11 rfl ?_
  refine jr_aload_n 1 15 dX3_become_14 rfl rfl rfl ?_
  refine gf_X3_15 18 dX3_become_15 rfl rfl rfl rfl ?_
  refine jr_iconst (nI 0) 19 dX3_become_18 rfl rfl ?_
  refine jr_aload_n 0 20 dX3_become_19 rfl rfl rfl ?_
  refine gf_X3_15 23 dX3_become_20 rfl rfl rfl rfl ?_
  refine jr_iconst (nI 0) 24 dX3_become_23 rfl rfl ?_
  refine jr_iconst (nI 5) 25 dX3_become_24 rfl rfl ?_
  refine jr_acopy (sp := 0) (dp := 0) (n := 5) ac_X3_46 rfl rfl rfl rfl rfl (by omega) (by omega) (by decide) 28 dX3_become_25 rfl ?_
  refine jr_aload_n 1 29 dX3_become_28 rfl rfl rfl ?_
  refine gf_X3_18 32 dX3_become_29 rfl rfl rfl rfl ?_
  refine jr_iconst (nI 0) 33 dX3_become_32 rfl rfl ?_
  refine jr_aload_n 0 34 dX3_become_33 rfl rfl rfl ?_
  refine gf_X3_18 37 dX3_become_34 rfl rfl rfl rfl ?_
  refine jr_iconst (nI 0) 38 dX3_become_37 rfl rfl ?_
  refine jr_iconst (nI 5) 39 dX3_become_38 rfl rfl ?_
  refine jr_acopy (sp := 0) (dp := 0) (n := 5) ac_X3_46 rfl rfl rfl rfl rfl (by omega) (by omega) (by decide) 42 dX3_become_39 rfl ?_
  refine jr_aload_n 1 43 dX3_become_42 rfl rfl rfl ?_
  refine gf_X3_21 46 dX3_become_43 rfl rfl rfl rfl ?_
  refine jr_iconst (nI 0) 47 dX3_become_46 rfl rfl ?_
  refine jr_aload_n 0 48 dX3_become_47 rfl rfl rfl ?_
  refine gf_X3_21 51 dX3_become_48 rfl rfl rfl rfl ?_
  refine jr_iconst (nI 0) 52 dX3_become_51 rfl rfl ?_
  refine jr_iconst (nI 5) 53 dX3_become_52 rfl rfl ?_
  refine jr_acopy (sp := 0) (dp := 0) (n := 5) ac_X3_46 rfl rfl rfl rfl rfl (by omega) (by omega) (by decide) 56 dX3_become_53 rfl ?_
  refine jr_aload_n 1 57 dX3_become_56 rfl rfl rfl ?_
  refine gf_X3_24 60 dX3_become_57 rfl rfl rfl rfl ?_
  refine jr_iconst (nI 0) 61 dX3_become_60 rfl rfl ?_
  refine jr_aload_n 0 62 dX3_become_61 rfl rfl rfl ?_
  refine gf_X3_24 65 dX3_become_62 rfl rfl rfl rfl ?_
  refine jr_iconst (nI 0) 66 dX3_become_65 rfl rfl ?_
  refine jr_bipush (nI 8) 68 dX3_become_66 rfl rfl ?_
  refine jr_acopy (sp := 0) (dp := 0) (n := 8) ac_X3_46 rfl rfl rfl rfl rfl (by omega) (by omega) (by decide) 71 dX3_become_68 rfl ?_
  refine jr_aload_n 1 72 dX3_become_71 rfl rfl rfl ?_
  refine gf_X3_27 75 dX3_become_72 rfl rfl rfl rfl ?_
  refine jr_iconst (nI 0) 76 dX3_become_75 rfl rfl ?_
  refine jr_aload_n 0 77 dX3_become_76 rfl rfl rfl ?_
  refine gf_X3_27 80 dX3_become_77 rfl rfl rfl rfl ?_
  refine jr_iconst (nI 0) 81 dX3_become_80 rfl rfl ?_
  refine jr_bipush (nI 8) 83 dX3_become_81 rfl rfl ?_
  refine jr_acopy (sp := 0) (dp := 0) (n := 8) ac_X3_46 rfl rfl rfl rfl rfl (by omega) (by omega) (by decide) 86 dX3_become_83 rfl ?_
  refine jr_aload_n 1 87 dX3_become_86 rfl rfl rfl ?_
  refine gf_X3_30 90 dX3_become_87 rfl rfl rfl rfl ?_
  refine jr_iconst (nI 0) 91 dX3_become_90 rfl rfl ?_
  refine jr_aload_n 0 92 dX3_become_91 rfl rfl rfl ?_
  refine gf_X3_30 95 dX3_become_92 rfl rfl rfl rfl ?_
  refine jr_iconst (nI 0) 96 dX3_become_95 rfl rfl ?_
  refine jr_bipush (nI 8) 98 dX3_become_96 rfl rfl ?_
  refine jr_acopy (sp := 0) (dp := 0) (n := 8) ac_X3_46 rfl rfl rfl rfl rfl (by omega) (by omega) (by decide) 101 dX3_become_98 rfl ?_
  refine jr_aload_n 1 102 dX3_become_101 rfl rfl rfl ?_
  refine gf_X3_33 105 dX3_become_102 rfl rfl rfl rfl ?_
  refine jr_iconst (nI 0) 106 dX3_become_105 rfl rfl ?_
  refine jr_aload_n 0 107 dX3_become_106 rfl rfl rfl ?_
  refine gf_X3_33 110 dX3_become_107 rfl rfl rfl rfl ?_
  refine jr_iconst (nI 0) 111 dX3_become_110 rfl rfl ?_
  refine jr_bipush (nI 8) 113 dX3_become_111 rfl rfl ?_
  refine jr_acopy (sp := 0) (dp := 0) (n := 8) ac_X3_46 rfl rfl rfl rfl rfl (by omega) (by omega) (by decide) 116 dX3_become_113 rfl ?_
  refine jr_aload_n 0 117 dX3_become_116 rfl rfl rfl ?_
  refine jr_aload_n 1 118 dX3_become_117 rfl rfl rfl ?_
  refine gf_X3_36 121 dX3_become_118 rfl rfl rfl rfl ?_
  refine pf_X3_36 124 dX3_become_121 rfl rfl rfl rfl ?_
  refine jr_aload_n 0 125 dX3_become_124 rfl rfl rfl ?_
  refine jr_aload_n 1 126 dX3_become_125 rfl rfl rfl ?_
  refine gf_X3_40 129 dX3_become_126 rfl rfl rfl rfl ?_
  refine pf_X3_40 132 dX3_become_129 rfl rfl rfl rfl ?_
  refine jr_aload_n 0 133 dX3_become_132 rfl rfl rfl ?_
  refine jr_aload_n 1 134 dX3_become_133 rfl rfl rfl ?_
  refine gf_X3_43 137 dX3_become_134 rfl rfl rfl rfl ?_
  refine pf_X3_43 140 dX3_become_137 rfl rfl rfl rfl ?_
  refine jr_return dX3_become_140 rfl ?_
  refine hk _ ⟨fun a ha => ?_, fun i hi => ⟨?_, ?_, ?_, ?_⟩, fun i hi => ⟨?_, ?_, ?_, ?_⟩, rfl, rfl, rfl⟩
  · simp only [jr_up, jr_upc]
    repeat (rw [if_neg (by omega)])
  · exact cpy0 (f := σ 16) (g := σ 25) hi
  · exact cpy0 (f := σ 17) (g := σ 26) hi
  · exact cpy0 (f := σ 18) (g := σ 27) hi
  · exact cpy0 (f := σ 19) (g := σ 28) hi
  · exact cpy0 (f := σ 20) (g := σ 29) hi
  · exact cpy0 (f := σ 21) (g := σ 30) hi
  · exact cpy0 (f := σ 22) (g := σ 31) hi
  · exact cpy0 (f := σ 23) (g := σ 32) hi
theorem wp_become_33_15 {G : jr_G} {d : Nat} {σ : jr_Sg} {k : jr_Sg → Prop} (hk : ∀ σ' : jr_Sg, bc_ok 33 15 σ σ' → k σ') : jr_M G d mi_X3_become [.ref 33, .ref 15] σ (jr_kv k) := by
  refine jr_enter (L := [some (.ref 33), some (.ref 15)]) (by decide) (Nat.le_of_ble_eq_true rfl) rfl ?_
  refine jr_aload_n 1 1 dX3_become_0 rfl rfl rfl ?_
  refine gf_X3_9 4 dX3_become_1 rfl rfl rfl rfl ?_
  refine jr_iconst (nI 0) 5 dX3_become_4 rfl rfl ?_
  refine jr_aload_n 0 6 dX3_become_5 rfl rfl rfl ?_
  refine gf_X3_9 9 dX3_become_6 rfl rfl rfl rfl ?_
  refine jr_iconst (nI 0) 10 dX3_become_9 rfl rfl ?_
  refine jr_iconst (nI 5) 11 dX3_become_10 rfl rfl ?_
  refine jr_acopy (sp := 0) (dp := 0) (n := 5) ac_X3_46 rfl rfl rfl rfl rfl (by omega) (by omega) (by decide) 14 dX3_become_11 rfl ?_
  refine jr_aload_n 1 15 dX3_become_14 rfl rfl rfl ?_
  refine gf_X3_15 18 dX3_become_15 rfl rfl rfl rfl ?_
  refine jr_iconst (nI 0) 19 dX3_become_18 rfl rfl ?_
  refine jr_aload_n 0 20 dX3_become_19 rfl rfl rfl ?_
  refine gf_X3_15 23 dX3_become_20 rfl rfl rfl rfl ?_
  refine jr_iconst (nI 0) 24 dX3_become_23 rfl rfl ?_
  refine jr_iconst (nI 5) 25 dX3_become_24 rfl rfl ?_
  refine jr_acopy (sp := 0) (dp := 0) (n := 5) ac_X3_46 rfl rfl rfl rfl rfl (by omega) (by omega) (by decide) 28 dX3_become_25 rfl ?_
  refine jr_aload_n 1 29 dX3_become_28 rfl rfl rfl ?_
  refine gf_X3_18 32 dX3_become_29 rfl rfl rfl rfl ?_
  refine jr_iconst (nI 0) 33 dX3_become_32 rfl rfl ?_
  refine jr_aload_n 0 34 dX3_become_33 rfl rfl rfl ?_
  refine gf_X3_18 37 dX3_become_34 rfl rfl rfl rfl ?_
  refine jr_iconst (nI 0) 38 dX3_become_37 rfl rfl ?_
  refine jr_iconst (nI 5) 39 dX3_become_38 rfl rfl ?_
  refine jr_acopy (sp := 0) (dp := 0) (n := 5) ac_X3_46 rfl rfl rfl rfl rfl (by omega) (by omega) (by decide) 42 dX3_become_39 rfl ?_
  refine jr_aload_n 1 43 dX3_become_42 rfl rfl rfl ?_
  refine gf_X3_21 46 dX3_become_43 rfl rfl rfl rfl ?_
  refine jr_iconst (nI 0) 47 dX3_become_46 rfl rfl ?_
  refine jr_aload_n 0 48 dX3_become_47 rfl rfl rfl ?_
  refine gf_X3_21 51 dX3_become_48 rfl rfl rfl rfl ?_
  refine jr_iconst (nI 0) 52 dX3_become_51 rfl rfl ?_
  refine jr_iconst (nI 5) 53 dX3_become_52 rfl rfl ?_
  refine jr_acopy (sp := 0) (dp := 0) (n := 5) ac_X3_46 rfl rfl rfl rfl rfl (by omega) (by omega) (by decide) 56 dX3_become_53 rfl ?_
  refine jr_aload_n 1 57 dX3_become_56 rfl rfl rfl ?_
  refine gf_X3_24 60 dX3_become_57 rfl rfl rfl rfl ?_
  refine jr_iconst (nI 0) 61 dX3_become_60 rfl rfl ?_
  refine jr_aload_n 0 62 dX3_become_61 rfl rfl rfl ?_
  refine gf_X3_24 65 dX3_become_62 rfl rfl rfl rfl ?_
  refine jr_iconst (nI 0) 66 dX3_become_65 rfl rfl ?_
  refine jr_bipush (nI 8) 68 dX3_become_66 rfl rfl ?_
  refine jr_acopy (sp := 0) (dp := 0) (n := 8) ac_X3_46 rfl rfl rfl rfl rfl (by omega) (by omega) (by decide) 71 dX3_become_68 rfl ?_
  refine jr_aload_n 1 72 dX3_become_71 rfl rfl rfl ?_
  refine gf_X3_27 75 dX3_become_72 rfl rfl rfl rfl ?_
  refine jr_iconst (nI 0) 76 dX3_become_75 rfl rfl ?_
  refine jr_aload_n 0 77 dX3_become_76 rfl rfl rfl ?_
  refine gf_X3_27 80 dX3_become_77 rfl rfl rfl rfl ?_
  refine jr_iconst (nI 0) 81 dX3_become_80 rfl rfl ?_
  refine jr_bipush (nI 8) 83 dX3_become_81 rfl rfl ?_
  refine jr_acopy (sp := 0) (dp := 0) (n := 8) ac_X3_46 rfl rfl rfl rfl rfl (by omega) (by omega) (by decide) 86 dX3_become_83 rfl ?_
  refine jr_aload_n 1 87 dX3_become_86 rfl rfl rfl ?_
  refine gf_X3_30 90 dX3_become_87 rfl rfl rfl rfl ?_
  refine jr_iconst (nI 0) 91 dX3_become_90 rfl rfl ?_
  refine jr_aload_n 0 92 dX3_become_91 rfl rfl rfl ?_
  refine gf_X3_30 95 dX3_become_92 rfl rfl rfl rfl ?_
  refine jr_iconst (nI 0) 96 dX3_become_95 rfl rfl ?_
  refine jr_bipush (nI 8) 98 dX3_become_96 rfl rfl ?_
  refine jr_acopy (sp := 0) (dp := 0) (n := 8) ac_X3_46 rfl rfl rfl rfl rfl (by omega) (by omega) (by decide) 101 dX3_become_98 rfl ?_
  refine jr_aload_n 1 102 dX3_become_101 rfl rfl rfl ?_
  refine gf_X3_33 105 dX3_become_102 rfl rfl rfl rfl ?_
  refine jr_iconst (nI 0) 106 dX3_become_105 rfl rfl ?_
  refine jr_aload_n 0 107 dX3_become_106 rfl rfl rfl ?_
  refine gf_X3_33 110 dX3_become_107 rfl rfl rfl rfl ?_
  refine jr_iconst (nI 0) 111 dX3_become_110 rfl rfl ?_
  refine jr_bipush (nI 8) 113 dX3_become_111 rfl rfl ?_
  refine jr_acopy (sp := 0) (dp := 0) (n := 8) ac_X3_46 rfl rfl rfl rfl rfl (by omega) (by omega) (by decide) 116 dX3_become_113 rfl ?_
  refine jr_aload_n 0 117 dX3_become_116 rfl rfl rfl ?_
  refine jr_aload_n 1 118 dX3_become_117 rfl rfl rfl ?_
  refine gf_X3_36 121 dX3_become_118 rfl rfl rfl rfl ?_
  refine pf_X3_36 124 dX3_become_121 rfl rfl rfl rfl ?_
  refine jr_aload_n 0 125 dX3_become_124 rfl rfl rfl ?_
  refine jr_aload_n 1 126 dX3_become_125 rfl rfl rfl ?_
  refine gf_X3_40 129 dX3_become_126 rfl rfl rfl rfl ?_
  refine pf_X3_40 132 dX3_become_129 rfl rfl rfl rfl ?_
  refine jr_aload_n 0 133 dX3_become_132 rfl rfl rfl ?_
  refine jr_aload_n 1 134 dX3_become_133 rfl rfl rfl ?_
  refine gf_X3_43 137 dX3_become_134 rfl rfl rfl rfl ?_
  refine pf_X3_43 140 dX3_become_137 rfl rfl rfl rfl ?_
  refine jr_return dX3_become_140 rfl ?_
  refine hk _ ⟨fun a ha => ?_, fun i hi => ⟨?_, ?_, ?_, ?_⟩, fun i hi => ⟨?_, ?_, ?_, ?_⟩, rfl, rfl, rfl⟩
  · simp only [jr_up, jr_upc]
    repeat (rw [if_neg (by omega)])
  · exact cpy0 (f := σ 16) (g := σ 34) hi
  · exact cpy0 (f := σ 17) (g := σ 35) hi
  · exact cpy0 (f := σ 18) (g := σ 36) hi
  · exact cpy0 (f := σ 19) (g := σ 37) hi
  · exact cpy0 (f := σ 20) (g := σ 38) hi
  · exact cpy0 (f := σ 21) (g := σ 39) hi
  · exact cpy0 (f := σ 22) (g := σ 40) hi
  · exact cpy0 (f := σ 23) (g := σ 41) hi
theorem wp_become_15_33 {G : jr_G} {d : Nat} {σ : jr_Sg} {k : jr_Sg → Prop} (hk : ∀ σ' : jr_Sg, bc_ok 15 33 σ σ' → k σ') : jr_M G d mi_X3_become [.ref 15, .ref 33] σ (jr_kv k) := by
  refine jr_enter (L := [some (.ref 15), some (.ref 33)]) (by decide) (Nat.le_of_ble_eq_true rfl) rfl ?_
  refine jr_aload_n 1 1 dX3_become_0 rfl rfl rfl ?_
  refine gf_X3_9 4 dX3_become_1 rfl rfl rfl rfl ?_
  refine jr_iconst (nI 0) 5 dX3_become_4 rfl rfl ?_
  refine jr_aload_n 0 6 dX3_become_5 rfl rfl rfl ?_
  refine gf_X3_9 9 dX3_become_6 rfl rfl rfl rfl ?_
  refine jr_iconst (nI 0) 10 dX3_become_9 rfl rfl ?_
  refine jr_iconst (nI 5) 11 dX3_become_10 rfl rfl ?_
  refine jr_acopy (sp := 0) (dp := 0) (n := 5) ac_X3_46 rfl rfl rfl rfl rfl (by omega) (by omega) (by decide) 14 dX3_become_11 rfl ?_
  refine jr_aload_n 1 15 dX3_become_14 rfl rfl rfl ?_
  refine gf_X3_15 18 dX3_become_15 rfl rfl rfl rfl ?_
  refine jr_iconst (nI 0) 19 dX3_become_18 rfl rfl ?_
  refine jr_aload_n 0 20 dX3_become_19 rfl rfl rfl ?_
  refine gf_X3_15 23 dX3_become_20 rfl rfl rfl rfl ?_
  refine jr_iconst (nI 0) 24 dX3_become_23 rfl rfl ?_
  refine jr_iconst (nI 5) 25 dX3_become_24 rfl rfl ?_
  refine jr_acopy (sp := 0) (dp := 0) (n := 5) ac_X3_46 rfl rfl rfl rfl rfl (by omega) (by omega) (by decide) 28 dX3_become_25 rfl ?_
  refine jr_aload_n 1 29 dX3_become_28 rfl rfl rfl ?_
  refine gf_X3_18 32 dX3_become_29 rfl rfl rfl rfl ?_
  refine jr_iconst (nI 0) 33 dX3_become_32 rfl rfl ?_
  refine jr_aload_n 0 34 dX3_become_33 rfl rfl rfl ?_
  refine gf_X3_18 37 dX3_become_34 rfl rfl rfl rfl ?_
  refine jr_iconst (nI 0) 38 dX3_become_37 rfl rfl ?_
  refine jr_iconst (nI 5) 39 dX3_become_38 rfl rfl ?_
  refine jr_acopy (sp := 0) (dp := 0) (n := 5) ac_X3_46 rfl rfl rfl rfl rfl (by omega) (by omega) (by decide) 42 dX3_become_39 rfl ?_
  refine jr_aload_n 1 43 dX3_become_42 rfl rfl rfl ?_
  refine gf_X3_21 46 dX3_become_43 rfl rfl rfl rfl ?_
  refine jr_iconst (nI 0) 47 dX3_become_46 rfl rfl ?_
  refine jr_aload_n 0 48 dX3_become_47 rfl rfl rfl ?_
  refine gf_X3_21 51 dX3_become_48 rfl rfl rfl rfl ?_
  refine jr_iconst (nI 0) 52 dX3_become_51 rfl rfl ?_
  refine jr_iconst (nI 5) 53 dX3_become_52 rfl rfl ?_
  refine jr_acopy (sp := 0) (dp := 0) (n := 5) ac_X3_46 rfl rfl rfl rfl rfl (by omega) (by omega) (by decide) 56 dX3_become_53 rfl ?_
  refine jr_aload_n 1 57 dX3_become_56 rfl rfl rfl ?_
  refine gf_X3_24 60 dX3_become_57 rfl rfl rfl rfl ?_
  refine jr_iconst (nI 0) 61 dX3_become_60 rfl rfl ?_
  refine jr_aload_n 0 62 dX3_become_61 rfl rfl rfl ?_
  refine gf_X3_24 65 dX3_become_62 rfl rfl rfl rfl ?_
  refine jr_iconst (nI 0) 66 dX3_become_65 rfl rfl ?_
  refine jr_bipush (nI 8) 68 dX3_become_66 rfl rfl ?_
  refine jr_acopy (sp := 0) (dp := 0) (n := 8) ac_X3_46 rfl rfl rfl rfl rfl (by omega) (by omega) (by decide) 71 dX3_become_68 rfl ?_
  refine jr_aload_n 1 72 dX3_become_71 rfl rfl rfl ?_
  refine gf_X3_27 75 dX3_become_72 rfl rfl rfl rfl ?_
  refine jr_iconst (nI 0) 76 dX3_become_75 rfl rfl ?_
  refine jr_aload_n 0 77 dX3_become_76 rfl rfl rfl ?_
  refine gf_X3_27 80 dX3_become_77 rfl rfl rfl rfl ?_
  refine jr_iconst (nI 0) 81 dX3_become_80 rfl rfl ?_
  refine jr_bipush (nI 8) 83 dX3_become_81 rfl rfl ?_
  refine jr_acopy (sp := 0) (dp := 0) (n := 8) ac_X3_46 rfl rfl rfl rfl rfl (by omega) (by omega) (by decide) 86 dX3_become_83 rfl ?_
  refine jr_aload_n 1 87 dX3_become_86 rfl rfl rfl ?_
  refine gf_X3_30 90 dX3_become_87 rfl rfl rfl rfl ?_
  refine jr_iconst (nI 0) 91 dX3_become_90 rfl rfl ?_
  refine jr_aload_n 0 92 dX3_become_91 rfl rfl rfl ?_
  refine gf_X3_30 95 dX3_become_92 rfl rfl rfl rfl ?_
  refine jr_iconst (nI 0) 96 dX3_become_95 rfl rfl ?_
  refine jr_bipush (nI 8) 98 dX3_become_96 rfl rfl ?_
  refine jr_acopy (sp := 0) (dp := 0) (n := 8) ac_X3_46 rfl rfl rfl rfl rfl (by omega) (by omega) (by decide) 101 dX3_become_98 rfl ?_
  refine jr_aload_n 1 102 dX3_become_101 rfl rfl rfl ?_
  refine gf_X3_33 105 dX3_become_102 rfl rfl rfl rfl ?_
  refine jr_iconst (nI 0) 106 dX3_become_105 rfl rfl ?_
  refine jr_aload_n 0 107 dX3_become_106 rfl rfl rfl ?_
  refine gf_X3_33 110 dX3_become_107 rfl rfl rfl rfl ?_
  refine jr_iconst (nI 0) 111 dX3_become_110 rfl rfl ?_
  refine jr_bipush (nI 8) 113 dX3_become_111 rfl rfl ?_
  refine jr_acopy (sp := 0) (dp := 0) (n := 8) ac_X3_46 rfl rfl rfl rfl rfl (by omega) (by omega) (by decide) 116 dX3_become_113 rfl ?_
  refine jr_aload_n 0 117 dX3_become_116 rfl rfl rfl ?_
  refine jr_aload_n 1 118 dX3_become_117 rfl rfl rfl ?_
  refine gf_X3_36 121 dX3_become_118 rfl rfl rfl rfl ?_
  refine pf_X3_36 124 dX3_become_121 rfl rfl rfl rfl ?_
  refine jr_aload_n 0 125 dX3_become_124 rfl rfl rfl ?_
  refine jr_aload_n 1 126 dX3_become_125 rfl rfl rfl ?_
  refine gf_X3_40 129 dX3_become_126 rfl rfl rfl rfl ?_
  refine pf_X3_40 132 dX3_become_129 rfl rfl rfl rfl ?_
  refine jr_aload_n 0 133 dX3_become_132 rfl rfl rfl ?_
  refine jr_aload_n 1 134 dX3_become_133 rfl rfl rfl ?_
  refine gf_X3_43 137 dX3_become_134 rfl rfl rfl rfl ?_
  refine pf_X3_43 140 dX3_become_137 rfl rfl rfl rfl ?_
  refine jr_return dX3_become_140 rfl ?_
  refine hk _ ⟨fun a ha => ?_, fun i hi => ⟨?_, ?_, ?_, ?_⟩, fun i hi => ⟨?_, ?_, ?_, ?_⟩, rfl, rfl, rfl⟩
  · simp only [jr_up, jr_upc]
    repeat (rw [if_neg (by omega)])
  · exact cpy0 (f := σ 34) (g := σ 16) hi
  · exact cpy0 (f := σ 35) (g := σ 17) hi
  · exact cpy0 (f := σ 36) (g := σ 18) hi
  · exact cpy0 (f := σ 37) (g := σ 19) hi
  · exact cpy0 (f := σ 38) (g := σ 20) hi
  · exact cpy0 (f := σ 39) (g := σ 21) hi
  · exact cpy0 (f := σ 40) (g := σ 22) hi
  · exact cpy0 (f := σ 41) (g := σ 23) hi
/-- the class's scene in thought is what the reference's state says -/
def th_ok (nf nc lw : Nat) (kd se : Nat → Nat) (σ σR : jr_Sg) : Prop := sc_ok 24 σ nf nc kd se ∧ σ 24 10 = nI lw ∧ (∀ x, x < nf → σ 26 x = σR 49 x ∧ σ 27 x = σR 50 x) ∧ (∀ s, s < 8 → σ 29 s = σR 47 s) ∧ (∀ k, k < nc → σ 30 k = σR 52 (3 * k) ∧ σ 31 k = σR 52 (3 * k + 1) ∧ σ 32 k = σR 52 (3 * k + 2))
def r_none (σR : jr_Sg) : Prop := σR 46 39 = -1 ∧ σR 46 42 = -1 ∧ ∀ f, f < 5 → σR 70 f = 0 ∧ σR 71 f = -1
theorem th_become {T : Nat → Nat → List Nat} {n nf nc lw tp : Nat} {kd se : Nat → Nat} {σ0 σ1 σ2 : jr_Sg} (h : iv T n nf nc kd se lw tp σ0) (g : jr_eqx iv_CX σ0 σ1) (b : bc_ok 24 15 σ1 σ2) : th_ok nf nc lw kd se σ2 σ0 := by
  obtain ⟨-, -, ⟨hsc, hsr, hl1, hl2, hlw, hfc, hli, hca⟩, -⟩ := h
  obtain ⟨b1, b2, b3, b4, b5, b6⟩ := b
  obtain ⟨n1, n2, n3, n4, n5⟩ := hsc
  have g0 : ∀ a, a ∉ iv_CX → σ1 a = σ0 a := g
  refine ⟨⟨?_, n2, ?_, n4, fun f hf => ⟨(n5 f hf).1, (n5 f hf).2.1, ?_, ?_⟩⟩, ?_, fun x hx => ⟨?_, ?_⟩, fun s hs => ?_, fun k hk => ⟨?_, ?_, ?_⟩⟩
  · rw [b4, g0 15 (by decide)]; exact n1
  · rw [b5, g0 15 (by decide)]; exact n3
  · rw [(b2 f (by omega)).1, g0 (15 + 1) (by decide)]; exact (n5 f hf).2.2.1
  · rw [(b2 f (by omega)).2.2.2, g0 (15 + 4) (by decide)]; exact (n5 f hf).2.2.2
  · rw [b6, g0 15 (by decide)]; exact hl1
  · rw [show σ2 26 x = σ2 (24 + 2) x from rfl, (b2 x (by omega)).2.1, g0 (15 + 2) (by decide)]; exact (hfc x hx).1
  · rw [show σ2 27 x = σ2 (24 + 3) x from rfl, (b2 x (by omega)).2.2.1, g0 (15 + 3) (by decide)]; exact (hfc x hx).2.1
  · rw [show σ2 29 s = σ2 (24 + 5) s from rfl, (b3 s hs).1, g0 (15 + 5) (by decide)]; exact (hli s hs).1
  · rw [show σ2 30 k = σ2 (24 + 6) k from rfl, (b3 k (by omega)).2.1, g0 (15 + 6) (by decide)]; exact (hca k hk).1
  · rw [show σ2 31 k = σ2 (24 + 7) k from rfl, (b3 k (by omega)).2.2.1, g0 (15 + 7) (by decide)]; exact (hca k hk).2.1
  · rw [show σ2 32 k = σ2 (24 + 8) k from rfl, (b3 k (by omega)).2.2.2, g0 (15 + 8) (by decide)]; exact (hca k hk).2.2
theorem bc_cx {σ0 σ1 σ2 : jr_Sg} (g : jr_eqx iv_CX σ0 σ1) (b : bc_ok 24 15 σ1 σ2) : jr_eqx iv_CX σ0 σ2 := jr_eqx_tr g (fun a ha => b.1 a (by
  by_cases q : a < 24 ∨ 24 + 8 < a
  · exact q
  · exact absurd ha (fun z => z (by
      rcases (by omega : a = 24 ∨ a = 25 ∨ a = 26 ∨ a = 27 ∨ a = 28 ∨ a = 29 ∨ a = 30 ∨ a = 31 ∨ a = 32) with rfl | rfl | rfl | rfl | rfl | rfl | rfl | rfl | rfl <;> decide))))
theorem th_par {nf nc lw : Nat} {kd se : Nat → Nat} {σ σ' σR : jr_Sg} (h : th_ok nf nc lw kd se σ σR) (hn : r_none σR) (g : jr_eqx [7] σ σ') (c0 : σ' 7 0 = -1) (c3 : σ' 7 3 = -1) (c5 : σ' 7 5 = -1) (c9 : σ' 7 9 = 0) {f : Nat} (hf : f < nf) : sm_par 24 nf nc f (se f) σ' σR := by
  obtain ⟨hsc, hl, hx, hs, hk⟩ := h
  obtain ⟨r39, r42, r70⟩ := hn
  have h5 : nf ≤ 5 := hsc.2.1
  have hdo : ∀ w t n, pu_do (σ' 7 0) (σ' 7 1) (σ' 7 2) (nI f) w t n ↔ pu_do (σR 46 39) (σR 46 40) (σR 46 41) (nI f) w t n := fun w t n => ⟨fun e => (do_none (by omega) c0 e).elim, fun e => (do_none (by omega) r39 e).elim⟩
  refine ⟨fun x hx2 => ?_, ?_, ?_, fun x hx2 => ⟨fun e => (jr_m1 (by omega) (Eq.symm (e.1.trans c3))).elim, fun e => (jr_m1 (by omega) (Eq.symm (e.1.trans r42))).elim⟩, hdo, fun t ht => ca_eq (fun k hk2 => ?_) hdo ((pu_if_f (fun e => jr_m1 (by omega) (Eq.symm (e.1.trans c5)))).trans (Eq.symm (pu_z (r70 f (by omega)).1))), fun t ht => Eq.trans (pu_z c9) (Eq.symm (pu_if_f (fun e => jr_m1 (by omega) ((r70 f (by omega)).2.symm.trans e))))⟩
  · rw [g _ (by decide)]; exact (hx x hx2).1
  · rw [g _ (by decide)]; exact hs _ (hsc.2.2.2.2 f hf).2.1
  · rw [g _ (by decide)]; exact (hx f hf).2
  · rw [g _ (by decide), g (24 + 7) (by decide), g (24 + 8) (by decide)]; exact hk k hk2
theorem th_mov {nf nc lw : Nat} {kd se : Nat → Nat} {σ σ' σR : jr_Sg} (h : th_ok nf nc lw kd se σ σR) (g : jr_eqx [7] σ σ') : th_ok nf nc lw kd se σ' σR := by
  unfold th_ok sc_ok at h ⊢
  rw [g 24 (by decide), g (24 + 1) (by decide), g (24 + 4) (by decide), g 26 (by decide), g 27 (by decide), g 29 (by decide), g 30 (by decide), g 31 (by decide), g 32 (by decide)]
  exact h
theorem wp_playThought {G : jr_G} {d : Nat} {σ : jr_Sg} {k : jr_Sg → Prop} {T : Nat → Nat → List Nat} {n nf nc lw len : Nat} {kd se : Nat → Nat} {σR : jr_Sg} (hT : ti_C T n σ) (hlw : lw < n) (ht : th_ok nf nc lw kd se σ σR) (hn : r_none σR) (hlen : len ≤ 40) {f : Nat} (hf : f < nf) (hk : ∀ σ' : jr_Sg, jr_eqx [4, 7, 11, 12, 13, 14] σ σ' → pd σ' len f (pr_rf kd se σR f) (sm_R T lw nf nc kd se σR f) → k σ') : jr_M G (d + 5) mi_X9_playThought [.ref 0, .int (nI f), .int (nI len)] σ (jr_kv k) := by
  have gc : jr_eqx [7] σ (jr_up (jr_up (jr_up (jr_up σ 7 0 (-1)) 7 3 (-1)) 7 5 (-1)) 7 9 0) := (jr_eqx_tr (jr_eqx_tr (jr_eqx_tr (jr_eqx_up _ _ _ (by decide)) (jr_eqx_up _ _ _ (by decide))) (jr_eqx_up _ _ _ (by decide))) (jr_eqx_up _ _ _ (by decide)))
  have ht2 := th_mov ht gc
  have hT2 := ti_C_of hT (gc 1 (by decide)) (gc 2 (by decide)) (gc 3 (by decide))
  have hp := th_par ht hn gc rfl rfl rfl rfl hf
  refine jr_enter (L := [some (.ref 0), some (.int (nI f)), some (.int (nI len))]) (by decide) (Nat.le_of_ble_eq_true rfl) rfl ?_
  refine jr_aload_n 0 1 dX9_playThought_0 rfl rfl rfl ?_
  refine gf_X9_28 4 dX9_playThought_1 rfl rfl rfl rfl ?_
  refine cs_X9_249 7 dX9_playThought_4 rfl rfl rfl (Nat.le_of_ble_eq_true rfl) (wp_clear ?_)
  refine jr_aload_n 0 8 dX9_playThought_7 rfl rfl rfl ?_
  refine gf_X9_37 11 dX9_playThought_8 rfl rfl rfl rfl ?_
  refine jr_aload_n 0 12 dX9_playThought_11 rfl rfl rfl ?_
  refine gf_X9_48 15 dX9_playThought_12 rfl rfl rfl rfl ?_
  refine jr_iload_n 1 16 dX9_playThought_15 rfl rfl rfl ?_
  refine jr_iload_n 2 17 dX9_playThought_16 rfl rfl rfl ?_
  refine cs_X9_308 20 dX9_playThought_17 rfl rfl rfl (Nat.le_of_ble_eq_true rfl) (wp_playOne_24 (len := len) ht2.1 hf hlen hT2 hlw ht2.2.1 (fun σ' g1 g2 g3 g4 => ?_))
  refine jr_return dX9_playThought_20 rfl ?_
  refine hk σ' (jr_eqx_tr (jr_eqx_w gc (by decide)) (jr_eqx_w g1 (by decide))) ⟨?_, fun t ht3 => ?_⟩
  · rw [g2, pk_us]
    exact rf_eq hf hp
  · rw [← sm_eq hf hp t (by omega)]
    exact g3 t ht3
theorem wp_playAllThought {G : jr_G} {d : Nat} {σ : jr_Sg} {k : jr_Sg → Prop} {T : Nat → Nat → List Nat} {n nf nc lw len : Nat} {kd se : Nat → Nat} {σR : jr_Sg} (hT : ti_C T n σ) (hlw : lw < n) (ht : th_ok nf nc lw kd se σ σR) (hn : r_none σR) (hlen : len ≤ 40) (hk : ∀ σ' : jr_Sg, jr_eqx [4, 7, 9, 11, 12, 13, 14] σ σ' → σ' 9 6 = nI nf → (∀ f, f < nf → pd σ' len f (pr_rf kd se σR f) (sm_R T lw nf nc kd se σR f)) → k σ') : jr_M G (d + 6) mi_X9_playAllThought [.ref 0, .int (nI len)] σ (jr_kv k) := by
  have gc : jr_eqx [7] σ (jr_up (jr_up (jr_up (jr_up σ 7 0 (-1)) 7 3 (-1)) 7 5 (-1)) 7 9 0) := (jr_eqx_tr (jr_eqx_tr (jr_eqx_tr (jr_eqx_up _ _ _ (by decide)) (jr_eqx_up _ _ _ (by decide))) (jr_eqx_up _ _ _ (by decide))) (jr_eqx_up _ _ _ (by decide)))
  have ht2 := th_mov ht gc
  have hT2 := ti_C_of hT (gc 1 (by decide)) (gc 2 (by decide)) (gc 3 (by decide))
  refine jr_enter (L := [some (.ref 0), some (.int (nI len))]) (by decide) (Nat.le_of_ble_eq_true rfl) rfl ?_
  refine jr_aload_n 0 1 dX9_playAllThought_0 rfl rfl rfl ?_
  refine gf_X9_28 4 dX9_playAllThought_1 rfl rfl rfl rfl ?_
  refine cs_X9_249 7 dX9_playAllThought_4 rfl rfl rfl (Nat.le_of_ble_eq_true rfl) (wp_clear ?_)
  refine jr_aload_n 0 8 dX9_playAllThought_7 rfl rfl rfl ?_
  refine gf_X9_37 11 dX9_playAllThought_8 rfl rfl rfl rfl ?_
  refine jr_aload_n 0 12 dX9_playAllThought_11 rfl rfl rfl ?_
  refine gf_X9_48 15 dX9_playAllThought_12 rfl rfl rfl rfl ?_
  refine jr_iload_n 1 16 dX9_playAllThought_15 rfl rfl rfl ?_
  refine cs_X9_255 19 dX9_playAllThought_16 rfl rfl rfl (Nat.le_of_ble_eq_true rfl) (wp_play_24 (len := len) ht2.1 hlen hT2 hlw ht2.2.1 (fun σ' g1 g2 g3 => ?_))
  refine jr_return dX9_playAllThought_19 rfl ?_
  refine hk σ' (jr_eqx_tr (jr_eqx_w gc (by decide)) (jr_eqx_w g1 (by decide))) (by rw [g2]; exact pk_us) (fun f hf => ?_)
  have hp := th_par ht hn gc rfl rfl rfl rfl hf
  refine ⟨?_, fun t ht3 => ?_⟩
  · rw [(g3 f hf).1]
    exact rf_eq hf hp
  · rw [← sm_eq hf hp t (by omega)]
    exact (g3 f hf).2 t ht3
theorem wp_keepsSeats {G : jr_G} {d : Nat} {σ : jr_Sg} {k : jr_Sg → Prop} (hk : ∀ σ' : jr_Sg, (∀ a, a ≠ 72 → σ' a = σ a) → (∀ i, i < 5 → σ' 72 i = σ 51 i) → (∀ i, 5 ≤ i → σ' 72 i = σ 72 i) → k σ') : jr_M G d mi_X10_keepsSeats [.ref 46] σ (jr_kv k) := by
  refine jr_enter (L := [some (.ref 46), none]) (by decide) (Nat.le_of_ble_eq_true rfl) rfl ?_
  refine jr_iconst (nI 0) 1 dX10_keepsSeats_0 rfl rfl ?_
  refine jr_istore_n 1 (L' := [_, _]) 2 dX10_keepsSeats_1 rfl rfl (by decide) rfl ?_
  refine jr_iload_n 1 3 dX10_keepsSeats_2 rfl rfl rfl ?_
  refine jr_iconst (nI 5) 4 dX10_keepsSeats_3 rfl rfl ?_
  refine jr_icmp_ge 25 7 dX10_keepsSeats_4 rfl rfl (fun q => absurd q (by decide)) (fun q4 => ?_)
  refine jr_aload_n 0 8 dX10_keepsSeats_7 rfl rfl rfl ?_
  refine gf_X10_95 11 dX10_keepsSeats_8 rfl rfl rfl rfl ?_
  refine jr_iload_n 1 12 dX10_keepsSeats_11 rfl rfl rfl ?_
  refine jr_aload_n 0 13 dX10_keepsSeats_12 rfl rfl rfl ?_
  refine gf_X10_22 16 dX10_keepsSeats_13 rfl rfl rfl rfl ?_
  refine jr_iload_n 1 17 dX10_keepsSeats_16 rfl rfl rfl ?_
  refine jr_iald rfl rfl (by decide) 18 dX10_keepsSeats_17 rfl ?_
  refine jr_iast rfl rfl (by decide) 19 dX10_keepsSeats_18 rfl ?_
  refine jr_iinc (v := nI 1) (L' := [_, _]) 22 dX10_keepsSeats_19 rfl rfl (by decide) (by decide) rfl ?_
  refine jr_goto 2 dX10_keepsSeats_22 rfl ?_
  refine jr_iload_n 1 3 dX10_keepsSeats_2 rfl rfl rfl ?_
  refine jr_iconst (nI 5) 4 dX10_keepsSeats_3 rfl rfl ?_
  refine jr_icmp_ge 25 7 dX10_keepsSeats_4 rfl rfl (fun q => absurd q (by decide)) (fun q4 => ?_)
  refine jr_aload_n 0 8 dX10_keepsSeats_7 rfl rfl rfl ?_
  refine gf_X10_95 11 dX10_keepsSeats_8 rfl rfl rfl rfl ?_
  refine jr_iload_n 1 12 dX10_keepsSeats_11 rfl rfl rfl ?_
  refine jr_aload_n 0 13 dX10_keepsSeats_12 rfl rfl rfl ?_
  refine gf_X10_22 16 dX10_keepsSeats_13 rfl rfl rfl rfl ?_
  refine jr_iload_n 1 17 dX10_keepsSeats_16 rfl rfl rfl ?_
  refine jr_iald rfl rfl (by decide) 18 dX10_keepsSeats_17 rfl ?_
  refine jr_iast rfl rfl (by decide) 19 dX10_keepsSeats_18 rfl ?_
  refine jr_iinc (v := nI 2) (L' := [_, _]) 22 dX10_keepsSeats_19 rfl rfl (by decide) (by decide) rfl ?_
  refine jr_goto 2 dX10_keepsSeats_22 rfl ?_
  refine jr_iload_n 1 3 dX10_keepsSeats_2 rfl rfl rfl ?_
  refine jr_iconst (nI 5) 4 dX10_keepsSeats_3 rfl rfl ?_
  refine jr_icmp_ge 25 7 dX10_keepsSeats_4 rfl rfl (fun q => absurd q (by decide)) (fun q4 => ?_)
  refine jr_aload_n 0 8 dX10_keepsSeats_7 rfl rfl rfl ?_
  refine gf_X10_95 11 dX10_keepsSeats_8 rfl rfl rfl rfl ?_
  refine jr_iload_n 1 12 dX10_keepsSeats_11 rfl rfl rfl ?_
  refine jr_aload_n 0 13 dX10_keepsSeats_12 rfl rfl rfl ?_
  refine gf_X10_22 16 dX10_keepsSeats_13 rfl rfl rfl rfl ?_
  refine jr_iload_n 1 17 dX10_keepsSeats_16 rfl rfl rfl ?_
  refine jr_iald rfl rfl (by decide) 18 dX10_keepsSeats_17 rfl ?_
  refine jr_iast rfl rfl (by decide) 19 dX10_keepsSeats_18 rfl ?_
  refine jr_iinc (v := nI 3) (L' := [_, _]) 22 dX10_keepsSeats_19 rfl rfl (by decide) (by decide) rfl ?_
  refine jr_goto 2 dX10_keepsSeats_22 rfl ?_
  refine jr_iload_n 1 3 dX10_keepsSeats_2 rfl rfl rfl ?_
  refine jr_iconst (nI 5) 4 dX10_keepsSeats_3 rfl rfl ?_
  refine jr_icmp_ge 25 7 dX10_keepsSeats_4 rfl rfl (fun q => absurd q (by decide)) (fun q4 => ?_)
  refine jr_aload_n 0 8 dX10_keepsSeats_7 rfl rfl rfl ?_
  refine gf_X10_95 11 dX10_keepsSeats_8 rfl rfl rfl rfl ?_
  refine jr_iload_n 1 12 dX10_keepsSeats_11 rfl rfl rfl ?_
  refine jr_aload_n 0 13 dX10_keepsSeats_12 rfl rfl rfl ?_
  refine gf_X10_22 16 dX10_keepsSeats_13 rfl rfl rfl rfl ?_
  refine jr_iload_n 1 17 dX10_keepsSeats_16 rfl rfl rfl ?_
  refine jr_iald rfl rfl (by decide) 18 dX10_keepsSeats_17 rfl ?_
  refine jr_iast rfl rfl (by decide) 19 dX10_keepsSeats_18 rfl ?_
  refine jr_iinc (v := nI 4) (L' := [_, _]) 22 dX10_keepsSeats_19 rfl rfl (by decide) (by decide) rfl ?_
  refine jr_goto 2 dX10_keepsSeats_22 rfl ?_
  refine jr_iload_n 1 3 dX10_keepsSeats_2 rfl rfl rfl ?_
  refine jr_iconst (nI 5) 4 dX10_keepsSeats_3 rfl rfl ?_
  refine jr_icmp_ge 25 7 dX10_keepsSeats_4 rfl rfl (fun q => absurd q (by decide)) (fun q4 => ?_)
  refine jr_aload_n 0 8 dX10_keepsSeats_7 rfl rfl rfl ?_
  refine gf_X10_95 11 dX10_keepsSeats_8 rfl rfl rfl rfl ?_
  refine jr_iload_n 1 12 dX10_keepsSeats_11 rfl rfl rfl ?_
  refine jr_aload_n 0 13 dX10_keepsSeats_12 rfl rfl rfl ?_
  refine gf_X10_22 16 dX10_keepsSeats_13 rfl rfl rfl rfl ?_
  refine jr_iload_n 1 17 dX10_keepsSeats_16 rfl rfl rfl ?_
  refine jr_iald rfl rfl (by decide) 18 dX10_keepsSeats_17 rfl ?_
  refine jr_iast rfl rfl (by decide) 19 dX10_keepsSeats_18 rfl ?_
  refine jr_iinc (v := nI 5) (L' := [_, _]) 22 dX10_keepsSeats_19 rfl rfl (by decide) (by decide) rfl ?_
  refine jr_goto 2 dX10_keepsSeats_22 rfl ?_
  refine jr_iload_n 1 3 dX10_keepsSeats_2 rfl rfl rfl ?_
  refine jr_iconst (nI 5) 4 dX10_keepsSeats_3 rfl rfl ?_
  refine jr_icmp_ge 25 7 dX10_keepsSeats_4 rfl rfl (fun q4 => ?_) (fun q => absurd (by decide) q)
  refine jr_return dX10_keepsSeats_25 rfl ?_
  refine hk _ (fun a ha => ?_) (fun i hi => ?_) (fun i hi => ?_)
  · simp only [jr_up]
    repeat (rw [if_neg ha])
  · rcases (by omega : i = 0 ∨ i = 1 ∨ i = 2 ∨ i = 3 ∨ i = 4) with rfl | rfl | rfl | rfl | rfl <;> rfl
  · show upd (upd (upd (upd (upd (σ 72) 0 _) 1 _) 2 _) 3 _) 4 _ i = _
    rw [pk_un (by omega), pk_un (by omega), pk_un (by omega), pk_un (by omega), pk_un (by omega)]
theorem wp_laysSeats {G : jr_G} {d : Nat} {σ : jr_Sg} {k : jr_Sg → Prop} (hk : ∀ σ' : jr_Sg, (∀ a, a ≠ 51 → σ' a = σ a) → (∀ i, i < 5 → σ' 51 i = σ 72 i) → (∀ i, 5 ≤ i → σ' 51 i = σ 51 i) → k σ') : jr_M G d mi_X10_laysSeats [.ref 46] σ (jr_kv k) := by
  refine jr_enter (L := [some (.ref 46), none]) (by decide) (Nat.le_of_ble_eq_true rfl) rfl ?_
  refine jr_iconst (nI 0) 1 dX10_laysSeats_0 rfl rfl ?_
  refine jr_istore_n 1 (L' := [_, _]) 2 dX10_laysSeats_1 rfl rfl (by decide) rfl ?_
  refine jr_iload_n 1 3 dX10_laysSeats_2 rfl rfl rfl ?_
  refine jr_iconst (nI 5) 4 dX10_laysSeats_3 rfl rfl ?_
  refine jr_icmp_ge 25 7 dX10_laysSeats_4 rfl rfl (fun q => absurd q (by decide)) (fun q4 => ?_)
  refine jr_aload_n 0 8 dX10_laysSeats_7 rfl rfl rfl ?_
  refine gf_X10_22 11 dX10_laysSeats_8 rfl rfl rfl rfl ?_
  refine jr_iload_n 1 12 dX10_laysSeats_11 rfl rfl rfl ?_
  refine jr_aload_n 0 13 dX10_laysSeats_12 rfl rfl rfl ?_
  refine gf_X10_95 16 dX10_laysSeats_13 rfl rfl rfl rfl ?_
  refine jr_iload_n 1 17 dX10_laysSeats_16 rfl rfl rfl ?_
  refine jr_iald rfl rfl (by decide) 18 dX10_laysSeats_17 rfl ?_
  refine jr_iast rfl rfl (by decide) 19 dX10_laysSeats_18 rfl ?_
  refine jr_iinc (v := nI 1) (L' := [_, _]) 22 dX10_laysSeats_19 rfl rfl (by decide) (by decide) rfl ?_
  refine jr_goto 2 dX10_laysSeats_22 rfl ?_
  refine jr_iload_n 1 3 dX10_laysSeats_2 rfl rfl rfl ?_
  refine jr_iconst (nI 5) 4 dX10_laysSeats_3 rfl rfl ?_
  refine jr_icmp_ge 25 7 dX10_laysSeats_4 rfl rfl (fun q => absurd q (by decide)) (fun q4 => ?_)
  refine jr_aload_n 0 8 dX10_laysSeats_7 rfl rfl rfl ?_
  refine gf_X10_22 11 dX10_laysSeats_8 rfl rfl rfl rfl ?_
  refine jr_iload_n 1 12 dX10_laysSeats_11 rfl rfl rfl ?_
  refine jr_aload_n 0 13 dX10_laysSeats_12 rfl rfl rfl ?_
  refine gf_X10_95 16 dX10_laysSeats_13 rfl rfl rfl rfl ?_
  refine jr_iload_n 1 17 dX10_laysSeats_16 rfl rfl rfl ?_
  refine jr_iald rfl rfl (by decide) 18 dX10_laysSeats_17 rfl ?_
  refine jr_iast rfl rfl (by decide) 19 dX10_laysSeats_18 rfl ?_
  refine jr_iinc (v := nI 2) (L' := [_, _]) 22 dX10_laysSeats_19 rfl rfl (by decide) (by decide) rfl ?_
  refine jr_goto 2 dX10_laysSeats_22 rfl ?_
  refine jr_iload_n 1 3 dX10_laysSeats_2 rfl rfl rfl ?_
  refine jr_iconst (nI 5) 4 dX10_laysSeats_3 rfl rfl ?_
  refine jr_icmp_ge 25 7 dX10_laysSeats_4 rfl rfl (fun q => absurd q (by decide)) (fun q4 => ?_)
  refine jr_aload_n 0 8 dX10_laysSeats_7 rfl rfl rfl ?_
  refine gf_X10_22 11 dX10_laysSeats_8 rfl rfl rfl rfl ?_
  refine jr_iload_n 1 12 dX10_laysSeats_11 rfl rfl rfl ?_
  refine jr_aload_n 0 13 dX10_laysSeats_12 rfl rfl rfl ?_
  refine gf_X10_95 16 dX10_laysSeats_13 rfl rfl rfl rfl ?_
  refine jr_iload_n 1 17 dX10_laysSeats_16 rfl rfl rfl ?_
  refine jr_iald rfl rfl (by decide) 18 dX10_laysSeats_17 rfl ?_
  refine jr_iast rfl rfl (by decide) 19 dX10_laysSeats_18 rfl ?_
  refine jr_iinc (v := nI 3) (L' := [_, _]) 22 dX10_laysSeats_19 rfl rfl (by decide) (by decide) rfl ?_
  refine jr_goto 2 dX10_laysSeats_22 rfl ?_
  refine jr_iload_n 1 3 dX10_laysSeats_2 rfl rfl rfl ?_
  refine jr_iconst (nI 5) 4 dX10_laysSeats_3 rfl rfl ?_
  refine jr_icmp_ge 25 7 dX10_laysSeats_4 rfl rfl (fun q => absurd q (by decide)) (fun q4 => ?_)
  refine jr_aload_n 0 8 dX10_laysSeats_7 rfl rfl rfl ?_
  refine gf_X10_22 11 dX10_laysSeats_8 rfl rfl rfl rfl ?_
  refine jr_iload_n 1 12 dX10_laysSeats_11 rfl rfl rfl ?_
  refine jr_aload_n 0 13 dX10_laysSeats_12 rfl rfl rfl ?_
  refine gf_X10_95 16 dX10_laysSeats_13 rfl rfl rfl rfl ?_
  refine jr_iload_n 1 17 dX10_laysSeats_16 rfl rfl rfl ?_
  refine jr_iald rfl rfl (by decide) 18 dX10_laysSeats_17 rfl ?_
  refine jr_iast rfl rfl (by decide) 19 dX10_laysSeats_18 rfl ?_
  refine jr_iinc (v := nI 4) (L' := [_, _]) 22 dX10_laysSeats_19 rfl rfl (by decide) (by decide) rfl ?_
  refine jr_goto 2 dX10_laysSeats_22 rfl ?_
  refine jr_iload_n 1 3 dX10_laysSeats_2 rfl rfl rfl ?_
  refine jr_iconst (nI 5) 4 dX10_laysSeats_3 rfl rfl ?_
  refine jr_icmp_ge 25 7 dX10_laysSeats_4 rfl rfl (fun q => absurd q (by decide)) (fun q4 => ?_)
  refine jr_aload_n 0 8 dX10_laysSeats_7 rfl rfl rfl ?_
  refine gf_X10_22 11 dX10_laysSeats_8 rfl rfl rfl rfl ?_
  refine jr_iload_n 1 12 dX10_laysSeats_11 rfl rfl rfl ?_
  refine jr_aload_n 0 13 dX10_laysSeats_12 rfl rfl rfl ?_
  refine gf_X10_95 16 dX10_laysSeats_13 rfl rfl rfl rfl ?_
  refine jr_iload_n 1 17 dX10_laysSeats_16 rfl rfl rfl ?_
  refine jr_iald rfl rfl (by decide) 18 dX10_laysSeats_17 rfl ?_
  refine jr_iast rfl rfl (by decide) 19 dX10_laysSeats_18 rfl ?_
  refine jr_iinc (v := nI 5) (L' := [_, _]) 22 dX10_laysSeats_19 rfl rfl (by decide) (by decide) rfl ?_
  refine jr_goto 2 dX10_laysSeats_22 rfl ?_
  refine jr_iload_n 1 3 dX10_laysSeats_2 rfl rfl rfl ?_
  refine jr_iconst (nI 5) 4 dX10_laysSeats_3 rfl rfl ?_
  refine jr_icmp_ge 25 7 dX10_laysSeats_4 rfl rfl (fun q4 => ?_) (fun q => absurd (by decide) q)
  refine jr_return dX10_laysSeats_25 rfl ?_
  refine hk _ (fun a ha => ?_) (fun i hi => ?_) (fun i hi => ?_)
  · simp only [jr_up]
    repeat (rw [if_neg ha])
  · rcases (by omega : i = 0 ∨ i = 1 ∨ i = 2 ∨ i = 3 ∨ i = 4) with rfl | rfl | rfl | rfl | rfl <;> rfl
  · show upd (upd (upd (upd (upd (σ 51) 0 _) 1 _) 2 _) 3 _) 4 _ i = _
    rw [pk_un (by omega), pk_un (by omega), pk_un (by omega), pk_un (by omega), pk_un (by omega)]
theorem mv_seat {se : Nat → Int32} {nf f s : Nat} (h : ∀ x, x < nf → ∃ b : Nat, b < 8 ∧ se x = nI b) (hf : f < nf) (hs : s < 8) : ∀ x, x < nf → ∃ b : Nat, b < 8 ∧ pu_move se nf f (nI s) x = nI b := by
  intro x hx
  unfold pu_move
  cases pu_sit se (nI s) 0 nf with
  | none =>
    show ∃ b : Nat, b < 8 ∧ upd se f (nI s) x = nI b
    by_cases e : x = f
    · subst e; exact ⟨s, hs, pk_us⟩
    · rw [pk_un e]; exact h x hx
  | some i =>
    show ∃ b : Nat, b < 8 ∧ upd (upd se i (se f)) f (nI s) x = nI b
    by_cases e : x = f
    · subst e; exact ⟨s, hs, pk_us⟩
    · rw [pk_un e]
      by_cases e2 : x = i
      · subst e2; rw [pk_us]; exact h f hf
      · rw [pk_un e2]; exact h x hx
theorem mv_congr {se se' : Nat → Int32} {nf f : Nat} {s : Int32} (hf : f < nf) (h : ∀ x, x < nf → se x = se' x) : ∀ x, x < nf → pu_move se nf f s x = pu_move se' nf f s x := by
  intro x hx
  unfold pu_move
  rw [pu_sit_congr nf 0 (fun j _ hj => h j (by omega))]
  cases pu_sit se' s 0 nf with
  | none =>
    show upd se f s x = upd se' f s x
    by_cases e : x = f
    · subst e; rw [pk_us, pk_us]
    · rw [pk_un e, pk_un e]; exact h x hx
  | some i =>
    show upd (upd se i (se f)) f s x = upd (upd se' i (se' f)) f s x
    by_cases e : x = f
    · subst e; rw [pk_us, pk_us]
    · rw [pk_un e, pk_un e]
      by_cases e2 : x = i
      · subst e2; rw [pk_us, pk_us]; exact h f hf
      · rw [pk_un e2, pk_un e2]; exact h x hx
theorem mv_far {se : Nat → Int32} {nf f : Nat} {s : Int32} (hf : f < nf) {x : Nat} (hx : nf ≤ x) : pu_move se nf f s x = se x := by
  unfold pu_move
  cases hq : pu_sit se s 0 nf with
  | none => exact pk_un (by omega)
  | some i =>
    have := (pu_sit_some _ _ _ hq).2.1
    show upd (upd se i (se f)) f s x = se x
    rw [pk_un (by omega), pk_un (by omega)]
/-- the seats behind f's moving into s -/
def mv_se (σ : jr_Sg) (nf f s : Nat) (x : Nat) : Nat := (pu_move (σ 51) nf f (nI s) x).toNatClampNeg
theorem mv_se_eq {σ : jr_Sg} {nf nc f s : Nat} {kd se : Nat → Nat} (h : sr_ok σ nf nc kd se) (hf : f < nf) (hs : s < 8) {x : Nat} (hx : x < nf) : mv_se σ nf f s x < 8 ∧ pu_move (σ 51) nf f (nI s) x = nI (mv_se σ nf f s x) := by
  obtain ⟨b, hb, e⟩ := mv_seat (se := σ 51) (fun y hy => ⟨se y, (h.2.2.2.2 y hy).2.1, (h.2.2.2.2 y hy).2.2.2.1⟩) hf hs x hx
  unfold mv_se
  rw [e, nI_clamp (by omega)]
  exact ⟨hb, rfl⟩
theorem th_seat {nf nc lw f s : Nat} {kd se : Nat → Nat} {σ σR : jr_Sg} (hr : sr_ok σR nf nc kd se) (h : th_ok nf nc lw kd se σ σR) (hf : f < nf) (hs : s < 8) : th_ok nf nc lw kd (mv_se σR nf f s) (jr_upc σ 28 (pu_move (σ 28) nf f (nI s))) σR := by
  obtain ⟨hsc, hl, hx, hs2, hk⟩ := h
  refine ⟨⟨hsc.1, hsc.2.1, hsc.2.2.1, hsc.2.2.2.1, fun x hx2 => ⟨(hsc.2.2.2.2 x hx2).1, (mv_se_eq hr hf hs hx2).1, (hsc.2.2.2.2 x hx2).2.2.1, ?_⟩⟩, hl, hx, hs2, hk⟩
  show pu_move (σ 28) nf f (nI s) x = _
  rw [mv_congr hf (se' := σR 51) (fun y hy => ((hsc.2.2.2.2 y hy).2.2.2).trans (hr.2.2.2.2 y hy).2.2.2.1.symm) x hx2]
  exact (mv_se_eq hr hf hs hx2).2
theorem rr_seat {T : Nat → Nat → List Nat} {n nf nc lw f s : Nat} {kd se : Nat → Nat} {σ : jr_Sg} (h : rr_ok T n nf nc kd se lw σ) (hf : f < nf) (hs : s < 8) : rr_ok T n nf nc kd (mv_se σ nf f s) lw (jr_upc σ 51 (pu_move (σ 51) nf f (nI s))) := by
  obtain ⟨hr, hl, hT, hlw, hru⟩ := h
  refine ⟨⟨hr.1, hr.2.1, hr.2.2.1, hr.2.2.2.1, fun x hx => ⟨(hr.2.2.2.2 x hx).1, (mv_se_eq hr hf hs hx).1, (hr.2.2.2.2 x hx).2.2.1, ?_, (hr.2.2.2.2 x hx).2.2.2.2⟩⟩, hl, hT, hlw, hru⟩
  exact (mv_se_eq hr hf hs hx).2
