abbrev jq_G : Type := va_G × (ClassId × ((Nat → Nat) × List jr_C))
def jq_shp (G : jq_G) : List jr_C := (.inr (7, [some 1, some 5, some 7, some 9, some 15, some 24, some 33, some 42, none])) :: (.inr (5, [some 2, some 3, some 4, none, none])) :: (.inl 960) :: (.inl 18) :: (.inl 64) :: (.inr (1, [some 1, some 6, none, none, none, none, none, none])) :: (.inl 160) :: (.inr (6, [none, none, none, none, none, none, none, none, some 8, none])) :: (.inl 5) :: (.inr (3, [some 10, some 1, some 7, some 12, some 13, some 14, none])) :: (.inr (0, [some 11])) :: (.inl 6) :: (.inl 205) :: (.inl 205) :: (.inl 5) :: (.inr (2, [some 16, some 17, some 18, some 19, some 20, some 21, some 22, some 23, none, none, none])) :: (.inl 5) :: (.inl 5) :: (.inl 5) :: (.inl 5) :: (.inl 8) :: (.inl 8) :: (.inl 8) :: (.inl 8) :: (.inr (2, [some 25, some 26, some 27, some 28, some 29, some 30, some 31, some 32, none, none, none])) :: (.inl 5) :: (.inl 5) :: (.inl 5) :: (.inl 5) :: (.inl 8) :: (.inl 8) :: (.inl 8) :: (.inl 8) :: (.inr (2, [some 34, some 35, some 36, some 37, some 38, some 39, some 40, some 41, none, none, none])) :: (.inl 5) :: (.inl 5) :: (.inl 5) :: (.inl 5) :: (.inl 8) :: (.inl 8) :: (.inl 8) :: (.inl 8) :: (.inr (4, [some 43, some 44, some 45])) :: (.inl 4) :: (.inl 4) :: (.inl 160) :: G.2.2.2
def jq_mR : List jr_C := [.inr (8, [some 47, none, some 48, some 49, some 50, some 51, none, some 52, some 53, none, some 54, some 55, none, none, none, none, none, none, some 56, some 57, some 58, some 59, some 60, none, none, none, none, some 61, some 62, none, none, none, some 63, some 64, some 65, some 66, some 67, some 68, some 69, none, none, none, none, none, some 70, none, none, some 71, some 72]), .inl 8, .inl 5, .inl 5, .inl 5, .inl 5, .inl 24, .inl 160, .inl 1200, .inl 24, .inl 42, .inl 4, .inl 4, .inl 160, .inl 70, .inl 96, .inl 200, .inl 200, .inl 6, .inl 5, .inl 5, .inl 5, .inl 5, .inl 200, .inl 5, .inl 5, .inl 5]
def jq_cell (G : jq_G) (f : Nat → Int32) (c : jr_C) : va_E := match c with
  | .inl n => .inl (G.2.1, (n, .inl f))
  | .inr r => .inr (r.1, r.2.mapIdx (fun k o => jr_fv G.2.2.1 (f k) o))
def jq_ws (G : jq_G) (σ : jr_Sg) : va_W := (jq_shp G).mapIdx (fun i c => (G.2.2.1 i, jq_cell G (σ i) c))
theorem jq_ws_get {G : jq_G} {σ : jr_Sg} {i : Nat} {c : jr_C} (h : (jq_shp G)[i]? = some c) : (jq_ws G σ)[i]? = some (G.2.2.1 i, jq_cell G (σ i) c) := by
  simp [jq_ws, List.getElem?_mapIdx, h]
theorem jq_ws_set {G : jq_G} {σ : jr_Sg} {i : Nat} {c : jr_C} (f : Nat → Int32) (h : (jq_shp G)[i]? = some c) : (jq_ws G σ).set i (G.2.2.1 i, jq_cell G f c) = jq_ws G (jr_upc σ i f) := by
  apply List.ext_getElem?
  intro k
  have hlt : i < (jq_shp G).length := (List.getElem?_eq_some_iff.mp h).1
  by_cases hk : k = i
  · subst hk
    rw [List.getElem?_set_self (by simpa [jq_ws] using hlt), jq_ws_get h]
    simp [jr_upc]
  · rw [List.getElem?_set_ne (fun e => hk e.symm)]
    simp [jq_ws, List.getElem?_mapIdx, jr_upc, hk]
def jq_A (G : jq_G) : Nat → Prop := fun q => ∃ i, i < (jq_shp G).length ∧ q = G.2.2.1 i
def jq_D (G : jq_G) : Prop := (∀ i j : Nat, i < (jq_shp G).length → j < (jq_shp G).length → G.2.2.1 i = G.2.2.1 j → i = j) ∧ ∀ i n : Nat, (jq_shp G)[i]? = some (.inl n) → n < 2 ^ 31
theorem jq_ws_some {G : jq_G} {σ : jr_Sg} {k : Nat} {q : Nat × va_E} (h : (jq_ws G σ)[k]? = some q) : k < (jq_shp G).length ∧ q.1 = G.2.2.1 k := by
  have hlt : k < (jq_ws G σ).length := (List.getElem?_eq_some_iff.mp h).1
  have hl : k < (jq_shp G).length := by simpa [jq_ws] using hlt
  rw [jq_ws_get (c := (jq_shp G)[k]) (by simp [hl])] at h
  exact ⟨hl, by rw [← Option.some.inj h]⟩
theorem jq_vaD {G : jq_G} {σ : jr_Sg} (h : jq_D G) : va_D (jq_A G) (jq_ws G σ) := by
  refine ⟨fun i j p q hi hj e => ?_, fun k q hk => ?_⟩
  · obtain ⟨h1, h2⟩ := jq_ws_some hi
    obtain ⟨h3, h4⟩ := jq_ws_some hj
    exact h.1 i j h1 h3 (by rw [← h2, ← h4]; exact e)
  · obtain ⟨h1, h2⟩ := jq_ws_some hk
    exact ⟨k, h1, h2⟩
def jq_ZH (G : jq_G) (U : State) (H : Heap) : Prop :=
  vk_S 14 jr_len jr_byt (fun i => G.2.2.1 (1000 + i)) (fun i => G.2.2.1 (1100 + i)) (jq_A G) U H ∧
  va_Z "GoneRed$Kind" "ABOVE" "[I" (.ref (G.2.2.1 1200)) (jq_A G) U H ∧
  va_T .int (G.2.2.1 1200) 6 (fun j => .int (jr_abv.getD j 0)) (jq_A G) U H ∧
  va_Z "java/lang/String" "COMPACT_STRINGS" "Z" (.int 1) (jq_A G) U H ∧
  (va_Z "jdk/internal/util/Preconditions" "SIOOBE_FORMATTER" "Ljava/util/function/BiFunction;" .null (jq_A G) U H ∨ va_Z "jdk/internal/util/Preconditions" "SIOOBE_FORMATTER" "Ljava/util/function/BiFunction;" (.ref (G.2.2.1 1300)) (jq_A G) U H)
def jq_ZT (G : jq_G) (U : State) : Prop :=
  (∀ i, i < 14 → vk_R (jr_str.getD i ("", 0, "")).1 (jr_str.getD i ("", 0, "")).2.1 (jr_str.getD i ("", 0, "")).2.2 (G.2.2.1 (1000 + i)) U) ∧
  va_Nw (.methodLinkNest RX3 56 yX9_isSeat RX9) U
def jq_F (G : jq_G) (U : State) (H : Heap) : Prop := jq_D G ∧ va_K G.1 vwCl [(G.2.1, .int)] U ∧ jq_ZT G U ∧ jq_ZH G U H
theorem jq_ZH.kept {G : jq_G} {U : State} {H H1 : Heap} (h : jq_ZH G U H) (hq : ∀ a : Nat, a < H.size → ¬ jq_A G a → H1[a]? = H[a]?) : jq_ZH G U H1 :=
  ⟨h.1.kept hq, h.2.1.kept hq, h.2.2.1.kept hq, h.2.2.2.1.kept hq, h.2.2.2.2.imp (fun q => q.kept hq) (fun q => q.kept hq)⟩
theorem jq_ZH.moved {G : jq_G} {u U : State} {H : Heap} (hvm : u.vm.Alike U.vm) (h : jq_ZH G u H) : jq_ZH G U H :=
  ⟨h.1.moved hvm, h.2.1.moved hvm, h.2.2.1.moved hvm, h.2.2.2.1.moved hvm, h.2.2.2.2.imp (fun q => q.moved hvm) (fun q => q.moved hvm)⟩
theorem jq_ZT.same {G : jq_G} {u U : State} (hv : U.vm = u.vm) (h : jq_ZT G u) : jq_ZT G U :=
  ⟨fun i hi => vk_R.same hv (h.1 i hi), va_Nw.same rfl hv.symm h.2⟩
theorem jq_ZT.warm {G : jq_G} {s U : State} (hW : s.WarmedH U.vm) (h : jq_ZT G s) : jq_ZT G U :=
  ⟨fun i hi => vk_R.warm hW (h.1 i hi), va_Nw.warmM hW h.2⟩
theorem jq_F.warm {G : jq_G} {s U : State} {H : Heap} (hW : s.WarmedH U.vm) (h : jq_F G s H) : jq_F G U H :=
  ⟨h.1, va_K.moved hW.alike h.2.1, h.2.2.1.warm hW, h.2.2.2.moved hW.alike⟩
theorem jq_F.same {G : jq_G} {u U : State} {H : Heap} (hv : U.vm = u.vm) (h : jq_F G u H) : jq_F G U H :=
  ⟨h.1, va_K.moved (by rw [hv]; exact Vm.Alike.refl _) h.2.1, h.2.2.1.same hv, h.2.2.2.moved (by rw [hv]; exact Vm.Alike.refl _)⟩
theorem jq_F.kept {G : jq_G} {U : State} {H H1 : Heap} {locs : List Loc} (h : jq_F G U H) (hS : va_S (jq_A G) H H1 locs) : jq_F G U H1 :=
  ⟨h.1, h.2.1, h.2.2.1, h.2.2.2.kept hS.2.1⟩
def jq_Q (G : jq_G) (K : Option Value → jr_Sg → Prop) : Array Value → State → Outcome → State → Prop := fun _ st o t =>
  (∃ (v : Option Value) (σ : jr_Sg), o = .returned (v.map (jr_v G.2.2.1)) ∧ K v σ ∧ va_P G.1 vwCl (jq_ws G σ) t.heap) ∧ va_F (jq_A G) st t
def jq_M (G : jq_G) (d : Nat) (mi : jr_MI) (a : List Value) (σ : jr_Sg) (K : Option Value → jr_Sg → Prop) : Prop :=
  ∀ l : Launch, Met l mi.1 (jr_wsM mi) (jr_room d) (va_Pc (a.map (jr_v G.2.2.1)) (fun U => jq_F G U U.heap ∧ va_P G.1 vwCl (jq_ws G σ) U.heap)) (jq_Q G K) 0 0 (jq_A G)
def jq_R (G : jq_G) (d : Nat) (mi : jr_MI) (K : Option Value → jr_Sg → Prop) (pc : Nat) (L : List (Option Value)) (st : List Value) (σ : jr_Sg) : Prop :=
  ∀ (p : Program) (l : Launch) (e : Env) (s : State) (m : MethodId) (args : Array Value) (below : List Frame) (meth : Method) (c : Code) (H : Heap) (locs : List Loc) (ls : Array Slot),
    p.tables.exec = Jvm.exec → c.code = mi.2.1 → c.maxLocals = mi.2.2.1 → meth.sig.returnType = mi.2.2.2 → s.vm.findClass mi.1.cls = some m.cls → meth.locks = false → (∀ w ∈ jr_WL, w.before args s = true) → jq_F G s s.heap → va_P G.1 vwCl (jq_ws G σ) H → va_S (jq_A G) s.heap H locs → jr_L G.2.2.1 ls mi.2.2.1 L →
    W p l e (jr_room d) s m args below meth c H locs 0 0 (MQ below (jq_Q G K) args s 0 0 (jq_A G)) (F0 m pc ls (st.map (jr_v G.2.2.1)))
theorem jq_weak {G : jq_G} {d : Nat} {mi : jr_MI} {K : Option Value → jr_Sg → Prop} {pc : Nat} {L L' : List (Option Value)} {st : List Value} {σ : jr_Sg} (hL : ∀ (k : Nat) (v : Value), L'[k]? = some (some v) → L[k]? = some (some v)) (kk : jq_R G d mi K pc L' st σ) : jq_R G d mi K pc L st σ := by
  intro p l e s m args below meth c H locs ls hx hb hml hr hown hlk hts hF hP hS hl
  exact kk p l e s m args below meth c H locs ls hx hb hml hr hown hlk hts hF hP hS ⟨hl.1, hl.2.1, fun k v h => hl.2.2 k v (hL k v h)⟩
theorem jq_mono {G : jq_G} {d : Nat} {mi : jr_MI} {K K' : Option Value → jr_Sg → Prop} {pc : Nat} {L : List (Option Value)} {st : List Value} {σ : jr_Sg} (hK : ∀ v σ', K v σ' → K' v σ') (h : jq_R G d mi K pc L st σ) : jq_R G d mi K' pc L st σ := by
  intro p l e s m args below meth c H locs ls hx hb hml hr hown hlk hts hF hP hS hl T hT X
  obtain ⟨t, a1, o, b1, b2, ⟨⟨v, σ', q1, q2, q3⟩, q4⟩, b4⟩ := h p l e s m args below meth c H locs ls hx hb hml hr hown hlk hts hF hP hS hl T hT X
  exact ⟨t, a1, o, b1, b2, ⟨⟨v, σ', q1, hK v σ' q2, q3⟩, q4⟩, b4⟩
section GRULES
variable {G : jq_G} {d : Nat} {mi : jr_MI} {K : Option Value → jr_Sg → Prop} {pc : Nat} {L : List (Option Value)} {st : List Value} {σ : jr_Sg}
theorem jq_iconst {n : Int} (v : Int32) (pc' : Nat) (hdg : decode mi.2.1 pc = .ok (.iconst n, 1)) (hp : pc + 1 = pc') (hv : Int32.ofInt n = v) (kk : jq_R G d mi K pc' L (.int v :: st) σ) : jq_R G d mi K pc L st σ := by
  subst hp
  intro p l e s m args below meth c H locs ls hx hb hml hr hown hlk hts hF hP hS hl
  exact lv_iconst hx hb hdg hv (kk p l e s m args below meth c H locs ls hx hb hml hr hown hlk hts hF hP hS hl)
theorem jq_bipush {n : Int} (v : Int32) (pc' : Nat) (hdg : decode mi.2.1 pc = .ok (.bipush n, 2)) (hp : pc + 2 = pc') (hv : (Int8.ofInt n).toInt32 = v) (kk : jq_R G d mi K pc' L (.int v :: st) σ) : jq_R G d mi K pc L st σ := by
  subst hp
  intro p l e s m args below meth c H locs ls hx hb hml hr hown hlk hts hF hP hS hl
  exact lv_bipush hx hb hdg hv (kk p l e s m args below meth c H locs ls hx hb hml hr hown hlk hts hF hP hS hl)
theorem jq_sipush {n : Int} (v : Int32) (pc' : Nat) (hdg : decode mi.2.1 pc = .ok (.sipush n, 3)) (hp : pc + 3 = pc') (hv : (Int16.ofInt n).toInt32 = v) (kk : jq_R G d mi K pc' L (.int v :: st) σ) : jq_R G d mi K pc L st σ := by
  subst hp
  intro p l e s m args below meth c H locs ls hx hb hml hr hown hlk hts hF hP hS hl
  exact lv_sipush hx hb hdg hv (kk p l e s m args below meth c H locs ls hx hb hml hr hown hlk hts hF hP hS hl)
theorem jq_lconst {n : Fin 2} (v : Int64) (pc' : Nat) (hdg : decode mi.2.1 pc = .ok (.lconst n, 1)) (hp : pc + 1 = pc') (hv : Int64.ofNat (n : Nat) = v) (kk : jq_R G d mi K pc' L (.long v :: st) σ) : jq_R G d mi K pc L st σ := by
  subst hp
  intro p l e s m args below meth c H locs ls hx hb hml hr hown hlk hts hF hP hS hl
  exact lv_lconst hx hb hdg hv (kk p l e s m args below meth c H locs ls hx hb hml hr hown hlk hts hF hP hS hl)
theorem jq_ldc {idx : Nat} {v : Int32} (hc : Cond.constant mi.1.cls idx v ∈ jr_WL) (pc' : Nat) (hdg : decode mi.2.1 pc = .ok (.ldc idx, 2)) (hp : pc + 2 = pc') (kk : jq_R G d mi K pc' L (.int v :: st) σ) : jq_R G d mi K pc L st σ := by
  subst hp
  intro p l e s m args below meth c H locs ls hx hb hml hr hown hlk hts hF hP hS hl
  exact lv_ldc hx hb hown (hts _ hc) hdg (kk p l e s m args below meth c H locs ls hx hb hml hr hown hlk hts hF hP hS hl)
theorem jq_ldcw {idx : Nat} {v : Int32} (hc : Cond.constant mi.1.cls idx v ∈ jr_WL) (pc' : Nat) (hdg : decode mi.2.1 pc = .ok (.ldc_w idx, 3)) (hp : pc + 3 = pc') (kk : jq_R G d mi K pc' L (.int v :: st) σ) : jq_R G d mi K pc L st σ := by
  subst hp
  intro p l e s m args below meth c H locs ls hx hb hml hr hown hlk hts hF hP hS hl
  exact lv_ldcw hx hb hown (hts _ hc) hdg (kk p l e s m args below meth c H locs ls hx hb hml hr hown hlk hts hF hP hS hl)
theorem jq_ldc2 {idx : Nat} {v : Int64} (hc : Cond.constantLong mi.1.cls idx v ∈ jr_WL) (pc' : Nat) (hdg : decode mi.2.1 pc = .ok (.ldc2_w idx, 3)) (hp : pc + 3 = pc') (kk : jq_R G d mi K pc' L (.long v :: st) σ) : jq_R G d mi K pc L st σ := by
  subst hp
  intro p l e s m args below meth c H locs ls hx hb hml hr hown hlk hts hF hP hS hl
  exact lv_ldc2 hx hb hown (hts _ hc) hdg (kk p l e s m args below meth c H locs ls hx hb hml hr hown hlk hts hF hP hS hl)
theorem jq_iload_n {k : Fin 4} (i : Nat) {x : Int32} (pc' : Nat) (hdg : decode mi.2.1 pc = .ok (.iload_n k, 1)) (hp : pc + 1 = pc') (hi : (k : Nat) = i) (hx0 : L[i]? = some (some (.int x))) (kk : jq_R G d mi K pc' L (.int x :: st) σ) : jq_R G d mi K pc L st σ := by
  subst hp
  intro p l e s m args below meth c H locs ls hx hb hml hr hown hlk hts hF hP hS hl
  exact lv_iload_n hx hb hdg hi (hl.2.2 i _ hx0) (kk p l e s m args below meth c H locs ls hx hb hml hr hown hlk hts hF hP hS hl)
theorem jq_iload {i : Nat} {x : Int32} (pc' : Nat) (hdg : decode mi.2.1 pc = .ok (.iload i, 2)) (hp : pc + 2 = pc') (hx0 : L[i]? = some (some (.int x))) (kk : jq_R G d mi K pc' L (.int x :: st) σ) : jq_R G d mi K pc L st σ := by
  subst hp
  intro p l e s m args below meth c H locs ls hx hb hml hr hown hlk hts hF hP hS hl
  exact lv_iload hx hb hdg (hl.2.2 i _ hx0) (kk p l e s m args below meth c H locs ls hx hb hml hr hown hlk hts hF hP hS hl)
theorem jq_lload_n {k : Fin 4} (i : Nat) {x : Int64} (pc' : Nat) (hdg : decode mi.2.1 pc = .ok (.lload_n k, 1)) (hp : pc + 1 = pc') (hi : (k : Nat) = i) (hx0 : L[i]? = some (some (.long x))) (kk : jq_R G d mi K pc' L (.long x :: st) σ) : jq_R G d mi K pc L st σ := by
  subst hp
  intro p l e s m args below meth c H locs ls hx hb hml hr hown hlk hts hF hP hS hl
  exact lv_lload_n hx hb hdg hi (hl.2.2 i _ hx0) (kk p l e s m args below meth c H locs ls hx hb hml hr hown hlk hts hF hP hS hl)
theorem jq_lload {i : Nat} {x : Int64} (pc' : Nat) (hdg : decode mi.2.1 pc = .ok (.lload i, 2)) (hp : pc + 2 = pc') (hx0 : L[i]? = some (some (.long x))) (kk : jq_R G d mi K pc' L (.long x :: st) σ) : jq_R G d mi K pc L st σ := by
  subst hp
  intro p l e s m args below meth c H locs ls hx hb hml hr hown hlk hts hF hP hS hl
  exact lv_lload hx hb hdg (hl.2.2 i _ hx0) (kk p l e s m args below meth c H locs ls hx hb hml hr hown hlk hts hF hP hS hl)
theorem jq_aload_n {k : Fin 4} (i : Nat) {x : Nat} (pc' : Nat) (hdg : decode mi.2.1 pc = .ok (.aload_n k, 1)) (hp : pc + 1 = pc') (hi : (k : Nat) = i) (hx0 : L[i]? = some (some (.ref x))) (kk : jq_R G d mi K pc' L (.ref x :: st) σ) : jq_R G d mi K pc L st σ := by
  subst hp
  intro p l e s m args below meth c H locs ls hx hb hml hr hown hlk hts hF hP hS hl
  exact lv_aload_n hx hb hdg hi (hl.2.2 i _ hx0) (kk p l e s m args below meth c H locs ls hx hb hml hr hown hlk hts hF hP hS hl)
theorem jq_aload {i : Nat} {x : Nat} (pc' : Nat) (hdg : decode mi.2.1 pc = .ok (.aload i, 2)) (hp : pc + 2 = pc') (hx0 : L[i]? = some (some (.ref x))) (kk : jq_R G d mi K pc' L (.ref x :: st) σ) : jq_R G d mi K pc L st σ := by
  subst hp
  intro p l e s m args below meth c H locs ls hx hb hml hr hown hlk hts hF hP hS hl
  exact lv_aload hx hb hdg (hl.2.2 i _ hx0) (kk p l e s m args below meth c H locs ls hx hb hml hr hown hlk hts hF hP hS hl)
theorem jq_istore_n {k : Fin 4} (i : Nat) {x : Int32} {L' : List (Option Value)} (pc' : Nat) (hdg : decode mi.2.1 pc = .ok (.istore_n k, 1)) (hp : pc + 1 = pc') (hi : (k : Nat) = i) (hn : i < mi.2.2.1) (hL : jr_s1 L i (.int x) = L') (kk : jq_R G d mi K pc' L' st σ) : jq_R G d mi K pc L (.int x :: st) σ := by
  subst hp
  subst hL
  intro p l e s m args below meth c H locs ls hx hb hml hr hown hlk hts hF hP hS hl
  exact lv_istore_n hx hb hdg hi (jr_L_has hl) hn rfl (fun ls' hl' => kk p l e s m args below meth c H locs ls' hx hb hml hr hown hlk hts hF hP hS  (jr_s1_has (v := .int x) hl'))
theorem jq_istore {i : Nat} {x : Int32} {L' : List (Option Value)} (pc' : Nat) (hdg : decode mi.2.1 pc = .ok (.istore i, 2)) (hp : pc + 2 = pc') (hn : i < mi.2.2.1) (hL : jr_s1 L i (.int x) = L') (kk : jq_R G d mi K pc' L' st σ) : jq_R G d mi K pc L (.int x :: st) σ := by
  subst hp
  subst hL
  intro p l e s m args below meth c H locs ls hx hb hml hr hown hlk hts hF hP hS hl
  exact lv_istore hx hb hdg (jr_L_has hl) hn rfl (fun ls' hl' => kk p l e s m args below meth c H locs ls' hx hb hml hr hown hlk hts hF hP hS  (jr_s1_has (v := .int x) hl'))
theorem jq_astore_n {k : Fin 4} (i : Nat) {x : Nat} {L' : List (Option Value)} (pc' : Nat) (hdg : decode mi.2.1 pc = .ok (.astore_n k, 1)) (hp : pc + 1 = pc') (hi : (k : Nat) = i) (hn : i < mi.2.2.1) (hL : jr_s1 L i (.ref x) = L') (kk : jq_R G d mi K pc' L' st σ) : jq_R G d mi K pc L (.ref x :: st) σ := by
  subst hp
  subst hL
  intro p l e s m args below meth c H locs ls hx hb hml hr hown hlk hts hF hP hS hl
  exact lv_astore_n hx hb hdg hi (jr_L_has hl) hn rfl (fun ls' hl' => kk p l e s m args below meth c H locs ls' hx hb hml hr hown hlk hts hF hP hS  (jr_s1_has (v := .ref x) hl'))
theorem jq_astore {i : Nat} {x : Nat} {L' : List (Option Value)} (pc' : Nat) (hdg : decode mi.2.1 pc = .ok (.astore i, 2)) (hp : pc + 2 = pc') (hn : i < mi.2.2.1) (hL : jr_s1 L i (.ref x) = L') (kk : jq_R G d mi K pc' L' st σ) : jq_R G d mi K pc L (.ref x :: st) σ := by
  subst hp
  subst hL
  intro p l e s m args below meth c H locs ls hx hb hml hr hown hlk hts hF hP hS hl
  exact lv_astore hx hb hdg (jr_L_has hl) hn rfl (fun ls' hl' => kk p l e s m args below meth c H locs ls' hx hb hml hr hown hlk hts hF hP hS  (jr_s1_has (v := .ref x) hl'))
theorem jq_lstore_n {k : Fin 4} (i : Nat) {x : Int64} {L' : List (Option Value)} (pc' : Nat) (hdg : decode mi.2.1 pc = .ok (.lstore_n k, 1)) (hp : pc + 1 = pc') (hi : (k : Nat) = i) (hn : i + 1 < mi.2.2.1) (hL : jr_s2 L i (.long x) = L') (kk : jq_R G d mi K pc' L' st σ) : jq_R G d mi K pc L (.long x :: st) σ := by
  subst hp
  subst hL
  intro p l e s m args below meth c H locs ls hx hb hml hr hown hlk hts hF hP hS hl
  exact lv_lstore_n hx hb hdg hi (jr_L_has hl) hn rfl (fun ls' hl' => kk p l e s m args below meth c H locs ls' hx hb hml hr hown hlk hts hF hP hS  (jr_s2_has (v := .long x) hl'))
theorem jq_lstore {i : Nat} {x : Int64} {L' : List (Option Value)} (pc' : Nat) (hdg : decode mi.2.1 pc = .ok (.lstore i, 2)) (hp : pc + 2 = pc') (hn : i + 1 < mi.2.2.1) (hL : jr_s2 L i (.long x) = L') (kk : jq_R G d mi K pc' L' st σ) : jq_R G d mi K pc L (.long x :: st) σ := by
  subst hp
  subst hL
  intro p l e s m args below meth c H locs ls hx hb hml hr hown hlk hts hF hP hS hl
  exact lv_lstore hx hb hdg (jr_L_has hl) hn rfl (fun ls' hl' => kk p l e s m args below meth c H locs ls' hx hb hml hr hown hlk hts hF hP hS  (jr_s2_has (v := .long x) hl'))
theorem jq_iinc {i : Nat} {n : Int} {x v : Int32} {L' : List (Option Value)} (pc' : Nat) (hdg : decode mi.2.1 pc = .ok (.iinc i n, 3)) (hp : pc + 3 = pc') (hx0 : L[i]? = some (some (.int x))) (hv : x + Int32.ofInt n = v) (hn : i < mi.2.2.1) (hL : jr_s1 L i (.int v) = L') (kk : jq_R G d mi K pc' L' st σ) : jq_R G d mi K pc L st σ := by
  subst hp
  subst hL
  intro p l e s m args below meth c H locs ls hx hb hml hr hown hlk hts hF hP hS hl
  obtain ⟨k, hk⟩ := List.getElem?_of_mem (jr_pr_mem (ad := G.2.2.1) L 0 i _ hx0)
  rw [Nat.zero_add] at hk
  exact lv_iinc hx hb hdg (jr_L_has hl) (k := k) hk hv hn rfl (fun ls' hl' => kk p l e s m args below meth c H locs ls' hx hb hml hr hown hlk hts hF hP hS  (jr_s1_has (v := .int v) hl'))
theorem jq_iadd {x y : Int32} (pc' : Nat) (hdg : decode mi.2.1 pc = .ok (.iadd, 1)) (hp : pc + 1 = pc') (kk : jq_R G d mi K pc' L (.int (x + y) :: st) σ) : jq_R G d mi K pc L (.int y :: .int x :: st) σ := by
  subst hp
  intro p l e s m args below meth c H locs ls hx hb hml hr hown hlk hts hF hP hS hl
  exact lv_iadd hx hb hdg (kk p l e s m args below meth c H locs ls hx hb hml hr hown hlk hts hF hP hS hl)
theorem jq_isub {x y : Int32} (pc' : Nat) (hdg : decode mi.2.1 pc = .ok (.isub, 1)) (hp : pc + 1 = pc') (kk : jq_R G d mi K pc' L (.int (x - y) :: st) σ) : jq_R G d mi K pc L (.int y :: .int x :: st) σ := by
  subst hp
  intro p l e s m args below meth c H locs ls hx hb hml hr hown hlk hts hF hP hS hl
  exact lv_isub hx hb hdg (kk p l e s m args below meth c H locs ls hx hb hml hr hown hlk hts hF hP hS hl)
theorem jq_imul {x y : Int32} (pc' : Nat) (hdg : decode mi.2.1 pc = .ok (.imul, 1)) (hp : pc + 1 = pc') (kk : jq_R G d mi K pc' L (.int (x * y) :: st) σ) : jq_R G d mi K pc L (.int y :: .int x :: st) σ := by
  subst hp
  intro p l e s m args below meth c H locs ls hx hb hml hr hown hlk hts hF hP hS hl
  exact lv_imul hx hb hdg (kk p l e s m args below meth c H locs ls hx hb hml hr hown hlk hts hF hP hS hl)
theorem jq_iand {x y : Int32} (pc' : Nat) (hdg : decode mi.2.1 pc = .ok (.iand, 1)) (hp : pc + 1 = pc') (kk : jq_R G d mi K pc' L (.int (x &&& y) :: st) σ) : jq_R G d mi K pc L (.int y :: .int x :: st) σ := by
  subst hp
  intro p l e s m args below meth c H locs ls hx hb hml hr hown hlk hts hF hP hS hl
  exact lv_iand hx hb hdg (kk p l e s m args below meth c H locs ls hx hb hml hr hown hlk hts hF hP hS hl)
theorem jq_ior {x y : Int32} (pc' : Nat) (hdg : decode mi.2.1 pc = .ok (.ior, 1)) (hp : pc + 1 = pc') (kk : jq_R G d mi K pc' L (.int (x ||| y) :: st) σ) : jq_R G d mi K pc L (.int y :: .int x :: st) σ := by
  subst hp
  intro p l e s m args below meth c H locs ls hx hb hml hr hown hlk hts hF hP hS hl
  exact lv_ior hx hb hdg (kk p l e s m args below meth c H locs ls hx hb hml hr hown hlk hts hF hP hS hl)
theorem jq_ixor {x y : Int32} (pc' : Nat) (hdg : decode mi.2.1 pc = .ok (.ixor, 1)) (hp : pc + 1 = pc') (kk : jq_R G d mi K pc' L (.int (x ^^^ y) :: st) σ) : jq_R G d mi K pc L (.int y :: .int x :: st) σ := by
  subst hp
  intro p l e s m args below meth c H locs ls hx hb hml hr hown hlk hts hF hP hS hl
  exact lv_ixor hx hb hdg (kk p l e s m args below meth c H locs ls hx hb hml hr hown hlk hts hF hP hS hl)
theorem jq_ishl {x y : Int32} (pc' : Nat) (hdg : decode mi.2.1 pc = .ok (.ishl, 1)) (hp : pc + 1 = pc') (kk : jq_R G d mi K pc' L (.int (x <<< (y &&& 31)) :: st) σ) : jq_R G d mi K pc L (.int y :: .int x :: st) σ := by
  subst hp
  intro p l e s m args below meth c H locs ls hx hb hml hr hown hlk hts hF hP hS hl
  exact lv_ishl hx hb hdg (kk p l e s m args below meth c H locs ls hx hb hml hr hown hlk hts hF hP hS hl)
theorem jq_ishr {x y : Int32} (pc' : Nat) (hdg : decode mi.2.1 pc = .ok (.ishr, 1)) (hp : pc + 1 = pc') (kk : jq_R G d mi K pc' L (.int (x >>> (y &&& 31)) :: st) σ) : jq_R G d mi K pc L (.int y :: .int x :: st) σ := by
  subst hp
  intro p l e s m args below meth c H locs ls hx hb hml hr hown hlk hts hF hP hS hl
  exact lv_ishr hx hb hdg (kk p l e s m args below meth c H locs ls hx hb hml hr hown hlk hts hF hP hS hl)
theorem jq_idiv {x y : Int32} (pc' : Nat) (hdg : decode mi.2.1 pc = .ok (.idiv, 1)) (hp : pc + 1 = pc') (hne : ¬ y = 0) (kk : jq_R G d mi K pc' L (.int (x / y) :: st) σ) : jq_R G d mi K pc L (.int y :: .int x :: st) σ := by
  subst hp
  intro p l e s m args below meth c H locs ls hx hb hml hr hown hlk hts hF hP hS hl
  exact lv_idiv hx hb hdg hne (kk p l e s m args below meth c H locs ls hx hb hml hr hown hlk hts hF hP hS hl)
theorem jq_irem {x y : Int32} (pc' : Nat) (hdg : decode mi.2.1 pc = .ok (.irem, 1)) (hp : pc + 1 = pc') (hne : ¬ y = 0) (kk : jq_R G d mi K pc' L (.int (x - x / y * y) :: st) σ) : jq_R G d mi K pc L (.int y :: .int x :: st) σ := by
  subst hp
  intro p l e s m args below meth c H locs ls hx hb hml hr hown hlk hts hF hP hS hl
  exact lv_irem hx hb hdg hne (kk p l e s m args below meth c H locs ls hx hb hml hr hown hlk hts hF hP hS hl)
theorem jq_ladd {x y : Int64} (pc' : Nat) (hdg : decode mi.2.1 pc = .ok (.ladd, 1)) (hp : pc + 1 = pc') (kk : jq_R G d mi K pc' L (.long (x + y) :: st) σ) : jq_R G d mi K pc L (.long y :: .long x :: st) σ := by
  subst hp
  intro p l e s m args below meth c H locs ls hx hb hml hr hown hlk hts hF hP hS hl
  exact lv_ladd hx hb hdg (kk p l e s m args below meth c H locs ls hx hb hml hr hown hlk hts hF hP hS hl)
theorem jq_lmul {x y : Int64} (pc' : Nat) (hdg : decode mi.2.1 pc = .ok (.lmul, 1)) (hp : pc + 1 = pc') (kk : jq_R G d mi K pc' L (.long (x * y) :: st) σ) : jq_R G d mi K pc L (.long y :: .long x :: st) σ := by
  subst hp
  intro p l e s m args below meth c H locs ls hx hb hml hr hown hlk hts hF hP hS hl
  exact lv_lmul hx hb hdg (kk p l e s m args below meth c H locs ls hx hb hml hr hown hlk hts hF hP hS hl)
theorem jq_lor {x y : Int64} (pc' : Nat) (hdg : decode mi.2.1 pc = .ok (.lor, 1)) (hp : pc + 1 = pc') (kk : jq_R G d mi K pc' L (.long (x ||| y) :: st) σ) : jq_R G d mi K pc L (.long y :: .long x :: st) σ := by
  subst hp
  intro p l e s m args below meth c H locs ls hx hb hml hr hown hlk hts hF hP hS hl
  exact lv_lor hx hb hdg (kk p l e s m args below meth c H locs ls hx hb hml hr hown hlk hts hF hP hS hl)
theorem jq_ldiv {x y : Int64} (pc' : Nat) (hdg : decode mi.2.1 pc = .ok (.ldiv, 1)) (hp : pc + 1 = pc') (hne : ¬ y = 0) (kk : jq_R G d mi K pc' L (.long (x / y) :: st) σ) : jq_R G d mi K pc L (.long y :: .long x :: st) σ := by
  subst hp
  intro p l e s m args below meth c H locs ls hx hb hml hr hown hlk hts hF hP hS hl
  exact lv_ldiv hx hb hdg hne (kk p l e s m args below meth c H locs ls hx hb hml hr hown hlk hts hF hP hS hl)
theorem jq_lrem {x y : Int64} (pc' : Nat) (hdg : decode mi.2.1 pc = .ok (.lrem, 1)) (hp : pc + 1 = pc') (hne : ¬ y = 0) (kk : jq_R G d mi K pc' L (.long (x - x / y * y) :: st) σ) : jq_R G d mi K pc L (.long y :: .long x :: st) σ := by
  subst hp
  intro p l e s m args below meth c H locs ls hx hb hml hr hown hlk hts hF hP hS hl
  exact lv_lrem hx hb hdg hne (kk p l e s m args below meth c H locs ls hx hb hml hr hown hlk hts hF hP hS hl)
theorem jq_lcmp {x y : Int64} (pc' : Nat) (hdg : decode mi.2.1 pc = .ok (.lcmp, 1)) (hp : pc + 1 = pc') (kk : jq_R G d mi K pc' L (.int (lg_cmp x y) :: st) σ) : jq_R G d mi K pc L (.long y :: .long x :: st) σ := by
  subst hp
  intro p l e s m args below meth c H locs ls hx hb hml hr hown hlk hts hF hP hS hl
  exact W.lcmp hx hb hdg (kk p l e s m args below meth c H locs ls hx hb hml hr hown hlk hts hF hP hS hl)
theorem jq_lshl {x : Int64} {y : Int32} (pc' : Nat) (hdg : decode mi.2.1 pc = .ok (.lshl, 1)) (hp : pc + 1 = pc') (kk : jq_R G d mi K pc' L (.long (x <<< (y.toInt64 &&& 63)) :: st) σ) : jq_R G d mi K pc L (.int y :: .long x :: st) σ := by
  subst hp
  intro p l e s m args below meth c H locs ls hx hb hml hr hown hlk hts hF hP hS hl
  exact lv_lshl hx hb hdg rfl (kk p l e s m args below meth c H locs ls hx hb hml hr hown hlk hts hF hP hS hl)
theorem jq_iushr {x y : Int32} (pc' : Nat) (hdg : decode mi.2.1 pc = .ok (.iushr, 1)) (hp : pc + 1 = pc') (kk : jq_R G d mi K pc' L (.int (x.toUInt32 >>> (y.toUInt32 &&& Int32.toUInt32 31)).toInt32 :: st) σ) : jq_R G d mi K pc L (.int y :: .int x :: st) σ := by
  subst hp
  intro p l e s m args below meth c H locs ls hx hb hml hr hown hlk hts hF hP hS hl
  exact lv_iushr hx hb hdg rfl (kk p l e s m args below meth c H locs ls hx hb hml hr hown hlk hts hF hP hS hl)
theorem jq_ineg {x : Int32} (pc' : Nat) (hdg : decode mi.2.1 pc = .ok (.ineg, 1)) (hp : pc + 1 = pc') (kk : jq_R G d mi K pc' L (.int (-x) :: st) σ) : jq_R G d mi K pc L (.int x :: st) σ := by
  subst hp
  intro p l e s m args below meth c H locs ls hx hb hml hr hown hlk hts hF hP hS hl
  exact lv_ineg hx hb hdg (kk p l e s m args below meth c H locs ls hx hb hml hr hown hlk hts hF hP hS hl)
theorem jq_i2l {x : Int32} (pc' : Nat) (hdg : decode mi.2.1 pc = .ok (.i2l, 1)) (hp : pc + 1 = pc') (kk : jq_R G d mi K pc' L (.long x.toInt64 :: st) σ) : jq_R G d mi K pc L (.int x :: st) σ := by
  subst hp
  intro p l e s m args below meth c H locs ls hx hb hml hr hown hlk hts hF hP hS hl
  exact lv_i2l hx hb hdg rfl (kk p l e s m args below meth c H locs ls hx hb hml hr hown hlk hts hF hP hS hl)
theorem jq_l2i {x : Int64} (pc' : Nat) (hdg : decode mi.2.1 pc = .ok (.l2i, 1)) (hp : pc + 1 = pc') (kk : jq_R G d mi K pc' L (.int x.toInt32 :: st) σ) : jq_R G d mi K pc L (.long x :: st) σ := by
  subst hp
  intro p l e s m args below meth c H locs ls hx hb hml hr hown hlk hts hF hP hS hl
  exact lv_l2i hx hb hdg rfl (kk p l e s m args below meth c H locs ls hx hb hml hr hown hlk hts hF hP hS hl)
theorem jq_i2b {x : Int32} (pc' : Nat) (hdg : decode mi.2.1 pc = .ok (.i2b, 1)) (hp : pc + 1 = pc') (kk : jq_R G d mi K pc' L (.int x.toInt8.toInt32 :: st) σ) : jq_R G d mi K pc L (.int x :: st) σ := by
  subst hp
  intro p l e s m args below meth c H locs ls hx hb hml hr hown hlk hts hF hP hS hl
  exact lv_i2b hx hb hdg rfl (kk p l e s m args below meth c H locs ls hx hb hml hr hown hlk hts hF hP hS hl)
theorem jq_i2s {x : Int32} (pc' : Nat) (hdg : decode mi.2.1 pc = .ok (.i2s, 1)) (hp : pc + 1 = pc') (kk : jq_R G d mi K pc' L (.int x.toInt16.toInt32 :: st) σ) : jq_R G d mi K pc L (.int x :: st) σ := by
  subst hp
  intro p l e s m args below meth c H locs ls hx hb hml hr hown hlk hts hF hP hS hl
  exact lv_i2s hx hb hdg rfl (kk p l e s m args below meth c H locs ls hx hb hml hr hown hlk hts hF hP hS hl)
theorem jq_i2c {x : Int32} (pc' : Nat) (hdg : decode mi.2.1 pc = .ok (.i2c, 1)) (hp : pc + 1 = pc') (kk : jq_R G d mi K pc' L (.int (x.toUInt32 % 65536).toInt32 :: st) σ) : jq_R G d mi K pc L (.int x :: st) σ := by
  subst hp
  intro p l e s m args below meth c H locs ls hx hb hml hr hown hlk hts hF hP hS hl
  exact lv_i2c hx hb hdg rfl (kk p l e s m args below meth c H locs ls hx hb hml hr hown hlk hts hF hP hS hl)
theorem jq_dup {v : Value} (pc' : Nat) (hdg : decode mi.2.1 pc = .ok (.dup, 1)) (hp : pc + 1 = pc') (hc : v.category = 1) (kk : jq_R G d mi K pc' L (v :: v :: st) σ) : jq_R G d mi K pc L (v :: st) σ := by
  subst hp
  intro p l e s m args below meth c H locs ls hx hb hml hr hown hlk hts hF hP hS hl
  exact lv_dup hx hb hdg (by rw [jr_v_cat]; exact hc) (kk p l e s m args below meth c H locs ls hx hb hml hr hown hlk hts hF hP hS hl)
theorem jq_dup2 {v u : Value} (pc' : Nat) (hdg : decode mi.2.1 pc = .ok (.dup2, 1)) (hp : pc + 1 = pc') (hc : v.category = 1) (hc2 : u.category = 1) (kk : jq_R G d mi K pc' L (v :: u :: v :: u :: st) σ) : jq_R G d mi K pc L (v :: u :: st) σ := by
  subst hp
  intro p l e s m args below meth c H locs ls hx hb hml hr hown hlk hts hF hP hS hl
  exact lv_dup2_11 hx hb hdg (by rw [jr_v_cat]; exact hc) (by rw [jr_v_cat]; exact hc2) (kk p l e s m args below meth c H locs ls hx hb hml hr hown hlk hts hF hP hS hl)
theorem jq_dup_x1 {v u : Value} (pc' : Nat) (hdg : decode mi.2.1 pc = .ok (.dup_x1, 1)) (hp : pc + 1 = pc') (hc : v.category = 1) (hc2 : u.category = 1) (kk : jq_R G d mi K pc' L (v :: u :: v :: st) σ) : jq_R G d mi K pc L (v :: u :: st) σ := by
  subst hp
  intro p l e s m args below meth c H locs ls hx hb hml hr hown hlk hts hF hP hS hl
  exact lv_dup_x1 hx hb hdg (by rw [jr_v_cat]; exact hc) (by rw [jr_v_cat]; exact hc2) (kk p l e s m args below meth c H locs ls hx hb hml hr hown hlk hts hF hP hS hl)
theorem jq_pop {v : Value} (pc' : Nat) (hdg : decode mi.2.1 pc = .ok (.pop, 1)) (hp : pc + 1 = pc') (hc : v.category = 1) (kk : jq_R G d mi K pc' L st σ) : jq_R G d mi K pc L (v :: st) σ := by
  subst hp
  intro p l e s m args below meth c H locs ls hx hb hml hr hown hlk hts hF hP hS hl
  exact lv_pop hx hb hdg (by rw [jr_v_cat]; exact hc) (kk p l e s m args below meth c H locs ls hx hb hml hr hown hlk hts hF hP hS hl)
theorem jq_if_eq {x : Int32} {off : Int} (tgt pc' : Nat) (hdg : decode mi.2.1 pc = .ok (.ifCond .eq off, 3)) (hp : pc + 3 = pc') (ht : (pc : Int) + off = (tgt : Int)) (kt : x = 0 → jq_R G d mi K tgt L st σ) (kf : ¬ x = 0 → jq_R G d mi K pc' L st σ) : jq_R G d mi K pc L (.int x :: st) σ := by
  subst hp
  intro p l e s m args below meth c H locs ls hx hb hml hr hown hlk hts hF hP hS hl
  exact lv_if_eq hx hb hdg ht (fun q => kt q p l e s m args below meth c H locs ls hx hb hml hr hown hlk hts hF hP hS hl) (fun q => kf q p l e s m args below meth c H locs ls hx hb hml hr hown hlk hts hF hP hS hl)
theorem jq_icmp_eq {x y : Int32} {off : Int} (tgt pc' : Nat) (hdg : decode mi.2.1 pc = .ok (.if_icmp .eq off, 3)) (hp : pc + 3 = pc') (ht : (pc : Int) + off = (tgt : Int)) (kt : x = y → jq_R G d mi K tgt L st σ) (kf : ¬ x = y → jq_R G d mi K pc' L st σ) : jq_R G d mi K pc L (.int y :: .int x :: st) σ := by
  subst hp
  intro p l e s m args below meth c H locs ls hx hb hml hr hown hlk hts hF hP hS hl
  exact lv_icmp_eq hx hb hdg ht (fun q => kt q p l e s m args below meth c H locs ls hx hb hml hr hown hlk hts hF hP hS hl) (fun q => kf q p l e s m args below meth c H locs ls hx hb hml hr hown hlk hts hF hP hS hl)
theorem jq_if_ne {x : Int32} {off : Int} (tgt pc' : Nat) (hdg : decode mi.2.1 pc = .ok (.ifCond .ne off, 3)) (hp : pc + 3 = pc') (ht : (pc : Int) + off = (tgt : Int)) (kt : ¬ x = 0 → jq_R G d mi K tgt L st σ) (kf : x = 0 → jq_R G d mi K pc' L st σ) : jq_R G d mi K pc L (.int x :: st) σ := by
  subst hp
  intro p l e s m args below meth c H locs ls hx hb hml hr hown hlk hts hF hP hS hl
  exact lv_if_ne hx hb hdg ht (fun q => kt q p l e s m args below meth c H locs ls hx hb hml hr hown hlk hts hF hP hS hl) (fun q => kf q p l e s m args below meth c H locs ls hx hb hml hr hown hlk hts hF hP hS hl)
theorem jq_icmp_ne {x y : Int32} {off : Int} (tgt pc' : Nat) (hdg : decode mi.2.1 pc = .ok (.if_icmp .ne off, 3)) (hp : pc + 3 = pc') (ht : (pc : Int) + off = (tgt : Int)) (kt : ¬ x = y → jq_R G d mi K tgt L st σ) (kf : x = y → jq_R G d mi K pc' L st σ) : jq_R G d mi K pc L (.int y :: .int x :: st) σ := by
  subst hp
  intro p l e s m args below meth c H locs ls hx hb hml hr hown hlk hts hF hP hS hl
  exact lv_icmp_ne hx hb hdg ht (fun q => kt q p l e s m args below meth c H locs ls hx hb hml hr hown hlk hts hF hP hS hl) (fun q => kf q p l e s m args below meth c H locs ls hx hb hml hr hown hlk hts hF hP hS hl)
theorem jq_if_lt {x : Int32} {off : Int} (tgt pc' : Nat) (hdg : decode mi.2.1 pc = .ok (.ifCond .lt off, 3)) (hp : pc + 3 = pc') (ht : (pc : Int) + off = (tgt : Int)) (kt : x < 0 → jq_R G d mi K tgt L st σ) (kf : ¬ x < 0 → jq_R G d mi K pc' L st σ) : jq_R G d mi K pc L (.int x :: st) σ := by
  subst hp
  intro p l e s m args below meth c H locs ls hx hb hml hr hown hlk hts hF hP hS hl
  exact lv_if_lt hx hb hdg ht (fun q => kt q p l e s m args below meth c H locs ls hx hb hml hr hown hlk hts hF hP hS hl) (fun q => kf q p l e s m args below meth c H locs ls hx hb hml hr hown hlk hts hF hP hS hl)
theorem jq_icmp_lt {x y : Int32} {off : Int} (tgt pc' : Nat) (hdg : decode mi.2.1 pc = .ok (.if_icmp .lt off, 3)) (hp : pc + 3 = pc') (ht : (pc : Int) + off = (tgt : Int)) (kt : x < y → jq_R G d mi K tgt L st σ) (kf : ¬ x < y → jq_R G d mi K pc' L st σ) : jq_R G d mi K pc L (.int y :: .int x :: st) σ := by
  subst hp
  intro p l e s m args below meth c H locs ls hx hb hml hr hown hlk hts hF hP hS hl
  exact lv_icmp_lt hx hb hdg ht (fun q => kt q p l e s m args below meth c H locs ls hx hb hml hr hown hlk hts hF hP hS hl) (fun q => kf q p l e s m args below meth c H locs ls hx hb hml hr hown hlk hts hF hP hS hl)
theorem jq_if_ge {x : Int32} {off : Int} (tgt pc' : Nat) (hdg : decode mi.2.1 pc = .ok (.ifCond .ge off, 3)) (hp : pc + 3 = pc') (ht : (pc : Int) + off = (tgt : Int)) (kt : 0 ≤ x → jq_R G d mi K tgt L st σ) (kf : ¬ 0 ≤ x → jq_R G d mi K pc' L st σ) : jq_R G d mi K pc L (.int x :: st) σ := by
  subst hp
  intro p l e s m args below meth c H locs ls hx hb hml hr hown hlk hts hF hP hS hl
  exact lv_if_ge hx hb hdg ht (fun q => kt q p l e s m args below meth c H locs ls hx hb hml hr hown hlk hts hF hP hS hl) (fun q => kf q p l e s m args below meth c H locs ls hx hb hml hr hown hlk hts hF hP hS hl)
theorem jq_icmp_ge {x y : Int32} {off : Int} (tgt pc' : Nat) (hdg : decode mi.2.1 pc = .ok (.if_icmp .ge off, 3)) (hp : pc + 3 = pc') (ht : (pc : Int) + off = (tgt : Int)) (kt : y ≤ x → jq_R G d mi K tgt L st σ) (kf : ¬ y ≤ x → jq_R G d mi K pc' L st σ) : jq_R G d mi K pc L (.int y :: .int x :: st) σ := by
  subst hp
  intro p l e s m args below meth c H locs ls hx hb hml hr hown hlk hts hF hP hS hl
  exact lv_icmp_ge hx hb hdg ht (fun q => kt q p l e s m args below meth c H locs ls hx hb hml hr hown hlk hts hF hP hS hl) (fun q => kf q p l e s m args below meth c H locs ls hx hb hml hr hown hlk hts hF hP hS hl)
theorem jq_if_gt {x : Int32} {off : Int} (tgt pc' : Nat) (hdg : decode mi.2.1 pc = .ok (.ifCond .gt off, 3)) (hp : pc + 3 = pc') (ht : (pc : Int) + off = (tgt : Int)) (kt : 0 < x → jq_R G d mi K tgt L st σ) (kf : ¬ 0 < x → jq_R G d mi K pc' L st σ) : jq_R G d mi K pc L (.int x :: st) σ := by
  subst hp
  intro p l e s m args below meth c H locs ls hx hb hml hr hown hlk hts hF hP hS hl
  exact lv_if_gt hx hb hdg ht (fun q => kt q p l e s m args below meth c H locs ls hx hb hml hr hown hlk hts hF hP hS hl) (fun q => kf q p l e s m args below meth c H locs ls hx hb hml hr hown hlk hts hF hP hS hl)
theorem jq_icmp_gt {x y : Int32} {off : Int} (tgt pc' : Nat) (hdg : decode mi.2.1 pc = .ok (.if_icmp .gt off, 3)) (hp : pc + 3 = pc') (ht : (pc : Int) + off = (tgt : Int)) (kt : y < x → jq_R G d mi K tgt L st σ) (kf : ¬ y < x → jq_R G d mi K pc' L st σ) : jq_R G d mi K pc L (.int y :: .int x :: st) σ := by
  subst hp
  intro p l e s m args below meth c H locs ls hx hb hml hr hown hlk hts hF hP hS hl
  exact lv_icmp_gt hx hb hdg ht (fun q => kt q p l e s m args below meth c H locs ls hx hb hml hr hown hlk hts hF hP hS hl) (fun q => kf q p l e s m args below meth c H locs ls hx hb hml hr hown hlk hts hF hP hS hl)
theorem jq_if_le {x : Int32} {off : Int} (tgt pc' : Nat) (hdg : decode mi.2.1 pc = .ok (.ifCond .le off, 3)) (hp : pc + 3 = pc') (ht : (pc : Int) + off = (tgt : Int)) (kt : x ≤ 0 → jq_R G d mi K tgt L st σ) (kf : ¬ x ≤ 0 → jq_R G d mi K pc' L st σ) : jq_R G d mi K pc L (.int x :: st) σ := by
  subst hp
  intro p l e s m args below meth c H locs ls hx hb hml hr hown hlk hts hF hP hS hl
  exact lv_if_le hx hb hdg ht (fun q => kt q p l e s m args below meth c H locs ls hx hb hml hr hown hlk hts hF hP hS hl) (fun q => kf q p l e s m args below meth c H locs ls hx hb hml hr hown hlk hts hF hP hS hl)
theorem jq_icmp_le {x y : Int32} {off : Int} (tgt pc' : Nat) (hdg : decode mi.2.1 pc = .ok (.if_icmp .le off, 3)) (hp : pc + 3 = pc') (ht : (pc : Int) + off = (tgt : Int)) (kt : x ≤ y → jq_R G d mi K tgt L st σ) (kf : ¬ x ≤ y → jq_R G d mi K pc' L st σ) : jq_R G d mi K pc L (.int y :: .int x :: st) σ := by
  subst hp
  intro p l e s m args below meth c H locs ls hx hb hml hr hown hlk hts hF hP hS hl
  exact lv_icmp_le hx hb hdg ht (fun q => kt q p l e s m args below meth c H locs ls hx hb hml hr hown hlk hts hF hP hS hl) (fun q => kf q p l e s m args below meth c H locs ls hx hb hml hr hown hlk hts hF hP hS hl)
theorem jq_goto {off : Int} (tgt : Nat) (hdg : decode mi.2.1 pc = .ok (.goto off, 3)) (ht : (pc : Int) + off = (tgt : Int)) (kk : jq_R G d mi K tgt L st σ) : jq_R G d mi K pc L st σ := by
  intro p l e s m args below meth c H locs ls hx hb hml hr hown hlk hts hF hP hS hl
  exact lv_goto hx hb hdg ht (kk p l e s m args below meth c H locs ls hx hb hml hr hown hlk hts hF hP hS hl)
theorem jq_tableOut {x : Int32} {dflt lo hi : Int} {offs : Array Int} {len : Nat} (tgt : Nat) (hdg : decode mi.2.1 pc = .ok (.tableswitch dflt lo hi offs, len)) (h : x.toInt < lo ∨ hi < x.toInt) (ht : (pc : Int) + dflt = (tgt : Int)) (kk : jq_R G d mi K tgt L st σ) : jq_R G d mi K pc L (.int x :: st) σ := by
  intro p l e s m args below meth c H locs ls hx hb hml hr hown hlk hts hF hP hS hl
  exact lv_tableOut hx hb hdg h ht (kk p l e s m args below meth c H locs ls hx hb hml hr hown hlk hts hF hP hS hl)
theorem jq_tableIn {x : Int32} {dflt lo hi : Int} {offs : Array Int} {len : Nat} {off : Int} (tgt : Nat) (hdg : decode mi.2.1 pc = .ok (.tableswitch dflt lo hi offs, len)) (h1 : ¬ x.toInt < lo) (h2 : ¬ hi < x.toInt) (ho : offs[(x.toInt - lo).toNat]? = some off) (ht : (pc : Int) + off = (tgt : Int)) (kk : jq_R G d mi K tgt L st σ) : jq_R G d mi K pc L (.int x :: st) σ := by
  intro p l e s m args below meth c H locs ls hx hb hml hr hown hlk hts hF hP hS hl
  exact lv_tableIn hx hb hdg h1 h2 ho ht (kk p l e s m args below meth c H locs ls hx hb hml hr hown hlk hts hF hP hS hl)
theorem jq_lookup {x : Int32} {dflt : Int} {ps : Array (Int × Int)} {len : Nat} {off : Int} (tgt : Nat) (hdg : decode mi.2.1 pc = .ok (.lookupswitch dflt ps, len)) (hq : (ps.toList.zip (ps.toList.drop 1)).all (fun (a, next) => a.1 < next.1) = true) (ho : Op.lookupswitch.offset ps.toList dflt x.toInt = off) (ht : (pc : Int) + off = (tgt : Int)) (kk : jq_R G d mi K tgt L st σ) : jq_R G d mi K pc L (.int x :: st) σ := by
  intro p l e s m args below meth c H locs ls hx hb hml hr hown hlk hts hF hP hS hl
  exact lv_lookup hx hb hdg hq ho ht (kk p l e s m args below meth c H locs ls hx hb hml hr hown hlk hts hF hP hS hl)
theorem jq_ireturn {v : Int32} {ty : FieldType} {k : Value → jr_Sg → Prop} (hdg : decode mi.2.1 pc = .ok (.ireturn, 1)) (hret : mi.2.2.2 = some ty) (hn : narrow ty (.int v) = .int v) (hk : k (.int v) σ) : jq_R G d mi (jr_k k) pc L [.int v] σ := by
  intro p l e s m args below meth c H locs ls hx hb hml hr hown hlk hts hF hP hS hl
  exact W.zret hx hb (by rw [hr, hret]) hn (fun t ht hW => ⟨⟨some (.int v), σ, rfl, hk, by rw [ht]; exact hP⟩, hS.F ht⟩) hS.2.2 hdg
theorem jq_lreturn {v : Int64} {k : Value → jr_Sg → Prop} (hdg : decode mi.2.1 pc = .ok (.lreturn, 1)) (hret : mi.2.2.2 = some .long) (hk : k (.long v) σ) : jq_R G d mi (jr_k k) pc L [.long v] σ := by
  intro p l e s m args below meth c H locs ls hx hb hml hr hown hlk hts hF hP hS hl
  exact W.lret hx hb (by rw [hr, hret]) (fun t ht hW => ⟨⟨some (.long v), σ, rfl, hk, by rw [ht]; exact hP⟩, hS.F ht⟩) hS.2.2 hdg
theorem jq_areturn {i : Nat} {rt : FieldType} {k : Value → jr_Sg → Prop} (hdg : decode mi.2.1 pc = .ok (.areturn, 1)) (hret : mi.2.2.2 = some rt) (hrt : (∃ n, rt = .object n) ∨ ∃ t, rt = .array t) (hk : k (.ref i) σ) : jq_R G d mi (jr_k k) pc L [.ref i] σ := by
  intro p l e s m args below meth c H locs ls hx hb hml hr hown hlk hts hF hP hS hl
  exact W.aret (v := .ref (G.2.2.1 i)) hx hb (by rw [hr, hret]) hrt (Or.inr ⟨_, rfl⟩) (fun t ht hW => ⟨⟨some (.ref i), σ, rfl, hk, by rw [ht]; exact hP⟩, hS.F ht⟩) hS.2.2 hdg
theorem jq_return {k : jr_Sg → Prop} (hdg : decode mi.2.1 pc = .ok (.return_, 1)) (hret : mi.2.2.2 = none) (hk : k σ) : jq_R G d mi (jr_kv k) pc L [] σ := by
  intro p l e s m args below meth c H locs ls hx hb hml hr hown hlk hts hF hP hS hl
  exact W.vret hx hb (by rw [hr, hret]) (fun t ht hW => ⟨⟨none, σ, rfl, hk, by rw [ht]; exact hP⟩, hS.F ht⟩) hS.2.2 hdg
theorem jq_get {idx ci N k i : Nat} {C : String} {T : u_T} {fl : List (Option Nat)} {o : Option Nat} (hlay : ∀ w ∈ u_ws C T N, w ∈ jr_WL) (hcl : vwCl[ci]? = some (C, T, N)) (hk : k < N) (hTC : (T k).1 = C) (hlink : Cond.fieldLink mi.1.cls idx C (T k).2.1 (T k).2.2.1 ∈ jr_WL) (hsh : (jq_shp G)[i]? = some (.inr (ci, fl))) (ho : fl[k]? = some o) {v : Value} (hv : jr_v G.2.2.1 v = jr_fv G.2.2.1 (σ i k) o) (pc' : Nat) (hdg : decode mi.2.1 pc = .ok (.getfield idx, 3)) (hp : pc + 3 = pc') (kk : jq_R G d mi K pc' L (v :: st) σ) : jq_R G d mi K pc L (.ref i :: st) σ := by
  subst hp
  intro p l e s m args below meth c H locs ls hx hb hml hr hown hlk hts hF hP hS hl
  refine va_get (own := mi.1.cls) (ref := C) (C := C) (T := T) (N := N) (index := idx) hx hb hts (fun w h => hlay w h) hown hF.2.1 hP i (jq_ws_get hsh) hcl k hk (hts _ hlink) (by rw [hTC]; exact fun _ h => h) (v := jr_v G.2.2.1 v) ?_ hdg (kk p l e s m args below meth c H locs ls hx hb hml hr hown hlk hts hF hP hS hl)
  rw [hv]
  simp [List.getElem?_mapIdx, ho]
theorem jq_getI {idx ci N k i : Nat} {C : String} {T : u_T} {fl : List (Option Nat)} (hlay : ∀ w ∈ u_ws C T N, w ∈ jr_WL) (hcl : vwCl[ci]? = some (C, T, N)) (hk : k < N) (hTC : (T k).1 = C) (hlink : Cond.fieldLink mi.1.cls idx C (T k).2.1 (T k).2.2.1 ∈ jr_WL) (hsh : (jq_shp G)[i]? = some (.inr (ci, fl))) (ho : fl[k]? = some none) (pc' : Nat) (hdg : decode mi.2.1 pc = .ok (.getfield idx, 3)) (hp : pc + 3 = pc') (kk : jq_R G d mi K pc' L (.int (σ i k) :: st) σ) : jq_R G d mi K pc L (.ref i :: st) σ := jq_get hlay hcl hk hTC hlink hsh ho (v := .int (σ i k)) rfl pc' hdg hp kk
theorem jq_getR {idx ci N k i j : Nat} {C : String} {T : u_T} {fl : List (Option Nat)} (hlay : ∀ w ∈ u_ws C T N, w ∈ jr_WL) (hcl : vwCl[ci]? = some (C, T, N)) (hk : k < N) (hTC : (T k).1 = C) (hlink : Cond.fieldLink mi.1.cls idx C (T k).2.1 (T k).2.2.1 ∈ jr_WL) (hsh : (jq_shp G)[i]? = some (.inr (ci, fl))) (ho : fl[k]? = some (some j)) (pc' : Nat) (hdg : decode mi.2.1 pc = .ok (.getfield idx, 3)) (hp : pc + 3 = pc') (kk : jq_R G d mi K pc' L (.ref j :: st) σ) : jq_R G d mi K pc L (.ref i :: st) σ := jq_get hlay hcl hk hTC hlink hsh ho (v := .ref j) rfl pc' hdg hp kk
theorem jq_put {idx ci N k i : Nat} {C : String} {T : u_T} {fl : List (Option Nat)} {v : Int32} {ty : FieldType} (hlay : ∀ w ∈ u_ws C T N, w ∈ jr_WL) (hcl : vwCl[ci]? = some (C, T, N)) (ty0 : Nat → FieldType) (hty : ∀ k, k < N → parseFieldDescriptor (T k).2.2.1 = some (ty0 k)) (hnm : ∀ a, a < N → ∀ b, b < N → a ≠ b → (T a).2.1 ≠ (T b).2.1) (hk : k < N) (hTC : (T k).1 = C) (hfin : (T k).2.2.2 = false) (hlink : Cond.fieldLink mi.1.cls idx C (T k).2.1 (T k).2.2.1 ∈ jr_WL) (hd : parseFieldDescriptor (T k).2.2.1 = some ty) (hsh : (jq_shp G)[i]? = some (.inr (ci, fl))) (ho : fl[k]? = some none) (hn : narrow ty (.int v) = .int v) (hfit : fits ty (.int v) = true) (pc' : Nat) (hdg : decode mi.2.1 pc = .ok (.putfield idx, 3)) (hp : pc + 3 = pc') (kk : jq_R G d mi K pc' L st (jr_up σ i k v)) : jq_R G d mi K pc L (.int v :: .ref i :: st) σ := by
  subst hp
  intro p l e s m args below meth c H locs ls hx hb hml hr hown hlk hts hF hP hS hl
  refine va_put (own := mi.1.cls) (ref := C) (C := C) (T := T) (N := N) (index := idx) hx hb hts (fun w h => hlay w h) ty0 hty hnm hown hF.2.1 hP (jq_vaD hF.1) hS i (jq_ws_get hsh) hcl k hk (hts _ hlink) (by rw [hTC]; exact fun _ h => h) hfin hd hn hfit (by have := (List.getElem?_eq_some_iff.mp ho).1; simpa using this) hdg (fun H1 locs1 hP1 hD1 hS1 => kk p l e s m args below meth c H1 locs1 ls hx hb hml hr hown hlk hts hF ?_ hS1 hl)
  have e := jq_ws_set (G := G) (σ := σ) (upd (σ i) k v) hsh
  rw [jr_up_upc, ← e]
  have e2 : jq_cell G (upd (σ i) k v) (.inr (ci, fl)) = .inr (ci, ((fl.mapIdx (fun k o => jr_fv G.2.2.1 (σ i k) o)).set k (.int v))) := by
    rw [jr_fs_set v ho]; rfl
  rw [e2]
  exact hP1
theorem jq_iald {i n k : Nat} {j : Int32} (hsh : (jq_shp G)[i]? = some (.inl n)) (hj : j = nI k) (hk : k < n) (pc' : Nat) (hdg : decode mi.2.1 pc = .ok (.iaload, 1)) (hp : pc + 1 = pc') (kk : jq_R G d mi K pc' L (.int (σ i k) :: st) σ) : jq_R G d mi K pc L (.int j :: .ref i :: st) σ := by
  subst hp
  subst hj
  intro p l e s m args below meth c H locs ls hx hb hml hr hown hlk hts hF hP hS hl
  have hn := hF.1.2 i n hsh
  refine va_iald hx hb hF.2.1 hP i 0 (jq_ws_get hsh) rfl (vp_in_nI hk hn) hdg ?_
  rw [nI_clamp (Nat.lt_trans hk hn)]
  exact kk p l e s m args below meth c H locs ls hx hb hml hr hown hlk hts hF hP hS hl
theorem jq_iast {i n k : Nat} {j v : Int32} (hsh : (jq_shp G)[i]? = some (.inl n)) (hj : j = nI k) (hk : k < n) (pc' : Nat) (hdg : decode mi.2.1 pc = .ok (.iastore, 1)) (hp : pc + 1 = pc') (kk : jq_R G d mi K pc' L st (jr_up σ i k v)) : jq_R G d mi K pc L (.int v :: .int j :: .ref i :: st) σ := by
  subst hp
  subst hj
  intro p l e s m args below meth c H locs ls hx hb hml hr hown hlk hts hF hP hS hl
  have hn := hF.1.2 i n hsh
  refine va_iast hx hb hF.2.1 hP (jq_vaD hF.1) hS i 0 (jq_ws_get hsh) rfl (vp_in_nI hk hn) hdg (fun H1 locs1 hP1 hD1 hS1 => kk p l e s m args below meth c H1 locs1 ls hx hb hml hr hown hlk hts hF ?_ hS1 hl)
  rw [nI_clamp (Nat.lt_trans hk hn)] at hP1
  have e := jq_ws_set (G := G) (σ := σ) (upd (σ i) k v) hsh
  rw [jr_up_upc, ← e]
  exact hP1
theorem jq_alen {i n : Nat} (hsh : (jq_shp G)[i]? = some (.inl n)) (pc' : Nat) (hdg : decode mi.2.1 pc = .ok (.arraylength, 1)) (hp : pc + 1 = pc') (kk : jq_R G d mi K pc' L (.int (nI n) :: st) σ) : jq_R G d mi K pc L (.ref i :: st) σ := by
  subst hp
  intro p l e s m args below meth c H locs ls hx hb hml hr hown hlk hts hF hP hS hl
  exact va_alen hx hb hF.2.1 hP i 0 (jq_ws_get hsh) rfl (v := nI n) rfl hdg (kk p l e s m args below meth c H locs ls hx hb hml hr hown hlk hts hF hP hS hl)
theorem jq_enter {a : List Value} (hy : plainName mi.1.cls = true) (hlen : (jr_ent a).length ≤ mi.2.2.1) (hL : jr_ent a ++ List.replicate (mi.2.2.1 - (jr_ent a).length) none = L) (h : jq_R G d mi K 0 L [] σ) : jq_M G d mi a σ K := by
  subst hL
  intro l
  refine Met.ofW (cc := mi.2.1) (maxL := mi.2.2.1) (ret := mi.2.2.2) hy rfl ?_
  intro p e s m args below meth c s₁ B hml hv
  obtain ⟨rfl, hF, hP⟩ := hv
  have hts := atoms_spec (ws := jr_wsM mi) B.pre
  rw [lg_entry_eq]
  have hlv := lv_entry (a.map (jr_v G.2.2.1)) (n := mi.2.2.1) (by rw [jr_ent_len]; exact hlen)
  refine h p l e s m _ below meth c s.heap [] _ B.exec B.bytes hml B.returns (findClass_of_methodNamed B.named) B.notSynchronized (fun w hw => hts w (List.mem_cons_of_mem _ hw)) hF hP va_S.rf ⟨hlv.1, hlv.2.1, fun k v hk => ?_⟩
  have hk2 : (jr_ent a)[k]? = some (some v) := by
    by_cases hlt : k < (jr_ent a).length
    · rw [List.getElem?_append_left hlt] at hk
      exact hk
    · rw [List.getElem?_append_right (Nat.le_of_not_lt hlt), List.getElem?_replicate] at hk
      split at hk <;> cases hk
  have hm := jr_ent_args G.2.2.1 a 0 k v hk2
  rw [Nat.zero_add] at hm
  exact hlv.2.2 _ hm
theorem jq_M_mono {y : jr_MI} {a : List Value} {K' : Option Value → jr_Sg → Prop} (hK : ∀ v σ', K v σ' → K' v σ') (h : jq_M G d y a σ K) : jq_M G d y a σ K' := by
  intro l p e ha hc hk s m args below hf hap hpre hq
  obtain ⟨k, o, h1, h2, h3, ⟨⟨⟨v, σ', q1, q2, q3⟩, q4⟩, q5⟩⟩ := h l p e ha hc hk s m args below hf hap hpre hq
  exact ⟨k, o, h1, h2, h3, ⟨⟨⟨v, σ', q1, hK v σ' q2, q3⟩, q4⟩, q5⟩⟩
theorem jq_blind {a : List Value} : FrameBlind (va_Pc (a.map (jr_v G.2.2.1)) (fun U => jq_F G U U.heap ∧ va_P G.1 vwCl (jq_ws G σ) U.heap)) := by
  intro a U g mk q
  obtain ⟨q0, q1, q2⟩ := q
  exact ⟨q0, jq_F.same (u := U) rfl q1, q2⟩
theorem jq_after {p : Program} {l : Launch} {e : Env} {s : State} {m : MethodId} {args : Array Value} {below : List Frame} {meth : Method} {c : Code} {H : Heap} {locs : List Loc} {ls : Array Slot} {a0 : Array Value} {st0 : List Value} {rest : List Value} {pc' : Nat} (hp : pc + 3 = pc')
    (hrun : va_Run p l e (jr_room (d + 1)) s m args below meth c H locs 0 0 0 0 (F0 m pc ls st0) (rest.map (jr_v G.2.2.1)) (jq_Q G (fun v σ' => jq_R G (d + 1) mi K pc' L (v.toList ++ rest) σ') a0) (jq_A G))
    (hx : p.tables.exec = Jvm.exec) (hb : c.code = mi.2.1) (hml : c.maxLocals = mi.2.2.1) (hr : meth.sig.returnType = mi.2.2.2) (hown : s.vm.findClass mi.1.cls = some m.cls) (hlk : meth.locks = false) (hts : ∀ w ∈ jr_WL, w.before args s = true) (hF : jq_F G s s.heap) (hS : va_S (jq_A G) s.heap H locs) (hl : jr_L G.2.2.1 ls mi.2.2.1 L) :
    W p l e (jr_room (d + 1)) s m args below meth c H locs 0 0 (MQ below (jq_Q G K) args s 0 0 (jq_A G)) (F0 m pc ls st0) := by
  subst hp
  intro T hT X
  obtain ⟨v, st₀, t, T', L1, h0, X', hL1, e1, e2, ⟨⟨v', σ', hv, hK', hP'⟩, hz, hk⟩, st'⟩ := hrun T hT X
  cases hv
  rw [h0] at hz hk
  have hS1 : va_S (jq_A G) s.heap T'.heap (locs ++ L1) := ⟨Nat.le_trans hS.1 (by rw [e1]; exact hz), fun q h1 h2 => by rw [e1, hk q (Nat.lt_of_lt_of_le h1 hS.1) h2]; exact hS.2.1 q h1 h2, fun q hq => by
    rcases List.mem_append.mp hq with h | h
    · exact hS.2.2 q h
    · exact hL1 q h⟩
  have h2 := hK' p l e s m args below meth c T'.heap (locs ++ L1) ls hx hb hml hr hown hlk hts hF (by rw [e1]; exact hP') hS1 hl T' rfl X'
  obtain ⟨t2, a1, b1⟩ := h2
  refine ⟨t2, st' t2 ?_, b1⟩
  have e3 : (v'.map (jr_v G.2.2.1)).toList ++ rest.map (jr_v G.2.2.1) = (v'.toList ++ rest).map (jr_v G.2.2.1) := by cases v' <;> simp
  show Steps p.tables e below (T'.setTop (F0 m (pc + 3) ls ((v'.map (jr_v G.2.2.1)).toList ++ rest.map (jr_v G.2.2.1)))) t2
  rw [e3]
  exact a1
theorem jq_cats {rest : List Value} (h : (rest.map fun v => v.category).sum ≤ 8) : ((rest.map (jr_v G.2.2.1)).map fun v => v.category).sum ≤ 8 := by
  rw [List.map_map]
  have e : ((fun v : Value => v.category) ∘ jr_v G.2.2.1) = fun v => v.category := by funext v; exact jr_v_cat _ v
  rw [e]
  exact h
theorem jq_callV {y : jr_MI} {idx n ci N i : Nat} {T : u_T} {fl : List (Option Nat)} {As rest : List Value} (ok : jr_okV mi.1.cls idx y n) (hcl : vwCl[ci]? = some (y.1.cls, T, N)) (hsh : (jq_shp G)[i]? = some (.inr (ci, fl))) (hn : As.length = n) (hst : (rest.map fun v => v.category).sum ≤ 8) (pc' : Nat) (hdg : decode mi.2.1 pc = .ok (.invokevirtual idx, 3)) (hp : pc + 3 = pc') (hs : st = As.reverse ++ .ref i :: rest) (hM : jq_M G d y (.ref i :: As) σ (fun v σ' => jq_R G (d + 1) mi K pc' L (v.toList ++ rest) σ')) : jq_R G (d + 1) mi K pc L st σ := by
  subst hs
  intro p l e s m args below meth c H locs ls hx hb hml hr hown hlk hts hF hP hS hl
  have hF2 : jq_F G s H := hF.kept hS
  obtain ⟨⟨o1, o2, o3, o4, o5⟩, o6, o7⟩ := ok
  have hG : GoodIn jr_WL (wsV mi.1.cls idx y.1.cls y.1 (jr_wsM y)) := by
    intro w hw
    rcases List.mem_append.mp hw with h | h
    · have h1 : w ∈ jr_WL := by
        simp only [List.mem_cons, List.not_mem_nil, or_false] at h
        rcases h with rfl | rfl | rfl | rfl <;> assumption
      exact ⟨h1, good_of_word (jr_wl_good h1)⟩
    · exact jr_goodIn o5 w h
  exact jq_after hp (va_runV (As := As.map (jr_v G.2.2.1)) (rest := rest.map (jr_v G.2.2.1)) (b := G.2.2.1 i) ⟨hx, hb, hml, hown, hts⟩ (hM l) (cwV n hts hG rfl rfl rfl ⟨rfl, o6⟩ (jr_room_ok o7))
    ⟨jq_blind, va_recv hF2.2.1 hP hcl (jq_ws_get hsh), fun U hU hW => ⟨rfl, by rw [hU]; exact hF2.warm hW, by rw [hU]; exact hP⟩⟩ rfl (by rw [List.length_map]; exact hn) hl.1 (by simp [jr_v]) (lv_room (jq_cats hst)) hdg ⟨Nat.le_refl _, Nat.le_refl _⟩) hx hb hml hr hown hlk hts hF hS hl
theorem jq_callS {y : jr_MI} {idx n : Nat} {As rest : List Value} (ok : jr_okS mi.1.cls idx y n) (hn : As.length = n) (hst : (rest.map fun v => v.category).sum ≤ 8) (pc' : Nat) (hdg : decode mi.2.1 pc = .ok (.invokestatic idx, 3)) (hp : pc + 3 = pc') (hs : st = As.reverse ++ rest) (hM : jq_M G d y As σ (fun v σ' => jq_R G (d + 1) mi K pc' L (v.toList ++ rest) σ')) : jq_R G (d + 1) mi K pc L st σ := by
  subst hs
  intro p l e s m args below meth c H locs ls hx hb hml hr hown hlk hts hF hP hS hl
  have hF2 : jq_F G s H := hF.kept hS
  obtain ⟨⟨o1, o2, o3, o4⟩, o6, o7⟩ := ok
  have hG : GoodIn jr_WL (va_wsS mi.1.cls idx y.1 (jr_wsM y)) := by
    intro w hw
    rcases List.mem_append.mp hw with h | h
    · have h1 : w ∈ jr_WL := by
        simp only [List.mem_cons, List.not_mem_nil, or_false] at h
        rcases h with rfl | rfl | rfl <;> assumption
      exact ⟨h1, good_of_word (jr_wl_good h1)⟩
    · exact jr_goodIn o4 w h
  exact jq_after hp (va_runS (As := As.map (jr_v G.2.2.1)) (rest := rest.map (jr_v G.2.2.1)) ⟨hx, hb, hml, hown, hts⟩ (hM l) (va_cwS n hts hG rfl rfl rfl o6 (jr_room_ok o7))
    ⟨jq_blind, fun U hU hW => ⟨rfl, by rw [hU]; exact hF2.warm hW, by rw [hU]; exact hP⟩⟩ rfl (by rw [List.length_map]; exact hn) hl.1 (by simp) (lv_room (jq_cats hst)) hdg ⟨Nat.le_refl _, Nat.le_refl _⟩) hx hb hml hr hown hlk hts hF hS hl
end GRULES

theorem qf_X6_9 {G : jq_G} {d : Nat} {mi : jr_MI} {K : Option Value → jr_Sg → Prop} {pc : Nat} {L : List (Option Value)} {st : List Value} {σ : jr_Sg} {i : Nat} {fl : List (Option Nat)} {j : Nat} (pc' : Nat) (hdg : decode mi.2.1 pc = .ok (.getfield 9, 3)) (hp : pc + 3 = pc') (hm : mi.1.cls = RX6) (hsh : (jq_shp G)[i]? = some (.inr (5, fl))) (ho : fl[0]? = some (some j)) (kk : jq_R G d mi K pc' L (.ref j :: st) σ) : jq_R G d mi K pc L (.ref i :: st) σ := jq_getR (k := 0) lay_X6 (ci := 5) rfl (by decide) rfl (by rw [hm]; exact fl_X6_9) hsh ho pc' hdg hp kk
theorem qf_X6_15 {G : jq_G} {d : Nat} {mi : jr_MI} {K : Option Value → jr_Sg → Prop} {pc : Nat} {L : List (Option Value)} {st : List Value} {σ : jr_Sg} {i : Nat} {fl : List (Option Nat)} {j : Nat} (pc' : Nat) (hdg : decode mi.2.1 pc = .ok (.getfield 15, 3)) (hp : pc + 3 = pc') (hm : mi.1.cls = RX6) (hsh : (jq_shp G)[i]? = some (.inr (5, fl))) (ho : fl[1]? = some (some j)) (kk : jq_R G d mi K pc' L (.ref j :: st) σ) : jq_R G d mi K pc L (.ref i :: st) σ := jq_getR (k := 1) lay_X6 (ci := 5) rfl (by decide) rfl (by rw [hm]; exact fl_X6_15) hsh ho pc' hdg hp kk
theorem qf_X6_18 {G : jq_G} {d : Nat} {mi : jr_MI} {K : Option Value → jr_Sg → Prop} {pc : Nat} {L : List (Option Value)} {st : List Value} {σ : jr_Sg} {i : Nat} {fl : List (Option Nat)} {j : Nat} (pc' : Nat) (hdg : decode mi.2.1 pc = .ok (.getfield 18, 3)) (hp : pc + 3 = pc') (hm : mi.1.cls = RX6) (hsh : (jq_shp G)[i]? = some (.inr (5, fl))) (ho : fl[2]? = some (some j)) (kk : jq_R G d mi K pc' L (.ref j :: st) σ) : jq_R G d mi K pc L (.ref i :: st) σ := jq_getR (k := 2) lay_X6 (ci := 5) rfl (by decide) rfl (by rw [hm]; exact fl_X6_18) hsh ho pc' hdg hp kk
theorem qf_X6_21 {G : jq_G} {d : Nat} {mi : jr_MI} {K : Option Value → jr_Sg → Prop} {pc : Nat} {L : List (Option Value)} {st : List Value} {σ : jr_Sg} {i : Nat} {fl : List (Option Nat)} (pc' : Nat) (hdg : decode mi.2.1 pc = .ok (.getfield 21, 3)) (hp : pc + 3 = pc') (hm : mi.1.cls = RX6) (hsh : (jq_shp G)[i]? = some (.inr (5, fl))) (ho : fl[3]? = some none) (kk : jq_R G d mi K pc' L (.int (σ i 3) :: st) σ) : jq_R G d mi K pc L (.ref i :: st) σ := jq_getI (k := 3) lay_X6 (ci := 5) rfl (by decide) rfl (by rw [hm]; exact fl_X6_21) hsh ho pc' hdg hp kk
theorem qp_X6_21 {G : jq_G} {d : Nat} {mi : jr_MI} {K : Option Value → jr_Sg → Prop} {pc : Nat} {L : List (Option Value)} {st : List Value} {σ : jr_Sg} {i : Nat} {fl : List (Option Nat)} {v : Int32} (pc' : Nat) (hdg : decode mi.2.1 pc = .ok (.putfield 21, 3)) (hp : pc + 3 = pc') (hm : mi.1.cls = RX6) (hsh : (jq_shp G)[i]? = some (.inr (5, fl))) (ho : fl[3]? = some none) (kk : jq_R G d mi K pc' L st (jr_up σ i 3 v)) : jq_R G d mi K pc L (.int v :: .ref i :: st) σ := jq_put (k := 3) (ty := .int) lay_X6 (ci := 5) rfl tyX6 tyX6_ok nmX6 (by decide) rfl rfl (by rw [hm]; exact fl_X6_21) (by decide +kernel) hsh ho rfl rfl pc' hdg hp kk
theorem qf_X6_25 {G : jq_G} {d : Nat} {mi : jr_MI} {K : Option Value → jr_Sg → Prop} {pc : Nat} {L : List (Option Value)} {st : List Value} {σ : jr_Sg} {i : Nat} {fl : List (Option Nat)} (pc' : Nat) (hdg : decode mi.2.1 pc = .ok (.getfield 25, 3)) (hp : pc + 3 = pc') (hm : mi.1.cls = RX6) (hsh : (jq_shp G)[i]? = some (.inr (5, fl))) (ho : fl[4]? = some none) (kk : jq_R G d mi K pc' L (.int (σ i 4) :: st) σ) : jq_R G d mi K pc L (.ref i :: st) σ := jq_getI (k := 4) lay_X6 (ci := 5) rfl (by decide) rfl (by rw [hm]; exact fl_X6_25) hsh ho pc' hdg hp kk
theorem qp_X6_25 {G : jq_G} {d : Nat} {mi : jr_MI} {K : Option Value → jr_Sg → Prop} {pc : Nat} {L : List (Option Value)} {st : List Value} {σ : jr_Sg} {i : Nat} {fl : List (Option Nat)} {v : Int32} (pc' : Nat) (hdg : decode mi.2.1 pc = .ok (.putfield 25, 3)) (hp : pc + 3 = pc') (hm : mi.1.cls = RX6) (hsh : (jq_shp G)[i]? = some (.inr (5, fl))) (ho : fl[4]? = some none) (kk : jq_R G d mi K pc' L st (jr_up σ i 4 v)) : jq_R G d mi K pc L (.int v :: .ref i :: st) σ := jq_put (k := 4) (ty := .int) lay_X6 (ci := 5) rfl tyX6 tyX6_ok nmX6 (by decide) rfl rfl (by rw [hm]; exact fl_X6_25) (by decide +kernel) hsh ho rfl rfl pc' hdg hp kk
theorem qf_X2_36 {G : jq_G} {d : Nat} {mi : jr_MI} {K : Option Value → jr_Sg → Prop} {pc : Nat} {L : List (Option Value)} {st : List Value} {σ : jr_Sg} {i : Nat} {fl : List (Option Nat)} {j : Nat} (pc' : Nat) (hdg : decode mi.2.1 pc = .ok (.getfield 36, 3)) (hp : pc + 3 = pc') (hm : mi.1.cls = RX2) (hsh : (jq_shp G)[i]? = some (.inr (1, fl))) (ho : fl[0]? = some (some j)) (kk : jq_R G d mi K pc' L (.ref j :: st) σ) : jq_R G d mi K pc L (.ref i :: st) σ := jq_getR (k := 0) lay_X2 (ci := 1) rfl (by decide) rfl (by rw [hm]; exact fl_X2_36) hsh ho pc' hdg hp kk
theorem qf_X2_9 {G : jq_G} {d : Nat} {mi : jr_MI} {K : Option Value → jr_Sg → Prop} {pc : Nat} {L : List (Option Value)} {st : List Value} {σ : jr_Sg} {i : Nat} {fl : List (Option Nat)} {j : Nat} (pc' : Nat) (hdg : decode mi.2.1 pc = .ok (.getfield 9, 3)) (hp : pc + 3 = pc') (hm : mi.1.cls = RX2) (hsh : (jq_shp G)[i]? = some (.inr (1, fl))) (ho : fl[1]? = some (some j)) (kk : jq_R G d mi K pc' L (.ref j :: st) σ) : jq_R G d mi K pc L (.ref i :: st) σ := jq_getR (k := 1) lay_X2 (ci := 1) rfl (by decide) rfl (by rw [hm]; exact fl_X2_9) hsh ho pc' hdg hp kk
theorem qf_X2_15 {G : jq_G} {d : Nat} {mi : jr_MI} {K : Option Value → jr_Sg → Prop} {pc : Nat} {L : List (Option Value)} {st : List Value} {σ : jr_Sg} {i : Nat} {fl : List (Option Nat)} (pc' : Nat) (hdg : decode mi.2.1 pc = .ok (.getfield 15, 3)) (hp : pc + 3 = pc') (hm : mi.1.cls = RX2) (hsh : (jq_shp G)[i]? = some (.inr (1, fl))) (ho : fl[2]? = some none) (kk : jq_R G d mi K pc' L (.int (σ i 2) :: st) σ) : jq_R G d mi K pc L (.ref i :: st) σ := jq_getI (k := 2) lay_X2 (ci := 1) rfl (by decide) rfl (by rw [hm]; exact fl_X2_15) hsh ho pc' hdg hp kk
theorem qp_X2_15 {G : jq_G} {d : Nat} {mi : jr_MI} {K : Option Value → jr_Sg → Prop} {pc : Nat} {L : List (Option Value)} {st : List Value} {σ : jr_Sg} {i : Nat} {fl : List (Option Nat)} {v : Int32} (pc' : Nat) (hdg : decode mi.2.1 pc = .ok (.putfield 15, 3)) (hp : pc + 3 = pc') (hm : mi.1.cls = RX2) (hsh : (jq_shp G)[i]? = some (.inr (1, fl))) (ho : fl[2]? = some none) (kk : jq_R G d mi K pc' L st (jr_up σ i 2 v)) : jq_R G d mi K pc L (.int v :: .ref i :: st) σ := jq_put (k := 2) (ty := .int) lay_X2 (ci := 1) rfl tyX2 tyX2_ok nmX2 (by decide) rfl rfl (by rw [hm]; exact fl_X2_15) (by decide +kernel) hsh ho rfl rfl pc' hdg hp kk
theorem qf_X2_21 {G : jq_G} {d : Nat} {mi : jr_MI} {K : Option Value → jr_Sg → Prop} {pc : Nat} {L : List (Option Value)} {st : List Value} {σ : jr_Sg} {i : Nat} {fl : List (Option Nat)} (pc' : Nat) (hdg : decode mi.2.1 pc = .ok (.getfield 21, 3)) (hp : pc + 3 = pc') (hm : mi.1.cls = RX2) (hsh : (jq_shp G)[i]? = some (.inr (1, fl))) (ho : fl[3]? = some none) (kk : jq_R G d mi K pc' L (.int (σ i 3) :: st) σ) : jq_R G d mi K pc L (.ref i :: st) σ := jq_getI (k := 3) lay_X2 (ci := 1) rfl (by decide) rfl (by rw [hm]; exact fl_X2_21) hsh ho pc' hdg hp kk
theorem qp_X2_21 {G : jq_G} {d : Nat} {mi : jr_MI} {K : Option Value → jr_Sg → Prop} {pc : Nat} {L : List (Option Value)} {st : List Value} {σ : jr_Sg} {i : Nat} {fl : List (Option Nat)} {v : Int32} (pc' : Nat) (hdg : decode mi.2.1 pc = .ok (.putfield 21, 3)) (hp : pc + 3 = pc') (hm : mi.1.cls = RX2) (hsh : (jq_shp G)[i]? = some (.inr (1, fl))) (ho : fl[3]? = some none) (kk : jq_R G d mi K pc' L st (jr_up σ i 3 v)) : jq_R G d mi K pc L (.int v :: .ref i :: st) σ := jq_put (k := 3) (ty := .int) lay_X2 (ci := 1) rfl tyX2 tyX2_ok nmX2 (by decide) rfl rfl (by rw [hm]; exact fl_X2_21) (by decide +kernel) hsh ho rfl rfl pc' hdg hp kk
theorem qf_X2_24 {G : jq_G} {d : Nat} {mi : jr_MI} {K : Option Value → jr_Sg → Prop} {pc : Nat} {L : List (Option Value)} {st : List Value} {σ : jr_Sg} {i : Nat} {fl : List (Option Nat)} (pc' : Nat) (hdg : decode mi.2.1 pc = .ok (.getfield 24, 3)) (hp : pc + 3 = pc') (hm : mi.1.cls = RX2) (hsh : (jq_shp G)[i]? = some (.inr (1, fl))) (ho : fl[4]? = some none) (kk : jq_R G d mi K pc' L (.int (σ i 4) :: st) σ) : jq_R G d mi K pc L (.ref i :: st) σ := jq_getI (k := 4) lay_X2 (ci := 1) rfl (by decide) rfl (by rw [hm]; exact fl_X2_24) hsh ho pc' hdg hp kk
theorem qp_X2_24 {G : jq_G} {d : Nat} {mi : jr_MI} {K : Option Value → jr_Sg → Prop} {pc : Nat} {L : List (Option Value)} {st : List Value} {σ : jr_Sg} {i : Nat} {fl : List (Option Nat)} {v : Int32} (pc' : Nat) (hdg : decode mi.2.1 pc = .ok (.putfield 24, 3)) (hp : pc + 3 = pc') (hm : mi.1.cls = RX2) (hsh : (jq_shp G)[i]? = some (.inr (1, fl))) (ho : fl[4]? = some none) (kk : jq_R G d mi K pc' L st (jr_up σ i 4 v)) : jq_R G d mi K pc L (.int v :: .ref i :: st) σ := jq_put (k := 4) (ty := .int) lay_X2 (ci := 1) rfl tyX2 tyX2_ok nmX2 (by decide) rfl rfl (by rw [hm]; exact fl_X2_24) (by decide +kernel) hsh ho rfl rfl pc' hdg hp kk
theorem qf_X2_27 {G : jq_G} {d : Nat} {mi : jr_MI} {K : Option Value → jr_Sg → Prop} {pc : Nat} {L : List (Option Value)} {st : List Value} {σ : jr_Sg} {i : Nat} {fl : List (Option Nat)} (pc' : Nat) (hdg : decode mi.2.1 pc = .ok (.getfield 27, 3)) (hp : pc + 3 = pc') (hm : mi.1.cls = RX2) (hsh : (jq_shp G)[i]? = some (.inr (1, fl))) (ho : fl[5]? = some none) (kk : jq_R G d mi K pc' L (.int (σ i 5) :: st) σ) : jq_R G d mi K pc L (.ref i :: st) σ := jq_getI (k := 5) lay_X2 (ci := 1) rfl (by decide) rfl (by rw [hm]; exact fl_X2_27) hsh ho pc' hdg hp kk
theorem qp_X2_27 {G : jq_G} {d : Nat} {mi : jr_MI} {K : Option Value → jr_Sg → Prop} {pc : Nat} {L : List (Option Value)} {st : List Value} {σ : jr_Sg} {i : Nat} {fl : List (Option Nat)} {v : Int32} (pc' : Nat) (hdg : decode mi.2.1 pc = .ok (.putfield 27, 3)) (hp : pc + 3 = pc') (hm : mi.1.cls = RX2) (hsh : (jq_shp G)[i]? = some (.inr (1, fl))) (ho : fl[5]? = some none) (kk : jq_R G d mi K pc' L st (jr_up σ i 5 v)) : jq_R G d mi K pc L (.int v :: .ref i :: st) σ := jq_put (k := 5) (ty := .int) lay_X2 (ci := 1) rfl tyX2 tyX2_ok nmX2 (by decide) rfl rfl (by rw [hm]; exact fl_X2_27) (by decide +kernel) hsh ho rfl rfl pc' hdg hp kk
theorem qf_X2_30 {G : jq_G} {d : Nat} {mi : jr_MI} {K : Option Value → jr_Sg → Prop} {pc : Nat} {L : List (Option Value)} {st : List Value} {σ : jr_Sg} {i : Nat} {fl : List (Option Nat)} (pc' : Nat) (hdg : decode mi.2.1 pc = .ok (.getfield 30, 3)) (hp : pc + 3 = pc') (hm : mi.1.cls = RX2) (hsh : (jq_shp G)[i]? = some (.inr (1, fl))) (ho : fl[6]? = some none) (kk : jq_R G d mi K pc' L (.int (σ i 6) :: st) σ) : jq_R G d mi K pc L (.ref i :: st) σ := jq_getI (k := 6) lay_X2 (ci := 1) rfl (by decide) rfl (by rw [hm]; exact fl_X2_30) hsh ho pc' hdg hp kk
theorem qp_X2_30 {G : jq_G} {d : Nat} {mi : jr_MI} {K : Option Value → jr_Sg → Prop} {pc : Nat} {L : List (Option Value)} {st : List Value} {σ : jr_Sg} {i : Nat} {fl : List (Option Nat)} {v : Int32} (pc' : Nat) (hdg : decode mi.2.1 pc = .ok (.putfield 30, 3)) (hp : pc + 3 = pc') (hm : mi.1.cls = RX2) (hsh : (jq_shp G)[i]? = some (.inr (1, fl))) (ho : fl[6]? = some none) (kk : jq_R G d mi K pc' L st (jr_up σ i 6 v)) : jq_R G d mi K pc L (.int v :: .ref i :: st) σ := jq_put (k := 6) (ty := .int) lay_X2 (ci := 1) rfl tyX2 tyX2_ok nmX2 (by decide) rfl rfl (by rw [hm]; exact fl_X2_30) (by decide +kernel) hsh ho rfl rfl pc' hdg hp kk
theorem qf_X2_33 {G : jq_G} {d : Nat} {mi : jr_MI} {K : Option Value → jr_Sg → Prop} {pc : Nat} {L : List (Option Value)} {st : List Value} {σ : jr_Sg} {i : Nat} {fl : List (Option Nat)} (pc' : Nat) (hdg : decode mi.2.1 pc = .ok (.getfield 33, 3)) (hp : pc + 3 = pc') (hm : mi.1.cls = RX2) (hsh : (jq_shp G)[i]? = some (.inr (1, fl))) (ho : fl[7]? = some none) (kk : jq_R G d mi K pc' L (.int (σ i 7) :: st) σ) : jq_R G d mi K pc L (.ref i :: st) σ := jq_getI (k := 7) lay_X2 (ci := 1) rfl (by decide) rfl (by rw [hm]; exact fl_X2_33) hsh ho pc' hdg hp kk
theorem qp_X2_33 {G : jq_G} {d : Nat} {mi : jr_MI} {K : Option Value → jr_Sg → Prop} {pc : Nat} {L : List (Option Value)} {st : List Value} {σ : jr_Sg} {i : Nat} {fl : List (Option Nat)} {v : Int32} (pc' : Nat) (hdg : decode mi.2.1 pc = .ok (.putfield 33, 3)) (hp : pc + 3 = pc') (hm : mi.1.cls = RX2) (hsh : (jq_shp G)[i]? = some (.inr (1, fl))) (ho : fl[7]? = some none) (kk : jq_R G d mi K pc' L st (jr_up σ i 7 v)) : jq_R G d mi K pc L (.int v :: .ref i :: st) σ := jq_put (k := 7) (ty := .int) lay_X2 (ci := 1) rfl tyX2 tyX2_ok nmX2 (by decide) rfl rfl (by rw [hm]; exact fl_X2_33) (by decide +kernel) hsh ho rfl rfl pc' hdg hp kk
theorem jq_k_to {G : jq_G} {d : Nat} {mi : jr_MI} {K : Option Value → jr_Sg → Prop} {pc : Nat} {L : List (Option Value)} {rest : List Value} : ∀ (v : Option Value) (σ : jr_Sg), jr_k (fun x σ' => jq_R G d mi K pc L (x :: rest) σ') v σ → jq_R G d mi K pc L (v.toList ++ rest) σ
  | some _, _, h => h
  | none, _, h => False.elim h
theorem jq_kv_to {G : jq_G} {d : Nat} {mi : jr_MI} {K : Option Value → jr_Sg → Prop} {pc : Nat} {L : List (Option Value)} {rest : List Value} : ∀ (v : Option Value) (σ : jr_Sg), jr_kv (fun σ' => jq_R G d mi K pc L rest σ') v σ → jq_R G d mi K pc L (v.toList ++ rest) σ
  | none, _, h => h
  | some _, _, h => False.elim h
theorem qs_J0_495 {G : jq_G} {d : Nat} {mi : jr_MI} {K : Option Value → jr_Sg → Prop} {pc : Nat} {L : List (Option Value)} {rest : List Value} {σ : jr_Sg} {a1 a2 : Value} (pc' : Nat) (hdg : decode mi.2.1 pc = .ok (.invokestatic 495, 3)) (hp : pc + 3 = pc') (hm : mi.1.cls = RJ0) (hst : (rest.map fun v => v.category).sum ≤ 8) (hM : jq_M G d mi_J1_charAt_3b067 [a1, a2] σ (jr_k (fun x σ' => jq_R G (d + 1) mi K pc' L (x :: rest) σ'))) : jq_R G (d + 1) mi K pc L (a2 :: a1 :: rest) σ := jq_callS (As := [a1, a2]) (y := mi_J1_charAt_3b067) (by rw [hm]; exact ok_J0_495) rfl hst pc' hdg hp rfl (jq_M_mono jq_k_to hM)
theorem qs_J1_9 {G : jq_G} {d : Nat} {mi : jr_MI} {K : Option Value → jr_Sg → Prop} {pc : Nat} {L : List (Option Value)} {rest : List Value} {σ : jr_Sg} {a1 a2 : Value} (pc' : Nat) (hdg : decode mi.2.1 pc = .ok (.invokestatic 9, 3)) (hp : pc + 3 = pc') (hm : mi.1.cls = RJ1) (hst : (rest.map fun v => v.category).sum ≤ 8) (hM : jq_M G d mi_J0_checkIndex_df160 [a1, a2] σ (jr_kv (fun σ' => jq_R G (d + 1) mi K pc' L rest σ'))) : jq_R G (d + 1) mi K pc L (a2 :: a1 :: rest) σ := jq_callS (As := [a1, a2]) (y := mi_J0_checkIndex_df160) (by rw [hm]; exact ok_J1_9) rfl hst pc' hdg hp rfl (jq_M_mono jq_kv_to hM)
theorem qs_J0_1059 {G : jq_G} {d : Nat} {mi : jr_MI} {K : Option Value → jr_Sg → Prop} {pc : Nat} {L : List (Option Value)} {rest : List Value} {σ : jr_Sg} {a1 a2 a3 : Value} (pc' : Nat) (hdg : decode mi.2.1 pc = .ok (.invokestatic 1059, 3)) (hp : pc + 3 = pc') (hm : mi.1.cls = RJ0) (hst : (rest.map fun v => v.category).sum ≤ 8) (hM : jq_M G d mi_J3_checkIndex_8e157 [a1, a2, a3] σ (jr_k (fun x σ' => jq_R G (d + 1) mi K pc' L (x :: rest) σ'))) : jq_R G (d + 1) mi K pc L (a3 :: a2 :: a1 :: rest) σ := jq_callS (As := [a1, a2, a3]) (y := mi_J3_checkIndex_8e157) (by rw [hm]; exact ok_J0_1059) rfl hst pc' hdg hp rfl (jq_M_mono jq_k_to hM)
theorem qs_J0_498 {G : jq_G} {d : Nat} {mi : jr_MI} {K : Option Value → jr_Sg → Prop} {pc : Nat} {L : List (Option Value)} {rest : List Value} {σ : jr_Sg} {a1 a2 : Value} (pc' : Nat) (hdg : decode mi.2.1 pc = .ok (.invokestatic 498, 3)) (hp : pc + 3 = pc') (hm : mi.1.cls = RJ0) (hst : (rest.map fun v => v.category).sum ≤ 8) (hM : jq_M G d mi_J2_charAt_3b067 [a1, a2] σ (jr_k (fun x σ' => jq_R G (d + 1) mi K pc' L (x :: rest) σ'))) : jq_R G (d + 1) mi K pc L (a2 :: a1 :: rest) σ := jq_callS (As := [a1, a2]) (y := mi_J2_charAt_3b067) (by rw [hm]; exact ok_J0_498) rfl hst pc' hdg hp rfl (jq_M_mono jq_k_to hM)
theorem qs_J2_67 {G : jq_G} {d : Nat} {mi : jr_MI} {K : Option Value → jr_Sg → Prop} {pc : Nat} {L : List (Option Value)} {rest : List Value} {σ : jr_Sg} {a1 a2 : Value} (pc' : Nat) (hdg : decode mi.2.1 pc = .ok (.invokestatic 67, 3)) (hp : pc + 3 = pc') (hm : mi.1.cls = RJ2) (hst : (rest.map fun v => v.category).sum ≤ 8) (hM : jq_M G d mi_J2_checkIndex_2214a [a1, a2] σ (jr_kv (fun σ' => jq_R G (d + 1) mi K pc' L rest σ'))) : jq_R G (d + 1) mi K pc L (a2 :: a1 :: rest) σ := jq_callS (As := [a1, a2]) (y := mi_J2_checkIndex_2214a) (by rw [hm]; exact ok_J2_67) rfl hst pc' hdg hp rfl (jq_M_mono jq_kv_to hM)
theorem qs_J2_48 {G : jq_G} {d : Nat} {mi : jr_MI} {K : Option Value → jr_Sg → Prop} {pc : Nat} {L : List (Option Value)} {rest : List Value} {σ : jr_Sg} {a1 : Value} (pc' : Nat) (hdg : decode mi.2.1 pc = .ok (.invokestatic 48, 3)) (hp : pc + 3 = pc') (hm : mi.1.cls = RJ2) (hst : (rest.map fun v => v.category).sum ≤ 8) (hM : jq_M G d mi_J2_length_9d52b [a1] σ (jr_k (fun x σ' => jq_R G (d + 1) mi K pc' L (x :: rest) σ'))) : jq_R G (d + 1) mi K pc L (a1 :: rest) σ := jq_callS (As := [a1]) (y := mi_J2_length_9d52b) (by rw [hm]; exact ok_J2_48) rfl hst pc' hdg hp rfl (jq_M_mono jq_k_to hM)
theorem qs_J2_414 {G : jq_G} {d : Nat} {mi : jr_MI} {K : Option Value → jr_Sg → Prop} {pc : Nat} {L : List (Option Value)} {rest : List Value} {σ : jr_Sg} {a1 a2 : Value} (pc' : Nat) (hdg : decode mi.2.1 pc = .ok (.invokestatic 414, 3)) (hp : pc + 3 = pc') (hm : mi.1.cls = RJ2) (hst : (rest.map fun v => v.category).sum ≤ 8) (hM : jq_M G d mi_J0_checkIndex_df160 [a1, a2] σ (jr_kv (fun σ' => jq_R G (d + 1) mi K pc' L rest σ'))) : jq_R G (d + 1) mi K pc L (a2 :: a1 :: rest) σ := jq_callS (As := [a1, a2]) (y := mi_J0_checkIndex_df160) (by rw [hm]; exact ok_J2_414) rfl hst pc' hdg hp rfl (jq_M_mono jq_kv_to hM)
theorem qs_J2_71 {G : jq_G} {d : Nat} {mi : jr_MI} {K : Option Value → jr_Sg → Prop} {pc : Nat} {L : List (Option Value)} {rest : List Value} {σ : jr_Sg} {a1 a2 : Value} (pc' : Nat) (hdg : decode mi.2.1 pc = .ok (.invokestatic 71, 3)) (hp : pc + 3 = pc') (hm : mi.1.cls = RJ2) (hst : (rest.map fun v => v.category).sum ≤ 8) (hM : jq_M G d mi_J2_getChar_3b067 [a1, a2] σ (jr_k (fun x σ' => jq_R G (d + 1) mi K pc' L (x :: rest) σ'))) : jq_R G (d + 1) mi K pc L (a2 :: a1 :: rest) σ := jq_callS (As := [a1, a2]) (y := mi_J2_getChar_3b067) (by rw [hm]; exact ok_J2_71) rfl hst pc' hdg hp rfl (jq_M_mono jq_k_to hM)
theorem qs_X2_40 {G : jq_G} {d : Nat} {mi : jr_MI} {K : Option Value → jr_Sg → Prop} {pc : Nat} {L : List (Option Value)} {rest : List Value} {σ : jr_Sg} {i : Nat} {fl : List (Option Nat)} (pc' : Nat) (hdg : decode mi.2.1 pc = .ok (.invokevirtual 40, 3)) (hp : pc + 3 = pc') (hm : mi.1.cls = RX2) (hsh : (jq_shp G)[i]? = some (.inr (5, fl))) (hst : (rest.map fun v => v.category).sum ≤ 8) (hM : jq_M G d mi_X6_beginNext (.ref i :: []) σ (jr_kv (fun σ' => jq_R G (d + 1) mi K pc' L rest σ'))) : jq_R G (d + 1) mi K pc L (.ref i :: rest) σ := jq_callV (As := []) (y := mi_X6_beginNext) (ci := 5) (by rw [hm]; exact ok_X2_40) rfl hsh rfl hst pc' hdg hp rfl (jq_M_mono jq_kv_to hM)
theorem qs_X2_45 {G : jq_G} {d : Nat} {mi : jr_MI} {K : Option Value → jr_Sg → Prop} {pc : Nat} {L : List (Option Value)} {rest : List Value} {σ : jr_Sg} {i : Nat} {fl : List (Option Nat)} (pc' : Nat) (hdg : decode mi.2.1 pc = .ok (.invokevirtual 45, 3)) (hp : pc + 3 = pc') (hm : mi.1.cls = RX2) (hsh : (jq_shp G)[i]? = some (.inr (1, fl))) (hst : (rest.map fun v => v.category).sum ≤ 8) (hM : jq_M G d mi_X2_step (.ref i :: []) σ (jr_kv (fun σ' => jq_R G (d + 1) mi K pc' L rest σ'))) : jq_R G (d + 1) mi K pc L (.ref i :: rest) σ := jq_callV (As := []) (y := mi_X2_step) (ci := 1) (by rw [hm]; exact ok_X2_45) rfl hsh rfl hst pc' hdg hp rfl (jq_M_mono jq_kv_to hM)
theorem qs_X2_93 {G : jq_G} {d : Nat} {mi : jr_MI} {K : Option Value → jr_Sg → Prop} {pc : Nat} {L : List (Option Value)} {rest : List Value} {σ : jr_Sg} {a1 : Value} {i : Nat} {fl : List (Option Nat)} (pc' : Nat) (hdg : decode mi.2.1 pc = .ok (.invokevirtual 93, 3)) (hp : pc + 3 = pc') (hm : mi.1.cls = RX2) (hsh : (jq_shp G)[i]? = some (.inr (1, fl))) (hst : (rest.map fun v => v.category).sum ≤ 8) (hM : jq_M G d mi_X2_byteAt (.ref i :: [a1]) σ (jr_k (fun x σ' => jq_R G (d + 1) mi K pc' L (x :: rest) σ'))) : jq_R G (d + 1) mi K pc L (a1 :: .ref i :: rest) σ := jq_callV (As := [a1]) (y := mi_X2_byteAt) (ci := 1) (by rw [hm]; exact ok_X2_93) rfl hsh rfl hst pc' hdg hp rfl (jq_M_mono jq_k_to hM)
theorem qs_X2_96 {G : jq_G} {d : Nat} {mi : jr_MI} {K : Option Value → jr_Sg → Prop} {pc : Nat} {L : List (Option Value)} {rest : List Value} {σ : jr_Sg} {a1 : Value} (pc' : Nat) (hdg : decode mi.2.1 pc = .ok (.invokestatic 96, 3)) (hp : pc + 3 = pc') (hm : mi.1.cls = RX2) (hst : (rest.map fun v => v.category).sum ≤ 8) (hM : jq_M G d mi_X8_isBlank [a1] σ (jr_k (fun x σ' => jq_R G (d + 1) mi K pc' L (x :: rest) σ'))) : jq_R G (d + 1) mi K pc L (a1 :: rest) σ := jq_callS (As := [a1]) (y := mi_X8_isBlank) (by rw [hm]; exact ok_X2_96) rfl hst pc' hdg hp rfl (jq_M_mono jq_k_to hM)
theorem qs_X2_99 {G : jq_G} {d : Nat} {mi : jr_MI} {K : Option Value → jr_Sg → Prop} {pc : Nat} {L : List (Option Value)} {rest : List Value} {σ : jr_Sg} {a1 : Value} (pc' : Nat) (hdg : decode mi.2.1 pc = .ok (.invokestatic 99, 3)) (hp : pc + 3 = pc') (hm : mi.1.cls = RX2) (hst : (rest.map fun v => v.category).sum ≤ 8) (hM : jq_M G d mi_X8_isLetter [a1] σ (jr_k (fun x σ' => jq_R G (d + 1) mi K pc' L (x :: rest) σ'))) : jq_R G (d + 1) mi K pc L (a1 :: rest) σ := jq_callS (As := [a1]) (y := mi_X8_isLetter) (by rw [hm]; exact ok_X2_99) rfl hst pc' hdg hp rfl (jq_M_mono jq_k_to hM)
theorem qs_X2_102 {G : jq_G} {d : Nat} {mi : jr_MI} {K : Option Value → jr_Sg → Prop} {pc : Nat} {L : List (Option Value)} {rest : List Value} {σ : jr_Sg} {i : Nat} {fl : List (Option Nat)} (pc' : Nat) (hdg : decode mi.2.1 pc = .ok (.invokevirtual 102, 3)) (hp : pc + 3 = pc') (hm : mi.1.cls = RX2) (hsh : (jq_shp G)[i]? = some (.inr (1, fl))) (hst : (rest.map fun v => v.category).sum ≤ 8) (hM : jq_M G d mi_X2_stepWord (.ref i :: []) σ (jr_kv (fun σ' => jq_R G (d + 1) mi K pc' L rest σ'))) : jq_R G (d + 1) mi K pc L (.ref i :: rest) σ := jq_callV (As := []) (y := mi_X2_stepWord) (ci := 1) (by rw [hm]; exact ok_X2_102) rfl hsh rfl hst pc' hdg hp rfl (jq_M_mono jq_kv_to hM)
theorem qs_X2_114 {G : jq_G} {d : Nat} {mi : jr_MI} {K : Option Value → jr_Sg → Prop} {pc : Nat} {L : List (Option Value)} {rest : List Value} {σ : jr_Sg} {a1 : Value} (pc' : Nat) (hdg : decode mi.2.1 pc = .ok (.invokestatic 114, 3)) (hp : pc + 3 = pc') (hm : mi.1.cls = RX2) (hst : (rest.map fun v => v.category).sum ≤ 8) (hM : jq_M G d mi_X8_spelled [a1] σ (jr_k (fun x σ' => jq_R G (d + 1) mi K pc' L (x :: rest) σ'))) : jq_R G (d + 1) mi K pc L (a1 :: rest) σ := jq_callS (As := [a1]) (y := mi_X8_spelled) (by rw [hm]; exact ok_X2_114) rfl hst pc' hdg hp rfl (jq_M_mono jq_k_to hM)
theorem qs_X2_118 {G : jq_G} {d : Nat} {mi : jr_MI} {K : Option Value → jr_Sg → Prop} {pc : Nat} {L : List (Option Value)} {rest : List Value} {σ : jr_Sg} {a1 : Value} {i : Nat} {fl : List (Option Nat)} (pc' : Nat) (hdg : decode mi.2.1 pc = .ok (.invokevirtual 118, 3)) (hp : pc + 3 = pc') (hm : mi.1.cls = RX2) (hsh : (jq_shp G)[i]? = some (.inr (1, fl))) (hst : (rest.map fun v => v.category).sum ≤ 8) (hM : jq_M G d mi_X2_isSpelled (.ref i :: [a1]) σ (jr_k (fun x σ' => jq_R G (d + 1) mi K pc' L (x :: rest) σ'))) : jq_R G (d + 1) mi K pc L (a1 :: .ref i :: rest) σ := jq_callV (As := [a1]) (y := mi_X2_isSpelled) (ci := 1) (by rw [hm]; exact ok_X2_118) rfl hsh rfl hst pc' hdg hp rfl (jq_M_mono jq_k_to hM)
theorem qs_X2_105 {G : jq_G} {d : Nat} {mi : jr_MI} {K : Option Value → jr_Sg → Prop} {pc : Nat} {L : List (Option Value)} {rest : List Value} {σ : jr_Sg} {a1 : Value} (pc' : Nat) (hdg : decode mi.2.1 pc = .ok (.invokestatic 105, 3)) (hp : pc + 3 = pc') (hm : mi.1.cls = RX2) (hst : (rest.map fun v => v.category).sum ≤ 8) (hM : jq_M G d mi_X8_isDigit [a1] σ (jr_k (fun x σ' => jq_R G (d + 1) mi K pc' L (x :: rest) σ'))) : jq_R G (d + 1) mi K pc L (a1 :: rest) σ := jq_callS (As := [a1]) (y := mi_X8_isDigit) (by rw [hm]; exact ok_X2_105) rfl hst pc' hdg hp rfl (jq_M_mono jq_k_to hM)
theorem qs_X2_108 {G : jq_G} {d : Nat} {mi : jr_MI} {K : Option Value → jr_Sg → Prop} {pc : Nat} {L : List (Option Value)} {rest : List Value} {σ : jr_Sg} {i : Nat} {fl : List (Option Nat)} (pc' : Nat) (hdg : decode mi.2.1 pc = .ok (.invokevirtual 108, 3)) (hp : pc + 3 = pc') (hm : mi.1.cls = RX2) (hsh : (jq_shp G)[i]? = some (.inr (1, fl))) (hst : (rest.map fun v => v.category).sum ≤ 8) (hM : jq_M G d mi_X2_stepNumber (.ref i :: []) σ (jr_kv (fun σ' => jq_R G (d + 1) mi K pc' L rest σ'))) : jq_R G (d + 1) mi K pc L (.ref i :: rest) σ := jq_callV (As := []) (y := mi_X2_stepNumber) (ci := 1) (by rw [hm]; exact ok_X2_108) rfl hsh rfl hst pc' hdg hp rfl (jq_M_mono jq_kv_to hM)
theorem qs_X2_111 {G : jq_G} {d : Nat} {mi : jr_MI} {K : Option Value → jr_Sg → Prop} {pc : Nat} {L : List (Option Value)} {rest : List Value} {σ : jr_Sg} {a1 : Value} (pc' : Nat) (hdg : decode mi.2.1 pc = .ok (.invokestatic 111, 3)) (hp : pc + 3 = pc') (hm : mi.1.cls = RX2) (hst : (rest.map fun v => v.category).sum ≤ 8) (hM : jq_M G d mi_X8_signOf [a1] σ (jr_k (fun x σ' => jq_R G (d + 1) mi K pc' L (x :: rest) σ'))) : jq_R G (d + 1) mi K pc L (a1 :: rest) σ := jq_callS (As := [a1]) (y := mi_X8_signOf) (by rw [hm]; exact ok_X2_111) rfl hst pc' hdg hp rfl (jq_M_mono jq_k_to hM)
theorem qs_X2_48 {G : jq_G} {d : Nat} {mi : jr_MI} {K : Option Value → jr_Sg → Prop} {pc : Nat} {L : List (Option Value)} {rest : List Value} {σ : jr_Sg} {a1 : Value} (pc' : Nat) (hdg : decode mi.2.1 pc = .ok (.invokestatic 48, 3)) (hp : pc + 3 = pc') (hm : mi.1.cls = RX2) (hst : (rest.map fun v => v.category).sum ≤ 8) (hM : jq_M G d mi_X8_keyOf [a1] σ (jr_k (fun x σ' => jq_R G (d + 1) mi K pc' L (x :: rest) σ'))) : jq_R G (d + 1) mi K pc L (a1 :: rest) σ := jq_callS (As := [a1]) (y := mi_X8_keyOf) (by rw [hm]; exact ok_X2_48) rfl hst pc' hdg hp rfl (jq_M_mono jq_k_to hM)
theorem qs_X2_52 {G : jq_G} {d : Nat} {mi : jr_MI} {K : Option Value → jr_Sg → Prop} {pc : Nat} {L : List (Option Value)} {rest : List Value} {σ : jr_Sg} {a1 : Value} {i : Nat} {fl : List (Option Nat)} (pc' : Nat) (hdg : decode mi.2.1 pc = .ok (.invokevirtual 52, 3)) (hp : pc + 3 = pc') (hm : mi.1.cls = RX2) (hsh : (jq_shp G)[i]? = some (.inr (1, fl))) (hst : (rest.map fun v => v.category).sum ≤ 8) (hM : jq_M G d mi_X2_expect (.ref i :: [a1]) σ (jr_kv (fun σ' => jq_R G (d + 1) mi K pc' L rest σ'))) : jq_R G (d + 1) mi K pc L (a1 :: .ref i :: rest) σ := jq_callV (As := [a1]) (y := mi_X2_expect) (ci := 1) (by rw [hm]; exact ok_X2_52) rfl hsh rfl hst pc' hdg hp rfl (jq_M_mono jq_kv_to hM)
theorem qs_X2_62 {G : jq_G} {d : Nat} {mi : jr_MI} {K : Option Value → jr_Sg → Prop} {pc : Nat} {L : List (Option Value)} {rest : List Value} {σ : jr_Sg} {i : Nat} {fl : List (Option Nat)} (pc' : Nat) (hdg : decode mi.2.1 pc = .ok (.invokevirtual 62, 3)) (hp : pc + 3 = pc') (hm : mi.1.cls = RX2) (hsh : (jq_shp G)[i]? = some (.inr (1, fl))) (hst : (rest.map fun v => v.category).sum ≤ 8) (hM : jq_M G d mi_X2_fail (.ref i :: []) σ (jr_kv (fun σ' => jq_R G (d + 1) mi K pc' L rest σ'))) : jq_R G (d + 1) mi K pc L (.ref i :: rest) σ := jq_callV (As := []) (y := mi_X2_fail) (ci := 1) (by rw [hm]; exact ok_X2_62) rfl hsh rfl hst pc' hdg hp rfl (jq_M_mono jq_kv_to hM)
theorem qs_X2_56 {G : jq_G} {d : Nat} {mi : jr_MI} {K : Option Value → jr_Sg → Prop} {pc : Nat} {L : List (Option Value)} {rest : List Value} {σ : jr_Sg} {a1 : Value} {i : Nat} {fl : List (Option Nat)} (pc' : Nat) (hdg : decode mi.2.1 pc = .ok (.invokevirtual 56, 3)) (hp : pc + 3 = pc') (hm : mi.1.cls = RX2) (hsh : (jq_shp G)[i]? = some (.inr (1, fl))) (hst : (rest.map fun v => v.category).sum ≤ 8) (hM : jq_M G d mi_X2_readOr (.ref i :: [a1]) σ (jr_kv (fun σ' => jq_R G (d + 1) mi K pc' L rest σ'))) : jq_R G (d + 1) mi K pc L (a1 :: .ref i :: rest) σ := jq_callV (As := [a1]) (y := mi_X2_readOr) (ci := 1) (by rw [hm]; exact ok_X2_56) rfl hsh rfl hst pc' hdg hp rfl (jq_M_mono jq_kv_to hM)
theorem qs_X2_68 {G : jq_G} {d : Nat} {mi : jr_MI} {K : Option Value → jr_Sg → Prop} {pc : Nat} {L : List (Option Value)} {rest : List Value} {σ : jr_Sg} {a1 : Value} {i : Nat} {fl : List (Option Nat)} (pc' : Nat) (hdg : decode mi.2.1 pc = .ok (.invokevirtual 68, 3)) (hp : pc + 3 = pc') (hm : mi.1.cls = RX2) (hsh : (jq_shp G)[i]? = some (.inr (1, fl))) (hst : (rest.map fun v => v.category).sum ≤ 8) (hM : jq_M G d mi_X2_readAnd (.ref i :: [a1]) σ (jr_kv (fun σ' => jq_R G (d + 1) mi K pc' L rest σ'))) : jq_R G (d + 1) mi K pc L (a1 :: .ref i :: rest) σ := jq_callV (As := [a1]) (y := mi_X2_readAnd) (ci := 1) (by rw [hm]; exact ok_X2_68) rfl hsh rfl hst pc' hdg hp rfl (jq_M_mono jq_kv_to hM)
theorem qs_X2_74 {G : jq_G} {d : Nat} {mi : jr_MI} {K : Option Value → jr_Sg → Prop} {pc : Nat} {L : List (Option Value)} {rest : List Value} {σ : jr_Sg} {a1 : Value} {i : Nat} {fl : List (Option Nat)} (pc' : Nat) (hdg : decode mi.2.1 pc = .ok (.invokevirtual 74, 3)) (hp : pc + 3 = pc') (hm : mi.1.cls = RX2) (hsh : (jq_shp G)[i]? = some (.inr (1, fl))) (hst : (rest.map fun v => v.category).sum ≤ 8) (hM : jq_M G d mi_X2_readNot (.ref i :: [a1]) σ (jr_kv (fun σ' => jq_R G (d + 1) mi K pc' L rest σ'))) : jq_R G (d + 1) mi K pc L (a1 :: .ref i :: rest) σ := jq_callV (As := [a1]) (y := mi_X2_readNot) (ci := 1) (by rw [hm]; exact ok_X2_74) rfl hsh rfl hst pc' hdg hp rfl (jq_M_mono jq_kv_to hM)
theorem qs_X2_77 {G : jq_G} {d : Nat} {mi : jr_MI} {K : Option Value → jr_Sg → Prop} {pc : Nat} {L : List (Option Value)} {rest : List Value} {σ : jr_Sg} {a1 : Value} {i : Nat} {fl : List (Option Nat)} (pc' : Nat) (hdg : decode mi.2.1 pc = .ok (.invokevirtual 77, 3)) (hp : pc + 3 = pc') (hm : mi.1.cls = RX2) (hsh : (jq_shp G)[i]? = some (.inr (1, fl))) (hst : (rest.map fun v => v.category).sum ≤ 8) (hM : jq_M G d mi_X2_readCompared (.ref i :: [a1]) σ (jr_kv (fun σ' => jq_R G (d + 1) mi K pc' L rest σ'))) : jq_R G (d + 1) mi K pc L (a1 :: .ref i :: rest) σ := jq_callV (As := [a1]) (y := mi_X2_readCompared) (ci := 1) (by rw [hm]; exact ok_X2_77) rfl hsh rfl hst pc' hdg hp rfl (jq_M_mono jq_kv_to hM)
theorem qs_X2_80 {G : jq_G} {d : Nat} {mi : jr_MI} {K : Option Value → jr_Sg → Prop} {pc : Nat} {L : List (Option Value)} {rest : List Value} {σ : jr_Sg} {a1 : Value} {i : Nat} {fl : List (Option Nat)} (pc' : Nat) (hdg : decode mi.2.1 pc = .ok (.invokevirtual 80, 3)) (hp : pc + 3 = pc') (hm : mi.1.cls = RX2) (hsh : (jq_shp G)[i]? = some (.inr (1, fl))) (hst : (rest.map fun v => v.category).sum ≤ 8) (hM : jq_M G d mi_X2_readSum (.ref i :: [a1]) σ (jr_kv (fun σ' => jq_R G (d + 1) mi K pc' L rest σ'))) : jq_R G (d + 1) mi K pc L (a1 :: .ref i :: rest) σ := jq_callV (As := [a1]) (y := mi_X2_readSum) (ci := 1) (by rw [hm]; exact ok_X2_80) rfl hsh rfl hst pc' hdg hp rfl (jq_M_mono jq_kv_to hM)
theorem qs_X2_83 {G : jq_G} {d : Nat} {mi : jr_MI} {K : Option Value → jr_Sg → Prop} {pc : Nat} {L : List (Option Value)} {rest : List Value} {σ : jr_Sg} {a1 : Value} {i : Nat} {fl : List (Option Nat)} (pc' : Nat) (hdg : decode mi.2.1 pc = .ok (.invokevirtual 83, 3)) (hp : pc + 3 = pc') (hm : mi.1.cls = RX2) (hsh : (jq_shp G)[i]? = some (.inr (1, fl))) (hst : (rest.map fun v => v.category).sum ≤ 8) (hM : jq_M G d mi_X2_readTerm (.ref i :: [a1]) σ (jr_kv (fun σ' => jq_R G (d + 1) mi K pc' L rest σ'))) : jq_R G (d + 1) mi K pc L (a1 :: .ref i :: rest) σ := jq_callV (As := [a1]) (y := mi_X2_readTerm) (ci := 1) (by rw [hm]; exact ok_X2_83) rfl hsh rfl hst pc' hdg hp rfl (jq_M_mono jq_kv_to hM)
theorem qs_X2_86 {G : jq_G} {d : Nat} {mi : jr_MI} {K : Option Value → jr_Sg → Prop} {pc : Nat} {L : List (Option Value)} {rest : List Value} {σ : jr_Sg} {a1 : Value} {i : Nat} {fl : List (Option Nat)} (pc' : Nat) (hdg : decode mi.2.1 pc = .ok (.invokevirtual 86, 3)) (hp : pc + 3 = pc') (hm : mi.1.cls = RX2) (hsh : (jq_shp G)[i]? = some (.inr (1, fl))) (hst : (rest.map fun v => v.category).sum ≤ 8) (hM : jq_M G d mi_X2_readOne (.ref i :: [a1]) σ (jr_kv (fun σ' => jq_R G (d + 1) mi K pc' L rest σ'))) : jq_R G (d + 1) mi K pc L (a1 :: .ref i :: rest) σ := jq_callV (As := [a1]) (y := mi_X2_readOne) (ci := 1) (by rw [hm]; exact ok_X2_86) rfl hsh rfl hst pc' hdg hp rfl (jq_M_mono jq_kv_to hM)
theorem qs_X2_71 {G : jq_G} {d : Nat} {mi : jr_MI} {K : Option Value → jr_Sg → Prop} {pc : Nat} {L : List (Option Value)} {rest : List Value} {σ : jr_Sg} {a1 : Value} {i : Nat} {fl : List (Option Nat)} (pc' : Nat) (hdg : decode mi.2.1 pc = .ok (.invokevirtual 71, 3)) (hp : pc + 3 = pc') (hm : mi.1.cls = RX2) (hsh : (jq_shp G)[i]? = some (.inr (5, fl))) (hst : (rest.map fun v => v.category).sum ≤ 8) (hM : jq_M G d mi_X6_write (.ref i :: [a1]) σ (jr_kv (fun σ' => jq_R G (d + 1) mi K pc' L rest σ'))) : jq_R G (d + 1) mi K pc L (a1 :: .ref i :: rest) σ := jq_callV (As := [a1]) (y := mi_X6_write) (ci := 5) (by rw [hm]; exact ok_X2_71) rfl hsh rfl hst pc' hdg hp rfl (jq_M_mono jq_kv_to hM)
theorem qs_X2_89 {G : jq_G} {d : Nat} {mi : jr_MI} {K : Option Value → jr_Sg → Prop} {pc : Nat} {L : List (Option Value)} {rest : List Value} {σ : jr_Sg} {a1 : Value} (pc' : Nat) (hdg : decode mi.2.1 pc = .ok (.invokestatic 89, 3)) (hp : pc + 3 = pc') (hm : mi.1.cls = RX2) (hst : (rest.map fun v => v.category).sum ≤ 8) (hM : jq_M G d mi_X8_isName [a1] σ (jr_k (fun x σ' => jq_R G (d + 1) mi K pc' L (x :: rest) σ'))) : jq_R G (d + 1) mi K pc L (a1 :: rest) σ := jq_callS (As := [a1]) (y := mi_X8_isName) (by rw [hm]; exact ok_X2_89) rfl hst pc' hdg hp rfl (jq_M_mono jq_k_to hM)
theorem qs_X2_59 {G : jq_G} {d : Nat} {mi : jr_MI} {K : Option Value → jr_Sg → Prop} {pc : Nat} {L : List (Option Value)} {rest : List Value} {σ : jr_Sg} {a1 : Value} {i : Nat} {fl : List (Option Nat)} (pc' : Nat) (hdg : decode mi.2.1 pc = .ok (.invokevirtual 59, 3)) (hp : pc + 3 = pc') (hm : mi.1.cls = RX2) (hsh : (jq_shp G)[i]? = some (.inr (5, fl))) (hst : (rest.map fun v => v.category).sum ≤ 8) (hM : jq_M G d mi_X6_endPart (.ref i :: [a1]) σ (jr_kv (fun σ' => jq_R G (d + 1) mi K pc' L rest σ'))) : jq_R G (d + 1) mi K pc L (a1 :: .ref i :: rest) σ := jq_callV (As := [a1]) (y := mi_X6_endPart) (ci := 5) (by rw [hm]; exact ok_X2_59) rfl hsh rfl hst pc' hdg hp rfl (jq_M_mono jq_kv_to hM)
theorem qs_X2_65 {G : jq_G} {d : Nat} {mi : jr_MI} {K : Option Value → jr_Sg → Prop} {pc : Nat} {L : List (Option Value)} {rest : List Value} {σ : jr_Sg} {i : Nat} {fl : List (Option Nat)} (pc' : Nat) (hdg : decode mi.2.1 pc = .ok (.invokevirtual 65, 3)) (hp : pc + 3 = pc') (hm : mi.1.cls = RX2) (hsh : (jq_shp G)[i]? = some (.inr (5, fl))) (hst : (rest.map fun v => v.category).sum ≤ 8) (hM : jq_M G d mi_X6_keepNext (.ref i :: []) σ (jr_kv (fun σ' => jq_R G (d + 1) mi K pc' L rest σ'))) : jq_R G (d + 1) mi K pc L (.ref i :: rest) σ := jq_callV (As := []) (y := mi_X6_keepNext) (ci := 5) (by rw [hm]; exact ok_X2_65) rfl hsh rfl hst pc' hdg hp rfl (jq_M_mono jq_kv_to hM)
theorem qs_X6_32 {G : jq_G} {d : Nat} {mi : jr_MI} {K : Option Value → jr_Sg → Prop} {pc : Nat} {L : List (Option Value)} {rest : List Value} {σ : jr_Sg} {a1 a2 : Value} (pc' : Nat) (hdg : decode mi.2.1 pc = .ok (.invokestatic 32, 3)) (hp : pc + 3 = pc') (hm : mi.1.cls = RX6) (hst : (rest.map fun v => v.category).sum ≤ 8) (hM : jq_M G d mi_J9_min_7cf53 [a1, a2] σ (jr_k (fun x σ' => jq_R G (d + 1) mi K pc' L (x :: rest) σ'))) : jq_R G (d + 1) mi K pc L (a2 :: a1 :: rest) σ := jq_callS (As := [a1, a2]) (y := mi_J9_min_7cf53) (by rw [hm]; exact ok_X6_32) rfl hst pc' hdg hp rfl (jq_M_mono jq_k_to hM)
theorem qs_X6_45 {G : jq_G} {d : Nat} {mi : jr_MI} {K : Option Value → jr_Sg → Prop} {pc : Nat} {L : List (Option Value)} {rest : List Value} {σ : jr_Sg} {a1 a2 a3 : Value} (pc' : Nat) (hdg : decode mi.2.1 pc = .ok (.invokestatic 45, 3)) (hp : pc + 3 = pc') (hm : mi.1.cls = RX6) (hst : (rest.map fun v => v.category).sum ≤ 8) (hM : jq_M G d mi_X6_joined [a1, a2, a3] σ (jr_k (fun x σ' => jq_R G (d + 1) mi K pc' L (x :: rest) σ'))) : jq_R G (d + 1) mi K pc L (a3 :: a2 :: a1 :: rest) σ := jq_callS (As := [a1, a2, a3]) (y := mi_X6_joined) (by rw [hm]; exact ok_X6_45) rfl hst pc' hdg hp rfl (jq_M_mono jq_k_to hM)
theorem qs_X6_28 {G : jq_G} {d : Nat} {mi : jr_MI} {K : Option Value → jr_Sg → Prop} {pc : Nat} {L : List (Option Value)} {rest : List Value} {σ : jr_Sg} {a1 a2 a3 : Value} {i : Nat} {fl : List (Option Nat)} (pc' : Nat) (hdg : decode mi.2.1 pc = .ok (.invokevirtual 28, 3)) (hp : pc + 3 = pc') (hm : mi.1.cls = RX6) (hsh : (jq_shp G)[i]? = some (.inr (5, fl))) (hst : (rest.map fun v => v.category).sum ≤ 8) (hM : jq_M G d mi_X6_value (.ref i :: [a1, a2, a3]) σ (jr_k (fun x σ' => jq_R G (d + 1) mi K pc' L (x :: rest) σ'))) : jq_R G (d + 1) mi K pc L (a3 :: a2 :: a1 :: .ref i :: rest) σ := jq_callV (As := [a1, a2, a3]) (y := mi_X6_value) (ci := 5) (by rw [hm]; exact ok_X6_28) rfl hsh rfl hst pc' hdg hp rfl (jq_M_mono jq_k_to hM)
theorem qs_X6_38 {G : jq_G} {d : Nat} {mi : jr_MI} {K : Option Value → jr_Sg → Prop} {pc : Nat} {L : List (Option Value)} {rest : List Value} {σ : jr_Sg} {a1 a2 : Value} (pc' : Nat) (hdg : decode mi.2.1 pc = .ok (.invokestatic 38, 3)) (hp : pc + 3 = pc') (hm : mi.1.cls = RX6) (hst : (rest.map fun v => v.category).sum ≤ 8) (hM : jq_M G d mi_J9_max_7cf53 [a1, a2] σ (jr_k (fun x σ' => jq_R G (d + 1) mi K pc' L (x :: rest) σ'))) : jq_R G (d + 1) mi K pc L (a2 :: a1 :: rest) σ := jq_callS (As := [a1, a2]) (y := mi_J9_max_7cf53) (by rw [hm]; exact ok_X6_38) rfl hst pc' hdg hp rfl (jq_M_mono jq_k_to hM)
section JSPEC
variable {G : jq_G} {d : Nat} {mi : jr_MI} {K : Option Value → jr_Sg → Prop} {pc : Nat} {L : List (Option Value)} {st rest : List Value} {σ : jr_Sg}
theorem jq_above (pc' : Nat) (hdg : decode mi.2.1 pc = .ok (.getstatic 7, 3)) (hp : pc + 3 = pc') (hm : mi.1.cls = RX0) (kk : jq_R G d mi K pc' L (.ref 1200 :: st) σ) : jq_R G d mi K pc L st σ := by
  subst hp
  intro p l e s m args below meth c H locs ls hx hb hml hr hown hlk hts hF hP hS hl
  exact va_gets (own := mi.1.cls) (ref := "GoneRed$Kind") hx hb hF.2.2.2.2.1 hS hown (by rw [hm]; exact hts _ fl_X0_7) (fun _ h => h) hdg (kk p l e s m args below meth c H locs ls hx hb hml hr hown hlk hts hF hP hS hl)
theorem jq_aboveLen (pc' : Nat) (hdg : decode mi.2.1 pc = .ok (.arraylength, 1)) (hp : pc + 1 = pc') (kk : jq_R G d mi K pc' L (.int 6 :: st) σ) : jq_R G d mi K pc L (.ref 1200 :: st) σ := by
  subst hp
  intro p l e s m args below meth c H locs ls hx hb hml hr hown hlk hts hF hP hS hl
  exact va_tlen hx hb hF.2.2.2.2.2.1 hS (v := 6) rfl hdg (kk p l e s m args below meth c H locs ls hx hb hml hr hown hlk hts hF hP hS hl)
theorem jq_aboveAt {k : Nat} {j : Int32} (hj : j = nI k) (hk : k < 6) (pc' : Nat) (hdg : decode mi.2.1 pc = .ok (.iaload, 1)) (hp : pc + 1 = pc') (kk : jq_R G d mi K pc' L (.int (jr_abv.getD k 0) :: st) σ) : jq_R G d mi K pc L (.int j :: .ref 1200 :: st) σ := by
  subst hp
  subst hj
  intro p l e s m args below meth c H locs ls hx hb hml hr hown hlk hts hF hP hS hl
  exact va_ti hx hb hF.2.2.2.2.2.1 hS (vp_in_nI hk (by omega)) (by rw [nI_clamp (by omega)]; rfl) hdg (kk p l e s m args below meth c H locs ls hx hb hml hr hown hlk hts hF hP hS hl)
theorem jq_acopy {idx i0 i1 n0 n1 sp dp n : Nat} {jn jd js : Int32} (hlk0 : Cond.methodLink mi.1.cls idx arraycopyName ∈ jr_WL) (hsh0 : (jq_shp G)[i0]? = some (.inl n0)) (hsh1 : (jq_shp G)[i1]? = some (.inl n1)) (ejn : jn = nI n) (ejd : jd = nI dp) (ejs : js = nI sp) (h4 : sp + n ≤ n0) (h5 : dp + n ≤ n1) (hst : (st.map fun v => v.category).sum ≤ 8) (pc' : Nat) (hdg : decode mi.2.1 pc = .ok (.invokestatic idx, 3)) (hp : pc + 3 = pc') (kk : jq_R G d mi K pc' L st (jr_upc σ i1 (va_cpy (σ i0) (σ i1) sp dp n))) : jq_R G d mi K pc L (.int jn :: .int jd :: .ref i1 :: .int js :: .ref i0 :: st) σ := by
  subst hp
  subst ejn
  subst ejd
  subst ejs
  intro p l e s m args below meth c H locs ls hx hb hml hr hown hlk hts hF hP hS hl
  have b0 := hF.1.2 i0 n0 hsh0
  have b1 := hF.1.2 i1 n1 hsh1
  have c1 : (nI n).toNatClampNeg = n := nI_clamp (by omega)
  have c2 : (nI dp).toNatClampNeg = dp := nI_clamp (by omega)
  have c3 : (nI sp).toNatClampNeg = sp := nI_clamp (by omega)
  refine va_copyi hx hb (by rw [hml, hl.1]) hown (hts _ hlk0) (hts _ ac_nat) (hts _ ac_st) (hts _ ac_in) hF.2.1 hP (jq_vaD hF.1) hS i0 i1 0 0 (jq_ws_get hsh0) (jq_ws_get hsh1) rfl rfl rfl (nI_pos (by omega)) (nI_pos (by omega)) (nI_pos (by omega)) (by rw [c1, c3]; exact h4) (by rw [c1, c2]; exact h5) (fun _ _ => rfl) (by show 1 ≤ d + 1; omega) (by have := jq_cats (G := G) hst; have := ac_words; show _ ≤ 64 * (d + 1); omega) hdg (fun H1 locs1 hP1 hD1 hS1 => kk p l e s m args below meth c H1 locs1 ls hx hb hml hr hown hlk hts hF ?_ hS1 hl)
  rw [c1, c2, c3] at hP1
  have e := jq_ws_set (G := G) (σ := σ) (va_cpy (σ i0) (σ i1) sp dp n) hsh1
  rw [← e]
  exact hP1
theorem jq_ldcS {idx i : Nat} {tx : String} (hi : i < 14) (hs : jr_str.getD i ("", 0, "") = (mi.1.cls, idx, tx)) (pc' : Nat) (hdg : decode mi.2.1 pc = .ok (.ldc idx, 2)) (hp : pc + 2 = pc') (kk : jq_R G d mi K pc' L (.ref (1000 + i) :: st) σ) : jq_R G d mi K pc L st σ := by
  subst hp
  intro p l e s m args below meth c H locs ls hx hb hml hr hown hlk hts hF hP hS hl
  have h := hF.2.2.1.1 i hi
  rw [hs] at h
  exact va_ldcS hx hb hown h hdg (kk p l e s m args below meth c H locs ls hx hb hml hr hown hlk hts hF hP hS hl)
theorem jq_strF {o : Nat} {i : Nat} {n dd : String} {v : Value} (hof : ∀ (A : Nat → Prop) (U : State) (H : Heap) (adK adV : Nat → Nat), vk_S 14 jr_len jr_byt adK adV A U H → adV i = G.2.2.1 (1100 + i) → va_OF "java/lang/String" n dd (jr_v G.2.2.1 v) (adK i) A U H) (hlink : Cond.fieldLink "java/lang/String" o "java/lang/String" n dd ∈ jr_WL) (hm : mi.1.cls = RJ0) (pc' : Nat) (hdg : decode mi.2.1 pc = .ok (.getfield o, 3)) (hp : pc + 3 = pc') (kk : jq_R G d mi K pc' L (v :: st) σ) : jq_R G d mi K pc L (.ref (1000 + i) :: st) σ := by
  subst hp
  intro p l e s m args below meth c H locs ls hx hb hml hr hown hlk hts hF hP hS hl
  have h := hof _ _ _ _ _ hF.2.2.2.1 rfl
  rw [hm] at hown
  exact vk_getf (own := RJ0) (ref := "java/lang/String") (index := o) hx hb h hS hown (hts _ hlink) (fun _ h => h) hdg (kk p l e s m args below meth c H locs ls hx hb hml hr (by rw [hm]; exact hown) hlk hts hF hP hS hl)
theorem jq_strLen {i : Nat} (hi : i < 14) (pc' : Nat) (hdg : decode mi.2.1 pc = .ok (.arraylength, 1)) (hp : pc + 1 = pc') (kk : jq_R G d mi K pc' L (.int (nI (jr_len.getD i 0)) :: st) σ) : jq_R G d mi K pc L (.ref (1100 + i) :: st) σ := by
  subst hp
  intro p l e s m args below meth c H locs ls hx hb hml hr hown hlk hts hF hP hS hl
  exact va_tlen hx hb (hF.2.2.2.1.1 i hi).2.2.2 hS (v := nI (jr_len.getD i 0)) rfl hdg (kk p l e s m args below meth c H locs ls hx hb hml hr hown hlk hts hF hP hS hl)
theorem jq_strAt {i k : Nat} {j : Int32} (hi : i < 14) (hj : j = nI k) (hk : k < jr_len.getD i 0) (hlen : jr_len.getD i 0 ≤ 100) (pc' : Nat) (hdg : decode mi.2.1 pc = .ok (.baload, 1)) (hp : pc + 1 = pc') (kk : jq_R G d mi K pc' L (.int ((jr_byt.getD i []).getD k 0) :: st) σ) : jq_R G d mi K pc L (.int j :: .ref (1100 + i) :: st) σ := by
  subst hp
  subst hj
  intro p l e s m args below meth c H locs ls hx hb hml hr hown hlk hts hF hP hS hl
  exact va_tb hx hb (hF.2.2.2.1.1 i hi).2.2.2 hS (vp_in_nI hk (by omega)) (by rw [nI_clamp (by omega)]; rfl) hdg (kk p l e s m args below meth c H locs ls hx hb hml hr hown hlk hts hF hP hS hl)
theorem jq_compact (pc' : Nat) (hdg : decode mi.2.1 pc = .ok (.getstatic 38, 3)) (hp : pc + 3 = pc') (hm : mi.1.cls = RJ0) (kk : jq_R G d mi K pc' L (.int 1 :: st) σ) : jq_R G d mi K pc L st σ := by
  subst hp
  intro p l e s m args below meth c H locs ls hx hb hml hr hown hlk hts hF hP hS hl
  exact va_gets (own := mi.1.cls) (ref := "java/lang/String") hx hb hF.2.2.2.2.2.2.1 hS hown (by rw [hm]; exact hts _ fl_J0_38) (fun _ h => h) hdg (kk p l e s m args below meth c H locs ls hx hb hml hr hown hlk hts hF hP hS hl)
theorem jq_former (pc' : Nat) (hdg : decode mi.2.1 pc = .ok (.getstatic 1053, 3)) (hp : pc + 3 = pc') (hm : mi.1.cls = RJ0) (kk : ∀ v : Value, v.category = 1 → jq_R G d mi K pc' L (v :: st) σ) : jq_R G d mi K pc L st σ := by
  subst hp
  intro p l e s m args below meth c H locs ls hx hb hml hr hown hlk hts hF hP hS hl
  rcases hF.2.2.2.2.2.2.2 with h | h
  · exact va_gets (own := mi.1.cls) (ref := "jdk/internal/util/Preconditions") hx hb h hS hown (by rw [hm]; exact hts _ fl_J0_1053) (fun _ h => h) hdg (kk .null rfl p l e s m args below meth c H locs ls hx hb hml hr hown hlk hts hF hP hS hl)
  · exact va_gets (own := mi.1.cls) (ref := "jdk/internal/util/Preconditions") hx hb h hS hown (by rw [hm]; exact hts _ fl_J0_1053) (fun _ h => h) hdg (kk (.ref 1300) rfl p l e s m args below meth c H locs ls hx hb hml hr hown hlk hts hF hP hS hl)
theorem jq_callStr {y : jr_MI} {idx n i : Nat} {As : List Value} (ok : jr_okV mi.1.cls idx y n) (hcls : y.1.cls = RJ0) (hi : i < 14) (hn : As.length = n) (hst : (rest.map fun v => v.category).sum ≤ 8) (pc' : Nat) (hdg : decode mi.2.1 pc = .ok (.invokevirtual idx, 3)) (hp : pc + 3 = pc') (hs : st = As.reverse ++ .ref (1000 + i) :: rest) (hM : jq_M G d y (.ref (1000 + i) :: As) σ (fun v σ' => jq_R G (d + 1) mi K pc' L (v.toList ++ rest) σ')) : jq_R G (d + 1) mi K pc L st σ := by
  subst hs
  intro p l e s m args below meth c H locs ls hx hb hml hr hown hlk hts hF hP hS hl
  have hF2 : jq_F G s H := hF.kept hS
  obtain ⟨⟨o1, o2, o3, o4, o5⟩, o6, o7⟩ := ok
  have hG : GoodIn jr_WL (wsV mi.1.cls idx y.1.cls y.1 (jr_wsM y)) := by
    intro w hw
    rcases List.mem_append.mp hw with h | h
    · have h1 : w ∈ jr_WL := by
        simp only [List.mem_cons, List.not_mem_nil, or_false] at h
        rcases h with rfl | rfl | rfl | rfl <;> assumption
      exact ⟨h1, good_of_word (jr_wl_good h1)⟩
    · exact jr_goodIn o5 w h
  have hrecv := vk_recv hF.2.2.2.1 hi hS
  exact jq_after hp (va_runV (As := As.map (jr_v G.2.2.1)) (rest := rest.map (jr_v G.2.2.1)) (b := G.2.2.1 (1000 + i)) ⟨hx, hb, hml, hown, hts⟩ (hM l) (cwV n hts hG rfl rfl rfl ⟨rfl, o6⟩ (jr_room_ok o7))
    ⟨jq_blind, by rw [hcls]; exact hrecv, fun U hU hW => ⟨rfl, by rw [hU]; exact hF2.warm hW, by rw [hU]; exact hP⟩⟩ rfl (by rw [List.length_map]; exact hn) hl.1 (by simp [jr_v]) (lv_room (jq_cats hst)) hdg ⟨Nat.le_refl _, Nat.le_refl _⟩) hx hb hml hr hown hlk hts hF hS hl
end JSPEC
theorem qs_J0_335 {G : jq_G} {d : Nat} {mi : jr_MI} {K : Option Value → jr_Sg → Prop} {pc : Nat} {L : List (Option Value)} {rest : List Value} {σ : jr_Sg} {i : Nat} (pc' : Nat) (hdg : decode mi.2.1 pc = .ok (.invokevirtual 335, 3)) (hp : pc + 3 = pc') (hm : mi.1.cls = RJ0) (hi : i < 14) (hst : (rest.map fun v => v.category).sum ≤ 8) (hM : jq_M G d mi_J0_coder_7d493 (.ref (1000 + i) :: []) σ (jr_k (fun x σ' => jq_R G (d + 1) mi K pc' L (x :: rest) σ'))) : jq_R G (d + 1) mi K pc L (.ref (1000 + i) :: rest) σ := jq_callStr (As := []) (y := mi_J0_coder_7d493) (by rw [hm]; exact ok_J0_335) rfl hi rfl hst pc' hdg hp rfl (jq_M_mono jq_k_to hM)
theorem qs_J0_492 {G : jq_G} {d : Nat} {mi : jr_MI} {K : Option Value → jr_Sg → Prop} {pc : Nat} {L : List (Option Value)} {rest : List Value} {σ : jr_Sg} {i : Nat} (pc' : Nat) (hdg : decode mi.2.1 pc = .ok (.invokevirtual 492, 3)) (hp : pc + 3 = pc') (hm : mi.1.cls = RJ0) (hi : i < 14) (hst : (rest.map fun v => v.category).sum ≤ 8) (hM : jq_M G d mi_J0_isLatin1_aae02 (.ref (1000 + i) :: []) σ (jr_k (fun x σ' => jq_R G (d + 1) mi K pc' L (x :: rest) σ'))) : jq_R G (d + 1) mi K pc L (.ref (1000 + i) :: rest) σ := jq_callStr (As := []) (y := mi_J0_isLatin1_aae02) (by rw [hm]; exact ok_J0_492) rfl hi rfl hst pc' hdg hp rfl (jq_M_mono jq_k_to hM)
theorem qs_X2_122 {G : jq_G} {d : Nat} {mi : jr_MI} {K : Option Value → jr_Sg → Prop} {pc : Nat} {L : List (Option Value)} {rest : List Value} {σ : jr_Sg} {i : Nat} (pc' : Nat) (hdg : decode mi.2.1 pc = .ok (.invokevirtual 122, 3)) (hp : pc + 3 = pc') (hm : mi.1.cls = RX2) (hi : i < 14) (hst : (rest.map fun v => v.category).sum ≤ 8) (hM : jq_M G d mi_J0_length_8abf5 (.ref (1000 + i) :: []) σ (jr_k (fun x σ' => jq_R G (d + 1) mi K pc' L (x :: rest) σ'))) : jq_R G (d + 1) mi K pc L (.ref (1000 + i) :: rest) σ := jq_callStr (As := []) (y := mi_J0_length_8abf5) (by rw [hm]; exact ok_X2_122) rfl hi rfl hst pc' hdg hp rfl (jq_M_mono jq_k_to hM)
theorem qs_X2_128 {G : jq_G} {d : Nat} {mi : jr_MI} {K : Option Value → jr_Sg → Prop} {pc : Nat} {L : List (Option Value)} {rest : List Value} {σ : jr_Sg} {a1 : Value} {i : Nat} (pc' : Nat) (hdg : decode mi.2.1 pc = .ok (.invokevirtual 128, 3)) (hp : pc + 3 = pc') (hm : mi.1.cls = RX2) (hi : i < 14) (hst : (rest.map fun v => v.category).sum ≤ 8) (hM : jq_M G d mi_J0_charAt_5068e (.ref (1000 + i) :: [a1]) σ (jr_k (fun x σ' => jq_R G (d + 1) mi K pc' L (x :: rest) σ'))) : jq_R G (d + 1) mi K pc L (a1 :: .ref (1000 + i) :: rest) σ := jq_callStr (As := [a1]) (y := mi_J0_charAt_5068e) (by rw [hm]; exact ok_X2_128) rfl hi rfl hst pc' hdg hp rfl (jq_M_mono jq_k_to hM)
theorem jq_topi {G : jq_G} {d : Nat} {mi : jr_MI} {K : Option Value → jr_Sg → Prop} {pc : Nat} {L : List (Option Value)} {st : List Value} {σ : jr_Sg} {x y : Int32} (e : x = y) (kk : jq_R G d mi K pc L (.int y :: st) σ) : jq_R G d mi K pc L (.int x :: st) σ := by
  rw [e]
  exact kk
theorem jq_iale {G : jq_G} {d : Nat} {mi : jr_MI} {K : Option Value → jr_Sg → Prop} {pc : Nat} {L : List (Option Value)} {st : List Value} {σ : jr_Sg} {i n k : Nat} {j v : Int32} (hsh : (jq_shp G)[i]? = some (.inl n)) (hj : j = nI k) (hk : k < n) (hv : σ i k = v) (pc' : Nat) (hdg : decode mi.2.1 pc = .ok (.iaload, 1)) (hp : pc + 1 = pc') (kk : jq_R G d mi K pc' L (.int v :: st) σ) : jq_R G d mi K pc L (.int j :: .ref i :: st) σ := jq_iald hsh hj hk pc' hdg hp (by rw [hv]; exact kk)
