theorem jq_of {G : jr_G} {d : Nat} {mi : jr_MI} {a : List Value} {σ : jr_Sg} {K : Option Value → jr_Sg → Prop} (h : jr_M G d mi a σ K) : jq_M (jq_up G) d mi a σ K := by
  intro l p e ha hc hk s m args below hf hap hpre hq
  have hF : jr_F G s s.heap := by
    obtain ⟨h1, h2, h3, h4⟩ := hpre.2.1
    refine ⟨?_, h2, h3, ?_⟩
    · have := h1.1
      rw [jq_up_shp, jr_N_eq] at this
      exact this
    · unfold jq_ZH at h4
      rw [jq_up_A] at h4
      exact h4
  obtain ⟨k, o, h1, h2, h3, ⟨⟨⟨v, σ', q1, q2, q3⟩, q4⟩, q5⟩⟩ := h l p e ha hc hk s m args below hf hap ⟨hpre.1, hF, hpre.2.2⟩ hq
  refine ⟨k, o, h1, h2, h3, ⟨⟨⟨v, σ', q1, q2, q3⟩, ?_⟩, ?_⟩⟩
  · rw [jq_up_A]
    exact q4
  · rw [jq_up_A]
    exact q5
-- what nobody writes, apart from all of A
def jz_ZH (ad : Nat → Nat) (A : Nat → Prop) (U : State) (H : Heap) : Prop :=
  vk_S 14 jr_len jr_byt (fun i => ad (1000 + i)) (fun i => ad (1100 + i)) A U H ∧
  va_Z "GoneRed$Kind" "ABOVE" "[I" (.ref (ad 1200)) A U H ∧
  va_T .int (ad 1200) 6 (fun j => .int (jr_abv.getD j 0)) A U H ∧
  va_Z "java/lang/String" "COMPACT_STRINGS" "Z" (.int 1) A U H ∧
  (va_Z "jdk/internal/util/Preconditions" "SIOOBE_FORMATTER" "Ljava/util/function/BiFunction;" .null A U H ∨ va_Z "jdk/internal/util/Preconditions" "SIOOBE_FORMATTER" "Ljava/util/function/BiFunction;" (.ref (ad 1300)) A U H)
theorem jz_ZH.narrow {ad : Nat → Nat} {A A' : Nat → Prop} {U : State} {H : Heap} (h : jz_ZH ad A U H) (hA : ∀ q, A' q → A q) : jz_ZH ad A' U H :=
  ⟨h.1.narrow hA, h.2.1.narrow hA, h.2.2.1.narrow hA, h.2.2.2.1.narrow hA, h.2.2.2.2.imp (fun q => q.narrow hA) (fun q => q.narrow hA)⟩
theorem jz_ZH.kept {ad : Nat → Nat} {A : Nat → Prop} {U : State} {H H1 : Heap} (h : jz_ZH ad A U H) (hq : ∀ a : Nat, a < H.size → ¬ A a → H1[a]? = H[a]?) : jz_ZH ad A U H1 :=
  ⟨h.1.kept hq, h.2.1.kept hq, h.2.2.1.kept hq, h.2.2.2.1.kept hq, h.2.2.2.2.imp (fun q => q.kept hq) (fun q => q.kept hq)⟩
theorem jz_ZH.moved {ad : Nat → Nat} {A : Nat → Prop} {u U : State} {H : Heap} (hvm : u.vm.Alike U.vm) (h : jz_ZH ad A u H) : jz_ZH ad A U H :=
  ⟨h.1.moved hvm, h.2.1.moved hvm, h.2.2.1.moved hvm, h.2.2.2.1.moved hvm, h.2.2.2.2.imp (fun q => q.moved hvm) (fun q => q.moved hvm)⟩
def jz_ZT (ad : Nat → Nat) (U : State) : Prop :=
  (∀ i, i < 14 → vk_R (jr_str.getD i ("", 0, "")).1 (jr_str.getD i ("", 0, "")).2.1 (jr_str.getD i ("", 0, "")).2.2 (ad (1000 + i)) U) ∧
  va_Nw (.methodLinkNest RX3 56 yX9_isSeat RX9) U
theorem jz_ZT.same {ad : Nat → Nat} {u U : State} (hv : U.vm = u.vm) (h : jz_ZT ad u) : jz_ZT ad U :=
  ⟨fun i hi => vk_R.same hv (h.1 i hi), va_Nw.same rfl hv.symm h.2⟩
theorem jz_ZT.warm {ad : Nat → Nat} {s U : State} (hW : s.WarmedH U.vm) (h : jz_ZT ad s) : jz_ZT ad U :=
  ⟨fun i hi => vk_R.warm hW (h.1 i hi), va_Nw.warmM hW h.2⟩
def jz_F (G : jq_G) (A : Nat → Prop) (U : State) (H : Heap) : Prop := jq_D G ∧ va_K G.1 vwCl [(G.2.1, .int)] U ∧ jz_ZT G.2.2.1 U ∧ jz_ZH G.2.2.1 A U H ∧ ∀ q, jq_A G q → A q
theorem jz_F.jq {G : jq_G} {A : Nat → Prop} {U : State} {H H1 : Heap} {locs : List Loc} (h : jz_F G A U H) (hS : va_S A H H1 locs) : jq_F G U H1 :=
  ⟨h.1, h.2.1, h.2.2.1, (h.2.2.2.1.kept hS.2.1).narrow h.2.2.2.2⟩
def jz_C (p : Program) (s : State) (m : MethodId) (args : Array Value) (c : Code) (A : Nat → Prop) (G : jq_G) (mi : jr_MI) : Prop := p.tables.exec = Jvm.exec ∧ c.code = mi.2.1 ∧ c.maxLocals = mi.2.2.1 ∧ s.vm.findClass mi.1.cls = some m.cls ∧ (∀ w ∈ jr_WL, w.before args s = true) ∧ jz_F G A s s.heap
def jz_R (p : Program) (l : Launch) (e : Env) (rm : Room) (s : State) (m : MethodId) (args : Array Value) (below : List Frame) (meth : Method) (c : Code) (A : Nat → Prop) (nc ns : Nat) (Q : State → Prop) (G : jq_G) (mi : jr_MI) (pc : Nat) (L : List (Option Value)) (st : List Value) (σ : jr_Sg) : Prop :=
  ∀ (H : Heap) (locs : List Loc) (ls : Array Slot), va_P G.1 vwCl (jq_ws G σ) H → va_S A s.heap H locs → jr_L G.2.2.1 ls mi.2.2.1 L → W p l e rm s m args below meth c H locs nc ns Q (F0 m pc ls (st.map (jr_v G.2.2.1)))
section JZ
variable {p : Program} {l : Launch} {e : Env} {rm : Room} {s : State} {m : MethodId} {args : Array Value} {below : List Frame} {meth : Method} {c : Code} {A : Nat → Prop} {nc ns : Nat} {Q : State → Prop} {G : jq_G} {mi : jr_MI} {pc : Nat} {L : List (Option Value)} {st : List Value} {σ : jr_Sg}
theorem jz_iconst (hC : jz_C p s m args c A G mi) {n : Int} (v : Int32) (pc' : Nat) (hdg : decode mi.2.1 pc = .ok (.iconst n, 1)) (hp : pc + 1 = pc') (hv : Int32.ofInt n = v) (kk : jz_R p l e rm s m args below meth c A nc ns Q G mi pc' L (.int v :: st) σ) : jz_R p l e rm s m args below meth c A nc ns Q G mi pc L st σ := by
  subst hp
  obtain ⟨hx, hb, hml, hown, hts, hF⟩ := hC
  intro H locs ls hP hS hl
  exact lv_iconst hx hb hdg hv (kk H locs ls hP hS hl)
theorem jz_bipush (hC : jz_C p s m args c A G mi) {n : Int} (v : Int32) (pc' : Nat) (hdg : decode mi.2.1 pc = .ok (.bipush n, 2)) (hp : pc + 2 = pc') (hv : (Int8.ofInt n).toInt32 = v) (kk : jz_R p l e rm s m args below meth c A nc ns Q G mi pc' L (.int v :: st) σ) : jz_R p l e rm s m args below meth c A nc ns Q G mi pc L st σ := by
  subst hp
  obtain ⟨hx, hb, hml, hown, hts, hF⟩ := hC
  intro H locs ls hP hS hl
  exact lv_bipush hx hb hdg hv (kk H locs ls hP hS hl)
theorem jz_sipush (hC : jz_C p s m args c A G mi) {n : Int} (v : Int32) (pc' : Nat) (hdg : decode mi.2.1 pc = .ok (.sipush n, 3)) (hp : pc + 3 = pc') (hv : (Int16.ofInt n).toInt32 = v) (kk : jz_R p l e rm s m args below meth c A nc ns Q G mi pc' L (.int v :: st) σ) : jz_R p l e rm s m args below meth c A nc ns Q G mi pc L st σ := by
  subst hp
  obtain ⟨hx, hb, hml, hown, hts, hF⟩ := hC
  intro H locs ls hP hS hl
  exact lv_sipush hx hb hdg hv (kk H locs ls hP hS hl)
theorem jz_iload_n (hC : jz_C p s m args c A G mi) {k : Fin 4} (i : Nat) {x : Int32} (pc' : Nat) (hdg : decode mi.2.1 pc = .ok (.iload_n k, 1)) (hp : pc + 1 = pc') (hi : (k : Nat) = i) (hx0 : L[i]? = some (some (.int x))) (kk : jz_R p l e rm s m args below meth c A nc ns Q G mi pc' L (.int x :: st) σ) : jz_R p l e rm s m args below meth c A nc ns Q G mi pc L st σ := by
  subst hp
  obtain ⟨hx, hb, hml, hown, hts, hF⟩ := hC
  intro H locs ls hP hS hl
  exact lv_iload_n hx hb hdg hi (hl.2.2 i _ hx0) (kk H locs ls hP hS hl)
theorem jz_iload (hC : jz_C p s m args c A G mi) {i : Nat} {x : Int32} (pc' : Nat) (hdg : decode mi.2.1 pc = .ok (.iload i, 2)) (hp : pc + 2 = pc') (hx0 : L[i]? = some (some (.int x))) (kk : jz_R p l e rm s m args below meth c A nc ns Q G mi pc' L (.int x :: st) σ) : jz_R p l e rm s m args below meth c A nc ns Q G mi pc L st σ := by
  subst hp
  obtain ⟨hx, hb, hml, hown, hts, hF⟩ := hC
  intro H locs ls hP hS hl
  exact lv_iload hx hb hdg (hl.2.2 i _ hx0) (kk H locs ls hP hS hl)
theorem jz_aload_n (hC : jz_C p s m args c A G mi) {k : Fin 4} (i : Nat) {x : Nat} (pc' : Nat) (hdg : decode mi.2.1 pc = .ok (.aload_n k, 1)) (hp : pc + 1 = pc') (hi : (k : Nat) = i) (hx0 : L[i]? = some (some (.ref x))) (kk : jz_R p l e rm s m args below meth c A nc ns Q G mi pc' L (.ref x :: st) σ) : jz_R p l e rm s m args below meth c A nc ns Q G mi pc L st σ := by
  subst hp
  obtain ⟨hx, hb, hml, hown, hts, hF⟩ := hC
  intro H locs ls hP hS hl
  exact lv_aload_n hx hb hdg hi (hl.2.2 i _ hx0) (kk H locs ls hP hS hl)
theorem jz_aload (hC : jz_C p s m args c A G mi) {i : Nat} {x : Nat} (pc' : Nat) (hdg : decode mi.2.1 pc = .ok (.aload i, 2)) (hp : pc + 2 = pc') (hx0 : L[i]? = some (some (.ref x))) (kk : jz_R p l e rm s m args below meth c A nc ns Q G mi pc' L (.ref x :: st) σ) : jz_R p l e rm s m args below meth c A nc ns Q G mi pc L st σ := by
  subst hp
  obtain ⟨hx, hb, hml, hown, hts, hF⟩ := hC
  intro H locs ls hP hS hl
  exact lv_aload hx hb hdg (hl.2.2 i _ hx0) (kk H locs ls hP hS hl)
theorem jz_istore_n (hC : jz_C p s m args c A G mi) {k : Fin 4} (i : Nat) {x : Int32} {L' : List (Option Value)} (pc' : Nat) (hdg : decode mi.2.1 pc = .ok (.istore_n k, 1)) (hp : pc + 1 = pc') (hi : (k : Nat) = i) (hn : i < mi.2.2.1) (hL : jr_s1 L i (.int x) = L') (kk : jz_R p l e rm s m args below meth c A nc ns Q G mi pc' L' st σ) : jz_R p l e rm s m args below meth c A nc ns Q G mi pc L (.int x :: st) σ := by
  subst hp
  subst hL
  obtain ⟨hx, hb, hml, hown, hts, hF⟩ := hC
  intro H locs ls hP hS hl
  exact lv_istore_n hx hb hdg hi (jr_L_has hl) hn rfl (fun ls' hl' => kk H locs ls' hP hS  (jr_s1_has (v := .int x) hl'))
theorem jz_istore (hC : jz_C p s m args c A G mi) {i : Nat} {x : Int32} {L' : List (Option Value)} (pc' : Nat) (hdg : decode mi.2.1 pc = .ok (.istore i, 2)) (hp : pc + 2 = pc') (hn : i < mi.2.2.1) (hL : jr_s1 L i (.int x) = L') (kk : jz_R p l e rm s m args below meth c A nc ns Q G mi pc' L' st σ) : jz_R p l e rm s m args below meth c A nc ns Q G mi pc L (.int x :: st) σ := by
  subst hp
  subst hL
  obtain ⟨hx, hb, hml, hown, hts, hF⟩ := hC
  intro H locs ls hP hS hl
  exact lv_istore hx hb hdg (jr_L_has hl) hn rfl (fun ls' hl' => kk H locs ls' hP hS  (jr_s1_has (v := .int x) hl'))
theorem jz_astore_n (hC : jz_C p s m args c A G mi) {k : Fin 4} (i : Nat) {x : Nat} {L' : List (Option Value)} (pc' : Nat) (hdg : decode mi.2.1 pc = .ok (.astore_n k, 1)) (hp : pc + 1 = pc') (hi : (k : Nat) = i) (hn : i < mi.2.2.1) (hL : jr_s1 L i (.ref x) = L') (kk : jz_R p l e rm s m args below meth c A nc ns Q G mi pc' L' st σ) : jz_R p l e rm s m args below meth c A nc ns Q G mi pc L (.ref x :: st) σ := by
  subst hp
  subst hL
  obtain ⟨hx, hb, hml, hown, hts, hF⟩ := hC
  intro H locs ls hP hS hl
  exact lv_astore_n hx hb hdg hi (jr_L_has hl) hn rfl (fun ls' hl' => kk H locs ls' hP hS  (jr_s1_has (v := .ref x) hl'))
theorem jz_iinc (hC : jz_C p s m args c A G mi) {i : Nat} {n : Int} {x v : Int32} {L' : List (Option Value)} (pc' : Nat) (hdg : decode mi.2.1 pc = .ok (.iinc i n, 3)) (hp : pc + 3 = pc') (hx0 : L[i]? = some (some (.int x))) (hv : x + Int32.ofInt n = v) (hn : i < mi.2.2.1) (hL : jr_s1 L i (.int v) = L') (kk : jz_R p l e rm s m args below meth c A nc ns Q G mi pc' L' st σ) : jz_R p l e rm s m args below meth c A nc ns Q G mi pc L st σ := by
  subst hp
  subst hL
  obtain ⟨hx, hb, hml, hown, hts, hF⟩ := hC
  intro H locs ls hP hS hl
  obtain ⟨k, hk⟩ := List.getElem?_of_mem (jr_pr_mem (ad := G.2.2.1) L 0 i _ hx0)
  rw [Nat.zero_add] at hk
  exact lv_iinc hx hb hdg (jr_L_has hl) (k := k) hk hv hn rfl (fun ls' hl' => kk H locs ls' hP hS  (jr_s1_has (v := .int v) hl'))
theorem jz_iadd (hC : jz_C p s m args c A G mi) {x y : Int32} (pc' : Nat) (hdg : decode mi.2.1 pc = .ok (.iadd, 1)) (hp : pc + 1 = pc') (kk : jz_R p l e rm s m args below meth c A nc ns Q G mi pc' L (.int (x + y) :: st) σ) : jz_R p l e rm s m args below meth c A nc ns Q G mi pc L (.int y :: .int x :: st) σ := by
  subst hp
  obtain ⟨hx, hb, hml, hown, hts, hF⟩ := hC
  intro H locs ls hP hS hl
  exact lv_iadd hx hb hdg (kk H locs ls hP hS hl)
theorem jz_isub (hC : jz_C p s m args c A G mi) {x y : Int32} (pc' : Nat) (hdg : decode mi.2.1 pc = .ok (.isub, 1)) (hp : pc + 1 = pc') (kk : jz_R p l e rm s m args below meth c A nc ns Q G mi pc' L (.int (x - y) :: st) σ) : jz_R p l e rm s m args below meth c A nc ns Q G mi pc L (.int y :: .int x :: st) σ := by
  subst hp
  obtain ⟨hx, hb, hml, hown, hts, hF⟩ := hC
  intro H locs ls hP hS hl
  exact lv_isub hx hb hdg (kk H locs ls hP hS hl)
theorem jz_iand (hC : jz_C p s m args c A G mi) {x y : Int32} (pc' : Nat) (hdg : decode mi.2.1 pc = .ok (.iand, 1)) (hp : pc + 1 = pc') (kk : jz_R p l e rm s m args below meth c A nc ns Q G mi pc' L (.int (x &&& y) :: st) σ) : jz_R p l e rm s m args below meth c A nc ns Q G mi pc L (.int y :: .int x :: st) σ := by
  subst hp
  obtain ⟨hx, hb, hml, hown, hts, hF⟩ := hC
  intro H locs ls hP hS hl
  exact lv_iand hx hb hdg (kk H locs ls hP hS hl)
theorem jz_lcmp (hC : jz_C p s m args c A G mi) {x y : Int64} (pc' : Nat) (hdg : decode mi.2.1 pc = .ok (.lcmp, 1)) (hp : pc + 1 = pc') (kk : jz_R p l e rm s m args below meth c A nc ns Q G mi pc' L (.int (lg_cmp x y) :: st) σ) : jz_R p l e rm s m args below meth c A nc ns Q G mi pc L (.long y :: .long x :: st) σ := by
  subst hp
  obtain ⟨hx, hb, hml, hown, hts, hF⟩ := hC
  intro H locs ls hP hS hl
  exact W.lcmp hx hb hdg (kk H locs ls hP hS hl)
theorem jz_dup (hC : jz_C p s m args c A G mi) {v : Value} (pc' : Nat) (hdg : decode mi.2.1 pc = .ok (.dup, 1)) (hp : pc + 1 = pc') (hc : v.category = 1) (kk : jz_R p l e rm s m args below meth c A nc ns Q G mi pc' L (v :: v :: st) σ) : jz_R p l e rm s m args below meth c A nc ns Q G mi pc L (v :: st) σ := by
  subst hp
  obtain ⟨hx, hb, hml, hown, hts, hF⟩ := hC
  intro H locs ls hP hS hl
  exact lv_dup hx hb hdg (by rw [jr_v_cat]; exact hc) (kk H locs ls hP hS hl)
theorem jz_pop (hC : jz_C p s m args c A G mi) {v : Value} (pc' : Nat) (hdg : decode mi.2.1 pc = .ok (.pop, 1)) (hp : pc + 1 = pc') (hc : v.category = 1) (kk : jz_R p l e rm s m args below meth c A nc ns Q G mi pc' L st σ) : jz_R p l e rm s m args below meth c A nc ns Q G mi pc L (v :: st) σ := by
  subst hp
  obtain ⟨hx, hb, hml, hown, hts, hF⟩ := hC
  intro H locs ls hP hS hl
  exact lv_pop hx hb hdg (by rw [jr_v_cat]; exact hc) (kk H locs ls hP hS hl)
theorem jz_if_eq (hC : jz_C p s m args c A G mi) {x : Int32} {off : Int} (tgt pc' : Nat) (hdg : decode mi.2.1 pc = .ok (.ifCond .eq off, 3)) (hp : pc + 3 = pc') (ht : (pc : Int) + off = (tgt : Int)) (kt : x = 0 → jz_R p l e rm s m args below meth c A nc ns Q G mi tgt L st σ) (kf : ¬ x = 0 → jz_R p l e rm s m args below meth c A nc ns Q G mi pc' L st σ) : jz_R p l e rm s m args below meth c A nc ns Q G mi pc L (.int x :: st) σ := by
  subst hp
  obtain ⟨hx, hb, hml, hown, hts, hF⟩ := hC
  intro H locs ls hP hS hl
  exact lv_if_eq hx hb hdg ht (fun q => kt q H locs ls hP hS hl) (fun q => kf q H locs ls hP hS hl)
theorem jz_icmp_eq (hC : jz_C p s m args c A G mi) {x y : Int32} {off : Int} (tgt pc' : Nat) (hdg : decode mi.2.1 pc = .ok (.if_icmp .eq off, 3)) (hp : pc + 3 = pc') (ht : (pc : Int) + off = (tgt : Int)) (kt : x = y → jz_R p l e rm s m args below meth c A nc ns Q G mi tgt L st σ) (kf : ¬ x = y → jz_R p l e rm s m args below meth c A nc ns Q G mi pc' L st σ) : jz_R p l e rm s m args below meth c A nc ns Q G mi pc L (.int y :: .int x :: st) σ := by
  subst hp
  obtain ⟨hx, hb, hml, hown, hts, hF⟩ := hC
  intro H locs ls hP hS hl
  exact lv_icmp_eq hx hb hdg ht (fun q => kt q H locs ls hP hS hl) (fun q => kf q H locs ls hP hS hl)
theorem jz_if_ne (hC : jz_C p s m args c A G mi) {x : Int32} {off : Int} (tgt pc' : Nat) (hdg : decode mi.2.1 pc = .ok (.ifCond .ne off, 3)) (hp : pc + 3 = pc') (ht : (pc : Int) + off = (tgt : Int)) (kt : ¬ x = 0 → jz_R p l e rm s m args below meth c A nc ns Q G mi tgt L st σ) (kf : x = 0 → jz_R p l e rm s m args below meth c A nc ns Q G mi pc' L st σ) : jz_R p l e rm s m args below meth c A nc ns Q G mi pc L (.int x :: st) σ := by
  subst hp
  obtain ⟨hx, hb, hml, hown, hts, hF⟩ := hC
  intro H locs ls hP hS hl
  exact lv_if_ne hx hb hdg ht (fun q => kt q H locs ls hP hS hl) (fun q => kf q H locs ls hP hS hl)
theorem jz_icmp_ne (hC : jz_C p s m args c A G mi) {x y : Int32} {off : Int} (tgt pc' : Nat) (hdg : decode mi.2.1 pc = .ok (.if_icmp .ne off, 3)) (hp : pc + 3 = pc') (ht : (pc : Int) + off = (tgt : Int)) (kt : ¬ x = y → jz_R p l e rm s m args below meth c A nc ns Q G mi tgt L st σ) (kf : x = y → jz_R p l e rm s m args below meth c A nc ns Q G mi pc' L st σ) : jz_R p l e rm s m args below meth c A nc ns Q G mi pc L (.int y :: .int x :: st) σ := by
  subst hp
  obtain ⟨hx, hb, hml, hown, hts, hF⟩ := hC
  intro H locs ls hP hS hl
  exact lv_icmp_ne hx hb hdg ht (fun q => kt q H locs ls hP hS hl) (fun q => kf q H locs ls hP hS hl)
theorem jz_if_lt (hC : jz_C p s m args c A G mi) {x : Int32} {off : Int} (tgt pc' : Nat) (hdg : decode mi.2.1 pc = .ok (.ifCond .lt off, 3)) (hp : pc + 3 = pc') (ht : (pc : Int) + off = (tgt : Int)) (kt : x < 0 → jz_R p l e rm s m args below meth c A nc ns Q G mi tgt L st σ) (kf : ¬ x < 0 → jz_R p l e rm s m args below meth c A nc ns Q G mi pc' L st σ) : jz_R p l e rm s m args below meth c A nc ns Q G mi pc L (.int x :: st) σ := by
  subst hp
  obtain ⟨hx, hb, hml, hown, hts, hF⟩ := hC
  intro H locs ls hP hS hl
  exact lv_if_lt hx hb hdg ht (fun q => kt q H locs ls hP hS hl) (fun q => kf q H locs ls hP hS hl)
theorem jz_icmp_lt (hC : jz_C p s m args c A G mi) {x y : Int32} {off : Int} (tgt pc' : Nat) (hdg : decode mi.2.1 pc = .ok (.if_icmp .lt off, 3)) (hp : pc + 3 = pc') (ht : (pc : Int) + off = (tgt : Int)) (kt : x < y → jz_R p l e rm s m args below meth c A nc ns Q G mi tgt L st σ) (kf : ¬ x < y → jz_R p l e rm s m args below meth c A nc ns Q G mi pc' L st σ) : jz_R p l e rm s m args below meth c A nc ns Q G mi pc L (.int y :: .int x :: st) σ := by
  subst hp
  obtain ⟨hx, hb, hml, hown, hts, hF⟩ := hC
  intro H locs ls hP hS hl
  exact lv_icmp_lt hx hb hdg ht (fun q => kt q H locs ls hP hS hl) (fun q => kf q H locs ls hP hS hl)
theorem jz_if_ge (hC : jz_C p s m args c A G mi) {x : Int32} {off : Int} (tgt pc' : Nat) (hdg : decode mi.2.1 pc = .ok (.ifCond .ge off, 3)) (hp : pc + 3 = pc') (ht : (pc : Int) + off = (tgt : Int)) (kt : 0 ≤ x → jz_R p l e rm s m args below meth c A nc ns Q G mi tgt L st σ) (kf : ¬ 0 ≤ x → jz_R p l e rm s m args below meth c A nc ns Q G mi pc' L st σ) : jz_R p l e rm s m args below meth c A nc ns Q G mi pc L (.int x :: st) σ := by
  subst hp
  obtain ⟨hx, hb, hml, hown, hts, hF⟩ := hC
  intro H locs ls hP hS hl
  exact lv_if_ge hx hb hdg ht (fun q => kt q H locs ls hP hS hl) (fun q => kf q H locs ls hP hS hl)
theorem jz_icmp_ge (hC : jz_C p s m args c A G mi) {x y : Int32} {off : Int} (tgt pc' : Nat) (hdg : decode mi.2.1 pc = .ok (.if_icmp .ge off, 3)) (hp : pc + 3 = pc') (ht : (pc : Int) + off = (tgt : Int)) (kt : y ≤ x → jz_R p l e rm s m args below meth c A nc ns Q G mi tgt L st σ) (kf : ¬ y ≤ x → jz_R p l e rm s m args below meth c A nc ns Q G mi pc' L st σ) : jz_R p l e rm s m args below meth c A nc ns Q G mi pc L (.int y :: .int x :: st) σ := by
  subst hp
  obtain ⟨hx, hb, hml, hown, hts, hF⟩ := hC
  intro H locs ls hP hS hl
  exact lv_icmp_ge hx hb hdg ht (fun q => kt q H locs ls hP hS hl) (fun q => kf q H locs ls hP hS hl)
theorem jz_icmp_gt (hC : jz_C p s m args c A G mi) {x y : Int32} {off : Int} (tgt pc' : Nat) (hdg : decode mi.2.1 pc = .ok (.if_icmp .gt off, 3)) (hp : pc + 3 = pc') (ht : (pc : Int) + off = (tgt : Int)) (kt : y < x → jz_R p l e rm s m args below meth c A nc ns Q G mi tgt L st σ) (kf : ¬ y < x → jz_R p l e rm s m args below meth c A nc ns Q G mi pc' L st σ) : jz_R p l e rm s m args below meth c A nc ns Q G mi pc L (.int y :: .int x :: st) σ := by
  subst hp
  obtain ⟨hx, hb, hml, hown, hts, hF⟩ := hC
  intro H locs ls hP hS hl
  exact lv_icmp_gt hx hb hdg ht (fun q => kt q H locs ls hP hS hl) (fun q => kf q H locs ls hP hS hl)
theorem jz_icmp_le (hC : jz_C p s m args c A G mi) {x y : Int32} {off : Int} (tgt pc' : Nat) (hdg : decode mi.2.1 pc = .ok (.if_icmp .le off, 3)) (hp : pc + 3 = pc') (ht : (pc : Int) + off = (tgt : Int)) (kt : x ≤ y → jz_R p l e rm s m args below meth c A nc ns Q G mi tgt L st σ) (kf : ¬ x ≤ y → jz_R p l e rm s m args below meth c A nc ns Q G mi pc' L st σ) : jz_R p l e rm s m args below meth c A nc ns Q G mi pc L (.int y :: .int x :: st) σ := by
  subst hp
  obtain ⟨hx, hb, hml, hown, hts, hF⟩ := hC
  intro H locs ls hP hS hl
  exact lv_icmp_le hx hb hdg ht (fun q => kt q H locs ls hP hS hl) (fun q => kf q H locs ls hP hS hl)
theorem jz_goto (hC : jz_C p s m args c A G mi) {off : Int} (tgt : Nat) (hdg : decode mi.2.1 pc = .ok (.goto off, 3)) (ht : (pc : Int) + off = (tgt : Int)) (kk : jz_R p l e rm s m args below meth c A nc ns Q G mi tgt L st σ) : jz_R p l e rm s m args below meth c A nc ns Q G mi pc L st σ := by
  obtain ⟨hx, hb, hml, hown, hts, hF⟩ := hC
  intro H locs ls hP hS hl
  exact lv_goto hx hb hdg ht (kk H locs ls hP hS hl)
theorem jz_tableOut (hC : jz_C p s m args c A G mi) {x : Int32} {dflt lo hi : Int} {offs : Array Int} {len : Nat} (tgt : Nat) (hdg : decode mi.2.1 pc = .ok (.tableswitch dflt lo hi offs, len)) (h : x.toInt < lo ∨ hi < x.toInt) (ht : (pc : Int) + dflt = (tgt : Int)) (kk : jz_R p l e rm s m args below meth c A nc ns Q G mi tgt L st σ) : jz_R p l e rm s m args below meth c A nc ns Q G mi pc L (.int x :: st) σ := by
  obtain ⟨hx, hb, hml, hown, hts, hF⟩ := hC
  intro H locs ls hP hS hl
  exact lv_tableOut hx hb hdg h ht (kk H locs ls hP hS hl)
theorem jz_tableIn (hC : jz_C p s m args c A G mi) {x : Int32} {dflt lo hi : Int} {offs : Array Int} {len : Nat} {off : Int} (tgt : Nat) (hdg : decode mi.2.1 pc = .ok (.tableswitch dflt lo hi offs, len)) (h1 : ¬ x.toInt < lo) (h2 : ¬ hi < x.toInt) (ho : offs[(x.toInt - lo).toNat]? = some off) (ht : (pc : Int) + off = (tgt : Int)) (kk : jz_R p l e rm s m args below meth c A nc ns Q G mi tgt L st σ) : jz_R p l e rm s m args below meth c A nc ns Q G mi pc L (.int x :: st) σ := by
  obtain ⟨hx, hb, hml, hown, hts, hF⟩ := hC
  intro H locs ls hP hS hl
  exact lv_tableIn hx hb hdg h1 h2 ho ht (kk H locs ls hP hS hl)
theorem jz_get (hC : jz_C p s m args c A G mi) {idx ci N k i : Nat} {C : String} {T : u_T} {fl : List (Option Nat)} {o : Option Nat} (hlay : ∀ w ∈ u_ws C T N, w ∈ jr_WL) (hcl : vwCl[ci]? = some (C, T, N)) (hk : k < N) (hTC : (T k).1 = C) (hlink : Cond.fieldLink mi.1.cls idx C (T k).2.1 (T k).2.2.1 ∈ jr_WL) (hsh : (jq_shp G)[i]? = some (.inr (ci, fl))) (ho : fl[k]? = some o) {v : Value} (hv : jr_v G.2.2.1 v = jr_fv G.2.2.1 (σ i k) o) (pc' : Nat) (hdg : decode mi.2.1 pc = .ok (.getfield idx, 3)) (hp : pc + 3 = pc') (kk : jz_R p l e rm s m args below meth c A nc ns Q G mi pc' L (v :: st) σ) : jz_R p l e rm s m args below meth c A nc ns Q G mi pc L (.ref i :: st) σ := by
  subst hp
  obtain ⟨hx, hb, hml, hown, hts, hF⟩ := hC
  intro H locs ls hP hS hl
  refine va_get (own := mi.1.cls) (ref := C) (C := C) (T := T) (N := N) (index := idx) hx hb hts (fun w h => hlay w h) hown hF.2.1 hP i (jq_ws_get hsh) hcl k hk (hts _ hlink) (by rw [hTC]; exact fun _ h => h) (v := jr_v G.2.2.1 v) ?_ hdg (kk H locs ls hP hS hl)
  rw [hv]
  simp [List.getElem?_mapIdx, ho]
theorem jz_getI (hC : jz_C p s m args c A G mi) {idx ci N k i : Nat} {C : String} {T : u_T} {fl : List (Option Nat)} (hlay : ∀ w ∈ u_ws C T N, w ∈ jr_WL) (hcl : vwCl[ci]? = some (C, T, N)) (hk : k < N) (hTC : (T k).1 = C) (hlink : Cond.fieldLink mi.1.cls idx C (T k).2.1 (T k).2.2.1 ∈ jr_WL) (hsh : (jq_shp G)[i]? = some (.inr (ci, fl))) (ho : fl[k]? = some none) (pc' : Nat) (hdg : decode mi.2.1 pc = .ok (.getfield idx, 3)) (hp : pc + 3 = pc') (kk : jz_R p l e rm s m args below meth c A nc ns Q G mi pc' L (.int (σ i k) :: st) σ) : jz_R p l e rm s m args below meth c A nc ns Q G mi pc L (.ref i :: st) σ := jz_get hC hlay hcl hk hTC hlink hsh ho (v := .int (σ i k)) rfl pc' hdg hp kk
theorem jz_getR (hC : jz_C p s m args c A G mi) {idx ci N k i j : Nat} {C : String} {T : u_T} {fl : List (Option Nat)} (hlay : ∀ w ∈ u_ws C T N, w ∈ jr_WL) (hcl : vwCl[ci]? = some (C, T, N)) (hk : k < N) (hTC : (T k).1 = C) (hlink : Cond.fieldLink mi.1.cls idx C (T k).2.1 (T k).2.2.1 ∈ jr_WL) (hsh : (jq_shp G)[i]? = some (.inr (ci, fl))) (ho : fl[k]? = some (some j)) (pc' : Nat) (hdg : decode mi.2.1 pc = .ok (.getfield idx, 3)) (hp : pc + 3 = pc') (kk : jz_R p l e rm s m args below meth c A nc ns Q G mi pc' L (.ref j :: st) σ) : jz_R p l e rm s m args below meth c A nc ns Q G mi pc L (.ref i :: st) σ := jz_get hC hlay hcl hk hTC hlink hsh ho (v := .ref j) rfl pc' hdg hp kk
theorem jz_put (hC : jz_C p s m args c A G mi) {idx ci N k i : Nat} {C : String} {T : u_T} {fl : List (Option Nat)} {v : Int32} {ty : FieldType} (hlay : ∀ w ∈ u_ws C T N, w ∈ jr_WL) (hcl : vwCl[ci]? = some (C, T, N)) (ty0 : Nat → FieldType) (hty : ∀ k, k < N → parseFieldDescriptor (T k).2.2.1 = some (ty0 k)) (hnm : ∀ a, a < N → ∀ b, b < N → a ≠ b → (T a).2.1 ≠ (T b).2.1) (hk : k < N) (hTC : (T k).1 = C) (hfin : (T k).2.2.2 = false) (hlink : Cond.fieldLink mi.1.cls idx C (T k).2.1 (T k).2.2.1 ∈ jr_WL) (hd : parseFieldDescriptor (T k).2.2.1 = some ty) (hsh : (jq_shp G)[i]? = some (.inr (ci, fl))) (ho : fl[k]? = some none) (hn : narrow ty (.int v) = .int v) (hfit : fits ty (.int v) = true) (pc' : Nat) (hdg : decode mi.2.1 pc = .ok (.putfield idx, 3)) (hp : pc + 3 = pc') (kk : jz_R p l e rm s m args below meth c A nc ns Q G mi pc' L st (jr_up σ i k v)) : jz_R p l e rm s m args below meth c A nc ns Q G mi pc L (.int v :: .ref i :: st) σ := by
  subst hp
  obtain ⟨hx, hb, hml, hown, hts, hF⟩ := hC
  intro H locs ls hP hS hl
  refine va_put (own := mi.1.cls) (ref := C) (C := C) (T := T) (N := N) (index := idx) hx hb hts (fun w h => hlay w h) ty0 hty hnm hown hF.2.1 hP ((jq_vaD hF.1).weaken (fun _ _ _ h => hF.2.2.2.2 _ h)) hS i (jq_ws_get hsh) hcl k hk (hts _ hlink) (by rw [hTC]; exact fun _ h => h) hfin hd hn hfit (by have := (List.getElem?_eq_some_iff.mp ho).1; simpa using this) hdg (fun H1 locs1 hP1 hD1 hS1 => kk H1 locs1 ls ?_ hS1 hl)
  have e := jq_ws_set (G := G) (σ := σ) (upd (σ i) k v) hsh
  rw [jr_up_upc, ← e]
  have e2 : jq_cell G (upd (σ i) k v) (.inr (ci, fl)) = .inr (ci, ((fl.mapIdx (fun k o => jr_fv G.2.2.1 (σ i k) o)).set k (.int v))) := by
    rw [jr_fs_set v ho]; rfl
  rw [e2]
  exact hP1
theorem jz_iald (hC : jz_C p s m args c A G mi) {i n k : Nat} {j : Int32} (hsh : (jq_shp G)[i]? = some (.inl n)) (hj : j = nI k) (hk : k < n) (pc' : Nat) (hdg : decode mi.2.1 pc = .ok (.iaload, 1)) (hp : pc + 1 = pc') (kk : jz_R p l e rm s m args below meth c A nc ns Q G mi pc' L (.int (σ i k) :: st) σ) : jz_R p l e rm s m args below meth c A nc ns Q G mi pc L (.int j :: .ref i :: st) σ := by
  subst hp
  subst hj
  obtain ⟨hx, hb, hml, hown, hts, hF⟩ := hC
  intro H locs ls hP hS hl
  have hn := hF.1.2 i n hsh
  refine va_iald hx hb hF.2.1 hP i 0 (jq_ws_get hsh) rfl (vp_in_nI hk hn) hdg ?_
  rw [nI_clamp (Nat.lt_trans hk hn)]
  exact kk H locs ls hP hS hl
theorem jz_iast (hC : jz_C p s m args c A G mi) {i n k : Nat} {j v : Int32} (hsh : (jq_shp G)[i]? = some (.inl n)) (hj : j = nI k) (hk : k < n) (pc' : Nat) (hdg : decode mi.2.1 pc = .ok (.iastore, 1)) (hp : pc + 1 = pc') (kk : jz_R p l e rm s m args below meth c A nc ns Q G mi pc' L st (jr_up σ i k v)) : jz_R p l e rm s m args below meth c A nc ns Q G mi pc L (.int v :: .int j :: .ref i :: st) σ := by
  subst hp
  subst hj
  obtain ⟨hx, hb, hml, hown, hts, hF⟩ := hC
  intro H locs ls hP hS hl
  have hn := hF.1.2 i n hsh
  refine va_iast hx hb hF.2.1 hP ((jq_vaD hF.1).weaken (fun _ _ _ h => hF.2.2.2.2 _ h)) hS i 0 (jq_ws_get hsh) rfl (vp_in_nI hk hn) hdg (fun H1 locs1 hP1 hD1 hS1 => kk H1 locs1 ls ?_ hS1 hl)
  rw [nI_clamp (Nat.lt_trans hk hn)] at hP1
  have e := jq_ws_set (G := G) (σ := σ) (upd (σ i) k v) hsh
  rw [jr_up_upc, ← e]
  exact hP1
theorem jz_alen (hC : jz_C p s m args c A G mi) {i n : Nat} (hsh : (jq_shp G)[i]? = some (.inl n)) (pc' : Nat) (hdg : decode mi.2.1 pc = .ok (.arraylength, 1)) (hp : pc + 1 = pc') (kk : jz_R p l e rm s m args below meth c A nc ns Q G mi pc' L (.int (nI n) :: st) σ) : jz_R p l e rm s m args below meth c A nc ns Q G mi pc L (.ref i :: st) σ := by
  subst hp
  obtain ⟨hx, hb, hml, hown, hts, hF⟩ := hC
  intro H locs ls hP hS hl
  exact va_alen hx hb hF.2.1 hP i 0 (jq_ws_get hsh) rfl (v := nI n) rfl hdg (kk H locs ls hP hS hl)
theorem jz_topi {x y : Int32} (h : x = y) (kk : jz_R p l e rm s m args below meth c A nc ns Q G mi pc L (.int y :: st) σ) : jz_R p l e rm s m args below meth c A nc ns Q G mi pc L (.int x :: st) σ := by
  rw [h]
  exact kk
theorem jz_iale (hC : jz_C p s m args c A G mi) {i n k : Nat} {j v : Int32} (hsh : (jq_shp G)[i]? = some (.inl n)) (hj : j = nI k) (hk : k < n) (hv : σ i k = v) (pc' : Nat) (hdg : decode mi.2.1 pc = .ok (.iaload, 1)) (hp : pc + 1 = pc') (kk : jz_R p l e rm s m args below meth c A nc ns Q G mi pc' L (.int v :: st) σ) : jz_R p l e rm s m args below meth c A nc ns Q G mi pc L (.int j :: .ref i :: st) σ := jz_iald hC hsh hj hk pc' hdg hp (by rw [hv]; exact kk)
theorem jz_ldcS (hC : jz_C p s m args c A G mi) {idx i : Nat} {tx : String} (hi : i < 14) (hs : jr_str.getD i ("", 0, "") = (mi.1.cls, idx, tx)) (pc' : Nat) (hdg : decode mi.2.1 pc = .ok (.ldc idx, 2)) (hp : pc + 2 = pc') (kk : jz_R p l e rm s m args below meth c A nc ns Q G mi pc' L (.ref (1000 + i) :: st) σ) : jz_R p l e rm s m args below meth c A nc ns Q G mi pc L st σ := by
  subst hp
  obtain ⟨hx, hb, hml, hown, hts, hF⟩ := hC
  intro H locs ls hP hS hl
  have h := hF.2.2.1.1 i hi
  rw [hs] at h
  exact va_ldcS hx hb hown h hdg (kk H locs ls hP hS hl)
theorem jz_after {locs : List Loc} {H : Heap} {ls : Array Slot} {a0 : Array Value} {st0 : List Value} {rest : List Value} {pc' : Nat} (hp : pc + 3 = pc')
    (hrun : va_Run p l e rm s m args below meth c H locs nc ns 0 0 (F0 m pc ls st0) (rest.map (jr_v G.2.2.1)) (jq_Q G (fun v σ' => jz_R p l e rm s m args below meth c A nc ns Q G mi pc' L (v.toList ++ rest) σ') a0) (jq_A G))
    (hF : jz_F G A s s.heap) (hS : va_S A s.heap H locs) (hl : jr_L G.2.2.1 ls mi.2.2.1 L) : W p l e rm s m args below meth c H locs nc ns Q (F0 m pc ls st0) := by
  subst hp
  intro T hT X
  obtain ⟨v, st₀, t, T', L1, h0, X', hL1, e1, e2, ⟨⟨v', σ', hv, hK', hP'⟩, hz, hk⟩, st'⟩ := hrun T hT X
  cases hv
  rw [h0] at hz hk
  have hS1 : va_S A s.heap T'.heap (locs ++ L1) := ⟨Nat.le_trans hS.1 (by rw [e1]; exact hz), fun q h1 h2 => by rw [e1, hk q (Nat.lt_of_lt_of_le h1 hS.1) (fun z => h2 (hF.2.2.2.2 q z))]; exact hS.2.1 q h1 h2, fun q hq => by
    rcases List.mem_append.mp hq with h | h
    · exact hS.2.2 q h
    · exact hF.2.2.2.2 _ (hL1 q h)⟩
  have h2 := hK' T'.heap (locs ++ L1) ls (by rw [e1]; exact hP') hS1 hl T' rfl X'
  obtain ⟨t2, a1, b1⟩ := h2
  refine ⟨t2, st' t2 ?_, b1⟩
  have e3 : (v'.map (jr_v G.2.2.1)).toList ++ rest.map (jr_v G.2.2.1) = (v'.toList ++ rest).map (jr_v G.2.2.1) := by cases v' <;> simp
  show Steps p.tables e below (T'.setTop (F0 m (pc + 3) ls ((v'.map (jr_v G.2.2.1)).toList ++ rest.map (jr_v G.2.2.1)))) t2
  rw [e3]
  exact a1
theorem jz_callV (hC : jz_C p s m args c A G mi) {y : jr_MI} {idx n ci N i d : Nat} {T : u_T} {fl : List (Option Nat)} {As rest : List Value} (ok : jr_okV mi.1.cls idx y n) (hcl : vwCl[ci]? = some (y.1.cls, T, N)) (hsh : (jq_shp G)[i]? = some (.inr (ci, fl))) (hn : As.length = n) (hst : (rest.map fun v => v.category).sum ≤ 8) (hR : d + 2 ≤ rm.frames ∧ 64 * (d + 2) ≤ rm.locals ∧ nc ≤ rm.cells ∧ ns ≤ rm.slots) (pc' : Nat) (hdg : decode mi.2.1 pc = .ok (.invokevirtual idx, 3)) (hp : pc + 3 = pc') (hs : st = As.reverse ++ .ref i :: rest) (hM : jq_M G d y (.ref i :: As) σ (fun v σ' => jz_R p l e rm s m args below meth c A nc ns Q G mi pc' L (v.toList ++ rest) σ')) : jz_R p l e rm s m args below meth c A nc ns Q G mi pc L st σ := by
  subst hs
  obtain ⟨hx, hb, hml, hown, hts, hF⟩ := hC
  intro H locs ls hP hS hl
  have hF2 : jq_F G s H := hF.jq hS
  obtain ⟨⟨o1, o2, o3, o4, o5⟩, o6, o7⟩ := ok
  have hG : GoodIn jr_WL (wsV mi.1.cls idx y.1.cls y.1 (jr_wsM y)) := by
    intro w hw
    rcases List.mem_append.mp hw with h | h
    · have h1 : w ∈ jr_WL := by
        simp only [List.mem_cons, List.not_mem_nil, or_false] at h
        rcases h with rfl | rfl | rfl | rfl <;> assumption
      exact ⟨h1, good_of_word (jr_wl_good h1)⟩
    · exact jr_goodIn o5 w h
  have hrm : (jr_room d).frames + 1 ≤ rm.frames ∧ 8 + (y.2.2.1 + 11) + (jr_room d).locals ≤ rm.locals := by
    show d + 1 + 1 ≤ rm.frames ∧ 8 + (y.2.2.1 + 11) + 64 * (d + 1) ≤ rm.locals
    omega
  exact jz_after hp (va_runV (As := As.map (jr_v G.2.2.1)) (rest := rest.map (jr_v G.2.2.1)) (b := G.2.2.1 i) ⟨hx, hb, hml, hown, hts⟩ (hM l) (cwV n hts hG rfl rfl rfl ⟨rfl, o6⟩ hrm)
    ⟨jq_blind, va_recv hF2.2.1 hP hcl (jq_ws_get hsh), fun U hU hW => ⟨rfl, by rw [hU]; exact hF2.warm hW, by rw [hU]; exact hP⟩⟩ rfl (by rw [List.length_map]; exact hn) hl.1 (by simp [jr_v]) (lv_room (jq_cats hst)) hdg ⟨by omega, by omega⟩) hF hS hl
theorem jz_callStr (hC : jz_C p s m args c A G mi) {y : jr_MI} {idx n i d : Nat} {As rest : List Value} (ok : jr_okV mi.1.cls idx y n) (hcls : y.1.cls = RJ0) (hi : i < 14) (hn : As.length = n) (hst : (rest.map fun v => v.category).sum ≤ 8) (hR : d + 2 ≤ rm.frames ∧ 64 * (d + 2) ≤ rm.locals ∧ nc ≤ rm.cells ∧ ns ≤ rm.slots) (pc' : Nat) (hdg : decode mi.2.1 pc = .ok (.invokevirtual idx, 3)) (hp : pc + 3 = pc') (hs : st = As.reverse ++ .ref (1000 + i) :: rest) (hM : jq_M G d y (.ref (1000 + i) :: As) σ (fun v σ' => jz_R p l e rm s m args below meth c A nc ns Q G mi pc' L (v.toList ++ rest) σ')) : jz_R p l e rm s m args below meth c A nc ns Q G mi pc L st σ := by
  subst hs
  obtain ⟨hx, hb, hml, hown, hts, hF⟩ := hC
  intro H locs ls hP hS hl
  have hF2 : jq_F G s H := hF.jq hS
  obtain ⟨⟨o1, o2, o3, o4, o5⟩, o6, o7⟩ := ok
  have hG : GoodIn jr_WL (wsV mi.1.cls idx y.1.cls y.1 (jr_wsM y)) := by
    intro w hw
    rcases List.mem_append.mp hw with h | h
    · have h1 : w ∈ jr_WL := by
        simp only [List.mem_cons, List.not_mem_nil, or_false] at h
        rcases h with rfl | rfl | rfl | rfl <;> assumption
      exact ⟨h1, good_of_word (jr_wl_good h1)⟩
    · exact jr_goodIn o5 w h
  have hrecv := vk_recv hF.2.2.2.1.1 hi hS
  have hrm : (jr_room d).frames + 1 ≤ rm.frames ∧ 8 + (y.2.2.1 + 11) + (jr_room d).locals ≤ rm.locals := by
    show d + 1 + 1 ≤ rm.frames ∧ 8 + (y.2.2.1 + 11) + 64 * (d + 1) ≤ rm.locals
    omega
  exact jz_after hp (va_runV (As := As.map (jr_v G.2.2.1)) (rest := rest.map (jr_v G.2.2.1)) (b := G.2.2.1 (1000 + i)) ⟨hx, hb, hml, hown, hts⟩ (hM l) (cwV n hts hG rfl rfl rfl ⟨rfl, o6⟩ hrm)
    ⟨jq_blind, by rw [hcls]; exact hrecv, fun U hU hW => ⟨rfl, by rw [hU]; exact hF2.warm hW, by rw [hU]; exact hP⟩⟩ rfl (by rw [List.length_map]; exact hn) hl.1 (by simp [jr_v]) (lv_room (jq_cats hst)) hdg ⟨by omega, by omega⟩) hF hS hl
theorem jz_k_to {rest : List Value} : ∀ (v : Option Value) (σ : jr_Sg), jr_k (fun x σ' => jz_R p l e rm s m args below meth c A nc ns Q G mi pc L (x :: rest) σ') v σ → jz_R p l e rm s m args below meth c A nc ns Q G mi pc L (v.toList ++ rest) σ
  | none, _, h => h.elim
  | some _, _, h => h
theorem jz_kv_to {rest : List Value} : ∀ (v : Option Value) (σ : jr_Sg), jr_kv (fun σ' => jz_R p l e rm s m args below meth c A nc ns Q G mi pc L rest σ') v σ → jz_R p l e rm s m args below meth c A nc ns Q G mi pc L (v.toList ++ rest) σ
  | none, _, h => h
  | some _, _, h => h.elim
end JZ
theorem zf_X9_21 {p : Program} {l : Launch} {e : Env} {rm : Room} {s : State} {m : MethodId} {args : Array Value} {below : List Frame} {meth : Method} {c : Code} {A : Nat → Prop} {nc ns : Nat} {Q : State → Prop} {G : jq_G} {mi : jr_MI} (hC : jz_C p s m args c A G mi) {pc : Nat} {L : List (Option Value)} {st : List Value} {σ : jr_Sg} {i : Nat} {fl : List (Option Nat)} {j : Nat} (pc' : Nat) (hdg : decode mi.2.1 pc = .ok (.getfield 21, 3)) (hp : pc + 3 = pc') (hm : mi.1.cls = RX9) (hsh : (jq_shp G)[i]? = some (.inr (7, fl))) (ho : fl[1]? = some (some j)) (kk : jz_R p l e rm s m args below meth c A nc ns Q G mi pc' L (.ref j :: st) σ) : jz_R p l e rm s m args below meth c A nc ns Q G mi pc L (.ref i :: st) σ := jz_getR hC (k := 1) lay_X9 (ci := 7) rfl (by decide) rfl (by rw [hm]; exact fl_X9_21) hsh ho pc' hdg hp kk
theorem zf_X10_28 {p : Program} {l : Launch} {e : Env} {rm : Room} {s : State} {m : MethodId} {args : Array Value} {below : List Frame} {meth : Method} {c : Code} {A : Nat → Prop} {nc ns : Nat} {Q : State → Prop} {G : jq_G} {mi : jr_MI} (hC : jz_C p s m args c A G mi) {pc : Nat} {L : List (Option Value)} {st : List Value} {σ : jr_Sg} {i : Nat} {fl : List (Option Nat)} {j : Nat} (pc' : Nat) (hdg : decode mi.2.1 pc = .ok (.getfield 28, 3)) (hp : pc + 3 = pc') (hm : mi.1.cls = RX10) (hsh : (jq_shp G)[i]? = some (.inr (8, fl))) (ho : fl[8]? = some (some j)) (kk : jz_R p l e rm s m args below meth c A nc ns Q G mi pc' L (.ref j :: st) σ) : jz_R p l e rm s m args below meth c A nc ns Q G mi pc L (.ref i :: st) σ := jz_getR hC (k := 8) lay_X10 (ci := 8) rfl (by decide) rfl (by rw [hm]; exact fl_X10_28) hsh ho pc' hdg hp kk
theorem zf_X10_49 {p : Program} {l : Launch} {e : Env} {rm : Room} {s : State} {m : MethodId} {args : Array Value} {below : List Frame} {meth : Method} {c : Code} {A : Nat → Prop} {nc ns : Nat} {Q : State → Prop} {G : jq_G} {mi : jr_MI} (hC : jz_C p s m args c A G mi) {pc : Nat} {L : List (Option Value)} {st : List Value} {σ : jr_Sg} {i : Nat} {fl : List (Option Nat)} {j : Nat} (pc' : Nat) (hdg : decode mi.2.1 pc = .ok (.getfield 49, 3)) (hp : pc + 3 = pc') (hm : mi.1.cls = RX10) (hsh : (jq_shp G)[i]? = some (.inr (8, fl))) (ho : fl[22]? = some (some j)) (kk : jz_R p l e rm s m args below meth c A nc ns Q G mi pc' L (.ref j :: st) σ) : jz_R p l e rm s m args below meth c A nc ns Q G mi pc L (.ref i :: st) σ := jz_getR hC (k := 22) lay_X10 (ci := 8) rfl (by decide) rfl (by rw [hm]; exact fl_X10_49) hsh ho pc' hdg hp kk
theorem zp_X10_98 {p : Program} {l : Launch} {e : Env} {rm : Room} {s : State} {m : MethodId} {args : Array Value} {below : List Frame} {meth : Method} {c : Code} {A : Nat → Prop} {nc ns : Nat} {Q : State → Prop} {G : jq_G} {mi : jr_MI} (hC : jz_C p s m args c A G mi) {pc : Nat} {L : List (Option Value)} {st : List Value} {σ : jr_Sg} {i : Nat} {fl : List (Option Nat)} {v : Int32} (pc' : Nat) (hdg : decode mi.2.1 pc = .ok (.putfield 98, 3)) (hp : pc + 3 = pc') (hm : mi.1.cls = RX10) (hsh : (jq_shp G)[i]? = some (.inr (8, fl))) (ho : fl[9]? = some none) (kk : jz_R p l e rm s m args below meth c A nc ns Q G mi pc' L st (jr_up σ i 9 v)) : jz_R p l e rm s m args below meth c A nc ns Q G mi pc L (.int v :: .ref i :: st) σ := jz_put hC (k := 9) (ty := .int) lay_X10 (ci := 8) rfl tyX10 tyX10_ok nmX10 (by decide) rfl rfl (by rw [hm]; exact fl_X10_98) (by decide +kernel) hsh ho rfl rfl pc' hdg hp kk
