section GRULES
variable {G : jr_G} {d : Nat} {mi : jr_MI} {K : Option Value → jr_Sg → Prop} {pc : Nat} {L : List (Option Value)} {st : List Value} {σ : jr_Sg}
theorem jr_iconst {n : Int} (v : Int32) (pc' : Nat) (hdg : decode mi.2.1 pc = .ok (.iconst n, 1)) (hp : pc + 1 = pc') (hv : Int32.ofInt n = v) (kk : jr_R G d mi K pc' L (.int v :: st) σ) : jr_R G d mi K pc L st σ := by
  subst hp
  intro p l e s m args below meth c H locs ls hx hb hml hr hown hlk hts hF hP hS hl
  exact lv_iconst hx hb hdg hv (kk p l e s m args below meth c H locs ls hx hb hml hr hown hlk hts hF hP hS hl)
theorem jr_bipush {n : Int} (v : Int32) (pc' : Nat) (hdg : decode mi.2.1 pc = .ok (.bipush n, 2)) (hp : pc + 2 = pc') (hv : (Int8.ofInt n).toInt32 = v) (kk : jr_R G d mi K pc' L (.int v :: st) σ) : jr_R G d mi K pc L st σ := by
  subst hp
  intro p l e s m args below meth c H locs ls hx hb hml hr hown hlk hts hF hP hS hl
  exact lv_bipush hx hb hdg hv (kk p l e s m args below meth c H locs ls hx hb hml hr hown hlk hts hF hP hS hl)
theorem jr_sipush {n : Int} (v : Int32) (pc' : Nat) (hdg : decode mi.2.1 pc = .ok (.sipush n, 3)) (hp : pc + 3 = pc') (hv : (Int16.ofInt n).toInt32 = v) (kk : jr_R G d mi K pc' L (.int v :: st) σ) : jr_R G d mi K pc L st σ := by
  subst hp
  intro p l e s m args below meth c H locs ls hx hb hml hr hown hlk hts hF hP hS hl
  exact lv_sipush hx hb hdg hv (kk p l e s m args below meth c H locs ls hx hb hml hr hown hlk hts hF hP hS hl)
theorem jr_lconst {n : Fin 2} (v : Int64) (pc' : Nat) (hdg : decode mi.2.1 pc = .ok (.lconst n, 1)) (hp : pc + 1 = pc') (hv : Int64.ofNat (n : Nat) = v) (kk : jr_R G d mi K pc' L (.long v :: st) σ) : jr_R G d mi K pc L st σ := by
  subst hp
  intro p l e s m args below meth c H locs ls hx hb hml hr hown hlk hts hF hP hS hl
  exact lv_lconst hx hb hdg hv (kk p l e s m args below meth c H locs ls hx hb hml hr hown hlk hts hF hP hS hl)
theorem jr_ldc {idx : Nat} {v : Int32} (hc : Cond.constant mi.1.cls idx v ∈ jr_WL) (pc' : Nat) (hdg : decode mi.2.1 pc = .ok (.ldc idx, 2)) (hp : pc + 2 = pc') (kk : jr_R G d mi K pc' L (.int v :: st) σ) : jr_R G d mi K pc L st σ := by
  subst hp
  intro p l e s m args below meth c H locs ls hx hb hml hr hown hlk hts hF hP hS hl
  exact lv_ldc hx hb hown (hts _ hc) hdg (kk p l e s m args below meth c H locs ls hx hb hml hr hown hlk hts hF hP hS hl)
theorem jr_ldcw {idx : Nat} {v : Int32} (hc : Cond.constant mi.1.cls idx v ∈ jr_WL) (pc' : Nat) (hdg : decode mi.2.1 pc = .ok (.ldc_w idx, 3)) (hp : pc + 3 = pc') (kk : jr_R G d mi K pc' L (.int v :: st) σ) : jr_R G d mi K pc L st σ := by
  subst hp
  intro p l e s m args below meth c H locs ls hx hb hml hr hown hlk hts hF hP hS hl
  exact lv_ldcw hx hb hown (hts _ hc) hdg (kk p l e s m args below meth c H locs ls hx hb hml hr hown hlk hts hF hP hS hl)
theorem jr_ldc2 {idx : Nat} {v : Int64} (hc : Cond.constantLong mi.1.cls idx v ∈ jr_WL) (pc' : Nat) (hdg : decode mi.2.1 pc = .ok (.ldc2_w idx, 3)) (hp : pc + 3 = pc') (kk : jr_R G d mi K pc' L (.long v :: st) σ) : jr_R G d mi K pc L st σ := by
  subst hp
  intro p l e s m args below meth c H locs ls hx hb hml hr hown hlk hts hF hP hS hl
  exact lv_ldc2 hx hb hown (hts _ hc) hdg (kk p l e s m args below meth c H locs ls hx hb hml hr hown hlk hts hF hP hS hl)
theorem jr_iload_n {k : Fin 4} (i : Nat) {x : Int32} (pc' : Nat) (hdg : decode mi.2.1 pc = .ok (.iload_n k, 1)) (hp : pc + 1 = pc') (hi : (k : Nat) = i) (hx0 : L[i]? = some (some (.int x))) (kk : jr_R G d mi K pc' L (.int x :: st) σ) : jr_R G d mi K pc L st σ := by
  subst hp
  intro p l e s m args below meth c H locs ls hx hb hml hr hown hlk hts hF hP hS hl
  exact lv_iload_n hx hb hdg hi (hl.2.2 i _ hx0) (kk p l e s m args below meth c H locs ls hx hb hml hr hown hlk hts hF hP hS hl)
theorem jr_iload {i : Nat} {x : Int32} (pc' : Nat) (hdg : decode mi.2.1 pc = .ok (.iload i, 2)) (hp : pc + 2 = pc') (hx0 : L[i]? = some (some (.int x))) (kk : jr_R G d mi K pc' L (.int x :: st) σ) : jr_R G d mi K pc L st σ := by
  subst hp
  intro p l e s m args below meth c H locs ls hx hb hml hr hown hlk hts hF hP hS hl
  exact lv_iload hx hb hdg (hl.2.2 i _ hx0) (kk p l e s m args below meth c H locs ls hx hb hml hr hown hlk hts hF hP hS hl)
theorem jr_lload_n {k : Fin 4} (i : Nat) {x : Int64} (pc' : Nat) (hdg : decode mi.2.1 pc = .ok (.lload_n k, 1)) (hp : pc + 1 = pc') (hi : (k : Nat) = i) (hx0 : L[i]? = some (some (.long x))) (kk : jr_R G d mi K pc' L (.long x :: st) σ) : jr_R G d mi K pc L st σ := by
  subst hp
  intro p l e s m args below meth c H locs ls hx hb hml hr hown hlk hts hF hP hS hl
  exact lv_lload_n hx hb hdg hi (hl.2.2 i _ hx0) (kk p l e s m args below meth c H locs ls hx hb hml hr hown hlk hts hF hP hS hl)
theorem jr_lload {i : Nat} {x : Int64} (pc' : Nat) (hdg : decode mi.2.1 pc = .ok (.lload i, 2)) (hp : pc + 2 = pc') (hx0 : L[i]? = some (some (.long x))) (kk : jr_R G d mi K pc' L (.long x :: st) σ) : jr_R G d mi K pc L st σ := by
  subst hp
  intro p l e s m args below meth c H locs ls hx hb hml hr hown hlk hts hF hP hS hl
  exact lv_lload hx hb hdg (hl.2.2 i _ hx0) (kk p l e s m args below meth c H locs ls hx hb hml hr hown hlk hts hF hP hS hl)
theorem jr_aload_n {k : Fin 4} (i : Nat) {x : Nat} (pc' : Nat) (hdg : decode mi.2.1 pc = .ok (.aload_n k, 1)) (hp : pc + 1 = pc') (hi : (k : Nat) = i) (hx0 : L[i]? = some (some (.ref x))) (kk : jr_R G d mi K pc' L (.ref x :: st) σ) : jr_R G d mi K pc L st σ := by
  subst hp
  intro p l e s m args below meth c H locs ls hx hb hml hr hown hlk hts hF hP hS hl
  exact lv_aload_n hx hb hdg hi (hl.2.2 i _ hx0) (kk p l e s m args below meth c H locs ls hx hb hml hr hown hlk hts hF hP hS hl)
theorem jr_aload {i : Nat} {x : Nat} (pc' : Nat) (hdg : decode mi.2.1 pc = .ok (.aload i, 2)) (hp : pc + 2 = pc') (hx0 : L[i]? = some (some (.ref x))) (kk : jr_R G d mi K pc' L (.ref x :: st) σ) : jr_R G d mi K pc L st σ := by
  subst hp
  intro p l e s m args below meth c H locs ls hx hb hml hr hown hlk hts hF hP hS hl
  exact lv_aload hx hb hdg (hl.2.2 i _ hx0) (kk p l e s m args below meth c H locs ls hx hb hml hr hown hlk hts hF hP hS hl)
theorem jr_istore_n {k : Fin 4} (i : Nat) {x : Int32} {L' : List (Option Value)} (pc' : Nat) (hdg : decode mi.2.1 pc = .ok (.istore_n k, 1)) (hp : pc + 1 = pc') (hi : (k : Nat) = i) (hn : i < mi.2.2.1) (hL : jr_s1 L i (.int x) = L') (kk : jr_R G d mi K pc' L' st σ) : jr_R G d mi K pc L (.int x :: st) σ := by
  subst hp
  subst hL
  intro p l e s m args below meth c H locs ls hx hb hml hr hown hlk hts hF hP hS hl
  exact lv_istore_n hx hb hdg hi (jr_L_has hl) hn rfl (fun ls' hl' => kk p l e s m args below meth c H locs ls' hx hb hml hr hown hlk hts hF hP hS  (jr_s1_has (v := .int x) hl'))
theorem jr_istore {i : Nat} {x : Int32} {L' : List (Option Value)} (pc' : Nat) (hdg : decode mi.2.1 pc = .ok (.istore i, 2)) (hp : pc + 2 = pc') (hn : i < mi.2.2.1) (hL : jr_s1 L i (.int x) = L') (kk : jr_R G d mi K pc' L' st σ) : jr_R G d mi K pc L (.int x :: st) σ := by
  subst hp
  subst hL
  intro p l e s m args below meth c H locs ls hx hb hml hr hown hlk hts hF hP hS hl
  exact lv_istore hx hb hdg (jr_L_has hl) hn rfl (fun ls' hl' => kk p l e s m args below meth c H locs ls' hx hb hml hr hown hlk hts hF hP hS  (jr_s1_has (v := .int x) hl'))
theorem jr_astore_n {k : Fin 4} (i : Nat) {x : Nat} {L' : List (Option Value)} (pc' : Nat) (hdg : decode mi.2.1 pc = .ok (.astore_n k, 1)) (hp : pc + 1 = pc') (hi : (k : Nat) = i) (hn : i < mi.2.2.1) (hL : jr_s1 L i (.ref x) = L') (kk : jr_R G d mi K pc' L' st σ) : jr_R G d mi K pc L (.ref x :: st) σ := by
  subst hp
  subst hL
  intro p l e s m args below meth c H locs ls hx hb hml hr hown hlk hts hF hP hS hl
  exact lv_astore_n hx hb hdg hi (jr_L_has hl) hn rfl (fun ls' hl' => kk p l e s m args below meth c H locs ls' hx hb hml hr hown hlk hts hF hP hS  (jr_s1_has (v := .ref x) hl'))
theorem jr_astore {i : Nat} {x : Nat} {L' : List (Option Value)} (pc' : Nat) (hdg : decode mi.2.1 pc = .ok (.astore i, 2)) (hp : pc + 2 = pc') (hn : i < mi.2.2.1) (hL : jr_s1 L i (.ref x) = L') (kk : jr_R G d mi K pc' L' st σ) : jr_R G d mi K pc L (.ref x :: st) σ := by
  subst hp
  subst hL
  intro p l e s m args below meth c H locs ls hx hb hml hr hown hlk hts hF hP hS hl
  exact lv_astore hx hb hdg (jr_L_has hl) hn rfl (fun ls' hl' => kk p l e s m args below meth c H locs ls' hx hb hml hr hown hlk hts hF hP hS  (jr_s1_has (v := .ref x) hl'))
theorem jr_lstore_n {k : Fin 4} (i : Nat) {x : Int64} {L' : List (Option Value)} (pc' : Nat) (hdg : decode mi.2.1 pc = .ok (.lstore_n k, 1)) (hp : pc + 1 = pc') (hi : (k : Nat) = i) (hn : i + 1 < mi.2.2.1) (hL : jr_s2 L i (.long x) = L') (kk : jr_R G d mi K pc' L' st σ) : jr_R G d mi K pc L (.long x :: st) σ := by
  subst hp
  subst hL
  intro p l e s m args below meth c H locs ls hx hb hml hr hown hlk hts hF hP hS hl
  exact lv_lstore_n hx hb hdg hi (jr_L_has hl) hn rfl (fun ls' hl' => kk p l e s m args below meth c H locs ls' hx hb hml hr hown hlk hts hF hP hS  (jr_s2_has (v := .long x) hl'))
theorem jr_lstore {i : Nat} {x : Int64} {L' : List (Option Value)} (pc' : Nat) (hdg : decode mi.2.1 pc = .ok (.lstore i, 2)) (hp : pc + 2 = pc') (hn : i + 1 < mi.2.2.1) (hL : jr_s2 L i (.long x) = L') (kk : jr_R G d mi K pc' L' st σ) : jr_R G d mi K pc L (.long x :: st) σ := by
  subst hp
  subst hL
  intro p l e s m args below meth c H locs ls hx hb hml hr hown hlk hts hF hP hS hl
  exact lv_lstore hx hb hdg (jr_L_has hl) hn rfl (fun ls' hl' => kk p l e s m args below meth c H locs ls' hx hb hml hr hown hlk hts hF hP hS  (jr_s2_has (v := .long x) hl'))
theorem jr_iinc {i : Nat} {n : Int} {x v : Int32} {L' : List (Option Value)} (pc' : Nat) (hdg : decode mi.2.1 pc = .ok (.iinc i n, 3)) (hp : pc + 3 = pc') (hx0 : L[i]? = some (some (.int x))) (hv : x + Int32.ofInt n = v) (hn : i < mi.2.2.1) (hL : jr_s1 L i (.int v) = L') (kk : jr_R G d mi K pc' L' st σ) : jr_R G d mi K pc L st σ := by
  subst hp
  subst hL
  intro p l e s m args below meth c H locs ls hx hb hml hr hown hlk hts hF hP hS hl
  obtain ⟨k, hk⟩ := List.getElem?_of_mem (jr_pr_mem (ad := G.2.2) L 0 i _ hx0)
  rw [Nat.zero_add] at hk
  exact lv_iinc hx hb hdg (jr_L_has hl) (k := k) hk hv hn rfl (fun ls' hl' => kk p l e s m args below meth c H locs ls' hx hb hml hr hown hlk hts hF hP hS  (jr_s1_has (v := .int v) hl'))
theorem jr_iadd {x y : Int32} (pc' : Nat) (hdg : decode mi.2.1 pc = .ok (.iadd, 1)) (hp : pc + 1 = pc') (kk : jr_R G d mi K pc' L (.int (x + y) :: st) σ) : jr_R G d mi K pc L (.int y :: .int x :: st) σ := by
  subst hp
  intro p l e s m args below meth c H locs ls hx hb hml hr hown hlk hts hF hP hS hl
  exact lv_iadd hx hb hdg (kk p l e s m args below meth c H locs ls hx hb hml hr hown hlk hts hF hP hS hl)
theorem jr_isub {x y : Int32} (pc' : Nat) (hdg : decode mi.2.1 pc = .ok (.isub, 1)) (hp : pc + 1 = pc') (kk : jr_R G d mi K pc' L (.int (x - y) :: st) σ) : jr_R G d mi K pc L (.int y :: .int x :: st) σ := by
  subst hp
  intro p l e s m args below meth c H locs ls hx hb hml hr hown hlk hts hF hP hS hl
  exact lv_isub hx hb hdg (kk p l e s m args below meth c H locs ls hx hb hml hr hown hlk hts hF hP hS hl)
theorem jr_imul {x y : Int32} (pc' : Nat) (hdg : decode mi.2.1 pc = .ok (.imul, 1)) (hp : pc + 1 = pc') (kk : jr_R G d mi K pc' L (.int (x * y) :: st) σ) : jr_R G d mi K pc L (.int y :: .int x :: st) σ := by
  subst hp
  intro p l e s m args below meth c H locs ls hx hb hml hr hown hlk hts hF hP hS hl
  exact lv_imul hx hb hdg (kk p l e s m args below meth c H locs ls hx hb hml hr hown hlk hts hF hP hS hl)
theorem jr_iand {x y : Int32} (pc' : Nat) (hdg : decode mi.2.1 pc = .ok (.iand, 1)) (hp : pc + 1 = pc') (kk : jr_R G d mi K pc' L (.int (x &&& y) :: st) σ) : jr_R G d mi K pc L (.int y :: .int x :: st) σ := by
  subst hp
  intro p l e s m args below meth c H locs ls hx hb hml hr hown hlk hts hF hP hS hl
  exact lv_iand hx hb hdg (kk p l e s m args below meth c H locs ls hx hb hml hr hown hlk hts hF hP hS hl)
theorem jr_ior {x y : Int32} (pc' : Nat) (hdg : decode mi.2.1 pc = .ok (.ior, 1)) (hp : pc + 1 = pc') (kk : jr_R G d mi K pc' L (.int (x ||| y) :: st) σ) : jr_R G d mi K pc L (.int y :: .int x :: st) σ := by
  subst hp
  intro p l e s m args below meth c H locs ls hx hb hml hr hown hlk hts hF hP hS hl
  exact lv_ior hx hb hdg (kk p l e s m args below meth c H locs ls hx hb hml hr hown hlk hts hF hP hS hl)
theorem jr_ixor {x y : Int32} (pc' : Nat) (hdg : decode mi.2.1 pc = .ok (.ixor, 1)) (hp : pc + 1 = pc') (kk : jr_R G d mi K pc' L (.int (x ^^^ y) :: st) σ) : jr_R G d mi K pc L (.int y :: .int x :: st) σ := by
  subst hp
  intro p l e s m args below meth c H locs ls hx hb hml hr hown hlk hts hF hP hS hl
  exact lv_ixor hx hb hdg (kk p l e s m args below meth c H locs ls hx hb hml hr hown hlk hts hF hP hS hl)
theorem jr_ishl {x y : Int32} (pc' : Nat) (hdg : decode mi.2.1 pc = .ok (.ishl, 1)) (hp : pc + 1 = pc') (kk : jr_R G d mi K pc' L (.int (x <<< (y &&& 31)) :: st) σ) : jr_R G d mi K pc L (.int y :: .int x :: st) σ := by
  subst hp
  intro p l e s m args below meth c H locs ls hx hb hml hr hown hlk hts hF hP hS hl
  exact lv_ishl hx hb hdg (kk p l e s m args below meth c H locs ls hx hb hml hr hown hlk hts hF hP hS hl)
theorem jr_ishr {x y : Int32} (pc' : Nat) (hdg : decode mi.2.1 pc = .ok (.ishr, 1)) (hp : pc + 1 = pc') (kk : jr_R G d mi K pc' L (.int (x >>> (y &&& 31)) :: st) σ) : jr_R G d mi K pc L (.int y :: .int x :: st) σ := by
  subst hp
  intro p l e s m args below meth c H locs ls hx hb hml hr hown hlk hts hF hP hS hl
  exact lv_ishr hx hb hdg (kk p l e s m args below meth c H locs ls hx hb hml hr hown hlk hts hF hP hS hl)
theorem jr_idiv {x y : Int32} (pc' : Nat) (hdg : decode mi.2.1 pc = .ok (.idiv, 1)) (hp : pc + 1 = pc') (hne : ¬ y = 0) (kk : jr_R G d mi K pc' L (.int (x / y) :: st) σ) : jr_R G d mi K pc L (.int y :: .int x :: st) σ := by
  subst hp
  intro p l e s m args below meth c H locs ls hx hb hml hr hown hlk hts hF hP hS hl
  exact lv_idiv hx hb hdg hne (kk p l e s m args below meth c H locs ls hx hb hml hr hown hlk hts hF hP hS hl)
theorem jr_irem {x y : Int32} (pc' : Nat) (hdg : decode mi.2.1 pc = .ok (.irem, 1)) (hp : pc + 1 = pc') (hne : ¬ y = 0) (kk : jr_R G d mi K pc' L (.int (x - x / y * y) :: st) σ) : jr_R G d mi K pc L (.int y :: .int x :: st) σ := by
  subst hp
  intro p l e s m args below meth c H locs ls hx hb hml hr hown hlk hts hF hP hS hl
  exact lv_irem hx hb hdg hne (kk p l e s m args below meth c H locs ls hx hb hml hr hown hlk hts hF hP hS hl)
theorem jr_ladd {x y : Int64} (pc' : Nat) (hdg : decode mi.2.1 pc = .ok (.ladd, 1)) (hp : pc + 1 = pc') (kk : jr_R G d mi K pc' L (.long (x + y) :: st) σ) : jr_R G d mi K pc L (.long y :: .long x :: st) σ := by
  subst hp
  intro p l e s m args below meth c H locs ls hx hb hml hr hown hlk hts hF hP hS hl
  exact lv_ladd hx hb hdg (kk p l e s m args below meth c H locs ls hx hb hml hr hown hlk hts hF hP hS hl)
theorem jr_lmul {x y : Int64} (pc' : Nat) (hdg : decode mi.2.1 pc = .ok (.lmul, 1)) (hp : pc + 1 = pc') (kk : jr_R G d mi K pc' L (.long (x * y) :: st) σ) : jr_R G d mi K pc L (.long y :: .long x :: st) σ := by
  subst hp
  intro p l e s m args below meth c H locs ls hx hb hml hr hown hlk hts hF hP hS hl
  exact lv_lmul hx hb hdg (kk p l e s m args below meth c H locs ls hx hb hml hr hown hlk hts hF hP hS hl)
theorem jr_lor {x y : Int64} (pc' : Nat) (hdg : decode mi.2.1 pc = .ok (.lor, 1)) (hp : pc + 1 = pc') (kk : jr_R G d mi K pc' L (.long (x ||| y) :: st) σ) : jr_R G d mi K pc L (.long y :: .long x :: st) σ := by
  subst hp
  intro p l e s m args below meth c H locs ls hx hb hml hr hown hlk hts hF hP hS hl
  exact lv_lor hx hb hdg (kk p l e s m args below meth c H locs ls hx hb hml hr hown hlk hts hF hP hS hl)
theorem jr_ldiv {x y : Int64} (pc' : Nat) (hdg : decode mi.2.1 pc = .ok (.ldiv, 1)) (hp : pc + 1 = pc') (hne : ¬ y = 0) (kk : jr_R G d mi K pc' L (.long (x / y) :: st) σ) : jr_R G d mi K pc L (.long y :: .long x :: st) σ := by
  subst hp
  intro p l e s m args below meth c H locs ls hx hb hml hr hown hlk hts hF hP hS hl
  exact lv_ldiv hx hb hdg hne (kk p l e s m args below meth c H locs ls hx hb hml hr hown hlk hts hF hP hS hl)
theorem jr_lrem {x y : Int64} (pc' : Nat) (hdg : decode mi.2.1 pc = .ok (.lrem, 1)) (hp : pc + 1 = pc') (hne : ¬ y = 0) (kk : jr_R G d mi K pc' L (.long (x - x / y * y) :: st) σ) : jr_R G d mi K pc L (.long y :: .long x :: st) σ := by
  subst hp
  intro p l e s m args below meth c H locs ls hx hb hml hr hown hlk hts hF hP hS hl
  exact lv_lrem hx hb hdg hne (kk p l e s m args below meth c H locs ls hx hb hml hr hown hlk hts hF hP hS hl)
theorem jr_lcmp {x y : Int64} (pc' : Nat) (hdg : decode mi.2.1 pc = .ok (.lcmp, 1)) (hp : pc + 1 = pc') (kk : jr_R G d mi K pc' L (.int (lg_cmp x y) :: st) σ) : jr_R G d mi K pc L (.long y :: .long x :: st) σ := by
  subst hp
  intro p l e s m args below meth c H locs ls hx hb hml hr hown hlk hts hF hP hS hl
  exact W.lcmp hx hb hdg (kk p l e s m args below meth c H locs ls hx hb hml hr hown hlk hts hF hP hS hl)
theorem jr_lshl {x : Int64} {y : Int32} (pc' : Nat) (hdg : decode mi.2.1 pc = .ok (.lshl, 1)) (hp : pc + 1 = pc') (kk : jr_R G d mi K pc' L (.long (x <<< (y.toInt64 &&& 63)) :: st) σ) : jr_R G d mi K pc L (.int y :: .long x :: st) σ := by
  subst hp
  intro p l e s m args below meth c H locs ls hx hb hml hr hown hlk hts hF hP hS hl
  exact lv_lshl hx hb hdg rfl (kk p l e s m args below meth c H locs ls hx hb hml hr hown hlk hts hF hP hS hl)
theorem jr_iushr {x y : Int32} (pc' : Nat) (hdg : decode mi.2.1 pc = .ok (.iushr, 1)) (hp : pc + 1 = pc') (kk : jr_R G d mi K pc' L (.int (x.toUInt32 >>> (y.toUInt32 &&& Int32.toUInt32 31)).toInt32 :: st) σ) : jr_R G d mi K pc L (.int y :: .int x :: st) σ := by
  subst hp
  intro p l e s m args below meth c H locs ls hx hb hml hr hown hlk hts hF hP hS hl
  exact lv_iushr hx hb hdg rfl (kk p l e s m args below meth c H locs ls hx hb hml hr hown hlk hts hF hP hS hl)
theorem jr_ineg {x : Int32} (pc' : Nat) (hdg : decode mi.2.1 pc = .ok (.ineg, 1)) (hp : pc + 1 = pc') (kk : jr_R G d mi K pc' L (.int (-x) :: st) σ) : jr_R G d mi K pc L (.int x :: st) σ := by
  subst hp
  intro p l e s m args below meth c H locs ls hx hb hml hr hown hlk hts hF hP hS hl
  exact lv_ineg hx hb hdg (kk p l e s m args below meth c H locs ls hx hb hml hr hown hlk hts hF hP hS hl)
theorem jr_i2l {x : Int32} (pc' : Nat) (hdg : decode mi.2.1 pc = .ok (.i2l, 1)) (hp : pc + 1 = pc') (kk : jr_R G d mi K pc' L (.long x.toInt64 :: st) σ) : jr_R G d mi K pc L (.int x :: st) σ := by
  subst hp
  intro p l e s m args below meth c H locs ls hx hb hml hr hown hlk hts hF hP hS hl
  exact lv_i2l hx hb hdg rfl (kk p l e s m args below meth c H locs ls hx hb hml hr hown hlk hts hF hP hS hl)
theorem jr_l2i {x : Int64} (pc' : Nat) (hdg : decode mi.2.1 pc = .ok (.l2i, 1)) (hp : pc + 1 = pc') (kk : jr_R G d mi K pc' L (.int x.toInt32 :: st) σ) : jr_R G d mi K pc L (.long x :: st) σ := by
  subst hp
  intro p l e s m args below meth c H locs ls hx hb hml hr hown hlk hts hF hP hS hl
  exact lv_l2i hx hb hdg rfl (kk p l e s m args below meth c H locs ls hx hb hml hr hown hlk hts hF hP hS hl)
theorem jr_i2b {x : Int32} (pc' : Nat) (hdg : decode mi.2.1 pc = .ok (.i2b, 1)) (hp : pc + 1 = pc') (kk : jr_R G d mi K pc' L (.int x.toInt8.toInt32 :: st) σ) : jr_R G d mi K pc L (.int x :: st) σ := by
  subst hp
  intro p l e s m args below meth c H locs ls hx hb hml hr hown hlk hts hF hP hS hl
  exact lv_i2b hx hb hdg rfl (kk p l e s m args below meth c H locs ls hx hb hml hr hown hlk hts hF hP hS hl)
theorem jr_i2s {x : Int32} (pc' : Nat) (hdg : decode mi.2.1 pc = .ok (.i2s, 1)) (hp : pc + 1 = pc') (kk : jr_R G d mi K pc' L (.int x.toInt16.toInt32 :: st) σ) : jr_R G d mi K pc L (.int x :: st) σ := by
  subst hp
  intro p l e s m args below meth c H locs ls hx hb hml hr hown hlk hts hF hP hS hl
  exact lv_i2s hx hb hdg rfl (kk p l e s m args below meth c H locs ls hx hb hml hr hown hlk hts hF hP hS hl)
theorem jr_i2c {x : Int32} (pc' : Nat) (hdg : decode mi.2.1 pc = .ok (.i2c, 1)) (hp : pc + 1 = pc') (kk : jr_R G d mi K pc' L (.int (x.toUInt32 % 65536).toInt32 :: st) σ) : jr_R G d mi K pc L (.int x :: st) σ := by
  subst hp
  intro p l e s m args below meth c H locs ls hx hb hml hr hown hlk hts hF hP hS hl
  exact lv_i2c hx hb hdg rfl (kk p l e s m args below meth c H locs ls hx hb hml hr hown hlk hts hF hP hS hl)
theorem jr_dup {v : Value} (pc' : Nat) (hdg : decode mi.2.1 pc = .ok (.dup, 1)) (hp : pc + 1 = pc') (hc : v.category = 1) (kk : jr_R G d mi K pc' L (v :: v :: st) σ) : jr_R G d mi K pc L (v :: st) σ := by
  subst hp
  intro p l e s m args below meth c H locs ls hx hb hml hr hown hlk hts hF hP hS hl
  exact lv_dup hx hb hdg (by rw [jr_v_cat]; exact hc) (kk p l e s m args below meth c H locs ls hx hb hml hr hown hlk hts hF hP hS hl)
theorem jr_dup2 {v u : Value} (pc' : Nat) (hdg : decode mi.2.1 pc = .ok (.dup2, 1)) (hp : pc + 1 = pc') (hc : v.category = 1) (hc2 : u.category = 1) (kk : jr_R G d mi K pc' L (v :: u :: v :: u :: st) σ) : jr_R G d mi K pc L (v :: u :: st) σ := by
  subst hp
  intro p l e s m args below meth c H locs ls hx hb hml hr hown hlk hts hF hP hS hl
  exact lv_dup2_11 hx hb hdg (by rw [jr_v_cat]; exact hc) (by rw [jr_v_cat]; exact hc2) (kk p l e s m args below meth c H locs ls hx hb hml hr hown hlk hts hF hP hS hl)
theorem jr_dup_x1 {v u : Value} (pc' : Nat) (hdg : decode mi.2.1 pc = .ok (.dup_x1, 1)) (hp : pc + 1 = pc') (hc : v.category = 1) (hc2 : u.category = 1) (kk : jr_R G d mi K pc' L (v :: u :: v :: st) σ) : jr_R G d mi K pc L (v :: u :: st) σ := by
  subst hp
  intro p l e s m args below meth c H locs ls hx hb hml hr hown hlk hts hF hP hS hl
  exact lv_dup_x1 hx hb hdg (by rw [jr_v_cat]; exact hc) (by rw [jr_v_cat]; exact hc2) (kk p l e s m args below meth c H locs ls hx hb hml hr hown hlk hts hF hP hS hl)
theorem jr_pop {v : Value} (pc' : Nat) (hdg : decode mi.2.1 pc = .ok (.pop, 1)) (hp : pc + 1 = pc') (hc : v.category = 1) (kk : jr_R G d mi K pc' L st σ) : jr_R G d mi K pc L (v :: st) σ := by
  subst hp
  intro p l e s m args below meth c H locs ls hx hb hml hr hown hlk hts hF hP hS hl
  exact lv_pop hx hb hdg (by rw [jr_v_cat]; exact hc) (kk p l e s m args below meth c H locs ls hx hb hml hr hown hlk hts hF hP hS hl)
theorem jr_if_eq {x : Int32} {off : Int} (tgt pc' : Nat) (hdg : decode mi.2.1 pc = .ok (.ifCond .eq off, 3)) (hp : pc + 3 = pc') (ht : (pc : Int) + off = (tgt : Int)) (kt : x = 0 → jr_R G d mi K tgt L st σ) (kf : ¬ x = 0 → jr_R G d mi K pc' L st σ) : jr_R G d mi K pc L (.int x :: st) σ := by
  subst hp
  intro p l e s m args below meth c H locs ls hx hb hml hr hown hlk hts hF hP hS hl
  exact lv_if_eq hx hb hdg ht (fun q => kt q p l e s m args below meth c H locs ls hx hb hml hr hown hlk hts hF hP hS hl) (fun q => kf q p l e s m args below meth c H locs ls hx hb hml hr hown hlk hts hF hP hS hl)
theorem jr_icmp_eq {x y : Int32} {off : Int} (tgt pc' : Nat) (hdg : decode mi.2.1 pc = .ok (.if_icmp .eq off, 3)) (hp : pc + 3 = pc') (ht : (pc : Int) + off = (tgt : Int)) (kt : x = y → jr_R G d mi K tgt L st σ) (kf : ¬ x = y → jr_R G d mi K pc' L st σ) : jr_R G d mi K pc L (.int y :: .int x :: st) σ := by
  subst hp
  intro p l e s m args below meth c H locs ls hx hb hml hr hown hlk hts hF hP hS hl
  exact lv_icmp_eq hx hb hdg ht (fun q => kt q p l e s m args below meth c H locs ls hx hb hml hr hown hlk hts hF hP hS hl) (fun q => kf q p l e s m args below meth c H locs ls hx hb hml hr hown hlk hts hF hP hS hl)
theorem jr_if_ne {x : Int32} {off : Int} (tgt pc' : Nat) (hdg : decode mi.2.1 pc = .ok (.ifCond .ne off, 3)) (hp : pc + 3 = pc') (ht : (pc : Int) + off = (tgt : Int)) (kt : ¬ x = 0 → jr_R G d mi K tgt L st σ) (kf : x = 0 → jr_R G d mi K pc' L st σ) : jr_R G d mi K pc L (.int x :: st) σ := by
  subst hp
  intro p l e s m args below meth c H locs ls hx hb hml hr hown hlk hts hF hP hS hl
  exact lv_if_ne hx hb hdg ht (fun q => kt q p l e s m args below meth c H locs ls hx hb hml hr hown hlk hts hF hP hS hl) (fun q => kf q p l e s m args below meth c H locs ls hx hb hml hr hown hlk hts hF hP hS hl)
theorem jr_icmp_ne {x y : Int32} {off : Int} (tgt pc' : Nat) (hdg : decode mi.2.1 pc = .ok (.if_icmp .ne off, 3)) (hp : pc + 3 = pc') (ht : (pc : Int) + off = (tgt : Int)) (kt : ¬ x = y → jr_R G d mi K tgt L st σ) (kf : x = y → jr_R G d mi K pc' L st σ) : jr_R G d mi K pc L (.int y :: .int x :: st) σ := by
  subst hp
  intro p l e s m args below meth c H locs ls hx hb hml hr hown hlk hts hF hP hS hl
  exact lv_icmp_ne hx hb hdg ht (fun q => kt q p l e s m args below meth c H locs ls hx hb hml hr hown hlk hts hF hP hS hl) (fun q => kf q p l e s m args below meth c H locs ls hx hb hml hr hown hlk hts hF hP hS hl)
theorem jr_if_lt {x : Int32} {off : Int} (tgt pc' : Nat) (hdg : decode mi.2.1 pc = .ok (.ifCond .lt off, 3)) (hp : pc + 3 = pc') (ht : (pc : Int) + off = (tgt : Int)) (kt : x < 0 → jr_R G d mi K tgt L st σ) (kf : ¬ x < 0 → jr_R G d mi K pc' L st σ) : jr_R G d mi K pc L (.int x :: st) σ := by
  subst hp
  intro p l e s m args below meth c H locs ls hx hb hml hr hown hlk hts hF hP hS hl
  exact lv_if_lt hx hb hdg ht (fun q => kt q p l e s m args below meth c H locs ls hx hb hml hr hown hlk hts hF hP hS hl) (fun q => kf q p l e s m args below meth c H locs ls hx hb hml hr hown hlk hts hF hP hS hl)
theorem jr_icmp_lt {x y : Int32} {off : Int} (tgt pc' : Nat) (hdg : decode mi.2.1 pc = .ok (.if_icmp .lt off, 3)) (hp : pc + 3 = pc') (ht : (pc : Int) + off = (tgt : Int)) (kt : x < y → jr_R G d mi K tgt L st σ) (kf : ¬ x < y → jr_R G d mi K pc' L st σ) : jr_R G d mi K pc L (.int y :: .int x :: st) σ := by
  subst hp
  intro p l e s m args below meth c H locs ls hx hb hml hr hown hlk hts hF hP hS hl
  exact lv_icmp_lt hx hb hdg ht (fun q => kt q p l e s m args below meth c H locs ls hx hb hml hr hown hlk hts hF hP hS hl) (fun q => kf q p l e s m args below meth c H locs ls hx hb hml hr hown hlk hts hF hP hS hl)
theorem jr_if_ge {x : Int32} {off : Int} (tgt pc' : Nat) (hdg : decode mi.2.1 pc = .ok (.ifCond .ge off, 3)) (hp : pc + 3 = pc') (ht : (pc : Int) + off = (tgt : Int)) (kt : 0 ≤ x → jr_R G d mi K tgt L st σ) (kf : ¬ 0 ≤ x → jr_R G d mi K pc' L st σ) : jr_R G d mi K pc L (.int x :: st) σ := by
  subst hp
  intro p l e s m args below meth c H locs ls hx hb hml hr hown hlk hts hF hP hS hl
  exact lv_if_ge hx hb hdg ht (fun q => kt q p l e s m args below meth c H locs ls hx hb hml hr hown hlk hts hF hP hS hl) (fun q => kf q p l e s m args below meth c H locs ls hx hb hml hr hown hlk hts hF hP hS hl)
theorem jr_icmp_ge {x y : Int32} {off : Int} (tgt pc' : Nat) (hdg : decode mi.2.1 pc = .ok (.if_icmp .ge off, 3)) (hp : pc + 3 = pc') (ht : (pc : Int) + off = (tgt : Int)) (kt : y ≤ x → jr_R G d mi K tgt L st σ) (kf : ¬ y ≤ x → jr_R G d mi K pc' L st σ) : jr_R G d mi K pc L (.int y :: .int x :: st) σ := by
  subst hp
  intro p l e s m args below meth c H locs ls hx hb hml hr hown hlk hts hF hP hS hl
  exact lv_icmp_ge hx hb hdg ht (fun q => kt q p l e s m args below meth c H locs ls hx hb hml hr hown hlk hts hF hP hS hl) (fun q => kf q p l e s m args below meth c H locs ls hx hb hml hr hown hlk hts hF hP hS hl)
theorem jr_if_gt {x : Int32} {off : Int} (tgt pc' : Nat) (hdg : decode mi.2.1 pc = .ok (.ifCond .gt off, 3)) (hp : pc + 3 = pc') (ht : (pc : Int) + off = (tgt : Int)) (kt : 0 < x → jr_R G d mi K tgt L st σ) (kf : ¬ 0 < x → jr_R G d mi K pc' L st σ) : jr_R G d mi K pc L (.int x :: st) σ := by
  subst hp
  intro p l e s m args below meth c H locs ls hx hb hml hr hown hlk hts hF hP hS hl
  exact lv_if_gt hx hb hdg ht (fun q => kt q p l e s m args below meth c H locs ls hx hb hml hr hown hlk hts hF hP hS hl) (fun q => kf q p l e s m args below meth c H locs ls hx hb hml hr hown hlk hts hF hP hS hl)
theorem jr_icmp_gt {x y : Int32} {off : Int} (tgt pc' : Nat) (hdg : decode mi.2.1 pc = .ok (.if_icmp .gt off, 3)) (hp : pc + 3 = pc') (ht : (pc : Int) + off = (tgt : Int)) (kt : y < x → jr_R G d mi K tgt L st σ) (kf : ¬ y < x → jr_R G d mi K pc' L st σ) : jr_R G d mi K pc L (.int y :: .int x :: st) σ := by
  subst hp
  intro p l e s m args below meth c H locs ls hx hb hml hr hown hlk hts hF hP hS hl
  exact lv_icmp_gt hx hb hdg ht (fun q => kt q p l e s m args below meth c H locs ls hx hb hml hr hown hlk hts hF hP hS hl) (fun q => kf q p l e s m args below meth c H locs ls hx hb hml hr hown hlk hts hF hP hS hl)
theorem jr_if_le {x : Int32} {off : Int} (tgt pc' : Nat) (hdg : decode mi.2.1 pc = .ok (.ifCond .le off, 3)) (hp : pc + 3 = pc') (ht : (pc : Int) + off = (tgt : Int)) (kt : x ≤ 0 → jr_R G d mi K tgt L st σ) (kf : ¬ x ≤ 0 → jr_R G d mi K pc' L st σ) : jr_R G d mi K pc L (.int x :: st) σ := by
  subst hp
  intro p l e s m args below meth c H locs ls hx hb hml hr hown hlk hts hF hP hS hl
  exact lv_if_le hx hb hdg ht (fun q => kt q p l e s m args below meth c H locs ls hx hb hml hr hown hlk hts hF hP hS hl) (fun q => kf q p l e s m args below meth c H locs ls hx hb hml hr hown hlk hts hF hP hS hl)
theorem jr_icmp_le {x y : Int32} {off : Int} (tgt pc' : Nat) (hdg : decode mi.2.1 pc = .ok (.if_icmp .le off, 3)) (hp : pc + 3 = pc') (ht : (pc : Int) + off = (tgt : Int)) (kt : x ≤ y → jr_R G d mi K tgt L st σ) (kf : ¬ x ≤ y → jr_R G d mi K pc' L st σ) : jr_R G d mi K pc L (.int y :: .int x :: st) σ := by
  subst hp
  intro p l e s m args below meth c H locs ls hx hb hml hr hown hlk hts hF hP hS hl
  exact lv_icmp_le hx hb hdg ht (fun q => kt q p l e s m args below meth c H locs ls hx hb hml hr hown hlk hts hF hP hS hl) (fun q => kf q p l e s m args below meth c H locs ls hx hb hml hr hown hlk hts hF hP hS hl)
theorem jr_goto {off : Int} (tgt : Nat) (hdg : decode mi.2.1 pc = .ok (.goto off, 3)) (ht : (pc : Int) + off = (tgt : Int)) (kk : jr_R G d mi K tgt L st σ) : jr_R G d mi K pc L st σ := by
  intro p l e s m args below meth c H locs ls hx hb hml hr hown hlk hts hF hP hS hl
  exact lv_goto hx hb hdg ht (kk p l e s m args below meth c H locs ls hx hb hml hr hown hlk hts hF hP hS hl)
theorem jr_tableOut {x : Int32} {dflt lo hi : Int} {offs : Array Int} {len : Nat} (tgt : Nat) (hdg : decode mi.2.1 pc = .ok (.tableswitch dflt lo hi offs, len)) (h : x.toInt < lo ∨ hi < x.toInt) (ht : (pc : Int) + dflt = (tgt : Int)) (kk : jr_R G d mi K tgt L st σ) : jr_R G d mi K pc L (.int x :: st) σ := by
  intro p l e s m args below meth c H locs ls hx hb hml hr hown hlk hts hF hP hS hl
  exact lv_tableOut hx hb hdg h ht (kk p l e s m args below meth c H locs ls hx hb hml hr hown hlk hts hF hP hS hl)
theorem jr_tableIn {x : Int32} {dflt lo hi : Int} {offs : Array Int} {len : Nat} {off : Int} (tgt : Nat) (hdg : decode mi.2.1 pc = .ok (.tableswitch dflt lo hi offs, len)) (h1 : ¬ x.toInt < lo) (h2 : ¬ hi < x.toInt) (ho : offs[(x.toInt - lo).toNat]? = some off) (ht : (pc : Int) + off = (tgt : Int)) (kk : jr_R G d mi K tgt L st σ) : jr_R G d mi K pc L (.int x :: st) σ := by
  intro p l e s m args below meth c H locs ls hx hb hml hr hown hlk hts hF hP hS hl
  exact lv_tableIn hx hb hdg h1 h2 ho ht (kk p l e s m args below meth c H locs ls hx hb hml hr hown hlk hts hF hP hS hl)
theorem jr_lookup {x : Int32} {dflt : Int} {ps : Array (Int × Int)} {len : Nat} {off : Int} (tgt : Nat) (hdg : decode mi.2.1 pc = .ok (.lookupswitch dflt ps, len)) (hq : (ps.toList.zip (ps.toList.drop 1)).all (fun (a, next) => a.1 < next.1) = true) (ho : Op.lookupswitch.offset ps.toList dflt x.toInt = off) (ht : (pc : Int) + off = (tgt : Int)) (kk : jr_R G d mi K tgt L st σ) : jr_R G d mi K pc L (.int x :: st) σ := by
  intro p l e s m args below meth c H locs ls hx hb hml hr hown hlk hts hF hP hS hl
  exact lv_lookup hx hb hdg hq ho ht (kk p l e s m args below meth c H locs ls hx hb hml hr hown hlk hts hF hP hS hl)
/-- what a method that answers ends with -/
def jr_k (k : Value → jr_Sg → Prop) : Option Value → jr_Sg → Prop := fun v σ => match v with
  | some x => k x σ
  | none => False
def jr_kv (k : jr_Sg → Prop) : Option Value → jr_Sg → Prop := fun v σ => match v with
  | none => k σ
  | some _ => False
theorem jr_ireturn {v : Int32} {ty : FieldType} {k : Value → jr_Sg → Prop} (hdg : decode mi.2.1 pc = .ok (.ireturn, 1)) (hret : mi.2.2.2 = some ty) (hn : narrow ty (.int v) = .int v) (hk : k (.int v) σ) : jr_R G d mi (jr_k k) pc L [.int v] σ := by
  intro p l e s m args below meth c H locs ls hx hb hml hr hown hlk hts hF hP hS hl
  exact W.zret hx hb (by rw [hr, hret]) hn (fun t ht hW => ⟨⟨some (.int v), σ, rfl, hk, by rw [ht]; exact hP⟩, hS.F ht⟩) hS.2.2 hdg
theorem jr_lreturn {v : Int64} {k : Value → jr_Sg → Prop} (hdg : decode mi.2.1 pc = .ok (.lreturn, 1)) (hret : mi.2.2.2 = some .long) (hk : k (.long v) σ) : jr_R G d mi (jr_k k) pc L [.long v] σ := by
  intro p l e s m args below meth c H locs ls hx hb hml hr hown hlk hts hF hP hS hl
  exact W.lret hx hb (by rw [hr, hret]) (fun t ht hW => ⟨⟨some (.long v), σ, rfl, hk, by rw [ht]; exact hP⟩, hS.F ht⟩) hS.2.2 hdg
theorem jr_areturn {i : Nat} {rt : FieldType} {k : Value → jr_Sg → Prop} (hdg : decode mi.2.1 pc = .ok (.areturn, 1)) (hret : mi.2.2.2 = some rt) (hrt : (∃ n, rt = .object n) ∨ ∃ t, rt = .array t) (hk : k (.ref i) σ) : jr_R G d mi (jr_k k) pc L [.ref i] σ := by
  intro p l e s m args below meth c H locs ls hx hb hml hr hown hlk hts hF hP hS hl
  exact W.aret (v := .ref (G.2.2 i)) hx hb (by rw [hr, hret]) hrt (Or.inr ⟨_, rfl⟩) (fun t ht hW => ⟨⟨some (.ref i), σ, rfl, hk, by rw [ht]; exact hP⟩, hS.F ht⟩) hS.2.2 hdg
theorem jr_return {k : jr_Sg → Prop} (hdg : decode mi.2.1 pc = .ok (.return_, 1)) (hret : mi.2.2.2 = none) (hk : k σ) : jr_R G d mi (jr_kv k) pc L [] σ := by
  intro p l e s m args below meth c H locs ls hx hb hml hr hown hlk hts hF hP hS hl
  exact W.vret hx hb (by rw [hr, hret]) (fun t ht hW => ⟨⟨none, σ, rfl, hk, by rw [ht]; exact hP⟩, hS.F ht⟩) hS.2.2 hdg
theorem jr_get {idx ci N k i : Nat} {C : String} {T : u_T} {fl : List (Option Nat)} {o : Option Nat} (hlay : ∀ w ∈ u_ws C T N, w ∈ jr_WL) (hcl : vwCl[ci]? = some (C, T, N)) (hk : k < N) (hTC : (T k).1 = C) (hlink : Cond.fieldLink mi.1.cls idx C (T k).2.1 (T k).2.2.1 ∈ jr_WL) (hsh : jr_shp[i]? = some (.inr (ci, fl))) (ho : fl[k]? = some o) {v : Value} (hv : jr_v G.2.2 v = jr_fv G.2.2 (σ i k) o) (pc' : Nat) (hdg : decode mi.2.1 pc = .ok (.getfield idx, 3)) (hp : pc + 3 = pc') (kk : jr_R G d mi K pc' L (v :: st) σ) : jr_R G d mi K pc L (.ref i :: st) σ := by
  subst hp
  intro p l e s m args below meth c H locs ls hx hb hml hr hown hlk hts hF hP hS hl
  refine va_get (own := mi.1.cls) (ref := C) (C := C) (T := T) (N := N) (index := idx) hx hb hts (fun w h => hlay w h) hown hF.2.1 hP i (jr_ws_get hsh) hcl k hk (hts _ hlink) (by rw [hTC]; exact fun _ h => h) (v := jr_v G.2.2 v) ?_ hdg (kk p l e s m args below meth c H locs ls hx hb hml hr hown hlk hts hF hP hS hl)
  rw [hv]
  simp [List.getElem?_mapIdx, ho]
theorem jr_getI {idx ci N k i : Nat} {C : String} {T : u_T} {fl : List (Option Nat)} (hlay : ∀ w ∈ u_ws C T N, w ∈ jr_WL) (hcl : vwCl[ci]? = some (C, T, N)) (hk : k < N) (hTC : (T k).1 = C) (hlink : Cond.fieldLink mi.1.cls idx C (T k).2.1 (T k).2.2.1 ∈ jr_WL) (hsh : jr_shp[i]? = some (.inr (ci, fl))) (ho : fl[k]? = some none) (pc' : Nat) (hdg : decode mi.2.1 pc = .ok (.getfield idx, 3)) (hp : pc + 3 = pc') (kk : jr_R G d mi K pc' L (.int (σ i k) :: st) σ) : jr_R G d mi K pc L (.ref i :: st) σ := jr_get hlay hcl hk hTC hlink hsh ho (v := .int (σ i k)) rfl pc' hdg hp kk
theorem jr_getR {idx ci N k i j : Nat} {C : String} {T : u_T} {fl : List (Option Nat)} (hlay : ∀ w ∈ u_ws C T N, w ∈ jr_WL) (hcl : vwCl[ci]? = some (C, T, N)) (hk : k < N) (hTC : (T k).1 = C) (hlink : Cond.fieldLink mi.1.cls idx C (T k).2.1 (T k).2.2.1 ∈ jr_WL) (hsh : jr_shp[i]? = some (.inr (ci, fl))) (ho : fl[k]? = some (some j)) (pc' : Nat) (hdg : decode mi.2.1 pc = .ok (.getfield idx, 3)) (hp : pc + 3 = pc') (kk : jr_R G d mi K pc' L (.ref j :: st) σ) : jr_R G d mi K pc L (.ref i :: st) σ := jr_get hlay hcl hk hTC hlink hsh ho (v := .ref j) rfl pc' hdg hp kk
theorem jr_put {idx ci N k i : Nat} {C : String} {T : u_T} {fl : List (Option Nat)} {v : Int32} {ty : FieldType} (hlay : ∀ w ∈ u_ws C T N, w ∈ jr_WL) (hcl : vwCl[ci]? = some (C, T, N)) (ty0 : Nat → FieldType) (hty : ∀ k, k < N → parseFieldDescriptor (T k).2.2.1 = some (ty0 k)) (hnm : ∀ a, a < N → ∀ b, b < N → a ≠ b → (T a).2.1 ≠ (T b).2.1) (hk : k < N) (hTC : (T k).1 = C) (hfin : (T k).2.2.2 = false) (hlink : Cond.fieldLink mi.1.cls idx C (T k).2.1 (T k).2.2.1 ∈ jr_WL) (hd : parseFieldDescriptor (T k).2.2.1 = some ty) (hsh : jr_shp[i]? = some (.inr (ci, fl))) (ho : fl[k]? = some none) (hn : narrow ty (.int v) = .int v) (hfit : fits ty (.int v) = true) (pc' : Nat) (hdg : decode mi.2.1 pc = .ok (.putfield idx, 3)) (hp : pc + 3 = pc') (kk : jr_R G d mi K pc' L st (jr_up σ i k v)) : jr_R G d mi K pc L (.int v :: .ref i :: st) σ := by
  subst hp
  intro p l e s m args below meth c H locs ls hx hb hml hr hown hlk hts hF hP hS hl
  refine va_put (own := mi.1.cls) (ref := C) (C := C) (T := T) (N := N) (index := idx) hx hb hts (fun w h => hlay w h) ty0 hty hnm hown hF.2.1 hP (jr_vaD hF.1) hS i (jr_ws_get hsh) hcl k hk (hts _ hlink) (by rw [hTC]; exact fun _ h => h) hfin hd hn hfit (by have := (List.getElem?_eq_some_iff.mp ho).1; simpa using this) hdg (fun H1 locs1 hP1 hD1 hS1 => kk p l e s m args below meth c H1 locs1 ls hx hb hml hr hown hlk hts hF ?_ hS1 hl)
  have e := jr_ws_set (G := G) (σ := σ) (upd (σ i) k v) hsh
  rw [jr_up_upc, ← e]
  have e2 : jr_cell G (upd (σ i) k v) (.inr (ci, fl)) = .inr (ci, ((fl.mapIdx (fun k o => jr_fv G.2.2 (σ i k) o)).set k (.int v))) := by
    rw [jr_fs_set v ho]; rfl
  rw [e2]
  exact hP1
theorem jr_small : ∀ (i n : Nat), jr_shp[i]? = some (.inl n) → n < 2 ^ 31 := by
  intro i n h
  have h1 : ∀ c ∈ jr_shp, (match c with | .inl n => decide (n < 2 ^ 31) | .inr _ => true) = true := by decide +kernel
  have h2 := h1 _ (List.mem_of_getElem? h)
  simpa using h2
theorem jr_iald {i n k : Nat} {j : Int32} (hsh : jr_shp[i]? = some (.inl n)) (hj : j = nI k) (hk : k < n) (pc' : Nat) (hdg : decode mi.2.1 pc = .ok (.iaload, 1)) (hp : pc + 1 = pc') (kk : jr_R G d mi K pc' L (.int (σ i k) :: st) σ) : jr_R G d mi K pc L (.int j :: .ref i :: st) σ := by
  subst hp
  subst hj
  intro p l e s m args below meth c H locs ls hx hb hml hr hown hlk hts hF hP hS hl
  have hn := jr_small i n hsh
  refine va_iald hx hb hF.2.1 hP i 0 (jr_ws_get hsh) rfl (vp_in_nI hk hn) hdg ?_
  rw [nI_clamp (Nat.lt_trans hk hn)]
  exact kk p l e s m args below meth c H locs ls hx hb hml hr hown hlk hts hF hP hS hl
theorem jr_iast {i n k : Nat} {j v : Int32} (hsh : jr_shp[i]? = some (.inl n)) (hj : j = nI k) (hk : k < n) (pc' : Nat) (hdg : decode mi.2.1 pc = .ok (.iastore, 1)) (hp : pc + 1 = pc') (kk : jr_R G d mi K pc' L st (jr_up σ i k v)) : jr_R G d mi K pc L (.int v :: .int j :: .ref i :: st) σ := by
  subst hp
  subst hj
  intro p l e s m args below meth c H locs ls hx hb hml hr hown hlk hts hF hP hS hl
  have hn := jr_small i n hsh
  refine va_iast hx hb hF.2.1 hP (jr_vaD hF.1) hS i 0 (jr_ws_get hsh) rfl (vp_in_nI hk hn) hdg (fun H1 locs1 hP1 hD1 hS1 => kk p l e s m args below meth c H1 locs1 ls hx hb hml hr hown hlk hts hF ?_ hS1 hl)
  rw [nI_clamp (Nat.lt_trans hk hn)] at hP1
  have e := jr_ws_set (G := G) (σ := σ) (upd (σ i) k v) hsh
  rw [jr_up_upc, ← e]
  exact hP1
theorem jr_alen {i n : Nat} (hsh : jr_shp[i]? = some (.inl n)) (pc' : Nat) (hdg : decode mi.2.1 pc = .ok (.arraylength, 1)) (hp : pc + 1 = pc') (kk : jr_R G d mi K pc' L (.int (nI n) :: st) σ) : jr_R G d mi K pc L (.ref i :: st) σ := by
  subst hp
  intro p l e s m args below meth c H locs ls hx hb hml hr hown hlk hts hF hP hS hl
  exact va_alen hx hb hF.2.1 hP i 0 (jr_ws_get hsh) rfl (v := nI n) rfl hdg (kk p l e s m args below meth c H locs ls hx hb hml hr hown hlk hts hF hP hS hl)
def jr_ent : List Value → List (Option Value)
  | [] => []
  | v :: vs => if v.category = 2 then some v :: none :: jr_ent vs else some v :: jr_ent vs
theorem jr_ent_args (ad : Nat → Nat) : ∀ (a : List Value) (i k : Nat) (v : Value), (jr_ent a)[k]? = some (some v) → (i + k, jr_v ad v) ∈ lv_args i (a.map (jr_v ad))
  | [], i, k, v, h => by cases h
  | u :: vs, i, k, v, h => by
    unfold jr_ent at h
    show _ ∈ (i, jr_v ad u) :: lv_args (if (jr_v ad u).category = 2 then i + 2 else i + 1) (vs.map (jr_v ad))
    rw [jr_v_cat]
    by_cases hc : u.category = 2
    · rw [if_pos hc] at h ⊢
      rcases k with _ | _ | k
      · have e : u = v := by simpa using h
        subst e
        exact List.mem_cons_self
      · simp at h
      · have h2 := jr_ent_args ad vs (i + 2) k v (by simpa using h)
        rw [show i + (k + 1 + 1) = i + 2 + k by omega]
        exact List.mem_cons_of_mem _ h2
    · rw [if_neg hc] at h ⊢
      rcases k with _ | k
      · have e : u = v := by simpa using h
        subst e
        exact List.mem_cons_self
      · have h2 := jr_ent_args ad vs (i + 1) k v (by simpa using h)
        rw [show i + (k + 1) = i + 1 + k by omega]
        exact List.mem_cons_of_mem _ h2
theorem jr_ent_len (ad : Nat → Nat) : ∀ a : List Value, (lg_sl (a.map (jr_v ad))).length = (jr_ent a).length
  | [] => rfl
  | u :: vs => by
    have ih := jr_ent_len ad vs
    unfold jr_ent
    simp only [lg_sl, List.map_cons, List.flatMap_cons, List.length_append] at ih ⊢
    rw [jr_v_cat, ih]
    by_cases hc : u.category = 2
    · simp [hc]; omega
    · simp [hc]; omega
theorem jr_enter {a : List Value} (hy : plainName mi.1.cls = true) (hlen : (jr_ent a).length ≤ mi.2.2.1) (hL : jr_ent a ++ List.replicate (mi.2.2.1 - (jr_ent a).length) none = L) (h : jr_R G d mi K 0 L [] σ) : jr_M G d mi a σ K := by
  subst hL
  intro l
  refine Met.ofW (cc := mi.2.1) (maxL := mi.2.2.1) (ret := mi.2.2.2) hy rfl ?_
  intro p e s m args below meth c s₁ B hml hv
  obtain ⟨rfl, hF, hP⟩ := hv
  have hts := atoms_spec (ws := jr_wsM mi) B.pre
  rw [lg_entry_eq]
  have hlv := lv_entry (a.map (jr_v G.2.2)) (n := mi.2.2.1) (by rw [jr_ent_len]; exact hlen)
  refine h p l e s m _ below meth c s.heap [] _ B.exec B.bytes hml B.returns (findClass_of_methodNamed B.named) B.notSynchronized (fun w hw => hts w (List.mem_cons_of_mem _ hw)) hF hP va_S.rf ⟨hlv.1, hlv.2.1, fun k v hk => ?_⟩
  have hk2 : (jr_ent a)[k]? = some (some v) := by
    by_cases hlt : k < (jr_ent a).length
    · rw [List.getElem?_append_left hlt] at hk
      exact hk
    · rw [List.getElem?_append_right (Nat.le_of_not_lt hlt), List.getElem?_replicate] at hk
      split at hk <;> cases hk
  have hm := jr_ent_args G.2.2 a 0 k v hk2
  rw [Nat.zero_add] at hm
  exact hlv.2.2 _ hm
theorem jr_M_mono {y : jr_MI} {a : List Value} {K' : Option Value → jr_Sg → Prop} (hK : ∀ v σ', K v σ' → K' v σ') (h : jr_M G d y a σ K) : jr_M G d y a σ K' := by
  intro l p e ha hc hk s m args below hf hap hpre hq
  obtain ⟨k, o, h1, h2, h3, ⟨⟨⟨v, σ', q1, q2, q3⟩, q4⟩, q5⟩⟩ := h l p e ha hc hk s m args below hf hap hpre hq
  exact ⟨k, o, h1, h2, h3, ⟨⟨⟨v, σ', q1, hK v σ' q2, q3⟩, q4⟩, q5⟩⟩
theorem jr_blind {a : List Value} : FrameBlind (va_Pc (a.map (jr_v G.2.2)) (fun U => jr_F G U U.heap ∧ va_P G.1 vwCl (jr_ws G σ) U.heap)) := by
  intro a U g mk q
  obtain ⟨q0, q1, q2⟩ := q
  exact ⟨q0, jr_F.same (u := U) rfl q1, q2⟩
theorem jr_after {p : Program} {l : Launch} {e : Env} {s : State} {m : MethodId} {args : Array Value} {below : List Frame} {meth : Method} {c : Code} {H : Heap} {locs : List Loc} {ls : Array Slot} {a0 : Array Value} {st0 : List Value} {rest : List Value} {pc' : Nat} (hp : pc + 3 = pc')
    (hrun : va_Run p l e (jr_room (d + 1)) s m args below meth c H locs 0 0 0 0 (F0 m pc ls st0) (rest.map (jr_v G.2.2)) (jr_Q G (fun v σ' => jr_R G (d + 1) mi K pc' L (v.toList ++ rest) σ') a0) (jr_A G))
    (hx : p.tables.exec = Jvm.exec) (hb : c.code = mi.2.1) (hml : c.maxLocals = mi.2.2.1) (hr : meth.sig.returnType = mi.2.2.2) (hown : s.vm.findClass mi.1.cls = some m.cls) (hlk : meth.locks = false) (hts : ∀ w ∈ jr_WL, w.before args s = true) (hF : jr_F G s s.heap) (hS : va_S (jr_A G) s.heap H locs) (hl : jr_L G.2.2 ls mi.2.2.1 L) :
    W p l e (jr_room (d + 1)) s m args below meth c H locs 0 0 (MQ below (jr_Q G K) args s 0 0 (jr_A G)) (F0 m pc ls st0) := by
  subst hp
  intro T hT X
  obtain ⟨v, st₀, t, T', L1, h0, X', hL1, e1, e2, ⟨⟨v', σ', hv, hK', hP'⟩, hz, hk⟩, st'⟩ := hrun T hT X
  cases hv
  rw [h0] at hz hk
  have hS1 : va_S (jr_A G) s.heap T'.heap (locs ++ L1) := ⟨Nat.le_trans hS.1 (by rw [e1]; exact hz), fun q h1 h2 => by rw [e1, hk q (Nat.lt_of_lt_of_le h1 hS.1) h2]; exact hS.2.1 q h1 h2, fun q hq => by
    rcases List.mem_append.mp hq with h | h
    · exact hS.2.2 q h
    · exact hL1 q h⟩
  have h2 := hK' p l e s m args below meth c T'.heap (locs ++ L1) ls hx hb hml hr hown hlk hts hF (by rw [e1]; exact hP') hS1 hl T' rfl X'
  obtain ⟨t2, a1, b1⟩ := h2
  refine ⟨t2, st' t2 ?_, b1⟩
  have e3 : (v'.map (jr_v G.2.2)).toList ++ rest.map (jr_v G.2.2) = (v'.toList ++ rest).map (jr_v G.2.2) := by cases v' <;> simp
  show Steps p.tables e below (T'.setTop (F0 m (pc + 3) ls ((v'.map (jr_v G.2.2)).toList ++ rest.map (jr_v G.2.2)))) t2
  rw [e3]
  exact a1
theorem jr_room_ok {y : jr_MI} (h : y.2.2.1 ≤ 45) : (jr_room d).frames + 1 ≤ (jr_room (d + 1)).frames ∧ 8 + (y.2.2.1 + 11) + (jr_room d).locals ≤ (jr_room (d + 1)).locals := by
  show d + 1 + 1 ≤ d + 1 + 1 ∧ 8 + (y.2.2.1 + 11) + 64 * (d + 1) ≤ 64 * (d + 1 + 1)
  omega
theorem jr_cats {rest : List Value} (h : (rest.map fun v => v.category).sum ≤ 8) : ((rest.map (jr_v G.2.2)).map fun v => v.category).sum ≤ 8 := by
  rw [List.map_map]
  have e : ((fun v : Value => v.category) ∘ jr_v G.2.2) = fun v => v.category := by funext v; exact jr_v_cat _ v
  rw [e]
  exact h
theorem jr_callV {y : jr_MI} {idx n ci N i : Nat} {T : u_T} {fl : List (Option Nat)} {As rest : List Value} (ok : jr_okV mi.1.cls idx y n) (hcl : vwCl[ci]? = some (y.1.cls, T, N)) (hsh : jr_shp[i]? = some (.inr (ci, fl))) (hn : As.length = n) (hst : (rest.map fun v => v.category).sum ≤ 8) (pc' : Nat) (hdg : decode mi.2.1 pc = .ok (.invokevirtual idx, 3)) (hp : pc + 3 = pc') (hs : st = As.reverse ++ .ref i :: rest) (hM : jr_M G d y (.ref i :: As) σ (fun v σ' => jr_R G (d + 1) mi K pc' L (v.toList ++ rest) σ')) : jr_R G (d + 1) mi K pc L st σ := by
  subst hs
  intro p l e s m args below meth c H locs ls hx hb hml hr hown hlk hts hF hP hS hl
  have hF2 : jr_F G s H := hF.kept hS
  obtain ⟨⟨o1, o2, o3, o4, o5⟩, o6, o7⟩ := ok
  have hG : GoodIn jr_WL (wsV mi.1.cls idx y.1.cls y.1 (jr_wsM y)) := by
    intro w hw
    rcases List.mem_append.mp hw with h | h
    · have h1 : w ∈ jr_WL := by
        simp only [List.mem_cons, List.not_mem_nil, or_false] at h
        rcases h with rfl | rfl | rfl | rfl <;> assumption
      exact ⟨h1, good_of_word (jr_wl_good h1)⟩
    · exact jr_goodIn o5 w h
  exact jr_after hp (va_runV (As := As.map (jr_v G.2.2)) (rest := rest.map (jr_v G.2.2)) (b := G.2.2 i) ⟨hx, hb, hml, hown, hts⟩ (hM l) (cwV n hts hG rfl rfl rfl ⟨rfl, o6⟩ (jr_room_ok o7))
    ⟨jr_blind, va_recv hF2.2.1 hP hcl (jr_ws_get hsh), fun U hU hW => ⟨rfl, by rw [hU]; exact hF2.warm hW, by rw [hU]; exact hP⟩⟩ rfl (by rw [List.length_map]; exact hn) hl.1 (by simp [jr_v]) (lv_room (jr_cats hst)) hdg ⟨Nat.le_refl _, Nat.le_refl _⟩) hx hb hml hr hown hlk hts hF hS hl
theorem jr_callS {y : jr_MI} {idx n : Nat} {As rest : List Value} (ok : jr_okS mi.1.cls idx y n) (hn : As.length = n) (hst : (rest.map fun v => v.category).sum ≤ 8) (pc' : Nat) (hdg : decode mi.2.1 pc = .ok (.invokestatic idx, 3)) (hp : pc + 3 = pc') (hs : st = As.reverse ++ rest) (hM : jr_M G d y As σ (fun v σ' => jr_R G (d + 1) mi K pc' L (v.toList ++ rest) σ')) : jr_R G (d + 1) mi K pc L st σ := by
  subst hs
  intro p l e s m args below meth c H locs ls hx hb hml hr hown hlk hts hF hP hS hl
  have hF2 : jr_F G s H := hF.kept hS
  obtain ⟨⟨o1, o2, o3, o4⟩, o6, o7⟩ := ok
  have hG : GoodIn jr_WL (va_wsS mi.1.cls idx y.1 (jr_wsM y)) := by
    intro w hw
    rcases List.mem_append.mp hw with h | h
    · have h1 : w ∈ jr_WL := by
        simp only [List.mem_cons, List.not_mem_nil, or_false] at h
        rcases h with rfl | rfl | rfl <;> assumption
      exact ⟨h1, good_of_word (jr_wl_good h1)⟩
    · exact jr_goodIn o4 w h
  exact jr_after hp (va_runS (As := As.map (jr_v G.2.2)) (rest := rest.map (jr_v G.2.2)) ⟨hx, hb, hml, hown, hts⟩ (hM l) (va_cwS n hts hG rfl rfl rfl o6 (jr_room_ok o7))
    ⟨jr_blind, fun U hU hW => ⟨rfl, by rw [hU]; exact hF2.warm hW, by rw [hU]; exact hP⟩⟩ rfl (by rw [List.length_map]; exact hn) hl.1 (by simp) (lv_room (jr_cats hst)) hdg ⟨Nat.le_refl _, Nat.le_refl _⟩) hx hb hml hr hown hlk hts hF hS hl
end GRULES
