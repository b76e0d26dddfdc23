theorem jn_oi : Cond.instanceMethod Lib.objectInit ∈ jr_WL := jr_wl 100 (by decide +kernel) (by decide +kernel)
theorem jn_oc : Cond.code Lib.objectInit ⟨#[0xb1]⟩ 1 none ∈ jr_WL := jr_wl 101 (by decide +kernel) (by decide +kernel)
theorem jn_ac : Cond.arrayClass (newarray.typeOf .int) ∈ jr_WL := jr_wl 125 (by decide +kernel) (by decide +kernel)
def jn_nest : List Cond := [.methodLinkNest RX9 9 yX6_init RX9, .methodLinkNest RX9 27 yX7_init RX9, .methodLinkNest RX4 11 yX1_init RX9, .methodLinkNest RX9 43 yX3_init RX9, .methodLinkNest RX9 56 yX5_init RX9]
def jn_X (U : State) : Prop := va_Nw (.methodLinkNest RX9 9 yX6_init RX9) U ∧ va_Nw (.methodLinkNest RX9 27 yX7_init RX9) U ∧ va_Nw (.methodLinkNest RX4 11 yX1_init RX9) U ∧ va_Nw (.methodLinkNest RX9 43 yX3_init RX9) U ∧ va_Nw (.methodLinkNest RX9 56 yX5_init RX9) U
theorem jn_X.same {u U : State} (hv : u.vm = U.vm) (h : jn_X u) : jn_X U := ⟨va_Nw.same rfl hv h.1, va_Nw.same rfl hv h.2.1, va_Nw.same rfl hv h.2.2.1, va_Nw.same rfl hv h.2.2.2.1, va_Nw.same rfl hv h.2.2.2.2⟩
theorem jn_X.warm {s U : State} (hW : s.WarmedH U.vm) (h : jn_X s) : jn_X U := ⟨va_Nw.warmM hW h.1, va_Nw.warmM hW h.2.1, va_Nw.warmM hW h.2.2.1, va_Nw.warmM hW h.2.2.2.1, va_Nw.warmM hW h.2.2.2.2⟩
def jn_Q (D : va_G) (A : Nat → Prop) (B : va_W → Prop) : Array Value → State → Outcome → State → Prop := fun _ st o t => (o = .returned none ∧ ∃ ws, B ws ∧ va_P D vwCl ws t.heap ∧ va_D A ws) ∧ va_F A st t
def jn_M (D : va_G) (I : ClassId) (mi : jr_MI) (rm : Room) (mc ms : Nat) (ws : va_W) (av : List Value) (B : va_W → Prop) : Prop := ∀ (l : Launch) (sz : Nat), Met l mi.1 (jr_wsM mi) rm (va_Pc av (fun U => U.heap.size = sz ∧ jn_X U ∧ va_K D vwCl [(I, .int)] U ∧ va_P D vwCl ws U.heap ∧ va_D (fun _ => True) ws)) (jn_Q D (va_A ws sz) B) mc ms (va_A ws sz)
def jn_R (D : va_G) (I : ClassId) (A : Nat → Prop) (B : va_W → Prop) (E : State → Prop) (mi : jr_MI) (rm : Room) (mc ms nc ns : Nat) (ws : va_W) (pc : Nat) (L : List (Nat × Value)) (st : List Value) : Prop :=
  ∀ (p : Program) (l : Launch) (e : Env) (s : State) (m : MethodId) (args : Array Value) (below : List Frame) (meth : Method) (c : Code) (H : Heap) (locs : List Loc) (ls : Array Slot),
    p.tables.exec = Jvm.exec → c.code = mi.2.1 → c.maxLocals = mi.2.2.1 → meth.sig.returnType = none → s.vm.findClass mi.1.cls = some m.cls → meth.locks = false → meth.name = "<init>" → (∀ w ∈ jr_WL, w.before args s = true) → jn_X s ∧ E s → va_K D vwCl [(I, .int)] s → va_P D vwCl ws H → va_D A ws → va_S A s.heap H locs → (∀ q : Nat, s.heap.size ≤ q → A q) → lv_has ls mi.2.2.1 L →
    W p l e rm s m args below meth c H locs nc ns (MQ below (jn_Q D A B) args s mc ms A) (F0 m pc ls st)
theorem jn_enter {D : va_G} {I : ClassId} {B : va_W → Prop} {mi : jr_MI} {rm : Room} {mc ms : Nat} {ws : va_W} {av : List Value} (hy : plainName mi.1.cls = true) (hn : mi.1.name = "<init>") (hr : mi.2.2.2 = none) (hlen : (lg_sl av).length ≤ mi.2.2.1) (h : ∀ A, jn_R D I A B (fun _ => True) mi rm mc ms 0 0 ws 0 (lv_args 0 av) []) : jn_M D I mi rm mc ms ws av B := by
  intro l sz
  refine Met.ofW (cc := mi.2.1) (maxL := mi.2.2.1) (ret := mi.2.2.2) hy rfl ?_
  intro p e s m args below meth c s₁ B0 hml hv
  obtain ⟨rfl, hsz, hX, hK, hP, hD⟩ := hv
  have hts := atoms_spec (ws := jr_wsM mi) B0.pre
  subst hsz
  rw [lg_entry_eq]
  exact h _ p l e s m _ below meth c s.heap [] _ B0.exec B0.bytes hml (B0.returns.trans hr) (findClass_of_methodNamed B0.named) B0.notSynchronized ((name_of_methodNamed B0.named B0.method).1.trans hn) (fun w hw => hts w (List.mem_cons_of_mem _ hw)) ⟨hX, trivial⟩ hK hP hD.self va_S.rf (fun q hq => Or.inr hq) (lv_entry av hlen)
def jn_ME (D : va_G) (I : ClassId) (E : State → Prop) (mi : jr_MI) (rm : Room) (mc ms : Nat) (ws : va_W) (av : List Value) (B : va_W → Prop) : Prop := ∀ (l : Launch) (sz : Nat), Met l mi.1 (jr_wsM mi) rm (va_Pc av (fun U => U.heap.size = sz ∧ (jn_X U ∧ E U) ∧ va_K D vwCl [(I, .int)] U ∧ va_P D vwCl ws U.heap ∧ va_D (fun _ => True) ws)) (jn_Q D (va_A ws sz) B) mc ms (va_A ws sz)
theorem jn_enterE {D : va_G} {I : ClassId} {E : State → Prop} {B : va_W → Prop} {mi : jr_MI} {rm : Room} {mc ms : Nat} {ws : va_W} {av : List Value} (hy : plainName mi.1.cls = true) (hn : mi.1.name = "<init>") (hr : mi.2.2.2 = none) (hlen : (lg_sl av).length ≤ mi.2.2.1) (h : ∀ sz, jn_R D I (va_A ws sz) B (fun s => E s ∧ s.heap.size = sz) mi rm mc ms 0 0 ws 0 (lv_args 0 av) []) : jn_ME D I E mi rm mc ms ws av B := by
  intro l sz
  refine Met.ofW (cc := mi.2.1) (maxL := mi.2.2.1) (ret := mi.2.2.2) hy rfl ?_
  intro p e s m args below meth c s₁ B0 hml hv
  obtain ⟨rfl, hsz, hX, hK, hP, hD⟩ := hv
  have hts := atoms_spec (ws := jr_wsM mi) B0.pre
  subst hsz
  rw [lg_entry_eq]
  exact h _ p l e s m _ below meth c s.heap [] _ B0.exec B0.bytes hml (B0.returns.trans hr) (findClass_of_methodNamed B0.named) B0.notSynchronized ((name_of_methodNamed B0.named B0.method).1.trans hn) (fun w hw => hts w (List.mem_cons_of_mem _ hw)) ⟨hX.1, hX.2, rfl⟩ hK hP hD.self va_S.rf (fun q hq => Or.inr hq) (lv_entry av hlen)
section JN
variable {D : va_G} {I : ClassId} {A : Nat → Prop} {B : va_W → Prop} {E : State → Prop} {mi : jr_MI} {rm : Room} {mc ms nc ns : Nat} {ws : va_W} {pc : Nat} {L : List (Nat × Value)} {st : List Value}
theorem jn_aload_n {k : Fin 4} {x : Nat} (i j pc' : Nat) (hdg : decode mi.2.1 pc = .ok (.aload_n k, 1)) (hp : pc + 1 = pc') (hi : (k : Nat) = i) (hx0 : L[j]? = some (i, .ref x)) (kk : jn_R D I A B E mi rm mc ms nc ns ws pc' L (.ref x :: st)) : jn_R D I A B E mi rm mc ms nc ns ws pc L st := by
  subst hp
  intro p l e s m args below meth c H locs ls hx hb hml hr hown hlk hin hts hX hK hP hD hS hA hl
  exact lv_aload_n hx hb hdg hi (lv_at hl j hx0) (kk p l e s m args below meth c H locs ls hx hb hml hr hown hlk hin hts hX hK hP hD hS hA hl)
theorem jn_iconst {n : Int} (v : Int32) (pc' : Nat) (hdg : decode mi.2.1 pc = .ok (.iconst n, 1)) (hp : pc + 1 = pc') (hv : Int32.ofInt n = v) (kk : jn_R D I A B E mi rm mc ms nc ns ws pc' L (.int v :: st)) : jn_R D I A B E mi rm mc ms nc ns ws pc L st := by
  subst hp
  intro p l e s m args below meth c H locs ls hx hb hml hr hown hlk hin hts hX hK hP hD hS hA hl
  exact lv_iconst hx hb hdg hv (kk p l e s m args below meth c H locs ls hx hb hml hr hown hlk hin hts hX hK hP hD hS hA hl)
theorem jn_bipush {n : Int} (v : Int32) (pc' : Nat) (hdg : decode mi.2.1 pc = .ok (.bipush n, 2)) (hp : pc + 2 = pc') (hv : (Int8.ofInt n).toInt32 = v) (kk : jn_R D I A B E mi rm mc ms nc ns ws pc' L (.int v :: st)) : jn_R D I A B E mi rm mc ms nc ns ws pc L st := by
  subst hp
  intro p l e s m args below meth c H locs ls hx hb hml hr hown hlk hin hts hX hK hP hD hS hA hl
  exact lv_bipush hx hb hdg hv (kk p l e s m args below meth c H locs ls hx hb hml hr hown hlk hin hts hX hK hP hD hS hA hl)
theorem jn_sipush {n : Int} (v : Int32) (pc' : Nat) (hdg : decode mi.2.1 pc = .ok (.sipush n, 3)) (hp : pc + 3 = pc') (hv : (Int16.ofInt n).toInt32 = v) (kk : jn_R D I A B E mi rm mc ms nc ns ws pc' L (.int v :: st)) : jn_R D I A B E mi rm mc ms nc ns ws pc L st := by
  subst hp
  intro p l e s m args below meth c H locs ls hx hb hml hr hown hlk hin hts hX hK hP hD hS hA hl
  exact lv_sipush hx hb hdg hv (kk p l e s m args below meth c H locs ls hx hb hml hr hown hlk hin hts hX hK hP hD hS hA hl)
theorem jn_dup {v : Value} (pc' : Nat) (hdg : decode mi.2.1 pc = .ok (.dup, 1)) (hp : pc + 1 = pc') (hc : v.category = 1) (kk : jn_R D I A B E mi rm mc ms nc ns ws pc' L (v :: v :: st)) : jn_R D I A B E mi rm mc ms nc ns ws pc L (v :: st) := by
  subst hp
  intro p l e s m args below meth c H locs ls hx hb hml hr hown hlk hin hts hX hK hP hD hS hA hl
  exact lv_dup hx hb hdg hc (kk p l e s m args below meth c H locs ls hx hb hml hr hown hlk hin hts hX hK hP hD hS hA hl)
theorem jn_obj {x idx : Nat} (pc' : Nat) (hdg : decode mi.2.1 pc = .ok (.invokespecial idx, 3)) (hp : pc + 3 = pc') (h1 : Cond.methodLink mi.1.cls idx Lib.objectInit ∈ jr_WL) (hf : 1 ≤ rm.frames) (hlo : 12 ≤ rm.locals) (kk : jn_R D I A B E mi rm mc ms nc ns ws pc' L []) : jn_R D I A B E mi rm mc ms nc ns ws pc L [.ref x] := by
  subst hp
  intro p l e s m args below meth c H locs ls hx hb hml hr hown hlk hin hts hX hK hP hD hS hA hl
  refine W.objInit hx hb hown (hts _ h1) (hts _ jn_oi) (hts _ jn_oc) rfl (by rw [hml]; exact hl.1) rfl hdg hf hlo ?_
  exact W.eq (g2 := F0 m (pc + 3) ls []) rfl (kk p l e s m args below meth c H locs ls hx hb hml hr hown hlk hin hts hX hK hP hD hS hA hl)
theorem jn_newa {n : Int32} {N : Nat} (pc' : Nat) (hdg : decode mi.2.1 pc = .ok (.newarray .int, 2)) (hp : pc + 2 = pc') (hn : n = nI N) (hN : N ≤ 2000) (hcells : nc + 1 ≤ rm.cells) (hslots : ns + N ≤ rm.slots) (kk : ∀ q : Nat, jn_R D I A B E mi rm mc ms (nc + 1) (ns + N) (ws ++ [(q, .inl (I, (N, .inl (fun _ => 0))))]) pc' L (.ref q :: st)) : jn_R D I A B E mi rm mc ms nc ns ws pc L (.int n :: st) := by
  subst hp
  subst hn
  intro p l e s m args below meth c H locs ls hx hb hml hr hown hlk hin hts hX hK hP hD hS hA hl
  refine va_newa (atype := .int) (ty := .int) (N' := N) (a0 := (N, .inl (fun _ => 0))) hx hb (hts _ jn_ac) rfl hK hP hD hS hA (fun _ => rfl) (nI_pos (by omega)) (nI_clamp (by omega)) (by show N * 4 ≤ 536870912; omega) hcells hslots hdg (fun q cA H1 hK1 hP1 hD1 hS1 => ?_)
  have e : cA = I := by
    have h1 : s.vm.findClass "[I" = some cA := (hK1.2 1 _ rfl).2
    have h2 : s.vm.findClass "[I" = some I := (hK.2 0 _ rfl).2
    exact Option.some.inj (h1.symm.trans h2)
  subst e
  exact kk q p l e s m args below meth c H1 locs ls hx hb hml hr hown hlk hin hts hX hK hP1 hD1 hS1 hA hl
theorem jn_new {idx ci N : Nat} {C : String} {T : u_T} (fs : List Value) (ty : Nat → FieldType) (pc' : Nat) (hdg : decode mi.2.1 pc = .ok (.new idx, 3)) (hp : pc + 3 = pc') (hlay : ∀ w ∈ u_ws C T N, w ∈ jr_WL) (hty : ∀ k, k < N → parseFieldDescriptor (T k).2.2.1 = some (ty k)) (h1 : Cond.classLink mi.1.cls idx C ∈ jr_WL) (h2 : Cond.instantiable C N ∈ jr_WL) (h3 : Cond.initialized C ∈ jr_WL) (hc : vwCl[ci]? = some (C, T, N)) (hfs : ∀ j, j < N → defaultValue (ty j) = vp_V fs j) (hcells : nc + 1 ≤ rm.cells) (hslots : ns + N ≤ rm.slots) (kk : ∀ q : Nat, jn_R D I A B E mi rm mc ms (nc + 1) (ns + N) (ws ++ [(q, .inr (ci, fs))]) pc' L (.ref q :: st)) : jn_R D I A B E mi rm mc ms nc ns ws pc L st := by
  subst hp
  intro p l e s m args below meth c H locs ls hx hb hml hr hown hlk hin hts hX hK hP hD hS hA hl
  exact va_new hx hb hts hlay ty hty hown (hts _ h1) (hts _ h2) (hts _ h3) hK hP hD hS hA hc hfs hcells hslots hdg (fun q H1 hP1 hD1 hS1 => kk q p l e s m args below meth c H1 locs ls hx hb hml hr hown hlk hin hts hX hK hP1 hD1 hS1 hA hl)
theorem jn_set {pre post : va_W} {x y : Nat × va_E} : (pre ++ x :: post).set pre.length y = pre ++ y :: post := by
  induction pre with
  | nil => rfl
  | cons a l ih => simp [ih]
theorem jn_nth {pre post : va_W} {x : Nat × va_E} : (pre ++ x :: post)[pre.length]? = some x := by
  induction pre with
  | nil => rfl
  | cons a l ih => simp
theorem jn_putI {pre post : va_W} {a idx ci N k : Nat} {fs : List Value} {C : String} {T : u_T} {v : Int32} {ty : FieldType} (pc' : Nat) (hdg : decode mi.2.1 pc = .ok (.putfield idx, 3)) (hp : pc + 3 = pc') (hlay : ∀ w ∈ u_ws C T N, w ∈ jr_WL) (hcl : vwCl[ci]? = some (C, T, N)) (ty0 : Nat → FieldType) (hty : ∀ k, k < N → parseFieldDescriptor (T k).2.2.1 = some (ty0 k)) (hnm : ∀ a, a < N → ∀ b, b < N → a ≠ b → (T a).2.1 ≠ (T b).2.1) (hk : k < N) (hTC : (T k).1 = C) (hfin : (T k).2.2.2 = false) (hlink : Cond.fieldLink mi.1.cls idx C (T k).2.1 (T k).2.2.1 ∈ jr_WL) (hd : parseFieldDescriptor (T k).2.2.1 = some ty) (hn : narrow ty (.int v) = .int v) (hfit : fits ty (.int v) = true) (hl0 : k < fs.length) (kk : jn_R D I A B E mi rm mc ms nc ns (pre ++ (a, .inr (ci, fs.set k (.int v))) :: post) pc' L st) : jn_R D I A B E mi rm mc ms nc ns (pre ++ (a, .inr (ci, fs)) :: post) pc L (.int v :: .ref a :: st) := by
  subst hp
  intro p l e s m args below meth c H locs ls hx hb hml hr hown hlk hin hts hX hK hP hD hS hA hl
  refine va_put (own := mi.1.cls) (ref := C) (C := C) (T := T) (N := N) (index := idx) hx hb hts hlay ty0 hty hnm hown hK hP hD hS pre.length jn_nth hcl k hk (hts _ hlink) (by rw [hTC]; exact fun _ h => h) hfin hd hn hfit hl0 hdg (fun H1 locs1 hP1 hD1 hS1 => ?_)
  rw [jn_set] at hP1 hD1
  exact kk p l e s m args below meth c H1 locs1 ls hx hb hml hr hown hlk hin hts hX hK hP1 hD1 hS1 hA hl
theorem jn_putF {pre post : va_W} {a idx ci N k : Nat} {fs : List Value} {C : String} {T : u_T} {v : Value} {ty : FieldType} (pc' : Nat) (hdg : decode mi.2.1 pc = .ok (.putfield idx, 3)) (hp : pc + 3 = pc') (hlay : ∀ w ∈ u_ws C T N, w ∈ jr_WL) (hcl : vwCl[ci]? = some (C, T, N)) (ty0 : Nat → FieldType) (hty : ∀ k, k < N → parseFieldDescriptor (T k).2.2.1 = some (ty0 k)) (hnm : ∀ a, a < N → ∀ b, b < N → a ≠ b → (T a).2.1 ≠ (T b).2.1) (hk : k < N) (hTC : (T k).1 = C) (hfin : (T k).2.2.2 = true) (hdecl : C = mi.1.cls) (hlink : Cond.fieldLink mi.1.cls idx C (T k).2.1 (T k).2.2.1 ∈ jr_WL) (hd : parseFieldDescriptor (T k).2.2.1 = some ty) (hn : narrow ty v = v) (hfit : fits ty v = true) (hl0 : k < fs.length) (kk : jn_R D I A B E mi rm mc ms nc ns (pre ++ (a, .inr (ci, fs.set k v)) :: post) pc' L st) : jn_R D I A B E mi rm mc ms nc ns (pre ++ (a, .inr (ci, fs)) :: post) pc L (v :: .ref a :: st) := by
  subst hp
  intro p l e s m args below meth c H locs ls hx hb hml hr hown hlk hin hts hX hK hP hD hS hA hl
  refine va_putF (own := mi.1.cls) (ref := C) (C := C) (T := T) (N := N) (index := idx) hx hb hts hlay ty0 hty hnm hown hK hP hD hS pre.length jn_nth hcl k hk (hts _ hlink) (by rw [hTC]; exact fun _ h => h) hfin hin (by rw [hTC]; exact hdecl) hd hn hfit hl0 hdg (fun H1 locs1 hP1 hD1 hS1 => ?_)
  rw [jn_set] at hP1 hD1
  exact kk p l e s m args below meth c H1 locs1 ls hx hb hml hr hown hlk hin hts hX hK hP1 hD1 hS1 hA hl
theorem jn_iast {pre post : va_W} {a n k : Nat} {f : Nat → Int32} {i x : Int32} (pc' : Nat) (hdg : decode mi.2.1 pc = .ok (.iastore, 1)) (hp : pc + 1 = pc') (hi : i = nI k) (hk : k < n) (hn : n ≤ 2000) (kk : jn_R D I A B E mi rm mc ms nc ns (pre ++ (a, .inl (I, (n, .inl (upd f k x)))) :: post) pc' L st) : jn_R D I A B E mi rm mc ms nc ns (pre ++ (a, .inl (I, (n, .inl f))) :: post) pc L (.int x :: .int i :: .ref a :: st) := by
  subst hp
  subst hi
  intro p l e s m args below meth c H locs ls hx hb hml hr hown hlk hin hts hX hK hP hD hS hA hl
  refine va_iast hx hb hK hP hD hS pre.length 0 jn_nth rfl (vp_in_nI hk (by omega)) hdg (fun H1 locs1 hP1 hD1 hS1 => ?_)
  rw [nI_clamp (by omega), jn_set] at hP1 hD1
  exact kk p l e s m args below meth c H1 locs1 ls hx hb hml hr hown hlk hin hts hX hK hP1 hD1 hS1 hA hl
theorem jn_get {pre post : va_W} {a idx ci N k : Nat} {fs : List Value} {C : String} {T : u_T} {v : Value} (pc' : Nat) (hdg : decode mi.2.1 pc = .ok (.getfield idx, 3)) (hp : pc + 3 = pc') (hlay : ∀ w ∈ u_ws C T N, w ∈ jr_WL) (hcl : vwCl[ci]? = some (C, T, N)) (hk : k < N) (hTC : (T k).1 = C) (hlink : Cond.fieldLink mi.1.cls idx C (T k).2.1 (T k).2.2.1 ∈ jr_WL) (hv : fs[k]? = some v) (kk : jn_R D I A B E mi rm mc ms nc ns (pre ++ (a, .inr (ci, fs)) :: post) pc' L (v :: st)) : jn_R D I A B E mi rm mc ms nc ns (pre ++ (a, .inr (ci, fs)) :: post) pc L (.ref a :: st) := by
  subst hp
  intro p l e s m args below meth c H locs ls hx hb hml hr hown hlk hin hts hX hK hP hD hS hA hl
  exact va_get (own := mi.1.cls) (ref := C) hx hb hts hlay hown hK hP pre.length jn_nth hcl k hk (hts _ hlink) (by rw [hTC]; exact fun _ h => h) hv hdg (kk p l e s m args below meth c H locs ls hx hb hml hr hown hlk hin hts hX hK hP hD hS hA hl)
theorem jn_ret (hdg : decode mi.2.1 pc = .ok (.return_, 1)) (h1 : nc ≤ mc) (h2 : ns ≤ ms) (hB : B ws) : jn_R D I A B E mi rm mc ms nc ns ws pc L [] := by
  intro p l e s m args below meth c H locs ls hx hb hml hr hown hlk hin hts hX hK hP hD hS hA hl
  exact W.widen h1 h2 (W.vret hx hb hr (fun t ht hW => ⟨⟨rfl, ws, hB, by rw [ht]; exact hP, hD⟩, hS.F ht⟩) hS.2.2 hdg)
theorem jn_ws {ws' : va_W} (e : ws = ws') (kk : jn_R D I A B E mi rm mc ms nc ns ws' pc L st) : jn_R D I A B E mi rm mc ms nc ns ws pc L st := by rw [e]; exact kk
theorem jn_blind {av : List Value} {sz : Nat} : FrameBlind (va_Pc av (fun U => U.heap.size = sz ∧ jn_X U ∧ va_K D vwCl [(I, .int)] U ∧ va_P D vwCl ws U.heap ∧ va_D (fun _ => True) ws)) := by
  intro a U g mk q
  obtain ⟨q0, q1, q2, q3, q4⟩ := q
  exact ⟨q0, q1, jn_X.same (U := U.calling g mk a) rfl q2, va_K.moved (u := U) (U := U.calling g mk a) (Vm.Alike.refl U.vm) q3, q4⟩
/-- behind a constructor that was called: its world is all the world -/
theorem jn_after {p : Program} {l : Launch} {e : Env} {s : State} {m : MethodId} {args : Array Value} {below : List Frame} {meth : Method} {c : Code} {H : Heap} {locs : List Loc} {ls : Array Slot} {a0 : Array Value} {st0 rest : List Value} {mc' ms' : Nat} {B' : va_W → Prop}
    (hrun : va_Run p l e rm s m args below meth c H locs nc ns mc' ms' (F0 m pc ls st0) rest (jn_Q D (va_A ws H.size) B' a0) (va_A ws H.size))
    (hx : p.tables.exec = Jvm.exec) (hb : c.code = mi.2.1) (hml : c.maxLocals = mi.2.2.1) (hr : meth.sig.returnType = none) (hown : s.vm.findClass mi.1.cls = some m.cls) (hlk : meth.locks = false) (hin : meth.name = "<init>") (hts : ∀ w ∈ jr_WL, w.before args s = true) (hX : jn_X s ∧ E s) (hK : va_K D vwCl [(I, .int)] s) (hD : va_D A ws) (hS : va_S A s.heap H locs) (hA : ∀ q : Nat, s.heap.size ≤ q → A q) (hl : lv_has ls mi.2.2.1 L)
    (kk : ∀ ws', B' ws' → jn_R D I A B E mi rm mc ms (nc + mc') (ns + ms') ws' (pc + 3) L rest) :
    W p l e rm s m args below meth c H locs nc ns (MQ below (jn_Q D A B) args s mc ms A) (F0 m pc ls st0) := by
  intro T hT X
  obtain ⟨v, st₀, t, T', L1, h0, X', hL1, e1, e2, ⟨⟨hv, ws', hB', hP', hD'⟩, hz, hk⟩, st'⟩ := hrun T hT X
  cases hv
  rw [h0] at hz hk
  have hF : ∀ q, va_A ws H.size q → A q := fun q hq => by
    rcases hq with ⟨k, e, h⟩ | h
    · exact hD.2 k (q, e) h
    · exact hA q (Nat.le_trans hS.1 h)
  have hS1 : va_S A s.heap T'.heap (locs ++ L1) := ⟨Nat.le_trans hS.1 (by rw [e1]; exact hz), fun q h1 h2 => by rw [e1, hk q (Nat.lt_of_lt_of_le h1 hS.1) (fun z => h2 (hF q z))]; exact hS.2.1 q h1 h2, fun q hq => by
    rcases List.mem_append.mp hq with h | h
    · exact hS.2.2 q h
    · exact hF _ (hL1 q h)⟩
  obtain ⟨t2, a1, b1⟩ := kk ws' hB' p l e s m args below meth c T'.heap (locs ++ L1) ls hx hb hml hr hown hlk hin hts hX hK (by rw [e1]; exact hP') (hD'.weaken (fun k q _ h => hF q.1 h)) hS1 hA hl T' rfl X'
  exact ⟨t2, st' t2 a1, b1⟩
def jn_okI (own : String) (idx : Nat) (y : jr_MI) (n : Nat) : Prop := Cond.methodLink own idx y.1 ∈ jr_WL ∧ Cond.instanceMethod y.1 ∈ jr_WL ∧ Cond.initialized y.1.cls ∈ jr_WL ∧ Cond.code y.1 y.2.1 y.2.2.1 y.2.2.2 ∈ jr_WL ∧ (y.1.cls ≠ "java/lang/invoke/MethodHandle" ∧ y.1.cls ≠ "java/lang/invoke/VarHandle" ∧ (parseMethodDescriptor y.1.desc).map (fun d => d.parameters.length) = some n) ∧ y.1.name = "<init>" ∧ y.2.2.2 = none
def jn_okN (own : String) (idx : Nat) (y : jr_MI) (n : Nat) : Prop := (∀ U, jn_X U → va_Nw (.methodLinkNest own idx y.1 RX9) U) ∧ Cond.instanceMethod y.1 ∈ jr_WL ∧ Cond.initialized y.1.cls ∈ jr_WL ∧ Cond.code y.1 y.2.1 y.2.2.1 y.2.2.2 ∈ jr_WL ∧ (y.1.cls ≠ "java/lang/invoke/MethodHandle" ∧ y.1.cls ≠ "java/lang/invoke/VarHandle" ∧ (parseMethodDescriptor y.1.desc).map (fun d => d.parameters.length) = some n) ∧ y.1.name = "<init>" ∧ y.2.2.2 = none
theorem jn_callI {y : jr_MI} {idx n a mc' ms' : Nat} {rm' : Room} {As rest : List Value} {B' : va_W → Prop} (ok : jn_okI mi.1.cls idx y n) (hn : As.length = n) (hst : (rest.map fun v => v.category).sum ≤ 8) (pc' : Nat) (hdg : decode mi.2.1 pc = .ok (.invokespecial idx, 3)) (hp : pc + 3 = pc') (hs : st = As.reverse ++ .ref a :: rest) (hrc : rm'.cells = mc') (hrs : rm'.slots = ms') (hR : rm'.frames + 1 ≤ rm.frames ∧ 8 + (y.2.2.1 + 11) + rm'.locals ≤ rm.locals) (hf : nc + mc' ≤ rm.cells ∧ ns + ms' ≤ rm.slots) (hM : jn_M D I y rm' mc' ms' ws (.ref a :: As) B') (kk : ∀ ws', B' ws' → jn_R D I A B E mi rm mc ms (nc + mc') (ns + ms') ws' pc' L rest) : jn_R D I A B E mi rm mc ms nc ns ws pc L st := by
  subst hp
  subst hs
  intro p l e s m args below meth c H locs ls hx hb hml hr hown hlk hin hts hX hK hP hD hS hA hl
  obtain ⟨o1, o2, o3, o4, o5, o6, o7⟩ := ok
  have hG : GoodIn jr_WL (jr_wsM y) := jr_goodIn o4
  refine jn_after (va_runI (As := As) (rest := rest) ⟨hx, hb, hml, hown, hts⟩ (hM l H.size) ⟨callB_of n hts hG (by rw [← o7]; rfl) hrc hrs (hts _ o3) (hts _ o1) o5 hR, o6, hts _ o2⟩
    ⟨jn_blind, fun U hU hW => ⟨rfl, by rw [hU], hX.1.warm hW, va_K.moved hW.alike hK, by rw [hU]; exact hP, hD.weaken (fun _ _ _ _ => trivial)⟩⟩ rfl hn hl.1 rfl (lv_room hst) hdg hf) hx hb hml hr hown hlk hin hts hX hK hD hS hA hl kk
theorem jn_callN {y : jr_MI} {idx n a mc' ms' : Nat} {rm' : Room} {As rest : List Value} {B' : va_W → Prop} (ok : jn_okN mi.1.cls idx y n) (hn : As.length = n) (hst : (rest.map fun v => v.category).sum ≤ 8) (pc' : Nat) (hdg : decode mi.2.1 pc = .ok (.invokespecial idx, 3)) (hp : pc + 3 = pc') (hs : st = As.reverse ++ .ref a :: rest) (hrc : rm'.cells = mc') (hrs : rm'.slots = ms') (hR : rm'.frames + 1 ≤ rm.frames ∧ 8 + (y.2.2.1 + 11) + rm'.locals ≤ rm.locals) (hf : nc + mc' ≤ rm.cells ∧ ns + ms' ≤ rm.slots) (hM : jn_M D I y rm' mc' ms' ws (.ref a :: As) B') (kk : ∀ ws', B' ws' → jn_R D I A B E mi rm mc ms (nc + mc') (ns + ms') ws' pc' L rest) : jn_R D I A B E mi rm mc ms nc ns ws pc L st := by
  subst hp
  subst hs
  intro p l e s m args below meth c H locs ls hx hb hml hr hown hlk hin hts hX hK hP hD hS hA hl
  obtain ⟨o1, o2, o3, o4, o5, o6, o7⟩ := ok
  have hG : GoodIn jr_WL (jr_wsM y) := jr_goodIn o4
  refine jn_after (va_runIN (As := As) (rest := rest) ⟨hx, hb, hml, hown, hts⟩ (hM l H.size) ⟨va_cnB n hts hG (by rw [← o7]; rfl) hrc hrs (o1 s hX.1) (hts _ o3) o5 hR, o6, hts _ o2⟩
    ⟨jn_blind, fun U hU hW => ⟨rfl, by rw [hU], hX.1.warm hW, va_K.moved hW.alike hK, by rw [hU]; exact hP, hD.weaken (fun _ _ _ _ => trivial)⟩⟩ rfl hn hl.1 rfl (lv_room hst) hdg hf) hx hb hml hr hown hlk hin hts hX hK hD hS hA hl kk
end JN
theorem on_L_9 : jn_okI RL 9 mi_X9_init 0 := ⟨jr_wl 96 (by decide +kernel) (by decide +kernel), jr_wl 97 (by decide +kernel) (by decide +kernel), jr_wl 76 (by decide +kernel) (by decide +kernel), jr_wl 98 (by decide +kernel) (by decide +kernel), ⟨by decide +kernel, by decide +kernel, by decide +kernel⟩, rfl, rfl⟩
theorem oo_X9 : Cond.methodLink RX9 1 Lib.objectInit ∈ jr_WL := jr_wl 99 (by decide +kernel) (by decide +kernel)
theorem oo_X6 : Cond.methodLink RX6 3 Lib.objectInit ∈ jr_WL := jr_wl 107 (by decide +kernel) (by decide +kernel)
theorem on_X9_18 : jn_okI RX9 18 mi_X2_init 1 := ⟨jr_wl 128 (by decide +kernel) (by decide +kernel), jr_wl 129 (by decide +kernel) (by decide +kernel), jr_wl 78 (by decide +kernel) (by decide +kernel), jr_wl 130 (by decide +kernel) (by decide +kernel), ⟨by decide +kernel, by decide +kernel, by decide +kernel⟩, rfl, rfl⟩
theorem oo_X2 : Cond.methodLink RX2 3 Lib.objectInit ∈ jr_WL := jr_wl 131 (by decide +kernel) (by decide +kernel)
theorem oo_X7 : Cond.methodLink RX7 3 Lib.objectInit ∈ jr_WL := jr_wl 162 (by decide +kernel) (by decide +kernel)
theorem on_X9_34 : jn_okI RX9 34 mi_X4_init 2 := ⟨jr_wl 196 (by decide +kernel) (by decide +kernel), jr_wl 197 (by decide +kernel) (by decide +kernel), jr_wl 80 (by decide +kernel) (by decide +kernel), jr_wl 198 (by decide +kernel) (by decide +kernel), ⟨by decide +kernel, by decide +kernel, by decide +kernel⟩, rfl, rfl⟩
theorem oo_X4 : Cond.methodLink RX4 3 Lib.objectInit ∈ jr_WL := jr_wl 199 (by decide +kernel) (by decide +kernel)
theorem oo_X1 : Cond.methodLink RX1 1 Lib.objectInit ∈ jr_WL := jr_wl 205 (by decide +kernel) (by decide +kernel)
theorem oo_X3 : Cond.methodLink RX3 3 Lib.objectInit ∈ jr_WL := jr_wl 240 (by decide +kernel) (by decide +kernel)
theorem oo_X5 : Cond.methodLink RX5 3 Lib.objectInit ∈ jr_WL := jr_wl 296 (by decide +kernel) (by decide +kernel)
set_option maxRecDepth 1000000 in
theorem on_L_12 : jn_okI RL 12 mi_X10_init 0 := ⟨jr_wl 1033 (by decide +kernel) (by decide +kernel), jr_wl 1034 (by decide +kernel) (by decide +kernel), jr_wl 89 (by decide +kernel) (by decide +kernel), jr_wl 1035 rfl rfl, ⟨by decide +kernel, by decide +kernel, by decide +kernel⟩, rfl, rfl⟩
theorem oo_X10 : Cond.methodLink RX10 1 Lib.objectInit ∈ jr_WL := jr_wl 1036 (by decide +kernel) (by decide +kernel)
theorem on_X9_9 : jn_okN RX9 9 mi_X6_init 0 := ⟨fun U h => h.1, jr_wl 105 (by decide +kernel) (by decide +kernel), jr_wl 77 (by decide +kernel) (by decide +kernel), jr_wl 106 (by decide +kernel) (by decide +kernel), ⟨by decide +kernel, by decide +kernel, by decide +kernel⟩, rfl, rfl⟩
theorem on_X9_27 : jn_okN RX9 27 mi_X7_init 0 := ⟨fun U h => h.2.1, jr_wl 160 (by decide +kernel) (by decide +kernel), jr_wl 79 (by decide +kernel) (by decide +kernel), jr_wl 161 (by decide +kernel) (by decide +kernel), ⟨by decide +kernel, by decide +kernel, by decide +kernel⟩, rfl, rfl⟩
theorem on_X4_11 : jn_okN RX4 11 mi_X1_init 0 := ⟨fun U h => h.2.2.1, jr_wl 203 (by decide +kernel) (by decide +kernel), jr_wl 81 (by decide +kernel) (by decide +kernel), jr_wl 204 (by decide +kernel) (by decide +kernel), ⟨by decide +kernel, by decide +kernel, by decide +kernel⟩, rfl, rfl⟩
theorem on_X9_43 : jn_okN RX9 43 mi_X3_init 0 := ⟨fun U h => h.2.2.2.1, jr_wl 238 (by decide +kernel) (by decide +kernel), jr_wl 82 (by decide +kernel) (by decide +kernel), jr_wl 239 (by decide +kernel) (by decide +kernel), ⟨by decide +kernel, by decide +kernel, by decide +kernel⟩, rfl, rfl⟩
theorem on_X9_56 : jn_okN RX9 56 mi_X5_init 0 := ⟨fun U h => h.2.2.2.2, jr_wl 294 (by decide +kernel) (by decide +kernel), jr_wl 83 (by decide +kernel) (by decide +kernel), jr_wl 295 (by decide +kernel) (by decide +kernel), ⟨by decide +kernel, by decide +kernel, by decide +kernel⟩, rfl, rfl⟩
theorem iz_X9 : Cond.initialized RX9 ∈ jr_WL := jr_wl 76 (by decide +kernel) (by decide +kernel)
theorem iz_X6 : Cond.initialized RX6 ∈ jr_WL := jr_wl 77 (by decide +kernel) (by decide +kernel)
theorem iz_X2 : Cond.initialized RX2 ∈ jr_WL := jr_wl 78 (by decide +kernel) (by decide +kernel)
theorem iz_X7 : Cond.initialized RX7 ∈ jr_WL := jr_wl 79 (by decide +kernel) (by decide +kernel)
theorem iz_X4 : Cond.initialized RX4 ∈ jr_WL := jr_wl 80 (by decide +kernel) (by decide +kernel)
theorem iz_X1 : Cond.initialized RX1 ∈ jr_WL := jr_wl 81 (by decide +kernel) (by decide +kernel)
theorem iz_X3 : Cond.initialized RX3 ∈ jr_WL := jr_wl 82 (by decide +kernel) (by decide +kernel)
theorem iz_X5 : Cond.initialized RX5 ∈ jr_WL := jr_wl 83 (by decide +kernel) (by decide +kernel)
theorem iz_X8 : Cond.initialized RX8 ∈ jr_WL := jr_wl 88 (by decide +kernel) (by decide +kernel)
theorem iz_X10 : Cond.initialized RX10 ∈ jr_WL := jr_wl 89 (by decide +kernel) (by decide +kernel)
theorem iz_X0 : Cond.initialized RX0 ∈ jr_WL := jr_wl 91 (by decide +kernel) (by decide +kernel)
theorem cl_L_7 : Cond.classLink RL 7 RX9 ∈ jr_WL := jr_wl 94 (by decide +kernel) (by decide +kernel)
theorem ib_X9 : Cond.instantiable RX9 9 ∈ jr_WL := jr_wl 95 (by decide +kernel) (by decide +kernel)
theorem cl_X9_7 : Cond.classLink RX9 7 RX6 ∈ jr_WL := jr_wl 102 (by decide +kernel) (by decide +kernel)
theorem ib_X6 : Cond.instantiable RX6 5 ∈ jr_WL := jr_wl 103 (by decide +kernel) (by decide +kernel)
theorem cl_X9_16 : Cond.classLink RX9 16 RX2 ∈ jr_WL := jr_wl 126 (by decide +kernel) (by decide +kernel)
theorem ib_X2 : Cond.instantiable RX2 8 ∈ jr_WL := jr_wl 127 (by decide +kernel) (by decide +kernel)
theorem cl_X9_25 : Cond.classLink RX9 25 RX7 ∈ jr_WL := jr_wl 157 (by decide +kernel) (by decide +kernel)
theorem ib_X7 : Cond.instantiable RX7 10 ∈ jr_WL := jr_wl 158 (by decide +kernel) (by decide +kernel)
theorem cl_X9_32 : Cond.classLink RX9 32 RX4 ∈ jr_WL := jr_wl 194 (by decide +kernel) (by decide +kernel)
theorem ib_X4 : Cond.instantiable RX4 7 ∈ jr_WL := jr_wl 195 (by decide +kernel) (by decide +kernel)
theorem cl_X4_9 : Cond.classLink RX4 9 RX1 ∈ jr_WL := jr_wl 200 (by decide +kernel) (by decide +kernel)
theorem ib_X1 : Cond.instantiable RX1 1 ∈ jr_WL := jr_wl 201 (by decide +kernel) (by decide +kernel)
theorem cl_X9_41 : Cond.classLink RX9 41 RX3 ∈ jr_WL := jr_wl 235 (by decide +kernel) (by decide +kernel)
theorem ib_X3 : Cond.instantiable RX3 11 ∈ jr_WL := jr_wl 236 (by decide +kernel) (by decide +kernel)
theorem cl_X9_54 : Cond.classLink RX9 54 RX5 ∈ jr_WL := jr_wl 291 (by decide +kernel) (by decide +kernel)
theorem ib_X5 : Cond.instantiable RX5 3 ∈ jr_WL := jr_wl 292 (by decide +kernel) (by decide +kernel)
theorem cl_L_10 : Cond.classLink RL 10 RX10 ∈ jr_WL := jr_wl 1031 (by decide +kernel) (by decide +kernel)
theorem ib_X10 : Cond.instantiable RX10 49 ∈ jr_WL := jr_wl 1032 (by decide +kernel) (by decide +kernel)
