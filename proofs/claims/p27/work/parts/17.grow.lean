/-! constructors: rows over a list of cells that grows -/
/-- what only the constructors need of the tables -/
def NN (U : State) : Prop := va_Nw (.methodLinkNest RX3 9 yX1_init RX4) U ∧ va_Nw (.methodLinkNest RX3 18 yX0_init RX4) U ∧ va_Nw (.methodLinkNest RX3 25 yX2_init RX4) U ∧ va_Nw (.methodLinkNest RX4 41 yX3_init RX4) U ∧ va_AO "TermBill$Student" U
theorem NN_same {u U : State} (h : u.vm = U.vm) (k : NN u) : NN U := ⟨va_Nw.same rfl h k.1, va_Nw.same rfl h k.2.1, va_Nw.same rfl h k.2.2.1, va_Nw.same rfl h k.2.2.2.1, va_AO.moved (h ▸ Vm.Alike.refl u.vm) k.2.2.2.2⟩
theorem NN_warm {s U : State} (hW : s.WarmedH U.vm) (k : NN s) : NN U := ⟨va_Nw.warmM hW k.1, va_Nw.warmM hW k.2.1, va_Nw.warmM hW k.2.2.1, va_Nw.warmM hW k.2.2.2.1, va_AO.moved hW.alike k.2.2.2.2⟩
def GK (D : va_G) (cA : Nat → ClassId) (U : State) : Prop := va_K D vwCl (TT cA) U ∧ NN U
def PcG (D : va_G) (cA : Nat → ClassId) (sz : Nat) (av : List Value) (w : va_W) : Array Value → State → Prop := va_Pc av (fun U => U.heap.size = sz ∧ va_P D vwCl w U.heap ∧ va_D (fun _ => True) w ∧ GK D cA U)
theorem PcG_blind {D : va_G} {cA : Nat → ClassId} {sz : Nat} {av : List Value} {w : va_W} : FrameBlind (PcG D cA sz av w) := fun a U g mk q => ⟨q.1, q.2.1, q.2.2.1, q.2.2.2.1, va_K.moved (u := U) (U := U.calling g mk a) (Vm.Alike.refl U.vm) q.2.2.2.2.1, NN_same (u := U) rfl q.2.2.2.2.2⟩
def CQG (D : va_G) (w : va_W) (sz : Nat) (post : (Nat → Nat) → va_W) : Array Value → State → Outcome → State → Prop := fun _ st oc t => oc = .returned none ∧ (∃ q : Nat → Nat, va_P D vwCl (post q) t.heap ∧ va_D (va_A w sz) (post q)) ∧ va_F (va_A w sz) st t
/-- a method that makes cells: from the cells w, the cells post q -/
def CG (l : Launch) (D : va_G) (cA : Nat → ClassId) (sz : Nat) (y : MethodName) (ws : List Cond) (fr lo mc ms : Nat) (av : List Value) (w : va_W) (post : (Nat → Nat) → va_W) : Prop := Met l y ws (RM fr lo mc ms) (PcG D cA sz av w) (CQG D w sz post) mc ms (va_A w sz)
def Gx (p : Program) (m : MethodId) (c : Code) (cc : ByteArray) (nL : Nat) (s : State) (args : Array Value) (ws : List Cond) (own : String) (D : va_G) (cA : Nat → ClassId) (A : Nat → Prop) (meth : Method) : Prop := CallFix p m c cc nL s args ws own ∧ GK D cA s ∧ meth.locks = false ∧ ∀ q, s.heap.size ≤ q → A q
def SG (D : va_G) (A : Nat → Prop) (w : va_W) (H0 H : Heap) (locs : List Loc) : Prop := va_P D vwCl w H ∧ va_D A w ∧ va_S A H0 H locs
theorem CG_of {l : Launch} {D : va_G} {cA : Nat → ClassId} {sz : Nat} {y : MethodName} {ws ws' : List Cond} {fr lo mc ms : Nat} {av : List Value} {w : va_W} {post : (Nat → Nat) → va_W} {cc : ByteArray} {maxL : Nat} {ret : Option FieldType} {own : String} (hy : plainName y.cls = true) (hown : y.cls = own) (hw : ws = .code y cc maxL ret :: ws') (hlen : (lg_sl av).length ≤ maxL)
    (body : ∀ (p : Program) (e : Env) (s : State) (m : MethodId) (below : List Frame) (meth : Method) (c : Code) (ls : Array Slot) (A : Nat → Prop), A = va_A w s.heap.size → Gx p m c cc maxL s av.toArray ws own D cA A meth → SG D A w s.heap s.heap [] → meth.name = y.name → meth.sig.returnType = ret → lv_has ls maxL (lv_args 0 av) →
      W p l e (RM fr lo mc ms) s m av.toArray below meth c s.heap [] 0 0 (MQ below (CQG D w s.heap.size post) av.toArray s mc ms (va_A w s.heap.size)) (F0 m 0 ls [])) : CG l D cA sz y ws fr lo mc ms av w post := by
  refine Met.ofW (cc := cc) (maxL := maxL) (ret := ret) hy hw ?_
  intro p e s m args below meth c s₁ B hml hv
  obtain ⟨rfl, hsz, hP, hD, hE⟩ := hv
  subst hsz
  have hl := lv_entry av hlen
  rw [lg_entry_eq]
  exact body p e s m below meth c _ _ rfl ⟨⟨B.exec, B.bytes, hml, hown ▸ findClass_of_methodNamed B.named, atoms_spec (ws := ws) B.pre⟩, hE, B.notSynchronized, fun q h => Or.inr h⟩ ⟨hP, hD.self, va_S.rf⟩ (name_of_methodNamed B.named B.method).1 B.returns hl
theorem va_nd_of {l : List Nat} (h : l.Nodup) : va_nd l = true := by
  induction l with
  | nil => rfl
  | cons a l ih =>
    obtain ⟨h1, h2⟩ := List.nodup_cons.mp h
    simp [va_nd, h1, ih h2]
theorem g_range {w wc : va_W} : (List.range w.length).map (fun i => (w ++ wc)[i]?) = w.map some := by
  apply List.ext_getElem?
  intro k
  rw [List.getElem?_map, List.getElem?_map]
  rcases Nat.lt_or_ge k w.length with h | h
  · rw [List.getElem?_range h, List.getElem?_eq_getElem h]
    simp [List.getElem?_append_left h]
  · rw [List.getElem?_eq_none (by simpa using h), List.getElem?_eq_none h]
    rfl
theorem g_last {w wc : va_W} : ((List.range wc.length).map (· + w.length)).map (fun i => (w ++ wc)[i]?) = wc.map some := by
  apply List.ext_getElem?
  intro k
  rw [List.getElem?_map, List.getElem?_map, List.getElem?_map]
  rcases Nat.lt_or_ge k wc.length with h | h
  · rw [List.getElem?_range h, List.getElem?_eq_getElem h]
    simp [List.getElem?_append_right]
  · rw [List.getElem?_eq_none (by simpa using h), List.getElem?_eq_none h]
    rfl
section GW
variable {p : Program} {l : Launch} {e : Env} {R : Room} {s : State} {m : MethodId} {args : Array Value} {below : List Frame} {meth : Method} {c : Code} {cc : ByteArray} {nL : Nat} {ws : List Cond} {own : String} {D : va_G} {cA : Nat → ClassId} {A : Nat → Prop} {w : va_W} {H : Heap} {locs : List Loc} {cells slots : Nat} {Q : State → Prop} {pc : Nat} {ls : Array Slot} {rest st0 : List Value} {a : Nat}
theorem g_put (X : Gx p m c cc nL s args ws own D cA A meth) (S : SG D A w s.heap H locs) {ci index N : Nat} {C : String} {T : u_T} (h5 : ∀ w ∈ u_ws C T N, w.before args s = true) (ty0 : Nat → FieldType) (hty : ∀ k, k < N → parseFieldDescriptor (T k).2.2.1 = some (ty0 k)) (hnm : ∀ a, a < N → ∀ b, b < N → a ≠ b → (T a).2.1 ≠ (T b).2.1) (q0 : Nat) {fs : List Value} (he : w[q0]? = some (a, .inr (ci, fs))) (hc : vwCl[ci]? = some (C, T, N)) (j : Nat) (hj : j < N ∧ j < fs.length)
    (hlink : (Cond.fieldLink own index (T j).1 (T j).2.1 (T j).2.2.1).before args s = true) (hfin : (T j).2.2.2 = false) {v : Value} (hn : narrow (ty0 j) v = v) (hfit : fits (ty0 j) v = true) (hdg : decode cc pc = .ok (.putfield index, 3))
    (kk : ∀ (H1 : Heap) (locs1 : List Loc), SG D A (w.set q0 (a, .inr (ci, fs.set j v))) s.heap H1 locs1 → W p l e R s m args below meth c H1 locs1 cells slots Q (F0 m (pc + 3) ls rest)) : W p l e R s m args below meth c H locs cells slots Q (F0 m pc ls (v :: .ref a :: rest)) :=
  va_put X.1.1 X.1.2.1 h5 (fun _ h => h) ty0 hty hnm X.1.2.2.2.1 X.2.1.1 S.1 S.2.1 S.2.2 q0 he hc j hj.1 hlink (fun _ h => h) hfin (hty j hj.1) hn hfit hj.2 hdg (fun H1 locs1 h1 h2 h3 => kk H1 locs1 ⟨h1, h2, h3⟩)
theorem g_putF (X : Gx p m c cc nL s args ws own D cA A meth) (S : SG D A w s.heap H locs) (hin : meth.name = "<init>") {ci index N : Nat} {C : String} {T : u_T} (h5 : ∀ w ∈ u_ws C T N, w.before args s = true) (ty0 : Nat → FieldType) (hty : ∀ k, k < N → parseFieldDescriptor (T k).2.2.1 = some (ty0 k)) (hnm : ∀ a, a < N → ∀ b, b < N → a ≠ b → (T a).2.1 ≠ (T b).2.1) (q0 : Nat) {fs : List Value} (he : w[q0]? = some (a, .inr (ci, fs))) (hc : vwCl[ci]? = some (C, T, N)) (j : Nat) (hj : j < N ∧ j < fs.length)
    (hlink : (Cond.fieldLink own index (T j).1 (T j).2.1 (T j).2.2.1).before args s = true) (hfin : (T j).2.2.2 = true) (hdecl : (T j).1 = own) {v : Value} (hn : narrow (ty0 j) v = v) (hfit : fits (ty0 j) v = true) (hdg : decode cc pc = .ok (.putfield index, 3))
    (kk : ∀ (H1 : Heap) (locs1 : List Loc), SG D A (w.set q0 (a, .inr (ci, fs.set j v))) s.heap H1 locs1 → W p l e R s m args below meth c H1 locs1 cells slots Q (F0 m (pc + 3) ls rest)) : W p l e R s m args below meth c H locs cells slots Q (F0 m pc ls (v :: .ref a :: rest)) :=
  va_putF X.1.1 X.1.2.1 h5 (fun _ h => h) ty0 hty hnm X.1.2.2.2.1 X.2.1.1 S.1 S.2.1 S.2.2 q0 he hc j hj.1 hlink (fun _ h => h) hfin hin hdecl (hty j hj.1) hn hfit hj.2 hdg (fun H1 locs1 h1 h2 h3 => kk H1 locs1 ⟨h1, h2, h3⟩)
theorem g_getr (X : Gx p m c cc nL s args ws own D cA A meth) (S : SG D A w s.heap H locs) {ci index N : Nat} {C : String} {T : u_T} (h5 : ∀ w ∈ u_ws C T N, w.before args s = true) (q0 : Nat) {fs : List Value} (he : w[q0]? = some (a, .inr (ci, fs))) (hc : vwCl[ci]? = some (C, T, N)) (j : Nat) (hj : j < N) (hlink : (Cond.fieldLink own index (T j).1 (T j).2.1 (T j).2.2.1).before args s = true) {v : Value} (hv : fs[j]? = some v) (hdg : decode cc pc = .ok (.getfield index, 3))
    (kk : W p l e R s m args below meth c H locs cells slots Q (F0 m (pc + 3) ls (v :: rest))) : W p l e R s m args below meth c H locs cells slots Q (F0 m pc ls (.ref a :: rest)) :=
  va_get X.1.1 X.1.2.1 h5 (fun _ h => h) X.1.2.2.2.1 X.2.1.1 S.1 q0 he hc j hj hlink (fun _ h => h) hv hdg kk
theorem RA_int {U : State} {c1 c2 : ClassId} {ty : FieldType} (h1 : va_RA U c1 ty) (h2 : va_RA U c2 ty) : c1 = c2 := by
  cases ty with
  | object C =>
    obtain ⟨k1, x1, -, -, -, e1⟩ := h1
    obtain ⟨k2, x2, -, -, -, e2⟩ := h2
    exact Option.some.inj (e1.symm.trans e2)
  | _ =>
    have e1 : U.vm.findClass _ = some c1 := h1
    have e2 : U.vm.findClass _ = some c2 := h2
    exact Option.some.inj (e1.symm.trans e2)
theorem g_newi (X : Gx p m c cc nL s args ws own D cA A meth) (S : SG D A w s.heap H locs) (harr : (Cond.arrayClass .int).before args s = true) {n : Int32} {N' : Nat} (hn : ¬ n < 0) (hN : n.toNatClampNeg = N') (hb : N' ≤ 64) (hcells : cells + 1 ≤ R.cells) (hslots : slots + N' ≤ R.slots) (hdg : decode cc pc = .ok (.newarray .int, 2))
    (kk : ∀ (q : Nat) (H1 : Heap), SG D A (w ++ [(q, .inl (cA 0, N', .inl (fun _ => 0)))]) s.heap H1 locs → W p l e R s m args below meth c H1 locs (cells + 1) (slots + N') Q (F0 m (pc + 2) ls (.ref q :: rest))) : W p l e R s m args below meth c H locs cells slots Q (F0 m pc ls (.int n :: rest)) := by
  refine va_newa (atype := .int) (ty := .int) (a0 := (N', .inl (fun _ => 0))) X.1.1 X.1.2.1 harr rfl X.2.1.1 S.1 S.2.1 S.2.2 X.2.2.2 (fun _ => rfl) hn hN (by simp only [componentBytes]; omega) hcells hslots hdg (fun q c9 H1 hK hP hD hS => ?_)
  have e : c9 = cA 0 := RA_int (hK.2 2 (c9, .int) rfl).2 (hK.2 0 (cA 0, .int) rfl).2
  subst e
  exact kk q H1 ⟨hP, hD, hS⟩
theorem g_news (X : Gx p m c cc nL s args ws own D cA A meth) (S : SG D A w s.heap H locs) {index : Nat} (hlink : (Cond.classLink own index "TermBill$Student").before args s = true) {n : Int32} {N' : Nat} (hn : ¬ n < 0) (hN : n.toNatClampNeg = N') (hb : N' ≤ 64) (hcells : cells + 1 ≤ R.cells) (hslots : slots + N' ≤ R.slots) (hdg : decode cc pc = .ok (.anewarray index, 3))
    (kk : ∀ (q : Nat) (H1 : Heap), SG D A (w ++ [(q, .inl (cA 1, N', .inr (.inr (.inr (.inr (fun _ => none))))))]) s.heap H1 locs → W p l e R s m args below meth c H1 locs (cells + 1) (slots + N') Q (F0 m (pc + 3) ls (.ref q :: rest))) : W p l e R s m args below meth c H locs cells slots Q (F0 m pc ls (.int n :: rest)) := by
  refine va_newq X.1.1 X.1.2.1 X.1.2.2.2.1 hlink X.2.1.2.2.2.2.2 X.2.1.1 S.1 S.2.1 S.2.2 X.2.2.2 hn hN (by omega) hcells hslots hdg (fun q c9 H1 hK hP hD hS => ?_)
  have e : c9 = cA 1 := RA_int (hK.2 2 (c9, .object "TermBill$Student") rfl).2 (hK.2 1 (cA 1, .object "TermBill$Student") rfl).2
  subst e
  exact kk q H1 ⟨hP, hD, hS⟩
theorem g_new (X : Gx p m c cc nL s args ws own D cA A meth) (S : SG D A w s.heap H locs) {C : String} {T : u_T} {N ci index : Nat} (h5 : ∀ w ∈ u_ws C T N, w.before args s = true) (ty : Nat → FieldType) (hty : ∀ k, k < N → parseFieldDescriptor (T k).2.2.1 = some (ty k)) (hcl : (Cond.classLink own index C).before args s = true) (hinst : (Cond.instantiable C N).before args s = true) (hini : (Cond.initialized C).before args s = true) (hc : vwCl[ci]? = some (C, T, N)) {fs : List Value} (hfs : ∀ j, j < N → defaultValue (ty j) = vp_V fs j) (hcells : cells + 1 ≤ R.cells) (hslots : slots + N ≤ R.slots) (hdg : decode cc pc = .ok (.new index, 3))
    (kk : ∀ (q : Nat) (H1 : Heap), SG D A (w ++ [(q, .inr (ci, fs))]) s.heap H1 locs → W p l e R s m args below meth c H1 locs (cells + 1) (slots + N) Q (F0 m (pc + 3) ls (.ref q :: rest))) : W p l e R s m args below meth c H locs cells slots Q (F0 m pc ls rest) :=
  va_new X.1.1 X.1.2.1 h5 (fun _ h => h) ty hty X.1.2.2.2.1 hcl hinst hini X.2.1.1 S.1 S.2.1 S.2.2 X.2.2.2 hc hfs hcells hslots hdg (fun q H1 h1 h2 h3 => kk q H1 ⟨h1, h2, h3⟩)
theorem g_pre (X : Gx p m c cc nL s args ws own D cA A meth) {wc : va_W} (S : SG D A (w ++ wc) s.heap H locs) (av : List Value) : PreS s H (PcG D cA H.size av wc) av := by
  refine ⟨PcG_blind, fun U hU hW => ⟨rfl, by rw [hU], ?_, ?_, va_K.moved hW.alike X.2.1.1, NN_warm hW X.2.1.2⟩⟩
  · rw [hU]
    intro k q hk
    exact S.1 (w.length + k) q (by rw [List.getElem?_append_right (by omega), Nat.add_sub_cancel_left]; exact hk)
  · exact ⟨fun i j p q hi hj hpq => by
      have := S.2.1.1 (w.length + i) (w.length + j) p q (by rw [List.getElem?_append_right (by omega), Nat.add_sub_cancel_left]; exact hi) (by rw [List.getElem?_append_right (by omega), Nat.add_sub_cancel_left]; exact hj) hpq
      omega, fun _ _ _ => trivial⟩
/-- behind a call that makes cells: the last cells are the callee's -/
theorem g_call (X : Gx p m c cc nL s args ws own D cA A meth) {wc : va_W} (S : SG D A (w ++ wc) s.heap H locs) {mc ms : Nat} {post : (Nat → Nat) → va_W} {av : Array Value} (hr : va_Run p l e R s m args below meth c H locs cells slots mc ms (F0 m pc ls st0) rest (CQG D wc H.size post av) (va_A wc H.size))
    (kk : ∀ (q : Nat → Nat) (H1 : Heap) (locs1 : List Loc), SG D A (w ++ post q) s.heap H1 locs1 → W p l e R s m args below meth c H1 locs1 (cells + mc) (slots + ms) Q (F0 m (pc + 3) ls rest)) : W p l e R s m args below meth c H locs cells slots Q (F0 m pc ls st0) := by
  intro T hT X9
  obtain ⟨v, st₀, t, T', L, h0, X', hL, e1, e2, ⟨hv, ⟨q, hP, hD⟩, hF⟩, st⟩ := hr T hT X9
  cases hv
  have hF9 : ∀ z, va_A wc H.size z → A z := va_free S.2.1 S.2.2 X.2.2.2 _ g_last
  obtain ⟨-, k2, k3⟩ := vx_keep h0 e1 S.2.2 (fun z _ h => hF9 z h) hF9 hL hF
  obtain ⟨j1, j2⟩ := va_join S.1 S.2.1 ((List.range wc.length).map (· + w.length)) (List.range w.length) g_last g_range (va_nd_of List.nodup_range) (fun i hi hj => by
    obtain ⟨z, -, hz⟩ := List.mem_map.mp hj
    have := List.mem_range.mp hi
    omega) k2 hF9 (by rw [e1]; exact hP) hD
  obtain ⟨t2, a1, b1⟩ := kk q T'.heap (locs ++ L) ⟨j1, j2, k3⟩ T' rfl X'
  exact ⟨t2, st t2 a1, b1⟩
theorem g_vret (X : Gx p m c cc nL s args ws own D cA A meth) {w0 w1 : va_W} (hA : A = va_A w0 s.heap.size) (S : SG D A w1 s.heap H locs) {post : (Nat → Nat) → va_W} {mc ms : Nat} (hr : meth.sig.returnType = none) (hdg : decode cc pc = .ok (.return_, 1)) (hc : cells ≤ mc) (hs : slots ≤ ms) (q : Nat → Nat) (hq : w1 = post q) : W p l e R s m args below meth c H locs cells slots (MQ below (CQG D w0 s.heap.size post) args s mc ms (va_A w0 s.heap.size)) (F0 m pc ls []) := by
  subst hq; subst hA
  exact W.widen hc hs (W.vret X.1.1 X.1.2.1 hr (fun t ht _ => ⟨rfl, ⟨q, by rw [ht]; exact S.1, S.2.1⟩, S.2.2.F ht⟩) S.2.2.2.2 hdg X.2.2.1)
end GW
