/-! the rows of the walk over the one world -/
def strs : List (Nat × String) := [(59, "level or rate is out of range"), (64, "from or to is out of range"), (66, "week or share is out of range"), (69, "fee or limit is out of range"), (75, "level or need is out of range"), (87, "kinds or limit is out of range"), (95, "credits is out of range"), (109, "it has taken all courses of the term"), (118, "no such course"), (124, "the course is dropped"), (130, "kind or amount is out of range"), (138, "rank or amount is out of range"), (149, "it has all awards of the term"), (151, "amount is out of range"), (169, "many is out of range"), (171, "it owes nothing"), (191, "the last term ends with this week"), (200, "no such kind"), (209, "no such award"), (223, "no such student")]
def SX (U : State) : Prop := ∀ q ∈ strs, ∃ a : Nat, vk_R RX4 q.1 q.2 a U
def xnd : List String := ["java/lang/RuntimeException", "java/lang/Exception", "java/lang/Throwable"]
def xcl : List String := ["java/lang/IllegalArgumentException", "java/lang/IllegalStateException", "java/lang/IndexOutOfBoundsException"]
/-- the exceptions' words that a method's own list doesn't carry -/
def XN (U : State) : Prop := (∀ X ∈ xnd, va_Nw (.declares (Bundle.initS X)) U) ∧ (∀ X ∈ xcl, va_Nw (.castable X X) U) ∧ ∀ X ∈ xcl, ∀ Y ∈ xcl, X ≠ Y → va_Nc X Y U
theorem XN_same {u U : State} (h : u.vm = U.vm) (k : XN u) : XN U := ⟨fun X hX => va_Nw.same rfl h (k.1 X hX), fun X hX => va_Nw.same rfl h (k.2.1 X hX), fun X hX Y hY hn => va_Nc.moved (h ▸ Vm.Alike.refl u.vm) (k.2.2 X hX Y hY hn)⟩
theorem XN_warm {s U : State} (hW : s.WarmedH U.vm) (k : XN s) : XN U := ⟨fun X hX => va_Nw.warmD hW (k.1 X hX), fun X hX => va_Nw.warmC hW (k.2.1 X hX), fun X hX Y hY hn => va_Nc.moved hW.alike (k.2.2 X hX Y hY hn)⟩
/-- what the machine's tables say, and the two statics that an exception reads -/
def EN (D : va_G) (cA : Nat → ClassId) (A : Nat → Prop) (U : State) : Prop := va_K D vwCl (TT cA) U ∧ vx_Zq Bundle.tN "UNASSIGNED_STACK" Bundle.steD A U U.heap ∧ vx_Zq Bundle.tN "SUPPRESSED_SENTINEL" Bundle.listD A U U.heap ∧ SX U ∧ XN U
theorem EN_blind {D : va_G} {cA : Nat → ClassId} {A : Nat → Prop} {U : State} (g : JFrame) (mk : MethodId) (a : Array Value) (h : EN D cA A U) : EN D cA A (U.calling g mk a) :=
  ⟨va_K.moved (u := U) (U := U.calling g mk a) (Vm.Alike.refl U.vm) h.1, vx_Zq.moved (u := U) (U := U.calling g mk a) (H := U.heap) (Vm.Alike.refl U.vm) h.2.1, vx_Zq.moved (u := U) (U := U.calling g mk a) (H := U.heap) (Vm.Alike.refl U.vm) h.2.2.1, fun q hq => by
    obtain ⟨z, hz⟩ := h.2.2.2.1 q hq
    exact ⟨z, vk_R.same (u := U) rfl hz⟩, XN_same (u := U) rfl h.2.2.2.2⟩
theorem EN_at {D : va_G} {cA : Nat → ClassId} {ad : Nat → Nat} {s U : State} {H : Heap} {locs : List Loc} (h : EN D cA (AA ad s.heap.size) s) (hS : va_S (AA ad s.heap.size) s.heap H locs) (hW : s.WarmedH U.vm) (hU : U.heap = H) : EN D cA (AA ad H.size) U := by
  refine ⟨va_K.moved hW.alike h.1, ?_, ?_, fun q hq => ?_, XN_warm hW h.2.2.2.2⟩
  · rw [hU]
    exact vx_Zq.narrow (vx_Zq.moved hW.alike (h.2.1.kept hS.2.1)) (AA_mono hS.1)
  · rw [hU]
    exact vx_Zq.narrow (vx_Zq.moved hW.alike (h.2.2.1.kept hS.2.1)) (AA_mono hS.1)
  · obtain ⟨z, hz⟩ := h.2.2.2.1 q hq
    exact ⟨z, vk_R.warm hW hz⟩
def PcA (D : va_G) (cA : Nat → ClassId) (ad : Nat → Nat) (sz : Nat) (av : List Value) (F : FF) : Array Value → State → Prop := va_Pc av (fun U => U.heap.size = sz ∧ va_P D vwCl (wA cA ad F) U.heap ∧ Inj ad ∧ EN D cA (AA ad sz) U)
theorem PcA_blind {D : va_G} {cA : Nat → ClassId} {ad : Nat → Nat} {sz : Nat} {av : List Value} {F : FF} : FrameBlind (PcA D cA ad sz av F) := fun a U g mk q => ⟨q.1, q.2.1, q.2.2.1, q.2.2.2.1, EN_blind g mk a q.2.2.2.2⟩
def CQ (D : va_G) (cA : Nat → ClassId) (ad : Nat → Nat) (sz : Nat) (F : FF) (ov : Option Value) : Array Value → State → Outcome → State → Prop := fun _ st oc t => oc = .returned ov ∧ va_P D vwCl (wA cA ad F) t.heap ∧ va_F (AA ad sz) st t
abbrev RM (fr lo mc ms : Nat) : Room := { frames := fr, cells := mc, slots := ms, locals := lo }
/-- a method that returns: from the arguments av in the world F it answers ov and leaves the world F1 -/
def CI (l : Launch) (D : va_G) (cA : Nat → ClassId) (ad : Nat → Nat) (sz : Nat) (y : MethodName) (ws : List Cond) (fr lo mc ms : Nat) (av : List Value) (F : FF) (ov : Option Value) (F1 : FF) : Prop := Met l y ws (RM fr lo mc ms) (PcA D cA ad sz av F) (CQ D cA ad sz F1 ov) mc ms (AA ad sz)
/-- .. that throws E and changes nothing -/
def XQ (D : va_G) (cA : Nat → ClassId) (ad : Nat → Nat) (sz : Nat) (E0 : String) (F : FF) : String → State → State → Prop := fun E st t => E = E0 ∧ va_P D vwCl (wA cA ad F) t.heap ∧ va_F (AA ad sz) st t
def NQ : Array Value → State → Outcome → State → Prop := fun _ _ _ _ => False
def CX (l : Launch) (D : va_G) (cA : Nat → ClassId) (ad : Nat → Nat) (sz : Nat) (y : MethodName) (ws : List Cond) (fr lo : Nat) (av : List Value) (F : FF) (E0 : String) (F1 : FF) : Prop := vx_Met l y ws (RM fr lo 1 6) (PcA D cA ad sz av F) NQ (XQ D cA ad sz E0 F1) 1 6 (AA ad sz)
def Cx (p : Program) (m : MethodId) (c : Code) (cc : ByteArray) (nL : Nat) (s : State) (args : Array Value) (ws : List Cond) (own : String) (D : va_G) (cA : Nat → ClassId) (ad : Nat → Nat) (meth : Method) : Prop := CallFix p m c cc nL s args ws own ∧ EN D cA (AA ad s.heap.size) s ∧ Inj ad ∧ meth.locks = false
def St (D : va_G) (cA : Nat → ClassId) (ad : Nat → Nat) (F : FF) (H0 H : Heap) (locs : List Loc) : Prop := va_P D vwCl (wA cA ad F) H ∧ va_S (AA ad H0.size) H0 H locs
def mn (x y : Int32) : Int32 := if y < x then y else x
def mx (x y : Int32) : Int32 := if x < y then y else x
theorem nI_mul (a b : Nat) : nI a * nI b = nI (a * b) := (Int32.ofNat_mul a b).symm
section RW
variable {p : Program} {l : Launch} {e : Env} {R : Room} {s : State} {m : MethodId} {args : Array Value} {below : List Frame} {meth : Method} {c : Code} {cc : ByteArray} {nL : Nat} {ws : List Cond} {own : String} {D : va_G} {cA : Nat → ClassId} {ad : Nat → Nat} {F : FF} {H : Heap} {locs : List Loc} {cells slots : Nat} {Q : State → Prop} {pc : Nat} {ls : Array Slot} {rest st0 : List Value}
theorem r_geti (X : Cx p m c cc nL s args ws own D cA ad meth) (S : St D cA ad F s.heap H locs) {k ci index N : Nat} {C : String} {T : u_T} (h5 : ∀ w ∈ u_ws C T N, w.before args s = true) (ho : Ob k ci) (j : Nat) (hc : vwCl[ci]? = some (C, T, N) ∧ j < N ∧ N = onn ci) (hr : orc ci k j = none) (hlink : (Cond.fieldLink own index (T j).1 (T j).2.1 (T j).2.2.1).before args s = true) (hdg : decode cc pc = .ok (.getfield index, 3))
    (kk : W p l e R s m args below meth c H locs cells slots Q (F0 m (pc + 3) ls (.int (F k j) :: rest))) : W p l e R s m args below meth c H locs cells slots Q (F0 m pc ls (.ref (ad k) :: rest)) := by
  obtain ⟨⟨hx, hb, -, hown, -⟩, hE, -, -⟩ := X
  exact va_get hx hb h5 (fun _ h => h) hown hE.1 S.1 k ((wA_get ho.1).trans (by rw [ent_ob ho])) hc.1 j hc.2.1 hlink (fun _ h => h) (vls_int ho.2.2 (by rw [← hc.2.2]; exact hc.2.1) hr) hdg kk
theorem r_getr (X : Cx p m c cc nL s args ws own D cA ad meth) (S : St D cA ad F s.heap H locs) {k ci index N q : Nat} {C : String} {T : u_T} (h5 : ∀ w ∈ u_ws C T N, w.before args s = true) (ho : Ob k ci) (j : Nat) (hc : vwCl[ci]? = some (C, T, N) ∧ j < N ∧ N = onn ci) (hr : orc ci k j = some q) (hlink : (Cond.fieldLink own index (T j).1 (T j).2.1 (T j).2.2.1).before args s = true) (hdg : decode cc pc = .ok (.getfield index, 3))
    (kk : W p l e R s m args below meth c H locs cells slots Q (F0 m (pc + 3) ls (.ref (ad q) :: rest))) : W p l e R s m args below meth c H locs cells slots Q (F0 m pc ls (.ref (ad k) :: rest)) := by
  obtain ⟨⟨hx, hb, -, hown, -⟩, hE, -, -⟩ := X
  exact va_get hx hb h5 (fun _ h => h) hown hE.1 S.1 k ((wA_get ho.1).trans (by rw [ent_ob ho])) hc.1 j hc.2.1 hlink (fun _ h => h) (vls_ref ho.2.2 (by rw [← hc.2.2]; exact hc.2.1) hr) hdg kk
theorem r_put (X : Cx p m c cc nL s args ws own D cA ad meth) (S : St D cA ad F s.heap H locs) {k ci index N : Nat} {C : String} {T : u_T} (h5 : ∀ w ∈ u_ws C T N, w.before args s = true) (ho : Ob k ci) (j : Nat) (hc : vwCl[ci]? = some (C, T, N) ∧ j < N ∧ N = onn ci) (hr : orc ci k j = none) (hlink : (Cond.fieldLink own index (T j).1 (T j).2.1 (T j).2.2.1).before args s = true)
    (ty0 : Nat → FieldType) (hty : ∀ k, k < N → parseFieldDescriptor (T k).2.2.1 = some (ty0 k)) (hnm : ∀ a, a < N → ∀ b, b < N → a ≠ b → (T a).2.1 ≠ (T b).2.1) (hfin : (T j).2.2.2 = false) {v : Int32} (hn : narrow (ty0 j) (.int v) = .int v) (hfit : fits (ty0 j) (.int v) = true) (hdg : decode cc pc = .ok (.putfield index, 3))
    (kk : ∀ (H1 : Heap) (locs1 : List Loc), St D cA ad (u2 F k j v) s.heap H1 locs1 → W p l e R s m args below meth c H1 locs1 cells slots Q (F0 m (pc + 3) ls rest)) : W p l e R s m args below meth c H locs cells slots Q (F0 m pc ls (.int v :: .ref (ad k) :: rest)) := by
  obtain ⟨⟨hx, hb, -, hown, -⟩, hE, hI, -⟩ := X
  refine va_put hx hb h5 (fun _ h => h) ty0 hty hnm hown hE.1 S.1 (wA_D F hI (fun k h => AA_of h)) S.2 k ((wA_get ho.1).trans (by rw [ent_ob ho])) hc.1 j hc.2.1 hlink (fun _ h => h) hfin (hty j hc.2.1) hn hfit (by rw [vls_len ho.2.2, ← hc.2.2]; exact hc.2.1) hdg (fun H1 locs1 hP _ hS => kk H1 locs1 ⟨?_, hS⟩)
  rw [vls_set ho.2.2 (by rw [← hc.2.2]; exact hc.2.1) hr, ← ent_ob (cA := cA) ho, wA_set ho.1] at hP
  exact hP
theorem r_puti (X : Cx p m c cc nL s args ws own D cA ad meth) (S : St D cA ad F s.heap H locs) {k ci index N : Nat} {C : String} {T : u_T} (h5 : ∀ w ∈ u_ws C T N, w.before args s = true) (ho : Ob k ci) (j : Nat) (hc : vwCl[ci]? = some (C, T, N) ∧ j < N ∧ N = onn ci) (hr : orc ci k j = none) (hlink : (Cond.fieldLink own index (T j).1 (T j).2.1 (T j).2.2.1).before args s = true)
    (ty0 : Nat → FieldType) (hty : ∀ k, k < N → parseFieldDescriptor (T k).2.2.1 = some (ty0 k)) (hnm : ∀ a, a < N → ∀ b, b < N → a ≠ b → (T a).2.1 ≠ (T b).2.1) (hfin : (T j).2.2.2 = false) (ht : ty0 j = .int) {v : Int32} (hdg : decode cc pc = .ok (.putfield index, 3))
    (kk : ∀ (H1 : Heap) (locs1 : List Loc), St D cA ad (u2 F k j v) s.heap H1 locs1 → W p l e R s m args below meth c H1 locs1 cells slots Q (F0 m (pc + 3) ls rest)) : W p l e R s m args below meth c H locs cells slots Q (F0 m pc ls (.int v :: .ref (ad k) :: rest)) :=
  r_put X S h5 ho j hc hr hlink ty0 hty hnm hfin (by rw [ht]; rfl) (by rw [ht]; rfl) hdg kk
theorem r_ial (X : Cx p m c cc nL s args ws own D cA ad meth) (S : St D cA ad F s.heap H locs) {k n : Nat} (ha : Ar k 1 n) {i : Int32} (hin : vp_in i n) (hdg : decode cc pc = .ok (.iaload, 1))
    (kk : W p l e R s m args below meth c H locs cells slots Q (F0 m (pc + 1) ls (.int (F k i.toNatClampNeg) :: rest))) : W p l e R s m args below meth c H locs cells slots Q (F0 m pc ls (.int i :: .ref (ad k) :: rest)) := by
  obtain ⟨⟨hx, hb, -, -, -⟩, hE, -, -⟩ := X
  exact va_iald hx hb hE.1 S.1 k 0 ((wA_get ha.1).trans (by rw [ent_i ha])) rfl hin hdg kk
theorem r_ias (X : Cx p m c cc nL s args ws own D cA ad meth) (S : St D cA ad F s.heap H locs) {k n : Nat} (ha : Ar k 1 n) {i v : Int32} (hin : vp_in i n) (hdg : decode cc pc = .ok (.iastore, 1))
    (kk : ∀ (H1 : Heap) (locs1 : List Loc), St D cA ad (u2 F k i.toNatClampNeg v) s.heap H1 locs1 → W p l e R s m args below meth c H1 locs1 cells slots Q (F0 m (pc + 1) ls rest)) : W p l e R s m args below meth c H locs cells slots Q (F0 m pc ls (.int v :: .int i :: .ref (ad k) :: rest)) := by
  obtain ⟨⟨hx, hb, -, -, -⟩, hE, hI, -⟩ := X
  refine va_iast hx hb hE.1 S.1 (wA_D F hI (fun k h => AA_of h)) S.2 k 0 ((wA_get ha.1).trans (by rw [ent_i ha])) rfl hin hdg (fun H1 locs1 hP _ hS => kk H1 locs1 ⟨?_, hS⟩)
  rw [← ent_i (cA := cA) (ad := ad) ha, wA_set ha.1] at hP
  exact hP
theorem in_N {i : Int32} {q n : Nat} (hi : i = nI q) (hq : q < n) (hn : n ≤ 64) : vp_in i n ∧ i.toNatClampNeg = q := by
  subst hi
  exact ⟨vp_in_nI hq (by omega), nI_clamp (by omega)⟩
theorem r_ialN (X : Cx p m c cc nL s args ws own D cA ad meth) (S : St D cA ad F s.heap H locs) {k n : Nat} (ha : Ar k 1 n) {i : Int32} {q : Nat} (hi : i = nI q) (hq : q < n) (hn : n ≤ 64) (hdg : decode cc pc = .ok (.iaload, 1))
    (kk : W p l e R s m args below meth c H locs cells slots Q (F0 m (pc + 1) ls (.int (F k q) :: rest))) : W p l e R s m args below meth c H locs cells slots Q (F0 m pc ls (.int i :: .ref (ad k) :: rest)) := by
  obtain ⟨h1, h2⟩ := in_N hi hq hn
  refine r_ial X S ha h1 hdg ?_
  rw [h2]
  exact kk
theorem r_iasN (X : Cx p m c cc nL s args ws own D cA ad meth) (S : St D cA ad F s.heap H locs) {k n : Nat} (ha : Ar k 1 n) {i v : Int32} {q : Nat} (hi : i = nI q) (hq : q < n) (hn : n ≤ 64) (hdg : decode cc pc = .ok (.iastore, 1))
    (kk : ∀ (H1 : Heap) (locs1 : List Loc), St D cA ad (u2 F k q v) s.heap H1 locs1 → W p l e R s m args below meth c H1 locs1 cells slots Q (F0 m (pc + 1) ls rest)) : W p l e R s m args below meth c H locs cells slots Q (F0 m pc ls (.int v :: .int i :: .ref (ad k) :: rest)) := by
  obtain ⟨h1, h2⟩ := in_N hi hq hn
  refine r_ias X S ha h1 hdg (fun H1 locs1 S1 => kk H1 locs1 ?_)
  rw [h2] at S1
  exact S1
theorem r_sal (X : Cx p m c cc nL s args ws own D cA ad meth) (S : St D cA ad F s.heap H locs) {i : Int32} {q : Nat} (hi : i = nI q) (hq : q < 4) (hdg : decode cc pc = .ok (.aaload, 1))
    (kk : W p l e R s m args below meth c H locs cells slots Q (F0 m (pc + 1) ls (.ref (ad (4 + 8 * q)) :: rest))) : W p l e R s m args below meth c H locs cells slots Q (F0 m pc ls (.int i :: .ref (ad 1) :: rest)) := by
  obtain ⟨⟨hx, hb, -, -, -⟩, hE, -, -⟩ := X
  obtain ⟨h1, h2⟩ := in_N hi hq (by omega)
  refine va_aldq hx hb hE.1 S.1 1 1 ((wA_get (by omega)).trans (by rw [ent_s])) rfl h1 hdg ?_
  rw [h2, show stf ad q = some (ad (4 + 8 * q)) from if_pos hq]
  exact kk
theorem r_leni (X : Cx p m c cc nL s args ws own D cA ad meth) (S : St D cA ad F s.heap H locs) {k n : Nat} (ha : Ar k 1 n) {v : Int32} (hv : Int32.ofNat n = v) (hdg : decode cc pc = .ok (.arraylength, 1))
    (kk : W p l e R s m args below meth c H locs cells slots Q (F0 m (pc + 1) ls (.int v :: rest))) : W p l e R s m args below meth c H locs cells slots Q (F0 m pc ls (.ref (ad k) :: rest)) := by
  obtain ⟨⟨hx, hb, -, -, -⟩, hE, -, -⟩ := X
  exact va_alen hx hb hE.1 S.1 k 0 ((wA_get ha.1).trans (by rw [ent_i ha])) rfl hv hdg kk
theorem r_lens (X : Cx p m c cc nL s args ws own D cA ad meth) (S : St D cA ad F s.heap H locs) (hdg : decode cc pc = .ok (.arraylength, 1))
    (kk : W p l e R s m args below meth c H locs cells slots Q (F0 m (pc + 1) ls (.int 4 :: rest))) : W p l e R s m args below meth c H locs cells slots Q (F0 m pc ls (.ref (ad 1) :: rest)) := by
  obtain ⟨⟨hx, hb, -, -, -⟩, hE, -, -⟩ := X
  exact va_alen hx hb hE.1 S.1 1 1 ((wA_get (by omega)).trans (by rw [ent_s])) rfl rfl hdg kk
theorem preS_of (X : Cx p m c cc nL s args ws own D cA ad meth) (S : St D cA ad F s.heap H locs) (av : List Value) : PreS s H (PcA D cA ad H.size av F) av :=
  ⟨PcA_blind, fun U hU hW => ⟨rfl, by rw [hU], by rw [hU]; exact S.1, X.2.2.1, EN_at X.2.1 S.2 hW hU⟩⟩
theorem preV_of (X : Cx p m c cc nL s args ws own D cA ad meth) (S : St D cA ad F s.heap H locs) (As : List Value) {k ci : Nat} {q : vw_C} (ho : Ob k ci) (hc : vwCl[ci]? = some q) : PreV s H q.1 (ad k) (PcA D cA ad H.size (.ref (ad k) :: As) F) As :=
  ⟨PcA_blind, va_recv (cl := vwCl) X.2.1.1 S.1 hc ((wA_get ho.1).trans (by rw [ent_ob ho])), fun U hU hW => ⟨rfl, by rw [hU], by rw [hU]; exact S.1, X.2.2.1, EN_at X.2.1 S.2 hW hU⟩⟩
/-- behind a call: the world that the callee leaves -/
theorem r_call (S : St D cA ad F s.heap H locs) {mc ms : Nat} {F1 : FF} {ov : Option Value} {a : Array Value} (hr : va_Run p l e R s m args below meth c H locs cells slots mc ms (F0 m pc ls st0) rest (CQ D cA ad H.size F1 ov a) (AA ad H.size))
    (kk : ∀ (H1 : Heap) (locs1 : List Loc), St D cA ad F1 s.heap H1 locs1 → W p l e R s m args below meth c H1 locs1 (cells + mc) (slots + ms) Q (F0 m (pc + 3) ls (ov.toList ++ rest))) : W p l e R s m args below meth c H locs cells slots Q (F0 m pc ls st0) := by
  intro T hT X9
  obtain ⟨v, st₀, t, T', L, h0, X', hL, e1, e2, ⟨hv, hP, hF⟩, st⟩ := hr T hT X9
  cases hv
  obtain ⟨-, -, k3⟩ := vx_keep h0 e1 S.2 (fun q _ h => AA_mono S.2.1 q h) (fun q h => AA_mono S.2.1 q h) hL hF
  obtain ⟨t2, a1, b1⟩ := kk T'.heap (locs ++ L) ⟨by rw [e1]; exact hP, k3⟩ T' rfl X'
  exact ⟨t2, st t2 a1, b1⟩
/-- .. or the world as it was, and an exception over the frame -/
theorem r_callX (S : St D cA ad F s.heap H locs) {E0 : String} {F1 : FF} {a : Array Value} (hr : vx_Run p l e R s m args below meth c H locs cells slots 1 6 (F0 m pc ls st0) rest (NQ a) (XQ D cA ad H.size E0 F1) (AA ad H.size))
    (kx : ∀ (ce : Cell) (q9 : Addr) (H1 : Heap) (locs1 : List Loc), St D cA ad F1 s.heap H1 locs1 → H1[q9]? = some ce → ce.vm = .none → s.vm.findClass E0 = some ce.cls → vx_W p l e R s m args below meth c H1 locs1 (cells + 1) (slots + 6) Q (F0 m pc ls rest) q9) : W p l e R s m args below meth c H locs cells slots Q (F0 m pc ls st0) := by
  intro T hT X9
  rcases hr T hT X9 with ⟨v, st₀, t, T', L, h0, X', hL, e1, e2, hv, st⟩ | ⟨q, st₀, t, T', L, E, ce, h0, X', hL, e1, e2, ⟨rfl, hP, hF⟩, hce, hcv, hcl, st⟩
  · exact hv.elim
  · obtain ⟨-, -, k3⟩ := vx_keep h0 e1 S.2 (fun q _ h => AA_mono S.2.1 q h) (fun q h => AA_mono S.2.1 q h) hL hF
    obtain ⟨t2, a1, b1⟩ := kx ce q T'.heap (locs ++ L) ⟨by rw [e1]; exact hP, k3⟩ (by rw [e1]; exact hce) hcv hcl T' rfl X'
    exact ⟨t2, st.trans a1, b1⟩
theorem r_V (X : Cx p m c cc nL s args ws own D cA ad meth) (S : St D cA ad F s.heap H locs) {k ci fr lo mc ms maxL n index : Nat} {q : vw_C} {y : MethodName} {bytes : ByteArray} {ret : Option FieldType} {ws1 : List Cond} {As : List Value} {ov : Option Value} {F1 : FF} (hM : CI l D cA ad H.size y ws1 fr lo mc ms (.ref (ad k) :: As) F ov F1) (ho : Ob k ci) (hc : vwCl[ci]? = some q) (cw : CallW R s args own q.1 index y bytes maxL ret ws1 (RM fr lo mc ms) mc ms n)
    (hn : As.length = n) (hl : ls.size = nL) (hst : st0 = As.reverse ++ .ref (ad k) :: rest) (hcat : (rest.map fun v => v.category).sum ≤ 8) (hdg : decode cc pc = .ok (.invokevirtual index, 3)) (hf : cells + mc ≤ R.cells ∧ slots + ms ≤ R.slots)
    (kk : ∀ (H1 : Heap) (locs1 : List Loc), St D cA ad F1 s.heap H1 locs1 → W p l e R s m args below meth c H1 locs1 (cells + mc) (slots + ms) Q (F0 m (pc + 3) ls (ov.toList ++ rest))) : W p l e R s m args below meth c H locs cells slots Q (F0 m pc ls st0) :=
  r_call S (va_runV X.1 hM cw (preV_of X S As ho hc) rfl hn hl hst (lv_room hcat) hdg hf) kk
theorem r_S (X : Cx p m c cc nL s args ws own D cA ad meth) (S : St D cA ad F s.heap H locs) {fr lo mc ms maxL n index : Nat} {y : MethodName} {bytes : ByteArray} {ret : Option FieldType} {ws1 : List Cond} {As : List Value} {ov : Option Value} {F1 : FF} (hM : CI l D cA ad H.size y ws1 fr lo mc ms As F ov F1) (cw : CallB R s args own index y bytes maxL ret ws1 (RM fr lo mc ms) mc ms n ∧ (Cond.static y).before args s = true)
    (hn : As.length = n) (hl : ls.size = nL) (hst : st0 = As.reverse ++ rest) (hcat : (rest.map fun v => v.category).sum ≤ 8) (hdg : decode cc pc = .ok (.invokestatic index, 3)) (hf : cells + mc ≤ R.cells ∧ slots + ms ≤ R.slots)
    (kk : ∀ (H1 : Heap) (locs1 : List Loc), St D cA ad F1 s.heap H1 locs1 → W p l e R s m args below meth c H1 locs1 (cells + mc) (slots + ms) Q (F0 m (pc + 3) ls (ov.toList ++ rest))) : W p l e R s m args below meth c H locs cells slots Q (F0 m pc ls st0) :=
  r_call S (va_runS X.1 hM cw (preS_of X S As) rfl hn hl hst (lv_room hcat) hdg hf) kk
theorem r_V0 (X : Cx p m c cc nL s args ws own D cA ad meth) (S : St D cA ad F s.heap H locs) {k ci fr lo maxL n index : Nat} {q : vw_C} {y : MethodName} {bytes : ByteArray} {ret : Option FieldType} {ws1 : List Cond} {As : List Value} {ov : Option Value} {F1 : FF} (hM : CI l D cA ad H.size y ws1 fr lo 0 0 (.ref (ad k) :: As) F ov F1) (ho : Ob k ci) (hc : vwCl[ci]? = some q) (cw : CallW R s args own q.1 index y bytes maxL ret ws1 (RM fr lo 0 0) 0 0 n)
    (hn : As.length = n) (hl : ls.size = nL) (hst : st0 = As.reverse ++ .ref (ad k) :: rest) (hcat : (rest.map fun v => v.category).sum ≤ 8) (hdg : decode cc pc = .ok (.invokevirtual index, 3)) (hf : cells ≤ R.cells ∧ slots ≤ R.slots)
    (kk : ∀ (H1 : Heap) (locs1 : List Loc), St D cA ad F1 s.heap H1 locs1 → W p l e R s m args below meth c H1 locs1 cells slots Q (F0 m (pc + 3) ls (ov.toList ++ rest))) : W p l e R s m args below meth c H locs cells slots Q (F0 m pc ls st0) :=
  r_call S (va_runV X.1 hM cw (preV_of X S As ho hc) rfl hn hl hst (lv_room hcat) hdg hf) kk
theorem r_S0 (X : Cx p m c cc nL s args ws own D cA ad meth) (S : St D cA ad F s.heap H locs) {fr lo maxL n index : Nat} {y : MethodName} {bytes : ByteArray} {ret : Option FieldType} {ws1 : List Cond} {As : List Value} {ov : Option Value} {F1 : FF} (hM : CI l D cA ad H.size y ws1 fr lo 0 0 As F ov F1) (cw : CallB R s args own index y bytes maxL ret ws1 (RM fr lo 0 0) 0 0 n ∧ (Cond.static y).before args s = true)
    (hn : As.length = n) (hl : ls.size = nL) (hst : st0 = As.reverse ++ rest) (hcat : (rest.map fun v => v.category).sum ≤ 8) (hdg : decode cc pc = .ok (.invokestatic index, 3)) (hf : cells ≤ R.cells ∧ slots ≤ R.slots)
    (kk : ∀ (H1 : Heap) (locs1 : List Loc), St D cA ad F1 s.heap H1 locs1 → W p l e R s m args below meth c H1 locs1 cells slots Q (F0 m (pc + 3) ls (ov.toList ++ rest))) : W p l e R s m args below meth c H locs cells slots Q (F0 m pc ls st0) :=
  r_call S (va_runS X.1 hM cw (preS_of X S As) rfl hn hl hst (lv_room hcat) hdg hf) kk
theorem r_min (X : Cx p m c cc nL s args ws own D cA ad meth) (hls : ls.size = nL) {index : Nat} (hlink : (Cond.methodLink own index Lib.Math.min.name).before args s = true) (hstat : (Cond.static Lib.Math.min.name).before args s = true) (hini : (Cond.initialized "java/lang/Math").before args s = true) (hcode : (Cond.code Lib.Math.min.name Lib.Math.min.code 2 (some .int)).before args s = true)
    (hframes : 1 ≤ R.frames) (hlocals : (rest.map fun v => v.category).sum + 13 ≤ R.locals) (hc : cells ≤ R.cells) (hs : slots ≤ R.slots) {x y : Int32} (hdg : decode cc pc = .ok (.invokestatic index, 3))
    (kk : W p l e R s m args below meth c H locs cells slots Q (F0 m (pc + 3) ls (.int (mn x y) :: rest))) : W p l e R s m args below meth c H locs cells slots Q (F0 m pc ls (.int y :: .int x :: rest)) :=
  va_mmin X.1.1 X.1.2.1 (X.1.2.2.1.trans hls.symm) X.1.2.2.2.1 hlink hstat hini hcode hframes hlocals hc hs hdg kk
theorem r_max (X : Cx p m c cc nL s args ws own D cA ad meth) (hls : ls.size = nL) {index : Nat} (hlink : (Cond.methodLink own index Lib.Math.max.name).before args s = true) (hstat : (Cond.static Lib.Math.max.name).before args s = true) (hini : (Cond.initialized "java/lang/Math").before args s = true) (hcode : (Cond.code Lib.Math.max.name Lib.Math.max.code 2 (some .int)).before args s = true)
    (hframes : 1 ≤ R.frames) (hlocals : (rest.map fun v => v.category).sum + 13 ≤ R.locals) (hc : cells ≤ R.cells) (hs : slots ≤ R.slots) {x y : Int32} (hdg : decode cc pc = .ok (.invokestatic index, 3))
    (kk : W p l e R s m args below meth c H locs cells slots Q (F0 m (pc + 3) ls (.int (mx x y) :: rest))) : W p l e R s m args below meth c H locs cells slots Q (F0 m pc ls (.int y :: .int x :: rest)) :=
  va_mmax X.1.1 X.1.2.1 (X.1.2.2.1.trans hls.symm) X.1.2.2.2.1 hlink hstat hini hcode hframes hlocals hc hs hdg kk
/-- a static method with a table of its own -/
theorem r_SW (X : Cx p m c cc nL s args ws own D cA ad meth) (S : St D cA ad F s.heap H locs) {fr lo mc ms maxL n index : Nat} {y : MethodName} {bytes : ByteArray} {ret : Option FieldType} {hh : List (Nat × Nat × Nat × Nat)} {ws1 : List Cond} {As : List Value} {ov : Option Value} {F1 : FF} (hM : CI l D cA ad H.size y ws1 fr lo mc ms As F ov F1) (cw : vx_CSW R s args own index y bytes maxL ret hh ws1 (RM fr lo mc ms) mc ms n)
    (hn : As.length = n) (hl : ls.size = nL) (hst : st0 = As.reverse ++ rest) (hcat : (rest.map fun v => v.category).sum ≤ 8) (hdg : decode cc pc = .ok (.invokestatic index, 3)) (hf : cells + mc ≤ R.cells ∧ slots + ms ≤ R.slots)
    (kk : ∀ (H1 : Heap) (locs1 : List Loc), St D cA ad F1 s.heap H1 locs1 → W p l e R s m args below meth c H1 locs1 (cells + mc) (slots + ms) Q (F0 m (pc + 3) ls (ov.toList ++ rest))) : W p l e R s m args below meth c H locs cells slots Q (F0 m pc ls st0) :=
  r_call S (vx_runSW X.1 hM cw (preS_of X S As) rfl hn hl hst (lv_room hcat) hdg hf) kk
/-- a call that throws -/
theorem r_VX (X : Cx p m c cc nL s args ws own D cA ad meth) (S : St D cA ad F s.heap H locs) {k ci fr lo maxL n index : Nat} {q : vw_C} {y : MethodName} {bytes : ByteArray} {ret : Option FieldType} {ws1 : List Cond} {As : List Value} {E0 : String} {F1 : FF} (hM : CX l D cA ad H.size y ws1 fr lo (.ref (ad k) :: As) F E0 F1) (ho : Ob k ci) (hc : vwCl[ci]? = some q) (cw : CallW R s args own q.1 index y bytes maxL ret ws1 (RM fr lo 1 6) 1 6 n)
    (hn : As.length = n) (hl : ls.size = nL) (hst : st0 = As.reverse ++ .ref (ad k) :: rest) (hcat : (rest.map fun v => v.category).sum ≤ 8) (hdg : decode cc pc = .ok (.invokevirtual index, 3)) (hf : cells + 1 ≤ R.cells ∧ slots + 6 ≤ R.slots)
    (kx : ∀ (ce : Cell) (q9 : Addr) (H1 : Heap) (locs1 : List Loc), St D cA ad F1 s.heap H1 locs1 → H1[q9]? = some ce → ce.vm = .none → s.vm.findClass E0 = some ce.cls → vx_W p l e R s m args below meth c H1 locs1 (cells + 1) (slots + 6) Q (F0 m pc ls rest) q9) : W p l e R s m args below meth c H locs cells slots Q (F0 m pc ls st0) :=
  r_callX S (vx_runV X.1 hM cw (preV_of X S As ho hc) rfl hn hl hst (lv_room hcat) hdg hf) kx
theorem r_SXt (X : Cx p m c cc nL s args ws own D cA ad meth) (S : St D cA ad F s.heap H locs) {fr lo maxL n index : Nat} {y : MethodName} {bytes : ByteArray} {ret : Option FieldType} {ws1 : List Cond} {As : List Value} {E0 : String} {F1 : FF} (hM : CX l D cA ad H.size y ws1 fr lo As F E0 F1) (cw : CallB R s args own index y bytes maxL ret ws1 (RM fr lo 1 6) 1 6 n ∧ (Cond.static y).before args s = true)
    (hn : As.length = n) (hl : ls.size = nL) (hst : st0 = As.reverse ++ rest) (hcat : (rest.map fun v => v.category).sum ≤ 8) (hdg : decode cc pc = .ok (.invokestatic index, 3)) (hf : cells + 1 ≤ R.cells ∧ slots + 6 ≤ R.slots)
    (kx : ∀ (ce : Cell) (q9 : Addr) (H1 : Heap) (locs1 : List Loc), St D cA ad F1 s.heap H1 locs1 → H1[q9]? = some ce → ce.vm = .none → s.vm.findClass E0 = some ce.cls → vx_W p l e R s m args below meth c H1 locs1 (cells + 1) (slots + 6) Q (F0 m pc ls rest) q9) : W p l e R s m args below meth c H locs cells slots Q (F0 m pc ls st0) :=
  r_callX S (vx_runS X.1 hM cw (preS_of X S As) rfl hn hl hst (lv_room hcat) hdg hf) kx
theorem r_out (X : Cx p m c cc nL s args ws own D cA ad meth) (S : St D cA ad F s.heap H locs) (hno : ∀ x ∈ c.exceptionTable.toList, False) {E0 : String} {ce : Cell} {q9 : Addr} (h1 : H[q9]? = some ce) (h2 : ce.vm = .none) (h3 : s.vm.findClass E0 = some ce.cls) (hc : cells ≤ 1) (hs : slots ≤ 6) {F1 : FF} (hF : F = F1) : vx_W p l e R s m args below meth c H locs cells slots (vx_MQ below NQ (XQ D cA ad s.heap.size E0 F1) args s 1 6 (AA ad s.heap.size)) (F0 m pc ls rest) q9 := by
  subst hF
  exact vx_out (fun x hx => (hno x hx).elim) X.2.2.2 h1 h2 h3 (fun t ht _ => ⟨rfl, by rw [ht]; exact S.1, S.2.F ht⟩) S.2.2.2 hc hs
abbrev xnm : List String := ["java/lang/RuntimeException", "java/lang/Exception"]
theorem r_throw (X : Cx p m c cc nL s args ws RX4 D cA ad meth) (S : St D cA ad F s.heap H locs) (hl : l.stackTraces = false) (hno : ∀ x ∈ c.exceptionTable.toList, False) {cls text : String} {ik is ic : Nat} (hls : ls.size = nL) (hcls : Bundle.fit cls = true) (hk : (Cond.classLink RX4 ik cls).before args s = true) (hini : (Cond.initialized cls).before args s = true) (hmem : (is, text) ∈ strs) (hat : ∀ w ∈ vx_atS RX4 ic cls xnm, w.before args s = true)
    (hgood : ∀ w ∈ Cond.classLink RX4 ik cls :: Cond.initialized cls :: vx_atS RX4 ic cls xnm, vx_ot w = true)
    (d0 : decode cc pc = .ok (.new ik, 3)) (d3 : decode cc (pc + 3) = .ok (.dup, 1)) (d4 : decode cc (pc + 4) = .ok (.ldc is, 2)) (d6 : decode cc (pc + 6) = .ok (.invokespecial ic, 3)) (d9 : decode cc (pc + 9) = .ok (.athrow, 1))
    (hR : 5 < R.frames ∧ (rest.map fun v => v.category).sum + 82 ≤ R.locals ∧ cells + 1 ≤ R.cells ∧ slots + 6 ≤ R.slots) (hc : cells + 1 ≤ 1) (hs : slots + 6 ≤ 6) {F1 : FF} (hF : F = F1) :
    W p l e R s m args below meth c H locs cells slots (vx_MQ below NQ (XQ D cA ad s.heap.size cls F1) args s 1 6 (AA ad s.heap.size)) (F0 m pc ls rest) := by
  subst hF
  obtain ⟨⟨hx, hb, hml, hown, -⟩, hE, hI, hlocks⟩ := X
  obtain ⟨sa, hsa⟩ := hE.2.2.2.1 (is, text) hmem
  refine vx_throwS hx hb hl hown hcls (by decide) hk hini hsa hat hgood hE.2.1 hE.2.2.1 S.2 (hls.trans hml.symm) d0 d3 d4 d6 d9 (fun x hx => (hno x hx).elim) hR.1 hR.2.1 hR.2.2.1 hR.2.2.2 hlocks (fun t _ hz hq => ?_) S.2.2.2 hc hs
  refine ⟨rfl, S.1.kept (fun k q hk => ?_), Nat.le_trans S.2.1 hz, fun q h1 h2 => ?_⟩
  · exact hq q.1 (S.1 k q hk).lt
  · rw [hq q (Nat.lt_of_lt_of_le h1 S.2.1)]
    exact S.2.2.1 q h1 h2
theorem r_iret (X : Cx p m c cc nL s args ws own D cA ad meth) (S : St D cA ad F s.heap H locs) {v v0 : Int32} {F1 : FF} {mc ms : Nat} (hr : meth.sig.returnType = some .int) (hdg : decode cc pc = .ok (.ireturn, 1)) (hc : cells ≤ mc) (hs : slots ≤ ms) (hv : v = v0) (hF : F = F1) : W p l e R s m args below meth c H locs cells slots (MQ below (CQ D cA ad s.heap.size F1 (some (.int v0))) args s mc ms (AA ad s.heap.size)) (F0 m pc ls [.int v]) := by
  subst hv; subst hF
  obtain ⟨⟨hx, hb, -, -, -⟩, -, -, hlocks⟩ := X
  exact W.widen hc hs (W.iret hx hb hr (fun t ht _ => ⟨rfl, by rw [ht]; exact S.1, S.2.F ht⟩) S.2.2.2 hdg hlocks)
theorem r_zret (X : Cx p m c cc nL s args ws own D cA ad meth) (S : St D cA ad F s.heap H locs) {v v0 : Int32} {F1 : FF} {mc ms : Nat} (hr : meth.sig.returnType = some .boolean) (hn : narrow .boolean (.int v) = .int v) (hdg : decode cc pc = .ok (.ireturn, 1)) (hc : cells ≤ mc) (hs : slots ≤ ms) (hv : v = v0) (hF : F = F1) : W p l e R s m args below meth c H locs cells slots (MQ below (CQ D cA ad s.heap.size F1 (some (.int v0))) args s mc ms (AA ad s.heap.size)) (F0 m pc ls [.int v]) := by
  subst hv; subst hF
  obtain ⟨⟨hx, hb, -, -, -⟩, -, -, hlocks⟩ := X
  exact W.widen hc hs (W.zret hx hb hr hn (fun t ht _ => ⟨rfl, by rw [ht]; exact S.1, S.2.F ht⟩) S.2.2.2 hdg hlocks)
theorem r_vret (X : Cx p m c cc nL s args ws own D cA ad meth) (S : St D cA ad F s.heap H locs) {F1 : FF} {mc ms : Nat} (hr : meth.sig.returnType = none) (hdg : decode cc pc = .ok (.return_, 1)) (hc : cells ≤ mc) (hs : slots ≤ ms) (hF : F = F1) : W p l e R s m args below meth c H locs cells slots (MQ below (CQ D cA ad s.heap.size F1 none) args s mc ms (AA ad s.heap.size)) (F0 m pc ls []) := by
  subst hF
  obtain ⟨⟨hx, hb, -, -, -⟩, -, -, hlocks⟩ := X
  exact W.widen hc hs (W.vret hx hb hr (fun t ht _ => ⟨rfl, by rw [ht]; exact S.1, S.2.F ht⟩) S.2.2.2 hdg hlocks)
theorem r_aret (X : Cx p m c cc nL s args ws own D cA ad meth) (S : St D cA ad F s.heap H locs) {a a0 : Nat} {nm : String} {F1 : FF} {mc ms : Nat} (hr : meth.sig.returnType = some (.object nm)) (hdg : decode cc pc = .ok (.areturn, 1)) (hc : cells ≤ mc) (hs : slots ≤ ms) (hv : a = a0) (hF : F = F1) : W p l e R s m args below meth c H locs cells slots (MQ below (CQ D cA ad s.heap.size F1 (some (.ref a0))) args s mc ms (AA ad s.heap.size)) (F0 m pc ls [.ref a]) := by
  subst hv; subst hF
  obtain ⟨⟨hx, hb, -, -, -⟩, -, -, hlocks⟩ := X
  exact W.widen hc hs (W.aret hx hb hr (Or.inl ⟨nm, rfl⟩) (Or.inr ⟨a, rfl⟩) (fun t ht _ => ⟨rfl, by rw [ht]; exact S.1, S.2.F ht⟩) S.2.2.2 hdg hlocks)
end RW
theorem CI_of {l : Launch} {D : va_G} {cA : Nat → ClassId} {ad : Nat → Nat} {sz : Nat} {y : MethodName} {ws ws' : List Cond} {fr lo mc ms : Nat} {av : List Value} {F : FF} {ov : Option Value} {F1 : FF} {cc : ByteArray} {maxL : Nat} {ret : Option FieldType} {own : String} (hy : plainName y.cls = true) (hown : y.cls = own) (hw : ws = .code y cc maxL ret :: ws') (hlen : (lg_sl av).length ≤ maxL)
    (body : ∀ (p : Program) (e : Env) (s : State) (m : MethodId) (below : List Frame) (meth : Method) (c : Code) (ls : Array Slot), Cx p m c cc maxL s av.toArray ws own D cA ad meth → St D cA ad F s.heap s.heap [] → meth.sig.returnType = ret → lv_has ls maxL (lv_args 0 av) →
      W p l e (RM fr lo mc ms) s m av.toArray below meth c s.heap [] 0 0 (MQ below (CQ D cA ad s.heap.size F1 ov) av.toArray s mc ms (AA ad s.heap.size)) (F0 m 0 ls [])) : CI l D cA ad sz y ws fr lo mc ms av F ov F1 := by
  refine Met.ofW (cc := cc) (maxL := maxL) (ret := ret) hy hw ?_
  intro p e s m args below meth c s₁ B hml hv
  obtain ⟨rfl, hsz, hP, hI, hE⟩ := hv
  subst hsz
  have hl := lv_entry av hlen
  rw [lg_entry_eq]
  exact body p e s m below meth c _ ⟨⟨B.exec, B.bytes, hml, hown ▸ findClass_of_methodNamed B.named, atoms_spec (ws := ws) B.pre⟩, hE, hI, B.notSynchronized⟩ ⟨hP, va_S.rf⟩ B.returns hl
theorem CX_of {l : Launch} {D : va_G} {cA : Nat → ClassId} {ad : Nat → Nat} {sz : Nat} {y : MethodName} {ws ws' : List Cond} {fr lo : Nat} {av : List Value} {F : FF} {E0 : String} {F1 : FF} {cc : ByteArray} {maxL : Nat} {ret : Option FieldType} {own : String} (hy : plainName y.cls = true) (hown : y.cls = own) (hw : ws = .code y cc maxL ret :: ws') (hlen : (lg_sl av).length ≤ maxL)
    (body : ∀ (p : Program) (e : Env) (s : State) (m : MethodId) (below : List Frame) (meth : Method) (c : Code) (ls : Array Slot), Cx p m c cc maxL s av.toArray ws own D cA ad meth → St D cA ad F s.heap s.heap [] → (∀ x ∈ c.exceptionTable.toList, False) → lv_has ls maxL (lv_args 0 av) →
      W p l e (RM fr lo 1 6) s m av.toArray below meth c s.heap [] 0 0 (vx_MQ below NQ (XQ D cA ad s.heap.size E0 F1) av.toArray s 1 6 (AA ad s.heap.size)) (F0 m 0 ls [])) : CX l D cA ad sz y ws fr lo av F E0 F1 := by
  refine vx_ofW (cc := cc) (maxL := maxL) (ret := ret) hy hw ?_
  intro p e s m args below meth c s₁ B hml hno hv
  obtain ⟨rfl, hsz, hP, hI, hE⟩ := hv
  subst hsz
  have hl := lv_entry av hlen
  rw [lg_entry_eq]
  exact body p e s m below meth c _ ⟨⟨B.exec, B.bytes, hml, hown ▸ findClass_of_methodNamed B.named, atoms_spec (ws := ws) B.pre⟩, hE, hI, B.notSynchronized⟩ ⟨hP, va_S.rf⟩ hno hl
theorem CIW_of {l : Launch} {D : va_G} {cA : Nat → ClassId} {ad : Nat → Nat} {sz : Nat} {y : MethodName} {ws ws' : List Cond} {fr lo mc ms : Nat} {av : List Value} {F : FF} {ov : Option Value} {F1 : FF} {cc : ByteArray} {maxL : Nat} {ret : Option FieldType} {own : String} {hh : List (Nat × Nat × Nat × Nat)} (hy : plainName y.cls = true) (hown : y.cls = own) (hw : ws = .codeWith y cc maxL ret hh :: ws') (hlen : (lg_sl av).length ≤ maxL)
    (body : ∀ (p : Program) (e : Env) (s : State) (m : MethodId) (below : List Frame) (meth : Method) (c : Code) (ls : Array Slot), Cx p m c cc maxL s av.toArray ws own D cA ad meth → St D cA ad F s.heap s.heap [] → meth.sig.returnType = ret → c.exceptionTable.toList = tableOf hh → lv_has ls maxL (lv_args 0 av) →
      W p l e (RM fr lo mc ms) s m av.toArray below meth c s.heap [] 0 0 (MQ below (CQ D cA ad s.heap.size F1 ov) av.toArray s mc ms (AA ad s.heap.size)) (F0 m 0 ls [])) : CI l D cA ad sz y ws fr lo mc ms av F ov F1 := by
  refine va_MetW (cc := cc) (maxL := maxL) (ret := ret) (hh := hh) hy hw ?_
  intro p e s m args below meth c s₁ B hml hv
  obtain ⟨rfl, hsz, hP, hI, hE⟩ := hv
  subst hsz
  have hl := lv_entry av hlen
  have hts := atoms_spec (ws := ws) B.pre
  rw [lg_entry_eq]
  exact body p e s m below meth c _ ⟨⟨B.exec, B.bytes, hml, hown ▸ findClass_of_methodNamed B.named, hts⟩, hE, hI, B.notSynchronized⟩ ⟨hP, va_S.rf⟩ B.returns (vx_table (x := y) B (hts _ (by rw [hw]; exact List.mem_cons_self))) hl
def bI : Bool → Int32
  | true => 1
  | false => 0
theorem bI_f {b : Bool} (h : bI b = 0) : b = false := by cases b with
  | false => rfl
  | true => exact absurd h (by decide)
theorem bI_t {b : Bool} (h : ¬ bI b = 0) : b = true := by cases b with
  | false => exact absurd rfl h
  | true => rfl
theorem bI_narrow (b : Bool) : narrow .boolean (.int (bI b)) = .int (bI b) := by cases b <;> rfl
theorem bI_nar (b : Bool) : vp_nar .boolean (bI b) = bI b := by cases b <;> rfl
theorem bI_fits (b : Bool) : fits .boolean (.int (bI b)) = true := by cases b <;> rfl
/-- the words of a throw: the good ones out of the method's list, the others out of the start -/
def xB (X : String) : List Cond := [.declares (Bundle.initS "java/lang/RuntimeException"), .declares (Bundle.initS "java/lang/Exception"), .declares (Bundle.initS "java/lang/Throwable"), .castable X X]
theorem xB_ok {args : Array Value} {s : State} (k : XN s) {X : String} (hX : X ∈ xcl) : ∀ w ∈ xB X, w.before args s = true :=
  vx_c (va_Nw.use rfl (k.1 _ (by simp [xnd]))) (vx_c (va_Nw.use rfl (k.1 _ (by simp [xnd]))) (vx_c (va_Nw.use rfl (k.1 _ (by simp [xnd]))) (vx_c (va_Nw.use rfl (k.2.1 X hX)) vx_n)))
theorem hg61 : ∀ w ∈ (vx_atS RX4 61 "java/lang/IllegalArgumentException" xnm).filter (fun w => !goodWord w), w ∈ xB "java/lang/IllegalArgumentException" := by decide +kernel
theorem hat61 {args : Array Value} {s : State} {ws : List Cond} (k : XN s) (hts : ∀ w ∈ ws, w.before args s = true) (hin : ∀ w ∈ (vx_atS RX4 61 "java/lang/IllegalArgumentException" xnm).filter goodWord, w ∈ ws) : ∀ w ∈ vx_atS RX4 61 "java/lang/IllegalArgumentException" xnm, w.before args s = true := vx_hat (fun w h => hts w (hin w h)) hg61 (xB_ok k (by simp [xcl]))
theorem hg120 : ∀ w ∈ (vx_atS RX4 120 "java/lang/IndexOutOfBoundsException" xnm).filter (fun w => !goodWord w), w ∈ xB "java/lang/IndexOutOfBoundsException" := by decide +kernel
theorem hat120 {args : Array Value} {s : State} {ws : List Cond} (k : XN s) (hts : ∀ w ∈ ws, w.before args s = true) (hin : ∀ w ∈ (vx_atS RX4 120 "java/lang/IndexOutOfBoundsException" xnm).filter goodWord, w ∈ ws) : ∀ w ∈ vx_atS RX4 120 "java/lang/IndexOutOfBoundsException" xnm, w.before args s = true := vx_hat (fun w h => hts w (hin w h)) hg120 (xB_ok k (by simp [xcl]))
theorem hg111 : ∀ w ∈ (vx_atS RX4 111 "java/lang/IllegalStateException" xnm).filter (fun w => !goodWord w), w ∈ xB "java/lang/IllegalStateException" := by decide +kernel
theorem hat111 {args : Array Value} {s : State} {ws : List Cond} (k : XN s) (hts : ∀ w ∈ ws, w.before args s = true) (hin : ∀ w ∈ (vx_atS RX4 111 "java/lang/IllegalStateException" xnm).filter goodWord, w ∈ ws) : ∀ w ∈ vx_atS RX4 111 "java/lang/IllegalStateException" xnm, w.before args s = true := vx_hat (fun w h => hts w (hin w h)) hg111 (xB_ok k (by simp [xcl]))
theorem hgd61 : ∀ w ∈ Cond.classLink RX4 57 "java/lang/IllegalArgumentException" :: Cond.initialized "java/lang/IllegalArgumentException" :: vx_atS RX4 61 "java/lang/IllegalArgumentException" xnm, vx_ot w = true := by decide +kernel
theorem hgd120 : ∀ w ∈ Cond.classLink RX4 116 "java/lang/IndexOutOfBoundsException" :: Cond.initialized "java/lang/IndexOutOfBoundsException" :: vx_atS RX4 120 "java/lang/IndexOutOfBoundsException" xnm, vx_ot w = true := by decide +kernel
theorem hgd111 : ∀ w ∈ Cond.classLink RX4 107 "java/lang/IllegalStateException" :: Cond.initialized "java/lang/IllegalStateException" :: vx_atS RX4 111 "java/lang/IllegalStateException" xnm, vx_ot w = true := by decide +kernel
