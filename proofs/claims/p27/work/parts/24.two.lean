/-! two objects of the program: o (cells ad, numbers F) and p (cells bd, numbers G) -/
def A2 (ad bd : Nat → Nat) (sz : Nat) : Nat → Prop := fun q => AA ad sz q ∨ AA bd sz q
def IJ (ad bd : Nat → Nat) : Prop := Inj ad ∧ Inj bd ∧ ∀ i j : Nat, i < 36 → j < 36 → ¬ ad i = bd j
theorem A2_swap (ad bd : Nat → Nat) (sz : Nat) : A2 ad bd sz = A2 bd ad sz := by funext q; exact propext ⟨Or.symm, Or.symm⟩
theorem IJ_swap {ad bd : Nat → Nat} (h : IJ ad bd) : IJ bd ad := ⟨h.2.1, h.1, fun i j hi hj e => h.2.2 j i hj hi e.symm⟩
def S2 (D : va_G) (cA : Nat → ClassId) (ad bd : Nat → Nat) (F G : FF) (H0 H : Heap) (locs : List Loc) : Prop := va_P D vwCl (wA cA ad F) H ∧ va_P D vwCl (wA cA bd G) H ∧ va_S (A2 ad bd H0.size) H0 H locs
def C2 (p : Program) (m : MethodId) (c : Code) (cc : ByteArray) (nL : Nat) (s : State) (args : Array Value) (ws : List Cond) (own : String) (D : va_G) (cA : Nat → ClassId) (ad bd : Nat → Nat) (meth : Method) : Prop := CallFix p m c cc nL s args ws own ∧ EN D cA (A2 ad bd s.heap.size) s ∧ IJ ad bd ∧ meth.locks = false
theorem S2_swap {D : va_G} {cA : Nat → ClassId} {ad bd : Nat → Nat} {F G : FF} {H0 H : Heap} {locs : List Loc} (h : S2 D cA ad bd F G H0 H locs) : S2 D cA bd ad G F H0 H locs := ⟨h.2.1, h.1, by rw [A2_swap]; exact h.2.2⟩
theorem C2_swap {p : Program} {m : MethodId} {c : Code} {cc : ByteArray} {nL : Nat} {s : State} {args : Array Value} {ws : List Cond} {own : String} {D : va_G} {cA : Nat → ClassId} {ad bd : Nat → Nat} {meth : Method} (h : C2 p m c cc nL s args ws own D cA ad bd meth) : C2 p m c cc nL s args ws own D cA bd ad meth := ⟨h.1, by rw [A2_swap]; exact h.2.1, IJ_swap h.2.2.1, h.2.2.2⟩
theorem A2_in {ad bd : Nat → Nat} {sz s2 : Nat} (h : sz ≤ s2) (q : Nat) (hq : AA ad s2 q) : A2 ad bd sz q := Or.inl (AA_mono h q hq)
theorem EN_at2 {D : va_G} {cA : Nat → ClassId} {ad bd : Nat → Nat} {s U : State} {H : Heap} {locs : List Loc} (h : EN D cA (A2 ad bd s.heap.size) s) (hS : va_S (A2 ad bd s.heap.size) s.heap H locs) (hW : s.WarmedH U.vm) (hU : U.heap = H) {B : Nat → Prop} (hB : ∀ q, B q → A2 ad bd s.heap.size q) : EN D cA B U := by
  refine ⟨va_K.moved hW.alike h.1, ?_, ?_, fun q hq => ?_, XN_warm hW h.2.2.2.2⟩
  · rw [hU]
    exact vx_Zq.narrow (vx_Zq.moved hW.alike (h.2.1.kept hS.2.1)) hB
  · rw [hU]
    exact vx_Zq.narrow (vx_Zq.moved hW.alike (h.2.2.1.kept hS.2.1)) hB
  · obtain ⟨z, hz⟩ := h.2.2.2.1 q hq
    exact ⟨z, vk_R.warm hW hz⟩
def PcB (D : va_G) (cA : Nat → ClassId) (ad bd : Nat → Nat) (sz : Nat) (av : List Value) (F G : FF) : Array Value → State → Prop := va_Pc av (fun U => U.heap.size = sz ∧ va_P D vwCl (wA cA ad F) U.heap ∧ va_P D vwCl (wA cA bd G) U.heap ∧ IJ ad bd ∧ EN D cA (A2 ad bd sz) U)
theorem PcB_blind {D : va_G} {cA : Nat → ClassId} {ad bd : Nat → Nat} {sz : Nat} {av : List Value} {F G : FF} : FrameBlind (PcB D cA ad bd sz av F G) := fun a U g mk q => ⟨q.1, q.2.1, q.2.2.1, q.2.2.2.1, q.2.2.2.2.1, EN_blind g mk a q.2.2.2.2.2⟩
/-- it answers true, and leaves numbers of which P holds -/
def CQB (D : va_G) (cA : Nat → ClassId) (ad bd : Nat → Nat) (sz : Nat) (P : FF → FF → Prop) : Array Value → State → Outcome → State → Prop := fun _ st oc t => oc = .returned (some (.int 1)) ∧ (∃ F1 G1 : FF, P F1 G1 ∧ va_P D vwCl (wA cA ad F1) t.heap ∧ va_P D vwCl (wA cA bd G1) t.heap) ∧ va_F (A2 ad bd sz) st t
def CB (l : Launch) (D : va_G) (cA : Nat → ClassId) (ad bd : Nat → Nat) (sz : Nat) (y : MethodName) (ws : List Cond) (fr lo mc ms : Nat) (av : List Value) (F G : FF) (P : FF → FF → Prop) : Prop := Met l y ws (RM fr lo mc ms) (PcB D cA ad bd sz av F G) (CQB D cA ad bd sz P) mc ms (A2 ad bd sz)
/-- .. the same of one object -/
def CQE (D : va_G) (cA : Nat → ClassId) (ad : Nat → Nat) (sz : Nat) (P : FF → Prop) : Array Value → State → Outcome → State → Prop := fun _ st oc t => oc = .returned (some (.int 1)) ∧ (∃ F1 : FF, P F1 ∧ va_P D vwCl (wA cA ad F1) t.heap) ∧ va_F (AA ad sz) st t
def CE (l : Launch) (D : va_G) (cA : Nat → ClassId) (ad : Nat → Nat) (sz : Nat) (y : MethodName) (ws : List Cond) (fr lo mc ms : Nat) (av : List Value) (F : FF) (P : FF → Prop) : Prop := Met l y ws (RM fr lo mc ms) (PcA D cA ad sz av F) (CQE D cA ad sz P) mc ms (AA ad sz)
section RT
variable {p : Program} {l : Launch} {e : Env} {R : Room} {s : State} {m : MethodId} {args : Array Value} {below : List Frame} {meth : Method} {c : Code} {cc : ByteArray} {nL : Nat} {ws : List Cond} {own : String} {D : va_G} {cA : Nat → ClassId} {ad bd : Nat → Nat} {F G : FF} {H : Heap} {locs : List Loc} {cells slots : Nat} {Q : State → Prop} {pc : Nat} {ls : Array Slot} {rest st0 : List Value}
theorem preS2 (X : C2 p m c cc nL s args ws own D cA ad bd meth) (S : S2 D cA ad bd F G s.heap H locs) (av : List Value) : PreS s H (PcA D cA ad H.size av F) av :=
  ⟨PcA_blind, fun U hU hW => ⟨rfl, by rw [hU], by rw [hU]; exact S.1, X.2.2.1.1, EN_at2 X.2.1 S.2.2 hW hU (A2_in S.2.2.1)⟩⟩
theorem preB2 (X : C2 p m c cc nL s args ws own D cA ad bd meth) (S : S2 D cA ad bd F G s.heap H locs) (av : List Value) : PreS s H (PcB D cA ad bd H.size av F G) av :=
  ⟨PcB_blind, fun U hU hW => ⟨rfl, by rw [hU], by rw [hU]; exact S.1, by rw [hU]; exact S.2.1, X.2.2.1, EN_at2 X.2.1 S.2.2 hW hU (fun q hq => hq.elim (fun z => Or.inl (AA_mono S.2.2.1 q z)) (fun z => Or.inr (AA_mono S.2.2.1 q z)))⟩⟩
theorem preV2 (X : C2 p m c cc nL s args ws own D cA ad bd meth) (S : S2 D cA ad bd F G s.heap H locs) (As : List Value) {k ci : Nat} {q : vw_C} (ho : Ob k ci) (hc : vwCl[ci]? = some q) : PreV s H q.1 (ad k) (PcA D cA ad H.size (.ref (ad k) :: As) F) As :=
  ⟨PcA_blind, va_recv (cl := vwCl) X.2.1.1 S.1 hc ((wA_get ho.1).trans (by rw [ent_ob ho])), fun U hU hW => ⟨rfl, by rw [hU], by rw [hU]; exact S.1, X.2.2.1.1, EN_at2 X.2.1 S.2.2 hW hU (A2_in S.2.2.1)⟩⟩
theorem kept2 (hI : IJ ad bd) (S : S2 D cA ad bd F G s.heap H locs) {H1 : Heap} (k2 : ∀ q : Nat, q < H.size → ¬ AA ad H.size q → H1[q]? = H[q]?) : va_P D vwCl (wA cA bd G) H1 := by
  refine S.2.1.kept (fun k q hk => ?_)
  have hlt := (S.2.1 k q hk).lt
  refine k2 q.1 hlt ?_
  obtain ⟨h1, e1⟩ := wA_mem hk
  rintro (⟨i, hi, e⟩ | h)
  · rw [e1] at e
    exact hI.2.2 i k hi h1 e.symm
  · omega
theorem t_call (X : C2 p m c cc nL s args ws own D cA ad bd meth) (S : S2 D cA ad bd F G s.heap H locs) {mc ms : Nat} {F1 : FF} {ov : Option Value} {a : Array Value} (hr : va_Run p l e R s m args below meth c H locs cells slots mc ms (F0 m pc ls st0) rest (CQ D cA ad H.size F1 ov a) (AA ad H.size))
    (kk : ∀ (H1 : Heap) (locs1 : List Loc), S2 D cA ad bd F1 G s.heap H1 locs1 → W p l e R s m args below meth c H1 locs1 (cells + mc) (slots + ms) Q (F0 m (pc + 3) ls (ov.toList ++ rest))) : W p l e R s m args below meth c H locs cells slots Q (F0 m pc ls st0) := by
  intro T hT X9
  obtain ⟨v, st₀, t, T', L, h0, X', hL, e1, e2, ⟨hv, hP, hF⟩, st⟩ := hr T hT X9
  cases hv
  obtain ⟨-, k2, k3⟩ := vx_keep h0 e1 S.2.2 (fun q _ h => A2_in S.2.2.1 q h) (A2_in S.2.2.1) hL hF
  obtain ⟨t2, a1, b1⟩ := kk T'.heap (locs ++ L) ⟨by rw [e1]; exact hP, kept2 X.2.2.1 S k2, k3⟩ T' rfl X'
  exact ⟨t2, st t2 a1, b1⟩
theorem t_callE (X : C2 p m c cc nL s args ws own D cA ad bd meth) (S : S2 D cA ad bd F G s.heap H locs) {mc ms : Nat} {P : FF → Prop} {a : Array Value} (hr : va_Run p l e R s m args below meth c H locs cells slots mc ms (F0 m pc ls st0) rest (CQE D cA ad H.size P a) (AA ad H.size))
    (kk : ∀ (F1 : FF) (H1 : Heap) (locs1 : List Loc), P F1 → S2 D cA ad bd F1 G s.heap H1 locs1 → W p l e R s m args below meth c H1 locs1 (cells + mc) (slots + ms) Q (F0 m (pc + 3) ls (.int 1 :: rest))) : W p l e R s m args below meth c H locs cells slots Q (F0 m pc ls st0) := by
  intro T hT X9
  obtain ⟨v, st₀, t, T', L, h0, X', hL, e1, e2, ⟨hv, ⟨F1, hp, hP⟩, hF⟩, st⟩ := hr T hT X9
  cases hv
  obtain ⟨-, k2, k3⟩ := vx_keep h0 e1 S.2.2 (fun q _ h => A2_in S.2.2.1 q h) (A2_in S.2.2.1) hL hF
  obtain ⟨t2, a1, b1⟩ := kk F1 T'.heap (locs ++ L) hp ⟨by rw [e1]; exact hP, kept2 X.2.2.1 S k2, k3⟩ T' rfl X'
  exact ⟨t2, st t2 a1, b1⟩
theorem t_callB (S : S2 D cA ad bd F G s.heap H locs) {mc ms : Nat} {P : FF → FF → Prop} {a : Array Value} (hr : va_Run p l e R s m args below meth c H locs cells slots mc ms (F0 m pc ls st0) rest (CQB D cA ad bd H.size P a) (A2 ad bd H.size))
    (kk : ∀ (F1 G1 : FF) (H1 : Heap) (locs1 : List Loc), P F1 G1 → S2 D cA ad bd F1 G1 s.heap H1 locs1 → W p l e R s m args below meth c H1 locs1 (cells + mc) (slots + ms) Q (F0 m (pc + 3) ls (.int 1 :: rest))) : W p l e R s m args below meth c H locs cells slots Q (F0 m pc ls st0) := by
  intro T hT X9
  obtain ⟨v, st₀, t, T', L, h0, X', hL, e1, e2, ⟨hv, ⟨F1, G1, hp, hP, hP2⟩, hF⟩, st⟩ := hr T hT X9
  cases hv
  have hA : ∀ q, A2 ad bd H.size q → A2 ad bd s.heap.size q := fun q hq => hq.elim (fun z => Or.inl (AA_mono S.2.2.1 q z)) (fun z => Or.inr (AA_mono S.2.2.1 q z))
  obtain ⟨-, k2, k3⟩ := vx_keep h0 e1 S.2.2 (fun q _ h => hA q h) hA hL hF
  obtain ⟨t2, a1, b1⟩ := kk F1 G1 T'.heap (locs ++ L) hp ⟨by rw [e1]; exact hP, by rw [e1]; exact hP2, k3⟩ T' rfl X'
  exact ⟨t2, st t2 a1, b1⟩
theorem t_V0 (X : C2 p m c cc nL s args ws own D cA ad bd meth) (S : S2 D cA ad bd F G s.heap H locs) {k ci : Nat} {q : vw_C} {fr lo maxL n index : Nat} {y : MethodName} {bytes : ByteArray} {ret : Option FieldType} {ws1 : List Cond} {As : List Value} {ov : Option Value} {F1 : FF} (hM : CI l D cA ad H.size y ws1 fr lo 0 0 (.ref (ad k) :: As) F ov F1) (ho : Ob k ci) (hc : vwCl[ci]? = some q) (cw : CallW R s args own q.1 index y bytes maxL ret ws1 (RM fr lo 0 0) 0 0 n)
    (hn : As.length = n) (hl : ls.size = nL) (hst : st0 = As.reverse ++ .ref (ad k) :: rest) (hcat : (rest.map fun v => v.category).sum ≤ 8) (hdg : decode cc pc = .ok (.invokevirtual index, 3)) (hf : cells ≤ R.cells ∧ slots ≤ R.slots)
    (kk : ∀ (H1 : Heap) (locs1 : List Loc), S2 D cA ad bd F1 G s.heap H1 locs1 → W p l e R s m args below meth c H1 locs1 cells slots Q (F0 m (pc + 3) ls (ov.toList ++ rest))) : W p l e R s m args below meth c H locs cells slots Q (F0 m pc ls st0) :=
  t_call X S (va_runV X.1 hM cw (preV2 X S As ho hc) rfl hn hl hst (lv_room hcat) hdg hf) kk
theorem t_S0 (X : C2 p m c cc nL s args ws own D cA ad bd meth) (S : S2 D cA ad bd F G s.heap H locs) {fr lo maxL n index : Nat} {y : MethodName} {bytes : ByteArray} {ret : Option FieldType} {ws1 : List Cond} {As : List Value} {ov : Option Value} {F1 : FF} (hM : CI l D cA ad H.size y ws1 fr lo 0 0 As F ov F1) (cw : CallB R s args own index y bytes maxL ret ws1 (RM fr lo 0 0) 0 0 n ∧ (Cond.static y).before args s = true)
    (hn : As.length = n) (hl : ls.size = nL) (hst : st0 = As.reverse ++ rest) (hcat : (rest.map fun v => v.category).sum ≤ 8) (hdg : decode cc pc = .ok (.invokestatic index, 3)) (hf : cells ≤ R.cells ∧ slots ≤ R.slots)
    (kk : ∀ (H1 : Heap) (locs1 : List Loc), S2 D cA ad bd F1 G s.heap H1 locs1 → W p l e R s m args below meth c H1 locs1 cells slots Q (F0 m (pc + 3) ls (ov.toList ++ rest))) : W p l e R s m args below meth c H locs cells slots Q (F0 m pc ls st0) :=
  t_call X S (va_runS X.1 hM cw (preS2 X S As) rfl hn hl hst (lv_room hcat) hdg hf) kk
theorem t_SW0 (X : C2 p m c cc nL s args ws own D cA ad bd meth) (S : S2 D cA ad bd F G s.heap H locs) {fr lo maxL n index : Nat} {y : MethodName} {bytes : ByteArray} {ret : Option FieldType} {ws1 : List Cond} {As : List Value} {hh : List (Nat × Nat × Nat × Nat)} {ov : Option Value} {F1 : FF} (hM : CI l D cA ad H.size y ws1 fr lo 0 0 As F ov F1) (cw : vx_CSW R s args own index y bytes maxL ret hh ws1 (RM fr lo 0 0) 0 0 n)
    (hn : As.length = n) (hl : ls.size = nL) (hst : st0 = As.reverse ++ rest) (hcat : (rest.map fun v => v.category).sum ≤ 8) (hdg : decode cc pc = .ok (.invokestatic index, 3)) (hf : cells ≤ R.cells ∧ slots ≤ R.slots)
    (kk : ∀ (H1 : Heap) (locs1 : List Loc), S2 D cA ad bd F1 G s.heap H1 locs1 → W p l e R s m args below meth c H1 locs1 cells slots Q (F0 m (pc + 3) ls (ov.toList ++ rest))) : W p l e R s m args below meth c H locs cells slots Q (F0 m pc ls st0) :=
  t_call X S (vx_runSW X.1 hM cw (preS2 X S As) rfl hn hl hst (lv_room hcat) hdg hf) kk
theorem t_V (X : C2 p m c cc nL s args ws own D cA ad bd meth) (S : S2 D cA ad bd F G s.heap H locs) {k ci : Nat} {q : vw_C} {fr lo mc ms maxL n index : Nat} {y : MethodName} {bytes : ByteArray} {ret : Option FieldType} {ws1 : List Cond} {As : List Value} {ov : Option Value} {F1 : FF} (hM : CI l D cA ad H.size y ws1 fr lo mc ms (.ref (ad k) :: As) F ov F1) (ho : Ob k ci) (hc : vwCl[ci]? = some q) (cw : CallW R s args own q.1 index y bytes maxL ret ws1 (RM fr lo mc ms) mc ms n)
    (hn : As.length = n) (hl : ls.size = nL) (hst : st0 = As.reverse ++ .ref (ad k) :: rest) (hcat : (rest.map fun v => v.category).sum ≤ 8) (hdg : decode cc pc = .ok (.invokevirtual index, 3)) (hf : cells + mc ≤ R.cells ∧ slots + ms ≤ R.slots)
    (kk : ∀ (H1 : Heap) (locs1 : List Loc), S2 D cA ad bd F1 G s.heap H1 locs1 → W p l e R s m args below meth c H1 locs1 (cells + mc) (slots + ms) Q (F0 m (pc + 3) ls (ov.toList ++ rest))) : W p l e R s m args below meth c H locs cells slots Q (F0 m pc ls st0) :=
  t_call X S (va_runV X.1 hM cw (preV2 X S As ho hc) rfl hn hl hst (lv_room hcat) hdg hf) kk
theorem t_S (X : C2 p m c cc nL s args ws own D cA ad bd meth) (S : S2 D cA ad bd F G s.heap H locs) {fr lo mc ms maxL n index : Nat} {y : MethodName} {bytes : ByteArray} {ret : Option FieldType} {ws1 : List Cond} {As : List Value} {ov : Option Value} {F1 : FF} (hM : CI l D cA ad H.size y ws1 fr lo mc ms As F ov F1) (cw : CallB R s args own index y bytes maxL ret ws1 (RM fr lo mc ms) mc ms n ∧ (Cond.static y).before args s = true)
    (hn : As.length = n) (hl : ls.size = nL) (hst : st0 = As.reverse ++ rest) (hcat : (rest.map fun v => v.category).sum ≤ 8) (hdg : decode cc pc = .ok (.invokestatic index, 3)) (hf : cells + mc ≤ R.cells ∧ slots + ms ≤ R.slots)
    (kk : ∀ (H1 : Heap) (locs1 : List Loc), S2 D cA ad bd F1 G s.heap H1 locs1 → W p l e R s m args below meth c H1 locs1 (cells + mc) (slots + ms) Q (F0 m (pc + 3) ls (ov.toList ++ rest))) : W p l e R s m args below meth c H locs cells slots Q (F0 m pc ls st0) :=
  t_call X S (va_runS X.1 hM cw (preS2 X S As) rfl hn hl hst (lv_room hcat) hdg hf) kk
theorem t_SW (X : C2 p m c cc nL s args ws own D cA ad bd meth) (S : S2 D cA ad bd F G s.heap H locs) {fr lo mc ms maxL n index : Nat} {y : MethodName} {bytes : ByteArray} {ret : Option FieldType} {ws1 : List Cond} {As : List Value} {hh : List (Nat × Nat × Nat × Nat)} {ov : Option Value} {F1 : FF} (hM : CI l D cA ad H.size y ws1 fr lo mc ms As F ov F1) (cw : vx_CSW R s args own index y bytes maxL ret hh ws1 (RM fr lo mc ms) mc ms n)
    (hn : As.length = n) (hl : ls.size = nL) (hst : st0 = As.reverse ++ rest) (hcat : (rest.map fun v => v.category).sum ≤ 8) (hdg : decode cc pc = .ok (.invokestatic index, 3)) (hf : cells + mc ≤ R.cells ∧ slots + ms ≤ R.slots)
    (kk : ∀ (H1 : Heap) (locs1 : List Loc), S2 D cA ad bd F1 G s.heap H1 locs1 → W p l e R s m args below meth c H1 locs1 (cells + mc) (slots + ms) Q (F0 m (pc + 3) ls (ov.toList ++ rest))) : W p l e R s m args below meth c H locs cells slots Q (F0 m pc ls st0) :=
  t_call X S (vx_runSW X.1 hM cw (preS2 X S As) rfl hn hl hst (lv_room hcat) hdg hf) kk
theorem t_SE (X : C2 p m c cc nL s args ws own D cA ad bd meth) (S : S2 D cA ad bd F G s.heap H locs) {fr lo mc ms maxL n index : Nat} {y : MethodName} {bytes : ByteArray} {ret : Option FieldType} {ws1 : List Cond} {As : List Value} {P : FF → Prop} (hM : CE l D cA ad H.size y ws1 fr lo mc ms As F P) (cw : CallB R s args own index y bytes maxL ret ws1 (RM fr lo mc ms) mc ms n ∧ (Cond.static y).before args s = true)
    (hn : As.length = n) (hl : ls.size = nL) (hst : st0 = As.reverse ++ rest) (hcat : (rest.map fun v => v.category).sum ≤ 8) (hdg : decode cc pc = .ok (.invokestatic index, 3)) (hf : cells + mc ≤ R.cells ∧ slots + ms ≤ R.slots)
    (kk : ∀ (F1 : FF) (H1 : Heap) (locs1 : List Loc), P F1 → S2 D cA ad bd F1 G s.heap H1 locs1 → W p l e R s m args below meth c H1 locs1 (cells + mc) (slots + ms) Q (F0 m (pc + 3) ls (.int 1 :: rest))) : W p l e R s m args below meth c H locs cells slots Q (F0 m pc ls st0) :=
  t_callE X S (va_runS X.1 hM cw (preS2 X S As) rfl hn hl hst (lv_room hcat) hdg hf) kk
theorem u_V0 (X : C2 p m c cc nL s args ws own D cA ad bd meth) (S : S2 D cA ad bd F G s.heap H locs) {k ci : Nat} {q : vw_C} {fr lo maxL n index : Nat} {y : MethodName} {bytes : ByteArray} {ret : Option FieldType} {ws1 : List Cond} {As : List Value} {ov : Option Value} {G1 : FF} (hM : CI l D cA bd H.size y ws1 fr lo 0 0 (.ref (bd k) :: As) G ov G1) (ho : Ob k ci) (hc : vwCl[ci]? = some q) (cw : CallW R s args own q.1 index y bytes maxL ret ws1 (RM fr lo 0 0) 0 0 n)
    (hn : As.length = n) (hl : ls.size = nL) (hst : st0 = As.reverse ++ .ref (bd k) :: rest) (hcat : (rest.map fun v => v.category).sum ≤ 8) (hdg : decode cc pc = .ok (.invokevirtual index, 3)) (hf : cells ≤ R.cells ∧ slots ≤ R.slots)
    (kk : ∀ (H1 : Heap) (locs1 : List Loc), S2 D cA ad bd F G1 s.heap H1 locs1 → W p l e R s m args below meth c H1 locs1 cells slots Q (F0 m (pc + 3) ls (ov.toList ++ rest))) : W p l e R s m args below meth c H locs cells slots Q (F0 m pc ls st0) :=
  t_V0 (C2_swap X) (S2_swap S) hM ho hc cw hn hl hst hcat hdg hf (fun H1 locs1 S1 => kk H1 locs1 (S2_swap S1))
theorem u_S0 (X : C2 p m c cc nL s args ws own D cA ad bd meth) (S : S2 D cA ad bd F G s.heap H locs) {fr lo maxL n index : Nat} {y : MethodName} {bytes : ByteArray} {ret : Option FieldType} {ws1 : List Cond} {As : List Value} {ov : Option Value} {G1 : FF} (hM : CI l D cA bd H.size y ws1 fr lo 0 0 As G ov G1) (cw : CallB R s args own index y bytes maxL ret ws1 (RM fr lo 0 0) 0 0 n ∧ (Cond.static y).before args s = true)
    (hn : As.length = n) (hl : ls.size = nL) (hst : st0 = As.reverse ++ rest) (hcat : (rest.map fun v => v.category).sum ≤ 8) (hdg : decode cc pc = .ok (.invokestatic index, 3)) (hf : cells ≤ R.cells ∧ slots ≤ R.slots)
    (kk : ∀ (H1 : Heap) (locs1 : List Loc), S2 D cA ad bd F G1 s.heap H1 locs1 → W p l e R s m args below meth c H1 locs1 cells slots Q (F0 m (pc + 3) ls (ov.toList ++ rest))) : W p l e R s m args below meth c H locs cells slots Q (F0 m pc ls st0) :=
  t_S0 (C2_swap X) (S2_swap S) hM cw hn hl hst hcat hdg hf (fun H1 locs1 S1 => kk H1 locs1 (S2_swap S1))
theorem u_SW0 (X : C2 p m c cc nL s args ws own D cA ad bd meth) (S : S2 D cA ad bd F G s.heap H locs) {fr lo maxL n index : Nat} {y : MethodName} {bytes : ByteArray} {ret : Option FieldType} {ws1 : List Cond} {As : List Value} {hh : List (Nat × Nat × Nat × Nat)} {ov : Option Value} {G1 : FF} (hM : CI l D cA bd H.size y ws1 fr lo 0 0 As G ov G1) (cw : vx_CSW R s args own index y bytes maxL ret hh ws1 (RM fr lo 0 0) 0 0 n)
    (hn : As.length = n) (hl : ls.size = nL) (hst : st0 = As.reverse ++ rest) (hcat : (rest.map fun v => v.category).sum ≤ 8) (hdg : decode cc pc = .ok (.invokestatic index, 3)) (hf : cells ≤ R.cells ∧ slots ≤ R.slots)
    (kk : ∀ (H1 : Heap) (locs1 : List Loc), S2 D cA ad bd F G1 s.heap H1 locs1 → W p l e R s m args below meth c H1 locs1 cells slots Q (F0 m (pc + 3) ls (ov.toList ++ rest))) : W p l e R s m args below meth c H locs cells slots Q (F0 m pc ls st0) :=
  t_SW0 (C2_swap X) (S2_swap S) hM cw hn hl hst hcat hdg hf (fun H1 locs1 S1 => kk H1 locs1 (S2_swap S1))
theorem u_V (X : C2 p m c cc nL s args ws own D cA ad bd meth) (S : S2 D cA ad bd F G s.heap H locs) {k ci : Nat} {q : vw_C} {fr lo mc ms maxL n index : Nat} {y : MethodName} {bytes : ByteArray} {ret : Option FieldType} {ws1 : List Cond} {As : List Value} {ov : Option Value} {G1 : FF} (hM : CI l D cA bd H.size y ws1 fr lo mc ms (.ref (bd k) :: As) G ov G1) (ho : Ob k ci) (hc : vwCl[ci]? = some q) (cw : CallW R s args own q.1 index y bytes maxL ret ws1 (RM fr lo mc ms) mc ms n)
    (hn : As.length = n) (hl : ls.size = nL) (hst : st0 = As.reverse ++ .ref (bd k) :: rest) (hcat : (rest.map fun v => v.category).sum ≤ 8) (hdg : decode cc pc = .ok (.invokevirtual index, 3)) (hf : cells + mc ≤ R.cells ∧ slots + ms ≤ R.slots)
    (kk : ∀ (H1 : Heap) (locs1 : List Loc), S2 D cA ad bd F G1 s.heap H1 locs1 → W p l e R s m args below meth c H1 locs1 (cells + mc) (slots + ms) Q (F0 m (pc + 3) ls (ov.toList ++ rest))) : W p l e R s m args below meth c H locs cells slots Q (F0 m pc ls st0) :=
  t_V (C2_swap X) (S2_swap S) hM ho hc cw hn hl hst hcat hdg hf (fun H1 locs1 S1 => kk H1 locs1 (S2_swap S1))
theorem u_S (X : C2 p m c cc nL s args ws own D cA ad bd meth) (S : S2 D cA ad bd F G s.heap H locs) {fr lo mc ms maxL n index : Nat} {y : MethodName} {bytes : ByteArray} {ret : Option FieldType} {ws1 : List Cond} {As : List Value} {ov : Option Value} {G1 : FF} (hM : CI l D cA bd H.size y ws1 fr lo mc ms As G ov G1) (cw : CallB R s args own index y bytes maxL ret ws1 (RM fr lo mc ms) mc ms n ∧ (Cond.static y).before args s = true)
    (hn : As.length = n) (hl : ls.size = nL) (hst : st0 = As.reverse ++ rest) (hcat : (rest.map fun v => v.category).sum ≤ 8) (hdg : decode cc pc = .ok (.invokestatic index, 3)) (hf : cells + mc ≤ R.cells ∧ slots + ms ≤ R.slots)
    (kk : ∀ (H1 : Heap) (locs1 : List Loc), S2 D cA ad bd F G1 s.heap H1 locs1 → W p l e R s m args below meth c H1 locs1 (cells + mc) (slots + ms) Q (F0 m (pc + 3) ls (ov.toList ++ rest))) : W p l e R s m args below meth c H locs cells slots Q (F0 m pc ls st0) :=
  t_S (C2_swap X) (S2_swap S) hM cw hn hl hst hcat hdg hf (fun H1 locs1 S1 => kk H1 locs1 (S2_swap S1))
theorem u_SW (X : C2 p m c cc nL s args ws own D cA ad bd meth) (S : S2 D cA ad bd F G s.heap H locs) {fr lo mc ms maxL n index : Nat} {y : MethodName} {bytes : ByteArray} {ret : Option FieldType} {ws1 : List Cond} {As : List Value} {hh : List (Nat × Nat × Nat × Nat)} {ov : Option Value} {G1 : FF} (hM : CI l D cA bd H.size y ws1 fr lo mc ms As G ov G1) (cw : vx_CSW R s args own index y bytes maxL ret hh ws1 (RM fr lo mc ms) mc ms n)
    (hn : As.length = n) (hl : ls.size = nL) (hst : st0 = As.reverse ++ rest) (hcat : (rest.map fun v => v.category).sum ≤ 8) (hdg : decode cc pc = .ok (.invokestatic index, 3)) (hf : cells + mc ≤ R.cells ∧ slots + ms ≤ R.slots)
    (kk : ∀ (H1 : Heap) (locs1 : List Loc), S2 D cA ad bd F G1 s.heap H1 locs1 → W p l e R s m args below meth c H1 locs1 (cells + mc) (slots + ms) Q (F0 m (pc + 3) ls (ov.toList ++ rest))) : W p l e R s m args below meth c H locs cells slots Q (F0 m pc ls st0) :=
  t_SW (C2_swap X) (S2_swap S) hM cw hn hl hst hcat hdg hf (fun H1 locs1 S1 => kk H1 locs1 (S2_swap S1))
theorem u_SE (X : C2 p m c cc nL s args ws own D cA ad bd meth) (S : S2 D cA ad bd F G s.heap H locs) {fr lo mc ms maxL n index : Nat} {y : MethodName} {bytes : ByteArray} {ret : Option FieldType} {ws1 : List Cond} {As : List Value} {P : FF → Prop} (hM : CE l D cA bd H.size y ws1 fr lo mc ms As G P) (cw : CallB R s args own index y bytes maxL ret ws1 (RM fr lo mc ms) mc ms n ∧ (Cond.static y).before args s = true)
    (hn : As.length = n) (hl : ls.size = nL) (hst : st0 = As.reverse ++ rest) (hcat : (rest.map fun v => v.category).sum ≤ 8) (hdg : decode cc pc = .ok (.invokestatic index, 3)) (hf : cells + mc ≤ R.cells ∧ slots + ms ≤ R.slots)
    (kk : ∀ (G1 : FF) (H1 : Heap) (locs1 : List Loc), P G1 → S2 D cA ad bd F G1 s.heap H1 locs1 → W p l e R s m args below meth c H1 locs1 (cells + mc) (slots + ms) Q (F0 m (pc + 3) ls (.int 1 :: rest))) : W p l e R s m args below meth c H locs cells slots Q (F0 m pc ls st0) :=
  t_SE (C2_swap X) (S2_swap S) hM cw hn hl hst hcat hdg hf (fun G1 H1 locs1 hp S1 => kk G1 H1 locs1 hp (S2_swap S1))
theorem t_SB (X : C2 p m c cc nL s args ws own D cA ad bd meth) (S : S2 D cA ad bd F G s.heap H locs) {fr lo mc ms maxL n index : Nat} {y : MethodName} {bytes : ByteArray} {ret : Option FieldType} {ws1 : List Cond} {As : List Value} {P : FF → FF → Prop} (hM : CB l D cA ad bd H.size y ws1 fr lo mc ms As F G P) (cw : CallB R s args own index y bytes maxL ret ws1 (RM fr lo mc ms) mc ms n ∧ (Cond.static y).before args s = true)
    (hn : As.length = n) (hl : ls.size = nL) (hst : st0 = As.reverse ++ rest) (hcat : (rest.map fun v => v.category).sum ≤ 8) (hdg : decode cc pc = .ok (.invokestatic index, 3)) (hf : cells + mc ≤ R.cells ∧ slots + ms ≤ R.slots)
    (kk : ∀ (F1 G1 : FF) (H1 : Heap) (locs1 : List Loc), P F1 G1 → S2 D cA ad bd F1 G1 s.heap H1 locs1 → W p l e R s m args below meth c H1 locs1 (cells + mc) (slots + ms) Q (F0 m (pc + 3) ls (.int 1 :: rest))) : W p l e R s m args below meth c H locs cells slots Q (F0 m pc ls st0) :=
  t_callB S (va_runS X.1 hM cw (preB2 X S As) rfl hn hl hst (lv_room hcat) hdg hf) kk
theorem r_SW0 (X : Cx p m c cc nL s args ws own D cA ad meth) (S : St D cA ad F s.heap H locs) {fr lo maxL n index : Nat} {y : MethodName} {bytes : ByteArray} {ret : Option FieldType} {hh : List (Nat × Nat × Nat × Nat)} {ws1 : List Cond} {As : List Value} {ov : Option Value} {F1 : FF} (hM : CI l D cA ad H.size y ws1 fr lo 0 0 As F ov F1) (cw : vx_CSW R s args own index y bytes maxL ret hh ws1 (RM fr lo 0 0) 0 0 n)
    (hn : As.length = n) (hl : ls.size = nL) (hst : st0 = As.reverse ++ rest) (hcat : (rest.map fun v => v.category).sum ≤ 8) (hdg : decode cc pc = .ok (.invokestatic index, 3)) (hf : cells ≤ R.cells ∧ slots ≤ R.slots)
    (kk : ∀ (H1 : Heap) (locs1 : List Loc), St D cA ad F1 s.heap H1 locs1 → W p l e R s m args below meth c H1 locs1 cells slots Q (F0 m (pc + 3) ls (ov.toList ++ rest))) : W p l e R s m args below meth c H locs cells slots Q (F0 m pc ls st0) :=
  r_call S (vx_runSW X.1 hM cw (preS_of X S As) rfl hn hl hst (lv_room hcat) hdg hf) kk
theorem t_zret (X : C2 p m c cc nL s args ws own D cA ad bd meth) (S : S2 D cA ad bd F G s.heap H locs) {v : Int32} {P : FF → FF → Prop} {mc ms : Nat} (hr : meth.sig.returnType = some .boolean) (hdg : decode cc pc = .ok (.ireturn, 1)) (hc : cells ≤ mc) (hs : slots ≤ ms) (hv : v = 1) (hP : P F G) : W p l e R s m args below meth c H locs cells slots (MQ below (CQB D cA ad bd s.heap.size P) args s mc ms (A2 ad bd s.heap.size)) (F0 m pc ls [.int v]) := by
  subst hv
  exact W.widen hc hs (W.zret X.1.1 X.1.2.1 hr rfl (fun t ht _ => ⟨rfl, ⟨F, G, hP, by rw [ht]; exact S.1, by rw [ht]; exact S.2.1⟩, S.2.2.F ht⟩) S.2.2.2.2 hdg X.2.2.2)
theorem e_zret (X : Cx p m c cc nL s args ws own D cA ad meth) (S : St D cA ad F s.heap H locs) {v : Int32} {P : FF → Prop} {mc ms : Nat} (hr : meth.sig.returnType = some .boolean) (hdg : decode cc pc = .ok (.ireturn, 1)) (hc : cells ≤ mc) (hs : slots ≤ ms) (hv : v = 1) (hP : P F) : W p l e R s m args below meth c H locs cells slots (MQ below (CQE D cA ad s.heap.size P) args s mc ms (AA ad s.heap.size)) (F0 m pc ls [.int v]) := by
  subst hv
  exact W.widen hc hs (W.zret X.1.1 X.1.2.1 hr rfl (fun t ht _ => ⟨rfl, ⟨F, hP, by rw [ht]; exact S.1⟩, S.2.F ht⟩) S.2.2.2 hdg X.2.2.2)
end RT
theorem CE_of {l : Launch} {D : va_G} {cA : Nat → ClassId} {ad : Nat → Nat} {sz : Nat} {y : MethodName} {ws ws' : List Cond} {fr lo mc ms : Nat} {av : List Value} {F : FF} {P : FF → Prop} {cc : ByteArray} {maxL : Nat} {ret : Option FieldType} {own : String} (hy : plainName y.cls = true) (hown : y.cls = own) (hw : ws = .code y cc maxL ret :: ws') (hlen : (lg_sl av).length ≤ maxL)
    (body : ∀ (p : Program) (e : Env) (s : State) (m : MethodId) (below : List Frame) (meth : Method) (c : Code) (ls : Array Slot), Cx p m c cc maxL s av.toArray ws own D cA ad meth → St D cA ad F s.heap s.heap [] → meth.sig.returnType = ret → lv_has ls maxL (lv_args 0 av) →
      W p l e (RM fr lo mc ms) s m av.toArray below meth c s.heap [] 0 0 (MQ below (CQE D cA ad s.heap.size P) av.toArray s mc ms (AA ad s.heap.size)) (F0 m 0 ls [])) : CE l D cA ad sz y ws fr lo mc ms av F P := by
  refine Met.ofW (cc := cc) (maxL := maxL) (ret := ret) hy hw ?_
  intro p e s m args below meth c s₁ B hml hv
  obtain ⟨rfl, hsz, hP, hI, hE⟩ := hv
  subst hsz
  have hl := lv_entry av hlen
  rw [lg_entry_eq]
  exact body p e s m below meth c _ ⟨⟨B.exec, B.bytes, hml, hown ▸ findClass_of_methodNamed B.named, atoms_spec (ws := ws) B.pre⟩, hE, hI, B.notSynchronized⟩ ⟨hP, va_S.rf⟩ B.returns hl
theorem CB_of {l : Launch} {D : va_G} {cA : Nat → ClassId} {ad bd : Nat → Nat} {sz : Nat} {y : MethodName} {ws ws' : List Cond} {fr lo mc ms : Nat} {av : List Value} {F G : FF} {P : FF → FF → Prop} {cc : ByteArray} {maxL : Nat} {ret : Option FieldType} {own : String} (hy : plainName y.cls = true) (hown : y.cls = own) (hw : ws = .code y cc maxL ret :: ws') (hlen : (lg_sl av).length ≤ maxL)
    (body : ∀ (p : Program) (e : Env) (s : State) (m : MethodId) (below : List Frame) (meth : Method) (c : Code) (ls : Array Slot), C2 p m c cc maxL s av.toArray ws own D cA ad bd meth → S2 D cA ad bd F G s.heap s.heap [] → meth.sig.returnType = ret → lv_has ls maxL (lv_args 0 av) →
      W p l e (RM fr lo mc ms) s m av.toArray below meth c s.heap [] 0 0 (MQ below (CQB D cA ad bd s.heap.size P) av.toArray s mc ms (A2 ad bd s.heap.size)) (F0 m 0 ls [])) : CB l D cA ad bd sz y ws fr lo mc ms av F G P := by
  refine Met.ofW (cc := cc) (maxL := maxL) (ret := ret) hy hw ?_
  intro p e s m args below meth c s₁ B hml hv
  obtain ⟨rfl, hsz, hP, hP2, hI, hE⟩ := hv
  subst hsz
  have hl := lv_entry av hlen
  rw [lg_entry_eq]
  exact body p e s m below meth c _ ⟨⟨B.exec, B.bytes, hml, hown ▸ findClass_of_methodNamed B.named, atoms_spec (ws := ws) B.pre⟩, hE, hI, B.notSynchronized⟩ ⟨hP, hP2, va_S.rf⟩ B.returns hl
