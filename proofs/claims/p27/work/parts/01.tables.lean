-- ===== PART A: goes FIRST, ahead of the names: the tables' words, and 'selects' of the private methods out of them =====
/-- a private method of a class that the tables say can be made, by its rows of tables_1 -/
def lw_okq (q : MethodName × Nat) : Prop := (q.1.cls ≠ "java/lang/invoke/MethodHandle" ∧ q.1.cls ≠ "java/lang/invoke/VarHandle") ∧ Cond.instantiable q.1.cls q.2 ∈ tables_1 ∧ Cond.privateMethod q.1 ∈ tables_1 ∧ Cond.instanceMethod q.1 ∈ tables_1
theorem lw_p0 : lw_okq (⟨"java/lang/Throwable", "fillInStackTrace", "(I)Ljava/lang/Throwable;"⟩, 6) := ⟨⟨by decide +kernel, by decide +kernel⟩, List.mem_of_getElem? (i := 236) (by decide +kernel), List.mem_of_getElem? (i := 234) (by decide +kernel), List.mem_of_getElem? (i := 235) (by decide +kernel)⟩
theorem lw_p1 : lw_okq (⟨"TermBill", "studentAt", "(I)LTermBill$Student;"⟩, 9) := ⟨⟨by decide +kernel, by decide +kernel⟩, List.mem_of_getElem? (i := 15) (by decide +kernel), List.mem_of_getElem? (i := 284) (by decide +kernel), List.mem_of_getElem? (i := 285) (by decide +kernel)⟩
theorem lw_p2 : lw_okq (⟨"TermBill", "dropCourse", "(LTermBill$Student;I)I"⟩, 9) := ⟨⟨by decide +kernel, by decide +kernel⟩, List.mem_of_getElem? (i := 15) (by decide +kernel), List.mem_of_getElem? (i := 354) (by decide +kernel), List.mem_of_getElem? (i := 355) (by decide +kernel)⟩
theorem lw_p3 : lw_okq (⟨"TermBill", "rateAt", "(I)I"⟩, 9) := ⟨⟨by decide +kernel, by decide +kernel⟩, List.mem_of_getElem? (i := 15) (by decide +kernel), List.mem_of_getElem? (i := 358) (by decide +kernel), List.mem_of_getElem? (i := 359) (by decide +kernel)⟩
theorem lw_p4 : lw_okq (⟨"TermBill", "priceOf", "(II)I"⟩, 9) := ⟨⟨by decide +kernel, by decide +kernel⟩, List.mem_of_getElem? (i := 15) (by decide +kernel), List.mem_of_getElem? (i := 366) (by decide +kernel), List.mem_of_getElem? (i := 367) (by decide +kernel)⟩
theorem lw_p5 : lw_okq (⟨"TermBill", "shareNow", "()I"⟩, 9) := ⟨⟨by decide +kernel, by decide +kernel⟩, List.mem_of_getElem? (i := 15) (by decide +kernel), List.mem_of_getElem? (i := 374) (by decide +kernel), List.mem_of_getElem? (i := 375) (by decide +kernel)⟩
theorem lw_p6 : lw_okq (⟨"TermBill", "balanceOf", "(LTermBill$Student;)I"⟩, 9) := ⟨⟨by decide +kernel, by decide +kernel⟩, List.mem_of_getElem? (i := 15) (by decide +kernel), List.mem_of_getElem? (i := 398) (by decide +kernel), List.mem_of_getElem? (i := 399) (by decide +kernel)⟩
theorem lw_p7 : lw_okq (⟨"TermBill", "unsponsored", "(LTermBill$Student;)I"⟩, 9) := ⟨⟨by decide +kernel, by decide +kernel⟩, List.mem_of_getElem? (i := 15) (by decide +kernel), List.mem_of_getElem? (i := 402) (by decide +kernel), List.mem_of_getElem? (i := 403) (by decide +kernel)⟩
theorem lw_p8 : lw_okq (⟨"TermBill", "chargesOf", "(LTermBill$Student;I)I"⟩, 9) := ⟨⟨by decide +kernel, by decide +kernel⟩, List.mem_of_getElem? (i := 15) (by decide +kernel), List.mem_of_getElem? (i := 406) (by decide +kernel), List.mem_of_getElem? (i := 407) (by decide +kernel)⟩
theorem lw_p9 : lw_okq (⟨"TermBill", "sponsorPart", "(LTermBill$Student;)I"⟩, 9) := ⟨⟨by decide +kernel, by decide +kernel⟩, List.mem_of_getElem? (i := 15) (by decide +kernel), List.mem_of_getElem? (i := 410) (by decide +kernel), List.mem_of_getElem? (i := 411) (by decide +kernel)⟩
theorem lw_p10 : lw_okq (⟨"TermBill", "weekNumber", "()I"⟩, 9) := ⟨⟨by decide +kernel, by decide +kernel⟩, List.mem_of_getElem? (i := 15) (by decide +kernel), List.mem_of_getElem? (i := 428) (by decide +kernel), List.mem_of_getElem? (i := 429) (by decide +kernel)⟩
theorem lw_p11 : lw_okq (⟨"TermBill", "aidToGiveBack", "(I)I"⟩, 9) := ⟨⟨by decide +kernel, by decide +kernel⟩, List.mem_of_getElem? (i := 15) (by decide +kernel), List.mem_of_getElem? (i := 444) (by decide +kernel), List.mem_of_getElem? (i := 445) (by decide +kernel)⟩
theorem lw_p12 : lw_okq (⟨"TermBill", "endTerm", "()V"⟩, 9) := ⟨⟨by decide +kernel, by decide +kernel⟩, List.mem_of_getElem? (i := 15) (by decide +kernel), List.mem_of_getElem? (i := 457) (by decide +kernel), List.mem_of_getElem? (i := 458) (by decide +kernel)⟩
theorem lw_p13 : lw_okq (⟨"TermBill", "chargeLateFees", "()V"⟩, 9) := ⟨⟨by decide +kernel, by decide +kernel⟩, List.mem_of_getElem? (i := 15) (by decide +kernel), List.mem_of_getElem? (i := 481) (by decide +kernel), List.mem_of_getElem? (i := 482) (by decide +kernel)⟩
def lw_privs_1 : List (MethodName × Nat) := [(⟨"java/lang/Throwable", "fillInStackTrace", "(I)Ljava/lang/Throwable;"⟩, 6), (⟨"TermBill", "studentAt", "(I)LTermBill$Student;"⟩, 9), (⟨"TermBill", "dropCourse", "(LTermBill$Student;I)I"⟩, 9), (⟨"TermBill", "rateAt", "(I)I"⟩, 9), (⟨"TermBill", "priceOf", "(II)I"⟩, 9), (⟨"TermBill", "shareNow", "()I"⟩, 9), (⟨"TermBill", "balanceOf", "(LTermBill$Student;)I"⟩, 9), (⟨"TermBill", "unsponsored", "(LTermBill$Student;)I"⟩, 9), (⟨"TermBill", "chargesOf", "(LTermBill$Student;I)I"⟩, 9), (⟨"TermBill", "sponsorPart", "(LTermBill$Student;)I"⟩, 9), (⟨"TermBill", "weekNumber", "()I"⟩, 9), (⟨"TermBill", "aidToGiveBack", "(I)I"⟩, 9), (⟨"TermBill", "endTerm", "()V"⟩, 9), (⟨"TermBill", "chargeLateFees", "()V"⟩, 9)]
theorem lw_r1 : ∀ q ∈ lw_privs_1, lw_okq q := List.forall_mem_cons.mpr ⟨lw_p0, List.forall_mem_cons.mpr ⟨lw_p1, List.forall_mem_cons.mpr ⟨lw_p2, List.forall_mem_cons.mpr ⟨lw_p3, List.forall_mem_cons.mpr ⟨lw_p4, List.forall_mem_cons.mpr ⟨lw_p5, List.forall_mem_cons.mpr ⟨lw_p6, List.forall_mem_cons.mpr ⟨lw_p7, List.forall_mem_cons.mpr ⟨lw_p8, List.forall_mem_cons.mpr ⟨lw_p9, List.forall_mem_cons.mpr ⟨lw_p10, List.forall_mem_cons.mpr ⟨lw_p11, List.forall_mem_cons.mpr ⟨lw_p12, List.forall_mem_cons.mpr ⟨lw_p13, fun _ h => absurd h List.not_mem_nil⟩⟩⟩⟩⟩⟩⟩⟩⟩⟩⟩⟩⟩⟩
def lw_privs : List (MethodName × Nat) := lw_privs_1
def lw_tbl : List Cond := k2_sels lw_privs ++ tables_1
theorem lw_privs_ok : ∀ q ∈ lw_privs, lw_okq q := lw_r1
/-! ===== BEGIN words of one list among another's, by their places ===== -/
theorem goodIn_r {big : List Cond} (ws : List Cond) (ps : List Nat) (hp : ws = ps.filterMap (fun i => big[i]?)) (h : ws.all goodWord = true) : GoodIn big ws := by
  intro w hw
  have h1 := List.all_eq_true.mp h w hw
  rw [hp] at hw
  obtain ⟨i, -, hi⟩ := List.mem_filterMap.mp hw
  have hm : w ∈ big := by first | exact List.mem_of_getElem? hi | exact List.getElem?_mem hi
  exact ⟨hm, good_of_word h1⟩
theorem goodIn_app {big a b : List Cond} (ha : GoodIn big a) (hb : GoodIn big b) : GoodIn big (a ++ b) := fun w h => (List.mem_append.mp h).elim (ha w) (hb w)
theorem goodIn_ca {big a b : List Cond} {c : Cond} (ha : GoodIn big (c :: a)) (hb : GoodIn big b) : GoodIn big (c :: (a ++ b)) := fun w h => (List.mem_cons.mp h).elim (fun e => ha w (List.mem_cons.mpr (Or.inl e))) (fun h => (List.mem_append.mp h).elim (fun h => ha w (List.mem_cons.mpr (Or.inr h))) (hb w))
theorem goodIn_sub {big ws : List Cond} (hm : ∀ w ∈ ws, w ∈ big) (h : ws.all goodWord = true) : GoodIn big ws := fun w hw => ⟨hm w hw, good_of_word (List.all_eq_true.mp h w hw)⟩
/-! ===== END ===== -/

/-! ===== BEGIN exceptions that leave a method, and their catching by the caller (launches without stack traces) ===== -/
section VXA
/-! The laws vx_back, vx_callV, vx_callS, vx_callSW, vx_throw0, vx_throwS follow proofs of the library, with one case more: JvmDerived/Free/Laws.lean (Back.of_free), Shelf42/LK1.lean (callV, callS), Shelf/KitTraced.lean (throwNew0V, throwNewS). -/
/-- where a method has thrown q: the class by its name, the cell, what was written, the world -/
def vx_T (XC : String → State → State → Prop) (st : State) (q : Addr) (t : State) (mc ms : Nat) (free : Addr → Prop) : Prop :=
  ∃ (E : String) (ce : Cell) (L : List Loc), XC E st t ∧ t.heap[q]? = some ce ∧ ce.vm = .none ∧ st.vm.findClass E = some ce.cls ∧ st.WarmedH t.vm ∧ st.sameButNew ({ t with vm := st.vm } : State) L mc ms ∧ ∀ z ∈ L, free z.base
def vx_Q (Qc : Array Value → State → Outcome → State → Prop) (XC : String → State → State → Prop) (mc ms : Nat) (free : Addr → Prop) : Array Value → State → Outcome → State → Prop := fun a st o t =>
  (Qc a st o t ∧ ∃ L, FrameEnd st o t L mc ms ∧ ∀ q ∈ L, free q.base) ∨ ∃ q, o = .threw q ∧ vx_T XC st q t mc ms free
/-- a callee that returns or throws -/
def vx_Met (l : Launch) (y : MethodName) (ws : List Cond) (rm : Room) (Pc : Array Value → State → Prop) (Qc : Array Value → State → Outcome → State → Prop) (XC : String → State → State → Prop) (mc ms : Nat) (free : Addr → Prop) : Prop :=
  MetFree l y (headSpec ws rm) Pc (fun _ _ _ _ _ => True) (vx_Q Qc XC mc ms free)
def vx_Post (XC : String → State → State → Prop) (mc ms : Nat) (free : Addr → Prop) : Pt → Array Value → Addr → Pt → Prop := fun A a q B =>
  ∃ (g : JFrame) (mk : MethodId) (t : State) (L : List Loc) (E : String) (ce : Cell), B.U.heap = t.heap ∧ B.U.vm = t.vm ∧ XC E (A.U.calling g mk a) t ∧ t.heap[q]? = some ce ∧ ce.vm = .none ∧ A.U.vm.findClass E = some ce.cls ∧ B.locs = A.locs ++ L ∧ (∀ z ∈ L, free z.base) ∧ B.cells = A.cells + mc ∧ B.slots = A.slots + ms
def vx_Back (l : Launch) (R : Room) (p : Program) (e : Env) (below : List Frame) (s : State) (sargs : Array Value) (y : MethodName) (len W9 : Nat)
    (Pre : Pt → Array Value → Prop) (Post : Pt → Array Value → Option Value → Pt → Prop) (PostX : Pt → Array Value → Addr → Pt → Prop) : Prop :=
  ∀ (m : MethodId) (meth : Method) (c : Code) (A : Pt) (g : JFrame) (ig : Instr) (mk : MethodId) (a : Array Value),
    Stand p l e R s m sargs below meth c A.U A.locs A.cells A.slots → g.method = m → g.locals.size = c.maxLocals → decode c.code g.pc = .ok (ig, len) →
    2 * g.monitorRoom + (g.stack.map fun v => v.category).sum ≤ W9 → A.U.methodNamed? y = some mk → Pre A a →
    (∃ (v : Option Value) (B : Pt), Stand p l e R s m sargs below meth c B.U B.locs B.cells B.slots ∧ Post A a v B ∧
      Steps p.tables e below (doInvoke e (A.U.setTop g) [] mk a).1 (B.U.setTop { g with pc := g.pc + len, stack := v.toList ++ g.stack })) ∨
    (∃ (q : Addr) (B : Pt), Stand p l e R s m sargs below meth c B.U B.locs B.cells B.slots ∧ PostX A a q B ∧
      Steps p.tables e below (doInvoke e (A.U.setTop g) [] mk a).1 ((B.U.setTop g).pushFrame (.throwing q)))
section Payer
variable {l : Launch} {R : Room} {p : Program} {e : Env} {below : List Frame} {s : State} {sargs : Array Value} {y : MethodName} {len W9 : Nat}
theorem vx_back {ws : List Cond} {rm : Room} {Pc : Array Value → State → Prop} {Qc : Array Value → State → Outcome → State → Prop} {XC : String → State → State → Prop} {mc ms : Nat} {free : Addr → Prop} {bytes : ByteArray} {maxL : Nat} {ret : Option FieldType}
    (hM : vx_Met l y ws rm Pc Qc XC mc ms free) (hblind : FrameBlind Pc) (hrc : rm.cells = mc) (hrs : rm.slots = ms)
    (hframes : rm.frames + 1 ≤ R.frames) (hlocals : W9 + (maxL + 11) + rm.locals ≤ R.locals)
    (hws : ∀ w ∈ ws, ∀ a' U, s.WarmedH U.vm → w.before a' U = true) (hcode : Cond.code y bytes maxL ret ∈ ws) (hinit : ∀ a' U, s.WarmedH U.vm → (Cond.initialized y.cls).before a' U = true) :
    vx_Back l R p e below s sargs y len W9 (PreOf R mc ms Pc) (PostOf Qc mc ms free) (vx_Post XC mc ms free) := by
  intro m meth c A g ig mk a X hg hsize hdg hW hn hp
  have h1 : (headSpec ws rm).pre.before a A.U = true := atoms_intro fun w hw => hws w hw _ _ X.warmed
  have h2 : (Cond.code y bytes maxL ret).before a A.U = true := hws _ hcode _ _ X.warmed
  have h3 : (Cond.initialized y.cls).before a A.U = true := hinit _ _ X.warmed
  have h4 : A.cells + (headSpec ws rm).room.cells ≤ R.cells := by rw [show (headSpec ws rm).room.cells = mc from hrc]; exact hp.1
  have h5 : A.slots + (headSpec ws rm).room.slots ≤ R.slots := by rw [show (headSpec ws rm).room.slots = ms from hrs]; exact hp.2.1
  have hPc : Pc a (A.U.calling g mk a) := hblind _ _ _ _ hp.2.2
  obtain ⟨U, Ls, c0, s0⟩ := A
  dsimp only [Pt.U, Pt.locs, Pt.cells, Pt.slots] at h1 h2 h3 h4 h5 X hn hPc ⊢
  obtain ⟨methY, cY, hmY, hcY, -, hlY, -, -, -, -⟩ := Cond.code_spec hn h2
  obtain ⟨kY, hkY, -⟩ := className_of_methodNamed hn
  have hinitY : kY.init = .initialized := Cond.initialized_spec (findClass_of_methodNamed hn) hkY h3
  have h : At U g.method c below := by rw [hg]; exact X.here
  have hlocals9 : W9 + (maxL + 11) + (headSpec ws rm).room.locals ≤ R.locals := hlocals
  have happ : (headSpec ws rm).appliesLoose y e.platform (U.calling g mk a) = true :=
    Spec.appliesLoose_calling (g := g) h hdg hn hkY hinitY
      (X.room_calling (g := g) (R' := (headSpec ws rm).room) hsize hmY hcY hframes (by rw [hlY]; omega) h4 h5) h1
  obtain ⟨mid, hmid⟩ := h.above
  have hfr : (U.setTop g).frames = (.java g :: mid) ++ below := by rw [State.frames_setTop' g h.top, hmid]; rfl
  obtain ⟨o, s₂, hsteps, -, hend, hq⟩ := Steps.callFree hM p X.admits X.cas X.clock (acts := []) hfr happ hPc trivial
  have hq' : vx_Q Qc XC mc ms free a (U.calling g mk a) o s₂ := hq
  rw [State.frames_setTop' g h.top] at hend
  obtain ⟨g₀, hg0⟩ := Option.isSome_iff_exists.mp h.top
  obtain ⟨r, hr⟩ := State.topJava?_eq_some.mp hg0
  have hr' : (({ U with heap := s₂.heap, slotsUsed := s₂.slotsUsed } : State).setVm s₂.vm).frames = .java g₀ :: r := hr
  rcases hq' with ⟨hqc, L, hfe, hL⟩ | ⟨q, rfl, E, ce, L, hx, hce, hcv, hcl, hW₂, hsm, hL⟩
  · obtain ⟨⟨v, rfl⟩, hW₂, e2, q2, q3, q4, q5, q6⟩ := id hfe
    have e3 : s₂ = ({ (U.calling g mk a).setFrames s₂.frames with heap := s₂.heap, slotsUsed := s₂.slotsUsed } : State).setVm s₂.vm := by
      have : s₂ = ({ s₂ with vm := (U.calling g mk a).vm } : State).setVm s₂.vm := rfl
      rw [e2] at this
      exact this
    obtain ⟨c₂, i₂, len₂, hc₂, hd₂, hf₂⟩ := hend
    have hW' : U.WarmedH s₂.vm := hW₂
    have hcc : c₂ = c := by
      have h1 : s₂.code? g.method = U.code? g.method := by
        rw [State.code?_eq, State.code?_eq, hW'.alike.method?]
      exact Option.some.inj (hc₂.symm.trans (h1.trans h.code))
    subst hcc
    have hlen : len₂ = len := by rw [hdg] at hd₂; cases hd₂; rfl
    subst hlen
    have hs₂ : s₂ = (({ U with heap := s₂.heap, slotsUsed := s₂.slotsUsed } : State).setVm s₂.vm).setTop { g with pc := g.pc + len₂, stack := v.toList ++ g.stack } := by
      refine e3.trans ?_
      rw [hf₂, State.calling_eq h.top, State.setFrames_setFrames, State.setTop_of_frames _ hr', hr]
      rfl
    have hsame : U.sameButNew ({ U with heap := s₂.heap, slotsUsed := s₂.slotsUsed } : State) L mc ms := by
      refine ⟨?_, q2, q3, q4, q5, q6⟩
      obtain ⟨t, ht, -⟩ := State.frames_cons hr
      show ({ U with heap := s₂.heap, slotsUsed := s₂.slotsUsed } : State) = { U.setFrames U.frames with heap := s₂.heap, slotsUsed := s₂.slotsUsed }
      rw [State.setFrames_self ht]
    subst hg
    refine Or.inl ⟨v, ⟨(({ U with heap := s₂.heap, slotsUsed := s₂.slotsUsed } : State).setVm s₂.vm), Ls ++ L, c0 + mc, s0 + ms⟩,
      ⟨X.admits, X.cas, X.clock, X.frames, X.room, X.hears, X.method, X.code, (X.here.setHeapUsed s₂.heap s₂.slotsUsed).setVm hW'.alike, X.tail, State.WarmedH.trans X.warmed hW', X.limits, X.bytes, X.same.trans (hsame.setVm s.vm)⟩,
      ⟨g, mk, s₂, L, rfl, rfl, hqc, rfl, hL, rfl, rfl⟩, ?_⟩
    show Steps p.tables e below _ ((({ U with heap := s₂.heap, slotsUsed := s₂.slotsUsed } : State).setVm s₂.vm).setTop { g with pc := g.pc + len₂, stack := v.toList ++ g.stack })
    rw [← hs₂]
    exact hsteps
  · obtain ⟨e2, q2, q3, q4, q5, q6⟩ := id hsm
    have e3 : s₂ = ({ (U.calling g mk a).setFrames s₂.frames with heap := s₂.heap, slotsUsed := s₂.slotsUsed } : State).setVm s₂.vm := by
      have : s₂ = ({ s₂ with vm := (U.calling g mk a).vm } : State).setVm s₂.vm := rfl
      rw [e2] at this
      exact this
    have hf₂ : s₂.frames = .throwing q :: .java g :: U.frames.tail := hend
    have hW' : U.WarmedH s₂.vm := hW₂
    have hs₂ : s₂ = ((({ U with heap := s₂.heap, slotsUsed := s₂.slotsUsed } : State).setVm s₂.vm).setTop g).pushFrame (.throwing q) := by
      refine e3.trans ?_
      rw [hf₂, State.calling_eq h.top, State.setFrames_setFrames, State.pushFrame, State.frames_setTop _ hr', State.setTop_of_frames _ hr', State.setFrames_setFrames, hr]
      rfl
    have hsame : U.sameButNew ({ U with heap := s₂.heap, slotsUsed := s₂.slotsUsed } : State) L mc ms := by
      refine ⟨?_, q2, q3, q4, q5, q6⟩
      obtain ⟨t, ht, -⟩ := State.frames_cons hr
      show ({ U with heap := s₂.heap, slotsUsed := s₂.slotsUsed } : State) = { U.setFrames U.frames with heap := s₂.heap, slotsUsed := s₂.slotsUsed }
      rw [State.setFrames_self ht]
    subst hg
    refine Or.inr ⟨q, ⟨(({ U with heap := s₂.heap, slotsUsed := s₂.slotsUsed } : State).setVm s₂.vm), Ls ++ L, c0 + mc, s0 + ms⟩,
      ⟨X.admits, X.cas, X.clock, X.frames, X.room, X.hears, X.method, X.code, (X.here.setHeapUsed s₂.heap s₂.slotsUsed).setVm hW'.alike, X.tail, State.WarmedH.trans X.warmed hW', X.limits, X.bytes, X.same.trans (hsame.setVm s.vm)⟩,
      ⟨g, mk, s₂, L, E, ce, rfl, rfl, hx, hce, hcv, hcl, rfl, hL, rfl, rfl⟩, ?_⟩
    show Steps p.tables e below _ (((({ U with heap := s₂.heap, slotsUsed := s₂.slotsUsed } : State).setVm s₂.vm).setTop g).pushFrame (.throwing q))
    rw [← hs₂]
    exact hsteps
end Payer
section Calls
variable {p : Program} {l : Launch} {e : Env} {R : Room} {s : State} {m : MethodId} {args : Array Value} {below : List Frame} {meth : Method} {c : Code} {T : State} {locs : List Loc} {cells slots : Nat}
theorem vx_callV (X : Stand p l e R s m args below meth c T locs cells slots) (hexec : p.tables.exec = Jvm.exec) {own C : String} {index : Nat} {y : MethodName} {bytes : ByteArray} {maxL : Nat} {ret : Option FieldType}
    (hown : s.vm.findClass own = some m.cls) (hlink : (Cond.methodLink own index y).before args s = true) (hinst : (Cond.instanceMethod y).before args s = true) (hsel : (Cond.selects C y y).before args s = true)
    (hcode : (Cond.code y bytes maxL ret).before args s = true) (hy : y.cls ≠ "java/lang/invoke/MethodHandle" ∧ y.cls ≠ "java/lang/invoke/VarHandle")
    {W9 : Nat} {Pre : Pt → Array Value → Prop} {Post : Pt → Array Value → Option Value → Pt → Prop} {PostX : Pt → Array Value → Addr → Pt → Prop} (hK : vx_Back l R p e below s args y 3 W9 Pre Post PostX)
    {b : Addr} {cellB : Cell} (hcell : T.heap[b]? = some cellB) (hobj : cellB.vm.isStatics = false) (hcls : s.vm.findClass C = some cellB.cls)
    {g : JFrame} (hg : g.method = m) (hsize : g.locals.size = c.maxLocals) {argsL rest : List Value} (hlen : ∀ sig, parseMethodDescriptor y.desc = some sig → argsL.length = sig.parameters.length)
    (hstack : g.stack = argsL.reverse ++ .ref b :: rest) (hW : 2 * g.monitorRoom + (rest.map fun v => v.category).sum ≤ W9) (hdg : decode c.code g.pc = .ok (.invokevirtual index, 3))
    (hpre : ∀ vm₁, s.WarmedH vm₁ → Pre ⟨T.setVm vm₁, locs, cells, slots⟩ (Value.ref b :: argsL).toArray) :
    (∃ (v : Option Value) (vm₁ : Vm) (B : Pt), s.WarmedH vm₁ ∧ Stand p l e R s m args below meth c B.U B.locs B.cells B.slots ∧ Post ⟨T.setVm vm₁, locs, cells, slots⟩ (Value.ref b :: argsL).toArray v B ∧
      ∀ target, Steps p.tables e below (B.U.setTop { g with pc := g.pc + 3, stack := v.toList ++ rest }) target → Steps p.tables e below (T.setTop g) target) ∨
    (∃ (q : Addr) (vm₁ : Vm) (B : Pt), s.WarmedH vm₁ ∧ Stand p l e R s m args below meth c B.U B.locs B.cells B.slots ∧ PostX ⟨T.setVm vm₁, locs, cells, slots⟩ (Value.ref b :: argsL).toArray q B ∧
      Steps p.tables e below (T.setTop g) ((B.U.setTop { g with stack := rest }).pushFrame (.throwing q))) := by
  obtain ⟨mk, methM, hnamed, hmethM, hstM, habM⟩ := Cond.instanceMethod_spec hinst
  obtain ⟨methM', cM, hmethM', -, -, -, -, -, -, hsigM⟩ := Cond.code_spec hnamed hcode
  cases hmethM.symm.trans hmethM'
  obtain ⟨c2, r2, m2, q1, q2, q3, q4, kP, hkP, hkPi⟩ := Cond.selects_spec hsel
  cases hcls.symm.trans q1
  cases (State.methodFound?_of_named hnamed hy).symm.trans q2
  cases hnamed.symm.trans q3
  have hselP : selectMethod e.platform s.vm cellB.cls mk = .method mk := by rw [Launch.admits_selectMethod X.admits]; exact q4
  obtain ⟨vm₁, X₁, hstep₁⟩ := X.invokevirtual hexec hown hlink hnamed hmethM hstM hkP hkPi hy (a := b) (cell := cellB) hcell
    (fun z h => by rw [h] at hobj; cases hobj) hselP hmethM habM hkP hkPi (g := g) hg (argsL := argsL) (rest := rest) (hlen _ hsigM) hstack hdg
  rcases hK m meth c ⟨T.setVm vm₁, locs, cells, slots⟩ { g with stack := rest } (.invokevirtual index) mk (Value.ref b :: argsL).toArray X₁ hg hsize hdg hW (X₁.named hnamed) (hpre vm₁ X₁.warmed) with ⟨v, B, X', hpost, hsteps⟩ | ⟨q, B, X', hpost, hsteps⟩
  · exact Or.inl ⟨v, vm₁, B, X₁.warmed, X', hpost, fun target h => hstep₁ _ fun acts => by rw [doInvoke_state]; exact hsteps.trans h⟩
  · exact Or.inr ⟨q, vm₁, B, X₁.warmed, X', hpost, hstep₁ _ fun acts => by rw [doInvoke_state]; exact hsteps⟩
theorem vx_callS (X : Stand p l e R s m args below meth c T locs cells slots) (hexec : p.tables.exec = Jvm.exec) {own : String} {index : Nat} {y : MethodName} {bytes : ByteArray} {maxL : Nat} {ret : Option FieldType}
    (hown : s.vm.findClass own = some m.cls) (hlink : (Cond.methodLink own index y).before args s = true) (hstat : (Cond.static y).before args s = true) (hinit : (Cond.initialized y.cls).before args s = true)
    (hcode : (Cond.code y bytes maxL ret).before args s = true) (hy : y.cls ≠ "java/lang/invoke/MethodHandle" ∧ y.cls ≠ "java/lang/invoke/VarHandle")
    {W9 : Nat} {Pre : Pt → Array Value → Prop} {Post : Pt → Array Value → Option Value → Pt → Prop} {PostX : Pt → Array Value → Addr → Pt → Prop} (hK : vx_Back l R p e below s args y 3 W9 Pre Post PostX)
    {g : JFrame} (hg : g.method = m) (hsize : g.locals.size = c.maxLocals) {argsL rest : List Value} (hlen : ∀ sig, parseMethodDescriptor y.desc = some sig → argsL.length = sig.parameters.length)
    (hstack : g.stack = argsL.reverse ++ rest) (hW : 2 * g.monitorRoom + (rest.map fun v => v.category).sum ≤ W9) (hdg : decode c.code g.pc = .ok (.invokestatic index, 3))
    (hpre : ∀ vm₁, s.WarmedH vm₁ → Pre ⟨T.setVm vm₁, locs, cells, slots⟩ argsL.toArray) :
    (∃ (v : Option Value) (vm₁ : Vm) (B : Pt), s.WarmedH vm₁ ∧ Stand p l e R s m args below meth c B.U B.locs B.cells B.slots ∧ Post ⟨T.setVm vm₁, locs, cells, slots⟩ argsL.toArray v B ∧
      ∀ target, Steps p.tables e below (B.U.setTop { g with pc := g.pc + 3, stack := v.toList ++ rest }) target → Steps p.tables e below (T.setTop g) target) ∨
    (∃ (q : Addr) (vm₁ : Vm) (B : Pt), s.WarmedH vm₁ ∧ Stand p l e R s m args below meth c B.U B.locs B.cells B.slots ∧ PostX ⟨T.setVm vm₁, locs, cells, slots⟩ argsL.toArray q B ∧
      Steps p.tables e below (T.setTop g) ((B.U.setTop { g with stack := rest }).pushFrame (.throwing q))) := by
  obtain ⟨mk, hnamed⟩ := Cond.code_named hcode
  obtain ⟨methM, cM, hmethM, -, -, -, -, -, -, hsigM⟩ := Cond.code_spec hnamed hcode
  have hstatic : methM.isStatic = true := Cond.static_spec hnamed hmethM hstat
  obtain ⟨kP, hkP, -⟩ := className_of_methodNamed hnamed
  have hinitP : kP.init = .initialized := Cond.initialized_spec (findClass_of_methodNamed hnamed) hkP hinit
  obtain ⟨vm₁, X₁, hstep₁⟩ := X.invokestatic hexec hown hlink hnamed hmethM hstatic hkP hinitP hy (g := g) hg (argsL := argsL) (rest := rest) (hlen _ hsigM) hstack hdg
  rcases hK m meth c ⟨T.setVm vm₁, locs, cells, slots⟩ { g with stack := rest } (.invokestatic index) mk argsL.toArray X₁ hg hsize hdg hW (X₁.named hnamed) (hpre vm₁ X₁.warmed) with ⟨v, B, X', hpost, hsteps⟩ | ⟨q, B, X', hpost, hsteps⟩
  · exact Or.inl ⟨v, vm₁, B, X₁.warmed, X', hpost, fun target h => hstep₁ _ fun acts => by rw [doInvoke_state]; exact hsteps.trans h⟩
  · exact Or.inr ⟨q, vm₁, B, X₁.warmed, X', hpost, hstep₁ _ fun acts => by rw [doInvoke_state]; exact hsteps⟩
end Calls
theorem vx_cls {s : State} {T : State} {vm₁ : Vm} {E : String} {k : ClassId} (hW : s.WarmedH vm₁) (h : (T.setVm vm₁).vm.findClass E = some k) : s.vm.findClass E = some k := by
  have h1 : vm₁.findClass E = some k := h
  rw [hW.alike.findClass] at h1
  exact h1
/-- the method's frame g, with q thrown over it -/
def vx_W (p : Program) (l : Launch) (e : Env) (R : Room) (s : State) (m : MethodId) (args : Array Value) (below : List Frame) (meth : Method) (c : Code) (H : Heap) (locs : List Loc) (cells slots : Nat) (Q : State → Prop) (g : JFrame) (q : Addr) : Prop :=
  ∀ T : State, T.heap = H → Stand p l e R s m args below meth c T locs cells slots → ∃ t, Steps p.tables e below ((T.setTop g).pushFrame (.throwing q)) t ∧ Q t
def vx_Run (p : Program) (l : Launch) (e : Env) (R : Room) (s : State) (m : MethodId) (args : Array Value) (below : List Frame) (meth : Method) (c : Code) (H : Heap) (locs : List Loc) (cells slots mc ms : Nat) (g : JFrame) (rest : List Value) (Qa : State → Outcome → State → Prop) (XC : String → State → State → Prop) (free : Addr → Prop) : Prop :=
  ∀ T : State, T.heap = H → Stand p l e R s m args below meth c T locs cells slots →
    (∃ (v : Option Value) (st₀ t T' : State) (L : List Loc), st₀.heap = H ∧ Stand p l e R s m args below meth c T' (locs ++ L) (cells + mc) (slots + ms) ∧ (∀ q ∈ L, free q.base) ∧ T'.heap = t.heap ∧ T'.vm = t.vm ∧ Qa st₀ (.returned v) t ∧
      Goes p e below T g T' { g with pc := g.pc + 3, stack := v.toList ++ rest }) ∨
    (∃ (q : Addr) (st₀ t T' : State) (L : List Loc) (E : String) (ce : Cell), st₀.heap = H ∧ Stand p l e R s m args below meth c T' (locs ++ L) (cells + mc) (slots + ms) ∧ (∀ z ∈ L, free z.base) ∧ T'.heap = t.heap ∧ T'.vm = t.vm ∧ XC E st₀ t ∧ t.heap[q]? = some ce ∧ ce.vm = .none ∧ s.vm.findClass E = some ce.cls ∧
      Steps p.tables e below (T.setTop g) ((T'.setTop { g with stack := rest }).pushFrame (.throwing q)))
def vx_X {S : Type} (px : S → Prop) (B : String → S → State → Prop) (A : Nat → Prop) : String → State → State → Prop := fun E st t => ∃ u : S, px u ∧ B E u t ∧ va_F A st t
section Runs
variable {p : Program} {l : Launch} {e : Env} {R : Room} {s : State} {m : MethodId} {args : Array Value} {below : List Frame} {meth : Method} {c : Code} {H : Heap} {locs : List Loc} {cells slots : Nat}
variable {y : MethodName} {bytes cc : ByteArray} {maxL nL mc ms n index : Nat} {ret : Option FieldType} {ws : List Cond} {rm : Room} {Pc : Array Value → State → Prop} {Qc : Array Value → State → Outcome → State → Prop} {XC : String → State → State → Prop} {free : Addr → Prop} {Ts : List Cond} {own C : String} {b : Addr} {As rest : List Value} {g : JFrame}
theorem vx_callBack (cb : CallB R s args own index y bytes maxL ret ws rm mc ms n) (hM : vx_Met l y ws rm Pc Qc XC mc ms free) (hbl : FrameBlind Pc) : vx_Back l R p e below s args y 3 8 (PreOf R mc ms Pc) (PostOf Qc mc ms free) (vx_Post XC mc ms free) := by
  obtain ⟨hrc, hrs, hfr, hlo, hws, hcw, -, hini, -⟩ := cb
  exact vx_back (bytes := bytes) (maxL := maxL) (ret := ret) hM hbl hrc hrs hfr hlo hws hcw (fun a' U hW => word_at hW (Or.inl (by first | rfl | simp [Cond.onTables, Cond.keeps, Cond.steady])) hini)
theorem vx_runV (S : CallFix p m c cc nL s args Ts own) (hM : vx_Met l y ws rm Pc Qc XC mc ms free) (cw : CallW R s args own C index y bytes maxL ret ws rm mc ms n) (hp : PreV s H C b Pc As)
    (hg : g.method = m) (hn : As.length = n) (hsize : g.locals.size = nL) (hstack : g.stack = As.reverse ++ .ref b :: rest) (hW : 2 * g.monitorRoom + (rest.map fun v => v.category).sum ≤ 8) (hdg : decode cc g.pc = .ok (.invokevirtual index, 3)) (hf : cells + mc ≤ R.cells ∧ slots + ms ≤ R.slots) :
    vx_Run p l e R s m args below meth c H locs cells slots mc ms g rest (Qc (Value.ref b :: As).toArray) XC free := by
  have hK : vx_Back l R p e below s args y 3 8 (PreOf R mc ms Pc) (PostOf Qc mc ms free) (vx_Post XC mc ms free) := vx_callBack cw.1 hM hp.1
  obtain ⟨⟨-, -, -, -, -, -, hcode, -, hy, hlen, hl⟩, hin, hse⟩ := cw
  obtain ⟨hx, hb, hml, ho, -⟩ := S
  obtain ⟨-, ⟨cellB, hcB, hoB, hclB⟩, hPc⟩ := hp
  intro T hT X
  rcases vx_callV X hx (C := C) (bytes := bytes) (maxL := maxL) (ret := ret) ho hl hin hse hcode hy hK (by rw [hT]; exact hcB) hoB hclB hg (hsize.trans hml.symm) (argsL := As) (rest := rest) (fun sig h => hn.trans (hlen sig h)) hstack hW (by rw [hb]; exact hdg)
    (fun vm₁ hW₁ => ⟨hf.1, hf.2, hPc (T.setVm vm₁) hT hW₁⟩) with ⟨v, vm₁, ⟨U', l2, c2, s2⟩, hW₁, X', ⟨g', mk, t, L, e1, e2, hq, h1, hL, h2, h3⟩, st⟩ | ⟨q, vm₁, ⟨U', l2, c2, s2⟩, hW₁, X', ⟨g', mk, t, L, E, ce, e1, e2, hq, hce, hcv, hcl, h1, hL, h2, h3⟩, st⟩
  · dsimp only [Pt.U, Pt.locs, Pt.cells, Pt.slots] at X' e1 e2 h1 h2 h3 st
    subst h1; subst h2; subst h3
    exact Or.inl ⟨v, (T.setVm vm₁).calling g' mk (Value.ref b :: As).toArray, t, U', L, hT, X', hL, e1, e2, hq, st⟩
  · dsimp only [Pt.U, Pt.locs, Pt.cells, Pt.slots] at X' e1 e2 h1 h2 h3 st hcl
    subst h1; subst h2; subst h3
    exact Or.inr ⟨q, (T.setVm vm₁).calling g' mk (Value.ref b :: As).toArray, t, U', L, E, ce, hT, X', hL, e1, e2, hq, hce, hcv, vx_cls hW₁ hcl, st⟩
theorem vx_runS (S : CallFix p m c cc nL s args Ts own) (hM : vx_Met l y ws rm Pc Qc XC mc ms free) (cw : CallB R s args own index y bytes maxL ret ws rm mc ms n ∧ (Cond.static y).before args s = true) (hp : PreS s H Pc As)
    (hg : g.method = m) (hn : As.length = n) (hsize : g.locals.size = nL) (hstack : g.stack = As.reverse ++ rest) (hW : 2 * g.monitorRoom + (rest.map fun v => v.category).sum ≤ 8) (hdg : decode cc g.pc = .ok (.invokestatic index, 3)) (hf : cells + mc ≤ R.cells ∧ slots + ms ≤ R.slots) :
    vx_Run p l e R s m args below meth c H locs cells slots mc ms g rest (Qc As.toArray) XC free := by
  have hK : vx_Back l R p e below s args y 3 8 (PreOf R mc ms Pc) (PostOf Qc mc ms free) (vx_Post XC mc ms free) := vx_callBack cw.1 hM hp.1
  obtain ⟨⟨-, -, -, -, -, -, hcode, hini, hy, hlen, hl⟩, hstt⟩ := cw
  obtain ⟨hx, hb, hml, ho, -⟩ := S
  intro T hT X
  rcases vx_callS X hx (bytes := bytes) (maxL := maxL) (ret := ret) ho hl hstt hini hcode hy hK hg (hsize.trans hml.symm) (argsL := As) (rest := rest) (fun sig h => hn.trans (hlen sig h)) hstack hW (by rw [hb]; exact hdg)
    (fun vm₁ hW₁ => ⟨hf.1, hf.2, hp.2 (T.setVm vm₁) hT hW₁⟩) with ⟨v, vm₁, ⟨U', l2, c2, s2⟩, hW₁, X', ⟨g', mk, t, L, e1, e2, hq, h1, hL, h2, h3⟩, st⟩ | ⟨q, vm₁, ⟨U', l2, c2, s2⟩, hW₁, X', ⟨g', mk, t, L, E, ce, e1, e2, hq, hce, hcv, hcl, h1, hL, h2, h3⟩, st⟩
  · dsimp only [Pt.U, Pt.locs, Pt.cells, Pt.slots] at X' e1 e2 h1 h2 h3 st
    subst h1; subst h2; subst h3
    exact Or.inl ⟨v, (T.setVm vm₁).calling g' mk As.toArray, t, U', L, hT, X', hL, e1, e2, hq, st⟩
  · dsimp only [Pt.U, Pt.locs, Pt.cells, Pt.slots] at X' e1 e2 h1 h2 h3 st hcl
    subst h1; subst h2; subst h3
    exact Or.inr ⟨q, (T.setVm vm₁).calling g' mk As.toArray, t, U', L, E, ce, hT, X', hL, e1, e2, hq, hce, hcv, vx_cls hW₁ hcl, st⟩
end Runs
section Rows
variable {p : Program} {l : Launch} {e : Env} {R : Room} {s : State} {m : MethodId} {args : Array Value} {below : List Frame} {meth : Method} {c : Code} {H : Heap} {locs : List Loc} {cells slots : Nat} {Q : State → Prop}
variable {mc ms : Nat} {free : Addr → Prop} {A0 A1 : Nat → Prop} {H0 : Heap} {a : Array Value} {pc : Nat} {ls : Array Slot} {st0 rest : List Value}
theorem vx_keep {st₀ t T' : State} {L : List Loc} (h0 : st₀.heap = H) (e1 : T'.heap = t.heap) (hS : va_S A0 H0 H locs) (hA : ∀ q, q < H.size → A1 q → A0 q) (hf : ∀ q, free q → A0 q) (hL : ∀ q ∈ L, free q.base) (hF : va_F A1 st₀ t) :
    H.size ≤ T'.heap.size ∧ (∀ q : Nat, q < H.size → ¬ A1 q → T'.heap[q]? = H[q]?) ∧ va_S A0 H0 T'.heap (locs ++ L) := by
  obtain ⟨hz, hk⟩ := hF
  rw [h0] at hz hk
  exact ⟨by rw [e1]; exact hz, fun q h1 h2 => by rw [e1]; exact hk q h1 h2,
    ⟨Nat.le_trans hS.1 (by rw [e1]; exact hz), fun q h1 h2 => by rw [e1, hk q (Nat.lt_of_lt_of_le h1 hS.1) (fun z => h2 (hA q (Nat.lt_of_lt_of_le h1 hS.1) z))]; exact hS.2.1 q h1 h2, fun q hq => by
      rcases List.mem_append.mp hq with h | h
      · exact hS.2.2 q h
      · exact hf _ (hL q h)⟩⟩
theorem vx_calli {S SX : Type} {post : Int32 → S → Prop} {px : SX → Prop} {B : S → State → Prop} {BX : String → SX → State → Prop} {AX : Nat → Prop} (hr : vx_Run p l e R s m args below meth c H locs cells slots mc ms (F0 m pc ls st0) rest (va_Qi post B A1 a) (vx_X px BX AX) free) (hS : va_S A0 H0 H locs) (hA : ∀ q, q < H.size → A1 q → A0 q) (hf : ∀ q, free q → A0 q) (hAX : ∀ q, q < H.size → AX q → A0 q)
    (kx : ∀ (E : String) (ce : Cell) (q9 : Addr) (u : SX) (t : State) (H1 : Heap) (locs1 : List Loc), t.heap = H1 → s.vm.Alike t.vm → px u → BX E u t → H.size ≤ H1.size → (∀ q : Nat, q < H.size → ¬ AX q → H1[q]? = H[q]?) → va_S A0 H0 H1 locs1 → H1[q9]? = some ce → ce.vm = .none → s.vm.findClass E = some ce.cls → vx_W p l e R s m args below meth c H1 locs1 (cells + mc) (slots + ms) Q (F0 m pc ls rest) q9)
    (kk : ∀ (r : Int32) (u : S) (t : State) (H1 : Heap) (locs1 : List Loc), t.heap = H1 → s.vm.Alike t.vm → post r u → B u t → H.size ≤ H1.size → (∀ q : Nat, q < H.size → ¬ A1 q → H1[q]? = H[q]?) → va_S A0 H0 H1 locs1 → W p l e R s m args below meth c H1 locs1 (cells + mc) (slots + ms) Q (F0 m (pc + 3) ls (.int r :: rest))) : W p l e R s m args below meth c H locs cells slots Q (F0 m pc ls st0) := by
  intro T hT X
  rcases hr T hT X with ⟨v, st₀, t, T', L, h0, X', hL, e1, e2, ⟨⟨r, u, hv, hp, hb⟩, hF⟩, st⟩ | ⟨q, st₀, t, T', L, E, ce, h0, X', hL, e1, e2, ⟨u, hp, hb, hF⟩, hce, hcv, hcl, st⟩
  · cases hv
    obtain ⟨k1, k2, k3⟩ := vx_keep h0 e1 hS hA hf hL hF
    obtain ⟨t2, a1, b1⟩ := kk r u t T'.heap (locs ++ L) e1.symm (by rw [← e2]; exact X'.warmed.alike) hp hb k1 k2 k3 T' rfl X'
    exact ⟨t2, st t2 a1, b1⟩
  · obtain ⟨k1, k2, k3⟩ := vx_keep h0 e1 hS hAX hf hL hF
    obtain ⟨t2, a1, b1⟩ := kx E ce q u t T'.heap (locs ++ L) e1.symm (by rw [← e2]; exact X'.warmed.alike) hp hb k1 k2 k3 (by rw [e1]; exact hce) hcv hcl T' rfl X'
    exact ⟨t2, st.trans a1, b1⟩
theorem vx_calll {S SX : Type} {post : Int64 → S → Prop} {px : SX → Prop} {B : S → State → Prop} {BX : String → SX → State → Prop} {AX : Nat → Prop} (hr : vx_Run p l e R s m args below meth c H locs cells slots mc ms (F0 m pc ls st0) rest (va_Ql post B A1 a) (vx_X px BX AX) free) (hS : va_S A0 H0 H locs) (hA : ∀ q, q < H.size → A1 q → A0 q) (hf : ∀ q, free q → A0 q) (hAX : ∀ q, q < H.size → AX q → A0 q)
    (kx : ∀ (E : String) (ce : Cell) (q9 : Addr) (u : SX) (t : State) (H1 : Heap) (locs1 : List Loc), t.heap = H1 → s.vm.Alike t.vm → px u → BX E u t → H.size ≤ H1.size → (∀ q : Nat, q < H.size → ¬ AX q → H1[q]? = H[q]?) → va_S A0 H0 H1 locs1 → H1[q9]? = some ce → ce.vm = .none → s.vm.findClass E = some ce.cls → vx_W p l e R s m args below meth c H1 locs1 (cells + mc) (slots + ms) Q (F0 m pc ls rest) q9)
    (kk : ∀ (r : Int64) (u : S) (t : State) (H1 : Heap) (locs1 : List Loc), t.heap = H1 → s.vm.Alike t.vm → post r u → B u t → H.size ≤ H1.size → (∀ q : Nat, q < H.size → ¬ A1 q → H1[q]? = H[q]?) → va_S A0 H0 H1 locs1 → W p l e R s m args below meth c H1 locs1 (cells + mc) (slots + ms) Q (F0 m (pc + 3) ls (.long r :: rest))) : W p l e R s m args below meth c H locs cells slots Q (F0 m pc ls st0) := by
  intro T hT X
  rcases hr T hT X with ⟨v, st₀, t, T', L, h0, X', hL, e1, e2, ⟨⟨r, u, hv, hp, hb⟩, hF⟩, st⟩ | ⟨q, st₀, t, T', L, E, ce, h0, X', hL, e1, e2, ⟨u, hp, hb, hF⟩, hce, hcv, hcl, st⟩
  · cases hv
    obtain ⟨k1, k2, k3⟩ := vx_keep h0 e1 hS hA hf hL hF
    obtain ⟨t2, a1, b1⟩ := kk r u t T'.heap (locs ++ L) e1.symm (by rw [← e2]; exact X'.warmed.alike) hp hb k1 k2 k3 T' rfl X'
    exact ⟨t2, st t2 a1, b1⟩
  · obtain ⟨k1, k2, k3⟩ := vx_keep h0 e1 hS hAX hf hL hF
    obtain ⟨t2, a1, b1⟩ := kx E ce q u t T'.heap (locs ++ L) e1.symm (by rw [← e2]; exact X'.warmed.alike) hp hb k1 k2 k3 (by rw [e1]; exact hce) hcv hcl T' rfl X'
    exact ⟨t2, st.trans a1, b1⟩
theorem vx_callf {S SX : Type} {post : UInt32 → S → Prop} {px : SX → Prop} {B : S → State → Prop} {BX : String → SX → State → Prop} {AX : Nat → Prop} (hr : vx_Run p l e R s m args below meth c H locs cells slots mc ms (F0 m pc ls st0) rest (va_Qf post B A1 a) (vx_X px BX AX) free) (hS : va_S A0 H0 H locs) (hA : ∀ q, q < H.size → A1 q → A0 q) (hf : ∀ q, free q → A0 q) (hAX : ∀ q, q < H.size → AX q → A0 q)
    (kx : ∀ (E : String) (ce : Cell) (q9 : Addr) (u : SX) (t : State) (H1 : Heap) (locs1 : List Loc), t.heap = H1 → s.vm.Alike t.vm → px u → BX E u t → H.size ≤ H1.size → (∀ q : Nat, q < H.size → ¬ AX q → H1[q]? = H[q]?) → va_S A0 H0 H1 locs1 → H1[q9]? = some ce → ce.vm = .none → s.vm.findClass E = some ce.cls → vx_W p l e R s m args below meth c H1 locs1 (cells + mc) (slots + ms) Q (F0 m pc ls rest) q9)
    (kk : ∀ (r : UInt32) (u : S) (t : State) (H1 : Heap) (locs1 : List Loc), t.heap = H1 → s.vm.Alike t.vm → post r u → B u t → H.size ≤ H1.size → (∀ q : Nat, q < H.size → ¬ A1 q → H1[q]? = H[q]?) → va_S A0 H0 H1 locs1 → W p l e R s m args below meth c H1 locs1 (cells + mc) (slots + ms) Q (F0 m (pc + 3) ls (.float r :: rest))) : W p l e R s m args below meth c H locs cells slots Q (F0 m pc ls st0) := by
  intro T hT X
  rcases hr T hT X with ⟨v, st₀, t, T', L, h0, X', hL, e1, e2, ⟨⟨r, u, hv, hp, hb⟩, hF⟩, st⟩ | ⟨q, st₀, t, T', L, E, ce, h0, X', hL, e1, e2, ⟨u, hp, hb, hF⟩, hce, hcv, hcl, st⟩
  · cases hv
    obtain ⟨k1, k2, k3⟩ := vx_keep h0 e1 hS hA hf hL hF
    obtain ⟨t2, a1, b1⟩ := kk r u t T'.heap (locs ++ L) e1.symm (by rw [← e2]; exact X'.warmed.alike) hp hb k1 k2 k3 T' rfl X'
    exact ⟨t2, st t2 a1, b1⟩
  · obtain ⟨k1, k2, k3⟩ := vx_keep h0 e1 hS hAX hf hL hF
    obtain ⟨t2, a1, b1⟩ := kx E ce q u t T'.heap (locs ++ L) e1.symm (by rw [← e2]; exact X'.warmed.alike) hp hb k1 k2 k3 (by rw [e1]; exact hce) hcv hcl T' rfl X'
    exact ⟨t2, st.trans a1, b1⟩
theorem vx_calld {S SX : Type} {post : UInt64 → S → Prop} {px : SX → Prop} {B : S → State → Prop} {BX : String → SX → State → Prop} {AX : Nat → Prop} (hr : vx_Run p l e R s m args below meth c H locs cells slots mc ms (F0 m pc ls st0) rest (va_Qd post B A1 a) (vx_X px BX AX) free) (hS : va_S A0 H0 H locs) (hA : ∀ q, q < H.size → A1 q → A0 q) (hf : ∀ q, free q → A0 q) (hAX : ∀ q, q < H.size → AX q → A0 q)
    (kx : ∀ (E : String) (ce : Cell) (q9 : Addr) (u : SX) (t : State) (H1 : Heap) (locs1 : List Loc), t.heap = H1 → s.vm.Alike t.vm → px u → BX E u t → H.size ≤ H1.size → (∀ q : Nat, q < H.size → ¬ AX q → H1[q]? = H[q]?) → va_S A0 H0 H1 locs1 → H1[q9]? = some ce → ce.vm = .none → s.vm.findClass E = some ce.cls → vx_W p l e R s m args below meth c H1 locs1 (cells + mc) (slots + ms) Q (F0 m pc ls rest) q9)
    (kk : ∀ (r : UInt64) (u : S) (t : State) (H1 : Heap) (locs1 : List Loc), t.heap = H1 → s.vm.Alike t.vm → post r u → B u t → H.size ≤ H1.size → (∀ q : Nat, q < H.size → ¬ A1 q → H1[q]? = H[q]?) → va_S A0 H0 H1 locs1 → W p l e R s m args below meth c H1 locs1 (cells + mc) (slots + ms) Q (F0 m (pc + 3) ls (.double r :: rest))) : W p l e R s m args below meth c H locs cells slots Q (F0 m pc ls st0) := by
  intro T hT X
  rcases hr T hT X with ⟨v, st₀, t, T', L, h0, X', hL, e1, e2, ⟨⟨r, u, hv, hp, hb⟩, hF⟩, st⟩ | ⟨q, st₀, t, T', L, E, ce, h0, X', hL, e1, e2, ⟨u, hp, hb, hF⟩, hce, hcv, hcl, st⟩
  · cases hv
    obtain ⟨k1, k2, k3⟩ := vx_keep h0 e1 hS hA hf hL hF
    obtain ⟨t2, a1, b1⟩ := kk r u t T'.heap (locs ++ L) e1.symm (by rw [← e2]; exact X'.warmed.alike) hp hb k1 k2 k3 T' rfl X'
    exact ⟨t2, st t2 a1, b1⟩
  · obtain ⟨k1, k2, k3⟩ := vx_keep h0 e1 hS hAX hf hL hF
    obtain ⟨t2, a1, b1⟩ := kx E ce q u t T'.heap (locs ++ L) e1.symm (by rw [← e2]; exact X'.warmed.alike) hp hb k1 k2 k3 (by rw [e1]; exact hce) hcv hcl T' rfl X'
    exact ⟨t2, st.trans a1, b1⟩
theorem vx_callv {S SX : Type} {post : S → Prop} {px : SX → Prop} {B : S → State → Prop} {BX : String → SX → State → Prop} {AX : Nat → Prop} (hr : vx_Run p l e R s m args below meth c H locs cells slots mc ms (F0 m pc ls st0) rest (va_Qv post B A1 a) (vx_X px BX AX) free) (hS : va_S A0 H0 H locs) (hA : ∀ q, q < H.size → A1 q → A0 q) (hf : ∀ q, free q → A0 q) (hAX : ∀ q, q < H.size → AX q → A0 q)
    (kx : ∀ (E : String) (ce : Cell) (q9 : Addr) (u : SX) (t : State) (H1 : Heap) (locs1 : List Loc), t.heap = H1 → s.vm.Alike t.vm → px u → BX E u t → H.size ≤ H1.size → (∀ q : Nat, q < H.size → ¬ AX q → H1[q]? = H[q]?) → va_S A0 H0 H1 locs1 → H1[q9]? = some ce → ce.vm = .none → s.vm.findClass E = some ce.cls → vx_W p l e R s m args below meth c H1 locs1 (cells + mc) (slots + ms) Q (F0 m pc ls rest) q9)
    (kk : ∀ (u : S) (t : State) (H1 : Heap) (locs1 : List Loc), t.heap = H1 → s.vm.Alike t.vm → post u → B u t → H.size ≤ H1.size → (∀ q : Nat, q < H.size → ¬ A1 q → H1[q]? = H[q]?) → va_S A0 H0 H1 locs1 → W p l e R s m args below meth c H1 locs1 (cells + mc) (slots + ms) Q (F0 m (pc + 3) ls (rest))) : W p l e R s m args below meth c H locs cells slots Q (F0 m pc ls st0) := by
  intro T hT X
  rcases hr T hT X with ⟨v, st₀, t, T', L, h0, X', hL, e1, e2, ⟨⟨u, hv, hp, hb⟩, hF⟩, st⟩ | ⟨q, st₀, t, T', L, E, ce, h0, X', hL, e1, e2, ⟨u, hp, hb, hF⟩, hce, hcv, hcl, st⟩
  · cases hv
    obtain ⟨k1, k2, k3⟩ := vx_keep h0 e1 hS hA hf hL hF
    obtain ⟨t2, a1, b1⟩ := kk u t T'.heap (locs ++ L) e1.symm (by rw [← e2]; exact X'.warmed.alike) hp hb k1 k2 k3 T' rfl X'
    exact ⟨t2, st t2 a1, b1⟩
  · obtain ⟨k1, k2, k3⟩ := vx_keep h0 e1 hS hAX hf hL hF
    obtain ⟨t2, a1, b1⟩ := kx E ce q u t T'.heap (locs ++ L) e1.symm (by rw [← e2]; exact X'.warmed.alike) hp hb k1 k2 k3 (by rw [e1]; exact hce) hcv hcl T' rfl X'
    exact ⟨t2, st.trans a1, b1⟩
/-- caught by the row x of this method's table; the rows ahead don't take it -/
theorem vx_catch {own name : String} {E : String} {ce : Cell} {q : Addr} (hown : s.vm.findClass own = some m.cls) (pre : List ExceptionTableEntry) (x : ExceptionTableEntry) (suf : List ExceptionTableEntry) (hsplit : c.exceptionTable.toList = pre ++ x :: suf)
    (hpass : ∀ z ∈ pre, covers z pc = false ∨ (z.catchType ≠ 0 ∧ ∃ nm : String, (Cond.classLink own z.catchType nm).before args s = true ∧ va_Nc E nm s)) (hx : covers x pc = true) (h0 : x.catchType ≠ 0)
    (hlink : (Cond.classLink own x.catchType name).before args s = true) (hcast : (Cond.castable E name).before args s = true) (hcell : H[q]? = some ce) (hv : ce.vm = .none) (hcl : s.vm.findClass E = some ce.cls)
    (kk : W p l e R s m args below meth c H locs cells slots Q (F0 m x.handlerPc ls [.ref q])) : vx_W p l e R s m args below meth c H locs cells slots Q (F0 m pc ls rest) q := by
  intro T hT X
  have hpl : e.platform.magicAccessors = ({} : Platform).magicAccessors := by rw [X.admits.platform]
  obtain ⟨c3, c4, hc3, hc4, hasg⟩ := Cond.castable_spec hcast
  cases Option.some.inj (hc3.symm.trans hcl)
  obtain ⟨c5, hc5, hcl5⟩ := Cond.classLink_spec hown hlink e.platform hpl
  cases Option.some.inj (hc4.symm.trans hc5)
  obtain ⟨vm', X', st⟩ := X.thenCaughtThrough q (g := F0 m pc ls rest) rfl (Steps.refl _) (by rw [hT]; exact hcell) (by rw [hv]; rfl) (by obtain ⟨k9, h9, -⟩ := Vm.findClass_spec hcl; exact ⟨k9, h9⟩) pre x suf hsplit
    (fun z hz => by
      rcases hpass z hz with h | ⟨hz0, nm, hl1, hn1⟩
      · exact Or.inl h
      · obtain ⟨c6, hc6, hcl6⟩ := Cond.classLink_spec hown hl1 e.platform hpl
        obtain ⟨a8, b8, h1, h2, h3⟩ := hn1
        cases Option.some.inj (h1.symm.trans hcl)
        cases Option.some.inj (h2.symm.trans hc6)
        exact Or.inr ⟨hz0, _, hcl6, h3⟩) hx (Or.inr ⟨h0, c4, hcl5, hasg⟩)
  obtain ⟨t, a1, b1⟩ := kk (T.setVm vm') hT X'
  exact ⟨t, st.trans a1, b1⟩
end Rows
section Ends
variable {p : Program} {l : Launch} {e : Env} {R : Room} {s : State} {m : MethodId} {args : Array Value} {below : List Frame} {meth : Method} {c : Code} {H : Heap} {locs : List Loc} {cells slots : Nat} {Q : State → Prop}
variable {mc ms : Nat} {free : Addr → Prop} {A0 A1 : Nat → Prop} {H0 : Heap} {a : Array Value} {ls : Array Slot} {st0 rest : List Value}
variable {Qc : Array Value → State → Outcome → State → Prop} {XC : String → State → State → Prop}
/-- what a body that may throw owes at its end -/
def vx_MQ (below : List Frame) (Qc : Array Value → State → Outcome → State → Prop) (XC : String → State → State → Prop) (a : Array Value) (s : State) (mc ms : Nat) (free : Addr → Prop) : State → Prop := fun t =>
  ∃ o, t.status = .running ∧ Ended t below o ∧ vx_Q Qc XC mc ms free a s o t
theorem vx_ret {g : JFrame} {mc ms : Nat} (k : W p l e R s m args below meth c H locs cells slots (MQ below Qc args s mc ms free) g) : W p l e R s m args below meth c H locs cells slots (vx_MQ below Qc XC args s mc ms free) g := by
  intro T hT X
  obtain ⟨t, a1, o, b1, b2, b3, b4⟩ := k T hT X
  exact ⟨t, a1, o, b1, b2, Or.inl ⟨b3, b4⟩⟩
/-- not caught here: it goes on to the caller -/
theorem vx_widen {g : JFrame} {q : Addr} {k n : Nat} (h1 : cells ≤ k) (h2 : slots ≤ n) (kk : vx_W p l e R s m args below meth c H locs k n Q g q) : vx_W p l e R s m args below meth c H locs cells slots Q g q := fun T hT X => kk T hT (stand_widen X h1 h2)
theorem vx_out {pc : Nat} {E : String} {ce : Cell} {q : Addr} {mc ms : Nat} (hout : ∀ x ∈ c.exceptionTable.toList, covers x pc = false) (hlocks : meth.locks = false) (hcell : H[q]? = some ce) (hv : ce.vm = .none) (hcl : s.vm.findClass E = some ce.cls)
    (hx : ∀ t : State, t.heap = H → s.vm.Alike t.vm → XC E s t) (hf : ∀ z ∈ locs, free z.base) (hc : cells ≤ mc) (hs : slots ≤ ms) :
    vx_W p l e R s m args below meth c H locs cells slots (vx_MQ below Qc XC args s mc ms free) (F0 m pc ls rest) q := by
  intro T hT X
  obtain ⟨st1, hrun, hend, hW, hsm⟩ := X.leaveThrown q (g := F0 m pc ls rest) rfl rfl rfl hout hlocks
  have hcell9 : (T.setFrames (.throwing q :: below)).heap[q]? = some ce := by
    show T.heap[q]? = some ce
    rw [hT]; exact hcell
  exact ⟨_, st1, .threw q, hrun, hend, Or.inr ⟨q, rfl, E, ce, locs, hx _ hT hW.alike, hcell9, hv, hcl, hW, hsm.mono hc hs, hf⟩⟩
theorem vx_frame {U : State} {k n : Nat} (h : s.sameButNew ({ U with vm := s.vm } : State) locs k n) : s.heap.size ≤ U.heap.size ∧ ∀ q : Nat, q < s.heap.size → (∀ z ∈ locs, z.base ≠ q) → U.heap[q]? = s.heap[q]? := by
  obtain ⟨-, h2, -, -, -, h6⟩ := h
  refine ⟨h2, fun q hq hz => ?_⟩
  obtain ⟨c9, e1, e2, e3, e4⟩ := h6 q _ (Array.getElem?_eq_getElem hq)
  have hs : c9.slots = (s.heap[q]).slots := Array.ext_getElem? fun i => e4 i fun hm => hz _ hm rfl
  have h9 : c9 = s.heap[q] := by
    rw [hs] at e2
    exact e2
  have e5 : U.heap[q]? = some c9 := e1
  rw [e5, h9, Array.getElem?_eq_getElem hq]
/-- the words of a throw but the four that speak of the heap -/
def vx_no (w : Cond) : Bool := decide (w ≠ .isRef (.static Bundle.tN "UNASSIGNED_STACK" Bundle.steD)) && decide (w ≠ .isRef (.static Bundle.tN "SUPPRESSED_SENTINEL" Bundle.listD)) && decide (w ≠ .laysStatic Bundle.tN "UNASSIGNED_STACK" Bundle.steD) && decide (w ≠ .laysStatic Bundle.tN "SUPPRESSED_SENTINEL" Bundle.listD)
def vx_at0 (own : String) (ic : Nat) (X : String) (names : List String) : List Cond := (Bundle.ownAtoms0 own ic X names).filter vx_no
def vx_atS (own : String) (ic : Nat) (X : String) (names : List String) : List Cond := (Bundle.ownAtoms own ic X names).filter vx_no
/-- a word that the tables alone decide, or a good one -/
def vx_ot (w : Cond) : Bool := w.onTables || goodWord w
theorem vx_ot_at {args a' : Array Value} {s U : State} {w : Cond} (hW : s.WarmedH U.vm) (hvm : s.vm = U.vm) (hg : vx_ot w = true) (h : w.before args s = true) : w.before a' U = true := by
  simp only [vx_ot, Bool.or_eq_true] at hg
  rcases hg with hg | hg
  · exact va_tabs hg hvm h
  · exact word_at hW (good_of_word hg) h
/-- a list's words: the good ones out of the method's own list, the others by premises of their own -/
theorem vx_hat {args : Array Value} {s : State} {L B : List Cond} (h1 : ∀ w ∈ L.filter goodWord, w.before args s = true) (h2 : ∀ w ∈ L.filter (fun w => !goodWord w), w ∈ B) (h3 : ∀ w ∈ B, w.before args s = true) : ∀ w ∈ L, w.before args s = true := by
  intro w hw
  by_cases g : goodWord w = true
  · exact h1 w (List.mem_filter.mpr ⟨hw, g⟩)
  · refine h3 w (h2 w (List.mem_filter.mpr ⟨hw, ?_⟩))
    show (!goodWord w) = true
    cases hgw : goodWord w
    · rfl
    · exact absurd hgw g
theorem vx_c {args : Array Value} {s : State} {w : Cond} {B : List Cond} (h : w.before args s = true) (t : ∀ w ∈ B, w.before args s = true) : ∀ w' ∈ w :: B, w'.before args s = true := fun w' h' => (List.mem_cons.mp h').elim (fun e => by rw [e]; exact h) (t w')
theorem vx_n {args : Array Value} {s : State} : ∀ w ∈ ([] : List Cond), w.before args s = true := fun _ h => nomatch h
theorem vx_own {args : Array Value} {s : State} {L : List Cond} (h1 : ∀ w ∈ L.filter vx_no, w.before args s = true)
    (hU : (Cond.isRef (.static Bundle.tN "UNASSIGNED_STACK" Bundle.steD)).before args s = true) (hN : (Cond.isRef (.static Bundle.tN "SUPPRESSED_SENTINEL" Bundle.listD)).before args s = true)
    (lU : (Cond.laysStatic Bundle.tN "UNASSIGNED_STACK" Bundle.steD).before args s = true) (lN : (Cond.laysStatic Bundle.tN "SUPPRESSED_SENTINEL" Bundle.listD).before args s = true) : ∀ w ∈ L, w.before args s = true := by
  intro w hw
  by_cases e1 : w = .isRef (.static Bundle.tN "UNASSIGNED_STACK" Bundle.steD)
  · rw [e1]; exact hU
  · by_cases e2 : w = .isRef (.static Bundle.tN "SUPPRESSED_SENTINEL" Bundle.listD)
    · rw [e2]; exact hN
    · by_cases e3 : w = .laysStatic Bundle.tN "UNASSIGNED_STACK" Bundle.steD
      · rw [e3]; exact lU
      · by_cases e4 : w = .laysStatic Bundle.tN "SUPPRESSED_SENTINEL" Bundle.listD
        · rw [e4]; exact lN
        · exact h1 w (List.mem_filter.mpr ⟨hw, by unfold vx_no; rw [decide_eq_true e1, decide_eq_true e2, decide_eq_true e3, decide_eq_true e4]; rfl⟩)
/-- where a static field lies, its class's statics cell in H -/
def vx_L (C n d : String) (A : Nat → Prop) (U : State) (H : Heap) : Prop := ∃ (c : ClassId) (k : Class) (i : Nat) (f : Field) (a : Nat) (cell : Cell), U.vm.findClass C = some c ∧ U.fieldFound? C n d = some (c, k, i, f) ∧ f.isStatic = true ∧ k.statics = some a ∧ H[a]? = some cell ∧ cell.vm.isStatics = true ∧ cell.cls = c ∧ f.slot < cell.slots.size ∧ k.staticTypes[f.slot]? = some f.type ∧ ¬ A a
theorem vx_L.moved {C n d : String} {A : Nat → Prop} {u U : State} {H : Heap} (hvm : u.vm.Alike U.vm) (h : vx_L C n d A u H) : vx_L C n d A U H := by
  obtain ⟨c, k, i, f, a, cell, h1, h2, h3, h4, h5, h6, h7, h8, h9, h10⟩ := h
  obtain ⟨k', hi', he⟩ := State.fieldFound?_setVm hvm h2
  exact ⟨c, k', i, f, a, cell, by rw [hvm.findClass]; exact h1, hi', h3, by rw [he]; exact h4, h5, h6, h7, h8, by rw [he]; exact h9, h10⟩
theorem vx_L.kept {C n d : String} {A : Nat → Prop} {U : State} {H H1 : Heap} (h : vx_L C n d A U H) (hq : ∀ a : Nat, a < H.size → ¬ A a → H1[a]? = H[a]?) : vx_L C n d A U H1 := by
  obtain ⟨c, k, i, f, a, cell, h1, h2, h3, h4, h5, h6, h7, h8, h9, h10⟩ := h
  exact ⟨c, k, i, f, a, cell, h1, h2, h3, h4, by rw [hq a (Array.getElem?_eq_some_iff.mp h5).1 h10]; exact h5, h6, h7, h8, h9, h10⟩
theorem vx_L.narrow {C n d : String} {A B : Nat → Prop} {U : State} {H : Heap} (h : vx_L C n d A U H) (hAB : ∀ q, B q → A q) : vx_L C n d B U H := by
  obtain ⟨c, k, i, f, a, cell, h1, h2, h3, h4, h5, h6, h7, h8, h9, h10⟩ := h
  exact ⟨c, k, i, f, a, cell, h1, h2, h3, h4, h5, h6, h7, h8, h9, fun z => h10 (hAB _ z)⟩
theorem vx_L.word {C n d : String} {A : Nat → Prop} {s : State} {args : Array Value} (h : vx_L C n d A s s.heap) : (Cond.laysStatic C n d).before args s = true := by
  obtain ⟨c, k, i, f, a, cell, h1, h2, h3, h4, h5, h6, h7, h8, h9, -⟩ := h
  show (Cond.laysStatic C n d).holds args s none s [] = true
  exact Cond.laysStatic_of h1 h2 h3 h4 h5 h6 h7 h8 h9
/-- .. and what it holds: null or some reference -/
def vx_Zq (C n d : String) (A : Nat → Prop) (U : State) (H : Heap) : Prop := va_Zq C n d A U H ∧ vx_L C n d A U H
theorem vx_Zq.moved {C n d : String} {A : Nat → Prop} {u U : State} {H : Heap} (hvm : u.vm.Alike U.vm) (h : vx_Zq C n d A u H) : vx_Zq C n d A U H := ⟨va_Zq.moved hvm h.1, vx_L.moved hvm h.2⟩
theorem vx_Zq.kept {C n d : String} {A : Nat → Prop} {U : State} {H H1 : Heap} (h : vx_Zq C n d A U H) (hq : ∀ a : Nat, a < H.size → ¬ A a → H1[a]? = H[a]?) : vx_Zq C n d A U H1 := ⟨va_Zq.kept h.1 hq, vx_L.kept h.2 hq⟩
theorem vx_Zq.narrow {C n d : String} {A B : Nat → Prop} {U : State} {H : Heap} (h : vx_Zq C n d A U H) (hAB : ∀ q, B q → A q) : vx_Zq C n d B U H := ⟨va_Zq.narrow h.1 hAB, vx_L.narrow h.2 hAB⟩
theorem vx_Zqof {args : Array Value} {s : State} {C n d : String} {A : Nat → Prop} (hl : (Cond.laysStatic C n d).before args s = true) (hini : (Cond.initialized C).before args s = true) (h : (Cond.isRef (.static C n d)).before args s = true) (hA : ∀ a : Nat, a < s.heap.size → ¬ A a) : vx_Zq C n d A s s.heap := by
  refine ⟨va_Zqof hl hini h hA, ?_⟩
  obtain ⟨c, k, i, f, a, cell, h1, h2, h3, h4, h5, h6, h7, h8, h9⟩ := Cond.laysStatic_spec hl
  exact ⟨c, k, i, f, a, cell, h1, h2, h3, h4, h5, h6, h7, h8, h9, hA a (Array.getElem?_eq_some_iff.mp h5).1⟩
theorem vx_isRef {C n d : String} {v : Value} {A : Nat → Prop} {s : State} {args : Array Value} (h : va_Z C n d v A s s.heap) (hv : v.isRef = true) : (Cond.isRef (.static C n d)).before args s = true := by
  obtain ⟨cf, kf, fi, f, a, cell, h1, h2, h3, h4, h5, h6, h7, -⟩ := h
  have he : (Term.static C n d).eval args s none [] s = some v := by
    simp [Term.eval, State.fieldNamed?, h1, h2, h4, h5, h6, h7]
  simp only [Cond.before, Cond.holds, Cond.value, he]
  cases v <;> simp_all [Value.isRef]
theorem vx_isRefq {C n d : String} {A : Nat → Prop} {s : State} {args : Array Value} (h : va_Zq C n d A s s.heap) : (Cond.isRef (.static C n d)).before args s = true := by
  rcases h with h | ⟨t, h⟩
  · exact vx_isRef h rfl
  · exact vx_isRef h rfl
/-- the same frame, seen from here: as if the method were called anew in this heap -/
theorem vx_rebase {T : State} (X : Stand p l e R s m args below meth c T locs cells slots) {R' : Room} (hf : R'.frames ≤ R.frames) (hl : R'.locals ≤ R.locals) (hc : cells + R'.cells ≤ R.cells) (hs : slots + R'.slots ≤ R.slots) :
    Stand p l e R' ((T.setVm s.vm).setFrames (.invoking m args :: below)) m args below meth c T [] 0 0 := by
  have htop : (T.setVm s.vm).topJava?.isSome := X.here.top
  have hF : ((T.setVm s.vm).setFrames (.invoking m args :: below)).frames = .invoking m args :: below := State.frames_setFrames _ (State.cur_lt_of_top htop)
  obtain ⟨g₀, hg0⟩ := Option.isSome_iff_exists.mp htop
  obtain ⟨r, hr⟩ := State.topJava?_eq_some.mp hg0
  have hl9 : e.platform.stackLimits (T.setVm s.vm).me = e.platform.stackLimits s.me := X.limits
  have hb9 : (T.setVm s.vm).me.stackBytes = s.me.stackBytes := X.bytes
  refine ⟨X.admits, X.cas, X.clock, hF, ?_, X.hears, X.method, X.code, X.here, X.tail, X.warmed, ?_, ?_, ?_⟩
  · have h := X.room
    have hU : ((T.setVm s.vm).setFrames (.invoking m args :: below)).localsInUse = s.localsInUse := by
      rw [State.localsInUse_invoking hF (meth := meth) (c := c) X.method X.code, State.localsInUse_invoking X.frames X.method X.code]
    simp only [State.hasRoom, Bool.and_eq_true, decide_eq_true_eq] at h ⊢
    obtain ⟨⟨⟨⟨h1, h2, h3, h4, h5, h6⟩, h7⟩, h8⟩, h9⟩ := h
    rw [X.frames, List.length_cons] at h2 h3
    have q1 := X.heapSize
    have q2 := X.used
    simp only [hF, hU, List.length_cons, State.stackLimits_setFrames, State.stackBytes_setFrames, hl9, hb9]
    refine ⟨⟨⟨⟨by omega, by omega, by omega, by omega, by omega, h6⟩, ?_⟩, ?_⟩, X.book⟩
    · show T.heap.size + R'.cells ≤ e.platform.maxCells
      omega
    · show T.slotsUsed + R'.slots ≤ e.platform.maxSlots
      omega
  · rw [State.stackLimits_setFrames]; rfl
  · rw [State.stackBytes_setFrames]; rfl
  · refine ⟨?_, Nat.le_refl _, Nat.le_refl _, ?_, ?_, fun a c9 h9 => ⟨c9, h9, rfl, rfl, fun _ _ => rfl⟩⟩
    · obtain ⟨t, ht, -⟩ := State.frames_cons hr
      show T.setVm s.vm = { ((T.setVm s.vm).setFrames (.invoking m args :: below)).setFrames (T.setVm s.vm).frames with heap := T.heap, slotsUsed := T.slotsUsed }
      rw [State.setFrames_setFrames, State.setFrames_self ht]
      rfl
    · show T.slotsUsed = T.slotsUsed + ((T.heap.toList.drop T.heap.size).map (·.slots.size)).sum
      rw [List.drop_eq_nil_of_le (Nat.le_of_eq Array.length_toList)]
      rfl
    · show ((T.heap.toList.drop T.heap.size).map (·.slots.size)).sum ≤ 0
      rw [List.drop_eq_nil_of_le (Nat.le_of_eq Array.length_toList)]
      exact Nat.le_refl _
/-- 'throw new E()': new; dup; invokespecial; athrow -/
theorem vx_throw0 {cc : ByteArray} {pc : Nat} (hexec : p.tables.exec = Jvm.exec) (hb : c.code = cc) (hl : l.stackTraces = false) {own cls : String} {names : List String} {ik ic mc ms : Nat} {A : Nat → Prop}
    (hown : s.vm.findClass own = some m.cls) (hcls : Bundle.fit cls = true) (hnames : ∀ n ∈ names, Bundle.fit n = true)
    (hk : (Cond.classLink own ik cls).before args s = true) (hini : (Cond.initialized cls).before args s = true) (hat : ∀ w ∈ vx_at0 own ic cls names, w.before args s = true)
    (hgood : ∀ w ∈ Cond.classLink own ik cls :: Cond.initialized cls :: vx_at0 own ic cls names, vx_ot w = true)
    (hU : vx_Zq Bundle.tN "UNASSIGNED_STACK" Bundle.steD A s s.heap) (hN : vx_Zq Bundle.tN "SUPPRESSED_SENTINEL" Bundle.listD A s s.heap) (hS : va_S A s.heap H locs) (hsize : ls.size = c.maxLocals)
    (d0 : decode cc pc = .ok (.new ik, 3)) (d3 : decode cc (pc + 3) = .ok (.dup, 1)) (d4 : decode cc (pc + 4) = .ok (.invokespecial ic, 3)) (d7 : decode cc (pc + 7) = .ok (.athrow, 1))
    (hout : ∀ x ∈ c.exceptionTable.toList, covers x (pc + 7) = false)
    (hRframes : names.length + 3 < R.frames) (hRlocals : (rest.map fun v => v.category).sum + (13 * (names.length + 1) + 42) ≤ R.locals) (hRcells : cells + 1 ≤ R.cells) (hRslots : slots + 6 ≤ R.slots) (hlocks : meth.locks = false)
    (hx : ∀ t : State, s.vm.Alike t.vm → H.size ≤ t.heap.size → (∀ q : Nat, q < H.size → t.heap[q]? = H[q]?) → XC cls s t)
    (hf : ∀ z ∈ locs, free z.base) (hc : cells + 1 ≤ mc) (hs : slots + 6 ≤ ms) :
    W p l e R s m args below meth c H locs cells slots (vx_MQ below Qc XC args s mc ms free) (F0 m pc ls rest) := by
  intro T hT X
  have htr : e.platform.stackTraces = false := (show e.platform.stackTraces = l.stackTraces by rw [X.admits.platform]).trans hl
  have Y := vx_rebase X (R' := { frames := R.frames, locals := R.locals, cells := 1, slots := 6 }) (Nat.le_refl _) (Nat.le_refl _) hRcells hRslots
  obtain ⟨s', hA⟩ : ∃ z, z = (T.setVm s.vm).setFrames (.invoking m args :: below) := ⟨_, rfl⟩
  rw [← hA] at Y
  have hvm : s'.vm = s.vm := by rw [hA]; rfl
  have hhp : s'.heap = H := by rw [hA]; exact hT
  have hW0 : s.WarmedH s'.vm := by rw [hvm]; exact State.WarmedH.refl s
  have hat' : ∀ w ∈ vx_at0 own ic cls names, w.before args s' = true := fun w hw => vx_ot_at hW0 hvm.symm (hgood w (List.mem_cons_of_mem _ (List.mem_cons_of_mem _ hw))) (hat w hw)
  have hk' : (Cond.classLink own ik cls).before args s' = true := vx_ot_at hW0 hvm.symm (hgood _ List.mem_cons_self) hk
  have hini' : (Cond.initialized cls).before args s' = true := vx_ot_at hW0 hvm.symm (hgood _ (List.mem_cons_of_mem _ List.mem_cons_self)) hini
  have hU' : vx_Zq Bundle.tN "UNASSIGNED_STACK" Bundle.steD A s' s'.heap := by rw [hhp]; exact vx_Zq.moved hW0.alike (hU.kept hS.2.1)
  have hN' : vx_Zq Bundle.tN "SUPPRESSED_SENTINEL" Bundle.listD A s' s'.heap := by rw [hhp]; exact vx_Zq.moved hW0.alike (hN.kept hS.2.1)
  have h : ∀ w ∈ Bundle.ownAtoms0 own ic cls names, w.before args s' = true := vx_own hat' (vx_isRefq hU'.1) (vx_isRefq hN'.1) hU'.2.word hN'.2.word
  have hown' : s'.vm.findClass own = some m.cls := by rw [hvm]; exact hown
  have hins : (Cond.instantiable cls 6).before args s' = true := h _ (by simp [Bundle.ownAtoms0])
  obtain ⟨vm₁, cX, kX, hfX, hkX, -, -, X₁, st1⟩ := Y.newCold hexec (own := own) (C := cls) (index := ik) (n := 6) hown' hk' hins hini'
    (g := F0 m pc ls rest) rfl (by rw [hb]; exact d0) (Nat.le_refl _) (Nat.le_refl _)
  generalize hT1 : (T.setVm vm₁).pushCell { cls := cX, slots := kX.instanceTypes.map defaultValue, vm := .none } = T1 at X₁ st1
  have hcat : (Value.ref T.heap.size).category = 1 := rfl
  have hcellA : T1.heap[T.heap.size]? = some (freshCell cX kX) := by rw [← hT1]; exact State.heap_pushCell_size _ _
  have d3' : decode c.code (pc + 3) = .ok (.dup, 1) := by rw [hb]; exact d3
  obtain ⟨U, hsteps, hrun, hend, hW, hsame, ce, hce, hO⟩ := X₁.ctorThrow0 hexec htr (own := own) (cls := cls) (names := names) (ic := ic) hown' hcls hnames h (fun x hx => nomatch hx) hfX hkX hcellA (by rw [hhp, hT]; exact Nat.le_refl _)
    (g := { method := m, pc := pc + 4, locals := ls, stack := .ref T.heap.size :: .ref T.heap.size :: rest, locked := none }) rfl hsize rfl rfl (rest := rest) rfl
    (by rw [hb]; exact d4) (by rw [hb]; exact d7) hout hRframes (by simp only [List.map_cons, List.sum_cons, hcat]; omega) hlocks
  obtain ⟨f1, f2⟩ := vx_frame hsame
  rw [hhp] at f1 f2
  have hWs : s.WarmedH U.vm := State.WarmedH.trans hW0 hW
  have hcl : s.vm.findClass cls = some ce.cls := by
    have h9 := hO.cls
    rw [hvm] at h9
    exact h9
  have hall : s.sameButNew ({ U with vm := s.vm } : State) locs mc ms := by
    subst hA
    obtain ⟨e1, e2⟩ := hsame
    rw [State.setFrames_setFrames] at e1
    have h2 : (T.setVm s.vm).sameButNew ({ U with vm := s.vm } : State) [] (0 + 1) (0 + 6) := ⟨e1, e2⟩
    have h3 := X.same.trans h2
    rw [List.append_nil] at h3
    exact h3.mono hc hs
  refine ⟨U, ?_, .threw T.heap.size, hrun, hend, Or.inr ⟨T.heap.size, rfl, cls, ce, locs, hx U hWs.alike f1 (fun q hq => f2 q hq (fun z hz => nomatch hz)), hce, hO.vm, hcl, hWs, hall, hf⟩⟩
  refine st1 _ ?_
  show Steps p.tables e below (T1.setTop { method := m, pc := pc + 3, locals := ls, stack := .ref T.heap.size :: rest, locked := none }) _
  jvm_step X₁.here [X₁.here.top, hexec, d3', Value.category]
  exact hsteps
/-- 'throw new E("text")': new; dup; ldc; invokespecial; athrow -/
theorem vx_throwS {cc : ByteArray} {pc : Nat} (hexec : p.tables.exec = Jvm.exec) (hb : c.code = cc) (hl : l.stackTraces = false) {own cls text : String} {names : List String} {ik is ic mc ms sa : Nat} {A : Nat → Prop}
    (hown : s.vm.findClass own = some m.cls) (hcls : Bundle.fit cls = true) (hnames : ∀ n ∈ names, Bundle.fit n = true)
    (hk : (Cond.classLink own ik cls).before args s = true) (hini : (Cond.initialized cls).before args s = true) (hstr : vk_R own is text sa s) (hat : ∀ w ∈ vx_atS own ic cls names, w.before args s = true)
    (hgood : ∀ w ∈ Cond.classLink own ik cls :: Cond.initialized cls :: vx_atS own ic cls names, vx_ot w = true)
    (hU : vx_Zq Bundle.tN "UNASSIGNED_STACK" Bundle.steD A s s.heap) (hN : vx_Zq Bundle.tN "SUPPRESSED_SENTINEL" Bundle.listD A s s.heap) (hS : va_S A s.heap H locs) (hsize : ls.size = c.maxLocals)
    (d0 : decode cc pc = .ok (.new ik, 3)) (d3 : decode cc (pc + 3) = .ok (.dup, 1)) (d4 : decode cc (pc + 4) = .ok (.ldc is, 2)) (d6 : decode cc (pc + 6) = .ok (.invokespecial ic, 3)) (d9 : decode cc (pc + 9) = .ok (.athrow, 1))
    (hout : ∀ x ∈ c.exceptionTable.toList, covers x (pc + 9) = false)
    (hRframes : names.length + 3 < R.frames) (hRlocals : (rest.map fun v => v.category).sum + (13 * (names.length + 1) + 43) ≤ R.locals) (hRcells : cells + 1 ≤ R.cells) (hRslots : slots + 6 ≤ R.slots) (hlocks : meth.locks = false)
    (hx : ∀ t : State, s.vm.Alike t.vm → H.size ≤ t.heap.size → (∀ q : Nat, q < H.size → t.heap[q]? = H[q]?) → XC cls s t)
    (hf : ∀ z ∈ locs, free z.base) (hc : cells + 1 ≤ mc) (hs : slots + 6 ≤ ms) :
    W p l e R s m args below meth c H locs cells slots (vx_MQ below Qc XC args s mc ms free) (F0 m pc ls rest) := by
  intro T hT X
  have htr : e.platform.stackTraces = false := (show e.platform.stackTraces = l.stackTraces by rw [X.admits.platform]).trans hl
  have Y := vx_rebase X (R' := { frames := R.frames, locals := R.locals, cells := 1, slots := 6 }) (Nat.le_refl _) (Nat.le_refl _) hRcells hRslots
  obtain ⟨s', hA⟩ : ∃ z, z = (T.setVm s.vm).setFrames (.invoking m args :: below) := ⟨_, rfl⟩
  rw [← hA] at Y
  have hvm : s'.vm = s.vm := by rw [hA]; rfl
  have hhp : s'.heap = H := by rw [hA]; exact hT
  have hW0 : s.WarmedH s'.vm := by rw [hvm]; exact State.WarmedH.refl s
  have hat' : ∀ w ∈ vx_atS own ic cls names, w.before args s' = true := fun w hw => vx_ot_at hW0 hvm.symm (hgood w (List.mem_cons_of_mem _ (List.mem_cons_of_mem _ hw))) (hat w hw)
  have hk' : (Cond.classLink own ik cls).before args s' = true := vx_ot_at hW0 hvm.symm (hgood _ List.mem_cons_self) hk
  have hini' : (Cond.initialized cls).before args s' = true := vx_ot_at hW0 hvm.symm (hgood _ (List.mem_cons_of_mem _ List.mem_cons_self)) hini
  have hU' : vx_Zq Bundle.tN "UNASSIGNED_STACK" Bundle.steD A s' s'.heap := by rw [hhp]; exact vx_Zq.moved hW0.alike (hU.kept hS.2.1)
  have hN' : vx_Zq Bundle.tN "SUPPRESSED_SENTINEL" Bundle.listD A s' s'.heap := by rw [hhp]; exact vx_Zq.moved hW0.alike (hN.kept hS.2.1)
  have h : ∀ w ∈ Bundle.ownAtoms own ic cls names, w.before args s' = true := vx_own hat' (vx_isRefq hU'.1) (vx_isRefq hN'.1) hU'.2.word hN'.2.word
  have hown' : s'.vm.findClass own = some m.cls := by rw [hvm]; exact hown
  have hins : (Cond.instantiable cls 6).before args s' = true := h _ (by simp [Bundle.ownAtoms])
  obtain ⟨vm₁, cX, kX, hfX, hkX, -, -, X₁, st1⟩ := Y.newCold hexec (own := own) (C := cls) (index := ik) (n := 6) hown' hk' hins hini'
    (g := F0 m pc ls rest) rfl (by rw [hb]; exact d0) (Nat.le_refl _) (Nat.le_refl _)
  generalize hT1 : (T.setVm vm₁).pushCell { cls := cX, slots := kX.instanceTypes.map defaultValue, vm := .none } = T1 at X₁ st1
  have hcat : (Value.ref T.heap.size).category = 1 := rfl
  have hcellA : T1.heap[T.heap.size]? = some (freshCell cX kX) := by rw [← hT1]; exact State.heap_pushCell_size _ _
  have d3' : decode c.code (pc + 3) = .ok (.dup, 1) := by rw [hb]; exact d3
  have d4' : decode c.code (pc + 4) = .ok (.ldc is, 2) := by rw [hb]; exact d4
  have hstr' : vk_R own is text sa s' := vk_R.warm hW0 hstr
  obtain ⟨U, hsteps, hrun, hend, hW, hsame, ce, hce, hO⟩ := X₁.ctorThrowS hexec htr (own := own) (cls := cls) (names := names) (ic := ic) hown' hcls hnames h (fun x hx => nomatch hx) hfX hkX hcellA (by rw [hhp, hT]; exact Nat.le_refl _) (msg := .ref sa) rfl
    (g := { method := m, pc := pc + 6, locals := ls, stack := .ref sa :: .ref T.heap.size :: .ref T.heap.size :: rest, locked := none }) rfl hsize rfl rfl (rest := rest) rfl
    (by rw [hb]; exact d6) (by rw [hb]; exact d9) hout hRframes (by simp only [List.map_cons, List.sum_cons, hcat]; omega) hlocks
  obtain ⟨f1, f2⟩ := vx_frame hsame
  rw [hhp] at f1 f2
  have hWs : s.WarmedH U.vm := State.WarmedH.trans hW0 hW
  have hcl : s.vm.findClass cls = some ce.cls := by
    have h9 := hO.cls
    rw [hvm] at h9
    exact h9
  have hall : s.sameButNew ({ U with vm := s.vm } : State) locs mc ms := by
    subst hA
    obtain ⟨e1, e2⟩ := hsame
    rw [State.setFrames_setFrames] at e1
    have h2 : (T.setVm s.vm).sameButNew ({ U with vm := s.vm } : State) [] (0 + 1) (0 + 6) := ⟨e1, e2⟩
    have h3 := X.same.trans h2
    rw [List.append_nil] at h3
    exact h3.mono hc hs
  refine ⟨U, ?_, .threw T.heap.size, hrun, hend, Or.inr ⟨T.heap.size, rfl, cls, ce, locs, hx U hWs.alike f1 (fun q hq => f2 q hq (fun z hz => nomatch hz)), hce, hO.vm, hcl, hWs, hall, hf⟩⟩
  refine st1 _ ?_
  show Steps p.tables e below (T1.setTop { method := m, pc := pc + 3, locals := ls, stack := .ref T.heap.size :: rest, locked := none }) _
  jvm_step X₁.here [X₁.here.top, hexec, d3', Value.category]
  exact X₁.ldcString hexec (own := own) (text := text) (index := is) (a := sa) hown' hstr'.1 hstr'.2
    (g := { method := m, pc := pc + 4, locals := ls, stack := .ref T.heap.size :: .ref T.heap.size :: rest, locked := none }) rfl d4' _ hsteps
/-- 'throw new E("text")', the text by a wide index -/
theorem vx_throwSW {cc : ByteArray} {pc : Nat} (hexec : p.tables.exec = Jvm.exec) (hb : c.code = cc) (hl : l.stackTraces = false) {own cls text : String} {names : List String} {ik is ic mc ms sa : Nat} {A : Nat → Prop}
    (hown : s.vm.findClass own = some m.cls) (hcls : Bundle.fit cls = true) (hnames : ∀ n ∈ names, Bundle.fit n = true)
    (hk : (Cond.classLink own ik cls).before args s = true) (hini : (Cond.initialized cls).before args s = true) (hstr : vk_R own is text sa s) (hat : ∀ w ∈ vx_atS own ic cls names, w.before args s = true)
    (hgood : ∀ w ∈ Cond.classLink own ik cls :: Cond.initialized cls :: vx_atS own ic cls names, vx_ot w = true)
    (hU : vx_Zq Bundle.tN "UNASSIGNED_STACK" Bundle.steD A s s.heap) (hN : vx_Zq Bundle.tN "SUPPRESSED_SENTINEL" Bundle.listD A s s.heap) (hS : va_S A s.heap H locs) (hsize : ls.size = c.maxLocals)
    (d0 : decode cc pc = .ok (.new ik, 3)) (d3 : decode cc (pc + 3) = .ok (.dup, 1)) (d4 : decode cc (pc + 4) = .ok (.ldc_w is, 3)) (d7 : decode cc (pc + 7) = .ok (.invokespecial ic, 3)) (d10 : decode cc (pc + 10) = .ok (.athrow, 1))
    (hout : ∀ x ∈ c.exceptionTable.toList, covers x (pc + 10) = false)
    (hRframes : names.length + 3 < R.frames) (hRlocals : (rest.map fun v => v.category).sum + (13 * (names.length + 1) + 43) ≤ R.locals) (hRcells : cells + 1 ≤ R.cells) (hRslots : slots + 6 ≤ R.slots) (hlocks : meth.locks = false)
    (hx : ∀ t : State, s.vm.Alike t.vm → H.size ≤ t.heap.size → (∀ q : Nat, q < H.size → t.heap[q]? = H[q]?) → XC cls s t)
    (hf : ∀ z ∈ locs, free z.base) (hc : cells + 1 ≤ mc) (hs : slots + 6 ≤ ms) :
    W p l e R s m args below meth c H locs cells slots (vx_MQ below Qc XC args s mc ms free) (F0 m pc ls rest) := by
  intro T hT X
  have htr : e.platform.stackTraces = false := (show e.platform.stackTraces = l.stackTraces by rw [X.admits.platform]).trans hl
  have Y := vx_rebase X (R' := { frames := R.frames, locals := R.locals, cells := 1, slots := 6 }) (Nat.le_refl _) (Nat.le_refl _) hRcells hRslots
  obtain ⟨s', hA⟩ : ∃ z, z = (T.setVm s.vm).setFrames (.invoking m args :: below) := ⟨_, rfl⟩
  rw [← hA] at Y
  have hvm : s'.vm = s.vm := by rw [hA]; rfl
  have hhp : s'.heap = H := by rw [hA]; exact hT
  have hW0 : s.WarmedH s'.vm := by rw [hvm]; exact State.WarmedH.refl s
  have hat' : ∀ w ∈ vx_atS own ic cls names, w.before args s' = true := fun w hw => vx_ot_at hW0 hvm.symm (hgood w (List.mem_cons_of_mem _ (List.mem_cons_of_mem _ hw))) (hat w hw)
  have hk' : (Cond.classLink own ik cls).before args s' = true := vx_ot_at hW0 hvm.symm (hgood _ List.mem_cons_self) hk
  have hini' : (Cond.initialized cls).before args s' = true := vx_ot_at hW0 hvm.symm (hgood _ (List.mem_cons_of_mem _ List.mem_cons_self)) hini
  have hU' : vx_Zq Bundle.tN "UNASSIGNED_STACK" Bundle.steD A s' s'.heap := by rw [hhp]; exact vx_Zq.moved hW0.alike (hU.kept hS.2.1)
  have hN' : vx_Zq Bundle.tN "SUPPRESSED_SENTINEL" Bundle.listD A s' s'.heap := by rw [hhp]; exact vx_Zq.moved hW0.alike (hN.kept hS.2.1)
  have h : ∀ w ∈ Bundle.ownAtoms own ic cls names, w.before args s' = true := vx_own hat' (vx_isRefq hU'.1) (vx_isRefq hN'.1) hU'.2.word hN'.2.word
  have hown' : s'.vm.findClass own = some m.cls := by rw [hvm]; exact hown
  have hins : (Cond.instantiable cls 6).before args s' = true := h _ (by simp [Bundle.ownAtoms])
  obtain ⟨vm₁, cX, kX, hfX, hkX, -, -, X₁, st1⟩ := Y.newCold hexec (own := own) (C := cls) (index := ik) (n := 6) hown' hk' hins hini'
    (g := F0 m pc ls rest) rfl (by rw [hb]; exact d0) (Nat.le_refl _) (Nat.le_refl _)
  generalize hT1 : (T.setVm vm₁).pushCell { cls := cX, slots := kX.instanceTypes.map defaultValue, vm := .none } = T1 at X₁ st1
  have hcat : (Value.ref T.heap.size).category = 1 := rfl
  have hcellA : T1.heap[T.heap.size]? = some (freshCell cX kX) := by rw [← hT1]; exact State.heap_pushCell_size _ _
  have d3' : decode c.code (pc + 3) = .ok (.dup, 1) := by rw [hb]; exact d3
  have d4' : decode c.code (pc + 4) = .ok (.ldc_w is, 3) := by rw [hb]; exact d4
  have hstr' : vk_R own is text sa s' := vk_R.warm hW0 hstr
  obtain ⟨U, hsteps, hrun, hend, hW, hsame, ce, hce, hO⟩ := X₁.ctorThrowS hexec htr (own := own) (cls := cls) (names := names) (ic := ic) hown' hcls hnames h (fun x hx => nomatch hx) hfX hkX hcellA (by rw [hhp, hT]; exact Nat.le_refl _) (msg := .ref sa) rfl
    (g := { method := m, pc := pc + 7, locals := ls, stack := .ref sa :: .ref T.heap.size :: .ref T.heap.size :: rest, locked := none }) rfl hsize rfl rfl (rest := rest) rfl
    (by rw [hb]; exact d7) (by rw [hb]; exact d10) hout hRframes (by simp only [List.map_cons, List.sum_cons, hcat]; omega) hlocks
  obtain ⟨f1, f2⟩ := vx_frame hsame
  rw [hhp] at f1 f2
  have hWs : s.WarmedH U.vm := State.WarmedH.trans hW0 hW
  have hcl : s.vm.findClass cls = some ce.cls := by
    have h9 := hO.cls
    rw [hvm] at h9
    exact h9
  have hall : s.sameButNew ({ U with vm := s.vm } : State) locs mc ms := by
    subst hA
    obtain ⟨e1, e2⟩ := hsame
    rw [State.setFrames_setFrames] at e1
    have h2 : (T.setVm s.vm).sameButNew ({ U with vm := s.vm } : State) [] (0 + 1) (0 + 6) := ⟨e1, e2⟩
    have h3 := X.same.trans h2
    rw [List.append_nil] at h3
    exact h3.mono hc hs
  refine ⟨U, ?_, .threw T.heap.size, hrun, hend, Or.inr ⟨T.heap.size, rfl, cls, ce, locs, hx U hWs.alike f1 (fun q hq => f2 q hq (fun z hz => nomatch hz)), hce, hO.vm, hcl, hWs, hall, hf⟩⟩
  refine st1 _ ?_
  show Steps p.tables e below (T1.setTop { method := m, pc := pc + 3, locals := ls, stack := .ref T.heap.size :: rest, locked := none }) _
  jvm_step X₁.here [X₁.here.top, hexec, d3', Value.category]
  exact X₁.ldcStringW hexec (own := own) (text := text) (index := is) (a := sa) hown' hstr'.1 hstr'.2
    (g := { method := m, pc := pc + 4, locals := ls, stack := .ref T.heap.size :: .ref T.heap.size :: rest, locked := none }) rfl d4' _ hsteps
end Ends
section Bodies
variable {l : Launch}
theorem vx_ofW {y : MethodName} {ws ws' : List Cond} {rm : Room} {Pc : Array Value → State → Prop} {Qc : Array Value → State → Outcome → State → Prop} {XC : String → State → State → Prop} {mc ms : Nat} {free : Addr → Prop} {cc : ByteArray} {maxL : Nat} {ret : Option FieldType}
    (hy : plainName y.cls = true) (hw : ws = Cond.code y cc maxL ret :: ws')
    (body : ∀ p e s m args below meth c s₁, BodyLoose p l y (headSpec ws rm) cc maxL ret e s m args below meth c s₁ → c.maxLocals = maxL → (∀ x ∈ c.exceptionTable.toList, False) → Pc args s →
      W p l e (headSpec ws rm).room s m args below meth c s.heap [] 0 0 (vx_MQ below Qc XC args s mc ms free) (entryFrame m args maxL)) : vx_Met l y ws rm Pc Qc XC mc ms free := by
  refine MetFree.of_bodyS (code := cc) (maxLocals := maxL) (ret := ret) hy ?_ ?_
  · intro args s m h hn
    obtain ⟨meth, c, h1, h2, h3, h4, h5, h6, -, -⟩ := Cond.code_spec hn (atoms_spec (ws := ws) h _ (by rw [hw]; exact List.mem_cons_self))
    exact ⟨meth, c, h1, h2, h3, h4, h5, h6⟩
  · intro p e s m args below meth c s₁ B hml hP _
    have hh0 : s₁.heap = s.heap := by rw [B.state]; rfl
    have ht : ∀ x ∈ c.exceptionTable.toList, False := by
      obtain ⟨meth9, c9, h1, h2, -, -, -, -, h7, -⟩ := Cond.code_spec B.named (atoms_spec (ws := ws) B.pre _ (by rw [hw]; exact List.mem_cons_self))
      cases Option.some.inj (h1.symm.trans B.method)
      cases Option.some.inj (h2.symm.trans (Stand.of_body B).code)
      intro x hx
      rw [Array.isEmpty_iff.mp h7] at hx
      cases hx
    obtain ⟨t, a1, o, b1, b2, b3⟩ := body p e s m args below meth c s₁ B hml ht hP s₁ hh0 (Stand.of_body B)
    exact ⟨t, o, a1, b1, b2, b3⟩
/-- the table of a body with handlers -/
theorem vx_table {p : Program} {x y : MethodName} {S : Spec} {cc bytes : ByteArray} {maxL maxL' : Nat} {ret ret' : Option FieldType} {e : Env} {s s₁ : State} {m : MethodId} {args : Array Value} {below : List Frame} {meth : Method} {c : Code} {hh : List (Nat × Nat × Nat × Nat)}
    (B : BodyLoose p l y S cc maxL ret e s m args below meth c s₁) (h : (Cond.codeWith y bytes maxL' ret' hh).before args s = true) : c.exceptionTable.toList = tableOf hh := by
  obtain ⟨m9, meth9, c9, hn9, h1, h2, -, -, h6, -⟩ := Cond.codeWith_spec h
  cases Option.some.inj (hn9.symm.trans B.named)
  cases Option.some.inj (h1.symm.trans B.method)
  cases Option.some.inj (h2.symm.trans (Stand.of_body B).code)
  rw [← h6, table_eq]
end Bodies
end VXA
/-! ===== END ===== -/
/-! ===== BEGIN a static call of a method with an exception table ===== -/
section VXS
variable {p : Program} {l : Launch} {e : Env} {R : Room} {s : State} {m : MethodId} {args : Array Value} {below : List Frame} {meth : Method} {c : Code} {T : State} {H : Heap} {locs : List Loc} {cells slots : Nat}
abbrev vx_CSW (R : Room) (s : State) (args : Array Value) (own : String) (index : Nat) (y : MethodName) (bytes : ByteArray) (maxL : Nat) (ret : Option FieldType) (hh : List (Nat × Nat × Nat × Nat)) (ws : List Cond) (rm : Room) (mc ms n : Nat) : Prop :=
  (rm.cells = mc ∧ rm.slots = ms ∧ rm.frames + 1 ≤ R.frames ∧ 8 + (maxL + 11) + rm.locals ≤ R.locals ∧ (∀ w ∈ ws, ∀ (a' : Array Value) (U : State), s.WarmedH U.vm → w.before a' U = true) ∧ Cond.codeWith y bytes maxL ret hh ∈ ws) ∧
  (Cond.codeWith y bytes maxL ret hh).before args s = true ∧ (Cond.initialized y.cls).before args s = true ∧ (y.cls ≠ "java/lang/invoke/MethodHandle" ∧ y.cls ≠ "java/lang/invoke/VarHandle") ∧
  (∀ sig, parseMethodDescriptor y.desc = some sig → n = sig.parameters.length) ∧ (Cond.methodLink own index y).before args s = true ∧ (Cond.static y).before args s = true
theorem vx_cwSW {own : String} {index maxL mc ms : Nat} {y : MethodName} {bytes : ByteArray} {ret : Option FieldType} {hh : List (Nat × Nat × Nat × Nat)} {Ts ws ws' : List Cond} {rm : Room} (n : Nat) (ht : ∀ w ∈ Ts, w.before args s = true) (hT : GoodIn Ts (va_wsS own index y ws)) (hw : ws = Cond.codeWith y bytes maxL ret hh :: ws') (hrc : rm.cells = mc) (hrs : rm.slots = ms)
    (hd : y.cls ≠ "java/lang/invoke/MethodHandle" ∧ y.cls ≠ "java/lang/invoke/VarHandle" ∧ (parseMethodDescriptor y.desc).map (fun d => d.parameters.length) = some n) (hR : rm.frames + 1 ≤ R.frames ∧ 8 + (maxL + 11) + rm.locals ≤ R.locals) :
    vx_CSW R s args own index y bytes maxL ret hh ws rm mc ms n := by
  have ok : ∀ w ∈ va_wsS own index y ws, w.before args s = true := fun w h => ht w (hT w h).1
  have hG : GoodIn Ts ws := fun w h => hT w (by unfold va_wsS; exact List.mem_append_right _ h)
  have hc : Cond.codeWith y bytes maxL ret hh ∈ ws := by rw [hw]; exact List.mem_cons_self
  refine ⟨⟨hrc, hrs, hR.1, hR.2, pay_in ht hG, hc⟩, ht _ (hG _ hc).1, ok _ (by simp [va_wsS]), ⟨hd.1, hd.2.1⟩, fun sig h => ?_, ok _ (by simp [va_wsS]), ok _ (by simp [va_wsS])⟩
  have h2 := hd.2.2
  rw [h] at h2
  exact (Option.some.inj h2).symm
theorem vx_callSW (X : Stand p l e R s m args below meth c T locs cells slots) (hexec : p.tables.exec = Jvm.exec) {own : String} {index : Nat} {y : MethodName} {bytes : ByteArray} {maxL : Nat} {ret : Option FieldType} {hh : List (Nat × Nat × Nat × Nat)}
    (hown : s.vm.findClass own = some m.cls) (hlink : (Cond.methodLink own index y).before args s = true) (hstat : (Cond.static y).before args s = true) (hinit : (Cond.initialized y.cls).before args s = true)
    (hcode : (Cond.codeWith y bytes maxL ret hh).before args s = true) (hy : y.cls ≠ "java/lang/invoke/MethodHandle" ∧ y.cls ≠ "java/lang/invoke/VarHandle")
    {W9 : Nat} {Pre : Pt → Array Value → Prop} {Post : Pt → Array Value → Option Value → Pt → Prop} (hK : Back l R p e below s args y 3 W9 Pre Post)
    {g : JFrame} (hg : g.method = m) (hsize : g.locals.size = c.maxLocals) {argsL rest : List Value} (hlen : ∀ sig, parseMethodDescriptor y.desc = some sig → argsL.length = sig.parameters.length)
    (hstack : g.stack = argsL.reverse ++ rest) (hW : 2 * g.monitorRoom + (rest.map fun v => v.category).sum ≤ W9) (hdg : decode c.code g.pc = .ok (.invokestatic index, 3))
    (hpre : ∀ vm₁, s.WarmedH vm₁ → Pre ⟨T.setVm vm₁, locs, cells, slots⟩ argsL.toArray) :
    ∃ (v : Option Value) (vm₁ : Vm) (B : Pt), s.WarmedH vm₁ ∧ Stand p l e R s m args below meth c B.U B.locs B.cells B.slots ∧ Post ⟨T.setVm vm₁, locs, cells, slots⟩ argsL.toArray v B ∧
      ∀ target, Steps p.tables e below (B.U.setTop { g with pc := g.pc + 3, stack := v.toList ++ rest }) target → Steps p.tables e below (T.setTop g) target := by
  obtain ⟨mk, methM, cM, hnamed, hmethM, -, -, -, -, -, -, hsigM⟩ := Cond.codeWith_spec hcode
  have hstatic : methM.isStatic = true := Cond.static_spec hnamed hmethM hstat
  obtain ⟨kP, hkP, -⟩ := className_of_methodNamed hnamed
  have hinitP : kP.init = .initialized := Cond.initialized_spec (findClass_of_methodNamed hnamed) hkP hinit
  obtain ⟨vm₁, X₁, hstep₁⟩ := X.invokestatic hexec hown hlink hnamed hmethM hstatic hkP hinitP hy (g := g) hg (argsL := argsL) (rest := rest) (hlen _ hsigM) hstack hdg
  obtain ⟨v, B, X', hpost, hsteps⟩ := hK m meth c ⟨T.setVm vm₁, locs, cells, slots⟩ { g with stack := rest } (.invokestatic index) mk argsL.toArray X₁ hg hsize hdg hW (X₁.named hnamed) (hpre vm₁ X₁.warmed)
  exact ⟨v, vm₁, B, X₁.warmed, X', hpost, fun target h => hstep₁ _ fun acts => by rw [doInvoke_state]; exact hsteps.trans h⟩
theorem vx_runSW {y : MethodName} {bytes cc : ByteArray} {maxL nL mc ms n index : Nat} {ret : Option FieldType} {hh : List (Nat × Nat × Nat × Nat)} {ws : List Cond} {rm : Room} {Pc : Array Value → State → Prop} {Qc : Array Value → State → Outcome → State → Prop} {free : Addr → Prop} {Ts : List Cond} {own : String} {As rest : List Value} {g : JFrame}
    (S : CallFix p m c cc nL s args Ts own) (hM : Met l y ws rm Pc Qc mc ms free) (cw : vx_CSW R s args own index y bytes maxL ret hh ws rm mc ms n) (hp : PreS s H Pc As)
    (hg : g.method = m) (hn : As.length = n) (hsize : g.locals.size = nL) (hstack : g.stack = As.reverse ++ rest) (hW : 2 * g.monitorRoom + (rest.map fun v => v.category).sum ≤ 8) (hdg : decode cc g.pc = .ok (.invokestatic index, 3)) (hf : cells + mc ≤ R.cells ∧ slots + ms ≤ R.slots) :
    va_Run p l e R s m args below meth c H locs cells slots mc ms g rest (Qc As.toArray) (free) := by
  obtain ⟨⟨hrc, hrs, hfr, hlo, hws, hcw⟩, hcode, hini, hy, hlen, hl, hstt⟩ := cw
  have hK : Back l R p e below s args y 3 8 (PreOf R mc ms Pc) (PostOf Qc mc ms free) := va_backW (hh := hh) (bytes := bytes) (maxL := maxL) (ret := ret) hM hp.1 hrc hrs hfr hlo hws hcw (fun a' U hW => word_at hW (Or.inl (by first | rfl | simp [Cond.onTables, Cond.keeps, Cond.steady])) hini)
  obtain ⟨hx, hb, hml, ho, -⟩ := S
  intro T hT X
  obtain ⟨v, vm₁, ⟨U', l2, c2, s2⟩, hW₁, X', ⟨g', mk, t, L, e1, e2, hq, h1, hL, h2, h3⟩, st⟩ := vx_callSW X hx (hh := hh) (bytes := bytes) (maxL := maxL) (ret := ret) ho hl hstt hini hcode hy hK hg (hsize.trans hml.symm) (argsL := As) (rest := rest) (fun sig h => hn.trans (hlen sig h)) hstack hW (by rw [hb]; exact hdg)
    (fun vm₁ hW₁ => ⟨hf.1, hf.2, hp.2 (T.setVm vm₁) hT hW₁⟩)
  dsimp only [Pt.U, Pt.locs, Pt.cells, Pt.slots] at X' e1 e2 h1 h2 h3 st
  subst h1; subst h2; subst h3
  exact ⟨v, (T.setVm vm₁).calling g' mk As.toArray, t, U', L, hT, X', hL, e1, e2, hq, st⟩
/-- not caught here, past rows that name other classes: it goes on to the caller -/
theorem vx_outP {p : Program} {l : Launch} {e : Env} {R : Room} {s : State} {m : MethodId} {args : Array Value} {below : List Frame} {meth : Method} {c : Code} {H : Heap} {locs : List Loc} {cells slots : Nat} {free : Addr → Prop} {ls : Array Slot} {rest : List Value} {Qc : Array Value → State → Outcome → State → Prop} {XC : String → State → State → Prop}
    {pc : Nat} {own E : String} {ce : Cell} {q : Addr} {mc ms : Nat} (hown : s.vm.findClass own = some m.cls) (hlocks : meth.locks = false)
    (hpass : ∀ z ∈ c.exceptionTable.toList, covers z pc = false ∨ (z.catchType ≠ 0 ∧ ∃ nm : String, (Cond.classLink own z.catchType nm).before args s = true ∧ va_Nc E nm s)) (hcell : H[q]? = some ce) (hv : ce.vm = .none) (hcl : s.vm.findClass E = some ce.cls)
    (hx : ∀ t : State, t.heap = H → s.vm.Alike t.vm → XC E s t) (hf : ∀ z ∈ locs, free z.base) (hc : cells ≤ mc) (hs : slots ≤ ms) :
    vx_W p l e R s m args below meth c H locs cells slots (vx_MQ below Qc XC args s mc ms free) (F0 m pc ls rest) q := by
  intro T hT X
  have hpl : e.platform.magicAccessors = ({} : Platform).magicAccessors := by rw [X.admits.platform]
  obtain ⟨vm', hW', X', st⟩ := X.outThrough hlocks q (g := F0 m pc ls rest) rfl rfl rfl (cell := ce) (by rw [hT]; exact hcell) (by rw [hv]; rfl)
    (by obtain ⟨k9, h9, -⟩ := Vm.findClass_spec hcl; exact ⟨k9, h9⟩) (fun z hz => by
      rcases hpass z hz with h | ⟨hz0, nm, hl1, hn1⟩
      · exact Or.inl h
      · obtain ⟨c6, hc6, hcl6⟩ := Cond.classLink_spec hown hl1 e.platform hpl
        obtain ⟨a8, b8, h1, h2, h3⟩ := hn1
        cases Option.some.inj (h1.symm.trans hcl)
        cases Option.some.inj (h2.symm.trans hc6)
        exact Or.inr ⟨hz0, _, hcl6, h3⟩)
  obtain ⟨g₀, hfr⟩ := X'.frames_eq
  have hcell9 : ((T.setVm vm').setFrames (.throwing q :: below)).heap[q]? = some ce := by
    show T.heap[q]? = some ce
    rw [hT]; exact hcell
  have hend : Ended ((T.setVm vm').setFrames (.throwing q :: below)) below (.threw q) := State.frames_setFrames _ (State.cur_lt_of_frames hfr)
  refine ⟨(T.setVm vm').setFrames (.throwing q :: below), ?_, .threw q, X'.here.running, hend, Or.inr ⟨q, rfl, E, ce, locs, hx _ hT (X'.ends _).1.alike, hcell9, hv, hcl, (X'.ends _).1, (X'.ends _).2.mono hc hs, hf⟩⟩
  rw [X.pushThrowing_eq]
  exact st
/-- a thing of a world lies in the heap -/
theorem vx_lt {D : va_G} {cl : List vw_C} {ws : va_W} {H1 : Heap} (h : va_P D cl ws H1) {k : Nat} {q : Nat × va_E} (hk : ws[k]? = some q) : q.1 < H1.size := (h k q hk).lt
end VXS
/-! ===== END ===== -/
/-! ===== BEGIN methods with a table of their own: called by a name, returning or throwing ===== -/
section VXH
/-! vx_backW, vx_callVX, vx_callSX, vx_callVW, vx_runVW, vx_runVX, vx_runSX, vx_ofWH follow the same proofs as their sisters above (Free/Laws.lean, Shelf42/LK1.lean); vx_outP calls Shelf42/NT130.lean (outThrough). -/
section
variable {l : Launch} {R : Room} {p : Program} {e : Env} {below : List Frame} {s : State} {sargs : Array Value} {y : MethodName} {len W9 : Nat}
theorem vx_backW {ws : List Cond} {rm : Room} {Pc : Array Value → State → Prop} {Qc : Array Value → State → Outcome → State → Prop} {XC : String → State → State → Prop} {mc ms : Nat} {free : Addr → Prop} {bytes : ByteArray} {maxL : Nat} {ret : Option FieldType} {hh : List (Nat × Nat × Nat × Nat)}
    (hM : vx_Met l y ws rm Pc Qc XC mc ms free) (hblind : FrameBlind Pc) (hrc : rm.cells = mc) (hrs : rm.slots = ms)
    (hframes : rm.frames + 1 ≤ R.frames) (hlocals : W9 + (maxL + 11) + rm.locals ≤ R.locals)
    (hws : ∀ w ∈ ws, ∀ a' U, s.WarmedH U.vm → w.before a' U = true) (hcode : Cond.codeWith y bytes maxL ret hh ∈ ws) (hinit : ∀ a' U, s.WarmedH U.vm → (Cond.initialized y.cls).before a' U = true) :
    vx_Back l R p e below s sargs y len W9 (PreOf R mc ms Pc) (PostOf Qc mc ms free) (vx_Post XC mc ms free) := by
  intro m meth c A g ig mk a X hg hsize hdg hW hn hp
  have h1 : (headSpec ws rm).pre.before a A.U = true := atoms_intro fun w hw => hws w hw _ _ X.warmed
  have h2 : (Cond.codeWith y bytes maxL ret hh).before a A.U = true := hws _ hcode _ _ X.warmed
  have h3 : (Cond.initialized y.cls).before a A.U = true := hinit _ _ X.warmed
  have h4 : A.cells + (headSpec ws rm).room.cells ≤ R.cells := by rw [show (headSpec ws rm).room.cells = mc from hrc]; exact hp.1
  have h5 : A.slots + (headSpec ws rm).room.slots ≤ R.slots := by rw [show (headSpec ws rm).room.slots = ms from hrs]; exact hp.2.1
  have hPc : Pc a (A.U.calling g mk a) := hblind _ _ _ _ hp.2.2
  obtain ⟨U, Ls, c0, s0⟩ := A
  dsimp only [Pt.U, Pt.locs, Pt.cells, Pt.slots] at h1 h2 h3 h4 h5 X hn hPc ⊢
  obtain ⟨m9, methY, cY, hn9, hmY, hcY, -, hlY, -⟩ := Cond.codeWith_spec h2
  cases Option.some.inj (hn9.symm.trans hn)
  obtain ⟨kY, hkY, -⟩ := className_of_methodNamed hn
  have hinitY : kY.init = .initialized := Cond.initialized_spec (findClass_of_methodNamed hn) hkY h3
  have h : At U g.method c below := by rw [hg]; exact X.here
  have hlocals9 : W9 + (maxL + 11) + (headSpec ws rm).room.locals ≤ R.locals := hlocals
  have happ : (headSpec ws rm).appliesLoose y e.platform (U.calling g mk a) = true :=
    Spec.appliesLoose_calling (g := g) h hdg hn hkY hinitY
      (X.room_calling (g := g) (R' := (headSpec ws rm).room) hsize hmY hcY hframes (by rw [hlY]; omega) h4 h5) h1
  obtain ⟨mid, hmid⟩ := h.above
  have hfr : (U.setTop g).frames = (.java g :: mid) ++ below := by rw [State.frames_setTop' g h.top, hmid]; rfl
  obtain ⟨o, s₂, hsteps, -, hend, hq⟩ := Steps.callFree hM p X.admits X.cas X.clock (acts := []) hfr happ hPc trivial
  have hq' : vx_Q Qc XC mc ms free a (U.calling g mk a) o s₂ := hq
  rw [State.frames_setTop' g h.top] at hend
  obtain ⟨g₀, hg0⟩ := Option.isSome_iff_exists.mp h.top
  obtain ⟨r, hr⟩ := State.topJava?_eq_some.mp hg0
  have hr' : (({ U with heap := s₂.heap, slotsUsed := s₂.slotsUsed } : State).setVm s₂.vm).frames = .java g₀ :: r := hr
  rcases hq' with ⟨hqc, L, hfe, hL⟩ | ⟨q, rfl, E, ce, L, hx, hce, hcv, hcl, hW₂, hsm, hL⟩
  · obtain ⟨⟨v, rfl⟩, hW₂, e2, q2, q3, q4, q5, q6⟩ := id hfe
    have e3 : s₂ = ({ (U.calling g mk a).setFrames s₂.frames with heap := s₂.heap, slotsUsed := s₂.slotsUsed } : State).setVm s₂.vm := by
      have : s₂ = ({ s₂ with vm := (U.calling g mk a).vm } : State).setVm s₂.vm := rfl
      rw [e2] at this
      exact this
    obtain ⟨c₂, i₂, len₂, hc₂, hd₂, hf₂⟩ := hend
    have hW' : U.WarmedH s₂.vm := hW₂
    have hcc : c₂ = c := by
      have h1 : s₂.code? g.method = U.code? g.method := by
        rw [State.code?_eq, State.code?_eq, hW'.alike.method?]
      exact Option.some.inj (hc₂.symm.trans (h1.trans h.code))
    subst hcc
    have hlen : len₂ = len := by rw [hdg] at hd₂; cases hd₂; rfl
    subst hlen
    have hs₂ : s₂ = (({ U with heap := s₂.heap, slotsUsed := s₂.slotsUsed } : State).setVm s₂.vm).setTop { g with pc := g.pc + len₂, stack := v.toList ++ g.stack } := by
      refine e3.trans ?_
      rw [hf₂, State.calling_eq h.top, State.setFrames_setFrames, State.setTop_of_frames _ hr', hr]
      rfl
    have hsame : U.sameButNew ({ U with heap := s₂.heap, slotsUsed := s₂.slotsUsed } : State) L mc ms := by
      refine ⟨?_, q2, q3, q4, q5, q6⟩
      obtain ⟨t, ht, -⟩ := State.frames_cons hr
      show ({ U with heap := s₂.heap, slotsUsed := s₂.slotsUsed } : State) = { U.setFrames U.frames with heap := s₂.heap, slotsUsed := s₂.slotsUsed }
      rw [State.setFrames_self ht]
    subst hg
    refine Or.inl ⟨v, ⟨(({ U with heap := s₂.heap, slotsUsed := s₂.slotsUsed } : State).setVm s₂.vm), Ls ++ L, c0 + mc, s0 + ms⟩,
      ⟨X.admits, X.cas, X.clock, X.frames, X.room, X.hears, X.method, X.code, (X.here.setHeapUsed s₂.heap s₂.slotsUsed).setVm hW'.alike, X.tail, State.WarmedH.trans X.warmed hW', X.limits, X.bytes, X.same.trans (hsame.setVm s.vm)⟩,
      ⟨g, mk, s₂, L, rfl, rfl, hqc, rfl, hL, rfl, rfl⟩, ?_⟩
    show Steps p.tables e below _ ((({ U with heap := s₂.heap, slotsUsed := s₂.slotsUsed } : State).setVm s₂.vm).setTop { g with pc := g.pc + len₂, stack := v.toList ++ g.stack })
    rw [← hs₂]
    exact hsteps
  · obtain ⟨e2, q2, q3, q4, q5, q6⟩ := id hsm
    have e3 : s₂ = ({ (U.calling g mk a).setFrames s₂.frames with heap := s₂.heap, slotsUsed := s₂.slotsUsed } : State).setVm s₂.vm := by
      have : s₂ = ({ s₂ with vm := (U.calling g mk a).vm } : State).setVm s₂.vm := rfl
      rw [e2] at this
      exact this
    have hf₂ : s₂.frames = .throwing q :: .java g :: U.frames.tail := hend
    have hW' : U.WarmedH s₂.vm := hW₂
    have hs₂ : s₂ = ((({ U with heap := s₂.heap, slotsUsed := s₂.slotsUsed } : State).setVm s₂.vm).setTop g).pushFrame (.throwing q) := by
      refine e3.trans ?_
      rw [hf₂, State.calling_eq h.top, State.setFrames_setFrames, State.pushFrame, State.frames_setTop _ hr', State.setTop_of_frames _ hr', State.setFrames_setFrames, hr]
      rfl
    have hsame : U.sameButNew ({ U with heap := s₂.heap, slotsUsed := s₂.slotsUsed } : State) L mc ms := by
      refine ⟨?_, q2, q3, q4, q5, q6⟩
      obtain ⟨t, ht, -⟩ := State.frames_cons hr
      show ({ U with heap := s₂.heap, slotsUsed := s₂.slotsUsed } : State) = { U.setFrames U.frames with heap := s₂.heap, slotsUsed := s₂.slotsUsed }
      rw [State.setFrames_self ht]
    subst hg
    refine Or.inr ⟨q, ⟨(({ U with heap := s₂.heap, slotsUsed := s₂.slotsUsed } : State).setVm s₂.vm), Ls ++ L, c0 + mc, s0 + ms⟩,
      ⟨X.admits, X.cas, X.clock, X.frames, X.room, X.hears, X.method, X.code, (X.here.setHeapUsed s₂.heap s₂.slotsUsed).setVm hW'.alike, X.tail, State.WarmedH.trans X.warmed hW', X.limits, X.bytes, X.same.trans (hsame.setVm s.vm)⟩,
      ⟨g, mk, s₂, L, E, ce, rfl, rfl, hx, hce, hcv, hcl, rfl, hL, rfl, rfl⟩, ?_⟩
    show Steps p.tables e below _ (((({ U with heap := s₂.heap, slotsUsed := s₂.slotsUsed } : State).setVm s₂.vm).setTop g).pushFrame (.throwing q))
    rw [← hs₂]
    exact hsteps
end
variable {p : Program} {l : Launch} {e : Env} {R : Room} {s : State} {m : MethodId} {args : Array Value} {below : List Frame} {meth : Method} {c : Code} {T : State} {H : Heap} {locs : List Loc} {cells slots : Nat}
theorem vx_callVX (X : Stand p l e R s m args below meth c T locs cells slots) (hexec : p.tables.exec = Jvm.exec) {own C : String} {index : Nat} {y : MethodName} {bytes : ByteArray} {maxL : Nat} {ret : Option FieldType} {hh : List (Nat × Nat × Nat × Nat)}
    (hown : s.vm.findClass own = some m.cls) (hlink : (Cond.methodLink own index y).before args s = true) (hinst : (Cond.instanceMethod y).before args s = true) (hsel : (Cond.selects C y y).before args s = true)
    (hcode : (Cond.codeWith y bytes maxL ret hh).before args s = true) (hy : y.cls ≠ "java/lang/invoke/MethodHandle" ∧ y.cls ≠ "java/lang/invoke/VarHandle")
    {W9 : Nat} {Pre : Pt → Array Value → Prop} {Post : Pt → Array Value → Option Value → Pt → Prop} {PostX : Pt → Array Value → Addr → Pt → Prop} (hK : vx_Back l R p e below s args y 3 W9 Pre Post PostX)
    {b : Addr} {cellB : Cell} (hcell : T.heap[b]? = some cellB) (hobj : cellB.vm.isStatics = false) (hcls : s.vm.findClass C = some cellB.cls)
    {g : JFrame} (hg : g.method = m) (hsize : g.locals.size = c.maxLocals) {argsL rest : List Value} (hlen : ∀ sig, parseMethodDescriptor y.desc = some sig → argsL.length = sig.parameters.length)
    (hstack : g.stack = argsL.reverse ++ .ref b :: rest) (hW : 2 * g.monitorRoom + (rest.map fun v => v.category).sum ≤ W9) (hdg : decode c.code g.pc = .ok (.invokevirtual index, 3))
    (hpre : ∀ vm₁, s.WarmedH vm₁ → Pre ⟨T.setVm vm₁, locs, cells, slots⟩ (Value.ref b :: argsL).toArray) :
    (∃ (v : Option Value) (vm₁ : Vm) (B : Pt), s.WarmedH vm₁ ∧ Stand p l e R s m args below meth c B.U B.locs B.cells B.slots ∧ Post ⟨T.setVm vm₁, locs, cells, slots⟩ (Value.ref b :: argsL).toArray v B ∧
      ∀ target, Steps p.tables e below (B.U.setTop { g with pc := g.pc + 3, stack := v.toList ++ rest }) target → Steps p.tables e below (T.setTop g) target) ∨
    (∃ (q : Addr) (vm₁ : Vm) (B : Pt), s.WarmedH vm₁ ∧ Stand p l e R s m args below meth c B.U B.locs B.cells B.slots ∧ PostX ⟨T.setVm vm₁, locs, cells, slots⟩ (Value.ref b :: argsL).toArray q B ∧
      Steps p.tables e below (T.setTop g) ((B.U.setTop { g with stack := rest }).pushFrame (.throwing q))) := by
  obtain ⟨mk, methM, hnamed, hmethM, hstM, habM⟩ := Cond.instanceMethod_spec hinst
  obtain ⟨m8, methM', cM, hn8, hmethM', -, -, -, -, -, -, hsigM⟩ := Cond.codeWith_spec hcode
  cases Option.some.inj (hn8.symm.trans hnamed)
  cases hmethM.symm.trans hmethM'
  obtain ⟨c2, r2, m2, q1, q2, q3, q4, kP, hkP, hkPi⟩ := Cond.selects_spec hsel
  cases hcls.symm.trans q1
  cases (State.methodFound?_of_named hnamed hy).symm.trans q2
  cases hnamed.symm.trans q3
  have hselP : selectMethod e.platform s.vm cellB.cls mk = .method mk := by rw [Launch.admits_selectMethod X.admits]; exact q4
  obtain ⟨vm₁, X₁, hstep₁⟩ := X.invokevirtual hexec hown hlink hnamed hmethM hstM hkP hkPi hy (a := b) (cell := cellB) hcell
    (fun z h => by rw [h] at hobj; cases hobj) hselP hmethM habM hkP hkPi (g := g) hg (argsL := argsL) (rest := rest) (hlen _ hsigM) hstack hdg
  rcases hK m meth c ⟨T.setVm vm₁, locs, cells, slots⟩ { g with stack := rest } (.invokevirtual index) mk (Value.ref b :: argsL).toArray X₁ hg hsize hdg hW (X₁.named hnamed) (hpre vm₁ X₁.warmed) with ⟨v, B, X', hpost, hsteps⟩ | ⟨q, B, X', hpost, hsteps⟩
  · exact Or.inl ⟨v, vm₁, B, X₁.warmed, X', hpost, fun target h => hstep₁ _ fun acts => by rw [doInvoke_state]; exact hsteps.trans h⟩
  · exact Or.inr ⟨q, vm₁, B, X₁.warmed, X', hpost, hstep₁ _ fun acts => by rw [doInvoke_state]; exact hsteps⟩
theorem vx_callSX (X : Stand p l e R s m args below meth c T locs cells slots) (hexec : p.tables.exec = Jvm.exec) {own : String} {index : Nat} {y : MethodName} {bytes : ByteArray} {maxL : Nat} {ret : Option FieldType} {hh : List (Nat × Nat × Nat × Nat)}
    (hown : s.vm.findClass own = some m.cls) (hlink : (Cond.methodLink own index y).before args s = true) (hstat : (Cond.static y).before args s = true) (hinit : (Cond.initialized y.cls).before args s = true)
    (hcode : (Cond.codeWith y bytes maxL ret hh).before args s = true) (hy : y.cls ≠ "java/lang/invoke/MethodHandle" ∧ y.cls ≠ "java/lang/invoke/VarHandle")
    {W9 : Nat} {Pre : Pt → Array Value → Prop} {Post : Pt → Array Value → Option Value → Pt → Prop} {PostX : Pt → Array Value → Addr → Pt → Prop} (hK : vx_Back l R p e below s args y 3 W9 Pre Post PostX)
    {g : JFrame} (hg : g.method = m) (hsize : g.locals.size = c.maxLocals) {argsL rest : List Value} (hlen : ∀ sig, parseMethodDescriptor y.desc = some sig → argsL.length = sig.parameters.length)
    (hstack : g.stack = argsL.reverse ++ rest) (hW : 2 * g.monitorRoom + (rest.map fun v => v.category).sum ≤ W9) (hdg : decode c.code g.pc = .ok (.invokestatic index, 3))
    (hpre : ∀ vm₁, s.WarmedH vm₁ → Pre ⟨T.setVm vm₁, locs, cells, slots⟩ argsL.toArray) :
    (∃ (v : Option Value) (vm₁ : Vm) (B : Pt), s.WarmedH vm₁ ∧ Stand p l e R s m args below meth c B.U B.locs B.cells B.slots ∧ Post ⟨T.setVm vm₁, locs, cells, slots⟩ argsL.toArray v B ∧
      ∀ target, Steps p.tables e below (B.U.setTop { g with pc := g.pc + 3, stack := v.toList ++ rest }) target → Steps p.tables e below (T.setTop g) target) ∨
    (∃ (q : Addr) (vm₁ : Vm) (B : Pt), s.WarmedH vm₁ ∧ Stand p l e R s m args below meth c B.U B.locs B.cells B.slots ∧ PostX ⟨T.setVm vm₁, locs, cells, slots⟩ argsL.toArray q B ∧
      Steps p.tables e below (T.setTop g) ((B.U.setTop { g with stack := rest }).pushFrame (.throwing q))) := by
  obtain ⟨mk, methM, cM, hnamed, hmethM, -, -, -, -, -, -, hsigM⟩ := Cond.codeWith_spec hcode
  have hstatic : methM.isStatic = true := Cond.static_spec hnamed hmethM hstat
  obtain ⟨kP, hkP, -⟩ := className_of_methodNamed hnamed
  have hinitP : kP.init = .initialized := Cond.initialized_spec (findClass_of_methodNamed hnamed) hkP hinit
  obtain ⟨vm₁, X₁, hstep₁⟩ := X.invokestatic hexec hown hlink hnamed hmethM hstatic hkP hinitP hy (g := g) hg (argsL := argsL) (rest := rest) (hlen _ hsigM) hstack hdg
  rcases hK m meth c ⟨T.setVm vm₁, locs, cells, slots⟩ { g with stack := rest } (.invokestatic index) mk argsL.toArray X₁ hg hsize hdg hW (X₁.named hnamed) (hpre vm₁ X₁.warmed) with ⟨v, B, X', hpost, hsteps⟩ | ⟨q, B, X', hpost, hsteps⟩
  · exact Or.inl ⟨v, vm₁, B, X₁.warmed, X', hpost, fun target h => hstep₁ _ fun acts => by rw [doInvoke_state]; exact hsteps.trans h⟩
  · exact Or.inr ⟨q, vm₁, B, X₁.warmed, X', hpost, hstep₁ _ fun acts => by rw [doInvoke_state]; exact hsteps⟩
theorem vx_callVW (X : Stand p l e R s m args below meth c T locs cells slots) (hexec : p.tables.exec = Jvm.exec) {own C : String} {index : Nat} {y : MethodName} {bytes : ByteArray} {maxL : Nat} {ret : Option FieldType} {hh : List (Nat × Nat × Nat × Nat)}
    (hown : s.vm.findClass own = some m.cls) (hlink : (Cond.methodLink own index y).before args s = true) (hinst : (Cond.instanceMethod y).before args s = true) (hsel : (Cond.selects C y y).before args s = true)
    (hcode : (Cond.codeWith y bytes maxL ret hh).before args s = true) (hy : y.cls ≠ "java/lang/invoke/MethodHandle" ∧ y.cls ≠ "java/lang/invoke/VarHandle")
    {W9 : Nat} {Pre : Pt → Array Value → Prop} {Post : Pt → Array Value → Option Value → Pt → Prop} (hK : Back l R p e below s args y 3 W9 Pre Post)
    {b : Addr} {cellB : Cell} (hcell : T.heap[b]? = some cellB) (hobj : cellB.vm.isStatics = false) (hcls : s.vm.findClass C = some cellB.cls)
    {g : JFrame} (hg : g.method = m) (hsize : g.locals.size = c.maxLocals) {argsL rest : List Value} (hlen : ∀ sig, parseMethodDescriptor y.desc = some sig → argsL.length = sig.parameters.length)
    (hstack : g.stack = argsL.reverse ++ .ref b :: rest) (hW : 2 * g.monitorRoom + (rest.map fun v => v.category).sum ≤ W9) (hdg : decode c.code g.pc = .ok (.invokevirtual index, 3))
    (hpre : ∀ vm₁, s.WarmedH vm₁ → Pre ⟨T.setVm vm₁, locs, cells, slots⟩ (Value.ref b :: argsL).toArray) :
    ∃ (v : Option Value) (vm₁ : Vm) (B : Pt), s.WarmedH vm₁ ∧ Stand p l e R s m args below meth c B.U B.locs B.cells B.slots ∧ Post ⟨T.setVm vm₁, locs, cells, slots⟩ (Value.ref b :: argsL).toArray v B ∧
      ∀ target, Steps p.tables e below (B.U.setTop { g with pc := g.pc + 3, stack := v.toList ++ rest }) target → Steps p.tables e below (T.setTop g) target := by
  obtain ⟨mk, methM, hnamed, hmethM, hstM, habM⟩ := Cond.instanceMethod_spec hinst
  obtain ⟨m8, methM', cM, hn8, hmethM', -, -, -, -, -, -, hsigM⟩ := Cond.codeWith_spec hcode
  cases Option.some.inj (hn8.symm.trans hnamed)
  cases hmethM.symm.trans hmethM'
  obtain ⟨c2, r2, m2, q1, q2, q3, q4, kP, hkP, hkPi⟩ := Cond.selects_spec hsel
  cases hcls.symm.trans q1
  cases (State.methodFound?_of_named hnamed hy).symm.trans q2
  cases hnamed.symm.trans q3
  have hselP : selectMethod e.platform s.vm cellB.cls mk = .method mk := by rw [Launch.admits_selectMethod X.admits]; exact q4
  obtain ⟨vm₁, X₁, hstep₁⟩ := X.invokevirtual hexec hown hlink hnamed hmethM hstM hkP hkPi hy (a := b) (cell := cellB) hcell
    (fun z h => by rw [h] at hobj; cases hobj) hselP hmethM habM hkP hkPi (g := g) hg (argsL := argsL) (rest := rest) (hlen _ hsigM) hstack hdg
  obtain ⟨v, B, X', hpost, hsteps⟩ := hK m meth c ⟨T.setVm vm₁, locs, cells, slots⟩ { g with stack := rest } (.invokevirtual index) mk (Value.ref b :: argsL).toArray X₁ hg hsize hdg hW (X₁.named hnamed) (hpre vm₁ X₁.warmed)
  exact ⟨v, vm₁, B, X₁.warmed, X', hpost, fun target h => hstep₁ _ fun acts => by rw [doInvoke_state]; exact hsteps.trans h⟩
abbrev vx_CVW (R : Room) (s : State) (args : Array Value) (own C : String) (index : Nat) (y : MethodName) (bytes : ByteArray) (maxL : Nat) (ret : Option FieldType) (hh : List (Nat × Nat × Nat × Nat)) (ws : List Cond) (rm : Room) (mc ms n : Nat) : Prop :=
  (rm.cells = mc ∧ rm.slots = ms ∧ rm.frames + 1 ≤ R.frames ∧ 8 + (maxL + 11) + rm.locals ≤ R.locals ∧ (∀ w ∈ ws, ∀ (a' : Array Value) (U : State), s.WarmedH U.vm → w.before a' U = true) ∧ Cond.codeWith y bytes maxL ret hh ∈ ws) ∧
  (Cond.codeWith y bytes maxL ret hh).before args s = true ∧ (Cond.initialized y.cls).before args s = true ∧ (y.cls ≠ "java/lang/invoke/MethodHandle" ∧ y.cls ≠ "java/lang/invoke/VarHandle") ∧
  (∀ sig, parseMethodDescriptor y.desc = some sig → n = sig.parameters.length) ∧ (Cond.methodLink own index y).before args s = true ∧ (Cond.instanceMethod y).before args s = true ∧ (Cond.selects C y y).before args s = true
theorem vx_cwVW {own C : String} {index maxL mc ms : Nat} {y : MethodName} {bytes : ByteArray} {ret : Option FieldType} {hh : List (Nat × Nat × Nat × Nat)} {Ts ws ws' : List Cond} {rm : Room} (n : Nat) (ht : ∀ w ∈ Ts, w.before args s = true) (hT : GoodIn Ts (wsV own index C y ws)) (hw : ws = Cond.codeWith y bytes maxL ret hh :: ws') (hrc : rm.cells = mc) (hrs : rm.slots = ms)
    (hd : y.cls = C ∧ y.cls ≠ "java/lang/invoke/MethodHandle" ∧ y.cls ≠ "java/lang/invoke/VarHandle" ∧ (parseMethodDescriptor y.desc).map (fun d => d.parameters.length) = some n) (hR : rm.frames + 1 ≤ R.frames ∧ 8 + (maxL + 11) + rm.locals ≤ R.locals) :
    vx_CVW R s args own C index y bytes maxL ret hh ws rm mc ms n := by
  obtain ⟨hC, hd⟩ := hd
  subst hC
  have ok : ∀ w ∈ wsV own index y.cls y ws, w.before args s = true := fun w h => ht w (hT w h).1
  have hG : GoodIn Ts ws := fun w h => hT w (by unfold wsV; exact List.mem_append_right _ h)
  have hc : Cond.codeWith y bytes maxL ret hh ∈ ws := by rw [hw]; exact List.mem_cons_self
  refine ⟨⟨hrc, hrs, hR.1, hR.2, pay_in ht hG, hc⟩, ht _ (hG _ hc).1, ok _ (by simp [wsV]), ⟨hd.1, hd.2.1⟩, fun sig h => ?_, ok _ (by simp [wsV]), ok _ (by simp [wsV]), ok _ (by simp [wsV])⟩
  have h2 := hd.2.2
  rw [h] at h2
  exact (Option.some.inj h2).symm
theorem vx_runVW {y : MethodName} {bytes cc : ByteArray} {maxL nL mc ms n index : Nat} {ret : Option FieldType} {hh : List (Nat × Nat × Nat × Nat)} {ws : List Cond} {rm : Room} {Pc : Array Value → State → Prop} {Qc : Array Value → State → Outcome → State → Prop} {free : Addr → Prop} {Ts : List Cond} {own C : String} {b : Addr} {As rest : List Value} {g : JFrame}
    (S : CallFix p m c cc nL s args Ts own) (hM : Met l y ws rm Pc Qc mc ms free) (cw : vx_CVW R s args own C index y bytes maxL ret hh ws rm mc ms n) (hp : PreV s H C b Pc As)
    (hg : g.method = m) (hn : As.length = n) (hsize : g.locals.size = nL) (hstack : g.stack = As.reverse ++ .ref b :: rest) (hW : 2 * g.monitorRoom + (rest.map fun v => v.category).sum ≤ 8) (hdg : decode cc g.pc = .ok (.invokevirtual index, 3)) (hf : cells + mc ≤ R.cells ∧ slots + ms ≤ R.slots) :
    va_Run p l e R s m args below meth c H locs cells slots mc ms g rest (Qc (Value.ref b :: As).toArray) free := by
  obtain ⟨⟨hrc, hrs, hfr, hlo, hws, hcw⟩, hcode, hini, hy, hlen, hl, hin, hse⟩ := cw
  have hK : Back l R p e below s args y 3 8 (PreOf R mc ms Pc) (PostOf Qc mc ms free) := va_backW (hh := hh) (bytes := bytes) (maxL := maxL) (ret := ret) hM hp.1 hrc hrs hfr hlo hws hcw (fun a' U hW => word_at hW (Or.inl (by first | rfl | simp [Cond.onTables, Cond.keeps, Cond.steady])) hini)
  obtain ⟨hx, hb, hml, ho, -⟩ := S
  obtain ⟨-, ⟨cellB, hcB, hoB, hclB⟩, hPc⟩ := hp
  intro T hT X
  obtain ⟨v, vm₁, ⟨U', l2, c2, s2⟩, hW₁, X', ⟨g', mk, t, L, e1, e2, hq, h1, hL, h2, h3⟩, st⟩ := vx_callVW X hx (C := C) (hh := hh) (bytes := bytes) (maxL := maxL) (ret := ret) ho hl hin hse hcode hy hK (by rw [hT]; exact hcB) hoB hclB hg (hsize.trans hml.symm) (argsL := As) (rest := rest) (fun sig h => hn.trans (hlen sig h)) hstack hW (by rw [hb]; exact hdg)
    (fun vm₁ hW₁ => ⟨hf.1, hf.2, hPc (T.setVm vm₁) hT hW₁⟩)
  dsimp only [Pt.U, Pt.locs, Pt.cells, Pt.slots] at X' e1 e2 h1 h2 h3 st
  subst h1; subst h2; subst h3
  exact ⟨v, (T.setVm vm₁).calling g' mk (Value.ref b :: As).toArray, t, U', L, hT, X', hL, e1, e2, hq, st⟩
section
variable {y : MethodName} {bytes cc : ByteArray} {maxL nL mc ms n index : Nat} {ret : Option FieldType} {ws : List Cond} {rm : Room} {Pc : Array Value → State → Prop} {Qc : Array Value → State → Outcome → State → Prop} {XC : String → State → State → Prop} {free : Addr → Prop} {Ts : List Cond} {own C : String} {b : Addr} {As rest : List Value} {g : JFrame}
theorem vx_runVX {hh : List (Nat × Nat × Nat × Nat)} (S : CallFix p m c cc nL s args Ts own) (hM : vx_Met l y ws rm Pc Qc XC mc ms free) (cw : vx_CVW R s args own C index y bytes maxL ret hh ws rm mc ms n) (hp : PreV s H C b Pc As)
    (hg : g.method = m) (hn : As.length = n) (hsize : g.locals.size = nL) (hstack : g.stack = As.reverse ++ .ref b :: rest) (hW : 2 * g.monitorRoom + (rest.map fun v => v.category).sum ≤ 8) (hdg : decode cc g.pc = .ok (.invokevirtual index, 3)) (hf : cells + mc ≤ R.cells ∧ slots + ms ≤ R.slots) :
    vx_Run p l e R s m args below meth c H locs cells slots mc ms g rest (Qc (Value.ref b :: As).toArray) XC free := by
  obtain ⟨⟨hrc, hrs, hfr, hlo, hws, hcw⟩, hcode, hini, hy, hlen, hl, hin, hse⟩ := cw
  have hK : vx_Back l R p e below s args y 3 8 (PreOf R mc ms Pc) (PostOf Qc mc ms free) (vx_Post XC mc ms free) := vx_backW (hh := hh) (bytes := bytes) (maxL := maxL) (ret := ret) hM hp.1 hrc hrs hfr hlo hws hcw (fun a' U hW => word_at hW (Or.inl (by first | rfl | simp [Cond.onTables, Cond.keeps, Cond.steady])) hini)
  obtain ⟨hx, hb, hml, ho, -⟩ := S
  obtain ⟨-, ⟨cellB, hcB, hoB, hclB⟩, hPc⟩ := hp
  intro T hT X
  rcases vx_callVX X hx (C := C) (hh := hh) (bytes := bytes) (maxL := maxL) (ret := ret) ho hl hin hse hcode hy hK (by rw [hT]; exact hcB) hoB hclB hg (hsize.trans hml.symm) (argsL := As) (rest := rest) (fun sig h => hn.trans (hlen sig h)) hstack hW (by rw [hb]; exact hdg)
    (fun vm₁ hW₁ => ⟨hf.1, hf.2, hPc (T.setVm vm₁) hT hW₁⟩) with ⟨v, vm₁, ⟨U', l2, c2, s2⟩, hW₁, X', ⟨g', mk, t, L, e1, e2, hq, h1, hL, h2, h3⟩, st⟩ | ⟨q, vm₁, ⟨U', l2, c2, s2⟩, hW₁, X', ⟨g', mk, t, L, E, ce, e1, e2, hq, hce, hcv, hcl, h1, hL, h2, h3⟩, st⟩
  · dsimp only [Pt.U, Pt.locs, Pt.cells, Pt.slots] at X' e1 e2 h1 h2 h3 st
    subst h1; subst h2; subst h3
    exact Or.inl ⟨v, (T.setVm vm₁).calling g' mk (Value.ref b :: As).toArray, t, U', L, hT, X', hL, e1, e2, hq, st⟩
  · dsimp only [Pt.U, Pt.locs, Pt.cells, Pt.slots] at X' e1 e2 h1 h2 h3 st hcl
    subst h1; subst h2; subst h3
    exact Or.inr ⟨q, (T.setVm vm₁).calling g' mk (Value.ref b :: As).toArray, t, U', L, E, ce, hT, X', hL, e1, e2, hq, hce, hcv, vx_cls hW₁ hcl, st⟩
theorem vx_runSX {hh : List (Nat × Nat × Nat × Nat)} (S : CallFix p m c cc nL s args Ts own) (hM : vx_Met l y ws rm Pc Qc XC mc ms free) (cw : vx_CSW R s args own index y bytes maxL ret hh ws rm mc ms n) (hp : PreS s H Pc As)
    (hg : g.method = m) (hn : As.length = n) (hsize : g.locals.size = nL) (hstack : g.stack = As.reverse ++ rest) (hW : 2 * g.monitorRoom + (rest.map fun v => v.category).sum ≤ 8) (hdg : decode cc g.pc = .ok (.invokestatic index, 3)) (hf : cells + mc ≤ R.cells ∧ slots + ms ≤ R.slots) :
    vx_Run p l e R s m args below meth c H locs cells slots mc ms g rest (Qc As.toArray) XC free := by
  obtain ⟨⟨hrc, hrs, hfr, hlo, hws, hcw⟩, hcode, hini, hy, hlen, hl, hstt⟩ := cw
  have hK : vx_Back l R p e below s args y 3 8 (PreOf R mc ms Pc) (PostOf Qc mc ms free) (vx_Post XC mc ms free) := vx_backW (hh := hh) (bytes := bytes) (maxL := maxL) (ret := ret) hM hp.1 hrc hrs hfr hlo hws hcw (fun a' U hW => word_at hW (Or.inl (by first | rfl | simp [Cond.onTables, Cond.keeps, Cond.steady])) hini)
  obtain ⟨hx, hb, hml, ho, -⟩ := S
  intro T hT X
  rcases vx_callSX X hx (hh := hh) (bytes := bytes) (maxL := maxL) (ret := ret) ho hl hstt hini hcode hy hK hg (hsize.trans hml.symm) (argsL := As) (rest := rest) (fun sig h => hn.trans (hlen sig h)) hstack hW (by rw [hb]; exact hdg)
    (fun vm₁ hW₁ => ⟨hf.1, hf.2, hp.2 (T.setVm vm₁) hT hW₁⟩) with ⟨v, vm₁, ⟨U', l2, c2, s2⟩, hW₁, X', ⟨g', mk, t, L, e1, e2, hq, h1, hL, h2, h3⟩, st⟩ | ⟨q, vm₁, ⟨U', l2, c2, s2⟩, hW₁, X', ⟨g', mk, t, L, E, ce, e1, e2, hq, hce, hcv, hcl, h1, hL, h2, h3⟩, st⟩
  · dsimp only [Pt.U, Pt.locs, Pt.cells, Pt.slots] at X' e1 e2 h1 h2 h3 st
    subst h1; subst h2; subst h3
    exact Or.inl ⟨v, (T.setVm vm₁).calling g' mk As.toArray, t, U', L, hT, X', hL, e1, e2, hq, st⟩
  · dsimp only [Pt.U, Pt.locs, Pt.cells, Pt.slots] at X' e1 e2 h1 h2 h3 st hcl
    subst h1; subst h2; subst h3
    exact Or.inr ⟨q, (T.setVm vm₁).calling g' mk As.toArray, t, U', L, E, ce, hT, X', hL, e1, e2, hq, hce, hcv, vx_cls hW₁ hcl, st⟩
end
end VXH
theorem vx_ofWH {l : Launch} {y : MethodName} {ws ws' : List Cond} {rm : Room} {Pc : Array Value → State → Prop} {Qc : Array Value → State → Outcome → State → Prop} {XC : String → State → State → Prop} {mc ms : Nat} {free : Addr → Prop} {cc : ByteArray} {maxL : Nat} {ret : Option FieldType} {hh : List (Nat × Nat × Nat × Nat)}
    (hy : plainName y.cls = true) (hw : ws = Cond.codeWith y cc maxL ret hh :: ws')
    (body : ∀ p e s m args below meth c s₁, BodyLoose p l y (headSpec ws rm) cc maxL ret e s m args below meth c s₁ → c.maxLocals = maxL → Pc args s →
      W p l e (headSpec ws rm).room s m args below meth c s.heap [] 0 0 (vx_MQ below Qc XC args s mc ms free) (entryFrame m args maxL)) : vx_Met l y ws rm Pc Qc XC mc ms free := by
  refine MetFree.of_bodyS (code := cc) (maxLocals := maxL) (ret := ret) hy ?_ ?_
  · intro args s m h hn
    obtain ⟨m9, meth, c, hn9, h1, h2, h3, h4, -, h5, h6, -⟩ := Cond.codeWith_spec (atoms_spec (ws := ws) h _ (by rw [hw]; exact List.mem_cons_self))
    cases hn.symm.trans hn9
    exact ⟨meth, c, h1, h2, h3, h4, h5, h6⟩
  · intro p e s m args below meth c s₁ B hml hP _
    have hh0 : s₁.heap = s.heap := by rw [B.state]; rfl
    obtain ⟨t, a1, o, b1, b2, b3⟩ := body p e s m args below meth c s₁ B hml hP s₁ hh0 (Stand.of_body B)
    exact ⟨t, o, a1, b1, b2, b3⟩
/-! ===== END ===== -/

/-! ===== BEGIN printed: names, fields, word lists, decode rows ===== -/
def RX0 : String := "TermBill$Aid"
def TX0 : u_T := fun k => match k with
  | 0 => ("TermBill$Aid", "ranks", "[I", true)
  | 1 => ("TermBill$Aid", "amounts", "[I", true)
  | 2 => ("TermBill$Aid", "uses", "[I", true)
  | _ => ("TermBill$Aid", "many", "I", false)
def tyX0 : Nat → FieldType := fun k => match k with
  | 0 => .array .int
  | 1 => .array .int
  | 2 => .array .int
  | _ => .int
abbrev wsX00 : List Cond := u_ws RX0 TX0 4
theorem nmX0 : ∀ a, a < 4 → ∀ b, b < 4 → a ≠ b → (TX0 a).2.1 ≠ (TX0 b).2.1 := by decide +kernel
theorem tyX0_ok : ∀ k, k < 4 → parseFieldDescriptor (TX0 k).2.2.1 = some (tyX0 k) := by decide +kernel
abbrev cX0_init : ByteArray := prog_2_method_1_code
def yX0_init : MethodName := ⟨RX0, "<init>", "()V"⟩
abbrev cX0_add : ByteArray := prog_2_method_2_code
def yX0_add : MethodName := ⟨RX0, "add", "(II)I"⟩
abbrev cX0_has : ByteArray := prog_2_method_3_code
def yX0_has : MethodName := ⟨RX0, "has", "(I)Z"⟩
abbrev cX0_sumOf : ByteArray := prog_2_method_4_code
def yX0_sumOf : MethodName := ⟨RX0, "sumOf", "(I)I"⟩
abbrev cX0_useOf : ByteArray := prog_2_method_5_code
def yX0_useOf : MethodName := ⟨RX0, "useOf", "(I)I"⟩
abbrev cX0_total : ByteArray := prog_2_method_6_code
def yX0_total : MethodName := ⟨RX0, "total", "()I"⟩
abbrev cX0_cover : ByteArray := prog_2_method_7_code
def yX0_cover : MethodName := ⟨RX0, "cover", "(II)I"⟩
abbrev cX0_takeOff : ByteArray := prog_2_method_8_code
def yX0_takeOff : MethodName := ⟨RX0, "takeOff", "(I)V"⟩
abbrev cX0_clear : ByteArray := prog_2_method_9_code
def yX0_clear : MethodName := ⟨RX0, "clear", "()V"⟩
def RX1 : String := "TermBill$Courses"
def TX1 : u_T := fun k => match k with
  | 0 => ("TermBill$Courses", "creditsByCourse", "[I", true)
  | 1 => ("TermBill$Courses", "taken", "I", false)
  | _ => ("TermBill$Courses", "keptSum", "I", false)
def tyX1 : Nat → FieldType := fun k => match k with
  | 0 => .array .int
  | 1 => .int
  | _ => .int
abbrev wsX10 : List Cond := u_ws RX1 TX1 3
theorem nmX1 : ∀ a, a < 3 → ∀ b, b < 3 → a ≠ b → (TX1 a).2.1 ≠ (TX1 b).2.1 := by decide +kernel
theorem tyX1_ok : ∀ k, k < 3 → parseFieldDescriptor (TX1 k).2.2.1 = some (tyX1 k) := by decide +kernel
abbrev cX1_init : ByteArray := prog_3_method_1_code
def yX1_init : MethodName := ⟨RX1, "<init>", "()V"⟩
abbrev cX1_add : ByteArray := prog_3_method_2_code
def yX1_add : MethodName := ⟨RX1, "add", "(I)I"⟩
abbrev cX1_has : ByteArray := prog_3_method_3_code
def yX1_has : MethodName := ⟨RX1, "has", "(I)Z"⟩
abbrev cX1_creditsOf : ByteArray := prog_3_method_4_code
def yX1_creditsOf : MethodName := ⟨RX1, "creditsOf", "(I)I"⟩
abbrev cX1_remove : ByteArray := prog_3_method_5_code
def yX1_remove : MethodName := ⟨RX1, "remove", "(I)V"⟩
abbrev cX1_total : ByteArray := prog_3_method_6_code
def yX1_total : MethodName := ⟨RX1, "total", "()I"⟩
abbrev cX1_clear : ByteArray := prog_3_method_7_code
def yX1_clear : MethodName := ⟨RX1, "clear", "()V"⟩
def RX2 : String := "TermBill$Instalments"
def TX2 : u_T := fun k => match k with
  | 0 => ("TermBill$Instalments", "madeAt", "I", false)
  | 1 => ("TermBill$Instalments", "many", "I", false)
  | 2 => ("TermBill$Instalments", "first", "I", false)
  | 3 => ("TermBill$Instalments", "each", "I", false)
  | _ => ("TermBill$Instalments", "paidSince", "I", false)
def tyX2 : Nat → FieldType := fun k => match k with
  | 0 => .int
  | 1 => .int
  | 2 => .int
  | 3 => .int
  | _ => .int
abbrev wsX20 : List Cond := u_ws RX2 TX2 5
theorem nmX2 : ∀ a, a < 5 → ∀ b, b < 5 → a ≠ b → (TX2 a).2.1 ≠ (TX2 b).2.1 := by decide +kernel
theorem tyX2_ok : ∀ k, k < 5 → parseFieldDescriptor (TX2 k).2.2.1 = some (tyX2 k) := by decide +kernel
abbrev cX2_init : ByteArray := prog_4_method_1_code
def yX2_init : MethodName := ⟨RX2, "<init>", "()V"⟩
abbrev cX2_start : ByteArray := prog_4_method_2_code
def yX2_start : MethodName := ⟨RX2, "start", "(IIII)V"⟩
abbrev cX2_isLateAt : ByteArray := prog_4_method_3_code
def yX2_isLateAt : MethodName := ⟨RX2, "isLateAt", "(I)Z"⟩
def RX3 : String := "TermBill$Student"
def TX3 : u_T := fun k => match k with
  | 0 => ("TermBill$Student", "courses", "LTermBill$Courses;", true)
  | 1 => ("TermBill$Student", "aid", "LTermBill$Aid;", true)
  | 2 => ("TermBill$Student", "instalments", "LTermBill$Instalments;", true)
  | 3 => ("TermBill$Student", "level", "I", false)
  | 4 => ("TermBill$Student", "isResident", "Z", false)
  | 5 => ("TermBill$Student", "need", "I", false)
  | 6 => ("TermBill$Student", "fees", "I", false)
  | 7 => ("TermBill$Student", "housing", "I", false)
  | 8 => ("TermBill$Student", "sponsorKinds", "I", false)
  | 9 => ("TermBill$Student", "sponsorLimit", "I", false)
  | _ => ("TermBill$Student", "paidSum", "I", false)
def tyX3 : Nat → FieldType := fun k => match k with
  | 0 => .object "TermBill$Courses"
  | 1 => .object "TermBill$Aid"
  | 2 => .object "TermBill$Instalments"
  | 3 => .int
  | 4 => .boolean
  | 5 => .int
  | 6 => .int
  | 7 => .int
  | 8 => .int
  | 9 => .int
  | _ => .int
abbrev wsX30 : List Cond := u_ws RX3 TX3 11
theorem nmX3 : ∀ a, a < 11 → ∀ b, b < 11 → a ≠ b → (TX3 a).2.1 ≠ (TX3 b).2.1 := by decide +kernel
theorem tyX3_ok : ∀ k, k < 11 → parseFieldDescriptor (TX3 k).2.2.1 = some (tyX3 k) := by decide +kernel
abbrev cX3_init : ByteArray := prog_5_method_1_code
def yX3_init : MethodName := ⟨RX3, "<init>", "()V"⟩
abbrev cX3_beginTerm : ByteArray := prog_5_method_2_code
def yX3_beginTerm : MethodName := ⟨RX3, "beginTerm", "(I)V"⟩
def RX4 : String := "TermBill"
def TX4 : u_T := fun k => match k with
  | 0 => ("TermBill", "students", "[LTermBill$Student;", true)
  | 1 => ("TermBill", "rates", "[I", true)
  | 2 => ("TermBill", "shares", "[I", true)
  | 3 => ("TermBill", "bandFrom", "I", false)
  | 4 => ("TermBill", "bandTo", "I", false)
  | 5 => ("TermBill", "lateFee", "I", false)
  | 6 => ("TermBill", "holdLimit", "I", false)
  | 7 => ("TermBill", "week", "I", false)
  | _ => ("TermBill", "term", "I", false)
def tyX4 : Nat → FieldType := fun k => match k with
  | 0 => .array (.object "TermBill$Student")
  | 1 => .array .int
  | 2 => .array .int
  | 3 => .int
  | 4 => .int
  | 5 => .int
  | 6 => .int
  | 7 => .int
  | _ => .int
abbrev wsX40 : List Cond := u_ws RX4 TX4 9
theorem nmX4 : ∀ a, a < 9 → ∀ b, b < 9 → a ≠ b → (TX4 a).2.1 ≠ (TX4 b).2.1 := by decide +kernel
theorem tyX4_ok : ∀ k, k < 9 → parseFieldDescriptor (TX4 k).2.2.1 = some (tyX4 k) := by decide +kernel
abbrev cX4_init : ByteArray := prog_1_method_1_code
def yX4_init : MethodName := ⟨RX4, "<init>", "()V"⟩
abbrev cX4_setRate : ByteArray := prog_1_method_2_code
def yX4_setRate : MethodName := ⟨RX4, "setRate", "(IZI)I"⟩
abbrev cX4_setBand : ByteArray := prog_1_method_3_code
def yX4_setBand : MethodName := ⟨RX4, "setBand", "(II)V"⟩
abbrev cX4_setShare : ByteArray := prog_1_method_4_code
def yX4_setShare : MethodName := ⟨RX4, "setShare", "(II)I"⟩
abbrev cX4_setFees : ByteArray := prog_1_method_5_code
def yX4_setFees : MethodName := ⟨RX4, "setFees", "(II)V"⟩
abbrev cX4_setStudent : ByteArray := prog_1_method_6_code
def yX4_setStudent : MethodName := ⟨RX4, "setStudent", "(IIZI)V"⟩
abbrev cX4_setSponsor : ByteArray := prog_1_method_7_code
def yX4_setSponsor : MethodName := ⟨RX4, "setSponsor", "(III)V"⟩
abbrev cX4_take : ByteArray := prog_1_method_8_code
def yX4_take : MethodName := ⟨RX4, "take", "(II)I"⟩
abbrev cX4_drop : ByteArray := prog_1_method_9_code
def yX4_drop : MethodName := ⟨RX4, "drop", "(II)I"⟩
abbrev cX4_charge : ByteArray := prog_1_method_10_code
def yX4_charge : MethodName := ⟨RX4, "charge", "(III)I"⟩
abbrev cX4_award : ByteArray := prog_1_method_11_code
def yX4_award : MethodName := ⟨RX4, "award", "(III)I"⟩
abbrev cX4_pay : ByteArray := prog_1_method_12_code
def yX4_pay : MethodName := ⟨RX4, "pay", "(II)I"⟩
abbrev cX4_plan : ByteArray := prog_1_method_13_code
def yX4_plan : MethodName := ⟨RX4, "plan", "(II)I"⟩
abbrev cX4_leave : ByteArray := prog_1_method_14_code
def yX4_leave : MethodName := ⟨RX4, "leave", "(I)I"⟩
abbrev cX4_closeWeek : ByteArray := prog_1_method_15_code
def yX4_closeWeek : MethodName := ⟨RX4, "closeWeek", "()I"⟩
abbrev cX4_week : ByteArray := prog_1_method_16_code
def yX4_week : MethodName := ⟨RX4, "week", "()I"⟩
abbrev cX4_term : ByteArray := prog_1_method_17_code
def yX4_term : MethodName := ⟨RX4, "term", "()I"⟩
abbrev cX4_credits : ByteArray := prog_1_method_18_code
def yX4_credits : MethodName := ⟨RX4, "credits", "(I)I"⟩
abbrev cX4_charged : ByteArray := prog_1_method_19_code
def yX4_charged : MethodName := ⟨RX4, "charged", "(II)I"⟩
abbrev cX4_sponsored : ByteArray := prog_1_method_20_code
def yX4_sponsored : MethodName := ⟨RX4, "sponsored", "(I)I"⟩
abbrev cX4_used : ByteArray := prog_1_method_21_code
def yX4_used : MethodName := ⟨RX4, "used", "(II)I"⟩
abbrev cX4_amountOf : ByteArray := prog_1_method_22_code
def yX4_amountOf : MethodName := ⟨RX4, "amountOf", "(II)I"⟩
abbrev cX4_paid : ByteArray := prog_1_method_23_code
def yX4_paid : MethodName := ⟨RX4, "paid", "(I)I"⟩
abbrev cX4_owed : ByteArray := prog_1_method_24_code
def yX4_owed : MethodName := ⟨RX4, "owed", "(I)I"⟩
abbrev cX4_hasHold : ByteArray := prog_1_method_25_code
def yX4_hasHold : MethodName := ⟨RX4, "hasHold", "(I)Z"⟩
abbrev cX4_isWithin : ByteArray := prog_1_method_26_code
def yX4_isWithin : MethodName := ⟨RX4, "isWithin", "(III)Z"⟩
abbrev cX4_studentAt : ByteArray := prog_1_method_27_code
def yX4_studentAt : MethodName := ⟨RX4, "studentAt", "(I)LTermBill$Student;"⟩
abbrev cX4_weekNumber : ByteArray := prog_1_method_28_code
def yX4_weekNumber : MethodName := ⟨RX4, "weekNumber", "()I"⟩
abbrev cX4_placeOfRate : ByteArray := prog_1_method_29_code
def yX4_placeOfRate : MethodName := ⟨RX4, "placeOfRate", "(IZ)I"⟩
abbrev cX4_rateAt : ByteArray := prog_1_method_30_code
def yX4_rateAt : MethodName := ⟨RX4, "rateAt", "(I)I"⟩
abbrev cX4_shareNow : ByteArray := prog_1_method_31_code
def yX4_shareNow : MethodName := ⟨RX4, "shareNow", "()I"⟩
abbrev cX4_priceOf : ByteArray := prog_1_method_32_code
def yX4_priceOf : MethodName := ⟨RX4, "priceOf", "(II)I"⟩
abbrev cX4_dropCourse : ByteArray := prog_1_method_33_code
def yX4_dropCourse : MethodName := ⟨RX4, "dropCourse", "(LTermBill$Student;I)I"⟩
abbrev cX4_aidToGiveBack : ByteArray := prog_1_method_34_code
def yX4_aidToGiveBack : MethodName := ⟨RX4, "aidToGiveBack", "(I)I"⟩
abbrev cX4_chargesOf : ByteArray := prog_1_method_35_code
def yX4_chargesOf : MethodName := ⟨RX4, "chargesOf", "(LTermBill$Student;I)I"⟩
abbrev cX4_sponsorPart : ByteArray := prog_1_method_36_code
def yX4_sponsorPart : MethodName := ⟨RX4, "sponsorPart", "(LTermBill$Student;)I"⟩
abbrev cX4_unsponsored : ByteArray := prog_1_method_37_code
def yX4_unsponsored : MethodName := ⟨RX4, "unsponsored", "(LTermBill$Student;)I"⟩
abbrev cX4_balanceOf : ByteArray := prog_1_method_38_code
def yX4_balanceOf : MethodName := ⟨RX4, "balanceOf", "(LTermBill$Student;)I"⟩
abbrev cX4_endTerm : ByteArray := prog_1_method_39_code
def yX4_endTerm : MethodName := ⟨RX4, "endTerm", "()V"⟩
abbrev cX4_carriedTo : ByteArray := prog_1_method_40_code
def yX4_carriedTo : MethodName := ⟨RX4, "carriedTo", "(II)I"⟩
abbrev cX4_chargeLateFees : ByteArray := prog_1_method_41_code
def yX4_chargeLateFees : MethodName := ⟨RX4, "chargeLateFees", "()V"⟩
def RX5 : String := "TermBillModel"
def TX5 : u_T := fun k => match k with
  | _ => ("", "", "", false)
def tyX5 : Nat → FieldType := fun k => match k with
  | _ => .int
abbrev wsX50 : List Cond := u_ws RX5 TX5 0
theorem nmX5 : ∀ a, a < 0 → ∀ b, b < 0 → a ≠ b → (TX5 a).2.1 ≠ (TX5 b).2.1 := by decide +kernel
theorem tyX5_ok : ∀ k, k < 0 → parseFieldDescriptor (TX5 k).2.2.1 = some (tyX5 k) := by decide +kernel
def RJx145de : String := "java/io/Serializable"
def TJx145de : u_T := fun k => match k with
  | _ => ("", "", "", false)
def tyJx145de : Nat → FieldType := fun k => match k with
  | _ => .int
abbrev wsJx145de0 : List Cond := u_ws RJx145de TJx145de 0
theorem nmJx145de : ∀ a, a < 0 → ∀ b, b < 0 → a ≠ b → (TJx145de a).2.1 ≠ (TJx145de b).2.1 := by decide +kernel
theorem tyJx145de_ok : ∀ k, k < 0 → parseFieldDescriptor (TJx145de k).2.2.1 = some (tyJx145de k) := by decide +kernel
def RJ9 : String := "java/lang/Math"
def TJ9 : u_T := fun k => match k with
  | _ => ("", "", "", false)
def tyJ9 : Nat → FieldType := fun k => match k with
  | _ => .int
abbrev wsJ90 : List Cond := u_ws RJ9 TJ9 0
theorem nmJ9 : ∀ a, a < 0 → ∀ b, b < 0 → a ≠ b → (TJ9 a).2.1 ≠ (TJ9 b).2.1 := by decide +kernel
theorem tyJ9_ok : ∀ k, k < 0 → parseFieldDescriptor (TJ9 k).2.2.1 = some (tyJ9 k) := by decide +kernel
abbrev cJ9_max_7cf53 : ByteArray := prog_12_method_65_code
def yJ9_max_7cf53 : MethodName := ⟨RJ9, "max", "(II)I"⟩
abbrev cJ9_min_7cf53 : ByteArray := prog_12_method_69_code
def yJ9_min_7cf53 : MethodName := ⟨RJ9, "min", "(II)I"⟩
def RJ0 : String := "java/lang/String"
def TJ0 : u_T := fun k => match k with
  | _ => ("", "", "", false)
def tyJ0 : Nat → FieldType := fun k => match k with
  | _ => .int
abbrev wsJ00 : List Cond := u_ws RJ0 TJ0 0
theorem nmJ0 : ∀ a, a < 0 → ∀ b, b < 0 → a ≠ b → (TJ0 a).2.1 ≠ (TJ0 b).2.1 := by decide +kernel
theorem tyJ0_ok : ∀ k, k < 0 → parseFieldDescriptor (TJ0 k).2.2.1 = some (tyJ0 k) := by decide +kernel
def RJ7 : String := "java/util/Arrays"
def TJ7 : u_T := fun k => match k with
  | _ => ("", "", "", false)
def tyJ7 : Nat → FieldType := fun k => match k with
  | _ => .int
abbrev wsJ70 : List Cond := u_ws RJ7 TJ7 0
theorem nmJ7 : ∀ a, a < 0 → ∀ b, b < 0 → a ≠ b → (TJ7 a).2.1 ≠ (TJ7 b).2.1 := by decide +kernel
theorem tyJ7_ok : ∀ k, k < 0 → parseFieldDescriptor (TJ7 k).2.2.1 = some (tyJ7 k) := by decide +kernel
abbrev cJ7_fill_53178 : ByteArray := prog_16_method_103_code
def yJ7_fill_53178 : MethodName := ⟨RJ7, "fill", "([II)V"⟩
def RL : String := "TermBillLaw"
abbrev cL_cell : ByteArray := method_2_code
def yL_cell : MethodName := ⟨RL, "cell", "([II)I"⟩
abbrev cL_low : ByteArray := method_3_code
def yL_low : MethodName := ⟨RL, "low", "(II)I"⟩
abbrev cL_does : ByteArray := method_4_code
def yL_does : MethodName := ⟨RL, "does", "(LTermBill;IIII)I"⟩
abbrev cL_sets : ByteArray := method_5_code
def yL_sets : MethodName := ⟨RL, "sets", "(LTermBill;IIII)I"⟩
abbrev cL_used : ByteArray := method_6_code
def yL_used : MethodName := ⟨RL, "used", "(LTermBill;II)I"⟩
abbrev cL_act : ByteArray := method_7_code
def yL_act : MethodName := ⟨RL, "act", "(LTermBill;I)I"⟩
abbrev cL_areAlike : ByteArray := method_8_code
def yL_areAlike : MethodName := ⟨RL, "areAlike", "(LTermBill;LTermBill;)Z"⟩
abbrev cL_isOnce : ByteArray := method_9_code
def yL_isOnce : MethodName := ⟨RL, "isOnce", "(LTermBill;I)Z"⟩
abbrev cL_isPaidSo : ByteArray := method_10_code
def yL_isPaidSo : MethodName := ⟨RL, "isPaidSo", "(LTermBill;LTermBill;II)Z"⟩
abbrev cL_isDroppedSo : ByteArray := method_11_code
def yL_isDroppedSo : MethodName := ⟨RL, "isDroppedSo", "(LTermBill;LTermBill;II)Z"⟩
abbrev cL_isClosedSo : ByteArray := method_12_code
def yL_isClosedSo : MethodName := ⟨RL, "isClosedSo", "(LTermBill;LTermBill;)Z"⟩
abbrev cL_law : ByteArray := code
def yL_law : MethodName := ⟨RL, "law", "([I)Z"⟩
def wsX0_init : List Cond := .code yX0_init cX0_init 1 none :: ([.methodLink RX0 3 objectInit, .instanceMethod objectInit, .code objectInit ⟨#[0xb1]⟩ 1 none, .arrayClass .int, .fieldLink RX0 9 "TermBill$Aid" "ranks" "[I", .fieldLink RX0 15 "TermBill$Aid" "amounts" "[I", .fieldLink RX0 18 "TermBill$Aid" "uses" "[I", .fieldLink RX0 21 "TermBill$Aid" "many" "I"] ++ wsX00)
def wsX0_add : List Cond := .code yX0_add cX0_add 3 (some .int) :: ([.fieldLink RX0 21 "TermBill$Aid" "many" "I", .fieldLink RX0 9 "TermBill$Aid" "ranks" "[I", .fieldLink RX0 15 "TermBill$Aid" "amounts" "[I"] ++ wsX00)
def wsX0_has : List Cond := .code yX0_has cX0_has 2 (some .boolean) :: ([.fieldLink RX0 21 "TermBill$Aid" "many" "I"] ++ wsX00)
def wsX0_sumOf : List Cond := .code yX0_sumOf cX0_sumOf 2 (some .int) :: ([.fieldLink RX0 15 "TermBill$Aid" "amounts" "[I"] ++ wsX00)
def wsX0_useOf : List Cond := .code yX0_useOf cX0_useOf 2 (some .int) :: ([.fieldLink RX0 18 "TermBill$Aid" "uses" "[I"] ++ wsX00)
def wsX0_total : List Cond := .code yX0_total cX0_total 3 (some .int) :: ([.fieldLink RX0 15 "TermBill$Aid" "amounts" "[I"] ++ wsX00)
def wsX0_cover : List Cond := .code yX0_cover cX0_cover 8 (some .int) :: ([.fieldLink RX0 9 "TermBill$Aid" "ranks" "[I", .methodLink RX0 25 Lib.Math.min.name, .static Lib.Math.min.name, .initialized "java/lang/Math", .code Lib.Math.min.name Lib.Math.min.code 2 (some .int), .fieldLink RX0 18 "TermBill$Aid" "uses" "[I", .fieldLink RX0 15 "TermBill$Aid" "amounts" "[I"] ++ wsX00)
def wsX0_takeOff : List Cond := .code yX0_takeOff cX0_takeOff 6 none :: ([.fieldLink RX0 9 "TermBill$Aid" "ranks" "[I", .fieldLink RX0 15 "TermBill$Aid" "amounts" "[I", .methodLink RX0 25 Lib.Math.min.name, .static Lib.Math.min.name, .initialized "java/lang/Math", .code Lib.Math.min.name Lib.Math.min.code 2 (some .int)] ++ wsX00)
def wsJ7_fill_53178 : List Cond := .code yJ7_fill_53178 cJ7_fill_53178 4 none :: ([])
def wsX0_clear : List Cond := .code yX0_clear cX0_clear 1 none :: ([.fieldLink RX0 15 "TermBill$Aid" "amounts" "[I", .fieldLink RX0 21 "TermBill$Aid" "many" "I", .methodLink RX0 31 yJ7_fill_53178, .static yJ7_fill_53178, .initialized RJ7, .code yJ7_fill_53178 cJ7_fill_53178 4 none] ++ wsX00)
def wsX1_init : List Cond := .code yX1_init cX1_init 1 none :: ([.methodLink RX1 3 objectInit, .instanceMethod objectInit, .code objectInit ⟨#[0xb1]⟩ 1 none, .arrayClass .int, .fieldLink RX1 9 "TermBill$Courses" "creditsByCourse" "[I", .fieldLink RX1 15 "TermBill$Courses" "taken" "I", .fieldLink RX1 19 "TermBill$Courses" "keptSum" "I"] ++ wsX10)
def wsX1_add : List Cond := .code yX1_add cX1_add 2 (some .int) :: ([.fieldLink RX1 15 "TermBill$Courses" "taken" "I", .fieldLink RX1 9 "TermBill$Courses" "creditsByCourse" "[I"] ++ wsX10)
def wsX1_has : List Cond := .code yX1_has cX1_has 2 (some .boolean) :: ([.fieldLink RX1 15 "TermBill$Courses" "taken" "I"] ++ wsX10)
def wsX1_creditsOf : List Cond := .code yX1_creditsOf cX1_creditsOf 2 (some .int) :: ([.fieldLink RX1 9 "TermBill$Courses" "creditsByCourse" "[I"] ++ wsX10)
def wsX1_remove : List Cond := .code yX1_remove cX1_remove 2 none :: ([.fieldLink RX1 9 "TermBill$Courses" "creditsByCourse" "[I"] ++ wsX10)
def wsX1_total : List Cond := .code yX1_total cX1_total 3 (some .int) :: ([.fieldLink RX1 9 "TermBill$Courses" "creditsByCourse" "[I"] ++ wsX10)
def wsX1_clear : List Cond := .code yX1_clear cX1_clear 1 none :: ([.fieldLink RX1 9 "TermBill$Courses" "creditsByCourse" "[I", .fieldLink RX1 15 "TermBill$Courses" "taken" "I", .fieldLink RX1 19 "TermBill$Courses" "keptSum" "I", .methodLink RX1 22 yJ7_fill_53178, .static yJ7_fill_53178, .initialized RJ7, .code yJ7_fill_53178 cJ7_fill_53178 4 none] ++ wsX10)
def wsX2_init : List Cond := .code yX2_init cX2_init 1 none :: ([.methodLink RX2 3 objectInit, .instanceMethod objectInit, .code objectInit ⟨#[0xb1]⟩ 1 none, .fieldLink RX2 9 "TermBill$Instalments" "madeAt" "I", .fieldLink RX2 15 "TermBill$Instalments" "many" "I", .fieldLink RX2 18 "TermBill$Instalments" "first" "I", .fieldLink RX2 21 "TermBill$Instalments" "each" "I", .fieldLink RX2 24 "TermBill$Instalments" "paidSince" "I"] ++ wsX20)
def wsX2_start : List Cond := .code yX2_start cX2_start 5 none :: ([.fieldLink RX2 9 "TermBill$Instalments" "madeAt" "I", .fieldLink RX2 15 "TermBill$Instalments" "many" "I", .fieldLink RX2 18 "TermBill$Instalments" "first" "I", .fieldLink RX2 21 "TermBill$Instalments" "each" "I", .fieldLink RX2 24 "TermBill$Instalments" "paidSince" "I"] ++ wsX20)
def wsX2_isLateAt : List Cond := .code yX2_isLateAt cX2_isLateAt 4 (some .boolean) :: ([.fieldLink RX2 9 "TermBill$Instalments" "madeAt" "I", .fieldLink RX2 15 "TermBill$Instalments" "many" "I", .fieldLink RX2 24 "TermBill$Instalments" "paidSince" "I", .fieldLink RX2 18 "TermBill$Instalments" "first" "I", .fieldLink RX2 21 "TermBill$Instalments" "each" "I"] ++ wsX20)
def wsX3_init_r1 : List Cond := [Cond.methodLink RX3 1 objectInit, Cond.instanceMethod objectInit, Cond.code objectInit ⟨#[0xb1]⟩ 1 none, Cond.classLink RX3 7 RX1, Cond.instantiable RX1 3, Cond.initialized RX1, Cond.fieldLink RX3 10 "TermBill$Student" "courses" "LTermBill$Courses;", Cond.classLink RX3 16 RX0, Cond.instantiable RX0 4, Cond.initialized RX0, Cond.fieldLink RX3 19 "TermBill$Student" "aid" "LTermBill$Aid;", Cond.classLink RX3 23 RX2, Cond.instantiable RX2 5, Cond.initialized RX2, Cond.fieldLink RX3 26 "TermBill$Student" "instalments" "LTermBill$Instalments;", Cond.fieldLink RX3 30 "TermBill$Student" "level" "I", Cond.fieldLink RX3 34 "TermBill$Student" "isResident" "Z", Cond.fieldLink RX3 38 "TermBill$Student" "need" "I", Cond.fieldLink RX3 41 "TermBill$Student" "fees" "I", Cond.fieldLink RX3 44 "TermBill$Student" "housing" "I", Cond.fieldLink RX3 47 "TermBill$Student" "sponsorKinds" "I", Cond.fieldLink RX3 50 "TermBill$Student" "sponsorLimit" "I", Cond.fieldLink RX3 53 "TermBill$Student" "paidSum" "I", Cond.instanceMethod yX1_init]
def wsX3_init_r2 : List Cond := [Cond.code yX1_init cX1_init 1 none, Cond.methodLink RX1 3 objectInit, Cond.arrayClass .int, Cond.fieldLink RX1 9 "TermBill$Courses" "creditsByCourse" "[I", Cond.fieldLink RX1 15 "TermBill$Courses" "taken" "I", Cond.fieldLink RX1 19 "TermBill$Courses" "keptSum" "I", Cond.instanceMethod yX0_init, Cond.code yX0_init cX0_init 1 none, Cond.methodLink RX0 3 objectInit, Cond.fieldLink RX0 9 "TermBill$Aid" "ranks" "[I", Cond.fieldLink RX0 15 "TermBill$Aid" "amounts" "[I", Cond.fieldLink RX0 18 "TermBill$Aid" "uses" "[I", Cond.fieldLink RX0 21 "TermBill$Aid" "many" "I", Cond.instanceMethod yX2_init, Cond.code yX2_init cX2_init 1 none, Cond.methodLink RX2 3 objectInit, Cond.fieldLink RX2 9 "TermBill$Instalments" "madeAt" "I", Cond.fieldLink RX2 15 "TermBill$Instalments" "many" "I", Cond.fieldLink RX2 18 "TermBill$Instalments" "first" "I", Cond.fieldLink RX2 21 "TermBill$Instalments" "each" "I", Cond.fieldLink RX2 24 "TermBill$Instalments" "paidSince" "I"]
def wsX3_init : List Cond := .code yX3_init cX3_init 1 none :: ((wsX3_init_r1 ++ wsX3_init_r2) ++ wsX10 ++ wsX30 ++ wsX00 ++ wsX20)
def wsX3_beginTerm_r1 : List Cond := [Cond.fieldLink RX3 10 "TermBill$Student" "courses" "LTermBill$Courses;", Cond.fieldLink RX3 19 "TermBill$Student" "aid" "LTermBill$Aid;", Cond.fieldLink RX3 47 "TermBill$Student" "sponsorKinds" "I", Cond.fieldLink RX3 50 "TermBill$Student" "sponsorLimit" "I", Cond.fieldLink RX3 44 "TermBill$Student" "housing" "I", Cond.methodLink RX3 60 Lib.Math.max.name, Cond.static Lib.Math.max.name, Cond.initialized "java/lang/Math", Cond.code Lib.Math.max.name Lib.Math.max.code 2 (some .int), Cond.fieldLink RX3 41 "TermBill$Student" "fees" "I", Cond.fieldLink RX3 53 "TermBill$Student" "paidSum" "I", Cond.methodLink RX3 56 yX1_clear, Cond.instanceMethod yX1_clear, Cond.selects RX1 yX1_clear yX1_clear, Cond.initialized RX1, Cond.code yX1_clear cX1_clear 1 none, Cond.fieldLink RX1 9 "TermBill$Courses" "creditsByCourse" "[I", Cond.fieldLink RX1 15 "TermBill$Courses" "taken" "I", Cond.fieldLink RX1 19 "TermBill$Courses" "keptSum" "I", Cond.methodLink RX1 22 yJ7_fill_53178, Cond.static yJ7_fill_53178, Cond.initialized RJ7, Cond.code yJ7_fill_53178 cJ7_fill_53178 4 none, Cond.methodLink RX3 59 yX0_clear]
def wsX3_beginTerm_r2 : List Cond := [Cond.instanceMethod yX0_clear, Cond.selects RX0 yX0_clear yX0_clear, Cond.initialized RX0, Cond.code yX0_clear cX0_clear 1 none, Cond.fieldLink RX0 15 "TermBill$Aid" "amounts" "[I", Cond.fieldLink RX0 21 "TermBill$Aid" "many" "I", Cond.methodLink RX0 31 yJ7_fill_53178]
def wsX3_beginTerm : List Cond := .code yX3_beginTerm cX3_beginTerm 2 none :: ((wsX3_beginTerm_r1 ++ wsX3_beginTerm_r2) ++ wsX30 ++ wsX10 ++ wsX00)
def wsX4_init_r1 : List Cond := [Cond.methodLink RX4 3 objectInit, Cond.instanceMethod objectInit, Cond.code objectInit ⟨#[0xb1]⟩ 1 none, Cond.classLink RX4 9 RX3, Cond.fieldLink RX4 11 "TermBill" "students" "[LTermBill$Student;", Cond.arrayClass .int, Cond.fieldLink RX4 15 "TermBill" "rates" "[I", Cond.fieldLink RX4 19 "TermBill" "shares" "[I", Cond.fieldLink RX4 22 "TermBill" "bandFrom" "I", Cond.fieldLink RX4 26 "TermBill" "bandTo" "I", Cond.fieldLink RX4 29 "TermBill" "lateFee" "I", Cond.fieldLink RX4 32 "TermBill" "holdLimit" "I", Cond.fieldLink RX4 35 "TermBill" "week" "I", Cond.fieldLink RX4 38 "TermBill" "term" "I", Cond.instantiable RX3 11, Cond.initialized RX3, Cond.instanceMethod yX3_init, Cond.code yX3_init cX3_init 1 none, Cond.methodLink RX3 1 objectInit, Cond.classLink RX3 7 RX1, Cond.instantiable RX1 3, Cond.initialized RX1, Cond.fieldLink RX3 10 "TermBill$Student" "courses" "LTermBill$Courses;", Cond.classLink RX3 16 RX0]
def wsX4_init_r2 : List Cond := [Cond.instantiable RX0 4, Cond.initialized RX0, Cond.fieldLink RX3 19 "TermBill$Student" "aid" "LTermBill$Aid;", Cond.classLink RX3 23 RX2, Cond.instantiable RX2 5, Cond.initialized RX2, Cond.fieldLink RX3 26 "TermBill$Student" "instalments" "LTermBill$Instalments;", Cond.fieldLink RX3 30 "TermBill$Student" "level" "I", Cond.fieldLink RX3 34 "TermBill$Student" "isResident" "Z", Cond.fieldLink RX3 38 "TermBill$Student" "need" "I", Cond.fieldLink RX3 41 "TermBill$Student" "fees" "I", Cond.fieldLink RX3 44 "TermBill$Student" "housing" "I", Cond.fieldLink RX3 47 "TermBill$Student" "sponsorKinds" "I", Cond.fieldLink RX3 50 "TermBill$Student" "sponsorLimit" "I", Cond.fieldLink RX3 53 "TermBill$Student" "paidSum" "I", Cond.instanceMethod yX1_init, Cond.code yX1_init cX1_init 1 none, Cond.methodLink RX1 3 objectInit, Cond.fieldLink RX1 9 "TermBill$Courses" "creditsByCourse" "[I", Cond.fieldLink RX1 15 "TermBill$Courses" "taken" "I", Cond.fieldLink RX1 19 "TermBill$Courses" "keptSum" "I", Cond.instanceMethod yX0_init, Cond.code yX0_init cX0_init 1 none, Cond.methodLink RX0 3 objectInit]
def wsX4_init_r3 : List Cond := [Cond.fieldLink RX0 9 "TermBill$Aid" "ranks" "[I", Cond.fieldLink RX0 15 "TermBill$Aid" "amounts" "[I", Cond.fieldLink RX0 18 "TermBill$Aid" "uses" "[I", Cond.fieldLink RX0 21 "TermBill$Aid" "many" "I", Cond.instanceMethod yX2_init, Cond.code yX2_init cX2_init 1 none, Cond.methodLink RX2 3 objectInit, Cond.fieldLink RX2 9 "TermBill$Instalments" "madeAt" "I", Cond.fieldLink RX2 15 "TermBill$Instalments" "many" "I", Cond.fieldLink RX2 18 "TermBill$Instalments" "first" "I", Cond.fieldLink RX2 21 "TermBill$Instalments" "each" "I", Cond.fieldLink RX2 24 "TermBill$Instalments" "paidSince" "I", Cond.methodLink RX4 42 yJ7_fill_53178, Cond.static yJ7_fill_53178, Cond.initialized RJ7, Cond.code yJ7_fill_53178 cJ7_fill_53178 4 none]
def wsX4_init : List Cond := .code yX4_init cX4_init 2 none :: ((wsX4_init_r1 ++ (wsX4_init_r2 ++ wsX4_init_r3)) ++ wsX40 ++ wsX30 ++ wsX10 ++ wsX00 ++ wsX20)
def wsX4_placeOfRate : List Cond := .code yX4_placeOfRate cX4_placeOfRate 2 (some .int) :: ([])
def wsX4_isWithin : List Cond := .code yX4_isWithin cX4_isWithin 3 (some .boolean) :: ([])
def wsX4_setRate : List Cond := .code yX4_setRate cX4_setRate 6 (some .int) :: ([.classLink RX4 57 "java/lang/IllegalArgumentException", .initialized "java/lang/IllegalArgumentException", .fieldLink RX4 15 "TermBill" "rates" "[I", .constant RX4 52 (100000), .methodLink RX4 48 yX4_placeOfRate, .static yX4_placeOfRate, .initialized RX4, .code yX4_placeOfRate cX4_placeOfRate 2 (some .int), .methodLink RX4 53 yX4_isWithin, .static yX4_isWithin, .code yX4_isWithin cX4_isWithin 3 (some .boolean)] ++ wsX40 ++ (vx_atS RX4 61 "java/lang/IllegalArgumentException" ["java/lang/RuntimeException", "java/lang/Exception"]).filter goodWord)
def wsX4_setBand : List Cond := .code yX4_setBand cX4_setBand 3 none :: ([.classLink RX4 57 "java/lang/IllegalArgumentException", .initialized "java/lang/IllegalArgumentException", .fieldLink RX4 22 "TermBill" "bandFrom" "I", .fieldLink RX4 26 "TermBill" "bandTo" "I", .methodLink RX4 53 yX4_isWithin, .static yX4_isWithin, .initialized RX4, .code yX4_isWithin cX4_isWithin 3 (some .boolean)] ++ wsX40 ++ (vx_atS RX4 61 "java/lang/IllegalArgumentException" ["java/lang/RuntimeException", "java/lang/Exception"]).filter goodWord)
def wsX4_setShare : List Cond := .code yX4_setShare cX4_setShare 4 (some .int) :: ([.classLink RX4 57 "java/lang/IllegalArgumentException", .initialized "java/lang/IllegalArgumentException", .fieldLink RX4 19 "TermBill" "shares" "[I", .methodLink RX4 53 yX4_isWithin, .static yX4_isWithin, .initialized RX4, .code yX4_isWithin cX4_isWithin 3 (some .boolean)] ++ wsX40 ++ (vx_atS RX4 61 "java/lang/IllegalArgumentException" ["java/lang/RuntimeException", "java/lang/Exception"]).filter goodWord)
def wsX4_setFees : List Cond := .code yX4_setFees cX4_setFees 3 none :: ([.classLink RX4 57 "java/lang/IllegalArgumentException", .initialized "java/lang/IllegalArgumentException", .constant RX4 52 (100000), .constant RX4 68 (1000000), .fieldLink RX4 29 "TermBill" "lateFee" "I", .fieldLink RX4 32 "TermBill" "holdLimit" "I", .methodLink RX4 53 yX4_isWithin, .static yX4_isWithin, .initialized RX4, .code yX4_isWithin cX4_isWithin 3 (some .boolean)] ++ wsX40 ++ (vx_atS RX4 61 "java/lang/IllegalArgumentException" ["java/lang/RuntimeException", "java/lang/Exception"]).filter goodWord)
def wsX4_studentAt : List Cond := .code yX4_studentAt cX4_studentAt 3 (some (.object "TermBill$Student")) :: ([.classLink RX4 116 "java/lang/IndexOutOfBoundsException", .initialized "java/lang/IndexOutOfBoundsException", .fieldLink RX4 11 "TermBill" "students" "[LTermBill$Student;"] ++ wsX40 ++ (vx_atS RX4 120 "java/lang/IndexOutOfBoundsException" ["java/lang/RuntimeException", "java/lang/Exception"]).filter goodWord)
def wsX4_setStudent : List Cond := .code yX4_setStudent cX4_setStudent 6 none :: ([.classLink RX4 57 "java/lang/IllegalArgumentException", .initialized "java/lang/IllegalArgumentException", .constant RX4 68 (1000000), .fieldLink RX4 77 "TermBill$Student" "level" "I", .fieldLink RX4 80 "TermBill$Student" "isResident" "Z", .fieldLink RX4 84 "TermBill$Student" "need" "I", .methodLink RX4 71 yX4_studentAt, .instanceMethod yX4_studentAt, .selects RX4 yX4_studentAt yX4_studentAt, .initialized RX4, .code yX4_studentAt cX4_studentAt 3 (some (.object "TermBill$Student")), .classLink RX4 116 "java/lang/IndexOutOfBoundsException", .initialized "java/lang/IndexOutOfBoundsException", .fieldLink RX4 11 "TermBill" "students" "[LTermBill$Student;", .methodLink RX4 53 yX4_isWithin, .static yX4_isWithin, .code yX4_isWithin cX4_isWithin 3 (some .boolean)] ++ wsX30 ++ wsX40 ++ (vx_atS RX4 61 "java/lang/IllegalArgumentException" ["java/lang/RuntimeException", "java/lang/Exception"]).filter goodWord ++ (vx_atS RX4 120 "java/lang/IndexOutOfBoundsException" ["java/lang/RuntimeException", "java/lang/Exception"]).filter goodWord)
def wsX4_setSponsor : List Cond := .code yX4_setSponsor cX4_setSponsor 5 none :: ([.classLink RX4 57 "java/lang/IllegalArgumentException", .initialized "java/lang/IllegalArgumentException", .constant RX4 68 (1000000), .fieldLink RX4 89 "TermBill$Student" "sponsorKinds" "I", .fieldLink RX4 92 "TermBill$Student" "sponsorLimit" "I", .methodLink RX4 71 yX4_studentAt, .instanceMethod yX4_studentAt, .selects RX4 yX4_studentAt yX4_studentAt, .initialized RX4, .code yX4_studentAt cX4_studentAt 3 (some (.object "TermBill$Student")), .classLink RX4 116 "java/lang/IndexOutOfBoundsException", .initialized "java/lang/IndexOutOfBoundsException", .fieldLink RX4 11 "TermBill" "students" "[LTermBill$Student;", .methodLink RX4 53 yX4_isWithin, .static yX4_isWithin, .code yX4_isWithin cX4_isWithin 3 (some .boolean)] ++ wsX30 ++ wsX40 ++ (vx_atS RX4 61 "java/lang/IllegalArgumentException" ["java/lang/RuntimeException", "java/lang/Exception"]).filter goodWord ++ (vx_atS RX4 120 "java/lang/IndexOutOfBoundsException" ["java/lang/RuntimeException", "java/lang/Exception"]).filter goodWord)
def wsX4_take : List Cond := .code yX4_take cX4_take 5 (some .int) :: ([.classLink RX4 57 "java/lang/IllegalArgumentException", .initialized "java/lang/IllegalArgumentException", .classLink RX4 107 "java/lang/IllegalStateException", .initialized "java/lang/IllegalStateException", .fieldLink RX4 97 "TermBill$Student" "courses" "LTermBill$Courses;", .methodLink RX4 71 yX4_studentAt, .instanceMethod yX4_studentAt, .selects RX4 yX4_studentAt yX4_studentAt, .initialized RX4, .code yX4_studentAt cX4_studentAt 3 (some (.object "TermBill$Student")), .classLink RX4 116 "java/lang/IndexOutOfBoundsException", .initialized "java/lang/IndexOutOfBoundsException", .fieldLink RX4 11 "TermBill" "students" "[LTermBill$Student;", .methodLink RX4 53 yX4_isWithin, .static yX4_isWithin, .code yX4_isWithin cX4_isWithin 3 (some .boolean), .methodLink RX4 101 yX1_add, .instanceMethod yX1_add, .selects RX1 yX1_add yX1_add, .initialized RX1, .code yX1_add cX1_add 2 (some .int), .fieldLink RX1 15 "TermBill$Courses" "taken" "I", .fieldLink RX1 9 "TermBill$Courses" "creditsByCourse" "[I"] ++ wsX30 ++ wsX40 ++ wsX10 ++ (vx_atS RX4 61 "java/lang/IllegalArgumentException" ["java/lang/RuntimeException", "java/lang/Exception"]).filter goodWord ++ (vx_atS RX4 111 "java/lang/IllegalStateException" ["java/lang/RuntimeException", "java/lang/Exception"]).filter goodWord ++ (vx_atS RX4 120 "java/lang/IndexOutOfBoundsException" ["java/lang/RuntimeException", "java/lang/Exception"]).filter goodWord)
def wsX4_rateAt : List Cond := .code yX4_rateAt cX4_rateAt 2 (some .int) :: ([.fieldLink RX4 15 "TermBill" "rates" "[I"] ++ wsX40)
def wsX4_priceOf : List Cond := .code yX4_priceOf cX4_priceOf 3 (some .int) :: ([.fieldLink RX4 22 "TermBill" "bandFrom" "I", .fieldLink RX4 26 "TermBill" "bandTo" "I"] ++ wsX40)
def wsX4_shareNow : List Cond := .code yX4_shareNow cX4_shareNow 1 (some .int) :: ([.fieldLink RX4 35 "TermBill" "week" "I", .fieldLink RX4 19 "TermBill" "shares" "[I"] ++ wsX40)
def wsX4_dropCourse_r1 : List Cond := [Cond.fieldLink RX4 77 "TermBill$Student" "level" "I", Cond.fieldLink RX4 80 "TermBill$Student" "isResident" "Z", Cond.fieldLink RX4 97 "TermBill$Student" "courses" "LTermBill$Courses;", Cond.fieldLink RX4 237 "TermBill$Courses" "keptSum" "I", Cond.methodLink RX4 48 yX4_placeOfRate, Cond.static yX4_placeOfRate, Cond.initialized RX4, Cond.code yX4_placeOfRate cX4_placeOfRate 2 (some .int), Cond.methodLink RX4 225 yX4_rateAt, Cond.instanceMethod yX4_rateAt, Cond.selects RX4 yX4_rateAt yX4_rateAt, Cond.code yX4_rateAt cX4_rateAt 2 (some .int), Cond.fieldLink RX4 15 "TermBill" "rates" "[I", Cond.methodLink RX4 199 yX1_total, Cond.instanceMethod yX1_total, Cond.selects RX1 yX1_total yX1_total, Cond.initialized RX1, Cond.code yX1_total cX1_total 3 (some .int), Cond.fieldLink RX1 9 "TermBill$Courses" "creditsByCourse" "[I", Cond.methodLink RX4 228 yX4_priceOf, Cond.instanceMethod yX4_priceOf, Cond.selects RX4 yX4_priceOf yX4_priceOf, Cond.code yX4_priceOf cX4_priceOf 3 (some .int), Cond.fieldLink RX4 22 "TermBill" "bandFrom" "I"]
def wsX4_dropCourse_r2 : List Cond := [Cond.fieldLink RX4 26 "TermBill" "bandTo" "I", Cond.methodLink RX4 231 yX1_remove, Cond.instanceMethod yX1_remove, Cond.selects RX1 yX1_remove yX1_remove, Cond.code yX1_remove cX1_remove 2 none, Cond.methodLink RX4 234 yX4_shareNow, Cond.instanceMethod yX4_shareNow, Cond.selects RX4 yX4_shareNow yX4_shareNow, Cond.code yX4_shareNow cX4_shareNow 1 (some .int), Cond.fieldLink RX4 35 "TermBill" "week" "I", Cond.fieldLink RX4 19 "TermBill" "shares" "[I"]
def wsX4_dropCourse : List Cond := .code yX4_dropCourse cX4_dropCourse 7 (some .int) :: ((wsX4_dropCourse_r1 ++ wsX4_dropCourse_r2) ++ wsX30 ++ wsX10 ++ wsX40)
def wsX4_drop_r1 : List Cond := [Cond.classLink RX4 116 "java/lang/IndexOutOfBoundsException", Cond.initialized "java/lang/IndexOutOfBoundsException", Cond.classLink RX4 107 "java/lang/IllegalStateException", Cond.initialized "java/lang/IllegalStateException", Cond.fieldLink RX4 97 "TermBill$Student" "courses" "LTermBill$Courses;", Cond.methodLink RX4 71 yX4_studentAt, Cond.instanceMethod yX4_studentAt, Cond.selects RX4 yX4_studentAt yX4_studentAt, Cond.initialized RX4, Cond.code yX4_studentAt cX4_studentAt 3 (some (.object "TermBill$Student")), Cond.fieldLink RX4 11 "TermBill" "students" "[LTermBill$Student;", Cond.methodLink RX4 112 yX1_has, Cond.instanceMethod yX1_has, Cond.selects RX1 yX1_has yX1_has, Cond.initialized RX1, Cond.code yX1_has cX1_has 2 (some .boolean), Cond.fieldLink RX1 15 "TermBill$Courses" "taken" "I", Cond.methodLink RX4 121 yX1_creditsOf, Cond.instanceMethod yX1_creditsOf, Cond.selects RX1 yX1_creditsOf yX1_creditsOf, Cond.code yX1_creditsOf cX1_creditsOf 2 (some .int), Cond.fieldLink RX1 9 "TermBill$Courses" "creditsByCourse" "[I", Cond.methodLink RX4 126 yX4_dropCourse, Cond.instanceMethod yX4_dropCourse]
def wsX4_drop_r2 : List Cond := [Cond.selects RX4 yX4_dropCourse yX4_dropCourse, Cond.code yX4_dropCourse cX4_dropCourse 7 (some .int), Cond.fieldLink RX4 77 "TermBill$Student" "level" "I", Cond.fieldLink RX4 80 "TermBill$Student" "isResident" "Z", Cond.fieldLink RX4 237 "TermBill$Courses" "keptSum" "I", Cond.methodLink RX4 48 yX4_placeOfRate, Cond.static yX4_placeOfRate, Cond.code yX4_placeOfRate cX4_placeOfRate 2 (some .int), Cond.methodLink RX4 225 yX4_rateAt, Cond.instanceMethod yX4_rateAt, Cond.selects RX4 yX4_rateAt yX4_rateAt, Cond.code yX4_rateAt cX4_rateAt 2 (some .int), Cond.fieldLink RX4 15 "TermBill" "rates" "[I", Cond.methodLink RX4 199 yX1_total, Cond.instanceMethod yX1_total, Cond.selects RX1 yX1_total yX1_total, Cond.code yX1_total cX1_total 3 (some .int), Cond.methodLink RX4 228 yX4_priceOf, Cond.instanceMethod yX4_priceOf, Cond.selects RX4 yX4_priceOf yX4_priceOf, Cond.code yX4_priceOf cX4_priceOf 3 (some .int), Cond.fieldLink RX4 22 "TermBill" "bandFrom" "I", Cond.fieldLink RX4 26 "TermBill" "bandTo" "I", Cond.methodLink RX4 231 yX1_remove]
def wsX4_drop_r3 : List Cond := [Cond.instanceMethod yX1_remove, Cond.selects RX1 yX1_remove yX1_remove, Cond.code yX1_remove cX1_remove 2 none, Cond.methodLink RX4 234 yX4_shareNow, Cond.instanceMethod yX4_shareNow, Cond.selects RX4 yX4_shareNow yX4_shareNow, Cond.code yX4_shareNow cX4_shareNow 1 (some .int), Cond.fieldLink RX4 35 "TermBill" "week" "I", Cond.fieldLink RX4 19 "TermBill" "shares" "[I"]
def wsX4_drop : List Cond := .code yX4_drop cX4_drop 4 (some .int) :: ((wsX4_drop_r1 ++ (wsX4_drop_r2 ++ wsX4_drop_r3)) ++ wsX30 ++ wsX40 ++ wsX10 ++ (vx_atS RX4 120 "java/lang/IndexOutOfBoundsException" ["java/lang/RuntimeException", "java/lang/Exception"]).filter goodWord ++ (vx_atS RX4 111 "java/lang/IllegalStateException" ["java/lang/RuntimeException", "java/lang/Exception"]).filter goodWord)
def wsX4_charge : List Cond := .code yX4_charge cX4_charge 5 (some .int) :: ([.classLink RX4 57 "java/lang/IllegalArgumentException", .initialized "java/lang/IllegalArgumentException", .constant RX4 68 (1000000), .fieldLink RX4 132 "TermBill$Student" "fees" "I", .fieldLink RX4 135 "TermBill$Student" "housing" "I", .methodLink RX4 71 yX4_studentAt, .instanceMethod yX4_studentAt, .selects RX4 yX4_studentAt yX4_studentAt, .initialized RX4, .code yX4_studentAt cX4_studentAt 3 (some (.object "TermBill$Student")), .classLink RX4 116 "java/lang/IndexOutOfBoundsException", .initialized "java/lang/IndexOutOfBoundsException", .fieldLink RX4 11 "TermBill" "students" "[LTermBill$Student;", .methodLink RX4 53 yX4_isWithin, .static yX4_isWithin, .code yX4_isWithin cX4_isWithin 3 (some .boolean)] ++ wsX30 ++ wsX40 ++ (vx_atS RX4 61 "java/lang/IllegalArgumentException" ["java/lang/RuntimeException", "java/lang/Exception"]).filter goodWord ++ (vx_atS RX4 120 "java/lang/IndexOutOfBoundsException" ["java/lang/RuntimeException", "java/lang/Exception"]).filter goodWord)
def wsX4_award_r1 : List Cond := [Cond.classLink RX4 57 "java/lang/IllegalArgumentException", Cond.initialized "java/lang/IllegalArgumentException", Cond.classLink RX4 107 "java/lang/IllegalStateException", Cond.initialized "java/lang/IllegalStateException", Cond.constant RX4 68 (1000000), Cond.fieldLink RX4 140 "TermBill$Student" "aid" "LTermBill$Aid;", Cond.methodLink RX4 71 yX4_studentAt, Cond.instanceMethod yX4_studentAt, Cond.selects RX4 yX4_studentAt yX4_studentAt, Cond.initialized RX4, Cond.code yX4_studentAt cX4_studentAt 3 (some (.object "TermBill$Student")), Cond.classLink RX4 116 "java/lang/IndexOutOfBoundsException", Cond.initialized "java/lang/IndexOutOfBoundsException", Cond.fieldLink RX4 11 "TermBill" "students" "[LTermBill$Student;", Cond.methodLink RX4 53 yX4_isWithin, Cond.static yX4_isWithin, Cond.code yX4_isWithin cX4_isWithin 3 (some .boolean), Cond.methodLink RX4 144 yX0_add, Cond.instanceMethod yX0_add, Cond.selects RX0 yX0_add yX0_add, Cond.initialized RX0, Cond.code yX0_add cX0_add 3 (some .int), Cond.fieldLink RX0 21 "TermBill$Aid" "many" "I", Cond.fieldLink RX0 9 "TermBill$Aid" "ranks" "[I"]
def wsX4_award_r2 : List Cond := [Cond.fieldLink RX0 15 "TermBill$Aid" "amounts" "[I"]
def wsX4_award : List Cond := .code yX4_award cX4_award 6 (some .int) :: ((wsX4_award_r1 ++ wsX4_award_r2) ++ wsX30 ++ wsX40 ++ wsX00 ++ (vx_atS RX4 61 "java/lang/IllegalArgumentException" ["java/lang/RuntimeException", "java/lang/Exception"]).filter goodWord ++ (vx_atS RX4 111 "java/lang/IllegalStateException" ["java/lang/RuntimeException", "java/lang/Exception"]).filter goodWord ++ (vx_atS RX4 120 "java/lang/IndexOutOfBoundsException" ["java/lang/RuntimeException", "java/lang/Exception"]).filter goodWord)
def wsX4_chargesOf_r1 : List Cond := [Cond.fieldLink RX4 77 "TermBill$Student" "level" "I", Cond.fieldLink RX4 80 "TermBill$Student" "isResident" "Z", Cond.fieldLink RX4 97 "TermBill$Student" "courses" "LTermBill$Courses;", Cond.fieldLink RX4 237 "TermBill$Courses" "keptSum" "I", Cond.fieldLink RX4 132 "TermBill$Student" "fees" "I", Cond.fieldLink RX4 135 "TermBill$Student" "housing" "I", Cond.methodLink RX4 48 yX4_placeOfRate, Cond.static yX4_placeOfRate, Cond.initialized RX4, Cond.code yX4_placeOfRate cX4_placeOfRate 2 (some .int), Cond.methodLink RX4 225 yX4_rateAt, Cond.instanceMethod yX4_rateAt, Cond.selects RX4 yX4_rateAt yX4_rateAt, Cond.code yX4_rateAt cX4_rateAt 2 (some .int), Cond.fieldLink RX4 15 "TermBill" "rates" "[I", Cond.methodLink RX4 199 yX1_total, Cond.instanceMethod yX1_total, Cond.selects RX1 yX1_total yX1_total, Cond.initialized RX1, Cond.code yX1_total cX1_total 3 (some .int), Cond.fieldLink RX1 9 "TermBill$Courses" "creditsByCourse" "[I", Cond.methodLink RX4 228 yX4_priceOf, Cond.instanceMethod yX4_priceOf, Cond.selects RX4 yX4_priceOf yX4_priceOf]
def wsX4_chargesOf_r2 : List Cond := [Cond.code yX4_priceOf cX4_priceOf 3 (some .int), Cond.fieldLink RX4 22 "TermBill" "bandFrom" "I", Cond.fieldLink RX4 26 "TermBill" "bandTo" "I"]
def wsX4_chargesOf : List Cond := .code yX4_chargesOf cX4_chargesOf 5 (some .int) :: ((wsX4_chargesOf_r1 ++ wsX4_chargesOf_r2) ++ wsX30 ++ wsX10 ++ wsX40)
def wsX4_sponsorPart_r1 : List Cond := [Cond.fieldLink RX4 89 "TermBill$Student" "sponsorKinds" "I", Cond.fieldLink RX4 92 "TermBill$Student" "sponsorLimit" "I", Cond.methodLink RX4 240 Lib.Math.min.name, Cond.static Lib.Math.min.name, Cond.initialized "java/lang/Math", Cond.code Lib.Math.min.name Lib.Math.min.code 2 (some .int), Cond.methodLink RX4 202 yX4_chargesOf, Cond.instanceMethod yX4_chargesOf, Cond.selects RX4 yX4_chargesOf yX4_chargesOf, Cond.initialized RX4, Cond.code yX4_chargesOf cX4_chargesOf 5 (some .int), Cond.fieldLink RX4 77 "TermBill$Student" "level" "I", Cond.fieldLink RX4 80 "TermBill$Student" "isResident" "Z", Cond.fieldLink RX4 97 "TermBill$Student" "courses" "LTermBill$Courses;", Cond.fieldLink RX4 237 "TermBill$Courses" "keptSum" "I", Cond.fieldLink RX4 132 "TermBill$Student" "fees" "I", Cond.fieldLink RX4 135 "TermBill$Student" "housing" "I", Cond.methodLink RX4 48 yX4_placeOfRate, Cond.static yX4_placeOfRate, Cond.code yX4_placeOfRate cX4_placeOfRate 2 (some .int), Cond.methodLink RX4 225 yX4_rateAt, Cond.instanceMethod yX4_rateAt, Cond.selects RX4 yX4_rateAt yX4_rateAt, Cond.code yX4_rateAt cX4_rateAt 2 (some .int)]
def wsX4_sponsorPart_r2 : List Cond := [Cond.fieldLink RX4 15 "TermBill" "rates" "[I", Cond.methodLink RX4 199 yX1_total, Cond.instanceMethod yX1_total, Cond.selects RX1 yX1_total yX1_total, Cond.initialized RX1, Cond.code yX1_total cX1_total 3 (some .int), Cond.fieldLink RX1 9 "TermBill$Courses" "creditsByCourse" "[I", Cond.methodLink RX4 228 yX4_priceOf, Cond.instanceMethod yX4_priceOf, Cond.selects RX4 yX4_priceOf yX4_priceOf, Cond.code yX4_priceOf cX4_priceOf 3 (some .int), Cond.fieldLink RX4 22 "TermBill" "bandFrom" "I", Cond.fieldLink RX4 26 "TermBill" "bandTo" "I"]
def wsX4_sponsorPart : List Cond := .code yX4_sponsorPart cX4_sponsorPart 2 (some .int) :: ((wsX4_sponsorPart_r1 ++ wsX4_sponsorPart_r2) ++ wsX30 ++ wsX10 ++ wsX40)
def wsX4_unsponsored_r1 : List Cond := [Cond.methodLink RX4 202 yX4_chargesOf, Cond.instanceMethod yX4_chargesOf, Cond.selects RX4 yX4_chargesOf yX4_chargesOf, Cond.initialized RX4, Cond.code yX4_chargesOf cX4_chargesOf 5 (some .int), Cond.fieldLink RX4 77 "TermBill$Student" "level" "I", Cond.fieldLink RX4 80 "TermBill$Student" "isResident" "Z", Cond.fieldLink RX4 97 "TermBill$Student" "courses" "LTermBill$Courses;", Cond.fieldLink RX4 237 "TermBill$Courses" "keptSum" "I", Cond.fieldLink RX4 132 "TermBill$Student" "fees" "I", Cond.fieldLink RX4 135 "TermBill$Student" "housing" "I", Cond.methodLink RX4 48 yX4_placeOfRate, Cond.static yX4_placeOfRate, Cond.code yX4_placeOfRate cX4_placeOfRate 2 (some .int), Cond.methodLink RX4 225 yX4_rateAt, Cond.instanceMethod yX4_rateAt, Cond.selects RX4 yX4_rateAt yX4_rateAt, Cond.code yX4_rateAt cX4_rateAt 2 (some .int), Cond.fieldLink RX4 15 "TermBill" "rates" "[I", Cond.methodLink RX4 199 yX1_total, Cond.instanceMethod yX1_total, Cond.selects RX1 yX1_total yX1_total, Cond.initialized RX1, Cond.code yX1_total cX1_total 3 (some .int)]
def wsX4_unsponsored_r2 : List Cond := [Cond.fieldLink RX1 9 "TermBill$Courses" "creditsByCourse" "[I", Cond.methodLink RX4 228 yX4_priceOf, Cond.instanceMethod yX4_priceOf, Cond.selects RX4 yX4_priceOf yX4_priceOf, Cond.code yX4_priceOf cX4_priceOf 3 (some .int), Cond.fieldLink RX4 22 "TermBill" "bandFrom" "I", Cond.fieldLink RX4 26 "TermBill" "bandTo" "I", Cond.methodLink RX4 205 yX4_sponsorPart, Cond.instanceMethod yX4_sponsorPart, Cond.selects RX4 yX4_sponsorPart yX4_sponsorPart, Cond.code yX4_sponsorPart cX4_sponsorPart 2 (some .int), Cond.fieldLink RX4 89 "TermBill$Student" "sponsorKinds" "I", Cond.fieldLink RX4 92 "TermBill$Student" "sponsorLimit" "I", Cond.methodLink RX4 240 Lib.Math.min.name, Cond.static Lib.Math.min.name, Cond.initialized "java/lang/Math", Cond.code Lib.Math.min.name Lib.Math.min.code 2 (some .int)]
def wsX4_unsponsored : List Cond := .code yX4_unsponsored cX4_unsponsored 2 (some .int) :: ((wsX4_unsponsored_r1 ++ wsX4_unsponsored_r2) ++ wsX30 ++ wsX10 ++ wsX40)
def wsX4_balanceOf_r1 : List Cond := [Cond.fieldLink RX4 140 "TermBill$Student" "aid" "LTermBill$Aid;", Cond.fieldLink RX4 84 "TermBill$Student" "need" "I", Cond.fieldLink RX4 153 "TermBill$Student" "paidSum" "I", Cond.methodLink RX4 211 yX4_unsponsored, Cond.instanceMethod yX4_unsponsored, Cond.selects RX4 yX4_unsponsored yX4_unsponsored, Cond.initialized RX4, Cond.code yX4_unsponsored cX4_unsponsored 2 (some .int), Cond.methodLink RX4 202 yX4_chargesOf, Cond.instanceMethod yX4_chargesOf, Cond.selects RX4 yX4_chargesOf yX4_chargesOf, Cond.code yX4_chargesOf cX4_chargesOf 5 (some .int), Cond.fieldLink RX4 77 "TermBill$Student" "level" "I", Cond.fieldLink RX4 80 "TermBill$Student" "isResident" "Z", Cond.fieldLink RX4 97 "TermBill$Student" "courses" "LTermBill$Courses;", Cond.fieldLink RX4 237 "TermBill$Courses" "keptSum" "I", Cond.fieldLink RX4 132 "TermBill$Student" "fees" "I", Cond.fieldLink RX4 135 "TermBill$Student" "housing" "I", Cond.methodLink RX4 48 yX4_placeOfRate, Cond.static yX4_placeOfRate, Cond.code yX4_placeOfRate cX4_placeOfRate 2 (some .int), Cond.methodLink RX4 225 yX4_rateAt, Cond.instanceMethod yX4_rateAt, Cond.selects RX4 yX4_rateAt yX4_rateAt]
def wsX4_balanceOf_r2 : List Cond := [Cond.code yX4_rateAt cX4_rateAt 2 (some .int), Cond.fieldLink RX4 15 "TermBill" "rates" "[I", Cond.methodLink RX4 199 yX1_total, Cond.instanceMethod yX1_total, Cond.selects RX1 yX1_total yX1_total, Cond.initialized RX1, Cond.code yX1_total cX1_total 3 (some .int), Cond.fieldLink RX1 9 "TermBill$Courses" "creditsByCourse" "[I", Cond.methodLink RX4 228 yX4_priceOf, Cond.instanceMethod yX4_priceOf, Cond.selects RX4 yX4_priceOf yX4_priceOf, Cond.code yX4_priceOf cX4_priceOf 3 (some .int), Cond.fieldLink RX4 22 "TermBill" "bandFrom" "I", Cond.fieldLink RX4 26 "TermBill" "bandTo" "I", Cond.methodLink RX4 205 yX4_sponsorPart, Cond.instanceMethod yX4_sponsorPart, Cond.selects RX4 yX4_sponsorPart yX4_sponsorPart, Cond.code yX4_sponsorPart cX4_sponsorPart 2 (some .int), Cond.fieldLink RX4 89 "TermBill$Student" "sponsorKinds" "I", Cond.fieldLink RX4 92 "TermBill$Student" "sponsorLimit" "I", Cond.methodLink RX4 240 Lib.Math.min.name, Cond.static Lib.Math.min.name, Cond.initialized "java/lang/Math", Cond.code Lib.Math.min.name Lib.Math.min.code 2 (some .int)]
def wsX4_balanceOf_r3 : List Cond := [Cond.methodLink RX4 214 yX0_cover, Cond.instanceMethod yX0_cover, Cond.selects RX0 yX0_cover yX0_cover, Cond.initialized RX0, Cond.code yX0_cover cX0_cover 8 (some .int), Cond.fieldLink RX0 9 "TermBill$Aid" "ranks" "[I", Cond.methodLink RX0 25 Lib.Math.min.name, Cond.fieldLink RX0 18 "TermBill$Aid" "uses" "[I", Cond.fieldLink RX0 15 "TermBill$Aid" "amounts" "[I"]
def wsX4_balanceOf : List Cond := .code yX4_balanceOf cX4_balanceOf 3 (some .int) :: ((wsX4_balanceOf_r1 ++ (wsX4_balanceOf_r2 ++ wsX4_balanceOf_r3)) ++ wsX30 ++ wsX10 ++ wsX40 ++ wsX00)
def wsX4_pay_r1 : List Cond := [Cond.classLink RX4 57 "java/lang/IllegalArgumentException", Cond.initialized "java/lang/IllegalArgumentException", Cond.constant RX4 68 (1000000), Cond.fieldLink RX4 153 "TermBill$Student" "paidSum" "I", Cond.fieldLink RX4 156 "TermBill$Student" "instalments" "LTermBill$Instalments;", Cond.fieldLink RX4 160 "TermBill$Instalments" "paidSince" "I", Cond.methodLink RX4 71 yX4_studentAt, Cond.instanceMethod yX4_studentAt, Cond.selects RX4 yX4_studentAt yX4_studentAt, Cond.initialized RX4, Cond.code yX4_studentAt cX4_studentAt 3 (some (.object "TermBill$Student")), Cond.classLink RX4 116 "java/lang/IndexOutOfBoundsException", Cond.initialized "java/lang/IndexOutOfBoundsException", Cond.fieldLink RX4 11 "TermBill" "students" "[LTermBill$Student;", Cond.methodLink RX4 53 yX4_isWithin, Cond.static yX4_isWithin, Cond.code yX4_isWithin cX4_isWithin 3 (some .boolean), Cond.methodLink RX4 165 yX4_balanceOf, Cond.instanceMethod yX4_balanceOf, Cond.selects RX4 yX4_balanceOf yX4_balanceOf, Cond.code yX4_balanceOf cX4_balanceOf 3 (some .int), Cond.fieldLink RX4 140 "TermBill$Student" "aid" "LTermBill$Aid;", Cond.fieldLink RX4 84 "TermBill$Student" "need" "I", Cond.methodLink RX4 211 yX4_unsponsored]
def wsX4_pay_r2 : List Cond := [Cond.instanceMethod yX4_unsponsored, Cond.selects RX4 yX4_unsponsored yX4_unsponsored, Cond.code yX4_unsponsored cX4_unsponsored 2 (some .int), Cond.methodLink RX4 202 yX4_chargesOf, Cond.instanceMethod yX4_chargesOf, Cond.selects RX4 yX4_chargesOf yX4_chargesOf, Cond.code yX4_chargesOf cX4_chargesOf 5 (some .int), Cond.fieldLink RX4 77 "TermBill$Student" "level" "I", Cond.fieldLink RX4 80 "TermBill$Student" "isResident" "Z", Cond.fieldLink RX4 97 "TermBill$Student" "courses" "LTermBill$Courses;", Cond.fieldLink RX4 237 "TermBill$Courses" "keptSum" "I", Cond.fieldLink RX4 132 "TermBill$Student" "fees" "I", Cond.fieldLink RX4 135 "TermBill$Student" "housing" "I", Cond.methodLink RX4 48 yX4_placeOfRate, Cond.static yX4_placeOfRate, Cond.code yX4_placeOfRate cX4_placeOfRate 2 (some .int), Cond.methodLink RX4 225 yX4_rateAt, Cond.instanceMethod yX4_rateAt, Cond.selects RX4 yX4_rateAt yX4_rateAt, Cond.code yX4_rateAt cX4_rateAt 2 (some .int), Cond.fieldLink RX4 15 "TermBill" "rates" "[I", Cond.methodLink RX4 199 yX1_total, Cond.instanceMethod yX1_total, Cond.selects RX1 yX1_total yX1_total]
def wsX4_pay_r3 : List Cond := [Cond.initialized RX1, Cond.code yX1_total cX1_total 3 (some .int), Cond.fieldLink RX1 9 "TermBill$Courses" "creditsByCourse" "[I", Cond.methodLink RX4 228 yX4_priceOf, Cond.instanceMethod yX4_priceOf, Cond.selects RX4 yX4_priceOf yX4_priceOf, Cond.code yX4_priceOf cX4_priceOf 3 (some .int), Cond.fieldLink RX4 22 "TermBill" "bandFrom" "I", Cond.fieldLink RX4 26 "TermBill" "bandTo" "I", Cond.methodLink RX4 205 yX4_sponsorPart, Cond.instanceMethod yX4_sponsorPart, Cond.selects RX4 yX4_sponsorPart yX4_sponsorPart, Cond.code yX4_sponsorPart cX4_sponsorPart 2 (some .int), Cond.fieldLink RX4 89 "TermBill$Student" "sponsorKinds" "I", Cond.fieldLink RX4 92 "TermBill$Student" "sponsorLimit" "I", Cond.methodLink RX4 240 Lib.Math.min.name, Cond.static Lib.Math.min.name, Cond.initialized "java/lang/Math", Cond.code Lib.Math.min.name Lib.Math.min.code 2 (some .int), Cond.methodLink RX4 214 yX0_cover, Cond.instanceMethod yX0_cover, Cond.selects RX0 yX0_cover yX0_cover, Cond.initialized RX0, Cond.code yX0_cover cX0_cover 8 (some .int)]
def wsX4_pay_r4 : List Cond := [Cond.fieldLink RX0 9 "TermBill$Aid" "ranks" "[I", Cond.methodLink RX0 25 Lib.Math.min.name, Cond.fieldLink RX0 18 "TermBill$Aid" "uses" "[I", Cond.fieldLink RX0 15 "TermBill$Aid" "amounts" "[I"]
def wsX4_pay : List Cond := .code yX4_pay cX4_pay 4 (some .int) :: ((wsX4_pay_r1 ++ (wsX4_pay_r2 ++ (wsX4_pay_r3 ++ wsX4_pay_r4))) ++ wsX30 ++ wsX20 ++ wsX40 ++ wsX10 ++ wsX00 ++ (vx_atS RX4 61 "java/lang/IllegalArgumentException" ["java/lang/RuntimeException", "java/lang/Exception"]).filter goodWord ++ (vx_atS RX4 120 "java/lang/IndexOutOfBoundsException" ["java/lang/RuntimeException", "java/lang/Exception"]).filter goodWord)
def wsX4_weekNumber : List Cond := .code yX4_weekNumber cX4_weekNumber 1 (some .int) :: ([.fieldLink RX4 38 "TermBill" "term" "I", .fieldLink RX4 35 "TermBill" "week" "I"] ++ wsX40)
def wsX4_plan_r1 : List Cond := [Cond.classLink RX4 57 "java/lang/IllegalArgumentException", Cond.initialized "java/lang/IllegalArgumentException", Cond.classLink RX4 107 "java/lang/IllegalStateException", Cond.initialized "java/lang/IllegalStateException", Cond.fieldLink RX4 156 "TermBill$Student" "instalments" "LTermBill$Instalments;", Cond.methodLink RX4 71 yX4_studentAt, Cond.instanceMethod yX4_studentAt, Cond.selects RX4 yX4_studentAt yX4_studentAt, Cond.initialized RX4, Cond.code yX4_studentAt cX4_studentAt 3 (some (.object "TermBill$Student")), Cond.classLink RX4 116 "java/lang/IndexOutOfBoundsException", Cond.initialized "java/lang/IndexOutOfBoundsException", Cond.fieldLink RX4 11 "TermBill" "students" "[LTermBill$Student;", Cond.methodLink RX4 165 yX4_balanceOf, Cond.instanceMethod yX4_balanceOf, Cond.selects RX4 yX4_balanceOf yX4_balanceOf, Cond.code yX4_balanceOf cX4_balanceOf 3 (some .int), Cond.fieldLink RX4 140 "TermBill$Student" "aid" "LTermBill$Aid;", Cond.fieldLink RX4 84 "TermBill$Student" "need" "I", Cond.fieldLink RX4 153 "TermBill$Student" "paidSum" "I", Cond.methodLink RX4 211 yX4_unsponsored, Cond.instanceMethod yX4_unsponsored, Cond.selects RX4 yX4_unsponsored yX4_unsponsored, Cond.code yX4_unsponsored cX4_unsponsored 2 (some .int)]
def wsX4_plan_r2 : List Cond := [Cond.methodLink RX4 202 yX4_chargesOf, Cond.instanceMethod yX4_chargesOf, Cond.selects RX4 yX4_chargesOf yX4_chargesOf, Cond.code yX4_chargesOf cX4_chargesOf 5 (some .int), Cond.fieldLink RX4 77 "TermBill$Student" "level" "I", Cond.fieldLink RX4 80 "TermBill$Student" "isResident" "Z", Cond.fieldLink RX4 97 "TermBill$Student" "courses" "LTermBill$Courses;", Cond.fieldLink RX4 237 "TermBill$Courses" "keptSum" "I", Cond.fieldLink RX4 132 "TermBill$Student" "fees" "I", Cond.fieldLink RX4 135 "TermBill$Student" "housing" "I", Cond.methodLink RX4 48 yX4_placeOfRate, Cond.static yX4_placeOfRate, Cond.code yX4_placeOfRate cX4_placeOfRate 2 (some .int), Cond.methodLink RX4 225 yX4_rateAt, Cond.instanceMethod yX4_rateAt, Cond.selects RX4 yX4_rateAt yX4_rateAt, Cond.code yX4_rateAt cX4_rateAt 2 (some .int), Cond.fieldLink RX4 15 "TermBill" "rates" "[I", Cond.methodLink RX4 199 yX1_total, Cond.instanceMethod yX1_total, Cond.selects RX1 yX1_total yX1_total, Cond.initialized RX1, Cond.code yX1_total cX1_total 3 (some .int), Cond.fieldLink RX1 9 "TermBill$Courses" "creditsByCourse" "[I"]
def wsX4_plan_r3 : List Cond := [Cond.methodLink RX4 228 yX4_priceOf, Cond.instanceMethod yX4_priceOf, Cond.selects RX4 yX4_priceOf yX4_priceOf, Cond.code yX4_priceOf cX4_priceOf 3 (some .int), Cond.fieldLink RX4 22 "TermBill" "bandFrom" "I", Cond.fieldLink RX4 26 "TermBill" "bandTo" "I", Cond.methodLink RX4 205 yX4_sponsorPart, Cond.instanceMethod yX4_sponsorPart, Cond.selects RX4 yX4_sponsorPart yX4_sponsorPart, Cond.code yX4_sponsorPart cX4_sponsorPart 2 (some .int), Cond.fieldLink RX4 89 "TermBill$Student" "sponsorKinds" "I", Cond.fieldLink RX4 92 "TermBill$Student" "sponsorLimit" "I", Cond.methodLink RX4 240 Lib.Math.min.name, Cond.static Lib.Math.min.name, Cond.initialized "java/lang/Math", Cond.code Lib.Math.min.name Lib.Math.min.code 2 (some .int), Cond.methodLink RX4 214 yX0_cover, Cond.instanceMethod yX0_cover, Cond.selects RX0 yX0_cover yX0_cover, Cond.initialized RX0, Cond.code yX0_cover cX0_cover 8 (some .int), Cond.fieldLink RX0 9 "TermBill$Aid" "ranks" "[I", Cond.methodLink RX0 25 Lib.Math.min.name, Cond.fieldLink RX0 18 "TermBill$Aid" "uses" "[I"]
def wsX4_plan_r4 : List Cond := [Cond.fieldLink RX0 15 "TermBill$Aid" "amounts" "[I", Cond.methodLink RX4 173 yX4_weekNumber, Cond.instanceMethod yX4_weekNumber, Cond.selects RX4 yX4_weekNumber yX4_weekNumber, Cond.code yX4_weekNumber cX4_weekNumber 1 (some .int), Cond.fieldLink RX4 38 "TermBill" "term" "I", Cond.fieldLink RX4 35 "TermBill" "week" "I", Cond.methodLink RX4 177 yX2_start, Cond.instanceMethod yX2_start, Cond.selects RX2 yX2_start yX2_start, Cond.initialized RX2, Cond.code yX2_start cX2_start 5 none, Cond.fieldLink RX2 9 "TermBill$Instalments" "madeAt" "I", Cond.fieldLink RX2 15 "TermBill$Instalments" "many" "I", Cond.fieldLink RX2 18 "TermBill$Instalments" "first" "I", Cond.fieldLink RX2 21 "TermBill$Instalments" "each" "I", Cond.fieldLink RX2 24 "TermBill$Instalments" "paidSince" "I"]
def wsX4_plan : List Cond := .code yX4_plan cX4_plan 7 (some .int) :: ((wsX4_plan_r1 ++ (wsX4_plan_r2 ++ (wsX4_plan_r3 ++ wsX4_plan_r4))) ++ wsX30 ++ wsX40 ++ wsX10 ++ wsX00 ++ wsX20 ++ (vx_atS RX4 61 "java/lang/IllegalArgumentException" ["java/lang/RuntimeException", "java/lang/Exception"]).filter goodWord ++ (vx_atS RX4 111 "java/lang/IllegalStateException" ["java/lang/RuntimeException", "java/lang/Exception"]).filter goodWord ++ (vx_atS RX4 120 "java/lang/IndexOutOfBoundsException" ["java/lang/RuntimeException", "java/lang/Exception"]).filter goodWord)
def wsX4_aidToGiveBack : List Cond := .code yX4_aidToGiveBack cX4_aidToGiveBack 2 (some .int) :: ([.fieldLink RX4 35 "TermBill" "week" "I"] ++ wsX40)
def wsX4_leave_r1 : List Cond := [Cond.fieldLink RX4 97 "TermBill$Student" "courses" "LTermBill$Courses;", Cond.fieldLink RX4 140 "TermBill$Student" "aid" "LTermBill$Aid;", Cond.methodLink RX4 71 yX4_studentAt, Cond.instanceMethod yX4_studentAt, Cond.selects RX4 yX4_studentAt yX4_studentAt, Cond.initialized RX4, Cond.code yX4_studentAt cX4_studentAt 3 (some (.object "TermBill$Student")), Cond.classLink RX4 116 "java/lang/IndexOutOfBoundsException", Cond.initialized "java/lang/IndexOutOfBoundsException", Cond.fieldLink RX4 11 "TermBill" "students" "[LTermBill$Student;", Cond.methodLink RX4 121 yX1_creditsOf, Cond.instanceMethod yX1_creditsOf, Cond.selects RX1 yX1_creditsOf yX1_creditsOf, Cond.initialized RX1, Cond.code yX1_creditsOf cX1_creditsOf 2 (some .int), Cond.fieldLink RX1 9 "TermBill$Courses" "creditsByCourse" "[I", Cond.methodLink RX4 126 yX4_dropCourse, Cond.instanceMethod yX4_dropCourse, Cond.selects RX4 yX4_dropCourse yX4_dropCourse, Cond.code yX4_dropCourse cX4_dropCourse 7 (some .int), Cond.fieldLink RX4 77 "TermBill$Student" "level" "I", Cond.fieldLink RX4 80 "TermBill$Student" "isResident" "Z", Cond.fieldLink RX4 237 "TermBill$Courses" "keptSum" "I", Cond.methodLink RX4 48 yX4_placeOfRate]
def wsX4_leave_r2 : List Cond := [Cond.static yX4_placeOfRate, Cond.code yX4_placeOfRate cX4_placeOfRate 2 (some .int), Cond.methodLink RX4 225 yX4_rateAt, Cond.instanceMethod yX4_rateAt, Cond.selects RX4 yX4_rateAt yX4_rateAt, Cond.code yX4_rateAt cX4_rateAt 2 (some .int), Cond.fieldLink RX4 15 "TermBill" "rates" "[I", Cond.methodLink RX4 199 yX1_total, Cond.instanceMethod yX1_total, Cond.selects RX1 yX1_total yX1_total, Cond.code yX1_total cX1_total 3 (some .int), Cond.methodLink RX4 228 yX4_priceOf, Cond.instanceMethod yX4_priceOf, Cond.selects RX4 yX4_priceOf yX4_priceOf, Cond.code yX4_priceOf cX4_priceOf 3 (some .int), Cond.fieldLink RX4 22 "TermBill" "bandFrom" "I", Cond.fieldLink RX4 26 "TermBill" "bandTo" "I", Cond.methodLink RX4 231 yX1_remove, Cond.instanceMethod yX1_remove, Cond.selects RX1 yX1_remove yX1_remove, Cond.code yX1_remove cX1_remove 2 none, Cond.methodLink RX4 234 yX4_shareNow, Cond.instanceMethod yX4_shareNow, Cond.selects RX4 yX4_shareNow yX4_shareNow]
def wsX4_leave_r3 : List Cond := [Cond.code yX4_shareNow cX4_shareNow 1 (some .int), Cond.fieldLink RX4 35 "TermBill" "week" "I", Cond.fieldLink RX4 19 "TermBill" "shares" "[I", Cond.methodLink RX4 181 yX0_total, Cond.instanceMethod yX0_total, Cond.selects RX0 yX0_total yX0_total, Cond.initialized RX0, Cond.code yX0_total cX0_total 3 (some .int), Cond.fieldLink RX0 15 "TermBill$Aid" "amounts" "[I", Cond.methodLink RX4 184 yX4_aidToGiveBack, Cond.instanceMethod yX4_aidToGiveBack, Cond.selects RX4 yX4_aidToGiveBack yX4_aidToGiveBack, Cond.code yX4_aidToGiveBack cX4_aidToGiveBack 2 (some .int), Cond.methodLink RX4 187 yX0_takeOff, Cond.instanceMethod yX0_takeOff, Cond.selects RX0 yX0_takeOff yX0_takeOff, Cond.code yX0_takeOff cX0_takeOff 6 none, Cond.fieldLink RX0 9 "TermBill$Aid" "ranks" "[I", Cond.methodLink RX0 25 Lib.Math.min.name, Cond.static Lib.Math.min.name, Cond.initialized "java/lang/Math", Cond.code Lib.Math.min.name Lib.Math.min.code 2 (some .int)]
def wsX4_leave : List Cond := .code yX4_leave cX4_leave 4 (some .int) :: ((wsX4_leave_r1 ++ (wsX4_leave_r2 ++ wsX4_leave_r3)) ++ wsX30 ++ wsX40 ++ wsX10 ++ wsX00 ++ (vx_atS RX4 120 "java/lang/IndexOutOfBoundsException" ["java/lang/RuntimeException", "java/lang/Exception"]).filter goodWord)
def wsX4_carriedTo : List Cond := .code yX4_carriedTo cX4_carriedTo 2 (some .int) :: ([.methodLink RX4 240 Lib.Math.min.name, .static Lib.Math.min.name, .initialized "java/lang/Math", .code Lib.Math.min.name Lib.Math.min.code 2 (some .int)])
def wsX4_endTerm_r1 : List Cond := [Cond.methodLink RX4 71 yX4_studentAt, Cond.instanceMethod yX4_studentAt, Cond.selects RX4 yX4_studentAt yX4_studentAt, Cond.initialized RX4, Cond.code yX4_studentAt cX4_studentAt 3 (some (.object "TermBill$Student")), Cond.classLink RX4 116 "java/lang/IndexOutOfBoundsException", Cond.initialized "java/lang/IndexOutOfBoundsException", Cond.fieldLink RX4 11 "TermBill" "students" "[LTermBill$Student;", Cond.methodLink RX4 165 yX4_balanceOf, Cond.instanceMethod yX4_balanceOf, Cond.selects RX4 yX4_balanceOf yX4_balanceOf, Cond.code yX4_balanceOf cX4_balanceOf 3 (some .int), Cond.fieldLink RX4 140 "TermBill$Student" "aid" "LTermBill$Aid;", Cond.fieldLink RX4 84 "TermBill$Student" "need" "I", Cond.fieldLink RX4 153 "TermBill$Student" "paidSum" "I", Cond.methodLink RX4 211 yX4_unsponsored, Cond.instanceMethod yX4_unsponsored, Cond.selects RX4 yX4_unsponsored yX4_unsponsored, Cond.code yX4_unsponsored cX4_unsponsored 2 (some .int), Cond.methodLink RX4 202 yX4_chargesOf, Cond.instanceMethod yX4_chargesOf, Cond.selects RX4 yX4_chargesOf yX4_chargesOf, Cond.code yX4_chargesOf cX4_chargesOf 5 (some .int), Cond.fieldLink RX4 77 "TermBill$Student" "level" "I"]
def wsX4_endTerm_r2 : List Cond := [Cond.fieldLink RX4 80 "TermBill$Student" "isResident" "Z", Cond.fieldLink RX4 97 "TermBill$Student" "courses" "LTermBill$Courses;", Cond.fieldLink RX4 237 "TermBill$Courses" "keptSum" "I", Cond.fieldLink RX4 132 "TermBill$Student" "fees" "I", Cond.fieldLink RX4 135 "TermBill$Student" "housing" "I", Cond.methodLink RX4 48 yX4_placeOfRate, Cond.static yX4_placeOfRate, Cond.code yX4_placeOfRate cX4_placeOfRate 2 (some .int), Cond.methodLink RX4 225 yX4_rateAt, Cond.instanceMethod yX4_rateAt, Cond.selects RX4 yX4_rateAt yX4_rateAt, Cond.code yX4_rateAt cX4_rateAt 2 (some .int), Cond.fieldLink RX4 15 "TermBill" "rates" "[I", Cond.methodLink RX4 199 yX1_total, Cond.instanceMethod yX1_total, Cond.selects RX1 yX1_total yX1_total, Cond.initialized RX1, Cond.code yX1_total cX1_total 3 (some .int), Cond.fieldLink RX1 9 "TermBill$Courses" "creditsByCourse" "[I", Cond.methodLink RX4 228 yX4_priceOf, Cond.instanceMethod yX4_priceOf, Cond.selects RX4 yX4_priceOf yX4_priceOf, Cond.code yX4_priceOf cX4_priceOf 3 (some .int), Cond.fieldLink RX4 22 "TermBill" "bandFrom" "I"]
def wsX4_endTerm_r3 : List Cond := [Cond.fieldLink RX4 26 "TermBill" "bandTo" "I", Cond.methodLink RX4 205 yX4_sponsorPart, Cond.instanceMethod yX4_sponsorPart, Cond.selects RX4 yX4_sponsorPart yX4_sponsorPart, Cond.code yX4_sponsorPart cX4_sponsorPart 2 (some .int), Cond.fieldLink RX4 89 "TermBill$Student" "sponsorKinds" "I", Cond.fieldLink RX4 92 "TermBill$Student" "sponsorLimit" "I", Cond.methodLink RX4 240 Lib.Math.min.name, Cond.static Lib.Math.min.name, Cond.initialized "java/lang/Math", Cond.code Lib.Math.min.name Lib.Math.min.code 2 (some .int), Cond.methodLink RX4 214 yX0_cover, Cond.instanceMethod yX0_cover, Cond.selects RX0 yX0_cover yX0_cover, Cond.initialized RX0, Cond.code yX0_cover cX0_cover 8 (some .int), Cond.fieldLink RX0 9 "TermBill$Aid" "ranks" "[I", Cond.methodLink RX0 25 Lib.Math.min.name, Cond.fieldLink RX0 18 "TermBill$Aid" "uses" "[I", Cond.fieldLink RX0 15 "TermBill$Aid" "amounts" "[I", Cond.methodLink RX4 245 yX4_carriedTo, Cond.static yX4_carriedTo, Cond.code yX4_carriedTo cX4_carriedTo 2 (some .int), Cond.methodLink RX4 248 yX3_beginTerm]
def wsX4_endTerm_r4 : List Cond := [Cond.instanceMethod yX3_beginTerm, Cond.selects RX3 yX3_beginTerm yX3_beginTerm, Cond.initialized RX3, Cond.code yX3_beginTerm cX3_beginTerm 2 none, Cond.fieldLink RX3 10 "TermBill$Student" "courses" "LTermBill$Courses;", Cond.fieldLink RX3 19 "TermBill$Student" "aid" "LTermBill$Aid;", Cond.fieldLink RX3 47 "TermBill$Student" "sponsorKinds" "I", Cond.fieldLink RX3 50 "TermBill$Student" "sponsorLimit" "I", Cond.fieldLink RX3 44 "TermBill$Student" "housing" "I", Cond.methodLink RX3 60 Lib.Math.max.name, Cond.static Lib.Math.max.name, Cond.code Lib.Math.max.name Lib.Math.max.code 2 (some .int), Cond.fieldLink RX3 41 "TermBill$Student" "fees" "I", Cond.fieldLink RX3 53 "TermBill$Student" "paidSum" "I", Cond.methodLink RX3 56 yX1_clear, Cond.instanceMethod yX1_clear, Cond.selects RX1 yX1_clear yX1_clear, Cond.code yX1_clear cX1_clear 1 none, Cond.fieldLink RX1 15 "TermBill$Courses" "taken" "I", Cond.fieldLink RX1 19 "TermBill$Courses" "keptSum" "I", Cond.methodLink RX1 22 yJ7_fill_53178, Cond.static yJ7_fill_53178, Cond.initialized RJ7, Cond.code yJ7_fill_53178 cJ7_fill_53178 4 none]
def wsX4_endTerm_r5 : List Cond := [Cond.methodLink RX3 59 yX0_clear, Cond.instanceMethod yX0_clear, Cond.selects RX0 yX0_clear yX0_clear, Cond.code yX0_clear cX0_clear 1 none, Cond.fieldLink RX0 21 "TermBill$Aid" "many" "I", Cond.methodLink RX0 31 yJ7_fill_53178]
def wsX4_endTerm : List Cond := .code yX4_endTerm cX4_endTerm 7 none :: ((wsX4_endTerm_r1 ++ (wsX4_endTerm_r2 ++ (wsX4_endTerm_r3 ++ (wsX4_endTerm_r4 ++ wsX4_endTerm_r5)))) ++ wsX40 ++ wsX30 ++ wsX10 ++ wsX00 ++ (vx_atS RX4 120 "java/lang/IndexOutOfBoundsException" ["java/lang/RuntimeException", "java/lang/Exception"]).filter goodWord)
def wsX4_chargeLateFees_r1 : List Cond := [Cond.fieldLink RX4 156 "TermBill$Student" "instalments" "LTermBill$Instalments;", Cond.fieldLink RX4 132 "TermBill$Student" "fees" "I", Cond.fieldLink RX4 29 "TermBill" "lateFee" "I", Cond.methodLink RX4 71 yX4_studentAt, Cond.instanceMethod yX4_studentAt, Cond.selects RX4 yX4_studentAt yX4_studentAt, Cond.initialized RX4, Cond.code yX4_studentAt cX4_studentAt 3 (some (.object "TermBill$Student")), Cond.classLink RX4 116 "java/lang/IndexOutOfBoundsException", Cond.initialized "java/lang/IndexOutOfBoundsException", Cond.fieldLink RX4 11 "TermBill" "students" "[LTermBill$Student;", Cond.methodLink RX4 173 yX4_weekNumber, Cond.instanceMethod yX4_weekNumber, Cond.selects RX4 yX4_weekNumber yX4_weekNumber, Cond.code yX4_weekNumber cX4_weekNumber 1 (some .int), Cond.fieldLink RX4 38 "TermBill" "term" "I", Cond.fieldLink RX4 35 "TermBill" "week" "I", Cond.methodLink RX4 251 yX2_isLateAt, Cond.instanceMethod yX2_isLateAt, Cond.selects RX2 yX2_isLateAt yX2_isLateAt, Cond.initialized RX2, Cond.code yX2_isLateAt cX2_isLateAt 4 (some .boolean), Cond.fieldLink RX2 9 "TermBill$Instalments" "madeAt" "I", Cond.fieldLink RX2 15 "TermBill$Instalments" "many" "I"]
def wsX4_chargeLateFees_r2 : List Cond := [Cond.fieldLink RX2 24 "TermBill$Instalments" "paidSince" "I", Cond.fieldLink RX2 18 "TermBill$Instalments" "first" "I", Cond.fieldLink RX2 21 "TermBill$Instalments" "each" "I"]
def wsX4_chargeLateFees : List Cond := .code yX4_chargeLateFees cX4_chargeLateFees 3 none :: ((wsX4_chargeLateFees_r1 ++ wsX4_chargeLateFees_r2) ++ wsX30 ++ wsX40 ++ wsX20 ++ (vx_atS RX4 120 "java/lang/IndexOutOfBoundsException" ["java/lang/RuntimeException", "java/lang/Exception"]).filter goodWord)
def wsX4_closeWeek_r1 : List Cond := [Cond.classLink RX4 107 "java/lang/IllegalStateException", Cond.initialized "java/lang/IllegalStateException", Cond.fieldLink RX4 35 "TermBill" "week" "I", Cond.fieldLink RX4 38 "TermBill" "term" "I", Cond.methodLink RX4 193 yX4_endTerm, Cond.instanceMethod yX4_endTerm, Cond.selects RX4 yX4_endTerm yX4_endTerm, Cond.initialized RX4, Cond.code yX4_endTerm cX4_endTerm 7 none, Cond.methodLink RX4 71 yX4_studentAt, Cond.instanceMethod yX4_studentAt, Cond.selects RX4 yX4_studentAt yX4_studentAt, Cond.code yX4_studentAt cX4_studentAt 3 (some (.object "TermBill$Student")), Cond.classLink RX4 116 "java/lang/IndexOutOfBoundsException", Cond.initialized "java/lang/IndexOutOfBoundsException", Cond.fieldLink RX4 11 "TermBill" "students" "[LTermBill$Student;", Cond.methodLink RX4 165 yX4_balanceOf, Cond.instanceMethod yX4_balanceOf, Cond.selects RX4 yX4_balanceOf yX4_balanceOf, Cond.code yX4_balanceOf cX4_balanceOf 3 (some .int), Cond.fieldLink RX4 140 "TermBill$Student" "aid" "LTermBill$Aid;", Cond.fieldLink RX4 84 "TermBill$Student" "need" "I", Cond.fieldLink RX4 153 "TermBill$Student" "paidSum" "I", Cond.methodLink RX4 211 yX4_unsponsored]
def wsX4_closeWeek_r2 : List Cond := [Cond.instanceMethod yX4_unsponsored, Cond.selects RX4 yX4_unsponsored yX4_unsponsored, Cond.code yX4_unsponsored cX4_unsponsored 2 (some .int), Cond.methodLink RX4 202 yX4_chargesOf, Cond.instanceMethod yX4_chargesOf, Cond.selects RX4 yX4_chargesOf yX4_chargesOf, Cond.code yX4_chargesOf cX4_chargesOf 5 (some .int), Cond.fieldLink RX4 77 "TermBill$Student" "level" "I", Cond.fieldLink RX4 80 "TermBill$Student" "isResident" "Z", Cond.fieldLink RX4 97 "TermBill$Student" "courses" "LTermBill$Courses;", Cond.fieldLink RX4 237 "TermBill$Courses" "keptSum" "I", Cond.fieldLink RX4 132 "TermBill$Student" "fees" "I", Cond.fieldLink RX4 135 "TermBill$Student" "housing" "I", Cond.methodLink RX4 48 yX4_placeOfRate, Cond.static yX4_placeOfRate, Cond.code yX4_placeOfRate cX4_placeOfRate 2 (some .int), Cond.methodLink RX4 225 yX4_rateAt, Cond.instanceMethod yX4_rateAt, Cond.selects RX4 yX4_rateAt yX4_rateAt, Cond.code yX4_rateAt cX4_rateAt 2 (some .int), Cond.fieldLink RX4 15 "TermBill" "rates" "[I", Cond.methodLink RX4 199 yX1_total, Cond.instanceMethod yX1_total, Cond.selects RX1 yX1_total yX1_total]
def wsX4_closeWeek_r3 : List Cond := [Cond.initialized RX1, Cond.code yX1_total cX1_total 3 (some .int), Cond.fieldLink RX1 9 "TermBill$Courses" "creditsByCourse" "[I", Cond.methodLink RX4 228 yX4_priceOf, Cond.instanceMethod yX4_priceOf, Cond.selects RX4 yX4_priceOf yX4_priceOf, Cond.code yX4_priceOf cX4_priceOf 3 (some .int), Cond.fieldLink RX4 22 "TermBill" "bandFrom" "I", Cond.fieldLink RX4 26 "TermBill" "bandTo" "I", Cond.methodLink RX4 205 yX4_sponsorPart, Cond.instanceMethod yX4_sponsorPart, Cond.selects RX4 yX4_sponsorPart yX4_sponsorPart, Cond.code yX4_sponsorPart cX4_sponsorPart 2 (some .int), Cond.fieldLink RX4 89 "TermBill$Student" "sponsorKinds" "I", Cond.fieldLink RX4 92 "TermBill$Student" "sponsorLimit" "I", Cond.methodLink RX4 240 Lib.Math.min.name, Cond.static Lib.Math.min.name, Cond.initialized "java/lang/Math", Cond.code Lib.Math.min.name Lib.Math.min.code 2 (some .int), Cond.methodLink RX4 214 yX0_cover, Cond.instanceMethod yX0_cover, Cond.selects RX0 yX0_cover yX0_cover, Cond.initialized RX0, Cond.code yX0_cover cX0_cover 8 (some .int)]
def wsX4_closeWeek_r4 : List Cond := [Cond.fieldLink RX0 9 "TermBill$Aid" "ranks" "[I", Cond.methodLink RX0 25 Lib.Math.min.name, Cond.fieldLink RX0 18 "TermBill$Aid" "uses" "[I", Cond.fieldLink RX0 15 "TermBill$Aid" "amounts" "[I", Cond.methodLink RX4 245 yX4_carriedTo, Cond.static yX4_carriedTo, Cond.code yX4_carriedTo cX4_carriedTo 2 (some .int), Cond.methodLink RX4 248 yX3_beginTerm, Cond.instanceMethod yX3_beginTerm, Cond.selects RX3 yX3_beginTerm yX3_beginTerm, Cond.initialized RX3, Cond.code yX3_beginTerm cX3_beginTerm 2 none, Cond.fieldLink RX3 10 "TermBill$Student" "courses" "LTermBill$Courses;", Cond.fieldLink RX3 19 "TermBill$Student" "aid" "LTermBill$Aid;", Cond.fieldLink RX3 47 "TermBill$Student" "sponsorKinds" "I", Cond.fieldLink RX3 50 "TermBill$Student" "sponsorLimit" "I", Cond.fieldLink RX3 44 "TermBill$Student" "housing" "I", Cond.methodLink RX3 60 Lib.Math.max.name, Cond.static Lib.Math.max.name, Cond.code Lib.Math.max.name Lib.Math.max.code 2 (some .int), Cond.fieldLink RX3 41 "TermBill$Student" "fees" "I", Cond.fieldLink RX3 53 "TermBill$Student" "paidSum" "I", Cond.methodLink RX3 56 yX1_clear, Cond.instanceMethod yX1_clear]
def wsX4_closeWeek_r5 : List Cond := [Cond.selects RX1 yX1_clear yX1_clear, Cond.code yX1_clear cX1_clear 1 none, Cond.fieldLink RX1 15 "TermBill$Courses" "taken" "I", Cond.fieldLink RX1 19 "TermBill$Courses" "keptSum" "I", Cond.methodLink RX1 22 yJ7_fill_53178, Cond.static yJ7_fill_53178, Cond.initialized RJ7, Cond.code yJ7_fill_53178 cJ7_fill_53178 4 none, Cond.methodLink RX3 59 yX0_clear, Cond.instanceMethod yX0_clear, Cond.selects RX0 yX0_clear yX0_clear, Cond.code yX0_clear cX0_clear 1 none, Cond.fieldLink RX0 21 "TermBill$Aid" "many" "I", Cond.methodLink RX0 31 yJ7_fill_53178, Cond.methodLink RX4 196 yX4_chargeLateFees, Cond.instanceMethod yX4_chargeLateFees, Cond.selects RX4 yX4_chargeLateFees yX4_chargeLateFees, Cond.code yX4_chargeLateFees cX4_chargeLateFees 3 none, Cond.fieldLink RX4 156 "TermBill$Student" "instalments" "LTermBill$Instalments;", Cond.fieldLink RX4 29 "TermBill" "lateFee" "I", Cond.methodLink RX4 173 yX4_weekNumber, Cond.instanceMethod yX4_weekNumber, Cond.selects RX4 yX4_weekNumber yX4_weekNumber, Cond.code yX4_weekNumber cX4_weekNumber 1 (some .int)]
def wsX4_closeWeek_r6 : List Cond := [Cond.methodLink RX4 251 yX2_isLateAt, Cond.instanceMethod yX2_isLateAt, Cond.selects RX2 yX2_isLateAt yX2_isLateAt, Cond.initialized RX2, Cond.code yX2_isLateAt cX2_isLateAt 4 (some .boolean), Cond.fieldLink RX2 9 "TermBill$Instalments" "madeAt" "I", Cond.fieldLink RX2 15 "TermBill$Instalments" "many" "I", Cond.fieldLink RX2 24 "TermBill$Instalments" "paidSince" "I", Cond.fieldLink RX2 18 "TermBill$Instalments" "first" "I", Cond.fieldLink RX2 21 "TermBill$Instalments" "each" "I"]
def wsX4_closeWeek : List Cond := .code yX4_closeWeek cX4_closeWeek 1 (some .int) :: ((wsX4_closeWeek_r1 ++ (wsX4_closeWeek_r2 ++ (wsX4_closeWeek_r3 ++ (wsX4_closeWeek_r4 ++ (wsX4_closeWeek_r5 ++ wsX4_closeWeek_r6))))) ++ wsX40 ++ wsX30 ++ wsX10 ++ wsX00 ++ wsX20 ++ (vx_atS RX4 111 "java/lang/IllegalStateException" ["java/lang/RuntimeException", "java/lang/Exception"]).filter goodWord ++ (vx_atS RX4 120 "java/lang/IndexOutOfBoundsException" ["java/lang/RuntimeException", "java/lang/Exception"]).filter goodWord)
def wsX4_week : List Cond := .code yX4_week cX4_week 1 (some .int) :: ([.fieldLink RX4 35 "TermBill" "week" "I"] ++ wsX40)
def wsX4_term : List Cond := .code yX4_term cX4_term 1 (some .int) :: ([.fieldLink RX4 38 "TermBill" "term" "I"] ++ wsX40)
def wsX4_credits : List Cond := .code yX4_credits cX4_credits 2 (some .int) :: ([.fieldLink RX4 97 "TermBill$Student" "courses" "LTermBill$Courses;", .methodLink RX4 71 yX4_studentAt, .instanceMethod yX4_studentAt, .selects RX4 yX4_studentAt yX4_studentAt, .initialized RX4, .code yX4_studentAt cX4_studentAt 3 (some (.object "TermBill$Student")), .classLink RX4 116 "java/lang/IndexOutOfBoundsException", .initialized "java/lang/IndexOutOfBoundsException", .fieldLink RX4 11 "TermBill" "students" "[LTermBill$Student;", .methodLink RX4 199 yX1_total, .instanceMethod yX1_total, .selects RX1 yX1_total yX1_total, .initialized RX1, .code yX1_total cX1_total 3 (some .int), .fieldLink RX1 9 "TermBill$Courses" "creditsByCourse" "[I"] ++ wsX30 ++ wsX40 ++ wsX10 ++ (vx_atS RX4 120 "java/lang/IndexOutOfBoundsException" ["java/lang/RuntimeException", "java/lang/Exception"]).filter goodWord)
def wsX4_charged_r1 : List Cond := [Cond.classLink RX4 57 "java/lang/IllegalArgumentException", Cond.initialized "java/lang/IllegalArgumentException", Cond.methodLink RX4 71 yX4_studentAt, Cond.instanceMethod yX4_studentAt, Cond.selects RX4 yX4_studentAt yX4_studentAt, Cond.initialized RX4, Cond.code yX4_studentAt cX4_studentAt 3 (some (.object "TermBill$Student")), Cond.classLink RX4 116 "java/lang/IndexOutOfBoundsException", Cond.initialized "java/lang/IndexOutOfBoundsException", Cond.fieldLink RX4 11 "TermBill" "students" "[LTermBill$Student;", Cond.methodLink RX4 53 yX4_isWithin, Cond.static yX4_isWithin, Cond.code yX4_isWithin cX4_isWithin 3 (some .boolean), Cond.methodLink RX4 202 yX4_chargesOf, Cond.instanceMethod yX4_chargesOf, Cond.selects RX4 yX4_chargesOf yX4_chargesOf, Cond.code yX4_chargesOf cX4_chargesOf 5 (some .int), Cond.fieldLink RX4 77 "TermBill$Student" "level" "I", Cond.fieldLink RX4 80 "TermBill$Student" "isResident" "Z", Cond.fieldLink RX4 97 "TermBill$Student" "courses" "LTermBill$Courses;", Cond.fieldLink RX4 237 "TermBill$Courses" "keptSum" "I", Cond.fieldLink RX4 132 "TermBill$Student" "fees" "I", Cond.fieldLink RX4 135 "TermBill$Student" "housing" "I", Cond.methodLink RX4 48 yX4_placeOfRate]
def wsX4_charged_r2 : List Cond := [Cond.static yX4_placeOfRate, Cond.code yX4_placeOfRate cX4_placeOfRate 2 (some .int), Cond.methodLink RX4 225 yX4_rateAt, Cond.instanceMethod yX4_rateAt, Cond.selects RX4 yX4_rateAt yX4_rateAt, Cond.code yX4_rateAt cX4_rateAt 2 (some .int), Cond.fieldLink RX4 15 "TermBill" "rates" "[I", Cond.methodLink RX4 199 yX1_total, Cond.instanceMethod yX1_total, Cond.selects RX1 yX1_total yX1_total, Cond.initialized RX1, Cond.code yX1_total cX1_total 3 (some .int), Cond.fieldLink RX1 9 "TermBill$Courses" "creditsByCourse" "[I", Cond.methodLink RX4 228 yX4_priceOf, Cond.instanceMethod yX4_priceOf, Cond.selects RX4 yX4_priceOf yX4_priceOf, Cond.code yX4_priceOf cX4_priceOf 3 (some .int), Cond.fieldLink RX4 22 "TermBill" "bandFrom" "I", Cond.fieldLink RX4 26 "TermBill" "bandTo" "I"]
def wsX4_charged : List Cond := .code yX4_charged cX4_charged 4 (some .int) :: ((wsX4_charged_r1 ++ wsX4_charged_r2) ++ wsX40 ++ wsX30 ++ wsX10 ++ (vx_atS RX4 61 "java/lang/IllegalArgumentException" ["java/lang/RuntimeException", "java/lang/Exception"]).filter goodWord ++ (vx_atS RX4 120 "java/lang/IndexOutOfBoundsException" ["java/lang/RuntimeException", "java/lang/Exception"]).filter goodWord)
def wsX4_sponsored_r1 : List Cond := [Cond.methodLink RX4 71 yX4_studentAt, Cond.instanceMethod yX4_studentAt, Cond.selects RX4 yX4_studentAt yX4_studentAt, Cond.initialized RX4, Cond.code yX4_studentAt cX4_studentAt 3 (some (.object "TermBill$Student")), Cond.classLink RX4 116 "java/lang/IndexOutOfBoundsException", Cond.initialized "java/lang/IndexOutOfBoundsException", Cond.fieldLink RX4 11 "TermBill" "students" "[LTermBill$Student;", Cond.methodLink RX4 205 yX4_sponsorPart, Cond.instanceMethod yX4_sponsorPart, Cond.selects RX4 yX4_sponsorPart yX4_sponsorPart, Cond.code yX4_sponsorPart cX4_sponsorPart 2 (some .int), Cond.fieldLink RX4 89 "TermBill$Student" "sponsorKinds" "I", Cond.fieldLink RX4 92 "TermBill$Student" "sponsorLimit" "I", Cond.methodLink RX4 240 Lib.Math.min.name, Cond.static Lib.Math.min.name, Cond.initialized "java/lang/Math", Cond.code Lib.Math.min.name Lib.Math.min.code 2 (some .int), Cond.methodLink RX4 202 yX4_chargesOf, Cond.instanceMethod yX4_chargesOf, Cond.selects RX4 yX4_chargesOf yX4_chargesOf, Cond.code yX4_chargesOf cX4_chargesOf 5 (some .int), Cond.fieldLink RX4 77 "TermBill$Student" "level" "I", Cond.fieldLink RX4 80 "TermBill$Student" "isResident" "Z"]
def wsX4_sponsored_r2 : List Cond := [Cond.fieldLink RX4 97 "TermBill$Student" "courses" "LTermBill$Courses;", Cond.fieldLink RX4 237 "TermBill$Courses" "keptSum" "I", Cond.fieldLink RX4 132 "TermBill$Student" "fees" "I", Cond.fieldLink RX4 135 "TermBill$Student" "housing" "I", Cond.methodLink RX4 48 yX4_placeOfRate, Cond.static yX4_placeOfRate, Cond.code yX4_placeOfRate cX4_placeOfRate 2 (some .int), Cond.methodLink RX4 225 yX4_rateAt, Cond.instanceMethod yX4_rateAt, Cond.selects RX4 yX4_rateAt yX4_rateAt, Cond.code yX4_rateAt cX4_rateAt 2 (some .int), Cond.fieldLink RX4 15 "TermBill" "rates" "[I", Cond.methodLink RX4 199 yX1_total, Cond.instanceMethod yX1_total, Cond.selects RX1 yX1_total yX1_total, Cond.initialized RX1, Cond.code yX1_total cX1_total 3 (some .int), Cond.fieldLink RX1 9 "TermBill$Courses" "creditsByCourse" "[I", Cond.methodLink RX4 228 yX4_priceOf, Cond.instanceMethod yX4_priceOf, Cond.selects RX4 yX4_priceOf yX4_priceOf, Cond.code yX4_priceOf cX4_priceOf 3 (some .int), Cond.fieldLink RX4 22 "TermBill" "bandFrom" "I", Cond.fieldLink RX4 26 "TermBill" "bandTo" "I"]
def wsX4_sponsored : List Cond := .code yX4_sponsored cX4_sponsored 2 (some .int) :: ((wsX4_sponsored_r1 ++ wsX4_sponsored_r2) ++ wsX40 ++ wsX30 ++ wsX10 ++ (vx_atS RX4 120 "java/lang/IndexOutOfBoundsException" ["java/lang/RuntimeException", "java/lang/Exception"]).filter goodWord)
def wsX4_used_r1 : List Cond := [Cond.classLink RX4 116 "java/lang/IndexOutOfBoundsException", Cond.initialized "java/lang/IndexOutOfBoundsException", Cond.fieldLink RX4 140 "TermBill$Student" "aid" "LTermBill$Aid;", Cond.fieldLink RX4 84 "TermBill$Student" "need" "I", Cond.methodLink RX4 71 yX4_studentAt, Cond.instanceMethod yX4_studentAt, Cond.selects RX4 yX4_studentAt yX4_studentAt, Cond.initialized RX4, Cond.code yX4_studentAt cX4_studentAt 3 (some (.object "TermBill$Student")), Cond.fieldLink RX4 11 "TermBill" "students" "[LTermBill$Student;", Cond.methodLink RX4 208 yX0_has, Cond.instanceMethod yX0_has, Cond.selects RX0 yX0_has yX0_has, Cond.initialized RX0, Cond.code yX0_has cX0_has 2 (some .boolean), Cond.fieldLink RX0 21 "TermBill$Aid" "many" "I", Cond.methodLink RX4 211 yX4_unsponsored, Cond.instanceMethod yX4_unsponsored, Cond.selects RX4 yX4_unsponsored yX4_unsponsored, Cond.code yX4_unsponsored cX4_unsponsored 2 (some .int), Cond.methodLink RX4 202 yX4_chargesOf, Cond.instanceMethod yX4_chargesOf, Cond.selects RX4 yX4_chargesOf yX4_chargesOf, Cond.code yX4_chargesOf cX4_chargesOf 5 (some .int)]
def wsX4_used_r2 : List Cond := [Cond.fieldLink RX4 77 "TermBill$Student" "level" "I", Cond.fieldLink RX4 80 "TermBill$Student" "isResident" "Z", Cond.fieldLink RX4 97 "TermBill$Student" "courses" "LTermBill$Courses;", Cond.fieldLink RX4 237 "TermBill$Courses" "keptSum" "I", Cond.fieldLink RX4 132 "TermBill$Student" "fees" "I", Cond.fieldLink RX4 135 "TermBill$Student" "housing" "I", Cond.methodLink RX4 48 yX4_placeOfRate, Cond.static yX4_placeOfRate, Cond.code yX4_placeOfRate cX4_placeOfRate 2 (some .int), Cond.methodLink RX4 225 yX4_rateAt, Cond.instanceMethod yX4_rateAt, Cond.selects RX4 yX4_rateAt yX4_rateAt, Cond.code yX4_rateAt cX4_rateAt 2 (some .int), Cond.fieldLink RX4 15 "TermBill" "rates" "[I", Cond.methodLink RX4 199 yX1_total, Cond.instanceMethod yX1_total, Cond.selects RX1 yX1_total yX1_total, Cond.initialized RX1, Cond.code yX1_total cX1_total 3 (some .int), Cond.fieldLink RX1 9 "TermBill$Courses" "creditsByCourse" "[I", Cond.methodLink RX4 228 yX4_priceOf, Cond.instanceMethod yX4_priceOf, Cond.selects RX4 yX4_priceOf yX4_priceOf, Cond.code yX4_priceOf cX4_priceOf 3 (some .int)]
def wsX4_used_r3 : List Cond := [Cond.fieldLink RX4 22 "TermBill" "bandFrom" "I", Cond.fieldLink RX4 26 "TermBill" "bandTo" "I", Cond.methodLink RX4 205 yX4_sponsorPart, Cond.instanceMethod yX4_sponsorPart, Cond.selects RX4 yX4_sponsorPart yX4_sponsorPart, Cond.code yX4_sponsorPart cX4_sponsorPart 2 (some .int), Cond.fieldLink RX4 89 "TermBill$Student" "sponsorKinds" "I", Cond.fieldLink RX4 92 "TermBill$Student" "sponsorLimit" "I", Cond.methodLink RX4 240 Lib.Math.min.name, Cond.static Lib.Math.min.name, Cond.initialized "java/lang/Math", Cond.code Lib.Math.min.name Lib.Math.min.code 2 (some .int), Cond.methodLink RX4 214 yX0_cover, Cond.instanceMethod yX0_cover, Cond.selects RX0 yX0_cover yX0_cover, Cond.code yX0_cover cX0_cover 8 (some .int), Cond.fieldLink RX0 9 "TermBill$Aid" "ranks" "[I", Cond.methodLink RX0 25 Lib.Math.min.name, Cond.fieldLink RX0 18 "TermBill$Aid" "uses" "[I", Cond.fieldLink RX0 15 "TermBill$Aid" "amounts" "[I", Cond.methodLink RX4 217 yX0_useOf, Cond.instanceMethod yX0_useOf, Cond.selects RX0 yX0_useOf yX0_useOf, Cond.code yX0_useOf cX0_useOf 2 (some .int)]
def wsX4_used : List Cond := .code yX4_used cX4_used 4 (some .int) :: ((wsX4_used_r1 ++ (wsX4_used_r2 ++ wsX4_used_r3)) ++ wsX30 ++ wsX40 ++ wsX00 ++ wsX10 ++ (vx_atS RX4 120 "java/lang/IndexOutOfBoundsException" ["java/lang/RuntimeException", "java/lang/Exception"]).filter goodWord)
def wsX4_amountOf : List Cond := .code yX4_amountOf cX4_amountOf 4 (some .int) :: ([.classLink RX4 116 "java/lang/IndexOutOfBoundsException", .initialized "java/lang/IndexOutOfBoundsException", .fieldLink RX4 140 "TermBill$Student" "aid" "LTermBill$Aid;", .methodLink RX4 71 yX4_studentAt, .instanceMethod yX4_studentAt, .selects RX4 yX4_studentAt yX4_studentAt, .initialized RX4, .code yX4_studentAt cX4_studentAt 3 (some (.object "TermBill$Student")), .fieldLink RX4 11 "TermBill" "students" "[LTermBill$Student;", .methodLink RX4 208 yX0_has, .instanceMethod yX0_has, .selects RX0 yX0_has yX0_has, .initialized RX0, .code yX0_has cX0_has 2 (some .boolean), .fieldLink RX0 21 "TermBill$Aid" "many" "I", .methodLink RX4 220 yX0_sumOf, .instanceMethod yX0_sumOf, .selects RX0 yX0_sumOf yX0_sumOf, .code yX0_sumOf cX0_sumOf 2 (some .int), .fieldLink RX0 15 "TermBill$Aid" "amounts" "[I"] ++ wsX30 ++ wsX40 ++ wsX00 ++ (vx_atS RX4 120 "java/lang/IndexOutOfBoundsException" ["java/lang/RuntimeException", "java/lang/Exception"]).filter goodWord)
def wsX4_paid : List Cond := .code yX4_paid cX4_paid 2 (some .int) :: ([.fieldLink RX4 153 "TermBill$Student" "paidSum" "I", .methodLink RX4 71 yX4_studentAt, .instanceMethod yX4_studentAt, .selects RX4 yX4_studentAt yX4_studentAt, .initialized RX4, .code yX4_studentAt cX4_studentAt 3 (some (.object "TermBill$Student")), .classLink RX4 116 "java/lang/IndexOutOfBoundsException", .initialized "java/lang/IndexOutOfBoundsException", .fieldLink RX4 11 "TermBill" "students" "[LTermBill$Student;"] ++ wsX30 ++ wsX40 ++ (vx_atS RX4 120 "java/lang/IndexOutOfBoundsException" ["java/lang/RuntimeException", "java/lang/Exception"]).filter goodWord)
def wsX4_owed_r1 : List Cond := [Cond.methodLink RX4 71 yX4_studentAt, Cond.instanceMethod yX4_studentAt, Cond.selects RX4 yX4_studentAt yX4_studentAt, Cond.initialized RX4, Cond.code yX4_studentAt cX4_studentAt 3 (some (.object "TermBill$Student")), Cond.classLink RX4 116 "java/lang/IndexOutOfBoundsException", Cond.initialized "java/lang/IndexOutOfBoundsException", Cond.fieldLink RX4 11 "TermBill" "students" "[LTermBill$Student;", Cond.methodLink RX4 165 yX4_balanceOf, Cond.instanceMethod yX4_balanceOf, Cond.selects RX4 yX4_balanceOf yX4_balanceOf, Cond.code yX4_balanceOf cX4_balanceOf 3 (some .int), Cond.fieldLink RX4 140 "TermBill$Student" "aid" "LTermBill$Aid;", Cond.fieldLink RX4 84 "TermBill$Student" "need" "I", Cond.fieldLink RX4 153 "TermBill$Student" "paidSum" "I", Cond.methodLink RX4 211 yX4_unsponsored, Cond.instanceMethod yX4_unsponsored, Cond.selects RX4 yX4_unsponsored yX4_unsponsored, Cond.code yX4_unsponsored cX4_unsponsored 2 (some .int), Cond.methodLink RX4 202 yX4_chargesOf, Cond.instanceMethod yX4_chargesOf, Cond.selects RX4 yX4_chargesOf yX4_chargesOf, Cond.code yX4_chargesOf cX4_chargesOf 5 (some .int), Cond.fieldLink RX4 77 "TermBill$Student" "level" "I"]
def wsX4_owed_r2 : List Cond := [Cond.fieldLink RX4 80 "TermBill$Student" "isResident" "Z", Cond.fieldLink RX4 97 "TermBill$Student" "courses" "LTermBill$Courses;", Cond.fieldLink RX4 237 "TermBill$Courses" "keptSum" "I", Cond.fieldLink RX4 132 "TermBill$Student" "fees" "I", Cond.fieldLink RX4 135 "TermBill$Student" "housing" "I", Cond.methodLink RX4 48 yX4_placeOfRate, Cond.static yX4_placeOfRate, Cond.code yX4_placeOfRate cX4_placeOfRate 2 (some .int), Cond.methodLink RX4 225 yX4_rateAt, Cond.instanceMethod yX4_rateAt, Cond.selects RX4 yX4_rateAt yX4_rateAt, Cond.code yX4_rateAt cX4_rateAt 2 (some .int), Cond.fieldLink RX4 15 "TermBill" "rates" "[I", Cond.methodLink RX4 199 yX1_total, Cond.instanceMethod yX1_total, Cond.selects RX1 yX1_total yX1_total, Cond.initialized RX1, Cond.code yX1_total cX1_total 3 (some .int), Cond.fieldLink RX1 9 "TermBill$Courses" "creditsByCourse" "[I", Cond.methodLink RX4 228 yX4_priceOf, Cond.instanceMethod yX4_priceOf, Cond.selects RX4 yX4_priceOf yX4_priceOf, Cond.code yX4_priceOf cX4_priceOf 3 (some .int), Cond.fieldLink RX4 22 "TermBill" "bandFrom" "I"]
def wsX4_owed_r3 : List Cond := [Cond.fieldLink RX4 26 "TermBill" "bandTo" "I", Cond.methodLink RX4 205 yX4_sponsorPart, Cond.instanceMethod yX4_sponsorPart, Cond.selects RX4 yX4_sponsorPart yX4_sponsorPart, Cond.code yX4_sponsorPart cX4_sponsorPart 2 (some .int), Cond.fieldLink RX4 89 "TermBill$Student" "sponsorKinds" "I", Cond.fieldLink RX4 92 "TermBill$Student" "sponsorLimit" "I", Cond.methodLink RX4 240 Lib.Math.min.name, Cond.static Lib.Math.min.name, Cond.initialized "java/lang/Math", Cond.code Lib.Math.min.name Lib.Math.min.code 2 (some .int), Cond.methodLink RX4 214 yX0_cover, Cond.instanceMethod yX0_cover, Cond.selects RX0 yX0_cover yX0_cover, Cond.initialized RX0, Cond.code yX0_cover cX0_cover 8 (some .int), Cond.fieldLink RX0 9 "TermBill$Aid" "ranks" "[I", Cond.methodLink RX0 25 Lib.Math.min.name, Cond.fieldLink RX0 18 "TermBill$Aid" "uses" "[I", Cond.fieldLink RX0 15 "TermBill$Aid" "amounts" "[I"]
def wsX4_owed : List Cond := .code yX4_owed cX4_owed 2 (some .int) :: ((wsX4_owed_r1 ++ (wsX4_owed_r2 ++ wsX4_owed_r3)) ++ wsX40 ++ wsX30 ++ wsX10 ++ wsX00 ++ (vx_atS RX4 120 "java/lang/IndexOutOfBoundsException" ["java/lang/RuntimeException", "java/lang/Exception"]).filter goodWord)
def wsX4_hasHold_r1 : List Cond := [Cond.fieldLink RX4 32 "TermBill" "holdLimit" "I", Cond.methodLink RX4 71 yX4_studentAt, Cond.instanceMethod yX4_studentAt, Cond.selects RX4 yX4_studentAt yX4_studentAt, Cond.initialized RX4, Cond.code yX4_studentAt cX4_studentAt 3 (some (.object "TermBill$Student")), Cond.classLink RX4 116 "java/lang/IndexOutOfBoundsException", Cond.initialized "java/lang/IndexOutOfBoundsException", Cond.fieldLink RX4 11 "TermBill" "students" "[LTermBill$Student;", Cond.methodLink RX4 165 yX4_balanceOf, Cond.instanceMethod yX4_balanceOf, Cond.selects RX4 yX4_balanceOf yX4_balanceOf, Cond.code yX4_balanceOf cX4_balanceOf 3 (some .int), Cond.fieldLink RX4 140 "TermBill$Student" "aid" "LTermBill$Aid;", Cond.fieldLink RX4 84 "TermBill$Student" "need" "I", Cond.fieldLink RX4 153 "TermBill$Student" "paidSum" "I", Cond.methodLink RX4 211 yX4_unsponsored, Cond.instanceMethod yX4_unsponsored, Cond.selects RX4 yX4_unsponsored yX4_unsponsored, Cond.code yX4_unsponsored cX4_unsponsored 2 (some .int), Cond.methodLink RX4 202 yX4_chargesOf, Cond.instanceMethod yX4_chargesOf, Cond.selects RX4 yX4_chargesOf yX4_chargesOf, Cond.code yX4_chargesOf cX4_chargesOf 5 (some .int)]
def wsX4_hasHold_r2 : List Cond := [Cond.fieldLink RX4 77 "TermBill$Student" "level" "I", Cond.fieldLink RX4 80 "TermBill$Student" "isResident" "Z", Cond.fieldLink RX4 97 "TermBill$Student" "courses" "LTermBill$Courses;", Cond.fieldLink RX4 237 "TermBill$Courses" "keptSum" "I", Cond.fieldLink RX4 132 "TermBill$Student" "fees" "I", Cond.fieldLink RX4 135 "TermBill$Student" "housing" "I", Cond.methodLink RX4 48 yX4_placeOfRate, Cond.static yX4_placeOfRate, Cond.code yX4_placeOfRate cX4_placeOfRate 2 (some .int), Cond.methodLink RX4 225 yX4_rateAt, Cond.instanceMethod yX4_rateAt, Cond.selects RX4 yX4_rateAt yX4_rateAt, Cond.code yX4_rateAt cX4_rateAt 2 (some .int), Cond.fieldLink RX4 15 "TermBill" "rates" "[I", Cond.methodLink RX4 199 yX1_total, Cond.instanceMethod yX1_total, Cond.selects RX1 yX1_total yX1_total, Cond.initialized RX1, Cond.code yX1_total cX1_total 3 (some .int), Cond.fieldLink RX1 9 "TermBill$Courses" "creditsByCourse" "[I", Cond.methodLink RX4 228 yX4_priceOf, Cond.instanceMethod yX4_priceOf, Cond.selects RX4 yX4_priceOf yX4_priceOf, Cond.code yX4_priceOf cX4_priceOf 3 (some .int)]
def wsX4_hasHold_r3 : List Cond := [Cond.fieldLink RX4 22 "TermBill" "bandFrom" "I", Cond.fieldLink RX4 26 "TermBill" "bandTo" "I", Cond.methodLink RX4 205 yX4_sponsorPart, Cond.instanceMethod yX4_sponsorPart, Cond.selects RX4 yX4_sponsorPart yX4_sponsorPart, Cond.code yX4_sponsorPart cX4_sponsorPart 2 (some .int), Cond.fieldLink RX4 89 "TermBill$Student" "sponsorKinds" "I", Cond.fieldLink RX4 92 "TermBill$Student" "sponsorLimit" "I", Cond.methodLink RX4 240 Lib.Math.min.name, Cond.static Lib.Math.min.name, Cond.initialized "java/lang/Math", Cond.code Lib.Math.min.name Lib.Math.min.code 2 (some .int), Cond.methodLink RX4 214 yX0_cover, Cond.instanceMethod yX0_cover, Cond.selects RX0 yX0_cover yX0_cover, Cond.initialized RX0, Cond.code yX0_cover cX0_cover 8 (some .int), Cond.fieldLink RX0 9 "TermBill$Aid" "ranks" "[I", Cond.methodLink RX0 25 Lib.Math.min.name, Cond.fieldLink RX0 18 "TermBill$Aid" "uses" "[I", Cond.fieldLink RX0 15 "TermBill$Aid" "amounts" "[I"]
def wsX4_hasHold : List Cond := .code yX4_hasHold cX4_hasHold 2 (some .boolean) :: ((wsX4_hasHold_r1 ++ (wsX4_hasHold_r2 ++ wsX4_hasHold_r3)) ++ wsX40 ++ wsX30 ++ wsX10 ++ wsX00 ++ (vx_atS RX4 120 "java/lang/IndexOutOfBoundsException" ["java/lang/RuntimeException", "java/lang/Exception"]).filter goodWord)
def wsJ9_max_7cf53 : List Cond := .code yJ9_max_7cf53 cJ9_max_7cf53 2 (some .int) :: ([])
def wsJ9_min_7cf53 : List Cond := .code yJ9_min_7cf53 cJ9_min_7cf53 2 (some .int) :: ([])
def wsL_cell : List Cond := .code yL_cell cL_cell 2 (some .int) :: ([])
def wsL_low : List Cond := .code yL_low cL_low 2 (some .int) :: ([.constant RL 7 (2147483647)])
def wsL_sets_r1 : List Cond := [Cond.methodLink RL 58 yX4_setBand, Cond.instanceMethod yX4_setBand, Cond.selects RX4 yX4_setBand yX4_setBand, Cond.initialized RX4, Cond.code yX4_setBand cX4_setBand 3 none, Cond.classLink RX4 57 "java/lang/IllegalArgumentException", Cond.initialized "java/lang/IllegalArgumentException", Cond.fieldLink RX4 22 "TermBill" "bandFrom" "I", Cond.fieldLink RX4 26 "TermBill" "bandTo" "I", Cond.methodLink RX4 53 yX4_isWithin, Cond.static yX4_isWithin, Cond.code yX4_isWithin cX4_isWithin 3 (some .boolean), Cond.methodLink RL 62 yX4_setFees, Cond.instanceMethod yX4_setFees, Cond.selects RX4 yX4_setFees yX4_setFees, Cond.code yX4_setFees cX4_setFees 3 none, Cond.constant RX4 52 (100000), Cond.constant RX4 68 (1000000), Cond.fieldLink RX4 29 "TermBill" "lateFee" "I", Cond.fieldLink RX4 32 "TermBill" "holdLimit" "I", Cond.methodLink RL 65 yX4_setStudent, Cond.instanceMethod yX4_setStudent, Cond.selects RX4 yX4_setStudent yX4_setStudent, Cond.code yX4_setStudent cX4_setStudent 6 none]
def wsL_sets_r2 : List Cond := [Cond.fieldLink RX4 77 "TermBill$Student" "level" "I", Cond.fieldLink RX4 80 "TermBill$Student" "isResident" "Z", Cond.fieldLink RX4 84 "TermBill$Student" "need" "I", Cond.methodLink RX4 71 yX4_studentAt, Cond.instanceMethod yX4_studentAt, Cond.selects RX4 yX4_studentAt yX4_studentAt, Cond.code yX4_studentAt cX4_studentAt 3 (some (.object "TermBill$Student")), Cond.classLink RX4 116 "java/lang/IndexOutOfBoundsException", Cond.initialized "java/lang/IndexOutOfBoundsException", Cond.fieldLink RX4 11 "TermBill" "students" "[LTermBill$Student;", Cond.methodLink RL 69 yX4_setSponsor, Cond.instanceMethod yX4_setSponsor, Cond.selects RX4 yX4_setSponsor yX4_setSponsor, Cond.code yX4_setSponsor cX4_setSponsor 5 none, Cond.fieldLink RX4 89 "TermBill$Student" "sponsorKinds" "I", Cond.fieldLink RX4 92 "TermBill$Student" "sponsorLimit" "I"]
def wsL_sets : List Cond := .code yL_sets cL_sets 5 (some .int) :: ((wsL_sets_r1 ++ wsL_sets_r2) ++ wsX40 ++ wsX30 ++ (vx_atS RX4 61 "java/lang/IllegalArgumentException" ["java/lang/RuntimeException", "java/lang/Exception"]).filter goodWord ++ (vx_atS RX4 120 "java/lang/IndexOutOfBoundsException" ["java/lang/RuntimeException", "java/lang/Exception"]).filter goodWord)
def wsL_does_r1 : List Cond := [Cond.classLink RL 51 "java/lang/IndexOutOfBoundsException", Cond.classLink RL 54 "java/lang/IllegalArgumentException", Cond.classLink RL 56 "java/lang/IllegalStateException", Cond.constant RL 53 (-1000000001), Cond.methodLink RL 8 yX4_setRate, Cond.instanceMethod yX4_setRate, Cond.selects RX4 yX4_setRate yX4_setRate, Cond.initialized RX4, Cond.code yX4_setRate cX4_setRate 6 (some .int), Cond.classLink RX4 57 "java/lang/IllegalArgumentException", Cond.initialized "java/lang/IllegalArgumentException", Cond.fieldLink RX4 15 "TermBill" "rates" "[I", Cond.constant RX4 52 (100000), Cond.methodLink RX4 48 yX4_placeOfRate, Cond.static yX4_placeOfRate, Cond.code yX4_placeOfRate cX4_placeOfRate 2 (some .int), Cond.methodLink RX4 53 yX4_isWithin, Cond.static yX4_isWithin, Cond.code yX4_isWithin cX4_isWithin 3 (some .boolean), Cond.methodLink RL 14 yL_sets, Cond.static yL_sets, Cond.initialized RL, Cond.code yL_sets cL_sets 5 (some .int), Cond.methodLink RL 58 yX4_setBand]
def wsL_does_r2 : List Cond := [Cond.instanceMethod yX4_setBand, Cond.selects RX4 yX4_setBand yX4_setBand, Cond.code yX4_setBand cX4_setBand 3 none, Cond.fieldLink RX4 22 "TermBill" "bandFrom" "I", Cond.fieldLink RX4 26 "TermBill" "bandTo" "I", Cond.methodLink RL 62 yX4_setFees, Cond.instanceMethod yX4_setFees, Cond.selects RX4 yX4_setFees yX4_setFees, Cond.code yX4_setFees cX4_setFees 3 none, Cond.constant RX4 68 (1000000), Cond.fieldLink RX4 29 "TermBill" "lateFee" "I", Cond.fieldLink RX4 32 "TermBill" "holdLimit" "I", Cond.methodLink RL 65 yX4_setStudent, Cond.instanceMethod yX4_setStudent, Cond.selects RX4 yX4_setStudent yX4_setStudent, Cond.code yX4_setStudent cX4_setStudent 6 none, Cond.fieldLink RX4 77 "TermBill$Student" "level" "I", Cond.fieldLink RX4 80 "TermBill$Student" "isResident" "Z", Cond.fieldLink RX4 84 "TermBill$Student" "need" "I", Cond.methodLink RX4 71 yX4_studentAt, Cond.instanceMethod yX4_studentAt, Cond.selects RX4 yX4_studentAt yX4_studentAt, Cond.code yX4_studentAt cX4_studentAt 3 (some (.object "TermBill$Student")), Cond.classLink RX4 116 "java/lang/IndexOutOfBoundsException"]
def wsL_does_r3 : List Cond := [Cond.initialized "java/lang/IndexOutOfBoundsException", Cond.fieldLink RX4 11 "TermBill" "students" "[LTermBill$Student;", Cond.methodLink RL 69 yX4_setSponsor, Cond.instanceMethod yX4_setSponsor, Cond.selects RX4 yX4_setSponsor yX4_setSponsor, Cond.code yX4_setSponsor cX4_setSponsor 5 none, Cond.fieldLink RX4 89 "TermBill$Student" "sponsorKinds" "I", Cond.fieldLink RX4 92 "TermBill$Student" "sponsorLimit" "I", Cond.methodLink RL 20 yX4_setShare, Cond.instanceMethod yX4_setShare, Cond.selects RX4 yX4_setShare yX4_setShare, Cond.code yX4_setShare cX4_setShare 4 (some .int), Cond.fieldLink RX4 19 "TermBill" "shares" "[I", Cond.methodLink RL 24 yX4_take, Cond.instanceMethod yX4_take, Cond.selects RX4 yX4_take yX4_take, Cond.code yX4_take cX4_take 5 (some .int), Cond.classLink RX4 107 "java/lang/IllegalStateException", Cond.initialized "java/lang/IllegalStateException", Cond.fieldLink RX4 97 "TermBill$Student" "courses" "LTermBill$Courses;", Cond.methodLink RX4 101 yX1_add, Cond.instanceMethod yX1_add, Cond.selects RX1 yX1_add yX1_add, Cond.initialized RX1]
def wsL_does_r4 : List Cond := [Cond.code yX1_add cX1_add 2 (some .int), Cond.fieldLink RX1 15 "TermBill$Courses" "taken" "I", Cond.fieldLink RX1 9 "TermBill$Courses" "creditsByCourse" "[I", Cond.methodLink RL 27 yX4_drop, Cond.instanceMethod yX4_drop, Cond.selects RX4 yX4_drop yX4_drop, Cond.code yX4_drop cX4_drop 4 (some .int), Cond.methodLink RX4 112 yX1_has, Cond.instanceMethod yX1_has, Cond.selects RX1 yX1_has yX1_has, Cond.code yX1_has cX1_has 2 (some .boolean), Cond.methodLink RX4 121 yX1_creditsOf, Cond.instanceMethod yX1_creditsOf, Cond.selects RX1 yX1_creditsOf yX1_creditsOf, Cond.code yX1_creditsOf cX1_creditsOf 2 (some .int), Cond.methodLink RX4 126 yX4_dropCourse, Cond.instanceMethod yX4_dropCourse, Cond.selects RX4 yX4_dropCourse yX4_dropCourse, Cond.code yX4_dropCourse cX4_dropCourse 7 (some .int), Cond.fieldLink RX4 237 "TermBill$Courses" "keptSum" "I", Cond.methodLink RX4 225 yX4_rateAt, Cond.instanceMethod yX4_rateAt, Cond.selects RX4 yX4_rateAt yX4_rateAt, Cond.code yX4_rateAt cX4_rateAt 2 (some .int)]
def wsL_does_r5 : List Cond := [Cond.methodLink RX4 199 yX1_total, Cond.instanceMethod yX1_total, Cond.selects RX1 yX1_total yX1_total, Cond.code yX1_total cX1_total 3 (some .int), Cond.methodLink RX4 228 yX4_priceOf, Cond.instanceMethod yX4_priceOf, Cond.selects RX4 yX4_priceOf yX4_priceOf, Cond.code yX4_priceOf cX4_priceOf 3 (some .int), Cond.methodLink RX4 231 yX1_remove, Cond.instanceMethod yX1_remove, Cond.selects RX1 yX1_remove yX1_remove, Cond.code yX1_remove cX1_remove 2 none, Cond.methodLink RX4 234 yX4_shareNow, Cond.instanceMethod yX4_shareNow, Cond.selects RX4 yX4_shareNow yX4_shareNow, Cond.code yX4_shareNow cX4_shareNow 1 (some .int), Cond.fieldLink RX4 35 "TermBill" "week" "I", Cond.methodLink RL 30 yX4_charge, Cond.instanceMethod yX4_charge, Cond.selects RX4 yX4_charge yX4_charge, Cond.code yX4_charge cX4_charge 5 (some .int), Cond.fieldLink RX4 132 "TermBill$Student" "fees" "I", Cond.fieldLink RX4 135 "TermBill$Student" "housing" "I", Cond.methodLink RL 34 yX4_award]
def wsL_does_r6 : List Cond := [Cond.instanceMethod yX4_award, Cond.selects RX4 yX4_award yX4_award, Cond.code yX4_award cX4_award 6 (some .int), Cond.fieldLink RX4 140 "TermBill$Student" "aid" "LTermBill$Aid;", Cond.methodLink RX4 144 yX0_add, Cond.instanceMethod yX0_add, Cond.selects RX0 yX0_add yX0_add, Cond.initialized RX0, Cond.code yX0_add cX0_add 3 (some .int), Cond.fieldLink RX0 21 "TermBill$Aid" "many" "I", Cond.fieldLink RX0 9 "TermBill$Aid" "ranks" "[I", Cond.fieldLink RX0 15 "TermBill$Aid" "amounts" "[I", Cond.methodLink RL 37 yX4_pay, Cond.instanceMethod yX4_pay, Cond.selects RX4 yX4_pay yX4_pay, Cond.code yX4_pay cX4_pay 4 (some .int), Cond.fieldLink RX4 153 "TermBill$Student" "paidSum" "I", Cond.fieldLink RX4 156 "TermBill$Student" "instalments" "LTermBill$Instalments;", Cond.fieldLink RX4 160 "TermBill$Instalments" "paidSince" "I", Cond.methodLink RX4 165 yX4_balanceOf, Cond.instanceMethod yX4_balanceOf, Cond.selects RX4 yX4_balanceOf yX4_balanceOf, Cond.code yX4_balanceOf cX4_balanceOf 3 (some .int), Cond.methodLink RX4 211 yX4_unsponsored]
def wsL_does_r7 : List Cond := [Cond.instanceMethod yX4_unsponsored, Cond.selects RX4 yX4_unsponsored yX4_unsponsored, Cond.code yX4_unsponsored cX4_unsponsored 2 (some .int), Cond.methodLink RX4 202 yX4_chargesOf, Cond.instanceMethod yX4_chargesOf, Cond.selects RX4 yX4_chargesOf yX4_chargesOf, Cond.code yX4_chargesOf cX4_chargesOf 5 (some .int), Cond.methodLink RX4 205 yX4_sponsorPart, Cond.instanceMethod yX4_sponsorPart, Cond.selects RX4 yX4_sponsorPart yX4_sponsorPart, Cond.code yX4_sponsorPart cX4_sponsorPart 2 (some .int), Cond.methodLink RX4 240 Lib.Math.min.name, Cond.static Lib.Math.min.name, Cond.initialized "java/lang/Math", Cond.code Lib.Math.min.name Lib.Math.min.code 2 (some .int), Cond.methodLink RX4 214 yX0_cover, Cond.instanceMethod yX0_cover, Cond.selects RX0 yX0_cover yX0_cover, Cond.code yX0_cover cX0_cover 8 (some .int), Cond.methodLink RX0 25 Lib.Math.min.name, Cond.fieldLink RX0 18 "TermBill$Aid" "uses" "[I", Cond.methodLink RL 40 yX4_plan, Cond.instanceMethod yX4_plan, Cond.selects RX4 yX4_plan yX4_plan]
def wsL_does_r8 : List Cond := [Cond.code yX4_plan cX4_plan 7 (some .int), Cond.methodLink RX4 173 yX4_weekNumber, Cond.instanceMethod yX4_weekNumber, Cond.selects RX4 yX4_weekNumber yX4_weekNumber, Cond.code yX4_weekNumber cX4_weekNumber 1 (some .int), Cond.fieldLink RX4 38 "TermBill" "term" "I", Cond.methodLink RX4 177 yX2_start, Cond.instanceMethod yX2_start, Cond.selects RX2 yX2_start yX2_start, Cond.initialized RX2, Cond.code yX2_start cX2_start 5 none, Cond.fieldLink RX2 9 "TermBill$Instalments" "madeAt" "I", Cond.fieldLink RX2 15 "TermBill$Instalments" "many" "I", Cond.fieldLink RX2 18 "TermBill$Instalments" "first" "I", Cond.fieldLink RX2 21 "TermBill$Instalments" "each" "I", Cond.fieldLink RX2 24 "TermBill$Instalments" "paidSince" "I", Cond.methodLink RL 43 yX4_leave, Cond.instanceMethod yX4_leave, Cond.selects RX4 yX4_leave yX4_leave, Cond.code yX4_leave cX4_leave 4 (some .int), Cond.methodLink RX4 181 yX0_total, Cond.instanceMethod yX0_total, Cond.selects RX0 yX0_total yX0_total, Cond.code yX0_total cX0_total 3 (some .int)]
def wsL_does_r9 : List Cond := [Cond.methodLink RX4 184 yX4_aidToGiveBack, Cond.instanceMethod yX4_aidToGiveBack, Cond.selects RX4 yX4_aidToGiveBack yX4_aidToGiveBack, Cond.code yX4_aidToGiveBack cX4_aidToGiveBack 2 (some .int), Cond.methodLink RX4 187 yX0_takeOff, Cond.instanceMethod yX0_takeOff, Cond.selects RX0 yX0_takeOff yX0_takeOff, Cond.code yX0_takeOff cX0_takeOff 6 none, Cond.methodLink RL 47 yX4_closeWeek, Cond.instanceMethod yX4_closeWeek, Cond.selects RX4 yX4_closeWeek yX4_closeWeek, Cond.code yX4_closeWeek cX4_closeWeek 1 (some .int), Cond.methodLink RX4 193 yX4_endTerm, Cond.instanceMethod yX4_endTerm, Cond.selects RX4 yX4_endTerm yX4_endTerm, Cond.code yX4_endTerm cX4_endTerm 7 none, Cond.methodLink RX4 245 yX4_carriedTo, Cond.static yX4_carriedTo, Cond.code yX4_carriedTo cX4_carriedTo 2 (some .int), Cond.methodLink RX4 248 yX3_beginTerm, Cond.instanceMethod yX3_beginTerm, Cond.selects RX3 yX3_beginTerm yX3_beginTerm, Cond.initialized RX3, Cond.code yX3_beginTerm cX3_beginTerm 2 none]
def wsL_does_r10 : List Cond := [Cond.fieldLink RX3 10 "TermBill$Student" "courses" "LTermBill$Courses;", Cond.fieldLink RX3 19 "TermBill$Student" "aid" "LTermBill$Aid;", Cond.fieldLink RX3 47 "TermBill$Student" "sponsorKinds" "I", Cond.fieldLink RX3 50 "TermBill$Student" "sponsorLimit" "I", Cond.fieldLink RX3 44 "TermBill$Student" "housing" "I", Cond.methodLink RX3 60 Lib.Math.max.name, Cond.static Lib.Math.max.name, Cond.code Lib.Math.max.name Lib.Math.max.code 2 (some .int), Cond.fieldLink RX3 41 "TermBill$Student" "fees" "I", Cond.fieldLink RX3 53 "TermBill$Student" "paidSum" "I", Cond.methodLink RX3 56 yX1_clear, Cond.instanceMethod yX1_clear, Cond.selects RX1 yX1_clear yX1_clear, Cond.code yX1_clear cX1_clear 1 none, Cond.fieldLink RX1 19 "TermBill$Courses" "keptSum" "I", Cond.methodLink RX1 22 yJ7_fill_53178, Cond.static yJ7_fill_53178, Cond.initialized RJ7, Cond.code yJ7_fill_53178 cJ7_fill_53178 4 none, Cond.methodLink RX3 59 yX0_clear, Cond.instanceMethod yX0_clear, Cond.selects RX0 yX0_clear yX0_clear, Cond.code yX0_clear cX0_clear 1 none, Cond.methodLink RX0 31 yJ7_fill_53178]
def wsL_does_r11 : List Cond := [Cond.methodLink RX4 196 yX4_chargeLateFees, Cond.instanceMethod yX4_chargeLateFees, Cond.selects RX4 yX4_chargeLateFees yX4_chargeLateFees, Cond.code yX4_chargeLateFees cX4_chargeLateFees 3 none, Cond.methodLink RX4 251 yX2_isLateAt, Cond.instanceMethod yX2_isLateAt, Cond.selects RX2 yX2_isLateAt yX2_isLateAt, Cond.code yX2_isLateAt cX2_isLateAt 4 (some .boolean)]
def wsL_does : List Cond := .codeWith yL_does cL_does 6 (some .int) [(0, 176, 177, 51), (0, 176, 182, 54), (0, 176, 187, 56)] :: ((wsL_does_r1 ++ (wsL_does_r2 ++ (wsL_does_r3 ++ (wsL_does_r4 ++ (wsL_does_r5 ++ (wsL_does_r6 ++ (wsL_does_r7 ++ (wsL_does_r8 ++ (wsL_does_r9 ++ (wsL_does_r10 ++ wsL_does_r11)))))))))) ++ wsX40 ++ wsX30 ++ wsX10 ++ wsX00 ++ wsX20 ++ (vx_atS RX4 61 "java/lang/IllegalArgumentException" ["java/lang/RuntimeException", "java/lang/Exception"]).filter goodWord ++ (vx_atS RX4 120 "java/lang/IndexOutOfBoundsException" ["java/lang/RuntimeException", "java/lang/Exception"]).filter goodWord ++ (vx_atS RX4 111 "java/lang/IllegalStateException" ["java/lang/RuntimeException", "java/lang/Exception"]).filter goodWord)
def wsL_used_r1 : List Cond := [Cond.classLink RL 51 "java/lang/IndexOutOfBoundsException", Cond.constant RL 53 (-1000000001), Cond.methodLink RL 73 yX4_used, Cond.instanceMethod yX4_used, Cond.selects RX4 yX4_used yX4_used, Cond.initialized RX4, Cond.code yX4_used cX4_used 4 (some .int), Cond.classLink RX4 116 "java/lang/IndexOutOfBoundsException", Cond.initialized "java/lang/IndexOutOfBoundsException", Cond.fieldLink RX4 140 "TermBill$Student" "aid" "LTermBill$Aid;", Cond.fieldLink RX4 84 "TermBill$Student" "need" "I", Cond.methodLink RX4 71 yX4_studentAt, Cond.instanceMethod yX4_studentAt, Cond.selects RX4 yX4_studentAt yX4_studentAt, Cond.code yX4_studentAt cX4_studentAt 3 (some (.object "TermBill$Student")), Cond.fieldLink RX4 11 "TermBill" "students" "[LTermBill$Student;", Cond.methodLink RX4 208 yX0_has, Cond.instanceMethod yX0_has, Cond.selects RX0 yX0_has yX0_has, Cond.initialized RX0, Cond.code yX0_has cX0_has 2 (some .boolean), Cond.fieldLink RX0 21 "TermBill$Aid" "many" "I", Cond.methodLink RX4 211 yX4_unsponsored, Cond.instanceMethod yX4_unsponsored]
def wsL_used_r2 : List Cond := [Cond.selects RX4 yX4_unsponsored yX4_unsponsored, Cond.code yX4_unsponsored cX4_unsponsored 2 (some .int), Cond.methodLink RX4 202 yX4_chargesOf, Cond.instanceMethod yX4_chargesOf, Cond.selects RX4 yX4_chargesOf yX4_chargesOf, Cond.code yX4_chargesOf cX4_chargesOf 5 (some .int), Cond.fieldLink RX4 77 "TermBill$Student" "level" "I", Cond.fieldLink RX4 80 "TermBill$Student" "isResident" "Z", Cond.fieldLink RX4 97 "TermBill$Student" "courses" "LTermBill$Courses;", Cond.fieldLink RX4 237 "TermBill$Courses" "keptSum" "I", Cond.fieldLink RX4 132 "TermBill$Student" "fees" "I", Cond.fieldLink RX4 135 "TermBill$Student" "housing" "I", Cond.methodLink RX4 48 yX4_placeOfRate, Cond.static yX4_placeOfRate, Cond.code yX4_placeOfRate cX4_placeOfRate 2 (some .int), Cond.methodLink RX4 225 yX4_rateAt, Cond.instanceMethod yX4_rateAt, Cond.selects RX4 yX4_rateAt yX4_rateAt, Cond.code yX4_rateAt cX4_rateAt 2 (some .int), Cond.fieldLink RX4 15 "TermBill" "rates" "[I", Cond.methodLink RX4 199 yX1_total, Cond.instanceMethod yX1_total, Cond.selects RX1 yX1_total yX1_total, Cond.initialized RX1]
def wsL_used_r3 : List Cond := [Cond.code yX1_total cX1_total 3 (some .int), Cond.fieldLink RX1 9 "TermBill$Courses" "creditsByCourse" "[I", Cond.methodLink RX4 228 yX4_priceOf, Cond.instanceMethod yX4_priceOf, Cond.selects RX4 yX4_priceOf yX4_priceOf, Cond.code yX4_priceOf cX4_priceOf 3 (some .int), Cond.fieldLink RX4 22 "TermBill" "bandFrom" "I", Cond.fieldLink RX4 26 "TermBill" "bandTo" "I", Cond.methodLink RX4 205 yX4_sponsorPart, Cond.instanceMethod yX4_sponsorPart, Cond.selects RX4 yX4_sponsorPart yX4_sponsorPart, Cond.code yX4_sponsorPart cX4_sponsorPart 2 (some .int), Cond.fieldLink RX4 89 "TermBill$Student" "sponsorKinds" "I", Cond.fieldLink RX4 92 "TermBill$Student" "sponsorLimit" "I", Cond.methodLink RX4 240 Lib.Math.min.name, Cond.static Lib.Math.min.name, Cond.initialized "java/lang/Math", Cond.code Lib.Math.min.name Lib.Math.min.code 2 (some .int), Cond.methodLink RX4 214 yX0_cover, Cond.instanceMethod yX0_cover, Cond.selects RX0 yX0_cover yX0_cover, Cond.code yX0_cover cX0_cover 8 (some .int), Cond.fieldLink RX0 9 "TermBill$Aid" "ranks" "[I", Cond.methodLink RX0 25 Lib.Math.min.name]
def wsL_used_r4 : List Cond := [Cond.fieldLink RX0 18 "TermBill$Aid" "uses" "[I", Cond.fieldLink RX0 15 "TermBill$Aid" "amounts" "[I", Cond.methodLink RX4 217 yX0_useOf, Cond.instanceMethod yX0_useOf, Cond.selects RX0 yX0_useOf yX0_useOf, Cond.code yX0_useOf cX0_useOf 2 (some .int)]
def wsL_used : List Cond := .codeWith yL_used cL_used 4 (some .int) [(0, 6, 7, 51)] :: ((wsL_used_r1 ++ (wsL_used_r2 ++ (wsL_used_r3 ++ wsL_used_r4))) ++ wsX30 ++ wsX40 ++ wsX00 ++ wsX10 ++ (vx_atS RX4 120 "java/lang/IndexOutOfBoundsException" ["java/lang/RuntimeException", "java/lang/Exception"]).filter goodWord)
def wsL_act_r1 : List Cond := [Cond.constant RL 79 (1100000), Cond.constant RL 80 (1000000), Cond.constant RL 81 (50000), Cond.constant RL 82 (110000), Cond.constant RL 83 (100001), Cond.constant RL 87 (1000001), Cond.methodLink RL 76 yL_low, Cond.static yL_low, Cond.initialized RL, Cond.code yL_low cL_low 2 (some .int), Cond.constant RL 7 (2147483647), Cond.methodLink RL 84 yL_does, Cond.static yL_does, Cond.codeWith yL_does cL_does 6 (some .int) [(0, 176, 177, 51), (0, 176, 182, 54), (0, 176, 187, 56)], Cond.classLink RL 51 "java/lang/IndexOutOfBoundsException", Cond.classLink RL 54 "java/lang/IllegalArgumentException", Cond.classLink RL 56 "java/lang/IllegalStateException", Cond.constant RL 53 (-1000000001), Cond.methodLink RL 8 yX4_setRate, Cond.instanceMethod yX4_setRate, Cond.selects RX4 yX4_setRate yX4_setRate, Cond.initialized RX4, Cond.code yX4_setRate cX4_setRate 6 (some .int), Cond.classLink RX4 57 "java/lang/IllegalArgumentException"]
def wsL_act_r2 : List Cond := [Cond.initialized "java/lang/IllegalArgumentException", Cond.fieldLink RX4 15 "TermBill" "rates" "[I", Cond.constant RX4 52 (100000), Cond.methodLink RX4 48 yX4_placeOfRate, Cond.static yX4_placeOfRate, Cond.code yX4_placeOfRate cX4_placeOfRate 2 (some .int), Cond.methodLink RX4 53 yX4_isWithin, Cond.static yX4_isWithin, Cond.code yX4_isWithin cX4_isWithin 3 (some .boolean), Cond.methodLink RL 14 yL_sets, Cond.static yL_sets, Cond.code yL_sets cL_sets 5 (some .int), Cond.methodLink RL 58 yX4_setBand, Cond.instanceMethod yX4_setBand, Cond.selects RX4 yX4_setBand yX4_setBand, Cond.code yX4_setBand cX4_setBand 3 none, Cond.fieldLink RX4 22 "TermBill" "bandFrom" "I", Cond.fieldLink RX4 26 "TermBill" "bandTo" "I", Cond.methodLink RL 62 yX4_setFees, Cond.instanceMethod yX4_setFees, Cond.selects RX4 yX4_setFees yX4_setFees, Cond.code yX4_setFees cX4_setFees 3 none, Cond.constant RX4 68 (1000000), Cond.fieldLink RX4 29 "TermBill" "lateFee" "I"]
def wsL_act_r3 : List Cond := [Cond.fieldLink RX4 32 "TermBill" "holdLimit" "I", Cond.methodLink RL 65 yX4_setStudent, Cond.instanceMethod yX4_setStudent, Cond.selects RX4 yX4_setStudent yX4_setStudent, Cond.code yX4_setStudent cX4_setStudent 6 none, Cond.fieldLink RX4 77 "TermBill$Student" "level" "I", Cond.fieldLink RX4 80 "TermBill$Student" "isResident" "Z", Cond.fieldLink RX4 84 "TermBill$Student" "need" "I", Cond.methodLink RX4 71 yX4_studentAt, Cond.instanceMethod yX4_studentAt, Cond.selects RX4 yX4_studentAt yX4_studentAt, Cond.code yX4_studentAt cX4_studentAt 3 (some (.object "TermBill$Student")), Cond.classLink RX4 116 "java/lang/IndexOutOfBoundsException", Cond.initialized "java/lang/IndexOutOfBoundsException", Cond.fieldLink RX4 11 "TermBill" "students" "[LTermBill$Student;", Cond.methodLink RL 69 yX4_setSponsor, Cond.instanceMethod yX4_setSponsor, Cond.selects RX4 yX4_setSponsor yX4_setSponsor, Cond.code yX4_setSponsor cX4_setSponsor 5 none, Cond.fieldLink RX4 89 "TermBill$Student" "sponsorKinds" "I", Cond.fieldLink RX4 92 "TermBill$Student" "sponsorLimit" "I", Cond.methodLink RL 20 yX4_setShare, Cond.instanceMethod yX4_setShare, Cond.selects RX4 yX4_setShare yX4_setShare]
def wsL_act_r4 : List Cond := [Cond.code yX4_setShare cX4_setShare 4 (some .int), Cond.fieldLink RX4 19 "TermBill" "shares" "[I", Cond.methodLink RL 24 yX4_take, Cond.instanceMethod yX4_take, Cond.selects RX4 yX4_take yX4_take, Cond.code yX4_take cX4_take 5 (some .int), Cond.classLink RX4 107 "java/lang/IllegalStateException", Cond.initialized "java/lang/IllegalStateException", Cond.fieldLink RX4 97 "TermBill$Student" "courses" "LTermBill$Courses;", Cond.methodLink RX4 101 yX1_add, Cond.instanceMethod yX1_add, Cond.selects RX1 yX1_add yX1_add, Cond.initialized RX1, Cond.code yX1_add cX1_add 2 (some .int), Cond.fieldLink RX1 15 "TermBill$Courses" "taken" "I", Cond.fieldLink RX1 9 "TermBill$Courses" "creditsByCourse" "[I", Cond.methodLink RL 27 yX4_drop, Cond.instanceMethod yX4_drop, Cond.selects RX4 yX4_drop yX4_drop, Cond.code yX4_drop cX4_drop 4 (some .int), Cond.methodLink RX4 112 yX1_has, Cond.instanceMethod yX1_has, Cond.selects RX1 yX1_has yX1_has, Cond.code yX1_has cX1_has 2 (some .boolean)]
def wsL_act_r5 : List Cond := [Cond.methodLink RX4 121 yX1_creditsOf, Cond.instanceMethod yX1_creditsOf, Cond.selects RX1 yX1_creditsOf yX1_creditsOf, Cond.code yX1_creditsOf cX1_creditsOf 2 (some .int), Cond.methodLink RX4 126 yX4_dropCourse, Cond.instanceMethod yX4_dropCourse, Cond.selects RX4 yX4_dropCourse yX4_dropCourse, Cond.code yX4_dropCourse cX4_dropCourse 7 (some .int), Cond.fieldLink RX4 237 "TermBill$Courses" "keptSum" "I", Cond.methodLink RX4 225 yX4_rateAt, Cond.instanceMethod yX4_rateAt, Cond.selects RX4 yX4_rateAt yX4_rateAt, Cond.code yX4_rateAt cX4_rateAt 2 (some .int), Cond.methodLink RX4 199 yX1_total, Cond.instanceMethod yX1_total, Cond.selects RX1 yX1_total yX1_total, Cond.code yX1_total cX1_total 3 (some .int), Cond.methodLink RX4 228 yX4_priceOf, Cond.instanceMethod yX4_priceOf, Cond.selects RX4 yX4_priceOf yX4_priceOf, Cond.code yX4_priceOf cX4_priceOf 3 (some .int), Cond.methodLink RX4 231 yX1_remove, Cond.instanceMethod yX1_remove, Cond.selects RX1 yX1_remove yX1_remove]
def wsL_act_r6 : List Cond := [Cond.code yX1_remove cX1_remove 2 none, Cond.methodLink RX4 234 yX4_shareNow, Cond.instanceMethod yX4_shareNow, Cond.selects RX4 yX4_shareNow yX4_shareNow, Cond.code yX4_shareNow cX4_shareNow 1 (some .int), Cond.fieldLink RX4 35 "TermBill" "week" "I", Cond.methodLink RL 30 yX4_charge, Cond.instanceMethod yX4_charge, Cond.selects RX4 yX4_charge yX4_charge, Cond.code yX4_charge cX4_charge 5 (some .int), Cond.fieldLink RX4 132 "TermBill$Student" "fees" "I", Cond.fieldLink RX4 135 "TermBill$Student" "housing" "I", Cond.methodLink RL 34 yX4_award, Cond.instanceMethod yX4_award, Cond.selects RX4 yX4_award yX4_award, Cond.code yX4_award cX4_award 6 (some .int), Cond.fieldLink RX4 140 "TermBill$Student" "aid" "LTermBill$Aid;", Cond.methodLink RX4 144 yX0_add, Cond.instanceMethod yX0_add, Cond.selects RX0 yX0_add yX0_add, Cond.initialized RX0, Cond.code yX0_add cX0_add 3 (some .int), Cond.fieldLink RX0 21 "TermBill$Aid" "many" "I", Cond.fieldLink RX0 9 "TermBill$Aid" "ranks" "[I"]
def wsL_act_r7 : List Cond := [Cond.fieldLink RX0 15 "TermBill$Aid" "amounts" "[I", Cond.methodLink RL 37 yX4_pay, Cond.instanceMethod yX4_pay, Cond.selects RX4 yX4_pay yX4_pay, Cond.code yX4_pay cX4_pay 4 (some .int), Cond.fieldLink RX4 153 "TermBill$Student" "paidSum" "I", Cond.fieldLink RX4 156 "TermBill$Student" "instalments" "LTermBill$Instalments;", Cond.fieldLink RX4 160 "TermBill$Instalments" "paidSince" "I", Cond.methodLink RX4 165 yX4_balanceOf, Cond.instanceMethod yX4_balanceOf, Cond.selects RX4 yX4_balanceOf yX4_balanceOf, Cond.code yX4_balanceOf cX4_balanceOf 3 (some .int), Cond.methodLink RX4 211 yX4_unsponsored, Cond.instanceMethod yX4_unsponsored, Cond.selects RX4 yX4_unsponsored yX4_unsponsored, Cond.code yX4_unsponsored cX4_unsponsored 2 (some .int), Cond.methodLink RX4 202 yX4_chargesOf, Cond.instanceMethod yX4_chargesOf, Cond.selects RX4 yX4_chargesOf yX4_chargesOf, Cond.code yX4_chargesOf cX4_chargesOf 5 (some .int), Cond.methodLink RX4 205 yX4_sponsorPart, Cond.instanceMethod yX4_sponsorPart, Cond.selects RX4 yX4_sponsorPart yX4_sponsorPart, Cond.code yX4_sponsorPart cX4_sponsorPart 2 (some .int)]
def wsL_act_r8 : List Cond := [Cond.methodLink RX4 240 Lib.Math.min.name, Cond.static Lib.Math.min.name, Cond.initialized "java/lang/Math", Cond.code Lib.Math.min.name Lib.Math.min.code 2 (some .int), Cond.methodLink RX4 214 yX0_cover, Cond.instanceMethod yX0_cover, Cond.selects RX0 yX0_cover yX0_cover, Cond.code yX0_cover cX0_cover 8 (some .int), Cond.methodLink RX0 25 Lib.Math.min.name, Cond.fieldLink RX0 18 "TermBill$Aid" "uses" "[I", Cond.methodLink RL 40 yX4_plan, Cond.instanceMethod yX4_plan, Cond.selects RX4 yX4_plan yX4_plan, Cond.code yX4_plan cX4_plan 7 (some .int), Cond.methodLink RX4 173 yX4_weekNumber, Cond.instanceMethod yX4_weekNumber, Cond.selects RX4 yX4_weekNumber yX4_weekNumber, Cond.code yX4_weekNumber cX4_weekNumber 1 (some .int), Cond.fieldLink RX4 38 "TermBill" "term" "I", Cond.methodLink RX4 177 yX2_start, Cond.instanceMethod yX2_start, Cond.selects RX2 yX2_start yX2_start, Cond.initialized RX2, Cond.code yX2_start cX2_start 5 none]
def wsL_act_r9 : List Cond := [Cond.fieldLink RX2 9 "TermBill$Instalments" "madeAt" "I", Cond.fieldLink RX2 15 "TermBill$Instalments" "many" "I", Cond.fieldLink RX2 18 "TermBill$Instalments" "first" "I", Cond.fieldLink RX2 21 "TermBill$Instalments" "each" "I", Cond.fieldLink RX2 24 "TermBill$Instalments" "paidSince" "I", Cond.methodLink RL 43 yX4_leave, Cond.instanceMethod yX4_leave, Cond.selects RX4 yX4_leave yX4_leave, Cond.code yX4_leave cX4_leave 4 (some .int), Cond.methodLink RX4 181 yX0_total, Cond.instanceMethod yX0_total, Cond.selects RX0 yX0_total yX0_total, Cond.code yX0_total cX0_total 3 (some .int), Cond.methodLink RX4 184 yX4_aidToGiveBack, Cond.instanceMethod yX4_aidToGiveBack, Cond.selects RX4 yX4_aidToGiveBack yX4_aidToGiveBack, Cond.code yX4_aidToGiveBack cX4_aidToGiveBack 2 (some .int), Cond.methodLink RX4 187 yX0_takeOff, Cond.instanceMethod yX0_takeOff, Cond.selects RX0 yX0_takeOff yX0_takeOff, Cond.code yX0_takeOff cX0_takeOff 6 none, Cond.methodLink RL 47 yX4_closeWeek, Cond.instanceMethod yX4_closeWeek, Cond.selects RX4 yX4_closeWeek yX4_closeWeek]
def wsL_act_r10 : List Cond := [Cond.code yX4_closeWeek cX4_closeWeek 1 (some .int), Cond.methodLink RX4 193 yX4_endTerm, Cond.instanceMethod yX4_endTerm, Cond.selects RX4 yX4_endTerm yX4_endTerm, Cond.code yX4_endTerm cX4_endTerm 7 none, Cond.methodLink RX4 245 yX4_carriedTo, Cond.static yX4_carriedTo, Cond.code yX4_carriedTo cX4_carriedTo 2 (some .int), Cond.methodLink RX4 248 yX3_beginTerm, Cond.instanceMethod yX3_beginTerm, Cond.selects RX3 yX3_beginTerm yX3_beginTerm, Cond.initialized RX3, Cond.code yX3_beginTerm cX3_beginTerm 2 none, Cond.fieldLink RX3 10 "TermBill$Student" "courses" "LTermBill$Courses;", Cond.fieldLink RX3 19 "TermBill$Student" "aid" "LTermBill$Aid;", Cond.fieldLink RX3 47 "TermBill$Student" "sponsorKinds" "I", Cond.fieldLink RX3 50 "TermBill$Student" "sponsorLimit" "I", Cond.fieldLink RX3 44 "TermBill$Student" "housing" "I", Cond.methodLink RX3 60 Lib.Math.max.name, Cond.static Lib.Math.max.name, Cond.code Lib.Math.max.name Lib.Math.max.code 2 (some .int), Cond.fieldLink RX3 41 "TermBill$Student" "fees" "I", Cond.fieldLink RX3 53 "TermBill$Student" "paidSum" "I", Cond.methodLink RX3 56 yX1_clear]
def wsL_act_r11 : List Cond := [Cond.instanceMethod yX1_clear, Cond.selects RX1 yX1_clear yX1_clear, Cond.code yX1_clear cX1_clear 1 none, Cond.fieldLink RX1 19 "TermBill$Courses" "keptSum" "I", Cond.methodLink RX1 22 yJ7_fill_53178, Cond.static yJ7_fill_53178, Cond.initialized RJ7, Cond.code yJ7_fill_53178 cJ7_fill_53178 4 none, Cond.methodLink RX3 59 yX0_clear, Cond.instanceMethod yX0_clear, Cond.selects RX0 yX0_clear yX0_clear, Cond.code yX0_clear cX0_clear 1 none, Cond.methodLink RX0 31 yJ7_fill_53178, Cond.methodLink RX4 196 yX4_chargeLateFees, Cond.instanceMethod yX4_chargeLateFees, Cond.selects RX4 yX4_chargeLateFees yX4_chargeLateFees, Cond.code yX4_chargeLateFees cX4_chargeLateFees 3 none, Cond.methodLink RX4 251 yX2_isLateAt, Cond.instanceMethod yX2_isLateAt, Cond.selects RX2 yX2_isLateAt yX2_isLateAt, Cond.code yX2_isLateAt cX2_isLateAt 4 (some .boolean)]
def wsL_act : List Cond := .code yL_act cL_act 8 (some .int) :: ((wsL_act_r1 ++ (wsL_act_r2 ++ (wsL_act_r3 ++ (wsL_act_r4 ++ (wsL_act_r5 ++ (wsL_act_r6 ++ (wsL_act_r7 ++ (wsL_act_r8 ++ (wsL_act_r9 ++ (wsL_act_r10 ++ wsL_act_r11)))))))))) ++ wsX40 ++ wsX30 ++ wsX10 ++ wsX00 ++ wsX20 ++ (vx_atS RX4 61 "java/lang/IllegalArgumentException" ["java/lang/RuntimeException", "java/lang/Exception"]).filter goodWord ++ (vx_atS RX4 120 "java/lang/IndexOutOfBoundsException" ["java/lang/RuntimeException", "java/lang/Exception"]).filter goodWord ++ (vx_atS RX4 111 "java/lang/IllegalStateException" ["java/lang/RuntimeException", "java/lang/Exception"]).filter goodWord)
def wsL_areAlike_r1 : List Cond := [Cond.methodLink RL 88 yX4_week, Cond.instanceMethod yX4_week, Cond.selects RX4 yX4_week yX4_week, Cond.initialized RX4, Cond.code yX4_week cX4_week 1 (some .int), Cond.fieldLink RX4 35 "TermBill" "week" "I", Cond.methodLink RL 91 yX4_term, Cond.instanceMethod yX4_term, Cond.selects RX4 yX4_term yX4_term, Cond.code yX4_term cX4_term 1 (some .int), Cond.fieldLink RX4 38 "TermBill" "term" "I", Cond.methodLink RL 94 yX4_credits, Cond.instanceMethod yX4_credits, Cond.selects RX4 yX4_credits yX4_credits, Cond.code yX4_credits cX4_credits 2 (some .int), Cond.fieldLink RX4 97 "TermBill$Student" "courses" "LTermBill$Courses;", Cond.methodLink RX4 71 yX4_studentAt, Cond.instanceMethod yX4_studentAt, Cond.selects RX4 yX4_studentAt yX4_studentAt, Cond.code yX4_studentAt cX4_studentAt 3 (some (.object "TermBill$Student")), Cond.classLink RX4 116 "java/lang/IndexOutOfBoundsException", Cond.initialized "java/lang/IndexOutOfBoundsException", Cond.fieldLink RX4 11 "TermBill" "students" "[LTermBill$Student;", Cond.methodLink RX4 199 yX1_total]
def wsL_areAlike_r2 : List Cond := [Cond.instanceMethod yX1_total, Cond.selects RX1 yX1_total yX1_total, Cond.initialized RX1, Cond.code yX1_total cX1_total 3 (some .int), Cond.fieldLink RX1 9 "TermBill$Courses" "creditsByCourse" "[I", Cond.methodLink RL 97 yX4_charged, Cond.instanceMethod yX4_charged, Cond.selects RX4 yX4_charged yX4_charged, Cond.code yX4_charged cX4_charged 4 (some .int), Cond.classLink RX4 57 "java/lang/IllegalArgumentException", Cond.initialized "java/lang/IllegalArgumentException", Cond.methodLink RX4 53 yX4_isWithin, Cond.static yX4_isWithin, Cond.code yX4_isWithin cX4_isWithin 3 (some .boolean), Cond.methodLink RX4 202 yX4_chargesOf, Cond.instanceMethod yX4_chargesOf, Cond.selects RX4 yX4_chargesOf yX4_chargesOf, Cond.code yX4_chargesOf cX4_chargesOf 5 (some .int), Cond.fieldLink RX4 77 "TermBill$Student" "level" "I", Cond.fieldLink RX4 80 "TermBill$Student" "isResident" "Z", Cond.fieldLink RX4 237 "TermBill$Courses" "keptSum" "I", Cond.fieldLink RX4 132 "TermBill$Student" "fees" "I", Cond.fieldLink RX4 135 "TermBill$Student" "housing" "I", Cond.methodLink RX4 48 yX4_placeOfRate]
def wsL_areAlike_r3 : List Cond := [Cond.static yX4_placeOfRate, Cond.code yX4_placeOfRate cX4_placeOfRate 2 (some .int), Cond.methodLink RX4 225 yX4_rateAt, Cond.instanceMethod yX4_rateAt, Cond.selects RX4 yX4_rateAt yX4_rateAt, Cond.code yX4_rateAt cX4_rateAt 2 (some .int), Cond.fieldLink RX4 15 "TermBill" "rates" "[I", Cond.methodLink RX4 228 yX4_priceOf, Cond.instanceMethod yX4_priceOf, Cond.selects RX4 yX4_priceOf yX4_priceOf, Cond.code yX4_priceOf cX4_priceOf 3 (some .int), Cond.fieldLink RX4 22 "TermBill" "bandFrom" "I", Cond.fieldLink RX4 26 "TermBill" "bandTo" "I", Cond.methodLink RL 100 yX4_sponsored, Cond.instanceMethod yX4_sponsored, Cond.selects RX4 yX4_sponsored yX4_sponsored, Cond.code yX4_sponsored cX4_sponsored 2 (some .int), Cond.methodLink RX4 205 yX4_sponsorPart, Cond.instanceMethod yX4_sponsorPart, Cond.selects RX4 yX4_sponsorPart yX4_sponsorPart, Cond.code yX4_sponsorPart cX4_sponsorPart 2 (some .int), Cond.fieldLink RX4 89 "TermBill$Student" "sponsorKinds" "I", Cond.fieldLink RX4 92 "TermBill$Student" "sponsorLimit" "I", Cond.methodLink RX4 240 Lib.Math.min.name]
def wsL_areAlike_r4 : List Cond := [Cond.static Lib.Math.min.name, Cond.initialized "java/lang/Math", Cond.code Lib.Math.min.name Lib.Math.min.code 2 (some .int), Cond.methodLink RL 103 yX4_paid, Cond.instanceMethod yX4_paid, Cond.selects RX4 yX4_paid yX4_paid, Cond.code yX4_paid cX4_paid 2 (some .int), Cond.fieldLink RX4 153 "TermBill$Student" "paidSum" "I", Cond.methodLink RL 106 yX4_owed, Cond.instanceMethod yX4_owed, Cond.selects RX4 yX4_owed yX4_owed, Cond.code yX4_owed cX4_owed 2 (some .int), Cond.methodLink RX4 165 yX4_balanceOf, Cond.instanceMethod yX4_balanceOf, Cond.selects RX4 yX4_balanceOf yX4_balanceOf, Cond.code yX4_balanceOf cX4_balanceOf 3 (some .int), Cond.fieldLink RX4 140 "TermBill$Student" "aid" "LTermBill$Aid;", Cond.fieldLink RX4 84 "TermBill$Student" "need" "I", Cond.methodLink RX4 211 yX4_unsponsored, Cond.instanceMethod yX4_unsponsored, Cond.selects RX4 yX4_unsponsored yX4_unsponsored, Cond.code yX4_unsponsored cX4_unsponsored 2 (some .int), Cond.methodLink RX4 214 yX0_cover, Cond.instanceMethod yX0_cover]
def wsL_areAlike_r5 : List Cond := [Cond.selects RX0 yX0_cover yX0_cover, Cond.initialized RX0, Cond.code yX0_cover cX0_cover 8 (some .int), Cond.fieldLink RX0 9 "TermBill$Aid" "ranks" "[I", Cond.methodLink RX0 25 Lib.Math.min.name, Cond.fieldLink RX0 18 "TermBill$Aid" "uses" "[I", Cond.fieldLink RX0 15 "TermBill$Aid" "amounts" "[I", Cond.methodLink RL 109 yX4_hasHold, Cond.instanceMethod yX4_hasHold, Cond.selects RX4 yX4_hasHold yX4_hasHold, Cond.code yX4_hasHold cX4_hasHold 2 (some .boolean), Cond.fieldLink RX4 32 "TermBill" "holdLimit" "I", Cond.methodLink RL 113 yL_used, Cond.static yL_used, Cond.initialized RL, Cond.codeWith yL_used cL_used 4 (some .int) [(0, 6, 7, 51)], Cond.classLink RL 51 "java/lang/IndexOutOfBoundsException", Cond.constant RL 53 (-1000000001), Cond.methodLink RL 73 yX4_used, Cond.instanceMethod yX4_used, Cond.selects RX4 yX4_used yX4_used, Cond.code yX4_used cX4_used 4 (some .int), Cond.methodLink RX4 208 yX0_has, Cond.instanceMethod yX0_has]
def wsL_areAlike_r6 : List Cond := [Cond.selects RX0 yX0_has yX0_has, Cond.code yX0_has cX0_has 2 (some .boolean), Cond.fieldLink RX0 21 "TermBill$Aid" "many" "I", Cond.methodLink RX4 217 yX0_useOf, Cond.instanceMethod yX0_useOf, Cond.selects RX0 yX0_useOf yX0_useOf, Cond.code yX0_useOf cX0_useOf 2 (some .int)]
def wsL_areAlike : List Cond := .code yL_areAlike cL_areAlike 4 (some .boolean) :: ((wsL_areAlike_r1 ++ (wsL_areAlike_r2 ++ (wsL_areAlike_r3 ++ (wsL_areAlike_r4 ++ (wsL_areAlike_r5 ++ wsL_areAlike_r6))))) ++ wsX40 ++ wsX30 ++ wsX10 ++ wsX00 ++ (vx_atS RX4 120 "java/lang/IndexOutOfBoundsException" ["java/lang/RuntimeException", "java/lang/Exception"]).filter goodWord ++ (vx_atS RX4 61 "java/lang/IllegalArgumentException" ["java/lang/RuntimeException", "java/lang/Exception"]).filter goodWord)
def wsL_isOnce_r1 : List Cond := [Cond.methodLink RL 97 yX4_charged, Cond.instanceMethod yX4_charged, Cond.selects RX4 yX4_charged yX4_charged, Cond.initialized RX4, Cond.code yX4_charged cX4_charged 4 (some .int), Cond.classLink RX4 57 "java/lang/IllegalArgumentException", Cond.initialized "java/lang/IllegalArgumentException", Cond.methodLink RX4 71 yX4_studentAt, Cond.instanceMethod yX4_studentAt, Cond.selects RX4 yX4_studentAt yX4_studentAt, Cond.code yX4_studentAt cX4_studentAt 3 (some (.object "TermBill$Student")), Cond.classLink RX4 116 "java/lang/IndexOutOfBoundsException", Cond.initialized "java/lang/IndexOutOfBoundsException", Cond.fieldLink RX4 11 "TermBill" "students" "[LTermBill$Student;", Cond.methodLink RX4 53 yX4_isWithin, Cond.static yX4_isWithin, Cond.code yX4_isWithin cX4_isWithin 3 (some .boolean), Cond.methodLink RX4 202 yX4_chargesOf, Cond.instanceMethod yX4_chargesOf, Cond.selects RX4 yX4_chargesOf yX4_chargesOf, Cond.code yX4_chargesOf cX4_chargesOf 5 (some .int), Cond.fieldLink RX4 77 "TermBill$Student" "level" "I", Cond.fieldLink RX4 80 "TermBill$Student" "isResident" "Z", Cond.fieldLink RX4 97 "TermBill$Student" "courses" "LTermBill$Courses;"]
def wsL_isOnce_r2 : List Cond := [Cond.fieldLink RX4 237 "TermBill$Courses" "keptSum" "I", Cond.fieldLink RX4 132 "TermBill$Student" "fees" "I", Cond.fieldLink RX4 135 "TermBill$Student" "housing" "I", Cond.methodLink RX4 48 yX4_placeOfRate, Cond.static yX4_placeOfRate, Cond.code yX4_placeOfRate cX4_placeOfRate 2 (some .int), Cond.methodLink RX4 225 yX4_rateAt, Cond.instanceMethod yX4_rateAt, Cond.selects RX4 yX4_rateAt yX4_rateAt, Cond.code yX4_rateAt cX4_rateAt 2 (some .int), Cond.fieldLink RX4 15 "TermBill" "rates" "[I", Cond.methodLink RX4 199 yX1_total, Cond.instanceMethod yX1_total, Cond.selects RX1 yX1_total yX1_total, Cond.initialized RX1, Cond.code yX1_total cX1_total 3 (some .int), Cond.fieldLink RX1 9 "TermBill$Courses" "creditsByCourse" "[I", Cond.methodLink RX4 228 yX4_priceOf, Cond.instanceMethod yX4_priceOf, Cond.selects RX4 yX4_priceOf yX4_priceOf, Cond.code yX4_priceOf cX4_priceOf 3 (some .int), Cond.fieldLink RX4 22 "TermBill" "bandFrom" "I", Cond.fieldLink RX4 26 "TermBill" "bandTo" "I", Cond.methodLink RL 100 yX4_sponsored]
def wsL_isOnce_r3 : List Cond := [Cond.instanceMethod yX4_sponsored, Cond.selects RX4 yX4_sponsored yX4_sponsored, Cond.code yX4_sponsored cX4_sponsored 2 (some .int), Cond.methodLink RX4 205 yX4_sponsorPart, Cond.instanceMethod yX4_sponsorPart, Cond.selects RX4 yX4_sponsorPart yX4_sponsorPart, Cond.code yX4_sponsorPart cX4_sponsorPart 2 (some .int), Cond.fieldLink RX4 89 "TermBill$Student" "sponsorKinds" "I", Cond.fieldLink RX4 92 "TermBill$Student" "sponsorLimit" "I", Cond.methodLink RX4 240 Lib.Math.min.name, Cond.static Lib.Math.min.name, Cond.initialized "java/lang/Math", Cond.code Lib.Math.min.name Lib.Math.min.code 2 (some .int), Cond.methodLink RL 94 yX4_credits, Cond.instanceMethod yX4_credits, Cond.selects RX4 yX4_credits yX4_credits, Cond.code yX4_credits cX4_credits 2 (some .int), Cond.methodLink RL 113 yL_used, Cond.static yL_used, Cond.initialized RL, Cond.codeWith yL_used cL_used 4 (some .int) [(0, 6, 7, 51)], Cond.classLink RL 51 "java/lang/IndexOutOfBoundsException", Cond.constant RL 53 (-1000000001), Cond.methodLink RL 73 yX4_used]
def wsL_isOnce_r4 : List Cond := [Cond.instanceMethod yX4_used, Cond.selects RX4 yX4_used yX4_used, Cond.code yX4_used cX4_used 4 (some .int), Cond.fieldLink RX4 140 "TermBill$Student" "aid" "LTermBill$Aid;", Cond.fieldLink RX4 84 "TermBill$Student" "need" "I", Cond.methodLink RX4 208 yX0_has, Cond.instanceMethod yX0_has, Cond.selects RX0 yX0_has yX0_has, Cond.initialized RX0, Cond.code yX0_has cX0_has 2 (some .boolean), Cond.fieldLink RX0 21 "TermBill$Aid" "many" "I", Cond.methodLink RX4 211 yX4_unsponsored, Cond.instanceMethod yX4_unsponsored, Cond.selects RX4 yX4_unsponsored yX4_unsponsored, Cond.code yX4_unsponsored cX4_unsponsored 2 (some .int), Cond.methodLink RX4 214 yX0_cover, Cond.instanceMethod yX0_cover, Cond.selects RX0 yX0_cover yX0_cover, Cond.code yX0_cover cX0_cover 8 (some .int), Cond.fieldLink RX0 9 "TermBill$Aid" "ranks" "[I", Cond.methodLink RX0 25 Lib.Math.min.name, Cond.fieldLink RX0 18 "TermBill$Aid" "uses" "[I", Cond.fieldLink RX0 15 "TermBill$Aid" "amounts" "[I", Cond.methodLink RX4 217 yX0_useOf]
def wsL_isOnce_r5 : List Cond := [Cond.instanceMethod yX0_useOf, Cond.selects RX0 yX0_useOf yX0_useOf, Cond.code yX0_useOf cX0_useOf 2 (some .int), Cond.methodLink RL 116 yX4_amountOf, Cond.instanceMethod yX4_amountOf, Cond.selects RX4 yX4_amountOf yX4_amountOf, Cond.code yX4_amountOf cX4_amountOf 4 (some .int), Cond.methodLink RX4 220 yX0_sumOf, Cond.instanceMethod yX0_sumOf, Cond.selects RX0 yX0_sumOf yX0_sumOf, Cond.code yX0_sumOf cX0_sumOf 2 (some .int), Cond.methodLink RL 106 yX4_owed, Cond.instanceMethod yX4_owed, Cond.selects RX4 yX4_owed yX4_owed, Cond.code yX4_owed cX4_owed 2 (some .int), Cond.methodLink RX4 165 yX4_balanceOf, Cond.instanceMethod yX4_balanceOf, Cond.selects RX4 yX4_balanceOf yX4_balanceOf, Cond.code yX4_balanceOf cX4_balanceOf 3 (some .int), Cond.fieldLink RX4 153 "TermBill$Student" "paidSum" "I", Cond.methodLink RL 103 yX4_paid, Cond.instanceMethod yX4_paid, Cond.selects RX4 yX4_paid yX4_paid, Cond.code yX4_paid cX4_paid 2 (some .int)]
def wsL_isOnce_r6 : List Cond := [Cond.methodLink RL 109 yX4_hasHold, Cond.instanceMethod yX4_hasHold, Cond.selects RX4 yX4_hasHold yX4_hasHold, Cond.code yX4_hasHold cX4_hasHold 2 (some .boolean), Cond.fieldLink RX4 32 "TermBill" "holdLimit" "I"]
def wsL_isOnce : List Cond := .code yL_isOnce cL_isOnce 6 (some .boolean) :: ((wsL_isOnce_r1 ++ (wsL_isOnce_r2 ++ (wsL_isOnce_r3 ++ (wsL_isOnce_r4 ++ (wsL_isOnce_r5 ++ wsL_isOnce_r6))))) ++ wsX40 ++ wsX30 ++ wsX10 ++ wsX00 ++ (vx_atS RX4 61 "java/lang/IllegalArgumentException" ["java/lang/RuntimeException", "java/lang/Exception"]).filter goodWord ++ (vx_atS RX4 120 "java/lang/IndexOutOfBoundsException" ["java/lang/RuntimeException", "java/lang/Exception"]).filter goodWord)
def wsL_isPaidSo_r1 : List Cond := [Cond.methodLink RL 106 yX4_owed, Cond.instanceMethod yX4_owed, Cond.selects RX4 yX4_owed yX4_owed, Cond.initialized RX4, Cond.code yX4_owed cX4_owed 2 (some .int), Cond.methodLink RX4 71 yX4_studentAt, Cond.instanceMethod yX4_studentAt, Cond.selects RX4 yX4_studentAt yX4_studentAt, Cond.code yX4_studentAt cX4_studentAt 3 (some (.object "TermBill$Student")), Cond.classLink RX4 116 "java/lang/IndexOutOfBoundsException", Cond.initialized "java/lang/IndexOutOfBoundsException", Cond.fieldLink RX4 11 "TermBill" "students" "[LTermBill$Student;", Cond.methodLink RX4 165 yX4_balanceOf, Cond.instanceMethod yX4_balanceOf, Cond.selects RX4 yX4_balanceOf yX4_balanceOf, Cond.code yX4_balanceOf cX4_balanceOf 3 (some .int), Cond.fieldLink RX4 140 "TermBill$Student" "aid" "LTermBill$Aid;", Cond.fieldLink RX4 84 "TermBill$Student" "need" "I", Cond.fieldLink RX4 153 "TermBill$Student" "paidSum" "I", Cond.methodLink RX4 211 yX4_unsponsored, Cond.instanceMethod yX4_unsponsored, Cond.selects RX4 yX4_unsponsored yX4_unsponsored, Cond.code yX4_unsponsored cX4_unsponsored 2 (some .int), Cond.methodLink RX4 202 yX4_chargesOf]
def wsL_isPaidSo_r2 : List Cond := [Cond.instanceMethod yX4_chargesOf, Cond.selects RX4 yX4_chargesOf yX4_chargesOf, Cond.code yX4_chargesOf cX4_chargesOf 5 (some .int), Cond.fieldLink RX4 77 "TermBill$Student" "level" "I", Cond.fieldLink RX4 80 "TermBill$Student" "isResident" "Z", Cond.fieldLink RX4 97 "TermBill$Student" "courses" "LTermBill$Courses;", Cond.fieldLink RX4 237 "TermBill$Courses" "keptSum" "I", Cond.fieldLink RX4 132 "TermBill$Student" "fees" "I", Cond.fieldLink RX4 135 "TermBill$Student" "housing" "I", Cond.methodLink RX4 48 yX4_placeOfRate, Cond.static yX4_placeOfRate, Cond.code yX4_placeOfRate cX4_placeOfRate 2 (some .int), Cond.methodLink RX4 225 yX4_rateAt, Cond.instanceMethod yX4_rateAt, Cond.selects RX4 yX4_rateAt yX4_rateAt, Cond.code yX4_rateAt cX4_rateAt 2 (some .int), Cond.fieldLink RX4 15 "TermBill" "rates" "[I", Cond.methodLink RX4 199 yX1_total, Cond.instanceMethod yX1_total, Cond.selects RX1 yX1_total yX1_total, Cond.initialized RX1, Cond.code yX1_total cX1_total 3 (some .int), Cond.fieldLink RX1 9 "TermBill$Courses" "creditsByCourse" "[I", Cond.methodLink RX4 228 yX4_priceOf]
def wsL_isPaidSo_r3 : List Cond := [Cond.instanceMethod yX4_priceOf, Cond.selects RX4 yX4_priceOf yX4_priceOf, Cond.code yX4_priceOf cX4_priceOf 3 (some .int), Cond.fieldLink RX4 22 "TermBill" "bandFrom" "I", Cond.fieldLink RX4 26 "TermBill" "bandTo" "I", Cond.methodLink RX4 205 yX4_sponsorPart, Cond.instanceMethod yX4_sponsorPart, Cond.selects RX4 yX4_sponsorPart yX4_sponsorPart, Cond.code yX4_sponsorPart cX4_sponsorPart 2 (some .int), Cond.fieldLink RX4 89 "TermBill$Student" "sponsorKinds" "I", Cond.fieldLink RX4 92 "TermBill$Student" "sponsorLimit" "I", Cond.methodLink RX4 240 Lib.Math.min.name, Cond.static Lib.Math.min.name, Cond.initialized "java/lang/Math", Cond.code Lib.Math.min.name Lib.Math.min.code 2 (some .int), Cond.methodLink RX4 214 yX0_cover, Cond.instanceMethod yX0_cover, Cond.selects RX0 yX0_cover yX0_cover, Cond.initialized RX0, Cond.code yX0_cover cX0_cover 8 (some .int), Cond.fieldLink RX0 9 "TermBill$Aid" "ranks" "[I", Cond.methodLink RX0 25 Lib.Math.min.name, Cond.fieldLink RX0 18 "TermBill$Aid" "uses" "[I", Cond.fieldLink RX0 15 "TermBill$Aid" "amounts" "[I"]
def wsL_isPaidSo_r4 : List Cond := [Cond.methodLink RL 103 yX4_paid, Cond.instanceMethod yX4_paid, Cond.selects RX4 yX4_paid yX4_paid, Cond.code yX4_paid cX4_paid 2 (some .int), Cond.methodLink RL 37 yX4_pay, Cond.instanceMethod yX4_pay, Cond.selects RX4 yX4_pay yX4_pay, Cond.code yX4_pay cX4_pay 4 (some .int), Cond.classLink RX4 57 "java/lang/IllegalArgumentException", Cond.initialized "java/lang/IllegalArgumentException", Cond.constant RX4 68 (1000000), Cond.fieldLink RX4 156 "TermBill$Student" "instalments" "LTermBill$Instalments;", Cond.fieldLink RX4 160 "TermBill$Instalments" "paidSince" "I", Cond.methodLink RX4 53 yX4_isWithin, Cond.static yX4_isWithin, Cond.code yX4_isWithin cX4_isWithin 3 (some .boolean), Cond.methodLink RL 97 yX4_charged, Cond.instanceMethod yX4_charged, Cond.selects RX4 yX4_charged yX4_charged, Cond.code yX4_charged cX4_charged 4 (some .int), Cond.methodLink RL 30 yX4_charge, Cond.instanceMethod yX4_charge, Cond.selects RX4 yX4_charge yX4_charge, Cond.code yX4_charge cX4_charge 5 (some .int)]
def wsL_isPaidSo : List Cond := .code yL_isPaidSo cL_isPaidSo 8 (some .boolean) :: ((wsL_isPaidSo_r1 ++ (wsL_isPaidSo_r2 ++ (wsL_isPaidSo_r3 ++ wsL_isPaidSo_r4))) ++ wsX40 ++ wsX30 ++ wsX10 ++ wsX00 ++ wsX20 ++ (vx_atS RX4 120 "java/lang/IndexOutOfBoundsException" ["java/lang/RuntimeException", "java/lang/Exception"]).filter goodWord ++ (vx_atS RX4 61 "java/lang/IllegalArgumentException" ["java/lang/RuntimeException", "java/lang/Exception"]).filter goodWord)
def wsL_isDroppedSo_r1 : List Cond := [Cond.constant RL 53 (-1000000001), Cond.methodLink RL 97 yX4_charged, Cond.instanceMethod yX4_charged, Cond.selects RX4 yX4_charged yX4_charged, Cond.initialized RX4, Cond.code yX4_charged cX4_charged 4 (some .int), Cond.classLink RX4 57 "java/lang/IllegalArgumentException", Cond.initialized "java/lang/IllegalArgumentException", Cond.methodLink RX4 71 yX4_studentAt, Cond.instanceMethod yX4_studentAt, Cond.selects RX4 yX4_studentAt yX4_studentAt, Cond.code yX4_studentAt cX4_studentAt 3 (some (.object "TermBill$Student")), Cond.classLink RX4 116 "java/lang/IndexOutOfBoundsException", Cond.initialized "java/lang/IndexOutOfBoundsException", Cond.fieldLink RX4 11 "TermBill" "students" "[LTermBill$Student;", Cond.methodLink RX4 53 yX4_isWithin, Cond.static yX4_isWithin, Cond.code yX4_isWithin cX4_isWithin 3 (some .boolean), Cond.methodLink RX4 202 yX4_chargesOf, Cond.instanceMethod yX4_chargesOf, Cond.selects RX4 yX4_chargesOf yX4_chargesOf, Cond.code yX4_chargesOf cX4_chargesOf 5 (some .int), Cond.fieldLink RX4 77 "TermBill$Student" "level" "I", Cond.fieldLink RX4 80 "TermBill$Student" "isResident" "Z"]
def wsL_isDroppedSo_r2 : List Cond := [Cond.fieldLink RX4 97 "TermBill$Student" "courses" "LTermBill$Courses;", Cond.fieldLink RX4 237 "TermBill$Courses" "keptSum" "I", Cond.fieldLink RX4 132 "TermBill$Student" "fees" "I", Cond.fieldLink RX4 135 "TermBill$Student" "housing" "I", Cond.methodLink RX4 48 yX4_placeOfRate, Cond.static yX4_placeOfRate, Cond.code yX4_placeOfRate cX4_placeOfRate 2 (some .int), Cond.methodLink RX4 225 yX4_rateAt, Cond.instanceMethod yX4_rateAt, Cond.selects RX4 yX4_rateAt yX4_rateAt, Cond.code yX4_rateAt cX4_rateAt 2 (some .int), Cond.fieldLink RX4 15 "TermBill" "rates" "[I", Cond.methodLink RX4 199 yX1_total, Cond.instanceMethod yX1_total, Cond.selects RX1 yX1_total yX1_total, Cond.initialized RX1, Cond.code yX1_total cX1_total 3 (some .int), Cond.fieldLink RX1 9 "TermBill$Courses" "creditsByCourse" "[I", Cond.methodLink RX4 228 yX4_priceOf, Cond.instanceMethod yX4_priceOf, Cond.selects RX4 yX4_priceOf yX4_priceOf, Cond.code yX4_priceOf cX4_priceOf 3 (some .int), Cond.fieldLink RX4 22 "TermBill" "bandFrom" "I", Cond.fieldLink RX4 26 "TermBill" "bandTo" "I"]
def wsL_isDroppedSo_r3 : List Cond := [Cond.methodLink RL 94 yX4_credits, Cond.instanceMethod yX4_credits, Cond.selects RX4 yX4_credits yX4_credits, Cond.code yX4_credits cX4_credits 2 (some .int), Cond.methodLink RL 84 yL_does, Cond.static yL_does, Cond.initialized RL, Cond.codeWith yL_does cL_does 6 (some .int) [(0, 176, 177, 51), (0, 176, 182, 54), (0, 176, 187, 56)], Cond.classLink RL 51 "java/lang/IndexOutOfBoundsException", Cond.classLink RL 54 "java/lang/IllegalArgumentException", Cond.classLink RL 56 "java/lang/IllegalStateException", Cond.methodLink RL 8 yX4_setRate, Cond.instanceMethod yX4_setRate, Cond.selects RX4 yX4_setRate yX4_setRate, Cond.code yX4_setRate cX4_setRate 6 (some .int), Cond.constant RX4 52 (100000), Cond.methodLink RL 14 yL_sets, Cond.static yL_sets, Cond.code yL_sets cL_sets 5 (some .int), Cond.methodLink RL 58 yX4_setBand, Cond.instanceMethod yX4_setBand, Cond.selects RX4 yX4_setBand yX4_setBand, Cond.code yX4_setBand cX4_setBand 3 none, Cond.methodLink RL 62 yX4_setFees]
def wsL_isDroppedSo_r4 : List Cond := [Cond.instanceMethod yX4_setFees, Cond.selects RX4 yX4_setFees yX4_setFees, Cond.code yX4_setFees cX4_setFees 3 none, Cond.constant RX4 68 (1000000), Cond.fieldLink RX4 29 "TermBill" "lateFee" "I", Cond.fieldLink RX4 32 "TermBill" "holdLimit" "I", Cond.methodLink RL 65 yX4_setStudent, Cond.instanceMethod yX4_setStudent, Cond.selects RX4 yX4_setStudent yX4_setStudent, Cond.code yX4_setStudent cX4_setStudent 6 none, Cond.fieldLink RX4 84 "TermBill$Student" "need" "I", Cond.methodLink RL 69 yX4_setSponsor, Cond.instanceMethod yX4_setSponsor, Cond.selects RX4 yX4_setSponsor yX4_setSponsor, Cond.code yX4_setSponsor cX4_setSponsor 5 none, Cond.fieldLink RX4 89 "TermBill$Student" "sponsorKinds" "I", Cond.fieldLink RX4 92 "TermBill$Student" "sponsorLimit" "I", Cond.methodLink RL 20 yX4_setShare, Cond.instanceMethod yX4_setShare, Cond.selects RX4 yX4_setShare yX4_setShare, Cond.code yX4_setShare cX4_setShare 4 (some .int), Cond.fieldLink RX4 19 "TermBill" "shares" "[I", Cond.methodLink RL 24 yX4_take, Cond.instanceMethod yX4_take]
def wsL_isDroppedSo_r5 : List Cond := [Cond.selects RX4 yX4_take yX4_take, Cond.code yX4_take cX4_take 5 (some .int), Cond.classLink RX4 107 "java/lang/IllegalStateException", Cond.initialized "java/lang/IllegalStateException", Cond.methodLink RX4 101 yX1_add, Cond.instanceMethod yX1_add, Cond.selects RX1 yX1_add yX1_add, Cond.code yX1_add cX1_add 2 (some .int), Cond.fieldLink RX1 15 "TermBill$Courses" "taken" "I", Cond.methodLink RL 27 yX4_drop, Cond.instanceMethod yX4_drop, Cond.selects RX4 yX4_drop yX4_drop, Cond.code yX4_drop cX4_drop 4 (some .int), Cond.methodLink RX4 112 yX1_has, Cond.instanceMethod yX1_has, Cond.selects RX1 yX1_has yX1_has, Cond.code yX1_has cX1_has 2 (some .boolean), Cond.methodLink RX4 121 yX1_creditsOf, Cond.instanceMethod yX1_creditsOf, Cond.selects RX1 yX1_creditsOf yX1_creditsOf, Cond.code yX1_creditsOf cX1_creditsOf 2 (some .int), Cond.methodLink RX4 126 yX4_dropCourse, Cond.instanceMethod yX4_dropCourse, Cond.selects RX4 yX4_dropCourse yX4_dropCourse]
def wsL_isDroppedSo_r6 : List Cond := [Cond.code yX4_dropCourse cX4_dropCourse 7 (some .int), Cond.methodLink RX4 231 yX1_remove, Cond.instanceMethod yX1_remove, Cond.selects RX1 yX1_remove yX1_remove, Cond.code yX1_remove cX1_remove 2 none, Cond.methodLink RX4 234 yX4_shareNow, Cond.instanceMethod yX4_shareNow, Cond.selects RX4 yX4_shareNow yX4_shareNow, Cond.code yX4_shareNow cX4_shareNow 1 (some .int), Cond.fieldLink RX4 35 "TermBill" "week" "I", Cond.methodLink RL 30 yX4_charge, Cond.instanceMethod yX4_charge, Cond.selects RX4 yX4_charge yX4_charge, Cond.code yX4_charge cX4_charge 5 (some .int), Cond.methodLink RL 34 yX4_award, Cond.instanceMethod yX4_award, Cond.selects RX4 yX4_award yX4_award, Cond.code yX4_award cX4_award 6 (some .int), Cond.fieldLink RX4 140 "TermBill$Student" "aid" "LTermBill$Aid;", Cond.methodLink RX4 144 yX0_add, Cond.instanceMethod yX0_add, Cond.selects RX0 yX0_add yX0_add, Cond.initialized RX0, Cond.code yX0_add cX0_add 3 (some .int)]
def wsL_isDroppedSo_r7 : List Cond := [Cond.fieldLink RX0 21 "TermBill$Aid" "many" "I", Cond.fieldLink RX0 9 "TermBill$Aid" "ranks" "[I", Cond.fieldLink RX0 15 "TermBill$Aid" "amounts" "[I", Cond.methodLink RL 37 yX4_pay, Cond.instanceMethod yX4_pay, Cond.selects RX4 yX4_pay yX4_pay, Cond.code yX4_pay cX4_pay 4 (some .int), Cond.fieldLink RX4 153 "TermBill$Student" "paidSum" "I", Cond.fieldLink RX4 156 "TermBill$Student" "instalments" "LTermBill$Instalments;", Cond.fieldLink RX4 160 "TermBill$Instalments" "paidSince" "I", Cond.methodLink RX4 165 yX4_balanceOf, Cond.instanceMethod yX4_balanceOf, Cond.selects RX4 yX4_balanceOf yX4_balanceOf, Cond.code yX4_balanceOf cX4_balanceOf 3 (some .int), Cond.methodLink RX4 211 yX4_unsponsored, Cond.instanceMethod yX4_unsponsored, Cond.selects RX4 yX4_unsponsored yX4_unsponsored, Cond.code yX4_unsponsored cX4_unsponsored 2 (some .int), Cond.methodLink RX4 205 yX4_sponsorPart, Cond.instanceMethod yX4_sponsorPart, Cond.selects RX4 yX4_sponsorPart yX4_sponsorPart, Cond.code yX4_sponsorPart cX4_sponsorPart 2 (some .int), Cond.methodLink RX4 240 Lib.Math.min.name, Cond.static Lib.Math.min.name]
def wsL_isDroppedSo_r8 : List Cond := [Cond.initialized "java/lang/Math", Cond.code Lib.Math.min.name Lib.Math.min.code 2 (some .int), Cond.methodLink RX4 214 yX0_cover, Cond.instanceMethod yX0_cover, Cond.selects RX0 yX0_cover yX0_cover, Cond.code yX0_cover cX0_cover 8 (some .int), Cond.methodLink RX0 25 Lib.Math.min.name, Cond.fieldLink RX0 18 "TermBill$Aid" "uses" "[I", Cond.methodLink RL 40 yX4_plan, Cond.instanceMethod yX4_plan, Cond.selects RX4 yX4_plan yX4_plan, Cond.code yX4_plan cX4_plan 7 (some .int), Cond.methodLink RX4 173 yX4_weekNumber, Cond.instanceMethod yX4_weekNumber, Cond.selects RX4 yX4_weekNumber yX4_weekNumber, Cond.code yX4_weekNumber cX4_weekNumber 1 (some .int), Cond.fieldLink RX4 38 "TermBill" "term" "I", Cond.methodLink RX4 177 yX2_start, Cond.instanceMethod yX2_start, Cond.selects RX2 yX2_start yX2_start, Cond.initialized RX2, Cond.code yX2_start cX2_start 5 none, Cond.fieldLink RX2 9 "TermBill$Instalments" "madeAt" "I", Cond.fieldLink RX2 15 "TermBill$Instalments" "many" "I"]
def wsL_isDroppedSo_r9 : List Cond := [Cond.fieldLink RX2 18 "TermBill$Instalments" "first" "I", Cond.fieldLink RX2 21 "TermBill$Instalments" "each" "I", Cond.fieldLink RX2 24 "TermBill$Instalments" "paidSince" "I", Cond.methodLink RL 43 yX4_leave, Cond.instanceMethod yX4_leave, Cond.selects RX4 yX4_leave yX4_leave, Cond.code yX4_leave cX4_leave 4 (some .int), Cond.methodLink RX4 181 yX0_total, Cond.instanceMethod yX0_total, Cond.selects RX0 yX0_total yX0_total, Cond.code yX0_total cX0_total 3 (some .int), Cond.methodLink RX4 184 yX4_aidToGiveBack, Cond.instanceMethod yX4_aidToGiveBack, Cond.selects RX4 yX4_aidToGiveBack yX4_aidToGiveBack, Cond.code yX4_aidToGiveBack cX4_aidToGiveBack 2 (some .int), Cond.methodLink RX4 187 yX0_takeOff, Cond.instanceMethod yX0_takeOff, Cond.selects RX0 yX0_takeOff yX0_takeOff, Cond.code yX0_takeOff cX0_takeOff 6 none, Cond.methodLink RL 47 yX4_closeWeek, Cond.instanceMethod yX4_closeWeek, Cond.selects RX4 yX4_closeWeek yX4_closeWeek, Cond.code yX4_closeWeek cX4_closeWeek 1 (some .int), Cond.methodLink RX4 193 yX4_endTerm]
def wsL_isDroppedSo_r10 : List Cond := [Cond.instanceMethod yX4_endTerm, Cond.selects RX4 yX4_endTerm yX4_endTerm, Cond.code yX4_endTerm cX4_endTerm 7 none, Cond.methodLink RX4 245 yX4_carriedTo, Cond.static yX4_carriedTo, Cond.code yX4_carriedTo cX4_carriedTo 2 (some .int), Cond.methodLink RX4 248 yX3_beginTerm, Cond.instanceMethod yX3_beginTerm, Cond.selects RX3 yX3_beginTerm yX3_beginTerm, Cond.initialized RX3, Cond.code yX3_beginTerm cX3_beginTerm 2 none, Cond.fieldLink RX3 10 "TermBill$Student" "courses" "LTermBill$Courses;", Cond.fieldLink RX3 19 "TermBill$Student" "aid" "LTermBill$Aid;", Cond.fieldLink RX3 47 "TermBill$Student" "sponsorKinds" "I", Cond.fieldLink RX3 50 "TermBill$Student" "sponsorLimit" "I", Cond.fieldLink RX3 44 "TermBill$Student" "housing" "I", Cond.methodLink RX3 60 Lib.Math.max.name, Cond.static Lib.Math.max.name, Cond.code Lib.Math.max.name Lib.Math.max.code 2 (some .int), Cond.fieldLink RX3 41 "TermBill$Student" "fees" "I", Cond.fieldLink RX3 53 "TermBill$Student" "paidSum" "I", Cond.methodLink RX3 56 yX1_clear, Cond.instanceMethod yX1_clear, Cond.selects RX1 yX1_clear yX1_clear]
def wsL_isDroppedSo_r11 : List Cond := [Cond.code yX1_clear cX1_clear 1 none, Cond.fieldLink RX1 19 "TermBill$Courses" "keptSum" "I", Cond.methodLink RX1 22 yJ7_fill_53178, Cond.static yJ7_fill_53178, Cond.initialized RJ7, Cond.code yJ7_fill_53178 cJ7_fill_53178 4 none, Cond.methodLink RX3 59 yX0_clear, Cond.instanceMethod yX0_clear, Cond.selects RX0 yX0_clear yX0_clear, Cond.code yX0_clear cX0_clear 1 none, Cond.methodLink RX0 31 yJ7_fill_53178, Cond.methodLink RX4 196 yX4_chargeLateFees, Cond.instanceMethod yX4_chargeLateFees, Cond.selects RX4 yX4_chargeLateFees yX4_chargeLateFees, Cond.code yX4_chargeLateFees cX4_chargeLateFees 3 none, Cond.methodLink RX4 251 yX2_isLateAt, Cond.instanceMethod yX2_isLateAt, Cond.selects RX2 yX2_isLateAt yX2_isLateAt, Cond.code yX2_isLateAt cX2_isLateAt 4 (some .boolean)]
def wsL_isDroppedSo : List Cond := .code yL_isDroppedSo cL_isDroppedSo 10 (some .boolean) :: ((wsL_isDroppedSo_r1 ++ (wsL_isDroppedSo_r2 ++ (wsL_isDroppedSo_r3 ++ (wsL_isDroppedSo_r4 ++ (wsL_isDroppedSo_r5 ++ (wsL_isDroppedSo_r6 ++ (wsL_isDroppedSo_r7 ++ (wsL_isDroppedSo_r8 ++ (wsL_isDroppedSo_r9 ++ (wsL_isDroppedSo_r10 ++ wsL_isDroppedSo_r11)))))))))) ++ wsX40 ++ wsX30 ++ wsX10 ++ wsX00 ++ wsX20 ++ (vx_atS RX4 61 "java/lang/IllegalArgumentException" ["java/lang/RuntimeException", "java/lang/Exception"]).filter goodWord ++ (vx_atS RX4 120 "java/lang/IndexOutOfBoundsException" ["java/lang/RuntimeException", "java/lang/Exception"]).filter goodWord ++ (vx_atS RX4 111 "java/lang/IllegalStateException" ["java/lang/RuntimeException", "java/lang/Exception"]).filter goodWord)
def wsL_isClosedSo_r1 : List Cond := [Cond.constant RL 53 (-1000000001), Cond.constant RL 119 (200000), Cond.methodLink RL 106 yX4_owed, Cond.instanceMethod yX4_owed, Cond.selects RX4 yX4_owed yX4_owed, Cond.initialized RX4, Cond.code yX4_owed cX4_owed 2 (some .int), Cond.methodLink RX4 71 yX4_studentAt, Cond.instanceMethod yX4_studentAt, Cond.selects RX4 yX4_studentAt yX4_studentAt, Cond.code yX4_studentAt cX4_studentAt 3 (some (.object "TermBill$Student")), Cond.classLink RX4 116 "java/lang/IndexOutOfBoundsException", Cond.initialized "java/lang/IndexOutOfBoundsException", Cond.fieldLink RX4 11 "TermBill" "students" "[LTermBill$Student;", Cond.methodLink RX4 165 yX4_balanceOf, Cond.instanceMethod yX4_balanceOf, Cond.selects RX4 yX4_balanceOf yX4_balanceOf, Cond.code yX4_balanceOf cX4_balanceOf 3 (some .int), Cond.fieldLink RX4 140 "TermBill$Student" "aid" "LTermBill$Aid;", Cond.fieldLink RX4 84 "TermBill$Student" "need" "I", Cond.fieldLink RX4 153 "TermBill$Student" "paidSum" "I", Cond.methodLink RX4 211 yX4_unsponsored, Cond.instanceMethod yX4_unsponsored, Cond.selects RX4 yX4_unsponsored yX4_unsponsored]
def wsL_isClosedSo_r2 : List Cond := [Cond.code yX4_unsponsored cX4_unsponsored 2 (some .int), Cond.methodLink RX4 202 yX4_chargesOf, Cond.instanceMethod yX4_chargesOf, Cond.selects RX4 yX4_chargesOf yX4_chargesOf, Cond.code yX4_chargesOf cX4_chargesOf 5 (some .int), Cond.fieldLink RX4 77 "TermBill$Student" "level" "I", Cond.fieldLink RX4 80 "TermBill$Student" "isResident" "Z", Cond.fieldLink RX4 97 "TermBill$Student" "courses" "LTermBill$Courses;", Cond.fieldLink RX4 237 "TermBill$Courses" "keptSum" "I", Cond.fieldLink RX4 132 "TermBill$Student" "fees" "I", Cond.fieldLink RX4 135 "TermBill$Student" "housing" "I", Cond.methodLink RX4 48 yX4_placeOfRate, Cond.static yX4_placeOfRate, Cond.code yX4_placeOfRate cX4_placeOfRate 2 (some .int), Cond.methodLink RX4 225 yX4_rateAt, Cond.instanceMethod yX4_rateAt, Cond.selects RX4 yX4_rateAt yX4_rateAt, Cond.code yX4_rateAt cX4_rateAt 2 (some .int), Cond.fieldLink RX4 15 "TermBill" "rates" "[I", Cond.methodLink RX4 199 yX1_total, Cond.instanceMethod yX1_total, Cond.selects RX1 yX1_total yX1_total, Cond.initialized RX1, Cond.code yX1_total cX1_total 3 (some .int)]
def wsL_isClosedSo_r3 : List Cond := [Cond.fieldLink RX1 9 "TermBill$Courses" "creditsByCourse" "[I", Cond.methodLink RX4 228 yX4_priceOf, Cond.instanceMethod yX4_priceOf, Cond.selects RX4 yX4_priceOf yX4_priceOf, Cond.code yX4_priceOf cX4_priceOf 3 (some .int), Cond.fieldLink RX4 22 "TermBill" "bandFrom" "I", Cond.fieldLink RX4 26 "TermBill" "bandTo" "I", Cond.methodLink RX4 205 yX4_sponsorPart, Cond.instanceMethod yX4_sponsorPart, Cond.selects RX4 yX4_sponsorPart yX4_sponsorPart, Cond.code yX4_sponsorPart cX4_sponsorPart 2 (some .int), Cond.fieldLink RX4 89 "TermBill$Student" "sponsorKinds" "I", Cond.fieldLink RX4 92 "TermBill$Student" "sponsorLimit" "I", Cond.methodLink RX4 240 Lib.Math.min.name, Cond.static Lib.Math.min.name, Cond.initialized "java/lang/Math", Cond.code Lib.Math.min.name Lib.Math.min.code 2 (some .int), Cond.methodLink RX4 214 yX0_cover, Cond.instanceMethod yX0_cover, Cond.selects RX0 yX0_cover yX0_cover, Cond.initialized RX0, Cond.code yX0_cover cX0_cover 8 (some .int), Cond.fieldLink RX0 9 "TermBill$Aid" "ranks" "[I", Cond.methodLink RX0 25 Lib.Math.min.name]
def wsL_isClosedSo_r4 : List Cond := [Cond.fieldLink RX0 18 "TermBill$Aid" "uses" "[I", Cond.fieldLink RX0 15 "TermBill$Aid" "amounts" "[I", Cond.methodLink RL 88 yX4_week, Cond.instanceMethod yX4_week, Cond.selects RX4 yX4_week yX4_week, Cond.code yX4_week cX4_week 1 (some .int), Cond.fieldLink RX4 35 "TermBill" "week" "I", Cond.methodLink RL 91 yX4_term, Cond.instanceMethod yX4_term, Cond.selects RX4 yX4_term yX4_term, Cond.code yX4_term cX4_term 1 (some .int), Cond.fieldLink RX4 38 "TermBill" "term" "I", Cond.methodLink RL 97 yX4_charged, Cond.instanceMethod yX4_charged, Cond.selects RX4 yX4_charged yX4_charged, Cond.code yX4_charged cX4_charged 4 (some .int), Cond.classLink RX4 57 "java/lang/IllegalArgumentException", Cond.initialized "java/lang/IllegalArgumentException", Cond.methodLink RX4 53 yX4_isWithin, Cond.static yX4_isWithin, Cond.code yX4_isWithin cX4_isWithin 3 (some .boolean), Cond.methodLink RL 84 yL_does, Cond.static yL_does, Cond.initialized RL]
def wsL_isClosedSo_r5 : List Cond := [Cond.codeWith yL_does cL_does 6 (some .int) [(0, 176, 177, 51), (0, 176, 182, 54), (0, 176, 187, 56)], Cond.classLink RL 51 "java/lang/IndexOutOfBoundsException", Cond.classLink RL 54 "java/lang/IllegalArgumentException", Cond.classLink RL 56 "java/lang/IllegalStateException", Cond.methodLink RL 8 yX4_setRate, Cond.instanceMethod yX4_setRate, Cond.selects RX4 yX4_setRate yX4_setRate, Cond.code yX4_setRate cX4_setRate 6 (some .int), Cond.constant RX4 52 (100000), Cond.methodLink RL 14 yL_sets, Cond.static yL_sets, Cond.code yL_sets cL_sets 5 (some .int), Cond.methodLink RL 58 yX4_setBand, Cond.instanceMethod yX4_setBand, Cond.selects RX4 yX4_setBand yX4_setBand, Cond.code yX4_setBand cX4_setBand 3 none, Cond.methodLink RL 62 yX4_setFees, Cond.instanceMethod yX4_setFees, Cond.selects RX4 yX4_setFees yX4_setFees, Cond.code yX4_setFees cX4_setFees 3 none, Cond.constant RX4 68 (1000000), Cond.fieldLink RX4 29 "TermBill" "lateFee" "I", Cond.fieldLink RX4 32 "TermBill" "holdLimit" "I", Cond.methodLink RL 65 yX4_setStudent]
def wsL_isClosedSo_r6 : List Cond := [Cond.instanceMethod yX4_setStudent, Cond.selects RX4 yX4_setStudent yX4_setStudent, Cond.code yX4_setStudent cX4_setStudent 6 none, Cond.methodLink RL 69 yX4_setSponsor, Cond.instanceMethod yX4_setSponsor, Cond.selects RX4 yX4_setSponsor yX4_setSponsor, Cond.code yX4_setSponsor cX4_setSponsor 5 none, Cond.methodLink RL 20 yX4_setShare, Cond.instanceMethod yX4_setShare, Cond.selects RX4 yX4_setShare yX4_setShare, Cond.code yX4_setShare cX4_setShare 4 (some .int), Cond.fieldLink RX4 19 "TermBill" "shares" "[I", Cond.methodLink RL 24 yX4_take, Cond.instanceMethod yX4_take, Cond.selects RX4 yX4_take yX4_take, Cond.code yX4_take cX4_take 5 (some .int), Cond.classLink RX4 107 "java/lang/IllegalStateException", Cond.initialized "java/lang/IllegalStateException", Cond.methodLink RX4 101 yX1_add, Cond.instanceMethod yX1_add, Cond.selects RX1 yX1_add yX1_add, Cond.code yX1_add cX1_add 2 (some .int), Cond.fieldLink RX1 15 "TermBill$Courses" "taken" "I", Cond.methodLink RL 27 yX4_drop]
def wsL_isClosedSo_r7 : List Cond := [Cond.instanceMethod yX4_drop, Cond.selects RX4 yX4_drop yX4_drop, Cond.code yX4_drop cX4_drop 4 (some .int), Cond.methodLink RX4 112 yX1_has, Cond.instanceMethod yX1_has, Cond.selects RX1 yX1_has yX1_has, Cond.code yX1_has cX1_has 2 (some .boolean), Cond.methodLink RX4 121 yX1_creditsOf, Cond.instanceMethod yX1_creditsOf, Cond.selects RX1 yX1_creditsOf yX1_creditsOf, Cond.code yX1_creditsOf cX1_creditsOf 2 (some .int), Cond.methodLink RX4 126 yX4_dropCourse, Cond.instanceMethod yX4_dropCourse, Cond.selects RX4 yX4_dropCourse yX4_dropCourse, Cond.code yX4_dropCourse cX4_dropCourse 7 (some .int), Cond.methodLink RX4 231 yX1_remove, Cond.instanceMethod yX1_remove, Cond.selects RX1 yX1_remove yX1_remove, Cond.code yX1_remove cX1_remove 2 none, Cond.methodLink RX4 234 yX4_shareNow, Cond.instanceMethod yX4_shareNow, Cond.selects RX4 yX4_shareNow yX4_shareNow, Cond.code yX4_shareNow cX4_shareNow 1 (some .int), Cond.methodLink RL 30 yX4_charge]
def wsL_isClosedSo_r8 : List Cond := [Cond.instanceMethod yX4_charge, Cond.selects RX4 yX4_charge yX4_charge, Cond.code yX4_charge cX4_charge 5 (some .int), Cond.methodLink RL 34 yX4_award, Cond.instanceMethod yX4_award, Cond.selects RX4 yX4_award yX4_award, Cond.code yX4_award cX4_award 6 (some .int), Cond.methodLink RX4 144 yX0_add, Cond.instanceMethod yX0_add, Cond.selects RX0 yX0_add yX0_add, Cond.code yX0_add cX0_add 3 (some .int), Cond.fieldLink RX0 21 "TermBill$Aid" "many" "I", Cond.methodLink RL 37 yX4_pay, Cond.instanceMethod yX4_pay, Cond.selects RX4 yX4_pay yX4_pay, Cond.code yX4_pay cX4_pay 4 (some .int), Cond.fieldLink RX4 156 "TermBill$Student" "instalments" "LTermBill$Instalments;", Cond.fieldLink RX4 160 "TermBill$Instalments" "paidSince" "I", Cond.methodLink RL 40 yX4_plan, Cond.instanceMethod yX4_plan, Cond.selects RX4 yX4_plan yX4_plan, Cond.code yX4_plan cX4_plan 7 (some .int), Cond.methodLink RX4 173 yX4_weekNumber, Cond.instanceMethod yX4_weekNumber]
def wsL_isClosedSo_r9 : List Cond := [Cond.selects RX4 yX4_weekNumber yX4_weekNumber, Cond.code yX4_weekNumber cX4_weekNumber 1 (some .int), Cond.methodLink RX4 177 yX2_start, Cond.instanceMethod yX2_start, Cond.selects RX2 yX2_start yX2_start, Cond.initialized RX2, Cond.code yX2_start cX2_start 5 none, Cond.fieldLink RX2 9 "TermBill$Instalments" "madeAt" "I", Cond.fieldLink RX2 15 "TermBill$Instalments" "many" "I", Cond.fieldLink RX2 18 "TermBill$Instalments" "first" "I", Cond.fieldLink RX2 21 "TermBill$Instalments" "each" "I", Cond.fieldLink RX2 24 "TermBill$Instalments" "paidSince" "I", Cond.methodLink RL 43 yX4_leave, Cond.instanceMethod yX4_leave, Cond.selects RX4 yX4_leave yX4_leave, Cond.code yX4_leave cX4_leave 4 (some .int), Cond.methodLink RX4 181 yX0_total, Cond.instanceMethod yX0_total, Cond.selects RX0 yX0_total yX0_total, Cond.code yX0_total cX0_total 3 (some .int), Cond.methodLink RX4 184 yX4_aidToGiveBack, Cond.instanceMethod yX4_aidToGiveBack, Cond.selects RX4 yX4_aidToGiveBack yX4_aidToGiveBack, Cond.code yX4_aidToGiveBack cX4_aidToGiveBack 2 (some .int)]
def wsL_isClosedSo_r10 : List Cond := [Cond.methodLink RX4 187 yX0_takeOff, Cond.instanceMethod yX0_takeOff, Cond.selects RX0 yX0_takeOff yX0_takeOff, Cond.code yX0_takeOff cX0_takeOff 6 none, Cond.methodLink RL 47 yX4_closeWeek, Cond.instanceMethod yX4_closeWeek, Cond.selects RX4 yX4_closeWeek yX4_closeWeek, Cond.code yX4_closeWeek cX4_closeWeek 1 (some .int), Cond.methodLink RX4 193 yX4_endTerm, Cond.instanceMethod yX4_endTerm, Cond.selects RX4 yX4_endTerm yX4_endTerm, Cond.code yX4_endTerm cX4_endTerm 7 none, Cond.methodLink RX4 245 yX4_carriedTo, Cond.static yX4_carriedTo, Cond.code yX4_carriedTo cX4_carriedTo 2 (some .int), Cond.methodLink RX4 248 yX3_beginTerm, Cond.instanceMethod yX3_beginTerm, Cond.selects RX3 yX3_beginTerm yX3_beginTerm, Cond.initialized RX3, Cond.code yX3_beginTerm cX3_beginTerm 2 none, Cond.fieldLink RX3 10 "TermBill$Student" "courses" "LTermBill$Courses;", Cond.fieldLink RX3 19 "TermBill$Student" "aid" "LTermBill$Aid;", Cond.fieldLink RX3 47 "TermBill$Student" "sponsorKinds" "I", Cond.fieldLink RX3 50 "TermBill$Student" "sponsorLimit" "I"]
def wsL_isClosedSo_r11 : List Cond := [Cond.fieldLink RX3 44 "TermBill$Student" "housing" "I", Cond.methodLink RX3 60 Lib.Math.max.name, Cond.static Lib.Math.max.name, Cond.code Lib.Math.max.name Lib.Math.max.code 2 (some .int), Cond.fieldLink RX3 41 "TermBill$Student" "fees" "I", Cond.fieldLink RX3 53 "TermBill$Student" "paidSum" "I", Cond.methodLink RX3 56 yX1_clear, Cond.instanceMethod yX1_clear, Cond.selects RX1 yX1_clear yX1_clear, Cond.code yX1_clear cX1_clear 1 none, Cond.fieldLink RX1 19 "TermBill$Courses" "keptSum" "I", Cond.methodLink RX1 22 yJ7_fill_53178, Cond.static yJ7_fill_53178, Cond.initialized RJ7, Cond.code yJ7_fill_53178 cJ7_fill_53178 4 none, Cond.methodLink RX3 59 yX0_clear, Cond.instanceMethod yX0_clear, Cond.selects RX0 yX0_clear yX0_clear, Cond.code yX0_clear cX0_clear 1 none, Cond.methodLink RX0 31 yJ7_fill_53178, Cond.methodLink RX4 196 yX4_chargeLateFees, Cond.instanceMethod yX4_chargeLateFees, Cond.selects RX4 yX4_chargeLateFees yX4_chargeLateFees, Cond.code yX4_chargeLateFees cX4_chargeLateFees 3 none]
def wsL_isClosedSo_r12 : List Cond := [Cond.methodLink RX4 251 yX2_isLateAt, Cond.instanceMethod yX2_isLateAt, Cond.selects RX2 yX2_isLateAt yX2_isLateAt, Cond.code yX2_isLateAt cX2_isLateAt 4 (some .boolean), Cond.methodLink RL 94 yX4_credits, Cond.instanceMethod yX4_credits, Cond.selects RX4 yX4_credits yX4_credits, Cond.code yX4_credits cX4_credits 2 (some .int), Cond.methodLink RL 100 yX4_sponsored, Cond.instanceMethod yX4_sponsored, Cond.selects RX4 yX4_sponsored yX4_sponsored, Cond.code yX4_sponsored cX4_sponsored 2 (some .int), Cond.methodLink RL 113 yL_used, Cond.static yL_used, Cond.codeWith yL_used cL_used 4 (some .int) [(0, 6, 7, 51)], Cond.methodLink RL 73 yX4_used, Cond.instanceMethod yX4_used, Cond.selects RX4 yX4_used yX4_used, Cond.code yX4_used cX4_used 4 (some .int), Cond.methodLink RX4 208 yX0_has, Cond.instanceMethod yX0_has, Cond.selects RX0 yX0_has yX0_has, Cond.code yX0_has cX0_has 2 (some .boolean), Cond.methodLink RX4 217 yX0_useOf]
def wsL_isClosedSo_r13 : List Cond := [Cond.instanceMethod yX0_useOf, Cond.selects RX0 yX0_useOf yX0_useOf, Cond.code yX0_useOf cX0_useOf 2 (some .int)]
def wsL_isClosedSo : List Cond := .code yL_isClosedSo cL_isClosedSo 9 (some .boolean) :: ((wsL_isClosedSo_r1 ++ (wsL_isClosedSo_r2 ++ (wsL_isClosedSo_r3 ++ (wsL_isClosedSo_r4 ++ (wsL_isClosedSo_r5 ++ (wsL_isClosedSo_r6 ++ (wsL_isClosedSo_r7 ++ (wsL_isClosedSo_r8 ++ (wsL_isClosedSo_r9 ++ (wsL_isClosedSo_r10 ++ (wsL_isClosedSo_r11 ++ (wsL_isClosedSo_r12 ++ wsL_isClosedSo_r13)))))))))))) ++ wsX40 ++ wsX30 ++ wsX10 ++ wsX00 ++ wsX20 ++ (vx_atS RX4 120 "java/lang/IndexOutOfBoundsException" ["java/lang/RuntimeException", "java/lang/Exception"]).filter goodWord ++ (vx_atS RX4 61 "java/lang/IllegalArgumentException" ["java/lang/RuntimeException", "java/lang/Exception"]).filter goodWord ++ (vx_atS RX4 111 "java/lang/IllegalStateException" ["java/lang/RuntimeException", "java/lang/Exception"]).filter goodWord)
def wsL_law0_r1 : List Cond := [Cond.classLink RL 9 RX4, Cond.instantiable RX4 9, Cond.initialized RX4, Cond.constant RL 53 (-1000000001), Cond.constant RL 137 (90000), Cond.methodLink RL 120 yX4_init, Cond.instanceMethod yX4_init, Cond.code yX4_init cX4_init 2 none, Cond.methodLink RX4 3 objectInit, Cond.instanceMethod objectInit, Cond.code objectInit ⟨#[0xb1]⟩ 1 none, Cond.classLink RX4 9 RX3, Cond.fieldLink RX4 11 "TermBill" "students" "[LTermBill$Student;", Cond.arrayClass .int, Cond.fieldLink RX4 15 "TermBill" "rates" "[I", Cond.fieldLink RX4 19 "TermBill" "shares" "[I", Cond.fieldLink RX4 22 "TermBill" "bandFrom" "I", Cond.fieldLink RX4 26 "TermBill" "bandTo" "I", Cond.fieldLink RX4 29 "TermBill" "lateFee" "I", Cond.fieldLink RX4 32 "TermBill" "holdLimit" "I", Cond.fieldLink RX4 35 "TermBill" "week" "I", Cond.fieldLink RX4 38 "TermBill" "term" "I", Cond.instantiable RX3 11, Cond.initialized RX3]
def wsL_law0_r2 : List Cond := [Cond.instanceMethod yX3_init, Cond.code yX3_init cX3_init 1 none, Cond.methodLink RX3 1 objectInit, Cond.classLink RX3 7 RX1, Cond.instantiable RX1 3, Cond.initialized RX1, Cond.fieldLink RX3 10 "TermBill$Student" "courses" "LTermBill$Courses;", Cond.classLink RX3 16 RX0, Cond.instantiable RX0 4, Cond.initialized RX0, Cond.fieldLink RX3 19 "TermBill$Student" "aid" "LTermBill$Aid;", Cond.classLink RX3 23 RX2, Cond.instantiable RX2 5, Cond.initialized RX2, Cond.fieldLink RX3 26 "TermBill$Student" "instalments" "LTermBill$Instalments;", Cond.fieldLink RX3 30 "TermBill$Student" "level" "I", Cond.fieldLink RX3 34 "TermBill$Student" "isResident" "Z", Cond.fieldLink RX3 38 "TermBill$Student" "need" "I", Cond.fieldLink RX3 41 "TermBill$Student" "fees" "I", Cond.fieldLink RX3 44 "TermBill$Student" "housing" "I", Cond.fieldLink RX3 47 "TermBill$Student" "sponsorKinds" "I", Cond.fieldLink RX3 50 "TermBill$Student" "sponsorLimit" "I", Cond.fieldLink RX3 53 "TermBill$Student" "paidSum" "I", Cond.instanceMethod yX1_init]
def wsL_law0_r3 : List Cond := [Cond.code yX1_init cX1_init 1 none, Cond.methodLink RX1 3 objectInit, Cond.fieldLink RX1 9 "TermBill$Courses" "creditsByCourse" "[I", Cond.fieldLink RX1 15 "TermBill$Courses" "taken" "I", Cond.fieldLink RX1 19 "TermBill$Courses" "keptSum" "I", Cond.instanceMethod yX0_init, Cond.code yX0_init cX0_init 1 none, Cond.methodLink RX0 3 objectInit, Cond.fieldLink RX0 9 "TermBill$Aid" "ranks" "[I", Cond.fieldLink RX0 15 "TermBill$Aid" "amounts" "[I", Cond.fieldLink RX0 18 "TermBill$Aid" "uses" "[I", Cond.fieldLink RX0 21 "TermBill$Aid" "many" "I", Cond.instanceMethod yX2_init, Cond.code yX2_init cX2_init 1 none, Cond.methodLink RX2 3 objectInit, Cond.fieldLink RX2 9 "TermBill$Instalments" "madeAt" "I", Cond.fieldLink RX2 15 "TermBill$Instalments" "many" "I", Cond.fieldLink RX2 18 "TermBill$Instalments" "first" "I", Cond.fieldLink RX2 21 "TermBill$Instalments" "each" "I", Cond.fieldLink RX2 24 "TermBill$Instalments" "paidSince" "I", Cond.methodLink RX4 42 yJ7_fill_53178, Cond.static yJ7_fill_53178, Cond.initialized RJ7, Cond.code yJ7_fill_53178 cJ7_fill_53178 4 none]
def wsL_law0_r4 : List Cond := [Cond.methodLink RL 121 yL_cell, Cond.static yL_cell, Cond.initialized RL, Cond.code yL_cell cL_cell 2 (some .int), Cond.methodLink RL 125 yL_act, Cond.static yL_act, Cond.code yL_act cL_act 8 (some .int), Cond.constant RL 79 (1100000), Cond.constant RL 80 (1000000), Cond.constant RL 81 (50000), Cond.constant RL 82 (110000), Cond.constant RL 83 (100001), Cond.constant RL 87 (1000001), Cond.methodLink RL 76 yL_low, Cond.static yL_low, Cond.code yL_low cL_low 2 (some .int), Cond.constant RL 7 (2147483647), Cond.methodLink RL 84 yL_does, Cond.static yL_does, Cond.codeWith yL_does cL_does 6 (some .int) [(0, 176, 177, 51), (0, 176, 182, 54), (0, 176, 187, 56)], Cond.classLink RL 51 "java/lang/IndexOutOfBoundsException", Cond.classLink RL 54 "java/lang/IllegalArgumentException", Cond.classLink RL 56 "java/lang/IllegalStateException", Cond.methodLink RL 8 yX4_setRate]
def wsL_law0_r5 : List Cond := [Cond.instanceMethod yX4_setRate, Cond.selects RX4 yX4_setRate yX4_setRate, Cond.code yX4_setRate cX4_setRate 6 (some .int), Cond.classLink RX4 57 "java/lang/IllegalArgumentException", Cond.initialized "java/lang/IllegalArgumentException", Cond.constant RX4 52 (100000), Cond.methodLink RX4 48 yX4_placeOfRate, Cond.static yX4_placeOfRate, Cond.code yX4_placeOfRate cX4_placeOfRate 2 (some .int), Cond.methodLink RX4 53 yX4_isWithin, Cond.static yX4_isWithin, Cond.code yX4_isWithin cX4_isWithin 3 (some .boolean), Cond.methodLink RL 14 yL_sets, Cond.static yL_sets, Cond.code yL_sets cL_sets 5 (some .int), Cond.methodLink RL 58 yX4_setBand, Cond.instanceMethod yX4_setBand, Cond.selects RX4 yX4_setBand yX4_setBand, Cond.code yX4_setBand cX4_setBand 3 none, Cond.methodLink RL 62 yX4_setFees, Cond.instanceMethod yX4_setFees, Cond.selects RX4 yX4_setFees yX4_setFees, Cond.code yX4_setFees cX4_setFees 3 none, Cond.constant RX4 68 (1000000)]
def wsL_law0_r6 : List Cond := [Cond.methodLink RL 65 yX4_setStudent, Cond.instanceMethod yX4_setStudent, Cond.selects RX4 yX4_setStudent yX4_setStudent, Cond.code yX4_setStudent cX4_setStudent 6 none, Cond.fieldLink RX4 77 "TermBill$Student" "level" "I", Cond.fieldLink RX4 80 "TermBill$Student" "isResident" "Z", Cond.fieldLink RX4 84 "TermBill$Student" "need" "I", Cond.methodLink RX4 71 yX4_studentAt, Cond.instanceMethod yX4_studentAt, Cond.selects RX4 yX4_studentAt yX4_studentAt, Cond.code yX4_studentAt cX4_studentAt 3 (some (.object "TermBill$Student")), Cond.classLink RX4 116 "java/lang/IndexOutOfBoundsException", Cond.initialized "java/lang/IndexOutOfBoundsException", Cond.methodLink RL 69 yX4_setSponsor, Cond.instanceMethod yX4_setSponsor, Cond.selects RX4 yX4_setSponsor yX4_setSponsor, Cond.code yX4_setSponsor cX4_setSponsor 5 none, Cond.fieldLink RX4 89 "TermBill$Student" "sponsorKinds" "I", Cond.fieldLink RX4 92 "TermBill$Student" "sponsorLimit" "I", Cond.methodLink RL 20 yX4_setShare, Cond.instanceMethod yX4_setShare, Cond.selects RX4 yX4_setShare yX4_setShare, Cond.code yX4_setShare cX4_setShare 4 (some .int), Cond.methodLink RL 24 yX4_take]
def wsL_law0_r7 : List Cond := [Cond.instanceMethod yX4_take, Cond.selects RX4 yX4_take yX4_take, Cond.code yX4_take cX4_take 5 (some .int), Cond.classLink RX4 107 "java/lang/IllegalStateException", Cond.initialized "java/lang/IllegalStateException", Cond.fieldLink RX4 97 "TermBill$Student" "courses" "LTermBill$Courses;", Cond.methodLink RX4 101 yX1_add, Cond.instanceMethod yX1_add, Cond.selects RX1 yX1_add yX1_add, Cond.code yX1_add cX1_add 2 (some .int), Cond.methodLink RL 27 yX4_drop, Cond.instanceMethod yX4_drop, Cond.selects RX4 yX4_drop yX4_drop, Cond.code yX4_drop cX4_drop 4 (some .int), Cond.methodLink RX4 112 yX1_has, Cond.instanceMethod yX1_has, Cond.selects RX1 yX1_has yX1_has, Cond.code yX1_has cX1_has 2 (some .boolean), Cond.methodLink RX4 121 yX1_creditsOf, Cond.instanceMethod yX1_creditsOf, Cond.selects RX1 yX1_creditsOf yX1_creditsOf, Cond.code yX1_creditsOf cX1_creditsOf 2 (some .int), Cond.methodLink RX4 126 yX4_dropCourse, Cond.instanceMethod yX4_dropCourse]
def wsL_law0_r8 : List Cond := [Cond.selects RX4 yX4_dropCourse yX4_dropCourse, Cond.code yX4_dropCourse cX4_dropCourse 7 (some .int), Cond.fieldLink RX4 237 "TermBill$Courses" "keptSum" "I", Cond.methodLink RX4 225 yX4_rateAt, Cond.instanceMethod yX4_rateAt, Cond.selects RX4 yX4_rateAt yX4_rateAt, Cond.code yX4_rateAt cX4_rateAt 2 (some .int), Cond.methodLink RX4 199 yX1_total, Cond.instanceMethod yX1_total, Cond.selects RX1 yX1_total yX1_total, Cond.code yX1_total cX1_total 3 (some .int), Cond.methodLink RX4 228 yX4_priceOf, Cond.instanceMethod yX4_priceOf, Cond.selects RX4 yX4_priceOf yX4_priceOf, Cond.code yX4_priceOf cX4_priceOf 3 (some .int), Cond.methodLink RX4 231 yX1_remove, Cond.instanceMethod yX1_remove, Cond.selects RX1 yX1_remove yX1_remove, Cond.code yX1_remove cX1_remove 2 none, Cond.methodLink RX4 234 yX4_shareNow, Cond.instanceMethod yX4_shareNow, Cond.selects RX4 yX4_shareNow yX4_shareNow, Cond.code yX4_shareNow cX4_shareNow 1 (some .int), Cond.methodLink RL 30 yX4_charge]
def wsL_law0_r9 : List Cond := [Cond.instanceMethod yX4_charge, Cond.selects RX4 yX4_charge yX4_charge, Cond.code yX4_charge cX4_charge 5 (some .int), Cond.fieldLink RX4 132 "TermBill$Student" "fees" "I", Cond.fieldLink RX4 135 "TermBill$Student" "housing" "I", Cond.methodLink RL 34 yX4_award, Cond.instanceMethod yX4_award, Cond.selects RX4 yX4_award yX4_award, Cond.code yX4_award cX4_award 6 (some .int), Cond.fieldLink RX4 140 "TermBill$Student" "aid" "LTermBill$Aid;", Cond.methodLink RX4 144 yX0_add, Cond.instanceMethod yX0_add, Cond.selects RX0 yX0_add yX0_add, Cond.code yX0_add cX0_add 3 (some .int), Cond.methodLink RL 37 yX4_pay, Cond.instanceMethod yX4_pay, Cond.selects RX4 yX4_pay yX4_pay, Cond.code yX4_pay cX4_pay 4 (some .int), Cond.fieldLink RX4 153 "TermBill$Student" "paidSum" "I", Cond.fieldLink RX4 156 "TermBill$Student" "instalments" "LTermBill$Instalments;", Cond.fieldLink RX4 160 "TermBill$Instalments" "paidSince" "I", Cond.methodLink RX4 165 yX4_balanceOf, Cond.instanceMethod yX4_balanceOf, Cond.selects RX4 yX4_balanceOf yX4_balanceOf]
def wsL_law0_r10 : List Cond := [Cond.code yX4_balanceOf cX4_balanceOf 3 (some .int), Cond.methodLink RX4 211 yX4_unsponsored, Cond.instanceMethod yX4_unsponsored, Cond.selects RX4 yX4_unsponsored yX4_unsponsored, Cond.code yX4_unsponsored cX4_unsponsored 2 (some .int), Cond.methodLink RX4 202 yX4_chargesOf, Cond.instanceMethod yX4_chargesOf, Cond.selects RX4 yX4_chargesOf yX4_chargesOf, Cond.code yX4_chargesOf cX4_chargesOf 5 (some .int), Cond.methodLink RX4 205 yX4_sponsorPart, Cond.instanceMethod yX4_sponsorPart, Cond.selects RX4 yX4_sponsorPart yX4_sponsorPart, Cond.code yX4_sponsorPart cX4_sponsorPart 2 (some .int), Cond.methodLink RX4 240 Lib.Math.min.name, Cond.static Lib.Math.min.name, Cond.initialized "java/lang/Math", Cond.code Lib.Math.min.name Lib.Math.min.code 2 (some .int), Cond.methodLink RX4 214 yX0_cover, Cond.instanceMethod yX0_cover, Cond.selects RX0 yX0_cover yX0_cover, Cond.code yX0_cover cX0_cover 8 (some .int), Cond.methodLink RX0 25 Lib.Math.min.name, Cond.methodLink RL 40 yX4_plan, Cond.instanceMethod yX4_plan]
def wsL_law0_r11 : List Cond := [Cond.selects RX4 yX4_plan yX4_plan, Cond.code yX4_plan cX4_plan 7 (some .int), Cond.methodLink RX4 173 yX4_weekNumber, Cond.instanceMethod yX4_weekNumber, Cond.selects RX4 yX4_weekNumber yX4_weekNumber, Cond.code yX4_weekNumber cX4_weekNumber 1 (some .int), Cond.methodLink RX4 177 yX2_start, Cond.instanceMethod yX2_start, Cond.selects RX2 yX2_start yX2_start, Cond.code yX2_start cX2_start 5 none, Cond.methodLink RL 43 yX4_leave, Cond.instanceMethod yX4_leave, Cond.selects RX4 yX4_leave yX4_leave, Cond.code yX4_leave cX4_leave 4 (some .int), Cond.methodLink RX4 181 yX0_total, Cond.instanceMethod yX0_total, Cond.selects RX0 yX0_total yX0_total, Cond.code yX0_total cX0_total 3 (some .int), Cond.methodLink RX4 184 yX4_aidToGiveBack, Cond.instanceMethod yX4_aidToGiveBack, Cond.selects RX4 yX4_aidToGiveBack yX4_aidToGiveBack, Cond.code yX4_aidToGiveBack cX4_aidToGiveBack 2 (some .int), Cond.methodLink RX4 187 yX0_takeOff, Cond.instanceMethod yX0_takeOff]
def wsL_law0_r12 : List Cond := [Cond.selects RX0 yX0_takeOff yX0_takeOff, Cond.code yX0_takeOff cX0_takeOff 6 none, Cond.methodLink RL 47 yX4_closeWeek, Cond.instanceMethod yX4_closeWeek, Cond.selects RX4 yX4_closeWeek yX4_closeWeek, Cond.code yX4_closeWeek cX4_closeWeek 1 (some .int), Cond.methodLink RX4 193 yX4_endTerm, Cond.instanceMethod yX4_endTerm, Cond.selects RX4 yX4_endTerm yX4_endTerm, Cond.code yX4_endTerm cX4_endTerm 7 none, Cond.methodLink RX4 245 yX4_carriedTo, Cond.static yX4_carriedTo, Cond.code yX4_carriedTo cX4_carriedTo 2 (some .int), Cond.methodLink RX4 248 yX3_beginTerm, Cond.instanceMethod yX3_beginTerm, Cond.selects RX3 yX3_beginTerm yX3_beginTerm, Cond.code yX3_beginTerm cX3_beginTerm 2 none, Cond.methodLink RX3 60 Lib.Math.max.name, Cond.static Lib.Math.max.name, Cond.code Lib.Math.max.name Lib.Math.max.code 2 (some .int), Cond.methodLink RX3 56 yX1_clear, Cond.instanceMethod yX1_clear, Cond.selects RX1 yX1_clear yX1_clear, Cond.code yX1_clear cX1_clear 1 none]
def wsL_law0_r13 : List Cond := [Cond.methodLink RX1 22 yJ7_fill_53178, Cond.methodLink RX3 59 yX0_clear, Cond.instanceMethod yX0_clear, Cond.selects RX0 yX0_clear yX0_clear, Cond.code yX0_clear cX0_clear 1 none, Cond.methodLink RX0 31 yJ7_fill_53178, Cond.methodLink RX4 196 yX4_chargeLateFees, Cond.instanceMethod yX4_chargeLateFees, Cond.selects RX4 yX4_chargeLateFees yX4_chargeLateFees, Cond.code yX4_chargeLateFees cX4_chargeLateFees 3 none, Cond.methodLink RX4 251 yX2_isLateAt, Cond.instanceMethod yX2_isLateAt, Cond.selects RX2 yX2_isLateAt yX2_isLateAt, Cond.code yX2_isLateAt cX2_isLateAt 4 (some .boolean), Cond.methodLink RL 129 yL_isOnce, Cond.static yL_isOnce, Cond.code yL_isOnce cL_isOnce 6 (some .boolean), Cond.methodLink RL 97 yX4_charged, Cond.instanceMethod yX4_charged, Cond.selects RX4 yX4_charged yX4_charged, Cond.code yX4_charged cX4_charged 4 (some .int), Cond.methodLink RL 100 yX4_sponsored, Cond.instanceMethod yX4_sponsored, Cond.selects RX4 yX4_sponsored yX4_sponsored]
def wsL_law0_r14 : List Cond := [Cond.code yX4_sponsored cX4_sponsored 2 (some .int), Cond.methodLink RL 94 yX4_credits, Cond.instanceMethod yX4_credits, Cond.selects RX4 yX4_credits yX4_credits, Cond.code yX4_credits cX4_credits 2 (some .int), Cond.methodLink RL 113 yL_used, Cond.static yL_used, Cond.codeWith yL_used cL_used 4 (some .int) [(0, 6, 7, 51)], Cond.methodLink RL 73 yX4_used, Cond.instanceMethod yX4_used, Cond.selects RX4 yX4_used yX4_used, Cond.code yX4_used cX4_used 4 (some .int), Cond.methodLink RX4 208 yX0_has, Cond.instanceMethod yX0_has, Cond.selects RX0 yX0_has yX0_has, Cond.code yX0_has cX0_has 2 (some .boolean), Cond.methodLink RX4 217 yX0_useOf, Cond.instanceMethod yX0_useOf, Cond.selects RX0 yX0_useOf yX0_useOf, Cond.code yX0_useOf cX0_useOf 2 (some .int), Cond.methodLink RL 116 yX4_amountOf, Cond.instanceMethod yX4_amountOf, Cond.selects RX4 yX4_amountOf yX4_amountOf, Cond.code yX4_amountOf cX4_amountOf 4 (some .int)]
def wsL_law0_r15 : List Cond := [Cond.methodLink RX4 220 yX0_sumOf, Cond.instanceMethod yX0_sumOf, Cond.selects RX0 yX0_sumOf yX0_sumOf, Cond.code yX0_sumOf cX0_sumOf 2 (some .int), Cond.methodLink RL 106 yX4_owed, Cond.instanceMethod yX4_owed, Cond.selects RX4 yX4_owed yX4_owed, Cond.code yX4_owed cX4_owed 2 (some .int), Cond.methodLink RL 103 yX4_paid, Cond.instanceMethod yX4_paid, Cond.selects RX4 yX4_paid yX4_paid, Cond.code yX4_paid cX4_paid 2 (some .int), Cond.methodLink RL 109 yX4_hasHold, Cond.instanceMethod yX4_hasHold, Cond.selects RX4 yX4_hasHold yX4_hasHold, Cond.code yX4_hasHold cX4_hasHold 2 (some .boolean), Cond.methodLink RL 133 yL_areAlike, Cond.static yL_areAlike, Cond.code yL_areAlike cL_areAlike 4 (some .boolean), Cond.methodLink RL 88 yX4_week, Cond.instanceMethod yX4_week, Cond.selects RX4 yX4_week yX4_week, Cond.code yX4_week cX4_week 1 (some .int), Cond.methodLink RL 91 yX4_term]
def wsL_law0_r16 : List Cond := [Cond.instanceMethod yX4_term, Cond.selects RX4 yX4_term yX4_term, Cond.code yX4_term cX4_term 1 (some .int), Cond.methodLink RL 138 yL_isPaidSo, Cond.static yL_isPaidSo, Cond.code yL_isPaidSo cL_isPaidSo 8 (some .boolean), Cond.methodLink RL 142 yL_isDroppedSo, Cond.static yL_isDroppedSo, Cond.code yL_isDroppedSo cL_isDroppedSo 10 (some .boolean), Cond.methodLink RL 145 yL_isClosedSo, Cond.static yL_isClosedSo, Cond.code yL_isClosedSo cL_isClosedSo 9 (some .boolean), Cond.constant RL 119 (200000)]
def wsL_law0 : List Cond := (wsL_law0_r1 ++ (wsL_law0_r2 ++ (wsL_law0_r3 ++ (wsL_law0_r4 ++ (wsL_law0_r5 ++ (wsL_law0_r6 ++ (wsL_law0_r7 ++ (wsL_law0_r8 ++ (wsL_law0_r9 ++ (wsL_law0_r10 ++ (wsL_law0_r11 ++ (wsL_law0_r12 ++ (wsL_law0_r13 ++ (wsL_law0_r14 ++ (wsL_law0_r15 ++ wsL_law0_r16))))))))))))))) ++ wsX40 ++ wsX30 ++ wsX10 ++ wsX00 ++ wsX20 ++ ([] : List Cond)
def wsL_law : List Cond := wsL_law0 ++ (vx_atS RX4 61 "java/lang/IllegalArgumentException" ["java/lang/RuntimeException", "java/lang/Exception"]).filter goodWord ++ (vx_atS RX4 120 "java/lang/IndexOutOfBoundsException" ["java/lang/RuntimeException", "java/lang/Exception"]).filter goodWord ++ (vx_atS RX4 111 "java/lang/IllegalStateException" ["java/lang/RuntimeException", "java/lang/Exception"]).filter goodWord
abbrev vwCl : List vw_C := [(RX0, TX0, 4), (RX1, TX1, 3), (RX2, TX2, 5), (RX3, TX3, 11), (RX4, TX4, 9)]
