section
-- ===== PART A: goes FIRST, ahead of the names: the tables' words, and 'selects' of the private methods out of them =====
/-- a private method of a class that the tables say can be made, by its rows of tables_1 -/
def lw_okq (q : MethodName × Nat) : Prop := (q.1.cls ≠ "java/lang/invoke/MethodHandle" ∧ q.1.cls ≠ "java/lang/invoke/VarHandle") ∧ Cond.instantiable q.1.cls q.2 ∈ tables_1 ∧ Cond.privateMethod q.1 ∈ tables_1 ∧ Cond.instanceMethod q.1 ∈ tables_1
theorem lw_p0 : lw_okq (⟨"java/lang/Throwable", "fillInStackTrace", "(I)Ljava/lang/Throwable;"⟩, 6) := ⟨⟨by decide +kernel, by decide +kernel⟩, List.mem_of_getElem? (i := 228) (by decide +kernel), List.mem_of_getElem? (i := 226) (by decide +kernel), List.mem_of_getElem? (i := 227) (by decide +kernel)⟩
theorem lw_p1 : lw_okq (⟨"TermBill", "studentAt", "(I)LTermBill$Student;"⟩, 9) := ⟨⟨by decide +kernel, by decide +kernel⟩, List.mem_of_getElem? (i := 16) (by decide +kernel), List.mem_of_getElem? (i := 291) (by decide +kernel), List.mem_of_getElem? (i := 292) (by decide +kernel)⟩
theorem lw_p2 : lw_okq (⟨"TermBill", "dropCourse", "(LTermBill$Student;I)I"⟩, 9) := ⟨⟨by decide +kernel, by decide +kernel⟩, List.mem_of_getElem? (i := 16) (by decide +kernel), List.mem_of_getElem? (i := 366) (by decide +kernel), List.mem_of_getElem? (i := 367) (by decide +kernel)⟩
theorem lw_p3 : lw_okq (⟨"TermBill", "rateAt", "(I)I"⟩, 9) := ⟨⟨by decide +kernel, by decide +kernel⟩, List.mem_of_getElem? (i := 16) (by decide +kernel), List.mem_of_getElem? (i := 370) (by decide +kernel), List.mem_of_getElem? (i := 371) (by decide +kernel)⟩
theorem lw_p4 : lw_okq (⟨"TermBill", "priceOf", "(II)I"⟩, 9) := ⟨⟨by decide +kernel, by decide +kernel⟩, List.mem_of_getElem? (i := 16) (by decide +kernel), List.mem_of_getElem? (i := 378) (by decide +kernel), List.mem_of_getElem? (i := 379) (by decide +kernel)⟩
theorem lw_p5 : lw_okq (⟨"TermBill", "shareNow", "()I"⟩, 9) := ⟨⟨by decide +kernel, by decide +kernel⟩, List.mem_of_getElem? (i := 16) (by decide +kernel), List.mem_of_getElem? (i := 386) (by decide +kernel), List.mem_of_getElem? (i := 387) (by decide +kernel)⟩
theorem lw_p6 : lw_okq (⟨"TermBill", "balanceOf", "(LTermBill$Student;)I"⟩, 9) := ⟨⟨by decide +kernel, by decide +kernel⟩, List.mem_of_getElem? (i := 16) (by decide +kernel), List.mem_of_getElem? (i := 419) (by decide +kernel), List.mem_of_getElem? (i := 420) (by decide +kernel)⟩
theorem lw_p7 : lw_okq (⟨"TermBill", "unsponsored", "(LTermBill$Student;)I"⟩, 9) := ⟨⟨by decide +kernel, by decide +kernel⟩, List.mem_of_getElem? (i := 16) (by decide +kernel), List.mem_of_getElem? (i := 423) (by decide +kernel), List.mem_of_getElem? (i := 424) (by decide +kernel)⟩
theorem lw_p8 : lw_okq (⟨"TermBill", "chargesOf", "(LTermBill$Student;I)I"⟩, 9) := ⟨⟨by decide +kernel, by decide +kernel⟩, List.mem_of_getElem? (i := 16) (by decide +kernel), List.mem_of_getElem? (i := 427) (by decide +kernel), List.mem_of_getElem? (i := 428) (by decide +kernel)⟩
theorem lw_p9 : lw_okq (⟨"TermBill", "sponsorPart", "(LTermBill$Student;)I"⟩, 9) := ⟨⟨by decide +kernel, by decide +kernel⟩, List.mem_of_getElem? (i := 16) (by decide +kernel), List.mem_of_getElem? (i := 431) (by decide +kernel), List.mem_of_getElem? (i := 432) (by decide +kernel)⟩
theorem lw_p10 : lw_okq (⟨"TermBill", "weekNumber", "()I"⟩, 9) := ⟨⟨by decide +kernel, by decide +kernel⟩, List.mem_of_getElem? (i := 16) (by decide +kernel), List.mem_of_getElem? (i := 452) (by decide +kernel), List.mem_of_getElem? (i := 453) (by decide +kernel)⟩
theorem lw_p11 : lw_okq (⟨"TermBill", "aidToGiveBack", "(I)I"⟩, 9) := ⟨⟨by decide +kernel, by decide +kernel⟩, List.mem_of_getElem? (i := 16) (by decide +kernel), List.mem_of_getElem? (i := 471) (by decide +kernel), List.mem_of_getElem? (i := 472) (by decide +kernel)⟩
theorem lw_p12 : lw_okq (⟨"TermBill", "endTerm", "()V"⟩, 9) := ⟨⟨by decide +kernel, by decide +kernel⟩, List.mem_of_getElem? (i := 16) (by decide +kernel), List.mem_of_getElem? (i := 487) (by decide +kernel), List.mem_of_getElem? (i := 488) (by decide +kernel)⟩
theorem lw_p13 : lw_okq (⟨"TermBill", "chargeLateFees", "()V"⟩, 9) := ⟨⟨by decide +kernel, by decide +kernel⟩, List.mem_of_getElem? (i := 16) (by decide +kernel), List.mem_of_getElem? (i := 511) (by decide +kernel), List.mem_of_getElem? (i := 512) (by decide +kernel)⟩
theorem lw_p14 : lw_okq (⟨"TermBillModel", "holds", "(I)Z"⟩, 29) := ⟨⟨by decide +kernel, by decide +kernel⟩, List.mem_of_getElem? (i := 589) (by decide +kernel), List.mem_of_getElem? (i := 696) (by decide +kernel), List.mem_of_getElem? (i := 697) (by decide +kernel)⟩
theorem lw_p15 : lw_okq (⟨"TermBillModel", "drops", "(II)I"⟩, 29) := ⟨⟨by decide +kernel, by decide +kernel⟩, List.mem_of_getElem? (i := 589) (by decide +kernel), List.mem_of_getElem? (i := 735) (by decide +kernel), List.mem_of_getElem? (i := 736) (by decide +kernel)⟩
def lw_privs_1 : List (MethodName × Nat) := [(⟨"java/lang/Throwable", "fillInStackTrace", "(I)Ljava/lang/Throwable;"⟩, 6), (⟨"TermBill", "studentAt", "(I)LTermBill$Student;"⟩, 9), (⟨"TermBill", "dropCourse", "(LTermBill$Student;I)I"⟩, 9), (⟨"TermBill", "rateAt", "(I)I"⟩, 9), (⟨"TermBill", "priceOf", "(II)I"⟩, 9), (⟨"TermBill", "shareNow", "()I"⟩, 9), (⟨"TermBill", "balanceOf", "(LTermBill$Student;)I"⟩, 9), (⟨"TermBill", "unsponsored", "(LTermBill$Student;)I"⟩, 9), (⟨"TermBill", "chargesOf", "(LTermBill$Student;I)I"⟩, 9), (⟨"TermBill", "sponsorPart", "(LTermBill$Student;)I"⟩, 9), (⟨"TermBill", "weekNumber", "()I"⟩, 9), (⟨"TermBill", "aidToGiveBack", "(I)I"⟩, 9), (⟨"TermBill", "endTerm", "()V"⟩, 9), (⟨"TermBill", "chargeLateFees", "()V"⟩, 9), (⟨"TermBillModel", "holds", "(I)Z"⟩, 29), (⟨"TermBillModel", "drops", "(II)I"⟩, 29)]
theorem lw_r1 : ∀ q ∈ lw_privs_1, lw_okq q := List.forall_mem_cons.mpr ⟨lw_p0, List.forall_mem_cons.mpr ⟨lw_p1, List.forall_mem_cons.mpr ⟨lw_p2, List.forall_mem_cons.mpr ⟨lw_p3, List.forall_mem_cons.mpr ⟨lw_p4, List.forall_mem_cons.mpr ⟨lw_p5, List.forall_mem_cons.mpr ⟨lw_p6, List.forall_mem_cons.mpr ⟨lw_p7, List.forall_mem_cons.mpr ⟨lw_p8, List.forall_mem_cons.mpr ⟨lw_p9, List.forall_mem_cons.mpr ⟨lw_p10, List.forall_mem_cons.mpr ⟨lw_p11, List.forall_mem_cons.mpr ⟨lw_p12, List.forall_mem_cons.mpr ⟨lw_p13, List.forall_mem_cons.mpr ⟨lw_p14, List.forall_mem_cons.mpr ⟨lw_p15, fun _ h => absurd h List.not_mem_nil⟩⟩⟩⟩⟩⟩⟩⟩⟩⟩⟩⟩⟩⟩⟩⟩
theorem lw_p16 : lw_okq (⟨"TermBillModel", "creditsOf", "(I)I"⟩, 29) := ⟨⟨by decide +kernel, by decide +kernel⟩, List.mem_of_getElem? (i := 589) (by decide +kernel), List.mem_of_getElem? (i := 739) (by decide +kernel), List.mem_of_getElem? (i := 740) (by decide +kernel)⟩
theorem lw_p17 : lw_okq (⟨"TermBillModel", "price", "(II)I"⟩, 29) := ⟨⟨by decide +kernel, by decide +kernel⟩, List.mem_of_getElem? (i := 589) (by decide +kernel), List.mem_of_getElem? (i := 743) (by decide +kernel), List.mem_of_getElem? (i := 744) (by decide +kernel)⟩
theorem lw_p18 : lw_okq (⟨"TermBillModel", "chargedOf", "(II)I"⟩, 29) := ⟨⟨by decide +kernel, by decide +kernel⟩, List.mem_of_getElem? (i := 589) (by decide +kernel), List.mem_of_getElem? (i := 752) (by decide +kernel), List.mem_of_getElem? (i := 753) (by decide +kernel)⟩
theorem lw_p19 : lw_okq (⟨"TermBillModel", "owedOf", "(I)I"⟩, 29) := ⟨⟨by decide +kernel, by decide +kernel⟩, List.mem_of_getElem? (i := 589) (by decide +kernel), List.mem_of_getElem? (i := 764) (by decide +kernel), List.mem_of_getElem? (i := 765) (by decide +kernel)⟩
theorem lw_p20 : lw_okq (⟨"TermBillModel", "all", "(I)I"⟩, 29) := ⟨⟨by decide +kernel, by decide +kernel⟩, List.mem_of_getElem? (i := 589) (by decide +kernel), List.mem_of_getElem? (i := 768) (by decide +kernel), List.mem_of_getElem? (i := 769) (by decide +kernel)⟩
theorem lw_p21 : lw_okq (⟨"TermBillModel", "sponsoredOf", "(I)I"⟩, 29) := ⟨⟨by decide +kernel, by decide +kernel⟩, List.mem_of_getElem? (i := 589) (by decide +kernel), List.mem_of_getElem? (i := 772) (by decide +kernel), List.mem_of_getElem? (i := 773) (by decide +kernel)⟩
theorem lw_p22 : lw_okq (⟨"TermBillModel", "usedOf", "(II)I"⟩, 29) := ⟨⟨by decide +kernel, by decide +kernel⟩, List.mem_of_getElem? (i := 589) (by decide +kernel), List.mem_of_getElem? (i := 779) (by decide +kernel), List.mem_of_getElem? (i := 780) (by decide +kernel)⟩
theorem lw_p23 : lw_okq (⟨"TermBillModel", "endsTerm", "()V"⟩, 29) := ⟨⟨by decide +kernel, by decide +kernel⟩, List.mem_of_getElem? (i := 589) (by decide +kernel), List.mem_of_getElem? (i := 795) (by decide +kernel), List.mem_of_getElem? (i := 796) (by decide +kernel)⟩
theorem lw_p24 : lw_okq (⟨"TermBillModel", "carries", "(II)V"⟩, 29) := ⟨⟨by decide +kernel, by decide +kernel⟩, List.mem_of_getElem? (i := 589) (by decide +kernel), List.mem_of_getElem? (i := 799) (by decide +kernel), List.mem_of_getElem? (i := 800) (by decide +kernel)⟩
theorem lw_p25 : lw_okq (⟨"TermBillModel", "falls", "(I)V"⟩, 29) := ⟨⟨by decide +kernel, by decide +kernel⟩, List.mem_of_getElem? (i := 589) (by decide +kernel), List.mem_of_getElem? (i := 803) (by decide +kernel), List.mem_of_getElem? (i := 804) (by decide +kernel)⟩
theorem lw_p26 : lw_okq (⟨"TermBillModel", "isAward", "(II)Z"⟩, 29) := ⟨⟨by decide +kernel, by decide +kernel⟩, List.mem_of_getElem? (i := 589) (by decide +kernel), List.mem_of_getElem? (i := 831) (by decide +kernel), List.mem_of_getElem? (i := 832) (by decide +kernel)⟩
def lw_privs_2 : List (MethodName × Nat) := [(⟨"TermBillModel", "creditsOf", "(I)I"⟩, 29), (⟨"TermBillModel", "price", "(II)I"⟩, 29), (⟨"TermBillModel", "chargedOf", "(II)I"⟩, 29), (⟨"TermBillModel", "owedOf", "(I)I"⟩, 29), (⟨"TermBillModel", "all", "(I)I"⟩, 29), (⟨"TermBillModel", "sponsoredOf", "(I)I"⟩, 29), (⟨"TermBillModel", "usedOf", "(II)I"⟩, 29), (⟨"TermBillModel", "endsTerm", "()V"⟩, 29), (⟨"TermBillModel", "carries", "(II)V"⟩, 29), (⟨"TermBillModel", "falls", "(I)V"⟩, 29), (⟨"TermBillModel", "isAward", "(II)Z"⟩, 29)]
theorem lw_r2 : ∀ q ∈ lw_privs_2, lw_okq q := List.forall_mem_cons.mpr ⟨lw_p16, List.forall_mem_cons.mpr ⟨lw_p17, List.forall_mem_cons.mpr ⟨lw_p18, List.forall_mem_cons.mpr ⟨lw_p19, List.forall_mem_cons.mpr ⟨lw_p20, List.forall_mem_cons.mpr ⟨lw_p21, List.forall_mem_cons.mpr ⟨lw_p22, List.forall_mem_cons.mpr ⟨lw_p23, List.forall_mem_cons.mpr ⟨lw_p24, List.forall_mem_cons.mpr ⟨lw_p25, List.forall_mem_cons.mpr ⟨lw_p26, fun _ h => absurd h List.not_mem_nil⟩⟩⟩⟩⟩⟩⟩⟩⟩⟩⟩
def lw_privs : List (MethodName × Nat) := lw_privs_1 ++ (lw_privs_2)
def lw_tbl : List Cond := k2_sels lw_privs ++ tables_1
theorem lw_privs_ok : ∀ q ∈ lw_privs, lw_okq q := by
  show ∀ q ∈ lw_privs_1 ++ (lw_privs_2), lw_okq q
  exact List.forall_mem_append.mpr ⟨lw_r1, lw_r2⟩
/-! ===== BEGIN words of one list among another's, by their places ===== -/
theorem goodIn_r {big : List Cond} (ws : List Cond) (ps : List Nat) (hp : ws = ps.filterMap (fun i => big[i]?)) (h : ws.all goodWord = true) : GoodIn big ws := by
  intro w hw
  have h1 := List.all_eq_true.mp h w hw
  rw [hp] at hw
  obtain ⟨i, -, hi⟩ := List.mem_filterMap.mp hw
  have hm : w ∈ big := by first | exact List.mem_of_getElem? hi | exact List.getElem?_mem hi
  exact ⟨hm, good_of_word h1⟩
theorem goodIn_app {big a b : List Cond} (ha : GoodIn big a) (hb : GoodIn big b) : GoodIn big (a ++ b) := fun w h => (List.mem_append.mp h).elim (ha w) (hb w)
theorem goodIn_ca {big a b : List Cond} {c : Cond} (ha : GoodIn big (c :: a)) (hb : GoodIn big b) : GoodIn big (c :: (a ++ b)) := fun w h => (List.mem_cons.mp h).elim (fun e => ha w (List.mem_cons.mpr (Or.inl e))) (fun h => (List.mem_append.mp h).elim (fun h => ha w (List.mem_cons.mpr (Or.inr h))) (hb w))
theorem goodIn_sub {big ws : List Cond} (hm : ∀ w ∈ ws, w ∈ big) (h : ws.all goodWord = true) : GoodIn big ws := fun w hw => ⟨hm w hw, good_of_word (List.all_eq_true.mp h w hw)⟩
/-! ===== END ===== -/

/-! ===== BEGIN exceptions that leave a method, and their catching by the caller (launches without stack traces) ===== -/
section VXA
/-! The laws vx_back, vx_callV, vx_callS, vx_callSW, vx_throw0, vx_throwS follow proofs of the library, with one case more: JvmDerived/Free/Laws.lean (Back.of_free), Shelf42/LK1.lean (callV, callS), Shelf/KitTraced.lean (throwNew0V, throwNewS). -/
/-- where a method has thrown q: the class by its name, the cell, what was written, the world -/
def vx_T (XC : String → State → State → Prop) (st : State) (q : Addr) (t : State) (mc ms : Nat) (free : Addr → Prop) : Prop :=
  ∃ (E : String) (ce : Cell) (L : List Loc), XC E st t ∧ t.heap[q]? = some ce ∧ ce.vm = .none ∧ st.vm.findClass E = some ce.cls ∧ st.WarmedH t.vm ∧ st.sameButNew ({ t with vm := st.vm } : State) L mc ms ∧ ∀ z ∈ L, free z.base
def vx_Q (Qc : Array Value → State → Outcome → State → Prop) (XC : String → State → State → Prop) (mc ms : Nat) (free : Addr → Prop) : Array Value → State → Outcome → State → Prop := fun a st o t =>
  (Qc a st o t ∧ ∃ L, FrameEnd st o t L mc ms ∧ ∀ q ∈ L, free q.base) ∨ ∃ q, o = .threw q ∧ vx_T XC st q t mc ms free
/-- a callee that returns or throws -/
def vx_Met (l : Launch) (y : MethodName) (ws : List Cond) (rm : Room) (Pc : Array Value → State → Prop) (Qc : Array Value → State → Outcome → State → Prop) (XC : String → State → State → Prop) (mc ms : Nat) (free : Addr → Prop) : Prop :=
  MetFree l y (headSpec ws rm) Pc (fun _ _ _ _ _ => True) (vx_Q Qc XC mc ms free)
def vx_Post (XC : String → State → State → Prop) (mc ms : Nat) (free : Addr → Prop) : Pt → Array Value → Addr → Pt → Prop := fun A a q B =>
  ∃ (g : JFrame) (mk : MethodId) (t : State) (L : List Loc) (E : String) (ce : Cell), B.U.heap = t.heap ∧ B.U.vm = t.vm ∧ XC E (A.U.calling g mk a) t ∧ t.heap[q]? = some ce ∧ ce.vm = .none ∧ A.U.vm.findClass E = some ce.cls ∧ B.locs = A.locs ++ L ∧ (∀ z ∈ L, free z.base) ∧ B.cells = A.cells + mc ∧ B.slots = A.slots + ms
def vx_Back (l : Launch) (R : Room) (p : Program) (e : Env) (below : List Frame) (s : State) (sargs : Array Value) (y : MethodName) (len W9 : Nat)
    (Pre : Pt → Array Value → Prop) (Post : Pt → Array Value → Option Value → Pt → Prop) (PostX : Pt → Array Value → Addr → Pt → Prop) : Prop :=
  ∀ (m : MethodId) (meth : Method) (c : Code) (A : Pt) (g : JFrame) (ig : Instr) (mk : MethodId) (a : Array Value),
    Stand p l e R s m sargs below meth c A.U A.locs A.cells A.slots → g.method = m → g.locals.size = c.maxLocals → decode c.code g.pc = .ok (ig, len) →
    2 * g.monitorRoom + (g.stack.map fun v => v.category).sum ≤ W9 → A.U.methodNamed? y = some mk → Pre A a →
    (∃ (v : Option Value) (B : Pt), Stand p l e R s m sargs below meth c B.U B.locs B.cells B.slots ∧ Post A a v B ∧
      Steps p.tables e below (doInvoke e (A.U.setTop g) [] mk a).1 (B.U.setTop { g with pc := g.pc + len, stack := v.toList ++ g.stack })) ∨
    (∃ (q : Addr) (B : Pt), Stand p l e R s m sargs below meth c B.U B.locs B.cells B.slots ∧ PostX A a q B ∧
      Steps p.tables e below (doInvoke e (A.U.setTop g) [] mk a).1 ((B.U.setTop g).pushFrame (.throwing q)))
section Payer
variable {l : Launch} {R : Room} {p : Program} {e : Env} {below : List Frame} {s : State} {sargs : Array Value} {y : MethodName} {len W9 : Nat}
theorem vx_back {ws : List Cond} {rm : Room} {Pc : Array Value → State → Prop} {Qc : Array Value → State → Outcome → State → Prop} {XC : String → State → State → Prop} {mc ms : Nat} {free : Addr → Prop} {bytes : ByteArray} {maxL : Nat} {ret : Option FieldType}
    (hM : vx_Met l y ws rm Pc Qc XC mc ms free) (hblind : FrameBlind Pc) (hrc : rm.cells = mc) (hrs : rm.slots = ms)
    (hframes : rm.frames + 1 ≤ R.frames) (hlocals : W9 + (maxL + 11) + rm.locals ≤ R.locals)
    (hws : ∀ w ∈ ws, ∀ a' U, s.WarmedH U.vm → w.before a' U = true) (hcode : Cond.code y bytes maxL ret ∈ ws) (hinit : ∀ a' U, s.WarmedH U.vm → (Cond.initialized y.cls).before a' U = true) :
    vx_Back l R p e below s sargs y len W9 (PreOf R mc ms Pc) (PostOf Qc mc ms free) (vx_Post XC mc ms free) := by
  intro m meth c A g ig mk a X hg hsize hdg hW hn hp
  have h1 : (headSpec ws rm).pre.before a A.U = true := atoms_intro fun w hw => hws w hw _ _ X.warmed
  have h2 : (Cond.code y bytes maxL ret).before a A.U = true := hws _ hcode _ _ X.warmed
  have h3 : (Cond.initialized y.cls).before a A.U = true := hinit _ _ X.warmed
  have h4 : A.cells + (headSpec ws rm).room.cells ≤ R.cells := by rw [show (headSpec ws rm).room.cells = mc from hrc]; exact hp.1
  have h5 : A.slots + (headSpec ws rm).room.slots ≤ R.slots := by rw [show (headSpec ws rm).room.slots = ms from hrs]; exact hp.2.1
  have hPc : Pc a (A.U.calling g mk a) := hblind _ _ _ _ hp.2.2
  obtain ⟨U, Ls, c0, s0⟩ := A
  dsimp only [Pt.U, Pt.locs, Pt.cells, Pt.slots] at h1 h2 h3 h4 h5 X hn hPc ⊢
  obtain ⟨methY, cY, hmY, hcY, -, hlY, -, -, -, -⟩ := Cond.code_spec hn h2
  obtain ⟨kY, hkY, -⟩ := className_of_methodNamed hn
  have hinitY : kY.init = .initialized := Cond.initialized_spec (findClass_of_methodNamed hn) hkY h3
  have h : At U g.method c below := by rw [hg]; exact X.here
  have hlocals9 : W9 + (maxL + 11) + (headSpec ws rm).room.locals ≤ R.locals := hlocals
  have happ : (headSpec ws rm).appliesLoose y e.platform (U.calling g mk a) = true :=
    Spec.appliesLoose_calling (g := g) h hdg hn hkY hinitY
      (X.room_calling (g := g) (R' := (headSpec ws rm).room) hsize hmY hcY hframes (by rw [hlY]; omega) h4 h5) h1
  obtain ⟨mid, hmid⟩ := h.above
  have hfr : (U.setTop g).frames = (.java g :: mid) ++ below := by rw [State.frames_setTop' g h.top, hmid]; rfl
  obtain ⟨o, s₂, hsteps, -, hend, hq⟩ := Steps.callFree hM p X.admits X.cas X.clock (acts := []) hfr happ hPc trivial
  have hq' : vx_Q Qc XC mc ms free a (U.calling g mk a) o s₂ := hq
  rw [State.frames_setTop' g h.top] at hend
  obtain ⟨g₀, hg0⟩ := Option.isSome_iff_exists.mp h.top
  obtain ⟨r, hr⟩ := State.topJava?_eq_some.mp hg0
  have hr' : (({ U with heap := s₂.heap, slotsUsed := s₂.slotsUsed } : State).setVm s₂.vm).frames = .java g₀ :: r := hr
  rcases hq' with ⟨hqc, L, hfe, hL⟩ | ⟨q, rfl, E, ce, L, hx, hce, hcv, hcl, hW₂, hsm, hL⟩
  · obtain ⟨⟨v, rfl⟩, hW₂, e2, q2, q3, q4, q5, q6⟩ := id hfe
    have e3 : s₂ = ({ (U.calling g mk a).setFrames s₂.frames with heap := s₂.heap, slotsUsed := s₂.slotsUsed } : State).setVm s₂.vm := by
      have : s₂ = ({ s₂ with vm := (U.calling g mk a).vm } : State).setVm s₂.vm := rfl
      rw [e2] at this
      exact this
    obtain ⟨c₂, i₂, len₂, hc₂, hd₂, hf₂⟩ := hend
    have hW' : U.WarmedH s₂.vm := hW₂
    have hcc : c₂ = c := by
      have h1 : s₂.code? g.method = U.code? g.method := by
        rw [State.code?_eq, State.code?_eq, hW'.alike.method?]
      exact Option.some.inj (hc₂.symm.trans (h1.trans h.code))
    subst hcc
    have hlen : len₂ = len := by rw [hdg] at hd₂; cases hd₂; rfl
    subst hlen
    have hs₂ : s₂ = (({ U with heap := s₂.heap, slotsUsed := s₂.slotsUsed } : State).setVm s₂.vm).setTop { g with pc := g.pc + len₂, stack := v.toList ++ g.stack } := by
      refine e3.trans ?_
      rw [hf₂, State.calling_eq h.top, State.setFrames_setFrames, State.setTop_of_frames _ hr', hr]
      rfl
    have hsame : U.sameButNew ({ U with heap := s₂.heap, slotsUsed := s₂.slotsUsed } : State) L mc ms := by
      refine ⟨?_, q2, q3, q4, q5, q6⟩
      obtain ⟨t, ht, -⟩ := State.frames_cons hr
      show ({ U with heap := s₂.heap, slotsUsed := s₂.slotsUsed } : State) = { U.setFrames U.frames with heap := s₂.heap, slotsUsed := s₂.slotsUsed }
      rw [State.setFrames_self ht]
    subst hg
    refine Or.inl ⟨v, ⟨(({ U with heap := s₂.heap, slotsUsed := s₂.slotsUsed } : State).setVm s₂.vm), Ls ++ L, c0 + mc, s0 + ms⟩,
      ⟨X.admits, X.cas, X.clock, X.frames, X.room, X.hears, X.method, X.code, (X.here.setHeapUsed s₂.heap s₂.slotsUsed).setVm hW'.alike, X.tail, State.WarmedH.trans X.warmed hW', X.limits, X.bytes, X.same.trans (hsame.setVm s.vm)⟩,
      ⟨g, mk, s₂, L, rfl, rfl, hqc, rfl, hL, rfl, rfl⟩, ?_⟩
    show Steps p.tables e below _ ((({ U with heap := s₂.heap, slotsUsed := s₂.slotsUsed } : State).setVm s₂.vm).setTop { g with pc := g.pc + len₂, stack := v.toList ++ g.stack })
    rw [← hs₂]
    exact hsteps
  · obtain ⟨e2, q2, q3, q4, q5, q6⟩ := id hsm
    have e3 : s₂ = ({ (U.calling g mk a).setFrames s₂.frames with heap := s₂.heap, slotsUsed := s₂.slotsUsed } : State).setVm s₂.vm := by
      have : s₂ = ({ s₂ with vm := (U.calling g mk a).vm } : State).setVm s₂.vm := rfl
      rw [e2] at this
      exact this
    have hf₂ : s₂.frames = .throwing q :: .java g :: U.frames.tail := hend
    have hW' : U.WarmedH s₂.vm := hW₂
    have hs₂ : s₂ = ((({ U with heap := s₂.heap, slotsUsed := s₂.slotsUsed } : State).setVm s₂.vm).setTop g).pushFrame (.throwing q) := by
      refine e3.trans ?_
      rw [hf₂, State.calling_eq h.top, State.setFrames_setFrames, State.pushFrame, State.frames_setTop _ hr', State.setTop_of_frames _ hr', State.setFrames_setFrames, hr]
      rfl
    have hsame : U.sameButNew ({ U with heap := s₂.heap, slotsUsed := s₂.slotsUsed } : State) L mc ms := by
      refine ⟨?_, q2, q3, q4, q5, q6⟩
      obtain ⟨t, ht, -⟩ := State.frames_cons hr
      show ({ U with heap := s₂.heap, slotsUsed := s₂.slotsUsed } : State) = { U.setFrames U.frames with heap := s₂.heap, slotsUsed := s₂.slotsUsed }
      rw [State.setFrames_self ht]
    subst hg
    refine Or.inr ⟨q, ⟨(({ U with heap := s₂.heap, slotsUsed := s₂.slotsUsed } : State).setVm s₂.vm), Ls ++ L, c0 + mc, s0 + ms⟩,
      ⟨X.admits, X.cas, X.clock, X.frames, X.room, X.hears, X.method, X.code, (X.here.setHeapUsed s₂.heap s₂.slotsUsed).setVm hW'.alike, X.tail, State.WarmedH.trans X.warmed hW', X.limits, X.bytes, X.same.trans (hsame.setVm s.vm)⟩,
      ⟨g, mk, s₂, L, E, ce, rfl, rfl, hx, hce, hcv, hcl, rfl, hL, rfl, rfl⟩, ?_⟩
    show Steps p.tables e below _ (((({ U with heap := s₂.heap, slotsUsed := s₂.slotsUsed } : State).setVm s₂.vm).setTop g).pushFrame (.throwing q))
    rw [← hs₂]
    exact hsteps
end Payer
section Calls
variable {p : Program} {l : Launch} {e : Env} {R : Room} {s : State} {m : MethodId} {args : Array Value} {below : List Frame} {meth : Method} {c : Code} {T : State} {locs : List Loc} {cells slots : Nat}
theorem vx_callV (X : Stand p l e R s m args below meth c T locs cells slots) (hexec : p.tables.exec = Jvm.exec) {own C : String} {index : Nat} {y : MethodName} {bytes : ByteArray} {maxL : Nat} {ret : Option FieldType}
    (hown : s.vm.findClass own = some m.cls) (hlink : (Cond.methodLink own index y).before args s = true) (hinst : (Cond.instanceMethod y).before args s = true) (hsel : (Cond.selects C y y).before args s = true)
    (hcode : (Cond.code y bytes maxL ret).before args s = true) (hy : y.cls ≠ "java/lang/invoke/MethodHandle" ∧ y.cls ≠ "java/lang/invoke/VarHandle")
    {W9 : Nat} {Pre : Pt → Array Value → Prop} {Post : Pt → Array Value → Option Value → Pt → Prop} {PostX : Pt → Array Value → Addr → Pt → Prop} (hK : vx_Back l R p e below s args y 3 W9 Pre Post PostX)
    {b : Addr} {cellB : Cell} (hcell : T.heap[b]? = some cellB) (hobj : cellB.vm.isStatics = false) (hcls : s.vm.findClass C = some cellB.cls)
    {g : JFrame} (hg : g.method = m) (hsize : g.locals.size = c.maxLocals) {argsL rest : List Value} (hlen : ∀ sig, parseMethodDescriptor y.desc = some sig → argsL.length = sig.parameters.length)
    (hstack : g.stack = argsL.reverse ++ .ref b :: rest) (hW : 2 * g.monitorRoom + (rest.map fun v => v.category).sum ≤ W9) (hdg : decode c.code g.pc = .ok (.invokevirtual index, 3))
    (hpre : ∀ vm₁, s.WarmedH vm₁ → Pre ⟨T.setVm vm₁, locs, cells, slots⟩ (Value.ref b :: argsL).toArray) :
    (∃ (v : Option Value) (vm₁ : Vm) (B : Pt), s.WarmedH vm₁ ∧ Stand p l e R s m args below meth c B.U B.locs B.cells B.slots ∧ Post ⟨T.setVm vm₁, locs, cells, slots⟩ (Value.ref b :: argsL).toArray v B ∧
      ∀ target, Steps p.tables e below (B.U.setTop { g with pc := g.pc + 3, stack := v.toList ++ rest }) target → Steps p.tables e below (T.setTop g) target) ∨
    (∃ (q : Addr) (vm₁ : Vm) (B : Pt), s.WarmedH vm₁ ∧ Stand p l e R s m args below meth c B.U B.locs B.cells B.slots ∧ PostX ⟨T.setVm vm₁, locs, cells, slots⟩ (Value.ref b :: argsL).toArray q B ∧
      Steps p.tables e below (T.setTop g) ((B.U.setTop { g with stack := rest }).pushFrame (.throwing q))) := by
  obtain ⟨mk, methM, hnamed, hmethM, hstM, habM⟩ := Cond.instanceMethod_spec hinst
  obtain ⟨methM', cM, hmethM', -, -, -, -, -, -, hsigM⟩ := Cond.code_spec hnamed hcode
  cases hmethM.symm.trans hmethM'
  obtain ⟨c2, r2, m2, q1, q2, q3, q4, kP, hkP, hkPi⟩ := Cond.selects_spec hsel
  cases hcls.symm.trans q1
  cases (State.methodFound?_of_named hnamed hy).symm.trans q2
  cases hnamed.symm.trans q3
  have hselP : selectMethod e.platform s.vm cellB.cls mk = .method mk := by rw [Launch.admits_selectMethod X.admits]; exact q4
  obtain ⟨vm₁, X₁, hstep₁⟩ := X.invokevirtual hexec hown hlink hnamed hmethM hstM hkP hkPi hy (a := b) (cell := cellB) hcell
    (fun z h => by rw [h] at hobj; cases hobj) hselP hmethM habM hkP hkPi (g := g) hg (argsL := argsL) (rest := rest) (hlen _ hsigM) hstack hdg
  rcases hK m meth c ⟨T.setVm vm₁, locs, cells, slots⟩ { g with stack := rest } (.invokevirtual index) mk (Value.ref b :: argsL).toArray X₁ hg hsize hdg hW (X₁.named hnamed) (hpre vm₁ X₁.warmed) with ⟨v, B, X', hpost, hsteps⟩ | ⟨q, B, X', hpost, hsteps⟩
  · exact Or.inl ⟨v, vm₁, B, X₁.warmed, X', hpost, fun target h => hstep₁ _ fun acts => by rw [doInvoke_state]; exact hsteps.trans h⟩
  · exact Or.inr ⟨q, vm₁, B, X₁.warmed, X', hpost, hstep₁ _ fun acts => by rw [doInvoke_state]; exact hsteps⟩
theorem vx_callS (X : Stand p l e R s m args below meth c T locs cells slots) (hexec : p.tables.exec = Jvm.exec) {own : String} {index : Nat} {y : MethodName} {bytes : ByteArray} {maxL : Nat} {ret : Option FieldType}
    (hown : s.vm.findClass own = some m.cls) (hlink : (Cond.methodLink own index y).before args s = true) (hstat : (Cond.static y).before args s = true) (hinit : (Cond.initialized y.cls).before args s = true)
    (hcode : (Cond.code y bytes maxL ret).before args s = true) (hy : y.cls ≠ "java/lang/invoke/MethodHandle" ∧ y.cls ≠ "java/lang/invoke/VarHandle")
    {W9 : Nat} {Pre : Pt → Array Value → Prop} {Post : Pt → Array Value → Option Value → Pt → Prop} {PostX : Pt → Array Value → Addr → Pt → Prop} (hK : vx_Back l R p e below s args y 3 W9 Pre Post PostX)
    {g : JFrame} (hg : g.method = m) (hsize : g.locals.size = c.maxLocals) {argsL rest : List Value} (hlen : ∀ sig, parseMethodDescriptor y.desc = some sig → argsL.length = sig.parameters.length)
    (hstack : g.stack = argsL.reverse ++ rest) (hW : 2 * g.monitorRoom + (rest.map fun v => v.category).sum ≤ W9) (hdg : decode c.code g.pc = .ok (.invokestatic index, 3))
    (hpre : ∀ vm₁, s.WarmedH vm₁ → Pre ⟨T.setVm vm₁, locs, cells, slots⟩ argsL.toArray) :
    (∃ (v : Option Value) (vm₁ : Vm) (B : Pt), s.WarmedH vm₁ ∧ Stand p l e R s m args below meth c B.U B.locs B.cells B.slots ∧ Post ⟨T.setVm vm₁, locs, cells, slots⟩ argsL.toArray v B ∧
      ∀ target, Steps p.tables e below (B.U.setTop { g with pc := g.pc + 3, stack := v.toList ++ rest }) target → Steps p.tables e below (T.setTop g) target) ∨
    (∃ (q : Addr) (vm₁ : Vm) (B : Pt), s.WarmedH vm₁ ∧ Stand p l e R s m args below meth c B.U B.locs B.cells B.slots ∧ PostX ⟨T.setVm vm₁, locs, cells, slots⟩ argsL.toArray q B ∧
      Steps p.tables e below (T.setTop g) ((B.U.setTop { g with stack := rest }).pushFrame (.throwing q))) := by
  obtain ⟨mk, hnamed⟩ := Cond.code_named hcode
  obtain ⟨methM, cM, hmethM, -, -, -, -, -, -, hsigM⟩ := Cond.code_spec hnamed hcode
  have hstatic : methM.isStatic = true := Cond.static_spec hnamed hmethM hstat
  obtain ⟨kP, hkP, -⟩ := className_of_methodNamed hnamed
  have hinitP : kP.init = .initialized := Cond.initialized_spec (findClass_of_methodNamed hnamed) hkP hinit
  obtain ⟨vm₁, X₁, hstep₁⟩ := X.invokestatic hexec hown hlink hnamed hmethM hstatic hkP hinitP hy (g := g) hg (argsL := argsL) (rest := rest) (hlen _ hsigM) hstack hdg
  rcases hK m meth c ⟨T.setVm vm₁, locs, cells, slots⟩ { g with stack := rest } (.invokestatic index) mk argsL.toArray X₁ hg hsize hdg hW (X₁.named hnamed) (hpre vm₁ X₁.warmed) with ⟨v, B, X', hpost, hsteps⟩ | ⟨q, B, X', hpost, hsteps⟩
  · exact Or.inl ⟨v, vm₁, B, X₁.warmed, X', hpost, fun target h => hstep₁ _ fun acts => by rw [doInvoke_state]; exact hsteps.trans h⟩
  · exact Or.inr ⟨q, vm₁, B, X₁.warmed, X', hpost, hstep₁ _ fun acts => by rw [doInvoke_state]; exact hsteps⟩
end Calls
theorem vx_cls {s : State} {T : State} {vm₁ : Vm} {E : String} {k : ClassId} (hW : s.WarmedH vm₁) (h : (T.setVm vm₁).vm.findClass E = some k) : s.vm.findClass E = some k := by
  have h1 : vm₁.findClass E = some k := h
  rw [hW.alike.findClass] at h1
  exact h1
/-- the method's frame g, with q thrown over it -/
def vx_W (p : Program) (l : Launch) (e : Env) (R : Room) (s : State) (m : MethodId) (args : Array Value) (below : List Frame) (meth : Method) (c : Code) (H : Heap) (locs : List Loc) (cells slots : Nat) (Q : State → Prop) (g : JFrame) (q : Addr) : Prop :=
  ∀ T : State, T.heap = H → Stand p l e R s m args below meth c T locs cells slots → ∃ t, Steps p.tables e below ((T.setTop g).pushFrame (.throwing q)) t ∧ Q t
def vx_Run (p : Program) (l : Launch) (e : Env) (R : Room) (s : State) (m : MethodId) (args : Array Value) (below : List Frame) (meth : Method) (c : Code) (H : Heap) (locs : List Loc) (cells slots mc ms : Nat) (g : JFrame) (rest : List Value) (Qa : State → Outcome → State → Prop) (XC : String → State → State → Prop) (free : Addr → Prop) : Prop :=
  ∀ T : State, T.heap = H → Stand p l e R s m args below meth c T locs cells slots →
    (∃ (v : Option Value) (st₀ t T' : State) (L : List Loc), st₀.heap = H ∧ Stand p l e R s m args below meth c T' (locs ++ L) (cells + mc) (slots + ms) ∧ (∀ q ∈ L, free q.base) ∧ T'.heap = t.heap ∧ T'.vm = t.vm ∧ Qa st₀ (.returned v) t ∧
      Goes p e below T g T' { g with pc := g.pc + 3, stack := v.toList ++ rest }) ∨
    (∃ (q : Addr) (st₀ t T' : State) (L : List Loc) (E : String) (ce : Cell), st₀.heap = H ∧ Stand p l e R s m args below meth c T' (locs ++ L) (cells + mc) (slots + ms) ∧ (∀ z ∈ L, free z.base) ∧ T'.heap = t.heap ∧ T'.vm = t.vm ∧ XC E st₀ t ∧ t.heap[q]? = some ce ∧ ce.vm = .none ∧ s.vm.findClass E = some ce.cls ∧
      Steps p.tables e below (T.setTop g) ((T'.setTop { g with stack := rest }).pushFrame (.throwing q)))
def vx_X {S : Type} (px : S → Prop) (B : String → S → State → Prop) (A : Nat → Prop) : String → State → State → Prop := fun E st t => ∃ u : S, px u ∧ B E u t ∧ va_F A st t
section Runs
variable {p : Program} {l : Launch} {e : Env} {R : Room} {s : State} {m : MethodId} {args : Array Value} {below : List Frame} {meth : Method} {c : Code} {H : Heap} {locs : List Loc} {cells slots : Nat}
variable {y : MethodName} {bytes cc : ByteArray} {maxL nL mc ms n index : Nat} {ret : Option FieldType} {ws : List Cond} {rm : Room} {Pc : Array Value → State → Prop} {Qc : Array Value → State → Outcome → State → Prop} {XC : String → State → State → Prop} {free : Addr → Prop} {Ts : List Cond} {own C : String} {b : Addr} {As rest : List Value} {g : JFrame}
theorem vx_callBack (cb : CallB R s args own index y bytes maxL ret ws rm mc ms n) (hM : vx_Met l y ws rm Pc Qc XC mc ms free) (hbl : FrameBlind Pc) : vx_Back l R p e below s args y 3 8 (PreOf R mc ms Pc) (PostOf Qc mc ms free) (vx_Post XC mc ms free) := by
  obtain ⟨hrc, hrs, hfr, hlo, hws, hcw, -, hini, -⟩ := cb
  exact vx_back (bytes := bytes) (maxL := maxL) (ret := ret) hM hbl hrc hrs hfr hlo hws hcw (fun a' U hW => word_at hW (Or.inl (by first | rfl | simp [Cond.onTables, Cond.keeps, Cond.steady])) hini)
theorem vx_runV (S : CallFix p m c cc nL s args Ts own) (hM : vx_Met l y ws rm Pc Qc XC mc ms free) (cw : CallW R s args own C index y bytes maxL ret ws rm mc ms n) (hp : PreV s H C b Pc As)
    (hg : g.method = m) (hn : As.length = n) (hsize : g.locals.size = nL) (hstack : g.stack = As.reverse ++ .ref b :: rest) (hW : 2 * g.monitorRoom + (rest.map fun v => v.category).sum ≤ 8) (hdg : decode cc g.pc = .ok (.invokevirtual index, 3)) (hf : cells + mc ≤ R.cells ∧ slots + ms ≤ R.slots) :
    vx_Run p l e R s m args below meth c H locs cells slots mc ms g rest (Qc (Value.ref b :: As).toArray) XC free := by
  have hK : vx_Back l R p e below s args y 3 8 (PreOf R mc ms Pc) (PostOf Qc mc ms free) (vx_Post XC mc ms free) := vx_callBack cw.1 hM hp.1
  obtain ⟨⟨-, -, -, -, -, -, hcode, -, hy, hlen, hl⟩, hin, hse⟩ := cw
  obtain ⟨hx, hb, hml, ho, -⟩ := S
  obtain ⟨-, ⟨cellB, hcB, hoB, hclB⟩, hPc⟩ := hp
  intro T hT X
  rcases vx_callV X hx (C := C) (bytes := bytes) (maxL := maxL) (ret := ret) ho hl hin hse hcode hy hK (by rw [hT]; exact hcB) hoB hclB hg (hsize.trans hml.symm) (argsL := As) (rest := rest) (fun sig h => hn.trans (hlen sig h)) hstack hW (by rw [hb]; exact hdg)
    (fun vm₁ hW₁ => ⟨hf.1, hf.2, hPc (T.setVm vm₁) hT hW₁⟩) with ⟨v, vm₁, ⟨U', l2, c2, s2⟩, hW₁, X', ⟨g', mk, t, L, e1, e2, hq, h1, hL, h2, h3⟩, st⟩ | ⟨q, vm₁, ⟨U', l2, c2, s2⟩, hW₁, X', ⟨g', mk, t, L, E, ce, e1, e2, hq, hce, hcv, hcl, h1, hL, h2, h3⟩, st⟩
  · dsimp only [Pt.U, Pt.locs, Pt.cells, Pt.slots] at X' e1 e2 h1 h2 h3 st
    subst h1; subst h2; subst h3
    exact Or.inl ⟨v, (T.setVm vm₁).calling g' mk (Value.ref b :: As).toArray, t, U', L, hT, X', hL, e1, e2, hq, st⟩
  · dsimp only [Pt.U, Pt.locs, Pt.cells, Pt.slots] at X' e1 e2 h1 h2 h3 st hcl
    subst h1; subst h2; subst h3
    exact Or.inr ⟨q, (T.setVm vm₁).calling g' mk (Value.ref b :: As).toArray, t, U', L, E, ce, hT, X', hL, e1, e2, hq, hce, hcv, vx_cls hW₁ hcl, st⟩
theorem vx_runS (S : CallFix p m c cc nL s args Ts own) (hM : vx_Met l y ws rm Pc Qc XC mc ms free) (cw : CallB R s args own index y bytes maxL ret ws rm mc ms n ∧ (Cond.static y).before args s = true) (hp : PreS s H Pc As)
    (hg : g.method = m) (hn : As.length = n) (hsize : g.locals.size = nL) (hstack : g.stack = As.reverse ++ rest) (hW : 2 * g.monitorRoom + (rest.map fun v => v.category).sum ≤ 8) (hdg : decode cc g.pc = .ok (.invokestatic index, 3)) (hf : cells + mc ≤ R.cells ∧ slots + ms ≤ R.slots) :
    vx_Run p l e R s m args below meth c H locs cells slots mc ms g rest (Qc As.toArray) XC free := by
  have hK : vx_Back l R p e below s args y 3 8 (PreOf R mc ms Pc) (PostOf Qc mc ms free) (vx_Post XC mc ms free) := vx_callBack cw.1 hM hp.1
  obtain ⟨⟨-, -, -, -, -, -, hcode, hini, hy, hlen, hl⟩, hstt⟩ := cw
  obtain ⟨hx, hb, hml, ho, -⟩ := S
  intro T hT X
  rcases vx_callS X hx (bytes := bytes) (maxL := maxL) (ret := ret) ho hl hstt hini hcode hy hK hg (hsize.trans hml.symm) (argsL := As) (rest := rest) (fun sig h => hn.trans (hlen sig h)) hstack hW (by rw [hb]; exact hdg)
    (fun vm₁ hW₁ => ⟨hf.1, hf.2, hp.2 (T.setVm vm₁) hT hW₁⟩) with ⟨v, vm₁, ⟨U', l2, c2, s2⟩, hW₁, X', ⟨g', mk, t, L, e1, e2, hq, h1, hL, h2, h3⟩, st⟩ | ⟨q, vm₁, ⟨U', l2, c2, s2⟩, hW₁, X', ⟨g', mk, t, L, E, ce, e1, e2, hq, hce, hcv, hcl, h1, hL, h2, h3⟩, st⟩
  · dsimp only [Pt.U, Pt.locs, Pt.cells, Pt.slots] at X' e1 e2 h1 h2 h3 st
    subst h1; subst h2; subst h3
    exact Or.inl ⟨v, (T.setVm vm₁).calling g' mk As.toArray, t, U', L, hT, X', hL, e1, e2, hq, st⟩
  · dsimp only [Pt.U, Pt.locs, Pt.cells, Pt.slots] at X' e1 e2 h1 h2 h3 st hcl
    subst h1; subst h2; subst h3
    exact Or.inr ⟨q, (T.setVm vm₁).calling g' mk As.toArray, t, U', L, E, ce, hT, X', hL, e1, e2, hq, hce, hcv, vx_cls hW₁ hcl, st⟩
end Runs
section Rows
variable {p : Program} {l : Launch} {e : Env} {R : Room} {s : State} {m : MethodId} {args : Array Value} {below : List Frame} {meth : Method} {c : Code} {H : Heap} {locs : List Loc} {cells slots : Nat} {Q : State → Prop}
variable {mc ms : Nat} {free : Addr → Prop} {A0 A1 : Nat → Prop} {H0 : Heap} {a : Array Value} {pc : Nat} {ls : Array Slot} {st0 rest : List Value}
theorem vx_keep {st₀ t T' : State} {L : List Loc} (h0 : st₀.heap = H) (e1 : T'.heap = t.heap) (hS : va_S A0 H0 H locs) (hA : ∀ q, q < H.size → A1 q → A0 q) (hf : ∀ q, free q → A0 q) (hL : ∀ q ∈ L, free q.base) (hF : va_F A1 st₀ t) :
    H.size ≤ T'.heap.size ∧ (∀ q : Nat, q < H.size → ¬ A1 q → T'.heap[q]? = H[q]?) ∧ va_S A0 H0 T'.heap (locs ++ L) := by
  obtain ⟨hz, hk⟩ := hF
  rw [h0] at hz hk
  exact ⟨by rw [e1]; exact hz, fun q h1 h2 => by rw [e1]; exact hk q h1 h2,
    ⟨Nat.le_trans hS.1 (by rw [e1]; exact hz), fun q h1 h2 => by rw [e1, hk q (Nat.lt_of_lt_of_le h1 hS.1) (fun z => h2 (hA q (Nat.lt_of_lt_of_le h1 hS.1) z))]; exact hS.2.1 q h1 h2, fun q hq => by
      rcases List.mem_append.mp hq with h | h
      · exact hS.2.2 q h
      · exact hf _ (hL q h)⟩⟩
theorem vx_calli {S SX : Type} {post : Int32 → S → Prop} {px : SX → Prop} {B : S → State → Prop} {BX : String → SX → State → Prop} {AX : Nat → Prop} (hr : vx_Run p l e R s m args below meth c H locs cells slots mc ms (F0 m pc ls st0) rest (va_Qi post B A1 a) (vx_X px BX AX) free) (hS : va_S A0 H0 H locs) (hA : ∀ q, q < H.size → A1 q → A0 q) (hf : ∀ q, free q → A0 q) (hAX : ∀ q, q < H.size → AX q → A0 q)
    (kx : ∀ (E : String) (ce : Cell) (q9 : Addr) (u : SX) (t : State) (H1 : Heap) (locs1 : List Loc), t.heap = H1 → s.vm.Alike t.vm → px u → BX E u t → H.size ≤ H1.size → (∀ q : Nat, q < H.size → ¬ AX q → H1[q]? = H[q]?) → va_S A0 H0 H1 locs1 → H1[q9]? = some ce → ce.vm = .none → s.vm.findClass E = some ce.cls → vx_W p l e R s m args below meth c H1 locs1 (cells + mc) (slots + ms) Q (F0 m pc ls rest) q9)
    (kk : ∀ (r : Int32) (u : S) (t : State) (H1 : Heap) (locs1 : List Loc), t.heap = H1 → s.vm.Alike t.vm → post r u → B u t → H.size ≤ H1.size → (∀ q : Nat, q < H.size → ¬ A1 q → H1[q]? = H[q]?) → va_S A0 H0 H1 locs1 → W p l e R s m args below meth c H1 locs1 (cells + mc) (slots + ms) Q (F0 m (pc + 3) ls (.int r :: rest))) : W p l e R s m args below meth c H locs cells slots Q (F0 m pc ls st0) := by
  intro T hT X
  rcases hr T hT X with ⟨v, st₀, t, T', L, h0, X', hL, e1, e2, ⟨⟨r, u, hv, hp, hb⟩, hF⟩, st⟩ | ⟨q, st₀, t, T', L, E, ce, h0, X', hL, e1, e2, ⟨u, hp, hb, hF⟩, hce, hcv, hcl, st⟩
  · cases hv
    obtain ⟨k1, k2, k3⟩ := vx_keep h0 e1 hS hA hf hL hF
    obtain ⟨t2, a1, b1⟩ := kk r u t T'.heap (locs ++ L) e1.symm (by rw [← e2]; exact X'.warmed.alike) hp hb k1 k2 k3 T' rfl X'
    exact ⟨t2, st t2 a1, b1⟩
  · obtain ⟨k1, k2, k3⟩ := vx_keep h0 e1 hS hAX hf hL hF
    obtain ⟨t2, a1, b1⟩ := kx E ce q u t T'.heap (locs ++ L) e1.symm (by rw [← e2]; exact X'.warmed.alike) hp hb k1 k2 k3 (by rw [e1]; exact hce) hcv hcl T' rfl X'
    exact ⟨t2, st.trans a1, b1⟩
theorem vx_calll {S SX : Type} {post : Int64 → S → Prop} {px : SX → Prop} {B : S → State → Prop} {BX : String → SX → State → Prop} {AX : Nat → Prop} (hr : vx_Run p l e R s m args below meth c H locs cells slots mc ms (F0 m pc ls st0) rest (va_Ql post B A1 a) (vx_X px BX AX) free) (hS : va_S A0 H0 H locs) (hA : ∀ q, q < H.size → A1 q → A0 q) (hf : ∀ q, free q → A0 q) (hAX : ∀ q, q < H.size → AX q → A0 q)
    (kx : ∀ (E : String) (ce : Cell) (q9 : Addr) (u : SX) (t : State) (H1 : Heap) (locs1 : List Loc), t.heap = H1 → s.vm.Alike t.vm → px u → BX E u t → H.size ≤ H1.size → (∀ q : Nat, q < H.size → ¬ AX q → H1[q]? = H[q]?) → va_S A0 H0 H1 locs1 → H1[q9]? = some ce → ce.vm = .none → s.vm.findClass E = some ce.cls → vx_W p l e R s m args below meth c H1 locs1 (cells + mc) (slots + ms) Q (F0 m pc ls rest) q9)
    (kk : ∀ (r : Int64) (u : S) (t : State) (H1 : Heap) (locs1 : List Loc), t.heap = H1 → s.vm.Alike t.vm → post r u → B u t → H.size ≤ H1.size → (∀ q : Nat, q < H.size → ¬ A1 q → H1[q]? = H[q]?) → va_S A0 H0 H1 locs1 → W p l e R s m args below meth c H1 locs1 (cells + mc) (slots + ms) Q (F0 m (pc + 3) ls (.long r :: rest))) : W p l e R s m args below meth c H locs cells slots Q (F0 m pc ls st0) := by
  intro T hT X
  rcases hr T hT X with ⟨v, st₀, t, T', L, h0, X', hL, e1, e2, ⟨⟨r, u, hv, hp, hb⟩, hF⟩, st⟩ | ⟨q, st₀, t, T', L, E, ce, h0, X', hL, e1, e2, ⟨u, hp, hb, hF⟩, hce, hcv, hcl, st⟩
  · cases hv
    obtain ⟨k1, k2, k3⟩ := vx_keep h0 e1 hS hA hf hL hF
    obtain ⟨t2, a1, b1⟩ := kk r u t T'.heap (locs ++ L) e1.symm (by rw [← e2]; exact X'.warmed.alike) hp hb k1 k2 k3 T' rfl X'
    exact ⟨t2, st t2 a1, b1⟩
  · obtain ⟨k1, k2, k3⟩ := vx_keep h0 e1 hS hAX hf hL hF
    obtain ⟨t2, a1, b1⟩ := kx E ce q u t T'.heap (locs ++ L) e1.symm (by rw [← e2]; exact X'.warmed.alike) hp hb k1 k2 k3 (by rw [e1]; exact hce) hcv hcl T' rfl X'
    exact ⟨t2, st.trans a1, b1⟩
theorem vx_callf {S SX : Type} {post : UInt32 → S → Prop} {px : SX → Prop} {B : S → State → Prop} {BX : String → SX → State → Prop} {AX : Nat → Prop} (hr : vx_Run p l e R s m args below meth c H locs cells slots mc ms (F0 m pc ls st0) rest (va_Qf post B A1 a) (vx_X px BX AX) free) (hS : va_S A0 H0 H locs) (hA : ∀ q, q < H.size → A1 q → A0 q) (hf : ∀ q, free q → A0 q) (hAX : ∀ q, q < H.size → AX q → A0 q)
    (kx : ∀ (E : String) (ce : Cell) (q9 : Addr) (u : SX) (t : State) (H1 : Heap) (locs1 : List Loc), t.heap = H1 → s.vm.Alike t.vm → px u → BX E u t → H.size ≤ H1.size → (∀ q : Nat, q < H.size → ¬ AX q → H1[q]? = H[q]?) → va_S A0 H0 H1 locs1 → H1[q9]? = some ce → ce.vm = .none → s.vm.findClass E = some ce.cls → vx_W p l e R s m args below meth c H1 locs1 (cells + mc) (slots + ms) Q (F0 m pc ls rest) q9)
    (kk : ∀ (r : UInt32) (u : S) (t : State) (H1 : Heap) (locs1 : List Loc), t.heap = H1 → s.vm.Alike t.vm → post r u → B u t → H.size ≤ H1.size → (∀ q : Nat, q < H.size → ¬ A1 q → H1[q]? = H[q]?) → va_S A0 H0 H1 locs1 → W p l e R s m args below meth c H1 locs1 (cells + mc) (slots + ms) Q (F0 m (pc + 3) ls (.float r :: rest))) : W p l e R s m args below meth c H locs cells slots Q (F0 m pc ls st0) := by
  intro T hT X
  rcases hr T hT X with ⟨v, st₀, t, T', L, h0, X', hL, e1, e2, ⟨⟨r, u, hv, hp, hb⟩, hF⟩, st⟩ | ⟨q, st₀, t, T', L, E, ce, h0, X', hL, e1, e2, ⟨u, hp, hb, hF⟩, hce, hcv, hcl, st⟩
  · cases hv
    obtain ⟨k1, k2, k3⟩ := vx_keep h0 e1 hS hA hf hL hF
    obtain ⟨t2, a1, b1⟩ := kk r u t T'.heap (locs ++ L) e1.symm (by rw [← e2]; exact X'.warmed.alike) hp hb k1 k2 k3 T' rfl X'
    exact ⟨t2, st t2 a1, b1⟩
  · obtain ⟨k1, k2, k3⟩ := vx_keep h0 e1 hS hAX hf hL hF
    obtain ⟨t2, a1, b1⟩ := kx E ce q u t T'.heap (locs ++ L) e1.symm (by rw [← e2]; exact X'.warmed.alike) hp hb k1 k2 k3 (by rw [e1]; exact hce) hcv hcl T' rfl X'
    exact ⟨t2, st.trans a1, b1⟩
theorem vx_calld {S SX : Type} {post : UInt64 → S → Prop} {px : SX → Prop} {B : S → State → Prop} {BX : String → SX → State → Prop} {AX : Nat → Prop} (hr : vx_Run p l e R s m args below meth c H locs cells slots mc ms (F0 m pc ls st0) rest (va_Qd post B A1 a) (vx_X px BX AX) free) (hS : va_S A0 H0 H locs) (hA : ∀ q, q < H.size → A1 q → A0 q) (hf : ∀ q, free q → A0 q) (hAX : ∀ q, q < H.size → AX q → A0 q)
    (kx : ∀ (E : String) (ce : Cell) (q9 : Addr) (u : SX) (t : State) (H1 : Heap) (locs1 : List Loc), t.heap = H1 → s.vm.Alike t.vm → px u → BX E u t → H.size ≤ H1.size → (∀ q : Nat, q < H.size → ¬ AX q → H1[q]? = H[q]?) → va_S A0 H0 H1 locs1 → H1[q9]? = some ce → ce.vm = .none → s.vm.findClass E = some ce.cls → vx_W p l e R s m args below meth c H1 locs1 (cells + mc) (slots + ms) Q (F0 m pc ls rest) q9)
    (kk : ∀ (r : UInt64) (u : S) (t : State) (H1 : Heap) (locs1 : List Loc), t.heap = H1 → s.vm.Alike t.vm → post r u → B u t → H.size ≤ H1.size → (∀ q : Nat, q < H.size → ¬ A1 q → H1[q]? = H[q]?) → va_S A0 H0 H1 locs1 → W p l e R s m args below meth c H1 locs1 (cells + mc) (slots + ms) Q (F0 m (pc + 3) ls (.double r :: rest))) : W p l e R s m args below meth c H locs cells slots Q (F0 m pc ls st0) := by
  intro T hT X
  rcases hr T hT X with ⟨v, st₀, t, T', L, h0, X', hL, e1, e2, ⟨⟨r, u, hv, hp, hb⟩, hF⟩, st⟩ | ⟨q, st₀, t, T', L, E, ce, h0, X', hL, e1, e2, ⟨u, hp, hb, hF⟩, hce, hcv, hcl, st⟩
  · cases hv
    obtain ⟨k1, k2, k3⟩ := vx_keep h0 e1 hS hA hf hL hF
    obtain ⟨t2, a1, b1⟩ := kk r u t T'.heap (locs ++ L) e1.symm (by rw [← e2]; exact X'.warmed.alike) hp hb k1 k2 k3 T' rfl X'
    exact ⟨t2, st t2 a1, b1⟩
  · obtain ⟨k1, k2, k3⟩ := vx_keep h0 e1 hS hAX hf hL hF
    obtain ⟨t2, a1, b1⟩ := kx E ce q u t T'.heap (locs ++ L) e1.symm (by rw [← e2]; exact X'.warmed.alike) hp hb k1 k2 k3 (by rw [e1]; exact hce) hcv hcl T' rfl X'
    exact ⟨t2, st.trans a1, b1⟩
theorem vx_callv {S SX : Type} {post : S → Prop} {px : SX → Prop} {B : S → State → Prop} {BX : String → SX → State → Prop} {AX : Nat → Prop} (hr : vx_Run p l e R s m args below meth c H locs cells slots mc ms (F0 m pc ls st0) rest (va_Qv post B A1 a) (vx_X px BX AX) free) (hS : va_S A0 H0 H locs) (hA : ∀ q, q < H.size → A1 q → A0 q) (hf : ∀ q, free q → A0 q) (hAX : ∀ q, q < H.size → AX q → A0 q)
    (kx : ∀ (E : String) (ce : Cell) (q9 : Addr) (u : SX) (t : State) (H1 : Heap) (locs1 : List Loc), t.heap = H1 → s.vm.Alike t.vm → px u → BX E u t → H.size ≤ H1.size → (∀ q : Nat, q < H.size → ¬ AX q → H1[q]? = H[q]?) → va_S A0 H0 H1 locs1 → H1[q9]? = some ce → ce.vm = .none → s.vm.findClass E = some ce.cls → vx_W p l e R s m args below meth c H1 locs1 (cells + mc) (slots + ms) Q (F0 m pc ls rest) q9)
    (kk : ∀ (u : S) (t : State) (H1 : Heap) (locs1 : List Loc), t.heap = H1 → s.vm.Alike t.vm → post u → B u t → H.size ≤ H1.size → (∀ q : Nat, q < H.size → ¬ A1 q → H1[q]? = H[q]?) → va_S A0 H0 H1 locs1 → W p l e R s m args below meth c H1 locs1 (cells + mc) (slots + ms) Q (F0 m (pc + 3) ls (rest))) : W p l e R s m args below meth c H locs cells slots Q (F0 m pc ls st0) := by
  intro T hT X
  rcases hr T hT X with ⟨v, st₀, t, T', L, h0, X', hL, e1, e2, ⟨⟨u, hv, hp, hb⟩, hF⟩, st⟩ | ⟨q, st₀, t, T', L, E, ce, h0, X', hL, e1, e2, ⟨u, hp, hb, hF⟩, hce, hcv, hcl, st⟩
  · cases hv
    obtain ⟨k1, k2, k3⟩ := vx_keep h0 e1 hS hA hf hL hF
    obtain ⟨t2, a1, b1⟩ := kk u t T'.heap (locs ++ L) e1.symm (by rw [← e2]; exact X'.warmed.alike) hp hb k1 k2 k3 T' rfl X'
    exact ⟨t2, st t2 a1, b1⟩
  · obtain ⟨k1, k2, k3⟩ := vx_keep h0 e1 hS hAX hf hL hF
    obtain ⟨t2, a1, b1⟩ := kx E ce q u t T'.heap (locs ++ L) e1.symm (by rw [← e2]; exact X'.warmed.alike) hp hb k1 k2 k3 (by rw [e1]; exact hce) hcv hcl T' rfl X'
    exact ⟨t2, st.trans a1, b1⟩
/-- caught by the row x of this method's table; the rows ahead don't take it -/
theorem vx_catch {own name : String} {E : String} {ce : Cell} {q : Addr} (hown : s.vm.findClass own = some m.cls) (pre : List ExceptionTableEntry) (x : ExceptionTableEntry) (suf : List ExceptionTableEntry) (hsplit : c.exceptionTable.toList = pre ++ x :: suf)
    (hpass : ∀ z ∈ pre, covers z pc = false ∨ (z.catchType ≠ 0 ∧ ∃ nm : String, (Cond.classLink own z.catchType nm).before args s = true ∧ va_Nc E nm s)) (hx : covers x pc = true) (h0 : x.catchType ≠ 0)
    (hlink : (Cond.classLink own x.catchType name).before args s = true) (hcast : (Cond.castable E name).before args s = true) (hcell : H[q]? = some ce) (hv : ce.vm = .none) (hcl : s.vm.findClass E = some ce.cls)
    (kk : W p l e R s m args below meth c H locs cells slots Q (F0 m x.handlerPc ls [.ref q])) : vx_W p l e R s m args below meth c H locs cells slots Q (F0 m pc ls rest) q := by
  intro T hT X
  have hpl : e.platform.magicAccessors = ({} : Platform).magicAccessors := by rw [X.admits.platform]
  obtain ⟨c3, c4, hc3, hc4, hasg⟩ := Cond.castable_spec hcast
  cases Option.some.inj (hc3.symm.trans hcl)
  obtain ⟨c5, hc5, hcl5⟩ := Cond.classLink_spec hown hlink e.platform hpl
  cases Option.some.inj (hc4.symm.trans hc5)
  obtain ⟨vm', X', st⟩ := X.thenCaughtThrough q (g := F0 m pc ls rest) rfl (Steps.refl _) (by rw [hT]; exact hcell) (by rw [hv]; rfl) (by obtain ⟨k9, h9, -⟩ := Vm.findClass_spec hcl; exact ⟨k9, h9⟩) pre x suf hsplit
    (fun z hz => by
      rcases hpass z hz with h | ⟨hz0, nm, hl1, hn1⟩
      · exact Or.inl h
      · obtain ⟨c6, hc6, hcl6⟩ := Cond.classLink_spec hown hl1 e.platform hpl
        obtain ⟨a8, b8, h1, h2, h3⟩ := hn1
        cases Option.some.inj (h1.symm.trans hcl)
        cases Option.some.inj (h2.symm.trans hc6)
        exact Or.inr ⟨hz0, _, hcl6, h3⟩) hx (Or.inr ⟨h0, c4, hcl5, hasg⟩)
  obtain ⟨t, a1, b1⟩ := kk (T.setVm vm') hT X'
  exact ⟨t, st.trans a1, b1⟩
end Rows
section Ends
variable {p : Program} {l : Launch} {e : Env} {R : Room} {s : State} {m : MethodId} {args : Array Value} {below : List Frame} {meth : Method} {c : Code} {H : Heap} {locs : List Loc} {cells slots : Nat} {Q : State → Prop}
variable {mc ms : Nat} {free : Addr → Prop} {A0 A1 : Nat → Prop} {H0 : Heap} {a : Array Value} {ls : Array Slot} {st0 rest : List Value}
variable {Qc : Array Value → State → Outcome → State → Prop} {XC : String → State → State → Prop}
/-- what a body that may throw owes at its end -/
def vx_MQ (below : List Frame) (Qc : Array Value → State → Outcome → State → Prop) (XC : String → State → State → Prop) (a : Array Value) (s : State) (mc ms : Nat) (free : Addr → Prop) : State → Prop := fun t =>
  ∃ o, t.status = .running ∧ Ended t below o ∧ vx_Q Qc XC mc ms free a s o t
theorem vx_ret {g : JFrame} {mc ms : Nat} (k : W p l e R s m args below meth c H locs cells slots (MQ below Qc args s mc ms free) g) : W p l e R s m args below meth c H locs cells slots (vx_MQ below Qc XC args s mc ms free) g := by
  intro T hT X
  obtain ⟨t, a1, o, b1, b2, b3, b4⟩ := k T hT X
  exact ⟨t, a1, o, b1, b2, Or.inl ⟨b3, b4⟩⟩
/-- not caught here: it goes on to the caller -/
theorem vx_widen {g : JFrame} {q : Addr} {k n : Nat} (h1 : cells ≤ k) (h2 : slots ≤ n) (kk : vx_W p l e R s m args below meth c H locs k n Q g q) : vx_W p l e R s m args below meth c H locs cells slots Q g q := fun T hT X => kk T hT (stand_widen X h1 h2)
theorem vx_out {pc : Nat} {E : String} {ce : Cell} {q : Addr} {mc ms : Nat} (hout : ∀ x ∈ c.exceptionTable.toList, covers x pc = false) (hlocks : meth.locks = false) (hcell : H[q]? = some ce) (hv : ce.vm = .none) (hcl : s.vm.findClass E = some ce.cls)
    (hx : ∀ t : State, t.heap = H → s.vm.Alike t.vm → XC E s t) (hf : ∀ z ∈ locs, free z.base) (hc : cells ≤ mc) (hs : slots ≤ ms) :
    vx_W p l e R s m args below meth c H locs cells slots (vx_MQ below Qc XC args s mc ms free) (F0 m pc ls rest) q := by
  intro T hT X
  obtain ⟨st1, hrun, hend, hW, hsm⟩ := X.leaveThrown q (g := F0 m pc ls rest) rfl rfl rfl hout hlocks
  have hcell9 : (T.setFrames (.throwing q :: below)).heap[q]? = some ce := by
    show T.heap[q]? = some ce
    rw [hT]; exact hcell
  exact ⟨_, st1, .threw q, hrun, hend, Or.inr ⟨q, rfl, E, ce, locs, hx _ hT hW.alike, hcell9, hv, hcl, hW, hsm.mono hc hs, hf⟩⟩
theorem vx_frame {U : State} {k n : Nat} (h : s.sameButNew ({ U with vm := s.vm } : State) locs k n) : s.heap.size ≤ U.heap.size ∧ ∀ q : Nat, q < s.heap.size → (∀ z ∈ locs, z.base ≠ q) → U.heap[q]? = s.heap[q]? := by
  obtain ⟨-, h2, -, -, -, h6⟩ := h
  refine ⟨h2, fun q hq hz => ?_⟩
  obtain ⟨c9, e1, e2, e3, e4⟩ := h6 q _ (Array.getElem?_eq_getElem hq)
  have hs : c9.slots = (s.heap[q]).slots := Array.ext_getElem? fun i => e4 i fun hm => hz _ hm rfl
  have h9 : c9 = s.heap[q] := by
    rw [hs] at e2
    exact e2
  have e5 : U.heap[q]? = some c9 := e1
  rw [e5, h9, Array.getElem?_eq_getElem hq]
/-- the words of a throw but the four that speak of the heap -/
def vx_no (w : Cond) : Bool := decide (w ≠ .isRef (.static Bundle.tN "UNASSIGNED_STACK" Bundle.steD)) && decide (w ≠ .isRef (.static Bundle.tN "SUPPRESSED_SENTINEL" Bundle.listD)) && decide (w ≠ .laysStatic Bundle.tN "UNASSIGNED_STACK" Bundle.steD) && decide (w ≠ .laysStatic Bundle.tN "SUPPRESSED_SENTINEL" Bundle.listD)
def vx_at0 (own : String) (ic : Nat) (X : String) (names : List String) : List Cond := (Bundle.ownAtoms0 own ic X names).filter vx_no
def vx_atS (own : String) (ic : Nat) (X : String) (names : List String) : List Cond := (Bundle.ownAtoms own ic X names).filter vx_no
/-- a word that the tables alone decide, or a good one -/
def vx_ot (w : Cond) : Bool := w.onTables || goodWord w
theorem vx_ot_at {args a' : Array Value} {s U : State} {w : Cond} (hW : s.WarmedH U.vm) (hvm : s.vm = U.vm) (hg : vx_ot w = true) (h : w.before args s = true) : w.before a' U = true := by
  simp only [vx_ot, Bool.or_eq_true] at hg
  rcases hg with hg | hg
  · exact va_tabs hg hvm h
  · exact word_at hW (good_of_word hg) h
/-- a list's words: the good ones out of the method's own list, the others by premises of their own -/
theorem vx_hat {args : Array Value} {s : State} {L B : List Cond} (h1 : ∀ w ∈ L.filter goodWord, w.before args s = true) (h2 : ∀ w ∈ L.filter (fun w => !goodWord w), w ∈ B) (h3 : ∀ w ∈ B, w.before args s = true) : ∀ w ∈ L, w.before args s = true := by
  intro w hw
  by_cases g : goodWord w = true
  · exact h1 w (List.mem_filter.mpr ⟨hw, g⟩)
  · refine h3 w (h2 w (List.mem_filter.mpr ⟨hw, ?_⟩))
    show (!goodWord w) = true
    cases hgw : goodWord w
    · rfl
    · exact absurd hgw g
theorem vx_c {args : Array Value} {s : State} {w : Cond} {B : List Cond} (h : w.before args s = true) (t : ∀ w ∈ B, w.before args s = true) : ∀ w' ∈ w :: B, w'.before args s = true := fun w' h' => (List.mem_cons.mp h').elim (fun e => by rw [e]; exact h) (t w')
theorem vx_n {args : Array Value} {s : State} : ∀ w ∈ ([] : List Cond), w.before args s = true := fun _ h => nomatch h
theorem vx_own {args : Array Value} {s : State} {L : List Cond} (h1 : ∀ w ∈ L.filter vx_no, w.before args s = true)
    (hU : (Cond.isRef (.static Bundle.tN "UNASSIGNED_STACK" Bundle.steD)).before args s = true) (hN : (Cond.isRef (.static Bundle.tN "SUPPRESSED_SENTINEL" Bundle.listD)).before args s = true)
    (lU : (Cond.laysStatic Bundle.tN "UNASSIGNED_STACK" Bundle.steD).before args s = true) (lN : (Cond.laysStatic Bundle.tN "SUPPRESSED_SENTINEL" Bundle.listD).before args s = true) : ∀ w ∈ L, w.before args s = true := by
  intro w hw
  by_cases e1 : w = .isRef (.static Bundle.tN "UNASSIGNED_STACK" Bundle.steD)
  · rw [e1]; exact hU
  · by_cases e2 : w = .isRef (.static Bundle.tN "SUPPRESSED_SENTINEL" Bundle.listD)
    · rw [e2]; exact hN
    · by_cases e3 : w = .laysStatic Bundle.tN "UNASSIGNED_STACK" Bundle.steD
      · rw [e3]; exact lU
      · by_cases e4 : w = .laysStatic Bundle.tN "SUPPRESSED_SENTINEL" Bundle.listD
        · rw [e4]; exact lN
        · exact h1 w (List.mem_filter.mpr ⟨hw, by unfold vx_no; rw [decide_eq_true e1, decide_eq_true e2, decide_eq_true e3, decide_eq_true e4]; rfl⟩)
/-- where a static field lies, its class's statics cell in H -/
def vx_L (C n d : String) (A : Nat → Prop) (U : State) (H : Heap) : Prop := ∃ (c : ClassId) (k : Class) (i : Nat) (f : Field) (a : Nat) (cell : Cell), U.vm.findClass C = some c ∧ U.fieldFound? C n d = some (c, k, i, f) ∧ f.isStatic = true ∧ k.statics = some a ∧ H[a]? = some cell ∧ cell.vm.isStatics = true ∧ cell.cls = c ∧ f.slot < cell.slots.size ∧ k.staticTypes[f.slot]? = some f.type ∧ ¬ A a
theorem vx_L.moved {C n d : String} {A : Nat → Prop} {u U : State} {H : Heap} (hvm : u.vm.Alike U.vm) (h : vx_L C n d A u H) : vx_L C n d A U H := by
  obtain ⟨c, k, i, f, a, cell, h1, h2, h3, h4, h5, h6, h7, h8, h9, h10⟩ := h
  obtain ⟨k', hi', he⟩ := State.fieldFound?_setVm hvm h2
  exact ⟨c, k', i, f, a, cell, by rw [hvm.findClass]; exact h1, hi', h3, by rw [he]; exact h4, h5, h6, h7, h8, by rw [he]; exact h9, h10⟩
theorem vx_L.kept {C n d : String} {A : Nat → Prop} {U : State} {H H1 : Heap} (h : vx_L C n d A U H) (hq : ∀ a : Nat, a < H.size → ¬ A a → H1[a]? = H[a]?) : vx_L C n d A U H1 := by
  obtain ⟨c, k, i, f, a, cell, h1, h2, h3, h4, h5, h6, h7, h8, h9, h10⟩ := h
  exact ⟨c, k, i, f, a, cell, h1, h2, h3, h4, by rw [hq a (Array.getElem?_eq_some_iff.mp h5).1 h10]; exact h5, h6, h7, h8, h9, h10⟩
theorem vx_L.narrow {C n d : String} {A B : Nat → Prop} {U : State} {H : Heap} (h : vx_L C n d A U H) (hAB : ∀ q, B q → A q) : vx_L C n d B U H := by
  obtain ⟨c, k, i, f, a, cell, h1, h2, h3, h4, h5, h6, h7, h8, h9, h10⟩ := h
  exact ⟨c, k, i, f, a, cell, h1, h2, h3, h4, h5, h6, h7, h8, h9, fun z => h10 (hAB _ z)⟩
theorem vx_L.word {C n d : String} {A : Nat → Prop} {s : State} {args : Array Value} (h : vx_L C n d A s s.heap) : (Cond.laysStatic C n d).before args s = true := by
  obtain ⟨c, k, i, f, a, cell, h1, h2, h3, h4, h5, h6, h7, h8, h9, -⟩ := h
  show (Cond.laysStatic C n d).holds args s none s [] = true
  exact Cond.laysStatic_of h1 h2 h3 h4 h5 h6 h7 h8 h9
/-- .. and what it holds: null or some reference -/
def vx_Zq (C n d : String) (A : Nat → Prop) (U : State) (H : Heap) : Prop := va_Zq C n d A U H ∧ vx_L C n d A U H
theorem vx_Zq.moved {C n d : String} {A : Nat → Prop} {u U : State} {H : Heap} (hvm : u.vm.Alike U.vm) (h : vx_Zq C n d A u H) : vx_Zq C n d A U H := ⟨va_Zq.moved hvm h.1, vx_L.moved hvm h.2⟩
theorem vx_Zq.kept {C n d : String} {A : Nat → Prop} {U : State} {H H1 : Heap} (h : vx_Zq C n d A U H) (hq : ∀ a : Nat, a < H.size → ¬ A a → H1[a]? = H[a]?) : vx_Zq C n d A U H1 := ⟨va_Zq.kept h.1 hq, vx_L.kept h.2 hq⟩
theorem vx_Zq.narrow {C n d : String} {A B : Nat → Prop} {U : State} {H : Heap} (h : vx_Zq C n d A U H) (hAB : ∀ q, B q → A q) : vx_Zq C n d B U H := ⟨va_Zq.narrow h.1 hAB, vx_L.narrow h.2 hAB⟩
theorem vx_Zqof {args : Array Value} {s : State} {C n d : String} {A : Nat → Prop} (hl : (Cond.laysStatic C n d).before args s = true) (hini : (Cond.initialized C).before args s = true) (h : (Cond.isRef (.static C n d)).before args s = true) (hA : ∀ a : Nat, a < s.heap.size → ¬ A a) : vx_Zq C n d A s s.heap := by
  refine ⟨va_Zqof hl hini h hA, ?_⟩
  obtain ⟨c, k, i, f, a, cell, h1, h2, h3, h4, h5, h6, h7, h8, h9⟩ := Cond.laysStatic_spec hl
  exact ⟨c, k, i, f, a, cell, h1, h2, h3, h4, h5, h6, h7, h8, h9, hA a (Array.getElem?_eq_some_iff.mp h5).1⟩
theorem vx_isRef {C n d : String} {v : Value} {A : Nat → Prop} {s : State} {args : Array Value} (h : va_Z C n d v A s s.heap) (hv : v.isRef = true) : (Cond.isRef (.static C n d)).before args s = true := by
  obtain ⟨cf, kf, fi, f, a, cell, h1, h2, h3, h4, h5, h6, h7, -⟩ := h
  have he : (Term.static C n d).eval args s none [] s = some v := by
    simp [Term.eval, State.fieldNamed?, h1, h2, h4, h5, h6, h7]
  simp only [Cond.before, Cond.holds, Cond.value, he]
  cases v <;> simp_all [Value.isRef]
theorem vx_isRefq {C n d : String} {A : Nat → Prop} {s : State} {args : Array Value} (h : va_Zq C n d A s s.heap) : (Cond.isRef (.static C n d)).before args s = true := by
  rcases h with h | ⟨t, h⟩
  · exact vx_isRef h rfl
  · exact vx_isRef h rfl
/-- the same frame, seen from here: as if the method were called anew in this heap -/
theorem vx_rebase {T : State} (X : Stand p l e R s m args below meth c T locs cells slots) {R' : Room} (hf : R'.frames ≤ R.frames) (hl : R'.locals ≤ R.locals) (hc : cells + R'.cells ≤ R.cells) (hs : slots + R'.slots ≤ R.slots) :
    Stand p l e R' ((T.setVm s.vm).setFrames (.invoking m args :: below)) m args below meth c T [] 0 0 := by
  have htop : (T.setVm s.vm).topJava?.isSome := X.here.top
  have hF : ((T.setVm s.vm).setFrames (.invoking m args :: below)).frames = .invoking m args :: below := State.frames_setFrames _ (State.cur_lt_of_top htop)
  obtain ⟨g₀, hg0⟩ := Option.isSome_iff_exists.mp htop
  obtain ⟨r, hr⟩ := State.topJava?_eq_some.mp hg0
  have hl9 : e.platform.stackLimits (T.setVm s.vm).me = e.platform.stackLimits s.me := X.limits
  have hb9 : (T.setVm s.vm).me.stackBytes = s.me.stackBytes := X.bytes
  refine ⟨X.admits, X.cas, X.clock, hF, ?_, X.hears, X.method, X.code, X.here, X.tail, X.warmed, ?_, ?_, ?_⟩
  · have h := X.room
    have hU : ((T.setVm s.vm).setFrames (.invoking m args :: below)).localsInUse = s.localsInUse := by
      rw [State.localsInUse_invoking hF (meth := meth) (c := c) X.method X.code, State.localsInUse_invoking X.frames X.method X.code]
    simp only [State.hasRoom, Bool.and_eq_true, decide_eq_true_eq] at h ⊢
    obtain ⟨⟨⟨⟨h1, h2, h3, h4, h5, h6⟩, h7⟩, h8⟩, h9⟩ := h
    rw [X.frames, List.length_cons] at h2 h3
    have q1 := X.heapSize
    have q2 := X.used
    simp only [hF, hU, List.length_cons, State.stackLimits_setFrames, State.stackBytes_setFrames, hl9, hb9]
    refine ⟨⟨⟨⟨by omega, by omega, by omega, by omega, by omega, h6⟩, ?_⟩, ?_⟩, X.book⟩
    · show T.heap.size + R'.cells ≤ e.platform.maxCells
      omega
    · show T.slotsUsed + R'.slots ≤ e.platform.maxSlots
      omega
  · rw [State.stackLimits_setFrames]; rfl
  · rw [State.stackBytes_setFrames]; rfl
  · refine ⟨?_, Nat.le_refl _, Nat.le_refl _, ?_, ?_, fun a c9 h9 => ⟨c9, h9, rfl, rfl, fun _ _ => rfl⟩⟩
    · obtain ⟨t, ht, -⟩ := State.frames_cons hr
      show T.setVm s.vm = { ((T.setVm s.vm).setFrames (.invoking m args :: below)).setFrames (T.setVm s.vm).frames with heap := T.heap, slotsUsed := T.slotsUsed }
      rw [State.setFrames_setFrames, State.setFrames_self ht]
      rfl
    · show T.slotsUsed = T.slotsUsed + ((T.heap.toList.drop T.heap.size).map (·.slots.size)).sum
      rw [List.drop_eq_nil_of_le (Nat.le_of_eq Array.length_toList)]
      rfl
    · show ((T.heap.toList.drop T.heap.size).map (·.slots.size)).sum ≤ 0
      rw [List.drop_eq_nil_of_le (Nat.le_of_eq Array.length_toList)]
      exact Nat.le_refl _
/-- 'throw new E()': new; dup; invokespecial; athrow -/
theorem vx_throw0 {cc : ByteArray} {pc : Nat} (hexec : p.tables.exec = Jvm.exec) (hb : c.code = cc) (hl : l.stackTraces = false) {own cls : String} {names : List String} {ik ic mc ms : Nat} {A : Nat → Prop}
    (hown : s.vm.findClass own = some m.cls) (hcls : Bundle.fit cls = true) (hnames : ∀ n ∈ names, Bundle.fit n = true)
    (hk : (Cond.classLink own ik cls).before args s = true) (hini : (Cond.initialized cls).before args s = true) (hat : ∀ w ∈ vx_at0 own ic cls names, w.before args s = true)
    (hgood : ∀ w ∈ Cond.classLink own ik cls :: Cond.initialized cls :: vx_at0 own ic cls names, vx_ot w = true)
    (hU : vx_Zq Bundle.tN "UNASSIGNED_STACK" Bundle.steD A s s.heap) (hN : vx_Zq Bundle.tN "SUPPRESSED_SENTINEL" Bundle.listD A s s.heap) (hS : va_S A s.heap H locs) (hsize : ls.size = c.maxLocals)
    (d0 : decode cc pc = .ok (.new ik, 3)) (d3 : decode cc (pc + 3) = .ok (.dup, 1)) (d4 : decode cc (pc + 4) = .ok (.invokespecial ic, 3)) (d7 : decode cc (pc + 7) = .ok (.athrow, 1))
    (hout : ∀ x ∈ c.exceptionTable.toList, covers x (pc + 7) = false)
    (hRframes : names.length + 3 < R.frames) (hRlocals : (rest.map fun v => v.category).sum + (13 * (names.length + 1) + 42) ≤ R.locals) (hRcells : cells + 1 ≤ R.cells) (hRslots : slots + 6 ≤ R.slots) (hlocks : meth.locks = false)
    (hx : ∀ t : State, s.vm.Alike t.vm → H.size ≤ t.heap.size → (∀ q : Nat, q < H.size → t.heap[q]? = H[q]?) → XC cls s t)
    (hf : ∀ z ∈ locs, free z.base) (hc : cells + 1 ≤ mc) (hs : slots + 6 ≤ ms) :
    W p l e R s m args below meth c H locs cells slots (vx_MQ below Qc XC args s mc ms free) (F0 m pc ls rest) := by
  intro T hT X
  have htr : e.platform.stackTraces = false := (show e.platform.stackTraces = l.stackTraces by rw [X.admits.platform]).trans hl
  have Y := vx_rebase X (R' := { frames := R.frames, locals := R.locals, cells := 1, slots := 6 }) (Nat.le_refl _) (Nat.le_refl _) hRcells hRslots
  obtain ⟨s', hA⟩ : ∃ z, z = (T.setVm s.vm).setFrames (.invoking m args :: below) := ⟨_, rfl⟩
  rw [← hA] at Y
  have hvm : s'.vm = s.vm := by rw [hA]; rfl
  have hhp : s'.heap = H := by rw [hA]; exact hT
  have hW0 : s.WarmedH s'.vm := by rw [hvm]; exact State.WarmedH.refl s
  have hat' : ∀ w ∈ vx_at0 own ic cls names, w.before args s' = true := fun w hw => vx_ot_at hW0 hvm.symm (hgood w (List.mem_cons_of_mem _ (List.mem_cons_of_mem _ hw))) (hat w hw)
  have hk' : (Cond.classLink own ik cls).before args s' = true := vx_ot_at hW0 hvm.symm (hgood _ List.mem_cons_self) hk
  have hini' : (Cond.initialized cls).before args s' = true := vx_ot_at hW0 hvm.symm (hgood _ (List.mem_cons_of_mem _ List.mem_cons_self)) hini
  have hU' : vx_Zq Bundle.tN "UNASSIGNED_STACK" Bundle.steD A s' s'.heap := by rw [hhp]; exact vx_Zq.moved hW0.alike (hU.kept hS.2.1)
  have hN' : vx_Zq Bundle.tN "SUPPRESSED_SENTINEL" Bundle.listD A s' s'.heap := by rw [hhp]; exact vx_Zq.moved hW0.alike (hN.kept hS.2.1)
  have h : ∀ w ∈ Bundle.ownAtoms0 own ic cls names, w.before args s' = true := vx_own hat' (vx_isRefq hU'.1) (vx_isRefq hN'.1) hU'.2.word hN'.2.word
  have hown' : s'.vm.findClass own = some m.cls := by rw [hvm]; exact hown
  have hins : (Cond.instantiable cls 6).before args s' = true := h _ (by simp [Bundle.ownAtoms0])
  obtain ⟨vm₁, cX, kX, hfX, hkX, -, -, X₁, st1⟩ := Y.newCold hexec (own := own) (C := cls) (index := ik) (n := 6) hown' hk' hins hini'
    (g := F0 m pc ls rest) rfl (by rw [hb]; exact d0) (Nat.le_refl _) (Nat.le_refl _)
  generalize hT1 : (T.setVm vm₁).pushCell { cls := cX, slots := kX.instanceTypes.map defaultValue, vm := .none } = T1 at X₁ st1
  have hcat : (Value.ref T.heap.size).category = 1 := rfl
  have hcellA : T1.heap[T.heap.size]? = some (freshCell cX kX) := by rw [← hT1]; exact State.heap_pushCell_size _ _
  have d3' : decode c.code (pc + 3) = .ok (.dup, 1) := by rw [hb]; exact d3
  obtain ⟨U, hsteps, hrun, hend, hW, hsame, ce, hce, hO⟩ := X₁.ctorThrow0 hexec htr (own := own) (cls := cls) (names := names) (ic := ic) hown' hcls hnames h (fun x hx => nomatch hx) hfX hkX hcellA (by rw [hhp, hT]; exact Nat.le_refl _)
    (g := { method := m, pc := pc + 4, locals := ls, stack := .ref T.heap.size :: .ref T.heap.size :: rest, locked := none }) rfl hsize rfl rfl (rest := rest) rfl
    (by rw [hb]; exact d4) (by rw [hb]; exact d7) hout hRframes (by simp only [List.map_cons, List.sum_cons, hcat]; omega) hlocks
  obtain ⟨f1, f2⟩ := vx_frame hsame
  rw [hhp] at f1 f2
  have hWs : s.WarmedH U.vm := State.WarmedH.trans hW0 hW
  have hcl : s.vm.findClass cls = some ce.cls := by
    have h9 := hO.cls
    rw [hvm] at h9
    exact h9
  have hall : s.sameButNew ({ U with vm := s.vm } : State) locs mc ms := by
    subst hA
    obtain ⟨e1, e2⟩ := hsame
    rw [State.setFrames_setFrames] at e1
    have h2 : (T.setVm s.vm).sameButNew ({ U with vm := s.vm } : State) [] (0 + 1) (0 + 6) := ⟨e1, e2⟩
    have h3 := X.same.trans h2
    rw [List.append_nil] at h3
    exact h3.mono hc hs
  refine ⟨U, ?_, .threw T.heap.size, hrun, hend, Or.inr ⟨T.heap.size, rfl, cls, ce, locs, hx U hWs.alike f1 (fun q hq => f2 q hq (fun z hz => nomatch hz)), hce, hO.vm, hcl, hWs, hall, hf⟩⟩
  refine st1 _ ?_
  show Steps p.tables e below (T1.setTop { method := m, pc := pc + 3, locals := ls, stack := .ref T.heap.size :: rest, locked := none }) _
  jvm_step X₁.here [X₁.here.top, hexec, d3', Value.category]
  exact hsteps
/-- 'throw new E("text")': new; dup; ldc; invokespecial; athrow -/
theorem vx_throwS {cc : ByteArray} {pc : Nat} (hexec : p.tables.exec = Jvm.exec) (hb : c.code = cc) (hl : l.stackTraces = false) {own cls text : String} {names : List String} {ik is ic mc ms sa : Nat} {A : Nat → Prop}
    (hown : s.vm.findClass own = some m.cls) (hcls : Bundle.fit cls = true) (hnames : ∀ n ∈ names, Bundle.fit n = true)
    (hk : (Cond.classLink own ik cls).before args s = true) (hini : (Cond.initialized cls).before args s = true) (hstr : vk_R own is text sa s) (hat : ∀ w ∈ vx_atS own ic cls names, w.before args s = true)
    (hgood : ∀ w ∈ Cond.classLink own ik cls :: Cond.initialized cls :: vx_atS own ic cls names, vx_ot w = true)
    (hU : vx_Zq Bundle.tN "UNASSIGNED_STACK" Bundle.steD A s s.heap) (hN : vx_Zq Bundle.tN "SUPPRESSED_SENTINEL" Bundle.listD A s s.heap) (hS : va_S A s.heap H locs) (hsize : ls.size = c.maxLocals)
    (d0 : decode cc pc = .ok (.new ik, 3)) (d3 : decode cc (pc + 3) = .ok (.dup, 1)) (d4 : decode cc (pc + 4) = .ok (.ldc is, 2)) (d6 : decode cc (pc + 6) = .ok (.invokespecial ic, 3)) (d9 : decode cc (pc + 9) = .ok (.athrow, 1))
    (hout : ∀ x ∈ c.exceptionTable.toList, covers x (pc + 9) = false)
    (hRframes : names.length + 3 < R.frames) (hRlocals : (rest.map fun v => v.category).sum + (13 * (names.length + 1) + 43) ≤ R.locals) (hRcells : cells + 1 ≤ R.cells) (hRslots : slots + 6 ≤ R.slots) (hlocks : meth.locks = false)
    (hx : ∀ t : State, s.vm.Alike t.vm → H.size ≤ t.heap.size → (∀ q : Nat, q < H.size → t.heap[q]? = H[q]?) → XC cls s t)
    (hf : ∀ z ∈ locs, free z.base) (hc : cells + 1 ≤ mc) (hs : slots + 6 ≤ ms) :
    W p l e R s m args below meth c H locs cells slots (vx_MQ below Qc XC args s mc ms free) (F0 m pc ls rest) := by
  intro T hT X
  have htr : e.platform.stackTraces = false := (show e.platform.stackTraces = l.stackTraces by rw [X.admits.platform]).trans hl
  have Y := vx_rebase X (R' := { frames := R.frames, locals := R.locals, cells := 1, slots := 6 }) (Nat.le_refl _) (Nat.le_refl _) hRcells hRslots
  obtain ⟨s', hA⟩ : ∃ z, z = (T.setVm s.vm).setFrames (.invoking m args :: below) := ⟨_, rfl⟩
  rw [← hA] at Y
  have hvm : s'.vm = s.vm := by rw [hA]; rfl
  have hhp : s'.heap = H := by rw [hA]; exact hT
  have hW0 : s.WarmedH s'.vm := by rw [hvm]; exact State.WarmedH.refl s
  have hat' : ∀ w ∈ vx_atS own ic cls names, w.before args s' = true := fun w hw => vx_ot_at hW0 hvm.symm (hgood w (List.mem_cons_of_mem _ (List.mem_cons_of_mem _ hw))) (hat w hw)
  have hk' : (Cond.classLink own ik cls).before args s' = true := vx_ot_at hW0 hvm.symm (hgood _ List.mem_cons_self) hk
  have hini' : (Cond.initialized cls).before args s' = true := vx_ot_at hW0 hvm.symm (hgood _ (List.mem_cons_of_mem _ List.mem_cons_self)) hini
  have hU' : vx_Zq Bundle.tN "UNASSIGNED_STACK" Bundle.steD A s' s'.heap := by rw [hhp]; exact vx_Zq.moved hW0.alike (hU.kept hS.2.1)
  have hN' : vx_Zq Bundle.tN "SUPPRESSED_SENTINEL" Bundle.listD A s' s'.heap := by rw [hhp]; exact vx_Zq.moved hW0.alike (hN.kept hS.2.1)
  have h : ∀ w ∈ Bundle.ownAtoms own ic cls names, w.before args s' = true := vx_own hat' (vx_isRefq hU'.1) (vx_isRefq hN'.1) hU'.2.word hN'.2.word
  have hown' : s'.vm.findClass own = some m.cls := by rw [hvm]; exact hown
  have hins : (Cond.instantiable cls 6).before args s' = true := h _ (by simp [Bundle.ownAtoms])
  obtain ⟨vm₁, cX, kX, hfX, hkX, -, -, X₁, st1⟩ := Y.newCold hexec (own := own) (C := cls) (index := ik) (n := 6) hown' hk' hins hini'
    (g := F0 m pc ls rest) rfl (by rw [hb]; exact d0) (Nat.le_refl _) (Nat.le_refl _)
  generalize hT1 : (T.setVm vm₁).pushCell { cls := cX, slots := kX.instanceTypes.map defaultValue, vm := .none } = T1 at X₁ st1
  have hcat : (Value.ref T.heap.size).category = 1 := rfl
  have hcellA : T1.heap[T.heap.size]? = some (freshCell cX kX) := by rw [← hT1]; exact State.heap_pushCell_size _ _
  have d3' : decode c.code (pc + 3) = .ok (.dup, 1) := by rw [hb]; exact d3
  have d4' : decode c.code (pc + 4) = .ok (.ldc is, 2) := by rw [hb]; exact d4
  have hstr' : vk_R own is text sa s' := vk_R.warm hW0 hstr
  obtain ⟨U, hsteps, hrun, hend, hW, hsame, ce, hce, hO⟩ := X₁.ctorThrowS hexec htr (own := own) (cls := cls) (names := names) (ic := ic) hown' hcls hnames h (fun x hx => nomatch hx) hfX hkX hcellA (by rw [hhp, hT]; exact Nat.le_refl _) (msg := .ref sa) rfl
    (g := { method := m, pc := pc + 6, locals := ls, stack := .ref sa :: .ref T.heap.size :: .ref T.heap.size :: rest, locked := none }) rfl hsize rfl rfl (rest := rest) rfl
    (by rw [hb]; exact d6) (by rw [hb]; exact d9) hout hRframes (by simp only [List.map_cons, List.sum_cons, hcat]; omega) hlocks
  obtain ⟨f1, f2⟩ := vx_frame hsame
  rw [hhp] at f1 f2
  have hWs : s.WarmedH U.vm := State.WarmedH.trans hW0 hW
  have hcl : s.vm.findClass cls = some ce.cls := by
    have h9 := hO.cls
    rw [hvm] at h9
    exact h9
  have hall : s.sameButNew ({ U with vm := s.vm } : State) locs mc ms := by
    subst hA
    obtain ⟨e1, e2⟩ := hsame
    rw [State.setFrames_setFrames] at e1
    have h2 : (T.setVm s.vm).sameButNew ({ U with vm := s.vm } : State) [] (0 + 1) (0 + 6) := ⟨e1, e2⟩
    have h3 := X.same.trans h2
    rw [List.append_nil] at h3
    exact h3.mono hc hs
  refine ⟨U, ?_, .threw T.heap.size, hrun, hend, Or.inr ⟨T.heap.size, rfl, cls, ce, locs, hx U hWs.alike f1 (fun q hq => f2 q hq (fun z hz => nomatch hz)), hce, hO.vm, hcl, hWs, hall, hf⟩⟩
  refine st1 _ ?_
  show Steps p.tables e below (T1.setTop { method := m, pc := pc + 3, locals := ls, stack := .ref T.heap.size :: rest, locked := none }) _
  jvm_step X₁.here [X₁.here.top, hexec, d3', Value.category]
  exact X₁.ldcString hexec (own := own) (text := text) (index := is) (a := sa) hown' hstr'.1 hstr'.2
    (g := { method := m, pc := pc + 4, locals := ls, stack := .ref T.heap.size :: .ref T.heap.size :: rest, locked := none }) rfl d4' _ hsteps
/-- 'throw new E("text")', the text by a wide index -/
theorem vx_throwSW {cc : ByteArray} {pc : Nat} (hexec : p.tables.exec = Jvm.exec) (hb : c.code = cc) (hl : l.stackTraces = false) {own cls text : String} {names : List String} {ik is ic mc ms sa : Nat} {A : Nat → Prop}
    (hown : s.vm.findClass own = some m.cls) (hcls : Bundle.fit cls = true) (hnames : ∀ n ∈ names, Bundle.fit n = true)
    (hk : (Cond.classLink own ik cls).before args s = true) (hini : (Cond.initialized cls).before args s = true) (hstr : vk_R own is text sa s) (hat : ∀ w ∈ vx_atS own ic cls names, w.before args s = true)
    (hgood : ∀ w ∈ Cond.classLink own ik cls :: Cond.initialized cls :: vx_atS own ic cls names, vx_ot w = true)
    (hU : vx_Zq Bundle.tN "UNASSIGNED_STACK" Bundle.steD A s s.heap) (hN : vx_Zq Bundle.tN "SUPPRESSED_SENTINEL" Bundle.listD A s s.heap) (hS : va_S A s.heap H locs) (hsize : ls.size = c.maxLocals)
    (d0 : decode cc pc = .ok (.new ik, 3)) (d3 : decode cc (pc + 3) = .ok (.dup, 1)) (d4 : decode cc (pc + 4) = .ok (.ldc_w is, 3)) (d7 : decode cc (pc + 7) = .ok (.invokespecial ic, 3)) (d10 : decode cc (pc + 10) = .ok (.athrow, 1))
    (hout : ∀ x ∈ c.exceptionTable.toList, covers x (pc + 10) = false)
    (hRframes : names.length + 3 < R.frames) (hRlocals : (rest.map fun v => v.category).sum + (13 * (names.length + 1) + 43) ≤ R.locals) (hRcells : cells + 1 ≤ R.cells) (hRslots : slots + 6 ≤ R.slots) (hlocks : meth.locks = false)
    (hx : ∀ t : State, s.vm.Alike t.vm → H.size ≤ t.heap.size → (∀ q : Nat, q < H.size → t.heap[q]? = H[q]?) → XC cls s t)
    (hf : ∀ z ∈ locs, free z.base) (hc : cells + 1 ≤ mc) (hs : slots + 6 ≤ ms) :
    W p l e R s m args below meth c H locs cells slots (vx_MQ below Qc XC args s mc ms free) (F0 m pc ls rest) := by
  intro T hT X
  have htr : e.platform.stackTraces = false := (show e.platform.stackTraces = l.stackTraces by rw [X.admits.platform]).trans hl
  have Y := vx_rebase X (R' := { frames := R.frames, locals := R.locals, cells := 1, slots := 6 }) (Nat.le_refl _) (Nat.le_refl _) hRcells hRslots
  obtain ⟨s', hA⟩ : ∃ z, z = (T.setVm s.vm).setFrames (.invoking m args :: below) := ⟨_, rfl⟩
  rw [← hA] at Y
  have hvm : s'.vm = s.vm := by rw [hA]; rfl
  have hhp : s'.heap = H := by rw [hA]; exact hT
  have hW0 : s.WarmedH s'.vm := by rw [hvm]; exact State.WarmedH.refl s
  have hat' : ∀ w ∈ vx_atS own ic cls names, w.before args s' = true := fun w hw => vx_ot_at hW0 hvm.symm (hgood w (List.mem_cons_of_mem _ (List.mem_cons_of_mem _ hw))) (hat w hw)
  have hk' : (Cond.classLink own ik cls).before args s' = true := vx_ot_at hW0 hvm.symm (hgood _ List.mem_cons_self) hk
  have hini' : (Cond.initialized cls).before args s' = true := vx_ot_at hW0 hvm.symm (hgood _ (List.mem_cons_of_mem _ List.mem_cons_self)) hini
  have hU' : vx_Zq Bundle.tN "UNASSIGNED_STACK" Bundle.steD A s' s'.heap := by rw [hhp]; exact vx_Zq.moved hW0.alike (hU.kept hS.2.1)
  have hN' : vx_Zq Bundle.tN "SUPPRESSED_SENTINEL" Bundle.listD A s' s'.heap := by rw [hhp]; exact vx_Zq.moved hW0.alike (hN.kept hS.2.1)
  have h : ∀ w ∈ Bundle.ownAtoms own ic cls names, w.before args s' = true := vx_own hat' (vx_isRefq hU'.1) (vx_isRefq hN'.1) hU'.2.word hN'.2.word
  have hown' : s'.vm.findClass own = some m.cls := by rw [hvm]; exact hown
  have hins : (Cond.instantiable cls 6).before args s' = true := h _ (by simp [Bundle.ownAtoms])
  obtain ⟨vm₁, cX, kX, hfX, hkX, -, -, X₁, st1⟩ := Y.newCold hexec (own := own) (C := cls) (index := ik) (n := 6) hown' hk' hins hini'
    (g := F0 m pc ls rest) rfl (by rw [hb]; exact d0) (Nat.le_refl _) (Nat.le_refl _)
  generalize hT1 : (T.setVm vm₁).pushCell { cls := cX, slots := kX.instanceTypes.map defaultValue, vm := .none } = T1 at X₁ st1
  have hcat : (Value.ref T.heap.size).category = 1 := rfl
  have hcellA : T1.heap[T.heap.size]? = some (freshCell cX kX) := by rw [← hT1]; exact State.heap_pushCell_size _ _
  have d3' : decode c.code (pc + 3) = .ok (.dup, 1) := by rw [hb]; exact d3
  have d4' : decode c.code (pc + 4) = .ok (.ldc_w is, 3) := by rw [hb]; exact d4
  have hstr' : vk_R own is text sa s' := vk_R.warm hW0 hstr
  obtain ⟨U, hsteps, hrun, hend, hW, hsame, ce, hce, hO⟩ := X₁.ctorThrowS hexec htr (own := own) (cls := cls) (names := names) (ic := ic) hown' hcls hnames h (fun x hx => nomatch hx) hfX hkX hcellA (by rw [hhp, hT]; exact Nat.le_refl _) (msg := .ref sa) rfl
    (g := { method := m, pc := pc + 7, locals := ls, stack := .ref sa :: .ref T.heap.size :: .ref T.heap.size :: rest, locked := none }) rfl hsize rfl rfl (rest := rest) rfl
    (by rw [hb]; exact d7) (by rw [hb]; exact d10) hout hRframes (by simp only [List.map_cons, List.sum_cons, hcat]; omega) hlocks
  obtain ⟨f1, f2⟩ := vx_frame hsame
  rw [hhp] at f1 f2
  have hWs : s.WarmedH U.vm := State.WarmedH.trans hW0 hW
  have hcl : s.vm.findClass cls = some ce.cls := by
    have h9 := hO.cls
    rw [hvm] at h9
    exact h9
  have hall : s.sameButNew ({ U with vm := s.vm } : State) locs mc ms := by
    subst hA
    obtain ⟨e1, e2⟩ := hsame
    rw [State.setFrames_setFrames] at e1
    have h2 : (T.setVm s.vm).sameButNew ({ U with vm := s.vm } : State) [] (0 + 1) (0 + 6) := ⟨e1, e2⟩
    have h3 := X.same.trans h2
    rw [List.append_nil] at h3
    exact h3.mono hc hs
  refine ⟨U, ?_, .threw T.heap.size, hrun, hend, Or.inr ⟨T.heap.size, rfl, cls, ce, locs, hx U hWs.alike f1 (fun q hq => f2 q hq (fun z hz => nomatch hz)), hce, hO.vm, hcl, hWs, hall, hf⟩⟩
  refine st1 _ ?_
  show Steps p.tables e below (T1.setTop { method := m, pc := pc + 3, locals := ls, stack := .ref T.heap.size :: rest, locked := none }) _
  jvm_step X₁.here [X₁.here.top, hexec, d3', Value.category]
  exact X₁.ldcStringW hexec (own := own) (text := text) (index := is) (a := sa) hown' hstr'.1 hstr'.2
    (g := { method := m, pc := pc + 4, locals := ls, stack := .ref T.heap.size :: .ref T.heap.size :: rest, locked := none }) rfl d4' _ hsteps
end Ends
section Bodies
variable {l : Launch}
theorem vx_ofW {y : MethodName} {ws ws' : List Cond} {rm : Room} {Pc : Array Value → State → Prop} {Qc : Array Value → State → Outcome → State → Prop} {XC : String → State → State → Prop} {mc ms : Nat} {free : Addr → Prop} {cc : ByteArray} {maxL : Nat} {ret : Option FieldType}
    (hy : plainName y.cls = true) (hw : ws = Cond.code y cc maxL ret :: ws')
    (body : ∀ p e s m args below meth c s₁, BodyLoose p l y (headSpec ws rm) cc maxL ret e s m args below meth c s₁ → c.maxLocals = maxL → (∀ x ∈ c.exceptionTable.toList, False) → Pc args s →
      W p l e (headSpec ws rm).room s m args below meth c s.heap [] 0 0 (vx_MQ below Qc XC args s mc ms free) (entryFrame m args maxL)) : vx_Met l y ws rm Pc Qc XC mc ms free := by
  refine MetFree.of_bodyS (code := cc) (maxLocals := maxL) (ret := ret) hy ?_ ?_
  · intro args s m h hn
    obtain ⟨meth, c, h1, h2, h3, h4, h5, h6, -, -⟩ := Cond.code_spec hn (atoms_spec (ws := ws) h _ (by rw [hw]; exact List.mem_cons_self))
    exact ⟨meth, c, h1, h2, h3, h4, h5, h6⟩
  · intro p e s m args below meth c s₁ B hml hP _
    have hh0 : s₁.heap = s.heap := by rw [B.state]; rfl
    have ht : ∀ x ∈ c.exceptionTable.toList, False := by
      obtain ⟨meth9, c9, h1, h2, -, -, -, -, h7, -⟩ := Cond.code_spec B.named (atoms_spec (ws := ws) B.pre _ (by rw [hw]; exact List.mem_cons_self))
      cases Option.some.inj (h1.symm.trans B.method)
      cases Option.some.inj (h2.symm.trans (Stand.of_body B).code)
      intro x hx
      rw [Array.isEmpty_iff.mp h7] at hx
      cases hx
    obtain ⟨t, a1, o, b1, b2, b3⟩ := body p e s m args below meth c s₁ B hml ht hP s₁ hh0 (Stand.of_body B)
    exact ⟨t, o, a1, b1, b2, b3⟩
/-- the table of a body with handlers -/
theorem vx_table {p : Program} {x y : MethodName} {S : Spec} {cc bytes : ByteArray} {maxL maxL' : Nat} {ret ret' : Option FieldType} {e : Env} {s s₁ : State} {m : MethodId} {args : Array Value} {below : List Frame} {meth : Method} {c : Code} {hh : List (Nat × Nat × Nat × Nat)}
    (B : BodyLoose p l y S cc maxL ret e s m args below meth c s₁) (h : (Cond.codeWith y bytes maxL' ret' hh).before args s = true) : c.exceptionTable.toList = tableOf hh := by
  obtain ⟨m9, meth9, c9, hn9, h1, h2, -, -, h6, -⟩ := Cond.codeWith_spec h
  cases Option.some.inj (hn9.symm.trans B.named)
  cases Option.some.inj (h1.symm.trans B.method)
  cases Option.some.inj (h2.symm.trans (Stand.of_body B).code)
  rw [← h6, table_eq]
end Bodies
end VXA
/-! ===== END ===== -/
/-! ===== BEGIN a static call of a method with an exception table ===== -/
section VXS
variable {p : Program} {l : Launch} {e : Env} {R : Room} {s : State} {m : MethodId} {args : Array Value} {below : List Frame} {meth : Method} {c : Code} {T : State} {H : Heap} {locs : List Loc} {cells slots : Nat}
abbrev vx_CSW (R : Room) (s : State) (args : Array Value) (own : String) (index : Nat) (y : MethodName) (bytes : ByteArray) (maxL : Nat) (ret : Option FieldType) (hh : List (Nat × Nat × Nat × Nat)) (ws : List Cond) (rm : Room) (mc ms n : Nat) : Prop :=
  (rm.cells = mc ∧ rm.slots = ms ∧ rm.frames + 1 ≤ R.frames ∧ 8 + (maxL + 11) + rm.locals ≤ R.locals ∧ (∀ w ∈ ws, ∀ (a' : Array Value) (U : State), s.WarmedH U.vm → w.before a' U = true) ∧ Cond.codeWith y bytes maxL ret hh ∈ ws) ∧
  (Cond.codeWith y bytes maxL ret hh).before args s = true ∧ (Cond.initialized y.cls).before args s = true ∧ (y.cls ≠ "java/lang/invoke/MethodHandle" ∧ y.cls ≠ "java/lang/invoke/VarHandle") ∧
  (∀ sig, parseMethodDescriptor y.desc = some sig → n = sig.parameters.length) ∧ (Cond.methodLink own index y).before args s = true ∧ (Cond.static y).before args s = true
theorem vx_cwSW {own : String} {index maxL mc ms : Nat} {y : MethodName} {bytes : ByteArray} {ret : Option FieldType} {hh : List (Nat × Nat × Nat × Nat)} {Ts ws ws' : List Cond} {rm : Room} (n : Nat) (ht : ∀ w ∈ Ts, w.before args s = true) (hT : GoodIn Ts (va_wsS own index y ws)) (hw : ws = Cond.codeWith y bytes maxL ret hh :: ws') (hrc : rm.cells = mc) (hrs : rm.slots = ms)
    (hd : y.cls ≠ "java/lang/invoke/MethodHandle" ∧ y.cls ≠ "java/lang/invoke/VarHandle" ∧ (parseMethodDescriptor y.desc).map (fun d => d.parameters.length) = some n) (hR : rm.frames + 1 ≤ R.frames ∧ 8 + (maxL + 11) + rm.locals ≤ R.locals) :
    vx_CSW R s args own index y bytes maxL ret hh ws rm mc ms n := by
  have ok : ∀ w ∈ va_wsS own index y ws, w.before args s = true := fun w h => ht w (hT w h).1
  have hG : GoodIn Ts ws := fun w h => hT w (by unfold va_wsS; exact List.mem_append_right _ h)
  have hc : Cond.codeWith y bytes maxL ret hh ∈ ws := by rw [hw]; exact List.mem_cons_self
  refine ⟨⟨hrc, hrs, hR.1, hR.2, pay_in ht hG, hc⟩, ht _ (hG _ hc).1, ok _ (by simp [va_wsS]), ⟨hd.1, hd.2.1⟩, fun sig h => ?_, ok _ (by simp [va_wsS]), ok _ (by simp [va_wsS])⟩
  have h2 := hd.2.2
  rw [h] at h2
  exact (Option.some.inj h2).symm
theorem vx_callSW (X : Stand p l e R s m args below meth c T locs cells slots) (hexec : p.tables.exec = Jvm.exec) {own : String} {index : Nat} {y : MethodName} {bytes : ByteArray} {maxL : Nat} {ret : Option FieldType} {hh : List (Nat × Nat × Nat × Nat)}
    (hown : s.vm.findClass own = some m.cls) (hlink : (Cond.methodLink own index y).before args s = true) (hstat : (Cond.static y).before args s = true) (hinit : (Cond.initialized y.cls).before args s = true)
    (hcode : (Cond.codeWith y bytes maxL ret hh).before args s = true) (hy : y.cls ≠ "java/lang/invoke/MethodHandle" ∧ y.cls ≠ "java/lang/invoke/VarHandle")
    {W9 : Nat} {Pre : Pt → Array Value → Prop} {Post : Pt → Array Value → Option Value → Pt → Prop} (hK : Back l R p e below s args y 3 W9 Pre Post)
    {g : JFrame} (hg : g.method = m) (hsize : g.locals.size = c.maxLocals) {argsL rest : List Value} (hlen : ∀ sig, parseMethodDescriptor y.desc = some sig → argsL.length = sig.parameters.length)
    (hstack : g.stack = argsL.reverse ++ rest) (hW : 2 * g.monitorRoom + (rest.map fun v => v.category).sum ≤ W9) (hdg : decode c.code g.pc = .ok (.invokestatic index, 3))
    (hpre : ∀ vm₁, s.WarmedH vm₁ → Pre ⟨T.setVm vm₁, locs, cells, slots⟩ argsL.toArray) :
    ∃ (v : Option Value) (vm₁ : Vm) (B : Pt), s.WarmedH vm₁ ∧ Stand p l e R s m args below meth c B.U B.locs B.cells B.slots ∧ Post ⟨T.setVm vm₁, locs, cells, slots⟩ argsL.toArray v B ∧
      ∀ target, Steps p.tables e below (B.U.setTop { g with pc := g.pc + 3, stack := v.toList ++ rest }) target → Steps p.tables e below (T.setTop g) target := by
  obtain ⟨mk, methM, cM, hnamed, hmethM, -, -, -, -, -, -, hsigM⟩ := Cond.codeWith_spec hcode
  have hstatic : methM.isStatic = true := Cond.static_spec hnamed hmethM hstat
  obtain ⟨kP, hkP, -⟩ := className_of_methodNamed hnamed
  have hinitP : kP.init = .initialized := Cond.initialized_spec (findClass_of_methodNamed hnamed) hkP hinit
  obtain ⟨vm₁, X₁, hstep₁⟩ := X.invokestatic hexec hown hlink hnamed hmethM hstatic hkP hinitP hy (g := g) hg (argsL := argsL) (rest := rest) (hlen _ hsigM) hstack hdg
  obtain ⟨v, B, X', hpost, hsteps⟩ := hK m meth c ⟨T.setVm vm₁, locs, cells, slots⟩ { g with stack := rest } (.invokestatic index) mk argsL.toArray X₁ hg hsize hdg hW (X₁.named hnamed) (hpre vm₁ X₁.warmed)
  exact ⟨v, vm₁, B, X₁.warmed, X', hpost, fun target h => hstep₁ _ fun acts => by rw [doInvoke_state]; exact hsteps.trans h⟩
theorem vx_runSW {y : MethodName} {bytes cc : ByteArray} {maxL nL mc ms n index : Nat} {ret : Option FieldType} {hh : List (Nat × Nat × Nat × Nat)} {ws : List Cond} {rm : Room} {Pc : Array Value → State → Prop} {Qc : Array Value → State → Outcome → State → Prop} {free : Addr → Prop} {Ts : List Cond} {own : String} {As rest : List Value} {g : JFrame}
    (S : CallFix p m c cc nL s args Ts own) (hM : Met l y ws rm Pc Qc mc ms free) (cw : vx_CSW R s args own index y bytes maxL ret hh ws rm mc ms n) (hp : PreS s H Pc As)
    (hg : g.method = m) (hn : As.length = n) (hsize : g.locals.size = nL) (hstack : g.stack = As.reverse ++ rest) (hW : 2 * g.monitorRoom + (rest.map fun v => v.category).sum ≤ 8) (hdg : decode cc g.pc = .ok (.invokestatic index, 3)) (hf : cells + mc ≤ R.cells ∧ slots + ms ≤ R.slots) :
    va_Run p l e R s m args below meth c H locs cells slots mc ms g rest (Qc As.toArray) (free) := by
  obtain ⟨⟨hrc, hrs, hfr, hlo, hws, hcw⟩, hcode, hini, hy, hlen, hl, hstt⟩ := cw
  have hK : Back l R p e below s args y 3 8 (PreOf R mc ms Pc) (PostOf Qc mc ms free) := va_backW (hh := hh) (bytes := bytes) (maxL := maxL) (ret := ret) hM hp.1 hrc hrs hfr hlo hws hcw (fun a' U hW => word_at hW (Or.inl (by first | rfl | simp [Cond.onTables, Cond.keeps, Cond.steady])) hini)
  obtain ⟨hx, hb, hml, ho, -⟩ := S
  intro T hT X
  obtain ⟨v, vm₁, ⟨U', l2, c2, s2⟩, hW₁, X', ⟨g', mk, t, L, e1, e2, hq, h1, hL, h2, h3⟩, st⟩ := vx_callSW X hx (hh := hh) (bytes := bytes) (maxL := maxL) (ret := ret) ho hl hstt hini hcode hy hK hg (hsize.trans hml.symm) (argsL := As) (rest := rest) (fun sig h => hn.trans (hlen sig h)) hstack hW (by rw [hb]; exact hdg)
    (fun vm₁ hW₁ => ⟨hf.1, hf.2, hp.2 (T.setVm vm₁) hT hW₁⟩)
  dsimp only [Pt.U, Pt.locs, Pt.cells, Pt.slots] at X' e1 e2 h1 h2 h3 st
  subst h1; subst h2; subst h3
  exact ⟨v, (T.setVm vm₁).calling g' mk As.toArray, t, U', L, hT, X', hL, e1, e2, hq, st⟩
/-- not caught here, past rows that name other classes: it goes on to the caller -/
theorem vx_outP {p : Program} {l : Launch} {e : Env} {R : Room} {s : State} {m : MethodId} {args : Array Value} {below : List Frame} {meth : Method} {c : Code} {H : Heap} {locs : List Loc} {cells slots : Nat} {free : Addr → Prop} {ls : Array Slot} {rest : List Value} {Qc : Array Value → State → Outcome → State → Prop} {XC : String → State → State → Prop}
    {pc : Nat} {own E : String} {ce : Cell} {q : Addr} {mc ms : Nat} (hown : s.vm.findClass own = some m.cls) (hlocks : meth.locks = false)
    (hpass : ∀ z ∈ c.exceptionTable.toList, covers z pc = false ∨ (z.catchType ≠ 0 ∧ ∃ nm : String, (Cond.classLink own z.catchType nm).before args s = true ∧ va_Nc E nm s)) (hcell : H[q]? = some ce) (hv : ce.vm = .none) (hcl : s.vm.findClass E = some ce.cls)
    (hx : ∀ t : State, t.heap = H → s.vm.Alike t.vm → XC E s t) (hf : ∀ z ∈ locs, free z.base) (hc : cells ≤ mc) (hs : slots ≤ ms) :
    vx_W p l e R s m args below meth c H locs cells slots (vx_MQ below Qc XC args s mc ms free) (F0 m pc ls rest) q := by
  intro T hT X
  have hpl : e.platform.magicAccessors = ({} : Platform).magicAccessors := by rw [X.admits.platform]
  obtain ⟨vm', hW', X', st⟩ := X.outThrough hlocks q (g := F0 m pc ls rest) rfl rfl rfl (cell := ce) (by rw [hT]; exact hcell) (by rw [hv]; rfl)
    (by obtain ⟨k9, h9, -⟩ := Vm.findClass_spec hcl; exact ⟨k9, h9⟩) (fun z hz => by
      rcases hpass z hz with h | ⟨hz0, nm, hl1, hn1⟩
      · exact Or.inl h
      · obtain ⟨c6, hc6, hcl6⟩ := Cond.classLink_spec hown hl1 e.platform hpl
        obtain ⟨a8, b8, h1, h2, h3⟩ := hn1
        cases Option.some.inj (h1.symm.trans hcl)
        cases Option.some.inj (h2.symm.trans hc6)
        exact Or.inr ⟨hz0, _, hcl6, h3⟩)
  obtain ⟨g₀, hfr⟩ := X'.frames_eq
  have hcell9 : ((T.setVm vm').setFrames (.throwing q :: below)).heap[q]? = some ce := by
    show T.heap[q]? = some ce
    rw [hT]; exact hcell
  have hend : Ended ((T.setVm vm').setFrames (.throwing q :: below)) below (.threw q) := State.frames_setFrames _ (State.cur_lt_of_frames hfr)
  refine ⟨(T.setVm vm').setFrames (.throwing q :: below), ?_, .threw q, X'.here.running, hend, Or.inr ⟨q, rfl, E, ce, locs, hx _ hT (X'.ends _).1.alike, hcell9, hv, hcl, (X'.ends _).1, (X'.ends _).2.mono hc hs, hf⟩⟩
  rw [X.pushThrowing_eq]
  exact st
/-- a thing of a world lies in the heap -/
theorem vx_lt {D : va_G} {cl : List vw_C} {ws : va_W} {H1 : Heap} (h : va_P D cl ws H1) {k : Nat} {q : Nat × va_E} (hk : ws[k]? = some q) : q.1 < H1.size := (h k q hk).lt
end VXS
/-! ===== END ===== -/
/-! ===== BEGIN methods with a table of their own: called by a name, returning or throwing ===== -/
section VXH
/-! vx_backW, vx_callVX, vx_callSX, vx_callVW, vx_runVW, vx_runVX, vx_runSX, vx_ofWH follow the same proofs as their sisters above (Free/Laws.lean, Shelf42/LK1.lean); vx_outP calls Shelf42/NT130.lean (outThrough). -/
section
variable {l : Launch} {R : Room} {p : Program} {e : Env} {below : List Frame} {s : State} {sargs : Array Value} {y : MethodName} {len W9 : Nat}
theorem vx_backW {ws : List Cond} {rm : Room} {Pc : Array Value → State → Prop} {Qc : Array Value → State → Outcome → State → Prop} {XC : String → State → State → Prop} {mc ms : Nat} {free : Addr → Prop} {bytes : ByteArray} {maxL : Nat} {ret : Option FieldType} {hh : List (Nat × Nat × Nat × Nat)}
    (hM : vx_Met l y ws rm Pc Qc XC mc ms free) (hblind : FrameBlind Pc) (hrc : rm.cells = mc) (hrs : rm.slots = ms)
    (hframes : rm.frames + 1 ≤ R.frames) (hlocals : W9 + (maxL + 11) + rm.locals ≤ R.locals)
    (hws : ∀ w ∈ ws, ∀ a' U, s.WarmedH U.vm → w.before a' U = true) (hcode : Cond.codeWith y bytes maxL ret hh ∈ ws) (hinit : ∀ a' U, s.WarmedH U.vm → (Cond.initialized y.cls).before a' U = true) :
    vx_Back l R p e below s sargs y len W9 (PreOf R mc ms Pc) (PostOf Qc mc ms free) (vx_Post XC mc ms free) := by
  intro m meth c A g ig mk a X hg hsize hdg hW hn hp
  have h1 : (headSpec ws rm).pre.before a A.U = true := atoms_intro fun w hw => hws w hw _ _ X.warmed
  have h2 : (Cond.codeWith y bytes maxL ret hh).before a A.U = true := hws _ hcode _ _ X.warmed
  have h3 : (Cond.initialized y.cls).before a A.U = true := hinit _ _ X.warmed
  have h4 : A.cells + (headSpec ws rm).room.cells ≤ R.cells := by rw [show (headSpec ws rm).room.cells = mc from hrc]; exact hp.1
  have h5 : A.slots + (headSpec ws rm).room.slots ≤ R.slots := by rw [show (headSpec ws rm).room.slots = ms from hrs]; exact hp.2.1
  have hPc : Pc a (A.U.calling g mk a) := hblind _ _ _ _ hp.2.2
  obtain ⟨U, Ls, c0, s0⟩ := A
  dsimp only [Pt.U, Pt.locs, Pt.cells, Pt.slots] at h1 h2 h3 h4 h5 X hn hPc ⊢
  obtain ⟨m9, methY, cY, hn9, hmY, hcY, -, hlY, -⟩ := Cond.codeWith_spec h2
  cases Option.some.inj (hn9.symm.trans hn)
  obtain ⟨kY, hkY, -⟩ := className_of_methodNamed hn
  have hinitY : kY.init = .initialized := Cond.initialized_spec (findClass_of_methodNamed hn) hkY h3
  have h : At U g.method c below := by rw [hg]; exact X.here
  have hlocals9 : W9 + (maxL + 11) + (headSpec ws rm).room.locals ≤ R.locals := hlocals
  have happ : (headSpec ws rm).appliesLoose y e.platform (U.calling g mk a) = true :=
    Spec.appliesLoose_calling (g := g) h hdg hn hkY hinitY
      (X.room_calling (g := g) (R' := (headSpec ws rm).room) hsize hmY hcY hframes (by rw [hlY]; omega) h4 h5) h1
  obtain ⟨mid, hmid⟩ := h.above
  have hfr : (U.setTop g).frames = (.java g :: mid) ++ below := by rw [State.frames_setTop' g h.top, hmid]; rfl
  obtain ⟨o, s₂, hsteps, -, hend, hq⟩ := Steps.callFree hM p X.admits X.cas X.clock (acts := []) hfr happ hPc trivial
  have hq' : vx_Q Qc XC mc ms free a (U.calling g mk a) o s₂ := hq
  rw [State.frames_setTop' g h.top] at hend
  obtain ⟨g₀, hg0⟩ := Option.isSome_iff_exists.mp h.top
  obtain ⟨r, hr⟩ := State.topJava?_eq_some.mp hg0
  have hr' : (({ U with heap := s₂.heap, slotsUsed := s₂.slotsUsed } : State).setVm s₂.vm).frames = .java g₀ :: r := hr
  rcases hq' with ⟨hqc, L, hfe, hL⟩ | ⟨q, rfl, E, ce, L, hx, hce, hcv, hcl, hW₂, hsm, hL⟩
  · obtain ⟨⟨v, rfl⟩, hW₂, e2, q2, q3, q4, q5, q6⟩ := id hfe
    have e3 : s₂ = ({ (U.calling g mk a).setFrames s₂.frames with heap := s₂.heap, slotsUsed := s₂.slotsUsed } : State).setVm s₂.vm := by
      have : s₂ = ({ s₂ with vm := (U.calling g mk a).vm } : State).setVm s₂.vm := rfl
      rw [e2] at this
      exact this
    obtain ⟨c₂, i₂, len₂, hc₂, hd₂, hf₂⟩ := hend
    have hW' : U.WarmedH s₂.vm := hW₂
    have hcc : c₂ = c := by
      have h1 : s₂.code? g.method = U.code? g.method := by
        rw [State.code?_eq, State.code?_eq, hW'.alike.method?]
      exact Option.some.inj (hc₂.symm.trans (h1.trans h.code))
    subst hcc
    have hlen : len₂ = len := by rw [hdg] at hd₂; cases hd₂; rfl
    subst hlen
    have hs₂ : s₂ = (({ U with heap := s₂.heap, slotsUsed := s₂.slotsUsed } : State).setVm s₂.vm).setTop { g with pc := g.pc + len₂, stack := v.toList ++ g.stack } := by
      refine e3.trans ?_
      rw [hf₂, State.calling_eq h.top, State.setFrames_setFrames, State.setTop_of_frames _ hr', hr]
      rfl
    have hsame : U.sameButNew ({ U with heap := s₂.heap, slotsUsed := s₂.slotsUsed } : State) L mc ms := by
      refine ⟨?_, q2, q3, q4, q5, q6⟩
      obtain ⟨t, ht, -⟩ := State.frames_cons hr
      show ({ U with heap := s₂.heap, slotsUsed := s₂.slotsUsed } : State) = { U.setFrames U.frames with heap := s₂.heap, slotsUsed := s₂.slotsUsed }
      rw [State.setFrames_self ht]
    subst hg
    refine Or.inl ⟨v, ⟨(({ U with heap := s₂.heap, slotsUsed := s₂.slotsUsed } : State).setVm s₂.vm), Ls ++ L, c0 + mc, s0 + ms⟩,
      ⟨X.admits, X.cas, X.clock, X.frames, X.room, X.hears, X.method, X.code, (X.here.setHeapUsed s₂.heap s₂.slotsUsed).setVm hW'.alike, X.tail, State.WarmedH.trans X.warmed hW', X.limits, X.bytes, X.same.trans (hsame.setVm s.vm)⟩,
      ⟨g, mk, s₂, L, rfl, rfl, hqc, rfl, hL, rfl, rfl⟩, ?_⟩
    show Steps p.tables e below _ ((({ U with heap := s₂.heap, slotsUsed := s₂.slotsUsed } : State).setVm s₂.vm).setTop { g with pc := g.pc + len₂, stack := v.toList ++ g.stack })
    rw [← hs₂]
    exact hsteps
  · obtain ⟨e2, q2, q3, q4, q5, q6⟩ := id hsm
    have e3 : s₂ = ({ (U.calling g mk a).setFrames s₂.frames with heap := s₂.heap, slotsUsed := s₂.slotsUsed } : State).setVm s₂.vm := by
      have : s₂ = ({ s₂ with vm := (U.calling g mk a).vm } : State).setVm s₂.vm := rfl
      rw [e2] at this
      exact this
    have hf₂ : s₂.frames = .throwing q :: .java g :: U.frames.tail := hend
    have hW' : U.WarmedH s₂.vm := hW₂
    have hs₂ : s₂ = ((({ U with heap := s₂.heap, slotsUsed := s₂.slotsUsed } : State).setVm s₂.vm).setTop g).pushFrame (.throwing q) := by
      refine e3.trans ?_
      rw [hf₂, State.calling_eq h.top, State.setFrames_setFrames, State.pushFrame, State.frames_setTop _ hr', State.setTop_of_frames _ hr', State.setFrames_setFrames, hr]
      rfl
    have hsame : U.sameButNew ({ U with heap := s₂.heap, slotsUsed := s₂.slotsUsed } : State) L mc ms := by
      refine ⟨?_, q2, q3, q4, q5, q6⟩
      obtain ⟨t, ht, -⟩ := State.frames_cons hr
      show ({ U with heap := s₂.heap, slotsUsed := s₂.slotsUsed } : State) = { U.setFrames U.frames with heap := s₂.heap, slotsUsed := s₂.slotsUsed }
      rw [State.setFrames_self ht]
    subst hg
    refine Or.inr ⟨q, ⟨(({ U with heap := s₂.heap, slotsUsed := s₂.slotsUsed } : State).setVm s₂.vm), Ls ++ L, c0 + mc, s0 + ms⟩,
      ⟨X.admits, X.cas, X.clock, X.frames, X.room, X.hears, X.method, X.code, (X.here.setHeapUsed s₂.heap s₂.slotsUsed).setVm hW'.alike, X.tail, State.WarmedH.trans X.warmed hW', X.limits, X.bytes, X.same.trans (hsame.setVm s.vm)⟩,
      ⟨g, mk, s₂, L, E, ce, rfl, rfl, hx, hce, hcv, hcl, rfl, hL, rfl, rfl⟩, ?_⟩
    show Steps p.tables e below _ (((({ U with heap := s₂.heap, slotsUsed := s₂.slotsUsed } : State).setVm s₂.vm).setTop g).pushFrame (.throwing q))
    rw [← hs₂]
    exact hsteps
end
variable {p : Program} {l : Launch} {e : Env} {R : Room} {s : State} {m : MethodId} {args : Array Value} {below : List Frame} {meth : Method} {c : Code} {T : State} {H : Heap} {locs : List Loc} {cells slots : Nat}
theorem vx_callVX (X : Stand p l e R s m args below meth c T locs cells slots) (hexec : p.tables.exec = Jvm.exec) {own C : String} {index : Nat} {y : MethodName} {bytes : ByteArray} {maxL : Nat} {ret : Option FieldType} {hh : List (Nat × Nat × Nat × Nat)}
    (hown : s.vm.findClass own = some m.cls) (hlink : (Cond.methodLink own index y).before args s = true) (hinst : (Cond.instanceMethod y).before args s = true) (hsel : (Cond.selects C y y).before args s = true)
    (hcode : (Cond.codeWith y bytes maxL ret hh).before args s = true) (hy : y.cls ≠ "java/lang/invoke/MethodHandle" ∧ y.cls ≠ "java/lang/invoke/VarHandle")
    {W9 : Nat} {Pre : Pt → Array Value → Prop} {Post : Pt → Array Value → Option Value → Pt → Prop} {PostX : Pt → Array Value → Addr → Pt → Prop} (hK : vx_Back l R p e below s args y 3 W9 Pre Post PostX)
    {b : Addr} {cellB : Cell} (hcell : T.heap[b]? = some cellB) (hobj : cellB.vm.isStatics = false) (hcls : s.vm.findClass C = some cellB.cls)
    {g : JFrame} (hg : g.method = m) (hsize : g.locals.size = c.maxLocals) {argsL rest : List Value} (hlen : ∀ sig, parseMethodDescriptor y.desc = some sig → argsL.length = sig.parameters.length)
    (hstack : g.stack = argsL.reverse ++ .ref b :: rest) (hW : 2 * g.monitorRoom + (rest.map fun v => v.category).sum ≤ W9) (hdg : decode c.code g.pc = .ok (.invokevirtual index, 3))
    (hpre : ∀ vm₁, s.WarmedH vm₁ → Pre ⟨T.setVm vm₁, locs, cells, slots⟩ (Value.ref b :: argsL).toArray) :
    (∃ (v : Option Value) (vm₁ : Vm) (B : Pt), s.WarmedH vm₁ ∧ Stand p l e R s m args below meth c B.U B.locs B.cells B.slots ∧ Post ⟨T.setVm vm₁, locs, cells, slots⟩ (Value.ref b :: argsL).toArray v B ∧
      ∀ target, Steps p.tables e below (B.U.setTop { g with pc := g.pc + 3, stack := v.toList ++ rest }) target → Steps p.tables e below (T.setTop g) target) ∨
    (∃ (q : Addr) (vm₁ : Vm) (B : Pt), s.WarmedH vm₁ ∧ Stand p l e R s m args below meth c B.U B.locs B.cells B.slots ∧ PostX ⟨T.setVm vm₁, locs, cells, slots⟩ (Value.ref b :: argsL).toArray q B ∧
      Steps p.tables e below (T.setTop g) ((B.U.setTop { g with stack := rest }).pushFrame (.throwing q))) := by
  obtain ⟨mk, methM, hnamed, hmethM, hstM, habM⟩ := Cond.instanceMethod_spec hinst
  obtain ⟨m8, methM', cM, hn8, hmethM', -, -, -, -, -, -, hsigM⟩ := Cond.codeWith_spec hcode
  cases Option.some.inj (hn8.symm.trans hnamed)
  cases hmethM.symm.trans hmethM'
  obtain ⟨c2, r2, m2, q1, q2, q3, q4, kP, hkP, hkPi⟩ := Cond.selects_spec hsel
  cases hcls.symm.trans q1
  cases (State.methodFound?_of_named hnamed hy).symm.trans q2
  cases hnamed.symm.trans q3
  have hselP : selectMethod e.platform s.vm cellB.cls mk = .method mk := by rw [Launch.admits_selectMethod X.admits]; exact q4
  obtain ⟨vm₁, X₁, hstep₁⟩ := X.invokevirtual hexec hown hlink hnamed hmethM hstM hkP hkPi hy (a := b) (cell := cellB) hcell
    (fun z h => by rw [h] at hobj; cases hobj) hselP hmethM habM hkP hkPi (g := g) hg (argsL := argsL) (rest := rest) (hlen _ hsigM) hstack hdg
  rcases hK m meth c ⟨T.setVm vm₁, locs, cells, slots⟩ { g with stack := rest } (.invokevirtual index) mk (Value.ref b :: argsL).toArray X₁ hg hsize hdg hW (X₁.named hnamed) (hpre vm₁ X₁.warmed) with ⟨v, B, X', hpost, hsteps⟩ | ⟨q, B, X', hpost, hsteps⟩
  · exact Or.inl ⟨v, vm₁, B, X₁.warmed, X', hpost, fun target h => hstep₁ _ fun acts => by rw [doInvoke_state]; exact hsteps.trans h⟩
  · exact Or.inr ⟨q, vm₁, B, X₁.warmed, X', hpost, hstep₁ _ fun acts => by rw [doInvoke_state]; exact hsteps⟩
theorem vx_callSX (X : Stand p l e R s m args below meth c T locs cells slots) (hexec : p.tables.exec = Jvm.exec) {own : String} {index : Nat} {y : MethodName} {bytes : ByteArray} {maxL : Nat} {ret : Option FieldType} {hh : List (Nat × Nat × Nat × Nat)}
    (hown : s.vm.findClass own = some m.cls) (hlink : (Cond.methodLink own index y).before args s = true) (hstat : (Cond.static y).before args s = true) (hinit : (Cond.initialized y.cls).before args s = true)
    (hcode : (Cond.codeWith y bytes maxL ret hh).before args s = true) (hy : y.cls ≠ "java/lang/invoke/MethodHandle" ∧ y.cls ≠ "java/lang/invoke/VarHandle")
    {W9 : Nat} {Pre : Pt → Array Value → Prop} {Post : Pt → Array Value → Option Value → Pt → Prop} {PostX : Pt → Array Value → Addr → Pt → Prop} (hK : vx_Back l R p e below s args y 3 W9 Pre Post PostX)
    {g : JFrame} (hg : g.method = m) (hsize : g.locals.size = c.maxLocals) {argsL rest : List Value} (hlen : ∀ sig, parseMethodDescriptor y.desc = some sig → argsL.length = sig.parameters.length)
    (hstack : g.stack = argsL.reverse ++ rest) (hW : 2 * g.monitorRoom + (rest.map fun v => v.category).sum ≤ W9) (hdg : decode c.code g.pc = .ok (.invokestatic index, 3))
    (hpre : ∀ vm₁, s.WarmedH vm₁ → Pre ⟨T.setVm vm₁, locs, cells, slots⟩ argsL.toArray) :
    (∃ (v : Option Value) (vm₁ : Vm) (B : Pt), s.WarmedH vm₁ ∧ Stand p l e R s m args below meth c B.U B.locs B.cells B.slots ∧ Post ⟨T.setVm vm₁, locs, cells, slots⟩ argsL.toArray v B ∧
      ∀ target, Steps p.tables e below (B.U.setTop { g with pc := g.pc + 3, stack := v.toList ++ rest }) target → Steps p.tables e below (T.setTop g) target) ∨
    (∃ (q : Addr) (vm₁ : Vm) (B : Pt), s.WarmedH vm₁ ∧ Stand p l e R s m args below meth c B.U B.locs B.cells B.slots ∧ PostX ⟨T.setVm vm₁, locs, cells, slots⟩ argsL.toArray q B ∧
      Steps p.tables e below (T.setTop g) ((B.U.setTop { g with stack := rest }).pushFrame (.throwing q))) := by
  obtain ⟨mk, methM, cM, hnamed, hmethM, -, -, -, -, -, -, hsigM⟩ := Cond.codeWith_spec hcode
  have hstatic : methM.isStatic = true := Cond.static_spec hnamed hmethM hstat
  obtain ⟨kP, hkP, -⟩ := className_of_methodNamed hnamed
  have hinitP : kP.init = .initialized := Cond.initialized_spec (findClass_of_methodNamed hnamed) hkP hinit
  obtain ⟨vm₁, X₁, hstep₁⟩ := X.invokestatic hexec hown hlink hnamed hmethM hstatic hkP hinitP hy (g := g) hg (argsL := argsL) (rest := rest) (hlen _ hsigM) hstack hdg
  rcases hK m meth c ⟨T.setVm vm₁, locs, cells, slots⟩ { g with stack := rest } (.invokestatic index) mk argsL.toArray X₁ hg hsize hdg hW (X₁.named hnamed) (hpre vm₁ X₁.warmed) with ⟨v, B, X', hpost, hsteps⟩ | ⟨q, B, X', hpost, hsteps⟩
  · exact Or.inl ⟨v, vm₁, B, X₁.warmed, X', hpost, fun target h => hstep₁ _ fun acts => by rw [doInvoke_state]; exact hsteps.trans h⟩
  · exact Or.inr ⟨q, vm₁, B, X₁.warmed, X', hpost, hstep₁ _ fun acts => by rw [doInvoke_state]; exact hsteps⟩
theorem vx_callVW (X : Stand p l e R s m args below meth c T locs cells slots) (hexec : p.tables.exec = Jvm.exec) {own C : String} {index : Nat} {y : MethodName} {bytes : ByteArray} {maxL : Nat} {ret : Option FieldType} {hh : List (Nat × Nat × Nat × Nat)}
    (hown : s.vm.findClass own = some m.cls) (hlink : (Cond.methodLink own index y).before args s = true) (hinst : (Cond.instanceMethod y).before args s = true) (hsel : (Cond.selects C y y).before args s = true)
    (hcode : (Cond.codeWith y bytes maxL ret hh).before args s = true) (hy : y.cls ≠ "java/lang/invoke/MethodHandle" ∧ y.cls ≠ "java/lang/invoke/VarHandle")
    {W9 : Nat} {Pre : Pt → Array Value → Prop} {Post : Pt → Array Value → Option Value → Pt → Prop} (hK : Back l R p e below s args y 3 W9 Pre Post)
    {b : Addr} {cellB : Cell} (hcell : T.heap[b]? = some cellB) (hobj : cellB.vm.isStatics = false) (hcls : s.vm.findClass C = some cellB.cls)
    {g : JFrame} (hg : g.method = m) (hsize : g.locals.size = c.maxLocals) {argsL rest : List Value} (hlen : ∀ sig, parseMethodDescriptor y.desc = some sig → argsL.length = sig.parameters.length)
    (hstack : g.stack = argsL.reverse ++ .ref b :: rest) (hW : 2 * g.monitorRoom + (rest.map fun v => v.category).sum ≤ W9) (hdg : decode c.code g.pc = .ok (.invokevirtual index, 3))
    (hpre : ∀ vm₁, s.WarmedH vm₁ → Pre ⟨T.setVm vm₁, locs, cells, slots⟩ (Value.ref b :: argsL).toArray) :
    ∃ (v : Option Value) (vm₁ : Vm) (B : Pt), s.WarmedH vm₁ ∧ Stand p l e R s m args below meth c B.U B.locs B.cells B.slots ∧ Post ⟨T.setVm vm₁, locs, cells, slots⟩ (Value.ref b :: argsL).toArray v B ∧
      ∀ target, Steps p.tables e below (B.U.setTop { g with pc := g.pc + 3, stack := v.toList ++ rest }) target → Steps p.tables e below (T.setTop g) target := by
  obtain ⟨mk, methM, hnamed, hmethM, hstM, habM⟩ := Cond.instanceMethod_spec hinst
  obtain ⟨m8, methM', cM, hn8, hmethM', -, -, -, -, -, -, hsigM⟩ := Cond.codeWith_spec hcode
  cases Option.some.inj (hn8.symm.trans hnamed)
  cases hmethM.symm.trans hmethM'
  obtain ⟨c2, r2, m2, q1, q2, q3, q4, kP, hkP, hkPi⟩ := Cond.selects_spec hsel
  cases hcls.symm.trans q1
  cases (State.methodFound?_of_named hnamed hy).symm.trans q2
  cases hnamed.symm.trans q3
  have hselP : selectMethod e.platform s.vm cellB.cls mk = .method mk := by rw [Launch.admits_selectMethod X.admits]; exact q4
  obtain ⟨vm₁, X₁, hstep₁⟩ := X.invokevirtual hexec hown hlink hnamed hmethM hstM hkP hkPi hy (a := b) (cell := cellB) hcell
    (fun z h => by rw [h] at hobj; cases hobj) hselP hmethM habM hkP hkPi (g := g) hg (argsL := argsL) (rest := rest) (hlen _ hsigM) hstack hdg
  obtain ⟨v, B, X', hpost, hsteps⟩ := hK m meth c ⟨T.setVm vm₁, locs, cells, slots⟩ { g with stack := rest } (.invokevirtual index) mk (Value.ref b :: argsL).toArray X₁ hg hsize hdg hW (X₁.named hnamed) (hpre vm₁ X₁.warmed)
  exact ⟨v, vm₁, B, X₁.warmed, X', hpost, fun target h => hstep₁ _ fun acts => by rw [doInvoke_state]; exact hsteps.trans h⟩
abbrev vx_CVW (R : Room) (s : State) (args : Array Value) (own C : String) (index : Nat) (y : MethodName) (bytes : ByteArray) (maxL : Nat) (ret : Option FieldType) (hh : List (Nat × Nat × Nat × Nat)) (ws : List Cond) (rm : Room) (mc ms n : Nat) : Prop :=
  (rm.cells = mc ∧ rm.slots = ms ∧ rm.frames + 1 ≤ R.frames ∧ 8 + (maxL + 11) + rm.locals ≤ R.locals ∧ (∀ w ∈ ws, ∀ (a' : Array Value) (U : State), s.WarmedH U.vm → w.before a' U = true) ∧ Cond.codeWith y bytes maxL ret hh ∈ ws) ∧
  (Cond.codeWith y bytes maxL ret hh).before args s = true ∧ (Cond.initialized y.cls).before args s = true ∧ (y.cls ≠ "java/lang/invoke/MethodHandle" ∧ y.cls ≠ "java/lang/invoke/VarHandle") ∧
  (∀ sig, parseMethodDescriptor y.desc = some sig → n = sig.parameters.length) ∧ (Cond.methodLink own index y).before args s = true ∧ (Cond.instanceMethod y).before args s = true ∧ (Cond.selects C y y).before args s = true
theorem vx_cwVW {own C : String} {index maxL mc ms : Nat} {y : MethodName} {bytes : ByteArray} {ret : Option FieldType} {hh : List (Nat × Nat × Nat × Nat)} {Ts ws ws' : List Cond} {rm : Room} (n : Nat) (ht : ∀ w ∈ Ts, w.before args s = true) (hT : GoodIn Ts (wsV own index C y ws)) (hw : ws = Cond.codeWith y bytes maxL ret hh :: ws') (hrc : rm.cells = mc) (hrs : rm.slots = ms)
    (hd : y.cls = C ∧ y.cls ≠ "java/lang/invoke/MethodHandle" ∧ y.cls ≠ "java/lang/invoke/VarHandle" ∧ (parseMethodDescriptor y.desc).map (fun d => d.parameters.length) = some n) (hR : rm.frames + 1 ≤ R.frames ∧ 8 + (maxL + 11) + rm.locals ≤ R.locals) :
    vx_CVW R s args own C index y bytes maxL ret hh ws rm mc ms n := by
  obtain ⟨hC, hd⟩ := hd
  subst hC
  have ok : ∀ w ∈ wsV own index y.cls y ws, w.before args s = true := fun w h => ht w (hT w h).1
  have hG : GoodIn Ts ws := fun w h => hT w (by unfold wsV; exact List.mem_append_right _ h)
  have hc : Cond.codeWith y bytes maxL ret hh ∈ ws := by rw [hw]; exact List.mem_cons_self
  refine ⟨⟨hrc, hrs, hR.1, hR.2, pay_in ht hG, hc⟩, ht _ (hG _ hc).1, ok _ (by simp [wsV]), ⟨hd.1, hd.2.1⟩, fun sig h => ?_, ok _ (by simp [wsV]), ok _ (by simp [wsV]), ok _ (by simp [wsV])⟩
  have h2 := hd.2.2
  rw [h] at h2
  exact (Option.some.inj h2).symm
theorem vx_runVW {y : MethodName} {bytes cc : ByteArray} {maxL nL mc ms n index : Nat} {ret : Option FieldType} {hh : List (Nat × Nat × Nat × Nat)} {ws : List Cond} {rm : Room} {Pc : Array Value → State → Prop} {Qc : Array Value → State → Outcome → State → Prop} {free : Addr → Prop} {Ts : List Cond} {own C : String} {b : Addr} {As rest : List Value} {g : JFrame}
    (S : CallFix p m c cc nL s args Ts own) (hM : Met l y ws rm Pc Qc mc ms free) (cw : vx_CVW R s args own C index y bytes maxL ret hh ws rm mc ms n) (hp : PreV s H C b Pc As)
    (hg : g.method = m) (hn : As.length = n) (hsize : g.locals.size = nL) (hstack : g.stack = As.reverse ++ .ref b :: rest) (hW : 2 * g.monitorRoom + (rest.map fun v => v.category).sum ≤ 8) (hdg : decode cc g.pc = .ok (.invokevirtual index, 3)) (hf : cells + mc ≤ R.cells ∧ slots + ms ≤ R.slots) :
    va_Run p l e R s m args below meth c H locs cells slots mc ms g rest (Qc (Value.ref b :: As).toArray) free := by
  obtain ⟨⟨hrc, hrs, hfr, hlo, hws, hcw⟩, hcode, hini, hy, hlen, hl, hin, hse⟩ := cw
  have hK : Back l R p e below s args y 3 8 (PreOf R mc ms Pc) (PostOf Qc mc ms free) := va_backW (hh := hh) (bytes := bytes) (maxL := maxL) (ret := ret) hM hp.1 hrc hrs hfr hlo hws hcw (fun a' U hW => word_at hW (Or.inl (by first | rfl | simp [Cond.onTables, Cond.keeps, Cond.steady])) hini)
  obtain ⟨hx, hb, hml, ho, -⟩ := S
  obtain ⟨-, ⟨cellB, hcB, hoB, hclB⟩, hPc⟩ := hp
  intro T hT X
  obtain ⟨v, vm₁, ⟨U', l2, c2, s2⟩, hW₁, X', ⟨g', mk, t, L, e1, e2, hq, h1, hL, h2, h3⟩, st⟩ := vx_callVW X hx (C := C) (hh := hh) (bytes := bytes) (maxL := maxL) (ret := ret) ho hl hin hse hcode hy hK (by rw [hT]; exact hcB) hoB hclB hg (hsize.trans hml.symm) (argsL := As) (rest := rest) (fun sig h => hn.trans (hlen sig h)) hstack hW (by rw [hb]; exact hdg)
    (fun vm₁ hW₁ => ⟨hf.1, hf.2, hPc (T.setVm vm₁) hT hW₁⟩)
  dsimp only [Pt.U, Pt.locs, Pt.cells, Pt.slots] at X' e1 e2 h1 h2 h3 st
  subst h1; subst h2; subst h3
  exact ⟨v, (T.setVm vm₁).calling g' mk (Value.ref b :: As).toArray, t, U', L, hT, X', hL, e1, e2, hq, st⟩
section
variable {y : MethodName} {bytes cc : ByteArray} {maxL nL mc ms n index : Nat} {ret : Option FieldType} {ws : List Cond} {rm : Room} {Pc : Array Value → State → Prop} {Qc : Array Value → State → Outcome → State → Prop} {XC : String → State → State → Prop} {free : Addr → Prop} {Ts : List Cond} {own C : String} {b : Addr} {As rest : List Value} {g : JFrame}
theorem vx_runVX {hh : List (Nat × Nat × Nat × Nat)} (S : CallFix p m c cc nL s args Ts own) (hM : vx_Met l y ws rm Pc Qc XC mc ms free) (cw : vx_CVW R s args own C index y bytes maxL ret hh ws rm mc ms n) (hp : PreV s H C b Pc As)
    (hg : g.method = m) (hn : As.length = n) (hsize : g.locals.size = nL) (hstack : g.stack = As.reverse ++ .ref b :: rest) (hW : 2 * g.monitorRoom + (rest.map fun v => v.category).sum ≤ 8) (hdg : decode cc g.pc = .ok (.invokevirtual index, 3)) (hf : cells + mc ≤ R.cells ∧ slots + ms ≤ R.slots) :
    vx_Run p l e R s m args below meth c H locs cells slots mc ms g rest (Qc (Value.ref b :: As).toArray) XC free := by
  obtain ⟨⟨hrc, hrs, hfr, hlo, hws, hcw⟩, hcode, hini, hy, hlen, hl, hin, hse⟩ := cw
  have hK : vx_Back l R p e below s args y 3 8 (PreOf R mc ms Pc) (PostOf Qc mc ms free) (vx_Post XC mc ms free) := vx_backW (hh := hh) (bytes := bytes) (maxL := maxL) (ret := ret) hM hp.1 hrc hrs hfr hlo hws hcw (fun a' U hW => word_at hW (Or.inl (by first | rfl | simp [Cond.onTables, Cond.keeps, Cond.steady])) hini)
  obtain ⟨hx, hb, hml, ho, -⟩ := S
  obtain ⟨-, ⟨cellB, hcB, hoB, hclB⟩, hPc⟩ := hp
  intro T hT X
  rcases vx_callVX X hx (C := C) (hh := hh) (bytes := bytes) (maxL := maxL) (ret := ret) ho hl hin hse hcode hy hK (by rw [hT]; exact hcB) hoB hclB hg (hsize.trans hml.symm) (argsL := As) (rest := rest) (fun sig h => hn.trans (hlen sig h)) hstack hW (by rw [hb]; exact hdg)
    (fun vm₁ hW₁ => ⟨hf.1, hf.2, hPc (T.setVm vm₁) hT hW₁⟩) with ⟨v, vm₁, ⟨U', l2, c2, s2⟩, hW₁, X', ⟨g', mk, t, L, e1, e2, hq, h1, hL, h2, h3⟩, st⟩ | ⟨q, vm₁, ⟨U', l2, c2, s2⟩, hW₁, X', ⟨g', mk, t, L, E, ce, e1, e2, hq, hce, hcv, hcl, h1, hL, h2, h3⟩, st⟩
  · dsimp only [Pt.U, Pt.locs, Pt.cells, Pt.slots] at X' e1 e2 h1 h2 h3 st
    subst h1; subst h2; subst h3
    exact Or.inl ⟨v, (T.setVm vm₁).calling g' mk (Value.ref b :: As).toArray, t, U', L, hT, X', hL, e1, e2, hq, st⟩
  · dsimp only [Pt.U, Pt.locs, Pt.cells, Pt.slots] at X' e1 e2 h1 h2 h3 st hcl
    subst h1; subst h2; subst h3
    exact Or.inr ⟨q, (T.setVm vm₁).calling g' mk (Value.ref b :: As).toArray, t, U', L, E, ce, hT, X', hL, e1, e2, hq, hce, hcv, vx_cls hW₁ hcl, st⟩
theorem vx_runSX {hh : List (Nat × Nat × Nat × Nat)} (S : CallFix p m c cc nL s args Ts own) (hM : vx_Met l y ws rm Pc Qc XC mc ms free) (cw : vx_CSW R s args own index y bytes maxL ret hh ws rm mc ms n) (hp : PreS s H Pc As)
    (hg : g.method = m) (hn : As.length = n) (hsize : g.locals.size = nL) (hstack : g.stack = As.reverse ++ rest) (hW : 2 * g.monitorRoom + (rest.map fun v => v.category).sum ≤ 8) (hdg : decode cc g.pc = .ok (.invokestatic index, 3)) (hf : cells + mc ≤ R.cells ∧ slots + ms ≤ R.slots) :
    vx_Run p l e R s m args below meth c H locs cells slots mc ms g rest (Qc As.toArray) XC free := by
  obtain ⟨⟨hrc, hrs, hfr, hlo, hws, hcw⟩, hcode, hini, hy, hlen, hl, hstt⟩ := cw
  have hK : vx_Back l R p e below s args y 3 8 (PreOf R mc ms Pc) (PostOf Qc mc ms free) (vx_Post XC mc ms free) := vx_backW (hh := hh) (bytes := bytes) (maxL := maxL) (ret := ret) hM hp.1 hrc hrs hfr hlo hws hcw (fun a' U hW => word_at hW (Or.inl (by first | rfl | simp [Cond.onTables, Cond.keeps, Cond.steady])) hini)
  obtain ⟨hx, hb, hml, ho, -⟩ := S
  intro T hT X
  rcases vx_callSX X hx (hh := hh) (bytes := bytes) (maxL := maxL) (ret := ret) ho hl hstt hini hcode hy hK hg (hsize.trans hml.symm) (argsL := As) (rest := rest) (fun sig h => hn.trans (hlen sig h)) hstack hW (by rw [hb]; exact hdg)
    (fun vm₁ hW₁ => ⟨hf.1, hf.2, hp.2 (T.setVm vm₁) hT hW₁⟩) with ⟨v, vm₁, ⟨U', l2, c2, s2⟩, hW₁, X', ⟨g', mk, t, L, e1, e2, hq, h1, hL, h2, h3⟩, st⟩ | ⟨q, vm₁, ⟨U', l2, c2, s2⟩, hW₁, X', ⟨g', mk, t, L, E, ce, e1, e2, hq, hce, hcv, hcl, h1, hL, h2, h3⟩, st⟩
  · dsimp only [Pt.U, Pt.locs, Pt.cells, Pt.slots] at X' e1 e2 h1 h2 h3 st
    subst h1; subst h2; subst h3
    exact Or.inl ⟨v, (T.setVm vm₁).calling g' mk As.toArray, t, U', L, hT, X', hL, e1, e2, hq, st⟩
  · dsimp only [Pt.U, Pt.locs, Pt.cells, Pt.slots] at X' e1 e2 h1 h2 h3 st hcl
    subst h1; subst h2; subst h3
    exact Or.inr ⟨q, (T.setVm vm₁).calling g' mk As.toArray, t, U', L, E, ce, hT, X', hL, e1, e2, hq, hce, hcv, vx_cls hW₁ hcl, st⟩
end
end VXH
theorem vx_ofWH {l : Launch} {y : MethodName} {ws ws' : List Cond} {rm : Room} {Pc : Array Value → State → Prop} {Qc : Array Value → State → Outcome → State → Prop} {XC : String → State → State → Prop} {mc ms : Nat} {free : Addr → Prop} {cc : ByteArray} {maxL : Nat} {ret : Option FieldType} {hh : List (Nat × Nat × Nat × Nat)}
    (hy : plainName y.cls = true) (hw : ws = Cond.codeWith y cc maxL ret hh :: ws')
    (body : ∀ p e s m args below meth c s₁, BodyLoose p l y (headSpec ws rm) cc maxL ret e s m args below meth c s₁ → c.maxLocals = maxL → Pc args s →
      W p l e (headSpec ws rm).room s m args below meth c s.heap [] 0 0 (vx_MQ below Qc XC args s mc ms free) (entryFrame m args maxL)) : vx_Met l y ws rm Pc Qc XC mc ms free := by
  refine MetFree.of_bodyS (code := cc) (maxLocals := maxL) (ret := ret) hy ?_ ?_
  · intro args s m h hn
    obtain ⟨m9, meth, c, hn9, h1, h2, h3, h4, -, h5, h6, -⟩ := Cond.codeWith_spec (atoms_spec (ws := ws) h _ (by rw [hw]; exact List.mem_cons_self))
    cases hn.symm.trans hn9
    exact ⟨meth, c, h1, h2, h3, h4, h5, h6⟩
  · intro p e s m args below meth c s₁ B hml hP _
    have hh0 : s₁.heap = s.heap := by rw [B.state]; rfl
    obtain ⟨t, a1, o, b1, b2, b3⟩ := body p e s m args below meth c s₁ B hml hP s₁ hh0 (Stand.of_body B)
    exact ⟨t, o, a1, b1, b2, b3⟩
/-! ===== END ===== -/

/-! ===== BEGIN printed: names, fields, word lists, decode rows ===== -/
def RX0 : String := "TermBill$Aid"
def TX0 : u_T := fun k => match k with
  | 0 => ("TermBill$Aid", "ranks", "[I", true)
  | 1 => ("TermBill$Aid", "amounts", "[I", true)
  | 2 => ("TermBill$Aid", "uses", "[I", true)
  | _ => ("TermBill$Aid", "many", "I", false)
def tyX0 : Nat → FieldType := fun k => match k with
  | 0 => .array .int
  | 1 => .array .int
  | 2 => .array .int
  | _ => .int
abbrev wsX00 : List Cond := u_ws RX0 TX0 4
theorem nmX0 : ∀ a, a < 4 → ∀ b, b < 4 → a ≠ b → (TX0 a).2.1 ≠ (TX0 b).2.1 := by decide +kernel
theorem tyX0_ok : ∀ k, k < 4 → parseFieldDescriptor (TX0 k).2.2.1 = some (tyX0 k) := by decide +kernel
abbrev cX0_init : ByteArray := prog_2_method_1_code
def yX0_init : MethodName := ⟨RX0, "<init>", "()V"⟩
abbrev cX0_add : ByteArray := prog_2_method_2_code
def yX0_add : MethodName := ⟨RX0, "add", "(II)I"⟩
abbrev cX0_has : ByteArray := prog_2_method_3_code
def yX0_has : MethodName := ⟨RX0, "has", "(I)Z"⟩
abbrev cX0_sumOf : ByteArray := prog_2_method_4_code
def yX0_sumOf : MethodName := ⟨RX0, "sumOf", "(I)I"⟩
abbrev cX0_useOf : ByteArray := prog_2_method_5_code
def yX0_useOf : MethodName := ⟨RX0, "useOf", "(I)I"⟩
abbrev cX0_total : ByteArray := prog_2_method_6_code
def yX0_total : MethodName := ⟨RX0, "total", "()I"⟩
abbrev cX0_cover : ByteArray := prog_2_method_7_code
def yX0_cover : MethodName := ⟨RX0, "cover", "(II)I"⟩
abbrev cX0_takeOff : ByteArray := prog_2_method_8_code
def yX0_takeOff : MethodName := ⟨RX0, "takeOff", "(I)V"⟩
abbrev cX0_clear : ByteArray := prog_2_method_9_code
def yX0_clear : MethodName := ⟨RX0, "clear", "()V"⟩
def RX1 : String := "TermBill$Courses"
def TX1 : u_T := fun k => match k with
  | 0 => ("TermBill$Courses", "creditsByCourse", "[I", true)
  | 1 => ("TermBill$Courses", "taken", "I", false)
  | _ => ("TermBill$Courses", "keptSum", "I", false)
def tyX1 : Nat → FieldType := fun k => match k with
  | 0 => .array .int
  | 1 => .int
  | _ => .int
abbrev wsX10 : List Cond := u_ws RX1 TX1 3
theorem nmX1 : ∀ a, a < 3 → ∀ b, b < 3 → a ≠ b → (TX1 a).2.1 ≠ (TX1 b).2.1 := by decide +kernel
theorem tyX1_ok : ∀ k, k < 3 → parseFieldDescriptor (TX1 k).2.2.1 = some (tyX1 k) := by decide +kernel
abbrev cX1_init : ByteArray := prog_3_method_1_code
def yX1_init : MethodName := ⟨RX1, "<init>", "()V"⟩
abbrev cX1_add : ByteArray := prog_3_method_2_code
def yX1_add : MethodName := ⟨RX1, "add", "(I)I"⟩
abbrev cX1_has : ByteArray := prog_3_method_3_code
def yX1_has : MethodName := ⟨RX1, "has", "(I)Z"⟩
abbrev cX1_creditsOf : ByteArray := prog_3_method_4_code
def yX1_creditsOf : MethodName := ⟨RX1, "creditsOf", "(I)I"⟩
abbrev cX1_remove : ByteArray := prog_3_method_5_code
def yX1_remove : MethodName := ⟨RX1, "remove", "(I)V"⟩
abbrev cX1_total : ByteArray := prog_3_method_6_code
def yX1_total : MethodName := ⟨RX1, "total", "()I"⟩
abbrev cX1_clear : ByteArray := prog_3_method_7_code
def yX1_clear : MethodName := ⟨RX1, "clear", "()V"⟩
def RX2 : String := "TermBill$Instalments"
def TX2 : u_T := fun k => match k with
  | 0 => ("TermBill$Instalments", "madeAt", "I", false)
  | 1 => ("TermBill$Instalments", "many", "I", false)
  | 2 => ("TermBill$Instalments", "first", "I", false)
  | 3 => ("TermBill$Instalments", "each", "I", false)
  | _ => ("TermBill$Instalments", "paidSince", "I", false)
def tyX2 : Nat → FieldType := fun k => match k with
  | 0 => .int
  | 1 => .int
  | 2 => .int
  | 3 => .int
  | _ => .int
abbrev wsX20 : List Cond := u_ws RX2 TX2 5
theorem nmX2 : ∀ a, a < 5 → ∀ b, b < 5 → a ≠ b → (TX2 a).2.1 ≠ (TX2 b).2.1 := by decide +kernel
theorem tyX2_ok : ∀ k, k < 5 → parseFieldDescriptor (TX2 k).2.2.1 = some (tyX2 k) := by decide +kernel
abbrev cX2_init : ByteArray := prog_4_method_1_code
def yX2_init : MethodName := ⟨RX2, "<init>", "()V"⟩
abbrev cX2_start : ByteArray := prog_4_method_2_code
def yX2_start : MethodName := ⟨RX2, "start", "(IIII)V"⟩
abbrev cX2_isLateAt : ByteArray := prog_4_method_3_code
def yX2_isLateAt : MethodName := ⟨RX2, "isLateAt", "(I)Z"⟩
def RX3 : String := "TermBill$Student"
def TX3 : u_T := fun k => match k with
  | 0 => ("TermBill$Student", "courses", "LTermBill$Courses;", true)
  | 1 => ("TermBill$Student", "aid", "LTermBill$Aid;", true)
  | 2 => ("TermBill$Student", "instalments", "LTermBill$Instalments;", true)
  | 3 => ("TermBill$Student", "level", "I", false)
  | 4 => ("TermBill$Student", "isResident", "Z", false)
  | 5 => ("TermBill$Student", "need", "I", false)
  | 6 => ("TermBill$Student", "fees", "I", false)
  | 7 => ("TermBill$Student", "housing", "I", false)
  | 8 => ("TermBill$Student", "sponsorKinds", "I", false)
  | 9 => ("TermBill$Student", "sponsorLimit", "I", false)
  | _ => ("TermBill$Student", "paidSum", "I", false)
def tyX3 : Nat → FieldType := fun k => match k with
  | 0 => .object "TermBill$Courses"
  | 1 => .object "TermBill$Aid"
  | 2 => .object "TermBill$Instalments"
  | 3 => .int
  | 4 => .boolean
  | 5 => .int
  | 6 => .int
  | 7 => .int
  | 8 => .int
  | 9 => .int
  | _ => .int
abbrev wsX30 : List Cond := u_ws RX3 TX3 11
theorem nmX3 : ∀ a, a < 11 → ∀ b, b < 11 → a ≠ b → (TX3 a).2.1 ≠ (TX3 b).2.1 := by decide +kernel
theorem tyX3_ok : ∀ k, k < 11 → parseFieldDescriptor (TX3 k).2.2.1 = some (tyX3 k) := by decide +kernel
abbrev cX3_init : ByteArray := prog_5_method_1_code
def yX3_init : MethodName := ⟨RX3, "<init>", "()V"⟩
abbrev cX3_beginTerm : ByteArray := prog_5_method_2_code
def yX3_beginTerm : MethodName := ⟨RX3, "beginTerm", "(I)V"⟩
def RX4 : String := "TermBill"
def TX4 : u_T := fun k => match k with
  | 0 => ("TermBill", "students", "[LTermBill$Student;", true)
  | 1 => ("TermBill", "rates", "[I", true)
  | 2 => ("TermBill", "shares", "[I", true)
  | 3 => ("TermBill", "bandFrom", "I", false)
  | 4 => ("TermBill", "bandTo", "I", false)
  | 5 => ("TermBill", "lateFee", "I", false)
  | 6 => ("TermBill", "holdLimit", "I", false)
  | 7 => ("TermBill", "week", "I", false)
  | _ => ("TermBill", "term", "I", false)
def tyX4 : Nat → FieldType := fun k => match k with
  | 0 => .array (.object "TermBill$Student")
  | 1 => .array .int
  | 2 => .array .int
  | 3 => .int
  | 4 => .int
  | 5 => .int
  | 6 => .int
  | 7 => .int
  | _ => .int
abbrev wsX40 : List Cond := u_ws RX4 TX4 9
theorem nmX4 : ∀ a, a < 9 → ∀ b, b < 9 → a ≠ b → (TX4 a).2.1 ≠ (TX4 b).2.1 := by decide +kernel
theorem tyX4_ok : ∀ k, k < 9 → parseFieldDescriptor (TX4 k).2.2.1 = some (tyX4 k) := by decide +kernel
abbrev cX4_init : ByteArray := prog_1_method_1_code
def yX4_init : MethodName := ⟨RX4, "<init>", "()V"⟩
abbrev cX4_setRate : ByteArray := prog_1_method_2_code
def yX4_setRate : MethodName := ⟨RX4, "setRate", "(IZI)I"⟩
abbrev cX4_setBand : ByteArray := prog_1_method_3_code
def yX4_setBand : MethodName := ⟨RX4, "setBand", "(II)V"⟩
abbrev cX4_setShare : ByteArray := prog_1_method_4_code
def yX4_setShare : MethodName := ⟨RX4, "setShare", "(II)I"⟩
abbrev cX4_setFees : ByteArray := prog_1_method_5_code
def yX4_setFees : MethodName := ⟨RX4, "setFees", "(II)V"⟩
abbrev cX4_setStudent : ByteArray := prog_1_method_6_code
def yX4_setStudent : MethodName := ⟨RX4, "setStudent", "(IIZI)V"⟩
abbrev cX4_setSponsor : ByteArray := prog_1_method_7_code
def yX4_setSponsor : MethodName := ⟨RX4, "setSponsor", "(III)V"⟩
abbrev cX4_take : ByteArray := prog_1_method_8_code
def yX4_take : MethodName := ⟨RX4, "take", "(II)I"⟩
abbrev cX4_drop : ByteArray := prog_1_method_9_code
def yX4_drop : MethodName := ⟨RX4, "drop", "(II)I"⟩
abbrev cX4_charge : ByteArray := prog_1_method_10_code
def yX4_charge : MethodName := ⟨RX4, "charge", "(III)I"⟩
abbrev cX4_award : ByteArray := prog_1_method_11_code
def yX4_award : MethodName := ⟨RX4, "award", "(III)I"⟩
abbrev cX4_pay : ByteArray := prog_1_method_12_code
def yX4_pay : MethodName := ⟨RX4, "pay", "(II)I"⟩
abbrev cX4_plan : ByteArray := prog_1_method_13_code
def yX4_plan : MethodName := ⟨RX4, "plan", "(II)I"⟩
abbrev cX4_leave : ByteArray := prog_1_method_14_code
def yX4_leave : MethodName := ⟨RX4, "leave", "(I)I"⟩
abbrev cX4_closeWeek : ByteArray := prog_1_method_15_code
def yX4_closeWeek : MethodName := ⟨RX4, "closeWeek", "()I"⟩
abbrev cX4_week : ByteArray := prog_1_method_16_code
def yX4_week : MethodName := ⟨RX4, "week", "()I"⟩
abbrev cX4_term : ByteArray := prog_1_method_17_code
def yX4_term : MethodName := ⟨RX4, "term", "()I"⟩
abbrev cX4_credits : ByteArray := prog_1_method_18_code
def yX4_credits : MethodName := ⟨RX4, "credits", "(I)I"⟩
abbrev cX4_charged : ByteArray := prog_1_method_19_code
def yX4_charged : MethodName := ⟨RX4, "charged", "(II)I"⟩
abbrev cX4_sponsored : ByteArray := prog_1_method_20_code
def yX4_sponsored : MethodName := ⟨RX4, "sponsored", "(I)I"⟩
abbrev cX4_used : ByteArray := prog_1_method_21_code
def yX4_used : MethodName := ⟨RX4, "used", "(II)I"⟩
abbrev cX4_amountOf : ByteArray := prog_1_method_22_code
def yX4_amountOf : MethodName := ⟨RX4, "amountOf", "(II)I"⟩
abbrev cX4_paid : ByteArray := prog_1_method_23_code
def yX4_paid : MethodName := ⟨RX4, "paid", "(I)I"⟩
abbrev cX4_owed : ByteArray := prog_1_method_24_code
def yX4_owed : MethodName := ⟨RX4, "owed", "(I)I"⟩
abbrev cX4_hasHold : ByteArray := prog_1_method_25_code
def yX4_hasHold : MethodName := ⟨RX4, "hasHold", "(I)Z"⟩
abbrev cX4_isWithin : ByteArray := prog_1_method_26_code
def yX4_isWithin : MethodName := ⟨RX4, "isWithin", "(III)Z"⟩
abbrev cX4_studentAt : ByteArray := prog_1_method_27_code
def yX4_studentAt : MethodName := ⟨RX4, "studentAt", "(I)LTermBill$Student;"⟩
abbrev cX4_weekNumber : ByteArray := prog_1_method_28_code
def yX4_weekNumber : MethodName := ⟨RX4, "weekNumber", "()I"⟩
abbrev cX4_placeOfRate : ByteArray := prog_1_method_29_code
def yX4_placeOfRate : MethodName := ⟨RX4, "placeOfRate", "(IZ)I"⟩
abbrev cX4_rateAt : ByteArray := prog_1_method_30_code
def yX4_rateAt : MethodName := ⟨RX4, "rateAt", "(I)I"⟩
abbrev cX4_shareNow : ByteArray := prog_1_method_31_code
def yX4_shareNow : MethodName := ⟨RX4, "shareNow", "()I"⟩
abbrev cX4_priceOf : ByteArray := prog_1_method_32_code
def yX4_priceOf : MethodName := ⟨RX4, "priceOf", "(II)I"⟩
abbrev cX4_dropCourse : ByteArray := prog_1_method_33_code
def yX4_dropCourse : MethodName := ⟨RX4, "dropCourse", "(LTermBill$Student;I)I"⟩
abbrev cX4_aidToGiveBack : ByteArray := prog_1_method_34_code
def yX4_aidToGiveBack : MethodName := ⟨RX4, "aidToGiveBack", "(I)I"⟩
abbrev cX4_chargesOf : ByteArray := prog_1_method_35_code
def yX4_chargesOf : MethodName := ⟨RX4, "chargesOf", "(LTermBill$Student;I)I"⟩
abbrev cX4_sponsorPart : ByteArray := prog_1_method_36_code
def yX4_sponsorPart : MethodName := ⟨RX4, "sponsorPart", "(LTermBill$Student;)I"⟩
abbrev cX4_unsponsored : ByteArray := prog_1_method_37_code
def yX4_unsponsored : MethodName := ⟨RX4, "unsponsored", "(LTermBill$Student;)I"⟩
abbrev cX4_balanceOf : ByteArray := prog_1_method_38_code
def yX4_balanceOf : MethodName := ⟨RX4, "balanceOf", "(LTermBill$Student;)I"⟩
abbrev cX4_endTerm : ByteArray := prog_1_method_39_code
def yX4_endTerm : MethodName := ⟨RX4, "endTerm", "()V"⟩
abbrev cX4_carriedTo : ByteArray := prog_1_method_40_code
def yX4_carriedTo : MethodName := ⟨RX4, "carriedTo", "(II)I"⟩
abbrev cX4_chargeLateFees : ByteArray := prog_1_method_41_code
def yX4_chargeLateFees : MethodName := ⟨RX4, "chargeLateFees", "()V"⟩
def RX5 : String := "TermBillModel"
def TX5 : u_T := fun k => match k with
  | 0 => ("TermBillModel", "thrown", "I", false)
  | 1 => ("TermBillModel", "week", "I", false)
  | 2 => ("TermBillModel", "term", "I", false)
  | 3 => ("TermBillModel", "rates", "[I", true)
  | 4 => ("TermBillModel", "from", "I", false)
  | 5 => ("TermBillModel", "to", "I", false)
  | 6 => ("TermBillModel", "table", "[I", true)
  | 7 => ("TermBillModel", "lateFee", "I", false)
  | 8 => ("TermBillModel", "limit", "I", false)
  | 9 => ("TermBillModel", "levels", "[I", true)
  | 10 => ("TermBillModel", "areResident", "[Z", true)
  | 11 => ("TermBillModel", "needs", "[I", true)
  | 12 => ("TermBillModel", "sponsorKinds", "[I", true)
  | 13 => ("TermBillModel", "sponsorLimits", "[I", true)
  | 14 => ("TermBillModel", "courses", "[I", true)
  | 15 => ("TermBillModel", "credits", "[I", true)
  | 16 => ("TermBillModel", "areDropped", "[Z", true)
  | 17 => ("TermBillModel", "kept", "[I", true)
  | 18 => ("TermBillModel", "fees", "[I", true)
  | 19 => ("TermBillModel", "housing", "[I", true)
  | 20 => ("TermBillModel", "awards", "[I", true)
  | 21 => ("TermBillModel", "ranks", "[I", true)
  | 22 => ("TermBillModel", "amounts", "[I", true)
  | 23 => ("TermBillModel", "paid", "[I", true)
  | 24 => ("TermBillModel", "planned", "[I", true)
  | 25 => ("TermBillModel", "parts", "[I", true)
  | 26 => ("TermBillModel", "rests", "[I", true)
  | 27 => ("TermBillModel", "madeAt", "[I", true)
  | _ => ("TermBillModel", "since", "[I", true)
def tyX5 : Nat → FieldType := fun k => match k with
  | 0 => .int
  | 1 => .int
  | 2 => .int
  | 3 => .array .int
  | 4 => .int
  | 5 => .int
  | 6 => .array .int
  | 7 => .int
  | 8 => .int
  | 9 => .array .int
  | 10 => .array .boolean
  | 11 => .array .int
  | 12 => .array .int
  | 13 => .array .int
  | 14 => .array .int
  | 15 => .array .int
  | 16 => .array .boolean
  | 17 => .array .int
  | 18 => .array .int
  | 19 => .array .int
  | 20 => .array .int
  | 21 => .array .int
  | 22 => .array .int
  | 23 => .array .int
  | 24 => .array .int
  | 25 => .array .int
  | 26 => .array .int
  | 27 => .array .int
  | _ => .array .int
abbrev wsX50 : List Cond := u_ws RX5 TX5 29
theorem nmX5 : ∀ a, a < 29 → ∀ b, b < 29 → a ≠ b → (TX5 a).2.1 ≠ (TX5 b).2.1 := by decide +kernel
theorem tyX5_ok : ∀ k, k < 29 → parseFieldDescriptor (TX5 k).2.2.1 = some (tyX5 k) := by decide +kernel
abbrev cX5_init : ByteArray := prog_7_method_1_code
def yX5_init : MethodName := ⟨RX5, "<init>", "()V"⟩
abbrev cX5_thrown : ByteArray := prog_7_method_2_code
def yX5_thrown : MethodName := ⟨RX5, "thrown", "()I"⟩
abbrev cX5_holds : ByteArray := prog_7_method_3_code
def yX5_holds : MethodName := ⟨RX5, "holds", "(I)Z"⟩
abbrev cX5_in : ByteArray := prog_7_method_4_code
def yX5_in : MethodName := ⟨RX5, "in", "(III)Z"⟩
abbrev cX5_isStudent : ByteArray := prog_7_method_5_code
def yX5_isStudent : MethodName := ⟨RX5, "isStudent", "(I)Z"⟩
abbrev cX5_least : ByteArray := prog_7_method_6_code
def yX5_least : MethodName := ⟨RX5, "least", "(II)I"⟩
abbrev cX5_rateOf : ByteArray := prog_7_method_7_code
def yX5_rateOf : MethodName := ⟨RX5, "rateOf", "(IZ)I"⟩
abbrev cX5_setRate : ByteArray := prog_7_method_8_code
def yX5_setRate : MethodName := ⟨RX5, "setRate", "(IZI)I"⟩
abbrev cX5_setBand : ByteArray := prog_7_method_9_code
def yX5_setBand : MethodName := ⟨RX5, "setBand", "(II)V"⟩
abbrev cX5_setShare : ByteArray := prog_7_method_10_code
def yX5_setShare : MethodName := ⟨RX5, "setShare", "(II)I"⟩
abbrev cX5_setFees : ByteArray := prog_7_method_11_code
def yX5_setFees : MethodName := ⟨RX5, "setFees", "(II)V"⟩
abbrev cX5_setStudent : ByteArray := prog_7_method_12_code
def yX5_setStudent : MethodName := ⟨RX5, "setStudent", "(IIZI)V"⟩
abbrev cX5_setSponsor : ByteArray := prog_7_method_13_code
def yX5_setSponsor : MethodName := ⟨RX5, "setSponsor", "(III)V"⟩
abbrev cX5_creditsOf : ByteArray := prog_7_method_14_code
def yX5_creditsOf : MethodName := ⟨RX5, "creditsOf", "(I)I"⟩
abbrev cX5_price : ByteArray := prog_7_method_15_code
def yX5_price : MethodName := ⟨RX5, "price", "(II)I"⟩
abbrev cX5_chargedOf : ByteArray := prog_7_method_16_code
def yX5_chargedOf : MethodName := ⟨RX5, "chargedOf", "(II)I"⟩
abbrev cX5_all : ByteArray := prog_7_method_17_code
def yX5_all : MethodName := ⟨RX5, "all", "(I)I"⟩
abbrev cX5_sponsoredOf : ByteArray := prog_7_method_18_code
def yX5_sponsoredOf : MethodName := ⟨RX5, "sponsoredOf", "(I)I"⟩
abbrev cX5_usedOf : ByteArray := prog_7_method_19_code
def yX5_usedOf : MethodName := ⟨RX5, "usedOf", "(II)I"⟩
abbrev cX5_owedOf : ByteArray := prog_7_method_20_code
def yX5_owedOf : MethodName := ⟨RX5, "owedOf", "(I)I"⟩
abbrev cX5_take : ByteArray := prog_7_method_21_code
def yX5_take : MethodName := ⟨RX5, "take", "(II)I"⟩
abbrev cX5_drops : ByteArray := prog_7_method_22_code
def yX5_drops : MethodName := ⟨RX5, "drops", "(II)I"⟩
abbrev cX5_drop : ByteArray := prog_7_method_23_code
def yX5_drop : MethodName := ⟨RX5, "drop", "(II)I"⟩
abbrev cX5_charge : ByteArray := prog_7_method_24_code
def yX5_charge : MethodName := ⟨RX5, "charge", "(III)I"⟩
abbrev cX5_award : ByteArray := prog_7_method_25_code
def yX5_award : MethodName := ⟨RX5, "award", "(III)I"⟩
abbrev cX5_pay : ByteArray := prog_7_method_26_code
def yX5_pay : MethodName := ⟨RX5, "pay", "(II)I"⟩
abbrev cX5_plan : ByteArray := prog_7_method_27_code
def yX5_plan : MethodName := ⟨RX5, "plan", "(II)I"⟩
abbrev cX5_leave : ByteArray := prog_7_method_28_code
def yX5_leave : MethodName := ⟨RX5, "leave", "(I)I"⟩
abbrev cX5_carries : ByteArray := prog_7_method_29_code
def yX5_carries : MethodName := ⟨RX5, "carries", "(II)V"⟩
abbrev cX5_endsTerm : ByteArray := prog_7_method_30_code
def yX5_endsTerm : MethodName := ⟨RX5, "endsTerm", "()V"⟩
abbrev cX5_falls : ByteArray := prog_7_method_31_code
def yX5_falls : MethodName := ⟨RX5, "falls", "(I)V"⟩
abbrev cX5_closeWeek : ByteArray := prog_7_method_32_code
def yX5_closeWeek : MethodName := ⟨RX5, "closeWeek", "()I"⟩
abbrev cX5_week : ByteArray := prog_7_method_33_code
def yX5_week : MethodName := ⟨RX5, "week", "()I"⟩
abbrev cX5_term : ByteArray := prog_7_method_34_code
def yX5_term : MethodName := ⟨RX5, "term", "()I"⟩
abbrev cX5_credits : ByteArray := prog_7_method_35_code
def yX5_credits : MethodName := ⟨RX5, "credits", "(I)I"⟩
abbrev cX5_charged : ByteArray := prog_7_method_36_code
def yX5_charged : MethodName := ⟨RX5, "charged", "(II)I"⟩
abbrev cX5_sponsored : ByteArray := prog_7_method_37_code
def yX5_sponsored : MethodName := ⟨RX5, "sponsored", "(I)I"⟩
abbrev cX5_isAward : ByteArray := prog_7_method_38_code
def yX5_isAward : MethodName := ⟨RX5, "isAward", "(II)Z"⟩
abbrev cX5_used : ByteArray := prog_7_method_39_code
def yX5_used : MethodName := ⟨RX5, "used", "(II)I"⟩
abbrev cX5_amountOf : ByteArray := prog_7_method_40_code
def yX5_amountOf : MethodName := ⟨RX5, "amountOf", "(II)I"⟩
abbrev cX5_paid : ByteArray := prog_7_method_41_code
def yX5_paid : MethodName := ⟨RX5, "paid", "(I)I"⟩
abbrev cX5_owed : ByteArray := prog_7_method_42_code
def yX5_owed : MethodName := ⟨RX5, "owed", "(I)I"⟩
abbrev cX5_hasHold : ByteArray := prog_7_method_43_code
def yX5_hasHold : MethodName := ⟨RX5, "hasHold", "(I)Z"⟩
def RJx145de : String := "java/io/Serializable"
def TJx145de : u_T := fun k => match k with
  | _ => ("", "", "", false)
def tyJx145de : Nat → FieldType := fun k => match k with
  | _ => .int
abbrev wsJx145de0 : List Cond := u_ws RJx145de TJx145de 0
theorem nmJx145de : ∀ a, a < 0 → ∀ b, b < 0 → a ≠ b → (TJx145de a).2.1 ≠ (TJx145de b).2.1 := by decide +kernel
theorem tyJx145de_ok : ∀ k, k < 0 → parseFieldDescriptor (TJx145de k).2.2.1 = some (tyJx145de k) := by decide +kernel
def RJ9 : String := "java/lang/Math"
def TJ9 : u_T := fun k => match k with
  | _ => ("", "", "", false)
def tyJ9 : Nat → FieldType := fun k => match k with
  | _ => .int
abbrev wsJ90 : List Cond := u_ws RJ9 TJ9 0
theorem nmJ9 : ∀ a, a < 0 → ∀ b, b < 0 → a ≠ b → (TJ9 a).2.1 ≠ (TJ9 b).2.1 := by decide +kernel
theorem tyJ9_ok : ∀ k, k < 0 → parseFieldDescriptor (TJ9 k).2.2.1 = some (tyJ9 k) := by decide +kernel
abbrev cJ9_max_7cf53 : ByteArray := prog_12_method_65_code
def yJ9_max_7cf53 : MethodName := ⟨RJ9, "max", "(II)I"⟩
abbrev cJ9_min_7cf53 : ByteArray := prog_12_method_69_code
def yJ9_min_7cf53 : MethodName := ⟨RJ9, "min", "(II)I"⟩
def RJ0 : String := "java/lang/String"
def TJ0 : u_T := fun k => match k with
  | _ => ("", "", "", false)
def tyJ0 : Nat → FieldType := fun k => match k with
  | _ => .int
abbrev wsJ00 : List Cond := u_ws RJ0 TJ0 0
theorem nmJ0 : ∀ a, a < 0 → ∀ b, b < 0 → a ≠ b → (TJ0 a).2.1 ≠ (TJ0 b).2.1 := by decide +kernel
theorem tyJ0_ok : ∀ k, k < 0 → parseFieldDescriptor (TJ0 k).2.2.1 = some (tyJ0 k) := by decide +kernel
def RJ7 : String := "java/util/Arrays"
def TJ7 : u_T := fun k => match k with
  | _ => ("", "", "", false)
def tyJ7 : Nat → FieldType := fun k => match k with
  | _ => .int
abbrev wsJ70 : List Cond := u_ws RJ7 TJ7 0
theorem nmJ7 : ∀ a, a < 0 → ∀ b, b < 0 → a ≠ b → (TJ7 a).2.1 ≠ (TJ7 b).2.1 := by decide +kernel
theorem tyJ7_ok : ∀ k, k < 0 → parseFieldDescriptor (TJ7 k).2.2.1 = some (tyJ7 k) := by decide +kernel
abbrev cJ7_fill_53178 : ByteArray := prog_16_method_103_code
def yJ7_fill_53178 : MethodName := ⟨RJ7, "fill", "([II)V"⟩
def RL : String := "TermBillLaw"
abbrev cL_setRate : ByteArray := method_3_code
def yL_setRate : MethodName := ⟨RL, "setRate", "(LTermBill;IZI[J)I"⟩
abbrev cL_setBand : ByteArray := method_4_code
def yL_setBand : MethodName := ⟨RL, "setBand", "(LTermBill;II)I"⟩
abbrev cL_setShare : ByteArray := method_5_code
def yL_setShare : MethodName := ⟨RL, "setShare", "(LTermBill;II[J)I"⟩
abbrev cL_setFees : ByteArray := method_6_code
def yL_setFees : MethodName := ⟨RL, "setFees", "(LTermBill;II)I"⟩
abbrev cL_setStudent : ByteArray := method_7_code
def yL_setStudent : MethodName := ⟨RL, "setStudent", "(LTermBill;IIZI)I"⟩
abbrev cL_setSponsor : ByteArray := method_8_code
def yL_setSponsor : MethodName := ⟨RL, "setSponsor", "(LTermBill;III)I"⟩
abbrev cL_take : ByteArray := method_9_code
def yL_take : MethodName := ⟨RL, "take", "(LTermBill;II[J)I"⟩
abbrev cL_drop : ByteArray := method_10_code
def yL_drop : MethodName := ⟨RL, "drop", "(LTermBill;II[J)I"⟩
abbrev cL_charge : ByteArray := method_11_code
def yL_charge : MethodName := ⟨RL, "charge", "(LTermBill;III[J)I"⟩
abbrev cL_award : ByteArray := method_12_code
def yL_award : MethodName := ⟨RL, "award", "(LTermBill;III[J)I"⟩
abbrev cL_pay : ByteArray := method_13_code
def yL_pay : MethodName := ⟨RL, "pay", "(LTermBill;II[J)I"⟩
abbrev cL_plan : ByteArray := method_14_code
def yL_plan : MethodName := ⟨RL, "plan", "(LTermBill;II[J)I"⟩
abbrev cL_leave : ByteArray := method_15_code
def yL_leave : MethodName := ⟨RL, "leave", "(LTermBill;I[J)I"⟩
abbrev cL_closeWeek : ByteArray := method_16_code
def yL_closeWeek : MethodName := ⟨RL, "closeWeek", "(LTermBill;[J)I"⟩
abbrev cL_credits : ByteArray := method_17_code
def yL_credits : MethodName := ⟨RL, "credits", "(LTermBill;I[J)I"⟩
abbrev cL_charged : ByteArray := method_18_code
def yL_charged : MethodName := ⟨RL, "charged", "(LTermBill;II[J)I"⟩
abbrev cL_sponsored : ByteArray := method_19_code
def yL_sponsored : MethodName := ⟨RL, "sponsored", "(LTermBill;I[J)I"⟩
abbrev cL_used : ByteArray := method_20_code
def yL_used : MethodName := ⟨RL, "used", "(LTermBill;II[J)I"⟩
abbrev cL_amountOf : ByteArray := method_21_code
def yL_amountOf : MethodName := ⟨RL, "amountOf", "(LTermBill;II[J)I"⟩
abbrev cL_paid : ByteArray := method_22_code
def yL_paid : MethodName := ⟨RL, "paid", "(LTermBill;I[J)I"⟩
abbrev cL_owed : ByteArray := method_23_code
def yL_owed : MethodName := ⟨RL, "owed", "(LTermBill;I[J)I"⟩
abbrev cL_hasHold : ByteArray := method_24_code
def yL_hasHold : MethodName := ⟨RL, "hasHold", "(LTermBill;I[J)I"⟩
abbrev cL_law : ByteArray := code
def yL_law : MethodName := ⟨RL, "law", "([I)Z"⟩
def wsX0_init : List Cond := .code yX0_init cX0_init 1 none :: ([.methodLink RX0 3 objectInit, .instanceMethod objectInit, .code objectInit ⟨#[0xb1]⟩ 1 none, .arrayClass .int, .fieldLink RX0 9 "TermBill$Aid" "ranks" "[I", .fieldLink RX0 15 "TermBill$Aid" "amounts" "[I", .fieldLink RX0 18 "TermBill$Aid" "uses" "[I", .fieldLink RX0 21 "TermBill$Aid" "many" "I"] ++ wsX00)
def wsX0_add : List Cond := .code yX0_add cX0_add 3 (some .int) :: ([.fieldLink RX0 21 "TermBill$Aid" "many" "I", .fieldLink RX0 9 "TermBill$Aid" "ranks" "[I", .fieldLink RX0 15 "TermBill$Aid" "amounts" "[I"] ++ wsX00)
def wsX0_has : List Cond := .code yX0_has cX0_has 2 (some .boolean) :: ([.fieldLink RX0 21 "TermBill$Aid" "many" "I"] ++ wsX00)
def wsX0_sumOf : List Cond := .code yX0_sumOf cX0_sumOf 2 (some .int) :: ([.fieldLink RX0 15 "TermBill$Aid" "amounts" "[I"] ++ wsX00)
def wsX0_useOf : List Cond := .code yX0_useOf cX0_useOf 2 (some .int) :: ([.fieldLink RX0 18 "TermBill$Aid" "uses" "[I"] ++ wsX00)
def wsX0_total : List Cond := .code yX0_total cX0_total 3 (some .int) :: ([.fieldLink RX0 15 "TermBill$Aid" "amounts" "[I"] ++ wsX00)
def wsX0_cover : List Cond := .code yX0_cover cX0_cover 8 (some .int) :: ([.fieldLink RX0 9 "TermBill$Aid" "ranks" "[I", .methodLink RX0 25 Lib.Math.min.name, .static Lib.Math.min.name, .initialized "java/lang/Math", .code Lib.Math.min.name Lib.Math.min.code 2 (some .int), .fieldLink RX0 18 "TermBill$Aid" "uses" "[I", .fieldLink RX0 15 "TermBill$Aid" "amounts" "[I"] ++ wsX00)
def wsX0_takeOff : List Cond := .code yX0_takeOff cX0_takeOff 6 none :: ([.fieldLink RX0 9 "TermBill$Aid" "ranks" "[I", .fieldLink RX0 15 "TermBill$Aid" "amounts" "[I", .methodLink RX0 25 Lib.Math.min.name, .static Lib.Math.min.name, .initialized "java/lang/Math", .code Lib.Math.min.name Lib.Math.min.code 2 (some .int)] ++ wsX00)
def wsJ7_fill_53178 : List Cond := .code yJ7_fill_53178 cJ7_fill_53178 4 none :: ([])
def wsX0_clear : List Cond := .code yX0_clear cX0_clear 1 none :: ([.fieldLink RX0 15 "TermBill$Aid" "amounts" "[I", .fieldLink RX0 21 "TermBill$Aid" "many" "I", .methodLink RX0 31 yJ7_fill_53178, .static yJ7_fill_53178, .initialized RJ7, .code yJ7_fill_53178 cJ7_fill_53178 4 none] ++ wsX00)
def wsX1_init : List Cond := .code yX1_init cX1_init 1 none :: ([.methodLink RX1 3 objectInit, .instanceMethod objectInit, .code objectInit ⟨#[0xb1]⟩ 1 none, .arrayClass .int, .fieldLink RX1 9 "TermBill$Courses" "creditsByCourse" "[I", .fieldLink RX1 15 "TermBill$Courses" "taken" "I", .fieldLink RX1 19 "TermBill$Courses" "keptSum" "I"] ++ wsX10)
def wsX1_add : List Cond := .code yX1_add cX1_add 2 (some .int) :: ([.fieldLink RX1 15 "TermBill$Courses" "taken" "I", .fieldLink RX1 9 "TermBill$Courses" "creditsByCourse" "[I"] ++ wsX10)
def wsX1_has : List Cond := .code yX1_has cX1_has 2 (some .boolean) :: ([.fieldLink RX1 15 "TermBill$Courses" "taken" "I"] ++ wsX10)
def wsX1_creditsOf : List Cond := .code yX1_creditsOf cX1_creditsOf 2 (some .int) :: ([.fieldLink RX1 9 "TermBill$Courses" "creditsByCourse" "[I"] ++ wsX10)
def wsX1_remove : List Cond := .code yX1_remove cX1_remove 2 none :: ([.fieldLink RX1 9 "TermBill$Courses" "creditsByCourse" "[I"] ++ wsX10)
def wsX1_total : List Cond := .code yX1_total cX1_total 3 (some .int) :: ([.fieldLink RX1 9 "TermBill$Courses" "creditsByCourse" "[I"] ++ wsX10)
def wsX1_clear : List Cond := .code yX1_clear cX1_clear 1 none :: ([.fieldLink RX1 9 "TermBill$Courses" "creditsByCourse" "[I", .fieldLink RX1 15 "TermBill$Courses" "taken" "I", .fieldLink RX1 19 "TermBill$Courses" "keptSum" "I", .methodLink RX1 22 yJ7_fill_53178, .static yJ7_fill_53178, .initialized RJ7, .code yJ7_fill_53178 cJ7_fill_53178 4 none] ++ wsX10)
def wsX2_init : List Cond := .code yX2_init cX2_init 1 none :: ([.methodLink RX2 3 objectInit, .instanceMethod objectInit, .code objectInit ⟨#[0xb1]⟩ 1 none, .fieldLink RX2 9 "TermBill$Instalments" "madeAt" "I", .fieldLink RX2 15 "TermBill$Instalments" "many" "I", .fieldLink RX2 18 "TermBill$Instalments" "first" "I", .fieldLink RX2 21 "TermBill$Instalments" "each" "I", .fieldLink RX2 24 "TermBill$Instalments" "paidSince" "I"] ++ wsX20)
def wsX2_start : List Cond := .code yX2_start cX2_start 5 none :: ([.fieldLink RX2 9 "TermBill$Instalments" "madeAt" "I", .fieldLink RX2 15 "TermBill$Instalments" "many" "I", .fieldLink RX2 18 "TermBill$Instalments" "first" "I", .fieldLink RX2 21 "TermBill$Instalments" "each" "I", .fieldLink RX2 24 "TermBill$Instalments" "paidSince" "I"] ++ wsX20)
def wsX2_isLateAt : List Cond := .code yX2_isLateAt cX2_isLateAt 4 (some .boolean) :: ([.fieldLink RX2 9 "TermBill$Instalments" "madeAt" "I", .fieldLink RX2 15 "TermBill$Instalments" "many" "I", .fieldLink RX2 24 "TermBill$Instalments" "paidSince" "I", .fieldLink RX2 18 "TermBill$Instalments" "first" "I", .fieldLink RX2 21 "TermBill$Instalments" "each" "I"] ++ wsX20)
def wsX3_init_r1 : List Cond := [Cond.methodLink RX3 1 objectInit, Cond.instanceMethod objectInit, Cond.code objectInit ⟨#[0xb1]⟩ 1 none, Cond.classLink RX3 7 RX1, Cond.instantiable RX1 3, Cond.initialized RX1, Cond.fieldLink RX3 10 "TermBill$Student" "courses" "LTermBill$Courses;", Cond.classLink RX3 16 RX0, Cond.instantiable RX0 4, Cond.initialized RX0, Cond.fieldLink RX3 19 "TermBill$Student" "aid" "LTermBill$Aid;", Cond.classLink RX3 23 RX2, Cond.instantiable RX2 5, Cond.initialized RX2, Cond.fieldLink RX3 26 "TermBill$Student" "instalments" "LTermBill$Instalments;", Cond.fieldLink RX3 30 "TermBill$Student" "level" "I", Cond.fieldLink RX3 34 "TermBill$Student" "isResident" "Z", Cond.fieldLink RX3 38 "TermBill$Student" "need" "I", Cond.fieldLink RX3 41 "TermBill$Student" "fees" "I", Cond.fieldLink RX3 44 "TermBill$Student" "housing" "I", Cond.fieldLink RX3 47 "TermBill$Student" "sponsorKinds" "I", Cond.fieldLink RX3 50 "TermBill$Student" "sponsorLimit" "I", Cond.fieldLink RX3 53 "TermBill$Student" "paidSum" "I", Cond.instanceMethod yX1_init]
def wsX3_init_r2 : List Cond := [Cond.code yX1_init cX1_init 1 none, Cond.methodLink RX1 3 objectInit, Cond.arrayClass .int, Cond.fieldLink RX1 9 "TermBill$Courses" "creditsByCourse" "[I", Cond.fieldLink RX1 15 "TermBill$Courses" "taken" "I", Cond.fieldLink RX1 19 "TermBill$Courses" "keptSum" "I", Cond.instanceMethod yX0_init, Cond.code yX0_init cX0_init 1 none, Cond.methodLink RX0 3 objectInit, Cond.fieldLink RX0 9 "TermBill$Aid" "ranks" "[I", Cond.fieldLink RX0 15 "TermBill$Aid" "amounts" "[I", Cond.fieldLink RX0 18 "TermBill$Aid" "uses" "[I", Cond.fieldLink RX0 21 "TermBill$Aid" "many" "I", Cond.instanceMethod yX2_init, Cond.code yX2_init cX2_init 1 none, Cond.methodLink RX2 3 objectInit, Cond.fieldLink RX2 9 "TermBill$Instalments" "madeAt" "I", Cond.fieldLink RX2 15 "TermBill$Instalments" "many" "I", Cond.fieldLink RX2 18 "TermBill$Instalments" "first" "I", Cond.fieldLink RX2 21 "TermBill$Instalments" "each" "I", Cond.fieldLink RX2 24 "TermBill$Instalments" "paidSince" "I"]
def wsX3_init : List Cond := .code yX3_init cX3_init 1 none :: ((wsX3_init_r1 ++ wsX3_init_r2) ++ wsX10 ++ wsX30 ++ wsX00 ++ wsX20)
def wsX3_beginTerm_r1 : List Cond := [Cond.fieldLink RX3 10 "TermBill$Student" "courses" "LTermBill$Courses;", Cond.fieldLink RX3 19 "TermBill$Student" "aid" "LTermBill$Aid;", Cond.fieldLink RX3 47 "TermBill$Student" "sponsorKinds" "I", Cond.fieldLink RX3 50 "TermBill$Student" "sponsorLimit" "I", Cond.fieldLink RX3 44 "TermBill$Student" "housing" "I", Cond.methodLink RX3 60 Lib.Math.max.name, Cond.static Lib.Math.max.name, Cond.initialized "java/lang/Math", Cond.code Lib.Math.max.name Lib.Math.max.code 2 (some .int), Cond.fieldLink RX3 41 "TermBill$Student" "fees" "I", Cond.fieldLink RX3 53 "TermBill$Student" "paidSum" "I", Cond.methodLink RX3 56 yX1_clear, Cond.instanceMethod yX1_clear, Cond.selects RX1 yX1_clear yX1_clear, Cond.initialized RX1, Cond.code yX1_clear cX1_clear 1 none, Cond.fieldLink RX1 9 "TermBill$Courses" "creditsByCourse" "[I", Cond.fieldLink RX1 15 "TermBill$Courses" "taken" "I", Cond.fieldLink RX1 19 "TermBill$Courses" "keptSum" "I", Cond.methodLink RX1 22 yJ7_fill_53178, Cond.static yJ7_fill_53178, Cond.initialized RJ7, Cond.code yJ7_fill_53178 cJ7_fill_53178 4 none, Cond.methodLink RX3 59 yX0_clear]
def wsX3_beginTerm_r2 : List Cond := [Cond.instanceMethod yX0_clear, Cond.selects RX0 yX0_clear yX0_clear, Cond.initialized RX0, Cond.code yX0_clear cX0_clear 1 none, Cond.fieldLink RX0 15 "TermBill$Aid" "amounts" "[I", Cond.fieldLink RX0 21 "TermBill$Aid" "many" "I", Cond.methodLink RX0 31 yJ7_fill_53178]
def wsX3_beginTerm : List Cond := .code yX3_beginTerm cX3_beginTerm 2 none :: ((wsX3_beginTerm_r1 ++ wsX3_beginTerm_r2) ++ wsX30 ++ wsX10 ++ wsX00)
def wsX4_init_r1 : List Cond := [Cond.methodLink RX4 3 objectInit, Cond.instanceMethod objectInit, Cond.code objectInit ⟨#[0xb1]⟩ 1 none, Cond.classLink RX4 9 RX3, Cond.fieldLink RX4 11 "TermBill" "students" "[LTermBill$Student;", Cond.arrayClass .int, Cond.fieldLink RX4 15 "TermBill" "rates" "[I", Cond.fieldLink RX4 19 "TermBill" "shares" "[I", Cond.fieldLink RX4 22 "TermBill" "bandFrom" "I", Cond.fieldLink RX4 26 "TermBill" "bandTo" "I", Cond.fieldLink RX4 29 "TermBill" "lateFee" "I", Cond.fieldLink RX4 32 "TermBill" "holdLimit" "I", Cond.fieldLink RX4 35 "TermBill" "week" "I", Cond.fieldLink RX4 38 "TermBill" "term" "I", Cond.instantiable RX3 11, Cond.initialized RX3, Cond.instanceMethod yX3_init, Cond.code yX3_init cX3_init 1 none, Cond.methodLink RX3 1 objectInit, Cond.classLink RX3 7 RX1, Cond.instantiable RX1 3, Cond.initialized RX1, Cond.fieldLink RX3 10 "TermBill$Student" "courses" "LTermBill$Courses;", Cond.classLink RX3 16 RX0]
def wsX4_init_r2 : List Cond := [Cond.instantiable RX0 4, Cond.initialized RX0, Cond.fieldLink RX3 19 "TermBill$Student" "aid" "LTermBill$Aid;", Cond.classLink RX3 23 RX2, Cond.instantiable RX2 5, Cond.initialized RX2, Cond.fieldLink RX3 26 "TermBill$Student" "instalments" "LTermBill$Instalments;", Cond.fieldLink RX3 30 "TermBill$Student" "level" "I", Cond.fieldLink RX3 34 "TermBill$Student" "isResident" "Z", Cond.fieldLink RX3 38 "TermBill$Student" "need" "I", Cond.fieldLink RX3 41 "TermBill$Student" "fees" "I", Cond.fieldLink RX3 44 "TermBill$Student" "housing" "I", Cond.fieldLink RX3 47 "TermBill$Student" "sponsorKinds" "I", Cond.fieldLink RX3 50 "TermBill$Student" "sponsorLimit" "I", Cond.fieldLink RX3 53 "TermBill$Student" "paidSum" "I", Cond.instanceMethod yX1_init, Cond.code yX1_init cX1_init 1 none, Cond.methodLink RX1 3 objectInit, Cond.fieldLink RX1 9 "TermBill$Courses" "creditsByCourse" "[I", Cond.fieldLink RX1 15 "TermBill$Courses" "taken" "I", Cond.fieldLink RX1 19 "TermBill$Courses" "keptSum" "I", Cond.instanceMethod yX0_init, Cond.code yX0_init cX0_init 1 none, Cond.methodLink RX0 3 objectInit]
def wsX4_init_r3 : List Cond := [Cond.fieldLink RX0 9 "TermBill$Aid" "ranks" "[I", Cond.fieldLink RX0 15 "TermBill$Aid" "amounts" "[I", Cond.fieldLink RX0 18 "TermBill$Aid" "uses" "[I", Cond.fieldLink RX0 21 "TermBill$Aid" "many" "I", Cond.instanceMethod yX2_init, Cond.code yX2_init cX2_init 1 none, Cond.methodLink RX2 3 objectInit, Cond.fieldLink RX2 9 "TermBill$Instalments" "madeAt" "I", Cond.fieldLink RX2 15 "TermBill$Instalments" "many" "I", Cond.fieldLink RX2 18 "TermBill$Instalments" "first" "I", Cond.fieldLink RX2 21 "TermBill$Instalments" "each" "I", Cond.fieldLink RX2 24 "TermBill$Instalments" "paidSince" "I", Cond.methodLink RX4 42 yJ7_fill_53178, Cond.static yJ7_fill_53178, Cond.initialized RJ7, Cond.code yJ7_fill_53178 cJ7_fill_53178 4 none]
def wsX4_init : List Cond := .code yX4_init cX4_init 2 none :: ((wsX4_init_r1 ++ (wsX4_init_r2 ++ wsX4_init_r3)) ++ wsX40 ++ wsX30 ++ wsX10 ++ wsX00 ++ wsX20)
def wsX4_placeOfRate : List Cond := .code yX4_placeOfRate cX4_placeOfRate 2 (some .int) :: ([])
def wsX4_isWithin : List Cond := .code yX4_isWithin cX4_isWithin 3 (some .boolean) :: ([])
def wsX4_setRate : List Cond := .code yX4_setRate cX4_setRate 6 (some .int) :: ([.classLink RX4 57 "java/lang/IllegalArgumentException", .initialized "java/lang/IllegalArgumentException", .fieldLink RX4 15 "TermBill" "rates" "[I", .constant RX4 52 (100000), .methodLink RX4 48 yX4_placeOfRate, .static yX4_placeOfRate, .initialized RX4, .code yX4_placeOfRate cX4_placeOfRate 2 (some .int), .methodLink RX4 53 yX4_isWithin, .static yX4_isWithin, .code yX4_isWithin cX4_isWithin 3 (some .boolean)] ++ wsX40 ++ (vx_atS RX4 61 "java/lang/IllegalArgumentException" ["java/lang/RuntimeException", "java/lang/Exception"]).filter goodWord)
def wsX4_setBand : List Cond := .code yX4_setBand cX4_setBand 3 none :: ([.classLink RX4 57 "java/lang/IllegalArgumentException", .initialized "java/lang/IllegalArgumentException", .fieldLink RX4 22 "TermBill" "bandFrom" "I", .fieldLink RX4 26 "TermBill" "bandTo" "I", .methodLink RX4 53 yX4_isWithin, .static yX4_isWithin, .initialized RX4, .code yX4_isWithin cX4_isWithin 3 (some .boolean)] ++ wsX40 ++ (vx_atS RX4 61 "java/lang/IllegalArgumentException" ["java/lang/RuntimeException", "java/lang/Exception"]).filter goodWord)
def wsX4_setShare : List Cond := .code yX4_setShare cX4_setShare 4 (some .int) :: ([.classLink RX4 57 "java/lang/IllegalArgumentException", .initialized "java/lang/IllegalArgumentException", .fieldLink RX4 19 "TermBill" "shares" "[I", .methodLink RX4 53 yX4_isWithin, .static yX4_isWithin, .initialized RX4, .code yX4_isWithin cX4_isWithin 3 (some .boolean)] ++ wsX40 ++ (vx_atS RX4 61 "java/lang/IllegalArgumentException" ["java/lang/RuntimeException", "java/lang/Exception"]).filter goodWord)
def wsX4_setFees : List Cond := .code yX4_setFees cX4_setFees 3 none :: ([.classLink RX4 57 "java/lang/IllegalArgumentException", .initialized "java/lang/IllegalArgumentException", .constant RX4 52 (100000), .constant RX4 68 (1000000), .fieldLink RX4 29 "TermBill" "lateFee" "I", .fieldLink RX4 32 "TermBill" "holdLimit" "I", .methodLink RX4 53 yX4_isWithin, .static yX4_isWithin, .initialized RX4, .code yX4_isWithin cX4_isWithin 3 (some .boolean)] ++ wsX40 ++ (vx_atS RX4 61 "java/lang/IllegalArgumentException" ["java/lang/RuntimeException", "java/lang/Exception"]).filter goodWord)
def wsX4_studentAt : List Cond := .code yX4_studentAt cX4_studentAt 3 (some (.object "TermBill$Student")) :: ([.classLink RX4 116 "java/lang/IndexOutOfBoundsException", .initialized "java/lang/IndexOutOfBoundsException", .fieldLink RX4 11 "TermBill" "students" "[LTermBill$Student;"] ++ wsX40 ++ (vx_atS RX4 120 "java/lang/IndexOutOfBoundsException" ["java/lang/RuntimeException", "java/lang/Exception"]).filter goodWord)
def wsX4_setStudent : List Cond := .code yX4_setStudent cX4_setStudent 6 none :: ([.classLink RX4 57 "java/lang/IllegalArgumentException", .initialized "java/lang/IllegalArgumentException", .constant RX4 68 (1000000), .fieldLink RX4 77 "TermBill$Student" "level" "I", .fieldLink RX4 80 "TermBill$Student" "isResident" "Z", .fieldLink RX4 84 "TermBill$Student" "need" "I", .methodLink RX4 71 yX4_studentAt, .instanceMethod yX4_studentAt, .selects RX4 yX4_studentAt yX4_studentAt, .initialized RX4, .code yX4_studentAt cX4_studentAt 3 (some (.object "TermBill$Student")), .classLink RX4 116 "java/lang/IndexOutOfBoundsException", .initialized "java/lang/IndexOutOfBoundsException", .fieldLink RX4 11 "TermBill" "students" "[LTermBill$Student;", .methodLink RX4 53 yX4_isWithin, .static yX4_isWithin, .code yX4_isWithin cX4_isWithin 3 (some .boolean)] ++ wsX30 ++ wsX40 ++ (vx_atS RX4 61 "java/lang/IllegalArgumentException" ["java/lang/RuntimeException", "java/lang/Exception"]).filter goodWord ++ (vx_atS RX4 120 "java/lang/IndexOutOfBoundsException" ["java/lang/RuntimeException", "java/lang/Exception"]).filter goodWord)
def wsX4_setSponsor : List Cond := .code yX4_setSponsor cX4_setSponsor 5 none :: ([.classLink RX4 57 "java/lang/IllegalArgumentException", .initialized "java/lang/IllegalArgumentException", .constant RX4 68 (1000000), .fieldLink RX4 89 "TermBill$Student" "sponsorKinds" "I", .fieldLink RX4 92 "TermBill$Student" "sponsorLimit" "I", .methodLink RX4 71 yX4_studentAt, .instanceMethod yX4_studentAt, .selects RX4 yX4_studentAt yX4_studentAt, .initialized RX4, .code yX4_studentAt cX4_studentAt 3 (some (.object "TermBill$Student")), .classLink RX4 116 "java/lang/IndexOutOfBoundsException", .initialized "java/lang/IndexOutOfBoundsException", .fieldLink RX4 11 "TermBill" "students" "[LTermBill$Student;", .methodLink RX4 53 yX4_isWithin, .static yX4_isWithin, .code yX4_isWithin cX4_isWithin 3 (some .boolean)] ++ wsX30 ++ wsX40 ++ (vx_atS RX4 61 "java/lang/IllegalArgumentException" ["java/lang/RuntimeException", "java/lang/Exception"]).filter goodWord ++ (vx_atS RX4 120 "java/lang/IndexOutOfBoundsException" ["java/lang/RuntimeException", "java/lang/Exception"]).filter goodWord)
def wsX4_take : List Cond := .code yX4_take cX4_take 5 (some .int) :: ([.classLink RX4 57 "java/lang/IllegalArgumentException", .initialized "java/lang/IllegalArgumentException", .classLink RX4 107 "java/lang/IllegalStateException", .initialized "java/lang/IllegalStateException", .fieldLink RX4 97 "TermBill$Student" "courses" "LTermBill$Courses;", .methodLink RX4 71 yX4_studentAt, .instanceMethod yX4_studentAt, .selects RX4 yX4_studentAt yX4_studentAt, .initialized RX4, .code yX4_studentAt cX4_studentAt 3 (some (.object "TermBill$Student")), .classLink RX4 116 "java/lang/IndexOutOfBoundsException", .initialized "java/lang/IndexOutOfBoundsException", .fieldLink RX4 11 "TermBill" "students" "[LTermBill$Student;", .methodLink RX4 53 yX4_isWithin, .static yX4_isWithin, .code yX4_isWithin cX4_isWithin 3 (some .boolean), .methodLink RX4 101 yX1_add, .instanceMethod yX1_add, .selects RX1 yX1_add yX1_add, .initialized RX1, .code yX1_add cX1_add 2 (some .int), .fieldLink RX1 15 "TermBill$Courses" "taken" "I", .fieldLink RX1 9 "TermBill$Courses" "creditsByCourse" "[I"] ++ wsX30 ++ wsX40 ++ wsX10 ++ (vx_atS RX4 61 "java/lang/IllegalArgumentException" ["java/lang/RuntimeException", "java/lang/Exception"]).filter goodWord ++ (vx_atS RX4 111 "java/lang/IllegalStateException" ["java/lang/RuntimeException", "java/lang/Exception"]).filter goodWord ++ (vx_atS RX4 120 "java/lang/IndexOutOfBoundsException" ["java/lang/RuntimeException", "java/lang/Exception"]).filter goodWord)
def wsX4_rateAt : List Cond := .code yX4_rateAt cX4_rateAt 2 (some .int) :: ([.fieldLink RX4 15 "TermBill" "rates" "[I"] ++ wsX40)
def wsX4_priceOf : List Cond := .code yX4_priceOf cX4_priceOf 3 (some .int) :: ([.fieldLink RX4 22 "TermBill" "bandFrom" "I", .fieldLink RX4 26 "TermBill" "bandTo" "I"] ++ wsX40)
def wsX4_shareNow : List Cond := .code yX4_shareNow cX4_shareNow 1 (some .int) :: ([.fieldLink RX4 35 "TermBill" "week" "I", .fieldLink RX4 19 "TermBill" "shares" "[I"] ++ wsX40)
def wsX4_dropCourse_r1 : List Cond := [Cond.fieldLink RX4 77 "TermBill$Student" "level" "I", Cond.fieldLink RX4 80 "TermBill$Student" "isResident" "Z", Cond.fieldLink RX4 97 "TermBill$Student" "courses" "LTermBill$Courses;", Cond.fieldLink RX4 237 "TermBill$Courses" "keptSum" "I", Cond.methodLink RX4 48 yX4_placeOfRate, Cond.static yX4_placeOfRate, Cond.initialized RX4, Cond.code yX4_placeOfRate cX4_placeOfRate 2 (some .int), Cond.methodLink RX4 225 yX4_rateAt, Cond.instanceMethod yX4_rateAt, Cond.selects RX4 yX4_rateAt yX4_rateAt, Cond.code yX4_rateAt cX4_rateAt 2 (some .int), Cond.fieldLink RX4 15 "TermBill" "rates" "[I", Cond.methodLink RX4 199 yX1_total, Cond.instanceMethod yX1_total, Cond.selects RX1 yX1_total yX1_total, Cond.initialized RX1, Cond.code yX1_total cX1_total 3 (some .int), Cond.fieldLink RX1 9 "TermBill$Courses" "creditsByCourse" "[I", Cond.methodLink RX4 228 yX4_priceOf, Cond.instanceMethod yX4_priceOf, Cond.selects RX4 yX4_priceOf yX4_priceOf, Cond.code yX4_priceOf cX4_priceOf 3 (some .int), Cond.fieldLink RX4 22 "TermBill" "bandFrom" "I"]
def wsX4_dropCourse_r2 : List Cond := [Cond.fieldLink RX4 26 "TermBill" "bandTo" "I", Cond.methodLink RX4 231 yX1_remove, Cond.instanceMethod yX1_remove, Cond.selects RX1 yX1_remove yX1_remove, Cond.code yX1_remove cX1_remove 2 none, Cond.methodLink RX4 234 yX4_shareNow, Cond.instanceMethod yX4_shareNow, Cond.selects RX4 yX4_shareNow yX4_shareNow, Cond.code yX4_shareNow cX4_shareNow 1 (some .int), Cond.fieldLink RX4 35 "TermBill" "week" "I", Cond.fieldLink RX4 19 "TermBill" "shares" "[I"]
def wsX4_dropCourse : List Cond := .code yX4_dropCourse cX4_dropCourse 7 (some .int) :: ((wsX4_dropCourse_r1 ++ wsX4_dropCourse_r2) ++ wsX30 ++ wsX10 ++ wsX40)
def wsX4_drop_r1 : List Cond := [Cond.classLink RX4 116 "java/lang/IndexOutOfBoundsException", Cond.initialized "java/lang/IndexOutOfBoundsException", Cond.classLink RX4 107 "java/lang/IllegalStateException", Cond.initialized "java/lang/IllegalStateException", Cond.fieldLink RX4 97 "TermBill$Student" "courses" "LTermBill$Courses;", Cond.methodLink RX4 71 yX4_studentAt, Cond.instanceMethod yX4_studentAt, Cond.selects RX4 yX4_studentAt yX4_studentAt, Cond.initialized RX4, Cond.code yX4_studentAt cX4_studentAt 3 (some (.object "TermBill$Student")), Cond.fieldLink RX4 11 "TermBill" "students" "[LTermBill$Student;", Cond.methodLink RX4 112 yX1_has, Cond.instanceMethod yX1_has, Cond.selects RX1 yX1_has yX1_has, Cond.initialized RX1, Cond.code yX1_has cX1_has 2 (some .boolean), Cond.fieldLink RX1 15 "TermBill$Courses" "taken" "I", Cond.methodLink RX4 121 yX1_creditsOf, Cond.instanceMethod yX1_creditsOf, Cond.selects RX1 yX1_creditsOf yX1_creditsOf, Cond.code yX1_creditsOf cX1_creditsOf 2 (some .int), Cond.fieldLink RX1 9 "TermBill$Courses" "creditsByCourse" "[I", Cond.methodLink RX4 126 yX4_dropCourse, Cond.instanceMethod yX4_dropCourse]
def wsX4_drop_r2 : List Cond := [Cond.selects RX4 yX4_dropCourse yX4_dropCourse, Cond.code yX4_dropCourse cX4_dropCourse 7 (some .int), Cond.fieldLink RX4 77 "TermBill$Student" "level" "I", Cond.fieldLink RX4 80 "TermBill$Student" "isResident" "Z", Cond.fieldLink RX4 237 "TermBill$Courses" "keptSum" "I", Cond.methodLink RX4 48 yX4_placeOfRate, Cond.static yX4_placeOfRate, Cond.code yX4_placeOfRate cX4_placeOfRate 2 (some .int), Cond.methodLink RX4 225 yX4_rateAt, Cond.instanceMethod yX4_rateAt, Cond.selects RX4 yX4_rateAt yX4_rateAt, Cond.code yX4_rateAt cX4_rateAt 2 (some .int), Cond.fieldLink RX4 15 "TermBill" "rates" "[I", Cond.methodLink RX4 199 yX1_total, Cond.instanceMethod yX1_total, Cond.selects RX1 yX1_total yX1_total, Cond.code yX1_total cX1_total 3 (some .int), Cond.methodLink RX4 228 yX4_priceOf, Cond.instanceMethod yX4_priceOf, Cond.selects RX4 yX4_priceOf yX4_priceOf, Cond.code yX4_priceOf cX4_priceOf 3 (some .int), Cond.fieldLink RX4 22 "TermBill" "bandFrom" "I", Cond.fieldLink RX4 26 "TermBill" "bandTo" "I", Cond.methodLink RX4 231 yX1_remove]
def wsX4_drop_r3 : List Cond := [Cond.instanceMethod yX1_remove, Cond.selects RX1 yX1_remove yX1_remove, Cond.code yX1_remove cX1_remove 2 none, Cond.methodLink RX4 234 yX4_shareNow, Cond.instanceMethod yX4_shareNow, Cond.selects RX4 yX4_shareNow yX4_shareNow, Cond.code yX4_shareNow cX4_shareNow 1 (some .int), Cond.fieldLink RX4 35 "TermBill" "week" "I", Cond.fieldLink RX4 19 "TermBill" "shares" "[I"]
def wsX4_drop : List Cond := .code yX4_drop cX4_drop 4 (some .int) :: ((wsX4_drop_r1 ++ (wsX4_drop_r2 ++ wsX4_drop_r3)) ++ wsX30 ++ wsX40 ++ wsX10 ++ (vx_atS RX4 120 "java/lang/IndexOutOfBoundsException" ["java/lang/RuntimeException", "java/lang/Exception"]).filter goodWord ++ (vx_atS RX4 111 "java/lang/IllegalStateException" ["java/lang/RuntimeException", "java/lang/Exception"]).filter goodWord)
def wsX4_charge : List Cond := .code yX4_charge cX4_charge 5 (some .int) :: ([.classLink RX4 57 "java/lang/IllegalArgumentException", .initialized "java/lang/IllegalArgumentException", .constant RX4 68 (1000000), .fieldLink RX4 132 "TermBill$Student" "fees" "I", .fieldLink RX4 135 "TermBill$Student" "housing" "I", .methodLink RX4 71 yX4_studentAt, .instanceMethod yX4_studentAt, .selects RX4 yX4_studentAt yX4_studentAt, .initialized RX4, .code yX4_studentAt cX4_studentAt 3 (some (.object "TermBill$Student")), .classLink RX4 116 "java/lang/IndexOutOfBoundsException", .initialized "java/lang/IndexOutOfBoundsException", .fieldLink RX4 11 "TermBill" "students" "[LTermBill$Student;", .methodLink RX4 53 yX4_isWithin, .static yX4_isWithin, .code yX4_isWithin cX4_isWithin 3 (some .boolean)] ++ wsX30 ++ wsX40 ++ (vx_atS RX4 61 "java/lang/IllegalArgumentException" ["java/lang/RuntimeException", "java/lang/Exception"]).filter goodWord ++ (vx_atS RX4 120 "java/lang/IndexOutOfBoundsException" ["java/lang/RuntimeException", "java/lang/Exception"]).filter goodWord)
def wsX4_award_r1 : List Cond := [Cond.classLink RX4 57 "java/lang/IllegalArgumentException", Cond.initialized "java/lang/IllegalArgumentException", Cond.classLink RX4 107 "java/lang/IllegalStateException", Cond.initialized "java/lang/IllegalStateException", Cond.constant RX4 68 (1000000), Cond.fieldLink RX4 140 "TermBill$Student" "aid" "LTermBill$Aid;", Cond.methodLink RX4 71 yX4_studentAt, Cond.instanceMethod yX4_studentAt, Cond.selects RX4 yX4_studentAt yX4_studentAt, Cond.initialized RX4, Cond.code yX4_studentAt cX4_studentAt 3 (some (.object "TermBill$Student")), Cond.classLink RX4 116 "java/lang/IndexOutOfBoundsException", Cond.initialized "java/lang/IndexOutOfBoundsException", Cond.fieldLink RX4 11 "TermBill" "students" "[LTermBill$Student;", Cond.methodLink RX4 53 yX4_isWithin, Cond.static yX4_isWithin, Cond.code yX4_isWithin cX4_isWithin 3 (some .boolean), Cond.methodLink RX4 144 yX0_add, Cond.instanceMethod yX0_add, Cond.selects RX0 yX0_add yX0_add, Cond.initialized RX0, Cond.code yX0_add cX0_add 3 (some .int), Cond.fieldLink RX0 21 "TermBill$Aid" "many" "I", Cond.fieldLink RX0 9 "TermBill$Aid" "ranks" "[I"]
def wsX4_award_r2 : List Cond := [Cond.fieldLink RX0 15 "TermBill$Aid" "amounts" "[I"]
def wsX4_award : List Cond := .code yX4_award cX4_award 6 (some .int) :: ((wsX4_award_r1 ++ wsX4_award_r2) ++ wsX30 ++ wsX40 ++ wsX00 ++ (vx_atS RX4 61 "java/lang/IllegalArgumentException" ["java/lang/RuntimeException", "java/lang/Exception"]).filter goodWord ++ (vx_atS RX4 111 "java/lang/IllegalStateException" ["java/lang/RuntimeException", "java/lang/Exception"]).filter goodWord ++ (vx_atS RX4 120 "java/lang/IndexOutOfBoundsException" ["java/lang/RuntimeException", "java/lang/Exception"]).filter goodWord)
def wsX4_chargesOf_r1 : List Cond := [Cond.fieldLink RX4 77 "TermBill$Student" "level" "I", Cond.fieldLink RX4 80 "TermBill$Student" "isResident" "Z", Cond.fieldLink RX4 97 "TermBill$Student" "courses" "LTermBill$Courses;", Cond.fieldLink RX4 237 "TermBill$Courses" "keptSum" "I", Cond.fieldLink RX4 132 "TermBill$Student" "fees" "I", Cond.fieldLink RX4 135 "TermBill$Student" "housing" "I", Cond.methodLink RX4 48 yX4_placeOfRate, Cond.static yX4_placeOfRate, Cond.initialized RX4, Cond.code yX4_placeOfRate cX4_placeOfRate 2 (some .int), Cond.methodLink RX4 225 yX4_rateAt, Cond.instanceMethod yX4_rateAt, Cond.selects RX4 yX4_rateAt yX4_rateAt, Cond.code yX4_rateAt cX4_rateAt 2 (some .int), Cond.fieldLink RX4 15 "TermBill" "rates" "[I", Cond.methodLink RX4 199 yX1_total, Cond.instanceMethod yX1_total, Cond.selects RX1 yX1_total yX1_total, Cond.initialized RX1, Cond.code yX1_total cX1_total 3 (some .int), Cond.fieldLink RX1 9 "TermBill$Courses" "creditsByCourse" "[I", Cond.methodLink RX4 228 yX4_priceOf, Cond.instanceMethod yX4_priceOf, Cond.selects RX4 yX4_priceOf yX4_priceOf]
def wsX4_chargesOf_r2 : List Cond := [Cond.code yX4_priceOf cX4_priceOf 3 (some .int), Cond.fieldLink RX4 22 "TermBill" "bandFrom" "I", Cond.fieldLink RX4 26 "TermBill" "bandTo" "I"]
def wsX4_chargesOf : List Cond := .code yX4_chargesOf cX4_chargesOf 5 (some .int) :: ((wsX4_chargesOf_r1 ++ wsX4_chargesOf_r2) ++ wsX30 ++ wsX10 ++ wsX40)
def wsX4_sponsorPart_r1 : List Cond := [Cond.fieldLink RX4 89 "TermBill$Student" "sponsorKinds" "I", Cond.fieldLink RX4 92 "TermBill$Student" "sponsorLimit" "I", Cond.methodLink RX4 240 Lib.Math.min.name, Cond.static Lib.Math.min.name, Cond.initialized "java/lang/Math", Cond.code Lib.Math.min.name Lib.Math.min.code 2 (some .int), Cond.methodLink RX4 202 yX4_chargesOf, Cond.instanceMethod yX4_chargesOf, Cond.selects RX4 yX4_chargesOf yX4_chargesOf, Cond.initialized RX4, Cond.code yX4_chargesOf cX4_chargesOf 5 (some .int), Cond.fieldLink RX4 77 "TermBill$Student" "level" "I", Cond.fieldLink RX4 80 "TermBill$Student" "isResident" "Z", Cond.fieldLink RX4 97 "TermBill$Student" "courses" "LTermBill$Courses;", Cond.fieldLink RX4 237 "TermBill$Courses" "keptSum" "I", Cond.fieldLink RX4 132 "TermBill$Student" "fees" "I", Cond.fieldLink RX4 135 "TermBill$Student" "housing" "I", Cond.methodLink RX4 48 yX4_placeOfRate, Cond.static yX4_placeOfRate, Cond.code yX4_placeOfRate cX4_placeOfRate 2 (some .int), Cond.methodLink RX4 225 yX4_rateAt, Cond.instanceMethod yX4_rateAt, Cond.selects RX4 yX4_rateAt yX4_rateAt, Cond.code yX4_rateAt cX4_rateAt 2 (some .int)]
def wsX4_sponsorPart_r2 : List Cond := [Cond.fieldLink RX4 15 "TermBill" "rates" "[I", Cond.methodLink RX4 199 yX1_total, Cond.instanceMethod yX1_total, Cond.selects RX1 yX1_total yX1_total, Cond.initialized RX1, Cond.code yX1_total cX1_total 3 (some .int), Cond.fieldLink RX1 9 "TermBill$Courses" "creditsByCourse" "[I", Cond.methodLink RX4 228 yX4_priceOf, Cond.instanceMethod yX4_priceOf, Cond.selects RX4 yX4_priceOf yX4_priceOf, Cond.code yX4_priceOf cX4_priceOf 3 (some .int), Cond.fieldLink RX4 22 "TermBill" "bandFrom" "I", Cond.fieldLink RX4 26 "TermBill" "bandTo" "I"]
def wsX4_sponsorPart : List Cond := .code yX4_sponsorPart cX4_sponsorPart 2 (some .int) :: ((wsX4_sponsorPart_r1 ++ wsX4_sponsorPart_r2) ++ wsX30 ++ wsX10 ++ wsX40)
def wsX4_unsponsored_r1 : List Cond := [Cond.methodLink RX4 202 yX4_chargesOf, Cond.instanceMethod yX4_chargesOf, Cond.selects RX4 yX4_chargesOf yX4_chargesOf, Cond.initialized RX4, Cond.code yX4_chargesOf cX4_chargesOf 5 (some .int), Cond.fieldLink RX4 77 "TermBill$Student" "level" "I", Cond.fieldLink RX4 80 "TermBill$Student" "isResident" "Z", Cond.fieldLink RX4 97 "TermBill$Student" "courses" "LTermBill$Courses;", Cond.fieldLink RX4 237 "TermBill$Courses" "keptSum" "I", Cond.fieldLink RX4 132 "TermBill$Student" "fees" "I", Cond.fieldLink RX4 135 "TermBill$Student" "housing" "I", Cond.methodLink RX4 48 yX4_placeOfRate, Cond.static yX4_placeOfRate, Cond.code yX4_placeOfRate cX4_placeOfRate 2 (some .int), Cond.methodLink RX4 225 yX4_rateAt, Cond.instanceMethod yX4_rateAt, Cond.selects RX4 yX4_rateAt yX4_rateAt, Cond.code yX4_rateAt cX4_rateAt 2 (some .int), Cond.fieldLink RX4 15 "TermBill" "rates" "[I", Cond.methodLink RX4 199 yX1_total, Cond.instanceMethod yX1_total, Cond.selects RX1 yX1_total yX1_total, Cond.initialized RX1, Cond.code yX1_total cX1_total 3 (some .int)]
def wsX4_unsponsored_r2 : List Cond := [Cond.fieldLink RX1 9 "TermBill$Courses" "creditsByCourse" "[I", Cond.methodLink RX4 228 yX4_priceOf, Cond.instanceMethod yX4_priceOf, Cond.selects RX4 yX4_priceOf yX4_priceOf, Cond.code yX4_priceOf cX4_priceOf 3 (some .int), Cond.fieldLink RX4 22 "TermBill" "bandFrom" "I", Cond.fieldLink RX4 26 "TermBill" "bandTo" "I", Cond.methodLink RX4 205 yX4_sponsorPart, Cond.instanceMethod yX4_sponsorPart, Cond.selects RX4 yX4_sponsorPart yX4_sponsorPart, Cond.code yX4_sponsorPart cX4_sponsorPart 2 (some .int), Cond.fieldLink RX4 89 "TermBill$Student" "sponsorKinds" "I", Cond.fieldLink RX4 92 "TermBill$Student" "sponsorLimit" "I", Cond.methodLink RX4 240 Lib.Math.min.name, Cond.static Lib.Math.min.name, Cond.initialized "java/lang/Math", Cond.code Lib.Math.min.name Lib.Math.min.code 2 (some .int)]
def wsX4_unsponsored : List Cond := .code yX4_unsponsored cX4_unsponsored 2 (some .int) :: ((wsX4_unsponsored_r1 ++ wsX4_unsponsored_r2) ++ wsX30 ++ wsX10 ++ wsX40)
def wsX4_balanceOf_r1 : List Cond := [Cond.fieldLink RX4 140 "TermBill$Student" "aid" "LTermBill$Aid;", Cond.fieldLink RX4 84 "TermBill$Student" "need" "I", Cond.fieldLink RX4 153 "TermBill$Student" "paidSum" "I", Cond.methodLink RX4 211 yX4_unsponsored, Cond.instanceMethod yX4_unsponsored, Cond.selects RX4 yX4_unsponsored yX4_unsponsored, Cond.initialized RX4, Cond.code yX4_unsponsored cX4_unsponsored 2 (some .int), Cond.methodLink RX4 202 yX4_chargesOf, Cond.instanceMethod yX4_chargesOf, Cond.selects RX4 yX4_chargesOf yX4_chargesOf, Cond.code yX4_chargesOf cX4_chargesOf 5 (some .int), Cond.fieldLink RX4 77 "TermBill$Student" "level" "I", Cond.fieldLink RX4 80 "TermBill$Student" "isResident" "Z", Cond.fieldLink RX4 97 "TermBill$Student" "courses" "LTermBill$Courses;", Cond.fieldLink RX4 237 "TermBill$Courses" "keptSum" "I", Cond.fieldLink RX4 132 "TermBill$Student" "fees" "I", Cond.fieldLink RX4 135 "TermBill$Student" "housing" "I", Cond.methodLink RX4 48 yX4_placeOfRate, Cond.static yX4_placeOfRate, Cond.code yX4_placeOfRate cX4_placeOfRate 2 (some .int), Cond.methodLink RX4 225 yX4_rateAt, Cond.instanceMethod yX4_rateAt, Cond.selects RX4 yX4_rateAt yX4_rateAt]
def wsX4_balanceOf_r2 : List Cond := [Cond.code yX4_rateAt cX4_rateAt 2 (some .int), Cond.fieldLink RX4 15 "TermBill" "rates" "[I", Cond.methodLink RX4 199 yX1_total, Cond.instanceMethod yX1_total, Cond.selects RX1 yX1_total yX1_total, Cond.initialized RX1, Cond.code yX1_total cX1_total 3 (some .int), Cond.fieldLink RX1 9 "TermBill$Courses" "creditsByCourse" "[I", Cond.methodLink RX4 228 yX4_priceOf, Cond.instanceMethod yX4_priceOf, Cond.selects RX4 yX4_priceOf yX4_priceOf, Cond.code yX4_priceOf cX4_priceOf 3 (some .int), Cond.fieldLink RX4 22 "TermBill" "bandFrom" "I", Cond.fieldLink RX4 26 "TermBill" "bandTo" "I", Cond.methodLink RX4 205 yX4_sponsorPart, Cond.instanceMethod yX4_sponsorPart, Cond.selects RX4 yX4_sponsorPart yX4_sponsorPart, Cond.code yX4_sponsorPart cX4_sponsorPart 2 (some .int), Cond.fieldLink RX4 89 "TermBill$Student" "sponsorKinds" "I", Cond.fieldLink RX4 92 "TermBill$Student" "sponsorLimit" "I", Cond.methodLink RX4 240 Lib.Math.min.name, Cond.static Lib.Math.min.name, Cond.initialized "java/lang/Math", Cond.code Lib.Math.min.name Lib.Math.min.code 2 (some .int)]
def wsX4_balanceOf_r3 : List Cond := [Cond.methodLink RX4 214 yX0_cover, Cond.instanceMethod yX0_cover, Cond.selects RX0 yX0_cover yX0_cover, Cond.initialized RX0, Cond.code yX0_cover cX0_cover 8 (some .int), Cond.fieldLink RX0 9 "TermBill$Aid" "ranks" "[I", Cond.methodLink RX0 25 Lib.Math.min.name, Cond.fieldLink RX0 18 "TermBill$Aid" "uses" "[I", Cond.fieldLink RX0 15 "TermBill$Aid" "amounts" "[I"]
def wsX4_balanceOf : List Cond := .code yX4_balanceOf cX4_balanceOf 3 (some .int) :: ((wsX4_balanceOf_r1 ++ (wsX4_balanceOf_r2 ++ wsX4_balanceOf_r3)) ++ wsX30 ++ wsX10 ++ wsX40 ++ wsX00)
def wsX4_pay_r1 : List Cond := [Cond.classLink RX4 57 "java/lang/IllegalArgumentException", Cond.initialized "java/lang/IllegalArgumentException", Cond.constant RX4 68 (1000000), Cond.fieldLink RX4 153 "TermBill$Student" "paidSum" "I", Cond.fieldLink RX4 156 "TermBill$Student" "instalments" "LTermBill$Instalments;", Cond.fieldLink RX4 160 "TermBill$Instalments" "paidSince" "I", Cond.methodLink RX4 71 yX4_studentAt, Cond.instanceMethod yX4_studentAt, Cond.selects RX4 yX4_studentAt yX4_studentAt, Cond.initialized RX4, Cond.code yX4_studentAt cX4_studentAt 3 (some (.object "TermBill$Student")), Cond.classLink RX4 116 "java/lang/IndexOutOfBoundsException", Cond.initialized "java/lang/IndexOutOfBoundsException", Cond.fieldLink RX4 11 "TermBill" "students" "[LTermBill$Student;", Cond.methodLink RX4 53 yX4_isWithin, Cond.static yX4_isWithin, Cond.code yX4_isWithin cX4_isWithin 3 (some .boolean), Cond.methodLink RX4 165 yX4_balanceOf, Cond.instanceMethod yX4_balanceOf, Cond.selects RX4 yX4_balanceOf yX4_balanceOf, Cond.code yX4_balanceOf cX4_balanceOf 3 (some .int), Cond.fieldLink RX4 140 "TermBill$Student" "aid" "LTermBill$Aid;", Cond.fieldLink RX4 84 "TermBill$Student" "need" "I", Cond.methodLink RX4 211 yX4_unsponsored]
def wsX4_pay_r2 : List Cond := [Cond.instanceMethod yX4_unsponsored, Cond.selects RX4 yX4_unsponsored yX4_unsponsored, Cond.code yX4_unsponsored cX4_unsponsored 2 (some .int), Cond.methodLink RX4 202 yX4_chargesOf, Cond.instanceMethod yX4_chargesOf, Cond.selects RX4 yX4_chargesOf yX4_chargesOf, Cond.code yX4_chargesOf cX4_chargesOf 5 (some .int), Cond.fieldLink RX4 77 "TermBill$Student" "level" "I", Cond.fieldLink RX4 80 "TermBill$Student" "isResident" "Z", Cond.fieldLink RX4 97 "TermBill$Student" "courses" "LTermBill$Courses;", Cond.fieldLink RX4 237 "TermBill$Courses" "keptSum" "I", Cond.fieldLink RX4 132 "TermBill$Student" "fees" "I", Cond.fieldLink RX4 135 "TermBill$Student" "housing" "I", Cond.methodLink RX4 48 yX4_placeOfRate, Cond.static yX4_placeOfRate, Cond.code yX4_placeOfRate cX4_placeOfRate 2 (some .int), Cond.methodLink RX4 225 yX4_rateAt, Cond.instanceMethod yX4_rateAt, Cond.selects RX4 yX4_rateAt yX4_rateAt, Cond.code yX4_rateAt cX4_rateAt 2 (some .int), Cond.fieldLink RX4 15 "TermBill" "rates" "[I", Cond.methodLink RX4 199 yX1_total, Cond.instanceMethod yX1_total, Cond.selects RX1 yX1_total yX1_total]
def wsX4_pay_r3 : List Cond := [Cond.initialized RX1, Cond.code yX1_total cX1_total 3 (some .int), Cond.fieldLink RX1 9 "TermBill$Courses" "creditsByCourse" "[I", Cond.methodLink RX4 228 yX4_priceOf, Cond.instanceMethod yX4_priceOf, Cond.selects RX4 yX4_priceOf yX4_priceOf, Cond.code yX4_priceOf cX4_priceOf 3 (some .int), Cond.fieldLink RX4 22 "TermBill" "bandFrom" "I", Cond.fieldLink RX4 26 "TermBill" "bandTo" "I", Cond.methodLink RX4 205 yX4_sponsorPart, Cond.instanceMethod yX4_sponsorPart, Cond.selects RX4 yX4_sponsorPart yX4_sponsorPart, Cond.code yX4_sponsorPart cX4_sponsorPart 2 (some .int), Cond.fieldLink RX4 89 "TermBill$Student" "sponsorKinds" "I", Cond.fieldLink RX4 92 "TermBill$Student" "sponsorLimit" "I", Cond.methodLink RX4 240 Lib.Math.min.name, Cond.static Lib.Math.min.name, Cond.initialized "java/lang/Math", Cond.code Lib.Math.min.name Lib.Math.min.code 2 (some .int), Cond.methodLink RX4 214 yX0_cover, Cond.instanceMethod yX0_cover, Cond.selects RX0 yX0_cover yX0_cover, Cond.initialized RX0, Cond.code yX0_cover cX0_cover 8 (some .int)]
def wsX4_pay_r4 : List Cond := [Cond.fieldLink RX0 9 "TermBill$Aid" "ranks" "[I", Cond.methodLink RX0 25 Lib.Math.min.name, Cond.fieldLink RX0 18 "TermBill$Aid" "uses" "[I", Cond.fieldLink RX0 15 "TermBill$Aid" "amounts" "[I"]
def wsX4_pay : List Cond := .code yX4_pay cX4_pay 4 (some .int) :: ((wsX4_pay_r1 ++ (wsX4_pay_r2 ++ (wsX4_pay_r3 ++ wsX4_pay_r4))) ++ wsX30 ++ wsX20 ++ wsX40 ++ wsX10 ++ wsX00 ++ (vx_atS RX4 61 "java/lang/IllegalArgumentException" ["java/lang/RuntimeException", "java/lang/Exception"]).filter goodWord ++ (vx_atS RX4 120 "java/lang/IndexOutOfBoundsException" ["java/lang/RuntimeException", "java/lang/Exception"]).filter goodWord)
def wsX4_weekNumber : List Cond := .code yX4_weekNumber cX4_weekNumber 1 (some .int) :: ([.fieldLink RX4 38 "TermBill" "term" "I", .fieldLink RX4 35 "TermBill" "week" "I"] ++ wsX40)
def wsX4_plan_r1 : List Cond := [Cond.classLink RX4 57 "java/lang/IllegalArgumentException", Cond.initialized "java/lang/IllegalArgumentException", Cond.classLink RX4 107 "java/lang/IllegalStateException", Cond.initialized "java/lang/IllegalStateException", Cond.fieldLink RX4 156 "TermBill$Student" "instalments" "LTermBill$Instalments;", Cond.methodLink RX4 71 yX4_studentAt, Cond.instanceMethod yX4_studentAt, Cond.selects RX4 yX4_studentAt yX4_studentAt, Cond.initialized RX4, Cond.code yX4_studentAt cX4_studentAt 3 (some (.object "TermBill$Student")), Cond.classLink RX4 116 "java/lang/IndexOutOfBoundsException", Cond.initialized "java/lang/IndexOutOfBoundsException", Cond.fieldLink RX4 11 "TermBill" "students" "[LTermBill$Student;", Cond.methodLink RX4 165 yX4_balanceOf, Cond.instanceMethod yX4_balanceOf, Cond.selects RX4 yX4_balanceOf yX4_balanceOf, Cond.code yX4_balanceOf cX4_balanceOf 3 (some .int), Cond.fieldLink RX4 140 "TermBill$Student" "aid" "LTermBill$Aid;", Cond.fieldLink RX4 84 "TermBill$Student" "need" "I", Cond.fieldLink RX4 153 "TermBill$Student" "paidSum" "I", Cond.methodLink RX4 211 yX4_unsponsored, Cond.instanceMethod yX4_unsponsored, Cond.selects RX4 yX4_unsponsored yX4_unsponsored, Cond.code yX4_unsponsored cX4_unsponsored 2 (some .int)]
def wsX4_plan_r2 : List Cond := [Cond.methodLink RX4 202 yX4_chargesOf, Cond.instanceMethod yX4_chargesOf, Cond.selects RX4 yX4_chargesOf yX4_chargesOf, Cond.code yX4_chargesOf cX4_chargesOf 5 (some .int), Cond.fieldLink RX4 77 "TermBill$Student" "level" "I", Cond.fieldLink RX4 80 "TermBill$Student" "isResident" "Z", Cond.fieldLink RX4 97 "TermBill$Student" "courses" "LTermBill$Courses;", Cond.fieldLink RX4 237 "TermBill$Courses" "keptSum" "I", Cond.fieldLink RX4 132 "TermBill$Student" "fees" "I", Cond.fieldLink RX4 135 "TermBill$Student" "housing" "I", Cond.methodLink RX4 48 yX4_placeOfRate, Cond.static yX4_placeOfRate, Cond.code yX4_placeOfRate cX4_placeOfRate 2 (some .int), Cond.methodLink RX4 225 yX4_rateAt, Cond.instanceMethod yX4_rateAt, Cond.selects RX4 yX4_rateAt yX4_rateAt, Cond.code yX4_rateAt cX4_rateAt 2 (some .int), Cond.fieldLink RX4 15 "TermBill" "rates" "[I", Cond.methodLink RX4 199 yX1_total, Cond.instanceMethod yX1_total, Cond.selects RX1 yX1_total yX1_total, Cond.initialized RX1, Cond.code yX1_total cX1_total 3 (some .int), Cond.fieldLink RX1 9 "TermBill$Courses" "creditsByCourse" "[I"]
def wsX4_plan_r3 : List Cond := [Cond.methodLink RX4 228 yX4_priceOf, Cond.instanceMethod yX4_priceOf, Cond.selects RX4 yX4_priceOf yX4_priceOf, Cond.code yX4_priceOf cX4_priceOf 3 (some .int), Cond.fieldLink RX4 22 "TermBill" "bandFrom" "I", Cond.fieldLink RX4 26 "TermBill" "bandTo" "I", Cond.methodLink RX4 205 yX4_sponsorPart, Cond.instanceMethod yX4_sponsorPart, Cond.selects RX4 yX4_sponsorPart yX4_sponsorPart, Cond.code yX4_sponsorPart cX4_sponsorPart 2 (some .int), Cond.fieldLink RX4 89 "TermBill$Student" "sponsorKinds" "I", Cond.fieldLink RX4 92 "TermBill$Student" "sponsorLimit" "I", Cond.methodLink RX4 240 Lib.Math.min.name, Cond.static Lib.Math.min.name, Cond.initialized "java/lang/Math", Cond.code Lib.Math.min.name Lib.Math.min.code 2 (some .int), Cond.methodLink RX4 214 yX0_cover, Cond.instanceMethod yX0_cover, Cond.selects RX0 yX0_cover yX0_cover, Cond.initialized RX0, Cond.code yX0_cover cX0_cover 8 (some .int), Cond.fieldLink RX0 9 "TermBill$Aid" "ranks" "[I", Cond.methodLink RX0 25 Lib.Math.min.name, Cond.fieldLink RX0 18 "TermBill$Aid" "uses" "[I"]
def wsX4_plan_r4 : List Cond := [Cond.fieldLink RX0 15 "TermBill$Aid" "amounts" "[I", Cond.methodLink RX4 173 yX4_weekNumber, Cond.instanceMethod yX4_weekNumber, Cond.selects RX4 yX4_weekNumber yX4_weekNumber, Cond.code yX4_weekNumber cX4_weekNumber 1 (some .int), Cond.fieldLink RX4 38 "TermBill" "term" "I", Cond.fieldLink RX4 35 "TermBill" "week" "I", Cond.methodLink RX4 177 yX2_start, Cond.instanceMethod yX2_start, Cond.selects RX2 yX2_start yX2_start, Cond.initialized RX2, Cond.code yX2_start cX2_start 5 none, Cond.fieldLink RX2 9 "TermBill$Instalments" "madeAt" "I", Cond.fieldLink RX2 15 "TermBill$Instalments" "many" "I", Cond.fieldLink RX2 18 "TermBill$Instalments" "first" "I", Cond.fieldLink RX2 21 "TermBill$Instalments" "each" "I", Cond.fieldLink RX2 24 "TermBill$Instalments" "paidSince" "I"]
def wsX4_plan : List Cond := .code yX4_plan cX4_plan 7 (some .int) :: ((wsX4_plan_r1 ++ (wsX4_plan_r2 ++ (wsX4_plan_r3 ++ wsX4_plan_r4))) ++ wsX30 ++ wsX40 ++ wsX10 ++ wsX00 ++ wsX20 ++ (vx_atS RX4 61 "java/lang/IllegalArgumentException" ["java/lang/RuntimeException", "java/lang/Exception"]).filter goodWord ++ (vx_atS RX4 111 "java/lang/IllegalStateException" ["java/lang/RuntimeException", "java/lang/Exception"]).filter goodWord ++ (vx_atS RX4 120 "java/lang/IndexOutOfBoundsException" ["java/lang/RuntimeException", "java/lang/Exception"]).filter goodWord)
def wsX4_aidToGiveBack : List Cond := .code yX4_aidToGiveBack cX4_aidToGiveBack 2 (some .int) :: ([.fieldLink RX4 35 "TermBill" "week" "I"] ++ wsX40)
def wsX4_leave_r1 : List Cond := [Cond.fieldLink RX4 97 "TermBill$Student" "courses" "LTermBill$Courses;", Cond.fieldLink RX4 140 "TermBill$Student" "aid" "LTermBill$Aid;", Cond.methodLink RX4 71 yX4_studentAt, Cond.instanceMethod yX4_studentAt, Cond.selects RX4 yX4_studentAt yX4_studentAt, Cond.initialized RX4, Cond.code yX4_studentAt cX4_studentAt 3 (some (.object "TermBill$Student")), Cond.classLink RX4 116 "java/lang/IndexOutOfBoundsException", Cond.initialized "java/lang/IndexOutOfBoundsException", Cond.fieldLink RX4 11 "TermBill" "students" "[LTermBill$Student;", Cond.methodLink RX4 121 yX1_creditsOf, Cond.instanceMethod yX1_creditsOf, Cond.selects RX1 yX1_creditsOf yX1_creditsOf, Cond.initialized RX1, Cond.code yX1_creditsOf cX1_creditsOf 2 (some .int), Cond.fieldLink RX1 9 "TermBill$Courses" "creditsByCourse" "[I", Cond.methodLink RX4 126 yX4_dropCourse, Cond.instanceMethod yX4_dropCourse, Cond.selects RX4 yX4_dropCourse yX4_dropCourse, Cond.code yX4_dropCourse cX4_dropCourse 7 (some .int), Cond.fieldLink RX4 77 "TermBill$Student" "level" "I", Cond.fieldLink RX4 80 "TermBill$Student" "isResident" "Z", Cond.fieldLink RX4 237 "TermBill$Courses" "keptSum" "I", Cond.methodLink RX4 48 yX4_placeOfRate]
def wsX4_leave_r2 : List Cond := [Cond.static yX4_placeOfRate, Cond.code yX4_placeOfRate cX4_placeOfRate 2 (some .int), Cond.methodLink RX4 225 yX4_rateAt, Cond.instanceMethod yX4_rateAt, Cond.selects RX4 yX4_rateAt yX4_rateAt, Cond.code yX4_rateAt cX4_rateAt 2 (some .int), Cond.fieldLink RX4 15 "TermBill" "rates" "[I", Cond.methodLink RX4 199 yX1_total, Cond.instanceMethod yX1_total, Cond.selects RX1 yX1_total yX1_total, Cond.code yX1_total cX1_total 3 (some .int), Cond.methodLink RX4 228 yX4_priceOf, Cond.instanceMethod yX4_priceOf, Cond.selects RX4 yX4_priceOf yX4_priceOf, Cond.code yX4_priceOf cX4_priceOf 3 (some .int), Cond.fieldLink RX4 22 "TermBill" "bandFrom" "I", Cond.fieldLink RX4 26 "TermBill" "bandTo" "I", Cond.methodLink RX4 231 yX1_remove, Cond.instanceMethod yX1_remove, Cond.selects RX1 yX1_remove yX1_remove, Cond.code yX1_remove cX1_remove 2 none, Cond.methodLink RX4 234 yX4_shareNow, Cond.instanceMethod yX4_shareNow, Cond.selects RX4 yX4_shareNow yX4_shareNow]
def wsX4_leave_r3 : List Cond := [Cond.code yX4_shareNow cX4_shareNow 1 (some .int), Cond.fieldLink RX4 35 "TermBill" "week" "I", Cond.fieldLink RX4 19 "TermBill" "shares" "[I", Cond.methodLink RX4 181 yX0_total, Cond.instanceMethod yX0_total, Cond.selects RX0 yX0_total yX0_total, Cond.initialized RX0, Cond.code yX0_total cX0_total 3 (some .int), Cond.fieldLink RX0 15 "TermBill$Aid" "amounts" "[I", Cond.methodLink RX4 184 yX4_aidToGiveBack, Cond.instanceMethod yX4_aidToGiveBack, Cond.selects RX4 yX4_aidToGiveBack yX4_aidToGiveBack, Cond.code yX4_aidToGiveBack cX4_aidToGiveBack 2 (some .int), Cond.methodLink RX4 187 yX0_takeOff, Cond.instanceMethod yX0_takeOff, Cond.selects RX0 yX0_takeOff yX0_takeOff, Cond.code yX0_takeOff cX0_takeOff 6 none, Cond.fieldLink RX0 9 "TermBill$Aid" "ranks" "[I", Cond.methodLink RX0 25 Lib.Math.min.name, Cond.static Lib.Math.min.name, Cond.initialized "java/lang/Math", Cond.code Lib.Math.min.name Lib.Math.min.code 2 (some .int)]
def wsX4_leave : List Cond := .code yX4_leave cX4_leave 4 (some .int) :: ((wsX4_leave_r1 ++ (wsX4_leave_r2 ++ wsX4_leave_r3)) ++ wsX30 ++ wsX40 ++ wsX10 ++ wsX00 ++ (vx_atS RX4 120 "java/lang/IndexOutOfBoundsException" ["java/lang/RuntimeException", "java/lang/Exception"]).filter goodWord)
def wsX4_carriedTo : List Cond := .code yX4_carriedTo cX4_carriedTo 2 (some .int) :: ([.methodLink RX4 240 Lib.Math.min.name, .static Lib.Math.min.name, .initialized "java/lang/Math", .code Lib.Math.min.name Lib.Math.min.code 2 (some .int)])
def wsX4_endTerm_r1 : List Cond := [Cond.methodLink RX4 71 yX4_studentAt, Cond.instanceMethod yX4_studentAt, Cond.selects RX4 yX4_studentAt yX4_studentAt, Cond.initialized RX4, Cond.code yX4_studentAt cX4_studentAt 3 (some (.object "TermBill$Student")), Cond.classLink RX4 116 "java/lang/IndexOutOfBoundsException", Cond.initialized "java/lang/IndexOutOfBoundsException", Cond.fieldLink RX4 11 "TermBill" "students" "[LTermBill$Student;", Cond.methodLink RX4 165 yX4_balanceOf, Cond.instanceMethod yX4_balanceOf, Cond.selects RX4 yX4_balanceOf yX4_balanceOf, Cond.code yX4_balanceOf cX4_balanceOf 3 (some .int), Cond.fieldLink RX4 140 "TermBill$Student" "aid" "LTermBill$Aid;", Cond.fieldLink RX4 84 "TermBill$Student" "need" "I", Cond.fieldLink RX4 153 "TermBill$Student" "paidSum" "I", Cond.methodLink RX4 211 yX4_unsponsored, Cond.instanceMethod yX4_unsponsored, Cond.selects RX4 yX4_unsponsored yX4_unsponsored, Cond.code yX4_unsponsored cX4_unsponsored 2 (some .int), Cond.methodLink RX4 202 yX4_chargesOf, Cond.instanceMethod yX4_chargesOf, Cond.selects RX4 yX4_chargesOf yX4_chargesOf, Cond.code yX4_chargesOf cX4_chargesOf 5 (some .int), Cond.fieldLink RX4 77 "TermBill$Student" "level" "I"]
def wsX4_endTerm_r2 : List Cond := [Cond.fieldLink RX4 80 "TermBill$Student" "isResident" "Z", Cond.fieldLink RX4 97 "TermBill$Student" "courses" "LTermBill$Courses;", Cond.fieldLink RX4 237 "TermBill$Courses" "keptSum" "I", Cond.fieldLink RX4 132 "TermBill$Student" "fees" "I", Cond.fieldLink RX4 135 "TermBill$Student" "housing" "I", Cond.methodLink RX4 48 yX4_placeOfRate, Cond.static yX4_placeOfRate, Cond.code yX4_placeOfRate cX4_placeOfRate 2 (some .int), Cond.methodLink RX4 225 yX4_rateAt, Cond.instanceMethod yX4_rateAt, Cond.selects RX4 yX4_rateAt yX4_rateAt, Cond.code yX4_rateAt cX4_rateAt 2 (some .int), Cond.fieldLink RX4 15 "TermBill" "rates" "[I", Cond.methodLink RX4 199 yX1_total, Cond.instanceMethod yX1_total, Cond.selects RX1 yX1_total yX1_total, Cond.initialized RX1, Cond.code yX1_total cX1_total 3 (some .int), Cond.fieldLink RX1 9 "TermBill$Courses" "creditsByCourse" "[I", Cond.methodLink RX4 228 yX4_priceOf, Cond.instanceMethod yX4_priceOf, Cond.selects RX4 yX4_priceOf yX4_priceOf, Cond.code yX4_priceOf cX4_priceOf 3 (some .int), Cond.fieldLink RX4 22 "TermBill" "bandFrom" "I"]
def wsX4_endTerm_r3 : List Cond := [Cond.fieldLink RX4 26 "TermBill" "bandTo" "I", Cond.methodLink RX4 205 yX4_sponsorPart, Cond.instanceMethod yX4_sponsorPart, Cond.selects RX4 yX4_sponsorPart yX4_sponsorPart, Cond.code yX4_sponsorPart cX4_sponsorPart 2 (some .int), Cond.fieldLink RX4 89 "TermBill$Student" "sponsorKinds" "I", Cond.fieldLink RX4 92 "TermBill$Student" "sponsorLimit" "I", Cond.methodLink RX4 240 Lib.Math.min.name, Cond.static Lib.Math.min.name, Cond.initialized "java/lang/Math", Cond.code Lib.Math.min.name Lib.Math.min.code 2 (some .int), Cond.methodLink RX4 214 yX0_cover, Cond.instanceMethod yX0_cover, Cond.selects RX0 yX0_cover yX0_cover, Cond.initialized RX0, Cond.code yX0_cover cX0_cover 8 (some .int), Cond.fieldLink RX0 9 "TermBill$Aid" "ranks" "[I", Cond.methodLink RX0 25 Lib.Math.min.name, Cond.fieldLink RX0 18 "TermBill$Aid" "uses" "[I", Cond.fieldLink RX0 15 "TermBill$Aid" "amounts" "[I", Cond.methodLink RX4 245 yX4_carriedTo, Cond.static yX4_carriedTo, Cond.code yX4_carriedTo cX4_carriedTo 2 (some .int), Cond.methodLink RX4 248 yX3_beginTerm]
def wsX4_endTerm_r4 : List Cond := [Cond.instanceMethod yX3_beginTerm, Cond.selects RX3 yX3_beginTerm yX3_beginTerm, Cond.initialized RX3, Cond.code yX3_beginTerm cX3_beginTerm 2 none, Cond.fieldLink RX3 10 "TermBill$Student" "courses" "LTermBill$Courses;", Cond.fieldLink RX3 19 "TermBill$Student" "aid" "LTermBill$Aid;", Cond.fieldLink RX3 47 "TermBill$Student" "sponsorKinds" "I", Cond.fieldLink RX3 50 "TermBill$Student" "sponsorLimit" "I", Cond.fieldLink RX3 44 "TermBill$Student" "housing" "I", Cond.methodLink RX3 60 Lib.Math.max.name, Cond.static Lib.Math.max.name, Cond.code Lib.Math.max.name Lib.Math.max.code 2 (some .int), Cond.fieldLink RX3 41 "TermBill$Student" "fees" "I", Cond.fieldLink RX3 53 "TermBill$Student" "paidSum" "I", Cond.methodLink RX3 56 yX1_clear, Cond.instanceMethod yX1_clear, Cond.selects RX1 yX1_clear yX1_clear, Cond.code yX1_clear cX1_clear 1 none, Cond.fieldLink RX1 15 "TermBill$Courses" "taken" "I", Cond.fieldLink RX1 19 "TermBill$Courses" "keptSum" "I", Cond.methodLink RX1 22 yJ7_fill_53178, Cond.static yJ7_fill_53178, Cond.initialized RJ7, Cond.code yJ7_fill_53178 cJ7_fill_53178 4 none]
def wsX4_endTerm_r5 : List Cond := [Cond.methodLink RX3 59 yX0_clear, Cond.instanceMethod yX0_clear, Cond.selects RX0 yX0_clear yX0_clear, Cond.code yX0_clear cX0_clear 1 none, Cond.fieldLink RX0 21 "TermBill$Aid" "many" "I", Cond.methodLink RX0 31 yJ7_fill_53178]
def wsX4_endTerm : List Cond := .code yX4_endTerm cX4_endTerm 7 none :: ((wsX4_endTerm_r1 ++ (wsX4_endTerm_r2 ++ (wsX4_endTerm_r3 ++ (wsX4_endTerm_r4 ++ wsX4_endTerm_r5)))) ++ wsX40 ++ wsX30 ++ wsX10 ++ wsX00 ++ (vx_atS RX4 120 "java/lang/IndexOutOfBoundsException" ["java/lang/RuntimeException", "java/lang/Exception"]).filter goodWord)
def wsX4_chargeLateFees_r1 : List Cond := [Cond.fieldLink RX4 156 "TermBill$Student" "instalments" "LTermBill$Instalments;", Cond.fieldLink RX4 132 "TermBill$Student" "fees" "I", Cond.fieldLink RX4 29 "TermBill" "lateFee" "I", Cond.methodLink RX4 71 yX4_studentAt, Cond.instanceMethod yX4_studentAt, Cond.selects RX4 yX4_studentAt yX4_studentAt, Cond.initialized RX4, Cond.code yX4_studentAt cX4_studentAt 3 (some (.object "TermBill$Student")), Cond.classLink RX4 116 "java/lang/IndexOutOfBoundsException", Cond.initialized "java/lang/IndexOutOfBoundsException", Cond.fieldLink RX4 11 "TermBill" "students" "[LTermBill$Student;", Cond.methodLink RX4 173 yX4_weekNumber, Cond.instanceMethod yX4_weekNumber, Cond.selects RX4 yX4_weekNumber yX4_weekNumber, Cond.code yX4_weekNumber cX4_weekNumber 1 (some .int), Cond.fieldLink RX4 38 "TermBill" "term" "I", Cond.fieldLink RX4 35 "TermBill" "week" "I", Cond.methodLink RX4 251 yX2_isLateAt, Cond.instanceMethod yX2_isLateAt, Cond.selects RX2 yX2_isLateAt yX2_isLateAt, Cond.initialized RX2, Cond.code yX2_isLateAt cX2_isLateAt 4 (some .boolean), Cond.fieldLink RX2 9 "TermBill$Instalments" "madeAt" "I", Cond.fieldLink RX2 15 "TermBill$Instalments" "many" "I"]
def wsX4_chargeLateFees_r2 : List Cond := [Cond.fieldLink RX2 24 "TermBill$Instalments" "paidSince" "I", Cond.fieldLink RX2 18 "TermBill$Instalments" "first" "I", Cond.fieldLink RX2 21 "TermBill$Instalments" "each" "I"]
def wsX4_chargeLateFees : List Cond := .code yX4_chargeLateFees cX4_chargeLateFees 3 none :: ((wsX4_chargeLateFees_r1 ++ wsX4_chargeLateFees_r2) ++ wsX30 ++ wsX40 ++ wsX20 ++ (vx_atS RX4 120 "java/lang/IndexOutOfBoundsException" ["java/lang/RuntimeException", "java/lang/Exception"]).filter goodWord)
def wsX4_closeWeek_r1 : List Cond := [Cond.classLink RX4 107 "java/lang/IllegalStateException", Cond.initialized "java/lang/IllegalStateException", Cond.fieldLink RX4 35 "TermBill" "week" "I", Cond.fieldLink RX4 38 "TermBill" "term" "I", Cond.methodLink RX4 193 yX4_endTerm, Cond.instanceMethod yX4_endTerm, Cond.selects RX4 yX4_endTerm yX4_endTerm, Cond.initialized RX4, Cond.code yX4_endTerm cX4_endTerm 7 none, Cond.methodLink RX4 71 yX4_studentAt, Cond.instanceMethod yX4_studentAt, Cond.selects RX4 yX4_studentAt yX4_studentAt, Cond.code yX4_studentAt cX4_studentAt 3 (some (.object "TermBill$Student")), Cond.classLink RX4 116 "java/lang/IndexOutOfBoundsException", Cond.initialized "java/lang/IndexOutOfBoundsException", Cond.fieldLink RX4 11 "TermBill" "students" "[LTermBill$Student;", Cond.methodLink RX4 165 yX4_balanceOf, Cond.instanceMethod yX4_balanceOf, Cond.selects RX4 yX4_balanceOf yX4_balanceOf, Cond.code yX4_balanceOf cX4_balanceOf 3 (some .int), Cond.fieldLink RX4 140 "TermBill$Student" "aid" "LTermBill$Aid;", Cond.fieldLink RX4 84 "TermBill$Student" "need" "I", Cond.fieldLink RX4 153 "TermBill$Student" "paidSum" "I", Cond.methodLink RX4 211 yX4_unsponsored]
def wsX4_closeWeek_r2 : List Cond := [Cond.instanceMethod yX4_unsponsored, Cond.selects RX4 yX4_unsponsored yX4_unsponsored, Cond.code yX4_unsponsored cX4_unsponsored 2 (some .int), Cond.methodLink RX4 202 yX4_chargesOf, Cond.instanceMethod yX4_chargesOf, Cond.selects RX4 yX4_chargesOf yX4_chargesOf, Cond.code yX4_chargesOf cX4_chargesOf 5 (some .int), Cond.fieldLink RX4 77 "TermBill$Student" "level" "I", Cond.fieldLink RX4 80 "TermBill$Student" "isResident" "Z", Cond.fieldLink RX4 97 "TermBill$Student" "courses" "LTermBill$Courses;", Cond.fieldLink RX4 237 "TermBill$Courses" "keptSum" "I", Cond.fieldLink RX4 132 "TermBill$Student" "fees" "I", Cond.fieldLink RX4 135 "TermBill$Student" "housing" "I", Cond.methodLink RX4 48 yX4_placeOfRate, Cond.static yX4_placeOfRate, Cond.code yX4_placeOfRate cX4_placeOfRate 2 (some .int), Cond.methodLink RX4 225 yX4_rateAt, Cond.instanceMethod yX4_rateAt, Cond.selects RX4 yX4_rateAt yX4_rateAt, Cond.code yX4_rateAt cX4_rateAt 2 (some .int), Cond.fieldLink RX4 15 "TermBill" "rates" "[I", Cond.methodLink RX4 199 yX1_total, Cond.instanceMethod yX1_total, Cond.selects RX1 yX1_total yX1_total]
def wsX4_closeWeek_r3 : List Cond := [Cond.initialized RX1, Cond.code yX1_total cX1_total 3 (some .int), Cond.fieldLink RX1 9 "TermBill$Courses" "creditsByCourse" "[I", Cond.methodLink RX4 228 yX4_priceOf, Cond.instanceMethod yX4_priceOf, Cond.selects RX4 yX4_priceOf yX4_priceOf, Cond.code yX4_priceOf cX4_priceOf 3 (some .int), Cond.fieldLink RX4 22 "TermBill" "bandFrom" "I", Cond.fieldLink RX4 26 "TermBill" "bandTo" "I", Cond.methodLink RX4 205 yX4_sponsorPart, Cond.instanceMethod yX4_sponsorPart, Cond.selects RX4 yX4_sponsorPart yX4_sponsorPart, Cond.code yX4_sponsorPart cX4_sponsorPart 2 (some .int), Cond.fieldLink RX4 89 "TermBill$Student" "sponsorKinds" "I", Cond.fieldLink RX4 92 "TermBill$Student" "sponsorLimit" "I", Cond.methodLink RX4 240 Lib.Math.min.name, Cond.static Lib.Math.min.name, Cond.initialized "java/lang/Math", Cond.code Lib.Math.min.name Lib.Math.min.code 2 (some .int), Cond.methodLink RX4 214 yX0_cover, Cond.instanceMethod yX0_cover, Cond.selects RX0 yX0_cover yX0_cover, Cond.initialized RX0, Cond.code yX0_cover cX0_cover 8 (some .int)]
def wsX4_closeWeek_r4 : List Cond := [Cond.fieldLink RX0 9 "TermBill$Aid" "ranks" "[I", Cond.methodLink RX0 25 Lib.Math.min.name, Cond.fieldLink RX0 18 "TermBill$Aid" "uses" "[I", Cond.fieldLink RX0 15 "TermBill$Aid" "amounts" "[I", Cond.methodLink RX4 245 yX4_carriedTo, Cond.static yX4_carriedTo, Cond.code yX4_carriedTo cX4_carriedTo 2 (some .int), Cond.methodLink RX4 248 yX3_beginTerm, Cond.instanceMethod yX3_beginTerm, Cond.selects RX3 yX3_beginTerm yX3_beginTerm, Cond.initialized RX3, Cond.code yX3_beginTerm cX3_beginTerm 2 none, Cond.fieldLink RX3 10 "TermBill$Student" "courses" "LTermBill$Courses;", Cond.fieldLink RX3 19 "TermBill$Student" "aid" "LTermBill$Aid;", Cond.fieldLink RX3 47 "TermBill$Student" "sponsorKinds" "I", Cond.fieldLink RX3 50 "TermBill$Student" "sponsorLimit" "I", Cond.fieldLink RX3 44 "TermBill$Student" "housing" "I", Cond.methodLink RX3 60 Lib.Math.max.name, Cond.static Lib.Math.max.name, Cond.code Lib.Math.max.name Lib.Math.max.code 2 (some .int), Cond.fieldLink RX3 41 "TermBill$Student" "fees" "I", Cond.fieldLink RX3 53 "TermBill$Student" "paidSum" "I", Cond.methodLink RX3 56 yX1_clear, Cond.instanceMethod yX1_clear]
def wsX4_closeWeek_r5 : List Cond := [Cond.selects RX1 yX1_clear yX1_clear, Cond.code yX1_clear cX1_clear 1 none, Cond.fieldLink RX1 15 "TermBill$Courses" "taken" "I", Cond.fieldLink RX1 19 "TermBill$Courses" "keptSum" "I", Cond.methodLink RX1 22 yJ7_fill_53178, Cond.static yJ7_fill_53178, Cond.initialized RJ7, Cond.code yJ7_fill_53178 cJ7_fill_53178 4 none, Cond.methodLink RX3 59 yX0_clear, Cond.instanceMethod yX0_clear, Cond.selects RX0 yX0_clear yX0_clear, Cond.code yX0_clear cX0_clear 1 none, Cond.fieldLink RX0 21 "TermBill$Aid" "many" "I", Cond.methodLink RX0 31 yJ7_fill_53178, Cond.methodLink RX4 196 yX4_chargeLateFees, Cond.instanceMethod yX4_chargeLateFees, Cond.selects RX4 yX4_chargeLateFees yX4_chargeLateFees, Cond.code yX4_chargeLateFees cX4_chargeLateFees 3 none, Cond.fieldLink RX4 156 "TermBill$Student" "instalments" "LTermBill$Instalments;", Cond.fieldLink RX4 29 "TermBill" "lateFee" "I", Cond.methodLink RX4 173 yX4_weekNumber, Cond.instanceMethod yX4_weekNumber, Cond.selects RX4 yX4_weekNumber yX4_weekNumber, Cond.code yX4_weekNumber cX4_weekNumber 1 (some .int)]
def wsX4_closeWeek_r6 : List Cond := [Cond.methodLink RX4 251 yX2_isLateAt, Cond.instanceMethod yX2_isLateAt, Cond.selects RX2 yX2_isLateAt yX2_isLateAt, Cond.initialized RX2, Cond.code yX2_isLateAt cX2_isLateAt 4 (some .boolean), Cond.fieldLink RX2 9 "TermBill$Instalments" "madeAt" "I", Cond.fieldLink RX2 15 "TermBill$Instalments" "many" "I", Cond.fieldLink RX2 24 "TermBill$Instalments" "paidSince" "I", Cond.fieldLink RX2 18 "TermBill$Instalments" "first" "I", Cond.fieldLink RX2 21 "TermBill$Instalments" "each" "I"]
def wsX4_closeWeek : List Cond := .code yX4_closeWeek cX4_closeWeek 1 (some .int) :: ((wsX4_closeWeek_r1 ++ (wsX4_closeWeek_r2 ++ (wsX4_closeWeek_r3 ++ (wsX4_closeWeek_r4 ++ (wsX4_closeWeek_r5 ++ wsX4_closeWeek_r6))))) ++ wsX40 ++ wsX30 ++ wsX10 ++ wsX00 ++ wsX20 ++ (vx_atS RX4 111 "java/lang/IllegalStateException" ["java/lang/RuntimeException", "java/lang/Exception"]).filter goodWord ++ (vx_atS RX4 120 "java/lang/IndexOutOfBoundsException" ["java/lang/RuntimeException", "java/lang/Exception"]).filter goodWord)
def wsX4_week : List Cond := .code yX4_week cX4_week 1 (some .int) :: ([.fieldLink RX4 35 "TermBill" "week" "I"] ++ wsX40)
def wsX4_term : List Cond := .code yX4_term cX4_term 1 (some .int) :: ([.fieldLink RX4 38 "TermBill" "term" "I"] ++ wsX40)
def wsX4_credits : List Cond := .code yX4_credits cX4_credits 2 (some .int) :: ([.fieldLink RX4 97 "TermBill$Student" "courses" "LTermBill$Courses;", .methodLink RX4 71 yX4_studentAt, .instanceMethod yX4_studentAt, .selects RX4 yX4_studentAt yX4_studentAt, .initialized RX4, .code yX4_studentAt cX4_studentAt 3 (some (.object "TermBill$Student")), .classLink RX4 116 "java/lang/IndexOutOfBoundsException", .initialized "java/lang/IndexOutOfBoundsException", .fieldLink RX4 11 "TermBill" "students" "[LTermBill$Student;", .methodLink RX4 199 yX1_total, .instanceMethod yX1_total, .selects RX1 yX1_total yX1_total, .initialized RX1, .code yX1_total cX1_total 3 (some .int), .fieldLink RX1 9 "TermBill$Courses" "creditsByCourse" "[I"] ++ wsX30 ++ wsX40 ++ wsX10 ++ (vx_atS RX4 120 "java/lang/IndexOutOfBoundsException" ["java/lang/RuntimeException", "java/lang/Exception"]).filter goodWord)
def wsX4_charged_r1 : List Cond := [Cond.classLink RX4 57 "java/lang/IllegalArgumentException", Cond.initialized "java/lang/IllegalArgumentException", Cond.methodLink RX4 71 yX4_studentAt, Cond.instanceMethod yX4_studentAt, Cond.selects RX4 yX4_studentAt yX4_studentAt, Cond.initialized RX4, Cond.code yX4_studentAt cX4_studentAt 3 (some (.object "TermBill$Student")), Cond.classLink RX4 116 "java/lang/IndexOutOfBoundsException", Cond.initialized "java/lang/IndexOutOfBoundsException", Cond.fieldLink RX4 11 "TermBill" "students" "[LTermBill$Student;", Cond.methodLink RX4 53 yX4_isWithin, Cond.static yX4_isWithin, Cond.code yX4_isWithin cX4_isWithin 3 (some .boolean), Cond.methodLink RX4 202 yX4_chargesOf, Cond.instanceMethod yX4_chargesOf, Cond.selects RX4 yX4_chargesOf yX4_chargesOf, Cond.code yX4_chargesOf cX4_chargesOf 5 (some .int), Cond.fieldLink RX4 77 "TermBill$Student" "level" "I", Cond.fieldLink RX4 80 "TermBill$Student" "isResident" "Z", Cond.fieldLink RX4 97 "TermBill$Student" "courses" "LTermBill$Courses;", Cond.fieldLink RX4 237 "TermBill$Courses" "keptSum" "I", Cond.fieldLink RX4 132 "TermBill$Student" "fees" "I", Cond.fieldLink RX4 135 "TermBill$Student" "housing" "I", Cond.methodLink RX4 48 yX4_placeOfRate]
def wsX4_charged_r2 : List Cond := [Cond.static yX4_placeOfRate, Cond.code yX4_placeOfRate cX4_placeOfRate 2 (some .int), Cond.methodLink RX4 225 yX4_rateAt, Cond.instanceMethod yX4_rateAt, Cond.selects RX4 yX4_rateAt yX4_rateAt, Cond.code yX4_rateAt cX4_rateAt 2 (some .int), Cond.fieldLink RX4 15 "TermBill" "rates" "[I", Cond.methodLink RX4 199 yX1_total, Cond.instanceMethod yX1_total, Cond.selects RX1 yX1_total yX1_total, Cond.initialized RX1, Cond.code yX1_total cX1_total 3 (some .int), Cond.fieldLink RX1 9 "TermBill$Courses" "creditsByCourse" "[I", Cond.methodLink RX4 228 yX4_priceOf, Cond.instanceMethod yX4_priceOf, Cond.selects RX4 yX4_priceOf yX4_priceOf, Cond.code yX4_priceOf cX4_priceOf 3 (some .int), Cond.fieldLink RX4 22 "TermBill" "bandFrom" "I", Cond.fieldLink RX4 26 "TermBill" "bandTo" "I"]
def wsX4_charged : List Cond := .code yX4_charged cX4_charged 4 (some .int) :: ((wsX4_charged_r1 ++ wsX4_charged_r2) ++ wsX40 ++ wsX30 ++ wsX10 ++ (vx_atS RX4 61 "java/lang/IllegalArgumentException" ["java/lang/RuntimeException", "java/lang/Exception"]).filter goodWord ++ (vx_atS RX4 120 "java/lang/IndexOutOfBoundsException" ["java/lang/RuntimeException", "java/lang/Exception"]).filter goodWord)
def wsX4_sponsored_r1 : List Cond := [Cond.methodLink RX4 71 yX4_studentAt, Cond.instanceMethod yX4_studentAt, Cond.selects RX4 yX4_studentAt yX4_studentAt, Cond.initialized RX4, Cond.code yX4_studentAt cX4_studentAt 3 (some (.object "TermBill$Student")), Cond.classLink RX4 116 "java/lang/IndexOutOfBoundsException", Cond.initialized "java/lang/IndexOutOfBoundsException", Cond.fieldLink RX4 11 "TermBill" "students" "[LTermBill$Student;", Cond.methodLink RX4 205 yX4_sponsorPart, Cond.instanceMethod yX4_sponsorPart, Cond.selects RX4 yX4_sponsorPart yX4_sponsorPart, Cond.code yX4_sponsorPart cX4_sponsorPart 2 (some .int), Cond.fieldLink RX4 89 "TermBill$Student" "sponsorKinds" "I", Cond.fieldLink RX4 92 "TermBill$Student" "sponsorLimit" "I", Cond.methodLink RX4 240 Lib.Math.min.name, Cond.static Lib.Math.min.name, Cond.initialized "java/lang/Math", Cond.code Lib.Math.min.name Lib.Math.min.code 2 (some .int), Cond.methodLink RX4 202 yX4_chargesOf, Cond.instanceMethod yX4_chargesOf, Cond.selects RX4 yX4_chargesOf yX4_chargesOf, Cond.code yX4_chargesOf cX4_chargesOf 5 (some .int), Cond.fieldLink RX4 77 "TermBill$Student" "level" "I", Cond.fieldLink RX4 80 "TermBill$Student" "isResident" "Z"]
def wsX4_sponsored_r2 : List Cond := [Cond.fieldLink RX4 97 "TermBill$Student" "courses" "LTermBill$Courses;", Cond.fieldLink RX4 237 "TermBill$Courses" "keptSum" "I", Cond.fieldLink RX4 132 "TermBill$Student" "fees" "I", Cond.fieldLink RX4 135 "TermBill$Student" "housing" "I", Cond.methodLink RX4 48 yX4_placeOfRate, Cond.static yX4_placeOfRate, Cond.code yX4_placeOfRate cX4_placeOfRate 2 (some .int), Cond.methodLink RX4 225 yX4_rateAt, Cond.instanceMethod yX4_rateAt, Cond.selects RX4 yX4_rateAt yX4_rateAt, Cond.code yX4_rateAt cX4_rateAt 2 (some .int), Cond.fieldLink RX4 15 "TermBill" "rates" "[I", Cond.methodLink RX4 199 yX1_total, Cond.instanceMethod yX1_total, Cond.selects RX1 yX1_total yX1_total, Cond.initialized RX1, Cond.code yX1_total cX1_total 3 (some .int), Cond.fieldLink RX1 9 "TermBill$Courses" "creditsByCourse" "[I", Cond.methodLink RX4 228 yX4_priceOf, Cond.instanceMethod yX4_priceOf, Cond.selects RX4 yX4_priceOf yX4_priceOf, Cond.code yX4_priceOf cX4_priceOf 3 (some .int), Cond.fieldLink RX4 22 "TermBill" "bandFrom" "I", Cond.fieldLink RX4 26 "TermBill" "bandTo" "I"]
def wsX4_sponsored : List Cond := .code yX4_sponsored cX4_sponsored 2 (some .int) :: ((wsX4_sponsored_r1 ++ wsX4_sponsored_r2) ++ wsX40 ++ wsX30 ++ wsX10 ++ (vx_atS RX4 120 "java/lang/IndexOutOfBoundsException" ["java/lang/RuntimeException", "java/lang/Exception"]).filter goodWord)
def wsX4_used_r1 : List Cond := [Cond.classLink RX4 116 "java/lang/IndexOutOfBoundsException", Cond.initialized "java/lang/IndexOutOfBoundsException", Cond.fieldLink RX4 140 "TermBill$Student" "aid" "LTermBill$Aid;", Cond.fieldLink RX4 84 "TermBill$Student" "need" "I", Cond.methodLink RX4 71 yX4_studentAt, Cond.instanceMethod yX4_studentAt, Cond.selects RX4 yX4_studentAt yX4_studentAt, Cond.initialized RX4, Cond.code yX4_studentAt cX4_studentAt 3 (some (.object "TermBill$Student")), Cond.fieldLink RX4 11 "TermBill" "students" "[LTermBill$Student;", Cond.methodLink RX4 208 yX0_has, Cond.instanceMethod yX0_has, Cond.selects RX0 yX0_has yX0_has, Cond.initialized RX0, Cond.code yX0_has cX0_has 2 (some .boolean), Cond.fieldLink RX0 21 "TermBill$Aid" "many" "I", Cond.methodLink RX4 211 yX4_unsponsored, Cond.instanceMethod yX4_unsponsored, Cond.selects RX4 yX4_unsponsored yX4_unsponsored, Cond.code yX4_unsponsored cX4_unsponsored 2 (some .int), Cond.methodLink RX4 202 yX4_chargesOf, Cond.instanceMethod yX4_chargesOf, Cond.selects RX4 yX4_chargesOf yX4_chargesOf, Cond.code yX4_chargesOf cX4_chargesOf 5 (some .int)]
def wsX4_used_r2 : List Cond := [Cond.fieldLink RX4 77 "TermBill$Student" "level" "I", Cond.fieldLink RX4 80 "TermBill$Student" "isResident" "Z", Cond.fieldLink RX4 97 "TermBill$Student" "courses" "LTermBill$Courses;", Cond.fieldLink RX4 237 "TermBill$Courses" "keptSum" "I", Cond.fieldLink RX4 132 "TermBill$Student" "fees" "I", Cond.fieldLink RX4 135 "TermBill$Student" "housing" "I", Cond.methodLink RX4 48 yX4_placeOfRate, Cond.static yX4_placeOfRate, Cond.code yX4_placeOfRate cX4_placeOfRate 2 (some .int), Cond.methodLink RX4 225 yX4_rateAt, Cond.instanceMethod yX4_rateAt, Cond.selects RX4 yX4_rateAt yX4_rateAt, Cond.code yX4_rateAt cX4_rateAt 2 (some .int), Cond.fieldLink RX4 15 "TermBill" "rates" "[I", Cond.methodLink RX4 199 yX1_total, Cond.instanceMethod yX1_total, Cond.selects RX1 yX1_total yX1_total, Cond.initialized RX1, Cond.code yX1_total cX1_total 3 (some .int), Cond.fieldLink RX1 9 "TermBill$Courses" "creditsByCourse" "[I", Cond.methodLink RX4 228 yX4_priceOf, Cond.instanceMethod yX4_priceOf, Cond.selects RX4 yX4_priceOf yX4_priceOf, Cond.code yX4_priceOf cX4_priceOf 3 (some .int)]
def wsX4_used_r3 : List Cond := [Cond.fieldLink RX4 22 "TermBill" "bandFrom" "I", Cond.fieldLink RX4 26 "TermBill" "bandTo" "I", Cond.methodLink RX4 205 yX4_sponsorPart, Cond.instanceMethod yX4_sponsorPart, Cond.selects RX4 yX4_sponsorPart yX4_sponsorPart, Cond.code yX4_sponsorPart cX4_sponsorPart 2 (some .int), Cond.fieldLink RX4 89 "TermBill$Student" "sponsorKinds" "I", Cond.fieldLink RX4 92 "TermBill$Student" "sponsorLimit" "I", Cond.methodLink RX4 240 Lib.Math.min.name, Cond.static Lib.Math.min.name, Cond.initialized "java/lang/Math", Cond.code Lib.Math.min.name Lib.Math.min.code 2 (some .int), Cond.methodLink RX4 214 yX0_cover, Cond.instanceMethod yX0_cover, Cond.selects RX0 yX0_cover yX0_cover, Cond.code yX0_cover cX0_cover 8 (some .int), Cond.fieldLink RX0 9 "TermBill$Aid" "ranks" "[I", Cond.methodLink RX0 25 Lib.Math.min.name, Cond.fieldLink RX0 18 "TermBill$Aid" "uses" "[I", Cond.fieldLink RX0 15 "TermBill$Aid" "amounts" "[I", Cond.methodLink RX4 217 yX0_useOf, Cond.instanceMethod yX0_useOf, Cond.selects RX0 yX0_useOf yX0_useOf, Cond.code yX0_useOf cX0_useOf 2 (some .int)]
def wsX4_used : List Cond := .code yX4_used cX4_used 4 (some .int) :: ((wsX4_used_r1 ++ (wsX4_used_r2 ++ wsX4_used_r3)) ++ wsX30 ++ wsX40 ++ wsX00 ++ wsX10 ++ (vx_atS RX4 120 "java/lang/IndexOutOfBoundsException" ["java/lang/RuntimeException", "java/lang/Exception"]).filter goodWord)
def wsX4_amountOf : List Cond := .code yX4_amountOf cX4_amountOf 4 (some .int) :: ([.classLink RX4 116 "java/lang/IndexOutOfBoundsException", .initialized "java/lang/IndexOutOfBoundsException", .fieldLink RX4 140 "TermBill$Student" "aid" "LTermBill$Aid;", .methodLink RX4 71 yX4_studentAt, .instanceMethod yX4_studentAt, .selects RX4 yX4_studentAt yX4_studentAt, .initialized RX4, .code yX4_studentAt cX4_studentAt 3 (some (.object "TermBill$Student")), .fieldLink RX4 11 "TermBill" "students" "[LTermBill$Student;", .methodLink RX4 208 yX0_has, .instanceMethod yX0_has, .selects RX0 yX0_has yX0_has, .initialized RX0, .code yX0_has cX0_has 2 (some .boolean), .fieldLink RX0 21 "TermBill$Aid" "many" "I", .methodLink RX4 220 yX0_sumOf, .instanceMethod yX0_sumOf, .selects RX0 yX0_sumOf yX0_sumOf, .code yX0_sumOf cX0_sumOf 2 (some .int), .fieldLink RX0 15 "TermBill$Aid" "amounts" "[I"] ++ wsX30 ++ wsX40 ++ wsX00 ++ (vx_atS RX4 120 "java/lang/IndexOutOfBoundsException" ["java/lang/RuntimeException", "java/lang/Exception"]).filter goodWord)
def wsX4_paid : List Cond := .code yX4_paid cX4_paid 2 (some .int) :: ([.fieldLink RX4 153 "TermBill$Student" "paidSum" "I", .methodLink RX4 71 yX4_studentAt, .instanceMethod yX4_studentAt, .selects RX4 yX4_studentAt yX4_studentAt, .initialized RX4, .code yX4_studentAt cX4_studentAt 3 (some (.object "TermBill$Student")), .classLink RX4 116 "java/lang/IndexOutOfBoundsException", .initialized "java/lang/IndexOutOfBoundsException", .fieldLink RX4 11 "TermBill" "students" "[LTermBill$Student;"] ++ wsX30 ++ wsX40 ++ (vx_atS RX4 120 "java/lang/IndexOutOfBoundsException" ["java/lang/RuntimeException", "java/lang/Exception"]).filter goodWord)
def wsX4_owed_r1 : List Cond := [Cond.methodLink RX4 71 yX4_studentAt, Cond.instanceMethod yX4_studentAt, Cond.selects RX4 yX4_studentAt yX4_studentAt, Cond.initialized RX4, Cond.code yX4_studentAt cX4_studentAt 3 (some (.object "TermBill$Student")), Cond.classLink RX4 116 "java/lang/IndexOutOfBoundsException", Cond.initialized "java/lang/IndexOutOfBoundsException", Cond.fieldLink RX4 11 "TermBill" "students" "[LTermBill$Student;", Cond.methodLink RX4 165 yX4_balanceOf, Cond.instanceMethod yX4_balanceOf, Cond.selects RX4 yX4_balanceOf yX4_balanceOf, Cond.code yX4_balanceOf cX4_balanceOf 3 (some .int), Cond.fieldLink RX4 140 "TermBill$Student" "aid" "LTermBill$Aid;", Cond.fieldLink RX4 84 "TermBill$Student" "need" "I", Cond.fieldLink RX4 153 "TermBill$Student" "paidSum" "I", Cond.methodLink RX4 211 yX4_unsponsored, Cond.instanceMethod yX4_unsponsored, Cond.selects RX4 yX4_unsponsored yX4_unsponsored, Cond.code yX4_unsponsored cX4_unsponsored 2 (some .int), Cond.methodLink RX4 202 yX4_chargesOf, Cond.instanceMethod yX4_chargesOf, Cond.selects RX4 yX4_chargesOf yX4_chargesOf, Cond.code yX4_chargesOf cX4_chargesOf 5 (some .int), Cond.fieldLink RX4 77 "TermBill$Student" "level" "I"]
def wsX4_owed_r2 : List Cond := [Cond.fieldLink RX4 80 "TermBill$Student" "isResident" "Z", Cond.fieldLink RX4 97 "TermBill$Student" "courses" "LTermBill$Courses;", Cond.fieldLink RX4 237 "TermBill$Courses" "keptSum" "I", Cond.fieldLink RX4 132 "TermBill$Student" "fees" "I", Cond.fieldLink RX4 135 "TermBill$Student" "housing" "I", Cond.methodLink RX4 48 yX4_placeOfRate, Cond.static yX4_placeOfRate, Cond.code yX4_placeOfRate cX4_placeOfRate 2 (some .int), Cond.methodLink RX4 225 yX4_rateAt, Cond.instanceMethod yX4_rateAt, Cond.selects RX4 yX4_rateAt yX4_rateAt, Cond.code yX4_rateAt cX4_rateAt 2 (some .int), Cond.fieldLink RX4 15 "TermBill" "rates" "[I", Cond.methodLink RX4 199 yX1_total, Cond.instanceMethod yX1_total, Cond.selects RX1 yX1_total yX1_total, Cond.initialized RX1, Cond.code yX1_total cX1_total 3 (some .int), Cond.fieldLink RX1 9 "TermBill$Courses" "creditsByCourse" "[I", Cond.methodLink RX4 228 yX4_priceOf, Cond.instanceMethod yX4_priceOf, Cond.selects RX4 yX4_priceOf yX4_priceOf, Cond.code yX4_priceOf cX4_priceOf 3 (some .int), Cond.fieldLink RX4 22 "TermBill" "bandFrom" "I"]
def wsX4_owed_r3 : List Cond := [Cond.fieldLink RX4 26 "TermBill" "bandTo" "I", Cond.methodLink RX4 205 yX4_sponsorPart, Cond.instanceMethod yX4_sponsorPart, Cond.selects RX4 yX4_sponsorPart yX4_sponsorPart, Cond.code yX4_sponsorPart cX4_sponsorPart 2 (some .int), Cond.fieldLink RX4 89 "TermBill$Student" "sponsorKinds" "I", Cond.fieldLink RX4 92 "TermBill$Student" "sponsorLimit" "I", Cond.methodLink RX4 240 Lib.Math.min.name, Cond.static Lib.Math.min.name, Cond.initialized "java/lang/Math", Cond.code Lib.Math.min.name Lib.Math.min.code 2 (some .int), Cond.methodLink RX4 214 yX0_cover, Cond.instanceMethod yX0_cover, Cond.selects RX0 yX0_cover yX0_cover, Cond.initialized RX0, Cond.code yX0_cover cX0_cover 8 (some .int), Cond.fieldLink RX0 9 "TermBill$Aid" "ranks" "[I", Cond.methodLink RX0 25 Lib.Math.min.name, Cond.fieldLink RX0 18 "TermBill$Aid" "uses" "[I", Cond.fieldLink RX0 15 "TermBill$Aid" "amounts" "[I"]
def wsX4_owed : List Cond := .code yX4_owed cX4_owed 2 (some .int) :: ((wsX4_owed_r1 ++ (wsX4_owed_r2 ++ wsX4_owed_r3)) ++ wsX40 ++ wsX30 ++ wsX10 ++ wsX00 ++ (vx_atS RX4 120 "java/lang/IndexOutOfBoundsException" ["java/lang/RuntimeException", "java/lang/Exception"]).filter goodWord)
def wsX4_hasHold_r1 : List Cond := [Cond.fieldLink RX4 32 "TermBill" "holdLimit" "I", Cond.methodLink RX4 71 yX4_studentAt, Cond.instanceMethod yX4_studentAt, Cond.selects RX4 yX4_studentAt yX4_studentAt, Cond.initialized RX4, Cond.code yX4_studentAt cX4_studentAt 3 (some (.object "TermBill$Student")), Cond.classLink RX4 116 "java/lang/IndexOutOfBoundsException", Cond.initialized "java/lang/IndexOutOfBoundsException", Cond.fieldLink RX4 11 "TermBill" "students" "[LTermBill$Student;", Cond.methodLink RX4 165 yX4_balanceOf, Cond.instanceMethod yX4_balanceOf, Cond.selects RX4 yX4_balanceOf yX4_balanceOf, Cond.code yX4_balanceOf cX4_balanceOf 3 (some .int), Cond.fieldLink RX4 140 "TermBill$Student" "aid" "LTermBill$Aid;", Cond.fieldLink RX4 84 "TermBill$Student" "need" "I", Cond.fieldLink RX4 153 "TermBill$Student" "paidSum" "I", Cond.methodLink RX4 211 yX4_unsponsored, Cond.instanceMethod yX4_unsponsored, Cond.selects RX4 yX4_unsponsored yX4_unsponsored, Cond.code yX4_unsponsored cX4_unsponsored 2 (some .int), Cond.methodLink RX4 202 yX4_chargesOf, Cond.instanceMethod yX4_chargesOf, Cond.selects RX4 yX4_chargesOf yX4_chargesOf, Cond.code yX4_chargesOf cX4_chargesOf 5 (some .int)]
def wsX4_hasHold_r2 : List Cond := [Cond.fieldLink RX4 77 "TermBill$Student" "level" "I", Cond.fieldLink RX4 80 "TermBill$Student" "isResident" "Z", Cond.fieldLink RX4 97 "TermBill$Student" "courses" "LTermBill$Courses;", Cond.fieldLink RX4 237 "TermBill$Courses" "keptSum" "I", Cond.fieldLink RX4 132 "TermBill$Student" "fees" "I", Cond.fieldLink RX4 135 "TermBill$Student" "housing" "I", Cond.methodLink RX4 48 yX4_placeOfRate, Cond.static yX4_placeOfRate, Cond.code yX4_placeOfRate cX4_placeOfRate 2 (some .int), Cond.methodLink RX4 225 yX4_rateAt, Cond.instanceMethod yX4_rateAt, Cond.selects RX4 yX4_rateAt yX4_rateAt, Cond.code yX4_rateAt cX4_rateAt 2 (some .int), Cond.fieldLink RX4 15 "TermBill" "rates" "[I", Cond.methodLink RX4 199 yX1_total, Cond.instanceMethod yX1_total, Cond.selects RX1 yX1_total yX1_total, Cond.initialized RX1, Cond.code yX1_total cX1_total 3 (some .int), Cond.fieldLink RX1 9 "TermBill$Courses" "creditsByCourse" "[I", Cond.methodLink RX4 228 yX4_priceOf, Cond.instanceMethod yX4_priceOf, Cond.selects RX4 yX4_priceOf yX4_priceOf, Cond.code yX4_priceOf cX4_priceOf 3 (some .int)]
def wsX4_hasHold_r3 : List Cond := [Cond.fieldLink RX4 22 "TermBill" "bandFrom" "I", Cond.fieldLink RX4 26 "TermBill" "bandTo" "I", Cond.methodLink RX4 205 yX4_sponsorPart, Cond.instanceMethod yX4_sponsorPart, Cond.selects RX4 yX4_sponsorPart yX4_sponsorPart, Cond.code yX4_sponsorPart cX4_sponsorPart 2 (some .int), Cond.fieldLink RX4 89 "TermBill$Student" "sponsorKinds" "I", Cond.fieldLink RX4 92 "TermBill$Student" "sponsorLimit" "I", Cond.methodLink RX4 240 Lib.Math.min.name, Cond.static Lib.Math.min.name, Cond.initialized "java/lang/Math", Cond.code Lib.Math.min.name Lib.Math.min.code 2 (some .int), Cond.methodLink RX4 214 yX0_cover, Cond.instanceMethod yX0_cover, Cond.selects RX0 yX0_cover yX0_cover, Cond.initialized RX0, Cond.code yX0_cover cX0_cover 8 (some .int), Cond.fieldLink RX0 9 "TermBill$Aid" "ranks" "[I", Cond.methodLink RX0 25 Lib.Math.min.name, Cond.fieldLink RX0 18 "TermBill$Aid" "uses" "[I", Cond.fieldLink RX0 15 "TermBill$Aid" "amounts" "[I"]
def wsX4_hasHold : List Cond := .code yX4_hasHold cX4_hasHold 2 (some .boolean) :: ((wsX4_hasHold_r1 ++ (wsX4_hasHold_r2 ++ wsX4_hasHold_r3)) ++ wsX40 ++ wsX30 ++ wsX10 ++ wsX00 ++ (vx_atS RX4 120 "java/lang/IndexOutOfBoundsException" ["java/lang/RuntimeException", "java/lang/Exception"]).filter goodWord)
def wsX5_init_r1 : List Cond := [Cond.methodLink RX5 1 objectInit, Cond.instanceMethod objectInit, Cond.code objectInit ⟨#[0xb1]⟩ 1 none, Cond.arrayClass .int, Cond.fieldLink RX5 7 "TermBillModel" "rates" "[I", Cond.fieldLink RX5 13 "TermBillModel" "from" "I", Cond.fieldLink RX5 17 "TermBillModel" "to" "I", Cond.fieldLink RX5 20 "TermBillModel" "table" "[I", Cond.fieldLink RX5 23 "TermBillModel" "lateFee" "I", Cond.fieldLink RX5 26 "TermBillModel" "levels" "[I", Cond.arrayClass .boolean, Cond.fieldLink RX5 29 "TermBillModel" "areResident" "[Z", Cond.fieldLink RX5 33 "TermBillModel" "needs" "[I", Cond.fieldLink RX5 36 "TermBillModel" "sponsorKinds" "[I", Cond.fieldLink RX5 39 "TermBillModel" "sponsorLimits" "[I", Cond.fieldLink RX5 42 "TermBillModel" "courses" "[I", Cond.fieldLink RX5 45 "TermBillModel" "credits" "[I", Cond.fieldLink RX5 48 "TermBillModel" "areDropped" "[Z", Cond.fieldLink RX5 51 "TermBillModel" "kept" "[I", Cond.fieldLink RX5 54 "TermBillModel" "fees" "[I", Cond.fieldLink RX5 57 "TermBillModel" "housing" "[I", Cond.fieldLink RX5 60 "TermBillModel" "awards" "[I", Cond.fieldLink RX5 63 "TermBillModel" "ranks" "[I", Cond.fieldLink RX5 66 "TermBillModel" "amounts" "[I"]
def wsX5_init_r2 : List Cond := [Cond.fieldLink RX5 69 "TermBillModel" "paid" "[I", Cond.fieldLink RX5 72 "TermBillModel" "planned" "[I", Cond.fieldLink RX5 75 "TermBillModel" "parts" "[I", Cond.fieldLink RX5 78 "TermBillModel" "rests" "[I", Cond.fieldLink RX5 81 "TermBillModel" "madeAt" "[I", Cond.fieldLink RX5 84 "TermBillModel" "since" "[I"]
def wsX5_init : List Cond := .code yX5_init cX5_init 2 none :: ((wsX5_init_r1 ++ wsX5_init_r2) ++ wsX50)
def wsX5_thrown : List Cond := .code yX5_thrown cX5_thrown 1 (some .int) :: ([.fieldLink RX5 87 "TermBillModel" "thrown" "I"] ++ wsX50)
def wsX5_holds : List Cond := .code yX5_holds cX5_holds 2 (some .boolean) :: ([.fieldLink RX5 87 "TermBillModel" "thrown" "I"] ++ wsX50)
def wsX5_in : List Cond := .code yX5_in cX5_in 3 (some .boolean) :: ([])
def wsX5_isStudent : List Cond := .code yX5_isStudent cX5_isStudent 1 (some .boolean) :: ([.methodLink RX5 90 yX5_in, .static yX5_in, .initialized RX5, .code yX5_in cX5_in 3 (some .boolean)])
def wsX5_least : List Cond := .code yX5_least cX5_least 2 (some .int) :: ([])
def wsX5_rateOf : List Cond := .code yX5_rateOf cX5_rateOf 2 (some .int) :: ([])
def wsX5_setRate : List Cond := .code yX5_setRate cX5_setRate 5 (some .int) :: ([.constant RX5 94 (100000), .fieldLink RX5 7 "TermBillModel" "rates" "[I", .methodLink RX5 90 yX5_in, .static yX5_in, .initialized RX5, .code yX5_in cX5_in 3 (some .boolean), .methodLink RX5 95 yX5_holds, .instanceMethod yX5_holds, .selects RX5 yX5_holds yX5_holds, .code yX5_holds cX5_holds 2 (some .boolean), .fieldLink RX5 87 "TermBillModel" "thrown" "I", .methodLink RX5 99 yX5_rateOf, .static yX5_rateOf, .code yX5_rateOf cX5_rateOf 2 (some .int)] ++ wsX50)
def wsX5_setBand : List Cond := .code yX5_setBand cX5_setBand 3 none :: ([.fieldLink RX5 13 "TermBillModel" "from" "I", .fieldLink RX5 17 "TermBillModel" "to" "I", .methodLink RX5 90 yX5_in, .static yX5_in, .initialized RX5, .code yX5_in cX5_in 3 (some .boolean), .methodLink RX5 95 yX5_holds, .instanceMethod yX5_holds, .selects RX5 yX5_holds yX5_holds, .code yX5_holds cX5_holds 2 (some .boolean), .fieldLink RX5 87 "TermBillModel" "thrown" "I"] ++ wsX50)
def wsX5_setShare : List Cond := .code yX5_setShare cX5_setShare 4 (some .int) :: ([.fieldLink RX5 20 "TermBillModel" "table" "[I", .methodLink RX5 90 yX5_in, .static yX5_in, .initialized RX5, .code yX5_in cX5_in 3 (some .boolean), .methodLink RX5 95 yX5_holds, .instanceMethod yX5_holds, .selects RX5 yX5_holds yX5_holds, .code yX5_holds cX5_holds 2 (some .boolean), .fieldLink RX5 87 "TermBillModel" "thrown" "I"] ++ wsX50)
def wsX5_setFees : List Cond := .code yX5_setFees cX5_setFees 3 none :: ([.constant RX5 94 (100000), .constant RX5 103 (1000000), .fieldLink RX5 23 "TermBillModel" "lateFee" "I", .fieldLink RX5 104 "TermBillModel" "limit" "I", .methodLink RX5 90 yX5_in, .static yX5_in, .initialized RX5, .code yX5_in cX5_in 3 (some .boolean), .methodLink RX5 95 yX5_holds, .instanceMethod yX5_holds, .selects RX5 yX5_holds yX5_holds, .code yX5_holds cX5_holds 2 (some .boolean), .fieldLink RX5 87 "TermBillModel" "thrown" "I"] ++ wsX50)
def wsX5_setStudent : List Cond := .code yX5_setStudent cX5_setStudent 5 none :: ([.constant RX5 103 (1000000), .fieldLink RX5 26 "TermBillModel" "levels" "[I", .fieldLink RX5 29 "TermBillModel" "areResident" "[Z", .fieldLink RX5 33 "TermBillModel" "needs" "[I", .methodLink RX5 107 yX5_isStudent, .static yX5_isStudent, .initialized RX5, .code yX5_isStudent cX5_isStudent 1 (some .boolean), .methodLink RX5 90 yX5_in, .static yX5_in, .code yX5_in cX5_in 3 (some .boolean), .methodLink RX5 95 yX5_holds, .instanceMethod yX5_holds, .selects RX5 yX5_holds yX5_holds, .code yX5_holds cX5_holds 2 (some .boolean), .fieldLink RX5 87 "TermBillModel" "thrown" "I"] ++ wsX50)
def wsX5_setSponsor : List Cond := .code yX5_setSponsor cX5_setSponsor 4 none :: ([.constant RX5 103 (1000000), .fieldLink RX5 36 "TermBillModel" "sponsorKinds" "[I", .fieldLink RX5 39 "TermBillModel" "sponsorLimits" "[I", .methodLink RX5 107 yX5_isStudent, .static yX5_isStudent, .initialized RX5, .code yX5_isStudent cX5_isStudent 1 (some .boolean), .methodLink RX5 90 yX5_in, .static yX5_in, .code yX5_in cX5_in 3 (some .boolean), .methodLink RX5 95 yX5_holds, .instanceMethod yX5_holds, .selects RX5 yX5_holds yX5_holds, .code yX5_holds cX5_holds 2 (some .boolean), .fieldLink RX5 87 "TermBillModel" "thrown" "I"] ++ wsX50)
def wsX5_creditsOf : List Cond := .code yX5_creditsOf cX5_creditsOf 4 (some .int) :: ([.fieldLink RX5 42 "TermBillModel" "courses" "[I", .fieldLink RX5 48 "TermBillModel" "areDropped" "[Z", .fieldLink RX5 45 "TermBillModel" "credits" "[I"] ++ wsX50)
def wsX5_price : List Cond := .code yX5_price cX5_price 4 (some .int) :: ([.fieldLink RX5 13 "TermBillModel" "from" "I", .fieldLink RX5 17 "TermBillModel" "to" "I", .fieldLink RX5 7 "TermBillModel" "rates" "[I", .fieldLink RX5 26 "TermBillModel" "levels" "[I", .fieldLink RX5 29 "TermBillModel" "areResident" "[Z", .methodLink RX5 99 yX5_rateOf, .static yX5_rateOf, .initialized RX5, .code yX5_rateOf cX5_rateOf 2 (some .int)] ++ wsX50)
def wsX5_chargedOf : List Cond := .code yX5_chargedOf cX5_chargedOf 3 (some .int) :: ([.fieldLink RX5 51 "TermBillModel" "kept" "[I", .fieldLink RX5 54 "TermBillModel" "fees" "[I", .fieldLink RX5 57 "TermBillModel" "housing" "[I", .methodLink RX5 110 yX5_creditsOf, .instanceMethod yX5_creditsOf, .selects RX5 yX5_creditsOf yX5_creditsOf, .initialized RX5, .code yX5_creditsOf cX5_creditsOf 4 (some .int), .fieldLink RX5 42 "TermBillModel" "courses" "[I", .fieldLink RX5 48 "TermBillModel" "areDropped" "[Z", .fieldLink RX5 45 "TermBillModel" "credits" "[I", .methodLink RX5 114 yX5_price, .instanceMethod yX5_price, .selects RX5 yX5_price yX5_price, .code yX5_price cX5_price 4 (some .int), .fieldLink RX5 13 "TermBillModel" "from" "I", .fieldLink RX5 17 "TermBillModel" "to" "I", .fieldLink RX5 7 "TermBillModel" "rates" "[I", .fieldLink RX5 26 "TermBillModel" "levels" "[I", .fieldLink RX5 29 "TermBillModel" "areResident" "[Z", .methodLink RX5 99 yX5_rateOf, .static yX5_rateOf, .code yX5_rateOf cX5_rateOf 2 (some .int)] ++ wsX50)
def wsX5_all_r1 : List Cond := [Cond.methodLink RX5 118 yX5_chargedOf, Cond.instanceMethod yX5_chargedOf, Cond.selects RX5 yX5_chargedOf yX5_chargedOf, Cond.initialized RX5, Cond.code yX5_chargedOf cX5_chargedOf 3 (some .int), Cond.fieldLink RX5 51 "TermBillModel" "kept" "[I", Cond.fieldLink RX5 54 "TermBillModel" "fees" "[I", Cond.fieldLink RX5 57 "TermBillModel" "housing" "[I", Cond.methodLink RX5 110 yX5_creditsOf, Cond.instanceMethod yX5_creditsOf, Cond.selects RX5 yX5_creditsOf yX5_creditsOf, Cond.code yX5_creditsOf cX5_creditsOf 4 (some .int), Cond.fieldLink RX5 42 "TermBillModel" "courses" "[I", Cond.fieldLink RX5 48 "TermBillModel" "areDropped" "[Z", Cond.fieldLink RX5 45 "TermBillModel" "credits" "[I", Cond.methodLink RX5 114 yX5_price, Cond.instanceMethod yX5_price, Cond.selects RX5 yX5_price yX5_price, Cond.code yX5_price cX5_price 4 (some .int), Cond.fieldLink RX5 13 "TermBillModel" "from" "I", Cond.fieldLink RX5 17 "TermBillModel" "to" "I", Cond.fieldLink RX5 7 "TermBillModel" "rates" "[I", Cond.fieldLink RX5 26 "TermBillModel" "levels" "[I", Cond.fieldLink RX5 29 "TermBillModel" "areResident" "[Z"]
def wsX5_all_r2 : List Cond := [Cond.methodLink RX5 99 yX5_rateOf, Cond.static yX5_rateOf, Cond.code yX5_rateOf cX5_rateOf 2 (some .int)]
def wsX5_all : List Cond := .code yX5_all cX5_all 2 (some .int) :: ((wsX5_all_r1 ++ wsX5_all_r2) ++ wsX50)
def wsX5_sponsoredOf_r1 : List Cond := [Cond.fieldLink RX5 36 "TermBillModel" "sponsorKinds" "[I", Cond.fieldLink RX5 39 "TermBillModel" "sponsorLimits" "[I", Cond.methodLink RX5 118 yX5_chargedOf, Cond.instanceMethod yX5_chargedOf, Cond.selects RX5 yX5_chargedOf yX5_chargedOf, Cond.initialized RX5, Cond.code yX5_chargedOf cX5_chargedOf 3 (some .int), Cond.fieldLink RX5 51 "TermBillModel" "kept" "[I", Cond.fieldLink RX5 54 "TermBillModel" "fees" "[I", Cond.fieldLink RX5 57 "TermBillModel" "housing" "[I", Cond.methodLink RX5 110 yX5_creditsOf, Cond.instanceMethod yX5_creditsOf, Cond.selects RX5 yX5_creditsOf yX5_creditsOf, Cond.code yX5_creditsOf cX5_creditsOf 4 (some .int), Cond.fieldLink RX5 42 "TermBillModel" "courses" "[I", Cond.fieldLink RX5 48 "TermBillModel" "areDropped" "[Z", Cond.fieldLink RX5 45 "TermBillModel" "credits" "[I", Cond.methodLink RX5 114 yX5_price, Cond.instanceMethod yX5_price, Cond.selects RX5 yX5_price yX5_price, Cond.code yX5_price cX5_price 4 (some .int), Cond.fieldLink RX5 13 "TermBillModel" "from" "I", Cond.fieldLink RX5 17 "TermBillModel" "to" "I", Cond.fieldLink RX5 7 "TermBillModel" "rates" "[I"]
def wsX5_sponsoredOf_r2 : List Cond := [Cond.fieldLink RX5 26 "TermBillModel" "levels" "[I", Cond.fieldLink RX5 29 "TermBillModel" "areResident" "[Z", Cond.methodLink RX5 99 yX5_rateOf, Cond.static yX5_rateOf, Cond.code yX5_rateOf cX5_rateOf 2 (some .int), Cond.methodLink RX5 121 yX5_least, Cond.static yX5_least, Cond.code yX5_least cX5_least 2 (some .int)]
def wsX5_sponsoredOf : List Cond := .code yX5_sponsoredOf cX5_sponsoredOf 4 (some .int) :: ((wsX5_sponsoredOf_r1 ++ wsX5_sponsoredOf_r2) ++ wsX50)
def wsX5_usedOf_r1 : List Cond := [Cond.fieldLink RX5 33 "TermBillModel" "needs" "[I", Cond.fieldLink RX5 60 "TermBillModel" "awards" "[I", Cond.fieldLink RX5 63 "TermBillModel" "ranks" "[I", Cond.fieldLink RX5 66 "TermBillModel" "amounts" "[I", Cond.methodLink RX5 124 yX5_all, Cond.instanceMethod yX5_all, Cond.selects RX5 yX5_all yX5_all, Cond.initialized RX5, Cond.code yX5_all cX5_all 2 (some .int), Cond.methodLink RX5 118 yX5_chargedOf, Cond.instanceMethod yX5_chargedOf, Cond.selects RX5 yX5_chargedOf yX5_chargedOf, Cond.code yX5_chargedOf cX5_chargedOf 3 (some .int), Cond.fieldLink RX5 51 "TermBillModel" "kept" "[I", Cond.fieldLink RX5 54 "TermBillModel" "fees" "[I", Cond.fieldLink RX5 57 "TermBillModel" "housing" "[I", Cond.methodLink RX5 110 yX5_creditsOf, Cond.instanceMethod yX5_creditsOf, Cond.selects RX5 yX5_creditsOf yX5_creditsOf, Cond.code yX5_creditsOf cX5_creditsOf 4 (some .int), Cond.fieldLink RX5 42 "TermBillModel" "courses" "[I", Cond.fieldLink RX5 48 "TermBillModel" "areDropped" "[Z", Cond.fieldLink RX5 45 "TermBillModel" "credits" "[I", Cond.methodLink RX5 114 yX5_price]
def wsX5_usedOf_r2 : List Cond := [Cond.instanceMethod yX5_price, Cond.selects RX5 yX5_price yX5_price, Cond.code yX5_price cX5_price 4 (some .int), Cond.fieldLink RX5 13 "TermBillModel" "from" "I", Cond.fieldLink RX5 17 "TermBillModel" "to" "I", Cond.fieldLink RX5 7 "TermBillModel" "rates" "[I", Cond.fieldLink RX5 26 "TermBillModel" "levels" "[I", Cond.fieldLink RX5 29 "TermBillModel" "areResident" "[Z", Cond.methodLink RX5 99 yX5_rateOf, Cond.static yX5_rateOf, Cond.code yX5_rateOf cX5_rateOf 2 (some .int), Cond.methodLink RX5 127 yX5_sponsoredOf, Cond.instanceMethod yX5_sponsoredOf, Cond.selects RX5 yX5_sponsoredOf yX5_sponsoredOf, Cond.code yX5_sponsoredOf cX5_sponsoredOf 4 (some .int), Cond.fieldLink RX5 36 "TermBillModel" "sponsorKinds" "[I", Cond.fieldLink RX5 39 "TermBillModel" "sponsorLimits" "[I", Cond.methodLink RX5 121 yX5_least, Cond.static yX5_least, Cond.code yX5_least cX5_least 2 (some .int)]
def wsX5_usedOf : List Cond := .code yX5_usedOf cX5_usedOf 11 (some .int) :: ((wsX5_usedOf_r1 ++ wsX5_usedOf_r2) ++ wsX50)
def wsX5_owedOf_r1 : List Cond := [Cond.fieldLink RX5 69 "TermBillModel" "paid" "[I", Cond.methodLink RX5 124 yX5_all, Cond.instanceMethod yX5_all, Cond.selects RX5 yX5_all yX5_all, Cond.initialized RX5, Cond.code yX5_all cX5_all 2 (some .int), Cond.methodLink RX5 118 yX5_chargedOf, Cond.instanceMethod yX5_chargedOf, Cond.selects RX5 yX5_chargedOf yX5_chargedOf, Cond.code yX5_chargedOf cX5_chargedOf 3 (some .int), Cond.fieldLink RX5 51 "TermBillModel" "kept" "[I", Cond.fieldLink RX5 54 "TermBillModel" "fees" "[I", Cond.fieldLink RX5 57 "TermBillModel" "housing" "[I", Cond.methodLink RX5 110 yX5_creditsOf, Cond.instanceMethod yX5_creditsOf, Cond.selects RX5 yX5_creditsOf yX5_creditsOf, Cond.code yX5_creditsOf cX5_creditsOf 4 (some .int), Cond.fieldLink RX5 42 "TermBillModel" "courses" "[I", Cond.fieldLink RX5 48 "TermBillModel" "areDropped" "[Z", Cond.fieldLink RX5 45 "TermBillModel" "credits" "[I", Cond.methodLink RX5 114 yX5_price, Cond.instanceMethod yX5_price, Cond.selects RX5 yX5_price yX5_price, Cond.code yX5_price cX5_price 4 (some .int)]
def wsX5_owedOf_r2 : List Cond := [Cond.fieldLink RX5 13 "TermBillModel" "from" "I", Cond.fieldLink RX5 17 "TermBillModel" "to" "I", Cond.fieldLink RX5 7 "TermBillModel" "rates" "[I", Cond.fieldLink RX5 26 "TermBillModel" "levels" "[I", Cond.fieldLink RX5 29 "TermBillModel" "areResident" "[Z", Cond.methodLink RX5 99 yX5_rateOf, Cond.static yX5_rateOf, Cond.code yX5_rateOf cX5_rateOf 2 (some .int), Cond.methodLink RX5 127 yX5_sponsoredOf, Cond.instanceMethod yX5_sponsoredOf, Cond.selects RX5 yX5_sponsoredOf yX5_sponsoredOf, Cond.code yX5_sponsoredOf cX5_sponsoredOf 4 (some .int), Cond.fieldLink RX5 36 "TermBillModel" "sponsorKinds" "[I", Cond.fieldLink RX5 39 "TermBillModel" "sponsorLimits" "[I", Cond.methodLink RX5 121 yX5_least, Cond.static yX5_least, Cond.code yX5_least cX5_least 2 (some .int), Cond.methodLink RX5 130 yX5_usedOf, Cond.instanceMethod yX5_usedOf, Cond.selects RX5 yX5_usedOf yX5_usedOf, Cond.code yX5_usedOf cX5_usedOf 11 (some .int), Cond.fieldLink RX5 33 "TermBillModel" "needs" "[I", Cond.fieldLink RX5 60 "TermBillModel" "awards" "[I", Cond.fieldLink RX5 63 "TermBillModel" "ranks" "[I"]
def wsX5_owedOf_r3 : List Cond := [Cond.fieldLink RX5 66 "TermBillModel" "amounts" "[I"]
def wsX5_owedOf : List Cond := .code yX5_owedOf cX5_owedOf 2 (some .int) :: ((wsX5_owedOf_r1 ++ (wsX5_owedOf_r2 ++ wsX5_owedOf_r3)) ++ wsX50)
def wsX5_take : List Cond := .code yX5_take cX5_take 4 (some .int) :: ([.fieldLink RX5 42 "TermBillModel" "courses" "[I", .fieldLink RX5 45 "TermBillModel" "credits" "[I", .fieldLink RX5 48 "TermBillModel" "areDropped" "[Z", .methodLink RX5 107 yX5_isStudent, .static yX5_isStudent, .initialized RX5, .code yX5_isStudent cX5_isStudent 1 (some .boolean), .methodLink RX5 90 yX5_in, .static yX5_in, .code yX5_in cX5_in 3 (some .boolean), .methodLink RX5 95 yX5_holds, .instanceMethod yX5_holds, .selects RX5 yX5_holds yX5_holds, .code yX5_holds cX5_holds 2 (some .boolean), .fieldLink RX5 87 "TermBillModel" "thrown" "I"] ++ wsX50)
def wsX5_drops : List Cond := .code yX5_drops cX5_drops 5 (some .int) :: ([.fieldLink RX5 48 "TermBillModel" "areDropped" "[Z", .fieldLink RX5 20 "TermBillModel" "table" "[I", .fieldLink RX5 133 "TermBillModel" "week" "I", .constantLong RX5 136 (100), .fieldLink RX5 51 "TermBillModel" "kept" "[I", .methodLink RX5 110 yX5_creditsOf, .instanceMethod yX5_creditsOf, .selects RX5 yX5_creditsOf yX5_creditsOf, .initialized RX5, .code yX5_creditsOf cX5_creditsOf 4 (some .int), .fieldLink RX5 42 "TermBillModel" "courses" "[I", .fieldLink RX5 45 "TermBillModel" "credits" "[I", .methodLink RX5 114 yX5_price, .instanceMethod yX5_price, .selects RX5 yX5_price yX5_price, .code yX5_price cX5_price 4 (some .int), .fieldLink RX5 13 "TermBillModel" "from" "I", .fieldLink RX5 17 "TermBillModel" "to" "I", .fieldLink RX5 7 "TermBillModel" "rates" "[I", .fieldLink RX5 26 "TermBillModel" "levels" "[I", .fieldLink RX5 29 "TermBillModel" "areResident" "[Z", .methodLink RX5 99 yX5_rateOf, .static yX5_rateOf, .code yX5_rateOf cX5_rateOf 2 (some .int)] ++ wsX50)
def wsX5_drop_r1 : List Cond := [Cond.fieldLink RX5 42 "TermBillModel" "courses" "[I", Cond.fieldLink RX5 48 "TermBillModel" "areDropped" "[Z", Cond.methodLink RX5 107 yX5_isStudent, Cond.static yX5_isStudent, Cond.initialized RX5, Cond.code yX5_isStudent cX5_isStudent 1 (some .boolean), Cond.methodLink RX5 90 yX5_in, Cond.static yX5_in, Cond.code yX5_in cX5_in 3 (some .boolean), Cond.methodLink RX5 95 yX5_holds, Cond.instanceMethod yX5_holds, Cond.selects RX5 yX5_holds yX5_holds, Cond.code yX5_holds cX5_holds 2 (some .boolean), Cond.fieldLink RX5 87 "TermBillModel" "thrown" "I", Cond.methodLink RX5 138 yX5_drops, Cond.instanceMethod yX5_drops, Cond.selects RX5 yX5_drops yX5_drops, Cond.code yX5_drops cX5_drops 5 (some .int), Cond.fieldLink RX5 20 "TermBillModel" "table" "[I", Cond.fieldLink RX5 133 "TermBillModel" "week" "I", Cond.constantLong RX5 136 (100), Cond.fieldLink RX5 51 "TermBillModel" "kept" "[I", Cond.methodLink RX5 110 yX5_creditsOf, Cond.instanceMethod yX5_creditsOf]
def wsX5_drop_r2 : List Cond := [Cond.selects RX5 yX5_creditsOf yX5_creditsOf, Cond.code yX5_creditsOf cX5_creditsOf 4 (some .int), Cond.fieldLink RX5 45 "TermBillModel" "credits" "[I", Cond.methodLink RX5 114 yX5_price, Cond.instanceMethod yX5_price, Cond.selects RX5 yX5_price yX5_price, Cond.code yX5_price cX5_price 4 (some .int), Cond.fieldLink RX5 13 "TermBillModel" "from" "I", Cond.fieldLink RX5 17 "TermBillModel" "to" "I", Cond.fieldLink RX5 7 "TermBillModel" "rates" "[I", Cond.fieldLink RX5 26 "TermBillModel" "levels" "[I", Cond.fieldLink RX5 29 "TermBillModel" "areResident" "[Z", Cond.methodLink RX5 99 yX5_rateOf, Cond.static yX5_rateOf, Cond.code yX5_rateOf cX5_rateOf 2 (some .int)]
def wsX5_drop : List Cond := .code yX5_drop cX5_drop 4 (some .int) :: ((wsX5_drop_r1 ++ wsX5_drop_r2) ++ wsX50)
def wsX5_charge_r1 : List Cond := [Cond.constant RX5 103 (1000000), Cond.fieldLink RX5 54 "TermBillModel" "fees" "[I", Cond.fieldLink RX5 57 "TermBillModel" "housing" "[I", Cond.methodLink RX5 107 yX5_isStudent, Cond.static yX5_isStudent, Cond.initialized RX5, Cond.code yX5_isStudent cX5_isStudent 1 (some .boolean), Cond.methodLink RX5 90 yX5_in, Cond.static yX5_in, Cond.code yX5_in cX5_in 3 (some .boolean), Cond.methodLink RX5 95 yX5_holds, Cond.instanceMethod yX5_holds, Cond.selects RX5 yX5_holds yX5_holds, Cond.code yX5_holds cX5_holds 2 (some .boolean), Cond.fieldLink RX5 87 "TermBillModel" "thrown" "I", Cond.methodLink RX5 118 yX5_chargedOf, Cond.instanceMethod yX5_chargedOf, Cond.selects RX5 yX5_chargedOf yX5_chargedOf, Cond.code yX5_chargedOf cX5_chargedOf 3 (some .int), Cond.fieldLink RX5 51 "TermBillModel" "kept" "[I", Cond.methodLink RX5 110 yX5_creditsOf, Cond.instanceMethod yX5_creditsOf, Cond.selects RX5 yX5_creditsOf yX5_creditsOf, Cond.code yX5_creditsOf cX5_creditsOf 4 (some .int)]
def wsX5_charge_r2 : List Cond := [Cond.fieldLink RX5 42 "TermBillModel" "courses" "[I", Cond.fieldLink RX5 48 "TermBillModel" "areDropped" "[Z", Cond.fieldLink RX5 45 "TermBillModel" "credits" "[I", Cond.methodLink RX5 114 yX5_price, Cond.instanceMethod yX5_price, Cond.selects RX5 yX5_price yX5_price, Cond.code yX5_price cX5_price 4 (some .int), Cond.fieldLink RX5 13 "TermBillModel" "from" "I", Cond.fieldLink RX5 17 "TermBillModel" "to" "I", Cond.fieldLink RX5 7 "TermBillModel" "rates" "[I", Cond.fieldLink RX5 26 "TermBillModel" "levels" "[I", Cond.fieldLink RX5 29 "TermBillModel" "areResident" "[Z", Cond.methodLink RX5 99 yX5_rateOf, Cond.static yX5_rateOf, Cond.code yX5_rateOf cX5_rateOf 2 (some .int)]
def wsX5_charge : List Cond := .code yX5_charge cX5_charge 4 (some .int) :: ((wsX5_charge_r1 ++ wsX5_charge_r2) ++ wsX50)
def wsX5_award : List Cond := .code yX5_award cX5_award 5 (some .int) :: ([.constant RX5 103 (1000000), .fieldLink RX5 60 "TermBillModel" "awards" "[I", .fieldLink RX5 63 "TermBillModel" "ranks" "[I", .fieldLink RX5 66 "TermBillModel" "amounts" "[I", .methodLink RX5 90 yX5_in, .static yX5_in, .initialized RX5, .code yX5_in cX5_in 3 (some .boolean), .methodLink RX5 107 yX5_isStudent, .static yX5_isStudent, .code yX5_isStudent cX5_isStudent 1 (some .boolean), .methodLink RX5 95 yX5_holds, .instanceMethod yX5_holds, .selects RX5 yX5_holds yX5_holds, .code yX5_holds cX5_holds 2 (some .boolean), .fieldLink RX5 87 "TermBillModel" "thrown" "I"] ++ wsX50)
def wsX5_pay_r1 : List Cond := [Cond.constant RX5 103 (1000000), Cond.fieldLink RX5 69 "TermBillModel" "paid" "[I", Cond.fieldLink RX5 84 "TermBillModel" "since" "[I", Cond.methodLink RX5 107 yX5_isStudent, Cond.static yX5_isStudent, Cond.initialized RX5, Cond.code yX5_isStudent cX5_isStudent 1 (some .boolean), Cond.methodLink RX5 90 yX5_in, Cond.static yX5_in, Cond.code yX5_in cX5_in 3 (some .boolean), Cond.methodLink RX5 95 yX5_holds, Cond.instanceMethod yX5_holds, Cond.selects RX5 yX5_holds yX5_holds, Cond.code yX5_holds cX5_holds 2 (some .boolean), Cond.fieldLink RX5 87 "TermBillModel" "thrown" "I", Cond.methodLink RX5 141 yX5_owedOf, Cond.instanceMethod yX5_owedOf, Cond.selects RX5 yX5_owedOf yX5_owedOf, Cond.code yX5_owedOf cX5_owedOf 2 (some .int), Cond.methodLink RX5 124 yX5_all, Cond.instanceMethod yX5_all, Cond.selects RX5 yX5_all yX5_all, Cond.code yX5_all cX5_all 2 (some .int), Cond.methodLink RX5 118 yX5_chargedOf]
def wsX5_pay_r2 : List Cond := [Cond.instanceMethod yX5_chargedOf, Cond.selects RX5 yX5_chargedOf yX5_chargedOf, Cond.code yX5_chargedOf cX5_chargedOf 3 (some .int), Cond.fieldLink RX5 51 "TermBillModel" "kept" "[I", Cond.fieldLink RX5 54 "TermBillModel" "fees" "[I", Cond.fieldLink RX5 57 "TermBillModel" "housing" "[I", Cond.methodLink RX5 110 yX5_creditsOf, Cond.instanceMethod yX5_creditsOf, Cond.selects RX5 yX5_creditsOf yX5_creditsOf, Cond.code yX5_creditsOf cX5_creditsOf 4 (some .int), Cond.fieldLink RX5 42 "TermBillModel" "courses" "[I", Cond.fieldLink RX5 48 "TermBillModel" "areDropped" "[Z", Cond.fieldLink RX5 45 "TermBillModel" "credits" "[I", Cond.methodLink RX5 114 yX5_price, Cond.instanceMethod yX5_price, Cond.selects RX5 yX5_price yX5_price, Cond.code yX5_price cX5_price 4 (some .int), Cond.fieldLink RX5 13 "TermBillModel" "from" "I", Cond.fieldLink RX5 17 "TermBillModel" "to" "I", Cond.fieldLink RX5 7 "TermBillModel" "rates" "[I", Cond.fieldLink RX5 26 "TermBillModel" "levels" "[I", Cond.fieldLink RX5 29 "TermBillModel" "areResident" "[Z", Cond.methodLink RX5 99 yX5_rateOf, Cond.static yX5_rateOf]
def wsX5_pay_r3 : List Cond := [Cond.code yX5_rateOf cX5_rateOf 2 (some .int), Cond.methodLink RX5 127 yX5_sponsoredOf, Cond.instanceMethod yX5_sponsoredOf, Cond.selects RX5 yX5_sponsoredOf yX5_sponsoredOf, Cond.code yX5_sponsoredOf cX5_sponsoredOf 4 (some .int), Cond.fieldLink RX5 36 "TermBillModel" "sponsorKinds" "[I", Cond.fieldLink RX5 39 "TermBillModel" "sponsorLimits" "[I", Cond.methodLink RX5 121 yX5_least, Cond.static yX5_least, Cond.code yX5_least cX5_least 2 (some .int), Cond.methodLink RX5 130 yX5_usedOf, Cond.instanceMethod yX5_usedOf, Cond.selects RX5 yX5_usedOf yX5_usedOf, Cond.code yX5_usedOf cX5_usedOf 11 (some .int), Cond.fieldLink RX5 33 "TermBillModel" "needs" "[I", Cond.fieldLink RX5 60 "TermBillModel" "awards" "[I", Cond.fieldLink RX5 63 "TermBillModel" "ranks" "[I", Cond.fieldLink RX5 66 "TermBillModel" "amounts" "[I"]
def wsX5_pay : List Cond := .code yX5_pay cX5_pay 3 (some .int) :: ((wsX5_pay_r1 ++ (wsX5_pay_r2 ++ wsX5_pay_r3)) ++ wsX50)
def wsX5_plan_r1 : List Cond := [Cond.fieldLink RX5 72 "TermBillModel" "planned" "[I", Cond.fieldLink RX5 75 "TermBillModel" "parts" "[I", Cond.fieldLink RX5 78 "TermBillModel" "rests" "[I", Cond.fieldLink RX5 81 "TermBillModel" "madeAt" "[I", Cond.fieldLink RX5 144 "TermBillModel" "term" "I", Cond.fieldLink RX5 133 "TermBillModel" "week" "I", Cond.fieldLink RX5 84 "TermBillModel" "since" "[I", Cond.methodLink RX5 107 yX5_isStudent, Cond.static yX5_isStudent, Cond.initialized RX5, Cond.code yX5_isStudent cX5_isStudent 1 (some .boolean), Cond.methodLink RX5 90 yX5_in, Cond.static yX5_in, Cond.code yX5_in cX5_in 3 (some .boolean), Cond.methodLink RX5 141 yX5_owedOf, Cond.instanceMethod yX5_owedOf, Cond.selects RX5 yX5_owedOf yX5_owedOf, Cond.code yX5_owedOf cX5_owedOf 2 (some .int), Cond.fieldLink RX5 69 "TermBillModel" "paid" "[I", Cond.methodLink RX5 124 yX5_all, Cond.instanceMethod yX5_all, Cond.selects RX5 yX5_all yX5_all, Cond.code yX5_all cX5_all 2 (some .int), Cond.methodLink RX5 118 yX5_chargedOf]
def wsX5_plan_r2 : List Cond := [Cond.instanceMethod yX5_chargedOf, Cond.selects RX5 yX5_chargedOf yX5_chargedOf, Cond.code yX5_chargedOf cX5_chargedOf 3 (some .int), Cond.fieldLink RX5 51 "TermBillModel" "kept" "[I", Cond.fieldLink RX5 54 "TermBillModel" "fees" "[I", Cond.fieldLink RX5 57 "TermBillModel" "housing" "[I", Cond.methodLink RX5 110 yX5_creditsOf, Cond.instanceMethod yX5_creditsOf, Cond.selects RX5 yX5_creditsOf yX5_creditsOf, Cond.code yX5_creditsOf cX5_creditsOf 4 (some .int), Cond.fieldLink RX5 42 "TermBillModel" "courses" "[I", Cond.fieldLink RX5 48 "TermBillModel" "areDropped" "[Z", Cond.fieldLink RX5 45 "TermBillModel" "credits" "[I", Cond.methodLink RX5 114 yX5_price, Cond.instanceMethod yX5_price, Cond.selects RX5 yX5_price yX5_price, Cond.code yX5_price cX5_price 4 (some .int), Cond.fieldLink RX5 13 "TermBillModel" "from" "I", Cond.fieldLink RX5 17 "TermBillModel" "to" "I", Cond.fieldLink RX5 7 "TermBillModel" "rates" "[I", Cond.fieldLink RX5 26 "TermBillModel" "levels" "[I", Cond.fieldLink RX5 29 "TermBillModel" "areResident" "[Z", Cond.methodLink RX5 99 yX5_rateOf, Cond.static yX5_rateOf]
def wsX5_plan_r3 : List Cond := [Cond.code yX5_rateOf cX5_rateOf 2 (some .int), Cond.methodLink RX5 127 yX5_sponsoredOf, Cond.instanceMethod yX5_sponsoredOf, Cond.selects RX5 yX5_sponsoredOf yX5_sponsoredOf, Cond.code yX5_sponsoredOf cX5_sponsoredOf 4 (some .int), Cond.fieldLink RX5 36 "TermBillModel" "sponsorKinds" "[I", Cond.fieldLink RX5 39 "TermBillModel" "sponsorLimits" "[I", Cond.methodLink RX5 121 yX5_least, Cond.static yX5_least, Cond.code yX5_least cX5_least 2 (some .int), Cond.methodLink RX5 130 yX5_usedOf, Cond.instanceMethod yX5_usedOf, Cond.selects RX5 yX5_usedOf yX5_usedOf, Cond.code yX5_usedOf cX5_usedOf 11 (some .int), Cond.fieldLink RX5 33 "TermBillModel" "needs" "[I", Cond.fieldLink RX5 60 "TermBillModel" "awards" "[I", Cond.fieldLink RX5 63 "TermBillModel" "ranks" "[I", Cond.fieldLink RX5 66 "TermBillModel" "amounts" "[I", Cond.methodLink RX5 95 yX5_holds, Cond.instanceMethod yX5_holds, Cond.selects RX5 yX5_holds yX5_holds, Cond.code yX5_holds cX5_holds 2 (some .boolean), Cond.fieldLink RX5 87 "TermBillModel" "thrown" "I"]
def wsX5_plan : List Cond := .code yX5_plan cX5_plan 4 (some .int) :: ((wsX5_plan_r1 ++ (wsX5_plan_r2 ++ wsX5_plan_r3)) ++ wsX50)
def wsX5_leave_r1 : List Cond := [Cond.fieldLink RX5 42 "TermBillModel" "courses" "[I", Cond.fieldLink RX5 48 "TermBillModel" "areDropped" "[Z", Cond.fieldLink RX5 60 "TermBillModel" "awards" "[I", Cond.fieldLink RX5 66 "TermBillModel" "amounts" "[I", Cond.fieldLink RX5 133 "TermBillModel" "week" "I", Cond.fieldLink RX5 63 "TermBillModel" "ranks" "[I", Cond.methodLink RX5 107 yX5_isStudent, Cond.static yX5_isStudent, Cond.initialized RX5, Cond.code yX5_isStudent cX5_isStudent 1 (some .boolean), Cond.methodLink RX5 90 yX5_in, Cond.static yX5_in, Cond.code yX5_in cX5_in 3 (some .boolean), Cond.methodLink RX5 95 yX5_holds, Cond.instanceMethod yX5_holds, Cond.selects RX5 yX5_holds yX5_holds, Cond.code yX5_holds cX5_holds 2 (some .boolean), Cond.fieldLink RX5 87 "TermBillModel" "thrown" "I", Cond.methodLink RX5 138 yX5_drops, Cond.instanceMethod yX5_drops, Cond.selects RX5 yX5_drops yX5_drops, Cond.code yX5_drops cX5_drops 5 (some .int), Cond.fieldLink RX5 20 "TermBillModel" "table" "[I", Cond.constantLong RX5 136 (100)]
def wsX5_leave_r2 : List Cond := [Cond.fieldLink RX5 51 "TermBillModel" "kept" "[I", Cond.methodLink RX5 110 yX5_creditsOf, Cond.instanceMethod yX5_creditsOf, Cond.selects RX5 yX5_creditsOf yX5_creditsOf, Cond.code yX5_creditsOf cX5_creditsOf 4 (some .int), Cond.fieldLink RX5 45 "TermBillModel" "credits" "[I", Cond.methodLink RX5 114 yX5_price, Cond.instanceMethod yX5_price, Cond.selects RX5 yX5_price yX5_price, Cond.code yX5_price cX5_price 4 (some .int), Cond.fieldLink RX5 13 "TermBillModel" "from" "I", Cond.fieldLink RX5 17 "TermBillModel" "to" "I", Cond.fieldLink RX5 7 "TermBillModel" "rates" "[I", Cond.fieldLink RX5 26 "TermBillModel" "levels" "[I", Cond.fieldLink RX5 29 "TermBillModel" "areResident" "[Z", Cond.methodLink RX5 99 yX5_rateOf, Cond.static yX5_rateOf, Cond.code yX5_rateOf cX5_rateOf 2 (some .int), Cond.methodLink RX5 121 yX5_least, Cond.static yX5_least, Cond.code yX5_least cX5_least 2 (some .int)]
def wsX5_leave : List Cond := .code yX5_leave cX5_leave 9 (some .int) :: ((wsX5_leave_r1 ++ wsX5_leave_r2) ++ wsX50)
def wsX5_carries_r1 : List Cond := [Cond.fieldLink RX5 69 "TermBillModel" "paid" "[I", Cond.methodLink RX5 141 yX5_owedOf, Cond.instanceMethod yX5_owedOf, Cond.selects RX5 yX5_owedOf yX5_owedOf, Cond.initialized RX5, Cond.code yX5_owedOf cX5_owedOf 2 (some .int), Cond.methodLink RX5 124 yX5_all, Cond.instanceMethod yX5_all, Cond.selects RX5 yX5_all yX5_all, Cond.code yX5_all cX5_all 2 (some .int), Cond.methodLink RX5 118 yX5_chargedOf, Cond.instanceMethod yX5_chargedOf, Cond.selects RX5 yX5_chargedOf yX5_chargedOf, Cond.code yX5_chargedOf cX5_chargedOf 3 (some .int), Cond.fieldLink RX5 51 "TermBillModel" "kept" "[I", Cond.fieldLink RX5 54 "TermBillModel" "fees" "[I", Cond.fieldLink RX5 57 "TermBillModel" "housing" "[I", Cond.methodLink RX5 110 yX5_creditsOf, Cond.instanceMethod yX5_creditsOf, Cond.selects RX5 yX5_creditsOf yX5_creditsOf, Cond.code yX5_creditsOf cX5_creditsOf 4 (some .int), Cond.fieldLink RX5 42 "TermBillModel" "courses" "[I", Cond.fieldLink RX5 48 "TermBillModel" "areDropped" "[Z", Cond.fieldLink RX5 45 "TermBillModel" "credits" "[I"]
def wsX5_carries_r2 : List Cond := [Cond.methodLink RX5 114 yX5_price, Cond.instanceMethod yX5_price, Cond.selects RX5 yX5_price yX5_price, Cond.code yX5_price cX5_price 4 (some .int), Cond.fieldLink RX5 13 "TermBillModel" "from" "I", Cond.fieldLink RX5 17 "TermBillModel" "to" "I", Cond.fieldLink RX5 7 "TermBillModel" "rates" "[I", Cond.fieldLink RX5 26 "TermBillModel" "levels" "[I", Cond.fieldLink RX5 29 "TermBillModel" "areResident" "[Z", Cond.methodLink RX5 99 yX5_rateOf, Cond.static yX5_rateOf, Cond.code yX5_rateOf cX5_rateOf 2 (some .int), Cond.methodLink RX5 127 yX5_sponsoredOf, Cond.instanceMethod yX5_sponsoredOf, Cond.selects RX5 yX5_sponsoredOf yX5_sponsoredOf, Cond.code yX5_sponsoredOf cX5_sponsoredOf 4 (some .int), Cond.fieldLink RX5 36 "TermBillModel" "sponsorKinds" "[I", Cond.fieldLink RX5 39 "TermBillModel" "sponsorLimits" "[I", Cond.methodLink RX5 121 yX5_least, Cond.static yX5_least, Cond.code yX5_least cX5_least 2 (some .int), Cond.methodLink RX5 130 yX5_usedOf, Cond.instanceMethod yX5_usedOf, Cond.selects RX5 yX5_usedOf yX5_usedOf]
def wsX5_carries_r3 : List Cond := [Cond.code yX5_usedOf cX5_usedOf 11 (some .int), Cond.fieldLink RX5 33 "TermBillModel" "needs" "[I", Cond.fieldLink RX5 60 "TermBillModel" "awards" "[I", Cond.fieldLink RX5 63 "TermBillModel" "ranks" "[I", Cond.fieldLink RX5 66 "TermBillModel" "amounts" "[I"]
def wsX5_carries : List Cond := .code yX5_carries cX5_carries 6 none :: ((wsX5_carries_r1 ++ (wsX5_carries_r2 ++ wsX5_carries_r3)) ++ wsX50)
def wsX5_endsTerm_r1 : List Cond := [Cond.fieldLink RX5 42 "TermBillModel" "courses" "[I", Cond.fieldLink RX5 60 "TermBillModel" "awards" "[I", Cond.fieldLink RX5 36 "TermBillModel" "sponsorKinds" "[I", Cond.fieldLink RX5 39 "TermBillModel" "sponsorLimits" "[I", Cond.fieldLink RX5 51 "TermBillModel" "kept" "[I", Cond.fieldLink RX5 57 "TermBillModel" "housing" "[I", Cond.fieldLink RX5 54 "TermBillModel" "fees" "[I", Cond.fieldLink RX5 69 "TermBillModel" "paid" "[I", Cond.fieldLink RX5 133 "TermBillModel" "week" "I", Cond.fieldLink RX5 144 "TermBillModel" "term" "I", Cond.methodLink RX5 147 yX5_carries, Cond.instanceMethod yX5_carries, Cond.selects RX5 yX5_carries yX5_carries, Cond.initialized RX5, Cond.code yX5_carries cX5_carries 6 none, Cond.methodLink RX5 141 yX5_owedOf, Cond.instanceMethod yX5_owedOf, Cond.selects RX5 yX5_owedOf yX5_owedOf, Cond.code yX5_owedOf cX5_owedOf 2 (some .int), Cond.methodLink RX5 124 yX5_all, Cond.instanceMethod yX5_all, Cond.selects RX5 yX5_all yX5_all, Cond.code yX5_all cX5_all 2 (some .int), Cond.methodLink RX5 118 yX5_chargedOf]
def wsX5_endsTerm_r2 : List Cond := [Cond.instanceMethod yX5_chargedOf, Cond.selects RX5 yX5_chargedOf yX5_chargedOf, Cond.code yX5_chargedOf cX5_chargedOf 3 (some .int), Cond.methodLink RX5 110 yX5_creditsOf, Cond.instanceMethod yX5_creditsOf, Cond.selects RX5 yX5_creditsOf yX5_creditsOf, Cond.code yX5_creditsOf cX5_creditsOf 4 (some .int), Cond.fieldLink RX5 48 "TermBillModel" "areDropped" "[Z", Cond.fieldLink RX5 45 "TermBillModel" "credits" "[I", Cond.methodLink RX5 114 yX5_price, Cond.instanceMethod yX5_price, Cond.selects RX5 yX5_price yX5_price, Cond.code yX5_price cX5_price 4 (some .int), Cond.fieldLink RX5 13 "TermBillModel" "from" "I", Cond.fieldLink RX5 17 "TermBillModel" "to" "I", Cond.fieldLink RX5 7 "TermBillModel" "rates" "[I", Cond.fieldLink RX5 26 "TermBillModel" "levels" "[I", Cond.fieldLink RX5 29 "TermBillModel" "areResident" "[Z", Cond.methodLink RX5 99 yX5_rateOf, Cond.static yX5_rateOf, Cond.code yX5_rateOf cX5_rateOf 2 (some .int), Cond.methodLink RX5 127 yX5_sponsoredOf, Cond.instanceMethod yX5_sponsoredOf, Cond.selects RX5 yX5_sponsoredOf yX5_sponsoredOf]
def wsX5_endsTerm_r3 : List Cond := [Cond.code yX5_sponsoredOf cX5_sponsoredOf 4 (some .int), Cond.methodLink RX5 121 yX5_least, Cond.static yX5_least, Cond.code yX5_least cX5_least 2 (some .int), Cond.methodLink RX5 130 yX5_usedOf, Cond.instanceMethod yX5_usedOf, Cond.selects RX5 yX5_usedOf yX5_usedOf, Cond.code yX5_usedOf cX5_usedOf 11 (some .int), Cond.fieldLink RX5 33 "TermBillModel" "needs" "[I", Cond.fieldLink RX5 63 "TermBillModel" "ranks" "[I", Cond.fieldLink RX5 66 "TermBillModel" "amounts" "[I"]
def wsX5_endsTerm : List Cond := .code yX5_endsTerm cX5_endsTerm 3 none :: ((wsX5_endsTerm_r1 ++ (wsX5_endsTerm_r2 ++ wsX5_endsTerm_r3)) ++ wsX50)
def wsX5_falls : List Cond := .code yX5_falls cX5_falls 4 none :: ([.fieldLink RX5 144 "TermBillModel" "term" "I", .fieldLink RX5 133 "TermBillModel" "week" "I", .fieldLink RX5 81 "TermBillModel" "madeAt" "[I", .fieldLink RX5 72 "TermBillModel" "planned" "[I", .fieldLink RX5 84 "TermBillModel" "since" "[I", .fieldLink RX5 75 "TermBillModel" "parts" "[I", .fieldLink RX5 78 "TermBillModel" "rests" "[I", .fieldLink RX5 54 "TermBillModel" "fees" "[I", .fieldLink RX5 23 "TermBillModel" "lateFee" "I", .methodLink RX5 90 yX5_in, .static yX5_in, .initialized RX5, .code yX5_in cX5_in 3 (some .boolean)] ++ wsX50)
def wsX5_closeWeek_r1 : List Cond := [Cond.fieldLink RX5 133 "TermBillModel" "week" "I", Cond.fieldLink RX5 144 "TermBillModel" "term" "I", Cond.methodLink RX5 95 yX5_holds, Cond.instanceMethod yX5_holds, Cond.selects RX5 yX5_holds yX5_holds, Cond.initialized RX5, Cond.code yX5_holds cX5_holds 2 (some .boolean), Cond.fieldLink RX5 87 "TermBillModel" "thrown" "I", Cond.methodLink RX5 151 yX5_endsTerm, Cond.instanceMethod yX5_endsTerm, Cond.selects RX5 yX5_endsTerm yX5_endsTerm, Cond.code yX5_endsTerm cX5_endsTerm 3 none, Cond.fieldLink RX5 42 "TermBillModel" "courses" "[I", Cond.fieldLink RX5 60 "TermBillModel" "awards" "[I", Cond.fieldLink RX5 36 "TermBillModel" "sponsorKinds" "[I", Cond.fieldLink RX5 39 "TermBillModel" "sponsorLimits" "[I", Cond.fieldLink RX5 51 "TermBillModel" "kept" "[I", Cond.fieldLink RX5 57 "TermBillModel" "housing" "[I", Cond.fieldLink RX5 54 "TermBillModel" "fees" "[I", Cond.fieldLink RX5 69 "TermBillModel" "paid" "[I", Cond.methodLink RX5 147 yX5_carries, Cond.instanceMethod yX5_carries, Cond.selects RX5 yX5_carries yX5_carries, Cond.code yX5_carries cX5_carries 6 none]
def wsX5_closeWeek_r2 : List Cond := [Cond.methodLink RX5 141 yX5_owedOf, Cond.instanceMethod yX5_owedOf, Cond.selects RX5 yX5_owedOf yX5_owedOf, Cond.code yX5_owedOf cX5_owedOf 2 (some .int), Cond.methodLink RX5 124 yX5_all, Cond.instanceMethod yX5_all, Cond.selects RX5 yX5_all yX5_all, Cond.code yX5_all cX5_all 2 (some .int), Cond.methodLink RX5 118 yX5_chargedOf, Cond.instanceMethod yX5_chargedOf, Cond.selects RX5 yX5_chargedOf yX5_chargedOf, Cond.code yX5_chargedOf cX5_chargedOf 3 (some .int), Cond.methodLink RX5 110 yX5_creditsOf, Cond.instanceMethod yX5_creditsOf, Cond.selects RX5 yX5_creditsOf yX5_creditsOf, Cond.code yX5_creditsOf cX5_creditsOf 4 (some .int), Cond.fieldLink RX5 48 "TermBillModel" "areDropped" "[Z", Cond.fieldLink RX5 45 "TermBillModel" "credits" "[I", Cond.methodLink RX5 114 yX5_price, Cond.instanceMethod yX5_price, Cond.selects RX5 yX5_price yX5_price, Cond.code yX5_price cX5_price 4 (some .int), Cond.fieldLink RX5 13 "TermBillModel" "from" "I", Cond.fieldLink RX5 17 "TermBillModel" "to" "I"]
def wsX5_closeWeek_r3 : List Cond := [Cond.fieldLink RX5 7 "TermBillModel" "rates" "[I", Cond.fieldLink RX5 26 "TermBillModel" "levels" "[I", Cond.fieldLink RX5 29 "TermBillModel" "areResident" "[Z", Cond.methodLink RX5 99 yX5_rateOf, Cond.static yX5_rateOf, Cond.code yX5_rateOf cX5_rateOf 2 (some .int), Cond.methodLink RX5 127 yX5_sponsoredOf, Cond.instanceMethod yX5_sponsoredOf, Cond.selects RX5 yX5_sponsoredOf yX5_sponsoredOf, Cond.code yX5_sponsoredOf cX5_sponsoredOf 4 (some .int), Cond.methodLink RX5 121 yX5_least, Cond.static yX5_least, Cond.code yX5_least cX5_least 2 (some .int), Cond.methodLink RX5 130 yX5_usedOf, Cond.instanceMethod yX5_usedOf, Cond.selects RX5 yX5_usedOf yX5_usedOf, Cond.code yX5_usedOf cX5_usedOf 11 (some .int), Cond.fieldLink RX5 33 "TermBillModel" "needs" "[I", Cond.fieldLink RX5 63 "TermBillModel" "ranks" "[I", Cond.fieldLink RX5 66 "TermBillModel" "amounts" "[I", Cond.methodLink RX5 154 yX5_falls, Cond.instanceMethod yX5_falls, Cond.selects RX5 yX5_falls yX5_falls, Cond.code yX5_falls cX5_falls 4 none]
def wsX5_closeWeek_r4 : List Cond := [Cond.fieldLink RX5 81 "TermBillModel" "madeAt" "[I", Cond.fieldLink RX5 72 "TermBillModel" "planned" "[I", Cond.fieldLink RX5 84 "TermBillModel" "since" "[I", Cond.fieldLink RX5 75 "TermBillModel" "parts" "[I", Cond.fieldLink RX5 78 "TermBillModel" "rests" "[I", Cond.fieldLink RX5 23 "TermBillModel" "lateFee" "I", Cond.methodLink RX5 90 yX5_in, Cond.static yX5_in, Cond.code yX5_in cX5_in 3 (some .boolean)]
def wsX5_closeWeek : List Cond := .code yX5_closeWeek cX5_closeWeek 2 (some .int) :: ((wsX5_closeWeek_r1 ++ (wsX5_closeWeek_r2 ++ (wsX5_closeWeek_r3 ++ wsX5_closeWeek_r4))) ++ wsX50)
def wsX5_week : List Cond := .code yX5_week cX5_week 1 (some .int) :: ([.fieldLink RX5 87 "TermBillModel" "thrown" "I", .fieldLink RX5 133 "TermBillModel" "week" "I"] ++ wsX50)
def wsX5_term : List Cond := .code yX5_term cX5_term 1 (some .int) :: ([.fieldLink RX5 87 "TermBillModel" "thrown" "I", .fieldLink RX5 144 "TermBillModel" "term" "I"] ++ wsX50)
def wsX5_credits : List Cond := .code yX5_credits cX5_credits 2 (some .int) :: ([.methodLink RX5 107 yX5_isStudent, .static yX5_isStudent, .initialized RX5, .code yX5_isStudent cX5_isStudent 1 (some .boolean), .methodLink RX5 90 yX5_in, .static yX5_in, .code yX5_in cX5_in 3 (some .boolean), .methodLink RX5 95 yX5_holds, .instanceMethod yX5_holds, .selects RX5 yX5_holds yX5_holds, .code yX5_holds cX5_holds 2 (some .boolean), .fieldLink RX5 87 "TermBillModel" "thrown" "I", .methodLink RX5 110 yX5_creditsOf, .instanceMethod yX5_creditsOf, .selects RX5 yX5_creditsOf yX5_creditsOf, .code yX5_creditsOf cX5_creditsOf 4 (some .int), .fieldLink RX5 42 "TermBillModel" "courses" "[I", .fieldLink RX5 48 "TermBillModel" "areDropped" "[Z", .fieldLink RX5 45 "TermBillModel" "credits" "[I"] ++ wsX50)
def wsX5_charged_r1 : List Cond := [Cond.methodLink RX5 107 yX5_isStudent, Cond.static yX5_isStudent, Cond.initialized RX5, Cond.code yX5_isStudent cX5_isStudent 1 (some .boolean), Cond.methodLink RX5 90 yX5_in, Cond.static yX5_in, Cond.code yX5_in cX5_in 3 (some .boolean), Cond.methodLink RX5 95 yX5_holds, Cond.instanceMethod yX5_holds, Cond.selects RX5 yX5_holds yX5_holds, Cond.code yX5_holds cX5_holds 2 (some .boolean), Cond.fieldLink RX5 87 "TermBillModel" "thrown" "I", Cond.methodLink RX5 118 yX5_chargedOf, Cond.instanceMethod yX5_chargedOf, Cond.selects RX5 yX5_chargedOf yX5_chargedOf, Cond.code yX5_chargedOf cX5_chargedOf 3 (some .int), Cond.fieldLink RX5 51 "TermBillModel" "kept" "[I", Cond.fieldLink RX5 54 "TermBillModel" "fees" "[I", Cond.fieldLink RX5 57 "TermBillModel" "housing" "[I", Cond.methodLink RX5 110 yX5_creditsOf, Cond.instanceMethod yX5_creditsOf, Cond.selects RX5 yX5_creditsOf yX5_creditsOf, Cond.code yX5_creditsOf cX5_creditsOf 4 (some .int), Cond.fieldLink RX5 42 "TermBillModel" "courses" "[I"]
def wsX5_charged_r2 : List Cond := [Cond.fieldLink RX5 48 "TermBillModel" "areDropped" "[Z", Cond.fieldLink RX5 45 "TermBillModel" "credits" "[I", Cond.methodLink RX5 114 yX5_price, Cond.instanceMethod yX5_price, Cond.selects RX5 yX5_price yX5_price, Cond.code yX5_price cX5_price 4 (some .int), Cond.fieldLink RX5 13 "TermBillModel" "from" "I", Cond.fieldLink RX5 17 "TermBillModel" "to" "I", Cond.fieldLink RX5 7 "TermBillModel" "rates" "[I", Cond.fieldLink RX5 26 "TermBillModel" "levels" "[I", Cond.fieldLink RX5 29 "TermBillModel" "areResident" "[Z", Cond.methodLink RX5 99 yX5_rateOf, Cond.static yX5_rateOf, Cond.code yX5_rateOf cX5_rateOf 2 (some .int)]
def wsX5_charged : List Cond := .code yX5_charged cX5_charged 3 (some .int) :: ((wsX5_charged_r1 ++ wsX5_charged_r2) ++ wsX50)
def wsX5_sponsored_r1 : List Cond := [Cond.methodLink RX5 107 yX5_isStudent, Cond.static yX5_isStudent, Cond.initialized RX5, Cond.code yX5_isStudent cX5_isStudent 1 (some .boolean), Cond.methodLink RX5 90 yX5_in, Cond.static yX5_in, Cond.code yX5_in cX5_in 3 (some .boolean), Cond.methodLink RX5 95 yX5_holds, Cond.instanceMethod yX5_holds, Cond.selects RX5 yX5_holds yX5_holds, Cond.code yX5_holds cX5_holds 2 (some .boolean), Cond.fieldLink RX5 87 "TermBillModel" "thrown" "I", Cond.methodLink RX5 127 yX5_sponsoredOf, Cond.instanceMethod yX5_sponsoredOf, Cond.selects RX5 yX5_sponsoredOf yX5_sponsoredOf, Cond.code yX5_sponsoredOf cX5_sponsoredOf 4 (some .int), Cond.fieldLink RX5 36 "TermBillModel" "sponsorKinds" "[I", Cond.fieldLink RX5 39 "TermBillModel" "sponsorLimits" "[I", Cond.methodLink RX5 118 yX5_chargedOf, Cond.instanceMethod yX5_chargedOf, Cond.selects RX5 yX5_chargedOf yX5_chargedOf, Cond.code yX5_chargedOf cX5_chargedOf 3 (some .int), Cond.fieldLink RX5 51 "TermBillModel" "kept" "[I", Cond.fieldLink RX5 54 "TermBillModel" "fees" "[I"]
def wsX5_sponsored_r2 : List Cond := [Cond.fieldLink RX5 57 "TermBillModel" "housing" "[I", Cond.methodLink RX5 110 yX5_creditsOf, Cond.instanceMethod yX5_creditsOf, Cond.selects RX5 yX5_creditsOf yX5_creditsOf, Cond.code yX5_creditsOf cX5_creditsOf 4 (some .int), Cond.fieldLink RX5 42 "TermBillModel" "courses" "[I", Cond.fieldLink RX5 48 "TermBillModel" "areDropped" "[Z", Cond.fieldLink RX5 45 "TermBillModel" "credits" "[I", Cond.methodLink RX5 114 yX5_price, Cond.instanceMethod yX5_price, Cond.selects RX5 yX5_price yX5_price, Cond.code yX5_price cX5_price 4 (some .int), Cond.fieldLink RX5 13 "TermBillModel" "from" "I", Cond.fieldLink RX5 17 "TermBillModel" "to" "I", Cond.fieldLink RX5 7 "TermBillModel" "rates" "[I", Cond.fieldLink RX5 26 "TermBillModel" "levels" "[I", Cond.fieldLink RX5 29 "TermBillModel" "areResident" "[Z", Cond.methodLink RX5 99 yX5_rateOf, Cond.static yX5_rateOf, Cond.code yX5_rateOf cX5_rateOf 2 (some .int), Cond.methodLink RX5 121 yX5_least, Cond.static yX5_least, Cond.code yX5_least cX5_least 2 (some .int)]
def wsX5_sponsored : List Cond := .code yX5_sponsored cX5_sponsored 2 (some .int) :: ((wsX5_sponsored_r1 ++ wsX5_sponsored_r2) ++ wsX50)
def wsX5_isAward : List Cond := .code yX5_isAward cX5_isAward 3 (some .boolean) :: ([.fieldLink RX5 60 "TermBillModel" "awards" "[I", .methodLink RX5 107 yX5_isStudent, .static yX5_isStudent, .initialized RX5, .code yX5_isStudent cX5_isStudent 1 (some .boolean), .methodLink RX5 90 yX5_in, .static yX5_in, .code yX5_in cX5_in 3 (some .boolean), .methodLink RX5 95 yX5_holds, .instanceMethod yX5_holds, .selects RX5 yX5_holds yX5_holds, .code yX5_holds cX5_holds 2 (some .boolean), .fieldLink RX5 87 "TermBillModel" "thrown" "I"] ++ wsX50)
def wsX5_used_r1 : List Cond := [Cond.methodLink RX5 158 yX5_isAward, Cond.instanceMethod yX5_isAward, Cond.selects RX5 yX5_isAward yX5_isAward, Cond.initialized RX5, Cond.code yX5_isAward cX5_isAward 3 (some .boolean), Cond.fieldLink RX5 60 "TermBillModel" "awards" "[I", Cond.methodLink RX5 107 yX5_isStudent, Cond.static yX5_isStudent, Cond.code yX5_isStudent cX5_isStudent 1 (some .boolean), Cond.methodLink RX5 90 yX5_in, Cond.static yX5_in, Cond.code yX5_in cX5_in 3 (some .boolean), Cond.methodLink RX5 95 yX5_holds, Cond.instanceMethod yX5_holds, Cond.selects RX5 yX5_holds yX5_holds, Cond.code yX5_holds cX5_holds 2 (some .boolean), Cond.fieldLink RX5 87 "TermBillModel" "thrown" "I", Cond.methodLink RX5 130 yX5_usedOf, Cond.instanceMethod yX5_usedOf, Cond.selects RX5 yX5_usedOf yX5_usedOf, Cond.code yX5_usedOf cX5_usedOf 11 (some .int), Cond.fieldLink RX5 33 "TermBillModel" "needs" "[I", Cond.fieldLink RX5 63 "TermBillModel" "ranks" "[I", Cond.fieldLink RX5 66 "TermBillModel" "amounts" "[I"]
def wsX5_used_r2 : List Cond := [Cond.methodLink RX5 124 yX5_all, Cond.instanceMethod yX5_all, Cond.selects RX5 yX5_all yX5_all, Cond.code yX5_all cX5_all 2 (some .int), Cond.methodLink RX5 118 yX5_chargedOf, Cond.instanceMethod yX5_chargedOf, Cond.selects RX5 yX5_chargedOf yX5_chargedOf, Cond.code yX5_chargedOf cX5_chargedOf 3 (some .int), Cond.fieldLink RX5 51 "TermBillModel" "kept" "[I", Cond.fieldLink RX5 54 "TermBillModel" "fees" "[I", Cond.fieldLink RX5 57 "TermBillModel" "housing" "[I", Cond.methodLink RX5 110 yX5_creditsOf, Cond.instanceMethod yX5_creditsOf, Cond.selects RX5 yX5_creditsOf yX5_creditsOf, Cond.code yX5_creditsOf cX5_creditsOf 4 (some .int), Cond.fieldLink RX5 42 "TermBillModel" "courses" "[I", Cond.fieldLink RX5 48 "TermBillModel" "areDropped" "[Z", Cond.fieldLink RX5 45 "TermBillModel" "credits" "[I", Cond.methodLink RX5 114 yX5_price, Cond.instanceMethod yX5_price, Cond.selects RX5 yX5_price yX5_price, Cond.code yX5_price cX5_price 4 (some .int), Cond.fieldLink RX5 13 "TermBillModel" "from" "I", Cond.fieldLink RX5 17 "TermBillModel" "to" "I"]
def wsX5_used_r3 : List Cond := [Cond.fieldLink RX5 7 "TermBillModel" "rates" "[I", Cond.fieldLink RX5 26 "TermBillModel" "levels" "[I", Cond.fieldLink RX5 29 "TermBillModel" "areResident" "[Z", Cond.methodLink RX5 99 yX5_rateOf, Cond.static yX5_rateOf, Cond.code yX5_rateOf cX5_rateOf 2 (some .int), Cond.methodLink RX5 127 yX5_sponsoredOf, Cond.instanceMethod yX5_sponsoredOf, Cond.selects RX5 yX5_sponsoredOf yX5_sponsoredOf, Cond.code yX5_sponsoredOf cX5_sponsoredOf 4 (some .int), Cond.fieldLink RX5 36 "TermBillModel" "sponsorKinds" "[I", Cond.fieldLink RX5 39 "TermBillModel" "sponsorLimits" "[I", Cond.methodLink RX5 121 yX5_least, Cond.static yX5_least, Cond.code yX5_least cX5_least 2 (some .int)]
def wsX5_used : List Cond := .code yX5_used cX5_used 3 (some .int) :: ((wsX5_used_r1 ++ (wsX5_used_r2 ++ wsX5_used_r3)) ++ wsX50)
def wsX5_amountOf : List Cond := .code yX5_amountOf cX5_amountOf 3 (some .int) :: ([.fieldLink RX5 66 "TermBillModel" "amounts" "[I", .methodLink RX5 158 yX5_isAward, .instanceMethod yX5_isAward, .selects RX5 yX5_isAward yX5_isAward, .initialized RX5, .code yX5_isAward cX5_isAward 3 (some .boolean), .fieldLink RX5 60 "TermBillModel" "awards" "[I", .methodLink RX5 107 yX5_isStudent, .static yX5_isStudent, .code yX5_isStudent cX5_isStudent 1 (some .boolean), .methodLink RX5 90 yX5_in, .static yX5_in, .code yX5_in cX5_in 3 (some .boolean), .methodLink RX5 95 yX5_holds, .instanceMethod yX5_holds, .selects RX5 yX5_holds yX5_holds, .code yX5_holds cX5_holds 2 (some .boolean), .fieldLink RX5 87 "TermBillModel" "thrown" "I"] ++ wsX50)
def wsX5_paid : List Cond := .code yX5_paid cX5_paid 2 (some .int) :: ([.fieldLink RX5 69 "TermBillModel" "paid" "[I", .methodLink RX5 107 yX5_isStudent, .static yX5_isStudent, .initialized RX5, .code yX5_isStudent cX5_isStudent 1 (some .boolean), .methodLink RX5 90 yX5_in, .static yX5_in, .code yX5_in cX5_in 3 (some .boolean), .methodLink RX5 95 yX5_holds, .instanceMethod yX5_holds, .selects RX5 yX5_holds yX5_holds, .code yX5_holds cX5_holds 2 (some .boolean), .fieldLink RX5 87 "TermBillModel" "thrown" "I"] ++ wsX50)
def wsX5_owed_r1 : List Cond := [Cond.methodLink RX5 107 yX5_isStudent, Cond.static yX5_isStudent, Cond.initialized RX5, Cond.code yX5_isStudent cX5_isStudent 1 (some .boolean), Cond.methodLink RX5 90 yX5_in, Cond.static yX5_in, Cond.code yX5_in cX5_in 3 (some .boolean), Cond.methodLink RX5 95 yX5_holds, Cond.instanceMethod yX5_holds, Cond.selects RX5 yX5_holds yX5_holds, Cond.code yX5_holds cX5_holds 2 (some .boolean), Cond.fieldLink RX5 87 "TermBillModel" "thrown" "I", Cond.methodLink RX5 141 yX5_owedOf, Cond.instanceMethod yX5_owedOf, Cond.selects RX5 yX5_owedOf yX5_owedOf, Cond.code yX5_owedOf cX5_owedOf 2 (some .int), Cond.fieldLink RX5 69 "TermBillModel" "paid" "[I", Cond.methodLink RX5 124 yX5_all, Cond.instanceMethod yX5_all, Cond.selects RX5 yX5_all yX5_all, Cond.code yX5_all cX5_all 2 (some .int), Cond.methodLink RX5 118 yX5_chargedOf, Cond.instanceMethod yX5_chargedOf, Cond.selects RX5 yX5_chargedOf yX5_chargedOf]
def wsX5_owed_r2 : List Cond := [Cond.code yX5_chargedOf cX5_chargedOf 3 (some .int), Cond.fieldLink RX5 51 "TermBillModel" "kept" "[I", Cond.fieldLink RX5 54 "TermBillModel" "fees" "[I", Cond.fieldLink RX5 57 "TermBillModel" "housing" "[I", Cond.methodLink RX5 110 yX5_creditsOf, Cond.instanceMethod yX5_creditsOf, Cond.selects RX5 yX5_creditsOf yX5_creditsOf, Cond.code yX5_creditsOf cX5_creditsOf 4 (some .int), Cond.fieldLink RX5 42 "TermBillModel" "courses" "[I", Cond.fieldLink RX5 48 "TermBillModel" "areDropped" "[Z", Cond.fieldLink RX5 45 "TermBillModel" "credits" "[I", Cond.methodLink RX5 114 yX5_price, Cond.instanceMethod yX5_price, Cond.selects RX5 yX5_price yX5_price, Cond.code yX5_price cX5_price 4 (some .int), Cond.fieldLink RX5 13 "TermBillModel" "from" "I", Cond.fieldLink RX5 17 "TermBillModel" "to" "I", Cond.fieldLink RX5 7 "TermBillModel" "rates" "[I", Cond.fieldLink RX5 26 "TermBillModel" "levels" "[I", Cond.fieldLink RX5 29 "TermBillModel" "areResident" "[Z", Cond.methodLink RX5 99 yX5_rateOf, Cond.static yX5_rateOf, Cond.code yX5_rateOf cX5_rateOf 2 (some .int), Cond.methodLink RX5 127 yX5_sponsoredOf]
def wsX5_owed_r3 : List Cond := [Cond.instanceMethod yX5_sponsoredOf, Cond.selects RX5 yX5_sponsoredOf yX5_sponsoredOf, Cond.code yX5_sponsoredOf cX5_sponsoredOf 4 (some .int), Cond.fieldLink RX5 36 "TermBillModel" "sponsorKinds" "[I", Cond.fieldLink RX5 39 "TermBillModel" "sponsorLimits" "[I", Cond.methodLink RX5 121 yX5_least, Cond.static yX5_least, Cond.code yX5_least cX5_least 2 (some .int), Cond.methodLink RX5 130 yX5_usedOf, Cond.instanceMethod yX5_usedOf, Cond.selects RX5 yX5_usedOf yX5_usedOf, Cond.code yX5_usedOf cX5_usedOf 11 (some .int), Cond.fieldLink RX5 33 "TermBillModel" "needs" "[I", Cond.fieldLink RX5 60 "TermBillModel" "awards" "[I", Cond.fieldLink RX5 63 "TermBillModel" "ranks" "[I", Cond.fieldLink RX5 66 "TermBillModel" "amounts" "[I"]
def wsX5_owed : List Cond := .code yX5_owed cX5_owed 2 (some .int) :: ((wsX5_owed_r1 ++ (wsX5_owed_r2 ++ wsX5_owed_r3)) ++ wsX50)
def wsX5_hasHold_r1 : List Cond := [Cond.fieldLink RX5 104 "TermBillModel" "limit" "I", Cond.methodLink RX5 107 yX5_isStudent, Cond.static yX5_isStudent, Cond.initialized RX5, Cond.code yX5_isStudent cX5_isStudent 1 (some .boolean), Cond.methodLink RX5 90 yX5_in, Cond.static yX5_in, Cond.code yX5_in cX5_in 3 (some .boolean), Cond.methodLink RX5 95 yX5_holds, Cond.instanceMethod yX5_holds, Cond.selects RX5 yX5_holds yX5_holds, Cond.code yX5_holds cX5_holds 2 (some .boolean), Cond.fieldLink RX5 87 "TermBillModel" "thrown" "I", Cond.methodLink RX5 141 yX5_owedOf, Cond.instanceMethod yX5_owedOf, Cond.selects RX5 yX5_owedOf yX5_owedOf, Cond.code yX5_owedOf cX5_owedOf 2 (some .int), Cond.fieldLink RX5 69 "TermBillModel" "paid" "[I", Cond.methodLink RX5 124 yX5_all, Cond.instanceMethod yX5_all, Cond.selects RX5 yX5_all yX5_all, Cond.code yX5_all cX5_all 2 (some .int), Cond.methodLink RX5 118 yX5_chargedOf, Cond.instanceMethod yX5_chargedOf]
def wsX5_hasHold_r2 : List Cond := [Cond.selects RX5 yX5_chargedOf yX5_chargedOf, Cond.code yX5_chargedOf cX5_chargedOf 3 (some .int), Cond.fieldLink RX5 51 "TermBillModel" "kept" "[I", Cond.fieldLink RX5 54 "TermBillModel" "fees" "[I", Cond.fieldLink RX5 57 "TermBillModel" "housing" "[I", Cond.methodLink RX5 110 yX5_creditsOf, Cond.instanceMethod yX5_creditsOf, Cond.selects RX5 yX5_creditsOf yX5_creditsOf, Cond.code yX5_creditsOf cX5_creditsOf 4 (some .int), Cond.fieldLink RX5 42 "TermBillModel" "courses" "[I", Cond.fieldLink RX5 48 "TermBillModel" "areDropped" "[Z", Cond.fieldLink RX5 45 "TermBillModel" "credits" "[I", Cond.methodLink RX5 114 yX5_price, Cond.instanceMethod yX5_price, Cond.selects RX5 yX5_price yX5_price, Cond.code yX5_price cX5_price 4 (some .int), Cond.fieldLink RX5 13 "TermBillModel" "from" "I", Cond.fieldLink RX5 17 "TermBillModel" "to" "I", Cond.fieldLink RX5 7 "TermBillModel" "rates" "[I", Cond.fieldLink RX5 26 "TermBillModel" "levels" "[I", Cond.fieldLink RX5 29 "TermBillModel" "areResident" "[Z", Cond.methodLink RX5 99 yX5_rateOf, Cond.static yX5_rateOf, Cond.code yX5_rateOf cX5_rateOf 2 (some .int)]
def wsX5_hasHold_r3 : List Cond := [Cond.methodLink RX5 127 yX5_sponsoredOf, Cond.instanceMethod yX5_sponsoredOf, Cond.selects RX5 yX5_sponsoredOf yX5_sponsoredOf, Cond.code yX5_sponsoredOf cX5_sponsoredOf 4 (some .int), Cond.fieldLink RX5 36 "TermBillModel" "sponsorKinds" "[I", Cond.fieldLink RX5 39 "TermBillModel" "sponsorLimits" "[I", Cond.methodLink RX5 121 yX5_least, Cond.static yX5_least, Cond.code yX5_least cX5_least 2 (some .int), Cond.methodLink RX5 130 yX5_usedOf, Cond.instanceMethod yX5_usedOf, Cond.selects RX5 yX5_usedOf yX5_usedOf, Cond.code yX5_usedOf cX5_usedOf 11 (some .int), Cond.fieldLink RX5 33 "TermBillModel" "needs" "[I", Cond.fieldLink RX5 60 "TermBillModel" "awards" "[I", Cond.fieldLink RX5 63 "TermBillModel" "ranks" "[I", Cond.fieldLink RX5 66 "TermBillModel" "amounts" "[I"]
def wsX5_hasHold : List Cond := .code yX5_hasHold cX5_hasHold 2 (some .boolean) :: ((wsX5_hasHold_r1 ++ (wsX5_hasHold_r2 ++ wsX5_hasHold_r3)) ++ wsX50)
def wsJ9_max_7cf53 : List Cond := .code yJ9_max_7cf53 cJ9_max_7cf53 2 (some .int) :: ([])
def wsJ9_min_7cf53 : List Cond := .code yJ9_min_7cf53 cJ9_min_7cf53 2 (some .int) :: ([])
def wsL_setRate : List Cond := .codeWith yL_setRate cL_setRate 6 (some .int) [(0, 12, 15, 13)] :: ([.classLink RL 13 "java/lang/IllegalArgumentException", .methodLink RL 7 yX4_setRate, .instanceMethod yX4_setRate, .selects RX4 yX4_setRate yX4_setRate, .initialized RX4, .code yX4_setRate cX4_setRate 6 (some .int), .classLink RX4 57 "java/lang/IllegalArgumentException", .initialized "java/lang/IllegalArgumentException", .fieldLink RX4 15 "TermBill" "rates" "[I", .constant RX4 52 (100000), .methodLink RX4 48 yX4_placeOfRate, .static yX4_placeOfRate, .code yX4_placeOfRate cX4_placeOfRate 2 (some .int), .methodLink RX4 53 yX4_isWithin, .static yX4_isWithin, .code yX4_isWithin cX4_isWithin 3 (some .boolean)] ++ wsX40 ++ (vx_atS RX4 61 "java/lang/IllegalArgumentException" ["java/lang/RuntimeException", "java/lang/Exception"]).filter goodWord)
def wsL_setBand : List Cond := .codeWith yL_setBand cL_setBand 4 (some .int) [(0, 6, 9, 13)] :: ([.classLink RL 13 "java/lang/IllegalArgumentException", .methodLink RL 15 yX4_setBand, .instanceMethod yX4_setBand, .selects RX4 yX4_setBand yX4_setBand, .initialized RX4, .code yX4_setBand cX4_setBand 3 none, .classLink RX4 57 "java/lang/IllegalArgumentException", .initialized "java/lang/IllegalArgumentException", .fieldLink RX4 22 "TermBill" "bandFrom" "I", .fieldLink RX4 26 "TermBill" "bandTo" "I", .methodLink RX4 53 yX4_isWithin, .static yX4_isWithin, .code yX4_isWithin cX4_isWithin 3 (some .boolean)] ++ wsX40 ++ (vx_atS RX4 61 "java/lang/IllegalArgumentException" ["java/lang/RuntimeException", "java/lang/Exception"]).filter goodWord)
def wsL_setShare : List Cond := .codeWith yL_setShare cL_setShare 5 (some .int) [(0, 10, 13, 13)] :: ([.classLink RL 13 "java/lang/IllegalArgumentException", .methodLink RL 19 yX4_setShare, .instanceMethod yX4_setShare, .selects RX4 yX4_setShare yX4_setShare, .initialized RX4, .code yX4_setShare cX4_setShare 4 (some .int), .classLink RX4 57 "java/lang/IllegalArgumentException", .initialized "java/lang/IllegalArgumentException", .fieldLink RX4 19 "TermBill" "shares" "[I", .methodLink RX4 53 yX4_isWithin, .static yX4_isWithin, .code yX4_isWithin cX4_isWithin 3 (some .boolean)] ++ wsX40 ++ (vx_atS RX4 61 "java/lang/IllegalArgumentException" ["java/lang/RuntimeException", "java/lang/Exception"]).filter goodWord)
def wsL_setFees : List Cond := .codeWith yL_setFees cL_setFees 4 (some .int) [(0, 6, 9, 13)] :: ([.classLink RL 13 "java/lang/IllegalArgumentException", .methodLink RL 23 yX4_setFees, .instanceMethod yX4_setFees, .selects RX4 yX4_setFees yX4_setFees, .initialized RX4, .code yX4_setFees cX4_setFees 3 none, .classLink RX4 57 "java/lang/IllegalArgumentException", .initialized "java/lang/IllegalArgumentException", .constant RX4 52 (100000), .constant RX4 68 (1000000), .fieldLink RX4 29 "TermBill" "lateFee" "I", .fieldLink RX4 32 "TermBill" "holdLimit" "I", .methodLink RX4 53 yX4_isWithin, .static yX4_isWithin, .code yX4_isWithin cX4_isWithin 3 (some .boolean)] ++ wsX40 ++ (vx_atS RX4 61 "java/lang/IllegalArgumentException" ["java/lang/RuntimeException", "java/lang/Exception"]).filter goodWord)
def wsL_setStudent : List Cond := .codeWith yL_setStudent cL_setStudent 6 (some .int) [(0, 9, 12, 30), (0, 9, 16, 13)] :: ([.classLink RL 30 "java/lang/IndexOutOfBoundsException", .classLink RL 13 "java/lang/IllegalArgumentException", .methodLink RL 26 yX4_setStudent, .instanceMethod yX4_setStudent, .selects RX4 yX4_setStudent yX4_setStudent, .initialized RX4, .code yX4_setStudent cX4_setStudent 6 none, .classLink RX4 57 "java/lang/IllegalArgumentException", .initialized "java/lang/IllegalArgumentException", .constant RX4 68 (1000000), .fieldLink RX4 77 "TermBill$Student" "level" "I", .fieldLink RX4 80 "TermBill$Student" "isResident" "Z", .fieldLink RX4 84 "TermBill$Student" "need" "I", .methodLink RX4 71 yX4_studentAt, .instanceMethod yX4_studentAt, .selects RX4 yX4_studentAt yX4_studentAt, .code yX4_studentAt cX4_studentAt 3 (some (.object "TermBill$Student")), .classLink RX4 116 "java/lang/IndexOutOfBoundsException", .initialized "java/lang/IndexOutOfBoundsException", .fieldLink RX4 11 "TermBill" "students" "[LTermBill$Student;", .methodLink RX4 53 yX4_isWithin, .static yX4_isWithin, .code yX4_isWithin cX4_isWithin 3 (some .boolean)] ++ wsX30 ++ wsX40 ++ (vx_atS RX4 61 "java/lang/IllegalArgumentException" ["java/lang/RuntimeException", "java/lang/Exception"]).filter goodWord ++ (vx_atS RX4 120 "java/lang/IndexOutOfBoundsException" ["java/lang/RuntimeException", "java/lang/Exception"]).filter goodWord)
def wsL_setSponsor : List Cond := .codeWith yL_setSponsor cL_setSponsor 5 (some .int) [(0, 7, 10, 30), (0, 7, 14, 13)] :: ([.classLink RL 30 "java/lang/IndexOutOfBoundsException", .classLink RL 13 "java/lang/IllegalArgumentException", .methodLink RL 32 yX4_setSponsor, .instanceMethod yX4_setSponsor, .selects RX4 yX4_setSponsor yX4_setSponsor, .initialized RX4, .code yX4_setSponsor cX4_setSponsor 5 none, .classLink RX4 57 "java/lang/IllegalArgumentException", .initialized "java/lang/IllegalArgumentException", .constant RX4 68 (1000000), .fieldLink RX4 89 "TermBill$Student" "sponsorKinds" "I", .fieldLink RX4 92 "TermBill$Student" "sponsorLimit" "I", .methodLink RX4 71 yX4_studentAt, .instanceMethod yX4_studentAt, .selects RX4 yX4_studentAt yX4_studentAt, .code yX4_studentAt cX4_studentAt 3 (some (.object "TermBill$Student")), .classLink RX4 116 "java/lang/IndexOutOfBoundsException", .initialized "java/lang/IndexOutOfBoundsException", .fieldLink RX4 11 "TermBill" "students" "[LTermBill$Student;", .methodLink RX4 53 yX4_isWithin, .static yX4_isWithin, .code yX4_isWithin cX4_isWithin 3 (some .boolean)] ++ wsX30 ++ wsX40 ++ (vx_atS RX4 61 "java/lang/IllegalArgumentException" ["java/lang/RuntimeException", "java/lang/Exception"]).filter goodWord ++ (vx_atS RX4 120 "java/lang/IndexOutOfBoundsException" ["java/lang/RuntimeException", "java/lang/Exception"]).filter goodWord)
def wsL_take_r1 : List Cond := [Cond.classLink RL 30 "java/lang/IndexOutOfBoundsException", Cond.classLink RL 13 "java/lang/IllegalArgumentException", Cond.classLink RL 39 "java/lang/IllegalStateException", Cond.methodLink RL 36 yX4_take, Cond.instanceMethod yX4_take, Cond.selects RX4 yX4_take yX4_take, Cond.initialized RX4, Cond.code yX4_take cX4_take 5 (some .int), Cond.classLink RX4 57 "java/lang/IllegalArgumentException", Cond.initialized "java/lang/IllegalArgumentException", Cond.classLink RX4 107 "java/lang/IllegalStateException", Cond.initialized "java/lang/IllegalStateException", Cond.fieldLink RX4 97 "TermBill$Student" "courses" "LTermBill$Courses;", Cond.methodLink RX4 71 yX4_studentAt, Cond.instanceMethod yX4_studentAt, Cond.selects RX4 yX4_studentAt yX4_studentAt, Cond.code yX4_studentAt cX4_studentAt 3 (some (.object "TermBill$Student")), Cond.classLink RX4 116 "java/lang/IndexOutOfBoundsException", Cond.initialized "java/lang/IndexOutOfBoundsException", Cond.fieldLink RX4 11 "TermBill" "students" "[LTermBill$Student;", Cond.methodLink RX4 53 yX4_isWithin, Cond.static yX4_isWithin, Cond.code yX4_isWithin cX4_isWithin 3 (some .boolean), Cond.methodLink RX4 101 yX1_add]
def wsL_take_r2 : List Cond := [Cond.instanceMethod yX1_add, Cond.selects RX1 yX1_add yX1_add, Cond.initialized RX1, Cond.code yX1_add cX1_add 2 (some .int), Cond.fieldLink RX1 15 "TermBill$Courses" "taken" "I", Cond.fieldLink RX1 9 "TermBill$Courses" "creditsByCourse" "[I"]
def wsL_take : List Cond := .codeWith yL_take cL_take 5 (some .int) [(0, 10, 13, 30), (0, 10, 17, 13), (0, 10, 21, 39)] :: ((wsL_take_r1 ++ wsL_take_r2) ++ wsX30 ++ wsX40 ++ wsX10 ++ (vx_atS RX4 61 "java/lang/IllegalArgumentException" ["java/lang/RuntimeException", "java/lang/Exception"]).filter goodWord ++ (vx_atS RX4 111 "java/lang/IllegalStateException" ["java/lang/RuntimeException", "java/lang/Exception"]).filter goodWord ++ (vx_atS RX4 120 "java/lang/IndexOutOfBoundsException" ["java/lang/RuntimeException", "java/lang/Exception"]).filter goodWord)
def wsL_drop_r1 : List Cond := [Cond.classLink RL 30 "java/lang/IndexOutOfBoundsException", Cond.classLink RL 39 "java/lang/IllegalStateException", Cond.methodLink RL 41 yX4_drop, Cond.instanceMethod yX4_drop, Cond.selects RX4 yX4_drop yX4_drop, Cond.initialized RX4, Cond.code yX4_drop cX4_drop 4 (some .int), Cond.classLink RX4 116 "java/lang/IndexOutOfBoundsException", Cond.initialized "java/lang/IndexOutOfBoundsException", Cond.classLink RX4 107 "java/lang/IllegalStateException", Cond.initialized "java/lang/IllegalStateException", Cond.fieldLink RX4 97 "TermBill$Student" "courses" "LTermBill$Courses;", Cond.methodLink RX4 71 yX4_studentAt, Cond.instanceMethod yX4_studentAt, Cond.selects RX4 yX4_studentAt yX4_studentAt, Cond.code yX4_studentAt cX4_studentAt 3 (some (.object "TermBill$Student")), Cond.fieldLink RX4 11 "TermBill" "students" "[LTermBill$Student;", Cond.methodLink RX4 112 yX1_has, Cond.instanceMethod yX1_has, Cond.selects RX1 yX1_has yX1_has, Cond.initialized RX1, Cond.code yX1_has cX1_has 2 (some .boolean), Cond.fieldLink RX1 15 "TermBill$Courses" "taken" "I", Cond.methodLink RX4 121 yX1_creditsOf]
def wsL_drop_r2 : List Cond := [Cond.instanceMethod yX1_creditsOf, Cond.selects RX1 yX1_creditsOf yX1_creditsOf, Cond.code yX1_creditsOf cX1_creditsOf 2 (some .int), Cond.fieldLink RX1 9 "TermBill$Courses" "creditsByCourse" "[I", Cond.methodLink RX4 126 yX4_dropCourse, Cond.instanceMethod yX4_dropCourse, Cond.selects RX4 yX4_dropCourse yX4_dropCourse, Cond.code yX4_dropCourse cX4_dropCourse 7 (some .int), Cond.fieldLink RX4 77 "TermBill$Student" "level" "I", Cond.fieldLink RX4 80 "TermBill$Student" "isResident" "Z", Cond.fieldLink RX4 237 "TermBill$Courses" "keptSum" "I", Cond.methodLink RX4 48 yX4_placeOfRate, Cond.static yX4_placeOfRate, Cond.code yX4_placeOfRate cX4_placeOfRate 2 (some .int), Cond.methodLink RX4 225 yX4_rateAt, Cond.instanceMethod yX4_rateAt, Cond.selects RX4 yX4_rateAt yX4_rateAt, Cond.code yX4_rateAt cX4_rateAt 2 (some .int), Cond.fieldLink RX4 15 "TermBill" "rates" "[I", Cond.methodLink RX4 199 yX1_total, Cond.instanceMethod yX1_total, Cond.selects RX1 yX1_total yX1_total, Cond.code yX1_total cX1_total 3 (some .int), Cond.methodLink RX4 228 yX4_priceOf]
def wsL_drop_r3 : List Cond := [Cond.instanceMethod yX4_priceOf, Cond.selects RX4 yX4_priceOf yX4_priceOf, Cond.code yX4_priceOf cX4_priceOf 3 (some .int), Cond.fieldLink RX4 22 "TermBill" "bandFrom" "I", Cond.fieldLink RX4 26 "TermBill" "bandTo" "I", Cond.methodLink RX4 231 yX1_remove, Cond.instanceMethod yX1_remove, Cond.selects RX1 yX1_remove yX1_remove, Cond.code yX1_remove cX1_remove 2 none, Cond.methodLink RX4 234 yX4_shareNow, Cond.instanceMethod yX4_shareNow, Cond.selects RX4 yX4_shareNow yX4_shareNow, Cond.code yX4_shareNow cX4_shareNow 1 (some .int), Cond.fieldLink RX4 35 "TermBill" "week" "I", Cond.fieldLink RX4 19 "TermBill" "shares" "[I"]
def wsL_drop : List Cond := .codeWith yL_drop cL_drop 5 (some .int) [(0, 10, 13, 30), (0, 10, 17, 39)] :: ((wsL_drop_r1 ++ (wsL_drop_r2 ++ wsL_drop_r3)) ++ wsX30 ++ wsX40 ++ wsX10 ++ (vx_atS RX4 120 "java/lang/IndexOutOfBoundsException" ["java/lang/RuntimeException", "java/lang/Exception"]).filter goodWord ++ (vx_atS RX4 111 "java/lang/IllegalStateException" ["java/lang/RuntimeException", "java/lang/Exception"]).filter goodWord)
def wsL_charge : List Cond := .codeWith yL_charge cL_charge 6 (some .int) [(0, 12, 15, 30), (0, 12, 19, 13)] :: ([.classLink RL 30 "java/lang/IndexOutOfBoundsException", .classLink RL 13 "java/lang/IllegalArgumentException", .methodLink RL 44 yX4_charge, .instanceMethod yX4_charge, .selects RX4 yX4_charge yX4_charge, .initialized RX4, .code yX4_charge cX4_charge 5 (some .int), .classLink RX4 57 "java/lang/IllegalArgumentException", .initialized "java/lang/IllegalArgumentException", .constant RX4 68 (1000000), .fieldLink RX4 132 "TermBill$Student" "fees" "I", .fieldLink RX4 135 "TermBill$Student" "housing" "I", .methodLink RX4 71 yX4_studentAt, .instanceMethod yX4_studentAt, .selects RX4 yX4_studentAt yX4_studentAt, .code yX4_studentAt cX4_studentAt 3 (some (.object "TermBill$Student")), .classLink RX4 116 "java/lang/IndexOutOfBoundsException", .initialized "java/lang/IndexOutOfBoundsException", .fieldLink RX4 11 "TermBill" "students" "[LTermBill$Student;", .methodLink RX4 53 yX4_isWithin, .static yX4_isWithin, .code yX4_isWithin cX4_isWithin 3 (some .boolean)] ++ wsX30 ++ wsX40 ++ (vx_atS RX4 61 "java/lang/IllegalArgumentException" ["java/lang/RuntimeException", "java/lang/Exception"]).filter goodWord ++ (vx_atS RX4 120 "java/lang/IndexOutOfBoundsException" ["java/lang/RuntimeException", "java/lang/Exception"]).filter goodWord)
def wsL_award_r1 : List Cond := [Cond.classLink RL 30 "java/lang/IndexOutOfBoundsException", Cond.classLink RL 13 "java/lang/IllegalArgumentException", Cond.classLink RL 39 "java/lang/IllegalStateException", Cond.methodLink RL 48 yX4_award, Cond.instanceMethod yX4_award, Cond.selects RX4 yX4_award yX4_award, Cond.initialized RX4, Cond.code yX4_award cX4_award 6 (some .int), Cond.classLink RX4 57 "java/lang/IllegalArgumentException", Cond.initialized "java/lang/IllegalArgumentException", Cond.classLink RX4 107 "java/lang/IllegalStateException", Cond.initialized "java/lang/IllegalStateException", Cond.constant RX4 68 (1000000), Cond.fieldLink RX4 140 "TermBill$Student" "aid" "LTermBill$Aid;", Cond.methodLink RX4 71 yX4_studentAt, Cond.instanceMethod yX4_studentAt, Cond.selects RX4 yX4_studentAt yX4_studentAt, Cond.code yX4_studentAt cX4_studentAt 3 (some (.object "TermBill$Student")), Cond.classLink RX4 116 "java/lang/IndexOutOfBoundsException", Cond.initialized "java/lang/IndexOutOfBoundsException", Cond.fieldLink RX4 11 "TermBill" "students" "[LTermBill$Student;", Cond.methodLink RX4 53 yX4_isWithin, Cond.static yX4_isWithin, Cond.code yX4_isWithin cX4_isWithin 3 (some .boolean)]
def wsL_award_r2 : List Cond := [Cond.methodLink RX4 144 yX0_add, Cond.instanceMethod yX0_add, Cond.selects RX0 yX0_add yX0_add, Cond.initialized RX0, Cond.code yX0_add cX0_add 3 (some .int), Cond.fieldLink RX0 21 "TermBill$Aid" "many" "I", Cond.fieldLink RX0 9 "TermBill$Aid" "ranks" "[I", Cond.fieldLink RX0 15 "TermBill$Aid" "amounts" "[I"]
def wsL_award : List Cond := .codeWith yL_award cL_award 6 (some .int) [(0, 12, 15, 30), (0, 12, 19, 13), (0, 12, 23, 39)] :: ((wsL_award_r1 ++ wsL_award_r2) ++ wsX30 ++ wsX40 ++ wsX00 ++ (vx_atS RX4 61 "java/lang/IllegalArgumentException" ["java/lang/RuntimeException", "java/lang/Exception"]).filter goodWord ++ (vx_atS RX4 111 "java/lang/IllegalStateException" ["java/lang/RuntimeException", "java/lang/Exception"]).filter goodWord ++ (vx_atS RX4 120 "java/lang/IndexOutOfBoundsException" ["java/lang/RuntimeException", "java/lang/Exception"]).filter goodWord)
def wsL_pay_r1 : List Cond := [Cond.classLink RL 30 "java/lang/IndexOutOfBoundsException", Cond.classLink RL 13 "java/lang/IllegalArgumentException", Cond.methodLink RL 51 yX4_pay, Cond.instanceMethod yX4_pay, Cond.selects RX4 yX4_pay yX4_pay, Cond.initialized RX4, Cond.code yX4_pay cX4_pay 4 (some .int), Cond.classLink RX4 57 "java/lang/IllegalArgumentException", Cond.initialized "java/lang/IllegalArgumentException", Cond.constant RX4 68 (1000000), Cond.fieldLink RX4 153 "TermBill$Student" "paidSum" "I", Cond.fieldLink RX4 156 "TermBill$Student" "instalments" "LTermBill$Instalments;", Cond.fieldLink RX4 160 "TermBill$Instalments" "paidSince" "I", Cond.methodLink RX4 71 yX4_studentAt, Cond.instanceMethod yX4_studentAt, Cond.selects RX4 yX4_studentAt yX4_studentAt, Cond.code yX4_studentAt cX4_studentAt 3 (some (.object "TermBill$Student")), Cond.classLink RX4 116 "java/lang/IndexOutOfBoundsException", Cond.initialized "java/lang/IndexOutOfBoundsException", Cond.fieldLink RX4 11 "TermBill" "students" "[LTermBill$Student;", Cond.methodLink RX4 53 yX4_isWithin, Cond.static yX4_isWithin, Cond.code yX4_isWithin cX4_isWithin 3 (some .boolean), Cond.methodLink RX4 165 yX4_balanceOf]
def wsL_pay_r2 : List Cond := [Cond.instanceMethod yX4_balanceOf, Cond.selects RX4 yX4_balanceOf yX4_balanceOf, Cond.code yX4_balanceOf cX4_balanceOf 3 (some .int), Cond.fieldLink RX4 140 "TermBill$Student" "aid" "LTermBill$Aid;", Cond.fieldLink RX4 84 "TermBill$Student" "need" "I", Cond.methodLink RX4 211 yX4_unsponsored, Cond.instanceMethod yX4_unsponsored, Cond.selects RX4 yX4_unsponsored yX4_unsponsored, Cond.code yX4_unsponsored cX4_unsponsored 2 (some .int), Cond.methodLink RX4 202 yX4_chargesOf, Cond.instanceMethod yX4_chargesOf, Cond.selects RX4 yX4_chargesOf yX4_chargesOf, Cond.code yX4_chargesOf cX4_chargesOf 5 (some .int), Cond.fieldLink RX4 77 "TermBill$Student" "level" "I", Cond.fieldLink RX4 80 "TermBill$Student" "isResident" "Z", Cond.fieldLink RX4 97 "TermBill$Student" "courses" "LTermBill$Courses;", Cond.fieldLink RX4 237 "TermBill$Courses" "keptSum" "I", Cond.fieldLink RX4 132 "TermBill$Student" "fees" "I", Cond.fieldLink RX4 135 "TermBill$Student" "housing" "I", Cond.methodLink RX4 48 yX4_placeOfRate, Cond.static yX4_placeOfRate, Cond.code yX4_placeOfRate cX4_placeOfRate 2 (some .int), Cond.methodLink RX4 225 yX4_rateAt, Cond.instanceMethod yX4_rateAt]
def wsL_pay_r3 : List Cond := [Cond.selects RX4 yX4_rateAt yX4_rateAt, Cond.code yX4_rateAt cX4_rateAt 2 (some .int), Cond.fieldLink RX4 15 "TermBill" "rates" "[I", Cond.methodLink RX4 199 yX1_total, Cond.instanceMethod yX1_total, Cond.selects RX1 yX1_total yX1_total, Cond.initialized RX1, Cond.code yX1_total cX1_total 3 (some .int), Cond.fieldLink RX1 9 "TermBill$Courses" "creditsByCourse" "[I", Cond.methodLink RX4 228 yX4_priceOf, Cond.instanceMethod yX4_priceOf, Cond.selects RX4 yX4_priceOf yX4_priceOf, Cond.code yX4_priceOf cX4_priceOf 3 (some .int), Cond.fieldLink RX4 22 "TermBill" "bandFrom" "I", Cond.fieldLink RX4 26 "TermBill" "bandTo" "I", Cond.methodLink RX4 205 yX4_sponsorPart, Cond.instanceMethod yX4_sponsorPart, Cond.selects RX4 yX4_sponsorPart yX4_sponsorPart, Cond.code yX4_sponsorPart cX4_sponsorPart 2 (some .int), Cond.fieldLink RX4 89 "TermBill$Student" "sponsorKinds" "I", Cond.fieldLink RX4 92 "TermBill$Student" "sponsorLimit" "I", Cond.methodLink RX4 240 Lib.Math.min.name, Cond.static Lib.Math.min.name, Cond.initialized "java/lang/Math"]
def wsL_pay_r4 : List Cond := [Cond.code Lib.Math.min.name Lib.Math.min.code 2 (some .int), Cond.methodLink RX4 214 yX0_cover, Cond.instanceMethod yX0_cover, Cond.selects RX0 yX0_cover yX0_cover, Cond.initialized RX0, Cond.code yX0_cover cX0_cover 8 (some .int), Cond.fieldLink RX0 9 "TermBill$Aid" "ranks" "[I", Cond.methodLink RX0 25 Lib.Math.min.name, Cond.fieldLink RX0 18 "TermBill$Aid" "uses" "[I", Cond.fieldLink RX0 15 "TermBill$Aid" "amounts" "[I"]
def wsL_pay : List Cond := .codeWith yL_pay cL_pay 5 (some .int) [(0, 10, 13, 30), (0, 10, 17, 13)] :: ((wsL_pay_r1 ++ (wsL_pay_r2 ++ (wsL_pay_r3 ++ wsL_pay_r4))) ++ wsX30 ++ wsX20 ++ wsX40 ++ wsX10 ++ wsX00 ++ (vx_atS RX4 61 "java/lang/IllegalArgumentException" ["java/lang/RuntimeException", "java/lang/Exception"]).filter goodWord ++ (vx_atS RX4 120 "java/lang/IndexOutOfBoundsException" ["java/lang/RuntimeException", "java/lang/Exception"]).filter goodWord)
def wsL_plan_r1 : List Cond := [Cond.classLink RL 30 "java/lang/IndexOutOfBoundsException", Cond.classLink RL 13 "java/lang/IllegalArgumentException", Cond.classLink RL 39 "java/lang/IllegalStateException", Cond.methodLink RL 54 yX4_plan, Cond.instanceMethod yX4_plan, Cond.selects RX4 yX4_plan yX4_plan, Cond.initialized RX4, Cond.code yX4_plan cX4_plan 7 (some .int), Cond.classLink RX4 57 "java/lang/IllegalArgumentException", Cond.initialized "java/lang/IllegalArgumentException", Cond.classLink RX4 107 "java/lang/IllegalStateException", Cond.initialized "java/lang/IllegalStateException", Cond.fieldLink RX4 156 "TermBill$Student" "instalments" "LTermBill$Instalments;", Cond.methodLink RX4 71 yX4_studentAt, Cond.instanceMethod yX4_studentAt, Cond.selects RX4 yX4_studentAt yX4_studentAt, Cond.code yX4_studentAt cX4_studentAt 3 (some (.object "TermBill$Student")), Cond.classLink RX4 116 "java/lang/IndexOutOfBoundsException", Cond.initialized "java/lang/IndexOutOfBoundsException", Cond.fieldLink RX4 11 "TermBill" "students" "[LTermBill$Student;", Cond.methodLink RX4 165 yX4_balanceOf, Cond.instanceMethod yX4_balanceOf, Cond.selects RX4 yX4_balanceOf yX4_balanceOf, Cond.code yX4_balanceOf cX4_balanceOf 3 (some .int)]
def wsL_plan_r2 : List Cond := [Cond.fieldLink RX4 140 "TermBill$Student" "aid" "LTermBill$Aid;", Cond.fieldLink RX4 84 "TermBill$Student" "need" "I", Cond.fieldLink RX4 153 "TermBill$Student" "paidSum" "I", Cond.methodLink RX4 211 yX4_unsponsored, Cond.instanceMethod yX4_unsponsored, Cond.selects RX4 yX4_unsponsored yX4_unsponsored, Cond.code yX4_unsponsored cX4_unsponsored 2 (some .int), Cond.methodLink RX4 202 yX4_chargesOf, Cond.instanceMethod yX4_chargesOf, Cond.selects RX4 yX4_chargesOf yX4_chargesOf, Cond.code yX4_chargesOf cX4_chargesOf 5 (some .int), Cond.fieldLink RX4 77 "TermBill$Student" "level" "I", Cond.fieldLink RX4 80 "TermBill$Student" "isResident" "Z", Cond.fieldLink RX4 97 "TermBill$Student" "courses" "LTermBill$Courses;", Cond.fieldLink RX4 237 "TermBill$Courses" "keptSum" "I", Cond.fieldLink RX4 132 "TermBill$Student" "fees" "I", Cond.fieldLink RX4 135 "TermBill$Student" "housing" "I", Cond.methodLink RX4 48 yX4_placeOfRate, Cond.static yX4_placeOfRate, Cond.code yX4_placeOfRate cX4_placeOfRate 2 (some .int), Cond.methodLink RX4 225 yX4_rateAt, Cond.instanceMethod yX4_rateAt, Cond.selects RX4 yX4_rateAt yX4_rateAt, Cond.code yX4_rateAt cX4_rateAt 2 (some .int)]
def wsL_plan_r3 : List Cond := [Cond.fieldLink RX4 15 "TermBill" "rates" "[I", Cond.methodLink RX4 199 yX1_total, Cond.instanceMethod yX1_total, Cond.selects RX1 yX1_total yX1_total, Cond.initialized RX1, Cond.code yX1_total cX1_total 3 (some .int), Cond.fieldLink RX1 9 "TermBill$Courses" "creditsByCourse" "[I", Cond.methodLink RX4 228 yX4_priceOf, Cond.instanceMethod yX4_priceOf, Cond.selects RX4 yX4_priceOf yX4_priceOf, Cond.code yX4_priceOf cX4_priceOf 3 (some .int), Cond.fieldLink RX4 22 "TermBill" "bandFrom" "I", Cond.fieldLink RX4 26 "TermBill" "bandTo" "I", Cond.methodLink RX4 205 yX4_sponsorPart, Cond.instanceMethod yX4_sponsorPart, Cond.selects RX4 yX4_sponsorPart yX4_sponsorPart, Cond.code yX4_sponsorPart cX4_sponsorPart 2 (some .int), Cond.fieldLink RX4 89 "TermBill$Student" "sponsorKinds" "I", Cond.fieldLink RX4 92 "TermBill$Student" "sponsorLimit" "I", Cond.methodLink RX4 240 Lib.Math.min.name, Cond.static Lib.Math.min.name, Cond.initialized "java/lang/Math", Cond.code Lib.Math.min.name Lib.Math.min.code 2 (some .int), Cond.methodLink RX4 214 yX0_cover]
def wsL_plan_r4 : List Cond := [Cond.instanceMethod yX0_cover, Cond.selects RX0 yX0_cover yX0_cover, Cond.initialized RX0, Cond.code yX0_cover cX0_cover 8 (some .int), Cond.fieldLink RX0 9 "TermBill$Aid" "ranks" "[I", Cond.methodLink RX0 25 Lib.Math.min.name, Cond.fieldLink RX0 18 "TermBill$Aid" "uses" "[I", Cond.fieldLink RX0 15 "TermBill$Aid" "amounts" "[I", Cond.methodLink RX4 173 yX4_weekNumber, Cond.instanceMethod yX4_weekNumber, Cond.selects RX4 yX4_weekNumber yX4_weekNumber, Cond.code yX4_weekNumber cX4_weekNumber 1 (some .int), Cond.fieldLink RX4 38 "TermBill" "term" "I", Cond.fieldLink RX4 35 "TermBill" "week" "I", Cond.methodLink RX4 177 yX2_start, Cond.instanceMethod yX2_start, Cond.selects RX2 yX2_start yX2_start, Cond.initialized RX2, Cond.code yX2_start cX2_start 5 none, Cond.fieldLink RX2 9 "TermBill$Instalments" "madeAt" "I", Cond.fieldLink RX2 15 "TermBill$Instalments" "many" "I", Cond.fieldLink RX2 18 "TermBill$Instalments" "first" "I", Cond.fieldLink RX2 21 "TermBill$Instalments" "each" "I", Cond.fieldLink RX2 24 "TermBill$Instalments" "paidSince" "I"]
def wsL_plan : List Cond := .codeWith yL_plan cL_plan 5 (some .int) [(0, 10, 13, 30), (0, 10, 17, 13), (0, 10, 21, 39)] :: ((wsL_plan_r1 ++ (wsL_plan_r2 ++ (wsL_plan_r3 ++ wsL_plan_r4))) ++ wsX30 ++ wsX40 ++ wsX10 ++ wsX00 ++ wsX20 ++ (vx_atS RX4 61 "java/lang/IllegalArgumentException" ["java/lang/RuntimeException", "java/lang/Exception"]).filter goodWord ++ (vx_atS RX4 111 "java/lang/IllegalStateException" ["java/lang/RuntimeException", "java/lang/Exception"]).filter goodWord ++ (vx_atS RX4 120 "java/lang/IndexOutOfBoundsException" ["java/lang/RuntimeException", "java/lang/Exception"]).filter goodWord)
def wsL_leave_r1 : List Cond := [Cond.classLink RL 30 "java/lang/IndexOutOfBoundsException", Cond.methodLink RL 57 yX4_leave, Cond.instanceMethod yX4_leave, Cond.selects RX4 yX4_leave yX4_leave, Cond.initialized RX4, Cond.code yX4_leave cX4_leave 4 (some .int), Cond.fieldLink RX4 97 "TermBill$Student" "courses" "LTermBill$Courses;", Cond.fieldLink RX4 140 "TermBill$Student" "aid" "LTermBill$Aid;", Cond.methodLink RX4 71 yX4_studentAt, Cond.instanceMethod yX4_studentAt, Cond.selects RX4 yX4_studentAt yX4_studentAt, Cond.code yX4_studentAt cX4_studentAt 3 (some (.object "TermBill$Student")), Cond.classLink RX4 116 "java/lang/IndexOutOfBoundsException", Cond.initialized "java/lang/IndexOutOfBoundsException", Cond.fieldLink RX4 11 "TermBill" "students" "[LTermBill$Student;", Cond.methodLink RX4 121 yX1_creditsOf, Cond.instanceMethod yX1_creditsOf, Cond.selects RX1 yX1_creditsOf yX1_creditsOf, Cond.initialized RX1, Cond.code yX1_creditsOf cX1_creditsOf 2 (some .int), Cond.fieldLink RX1 9 "TermBill$Courses" "creditsByCourse" "[I", Cond.methodLink RX4 126 yX4_dropCourse, Cond.instanceMethod yX4_dropCourse, Cond.selects RX4 yX4_dropCourse yX4_dropCourse]
def wsL_leave_r2 : List Cond := [Cond.code yX4_dropCourse cX4_dropCourse 7 (some .int), Cond.fieldLink RX4 77 "TermBill$Student" "level" "I", Cond.fieldLink RX4 80 "TermBill$Student" "isResident" "Z", Cond.fieldLink RX4 237 "TermBill$Courses" "keptSum" "I", Cond.methodLink RX4 48 yX4_placeOfRate, Cond.static yX4_placeOfRate, Cond.code yX4_placeOfRate cX4_placeOfRate 2 (some .int), Cond.methodLink RX4 225 yX4_rateAt, Cond.instanceMethod yX4_rateAt, Cond.selects RX4 yX4_rateAt yX4_rateAt, Cond.code yX4_rateAt cX4_rateAt 2 (some .int), Cond.fieldLink RX4 15 "TermBill" "rates" "[I", Cond.methodLink RX4 199 yX1_total, Cond.instanceMethod yX1_total, Cond.selects RX1 yX1_total yX1_total, Cond.code yX1_total cX1_total 3 (some .int), Cond.methodLink RX4 228 yX4_priceOf, Cond.instanceMethod yX4_priceOf, Cond.selects RX4 yX4_priceOf yX4_priceOf, Cond.code yX4_priceOf cX4_priceOf 3 (some .int), Cond.fieldLink RX4 22 "TermBill" "bandFrom" "I", Cond.fieldLink RX4 26 "TermBill" "bandTo" "I", Cond.methodLink RX4 231 yX1_remove, Cond.instanceMethod yX1_remove]
def wsL_leave_r3 : List Cond := [Cond.selects RX1 yX1_remove yX1_remove, Cond.code yX1_remove cX1_remove 2 none, Cond.methodLink RX4 234 yX4_shareNow, Cond.instanceMethod yX4_shareNow, Cond.selects RX4 yX4_shareNow yX4_shareNow, Cond.code yX4_shareNow cX4_shareNow 1 (some .int), Cond.fieldLink RX4 35 "TermBill" "week" "I", Cond.fieldLink RX4 19 "TermBill" "shares" "[I", Cond.methodLink RX4 181 yX0_total, Cond.instanceMethod yX0_total, Cond.selects RX0 yX0_total yX0_total, Cond.initialized RX0, Cond.code yX0_total cX0_total 3 (some .int), Cond.fieldLink RX0 15 "TermBill$Aid" "amounts" "[I", Cond.methodLink RX4 184 yX4_aidToGiveBack, Cond.instanceMethod yX4_aidToGiveBack, Cond.selects RX4 yX4_aidToGiveBack yX4_aidToGiveBack, Cond.code yX4_aidToGiveBack cX4_aidToGiveBack 2 (some .int), Cond.methodLink RX4 187 yX0_takeOff, Cond.instanceMethod yX0_takeOff, Cond.selects RX0 yX0_takeOff yX0_takeOff, Cond.code yX0_takeOff cX0_takeOff 6 none, Cond.fieldLink RX0 9 "TermBill$Aid" "ranks" "[I", Cond.methodLink RX0 25 Lib.Math.min.name]
def wsL_leave_r4 : List Cond := [Cond.static Lib.Math.min.name, Cond.initialized "java/lang/Math", Cond.code Lib.Math.min.name Lib.Math.min.code 2 (some .int)]
def wsL_leave : List Cond := .codeWith yL_leave cL_leave 4 (some .int) [(0, 9, 12, 30)] :: ((wsL_leave_r1 ++ (wsL_leave_r2 ++ (wsL_leave_r3 ++ wsL_leave_r4))) ++ wsX30 ++ wsX40 ++ wsX10 ++ wsX00 ++ (vx_atS RX4 120 "java/lang/IndexOutOfBoundsException" ["java/lang/RuntimeException", "java/lang/Exception"]).filter goodWord)
def wsL_closeWeek_r1 : List Cond := [Cond.classLink RL 39 "java/lang/IllegalStateException", Cond.methodLink RL 61 yX4_closeWeek, Cond.instanceMethod yX4_closeWeek, Cond.selects RX4 yX4_closeWeek yX4_closeWeek, Cond.initialized RX4, Cond.code yX4_closeWeek cX4_closeWeek 1 (some .int), Cond.classLink RX4 107 "java/lang/IllegalStateException", Cond.initialized "java/lang/IllegalStateException", Cond.fieldLink RX4 35 "TermBill" "week" "I", Cond.fieldLink RX4 38 "TermBill" "term" "I", Cond.methodLink RX4 193 yX4_endTerm, Cond.instanceMethod yX4_endTerm, Cond.selects RX4 yX4_endTerm yX4_endTerm, Cond.code yX4_endTerm cX4_endTerm 7 none, Cond.methodLink RX4 71 yX4_studentAt, Cond.instanceMethod yX4_studentAt, Cond.selects RX4 yX4_studentAt yX4_studentAt, Cond.code yX4_studentAt cX4_studentAt 3 (some (.object "TermBill$Student")), Cond.classLink RX4 116 "java/lang/IndexOutOfBoundsException", Cond.initialized "java/lang/IndexOutOfBoundsException", Cond.fieldLink RX4 11 "TermBill" "students" "[LTermBill$Student;", Cond.methodLink RX4 165 yX4_balanceOf, Cond.instanceMethod yX4_balanceOf, Cond.selects RX4 yX4_balanceOf yX4_balanceOf]
def wsL_closeWeek_r2 : List Cond := [Cond.code yX4_balanceOf cX4_balanceOf 3 (some .int), Cond.fieldLink RX4 140 "TermBill$Student" "aid" "LTermBill$Aid;", Cond.fieldLink RX4 84 "TermBill$Student" "need" "I", Cond.fieldLink RX4 153 "TermBill$Student" "paidSum" "I", Cond.methodLink RX4 211 yX4_unsponsored, Cond.instanceMethod yX4_unsponsored, Cond.selects RX4 yX4_unsponsored yX4_unsponsored, Cond.code yX4_unsponsored cX4_unsponsored 2 (some .int), Cond.methodLink RX4 202 yX4_chargesOf, Cond.instanceMethod yX4_chargesOf, Cond.selects RX4 yX4_chargesOf yX4_chargesOf, Cond.code yX4_chargesOf cX4_chargesOf 5 (some .int), Cond.fieldLink RX4 77 "TermBill$Student" "level" "I", Cond.fieldLink RX4 80 "TermBill$Student" "isResident" "Z", Cond.fieldLink RX4 97 "TermBill$Student" "courses" "LTermBill$Courses;", Cond.fieldLink RX4 237 "TermBill$Courses" "keptSum" "I", Cond.fieldLink RX4 132 "TermBill$Student" "fees" "I", Cond.fieldLink RX4 135 "TermBill$Student" "housing" "I", Cond.methodLink RX4 48 yX4_placeOfRate, Cond.static yX4_placeOfRate, Cond.code yX4_placeOfRate cX4_placeOfRate 2 (some .int), Cond.methodLink RX4 225 yX4_rateAt, Cond.instanceMethod yX4_rateAt, Cond.selects RX4 yX4_rateAt yX4_rateAt]
def wsL_closeWeek_r3 : List Cond := [Cond.code yX4_rateAt cX4_rateAt 2 (some .int), Cond.fieldLink RX4 15 "TermBill" "rates" "[I", Cond.methodLink RX4 199 yX1_total, Cond.instanceMethod yX1_total, Cond.selects RX1 yX1_total yX1_total, Cond.initialized RX1, Cond.code yX1_total cX1_total 3 (some .int), Cond.fieldLink RX1 9 "TermBill$Courses" "creditsByCourse" "[I", Cond.methodLink RX4 228 yX4_priceOf, Cond.instanceMethod yX4_priceOf, Cond.selects RX4 yX4_priceOf yX4_priceOf, Cond.code yX4_priceOf cX4_priceOf 3 (some .int), Cond.fieldLink RX4 22 "TermBill" "bandFrom" "I", Cond.fieldLink RX4 26 "TermBill" "bandTo" "I", Cond.methodLink RX4 205 yX4_sponsorPart, Cond.instanceMethod yX4_sponsorPart, Cond.selects RX4 yX4_sponsorPart yX4_sponsorPart, Cond.code yX4_sponsorPart cX4_sponsorPart 2 (some .int), Cond.fieldLink RX4 89 "TermBill$Student" "sponsorKinds" "I", Cond.fieldLink RX4 92 "TermBill$Student" "sponsorLimit" "I", Cond.methodLink RX4 240 Lib.Math.min.name, Cond.static Lib.Math.min.name, Cond.initialized "java/lang/Math", Cond.code Lib.Math.min.name Lib.Math.min.code 2 (some .int)]
def wsL_closeWeek_r4 : List Cond := [Cond.methodLink RX4 214 yX0_cover, Cond.instanceMethod yX0_cover, Cond.selects RX0 yX0_cover yX0_cover, Cond.initialized RX0, Cond.code yX0_cover cX0_cover 8 (some .int), Cond.fieldLink RX0 9 "TermBill$Aid" "ranks" "[I", Cond.methodLink RX0 25 Lib.Math.min.name, Cond.fieldLink RX0 18 "TermBill$Aid" "uses" "[I", Cond.fieldLink RX0 15 "TermBill$Aid" "amounts" "[I", Cond.methodLink RX4 245 yX4_carriedTo, Cond.static yX4_carriedTo, Cond.code yX4_carriedTo cX4_carriedTo 2 (some .int), Cond.methodLink RX4 248 yX3_beginTerm, Cond.instanceMethod yX3_beginTerm, Cond.selects RX3 yX3_beginTerm yX3_beginTerm, Cond.initialized RX3, Cond.code yX3_beginTerm cX3_beginTerm 2 none, Cond.fieldLink RX3 10 "TermBill$Student" "courses" "LTermBill$Courses;", Cond.fieldLink RX3 19 "TermBill$Student" "aid" "LTermBill$Aid;", Cond.fieldLink RX3 47 "TermBill$Student" "sponsorKinds" "I", Cond.fieldLink RX3 50 "TermBill$Student" "sponsorLimit" "I", Cond.fieldLink RX3 44 "TermBill$Student" "housing" "I", Cond.methodLink RX3 60 Lib.Math.max.name, Cond.static Lib.Math.max.name]
def wsL_closeWeek_r5 : List Cond := [Cond.code Lib.Math.max.name Lib.Math.max.code 2 (some .int), Cond.fieldLink RX3 41 "TermBill$Student" "fees" "I", Cond.fieldLink RX3 53 "TermBill$Student" "paidSum" "I", Cond.methodLink RX3 56 yX1_clear, Cond.instanceMethod yX1_clear, Cond.selects RX1 yX1_clear yX1_clear, Cond.code yX1_clear cX1_clear 1 none, Cond.fieldLink RX1 15 "TermBill$Courses" "taken" "I", Cond.fieldLink RX1 19 "TermBill$Courses" "keptSum" "I", Cond.methodLink RX1 22 yJ7_fill_53178, Cond.static yJ7_fill_53178, Cond.initialized RJ7, Cond.code yJ7_fill_53178 cJ7_fill_53178 4 none, Cond.methodLink RX3 59 yX0_clear, Cond.instanceMethod yX0_clear, Cond.selects RX0 yX0_clear yX0_clear, Cond.code yX0_clear cX0_clear 1 none, Cond.fieldLink RX0 21 "TermBill$Aid" "many" "I", Cond.methodLink RX0 31 yJ7_fill_53178, Cond.methodLink RX4 196 yX4_chargeLateFees, Cond.instanceMethod yX4_chargeLateFees, Cond.selects RX4 yX4_chargeLateFees yX4_chargeLateFees, Cond.code yX4_chargeLateFees cX4_chargeLateFees 3 none, Cond.fieldLink RX4 156 "TermBill$Student" "instalments" "LTermBill$Instalments;"]
def wsL_closeWeek_r6 : List Cond := [Cond.fieldLink RX4 29 "TermBill" "lateFee" "I", Cond.methodLink RX4 173 yX4_weekNumber, Cond.instanceMethod yX4_weekNumber, Cond.selects RX4 yX4_weekNumber yX4_weekNumber, Cond.code yX4_weekNumber cX4_weekNumber 1 (some .int), Cond.methodLink RX4 251 yX2_isLateAt, Cond.instanceMethod yX2_isLateAt, Cond.selects RX2 yX2_isLateAt yX2_isLateAt, Cond.initialized RX2, Cond.code yX2_isLateAt cX2_isLateAt 4 (some .boolean), Cond.fieldLink RX2 9 "TermBill$Instalments" "madeAt" "I", Cond.fieldLink RX2 15 "TermBill$Instalments" "many" "I", Cond.fieldLink RX2 24 "TermBill$Instalments" "paidSince" "I", Cond.fieldLink RX2 18 "TermBill$Instalments" "first" "I", Cond.fieldLink RX2 21 "TermBill$Instalments" "each" "I"]
def wsL_closeWeek : List Cond := .codeWith yL_closeWeek cL_closeWeek 3 (some .int) [(0, 8, 11, 39)] :: ((wsL_closeWeek_r1 ++ (wsL_closeWeek_r2 ++ (wsL_closeWeek_r3 ++ (wsL_closeWeek_r4 ++ (wsL_closeWeek_r5 ++ wsL_closeWeek_r6))))) ++ wsX40 ++ wsX30 ++ wsX10 ++ wsX00 ++ wsX20 ++ (vx_atS RX4 111 "java/lang/IllegalStateException" ["java/lang/RuntimeException", "java/lang/Exception"]).filter goodWord ++ (vx_atS RX4 120 "java/lang/IndexOutOfBoundsException" ["java/lang/RuntimeException", "java/lang/Exception"]).filter goodWord)
def wsL_credits : List Cond := .codeWith yL_credits cL_credits 4 (some .int) [(0, 9, 12, 30)] :: ([.classLink RL 30 "java/lang/IndexOutOfBoundsException", .methodLink RL 65 yX4_credits, .instanceMethod yX4_credits, .selects RX4 yX4_credits yX4_credits, .initialized RX4, .code yX4_credits cX4_credits 2 (some .int), .fieldLink RX4 97 "TermBill$Student" "courses" "LTermBill$Courses;", .methodLink RX4 71 yX4_studentAt, .instanceMethod yX4_studentAt, .selects RX4 yX4_studentAt yX4_studentAt, .code yX4_studentAt cX4_studentAt 3 (some (.object "TermBill$Student")), .classLink RX4 116 "java/lang/IndexOutOfBoundsException", .initialized "java/lang/IndexOutOfBoundsException", .fieldLink RX4 11 "TermBill" "students" "[LTermBill$Student;", .methodLink RX4 199 yX1_total, .instanceMethod yX1_total, .selects RX1 yX1_total yX1_total, .initialized RX1, .code yX1_total cX1_total 3 (some .int), .fieldLink RX1 9 "TermBill$Courses" "creditsByCourse" "[I"] ++ wsX30 ++ wsX40 ++ wsX10 ++ (vx_atS RX4 120 "java/lang/IndexOutOfBoundsException" ["java/lang/RuntimeException", "java/lang/Exception"]).filter goodWord)
def wsL_charged_r1 : List Cond := [Cond.classLink RL 30 "java/lang/IndexOutOfBoundsException", Cond.classLink RL 13 "java/lang/IllegalArgumentException", Cond.methodLink RL 68 yX4_charged, Cond.instanceMethod yX4_charged, Cond.selects RX4 yX4_charged yX4_charged, Cond.initialized RX4, Cond.code yX4_charged cX4_charged 4 (some .int), Cond.classLink RX4 57 "java/lang/IllegalArgumentException", Cond.initialized "java/lang/IllegalArgumentException", Cond.methodLink RX4 71 yX4_studentAt, Cond.instanceMethod yX4_studentAt, Cond.selects RX4 yX4_studentAt yX4_studentAt, Cond.code yX4_studentAt cX4_studentAt 3 (some (.object "TermBill$Student")), Cond.classLink RX4 116 "java/lang/IndexOutOfBoundsException", Cond.initialized "java/lang/IndexOutOfBoundsException", Cond.fieldLink RX4 11 "TermBill" "students" "[LTermBill$Student;", Cond.methodLink RX4 53 yX4_isWithin, Cond.static yX4_isWithin, Cond.code yX4_isWithin cX4_isWithin 3 (some .boolean), Cond.methodLink RX4 202 yX4_chargesOf, Cond.instanceMethod yX4_chargesOf, Cond.selects RX4 yX4_chargesOf yX4_chargesOf, Cond.code yX4_chargesOf cX4_chargesOf 5 (some .int), Cond.fieldLink RX4 77 "TermBill$Student" "level" "I"]
def wsL_charged_r2 : List Cond := [Cond.fieldLink RX4 80 "TermBill$Student" "isResident" "Z", Cond.fieldLink RX4 97 "TermBill$Student" "courses" "LTermBill$Courses;", Cond.fieldLink RX4 237 "TermBill$Courses" "keptSum" "I", Cond.fieldLink RX4 132 "TermBill$Student" "fees" "I", Cond.fieldLink RX4 135 "TermBill$Student" "housing" "I", Cond.methodLink RX4 48 yX4_placeOfRate, Cond.static yX4_placeOfRate, Cond.code yX4_placeOfRate cX4_placeOfRate 2 (some .int), Cond.methodLink RX4 225 yX4_rateAt, Cond.instanceMethod yX4_rateAt, Cond.selects RX4 yX4_rateAt yX4_rateAt, Cond.code yX4_rateAt cX4_rateAt 2 (some .int), Cond.fieldLink RX4 15 "TermBill" "rates" "[I", Cond.methodLink RX4 199 yX1_total, Cond.instanceMethod yX1_total, Cond.selects RX1 yX1_total yX1_total, Cond.initialized RX1, Cond.code yX1_total cX1_total 3 (some .int), Cond.fieldLink RX1 9 "TermBill$Courses" "creditsByCourse" "[I", Cond.methodLink RX4 228 yX4_priceOf, Cond.instanceMethod yX4_priceOf, Cond.selects RX4 yX4_priceOf yX4_priceOf, Cond.code yX4_priceOf cX4_priceOf 3 (some .int), Cond.fieldLink RX4 22 "TermBill" "bandFrom" "I"]
def wsL_charged_r3 : List Cond := [Cond.fieldLink RX4 26 "TermBill" "bandTo" "I"]
def wsL_charged : List Cond := .codeWith yL_charged cL_charged 5 (some .int) [(0, 10, 13, 30), (0, 10, 17, 13)] :: ((wsL_charged_r1 ++ (wsL_charged_r2 ++ wsL_charged_r3)) ++ wsX40 ++ wsX30 ++ wsX10 ++ (vx_atS RX4 61 "java/lang/IllegalArgumentException" ["java/lang/RuntimeException", "java/lang/Exception"]).filter goodWord ++ (vx_atS RX4 120 "java/lang/IndexOutOfBoundsException" ["java/lang/RuntimeException", "java/lang/Exception"]).filter goodWord)
def wsL_sponsored_r1 : List Cond := [Cond.classLink RL 30 "java/lang/IndexOutOfBoundsException", Cond.methodLink RL 71 yX4_sponsored, Cond.instanceMethod yX4_sponsored, Cond.selects RX4 yX4_sponsored yX4_sponsored, Cond.initialized RX4, Cond.code yX4_sponsored cX4_sponsored 2 (some .int), Cond.methodLink RX4 71 yX4_studentAt, Cond.instanceMethod yX4_studentAt, Cond.selects RX4 yX4_studentAt yX4_studentAt, Cond.code yX4_studentAt cX4_studentAt 3 (some (.object "TermBill$Student")), Cond.classLink RX4 116 "java/lang/IndexOutOfBoundsException", Cond.initialized "java/lang/IndexOutOfBoundsException", Cond.fieldLink RX4 11 "TermBill" "students" "[LTermBill$Student;", Cond.methodLink RX4 205 yX4_sponsorPart, Cond.instanceMethod yX4_sponsorPart, Cond.selects RX4 yX4_sponsorPart yX4_sponsorPart, Cond.code yX4_sponsorPart cX4_sponsorPart 2 (some .int), Cond.fieldLink RX4 89 "TermBill$Student" "sponsorKinds" "I", Cond.fieldLink RX4 92 "TermBill$Student" "sponsorLimit" "I", Cond.methodLink RX4 240 Lib.Math.min.name, Cond.static Lib.Math.min.name, Cond.initialized "java/lang/Math", Cond.code Lib.Math.min.name Lib.Math.min.code 2 (some .int), Cond.methodLink RX4 202 yX4_chargesOf]
def wsL_sponsored_r2 : List Cond := [Cond.instanceMethod yX4_chargesOf, Cond.selects RX4 yX4_chargesOf yX4_chargesOf, Cond.code yX4_chargesOf cX4_chargesOf 5 (some .int), Cond.fieldLink RX4 77 "TermBill$Student" "level" "I", Cond.fieldLink RX4 80 "TermBill$Student" "isResident" "Z", Cond.fieldLink RX4 97 "TermBill$Student" "courses" "LTermBill$Courses;", Cond.fieldLink RX4 237 "TermBill$Courses" "keptSum" "I", Cond.fieldLink RX4 132 "TermBill$Student" "fees" "I", Cond.fieldLink RX4 135 "TermBill$Student" "housing" "I", Cond.methodLink RX4 48 yX4_placeOfRate, Cond.static yX4_placeOfRate, Cond.code yX4_placeOfRate cX4_placeOfRate 2 (some .int), Cond.methodLink RX4 225 yX4_rateAt, Cond.instanceMethod yX4_rateAt, Cond.selects RX4 yX4_rateAt yX4_rateAt, Cond.code yX4_rateAt cX4_rateAt 2 (some .int), Cond.fieldLink RX4 15 "TermBill" "rates" "[I", Cond.methodLink RX4 199 yX1_total, Cond.instanceMethod yX1_total, Cond.selects RX1 yX1_total yX1_total, Cond.initialized RX1, Cond.code yX1_total cX1_total 3 (some .int), Cond.fieldLink RX1 9 "TermBill$Courses" "creditsByCourse" "[I", Cond.methodLink RX4 228 yX4_priceOf]
def wsL_sponsored_r3 : List Cond := [Cond.instanceMethod yX4_priceOf, Cond.selects RX4 yX4_priceOf yX4_priceOf, Cond.code yX4_priceOf cX4_priceOf 3 (some .int), Cond.fieldLink RX4 22 "TermBill" "bandFrom" "I", Cond.fieldLink RX4 26 "TermBill" "bandTo" "I"]
def wsL_sponsored : List Cond := .codeWith yL_sponsored cL_sponsored 4 (some .int) [(0, 9, 12, 30)] :: ((wsL_sponsored_r1 ++ (wsL_sponsored_r2 ++ wsL_sponsored_r3)) ++ wsX40 ++ wsX30 ++ wsX10 ++ (vx_atS RX4 120 "java/lang/IndexOutOfBoundsException" ["java/lang/RuntimeException", "java/lang/Exception"]).filter goodWord)
def wsL_used_r1 : List Cond := [Cond.classLink RL 30 "java/lang/IndexOutOfBoundsException", Cond.methodLink RL 74 yX4_used, Cond.instanceMethod yX4_used, Cond.selects RX4 yX4_used yX4_used, Cond.initialized RX4, Cond.code yX4_used cX4_used 4 (some .int), Cond.classLink RX4 116 "java/lang/IndexOutOfBoundsException", Cond.initialized "java/lang/IndexOutOfBoundsException", Cond.fieldLink RX4 140 "TermBill$Student" "aid" "LTermBill$Aid;", Cond.fieldLink RX4 84 "TermBill$Student" "need" "I", Cond.methodLink RX4 71 yX4_studentAt, Cond.instanceMethod yX4_studentAt, Cond.selects RX4 yX4_studentAt yX4_studentAt, Cond.code yX4_studentAt cX4_studentAt 3 (some (.object "TermBill$Student")), Cond.fieldLink RX4 11 "TermBill" "students" "[LTermBill$Student;", Cond.methodLink RX4 208 yX0_has, Cond.instanceMethod yX0_has, Cond.selects RX0 yX0_has yX0_has, Cond.initialized RX0, Cond.code yX0_has cX0_has 2 (some .boolean), Cond.fieldLink RX0 21 "TermBill$Aid" "many" "I", Cond.methodLink RX4 211 yX4_unsponsored, Cond.instanceMethod yX4_unsponsored, Cond.selects RX4 yX4_unsponsored yX4_unsponsored]
def wsL_used_r2 : List Cond := [Cond.code yX4_unsponsored cX4_unsponsored 2 (some .int), Cond.methodLink RX4 202 yX4_chargesOf, Cond.instanceMethod yX4_chargesOf, Cond.selects RX4 yX4_chargesOf yX4_chargesOf, Cond.code yX4_chargesOf cX4_chargesOf 5 (some .int), Cond.fieldLink RX4 77 "TermBill$Student" "level" "I", Cond.fieldLink RX4 80 "TermBill$Student" "isResident" "Z", Cond.fieldLink RX4 97 "TermBill$Student" "courses" "LTermBill$Courses;", Cond.fieldLink RX4 237 "TermBill$Courses" "keptSum" "I", Cond.fieldLink RX4 132 "TermBill$Student" "fees" "I", Cond.fieldLink RX4 135 "TermBill$Student" "housing" "I", Cond.methodLink RX4 48 yX4_placeOfRate, Cond.static yX4_placeOfRate, Cond.code yX4_placeOfRate cX4_placeOfRate 2 (some .int), Cond.methodLink RX4 225 yX4_rateAt, Cond.instanceMethod yX4_rateAt, Cond.selects RX4 yX4_rateAt yX4_rateAt, Cond.code yX4_rateAt cX4_rateAt 2 (some .int), Cond.fieldLink RX4 15 "TermBill" "rates" "[I", Cond.methodLink RX4 199 yX1_total, Cond.instanceMethod yX1_total, Cond.selects RX1 yX1_total yX1_total, Cond.initialized RX1, Cond.code yX1_total cX1_total 3 (some .int)]
def wsL_used_r3 : List Cond := [Cond.fieldLink RX1 9 "TermBill$Courses" "creditsByCourse" "[I", Cond.methodLink RX4 228 yX4_priceOf, Cond.instanceMethod yX4_priceOf, Cond.selects RX4 yX4_priceOf yX4_priceOf, Cond.code yX4_priceOf cX4_priceOf 3 (some .int), Cond.fieldLink RX4 22 "TermBill" "bandFrom" "I", Cond.fieldLink RX4 26 "TermBill" "bandTo" "I", Cond.methodLink RX4 205 yX4_sponsorPart, Cond.instanceMethod yX4_sponsorPart, Cond.selects RX4 yX4_sponsorPart yX4_sponsorPart, Cond.code yX4_sponsorPart cX4_sponsorPart 2 (some .int), Cond.fieldLink RX4 89 "TermBill$Student" "sponsorKinds" "I", Cond.fieldLink RX4 92 "TermBill$Student" "sponsorLimit" "I", Cond.methodLink RX4 240 Lib.Math.min.name, Cond.static Lib.Math.min.name, Cond.initialized "java/lang/Math", Cond.code Lib.Math.min.name Lib.Math.min.code 2 (some .int), Cond.methodLink RX4 214 yX0_cover, Cond.instanceMethod yX0_cover, Cond.selects RX0 yX0_cover yX0_cover, Cond.code yX0_cover cX0_cover 8 (some .int), Cond.fieldLink RX0 9 "TermBill$Aid" "ranks" "[I", Cond.methodLink RX0 25 Lib.Math.min.name, Cond.fieldLink RX0 18 "TermBill$Aid" "uses" "[I"]
def wsL_used_r4 : List Cond := [Cond.fieldLink RX0 15 "TermBill$Aid" "amounts" "[I", Cond.methodLink RX4 217 yX0_useOf, Cond.instanceMethod yX0_useOf, Cond.selects RX0 yX0_useOf yX0_useOf, Cond.code yX0_useOf cX0_useOf 2 (some .int)]
def wsL_used : List Cond := .codeWith yL_used cL_used 5 (some .int) [(0, 10, 13, 30)] :: ((wsL_used_r1 ++ (wsL_used_r2 ++ (wsL_used_r3 ++ wsL_used_r4))) ++ wsX30 ++ wsX40 ++ wsX00 ++ wsX10 ++ (vx_atS RX4 120 "java/lang/IndexOutOfBoundsException" ["java/lang/RuntimeException", "java/lang/Exception"]).filter goodWord)
def wsL_amountOf_r1 : List Cond := [Cond.classLink RL 30 "java/lang/IndexOutOfBoundsException", Cond.methodLink RL 77 yX4_amountOf, Cond.instanceMethod yX4_amountOf, Cond.selects RX4 yX4_amountOf yX4_amountOf, Cond.initialized RX4, Cond.code yX4_amountOf cX4_amountOf 4 (some .int), Cond.classLink RX4 116 "java/lang/IndexOutOfBoundsException", Cond.initialized "java/lang/IndexOutOfBoundsException", Cond.fieldLink RX4 140 "TermBill$Student" "aid" "LTermBill$Aid;", Cond.methodLink RX4 71 yX4_studentAt, Cond.instanceMethod yX4_studentAt, Cond.selects RX4 yX4_studentAt yX4_studentAt, Cond.code yX4_studentAt cX4_studentAt 3 (some (.object "TermBill$Student")), Cond.fieldLink RX4 11 "TermBill" "students" "[LTermBill$Student;", Cond.methodLink RX4 208 yX0_has, Cond.instanceMethod yX0_has, Cond.selects RX0 yX0_has yX0_has, Cond.initialized RX0, Cond.code yX0_has cX0_has 2 (some .boolean), Cond.fieldLink RX0 21 "TermBill$Aid" "many" "I", Cond.methodLink RX4 220 yX0_sumOf, Cond.instanceMethod yX0_sumOf, Cond.selects RX0 yX0_sumOf yX0_sumOf, Cond.code yX0_sumOf cX0_sumOf 2 (some .int)]
def wsL_amountOf_r2 : List Cond := [Cond.fieldLink RX0 15 "TermBill$Aid" "amounts" "[I"]
def wsL_amountOf : List Cond := .codeWith yL_amountOf cL_amountOf 5 (some .int) [(0, 10, 13, 30)] :: ((wsL_amountOf_r1 ++ wsL_amountOf_r2) ++ wsX30 ++ wsX40 ++ wsX00 ++ (vx_atS RX4 120 "java/lang/IndexOutOfBoundsException" ["java/lang/RuntimeException", "java/lang/Exception"]).filter goodWord)
def wsL_paid : List Cond := .codeWith yL_paid cL_paid 4 (some .int) [(0, 9, 12, 30)] :: ([.classLink RL 30 "java/lang/IndexOutOfBoundsException", .methodLink RL 80 yX4_paid, .instanceMethod yX4_paid, .selects RX4 yX4_paid yX4_paid, .initialized RX4, .code yX4_paid cX4_paid 2 (some .int), .fieldLink RX4 153 "TermBill$Student" "paidSum" "I", .methodLink RX4 71 yX4_studentAt, .instanceMethod yX4_studentAt, .selects RX4 yX4_studentAt yX4_studentAt, .code yX4_studentAt cX4_studentAt 3 (some (.object "TermBill$Student")), .classLink RX4 116 "java/lang/IndexOutOfBoundsException", .initialized "java/lang/IndexOutOfBoundsException", .fieldLink RX4 11 "TermBill" "students" "[LTermBill$Student;"] ++ wsX30 ++ wsX40 ++ (vx_atS RX4 120 "java/lang/IndexOutOfBoundsException" ["java/lang/RuntimeException", "java/lang/Exception"]).filter goodWord)
def wsL_owed_r1 : List Cond := [Cond.classLink RL 30 "java/lang/IndexOutOfBoundsException", Cond.methodLink RL 83 yX4_owed, Cond.instanceMethod yX4_owed, Cond.selects RX4 yX4_owed yX4_owed, Cond.initialized RX4, Cond.code yX4_owed cX4_owed 2 (some .int), Cond.methodLink RX4 71 yX4_studentAt, Cond.instanceMethod yX4_studentAt, Cond.selects RX4 yX4_studentAt yX4_studentAt, Cond.code yX4_studentAt cX4_studentAt 3 (some (.object "TermBill$Student")), Cond.classLink RX4 116 "java/lang/IndexOutOfBoundsException", Cond.initialized "java/lang/IndexOutOfBoundsException", Cond.fieldLink RX4 11 "TermBill" "students" "[LTermBill$Student;", Cond.methodLink RX4 165 yX4_balanceOf, Cond.instanceMethod yX4_balanceOf, Cond.selects RX4 yX4_balanceOf yX4_balanceOf, Cond.code yX4_balanceOf cX4_balanceOf 3 (some .int), Cond.fieldLink RX4 140 "TermBill$Student" "aid" "LTermBill$Aid;", Cond.fieldLink RX4 84 "TermBill$Student" "need" "I", Cond.fieldLink RX4 153 "TermBill$Student" "paidSum" "I", Cond.methodLink RX4 211 yX4_unsponsored, Cond.instanceMethod yX4_unsponsored, Cond.selects RX4 yX4_unsponsored yX4_unsponsored, Cond.code yX4_unsponsored cX4_unsponsored 2 (some .int)]
def wsL_owed_r2 : List Cond := [Cond.methodLink RX4 202 yX4_chargesOf, Cond.instanceMethod yX4_chargesOf, Cond.selects RX4 yX4_chargesOf yX4_chargesOf, Cond.code yX4_chargesOf cX4_chargesOf 5 (some .int), Cond.fieldLink RX4 77 "TermBill$Student" "level" "I", Cond.fieldLink RX4 80 "TermBill$Student" "isResident" "Z", Cond.fieldLink RX4 97 "TermBill$Student" "courses" "LTermBill$Courses;", Cond.fieldLink RX4 237 "TermBill$Courses" "keptSum" "I", Cond.fieldLink RX4 132 "TermBill$Student" "fees" "I", Cond.fieldLink RX4 135 "TermBill$Student" "housing" "I", Cond.methodLink RX4 48 yX4_placeOfRate, Cond.static yX4_placeOfRate, Cond.code yX4_placeOfRate cX4_placeOfRate 2 (some .int), Cond.methodLink RX4 225 yX4_rateAt, Cond.instanceMethod yX4_rateAt, Cond.selects RX4 yX4_rateAt yX4_rateAt, Cond.code yX4_rateAt cX4_rateAt 2 (some .int), Cond.fieldLink RX4 15 "TermBill" "rates" "[I", Cond.methodLink RX4 199 yX1_total, Cond.instanceMethod yX1_total, Cond.selects RX1 yX1_total yX1_total, Cond.initialized RX1, Cond.code yX1_total cX1_total 3 (some .int), Cond.fieldLink RX1 9 "TermBill$Courses" "creditsByCourse" "[I"]
def wsL_owed_r3 : List Cond := [Cond.methodLink RX4 228 yX4_priceOf, Cond.instanceMethod yX4_priceOf, Cond.selects RX4 yX4_priceOf yX4_priceOf, Cond.code yX4_priceOf cX4_priceOf 3 (some .int), Cond.fieldLink RX4 22 "TermBill" "bandFrom" "I", Cond.fieldLink RX4 26 "TermBill" "bandTo" "I", Cond.methodLink RX4 205 yX4_sponsorPart, Cond.instanceMethod yX4_sponsorPart, Cond.selects RX4 yX4_sponsorPart yX4_sponsorPart, Cond.code yX4_sponsorPart cX4_sponsorPart 2 (some .int), Cond.fieldLink RX4 89 "TermBill$Student" "sponsorKinds" "I", Cond.fieldLink RX4 92 "TermBill$Student" "sponsorLimit" "I", Cond.methodLink RX4 240 Lib.Math.min.name, Cond.static Lib.Math.min.name, Cond.initialized "java/lang/Math", Cond.code Lib.Math.min.name Lib.Math.min.code 2 (some .int), Cond.methodLink RX4 214 yX0_cover, Cond.instanceMethod yX0_cover, Cond.selects RX0 yX0_cover yX0_cover, Cond.initialized RX0, Cond.code yX0_cover cX0_cover 8 (some .int), Cond.fieldLink RX0 9 "TermBill$Aid" "ranks" "[I", Cond.methodLink RX0 25 Lib.Math.min.name, Cond.fieldLink RX0 18 "TermBill$Aid" "uses" "[I"]
def wsL_owed_r4 : List Cond := [Cond.fieldLink RX0 15 "TermBill$Aid" "amounts" "[I"]
def wsL_owed : List Cond := .codeWith yL_owed cL_owed 4 (some .int) [(0, 9, 12, 30)] :: ((wsL_owed_r1 ++ (wsL_owed_r2 ++ (wsL_owed_r3 ++ wsL_owed_r4))) ++ wsX40 ++ wsX30 ++ wsX10 ++ wsX00 ++ (vx_atS RX4 120 "java/lang/IndexOutOfBoundsException" ["java/lang/RuntimeException", "java/lang/Exception"]).filter goodWord)
def wsL_hasHold_r1 : List Cond := [Cond.classLink RL 30 "java/lang/IndexOutOfBoundsException", Cond.methodLink RL 86 yX4_hasHold, Cond.instanceMethod yX4_hasHold, Cond.selects RX4 yX4_hasHold yX4_hasHold, Cond.initialized RX4, Cond.code yX4_hasHold cX4_hasHold 2 (some .boolean), Cond.fieldLink RX4 32 "TermBill" "holdLimit" "I", Cond.methodLink RX4 71 yX4_studentAt, Cond.instanceMethod yX4_studentAt, Cond.selects RX4 yX4_studentAt yX4_studentAt, Cond.code yX4_studentAt cX4_studentAt 3 (some (.object "TermBill$Student")), Cond.classLink RX4 116 "java/lang/IndexOutOfBoundsException", Cond.initialized "java/lang/IndexOutOfBoundsException", Cond.fieldLink RX4 11 "TermBill" "students" "[LTermBill$Student;", Cond.methodLink RX4 165 yX4_balanceOf, Cond.instanceMethod yX4_balanceOf, Cond.selects RX4 yX4_balanceOf yX4_balanceOf, Cond.code yX4_balanceOf cX4_balanceOf 3 (some .int), Cond.fieldLink RX4 140 "TermBill$Student" "aid" "LTermBill$Aid;", Cond.fieldLink RX4 84 "TermBill$Student" "need" "I", Cond.fieldLink RX4 153 "TermBill$Student" "paidSum" "I", Cond.methodLink RX4 211 yX4_unsponsored, Cond.instanceMethod yX4_unsponsored, Cond.selects RX4 yX4_unsponsored yX4_unsponsored]
def wsL_hasHold_r2 : List Cond := [Cond.code yX4_unsponsored cX4_unsponsored 2 (some .int), Cond.methodLink RX4 202 yX4_chargesOf, Cond.instanceMethod yX4_chargesOf, Cond.selects RX4 yX4_chargesOf yX4_chargesOf, Cond.code yX4_chargesOf cX4_chargesOf 5 (some .int), Cond.fieldLink RX4 77 "TermBill$Student" "level" "I", Cond.fieldLink RX4 80 "TermBill$Student" "isResident" "Z", Cond.fieldLink RX4 97 "TermBill$Student" "courses" "LTermBill$Courses;", Cond.fieldLink RX4 237 "TermBill$Courses" "keptSum" "I", Cond.fieldLink RX4 132 "TermBill$Student" "fees" "I", Cond.fieldLink RX4 135 "TermBill$Student" "housing" "I", Cond.methodLink RX4 48 yX4_placeOfRate, Cond.static yX4_placeOfRate, Cond.code yX4_placeOfRate cX4_placeOfRate 2 (some .int), Cond.methodLink RX4 225 yX4_rateAt, Cond.instanceMethod yX4_rateAt, Cond.selects RX4 yX4_rateAt yX4_rateAt, Cond.code yX4_rateAt cX4_rateAt 2 (some .int), Cond.fieldLink RX4 15 "TermBill" "rates" "[I", Cond.methodLink RX4 199 yX1_total, Cond.instanceMethod yX1_total, Cond.selects RX1 yX1_total yX1_total, Cond.initialized RX1, Cond.code yX1_total cX1_total 3 (some .int)]
def wsL_hasHold_r3 : List Cond := [Cond.fieldLink RX1 9 "TermBill$Courses" "creditsByCourse" "[I", Cond.methodLink RX4 228 yX4_priceOf, Cond.instanceMethod yX4_priceOf, Cond.selects RX4 yX4_priceOf yX4_priceOf, Cond.code yX4_priceOf cX4_priceOf 3 (some .int), Cond.fieldLink RX4 22 "TermBill" "bandFrom" "I", Cond.fieldLink RX4 26 "TermBill" "bandTo" "I", Cond.methodLink RX4 205 yX4_sponsorPart, Cond.instanceMethod yX4_sponsorPart, Cond.selects RX4 yX4_sponsorPart yX4_sponsorPart, Cond.code yX4_sponsorPart cX4_sponsorPart 2 (some .int), Cond.fieldLink RX4 89 "TermBill$Student" "sponsorKinds" "I", Cond.fieldLink RX4 92 "TermBill$Student" "sponsorLimit" "I", Cond.methodLink RX4 240 Lib.Math.min.name, Cond.static Lib.Math.min.name, Cond.initialized "java/lang/Math", Cond.code Lib.Math.min.name Lib.Math.min.code 2 (some .int), Cond.methodLink RX4 214 yX0_cover, Cond.instanceMethod yX0_cover, Cond.selects RX0 yX0_cover yX0_cover, Cond.initialized RX0, Cond.code yX0_cover cX0_cover 8 (some .int), Cond.fieldLink RX0 9 "TermBill$Aid" "ranks" "[I", Cond.methodLink RX0 25 Lib.Math.min.name]
def wsL_hasHold_r4 : List Cond := [Cond.fieldLink RX0 18 "TermBill$Aid" "uses" "[I", Cond.fieldLink RX0 15 "TermBill$Aid" "amounts" "[I"]
def wsL_hasHold : List Cond := .codeWith yL_hasHold cL_hasHold 4 (some .int) [(0, 16, 19, 30)] :: ((wsL_hasHold_r1 ++ (wsL_hasHold_r2 ++ (wsL_hasHold_r3 ++ wsL_hasHold_r4))) ++ wsX40 ++ wsX30 ++ wsX10 ++ wsX00 ++ (vx_atS RX4 120 "java/lang/IndexOutOfBoundsException" ["java/lang/RuntimeException", "java/lang/Exception"]).filter goodWord)
def wsL_law0_r1 : List Cond := [Cond.classLink RL 8 RX4, Cond.instantiable RX4 9, Cond.initialized RX4, Cond.classLink RL 91 RX5, Cond.instantiable RX5 29, Cond.initialized RX5, Cond.arrayClass .long, Cond.methodLink RL 90 yX4_init, Cond.instanceMethod yX4_init, Cond.code yX4_init cX4_init 2 none, Cond.methodLink RX4 3 objectInit, Cond.instanceMethod objectInit, Cond.code objectInit ⟨#[0xb1]⟩ 1 none, Cond.classLink RX4 9 RX3, Cond.fieldLink RX4 11 "TermBill" "students" "[LTermBill$Student;", Cond.arrayClass .int, Cond.fieldLink RX4 15 "TermBill" "rates" "[I", Cond.fieldLink RX4 19 "TermBill" "shares" "[I", Cond.fieldLink RX4 22 "TermBill" "bandFrom" "I", Cond.fieldLink RX4 26 "TermBill" "bandTo" "I", Cond.fieldLink RX4 29 "TermBill" "lateFee" "I", Cond.fieldLink RX4 32 "TermBill" "holdLimit" "I", Cond.fieldLink RX4 35 "TermBill" "week" "I", Cond.fieldLink RX4 38 "TermBill" "term" "I"]
def wsL_law0_r2 : List Cond := [Cond.instantiable RX3 11, Cond.initialized RX3, Cond.instanceMethod yX3_init, Cond.code yX3_init cX3_init 1 none, Cond.methodLink RX3 1 objectInit, Cond.classLink RX3 7 RX1, Cond.instantiable RX1 3, Cond.initialized RX1, Cond.fieldLink RX3 10 "TermBill$Student" "courses" "LTermBill$Courses;", Cond.classLink RX3 16 RX0, Cond.instantiable RX0 4, Cond.initialized RX0, Cond.fieldLink RX3 19 "TermBill$Student" "aid" "LTermBill$Aid;", Cond.classLink RX3 23 RX2, Cond.instantiable RX2 5, Cond.initialized RX2, Cond.fieldLink RX3 26 "TermBill$Student" "instalments" "LTermBill$Instalments;", Cond.fieldLink RX3 30 "TermBill$Student" "level" "I", Cond.fieldLink RX3 34 "TermBill$Student" "isResident" "Z", Cond.fieldLink RX3 38 "TermBill$Student" "need" "I", Cond.fieldLink RX3 41 "TermBill$Student" "fees" "I", Cond.fieldLink RX3 44 "TermBill$Student" "housing" "I", Cond.fieldLink RX3 47 "TermBill$Student" "sponsorKinds" "I", Cond.fieldLink RX3 50 "TermBill$Student" "sponsorLimit" "I"]
def wsL_law0_r3 : List Cond := [Cond.fieldLink RX3 53 "TermBill$Student" "paidSum" "I", Cond.instanceMethod yX1_init, Cond.code yX1_init cX1_init 1 none, Cond.methodLink RX1 3 objectInit, Cond.fieldLink RX1 9 "TermBill$Courses" "creditsByCourse" "[I", Cond.fieldLink RX1 15 "TermBill$Courses" "taken" "I", Cond.fieldLink RX1 19 "TermBill$Courses" "keptSum" "I", Cond.instanceMethod yX0_init, Cond.code yX0_init cX0_init 1 none, Cond.methodLink RX0 3 objectInit, Cond.fieldLink RX0 9 "TermBill$Aid" "ranks" "[I", Cond.fieldLink RX0 15 "TermBill$Aid" "amounts" "[I", Cond.fieldLink RX0 18 "TermBill$Aid" "uses" "[I", Cond.fieldLink RX0 21 "TermBill$Aid" "many" "I", Cond.instanceMethod yX2_init, Cond.code yX2_init cX2_init 1 none, Cond.methodLink RX2 3 objectInit, Cond.fieldLink RX2 9 "TermBill$Instalments" "madeAt" "I", Cond.fieldLink RX2 15 "TermBill$Instalments" "many" "I", Cond.fieldLink RX2 18 "TermBill$Instalments" "first" "I", Cond.fieldLink RX2 21 "TermBill$Instalments" "each" "I", Cond.fieldLink RX2 24 "TermBill$Instalments" "paidSince" "I", Cond.methodLink RX4 42 yJ7_fill_53178, Cond.static yJ7_fill_53178]
def wsL_law0_r4 : List Cond := [Cond.initialized RJ7, Cond.code yJ7_fill_53178 cJ7_fill_53178 4 none, Cond.methodLink RL 93 yX5_init, Cond.instanceMethod yX5_init, Cond.code yX5_init cX5_init 2 none, Cond.methodLink RX5 1 objectInit, Cond.fieldLink RX5 7 "TermBillModel" "rates" "[I", Cond.fieldLink RX5 13 "TermBillModel" "from" "I", Cond.fieldLink RX5 17 "TermBillModel" "to" "I", Cond.fieldLink RX5 20 "TermBillModel" "table" "[I", Cond.fieldLink RX5 23 "TermBillModel" "lateFee" "I", Cond.fieldLink RX5 26 "TermBillModel" "levels" "[I", Cond.arrayClass .boolean, Cond.fieldLink RX5 29 "TermBillModel" "areResident" "[Z", Cond.fieldLink RX5 33 "TermBillModel" "needs" "[I", Cond.fieldLink RX5 36 "TermBillModel" "sponsorKinds" "[I", Cond.fieldLink RX5 39 "TermBillModel" "sponsorLimits" "[I", Cond.fieldLink RX5 42 "TermBillModel" "courses" "[I", Cond.fieldLink RX5 45 "TermBillModel" "credits" "[I", Cond.fieldLink RX5 48 "TermBillModel" "areDropped" "[Z", Cond.fieldLink RX5 51 "TermBillModel" "kept" "[I", Cond.fieldLink RX5 54 "TermBillModel" "fees" "[I", Cond.fieldLink RX5 57 "TermBillModel" "housing" "[I", Cond.fieldLink RX5 60 "TermBillModel" "awards" "[I"]
def wsL_law0_r5 : List Cond := [Cond.fieldLink RX5 63 "TermBillModel" "ranks" "[I", Cond.fieldLink RX5 66 "TermBillModel" "amounts" "[I", Cond.fieldLink RX5 69 "TermBillModel" "paid" "[I", Cond.fieldLink RX5 72 "TermBillModel" "planned" "[I", Cond.fieldLink RX5 75 "TermBillModel" "parts" "[I", Cond.fieldLink RX5 78 "TermBillModel" "rests" "[I", Cond.fieldLink RX5 81 "TermBillModel" "madeAt" "[I", Cond.fieldLink RX5 84 "TermBillModel" "since" "[I", Cond.methodLink RL 94 yL_setRate, Cond.static yL_setRate, Cond.initialized RL, Cond.codeWith yL_setRate cL_setRate 6 (some .int) [(0, 12, 15, 13)], Cond.classLink RL 13 "java/lang/IllegalArgumentException", Cond.methodLink RL 7 yX4_setRate, Cond.instanceMethod yX4_setRate, Cond.selects RX4 yX4_setRate yX4_setRate, Cond.code yX4_setRate cX4_setRate 6 (some .int), Cond.classLink RX4 57 "java/lang/IllegalArgumentException", Cond.initialized "java/lang/IllegalArgumentException", Cond.constant RX4 52 (100000), Cond.methodLink RX4 48 yX4_placeOfRate, Cond.static yX4_placeOfRate, Cond.code yX4_placeOfRate cX4_placeOfRate 2 (some .int), Cond.methodLink RX4 53 yX4_isWithin]
def wsL_law0_r6 : List Cond := [Cond.static yX4_isWithin, Cond.code yX4_isWithin cX4_isWithin 3 (some .boolean), Cond.methodLink RL 99 yX5_setRate, Cond.instanceMethod yX5_setRate, Cond.selects RX5 yX5_setRate yX5_setRate, Cond.code yX5_setRate cX5_setRate 5 (some .int), Cond.constant RX5 94 (100000), Cond.methodLink RX5 90 yX5_in, Cond.static yX5_in, Cond.code yX5_in cX5_in 3 (some .boolean), Cond.methodLink RX5 95 yX5_holds, Cond.instanceMethod yX5_holds, Cond.selects RX5 yX5_holds yX5_holds, Cond.code yX5_holds cX5_holds 2 (some .boolean), Cond.fieldLink RX5 87 "TermBillModel" "thrown" "I", Cond.methodLink RX5 99 yX5_rateOf, Cond.static yX5_rateOf, Cond.code yX5_rateOf cX5_rateOf 2 (some .int), Cond.methodLink RL 100 yX5_thrown, Cond.instanceMethod yX5_thrown, Cond.selects RX5 yX5_thrown yX5_thrown, Cond.code yX5_thrown cX5_thrown 1 (some .int), Cond.methodLink RL 103 yL_setBand, Cond.static yL_setBand]
def wsL_law0_r7 : List Cond := [Cond.codeWith yL_setBand cL_setBand 4 (some .int) [(0, 6, 9, 13)], Cond.methodLink RL 15 yX4_setBand, Cond.instanceMethod yX4_setBand, Cond.selects RX4 yX4_setBand yX4_setBand, Cond.code yX4_setBand cX4_setBand 3 none, Cond.methodLink RL 106 yX5_setBand, Cond.instanceMethod yX5_setBand, Cond.selects RX5 yX5_setBand yX5_setBand, Cond.code yX5_setBand cX5_setBand 3 none, Cond.methodLink RL 107 yL_setShare, Cond.static yL_setShare, Cond.codeWith yL_setShare cL_setShare 5 (some .int) [(0, 10, 13, 13)], Cond.methodLink RL 19 yX4_setShare, Cond.instanceMethod yX4_setShare, Cond.selects RX4 yX4_setShare yX4_setShare, Cond.code yX4_setShare cX4_setShare 4 (some .int), Cond.methodLink RL 110 yX5_setShare, Cond.instanceMethod yX5_setShare, Cond.selects RX5 yX5_setShare yX5_setShare, Cond.code yX5_setShare cX5_setShare 4 (some .int), Cond.methodLink RL 111 yL_setFees, Cond.static yL_setFees, Cond.codeWith yL_setFees cL_setFees 4 (some .int) [(0, 6, 9, 13)], Cond.methodLink RL 23 yX4_setFees]
def wsL_law0_r8 : List Cond := [Cond.instanceMethod yX4_setFees, Cond.selects RX4 yX4_setFees yX4_setFees, Cond.code yX4_setFees cX4_setFees 3 none, Cond.constant RX4 68 (1000000), Cond.methodLink RL 113 yX5_setFees, Cond.instanceMethod yX5_setFees, Cond.selects RX5 yX5_setFees yX5_setFees, Cond.code yX5_setFees cX5_setFees 3 none, Cond.constant RX5 103 (1000000), Cond.fieldLink RX5 104 "TermBillModel" "limit" "I", Cond.methodLink RL 114 yL_setStudent, Cond.static yL_setStudent, Cond.codeWith yL_setStudent cL_setStudent 6 (some .int) [(0, 9, 12, 30), (0, 9, 16, 13)], Cond.classLink RL 30 "java/lang/IndexOutOfBoundsException", Cond.methodLink RL 26 yX4_setStudent, Cond.instanceMethod yX4_setStudent, Cond.selects RX4 yX4_setStudent yX4_setStudent, Cond.code yX4_setStudent cX4_setStudent 6 none, Cond.fieldLink RX4 77 "TermBill$Student" "level" "I", Cond.fieldLink RX4 80 "TermBill$Student" "isResident" "Z", Cond.fieldLink RX4 84 "TermBill$Student" "need" "I", Cond.methodLink RX4 71 yX4_studentAt, Cond.instanceMethod yX4_studentAt, Cond.selects RX4 yX4_studentAt yX4_studentAt]
def wsL_law0_r9 : List Cond := [Cond.code yX4_studentAt cX4_studentAt 3 (some (.object "TermBill$Student")), Cond.classLink RX4 116 "java/lang/IndexOutOfBoundsException", Cond.initialized "java/lang/IndexOutOfBoundsException", Cond.methodLink RL 117 yX5_setStudent, Cond.instanceMethod yX5_setStudent, Cond.selects RX5 yX5_setStudent yX5_setStudent, Cond.code yX5_setStudent cX5_setStudent 5 none, Cond.methodLink RX5 107 yX5_isStudent, Cond.static yX5_isStudent, Cond.code yX5_isStudent cX5_isStudent 1 (some .boolean), Cond.methodLink RL 118 yL_setSponsor, Cond.static yL_setSponsor, Cond.codeWith yL_setSponsor cL_setSponsor 5 (some .int) [(0, 7, 10, 30), (0, 7, 14, 13)], Cond.methodLink RL 32 yX4_setSponsor, Cond.instanceMethod yX4_setSponsor, Cond.selects RX4 yX4_setSponsor yX4_setSponsor, Cond.code yX4_setSponsor cX4_setSponsor 5 none, Cond.fieldLink RX4 89 "TermBill$Student" "sponsorKinds" "I", Cond.fieldLink RX4 92 "TermBill$Student" "sponsorLimit" "I", Cond.methodLink RL 121 yX5_setSponsor, Cond.instanceMethod yX5_setSponsor, Cond.selects RX5 yX5_setSponsor yX5_setSponsor, Cond.code yX5_setSponsor cX5_setSponsor 4 none, Cond.methodLink RL 122 yL_take]
def wsL_law0_r10 : List Cond := [Cond.static yL_take, Cond.codeWith yL_take cL_take 5 (some .int) [(0, 10, 13, 30), (0, 10, 17, 13), (0, 10, 21, 39)], Cond.classLink RL 39 "java/lang/IllegalStateException", Cond.methodLink RL 36 yX4_take, Cond.instanceMethod yX4_take, Cond.selects RX4 yX4_take yX4_take, Cond.code yX4_take cX4_take 5 (some .int), Cond.classLink RX4 107 "java/lang/IllegalStateException", Cond.initialized "java/lang/IllegalStateException", Cond.fieldLink RX4 97 "TermBill$Student" "courses" "LTermBill$Courses;", Cond.methodLink RX4 101 yX1_add, Cond.instanceMethod yX1_add, Cond.selects RX1 yX1_add yX1_add, Cond.code yX1_add cX1_add 2 (some .int), Cond.methodLink RL 124 yX5_take, Cond.instanceMethod yX5_take, Cond.selects RX5 yX5_take yX5_take, Cond.code yX5_take cX5_take 4 (some .int), Cond.methodLink RL 125 yL_drop, Cond.static yL_drop, Cond.codeWith yL_drop cL_drop 5 (some .int) [(0, 10, 13, 30), (0, 10, 17, 39)], Cond.methodLink RL 41 yX4_drop, Cond.instanceMethod yX4_drop, Cond.selects RX4 yX4_drop yX4_drop]
def wsL_law0_r11 : List Cond := [Cond.code yX4_drop cX4_drop 4 (some .int), Cond.methodLink RX4 112 yX1_has, Cond.instanceMethod yX1_has, Cond.selects RX1 yX1_has yX1_has, Cond.code yX1_has cX1_has 2 (some .boolean), Cond.methodLink RX4 121 yX1_creditsOf, Cond.instanceMethod yX1_creditsOf, Cond.selects RX1 yX1_creditsOf yX1_creditsOf, Cond.code yX1_creditsOf cX1_creditsOf 2 (some .int), Cond.methodLink RX4 126 yX4_dropCourse, Cond.instanceMethod yX4_dropCourse, Cond.selects RX4 yX4_dropCourse yX4_dropCourse, Cond.code yX4_dropCourse cX4_dropCourse 7 (some .int), Cond.fieldLink RX4 237 "TermBill$Courses" "keptSum" "I", Cond.methodLink RX4 225 yX4_rateAt, Cond.instanceMethod yX4_rateAt, Cond.selects RX4 yX4_rateAt yX4_rateAt, Cond.code yX4_rateAt cX4_rateAt 2 (some .int), Cond.methodLink RX4 199 yX1_total, Cond.instanceMethod yX1_total, Cond.selects RX1 yX1_total yX1_total, Cond.code yX1_total cX1_total 3 (some .int), Cond.methodLink RX4 228 yX4_priceOf, Cond.instanceMethod yX4_priceOf]
def wsL_law0_r12 : List Cond := [Cond.selects RX4 yX4_priceOf yX4_priceOf, Cond.code yX4_priceOf cX4_priceOf 3 (some .int), Cond.methodLink RX4 231 yX1_remove, Cond.instanceMethod yX1_remove, Cond.selects RX1 yX1_remove yX1_remove, Cond.code yX1_remove cX1_remove 2 none, Cond.methodLink RX4 234 yX4_shareNow, Cond.instanceMethod yX4_shareNow, Cond.selects RX4 yX4_shareNow yX4_shareNow, Cond.code yX4_shareNow cX4_shareNow 1 (some .int), Cond.methodLink RL 127 yX5_drop, Cond.instanceMethod yX5_drop, Cond.selects RX5 yX5_drop yX5_drop, Cond.code yX5_drop cX5_drop 4 (some .int), Cond.methodLink RX5 138 yX5_drops, Cond.instanceMethod yX5_drops, Cond.selects RX5 yX5_drops yX5_drops, Cond.code yX5_drops cX5_drops 5 (some .int), Cond.fieldLink RX5 133 "TermBillModel" "week" "I", Cond.constantLong RX5 136 (100), Cond.methodLink RX5 110 yX5_creditsOf, Cond.instanceMethod yX5_creditsOf, Cond.selects RX5 yX5_creditsOf yX5_creditsOf, Cond.code yX5_creditsOf cX5_creditsOf 4 (some .int)]
def wsL_law0_r13 : List Cond := [Cond.methodLink RX5 114 yX5_price, Cond.instanceMethod yX5_price, Cond.selects RX5 yX5_price yX5_price, Cond.code yX5_price cX5_price 4 (some .int), Cond.methodLink RL 128 yL_charge, Cond.static yL_charge, Cond.codeWith yL_charge cL_charge 6 (some .int) [(0, 12, 15, 30), (0, 12, 19, 13)], Cond.methodLink RL 44 yX4_charge, Cond.instanceMethod yX4_charge, Cond.selects RX4 yX4_charge yX4_charge, Cond.code yX4_charge cX4_charge 5 (some .int), Cond.fieldLink RX4 132 "TermBill$Student" "fees" "I", Cond.fieldLink RX4 135 "TermBill$Student" "housing" "I", Cond.methodLink RL 131 yX5_charge, Cond.instanceMethod yX5_charge, Cond.selects RX5 yX5_charge yX5_charge, Cond.code yX5_charge cX5_charge 4 (some .int), Cond.methodLink RX5 118 yX5_chargedOf, Cond.instanceMethod yX5_chargedOf, Cond.selects RX5 yX5_chargedOf yX5_chargedOf, Cond.code yX5_chargedOf cX5_chargedOf 3 (some .int), Cond.methodLink RL 132 yL_award, Cond.static yL_award, Cond.codeWith yL_award cL_award 6 (some .int) [(0, 12, 15, 30), (0, 12, 19, 13), (0, 12, 23, 39)]]
def wsL_law0_r14 : List Cond := [Cond.methodLink RL 48 yX4_award, Cond.instanceMethod yX4_award, Cond.selects RX4 yX4_award yX4_award, Cond.code yX4_award cX4_award 6 (some .int), Cond.fieldLink RX4 140 "TermBill$Student" "aid" "LTermBill$Aid;", Cond.methodLink RX4 144 yX0_add, Cond.instanceMethod yX0_add, Cond.selects RX0 yX0_add yX0_add, Cond.code yX0_add cX0_add 3 (some .int), Cond.methodLink RL 134 yX5_award, Cond.instanceMethod yX5_award, Cond.selects RX5 yX5_award yX5_award, Cond.code yX5_award cX5_award 5 (some .int), Cond.methodLink RL 135 yL_pay, Cond.static yL_pay, Cond.codeWith yL_pay cL_pay 5 (some .int) [(0, 10, 13, 30), (0, 10, 17, 13)], Cond.methodLink RL 51 yX4_pay, Cond.instanceMethod yX4_pay, Cond.selects RX4 yX4_pay yX4_pay, Cond.code yX4_pay cX4_pay 4 (some .int), Cond.fieldLink RX4 153 "TermBill$Student" "paidSum" "I", Cond.fieldLink RX4 156 "TermBill$Student" "instalments" "LTermBill$Instalments;", Cond.fieldLink RX4 160 "TermBill$Instalments" "paidSince" "I", Cond.methodLink RX4 165 yX4_balanceOf]
def wsL_law0_r15 : List Cond := [Cond.instanceMethod yX4_balanceOf, Cond.selects RX4 yX4_balanceOf yX4_balanceOf, Cond.code yX4_balanceOf cX4_balanceOf 3 (some .int), Cond.methodLink RX4 211 yX4_unsponsored, Cond.instanceMethod yX4_unsponsored, Cond.selects RX4 yX4_unsponsored yX4_unsponsored, Cond.code yX4_unsponsored cX4_unsponsored 2 (some .int), Cond.methodLink RX4 202 yX4_chargesOf, Cond.instanceMethod yX4_chargesOf, Cond.selects RX4 yX4_chargesOf yX4_chargesOf, Cond.code yX4_chargesOf cX4_chargesOf 5 (some .int), Cond.methodLink RX4 205 yX4_sponsorPart, Cond.instanceMethod yX4_sponsorPart, Cond.selects RX4 yX4_sponsorPart yX4_sponsorPart, Cond.code yX4_sponsorPart cX4_sponsorPart 2 (some .int), Cond.methodLink RX4 240 Lib.Math.min.name, Cond.static Lib.Math.min.name, Cond.initialized "java/lang/Math", Cond.code Lib.Math.min.name Lib.Math.min.code 2 (some .int), Cond.methodLink RX4 214 yX0_cover, Cond.instanceMethod yX0_cover, Cond.selects RX0 yX0_cover yX0_cover, Cond.code yX0_cover cX0_cover 8 (some .int), Cond.methodLink RX0 25 Lib.Math.min.name]
def wsL_law0_r16 : List Cond := [Cond.methodLink RL 137 yX5_pay, Cond.instanceMethod yX5_pay, Cond.selects RX5 yX5_pay yX5_pay, Cond.code yX5_pay cX5_pay 3 (some .int), Cond.methodLink RX5 141 yX5_owedOf, Cond.instanceMethod yX5_owedOf, Cond.selects RX5 yX5_owedOf yX5_owedOf, Cond.code yX5_owedOf cX5_owedOf 2 (some .int), Cond.methodLink RX5 124 yX5_all, Cond.instanceMethod yX5_all, Cond.selects RX5 yX5_all yX5_all, Cond.code yX5_all cX5_all 2 (some .int), Cond.methodLink RX5 127 yX5_sponsoredOf, Cond.instanceMethod yX5_sponsoredOf, Cond.selects RX5 yX5_sponsoredOf yX5_sponsoredOf, Cond.code yX5_sponsoredOf cX5_sponsoredOf 4 (some .int), Cond.methodLink RX5 121 yX5_least, Cond.static yX5_least, Cond.code yX5_least cX5_least 2 (some .int), Cond.methodLink RX5 130 yX5_usedOf, Cond.instanceMethod yX5_usedOf, Cond.selects RX5 yX5_usedOf yX5_usedOf, Cond.code yX5_usedOf cX5_usedOf 11 (some .int), Cond.methodLink RL 138 yL_plan]
def wsL_law0_r17 : List Cond := [Cond.static yL_plan, Cond.codeWith yL_plan cL_plan 5 (some .int) [(0, 10, 13, 30), (0, 10, 17, 13), (0, 10, 21, 39)], Cond.methodLink RL 54 yX4_plan, Cond.instanceMethod yX4_plan, Cond.selects RX4 yX4_plan yX4_plan, Cond.code yX4_plan cX4_plan 7 (some .int), Cond.methodLink RX4 173 yX4_weekNumber, Cond.instanceMethod yX4_weekNumber, Cond.selects RX4 yX4_weekNumber yX4_weekNumber, Cond.code yX4_weekNumber cX4_weekNumber 1 (some .int), Cond.methodLink RX4 177 yX2_start, Cond.instanceMethod yX2_start, Cond.selects RX2 yX2_start yX2_start, Cond.code yX2_start cX2_start 5 none, Cond.methodLink RL 140 yX5_plan, Cond.instanceMethod yX5_plan, Cond.selects RX5 yX5_plan yX5_plan, Cond.code yX5_plan cX5_plan 4 (some .int), Cond.fieldLink RX5 144 "TermBillModel" "term" "I", Cond.methodLink RL 141 yL_leave, Cond.static yL_leave, Cond.codeWith yL_leave cL_leave 4 (some .int) [(0, 9, 12, 30)], Cond.methodLink RL 57 yX4_leave, Cond.instanceMethod yX4_leave]
def wsL_law0_r18 : List Cond := [Cond.selects RX4 yX4_leave yX4_leave, Cond.code yX4_leave cX4_leave 4 (some .int), Cond.methodLink RX4 181 yX0_total, Cond.instanceMethod yX0_total, Cond.selects RX0 yX0_total yX0_total, Cond.code yX0_total cX0_total 3 (some .int), Cond.methodLink RX4 184 yX4_aidToGiveBack, Cond.instanceMethod yX4_aidToGiveBack, Cond.selects RX4 yX4_aidToGiveBack yX4_aidToGiveBack, Cond.code yX4_aidToGiveBack cX4_aidToGiveBack 2 (some .int), Cond.methodLink RX4 187 yX0_takeOff, Cond.instanceMethod yX0_takeOff, Cond.selects RX0 yX0_takeOff yX0_takeOff, Cond.code yX0_takeOff cX0_takeOff 6 none, Cond.methodLink RL 144 yX5_leave, Cond.instanceMethod yX5_leave, Cond.selects RX5 yX5_leave yX5_leave, Cond.code yX5_leave cX5_leave 9 (some .int), Cond.methodLink RL 145 yL_closeWeek, Cond.static yL_closeWeek, Cond.codeWith yL_closeWeek cL_closeWeek 3 (some .int) [(0, 8, 11, 39)], Cond.methodLink RL 61 yX4_closeWeek, Cond.instanceMethod yX4_closeWeek, Cond.selects RX4 yX4_closeWeek yX4_closeWeek]
def wsL_law0_r19 : List Cond := [Cond.code yX4_closeWeek cX4_closeWeek 1 (some .int), Cond.methodLink RX4 193 yX4_endTerm, Cond.instanceMethod yX4_endTerm, Cond.selects RX4 yX4_endTerm yX4_endTerm, Cond.code yX4_endTerm cX4_endTerm 7 none, Cond.methodLink RX4 245 yX4_carriedTo, Cond.static yX4_carriedTo, Cond.code yX4_carriedTo cX4_carriedTo 2 (some .int), Cond.methodLink RX4 248 yX3_beginTerm, Cond.instanceMethod yX3_beginTerm, Cond.selects RX3 yX3_beginTerm yX3_beginTerm, Cond.code yX3_beginTerm cX3_beginTerm 2 none, Cond.methodLink RX3 60 Lib.Math.max.name, Cond.static Lib.Math.max.name, Cond.code Lib.Math.max.name Lib.Math.max.code 2 (some .int), Cond.methodLink RX3 56 yX1_clear, Cond.instanceMethod yX1_clear, Cond.selects RX1 yX1_clear yX1_clear, Cond.code yX1_clear cX1_clear 1 none, Cond.methodLink RX1 22 yJ7_fill_53178, Cond.methodLink RX3 59 yX0_clear, Cond.instanceMethod yX0_clear, Cond.selects RX0 yX0_clear yX0_clear, Cond.code yX0_clear cX0_clear 1 none]
def wsL_law0_r20 : List Cond := [Cond.methodLink RX0 31 yJ7_fill_53178, Cond.methodLink RX4 196 yX4_chargeLateFees, Cond.instanceMethod yX4_chargeLateFees, Cond.selects RX4 yX4_chargeLateFees yX4_chargeLateFees, Cond.code yX4_chargeLateFees cX4_chargeLateFees 3 none, Cond.methodLink RX4 251 yX2_isLateAt, Cond.instanceMethod yX2_isLateAt, Cond.selects RX2 yX2_isLateAt yX2_isLateAt, Cond.code yX2_isLateAt cX2_isLateAt 4 (some .boolean), Cond.methodLink RL 148 yX5_closeWeek, Cond.instanceMethod yX5_closeWeek, Cond.selects RX5 yX5_closeWeek yX5_closeWeek, Cond.code yX5_closeWeek cX5_closeWeek 2 (some .int), Cond.methodLink RX5 151 yX5_endsTerm, Cond.instanceMethod yX5_endsTerm, Cond.selects RX5 yX5_endsTerm yX5_endsTerm, Cond.code yX5_endsTerm cX5_endsTerm 3 none, Cond.methodLink RX5 147 yX5_carries, Cond.instanceMethod yX5_carries, Cond.selects RX5 yX5_carries yX5_carries, Cond.code yX5_carries cX5_carries 6 none, Cond.methodLink RX5 154 yX5_falls, Cond.instanceMethod yX5_falls, Cond.selects RX5 yX5_falls yX5_falls]
def wsL_law0_r21 : List Cond := [Cond.code yX5_falls cX5_falls 4 none, Cond.methodLink RL 149 yX4_week, Cond.instanceMethod yX4_week, Cond.selects RX4 yX4_week yX4_week, Cond.code yX4_week cX4_week 1 (some .int), Cond.methodLink RL 152 yX5_week, Cond.instanceMethod yX5_week, Cond.selects RX5 yX5_week yX5_week, Cond.code yX5_week cX5_week 1 (some .int), Cond.methodLink RL 153 yX4_term, Cond.instanceMethod yX4_term, Cond.selects RX4 yX4_term yX4_term, Cond.code yX4_term cX4_term 1 (some .int), Cond.methodLink RL 156 yX5_term, Cond.instanceMethod yX5_term, Cond.selects RX5 yX5_term yX5_term, Cond.code yX5_term cX5_term 1 (some .int), Cond.methodLink RL 157 yL_credits, Cond.static yL_credits, Cond.codeWith yL_credits cL_credits 4 (some .int) [(0, 9, 12, 30)], Cond.methodLink RL 65 yX4_credits, Cond.instanceMethod yX4_credits, Cond.selects RX4 yX4_credits yX4_credits, Cond.code yX4_credits cX4_credits 2 (some .int)]
def wsL_law0_r22 : List Cond := [Cond.methodLink RL 159 yX5_credits, Cond.instanceMethod yX5_credits, Cond.selects RX5 yX5_credits yX5_credits, Cond.code yX5_credits cX5_credits 2 (some .int), Cond.methodLink RL 160 yL_charged, Cond.static yL_charged, Cond.codeWith yL_charged cL_charged 5 (some .int) [(0, 10, 13, 30), (0, 10, 17, 13)], Cond.methodLink RL 68 yX4_charged, Cond.instanceMethod yX4_charged, Cond.selects RX4 yX4_charged yX4_charged, Cond.code yX4_charged cX4_charged 4 (some .int), Cond.methodLink RL 162 yX5_charged, Cond.instanceMethod yX5_charged, Cond.selects RX5 yX5_charged yX5_charged, Cond.code yX5_charged cX5_charged 3 (some .int), Cond.methodLink RL 163 yL_sponsored, Cond.static yL_sponsored, Cond.codeWith yL_sponsored cL_sponsored 4 (some .int) [(0, 9, 12, 30)], Cond.methodLink RL 71 yX4_sponsored, Cond.instanceMethod yX4_sponsored, Cond.selects RX4 yX4_sponsored yX4_sponsored, Cond.code yX4_sponsored cX4_sponsored 2 (some .int), Cond.methodLink RL 165 yX5_sponsored, Cond.instanceMethod yX5_sponsored]
def wsL_law0_r23 : List Cond := [Cond.selects RX5 yX5_sponsored yX5_sponsored, Cond.code yX5_sponsored cX5_sponsored 2 (some .int), Cond.methodLink RL 166 yL_used, Cond.static yL_used, Cond.codeWith yL_used cL_used 5 (some .int) [(0, 10, 13, 30)], Cond.methodLink RL 74 yX4_used, Cond.instanceMethod yX4_used, Cond.selects RX4 yX4_used yX4_used, Cond.code yX4_used cX4_used 4 (some .int), Cond.methodLink RX4 208 yX0_has, Cond.instanceMethod yX0_has, Cond.selects RX0 yX0_has yX0_has, Cond.code yX0_has cX0_has 2 (some .boolean), Cond.methodLink RX4 217 yX0_useOf, Cond.instanceMethod yX0_useOf, Cond.selects RX0 yX0_useOf yX0_useOf, Cond.code yX0_useOf cX0_useOf 2 (some .int), Cond.methodLink RL 168 yX5_used, Cond.instanceMethod yX5_used, Cond.selects RX5 yX5_used yX5_used, Cond.code yX5_used cX5_used 3 (some .int), Cond.methodLink RX5 158 yX5_isAward, Cond.instanceMethod yX5_isAward, Cond.selects RX5 yX5_isAward yX5_isAward]
def wsL_law0_r24 : List Cond := [Cond.code yX5_isAward cX5_isAward 3 (some .boolean), Cond.methodLink RL 169 yL_amountOf, Cond.static yL_amountOf, Cond.codeWith yL_amountOf cL_amountOf 5 (some .int) [(0, 10, 13, 30)], Cond.methodLink RL 77 yX4_amountOf, Cond.instanceMethod yX4_amountOf, Cond.selects RX4 yX4_amountOf yX4_amountOf, Cond.code yX4_amountOf cX4_amountOf 4 (some .int), Cond.methodLink RX4 220 yX0_sumOf, Cond.instanceMethod yX0_sumOf, Cond.selects RX0 yX0_sumOf yX0_sumOf, Cond.code yX0_sumOf cX0_sumOf 2 (some .int), Cond.methodLink RL 171 yX5_amountOf, Cond.instanceMethod yX5_amountOf, Cond.selects RX5 yX5_amountOf yX5_amountOf, Cond.code yX5_amountOf cX5_amountOf 3 (some .int), Cond.methodLink RL 172 yL_paid, Cond.static yL_paid, Cond.codeWith yL_paid cL_paid 4 (some .int) [(0, 9, 12, 30)], Cond.methodLink RL 80 yX4_paid, Cond.instanceMethod yX4_paid, Cond.selects RX4 yX4_paid yX4_paid, Cond.code yX4_paid cX4_paid 2 (some .int), Cond.methodLink RL 174 yX5_paid]
def wsL_law0_r25 : List Cond := [Cond.instanceMethod yX5_paid, Cond.selects RX5 yX5_paid yX5_paid, Cond.code yX5_paid cX5_paid 2 (some .int), Cond.methodLink RL 175 yL_owed, Cond.static yL_owed, Cond.codeWith yL_owed cL_owed 4 (some .int) [(0, 9, 12, 30)], Cond.methodLink RL 83 yX4_owed, Cond.instanceMethod yX4_owed, Cond.selects RX4 yX4_owed yX4_owed, Cond.code yX4_owed cX4_owed 2 (some .int), Cond.methodLink RL 177 yX5_owed, Cond.instanceMethod yX5_owed, Cond.selects RX5 yX5_owed yX5_owed, Cond.code yX5_owed cX5_owed 2 (some .int), Cond.methodLink RL 178 yL_hasHold, Cond.static yL_hasHold, Cond.codeWith yL_hasHold cL_hasHold 4 (some .int) [(0, 16, 19, 30)], Cond.methodLink RL 86 yX4_hasHold, Cond.instanceMethod yX4_hasHold, Cond.selects RX4 yX4_hasHold yX4_hasHold, Cond.code yX4_hasHold cX4_hasHold 2 (some .boolean), Cond.methodLink RL 180 yX5_hasHold, Cond.instanceMethod yX5_hasHold, Cond.selects RX5 yX5_hasHold yX5_hasHold]
def wsL_law0_r26 : List Cond := [Cond.code yX5_hasHold cX5_hasHold 2 (some .boolean)]
def wsL_law0 : List Cond := (wsL_law0_r1 ++ (wsL_law0_r2 ++ (wsL_law0_r3 ++ (wsL_law0_r4 ++ (wsL_law0_r5 ++ (wsL_law0_r6 ++ (wsL_law0_r7 ++ (wsL_law0_r8 ++ (wsL_law0_r9 ++ (wsL_law0_r10 ++ (wsL_law0_r11 ++ (wsL_law0_r12 ++ (wsL_law0_r13 ++ (wsL_law0_r14 ++ (wsL_law0_r15 ++ (wsL_law0_r16 ++ (wsL_law0_r17 ++ (wsL_law0_r18 ++ (wsL_law0_r19 ++ (wsL_law0_r20 ++ (wsL_law0_r21 ++ (wsL_law0_r22 ++ (wsL_law0_r23 ++ (wsL_law0_r24 ++ (wsL_law0_r25 ++ wsL_law0_r26))))))))))))))))))))))))) ++ wsX40 ++ wsX50 ++ wsX30 ++ wsX10 ++ wsX00 ++ wsX20 ++ ([] : List Cond)
def wsL_law : List Cond := wsL_law0 ++ (vx_atS RX4 61 "java/lang/IllegalArgumentException" ["java/lang/RuntimeException", "java/lang/Exception"]).filter goodWord ++ (vx_atS RX4 120 "java/lang/IndexOutOfBoundsException" ["java/lang/RuntimeException", "java/lang/Exception"]).filter goodWord ++ (vx_atS RX4 111 "java/lang/IllegalStateException" ["java/lang/RuntimeException", "java/lang/Exception"]).filter goodWord
abbrev vwCl : List vw_C := [(RX0, TX0, 4), (RX1, TX1, 3), (RX2, TX2, 5), (RX3, TX3, 11), (RX4, TX4, 9), (RX5, TX5, 29)]
end
section
theorem dX0_init_0 : decode cX0_init 0 = .ok (.aload_n 0, 1) := by decide +kernel
theorem dX0_init_1 : decode cX0_init 1 = .ok (.invokespecial 3, 3) := by decide +kernel
theorem dX0_init_4 : decode cX0_init 4 = .ok (.aload_n 0, 1) := by decide +kernel
theorem dX0_init_5 : decode cX0_init 5 = .ok (.bipush 6, 2) := by decide +kernel
theorem dX0_init_7 : decode cX0_init 7 = .ok (.newarray .int, 2) := by decide +kernel
theorem dX0_init_9 : decode cX0_init 9 = .ok (.putfield 9, 3) := by decide +kernel
theorem dX0_init_12 : decode cX0_init 12 = .ok (.aload_n 0, 1) := by decide +kernel
theorem dX0_init_13 : decode cX0_init 13 = .ok (.bipush 6, 2) := by decide +kernel
theorem dX0_init_15 : decode cX0_init 15 = .ok (.newarray .int, 2) := by decide +kernel
theorem dX0_init_17 : decode cX0_init 17 = .ok (.putfield 15, 3) := by decide +kernel
theorem dX0_init_20 : decode cX0_init 20 = .ok (.aload_n 0, 1) := by decide +kernel
theorem dX0_init_21 : decode cX0_init 21 = .ok (.bipush 6, 2) := by decide +kernel
theorem dX0_init_23 : decode cX0_init 23 = .ok (.newarray .int, 2) := by decide +kernel
theorem dX0_init_25 : decode cX0_init 25 = .ok (.putfield 18, 3) := by decide +kernel
theorem dX0_init_28 : decode cX0_init 28 = .ok (.aload_n 0, 1) := by decide +kernel
theorem dX0_init_29 : decode cX0_init 29 = .ok (.iconst 0, 1) := by decide +kernel
theorem dX0_init_30 : decode cX0_init 30 = .ok (.putfield 21, 3) := by decide +kernel
theorem dX0_init_33 : decode cX0_init 33 = .ok (.return_, 1) := by decide +kernel
theorem dX0_add_0 : decode cX0_add 0 = .ok (.aload_n 0, 1) := by decide +kernel
theorem dX0_add_1 : decode cX0_add 1 = .ok (.getfield 21, 3) := by decide +kernel
theorem dX0_add_4 : decode cX0_add 4 = .ok (.ifCond .lt 12, 3) := by decide +kernel
theorem dX0_add_7 : decode cX0_add 7 = .ok (.aload_n 0, 1) := by decide +kernel
theorem dX0_add_8 : decode cX0_add 8 = .ok (.getfield 21, 3) := by decide +kernel
theorem dX0_add_11 : decode cX0_add 11 = .ok (.bipush 6, 2) := by decide +kernel
theorem dX0_add_13 : decode cX0_add 13 = .ok (.if_icmp .lt 5, 3) := by decide +kernel
theorem dX0_add_16 : decode cX0_add 16 = .ok (.iconst (-1), 1) := by decide +kernel
theorem dX0_add_17 : decode cX0_add 17 = .ok (.ireturn, 1) := by decide +kernel
theorem dX0_add_18 : decode cX0_add 18 = .ok (.aload_n 0, 1) := by decide +kernel
theorem dX0_add_19 : decode cX0_add 19 = .ok (.getfield 9, 3) := by decide +kernel
theorem dX0_add_22 : decode cX0_add 22 = .ok (.aload_n 0, 1) := by decide +kernel
theorem dX0_add_23 : decode cX0_add 23 = .ok (.getfield 21, 3) := by decide +kernel
theorem dX0_add_26 : decode cX0_add 26 = .ok (.iload_n 1, 1) := by decide +kernel
theorem dX0_add_27 : decode cX0_add 27 = .ok (.iastore, 1) := by decide +kernel
theorem dX0_add_28 : decode cX0_add 28 = .ok (.aload_n 0, 1) := by decide +kernel
theorem dX0_add_29 : decode cX0_add 29 = .ok (.getfield 15, 3) := by decide +kernel
theorem dX0_add_32 : decode cX0_add 32 = .ok (.aload_n 0, 1) := by decide +kernel
theorem dX0_add_33 : decode cX0_add 33 = .ok (.getfield 21, 3) := by decide +kernel
theorem dX0_add_36 : decode cX0_add 36 = .ok (.iload_n 2, 1) := by decide +kernel
theorem dX0_add_37 : decode cX0_add 37 = .ok (.iastore, 1) := by decide +kernel
theorem dX0_add_38 : decode cX0_add 38 = .ok (.aload_n 0, 1) := by decide +kernel
theorem dX0_add_39 : decode cX0_add 39 = .ok (.dup, 1) := by decide +kernel
theorem dX0_add_40 : decode cX0_add 40 = .ok (.getfield 21, 3) := by decide +kernel
theorem dX0_add_43 : decode cX0_add 43 = .ok (.iconst 1, 1) := by decide +kernel
theorem dX0_add_44 : decode cX0_add 44 = .ok (.iadd, 1) := by decide +kernel
theorem dX0_add_45 : decode cX0_add 45 = .ok (.putfield 21, 3) := by decide +kernel
theorem dX0_add_48 : decode cX0_add 48 = .ok (.aload_n 0, 1) := by decide +kernel
theorem dX0_add_49 : decode cX0_add 49 = .ok (.getfield 21, 3) := by decide +kernel
theorem dX0_add_52 : decode cX0_add 52 = .ok (.iconst 1, 1) := by decide +kernel
theorem dX0_add_53 : decode cX0_add 53 = .ok (.isub, 1) := by decide +kernel
theorem dX0_add_54 : decode cX0_add 54 = .ok (.ireturn, 1) := by decide +kernel
theorem dX0_has_0 : decode cX0_has 0 = .ok (.iload_n 1, 1) := by decide +kernel
theorem dX0_has_1 : decode cX0_has 1 = .ok (.ifCond .lt 15, 3) := by decide +kernel
theorem dX0_has_4 : decode cX0_has 4 = .ok (.iload_n 1, 1) := by decide +kernel
theorem dX0_has_5 : decode cX0_has 5 = .ok (.aload_n 0, 1) := by decide +kernel
theorem dX0_has_6 : decode cX0_has 6 = .ok (.getfield 21, 3) := by decide +kernel
theorem dX0_has_9 : decode cX0_has 9 = .ok (.if_icmp .ge 7, 3) := by decide +kernel
theorem dX0_has_12 : decode cX0_has 12 = .ok (.iconst 1, 1) := by decide +kernel
theorem dX0_has_13 : decode cX0_has 13 = .ok (.goto 4, 3) := by decide +kernel
theorem dX0_has_16 : decode cX0_has 16 = .ok (.iconst 0, 1) := by decide +kernel
theorem dX0_has_17 : decode cX0_has 17 = .ok (.ireturn, 1) := by decide +kernel
theorem dX0_sumOf_0 : decode cX0_sumOf 0 = .ok (.iload_n 1, 1) := by decide +kernel
theorem dX0_sumOf_1 : decode cX0_sumOf 1 = .ok (.ifCond .lt 21, 3) := by decide +kernel
theorem dX0_sumOf_4 : decode cX0_sumOf 4 = .ok (.iload_n 1, 1) := by decide +kernel
theorem dX0_sumOf_5 : decode cX0_sumOf 5 = .ok (.aload_n 0, 1) := by decide +kernel
theorem dX0_sumOf_6 : decode cX0_sumOf 6 = .ok (.getfield 15, 3) := by decide +kernel
theorem dX0_sumOf_9 : decode cX0_sumOf 9 = .ok (.arraylength, 1) := by decide +kernel
theorem dX0_sumOf_10 : decode cX0_sumOf 10 = .ok (.if_icmp .ge 12, 3) := by decide +kernel
theorem dX0_sumOf_13 : decode cX0_sumOf 13 = .ok (.aload_n 0, 1) := by decide +kernel
theorem dX0_sumOf_14 : decode cX0_sumOf 14 = .ok (.getfield 15, 3) := by decide +kernel
theorem dX0_sumOf_17 : decode cX0_sumOf 17 = .ok (.iload_n 1, 1) := by decide +kernel
theorem dX0_sumOf_18 : decode cX0_sumOf 18 = .ok (.iaload, 1) := by decide +kernel
theorem dX0_sumOf_19 : decode cX0_sumOf 19 = .ok (.goto 4, 3) := by decide +kernel
theorem dX0_sumOf_22 : decode cX0_sumOf 22 = .ok (.iconst 0, 1) := by decide +kernel
theorem dX0_sumOf_23 : decode cX0_sumOf 23 = .ok (.ireturn, 1) := by decide +kernel
theorem dX0_useOf_0 : decode cX0_useOf 0 = .ok (.iload_n 1, 1) := by decide +kernel
theorem dX0_useOf_1 : decode cX0_useOf 1 = .ok (.ifCond .lt 21, 3) := by decide +kernel
theorem dX0_useOf_4 : decode cX0_useOf 4 = .ok (.iload_n 1, 1) := by decide +kernel
theorem dX0_useOf_5 : decode cX0_useOf 5 = .ok (.aload_n 0, 1) := by decide +kernel
theorem dX0_useOf_6 : decode cX0_useOf 6 = .ok (.getfield 18, 3) := by decide +kernel
theorem dX0_useOf_9 : decode cX0_useOf 9 = .ok (.arraylength, 1) := by decide +kernel
theorem dX0_useOf_10 : decode cX0_useOf 10 = .ok (.if_icmp .ge 12, 3) := by decide +kernel
theorem dX0_useOf_13 : decode cX0_useOf 13 = .ok (.aload_n 0, 1) := by decide +kernel
theorem dX0_useOf_14 : decode cX0_useOf 14 = .ok (.getfield 18, 3) := by decide +kernel
theorem dX0_useOf_17 : decode cX0_useOf 17 = .ok (.iload_n 1, 1) := by decide +kernel
theorem dX0_useOf_18 : decode cX0_useOf 18 = .ok (.iaload, 1) := by decide +kernel
theorem dX0_useOf_19 : decode cX0_useOf 19 = .ok (.goto 4, 3) := by decide +kernel
theorem dX0_useOf_22 : decode cX0_useOf 22 = .ok (.iconst 0, 1) := by decide +kernel
theorem dX0_useOf_23 : decode cX0_useOf 23 = .ok (.ireturn, 1) := by decide +kernel
theorem dX0_total_0 : decode cX0_total 0 = .ok (.iconst 0, 1) := by decide +kernel
theorem dX0_total_1 : decode cX0_total 1 = .ok (.istore_n 1, 1) := by decide +kernel
theorem dX0_total_2 : decode cX0_total 2 = .ok (.iconst 0, 1) := by decide +kernel
theorem dX0_total_3 : decode cX0_total 3 = .ok (.istore_n 2, 1) := by decide +kernel
theorem dX0_total_4 : decode cX0_total 4 = .ok (.iload_n 2, 1) := by decide +kernel
theorem dX0_total_5 : decode cX0_total 5 = .ok (.aload_n 0, 1) := by decide +kernel
theorem dX0_total_6 : decode cX0_total 6 = .ok (.getfield 15, 3) := by decide +kernel
theorem dX0_total_9 : decode cX0_total 9 = .ok (.arraylength, 1) := by decide +kernel
theorem dX0_total_10 : decode cX0_total 10 = .ok (.if_icmp .ge 18, 3) := by decide +kernel
theorem dX0_total_13 : decode cX0_total 13 = .ok (.iload_n 1, 1) := by decide +kernel
theorem dX0_total_14 : decode cX0_total 14 = .ok (.aload_n 0, 1) := by decide +kernel
theorem dX0_total_15 : decode cX0_total 15 = .ok (.getfield 15, 3) := by decide +kernel
theorem dX0_total_18 : decode cX0_total 18 = .ok (.iload_n 2, 1) := by decide +kernel
theorem dX0_total_19 : decode cX0_total 19 = .ok (.iaload, 1) := by decide +kernel
theorem dX0_total_20 : decode cX0_total 20 = .ok (.iadd, 1) := by decide +kernel
theorem dX0_total_21 : decode cX0_total 21 = .ok (.istore_n 1, 1) := by decide +kernel
theorem dX0_total_22 : decode cX0_total 22 = .ok (.iinc 2 1, 3) := by decide +kernel
theorem dX0_total_25 : decode cX0_total 25 = .ok (.goto (-21), 3) := by decide +kernel
theorem dX0_total_28 : decode cX0_total 28 = .ok (.iload_n 1, 1) := by decide +kernel
theorem dX0_total_29 : decode cX0_total 29 = .ok (.ireturn, 1) := by decide +kernel
theorem dX0_cover_0 : decode cX0_cover 0 = .ok (.iload_n 1, 1) := by decide +kernel
theorem dX0_cover_1 : decode cX0_cover 1 = .ok (.istore_n 3, 1) := by decide +kernel
theorem dX0_cover_2 : decode cX0_cover 2 = .ok (.iload_n 2, 1) := by decide +kernel
theorem dX0_cover_3 : decode cX0_cover 3 = .ok (.istore 4, 2) := by decide +kernel
theorem dX0_cover_5 : decode cX0_cover 5 = .ok (.iconst 0, 1) := by decide +kernel
theorem dX0_cover_6 : decode cX0_cover 6 = .ok (.istore 5, 2) := by decide +kernel
theorem dX0_cover_8 : decode cX0_cover 8 = .ok (.iload 5, 2) := by decide +kernel
theorem dX0_cover_10 : decode cX0_cover 10 = .ok (.iconst 2, 1) := by decide +kernel
theorem dX0_cover_11 : decode cX0_cover 11 = .ok (.if_icmp .gt 104, 3) := by decide +kernel
theorem dX0_cover_14 : decode cX0_cover 14 = .ok (.iconst 0, 1) := by decide +kernel
theorem dX0_cover_15 : decode cX0_cover 15 = .ok (.istore 6, 2) := by decide +kernel
theorem dX0_cover_17 : decode cX0_cover 17 = .ok (.iload 6, 2) := by decide +kernel
theorem dX0_cover_19 : decode cX0_cover 19 = .ok (.bipush 6, 2) := by decide +kernel
theorem dX0_cover_21 : decode cX0_cover 21 = .ok (.if_icmp .ge 88, 3) := by decide +kernel
theorem dX0_cover_24 : decode cX0_cover 24 = .ok (.aload_n 0, 1) := by decide +kernel
theorem dX0_cover_25 : decode cX0_cover 25 = .ok (.getfield 9, 3) := by decide +kernel
theorem dX0_cover_28 : decode cX0_cover 28 = .ok (.iload 6, 2) := by decide +kernel
theorem dX0_cover_30 : decode cX0_cover 30 = .ok (.iaload, 1) := by decide +kernel
theorem dX0_cover_31 : decode cX0_cover 31 = .ok (.iload 5, 2) := by decide +kernel
theorem dX0_cover_33 : decode cX0_cover 33 = .ok (.if_icmp .ne 70, 3) := by decide +kernel
theorem dX0_cover_36 : decode cX0_cover 36 = .ok (.iload 5, 2) := by decide +kernel
theorem dX0_cover_38 : decode cX0_cover 38 = .ok (.ifCond .ne 12, 3) := by decide +kernel
theorem dX0_cover_41 : decode cX0_cover 41 = .ok (.iload_n 3, 1) := by decide +kernel
theorem dX0_cover_42 : decode cX0_cover 42 = .ok (.iload 4, 2) := by decide +kernel
theorem dX0_cover_44 : decode cX0_cover 44 = .ok (.invokestatic 25, 3) := by decide +kernel
theorem dX0_cover_47 : decode cX0_cover 47 = .ok (.goto 4, 3) := by decide +kernel
theorem dX0_cover_50 : decode cX0_cover 50 = .ok (.iload_n 3, 1) := by decide +kernel
theorem dX0_cover_51 : decode cX0_cover 51 = .ok (.istore 7, 2) := by decide +kernel
theorem dX0_cover_53 : decode cX0_cover 53 = .ok (.aload_n 0, 1) := by decide +kernel
theorem dX0_cover_54 : decode cX0_cover 54 = .ok (.getfield 18, 3) := by decide +kernel
theorem dX0_cover_57 : decode cX0_cover 57 = .ok (.iload 6, 2) := by decide +kernel
theorem dX0_cover_59 : decode cX0_cover 59 = .ok (.aload_n 0, 1) := by decide +kernel
theorem dX0_cover_60 : decode cX0_cover 60 = .ok (.getfield 15, 3) := by decide +kernel
theorem dX0_cover_63 : decode cX0_cover 63 = .ok (.iload 6, 2) := by decide +kernel
theorem dX0_cover_65 : decode cX0_cover 65 = .ok (.iaload, 1) := by decide +kernel
theorem dX0_cover_66 : decode cX0_cover 66 = .ok (.iload 7, 2) := by decide +kernel
theorem dX0_cover_68 : decode cX0_cover 68 = .ok (.invokestatic 25, 3) := by decide +kernel
theorem dX0_cover_71 : decode cX0_cover 71 = .ok (.iastore, 1) := by decide +kernel
theorem dX0_cover_72 : decode cX0_cover 72 = .ok (.iload_n 3, 1) := by decide +kernel
theorem dX0_cover_73 : decode cX0_cover 73 = .ok (.aload_n 0, 1) := by decide +kernel
theorem dX0_cover_74 : decode cX0_cover 74 = .ok (.getfield 18, 3) := by decide +kernel
theorem dX0_cover_77 : decode cX0_cover 77 = .ok (.iload 6, 2) := by decide +kernel
theorem dX0_cover_79 : decode cX0_cover 79 = .ok (.iaload, 1) := by decide +kernel
theorem dX0_cover_80 : decode cX0_cover 80 = .ok (.isub, 1) := by decide +kernel
theorem dX0_cover_81 : decode cX0_cover 81 = .ok (.istore_n 3, 1) := by decide +kernel
theorem dX0_cover_82 : decode cX0_cover 82 = .ok (.iload 4, 2) := by decide +kernel
theorem dX0_cover_84 : decode cX0_cover 84 = .ok (.iload 5, 2) := by decide +kernel
theorem dX0_cover_86 : decode cX0_cover 86 = .ok (.ifCond .ne 13, 3) := by decide +kernel
theorem dX0_cover_89 : decode cX0_cover 89 = .ok (.aload_n 0, 1) := by decide +kernel
theorem dX0_cover_90 : decode cX0_cover 90 = .ok (.getfield 18, 3) := by decide +kernel
theorem dX0_cover_93 : decode cX0_cover 93 = .ok (.iload 6, 2) := by decide +kernel
theorem dX0_cover_95 : decode cX0_cover 95 = .ok (.iaload, 1) := by decide +kernel
theorem dX0_cover_96 : decode cX0_cover 96 = .ok (.goto 4, 3) := by decide +kernel
theorem dX0_cover_99 : decode cX0_cover 99 = .ok (.iconst 0, 1) := by decide +kernel
theorem dX0_cover_100 : decode cX0_cover 100 = .ok (.isub, 1) := by decide +kernel
theorem dX0_cover_101 : decode cX0_cover 101 = .ok (.istore 4, 2) := by decide +kernel
theorem dX0_cover_103 : decode cX0_cover 103 = .ok (.iinc 6 1, 3) := by decide +kernel
theorem dX0_cover_106 : decode cX0_cover 106 = .ok (.goto (-89), 3) := by decide +kernel
theorem dX0_cover_109 : decode cX0_cover 109 = .ok (.iinc 5 1, 3) := by decide +kernel
theorem dX0_cover_112 : decode cX0_cover 112 = .ok (.goto (-104), 3) := by decide +kernel
theorem dX0_cover_115 : decode cX0_cover 115 = .ok (.iload_n 1, 1) := by decide +kernel
theorem dX0_cover_116 : decode cX0_cover 116 = .ok (.iload_n 3, 1) := by decide +kernel
theorem dX0_cover_117 : decode cX0_cover 117 = .ok (.isub, 1) := by decide +kernel
theorem dX0_cover_118 : decode cX0_cover 118 = .ok (.ireturn, 1) := by decide +kernel
theorem dX0_takeOff_0 : decode cX0_takeOff 0 = .ok (.iload_n 1, 1) := by decide +kernel
theorem dX0_takeOff_1 : decode cX0_takeOff 1 = .ok (.istore_n 2, 1) := by decide +kernel
theorem dX0_takeOff_2 : decode cX0_takeOff 2 = .ok (.iconst 2, 1) := by decide +kernel
theorem dX0_takeOff_3 : decode cX0_takeOff 3 = .ok (.istore_n 3, 1) := by decide +kernel
theorem dX0_takeOff_4 : decode cX0_takeOff 4 = .ok (.iload_n 3, 1) := by decide +kernel
theorem dX0_takeOff_5 : decode cX0_takeOff 5 = .ok (.ifCond .lt 66, 3) := by decide +kernel
theorem dX0_takeOff_8 : decode cX0_takeOff 8 = .ok (.iconst 0, 1) := by decide +kernel
theorem dX0_takeOff_9 : decode cX0_takeOff 9 = .ok (.istore 4, 2) := by decide +kernel
theorem dX0_takeOff_11 : decode cX0_takeOff 11 = .ok (.iload 4, 2) := by decide +kernel
theorem dX0_takeOff_13 : decode cX0_takeOff 13 = .ok (.bipush 6, 2) := by decide +kernel
theorem dX0_takeOff_15 : decode cX0_takeOff 15 = .ok (.if_icmp .ge 50, 3) := by decide +kernel
theorem dX0_takeOff_18 : decode cX0_takeOff 18 = .ok (.aload_n 0, 1) := by decide +kernel
theorem dX0_takeOff_19 : decode cX0_takeOff 19 = .ok (.getfield 9, 3) := by decide +kernel
theorem dX0_takeOff_22 : decode cX0_takeOff 22 = .ok (.iload 4, 2) := by decide +kernel
theorem dX0_takeOff_24 : decode cX0_takeOff 24 = .ok (.iaload, 1) := by decide +kernel
theorem dX0_takeOff_25 : decode cX0_takeOff 25 = .ok (.iload_n 3, 1) := by decide +kernel
theorem dX0_takeOff_26 : decode cX0_takeOff 26 = .ok (.if_icmp .ne 33, 3) := by decide +kernel
theorem dX0_takeOff_29 : decode cX0_takeOff 29 = .ok (.aload_n 0, 1) := by decide +kernel
theorem dX0_takeOff_30 : decode cX0_takeOff 30 = .ok (.getfield 15, 3) := by decide +kernel
theorem dX0_takeOff_33 : decode cX0_takeOff 33 = .ok (.iload 4, 2) := by decide +kernel
theorem dX0_takeOff_35 : decode cX0_takeOff 35 = .ok (.iaload, 1) := by decide +kernel
theorem dX0_takeOff_36 : decode cX0_takeOff 36 = .ok (.iload_n 2, 1) := by decide +kernel
theorem dX0_takeOff_37 : decode cX0_takeOff 37 = .ok (.invokestatic 25, 3) := by decide +kernel
theorem dX0_takeOff_40 : decode cX0_takeOff 40 = .ok (.istore 5, 2) := by decide +kernel
theorem dX0_takeOff_42 : decode cX0_takeOff 42 = .ok (.aload_n 0, 1) := by decide +kernel
theorem dX0_takeOff_43 : decode cX0_takeOff 43 = .ok (.getfield 15, 3) := by decide +kernel
theorem dX0_takeOff_46 : decode cX0_takeOff 46 = .ok (.iload 4, 2) := by decide +kernel
theorem dX0_takeOff_48 : decode cX0_takeOff 48 = .ok (.dup2, 1) := by decide +kernel
theorem dX0_takeOff_49 : decode cX0_takeOff 49 = .ok (.iaload, 1) := by decide +kernel
theorem dX0_takeOff_50 : decode cX0_takeOff 50 = .ok (.iload 5, 2) := by decide +kernel
theorem dX0_takeOff_52 : decode cX0_takeOff 52 = .ok (.isub, 1) := by decide +kernel
theorem dX0_takeOff_53 : decode cX0_takeOff 53 = .ok (.iastore, 1) := by decide +kernel
theorem dX0_takeOff_54 : decode cX0_takeOff 54 = .ok (.iload_n 2, 1) := by decide +kernel
theorem dX0_takeOff_55 : decode cX0_takeOff 55 = .ok (.iload 5, 2) := by decide +kernel
theorem dX0_takeOff_57 : decode cX0_takeOff 57 = .ok (.isub, 1) := by decide +kernel
theorem dX0_takeOff_58 : decode cX0_takeOff 58 = .ok (.istore_n 2, 1) := by decide +kernel
theorem dX0_takeOff_59 : decode cX0_takeOff 59 = .ok (.iinc 4 1, 3) := by decide +kernel
theorem dX0_takeOff_62 : decode cX0_takeOff 62 = .ok (.goto (-51), 3) := by decide +kernel
theorem dX0_takeOff_65 : decode cX0_takeOff 65 = .ok (.iinc 3 (-1), 3) := by decide +kernel
theorem dX0_takeOff_68 : decode cX0_takeOff 68 = .ok (.goto (-64), 3) := by decide +kernel
theorem dX0_takeOff_71 : decode cX0_takeOff 71 = .ok (.return_, 1) := by decide +kernel
set_option maxRecDepth 20000 in
theorem ggX0_clear_J7_fill_53178 : GoodIn wsX0_clear wsJ7_fill_53178 := goodIn_r _ [6] (by decide +kernel) (by decide +kernel)
set_option maxRecDepth 20000 in
theorem gX0_clear_J7_fill_53178 : GoodIn wsX0_clear (va_wsS RX0 31 yJ7_fill_53178 wsJ7_fill_53178) := goodIn_app (goodIn_of _ (by decide +kernel)) ggX0_clear_J7_fill_53178
theorem dX0_clear_0 : decode cX0_clear 0 = .ok (.aload_n 0, 1) := by decide +kernel
theorem dX0_clear_1 : decode cX0_clear 1 = .ok (.getfield 15, 3) := by decide +kernel
theorem dX0_clear_4 : decode cX0_clear 4 = .ok (.iconst 0, 1) := by decide +kernel
theorem dX0_clear_5 : decode cX0_clear 5 = .ok (.invokestatic 31, 3) := by decide +kernel
theorem dX0_clear_8 : decode cX0_clear 8 = .ok (.aload_n 0, 1) := by decide +kernel
theorem dX0_clear_9 : decode cX0_clear 9 = .ok (.iconst 0, 1) := by decide +kernel
theorem dX0_clear_10 : decode cX0_clear 10 = .ok (.putfield 21, 3) := by decide +kernel
theorem dX0_clear_13 : decode cX0_clear 13 = .ok (.return_, 1) := by decide +kernel
theorem dX1_init_0 : decode cX1_init 0 = .ok (.aload_n 0, 1) := by decide +kernel
theorem dX1_init_1 : decode cX1_init 1 = .ok (.invokespecial 3, 3) := by decide +kernel
theorem dX1_init_4 : decode cX1_init 4 = .ok (.aload_n 0, 1) := by decide +kernel
theorem dX1_init_5 : decode cX1_init 5 = .ok (.bipush 8, 2) := by decide +kernel
theorem dX1_init_7 : decode cX1_init 7 = .ok (.newarray .int, 2) := by decide +kernel
theorem dX1_init_9 : decode cX1_init 9 = .ok (.putfield 9, 3) := by decide +kernel
theorem dX1_init_12 : decode cX1_init 12 = .ok (.aload_n 0, 1) := by decide +kernel
theorem dX1_init_13 : decode cX1_init 13 = .ok (.iconst 0, 1) := by decide +kernel
theorem dX1_init_14 : decode cX1_init 14 = .ok (.putfield 15, 3) := by decide +kernel
theorem dX1_init_17 : decode cX1_init 17 = .ok (.aload_n 0, 1) := by decide +kernel
theorem dX1_init_18 : decode cX1_init 18 = .ok (.iconst 0, 1) := by decide +kernel
theorem dX1_init_19 : decode cX1_init 19 = .ok (.putfield 19, 3) := by decide +kernel
theorem dX1_init_22 : decode cX1_init 22 = .ok (.return_, 1) := by decide +kernel
theorem dX1_add_0 : decode cX1_add 0 = .ok (.aload_n 0, 1) := by decide +kernel
theorem dX1_add_1 : decode cX1_add 1 = .ok (.getfield 15, 3) := by decide +kernel
theorem dX1_add_4 : decode cX1_add 4 = .ok (.ifCond .lt 15, 3) := by decide +kernel
theorem dX1_add_7 : decode cX1_add 7 = .ok (.aload_n 0, 1) := by decide +kernel
theorem dX1_add_8 : decode cX1_add 8 = .ok (.getfield 15, 3) := by decide +kernel
theorem dX1_add_11 : decode cX1_add 11 = .ok (.aload_n 0, 1) := by decide +kernel
theorem dX1_add_12 : decode cX1_add 12 = .ok (.getfield 9, 3) := by decide +kernel
theorem dX1_add_15 : decode cX1_add 15 = .ok (.arraylength, 1) := by decide +kernel
theorem dX1_add_16 : decode cX1_add 16 = .ok (.if_icmp .lt 5, 3) := by decide +kernel
theorem dX1_add_19 : decode cX1_add 19 = .ok (.iconst (-1), 1) := by decide +kernel
theorem dX1_add_20 : decode cX1_add 20 = .ok (.ireturn, 1) := by decide +kernel
theorem dX1_add_21 : decode cX1_add 21 = .ok (.aload_n 0, 1) := by decide +kernel
theorem dX1_add_22 : decode cX1_add 22 = .ok (.getfield 9, 3) := by decide +kernel
theorem dX1_add_25 : decode cX1_add 25 = .ok (.aload_n 0, 1) := by decide +kernel
theorem dX1_add_26 : decode cX1_add 26 = .ok (.getfield 15, 3) := by decide +kernel
theorem dX1_add_29 : decode cX1_add 29 = .ok (.iload_n 1, 1) := by decide +kernel
theorem dX1_add_30 : decode cX1_add 30 = .ok (.iastore, 1) := by decide +kernel
theorem dX1_add_31 : decode cX1_add 31 = .ok (.aload_n 0, 1) := by decide +kernel
theorem dX1_add_32 : decode cX1_add 32 = .ok (.dup, 1) := by decide +kernel
theorem dX1_add_33 : decode cX1_add 33 = .ok (.getfield 15, 3) := by decide +kernel
theorem dX1_add_36 : decode cX1_add 36 = .ok (.iconst 1, 1) := by decide +kernel
theorem dX1_add_37 : decode cX1_add 37 = .ok (.iadd, 1) := by decide +kernel
theorem dX1_add_38 : decode cX1_add 38 = .ok (.putfield 15, 3) := by decide +kernel
theorem dX1_add_41 : decode cX1_add 41 = .ok (.aload_n 0, 1) := by decide +kernel
theorem dX1_add_42 : decode cX1_add 42 = .ok (.getfield 15, 3) := by decide +kernel
theorem dX1_add_45 : decode cX1_add 45 = .ok (.iconst 1, 1) := by decide +kernel
theorem dX1_add_46 : decode cX1_add 46 = .ok (.isub, 1) := by decide +kernel
theorem dX1_add_47 : decode cX1_add 47 = .ok (.ireturn, 1) := by decide +kernel
theorem dX1_has_0 : decode cX1_has 0 = .ok (.iload_n 1, 1) := by decide +kernel
theorem dX1_has_1 : decode cX1_has 1 = .ok (.ifCond .lt 15, 3) := by decide +kernel
theorem dX1_has_4 : decode cX1_has 4 = .ok (.iload_n 1, 1) := by decide +kernel
theorem dX1_has_5 : decode cX1_has 5 = .ok (.aload_n 0, 1) := by decide +kernel
theorem dX1_has_6 : decode cX1_has 6 = .ok (.getfield 15, 3) := by decide +kernel
theorem dX1_has_9 : decode cX1_has 9 = .ok (.if_icmp .ge 7, 3) := by decide +kernel
theorem dX1_has_12 : decode cX1_has 12 = .ok (.iconst 1, 1) := by decide +kernel
theorem dX1_has_13 : decode cX1_has 13 = .ok (.goto 4, 3) := by decide +kernel
theorem dX1_has_16 : decode cX1_has 16 = .ok (.iconst 0, 1) := by decide +kernel
theorem dX1_has_17 : decode cX1_has 17 = .ok (.ireturn, 1) := by decide +kernel
theorem dX1_creditsOf_0 : decode cX1_creditsOf 0 = .ok (.iload_n 1, 1) := by decide +kernel
theorem dX1_creditsOf_1 : decode cX1_creditsOf 1 = .ok (.ifCond .lt 21, 3) := by decide +kernel
theorem dX1_creditsOf_4 : decode cX1_creditsOf 4 = .ok (.iload_n 1, 1) := by decide +kernel
theorem dX1_creditsOf_5 : decode cX1_creditsOf 5 = .ok (.aload_n 0, 1) := by decide +kernel
theorem dX1_creditsOf_6 : decode cX1_creditsOf 6 = .ok (.getfield 9, 3) := by decide +kernel
theorem dX1_creditsOf_9 : decode cX1_creditsOf 9 = .ok (.arraylength, 1) := by decide +kernel
theorem dX1_creditsOf_10 : decode cX1_creditsOf 10 = .ok (.if_icmp .ge 12, 3) := by decide +kernel
theorem dX1_creditsOf_13 : decode cX1_creditsOf 13 = .ok (.aload_n 0, 1) := by decide +kernel
theorem dX1_creditsOf_14 : decode cX1_creditsOf 14 = .ok (.getfield 9, 3) := by decide +kernel
theorem dX1_creditsOf_17 : decode cX1_creditsOf 17 = .ok (.iload_n 1, 1) := by decide +kernel
theorem dX1_creditsOf_18 : decode cX1_creditsOf 18 = .ok (.iaload, 1) := by decide +kernel
theorem dX1_creditsOf_19 : decode cX1_creditsOf 19 = .ok (.goto 4, 3) := by decide +kernel
theorem dX1_creditsOf_22 : decode cX1_creditsOf 22 = .ok (.iconst 0, 1) := by decide +kernel
theorem dX1_creditsOf_23 : decode cX1_creditsOf 23 = .ok (.ireturn, 1) := by decide +kernel
theorem dX1_remove_0 : decode cX1_remove 0 = .ok (.iload_n 1, 1) := by decide +kernel
theorem dX1_remove_1 : decode cX1_remove 1 = .ok (.ifCond .lt 19, 3) := by decide +kernel
theorem dX1_remove_4 : decode cX1_remove 4 = .ok (.iload_n 1, 1) := by decide +kernel
theorem dX1_remove_5 : decode cX1_remove 5 = .ok (.aload_n 0, 1) := by decide +kernel
theorem dX1_remove_6 : decode cX1_remove 6 = .ok (.getfield 9, 3) := by decide +kernel
theorem dX1_remove_9 : decode cX1_remove 9 = .ok (.arraylength, 1) := by decide +kernel
theorem dX1_remove_10 : decode cX1_remove 10 = .ok (.if_icmp .ge 10, 3) := by decide +kernel
theorem dX1_remove_13 : decode cX1_remove 13 = .ok (.aload_n 0, 1) := by decide +kernel
theorem dX1_remove_14 : decode cX1_remove 14 = .ok (.getfield 9, 3) := by decide +kernel
theorem dX1_remove_17 : decode cX1_remove 17 = .ok (.iload_n 1, 1) := by decide +kernel
theorem dX1_remove_18 : decode cX1_remove 18 = .ok (.iconst 0, 1) := by decide +kernel
theorem dX1_remove_19 : decode cX1_remove 19 = .ok (.iastore, 1) := by decide +kernel
theorem dX1_remove_20 : decode cX1_remove 20 = .ok (.return_, 1) := by decide +kernel
theorem dX1_total_0 : decode cX1_total 0 = .ok (.iconst 0, 1) := by decide +kernel
theorem dX1_total_1 : decode cX1_total 1 = .ok (.istore_n 1, 1) := by decide +kernel
theorem dX1_total_2 : decode cX1_total 2 = .ok (.iconst 0, 1) := by decide +kernel
theorem dX1_total_3 : decode cX1_total 3 = .ok (.istore_n 2, 1) := by decide +kernel
theorem dX1_total_4 : decode cX1_total 4 = .ok (.iload_n 2, 1) := by decide +kernel
theorem dX1_total_5 : decode cX1_total 5 = .ok (.aload_n 0, 1) := by decide +kernel
theorem dX1_total_6 : decode cX1_total 6 = .ok (.getfield 9, 3) := by decide +kernel
theorem dX1_total_9 : decode cX1_total 9 = .ok (.arraylength, 1) := by decide +kernel
theorem dX1_total_10 : decode cX1_total 10 = .ok (.if_icmp .ge 18, 3) := by decide +kernel
theorem dX1_total_13 : decode cX1_total 13 = .ok (.iload_n 1, 1) := by decide +kernel
theorem dX1_total_14 : decode cX1_total 14 = .ok (.aload_n 0, 1) := by decide +kernel
theorem dX1_total_15 : decode cX1_total 15 = .ok (.getfield 9, 3) := by decide +kernel
theorem dX1_total_18 : decode cX1_total 18 = .ok (.iload_n 2, 1) := by decide +kernel
theorem dX1_total_19 : decode cX1_total 19 = .ok (.iaload, 1) := by decide +kernel
theorem dX1_total_20 : decode cX1_total 20 = .ok (.iadd, 1) := by decide +kernel
theorem dX1_total_21 : decode cX1_total 21 = .ok (.istore_n 1, 1) := by decide +kernel
theorem dX1_total_22 : decode cX1_total 22 = .ok (.iinc 2 1, 3) := by decide +kernel
theorem dX1_total_25 : decode cX1_total 25 = .ok (.goto (-21), 3) := by decide +kernel
theorem dX1_total_28 : decode cX1_total 28 = .ok (.iload_n 1, 1) := by decide +kernel
theorem dX1_total_29 : decode cX1_total 29 = .ok (.ireturn, 1) := by decide +kernel
set_option maxRecDepth 20000 in
theorem ggX1_clear_J7_fill_53178 : GoodIn wsX1_clear wsJ7_fill_53178 := goodIn_r _ [7] (by decide +kernel) (by decide +kernel)
set_option maxRecDepth 20000 in
theorem gX1_clear_J7_fill_53178 : GoodIn wsX1_clear (va_wsS RX1 22 yJ7_fill_53178 wsJ7_fill_53178) := goodIn_app (goodIn_of _ (by decide +kernel)) ggX1_clear_J7_fill_53178
theorem dX1_clear_0 : decode cX1_clear 0 = .ok (.aload_n 0, 1) := by decide +kernel
theorem dX1_clear_1 : decode cX1_clear 1 = .ok (.getfield 9, 3) := by decide +kernel
theorem dX1_clear_4 : decode cX1_clear 4 = .ok (.iconst 0, 1) := by decide +kernel
theorem dX1_clear_5 : decode cX1_clear 5 = .ok (.invokestatic 22, 3) := by decide +kernel
theorem dX1_clear_8 : decode cX1_clear 8 = .ok (.aload_n 0, 1) := by decide +kernel
theorem dX1_clear_9 : decode cX1_clear 9 = .ok (.iconst 0, 1) := by decide +kernel
theorem dX1_clear_10 : decode cX1_clear 10 = .ok (.putfield 15, 3) := by decide +kernel
theorem dX1_clear_13 : decode cX1_clear 13 = .ok (.aload_n 0, 1) := by decide +kernel
theorem dX1_clear_14 : decode cX1_clear 14 = .ok (.iconst 0, 1) := by decide +kernel
theorem dX1_clear_15 : decode cX1_clear 15 = .ok (.putfield 19, 3) := by decide +kernel
theorem dX1_clear_18 : decode cX1_clear 18 = .ok (.return_, 1) := by decide +kernel
theorem dX2_init_0 : decode cX2_init 0 = .ok (.aload_n 0, 1) := by decide +kernel
theorem dX2_init_1 : decode cX2_init 1 = .ok (.invokespecial 3, 3) := by decide +kernel
theorem dX2_init_4 : decode cX2_init 4 = .ok (.aload_n 0, 1) := by decide +kernel
theorem dX2_init_5 : decode cX2_init 5 = .ok (.iconst 0, 1) := by decide +kernel
theorem dX2_init_6 : decode cX2_init 6 = .ok (.putfield 9, 3) := by decide +kernel
theorem dX2_init_9 : decode cX2_init 9 = .ok (.aload_n 0, 1) := by decide +kernel
theorem dX2_init_10 : decode cX2_init 10 = .ok (.iconst 0, 1) := by decide +kernel
theorem dX2_init_11 : decode cX2_init 11 = .ok (.putfield 15, 3) := by decide +kernel
theorem dX2_init_14 : decode cX2_init 14 = .ok (.aload_n 0, 1) := by decide +kernel
theorem dX2_init_15 : decode cX2_init 15 = .ok (.iconst 0, 1) := by decide +kernel
theorem dX2_init_16 : decode cX2_init 16 = .ok (.putfield 18, 3) := by decide +kernel
theorem dX2_init_19 : decode cX2_init 19 = .ok (.aload_n 0, 1) := by decide +kernel
theorem dX2_init_20 : decode cX2_init 20 = .ok (.iconst 0, 1) := by decide +kernel
theorem dX2_init_21 : decode cX2_init 21 = .ok (.putfield 21, 3) := by decide +kernel
theorem dX2_init_24 : decode cX2_init 24 = .ok (.aload_n 0, 1) := by decide +kernel
theorem dX2_init_25 : decode cX2_init 25 = .ok (.iconst 0, 1) := by decide +kernel
theorem dX2_init_26 : decode cX2_init 26 = .ok (.putfield 24, 3) := by decide +kernel
theorem dX2_init_29 : decode cX2_init 29 = .ok (.return_, 1) := by decide +kernel
theorem dX2_start_0 : decode cX2_start 0 = .ok (.aload_n 0, 1) := by decide +kernel
theorem dX2_start_1 : decode cX2_start 1 = .ok (.iload_n 1, 1) := by decide +kernel
theorem dX2_start_2 : decode cX2_start 2 = .ok (.putfield 9, 3) := by decide +kernel
theorem dX2_start_5 : decode cX2_start 5 = .ok (.aload_n 0, 1) := by decide +kernel
theorem dX2_start_6 : decode cX2_start 6 = .ok (.iload_n 2, 1) := by decide +kernel
theorem dX2_start_7 : decode cX2_start 7 = .ok (.putfield 15, 3) := by decide +kernel
theorem dX2_start_10 : decode cX2_start 10 = .ok (.aload_n 0, 1) := by decide +kernel
theorem dX2_start_11 : decode cX2_start 11 = .ok (.iload_n 3, 1) := by decide +kernel
theorem dX2_start_12 : decode cX2_start 12 = .ok (.putfield 18, 3) := by decide +kernel
theorem dX2_start_15 : decode cX2_start 15 = .ok (.aload_n 0, 1) := by decide +kernel
theorem dX2_start_16 : decode cX2_start 16 = .ok (.iload 4, 2) := by decide +kernel
theorem dX2_start_18 : decode cX2_start 18 = .ok (.putfield 21, 3) := by decide +kernel
theorem dX2_start_21 : decode cX2_start 21 = .ok (.aload_n 0, 1) := by decide +kernel
theorem dX2_start_22 : decode cX2_start 22 = .ok (.iconst 0, 1) := by decide +kernel
theorem dX2_start_23 : decode cX2_start 23 = .ok (.putfield 24, 3) := by decide +kernel
theorem dX2_start_26 : decode cX2_start 26 = .ok (.return_, 1) := by decide +kernel
theorem dX2_isLateAt_0 : decode cX2_isLateAt 0 = .ok (.iload_n 1, 1) := by decide +kernel
theorem dX2_isLateAt_1 : decode cX2_isLateAt 1 = .ok (.aload_n 0, 1) := by decide +kernel
theorem dX2_isLateAt_2 : decode cX2_isLateAt 2 = .ok (.getfield 9, 3) := by decide +kernel
theorem dX2_isLateAt_5 : decode cX2_isLateAt 5 = .ok (.isub, 1) := by decide +kernel
theorem dX2_isLateAt_6 : decode cX2_isLateAt 6 = .ok (.istore_n 2, 1) := by decide +kernel
theorem dX2_isLateAt_7 : decode cX2_isLateAt 7 = .ok (.iload_n 2, 1) := by decide +kernel
theorem dX2_isLateAt_8 : decode cX2_isLateAt 8 = .ok (.iconst 2, 1) := by decide +kernel
theorem dX2_isLateAt_9 : decode cX2_isLateAt 9 = .ok (.idiv, 1) := by decide +kernel
theorem dX2_isLateAt_10 : decode cX2_isLateAt 10 = .ok (.istore_n 3, 1) := by decide +kernel
theorem dX2_isLateAt_11 : decode cX2_isLateAt 11 = .ok (.iload_n 2, 1) := by decide +kernel
theorem dX2_isLateAt_12 : decode cX2_isLateAt 12 = .ok (.iconst 2, 1) := by decide +kernel
theorem dX2_isLateAt_13 : decode cX2_isLateAt 13 = .ok (.irem, 1) := by decide +kernel
theorem dX2_isLateAt_14 : decode cX2_isLateAt 14 = .ok (.ifCond .ne 16, 3) := by decide +kernel
theorem dX2_isLateAt_17 : decode cX2_isLateAt 17 = .ok (.iload_n 3, 1) := by decide +kernel
theorem dX2_isLateAt_18 : decode cX2_isLateAt 18 = .ok (.iconst 1, 1) := by decide +kernel
theorem dX2_isLateAt_19 : decode cX2_isLateAt 19 = .ok (.if_icmp .lt 11, 3) := by decide +kernel
theorem dX2_isLateAt_22 : decode cX2_isLateAt 22 = .ok (.iload_n 3, 1) := by decide +kernel
theorem dX2_isLateAt_23 : decode cX2_isLateAt 23 = .ok (.aload_n 0, 1) := by decide +kernel
theorem dX2_isLateAt_24 : decode cX2_isLateAt 24 = .ok (.getfield 15, 3) := by decide +kernel
theorem dX2_isLateAt_27 : decode cX2_isLateAt 27 = .ok (.if_icmp .le 5, 3) := by decide +kernel
theorem dX2_isLateAt_30 : decode cX2_isLateAt 30 = .ok (.iconst 0, 1) := by decide +kernel
theorem dX2_isLateAt_31 : decode cX2_isLateAt 31 = .ok (.ireturn, 1) := by decide +kernel
theorem dX2_isLateAt_32 : decode cX2_isLateAt 32 = .ok (.aload_n 0, 1) := by decide +kernel
theorem dX2_isLateAt_33 : decode cX2_isLateAt 33 = .ok (.getfield 24, 3) := by decide +kernel
theorem dX2_isLateAt_36 : decode cX2_isLateAt 36 = .ok (.aload_n 0, 1) := by decide +kernel
theorem dX2_isLateAt_37 : decode cX2_isLateAt 37 = .ok (.getfield 18, 3) := by decide +kernel
theorem dX2_isLateAt_40 : decode cX2_isLateAt 40 = .ok (.aload_n 0, 1) := by decide +kernel
theorem dX2_isLateAt_41 : decode cX2_isLateAt 41 = .ok (.getfield 21, 3) := by decide +kernel
theorem dX2_isLateAt_44 : decode cX2_isLateAt 44 = .ok (.iload_n 3, 1) := by decide +kernel
theorem dX2_isLateAt_45 : decode cX2_isLateAt 45 = .ok (.iconst 1, 1) := by decide +kernel
theorem dX2_isLateAt_46 : decode cX2_isLateAt 46 = .ok (.isub, 1) := by decide +kernel
theorem dX2_isLateAt_47 : decode cX2_isLateAt 47 = .ok (.imul, 1) := by decide +kernel
theorem dX2_isLateAt_48 : decode cX2_isLateAt 48 = .ok (.iadd, 1) := by decide +kernel
theorem dX2_isLateAt_49 : decode cX2_isLateAt 49 = .ok (.if_icmp .ge 7, 3) := by decide +kernel
theorem dX2_isLateAt_52 : decode cX2_isLateAt 52 = .ok (.iconst 1, 1) := by decide +kernel
theorem dX2_isLateAt_53 : decode cX2_isLateAt 53 = .ok (.goto 4, 3) := by decide +kernel
theorem dX2_isLateAt_56 : decode cX2_isLateAt 56 = .ok (.iconst 0, 1) := by decide +kernel
theorem dX2_isLateAt_57 : decode cX2_isLateAt 57 = .ok (.ireturn, 1) := by decide +kernel
set_option maxRecDepth 20000 in
theorem ggX3_init_X1_init : GoodIn wsX3_init wsX1_init := goodIn_r _ [25, 26, 2, 3, 27, 28, 29, 30, 46, 47, 48] (by decide +kernel) (by decide +kernel)
set_option maxRecDepth 20000 in
theorem gX3_init_X1_init_n9 : GoodIn wsX3_init (wsX1_init) := ggX3_init_X1_init
set_option maxRecDepth 20000 in
theorem ggX3_init_X0_init : GoodIn wsX3_init wsX0_init := goodIn_r _ [32, 33, 2, 3, 27, 34, 35, 36, 37, 60, 61, 62, 63] (by decide +kernel) (by decide +kernel)
set_option maxRecDepth 20000 in
theorem gX3_init_X0_init_n18 : GoodIn wsX3_init (wsX0_init) := ggX3_init_X0_init
set_option maxRecDepth 20000 in
theorem ggX3_init_X2_init : GoodIn wsX3_init wsX2_init := goodIn_r _ [39, 40, 2, 3, 41, 42, 43, 44, 45, 64, 65, 66, 67, 68] (by decide +kernel) (by decide +kernel)
set_option maxRecDepth 20000 in
theorem gX3_init_X2_init_n25 : GoodIn wsX3_init (wsX2_init) := ggX3_init_X2_init
theorem dX3_init_0 : decode cX3_init 0 = .ok (.aload_n 0, 1) := by decide +kernel
theorem dX3_init_1 : decode cX3_init 1 = .ok (.invokespecial 1, 3) := by decide +kernel
theorem dX3_init_4 : decode cX3_init 4 = .ok (.aload_n 0, 1) := by decide +kernel
theorem dX3_init_5 : decode cX3_init 5 = .ok (.new 7, 3) := by decide +kernel
theorem dX3_init_8 : decode cX3_init 8 = .ok (.dup, 1) := by decide +kernel
theorem dX3_init_9 : decode cX3_init 9 = .ok (.invokespecial 9, 3) := by decide +kernel
theorem dX3_init_12 : decode cX3_init 12 = .ok (.putfield 10, 3) := by decide +kernel
theorem dX3_init_15 : decode cX3_init 15 = .ok (.aload_n 0, 1) := by decide +kernel
theorem dX3_init_16 : decode cX3_init 16 = .ok (.new 16, 3) := by decide +kernel
theorem dX3_init_19 : decode cX3_init 19 = .ok (.dup, 1) := by decide +kernel
theorem dX3_init_20 : decode cX3_init 20 = .ok (.invokespecial 18, 3) := by decide +kernel
theorem dX3_init_23 : decode cX3_init 23 = .ok (.putfield 19, 3) := by decide +kernel
theorem dX3_init_26 : decode cX3_init 26 = .ok (.aload_n 0, 1) := by decide +kernel
theorem dX3_init_27 : decode cX3_init 27 = .ok (.new 23, 3) := by decide +kernel
theorem dX3_init_30 : decode cX3_init 30 = .ok (.dup, 1) := by decide +kernel
theorem dX3_init_31 : decode cX3_init 31 = .ok (.invokespecial 25, 3) := by decide +kernel
theorem dX3_init_34 : decode cX3_init 34 = .ok (.putfield 26, 3) := by decide +kernel
theorem dX3_init_37 : decode cX3_init 37 = .ok (.aload_n 0, 1) := by decide +kernel
theorem dX3_init_38 : decode cX3_init 38 = .ok (.iconst 0, 1) := by decide +kernel
theorem dX3_init_39 : decode cX3_init 39 = .ok (.putfield 30, 3) := by decide +kernel
theorem dX3_init_42 : decode cX3_init 42 = .ok (.aload_n 0, 1) := by decide +kernel
theorem dX3_init_43 : decode cX3_init 43 = .ok (.iconst 1, 1) := by decide +kernel
theorem dX3_init_44 : decode cX3_init 44 = .ok (.putfield 34, 3) := by decide +kernel
theorem dX3_init_47 : decode cX3_init 47 = .ok (.aload_n 0, 1) := by decide +kernel
theorem dX3_init_48 : decode cX3_init 48 = .ok (.iconst 0, 1) := by decide +kernel
theorem dX3_init_49 : decode cX3_init 49 = .ok (.putfield 38, 3) := by decide +kernel
theorem dX3_init_52 : decode cX3_init 52 = .ok (.aload_n 0, 1) := by decide +kernel
theorem dX3_init_53 : decode cX3_init 53 = .ok (.iconst 0, 1) := by decide +kernel
theorem dX3_init_54 : decode cX3_init 54 = .ok (.putfield 41, 3) := by decide +kernel
theorem dX3_init_57 : decode cX3_init 57 = .ok (.aload_n 0, 1) := by decide +kernel
theorem dX3_init_58 : decode cX3_init 58 = .ok (.iconst 0, 1) := by decide +kernel
theorem dX3_init_59 : decode cX3_init 59 = .ok (.putfield 44, 3) := by decide +kernel
theorem dX3_init_62 : decode cX3_init 62 = .ok (.aload_n 0, 1) := by decide +kernel
theorem dX3_init_63 : decode cX3_init 63 = .ok (.iconst 0, 1) := by decide +kernel
theorem dX3_init_64 : decode cX3_init 64 = .ok (.putfield 47, 3) := by decide +kernel
theorem dX3_init_67 : decode cX3_init 67 = .ok (.aload_n 0, 1) := by decide +kernel
theorem dX3_init_68 : decode cX3_init 68 = .ok (.iconst 0, 1) := by decide +kernel
theorem dX3_init_69 : decode cX3_init 69 = .ok (.putfield 50, 3) := by decide +kernel
theorem dX3_init_72 : decode cX3_init 72 = .ok (.aload_n 0, 1) := by decide +kernel
theorem dX3_init_73 : decode cX3_init 73 = .ok (.iconst 0, 1) := by decide +kernel
theorem dX3_init_74 : decode cX3_init 74 = .ok (.putfield 53, 3) := by decide +kernel
theorem dX3_init_77 : decode cX3_init 77 = .ok (.return_, 1) := by decide +kernel
set_option maxRecDepth 20000 in
theorem ggX3_beginTerm_X1_clear : GoodIn wsX3_beginTerm wsX1_clear := goodIn_r _ [16, 17, 18, 19, 20, 21, 22, 23, 43, 44, 45] (by decide +kernel) (by decide +kernel)
set_option maxRecDepth 20000 in
theorem gX3_beginTerm_X1_clear : GoodIn wsX3_beginTerm (wsV RX3 56 RX1 yX1_clear wsX1_clear) := goodIn_app (goodIn_of _ (by decide +kernel)) ggX3_beginTerm_X1_clear
set_option maxRecDepth 20000 in
theorem ggX3_beginTerm_X0_clear : GoodIn wsX3_beginTerm wsX0_clear := goodIn_r _ [28, 29, 30, 31, 21, 22, 23, 46, 47, 48, 49] (by decide +kernel) (by decide +kernel)
set_option maxRecDepth 20000 in
theorem gX3_beginTerm_X0_clear : GoodIn wsX3_beginTerm (wsV RX3 59 RX0 yX0_clear wsX0_clear) := goodIn_app (goodIn_of _ (by decide +kernel)) ggX3_beginTerm_X0_clear
theorem dX3_beginTerm_0 : decode cX3_beginTerm 0 = .ok (.aload_n 0, 1) := by decide +kernel
theorem dX3_beginTerm_1 : decode cX3_beginTerm 1 = .ok (.getfield 10, 3) := by decide +kernel
theorem dX3_beginTerm_4 : decode cX3_beginTerm 4 = .ok (.invokevirtual 56, 3) := by decide +kernel
theorem dX3_beginTerm_7 : decode cX3_beginTerm 7 = .ok (.aload_n 0, 1) := by decide +kernel
theorem dX3_beginTerm_8 : decode cX3_beginTerm 8 = .ok (.getfield 19, 3) := by decide +kernel
theorem dX3_beginTerm_11 : decode cX3_beginTerm 11 = .ok (.invokevirtual 59, 3) := by decide +kernel
theorem dX3_beginTerm_14 : decode cX3_beginTerm 14 = .ok (.aload_n 0, 1) := by decide +kernel
theorem dX3_beginTerm_15 : decode cX3_beginTerm 15 = .ok (.iconst 0, 1) := by decide +kernel
theorem dX3_beginTerm_16 : decode cX3_beginTerm 16 = .ok (.putfield 47, 3) := by decide +kernel
theorem dX3_beginTerm_19 : decode cX3_beginTerm 19 = .ok (.aload_n 0, 1) := by decide +kernel
theorem dX3_beginTerm_20 : decode cX3_beginTerm 20 = .ok (.iconst 0, 1) := by decide +kernel
theorem dX3_beginTerm_21 : decode cX3_beginTerm 21 = .ok (.putfield 50, 3) := by decide +kernel
theorem dX3_beginTerm_24 : decode cX3_beginTerm 24 = .ok (.aload_n 0, 1) := by decide +kernel
theorem dX3_beginTerm_25 : decode cX3_beginTerm 25 = .ok (.iconst 0, 1) := by decide +kernel
theorem dX3_beginTerm_26 : decode cX3_beginTerm 26 = .ok (.putfield 44, 3) := by decide +kernel
theorem dX3_beginTerm_29 : decode cX3_beginTerm 29 = .ok (.aload_n 0, 1) := by decide +kernel
theorem dX3_beginTerm_30 : decode cX3_beginTerm 30 = .ok (.iload_n 1, 1) := by decide +kernel
theorem dX3_beginTerm_31 : decode cX3_beginTerm 31 = .ok (.iconst 0, 1) := by decide +kernel
theorem dX3_beginTerm_32 : decode cX3_beginTerm 32 = .ok (.invokestatic 60, 3) := by decide +kernel
theorem dX3_beginTerm_35 : decode cX3_beginTerm 35 = .ok (.putfield 41, 3) := by decide +kernel
theorem dX3_beginTerm_38 : decode cX3_beginTerm 38 = .ok (.aload_n 0, 1) := by decide +kernel
theorem dX3_beginTerm_39 : decode cX3_beginTerm 39 = .ok (.iload_n 1, 1) := by decide +kernel
theorem dX3_beginTerm_40 : decode cX3_beginTerm 40 = .ok (.ineg, 1) := by decide +kernel
theorem dX3_beginTerm_41 : decode cX3_beginTerm 41 = .ok (.iconst 0, 1) := by decide +kernel
theorem dX3_beginTerm_42 : decode cX3_beginTerm 42 = .ok (.invokestatic 60, 3) := by decide +kernel
theorem dX3_beginTerm_45 : decode cX3_beginTerm 45 = .ok (.putfield 53, 3) := by decide +kernel
theorem dX3_beginTerm_48 : decode cX3_beginTerm 48 = .ok (.return_, 1) := by decide +kernel
set_option maxRecDepth 20000 in
theorem ggX4_init_X3_init : GoodIn wsX4_init wsX3_init := goodIn_r _ [18, 19, 2, 3, 20, 21, 22, 23, 24, 25, 26, 27, 28, 29, 30, 31, 32, 33, 34, 35, 36, 37, 38, 39, 40, 41, 42, 6, 43, 44, 45, 46, 47, 48, 49, 50, 51, 52, 53, 54, 55, 56, 57, 58, 59, 60, 85, 86, 87, 74, 75, 76, 77, 78, 79, 80, 81, 82, 83, 84, 88, 89, 90, 91, 92, 93, 94, 95, 96] (by decide +kernel) (by decide +kernel)
set_option maxRecDepth 20000 in
theorem gX4_init_X3_init_n41 : GoodIn wsX4_init (wsX3_init) := ggX4_init_X3_init
set_option maxRecDepth 20000 in
theorem ggX4_init_J7_fill_53178 : GoodIn wsX4_init wsJ7_fill_53178 := goodIn_r _ [64] (by decide +kernel) (by decide +kernel)
set_option maxRecDepth 20000 in
theorem gX4_init_J7_fill_53178 : GoodIn wsX4_init (va_wsS RX4 42 yJ7_fill_53178 wsJ7_fill_53178) := goodIn_app (goodIn_of _ (by decide +kernel)) ggX4_init_J7_fill_53178
theorem dX4_init_0 : decode cX4_init 0 = .ok (.aload_n 0, 1) := by decide +kernel
theorem dX4_init_1 : decode cX4_init 1 = .ok (.invokespecial 3, 3) := by decide +kernel
theorem dX4_init_4 : decode cX4_init 4 = .ok (.aload_n 0, 1) := by decide +kernel
theorem dX4_init_5 : decode cX4_init 5 = .ok (.iconst 4, 1) := by decide +kernel
theorem dX4_init_6 : decode cX4_init 6 = .ok (.anewarray 9, 3) := by decide +kernel
theorem dX4_init_9 : decode cX4_init 9 = .ok (.putfield 11, 3) := by decide +kernel
theorem dX4_init_12 : decode cX4_init 12 = .ok (.aload_n 0, 1) := by decide +kernel
theorem dX4_init_13 : decode cX4_init 13 = .ok (.iconst 4, 1) := by decide +kernel
theorem dX4_init_14 : decode cX4_init 14 = .ok (.newarray .int, 2) := by decide +kernel
theorem dX4_init_16 : decode cX4_init 16 = .ok (.putfield 15, 3) := by decide +kernel
theorem dX4_init_19 : decode cX4_init 19 = .ok (.aload_n 0, 1) := by decide +kernel
theorem dX4_init_20 : decode cX4_init 20 = .ok (.bipush 16, 2) := by decide +kernel
theorem dX4_init_22 : decode cX4_init 22 = .ok (.newarray .int, 2) := by decide +kernel
theorem dX4_init_24 : decode cX4_init 24 = .ok (.putfield 19, 3) := by decide +kernel
theorem dX4_init_27 : decode cX4_init 27 = .ok (.aload_n 0, 1) := by decide +kernel
theorem dX4_init_28 : decode cX4_init 28 = .ok (.bipush 12, 2) := by decide +kernel
theorem dX4_init_30 : decode cX4_init 30 = .ok (.putfield 22, 3) := by decide +kernel
theorem dX4_init_33 : decode cX4_init 33 = .ok (.aload_n 0, 1) := by decide +kernel
theorem dX4_init_34 : decode cX4_init 34 = .ok (.bipush 18, 2) := by decide +kernel
theorem dX4_init_36 : decode cX4_init 36 = .ok (.putfield 26, 3) := by decide +kernel
theorem dX4_init_39 : decode cX4_init 39 = .ok (.aload_n 0, 1) := by decide +kernel
theorem dX4_init_40 : decode cX4_init 40 = .ok (.sipush 2500, 3) := by decide +kernel
theorem dX4_init_43 : decode cX4_init 43 = .ok (.putfield 29, 3) := by decide +kernel
theorem dX4_init_46 : decode cX4_init 46 = .ok (.aload_n 0, 1) := by decide +kernel
theorem dX4_init_47 : decode cX4_init 47 = .ok (.iconst 0, 1) := by decide +kernel
theorem dX4_init_48 : decode cX4_init 48 = .ok (.putfield 32, 3) := by decide +kernel
theorem dX4_init_51 : decode cX4_init 51 = .ok (.aload_n 0, 1) := by decide +kernel
theorem dX4_init_52 : decode cX4_init 52 = .ok (.iconst 0, 1) := by decide +kernel
theorem dX4_init_53 : decode cX4_init 53 = .ok (.putfield 35, 3) := by decide +kernel
theorem dX4_init_56 : decode cX4_init 56 = .ok (.aload_n 0, 1) := by decide +kernel
theorem dX4_init_57 : decode cX4_init 57 = .ok (.iconst 0, 1) := by decide +kernel
theorem dX4_init_58 : decode cX4_init 58 = .ok (.putfield 38, 3) := by decide +kernel
theorem dX4_init_61 : decode cX4_init 61 = .ok (.iconst 0, 1) := by decide +kernel
theorem dX4_init_62 : decode cX4_init 62 = .ok (.istore_n 1, 1) := by decide +kernel
theorem dX4_init_63 : decode cX4_init 63 = .ok (.iload_n 1, 1) := by decide +kernel
theorem dX4_init_64 : decode cX4_init 64 = .ok (.aload_n 0, 1) := by decide +kernel
theorem dX4_init_65 : decode cX4_init 65 = .ok (.getfield 11, 3) := by decide +kernel
theorem dX4_init_68 : decode cX4_init 68 = .ok (.arraylength, 1) := by decide +kernel
theorem dX4_init_69 : decode cX4_init 69 = .ok (.if_icmp .ge 22, 3) := by decide +kernel
theorem dX4_init_72 : decode cX4_init 72 = .ok (.aload_n 0, 1) := by decide +kernel
theorem dX4_init_73 : decode cX4_init 73 = .ok (.getfield 11, 3) := by decide +kernel
theorem dX4_init_76 : decode cX4_init 76 = .ok (.iload_n 1, 1) := by decide +kernel
theorem dX4_init_77 : decode cX4_init 77 = .ok (.new 9, 3) := by decide +kernel
theorem dX4_init_80 : decode cX4_init 80 = .ok (.dup, 1) := by decide +kernel
theorem dX4_init_81 : decode cX4_init 81 = .ok (.invokespecial 41, 3) := by decide +kernel
theorem dX4_init_84 : decode cX4_init 84 = .ok (.aastore, 1) := by decide +kernel
theorem dX4_init_85 : decode cX4_init 85 = .ok (.iinc 1 1, 3) := by decide +kernel
theorem dX4_init_88 : decode cX4_init 88 = .ok (.goto (-25), 3) := by decide +kernel
theorem dX4_init_91 : decode cX4_init 91 = .ok (.aload_n 0, 1) := by decide +kernel
theorem dX4_init_92 : decode cX4_init 92 = .ok (.getfield 15, 3) := by decide +kernel
theorem dX4_init_95 : decode cX4_init 95 = .ok (.sipush 10000, 3) := by decide +kernel
theorem dX4_init_98 : decode cX4_init 98 = .ok (.invokestatic 42, 3) := by decide +kernel
theorem dX4_init_101 : decode cX4_init 101 = .ok (.aload_n 0, 1) := by decide +kernel
theorem dX4_init_102 : decode cX4_init 102 = .ok (.getfield 19, 3) := by decide +kernel
theorem dX4_init_105 : decode cX4_init 105 = .ok (.bipush 100, 2) := by decide +kernel
theorem dX4_init_107 : decode cX4_init 107 = .ok (.invokestatic 42, 3) := by decide +kernel
theorem dX4_init_110 : decode cX4_init 110 = .ok (.aload_n 0, 1) := by decide +kernel
theorem dX4_init_111 : decode cX4_init 111 = .ok (.getfield 19, 3) := by decide +kernel
theorem dX4_init_114 : decode cX4_init 114 = .ok (.iconst 0, 1) := by decide +kernel
theorem dX4_init_115 : decode cX4_init 115 = .ok (.iconst 0, 1) := by decide +kernel
theorem dX4_init_116 : decode cX4_init 116 = .ok (.iastore, 1) := by decide +kernel
theorem dX4_init_117 : decode cX4_init 117 = .ok (.aload_n 0, 1) := by decide +kernel
theorem dX4_init_118 : decode cX4_init 118 = .ok (.getfield 19, 3) := by decide +kernel
theorem dX4_init_121 : decode cX4_init 121 = .ok (.iconst 1, 1) := by decide +kernel
theorem dX4_init_122 : decode cX4_init 122 = .ok (.iconst 0, 1) := by decide +kernel
theorem dX4_init_123 : decode cX4_init 123 = .ok (.iastore, 1) := by decide +kernel
theorem dX4_init_124 : decode cX4_init 124 = .ok (.return_, 1) := by decide +kernel
set_option maxRecDepth 20000 in
theorem ggX4_setRate_X4_placeOfRate : GoodIn wsX4_setRate wsX4_placeOfRate := goodIn_r _ [8] (by decide +kernel) (by decide +kernel)
set_option maxRecDepth 20000 in
theorem gX4_setRate_X4_placeOfRate : GoodIn wsX4_setRate (va_wsS RX4 48 yX4_placeOfRate wsX4_placeOfRate) := goodIn_app (goodIn_of _ (by decide +kernel)) ggX4_setRate_X4_placeOfRate
set_option maxRecDepth 20000 in
theorem ggX4_setRate_X4_isWithin : GoodIn wsX4_setRate wsX4_isWithin := goodIn_r _ [11] (by decide +kernel) (by decide +kernel)
set_option maxRecDepth 20000 in
theorem gX4_setRate_X4_isWithin : GoodIn wsX4_setRate (va_wsS RX4 53 yX4_isWithin wsX4_isWithin) := goodIn_app (goodIn_of _ (by decide +kernel)) ggX4_setRate_X4_isWithin
theorem dX4_setRate_0 : decode cX4_setRate 0 = .ok (.iload_n 1, 1) := by decide +kernel
theorem dX4_setRate_1 : decode cX4_setRate 1 = .ok (.iload_n 2, 1) := by decide +kernel
theorem dX4_setRate_2 : decode cX4_setRate 2 = .ok (.invokestatic 48, 3) := by decide +kernel
theorem dX4_setRate_5 : decode cX4_setRate 5 = .ok (.istore 4, 2) := by decide +kernel
theorem dX4_setRate_7 : decode cX4_setRate 7 = .ok (.iload 4, 2) := by decide +kernel
theorem dX4_setRate_9 : decode cX4_setRate 9 = .ok (.ifCond .lt 23, 3) := by decide +kernel
theorem dX4_setRate_12 : decode cX4_setRate 12 = .ok (.iload 4, 2) := by decide +kernel
theorem dX4_setRate_14 : decode cX4_setRate 14 = .ok (.aload_n 0, 1) := by decide +kernel
theorem dX4_setRate_15 : decode cX4_setRate 15 = .ok (.getfield 15, 3) := by decide +kernel
theorem dX4_setRate_18 : decode cX4_setRate 18 = .ok (.arraylength, 1) := by decide +kernel
theorem dX4_setRate_19 : decode cX4_setRate 19 = .ok (.if_icmp .ge 13, 3) := by decide +kernel
theorem dX4_setRate_22 : decode cX4_setRate 22 = .ok (.iload_n 3, 1) := by decide +kernel
theorem dX4_setRate_23 : decode cX4_setRate 23 = .ok (.iconst 0, 1) := by decide +kernel
theorem dX4_setRate_24 : decode cX4_setRate 24 = .ok (.ldc 52, 2) := by decide +kernel
theorem dX4_setRate_26 : decode cX4_setRate 26 = .ok (.invokestatic 53, 3) := by decide +kernel
theorem dX4_setRate_29 : decode cX4_setRate 29 = .ok (.ifCond .ne 13, 3) := by decide +kernel
theorem dX4_setRate_32 : decode cX4_setRate 32 = .ok (.new 57, 3) := by decide +kernel
theorem dX4_setRate_35 : decode cX4_setRate 35 = .ok (.dup, 1) := by decide +kernel
theorem dX4_setRate_36 : decode cX4_setRate 36 = .ok (.ldc 59, 2) := by decide +kernel
theorem dX4_setRate_38 : decode cX4_setRate 38 = .ok (.invokespecial 61, 3) := by decide +kernel
theorem dX4_setRate_41 : decode cX4_setRate 41 = .ok (.athrow, 1) := by decide +kernel
theorem dX4_setRate_42 : decode cX4_setRate 42 = .ok (.aload_n 0, 1) := by decide +kernel
theorem dX4_setRate_43 : decode cX4_setRate 43 = .ok (.getfield 15, 3) := by decide +kernel
theorem dX4_setRate_46 : decode cX4_setRate 46 = .ok (.iload 4, 2) := by decide +kernel
theorem dX4_setRate_48 : decode cX4_setRate 48 = .ok (.iaload, 1) := by decide +kernel
theorem dX4_setRate_49 : decode cX4_setRate 49 = .ok (.istore 5, 2) := by decide +kernel
theorem dX4_setRate_51 : decode cX4_setRate 51 = .ok (.aload_n 0, 1) := by decide +kernel
theorem dX4_setRate_52 : decode cX4_setRate 52 = .ok (.getfield 15, 3) := by decide +kernel
theorem dX4_setRate_55 : decode cX4_setRate 55 = .ok (.iload 4, 2) := by decide +kernel
theorem dX4_setRate_57 : decode cX4_setRate 57 = .ok (.iload_n 3, 1) := by decide +kernel
theorem dX4_setRate_58 : decode cX4_setRate 58 = .ok (.iastore, 1) := by decide +kernel
theorem dX4_setRate_59 : decode cX4_setRate 59 = .ok (.iload 5, 2) := by decide +kernel
theorem dX4_setRate_61 : decode cX4_setRate 61 = .ok (.ireturn, 1) := by decide +kernel
set_option maxRecDepth 20000 in
theorem ggX4_setBand_X4_isWithin : GoodIn wsX4_setBand wsX4_isWithin := goodIn_r _ [8] (by decide +kernel) (by decide +kernel)
set_option maxRecDepth 20000 in
theorem gX4_setBand_X4_isWithin : GoodIn wsX4_setBand (va_wsS RX4 53 yX4_isWithin wsX4_isWithin) := goodIn_app (goodIn_of _ (by decide +kernel)) ggX4_setBand_X4_isWithin
theorem dX4_setBand_0 : decode cX4_setBand 0 = .ok (.iload_n 1, 1) := by decide +kernel
theorem dX4_setBand_1 : decode cX4_setBand 1 = .ok (.iconst 1, 1) := by decide +kernel
theorem dX4_setBand_2 : decode cX4_setBand 2 = .ok (.bipush 30, 2) := by decide +kernel
theorem dX4_setBand_4 : decode cX4_setBand 4 = .ok (.invokestatic 53, 3) := by decide +kernel
theorem dX4_setBand_7 : decode cX4_setBand 7 = .ok (.ifCond .eq 13, 3) := by decide +kernel
theorem dX4_setBand_10 : decode cX4_setBand 10 = .ok (.iload_n 2, 1) := by decide +kernel
theorem dX4_setBand_11 : decode cX4_setBand 11 = .ok (.iload_n 1, 1) := by decide +kernel
theorem dX4_setBand_12 : decode cX4_setBand 12 = .ok (.bipush 30, 2) := by decide +kernel
theorem dX4_setBand_14 : decode cX4_setBand 14 = .ok (.invokestatic 53, 3) := by decide +kernel
theorem dX4_setBand_17 : decode cX4_setBand 17 = .ok (.ifCond .ne 13, 3) := by decide +kernel
theorem dX4_setBand_20 : decode cX4_setBand 20 = .ok (.new 57, 3) := by decide +kernel
theorem dX4_setBand_23 : decode cX4_setBand 23 = .ok (.dup, 1) := by decide +kernel
theorem dX4_setBand_24 : decode cX4_setBand 24 = .ok (.ldc 64, 2) := by decide +kernel
theorem dX4_setBand_26 : decode cX4_setBand 26 = .ok (.invokespecial 61, 3) := by decide +kernel
theorem dX4_setBand_29 : decode cX4_setBand 29 = .ok (.athrow, 1) := by decide +kernel
theorem dX4_setBand_30 : decode cX4_setBand 30 = .ok (.aload_n 0, 1) := by decide +kernel
theorem dX4_setBand_31 : decode cX4_setBand 31 = .ok (.iload_n 1, 1) := by decide +kernel
theorem dX4_setBand_32 : decode cX4_setBand 32 = .ok (.putfield 22, 3) := by decide +kernel
theorem dX4_setBand_35 : decode cX4_setBand 35 = .ok (.aload_n 0, 1) := by decide +kernel
theorem dX4_setBand_36 : decode cX4_setBand 36 = .ok (.iload_n 2, 1) := by decide +kernel
theorem dX4_setBand_37 : decode cX4_setBand 37 = .ok (.putfield 26, 3) := by decide +kernel
theorem dX4_setBand_40 : decode cX4_setBand 40 = .ok (.return_, 1) := by decide +kernel
set_option maxRecDepth 20000 in
theorem ggX4_setShare_X4_isWithin : GoodIn wsX4_setShare wsX4_isWithin := goodIn_r _ [7] (by decide +kernel) (by decide +kernel)
set_option maxRecDepth 20000 in
theorem gX4_setShare_X4_isWithin : GoodIn wsX4_setShare (va_wsS RX4 53 yX4_isWithin wsX4_isWithin) := goodIn_app (goodIn_of _ (by decide +kernel)) ggX4_setShare_X4_isWithin
theorem dX4_setShare_0 : decode cX4_setShare 0 = .ok (.iload_n 1, 1) := by decide +kernel
theorem dX4_setShare_1 : decode cX4_setShare 1 = .ok (.ifCond .lt 22, 3) := by decide +kernel
theorem dX4_setShare_4 : decode cX4_setShare 4 = .ok (.iload_n 1, 1) := by decide +kernel
theorem dX4_setShare_5 : decode cX4_setShare 5 = .ok (.aload_n 0, 1) := by decide +kernel
theorem dX4_setShare_6 : decode cX4_setShare 6 = .ok (.getfield 19, 3) := by decide +kernel
theorem dX4_setShare_9 : decode cX4_setShare 9 = .ok (.arraylength, 1) := by decide +kernel
theorem dX4_setShare_10 : decode cX4_setShare 10 = .ok (.if_icmp .ge 13, 3) := by decide +kernel
theorem dX4_setShare_13 : decode cX4_setShare 13 = .ok (.iload_n 2, 1) := by decide +kernel
theorem dX4_setShare_14 : decode cX4_setShare 14 = .ok (.iconst 0, 1) := by decide +kernel
theorem dX4_setShare_15 : decode cX4_setShare 15 = .ok (.bipush 100, 2) := by decide +kernel
theorem dX4_setShare_17 : decode cX4_setShare 17 = .ok (.invokestatic 53, 3) := by decide +kernel
theorem dX4_setShare_20 : decode cX4_setShare 20 = .ok (.ifCond .ne 13, 3) := by decide +kernel
theorem dX4_setShare_23 : decode cX4_setShare 23 = .ok (.new 57, 3) := by decide +kernel
theorem dX4_setShare_26 : decode cX4_setShare 26 = .ok (.dup, 1) := by decide +kernel
theorem dX4_setShare_27 : decode cX4_setShare 27 = .ok (.ldc 66, 2) := by decide +kernel
theorem dX4_setShare_29 : decode cX4_setShare 29 = .ok (.invokespecial 61, 3) := by decide +kernel
theorem dX4_setShare_32 : decode cX4_setShare 32 = .ok (.athrow, 1) := by decide +kernel
theorem dX4_setShare_33 : decode cX4_setShare 33 = .ok (.aload_n 0, 1) := by decide +kernel
theorem dX4_setShare_34 : decode cX4_setShare 34 = .ok (.getfield 19, 3) := by decide +kernel
theorem dX4_setShare_37 : decode cX4_setShare 37 = .ok (.iload_n 1, 1) := by decide +kernel
theorem dX4_setShare_38 : decode cX4_setShare 38 = .ok (.iaload, 1) := by decide +kernel
theorem dX4_setShare_39 : decode cX4_setShare 39 = .ok (.istore_n 3, 1) := by decide +kernel
theorem dX4_setShare_40 : decode cX4_setShare 40 = .ok (.aload_n 0, 1) := by decide +kernel
theorem dX4_setShare_41 : decode cX4_setShare 41 = .ok (.getfield 19, 3) := by decide +kernel
theorem dX4_setShare_44 : decode cX4_setShare 44 = .ok (.iload_n 1, 1) := by decide +kernel
theorem dX4_setShare_45 : decode cX4_setShare 45 = .ok (.iload_n 2, 1) := by decide +kernel
theorem dX4_setShare_46 : decode cX4_setShare 46 = .ok (.iastore, 1) := by decide +kernel
theorem dX4_setShare_47 : decode cX4_setShare 47 = .ok (.iload_n 3, 1) := by decide +kernel
theorem dX4_setShare_48 : decode cX4_setShare 48 = .ok (.ireturn, 1) := by decide +kernel
set_option maxRecDepth 20000 in
theorem ggX4_setFees_X4_isWithin : GoodIn wsX4_setFees wsX4_isWithin := goodIn_r _ [10] (by decide +kernel) (by decide +kernel)
set_option maxRecDepth 20000 in
theorem gX4_setFees_X4_isWithin : GoodIn wsX4_setFees (va_wsS RX4 53 yX4_isWithin wsX4_isWithin) := goodIn_app (goodIn_of _ (by decide +kernel)) ggX4_setFees_X4_isWithin
theorem dX4_setFees_0 : decode cX4_setFees 0 = .ok (.iload_n 1, 1) := by decide +kernel
theorem dX4_setFees_1 : decode cX4_setFees 1 = .ok (.iconst 0, 1) := by decide +kernel
theorem dX4_setFees_2 : decode cX4_setFees 2 = .ok (.ldc 52, 2) := by decide +kernel
theorem dX4_setFees_4 : decode cX4_setFees 4 = .ok (.invokestatic 53, 3) := by decide +kernel
theorem dX4_setFees_7 : decode cX4_setFees 7 = .ok (.ifCond .eq 13, 3) := by decide +kernel
theorem dX4_setFees_10 : decode cX4_setFees 10 = .ok (.iload_n 2, 1) := by decide +kernel
theorem dX4_setFees_11 : decode cX4_setFees 11 = .ok (.iconst 0, 1) := by decide +kernel
theorem dX4_setFees_12 : decode cX4_setFees 12 = .ok (.ldc 68, 2) := by decide +kernel
theorem dX4_setFees_14 : decode cX4_setFees 14 = .ok (.invokestatic 53, 3) := by decide +kernel
theorem dX4_setFees_17 : decode cX4_setFees 17 = .ok (.ifCond .ne 13, 3) := by decide +kernel
theorem dX4_setFees_20 : decode cX4_setFees 20 = .ok (.new 57, 3) := by decide +kernel
theorem dX4_setFees_23 : decode cX4_setFees 23 = .ok (.dup, 1) := by decide +kernel
theorem dX4_setFees_24 : decode cX4_setFees 24 = .ok (.ldc 69, 2) := by decide +kernel
theorem dX4_setFees_26 : decode cX4_setFees 26 = .ok (.invokespecial 61, 3) := by decide +kernel
theorem dX4_setFees_29 : decode cX4_setFees 29 = .ok (.athrow, 1) := by decide +kernel
theorem dX4_setFees_30 : decode cX4_setFees 30 = .ok (.aload_n 0, 1) := by decide +kernel
theorem dX4_setFees_31 : decode cX4_setFees 31 = .ok (.iload_n 1, 1) := by decide +kernel
theorem dX4_setFees_32 : decode cX4_setFees 32 = .ok (.putfield 29, 3) := by decide +kernel
theorem dX4_setFees_35 : decode cX4_setFees 35 = .ok (.aload_n 0, 1) := by decide +kernel
theorem dX4_setFees_36 : decode cX4_setFees 36 = .ok (.iload_n 2, 1) := by decide +kernel
theorem dX4_setFees_37 : decode cX4_setFees 37 = .ok (.putfield 32, 3) := by decide +kernel
theorem dX4_setFees_40 : decode cX4_setFees 40 = .ok (.return_, 1) := by decide +kernel
set_option maxRecDepth 20000 in
theorem ggX4_setStudent_X4_studentAt : GoodIn wsX4_setStudent wsX4_studentAt := goodIn_ca (goodIn_r _ [11, 12, 13, 14, 29, 30, 31, 32, 33, 34, 35, 36, 37] (by decide +kernel) (by decide +kernel)) (goodIn_sub (fun _ h => List.mem_cons_of_mem _ (List.mem_append_right _ h)) (by decide +kernel))
set_option maxRecDepth 20000 in
theorem gX4_setStudent_X4_studentAt : GoodIn wsX4_setStudent (wsV RX4 71 RX4 yX4_studentAt wsX4_studentAt) := goodIn_app (goodIn_of _ (by decide +kernel)) ggX4_setStudent_X4_studentAt
set_option maxRecDepth 20000 in
theorem ggX4_setStudent_X4_isWithin : GoodIn wsX4_setStudent wsX4_isWithin := goodIn_r _ [17] (by decide +kernel) (by decide +kernel)
set_option maxRecDepth 20000 in
theorem gX4_setStudent_X4_isWithin : GoodIn wsX4_setStudent (va_wsS RX4 53 yX4_isWithin wsX4_isWithin) := goodIn_app (goodIn_of _ (by decide +kernel)) ggX4_setStudent_X4_isWithin
theorem dX4_setStudent_0 : decode cX4_setStudent 0 = .ok (.aload_n 0, 1) := by decide +kernel
theorem dX4_setStudent_1 : decode cX4_setStudent 1 = .ok (.iload_n 1, 1) := by decide +kernel
theorem dX4_setStudent_2 : decode cX4_setStudent 2 = .ok (.invokevirtual 71, 3) := by decide +kernel
theorem dX4_setStudent_5 : decode cX4_setStudent 5 = .ok (.astore 5, 2) := by decide +kernel
theorem dX4_setStudent_7 : decode cX4_setStudent 7 = .ok (.iload_n 2, 1) := by decide +kernel
theorem dX4_setStudent_8 : decode cX4_setStudent 8 = .ok (.iconst 0, 1) := by decide +kernel
theorem dX4_setStudent_9 : decode cX4_setStudent 9 = .ok (.iconst 1, 1) := by decide +kernel
theorem dX4_setStudent_10 : decode cX4_setStudent 10 = .ok (.invokestatic 53, 3) := by decide +kernel
theorem dX4_setStudent_13 : decode cX4_setStudent 13 = .ok (.ifCond .eq 14, 3) := by decide +kernel
theorem dX4_setStudent_16 : decode cX4_setStudent 16 = .ok (.iload 4, 2) := by decide +kernel
theorem dX4_setStudent_18 : decode cX4_setStudent 18 = .ok (.iconst 0, 1) := by decide +kernel
theorem dX4_setStudent_19 : decode cX4_setStudent 19 = .ok (.ldc 68, 2) := by decide +kernel
theorem dX4_setStudent_21 : decode cX4_setStudent 21 = .ok (.invokestatic 53, 3) := by decide +kernel
theorem dX4_setStudent_24 : decode cX4_setStudent 24 = .ok (.ifCond .ne 13, 3) := by decide +kernel
theorem dX4_setStudent_27 : decode cX4_setStudent 27 = .ok (.new 57, 3) := by decide +kernel
theorem dX4_setStudent_30 : decode cX4_setStudent 30 = .ok (.dup, 1) := by decide +kernel
theorem dX4_setStudent_31 : decode cX4_setStudent 31 = .ok (.ldc 75, 2) := by decide +kernel
theorem dX4_setStudent_33 : decode cX4_setStudent 33 = .ok (.invokespecial 61, 3) := by decide +kernel
theorem dX4_setStudent_36 : decode cX4_setStudent 36 = .ok (.athrow, 1) := by decide +kernel
theorem dX4_setStudent_37 : decode cX4_setStudent 37 = .ok (.aload 5, 2) := by decide +kernel
theorem dX4_setStudent_39 : decode cX4_setStudent 39 = .ok (.iload_n 2, 1) := by decide +kernel
theorem dX4_setStudent_40 : decode cX4_setStudent 40 = .ok (.putfield 77, 3) := by decide +kernel
theorem dX4_setStudent_43 : decode cX4_setStudent 43 = .ok (.aload 5, 2) := by decide +kernel
theorem dX4_setStudent_45 : decode cX4_setStudent 45 = .ok (.iload_n 3, 1) := by decide +kernel
theorem dX4_setStudent_46 : decode cX4_setStudent 46 = .ok (.putfield 80, 3) := by decide +kernel
theorem dX4_setStudent_49 : decode cX4_setStudent 49 = .ok (.aload 5, 2) := by decide +kernel
theorem dX4_setStudent_51 : decode cX4_setStudent 51 = .ok (.iload 4, 2) := by decide +kernel
theorem dX4_setStudent_53 : decode cX4_setStudent 53 = .ok (.putfield 84, 3) := by decide +kernel
theorem dX4_setStudent_56 : decode cX4_setStudent 56 = .ok (.return_, 1) := by decide +kernel
set_option maxRecDepth 20000 in
theorem ggX4_setSponsor_X4_studentAt : GoodIn wsX4_setSponsor wsX4_studentAt := goodIn_ca (goodIn_r _ [10, 11, 12, 13, 28, 29, 30, 31, 32, 33, 34, 35, 36] (by decide +kernel) (by decide +kernel)) (goodIn_sub (fun _ h => List.mem_cons_of_mem _ (List.mem_append_right _ h)) (by decide +kernel))
set_option maxRecDepth 20000 in
theorem gX4_setSponsor_X4_studentAt : GoodIn wsX4_setSponsor (wsV RX4 71 RX4 yX4_studentAt wsX4_studentAt) := goodIn_app (goodIn_of _ (by decide +kernel)) ggX4_setSponsor_X4_studentAt
set_option maxRecDepth 20000 in
theorem ggX4_setSponsor_X4_isWithin : GoodIn wsX4_setSponsor wsX4_isWithin := goodIn_r _ [16] (by decide +kernel) (by decide +kernel)
set_option maxRecDepth 20000 in
theorem gX4_setSponsor_X4_isWithin : GoodIn wsX4_setSponsor (va_wsS RX4 53 yX4_isWithin wsX4_isWithin) := goodIn_app (goodIn_of _ (by decide +kernel)) ggX4_setSponsor_X4_isWithin
theorem dX4_setSponsor_0 : decode cX4_setSponsor 0 = .ok (.aload_n 0, 1) := by decide +kernel
theorem dX4_setSponsor_1 : decode cX4_setSponsor 1 = .ok (.iload_n 1, 1) := by decide +kernel
theorem dX4_setSponsor_2 : decode cX4_setSponsor 2 = .ok (.invokevirtual 71, 3) := by decide +kernel
theorem dX4_setSponsor_5 : decode cX4_setSponsor 5 = .ok (.astore 4, 2) := by decide +kernel
theorem dX4_setSponsor_7 : decode cX4_setSponsor 7 = .ok (.iload_n 2, 1) := by decide +kernel
theorem dX4_setSponsor_8 : decode cX4_setSponsor 8 = .ok (.iconst 0, 1) := by decide +kernel
theorem dX4_setSponsor_9 : decode cX4_setSponsor 9 = .ok (.bipush 7, 2) := by decide +kernel
theorem dX4_setSponsor_11 : decode cX4_setSponsor 11 = .ok (.invokestatic 53, 3) := by decide +kernel
theorem dX4_setSponsor_14 : decode cX4_setSponsor 14 = .ok (.ifCond .eq 13, 3) := by decide +kernel
theorem dX4_setSponsor_17 : decode cX4_setSponsor 17 = .ok (.iload_n 3, 1) := by decide +kernel
theorem dX4_setSponsor_18 : decode cX4_setSponsor 18 = .ok (.iconst 0, 1) := by decide +kernel
theorem dX4_setSponsor_19 : decode cX4_setSponsor 19 = .ok (.ldc 68, 2) := by decide +kernel
theorem dX4_setSponsor_21 : decode cX4_setSponsor 21 = .ok (.invokestatic 53, 3) := by decide +kernel
theorem dX4_setSponsor_24 : decode cX4_setSponsor 24 = .ok (.ifCond .ne 13, 3) := by decide +kernel
theorem dX4_setSponsor_27 : decode cX4_setSponsor 27 = .ok (.new 57, 3) := by decide +kernel
theorem dX4_setSponsor_30 : decode cX4_setSponsor 30 = .ok (.dup, 1) := by decide +kernel
theorem dX4_setSponsor_31 : decode cX4_setSponsor 31 = .ok (.ldc 87, 2) := by decide +kernel
theorem dX4_setSponsor_33 : decode cX4_setSponsor 33 = .ok (.invokespecial 61, 3) := by decide +kernel
theorem dX4_setSponsor_36 : decode cX4_setSponsor 36 = .ok (.athrow, 1) := by decide +kernel
theorem dX4_setSponsor_37 : decode cX4_setSponsor 37 = .ok (.aload 4, 2) := by decide +kernel
theorem dX4_setSponsor_39 : decode cX4_setSponsor 39 = .ok (.iload_n 2, 1) := by decide +kernel
theorem dX4_setSponsor_40 : decode cX4_setSponsor 40 = .ok (.putfield 89, 3) := by decide +kernel
theorem dX4_setSponsor_43 : decode cX4_setSponsor 43 = .ok (.aload 4, 2) := by decide +kernel
theorem dX4_setSponsor_45 : decode cX4_setSponsor 45 = .ok (.iload_n 3, 1) := by decide +kernel
theorem dX4_setSponsor_46 : decode cX4_setSponsor 46 = .ok (.putfield 92, 3) := by decide +kernel
theorem dX4_setSponsor_49 : decode cX4_setSponsor 49 = .ok (.return_, 1) := by decide +kernel
set_option maxRecDepth 20000 in
theorem ggX4_take_X4_studentAt : GoodIn wsX4_take wsX4_studentAt := goodIn_ca (goodIn_r _ [10, 11, 12, 13, 35, 36, 37, 38, 39, 40, 41, 42, 43] (by decide +kernel) (by decide +kernel)) (goodIn_sub (fun _ h => List.mem_cons_of_mem _ (List.mem_append_right _ h)) (by decide +kernel))
set_option maxRecDepth 20000 in
theorem gX4_take_X4_studentAt : GoodIn wsX4_take (wsV RX4 71 RX4 yX4_studentAt wsX4_studentAt) := goodIn_app (goodIn_of _ (by decide +kernel)) ggX4_take_X4_studentAt
set_option maxRecDepth 20000 in
theorem ggX4_take_X4_isWithin : GoodIn wsX4_take wsX4_isWithin := goodIn_r _ [16] (by decide +kernel) (by decide +kernel)
set_option maxRecDepth 20000 in
theorem gX4_take_X4_isWithin : GoodIn wsX4_take (va_wsS RX4 53 yX4_isWithin wsX4_isWithin) := goodIn_app (goodIn_of _ (by decide +kernel)) ggX4_take_X4_isWithin
set_option maxRecDepth 20000 in
theorem ggX4_take_X1_add : GoodIn wsX4_take wsX1_add := goodIn_r _ [21, 22, 23, 44, 45, 46] (by decide +kernel) (by decide +kernel)
set_option maxRecDepth 20000 in
theorem gX4_take_X1_add : GoodIn wsX4_take (wsV RX4 101 RX1 yX1_add wsX1_add) := goodIn_app (goodIn_of _ (by decide +kernel)) ggX4_take_X1_add
theorem dX4_take_0 : decode cX4_take 0 = .ok (.aload_n 0, 1) := by decide +kernel
theorem dX4_take_1 : decode cX4_take 1 = .ok (.iload_n 1, 1) := by decide +kernel
theorem dX4_take_2 : decode cX4_take 2 = .ok (.invokevirtual 71, 3) := by decide +kernel
theorem dX4_take_5 : decode cX4_take 5 = .ok (.astore_n 3, 1) := by decide +kernel
theorem dX4_take_6 : decode cX4_take 6 = .ok (.iload_n 2, 1) := by decide +kernel
theorem dX4_take_7 : decode cX4_take 7 = .ok (.iconst 1, 1) := by decide +kernel
theorem dX4_take_8 : decode cX4_take 8 = .ok (.bipush 10, 2) := by decide +kernel
theorem dX4_take_10 : decode cX4_take 10 = .ok (.invokestatic 53, 3) := by decide +kernel
theorem dX4_take_13 : decode cX4_take 13 = .ok (.ifCond .ne 13, 3) := by decide +kernel
theorem dX4_take_16 : decode cX4_take 16 = .ok (.new 57, 3) := by decide +kernel
theorem dX4_take_19 : decode cX4_take 19 = .ok (.dup, 1) := by decide +kernel
theorem dX4_take_20 : decode cX4_take 20 = .ok (.ldc 95, 2) := by decide +kernel
theorem dX4_take_22 : decode cX4_take 22 = .ok (.invokespecial 61, 3) := by decide +kernel
theorem dX4_take_25 : decode cX4_take 25 = .ok (.athrow, 1) := by decide +kernel
theorem dX4_take_26 : decode cX4_take 26 = .ok (.aload_n 3, 1) := by decide +kernel
theorem dX4_take_27 : decode cX4_take 27 = .ok (.getfield 97, 3) := by decide +kernel
theorem dX4_take_30 : decode cX4_take 30 = .ok (.iload_n 2, 1) := by decide +kernel
theorem dX4_take_31 : decode cX4_take 31 = .ok (.invokevirtual 101, 3) := by decide +kernel
theorem dX4_take_34 : decode cX4_take 34 = .ok (.istore 4, 2) := by decide +kernel
theorem dX4_take_36 : decode cX4_take 36 = .ok (.iload 4, 2) := by decide +kernel
theorem dX4_take_38 : decode cX4_take 38 = .ok (.ifCond .ge 13, 3) := by decide +kernel
theorem dX4_take_41 : decode cX4_take 41 = .ok (.new 107, 3) := by decide +kernel
theorem dX4_take_44 : decode cX4_take 44 = .ok (.dup, 1) := by decide +kernel
theorem dX4_take_45 : decode cX4_take 45 = .ok (.ldc 109, 2) := by decide +kernel
theorem dX4_take_47 : decode cX4_take 47 = .ok (.invokespecial 111, 3) := by decide +kernel
theorem dX4_take_50 : decode cX4_take 50 = .ok (.athrow, 1) := by decide +kernel
theorem dX4_take_51 : decode cX4_take 51 = .ok (.iload 4, 2) := by decide +kernel
theorem dX4_take_53 : decode cX4_take 53 = .ok (.ireturn, 1) := by decide +kernel
set_option maxRecDepth 20000 in
theorem ggX4_drop_X4_studentAt : GoodIn wsX4_drop wsX4_studentAt := goodIn_ca (goodIn_r _ [10, 1, 2, 11, 69, 70, 71, 72, 73, 74, 75, 76, 77] (by decide +kernel) (by decide +kernel)) (goodIn_sub (fun _ h => List.mem_cons_of_mem _ (List.mem_append_left _ (List.mem_append_right _ h))) (by decide +kernel))
set_option maxRecDepth 20000 in
theorem gX4_drop_X4_studentAt : GoodIn wsX4_drop (wsV RX4 71 RX4 yX4_studentAt wsX4_studentAt) := goodIn_app (goodIn_of _ (by decide +kernel)) ggX4_drop_X4_studentAt
set_option maxRecDepth 20000 in
theorem ggX4_drop_X1_has : GoodIn wsX4_drop wsX1_has := goodIn_r _ [16, 17, 78, 79, 80] (by decide +kernel) (by decide +kernel)
set_option maxRecDepth 20000 in
theorem gX4_drop_X1_has : GoodIn wsX4_drop (wsV RX4 112 RX1 yX1_has wsX1_has) := goodIn_app (goodIn_of _ (by decide +kernel)) ggX4_drop_X1_has
set_option maxRecDepth 20000 in
theorem ggX4_drop_X1_creditsOf : GoodIn wsX4_drop wsX1_creditsOf := goodIn_r _ [21, 22, 78, 79, 80] (by decide +kernel) (by decide +kernel)
set_option maxRecDepth 20000 in
theorem gX4_drop_X1_creditsOf : GoodIn wsX4_drop (wsV RX4 121 RX1 yX1_creditsOf wsX1_creditsOf) := goodIn_app (goodIn_of _ (by decide +kernel)) ggX4_drop_X1_creditsOf
set_option maxRecDepth 20000 in
theorem ggX4_drop_X4_dropCourse : GoodIn wsX4_drop wsX4_dropCourse := goodIn_r _ [26, 27, 28, 5, 29, 30, 31, 9, 32, 33, 34, 35, 36, 37, 38, 39, 40, 15, 41, 22, 42, 43, 44, 45, 46, 47, 48, 49, 50, 51, 52, 53, 54, 55, 56, 57, 58, 59, 60, 61, 62, 63, 64, 65, 66, 67, 68, 78, 79, 80, 69, 70, 71, 72, 73, 74, 75, 76, 77] (by decide +kernel) (by decide +kernel)
set_option maxRecDepth 20000 in
theorem gX4_drop_X4_dropCourse : GoodIn wsX4_drop (wsV RX4 126 RX4 yX4_dropCourse wsX4_dropCourse) := goodIn_app (goodIn_of _ (by decide +kernel)) ggX4_drop_X4_dropCourse
theorem dX4_drop_0 : decode cX4_drop 0 = .ok (.aload_n 0, 1) := by decide +kernel
theorem dX4_drop_1 : decode cX4_drop 1 = .ok (.iload_n 1, 1) := by decide +kernel
theorem dX4_drop_2 : decode cX4_drop 2 = .ok (.invokevirtual 71, 3) := by decide +kernel
theorem dX4_drop_5 : decode cX4_drop 5 = .ok (.astore_n 3, 1) := by decide +kernel
theorem dX4_drop_6 : decode cX4_drop 6 = .ok (.aload_n 3, 1) := by decide +kernel
theorem dX4_drop_7 : decode cX4_drop 7 = .ok (.getfield 97, 3) := by decide +kernel
theorem dX4_drop_10 : decode cX4_drop 10 = .ok (.iload_n 2, 1) := by decide +kernel
theorem dX4_drop_11 : decode cX4_drop 11 = .ok (.invokevirtual 112, 3) := by decide +kernel
theorem dX4_drop_14 : decode cX4_drop 14 = .ok (.ifCond .ne 13, 3) := by decide +kernel
theorem dX4_drop_17 : decode cX4_drop 17 = .ok (.new 116, 3) := by decide +kernel
theorem dX4_drop_20 : decode cX4_drop 20 = .ok (.dup, 1) := by decide +kernel
theorem dX4_drop_21 : decode cX4_drop 21 = .ok (.ldc 118, 2) := by decide +kernel
theorem dX4_drop_23 : decode cX4_drop 23 = .ok (.invokespecial 120, 3) := by decide +kernel
theorem dX4_drop_26 : decode cX4_drop 26 = .ok (.athrow, 1) := by decide +kernel
theorem dX4_drop_27 : decode cX4_drop 27 = .ok (.aload_n 3, 1) := by decide +kernel
theorem dX4_drop_28 : decode cX4_drop 28 = .ok (.getfield 97, 3) := by decide +kernel
theorem dX4_drop_31 : decode cX4_drop 31 = .ok (.iload_n 2, 1) := by decide +kernel
theorem dX4_drop_32 : decode cX4_drop 32 = .ok (.invokevirtual 121, 3) := by decide +kernel
theorem dX4_drop_35 : decode cX4_drop 35 = .ok (.ifCond .ne 13, 3) := by decide +kernel
theorem dX4_drop_38 : decode cX4_drop 38 = .ok (.new 107, 3) := by decide +kernel
theorem dX4_drop_41 : decode cX4_drop 41 = .ok (.dup, 1) := by decide +kernel
theorem dX4_drop_42 : decode cX4_drop 42 = .ok (.ldc 124, 2) := by decide +kernel
theorem dX4_drop_44 : decode cX4_drop 44 = .ok (.invokespecial 111, 3) := by decide +kernel
theorem dX4_drop_47 : decode cX4_drop 47 = .ok (.athrow, 1) := by decide +kernel
theorem dX4_drop_48 : decode cX4_drop 48 = .ok (.aload_n 0, 1) := by decide +kernel
theorem dX4_drop_49 : decode cX4_drop 49 = .ok (.aload_n 3, 1) := by decide +kernel
theorem dX4_drop_50 : decode cX4_drop 50 = .ok (.iload_n 2, 1) := by decide +kernel
theorem dX4_drop_51 : decode cX4_drop 51 = .ok (.invokevirtual 126, 3) := by decide +kernel
theorem dX4_drop_54 : decode cX4_drop 54 = .ok (.ireturn, 1) := by decide +kernel
set_option maxRecDepth 20000 in
theorem ggX4_charge_X4_studentAt : GoodIn wsX4_charge wsX4_studentAt := goodIn_ca (goodIn_r _ [10, 11, 12, 13, 28, 29, 30, 31, 32, 33, 34, 35, 36] (by decide +kernel) (by decide +kernel)) (goodIn_sub (fun _ h => List.mem_cons_of_mem _ (List.mem_append_right _ h)) (by decide +kernel))
set_option maxRecDepth 20000 in
theorem gX4_charge_X4_studentAt : GoodIn wsX4_charge (wsV RX4 71 RX4 yX4_studentAt wsX4_studentAt) := goodIn_app (goodIn_of _ (by decide +kernel)) ggX4_charge_X4_studentAt
set_option maxRecDepth 20000 in
theorem ggX4_charge_X4_isWithin : GoodIn wsX4_charge wsX4_isWithin := goodIn_r _ [16] (by decide +kernel) (by decide +kernel)
set_option maxRecDepth 20000 in
theorem gX4_charge_X4_isWithin : GoodIn wsX4_charge (va_wsS RX4 53 yX4_isWithin wsX4_isWithin) := goodIn_app (goodIn_of _ (by decide +kernel)) ggX4_charge_X4_isWithin
theorem dX4_charge_0 : decode cX4_charge 0 = .ok (.aload_n 0, 1) := by decide +kernel
theorem dX4_charge_1 : decode cX4_charge 1 = .ok (.iload_n 1, 1) := by decide +kernel
theorem dX4_charge_2 : decode cX4_charge 2 = .ok (.invokevirtual 71, 3) := by decide +kernel
theorem dX4_charge_5 : decode cX4_charge 5 = .ok (.astore 4, 2) := by decide +kernel
theorem dX4_charge_7 : decode cX4_charge 7 = .ok (.iload_n 2, 1) := by decide +kernel
theorem dX4_charge_8 : decode cX4_charge 8 = .ok (.iconst 1, 1) := by decide +kernel
theorem dX4_charge_9 : decode cX4_charge 9 = .ok (.if_icmp .eq 8, 3) := by decide +kernel
theorem dX4_charge_12 : decode cX4_charge 12 = .ok (.iload_n 2, 1) := by decide +kernel
theorem dX4_charge_13 : decode cX4_charge 13 = .ok (.iconst 2, 1) := by decide +kernel
theorem dX4_charge_14 : decode cX4_charge 14 = .ok (.if_icmp .ne 13, 3) := by decide +kernel
theorem dX4_charge_17 : decode cX4_charge 17 = .ok (.iload_n 3, 1) := by decide +kernel
theorem dX4_charge_18 : decode cX4_charge 18 = .ok (.iconst 1, 1) := by decide +kernel
theorem dX4_charge_19 : decode cX4_charge 19 = .ok (.ldc 68, 2) := by decide +kernel
theorem dX4_charge_21 : decode cX4_charge 21 = .ok (.invokestatic 53, 3) := by decide +kernel
theorem dX4_charge_24 : decode cX4_charge 24 = .ok (.ifCond .ne 13, 3) := by decide +kernel
theorem dX4_charge_27 : decode cX4_charge 27 = .ok (.new 57, 3) := by decide +kernel
theorem dX4_charge_30 : decode cX4_charge 30 = .ok (.dup, 1) := by decide +kernel
theorem dX4_charge_31 : decode cX4_charge 31 = .ok (.ldc 130, 2) := by decide +kernel
theorem dX4_charge_33 : decode cX4_charge 33 = .ok (.invokespecial 61, 3) := by decide +kernel
theorem dX4_charge_36 : decode cX4_charge 36 = .ok (.athrow, 1) := by decide +kernel
theorem dX4_charge_37 : decode cX4_charge 37 = .ok (.iload_n 2, 1) := by decide +kernel
theorem dX4_charge_38 : decode cX4_charge 38 = .ok (.iconst 1, 1) := by decide +kernel
theorem dX4_charge_39 : decode cX4_charge 39 = .ok (.if_icmp .ne 20, 3) := by decide +kernel
theorem dX4_charge_42 : decode cX4_charge 42 = .ok (.aload 4, 2) := by decide +kernel
theorem dX4_charge_44 : decode cX4_charge 44 = .ok (.dup, 1) := by decide +kernel
theorem dX4_charge_45 : decode cX4_charge 45 = .ok (.getfield 132, 3) := by decide +kernel
theorem dX4_charge_48 : decode cX4_charge 48 = .ok (.iload_n 3, 1) := by decide +kernel
theorem dX4_charge_49 : decode cX4_charge 49 = .ok (.iadd, 1) := by decide +kernel
theorem dX4_charge_50 : decode cX4_charge 50 = .ok (.putfield 132, 3) := by decide +kernel
theorem dX4_charge_53 : decode cX4_charge 53 = .ok (.aload 4, 2) := by decide +kernel
theorem dX4_charge_55 : decode cX4_charge 55 = .ok (.getfield 132, 3) := by decide +kernel
theorem dX4_charge_58 : decode cX4_charge 58 = .ok (.ireturn, 1) := by decide +kernel
theorem dX4_charge_59 : decode cX4_charge 59 = .ok (.aload 4, 2) := by decide +kernel
theorem dX4_charge_61 : decode cX4_charge 61 = .ok (.dup, 1) := by decide +kernel
theorem dX4_charge_62 : decode cX4_charge 62 = .ok (.getfield 135, 3) := by decide +kernel
theorem dX4_charge_65 : decode cX4_charge 65 = .ok (.iload_n 3, 1) := by decide +kernel
theorem dX4_charge_66 : decode cX4_charge 66 = .ok (.iadd, 1) := by decide +kernel
theorem dX4_charge_67 : decode cX4_charge 67 = .ok (.putfield 135, 3) := by decide +kernel
theorem dX4_charge_70 : decode cX4_charge 70 = .ok (.aload 4, 2) := by decide +kernel
theorem dX4_charge_72 : decode cX4_charge 72 = .ok (.getfield 135, 3) := by decide +kernel
theorem dX4_charge_75 : decode cX4_charge 75 = .ok (.ireturn, 1) := by decide +kernel
set_option maxRecDepth 20000 in
theorem ggX4_award_X4_studentAt : GoodIn wsX4_award wsX4_studentAt := goodIn_ca (goodIn_r _ [11, 12, 13, 14, 37, 38, 39, 40, 41, 42, 43, 44, 45] (by decide +kernel) (by decide +kernel)) (goodIn_sub (fun _ h => List.mem_cons_of_mem _ (List.mem_append_right _ h)) (by decide +kernel))
set_option maxRecDepth 20000 in
theorem gX4_award_X4_studentAt : GoodIn wsX4_award (wsV RX4 71 RX4 yX4_studentAt wsX4_studentAt) := goodIn_app (goodIn_of _ (by decide +kernel)) ggX4_award_X4_studentAt
set_option maxRecDepth 20000 in
theorem ggX4_award_X4_isWithin : GoodIn wsX4_award wsX4_isWithin := goodIn_r _ [17] (by decide +kernel) (by decide +kernel)
set_option maxRecDepth 20000 in
theorem gX4_award_X4_isWithin : GoodIn wsX4_award (va_wsS RX4 53 yX4_isWithin wsX4_isWithin) := goodIn_app (goodIn_of _ (by decide +kernel)) ggX4_award_X4_isWithin
set_option maxRecDepth 20000 in
theorem ggX4_award_X0_add : GoodIn wsX4_award wsX0_add := goodIn_r _ [22, 23, 24, 25, 46, 47, 48, 49] (by decide +kernel) (by decide +kernel)
set_option maxRecDepth 20000 in
theorem gX4_award_X0_add : GoodIn wsX4_award (wsV RX4 144 RX0 yX0_add wsX0_add) := goodIn_app (goodIn_of _ (by decide +kernel)) ggX4_award_X0_add
theorem dX4_award_0 : decode cX4_award 0 = .ok (.aload_n 0, 1) := by decide +kernel
theorem dX4_award_1 : decode cX4_award 1 = .ok (.iload_n 1, 1) := by decide +kernel
theorem dX4_award_2 : decode cX4_award 2 = .ok (.invokevirtual 71, 3) := by decide +kernel
theorem dX4_award_5 : decode cX4_award 5 = .ok (.astore 4, 2) := by decide +kernel
theorem dX4_award_7 : decode cX4_award 7 = .ok (.iload_n 2, 1) := by decide +kernel
theorem dX4_award_8 : decode cX4_award 8 = .ok (.iconst 0, 1) := by decide +kernel
theorem dX4_award_9 : decode cX4_award 9 = .ok (.iconst 2, 1) := by decide +kernel
theorem dX4_award_10 : decode cX4_award 10 = .ok (.invokestatic 53, 3) := by decide +kernel
theorem dX4_award_13 : decode cX4_award 13 = .ok (.ifCond .eq 13, 3) := by decide +kernel
theorem dX4_award_16 : decode cX4_award 16 = .ok (.iload_n 3, 1) := by decide +kernel
theorem dX4_award_17 : decode cX4_award 17 = .ok (.iconst 1, 1) := by decide +kernel
theorem dX4_award_18 : decode cX4_award 18 = .ok (.ldc 68, 2) := by decide +kernel
theorem dX4_award_20 : decode cX4_award 20 = .ok (.invokestatic 53, 3) := by decide +kernel
theorem dX4_award_23 : decode cX4_award 23 = .ok (.ifCond .ne 13, 3) := by decide +kernel
theorem dX4_award_26 : decode cX4_award 26 = .ok (.new 57, 3) := by decide +kernel
theorem dX4_award_29 : decode cX4_award 29 = .ok (.dup, 1) := by decide +kernel
theorem dX4_award_30 : decode cX4_award 30 = .ok (.ldc 138, 2) := by decide +kernel
theorem dX4_award_32 : decode cX4_award 32 = .ok (.invokespecial 61, 3) := by decide +kernel
theorem dX4_award_35 : decode cX4_award 35 = .ok (.athrow, 1) := by decide +kernel
theorem dX4_award_36 : decode cX4_award 36 = .ok (.aload 4, 2) := by decide +kernel
theorem dX4_award_38 : decode cX4_award 38 = .ok (.getfield 140, 3) := by decide +kernel
theorem dX4_award_41 : decode cX4_award 41 = .ok (.iload_n 2, 1) := by decide +kernel
theorem dX4_award_42 : decode cX4_award 42 = .ok (.iload_n 3, 1) := by decide +kernel
theorem dX4_award_43 : decode cX4_award 43 = .ok (.invokevirtual 144, 3) := by decide +kernel
theorem dX4_award_46 : decode cX4_award 46 = .ok (.istore 5, 2) := by decide +kernel
theorem dX4_award_48 : decode cX4_award 48 = .ok (.iload 5, 2) := by decide +kernel
theorem dX4_award_50 : decode cX4_award 50 = .ok (.ifCond .ge 13, 3) := by decide +kernel
theorem dX4_award_53 : decode cX4_award 53 = .ok (.new 107, 3) := by decide +kernel
theorem dX4_award_56 : decode cX4_award 56 = .ok (.dup, 1) := by decide +kernel
theorem dX4_award_57 : decode cX4_award 57 = .ok (.ldc 149, 2) := by decide +kernel
theorem dX4_award_59 : decode cX4_award 59 = .ok (.invokespecial 111, 3) := by decide +kernel
theorem dX4_award_62 : decode cX4_award 62 = .ok (.athrow, 1) := by decide +kernel
theorem dX4_award_63 : decode cX4_award 63 = .ok (.iload 5, 2) := by decide +kernel
theorem dX4_award_65 : decode cX4_award 65 = .ok (.ireturn, 1) := by decide +kernel
set_option maxRecDepth 20000 in
theorem ggX4_pay_X4_studentAt : GoodIn wsX4_pay wsX4_studentAt := goodIn_ca (goodIn_r _ [11, 12, 13, 14, 93, 94, 95, 96, 97, 98, 99, 100, 101] (by decide +kernel) (by decide +kernel)) (goodIn_sub (fun _ h => List.mem_cons_of_mem _ (List.mem_append_right _ h)) (by decide +kernel))
set_option maxRecDepth 20000 in
theorem gX4_pay_X4_studentAt : GoodIn wsX4_pay (wsV RX4 71 RX4 yX4_studentAt wsX4_studentAt) := goodIn_app (goodIn_of _ (by decide +kernel)) ggX4_pay_X4_studentAt
set_option maxRecDepth 20000 in
theorem ggX4_pay_X4_isWithin : GoodIn wsX4_pay wsX4_isWithin := goodIn_r _ [17] (by decide +kernel) (by decide +kernel)
set_option maxRecDepth 20000 in
theorem gX4_pay_X4_isWithin : GoodIn wsX4_pay (va_wsS RX4 53 yX4_isWithin wsX4_isWithin) := goodIn_app (goodIn_of _ (by decide +kernel)) ggX4_pay_X4_isWithin
set_option maxRecDepth 20000 in
theorem ggX4_pay_X4_balanceOf : GoodIn wsX4_pay wsX4_balanceOf := goodIn_r _ [21, 22, 23, 4, 24, 25, 26, 10, 27, 28, 29, 30, 31, 32, 33, 34, 35, 36, 37, 38, 39, 40, 41, 42, 43, 44, 45, 46, 47, 48, 49, 50, 51, 52, 53, 54, 55, 56, 57, 58, 59, 60, 61, 62, 63, 64, 65, 66, 67, 68, 69, 70, 71, 72, 73, 74, 75, 76, 77, 78, 79, 80, 81, 82, 83, 84, 85, 86, 87, 102, 103, 104, 93, 94, 95, 96, 97, 98, 99, 100, 101, 105, 106, 107, 108] (by decide +kernel) (by decide +kernel)
set_option maxRecDepth 20000 in
theorem gX4_pay_X4_balanceOf : GoodIn wsX4_pay (wsV RX4 165 RX4 yX4_balanceOf wsX4_balanceOf) := goodIn_app (goodIn_of _ (by decide +kernel)) ggX4_pay_X4_balanceOf
theorem dX4_pay_0 : decode cX4_pay 0 = .ok (.aload_n 0, 1) := by decide +kernel
theorem dX4_pay_1 : decode cX4_pay 1 = .ok (.iload_n 1, 1) := by decide +kernel
theorem dX4_pay_2 : decode cX4_pay 2 = .ok (.invokevirtual 71, 3) := by decide +kernel
theorem dX4_pay_5 : decode cX4_pay 5 = .ok (.astore_n 3, 1) := by decide +kernel
theorem dX4_pay_6 : decode cX4_pay 6 = .ok (.iload_n 2, 1) := by decide +kernel
theorem dX4_pay_7 : decode cX4_pay 7 = .ok (.iconst 1, 1) := by decide +kernel
theorem dX4_pay_8 : decode cX4_pay 8 = .ok (.ldc 68, 2) := by decide +kernel
theorem dX4_pay_10 : decode cX4_pay 10 = .ok (.invokestatic 53, 3) := by decide +kernel
theorem dX4_pay_13 : decode cX4_pay 13 = .ok (.ifCond .ne 13, 3) := by decide +kernel
theorem dX4_pay_16 : decode cX4_pay 16 = .ok (.new 57, 3) := by decide +kernel
theorem dX4_pay_19 : decode cX4_pay 19 = .ok (.dup, 1) := by decide +kernel
theorem dX4_pay_20 : decode cX4_pay 20 = .ok (.ldc 151, 2) := by decide +kernel
theorem dX4_pay_22 : decode cX4_pay 22 = .ok (.invokespecial 61, 3) := by decide +kernel
theorem dX4_pay_25 : decode cX4_pay 25 = .ok (.athrow, 1) := by decide +kernel
theorem dX4_pay_26 : decode cX4_pay 26 = .ok (.aload_n 3, 1) := by decide +kernel
theorem dX4_pay_27 : decode cX4_pay 27 = .ok (.dup, 1) := by decide +kernel
theorem dX4_pay_28 : decode cX4_pay 28 = .ok (.getfield 153, 3) := by decide +kernel
theorem dX4_pay_31 : decode cX4_pay 31 = .ok (.iload_n 2, 1) := by decide +kernel
theorem dX4_pay_32 : decode cX4_pay 32 = .ok (.iadd, 1) := by decide +kernel
theorem dX4_pay_33 : decode cX4_pay 33 = .ok (.putfield 153, 3) := by decide +kernel
theorem dX4_pay_36 : decode cX4_pay 36 = .ok (.aload_n 3, 1) := by decide +kernel
theorem dX4_pay_37 : decode cX4_pay 37 = .ok (.getfield 156, 3) := by decide +kernel
theorem dX4_pay_40 : decode cX4_pay 40 = .ok (.dup, 1) := by decide +kernel
theorem dX4_pay_41 : decode cX4_pay 41 = .ok (.getfield 160, 3) := by decide +kernel
theorem dX4_pay_44 : decode cX4_pay 44 = .ok (.iload_n 2, 1) := by decide +kernel
theorem dX4_pay_45 : decode cX4_pay 45 = .ok (.iadd, 1) := by decide +kernel
theorem dX4_pay_46 : decode cX4_pay 46 = .ok (.putfield 160, 3) := by decide +kernel
theorem dX4_pay_49 : decode cX4_pay 49 = .ok (.aload_n 0, 1) := by decide +kernel
theorem dX4_pay_50 : decode cX4_pay 50 = .ok (.aload_n 3, 1) := by decide +kernel
theorem dX4_pay_51 : decode cX4_pay 51 = .ok (.invokevirtual 165, 3) := by decide +kernel
theorem dX4_pay_54 : decode cX4_pay 54 = .ok (.ireturn, 1) := by decide +kernel
set_option maxRecDepth 20000 in
theorem ggX4_plan_X4_studentAt : GoodIn wsX4_plan wsX4_studentAt := goodIn_ca (goodIn_r _ [10, 11, 12, 13, 101, 102, 103, 104, 105, 106, 107, 108, 109] (by decide +kernel) (by decide +kernel)) (goodIn_sub (fun _ h => List.mem_cons_of_mem _ (List.mem_append_right _ h)) (by decide +kernel))
set_option maxRecDepth 20000 in
theorem gX4_plan_X4_studentAt : GoodIn wsX4_plan (wsV RX4 71 RX4 yX4_studentAt wsX4_studentAt) := goodIn_app (goodIn_of _ (by decide +kernel)) ggX4_plan_X4_studentAt
set_option maxRecDepth 20000 in
theorem ggX4_plan_X4_balanceOf : GoodIn wsX4_plan wsX4_balanceOf := goodIn_r _ [17, 18, 19, 20, 21, 22, 23, 9, 24, 25, 26, 27, 28, 29, 30, 31, 32, 33, 34, 35, 36, 37, 38, 39, 40, 41, 42, 43, 44, 45, 46, 47, 48, 49, 50, 51, 52, 53, 54, 55, 56, 57, 58, 59, 60, 61, 62, 63, 64, 65, 66, 67, 68, 69, 70, 71, 72, 73, 90, 91, 92, 93, 94, 95, 96, 97, 98, 99, 100, 110, 111, 112, 101, 102, 103, 104, 105, 106, 107, 108, 109, 113, 114, 115, 116] (by decide +kernel) (by decide +kernel)
set_option maxRecDepth 20000 in
theorem gX4_plan_X4_balanceOf : GoodIn wsX4_plan (wsV RX4 165 RX4 yX4_balanceOf wsX4_balanceOf) := goodIn_app (goodIn_of _ (by decide +kernel)) ggX4_plan_X4_balanceOf
set_option maxRecDepth 20000 in
theorem ggX4_plan_X4_weekNumber : GoodIn wsX4_plan wsX4_weekNumber := goodIn_r _ [77, 78, 79, 101, 102, 103, 104, 105, 106, 107, 108, 109] (by decide +kernel) (by decide +kernel)
set_option maxRecDepth 20000 in
theorem gX4_plan_X4_weekNumber : GoodIn wsX4_plan (wsV RX4 173 RX4 yX4_weekNumber wsX4_weekNumber) := goodIn_app (goodIn_of _ (by decide +kernel)) ggX4_plan_X4_weekNumber
set_option maxRecDepth 20000 in
theorem ggX4_plan_X2_start : GoodIn wsX4_plan wsX2_start := goodIn_r _ [84, 85, 86, 87, 88, 89, 117, 118, 119, 120, 121] (by decide +kernel) (by decide +kernel)
set_option maxRecDepth 20000 in
theorem gX4_plan_X2_start : GoodIn wsX4_plan (wsV RX4 177 RX2 yX2_start wsX2_start) := goodIn_app (goodIn_of _ (by decide +kernel)) ggX4_plan_X2_start
theorem dX4_plan_0 : decode cX4_plan 0 = .ok (.aload_n 0, 1) := by decide +kernel
theorem dX4_plan_1 : decode cX4_plan 1 = .ok (.iload_n 1, 1) := by decide +kernel
theorem dX4_plan_2 : decode cX4_plan 2 = .ok (.invokevirtual 71, 3) := by decide +kernel
theorem dX4_plan_5 : decode cX4_plan 5 = .ok (.astore_n 3, 1) := by decide +kernel
theorem dX4_plan_6 : decode cX4_plan 6 = .ok (.iload_n 2, 1) := by decide +kernel
theorem dX4_plan_7 : decode cX4_plan 7 = .ok (.iconst 1, 1) := by decide +kernel
theorem dX4_plan_8 : decode cX4_plan 8 = .ok (.if_icmp .lt 8, 3) := by decide +kernel
theorem dX4_plan_11 : decode cX4_plan 11 = .ok (.iload_n 2, 1) := by decide +kernel
theorem dX4_plan_12 : decode cX4_plan 12 = .ok (.iconst 4, 1) := by decide +kernel
theorem dX4_plan_13 : decode cX4_plan 13 = .ok (.if_icmp .le 13, 3) := by decide +kernel
theorem dX4_plan_16 : decode cX4_plan 16 = .ok (.new 57, 3) := by decide +kernel
theorem dX4_plan_19 : decode cX4_plan 19 = .ok (.dup, 1) := by decide +kernel
theorem dX4_plan_20 : decode cX4_plan 20 = .ok (.ldc 169, 2) := by decide +kernel
theorem dX4_plan_22 : decode cX4_plan 22 = .ok (.invokespecial 61, 3) := by decide +kernel
theorem dX4_plan_25 : decode cX4_plan 25 = .ok (.athrow, 1) := by decide +kernel
theorem dX4_plan_26 : decode cX4_plan 26 = .ok (.aload_n 0, 1) := by decide +kernel
theorem dX4_plan_27 : decode cX4_plan 27 = .ok (.aload_n 3, 1) := by decide +kernel
theorem dX4_plan_28 : decode cX4_plan 28 = .ok (.invokevirtual 165, 3) := by decide +kernel
theorem dX4_plan_31 : decode cX4_plan 31 = .ok (.istore 4, 2) := by decide +kernel
theorem dX4_plan_33 : decode cX4_plan 33 = .ok (.iload 4, 2) := by decide +kernel
theorem dX4_plan_35 : decode cX4_plan 35 = .ok (.ifCond .gt 13, 3) := by decide +kernel
theorem dX4_plan_38 : decode cX4_plan 38 = .ok (.new 107, 3) := by decide +kernel
theorem dX4_plan_41 : decode cX4_plan 41 = .ok (.dup, 1) := by decide +kernel
theorem dX4_plan_42 : decode cX4_plan 42 = .ok (.ldc 171, 2) := by decide +kernel
theorem dX4_plan_44 : decode cX4_plan 44 = .ok (.invokespecial 111, 3) := by decide +kernel
theorem dX4_plan_47 : decode cX4_plan 47 = .ok (.athrow, 1) := by decide +kernel
theorem dX4_plan_48 : decode cX4_plan 48 = .ok (.iload 4, 2) := by decide +kernel
theorem dX4_plan_50 : decode cX4_plan 50 = .ok (.iload_n 2, 1) := by decide +kernel
theorem dX4_plan_51 : decode cX4_plan 51 = .ok (.idiv, 1) := by decide +kernel
theorem dX4_plan_52 : decode cX4_plan 52 = .ok (.istore 5, 2) := by decide +kernel
theorem dX4_plan_54 : decode cX4_plan 54 = .ok (.iload 4, 2) := by decide +kernel
theorem dX4_plan_56 : decode cX4_plan 56 = .ok (.iload 5, 2) := by decide +kernel
theorem dX4_plan_58 : decode cX4_plan 58 = .ok (.iload_n 2, 1) := by decide +kernel
theorem dX4_plan_59 : decode cX4_plan 59 = .ok (.iconst 1, 1) := by decide +kernel
theorem dX4_plan_60 : decode cX4_plan 60 = .ok (.isub, 1) := by decide +kernel
theorem dX4_plan_61 : decode cX4_plan 61 = .ok (.imul, 1) := by decide +kernel
theorem dX4_plan_62 : decode cX4_plan 62 = .ok (.isub, 1) := by decide +kernel
theorem dX4_plan_63 : decode cX4_plan 63 = .ok (.istore 6, 2) := by decide +kernel
theorem dX4_plan_65 : decode cX4_plan 65 = .ok (.aload_n 3, 1) := by decide +kernel
theorem dX4_plan_66 : decode cX4_plan 66 = .ok (.getfield 156, 3) := by decide +kernel
theorem dX4_plan_69 : decode cX4_plan 69 = .ok (.aload_n 0, 1) := by decide +kernel
theorem dX4_plan_70 : decode cX4_plan 70 = .ok (.invokevirtual 173, 3) := by decide +kernel
theorem dX4_plan_73 : decode cX4_plan 73 = .ok (.iload_n 2, 1) := by decide +kernel
theorem dX4_plan_74 : decode cX4_plan 74 = .ok (.iload 6, 2) := by decide +kernel
theorem dX4_plan_76 : decode cX4_plan 76 = .ok (.iload 5, 2) := by decide +kernel
theorem dX4_plan_78 : decode cX4_plan 78 = .ok (.invokevirtual 177, 3) := by decide +kernel
theorem dX4_plan_81 : decode cX4_plan 81 = .ok (.iload 6, 2) := by decide +kernel
theorem dX4_plan_83 : decode cX4_plan 83 = .ok (.ireturn, 1) := by decide +kernel
set_option maxRecDepth 20000 in
theorem ggX4_leave_X4_studentAt : GoodIn wsX4_leave wsX4_studentAt := goodIn_ca (goodIn_r _ [7, 8, 9, 10, 82, 83, 84, 85, 86, 87, 88, 89, 90] (by decide +kernel) (by decide +kernel)) (goodIn_sub (fun _ h => List.mem_cons_of_mem _ (List.mem_append_right _ h)) (by decide +kernel))
set_option maxRecDepth 20000 in
theorem gX4_leave_X4_studentAt : GoodIn wsX4_leave (wsV RX4 71 RX4 yX4_studentAt wsX4_studentAt) := goodIn_app (goodIn_of _ (by decide +kernel)) ggX4_leave_X4_studentAt
set_option maxRecDepth 20000 in
theorem ggX4_leave_X1_creditsOf : GoodIn wsX4_leave wsX1_creditsOf := goodIn_r _ [15, 16, 91, 92, 93] (by decide +kernel) (by decide +kernel)
set_option maxRecDepth 20000 in
theorem gX4_leave_X1_creditsOf : GoodIn wsX4_leave (wsV RX4 121 RX1 yX1_creditsOf wsX1_creditsOf) := goodIn_app (goodIn_of _ (by decide +kernel)) ggX4_leave_X1_creditsOf
set_option maxRecDepth 20000 in
theorem ggX4_leave_X4_dropCourse : GoodIn wsX4_leave wsX4_dropCourse := goodIn_r _ [20, 21, 22, 1, 23, 24, 25, 6, 26, 27, 28, 29, 30, 31, 32, 33, 34, 14, 35, 16, 36, 37, 38, 39, 40, 41, 42, 43, 44, 45, 46, 47, 48, 49, 50, 51, 71, 72, 73, 74, 75, 76, 77, 78, 79, 80, 81, 91, 92, 93, 82, 83, 84, 85, 86, 87, 88, 89, 90] (by decide +kernel) (by decide +kernel)
set_option maxRecDepth 20000 in
theorem gX4_leave_X4_dropCourse : GoodIn wsX4_leave (wsV RX4 126 RX4 yX4_dropCourse wsX4_dropCourse) := goodIn_app (goodIn_of _ (by decide +kernel)) ggX4_leave_X4_dropCourse
set_option maxRecDepth 20000 in
theorem ggX4_leave_X0_total : GoodIn wsX4_leave wsX0_total := goodIn_r _ [56, 57, 94, 95, 96, 97] (by decide +kernel) (by decide +kernel)
set_option maxRecDepth 20000 in
theorem gX4_leave_X0_total : GoodIn wsX4_leave (wsV RX4 181 RX0 yX0_total wsX0_total) := goodIn_app (goodIn_of _ (by decide +kernel)) ggX4_leave_X0_total
set_option maxRecDepth 20000 in
theorem ggX4_leave_X4_aidToGiveBack : GoodIn wsX4_leave wsX4_aidToGiveBack := goodIn_r _ [61, 50, 82, 83, 84, 85, 86, 87, 88, 89, 90] (by decide +kernel) (by decide +kernel)
set_option maxRecDepth 20000 in
theorem gX4_leave_X4_aidToGiveBack : GoodIn wsX4_leave (wsV RX4 184 RX4 yX4_aidToGiveBack wsX4_aidToGiveBack) := goodIn_app (goodIn_of _ (by decide +kernel)) ggX4_leave_X4_aidToGiveBack
set_option maxRecDepth 20000 in
theorem ggX4_leave_X0_takeOff : GoodIn wsX4_leave wsX0_takeOff := goodIn_r _ [65, 66, 57, 67, 68, 69, 70, 94, 95, 96, 97] (by decide +kernel) (by decide +kernel)
set_option maxRecDepth 20000 in
theorem gX4_leave_X0_takeOff : GoodIn wsX4_leave (wsV RX4 187 RX0 yX0_takeOff wsX0_takeOff) := goodIn_app (goodIn_of _ (by decide +kernel)) ggX4_leave_X0_takeOff
theorem dX4_leave_0 : decode cX4_leave 0 = .ok (.aload_n 0, 1) := by decide +kernel
theorem dX4_leave_1 : decode cX4_leave 1 = .ok (.iload_n 1, 1) := by decide +kernel
theorem dX4_leave_2 : decode cX4_leave 2 = .ok (.invokevirtual 71, 3) := by decide +kernel
theorem dX4_leave_5 : decode cX4_leave 5 = .ok (.astore_n 2, 1) := by decide +kernel
theorem dX4_leave_6 : decode cX4_leave 6 = .ok (.iconst 0, 1) := by decide +kernel
theorem dX4_leave_7 : decode cX4_leave 7 = .ok (.istore_n 3, 1) := by decide +kernel
theorem dX4_leave_8 : decode cX4_leave 8 = .ok (.iload_n 3, 1) := by decide +kernel
theorem dX4_leave_9 : decode cX4_leave 9 = .ok (.bipush 8, 2) := by decide +kernel
theorem dX4_leave_11 : decode cX4_leave 11 = .ok (.if_icmp .ge 27, 3) := by decide +kernel
theorem dX4_leave_14 : decode cX4_leave 14 = .ok (.aload_n 2, 1) := by decide +kernel
theorem dX4_leave_15 : decode cX4_leave 15 = .ok (.getfield 97, 3) := by decide +kernel
theorem dX4_leave_18 : decode cX4_leave 18 = .ok (.iload_n 3, 1) := by decide +kernel
theorem dX4_leave_19 : decode cX4_leave 19 = .ok (.invokevirtual 121, 3) := by decide +kernel
theorem dX4_leave_22 : decode cX4_leave 22 = .ok (.ifCond .le 10, 3) := by decide +kernel
theorem dX4_leave_25 : decode cX4_leave 25 = .ok (.aload_n 0, 1) := by decide +kernel
theorem dX4_leave_26 : decode cX4_leave 26 = .ok (.aload_n 2, 1) := by decide +kernel
theorem dX4_leave_27 : decode cX4_leave 27 = .ok (.iload_n 3, 1) := by decide +kernel
theorem dX4_leave_28 : decode cX4_leave 28 = .ok (.invokevirtual 126, 3) := by decide +kernel
theorem dX4_leave_31 : decode cX4_leave 31 = .ok (.pop, 1) := by decide +kernel
theorem dX4_leave_32 : decode cX4_leave 32 = .ok (.iinc 3 1, 3) := by decide +kernel
theorem dX4_leave_35 : decode cX4_leave 35 = .ok (.goto (-27), 3) := by decide +kernel
theorem dX4_leave_38 : decode cX4_leave 38 = .ok (.aload_n 0, 1) := by decide +kernel
theorem dX4_leave_39 : decode cX4_leave 39 = .ok (.aload_n 2, 1) := by decide +kernel
theorem dX4_leave_40 : decode cX4_leave 40 = .ok (.getfield 140, 3) := by decide +kernel
theorem dX4_leave_43 : decode cX4_leave 43 = .ok (.invokevirtual 181, 3) := by decide +kernel
theorem dX4_leave_46 : decode cX4_leave 46 = .ok (.invokevirtual 184, 3) := by decide +kernel
theorem dX4_leave_49 : decode cX4_leave 49 = .ok (.istore_n 3, 1) := by decide +kernel
theorem dX4_leave_50 : decode cX4_leave 50 = .ok (.aload_n 2, 1) := by decide +kernel
theorem dX4_leave_51 : decode cX4_leave 51 = .ok (.getfield 140, 3) := by decide +kernel
theorem dX4_leave_54 : decode cX4_leave 54 = .ok (.iload_n 3, 1) := by decide +kernel
theorem dX4_leave_55 : decode cX4_leave 55 = .ok (.invokevirtual 187, 3) := by decide +kernel
theorem dX4_leave_58 : decode cX4_leave 58 = .ok (.iload_n 3, 1) := by decide +kernel
theorem dX4_leave_59 : decode cX4_leave 59 = .ok (.ireturn, 1) := by decide +kernel
set_option maxRecDepth 20000 in
theorem ggX4_closeWeek_X4_endTerm : GoodIn wsX4_closeWeek wsX4_endTerm := goodIn_ca (goodIn_r _ [9, 10, 11, 12, 8, 13, 14, 15, 16, 17, 18, 19, 20, 21, 22, 23, 24, 25, 26, 27, 28, 29, 30, 31, 32, 33, 34, 35, 36, 37, 38, 39, 40, 41, 42, 43, 44, 45, 46, 47, 48, 49, 50, 51, 52, 53, 54, 55, 56, 57, 58, 59, 60, 61, 62, 63, 64, 65, 66, 67, 68, 69, 70, 71, 72, 73, 74, 75, 76, 77, 78, 79, 80, 81, 82, 83, 84, 85, 86, 87, 88, 89, 90, 91, 92, 93, 94, 95, 96, 97, 98, 99, 100, 101, 102, 103, 104, 105, 106, 107, 108, 109, 110, 131, 132, 133, 134, 135, 136, 137, 138, 139, 140, 141, 142, 143, 144, 145, 146, 147, 148, 149, 150, 151, 152, 153, 154, 155, 156, 157] (by decide +kernel) (by decide +kernel)) (goodIn_sub (fun _ h => List.mem_cons_of_mem _ (List.mem_append_right _ h)) (by decide +kernel))
set_option maxRecDepth 20000 in
theorem gX4_closeWeek_X4_endTerm : GoodIn wsX4_closeWeek (wsV RX4 193 RX4 yX4_endTerm wsX4_endTerm) := goodIn_app (goodIn_of _ (by decide +kernel)) ggX4_closeWeek_X4_endTerm
set_option maxRecDepth 20000 in
theorem ggX4_closeWeek_X4_chargeLateFees : GoodIn wsX4_closeWeek wsX4_chargeLateFees := goodIn_ca (goodIn_r _ [114, 115, 36, 116, 10, 11, 12, 8, 13, 14, 15, 16, 117, 118, 119, 120, 4, 3, 121, 122, 123, 124, 125, 126, 127, 128, 129, 130, 140, 141, 142, 143, 144, 145, 146, 147, 148, 149, 150, 131, 132, 133, 134, 135, 136, 137, 138, 139, 158, 159, 160, 161, 162] (by decide +kernel) (by decide +kernel)) (goodIn_sub (fun _ h => List.mem_cons_of_mem _ (List.mem_append_right _ h)) (by decide +kernel))
set_option maxRecDepth 20000 in
theorem gX4_closeWeek_X4_chargeLateFees : GoodIn wsX4_closeWeek (wsV RX4 196 RX4 yX4_chargeLateFees wsX4_chargeLateFees) := goodIn_app (goodIn_of _ (by decide +kernel)) ggX4_closeWeek_X4_chargeLateFees
theorem dX4_closeWeek_0 : decode cX4_closeWeek 0 = .ok (.aload_n 0, 1) := by decide +kernel
theorem dX4_closeWeek_1 : decode cX4_closeWeek 1 = .ok (.getfield 35, 3) := by decide +kernel
theorem dX4_closeWeek_4 : decode cX4_closeWeek 4 = .ok (.bipush 15, 2) := by decide +kernel
theorem dX4_closeWeek_6 : decode cX4_closeWeek 6 = .ok (.if_icmp .lt 22, 3) := by decide +kernel
theorem dX4_closeWeek_9 : decode cX4_closeWeek 9 = .ok (.aload_n 0, 1) := by decide +kernel
theorem dX4_closeWeek_10 : decode cX4_closeWeek 10 = .ok (.getfield 38, 3) := by decide +kernel
theorem dX4_closeWeek_13 : decode cX4_closeWeek 13 = .ok (.bipush 9, 2) := by decide +kernel
theorem dX4_closeWeek_15 : decode cX4_closeWeek 15 = .ok (.if_icmp .lt 13, 3) := by decide +kernel
theorem dX4_closeWeek_18 : decode cX4_closeWeek 18 = .ok (.new 107, 3) := by decide +kernel
theorem dX4_closeWeek_21 : decode cX4_closeWeek 21 = .ok (.dup, 1) := by decide +kernel
theorem dX4_closeWeek_22 : decode cX4_closeWeek 22 = .ok (.ldc 191, 2) := by decide +kernel
theorem dX4_closeWeek_24 : decode cX4_closeWeek 24 = .ok (.invokespecial 111, 3) := by decide +kernel
theorem dX4_closeWeek_27 : decode cX4_closeWeek 27 = .ok (.athrow, 1) := by decide +kernel
theorem dX4_closeWeek_28 : decode cX4_closeWeek 28 = .ok (.aload_n 0, 1) := by decide +kernel
theorem dX4_closeWeek_29 : decode cX4_closeWeek 29 = .ok (.getfield 35, 3) := by decide +kernel
theorem dX4_closeWeek_32 : decode cX4_closeWeek 32 = .ok (.bipush 15, 2) := by decide +kernel
theorem dX4_closeWeek_34 : decode cX4_closeWeek 34 = .ok (.if_icmp .lt 25, 3) := by decide +kernel
theorem dX4_closeWeek_37 : decode cX4_closeWeek 37 = .ok (.aload_n 0, 1) := by decide +kernel
theorem dX4_closeWeek_38 : decode cX4_closeWeek 38 = .ok (.invokevirtual 193, 3) := by decide +kernel
theorem dX4_closeWeek_41 : decode cX4_closeWeek 41 = .ok (.aload_n 0, 1) := by decide +kernel
theorem dX4_closeWeek_42 : decode cX4_closeWeek 42 = .ok (.iconst 0, 1) := by decide +kernel
theorem dX4_closeWeek_43 : decode cX4_closeWeek 43 = .ok (.putfield 35, 3) := by decide +kernel
theorem dX4_closeWeek_46 : decode cX4_closeWeek 46 = .ok (.aload_n 0, 1) := by decide +kernel
theorem dX4_closeWeek_47 : decode cX4_closeWeek 47 = .ok (.dup, 1) := by decide +kernel
theorem dX4_closeWeek_48 : decode cX4_closeWeek 48 = .ok (.getfield 38, 3) := by decide +kernel
theorem dX4_closeWeek_51 : decode cX4_closeWeek 51 = .ok (.iconst 1, 1) := by decide +kernel
theorem dX4_closeWeek_52 : decode cX4_closeWeek 52 = .ok (.iadd, 1) := by decide +kernel
theorem dX4_closeWeek_53 : decode cX4_closeWeek 53 = .ok (.putfield 38, 3) := by decide +kernel
theorem dX4_closeWeek_56 : decode cX4_closeWeek 56 = .ok (.goto 13, 3) := by decide +kernel
theorem dX4_closeWeek_59 : decode cX4_closeWeek 59 = .ok (.aload_n 0, 1) := by decide +kernel
theorem dX4_closeWeek_60 : decode cX4_closeWeek 60 = .ok (.dup, 1) := by decide +kernel
theorem dX4_closeWeek_61 : decode cX4_closeWeek 61 = .ok (.getfield 35, 3) := by decide +kernel
theorem dX4_closeWeek_64 : decode cX4_closeWeek 64 = .ok (.iconst 1, 1) := by decide +kernel
theorem dX4_closeWeek_65 : decode cX4_closeWeek 65 = .ok (.iadd, 1) := by decide +kernel
theorem dX4_closeWeek_66 : decode cX4_closeWeek 66 = .ok (.putfield 35, 3) := by decide +kernel
theorem dX4_closeWeek_69 : decode cX4_closeWeek 69 = .ok (.aload_n 0, 1) := by decide +kernel
theorem dX4_closeWeek_70 : decode cX4_closeWeek 70 = .ok (.invokevirtual 196, 3) := by decide +kernel
theorem dX4_closeWeek_73 : decode cX4_closeWeek 73 = .ok (.aload_n 0, 1) := by decide +kernel
theorem dX4_closeWeek_74 : decode cX4_closeWeek 74 = .ok (.getfield 35, 3) := by decide +kernel
theorem dX4_closeWeek_77 : decode cX4_closeWeek 77 = .ok (.ireturn, 1) := by decide +kernel
theorem dX4_week_0 : decode cX4_week 0 = .ok (.aload_n 0, 1) := by decide +kernel
theorem dX4_week_1 : decode cX4_week 1 = .ok (.getfield 35, 3) := by decide +kernel
theorem dX4_week_4 : decode cX4_week 4 = .ok (.ireturn, 1) := by decide +kernel
theorem dX4_term_0 : decode cX4_term 0 = .ok (.aload_n 0, 1) := by decide +kernel
theorem dX4_term_1 : decode cX4_term 1 = .ok (.getfield 38, 3) := by decide +kernel
theorem dX4_term_4 : decode cX4_term 4 = .ok (.ireturn, 1) := by decide +kernel
set_option maxRecDepth 20000 in
theorem ggX4_credits_X4_studentAt : GoodIn wsX4_credits wsX4_studentAt := goodIn_ca (goodIn_r _ [6, 7, 8, 9, 27, 28, 29, 30, 31, 32, 33, 34, 35] (by decide +kernel) (by decide +kernel)) (goodIn_sub (fun _ h => List.mem_cons_of_mem _ (List.mem_append_right _ h)) (by decide +kernel))
set_option maxRecDepth 20000 in
theorem gX4_credits_X4_studentAt : GoodIn wsX4_credits (wsV RX4 71 RX4 yX4_studentAt wsX4_studentAt) := goodIn_app (goodIn_of _ (by decide +kernel)) ggX4_credits_X4_studentAt
set_option maxRecDepth 20000 in
theorem ggX4_credits_X1_total : GoodIn wsX4_credits wsX1_total := goodIn_r _ [14, 15, 36, 37, 38] (by decide +kernel) (by decide +kernel)
set_option maxRecDepth 20000 in
theorem gX4_credits_X1_total : GoodIn wsX4_credits (wsV RX4 199 RX1 yX1_total wsX1_total) := goodIn_app (goodIn_of _ (by decide +kernel)) ggX4_credits_X1_total
theorem dX4_credits_0 : decode cX4_credits 0 = .ok (.aload_n 0, 1) := by decide +kernel
theorem dX4_credits_1 : decode cX4_credits 1 = .ok (.iload_n 1, 1) := by decide +kernel
theorem dX4_credits_2 : decode cX4_credits 2 = .ok (.invokevirtual 71, 3) := by decide +kernel
theorem dX4_credits_5 : decode cX4_credits 5 = .ok (.getfield 97, 3) := by decide +kernel
theorem dX4_credits_8 : decode cX4_credits 8 = .ok (.invokevirtual 199, 3) := by decide +kernel
theorem dX4_credits_11 : decode cX4_credits 11 = .ok (.ireturn, 1) := by decide +kernel
set_option maxRecDepth 20000 in
theorem ggX4_charged_X4_studentAt : GoodIn wsX4_charged wsX4_studentAt := goodIn_ca (goodIn_r _ [7, 8, 9, 10, 44, 45, 46, 47, 48, 49, 50, 51, 52] (by decide +kernel) (by decide +kernel)) (goodIn_sub (fun _ h => List.mem_cons_of_mem _ (List.mem_append_right _ h)) (by decide +kernel))
set_option maxRecDepth 20000 in
theorem gX4_charged_X4_studentAt : GoodIn wsX4_charged (wsV RX4 71 RX4 yX4_studentAt wsX4_studentAt) := goodIn_app (goodIn_of _ (by decide +kernel)) ggX4_charged_X4_studentAt
set_option maxRecDepth 20000 in
theorem ggX4_charged_X4_isWithin : GoodIn wsX4_charged wsX4_isWithin := goodIn_r _ [13] (by decide +kernel) (by decide +kernel)
set_option maxRecDepth 20000 in
theorem gX4_charged_X4_isWithin : GoodIn wsX4_charged (va_wsS RX4 53 yX4_isWithin wsX4_isWithin) := goodIn_app (goodIn_of _ (by decide +kernel)) ggX4_charged_X4_isWithin
set_option maxRecDepth 20000 in
theorem ggX4_charged_X4_chargesOf : GoodIn wsX4_charged wsX4_chargesOf := goodIn_r _ [17, 18, 19, 20, 21, 22, 23, 24, 25, 6, 26, 27, 28, 29, 30, 31, 32, 33, 34, 35, 36, 37, 38, 39, 40, 41, 42, 43, 53, 54, 55, 56, 57, 58, 59, 60, 61, 62, 63, 64, 65, 66, 44, 45, 46, 47, 48, 49, 50, 51, 52] (by decide +kernel) (by decide +kernel)
set_option maxRecDepth 20000 in
theorem gX4_charged_X4_chargesOf : GoodIn wsX4_charged (wsV RX4 202 RX4 yX4_chargesOf wsX4_chargesOf) := goodIn_app (goodIn_of _ (by decide +kernel)) ggX4_charged_X4_chargesOf
theorem dX4_charged_0 : decode cX4_charged 0 = .ok (.aload_n 0, 1) := by decide +kernel
theorem dX4_charged_1 : decode cX4_charged 1 = .ok (.iload_n 1, 1) := by decide +kernel
theorem dX4_charged_2 : decode cX4_charged 2 = .ok (.invokevirtual 71, 3) := by decide +kernel
theorem dX4_charged_5 : decode cX4_charged 5 = .ok (.astore_n 3, 1) := by decide +kernel
theorem dX4_charged_6 : decode cX4_charged 6 = .ok (.iload_n 2, 1) := by decide +kernel
theorem dX4_charged_7 : decode cX4_charged 7 = .ok (.iconst 0, 1) := by decide +kernel
theorem dX4_charged_8 : decode cX4_charged 8 = .ok (.iconst 2, 1) := by decide +kernel
theorem dX4_charged_9 : decode cX4_charged 9 = .ok (.invokestatic 53, 3) := by decide +kernel
theorem dX4_charged_12 : decode cX4_charged 12 = .ok (.ifCond .ne 13, 3) := by decide +kernel
theorem dX4_charged_15 : decode cX4_charged 15 = .ok (.new 57, 3) := by decide +kernel
theorem dX4_charged_18 : decode cX4_charged 18 = .ok (.dup, 1) := by decide +kernel
theorem dX4_charged_19 : decode cX4_charged 19 = .ok (.ldc 200, 2) := by decide +kernel
theorem dX4_charged_21 : decode cX4_charged 21 = .ok (.invokespecial 61, 3) := by decide +kernel
theorem dX4_charged_24 : decode cX4_charged 24 = .ok (.athrow, 1) := by decide +kernel
theorem dX4_charged_25 : decode cX4_charged 25 = .ok (.aload_n 0, 1) := by decide +kernel
theorem dX4_charged_26 : decode cX4_charged 26 = .ok (.aload_n 3, 1) := by decide +kernel
theorem dX4_charged_27 : decode cX4_charged 27 = .ok (.iconst 1, 1) := by decide +kernel
theorem dX4_charged_28 : decode cX4_charged 28 = .ok (.iload_n 2, 1) := by decide +kernel
theorem dX4_charged_29 : decode cX4_charged 29 = .ok (.ishl, 1) := by decide +kernel
theorem dX4_charged_30 : decode cX4_charged 30 = .ok (.invokevirtual 202, 3) := by decide +kernel
theorem dX4_charged_33 : decode cX4_charged 33 = .ok (.ireturn, 1) := by decide +kernel
set_option maxRecDepth 20000 in
theorem ggX4_sponsored_X4_studentAt : GoodIn wsX4_sponsored wsX4_studentAt := goodIn_ca (goodIn_r _ [5, 6, 7, 8, 49, 50, 51, 52, 53, 54, 55, 56, 57] (by decide +kernel) (by decide +kernel)) (goodIn_sub (fun _ h => List.mem_cons_of_mem _ (List.mem_append_right _ h)) (by decide +kernel))
set_option maxRecDepth 20000 in
theorem gX4_sponsored_X4_studentAt : GoodIn wsX4_sponsored (wsV RX4 71 RX4 yX4_studentAt wsX4_studentAt) := goodIn_app (goodIn_of _ (by decide +kernel)) ggX4_sponsored_X4_studentAt
set_option maxRecDepth 20000 in
theorem ggX4_sponsored_X4_sponsorPart : GoodIn wsX4_sponsored wsX4_sponsorPart := goodIn_r _ [12, 13, 14, 15, 16, 17, 18, 19, 20, 21, 4, 22, 23, 24, 25, 26, 27, 28, 29, 30, 31, 32, 33, 34, 35, 36, 37, 38, 39, 40, 41, 42, 43, 44, 45, 46, 47, 48, 58, 59, 60, 61, 62, 63, 64, 65, 66, 67, 68, 69, 70, 71, 49, 50, 51, 52, 53, 54, 55, 56, 57] (by decide +kernel) (by decide +kernel)
set_option maxRecDepth 20000 in
theorem gX4_sponsored_X4_sponsorPart : GoodIn wsX4_sponsored (wsV RX4 205 RX4 yX4_sponsorPart wsX4_sponsorPart) := goodIn_app (goodIn_of _ (by decide +kernel)) ggX4_sponsored_X4_sponsorPart
theorem dX4_sponsored_0 : decode cX4_sponsored 0 = .ok (.aload_n 0, 1) := by decide +kernel
theorem dX4_sponsored_1 : decode cX4_sponsored 1 = .ok (.aload_n 0, 1) := by decide +kernel
theorem dX4_sponsored_2 : decode cX4_sponsored 2 = .ok (.iload_n 1, 1) := by decide +kernel
theorem dX4_sponsored_3 : decode cX4_sponsored 3 = .ok (.invokevirtual 71, 3) := by decide +kernel
theorem dX4_sponsored_6 : decode cX4_sponsored 6 = .ok (.invokevirtual 205, 3) := by decide +kernel
theorem dX4_sponsored_9 : decode cX4_sponsored 9 = .ok (.ireturn, 1) := by decide +kernel
set_option maxRecDepth 20000 in
theorem ggX4_used_X4_studentAt : GoodIn wsX4_used wsX4_studentAt := goodIn_ca (goodIn_r _ [9, 1, 2, 10, 84, 85, 86, 87, 88, 89, 90, 91, 92] (by decide +kernel) (by decide +kernel)) (goodIn_sub (fun _ h => List.mem_cons_of_mem _ (List.mem_append_right _ h)) (by decide +kernel))
set_option maxRecDepth 20000 in
theorem gX4_used_X4_studentAt : GoodIn wsX4_used (wsV RX4 71 RX4 yX4_studentAt wsX4_studentAt) := goodIn_app (goodIn_of _ (by decide +kernel)) ggX4_used_X4_studentAt
set_option maxRecDepth 20000 in
theorem ggX4_used_X0_has : GoodIn wsX4_used wsX0_has := goodIn_r _ [15, 16, 93, 94, 95, 96] (by decide +kernel) (by decide +kernel)
set_option maxRecDepth 20000 in
theorem gX4_used_X0_has : GoodIn wsX4_used (wsV RX4 208 RX0 yX0_has wsX0_has) := goodIn_app (goodIn_of _ (by decide +kernel)) ggX4_used_X0_has
set_option maxRecDepth 20000 in
theorem ggX4_used_X4_unsponsored : GoodIn wsX4_used wsX4_unsponsored := goodIn_r _ [20, 21, 22, 23, 8, 24, 25, 26, 27, 28, 29, 30, 31, 32, 33, 34, 35, 36, 37, 38, 39, 40, 41, 42, 43, 44, 45, 46, 47, 48, 49, 50, 51, 52, 53, 54, 55, 56, 57, 58, 59, 60, 73, 74, 75, 76, 77, 78, 79, 80, 81, 82, 83, 97, 98, 99, 84, 85, 86, 87, 88, 89, 90, 91, 92] (by decide +kernel) (by decide +kernel)
set_option maxRecDepth 20000 in
theorem gX4_used_X4_unsponsored : GoodIn wsX4_used (wsV RX4 211 RX4 yX4_unsponsored wsX4_unsponsored) := goodIn_app (goodIn_of _ (by decide +kernel)) ggX4_used_X4_unsponsored
set_option maxRecDepth 20000 in
theorem ggX4_used_X0_cover : GoodIn wsX4_used wsX0_cover := goodIn_r _ [64, 65, 66, 58, 59, 60, 67, 68, 93, 94, 95, 96] (by decide +kernel) (by decide +kernel)
set_option maxRecDepth 20000 in
theorem gX4_used_X0_cover : GoodIn wsX4_used (wsV RX4 214 RX0 yX0_cover wsX0_cover) := goodIn_app (goodIn_of _ (by decide +kernel)) ggX4_used_X0_cover
set_option maxRecDepth 20000 in
theorem ggX4_used_X0_useOf : GoodIn wsX4_used wsX0_useOf := goodIn_r _ [72, 67, 93, 94, 95, 96] (by decide +kernel) (by decide +kernel)
set_option maxRecDepth 20000 in
theorem gX4_used_X0_useOf : GoodIn wsX4_used (wsV RX4 217 RX0 yX0_useOf wsX0_useOf) := goodIn_app (goodIn_of _ (by decide +kernel)) ggX4_used_X0_useOf
theorem dX4_used_0 : decode cX4_used 0 = .ok (.aload_n 0, 1) := by decide +kernel
theorem dX4_used_1 : decode cX4_used 1 = .ok (.iload_n 1, 1) := by decide +kernel
theorem dX4_used_2 : decode cX4_used 2 = .ok (.invokevirtual 71, 3) := by decide +kernel
theorem dX4_used_5 : decode cX4_used 5 = .ok (.astore_n 3, 1) := by decide +kernel
theorem dX4_used_6 : decode cX4_used 6 = .ok (.aload_n 3, 1) := by decide +kernel
theorem dX4_used_7 : decode cX4_used 7 = .ok (.getfield 140, 3) := by decide +kernel
theorem dX4_used_10 : decode cX4_used 10 = .ok (.iload_n 2, 1) := by decide +kernel
theorem dX4_used_11 : decode cX4_used 11 = .ok (.invokevirtual 208, 3) := by decide +kernel
theorem dX4_used_14 : decode cX4_used 14 = .ok (.ifCond .ne 13, 3) := by decide +kernel
theorem dX4_used_17 : decode cX4_used 17 = .ok (.new 116, 3) := by decide +kernel
theorem dX4_used_20 : decode cX4_used 20 = .ok (.dup, 1) := by decide +kernel
theorem dX4_used_21 : decode cX4_used 21 = .ok (.ldc 209, 2) := by decide +kernel
theorem dX4_used_23 : decode cX4_used 23 = .ok (.invokespecial 120, 3) := by decide +kernel
theorem dX4_used_26 : decode cX4_used 26 = .ok (.athrow, 1) := by decide +kernel
theorem dX4_used_27 : decode cX4_used 27 = .ok (.aload_n 3, 1) := by decide +kernel
theorem dX4_used_28 : decode cX4_used 28 = .ok (.getfield 140, 3) := by decide +kernel
theorem dX4_used_31 : decode cX4_used 31 = .ok (.aload_n 0, 1) := by decide +kernel
theorem dX4_used_32 : decode cX4_used 32 = .ok (.aload_n 3, 1) := by decide +kernel
theorem dX4_used_33 : decode cX4_used 33 = .ok (.invokevirtual 211, 3) := by decide +kernel
theorem dX4_used_36 : decode cX4_used 36 = .ok (.aload_n 3, 1) := by decide +kernel
theorem dX4_used_37 : decode cX4_used 37 = .ok (.getfield 84, 3) := by decide +kernel
theorem dX4_used_40 : decode cX4_used 40 = .ok (.invokevirtual 214, 3) := by decide +kernel
theorem dX4_used_43 : decode cX4_used 43 = .ok (.pop, 1) := by decide +kernel
theorem dX4_used_44 : decode cX4_used 44 = .ok (.aload_n 3, 1) := by decide +kernel
theorem dX4_used_45 : decode cX4_used 45 = .ok (.getfield 140, 3) := by decide +kernel
theorem dX4_used_48 : decode cX4_used 48 = .ok (.iload_n 2, 1) := by decide +kernel
theorem dX4_used_49 : decode cX4_used 49 = .ok (.invokevirtual 217, 3) := by decide +kernel
theorem dX4_used_52 : decode cX4_used 52 = .ok (.ireturn, 1) := by decide +kernel
set_option maxRecDepth 20000 in
theorem ggX4_amountOf_X4_studentAt : GoodIn wsX4_amountOf wsX4_studentAt := goodIn_ca (goodIn_r _ [8, 1, 2, 9, 32, 33, 34, 35, 36, 37, 38, 39, 40] (by decide +kernel) (by decide +kernel)) (goodIn_sub (fun _ h => List.mem_cons_of_mem _ (List.mem_append_right _ h)) (by decide +kernel))
set_option maxRecDepth 20000 in
theorem gX4_amountOf_X4_studentAt : GoodIn wsX4_amountOf (wsV RX4 71 RX4 yX4_studentAt wsX4_studentAt) := goodIn_app (goodIn_of _ (by decide +kernel)) ggX4_amountOf_X4_studentAt
set_option maxRecDepth 20000 in
theorem ggX4_amountOf_X0_has : GoodIn wsX4_amountOf wsX0_has := goodIn_r _ [14, 15, 41, 42, 43, 44] (by decide +kernel) (by decide +kernel)
set_option maxRecDepth 20000 in
theorem gX4_amountOf_X0_has : GoodIn wsX4_amountOf (wsV RX4 208 RX0 yX0_has wsX0_has) := goodIn_app (goodIn_of _ (by decide +kernel)) ggX4_amountOf_X0_has
set_option maxRecDepth 20000 in
theorem ggX4_amountOf_X0_sumOf : GoodIn wsX4_amountOf wsX0_sumOf := goodIn_r _ [19, 20, 41, 42, 43, 44] (by decide +kernel) (by decide +kernel)
set_option maxRecDepth 20000 in
theorem gX4_amountOf_X0_sumOf : GoodIn wsX4_amountOf (wsV RX4 220 RX0 yX0_sumOf wsX0_sumOf) := goodIn_app (goodIn_of _ (by decide +kernel)) ggX4_amountOf_X0_sumOf
theorem dX4_amountOf_0 : decode cX4_amountOf 0 = .ok (.aload_n 0, 1) := by decide +kernel
theorem dX4_amountOf_1 : decode cX4_amountOf 1 = .ok (.iload_n 1, 1) := by decide +kernel
theorem dX4_amountOf_2 : decode cX4_amountOf 2 = .ok (.invokevirtual 71, 3) := by decide +kernel
theorem dX4_amountOf_5 : decode cX4_amountOf 5 = .ok (.astore_n 3, 1) := by decide +kernel
theorem dX4_amountOf_6 : decode cX4_amountOf 6 = .ok (.aload_n 3, 1) := by decide +kernel
theorem dX4_amountOf_7 : decode cX4_amountOf 7 = .ok (.getfield 140, 3) := by decide +kernel
theorem dX4_amountOf_10 : decode cX4_amountOf 10 = .ok (.iload_n 2, 1) := by decide +kernel
theorem dX4_amountOf_11 : decode cX4_amountOf 11 = .ok (.invokevirtual 208, 3) := by decide +kernel
theorem dX4_amountOf_14 : decode cX4_amountOf 14 = .ok (.ifCond .ne 13, 3) := by decide +kernel
theorem dX4_amountOf_17 : decode cX4_amountOf 17 = .ok (.new 116, 3) := by decide +kernel
theorem dX4_amountOf_20 : decode cX4_amountOf 20 = .ok (.dup, 1) := by decide +kernel
theorem dX4_amountOf_21 : decode cX4_amountOf 21 = .ok (.ldc 209, 2) := by decide +kernel
theorem dX4_amountOf_23 : decode cX4_amountOf 23 = .ok (.invokespecial 120, 3) := by decide +kernel
theorem dX4_amountOf_26 : decode cX4_amountOf 26 = .ok (.athrow, 1) := by decide +kernel
theorem dX4_amountOf_27 : decode cX4_amountOf 27 = .ok (.aload_n 3, 1) := by decide +kernel
theorem dX4_amountOf_28 : decode cX4_amountOf 28 = .ok (.getfield 140, 3) := by decide +kernel
theorem dX4_amountOf_31 : decode cX4_amountOf 31 = .ok (.iload_n 2, 1) := by decide +kernel
theorem dX4_amountOf_32 : decode cX4_amountOf 32 = .ok (.invokevirtual 220, 3) := by decide +kernel
theorem dX4_amountOf_35 : decode cX4_amountOf 35 = .ok (.ireturn, 1) := by decide +kernel
set_option maxRecDepth 20000 in
theorem ggX4_paid_X4_studentAt : GoodIn wsX4_paid wsX4_studentAt := goodIn_ca (goodIn_r _ [6, 7, 8, 9, 21, 22, 23, 24, 25, 26, 27, 28, 29] (by decide +kernel) (by decide +kernel)) (goodIn_sub (fun _ h => List.mem_cons_of_mem _ (List.mem_append_right _ h)) (by decide +kernel))
set_option maxRecDepth 20000 in
theorem gX4_paid_X4_studentAt : GoodIn wsX4_paid (wsV RX4 71 RX4 yX4_studentAt wsX4_studentAt) := goodIn_app (goodIn_of _ (by decide +kernel)) ggX4_paid_X4_studentAt
theorem dX4_paid_0 : decode cX4_paid 0 = .ok (.aload_n 0, 1) := by decide +kernel
theorem dX4_paid_1 : decode cX4_paid 1 = .ok (.iload_n 1, 1) := by decide +kernel
theorem dX4_paid_2 : decode cX4_paid 2 = .ok (.invokevirtual 71, 3) := by decide +kernel
theorem dX4_paid_5 : decode cX4_paid 5 = .ok (.getfield 153, 3) := by decide +kernel
theorem dX4_paid_8 : decode cX4_paid 8 = .ok (.ireturn, 1) := by decide +kernel
set_option maxRecDepth 20000 in
theorem ggX4_owed_X4_studentAt : GoodIn wsX4_owed wsX4_studentAt := goodIn_ca (goodIn_r _ [5, 6, 7, 8, 69, 70, 71, 72, 73, 74, 75, 76, 77] (by decide +kernel) (by decide +kernel)) (goodIn_sub (fun _ h => List.mem_cons_of_mem _ (List.mem_append_right _ h)) (by decide +kernel))
set_option maxRecDepth 20000 in
theorem gX4_owed_X4_studentAt : GoodIn wsX4_owed (wsV RX4 71 RX4 yX4_studentAt wsX4_studentAt) := goodIn_app (goodIn_of _ (by decide +kernel)) ggX4_owed_X4_studentAt
set_option maxRecDepth 20000 in
theorem ggX4_owed_X4_balanceOf : GoodIn wsX4_owed wsX4_balanceOf := goodIn_r _ [12, 13, 14, 15, 16, 17, 18, 4, 19, 20, 21, 22, 23, 24, 25, 26, 27, 28, 29, 30, 31, 32, 33, 34, 35, 36, 37, 38, 39, 40, 41, 42, 43, 44, 45, 46, 47, 48, 49, 50, 51, 52, 53, 54, 55, 56, 57, 58, 59, 60, 61, 62, 63, 64, 65, 66, 67, 68, 78, 79, 80, 81, 82, 83, 84, 85, 86, 87, 88, 89, 90, 91, 69, 70, 71, 72, 73, 74, 75, 76, 77, 92, 93, 94, 95] (by decide +kernel) (by decide +kernel)
set_option maxRecDepth 20000 in
theorem gX4_owed_X4_balanceOf : GoodIn wsX4_owed (wsV RX4 165 RX4 yX4_balanceOf wsX4_balanceOf) := goodIn_app (goodIn_of _ (by decide +kernel)) ggX4_owed_X4_balanceOf
theorem dX4_owed_0 : decode cX4_owed 0 = .ok (.aload_n 0, 1) := by decide +kernel
theorem dX4_owed_1 : decode cX4_owed 1 = .ok (.aload_n 0, 1) := by decide +kernel
theorem dX4_owed_2 : decode cX4_owed 2 = .ok (.iload_n 1, 1) := by decide +kernel
theorem dX4_owed_3 : decode cX4_owed 3 = .ok (.invokevirtual 71, 3) := by decide +kernel
theorem dX4_owed_6 : decode cX4_owed 6 = .ok (.invokevirtual 165, 3) := by decide +kernel
theorem dX4_owed_9 : decode cX4_owed 9 = .ok (.ireturn, 1) := by decide +kernel
set_option maxRecDepth 20000 in
theorem ggX4_hasHold_X4_studentAt : GoodIn wsX4_hasHold wsX4_studentAt := goodIn_ca (goodIn_r _ [6, 7, 8, 9, 70, 71, 72, 73, 74, 75, 76, 77, 78] (by decide +kernel) (by decide +kernel)) (goodIn_sub (fun _ h => List.mem_cons_of_mem _ (List.mem_append_right _ h)) (by decide +kernel))
set_option maxRecDepth 20000 in
theorem gX4_hasHold_X4_studentAt : GoodIn wsX4_hasHold (wsV RX4 71 RX4 yX4_studentAt wsX4_studentAt) := goodIn_app (goodIn_of _ (by decide +kernel)) ggX4_hasHold_X4_studentAt
set_option maxRecDepth 20000 in
theorem ggX4_hasHold_X4_balanceOf : GoodIn wsX4_hasHold wsX4_balanceOf := goodIn_r _ [13, 14, 15, 16, 17, 18, 19, 5, 20, 21, 22, 23, 24, 25, 26, 27, 28, 29, 30, 31, 32, 33, 34, 35, 36, 37, 38, 39, 40, 41, 42, 43, 44, 45, 46, 47, 48, 49, 50, 51, 52, 53, 54, 55, 56, 57, 58, 59, 60, 61, 62, 63, 64, 65, 66, 67, 68, 69, 79, 80, 81, 82, 83, 84, 85, 86, 87, 88, 89, 90, 91, 92, 70, 71, 72, 73, 74, 75, 76, 77, 78, 93, 94, 95, 96] (by decide +kernel) (by decide +kernel)
set_option maxRecDepth 20000 in
theorem gX4_hasHold_X4_balanceOf : GoodIn wsX4_hasHold (wsV RX4 165 RX4 yX4_balanceOf wsX4_balanceOf) := goodIn_app (goodIn_of _ (by decide +kernel)) ggX4_hasHold_X4_balanceOf
theorem dX4_hasHold_0 : decode cX4_hasHold 0 = .ok (.aload_n 0, 1) := by decide +kernel
theorem dX4_hasHold_1 : decode cX4_hasHold 1 = .ok (.aload_n 0, 1) := by decide +kernel
theorem dX4_hasHold_2 : decode cX4_hasHold 2 = .ok (.iload_n 1, 1) := by decide +kernel
theorem dX4_hasHold_3 : decode cX4_hasHold 3 = .ok (.invokevirtual 71, 3) := by decide +kernel
theorem dX4_hasHold_6 : decode cX4_hasHold 6 = .ok (.invokevirtual 165, 3) := by decide +kernel
theorem dX4_hasHold_9 : decode cX4_hasHold 9 = .ok (.aload_n 0, 1) := by decide +kernel
theorem dX4_hasHold_10 : decode cX4_hasHold 10 = .ok (.getfield 32, 3) := by decide +kernel
theorem dX4_hasHold_13 : decode cX4_hasHold 13 = .ok (.if_icmp .le 7, 3) := by decide +kernel
theorem dX4_hasHold_16 : decode cX4_hasHold 16 = .ok (.iconst 1, 1) := by decide +kernel
theorem dX4_hasHold_17 : decode cX4_hasHold 17 = .ok (.goto 4, 3) := by decide +kernel
theorem dX4_hasHold_20 : decode cX4_hasHold 20 = .ok (.iconst 0, 1) := by decide +kernel
theorem dX4_hasHold_21 : decode cX4_hasHold 21 = .ok (.ireturn, 1) := by decide +kernel
theorem dX4_isWithin_0 : decode cX4_isWithin 0 = .ok (.iload_n 0, 1) := by decide +kernel
theorem dX4_isWithin_1 : decode cX4_isWithin 1 = .ok (.iload_n 1, 1) := by decide +kernel
theorem dX4_isWithin_2 : decode cX4_isWithin 2 = .ok (.if_icmp .lt 12, 3) := by decide +kernel
theorem dX4_isWithin_5 : decode cX4_isWithin 5 = .ok (.iload_n 0, 1) := by decide +kernel
theorem dX4_isWithin_6 : decode cX4_isWithin 6 = .ok (.iload_n 2, 1) := by decide +kernel
theorem dX4_isWithin_7 : decode cX4_isWithin 7 = .ok (.if_icmp .gt 7, 3) := by decide +kernel
theorem dX4_isWithin_10 : decode cX4_isWithin 10 = .ok (.iconst 1, 1) := by decide +kernel
theorem dX4_isWithin_11 : decode cX4_isWithin 11 = .ok (.goto 4, 3) := by decide +kernel
theorem dX4_isWithin_14 : decode cX4_isWithin 14 = .ok (.iconst 0, 1) := by decide +kernel
theorem dX4_isWithin_15 : decode cX4_isWithin 15 = .ok (.ireturn, 1) := by decide +kernel
theorem dX4_studentAt_0 : decode cX4_studentAt 0 = .ok (.iload_n 1, 1) := by decide +kernel
theorem dX4_studentAt_1 : decode cX4_studentAt 1 = .ok (.ifCond .lt 21, 3) := by decide +kernel
theorem dX4_studentAt_4 : decode cX4_studentAt 4 = .ok (.iload_n 1, 1) := by decide +kernel
theorem dX4_studentAt_5 : decode cX4_studentAt 5 = .ok (.aload_n 0, 1) := by decide +kernel
theorem dX4_studentAt_6 : decode cX4_studentAt 6 = .ok (.getfield 11, 3) := by decide +kernel
theorem dX4_studentAt_9 : decode cX4_studentAt 9 = .ok (.arraylength, 1) := by decide +kernel
theorem dX4_studentAt_10 : decode cX4_studentAt 10 = .ok (.if_icmp .ge 12, 3) := by decide +kernel
theorem dX4_studentAt_13 : decode cX4_studentAt 13 = .ok (.aload_n 0, 1) := by decide +kernel
theorem dX4_studentAt_14 : decode cX4_studentAt 14 = .ok (.getfield 11, 3) := by decide +kernel
theorem dX4_studentAt_17 : decode cX4_studentAt 17 = .ok (.iload_n 1, 1) := by decide +kernel
theorem dX4_studentAt_18 : decode cX4_studentAt 18 = .ok (.aaload, 1) := by decide +kernel
theorem dX4_studentAt_19 : decode cX4_studentAt 19 = .ok (.goto 4, 3) := by decide +kernel
theorem dX4_studentAt_22 : decode cX4_studentAt 22 = .ok (.aconst_null, 1) := by decide +kernel
theorem dX4_studentAt_23 : decode cX4_studentAt 23 = .ok (.astore_n 2, 1) := by decide +kernel
theorem dX4_studentAt_24 : decode cX4_studentAt 24 = .ok (.aload_n 2, 1) := by decide +kernel
theorem dX4_studentAt_25 : decode cX4_studentAt 25 = .ok (.ifnonnull 13, 3) := by decide +kernel
theorem dX4_studentAt_28 : decode cX4_studentAt 28 = .ok (.new 116, 3) := by decide +kernel
theorem dX4_studentAt_31 : decode cX4_studentAt 31 = .ok (.dup, 1) := by decide +kernel
theorem dX4_studentAt_32 : decode cX4_studentAt 32 = .ok (.ldc 223, 2) := by decide +kernel
theorem dX4_studentAt_34 : decode cX4_studentAt 34 = .ok (.invokespecial 120, 3) := by decide +kernel
theorem dX4_studentAt_37 : decode cX4_studentAt 37 = .ok (.athrow, 1) := by decide +kernel
theorem dX4_studentAt_38 : decode cX4_studentAt 38 = .ok (.aload_n 2, 1) := by decide +kernel
theorem dX4_studentAt_39 : decode cX4_studentAt 39 = .ok (.areturn, 1) := by decide +kernel
theorem dX4_weekNumber_0 : decode cX4_weekNumber 0 = .ok (.aload_n 0, 1) := by decide +kernel
theorem dX4_weekNumber_1 : decode cX4_weekNumber 1 = .ok (.getfield 38, 3) := by decide +kernel
theorem dX4_weekNumber_4 : decode cX4_weekNumber 4 = .ok (.bipush 16, 2) := by decide +kernel
theorem dX4_weekNumber_6 : decode cX4_weekNumber 6 = .ok (.imul, 1) := by decide +kernel
theorem dX4_weekNumber_7 : decode cX4_weekNumber 7 = .ok (.aload_n 0, 1) := by decide +kernel
theorem dX4_weekNumber_8 : decode cX4_weekNumber 8 = .ok (.getfield 35, 3) := by decide +kernel
theorem dX4_weekNumber_11 : decode cX4_weekNumber 11 = .ok (.iadd, 1) := by decide +kernel
theorem dX4_weekNumber_12 : decode cX4_weekNumber 12 = .ok (.ireturn, 1) := by decide +kernel
theorem dX4_placeOfRate_0 : decode cX4_placeOfRate 0 = .ok (.iload_n 0, 1) := by decide +kernel
theorem dX4_placeOfRate_1 : decode cX4_placeOfRate 1 = .ok (.ifCond .lt 8, 3) := by decide +kernel
theorem dX4_placeOfRate_4 : decode cX4_placeOfRate 4 = .ok (.iload_n 0, 1) := by decide +kernel
theorem dX4_placeOfRate_5 : decode cX4_placeOfRate 5 = .ok (.iconst 1, 1) := by decide +kernel
theorem dX4_placeOfRate_6 : decode cX4_placeOfRate 6 = .ok (.if_icmp .le 5, 3) := by decide +kernel
theorem dX4_placeOfRate_9 : decode cX4_placeOfRate 9 = .ok (.iconst (-1), 1) := by decide +kernel
theorem dX4_placeOfRate_10 : decode cX4_placeOfRate 10 = .ok (.ireturn, 1) := by decide +kernel
theorem dX4_placeOfRate_11 : decode cX4_placeOfRate 11 = .ok (.iconst 2, 1) := by decide +kernel
theorem dX4_placeOfRate_12 : decode cX4_placeOfRate 12 = .ok (.iload_n 0, 1) := by decide +kernel
theorem dX4_placeOfRate_13 : decode cX4_placeOfRate 13 = .ok (.imul, 1) := by decide +kernel
theorem dX4_placeOfRate_14 : decode cX4_placeOfRate 14 = .ok (.iload_n 1, 1) := by decide +kernel
theorem dX4_placeOfRate_15 : decode cX4_placeOfRate 15 = .ok (.ifCond .eq 7, 3) := by decide +kernel
theorem dX4_placeOfRate_18 : decode cX4_placeOfRate 18 = .ok (.iconst 1, 1) := by decide +kernel
theorem dX4_placeOfRate_19 : decode cX4_placeOfRate 19 = .ok (.goto 4, 3) := by decide +kernel
theorem dX4_placeOfRate_22 : decode cX4_placeOfRate 22 = .ok (.iconst 0, 1) := by decide +kernel
theorem dX4_placeOfRate_23 : decode cX4_placeOfRate 23 = .ok (.iadd, 1) := by decide +kernel
theorem dX4_placeOfRate_24 : decode cX4_placeOfRate 24 = .ok (.ireturn, 1) := by decide +kernel
theorem dX4_rateAt_0 : decode cX4_rateAt 0 = .ok (.iload_n 1, 1) := by decide +kernel
theorem dX4_rateAt_1 : decode cX4_rateAt 1 = .ok (.ifCond .lt 21, 3) := by decide +kernel
theorem dX4_rateAt_4 : decode cX4_rateAt 4 = .ok (.iload_n 1, 1) := by decide +kernel
theorem dX4_rateAt_5 : decode cX4_rateAt 5 = .ok (.aload_n 0, 1) := by decide +kernel
theorem dX4_rateAt_6 : decode cX4_rateAt 6 = .ok (.getfield 15, 3) := by decide +kernel
theorem dX4_rateAt_9 : decode cX4_rateAt 9 = .ok (.arraylength, 1) := by decide +kernel
theorem dX4_rateAt_10 : decode cX4_rateAt 10 = .ok (.if_icmp .ge 12, 3) := by decide +kernel
theorem dX4_rateAt_13 : decode cX4_rateAt 13 = .ok (.aload_n 0, 1) := by decide +kernel
theorem dX4_rateAt_14 : decode cX4_rateAt 14 = .ok (.getfield 15, 3) := by decide +kernel
theorem dX4_rateAt_17 : decode cX4_rateAt 17 = .ok (.iload_n 1, 1) := by decide +kernel
theorem dX4_rateAt_18 : decode cX4_rateAt 18 = .ok (.iaload, 1) := by decide +kernel
theorem dX4_rateAt_19 : decode cX4_rateAt 19 = .ok (.goto 4, 3) := by decide +kernel
theorem dX4_rateAt_22 : decode cX4_rateAt 22 = .ok (.iconst 0, 1) := by decide +kernel
theorem dX4_rateAt_23 : decode cX4_rateAt 23 = .ok (.ireturn, 1) := by decide +kernel
theorem dX4_shareNow_0 : decode cX4_shareNow 0 = .ok (.aload_n 0, 1) := by decide +kernel
theorem dX4_shareNow_1 : decode cX4_shareNow 1 = .ok (.getfield 35, 3) := by decide +kernel
theorem dX4_shareNow_4 : decode cX4_shareNow 4 = .ok (.ifCond .lt 27, 3) := by decide +kernel
theorem dX4_shareNow_7 : decode cX4_shareNow 7 = .ok (.aload_n 0, 1) := by decide +kernel
theorem dX4_shareNow_8 : decode cX4_shareNow 8 = .ok (.getfield 35, 3) := by decide +kernel
theorem dX4_shareNow_11 : decode cX4_shareNow 11 = .ok (.aload_n 0, 1) := by decide +kernel
theorem dX4_shareNow_12 : decode cX4_shareNow 12 = .ok (.getfield 19, 3) := by decide +kernel
theorem dX4_shareNow_15 : decode cX4_shareNow 15 = .ok (.arraylength, 1) := by decide +kernel
theorem dX4_shareNow_16 : decode cX4_shareNow 16 = .ok (.if_icmp .ge 15, 3) := by decide +kernel
theorem dX4_shareNow_19 : decode cX4_shareNow 19 = .ok (.aload_n 0, 1) := by decide +kernel
theorem dX4_shareNow_20 : decode cX4_shareNow 20 = .ok (.getfield 19, 3) := by decide +kernel
theorem dX4_shareNow_23 : decode cX4_shareNow 23 = .ok (.aload_n 0, 1) := by decide +kernel
theorem dX4_shareNow_24 : decode cX4_shareNow 24 = .ok (.getfield 35, 3) := by decide +kernel
theorem dX4_shareNow_27 : decode cX4_shareNow 27 = .ok (.iaload, 1) := by decide +kernel
theorem dX4_shareNow_28 : decode cX4_shareNow 28 = .ok (.goto 4, 3) := by decide +kernel
theorem dX4_shareNow_31 : decode cX4_shareNow 31 = .ok (.iconst 0, 1) := by decide +kernel
theorem dX4_shareNow_32 : decode cX4_shareNow 32 = .ok (.ireturn, 1) := by decide +kernel
theorem dX4_priceOf_0 : decode cX4_priceOf 0 = .ok (.iload_n 1, 1) := by decide +kernel
theorem dX4_priceOf_1 : decode cX4_priceOf 1 = .ok (.aload_n 0, 1) := by decide +kernel
theorem dX4_priceOf_2 : decode cX4_priceOf 2 = .ok (.getfield 22, 3) := by decide +kernel
theorem dX4_priceOf_5 : decode cX4_priceOf 5 = .ok (.if_icmp .gt 7, 3) := by decide +kernel
theorem dX4_priceOf_8 : decode cX4_priceOf 8 = .ok (.iload_n 1, 1) := by decide +kernel
theorem dX4_priceOf_9 : decode cX4_priceOf 9 = .ok (.iload_n 2, 1) := by decide +kernel
theorem dX4_priceOf_10 : decode cX4_priceOf 10 = .ok (.imul, 1) := by decide +kernel
theorem dX4_priceOf_11 : decode cX4_priceOf 11 = .ok (.ireturn, 1) := by decide +kernel
theorem dX4_priceOf_12 : decode cX4_priceOf 12 = .ok (.iload_n 1, 1) := by decide +kernel
theorem dX4_priceOf_13 : decode cX4_priceOf 13 = .ok (.aload_n 0, 1) := by decide +kernel
theorem dX4_priceOf_14 : decode cX4_priceOf 14 = .ok (.getfield 26, 3) := by decide +kernel
theorem dX4_priceOf_17 : decode cX4_priceOf 17 = .ok (.if_icmp .gt 10, 3) := by decide +kernel
theorem dX4_priceOf_20 : decode cX4_priceOf 20 = .ok (.aload_n 0, 1) := by decide +kernel
theorem dX4_priceOf_21 : decode cX4_priceOf 21 = .ok (.getfield 22, 3) := by decide +kernel
theorem dX4_priceOf_24 : decode cX4_priceOf 24 = .ok (.iload_n 2, 1) := by decide +kernel
theorem dX4_priceOf_25 : decode cX4_priceOf 25 = .ok (.imul, 1) := by decide +kernel
theorem dX4_priceOf_26 : decode cX4_priceOf 26 = .ok (.ireturn, 1) := by decide +kernel
theorem dX4_priceOf_27 : decode cX4_priceOf 27 = .ok (.aload_n 0, 1) := by decide +kernel
theorem dX4_priceOf_28 : decode cX4_priceOf 28 = .ok (.getfield 22, 3) := by decide +kernel
theorem dX4_priceOf_31 : decode cX4_priceOf 31 = .ok (.iload_n 1, 1) := by decide +kernel
theorem dX4_priceOf_32 : decode cX4_priceOf 32 = .ok (.iadd, 1) := by decide +kernel
theorem dX4_priceOf_33 : decode cX4_priceOf 33 = .ok (.aload_n 0, 1) := by decide +kernel
theorem dX4_priceOf_34 : decode cX4_priceOf 34 = .ok (.getfield 26, 3) := by decide +kernel
theorem dX4_priceOf_37 : decode cX4_priceOf 37 = .ok (.isub, 1) := by decide +kernel
theorem dX4_priceOf_38 : decode cX4_priceOf 38 = .ok (.iload_n 2, 1) := by decide +kernel
theorem dX4_priceOf_39 : decode cX4_priceOf 39 = .ok (.imul, 1) := by decide +kernel
theorem dX4_priceOf_40 : decode cX4_priceOf 40 = .ok (.ireturn, 1) := by decide +kernel
set_option maxRecDepth 20000 in
theorem ggX4_dropCourse_X4_placeOfRate : GoodIn wsX4_dropCourse wsX4_placeOfRate := goodIn_r _ [8] (by decide +kernel) (by decide +kernel)
set_option maxRecDepth 20000 in
theorem gX4_dropCourse_X4_placeOfRate : GoodIn wsX4_dropCourse (va_wsS RX4 48 yX4_placeOfRate wsX4_placeOfRate) := goodIn_app (goodIn_of _ (by decide +kernel)) ggX4_dropCourse_X4_placeOfRate
set_option maxRecDepth 20000 in
theorem ggX4_dropCourse_X4_rateAt : GoodIn wsX4_dropCourse wsX4_rateAt := goodIn_r _ [12, 13, 50, 51, 52, 53, 54, 55, 56, 57, 58] (by decide +kernel) (by decide +kernel)
set_option maxRecDepth 20000 in
theorem gX4_dropCourse_X4_rateAt : GoodIn wsX4_dropCourse (wsV RX4 225 RX4 yX4_rateAt wsX4_rateAt) := goodIn_app (goodIn_of _ (by decide +kernel)) ggX4_dropCourse_X4_rateAt
set_option maxRecDepth 20000 in
theorem ggX4_dropCourse_X1_total : GoodIn wsX4_dropCourse wsX1_total := goodIn_r _ [18, 19, 47, 48, 49] (by decide +kernel) (by decide +kernel)
set_option maxRecDepth 20000 in
theorem gX4_dropCourse_X1_total : GoodIn wsX4_dropCourse (wsV RX4 199 RX1 yX1_total wsX1_total) := goodIn_app (goodIn_of _ (by decide +kernel)) ggX4_dropCourse_X1_total
set_option maxRecDepth 20000 in
theorem ggX4_dropCourse_X4_priceOf : GoodIn wsX4_dropCourse wsX4_priceOf := goodIn_r _ [23, 24, 25, 50, 51, 52, 53, 54, 55, 56, 57, 58] (by decide +kernel) (by decide +kernel)
set_option maxRecDepth 20000 in
theorem gX4_dropCourse_X4_priceOf : GoodIn wsX4_dropCourse (wsV RX4 228 RX4 yX4_priceOf wsX4_priceOf) := goodIn_app (goodIn_of _ (by decide +kernel)) ggX4_dropCourse_X4_priceOf
set_option maxRecDepth 20000 in
theorem ggX4_dropCourse_X1_remove : GoodIn wsX4_dropCourse wsX1_remove := goodIn_r _ [29, 19, 47, 48, 49] (by decide +kernel) (by decide +kernel)
set_option maxRecDepth 20000 in
theorem gX4_dropCourse_X1_remove : GoodIn wsX4_dropCourse (wsV RX4 231 RX1 yX1_remove wsX1_remove) := goodIn_app (goodIn_of _ (by decide +kernel)) ggX4_dropCourse_X1_remove
set_option maxRecDepth 20000 in
theorem ggX4_dropCourse_X4_shareNow : GoodIn wsX4_dropCourse wsX4_shareNow := goodIn_r _ [33, 34, 35, 50, 51, 52, 53, 54, 55, 56, 57, 58] (by decide +kernel) (by decide +kernel)
set_option maxRecDepth 20000 in
theorem gX4_dropCourse_X4_shareNow : GoodIn wsX4_dropCourse (wsV RX4 234 RX4 yX4_shareNow wsX4_shareNow) := goodIn_app (goodIn_of _ (by decide +kernel)) ggX4_dropCourse_X4_shareNow
theorem dX4_dropCourse_0 : decode cX4_dropCourse 0 = .ok (.aload_n 0, 1) := by decide +kernel
theorem dX4_dropCourse_1 : decode cX4_dropCourse 1 = .ok (.aload_n 1, 1) := by decide +kernel
theorem dX4_dropCourse_2 : decode cX4_dropCourse 2 = .ok (.getfield 77, 3) := by decide +kernel
theorem dX4_dropCourse_5 : decode cX4_dropCourse 5 = .ok (.aload_n 1, 1) := by decide +kernel
theorem dX4_dropCourse_6 : decode cX4_dropCourse 6 = .ok (.getfield 80, 3) := by decide +kernel
theorem dX4_dropCourse_9 : decode cX4_dropCourse 9 = .ok (.invokestatic 48, 3) := by decide +kernel
theorem dX4_dropCourse_12 : decode cX4_dropCourse 12 = .ok (.invokevirtual 225, 3) := by decide +kernel
theorem dX4_dropCourse_15 : decode cX4_dropCourse 15 = .ok (.istore_n 3, 1) := by decide +kernel
theorem dX4_dropCourse_16 : decode cX4_dropCourse 16 = .ok (.aload_n 0, 1) := by decide +kernel
theorem dX4_dropCourse_17 : decode cX4_dropCourse 17 = .ok (.aload_n 1, 1) := by decide +kernel
theorem dX4_dropCourse_18 : decode cX4_dropCourse 18 = .ok (.getfield 97, 3) := by decide +kernel
theorem dX4_dropCourse_21 : decode cX4_dropCourse 21 = .ok (.invokevirtual 199, 3) := by decide +kernel
theorem dX4_dropCourse_24 : decode cX4_dropCourse 24 = .ok (.iload_n 3, 1) := by decide +kernel
theorem dX4_dropCourse_25 : decode cX4_dropCourse 25 = .ok (.invokevirtual 228, 3) := by decide +kernel
theorem dX4_dropCourse_28 : decode cX4_dropCourse 28 = .ok (.istore 4, 2) := by decide +kernel
theorem dX4_dropCourse_30 : decode cX4_dropCourse 30 = .ok (.aload_n 1, 1) := by decide +kernel
theorem dX4_dropCourse_31 : decode cX4_dropCourse 31 = .ok (.getfield 97, 3) := by decide +kernel
theorem dX4_dropCourse_34 : decode cX4_dropCourse 34 = .ok (.iload_n 2, 1) := by decide +kernel
theorem dX4_dropCourse_35 : decode cX4_dropCourse 35 = .ok (.invokevirtual 231, 3) := by decide +kernel
theorem dX4_dropCourse_38 : decode cX4_dropCourse 38 = .ok (.aload_n 0, 1) := by decide +kernel
theorem dX4_dropCourse_39 : decode cX4_dropCourse 39 = .ok (.aload_n 1, 1) := by decide +kernel
theorem dX4_dropCourse_40 : decode cX4_dropCourse 40 = .ok (.getfield 97, 3) := by decide +kernel
theorem dX4_dropCourse_43 : decode cX4_dropCourse 43 = .ok (.invokevirtual 199, 3) := by decide +kernel
theorem dX4_dropCourse_46 : decode cX4_dropCourse 46 = .ok (.iload_n 3, 1) := by decide +kernel
theorem dX4_dropCourse_47 : decode cX4_dropCourse 47 = .ok (.invokevirtual 228, 3) := by decide +kernel
theorem dX4_dropCourse_50 : decode cX4_dropCourse 50 = .ok (.istore 5, 2) := by decide +kernel
theorem dX4_dropCourse_52 : decode cX4_dropCourse 52 = .ok (.iload 4, 2) := by decide +kernel
theorem dX4_dropCourse_54 : decode cX4_dropCourse 54 = .ok (.iload 5, 2) := by decide +kernel
theorem dX4_dropCourse_56 : decode cX4_dropCourse 56 = .ok (.isub, 1) := by decide +kernel
theorem dX4_dropCourse_57 : decode cX4_dropCourse 57 = .ok (.aload_n 0, 1) := by decide +kernel
theorem dX4_dropCourse_58 : decode cX4_dropCourse 58 = .ok (.invokevirtual 234, 3) := by decide +kernel
theorem dX4_dropCourse_61 : decode cX4_dropCourse 61 = .ok (.imul, 1) := by decide +kernel
theorem dX4_dropCourse_62 : decode cX4_dropCourse 62 = .ok (.bipush 100, 2) := by decide +kernel
theorem dX4_dropCourse_64 : decode cX4_dropCourse 64 = .ok (.idiv, 1) := by decide +kernel
theorem dX4_dropCourse_65 : decode cX4_dropCourse 65 = .ok (.istore 6, 2) := by decide +kernel
theorem dX4_dropCourse_67 : decode cX4_dropCourse 67 = .ok (.aload_n 1, 1) := by decide +kernel
theorem dX4_dropCourse_68 : decode cX4_dropCourse 68 = .ok (.getfield 97, 3) := by decide +kernel
theorem dX4_dropCourse_71 : decode cX4_dropCourse 71 = .ok (.dup, 1) := by decide +kernel
theorem dX4_dropCourse_72 : decode cX4_dropCourse 72 = .ok (.getfield 237, 3) := by decide +kernel
theorem dX4_dropCourse_75 : decode cX4_dropCourse 75 = .ok (.iload 6, 2) := by decide +kernel
theorem dX4_dropCourse_77 : decode cX4_dropCourse 77 = .ok (.iadd, 1) := by decide +kernel
theorem dX4_dropCourse_78 : decode cX4_dropCourse 78 = .ok (.putfield 237, 3) := by decide +kernel
theorem dX4_dropCourse_81 : decode cX4_dropCourse 81 = .ok (.iload 6, 2) := by decide +kernel
theorem dX4_dropCourse_83 : decode cX4_dropCourse 83 = .ok (.ireturn, 1) := by decide +kernel
theorem dX4_aidToGiveBack_0 : decode cX4_aidToGiveBack 0 = .ok (.aload_n 0, 1) := by decide +kernel
theorem dX4_aidToGiveBack_1 : decode cX4_aidToGiveBack 1 = .ok (.getfield 35, 3) := by decide +kernel
theorem dX4_aidToGiveBack_4 : decode cX4_aidToGiveBack 4 = .ok (.bipush 10, 2) := by decide +kernel
theorem dX4_aidToGiveBack_6 : decode cX4_aidToGiveBack 6 = .ok (.if_icmp .lt 5, 3) := by decide +kernel
theorem dX4_aidToGiveBack_9 : decode cX4_aidToGiveBack 9 = .ok (.iconst 0, 1) := by decide +kernel
theorem dX4_aidToGiveBack_10 : decode cX4_aidToGiveBack 10 = .ok (.ireturn, 1) := by decide +kernel
theorem dX4_aidToGiveBack_11 : decode cX4_aidToGiveBack 11 = .ok (.iload_n 1, 1) := by decide +kernel
theorem dX4_aidToGiveBack_12 : decode cX4_aidToGiveBack 12 = .ok (.iload_n 1, 1) := by decide +kernel
theorem dX4_aidToGiveBack_13 : decode cX4_aidToGiveBack 13 = .ok (.aload_n 0, 1) := by decide +kernel
theorem dX4_aidToGiveBack_14 : decode cX4_aidToGiveBack 14 = .ok (.getfield 35, 3) := by decide +kernel
theorem dX4_aidToGiveBack_17 : decode cX4_aidToGiveBack 17 = .ok (.imul, 1) := by decide +kernel
theorem dX4_aidToGiveBack_18 : decode cX4_aidToGiveBack 18 = .ok (.bipush 16, 2) := by decide +kernel
theorem dX4_aidToGiveBack_20 : decode cX4_aidToGiveBack 20 = .ok (.idiv, 1) := by decide +kernel
theorem dX4_aidToGiveBack_21 : decode cX4_aidToGiveBack 21 = .ok (.isub, 1) := by decide +kernel
theorem dX4_aidToGiveBack_22 : decode cX4_aidToGiveBack 22 = .ok (.ireturn, 1) := by decide +kernel
set_option maxRecDepth 20000 in
theorem ggX4_chargesOf_X4_placeOfRate : GoodIn wsX4_chargesOf wsX4_placeOfRate := goodIn_r _ [10] (by decide +kernel) (by decide +kernel)
set_option maxRecDepth 20000 in
theorem gX4_chargesOf_X4_placeOfRate : GoodIn wsX4_chargesOf (va_wsS RX4 48 yX4_placeOfRate wsX4_placeOfRate) := goodIn_app (goodIn_of _ (by decide +kernel)) ggX4_chargesOf_X4_placeOfRate
set_option maxRecDepth 20000 in
theorem ggX4_chargesOf_X4_rateAt : GoodIn wsX4_chargesOf wsX4_rateAt := goodIn_r _ [14, 15, 42, 43, 44, 45, 46, 47, 48, 49, 50] (by decide +kernel) (by decide +kernel)
set_option maxRecDepth 20000 in
theorem gX4_chargesOf_X4_rateAt : GoodIn wsX4_chargesOf (wsV RX4 225 RX4 yX4_rateAt wsX4_rateAt) := goodIn_app (goodIn_of _ (by decide +kernel)) ggX4_chargesOf_X4_rateAt
set_option maxRecDepth 20000 in
theorem ggX4_chargesOf_X1_total : GoodIn wsX4_chargesOf wsX1_total := goodIn_r _ [20, 21, 39, 40, 41] (by decide +kernel) (by decide +kernel)
set_option maxRecDepth 20000 in
theorem gX4_chargesOf_X1_total : GoodIn wsX4_chargesOf (wsV RX4 199 RX1 yX1_total wsX1_total) := goodIn_app (goodIn_of _ (by decide +kernel)) ggX4_chargesOf_X1_total
set_option maxRecDepth 20000 in
theorem ggX4_chargesOf_X4_priceOf : GoodIn wsX4_chargesOf wsX4_priceOf := goodIn_r _ [25, 26, 27, 42, 43, 44, 45, 46, 47, 48, 49, 50] (by decide +kernel) (by decide +kernel)
set_option maxRecDepth 20000 in
theorem gX4_chargesOf_X4_priceOf : GoodIn wsX4_chargesOf (wsV RX4 228 RX4 yX4_priceOf wsX4_priceOf) := goodIn_app (goodIn_of _ (by decide +kernel)) ggX4_chargesOf_X4_priceOf
theorem dX4_chargesOf_0 : decode cX4_chargesOf 0 = .ok (.iconst 0, 1) := by decide +kernel
theorem dX4_chargesOf_1 : decode cX4_chargesOf 1 = .ok (.istore_n 3, 1) := by decide +kernel
theorem dX4_chargesOf_2 : decode cX4_chargesOf 2 = .ok (.iload_n 2, 1) := by decide +kernel
theorem dX4_chargesOf_3 : decode cX4_chargesOf 3 = .ok (.iconst 1, 1) := by decide +kernel
theorem dX4_chargesOf_4 : decode cX4_chargesOf 4 = .ok (.iand, 1) := by decide +kernel
theorem dX4_chargesOf_5 : decode cX4_chargesOf 5 = .ok (.ifCond .eq 44, 3) := by decide +kernel
theorem dX4_chargesOf_8 : decode cX4_chargesOf 8 = .ok (.aload_n 0, 1) := by decide +kernel
theorem dX4_chargesOf_9 : decode cX4_chargesOf 9 = .ok (.aload_n 1, 1) := by decide +kernel
theorem dX4_chargesOf_10 : decode cX4_chargesOf 10 = .ok (.getfield 77, 3) := by decide +kernel
theorem dX4_chargesOf_13 : decode cX4_chargesOf 13 = .ok (.aload_n 1, 1) := by decide +kernel
theorem dX4_chargesOf_14 : decode cX4_chargesOf 14 = .ok (.getfield 80, 3) := by decide +kernel
theorem dX4_chargesOf_17 : decode cX4_chargesOf 17 = .ok (.invokestatic 48, 3) := by decide +kernel
theorem dX4_chargesOf_20 : decode cX4_chargesOf 20 = .ok (.invokevirtual 225, 3) := by decide +kernel
theorem dX4_chargesOf_23 : decode cX4_chargesOf 23 = .ok (.istore 4, 2) := by decide +kernel
theorem dX4_chargesOf_25 : decode cX4_chargesOf 25 = .ok (.iload_n 3, 1) := by decide +kernel
theorem dX4_chargesOf_26 : decode cX4_chargesOf 26 = .ok (.aload_n 0, 1) := by decide +kernel
theorem dX4_chargesOf_27 : decode cX4_chargesOf 27 = .ok (.aload_n 1, 1) := by decide +kernel
theorem dX4_chargesOf_28 : decode cX4_chargesOf 28 = .ok (.getfield 97, 3) := by decide +kernel
theorem dX4_chargesOf_31 : decode cX4_chargesOf 31 = .ok (.invokevirtual 199, 3) := by decide +kernel
theorem dX4_chargesOf_34 : decode cX4_chargesOf 34 = .ok (.iload 4, 2) := by decide +kernel
theorem dX4_chargesOf_36 : decode cX4_chargesOf 36 = .ok (.invokevirtual 228, 3) := by decide +kernel
theorem dX4_chargesOf_39 : decode cX4_chargesOf 39 = .ok (.aload_n 1, 1) := by decide +kernel
theorem dX4_chargesOf_40 : decode cX4_chargesOf 40 = .ok (.getfield 97, 3) := by decide +kernel
theorem dX4_chargesOf_43 : decode cX4_chargesOf 43 = .ok (.getfield 237, 3) := by decide +kernel
theorem dX4_chargesOf_46 : decode cX4_chargesOf 46 = .ok (.iadd, 1) := by decide +kernel
theorem dX4_chargesOf_47 : decode cX4_chargesOf 47 = .ok (.iadd, 1) := by decide +kernel
theorem dX4_chargesOf_48 : decode cX4_chargesOf 48 = .ok (.istore_n 3, 1) := by decide +kernel
theorem dX4_chargesOf_49 : decode cX4_chargesOf 49 = .ok (.iload_n 2, 1) := by decide +kernel
theorem dX4_chargesOf_50 : decode cX4_chargesOf 50 = .ok (.iconst 2, 1) := by decide +kernel
theorem dX4_chargesOf_51 : decode cX4_chargesOf 51 = .ok (.iand, 1) := by decide +kernel
theorem dX4_chargesOf_52 : decode cX4_chargesOf 52 = .ok (.ifCond .eq 10, 3) := by decide +kernel
theorem dX4_chargesOf_55 : decode cX4_chargesOf 55 = .ok (.iload_n 3, 1) := by decide +kernel
theorem dX4_chargesOf_56 : decode cX4_chargesOf 56 = .ok (.aload_n 1, 1) := by decide +kernel
theorem dX4_chargesOf_57 : decode cX4_chargesOf 57 = .ok (.getfield 132, 3) := by decide +kernel
theorem dX4_chargesOf_60 : decode cX4_chargesOf 60 = .ok (.iadd, 1) := by decide +kernel
theorem dX4_chargesOf_61 : decode cX4_chargesOf 61 = .ok (.istore_n 3, 1) := by decide +kernel
theorem dX4_chargesOf_62 : decode cX4_chargesOf 62 = .ok (.iload_n 2, 1) := by decide +kernel
theorem dX4_chargesOf_63 : decode cX4_chargesOf 63 = .ok (.iconst 4, 1) := by decide +kernel
theorem dX4_chargesOf_64 : decode cX4_chargesOf 64 = .ok (.iand, 1) := by decide +kernel
theorem dX4_chargesOf_65 : decode cX4_chargesOf 65 = .ok (.ifCond .eq 10, 3) := by decide +kernel
theorem dX4_chargesOf_68 : decode cX4_chargesOf 68 = .ok (.iload_n 3, 1) := by decide +kernel
theorem dX4_chargesOf_69 : decode cX4_chargesOf 69 = .ok (.aload_n 1, 1) := by decide +kernel
theorem dX4_chargesOf_70 : decode cX4_chargesOf 70 = .ok (.getfield 135, 3) := by decide +kernel
theorem dX4_chargesOf_73 : decode cX4_chargesOf 73 = .ok (.iadd, 1) := by decide +kernel
theorem dX4_chargesOf_74 : decode cX4_chargesOf 74 = .ok (.istore_n 3, 1) := by decide +kernel
theorem dX4_chargesOf_75 : decode cX4_chargesOf 75 = .ok (.iload_n 3, 1) := by decide +kernel
theorem dX4_chargesOf_76 : decode cX4_chargesOf 76 = .ok (.ireturn, 1) := by decide +kernel
set_option maxRecDepth 20000 in
theorem ggX4_sponsorPart_X4_chargesOf : GoodIn wsX4_sponsorPart wsX4_chargesOf := goodIn_r _ [11, 12, 13, 14, 15, 16, 17, 18, 19, 10, 20, 21, 22, 23, 24, 25, 26, 27, 28, 29, 30, 31, 32, 33, 34, 35, 36, 37, 38, 39, 40, 41, 42, 43, 44, 45, 46, 47, 48, 49, 50, 51, 52, 53, 54, 55, 56, 57, 58, 59, 60] (by decide +kernel) (by decide +kernel)
set_option maxRecDepth 20000 in
theorem gX4_sponsorPart_X4_chargesOf : GoodIn wsX4_sponsorPart (wsV RX4 202 RX4 yX4_chargesOf wsX4_chargesOf) := goodIn_app (goodIn_of _ (by decide +kernel)) ggX4_sponsorPart_X4_chargesOf
theorem dX4_sponsorPart_0 : decode cX4_sponsorPart 0 = .ok (.aload_n 0, 1) := by decide +kernel
theorem dX4_sponsorPart_1 : decode cX4_sponsorPart 1 = .ok (.aload_n 1, 1) := by decide +kernel
theorem dX4_sponsorPart_2 : decode cX4_sponsorPart 2 = .ok (.aload_n 1, 1) := by decide +kernel
theorem dX4_sponsorPart_3 : decode cX4_sponsorPart 3 = .ok (.getfield 89, 3) := by decide +kernel
theorem dX4_sponsorPart_6 : decode cX4_sponsorPart 6 = .ok (.invokevirtual 202, 3) := by decide +kernel
theorem dX4_sponsorPart_9 : decode cX4_sponsorPart 9 = .ok (.aload_n 1, 1) := by decide +kernel
theorem dX4_sponsorPart_10 : decode cX4_sponsorPart 10 = .ok (.getfield 92, 3) := by decide +kernel
theorem dX4_sponsorPart_13 : decode cX4_sponsorPart 13 = .ok (.invokestatic 240, 3) := by decide +kernel
theorem dX4_sponsorPart_16 : decode cX4_sponsorPart 16 = .ok (.ireturn, 1) := by decide +kernel
set_option maxRecDepth 20000 in
theorem ggX4_unsponsored_X4_chargesOf : GoodIn wsX4_unsponsored wsX4_chargesOf := goodIn_r _ [5, 6, 7, 8, 9, 10, 11, 12, 13, 4, 14, 15, 16, 17, 18, 19, 20, 21, 22, 23, 24, 25, 26, 27, 28, 29, 30, 31, 42, 43, 44, 45, 46, 47, 48, 49, 50, 51, 52, 53, 54, 55, 56, 57, 58, 59, 60, 61, 62, 63, 64] (by decide +kernel) (by decide +kernel)
set_option maxRecDepth 20000 in
theorem gX4_unsponsored_X4_chargesOf : GoodIn wsX4_unsponsored (wsV RX4 202 RX4 yX4_chargesOf wsX4_chargesOf) := goodIn_app (goodIn_of _ (by decide +kernel)) ggX4_unsponsored_X4_chargesOf
set_option maxRecDepth 20000 in
theorem ggX4_unsponsored_X4_sponsorPart : GoodIn wsX4_unsponsored wsX4_sponsorPart := goodIn_r _ [35, 36, 37, 38, 39, 40, 41, 1, 2, 3, 4, 5, 6, 7, 8, 9, 10, 11, 12, 13, 14, 15, 16, 17, 18, 19, 20, 21, 22, 23, 24, 25, 26, 27, 28, 29, 30, 31, 42, 43, 44, 45, 46, 47, 48, 49, 50, 51, 52, 53, 54, 55, 56, 57, 58, 59, 60, 61, 62, 63, 64] (by decide +kernel) (by decide +kernel)
set_option maxRecDepth 20000 in
theorem gX4_unsponsored_X4_sponsorPart : GoodIn wsX4_unsponsored (wsV RX4 205 RX4 yX4_sponsorPart wsX4_sponsorPart) := goodIn_app (goodIn_of _ (by decide +kernel)) ggX4_unsponsored_X4_sponsorPart
theorem dX4_unsponsored_0 : decode cX4_unsponsored 0 = .ok (.aload_n 0, 1) := by decide +kernel
theorem dX4_unsponsored_1 : decode cX4_unsponsored 1 = .ok (.aload_n 1, 1) := by decide +kernel
theorem dX4_unsponsored_2 : decode cX4_unsponsored 2 = .ok (.bipush 7, 2) := by decide +kernel
theorem dX4_unsponsored_4 : decode cX4_unsponsored 4 = .ok (.invokevirtual 202, 3) := by decide +kernel
theorem dX4_unsponsored_7 : decode cX4_unsponsored 7 = .ok (.aload_n 0, 1) := by decide +kernel
theorem dX4_unsponsored_8 : decode cX4_unsponsored 8 = .ok (.aload_n 1, 1) := by decide +kernel
theorem dX4_unsponsored_9 : decode cX4_unsponsored 9 = .ok (.invokevirtual 205, 3) := by decide +kernel
theorem dX4_unsponsored_12 : decode cX4_unsponsored 12 = .ok (.isub, 1) := by decide +kernel
theorem dX4_unsponsored_13 : decode cX4_unsponsored 13 = .ok (.ireturn, 1) := by decide +kernel
set_option maxRecDepth 20000 in
theorem ggX4_balanceOf_X4_unsponsored : GoodIn wsX4_balanceOf wsX4_unsponsored := goodIn_r _ [8, 9, 10, 11, 7, 12, 13, 14, 15, 16, 17, 18, 19, 20, 21, 22, 23, 24, 25, 26, 27, 28, 29, 30, 31, 32, 33, 34, 35, 36, 37, 38, 39, 40, 41, 42, 43, 44, 45, 46, 47, 48, 58, 59, 60, 61, 62, 63, 64, 65, 66, 67, 68, 69, 70, 71, 72, 73, 74, 75, 76, 77, 78, 79, 80] (by decide +kernel) (by decide +kernel)
set_option maxRecDepth 20000 in
theorem gX4_balanceOf_X4_unsponsored : GoodIn wsX4_balanceOf (wsV RX4 211 RX4 yX4_unsponsored wsX4_unsponsored) := goodIn_app (goodIn_of _ (by decide +kernel)) ggX4_balanceOf_X4_unsponsored
set_option maxRecDepth 20000 in
theorem ggX4_balanceOf_X0_cover : GoodIn wsX4_balanceOf wsX0_cover := goodIn_r _ [53, 54, 55, 46, 47, 48, 56, 57, 81, 82, 83, 84] (by decide +kernel) (by decide +kernel)
set_option maxRecDepth 20000 in
theorem gX4_balanceOf_X0_cover : GoodIn wsX4_balanceOf (wsV RX4 214 RX0 yX0_cover wsX0_cover) := goodIn_app (goodIn_of _ (by decide +kernel)) ggX4_balanceOf_X0_cover
theorem dX4_balanceOf_0 : decode cX4_balanceOf 0 = .ok (.aload_n 0, 1) := by decide +kernel
theorem dX4_balanceOf_1 : decode cX4_balanceOf 1 = .ok (.aload_n 1, 1) := by decide +kernel
theorem dX4_balanceOf_2 : decode cX4_balanceOf 2 = .ok (.invokevirtual 211, 3) := by decide +kernel
theorem dX4_balanceOf_5 : decode cX4_balanceOf 5 = .ok (.istore_n 2, 1) := by decide +kernel
theorem dX4_balanceOf_6 : decode cX4_balanceOf 6 = .ok (.iload_n 2, 1) := by decide +kernel
theorem dX4_balanceOf_7 : decode cX4_balanceOf 7 = .ok (.aload_n 1, 1) := by decide +kernel
theorem dX4_balanceOf_8 : decode cX4_balanceOf 8 = .ok (.getfield 140, 3) := by decide +kernel
theorem dX4_balanceOf_11 : decode cX4_balanceOf 11 = .ok (.iload_n 2, 1) := by decide +kernel
theorem dX4_balanceOf_12 : decode cX4_balanceOf 12 = .ok (.aload_n 1, 1) := by decide +kernel
theorem dX4_balanceOf_13 : decode cX4_balanceOf 13 = .ok (.getfield 84, 3) := by decide +kernel
theorem dX4_balanceOf_16 : decode cX4_balanceOf 16 = .ok (.invokevirtual 214, 3) := by decide +kernel
theorem dX4_balanceOf_19 : decode cX4_balanceOf 19 = .ok (.isub, 1) := by decide +kernel
theorem dX4_balanceOf_20 : decode cX4_balanceOf 20 = .ok (.aload_n 1, 1) := by decide +kernel
theorem dX4_balanceOf_21 : decode cX4_balanceOf 21 = .ok (.getfield 153, 3) := by decide +kernel
theorem dX4_balanceOf_24 : decode cX4_balanceOf 24 = .ok (.isub, 1) := by decide +kernel
theorem dX4_balanceOf_25 : decode cX4_balanceOf 25 = .ok (.ireturn, 1) := by decide +kernel
set_option maxRecDepth 20000 in
theorem ggX4_endTerm_X4_studentAt : GoodIn wsX4_endTerm wsX4_studentAt := goodIn_ca (goodIn_r _ [5, 6, 7, 8, 103, 104, 105, 106, 107, 108, 109, 110, 111] (by decide +kernel) (by decide +kernel)) (goodIn_sub (fun _ h => List.mem_cons_of_mem _ (List.mem_append_right _ h)) (by decide +kernel))
set_option maxRecDepth 20000 in
theorem gX4_endTerm_X4_studentAt : GoodIn wsX4_endTerm (wsV RX4 71 RX4 yX4_studentAt wsX4_studentAt) := goodIn_app (goodIn_of _ (by decide +kernel)) ggX4_endTerm_X4_studentAt
set_option maxRecDepth 20000 in
theorem ggX4_endTerm_X4_balanceOf : GoodIn wsX4_endTerm wsX4_balanceOf := goodIn_r _ [12, 13, 14, 15, 16, 17, 18, 4, 19, 20, 21, 22, 23, 24, 25, 26, 27, 28, 29, 30, 31, 32, 33, 34, 35, 36, 37, 38, 39, 40, 41, 42, 43, 44, 45, 46, 47, 48, 49, 50, 51, 52, 53, 54, 55, 56, 57, 58, 59, 60, 61, 62, 63, 64, 65, 66, 67, 68, 112, 113, 114, 115, 116, 117, 118, 119, 120, 121, 122, 123, 124, 125, 103, 104, 105, 106, 107, 108, 109, 110, 111, 126, 127, 128, 129] (by decide +kernel) (by decide +kernel)
set_option maxRecDepth 20000 in
theorem gX4_endTerm_X4_balanceOf : GoodIn wsX4_endTerm (wsV RX4 165 RX4 yX4_balanceOf wsX4_balanceOf) := goodIn_app (goodIn_of _ (by decide +kernel)) ggX4_endTerm_X4_balanceOf
set_option maxRecDepth 20000 in
theorem ggX4_endTerm_X4_carriedTo : GoodIn wsX4_endTerm wsX4_carriedTo := goodIn_r _ [71, 56, 57, 58, 59] (by decide +kernel) (by decide +kernel)
set_option maxRecDepth 20000 in
theorem gX4_endTerm_X4_carriedTo : GoodIn wsX4_endTerm (va_wsS RX4 245 yX4_carriedTo wsX4_carriedTo) := goodIn_app (goodIn_of _ (by decide +kernel)) ggX4_endTerm_X4_carriedTo
set_option maxRecDepth 20000 in
theorem ggX4_endTerm_X3_beginTerm : GoodIn wsX4_endTerm wsX3_beginTerm := goodIn_r _ [76, 77, 78, 79, 80, 81, 82, 83, 58, 84, 85, 86, 87, 88, 89, 41, 90, 43, 91, 92, 93, 94, 95, 96, 97, 98, 99, 63, 100, 68, 101, 102, 112, 113, 114, 115, 116, 117, 118, 119, 120, 121, 122, 123, 124, 125, 126, 127, 128, 129] (by decide +kernel) (by decide +kernel)
set_option maxRecDepth 20000 in
theorem gX4_endTerm_X3_beginTerm : GoodIn wsX4_endTerm (wsV RX4 248 RX3 yX3_beginTerm wsX3_beginTerm) := goodIn_app (goodIn_of _ (by decide +kernel)) ggX4_endTerm_X3_beginTerm
theorem dX4_endTerm_0 : decode cX4_endTerm 0 = .ok (.iconst 0, 1) := by decide +kernel
theorem dX4_endTerm_1 : decode cX4_endTerm 1 = .ok (.istore_n 1, 1) := by decide +kernel
theorem dX4_endTerm_2 : decode cX4_endTerm 2 = .ok (.iload_n 1, 1) := by decide +kernel
theorem dX4_endTerm_3 : decode cX4_endTerm 3 = .ok (.iconst 1, 1) := by decide +kernel
theorem dX4_endTerm_4 : decode cX4_endTerm 4 = .ok (.iadd, 1) := by decide +kernel
theorem dX4_endTerm_5 : decode cX4_endTerm 5 = .ok (.iconst 4, 1) := by decide +kernel
theorem dX4_endTerm_6 : decode cX4_endTerm 6 = .ok (.if_icmp .ge 72, 3) := by decide +kernel
theorem dX4_endTerm_9 : decode cX4_endTerm 9 = .ok (.aload_n 0, 1) := by decide +kernel
theorem dX4_endTerm_10 : decode cX4_endTerm 10 = .ok (.iload_n 1, 1) := by decide +kernel
theorem dX4_endTerm_11 : decode cX4_endTerm 11 = .ok (.invokevirtual 71, 3) := by decide +kernel
theorem dX4_endTerm_14 : decode cX4_endTerm 14 = .ok (.astore_n 2, 1) := by decide +kernel
theorem dX4_endTerm_15 : decode cX4_endTerm 15 = .ok (.aload_n 0, 1) := by decide +kernel
theorem dX4_endTerm_16 : decode cX4_endTerm 16 = .ok (.iload_n 1, 1) := by decide +kernel
theorem dX4_endTerm_17 : decode cX4_endTerm 17 = .ok (.iconst 1, 1) := by decide +kernel
theorem dX4_endTerm_18 : decode cX4_endTerm 18 = .ok (.iadd, 1) := by decide +kernel
theorem dX4_endTerm_19 : decode cX4_endTerm 19 = .ok (.invokevirtual 71, 3) := by decide +kernel
theorem dX4_endTerm_22 : decode cX4_endTerm 22 = .ok (.astore_n 3, 1) := by decide +kernel
theorem dX4_endTerm_23 : decode cX4_endTerm 23 = .ok (.aload_n 0, 1) := by decide +kernel
theorem dX4_endTerm_24 : decode cX4_endTerm 24 = .ok (.aload_n 2, 1) := by decide +kernel
theorem dX4_endTerm_25 : decode cX4_endTerm 25 = .ok (.invokevirtual 165, 3) := by decide +kernel
theorem dX4_endTerm_28 : decode cX4_endTerm 28 = .ok (.istore 4, 2) := by decide +kernel
theorem dX4_endTerm_30 : decode cX4_endTerm 30 = .ok (.aload_n 0, 1) := by decide +kernel
theorem dX4_endTerm_31 : decode cX4_endTerm 31 = .ok (.aload_n 3, 1) := by decide +kernel
theorem dX4_endTerm_32 : decode cX4_endTerm 32 = .ok (.invokevirtual 165, 3) := by decide +kernel
theorem dX4_endTerm_35 : decode cX4_endTerm 35 = .ok (.istore 5, 2) := by decide +kernel
theorem dX4_endTerm_37 : decode cX4_endTerm 37 = .ok (.iload 4, 2) := by decide +kernel
theorem dX4_endTerm_39 : decode cX4_endTerm 39 = .ok (.iload 5, 2) := by decide +kernel
theorem dX4_endTerm_41 : decode cX4_endTerm 41 = .ok (.invokestatic 245, 3) := by decide +kernel
theorem dX4_endTerm_44 : decode cX4_endTerm 44 = .ok (.iload 5, 2) := by decide +kernel
theorem dX4_endTerm_46 : decode cX4_endTerm 46 = .ok (.iload 4, 2) := by decide +kernel
theorem dX4_endTerm_48 : decode cX4_endTerm 48 = .ok (.invokestatic 245, 3) := by decide +kernel
theorem dX4_endTerm_51 : decode cX4_endTerm 51 = .ok (.isub, 1) := by decide +kernel
theorem dX4_endTerm_52 : decode cX4_endTerm 52 = .ok (.istore 6, 2) := by decide +kernel
theorem dX4_endTerm_54 : decode cX4_endTerm 54 = .ok (.aload_n 2, 1) := by decide +kernel
theorem dX4_endTerm_55 : decode cX4_endTerm 55 = .ok (.iload 4, 2) := by decide +kernel
theorem dX4_endTerm_57 : decode cX4_endTerm 57 = .ok (.iload 6, 2) := by decide +kernel
theorem dX4_endTerm_59 : decode cX4_endTerm 59 = .ok (.isub, 1) := by decide +kernel
theorem dX4_endTerm_60 : decode cX4_endTerm 60 = .ok (.invokevirtual 248, 3) := by decide +kernel
theorem dX4_endTerm_63 : decode cX4_endTerm 63 = .ok (.aload_n 3, 1) := by decide +kernel
theorem dX4_endTerm_64 : decode cX4_endTerm 64 = .ok (.iload 5, 2) := by decide +kernel
theorem dX4_endTerm_66 : decode cX4_endTerm 66 = .ok (.iload 6, 2) := by decide +kernel
theorem dX4_endTerm_68 : decode cX4_endTerm 68 = .ok (.iadd, 1) := by decide +kernel
theorem dX4_endTerm_69 : decode cX4_endTerm 69 = .ok (.invokevirtual 248, 3) := by decide +kernel
theorem dX4_endTerm_72 : decode cX4_endTerm 72 = .ok (.iinc 1 2, 3) := by decide +kernel
theorem dX4_endTerm_75 : decode cX4_endTerm 75 = .ok (.goto (-73), 3) := by decide +kernel
theorem dX4_endTerm_78 : decode cX4_endTerm 78 = .ok (.return_, 1) := by decide +kernel
theorem dX4_carriedTo_0 : decode cX4_carriedTo 0 = .ok (.iload_n 0, 1) := by decide +kernel
theorem dX4_carriedTo_1 : decode cX4_carriedTo 1 = .ok (.ifCond .le 16, 3) := by decide +kernel
theorem dX4_carriedTo_4 : decode cX4_carriedTo 4 = .ok (.iload_n 1, 1) := by decide +kernel
theorem dX4_carriedTo_5 : decode cX4_carriedTo 5 = .ok (.ifCond .ge 12, 3) := by decide +kernel
theorem dX4_carriedTo_8 : decode cX4_carriedTo 8 = .ok (.iload_n 0, 1) := by decide +kernel
theorem dX4_carriedTo_9 : decode cX4_carriedTo 9 = .ok (.iload_n 1, 1) := by decide +kernel
theorem dX4_carriedTo_10 : decode cX4_carriedTo 10 = .ok (.ineg, 1) := by decide +kernel
theorem dX4_carriedTo_11 : decode cX4_carriedTo 11 = .ok (.invokestatic 240, 3) := by decide +kernel
theorem dX4_carriedTo_14 : decode cX4_carriedTo 14 = .ok (.goto 4, 3) := by decide +kernel
theorem dX4_carriedTo_17 : decode cX4_carriedTo 17 = .ok (.iconst 0, 1) := by decide +kernel
theorem dX4_carriedTo_18 : decode cX4_carriedTo 18 = .ok (.ireturn, 1) := by decide +kernel
set_option maxRecDepth 20000 in
theorem ggX4_chargeLateFees_X4_studentAt : GoodIn wsX4_chargeLateFees wsX4_studentAt := goodIn_ca (goodIn_r _ [8, 9, 10, 11, 39, 40, 41, 42, 43, 44, 45, 46, 47] (by decide +kernel) (by decide +kernel)) (goodIn_sub (fun _ h => List.mem_cons_of_mem _ (List.mem_append_right _ h)) (by decide +kernel))
set_option maxRecDepth 20000 in
theorem gX4_chargeLateFees_X4_studentAt : GoodIn wsX4_chargeLateFees (wsV RX4 71 RX4 yX4_studentAt wsX4_studentAt) := goodIn_app (goodIn_of _ (by decide +kernel)) ggX4_chargeLateFees_X4_studentAt
set_option maxRecDepth 20000 in
theorem ggX4_chargeLateFees_X4_weekNumber : GoodIn wsX4_chargeLateFees wsX4_weekNumber := goodIn_r _ [15, 16, 17, 39, 40, 41, 42, 43, 44, 45, 46, 47] (by decide +kernel) (by decide +kernel)
set_option maxRecDepth 20000 in
theorem gX4_chargeLateFees_X4_weekNumber : GoodIn wsX4_chargeLateFees (wsV RX4 173 RX4 yX4_weekNumber wsX4_weekNumber) := goodIn_app (goodIn_of _ (by decide +kernel)) ggX4_chargeLateFees_X4_weekNumber
set_option maxRecDepth 20000 in
theorem ggX4_chargeLateFees_X2_isLateAt : GoodIn wsX4_chargeLateFees wsX2_isLateAt := goodIn_r _ [22, 23, 24, 25, 26, 27, 48, 49, 50, 51, 52] (by decide +kernel) (by decide +kernel)
set_option maxRecDepth 20000 in
theorem gX4_chargeLateFees_X2_isLateAt : GoodIn wsX4_chargeLateFees (wsV RX4 251 RX2 yX2_isLateAt wsX2_isLateAt) := goodIn_app (goodIn_of _ (by decide +kernel)) ggX4_chargeLateFees_X2_isLateAt
theorem dX4_chargeLateFees_0 : decode cX4_chargeLateFees 0 = .ok (.iconst 0, 1) := by decide +kernel
theorem dX4_chargeLateFees_1 : decode cX4_chargeLateFees 1 = .ok (.istore_n 1, 1) := by decide +kernel
theorem dX4_chargeLateFees_2 : decode cX4_chargeLateFees 2 = .ok (.iload_n 1, 1) := by decide +kernel
theorem dX4_chargeLateFees_3 : decode cX4_chargeLateFees 3 = .ok (.iconst 4, 1) := by decide +kernel
theorem dX4_chargeLateFees_4 : decode cX4_chargeLateFees 4 = .ok (.if_icmp .ge 42, 3) := by decide +kernel
theorem dX4_chargeLateFees_7 : decode cX4_chargeLateFees 7 = .ok (.aload_n 0, 1) := by decide +kernel
theorem dX4_chargeLateFees_8 : decode cX4_chargeLateFees 8 = .ok (.iload_n 1, 1) := by decide +kernel
theorem dX4_chargeLateFees_9 : decode cX4_chargeLateFees 9 = .ok (.invokevirtual 71, 3) := by decide +kernel
theorem dX4_chargeLateFees_12 : decode cX4_chargeLateFees 12 = .ok (.astore_n 2, 1) := by decide +kernel
theorem dX4_chargeLateFees_13 : decode cX4_chargeLateFees 13 = .ok (.aload_n 2, 1) := by decide +kernel
theorem dX4_chargeLateFees_14 : decode cX4_chargeLateFees 14 = .ok (.getfield 156, 3) := by decide +kernel
theorem dX4_chargeLateFees_17 : decode cX4_chargeLateFees 17 = .ok (.aload_n 0, 1) := by decide +kernel
theorem dX4_chargeLateFees_18 : decode cX4_chargeLateFees 18 = .ok (.invokevirtual 173, 3) := by decide +kernel
theorem dX4_chargeLateFees_21 : decode cX4_chargeLateFees 21 = .ok (.invokevirtual 251, 3) := by decide +kernel
theorem dX4_chargeLateFees_24 : decode cX4_chargeLateFees 24 = .ok (.ifCond .eq 16, 3) := by decide +kernel
theorem dX4_chargeLateFees_27 : decode cX4_chargeLateFees 27 = .ok (.aload_n 2, 1) := by decide +kernel
theorem dX4_chargeLateFees_28 : decode cX4_chargeLateFees 28 = .ok (.dup, 1) := by decide +kernel
theorem dX4_chargeLateFees_29 : decode cX4_chargeLateFees 29 = .ok (.getfield 132, 3) := by decide +kernel
theorem dX4_chargeLateFees_32 : decode cX4_chargeLateFees 32 = .ok (.aload_n 0, 1) := by decide +kernel
theorem dX4_chargeLateFees_33 : decode cX4_chargeLateFees 33 = .ok (.getfield 29, 3) := by decide +kernel
theorem dX4_chargeLateFees_36 : decode cX4_chargeLateFees 36 = .ok (.iadd, 1) := by decide +kernel
theorem dX4_chargeLateFees_37 : decode cX4_chargeLateFees 37 = .ok (.putfield 132, 3) := by decide +kernel
theorem dX4_chargeLateFees_40 : decode cX4_chargeLateFees 40 = .ok (.iinc 1 1, 3) := by decide +kernel
theorem dX4_chargeLateFees_43 : decode cX4_chargeLateFees 43 = .ok (.goto (-41), 3) := by decide +kernel
theorem dX4_chargeLateFees_46 : decode cX4_chargeLateFees 46 = .ok (.return_, 1) := by decide +kernel
end
section
theorem dX5_init_0 : decode cX5_init 0 = .ok (.aload_n 0, 1) := by decide +kernel
theorem dX5_init_1 : decode cX5_init 1 = .ok (.invokespecial 1, 3) := by decide +kernel
theorem dX5_init_4 : decode cX5_init 4 = .ok (.aload_n 0, 1) := by decide +kernel
theorem dX5_init_5 : decode cX5_init 5 = .ok (.iconst 4, 1) := by decide +kernel
theorem dX5_init_6 : decode cX5_init 6 = .ok (.newarray .int, 2) := by decide +kernel
theorem dX5_init_8 : decode cX5_init 8 = .ok (.putfield 7, 3) := by decide +kernel
theorem dX5_init_11 : decode cX5_init 11 = .ok (.aload_n 0, 1) := by decide +kernel
theorem dX5_init_12 : decode cX5_init 12 = .ok (.bipush 12, 2) := by decide +kernel
theorem dX5_init_14 : decode cX5_init 14 = .ok (.putfield 13, 3) := by decide +kernel
theorem dX5_init_17 : decode cX5_init 17 = .ok (.aload_n 0, 1) := by decide +kernel
theorem dX5_init_18 : decode cX5_init 18 = .ok (.bipush 18, 2) := by decide +kernel
theorem dX5_init_20 : decode cX5_init 20 = .ok (.putfield 17, 3) := by decide +kernel
theorem dX5_init_23 : decode cX5_init 23 = .ok (.aload_n 0, 1) := by decide +kernel
theorem dX5_init_24 : decode cX5_init 24 = .ok (.bipush 16, 2) := by decide +kernel
theorem dX5_init_26 : decode cX5_init 26 = .ok (.newarray .int, 2) := by decide +kernel
theorem dX5_init_28 : decode cX5_init 28 = .ok (.putfield 20, 3) := by decide +kernel
theorem dX5_init_31 : decode cX5_init 31 = .ok (.aload_n 0, 1) := by decide +kernel
theorem dX5_init_32 : decode cX5_init 32 = .ok (.sipush 2500, 3) := by decide +kernel
theorem dX5_init_35 : decode cX5_init 35 = .ok (.putfield 23, 3) := by decide +kernel
theorem dX5_init_38 : decode cX5_init 38 = .ok (.aload_n 0, 1) := by decide +kernel
theorem dX5_init_39 : decode cX5_init 39 = .ok (.iconst 4, 1) := by decide +kernel
theorem dX5_init_40 : decode cX5_init 40 = .ok (.newarray .int, 2) := by decide +kernel
theorem dX5_init_42 : decode cX5_init 42 = .ok (.putfield 26, 3) := by decide +kernel
theorem dX5_init_45 : decode cX5_init 45 = .ok (.aload_n 0, 1) := by decide +kernel
theorem dX5_init_46 : decode cX5_init 46 = .ok (.iconst 4, 1) := by decide +kernel
theorem dX5_init_47 : decode cX5_init 47 = .ok (.newarray .boolean, 2) := by decide +kernel
theorem dX5_init_49 : decode cX5_init 49 = .ok (.putfield 29, 3) := by decide +kernel
theorem dX5_init_52 : decode cX5_init 52 = .ok (.aload_n 0, 1) := by decide +kernel
theorem dX5_init_53 : decode cX5_init 53 = .ok (.iconst 4, 1) := by decide +kernel
theorem dX5_init_54 : decode cX5_init 54 = .ok (.newarray .int, 2) := by decide +kernel
theorem dX5_init_56 : decode cX5_init 56 = .ok (.putfield 33, 3) := by decide +kernel
theorem dX5_init_59 : decode cX5_init 59 = .ok (.aload_n 0, 1) := by decide +kernel
theorem dX5_init_60 : decode cX5_init 60 = .ok (.iconst 4, 1) := by decide +kernel
theorem dX5_init_61 : decode cX5_init 61 = .ok (.newarray .int, 2) := by decide +kernel
theorem dX5_init_63 : decode cX5_init 63 = .ok (.putfield 36, 3) := by decide +kernel
theorem dX5_init_66 : decode cX5_init 66 = .ok (.aload_n 0, 1) := by decide +kernel
theorem dX5_init_67 : decode cX5_init 67 = .ok (.iconst 4, 1) := by decide +kernel
theorem dX5_init_68 : decode cX5_init 68 = .ok (.newarray .int, 2) := by decide +kernel
theorem dX5_init_70 : decode cX5_init 70 = .ok (.putfield 39, 3) := by decide +kernel
theorem dX5_init_73 : decode cX5_init 73 = .ok (.aload_n 0, 1) := by decide +kernel
theorem dX5_init_74 : decode cX5_init 74 = .ok (.iconst 4, 1) := by decide +kernel
theorem dX5_init_75 : decode cX5_init 75 = .ok (.newarray .int, 2) := by decide +kernel
theorem dX5_init_77 : decode cX5_init 77 = .ok (.putfield 42, 3) := by decide +kernel
theorem dX5_init_80 : decode cX5_init 80 = .ok (.aload_n 0, 1) := by decide +kernel
theorem dX5_init_81 : decode cX5_init 81 = .ok (.bipush 32, 2) := by decide +kernel
theorem dX5_init_83 : decode cX5_init 83 = .ok (.newarray .int, 2) := by decide +kernel
theorem dX5_init_85 : decode cX5_init 85 = .ok (.putfield 45, 3) := by decide +kernel
theorem dX5_init_88 : decode cX5_init 88 = .ok (.aload_n 0, 1) := by decide +kernel
theorem dX5_init_89 : decode cX5_init 89 = .ok (.bipush 32, 2) := by decide +kernel
theorem dX5_init_91 : decode cX5_init 91 = .ok (.newarray .boolean, 2) := by decide +kernel
theorem dX5_init_93 : decode cX5_init 93 = .ok (.putfield 48, 3) := by decide +kernel
theorem dX5_init_96 : decode cX5_init 96 = .ok (.aload_n 0, 1) := by decide +kernel
theorem dX5_init_97 : decode cX5_init 97 = .ok (.iconst 4, 1) := by decide +kernel
theorem dX5_init_98 : decode cX5_init 98 = .ok (.newarray .int, 2) := by decide +kernel
theorem dX5_init_100 : decode cX5_init 100 = .ok (.putfield 51, 3) := by decide +kernel
theorem dX5_init_103 : decode cX5_init 103 = .ok (.aload_n 0, 1) := by decide +kernel
theorem dX5_init_104 : decode cX5_init 104 = .ok (.iconst 4, 1) := by decide +kernel
theorem dX5_init_105 : decode cX5_init 105 = .ok (.newarray .int, 2) := by decide +kernel
theorem dX5_init_107 : decode cX5_init 107 = .ok (.putfield 54, 3) := by decide +kernel
theorem dX5_init_110 : decode cX5_init 110 = .ok (.aload_n 0, 1) := by decide +kernel
theorem dX5_init_111 : decode cX5_init 111 = .ok (.iconst 4, 1) := by decide +kernel
theorem dX5_init_112 : decode cX5_init 112 = .ok (.newarray .int, 2) := by decide +kernel
theorem dX5_init_114 : decode cX5_init 114 = .ok (.putfield 57, 3) := by decide +kernel
theorem dX5_init_117 : decode cX5_init 117 = .ok (.aload_n 0, 1) := by decide +kernel
theorem dX5_init_118 : decode cX5_init 118 = .ok (.iconst 4, 1) := by decide +kernel
theorem dX5_init_119 : decode cX5_init 119 = .ok (.newarray .int, 2) := by decide +kernel
theorem dX5_init_121 : decode cX5_init 121 = .ok (.putfield 60, 3) := by decide +kernel
theorem dX5_init_124 : decode cX5_init 124 = .ok (.aload_n 0, 1) := by decide +kernel
theorem dX5_init_125 : decode cX5_init 125 = .ok (.bipush 24, 2) := by decide +kernel
theorem dX5_init_127 : decode cX5_init 127 = .ok (.newarray .int, 2) := by decide +kernel
theorem dX5_init_129 : decode cX5_init 129 = .ok (.putfield 63, 3) := by decide +kernel
theorem dX5_init_132 : decode cX5_init 132 = .ok (.aload_n 0, 1) := by decide +kernel
theorem dX5_init_133 : decode cX5_init 133 = .ok (.bipush 24, 2) := by decide +kernel
theorem dX5_init_135 : decode cX5_init 135 = .ok (.newarray .int, 2) := by decide +kernel
theorem dX5_init_137 : decode cX5_init 137 = .ok (.putfield 66, 3) := by decide +kernel
theorem dX5_init_140 : decode cX5_init 140 = .ok (.aload_n 0, 1) := by decide +kernel
theorem dX5_init_141 : decode cX5_init 141 = .ok (.iconst 4, 1) := by decide +kernel
theorem dX5_init_142 : decode cX5_init 142 = .ok (.newarray .int, 2) := by decide +kernel
theorem dX5_init_144 : decode cX5_init 144 = .ok (.putfield 69, 3) := by decide +kernel
theorem dX5_init_147 : decode cX5_init 147 = .ok (.aload_n 0, 1) := by decide +kernel
theorem dX5_init_148 : decode cX5_init 148 = .ok (.iconst 4, 1) := by decide +kernel
theorem dX5_init_149 : decode cX5_init 149 = .ok (.newarray .int, 2) := by decide +kernel
theorem dX5_init_151 : decode cX5_init 151 = .ok (.putfield 72, 3) := by decide +kernel
theorem dX5_init_154 : decode cX5_init 154 = .ok (.aload_n 0, 1) := by decide +kernel
theorem dX5_init_155 : decode cX5_init 155 = .ok (.iconst 4, 1) := by decide +kernel
theorem dX5_init_156 : decode cX5_init 156 = .ok (.newarray .int, 2) := by decide +kernel
theorem dX5_init_158 : decode cX5_init 158 = .ok (.putfield 75, 3) := by decide +kernel
theorem dX5_init_161 : decode cX5_init 161 = .ok (.aload_n 0, 1) := by decide +kernel
theorem dX5_init_162 : decode cX5_init 162 = .ok (.iconst 4, 1) := by decide +kernel
theorem dX5_init_163 : decode cX5_init 163 = .ok (.newarray .int, 2) := by decide +kernel
theorem dX5_init_165 : decode cX5_init 165 = .ok (.putfield 78, 3) := by decide +kernel
theorem dX5_init_168 : decode cX5_init 168 = .ok (.aload_n 0, 1) := by decide +kernel
theorem dX5_init_169 : decode cX5_init 169 = .ok (.iconst 4, 1) := by decide +kernel
theorem dX5_init_170 : decode cX5_init 170 = .ok (.newarray .int, 2) := by decide +kernel
theorem dX5_init_172 : decode cX5_init 172 = .ok (.putfield 81, 3) := by decide +kernel
theorem dX5_init_175 : decode cX5_init 175 = .ok (.aload_n 0, 1) := by decide +kernel
theorem dX5_init_176 : decode cX5_init 176 = .ok (.iconst 4, 1) := by decide +kernel
theorem dX5_init_177 : decode cX5_init 177 = .ok (.newarray .int, 2) := by decide +kernel
theorem dX5_init_179 : decode cX5_init 179 = .ok (.putfield 84, 3) := by decide +kernel
theorem dX5_init_182 : decode cX5_init 182 = .ok (.iconst 0, 1) := by decide +kernel
theorem dX5_init_183 : decode cX5_init 183 = .ok (.istore_n 1, 1) := by decide +kernel
theorem dX5_init_184 : decode cX5_init 184 = .ok (.iload_n 1, 1) := by decide +kernel
theorem dX5_init_185 : decode cX5_init 185 = .ok (.iconst 4, 1) := by decide +kernel
theorem dX5_init_186 : decode cX5_init 186 = .ok (.if_icmp .ge 25, 3) := by decide +kernel
theorem dX5_init_189 : decode cX5_init 189 = .ok (.aload_n 0, 1) := by decide +kernel
theorem dX5_init_190 : decode cX5_init 190 = .ok (.getfield 7, 3) := by decide +kernel
theorem dX5_init_193 : decode cX5_init 193 = .ok (.iload_n 1, 1) := by decide +kernel
theorem dX5_init_194 : decode cX5_init 194 = .ok (.sipush 10000, 3) := by decide +kernel
theorem dX5_init_197 : decode cX5_init 197 = .ok (.iastore, 1) := by decide +kernel
theorem dX5_init_198 : decode cX5_init 198 = .ok (.aload_n 0, 1) := by decide +kernel
theorem dX5_init_199 : decode cX5_init 199 = .ok (.getfield 29, 3) := by decide +kernel
theorem dX5_init_202 : decode cX5_init 202 = .ok (.iload_n 1, 1) := by decide +kernel
theorem dX5_init_203 : decode cX5_init 203 = .ok (.iconst 1, 1) := by decide +kernel
theorem dX5_init_204 : decode cX5_init 204 = .ok (.bastore, 1) := by decide +kernel
theorem dX5_init_205 : decode cX5_init 205 = .ok (.iinc 1 1, 3) := by decide +kernel
theorem dX5_init_208 : decode cX5_init 208 = .ok (.goto (-24), 3) := by decide +kernel
theorem dX5_init_211 : decode cX5_init 211 = .ok (.iconst 2, 1) := by decide +kernel
theorem dX5_init_212 : decode cX5_init 212 = .ok (.istore_n 1, 1) := by decide +kernel
theorem dX5_init_213 : decode cX5_init 213 = .ok (.iload_n 1, 1) := by decide +kernel
theorem dX5_init_214 : decode cX5_init 214 = .ok (.bipush 16, 2) := by decide +kernel
theorem dX5_init_216 : decode cX5_init 216 = .ok (.if_icmp .ge 17, 3) := by decide +kernel
theorem dX5_init_219 : decode cX5_init 219 = .ok (.aload_n 0, 1) := by decide +kernel
theorem dX5_init_220 : decode cX5_init 220 = .ok (.getfield 20, 3) := by decide +kernel
theorem dX5_init_223 : decode cX5_init 223 = .ok (.iload_n 1, 1) := by decide +kernel
theorem dX5_init_224 : decode cX5_init 224 = .ok (.bipush 100, 2) := by decide +kernel
theorem dX5_init_226 : decode cX5_init 226 = .ok (.iastore, 1) := by decide +kernel
theorem dX5_init_227 : decode cX5_init 227 = .ok (.iinc 1 1, 3) := by decide +kernel
theorem dX5_init_230 : decode cX5_init 230 = .ok (.goto (-17), 3) := by decide +kernel
theorem dX5_init_233 : decode cX5_init 233 = .ok (.return_, 1) := by decide +kernel
theorem dX5_thrown_0 : decode cX5_thrown 0 = .ok (.aload_n 0, 1) := by decide +kernel
theorem dX5_thrown_1 : decode cX5_thrown 1 = .ok (.getfield 87, 3) := by decide +kernel
theorem dX5_thrown_4 : decode cX5_thrown 4 = .ok (.ireturn, 1) := by decide +kernel
theorem dX5_holds_0 : decode cX5_holds 0 = .ok (.aload_n 0, 1) := by decide +kernel
theorem dX5_holds_1 : decode cX5_holds 1 = .ok (.iload_n 1, 1) := by decide +kernel
theorem dX5_holds_2 : decode cX5_holds 2 = .ok (.putfield 87, 3) := by decide +kernel
theorem dX5_holds_5 : decode cX5_holds 5 = .ok (.iload_n 1, 1) := by decide +kernel
theorem dX5_holds_6 : decode cX5_holds 6 = .ok (.ifCond .ne 7, 3) := by decide +kernel
theorem dX5_holds_9 : decode cX5_holds 9 = .ok (.iconst 1, 1) := by decide +kernel
theorem dX5_holds_10 : decode cX5_holds 10 = .ok (.goto 4, 3) := by decide +kernel
theorem dX5_holds_13 : decode cX5_holds 13 = .ok (.iconst 0, 1) := by decide +kernel
theorem dX5_holds_14 : decode cX5_holds 14 = .ok (.ireturn, 1) := by decide +kernel
theorem dX5_in_0 : decode cX5_in 0 = .ok (.iload_n 0, 1) := by decide +kernel
theorem dX5_in_1 : decode cX5_in 1 = .ok (.iload_n 1, 1) := by decide +kernel
theorem dX5_in_2 : decode cX5_in 2 = .ok (.if_icmp .lt 12, 3) := by decide +kernel
theorem dX5_in_5 : decode cX5_in 5 = .ok (.iload_n 0, 1) := by decide +kernel
theorem dX5_in_6 : decode cX5_in 6 = .ok (.iload_n 2, 1) := by decide +kernel
theorem dX5_in_7 : decode cX5_in 7 = .ok (.if_icmp .gt 7, 3) := by decide +kernel
theorem dX5_in_10 : decode cX5_in 10 = .ok (.iconst 1, 1) := by decide +kernel
theorem dX5_in_11 : decode cX5_in 11 = .ok (.goto 4, 3) := by decide +kernel
theorem dX5_in_14 : decode cX5_in 14 = .ok (.iconst 0, 1) := by decide +kernel
theorem dX5_in_15 : decode cX5_in 15 = .ok (.ireturn, 1) := by decide +kernel
set_option maxRecDepth 20000 in
theorem ggX5_isStudent_X5_in : GoodIn wsX5_isStudent wsX5_in := goodIn_r _ [4] (by decide +kernel) (by decide +kernel)
set_option maxRecDepth 20000 in
theorem gX5_isStudent_X5_in : GoodIn wsX5_isStudent (va_wsS RX5 90 yX5_in wsX5_in) := goodIn_app (goodIn_of _ (by decide +kernel)) ggX5_isStudent_X5_in
theorem dX5_isStudent_0 : decode cX5_isStudent 0 = .ok (.iload_n 0, 1) := by decide +kernel
theorem dX5_isStudent_1 : decode cX5_isStudent 1 = .ok (.iconst 0, 1) := by decide +kernel
theorem dX5_isStudent_2 : decode cX5_isStudent 2 = .ok (.iconst 3, 1) := by decide +kernel
theorem dX5_isStudent_3 : decode cX5_isStudent 3 = .ok (.invokestatic 90, 3) := by decide +kernel
theorem dX5_isStudent_6 : decode cX5_isStudent 6 = .ok (.ireturn, 1) := by decide +kernel
theorem dX5_least_0 : decode cX5_least 0 = .ok (.iload_n 0, 1) := by decide +kernel
theorem dX5_least_1 : decode cX5_least 1 = .ok (.iload_n 1, 1) := by decide +kernel
theorem dX5_least_2 : decode cX5_least 2 = .ok (.if_icmp .ge 7, 3) := by decide +kernel
theorem dX5_least_5 : decode cX5_least 5 = .ok (.iload_n 0, 1) := by decide +kernel
theorem dX5_least_6 : decode cX5_least 6 = .ok (.goto 4, 3) := by decide +kernel
theorem dX5_least_9 : decode cX5_least 9 = .ok (.iload_n 1, 1) := by decide +kernel
theorem dX5_least_10 : decode cX5_least 10 = .ok (.ireturn, 1) := by decide +kernel
theorem dX5_rateOf_0 : decode cX5_rateOf 0 = .ok (.iconst 2, 1) := by decide +kernel
theorem dX5_rateOf_1 : decode cX5_rateOf 1 = .ok (.iload_n 0, 1) := by decide +kernel
theorem dX5_rateOf_2 : decode cX5_rateOf 2 = .ok (.imul, 1) := by decide +kernel
theorem dX5_rateOf_3 : decode cX5_rateOf 3 = .ok (.iload_n 1, 1) := by decide +kernel
theorem dX5_rateOf_4 : decode cX5_rateOf 4 = .ok (.ifCond .eq 7, 3) := by decide +kernel
theorem dX5_rateOf_7 : decode cX5_rateOf 7 = .ok (.iconst 1, 1) := by decide +kernel
theorem dX5_rateOf_8 : decode cX5_rateOf 8 = .ok (.goto 4, 3) := by decide +kernel
theorem dX5_rateOf_11 : decode cX5_rateOf 11 = .ok (.iconst 0, 1) := by decide +kernel
theorem dX5_rateOf_12 : decode cX5_rateOf 12 = .ok (.iadd, 1) := by decide +kernel
theorem dX5_rateOf_13 : decode cX5_rateOf 13 = .ok (.ireturn, 1) := by decide +kernel
set_option maxRecDepth 20000 in
theorem ggX5_setRate_X5_in : GoodIn wsX5_setRate wsX5_in := goodIn_r _ [6] (by decide +kernel) (by decide +kernel)
set_option maxRecDepth 20000 in
theorem gX5_setRate_X5_in : GoodIn wsX5_setRate (va_wsS RX5 90 yX5_in wsX5_in) := goodIn_app (goodIn_of _ (by decide +kernel)) ggX5_setRate_X5_in
set_option maxRecDepth 20000 in
theorem ggX5_setRate_X5_holds : GoodIn wsX5_setRate wsX5_holds := goodIn_r _ [10, 11, 15, 16, 17, 18, 19, 20, 21, 22, 23, 24, 25, 26, 27, 28, 29, 30, 31, 32, 33, 34, 35, 36, 37, 38, 39, 40, 41, 42, 43] (by decide +kernel) (by decide +kernel)
set_option maxRecDepth 20000 in
theorem gX5_setRate_X5_holds : GoodIn wsX5_setRate (wsV RX5 95 RX5 yX5_holds wsX5_holds) := goodIn_app (goodIn_of _ (by decide +kernel)) ggX5_setRate_X5_holds
set_option maxRecDepth 20000 in
theorem ggX5_setRate_X5_rateOf : GoodIn wsX5_setRate wsX5_rateOf := goodIn_r _ [14] (by decide +kernel) (by decide +kernel)
set_option maxRecDepth 20000 in
theorem gX5_setRate_X5_rateOf : GoodIn wsX5_setRate (va_wsS RX5 99 yX5_rateOf wsX5_rateOf) := goodIn_app (goodIn_of _ (by decide +kernel)) ggX5_setRate_X5_rateOf
theorem dX5_setRate_0 : decode cX5_setRate 0 = .ok (.aload_n 0, 1) := by decide +kernel
theorem dX5_setRate_1 : decode cX5_setRate 1 = .ok (.iload_n 1, 1) := by decide +kernel
theorem dX5_setRate_2 : decode cX5_setRate 2 = .ok (.iconst 0, 1) := by decide +kernel
theorem dX5_setRate_3 : decode cX5_setRate 3 = .ok (.iconst 1, 1) := by decide +kernel
theorem dX5_setRate_4 : decode cX5_setRate 4 = .ok (.invokestatic 90, 3) := by decide +kernel
theorem dX5_setRate_7 : decode cX5_setRate 7 = .ok (.ifCond .eq 17, 3) := by decide +kernel
theorem dX5_setRate_10 : decode cX5_setRate 10 = .ok (.iload_n 3, 1) := by decide +kernel
theorem dX5_setRate_11 : decode cX5_setRate 11 = .ok (.iconst 0, 1) := by decide +kernel
theorem dX5_setRate_12 : decode cX5_setRate 12 = .ok (.ldc 94, 2) := by decide +kernel
theorem dX5_setRate_14 : decode cX5_setRate 14 = .ok (.invokestatic 90, 3) := by decide +kernel
theorem dX5_setRate_17 : decode cX5_setRate 17 = .ok (.ifCond .eq 7, 3) := by decide +kernel
theorem dX5_setRate_20 : decode cX5_setRate 20 = .ok (.iconst 0, 1) := by decide +kernel
theorem dX5_setRate_21 : decode cX5_setRate 21 = .ok (.goto 4, 3) := by decide +kernel
theorem dX5_setRate_24 : decode cX5_setRate 24 = .ok (.iconst 1, 1) := by decide +kernel
theorem dX5_setRate_25 : decode cX5_setRate 25 = .ok (.invokevirtual 95, 3) := by decide +kernel
theorem dX5_setRate_28 : decode cX5_setRate 28 = .ok (.ifCond .ne 5, 3) := by decide +kernel
theorem dX5_setRate_31 : decode cX5_setRate 31 = .ok (.iconst 0, 1) := by decide +kernel
theorem dX5_setRate_32 : decode cX5_setRate 32 = .ok (.ireturn, 1) := by decide +kernel
theorem dX5_setRate_33 : decode cX5_setRate 33 = .ok (.aload_n 0, 1) := by decide +kernel
theorem dX5_setRate_34 : decode cX5_setRate 34 = .ok (.getfield 7, 3) := by decide +kernel
theorem dX5_setRate_37 : decode cX5_setRate 37 = .ok (.iload_n 1, 1) := by decide +kernel
theorem dX5_setRate_38 : decode cX5_setRate 38 = .ok (.iload_n 2, 1) := by decide +kernel
theorem dX5_setRate_39 : decode cX5_setRate 39 = .ok (.invokestatic 99, 3) := by decide +kernel
theorem dX5_setRate_42 : decode cX5_setRate 42 = .ok (.iaload, 1) := by decide +kernel
theorem dX5_setRate_43 : decode cX5_setRate 43 = .ok (.istore 4, 2) := by decide +kernel
theorem dX5_setRate_45 : decode cX5_setRate 45 = .ok (.aload_n 0, 1) := by decide +kernel
theorem dX5_setRate_46 : decode cX5_setRate 46 = .ok (.getfield 7, 3) := by decide +kernel
theorem dX5_setRate_49 : decode cX5_setRate 49 = .ok (.iload_n 1, 1) := by decide +kernel
theorem dX5_setRate_50 : decode cX5_setRate 50 = .ok (.iload_n 2, 1) := by decide +kernel
theorem dX5_setRate_51 : decode cX5_setRate 51 = .ok (.invokestatic 99, 3) := by decide +kernel
theorem dX5_setRate_54 : decode cX5_setRate 54 = .ok (.iload_n 3, 1) := by decide +kernel
theorem dX5_setRate_55 : decode cX5_setRate 55 = .ok (.iastore, 1) := by decide +kernel
theorem dX5_setRate_56 : decode cX5_setRate 56 = .ok (.iload 4, 2) := by decide +kernel
theorem dX5_setRate_58 : decode cX5_setRate 58 = .ok (.ireturn, 1) := by decide +kernel
set_option maxRecDepth 20000 in
theorem ggX5_setBand_X5_in : GoodIn wsX5_setBand wsX5_in := goodIn_r _ [6] (by decide +kernel) (by decide +kernel)
set_option maxRecDepth 20000 in
theorem gX5_setBand_X5_in : GoodIn wsX5_setBand (va_wsS RX5 90 yX5_in wsX5_in) := goodIn_app (goodIn_of _ (by decide +kernel)) ggX5_setBand_X5_in
set_option maxRecDepth 20000 in
theorem ggX5_setBand_X5_holds : GoodIn wsX5_setBand wsX5_holds := goodIn_r _ [10, 11, 12, 13, 14, 15, 16, 17, 18, 19, 20, 21, 22, 23, 24, 25, 26, 27, 28, 29, 30, 31, 32, 33, 34, 35, 36, 37, 38, 39, 40] (by decide +kernel) (by decide +kernel)
set_option maxRecDepth 20000 in
theorem gX5_setBand_X5_holds : GoodIn wsX5_setBand (wsV RX5 95 RX5 yX5_holds wsX5_holds) := goodIn_app (goodIn_of _ (by decide +kernel)) ggX5_setBand_X5_holds
theorem dX5_setBand_0 : decode cX5_setBand 0 = .ok (.aload_n 0, 1) := by decide +kernel
theorem dX5_setBand_1 : decode cX5_setBand 1 = .ok (.iload_n 1, 1) := by decide +kernel
theorem dX5_setBand_2 : decode cX5_setBand 2 = .ok (.iconst 1, 1) := by decide +kernel
theorem dX5_setBand_3 : decode cX5_setBand 3 = .ok (.bipush 30, 2) := by decide +kernel
theorem dX5_setBand_5 : decode cX5_setBand 5 = .ok (.invokestatic 90, 3) := by decide +kernel
theorem dX5_setBand_8 : decode cX5_setBand 8 = .ok (.ifCond .eq 17, 3) := by decide +kernel
theorem dX5_setBand_11 : decode cX5_setBand 11 = .ok (.iload_n 2, 1) := by decide +kernel
theorem dX5_setBand_12 : decode cX5_setBand 12 = .ok (.iload_n 1, 1) := by decide +kernel
theorem dX5_setBand_13 : decode cX5_setBand 13 = .ok (.bipush 30, 2) := by decide +kernel
theorem dX5_setBand_15 : decode cX5_setBand 15 = .ok (.invokestatic 90, 3) := by decide +kernel
theorem dX5_setBand_18 : decode cX5_setBand 18 = .ok (.ifCond .eq 7, 3) := by decide +kernel
theorem dX5_setBand_21 : decode cX5_setBand 21 = .ok (.iconst 0, 1) := by decide +kernel
theorem dX5_setBand_22 : decode cX5_setBand 22 = .ok (.goto 4, 3) := by decide +kernel
theorem dX5_setBand_25 : decode cX5_setBand 25 = .ok (.iconst 1, 1) := by decide +kernel
theorem dX5_setBand_26 : decode cX5_setBand 26 = .ok (.invokevirtual 95, 3) := by decide +kernel
theorem dX5_setBand_29 : decode cX5_setBand 29 = .ok (.ifCond .eq 13, 3) := by decide +kernel
theorem dX5_setBand_32 : decode cX5_setBand 32 = .ok (.aload_n 0, 1) := by decide +kernel
theorem dX5_setBand_33 : decode cX5_setBand 33 = .ok (.iload_n 1, 1) := by decide +kernel
theorem dX5_setBand_34 : decode cX5_setBand 34 = .ok (.putfield 13, 3) := by decide +kernel
theorem dX5_setBand_37 : decode cX5_setBand 37 = .ok (.aload_n 0, 1) := by decide +kernel
theorem dX5_setBand_38 : decode cX5_setBand 38 = .ok (.iload_n 2, 1) := by decide +kernel
theorem dX5_setBand_39 : decode cX5_setBand 39 = .ok (.putfield 17, 3) := by decide +kernel
theorem dX5_setBand_42 : decode cX5_setBand 42 = .ok (.return_, 1) := by decide +kernel
set_option maxRecDepth 20000 in
theorem ggX5_setShare_X5_in : GoodIn wsX5_setShare wsX5_in := goodIn_r _ [5] (by decide +kernel) (by decide +kernel)
set_option maxRecDepth 20000 in
theorem gX5_setShare_X5_in : GoodIn wsX5_setShare (va_wsS RX5 90 yX5_in wsX5_in) := goodIn_app (goodIn_of _ (by decide +kernel)) ggX5_setShare_X5_in
set_option maxRecDepth 20000 in
theorem ggX5_setShare_X5_holds : GoodIn wsX5_setShare wsX5_holds := goodIn_r _ [9, 10, 11, 12, 13, 14, 15, 16, 17, 18, 19, 20, 21, 22, 23, 24, 25, 26, 27, 28, 29, 30, 31, 32, 33, 34, 35, 36, 37, 38, 39] (by decide +kernel) (by decide +kernel)
set_option maxRecDepth 20000 in
theorem gX5_setShare_X5_holds : GoodIn wsX5_setShare (wsV RX5 95 RX5 yX5_holds wsX5_holds) := goodIn_app (goodIn_of _ (by decide +kernel)) ggX5_setShare_X5_holds
theorem dX5_setShare_0 : decode cX5_setShare 0 = .ok (.aload_n 0, 1) := by decide +kernel
theorem dX5_setShare_1 : decode cX5_setShare 1 = .ok (.iload_n 1, 1) := by decide +kernel
theorem dX5_setShare_2 : decode cX5_setShare 2 = .ok (.iconst 0, 1) := by decide +kernel
theorem dX5_setShare_3 : decode cX5_setShare 3 = .ok (.bipush 15, 2) := by decide +kernel
theorem dX5_setShare_5 : decode cX5_setShare 5 = .ok (.invokestatic 90, 3) := by decide +kernel
theorem dX5_setShare_8 : decode cX5_setShare 8 = .ok (.ifCond .eq 17, 3) := by decide +kernel
theorem dX5_setShare_11 : decode cX5_setShare 11 = .ok (.iload_n 2, 1) := by decide +kernel
theorem dX5_setShare_12 : decode cX5_setShare 12 = .ok (.iconst 0, 1) := by decide +kernel
theorem dX5_setShare_13 : decode cX5_setShare 13 = .ok (.bipush 100, 2) := by decide +kernel
theorem dX5_setShare_15 : decode cX5_setShare 15 = .ok (.invokestatic 90, 3) := by decide +kernel
theorem dX5_setShare_18 : decode cX5_setShare 18 = .ok (.ifCond .eq 7, 3) := by decide +kernel
theorem dX5_setShare_21 : decode cX5_setShare 21 = .ok (.iconst 0, 1) := by decide +kernel
theorem dX5_setShare_22 : decode cX5_setShare 22 = .ok (.goto 4, 3) := by decide +kernel
theorem dX5_setShare_25 : decode cX5_setShare 25 = .ok (.iconst 1, 1) := by decide +kernel
theorem dX5_setShare_26 : decode cX5_setShare 26 = .ok (.invokevirtual 95, 3) := by decide +kernel
theorem dX5_setShare_29 : decode cX5_setShare 29 = .ok (.ifCond .ne 5, 3) := by decide +kernel
theorem dX5_setShare_32 : decode cX5_setShare 32 = .ok (.iconst 0, 1) := by decide +kernel
theorem dX5_setShare_33 : decode cX5_setShare 33 = .ok (.ireturn, 1) := by decide +kernel
theorem dX5_setShare_34 : decode cX5_setShare 34 = .ok (.aload_n 0, 1) := by decide +kernel
theorem dX5_setShare_35 : decode cX5_setShare 35 = .ok (.getfield 20, 3) := by decide +kernel
theorem dX5_setShare_38 : decode cX5_setShare 38 = .ok (.iload_n 1, 1) := by decide +kernel
theorem dX5_setShare_39 : decode cX5_setShare 39 = .ok (.iaload, 1) := by decide +kernel
theorem dX5_setShare_40 : decode cX5_setShare 40 = .ok (.istore_n 3, 1) := by decide +kernel
theorem dX5_setShare_41 : decode cX5_setShare 41 = .ok (.aload_n 0, 1) := by decide +kernel
theorem dX5_setShare_42 : decode cX5_setShare 42 = .ok (.getfield 20, 3) := by decide +kernel
theorem dX5_setShare_45 : decode cX5_setShare 45 = .ok (.iload_n 1, 1) := by decide +kernel
theorem dX5_setShare_46 : decode cX5_setShare 46 = .ok (.iload_n 2, 1) := by decide +kernel
theorem dX5_setShare_47 : decode cX5_setShare 47 = .ok (.iastore, 1) := by decide +kernel
theorem dX5_setShare_48 : decode cX5_setShare 48 = .ok (.iload_n 3, 1) := by decide +kernel
theorem dX5_setShare_49 : decode cX5_setShare 49 = .ok (.ireturn, 1) := by decide +kernel
set_option maxRecDepth 20000 in
theorem ggX5_setFees_X5_in : GoodIn wsX5_setFees wsX5_in := goodIn_r _ [8] (by decide +kernel) (by decide +kernel)
set_option maxRecDepth 20000 in
theorem gX5_setFees_X5_in : GoodIn wsX5_setFees (va_wsS RX5 90 yX5_in wsX5_in) := goodIn_app (goodIn_of _ (by decide +kernel)) ggX5_setFees_X5_in
set_option maxRecDepth 20000 in
theorem ggX5_setFees_X5_holds : GoodIn wsX5_setFees wsX5_holds := goodIn_r _ [12, 13, 14, 15, 16, 17, 18, 19, 20, 21, 22, 23, 24, 25, 26, 27, 28, 29, 30, 31, 32, 33, 34, 35, 36, 37, 38, 39, 40, 41, 42] (by decide +kernel) (by decide +kernel)
set_option maxRecDepth 20000 in
theorem gX5_setFees_X5_holds : GoodIn wsX5_setFees (wsV RX5 95 RX5 yX5_holds wsX5_holds) := goodIn_app (goodIn_of _ (by decide +kernel)) ggX5_setFees_X5_holds
theorem dX5_setFees_0 : decode cX5_setFees 0 = .ok (.aload_n 0, 1) := by decide +kernel
theorem dX5_setFees_1 : decode cX5_setFees 1 = .ok (.iload_n 1, 1) := by decide +kernel
theorem dX5_setFees_2 : decode cX5_setFees 2 = .ok (.iconst 0, 1) := by decide +kernel
theorem dX5_setFees_3 : decode cX5_setFees 3 = .ok (.ldc 94, 2) := by decide +kernel
theorem dX5_setFees_5 : decode cX5_setFees 5 = .ok (.invokestatic 90, 3) := by decide +kernel
theorem dX5_setFees_8 : decode cX5_setFees 8 = .ok (.ifCond .eq 17, 3) := by decide +kernel
theorem dX5_setFees_11 : decode cX5_setFees 11 = .ok (.iload_n 2, 1) := by decide +kernel
theorem dX5_setFees_12 : decode cX5_setFees 12 = .ok (.iconst 0, 1) := by decide +kernel
theorem dX5_setFees_13 : decode cX5_setFees 13 = .ok (.ldc 103, 2) := by decide +kernel
theorem dX5_setFees_15 : decode cX5_setFees 15 = .ok (.invokestatic 90, 3) := by decide +kernel
theorem dX5_setFees_18 : decode cX5_setFees 18 = .ok (.ifCond .eq 7, 3) := by decide +kernel
theorem dX5_setFees_21 : decode cX5_setFees 21 = .ok (.iconst 0, 1) := by decide +kernel
theorem dX5_setFees_22 : decode cX5_setFees 22 = .ok (.goto 4, 3) := by decide +kernel
theorem dX5_setFees_25 : decode cX5_setFees 25 = .ok (.iconst 1, 1) := by decide +kernel
theorem dX5_setFees_26 : decode cX5_setFees 26 = .ok (.invokevirtual 95, 3) := by decide +kernel
theorem dX5_setFees_29 : decode cX5_setFees 29 = .ok (.ifCond .eq 13, 3) := by decide +kernel
theorem dX5_setFees_32 : decode cX5_setFees 32 = .ok (.aload_n 0, 1) := by decide +kernel
theorem dX5_setFees_33 : decode cX5_setFees 33 = .ok (.iload_n 1, 1) := by decide +kernel
theorem dX5_setFees_34 : decode cX5_setFees 34 = .ok (.putfield 23, 3) := by decide +kernel
theorem dX5_setFees_37 : decode cX5_setFees 37 = .ok (.aload_n 0, 1) := by decide +kernel
theorem dX5_setFees_38 : decode cX5_setFees 38 = .ok (.iload_n 2, 1) := by decide +kernel
theorem dX5_setFees_39 : decode cX5_setFees 39 = .ok (.putfield 104, 3) := by decide +kernel
theorem dX5_setFees_42 : decode cX5_setFees 42 = .ok (.return_, 1) := by decide +kernel
set_option maxRecDepth 20000 in
theorem ggX5_setStudent_X5_isStudent : GoodIn wsX5_setStudent wsX5_isStudent := goodIn_r _ [8, 9, 10, 7, 11] (by decide +kernel) (by decide +kernel)
set_option maxRecDepth 20000 in
theorem gX5_setStudent_X5_isStudent : GoodIn wsX5_setStudent (va_wsS RX5 107 yX5_isStudent wsX5_isStudent) := goodIn_app (goodIn_of _ (by decide +kernel)) ggX5_setStudent_X5_isStudent
set_option maxRecDepth 20000 in
theorem ggX5_setStudent_X5_in : GoodIn wsX5_setStudent wsX5_in := goodIn_r _ [11] (by decide +kernel) (by decide +kernel)
set_option maxRecDepth 20000 in
theorem gX5_setStudent_X5_in : GoodIn wsX5_setStudent (va_wsS RX5 90 yX5_in wsX5_in) := goodIn_app (goodIn_of _ (by decide +kernel)) ggX5_setStudent_X5_in
set_option maxRecDepth 20000 in
theorem ggX5_setStudent_X5_holds : GoodIn wsX5_setStudent wsX5_holds := goodIn_r _ [15, 16, 17, 18, 19, 20, 21, 22, 23, 24, 25, 26, 27, 28, 29, 30, 31, 32, 33, 34, 35, 36, 37, 38, 39, 40, 41, 42, 43, 44, 45] (by decide +kernel) (by decide +kernel)
set_option maxRecDepth 20000 in
theorem gX5_setStudent_X5_holds : GoodIn wsX5_setStudent (wsV RX5 95 RX5 yX5_holds wsX5_holds) := goodIn_app (goodIn_of _ (by decide +kernel)) ggX5_setStudent_X5_holds
theorem dX5_setStudent_0 : decode cX5_setStudent 0 = .ok (.aload_n 0, 1) := by decide +kernel
theorem dX5_setStudent_1 : decode cX5_setStudent 1 = .ok (.iload_n 1, 1) := by decide +kernel
theorem dX5_setStudent_2 : decode cX5_setStudent 2 = .ok (.invokestatic 107, 3) := by decide +kernel
theorem dX5_setStudent_5 : decode cX5_setStudent 5 = .ok (.ifCond .ne 7, 3) := by decide +kernel
theorem dX5_setStudent_8 : decode cX5_setStudent 8 = .ok (.iconst 1, 1) := by decide +kernel
theorem dX5_setStudent_9 : decode cX5_setStudent 9 = .ok (.goto 28, 3) := by decide +kernel
theorem dX5_setStudent_12 : decode cX5_setStudent 12 = .ok (.iload_n 2, 1) := by decide +kernel
theorem dX5_setStudent_13 : decode cX5_setStudent 13 = .ok (.iconst 0, 1) := by decide +kernel
theorem dX5_setStudent_14 : decode cX5_setStudent 14 = .ok (.iconst 1, 1) := by decide +kernel
theorem dX5_setStudent_15 : decode cX5_setStudent 15 = .ok (.invokestatic 90, 3) := by decide +kernel
theorem dX5_setStudent_18 : decode cX5_setStudent 18 = .ok (.ifCond .eq 18, 3) := by decide +kernel
theorem dX5_setStudent_21 : decode cX5_setStudent 21 = .ok (.iload 4, 2) := by decide +kernel
theorem dX5_setStudent_23 : decode cX5_setStudent 23 = .ok (.iconst 0, 1) := by decide +kernel
theorem dX5_setStudent_24 : decode cX5_setStudent 24 = .ok (.ldc 103, 2) := by decide +kernel
theorem dX5_setStudent_26 : decode cX5_setStudent 26 = .ok (.invokestatic 90, 3) := by decide +kernel
theorem dX5_setStudent_29 : decode cX5_setStudent 29 = .ok (.ifCond .eq 7, 3) := by decide +kernel
theorem dX5_setStudent_32 : decode cX5_setStudent 32 = .ok (.iconst 0, 1) := by decide +kernel
theorem dX5_setStudent_33 : decode cX5_setStudent 33 = .ok (.goto 4, 3) := by decide +kernel
theorem dX5_setStudent_36 : decode cX5_setStudent 36 = .ok (.iconst 2, 1) := by decide +kernel
theorem dX5_setStudent_37 : decode cX5_setStudent 37 = .ok (.invokevirtual 95, 3) := by decide +kernel
theorem dX5_setStudent_40 : decode cX5_setStudent 40 = .ok (.ifCond .eq 25, 3) := by decide +kernel
theorem dX5_setStudent_43 : decode cX5_setStudent 43 = .ok (.aload_n 0, 1) := by decide +kernel
theorem dX5_setStudent_44 : decode cX5_setStudent 44 = .ok (.getfield 26, 3) := by decide +kernel
theorem dX5_setStudent_47 : decode cX5_setStudent 47 = .ok (.iload_n 1, 1) := by decide +kernel
theorem dX5_setStudent_48 : decode cX5_setStudent 48 = .ok (.iload_n 2, 1) := by decide +kernel
theorem dX5_setStudent_49 : decode cX5_setStudent 49 = .ok (.iastore, 1) := by decide +kernel
theorem dX5_setStudent_50 : decode cX5_setStudent 50 = .ok (.aload_n 0, 1) := by decide +kernel
theorem dX5_setStudent_51 : decode cX5_setStudent 51 = .ok (.getfield 29, 3) := by decide +kernel
theorem dX5_setStudent_54 : decode cX5_setStudent 54 = .ok (.iload_n 1, 1) := by decide +kernel
theorem dX5_setStudent_55 : decode cX5_setStudent 55 = .ok (.iload_n 3, 1) := by decide +kernel
theorem dX5_setStudent_56 : decode cX5_setStudent 56 = .ok (.bastore, 1) := by decide +kernel
theorem dX5_setStudent_57 : decode cX5_setStudent 57 = .ok (.aload_n 0, 1) := by decide +kernel
theorem dX5_setStudent_58 : decode cX5_setStudent 58 = .ok (.getfield 33, 3) := by decide +kernel
theorem dX5_setStudent_61 : decode cX5_setStudent 61 = .ok (.iload_n 1, 1) := by decide +kernel
theorem dX5_setStudent_62 : decode cX5_setStudent 62 = .ok (.iload 4, 2) := by decide +kernel
theorem dX5_setStudent_64 : decode cX5_setStudent 64 = .ok (.iastore, 1) := by decide +kernel
theorem dX5_setStudent_65 : decode cX5_setStudent 65 = .ok (.return_, 1) := by decide +kernel
set_option maxRecDepth 20000 in
theorem ggX5_setSponsor_X5_isStudent : GoodIn wsX5_setSponsor wsX5_isStudent := goodIn_r _ [7, 8, 9, 6, 10] (by decide +kernel) (by decide +kernel)
set_option maxRecDepth 20000 in
theorem gX5_setSponsor_X5_isStudent : GoodIn wsX5_setSponsor (va_wsS RX5 107 yX5_isStudent wsX5_isStudent) := goodIn_app (goodIn_of _ (by decide +kernel)) ggX5_setSponsor_X5_isStudent
set_option maxRecDepth 20000 in
theorem ggX5_setSponsor_X5_in : GoodIn wsX5_setSponsor wsX5_in := goodIn_r _ [10] (by decide +kernel) (by decide +kernel)
set_option maxRecDepth 20000 in
theorem gX5_setSponsor_X5_in : GoodIn wsX5_setSponsor (va_wsS RX5 90 yX5_in wsX5_in) := goodIn_app (goodIn_of _ (by decide +kernel)) ggX5_setSponsor_X5_in
set_option maxRecDepth 20000 in
theorem ggX5_setSponsor_X5_holds : GoodIn wsX5_setSponsor wsX5_holds := goodIn_r _ [14, 15, 16, 17, 18, 19, 20, 21, 22, 23, 24, 25, 26, 27, 28, 29, 30, 31, 32, 33, 34, 35, 36, 37, 38, 39, 40, 41, 42, 43, 44] (by decide +kernel) (by decide +kernel)
set_option maxRecDepth 20000 in
theorem gX5_setSponsor_X5_holds : GoodIn wsX5_setSponsor (wsV RX5 95 RX5 yX5_holds wsX5_holds) := goodIn_app (goodIn_of _ (by decide +kernel)) ggX5_setSponsor_X5_holds
theorem dX5_setSponsor_0 : decode cX5_setSponsor 0 = .ok (.aload_n 0, 1) := by decide +kernel
theorem dX5_setSponsor_1 : decode cX5_setSponsor 1 = .ok (.iload_n 1, 1) := by decide +kernel
theorem dX5_setSponsor_2 : decode cX5_setSponsor 2 = .ok (.invokestatic 107, 3) := by decide +kernel
theorem dX5_setSponsor_5 : decode cX5_setSponsor 5 = .ok (.ifCond .ne 7, 3) := by decide +kernel
theorem dX5_setSponsor_8 : decode cX5_setSponsor 8 = .ok (.iconst 1, 1) := by decide +kernel
theorem dX5_setSponsor_9 : decode cX5_setSponsor 9 = .ok (.goto 28, 3) := by decide +kernel
theorem dX5_setSponsor_12 : decode cX5_setSponsor 12 = .ok (.iload_n 2, 1) := by decide +kernel
theorem dX5_setSponsor_13 : decode cX5_setSponsor 13 = .ok (.iconst 0, 1) := by decide +kernel
theorem dX5_setSponsor_14 : decode cX5_setSponsor 14 = .ok (.bipush 7, 2) := by decide +kernel
theorem dX5_setSponsor_16 : decode cX5_setSponsor 16 = .ok (.invokestatic 90, 3) := by decide +kernel
theorem dX5_setSponsor_19 : decode cX5_setSponsor 19 = .ok (.ifCond .eq 17, 3) := by decide +kernel
theorem dX5_setSponsor_22 : decode cX5_setSponsor 22 = .ok (.iload_n 3, 1) := by decide +kernel
theorem dX5_setSponsor_23 : decode cX5_setSponsor 23 = .ok (.iconst 0, 1) := by decide +kernel
theorem dX5_setSponsor_24 : decode cX5_setSponsor 24 = .ok (.ldc 103, 2) := by decide +kernel
theorem dX5_setSponsor_26 : decode cX5_setSponsor 26 = .ok (.invokestatic 90, 3) := by decide +kernel
theorem dX5_setSponsor_29 : decode cX5_setSponsor 29 = .ok (.ifCond .eq 7, 3) := by decide +kernel
theorem dX5_setSponsor_32 : decode cX5_setSponsor 32 = .ok (.iconst 0, 1) := by decide +kernel
theorem dX5_setSponsor_33 : decode cX5_setSponsor 33 = .ok (.goto 4, 3) := by decide +kernel
theorem dX5_setSponsor_36 : decode cX5_setSponsor 36 = .ok (.iconst 2, 1) := by decide +kernel
theorem dX5_setSponsor_37 : decode cX5_setSponsor 37 = .ok (.invokevirtual 95, 3) := by decide +kernel
theorem dX5_setSponsor_40 : decode cX5_setSponsor 40 = .ok (.ifCond .eq 17, 3) := by decide +kernel
theorem dX5_setSponsor_43 : decode cX5_setSponsor 43 = .ok (.aload_n 0, 1) := by decide +kernel
theorem dX5_setSponsor_44 : decode cX5_setSponsor 44 = .ok (.getfield 36, 3) := by decide +kernel
theorem dX5_setSponsor_47 : decode cX5_setSponsor 47 = .ok (.iload_n 1, 1) := by decide +kernel
theorem dX5_setSponsor_48 : decode cX5_setSponsor 48 = .ok (.iload_n 2, 1) := by decide +kernel
theorem dX5_setSponsor_49 : decode cX5_setSponsor 49 = .ok (.iastore, 1) := by decide +kernel
theorem dX5_setSponsor_50 : decode cX5_setSponsor 50 = .ok (.aload_n 0, 1) := by decide +kernel
theorem dX5_setSponsor_51 : decode cX5_setSponsor 51 = .ok (.getfield 39, 3) := by decide +kernel
theorem dX5_setSponsor_54 : decode cX5_setSponsor 54 = .ok (.iload_n 1, 1) := by decide +kernel
theorem dX5_setSponsor_55 : decode cX5_setSponsor 55 = .ok (.iload_n 3, 1) := by decide +kernel
theorem dX5_setSponsor_56 : decode cX5_setSponsor 56 = .ok (.iastore, 1) := by decide +kernel
theorem dX5_setSponsor_57 : decode cX5_setSponsor 57 = .ok (.return_, 1) := by decide +kernel
theorem dX5_creditsOf_0 : decode cX5_creditsOf 0 = .ok (.iconst 0, 1) := by decide +kernel
theorem dX5_creditsOf_1 : decode cX5_creditsOf 1 = .ok (.istore_n 2, 1) := by decide +kernel
theorem dX5_creditsOf_2 : decode cX5_creditsOf 2 = .ok (.bipush 8, 2) := by decide +kernel
theorem dX5_creditsOf_4 : decode cX5_creditsOf 4 = .ok (.iload_n 1, 1) := by decide +kernel
theorem dX5_creditsOf_5 : decode cX5_creditsOf 5 = .ok (.imul, 1) := by decide +kernel
theorem dX5_creditsOf_6 : decode cX5_creditsOf 6 = .ok (.istore_n 3, 1) := by decide +kernel
theorem dX5_creditsOf_7 : decode cX5_creditsOf 7 = .ok (.iload_n 3, 1) := by decide +kernel
theorem dX5_creditsOf_8 : decode cX5_creditsOf 8 = .ok (.bipush 8, 2) := by decide +kernel
theorem dX5_creditsOf_10 : decode cX5_creditsOf 10 = .ok (.iload_n 1, 1) := by decide +kernel
theorem dX5_creditsOf_11 : decode cX5_creditsOf 11 = .ok (.imul, 1) := by decide +kernel
theorem dX5_creditsOf_12 : decode cX5_creditsOf 12 = .ok (.aload_n 0, 1) := by decide +kernel
theorem dX5_creditsOf_13 : decode cX5_creditsOf 13 = .ok (.getfield 42, 3) := by decide +kernel
theorem dX5_creditsOf_16 : decode cX5_creditsOf 16 = .ok (.iload_n 1, 1) := by decide +kernel
theorem dX5_creditsOf_17 : decode cX5_creditsOf 17 = .ok (.iaload, 1) := by decide +kernel
theorem dX5_creditsOf_18 : decode cX5_creditsOf 18 = .ok (.iadd, 1) := by decide +kernel
theorem dX5_creditsOf_19 : decode cX5_creditsOf 19 = .ok (.if_icmp .ge 31, 3) := by decide +kernel
theorem dX5_creditsOf_22 : decode cX5_creditsOf 22 = .ok (.iload_n 2, 1) := by decide +kernel
theorem dX5_creditsOf_23 : decode cX5_creditsOf 23 = .ok (.aload_n 0, 1) := by decide +kernel
theorem dX5_creditsOf_24 : decode cX5_creditsOf 24 = .ok (.getfield 48, 3) := by decide +kernel
theorem dX5_creditsOf_27 : decode cX5_creditsOf 27 = .ok (.iload_n 3, 1) := by decide +kernel
theorem dX5_creditsOf_28 : decode cX5_creditsOf 28 = .ok (.baload, 1) := by decide +kernel
theorem dX5_creditsOf_29 : decode cX5_creditsOf 29 = .ok (.ifCond .eq 7, 3) := by decide +kernel
theorem dX5_creditsOf_32 : decode cX5_creditsOf 32 = .ok (.iconst 0, 1) := by decide +kernel
theorem dX5_creditsOf_33 : decode cX5_creditsOf 33 = .ok (.goto 9, 3) := by decide +kernel
theorem dX5_creditsOf_36 : decode cX5_creditsOf 36 = .ok (.aload_n 0, 1) := by decide +kernel
theorem dX5_creditsOf_37 : decode cX5_creditsOf 37 = .ok (.getfield 45, 3) := by decide +kernel
theorem dX5_creditsOf_40 : decode cX5_creditsOf 40 = .ok (.iload_n 3, 1) := by decide +kernel
theorem dX5_creditsOf_41 : decode cX5_creditsOf 41 = .ok (.iaload, 1) := by decide +kernel
theorem dX5_creditsOf_42 : decode cX5_creditsOf 42 = .ok (.iadd, 1) := by decide +kernel
theorem dX5_creditsOf_43 : decode cX5_creditsOf 43 = .ok (.istore_n 2, 1) := by decide +kernel
theorem dX5_creditsOf_44 : decode cX5_creditsOf 44 = .ok (.iinc 3 1, 3) := by decide +kernel
theorem dX5_creditsOf_47 : decode cX5_creditsOf 47 = .ok (.goto (-40), 3) := by decide +kernel
theorem dX5_creditsOf_50 : decode cX5_creditsOf 50 = .ok (.iload_n 2, 1) := by decide +kernel
theorem dX5_creditsOf_51 : decode cX5_creditsOf 51 = .ok (.ireturn, 1) := by decide +kernel
set_option maxRecDepth 20000 in
theorem ggX5_price_X5_rateOf : GoodIn wsX5_price wsX5_rateOf := goodIn_r _ [9] (by decide +kernel) (by decide +kernel)
set_option maxRecDepth 20000 in
theorem gX5_price_X5_rateOf : GoodIn wsX5_price (va_wsS RX5 99 yX5_rateOf wsX5_rateOf) := goodIn_app (goodIn_of _ (by decide +kernel)) ggX5_price_X5_rateOf
theorem dX5_price_0 : decode cX5_price 0 = .ok (.iload_n 2, 1) := by decide +kernel
theorem dX5_price_1 : decode cX5_price 1 = .ok (.aload_n 0, 1) := by decide +kernel
theorem dX5_price_2 : decode cX5_price 2 = .ok (.getfield 13, 3) := by decide +kernel
theorem dX5_price_5 : decode cX5_price 5 = .ok (.if_icmp .gt 7, 3) := by decide +kernel
theorem dX5_price_8 : decode cX5_price 8 = .ok (.iload_n 2, 1) := by decide +kernel
theorem dX5_price_9 : decode cX5_price 9 = .ok (.goto 29, 3) := by decide +kernel
theorem dX5_price_12 : decode cX5_price 12 = .ok (.iload_n 2, 1) := by decide +kernel
theorem dX5_price_13 : decode cX5_price 13 = .ok (.aload_n 0, 1) := by decide +kernel
theorem dX5_price_14 : decode cX5_price 14 = .ok (.getfield 17, 3) := by decide +kernel
theorem dX5_price_17 : decode cX5_price 17 = .ok (.if_icmp .gt 10, 3) := by decide +kernel
theorem dX5_price_20 : decode cX5_price 20 = .ok (.aload_n 0, 1) := by decide +kernel
theorem dX5_price_21 : decode cX5_price 21 = .ok (.getfield 13, 3) := by decide +kernel
theorem dX5_price_24 : decode cX5_price 24 = .ok (.goto 14, 3) := by decide +kernel
theorem dX5_price_27 : decode cX5_price 27 = .ok (.aload_n 0, 1) := by decide +kernel
theorem dX5_price_28 : decode cX5_price 28 = .ok (.getfield 13, 3) := by decide +kernel
theorem dX5_price_31 : decode cX5_price 31 = .ok (.iload_n 2, 1) := by decide +kernel
theorem dX5_price_32 : decode cX5_price 32 = .ok (.iadd, 1) := by decide +kernel
theorem dX5_price_33 : decode cX5_price 33 = .ok (.aload_n 0, 1) := by decide +kernel
theorem dX5_price_34 : decode cX5_price 34 = .ok (.getfield 17, 3) := by decide +kernel
theorem dX5_price_37 : decode cX5_price 37 = .ok (.isub, 1) := by decide +kernel
theorem dX5_price_38 : decode cX5_price 38 = .ok (.istore_n 3, 1) := by decide +kernel
theorem dX5_price_39 : decode cX5_price 39 = .ok (.iload_n 3, 1) := by decide +kernel
theorem dX5_price_40 : decode cX5_price 40 = .ok (.aload_n 0, 1) := by decide +kernel
theorem dX5_price_41 : decode cX5_price 41 = .ok (.getfield 7, 3) := by decide +kernel
theorem dX5_price_44 : decode cX5_price 44 = .ok (.aload_n 0, 1) := by decide +kernel
theorem dX5_price_45 : decode cX5_price 45 = .ok (.getfield 26, 3) := by decide +kernel
theorem dX5_price_48 : decode cX5_price 48 = .ok (.iload_n 1, 1) := by decide +kernel
theorem dX5_price_49 : decode cX5_price 49 = .ok (.iaload, 1) := by decide +kernel
theorem dX5_price_50 : decode cX5_price 50 = .ok (.aload_n 0, 1) := by decide +kernel
theorem dX5_price_51 : decode cX5_price 51 = .ok (.getfield 29, 3) := by decide +kernel
theorem dX5_price_54 : decode cX5_price 54 = .ok (.iload_n 1, 1) := by decide +kernel
theorem dX5_price_55 : decode cX5_price 55 = .ok (.baload, 1) := by decide +kernel
theorem dX5_price_56 : decode cX5_price 56 = .ok (.invokestatic 99, 3) := by decide +kernel
theorem dX5_price_59 : decode cX5_price 59 = .ok (.iaload, 1) := by decide +kernel
theorem dX5_price_60 : decode cX5_price 60 = .ok (.imul, 1) := by decide +kernel
theorem dX5_price_61 : decode cX5_price 61 = .ok (.ireturn, 1) := by decide +kernel
set_option maxRecDepth 20000 in
theorem ggX5_chargedOf_X5_creditsOf : GoodIn wsX5_chargedOf wsX5_creditsOf := goodIn_r _ [8, 9, 10, 11, 24, 25, 26, 27, 28, 29, 30, 31, 32, 33, 34, 35, 36, 37, 38, 39, 40, 41, 42, 43, 44, 45, 46, 47, 48, 49, 50, 51, 52] (by decide +kernel) (by decide +kernel)
set_option maxRecDepth 20000 in
theorem gX5_chargedOf_X5_creditsOf : GoodIn wsX5_chargedOf (wsV RX5 110 RX5 yX5_creditsOf wsX5_creditsOf) := goodIn_app (goodIn_of _ (by decide +kernel)) ggX5_chargedOf_X5_creditsOf
set_option maxRecDepth 20000 in
theorem ggX5_chargedOf_X5_price : GoodIn wsX5_chargedOf wsX5_price := goodIn_r _ [15, 16, 17, 18, 19, 20, 21, 22, 7, 23, 24, 25, 26, 27, 28, 29, 30, 31, 32, 33, 34, 35, 36, 37, 38, 39, 40, 41, 42, 43, 44, 45, 46, 47, 48, 49, 50, 51, 52] (by decide +kernel) (by decide +kernel)
set_option maxRecDepth 20000 in
theorem gX5_chargedOf_X5_price : GoodIn wsX5_chargedOf (wsV RX5 114 RX5 yX5_price wsX5_price) := goodIn_app (goodIn_of _ (by decide +kernel)) ggX5_chargedOf_X5_price
theorem dX5_chargedOf_0 : decode cX5_chargedOf 0 = .ok (.iload_n 2, 1) := by decide +kernel
theorem dX5_chargedOf_1 : decode cX5_chargedOf 1 = .ok (.ifCond .ne 23, 3) := by decide +kernel
theorem dX5_chargedOf_4 : decode cX5_chargedOf 4 = .ok (.aload_n 0, 1) := by decide +kernel
theorem dX5_chargedOf_5 : decode cX5_chargedOf 5 = .ok (.iload_n 1, 1) := by decide +kernel
theorem dX5_chargedOf_6 : decode cX5_chargedOf 6 = .ok (.aload_n 0, 1) := by decide +kernel
theorem dX5_chargedOf_7 : decode cX5_chargedOf 7 = .ok (.iload_n 1, 1) := by decide +kernel
theorem dX5_chargedOf_8 : decode cX5_chargedOf 8 = .ok (.invokevirtual 110, 3) := by decide +kernel
theorem dX5_chargedOf_11 : decode cX5_chargedOf 11 = .ok (.invokevirtual 114, 3) := by decide +kernel
theorem dX5_chargedOf_14 : decode cX5_chargedOf 14 = .ok (.aload_n 0, 1) := by decide +kernel
theorem dX5_chargedOf_15 : decode cX5_chargedOf 15 = .ok (.getfield 51, 3) := by decide +kernel
theorem dX5_chargedOf_18 : decode cX5_chargedOf 18 = .ok (.iload_n 1, 1) := by decide +kernel
theorem dX5_chargedOf_19 : decode cX5_chargedOf 19 = .ok (.iaload, 1) := by decide +kernel
theorem dX5_chargedOf_20 : decode cX5_chargedOf 20 = .ok (.iadd, 1) := by decide +kernel
theorem dX5_chargedOf_21 : decode cX5_chargedOf 21 = .ok (.goto 23, 3) := by decide +kernel
theorem dX5_chargedOf_24 : decode cX5_chargedOf 24 = .ok (.iload_n 2, 1) := by decide +kernel
theorem dX5_chargedOf_25 : decode cX5_chargedOf 25 = .ok (.iconst 1, 1) := by decide +kernel
theorem dX5_chargedOf_26 : decode cX5_chargedOf 26 = .ok (.if_icmp .ne 12, 3) := by decide +kernel
theorem dX5_chargedOf_29 : decode cX5_chargedOf 29 = .ok (.aload_n 0, 1) := by decide +kernel
theorem dX5_chargedOf_30 : decode cX5_chargedOf 30 = .ok (.getfield 54, 3) := by decide +kernel
theorem dX5_chargedOf_33 : decode cX5_chargedOf 33 = .ok (.iload_n 1, 1) := by decide +kernel
theorem dX5_chargedOf_34 : decode cX5_chargedOf 34 = .ok (.iaload, 1) := by decide +kernel
theorem dX5_chargedOf_35 : decode cX5_chargedOf 35 = .ok (.goto 9, 3) := by decide +kernel
theorem dX5_chargedOf_38 : decode cX5_chargedOf 38 = .ok (.aload_n 0, 1) := by decide +kernel
theorem dX5_chargedOf_39 : decode cX5_chargedOf 39 = .ok (.getfield 57, 3) := by decide +kernel
theorem dX5_chargedOf_42 : decode cX5_chargedOf 42 = .ok (.iload_n 1, 1) := by decide +kernel
theorem dX5_chargedOf_43 : decode cX5_chargedOf 43 = .ok (.iaload, 1) := by decide +kernel
theorem dX5_chargedOf_44 : decode cX5_chargedOf 44 = .ok (.ireturn, 1) := by decide +kernel
set_option maxRecDepth 20000 in
theorem ggX5_all_X5_chargedOf : GoodIn wsX5_all wsX5_chargedOf := goodIn_r _ [5, 6, 7, 8, 9, 10, 11, 4, 12, 13, 14, 15, 16, 17, 18, 19, 20, 21, 22, 23, 24, 25, 26, 27, 28, 29, 30, 31, 32, 33, 34, 35, 36, 37, 38, 39, 40, 41, 42, 43, 44, 45, 46, 47, 48, 49, 50, 51, 52, 53, 54, 55, 56] (by decide +kernel) (by decide +kernel)
set_option maxRecDepth 20000 in
theorem gX5_all_X5_chargedOf : GoodIn wsX5_all (wsV RX5 118 RX5 yX5_chargedOf wsX5_chargedOf) := goodIn_app (goodIn_of _ (by decide +kernel)) ggX5_all_X5_chargedOf
theorem dX5_all_0 : decode cX5_all 0 = .ok (.aload_n 0, 1) := by decide +kernel
theorem dX5_all_1 : decode cX5_all 1 = .ok (.iload_n 1, 1) := by decide +kernel
theorem dX5_all_2 : decode cX5_all 2 = .ok (.iconst 0, 1) := by decide +kernel
theorem dX5_all_3 : decode cX5_all 3 = .ok (.invokevirtual 118, 3) := by decide +kernel
theorem dX5_all_6 : decode cX5_all 6 = .ok (.aload_n 0, 1) := by decide +kernel
theorem dX5_all_7 : decode cX5_all 7 = .ok (.iload_n 1, 1) := by decide +kernel
theorem dX5_all_8 : decode cX5_all 8 = .ok (.iconst 1, 1) := by decide +kernel
theorem dX5_all_9 : decode cX5_all 9 = .ok (.invokevirtual 118, 3) := by decide +kernel
theorem dX5_all_12 : decode cX5_all 12 = .ok (.iadd, 1) := by decide +kernel
theorem dX5_all_13 : decode cX5_all 13 = .ok (.aload_n 0, 1) := by decide +kernel
theorem dX5_all_14 : decode cX5_all 14 = .ok (.iload_n 1, 1) := by decide +kernel
theorem dX5_all_15 : decode cX5_all 15 = .ok (.iconst 2, 1) := by decide +kernel
theorem dX5_all_16 : decode cX5_all 16 = .ok (.invokevirtual 118, 3) := by decide +kernel
theorem dX5_all_19 : decode cX5_all 19 = .ok (.iadd, 1) := by decide +kernel
theorem dX5_all_20 : decode cX5_all 20 = .ok (.ireturn, 1) := by decide +kernel
set_option maxRecDepth 20000 in
theorem ggX5_sponsoredOf_X5_chargedOf : GoodIn wsX5_sponsoredOf wsX5_chargedOf := goodIn_r _ [7, 8, 9, 10, 11, 12, 13, 6, 14, 15, 16, 17, 18, 19, 20, 21, 22, 23, 24, 25, 26, 27, 28, 29, 33, 34, 35, 36, 37, 38, 39, 40, 41, 42, 43, 44, 45, 46, 47, 48, 49, 50, 51, 52, 53, 54, 55, 56, 57, 58, 59, 60, 61] (by decide +kernel) (by decide +kernel)
set_option maxRecDepth 20000 in
theorem gX5_sponsoredOf_X5_chargedOf : GoodIn wsX5_sponsoredOf (wsV RX5 118 RX5 yX5_chargedOf wsX5_chargedOf) := goodIn_app (goodIn_of _ (by decide +kernel)) ggX5_sponsoredOf_X5_chargedOf
set_option maxRecDepth 20000 in
theorem ggX5_sponsoredOf_X5_least : GoodIn wsX5_sponsoredOf wsX5_least := goodIn_r _ [32] (by decide +kernel) (by decide +kernel)
set_option maxRecDepth 20000 in
theorem gX5_sponsoredOf_X5_least : GoodIn wsX5_sponsoredOf (va_wsS RX5 121 yX5_least wsX5_least) := goodIn_app (goodIn_of _ (by decide +kernel)) ggX5_sponsoredOf_X5_least
theorem dX5_sponsoredOf_0 : decode cX5_sponsoredOf 0 = .ok (.iconst 0, 1) := by decide +kernel
theorem dX5_sponsoredOf_1 : decode cX5_sponsoredOf 1 = .ok (.istore_n 2, 1) := by decide +kernel
theorem dX5_sponsoredOf_2 : decode cX5_sponsoredOf 2 = .ok (.iconst 0, 1) := by decide +kernel
theorem dX5_sponsoredOf_3 : decode cX5_sponsoredOf 3 = .ok (.istore_n 3, 1) := by decide +kernel
theorem dX5_sponsoredOf_4 : decode cX5_sponsoredOf 4 = .ok (.iload_n 3, 1) := by decide +kernel
theorem dX5_sponsoredOf_5 : decode cX5_sponsoredOf 5 = .ok (.iconst 2, 1) := by decide +kernel
theorem dX5_sponsoredOf_6 : decode cX5_sponsoredOf 6 = .ok (.if_icmp .gt 36, 3) := by decide +kernel
theorem dX5_sponsoredOf_9 : decode cX5_sponsoredOf 9 = .ok (.iload_n 2, 1) := by decide +kernel
theorem dX5_sponsoredOf_10 : decode cX5_sponsoredOf 10 = .ok (.aload_n 0, 1) := by decide +kernel
theorem dX5_sponsoredOf_11 : decode cX5_sponsoredOf 11 = .ok (.getfield 36, 3) := by decide +kernel
theorem dX5_sponsoredOf_14 : decode cX5_sponsoredOf 14 = .ok (.iload_n 1, 1) := by decide +kernel
theorem dX5_sponsoredOf_15 : decode cX5_sponsoredOf 15 = .ok (.iaload, 1) := by decide +kernel
theorem dX5_sponsoredOf_16 : decode cX5_sponsoredOf 16 = .ok (.iload_n 3, 1) := by decide +kernel
theorem dX5_sponsoredOf_17 : decode cX5_sponsoredOf 17 = .ok (.ishr, 1) := by decide +kernel
theorem dX5_sponsoredOf_18 : decode cX5_sponsoredOf 18 = .ok (.iconst 1, 1) := by decide +kernel
theorem dX5_sponsoredOf_19 : decode cX5_sponsoredOf 19 = .ok (.iand, 1) := by decide +kernel
theorem dX5_sponsoredOf_20 : decode cX5_sponsoredOf 20 = .ok (.iconst 1, 1) := by decide +kernel
theorem dX5_sponsoredOf_21 : decode cX5_sponsoredOf 21 = .ok (.if_icmp .ne 12, 3) := by decide +kernel
theorem dX5_sponsoredOf_24 : decode cX5_sponsoredOf 24 = .ok (.aload_n 0, 1) := by decide +kernel
theorem dX5_sponsoredOf_25 : decode cX5_sponsoredOf 25 = .ok (.iload_n 1, 1) := by decide +kernel
theorem dX5_sponsoredOf_26 : decode cX5_sponsoredOf 26 = .ok (.iload_n 3, 1) := by decide +kernel
theorem dX5_sponsoredOf_27 : decode cX5_sponsoredOf 27 = .ok (.invokevirtual 118, 3) := by decide +kernel
theorem dX5_sponsoredOf_30 : decode cX5_sponsoredOf 30 = .ok (.goto 4, 3) := by decide +kernel
theorem dX5_sponsoredOf_33 : decode cX5_sponsoredOf 33 = .ok (.iconst 0, 1) := by decide +kernel
theorem dX5_sponsoredOf_34 : decode cX5_sponsoredOf 34 = .ok (.iadd, 1) := by decide +kernel
theorem dX5_sponsoredOf_35 : decode cX5_sponsoredOf 35 = .ok (.istore_n 2, 1) := by decide +kernel
theorem dX5_sponsoredOf_36 : decode cX5_sponsoredOf 36 = .ok (.iinc 3 1, 3) := by decide +kernel
theorem dX5_sponsoredOf_39 : decode cX5_sponsoredOf 39 = .ok (.goto (-35), 3) := by decide +kernel
theorem dX5_sponsoredOf_42 : decode cX5_sponsoredOf 42 = .ok (.iload_n 2, 1) := by decide +kernel
theorem dX5_sponsoredOf_43 : decode cX5_sponsoredOf 43 = .ok (.aload_n 0, 1) := by decide +kernel
theorem dX5_sponsoredOf_44 : decode cX5_sponsoredOf 44 = .ok (.getfield 39, 3) := by decide +kernel
theorem dX5_sponsoredOf_47 : decode cX5_sponsoredOf 47 = .ok (.iload_n 1, 1) := by decide +kernel
theorem dX5_sponsoredOf_48 : decode cX5_sponsoredOf 48 = .ok (.iaload, 1) := by decide +kernel
theorem dX5_sponsoredOf_49 : decode cX5_sponsoredOf 49 = .ok (.invokestatic 121, 3) := by decide +kernel
theorem dX5_sponsoredOf_52 : decode cX5_sponsoredOf 52 = .ok (.ireturn, 1) := by decide +kernel
set_option maxRecDepth 20000 in
theorem ggX5_usedOf_X5_all : GoodIn wsX5_usedOf wsX5_all := goodIn_r _ [9, 10, 11, 12, 8, 13, 14, 15, 16, 17, 18, 19, 20, 21, 22, 23, 24, 25, 26, 27, 28, 29, 30, 31, 32, 33, 34, 35, 45, 46, 47, 48, 49, 50, 51, 52, 53, 54, 55, 56, 57, 58, 59, 60, 61, 62, 63, 64, 65, 66, 67, 68, 69, 70, 71, 72, 73] (by decide +kernel) (by decide +kernel)
set_option maxRecDepth 20000 in
theorem gX5_usedOf_X5_all : GoodIn wsX5_usedOf (wsV RX5 124 RX5 yX5_all wsX5_all) := goodIn_app (goodIn_of _ (by decide +kernel)) ggX5_usedOf_X5_all
set_option maxRecDepth 20000 in
theorem ggX5_usedOf_X5_sponsoredOf : GoodIn wsX5_usedOf wsX5_sponsoredOf := goodIn_r _ [39, 40, 41, 10, 11, 12, 8, 13, 14, 15, 16, 17, 18, 19, 20, 21, 22, 23, 24, 25, 26, 27, 28, 29, 30, 31, 32, 33, 34, 35, 42, 43, 44, 45, 46, 47, 48, 49, 50, 51, 52, 53, 54, 55, 56, 57, 58, 59, 60, 61, 62, 63, 64, 65, 66, 67, 68, 69, 70, 71, 72, 73] (by decide +kernel) (by decide +kernel)
set_option maxRecDepth 20000 in
theorem gX5_usedOf_X5_sponsoredOf : GoodIn wsX5_usedOf (wsV RX5 127 RX5 yX5_sponsoredOf wsX5_sponsoredOf) := goodIn_app (goodIn_of _ (by decide +kernel)) ggX5_usedOf_X5_sponsoredOf
set_option maxRecDepth 20000 in
theorem ggX5_usedOf_X5_least : GoodIn wsX5_usedOf wsX5_least := goodIn_r _ [44] (by decide +kernel) (by decide +kernel)
set_option maxRecDepth 20000 in
theorem gX5_usedOf_X5_least : GoodIn wsX5_usedOf (va_wsS RX5 121 yX5_least wsX5_least) := goodIn_app (goodIn_of _ (by decide +kernel)) ggX5_usedOf_X5_least
theorem dX5_usedOf_0 : decode cX5_usedOf 0 = .ok (.aload_n 0, 1) := by decide +kernel
theorem dX5_usedOf_1 : decode cX5_usedOf 1 = .ok (.iload_n 1, 1) := by decide +kernel
theorem dX5_usedOf_2 : decode cX5_usedOf 2 = .ok (.invokevirtual 124, 3) := by decide +kernel
theorem dX5_usedOf_5 : decode cX5_usedOf 5 = .ok (.aload_n 0, 1) := by decide +kernel
theorem dX5_usedOf_6 : decode cX5_usedOf 6 = .ok (.iload_n 1, 1) := by decide +kernel
theorem dX5_usedOf_7 : decode cX5_usedOf 7 = .ok (.invokevirtual 127, 3) := by decide +kernel
theorem dX5_usedOf_10 : decode cX5_usedOf 10 = .ok (.isub, 1) := by decide +kernel
theorem dX5_usedOf_11 : decode cX5_usedOf 11 = .ok (.istore_n 3, 1) := by decide +kernel
theorem dX5_usedOf_12 : decode cX5_usedOf 12 = .ok (.aload_n 0, 1) := by decide +kernel
theorem dX5_usedOf_13 : decode cX5_usedOf 13 = .ok (.getfield 33, 3) := by decide +kernel
theorem dX5_usedOf_16 : decode cX5_usedOf 16 = .ok (.iload_n 1, 1) := by decide +kernel
theorem dX5_usedOf_17 : decode cX5_usedOf 17 = .ok (.iaload, 1) := by decide +kernel
theorem dX5_usedOf_18 : decode cX5_usedOf 18 = .ok (.istore 4, 2) := by decide +kernel
theorem dX5_usedOf_20 : decode cX5_usedOf 20 = .ok (.iconst 0, 1) := by decide +kernel
theorem dX5_usedOf_21 : decode cX5_usedOf 21 = .ok (.istore 5, 2) := by decide +kernel
theorem dX5_usedOf_23 : decode cX5_usedOf 23 = .ok (.iconst 0, 1) := by decide +kernel
theorem dX5_usedOf_24 : decode cX5_usedOf 24 = .ok (.istore 6, 2) := by decide +kernel
theorem dX5_usedOf_26 : decode cX5_usedOf 26 = .ok (.iload 6, 2) := by decide +kernel
theorem dX5_usedOf_28 : decode cX5_usedOf 28 = .ok (.bipush 18, 2) := by decide +kernel
theorem dX5_usedOf_30 : decode cX5_usedOf 30 = .ok (.if_icmp .ge 147, 3) := by decide +kernel
theorem dX5_usedOf_33 : decode cX5_usedOf 33 = .ok (.iload 6, 2) := by decide +kernel
theorem dX5_usedOf_35 : decode cX5_usedOf 35 = .ok (.bipush 6, 2) := by decide +kernel
theorem dX5_usedOf_37 : decode cX5_usedOf 37 = .ok (.idiv, 1) := by decide +kernel
theorem dX5_usedOf_38 : decode cX5_usedOf 38 = .ok (.istore 7, 2) := by decide +kernel
theorem dX5_usedOf_40 : decode cX5_usedOf 40 = .ok (.bipush 6, 2) := by decide +kernel
theorem dX5_usedOf_42 : decode cX5_usedOf 42 = .ok (.iload_n 1, 1) := by decide +kernel
theorem dX5_usedOf_43 : decode cX5_usedOf 43 = .ok (.imul, 1) := by decide +kernel
theorem dX5_usedOf_44 : decode cX5_usedOf 44 = .ok (.iload 6, 2) := by decide +kernel
theorem dX5_usedOf_46 : decode cX5_usedOf 46 = .ok (.bipush 6, 2) := by decide +kernel
theorem dX5_usedOf_48 : decode cX5_usedOf 48 = .ok (.irem, 1) := by decide +kernel
theorem dX5_usedOf_49 : decode cX5_usedOf 49 = .ok (.iadd, 1) := by decide +kernel
theorem dX5_usedOf_50 : decode cX5_usedOf 50 = .ok (.istore 8, 2) := by decide +kernel
theorem dX5_usedOf_52 : decode cX5_usedOf 52 = .ok (.iload 6, 2) := by decide +kernel
theorem dX5_usedOf_54 : decode cX5_usedOf 54 = .ok (.bipush 6, 2) := by decide +kernel
theorem dX5_usedOf_56 : decode cX5_usedOf 56 = .ok (.irem, 1) := by decide +kernel
theorem dX5_usedOf_57 : decode cX5_usedOf 57 = .ok (.aload_n 0, 1) := by decide +kernel
theorem dX5_usedOf_58 : decode cX5_usedOf 58 = .ok (.getfield 60, 3) := by decide +kernel
theorem dX5_usedOf_61 : decode cX5_usedOf 61 = .ok (.iload_n 1, 1) := by decide +kernel
theorem dX5_usedOf_62 : decode cX5_usedOf 62 = .ok (.iaload, 1) := by decide +kernel
theorem dX5_usedOf_63 : decode cX5_usedOf 63 = .ok (.if_icmp .ge 19, 3) := by decide +kernel
theorem dX5_usedOf_66 : decode cX5_usedOf 66 = .ok (.aload_n 0, 1) := by decide +kernel
theorem dX5_usedOf_67 : decode cX5_usedOf 67 = .ok (.getfield 63, 3) := by decide +kernel
theorem dX5_usedOf_70 : decode cX5_usedOf 70 = .ok (.iload 8, 2) := by decide +kernel
theorem dX5_usedOf_72 : decode cX5_usedOf 72 = .ok (.iaload, 1) := by decide +kernel
theorem dX5_usedOf_73 : decode cX5_usedOf 73 = .ok (.iload 7, 2) := by decide +kernel
theorem dX5_usedOf_75 : decode cX5_usedOf 75 = .ok (.if_icmp .ne 7, 3) := by decide +kernel
theorem dX5_usedOf_78 : decode cX5_usedOf 78 = .ok (.iconst 1, 1) := by decide +kernel
theorem dX5_usedOf_79 : decode cX5_usedOf 79 = .ok (.goto 4, 3) := by decide +kernel
theorem dX5_usedOf_82 : decode cX5_usedOf 82 = .ok (.iconst 0, 1) := by decide +kernel
theorem dX5_usedOf_83 : decode cX5_usedOf 83 = .ok (.istore 9, 2) := by decide +kernel
theorem dX5_usedOf_85 : decode cX5_usedOf 85 = .ok (.iload 9, 2) := by decide +kernel
theorem dX5_usedOf_87 : decode cX5_usedOf 87 = .ok (.ifCond .eq 17, 3) := by decide +kernel
theorem dX5_usedOf_90 : decode cX5_usedOf 90 = .ok (.aload_n 0, 1) := by decide +kernel
theorem dX5_usedOf_91 : decode cX5_usedOf 91 = .ok (.getfield 66, 3) := by decide +kernel
theorem dX5_usedOf_94 : decode cX5_usedOf 94 = .ok (.iload 8, 2) := by decide +kernel
theorem dX5_usedOf_96 : decode cX5_usedOf 96 = .ok (.iaload, 1) := by decide +kernel
theorem dX5_usedOf_97 : decode cX5_usedOf 97 = .ok (.iload_n 3, 1) := by decide +kernel
theorem dX5_usedOf_98 : decode cX5_usedOf 98 = .ok (.invokestatic 121, 3) := by decide +kernel
theorem dX5_usedOf_101 : decode cX5_usedOf 101 = .ok (.goto 4, 3) := by decide +kernel
theorem dX5_usedOf_104 : decode cX5_usedOf 104 = .ok (.iconst 0, 1) := by decide +kernel
theorem dX5_usedOf_105 : decode cX5_usedOf 105 = .ok (.istore 10, 2) := by decide +kernel
theorem dX5_usedOf_107 : decode cX5_usedOf 107 = .ok (.iload 7, 2) := by decide +kernel
theorem dX5_usedOf_109 : decode cX5_usedOf 109 = .ok (.ifCond .ne 13, 3) := by decide +kernel
theorem dX5_usedOf_112 : decode cX5_usedOf 112 = .ok (.iload 10, 2) := by decide +kernel
theorem dX5_usedOf_114 : decode cX5_usedOf 114 = .ok (.iload 4, 2) := by decide +kernel
theorem dX5_usedOf_116 : decode cX5_usedOf 116 = .ok (.invokestatic 121, 3) := by decide +kernel
theorem dX5_usedOf_119 : decode cX5_usedOf 119 = .ok (.goto 5, 3) := by decide +kernel
theorem dX5_usedOf_122 : decode cX5_usedOf 122 = .ok (.iload 10, 2) := by decide +kernel
theorem dX5_usedOf_124 : decode cX5_usedOf 124 = .ok (.istore 10, 2) := by decide +kernel
theorem dX5_usedOf_126 : decode cX5_usedOf 126 = .ok (.iload 4, 2) := by decide +kernel
theorem dX5_usedOf_128 : decode cX5_usedOf 128 = .ok (.iload 7, 2) := by decide +kernel
theorem dX5_usedOf_130 : decode cX5_usedOf 130 = .ok (.ifCond .ne 8, 3) := by decide +kernel
theorem dX5_usedOf_133 : decode cX5_usedOf 133 = .ok (.iload 10, 2) := by decide +kernel
theorem dX5_usedOf_135 : decode cX5_usedOf 135 = .ok (.goto 4, 3) := by decide +kernel
theorem dX5_usedOf_138 : decode cX5_usedOf 138 = .ok (.iconst 0, 1) := by decide +kernel
theorem dX5_usedOf_139 : decode cX5_usedOf 139 = .ok (.isub, 1) := by decide +kernel
theorem dX5_usedOf_140 : decode cX5_usedOf 140 = .ok (.istore 4, 2) := by decide +kernel
theorem dX5_usedOf_142 : decode cX5_usedOf 142 = .ok (.iload_n 3, 1) := by decide +kernel
theorem dX5_usedOf_143 : decode cX5_usedOf 143 = .ok (.iload 10, 2) := by decide +kernel
theorem dX5_usedOf_145 : decode cX5_usedOf 145 = .ok (.isub, 1) := by decide +kernel
theorem dX5_usedOf_146 : decode cX5_usedOf 146 = .ok (.istore_n 3, 1) := by decide +kernel
theorem dX5_usedOf_147 : decode cX5_usedOf 147 = .ok (.iload 5, 2) := by decide +kernel
theorem dX5_usedOf_149 : decode cX5_usedOf 149 = .ok (.iload 10, 2) := by decide +kernel
theorem dX5_usedOf_151 : decode cX5_usedOf 151 = .ok (.iadd, 1) := by decide +kernel
theorem dX5_usedOf_152 : decode cX5_usedOf 152 = .ok (.istore 5, 2) := by decide +kernel
theorem dX5_usedOf_154 : decode cX5_usedOf 154 = .ok (.iload 9, 2) := by decide +kernel
theorem dX5_usedOf_156 : decode cX5_usedOf 156 = .ok (.ifCond .eq 15, 3) := by decide +kernel
theorem dX5_usedOf_159 : decode cX5_usedOf 159 = .ok (.iload 6, 2) := by decide +kernel
theorem dX5_usedOf_161 : decode cX5_usedOf 161 = .ok (.bipush 6, 2) := by decide +kernel
theorem dX5_usedOf_163 : decode cX5_usedOf 163 = .ok (.irem, 1) := by decide +kernel
theorem dX5_usedOf_164 : decode cX5_usedOf 164 = .ok (.iload_n 2, 1) := by decide +kernel
theorem dX5_usedOf_165 : decode cX5_usedOf 165 = .ok (.if_icmp .ne 6, 3) := by decide +kernel
theorem dX5_usedOf_168 : decode cX5_usedOf 168 = .ok (.iload 10, 2) := by decide +kernel
theorem dX5_usedOf_170 : decode cX5_usedOf 170 = .ok (.ireturn, 1) := by decide +kernel
theorem dX5_usedOf_171 : decode cX5_usedOf 171 = .ok (.iinc 6 1, 3) := by decide +kernel
theorem dX5_usedOf_174 : decode cX5_usedOf 174 = .ok (.goto (-148), 3) := by decide +kernel
theorem dX5_usedOf_177 : decode cX5_usedOf 177 = .ok (.iload 5, 2) := by decide +kernel
theorem dX5_usedOf_179 : decode cX5_usedOf 179 = .ok (.ireturn, 1) := by decide +kernel
set_option maxRecDepth 20000 in
theorem ggX5_owedOf_X5_all : GoodIn wsX5_owedOf wsX5_all := goodIn_r _ [6, 7, 8, 9, 5, 10, 11, 12, 13, 14, 15, 16, 17, 18, 19, 20, 21, 22, 23, 24, 25, 26, 27, 28, 29, 30, 31, 32, 50, 51, 52, 53, 54, 55, 56, 57, 58, 59, 60, 61, 62, 63, 64, 65, 66, 67, 68, 69, 70, 71, 72, 73, 74, 75, 76, 77, 78] (by decide +kernel) (by decide +kernel)
set_option maxRecDepth 20000 in
theorem gX5_owedOf_X5_all : GoodIn wsX5_owedOf (wsV RX5 124 RX5 yX5_all wsX5_all) := goodIn_app (goodIn_of _ (by decide +kernel)) ggX5_owedOf_X5_all
set_option maxRecDepth 20000 in
theorem ggX5_owedOf_X5_sponsoredOf : GoodIn wsX5_owedOf wsX5_sponsoredOf := goodIn_r _ [36, 37, 38, 7, 8, 9, 5, 10, 11, 12, 13, 14, 15, 16, 17, 18, 19, 20, 21, 22, 23, 24, 25, 26, 27, 28, 29, 30, 31, 32, 39, 40, 41, 50, 51, 52, 53, 54, 55, 56, 57, 58, 59, 60, 61, 62, 63, 64, 65, 66, 67, 68, 69, 70, 71, 72, 73, 74, 75, 76, 77, 78] (by decide +kernel) (by decide +kernel)
set_option maxRecDepth 20000 in
theorem gX5_owedOf_X5_sponsoredOf : GoodIn wsX5_owedOf (wsV RX5 127 RX5 yX5_sponsoredOf wsX5_sponsoredOf) := goodIn_app (goodIn_of _ (by decide +kernel)) ggX5_owedOf_X5_sponsoredOf
set_option maxRecDepth 20000 in
theorem ggX5_owedOf_X5_usedOf : GoodIn wsX5_owedOf wsX5_usedOf := goodIn_r _ [45, 46, 47, 48, 49, 2, 3, 4, 5, 6, 7, 8, 9, 10, 11, 12, 13, 14, 15, 16, 17, 18, 19, 20, 21, 22, 23, 24, 25, 26, 27, 28, 29, 30, 31, 32, 33, 34, 35, 36, 37, 38, 39, 40, 41, 50, 51, 52, 53, 54, 55, 56, 57, 58, 59, 60, 61, 62, 63, 64, 65, 66, 67, 68, 69, 70, 71, 72, 73, 74, 75, 76, 77, 78] (by decide +kernel) (by decide +kernel)
set_option maxRecDepth 20000 in
theorem gX5_owedOf_X5_usedOf : GoodIn wsX5_owedOf (wsV RX5 130 RX5 yX5_usedOf wsX5_usedOf) := goodIn_app (goodIn_of _ (by decide +kernel)) ggX5_owedOf_X5_usedOf
theorem dX5_owedOf_0 : decode cX5_owedOf 0 = .ok (.aload_n 0, 1) := by decide +kernel
theorem dX5_owedOf_1 : decode cX5_owedOf 1 = .ok (.iload_n 1, 1) := by decide +kernel
theorem dX5_owedOf_2 : decode cX5_owedOf 2 = .ok (.invokevirtual 124, 3) := by decide +kernel
theorem dX5_owedOf_5 : decode cX5_owedOf 5 = .ok (.aload_n 0, 1) := by decide +kernel
theorem dX5_owedOf_6 : decode cX5_owedOf 6 = .ok (.iload_n 1, 1) := by decide +kernel
theorem dX5_owedOf_7 : decode cX5_owedOf 7 = .ok (.invokevirtual 127, 3) := by decide +kernel
theorem dX5_owedOf_10 : decode cX5_owedOf 10 = .ok (.isub, 1) := by decide +kernel
theorem dX5_owedOf_11 : decode cX5_owedOf 11 = .ok (.aload_n 0, 1) := by decide +kernel
theorem dX5_owedOf_12 : decode cX5_owedOf 12 = .ok (.iload_n 1, 1) := by decide +kernel
theorem dX5_owedOf_13 : decode cX5_owedOf 13 = .ok (.iconst (-1), 1) := by decide +kernel
theorem dX5_owedOf_14 : decode cX5_owedOf 14 = .ok (.invokevirtual 130, 3) := by decide +kernel
theorem dX5_owedOf_17 : decode cX5_owedOf 17 = .ok (.isub, 1) := by decide +kernel
theorem dX5_owedOf_18 : decode cX5_owedOf 18 = .ok (.aload_n 0, 1) := by decide +kernel
theorem dX5_owedOf_19 : decode cX5_owedOf 19 = .ok (.getfield 69, 3) := by decide +kernel
theorem dX5_owedOf_22 : decode cX5_owedOf 22 = .ok (.iload_n 1, 1) := by decide +kernel
theorem dX5_owedOf_23 : decode cX5_owedOf 23 = .ok (.iaload, 1) := by decide +kernel
theorem dX5_owedOf_24 : decode cX5_owedOf 24 = .ok (.isub, 1) := by decide +kernel
theorem dX5_owedOf_25 : decode cX5_owedOf 25 = .ok (.ireturn, 1) := by decide +kernel
set_option maxRecDepth 20000 in
theorem ggX5_take_X5_isStudent : GoodIn wsX5_take wsX5_isStudent := goodIn_r _ [7, 8, 9, 6, 10] (by decide +kernel) (by decide +kernel)
set_option maxRecDepth 20000 in
theorem gX5_take_X5_isStudent : GoodIn wsX5_take (va_wsS RX5 107 yX5_isStudent wsX5_isStudent) := goodIn_app (goodIn_of _ (by decide +kernel)) ggX5_take_X5_isStudent
set_option maxRecDepth 20000 in
theorem ggX5_take_X5_in : GoodIn wsX5_take wsX5_in := goodIn_r _ [10] (by decide +kernel) (by decide +kernel)
set_option maxRecDepth 20000 in
theorem gX5_take_X5_in : GoodIn wsX5_take (va_wsS RX5 90 yX5_in wsX5_in) := goodIn_app (goodIn_of _ (by decide +kernel)) ggX5_take_X5_in
set_option maxRecDepth 20000 in
theorem ggX5_take_X5_holds : GoodIn wsX5_take wsX5_holds := goodIn_r _ [14, 15, 16, 17, 18, 19, 20, 21, 22, 23, 24, 25, 26, 27, 28, 29, 30, 31, 32, 33, 34, 35, 36, 37, 38, 39, 40, 41, 42, 43, 44] (by decide +kernel) (by decide +kernel)
set_option maxRecDepth 20000 in
theorem gX5_take_X5_holds : GoodIn wsX5_take (wsV RX5 95 RX5 yX5_holds wsX5_holds) := goodIn_app (goodIn_of _ (by decide +kernel)) ggX5_take_X5_holds
theorem dX5_take_0 : decode cX5_take 0 = .ok (.aload_n 0, 1) := by decide +kernel
theorem dX5_take_1 : decode cX5_take 1 = .ok (.iload_n 1, 1) := by decide +kernel
theorem dX5_take_2 : decode cX5_take 2 = .ok (.invokestatic 107, 3) := by decide +kernel
theorem dX5_take_5 : decode cX5_take 5 = .ok (.ifCond .ne 7, 3) := by decide +kernel
theorem dX5_take_8 : decode cX5_take 8 = .ok (.iconst 1, 1) := by decide +kernel
theorem dX5_take_9 : decode cX5_take 9 = .ok (.goto 33, 3) := by decide +kernel
theorem dX5_take_12 : decode cX5_take 12 = .ok (.iload_n 2, 1) := by decide +kernel
theorem dX5_take_13 : decode cX5_take 13 = .ok (.iconst 1, 1) := by decide +kernel
theorem dX5_take_14 : decode cX5_take 14 = .ok (.bipush 10, 2) := by decide +kernel
theorem dX5_take_16 : decode cX5_take 16 = .ok (.invokestatic 90, 3) := by decide +kernel
theorem dX5_take_19 : decode cX5_take 19 = .ok (.ifCond .ne 7, 3) := by decide +kernel
theorem dX5_take_22 : decode cX5_take 22 = .ok (.iconst 2, 1) := by decide +kernel
theorem dX5_take_23 : decode cX5_take 23 = .ok (.goto 19, 3) := by decide +kernel
theorem dX5_take_26 : decode cX5_take 26 = .ok (.aload_n 0, 1) := by decide +kernel
theorem dX5_take_27 : decode cX5_take 27 = .ok (.getfield 42, 3) := by decide +kernel
theorem dX5_take_30 : decode cX5_take 30 = .ok (.iload_n 1, 1) := by decide +kernel
theorem dX5_take_31 : decode cX5_take 31 = .ok (.iaload, 1) := by decide +kernel
theorem dX5_take_32 : decode cX5_take 32 = .ok (.bipush 8, 2) := by decide +kernel
theorem dX5_take_34 : decode cX5_take 34 = .ok (.if_icmp .ne 7, 3) := by decide +kernel
theorem dX5_take_37 : decode cX5_take 37 = .ok (.iconst 3, 1) := by decide +kernel
theorem dX5_take_38 : decode cX5_take 38 = .ok (.goto 4, 3) := by decide +kernel
theorem dX5_take_41 : decode cX5_take 41 = .ok (.iconst 0, 1) := by decide +kernel
theorem dX5_take_42 : decode cX5_take 42 = .ok (.invokevirtual 95, 3) := by decide +kernel
theorem dX5_take_45 : decode cX5_take 45 = .ok (.ifCond .ne 5, 3) := by decide +kernel
theorem dX5_take_48 : decode cX5_take 48 = .ok (.iconst 0, 1) := by decide +kernel
theorem dX5_take_49 : decode cX5_take 49 = .ok (.ireturn, 1) := by decide +kernel
theorem dX5_take_50 : decode cX5_take 50 = .ok (.bipush 8, 2) := by decide +kernel
theorem dX5_take_52 : decode cX5_take 52 = .ok (.iload_n 1, 1) := by decide +kernel
theorem dX5_take_53 : decode cX5_take 53 = .ok (.imul, 1) := by decide +kernel
theorem dX5_take_54 : decode cX5_take 54 = .ok (.aload_n 0, 1) := by decide +kernel
theorem dX5_take_55 : decode cX5_take 55 = .ok (.getfield 42, 3) := by decide +kernel
theorem dX5_take_58 : decode cX5_take 58 = .ok (.iload_n 1, 1) := by decide +kernel
theorem dX5_take_59 : decode cX5_take 59 = .ok (.iaload, 1) := by decide +kernel
theorem dX5_take_60 : decode cX5_take 60 = .ok (.iadd, 1) := by decide +kernel
theorem dX5_take_61 : decode cX5_take 61 = .ok (.istore_n 3, 1) := by decide +kernel
theorem dX5_take_62 : decode cX5_take 62 = .ok (.aload_n 0, 1) := by decide +kernel
theorem dX5_take_63 : decode cX5_take 63 = .ok (.getfield 45, 3) := by decide +kernel
theorem dX5_take_66 : decode cX5_take 66 = .ok (.iload_n 3, 1) := by decide +kernel
theorem dX5_take_67 : decode cX5_take 67 = .ok (.iload_n 2, 1) := by decide +kernel
theorem dX5_take_68 : decode cX5_take 68 = .ok (.iastore, 1) := by decide +kernel
theorem dX5_take_69 : decode cX5_take 69 = .ok (.aload_n 0, 1) := by decide +kernel
theorem dX5_take_70 : decode cX5_take 70 = .ok (.getfield 48, 3) := by decide +kernel
theorem dX5_take_73 : decode cX5_take 73 = .ok (.iload_n 3, 1) := by decide +kernel
theorem dX5_take_74 : decode cX5_take 74 = .ok (.iconst 0, 1) := by decide +kernel
theorem dX5_take_75 : decode cX5_take 75 = .ok (.bastore, 1) := by decide +kernel
theorem dX5_take_76 : decode cX5_take 76 = .ok (.aload_n 0, 1) := by decide +kernel
theorem dX5_take_77 : decode cX5_take 77 = .ok (.getfield 42, 3) := by decide +kernel
theorem dX5_take_80 : decode cX5_take 80 = .ok (.iload_n 1, 1) := by decide +kernel
theorem dX5_take_81 : decode cX5_take 81 = .ok (.dup2, 1) := by decide +kernel
theorem dX5_take_82 : decode cX5_take 82 = .ok (.iaload, 1) := by decide +kernel
theorem dX5_take_83 : decode cX5_take 83 = .ok (.iconst 1, 1) := by decide +kernel
theorem dX5_take_84 : decode cX5_take 84 = .ok (.iadd, 1) := by decide +kernel
theorem dX5_take_85 : decode cX5_take 85 = .ok (.iastore, 1) := by decide +kernel
theorem dX5_take_86 : decode cX5_take 86 = .ok (.aload_n 0, 1) := by decide +kernel
theorem dX5_take_87 : decode cX5_take 87 = .ok (.getfield 42, 3) := by decide +kernel
theorem dX5_take_90 : decode cX5_take 90 = .ok (.iload_n 1, 1) := by decide +kernel
theorem dX5_take_91 : decode cX5_take 91 = .ok (.iaload, 1) := by decide +kernel
theorem dX5_take_92 : decode cX5_take 92 = .ok (.iconst 1, 1) := by decide +kernel
theorem dX5_take_93 : decode cX5_take 93 = .ok (.isub, 1) := by decide +kernel
theorem dX5_take_94 : decode cX5_take 94 = .ok (.ireturn, 1) := by decide +kernel
set_option maxRecDepth 20000 in
theorem ggX5_drops_X5_creditsOf : GoodIn wsX5_drops wsX5_creditsOf := goodIn_r _ [10, 11, 1, 12, 25, 26, 27, 28, 29, 30, 31, 32, 33, 34, 35, 36, 37, 38, 39, 40, 41, 42, 43, 44, 45, 46, 47, 48, 49, 50, 51, 52, 53] (by decide +kernel) (by decide +kernel)
set_option maxRecDepth 20000 in
theorem gX5_drops_X5_creditsOf : GoodIn wsX5_drops (wsV RX5 110 RX5 yX5_creditsOf wsX5_creditsOf) := goodIn_app (goodIn_of _ (by decide +kernel)) ggX5_drops_X5_creditsOf
set_option maxRecDepth 20000 in
theorem ggX5_drops_X5_price : GoodIn wsX5_drops wsX5_price := goodIn_r _ [16, 17, 18, 19, 20, 21, 22, 23, 9, 24, 25, 26, 27, 28, 29, 30, 31, 32, 33, 34, 35, 36, 37, 38, 39, 40, 41, 42, 43, 44, 45, 46, 47, 48, 49, 50, 51, 52, 53] (by decide +kernel) (by decide +kernel)
set_option maxRecDepth 20000 in
theorem gX5_drops_X5_price : GoodIn wsX5_drops (wsV RX5 114 RX5 yX5_price wsX5_price) := goodIn_app (goodIn_of _ (by decide +kernel)) ggX5_drops_X5_price
theorem dX5_drops_0 : decode cX5_drops 0 = .ok (.aload_n 0, 1) := by decide +kernel
theorem dX5_drops_1 : decode cX5_drops 1 = .ok (.iload_n 1, 1) := by decide +kernel
theorem dX5_drops_2 : decode cX5_drops 2 = .ok (.aload_n 0, 1) := by decide +kernel
theorem dX5_drops_3 : decode cX5_drops 3 = .ok (.iload_n 1, 1) := by decide +kernel
theorem dX5_drops_4 : decode cX5_drops 4 = .ok (.invokevirtual 110, 3) := by decide +kernel
theorem dX5_drops_7 : decode cX5_drops 7 = .ok (.invokevirtual 114, 3) := by decide +kernel
theorem dX5_drops_10 : decode cX5_drops 10 = .ok (.istore_n 3, 1) := by decide +kernel
theorem dX5_drops_11 : decode cX5_drops 11 = .ok (.aload_n 0, 1) := by decide +kernel
theorem dX5_drops_12 : decode cX5_drops 12 = .ok (.getfield 48, 3) := by decide +kernel
theorem dX5_drops_15 : decode cX5_drops 15 = .ok (.bipush 8, 2) := by decide +kernel
theorem dX5_drops_17 : decode cX5_drops 17 = .ok (.iload_n 1, 1) := by decide +kernel
theorem dX5_drops_18 : decode cX5_drops 18 = .ok (.imul, 1) := by decide +kernel
theorem dX5_drops_19 : decode cX5_drops 19 = .ok (.iload_n 2, 1) := by decide +kernel
theorem dX5_drops_20 : decode cX5_drops 20 = .ok (.iadd, 1) := by decide +kernel
theorem dX5_drops_21 : decode cX5_drops 21 = .ok (.iconst 1, 1) := by decide +kernel
theorem dX5_drops_22 : decode cX5_drops 22 = .ok (.bastore, 1) := by decide +kernel
theorem dX5_drops_23 : decode cX5_drops 23 = .ok (.iload_n 3, 1) := by decide +kernel
theorem dX5_drops_24 : decode cX5_drops 24 = .ok (.aload_n 0, 1) := by decide +kernel
theorem dX5_drops_25 : decode cX5_drops 25 = .ok (.iload_n 1, 1) := by decide +kernel
theorem dX5_drops_26 : decode cX5_drops 26 = .ok (.aload_n 0, 1) := by decide +kernel
theorem dX5_drops_27 : decode cX5_drops 27 = .ok (.iload_n 1, 1) := by decide +kernel
theorem dX5_drops_28 : decode cX5_drops 28 = .ok (.invokevirtual 110, 3) := by decide +kernel
theorem dX5_drops_31 : decode cX5_drops 31 = .ok (.invokevirtual 114, 3) := by decide +kernel
theorem dX5_drops_34 : decode cX5_drops 34 = .ok (.isub, 1) := by decide +kernel
theorem dX5_drops_35 : decode cX5_drops 35 = .ok (.i2l, 1) := by decide +kernel
theorem dX5_drops_36 : decode cX5_drops 36 = .ok (.aload_n 0, 1) := by decide +kernel
theorem dX5_drops_37 : decode cX5_drops 37 = .ok (.getfield 20, 3) := by decide +kernel
theorem dX5_drops_40 : decode cX5_drops 40 = .ok (.aload_n 0, 1) := by decide +kernel
theorem dX5_drops_41 : decode cX5_drops 41 = .ok (.getfield 133, 3) := by decide +kernel
theorem dX5_drops_44 : decode cX5_drops 44 = .ok (.iaload, 1) := by decide +kernel
theorem dX5_drops_45 : decode cX5_drops 45 = .ok (.i2l, 1) := by decide +kernel
theorem dX5_drops_46 : decode cX5_drops 46 = .ok (.lmul, 1) := by decide +kernel
theorem dX5_drops_47 : decode cX5_drops 47 = .ok (.ldc2_w 136, 3) := by decide +kernel
theorem dX5_drops_50 : decode cX5_drops 50 = .ok (.ldiv, 1) := by decide +kernel
theorem dX5_drops_51 : decode cX5_drops 51 = .ok (.l2i, 1) := by decide +kernel
theorem dX5_drops_52 : decode cX5_drops 52 = .ok (.istore 4, 2) := by decide +kernel
theorem dX5_drops_54 : decode cX5_drops 54 = .ok (.aload_n 0, 1) := by decide +kernel
theorem dX5_drops_55 : decode cX5_drops 55 = .ok (.getfield 51, 3) := by decide +kernel
theorem dX5_drops_58 : decode cX5_drops 58 = .ok (.iload_n 1, 1) := by decide +kernel
theorem dX5_drops_59 : decode cX5_drops 59 = .ok (.dup2, 1) := by decide +kernel
theorem dX5_drops_60 : decode cX5_drops 60 = .ok (.iaload, 1) := by decide +kernel
theorem dX5_drops_61 : decode cX5_drops 61 = .ok (.iload 4, 2) := by decide +kernel
theorem dX5_drops_63 : decode cX5_drops 63 = .ok (.iadd, 1) := by decide +kernel
theorem dX5_drops_64 : decode cX5_drops 64 = .ok (.iastore, 1) := by decide +kernel
theorem dX5_drops_65 : decode cX5_drops 65 = .ok (.iload 4, 2) := by decide +kernel
theorem dX5_drops_67 : decode cX5_drops 67 = .ok (.ireturn, 1) := by decide +kernel
set_option maxRecDepth 20000 in
theorem ggX5_drop_X5_isStudent : GoodIn wsX5_drop wsX5_isStudent := goodIn_r _ [6, 7, 8, 5, 9] (by decide +kernel) (by decide +kernel)
set_option maxRecDepth 20000 in
theorem gX5_drop_X5_isStudent : GoodIn wsX5_drop (va_wsS RX5 107 yX5_isStudent wsX5_isStudent) := goodIn_app (goodIn_of _ (by decide +kernel)) ggX5_drop_X5_isStudent
set_option maxRecDepth 20000 in
theorem ggX5_drop_X5_in : GoodIn wsX5_drop wsX5_in := goodIn_r _ [9] (by decide +kernel) (by decide +kernel)
set_option maxRecDepth 20000 in
theorem gX5_drop_X5_in : GoodIn wsX5_drop (va_wsS RX5 90 yX5_in wsX5_in) := goodIn_app (goodIn_of _ (by decide +kernel)) ggX5_drop_X5_in
set_option maxRecDepth 20000 in
theorem ggX5_drop_X5_holds : GoodIn wsX5_drop wsX5_holds := goodIn_r _ [13, 14, 40, 41, 42, 43, 44, 45, 46, 47, 48, 49, 50, 51, 52, 53, 54, 55, 56, 57, 58, 59, 60, 61, 62, 63, 64, 65, 66, 67, 68] (by decide +kernel) (by decide +kernel)
set_option maxRecDepth 20000 in
theorem gX5_drop_X5_holds : GoodIn wsX5_drop (wsV RX5 95 RX5 yX5_holds wsX5_holds) := goodIn_app (goodIn_of _ (by decide +kernel)) ggX5_drop_X5_holds
set_option maxRecDepth 20000 in
theorem ggX5_drop_X5_drops : GoodIn wsX5_drop wsX5_drops := goodIn_r _ [18, 2, 19, 20, 21, 22, 23, 24, 25, 5, 26, 1, 27, 28, 29, 30, 31, 32, 33, 34, 35, 36, 37, 38, 39, 40, 41, 42, 43, 44, 45, 46, 47, 48, 49, 50, 51, 52, 53, 54, 55, 56, 57, 58, 59, 60, 61, 62, 63, 64, 65, 66, 67, 68] (by decide +kernel) (by decide +kernel)
set_option maxRecDepth 20000 in
theorem gX5_drop_X5_drops : GoodIn wsX5_drop (wsV RX5 138 RX5 yX5_drops wsX5_drops) := goodIn_app (goodIn_of _ (by decide +kernel)) ggX5_drop_X5_drops
theorem dX5_drop_0 : decode cX5_drop 0 = .ok (.iload_n 1, 1) := by decide +kernel
theorem dX5_drop_1 : decode cX5_drop 1 = .ok (.invokestatic 107, 3) := by decide +kernel
theorem dX5_drop_4 : decode cX5_drop 4 = .ok (.ifCond .eq 23, 3) := by decide +kernel
theorem dX5_drop_7 : decode cX5_drop 7 = .ok (.iload_n 2, 1) := by decide +kernel
theorem dX5_drop_8 : decode cX5_drop 8 = .ok (.iconst 0, 1) := by decide +kernel
theorem dX5_drop_9 : decode cX5_drop 9 = .ok (.aload_n 0, 1) := by decide +kernel
theorem dX5_drop_10 : decode cX5_drop 10 = .ok (.getfield 42, 3) := by decide +kernel
theorem dX5_drop_13 : decode cX5_drop 13 = .ok (.iload_n 1, 1) := by decide +kernel
theorem dX5_drop_14 : decode cX5_drop 14 = .ok (.iaload, 1) := by decide +kernel
theorem dX5_drop_15 : decode cX5_drop 15 = .ok (.iconst 1, 1) := by decide +kernel
theorem dX5_drop_16 : decode cX5_drop 16 = .ok (.isub, 1) := by decide +kernel
theorem dX5_drop_17 : decode cX5_drop 17 = .ok (.invokestatic 90, 3) := by decide +kernel
theorem dX5_drop_20 : decode cX5_drop 20 = .ok (.ifCond .eq 7, 3) := by decide +kernel
theorem dX5_drop_23 : decode cX5_drop 23 = .ok (.iconst 1, 1) := by decide +kernel
theorem dX5_drop_24 : decode cX5_drop 24 = .ok (.goto 4, 3) := by decide +kernel
theorem dX5_drop_27 : decode cX5_drop 27 = .ok (.iconst 0, 1) := by decide +kernel
theorem dX5_drop_28 : decode cX5_drop 28 = .ok (.istore_n 3, 1) := by decide +kernel
theorem dX5_drop_29 : decode cX5_drop 29 = .ok (.aload_n 0, 1) := by decide +kernel
theorem dX5_drop_30 : decode cX5_drop 30 = .ok (.iload_n 3, 1) := by decide +kernel
theorem dX5_drop_31 : decode cX5_drop 31 = .ok (.ifCond .ne 7, 3) := by decide +kernel
theorem dX5_drop_34 : decode cX5_drop 34 = .ok (.iconst 1, 1) := by decide +kernel
theorem dX5_drop_35 : decode cX5_drop 35 = .ok (.goto 22, 3) := by decide +kernel
theorem dX5_drop_38 : decode cX5_drop 38 = .ok (.aload_n 0, 1) := by decide +kernel
theorem dX5_drop_39 : decode cX5_drop 39 = .ok (.getfield 48, 3) := by decide +kernel
theorem dX5_drop_42 : decode cX5_drop 42 = .ok (.bipush 8, 2) := by decide +kernel
theorem dX5_drop_44 : decode cX5_drop 44 = .ok (.iload_n 1, 1) := by decide +kernel
theorem dX5_drop_45 : decode cX5_drop 45 = .ok (.imul, 1) := by decide +kernel
theorem dX5_drop_46 : decode cX5_drop 46 = .ok (.iload_n 2, 1) := by decide +kernel
theorem dX5_drop_47 : decode cX5_drop 47 = .ok (.iadd, 1) := by decide +kernel
theorem dX5_drop_48 : decode cX5_drop 48 = .ok (.baload, 1) := by decide +kernel
theorem dX5_drop_49 : decode cX5_drop 49 = .ok (.ifCond .eq 7, 3) := by decide +kernel
theorem dX5_drop_52 : decode cX5_drop 52 = .ok (.iconst 2, 1) := by decide +kernel
theorem dX5_drop_53 : decode cX5_drop 53 = .ok (.goto 4, 3) := by decide +kernel
theorem dX5_drop_56 : decode cX5_drop 56 = .ok (.iconst 0, 1) := by decide +kernel
theorem dX5_drop_57 : decode cX5_drop 57 = .ok (.invokevirtual 95, 3) := by decide +kernel
theorem dX5_drop_60 : decode cX5_drop 60 = .ok (.ifCond .ne 5, 3) := by decide +kernel
theorem dX5_drop_63 : decode cX5_drop 63 = .ok (.iconst 0, 1) := by decide +kernel
theorem dX5_drop_64 : decode cX5_drop 64 = .ok (.ireturn, 1) := by decide +kernel
theorem dX5_drop_65 : decode cX5_drop 65 = .ok (.aload_n 0, 1) := by decide +kernel
theorem dX5_drop_66 : decode cX5_drop 66 = .ok (.iload_n 1, 1) := by decide +kernel
theorem dX5_drop_67 : decode cX5_drop 67 = .ok (.iload_n 2, 1) := by decide +kernel
theorem dX5_drop_68 : decode cX5_drop 68 = .ok (.invokevirtual 138, 3) := by decide +kernel
theorem dX5_drop_71 : decode cX5_drop 71 = .ok (.ireturn, 1) := by decide +kernel
set_option maxRecDepth 20000 in
theorem ggX5_charge_X5_isStudent : GoodIn wsX5_charge wsX5_isStudent := goodIn_r _ [7, 8, 9, 6, 10] (by decide +kernel) (by decide +kernel)
set_option maxRecDepth 20000 in
theorem gX5_charge_X5_isStudent : GoodIn wsX5_charge (va_wsS RX5 107 yX5_isStudent wsX5_isStudent) := goodIn_app (goodIn_of _ (by decide +kernel)) ggX5_charge_X5_isStudent
set_option maxRecDepth 20000 in
theorem ggX5_charge_X5_in : GoodIn wsX5_charge wsX5_in := goodIn_r _ [10] (by decide +kernel) (by decide +kernel)
set_option maxRecDepth 20000 in
theorem gX5_charge_X5_in : GoodIn wsX5_charge (va_wsS RX5 90 yX5_in wsX5_in) := goodIn_app (goodIn_of _ (by decide +kernel)) ggX5_charge_X5_in
set_option maxRecDepth 20000 in
theorem ggX5_charge_X5_holds : GoodIn wsX5_charge wsX5_holds := goodIn_r _ [14, 15, 40, 41, 42, 43, 44, 45, 46, 47, 48, 49, 50, 51, 52, 53, 54, 55, 56, 57, 58, 59, 60, 61, 62, 63, 64, 65, 66, 67, 68] (by decide +kernel) (by decide +kernel)
set_option maxRecDepth 20000 in
theorem gX5_charge_X5_holds : GoodIn wsX5_charge (wsV RX5 95 RX5 yX5_holds wsX5_holds) := goodIn_app (goodIn_of _ (by decide +kernel)) ggX5_charge_X5_holds
set_option maxRecDepth 20000 in
theorem ggX5_charge_X5_chargedOf : GoodIn wsX5_charge wsX5_chargedOf := goodIn_r _ [19, 20, 2, 3, 21, 22, 23, 6, 24, 25, 26, 27, 28, 29, 30, 31, 32, 33, 34, 35, 36, 37, 38, 39, 40, 41, 42, 43, 44, 45, 46, 47, 48, 49, 50, 51, 52, 53, 54, 55, 56, 57, 58, 59, 60, 61, 62, 63, 64, 65, 66, 67, 68] (by decide +kernel) (by decide +kernel)
set_option maxRecDepth 20000 in
theorem gX5_charge_X5_chargedOf : GoodIn wsX5_charge (wsV RX5 118 RX5 yX5_chargedOf wsX5_chargedOf) := goodIn_app (goodIn_of _ (by decide +kernel)) ggX5_charge_X5_chargedOf
theorem dX5_charge_0 : decode cX5_charge 0 = .ok (.aload_n 0, 1) := by decide +kernel
theorem dX5_charge_1 : decode cX5_charge 1 = .ok (.iload_n 1, 1) := by decide +kernel
theorem dX5_charge_2 : decode cX5_charge 2 = .ok (.invokestatic 107, 3) := by decide +kernel
theorem dX5_charge_5 : decode cX5_charge 5 = .ok (.ifCond .ne 7, 3) := by decide +kernel
theorem dX5_charge_8 : decode cX5_charge 8 = .ok (.iconst 1, 1) := by decide +kernel
theorem dX5_charge_9 : decode cX5_charge 9 = .ok (.goto 27, 3) := by decide +kernel
theorem dX5_charge_12 : decode cX5_charge 12 = .ok (.iload_n 2, 1) := by decide +kernel
theorem dX5_charge_13 : decode cX5_charge 13 = .ok (.iconst 1, 1) := by decide +kernel
theorem dX5_charge_14 : decode cX5_charge 14 = .ok (.iconst 2, 1) := by decide +kernel
theorem dX5_charge_15 : decode cX5_charge 15 = .ok (.invokestatic 90, 3) := by decide +kernel
theorem dX5_charge_18 : decode cX5_charge 18 = .ok (.ifCond .eq 17, 3) := by decide +kernel
theorem dX5_charge_21 : decode cX5_charge 21 = .ok (.iload_n 3, 1) := by decide +kernel
theorem dX5_charge_22 : decode cX5_charge 22 = .ok (.iconst 1, 1) := by decide +kernel
theorem dX5_charge_23 : decode cX5_charge 23 = .ok (.ldc 103, 2) := by decide +kernel
theorem dX5_charge_25 : decode cX5_charge 25 = .ok (.invokestatic 90, 3) := by decide +kernel
theorem dX5_charge_28 : decode cX5_charge 28 = .ok (.ifCond .eq 7, 3) := by decide +kernel
theorem dX5_charge_31 : decode cX5_charge 31 = .ok (.iconst 0, 1) := by decide +kernel
theorem dX5_charge_32 : decode cX5_charge 32 = .ok (.goto 4, 3) := by decide +kernel
theorem dX5_charge_35 : decode cX5_charge 35 = .ok (.iconst 2, 1) := by decide +kernel
theorem dX5_charge_36 : decode cX5_charge 36 = .ok (.invokevirtual 95, 3) := by decide +kernel
theorem dX5_charge_39 : decode cX5_charge 39 = .ok (.ifCond .ne 5, 3) := by decide +kernel
theorem dX5_charge_42 : decode cX5_charge 42 = .ok (.iconst 0, 1) := by decide +kernel
theorem dX5_charge_43 : decode cX5_charge 43 = .ok (.ireturn, 1) := by decide +kernel
theorem dX5_charge_44 : decode cX5_charge 44 = .ok (.aload_n 0, 1) := by decide +kernel
theorem dX5_charge_45 : decode cX5_charge 45 = .ok (.getfield 54, 3) := by decide +kernel
theorem dX5_charge_48 : decode cX5_charge 48 = .ok (.iload_n 1, 1) := by decide +kernel
theorem dX5_charge_49 : decode cX5_charge 49 = .ok (.dup2, 1) := by decide +kernel
theorem dX5_charge_50 : decode cX5_charge 50 = .ok (.iaload, 1) := by decide +kernel
theorem dX5_charge_51 : decode cX5_charge 51 = .ok (.iload_n 2, 1) := by decide +kernel
theorem dX5_charge_52 : decode cX5_charge 52 = .ok (.iconst 1, 1) := by decide +kernel
theorem dX5_charge_53 : decode cX5_charge 53 = .ok (.if_icmp .ne 7, 3) := by decide +kernel
theorem dX5_charge_56 : decode cX5_charge 56 = .ok (.iload_n 3, 1) := by decide +kernel
theorem dX5_charge_57 : decode cX5_charge 57 = .ok (.goto 4, 3) := by decide +kernel
theorem dX5_charge_60 : decode cX5_charge 60 = .ok (.iconst 0, 1) := by decide +kernel
theorem dX5_charge_61 : decode cX5_charge 61 = .ok (.iadd, 1) := by decide +kernel
theorem dX5_charge_62 : decode cX5_charge 62 = .ok (.iastore, 1) := by decide +kernel
theorem dX5_charge_63 : decode cX5_charge 63 = .ok (.aload_n 0, 1) := by decide +kernel
theorem dX5_charge_64 : decode cX5_charge 64 = .ok (.getfield 57, 3) := by decide +kernel
theorem dX5_charge_67 : decode cX5_charge 67 = .ok (.iload_n 1, 1) := by decide +kernel
theorem dX5_charge_68 : decode cX5_charge 68 = .ok (.dup2, 1) := by decide +kernel
theorem dX5_charge_69 : decode cX5_charge 69 = .ok (.iaload, 1) := by decide +kernel
theorem dX5_charge_70 : decode cX5_charge 70 = .ok (.iload_n 2, 1) := by decide +kernel
theorem dX5_charge_71 : decode cX5_charge 71 = .ok (.iconst 2, 1) := by decide +kernel
theorem dX5_charge_72 : decode cX5_charge 72 = .ok (.if_icmp .ne 7, 3) := by decide +kernel
theorem dX5_charge_75 : decode cX5_charge 75 = .ok (.iload_n 3, 1) := by decide +kernel
theorem dX5_charge_76 : decode cX5_charge 76 = .ok (.goto 4, 3) := by decide +kernel
theorem dX5_charge_79 : decode cX5_charge 79 = .ok (.iconst 0, 1) := by decide +kernel
theorem dX5_charge_80 : decode cX5_charge 80 = .ok (.iadd, 1) := by decide +kernel
theorem dX5_charge_81 : decode cX5_charge 81 = .ok (.iastore, 1) := by decide +kernel
theorem dX5_charge_82 : decode cX5_charge 82 = .ok (.aload_n 0, 1) := by decide +kernel
theorem dX5_charge_83 : decode cX5_charge 83 = .ok (.iload_n 1, 1) := by decide +kernel
theorem dX5_charge_84 : decode cX5_charge 84 = .ok (.iload_n 2, 1) := by decide +kernel
theorem dX5_charge_85 : decode cX5_charge 85 = .ok (.invokevirtual 118, 3) := by decide +kernel
theorem dX5_charge_88 : decode cX5_charge 88 = .ok (.ireturn, 1) := by decide +kernel
set_option maxRecDepth 20000 in
theorem ggX5_award_X5_in : GoodIn wsX5_award wsX5_in := goodIn_r _ [8] (by decide +kernel) (by decide +kernel)
set_option maxRecDepth 20000 in
theorem gX5_award_X5_in : GoodIn wsX5_award (va_wsS RX5 90 yX5_in wsX5_in) := goodIn_app (goodIn_of _ (by decide +kernel)) ggX5_award_X5_in
set_option maxRecDepth 20000 in
theorem ggX5_award_X5_isStudent : GoodIn wsX5_award wsX5_isStudent := goodIn_r _ [11, 5, 6, 7, 8] (by decide +kernel) (by decide +kernel)
set_option maxRecDepth 20000 in
theorem gX5_award_X5_isStudent : GoodIn wsX5_award (va_wsS RX5 107 yX5_isStudent wsX5_isStudent) := goodIn_app (goodIn_of _ (by decide +kernel)) ggX5_award_X5_isStudent
set_option maxRecDepth 20000 in
theorem ggX5_award_X5_holds : GoodIn wsX5_award wsX5_holds := goodIn_r _ [15, 16, 17, 18, 19, 20, 21, 22, 23, 24, 25, 26, 27, 28, 29, 30, 31, 32, 33, 34, 35, 36, 37, 38, 39, 40, 41, 42, 43, 44, 45] (by decide +kernel) (by decide +kernel)
set_option maxRecDepth 20000 in
theorem gX5_award_X5_holds : GoodIn wsX5_award (wsV RX5 95 RX5 yX5_holds wsX5_holds) := goodIn_app (goodIn_of _ (by decide +kernel)) ggX5_award_X5_holds
theorem dX5_award_0 : decode cX5_award 0 = .ok (.iload_n 2, 1) := by decide +kernel
theorem dX5_award_1 : decode cX5_award 1 = .ok (.iconst 0, 1) := by decide +kernel
theorem dX5_award_2 : decode cX5_award 2 = .ok (.iconst 2, 1) := by decide +kernel
theorem dX5_award_3 : decode cX5_award 3 = .ok (.invokestatic 90, 3) := by decide +kernel
theorem dX5_award_6 : decode cX5_award 6 = .ok (.ifCond .eq 17, 3) := by decide +kernel
theorem dX5_award_9 : decode cX5_award 9 = .ok (.iload_n 3, 1) := by decide +kernel
theorem dX5_award_10 : decode cX5_award 10 = .ok (.iconst 1, 1) := by decide +kernel
theorem dX5_award_11 : decode cX5_award 11 = .ok (.ldc 103, 2) := by decide +kernel
theorem dX5_award_13 : decode cX5_award 13 = .ok (.invokestatic 90, 3) := by decide +kernel
theorem dX5_award_16 : decode cX5_award 16 = .ok (.ifCond .eq 7, 3) := by decide +kernel
theorem dX5_award_19 : decode cX5_award 19 = .ok (.iconst 1, 1) := by decide +kernel
theorem dX5_award_20 : decode cX5_award 20 = .ok (.goto 4, 3) := by decide +kernel
theorem dX5_award_23 : decode cX5_award 23 = .ok (.iconst 0, 1) := by decide +kernel
theorem dX5_award_24 : decode cX5_award 24 = .ok (.istore 4, 2) := by decide +kernel
theorem dX5_award_26 : decode cX5_award 26 = .ok (.aload_n 0, 1) := by decide +kernel
theorem dX5_award_27 : decode cX5_award 27 = .ok (.iload_n 1, 1) := by decide +kernel
theorem dX5_award_28 : decode cX5_award 28 = .ok (.invokestatic 107, 3) := by decide +kernel
theorem dX5_award_31 : decode cX5_award 31 = .ok (.ifCond .ne 7, 3) := by decide +kernel
theorem dX5_award_34 : decode cX5_award 34 = .ok (.iconst 1, 1) := by decide +kernel
theorem dX5_award_35 : decode cX5_award 35 = .ok (.goto 28, 3) := by decide +kernel
theorem dX5_award_38 : decode cX5_award 38 = .ok (.iload 4, 2) := by decide +kernel
theorem dX5_award_40 : decode cX5_award 40 = .ok (.ifCond .ne 7, 3) := by decide +kernel
theorem dX5_award_43 : decode cX5_award 43 = .ok (.iconst 2, 1) := by decide +kernel
theorem dX5_award_44 : decode cX5_award 44 = .ok (.goto 19, 3) := by decide +kernel
theorem dX5_award_47 : decode cX5_award 47 = .ok (.aload_n 0, 1) := by decide +kernel
theorem dX5_award_48 : decode cX5_award 48 = .ok (.getfield 60, 3) := by decide +kernel
theorem dX5_award_51 : decode cX5_award 51 = .ok (.iload_n 1, 1) := by decide +kernel
theorem dX5_award_52 : decode cX5_award 52 = .ok (.iaload, 1) := by decide +kernel
theorem dX5_award_53 : decode cX5_award 53 = .ok (.bipush 6, 2) := by decide +kernel
theorem dX5_award_55 : decode cX5_award 55 = .ok (.if_icmp .ne 7, 3) := by decide +kernel
theorem dX5_award_58 : decode cX5_award 58 = .ok (.iconst 3, 1) := by decide +kernel
theorem dX5_award_59 : decode cX5_award 59 = .ok (.goto 4, 3) := by decide +kernel
theorem dX5_award_62 : decode cX5_award 62 = .ok (.iconst 0, 1) := by decide +kernel
theorem dX5_award_63 : decode cX5_award 63 = .ok (.invokevirtual 95, 3) := by decide +kernel
theorem dX5_award_66 : decode cX5_award 66 = .ok (.ifCond .ne 5, 3) := by decide +kernel
theorem dX5_award_69 : decode cX5_award 69 = .ok (.iconst 0, 1) := by decide +kernel
theorem dX5_award_70 : decode cX5_award 70 = .ok (.ireturn, 1) := by decide +kernel
theorem dX5_award_71 : decode cX5_award 71 = .ok (.aload_n 0, 1) := by decide +kernel
theorem dX5_award_72 : decode cX5_award 72 = .ok (.getfield 63, 3) := by decide +kernel
theorem dX5_award_75 : decode cX5_award 75 = .ok (.bipush 6, 2) := by decide +kernel
theorem dX5_award_77 : decode cX5_award 77 = .ok (.iload_n 1, 1) := by decide +kernel
theorem dX5_award_78 : decode cX5_award 78 = .ok (.imul, 1) := by decide +kernel
theorem dX5_award_79 : decode cX5_award 79 = .ok (.aload_n 0, 1) := by decide +kernel
theorem dX5_award_80 : decode cX5_award 80 = .ok (.getfield 60, 3) := by decide +kernel
theorem dX5_award_83 : decode cX5_award 83 = .ok (.iload_n 1, 1) := by decide +kernel
theorem dX5_award_84 : decode cX5_award 84 = .ok (.iaload, 1) := by decide +kernel
theorem dX5_award_85 : decode cX5_award 85 = .ok (.iadd, 1) := by decide +kernel
theorem dX5_award_86 : decode cX5_award 86 = .ok (.iload_n 2, 1) := by decide +kernel
theorem dX5_award_87 : decode cX5_award 87 = .ok (.iastore, 1) := by decide +kernel
theorem dX5_award_88 : decode cX5_award 88 = .ok (.aload_n 0, 1) := by decide +kernel
theorem dX5_award_89 : decode cX5_award 89 = .ok (.getfield 66, 3) := by decide +kernel
theorem dX5_award_92 : decode cX5_award 92 = .ok (.bipush 6, 2) := by decide +kernel
theorem dX5_award_94 : decode cX5_award 94 = .ok (.iload_n 1, 1) := by decide +kernel
theorem dX5_award_95 : decode cX5_award 95 = .ok (.imul, 1) := by decide +kernel
theorem dX5_award_96 : decode cX5_award 96 = .ok (.aload_n 0, 1) := by decide +kernel
theorem dX5_award_97 : decode cX5_award 97 = .ok (.getfield 60, 3) := by decide +kernel
theorem dX5_award_100 : decode cX5_award 100 = .ok (.iload_n 1, 1) := by decide +kernel
theorem dX5_award_101 : decode cX5_award 101 = .ok (.iaload, 1) := by decide +kernel
theorem dX5_award_102 : decode cX5_award 102 = .ok (.iadd, 1) := by decide +kernel
theorem dX5_award_103 : decode cX5_award 103 = .ok (.iload_n 3, 1) := by decide +kernel
theorem dX5_award_104 : decode cX5_award 104 = .ok (.iastore, 1) := by decide +kernel
theorem dX5_award_105 : decode cX5_award 105 = .ok (.aload_n 0, 1) := by decide +kernel
theorem dX5_award_106 : decode cX5_award 106 = .ok (.getfield 60, 3) := by decide +kernel
theorem dX5_award_109 : decode cX5_award 109 = .ok (.iload_n 1, 1) := by decide +kernel
theorem dX5_award_110 : decode cX5_award 110 = .ok (.dup2, 1) := by decide +kernel
theorem dX5_award_111 : decode cX5_award 111 = .ok (.iaload, 1) := by decide +kernel
theorem dX5_award_112 : decode cX5_award 112 = .ok (.iconst 1, 1) := by decide +kernel
theorem dX5_award_113 : decode cX5_award 113 = .ok (.iadd, 1) := by decide +kernel
theorem dX5_award_114 : decode cX5_award 114 = .ok (.iastore, 1) := by decide +kernel
theorem dX5_award_115 : decode cX5_award 115 = .ok (.aload_n 0, 1) := by decide +kernel
theorem dX5_award_116 : decode cX5_award 116 = .ok (.getfield 60, 3) := by decide +kernel
theorem dX5_award_119 : decode cX5_award 119 = .ok (.iload_n 1, 1) := by decide +kernel
theorem dX5_award_120 : decode cX5_award 120 = .ok (.iaload, 1) := by decide +kernel
theorem dX5_award_121 : decode cX5_award 121 = .ok (.iconst 1, 1) := by decide +kernel
theorem dX5_award_122 : decode cX5_award 122 = .ok (.isub, 1) := by decide +kernel
theorem dX5_award_123 : decode cX5_award 123 = .ok (.ireturn, 1) := by decide +kernel
set_option maxRecDepth 20000 in
theorem ggX5_pay_X5_isStudent : GoodIn wsX5_pay wsX5_isStudent := goodIn_r _ [7, 8, 9, 6, 10] (by decide +kernel) (by decide +kernel)
set_option maxRecDepth 20000 in
theorem gX5_pay_X5_isStudent : GoodIn wsX5_pay (va_wsS RX5 107 yX5_isStudent wsX5_isStudent) := goodIn_app (goodIn_of _ (by decide +kernel)) ggX5_pay_X5_isStudent
set_option maxRecDepth 20000 in
theorem ggX5_pay_X5_in : GoodIn wsX5_pay wsX5_in := goodIn_r _ [10] (by decide +kernel) (by decide +kernel)
set_option maxRecDepth 20000 in
theorem gX5_pay_X5_in : GoodIn wsX5_pay (va_wsS RX5 90 yX5_in wsX5_in) := goodIn_app (goodIn_of _ (by decide +kernel)) ggX5_pay_X5_in
set_option maxRecDepth 20000 in
theorem ggX5_pay_X5_holds : GoodIn wsX5_pay wsX5_holds := goodIn_r _ [14, 15, 67, 68, 69, 70, 71, 72, 73, 74, 75, 76, 77, 78, 79, 80, 81, 82, 83, 84, 85, 86, 87, 88, 89, 90, 91, 92, 93, 94, 95] (by decide +kernel) (by decide +kernel)
set_option maxRecDepth 20000 in
theorem gX5_pay_X5_holds : GoodIn wsX5_pay (wsV RX5 95 RX5 yX5_holds wsX5_holds) := goodIn_app (goodIn_of _ (by decide +kernel)) ggX5_pay_X5_holds
set_option maxRecDepth 20000 in
theorem ggX5_pay_X5_owedOf : GoodIn wsX5_pay wsX5_owedOf := goodIn_r _ [19, 2, 20, 21, 22, 6, 23, 24, 25, 26, 27, 28, 29, 30, 31, 32, 33, 34, 35, 36, 37, 38, 39, 40, 41, 42, 43, 44, 45, 46, 47, 48, 49, 50, 51, 52, 53, 54, 55, 56, 57, 58, 59, 60, 61, 62, 63, 64, 65, 66, 67, 68, 69, 70, 71, 72, 73, 74, 75, 76, 77, 78, 79, 80, 81, 82, 83, 84, 85, 86, 87, 88, 89, 90, 91, 92, 93, 94, 95] (by decide +kernel) (by decide +kernel)
set_option maxRecDepth 20000 in
theorem gX5_pay_X5_owedOf : GoodIn wsX5_pay (wsV RX5 141 RX5 yX5_owedOf wsX5_owedOf) := goodIn_app (goodIn_of _ (by decide +kernel)) ggX5_pay_X5_owedOf
theorem dX5_pay_0 : decode cX5_pay 0 = .ok (.aload_n 0, 1) := by decide +kernel
theorem dX5_pay_1 : decode cX5_pay 1 = .ok (.iload_n 1, 1) := by decide +kernel
theorem dX5_pay_2 : decode cX5_pay 2 = .ok (.invokestatic 107, 3) := by decide +kernel
theorem dX5_pay_5 : decode cX5_pay 5 = .ok (.ifCond .ne 7, 3) := by decide +kernel
theorem dX5_pay_8 : decode cX5_pay 8 = .ok (.iconst 1, 1) := by decide +kernel
theorem dX5_pay_9 : decode cX5_pay 9 = .ok (.goto 18, 3) := by decide +kernel
theorem dX5_pay_12 : decode cX5_pay 12 = .ok (.iload_n 2, 1) := by decide +kernel
theorem dX5_pay_13 : decode cX5_pay 13 = .ok (.iconst 1, 1) := by decide +kernel
theorem dX5_pay_14 : decode cX5_pay 14 = .ok (.ldc 103, 2) := by decide +kernel
theorem dX5_pay_16 : decode cX5_pay 16 = .ok (.invokestatic 90, 3) := by decide +kernel
theorem dX5_pay_19 : decode cX5_pay 19 = .ok (.ifCond .eq 7, 3) := by decide +kernel
theorem dX5_pay_22 : decode cX5_pay 22 = .ok (.iconst 0, 1) := by decide +kernel
theorem dX5_pay_23 : decode cX5_pay 23 = .ok (.goto 4, 3) := by decide +kernel
theorem dX5_pay_26 : decode cX5_pay 26 = .ok (.iconst 2, 1) := by decide +kernel
theorem dX5_pay_27 : decode cX5_pay 27 = .ok (.invokevirtual 95, 3) := by decide +kernel
theorem dX5_pay_30 : decode cX5_pay 30 = .ok (.ifCond .ne 5, 3) := by decide +kernel
theorem dX5_pay_33 : decode cX5_pay 33 = .ok (.iconst 0, 1) := by decide +kernel
theorem dX5_pay_34 : decode cX5_pay 34 = .ok (.ireturn, 1) := by decide +kernel
theorem dX5_pay_35 : decode cX5_pay 35 = .ok (.aload_n 0, 1) := by decide +kernel
theorem dX5_pay_36 : decode cX5_pay 36 = .ok (.getfield 69, 3) := by decide +kernel
theorem dX5_pay_39 : decode cX5_pay 39 = .ok (.iload_n 1, 1) := by decide +kernel
theorem dX5_pay_40 : decode cX5_pay 40 = .ok (.dup2, 1) := by decide +kernel
theorem dX5_pay_41 : decode cX5_pay 41 = .ok (.iaload, 1) := by decide +kernel
theorem dX5_pay_42 : decode cX5_pay 42 = .ok (.iload_n 2, 1) := by decide +kernel
theorem dX5_pay_43 : decode cX5_pay 43 = .ok (.iadd, 1) := by decide +kernel
theorem dX5_pay_44 : decode cX5_pay 44 = .ok (.iastore, 1) := by decide +kernel
theorem dX5_pay_45 : decode cX5_pay 45 = .ok (.aload_n 0, 1) := by decide +kernel
theorem dX5_pay_46 : decode cX5_pay 46 = .ok (.getfield 84, 3) := by decide +kernel
theorem dX5_pay_49 : decode cX5_pay 49 = .ok (.iload_n 1, 1) := by decide +kernel
theorem dX5_pay_50 : decode cX5_pay 50 = .ok (.dup2, 1) := by decide +kernel
theorem dX5_pay_51 : decode cX5_pay 51 = .ok (.iaload, 1) := by decide +kernel
theorem dX5_pay_52 : decode cX5_pay 52 = .ok (.iload_n 2, 1) := by decide +kernel
theorem dX5_pay_53 : decode cX5_pay 53 = .ok (.iadd, 1) := by decide +kernel
theorem dX5_pay_54 : decode cX5_pay 54 = .ok (.iastore, 1) := by decide +kernel
theorem dX5_pay_55 : decode cX5_pay 55 = .ok (.aload_n 0, 1) := by decide +kernel
theorem dX5_pay_56 : decode cX5_pay 56 = .ok (.iload_n 1, 1) := by decide +kernel
theorem dX5_pay_57 : decode cX5_pay 57 = .ok (.invokevirtual 141, 3) := by decide +kernel
theorem dX5_pay_60 : decode cX5_pay 60 = .ok (.ireturn, 1) := by decide +kernel
set_option maxRecDepth 20000 in
theorem ggX5_plan_X5_isStudent : GoodIn wsX5_plan wsX5_isStudent := goodIn_r _ [11, 12, 13, 10, 14] (by decide +kernel) (by decide +kernel)
set_option maxRecDepth 20000 in
theorem gX5_plan_X5_isStudent : GoodIn wsX5_plan (va_wsS RX5 107 yX5_isStudent wsX5_isStudent) := goodIn_app (goodIn_of _ (by decide +kernel)) ggX5_plan_X5_isStudent
set_option maxRecDepth 20000 in
theorem ggX5_plan_X5_in : GoodIn wsX5_plan wsX5_in := goodIn_r _ [14] (by decide +kernel) (by decide +kernel)
set_option maxRecDepth 20000 in
theorem gX5_plan_X5_in : GoodIn wsX5_plan (va_wsS RX5 90 yX5_in wsX5_in) := goodIn_app (goodIn_of _ (by decide +kernel)) ggX5_plan_X5_in
set_option maxRecDepth 20000 in
theorem ggX5_plan_X5_owedOf : GoodIn wsX5_plan wsX5_owedOf := goodIn_r _ [18, 19, 20, 21, 22, 10, 23, 24, 25, 26, 27, 28, 29, 30, 31, 32, 33, 34, 35, 36, 37, 38, 39, 40, 41, 42, 43, 44, 45, 46, 47, 48, 49, 50, 51, 52, 53, 54, 55, 56, 57, 58, 59, 60, 61, 62, 63, 64, 65, 66, 72, 73, 74, 75, 76, 77, 78, 79, 80, 81, 82, 83, 84, 85, 86, 87, 88, 89, 90, 91, 92, 93, 94, 95, 96, 97, 98, 99, 100] (by decide +kernel) (by decide +kernel)
set_option maxRecDepth 20000 in
theorem gX5_plan_X5_owedOf : GoodIn wsX5_plan (wsV RX5 141 RX5 yX5_owedOf wsX5_owedOf) := goodIn_app (goodIn_of _ (by decide +kernel)) ggX5_plan_X5_owedOf
set_option maxRecDepth 20000 in
theorem ggX5_plan_X5_holds : GoodIn wsX5_plan wsX5_holds := goodIn_r _ [70, 71, 72, 73, 74, 75, 76, 77, 78, 79, 80, 81, 82, 83, 84, 85, 86, 87, 88, 89, 90, 91, 92, 93, 94, 95, 96, 97, 98, 99, 100] (by decide +kernel) (by decide +kernel)
set_option maxRecDepth 20000 in
theorem gX5_plan_X5_holds : GoodIn wsX5_plan (wsV RX5 95 RX5 yX5_holds wsX5_holds) := goodIn_app (goodIn_of _ (by decide +kernel)) ggX5_plan_X5_holds
theorem dX5_plan_0 : decode cX5_plan 0 = .ok (.aload_n 0, 1) := by decide +kernel
theorem dX5_plan_1 : decode cX5_plan 1 = .ok (.iload_n 1, 1) := by decide +kernel
theorem dX5_plan_2 : decode cX5_plan 2 = .ok (.invokestatic 107, 3) := by decide +kernel
theorem dX5_plan_5 : decode cX5_plan 5 = .ok (.ifCond .ne 7, 3) := by decide +kernel
theorem dX5_plan_8 : decode cX5_plan 8 = .ok (.iconst 1, 1) := by decide +kernel
theorem dX5_plan_9 : decode cX5_plan 9 = .ok (.goto 29, 3) := by decide +kernel
theorem dX5_plan_12 : decode cX5_plan 12 = .ok (.iload_n 2, 1) := by decide +kernel
theorem dX5_plan_13 : decode cX5_plan 13 = .ok (.iconst 1, 1) := by decide +kernel
theorem dX5_plan_14 : decode cX5_plan 14 = .ok (.iconst 4, 1) := by decide +kernel
theorem dX5_plan_15 : decode cX5_plan 15 = .ok (.invokestatic 90, 3) := by decide +kernel
theorem dX5_plan_18 : decode cX5_plan 18 = .ok (.ifCond .ne 7, 3) := by decide +kernel
theorem dX5_plan_21 : decode cX5_plan 21 = .ok (.iconst 2, 1) := by decide +kernel
theorem dX5_plan_22 : decode cX5_plan 22 = .ok (.goto 16, 3) := by decide +kernel
theorem dX5_plan_25 : decode cX5_plan 25 = .ok (.aload_n 0, 1) := by decide +kernel
theorem dX5_plan_26 : decode cX5_plan 26 = .ok (.iload_n 1, 1) := by decide +kernel
theorem dX5_plan_27 : decode cX5_plan 27 = .ok (.invokevirtual 141, 3) := by decide +kernel
theorem dX5_plan_30 : decode cX5_plan 30 = .ok (.ifCond .le 7, 3) := by decide +kernel
theorem dX5_plan_33 : decode cX5_plan 33 = .ok (.iconst 0, 1) := by decide +kernel
theorem dX5_plan_34 : decode cX5_plan 34 = .ok (.goto 4, 3) := by decide +kernel
theorem dX5_plan_37 : decode cX5_plan 37 = .ok (.iconst 3, 1) := by decide +kernel
theorem dX5_plan_38 : decode cX5_plan 38 = .ok (.invokevirtual 95, 3) := by decide +kernel
theorem dX5_plan_41 : decode cX5_plan 41 = .ok (.ifCond .ne 5, 3) := by decide +kernel
theorem dX5_plan_44 : decode cX5_plan 44 = .ok (.iconst 0, 1) := by decide +kernel
theorem dX5_plan_45 : decode cX5_plan 45 = .ok (.ireturn, 1) := by decide +kernel
theorem dX5_plan_46 : decode cX5_plan 46 = .ok (.aload_n 0, 1) := by decide +kernel
theorem dX5_plan_47 : decode cX5_plan 47 = .ok (.iload_n 1, 1) := by decide +kernel
theorem dX5_plan_48 : decode cX5_plan 48 = .ok (.invokevirtual 141, 3) := by decide +kernel
theorem dX5_plan_51 : decode cX5_plan 51 = .ok (.istore_n 3, 1) := by decide +kernel
theorem dX5_plan_52 : decode cX5_plan 52 = .ok (.aload_n 0, 1) := by decide +kernel
theorem dX5_plan_53 : decode cX5_plan 53 = .ok (.getfield 72, 3) := by decide +kernel
theorem dX5_plan_56 : decode cX5_plan 56 = .ok (.iload_n 1, 1) := by decide +kernel
theorem dX5_plan_57 : decode cX5_plan 57 = .ok (.iload_n 2, 1) := by decide +kernel
theorem dX5_plan_58 : decode cX5_plan 58 = .ok (.iastore, 1) := by decide +kernel
theorem dX5_plan_59 : decode cX5_plan 59 = .ok (.aload_n 0, 1) := by decide +kernel
theorem dX5_plan_60 : decode cX5_plan 60 = .ok (.getfield 75, 3) := by decide +kernel
theorem dX5_plan_63 : decode cX5_plan 63 = .ok (.iload_n 1, 1) := by decide +kernel
theorem dX5_plan_64 : decode cX5_plan 64 = .ok (.iload_n 3, 1) := by decide +kernel
theorem dX5_plan_65 : decode cX5_plan 65 = .ok (.iload_n 2, 1) := by decide +kernel
theorem dX5_plan_66 : decode cX5_plan 66 = .ok (.idiv, 1) := by decide +kernel
theorem dX5_plan_67 : decode cX5_plan 67 = .ok (.iastore, 1) := by decide +kernel
theorem dX5_plan_68 : decode cX5_plan 68 = .ok (.aload_n 0, 1) := by decide +kernel
theorem dX5_plan_69 : decode cX5_plan 69 = .ok (.getfield 78, 3) := by decide +kernel
theorem dX5_plan_72 : decode cX5_plan 72 = .ok (.iload_n 1, 1) := by decide +kernel
theorem dX5_plan_73 : decode cX5_plan 73 = .ok (.iload_n 3, 1) := by decide +kernel
theorem dX5_plan_74 : decode cX5_plan 74 = .ok (.iload_n 2, 1) := by decide +kernel
theorem dX5_plan_75 : decode cX5_plan 75 = .ok (.irem, 1) := by decide +kernel
theorem dX5_plan_76 : decode cX5_plan 76 = .ok (.iastore, 1) := by decide +kernel
theorem dX5_plan_77 : decode cX5_plan 77 = .ok (.aload_n 0, 1) := by decide +kernel
theorem dX5_plan_78 : decode cX5_plan 78 = .ok (.getfield 81, 3) := by decide +kernel
theorem dX5_plan_81 : decode cX5_plan 81 = .ok (.iload_n 1, 1) := by decide +kernel
theorem dX5_plan_82 : decode cX5_plan 82 = .ok (.bipush 16, 2) := by decide +kernel
theorem dX5_plan_84 : decode cX5_plan 84 = .ok (.aload_n 0, 1) := by decide +kernel
theorem dX5_plan_85 : decode cX5_plan 85 = .ok (.getfield 144, 3) := by decide +kernel
theorem dX5_plan_88 : decode cX5_plan 88 = .ok (.imul, 1) := by decide +kernel
theorem dX5_plan_89 : decode cX5_plan 89 = .ok (.aload_n 0, 1) := by decide +kernel
theorem dX5_plan_90 : decode cX5_plan 90 = .ok (.getfield 133, 3) := by decide +kernel
theorem dX5_plan_93 : decode cX5_plan 93 = .ok (.iadd, 1) := by decide +kernel
theorem dX5_plan_94 : decode cX5_plan 94 = .ok (.iastore, 1) := by decide +kernel
theorem dX5_plan_95 : decode cX5_plan 95 = .ok (.aload_n 0, 1) := by decide +kernel
theorem dX5_plan_96 : decode cX5_plan 96 = .ok (.getfield 84, 3) := by decide +kernel
theorem dX5_plan_99 : decode cX5_plan 99 = .ok (.iload_n 1, 1) := by decide +kernel
theorem dX5_plan_100 : decode cX5_plan 100 = .ok (.iconst 0, 1) := by decide +kernel
theorem dX5_plan_101 : decode cX5_plan 101 = .ok (.iastore, 1) := by decide +kernel
theorem dX5_plan_102 : decode cX5_plan 102 = .ok (.aload_n 0, 1) := by decide +kernel
theorem dX5_plan_103 : decode cX5_plan 103 = .ok (.getfield 75, 3) := by decide +kernel
theorem dX5_plan_106 : decode cX5_plan 106 = .ok (.iload_n 1, 1) := by decide +kernel
theorem dX5_plan_107 : decode cX5_plan 107 = .ok (.iaload, 1) := by decide +kernel
theorem dX5_plan_108 : decode cX5_plan 108 = .ok (.aload_n 0, 1) := by decide +kernel
theorem dX5_plan_109 : decode cX5_plan 109 = .ok (.getfield 78, 3) := by decide +kernel
theorem dX5_plan_112 : decode cX5_plan 112 = .ok (.iload_n 1, 1) := by decide +kernel
theorem dX5_plan_113 : decode cX5_plan 113 = .ok (.iaload, 1) := by decide +kernel
theorem dX5_plan_114 : decode cX5_plan 114 = .ok (.iadd, 1) := by decide +kernel
theorem dX5_plan_115 : decode cX5_plan 115 = .ok (.ireturn, 1) := by decide +kernel
set_option maxRecDepth 20000 in
theorem ggX5_leave_X5_isStudent : GoodIn wsX5_leave wsX5_isStudent := goodIn_r _ [10, 11, 12, 9, 13] (by decide +kernel) (by decide +kernel)
set_option maxRecDepth 20000 in
theorem gX5_leave_X5_isStudent : GoodIn wsX5_leave (va_wsS RX5 107 yX5_isStudent wsX5_isStudent) := goodIn_app (goodIn_of _ (by decide +kernel)) ggX5_leave_X5_isStudent
set_option maxRecDepth 20000 in
theorem ggX5_leave_X5_holds : GoodIn wsX5_leave wsX5_holds := goodIn_r _ [17, 18, 46, 47, 48, 49, 50, 51, 52, 53, 54, 55, 56, 57, 58, 59, 60, 61, 62, 63, 64, 65, 66, 67, 68, 69, 70, 71, 72, 73, 74] (by decide +kernel) (by decide +kernel)
set_option maxRecDepth 20000 in
theorem gX5_leave_X5_holds : GoodIn wsX5_leave (wsV RX5 95 RX5 yX5_holds wsX5_holds) := goodIn_app (goodIn_of _ (by decide +kernel)) ggX5_leave_X5_holds
set_option maxRecDepth 20000 in
theorem ggX5_leave_X5_drops : GoodIn wsX5_leave wsX5_drops := goodIn_r _ [22, 2, 23, 5, 24, 25, 26, 27, 28, 9, 29, 1, 30, 31, 32, 33, 34, 35, 36, 37, 38, 39, 40, 41, 42, 46, 47, 48, 49, 50, 51, 52, 53, 54, 55, 56, 57, 58, 59, 60, 61, 62, 63, 64, 65, 66, 67, 68, 69, 70, 71, 72, 73, 74] (by decide +kernel) (by decide +kernel)
set_option maxRecDepth 20000 in
theorem gX5_leave_X5_drops : GoodIn wsX5_leave (wsV RX5 138 RX5 yX5_drops wsX5_drops) := goodIn_app (goodIn_of _ (by decide +kernel)) ggX5_leave_X5_drops
set_option maxRecDepth 20000 in
theorem ggX5_leave_X5_least : GoodIn wsX5_leave wsX5_least := goodIn_r _ [45] (by decide +kernel) (by decide +kernel)
set_option maxRecDepth 20000 in
theorem gX5_leave_X5_least : GoodIn wsX5_leave (va_wsS RX5 121 yX5_least wsX5_least) := goodIn_app (goodIn_of _ (by decide +kernel)) ggX5_leave_X5_least
theorem dX5_leave_0 : decode cX5_leave 0 = .ok (.aload_n 0, 1) := by decide +kernel
theorem dX5_leave_1 : decode cX5_leave 1 = .ok (.iload_n 1, 1) := by decide +kernel
theorem dX5_leave_2 : decode cX5_leave 2 = .ok (.invokestatic 107, 3) := by decide +kernel
theorem dX5_leave_5 : decode cX5_leave 5 = .ok (.ifCond .eq 7, 3) := by decide +kernel
theorem dX5_leave_8 : decode cX5_leave 8 = .ok (.iconst 0, 1) := by decide +kernel
theorem dX5_leave_9 : decode cX5_leave 9 = .ok (.goto 4, 3) := by decide +kernel
theorem dX5_leave_12 : decode cX5_leave 12 = .ok (.iconst 1, 1) := by decide +kernel
theorem dX5_leave_13 : decode cX5_leave 13 = .ok (.invokevirtual 95, 3) := by decide +kernel
theorem dX5_leave_16 : decode cX5_leave 16 = .ok (.ifCond .ne 5, 3) := by decide +kernel
theorem dX5_leave_19 : decode cX5_leave 19 = .ok (.iconst 0, 1) := by decide +kernel
theorem dX5_leave_20 : decode cX5_leave 20 = .ok (.ireturn, 1) := by decide +kernel
theorem dX5_leave_21 : decode cX5_leave 21 = .ok (.iconst 0, 1) := by decide +kernel
theorem dX5_leave_22 : decode cX5_leave 22 = .ok (.istore_n 2, 1) := by decide +kernel
theorem dX5_leave_23 : decode cX5_leave 23 = .ok (.iload_n 2, 1) := by decide +kernel
theorem dX5_leave_24 : decode cX5_leave 24 = .ok (.aload_n 0, 1) := by decide +kernel
theorem dX5_leave_25 : decode cX5_leave 25 = .ok (.getfield 42, 3) := by decide +kernel
theorem dX5_leave_28 : decode cX5_leave 28 = .ok (.iload_n 1, 1) := by decide +kernel
theorem dX5_leave_29 : decode cX5_leave 29 = .ok (.iaload, 1) := by decide +kernel
theorem dX5_leave_30 : decode cX5_leave 30 = .ok (.if_icmp .ge 30, 3) := by decide +kernel
theorem dX5_leave_33 : decode cX5_leave 33 = .ok (.aload_n 0, 1) := by decide +kernel
theorem dX5_leave_34 : decode cX5_leave 34 = .ok (.getfield 48, 3) := by decide +kernel
theorem dX5_leave_37 : decode cX5_leave 37 = .ok (.bipush 8, 2) := by decide +kernel
theorem dX5_leave_39 : decode cX5_leave 39 = .ok (.iload_n 1, 1) := by decide +kernel
theorem dX5_leave_40 : decode cX5_leave 40 = .ok (.imul, 1) := by decide +kernel
theorem dX5_leave_41 : decode cX5_leave 41 = .ok (.iload_n 2, 1) := by decide +kernel
theorem dX5_leave_42 : decode cX5_leave 42 = .ok (.iadd, 1) := by decide +kernel
theorem dX5_leave_43 : decode cX5_leave 43 = .ok (.baload, 1) := by decide +kernel
theorem dX5_leave_44 : decode cX5_leave 44 = .ok (.ifCond .ne 10, 3) := by decide +kernel
theorem dX5_leave_47 : decode cX5_leave 47 = .ok (.aload_n 0, 1) := by decide +kernel
theorem dX5_leave_48 : decode cX5_leave 48 = .ok (.iload_n 1, 1) := by decide +kernel
theorem dX5_leave_49 : decode cX5_leave 49 = .ok (.iload_n 2, 1) := by decide +kernel
theorem dX5_leave_50 : decode cX5_leave 50 = .ok (.invokevirtual 138, 3) := by decide +kernel
theorem dX5_leave_53 : decode cX5_leave 53 = .ok (.pop, 1) := by decide +kernel
theorem dX5_leave_54 : decode cX5_leave 54 = .ok (.iinc 2 1, 3) := by decide +kernel
theorem dX5_leave_57 : decode cX5_leave 57 = .ok (.goto (-34), 3) := by decide +kernel
theorem dX5_leave_60 : decode cX5_leave 60 = .ok (.iconst 0, 1) := by decide +kernel
theorem dX5_leave_61 : decode cX5_leave 61 = .ok (.istore_n 2, 1) := by decide +kernel
theorem dX5_leave_62 : decode cX5_leave 62 = .ok (.iconst 0, 1) := by decide +kernel
theorem dX5_leave_63 : decode cX5_leave 63 = .ok (.istore_n 3, 1) := by decide +kernel
theorem dX5_leave_64 : decode cX5_leave 64 = .ok (.iload_n 3, 1) := by decide +kernel
theorem dX5_leave_65 : decode cX5_leave 65 = .ok (.aload_n 0, 1) := by decide +kernel
theorem dX5_leave_66 : decode cX5_leave 66 = .ok (.getfield 60, 3) := by decide +kernel
theorem dX5_leave_69 : decode cX5_leave 69 = .ok (.iload_n 1, 1) := by decide +kernel
theorem dX5_leave_70 : decode cX5_leave 70 = .ok (.iaload, 1) := by decide +kernel
theorem dX5_leave_71 : decode cX5_leave 71 = .ok (.if_icmp .ge 23, 3) := by decide +kernel
theorem dX5_leave_74 : decode cX5_leave 74 = .ok (.iload_n 2, 1) := by decide +kernel
theorem dX5_leave_75 : decode cX5_leave 75 = .ok (.aload_n 0, 1) := by decide +kernel
theorem dX5_leave_76 : decode cX5_leave 76 = .ok (.getfield 66, 3) := by decide +kernel
theorem dX5_leave_79 : decode cX5_leave 79 = .ok (.bipush 6, 2) := by decide +kernel
theorem dX5_leave_81 : decode cX5_leave 81 = .ok (.iload_n 1, 1) := by decide +kernel
theorem dX5_leave_82 : decode cX5_leave 82 = .ok (.imul, 1) := by decide +kernel
theorem dX5_leave_83 : decode cX5_leave 83 = .ok (.iload_n 3, 1) := by decide +kernel
theorem dX5_leave_84 : decode cX5_leave 84 = .ok (.iadd, 1) := by decide +kernel
theorem dX5_leave_85 : decode cX5_leave 85 = .ok (.iaload, 1) := by decide +kernel
theorem dX5_leave_86 : decode cX5_leave 86 = .ok (.iadd, 1) := by decide +kernel
theorem dX5_leave_87 : decode cX5_leave 87 = .ok (.istore_n 2, 1) := by decide +kernel
theorem dX5_leave_88 : decode cX5_leave 88 = .ok (.iinc 3 1, 3) := by decide +kernel
theorem dX5_leave_91 : decode cX5_leave 91 = .ok (.goto (-27), 3) := by decide +kernel
theorem dX5_leave_94 : decode cX5_leave 94 = .ok (.aload_n 0, 1) := by decide +kernel
theorem dX5_leave_95 : decode cX5_leave 95 = .ok (.getfield 133, 3) := by decide +kernel
theorem dX5_leave_98 : decode cX5_leave 98 = .ok (.bipush 10, 2) := by decide +kernel
theorem dX5_leave_100 : decode cX5_leave 100 = .ok (.if_icmp .lt 7, 3) := by decide +kernel
theorem dX5_leave_103 : decode cX5_leave 103 = .ok (.iconst 0, 1) := by decide +kernel
theorem dX5_leave_104 : decode cX5_leave 104 = .ok (.goto 14, 3) := by decide +kernel
theorem dX5_leave_107 : decode cX5_leave 107 = .ok (.iload_n 2, 1) := by decide +kernel
theorem dX5_leave_108 : decode cX5_leave 108 = .ok (.iload_n 2, 1) := by decide +kernel
theorem dX5_leave_109 : decode cX5_leave 109 = .ok (.aload_n 0, 1) := by decide +kernel
theorem dX5_leave_110 : decode cX5_leave 110 = .ok (.getfield 133, 3) := by decide +kernel
theorem dX5_leave_113 : decode cX5_leave 113 = .ok (.imul, 1) := by decide +kernel
theorem dX5_leave_114 : decode cX5_leave 114 = .ok (.bipush 16, 2) := by decide +kernel
theorem dX5_leave_116 : decode cX5_leave 116 = .ok (.idiv, 1) := by decide +kernel
theorem dX5_leave_117 : decode cX5_leave 117 = .ok (.isub, 1) := by decide +kernel
theorem dX5_leave_118 : decode cX5_leave 118 = .ok (.istore_n 3, 1) := by decide +kernel
theorem dX5_leave_119 : decode cX5_leave 119 = .ok (.iload_n 3, 1) := by decide +kernel
theorem dX5_leave_120 : decode cX5_leave 120 = .ok (.istore 4, 2) := by decide +kernel
theorem dX5_leave_122 : decode cX5_leave 122 = .ok (.iconst 0, 1) := by decide +kernel
theorem dX5_leave_123 : decode cX5_leave 123 = .ok (.istore 5, 2) := by decide +kernel
theorem dX5_leave_125 : decode cX5_leave 125 = .ok (.iload 5, 2) := by decide +kernel
theorem dX5_leave_127 : decode cX5_leave 127 = .ok (.bipush 18, 2) := by decide +kernel
theorem dX5_leave_129 : decode cX5_leave 129 = .ok (.if_icmp .ge 93, 3) := by decide +kernel
theorem dX5_leave_132 : decode cX5_leave 132 = .ok (.iconst 2, 1) := by decide +kernel
theorem dX5_leave_133 : decode cX5_leave 133 = .ok (.iload 5, 2) := by decide +kernel
theorem dX5_leave_135 : decode cX5_leave 135 = .ok (.bipush 6, 2) := by decide +kernel
theorem dX5_leave_137 : decode cX5_leave 137 = .ok (.idiv, 1) := by decide +kernel
theorem dX5_leave_138 : decode cX5_leave 138 = .ok (.isub, 1) := by decide +kernel
theorem dX5_leave_139 : decode cX5_leave 139 = .ok (.istore 6, 2) := by decide +kernel
theorem dX5_leave_141 : decode cX5_leave 141 = .ok (.bipush 6, 2) := by decide +kernel
theorem dX5_leave_143 : decode cX5_leave 143 = .ok (.iload_n 1, 1) := by decide +kernel
theorem dX5_leave_144 : decode cX5_leave 144 = .ok (.imul, 1) := by decide +kernel
theorem dX5_leave_145 : decode cX5_leave 145 = .ok (.iload 5, 2) := by decide +kernel
theorem dX5_leave_147 : decode cX5_leave 147 = .ok (.bipush 6, 2) := by decide +kernel
theorem dX5_leave_149 : decode cX5_leave 149 = .ok (.irem, 1) := by decide +kernel
theorem dX5_leave_150 : decode cX5_leave 150 = .ok (.iadd, 1) := by decide +kernel
theorem dX5_leave_151 : decode cX5_leave 151 = .ok (.istore 7, 2) := by decide +kernel
theorem dX5_leave_153 : decode cX5_leave 153 = .ok (.iload 5, 2) := by decide +kernel
theorem dX5_leave_155 : decode cX5_leave 155 = .ok (.bipush 6, 2) := by decide +kernel
theorem dX5_leave_157 : decode cX5_leave 157 = .ok (.irem, 1) := by decide +kernel
theorem dX5_leave_158 : decode cX5_leave 158 = .ok (.aload_n 0, 1) := by decide +kernel
theorem dX5_leave_159 : decode cX5_leave 159 = .ok (.getfield 60, 3) := by decide +kernel
theorem dX5_leave_162 : decode cX5_leave 162 = .ok (.iload_n 1, 1) := by decide +kernel
theorem dX5_leave_163 : decode cX5_leave 163 = .ok (.iaload, 1) := by decide +kernel
theorem dX5_leave_164 : decode cX5_leave 164 = .ok (.if_icmp .ge 30, 3) := by decide +kernel
theorem dX5_leave_167 : decode cX5_leave 167 = .ok (.aload_n 0, 1) := by decide +kernel
theorem dX5_leave_168 : decode cX5_leave 168 = .ok (.getfield 63, 3) := by decide +kernel
theorem dX5_leave_171 : decode cX5_leave 171 = .ok (.iload 7, 2) := by decide +kernel
theorem dX5_leave_173 : decode cX5_leave 173 = .ok (.iaload, 1) := by decide +kernel
theorem dX5_leave_174 : decode cX5_leave 174 = .ok (.iload 6, 2) := by decide +kernel
theorem dX5_leave_176 : decode cX5_leave 176 = .ok (.if_icmp .ne 18, 3) := by decide +kernel
theorem dX5_leave_179 : decode cX5_leave 179 = .ok (.aload_n 0, 1) := by decide +kernel
theorem dX5_leave_180 : decode cX5_leave 180 = .ok (.getfield 66, 3) := by decide +kernel
theorem dX5_leave_183 : decode cX5_leave 183 = .ok (.iload 7, 2) := by decide +kernel
theorem dX5_leave_185 : decode cX5_leave 185 = .ok (.iaload, 1) := by decide +kernel
theorem dX5_leave_186 : decode cX5_leave 186 = .ok (.iload 4, 2) := by decide +kernel
theorem dX5_leave_188 : decode cX5_leave 188 = .ok (.invokestatic 121, 3) := by decide +kernel
theorem dX5_leave_191 : decode cX5_leave 191 = .ok (.goto 4, 3) := by decide +kernel
theorem dX5_leave_194 : decode cX5_leave 194 = .ok (.iconst 0, 1) := by decide +kernel
theorem dX5_leave_195 : decode cX5_leave 195 = .ok (.istore 8, 2) := by decide +kernel
theorem dX5_leave_197 : decode cX5_leave 197 = .ok (.aload_n 0, 1) := by decide +kernel
theorem dX5_leave_198 : decode cX5_leave 198 = .ok (.getfield 66, 3) := by decide +kernel
theorem dX5_leave_201 : decode cX5_leave 201 = .ok (.iload 7, 2) := by decide +kernel
theorem dX5_leave_203 : decode cX5_leave 203 = .ok (.dup2, 1) := by decide +kernel
theorem dX5_leave_204 : decode cX5_leave 204 = .ok (.iaload, 1) := by decide +kernel
theorem dX5_leave_205 : decode cX5_leave 205 = .ok (.iload 8, 2) := by decide +kernel
theorem dX5_leave_207 : decode cX5_leave 207 = .ok (.isub, 1) := by decide +kernel
theorem dX5_leave_208 : decode cX5_leave 208 = .ok (.iastore, 1) := by decide +kernel
theorem dX5_leave_209 : decode cX5_leave 209 = .ok (.iload 4, 2) := by decide +kernel
theorem dX5_leave_211 : decode cX5_leave 211 = .ok (.iload 8, 2) := by decide +kernel
theorem dX5_leave_213 : decode cX5_leave 213 = .ok (.isub, 1) := by decide +kernel
theorem dX5_leave_214 : decode cX5_leave 214 = .ok (.istore 4, 2) := by decide +kernel
theorem dX5_leave_216 : decode cX5_leave 216 = .ok (.iinc 5 1, 3) := by decide +kernel
theorem dX5_leave_219 : decode cX5_leave 219 = .ok (.goto (-94), 3) := by decide +kernel
theorem dX5_leave_222 : decode cX5_leave 222 = .ok (.iload_n 3, 1) := by decide +kernel
theorem dX5_leave_223 : decode cX5_leave 223 = .ok (.ireturn, 1) := by decide +kernel
set_option maxRecDepth 20000 in
theorem ggX5_carries_X5_owedOf : GoodIn wsX5_carries wsX5_owedOf := goodIn_r _ [6, 1, 7, 8, 9, 5, 10, 11, 12, 13, 14, 15, 16, 17, 18, 19, 20, 21, 22, 23, 24, 25, 26, 27, 28, 29, 30, 31, 32, 33, 34, 35, 36, 37, 38, 39, 40, 41, 42, 43, 44, 45, 46, 47, 48, 49, 50, 51, 52, 53, 54, 55, 56, 57, 58, 59, 60, 61, 62, 63, 64, 65, 66, 67, 68, 69, 70, 71, 72, 73, 74, 75, 76, 77, 78, 79, 80, 81, 82] (by decide +kernel) (by decide +kernel)
set_option maxRecDepth 20000 in
theorem gX5_carries_X5_owedOf : GoodIn wsX5_carries (wsV RX5 141 RX5 yX5_owedOf wsX5_owedOf) := goodIn_app (goodIn_of _ (by decide +kernel)) ggX5_carries_X5_owedOf
set_option maxRecDepth 20000 in
theorem ggX5_carries_X5_least : GoodIn wsX5_carries wsX5_least := goodIn_r _ [45] (by decide +kernel) (by decide +kernel)
set_option maxRecDepth 20000 in
theorem gX5_carries_X5_least : GoodIn wsX5_carries (va_wsS RX5 121 yX5_least wsX5_least) := goodIn_app (goodIn_of _ (by decide +kernel)) ggX5_carries_X5_least
theorem dX5_carries_0 : decode cX5_carries 0 = .ok (.aload_n 0, 1) := by decide +kernel
theorem dX5_carries_1 : decode cX5_carries 1 = .ok (.iload_n 1, 1) := by decide +kernel
theorem dX5_carries_2 : decode cX5_carries 2 = .ok (.invokevirtual 141, 3) := by decide +kernel
theorem dX5_carries_5 : decode cX5_carries 5 = .ok (.istore_n 3, 1) := by decide +kernel
theorem dX5_carries_6 : decode cX5_carries 6 = .ok (.aload_n 0, 1) := by decide +kernel
theorem dX5_carries_7 : decode cX5_carries 7 = .ok (.iload_n 2, 1) := by decide +kernel
theorem dX5_carries_8 : decode cX5_carries 8 = .ok (.invokevirtual 141, 3) := by decide +kernel
theorem dX5_carries_11 : decode cX5_carries 11 = .ok (.ineg, 1) := by decide +kernel
theorem dX5_carries_12 : decode cX5_carries 12 = .ok (.istore 4, 2) := by decide +kernel
theorem dX5_carries_14 : decode cX5_carries 14 = .ok (.iload_n 3, 1) := by decide +kernel
theorem dX5_carries_15 : decode cX5_carries 15 = .ok (.ifCond .le 38, 3) := by decide +kernel
theorem dX5_carries_18 : decode cX5_carries 18 = .ok (.iload 4, 2) := by decide +kernel
theorem dX5_carries_20 : decode cX5_carries 20 = .ok (.ifCond .le 33, 3) := by decide +kernel
theorem dX5_carries_23 : decode cX5_carries 23 = .ok (.iload_n 3, 1) := by decide +kernel
theorem dX5_carries_24 : decode cX5_carries 24 = .ok (.iload 4, 2) := by decide +kernel
theorem dX5_carries_26 : decode cX5_carries 26 = .ok (.invokestatic 121, 3) := by decide +kernel
theorem dX5_carries_29 : decode cX5_carries 29 = .ok (.istore 5, 2) := by decide +kernel
theorem dX5_carries_31 : decode cX5_carries 31 = .ok (.aload_n 0, 1) := by decide +kernel
theorem dX5_carries_32 : decode cX5_carries 32 = .ok (.getfield 69, 3) := by decide +kernel
theorem dX5_carries_35 : decode cX5_carries 35 = .ok (.iload_n 1, 1) := by decide +kernel
theorem dX5_carries_36 : decode cX5_carries 36 = .ok (.dup2, 1) := by decide +kernel
theorem dX5_carries_37 : decode cX5_carries 37 = .ok (.iaload, 1) := by decide +kernel
theorem dX5_carries_38 : decode cX5_carries 38 = .ok (.iload 5, 2) := by decide +kernel
theorem dX5_carries_40 : decode cX5_carries 40 = .ok (.iadd, 1) := by decide +kernel
theorem dX5_carries_41 : decode cX5_carries 41 = .ok (.iastore, 1) := by decide +kernel
theorem dX5_carries_42 : decode cX5_carries 42 = .ok (.aload_n 0, 1) := by decide +kernel
theorem dX5_carries_43 : decode cX5_carries 43 = .ok (.getfield 69, 3) := by decide +kernel
theorem dX5_carries_46 : decode cX5_carries 46 = .ok (.iload_n 2, 1) := by decide +kernel
theorem dX5_carries_47 : decode cX5_carries 47 = .ok (.dup2, 1) := by decide +kernel
theorem dX5_carries_48 : decode cX5_carries 48 = .ok (.iaload, 1) := by decide +kernel
theorem dX5_carries_49 : decode cX5_carries 49 = .ok (.iload 5, 2) := by decide +kernel
theorem dX5_carries_51 : decode cX5_carries 51 = .ok (.isub, 1) := by decide +kernel
theorem dX5_carries_52 : decode cX5_carries 52 = .ok (.iastore, 1) := by decide +kernel
theorem dX5_carries_53 : decode cX5_carries 53 = .ok (.return_, 1) := by decide +kernel
set_option maxRecDepth 20000 in
theorem ggX5_endsTerm_X5_carries : GoodIn wsX5_endsTerm wsX5_carries := goodIn_r _ [15, 8, 16, 17, 18, 14, 19, 20, 21, 22, 23, 24, 25, 26, 27, 5, 7, 6, 28, 29, 30, 31, 1, 32, 33, 34, 35, 36, 37, 38, 39, 40, 41, 42, 43, 44, 45, 46, 47, 48, 49, 3, 4, 50, 51, 52, 53, 54, 55, 56, 57, 2, 58, 59, 60, 61, 62, 63, 64, 65, 66, 67, 68, 69, 70, 71, 72, 73, 74, 75, 76, 77, 78, 79, 80, 81, 82, 83, 84, 85, 86, 87, 88] (by decide +kernel) (by decide +kernel)
set_option maxRecDepth 20000 in
theorem gX5_endsTerm_X5_carries : GoodIn wsX5_endsTerm (wsV RX5 147 RX5 yX5_carries wsX5_carries) := goodIn_app (goodIn_of _ (by decide +kernel)) ggX5_endsTerm_X5_carries
set_option maxRecDepth 20000 in
theorem ggX5_endsTerm_X5_owedOf : GoodIn wsX5_endsTerm wsX5_owedOf := goodIn_r _ [19, 8, 20, 21, 22, 14, 23, 24, 25, 26, 27, 5, 7, 6, 28, 29, 30, 31, 1, 32, 33, 34, 35, 36, 37, 38, 39, 40, 41, 42, 43, 44, 45, 46, 47, 48, 49, 3, 4, 50, 51, 52, 53, 54, 55, 56, 57, 2, 58, 59, 60, 61, 62, 63, 64, 65, 66, 67, 68, 69, 70, 71, 72, 73, 74, 75, 76, 77, 78, 79, 80, 81, 82, 83, 84, 85, 86, 87, 88] (by decide +kernel) (by decide +kernel)
set_option maxRecDepth 20000 in
theorem gX5_endsTerm_X5_owedOf : GoodIn wsX5_endsTerm (wsV RX5 141 RX5 yX5_owedOf wsX5_owedOf) := goodIn_app (goodIn_of _ (by decide +kernel)) ggX5_endsTerm_X5_owedOf
theorem dX5_endsTerm_0 : decode cX5_endsTerm 0 = .ok (.iconst 0, 1) := by decide +kernel
theorem dX5_endsTerm_1 : decode cX5_endsTerm 1 = .ok (.istore_n 1, 1) := by decide +kernel
theorem dX5_endsTerm_2 : decode cX5_endsTerm 2 = .ok (.iload_n 1, 1) := by decide +kernel
theorem dX5_endsTerm_3 : decode cX5_endsTerm 3 = .ok (.iconst 4, 1) := by decide +kernel
theorem dX5_endsTerm_4 : decode cX5_endsTerm 4 = .ok (.if_icmp .ge 25, 3) := by decide +kernel
theorem dX5_endsTerm_7 : decode cX5_endsTerm 7 = .ok (.aload_n 0, 1) := by decide +kernel
theorem dX5_endsTerm_8 : decode cX5_endsTerm 8 = .ok (.iload_n 1, 1) := by decide +kernel
theorem dX5_endsTerm_9 : decode cX5_endsTerm 9 = .ok (.iload_n 1, 1) := by decide +kernel
theorem dX5_endsTerm_10 : decode cX5_endsTerm 10 = .ok (.iconst 1, 1) := by decide +kernel
theorem dX5_endsTerm_11 : decode cX5_endsTerm 11 = .ok (.iadd, 1) := by decide +kernel
theorem dX5_endsTerm_12 : decode cX5_endsTerm 12 = .ok (.invokevirtual 147, 3) := by decide +kernel
theorem dX5_endsTerm_15 : decode cX5_endsTerm 15 = .ok (.aload_n 0, 1) := by decide +kernel
theorem dX5_endsTerm_16 : decode cX5_endsTerm 16 = .ok (.iload_n 1, 1) := by decide +kernel
theorem dX5_endsTerm_17 : decode cX5_endsTerm 17 = .ok (.iconst 1, 1) := by decide +kernel
theorem dX5_endsTerm_18 : decode cX5_endsTerm 18 = .ok (.iadd, 1) := by decide +kernel
theorem dX5_endsTerm_19 : decode cX5_endsTerm 19 = .ok (.iload_n 1, 1) := by decide +kernel
theorem dX5_endsTerm_20 : decode cX5_endsTerm 20 = .ok (.invokevirtual 147, 3) := by decide +kernel
theorem dX5_endsTerm_23 : decode cX5_endsTerm 23 = .ok (.iinc 1 2, 3) := by decide +kernel
theorem dX5_endsTerm_26 : decode cX5_endsTerm 26 = .ok (.goto (-24), 3) := by decide +kernel
theorem dX5_endsTerm_29 : decode cX5_endsTerm 29 = .ok (.iconst 0, 1) := by decide +kernel
theorem dX5_endsTerm_30 : decode cX5_endsTerm 30 = .ok (.istore_n 1, 1) := by decide +kernel
theorem dX5_endsTerm_31 : decode cX5_endsTerm 31 = .ok (.iload_n 1, 1) := by decide +kernel
theorem dX5_endsTerm_32 : decode cX5_endsTerm 32 = .ok (.iconst 4, 1) := by decide +kernel
theorem dX5_endsTerm_33 : decode cX5_endsTerm 33 = .ok (.if_icmp .ge 88, 3) := by decide +kernel
theorem dX5_endsTerm_36 : decode cX5_endsTerm 36 = .ok (.aload_n 0, 1) := by decide +kernel
theorem dX5_endsTerm_37 : decode cX5_endsTerm 37 = .ok (.iload_n 1, 1) := by decide +kernel
theorem dX5_endsTerm_38 : decode cX5_endsTerm 38 = .ok (.invokevirtual 141, 3) := by decide +kernel
theorem dX5_endsTerm_41 : decode cX5_endsTerm 41 = .ok (.istore_n 2, 1) := by decide +kernel
theorem dX5_endsTerm_42 : decode cX5_endsTerm 42 = .ok (.aload_n 0, 1) := by decide +kernel
theorem dX5_endsTerm_43 : decode cX5_endsTerm 43 = .ok (.getfield 42, 3) := by decide +kernel
theorem dX5_endsTerm_46 : decode cX5_endsTerm 46 = .ok (.iload_n 1, 1) := by decide +kernel
theorem dX5_endsTerm_47 : decode cX5_endsTerm 47 = .ok (.iconst 0, 1) := by decide +kernel
theorem dX5_endsTerm_48 : decode cX5_endsTerm 48 = .ok (.iastore, 1) := by decide +kernel
theorem dX5_endsTerm_49 : decode cX5_endsTerm 49 = .ok (.aload_n 0, 1) := by decide +kernel
theorem dX5_endsTerm_50 : decode cX5_endsTerm 50 = .ok (.getfield 60, 3) := by decide +kernel
theorem dX5_endsTerm_53 : decode cX5_endsTerm 53 = .ok (.iload_n 1, 1) := by decide +kernel
theorem dX5_endsTerm_54 : decode cX5_endsTerm 54 = .ok (.iconst 0, 1) := by decide +kernel
theorem dX5_endsTerm_55 : decode cX5_endsTerm 55 = .ok (.iastore, 1) := by decide +kernel
theorem dX5_endsTerm_56 : decode cX5_endsTerm 56 = .ok (.aload_n 0, 1) := by decide +kernel
theorem dX5_endsTerm_57 : decode cX5_endsTerm 57 = .ok (.getfield 36, 3) := by decide +kernel
theorem dX5_endsTerm_60 : decode cX5_endsTerm 60 = .ok (.iload_n 1, 1) := by decide +kernel
theorem dX5_endsTerm_61 : decode cX5_endsTerm 61 = .ok (.iconst 0, 1) := by decide +kernel
theorem dX5_endsTerm_62 : decode cX5_endsTerm 62 = .ok (.iastore, 1) := by decide +kernel
theorem dX5_endsTerm_63 : decode cX5_endsTerm 63 = .ok (.aload_n 0, 1) := by decide +kernel
theorem dX5_endsTerm_64 : decode cX5_endsTerm 64 = .ok (.getfield 39, 3) := by decide +kernel
theorem dX5_endsTerm_67 : decode cX5_endsTerm 67 = .ok (.iload_n 1, 1) := by decide +kernel
theorem dX5_endsTerm_68 : decode cX5_endsTerm 68 = .ok (.iconst 0, 1) := by decide +kernel
theorem dX5_endsTerm_69 : decode cX5_endsTerm 69 = .ok (.iastore, 1) := by decide +kernel
theorem dX5_endsTerm_70 : decode cX5_endsTerm 70 = .ok (.aload_n 0, 1) := by decide +kernel
theorem dX5_endsTerm_71 : decode cX5_endsTerm 71 = .ok (.getfield 51, 3) := by decide +kernel
theorem dX5_endsTerm_74 : decode cX5_endsTerm 74 = .ok (.iload_n 1, 1) := by decide +kernel
theorem dX5_endsTerm_75 : decode cX5_endsTerm 75 = .ok (.iconst 0, 1) := by decide +kernel
theorem dX5_endsTerm_76 : decode cX5_endsTerm 76 = .ok (.iastore, 1) := by decide +kernel
theorem dX5_endsTerm_77 : decode cX5_endsTerm 77 = .ok (.aload_n 0, 1) := by decide +kernel
theorem dX5_endsTerm_78 : decode cX5_endsTerm 78 = .ok (.getfield 57, 3) := by decide +kernel
theorem dX5_endsTerm_81 : decode cX5_endsTerm 81 = .ok (.iload_n 1, 1) := by decide +kernel
theorem dX5_endsTerm_82 : decode cX5_endsTerm 82 = .ok (.iconst 0, 1) := by decide +kernel
theorem dX5_endsTerm_83 : decode cX5_endsTerm 83 = .ok (.iastore, 1) := by decide +kernel
theorem dX5_endsTerm_84 : decode cX5_endsTerm 84 = .ok (.aload_n 0, 1) := by decide +kernel
theorem dX5_endsTerm_85 : decode cX5_endsTerm 85 = .ok (.getfield 54, 3) := by decide +kernel
theorem dX5_endsTerm_88 : decode cX5_endsTerm 88 = .ok (.iload_n 1, 1) := by decide +kernel
theorem dX5_endsTerm_89 : decode cX5_endsTerm 89 = .ok (.iload_n 2, 1) := by decide +kernel
theorem dX5_endsTerm_90 : decode cX5_endsTerm 90 = .ok (.ifCond .le 7, 3) := by decide +kernel
theorem dX5_endsTerm_93 : decode cX5_endsTerm 93 = .ok (.iload_n 2, 1) := by decide +kernel
theorem dX5_endsTerm_94 : decode cX5_endsTerm 94 = .ok (.goto 4, 3) := by decide +kernel
theorem dX5_endsTerm_97 : decode cX5_endsTerm 97 = .ok (.iconst 0, 1) := by decide +kernel
theorem dX5_endsTerm_98 : decode cX5_endsTerm 98 = .ok (.iastore, 1) := by decide +kernel
theorem dX5_endsTerm_99 : decode cX5_endsTerm 99 = .ok (.aload_n 0, 1) := by decide +kernel
theorem dX5_endsTerm_100 : decode cX5_endsTerm 100 = .ok (.getfield 69, 3) := by decide +kernel
theorem dX5_endsTerm_103 : decode cX5_endsTerm 103 = .ok (.iload_n 1, 1) := by decide +kernel
theorem dX5_endsTerm_104 : decode cX5_endsTerm 104 = .ok (.iload_n 2, 1) := by decide +kernel
theorem dX5_endsTerm_105 : decode cX5_endsTerm 105 = .ok (.ifCond .ge 8, 3) := by decide +kernel
theorem dX5_endsTerm_108 : decode cX5_endsTerm 108 = .ok (.iload_n 2, 1) := by decide +kernel
theorem dX5_endsTerm_109 : decode cX5_endsTerm 109 = .ok (.ineg, 1) := by decide +kernel
theorem dX5_endsTerm_110 : decode cX5_endsTerm 110 = .ok (.goto 4, 3) := by decide +kernel
theorem dX5_endsTerm_113 : decode cX5_endsTerm 113 = .ok (.iconst 0, 1) := by decide +kernel
theorem dX5_endsTerm_114 : decode cX5_endsTerm 114 = .ok (.iastore, 1) := by decide +kernel
theorem dX5_endsTerm_115 : decode cX5_endsTerm 115 = .ok (.iinc 1 1, 3) := by decide +kernel
theorem dX5_endsTerm_118 : decode cX5_endsTerm 118 = .ok (.goto (-87), 3) := by decide +kernel
theorem dX5_endsTerm_121 : decode cX5_endsTerm 121 = .ok (.aload_n 0, 1) := by decide +kernel
theorem dX5_endsTerm_122 : decode cX5_endsTerm 122 = .ok (.iconst 0, 1) := by decide +kernel
theorem dX5_endsTerm_123 : decode cX5_endsTerm 123 = .ok (.putfield 133, 3) := by decide +kernel
theorem dX5_endsTerm_126 : decode cX5_endsTerm 126 = .ok (.aload_n 0, 1) := by decide +kernel
theorem dX5_endsTerm_127 : decode cX5_endsTerm 127 = .ok (.dup, 1) := by decide +kernel
theorem dX5_endsTerm_128 : decode cX5_endsTerm 128 = .ok (.getfield 144, 3) := by decide +kernel
theorem dX5_endsTerm_131 : decode cX5_endsTerm 131 = .ok (.iconst 1, 1) := by decide +kernel
theorem dX5_endsTerm_132 : decode cX5_endsTerm 132 = .ok (.iadd, 1) := by decide +kernel
theorem dX5_endsTerm_133 : decode cX5_endsTerm 133 = .ok (.putfield 144, 3) := by decide +kernel
theorem dX5_endsTerm_136 : decode cX5_endsTerm 136 = .ok (.return_, 1) := by decide +kernel
set_option maxRecDepth 20000 in
theorem ggX5_falls_X5_in : GoodIn wsX5_falls wsX5_in := goodIn_r _ [13] (by decide +kernel) (by decide +kernel)
set_option maxRecDepth 20000 in
theorem gX5_falls_X5_in : GoodIn wsX5_falls (va_wsS RX5 90 yX5_in wsX5_in) := goodIn_app (goodIn_of _ (by decide +kernel)) ggX5_falls_X5_in
theorem dX5_falls_0 : decode cX5_falls 0 = .ok (.bipush 16, 2) := by decide +kernel
theorem dX5_falls_2 : decode cX5_falls 2 = .ok (.aload_n 0, 1) := by decide +kernel
theorem dX5_falls_3 : decode cX5_falls 3 = .ok (.getfield 144, 3) := by decide +kernel
theorem dX5_falls_6 : decode cX5_falls 6 = .ok (.imul, 1) := by decide +kernel
theorem dX5_falls_7 : decode cX5_falls 7 = .ok (.aload_n 0, 1) := by decide +kernel
theorem dX5_falls_8 : decode cX5_falls 8 = .ok (.getfield 133, 3) := by decide +kernel
theorem dX5_falls_11 : decode cX5_falls 11 = .ok (.iadd, 1) := by decide +kernel
theorem dX5_falls_12 : decode cX5_falls 12 = .ok (.aload_n 0, 1) := by decide +kernel
theorem dX5_falls_13 : decode cX5_falls 13 = .ok (.getfield 81, 3) := by decide +kernel
theorem dX5_falls_16 : decode cX5_falls 16 = .ok (.iload_n 1, 1) := by decide +kernel
theorem dX5_falls_17 : decode cX5_falls 17 = .ok (.iaload, 1) := by decide +kernel
theorem dX5_falls_18 : decode cX5_falls 18 = .ok (.isub, 1) := by decide +kernel
theorem dX5_falls_19 : decode cX5_falls 19 = .ok (.istore_n 2, 1) := by decide +kernel
theorem dX5_falls_20 : decode cX5_falls 20 = .ok (.iload_n 2, 1) := by decide +kernel
theorem dX5_falls_21 : decode cX5_falls 21 = .ok (.iconst 2, 1) := by decide +kernel
theorem dX5_falls_22 : decode cX5_falls 22 = .ok (.idiv, 1) := by decide +kernel
theorem dX5_falls_23 : decode cX5_falls 23 = .ok (.istore_n 3, 1) := by decide +kernel
theorem dX5_falls_24 : decode cX5_falls 24 = .ok (.iload_n 2, 1) := by decide +kernel
theorem dX5_falls_25 : decode cX5_falls 25 = .ok (.iconst 2, 1) := by decide +kernel
theorem dX5_falls_26 : decode cX5_falls 26 = .ok (.irem, 1) := by decide +kernel
theorem dX5_falls_27 : decode cX5_falls 27 = .ok (.ifCond .ne 54, 3) := by decide +kernel
theorem dX5_falls_30 : decode cX5_falls 30 = .ok (.iload_n 3, 1) := by decide +kernel
theorem dX5_falls_31 : decode cX5_falls 31 = .ok (.iconst 1, 1) := by decide +kernel
theorem dX5_falls_32 : decode cX5_falls 32 = .ok (.aload_n 0, 1) := by decide +kernel
theorem dX5_falls_33 : decode cX5_falls 33 = .ok (.getfield 72, 3) := by decide +kernel
theorem dX5_falls_36 : decode cX5_falls 36 = .ok (.iload_n 1, 1) := by decide +kernel
theorem dX5_falls_37 : decode cX5_falls 37 = .ok (.iaload, 1) := by decide +kernel
theorem dX5_falls_38 : decode cX5_falls 38 = .ok (.invokestatic 90, 3) := by decide +kernel
theorem dX5_falls_41 : decode cX5_falls 41 = .ok (.ifCond .eq 40, 3) := by decide +kernel
theorem dX5_falls_44 : decode cX5_falls 44 = .ok (.aload_n 0, 1) := by decide +kernel
theorem dX5_falls_45 : decode cX5_falls 45 = .ok (.getfield 84, 3) := by decide +kernel
theorem dX5_falls_48 : decode cX5_falls 48 = .ok (.iload_n 1, 1) := by decide +kernel
theorem dX5_falls_49 : decode cX5_falls 49 = .ok (.iaload, 1) := by decide +kernel
theorem dX5_falls_50 : decode cX5_falls 50 = .ok (.iload_n 3, 1) := by decide +kernel
theorem dX5_falls_51 : decode cX5_falls 51 = .ok (.aload_n 0, 1) := by decide +kernel
theorem dX5_falls_52 : decode cX5_falls 52 = .ok (.getfield 75, 3) := by decide +kernel
theorem dX5_falls_55 : decode cX5_falls 55 = .ok (.iload_n 1, 1) := by decide +kernel
theorem dX5_falls_56 : decode cX5_falls 56 = .ok (.iaload, 1) := by decide +kernel
theorem dX5_falls_57 : decode cX5_falls 57 = .ok (.imul, 1) := by decide +kernel
theorem dX5_falls_58 : decode cX5_falls 58 = .ok (.aload_n 0, 1) := by decide +kernel
theorem dX5_falls_59 : decode cX5_falls 59 = .ok (.getfield 78, 3) := by decide +kernel
theorem dX5_falls_62 : decode cX5_falls 62 = .ok (.iload_n 1, 1) := by decide +kernel
theorem dX5_falls_63 : decode cX5_falls 63 = .ok (.iaload, 1) := by decide +kernel
theorem dX5_falls_64 : decode cX5_falls 64 = .ok (.iadd, 1) := by decide +kernel
theorem dX5_falls_65 : decode cX5_falls 65 = .ok (.if_icmp .ge 16, 3) := by decide +kernel
theorem dX5_falls_68 : decode cX5_falls 68 = .ok (.aload_n 0, 1) := by decide +kernel
theorem dX5_falls_69 : decode cX5_falls 69 = .ok (.getfield 54, 3) := by decide +kernel
theorem dX5_falls_72 : decode cX5_falls 72 = .ok (.iload_n 1, 1) := by decide +kernel
theorem dX5_falls_73 : decode cX5_falls 73 = .ok (.dup2, 1) := by decide +kernel
theorem dX5_falls_74 : decode cX5_falls 74 = .ok (.iaload, 1) := by decide +kernel
theorem dX5_falls_75 : decode cX5_falls 75 = .ok (.aload_n 0, 1) := by decide +kernel
theorem dX5_falls_76 : decode cX5_falls 76 = .ok (.getfield 23, 3) := by decide +kernel
theorem dX5_falls_79 : decode cX5_falls 79 = .ok (.iadd, 1) := by decide +kernel
theorem dX5_falls_80 : decode cX5_falls 80 = .ok (.iastore, 1) := by decide +kernel
theorem dX5_falls_81 : decode cX5_falls 81 = .ok (.return_, 1) := by decide +kernel
set_option maxRecDepth 20000 in
theorem ggX5_closeWeek_X5_holds : GoodIn wsX5_closeWeek wsX5_holds := goodIn_r _ [7, 8, 82, 83, 84, 85, 86, 87, 88, 89, 90, 91, 92, 93, 94, 95, 96, 97, 98, 99, 100, 101, 102, 103, 104, 105, 106, 107, 108, 109, 110] (by decide +kernel) (by decide +kernel)
set_option maxRecDepth 20000 in
theorem gX5_closeWeek_X5_holds : GoodIn wsX5_closeWeek (wsV RX5 95 RX5 yX5_holds wsX5_holds) := goodIn_app (goodIn_of _ (by decide +kernel)) ggX5_closeWeek_X5_holds
set_option maxRecDepth 20000 in
theorem ggX5_closeWeek_X5_endsTerm : GoodIn wsX5_closeWeek wsX5_endsTerm := goodIn_r _ [12, 13, 14, 15, 16, 17, 18, 19, 20, 1, 2, 21, 22, 23, 6, 24, 25, 26, 27, 28, 29, 30, 31, 32, 33, 34, 35, 36, 37, 38, 39, 40, 41, 42, 43, 44, 45, 46, 47, 48, 49, 50, 51, 52, 53, 54, 55, 56, 57, 58, 59, 60, 61, 62, 63, 64, 65, 66, 67, 68, 82, 83, 84, 85, 86, 87, 88, 89, 90, 91, 92, 93, 94, 95, 96, 97, 98, 99, 100, 101, 102, 103, 104, 105, 106, 107, 108, 109, 110] (by decide +kernel) (by decide +kernel)
set_option maxRecDepth 20000 in
theorem gX5_closeWeek_X5_endsTerm : GoodIn wsX5_closeWeek (wsV RX5 151 RX5 yX5_endsTerm wsX5_endsTerm) := goodIn_app (goodIn_of _ (by decide +kernel)) ggX5_closeWeek_X5_endsTerm
set_option maxRecDepth 20000 in
theorem ggX5_closeWeek_X5_falls : GoodIn wsX5_closeWeek wsX5_falls := goodIn_r _ [72, 2, 1, 73, 74, 75, 76, 77, 19, 78, 79, 80, 6, 81, 82, 83, 84, 85, 86, 87, 88, 89, 90, 91, 92, 93, 94, 95, 96, 97, 98, 99, 100, 101, 102, 103, 104, 105, 106, 107, 108, 109, 110] (by decide +kernel) (by decide +kernel)
set_option maxRecDepth 20000 in
theorem gX5_closeWeek_X5_falls : GoodIn wsX5_closeWeek (wsV RX5 154 RX5 yX5_falls wsX5_falls) := goodIn_app (goodIn_of _ (by decide +kernel)) ggX5_closeWeek_X5_falls
theorem dX5_closeWeek_0 : decode cX5_closeWeek 0 = .ok (.aload_n 0, 1) := by decide +kernel
theorem dX5_closeWeek_1 : decode cX5_closeWeek 1 = .ok (.aload_n 0, 1) := by decide +kernel
theorem dX5_closeWeek_2 : decode cX5_closeWeek 2 = .ok (.getfield 133, 3) := by decide +kernel
theorem dX5_closeWeek_5 : decode cX5_closeWeek 5 = .ok (.bipush 15, 2) := by decide +kernel
theorem dX5_closeWeek_7 : decode cX5_closeWeek 7 = .ok (.if_icmp .ne 16, 3) := by decide +kernel
theorem dX5_closeWeek_10 : decode cX5_closeWeek 10 = .ok (.aload_n 0, 1) := by decide +kernel
theorem dX5_closeWeek_11 : decode cX5_closeWeek 11 = .ok (.getfield 144, 3) := by decide +kernel
theorem dX5_closeWeek_14 : decode cX5_closeWeek 14 = .ok (.bipush 9, 2) := by decide +kernel
theorem dX5_closeWeek_16 : decode cX5_closeWeek 16 = .ok (.if_icmp .ne 7, 3) := by decide +kernel
theorem dX5_closeWeek_19 : decode cX5_closeWeek 19 = .ok (.iconst 1, 1) := by decide +kernel
theorem dX5_closeWeek_20 : decode cX5_closeWeek 20 = .ok (.goto 4, 3) := by decide +kernel
theorem dX5_closeWeek_23 : decode cX5_closeWeek 23 = .ok (.iconst 0, 1) := by decide +kernel
theorem dX5_closeWeek_24 : decode cX5_closeWeek 24 = .ok (.invokevirtual 95, 3) := by decide +kernel
theorem dX5_closeWeek_27 : decode cX5_closeWeek 27 = .ok (.ifCond .ne 5, 3) := by decide +kernel
theorem dX5_closeWeek_30 : decode cX5_closeWeek 30 = .ok (.iconst 0, 1) := by decide +kernel
theorem dX5_closeWeek_31 : decode cX5_closeWeek 31 = .ok (.ireturn, 1) := by decide +kernel
theorem dX5_closeWeek_32 : decode cX5_closeWeek 32 = .ok (.aload_n 0, 1) := by decide +kernel
theorem dX5_closeWeek_33 : decode cX5_closeWeek 33 = .ok (.getfield 133, 3) := by decide +kernel
theorem dX5_closeWeek_36 : decode cX5_closeWeek 36 = .ok (.bipush 15, 2) := by decide +kernel
theorem dX5_closeWeek_38 : decode cX5_closeWeek 38 = .ok (.if_icmp .ne 10, 3) := by decide +kernel
theorem dX5_closeWeek_41 : decode cX5_closeWeek 41 = .ok (.aload_n 0, 1) := by decide +kernel
theorem dX5_closeWeek_42 : decode cX5_closeWeek 42 = .ok (.invokevirtual 151, 3) := by decide +kernel
theorem dX5_closeWeek_45 : decode cX5_closeWeek 45 = .ok (.goto 13, 3) := by decide +kernel
theorem dX5_closeWeek_48 : decode cX5_closeWeek 48 = .ok (.aload_n 0, 1) := by decide +kernel
theorem dX5_closeWeek_49 : decode cX5_closeWeek 49 = .ok (.dup, 1) := by decide +kernel
theorem dX5_closeWeek_50 : decode cX5_closeWeek 50 = .ok (.getfield 133, 3) := by decide +kernel
theorem dX5_closeWeek_53 : decode cX5_closeWeek 53 = .ok (.iconst 1, 1) := by decide +kernel
theorem dX5_closeWeek_54 : decode cX5_closeWeek 54 = .ok (.iadd, 1) := by decide +kernel
theorem dX5_closeWeek_55 : decode cX5_closeWeek 55 = .ok (.putfield 133, 3) := by decide +kernel
theorem dX5_closeWeek_58 : decode cX5_closeWeek 58 = .ok (.iconst 0, 1) := by decide +kernel
theorem dX5_closeWeek_59 : decode cX5_closeWeek 59 = .ok (.istore_n 1, 1) := by decide +kernel
theorem dX5_closeWeek_60 : decode cX5_closeWeek 60 = .ok (.iload_n 1, 1) := by decide +kernel
theorem dX5_closeWeek_61 : decode cX5_closeWeek 61 = .ok (.iconst 4, 1) := by decide +kernel
theorem dX5_closeWeek_62 : decode cX5_closeWeek 62 = .ok (.if_icmp .ge 14, 3) := by decide +kernel
theorem dX5_closeWeek_65 : decode cX5_closeWeek 65 = .ok (.aload_n 0, 1) := by decide +kernel
theorem dX5_closeWeek_66 : decode cX5_closeWeek 66 = .ok (.iload_n 1, 1) := by decide +kernel
theorem dX5_closeWeek_67 : decode cX5_closeWeek 67 = .ok (.invokevirtual 154, 3) := by decide +kernel
theorem dX5_closeWeek_70 : decode cX5_closeWeek 70 = .ok (.iinc 1 1, 3) := by decide +kernel
theorem dX5_closeWeek_73 : decode cX5_closeWeek 73 = .ok (.goto (-13), 3) := by decide +kernel
theorem dX5_closeWeek_76 : decode cX5_closeWeek 76 = .ok (.aload_n 0, 1) := by decide +kernel
theorem dX5_closeWeek_77 : decode cX5_closeWeek 77 = .ok (.getfield 133, 3) := by decide +kernel
theorem dX5_closeWeek_80 : decode cX5_closeWeek 80 = .ok (.ireturn, 1) := by decide +kernel
theorem dX5_week_0 : decode cX5_week 0 = .ok (.aload_n 0, 1) := by decide +kernel
theorem dX5_week_1 : decode cX5_week 1 = .ok (.iconst 0, 1) := by decide +kernel
theorem dX5_week_2 : decode cX5_week 2 = .ok (.putfield 87, 3) := by decide +kernel
theorem dX5_week_5 : decode cX5_week 5 = .ok (.aload_n 0, 1) := by decide +kernel
theorem dX5_week_6 : decode cX5_week 6 = .ok (.getfield 133, 3) := by decide +kernel
theorem dX5_week_9 : decode cX5_week 9 = .ok (.ireturn, 1) := by decide +kernel
theorem dX5_term_0 : decode cX5_term 0 = .ok (.aload_n 0, 1) := by decide +kernel
theorem dX5_term_1 : decode cX5_term 1 = .ok (.iconst 0, 1) := by decide +kernel
theorem dX5_term_2 : decode cX5_term 2 = .ok (.putfield 87, 3) := by decide +kernel
theorem dX5_term_5 : decode cX5_term 5 = .ok (.aload_n 0, 1) := by decide +kernel
theorem dX5_term_6 : decode cX5_term 6 = .ok (.getfield 144, 3) := by decide +kernel
theorem dX5_term_9 : decode cX5_term 9 = .ok (.ireturn, 1) := by decide +kernel
set_option maxRecDepth 20000 in
theorem ggX5_credits_X5_isStudent : GoodIn wsX5_credits wsX5_isStudent := goodIn_r _ [4, 5, 6, 3, 7] (by decide +kernel) (by decide +kernel)
set_option maxRecDepth 20000 in
theorem gX5_credits_X5_isStudent : GoodIn wsX5_credits (va_wsS RX5 107 yX5_isStudent wsX5_isStudent) := goodIn_app (goodIn_of _ (by decide +kernel)) ggX5_credits_X5_isStudent
set_option maxRecDepth 20000 in
theorem ggX5_credits_X5_holds : GoodIn wsX5_credits wsX5_holds := goodIn_r _ [11, 12, 20, 21, 22, 23, 24, 25, 26, 27, 28, 29, 30, 31, 32, 33, 34, 35, 36, 37, 38, 39, 40, 41, 42, 43, 44, 45, 46, 47, 48] (by decide +kernel) (by decide +kernel)
set_option maxRecDepth 20000 in
theorem gX5_credits_X5_holds : GoodIn wsX5_credits (wsV RX5 95 RX5 yX5_holds wsX5_holds) := goodIn_app (goodIn_of _ (by decide +kernel)) ggX5_credits_X5_holds
set_option maxRecDepth 20000 in
theorem ggX5_credits_X5_creditsOf : GoodIn wsX5_credits wsX5_creditsOf := goodIn_r _ [16, 17, 18, 19, 20, 21, 22, 23, 24, 25, 26, 27, 28, 29, 30, 31, 32, 33, 34, 35, 36, 37, 38, 39, 40, 41, 42, 43, 44, 45, 46, 47, 48] (by decide +kernel) (by decide +kernel)
set_option maxRecDepth 20000 in
theorem gX5_credits_X5_creditsOf : GoodIn wsX5_credits (wsV RX5 110 RX5 yX5_creditsOf wsX5_creditsOf) := goodIn_app (goodIn_of _ (by decide +kernel)) ggX5_credits_X5_creditsOf
theorem dX5_credits_0 : decode cX5_credits 0 = .ok (.aload_n 0, 1) := by decide +kernel
theorem dX5_credits_1 : decode cX5_credits 1 = .ok (.iload_n 1, 1) := by decide +kernel
theorem dX5_credits_2 : decode cX5_credits 2 = .ok (.invokestatic 107, 3) := by decide +kernel
theorem dX5_credits_5 : decode cX5_credits 5 = .ok (.ifCond .eq 7, 3) := by decide +kernel
theorem dX5_credits_8 : decode cX5_credits 8 = .ok (.iconst 0, 1) := by decide +kernel
theorem dX5_credits_9 : decode cX5_credits 9 = .ok (.goto 4, 3) := by decide +kernel
theorem dX5_credits_12 : decode cX5_credits 12 = .ok (.iconst 1, 1) := by decide +kernel
theorem dX5_credits_13 : decode cX5_credits 13 = .ok (.invokevirtual 95, 3) := by decide +kernel
theorem dX5_credits_16 : decode cX5_credits 16 = .ok (.ifCond .eq 11, 3) := by decide +kernel
theorem dX5_credits_19 : decode cX5_credits 19 = .ok (.aload_n 0, 1) := by decide +kernel
theorem dX5_credits_20 : decode cX5_credits 20 = .ok (.iload_n 1, 1) := by decide +kernel
theorem dX5_credits_21 : decode cX5_credits 21 = .ok (.invokevirtual 110, 3) := by decide +kernel
theorem dX5_credits_24 : decode cX5_credits 24 = .ok (.goto 4, 3) := by decide +kernel
theorem dX5_credits_27 : decode cX5_credits 27 = .ok (.iconst 0, 1) := by decide +kernel
theorem dX5_credits_28 : decode cX5_credits 28 = .ok (.ireturn, 1) := by decide +kernel
set_option maxRecDepth 20000 in
theorem ggX5_charged_X5_isStudent : GoodIn wsX5_charged wsX5_isStudent := goodIn_r _ [4, 5, 6, 3, 7] (by decide +kernel) (by decide +kernel)
set_option maxRecDepth 20000 in
theorem gX5_charged_X5_isStudent : GoodIn wsX5_charged (va_wsS RX5 107 yX5_isStudent wsX5_isStudent) := goodIn_app (goodIn_of _ (by decide +kernel)) ggX5_charged_X5_isStudent
set_option maxRecDepth 20000 in
theorem ggX5_charged_X5_in : GoodIn wsX5_charged wsX5_in := goodIn_r _ [7] (by decide +kernel) (by decide +kernel)
set_option maxRecDepth 20000 in
theorem gX5_charged_X5_in : GoodIn wsX5_charged (va_wsS RX5 90 yX5_in wsX5_in) := goodIn_app (goodIn_of _ (by decide +kernel)) ggX5_charged_X5_in
set_option maxRecDepth 20000 in
theorem ggX5_charged_X5_holds : GoodIn wsX5_charged wsX5_holds := goodIn_r _ [11, 12, 39, 40, 41, 42, 43, 44, 45, 46, 47, 48, 49, 50, 51, 52, 53, 54, 55, 56, 57, 58, 59, 60, 61, 62, 63, 64, 65, 66, 67] (by decide +kernel) (by decide +kernel)
set_option maxRecDepth 20000 in
theorem gX5_charged_X5_holds : GoodIn wsX5_charged (wsV RX5 95 RX5 yX5_holds wsX5_holds) := goodIn_app (goodIn_of _ (by decide +kernel)) ggX5_charged_X5_holds
set_option maxRecDepth 20000 in
theorem ggX5_charged_X5_chargedOf : GoodIn wsX5_charged wsX5_chargedOf := goodIn_r _ [16, 17, 18, 19, 20, 21, 22, 3, 23, 24, 25, 26, 27, 28, 29, 30, 31, 32, 33, 34, 35, 36, 37, 38, 39, 40, 41, 42, 43, 44, 45, 46, 47, 48, 49, 50, 51, 52, 53, 54, 55, 56, 57, 58, 59, 60, 61, 62, 63, 64, 65, 66, 67] (by decide +kernel) (by decide +kernel)
set_option maxRecDepth 20000 in
theorem gX5_charged_X5_chargedOf : GoodIn wsX5_charged (wsV RX5 118 RX5 yX5_chargedOf wsX5_chargedOf) := goodIn_app (goodIn_of _ (by decide +kernel)) ggX5_charged_X5_chargedOf
theorem dX5_charged_0 : decode cX5_charged 0 = .ok (.aload_n 0, 1) := by decide +kernel
theorem dX5_charged_1 : decode cX5_charged 1 = .ok (.iload_n 1, 1) := by decide +kernel
theorem dX5_charged_2 : decode cX5_charged 2 = .ok (.invokestatic 107, 3) := by decide +kernel
theorem dX5_charged_5 : decode cX5_charged 5 = .ok (.ifCond .ne 7, 3) := by decide +kernel
theorem dX5_charged_8 : decode cX5_charged 8 = .ok (.iconst 1, 1) := by decide +kernel
theorem dX5_charged_9 : decode cX5_charged 9 = .ok (.goto 17, 3) := by decide +kernel
theorem dX5_charged_12 : decode cX5_charged 12 = .ok (.iload_n 2, 1) := by decide +kernel
theorem dX5_charged_13 : decode cX5_charged 13 = .ok (.iconst 0, 1) := by decide +kernel
theorem dX5_charged_14 : decode cX5_charged 14 = .ok (.iconst 2, 1) := by decide +kernel
theorem dX5_charged_15 : decode cX5_charged 15 = .ok (.invokestatic 90, 3) := by decide +kernel
theorem dX5_charged_18 : decode cX5_charged 18 = .ok (.ifCond .eq 7, 3) := by decide +kernel
theorem dX5_charged_21 : decode cX5_charged 21 = .ok (.iconst 0, 1) := by decide +kernel
theorem dX5_charged_22 : decode cX5_charged 22 = .ok (.goto 4, 3) := by decide +kernel
theorem dX5_charged_25 : decode cX5_charged 25 = .ok (.iconst 2, 1) := by decide +kernel
theorem dX5_charged_26 : decode cX5_charged 26 = .ok (.invokevirtual 95, 3) := by decide +kernel
theorem dX5_charged_29 : decode cX5_charged 29 = .ok (.ifCond .eq 12, 3) := by decide +kernel
theorem dX5_charged_32 : decode cX5_charged 32 = .ok (.aload_n 0, 1) := by decide +kernel
theorem dX5_charged_33 : decode cX5_charged 33 = .ok (.iload_n 1, 1) := by decide +kernel
theorem dX5_charged_34 : decode cX5_charged 34 = .ok (.iload_n 2, 1) := by decide +kernel
theorem dX5_charged_35 : decode cX5_charged 35 = .ok (.invokevirtual 118, 3) := by decide +kernel
theorem dX5_charged_38 : decode cX5_charged 38 = .ok (.goto 4, 3) := by decide +kernel
theorem dX5_charged_41 : decode cX5_charged 41 = .ok (.iconst 0, 1) := by decide +kernel
theorem dX5_charged_42 : decode cX5_charged 42 = .ok (.ireturn, 1) := by decide +kernel
set_option maxRecDepth 20000 in
theorem ggX5_sponsored_X5_isStudent : GoodIn wsX5_sponsored wsX5_isStudent := goodIn_r _ [4, 5, 6, 3, 7] (by decide +kernel) (by decide +kernel)
set_option maxRecDepth 20000 in
theorem gX5_sponsored_X5_isStudent : GoodIn wsX5_sponsored (va_wsS RX5 107 yX5_isStudent wsX5_isStudent) := goodIn_app (goodIn_of _ (by decide +kernel)) ggX5_sponsored_X5_isStudent
set_option maxRecDepth 20000 in
theorem ggX5_sponsored_X5_holds : GoodIn wsX5_sponsored wsX5_holds := goodIn_r _ [11, 12, 48, 49, 50, 51, 52, 53, 54, 55, 56, 57, 58, 59, 60, 61, 62, 63, 64, 65, 66, 67, 68, 69, 70, 71, 72, 73, 74, 75, 76] (by decide +kernel) (by decide +kernel)
set_option maxRecDepth 20000 in
theorem gX5_sponsored_X5_holds : GoodIn wsX5_sponsored (wsV RX5 95 RX5 yX5_holds wsX5_holds) := goodIn_app (goodIn_of _ (by decide +kernel)) ggX5_sponsored_X5_holds
set_option maxRecDepth 20000 in
theorem ggX5_sponsored_X5_sponsoredOf : GoodIn wsX5_sponsored wsX5_sponsoredOf := goodIn_r _ [16, 17, 18, 19, 20, 21, 3, 22, 23, 24, 25, 26, 27, 28, 29, 30, 31, 32, 33, 34, 35, 36, 37, 38, 39, 40, 41, 42, 43, 44, 45, 46, 47, 48, 49, 50, 51, 52, 53, 54, 55, 56, 57, 58, 59, 60, 61, 62, 63, 64, 65, 66, 67, 68, 69, 70, 71, 72, 73, 74, 75, 76] (by decide +kernel) (by decide +kernel)
set_option maxRecDepth 20000 in
theorem gX5_sponsored_X5_sponsoredOf : GoodIn wsX5_sponsored (wsV RX5 127 RX5 yX5_sponsoredOf wsX5_sponsoredOf) := goodIn_app (goodIn_of _ (by decide +kernel)) ggX5_sponsored_X5_sponsoredOf
theorem dX5_sponsored_0 : decode cX5_sponsored 0 = .ok (.aload_n 0, 1) := by decide +kernel
theorem dX5_sponsored_1 : decode cX5_sponsored 1 = .ok (.iload_n 1, 1) := by decide +kernel
theorem dX5_sponsored_2 : decode cX5_sponsored 2 = .ok (.invokestatic 107, 3) := by decide +kernel
theorem dX5_sponsored_5 : decode cX5_sponsored 5 = .ok (.ifCond .eq 7, 3) := by decide +kernel
theorem dX5_sponsored_8 : decode cX5_sponsored 8 = .ok (.iconst 0, 1) := by decide +kernel
theorem dX5_sponsored_9 : decode cX5_sponsored 9 = .ok (.goto 4, 3) := by decide +kernel
theorem dX5_sponsored_12 : decode cX5_sponsored 12 = .ok (.iconst 1, 1) := by decide +kernel
theorem dX5_sponsored_13 : decode cX5_sponsored 13 = .ok (.invokevirtual 95, 3) := by decide +kernel
theorem dX5_sponsored_16 : decode cX5_sponsored 16 = .ok (.ifCond .eq 11, 3) := by decide +kernel
theorem dX5_sponsored_19 : decode cX5_sponsored 19 = .ok (.aload_n 0, 1) := by decide +kernel
theorem dX5_sponsored_20 : decode cX5_sponsored 20 = .ok (.iload_n 1, 1) := by decide +kernel
theorem dX5_sponsored_21 : decode cX5_sponsored 21 = .ok (.invokevirtual 127, 3) := by decide +kernel
theorem dX5_sponsored_24 : decode cX5_sponsored 24 = .ok (.goto 4, 3) := by decide +kernel
theorem dX5_sponsored_27 : decode cX5_sponsored 27 = .ok (.iconst 0, 1) := by decide +kernel
theorem dX5_sponsored_28 : decode cX5_sponsored 28 = .ok (.ireturn, 1) := by decide +kernel
set_option maxRecDepth 20000 in
theorem ggX5_isAward_X5_isStudent : GoodIn wsX5_isAward wsX5_isStudent := goodIn_r _ [5, 6, 7, 4, 8] (by decide +kernel) (by decide +kernel)
set_option maxRecDepth 20000 in
theorem gX5_isAward_X5_isStudent : GoodIn wsX5_isAward (va_wsS RX5 107 yX5_isStudent wsX5_isStudent) := goodIn_app (goodIn_of _ (by decide +kernel)) ggX5_isAward_X5_isStudent
set_option maxRecDepth 20000 in
theorem ggX5_isAward_X5_in : GoodIn wsX5_isAward wsX5_in := goodIn_r _ [8] (by decide +kernel) (by decide +kernel)
set_option maxRecDepth 20000 in
theorem gX5_isAward_X5_in : GoodIn wsX5_isAward (va_wsS RX5 90 yX5_in wsX5_in) := goodIn_app (goodIn_of _ (by decide +kernel)) ggX5_isAward_X5_in
set_option maxRecDepth 20000 in
theorem ggX5_isAward_X5_holds : GoodIn wsX5_isAward wsX5_holds := goodIn_r _ [12, 13, 14, 15, 16, 17, 18, 19, 20, 21, 22, 23, 24, 25, 26, 27, 28, 29, 30, 31, 32, 33, 34, 35, 36, 37, 38, 39, 40, 41, 42] (by decide +kernel) (by decide +kernel)
set_option maxRecDepth 20000 in
theorem gX5_isAward_X5_holds : GoodIn wsX5_isAward (wsV RX5 95 RX5 yX5_holds wsX5_holds) := goodIn_app (goodIn_of _ (by decide +kernel)) ggX5_isAward_X5_holds
theorem dX5_isAward_0 : decode cX5_isAward 0 = .ok (.aload_n 0, 1) := by decide +kernel
theorem dX5_isAward_1 : decode cX5_isAward 1 = .ok (.iload_n 1, 1) := by decide +kernel
theorem dX5_isAward_2 : decode cX5_isAward 2 = .ok (.invokestatic 107, 3) := by decide +kernel
theorem dX5_isAward_5 : decode cX5_isAward 5 = .ok (.ifCond .eq 23, 3) := by decide +kernel
theorem dX5_isAward_8 : decode cX5_isAward 8 = .ok (.iload_n 2, 1) := by decide +kernel
theorem dX5_isAward_9 : decode cX5_isAward 9 = .ok (.iconst 0, 1) := by decide +kernel
theorem dX5_isAward_10 : decode cX5_isAward 10 = .ok (.aload_n 0, 1) := by decide +kernel
theorem dX5_isAward_11 : decode cX5_isAward 11 = .ok (.getfield 60, 3) := by decide +kernel
theorem dX5_isAward_14 : decode cX5_isAward 14 = .ok (.iload_n 1, 1) := by decide +kernel
theorem dX5_isAward_15 : decode cX5_isAward 15 = .ok (.iaload, 1) := by decide +kernel
theorem dX5_isAward_16 : decode cX5_isAward 16 = .ok (.iconst 1, 1) := by decide +kernel
theorem dX5_isAward_17 : decode cX5_isAward 17 = .ok (.isub, 1) := by decide +kernel
theorem dX5_isAward_18 : decode cX5_isAward 18 = .ok (.invokestatic 90, 3) := by decide +kernel
theorem dX5_isAward_21 : decode cX5_isAward 21 = .ok (.ifCond .eq 7, 3) := by decide +kernel
theorem dX5_isAward_24 : decode cX5_isAward 24 = .ok (.iconst 0, 1) := by decide +kernel
theorem dX5_isAward_25 : decode cX5_isAward 25 = .ok (.goto 4, 3) := by decide +kernel
theorem dX5_isAward_28 : decode cX5_isAward 28 = .ok (.iconst 1, 1) := by decide +kernel
theorem dX5_isAward_29 : decode cX5_isAward 29 = .ok (.invokevirtual 95, 3) := by decide +kernel
theorem dX5_isAward_32 : decode cX5_isAward 32 = .ok (.ireturn, 1) := by decide +kernel
set_option maxRecDepth 20000 in
theorem ggX5_used_X5_isAward : GoodIn wsX5_used wsX5_isAward := goodIn_r _ [5, 6, 7, 8, 4, 9, 10, 11, 12, 13, 14, 15, 16, 17, 64, 65, 66, 67, 68, 69, 70, 71, 72, 73, 74, 75, 76, 77, 78, 79, 80, 81, 82, 83, 84, 85, 86, 87, 88, 89, 90, 91, 92] (by decide +kernel) (by decide +kernel)
set_option maxRecDepth 20000 in
theorem gX5_used_X5_isAward : GoodIn wsX5_used (wsV RX5 158 RX5 yX5_isAward wsX5_isAward) := goodIn_app (goodIn_of _ (by decide +kernel)) ggX5_used_X5_isAward
set_option maxRecDepth 20000 in
theorem ggX5_used_X5_usedOf : GoodIn wsX5_used wsX5_usedOf := goodIn_r _ [21, 22, 6, 23, 24, 25, 26, 27, 4, 28, 29, 30, 31, 32, 33, 34, 35, 36, 37, 38, 39, 40, 41, 42, 43, 44, 45, 46, 47, 48, 49, 50, 51, 52, 53, 54, 55, 56, 57, 58, 59, 60, 61, 62, 63, 64, 65, 66, 67, 68, 69, 70, 71, 72, 73, 74, 75, 76, 77, 78, 79, 80, 81, 82, 83, 84, 85, 86, 87, 88, 89, 90, 91, 92] (by decide +kernel) (by decide +kernel)
set_option maxRecDepth 20000 in
theorem gX5_used_X5_usedOf : GoodIn wsX5_used (wsV RX5 130 RX5 yX5_usedOf wsX5_usedOf) := goodIn_app (goodIn_of _ (by decide +kernel)) ggX5_used_X5_usedOf
theorem dX5_used_0 : decode cX5_used 0 = .ok (.aload_n 0, 1) := by decide +kernel
theorem dX5_used_1 : decode cX5_used 1 = .ok (.iload_n 1, 1) := by decide +kernel
theorem dX5_used_2 : decode cX5_used 2 = .ok (.iload_n 2, 1) := by decide +kernel
theorem dX5_used_3 : decode cX5_used 3 = .ok (.invokevirtual 158, 3) := by decide +kernel
theorem dX5_used_6 : decode cX5_used 6 = .ok (.ifCond .eq 12, 3) := by decide +kernel
theorem dX5_used_9 : decode cX5_used 9 = .ok (.aload_n 0, 1) := by decide +kernel
theorem dX5_used_10 : decode cX5_used 10 = .ok (.iload_n 1, 1) := by decide +kernel
theorem dX5_used_11 : decode cX5_used 11 = .ok (.iload_n 2, 1) := by decide +kernel
theorem dX5_used_12 : decode cX5_used 12 = .ok (.invokevirtual 130, 3) := by decide +kernel
theorem dX5_used_15 : decode cX5_used 15 = .ok (.goto 4, 3) := by decide +kernel
theorem dX5_used_18 : decode cX5_used 18 = .ok (.iconst 0, 1) := by decide +kernel
theorem dX5_used_19 : decode cX5_used 19 = .ok (.ireturn, 1) := by decide +kernel
set_option maxRecDepth 20000 in
theorem ggX5_amountOf_X5_isAward : GoodIn wsX5_amountOf wsX5_isAward := goodIn_r _ [6, 7, 8, 9, 5, 10, 11, 12, 13, 14, 15, 16, 17, 18, 19, 20, 21, 22, 23, 24, 25, 26, 27, 28, 29, 30, 31, 32, 33, 34, 35, 36, 37, 38, 39, 40, 41, 42, 43, 44, 45, 46, 47] (by decide +kernel) (by decide +kernel)
set_option maxRecDepth 20000 in
theorem gX5_amountOf_X5_isAward : GoodIn wsX5_amountOf (wsV RX5 158 RX5 yX5_isAward wsX5_isAward) := goodIn_app (goodIn_of _ (by decide +kernel)) ggX5_amountOf_X5_isAward
theorem dX5_amountOf_0 : decode cX5_amountOf 0 = .ok (.aload_n 0, 1) := by decide +kernel
theorem dX5_amountOf_1 : decode cX5_amountOf 1 = .ok (.iload_n 1, 1) := by decide +kernel
theorem dX5_amountOf_2 : decode cX5_amountOf 2 = .ok (.iload_n 2, 1) := by decide +kernel
theorem dX5_amountOf_3 : decode cX5_amountOf 3 = .ok (.invokevirtual 158, 3) := by decide +kernel
theorem dX5_amountOf_6 : decode cX5_amountOf 6 = .ok (.ifCond .eq 17, 3) := by decide +kernel
theorem dX5_amountOf_9 : decode cX5_amountOf 9 = .ok (.aload_n 0, 1) := by decide +kernel
theorem dX5_amountOf_10 : decode cX5_amountOf 10 = .ok (.getfield 66, 3) := by decide +kernel
theorem dX5_amountOf_13 : decode cX5_amountOf 13 = .ok (.bipush 6, 2) := by decide +kernel
theorem dX5_amountOf_15 : decode cX5_amountOf 15 = .ok (.iload_n 1, 1) := by decide +kernel
theorem dX5_amountOf_16 : decode cX5_amountOf 16 = .ok (.imul, 1) := by decide +kernel
theorem dX5_amountOf_17 : decode cX5_amountOf 17 = .ok (.iload_n 2, 1) := by decide +kernel
theorem dX5_amountOf_18 : decode cX5_amountOf 18 = .ok (.iadd, 1) := by decide +kernel
theorem dX5_amountOf_19 : decode cX5_amountOf 19 = .ok (.iaload, 1) := by decide +kernel
theorem dX5_amountOf_20 : decode cX5_amountOf 20 = .ok (.goto 4, 3) := by decide +kernel
theorem dX5_amountOf_23 : decode cX5_amountOf 23 = .ok (.iconst 0, 1) := by decide +kernel
theorem dX5_amountOf_24 : decode cX5_amountOf 24 = .ok (.ireturn, 1) := by decide +kernel
set_option maxRecDepth 20000 in
theorem ggX5_paid_X5_isStudent : GoodIn wsX5_paid wsX5_isStudent := goodIn_r _ [5, 6, 7, 4, 8] (by decide +kernel) (by decide +kernel)
set_option maxRecDepth 20000 in
theorem gX5_paid_X5_isStudent : GoodIn wsX5_paid (va_wsS RX5 107 yX5_isStudent wsX5_isStudent) := goodIn_app (goodIn_of _ (by decide +kernel)) ggX5_paid_X5_isStudent
set_option maxRecDepth 20000 in
theorem ggX5_paid_X5_holds : GoodIn wsX5_paid wsX5_holds := goodIn_r _ [12, 13, 14, 15, 16, 17, 18, 19, 20, 21, 22, 23, 24, 25, 26, 27, 28, 29, 30, 31, 32, 33, 34, 35, 36, 37, 38, 39, 40, 41, 42] (by decide +kernel) (by decide +kernel)
set_option maxRecDepth 20000 in
theorem gX5_paid_X5_holds : GoodIn wsX5_paid (wsV RX5 95 RX5 yX5_holds wsX5_holds) := goodIn_app (goodIn_of _ (by decide +kernel)) ggX5_paid_X5_holds
theorem dX5_paid_0 : decode cX5_paid 0 = .ok (.aload_n 0, 1) := by decide +kernel
theorem dX5_paid_1 : decode cX5_paid 1 = .ok (.iload_n 1, 1) := by decide +kernel
theorem dX5_paid_2 : decode cX5_paid 2 = .ok (.invokestatic 107, 3) := by decide +kernel
theorem dX5_paid_5 : decode cX5_paid 5 = .ok (.ifCond .eq 7, 3) := by decide +kernel
theorem dX5_paid_8 : decode cX5_paid 8 = .ok (.iconst 0, 1) := by decide +kernel
theorem dX5_paid_9 : decode cX5_paid 9 = .ok (.goto 4, 3) := by decide +kernel
theorem dX5_paid_12 : decode cX5_paid 12 = .ok (.iconst 1, 1) := by decide +kernel
theorem dX5_paid_13 : decode cX5_paid 13 = .ok (.invokevirtual 95, 3) := by decide +kernel
theorem dX5_paid_16 : decode cX5_paid 16 = .ok (.ifCond .eq 12, 3) := by decide +kernel
theorem dX5_paid_19 : decode cX5_paid 19 = .ok (.aload_n 0, 1) := by decide +kernel
theorem dX5_paid_20 : decode cX5_paid 20 = .ok (.getfield 69, 3) := by decide +kernel
theorem dX5_paid_23 : decode cX5_paid 23 = .ok (.iload_n 1, 1) := by decide +kernel
theorem dX5_paid_24 : decode cX5_paid 24 = .ok (.iaload, 1) := by decide +kernel
theorem dX5_paid_25 : decode cX5_paid 25 = .ok (.goto 4, 3) := by decide +kernel
theorem dX5_paid_28 : decode cX5_paid 28 = .ok (.iconst 0, 1) := by decide +kernel
theorem dX5_paid_29 : decode cX5_paid 29 = .ok (.ireturn, 1) := by decide +kernel
set_option maxRecDepth 20000 in
theorem ggX5_owed_X5_isStudent : GoodIn wsX5_owed wsX5_isStudent := goodIn_r _ [4, 5, 6, 3, 7] (by decide +kernel) (by decide +kernel)
set_option maxRecDepth 20000 in
theorem gX5_owed_X5_isStudent : GoodIn wsX5_owed (va_wsS RX5 107 yX5_isStudent wsX5_isStudent) := goodIn_app (goodIn_of _ (by decide +kernel)) ggX5_owed_X5_isStudent
set_option maxRecDepth 20000 in
theorem ggX5_owed_X5_holds : GoodIn wsX5_owed wsX5_holds := goodIn_r _ [11, 12, 65, 66, 67, 68, 69, 70, 71, 72, 73, 74, 75, 76, 77, 78, 79, 80, 81, 82, 83, 84, 85, 86, 87, 88, 89, 90, 91, 92, 93] (by decide +kernel) (by decide +kernel)
set_option maxRecDepth 20000 in
theorem gX5_owed_X5_holds : GoodIn wsX5_owed (wsV RX5 95 RX5 yX5_holds wsX5_holds) := goodIn_app (goodIn_of _ (by decide +kernel)) ggX5_owed_X5_holds
set_option maxRecDepth 20000 in
theorem ggX5_owed_X5_owedOf : GoodIn wsX5_owed wsX5_owedOf := goodIn_r _ [16, 17, 18, 19, 20, 3, 21, 22, 23, 24, 25, 26, 27, 28, 29, 30, 31, 32, 33, 34, 35, 36, 37, 38, 39, 40, 41, 42, 43, 44, 45, 46, 47, 48, 49, 50, 51, 52, 53, 54, 55, 56, 57, 58, 59, 60, 61, 62, 63, 64, 65, 66, 67, 68, 69, 70, 71, 72, 73, 74, 75, 76, 77, 78, 79, 80, 81, 82, 83, 84, 85, 86, 87, 88, 89, 90, 91, 92, 93] (by decide +kernel) (by decide +kernel)
set_option maxRecDepth 20000 in
theorem gX5_owed_X5_owedOf : GoodIn wsX5_owed (wsV RX5 141 RX5 yX5_owedOf wsX5_owedOf) := goodIn_app (goodIn_of _ (by decide +kernel)) ggX5_owed_X5_owedOf
theorem dX5_owed_0 : decode cX5_owed 0 = .ok (.aload_n 0, 1) := by decide +kernel
theorem dX5_owed_1 : decode cX5_owed 1 = .ok (.iload_n 1, 1) := by decide +kernel
theorem dX5_owed_2 : decode cX5_owed 2 = .ok (.invokestatic 107, 3) := by decide +kernel
theorem dX5_owed_5 : decode cX5_owed 5 = .ok (.ifCond .eq 7, 3) := by decide +kernel
theorem dX5_owed_8 : decode cX5_owed 8 = .ok (.iconst 0, 1) := by decide +kernel
theorem dX5_owed_9 : decode cX5_owed 9 = .ok (.goto 4, 3) := by decide +kernel
theorem dX5_owed_12 : decode cX5_owed 12 = .ok (.iconst 1, 1) := by decide +kernel
theorem dX5_owed_13 : decode cX5_owed 13 = .ok (.invokevirtual 95, 3) := by decide +kernel
theorem dX5_owed_16 : decode cX5_owed 16 = .ok (.ifCond .eq 11, 3) := by decide +kernel
theorem dX5_owed_19 : decode cX5_owed 19 = .ok (.aload_n 0, 1) := by decide +kernel
theorem dX5_owed_20 : decode cX5_owed 20 = .ok (.iload_n 1, 1) := by decide +kernel
theorem dX5_owed_21 : decode cX5_owed 21 = .ok (.invokevirtual 141, 3) := by decide +kernel
theorem dX5_owed_24 : decode cX5_owed 24 = .ok (.goto 4, 3) := by decide +kernel
theorem dX5_owed_27 : decode cX5_owed 27 = .ok (.iconst 0, 1) := by decide +kernel
theorem dX5_owed_28 : decode cX5_owed 28 = .ok (.ireturn, 1) := by decide +kernel
set_option maxRecDepth 20000 in
theorem ggX5_hasHold_X5_isStudent : GoodIn wsX5_hasHold wsX5_isStudent := goodIn_r _ [5, 6, 7, 4, 8] (by decide +kernel) (by decide +kernel)
set_option maxRecDepth 20000 in
theorem gX5_hasHold_X5_isStudent : GoodIn wsX5_hasHold (va_wsS RX5 107 yX5_isStudent wsX5_isStudent) := goodIn_app (goodIn_of _ (by decide +kernel)) ggX5_hasHold_X5_isStudent
set_option maxRecDepth 20000 in
theorem ggX5_hasHold_X5_holds : GoodIn wsX5_hasHold wsX5_holds := goodIn_r _ [12, 13, 66, 67, 68, 69, 70, 71, 72, 73, 74, 75, 76, 77, 78, 79, 80, 81, 82, 83, 84, 85, 86, 87, 88, 89, 90, 91, 92, 93, 94] (by decide +kernel) (by decide +kernel)
set_option maxRecDepth 20000 in
theorem gX5_hasHold_X5_holds : GoodIn wsX5_hasHold (wsV RX5 95 RX5 yX5_holds wsX5_holds) := goodIn_app (goodIn_of _ (by decide +kernel)) ggX5_hasHold_X5_holds
set_option maxRecDepth 20000 in
theorem ggX5_hasHold_X5_owedOf : GoodIn wsX5_hasHold wsX5_owedOf := goodIn_r _ [17, 18, 19, 20, 21, 4, 22, 23, 24, 25, 26, 27, 28, 29, 30, 31, 32, 33, 34, 35, 36, 37, 38, 39, 40, 41, 42, 43, 44, 45, 46, 47, 48, 49, 50, 51, 52, 53, 54, 55, 56, 57, 58, 59, 60, 61, 62, 63, 64, 65, 66, 67, 68, 69, 70, 71, 72, 73, 74, 75, 76, 77, 78, 79, 80, 81, 82, 83, 84, 85, 86, 87, 88, 89, 90, 91, 92, 93, 94] (by decide +kernel) (by decide +kernel)
set_option maxRecDepth 20000 in
theorem gX5_hasHold_X5_owedOf : GoodIn wsX5_hasHold (wsV RX5 141 RX5 yX5_owedOf wsX5_owedOf) := goodIn_app (goodIn_of _ (by decide +kernel)) ggX5_hasHold_X5_owedOf
theorem dX5_hasHold_0 : decode cX5_hasHold 0 = .ok (.aload_n 0, 1) := by decide +kernel
theorem dX5_hasHold_1 : decode cX5_hasHold 1 = .ok (.iload_n 1, 1) := by decide +kernel
theorem dX5_hasHold_2 : decode cX5_hasHold 2 = .ok (.invokestatic 107, 3) := by decide +kernel
theorem dX5_hasHold_5 : decode cX5_hasHold 5 = .ok (.ifCond .eq 7, 3) := by decide +kernel
theorem dX5_hasHold_8 : decode cX5_hasHold 8 = .ok (.iconst 0, 1) := by decide +kernel
theorem dX5_hasHold_9 : decode cX5_hasHold 9 = .ok (.goto 4, 3) := by decide +kernel
theorem dX5_hasHold_12 : decode cX5_hasHold 12 = .ok (.iconst 1, 1) := by decide +kernel
theorem dX5_hasHold_13 : decode cX5_hasHold 13 = .ok (.invokevirtual 95, 3) := by decide +kernel
theorem dX5_hasHold_16 : decode cX5_hasHold 16 = .ok (.ifCond .eq 19, 3) := by decide +kernel
theorem dX5_hasHold_19 : decode cX5_hasHold 19 = .ok (.aload_n 0, 1) := by decide +kernel
theorem dX5_hasHold_20 : decode cX5_hasHold 20 = .ok (.iload_n 1, 1) := by decide +kernel
theorem dX5_hasHold_21 : decode cX5_hasHold 21 = .ok (.invokevirtual 141, 3) := by decide +kernel
theorem dX5_hasHold_24 : decode cX5_hasHold 24 = .ok (.aload_n 0, 1) := by decide +kernel
theorem dX5_hasHold_25 : decode cX5_hasHold 25 = .ok (.getfield 104, 3) := by decide +kernel
theorem dX5_hasHold_28 : decode cX5_hasHold 28 = .ok (.if_icmp .le 7, 3) := by decide +kernel
theorem dX5_hasHold_31 : decode cX5_hasHold 31 = .ok (.iconst 1, 1) := by decide +kernel
theorem dX5_hasHold_32 : decode cX5_hasHold 32 = .ok (.goto 4, 3) := by decide +kernel
theorem dX5_hasHold_35 : decode cX5_hasHold 35 = .ok (.iconst 0, 1) := by decide +kernel
theorem dX5_hasHold_36 : decode cX5_hasHold 36 = .ok (.ireturn, 1) := by decide +kernel
theorem dJ9_max_7cf53_0 : decode cJ9_max_7cf53 0 = .ok (.iload_n 0, 1) := by decide +kernel
theorem dJ9_max_7cf53_1 : decode cJ9_max_7cf53 1 = .ok (.iload_n 1, 1) := by decide +kernel
theorem dJ9_max_7cf53_2 : decode cJ9_max_7cf53 2 = .ok (.if_icmp .lt 7, 3) := by decide +kernel
theorem dJ9_max_7cf53_5 : decode cJ9_max_7cf53 5 = .ok (.iload_n 0, 1) := by decide +kernel
theorem dJ9_max_7cf53_6 : decode cJ9_max_7cf53 6 = .ok (.goto 4, 3) := by decide +kernel
theorem dJ9_max_7cf53_9 : decode cJ9_max_7cf53 9 = .ok (.iload_n 1, 1) := by decide +kernel
theorem dJ9_max_7cf53_10 : decode cJ9_max_7cf53 10 = .ok (.ireturn, 1) := by decide +kernel
theorem dJ9_min_7cf53_0 : decode cJ9_min_7cf53 0 = .ok (.iload_n 0, 1) := by decide +kernel
theorem dJ9_min_7cf53_1 : decode cJ9_min_7cf53 1 = .ok (.iload_n 1, 1) := by decide +kernel
theorem dJ9_min_7cf53_2 : decode cJ9_min_7cf53 2 = .ok (.if_icmp .gt 7, 3) := by decide +kernel
theorem dJ9_min_7cf53_5 : decode cJ9_min_7cf53 5 = .ok (.iload_n 0, 1) := by decide +kernel
theorem dJ9_min_7cf53_6 : decode cJ9_min_7cf53 6 = .ok (.goto 4, 3) := by decide +kernel
theorem dJ9_min_7cf53_9 : decode cJ9_min_7cf53 9 = .ok (.iload_n 1, 1) := by decide +kernel
theorem dJ9_min_7cf53_10 : decode cJ9_min_7cf53 10 = .ok (.ireturn, 1) := by decide +kernel
theorem dJ7_fill_53178_0 : decode cJ7_fill_53178 0 = .ok (.iconst 0, 1) := by decide +kernel
theorem dJ7_fill_53178_1 : decode cJ7_fill_53178 1 = .ok (.istore_n 2, 1) := by decide +kernel
theorem dJ7_fill_53178_2 : decode cJ7_fill_53178 2 = .ok (.aload_n 0, 1) := by decide +kernel
theorem dJ7_fill_53178_3 : decode cJ7_fill_53178 3 = .ok (.arraylength, 1) := by decide +kernel
theorem dJ7_fill_53178_4 : decode cJ7_fill_53178 4 = .ok (.istore_n 3, 1) := by decide +kernel
theorem dJ7_fill_53178_5 : decode cJ7_fill_53178 5 = .ok (.iload_n 2, 1) := by decide +kernel
theorem dJ7_fill_53178_6 : decode cJ7_fill_53178 6 = .ok (.iload_n 3, 1) := by decide +kernel
theorem dJ7_fill_53178_7 : decode cJ7_fill_53178 7 = .ok (.if_icmp .ge 13, 3) := by decide +kernel
theorem dJ7_fill_53178_10 : decode cJ7_fill_53178 10 = .ok (.aload_n 0, 1) := by decide +kernel
theorem dJ7_fill_53178_11 : decode cJ7_fill_53178 11 = .ok (.iload_n 2, 1) := by decide +kernel
theorem dJ7_fill_53178_12 : decode cJ7_fill_53178 12 = .ok (.iload_n 1, 1) := by decide +kernel
theorem dJ7_fill_53178_13 : decode cJ7_fill_53178 13 = .ok (.iastore, 1) := by decide +kernel
theorem dJ7_fill_53178_14 : decode cJ7_fill_53178 14 = .ok (.iinc 2 1, 3) := by decide +kernel
theorem dJ7_fill_53178_17 : decode cJ7_fill_53178 17 = .ok (.goto (-12), 3) := by decide +kernel
theorem dJ7_fill_53178_20 : decode cJ7_fill_53178 20 = .ok (.return_, 1) := by decide +kernel
end
section
set_option maxRecDepth 20000 in
theorem ggL_setRate_X4_setRate : GoodIn wsL_setRate wsX4_setRate := goodIn_ca (goodIn_r _ [6, 7, 8, 9, 10, 11, 12, 5, 13, 14, 15, 16, 17, 18, 19, 20, 21, 22, 23, 24, 25] (by decide +kernel) (by decide +kernel)) (goodIn_sub (fun _ h => List.mem_cons_of_mem _ (List.mem_append_right _ h)) (by decide +kernel))
set_option maxRecDepth 20000 in
theorem gL_setRate_X4_setRate : GoodIn wsL_setRate (wsV RL 7 RX4 yX4_setRate wsX4_setRate) := goodIn_app (goodIn_of _ (by decide +kernel)) ggL_setRate_X4_setRate
theorem dL_setRate_0 : decode cL_setRate 0 = .ok (.aload 4, 2) := by decide +kernel
theorem dL_setRate_2 : decode cL_setRate 2 = .ok (.iconst 0, 1) := by decide +kernel
theorem dL_setRate_3 : decode cL_setRate 3 = .ok (.aload_n 0, 1) := by decide +kernel
theorem dL_setRate_4 : decode cL_setRate 4 = .ok (.iload_n 1, 1) := by decide +kernel
theorem dL_setRate_5 : decode cL_setRate 5 = .ok (.iload_n 2, 1) := by decide +kernel
theorem dL_setRate_6 : decode cL_setRate 6 = .ok (.iload_n 3, 1) := by decide +kernel
theorem dL_setRate_7 : decode cL_setRate 7 = .ok (.invokevirtual 7, 3) := by decide +kernel
theorem dL_setRate_10 : decode cL_setRate 10 = .ok (.i2l, 1) := by decide +kernel
theorem dL_setRate_11 : decode cL_setRate 11 = .ok (.lastore, 1) := by decide +kernel
theorem dL_setRate_12 : decode cL_setRate 12 = .ok (.goto 7, 3) := by decide +kernel
theorem dL_setRate_15 : decode cL_setRate 15 = .ok (.astore 5, 2) := by decide +kernel
theorem dL_setRate_17 : decode cL_setRate 17 = .ok (.iconst 1, 1) := by decide +kernel
theorem dL_setRate_18 : decode cL_setRate 18 = .ok (.ireturn, 1) := by decide +kernel
theorem dL_setRate_19 : decode cL_setRate 19 = .ok (.iconst 0, 1) := by decide +kernel
theorem dL_setRate_20 : decode cL_setRate 20 = .ok (.ireturn, 1) := by decide +kernel
set_option maxRecDepth 20000 in
theorem ggL_setBand_X4_setBand : GoodIn wsL_setBand wsX4_setBand := goodIn_ca (goodIn_r _ [6, 7, 8, 9, 10, 11, 12, 5, 13, 14, 15, 16, 17, 18, 19, 20, 21, 22] (by decide +kernel) (by decide +kernel)) (goodIn_sub (fun _ h => List.mem_cons_of_mem _ (List.mem_append_right _ h)) (by decide +kernel))
set_option maxRecDepth 20000 in
theorem gL_setBand_X4_setBand : GoodIn wsL_setBand (wsV RL 15 RX4 yX4_setBand wsX4_setBand) := goodIn_app (goodIn_of _ (by decide +kernel)) ggL_setBand_X4_setBand
theorem dL_setBand_0 : decode cL_setBand 0 = .ok (.aload_n 0, 1) := by decide +kernel
theorem dL_setBand_1 : decode cL_setBand 1 = .ok (.iload_n 1, 1) := by decide +kernel
theorem dL_setBand_2 : decode cL_setBand 2 = .ok (.iload_n 2, 1) := by decide +kernel
theorem dL_setBand_3 : decode cL_setBand 3 = .ok (.invokevirtual 15, 3) := by decide +kernel
theorem dL_setBand_6 : decode cL_setBand 6 = .ok (.goto 6, 3) := by decide +kernel
theorem dL_setBand_9 : decode cL_setBand 9 = .ok (.astore_n 3, 1) := by decide +kernel
theorem dL_setBand_10 : decode cL_setBand 10 = .ok (.iconst 1, 1) := by decide +kernel
theorem dL_setBand_11 : decode cL_setBand 11 = .ok (.ireturn, 1) := by decide +kernel
theorem dL_setBand_12 : decode cL_setBand 12 = .ok (.iconst 0, 1) := by decide +kernel
theorem dL_setBand_13 : decode cL_setBand 13 = .ok (.ireturn, 1) := by decide +kernel
set_option maxRecDepth 20000 in
theorem ggL_setShare_X4_setShare : GoodIn wsL_setShare wsX4_setShare := goodIn_ca (goodIn_r _ [6, 7, 8, 9, 10, 11, 5, 12, 13, 14, 15, 16, 17, 18, 19, 20, 21] (by decide +kernel) (by decide +kernel)) (goodIn_sub (fun _ h => List.mem_cons_of_mem _ (List.mem_append_right _ h)) (by decide +kernel))
set_option maxRecDepth 20000 in
theorem gL_setShare_X4_setShare : GoodIn wsL_setShare (wsV RL 19 RX4 yX4_setShare wsX4_setShare) := goodIn_app (goodIn_of _ (by decide +kernel)) ggL_setShare_X4_setShare
theorem dL_setShare_0 : decode cL_setShare 0 = .ok (.aload_n 3, 1) := by decide +kernel
theorem dL_setShare_1 : decode cL_setShare 1 = .ok (.iconst 0, 1) := by decide +kernel
theorem dL_setShare_2 : decode cL_setShare 2 = .ok (.aload_n 0, 1) := by decide +kernel
theorem dL_setShare_3 : decode cL_setShare 3 = .ok (.iload_n 1, 1) := by decide +kernel
theorem dL_setShare_4 : decode cL_setShare 4 = .ok (.iload_n 2, 1) := by decide +kernel
theorem dL_setShare_5 : decode cL_setShare 5 = .ok (.invokevirtual 19, 3) := by decide +kernel
theorem dL_setShare_8 : decode cL_setShare 8 = .ok (.i2l, 1) := by decide +kernel
theorem dL_setShare_9 : decode cL_setShare 9 = .ok (.lastore, 1) := by decide +kernel
theorem dL_setShare_10 : decode cL_setShare 10 = .ok (.goto 7, 3) := by decide +kernel
theorem dL_setShare_13 : decode cL_setShare 13 = .ok (.astore 4, 2) := by decide +kernel
theorem dL_setShare_15 : decode cL_setShare 15 = .ok (.iconst 1, 1) := by decide +kernel
theorem dL_setShare_16 : decode cL_setShare 16 = .ok (.ireturn, 1) := by decide +kernel
theorem dL_setShare_17 : decode cL_setShare 17 = .ok (.iconst 0, 1) := by decide +kernel
theorem dL_setShare_18 : decode cL_setShare 18 = .ok (.ireturn, 1) := by decide +kernel
set_option maxRecDepth 20000 in
theorem ggL_setFees_X4_setFees : GoodIn wsL_setFees wsX4_setFees := goodIn_ca (goodIn_r _ [6, 7, 8, 9, 10, 11, 12, 13, 14, 5, 15, 16, 17, 18, 19, 20, 21, 22, 23, 24] (by decide +kernel) (by decide +kernel)) (goodIn_sub (fun _ h => List.mem_cons_of_mem _ (List.mem_append_right _ h)) (by decide +kernel))
set_option maxRecDepth 20000 in
theorem gL_setFees_X4_setFees : GoodIn wsL_setFees (wsV RL 23 RX4 yX4_setFees wsX4_setFees) := goodIn_app (goodIn_of _ (by decide +kernel)) ggL_setFees_X4_setFees
theorem dL_setFees_0 : decode cL_setFees 0 = .ok (.aload_n 0, 1) := by decide +kernel
theorem dL_setFees_1 : decode cL_setFees 1 = .ok (.iload_n 1, 1) := by decide +kernel
theorem dL_setFees_2 : decode cL_setFees 2 = .ok (.iload_n 2, 1) := by decide +kernel
theorem dL_setFees_3 : decode cL_setFees 3 = .ok (.invokevirtual 23, 3) := by decide +kernel
theorem dL_setFees_6 : decode cL_setFees 6 = .ok (.goto 6, 3) := by decide +kernel
theorem dL_setFees_9 : decode cL_setFees 9 = .ok (.astore_n 3, 1) := by decide +kernel
theorem dL_setFees_10 : decode cL_setFees 10 = .ok (.iconst 1, 1) := by decide +kernel
theorem dL_setFees_11 : decode cL_setFees 11 = .ok (.ireturn, 1) := by decide +kernel
theorem dL_setFees_12 : decode cL_setFees 12 = .ok (.iconst 0, 1) := by decide +kernel
theorem dL_setFees_13 : decode cL_setFees 13 = .ok (.ireturn, 1) := by decide +kernel
set_option maxRecDepth 20000 in
theorem ggL_setStudent_X4_setStudent : GoodIn wsL_setStudent wsX4_setStudent := goodIn_ca (goodIn_ca (goodIn_r _ [7, 8, 9, 10, 11, 12, 13, 14, 15, 16, 6, 17, 18, 19, 20, 21, 22, 23, 24, 25, 26, 27, 28, 29, 30, 31, 32, 33, 34, 35, 36, 37, 38, 39, 40, 41, 42, 43] (by decide +kernel) (by decide +kernel)) (goodIn_sub (fun _ h => List.mem_cons_of_mem _ (List.mem_append_left _ (List.mem_append_right _ h))) (by decide +kernel))) (goodIn_sub (fun _ h => List.mem_cons_of_mem _ (List.mem_append_right _ h)) (by decide +kernel))
set_option maxRecDepth 20000 in
theorem gL_setStudent_X4_setStudent : GoodIn wsL_setStudent (wsV RL 26 RX4 yX4_setStudent wsX4_setStudent) := goodIn_app (goodIn_of _ (by decide +kernel)) ggL_setStudent_X4_setStudent
theorem dL_setStudent_0 : decode cL_setStudent 0 = .ok (.aload_n 0, 1) := by decide +kernel
theorem dL_setStudent_1 : decode cL_setStudent 1 = .ok (.iload_n 1, 1) := by decide +kernel
theorem dL_setStudent_2 : decode cL_setStudent 2 = .ok (.iload_n 2, 1) := by decide +kernel
theorem dL_setStudent_3 : decode cL_setStudent 3 = .ok (.iload_n 3, 1) := by decide +kernel
theorem dL_setStudent_4 : decode cL_setStudent 4 = .ok (.iload 4, 2) := by decide +kernel
theorem dL_setStudent_6 : decode cL_setStudent 6 = .ok (.invokevirtual 26, 3) := by decide +kernel
theorem dL_setStudent_9 : decode cL_setStudent 9 = .ok (.goto 11, 3) := by decide +kernel
theorem dL_setStudent_12 : decode cL_setStudent 12 = .ok (.astore 5, 2) := by decide +kernel
theorem dL_setStudent_14 : decode cL_setStudent 14 = .ok (.iconst 1, 1) := by decide +kernel
theorem dL_setStudent_15 : decode cL_setStudent 15 = .ok (.ireturn, 1) := by decide +kernel
theorem dL_setStudent_16 : decode cL_setStudent 16 = .ok (.astore 5, 2) := by decide +kernel
theorem dL_setStudent_18 : decode cL_setStudent 18 = .ok (.iconst 2, 1) := by decide +kernel
theorem dL_setStudent_19 : decode cL_setStudent 19 = .ok (.ireturn, 1) := by decide +kernel
theorem dL_setStudent_20 : decode cL_setStudent 20 = .ok (.iconst 0, 1) := by decide +kernel
theorem dL_setStudent_21 : decode cL_setStudent 21 = .ok (.ireturn, 1) := by decide +kernel
set_option maxRecDepth 20000 in
theorem ggL_setSponsor_X4_setSponsor : GoodIn wsL_setSponsor wsX4_setSponsor := goodIn_ca (goodIn_ca (goodIn_r _ [7, 8, 9, 10, 11, 12, 13, 14, 15, 6, 16, 17, 18, 19, 20, 21, 22, 23, 24, 25, 26, 27, 28, 29, 30, 31, 32, 33, 34, 35, 36, 37, 38, 39, 40, 41, 42] (by decide +kernel) (by decide +kernel)) (goodIn_sub (fun _ h => List.mem_cons_of_mem _ (List.mem_append_left _ (List.mem_append_right _ h))) (by decide +kernel))) (goodIn_sub (fun _ h => List.mem_cons_of_mem _ (List.mem_append_right _ h)) (by decide +kernel))
set_option maxRecDepth 20000 in
theorem gL_setSponsor_X4_setSponsor : GoodIn wsL_setSponsor (wsV RL 32 RX4 yX4_setSponsor wsX4_setSponsor) := goodIn_app (goodIn_of _ (by decide +kernel)) ggL_setSponsor_X4_setSponsor
theorem dL_setSponsor_0 : decode cL_setSponsor 0 = .ok (.aload_n 0, 1) := by decide +kernel
theorem dL_setSponsor_1 : decode cL_setSponsor 1 = .ok (.iload_n 1, 1) := by decide +kernel
theorem dL_setSponsor_2 : decode cL_setSponsor 2 = .ok (.iload_n 2, 1) := by decide +kernel
theorem dL_setSponsor_3 : decode cL_setSponsor 3 = .ok (.iload_n 3, 1) := by decide +kernel
theorem dL_setSponsor_4 : decode cL_setSponsor 4 = .ok (.invokevirtual 32, 3) := by decide +kernel
theorem dL_setSponsor_7 : decode cL_setSponsor 7 = .ok (.goto 11, 3) := by decide +kernel
theorem dL_setSponsor_10 : decode cL_setSponsor 10 = .ok (.astore 4, 2) := by decide +kernel
theorem dL_setSponsor_12 : decode cL_setSponsor 12 = .ok (.iconst 1, 1) := by decide +kernel
theorem dL_setSponsor_13 : decode cL_setSponsor 13 = .ok (.ireturn, 1) := by decide +kernel
theorem dL_setSponsor_14 : decode cL_setSponsor 14 = .ok (.astore 4, 2) := by decide +kernel
theorem dL_setSponsor_16 : decode cL_setSponsor 16 = .ok (.iconst 2, 1) := by decide +kernel
theorem dL_setSponsor_17 : decode cL_setSponsor 17 = .ok (.ireturn, 1) := by decide +kernel
theorem dL_setSponsor_18 : decode cL_setSponsor 18 = .ok (.iconst 0, 1) := by decide +kernel
theorem dL_setSponsor_19 : decode cL_setSponsor 19 = .ok (.ireturn, 1) := by decide +kernel
set_option maxRecDepth 20000 in
theorem ggL_take_X4_take : GoodIn wsL_take wsX4_take := goodIn_ca (goodIn_ca (goodIn_ca (goodIn_r _ [8, 9, 10, 11, 12, 13, 14, 15, 16, 7, 17, 18, 19, 20, 21, 22, 23, 24, 25, 26, 27, 28, 29, 30, 31, 32, 33, 34, 35, 36, 37, 38, 39, 40, 41, 42, 43, 44, 45, 46, 47, 48, 49, 50, 51, 52, 53] (by decide +kernel) (by decide +kernel)) (goodIn_sub (fun _ h => List.mem_cons_of_mem _ (List.mem_append_left _ (List.mem_append_left _ (List.mem_append_right _ h)))) (by decide +kernel))) (goodIn_sub (fun _ h => List.mem_cons_of_mem _ (List.mem_append_left _ (List.mem_append_right _ h))) (by decide +kernel))) (goodIn_sub (fun _ h => List.mem_cons_of_mem _ (List.mem_append_right _ h)) (by decide +kernel))
set_option maxRecDepth 20000 in
theorem gL_take_X4_take : GoodIn wsL_take (wsV RL 36 RX4 yX4_take wsX4_take) := goodIn_app (goodIn_of _ (by decide +kernel)) ggL_take_X4_take
theorem dL_take_0 : decode cL_take 0 = .ok (.aload_n 3, 1) := by decide +kernel
theorem dL_take_1 : decode cL_take 1 = .ok (.iconst 0, 1) := by decide +kernel
theorem dL_take_2 : decode cL_take 2 = .ok (.aload_n 0, 1) := by decide +kernel
theorem dL_take_3 : decode cL_take 3 = .ok (.iload_n 1, 1) := by decide +kernel
theorem dL_take_4 : decode cL_take 4 = .ok (.iload_n 2, 1) := by decide +kernel
theorem dL_take_5 : decode cL_take 5 = .ok (.invokevirtual 36, 3) := by decide +kernel
theorem dL_take_8 : decode cL_take 8 = .ok (.i2l, 1) := by decide +kernel
theorem dL_take_9 : decode cL_take 9 = .ok (.lastore, 1) := by decide +kernel
theorem dL_take_10 : decode cL_take 10 = .ok (.goto 15, 3) := by decide +kernel
theorem dL_take_13 : decode cL_take 13 = .ok (.astore 4, 2) := by decide +kernel
theorem dL_take_15 : decode cL_take 15 = .ok (.iconst 1, 1) := by decide +kernel
theorem dL_take_16 : decode cL_take 16 = .ok (.ireturn, 1) := by decide +kernel
theorem dL_take_17 : decode cL_take 17 = .ok (.astore 4, 2) := by decide +kernel
theorem dL_take_19 : decode cL_take 19 = .ok (.iconst 2, 1) := by decide +kernel
theorem dL_take_20 : decode cL_take 20 = .ok (.ireturn, 1) := by decide +kernel
theorem dL_take_21 : decode cL_take 21 = .ok (.astore 4, 2) := by decide +kernel
theorem dL_take_23 : decode cL_take 23 = .ok (.iconst 3, 1) := by decide +kernel
theorem dL_take_24 : decode cL_take 24 = .ok (.ireturn, 1) := by decide +kernel
theorem dL_take_25 : decode cL_take 25 = .ok (.iconst 0, 1) := by decide +kernel
theorem dL_take_26 : decode cL_take 26 = .ok (.ireturn, 1) := by decide +kernel
set_option maxRecDepth 20000 in
theorem ggL_drop_X4_drop : GoodIn wsL_drop wsX4_drop := goodIn_ca (goodIn_ca (goodIn_r _ [7, 8, 9, 10, 11, 12, 13, 14, 15, 6, 16, 17, 18, 19, 20, 21, 22, 23, 24, 25, 26, 27, 28, 29, 30, 31, 32, 33, 34, 35, 36, 37, 38, 39, 40, 41, 42, 43, 44, 45, 46, 47, 48, 49, 50, 51, 52, 53, 54, 55, 56, 57, 58, 59, 60, 61, 62, 63, 64, 65, 66, 67, 68, 69, 70, 71, 72, 73, 74, 75, 76, 77, 78, 79, 80, 81, 82, 83, 84, 85, 86] (by decide +kernel) (by decide +kernel)) (goodIn_sub (fun _ h => List.mem_cons_of_mem _ (List.mem_append_left _ (List.mem_append_right _ h))) (by decide +kernel))) (goodIn_sub (fun _ h => List.mem_cons_of_mem _ (List.mem_append_right _ h)) (by decide +kernel))
set_option maxRecDepth 20000 in
theorem gL_drop_X4_drop : GoodIn wsL_drop (wsV RL 41 RX4 yX4_drop wsX4_drop) := goodIn_app (goodIn_of _ (by decide +kernel)) ggL_drop_X4_drop
theorem dL_drop_0 : decode cL_drop 0 = .ok (.aload_n 3, 1) := by decide +kernel
theorem dL_drop_1 : decode cL_drop 1 = .ok (.iconst 0, 1) := by decide +kernel
theorem dL_drop_2 : decode cL_drop 2 = .ok (.aload_n 0, 1) := by decide +kernel
theorem dL_drop_3 : decode cL_drop 3 = .ok (.iload_n 1, 1) := by decide +kernel
theorem dL_drop_4 : decode cL_drop 4 = .ok (.iload_n 2, 1) := by decide +kernel
theorem dL_drop_5 : decode cL_drop 5 = .ok (.invokevirtual 41, 3) := by decide +kernel
theorem dL_drop_8 : decode cL_drop 8 = .ok (.i2l, 1) := by decide +kernel
theorem dL_drop_9 : decode cL_drop 9 = .ok (.lastore, 1) := by decide +kernel
theorem dL_drop_10 : decode cL_drop 10 = .ok (.goto 11, 3) := by decide +kernel
theorem dL_drop_13 : decode cL_drop 13 = .ok (.astore 4, 2) := by decide +kernel
theorem dL_drop_15 : decode cL_drop 15 = .ok (.iconst 1, 1) := by decide +kernel
theorem dL_drop_16 : decode cL_drop 16 = .ok (.ireturn, 1) := by decide +kernel
theorem dL_drop_17 : decode cL_drop 17 = .ok (.astore 4, 2) := by decide +kernel
theorem dL_drop_19 : decode cL_drop 19 = .ok (.iconst 2, 1) := by decide +kernel
theorem dL_drop_20 : decode cL_drop 20 = .ok (.ireturn, 1) := by decide +kernel
theorem dL_drop_21 : decode cL_drop 21 = .ok (.iconst 0, 1) := by decide +kernel
theorem dL_drop_22 : decode cL_drop 22 = .ok (.ireturn, 1) := by decide +kernel
set_option maxRecDepth 20000 in
theorem ggL_charge_X4_charge : GoodIn wsL_charge wsX4_charge := goodIn_ca (goodIn_ca (goodIn_r _ [7, 8, 9, 10, 11, 12, 13, 14, 15, 6, 16, 17, 18, 19, 20, 21, 22, 23, 24, 25, 26, 27, 28, 29, 30, 31, 32, 33, 34, 35, 36, 37, 38, 39, 40, 41, 42] (by decide +kernel) (by decide +kernel)) (goodIn_sub (fun _ h => List.mem_cons_of_mem _ (List.mem_append_left _ (List.mem_append_right _ h))) (by decide +kernel))) (goodIn_sub (fun _ h => List.mem_cons_of_mem _ (List.mem_append_right _ h)) (by decide +kernel))
set_option maxRecDepth 20000 in
theorem gL_charge_X4_charge : GoodIn wsL_charge (wsV RL 44 RX4 yX4_charge wsX4_charge) := goodIn_app (goodIn_of _ (by decide +kernel)) ggL_charge_X4_charge
theorem dL_charge_0 : decode cL_charge 0 = .ok (.aload 4, 2) := by decide +kernel
theorem dL_charge_2 : decode cL_charge 2 = .ok (.iconst 0, 1) := by decide +kernel
theorem dL_charge_3 : decode cL_charge 3 = .ok (.aload_n 0, 1) := by decide +kernel
theorem dL_charge_4 : decode cL_charge 4 = .ok (.iload_n 1, 1) := by decide +kernel
theorem dL_charge_5 : decode cL_charge 5 = .ok (.iload_n 2, 1) := by decide +kernel
theorem dL_charge_6 : decode cL_charge 6 = .ok (.iload_n 3, 1) := by decide +kernel
theorem dL_charge_7 : decode cL_charge 7 = .ok (.invokevirtual 44, 3) := by decide +kernel
theorem dL_charge_10 : decode cL_charge 10 = .ok (.i2l, 1) := by decide +kernel
theorem dL_charge_11 : decode cL_charge 11 = .ok (.lastore, 1) := by decide +kernel
theorem dL_charge_12 : decode cL_charge 12 = .ok (.goto 11, 3) := by decide +kernel
theorem dL_charge_15 : decode cL_charge 15 = .ok (.astore 5, 2) := by decide +kernel
theorem dL_charge_17 : decode cL_charge 17 = .ok (.iconst 1, 1) := by decide +kernel
theorem dL_charge_18 : decode cL_charge 18 = .ok (.ireturn, 1) := by decide +kernel
theorem dL_charge_19 : decode cL_charge 19 = .ok (.astore 5, 2) := by decide +kernel
theorem dL_charge_21 : decode cL_charge 21 = .ok (.iconst 2, 1) := by decide +kernel
theorem dL_charge_22 : decode cL_charge 22 = .ok (.ireturn, 1) := by decide +kernel
theorem dL_charge_23 : decode cL_charge 23 = .ok (.iconst 0, 1) := by decide +kernel
theorem dL_charge_24 : decode cL_charge 24 = .ok (.ireturn, 1) := by decide +kernel
set_option maxRecDepth 20000 in
theorem ggL_award_X4_award : GoodIn wsL_award wsX4_award := goodIn_ca (goodIn_ca (goodIn_ca (goodIn_r _ [8, 9, 10, 11, 12, 13, 14, 15, 16, 17, 7, 18, 19, 20, 21, 22, 23, 24, 25, 26, 27, 28, 29, 30, 31, 32, 33, 34, 35, 36, 37, 38, 39, 40, 41, 42, 43, 44, 45, 46, 47, 48, 49, 50, 51, 52, 53, 54, 55, 56] (by decide +kernel) (by decide +kernel)) (goodIn_sub (fun _ h => List.mem_cons_of_mem _ (List.mem_append_left _ (List.mem_append_left _ (List.mem_append_right _ h)))) (by decide +kernel))) (goodIn_sub (fun _ h => List.mem_cons_of_mem _ (List.mem_append_left _ (List.mem_append_right _ h))) (by decide +kernel))) (goodIn_sub (fun _ h => List.mem_cons_of_mem _ (List.mem_append_right _ h)) (by decide +kernel))
set_option maxRecDepth 20000 in
theorem gL_award_X4_award : GoodIn wsL_award (wsV RL 48 RX4 yX4_award wsX4_award) := goodIn_app (goodIn_of _ (by decide +kernel)) ggL_award_X4_award
theorem dL_award_0 : decode cL_award 0 = .ok (.aload 4, 2) := by decide +kernel
theorem dL_award_2 : decode cL_award 2 = .ok (.iconst 0, 1) := by decide +kernel
theorem dL_award_3 : decode cL_award 3 = .ok (.aload_n 0, 1) := by decide +kernel
theorem dL_award_4 : decode cL_award 4 = .ok (.iload_n 1, 1) := by decide +kernel
theorem dL_award_5 : decode cL_award 5 = .ok (.iload_n 2, 1) := by decide +kernel
theorem dL_award_6 : decode cL_award 6 = .ok (.iload_n 3, 1) := by decide +kernel
theorem dL_award_7 : decode cL_award 7 = .ok (.invokevirtual 48, 3) := by decide +kernel
theorem dL_award_10 : decode cL_award 10 = .ok (.i2l, 1) := by decide +kernel
theorem dL_award_11 : decode cL_award 11 = .ok (.lastore, 1) := by decide +kernel
theorem dL_award_12 : decode cL_award 12 = .ok (.goto 15, 3) := by decide +kernel
theorem dL_award_15 : decode cL_award 15 = .ok (.astore 5, 2) := by decide +kernel
theorem dL_award_17 : decode cL_award 17 = .ok (.iconst 1, 1) := by decide +kernel
theorem dL_award_18 : decode cL_award 18 = .ok (.ireturn, 1) := by decide +kernel
theorem dL_award_19 : decode cL_award 19 = .ok (.astore 5, 2) := by decide +kernel
theorem dL_award_21 : decode cL_award 21 = .ok (.iconst 2, 1) := by decide +kernel
theorem dL_award_22 : decode cL_award 22 = .ok (.ireturn, 1) := by decide +kernel
theorem dL_award_23 : decode cL_award 23 = .ok (.astore 5, 2) := by decide +kernel
theorem dL_award_25 : decode cL_award 25 = .ok (.iconst 3, 1) := by decide +kernel
theorem dL_award_26 : decode cL_award 26 = .ok (.ireturn, 1) := by decide +kernel
theorem dL_award_27 : decode cL_award 27 = .ok (.iconst 0, 1) := by decide +kernel
theorem dL_award_28 : decode cL_award 28 = .ok (.ireturn, 1) := by decide +kernel
set_option maxRecDepth 20000 in
theorem ggL_pay_X4_pay : GoodIn wsL_pay wsX4_pay := goodIn_ca (goodIn_ca (goodIn_r _ [7, 8, 9, 10, 11, 12, 13, 14, 15, 16, 6, 17, 18, 19, 20, 21, 22, 23, 24, 25, 26, 27, 28, 29, 30, 31, 32, 33, 34, 35, 36, 37, 38, 39, 40, 41, 42, 43, 44, 45, 46, 47, 48, 49, 50, 51, 52, 53, 54, 55, 56, 57, 58, 59, 60, 61, 62, 63, 64, 65, 66, 67, 68, 69, 70, 71, 72, 73, 74, 75, 76, 77, 78, 79, 80, 81, 82, 83, 84, 85, 86, 87, 88, 89, 90, 91, 92, 93, 94, 95, 96, 97, 98, 99, 100, 101, 102, 103, 104, 105, 106, 107, 108, 109, 110, 111, 112, 113, 114] (by decide +kernel) (by decide +kernel)) (goodIn_sub (fun _ h => List.mem_cons_of_mem _ (List.mem_append_left _ (List.mem_append_right _ h))) (by decide +kernel))) (goodIn_sub (fun _ h => List.mem_cons_of_mem _ (List.mem_append_right _ h)) (by decide +kernel))
set_option maxRecDepth 20000 in
theorem gL_pay_X4_pay : GoodIn wsL_pay (wsV RL 51 RX4 yX4_pay wsX4_pay) := goodIn_app (goodIn_of _ (by decide +kernel)) ggL_pay_X4_pay
theorem dL_pay_0 : decode cL_pay 0 = .ok (.aload_n 3, 1) := by decide +kernel
theorem dL_pay_1 : decode cL_pay 1 = .ok (.iconst 0, 1) := by decide +kernel
theorem dL_pay_2 : decode cL_pay 2 = .ok (.aload_n 0, 1) := by decide +kernel
theorem dL_pay_3 : decode cL_pay 3 = .ok (.iload_n 1, 1) := by decide +kernel
theorem dL_pay_4 : decode cL_pay 4 = .ok (.iload_n 2, 1) := by decide +kernel
theorem dL_pay_5 : decode cL_pay 5 = .ok (.invokevirtual 51, 3) := by decide +kernel
theorem dL_pay_8 : decode cL_pay 8 = .ok (.i2l, 1) := by decide +kernel
theorem dL_pay_9 : decode cL_pay 9 = .ok (.lastore, 1) := by decide +kernel
theorem dL_pay_10 : decode cL_pay 10 = .ok (.goto 11, 3) := by decide +kernel
theorem dL_pay_13 : decode cL_pay 13 = .ok (.astore 4, 2) := by decide +kernel
theorem dL_pay_15 : decode cL_pay 15 = .ok (.iconst 1, 1) := by decide +kernel
theorem dL_pay_16 : decode cL_pay 16 = .ok (.ireturn, 1) := by decide +kernel
theorem dL_pay_17 : decode cL_pay 17 = .ok (.astore 4, 2) := by decide +kernel
theorem dL_pay_19 : decode cL_pay 19 = .ok (.iconst 2, 1) := by decide +kernel
theorem dL_pay_20 : decode cL_pay 20 = .ok (.ireturn, 1) := by decide +kernel
theorem dL_pay_21 : decode cL_pay 21 = .ok (.iconst 0, 1) := by decide +kernel
theorem dL_pay_22 : decode cL_pay 22 = .ok (.ireturn, 1) := by decide +kernel
set_option maxRecDepth 20000 in
theorem ggL_plan_X4_plan : GoodIn wsL_plan wsX4_plan := goodIn_ca (goodIn_ca (goodIn_ca (goodIn_r _ [8, 9, 10, 11, 12, 13, 14, 15, 16, 7, 17, 18, 19, 20, 21, 22, 23, 24, 25, 26, 27, 28, 29, 30, 31, 32, 33, 34, 35, 36, 37, 38, 39, 40, 41, 42, 43, 44, 45, 46, 47, 48, 49, 50, 51, 52, 53, 54, 55, 56, 57, 58, 59, 60, 61, 62, 63, 64, 65, 66, 67, 68, 69, 70, 71, 72, 73, 74, 75, 76, 77, 78, 79, 80, 81, 82, 83, 84, 85, 86, 87, 88, 89, 90, 91, 92, 93, 94, 95, 96, 97, 98, 99, 100, 101, 102, 103, 104, 105, 106, 107, 108, 109, 110, 111, 112, 113, 114, 115, 116, 117, 118, 119, 120, 121, 122, 123, 124, 125, 126, 127, 128] (by decide +kernel) (by decide +kernel)) (goodIn_sub (fun _ h => List.mem_cons_of_mem _ (List.mem_append_left _ (List.mem_append_left _ (List.mem_append_right _ h)))) (by decide +kernel))) (goodIn_sub (fun _ h => List.mem_cons_of_mem _ (List.mem_append_left _ (List.mem_append_right _ h))) (by decide +kernel))) (goodIn_sub (fun _ h => List.mem_cons_of_mem _ (List.mem_append_right _ h)) (by decide +kernel))
set_option maxRecDepth 20000 in
theorem gL_plan_X4_plan : GoodIn wsL_plan (wsV RL 54 RX4 yX4_plan wsX4_plan) := goodIn_app (goodIn_of _ (by decide +kernel)) ggL_plan_X4_plan
theorem dL_plan_0 : decode cL_plan 0 = .ok (.aload_n 3, 1) := by decide +kernel
theorem dL_plan_1 : decode cL_plan 1 = .ok (.iconst 0, 1) := by decide +kernel
theorem dL_plan_2 : decode cL_plan 2 = .ok (.aload_n 0, 1) := by decide +kernel
theorem dL_plan_3 : decode cL_plan 3 = .ok (.iload_n 1, 1) := by decide +kernel
theorem dL_plan_4 : decode cL_plan 4 = .ok (.iload_n 2, 1) := by decide +kernel
theorem dL_plan_5 : decode cL_plan 5 = .ok (.invokevirtual 54, 3) := by decide +kernel
theorem dL_plan_8 : decode cL_plan 8 = .ok (.i2l, 1) := by decide +kernel
theorem dL_plan_9 : decode cL_plan 9 = .ok (.lastore, 1) := by decide +kernel
theorem dL_plan_10 : decode cL_plan 10 = .ok (.goto 15, 3) := by decide +kernel
theorem dL_plan_13 : decode cL_plan 13 = .ok (.astore 4, 2) := by decide +kernel
theorem dL_plan_15 : decode cL_plan 15 = .ok (.iconst 1, 1) := by decide +kernel
theorem dL_plan_16 : decode cL_plan 16 = .ok (.ireturn, 1) := by decide +kernel
theorem dL_plan_17 : decode cL_plan 17 = .ok (.astore 4, 2) := by decide +kernel
theorem dL_plan_19 : decode cL_plan 19 = .ok (.iconst 2, 1) := by decide +kernel
theorem dL_plan_20 : decode cL_plan 20 = .ok (.ireturn, 1) := by decide +kernel
theorem dL_plan_21 : decode cL_plan 21 = .ok (.astore 4, 2) := by decide +kernel
theorem dL_plan_23 : decode cL_plan 23 = .ok (.iconst 3, 1) := by decide +kernel
theorem dL_plan_24 : decode cL_plan 24 = .ok (.ireturn, 1) := by decide +kernel
theorem dL_plan_25 : decode cL_plan 25 = .ok (.iconst 0, 1) := by decide +kernel
theorem dL_plan_26 : decode cL_plan 26 = .ok (.ireturn, 1) := by decide +kernel
set_option maxRecDepth 20000 in
theorem ggL_leave_X4_leave : GoodIn wsL_leave wsX4_leave := goodIn_ca (goodIn_r _ [6, 7, 8, 9, 10, 11, 5, 12, 13, 14, 15, 16, 17, 18, 19, 20, 21, 22, 23, 24, 25, 26, 27, 28, 29, 30, 31, 32, 33, 34, 35, 36, 37, 38, 39, 40, 41, 42, 43, 44, 45, 46, 47, 48, 49, 50, 51, 52, 53, 54, 55, 56, 57, 58, 59, 60, 61, 62, 63, 64, 65, 66, 67, 68, 69, 70, 71, 72, 73, 74, 75, 76, 77, 78, 79, 80, 81, 82, 83, 84, 85, 86, 87, 88, 89, 90, 91, 92, 93, 94, 95, 96, 97, 98, 99, 100, 101, 102] (by decide +kernel) (by decide +kernel)) (goodIn_sub (fun _ h => List.mem_cons_of_mem _ (List.mem_append_right _ h)) (by decide +kernel))
set_option maxRecDepth 20000 in
theorem gL_leave_X4_leave : GoodIn wsL_leave (wsV RL 57 RX4 yX4_leave wsX4_leave) := goodIn_app (goodIn_of _ (by decide +kernel)) ggL_leave_X4_leave
theorem dL_leave_0 : decode cL_leave 0 = .ok (.aload_n 2, 1) := by decide +kernel
theorem dL_leave_1 : decode cL_leave 1 = .ok (.iconst 0, 1) := by decide +kernel
theorem dL_leave_2 : decode cL_leave 2 = .ok (.aload_n 0, 1) := by decide +kernel
theorem dL_leave_3 : decode cL_leave 3 = .ok (.iload_n 1, 1) := by decide +kernel
theorem dL_leave_4 : decode cL_leave 4 = .ok (.invokevirtual 57, 3) := by decide +kernel
theorem dL_leave_7 : decode cL_leave 7 = .ok (.i2l, 1) := by decide +kernel
theorem dL_leave_8 : decode cL_leave 8 = .ok (.lastore, 1) := by decide +kernel
theorem dL_leave_9 : decode cL_leave 9 = .ok (.goto 6, 3) := by decide +kernel
theorem dL_leave_12 : decode cL_leave 12 = .ok (.astore_n 3, 1) := by decide +kernel
theorem dL_leave_13 : decode cL_leave 13 = .ok (.iconst 1, 1) := by decide +kernel
theorem dL_leave_14 : decode cL_leave 14 = .ok (.ireturn, 1) := by decide +kernel
theorem dL_leave_15 : decode cL_leave 15 = .ok (.iconst 0, 1) := by decide +kernel
theorem dL_leave_16 : decode cL_leave 16 = .ok (.ireturn, 1) := by decide +kernel
set_option maxRecDepth 20000 in
theorem ggL_closeWeek_X4_closeWeek : GoodIn wsL_closeWeek wsX4_closeWeek := goodIn_ca (goodIn_ca (goodIn_r _ [6, 7, 8, 9, 10, 11, 12, 13, 5, 14, 15, 16, 17, 18, 19, 20, 21, 22, 23, 24, 25, 26, 27, 28, 29, 30, 31, 32, 33, 34, 35, 36, 37, 38, 39, 40, 41, 42, 43, 44, 45, 46, 47, 48, 49, 50, 51, 52, 53, 54, 55, 56, 57, 58, 59, 60, 61, 62, 63, 64, 65, 66, 67, 68, 69, 70, 71, 72, 73, 74, 75, 76, 77, 78, 79, 80, 81, 82, 83, 84, 85, 86, 87, 88, 89, 90, 91, 92, 93, 94, 95, 96, 97, 98, 99, 100, 101, 102, 103, 104, 105, 106, 107, 108, 109, 110, 111, 112, 113, 114, 115, 116, 117, 118, 119, 120, 121, 122, 123, 124, 125, 126, 127, 128, 129, 130, 131, 132, 133, 134, 135, 136, 137, 138, 139, 140, 141, 142, 143, 144, 145, 146, 147, 148, 149, 150, 151, 152, 153, 154, 155, 156, 157, 158, 159, 160, 161, 162, 163, 164, 165, 166, 167] (by decide +kernel) (by decide +kernel)) (goodIn_sub (fun _ h => List.mem_cons_of_mem _ (List.mem_append_left _ (List.mem_append_right _ h))) (by decide +kernel))) (goodIn_sub (fun _ h => List.mem_cons_of_mem _ (List.mem_append_right _ h)) (by decide +kernel))
set_option maxRecDepth 20000 in
theorem gL_closeWeek_X4_closeWeek : GoodIn wsL_closeWeek (wsV RL 61 RX4 yX4_closeWeek wsX4_closeWeek) := goodIn_app (goodIn_of _ (by decide +kernel)) ggL_closeWeek_X4_closeWeek
theorem dL_closeWeek_0 : decode cL_closeWeek 0 = .ok (.aload_n 1, 1) := by decide +kernel
theorem dL_closeWeek_1 : decode cL_closeWeek 1 = .ok (.iconst 0, 1) := by decide +kernel
theorem dL_closeWeek_2 : decode cL_closeWeek 2 = .ok (.aload_n 0, 1) := by decide +kernel
theorem dL_closeWeek_3 : decode cL_closeWeek 3 = .ok (.invokevirtual 61, 3) := by decide +kernel
theorem dL_closeWeek_6 : decode cL_closeWeek 6 = .ok (.i2l, 1) := by decide +kernel
theorem dL_closeWeek_7 : decode cL_closeWeek 7 = .ok (.lastore, 1) := by decide +kernel
theorem dL_closeWeek_8 : decode cL_closeWeek 8 = .ok (.goto 6, 3) := by decide +kernel
theorem dL_closeWeek_11 : decode cL_closeWeek 11 = .ok (.astore_n 2, 1) := by decide +kernel
theorem dL_closeWeek_12 : decode cL_closeWeek 12 = .ok (.iconst 1, 1) := by decide +kernel
theorem dL_closeWeek_13 : decode cL_closeWeek 13 = .ok (.ireturn, 1) := by decide +kernel
theorem dL_closeWeek_14 : decode cL_closeWeek 14 = .ok (.iconst 0, 1) := by decide +kernel
theorem dL_closeWeek_15 : decode cL_closeWeek 15 = .ok (.ireturn, 1) := by decide +kernel
set_option maxRecDepth 20000 in
theorem ggL_credits_X4_credits : GoodIn wsL_credits wsX4_credits := goodIn_ca (goodIn_r _ [6, 7, 8, 9, 10, 5, 11, 12, 13, 14, 15, 16, 17, 18, 19, 20, 21, 22, 23, 24, 25, 26, 27, 28, 29, 30, 31, 32, 33, 34, 35, 36, 37, 38, 39, 40, 41, 42, 43] (by decide +kernel) (by decide +kernel)) (goodIn_sub (fun _ h => List.mem_cons_of_mem _ (List.mem_append_right _ h)) (by decide +kernel))
set_option maxRecDepth 20000 in
theorem gL_credits_X4_credits : GoodIn wsL_credits (wsV RL 65 RX4 yX4_credits wsX4_credits) := goodIn_app (goodIn_of _ (by decide +kernel)) ggL_credits_X4_credits
theorem dL_credits_0 : decode cL_credits 0 = .ok (.aload_n 2, 1) := by decide +kernel
theorem dL_credits_1 : decode cL_credits 1 = .ok (.iconst 0, 1) := by decide +kernel
theorem dL_credits_2 : decode cL_credits 2 = .ok (.aload_n 0, 1) := by decide +kernel
theorem dL_credits_3 : decode cL_credits 3 = .ok (.iload_n 1, 1) := by decide +kernel
theorem dL_credits_4 : decode cL_credits 4 = .ok (.invokevirtual 65, 3) := by decide +kernel
theorem dL_credits_7 : decode cL_credits 7 = .ok (.i2l, 1) := by decide +kernel
theorem dL_credits_8 : decode cL_credits 8 = .ok (.lastore, 1) := by decide +kernel
theorem dL_credits_9 : decode cL_credits 9 = .ok (.goto 6, 3) := by decide +kernel
theorem dL_credits_12 : decode cL_credits 12 = .ok (.astore_n 3, 1) := by decide +kernel
theorem dL_credits_13 : decode cL_credits 13 = .ok (.iconst 1, 1) := by decide +kernel
theorem dL_credits_14 : decode cL_credits 14 = .ok (.ireturn, 1) := by decide +kernel
theorem dL_credits_15 : decode cL_credits 15 = .ok (.iconst 0, 1) := by decide +kernel
theorem dL_credits_16 : decode cL_credits 16 = .ok (.ireturn, 1) := by decide +kernel
set_option maxRecDepth 20000 in
theorem ggL_charged_X4_charged : GoodIn wsL_charged wsX4_charged := goodIn_ca (goodIn_ca (goodIn_r _ [7, 8, 9, 10, 11, 12, 6, 13, 14, 15, 16, 17, 18, 19, 20, 21, 22, 23, 24, 25, 26, 27, 28, 29, 30, 31, 32, 33, 34, 35, 36, 37, 38, 39, 40, 41, 42, 43, 44, 45, 46, 47, 48, 49, 50, 51, 52, 53, 54, 55, 56, 57, 58, 59, 60, 61, 62, 63, 64, 65, 66, 67, 68, 69, 70, 71, 72] (by decide +kernel) (by decide +kernel)) (goodIn_sub (fun _ h => List.mem_cons_of_mem _ (List.mem_append_left _ (List.mem_append_right _ h))) (by decide +kernel))) (goodIn_sub (fun _ h => List.mem_cons_of_mem _ (List.mem_append_right _ h)) (by decide +kernel))
set_option maxRecDepth 20000 in
theorem gL_charged_X4_charged : GoodIn wsL_charged (wsV RL 68 RX4 yX4_charged wsX4_charged) := goodIn_app (goodIn_of _ (by decide +kernel)) ggL_charged_X4_charged
theorem dL_charged_0 : decode cL_charged 0 = .ok (.aload_n 3, 1) := by decide +kernel
theorem dL_charged_1 : decode cL_charged 1 = .ok (.iconst 0, 1) := by decide +kernel
theorem dL_charged_2 : decode cL_charged 2 = .ok (.aload_n 0, 1) := by decide +kernel
theorem dL_charged_3 : decode cL_charged 3 = .ok (.iload_n 1, 1) := by decide +kernel
theorem dL_charged_4 : decode cL_charged 4 = .ok (.iload_n 2, 1) := by decide +kernel
theorem dL_charged_5 : decode cL_charged 5 = .ok (.invokevirtual 68, 3) := by decide +kernel
theorem dL_charged_8 : decode cL_charged 8 = .ok (.i2l, 1) := by decide +kernel
theorem dL_charged_9 : decode cL_charged 9 = .ok (.lastore, 1) := by decide +kernel
theorem dL_charged_10 : decode cL_charged 10 = .ok (.goto 11, 3) := by decide +kernel
theorem dL_charged_13 : decode cL_charged 13 = .ok (.astore 4, 2) := by decide +kernel
theorem dL_charged_15 : decode cL_charged 15 = .ok (.iconst 1, 1) := by decide +kernel
theorem dL_charged_16 : decode cL_charged 16 = .ok (.ireturn, 1) := by decide +kernel
theorem dL_charged_17 : decode cL_charged 17 = .ok (.astore 4, 2) := by decide +kernel
theorem dL_charged_19 : decode cL_charged 19 = .ok (.iconst 2, 1) := by decide +kernel
theorem dL_charged_20 : decode cL_charged 20 = .ok (.ireturn, 1) := by decide +kernel
theorem dL_charged_21 : decode cL_charged 21 = .ok (.iconst 0, 1) := by decide +kernel
theorem dL_charged_22 : decode cL_charged 22 = .ok (.ireturn, 1) := by decide +kernel
set_option maxRecDepth 20000 in
theorem ggL_sponsored_X4_sponsored : GoodIn wsL_sponsored wsX4_sponsored := goodIn_ca (goodIn_r _ [6, 7, 8, 9, 5, 10, 11, 12, 13, 14, 15, 16, 17, 18, 19, 20, 21, 22, 23, 24, 25, 26, 27, 28, 29, 30, 31, 32, 33, 34, 35, 36, 37, 38, 39, 40, 41, 42, 43, 44, 45, 46, 47, 48, 49, 50, 51, 52, 53, 54, 55, 56, 57, 58, 59, 60, 61, 62, 63, 64, 65, 66, 67, 68, 69, 70, 71, 72, 73, 74, 75, 76] (by decide +kernel) (by decide +kernel)) (goodIn_sub (fun _ h => List.mem_cons_of_mem _ (List.mem_append_right _ h)) (by decide +kernel))
set_option maxRecDepth 20000 in
theorem gL_sponsored_X4_sponsored : GoodIn wsL_sponsored (wsV RL 71 RX4 yX4_sponsored wsX4_sponsored) := goodIn_app (goodIn_of _ (by decide +kernel)) ggL_sponsored_X4_sponsored
theorem dL_sponsored_0 : decode cL_sponsored 0 = .ok (.aload_n 2, 1) := by decide +kernel
theorem dL_sponsored_1 : decode cL_sponsored 1 = .ok (.iconst 0, 1) := by decide +kernel
theorem dL_sponsored_2 : decode cL_sponsored 2 = .ok (.aload_n 0, 1) := by decide +kernel
theorem dL_sponsored_3 : decode cL_sponsored 3 = .ok (.iload_n 1, 1) := by decide +kernel
theorem dL_sponsored_4 : decode cL_sponsored 4 = .ok (.invokevirtual 71, 3) := by decide +kernel
theorem dL_sponsored_7 : decode cL_sponsored 7 = .ok (.i2l, 1) := by decide +kernel
theorem dL_sponsored_8 : decode cL_sponsored 8 = .ok (.lastore, 1) := by decide +kernel
theorem dL_sponsored_9 : decode cL_sponsored 9 = .ok (.goto 6, 3) := by decide +kernel
theorem dL_sponsored_12 : decode cL_sponsored 12 = .ok (.astore_n 3, 1) := by decide +kernel
theorem dL_sponsored_13 : decode cL_sponsored 13 = .ok (.iconst 1, 1) := by decide +kernel
theorem dL_sponsored_14 : decode cL_sponsored 14 = .ok (.ireturn, 1) := by decide +kernel
theorem dL_sponsored_15 : decode cL_sponsored 15 = .ok (.iconst 0, 1) := by decide +kernel
theorem dL_sponsored_16 : decode cL_sponsored 16 = .ok (.ireturn, 1) := by decide +kernel
set_option maxRecDepth 20000 in
theorem ggL_used_X4_used : GoodIn wsL_used wsX4_used := goodIn_ca (goodIn_r _ [6, 7, 8, 9, 10, 11, 12, 13, 5, 14, 15, 16, 17, 18, 19, 20, 21, 22, 23, 24, 25, 26, 27, 28, 29, 30, 31, 32, 33, 34, 35, 36, 37, 38, 39, 40, 41, 42, 43, 44, 45, 46, 47, 48, 49, 50, 51, 52, 53, 54, 55, 56, 57, 58, 59, 60, 61, 62, 63, 64, 65, 66, 67, 68, 69, 70, 71, 72, 73, 74, 75, 76, 77, 78, 79, 80, 81, 82, 83, 84, 85, 86, 87, 88, 89, 90, 91, 92, 93, 94, 95, 96, 97, 98, 99, 100, 101, 102, 103, 104] (by decide +kernel) (by decide +kernel)) (goodIn_sub (fun _ h => List.mem_cons_of_mem _ (List.mem_append_right _ h)) (by decide +kernel))
set_option maxRecDepth 20000 in
theorem gL_used_X4_used : GoodIn wsL_used (wsV RL 74 RX4 yX4_used wsX4_used) := goodIn_app (goodIn_of _ (by decide +kernel)) ggL_used_X4_used
theorem dL_used_0 : decode cL_used 0 = .ok (.aload_n 3, 1) := by decide +kernel
theorem dL_used_1 : decode cL_used 1 = .ok (.iconst 0, 1) := by decide +kernel
theorem dL_used_2 : decode cL_used 2 = .ok (.aload_n 0, 1) := by decide +kernel
theorem dL_used_3 : decode cL_used 3 = .ok (.iload_n 1, 1) := by decide +kernel
theorem dL_used_4 : decode cL_used 4 = .ok (.iload_n 2, 1) := by decide +kernel
theorem dL_used_5 : decode cL_used 5 = .ok (.invokevirtual 74, 3) := by decide +kernel
theorem dL_used_8 : decode cL_used 8 = .ok (.i2l, 1) := by decide +kernel
theorem dL_used_9 : decode cL_used 9 = .ok (.lastore, 1) := by decide +kernel
theorem dL_used_10 : decode cL_used 10 = .ok (.goto 7, 3) := by decide +kernel
theorem dL_used_13 : decode cL_used 13 = .ok (.astore 4, 2) := by decide +kernel
theorem dL_used_15 : decode cL_used 15 = .ok (.iconst 1, 1) := by decide +kernel
theorem dL_used_16 : decode cL_used 16 = .ok (.ireturn, 1) := by decide +kernel
theorem dL_used_17 : decode cL_used 17 = .ok (.iconst 0, 1) := by decide +kernel
theorem dL_used_18 : decode cL_used 18 = .ok (.ireturn, 1) := by decide +kernel
set_option maxRecDepth 20000 in
theorem ggL_amountOf_X4_amountOf : GoodIn wsL_amountOf wsX4_amountOf := goodIn_ca (goodIn_r _ [6, 7, 8, 9, 10, 11, 12, 5, 13, 14, 15, 16, 17, 18, 19, 20, 21, 22, 23, 24, 25, 26, 27, 28, 29, 30, 31, 32, 33, 34, 35, 36, 37, 38, 39, 40, 41, 42, 43, 44, 45, 46, 47, 48, 49] (by decide +kernel) (by decide +kernel)) (goodIn_sub (fun _ h => List.mem_cons_of_mem _ (List.mem_append_right _ h)) (by decide +kernel))
set_option maxRecDepth 20000 in
theorem gL_amountOf_X4_amountOf : GoodIn wsL_amountOf (wsV RL 77 RX4 yX4_amountOf wsX4_amountOf) := goodIn_app (goodIn_of _ (by decide +kernel)) ggL_amountOf_X4_amountOf
theorem dL_amountOf_0 : decode cL_amountOf 0 = .ok (.aload_n 3, 1) := by decide +kernel
theorem dL_amountOf_1 : decode cL_amountOf 1 = .ok (.iconst 0, 1) := by decide +kernel
theorem dL_amountOf_2 : decode cL_amountOf 2 = .ok (.aload_n 0, 1) := by decide +kernel
theorem dL_amountOf_3 : decode cL_amountOf 3 = .ok (.iload_n 1, 1) := by decide +kernel
theorem dL_amountOf_4 : decode cL_amountOf 4 = .ok (.iload_n 2, 1) := by decide +kernel
theorem dL_amountOf_5 : decode cL_amountOf 5 = .ok (.invokevirtual 77, 3) := by decide +kernel
theorem dL_amountOf_8 : decode cL_amountOf 8 = .ok (.i2l, 1) := by decide +kernel
theorem dL_amountOf_9 : decode cL_amountOf 9 = .ok (.lastore, 1) := by decide +kernel
theorem dL_amountOf_10 : decode cL_amountOf 10 = .ok (.goto 7, 3) := by decide +kernel
theorem dL_amountOf_13 : decode cL_amountOf 13 = .ok (.astore 4, 2) := by decide +kernel
theorem dL_amountOf_15 : decode cL_amountOf 15 = .ok (.iconst 1, 1) := by decide +kernel
theorem dL_amountOf_16 : decode cL_amountOf 16 = .ok (.ireturn, 1) := by decide +kernel
theorem dL_amountOf_17 : decode cL_amountOf 17 = .ok (.iconst 0, 1) := by decide +kernel
theorem dL_amountOf_18 : decode cL_amountOf 18 = .ok (.ireturn, 1) := by decide +kernel
set_option maxRecDepth 20000 in
theorem ggL_paid_X4_paid : GoodIn wsL_paid wsX4_paid := goodIn_ca (goodIn_r _ [6, 7, 8, 9, 10, 5, 11, 12, 13, 14, 15, 16, 17, 18, 19, 20, 21, 22, 23, 24, 25, 26, 27, 28, 29, 30, 31, 32, 33, 34] (by decide +kernel) (by decide +kernel)) (goodIn_sub (fun _ h => List.mem_cons_of_mem _ (List.mem_append_right _ h)) (by decide +kernel))
set_option maxRecDepth 20000 in
theorem gL_paid_X4_paid : GoodIn wsL_paid (wsV RL 80 RX4 yX4_paid wsX4_paid) := goodIn_app (goodIn_of _ (by decide +kernel)) ggL_paid_X4_paid
theorem dL_paid_0 : decode cL_paid 0 = .ok (.aload_n 2, 1) := by decide +kernel
theorem dL_paid_1 : decode cL_paid 1 = .ok (.iconst 0, 1) := by decide +kernel
theorem dL_paid_2 : decode cL_paid 2 = .ok (.aload_n 0, 1) := by decide +kernel
theorem dL_paid_3 : decode cL_paid 3 = .ok (.iload_n 1, 1) := by decide +kernel
theorem dL_paid_4 : decode cL_paid 4 = .ok (.invokevirtual 80, 3) := by decide +kernel
theorem dL_paid_7 : decode cL_paid 7 = .ok (.i2l, 1) := by decide +kernel
theorem dL_paid_8 : decode cL_paid 8 = .ok (.lastore, 1) := by decide +kernel
theorem dL_paid_9 : decode cL_paid 9 = .ok (.goto 6, 3) := by decide +kernel
theorem dL_paid_12 : decode cL_paid 12 = .ok (.astore_n 3, 1) := by decide +kernel
theorem dL_paid_13 : decode cL_paid 13 = .ok (.iconst 1, 1) := by decide +kernel
theorem dL_paid_14 : decode cL_paid 14 = .ok (.ireturn, 1) := by decide +kernel
theorem dL_paid_15 : decode cL_paid 15 = .ok (.iconst 0, 1) := by decide +kernel
theorem dL_paid_16 : decode cL_paid 16 = .ok (.ireturn, 1) := by decide +kernel
set_option maxRecDepth 20000 in
theorem ggL_owed_X4_owed : GoodIn wsL_owed wsX4_owed := goodIn_ca (goodIn_r _ [6, 7, 8, 9, 5, 10, 11, 12, 13, 14, 15, 16, 17, 18, 19, 20, 21, 22, 23, 24, 25, 26, 27, 28, 29, 30, 31, 32, 33, 34, 35, 36, 37, 38, 39, 40, 41, 42, 43, 44, 45, 46, 47, 48, 49, 50, 51, 52, 53, 54, 55, 56, 57, 58, 59, 60, 61, 62, 63, 64, 65, 66, 67, 68, 69, 70, 71, 72, 73, 74, 75, 76, 77, 78, 79, 80, 81, 82, 83, 84, 85, 86, 87, 88, 89, 90, 91, 92, 93, 94, 95, 96, 97, 98, 99, 100] (by decide +kernel) (by decide +kernel)) (goodIn_sub (fun _ h => List.mem_cons_of_mem _ (List.mem_append_right _ h)) (by decide +kernel))
set_option maxRecDepth 20000 in
theorem gL_owed_X4_owed : GoodIn wsL_owed (wsV RL 83 RX4 yX4_owed wsX4_owed) := goodIn_app (goodIn_of _ (by decide +kernel)) ggL_owed_X4_owed
theorem dL_owed_0 : decode cL_owed 0 = .ok (.aload_n 2, 1) := by decide +kernel
theorem dL_owed_1 : decode cL_owed 1 = .ok (.iconst 0, 1) := by decide +kernel
theorem dL_owed_2 : decode cL_owed 2 = .ok (.aload_n 0, 1) := by decide +kernel
theorem dL_owed_3 : decode cL_owed 3 = .ok (.iload_n 1, 1) := by decide +kernel
theorem dL_owed_4 : decode cL_owed 4 = .ok (.invokevirtual 83, 3) := by decide +kernel
theorem dL_owed_7 : decode cL_owed 7 = .ok (.i2l, 1) := by decide +kernel
theorem dL_owed_8 : decode cL_owed 8 = .ok (.lastore, 1) := by decide +kernel
theorem dL_owed_9 : decode cL_owed 9 = .ok (.goto 6, 3) := by decide +kernel
theorem dL_owed_12 : decode cL_owed 12 = .ok (.astore_n 3, 1) := by decide +kernel
theorem dL_owed_13 : decode cL_owed 13 = .ok (.iconst 1, 1) := by decide +kernel
theorem dL_owed_14 : decode cL_owed 14 = .ok (.ireturn, 1) := by decide +kernel
theorem dL_owed_15 : decode cL_owed 15 = .ok (.iconst 0, 1) := by decide +kernel
theorem dL_owed_16 : decode cL_owed 16 = .ok (.ireturn, 1) := by decide +kernel
set_option maxRecDepth 20000 in
theorem ggL_hasHold_X4_hasHold : GoodIn wsL_hasHold wsX4_hasHold := goodIn_ca (goodIn_r _ [6, 7, 8, 9, 10, 5, 11, 12, 13, 14, 15, 16, 17, 18, 19, 20, 21, 22, 23, 24, 25, 26, 27, 28, 29, 30, 31, 32, 33, 34, 35, 36, 37, 38, 39, 40, 41, 42, 43, 44, 45, 46, 47, 48, 49, 50, 51, 52, 53, 54, 55, 56, 57, 58, 59, 60, 61, 62, 63, 64, 65, 66, 67, 68, 69, 70, 71, 72, 73, 74, 75, 76, 77, 78, 79, 80, 81, 82, 83, 84, 85, 86, 87, 88, 89, 90, 91, 92, 93, 94, 95, 96, 97, 98, 99, 100, 101] (by decide +kernel) (by decide +kernel)) (goodIn_sub (fun _ h => List.mem_cons_of_mem _ (List.mem_append_right _ h)) (by decide +kernel))
set_option maxRecDepth 20000 in
theorem gL_hasHold_X4_hasHold : GoodIn wsL_hasHold (wsV RL 86 RX4 yX4_hasHold wsX4_hasHold) := goodIn_app (goodIn_of _ (by decide +kernel)) ggL_hasHold_X4_hasHold
theorem dL_hasHold_0 : decode cL_hasHold 0 = .ok (.aload_n 2, 1) := by decide +kernel
theorem dL_hasHold_1 : decode cL_hasHold 1 = .ok (.iconst 0, 1) := by decide +kernel
theorem dL_hasHold_2 : decode cL_hasHold 2 = .ok (.aload_n 0, 1) := by decide +kernel
theorem dL_hasHold_3 : decode cL_hasHold 3 = .ok (.iload_n 1, 1) := by decide +kernel
theorem dL_hasHold_4 : decode cL_hasHold 4 = .ok (.invokevirtual 86, 3) := by decide +kernel
theorem dL_hasHold_7 : decode cL_hasHold 7 = .ok (.ifCond .eq 7, 3) := by decide +kernel
theorem dL_hasHold_10 : decode cL_hasHold 10 = .ok (.lconst 1, 1) := by decide +kernel
theorem dL_hasHold_11 : decode cL_hasHold 11 = .ok (.goto 4, 3) := by decide +kernel
theorem dL_hasHold_14 : decode cL_hasHold 14 = .ok (.lconst 0, 1) := by decide +kernel
theorem dL_hasHold_15 : decode cL_hasHold 15 = .ok (.lastore, 1) := by decide +kernel
theorem dL_hasHold_16 : decode cL_hasHold 16 = .ok (.goto 6, 3) := by decide +kernel
theorem dL_hasHold_19 : decode cL_hasHold 19 = .ok (.astore_n 3, 1) := by decide +kernel
theorem dL_hasHold_20 : decode cL_hasHold 20 = .ok (.iconst 1, 1) := by decide +kernel
theorem dL_hasHold_21 : decode cL_hasHold 21 = .ok (.ireturn, 1) := by decide +kernel
theorem dL_hasHold_22 : decode cL_hasHold 22 = .ok (.iconst 0, 1) := by decide +kernel
theorem dL_hasHold_23 : decode cL_hasHold 23 = .ok (.ireturn, 1) := by decide +kernel
set_option maxRecDepth 20000 in
theorem ggL_law_X4_init : GoodIn wsL_law wsX4_init := goodIn_r _ [9, 10, 11, 12, 13, 14, 15, 16, 17, 18, 19, 20, 21, 22, 23, 24, 25, 26, 27, 28, 29, 30, 31, 32, 33, 34, 35, 36, 37, 38, 39, 40, 41, 42, 43, 44, 45, 46, 47, 48, 49, 50, 51, 52, 53, 54, 55, 56, 57, 58, 59, 60, 61, 62, 63, 64, 65, 66, 67, 68, 69, 70, 71, 72, 73, 601, 602, 603, 604, 605, 606, 607, 608, 609, 639, 640, 641, 642, 643, 644, 645, 646, 647, 648, 649, 650, 651, 652, 653, 654, 655, 656, 657, 658, 659, 660, 661] (by decide +kernel) (by decide +kernel)
set_option maxRecDepth 20000 in
theorem gL_law_X4_init : GoodIn wsL_law (wsX4_init) := ggL_law_X4_init
set_option maxRecDepth 20000 in
theorem ggL_law_X5_init : GoodIn wsL_law wsX5_init := goodIn_r _ [76, 77, 11, 12, 15, 78, 79, 80, 81, 82, 83, 84, 85, 86, 87, 88, 89, 90, 91, 92, 93, 94, 95, 96, 97, 98, 99, 100, 101, 102, 103, 610, 611, 612, 613, 614, 615, 616, 617, 618, 619, 620, 621, 622, 623, 624, 625, 626, 627, 628, 629, 630, 631, 632, 633, 634, 635, 636, 637, 638] (by decide +kernel) (by decide +kernel)
set_option maxRecDepth 20000 in
theorem gL_law_X5_init : GoodIn wsL_law (wsX5_init) := ggL_law_X5_init
set_option maxRecDepth 20000 in
theorem ggL_law_L_setRate : GoodIn wsL_law wsL_setRate := goodIn_ca (goodIn_r _ [107, 108, 109, 110, 111, 2, 112, 113, 114, 16, 115, 116, 117, 118, 119, 120, 121, 601, 602, 603, 604, 605, 606, 607, 608, 609] (by decide +kernel) (by decide +kernel)) (goodIn_sub (fun _ h => List.mem_append_left _ (List.mem_append_left _ (List.mem_append_right _ h))) (by decide +kernel))
set_option maxRecDepth 20000 in
theorem gL_law_L_setRate : GoodIn wsL_law (va_wsS RL 94 yL_setRate wsL_setRate) := goodIn_app (goodIn_of _ (by decide +kernel)) ggL_law_L_setRate
set_option maxRecDepth 20000 in
theorem ggL_law_X5_setRate : GoodIn wsL_law wsX5_setRate := goodIn_r _ [125, 126, 78, 127, 128, 5, 129, 130, 131, 132, 133, 134, 135, 136, 137, 610, 611, 612, 613, 614, 615, 616, 617, 618, 619, 620, 621, 622, 623, 624, 625, 626, 627, 628, 629, 630, 631, 632, 633, 634, 635, 636, 637, 638] (by decide +kernel) (by decide +kernel)
set_option maxRecDepth 20000 in
theorem gL_law_X5_setRate : GoodIn wsL_law (wsV RL 99 RX5 yX5_setRate wsX5_setRate) := goodIn_app (goodIn_of _ (by decide +kernel)) ggL_law_X5_setRate
set_option maxRecDepth 20000 in
theorem ggL_law_X5_thrown : GoodIn wsL_law wsX5_thrown := goodIn_r _ [141, 134, 610, 611, 612, 613, 614, 615, 616, 617, 618, 619, 620, 621, 622, 623, 624, 625, 626, 627, 628, 629, 630, 631, 632, 633, 634, 635, 636, 637, 638] (by decide +kernel) (by decide +kernel)
set_option maxRecDepth 20000 in
theorem gL_law_X5_thrown : GoodIn wsL_law (wsV RL 100 RX5 yX5_thrown wsX5_thrown) := goodIn_app (goodIn_of _ (by decide +kernel)) ggL_law_X5_thrown
set_option maxRecDepth 20000 in
theorem ggL_law_L_setBand : GoodIn wsL_law wsL_setBand := goodIn_ca (goodIn_r _ [144, 108, 145, 146, 147, 2, 148, 113, 114, 18, 19, 119, 120, 121, 601, 602, 603, 604, 605, 606, 607, 608, 609] (by decide +kernel) (by decide +kernel)) (goodIn_sub (fun _ h => List.mem_append_left _ (List.mem_append_left _ (List.mem_append_right _ h))) (by decide +kernel))
set_option maxRecDepth 20000 in
theorem gL_law_L_setBand : GoodIn wsL_law (va_wsS RL 103 yL_setBand wsL_setBand) := goodIn_app (goodIn_of _ (by decide +kernel)) ggL_law_L_setBand
set_option maxRecDepth 20000 in
theorem ggL_law_X5_setBand : GoodIn wsL_law wsX5_setBand := goodIn_r _ [152, 79, 80, 127, 128, 5, 129, 130, 131, 132, 133, 134, 610, 611, 612, 613, 614, 615, 616, 617, 618, 619, 620, 621, 622, 623, 624, 625, 626, 627, 628, 629, 630, 631, 632, 633, 634, 635, 636, 637, 638] (by decide +kernel) (by decide +kernel)
set_option maxRecDepth 20000 in
theorem gL_law_X5_setBand : GoodIn wsL_law (wsV RL 106 RX5 yX5_setBand wsX5_setBand) := goodIn_app (goodIn_of _ (by decide +kernel)) ggL_law_X5_setBand
set_option maxRecDepth 20000 in
theorem ggL_law_L_setShare : GoodIn wsL_law wsL_setShare := goodIn_ca (goodIn_r _ [155, 108, 156, 157, 158, 2, 159, 113, 114, 17, 119, 120, 121, 601, 602, 603, 604, 605, 606, 607, 608, 609] (by decide +kernel) (by decide +kernel)) (goodIn_sub (fun _ h => List.mem_append_left _ (List.mem_append_left _ (List.mem_append_right _ h))) (by decide +kernel))
set_option maxRecDepth 20000 in
theorem gL_law_L_setShare : GoodIn wsL_law (va_wsS RL 107 yL_setShare wsL_setShare) := goodIn_app (goodIn_of _ (by decide +kernel)) ggL_law_L_setShare
set_option maxRecDepth 20000 in
theorem ggL_law_X5_setShare : GoodIn wsL_law wsX5_setShare := goodIn_r _ [163, 81, 127, 128, 5, 129, 130, 131, 132, 133, 134, 610, 611, 612, 613, 614, 615, 616, 617, 618, 619, 620, 621, 622, 623, 624, 625, 626, 627, 628, 629, 630, 631, 632, 633, 634, 635, 636, 637, 638] (by decide +kernel) (by decide +kernel)
set_option maxRecDepth 20000 in
theorem gL_law_X5_setShare : GoodIn wsL_law (wsV RL 110 RX5 yX5_setShare wsX5_setShare) := goodIn_app (goodIn_of _ (by decide +kernel)) ggL_law_X5_setShare
set_option maxRecDepth 20000 in
theorem ggL_law_L_setFees : GoodIn wsL_law wsL_setFees := goodIn_ca (goodIn_r _ [166, 108, 167, 168, 169, 2, 170, 113, 114, 115, 171, 20, 21, 119, 120, 121, 601, 602, 603, 604, 605, 606, 607, 608, 609] (by decide +kernel) (by decide +kernel)) (goodIn_sub (fun _ h => List.mem_append_left _ (List.mem_append_left _ (List.mem_append_right _ h))) (by decide +kernel))
set_option maxRecDepth 20000 in
theorem gL_law_L_setFees : GoodIn wsL_law (va_wsS RL 111 yL_setFees wsL_setFees) := goodIn_app (goodIn_of _ (by decide +kernel)) ggL_law_L_setFees
set_option maxRecDepth 20000 in
theorem ggL_law_X5_setFees : GoodIn wsL_law wsX5_setFees := goodIn_r _ [175, 126, 176, 82, 177, 127, 128, 5, 129, 130, 131, 132, 133, 134, 610, 611, 612, 613, 614, 615, 616, 617, 618, 619, 620, 621, 622, 623, 624, 625, 626, 627, 628, 629, 630, 631, 632, 633, 634, 635, 636, 637, 638] (by decide +kernel) (by decide +kernel)
set_option maxRecDepth 20000 in
theorem gL_law_X5_setFees : GoodIn wsL_law (wsV RL 113 RX5 yX5_setFees wsX5_setFees) := goodIn_app (goodIn_of _ (by decide +kernel)) ggL_law_X5_setFees
set_option maxRecDepth 20000 in
theorem ggL_law_L_setStudent : GoodIn wsL_law wsL_setStudent := goodIn_ca (goodIn_ca (goodIn_r _ [180, 181, 108, 182, 183, 184, 2, 185, 113, 114, 171, 186, 187, 188, 189, 190, 191, 192, 193, 194, 14, 119, 120, 121, 639, 640, 641, 642, 643, 644, 645, 646, 647, 648, 649, 601, 602, 603, 604, 605, 606, 607, 608, 609] (by decide +kernel) (by decide +kernel)) (goodIn_sub (fun _ h => List.mem_append_left _ (List.mem_append_left _ (List.mem_append_right _ h))) (by decide +kernel))) (goodIn_sub (fun _ h => List.mem_append_left _ (List.mem_append_right _ h)) (by decide +kernel))
set_option maxRecDepth 20000 in
theorem gL_law_L_setStudent : GoodIn wsL_law (va_wsS RL 114 yL_setStudent wsL_setStudent) := goodIn_app (goodIn_of _ (by decide +kernel)) ggL_law_L_setStudent
set_option maxRecDepth 20000 in
theorem ggL_law_X5_setStudent : GoodIn wsL_law wsX5_setStudent := goodIn_r _ [198, 176, 83, 85, 86, 199, 200, 5, 201, 127, 128, 129, 130, 131, 132, 133, 134, 610, 611, 612, 613, 614, 615, 616, 617, 618, 619, 620, 621, 622, 623, 624, 625, 626, 627, 628, 629, 630, 631, 632, 633, 634, 635, 636, 637, 638] (by decide +kernel) (by decide +kernel)
set_option maxRecDepth 20000 in
theorem gL_law_X5_setStudent : GoodIn wsL_law (wsV RL 117 RX5 yX5_setStudent wsX5_setStudent) := goodIn_app (goodIn_of _ (by decide +kernel)) ggL_law_X5_setStudent
set_option maxRecDepth 20000 in
theorem ggL_law_L_setSponsor : GoodIn wsL_law wsL_setSponsor := goodIn_ca (goodIn_ca (goodIn_r _ [204, 181, 108, 205, 206, 207, 2, 208, 113, 114, 171, 209, 210, 189, 190, 191, 192, 193, 194, 14, 119, 120, 121, 639, 640, 641, 642, 643, 644, 645, 646, 647, 648, 649, 601, 602, 603, 604, 605, 606, 607, 608, 609] (by decide +kernel) (by decide +kernel)) (goodIn_sub (fun _ h => List.mem_append_left _ (List.mem_append_left _ (List.mem_append_right _ h))) (by decide +kernel))) (goodIn_sub (fun _ h => List.mem_append_left _ (List.mem_append_right _ h)) (by decide +kernel))
set_option maxRecDepth 20000 in
theorem gL_law_L_setSponsor : GoodIn wsL_law (va_wsS RL 118 yL_setSponsor wsL_setSponsor) := goodIn_app (goodIn_of _ (by decide +kernel)) ggL_law_L_setSponsor
set_option maxRecDepth 20000 in
theorem ggL_law_X5_setSponsor : GoodIn wsL_law wsX5_setSponsor := goodIn_r _ [214, 176, 87, 88, 199, 200, 5, 201, 127, 128, 129, 130, 131, 132, 133, 134, 610, 611, 612, 613, 614, 615, 616, 617, 618, 619, 620, 621, 622, 623, 624, 625, 626, 627, 628, 629, 630, 631, 632, 633, 634, 635, 636, 637, 638] (by decide +kernel) (by decide +kernel)
set_option maxRecDepth 20000 in
theorem gL_law_X5_setSponsor : GoodIn wsL_law (wsV RL 121 RX5 yX5_setSponsor wsX5_setSponsor) := goodIn_app (goodIn_of _ (by decide +kernel)) ggL_law_X5_setSponsor
set_option maxRecDepth 20000 in
theorem ggL_law_L_take : GoodIn wsL_law wsL_take := goodIn_ca (goodIn_ca (goodIn_ca (goodIn_r _ [217, 181, 108, 218, 219, 220, 221, 2, 222, 113, 114, 223, 224, 225, 189, 190, 191, 192, 193, 194, 14, 119, 120, 121, 226, 227, 228, 31, 229, 53, 52, 639, 640, 641, 642, 643, 644, 645, 646, 647, 648, 649, 601, 602, 603, 604, 605, 606, 607, 608, 609, 650, 651, 652] (by decide +kernel) (by decide +kernel)) (goodIn_sub (fun _ h => List.mem_append_left _ (List.mem_append_left _ (List.mem_append_right _ h))) (by decide +kernel))) (goodIn_sub (fun _ h => List.mem_append_right _ h) (by decide +kernel))) (goodIn_sub (fun _ h => List.mem_append_left _ (List.mem_append_right _ h)) (by decide +kernel))
set_option maxRecDepth 20000 in
theorem gL_law_L_take : GoodIn wsL_law (va_wsS RL 122 yL_take wsL_take) := goodIn_app (goodIn_of _ (by decide +kernel)) ggL_law_L_take
set_option maxRecDepth 20000 in
theorem ggL_law_X5_take : GoodIn wsL_law wsX5_take := goodIn_r _ [233, 89, 90, 91, 199, 200, 5, 201, 127, 128, 129, 130, 131, 132, 133, 134, 610, 611, 612, 613, 614, 615, 616, 617, 618, 619, 620, 621, 622, 623, 624, 625, 626, 627, 628, 629, 630, 631, 632, 633, 634, 635, 636, 637, 638] (by decide +kernel) (by decide +kernel)
set_option maxRecDepth 20000 in
theorem gL_law_X5_take : GoodIn wsL_law (wsV RL 124 RX5 yX5_take wsX5_take) := goodIn_app (goodIn_of _ (by decide +kernel)) ggL_law_X5_take
set_option maxRecDepth 20000 in
theorem ggL_law_L_drop : GoodIn wsL_law wsL_drop := goodIn_ca (goodIn_ca (goodIn_r _ [236, 181, 218, 237, 238, 239, 2, 240, 193, 194, 223, 224, 225, 189, 190, 191, 192, 14, 241, 242, 243, 31, 244, 53, 245, 246, 247, 248, 52, 249, 250, 251, 252, 186, 187, 253, 116, 117, 118, 254, 255, 256, 257, 16, 258, 259, 260, 261, 262, 263, 264, 265, 18, 19, 266, 267, 268, 269, 270, 271, 272, 273, 22, 17, 639, 640, 641, 642, 643, 644, 645, 646, 647, 648, 649, 601, 602, 603, 604, 605, 606, 607, 608, 609, 650, 651, 652] (by decide +kernel) (by decide +kernel)) (goodIn_sub (fun _ h => List.mem_append_left _ (List.mem_append_right _ h)) (by decide +kernel))) (goodIn_sub (fun _ h => List.mem_append_right _ h) (by decide +kernel))
set_option maxRecDepth 20000 in
theorem gL_law_L_drop : GoodIn wsL_law (va_wsS RL 125 yL_drop wsL_drop) := goodIn_app (goodIn_of _ (by decide +kernel)) ggL_law_L_drop
set_option maxRecDepth 20000 in
theorem ggL_law_X5_drop : GoodIn wsL_law wsX5_drop := goodIn_r _ [277, 89, 91, 199, 200, 5, 201, 127, 128, 129, 130, 131, 132, 133, 134, 278, 279, 280, 281, 81, 282, 283, 92, 284, 285, 286, 287, 90, 288, 289, 290, 291, 79, 80, 78, 83, 85, 135, 136, 137, 610, 611, 612, 613, 614, 615, 616, 617, 618, 619, 620, 621, 622, 623, 624, 625, 626, 627, 628, 629, 630, 631, 632, 633, 634, 635, 636, 637, 638] (by decide +kernel) (by decide +kernel)
set_option maxRecDepth 20000 in
theorem gL_law_X5_drop : GoodIn wsL_law (wsV RL 127 RX5 yX5_drop wsX5_drop) := goodIn_app (goodIn_of _ (by decide +kernel)) ggL_law_X5_drop
set_option maxRecDepth 20000 in
theorem ggL_law_L_charge : GoodIn wsL_law wsL_charge := goodIn_ca (goodIn_ca (goodIn_r _ [294, 181, 108, 295, 296, 297, 2, 298, 113, 114, 171, 299, 300, 189, 190, 191, 192, 193, 194, 14, 119, 120, 121, 639, 640, 641, 642, 643, 644, 645, 646, 647, 648, 649, 601, 602, 603, 604, 605, 606, 607, 608, 609] (by decide +kernel) (by decide +kernel)) (goodIn_sub (fun _ h => List.mem_append_left _ (List.mem_append_left _ (List.mem_append_right _ h))) (by decide +kernel))) (goodIn_sub (fun _ h => List.mem_append_left _ (List.mem_append_right _ h)) (by decide +kernel))
set_option maxRecDepth 20000 in
theorem gL_law_L_charge : GoodIn wsL_law (va_wsS RL 128 yL_charge wsL_charge) := goodIn_app (goodIn_of _ (by decide +kernel)) ggL_law_L_charge
set_option maxRecDepth 20000 in
theorem ggL_law_X5_charge : GoodIn wsL_law wsX5_charge := goodIn_r _ [304, 176, 93, 94, 199, 200, 5, 201, 127, 128, 129, 130, 131, 132, 133, 134, 305, 306, 307, 308, 92, 284, 285, 286, 287, 89, 91, 90, 288, 289, 290, 291, 79, 80, 78, 83, 85, 135, 136, 137, 610, 611, 612, 613, 614, 615, 616, 617, 618, 619, 620, 621, 622, 623, 624, 625, 626, 627, 628, 629, 630, 631, 632, 633, 634, 635, 636, 637, 638] (by decide +kernel) (by decide +kernel)
set_option maxRecDepth 20000 in
theorem gL_law_X5_charge : GoodIn wsL_law (wsV RL 131 RX5 yX5_charge wsX5_charge) := goodIn_app (goodIn_of _ (by decide +kernel)) ggL_law_X5_charge
set_option maxRecDepth 20000 in
theorem ggL_law_L_award : GoodIn wsL_law wsL_award := goodIn_ca (goodIn_ca (goodIn_ca (goodIn_r _ [311, 181, 108, 218, 312, 313, 314, 2, 315, 113, 114, 223, 224, 171, 316, 189, 190, 191, 192, 193, 194, 14, 119, 120, 121, 317, 318, 319, 35, 320, 61, 58, 59, 639, 640, 641, 642, 643, 644, 645, 646, 647, 648, 649, 601, 602, 603, 604, 605, 606, 607, 608, 609, 653, 654, 655, 656] (by decide +kernel) (by decide +kernel)) (goodIn_sub (fun _ h => List.mem_append_left _ (List.mem_append_left _ (List.mem_append_right _ h))) (by decide +kernel))) (goodIn_sub (fun _ h => List.mem_append_right _ h) (by decide +kernel))) (goodIn_sub (fun _ h => List.mem_append_left _ (List.mem_append_right _ h)) (by decide +kernel))
set_option maxRecDepth 20000 in
theorem gL_law_L_award : GoodIn wsL_law (va_wsS RL 132 yL_award wsL_award) := goodIn_app (goodIn_of _ (by decide +kernel)) ggL_law_L_award
set_option maxRecDepth 20000 in
theorem ggL_law_X5_award : GoodIn wsL_law wsX5_award := goodIn_r _ [324, 176, 95, 96, 97, 127, 128, 5, 129, 199, 200, 201, 130, 131, 132, 133, 134, 610, 611, 612, 613, 614, 615, 616, 617, 618, 619, 620, 621, 622, 623, 624, 625, 626, 627, 628, 629, 630, 631, 632, 633, 634, 635, 636, 637, 638] (by decide +kernel) (by decide +kernel)
set_option maxRecDepth 20000 in
theorem gL_law_X5_award : GoodIn wsL_law (wsV RL 134 RX5 yX5_award wsX5_award) := goodIn_app (goodIn_of _ (by decide +kernel)) ggL_law_X5_award
set_option maxRecDepth 20000 in
theorem ggL_law_L_pay : GoodIn wsL_law wsL_pay := goodIn_ca (goodIn_ca (goodIn_r _ [327, 181, 108, 328, 329, 330, 2, 331, 113, 114, 171, 332, 333, 334, 189, 190, 191, 192, 193, 194, 14, 119, 120, 121, 335, 336, 337, 338, 316, 188, 339, 340, 341, 342, 343, 344, 345, 346, 186, 187, 225, 253, 299, 300, 116, 117, 118, 254, 255, 256, 257, 16, 258, 259, 260, 31, 261, 52, 262, 263, 264, 265, 18, 19, 347, 348, 349, 350, 209, 210, 351, 352, 353, 354, 355, 356, 357, 35, 358, 58, 359, 60, 59, 639, 640, 641, 642, 643, 644, 645, 646, 647, 648, 649, 657, 658, 659, 660, 661, 601, 602, 603, 604, 605, 606, 607, 608, 609, 650, 651, 652, 653, 654, 655, 656] (by decide +kernel) (by decide +kernel)) (goodIn_sub (fun _ h => List.mem_append_left _ (List.mem_append_left _ (List.mem_append_right _ h))) (by decide +kernel))) (goodIn_sub (fun _ h => List.mem_append_left _ (List.mem_append_right _ h)) (by decide +kernel))
set_option maxRecDepth 20000 in
theorem gL_law_L_pay : GoodIn wsL_law (va_wsS RL 135 yL_pay wsL_pay) := goodIn_app (goodIn_of _ (by decide +kernel)) ggL_law_L_pay
set_option maxRecDepth 20000 in
theorem ggL_law_X5_pay : GoodIn wsL_law wsX5_pay := goodIn_r _ [363, 176, 98, 103, 199, 200, 5, 201, 127, 128, 129, 130, 131, 132, 133, 134, 364, 365, 366, 367, 368, 369, 370, 371, 305, 306, 307, 308, 92, 93, 94, 284, 285, 286, 287, 89, 91, 90, 288, 289, 290, 291, 79, 80, 78, 83, 85, 135, 136, 137, 372, 373, 374, 375, 87, 88, 376, 377, 378, 379, 380, 381, 382, 86, 95, 96, 97, 610, 611, 612, 613, 614, 615, 616, 617, 618, 619, 620, 621, 622, 623, 624, 625, 626, 627, 628, 629, 630, 631, 632, 633, 634, 635, 636, 637, 638] (by decide +kernel) (by decide +kernel)
set_option maxRecDepth 20000 in
theorem gL_law_X5_pay : GoodIn wsL_law (wsV RL 137 RX5 yX5_pay wsX5_pay) := goodIn_app (goodIn_of _ (by decide +kernel)) ggL_law_X5_pay
set_option maxRecDepth 20000 in
theorem ggL_law_L_plan : GoodIn wsL_law wsL_plan := goodIn_ca (goodIn_ca (goodIn_ca (goodIn_r _ [385, 181, 108, 218, 386, 387, 388, 2, 389, 113, 114, 223, 224, 333, 189, 190, 191, 192, 193, 194, 14, 335, 336, 337, 338, 316, 188, 332, 339, 340, 341, 342, 343, 344, 345, 346, 186, 187, 225, 253, 299, 300, 116, 117, 118, 254, 255, 256, 257, 16, 258, 259, 260, 31, 261, 52, 262, 263, 264, 265, 18, 19, 347, 348, 349, 350, 209, 210, 351, 352, 353, 354, 355, 356, 357, 35, 358, 58, 359, 60, 59, 390, 391, 392, 393, 23, 22, 394, 395, 396, 39, 397, 65, 66, 67, 68, 69, 639, 640, 641, 642, 643, 644, 645, 646, 647, 648, 649, 601, 602, 603, 604, 605, 606, 607, 608, 609, 650, 651, 652, 653, 654, 655, 656, 657, 658, 659, 660, 661] (by decide +kernel) (by decide +kernel)) (goodIn_sub (fun _ h => List.mem_append_left _ (List.mem_append_left _ (List.mem_append_right _ h))) (by decide +kernel))) (goodIn_sub (fun _ h => List.mem_append_right _ h) (by decide +kernel))) (goodIn_sub (fun _ h => List.mem_append_left _ (List.mem_append_right _ h)) (by decide +kernel))
set_option maxRecDepth 20000 in
theorem gL_law_L_plan : GoodIn wsL_law (va_wsS RL 138 yL_plan wsL_plan) := goodIn_app (goodIn_of _ (by decide +kernel)) ggL_law_L_plan
set_option maxRecDepth 20000 in
theorem ggL_law_X5_plan : GoodIn wsL_law wsX5_plan := goodIn_r _ [401, 99, 100, 101, 102, 402, 282, 103, 199, 200, 5, 201, 127, 128, 129, 364, 365, 366, 367, 98, 368, 369, 370, 371, 305, 306, 307, 308, 92, 93, 94, 284, 285, 286, 287, 89, 91, 90, 288, 289, 290, 291, 79, 80, 78, 83, 85, 135, 136, 137, 372, 373, 374, 375, 87, 88, 376, 377, 378, 379, 380, 381, 382, 86, 95, 96, 97, 130, 131, 132, 133, 134, 610, 611, 612, 613, 614, 615, 616, 617, 618, 619, 620, 621, 622, 623, 624, 625, 626, 627, 628, 629, 630, 631, 632, 633, 634, 635, 636, 637, 638] (by decide +kernel) (by decide +kernel)
set_option maxRecDepth 20000 in
theorem gL_law_X5_plan : GoodIn wsL_law (wsV RL 140 RX5 yX5_plan wsX5_plan) := goodIn_app (goodIn_of _ (by decide +kernel)) ggL_law_X5_plan
set_option maxRecDepth 20000 in
theorem ggL_law_L_leave : GoodIn wsL_law wsL_leave := goodIn_ca (goodIn_r _ [405, 181, 406, 407, 408, 2, 409, 225, 316, 189, 190, 191, 192, 193, 194, 14, 245, 246, 247, 31, 248, 52, 249, 250, 251, 252, 186, 187, 253, 116, 117, 118, 254, 255, 256, 257, 16, 258, 259, 260, 261, 262, 263, 264, 265, 18, 19, 266, 267, 268, 269, 270, 271, 272, 273, 22, 17, 410, 411, 412, 35, 413, 59, 414, 415, 416, 417, 418, 419, 420, 421, 58, 359, 352, 353, 354, 639, 640, 641, 642, 643, 644, 645, 646, 647, 648, 649, 601, 602, 603, 604, 605, 606, 607, 608, 609, 650, 651, 652, 653, 654, 655, 656] (by decide +kernel) (by decide +kernel)) (goodIn_sub (fun _ h => List.mem_append_left _ (List.mem_append_right _ h)) (by decide +kernel))
set_option maxRecDepth 20000 in
theorem gL_law_L_leave : GoodIn wsL_law (va_wsS RL 141 yL_leave wsL_leave) := goodIn_app (goodIn_of _ (by decide +kernel)) ggL_law_L_leave
set_option maxRecDepth 20000 in
theorem ggL_law_X5_leave : GoodIn wsL_law wsX5_leave := goodIn_r _ [425, 89, 91, 95, 97, 282, 96, 199, 200, 5, 201, 127, 128, 129, 130, 131, 132, 133, 134, 278, 279, 280, 281, 81, 283, 92, 284, 285, 286, 287, 90, 288, 289, 290, 291, 79, 80, 78, 83, 85, 135, 136, 137, 376, 377, 378, 610, 611, 612, 613, 614, 615, 616, 617, 618, 619, 620, 621, 622, 623, 624, 625, 626, 627, 628, 629, 630, 631, 632, 633, 634, 635, 636, 637, 638] (by decide +kernel) (by decide +kernel)
set_option maxRecDepth 20000 in
theorem gL_law_X5_leave : GoodIn wsL_law (wsV RL 144 RX5 yX5_leave wsX5_leave) := goodIn_app (goodIn_of _ (by decide +kernel)) ggL_law_X5_leave
set_option maxRecDepth 20000 in
theorem ggL_law_L_closeWeek : GoodIn wsL_law wsL_closeWeek := goodIn_ca (goodIn_ca (goodIn_r _ [428, 218, 429, 430, 431, 2, 432, 223, 224, 22, 23, 433, 434, 435, 436, 189, 190, 191, 192, 193, 194, 14, 335, 336, 337, 338, 316, 188, 332, 339, 340, 341, 342, 343, 344, 345, 346, 186, 187, 225, 253, 299, 300, 116, 117, 118, 254, 255, 256, 257, 16, 258, 259, 260, 31, 261, 52, 262, 263, 264, 265, 18, 19, 347, 348, 349, 350, 209, 210, 351, 352, 353, 354, 355, 356, 357, 35, 358, 58, 359, 60, 59, 437, 438, 439, 440, 441, 442, 25, 443, 32, 36, 46, 47, 45, 444, 445, 446, 44, 48, 447, 448, 449, 450, 53, 54, 451, 71, 72, 73, 452, 453, 454, 455, 61, 456, 457, 458, 459, 460, 333, 20, 390, 391, 392, 393, 461, 462, 463, 39, 464, 65, 66, 69, 67, 68, 601, 602, 603, 604, 605, 606, 607, 608, 609, 639, 640, 641, 642, 643, 644, 645, 646, 647, 648, 649, 650, 651, 652, 653, 654, 655, 656, 657, 658, 659, 660, 661] (by decide +kernel) (by decide +kernel)) (goodIn_sub (fun _ h => List.mem_append_right _ h) (by decide +kernel))) (goodIn_sub (fun _ h => List.mem_append_left _ (List.mem_append_right _ h)) (by decide +kernel))
set_option maxRecDepth 20000 in
theorem gL_law_L_closeWeek : GoodIn wsL_law (va_wsS RL 145 yL_closeWeek wsL_closeWeek) := goodIn_app (goodIn_of _ (by decide +kernel)) ggL_law_L_closeWeek
set_option maxRecDepth 20000 in
theorem ggL_law_X5_closeWeek : GoodIn wsL_law wsX5_closeWeek := goodIn_r _ [468, 282, 402, 130, 131, 132, 5, 133, 134, 469, 470, 471, 472, 89, 95, 87, 88, 92, 94, 93, 98, 473, 474, 475, 476, 364, 365, 366, 367, 368, 369, 370, 371, 305, 306, 307, 308, 284, 285, 286, 287, 91, 90, 288, 289, 290, 291, 79, 80, 78, 83, 85, 135, 136, 137, 372, 373, 374, 375, 376, 377, 378, 379, 380, 381, 382, 86, 96, 97, 477, 478, 479, 480, 102, 99, 103, 100, 101, 82, 127, 128, 129, 610, 611, 612, 613, 614, 615, 616, 617, 618, 619, 620, 621, 622, 623, 624, 625, 626, 627, 628, 629, 630, 631, 632, 633, 634, 635, 636, 637, 638] (by decide +kernel) (by decide +kernel)
set_option maxRecDepth 20000 in
theorem gL_law_X5_closeWeek : GoodIn wsL_law (wsV RL 148 RX5 yX5_closeWeek wsX5_closeWeek) := goodIn_app (goodIn_of _ (by decide +kernel)) ggL_law_X5_closeWeek
set_option maxRecDepth 20000 in
theorem ggL_law_X4_week : GoodIn wsL_law wsX4_week := goodIn_r _ [484, 22, 601, 602, 603, 604, 605, 606, 607, 608, 609] (by decide +kernel) (by decide +kernel)
set_option maxRecDepth 20000 in
theorem gL_law_X4_week : GoodIn wsL_law (wsV RL 149 RX4 yX4_week wsX4_week) := goodIn_app (goodIn_of _ (by decide +kernel)) ggL_law_X4_week
set_option maxRecDepth 20000 in
theorem ggL_law_X5_week : GoodIn wsL_law wsX5_week := goodIn_r _ [488, 134, 282, 610, 611, 612, 613, 614, 615, 616, 617, 618, 619, 620, 621, 622, 623, 624, 625, 626, 627, 628, 629, 630, 631, 632, 633, 634, 635, 636, 637, 638] (by decide +kernel) (by decide +kernel)
set_option maxRecDepth 20000 in
theorem gL_law_X5_week : GoodIn wsL_law (wsV RL 152 RX5 yX5_week wsX5_week) := goodIn_app (goodIn_of _ (by decide +kernel)) ggL_law_X5_week
set_option maxRecDepth 20000 in
theorem ggL_law_X4_term : GoodIn wsL_law wsX4_term := goodIn_r _ [492, 23, 601, 602, 603, 604, 605, 606, 607, 608, 609] (by decide +kernel) (by decide +kernel)
set_option maxRecDepth 20000 in
theorem gL_law_X4_term : GoodIn wsL_law (wsV RL 153 RX4 yX4_term wsX4_term) := goodIn_app (goodIn_of _ (by decide +kernel)) ggL_law_X4_term
set_option maxRecDepth 20000 in
theorem ggL_law_X5_term : GoodIn wsL_law wsX5_term := goodIn_r _ [496, 134, 402, 610, 611, 612, 613, 614, 615, 616, 617, 618, 619, 620, 621, 622, 623, 624, 625, 626, 627, 628, 629, 630, 631, 632, 633, 634, 635, 636, 637, 638] (by decide +kernel) (by decide +kernel)
set_option maxRecDepth 20000 in
theorem gL_law_X5_term : GoodIn wsL_law (wsV RL 156 RX5 yX5_term wsX5_term) := goodIn_app (goodIn_of _ (by decide +kernel)) ggL_law_X5_term
set_option maxRecDepth 20000 in
theorem ggL_law_L_credits : GoodIn wsL_law wsL_credits := goodIn_ca (goodIn_r _ [499, 181, 500, 501, 502, 2, 503, 225, 189, 190, 191, 192, 193, 194, 14, 258, 259, 260, 31, 261, 52, 639, 640, 641, 642, 643, 644, 645, 646, 647, 648, 649, 601, 602, 603, 604, 605, 606, 607, 608, 609, 650, 651, 652] (by decide +kernel) (by decide +kernel)) (goodIn_sub (fun _ h => List.mem_append_left _ (List.mem_append_right _ h)) (by decide +kernel))
set_option maxRecDepth 20000 in
theorem gL_law_L_credits : GoodIn wsL_law (va_wsS RL 157 yL_credits wsL_credits) := goodIn_app (goodIn_of _ (by decide +kernel)) ggL_law_L_credits
set_option maxRecDepth 20000 in
theorem ggL_law_X5_credits : GoodIn wsL_law wsX5_credits := goodIn_r _ [507, 199, 200, 5, 201, 127, 128, 129, 130, 131, 132, 133, 134, 284, 285, 286, 287, 89, 91, 90, 610, 611, 612, 613, 614, 615, 616, 617, 618, 619, 620, 621, 622, 623, 624, 625, 626, 627, 628, 629, 630, 631, 632, 633, 634, 635, 636, 637, 638] (by decide +kernel) (by decide +kernel)
set_option maxRecDepth 20000 in
theorem gL_law_X5_credits : GoodIn wsL_law (wsV RL 159 RX5 yX5_credits wsX5_credits) := goodIn_app (goodIn_of _ (by decide +kernel)) ggL_law_X5_credits
set_option maxRecDepth 20000 in
theorem ggL_law_L_charged : GoodIn wsL_law wsL_charged := goodIn_ca (goodIn_ca (goodIn_r _ [510, 181, 108, 511, 512, 513, 2, 514, 113, 114, 189, 190, 191, 192, 193, 194, 14, 119, 120, 121, 343, 344, 345, 346, 186, 187, 225, 253, 299, 300, 116, 117, 118, 254, 255, 256, 257, 16, 258, 259, 260, 31, 261, 52, 262, 263, 264, 265, 18, 19, 601, 602, 603, 604, 605, 606, 607, 608, 609, 639, 640, 641, 642, 643, 644, 645, 646, 647, 648, 649, 650, 651, 652] (by decide +kernel) (by decide +kernel)) (goodIn_sub (fun _ h => List.mem_append_left _ (List.mem_append_left _ (List.mem_append_right _ h))) (by decide +kernel))) (goodIn_sub (fun _ h => List.mem_append_left _ (List.mem_append_right _ h)) (by decide +kernel))
set_option maxRecDepth 20000 in
theorem gL_law_L_charged : GoodIn wsL_law (va_wsS RL 160 yL_charged wsL_charged) := goodIn_app (goodIn_of _ (by decide +kernel)) ggL_law_L_charged
set_option maxRecDepth 20000 in
theorem ggL_law_X5_charged : GoodIn wsL_law wsX5_charged := goodIn_r _ [518, 199, 200, 5, 201, 127, 128, 129, 130, 131, 132, 133, 134, 305, 306, 307, 308, 92, 93, 94, 284, 285, 286, 287, 89, 91, 90, 288, 289, 290, 291, 79, 80, 78, 83, 85, 135, 136, 137, 610, 611, 612, 613, 614, 615, 616, 617, 618, 619, 620, 621, 622, 623, 624, 625, 626, 627, 628, 629, 630, 631, 632, 633, 634, 635, 636, 637, 638] (by decide +kernel) (by decide +kernel)
set_option maxRecDepth 20000 in
theorem gL_law_X5_charged : GoodIn wsL_law (wsV RL 162 RX5 yX5_charged wsX5_charged) := goodIn_app (goodIn_of _ (by decide +kernel)) ggL_law_X5_charged
set_option maxRecDepth 20000 in
theorem ggL_law_L_sponsored : GoodIn wsL_law wsL_sponsored := goodIn_ca (goodIn_r _ [521, 181, 522, 523, 524, 2, 525, 189, 190, 191, 192, 193, 194, 14, 347, 348, 349, 350, 209, 210, 351, 352, 353, 354, 343, 344, 345, 346, 186, 187, 225, 253, 299, 300, 116, 117, 118, 254, 255, 256, 257, 16, 258, 259, 260, 31, 261, 52, 262, 263, 264, 265, 18, 19, 601, 602, 603, 604, 605, 606, 607, 608, 609, 639, 640, 641, 642, 643, 644, 645, 646, 647, 648, 649, 650, 651, 652] (by decide +kernel) (by decide +kernel)) (goodIn_sub (fun _ h => List.mem_append_left _ (List.mem_append_right _ h)) (by decide +kernel))
set_option maxRecDepth 20000 in
theorem gL_law_L_sponsored : GoodIn wsL_law (va_wsS RL 163 yL_sponsored wsL_sponsored) := goodIn_app (goodIn_of _ (by decide +kernel)) ggL_law_L_sponsored
set_option maxRecDepth 20000 in
theorem ggL_law_X5_sponsored : GoodIn wsL_law wsX5_sponsored := goodIn_r _ [529, 199, 200, 5, 201, 127, 128, 129, 130, 131, 132, 133, 134, 372, 373, 374, 375, 87, 88, 305, 306, 307, 308, 92, 93, 94, 284, 285, 286, 287, 89, 91, 90, 288, 289, 290, 291, 79, 80, 78, 83, 85, 135, 136, 137, 376, 377, 378, 610, 611, 612, 613, 614, 615, 616, 617, 618, 619, 620, 621, 622, 623, 624, 625, 626, 627, 628, 629, 630, 631, 632, 633, 634, 635, 636, 637, 638] (by decide +kernel) (by decide +kernel)
set_option maxRecDepth 20000 in
theorem gL_law_X5_sponsored : GoodIn wsL_law (wsV RL 165 RX5 yX5_sponsored wsX5_sponsored) := goodIn_app (goodIn_of _ (by decide +kernel)) ggL_law_X5_sponsored
set_option maxRecDepth 20000 in
theorem ggL_law_L_used : GoodIn wsL_law wsL_used := goodIn_ca (goodIn_r _ [532, 181, 533, 534, 535, 2, 536, 193, 194, 316, 188, 189, 190, 191, 192, 14, 537, 538, 539, 35, 540, 61, 339, 340, 341, 342, 343, 344, 345, 346, 186, 187, 225, 253, 299, 300, 116, 117, 118, 254, 255, 256, 257, 16, 258, 259, 260, 31, 261, 52, 262, 263, 264, 265, 18, 19, 347, 348, 349, 350, 209, 210, 351, 352, 353, 354, 355, 356, 357, 358, 58, 359, 60, 59, 541, 542, 543, 544, 639, 640, 641, 642, 643, 644, 645, 646, 647, 648, 649, 601, 602, 603, 604, 605, 606, 607, 608, 609, 653, 654, 655, 656, 650, 651, 652] (by decide +kernel) (by decide +kernel)) (goodIn_sub (fun _ h => List.mem_append_left _ (List.mem_append_right _ h)) (by decide +kernel))
set_option maxRecDepth 20000 in
theorem gL_law_L_used : GoodIn wsL_law (va_wsS RL 166 yL_used wsL_used) := goodIn_app (goodIn_of _ (by decide +kernel)) ggL_law_L_used
set_option maxRecDepth 20000 in
theorem ggL_law_X5_used : GoodIn wsL_law wsX5_used := goodIn_r _ [548, 549, 550, 551, 5, 552, 95, 199, 200, 201, 127, 128, 129, 130, 131, 132, 133, 134, 379, 380, 381, 382, 86, 96, 97, 368, 369, 370, 371, 305, 306, 307, 308, 92, 93, 94, 284, 285, 286, 287, 89, 91, 90, 288, 289, 290, 291, 79, 80, 78, 83, 85, 135, 136, 137, 372, 373, 374, 375, 87, 88, 376, 377, 378, 610, 611, 612, 613, 614, 615, 616, 617, 618, 619, 620, 621, 622, 623, 624, 625, 626, 627, 628, 629, 630, 631, 632, 633, 634, 635, 636, 637, 638] (by decide +kernel) (by decide +kernel)
set_option maxRecDepth 20000 in
theorem gL_law_X5_used : GoodIn wsL_law (wsV RL 168 RX5 yX5_used wsX5_used) := goodIn_app (goodIn_of _ (by decide +kernel)) ggL_law_X5_used
set_option maxRecDepth 20000 in
theorem ggL_law_L_amountOf : GoodIn wsL_law wsL_amountOf := goodIn_ca (goodIn_r _ [555, 181, 556, 557, 558, 2, 559, 193, 194, 316, 189, 190, 191, 192, 14, 537, 538, 539, 35, 540, 61, 560, 561, 562, 563, 59, 639, 640, 641, 642, 643, 644, 645, 646, 647, 648, 649, 601, 602, 603, 604, 605, 606, 607, 608, 609, 653, 654, 655, 656] (by decide +kernel) (by decide +kernel)) (goodIn_sub (fun _ h => List.mem_append_left _ (List.mem_append_right _ h)) (by decide +kernel))
set_option maxRecDepth 20000 in
theorem gL_law_L_amountOf : GoodIn wsL_law (va_wsS RL 169 yL_amountOf wsL_amountOf) := goodIn_app (goodIn_of _ (by decide +kernel)) ggL_law_L_amountOf
set_option maxRecDepth 20000 in
theorem ggL_law_X5_amountOf : GoodIn wsL_law wsX5_amountOf := goodIn_r _ [567, 97, 549, 550, 551, 5, 552, 95, 199, 200, 201, 127, 128, 129, 130, 131, 132, 133, 134, 610, 611, 612, 613, 614, 615, 616, 617, 618, 619, 620, 621, 622, 623, 624, 625, 626, 627, 628, 629, 630, 631, 632, 633, 634, 635, 636, 637, 638] (by decide +kernel) (by decide +kernel)
set_option maxRecDepth 20000 in
theorem gL_law_X5_amountOf : GoodIn wsL_law (wsV RL 171 RX5 yX5_amountOf wsX5_amountOf) := goodIn_app (goodIn_of _ (by decide +kernel)) ggL_law_X5_amountOf
set_option maxRecDepth 20000 in
theorem ggL_law_L_paid : GoodIn wsL_law wsL_paid := goodIn_ca (goodIn_r _ [570, 181, 571, 572, 573, 2, 574, 332, 189, 190, 191, 192, 193, 194, 14, 639, 640, 641, 642, 643, 644, 645, 646, 647, 648, 649, 601, 602, 603, 604, 605, 606, 607, 608, 609] (by decide +kernel) (by decide +kernel)) (goodIn_sub (fun _ h => List.mem_append_left _ (List.mem_append_right _ h)) (by decide +kernel))
set_option maxRecDepth 20000 in
theorem gL_law_L_paid : GoodIn wsL_law (va_wsS RL 172 yL_paid wsL_paid) := goodIn_app (goodIn_of _ (by decide +kernel)) ggL_law_L_paid
set_option maxRecDepth 20000 in
theorem ggL_law_X5_paid : GoodIn wsL_law wsX5_paid := goodIn_r _ [578, 98, 199, 200, 5, 201, 127, 128, 129, 130, 131, 132, 133, 134, 610, 611, 612, 613, 614, 615, 616, 617, 618, 619, 620, 621, 622, 623, 624, 625, 626, 627, 628, 629, 630, 631, 632, 633, 634, 635, 636, 637, 638] (by decide +kernel) (by decide +kernel)
set_option maxRecDepth 20000 in
theorem gL_law_X5_paid : GoodIn wsL_law (wsV RL 174 RX5 yX5_paid wsX5_paid) := goodIn_app (goodIn_of _ (by decide +kernel)) ggL_law_X5_paid
set_option maxRecDepth 20000 in
theorem ggL_law_L_owed : GoodIn wsL_law wsL_owed := goodIn_ca (goodIn_r _ [581, 181, 582, 583, 584, 2, 585, 189, 190, 191, 192, 193, 194, 14, 335, 336, 337, 338, 316, 188, 332, 339, 340, 341, 342, 343, 344, 345, 346, 186, 187, 225, 253, 299, 300, 116, 117, 118, 254, 255, 256, 257, 16, 258, 259, 260, 31, 261, 52, 262, 263, 264, 265, 18, 19, 347, 348, 349, 350, 209, 210, 351, 352, 353, 354, 355, 356, 357, 35, 358, 58, 359, 60, 59, 601, 602, 603, 604, 605, 606, 607, 608, 609, 639, 640, 641, 642, 643, 644, 645, 646, 647, 648, 649, 650, 651, 652, 653, 654, 655, 656] (by decide +kernel) (by decide +kernel)) (goodIn_sub (fun _ h => List.mem_append_left _ (List.mem_append_right _ h)) (by decide +kernel))
set_option maxRecDepth 20000 in
theorem gL_law_L_owed : GoodIn wsL_law (va_wsS RL 175 yL_owed wsL_owed) := goodIn_app (goodIn_of _ (by decide +kernel)) ggL_law_L_owed
set_option maxRecDepth 20000 in
theorem ggL_law_X5_owed : GoodIn wsL_law wsX5_owed := goodIn_r _ [589, 199, 200, 5, 201, 127, 128, 129, 130, 131, 132, 133, 134, 364, 365, 366, 367, 98, 368, 369, 370, 371, 305, 306, 307, 308, 92, 93, 94, 284, 285, 286, 287, 89, 91, 90, 288, 289, 290, 291, 79, 80, 78, 83, 85, 135, 136, 137, 372, 373, 374, 375, 87, 88, 376, 377, 378, 379, 380, 381, 382, 86, 95, 96, 97, 610, 611, 612, 613, 614, 615, 616, 617, 618, 619, 620, 621, 622, 623, 624, 625, 626, 627, 628, 629, 630, 631, 632, 633, 634, 635, 636, 637, 638] (by decide +kernel) (by decide +kernel)
set_option maxRecDepth 20000 in
theorem gL_law_X5_owed : GoodIn wsL_law (wsV RL 177 RX5 yX5_owed wsX5_owed) := goodIn_app (goodIn_of _ (by decide +kernel)) ggL_law_X5_owed
set_option maxRecDepth 20000 in
theorem ggL_law_L_hasHold : GoodIn wsL_law wsL_hasHold := goodIn_ca (goodIn_r _ [592, 181, 593, 594, 595, 2, 596, 21, 189, 190, 191, 192, 193, 194, 14, 335, 336, 337, 338, 316, 188, 332, 339, 340, 341, 342, 343, 344, 345, 346, 186, 187, 225, 253, 299, 300, 116, 117, 118, 254, 255, 256, 257, 16, 258, 259, 260, 31, 261, 52, 262, 263, 264, 265, 18, 19, 347, 348, 349, 350, 209, 210, 351, 352, 353, 354, 355, 356, 357, 35, 358, 58, 359, 60, 59, 601, 602, 603, 604, 605, 606, 607, 608, 609, 639, 640, 641, 642, 643, 644, 645, 646, 647, 648, 649, 650, 651, 652, 653, 654, 655, 656] (by decide +kernel) (by decide +kernel)) (goodIn_sub (fun _ h => List.mem_append_left _ (List.mem_append_right _ h)) (by decide +kernel))
set_option maxRecDepth 20000 in
theorem gL_law_L_hasHold : GoodIn wsL_law (va_wsS RL 178 yL_hasHold wsL_hasHold) := goodIn_app (goodIn_of _ (by decide +kernel)) ggL_law_L_hasHold
set_option maxRecDepth 20000 in
theorem ggL_law_X5_hasHold : GoodIn wsL_law wsX5_hasHold := goodIn_r _ [600, 177, 199, 200, 5, 201, 127, 128, 129, 130, 131, 132, 133, 134, 364, 365, 366, 367, 98, 368, 369, 370, 371, 305, 306, 307, 308, 92, 93, 94, 284, 285, 286, 287, 89, 91, 90, 288, 289, 290, 291, 79, 80, 78, 83, 85, 135, 136, 137, 372, 373, 374, 375, 87, 88, 376, 377, 378, 379, 380, 381, 382, 86, 95, 96, 97, 610, 611, 612, 613, 614, 615, 616, 617, 618, 619, 620, 621, 622, 623, 624, 625, 626, 627, 628, 629, 630, 631, 632, 633, 634, 635, 636, 637, 638] (by decide +kernel) (by decide +kernel)
set_option maxRecDepth 20000 in
theorem gL_law_X5_hasHold : GoodIn wsL_law (wsV RL 180 RX5 yX5_hasHold wsX5_hasHold) := goodIn_app (goodIn_of _ (by decide +kernel)) ggL_law_X5_hasHold
end
section
set_option maxRecDepth 20000 in
theorem wsL_law0_r1_in : ∀ w ∈ wsL_law0_r1, w ∈ lw_tbl := fun w h => (goodIn_p wsL_law0_r1 [46, 49] (by decide +kernel) (by decide +kernel) w h).1
set_option maxRecDepth 20000 in
theorem wsL_law0_r2_in : ∀ w ∈ wsL_law0_r2, w ∈ lw_tbl := fun w h => (goodIn_p wsL_law0_r2 [55] (by decide +kernel) (by decide +kernel) w h).1
set_option maxRecDepth 20000 in
theorem wsL_law0_r3_in : ∀ w ∈ wsL_law0_r3, w ∈ lw_tbl := fun w h => (goodIn_p wsL_law0_r3 [61, 79, 98] (by decide +kernel) (by decide +kernel) w h).1
set_option maxRecDepth 20000 in
theorem wsL_law0_r4_in : ∀ w ∈ wsL_law0_r4, w ∈ lw_tbl := fun w h => (goodIn_p wsL_law0_r4 [164, 619] (by decide +kernel) (by decide +kernel) w h).1
set_option maxRecDepth 20000 in
theorem wsL_law0_r5_in : ∀ w ∈ wsL_law0_r5, w ∈ lw_tbl := fun w h => (goodIn_p wsL_law0_r5 [208, 211] (by decide +kernel) (by decide +kernel) w h).1
set_option maxRecDepth 20000 in
theorem wsL_law0_r6_in : ∀ w ∈ wsL_law0_r6, w ∈ lw_tbl := fun w h => (goodIn_p wsL_law0_r6 [215, 717, 720, 725, 728, 713] (by decide +kernel) (by decide +kernel) w h).1
set_option maxRecDepth 20000 in
theorem wsL_law0_r7_in : ∀ w ∈ wsL_law0_r7, w ∈ lw_tbl := fun w h => (goodIn_p wsL_law0_r7 [290, 732, 298, 736] (by decide +kernel) (by decide +kernel) w h).1
set_option maxRecDepth 20000 in
theorem wsL_law0_r8_in : ∀ w ∈ wsL_law0_r8, w ∈ lw_tbl := fun w h => (goodIn_p wsL_law0_r8 [306, 740, 316] (by decide +kernel) (by decide +kernel) w h).1
set_option maxRecDepth 20000 in
theorem wsL_law0_r9_in : ∀ w ∈ wsL_law0_r9, w ∈ lw_tbl := fun w h => (goodIn_p wsL_law0_r9 [320, 745, 748, 344, 752] (by decide +kernel) (by decide +kernel) w h).1
set_option maxRecDepth 20000 in
theorem wsL_law0_r10_in : ∀ w ∈ wsL_law0_r10, w ∈ lw_tbl := fun w h => (goodIn_p wsL_law0_r10 [353, 358, 756] (by decide +kernel) (by decide +kernel) w h).1
set_option maxRecDepth 20000 in
theorem wsL_law0_r11_in : ∀ w ∈ wsL_law0_r11, w ∈ lw_tbl := fun w h => (goodIn_p wsL_law0_r11 [381, 385, 390, 395, 399, 403] (by decide +kernel) (by decide +kernel) w h).1
set_option maxRecDepth 20000 in
theorem wsL_law0_r12_in : ∀ w ∈ wsL_law0_r12, w ∈ lw_tbl := fun w h => (goodIn_p wsL_law0_r12 [407, 411, 415, 760, 764, 768] (by decide +kernel) (by decide +kernel) w h).1
set_option maxRecDepth 20000 in
theorem wsL_law0_r13_in : ∀ w ∈ wsL_law0_r13, w ∈ lw_tbl := fun w h => (goodIn_p wsL_law0_r13 [772, 422, 777, 781] (by decide +kernel) (by decide +kernel) w h).1
set_option maxRecDepth 20000 in
theorem wsL_law0_r14_in : ∀ w ∈ wsL_law0_r14, w ∈ lw_tbl := fun w h => (goodIn_p wsL_law0_r14 [430, 435, 785, 443] (by decide +kernel) (by decide +kernel) w h).1
set_option maxRecDepth 20000 in
theorem wsL_law0_r15_in : ∀ w ∈ wsL_law0_r15, w ∈ lw_tbl := fun w h => (goodIn_p wsL_law0_r15 [448, 452, 456, 460, 463, 467] (by decide +kernel) (by decide +kernel) w h).1
set_option maxRecDepth 20000 in
theorem wsL_law0_r16_in : ∀ w ∈ wsL_law0_r16, w ∈ lw_tbl := fun w h => (goodIn_p wsL_law0_r16 [789, 793, 797, 801, 804, 808] (by decide +kernel) (by decide +kernel) w h).1
set_option maxRecDepth 20000 in
theorem wsL_law0_r17_in : ∀ w ∈ wsL_law0_r17, w ∈ lw_tbl := fun w h => (goodIn_p wsL_law0_r17 [475, 481, 485, 812] (by decide +kernel) (by decide +kernel) w h).1
set_option maxRecDepth 20000 in
theorem wsL_law0_r18_in : ∀ w ∈ wsL_law0_r18, w ∈ lw_tbl := fun w h => (goodIn_p wsL_law0_r18 [492, 496, 500, 504, 816] (by decide +kernel) (by decide +kernel) w h).1
set_option maxRecDepth 20000 in
theorem wsL_law0_r19_in : ∀ w ∈ wsL_law0_r19, w ∈ lw_tbl := fun w h => (goodIn_p wsL_law0_r19 [511, 516, 519, 523, 536, 527, 532] (by decide +kernel) (by decide +kernel) w h).1
set_option maxRecDepth 20000 in
theorem wsL_law0_r20_in : ∀ w ∈ wsL_law0_r20, w ∈ lw_tbl := fun w h => (goodIn_p wsL_law0_r20 [540, 544, 820, 824, 828] (by decide +kernel) (by decide +kernel) w h).1
set_option maxRecDepth 20000 in
theorem wsL_law0_r21_in : ∀ w ∈ wsL_law0_r21, w ∈ lw_tbl := fun w h => (goodIn_p wsL_law0_r21 [832, 196, 836, 200, 840, 551] (by decide +kernel) (by decide +kernel) w h).1
set_option maxRecDepth 20000 in
theorem wsL_law0_r22_in : ∀ w ∈ wsL_law0_r22, w ∈ lw_tbl := fun w h => (goodIn_p wsL_law0_r22 [844, 558, 848, 566] (by decide +kernel) (by decide +kernel) w h).1
set_option maxRecDepth 20000 in
theorem wsL_law0_r23_in : ∀ w ∈ wsL_law0_r23, w ∈ lw_tbl := fun w h => (goodIn_p wsL_law0_r23 [852, 573, 577, 582, 856] (by decide +kernel) (by decide +kernel) w h).1
set_option maxRecDepth 20000 in
theorem wsL_law0_r24_in : ∀ w ∈ wsL_law0_r24, w ∈ lw_tbl := fun w h => (goodIn_p wsL_law0_r24 [860, 589, 593, 864, 600] (by decide +kernel) (by decide +kernel) w h).1
set_option maxRecDepth 20000 in
theorem wsL_law0_r25_in : ∀ w ∈ wsL_law0_r25, w ∈ lw_tbl := fun w h => (goodIn_p wsL_law0_r25 [868, 607, 872, 614] (by decide +kernel) (by decide +kernel) w h).1
set_option maxRecDepth 20000 in
theorem wsL_law0_r26_in : ∀ w ∈ wsL_law0_r26, w ∈ lw_tbl := fun w h => (goodIn_p wsL_law0_r26 [876] (by decide +kernel) (by decide +kernel) w h).1
set_option maxRecDepth 20000 in
theorem wsX40_in0 : ∀ w ∈ wsX40, w ∈ lw_tbl := by decide +kernel
set_option maxRecDepth 20000 in
theorem wsX50_in0 : ∀ w ∈ wsX50, w ∈ lw_tbl := by decide +kernel
set_option maxRecDepth 20000 in
theorem wsX30_in0 : ∀ w ∈ wsX30, w ∈ lw_tbl := by decide +kernel
set_option maxRecDepth 20000 in
theorem wsX10_in0 : ∀ w ∈ wsX10, w ∈ lw_tbl := by decide +kernel
set_option maxRecDepth 20000 in
theorem wsX00_in0 : ∀ w ∈ wsX00, w ∈ lw_tbl := by decide +kernel
set_option maxRecDepth 20000 in
theorem wsX20_in0 : ∀ w ∈ wsX20, w ∈ lw_tbl := by decide +kernel
theorem wsL_law_in0 : ∀ w ∈ wsL_law0, w ∈ lw_tbl := (fun w h => (List.mem_append.mp h).elim ((fun w h => (List.mem_append.mp h).elim ((fun w h => (List.mem_append.mp h).elim ((fun w h => (List.mem_append.mp h).elim ((fun w h => (List.mem_append.mp h).elim ((fun w h => (List.mem_append.mp h).elim ((fun w h => (List.mem_append.mp h).elim ((fun w h => (List.mem_append.mp h).elim (wsL_law0_r1_in w) ((fun w h => (List.mem_append.mp h).elim (wsL_law0_r2_in w) ((fun w h => (List.mem_append.mp h).elim (wsL_law0_r3_in w) ((fun w h => (List.mem_append.mp h).elim (wsL_law0_r4_in w) ((fun w h => (List.mem_append.mp h).elim (wsL_law0_r5_in w) ((fun w h => (List.mem_append.mp h).elim (wsL_law0_r6_in w) ((fun w h => (List.mem_append.mp h).elim (wsL_law0_r7_in w) ((fun w h => (List.mem_append.mp h).elim (wsL_law0_r8_in w) ((fun w h => (List.mem_append.mp h).elim (wsL_law0_r9_in w) ((fun w h => (List.mem_append.mp h).elim (wsL_law0_r10_in w) ((fun w h => (List.mem_append.mp h).elim (wsL_law0_r11_in w) ((fun w h => (List.mem_append.mp h).elim (wsL_law0_r12_in w) ((fun w h => (List.mem_append.mp h).elim (wsL_law0_r13_in w) ((fun w h => (List.mem_append.mp h).elim (wsL_law0_r14_in w) ((fun w h => (List.mem_append.mp h).elim (wsL_law0_r15_in w) ((fun w h => (List.mem_append.mp h).elim (wsL_law0_r16_in w) ((fun w h => (List.mem_append.mp h).elim (wsL_law0_r17_in w) ((fun w h => (List.mem_append.mp h).elim (wsL_law0_r18_in w) ((fun w h => (List.mem_append.mp h).elim (wsL_law0_r19_in w) ((fun w h => (List.mem_append.mp h).elim (wsL_law0_r20_in w) ((fun w h => (List.mem_append.mp h).elim (wsL_law0_r21_in w) ((fun w h => (List.mem_append.mp h).elim (wsL_law0_r22_in w) ((fun w h => (List.mem_append.mp h).elim (wsL_law0_r23_in w) ((fun w h => (List.mem_append.mp h).elim (wsL_law0_r24_in w) ((fun w h => (List.mem_append.mp h).elim (wsL_law0_r25_in w) (wsL_law0_r26_in w)) w)) w)) w)) w)) w)) w)) w)) w)) w)) w)) w)) w)) w)) w)) w)) w)) w)) w)) w)) w)) w)) w)) w)) w)) w) (wsX40_in0 w)) w) (wsX50_in0 w)) w) (wsX30_in0 w)) w) (wsX10_in0 w)) w) (wsX00_in0 w)) w) (wsX20_in0 w)) w) (fun h => absurd h List.not_mem_nil))
theorem wsL_law_x0 : ∀ w ∈ (vx_atS RX4 61 "java/lang/IllegalArgumentException" ["java/lang/RuntimeException", "java/lang/Exception"]).filter goodWord, w ∈ lw_tbl := by decide +kernel
theorem wsL_law_x1 : ∀ w ∈ (vx_atS RX4 120 "java/lang/IndexOutOfBoundsException" ["java/lang/RuntimeException", "java/lang/Exception"]).filter goodWord, w ∈ lw_tbl := by decide +kernel
theorem wsL_law_x2 : ∀ w ∈ (vx_atS RX4 111 "java/lang/IllegalStateException" ["java/lang/RuntimeException", "java/lang/Exception"]).filter goodWord, w ∈ lw_tbl := by decide +kernel
theorem wsL_law_in : ∀ w ∈ wsL_law, w ∈ lw_tbl := fun w h => (List.mem_append.mp h).elim (fun h => (List.mem_append.mp h).elim (fun h => (List.mem_append.mp h).elim (fun h => wsL_law_in0 w h) (fun h => wsL_law_x0 w h)) (fun h => wsL_law_x1 w h)) (fun h => wsL_law_x2 w h)
theorem inlX0 : ∀ w ∈ wsX00, w ∈ wsL_law := fun _ h => List.mem_append_left _ (List.mem_append_left _ (List.mem_append_left _ (List.mem_append_left _ (List.mem_append_left _ (List.mem_append_right _ h)))))
theorem inX0 : ∀ w ∈ wsX00, w ∈ lw_tbl := fun w h => wsL_law_in w (inlX0 w h)
theorem inlX1 : ∀ w ∈ wsX10, w ∈ wsL_law := fun _ h => List.mem_append_left _ (List.mem_append_left _ (List.mem_append_left _ (List.mem_append_left _ (List.mem_append_left _ (List.mem_append_left _ (List.mem_append_right _ h))))))
theorem inX1 : ∀ w ∈ wsX10, w ∈ lw_tbl := fun w h => wsL_law_in w (inlX1 w h)
theorem inlX2 : ∀ w ∈ wsX20, w ∈ wsL_law := fun _ h => List.mem_append_left _ (List.mem_append_left _ (List.mem_append_left _ (List.mem_append_left _ (List.mem_append_right _ h))))
theorem inX2 : ∀ w ∈ wsX20, w ∈ lw_tbl := fun w h => wsL_law_in w (inlX2 w h)
theorem inlX3 : ∀ w ∈ wsX30, w ∈ wsL_law := fun _ h => List.mem_append_left _ (List.mem_append_left _ (List.mem_append_left _ (List.mem_append_left _ (List.mem_append_left _ (List.mem_append_left _ (List.mem_append_left _ (List.mem_append_right _ h)))))))
theorem inX3 : ∀ w ∈ wsX30, w ∈ lw_tbl := fun w h => wsL_law_in w (inlX3 w h)
theorem inlX4 : ∀ w ∈ wsX40, w ∈ wsL_law := fun _ h => List.mem_append_left _ (List.mem_append_left _ (List.mem_append_left _ (List.mem_append_left _ (List.mem_append_left _ (List.mem_append_left _ (List.mem_append_left _ (List.mem_append_left _ (List.mem_append_left _ (List.mem_append_right _ h)))))))))
theorem inX4 : ∀ w ∈ wsX40, w ∈ lw_tbl := fun w h => wsL_law_in w (inlX4 w h)
theorem inlX5 : ∀ w ∈ wsX50, w ∈ wsL_law := fun _ h => List.mem_append_left _ (List.mem_append_left _ (List.mem_append_left _ (List.mem_append_left _ (List.mem_append_left _ (List.mem_append_left _ (List.mem_append_left _ (List.mem_append_left _ (List.mem_append_right _ h))))))))
theorem inX5 : ∀ w ∈ wsX50, w ∈ lw_tbl := fun w h => wsL_law_in w (inlX5 w h)
theorem inJx145de : ∀ w ∈ wsJx145de0, w ∈ lw_tbl := by decide +kernel
theorem inJ9 : ∀ w ∈ wsJ90, w ∈ lw_tbl := by decide +kernel
theorem inJ0 : ∀ w ∈ wsJ00, w ∈ lw_tbl := by decide +kernel
theorem inJ7 : ∀ w ∈ wsJ70, w ∈ lw_tbl := by decide +kernel
end
section
theorem dL_law_0 : decode cL_law 0 = .ok (.new 8, 3) := by decide +kernel
theorem dL_law_3 : decode cL_law 3 = .ok (.dup, 1) := by decide +kernel
theorem dL_law_4 : decode cL_law 4 = .ok (.invokespecial 90, 3) := by decide +kernel
theorem dL_law_7 : decode cL_law 7 = .ok (.astore_n 1, 1) := by decide +kernel
theorem dL_law_8 : decode cL_law 8 = .ok (.new 91, 3) := by decide +kernel
theorem dL_law_11 : decode cL_law 11 = .ok (.dup, 1) := by decide +kernel
theorem dL_law_12 : decode cL_law 12 = .ok (.invokespecial 93, 3) := by decide +kernel
theorem dL_law_15 : decode cL_law 15 = .ok (.astore_n 2, 1) := by decide +kernel
theorem dL_law_16 : decode cL_law 16 = .ok (.iconst 1, 1) := by decide +kernel
theorem dL_law_17 : decode cL_law 17 = .ok (.newarray .long, 2) := by decide +kernel
theorem dL_law_19 : decode cL_law 19 = .ok (.astore_n 3, 1) := by decide +kernel
theorem dL_law_20 : decode cL_law 20 = .ok (.iconst 0, 1) := by decide +kernel
theorem dL_law_21 : decode cL_law 21 = .ok (.istore 4, 2) := by decide +kernel
theorem dL_law_23 : decode cL_law 23 = .ok (.iload 4, 2) := by decide +kernel
theorem dL_law_25 : decode cL_law 25 = .ok (.aload_n 0, 1) := by decide +kernel
theorem dL_law_26 : decode cL_law 26 = .ok (.arraylength, 1) := by decide +kernel
theorem dL_law_27 : decode cL_law 27 = .ok (.iconst 5, 1) := by decide +kernel
theorem dL_law_28 : decode cL_law 28 = .ok (.isub, 1) := by decide +kernel
theorem dL_law_29 : decode cL_law 29 = .ok (.if_icmp .gt 1582, 3) := by decide +kernel
theorem dL_law_32 : decode cL_law 32 = .ok (.aload_n 0, 1) := by decide +kernel
theorem dL_law_33 : decode cL_law 33 = .ok (.iload 4, 2) := by decide +kernel
theorem dL_law_35 : decode cL_law 35 = .ok (.iaload, 1) := by decide +kernel
theorem dL_law_36 : decode cL_law 36 = .ok (.bipush 31, 2) := by decide +kernel
theorem dL_law_38 : decode cL_law 38 = .ok (.iand, 1) := by decide +kernel
theorem dL_law_39 : decode cL_law 39 = .ok (.tableswitch 1566 0 23 #[109, 205, 253, 321, 369, 457, 517, 585, 653, 733, 813, 881, 949, 1005, 1049, 1062, 1075, 1131, 1199, 1255, 1323, 1391, 1447, 1503], 109) := by decide +kernel
theorem dL_law_148 : decode cL_law 148 = .ok (.aload_n 1, 1) := by decide +kernel
theorem dL_law_149 : decode cL_law 149 = .ok (.aload_n 0, 1) := by decide +kernel
theorem dL_law_150 : decode cL_law 150 = .ok (.iload 4, 2) := by decide +kernel
theorem dL_law_152 : decode cL_law 152 = .ok (.iconst 1, 1) := by decide +kernel
theorem dL_law_153 : decode cL_law 153 = .ok (.iadd, 1) := by decide +kernel
theorem dL_law_154 : decode cL_law 154 = .ok (.iaload, 1) := by decide +kernel
theorem dL_law_155 : decode cL_law 155 = .ok (.aload_n 0, 1) := by decide +kernel
theorem dL_law_156 : decode cL_law 156 = .ok (.iload 4, 2) := by decide +kernel
theorem dL_law_158 : decode cL_law 158 = .ok (.iconst 2, 1) := by decide +kernel
theorem dL_law_159 : decode cL_law 159 = .ok (.iadd, 1) := by decide +kernel
theorem dL_law_160 : decode cL_law 160 = .ok (.iaload, 1) := by decide +kernel
theorem dL_law_161 : decode cL_law 161 = .ok (.ifCond .eq 7, 3) := by decide +kernel
theorem dL_law_164 : decode cL_law 164 = .ok (.iconst 1, 1) := by decide +kernel
theorem dL_law_165 : decode cL_law 165 = .ok (.goto 4, 3) := by decide +kernel
theorem dL_law_168 : decode cL_law 168 = .ok (.iconst 0, 1) := by decide +kernel
theorem dL_law_169 : decode cL_law 169 = .ok (.aload_n 0, 1) := by decide +kernel
theorem dL_law_170 : decode cL_law 170 = .ok (.iload 4, 2) := by decide +kernel
theorem dL_law_172 : decode cL_law 172 = .ok (.iconst 3, 1) := by decide +kernel
theorem dL_law_173 : decode cL_law 173 = .ok (.iadd, 1) := by decide +kernel
theorem dL_law_174 : decode cL_law 174 = .ok (.iaload, 1) := by decide +kernel
theorem dL_law_175 : decode cL_law 175 = .ok (.aload_n 3, 1) := by decide +kernel
theorem dL_law_176 : decode cL_law 176 = .ok (.invokestatic 94, 3) := by decide +kernel
theorem dL_law_179 : decode cL_law 179 = .ok (.istore 5, 2) := by decide +kernel
theorem dL_law_181 : decode cL_law 181 = .ok (.aload_n 2, 1) := by decide +kernel
theorem dL_law_182 : decode cL_law 182 = .ok (.aload_n 0, 1) := by decide +kernel
theorem dL_law_183 : decode cL_law 183 = .ok (.iload 4, 2) := by decide +kernel
theorem dL_law_185 : decode cL_law 185 = .ok (.iconst 1, 1) := by decide +kernel
theorem dL_law_186 : decode cL_law 186 = .ok (.iadd, 1) := by decide +kernel
theorem dL_law_187 : decode cL_law 187 = .ok (.iaload, 1) := by decide +kernel
theorem dL_law_188 : decode cL_law 188 = .ok (.aload_n 0, 1) := by decide +kernel
theorem dL_law_189 : decode cL_law 189 = .ok (.iload 4, 2) := by decide +kernel
theorem dL_law_191 : decode cL_law 191 = .ok (.iconst 2, 1) := by decide +kernel
theorem dL_law_192 : decode cL_law 192 = .ok (.iadd, 1) := by decide +kernel
theorem dL_law_193 : decode cL_law 193 = .ok (.iaload, 1) := by decide +kernel
theorem dL_law_194 : decode cL_law 194 = .ok (.ifCond .eq 7, 3) := by decide +kernel
theorem dL_law_197 : decode cL_law 197 = .ok (.iconst 1, 1) := by decide +kernel
theorem dL_law_198 : decode cL_law 198 = .ok (.goto 4, 3) := by decide +kernel
theorem dL_law_201 : decode cL_law 201 = .ok (.iconst 0, 1) := by decide +kernel
theorem dL_law_202 : decode cL_law 202 = .ok (.aload_n 0, 1) := by decide +kernel
theorem dL_law_203 : decode cL_law 203 = .ok (.iload 4, 2) := by decide +kernel
theorem dL_law_205 : decode cL_law 205 = .ok (.iconst 3, 1) := by decide +kernel
theorem dL_law_206 : decode cL_law 206 = .ok (.iadd, 1) := by decide +kernel
theorem dL_law_207 : decode cL_law 207 = .ok (.iaload, 1) := by decide +kernel
theorem dL_law_208 : decode cL_law 208 = .ok (.invokevirtual 99, 3) := by decide +kernel
theorem dL_law_211 : decode cL_law 211 = .ok (.istore 6, 2) := by decide +kernel
theorem dL_law_213 : decode cL_law 213 = .ok (.aload_n 2, 1) := by decide +kernel
theorem dL_law_214 : decode cL_law 214 = .ok (.invokevirtual 100, 3) := by decide +kernel
theorem dL_law_217 : decode cL_law 217 = .ok (.iload 5, 2) := by decide +kernel
theorem dL_law_219 : decode cL_law 219 = .ok (.if_icmp .eq 5, 3) := by decide +kernel
theorem dL_law_222 : decode cL_law 222 = .ok (.iconst 0, 1) := by decide +kernel
theorem dL_law_223 : decode cL_law 223 = .ok (.ireturn, 1) := by decide +kernel
theorem dL_law_224 : decode cL_law 224 = .ok (.iload 5, 2) := by decide +kernel
theorem dL_law_226 : decode cL_law 226 = .ok (.ifCond .ne 15, 3) := by decide +kernel
theorem dL_law_229 : decode cL_law 229 = .ok (.aload_n 3, 1) := by decide +kernel
theorem dL_law_230 : decode cL_law 230 = .ok (.iconst 0, 1) := by decide +kernel
theorem dL_law_231 : decode cL_law 231 = .ok (.laload, 1) := by decide +kernel
theorem dL_law_232 : decode cL_law 232 = .ok (.iload 6, 2) := by decide +kernel
theorem dL_law_234 : decode cL_law 234 = .ok (.i2l, 1) := by decide +kernel
theorem dL_law_235 : decode cL_law 235 = .ok (.lcmp, 1) := by decide +kernel
theorem dL_law_236 : decode cL_law 236 = .ok (.ifCond .eq 5, 3) := by decide +kernel
theorem dL_law_239 : decode cL_law 239 = .ok (.iconst 0, 1) := by decide +kernel
theorem dL_law_240 : decode cL_law 240 = .ok (.ireturn, 1) := by decide +kernel
theorem dL_law_241 : decode cL_law 241 = .ok (.goto 1364, 3) := by decide +kernel
theorem dL_law_244 : decode cL_law 244 = .ok (.aload_n 1, 1) := by decide +kernel
theorem dL_law_245 : decode cL_law 245 = .ok (.aload_n 0, 1) := by decide +kernel
theorem dL_law_246 : decode cL_law 246 = .ok (.iload 4, 2) := by decide +kernel
theorem dL_law_248 : decode cL_law 248 = .ok (.iconst 1, 1) := by decide +kernel
theorem dL_law_249 : decode cL_law 249 = .ok (.iadd, 1) := by decide +kernel
theorem dL_law_250 : decode cL_law 250 = .ok (.iaload, 1) := by decide +kernel
theorem dL_law_251 : decode cL_law 251 = .ok (.aload_n 0, 1) := by decide +kernel
theorem dL_law_252 : decode cL_law 252 = .ok (.iload 4, 2) := by decide +kernel
theorem dL_law_254 : decode cL_law 254 = .ok (.iconst 2, 1) := by decide +kernel
theorem dL_law_255 : decode cL_law 255 = .ok (.iadd, 1) := by decide +kernel
theorem dL_law_256 : decode cL_law 256 = .ok (.iaload, 1) := by decide +kernel
theorem dL_law_257 : decode cL_law 257 = .ok (.invokestatic 103, 3) := by decide +kernel
theorem dL_law_260 : decode cL_law 260 = .ok (.istore 5, 2) := by decide +kernel
theorem dL_law_262 : decode cL_law 262 = .ok (.aload_n 2, 1) := by decide +kernel
theorem dL_law_263 : decode cL_law 263 = .ok (.aload_n 0, 1) := by decide +kernel
theorem dL_law_264 : decode cL_law 264 = .ok (.iload 4, 2) := by decide +kernel
theorem dL_law_266 : decode cL_law 266 = .ok (.iconst 1, 1) := by decide +kernel
theorem dL_law_267 : decode cL_law 267 = .ok (.iadd, 1) := by decide +kernel
theorem dL_law_268 : decode cL_law 268 = .ok (.iaload, 1) := by decide +kernel
theorem dL_law_269 : decode cL_law 269 = .ok (.aload_n 0, 1) := by decide +kernel
theorem dL_law_270 : decode cL_law 270 = .ok (.iload 4, 2) := by decide +kernel
theorem dL_law_272 : decode cL_law 272 = .ok (.iconst 2, 1) := by decide +kernel
end
section
theorem dL_law_273 : decode cL_law 273 = .ok (.iadd, 1) := by decide +kernel
theorem dL_law_274 : decode cL_law 274 = .ok (.iaload, 1) := by decide +kernel
theorem dL_law_275 : decode cL_law 275 = .ok (.invokevirtual 106, 3) := by decide +kernel
theorem dL_law_278 : decode cL_law 278 = .ok (.aload_n 2, 1) := by decide +kernel
theorem dL_law_279 : decode cL_law 279 = .ok (.invokevirtual 100, 3) := by decide +kernel
theorem dL_law_282 : decode cL_law 282 = .ok (.iload 5, 2) := by decide +kernel
theorem dL_law_284 : decode cL_law 284 = .ok (.if_icmp .eq 5, 3) := by decide +kernel
theorem dL_law_287 : decode cL_law 287 = .ok (.iconst 0, 1) := by decide +kernel
theorem dL_law_288 : decode cL_law 288 = .ok (.ireturn, 1) := by decide +kernel
theorem dL_law_289 : decode cL_law 289 = .ok (.goto 1316, 3) := by decide +kernel
theorem dL_law_292 : decode cL_law 292 = .ok (.aload_n 1, 1) := by decide +kernel
theorem dL_law_293 : decode cL_law 293 = .ok (.aload_n 0, 1) := by decide +kernel
theorem dL_law_294 : decode cL_law 294 = .ok (.iload 4, 2) := by decide +kernel
theorem dL_law_296 : decode cL_law 296 = .ok (.iconst 1, 1) := by decide +kernel
theorem dL_law_297 : decode cL_law 297 = .ok (.iadd, 1) := by decide +kernel
theorem dL_law_298 : decode cL_law 298 = .ok (.iaload, 1) := by decide +kernel
theorem dL_law_299 : decode cL_law 299 = .ok (.aload_n 0, 1) := by decide +kernel
theorem dL_law_300 : decode cL_law 300 = .ok (.iload 4, 2) := by decide +kernel
theorem dL_law_302 : decode cL_law 302 = .ok (.iconst 2, 1) := by decide +kernel
theorem dL_law_303 : decode cL_law 303 = .ok (.iadd, 1) := by decide +kernel
theorem dL_law_304 : decode cL_law 304 = .ok (.iaload, 1) := by decide +kernel
theorem dL_law_305 : decode cL_law 305 = .ok (.aload_n 3, 1) := by decide +kernel
theorem dL_law_306 : decode cL_law 306 = .ok (.invokestatic 107, 3) := by decide +kernel
theorem dL_law_309 : decode cL_law 309 = .ok (.istore 5, 2) := by decide +kernel
theorem dL_law_311 : decode cL_law 311 = .ok (.aload_n 2, 1) := by decide +kernel
theorem dL_law_312 : decode cL_law 312 = .ok (.aload_n 0, 1) := by decide +kernel
theorem dL_law_313 : decode cL_law 313 = .ok (.iload 4, 2) := by decide +kernel
theorem dL_law_315 : decode cL_law 315 = .ok (.iconst 1, 1) := by decide +kernel
theorem dL_law_316 : decode cL_law 316 = .ok (.iadd, 1) := by decide +kernel
theorem dL_law_317 : decode cL_law 317 = .ok (.iaload, 1) := by decide +kernel
theorem dL_law_318 : decode cL_law 318 = .ok (.aload_n 0, 1) := by decide +kernel
theorem dL_law_319 : decode cL_law 319 = .ok (.iload 4, 2) := by decide +kernel
theorem dL_law_321 : decode cL_law 321 = .ok (.iconst 2, 1) := by decide +kernel
theorem dL_law_322 : decode cL_law 322 = .ok (.iadd, 1) := by decide +kernel
theorem dL_law_323 : decode cL_law 323 = .ok (.iaload, 1) := by decide +kernel
theorem dL_law_324 : decode cL_law 324 = .ok (.invokevirtual 110, 3) := by decide +kernel
theorem dL_law_327 : decode cL_law 327 = .ok (.istore 6, 2) := by decide +kernel
theorem dL_law_329 : decode cL_law 329 = .ok (.aload_n 2, 1) := by decide +kernel
theorem dL_law_330 : decode cL_law 330 = .ok (.invokevirtual 100, 3) := by decide +kernel
theorem dL_law_333 : decode cL_law 333 = .ok (.iload 5, 2) := by decide +kernel
theorem dL_law_335 : decode cL_law 335 = .ok (.if_icmp .eq 5, 3) := by decide +kernel
theorem dL_law_338 : decode cL_law 338 = .ok (.iconst 0, 1) := by decide +kernel
theorem dL_law_339 : decode cL_law 339 = .ok (.ireturn, 1) := by decide +kernel
theorem dL_law_340 : decode cL_law 340 = .ok (.iload 5, 2) := by decide +kernel
theorem dL_law_342 : decode cL_law 342 = .ok (.ifCond .ne 15, 3) := by decide +kernel
theorem dL_law_345 : decode cL_law 345 = .ok (.aload_n 3, 1) := by decide +kernel
theorem dL_law_346 : decode cL_law 346 = .ok (.iconst 0, 1) := by decide +kernel
theorem dL_law_347 : decode cL_law 347 = .ok (.laload, 1) := by decide +kernel
theorem dL_law_348 : decode cL_law 348 = .ok (.iload 6, 2) := by decide +kernel
theorem dL_law_350 : decode cL_law 350 = .ok (.i2l, 1) := by decide +kernel
theorem dL_law_351 : decode cL_law 351 = .ok (.lcmp, 1) := by decide +kernel
theorem dL_law_352 : decode cL_law 352 = .ok (.ifCond .eq 5, 3) := by decide +kernel
theorem dL_law_355 : decode cL_law 355 = .ok (.iconst 0, 1) := by decide +kernel
theorem dL_law_356 : decode cL_law 356 = .ok (.ireturn, 1) := by decide +kernel
theorem dL_law_357 : decode cL_law 357 = .ok (.goto 1248, 3) := by decide +kernel
theorem dL_law_360 : decode cL_law 360 = .ok (.aload_n 1, 1) := by decide +kernel
theorem dL_law_361 : decode cL_law 361 = .ok (.aload_n 0, 1) := by decide +kernel
theorem dL_law_362 : decode cL_law 362 = .ok (.iload 4, 2) := by decide +kernel
theorem dL_law_364 : decode cL_law 364 = .ok (.iconst 1, 1) := by decide +kernel
theorem dL_law_365 : decode cL_law 365 = .ok (.iadd, 1) := by decide +kernel
theorem dL_law_366 : decode cL_law 366 = .ok (.iaload, 1) := by decide +kernel
theorem dL_law_367 : decode cL_law 367 = .ok (.aload_n 0, 1) := by decide +kernel
theorem dL_law_368 : decode cL_law 368 = .ok (.iload 4, 2) := by decide +kernel
theorem dL_law_370 : decode cL_law 370 = .ok (.iconst 2, 1) := by decide +kernel
theorem dL_law_371 : decode cL_law 371 = .ok (.iadd, 1) := by decide +kernel
theorem dL_law_372 : decode cL_law 372 = .ok (.iaload, 1) := by decide +kernel
theorem dL_law_373 : decode cL_law 373 = .ok (.invokestatic 111, 3) := by decide +kernel
theorem dL_law_376 : decode cL_law 376 = .ok (.istore 5, 2) := by decide +kernel
theorem dL_law_378 : decode cL_law 378 = .ok (.aload_n 2, 1) := by decide +kernel
theorem dL_law_379 : decode cL_law 379 = .ok (.aload_n 0, 1) := by decide +kernel
theorem dL_law_380 : decode cL_law 380 = .ok (.iload 4, 2) := by decide +kernel
theorem dL_law_382 : decode cL_law 382 = .ok (.iconst 1, 1) := by decide +kernel
theorem dL_law_383 : decode cL_law 383 = .ok (.iadd, 1) := by decide +kernel
theorem dL_law_384 : decode cL_law 384 = .ok (.iaload, 1) := by decide +kernel
theorem dL_law_385 : decode cL_law 385 = .ok (.aload_n 0, 1) := by decide +kernel
theorem dL_law_386 : decode cL_law 386 = .ok (.iload 4, 2) := by decide +kernel
theorem dL_law_388 : decode cL_law 388 = .ok (.iconst 2, 1) := by decide +kernel
theorem dL_law_389 : decode cL_law 389 = .ok (.iadd, 1) := by decide +kernel
theorem dL_law_390 : decode cL_law 390 = .ok (.iaload, 1) := by decide +kernel
theorem dL_law_391 : decode cL_law 391 = .ok (.invokevirtual 113, 3) := by decide +kernel
theorem dL_law_394 : decode cL_law 394 = .ok (.aload_n 2, 1) := by decide +kernel
theorem dL_law_395 : decode cL_law 395 = .ok (.invokevirtual 100, 3) := by decide +kernel
theorem dL_law_398 : decode cL_law 398 = .ok (.iload 5, 2) := by decide +kernel
theorem dL_law_400 : decode cL_law 400 = .ok (.if_icmp .eq 5, 3) := by decide +kernel
theorem dL_law_403 : decode cL_law 403 = .ok (.iconst 0, 1) := by decide +kernel
theorem dL_law_404 : decode cL_law 404 = .ok (.ireturn, 1) := by decide +kernel
theorem dL_law_405 : decode cL_law 405 = .ok (.goto 1200, 3) := by decide +kernel
theorem dL_law_408 : decode cL_law 408 = .ok (.aload_n 1, 1) := by decide +kernel
theorem dL_law_409 : decode cL_law 409 = .ok (.aload_n 0, 1) := by decide +kernel
theorem dL_law_410 : decode cL_law 410 = .ok (.iload 4, 2) := by decide +kernel
theorem dL_law_412 : decode cL_law 412 = .ok (.iconst 1, 1) := by decide +kernel
theorem dL_law_413 : decode cL_law 413 = .ok (.iadd, 1) := by decide +kernel
theorem dL_law_414 : decode cL_law 414 = .ok (.iaload, 1) := by decide +kernel
theorem dL_law_415 : decode cL_law 415 = .ok (.aload_n 0, 1) := by decide +kernel
theorem dL_law_416 : decode cL_law 416 = .ok (.iload 4, 2) := by decide +kernel
theorem dL_law_418 : decode cL_law 418 = .ok (.iconst 2, 1) := by decide +kernel
theorem dL_law_419 : decode cL_law 419 = .ok (.iadd, 1) := by decide +kernel
theorem dL_law_420 : decode cL_law 420 = .ok (.iaload, 1) := by decide +kernel
theorem dL_law_421 : decode cL_law 421 = .ok (.aload_n 0, 1) := by decide +kernel
theorem dL_law_422 : decode cL_law 422 = .ok (.iload 4, 2) := by decide +kernel
theorem dL_law_424 : decode cL_law 424 = .ok (.iconst 3, 1) := by decide +kernel
theorem dL_law_425 : decode cL_law 425 = .ok (.iadd, 1) := by decide +kernel
theorem dL_law_426 : decode cL_law 426 = .ok (.iaload, 1) := by decide +kernel
theorem dL_law_427 : decode cL_law 427 = .ok (.ifCond .eq 7, 3) := by decide +kernel
theorem dL_law_430 : decode cL_law 430 = .ok (.iconst 1, 1) := by decide +kernel
theorem dL_law_431 : decode cL_law 431 = .ok (.goto 4, 3) := by decide +kernel
theorem dL_law_434 : decode cL_law 434 = .ok (.iconst 0, 1) := by decide +kernel
theorem dL_law_435 : decode cL_law 435 = .ok (.aload_n 0, 1) := by decide +kernel
theorem dL_law_436 : decode cL_law 436 = .ok (.iload 4, 2) := by decide +kernel
theorem dL_law_438 : decode cL_law 438 = .ok (.iconst 4, 1) := by decide +kernel
end
section
theorem dL_law_439 : decode cL_law 439 = .ok (.iadd, 1) := by decide +kernel
theorem dL_law_440 : decode cL_law 440 = .ok (.iaload, 1) := by decide +kernel
theorem dL_law_441 : decode cL_law 441 = .ok (.invokestatic 114, 3) := by decide +kernel
theorem dL_law_444 : decode cL_law 444 = .ok (.istore 5, 2) := by decide +kernel
theorem dL_law_446 : decode cL_law 446 = .ok (.aload_n 2, 1) := by decide +kernel
theorem dL_law_447 : decode cL_law 447 = .ok (.aload_n 0, 1) := by decide +kernel
theorem dL_law_448 : decode cL_law 448 = .ok (.iload 4, 2) := by decide +kernel
theorem dL_law_450 : decode cL_law 450 = .ok (.iconst 1, 1) := by decide +kernel
theorem dL_law_451 : decode cL_law 451 = .ok (.iadd, 1) := by decide +kernel
theorem dL_law_452 : decode cL_law 452 = .ok (.iaload, 1) := by decide +kernel
theorem dL_law_453 : decode cL_law 453 = .ok (.aload_n 0, 1) := by decide +kernel
theorem dL_law_454 : decode cL_law 454 = .ok (.iload 4, 2) := by decide +kernel
theorem dL_law_456 : decode cL_law 456 = .ok (.iconst 2, 1) := by decide +kernel
theorem dL_law_457 : decode cL_law 457 = .ok (.iadd, 1) := by decide +kernel
theorem dL_law_458 : decode cL_law 458 = .ok (.iaload, 1) := by decide +kernel
theorem dL_law_459 : decode cL_law 459 = .ok (.aload_n 0, 1) := by decide +kernel
theorem dL_law_460 : decode cL_law 460 = .ok (.iload 4, 2) := by decide +kernel
theorem dL_law_462 : decode cL_law 462 = .ok (.iconst 3, 1) := by decide +kernel
theorem dL_law_463 : decode cL_law 463 = .ok (.iadd, 1) := by decide +kernel
theorem dL_law_464 : decode cL_law 464 = .ok (.iaload, 1) := by decide +kernel
theorem dL_law_465 : decode cL_law 465 = .ok (.ifCond .eq 7, 3) := by decide +kernel
theorem dL_law_468 : decode cL_law 468 = .ok (.iconst 1, 1) := by decide +kernel
theorem dL_law_469 : decode cL_law 469 = .ok (.goto 4, 3) := by decide +kernel
theorem dL_law_472 : decode cL_law 472 = .ok (.iconst 0, 1) := by decide +kernel
theorem dL_law_473 : decode cL_law 473 = .ok (.aload_n 0, 1) := by decide +kernel
theorem dL_law_474 : decode cL_law 474 = .ok (.iload 4, 2) := by decide +kernel
theorem dL_law_476 : decode cL_law 476 = .ok (.iconst 4, 1) := by decide +kernel
theorem dL_law_477 : decode cL_law 477 = .ok (.iadd, 1) := by decide +kernel
theorem dL_law_478 : decode cL_law 478 = .ok (.iaload, 1) := by decide +kernel
theorem dL_law_479 : decode cL_law 479 = .ok (.invokevirtual 117, 3) := by decide +kernel
theorem dL_law_482 : decode cL_law 482 = .ok (.aload_n 2, 1) := by decide +kernel
theorem dL_law_483 : decode cL_law 483 = .ok (.invokevirtual 100, 3) := by decide +kernel
theorem dL_law_486 : decode cL_law 486 = .ok (.iload 5, 2) := by decide +kernel
theorem dL_law_488 : decode cL_law 488 = .ok (.if_icmp .eq 5, 3) := by decide +kernel
theorem dL_law_491 : decode cL_law 491 = .ok (.iconst 0, 1) := by decide +kernel
theorem dL_law_492 : decode cL_law 492 = .ok (.ireturn, 1) := by decide +kernel
theorem dL_law_493 : decode cL_law 493 = .ok (.goto 1112, 3) := by decide +kernel
theorem dL_law_496 : decode cL_law 496 = .ok (.aload_n 1, 1) := by decide +kernel
theorem dL_law_497 : decode cL_law 497 = .ok (.aload_n 0, 1) := by decide +kernel
theorem dL_law_498 : decode cL_law 498 = .ok (.iload 4, 2) := by decide +kernel
theorem dL_law_500 : decode cL_law 500 = .ok (.iconst 1, 1) := by decide +kernel
theorem dL_law_501 : decode cL_law 501 = .ok (.iadd, 1) := by decide +kernel
theorem dL_law_502 : decode cL_law 502 = .ok (.iaload, 1) := by decide +kernel
theorem dL_law_503 : decode cL_law 503 = .ok (.aload_n 0, 1) := by decide +kernel
theorem dL_law_504 : decode cL_law 504 = .ok (.iload 4, 2) := by decide +kernel
theorem dL_law_506 : decode cL_law 506 = .ok (.iconst 2, 1) := by decide +kernel
theorem dL_law_507 : decode cL_law 507 = .ok (.iadd, 1) := by decide +kernel
theorem dL_law_508 : decode cL_law 508 = .ok (.iaload, 1) := by decide +kernel
theorem dL_law_509 : decode cL_law 509 = .ok (.aload_n 0, 1) := by decide +kernel
theorem dL_law_510 : decode cL_law 510 = .ok (.iload 4, 2) := by decide +kernel
theorem dL_law_512 : decode cL_law 512 = .ok (.iconst 3, 1) := by decide +kernel
theorem dL_law_513 : decode cL_law 513 = .ok (.iadd, 1) := by decide +kernel
theorem dL_law_514 : decode cL_law 514 = .ok (.iaload, 1) := by decide +kernel
theorem dL_law_515 : decode cL_law 515 = .ok (.invokestatic 118, 3) := by decide +kernel
theorem dL_law_518 : decode cL_law 518 = .ok (.istore 5, 2) := by decide +kernel
theorem dL_law_520 : decode cL_law 520 = .ok (.aload_n 2, 1) := by decide +kernel
theorem dL_law_521 : decode cL_law 521 = .ok (.aload_n 0, 1) := by decide +kernel
theorem dL_law_522 : decode cL_law 522 = .ok (.iload 4, 2) := by decide +kernel
theorem dL_law_524 : decode cL_law 524 = .ok (.iconst 1, 1) := by decide +kernel
theorem dL_law_525 : decode cL_law 525 = .ok (.iadd, 1) := by decide +kernel
theorem dL_law_526 : decode cL_law 526 = .ok (.iaload, 1) := by decide +kernel
theorem dL_law_527 : decode cL_law 527 = .ok (.aload_n 0, 1) := by decide +kernel
theorem dL_law_528 : decode cL_law 528 = .ok (.iload 4, 2) := by decide +kernel
theorem dL_law_530 : decode cL_law 530 = .ok (.iconst 2, 1) := by decide +kernel
theorem dL_law_531 : decode cL_law 531 = .ok (.iadd, 1) := by decide +kernel
theorem dL_law_532 : decode cL_law 532 = .ok (.iaload, 1) := by decide +kernel
theorem dL_law_533 : decode cL_law 533 = .ok (.aload_n 0, 1) := by decide +kernel
theorem dL_law_534 : decode cL_law 534 = .ok (.iload 4, 2) := by decide +kernel
theorem dL_law_536 : decode cL_law 536 = .ok (.iconst 3, 1) := by decide +kernel
theorem dL_law_537 : decode cL_law 537 = .ok (.iadd, 1) := by decide +kernel
theorem dL_law_538 : decode cL_law 538 = .ok (.iaload, 1) := by decide +kernel
theorem dL_law_539 : decode cL_law 539 = .ok (.invokevirtual 121, 3) := by decide +kernel
theorem dL_law_542 : decode cL_law 542 = .ok (.aload_n 2, 1) := by decide +kernel
theorem dL_law_543 : decode cL_law 543 = .ok (.invokevirtual 100, 3) := by decide +kernel
theorem dL_law_546 : decode cL_law 546 = .ok (.iload 5, 2) := by decide +kernel
theorem dL_law_548 : decode cL_law 548 = .ok (.if_icmp .eq 5, 3) := by decide +kernel
theorem dL_law_551 : decode cL_law 551 = .ok (.iconst 0, 1) := by decide +kernel
theorem dL_law_552 : decode cL_law 552 = .ok (.ireturn, 1) := by decide +kernel
theorem dL_law_553 : decode cL_law 553 = .ok (.goto 1052, 3) := by decide +kernel
theorem dL_law_556 : decode cL_law 556 = .ok (.aload_n 1, 1) := by decide +kernel
theorem dL_law_557 : decode cL_law 557 = .ok (.aload_n 0, 1) := by decide +kernel
theorem dL_law_558 : decode cL_law 558 = .ok (.iload 4, 2) := by decide +kernel
theorem dL_law_560 : decode cL_law 560 = .ok (.iconst 1, 1) := by decide +kernel
theorem dL_law_561 : decode cL_law 561 = .ok (.iadd, 1) := by decide +kernel
theorem dL_law_562 : decode cL_law 562 = .ok (.iaload, 1) := by decide +kernel
theorem dL_law_563 : decode cL_law 563 = .ok (.aload_n 0, 1) := by decide +kernel
theorem dL_law_564 : decode cL_law 564 = .ok (.iload 4, 2) := by decide +kernel
theorem dL_law_566 : decode cL_law 566 = .ok (.iconst 2, 1) := by decide +kernel
theorem dL_law_567 : decode cL_law 567 = .ok (.iadd, 1) := by decide +kernel
theorem dL_law_568 : decode cL_law 568 = .ok (.iaload, 1) := by decide +kernel
theorem dL_law_569 : decode cL_law 569 = .ok (.aload_n 3, 1) := by decide +kernel
theorem dL_law_570 : decode cL_law 570 = .ok (.invokestatic 122, 3) := by decide +kernel
theorem dL_law_573 : decode cL_law 573 = .ok (.istore 5, 2) := by decide +kernel
theorem dL_law_575 : decode cL_law 575 = .ok (.aload_n 2, 1) := by decide +kernel
theorem dL_law_576 : decode cL_law 576 = .ok (.aload_n 0, 1) := by decide +kernel
theorem dL_law_577 : decode cL_law 577 = .ok (.iload 4, 2) := by decide +kernel
theorem dL_law_579 : decode cL_law 579 = .ok (.iconst 1, 1) := by decide +kernel
theorem dL_law_580 : decode cL_law 580 = .ok (.iadd, 1) := by decide +kernel
theorem dL_law_581 : decode cL_law 581 = .ok (.iaload, 1) := by decide +kernel
theorem dL_law_582 : decode cL_law 582 = .ok (.aload_n 0, 1) := by decide +kernel
theorem dL_law_583 : decode cL_law 583 = .ok (.iload 4, 2) := by decide +kernel
theorem dL_law_585 : decode cL_law 585 = .ok (.iconst 2, 1) := by decide +kernel
theorem dL_law_586 : decode cL_law 586 = .ok (.iadd, 1) := by decide +kernel
theorem dL_law_587 : decode cL_law 587 = .ok (.iaload, 1) := by decide +kernel
theorem dL_law_588 : decode cL_law 588 = .ok (.invokevirtual 124, 3) := by decide +kernel
theorem dL_law_591 : decode cL_law 591 = .ok (.istore 6, 2) := by decide +kernel
theorem dL_law_593 : decode cL_law 593 = .ok (.aload_n 2, 1) := by decide +kernel
theorem dL_law_594 : decode cL_law 594 = .ok (.invokevirtual 100, 3) := by decide +kernel
theorem dL_law_597 : decode cL_law 597 = .ok (.iload 5, 2) := by decide +kernel
theorem dL_law_599 : decode cL_law 599 = .ok (.if_icmp .eq 5, 3) := by decide +kernel
end
section
theorem dL_law_602 : decode cL_law 602 = .ok (.iconst 0, 1) := by decide +kernel
theorem dL_law_603 : decode cL_law 603 = .ok (.ireturn, 1) := by decide +kernel
theorem dL_law_604 : decode cL_law 604 = .ok (.iload 5, 2) := by decide +kernel
theorem dL_law_606 : decode cL_law 606 = .ok (.ifCond .ne 15, 3) := by decide +kernel
theorem dL_law_609 : decode cL_law 609 = .ok (.aload_n 3, 1) := by decide +kernel
theorem dL_law_610 : decode cL_law 610 = .ok (.iconst 0, 1) := by decide +kernel
theorem dL_law_611 : decode cL_law 611 = .ok (.laload, 1) := by decide +kernel
theorem dL_law_612 : decode cL_law 612 = .ok (.iload 6, 2) := by decide +kernel
theorem dL_law_614 : decode cL_law 614 = .ok (.i2l, 1) := by decide +kernel
theorem dL_law_615 : decode cL_law 615 = .ok (.lcmp, 1) := by decide +kernel
theorem dL_law_616 : decode cL_law 616 = .ok (.ifCond .eq 5, 3) := by decide +kernel
theorem dL_law_619 : decode cL_law 619 = .ok (.iconst 0, 1) := by decide +kernel
theorem dL_law_620 : decode cL_law 620 = .ok (.ireturn, 1) := by decide +kernel
theorem dL_law_621 : decode cL_law 621 = .ok (.goto 984, 3) := by decide +kernel
theorem dL_law_624 : decode cL_law 624 = .ok (.aload_n 1, 1) := by decide +kernel
theorem dL_law_625 : decode cL_law 625 = .ok (.aload_n 0, 1) := by decide +kernel
theorem dL_law_626 : decode cL_law 626 = .ok (.iload 4, 2) := by decide +kernel
theorem dL_law_628 : decode cL_law 628 = .ok (.iconst 1, 1) := by decide +kernel
theorem dL_law_629 : decode cL_law 629 = .ok (.iadd, 1) := by decide +kernel
theorem dL_law_630 : decode cL_law 630 = .ok (.iaload, 1) := by decide +kernel
theorem dL_law_631 : decode cL_law 631 = .ok (.aload_n 0, 1) := by decide +kernel
theorem dL_law_632 : decode cL_law 632 = .ok (.iload 4, 2) := by decide +kernel
theorem dL_law_634 : decode cL_law 634 = .ok (.iconst 2, 1) := by decide +kernel
theorem dL_law_635 : decode cL_law 635 = .ok (.iadd, 1) := by decide +kernel
theorem dL_law_636 : decode cL_law 636 = .ok (.iaload, 1) := by decide +kernel
theorem dL_law_637 : decode cL_law 637 = .ok (.aload_n 3, 1) := by decide +kernel
theorem dL_law_638 : decode cL_law 638 = .ok (.invokestatic 125, 3) := by decide +kernel
theorem dL_law_641 : decode cL_law 641 = .ok (.istore 5, 2) := by decide +kernel
theorem dL_law_643 : decode cL_law 643 = .ok (.aload_n 2, 1) := by decide +kernel
theorem dL_law_644 : decode cL_law 644 = .ok (.aload_n 0, 1) := by decide +kernel
theorem dL_law_645 : decode cL_law 645 = .ok (.iload 4, 2) := by decide +kernel
theorem dL_law_647 : decode cL_law 647 = .ok (.iconst 1, 1) := by decide +kernel
theorem dL_law_648 : decode cL_law 648 = .ok (.iadd, 1) := by decide +kernel
theorem dL_law_649 : decode cL_law 649 = .ok (.iaload, 1) := by decide +kernel
theorem dL_law_650 : decode cL_law 650 = .ok (.aload_n 0, 1) := by decide +kernel
theorem dL_law_651 : decode cL_law 651 = .ok (.iload 4, 2) := by decide +kernel
theorem dL_law_653 : decode cL_law 653 = .ok (.iconst 2, 1) := by decide +kernel
theorem dL_law_654 : decode cL_law 654 = .ok (.iadd, 1) := by decide +kernel
theorem dL_law_655 : decode cL_law 655 = .ok (.iaload, 1) := by decide +kernel
theorem dL_law_656 : decode cL_law 656 = .ok (.invokevirtual 127, 3) := by decide +kernel
theorem dL_law_659 : decode cL_law 659 = .ok (.istore 6, 2) := by decide +kernel
theorem dL_law_661 : decode cL_law 661 = .ok (.aload_n 2, 1) := by decide +kernel
theorem dL_law_662 : decode cL_law 662 = .ok (.invokevirtual 100, 3) := by decide +kernel
theorem dL_law_665 : decode cL_law 665 = .ok (.iload 5, 2) := by decide +kernel
theorem dL_law_667 : decode cL_law 667 = .ok (.if_icmp .eq 5, 3) := by decide +kernel
theorem dL_law_670 : decode cL_law 670 = .ok (.iconst 0, 1) := by decide +kernel
theorem dL_law_671 : decode cL_law 671 = .ok (.ireturn, 1) := by decide +kernel
theorem dL_law_672 : decode cL_law 672 = .ok (.iload 5, 2) := by decide +kernel
theorem dL_law_674 : decode cL_law 674 = .ok (.ifCond .ne 15, 3) := by decide +kernel
theorem dL_law_677 : decode cL_law 677 = .ok (.aload_n 3, 1) := by decide +kernel
theorem dL_law_678 : decode cL_law 678 = .ok (.iconst 0, 1) := by decide +kernel
theorem dL_law_679 : decode cL_law 679 = .ok (.laload, 1) := by decide +kernel
theorem dL_law_680 : decode cL_law 680 = .ok (.iload 6, 2) := by decide +kernel
theorem dL_law_682 : decode cL_law 682 = .ok (.i2l, 1) := by decide +kernel
theorem dL_law_683 : decode cL_law 683 = .ok (.lcmp, 1) := by decide +kernel
theorem dL_law_684 : decode cL_law 684 = .ok (.ifCond .eq 5, 3) := by decide +kernel
theorem dL_law_687 : decode cL_law 687 = .ok (.iconst 0, 1) := by decide +kernel
theorem dL_law_688 : decode cL_law 688 = .ok (.ireturn, 1) := by decide +kernel
theorem dL_law_689 : decode cL_law 689 = .ok (.goto 916, 3) := by decide +kernel
theorem dL_law_692 : decode cL_law 692 = .ok (.aload_n 1, 1) := by decide +kernel
theorem dL_law_693 : decode cL_law 693 = .ok (.aload_n 0, 1) := by decide +kernel
theorem dL_law_694 : decode cL_law 694 = .ok (.iload 4, 2) := by decide +kernel
theorem dL_law_696 : decode cL_law 696 = .ok (.iconst 1, 1) := by decide +kernel
theorem dL_law_697 : decode cL_law 697 = .ok (.iadd, 1) := by decide +kernel
theorem dL_law_698 : decode cL_law 698 = .ok (.iaload, 1) := by decide +kernel
theorem dL_law_699 : decode cL_law 699 = .ok (.aload_n 0, 1) := by decide +kernel
theorem dL_law_700 : decode cL_law 700 = .ok (.iload 4, 2) := by decide +kernel
theorem dL_law_702 : decode cL_law 702 = .ok (.iconst 2, 1) := by decide +kernel
theorem dL_law_703 : decode cL_law 703 = .ok (.iadd, 1) := by decide +kernel
theorem dL_law_704 : decode cL_law 704 = .ok (.iaload, 1) := by decide +kernel
theorem dL_law_705 : decode cL_law 705 = .ok (.aload_n 0, 1) := by decide +kernel
theorem dL_law_706 : decode cL_law 706 = .ok (.iload 4, 2) := by decide +kernel
theorem dL_law_708 : decode cL_law 708 = .ok (.iconst 3, 1) := by decide +kernel
theorem dL_law_709 : decode cL_law 709 = .ok (.iadd, 1) := by decide +kernel
theorem dL_law_710 : decode cL_law 710 = .ok (.iaload, 1) := by decide +kernel
theorem dL_law_711 : decode cL_law 711 = .ok (.aload_n 3, 1) := by decide +kernel
theorem dL_law_712 : decode cL_law 712 = .ok (.invokestatic 128, 3) := by decide +kernel
theorem dL_law_715 : decode cL_law 715 = .ok (.istore 5, 2) := by decide +kernel
theorem dL_law_717 : decode cL_law 717 = .ok (.aload_n 2, 1) := by decide +kernel
theorem dL_law_718 : decode cL_law 718 = .ok (.aload_n 0, 1) := by decide +kernel
theorem dL_law_719 : decode cL_law 719 = .ok (.iload 4, 2) := by decide +kernel
theorem dL_law_721 : decode cL_law 721 = .ok (.iconst 1, 1) := by decide +kernel
theorem dL_law_722 : decode cL_law 722 = .ok (.iadd, 1) := by decide +kernel
theorem dL_law_723 : decode cL_law 723 = .ok (.iaload, 1) := by decide +kernel
theorem dL_law_724 : decode cL_law 724 = .ok (.aload_n 0, 1) := by decide +kernel
theorem dL_law_725 : decode cL_law 725 = .ok (.iload 4, 2) := by decide +kernel
theorem dL_law_727 : decode cL_law 727 = .ok (.iconst 2, 1) := by decide +kernel
theorem dL_law_728 : decode cL_law 728 = .ok (.iadd, 1) := by decide +kernel
theorem dL_law_729 : decode cL_law 729 = .ok (.iaload, 1) := by decide +kernel
theorem dL_law_730 : decode cL_law 730 = .ok (.aload_n 0, 1) := by decide +kernel
theorem dL_law_731 : decode cL_law 731 = .ok (.iload 4, 2) := by decide +kernel
theorem dL_law_733 : decode cL_law 733 = .ok (.iconst 3, 1) := by decide +kernel
theorem dL_law_734 : decode cL_law 734 = .ok (.iadd, 1) := by decide +kernel
theorem dL_law_735 : decode cL_law 735 = .ok (.iaload, 1) := by decide +kernel
theorem dL_law_736 : decode cL_law 736 = .ok (.invokevirtual 131, 3) := by decide +kernel
theorem dL_law_739 : decode cL_law 739 = .ok (.istore 6, 2) := by decide +kernel
theorem dL_law_741 : decode cL_law 741 = .ok (.aload_n 2, 1) := by decide +kernel
theorem dL_law_742 : decode cL_law 742 = .ok (.invokevirtual 100, 3) := by decide +kernel
theorem dL_law_745 : decode cL_law 745 = .ok (.iload 5, 2) := by decide +kernel
theorem dL_law_747 : decode cL_law 747 = .ok (.if_icmp .eq 5, 3) := by decide +kernel
theorem dL_law_750 : decode cL_law 750 = .ok (.iconst 0, 1) := by decide +kernel
theorem dL_law_751 : decode cL_law 751 = .ok (.ireturn, 1) := by decide +kernel
theorem dL_law_752 : decode cL_law 752 = .ok (.iload 5, 2) := by decide +kernel
theorem dL_law_754 : decode cL_law 754 = .ok (.ifCond .ne 15, 3) := by decide +kernel
theorem dL_law_757 : decode cL_law 757 = .ok (.aload_n 3, 1) := by decide +kernel
theorem dL_law_758 : decode cL_law 758 = .ok (.iconst 0, 1) := by decide +kernel
theorem dL_law_759 : decode cL_law 759 = .ok (.laload, 1) := by decide +kernel
theorem dL_law_760 : decode cL_law 760 = .ok (.iload 6, 2) := by decide +kernel
theorem dL_law_762 : decode cL_law 762 = .ok (.i2l, 1) := by decide +kernel
theorem dL_law_763 : decode cL_law 763 = .ok (.lcmp, 1) := by decide +kernel
end
section
theorem dL_law_764 : decode cL_law 764 = .ok (.ifCond .eq 5, 3) := by decide +kernel
theorem dL_law_767 : decode cL_law 767 = .ok (.iconst 0, 1) := by decide +kernel
theorem dL_law_768 : decode cL_law 768 = .ok (.ireturn, 1) := by decide +kernel
theorem dL_law_769 : decode cL_law 769 = .ok (.goto 836, 3) := by decide +kernel
theorem dL_law_772 : decode cL_law 772 = .ok (.aload_n 1, 1) := by decide +kernel
theorem dL_law_773 : decode cL_law 773 = .ok (.aload_n 0, 1) := by decide +kernel
theorem dL_law_774 : decode cL_law 774 = .ok (.iload 4, 2) := by decide +kernel
theorem dL_law_776 : decode cL_law 776 = .ok (.iconst 1, 1) := by decide +kernel
theorem dL_law_777 : decode cL_law 777 = .ok (.iadd, 1) := by decide +kernel
theorem dL_law_778 : decode cL_law 778 = .ok (.iaload, 1) := by decide +kernel
theorem dL_law_779 : decode cL_law 779 = .ok (.aload_n 0, 1) := by decide +kernel
theorem dL_law_780 : decode cL_law 780 = .ok (.iload 4, 2) := by decide +kernel
theorem dL_law_782 : decode cL_law 782 = .ok (.iconst 2, 1) := by decide +kernel
theorem dL_law_783 : decode cL_law 783 = .ok (.iadd, 1) := by decide +kernel
theorem dL_law_784 : decode cL_law 784 = .ok (.iaload, 1) := by decide +kernel
theorem dL_law_785 : decode cL_law 785 = .ok (.aload_n 0, 1) := by decide +kernel
theorem dL_law_786 : decode cL_law 786 = .ok (.iload 4, 2) := by decide +kernel
theorem dL_law_788 : decode cL_law 788 = .ok (.iconst 3, 1) := by decide +kernel
theorem dL_law_789 : decode cL_law 789 = .ok (.iadd, 1) := by decide +kernel
theorem dL_law_790 : decode cL_law 790 = .ok (.iaload, 1) := by decide +kernel
theorem dL_law_791 : decode cL_law 791 = .ok (.aload_n 3, 1) := by decide +kernel
theorem dL_law_792 : decode cL_law 792 = .ok (.invokestatic 132, 3) := by decide +kernel
theorem dL_law_795 : decode cL_law 795 = .ok (.istore 5, 2) := by decide +kernel
theorem dL_law_797 : decode cL_law 797 = .ok (.aload_n 2, 1) := by decide +kernel
theorem dL_law_798 : decode cL_law 798 = .ok (.aload_n 0, 1) := by decide +kernel
theorem dL_law_799 : decode cL_law 799 = .ok (.iload 4, 2) := by decide +kernel
theorem dL_law_801 : decode cL_law 801 = .ok (.iconst 1, 1) := by decide +kernel
theorem dL_law_802 : decode cL_law 802 = .ok (.iadd, 1) := by decide +kernel
theorem dL_law_803 : decode cL_law 803 = .ok (.iaload, 1) := by decide +kernel
theorem dL_law_804 : decode cL_law 804 = .ok (.aload_n 0, 1) := by decide +kernel
theorem dL_law_805 : decode cL_law 805 = .ok (.iload 4, 2) := by decide +kernel
theorem dL_law_807 : decode cL_law 807 = .ok (.iconst 2, 1) := by decide +kernel
theorem dL_law_808 : decode cL_law 808 = .ok (.iadd, 1) := by decide +kernel
theorem dL_law_809 : decode cL_law 809 = .ok (.iaload, 1) := by decide +kernel
theorem dL_law_810 : decode cL_law 810 = .ok (.aload_n 0, 1) := by decide +kernel
theorem dL_law_811 : decode cL_law 811 = .ok (.iload 4, 2) := by decide +kernel
theorem dL_law_813 : decode cL_law 813 = .ok (.iconst 3, 1) := by decide +kernel
theorem dL_law_814 : decode cL_law 814 = .ok (.iadd, 1) := by decide +kernel
theorem dL_law_815 : decode cL_law 815 = .ok (.iaload, 1) := by decide +kernel
theorem dL_law_816 : decode cL_law 816 = .ok (.invokevirtual 134, 3) := by decide +kernel
theorem dL_law_819 : decode cL_law 819 = .ok (.istore 6, 2) := by decide +kernel
theorem dL_law_821 : decode cL_law 821 = .ok (.aload_n 2, 1) := by decide +kernel
theorem dL_law_822 : decode cL_law 822 = .ok (.invokevirtual 100, 3) := by decide +kernel
theorem dL_law_825 : decode cL_law 825 = .ok (.iload 5, 2) := by decide +kernel
theorem dL_law_827 : decode cL_law 827 = .ok (.if_icmp .eq 5, 3) := by decide +kernel
theorem dL_law_830 : decode cL_law 830 = .ok (.iconst 0, 1) := by decide +kernel
theorem dL_law_831 : decode cL_law 831 = .ok (.ireturn, 1) := by decide +kernel
theorem dL_law_832 : decode cL_law 832 = .ok (.iload 5, 2) := by decide +kernel
theorem dL_law_834 : decode cL_law 834 = .ok (.ifCond .ne 15, 3) := by decide +kernel
theorem dL_law_837 : decode cL_law 837 = .ok (.aload_n 3, 1) := by decide +kernel
theorem dL_law_838 : decode cL_law 838 = .ok (.iconst 0, 1) := by decide +kernel
theorem dL_law_839 : decode cL_law 839 = .ok (.laload, 1) := by decide +kernel
theorem dL_law_840 : decode cL_law 840 = .ok (.iload 6, 2) := by decide +kernel
theorem dL_law_842 : decode cL_law 842 = .ok (.i2l, 1) := by decide +kernel
theorem dL_law_843 : decode cL_law 843 = .ok (.lcmp, 1) := by decide +kernel
theorem dL_law_844 : decode cL_law 844 = .ok (.ifCond .eq 5, 3) := by decide +kernel
theorem dL_law_847 : decode cL_law 847 = .ok (.iconst 0, 1) := by decide +kernel
theorem dL_law_848 : decode cL_law 848 = .ok (.ireturn, 1) := by decide +kernel
theorem dL_law_849 : decode cL_law 849 = .ok (.goto 756, 3) := by decide +kernel
theorem dL_law_852 : decode cL_law 852 = .ok (.aload_n 1, 1) := by decide +kernel
theorem dL_law_853 : decode cL_law 853 = .ok (.aload_n 0, 1) := by decide +kernel
theorem dL_law_854 : decode cL_law 854 = .ok (.iload 4, 2) := by decide +kernel
theorem dL_law_856 : decode cL_law 856 = .ok (.iconst 1, 1) := by decide +kernel
theorem dL_law_857 : decode cL_law 857 = .ok (.iadd, 1) := by decide +kernel
theorem dL_law_858 : decode cL_law 858 = .ok (.iaload, 1) := by decide +kernel
theorem dL_law_859 : decode cL_law 859 = .ok (.aload_n 0, 1) := by decide +kernel
theorem dL_law_860 : decode cL_law 860 = .ok (.iload 4, 2) := by decide +kernel
theorem dL_law_862 : decode cL_law 862 = .ok (.iconst 2, 1) := by decide +kernel
theorem dL_law_863 : decode cL_law 863 = .ok (.iadd, 1) := by decide +kernel
theorem dL_law_864 : decode cL_law 864 = .ok (.iaload, 1) := by decide +kernel
theorem dL_law_865 : decode cL_law 865 = .ok (.aload_n 3, 1) := by decide +kernel
theorem dL_law_866 : decode cL_law 866 = .ok (.invokestatic 135, 3) := by decide +kernel
theorem dL_law_869 : decode cL_law 869 = .ok (.istore 5, 2) := by decide +kernel
theorem dL_law_871 : decode cL_law 871 = .ok (.aload_n 2, 1) := by decide +kernel
theorem dL_law_872 : decode cL_law 872 = .ok (.aload_n 0, 1) := by decide +kernel
theorem dL_law_873 : decode cL_law 873 = .ok (.iload 4, 2) := by decide +kernel
theorem dL_law_875 : decode cL_law 875 = .ok (.iconst 1, 1) := by decide +kernel
theorem dL_law_876 : decode cL_law 876 = .ok (.iadd, 1) := by decide +kernel
theorem dL_law_877 : decode cL_law 877 = .ok (.iaload, 1) := by decide +kernel
theorem dL_law_878 : decode cL_law 878 = .ok (.aload_n 0, 1) := by decide +kernel
theorem dL_law_879 : decode cL_law 879 = .ok (.iload 4, 2) := by decide +kernel
theorem dL_law_881 : decode cL_law 881 = .ok (.iconst 2, 1) := by decide +kernel
theorem dL_law_882 : decode cL_law 882 = .ok (.iadd, 1) := by decide +kernel
theorem dL_law_883 : decode cL_law 883 = .ok (.iaload, 1) := by decide +kernel
theorem dL_law_884 : decode cL_law 884 = .ok (.invokevirtual 137, 3) := by decide +kernel
theorem dL_law_887 : decode cL_law 887 = .ok (.istore 6, 2) := by decide +kernel
theorem dL_law_889 : decode cL_law 889 = .ok (.aload_n 2, 1) := by decide +kernel
theorem dL_law_890 : decode cL_law 890 = .ok (.invokevirtual 100, 3) := by decide +kernel
theorem dL_law_893 : decode cL_law 893 = .ok (.iload 5, 2) := by decide +kernel
theorem dL_law_895 : decode cL_law 895 = .ok (.if_icmp .eq 5, 3) := by decide +kernel
theorem dL_law_898 : decode cL_law 898 = .ok (.iconst 0, 1) := by decide +kernel
theorem dL_law_899 : decode cL_law 899 = .ok (.ireturn, 1) := by decide +kernel
theorem dL_law_900 : decode cL_law 900 = .ok (.iload 5, 2) := by decide +kernel
theorem dL_law_902 : decode cL_law 902 = .ok (.ifCond .ne 15, 3) := by decide +kernel
theorem dL_law_905 : decode cL_law 905 = .ok (.aload_n 3, 1) := by decide +kernel
theorem dL_law_906 : decode cL_law 906 = .ok (.iconst 0, 1) := by decide +kernel
theorem dL_law_907 : decode cL_law 907 = .ok (.laload, 1) := by decide +kernel
theorem dL_law_908 : decode cL_law 908 = .ok (.iload 6, 2) := by decide +kernel
theorem dL_law_910 : decode cL_law 910 = .ok (.i2l, 1) := by decide +kernel
theorem dL_law_911 : decode cL_law 911 = .ok (.lcmp, 1) := by decide +kernel
theorem dL_law_912 : decode cL_law 912 = .ok (.ifCond .eq 5, 3) := by decide +kernel
theorem dL_law_915 : decode cL_law 915 = .ok (.iconst 0, 1) := by decide +kernel
theorem dL_law_916 : decode cL_law 916 = .ok (.ireturn, 1) := by decide +kernel
theorem dL_law_917 : decode cL_law 917 = .ok (.goto 688, 3) := by decide +kernel
theorem dL_law_920 : decode cL_law 920 = .ok (.aload_n 1, 1) := by decide +kernel
theorem dL_law_921 : decode cL_law 921 = .ok (.aload_n 0, 1) := by decide +kernel
theorem dL_law_922 : decode cL_law 922 = .ok (.iload 4, 2) := by decide +kernel
theorem dL_law_924 : decode cL_law 924 = .ok (.iconst 1, 1) := by decide +kernel
theorem dL_law_925 : decode cL_law 925 = .ok (.iadd, 1) := by decide +kernel
theorem dL_law_926 : decode cL_law 926 = .ok (.iaload, 1) := by decide +kernel
end
section
theorem dL_law_927 : decode cL_law 927 = .ok (.aload_n 0, 1) := by decide +kernel
theorem dL_law_928 : decode cL_law 928 = .ok (.iload 4, 2) := by decide +kernel
theorem dL_law_930 : decode cL_law 930 = .ok (.iconst 2, 1) := by decide +kernel
theorem dL_law_931 : decode cL_law 931 = .ok (.iadd, 1) := by decide +kernel
theorem dL_law_932 : decode cL_law 932 = .ok (.iaload, 1) := by decide +kernel
theorem dL_law_933 : decode cL_law 933 = .ok (.aload_n 3, 1) := by decide +kernel
theorem dL_law_934 : decode cL_law 934 = .ok (.invokestatic 138, 3) := by decide +kernel
theorem dL_law_937 : decode cL_law 937 = .ok (.istore 5, 2) := by decide +kernel
theorem dL_law_939 : decode cL_law 939 = .ok (.aload_n 2, 1) := by decide +kernel
theorem dL_law_940 : decode cL_law 940 = .ok (.aload_n 0, 1) := by decide +kernel
theorem dL_law_941 : decode cL_law 941 = .ok (.iload 4, 2) := by decide +kernel
theorem dL_law_943 : decode cL_law 943 = .ok (.iconst 1, 1) := by decide +kernel
theorem dL_law_944 : decode cL_law 944 = .ok (.iadd, 1) := by decide +kernel
theorem dL_law_945 : decode cL_law 945 = .ok (.iaload, 1) := by decide +kernel
theorem dL_law_946 : decode cL_law 946 = .ok (.aload_n 0, 1) := by decide +kernel
theorem dL_law_947 : decode cL_law 947 = .ok (.iload 4, 2) := by decide +kernel
theorem dL_law_949 : decode cL_law 949 = .ok (.iconst 2, 1) := by decide +kernel
theorem dL_law_950 : decode cL_law 950 = .ok (.iadd, 1) := by decide +kernel
theorem dL_law_951 : decode cL_law 951 = .ok (.iaload, 1) := by decide +kernel
theorem dL_law_952 : decode cL_law 952 = .ok (.invokevirtual 140, 3) := by decide +kernel
theorem dL_law_955 : decode cL_law 955 = .ok (.istore 6, 2) := by decide +kernel
theorem dL_law_957 : decode cL_law 957 = .ok (.aload_n 2, 1) := by decide +kernel
theorem dL_law_958 : decode cL_law 958 = .ok (.invokevirtual 100, 3) := by decide +kernel
theorem dL_law_961 : decode cL_law 961 = .ok (.iload 5, 2) := by decide +kernel
theorem dL_law_963 : decode cL_law 963 = .ok (.if_icmp .eq 5, 3) := by decide +kernel
theorem dL_law_966 : decode cL_law 966 = .ok (.iconst 0, 1) := by decide +kernel
theorem dL_law_967 : decode cL_law 967 = .ok (.ireturn, 1) := by decide +kernel
theorem dL_law_968 : decode cL_law 968 = .ok (.iload 5, 2) := by decide +kernel
theorem dL_law_970 : decode cL_law 970 = .ok (.ifCond .ne 15, 3) := by decide +kernel
theorem dL_law_973 : decode cL_law 973 = .ok (.aload_n 3, 1) := by decide +kernel
theorem dL_law_974 : decode cL_law 974 = .ok (.iconst 0, 1) := by decide +kernel
theorem dL_law_975 : decode cL_law 975 = .ok (.laload, 1) := by decide +kernel
theorem dL_law_976 : decode cL_law 976 = .ok (.iload 6, 2) := by decide +kernel
theorem dL_law_978 : decode cL_law 978 = .ok (.i2l, 1) := by decide +kernel
theorem dL_law_979 : decode cL_law 979 = .ok (.lcmp, 1) := by decide +kernel
theorem dL_law_980 : decode cL_law 980 = .ok (.ifCond .eq 5, 3) := by decide +kernel
theorem dL_law_983 : decode cL_law 983 = .ok (.iconst 0, 1) := by decide +kernel
theorem dL_law_984 : decode cL_law 984 = .ok (.ireturn, 1) := by decide +kernel
theorem dL_law_985 : decode cL_law 985 = .ok (.goto 620, 3) := by decide +kernel
theorem dL_law_988 : decode cL_law 988 = .ok (.aload_n 1, 1) := by decide +kernel
theorem dL_law_989 : decode cL_law 989 = .ok (.aload_n 0, 1) := by decide +kernel
theorem dL_law_990 : decode cL_law 990 = .ok (.iload 4, 2) := by decide +kernel
theorem dL_law_992 : decode cL_law 992 = .ok (.iconst 1, 1) := by decide +kernel
theorem dL_law_993 : decode cL_law 993 = .ok (.iadd, 1) := by decide +kernel
theorem dL_law_994 : decode cL_law 994 = .ok (.iaload, 1) := by decide +kernel
theorem dL_law_995 : decode cL_law 995 = .ok (.aload_n 3, 1) := by decide +kernel
theorem dL_law_996 : decode cL_law 996 = .ok (.invokestatic 141, 3) := by decide +kernel
theorem dL_law_999 : decode cL_law 999 = .ok (.istore 5, 2) := by decide +kernel
theorem dL_law_1001 : decode cL_law 1001 = .ok (.aload_n 2, 1) := by decide +kernel
theorem dL_law_1002 : decode cL_law 1002 = .ok (.aload_n 0, 1) := by decide +kernel
theorem dL_law_1003 : decode cL_law 1003 = .ok (.iload 4, 2) := by decide +kernel
theorem dL_law_1005 : decode cL_law 1005 = .ok (.iconst 1, 1) := by decide +kernel
theorem dL_law_1006 : decode cL_law 1006 = .ok (.iadd, 1) := by decide +kernel
theorem dL_law_1007 : decode cL_law 1007 = .ok (.iaload, 1) := by decide +kernel
theorem dL_law_1008 : decode cL_law 1008 = .ok (.invokevirtual 144, 3) := by decide +kernel
theorem dL_law_1011 : decode cL_law 1011 = .ok (.istore 6, 2) := by decide +kernel
theorem dL_law_1013 : decode cL_law 1013 = .ok (.aload_n 2, 1) := by decide +kernel
theorem dL_law_1014 : decode cL_law 1014 = .ok (.invokevirtual 100, 3) := by decide +kernel
theorem dL_law_1017 : decode cL_law 1017 = .ok (.iload 5, 2) := by decide +kernel
theorem dL_law_1019 : decode cL_law 1019 = .ok (.if_icmp .eq 5, 3) := by decide +kernel
theorem dL_law_1022 : decode cL_law 1022 = .ok (.iconst 0, 1) := by decide +kernel
theorem dL_law_1023 : decode cL_law 1023 = .ok (.ireturn, 1) := by decide +kernel
theorem dL_law_1024 : decode cL_law 1024 = .ok (.iload 5, 2) := by decide +kernel
theorem dL_law_1026 : decode cL_law 1026 = .ok (.ifCond .ne 15, 3) := by decide +kernel
theorem dL_law_1029 : decode cL_law 1029 = .ok (.aload_n 3, 1) := by decide +kernel
theorem dL_law_1030 : decode cL_law 1030 = .ok (.iconst 0, 1) := by decide +kernel
theorem dL_law_1031 : decode cL_law 1031 = .ok (.laload, 1) := by decide +kernel
theorem dL_law_1032 : decode cL_law 1032 = .ok (.iload 6, 2) := by decide +kernel
theorem dL_law_1034 : decode cL_law 1034 = .ok (.i2l, 1) := by decide +kernel
theorem dL_law_1035 : decode cL_law 1035 = .ok (.lcmp, 1) := by decide +kernel
theorem dL_law_1036 : decode cL_law 1036 = .ok (.ifCond .eq 5, 3) := by decide +kernel
theorem dL_law_1039 : decode cL_law 1039 = .ok (.iconst 0, 1) := by decide +kernel
theorem dL_law_1040 : decode cL_law 1040 = .ok (.ireturn, 1) := by decide +kernel
theorem dL_law_1041 : decode cL_law 1041 = .ok (.goto 564, 3) := by decide +kernel
theorem dL_law_1044 : decode cL_law 1044 = .ok (.aload_n 1, 1) := by decide +kernel
theorem dL_law_1045 : decode cL_law 1045 = .ok (.aload_n 3, 1) := by decide +kernel
theorem dL_law_1046 : decode cL_law 1046 = .ok (.invokestatic 145, 3) := by decide +kernel
theorem dL_law_1049 : decode cL_law 1049 = .ok (.istore 5, 2) := by decide +kernel
theorem dL_law_1051 : decode cL_law 1051 = .ok (.aload_n 2, 1) := by decide +kernel
theorem dL_law_1052 : decode cL_law 1052 = .ok (.invokevirtual 148, 3) := by decide +kernel
theorem dL_law_1055 : decode cL_law 1055 = .ok (.istore 6, 2) := by decide +kernel
theorem dL_law_1057 : decode cL_law 1057 = .ok (.aload_n 2, 1) := by decide +kernel
theorem dL_law_1058 : decode cL_law 1058 = .ok (.invokevirtual 100, 3) := by decide +kernel
theorem dL_law_1061 : decode cL_law 1061 = .ok (.iload 5, 2) := by decide +kernel
theorem dL_law_1063 : decode cL_law 1063 = .ok (.if_icmp .eq 5, 3) := by decide +kernel
theorem dL_law_1066 : decode cL_law 1066 = .ok (.iconst 0, 1) := by decide +kernel
theorem dL_law_1067 : decode cL_law 1067 = .ok (.ireturn, 1) := by decide +kernel
theorem dL_law_1068 : decode cL_law 1068 = .ok (.iload 5, 2) := by decide +kernel
theorem dL_law_1070 : decode cL_law 1070 = .ok (.ifCond .ne 15, 3) := by decide +kernel
theorem dL_law_1073 : decode cL_law 1073 = .ok (.aload_n 3, 1) := by decide +kernel
theorem dL_law_1074 : decode cL_law 1074 = .ok (.iconst 0, 1) := by decide +kernel
theorem dL_law_1075 : decode cL_law 1075 = .ok (.laload, 1) := by decide +kernel
theorem dL_law_1076 : decode cL_law 1076 = .ok (.iload 6, 2) := by decide +kernel
theorem dL_law_1078 : decode cL_law 1078 = .ok (.i2l, 1) := by decide +kernel
theorem dL_law_1079 : decode cL_law 1079 = .ok (.lcmp, 1) := by decide +kernel
theorem dL_law_1080 : decode cL_law 1080 = .ok (.ifCond .eq 5, 3) := by decide +kernel
theorem dL_law_1083 : decode cL_law 1083 = .ok (.iconst 0, 1) := by decide +kernel
theorem dL_law_1084 : decode cL_law 1084 = .ok (.ireturn, 1) := by decide +kernel
theorem dL_law_1085 : decode cL_law 1085 = .ok (.goto 520, 3) := by decide +kernel
theorem dL_law_1088 : decode cL_law 1088 = .ok (.aload_n 1, 1) := by decide +kernel
theorem dL_law_1089 : decode cL_law 1089 = .ok (.invokevirtual 149, 3) := by decide +kernel
theorem dL_law_1092 : decode cL_law 1092 = .ok (.aload_n 2, 1) := by decide +kernel
theorem dL_law_1093 : decode cL_law 1093 = .ok (.invokevirtual 152, 3) := by decide +kernel
theorem dL_law_1096 : decode cL_law 1096 = .ok (.if_icmp .eq 509, 3) := by decide +kernel
theorem dL_law_1099 : decode cL_law 1099 = .ok (.iconst 0, 1) := by decide +kernel
theorem dL_law_1100 : decode cL_law 1100 = .ok (.ireturn, 1) := by decide +kernel
theorem dL_law_1101 : decode cL_law 1101 = .ok (.aload_n 1, 1) := by decide +kernel
theorem dL_law_1102 : decode cL_law 1102 = .ok (.invokevirtual 153, 3) := by decide +kernel
theorem dL_law_1105 : decode cL_law 1105 = .ok (.aload_n 2, 1) := by decide +kernel
theorem dL_law_1106 : decode cL_law 1106 = .ok (.invokevirtual 156, 3) := by decide +kernel
end
section
theorem dL_law_1109 : decode cL_law 1109 = .ok (.if_icmp .eq 496, 3) := by decide +kernel
theorem dL_law_1112 : decode cL_law 1112 = .ok (.iconst 0, 1) := by decide +kernel
theorem dL_law_1113 : decode cL_law 1113 = .ok (.ireturn, 1) := by decide +kernel
theorem dL_law_1114 : decode cL_law 1114 = .ok (.aload_n 1, 1) := by decide +kernel
theorem dL_law_1115 : decode cL_law 1115 = .ok (.aload_n 0, 1) := by decide +kernel
theorem dL_law_1116 : decode cL_law 1116 = .ok (.iload 4, 2) := by decide +kernel
theorem dL_law_1118 : decode cL_law 1118 = .ok (.iconst 1, 1) := by decide +kernel
theorem dL_law_1119 : decode cL_law 1119 = .ok (.iadd, 1) := by decide +kernel
theorem dL_law_1120 : decode cL_law 1120 = .ok (.iaload, 1) := by decide +kernel
theorem dL_law_1121 : decode cL_law 1121 = .ok (.aload_n 3, 1) := by decide +kernel
theorem dL_law_1122 : decode cL_law 1122 = .ok (.invokestatic 157, 3) := by decide +kernel
theorem dL_law_1125 : decode cL_law 1125 = .ok (.istore 5, 2) := by decide +kernel
theorem dL_law_1127 : decode cL_law 1127 = .ok (.aload_n 2, 1) := by decide +kernel
theorem dL_law_1128 : decode cL_law 1128 = .ok (.aload_n 0, 1) := by decide +kernel
theorem dL_law_1129 : decode cL_law 1129 = .ok (.iload 4, 2) := by decide +kernel
theorem dL_law_1131 : decode cL_law 1131 = .ok (.iconst 1, 1) := by decide +kernel
theorem dL_law_1132 : decode cL_law 1132 = .ok (.iadd, 1) := by decide +kernel
theorem dL_law_1133 : decode cL_law 1133 = .ok (.iaload, 1) := by decide +kernel
theorem dL_law_1134 : decode cL_law 1134 = .ok (.invokevirtual 159, 3) := by decide +kernel
theorem dL_law_1137 : decode cL_law 1137 = .ok (.istore 6, 2) := by decide +kernel
theorem dL_law_1139 : decode cL_law 1139 = .ok (.aload_n 2, 1) := by decide +kernel
theorem dL_law_1140 : decode cL_law 1140 = .ok (.invokevirtual 100, 3) := by decide +kernel
theorem dL_law_1143 : decode cL_law 1143 = .ok (.iload 5, 2) := by decide +kernel
theorem dL_law_1145 : decode cL_law 1145 = .ok (.if_icmp .eq 5, 3) := by decide +kernel
theorem dL_law_1148 : decode cL_law 1148 = .ok (.iconst 0, 1) := by decide +kernel
theorem dL_law_1149 : decode cL_law 1149 = .ok (.ireturn, 1) := by decide +kernel
theorem dL_law_1150 : decode cL_law 1150 = .ok (.iload 5, 2) := by decide +kernel
theorem dL_law_1152 : decode cL_law 1152 = .ok (.ifCond .ne 15, 3) := by decide +kernel
theorem dL_law_1155 : decode cL_law 1155 = .ok (.aload_n 3, 1) := by decide +kernel
theorem dL_law_1156 : decode cL_law 1156 = .ok (.iconst 0, 1) := by decide +kernel
theorem dL_law_1157 : decode cL_law 1157 = .ok (.laload, 1) := by decide +kernel
theorem dL_law_1158 : decode cL_law 1158 = .ok (.iload 6, 2) := by decide +kernel
theorem dL_law_1160 : decode cL_law 1160 = .ok (.i2l, 1) := by decide +kernel
theorem dL_law_1161 : decode cL_law 1161 = .ok (.lcmp, 1) := by decide +kernel
theorem dL_law_1162 : decode cL_law 1162 = .ok (.ifCond .eq 5, 3) := by decide +kernel
theorem dL_law_1165 : decode cL_law 1165 = .ok (.iconst 0, 1) := by decide +kernel
theorem dL_law_1166 : decode cL_law 1166 = .ok (.ireturn, 1) := by decide +kernel
theorem dL_law_1167 : decode cL_law 1167 = .ok (.goto 438, 3) := by decide +kernel
theorem dL_law_1170 : decode cL_law 1170 = .ok (.aload_n 1, 1) := by decide +kernel
theorem dL_law_1171 : decode cL_law 1171 = .ok (.aload_n 0, 1) := by decide +kernel
theorem dL_law_1172 : decode cL_law 1172 = .ok (.iload 4, 2) := by decide +kernel
theorem dL_law_1174 : decode cL_law 1174 = .ok (.iconst 1, 1) := by decide +kernel
theorem dL_law_1175 : decode cL_law 1175 = .ok (.iadd, 1) := by decide +kernel
theorem dL_law_1176 : decode cL_law 1176 = .ok (.iaload, 1) := by decide +kernel
theorem dL_law_1177 : decode cL_law 1177 = .ok (.aload_n 0, 1) := by decide +kernel
theorem dL_law_1178 : decode cL_law 1178 = .ok (.iload 4, 2) := by decide +kernel
theorem dL_law_1180 : decode cL_law 1180 = .ok (.iconst 2, 1) := by decide +kernel
theorem dL_law_1181 : decode cL_law 1181 = .ok (.iadd, 1) := by decide +kernel
theorem dL_law_1182 : decode cL_law 1182 = .ok (.iaload, 1) := by decide +kernel
theorem dL_law_1183 : decode cL_law 1183 = .ok (.aload_n 3, 1) := by decide +kernel
theorem dL_law_1184 : decode cL_law 1184 = .ok (.invokestatic 160, 3) := by decide +kernel
theorem dL_law_1187 : decode cL_law 1187 = .ok (.istore 5, 2) := by decide +kernel
theorem dL_law_1189 : decode cL_law 1189 = .ok (.aload_n 2, 1) := by decide +kernel
theorem dL_law_1190 : decode cL_law 1190 = .ok (.aload_n 0, 1) := by decide +kernel
theorem dL_law_1191 : decode cL_law 1191 = .ok (.iload 4, 2) := by decide +kernel
theorem dL_law_1193 : decode cL_law 1193 = .ok (.iconst 1, 1) := by decide +kernel
theorem dL_law_1194 : decode cL_law 1194 = .ok (.iadd, 1) := by decide +kernel
theorem dL_law_1195 : decode cL_law 1195 = .ok (.iaload, 1) := by decide +kernel
theorem dL_law_1196 : decode cL_law 1196 = .ok (.aload_n 0, 1) := by decide +kernel
theorem dL_law_1197 : decode cL_law 1197 = .ok (.iload 4, 2) := by decide +kernel
theorem dL_law_1199 : decode cL_law 1199 = .ok (.iconst 2, 1) := by decide +kernel
theorem dL_law_1200 : decode cL_law 1200 = .ok (.iadd, 1) := by decide +kernel
theorem dL_law_1201 : decode cL_law 1201 = .ok (.iaload, 1) := by decide +kernel
theorem dL_law_1202 : decode cL_law 1202 = .ok (.invokevirtual 162, 3) := by decide +kernel
theorem dL_law_1205 : decode cL_law 1205 = .ok (.istore 6, 2) := by decide +kernel
theorem dL_law_1207 : decode cL_law 1207 = .ok (.aload_n 2, 1) := by decide +kernel
theorem dL_law_1208 : decode cL_law 1208 = .ok (.invokevirtual 100, 3) := by decide +kernel
theorem dL_law_1211 : decode cL_law 1211 = .ok (.iload 5, 2) := by decide +kernel
theorem dL_law_1213 : decode cL_law 1213 = .ok (.if_icmp .eq 5, 3) := by decide +kernel
theorem dL_law_1216 : decode cL_law 1216 = .ok (.iconst 0, 1) := by decide +kernel
theorem dL_law_1217 : decode cL_law 1217 = .ok (.ireturn, 1) := by decide +kernel
theorem dL_law_1218 : decode cL_law 1218 = .ok (.iload 5, 2) := by decide +kernel
theorem dL_law_1220 : decode cL_law 1220 = .ok (.ifCond .ne 15, 3) := by decide +kernel
theorem dL_law_1223 : decode cL_law 1223 = .ok (.aload_n 3, 1) := by decide +kernel
theorem dL_law_1224 : decode cL_law 1224 = .ok (.iconst 0, 1) := by decide +kernel
theorem dL_law_1225 : decode cL_law 1225 = .ok (.laload, 1) := by decide +kernel
theorem dL_law_1226 : decode cL_law 1226 = .ok (.iload 6, 2) := by decide +kernel
theorem dL_law_1228 : decode cL_law 1228 = .ok (.i2l, 1) := by decide +kernel
theorem dL_law_1229 : decode cL_law 1229 = .ok (.lcmp, 1) := by decide +kernel
theorem dL_law_1230 : decode cL_law 1230 = .ok (.ifCond .eq 5, 3) := by decide +kernel
theorem dL_law_1233 : decode cL_law 1233 = .ok (.iconst 0, 1) := by decide +kernel
theorem dL_law_1234 : decode cL_law 1234 = .ok (.ireturn, 1) := by decide +kernel
theorem dL_law_1235 : decode cL_law 1235 = .ok (.goto 370, 3) := by decide +kernel
theorem dL_law_1238 : decode cL_law 1238 = .ok (.aload_n 1, 1) := by decide +kernel
theorem dL_law_1239 : decode cL_law 1239 = .ok (.aload_n 0, 1) := by decide +kernel
theorem dL_law_1240 : decode cL_law 1240 = .ok (.iload 4, 2) := by decide +kernel
theorem dL_law_1242 : decode cL_law 1242 = .ok (.iconst 1, 1) := by decide +kernel
theorem dL_law_1243 : decode cL_law 1243 = .ok (.iadd, 1) := by decide +kernel
theorem dL_law_1244 : decode cL_law 1244 = .ok (.iaload, 1) := by decide +kernel
theorem dL_law_1245 : decode cL_law 1245 = .ok (.aload_n 3, 1) := by decide +kernel
theorem dL_law_1246 : decode cL_law 1246 = .ok (.invokestatic 163, 3) := by decide +kernel
theorem dL_law_1249 : decode cL_law 1249 = .ok (.istore 5, 2) := by decide +kernel
theorem dL_law_1251 : decode cL_law 1251 = .ok (.aload_n 2, 1) := by decide +kernel
theorem dL_law_1252 : decode cL_law 1252 = .ok (.aload_n 0, 1) := by decide +kernel
theorem dL_law_1253 : decode cL_law 1253 = .ok (.iload 4, 2) := by decide +kernel
theorem dL_law_1255 : decode cL_law 1255 = .ok (.iconst 1, 1) := by decide +kernel
theorem dL_law_1256 : decode cL_law 1256 = .ok (.iadd, 1) := by decide +kernel
theorem dL_law_1257 : decode cL_law 1257 = .ok (.iaload, 1) := by decide +kernel
theorem dL_law_1258 : decode cL_law 1258 = .ok (.invokevirtual 165, 3) := by decide +kernel
theorem dL_law_1261 : decode cL_law 1261 = .ok (.istore 6, 2) := by decide +kernel
theorem dL_law_1263 : decode cL_law 1263 = .ok (.aload_n 2, 1) := by decide +kernel
theorem dL_law_1264 : decode cL_law 1264 = .ok (.invokevirtual 100, 3) := by decide +kernel
theorem dL_law_1267 : decode cL_law 1267 = .ok (.iload 5, 2) := by decide +kernel
theorem dL_law_1269 : decode cL_law 1269 = .ok (.if_icmp .eq 5, 3) := by decide +kernel
theorem dL_law_1272 : decode cL_law 1272 = .ok (.iconst 0, 1) := by decide +kernel
theorem dL_law_1273 : decode cL_law 1273 = .ok (.ireturn, 1) := by decide +kernel
theorem dL_law_1274 : decode cL_law 1274 = .ok (.iload 5, 2) := by decide +kernel
theorem dL_law_1276 : decode cL_law 1276 = .ok (.ifCond .ne 15, 3) := by decide +kernel
theorem dL_law_1279 : decode cL_law 1279 = .ok (.aload_n 3, 1) := by decide +kernel
theorem dL_law_1280 : decode cL_law 1280 = .ok (.iconst 0, 1) := by decide +kernel
end
section
theorem dL_law_1281 : decode cL_law 1281 = .ok (.laload, 1) := by decide +kernel
theorem dL_law_1282 : decode cL_law 1282 = .ok (.iload 6, 2) := by decide +kernel
theorem dL_law_1284 : decode cL_law 1284 = .ok (.i2l, 1) := by decide +kernel
theorem dL_law_1285 : decode cL_law 1285 = .ok (.lcmp, 1) := by decide +kernel
theorem dL_law_1286 : decode cL_law 1286 = .ok (.ifCond .eq 5, 3) := by decide +kernel
theorem dL_law_1289 : decode cL_law 1289 = .ok (.iconst 0, 1) := by decide +kernel
theorem dL_law_1290 : decode cL_law 1290 = .ok (.ireturn, 1) := by decide +kernel
theorem dL_law_1291 : decode cL_law 1291 = .ok (.goto 314, 3) := by decide +kernel
theorem dL_law_1294 : decode cL_law 1294 = .ok (.aload_n 1, 1) := by decide +kernel
theorem dL_law_1295 : decode cL_law 1295 = .ok (.aload_n 0, 1) := by decide +kernel
theorem dL_law_1296 : decode cL_law 1296 = .ok (.iload 4, 2) := by decide +kernel
theorem dL_law_1298 : decode cL_law 1298 = .ok (.iconst 1, 1) := by decide +kernel
theorem dL_law_1299 : decode cL_law 1299 = .ok (.iadd, 1) := by decide +kernel
theorem dL_law_1300 : decode cL_law 1300 = .ok (.iaload, 1) := by decide +kernel
theorem dL_law_1301 : decode cL_law 1301 = .ok (.aload_n 0, 1) := by decide +kernel
theorem dL_law_1302 : decode cL_law 1302 = .ok (.iload 4, 2) := by decide +kernel
theorem dL_law_1304 : decode cL_law 1304 = .ok (.iconst 2, 1) := by decide +kernel
theorem dL_law_1305 : decode cL_law 1305 = .ok (.iadd, 1) := by decide +kernel
theorem dL_law_1306 : decode cL_law 1306 = .ok (.iaload, 1) := by decide +kernel
theorem dL_law_1307 : decode cL_law 1307 = .ok (.aload_n 3, 1) := by decide +kernel
theorem dL_law_1308 : decode cL_law 1308 = .ok (.invokestatic 166, 3) := by decide +kernel
theorem dL_law_1311 : decode cL_law 1311 = .ok (.istore 5, 2) := by decide +kernel
theorem dL_law_1313 : decode cL_law 1313 = .ok (.aload_n 2, 1) := by decide +kernel
theorem dL_law_1314 : decode cL_law 1314 = .ok (.aload_n 0, 1) := by decide +kernel
theorem dL_law_1315 : decode cL_law 1315 = .ok (.iload 4, 2) := by decide +kernel
theorem dL_law_1317 : decode cL_law 1317 = .ok (.iconst 1, 1) := by decide +kernel
theorem dL_law_1318 : decode cL_law 1318 = .ok (.iadd, 1) := by decide +kernel
theorem dL_law_1319 : decode cL_law 1319 = .ok (.iaload, 1) := by decide +kernel
theorem dL_law_1320 : decode cL_law 1320 = .ok (.aload_n 0, 1) := by decide +kernel
theorem dL_law_1321 : decode cL_law 1321 = .ok (.iload 4, 2) := by decide +kernel
theorem dL_law_1323 : decode cL_law 1323 = .ok (.iconst 2, 1) := by decide +kernel
theorem dL_law_1324 : decode cL_law 1324 = .ok (.iadd, 1) := by decide +kernel
theorem dL_law_1325 : decode cL_law 1325 = .ok (.iaload, 1) := by decide +kernel
theorem dL_law_1326 : decode cL_law 1326 = .ok (.invokevirtual 168, 3) := by decide +kernel
theorem dL_law_1329 : decode cL_law 1329 = .ok (.istore 6, 2) := by decide +kernel
theorem dL_law_1331 : decode cL_law 1331 = .ok (.aload_n 2, 1) := by decide +kernel
theorem dL_law_1332 : decode cL_law 1332 = .ok (.invokevirtual 100, 3) := by decide +kernel
theorem dL_law_1335 : decode cL_law 1335 = .ok (.iload 5, 2) := by decide +kernel
theorem dL_law_1337 : decode cL_law 1337 = .ok (.if_icmp .eq 5, 3) := by decide +kernel
theorem dL_law_1340 : decode cL_law 1340 = .ok (.iconst 0, 1) := by decide +kernel
theorem dL_law_1341 : decode cL_law 1341 = .ok (.ireturn, 1) := by decide +kernel
theorem dL_law_1342 : decode cL_law 1342 = .ok (.iload 5, 2) := by decide +kernel
theorem dL_law_1344 : decode cL_law 1344 = .ok (.ifCond .ne 15, 3) := by decide +kernel
theorem dL_law_1347 : decode cL_law 1347 = .ok (.aload_n 3, 1) := by decide +kernel
theorem dL_law_1348 : decode cL_law 1348 = .ok (.iconst 0, 1) := by decide +kernel
theorem dL_law_1349 : decode cL_law 1349 = .ok (.laload, 1) := by decide +kernel
theorem dL_law_1350 : decode cL_law 1350 = .ok (.iload 6, 2) := by decide +kernel
theorem dL_law_1352 : decode cL_law 1352 = .ok (.i2l, 1) := by decide +kernel
theorem dL_law_1353 : decode cL_law 1353 = .ok (.lcmp, 1) := by decide +kernel
theorem dL_law_1354 : decode cL_law 1354 = .ok (.ifCond .eq 5, 3) := by decide +kernel
theorem dL_law_1357 : decode cL_law 1357 = .ok (.iconst 0, 1) := by decide +kernel
theorem dL_law_1358 : decode cL_law 1358 = .ok (.ireturn, 1) := by decide +kernel
theorem dL_law_1359 : decode cL_law 1359 = .ok (.goto 246, 3) := by decide +kernel
theorem dL_law_1362 : decode cL_law 1362 = .ok (.aload_n 1, 1) := by decide +kernel
theorem dL_law_1363 : decode cL_law 1363 = .ok (.aload_n 0, 1) := by decide +kernel
theorem dL_law_1364 : decode cL_law 1364 = .ok (.iload 4, 2) := by decide +kernel
theorem dL_law_1366 : decode cL_law 1366 = .ok (.iconst 1, 1) := by decide +kernel
theorem dL_law_1367 : decode cL_law 1367 = .ok (.iadd, 1) := by decide +kernel
theorem dL_law_1368 : decode cL_law 1368 = .ok (.iaload, 1) := by decide +kernel
theorem dL_law_1369 : decode cL_law 1369 = .ok (.aload_n 0, 1) := by decide +kernel
theorem dL_law_1370 : decode cL_law 1370 = .ok (.iload 4, 2) := by decide +kernel
theorem dL_law_1372 : decode cL_law 1372 = .ok (.iconst 2, 1) := by decide +kernel
theorem dL_law_1373 : decode cL_law 1373 = .ok (.iadd, 1) := by decide +kernel
theorem dL_law_1374 : decode cL_law 1374 = .ok (.iaload, 1) := by decide +kernel
theorem dL_law_1375 : decode cL_law 1375 = .ok (.aload_n 3, 1) := by decide +kernel
theorem dL_law_1376 : decode cL_law 1376 = .ok (.invokestatic 169, 3) := by decide +kernel
theorem dL_law_1379 : decode cL_law 1379 = .ok (.istore 5, 2) := by decide +kernel
theorem dL_law_1381 : decode cL_law 1381 = .ok (.aload_n 2, 1) := by decide +kernel
theorem dL_law_1382 : decode cL_law 1382 = .ok (.aload_n 0, 1) := by decide +kernel
theorem dL_law_1383 : decode cL_law 1383 = .ok (.iload 4, 2) := by decide +kernel
theorem dL_law_1385 : decode cL_law 1385 = .ok (.iconst 1, 1) := by decide +kernel
theorem dL_law_1386 : decode cL_law 1386 = .ok (.iadd, 1) := by decide +kernel
theorem dL_law_1387 : decode cL_law 1387 = .ok (.iaload, 1) := by decide +kernel
theorem dL_law_1388 : decode cL_law 1388 = .ok (.aload_n 0, 1) := by decide +kernel
theorem dL_law_1389 : decode cL_law 1389 = .ok (.iload 4, 2) := by decide +kernel
theorem dL_law_1391 : decode cL_law 1391 = .ok (.iconst 2, 1) := by decide +kernel
theorem dL_law_1392 : decode cL_law 1392 = .ok (.iadd, 1) := by decide +kernel
theorem dL_law_1393 : decode cL_law 1393 = .ok (.iaload, 1) := by decide +kernel
theorem dL_law_1394 : decode cL_law 1394 = .ok (.invokevirtual 171, 3) := by decide +kernel
theorem dL_law_1397 : decode cL_law 1397 = .ok (.istore 6, 2) := by decide +kernel
theorem dL_law_1399 : decode cL_law 1399 = .ok (.aload_n 2, 1) := by decide +kernel
theorem dL_law_1400 : decode cL_law 1400 = .ok (.invokevirtual 100, 3) := by decide +kernel
theorem dL_law_1403 : decode cL_law 1403 = .ok (.iload 5, 2) := by decide +kernel
theorem dL_law_1405 : decode cL_law 1405 = .ok (.if_icmp .eq 5, 3) := by decide +kernel
theorem dL_law_1408 : decode cL_law 1408 = .ok (.iconst 0, 1) := by decide +kernel
theorem dL_law_1409 : decode cL_law 1409 = .ok (.ireturn, 1) := by decide +kernel
theorem dL_law_1410 : decode cL_law 1410 = .ok (.iload 5, 2) := by decide +kernel
theorem dL_law_1412 : decode cL_law 1412 = .ok (.ifCond .ne 15, 3) := by decide +kernel
theorem dL_law_1415 : decode cL_law 1415 = .ok (.aload_n 3, 1) := by decide +kernel
theorem dL_law_1416 : decode cL_law 1416 = .ok (.iconst 0, 1) := by decide +kernel
theorem dL_law_1417 : decode cL_law 1417 = .ok (.laload, 1) := by decide +kernel
theorem dL_law_1418 : decode cL_law 1418 = .ok (.iload 6, 2) := by decide +kernel
theorem dL_law_1420 : decode cL_law 1420 = .ok (.i2l, 1) := by decide +kernel
theorem dL_law_1421 : decode cL_law 1421 = .ok (.lcmp, 1) := by decide +kernel
theorem dL_law_1422 : decode cL_law 1422 = .ok (.ifCond .eq 5, 3) := by decide +kernel
theorem dL_law_1425 : decode cL_law 1425 = .ok (.iconst 0, 1) := by decide +kernel
theorem dL_law_1426 : decode cL_law 1426 = .ok (.ireturn, 1) := by decide +kernel
theorem dL_law_1427 : decode cL_law 1427 = .ok (.goto 178, 3) := by decide +kernel
theorem dL_law_1430 : decode cL_law 1430 = .ok (.aload_n 1, 1) := by decide +kernel
theorem dL_law_1431 : decode cL_law 1431 = .ok (.aload_n 0, 1) := by decide +kernel
theorem dL_law_1432 : decode cL_law 1432 = .ok (.iload 4, 2) := by decide +kernel
theorem dL_law_1434 : decode cL_law 1434 = .ok (.iconst 1, 1) := by decide +kernel
theorem dL_law_1435 : decode cL_law 1435 = .ok (.iadd, 1) := by decide +kernel
theorem dL_law_1436 : decode cL_law 1436 = .ok (.iaload, 1) := by decide +kernel
theorem dL_law_1437 : decode cL_law 1437 = .ok (.aload_n 3, 1) := by decide +kernel
theorem dL_law_1438 : decode cL_law 1438 = .ok (.invokestatic 172, 3) := by decide +kernel
theorem dL_law_1441 : decode cL_law 1441 = .ok (.istore 5, 2) := by decide +kernel
theorem dL_law_1443 : decode cL_law 1443 = .ok (.aload_n 2, 1) := by decide +kernel
theorem dL_law_1444 : decode cL_law 1444 = .ok (.aload_n 0, 1) := by decide +kernel
theorem dL_law_1445 : decode cL_law 1445 = .ok (.iload 4, 2) := by decide +kernel
end
section
theorem dL_law_1447 : decode cL_law 1447 = .ok (.iconst 1, 1) := by decide +kernel
theorem dL_law_1448 : decode cL_law 1448 = .ok (.iadd, 1) := by decide +kernel
theorem dL_law_1449 : decode cL_law 1449 = .ok (.iaload, 1) := by decide +kernel
theorem dL_law_1450 : decode cL_law 1450 = .ok (.invokevirtual 174, 3) := by decide +kernel
theorem dL_law_1453 : decode cL_law 1453 = .ok (.istore 6, 2) := by decide +kernel
theorem dL_law_1455 : decode cL_law 1455 = .ok (.aload_n 2, 1) := by decide +kernel
theorem dL_law_1456 : decode cL_law 1456 = .ok (.invokevirtual 100, 3) := by decide +kernel
theorem dL_law_1459 : decode cL_law 1459 = .ok (.iload 5, 2) := by decide +kernel
theorem dL_law_1461 : decode cL_law 1461 = .ok (.if_icmp .eq 5, 3) := by decide +kernel
theorem dL_law_1464 : decode cL_law 1464 = .ok (.iconst 0, 1) := by decide +kernel
theorem dL_law_1465 : decode cL_law 1465 = .ok (.ireturn, 1) := by decide +kernel
theorem dL_law_1466 : decode cL_law 1466 = .ok (.iload 5, 2) := by decide +kernel
theorem dL_law_1468 : decode cL_law 1468 = .ok (.ifCond .ne 15, 3) := by decide +kernel
theorem dL_law_1471 : decode cL_law 1471 = .ok (.aload_n 3, 1) := by decide +kernel
theorem dL_law_1472 : decode cL_law 1472 = .ok (.iconst 0, 1) := by decide +kernel
theorem dL_law_1473 : decode cL_law 1473 = .ok (.laload, 1) := by decide +kernel
theorem dL_law_1474 : decode cL_law 1474 = .ok (.iload 6, 2) := by decide +kernel
theorem dL_law_1476 : decode cL_law 1476 = .ok (.i2l, 1) := by decide +kernel
theorem dL_law_1477 : decode cL_law 1477 = .ok (.lcmp, 1) := by decide +kernel
theorem dL_law_1478 : decode cL_law 1478 = .ok (.ifCond .eq 5, 3) := by decide +kernel
theorem dL_law_1481 : decode cL_law 1481 = .ok (.iconst 0, 1) := by decide +kernel
theorem dL_law_1482 : decode cL_law 1482 = .ok (.ireturn, 1) := by decide +kernel
theorem dL_law_1483 : decode cL_law 1483 = .ok (.goto 122, 3) := by decide +kernel
theorem dL_law_1486 : decode cL_law 1486 = .ok (.aload_n 1, 1) := by decide +kernel
theorem dL_law_1487 : decode cL_law 1487 = .ok (.aload_n 0, 1) := by decide +kernel
theorem dL_law_1488 : decode cL_law 1488 = .ok (.iload 4, 2) := by decide +kernel
theorem dL_law_1490 : decode cL_law 1490 = .ok (.iconst 1, 1) := by decide +kernel
theorem dL_law_1491 : decode cL_law 1491 = .ok (.iadd, 1) := by decide +kernel
theorem dL_law_1492 : decode cL_law 1492 = .ok (.iaload, 1) := by decide +kernel
theorem dL_law_1493 : decode cL_law 1493 = .ok (.aload_n 3, 1) := by decide +kernel
theorem dL_law_1494 : decode cL_law 1494 = .ok (.invokestatic 175, 3) := by decide +kernel
theorem dL_law_1497 : decode cL_law 1497 = .ok (.istore 5, 2) := by decide +kernel
theorem dL_law_1499 : decode cL_law 1499 = .ok (.aload_n 2, 1) := by decide +kernel
theorem dL_law_1500 : decode cL_law 1500 = .ok (.aload_n 0, 1) := by decide +kernel
theorem dL_law_1501 : decode cL_law 1501 = .ok (.iload 4, 2) := by decide +kernel
theorem dL_law_1503 : decode cL_law 1503 = .ok (.iconst 1, 1) := by decide +kernel
theorem dL_law_1504 : decode cL_law 1504 = .ok (.iadd, 1) := by decide +kernel
theorem dL_law_1505 : decode cL_law 1505 = .ok (.iaload, 1) := by decide +kernel
theorem dL_law_1506 : decode cL_law 1506 = .ok (.invokevirtual 177, 3) := by decide +kernel
theorem dL_law_1509 : decode cL_law 1509 = .ok (.istore 6, 2) := by decide +kernel
theorem dL_law_1511 : decode cL_law 1511 = .ok (.aload_n 2, 1) := by decide +kernel
theorem dL_law_1512 : decode cL_law 1512 = .ok (.invokevirtual 100, 3) := by decide +kernel
theorem dL_law_1515 : decode cL_law 1515 = .ok (.iload 5, 2) := by decide +kernel
theorem dL_law_1517 : decode cL_law 1517 = .ok (.if_icmp .eq 5, 3) := by decide +kernel
theorem dL_law_1520 : decode cL_law 1520 = .ok (.iconst 0, 1) := by decide +kernel
theorem dL_law_1521 : decode cL_law 1521 = .ok (.ireturn, 1) := by decide +kernel
theorem dL_law_1522 : decode cL_law 1522 = .ok (.iload 5, 2) := by decide +kernel
theorem dL_law_1524 : decode cL_law 1524 = .ok (.ifCond .ne 15, 3) := by decide +kernel
theorem dL_law_1527 : decode cL_law 1527 = .ok (.aload_n 3, 1) := by decide +kernel
theorem dL_law_1528 : decode cL_law 1528 = .ok (.iconst 0, 1) := by decide +kernel
theorem dL_law_1529 : decode cL_law 1529 = .ok (.laload, 1) := by decide +kernel
theorem dL_law_1530 : decode cL_law 1530 = .ok (.iload 6, 2) := by decide +kernel
theorem dL_law_1532 : decode cL_law 1532 = .ok (.i2l, 1) := by decide +kernel
theorem dL_law_1533 : decode cL_law 1533 = .ok (.lcmp, 1) := by decide +kernel
theorem dL_law_1534 : decode cL_law 1534 = .ok (.ifCond .eq 5, 3) := by decide +kernel
theorem dL_law_1537 : decode cL_law 1537 = .ok (.iconst 0, 1) := by decide +kernel
theorem dL_law_1538 : decode cL_law 1538 = .ok (.ireturn, 1) := by decide +kernel
theorem dL_law_1539 : decode cL_law 1539 = .ok (.goto 66, 3) := by decide +kernel
theorem dL_law_1542 : decode cL_law 1542 = .ok (.aload_n 1, 1) := by decide +kernel
theorem dL_law_1543 : decode cL_law 1543 = .ok (.aload_n 0, 1) := by decide +kernel
theorem dL_law_1544 : decode cL_law 1544 = .ok (.iload 4, 2) := by decide +kernel
theorem dL_law_1546 : decode cL_law 1546 = .ok (.iconst 1, 1) := by decide +kernel
theorem dL_law_1547 : decode cL_law 1547 = .ok (.iadd, 1) := by decide +kernel
theorem dL_law_1548 : decode cL_law 1548 = .ok (.iaload, 1) := by decide +kernel
theorem dL_law_1549 : decode cL_law 1549 = .ok (.aload_n 3, 1) := by decide +kernel
theorem dL_law_1550 : decode cL_law 1550 = .ok (.invokestatic 178, 3) := by decide +kernel
theorem dL_law_1553 : decode cL_law 1553 = .ok (.istore 5, 2) := by decide +kernel
theorem dL_law_1555 : decode cL_law 1555 = .ok (.aload_n 2, 1) := by decide +kernel
theorem dL_law_1556 : decode cL_law 1556 = .ok (.aload_n 0, 1) := by decide +kernel
theorem dL_law_1557 : decode cL_law 1557 = .ok (.iload 4, 2) := by decide +kernel
theorem dL_law_1559 : decode cL_law 1559 = .ok (.iconst 1, 1) := by decide +kernel
theorem dL_law_1560 : decode cL_law 1560 = .ok (.iadd, 1) := by decide +kernel
theorem dL_law_1561 : decode cL_law 1561 = .ok (.iaload, 1) := by decide +kernel
theorem dL_law_1562 : decode cL_law 1562 = .ok (.invokevirtual 180, 3) := by decide +kernel
theorem dL_law_1565 : decode cL_law 1565 = .ok (.istore 6, 2) := by decide +kernel
theorem dL_law_1567 : decode cL_law 1567 = .ok (.aload_n 2, 1) := by decide +kernel
theorem dL_law_1568 : decode cL_law 1568 = .ok (.invokevirtual 100, 3) := by decide +kernel
theorem dL_law_1571 : decode cL_law 1571 = .ok (.iload 5, 2) := by decide +kernel
theorem dL_law_1573 : decode cL_law 1573 = .ok (.if_icmp .eq 5, 3) := by decide +kernel
theorem dL_law_1576 : decode cL_law 1576 = .ok (.iconst 0, 1) := by decide +kernel
theorem dL_law_1577 : decode cL_law 1577 = .ok (.ireturn, 1) := by decide +kernel
theorem dL_law_1578 : decode cL_law 1578 = .ok (.iload 5, 2) := by decide +kernel
theorem dL_law_1580 : decode cL_law 1580 = .ok (.ifCond .ne 22, 3) := by decide +kernel
theorem dL_law_1583 : decode cL_law 1583 = .ok (.aload_n 3, 1) := by decide +kernel
theorem dL_law_1584 : decode cL_law 1584 = .ok (.iconst 0, 1) := by decide +kernel
theorem dL_law_1585 : decode cL_law 1585 = .ok (.laload, 1) := by decide +kernel
theorem dL_law_1586 : decode cL_law 1586 = .ok (.iload 6, 2) := by decide +kernel
theorem dL_law_1588 : decode cL_law 1588 = .ok (.ifCond .eq 7, 3) := by decide +kernel
theorem dL_law_1591 : decode cL_law 1591 = .ok (.lconst 1, 1) := by decide +kernel
theorem dL_law_1592 : decode cL_law 1592 = .ok (.goto 4, 3) := by decide +kernel
theorem dL_law_1595 : decode cL_law 1595 = .ok (.lconst 0, 1) := by decide +kernel
theorem dL_law_1596 : decode cL_law 1596 = .ok (.lcmp, 1) := by decide +kernel
theorem dL_law_1597 : decode cL_law 1597 = .ok (.ifCond .eq 5, 3) := by decide +kernel
theorem dL_law_1600 : decode cL_law 1600 = .ok (.iconst 0, 1) := by decide +kernel
theorem dL_law_1601 : decode cL_law 1601 = .ok (.ireturn, 1) := by decide +kernel
theorem dL_law_1602 : decode cL_law 1602 = .ok (.goto 3, 3) := by decide +kernel
theorem dL_law_1605 : decode cL_law 1605 = .ok (.iinc 4 5, 3) := by decide +kernel
theorem dL_law_1608 : decode cL_law 1608 = .ok (.goto (-1585), 3) := by decide +kernel
theorem dL_law_1611 : decode cL_law 1611 = .ok (.iconst 1, 1) := by decide +kernel
theorem dL_law_1612 : decode cL_law 1612 = .ok (.ireturn, 1) := by decide +kernel
end
section
/-! one world of sixty cells: the landed program (0 to 35), the reference (36 to 58), the law's row (59); F k j is the number at place j of cell k -/
abbrev FF : Type := Nat → Nat → Int32
def u2 (F : FF) (k j : Nat) (v : Int32) : FF := fun a b => if a = k ∧ b = j then v else F a b
theorem u2_eq (F : FF) (k j : Nat) (v : Int32) : u2 F k j v k j = v := by simp [u2]
theorem u2_cell (F : FF) {k a : Nat} (j : Nat) (v : Int32) (h : a ≠ k) : u2 F k j v a = F a := by funext b; simp [u2, h]
theorem u2_ne (F : FF) {k a : Nat} {j b : Nat} (v : Int32) (h : ¬ (a = k ∧ b = j)) : u2 F k j v a b = F a b := by simp only [u2, if_neg h]
theorem u2_row (F : FF) (k j : Nat) (v : Int32) : u2 F k j v k = upd (F k) j v := by funext b; by_cases h : b = j <;> simp [u2, upd, h]
/-- kind of a cell: 0 an object, 1 a row of ints, 2 a row of booleans, 3 the students, 4 the law's row -/
def kin (k : Nat) : Nat := if k = 1 then 3 else if k = 59 then 4 else if k = 40 then 2 else if k = 46 then 2 else if k = 0 then 0 else if k = 36 then 0 else if 36 < k then 1 else if k < 4 then 1 else if (k - 4) % 8 = 0 then 0 else if (k - 4) % 8 = 1 then 0 else if (k - 4) % 8 = 3 then 0 else if (k - 4) % 8 = 7 then 0 else 1
/-- of which kind the object is (its place in vwCl) -/
def ocl (k : Nat) : Nat := if k = 0 then 4 else if k = 36 then 5 else if (k - 4) % 8 = 0 then 3 else if (k - 4) % 8 = 1 then 1 else if (k - 4) % 8 = 3 then 0 else 2
def onn (c : Nat) : Nat := match c with
  | 0 => 4
  | 1 => 3
  | 2 => 5
  | 3 => 11
  | 4 => 9
  | _ => 29
/-- which cell field j of the object k (of kind c) holds, if it holds one -/
def orc (c k j : Nat) : Option Nat := match c with
  | 0 => if j = 0 then some (k + 1) else if j = 1 then some (k + 2) else if j = 2 then some (k + 3) else none
  | 1 => if j = 0 then some (k + 1) else none
  | 2 => none
  | 3 => if j = 0 then some (k + 1) else if j = 1 then some (k + 3) else if j = 2 then some (k + 7) else none
  | 4 => if j = 0 then some (k + 1) else if j = 1 then some (k + 2) else if j = 2 then some (k + 3) else none
  | _ => if j = 3 then some (k + 1) else if j = 6 then some (k + 2) else if 9 ≤ j then some (k + (j - 6)) else none
/-- how many places a row has -/
def aln (k : Nat) : Nat := if k = 2 then 4 else if k = 3 then 16 else if k = 38 then 16 else if k = 45 then 32 else if k = 46 then 32 else if k = 51 then 24 else if k = 52 then 24 else if 36 < k then 4 else if (k - 4) % 8 = 2 then 8 else 6
def vls (ad : Nat → Nat) (f : Nat → Int32) (k : Nat) : List Value := (List.range (onn (ocl k))).map (fun j => match orc (ocl k) k j with
  | some q => .ref (ad q)
  | none => .int (f j))
def stf (ad : Nat → Nat) : Nat → Option Nat := fun j => if j < 4 then some (ad (4 + 8 * j)) else none
def ent (cA : Nat → ClassId) (ad : Nat → Nat) (f : Nat → Int32) (k : Nat) : va_E := match kin k with
  | 0 => .inr (ocl k, vls ad f k)
  | 1 => .inl (cA 0, aln k, .inl f)
  | 2 => .inl (cA 1, aln k, .inl f)
  | 3 => .inl (cA 2, 4, .inr (.inr (.inr (.inr (stf ad)))))
  | _ => .inl (cA 3, 1, .inr (.inl (fun j => (f j).toInt64)))
def wA (cA : Nat → ClassId) (ad : Nat → Nat) (F : FF) : va_W := (List.range 60).map (fun k => (ad k, ent cA ad (F k) k))
abbrev TT (cA : Nat → ClassId) : List (ClassId × FieldType) := [(cA 0, .int), (cA 1, .boolean), (cA 2, .object "TermBill$Student"), (cA 3, .long)]
theorem wA_get {cA : Nat → ClassId} {ad : Nat → Nat} {F : FF} {k : Nat} (h : k < 60) : (wA cA ad F)[k]? = some (ad k, ent cA ad (F k) k) := by
  simp [wA, h]
theorem wA_mem {cA : Nat → ClassId} {ad : Nat → Nat} {F : FF} {k : Nat} {q : Nat × va_E} (h : (wA cA ad F)[k]? = some q) : k < 60 ∧ q = (ad k, ent cA ad (F k) k) := by
  have hk : k < 60 := by
    have h1 := (List.getElem?_eq_some_iff.mp h).1
    simpa [wA] using h1
  rw [wA_get hk] at h
  exact ⟨hk, (Option.some.inj h).symm⟩
theorem wA_set {cA : Nat → ClassId} {ad : Nat → Nat} {F : FF} {k : Nat} (h : k < 60) (j : Nat) (v : Int32) : (wA cA ad F).set k (ad k, ent cA ad (upd (F k) j v) k) = wA cA ad (u2 F k j v) := by
  apply List.ext_getElem?
  intro q
  by_cases hq : q = k
  · subst hq
    rw [List.getElem?_set_self (by simpa [wA] using h), wA_get h, u2_row]
  · rw [List.getElem?_set_ne (fun z => hq z.symm)]
    by_cases h2 : q < 60
    · rw [wA_get h2, wA_get h2, u2_cell F j v hq]
    · rw [List.getElem?_eq_none (by simp [wA]; omega), List.getElem?_eq_none (by simp [wA]; omega)]
def Inj (ad : Nat → Nat) : Prop := ∀ i j : Nat, i < 60 → j < 60 → ad i = ad j → i = j
def AA (ad : Nat → Nat) (sz : Nat) : Nat → Prop := fun q => (∃ k : Nat, k < 60 ∧ q = ad k) ∨ sz ≤ q
theorem AA_of {ad : Nat → Nat} {sz k : Nat} (h : k < 60) : AA ad sz (ad k) := Or.inl ⟨k, h, rfl⟩
theorem AA_new {ad : Nat → Nat} {sz q : Nat} (h : sz ≤ q) : AA ad sz q := Or.inr h
theorem AA_mono {ad : Nat → Nat} {sz s2 : Nat} (h : sz ≤ s2) (q : Nat) (hq : AA ad s2 q) : AA ad sz q := hq.elim Or.inl (fun z => Or.inr (Nat.le_trans h z))
theorem wA_D {cA : Nat → ClassId} {ad : Nat → Nat} {A : Nat → Prop} (F : FF) (h : Inj ad) (hA : ∀ k : Nat, k < 60 → A (ad k)) : va_D A (wA cA ad F) := by
  refine ⟨fun i j p q hi hj hpq => ?_, fun k q hk => ?_⟩
  · obtain ⟨h1, rfl⟩ := wA_mem hi
    obtain ⟨h2, rfl⟩ := wA_mem hj
    exact h i j h1 h2 hpq
  · obtain ⟨h1, rfl⟩ := wA_mem hk
    exact hA k h1
/-- an object, a row -/
def Ob (k c : Nat) : Prop := k < 60 ∧ kin k = 0 ∧ ocl k = c
def Ar (k t n : Nat) : Prop := k < 60 ∧ kin k = t ∧ aln k = n
theorem ob_0 : Ob 0 4 := by unfold Ob; decide
theorem ob_M : Ob 36 5 := by unfold Ob; decide
theorem ob_S : ∀ i, i < 4 → Ob (4 + 8 * i) 3 := by unfold Ob; decide
theorem ob_C : ∀ i, i < 4 → Ob (4 + 8 * i + 1) 1 := by unfold Ob; decide
theorem ob_A : ∀ i, i < 4 → Ob (4 + 8 * i + 3) 0 := by unfold Ob; decide
theorem ob_I : ∀ i, i < 4 → Ob (4 + 8 * i + 7) 2 := by unfold Ob; decide
theorem ar_C : ∀ i, i < 4 → Ar (4 + 8 * i + 2) 1 8 := by unfold Ar; decide
theorem ar_R : ∀ i, i < 4 → Ar (4 + 8 * i + 4) 1 6 := by unfold Ar; decide
theorem ar_M : ∀ i, i < 4 → Ar (4 + 8 * i + 5) 1 6 := by unfold Ar; decide
theorem ar_U : ∀ i, i < 4 → Ar (4 + 8 * i + 6) 1 6 := by unfold Ar; decide
theorem vls_int {ad : Nat → Nat} {f : Nat → Int32} {k c j : Nat} (hc : ocl k = c) (hj : j < onn c) (hr : orc c k j = none) : (vls ad f k)[j]? = some (.int (f j)) := by
  subst hc
  simp [vls, hj, hr]
theorem vls_ref {ad : Nat → Nat} {f : Nat → Int32} {k c j q : Nat} (hc : ocl k = c) (hj : j < onn c) (hr : orc c k j = some q) : (vls ad f k)[j]? = some (.ref (ad q)) := by
  subst hc
  simp [vls, hj, hr]
theorem vls_len {ad : Nat → Nat} {f : Nat → Int32} {k c : Nat} (hc : ocl k = c) : (vls ad f k).length = onn c := by
  subst hc
  simp [vls]
theorem vls_set {ad : Nat → Nat} {f : Nat → Int32} {k c j : Nat} {v : Int32} (hc : ocl k = c) (hj : j < onn c) (hr : orc c k j = none) : (vls ad f k).set j (.int v) = vls ad (upd f j v) k := by
  apply List.ext_getElem?
  intro q
  by_cases hq : q = j
  · subst hq
    rw [List.getElem?_set_self (by rw [vls_len hc]; exact hj), vls_int hc hj hr]
    simp [upd]
  · rw [List.getElem?_set_ne (fun z => hq z.symm)]
    subst hc
    unfold vls
    rw [List.getElem?_map, List.getElem?_map]
    rcases Nat.lt_or_ge q (onn (ocl k)) with h | h
    · rw [List.getElem?_range h]
      simp only [Option.map_some, upd, if_neg hq]
    · rw [List.getElem?_eq_none (by simpa using h)]
      rfl
theorem ent_ob {cA : Nat → ClassId} {ad : Nat → Nat} {f : Nat → Int32} {k c : Nat} (h : Ob k c) : ent cA ad f k = .inr (c, vls ad f k) := by
  obtain ⟨-, h1, h2⟩ := h
  simp only [ent, h1, h2]
theorem ent_i {cA : Nat → ClassId} {ad : Nat → Nat} {f : Nat → Int32} {k n : Nat} (h : Ar k 1 n) : ent cA ad f k = .inl (cA 0, n, .inl f) := by
  obtain ⟨-, h1, h2⟩ := h
  simp only [ent, h1, h2]
theorem ent_z {cA : Nat → ClassId} {ad : Nat → Nat} {f : Nat → Int32} {k n : Nat} (h : Ar k 2 n) : ent cA ad f k = .inl (cA 1, n, .inl f) := by
  obtain ⟨-, h1, h2⟩ := h
  simp only [ent, h1, h2]
theorem ent_s {cA : Nat → ClassId} {ad : Nat → Nat} {f : Nat → Int32} : ent cA ad f 1 = .inl (cA 2, 4, .inr (.inr (.inr (.inr (stf ad))))) := rfl
theorem ent_l {cA : Nat → ClassId} {ad : Nat → Nat} {f : Nat → Int32} : ent cA ad f 59 = .inl (cA 3, 1, .inr (.inl (fun j => (f j).toInt64))) := rfl
end
section
/-! the rows of the walk over the one world -/
def strs : List (Nat × String) := [(55, "level or rate is out of range"), (64, "from or to is out of range"), (66, "week or share is out of range"), (69, "fee or limit is out of range"), (75, "level or need is out of range"), (87, "kinds or limit is out of range"), (95, "credits is out of range"), (109, "it has taken all courses of the term"), (118, "no such course"), (124, "the course is dropped"), (130, "kind or amount is out of range"), (138, "rank or amount is out of range"), (149, "it has all awards of the term"), (151, "amount is out of range"), (169, "many is out of range"), (171, "it owes nothing"), (191, "the last term ends with this week"), (200, "no such kind"), (209, "no such award"), (223, "no such student")]
def SX (U : State) : Prop := ∀ q ∈ strs, ∃ a : Nat, vk_R RX4 q.1 q.2 a U
def xnd : List String := ["java/lang/RuntimeException", "java/lang/Exception", "java/lang/Throwable"]
def xcl : List String := ["java/lang/IllegalArgumentException", "java/lang/IllegalStateException", "java/lang/IndexOutOfBoundsException"]
/-- the exceptions' words that a method's own list doesn't carry -/
def XN (U : State) : Prop := (∀ X ∈ xnd, va_Nw (.declares (Bundle.initS X)) U) ∧ (∀ X ∈ xcl, va_Nw (.castable X X) U) ∧ ∀ X ∈ xcl, ∀ Y ∈ xcl, X ≠ Y → va_Nc X Y U
theorem XN_same {u U : State} (h : u.vm = U.vm) (k : XN u) : XN U := ⟨fun X hX => va_Nw.same rfl h (k.1 X hX), fun X hX => va_Nw.same rfl h (k.2.1 X hX), fun X hX Y hY hn => va_Nc.moved (h ▸ Vm.Alike.refl u.vm) (k.2.2 X hX Y hY hn)⟩
theorem XN_warm {s U : State} (hW : s.WarmedH U.vm) (k : XN s) : XN U := ⟨fun X hX => va_Nw.warmD hW (k.1 X hX), fun X hX => va_Nw.warmC hW (k.2.1 X hX), fun X hX Y hY hn => va_Nc.moved hW.alike (k.2.2 X hX Y hY hn)⟩
/-- what the machine's tables say, and the two statics that an exception reads -/
def EN (D : va_G) (cA : Nat → ClassId) (A : Nat → Prop) (U : State) : Prop := va_K D vwCl (TT cA) U ∧ vx_Zq Bundle.tN "UNASSIGNED_STACK" Bundle.steD A U U.heap ∧ vx_Zq Bundle.tN "SUPPRESSED_SENTINEL" Bundle.listD A U U.heap ∧ SX U ∧ XN U
theorem EN_blind {D : va_G} {cA : Nat → ClassId} {A : Nat → Prop} {U : State} (g : JFrame) (mk : MethodId) (a : Array Value) (h : EN D cA A U) : EN D cA A (U.calling g mk a) :=
  ⟨va_K.moved (u := U) (U := U.calling g mk a) (Vm.Alike.refl U.vm) h.1, vx_Zq.moved (u := U) (U := U.calling g mk a) (H := U.heap) (Vm.Alike.refl U.vm) h.2.1, vx_Zq.moved (u := U) (U := U.calling g mk a) (H := U.heap) (Vm.Alike.refl U.vm) h.2.2.1, fun q hq => by
    obtain ⟨z, hz⟩ := h.2.2.2.1 q hq
    exact ⟨z, vk_R.same (u := U) rfl hz⟩, XN_same (u := U) rfl h.2.2.2.2⟩
theorem EN_at {D : va_G} {cA : Nat → ClassId} {ad : Nat → Nat} {s U : State} {H : Heap} {locs : List Loc} (h : EN D cA (AA ad s.heap.size) s) (hS : va_S (AA ad s.heap.size) s.heap H locs) (hW : s.WarmedH U.vm) (hU : U.heap = H) : EN D cA (AA ad H.size) U := by
  refine ⟨va_K.moved hW.alike h.1, ?_, ?_, fun q hq => ?_, XN_warm hW h.2.2.2.2⟩
  · rw [hU]
    exact vx_Zq.narrow (vx_Zq.moved hW.alike (h.2.1.kept hS.2.1)) (AA_mono hS.1)
  · rw [hU]
    exact vx_Zq.narrow (vx_Zq.moved hW.alike (h.2.2.1.kept hS.2.1)) (AA_mono hS.1)
  · obtain ⟨z, hz⟩ := h.2.2.2.1 q hq
    exact ⟨z, vk_R.warm hW hz⟩
def PcA (D : va_G) (cA : Nat → ClassId) (ad : Nat → Nat) (sz : Nat) (av : List Value) (F : FF) : Array Value → State → Prop := va_Pc av (fun U => U.heap.size = sz ∧ va_P D vwCl (wA cA ad F) U.heap ∧ Inj ad ∧ EN D cA (AA ad sz) U)
theorem PcA_blind {D : va_G} {cA : Nat → ClassId} {ad : Nat → Nat} {sz : Nat} {av : List Value} {F : FF} : FrameBlind (PcA D cA ad sz av F) := fun a U g mk q => ⟨q.1, q.2.1, q.2.2.1, q.2.2.2.1, EN_blind g mk a q.2.2.2.2⟩
def CQ (D : va_G) (cA : Nat → ClassId) (ad : Nat → Nat) (sz : Nat) (F : FF) (ov : Option Value) : Array Value → State → Outcome → State → Prop := fun _ st oc t => oc = .returned ov ∧ va_P D vwCl (wA cA ad F) t.heap ∧ va_F (AA ad sz) st t
abbrev RM (fr lo mc ms : Nat) : Room := { frames := fr, cells := mc, slots := ms, locals := lo }
/-- a method that returns: from the arguments av in the world F it answers ov and leaves the world F1 -/
def CI (l : Launch) (D : va_G) (cA : Nat → ClassId) (ad : Nat → Nat) (sz : Nat) (y : MethodName) (ws : List Cond) (fr lo mc ms : Nat) (av : List Value) (F : FF) (ov : Option Value) (F1 : FF) : Prop := Met l y ws (RM fr lo mc ms) (PcA D cA ad sz av F) (CQ D cA ad sz F1 ov) mc ms (AA ad sz)
/-- .. that throws E and changes nothing -/
def XQ (D : va_G) (cA : Nat → ClassId) (ad : Nat → Nat) (sz : Nat) (E0 : String) (F : FF) : String → State → State → Prop := fun E st t => E = E0 ∧ va_P D vwCl (wA cA ad F) t.heap ∧ va_F (AA ad sz) st t
def NQ : Array Value → State → Outcome → State → Prop := fun _ _ _ _ => False
def CX (l : Launch) (D : va_G) (cA : Nat → ClassId) (ad : Nat → Nat) (sz : Nat) (y : MethodName) (ws : List Cond) (fr lo : Nat) (av : List Value) (F : FF) (E0 : String) (F1 : FF) : Prop := vx_Met l y ws (RM fr lo 1 6) (PcA D cA ad sz av F) NQ (XQ D cA ad sz E0 F1) 1 6 (AA ad sz)
def Cx (p : Program) (m : MethodId) (c : Code) (cc : ByteArray) (nL : Nat) (s : State) (args : Array Value) (ws : List Cond) (own : String) (D : va_G) (cA : Nat → ClassId) (ad : Nat → Nat) (meth : Method) : Prop := CallFix p m c cc nL s args ws own ∧ EN D cA (AA ad s.heap.size) s ∧ Inj ad ∧ meth.locks = false
def St (D : va_G) (cA : Nat → ClassId) (ad : Nat → Nat) (F : FF) (H0 H : Heap) (locs : List Loc) : Prop := va_P D vwCl (wA cA ad F) H ∧ va_S (AA ad H0.size) H0 H locs
def mn (x y : Int32) : Int32 := if y < x then y else x
def mx (x y : Int32) : Int32 := if x < y then y else x
theorem nI_mul (a b : Nat) : nI a * nI b = nI (a * b) := (Int32.ofNat_mul a b).symm
section RW
variable {p : Program} {l : Launch} {e : Env} {R : Room} {s : State} {m : MethodId} {args : Array Value} {below : List Frame} {meth : Method} {c : Code} {cc : ByteArray} {nL : Nat} {ws : List Cond} {own : String} {D : va_G} {cA : Nat → ClassId} {ad : Nat → Nat} {F : FF} {H : Heap} {locs : List Loc} {cells slots : Nat} {Q : State → Prop} {pc : Nat} {ls : Array Slot} {rest st0 : List Value}
theorem r_geti (X : Cx p m c cc nL s args ws own D cA ad meth) (S : St D cA ad F s.heap H locs) {k ci index N : Nat} {C : String} {T : u_T} (h5 : ∀ w ∈ u_ws C T N, w.before args s = true) (ho : Ob k ci) (j : Nat) (hc : vwCl[ci]? = some (C, T, N) ∧ j < N ∧ N = onn ci) (hr : orc ci k j = none) (hlink : (Cond.fieldLink own index (T j).1 (T j).2.1 (T j).2.2.1).before args s = true) (hdg : decode cc pc = .ok (.getfield index, 3))
    (kk : W p l e R s m args below meth c H locs cells slots Q (F0 m (pc + 3) ls (.int (F k j) :: rest))) : W p l e R s m args below meth c H locs cells slots Q (F0 m pc ls (.ref (ad k) :: rest)) := by
  obtain ⟨⟨hx, hb, -, hown, -⟩, hE, -, -⟩ := X
  exact va_get hx hb h5 (fun _ h => h) hown hE.1 S.1 k ((wA_get ho.1).trans (by rw [ent_ob ho])) hc.1 j hc.2.1 hlink (fun _ h => h) (vls_int ho.2.2 (by rw [← hc.2.2]; exact hc.2.1) hr) hdg kk
theorem r_getr (X : Cx p m c cc nL s args ws own D cA ad meth) (S : St D cA ad F s.heap H locs) {k ci index N q : Nat} {C : String} {T : u_T} (h5 : ∀ w ∈ u_ws C T N, w.before args s = true) (ho : Ob k ci) (j : Nat) (hc : vwCl[ci]? = some (C, T, N) ∧ j < N ∧ N = onn ci) (hr : orc ci k j = some q) (hlink : (Cond.fieldLink own index (T j).1 (T j).2.1 (T j).2.2.1).before args s = true) (hdg : decode cc pc = .ok (.getfield index, 3))
    (kk : W p l e R s m args below meth c H locs cells slots Q (F0 m (pc + 3) ls (.ref (ad q) :: rest))) : W p l e R s m args below meth c H locs cells slots Q (F0 m pc ls (.ref (ad k) :: rest)) := by
  obtain ⟨⟨hx, hb, -, hown, -⟩, hE, -, -⟩ := X
  exact va_get hx hb h5 (fun _ h => h) hown hE.1 S.1 k ((wA_get ho.1).trans (by rw [ent_ob ho])) hc.1 j hc.2.1 hlink (fun _ h => h) (vls_ref ho.2.2 (by rw [← hc.2.2]; exact hc.2.1) hr) hdg kk
theorem r_put (X : Cx p m c cc nL s args ws own D cA ad meth) (S : St D cA ad F s.heap H locs) {k ci index N : Nat} {C : String} {T : u_T} (h5 : ∀ w ∈ u_ws C T N, w.before args s = true) (ho : Ob k ci) (j : Nat) (hc : vwCl[ci]? = some (C, T, N) ∧ j < N ∧ N = onn ci) (hr : orc ci k j = none) (hlink : (Cond.fieldLink own index (T j).1 (T j).2.1 (T j).2.2.1).before args s = true)
    (ty0 : Nat → FieldType) (hty : ∀ k, k < N → parseFieldDescriptor (T k).2.2.1 = some (ty0 k)) (hnm : ∀ a, a < N → ∀ b, b < N → a ≠ b → (T a).2.1 ≠ (T b).2.1) (hfin : (T j).2.2.2 = false) {v : Int32} (hn : narrow (ty0 j) (.int v) = .int v) (hfit : fits (ty0 j) (.int v) = true) (hdg : decode cc pc = .ok (.putfield index, 3))
    (kk : ∀ (H1 : Heap) (locs1 : List Loc), St D cA ad (u2 F k j v) s.heap H1 locs1 → W p l e R s m args below meth c H1 locs1 cells slots Q (F0 m (pc + 3) ls rest)) : W p l e R s m args below meth c H locs cells slots Q (F0 m pc ls (.int v :: .ref (ad k) :: rest)) := by
  obtain ⟨⟨hx, hb, -, hown, -⟩, hE, hI, -⟩ := X
  refine va_put hx hb h5 (fun _ h => h) ty0 hty hnm hown hE.1 S.1 (wA_D F hI (fun k h => AA_of h)) S.2 k ((wA_get ho.1).trans (by rw [ent_ob ho])) hc.1 j hc.2.1 hlink (fun _ h => h) hfin (hty j hc.2.1) hn hfit (by rw [vls_len ho.2.2, ← hc.2.2]; exact hc.2.1) hdg (fun H1 locs1 hP _ hS => kk H1 locs1 ⟨?_, hS⟩)
  rw [vls_set ho.2.2 (by rw [← hc.2.2]; exact hc.2.1) hr, ← ent_ob (cA := cA) ho, wA_set ho.1] at hP
  exact hP
theorem r_puti (X : Cx p m c cc nL s args ws own D cA ad meth) (S : St D cA ad F s.heap H locs) {k ci index N : Nat} {C : String} {T : u_T} (h5 : ∀ w ∈ u_ws C T N, w.before args s = true) (ho : Ob k ci) (j : Nat) (hc : vwCl[ci]? = some (C, T, N) ∧ j < N ∧ N = onn ci) (hr : orc ci k j = none) (hlink : (Cond.fieldLink own index (T j).1 (T j).2.1 (T j).2.2.1).before args s = true)
    (ty0 : Nat → FieldType) (hty : ∀ k, k < N → parseFieldDescriptor (T k).2.2.1 = some (ty0 k)) (hnm : ∀ a, a < N → ∀ b, b < N → a ≠ b → (T a).2.1 ≠ (T b).2.1) (hfin : (T j).2.2.2 = false) (ht : ty0 j = .int) {v : Int32} (hdg : decode cc pc = .ok (.putfield index, 3))
    (kk : ∀ (H1 : Heap) (locs1 : List Loc), St D cA ad (u2 F k j v) s.heap H1 locs1 → W p l e R s m args below meth c H1 locs1 cells slots Q (F0 m (pc + 3) ls rest)) : W p l e R s m args below meth c H locs cells slots Q (F0 m pc ls (.int v :: .ref (ad k) :: rest)) :=
  r_put X S h5 ho j hc hr hlink ty0 hty hnm hfin (by rw [ht]; rfl) (by rw [ht]; rfl) hdg kk
theorem r_ial (X : Cx p m c cc nL s args ws own D cA ad meth) (S : St D cA ad F s.heap H locs) {k n : Nat} (ha : Ar k 1 n) {i : Int32} (hin : vp_in i n) (hdg : decode cc pc = .ok (.iaload, 1))
    (kk : W p l e R s m args below meth c H locs cells slots Q (F0 m (pc + 1) ls (.int (F k i.toNatClampNeg) :: rest))) : W p l e R s m args below meth c H locs cells slots Q (F0 m pc ls (.int i :: .ref (ad k) :: rest)) := by
  obtain ⟨⟨hx, hb, -, -, -⟩, hE, -, -⟩ := X
  exact va_iald hx hb hE.1 S.1 k 0 ((wA_get ha.1).trans (by rw [ent_i ha])) rfl hin hdg kk
theorem r_zal (X : Cx p m c cc nL s args ws own D cA ad meth) (S : St D cA ad F s.heap H locs) {k n : Nat} (ha : Ar k 2 n) {i : Int32} (hin : vp_in i n) (hdg : decode cc pc = .ok (.baload, 1))
    (kk : W p l e R s m args below meth c H locs cells slots Q (F0 m (pc + 1) ls (.int (F k i.toNatClampNeg) :: rest))) : W p l e R s m args below meth c H locs cells slots Q (F0 m pc ls (.int i :: .ref (ad k) :: rest)) := by
  obtain ⟨⟨hx, hb, -, -, -⟩, hE, -, -⟩ := X
  exact va_zald hx hb hE.1 S.1 k 1 ((wA_get ha.1).trans (by rw [ent_z ha])) rfl hin hdg kk
theorem r_ias (X : Cx p m c cc nL s args ws own D cA ad meth) (S : St D cA ad F s.heap H locs) {k n : Nat} (ha : Ar k 1 n) {i v : Int32} (hin : vp_in i n) (hdg : decode cc pc = .ok (.iastore, 1))
    (kk : ∀ (H1 : Heap) (locs1 : List Loc), St D cA ad (u2 F k i.toNatClampNeg v) s.heap H1 locs1 → W p l e R s m args below meth c H1 locs1 cells slots Q (F0 m (pc + 1) ls rest)) : W p l e R s m args below meth c H locs cells slots Q (F0 m pc ls (.int v :: .int i :: .ref (ad k) :: rest)) := by
  obtain ⟨⟨hx, hb, -, -, -⟩, hE, hI, -⟩ := X
  refine va_iast hx hb hE.1 S.1 (wA_D F hI (fun k h => AA_of h)) S.2 k 0 ((wA_get ha.1).trans (by rw [ent_i ha])) rfl hin hdg (fun H1 locs1 hP _ hS => kk H1 locs1 ⟨?_, hS⟩)
  rw [← ent_i (cA := cA) (ad := ad) ha, wA_set ha.1] at hP
  exact hP
theorem r_zas (X : Cx p m c cc nL s args ws own D cA ad meth) (S : St D cA ad F s.heap H locs) {k n : Nat} (ha : Ar k 2 n) {i v : Int32} (hv : vp_nar .boolean v = v) (hin : vp_in i n) (hdg : decode cc pc = .ok (.bastore, 1))
    (kk : ∀ (H1 : Heap) (locs1 : List Loc), St D cA ad (u2 F k i.toNatClampNeg v) s.heap H1 locs1 → W p l e R s m args below meth c H1 locs1 cells slots Q (F0 m (pc + 1) ls rest)) : W p l e R s m args below meth c H locs cells slots Q (F0 m pc ls (.int v :: .int i :: .ref (ad k) :: rest)) := by
  obtain ⟨⟨hx, hb, -, -, -⟩, hE, hI, -⟩ := X
  refine va_zast hx hb hE.1 S.1 (wA_D F hI (fun k h => AA_of h)) S.2 k 1 ((wA_get ha.1).trans (by rw [ent_z ha])) rfl hin hdg (fun H1 locs1 hP _ hS => kk H1 locs1 ⟨?_, hS⟩)
  rw [hv, ← ent_z (cA := cA) (ad := ad) ha, wA_set ha.1] at hP
  exact hP
theorem in_N {i : Int32} {q n : Nat} (hi : i = nI q) (hq : q < n) (hn : n ≤ 64) : vp_in i n ∧ i.toNatClampNeg = q := by
  subst hi
  exact ⟨vp_in_nI hq (by omega), nI_clamp (by omega)⟩
theorem r_ialN (X : Cx p m c cc nL s args ws own D cA ad meth) (S : St D cA ad F s.heap H locs) {k n : Nat} (ha : Ar k 1 n) {i : Int32} {q : Nat} (hi : i = nI q) (hq : q < n) (hn : n ≤ 64) (hdg : decode cc pc = .ok (.iaload, 1))
    (kk : W p l e R s m args below meth c H locs cells slots Q (F0 m (pc + 1) ls (.int (F k q) :: rest))) : W p l e R s m args below meth c H locs cells slots Q (F0 m pc ls (.int i :: .ref (ad k) :: rest)) := by
  obtain ⟨h1, h2⟩ := in_N hi hq hn
  refine r_ial X S ha h1 hdg ?_
  rw [h2]
  exact kk
theorem r_zalN (X : Cx p m c cc nL s args ws own D cA ad meth) (S : St D cA ad F s.heap H locs) {k n : Nat} (ha : Ar k 2 n) {i : Int32} {q : Nat} (hi : i = nI q) (hq : q < n) (hn : n ≤ 64) (hdg : decode cc pc = .ok (.baload, 1))
    (kk : W p l e R s m args below meth c H locs cells slots Q (F0 m (pc + 1) ls (.int (F k q) :: rest))) : W p l e R s m args below meth c H locs cells slots Q (F0 m pc ls (.int i :: .ref (ad k) :: rest)) := by
  obtain ⟨h1, h2⟩ := in_N hi hq hn
  refine r_zal X S ha h1 hdg ?_
  rw [h2]
  exact kk
theorem r_iasN (X : Cx p m c cc nL s args ws own D cA ad meth) (S : St D cA ad F s.heap H locs) {k n : Nat} (ha : Ar k 1 n) {i v : Int32} {q : Nat} (hi : i = nI q) (hq : q < n) (hn : n ≤ 64) (hdg : decode cc pc = .ok (.iastore, 1))
    (kk : ∀ (H1 : Heap) (locs1 : List Loc), St D cA ad (u2 F k q v) s.heap H1 locs1 → W p l e R s m args below meth c H1 locs1 cells slots Q (F0 m (pc + 1) ls rest)) : W p l e R s m args below meth c H locs cells slots Q (F0 m pc ls (.int v :: .int i :: .ref (ad k) :: rest)) := by
  obtain ⟨h1, h2⟩ := in_N hi hq hn
  refine r_ias X S ha h1 hdg (fun H1 locs1 S1 => kk H1 locs1 ?_)
  rw [h2] at S1
  exact S1
theorem r_zasN (X : Cx p m c cc nL s args ws own D cA ad meth) (S : St D cA ad F s.heap H locs) {k n : Nat} (ha : Ar k 2 n) {i v : Int32} {q : Nat} (hv : vp_nar .boolean v = v) (hi : i = nI q) (hq : q < n) (hn : n ≤ 64) (hdg : decode cc pc = .ok (.bastore, 1))
    (kk : ∀ (H1 : Heap) (locs1 : List Loc), St D cA ad (u2 F k q v) s.heap H1 locs1 → W p l e R s m args below meth c H1 locs1 cells slots Q (F0 m (pc + 1) ls rest)) : W p l e R s m args below meth c H locs cells slots Q (F0 m pc ls (.int v :: .int i :: .ref (ad k) :: rest)) := by
  obtain ⟨h1, h2⟩ := in_N hi hq hn
  refine r_zas X S ha hv h1 hdg (fun H1 locs1 S1 => kk H1 locs1 ?_)
  rw [h2] at S1
  exact S1
theorem r_sal (X : Cx p m c cc nL s args ws own D cA ad meth) (S : St D cA ad F s.heap H locs) {i : Int32} {q : Nat} (hi : i = nI q) (hq : q < 4) (hdg : decode cc pc = .ok (.aaload, 1))
    (kk : W p l e R s m args below meth c H locs cells slots Q (F0 m (pc + 1) ls (.ref (ad (4 + 8 * q)) :: rest))) : W p l e R s m args below meth c H locs cells slots Q (F0 m pc ls (.int i :: .ref (ad 1) :: rest)) := by
  obtain ⟨⟨hx, hb, -, -, -⟩, hE, -, -⟩ := X
  obtain ⟨h1, h2⟩ := in_N hi hq (by omega)
  refine va_aldq hx hb hE.1 S.1 1 2 ((wA_get (by omega)).trans (by rw [ent_s])) rfl h1 hdg ?_
  rw [h2, show stf ad q = some (ad (4 + 8 * q)) from if_pos hq]
  exact kk
theorem r_leni (X : Cx p m c cc nL s args ws own D cA ad meth) (S : St D cA ad F s.heap H locs) {k n : Nat} (ha : Ar k 1 n) {v : Int32} (hv : Int32.ofNat n = v) (hdg : decode cc pc = .ok (.arraylength, 1))
    (kk : W p l e R s m args below meth c H locs cells slots Q (F0 m (pc + 1) ls (.int v :: rest))) : W p l e R s m args below meth c H locs cells slots Q (F0 m pc ls (.ref (ad k) :: rest)) := by
  obtain ⟨⟨hx, hb, -, -, -⟩, hE, -, -⟩ := X
  exact va_alen hx hb hE.1 S.1 k 0 ((wA_get ha.1).trans (by rw [ent_i ha])) rfl hv hdg kk
theorem r_lens (X : Cx p m c cc nL s args ws own D cA ad meth) (S : St D cA ad F s.heap H locs) (hdg : decode cc pc = .ok (.arraylength, 1))
    (kk : W p l e R s m args below meth c H locs cells slots Q (F0 m (pc + 1) ls (.int 4 :: rest))) : W p l e R s m args below meth c H locs cells slots Q (F0 m pc ls (.ref (ad 1) :: rest)) := by
  obtain ⟨⟨hx, hb, -, -, -⟩, hE, -, -⟩ := X
  exact va_alen hx hb hE.1 S.1 1 2 ((wA_get (by omega)).trans (by rw [ent_s])) rfl rfl hdg kk
theorem r_lal (X : Cx p m c cc nL s args ws own D cA ad meth) (S : St D cA ad F s.heap H locs) (hdg : decode cc pc = .ok (.laload, 1))
    (kk : W p l e R s m args below meth c H locs cells slots Q (F0 m (pc + 1) ls (.long (F 59 0).toInt64 :: rest))) : W p l e R s m args below meth c H locs cells slots Q (F0 m pc ls (.int 0 :: .ref (ad 59) :: rest)) := by
  obtain ⟨⟨hx, hb, -, -, -⟩, hE, -, -⟩ := X
  obtain ⟨h1, h2⟩ := in_N (i := 0) (q := 0) (n := 1) nI_0.symm (by omega) (by omega)
  refine va_lald hx hb hE.1 S.1 59 3 ((wA_get (by omega)).trans (by rw [ent_l])) rfl h1 hdg ?_
  rw [h2]
  exact kk
theorem r_las (X : Cx p m c cc nL s args ws own D cA ad meth) (S : St D cA ad F s.heap H locs) {v : Int32} {z : Int64} (hz : z = v.toInt64) (hdg : decode cc pc = .ok (.lastore, 1))
    (kk : ∀ (H1 : Heap) (locs1 : List Loc), St D cA ad (u2 F 59 0 v) s.heap H1 locs1 → W p l e R s m args below meth c H1 locs1 cells slots Q (F0 m (pc + 1) ls rest)) : W p l e R s m args below meth c H locs cells slots Q (F0 m pc ls (.long z :: .int 0 :: .ref (ad 59) :: rest)) := by
  obtain ⟨⟨hx, hb, -, -, -⟩, hE, hI, -⟩ := X
  obtain ⟨h1, h2⟩ := in_N (i := 0) (q := 0) (n := 1) nI_0.symm (by omega) (by omega)
  refine va_last hx hb hE.1 S.1 (wA_D F hI (fun k h => AA_of h)) S.2 59 3 ((wA_get (by omega)).trans (by rw [ent_l])) rfl h1 hdg (fun H1 locs1 hP _ hS => kk H1 locs1 ⟨?_, hS⟩)
  rw [h2, hz, show vp_updL (fun j => (F 59 j).toInt64) 0 v.toInt64 = (fun j => (upd (F 59) 0 v j).toInt64) from by funext j; by_cases h : j = 0 <;> simp [vp_updL, upd, h], ← ent_l (cA := cA) (ad := ad), wA_set (by omega)] at hP
  exact hP
theorem preS_of (X : Cx p m c cc nL s args ws own D cA ad meth) (S : St D cA ad F s.heap H locs) (av : List Value) : PreS s H (PcA D cA ad H.size av F) av :=
  ⟨PcA_blind, fun U hU hW => ⟨rfl, by rw [hU], by rw [hU]; exact S.1, X.2.2.1, EN_at X.2.1 S.2 hW hU⟩⟩
theorem preV_of (X : Cx p m c cc nL s args ws own D cA ad meth) (S : St D cA ad F s.heap H locs) (As : List Value) {k ci : Nat} {q : vw_C} (ho : Ob k ci) (hc : vwCl[ci]? = some q) : PreV s H q.1 (ad k) (PcA D cA ad H.size (.ref (ad k) :: As) F) As :=
  ⟨PcA_blind, va_recv (cl := vwCl) X.2.1.1 S.1 hc ((wA_get ho.1).trans (by rw [ent_ob ho])), fun U hU hW => ⟨rfl, by rw [hU], by rw [hU]; exact S.1, X.2.2.1, EN_at X.2.1 S.2 hW hU⟩⟩
/-- behind a call: the world that the callee leaves -/
theorem r_call (S : St D cA ad F s.heap H locs) {mc ms : Nat} {F1 : FF} {ov : Option Value} {a : Array Value} (hr : va_Run p l e R s m args below meth c H locs cells slots mc ms (F0 m pc ls st0) rest (CQ D cA ad H.size F1 ov a) (AA ad H.size))
    (kk : ∀ (H1 : Heap) (locs1 : List Loc), St D cA ad F1 s.heap H1 locs1 → W p l e R s m args below meth c H1 locs1 (cells + mc) (slots + ms) Q (F0 m (pc + 3) ls (ov.toList ++ rest))) : W p l e R s m args below meth c H locs cells slots Q (F0 m pc ls st0) := by
  intro T hT X9
  obtain ⟨v, st₀, t, T', L, h0, X', hL, e1, e2, ⟨hv, hP, hF⟩, st⟩ := hr T hT X9
  cases hv
  obtain ⟨-, -, k3⟩ := vx_keep h0 e1 S.2 (fun q _ h => AA_mono S.2.1 q h) (fun q h => AA_mono S.2.1 q h) hL hF
  obtain ⟨t2, a1, b1⟩ := kk T'.heap (locs ++ L) ⟨by rw [e1]; exact hP, k3⟩ T' rfl X'
  exact ⟨t2, st t2 a1, b1⟩
/-- .. or the world as it was, and an exception over the frame -/
theorem r_callX (S : St D cA ad F s.heap H locs) {E0 : String} {F1 : FF} {a : Array Value} (hr : vx_Run p l e R s m args below meth c H locs cells slots 1 6 (F0 m pc ls st0) rest (NQ a) (XQ D cA ad H.size E0 F1) (AA ad H.size))
    (kx : ∀ (ce : Cell) (q9 : Addr) (H1 : Heap) (locs1 : List Loc), St D cA ad F1 s.heap H1 locs1 → H1[q9]? = some ce → ce.vm = .none → s.vm.findClass E0 = some ce.cls → vx_W p l e R s m args below meth c H1 locs1 (cells + 1) (slots + 6) Q (F0 m pc ls rest) q9) : W p l e R s m args below meth c H locs cells slots Q (F0 m pc ls st0) := by
  intro T hT X9
  rcases hr T hT X9 with ⟨v, st₀, t, T', L, h0, X', hL, e1, e2, hv, st⟩ | ⟨q, st₀, t, T', L, E, ce, h0, X', hL, e1, e2, ⟨rfl, hP, hF⟩, hce, hcv, hcl, st⟩
  · exact hv.elim
  · obtain ⟨-, -, k3⟩ := vx_keep h0 e1 S.2 (fun q _ h => AA_mono S.2.1 q h) (fun q h => AA_mono S.2.1 q h) hL hF
    obtain ⟨t2, a1, b1⟩ := kx ce q T'.heap (locs ++ L) ⟨by rw [e1]; exact hP, k3⟩ (by rw [e1]; exact hce) hcv hcl T' rfl X'
    exact ⟨t2, st.trans a1, b1⟩
theorem r_V (X : Cx p m c cc nL s args ws own D cA ad meth) (S : St D cA ad F s.heap H locs) {k ci fr lo mc ms maxL n index : Nat} {q : vw_C} {y : MethodName} {bytes : ByteArray} {ret : Option FieldType} {ws1 : List Cond} {As : List Value} {ov : Option Value} {F1 : FF} (hM : CI l D cA ad H.size y ws1 fr lo mc ms (.ref (ad k) :: As) F ov F1) (ho : Ob k ci) (hc : vwCl[ci]? = some q) (cw : CallW R s args own q.1 index y bytes maxL ret ws1 (RM fr lo mc ms) mc ms n)
    (hn : As.length = n) (hl : ls.size = nL) (hst : st0 = As.reverse ++ .ref (ad k) :: rest) (hcat : (rest.map fun v => v.category).sum ≤ 8) (hdg : decode cc pc = .ok (.invokevirtual index, 3)) (hf : cells + mc ≤ R.cells ∧ slots + ms ≤ R.slots)
    (kk : ∀ (H1 : Heap) (locs1 : List Loc), St D cA ad F1 s.heap H1 locs1 → W p l e R s m args below meth c H1 locs1 (cells + mc) (slots + ms) Q (F0 m (pc + 3) ls (ov.toList ++ rest))) : W p l e R s m args below meth c H locs cells slots Q (F0 m pc ls st0) :=
  r_call S (va_runV X.1 hM cw (preV_of X S As ho hc) rfl hn hl hst (lv_room hcat) hdg hf) kk
theorem r_S (X : Cx p m c cc nL s args ws own D cA ad meth) (S : St D cA ad F s.heap H locs) {fr lo mc ms maxL n index : Nat} {y : MethodName} {bytes : ByteArray} {ret : Option FieldType} {ws1 : List Cond} {As : List Value} {ov : Option Value} {F1 : FF} (hM : CI l D cA ad H.size y ws1 fr lo mc ms As F ov F1) (cw : CallB R s args own index y bytes maxL ret ws1 (RM fr lo mc ms) mc ms n ∧ (Cond.static y).before args s = true)
    (hn : As.length = n) (hl : ls.size = nL) (hst : st0 = As.reverse ++ rest) (hcat : (rest.map fun v => v.category).sum ≤ 8) (hdg : decode cc pc = .ok (.invokestatic index, 3)) (hf : cells + mc ≤ R.cells ∧ slots + ms ≤ R.slots)
    (kk : ∀ (H1 : Heap) (locs1 : List Loc), St D cA ad F1 s.heap H1 locs1 → W p l e R s m args below meth c H1 locs1 (cells + mc) (slots + ms) Q (F0 m (pc + 3) ls (ov.toList ++ rest))) : W p l e R s m args below meth c H locs cells slots Q (F0 m pc ls st0) :=
  r_call S (va_runS X.1 hM cw (preS_of X S As) rfl hn hl hst (lv_room hcat) hdg hf) kk
theorem r_V0 (X : Cx p m c cc nL s args ws own D cA ad meth) (S : St D cA ad F s.heap H locs) {k ci fr lo maxL n index : Nat} {q : vw_C} {y : MethodName} {bytes : ByteArray} {ret : Option FieldType} {ws1 : List Cond} {As : List Value} {ov : Option Value} {F1 : FF} (hM : CI l D cA ad H.size y ws1 fr lo 0 0 (.ref (ad k) :: As) F ov F1) (ho : Ob k ci) (hc : vwCl[ci]? = some q) (cw : CallW R s args own q.1 index y bytes maxL ret ws1 (RM fr lo 0 0) 0 0 n)
    (hn : As.length = n) (hl : ls.size = nL) (hst : st0 = As.reverse ++ .ref (ad k) :: rest) (hcat : (rest.map fun v => v.category).sum ≤ 8) (hdg : decode cc pc = .ok (.invokevirtual index, 3)) (hf : cells ≤ R.cells ∧ slots ≤ R.slots)
    (kk : ∀ (H1 : Heap) (locs1 : List Loc), St D cA ad F1 s.heap H1 locs1 → W p l e R s m args below meth c H1 locs1 cells slots Q (F0 m (pc + 3) ls (ov.toList ++ rest))) : W p l e R s m args below meth c H locs cells slots Q (F0 m pc ls st0) :=
  r_call S (va_runV X.1 hM cw (preV_of X S As ho hc) rfl hn hl hst (lv_room hcat) hdg hf) kk
theorem r_S0 (X : Cx p m c cc nL s args ws own D cA ad meth) (S : St D cA ad F s.heap H locs) {fr lo maxL n index : Nat} {y : MethodName} {bytes : ByteArray} {ret : Option FieldType} {ws1 : List Cond} {As : List Value} {ov : Option Value} {F1 : FF} (hM : CI l D cA ad H.size y ws1 fr lo 0 0 As F ov F1) (cw : CallB R s args own index y bytes maxL ret ws1 (RM fr lo 0 0) 0 0 n ∧ (Cond.static y).before args s = true)
    (hn : As.length = n) (hl : ls.size = nL) (hst : st0 = As.reverse ++ rest) (hcat : (rest.map fun v => v.category).sum ≤ 8) (hdg : decode cc pc = .ok (.invokestatic index, 3)) (hf : cells ≤ R.cells ∧ slots ≤ R.slots)
    (kk : ∀ (H1 : Heap) (locs1 : List Loc), St D cA ad F1 s.heap H1 locs1 → W p l e R s m args below meth c H1 locs1 cells slots Q (F0 m (pc + 3) ls (ov.toList ++ rest))) : W p l e R s m args below meth c H locs cells slots Q (F0 m pc ls st0) :=
  r_call S (va_runS X.1 hM cw (preS_of X S As) rfl hn hl hst (lv_room hcat) hdg hf) kk
theorem r_min (X : Cx p m c cc nL s args ws own D cA ad meth) (hls : ls.size = nL) {index : Nat} (hlink : (Cond.methodLink own index Lib.Math.min.name).before args s = true) (hstat : (Cond.static Lib.Math.min.name).before args s = true) (hini : (Cond.initialized "java/lang/Math").before args s = true) (hcode : (Cond.code Lib.Math.min.name Lib.Math.min.code 2 (some .int)).before args s = true)
    (hframes : 1 ≤ R.frames) (hlocals : (rest.map fun v => v.category).sum + 13 ≤ R.locals) (hc : cells ≤ R.cells) (hs : slots ≤ R.slots) {x y : Int32} (hdg : decode cc pc = .ok (.invokestatic index, 3))
    (kk : W p l e R s m args below meth c H locs cells slots Q (F0 m (pc + 3) ls (.int (mn x y) :: rest))) : W p l e R s m args below meth c H locs cells slots Q (F0 m pc ls (.int y :: .int x :: rest)) :=
  va_mmin X.1.1 X.1.2.1 (X.1.2.2.1.trans hls.symm) X.1.2.2.2.1 hlink hstat hini hcode hframes hlocals hc hs hdg kk
theorem r_max (X : Cx p m c cc nL s args ws own D cA ad meth) (hls : ls.size = nL) {index : Nat} (hlink : (Cond.methodLink own index Lib.Math.max.name).before args s = true) (hstat : (Cond.static Lib.Math.max.name).before args s = true) (hini : (Cond.initialized "java/lang/Math").before args s = true) (hcode : (Cond.code Lib.Math.max.name Lib.Math.max.code 2 (some .int)).before args s = true)
    (hframes : 1 ≤ R.frames) (hlocals : (rest.map fun v => v.category).sum + 13 ≤ R.locals) (hc : cells ≤ R.cells) (hs : slots ≤ R.slots) {x y : Int32} (hdg : decode cc pc = .ok (.invokestatic index, 3))
    (kk : W p l e R s m args below meth c H locs cells slots Q (F0 m (pc + 3) ls (.int (mx x y) :: rest))) : W p l e R s m args below meth c H locs cells slots Q (F0 m pc ls (.int y :: .int x :: rest)) :=
  va_mmax X.1.1 X.1.2.1 (X.1.2.2.1.trans hls.symm) X.1.2.2.2.1 hlink hstat hini hcode hframes hlocals hc hs hdg kk
/-- a static method with a table of its own -/
theorem r_SW (X : Cx p m c cc nL s args ws own D cA ad meth) (S : St D cA ad F s.heap H locs) {fr lo mc ms maxL n index : Nat} {y : MethodName} {bytes : ByteArray} {ret : Option FieldType} {hh : List (Nat × Nat × Nat × Nat)} {ws1 : List Cond} {As : List Value} {ov : Option Value} {F1 : FF} (hM : CI l D cA ad H.size y ws1 fr lo mc ms As F ov F1) (cw : vx_CSW R s args own index y bytes maxL ret hh ws1 (RM fr lo mc ms) mc ms n)
    (hn : As.length = n) (hl : ls.size = nL) (hst : st0 = As.reverse ++ rest) (hcat : (rest.map fun v => v.category).sum ≤ 8) (hdg : decode cc pc = .ok (.invokestatic index, 3)) (hf : cells + mc ≤ R.cells ∧ slots + ms ≤ R.slots)
    (kk : ∀ (H1 : Heap) (locs1 : List Loc), St D cA ad F1 s.heap H1 locs1 → W p l e R s m args below meth c H1 locs1 (cells + mc) (slots + ms) Q (F0 m (pc + 3) ls (ov.toList ++ rest))) : W p l e R s m args below meth c H locs cells slots Q (F0 m pc ls st0) :=
  r_call S (vx_runSW X.1 hM cw (preS_of X S As) rfl hn hl hst (lv_room hcat) hdg hf) kk
/-- a call that throws -/
theorem r_VX (X : Cx p m c cc nL s args ws own D cA ad meth) (S : St D cA ad F s.heap H locs) {k ci fr lo maxL n index : Nat} {q : vw_C} {y : MethodName} {bytes : ByteArray} {ret : Option FieldType} {ws1 : List Cond} {As : List Value} {E0 : String} {F1 : FF} (hM : CX l D cA ad H.size y ws1 fr lo (.ref (ad k) :: As) F E0 F1) (ho : Ob k ci) (hc : vwCl[ci]? = some q) (cw : CallW R s args own q.1 index y bytes maxL ret ws1 (RM fr lo 1 6) 1 6 n)
    (hn : As.length = n) (hl : ls.size = nL) (hst : st0 = As.reverse ++ .ref (ad k) :: rest) (hcat : (rest.map fun v => v.category).sum ≤ 8) (hdg : decode cc pc = .ok (.invokevirtual index, 3)) (hf : cells + 1 ≤ R.cells ∧ slots + 6 ≤ R.slots)
    (kx : ∀ (ce : Cell) (q9 : Addr) (H1 : Heap) (locs1 : List Loc), St D cA ad F1 s.heap H1 locs1 → H1[q9]? = some ce → ce.vm = .none → s.vm.findClass E0 = some ce.cls → vx_W p l e R s m args below meth c H1 locs1 (cells + 1) (slots + 6) Q (F0 m pc ls rest) q9) : W p l e R s m args below meth c H locs cells slots Q (F0 m pc ls st0) :=
  r_callX S (vx_runV X.1 hM cw (preV_of X S As ho hc) rfl hn hl hst (lv_room hcat) hdg hf) kx
theorem r_out (X : Cx p m c cc nL s args ws own D cA ad meth) (S : St D cA ad F s.heap H locs) (hno : ∀ x ∈ c.exceptionTable.toList, False) {E0 : String} {ce : Cell} {q9 : Addr} (h1 : H[q9]? = some ce) (h2 : ce.vm = .none) (h3 : s.vm.findClass E0 = some ce.cls) (hc : cells ≤ 1) (hs : slots ≤ 6) {F1 : FF} (hF : F = F1) : vx_W p l e R s m args below meth c H locs cells slots (vx_MQ below NQ (XQ D cA ad s.heap.size E0 F1) args s 1 6 (AA ad s.heap.size)) (F0 m pc ls rest) q9 := by
  subst hF
  exact vx_out (fun x hx => (hno x hx).elim) X.2.2.2 h1 h2 h3 (fun t ht _ => ⟨rfl, by rw [ht]; exact S.1, S.2.F ht⟩) S.2.2.2 hc hs
abbrev xnm : List String := ["java/lang/RuntimeException", "java/lang/Exception"]
theorem r_throw (X : Cx p m c cc nL s args ws RX4 D cA ad meth) (S : St D cA ad F s.heap H locs) (hl : l.stackTraces = false) (hno : ∀ x ∈ c.exceptionTable.toList, False) {cls text : String} {ik is ic : Nat} (hls : ls.size = nL) (hcls : Bundle.fit cls = true) (hk : (Cond.classLink RX4 ik cls).before args s = true) (hini : (Cond.initialized cls).before args s = true) (hmem : (is, text) ∈ strs) (hat : ∀ w ∈ vx_atS RX4 ic cls xnm, w.before args s = true)
    (hgood : ∀ w ∈ Cond.classLink RX4 ik cls :: Cond.initialized cls :: vx_atS RX4 ic cls xnm, vx_ot w = true)
    (d0 : decode cc pc = .ok (.new ik, 3)) (d3 : decode cc (pc + 3) = .ok (.dup, 1)) (d4 : decode cc (pc + 4) = .ok (.ldc is, 2)) (d6 : decode cc (pc + 6) = .ok (.invokespecial ic, 3)) (d9 : decode cc (pc + 9) = .ok (.athrow, 1))
    (hR : 5 < R.frames ∧ (rest.map fun v => v.category).sum + 82 ≤ R.locals ∧ cells + 1 ≤ R.cells ∧ slots + 6 ≤ R.slots) (hc : cells + 1 ≤ 1) (hs : slots + 6 ≤ 6) {F1 : FF} (hF : F = F1) :
    W p l e R s m args below meth c H locs cells slots (vx_MQ below NQ (XQ D cA ad s.heap.size cls F1) args s 1 6 (AA ad s.heap.size)) (F0 m pc ls rest) := by
  subst hF
  obtain ⟨⟨hx, hb, hml, hown, -⟩, hE, hI, hlocks⟩ := X
  obtain ⟨sa, hsa⟩ := hE.2.2.2.1 (is, text) hmem
  refine vx_throwS hx hb hl hown hcls (by decide) hk hini hsa hat hgood hE.2.1 hE.2.2.1 S.2 (hls.trans hml.symm) d0 d3 d4 d6 d9 (fun x hx => (hno x hx).elim) hR.1 hR.2.1 hR.2.2.1 hR.2.2.2 hlocks (fun t _ hz hq => ?_) S.2.2.2 hc hs
  refine ⟨rfl, S.1.kept (fun k q hk => ?_), Nat.le_trans S.2.1 hz, fun q h1 h2 => ?_⟩
  · exact hq q.1 (S.1 k q hk).lt
  · rw [hq q (Nat.lt_of_lt_of_le h1 S.2.1)]
    exact S.2.2.1 q h1 h2
theorem r_iret (X : Cx p m c cc nL s args ws own D cA ad meth) (S : St D cA ad F s.heap H locs) {v v0 : Int32} {F1 : FF} {mc ms : Nat} (hr : meth.sig.returnType = some .int) (hdg : decode cc pc = .ok (.ireturn, 1)) (hc : cells ≤ mc) (hs : slots ≤ ms) (hv : v = v0) (hF : F = F1) : W p l e R s m args below meth c H locs cells slots (MQ below (CQ D cA ad s.heap.size F1 (some (.int v0))) args s mc ms (AA ad s.heap.size)) (F0 m pc ls [.int v]) := by
  subst hv; subst hF
  obtain ⟨⟨hx, hb, -, -, -⟩, -, -, hlocks⟩ := X
  exact W.widen hc hs (W.iret hx hb hr (fun t ht _ => ⟨rfl, by rw [ht]; exact S.1, S.2.F ht⟩) S.2.2.2 hdg hlocks)
theorem r_zret (X : Cx p m c cc nL s args ws own D cA ad meth) (S : St D cA ad F s.heap H locs) {v v0 : Int32} {F1 : FF} {mc ms : Nat} (hr : meth.sig.returnType = some .boolean) (hn : narrow .boolean (.int v) = .int v) (hdg : decode cc pc = .ok (.ireturn, 1)) (hc : cells ≤ mc) (hs : slots ≤ ms) (hv : v = v0) (hF : F = F1) : W p l e R s m args below meth c H locs cells slots (MQ below (CQ D cA ad s.heap.size F1 (some (.int v0))) args s mc ms (AA ad s.heap.size)) (F0 m pc ls [.int v]) := by
  subst hv; subst hF
  obtain ⟨⟨hx, hb, -, -, -⟩, -, -, hlocks⟩ := X
  exact W.widen hc hs (W.zret hx hb hr hn (fun t ht _ => ⟨rfl, by rw [ht]; exact S.1, S.2.F ht⟩) S.2.2.2 hdg hlocks)
theorem r_vret (X : Cx p m c cc nL s args ws own D cA ad meth) (S : St D cA ad F s.heap H locs) {F1 : FF} {mc ms : Nat} (hr : meth.sig.returnType = none) (hdg : decode cc pc = .ok (.return_, 1)) (hc : cells ≤ mc) (hs : slots ≤ ms) (hF : F = F1) : W p l e R s m args below meth c H locs cells slots (MQ below (CQ D cA ad s.heap.size F1 none) args s mc ms (AA ad s.heap.size)) (F0 m pc ls []) := by
  subst hF
  obtain ⟨⟨hx, hb, -, -, -⟩, -, -, hlocks⟩ := X
  exact W.widen hc hs (W.vret hx hb hr (fun t ht _ => ⟨rfl, by rw [ht]; exact S.1, S.2.F ht⟩) S.2.2.2 hdg hlocks)
theorem r_aret (X : Cx p m c cc nL s args ws own D cA ad meth) (S : St D cA ad F s.heap H locs) {a a0 : Nat} {nm : String} {F1 : FF} {mc ms : Nat} (hr : meth.sig.returnType = some (.object nm)) (hdg : decode cc pc = .ok (.areturn, 1)) (hc : cells ≤ mc) (hs : slots ≤ ms) (hv : a = a0) (hF : F = F1) : W p l e R s m args below meth c H locs cells slots (MQ below (CQ D cA ad s.heap.size F1 (some (.ref a0))) args s mc ms (AA ad s.heap.size)) (F0 m pc ls [.ref a]) := by
  subst hv; subst hF
  obtain ⟨⟨hx, hb, -, -, -⟩, -, -, hlocks⟩ := X
  exact W.widen hc hs (W.aret hx hb hr (Or.inl ⟨nm, rfl⟩) (Or.inr ⟨a, rfl⟩) (fun t ht _ => ⟨rfl, by rw [ht]; exact S.1, S.2.F ht⟩) S.2.2.2 hdg hlocks)
end RW
theorem CI_of {l : Launch} {D : va_G} {cA : Nat → ClassId} {ad : Nat → Nat} {sz : Nat} {y : MethodName} {ws ws' : List Cond} {fr lo mc ms : Nat} {av : List Value} {F : FF} {ov : Option Value} {F1 : FF} {cc : ByteArray} {maxL : Nat} {ret : Option FieldType} {own : String} (hy : plainName y.cls = true) (hown : y.cls = own) (hw : ws = .code y cc maxL ret :: ws') (hlen : (lg_sl av).length ≤ maxL)
    (body : ∀ (p : Program) (e : Env) (s : State) (m : MethodId) (below : List Frame) (meth : Method) (c : Code) (ls : Array Slot), Cx p m c cc maxL s av.toArray ws own D cA ad meth → St D cA ad F s.heap s.heap [] → meth.sig.returnType = ret → lv_has ls maxL (lv_args 0 av) →
      W p l e (RM fr lo mc ms) s m av.toArray below meth c s.heap [] 0 0 (MQ below (CQ D cA ad s.heap.size F1 ov) av.toArray s mc ms (AA ad s.heap.size)) (F0 m 0 ls [])) : CI l D cA ad sz y ws fr lo mc ms av F ov F1 := by
  refine Met.ofW (cc := cc) (maxL := maxL) (ret := ret) hy hw ?_
  intro p e s m args below meth c s₁ B hml hv
  obtain ⟨rfl, hsz, hP, hI, hE⟩ := hv
  subst hsz
  have hl := lv_entry av hlen
  rw [lg_entry_eq]
  exact body p e s m below meth c _ ⟨⟨B.exec, B.bytes, hml, hown ▸ findClass_of_methodNamed B.named, atoms_spec (ws := ws) B.pre⟩, hE, hI, B.notSynchronized⟩ ⟨hP, va_S.rf⟩ B.returns hl
theorem CX_of {l : Launch} {D : va_G} {cA : Nat → ClassId} {ad : Nat → Nat} {sz : Nat} {y : MethodName} {ws ws' : List Cond} {fr lo : Nat} {av : List Value} {F : FF} {E0 : String} {F1 : FF} {cc : ByteArray} {maxL : Nat} {ret : Option FieldType} {own : String} (hy : plainName y.cls = true) (hown : y.cls = own) (hw : ws = .code y cc maxL ret :: ws') (hlen : (lg_sl av).length ≤ maxL)
    (body : ∀ (p : Program) (e : Env) (s : State) (m : MethodId) (below : List Frame) (meth : Method) (c : Code) (ls : Array Slot), Cx p m c cc maxL s av.toArray ws own D cA ad meth → St D cA ad F s.heap s.heap [] → (∀ x ∈ c.exceptionTable.toList, False) → lv_has ls maxL (lv_args 0 av) →
      W p l e (RM fr lo 1 6) s m av.toArray below meth c s.heap [] 0 0 (vx_MQ below NQ (XQ D cA ad s.heap.size E0 F1) av.toArray s 1 6 (AA ad s.heap.size)) (F0 m 0 ls [])) : CX l D cA ad sz y ws fr lo av F E0 F1 := by
  refine vx_ofW (cc := cc) (maxL := maxL) (ret := ret) hy hw ?_
  intro p e s m args below meth c s₁ B hml hno hv
  obtain ⟨rfl, hsz, hP, hI, hE⟩ := hv
  subst hsz
  have hl := lv_entry av hlen
  rw [lg_entry_eq]
  exact body p e s m below meth c _ ⟨⟨B.exec, B.bytes, hml, hown ▸ findClass_of_methodNamed B.named, atoms_spec (ws := ws) B.pre⟩, hE, hI, B.notSynchronized⟩ ⟨hP, va_S.rf⟩ hno hl
theorem CIW_of {l : Launch} {D : va_G} {cA : Nat → ClassId} {ad : Nat → Nat} {sz : Nat} {y : MethodName} {ws ws' : List Cond} {fr lo mc ms : Nat} {av : List Value} {F : FF} {ov : Option Value} {F1 : FF} {cc : ByteArray} {maxL : Nat} {ret : Option FieldType} {own : String} {hh : List (Nat × Nat × Nat × Nat)} (hy : plainName y.cls = true) (hown : y.cls = own) (hw : ws = .codeWith y cc maxL ret hh :: ws') (hlen : (lg_sl av).length ≤ maxL)
    (body : ∀ (p : Program) (e : Env) (s : State) (m : MethodId) (below : List Frame) (meth : Method) (c : Code) (ls : Array Slot), Cx p m c cc maxL s av.toArray ws own D cA ad meth → St D cA ad F s.heap s.heap [] → meth.sig.returnType = ret → c.exceptionTable.toList = tableOf hh → lv_has ls maxL (lv_args 0 av) →
      W p l e (RM fr lo mc ms) s m av.toArray below meth c s.heap [] 0 0 (MQ below (CQ D cA ad s.heap.size F1 ov) av.toArray s mc ms (AA ad s.heap.size)) (F0 m 0 ls [])) : CI l D cA ad sz y ws fr lo mc ms av F ov F1 := by
  refine va_MetW (cc := cc) (maxL := maxL) (ret := ret) (hh := hh) hy hw ?_
  intro p e s m args below meth c s₁ B hml hv
  obtain ⟨rfl, hsz, hP, hI, hE⟩ := hv
  subst hsz
  have hl := lv_entry av hlen
  have hts := atoms_spec (ws := ws) B.pre
  rw [lg_entry_eq]
  exact body p e s m below meth c _ ⟨⟨B.exec, B.bytes, hml, hown ▸ findClass_of_methodNamed B.named, hts⟩, hE, hI, B.notSynchronized⟩ ⟨hP, va_S.rf⟩ B.returns (vx_table (x := y) B (hts _ (by rw [hw]; exact List.mem_cons_self))) hl
def bI : Bool → Int32
  | true => 1
  | false => 0
theorem bI_f {b : Bool} (h : bI b = 0) : b = false := by cases b with
  | false => rfl
  | true => exact absurd h (by decide)
theorem bI_t {b : Bool} (h : ¬ bI b = 0) : b = true := by cases b with
  | false => exact absurd rfl h
  | true => rfl
theorem bI_narrow (b : Bool) : narrow .boolean (.int (bI b)) = .int (bI b) := by cases b <;> rfl
theorem bI_nar (b : Bool) : vp_nar .boolean (bI b) = bI b := by cases b <;> rfl
theorem bI_fits (b : Bool) : fits .boolean (.int (bI b)) = true := by cases b <;> rfl
/-- the words of a throw: the good ones out of the method's list, the others out of the start -/
def xB (X : String) : List Cond := [.declares (Bundle.initS "java/lang/RuntimeException"), .declares (Bundle.initS "java/lang/Exception"), .declares (Bundle.initS "java/lang/Throwable"), .castable X X]
theorem xB_ok {args : Array Value} {s : State} (k : XN s) {X : String} (hX : X ∈ xcl) : ∀ w ∈ xB X, w.before args s = true :=
  vx_c (va_Nw.use rfl (k.1 _ (by simp [xnd]))) (vx_c (va_Nw.use rfl (k.1 _ (by simp [xnd]))) (vx_c (va_Nw.use rfl (k.1 _ (by simp [xnd]))) (vx_c (va_Nw.use rfl (k.2.1 X hX)) vx_n)))
theorem hg57 : ∀ w ∈ (vx_atS RX4 57 "java/lang/IllegalArgumentException" xnm).filter (fun w => !goodWord w), w ∈ xB "java/lang/IllegalArgumentException" := by decide +kernel
theorem hat57 {args : Array Value} {s : State} {ws : List Cond} (k : XN s) (hts : ∀ w ∈ ws, w.before args s = true) (hin : ∀ w ∈ (vx_atS RX4 57 "java/lang/IllegalArgumentException" xnm).filter goodWord, w ∈ ws) : ∀ w ∈ vx_atS RX4 57 "java/lang/IllegalArgumentException" xnm, w.before args s = true := vx_hat (fun w h => hts w (hin w h)) hg57 (xB_ok k (by simp [xcl]))
theorem hg120 : ∀ w ∈ (vx_atS RX4 120 "java/lang/IndexOutOfBoundsException" xnm).filter (fun w => !goodWord w), w ∈ xB "java/lang/IndexOutOfBoundsException" := by decide +kernel
theorem hat120 {args : Array Value} {s : State} {ws : List Cond} (k : XN s) (hts : ∀ w ∈ ws, w.before args s = true) (hin : ∀ w ∈ (vx_atS RX4 120 "java/lang/IndexOutOfBoundsException" xnm).filter goodWord, w ∈ ws) : ∀ w ∈ vx_atS RX4 120 "java/lang/IndexOutOfBoundsException" xnm, w.before args s = true := vx_hat (fun w h => hts w (hin w h)) hg120 (xB_ok k (by simp [xcl]))
theorem hg111 : ∀ w ∈ (vx_atS RX4 111 "java/lang/IllegalStateException" xnm).filter (fun w => !goodWord w), w ∈ xB "java/lang/IllegalStateException" := by decide +kernel
theorem hat111 {args : Array Value} {s : State} {ws : List Cond} (k : XN s) (hts : ∀ w ∈ ws, w.before args s = true) (hin : ∀ w ∈ (vx_atS RX4 111 "java/lang/IllegalStateException" xnm).filter goodWord, w ∈ ws) : ∀ w ∈ vx_atS RX4 111 "java/lang/IllegalStateException" xnm, w.before args s = true := vx_hat (fun w h => hts w (hin w h)) hg111 (xB_ok k (by simp [xcl]))
theorem hgd57 : ∀ w ∈ Cond.classLink RX4 53 "java/lang/IllegalArgumentException" :: Cond.initialized "java/lang/IllegalArgumentException" :: vx_atS RX4 57 "java/lang/IllegalArgumentException" xnm, vx_ot w = true := by decide +kernel
theorem hgd120 : ∀ w ∈ Cond.classLink RX4 116 "java/lang/IndexOutOfBoundsException" :: Cond.initialized "java/lang/IndexOutOfBoundsException" :: vx_atS RX4 120 "java/lang/IndexOutOfBoundsException" xnm, vx_ot w = true := by decide +kernel
theorem hgd111 : ∀ w ∈ Cond.classLink RX4 107 "java/lang/IllegalStateException" :: Cond.initialized "java/lang/IllegalStateException" :: vx_atS RX4 111 "java/lang/IllegalStateException" xnm, vx_ot w = true := by decide +kernel
end
section
theorem zz_stub : True := trivial
end
