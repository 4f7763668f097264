theorem RX_0 : RX 0 F0v F0v := by
  refine ⟨⟨by unfold bt; decide +kernel, by unfold bt; decide +kernel, by unfold bt; decide +kernel, by unfold bt; decide +kernel⟩, by unfold RK; decide +kernel, ?_⟩
  have h1 : ∀ i, i < 4 → R1 F0v F0v i := by unfold R1 bt; decide +kernel
  have h2 : ∀ i, i < 4 → R2 0 0 F0v F0v i := by unfold R2 bt; decide +kernel
  have h3 : ∀ i, i < 4 → R3 F0v F0v i := fun i hi => ⟨by revert i; decide +kernel, by revert i; decide +kernel, by revert i; decide +kernel, by revert i; decide +kernel, by revert i; decide +kernel, by revert i; unfold bt; decide +kernel, by revert i; decide +kernel, by revert i; decide +kernel⟩
  have h4 : ∀ i, i < 4 → R4 F0v F0v i := fun i hi => ⟨by revert i; decide +kernel, by revert i; decide +kernel, by revert i; decide +kernel, by revert i; unfold bt; decide +kernel, by revert i; decide +kernel, by revert i; unfold bt; decide +kernel⟩
  have h5 : ∀ i, i < 4 → R5 F0v F0v i := by unfold R5; decide +kernel
  have et : tmN F0v = 0 := by decide +kernel
  intro i hi
  rw [et]
  exact ⟨h1 i hi, h2 i hi, h3 i hi, h4 i hi, h5 i hi⟩
theorem wC_get {cA : Nat → ClassId} {ad : Nat → Nat} {k : Nat} (h : k < 36) : (wC cA ad)[k]? = some (ad k, ent cA ad (F0v k) k) := wA_get (F := F0v) h
theorem wC_len (cA : Nat → ClassId) (ad : Nat → Nat) : (wC cA ad).length = 36 := by simp [wC]
theorem w2_l {cA : Nat → ClassId} {ad bd : Nat → Nat} {k : Nat} (h : k < 36) : (wC cA ad ++ wC cA bd)[k]? = some (ad k, ent cA ad (F0v k) k) := by
  rw [List.getElem?_append_left (by rw [wC_len]; exact h), wC_get h]
theorem w2_r {cA : Nat → ClassId} {ad bd : Nat → Nat} {k : Nat} (h : k < 36) : (wC cA ad ++ wC cA bd)[36 + k]? = some (bd k, ent cA bd (F0v k) k) := by
  rw [List.getElem?_append_right (by rw [wC_len]; omega), wC_len, show 36 + k - 36 = k by omega, wC_get h]
theorem SG_S2 {D : va_G} {cA : Nat → ClassId} {ad bd : Nat → Nat} {A : Nat → Prop} {s : State} {H : Heap} {locs : List Loc} (hA : A = fun q => s.heap.size ≤ q) (S : SG D A (wC cA ad ++ wC cA bd) s.heap H locs) : S2 D cA ad bd F0v F0v s.heap H locs ∧ IJ ad bd ∧ ∀ q, A2 ad bd s.heap.size q → s.heap.size ≤ q := by
  have n1 : ∀ k, k < 36 → s.heap.size ≤ ad k := fun k hk => by have := S.2.1.2 k _ (w2_l hk); rw [hA] at this; exact this
  have n2 : ∀ k, k < 36 → s.heap.size ≤ bd k := fun k hk => by have := S.2.1.2 (36 + k) _ (w2_r hk); rw [hA] at this; exact this
  have hn : ∀ q, A2 ad bd s.heap.size q → s.heap.size ≤ q := by
    rintro q ((⟨k, hk, e⟩ | h) | (⟨k, hk, e⟩ | h))
    · rw [e]; exact n1 k hk
    · exact h
    · rw [e]; exact n2 k hk
    · exact h
  refine ⟨⟨fun k q hk => ?_, fun k q hk => ?_, S.2.2.1, fun q h1 h2 => S.2.2.2.1 q h1 (by rw [hA]; intro z; have z : s.heap.size ≤ q := z; omega), fun q hq => ?_⟩, ⟨fun i j hi hj e => S.2.1.1 i j _ _ (w2_l hi) (w2_l hj) e, fun i j hi hj e => ?_, fun i j hi hj e => ?_⟩, hn⟩
  · obtain ⟨h1, e1⟩ := wA_mem hk
    rw [e1]
    exact S.1 k _ (w2_l h1)
  · obtain ⟨h1, e1⟩ := wA_mem hk
    rw [e1]
    exact S.1 (36 + k) _ (w2_r h1)
  · have := S.2.2.2.2 q hq
    rw [hA] at this
    exact Or.inl (Or.inr this)
  · have := S.2.1.1 (36 + i) (36 + j) _ _ (w2_r hi) (w2_r hj) e
    omega
  · have := S.2.1.1 i (36 + j) _ _ (w2_l hi) (w2_r hj) e
    omega
def Pre0 (b : Nat) (s : State) (D : va_G) (cA : Nat → ClassId) : Prop := GK D cA s ∧ (∀ A : Nat → Prop, (∀ a : Nat, a < s.heap.size → ¬ A a) → EN D cA A s)
set_option maxHeartbeats 2000000 in
set_option maxRecDepth 100000 in
theorem whole_walk {p : Program} {l : Launch} {e : Env} {s : State} {m : MethodId} {below : List Frame} {meth : Method} {c : Code} {D : va_G} {cA : Nat → ClassId} {b L : Nat} {xs : Nat → Int32} (hflags : l.flags = flags0) (hL : L ≤ 260) (hx : p.tables.exec = Jvm.exec) (hb : c.code = code) (hret : meth.sig.returnType = ret) (hml : c.maxLocals = 6) (hown : s.vm.findClass R_law = some m.cls) (htbl : ∀ w ∈ lw_tbl, w.before #[Value.ref b] s = true) (hX : va_X b L xs s s.heap) (hbl : b < s.heap.size) (hlocks : meth.locks = false) (hP : Pre0 b s D cA) {ls : Array Slot} (hl : lv_has ls 6 [(0, .ref b)]) : W p l e room_1 s m #[Value.ref b] below meth c s.heap [] 0 0 (lw_Z below #[Value.ref b] s) (F0 m 0 ls []) := by
  have hts : ∀ w ∈ wsL_law, w.before #[Value.ref b] s = true := fun w h => htbl w (wsL_law_in w h)
  have hw4 : ∀ w ∈ wsX40, w.before #[Value.ref b] s = true := fun w h => htbl w (inX4 w h)
  obtain ⟨A, hAe⟩ : ∃ A : Nat → Prop, A = fun q => s.heap.size ≤ q := ⟨_, rfl⟩
  have X : Gx p m c code 6 s #[Value.ref b] wsL_law RL D cA A meth := ⟨⟨hx, hb, hml, hown, hts⟩, hP.1, hlocks, fun q h => by rw [hAe]; exact h⟩
  have S : SG D A [] s.heap s.heap [] := ⟨fun k q h => by simp at h, ⟨fun i j p q h => by simp at h, fun k q h => by simp at h⟩, va_S.rf⟩
  refine g_new (ci := 4) (fs := [.null, .null, .null, .int 0, .int 0, .int 0, .int 0, .int 0, .int 0]) X S hw4 tyX4 tyX4_ok (hts (.classLink RL 9 RX4) (by decide +kernel)) (hts (.instantiable RX4 9) (by decide +kernel)) (hts (.initialized RX4) (by decide +kernel)) rfl (by decide +kernel) (Nat.le_of_ble_eq_true rfl) (Nat.le_of_ble_eq_true rfl) dL_law_0 (fun q1 H S => ?_)
  refine W.widen (k := 1) (n := 9) (Nat.le_of_ble_eq_true rfl) (Nat.le_of_ble_eq_true rfl) ?_
  have S : SG D A ((([] : va_W)) ++ [(q1, .inr (4, [.null, .null, .null, .int 0, .int 0, .int 0, .int 0, .int 0, .int 0]))]) s.heap H _ := S
  refine lv_dup hx hb dL_law_3 rfl ?_
  refine g_call X S (va_runI (As := []) (rest := [.ref q1]) X.1 (k_X4_init l D cA _ q1) ⟨callB_of 0 hts gL_law_X4_init rfl rfl rfl (hts (.initialized RX4) (by decide +kernel)) (hts (.methodLink RL 120 yX4_init) (by decide +kernel)) (by decide +kernel) ⟨Nat.le_of_ble_eq_true rfl, Nat.le_of_ble_eq_true rfl⟩, rfl, (hts (.instanceMethod yX4_init) (by decide +kernel))⟩ (g_pre X S [.ref q1]) rfl rfl hl.1 rfl (lv_room (Nat.le_of_ble_eq_true rfl)) dL_law_4 ⟨Nat.le_of_ble_eq_true rfl, Nat.le_of_ble_eq_true rfl⟩) (fun qc H locs S => ?_)
  refine W.widen (k := 36) (n := 229) (Nat.le_of_ble_eq_true rfl) (Nat.le_of_ble_eq_true rfl) ?_
  have S : SG D A (wC cA (a0 q1 qc)) s.heap H _ := S
  refine lv_astore_n (lv' := [(1, .ref q1), (0, .ref b)]) hx hb dL_law_7 rfl hl (by decide) rfl (fun ls hl => ?_)
  refine g_new (ci := 4) (fs := [.null, .null, .null, .int 0, .int 0, .int 0, .int 0, .int 0, .int 0]) X S hw4 tyX4 tyX4_ok (hts (.classLink RL 9 RX4) (by decide +kernel)) (hts (.instantiable RX4 9) (by decide +kernel)) (hts (.initialized RX4) (by decide +kernel)) rfl (by decide +kernel) (Nat.le_of_ble_eq_true rfl) (Nat.le_of_ble_eq_true rfl) dL_law_8 (fun q2 H S => ?_)
  refine W.widen (k := 37) (n := 238) (Nat.le_of_ble_eq_true rfl) (Nat.le_of_ble_eq_true rfl) ?_
  have S : SG D A ((wC cA (a0 q1 qc)) ++ [(q2, .inr (4, [.null, .null, .null, .int 0, .int 0, .int 0, .int 0, .int 0, .int 0]))]) s.heap H _ := S
  refine lv_dup hx hb dL_law_11 rfl ?_
  refine g_call X S (va_runI (As := []) (rest := [.ref q2]) X.1 (k_X4_init l D cA _ q2) ⟨callB_of 0 hts gL_law_X4_init rfl rfl rfl (hts (.initialized RX4) (by decide +kernel)) (hts (.methodLink RL 120 yX4_init) (by decide +kernel)) (by decide +kernel) ⟨Nat.le_of_ble_eq_true rfl, Nat.le_of_ble_eq_true rfl⟩, rfl, (hts (.instanceMethod yX4_init) (by decide +kernel))⟩ (g_pre X S [.ref q2]) rfl rfl hl.1 rfl (lv_room (Nat.le_of_ble_eq_true rfl)) dL_law_12 ⟨Nat.le_of_ble_eq_true rfl, Nat.le_of_ble_eq_true rfl⟩) (fun qd H locs S => ?_)
  refine W.widen (k := 72) (n := 458) (Nat.le_of_ble_eq_true rfl) (Nat.le_of_ble_eq_true rfl) ?_
  refine lv_astore_n (lv' := [(2, .ref q2), (1, .ref q1), (0, .ref b)]) hx hb dL_law_15 rfl hl (by decide) rfl (fun ls hl => ?_)
  refine lv_iconst (v := nI 0) hx hb dL_law_16 (by decide) ?_
  refine lv_istore_n (lv' := [(3, .int (nI 0)), (2, .ref q2), (1, .ref q1), (0, .ref b)]) hx hb dL_law_17 rfl hl (by decide) rfl (fun ls hl => ?_)
  obtain ⟨hS, hI, hn⟩ := SG_S2 hAe S
  have hbA : ∀ a : Nat, a < s.heap.size → ¬ A2 (a0 q1 qc) (a0 q2 qd) s.heap.size a := fun a ha z => by have := hn a z; omega
  refine W.widen (k := 100 + 40 * 0) (n := 700 + 300 * 0) (Nat.le_of_ble_eq_true rfl) (Nat.le_of_ble_eq_true rfl) ?_
  exact law_loop ⟨X.1, hP.2 _ hbA, hI, hlocks⟩ hret hX hbl (hbA b hbl) hL (by unfold Launch.stackTraces; rw [hflags]; decide) hn 110 0 rfl F0v F0v F0v RX_0 RX_0 (by decide +kernel) H _ ls hS (lv_sub hl [3, 2, 1, 0] rfl)
def pk6 {α : Type} (a b c d e f : α) : Nat → α
  | 0 => a
  | 1 => b
  | 2 => c
  | 3 => d
  | 4 => e
  | _ => f
set_option maxRecDepth 100000 in
theorem str_tb : ∀ q ∈ strs, Cond.stringRef RX4 q.1 q.2 ∈ lw_tbl := by decide +kernel
set_option maxRecDepth 100000 in
theorem str_gv : ∀ q ∈ strs, Cond.exactly (.string RX4 q.1) "java/lang/String" ∈ flatC (Jvm.Cond.and given_1 narrow_1) := by decide +kernel
set_option maxRecDepth 100000 in
theorem xnd_tb : ∀ Y ∈ xnd, Cond.declares (Bundle.initS Y) ∈ lw_tbl := by decide +kernel
set_option maxRecDepth 100000 in
theorem xcl_tb : ∀ Y ∈ xcl, Cond.castable Y Y ∈ lw_tbl := by decide +kernel
set_option maxRecDepth 100000 in
theorem xcl_gv : ∀ Y ∈ xcl, ∀ Z ∈ xcl, Y ≠ Z → Cond.not (.castable Y Z) ∈ flatC (Jvm.Cond.and given_1 narrow_1) := by decide +kernel
set_option maxHeartbeats 2000000 in
set_option maxRecDepth 100000 in
theorem whole_pre {b : Nat} {s : State} (htbl : ∀ w ∈ lw_tbl, w.before #[Value.ref b] s = true) (hgv : (Jvm.Cond.and given_1 narrow_1).before #[Value.ref b] s = true) : ∃ (D : va_G) (cA : Nat → ClassId), Pre0 b s D cA := by
  have hgf := flat_of_before _ hgv
  obtain ⟨c0, j0, k0⟩ := u_known htbl inX0 (htbl (.instantiable RX0 4) (by decide +kernel))
  obtain ⟨c1, j1, k1⟩ := u_known htbl inX1 (htbl (.instantiable RX1 3) (by decide +kernel))
  obtain ⟨c2, j2, k2⟩ := u_known htbl inX2 (htbl (.instantiable RX2 5) (by decide +kernel))
  obtain ⟨c3, j3, k3⟩ := u_known htbl inX3 (htbl (.instantiable RX3 11) (by decide +kernel))
  obtain ⟨c4, j4, k4⟩ := u_known htbl inX4 (htbl (.instantiable RX4 9) (by decide +kernel))
  obtain ⟨aI, kI, mI, p1, p2, p3⟩ := Cond.arrayClass_spec (htbl (.arrayClass .int) (by decide +kernel))
  have hAO : va_AO "TermBill$Student" s := va_AO.of (htbl (.arrayOver (.object "TermBill$Student")) (by decide +kernel))
  obtain ⟨mS, aS, kS, s1, s2, s3, s4, s5⟩ := Cond.arrayOver_spec (va_AO.use (A := #[Value.ref b]) hAO)
  have hK : va_K (pk6 c0 c1 c2 c3 c4 c4, pk6 j0 j1 j2 j3 j4 j4) vwCl (TT (pk6 aI aS aS aS aS aS)) s := by
    refine ⟨fun c q hq => ?_, fun k q hq => ?_⟩
    · match c, hq with
      | 0, hq => obtain rfl : (RX0, TX0, 4) = q := Option.some.inj hq; exact k0
      | 1, hq => obtain rfl : (RX1, TX1, 3) = q := Option.some.inj hq; exact k1
      | 2, hq => obtain rfl : (RX2, TX2, 5) = q := Option.some.inj hq; exact k2
      | 3, hq => obtain rfl : (RX3, TX3, 11) = q := Option.some.inj hq; exact k3
      | 4, hq => obtain rfl : (RX4, TX4, 9) = q := Option.some.inj hq; exact k4
      | z + 5, hq => exact absurd (show (none : Option vw_C) = some q from hq) (by simp)
    · match k, hq with
      | 0, hq => obtain rfl : (aI, FieldType.int) = q := Option.some.inj hq; exact ⟨fun n z => ⟨fun k h => (by cases h), kI, p2, mI, p3⟩, p1⟩
      | 1, hq => obtain rfl : (aS, FieldType.object "TermBill$Student") = q := Option.some.inj hq; exact ⟨fun n z => ⟨fun k h => (by cases h), kS, s3, mS, s4⟩, ⟨kS, mS, s3, s4, s1, s5⟩⟩
      | z + 2, hq => exact absurd (show (none : Option (ClassId × FieldType)) = some q from hq) (by simp)
  refine ⟨_, _, ⟨hK, va_Nw.of rfl (htbl (.methodLinkNest RX3 9 yX1_init RX4) (by decide +kernel)), va_Nw.of rfl (htbl (.methodLinkNest RX3 18 yX0_init RX4) (by decide +kernel)), va_Nw.of rfl (htbl (.methodLinkNest RX3 25 yX2_init RX4) (by decide +kernel)), va_Nw.of rfl (htbl (.methodLinkNest RX4 41 yX3_init RX4) (by decide +kernel)), hAO⟩, fun A hA => ⟨hK, ?_, ?_, fun q hq => ?_, fun Y hY => ?_, fun Y hY => ?_, fun Y hY Z hZ hne => ?_⟩⟩
  · exact vx_Zqof (htbl (.laysStatic Bundle.tN "UNASSIGNED_STACK" Bundle.steD) (by decide +kernel)) (htbl (.initialized Bundle.tN) (by decide +kernel)) (hgf (.isRef (.static Bundle.tN "UNASSIGNED_STACK" Bundle.steD)) (by decide +kernel)) hA
  · exact vx_Zqof (htbl (.laysStatic Bundle.tN "SUPPRESSED_SENTINEL" Bundle.listD) (by decide +kernel)) (htbl (.initialized Bundle.tN) (by decide +kernel)) (hgf (.isRef (.static Bundle.tN "SUPPRESSED_SENTINEL" Bundle.listD)) (by decide +kernel)) hA
  · obtain ⟨a, -, -, -, h1, -⟩ := Cond.exactly_spec (hgf _ (str_gv q hq))
    exact ⟨a, vk_R.of (htbl _ (str_tb q hq)) h1⟩
  · exact va_Nw.of rfl (htbl _ (xnd_tb Y hY))
  · exact va_Nw.of rfl (htbl _ (xcl_tb Y hY))
  · exact va_Nc.of (hgf _ (xcl_gv Y hY Z hZ hne))
/-- YOUR PART: from the entry, for every script of at most 260 ints, the law comes to its end with true -/
theorem whole_start {p : Program} {e : Env} {s : State} {m : MethodId} {below : List Frame} {meth : Method} {c : Code} (l : Launch) (hflags : l.flags = flags0) {b L : Nat} {xs : Nat → Int32} (hL : L ≤ 260) (C0 : lw_At p s m meth c b L xs) : W p l e room_1 s m #[Value.ref b] below meth c s.heap [] 0 0 (lw_Z below #[Value.ref b] s) (entryFrame m ([Value.ref b] : List Value).toArray 6) := by
  obtain ⟨hx, hb, hret, hml, hown, htbl, hX, hbl, hlocks, hgv⟩ := C0
  obtain ⟨D, cA, hP⟩ := whole_pre htbl hgv
  have hl := lv_entry [Value.ref b] (n := 6) (Nat.le_of_ble_eq_true rfl)
  rw [lg_entry_eq]
  exact whole_walk hflags hL hx hb hret hml hown htbl hX hbl hlocks hP hl
set_option maxHeartbeats 4000000 in
theorem lw_walk (l : Launch) (hflags : l.flags = flags0) (b : Addr) (xs : List Int32) : MetFree l x (headSpec (Jvm.Cond.code x code maxLocals ret :: tables_1) room_1) (lw_P b xs) (fun _ _ _ _ _ => True) lw_Q := by
  refine MetFree.of_bodyS (code := code) (maxLocals := maxLocals) (ret := ret) (by decide) ?_ ?_
  · intro args s m h hn
    obtain ⟨meth, c, h1, h2, h3, h4, h5, h6, -, -⟩ := Cond.code_spec hn (atoms_spec (ws := Jvm.Cond.code x code maxLocals ret :: tables_1) h _ List.mem_cons_self)
    exact ⟨meth, c, h1, h2, h3, h4, h5, h6⟩
  · intro p e s m args below meth c s₁ B hml0 hP _
    obtain ⟨rfl, hx, hbd, hgv⟩ := hP
    obtain ⟨scr, harrAt, hlist, hof, hsmall⟩ := hx
    obtain ⟨hcb, hkn, -, -⟩ := State.arrayAt?_spec harrAt
    have hown : s.vm.findClass R_law = some m.cls := findClass_of_methodNamed B.named
    have hts0 : ∀ c ∈ (Jvm.Cond.code x code maxLocals ret :: tables_1), c.before #[Value.ref b] s = true := atoms_spec (ws := Jvm.Cond.code x code maxLocals ret :: tables_1) B.pre
    have hts : ∀ w ∈ lw_tbl, w.before #[Value.ref b] s = true := k2_hts_sels lw_privs (fun w hw => hts0 w (List.mem_cons_of_mem _ hw)) lw_privs_ok
    have hml : c.maxLocals = 6 := B.maxLocals_eq (hts0 _ List.mem_cons_self)
    have X₀ : Stand p l e room_1 s m #[Value.ref b] below meth c s₁ [] 0 0 := Stand.of_body B
    have hh0 : s₁.heap = s.heap := by rw [B.state]; rfl
    have hsz : scr.slots.size = xs.length := by rw [← Array.length_toList, hlist, List.length_map]
    have hval : ∀ j : Nat, j < xs.length → scr.slots[j]? = some (.int (xs.getD j 0)) := fun j hj => by
      rw [← Array.getElem?_toList, hlist]
      simp [hj]
    have hbl : b < s.heap.size := (Array.getElem?_eq_some_iff.mp hcb).1
    have hX : va_X b xs.length (fun j => xs.getD j 0) s s.heap := ⟨scr, hcb, hof, hkn, hsz, hval⟩
    have K : W p l e room_1 s m #[Value.ref b] below meth c s₁.heap [] 0 0 (lw_Z below #[Value.ref b] s) (entryFrame m ([Value.ref b] : List Value).toArray 6) := by
      rw [hh0]
      exact whole_start l hflags hbd ⟨B.exec, B.bytes, B.returns, hml, hown, hts, hX, hbl, B.notSynchronized, hgv⟩
    obtain ⟨t, a1, o, b1, b2, b3⟩ := K s₁ rfl X₀
    exact ⟨t, o, a1, b1, b2, b3⟩
theorem lw_pre_spec {args : Array Value} {s : State} (h : (Jvm.Cond.and given_1 narrow_1).before args s = true) (hr : rest_1_c.before args s = true) : ∃ (b : Addr) (xs : List Int32), lw_P b xs args s := by
  have hs := flat_of_before _ h
  have hq := flat_of_before _ hr
  have hc : (Cond.count 1).before args s = true := hs _ (by decide +kernel)
  have harr : (Cond.arrayOf (.arg 0) .int).before args s = true := hs _ (by decide +kernel)
  have hle : (Cond.le (.length (.arg 0)) (.int 260)).before args s = true := hs _ (by decide +kernel)
  have hlen : (Cond.isInt (.length (.arg 0))).before args s = true := hq _ (by decide +kernel)
  have hall : (Cond.all (.arg 0) (.isInt (.elem (.arg 0) (.index 0)))).before args s = true := hq _ (by decide +kernel)
  obtain ⟨b, xs, hb, hx⟩ := State.ints_of_pre rfl harr hlen hall
  have hsm : xs.length < 2 ^ 31 := hx.choose_spec.2.2.2
  have hev : (Term.length (.arg 0)).eval args s none [] s = some (.int xs.length.toInt32) := hx.length_eval hb
  have hv := Cond.le_ints hev (show (Term.int 260).eval args s none [] s = some (.int 260) from rfl)
  have hd : xs.length.toInt32 ≤ 260 := by
    simpa [Cond.before, Cond.holds, hv] using hle
  have hN : xs.length ≤ 260 := (Int32.ofNat_le_ofNat hsm (by decide)).mp (show Int32.ofNat xs.length ≤ Int32.ofNat 260 from hd)
  exact ⟨b, xs, Cond.one_arg hc (show args[0]? = some (.ref b) from hb), hx, hN, h⟩
theorem lw_comes (l : Launch) (hflags : l.flags = flags0) : Comes l x (Jvm.Cond.code x code maxLocals ret :: tables_1) room_1 (fun tb e args s => Calls_1 tb e args s ∧ rest_1 tb e args s ∧ Pre_1 tb e args s)
    (fun _ _ args s o t => lw_Q args s o t) := by
  intro p e ha hc hk s m args below hf hfit hheap happ hpre
  obtain ⟨b, xs, hP⟩ := lw_pre_spec hpre.2.2 hpre.2.1
  obtain ⟨k, o, h1, h2, h3, hQ⟩ := lw_walk l hflags b xs p e ha hc hk s m args below hf ((Spec.applies_iff_loose hf).mp happ).1 hP trivial
  exact ⟨k, o, h1, h2, h3, hQ⟩
theorem lw_frame {s t : State} {o : Outcome} {args : Array Value} (h : Framed s o t [] 693998 7019631) :
    Framed s o t (fieldLocs frame_1_writes args s ++ arrayLocs frame_1_arrays args s ++ staticLocs frame_1_statics s) 693998 7019631 := h
theorem lw_limb (L : Cond) (hL : ∀ (args : Array Value) (s t : State), L.after args s (.returned (some (.int 1))) t = true) :
    ArmFor flags0 classFile x code maxLocals ret World_1 tables_1 room_1 Calls_1 rest_1 Pre_1
      (fun tb e a s o t => postC L tb e a s o t ∧ Framed s o t (fieldLocs frame_1_writes a s ++ arrayLocs frame_1_arrays a s ++ staticLocs frame_1_statics s) 693998 7019631) := by
  intro l hflags _ _ p e ha hc hk s m args below hf hfit hheap happ hpre
  obtain ⟨k, o, h1, h2, h3, rfl, hF⟩ := lw_comes l hflags p e ha hc hk s m args below hf hfit hheap happ hpre
  exact ⟨k, _, h1, h2, h3, hL args s _, lw_frame hF⟩
theorem i_vc : Claimed_1_1 ∧ Claimed_1_2 := ⟨lw_limb limb_1_1 (fun args s t => by simp [limb_1_1, Cond.after, Cond.holds, Cond.value]), lw_limb limb_1_2 (fun args s t => Cond.after_iff.mpr (by
  first | (rw [show limb_1_2 = Cond.eq .result (.int 1) from rfl, Cond.eq_ints (x := 1) (y := 1) rfl rfl]; simp; done) | (simp [limb_1_2, Cond.value, Term.eval]; done)))⟩
