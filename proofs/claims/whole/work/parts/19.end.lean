/-! THE CLAIM OUT OF ONE WALK OF THE LAW'S BODY. Your part is whole_start (and what it stands on); all else here is the same for every law, but numbers. -/
def R_law : String := "TermBillLaw"
def lw_P (b : Addr) (xs : List Int32) (args : Array Value) (s : State) : Prop := args = #[.ref b] ∧ s.IntsAt b xs ∧ xs.length ≤ 2560 ∧ (Jvm.Cond.and given_1 narrow_1).before args s = true
def lw_Q (_ : Array Value) (s : State) (o : Outcome) (t : State) : Prop := o = .returned (some (.int 1)) ∧ Framed s o t [] 669044 7088973
def lw_Z (below : List Frame) (a : Array Value) (s : State) : State → Prop := fun t => ∃ o, t.status = .running ∧ Ended t below o ∧ lw_Q a s o t
/-- the law's own end, with 1 on the stack, nothing written that was there before, its room as the claim has it -/
theorem lw_ret {p : Program} {l : Launch} {e : Env} {s : State} {m : MethodId} {below : List Frame} {meth : Method} {c : Code} {b : Nat} (hx : p.tables.exec = Jvm.exec) (hb : c.code = code) (hr : meth.sig.returnType = ret) (hlocks : meth.locks = false) {pc : Nat} {H : Heap} {ls : Array Slot} (hdg : decode code pc = .ok (.ireturn, 1)) : W p l e room_1 s m #[Value.ref b] below meth c H [] 669044 7088973 (lw_Z below #[Value.ref b] s) (F0 m pc ls [.int 1]) := by
  intro T hT X
  obtain ⟨fs, hret, hrun, hended, hW, hframe⟩ := X.leave (v := some (.int 1)) (hlocks := hlocks) (fun h => by rw [hr] at h; cases h)
  have hmeth' : T.vm.method? m = some meth := X.method'
  refine ⟨T.setFrames fs, ?_, .returned (some (.int 1)), hrun, hended, rfl, ⟨_, rfl⟩, hW, hframe⟩
  jvm_step X.here [X.here.top, hx, hb, hdg, hmeth', hr, ret, narrow_b1]
  (try refine ⟨rfl, ?_⟩); (try refine ⟨rfl, ?_⟩)
  first | (intro acts; rw [hret _ acts rfl rfl rfl]) | rw [hret _ _ rfl rfl rfl]
  exact Steps.refl _
/-- what holds at the law's entry: the machine, the code, the tables' words (any of lw_tbl by 'hts w (by decide +kernel)'), the script of L ints xs at the cell b, what the Statement gives of the start (any of its parts by flat_of_before) -/
def lw_At (p : Program) (s : State) (m : MethodId) (meth : Method) (c : Code) (b L : Nat) (xs : Nat → Int32) : Prop :=
  p.tables.exec = Jvm.exec ∧ c.code = code ∧ meth.sig.returnType = ret ∧ c.maxLocals = 7 ∧ s.vm.findClass R_law = some m.cls ∧ (∀ w ∈ lw_tbl, w.before #[Value.ref b] s = true) ∧ va_X b L xs s s.heap ∧ b < s.heap.size ∧ meth.locks = false ∧ (Jvm.Cond.and given_1 narrow_1).before #[Value.ref b] s = true
theorem lw_dec {v : Int32} (h1 : ¬ v.toInt < 0) (h2 : ¬ 23 < v.toInt) : ∃ k : Nat, k < 24 ∧ v.toInt = (k : Int) := ⟨v.toInt.toNat, by omega, by omega⟩
set_option maxHeartbeats 2000000 in
set_option maxRecDepth 100000 in
theorem law_loop {p : Program} {l : Launch} {e : Env} {s : State} {m : MethodId} {below : List Frame} {meth : Method} {c : Code} {D : va_G} {cA : Nat → ClassId} {ad : Nat → Nat} {b L : Nat} {xs : Nat → Int32} (X : Cx p m c code 7 s #[Value.ref b] wsL_law RL D cA ad meth) (hret : meth.sig.returnType = ret) (hX : va_X b L xs s s.heap) (hbl : b < s.heap.size) (hbA : ¬ AA ad s.heap.size b) (hL : L ≤ 2560) (hst : l.stackTraces = false) (hnew : ∀ k, k < 60 → s.heap.size ≤ ad k) : ∀ (d n : Nat), n + d = 513 → 5 * n ≤ L → ∀ (F : FF), REL n F → ∀ (H : Heap) (locs : List Loc) (ls : Array Slot), St D cA ad F s.heap H locs → lv_has ls 7 [(0, .ref b), (1, .ref (ad 0)), (2, .ref (ad 36)), (3, .ref (ad 59)), (4, .int (nI (5 * n)))] → W p l e room_1 s m #[Value.ref b] below meth c H locs (100 + n) (700 + 6 * n) (lw_Z below #[Value.ref b] s) (F0 m 23 ls []) := by
  obtain ⟨⟨hx, hb, hml, hown, hts⟩, hE, hI, hlocks⟩ := id X
  intro d
  induction d with
  | zero => intro n h1 h2; exact absurd h2 (by omega)
  | succ d ih =>
    intro n h1 h2 F hR H locs ls S hl
    refine lv_iload hx hb dL_law_23 (lv_at hl 4 rfl) ?_
    refine lv_aload_n hx hb dL_law_25 rfl (lv_at hl 0 rfl) ?_
    refine r_sln X S hX hbl hbA dL_law_26 ?_
    refine lv_iconst (v := 5) hx hb dL_law_27 (by decide) ?_
    refine lv_isub hx hb dL_law_28 ?_
    have e5 : (5 : Int32).toInt = 5 := by decide
    have eL : (nI L - 5).toInt = (L : Int) - 5 := by rw [isub (by rw [iN (by omega), e5]; omega) (by rw [iN (by omega), e5]; omega), iN (by omega), e5]
    refine lv_icmp_gt (tgt := 1611) hx hb dL_law_29 (by decide) (fun z => ?_) (fun z => ?_)
    · refine lv_iconst (v := 1) hx hb dL_law_1611 (by decide) ?_
      refine va_forget (fun q hq => ?_) ?_
      · rcases S.2.2.2 q hq with ⟨k, hk, e⟩ | h
        · rw [e]; exact hnew k hk
        · exact h
      · exact W.widen (k := 669044) (n := 7088973) (by omega) (by omega) (lw_ret hx hb hret hlocks dL_law_1612)
    · have h5 : 5 * n + 5 ≤ L := by
        rw [ilt, eL, iN (by omega)] at z
        omega
      have kk : ∀ F2 : FF, REL (n + 1) F2 → ∀ (H : Heap) (locs : List Loc) (ls : Array Slot), St D cA ad F2 s.heap H locs → lv_has ls 7 [(0, .ref b), (1, .ref (ad 0)), (2, .ref (ad 36)), (3, .ref (ad 59)), (4, .int (nI (5 * n)))] → W p l e room_1 s m #[Value.ref b] below meth c H locs (100 + n + 1) (700 + 6 * n + 6) (lw_Z below #[Value.ref b] s) (F0 m 1605 ls []) := by
        intro F2 hR2 H locs ls S hl
        refine lv_iinc (v := nI (5 * (n + 1))) (lv' := [(4, .int (nI (5 * (n + 1)))), (0, .ref b), (1, .ref (ad 0)), (2, .ref (ad 36)), (3, .ref (ad 59))]) hx hb dL_law_1605 hl (k := 4) rfl (nI_add (5 * n) 5) (by decide) rfl (fun ls hl => ?_)
        refine lv_goto (tgt := 23) hx hb dL_law_1608 (by decide) ?_
        exact ih (n + 1) (by omega) (by omega) F2 hR2 H locs ls S (lv_sub hl [1, 2, 3, 4, 0] rfl)
      refine lv_aload_n hx hb dL_law_32 rfl (lv_at hl 0 rfl) ?_
      refine lv_iload hx hb dL_law_33 (lv_at hl 4 rfl) ?_
      refine r_sld X S hX hbl hbA hL (q := 5 * n) rfl (by omega) dL_law_35 ?_
      refine lv_bipush (v := 31) hx hb dL_law_36 (by decide) ?_
      refine lv_iand hx hb dL_law_38 ?_
      generalize xs (5 * n) &&& 31 = v
      by_cases hv : v.toInt < 0 ∨ 23 < v.toInt
      · refine lv_tableOut (tgt := 1605) hx hb dL_law_39 hv (by decide) ?_
        exact W.widen (by omega) (by omega) (kk F (REL_mono hR) H locs ls S hl)
      · have v1 : ¬ v.toInt < 0 := fun q => hv (Or.inl q)
        have v2 : ¬ 23 < v.toInt := fun q => hv (Or.inr q)
        obtain ⟨k, hk, ek⟩ := lw_dec v1 v2
        match k, hk, ek with
        | 0, _, ek => exact lv_tableIn (off := 109) (tgt := 148) hx hb dL_law_39 v1 v2 (by rw [ek]; rfl) (by decide) (law_case0 X hX hbl hbA hL hst h5 hR S hl kk)
        | 1, _, ek => exact lv_tableIn (off := 205) (tgt := 244) hx hb dL_law_39 v1 v2 (by rw [ek]; rfl) (by decide) (law_case1 X hX hbl hbA hL hst h5 hR S hl kk)
        | 2, _, ek => exact lv_tableIn (off := 253) (tgt := 292) hx hb dL_law_39 v1 v2 (by rw [ek]; rfl) (by decide) (law_case2 X hX hbl hbA hL hst h5 hR S hl kk)
        | 3, _, ek => exact lv_tableIn (off := 321) (tgt := 360) hx hb dL_law_39 v1 v2 (by rw [ek]; rfl) (by decide) (law_case3 X hX hbl hbA hL hst h5 hR S hl kk)
        | 4, _, ek => exact lv_tableIn (off := 369) (tgt := 408) hx hb dL_law_39 v1 v2 (by rw [ek]; rfl) (by decide) (law_case4 X hX hbl hbA hL hst h5 hR S hl kk)
        | 5, _, ek => exact lv_tableIn (off := 457) (tgt := 496) hx hb dL_law_39 v1 v2 (by rw [ek]; rfl) (by decide) (law_case5 X hX hbl hbA hL hst h5 hR S hl kk)
        | 6, _, ek => exact lv_tableIn (off := 517) (tgt := 556) hx hb dL_law_39 v1 v2 (by rw [ek]; rfl) (by decide) (law_case6 X hX hbl hbA hL hst h5 hR S hl kk)
        | 7, _, ek => exact lv_tableIn (off := 585) (tgt := 624) hx hb dL_law_39 v1 v2 (by rw [ek]; rfl) (by decide) (law_case7 X hX hbl hbA hL hst h5 hR S hl kk)
        | 8, _, ek => exact lv_tableIn (off := 653) (tgt := 692) hx hb dL_law_39 v1 v2 (by rw [ek]; rfl) (by decide) (law_case8 X hX hbl hbA hL hst h5 hR S hl kk)
        | 9, _, ek => exact lv_tableIn (off := 733) (tgt := 772) hx hb dL_law_39 v1 v2 (by rw [ek]; rfl) (by decide) (law_case9 X hX hbl hbA hL hst h5 hR S hl kk)
        | 10, _, ek => exact lv_tableIn (off := 813) (tgt := 852) hx hb dL_law_39 v1 v2 (by rw [ek]; rfl) (by decide) (law_case10 X hX hbl hbA hL hst h5 hR S hl kk)
        | 11, _, ek => exact lv_tableIn (off := 881) (tgt := 920) hx hb dL_law_39 v1 v2 (by rw [ek]; rfl) (by decide) (law_case11 X hX hbl hbA hL hst h5 hR S hl kk)
        | 12, _, ek => exact lv_tableIn (off := 949) (tgt := 988) hx hb dL_law_39 v1 v2 (by rw [ek]; rfl) (by decide) (law_case12 X hX hbl hbA hL hst h5 hR S hl kk)
        | 13, _, ek => exact lv_tableIn (off := 1005) (tgt := 1044) hx hb dL_law_39 v1 v2 (by rw [ek]; rfl) (by decide) (law_case13 X hX hbl hbA hL hst h5 hR S hl kk)
        | 14, _, ek => exact lv_tableIn (off := 1049) (tgt := 1088) hx hb dL_law_39 v1 v2 (by rw [ek]; rfl) (by decide) (law_case14 X hX hbl hbA hL hst h5 hR S hl kk)
        | 15, _, ek => exact lv_tableIn (off := 1062) (tgt := 1101) hx hb dL_law_39 v1 v2 (by rw [ek]; rfl) (by decide) (law_case15 X hX hbl hbA hL hst h5 hR S hl kk)
        | 16, _, ek => exact lv_tableIn (off := 1075) (tgt := 1114) hx hb dL_law_39 v1 v2 (by rw [ek]; rfl) (by decide) (law_case16 X hX hbl hbA hL hst h5 hR S hl kk)
        | 17, _, ek => exact lv_tableIn (off := 1131) (tgt := 1170) hx hb dL_law_39 v1 v2 (by rw [ek]; rfl) (by decide) (law_case17 X hX hbl hbA hL hst h5 hR S hl kk)
        | 18, _, ek => exact lv_tableIn (off := 1199) (tgt := 1238) hx hb dL_law_39 v1 v2 (by rw [ek]; rfl) (by decide) (law_case18 X hX hbl hbA hL hst h5 hR S hl kk)
        | 19, _, ek => exact lv_tableIn (off := 1255) (tgt := 1294) hx hb dL_law_39 v1 v2 (by rw [ek]; rfl) (by decide) (law_case19 X hX hbl hbA hL hst h5 hR S hl kk)
        | 20, _, ek => exact lv_tableIn (off := 1323) (tgt := 1362) hx hb dL_law_39 v1 v2 (by rw [ek]; rfl) (by decide) (law_case20 X hX hbl hbA hL hst h5 hR S hl kk)
        | 21, _, ek => exact lv_tableIn (off := 1391) (tgt := 1430) hx hb dL_law_39 v1 v2 (by rw [ek]; rfl) (by decide) (law_case21 X hX hbl hbA hL hst h5 hR S hl kk)
        | 22, _, ek => exact lv_tableIn (off := 1447) (tgt := 1486) hx hb dL_law_39 v1 v2 (by rw [ek]; rfl) (by decide) (law_case22 X hX hbl hbA hL hst h5 hR S hl kk)
        | 23, _, ek => exact lv_tableIn (off := 1503) (tgt := 1542) hx hb dL_law_39 v1 v2 (by rw [ek]; rfl) (by decide) (law_case23 X hX hbl hbA hL hst h5 hR S hl kk)
        | z + 24, hk, _ => exact absurd hk (by omega)
theorem REL_0 : REL 0 F0v := by
  refine ⟨⟨by unfold bt; decide +kernel, by unfold bt; decide +kernel, by unfold bt; decide +kernel, by unfold bt; decide +kernel⟩, by unfold RK; decide +kernel, ?_⟩
  have h1 : ∀ i, i < 4 → R1 F0v F0v i := by unfold R1 bt; decide +kernel
  have h2 : ∀ i, i < 4 → R2 0 0 F0v F0v i := by unfold R2 bt; decide +kernel
  have h3 : ∀ i, i < 4 → R3 F0v F0v i := fun i hi => ⟨by revert i; decide +kernel, by revert i; decide +kernel, by revert i; decide +kernel, by revert i; decide +kernel, by revert i; decide +kernel, by revert i; unfold bt; decide +kernel, by revert i; decide +kernel, by revert i; decide +kernel⟩
  have h4 : ∀ i, i < 4 → R4 F0v F0v i := fun i hi => ⟨by revert i; decide +kernel, by revert i; decide +kernel, by revert i; decide +kernel, by revert i; unfold bt; decide +kernel, by revert i; decide +kernel, by revert i; unfold bt; decide +kernel⟩
  have h5 : ∀ i, i < 4 → R5 F0v F0v i := by unfold R5; decide +kernel
  have et : tmN F0v = 0 := by decide +kernel
  intro i hi
  rw [et]
  exact ⟨h1 i hi, h2 i hi, h3 i hi, h4 i hi, h5 i hi⟩
def ad0 (q1 q2 q3 : Nat) (qc qm : Nat → Nat) : Nat → Nat := fun k => if k < 36 then a0 q1 qc k else if k < 59 then aM0 q2 qm k else q3
theorem wA_0 (cA : Nat → ClassId) (q1 q2 q3 : Nat) (qc qm : Nat → Nat) : wA cA (ad0 q1 q2 q3 qc qm) F0v = ((([] : va_W) ++ wC cA (a0 q1 qc)) ++ wM cA (aM0 q2 qm)) ++ [(q3, .inl (cA 3, 1, .inr (.inl (fun _ => 0))))] := by
  have e0 : stf (a0 q1 qc) = stf (ad0 q1 q2 q3 qc qm) := by
    funext j
    match j with
    | 0 => rfl
    | 1 => rfl
    | 2 => rfl
    | 3 => rfl
    | j + 4 => unfold stf; rw [if_neg (by omega), if_neg (by omega)]
  have e1 : wC cA (a0 q1 qc) = (List.range 36).map (fun k => (ad0 q1 q2 q3 qc qm k, ent cA (ad0 q1 q2 q3 qc qm) (F0v k) k)) := by
    refine List.map_congr_left (fun k hk => ?_)
    have hk := List.mem_range.mp hk
    exact match k, hk with
      | 0, _ => rfl
      | 1, _ => by show (qc 1, (Sum.inl (cA 2, 4, .inr (.inr (.inr (.inr (stf (a0 q1 qc)))))) : va_E)) = _; rw [e0]; rfl
      | 2, _ => rfl
      | 3, _ => rfl
      | 4, _ => rfl
      | 5, _ => rfl
      | 6, _ => rfl
      | 7, _ => rfl
      | 8, _ => rfl
      | 9, _ => rfl
      | 10, _ => rfl
      | 11, _ => rfl
      | 12, _ => rfl
      | 13, _ => rfl
      | 14, _ => rfl
      | 15, _ => rfl
      | 16, _ => rfl
      | 17, _ => rfl
      | 18, _ => rfl
      | 19, _ => rfl
      | 20, _ => rfl
      | 21, _ => rfl
      | 22, _ => rfl
      | 23, _ => rfl
      | 24, _ => rfl
      | 25, _ => rfl
      | 26, _ => rfl
      | 27, _ => rfl
      | 28, _ => rfl
      | 29, _ => rfl
      | 30, _ => rfl
      | 31, _ => rfl
      | 32, _ => rfl
      | 33, _ => rfl
      | 34, _ => rfl
      | 35, _ => rfl
      | z + 36, h => absurd h (by omega)
  have e2 : wM cA (aM0 q2 qm) = (List.range 23).map (fun k => (ad0 q1 q2 q3 qc qm (36 + k), ent cA (ad0 q1 q2 q3 qc qm) (F0v (36 + k)) (36 + k))) := by
    refine List.map_congr_left (fun k hk => ?_)
    have hk := List.mem_range.mp hk
    exact match k, hk with
      | 0, _ => rfl
      | 1, _ => rfl
      | 2, _ => rfl
      | 3, _ => rfl
      | 4, _ => rfl
      | 5, _ => rfl
      | 6, _ => rfl
      | 7, _ => rfl
      | 8, _ => rfl
      | 9, _ => rfl
      | 10, _ => rfl
      | 11, _ => rfl
      | 12, _ => rfl
      | 13, _ => rfl
      | 14, _ => rfl
      | 15, _ => rfl
      | 16, _ => rfl
      | 17, _ => rfl
      | 18, _ => rfl
      | 19, _ => rfl
      | 20, _ => rfl
      | 21, _ => rfl
      | 22, _ => rfl
      | z + 23, h => absurd h (by omega)
  rw [e1, e2]
  rfl
def Pre0 (b : Nat) (s : State) (D : va_G) (cA : Nat → ClassId) : Prop := GK D cA s ∧ (∀ A : Nat → Prop, (∀ a : Nat, a < s.heap.size → ¬ A a) → EN D cA A s)
set_option maxHeartbeats 2000000 in
set_option maxRecDepth 100000 in
theorem whole_walk {p : Program} {l : Launch} {e : Env} {s : State} {m : MethodId} {below : List Frame} {meth : Method} {c : Code} {D : va_G} {cA : Nat → ClassId} {b L : Nat} {xs : Nat → Int32} (hflags : l.flags = flags0) (hL : L ≤ 2560) (hx : p.tables.exec = Jvm.exec) (hb : c.code = code) (hret : meth.sig.returnType = ret) (hml : c.maxLocals = 7) (hown : s.vm.findClass R_law = some m.cls) (htbl : ∀ w ∈ lw_tbl, w.before #[Value.ref b] s = true) (hX : va_X b L xs s s.heap) (hbl : b < s.heap.size) (hlocks : meth.locks = false) (hP : Pre0 b s D cA) {ls : Array Slot} (hl : lv_has ls 7 [(0, .ref b)]) : W p l e room_1 s m #[Value.ref b] below meth c s.heap [] 0 0 (lw_Z below #[Value.ref b] s) (F0 m 0 ls []) := by
  have hts : ∀ w ∈ wsL_law, w.before #[Value.ref b] s = true := fun w h => htbl w (wsL_law_in w h)
  have hw4 : ∀ w ∈ wsX40, w.before #[Value.ref b] s = true := fun w h => htbl w (inX4 w h)
  have hw5 : ∀ w ∈ wsX50, w.before #[Value.ref b] s = true := fun w h => htbl w (inX5 w h)
  obtain ⟨A, hAe⟩ : ∃ A : Nat → Prop, A = fun q => s.heap.size ≤ q := ⟨_, rfl⟩
  have X : Gx p m c code 7 s #[Value.ref b] wsL_law RL D cA A meth := ⟨⟨hx, hb, hml, hown, hts⟩, hP.1, hlocks, fun q h => by rw [hAe]; exact h⟩
  have S : SG D A [] s.heap s.heap [] := ⟨fun k q h => by simp at h, ⟨fun i j p q h => by simp at h, fun k q h => by simp at h⟩, va_S.rf⟩
  refine g_new (ci := 4) (fs := [.null, .null, .null, .int 0, .int 0, .int 0, .int 0, .int 0, .int 0]) X S hw4 tyX4 tyX4_ok (hts (.classLink RL 8 RX4) (by decide +kernel)) (hts (.instantiable RX4 9) (by decide +kernel)) (hts (.initialized RX4) (by decide +kernel)) rfl (by decide +kernel) (Nat.le_of_ble_eq_true rfl) (Nat.le_of_ble_eq_true rfl) dL_law_0 (fun q1 H S => ?_)
  refine W.widen (k := 1) (n := 9) (Nat.le_of_ble_eq_true rfl) (Nat.le_of_ble_eq_true rfl) ?_
  have S : SG D A (([] : va_W) ++ [(q1, .inr (4, [.null, .null, .null, .int 0, .int 0, .int 0, .int 0, .int 0, .int 0]))]) s.heap H _ := S
  refine lv_dup hx hb dL_law_3 rfl ?_
  refine g_call X S (va_runI (As := []) (rest := [.ref q1]) X.1 (k_X4_init l D cA _ q1) ⟨callB_of 0 hts gL_law_X4_init rfl rfl rfl (hts (.initialized RX4) (by decide +kernel)) (hts (.methodLink RL 90 yX4_init) (by decide +kernel)) (by decide +kernel) ⟨Nat.le_of_ble_eq_true rfl, Nat.le_of_ble_eq_true rfl⟩, rfl, (hts (.instanceMethod yX4_init) (by decide +kernel))⟩ (g_pre X S [.ref q1]) rfl rfl hl.1 rfl (lv_room (Nat.le_of_ble_eq_true rfl)) dL_law_4 ⟨Nat.le_of_ble_eq_true rfl, Nat.le_of_ble_eq_true rfl⟩) (fun qc H locs S => ?_)
  refine W.widen (k := 36) (n := 229) (Nat.le_of_ble_eq_true rfl) (Nat.le_of_ble_eq_true rfl) ?_
  refine lv_astore_n (lv' := [(1, .ref q1), (0, .ref b)]) hx hb dL_law_7 rfl hl (by decide) rfl (fun ls hl => ?_)
  refine g_new (ci := 5) (fs := [.int 0, .int 0, .int 0, .null, .int 0, .int 0, .null, .int 0, .int 0, .null, .null, .null, .null, .null, .null, .null, .null, .null, .null, .null, .null, .null, .null, .null, .null, .null, .null, .null, .null]) X S hw5 tyX5 tyX5_ok (hts (.classLink RL 91 RX5) (by decide +kernel)) (hts (.instantiable RX5 29) (by decide +kernel)) (hts (.initialized RX5) (by decide +kernel)) rfl (by decide +kernel) (Nat.le_of_ble_eq_true rfl) (Nat.le_of_ble_eq_true rfl) dL_law_8 (fun q2 H S => ?_)
  refine W.widen (k := 37) (n := 258) (Nat.le_of_ble_eq_true rfl) (Nat.le_of_ble_eq_true rfl) ?_
  refine lv_dup hx hb dL_law_11 rfl ?_
  refine g_call X S (va_runI (As := []) (rest := [.ref q2]) X.1 (k_X5_init l D cA _ q2) ⟨callB_of 0 hts gL_law_X5_init rfl rfl rfl (hts (.initialized RX5) (by decide +kernel)) (hts (.methodLink RL 93 yX5_init) (by decide +kernel)) (by decide +kernel) ⟨Nat.le_of_ble_eq_true rfl, Nat.le_of_ble_eq_true rfl⟩, rfl, (hts (.instanceMethod yX5_init) (by decide +kernel))⟩ (g_pre X S [.ref q2]) rfl rfl hl.1 rfl (lv_room (Nat.le_of_ble_eq_true rfl)) dL_law_12 ⟨Nat.le_of_ble_eq_true rfl, Nat.le_of_ble_eq_true rfl⟩) (fun qm H locs S => ?_)
  refine W.widen (k := 59) (n := 454) (Nat.le_of_ble_eq_true rfl) (Nat.le_of_ble_eq_true rfl) ?_
  refine lv_astore_n (lv' := [(2, .ref q2), (1, .ref q1), (0, .ref b)]) hx hb dL_law_15 rfl hl (by decide) rfl (fun ls hl => ?_)
  refine lv_iconst (v := 1) hx hb dL_law_16 (by decide) ?_
  refine g_newl X S (hts (.arrayClass .long) (by decide +kernel)) (by decide) (N' := 1) (by decide) (by decide) (Nat.le_of_ble_eq_true rfl) (Nat.le_of_ble_eq_true rfl) dL_law_17 (fun q3 H S => ?_)
  refine W.widen (k := 60) (n := 455) (Nat.le_of_ble_eq_true rfl) (Nat.le_of_ble_eq_true rfl) ?_
  refine lv_astore_n (lv' := [(3, .ref q3), (2, .ref q2), (1, .ref q1), (0, .ref b)]) hx hb dL_law_19 rfl hl (by decide) rfl (fun ls hl => ?_)
  refine lv_iconst (v := nI (5 * 0)) hx hb dL_law_20 (by decide) ?_
  refine lv_istore (lv' := [(4, .int (nI (5 * 0))), (3, .ref q3), (2, .ref q2), (1, .ref q1), (0, .ref b)]) hx hb dL_law_21 hl (by decide) rfl (fun ls hl => ?_)
  rw [← wA_0] at S
  have hnew : ∀ k, k < 60 → s.heap.size ≤ ad0 q1 q2 q3 qc qm k := fun k hk => by have := S.2.1.2 k _ (wA_get hk); rw [hAe] at this; exact this
  have hI : Inj (ad0 q1 q2 q3 qc qm) := fun i j hi hj h => S.2.1.1 i j _ _ (wA_get hi) (wA_get hj) h
  have hAA : ∀ a : Nat, a < s.heap.size → ¬ AA (ad0 q1 q2 q3 qc qm) s.heap.size a := by
    rintro a ha (⟨k, hk, e⟩ | h)
    · have := hnew k hk; omega
    · omega
  have hS : St D cA (ad0 q1 q2 q3 qc qm) F0v s.heap H _ := ⟨S.1, S.2.2.1, fun q h1 h2 => S.2.2.2.1 q h1 (by rw [hAe]; omega), fun q hq => Or.inr (by have := S.2.2.2.2 q hq; rw [hAe] at this; exact this)⟩
  refine W.widen (k := 100 + 0) (n := 700 + 6 * 0) (Nat.le_of_ble_eq_true rfl) (Nat.le_of_ble_eq_true rfl) ?_
  exact law_loop ⟨X.1, hP.2 _ hAA, hI, hlocks⟩ hret hX hbl (hAA b hbl) hL (by unfold Launch.stackTraces; rw [hflags]; decide) hnew 513 0 rfl (by omega) F0v REL_0 H _ ls hS (lv_sub hl [4, 3, 2, 1, 0] rfl)
def pk6 {α : Type} (a b c d e f : α) : Nat → α
  | 0 => a
  | 1 => b
  | 2 => c
  | 3 => d
  | 4 => e
  | _ => f
set_option maxRecDepth 100000 in
theorem str_tb : ∀ q ∈ strs, Cond.stringRef RX4 q.1 q.2 ∈ lw_tbl := by decide +kernel
set_option maxRecDepth 100000 in
theorem str_gv : ∀ q ∈ strs, Cond.exactly (.string RX4 q.1) "java/lang/String" ∈ flatC (Jvm.Cond.and given_1 narrow_1) := by decide +kernel
set_option maxRecDepth 100000 in
theorem xnd_tb : ∀ Y ∈ xnd, Cond.declares (Bundle.initS Y) ∈ lw_tbl := by decide +kernel
set_option maxRecDepth 100000 in
theorem xcl_tb : ∀ Y ∈ xcl, Cond.castable Y Y ∈ lw_tbl := by decide +kernel
set_option maxRecDepth 100000 in
theorem xcl_gv : ∀ Y ∈ xcl, ∀ Z ∈ xcl, Y ≠ Z → Cond.not (.castable Y Z) ∈ flatC (Jvm.Cond.and given_1 narrow_1) := by decide +kernel
set_option maxHeartbeats 2000000 in
set_option maxRecDepth 100000 in
theorem whole_pre {b : Nat} {s : State} (htbl : ∀ w ∈ lw_tbl, w.before #[Value.ref b] s = true) (hgv : (Jvm.Cond.and given_1 narrow_1).before #[Value.ref b] s = true) : ∃ (D : va_G) (cA : Nat → ClassId), Pre0 b s D cA := by
  have hgf := flat_of_before _ hgv
  obtain ⟨c0, j0, k0⟩ := u_known htbl inX0 (htbl (.instantiable RX0 4) (by decide +kernel))
  obtain ⟨c1, j1, k1⟩ := u_known htbl inX1 (htbl (.instantiable RX1 3) (by decide +kernel))
  obtain ⟨c2, j2, k2⟩ := u_known htbl inX2 (htbl (.instantiable RX2 5) (by decide +kernel))
  obtain ⟨c3, j3, k3⟩ := u_known htbl inX3 (htbl (.instantiable RX3 11) (by decide +kernel))
  obtain ⟨c4, j4, k4⟩ := u_known htbl inX4 (htbl (.instantiable RX4 9) (by decide +kernel))
  obtain ⟨c5, j5, k5⟩ := u_known htbl inX5 (htbl (.instantiable RX5 29) (by decide +kernel))
  obtain ⟨aI, kI, mI, p1, p2, p3⟩ := Cond.arrayClass_spec (htbl (.arrayClass .int) (by decide +kernel))
  obtain ⟨aZ, kZ, mZ, r1, r2, r3⟩ := Cond.arrayClass_spec (htbl (.arrayClass .boolean) (by decide +kernel))
  obtain ⟨aL, kL, mL, t1, t2, t3⟩ := Cond.arrayClass_spec (htbl (.arrayClass .long) (by decide +kernel))
  have hAO : va_AO "TermBill$Student" s := va_AO.of (htbl (.arrayOver (.object "TermBill$Student")) (by decide +kernel))
  obtain ⟨mS, aS, kS, s1, s2, s3, s4, s5⟩ := Cond.arrayOver_spec (va_AO.use (A := #[Value.ref b]) hAO)
  have hK : va_K (pk6 c0 c1 c2 c3 c4 c5, pk6 j0 j1 j2 j3 j4 j5) vwCl (TT (pk6 aI aZ aS aL aL aL)) s := by
    refine ⟨fun c q hq => ?_, fun k q hq => ?_⟩
    · match c, hq with
      | 0, hq => obtain rfl : (RX0, TX0, 4) = q := Option.some.inj hq; exact k0
      | 1, hq => obtain rfl : (RX1, TX1, 3) = q := Option.some.inj hq; exact k1
      | 2, hq => obtain rfl : (RX2, TX2, 5) = q := Option.some.inj hq; exact k2
      | 3, hq => obtain rfl : (RX3, TX3, 11) = q := Option.some.inj hq; exact k3
      | 4, hq => obtain rfl : (RX4, TX4, 9) = q := Option.some.inj hq; exact k4
      | 5, hq => obtain rfl : (RX5, TX5, 29) = q := Option.some.inj hq; exact k5
      | z + 6, hq => exact absurd (show (none : Option vw_C) = some q from hq) (by simp)
    · match k, hq with
      | 0, hq => obtain rfl : (aI, FieldType.int) = q := Option.some.inj hq; exact ⟨fun n z => ⟨fun k h => (by cases h), kI, p2, mI, p3⟩, p1⟩
      | 1, hq => obtain rfl : (aZ, FieldType.boolean) = q := Option.some.inj hq; exact ⟨fun n z => ⟨fun k h => (by cases h), kZ, r2, mZ, r3⟩, r1⟩
      | 2, hq => obtain rfl : (aS, FieldType.object "TermBill$Student") = q := Option.some.inj hq; exact ⟨fun n z => ⟨fun k h => (by cases h), kS, s3, mS, s4⟩, ⟨kS, mS, s3, s4, s1, s5⟩⟩
      | 3, hq => obtain rfl : (aL, FieldType.long) = q := Option.some.inj hq; exact ⟨fun n z => ⟨fun k h => (by cases h), kL, t2, mL, t3⟩, t1⟩
      | z + 4, hq => exact absurd (show (none : Option (ClassId × FieldType)) = some q from hq) (by simp)
  refine ⟨_, _, ⟨hK, va_Nw.of rfl (htbl (.methodLinkNest RX3 9 yX1_init RX4) (by decide +kernel)), va_Nw.of rfl (htbl (.methodLinkNest RX3 18 yX0_init RX4) (by decide +kernel)), va_Nw.of rfl (htbl (.methodLinkNest RX3 25 yX2_init RX4) (by decide +kernel)), va_Nw.of rfl (htbl (.methodLinkNest RX4 41 yX3_init RX4) (by decide +kernel)), hAO⟩, fun A hA => ⟨hK, ?_, ?_, fun q hq => ?_, fun Y hY => ?_, fun Y hY => ?_, fun Y hY Z hZ hne => ?_⟩⟩
  · exact vx_Zqof (htbl (.laysStatic Bundle.tN "UNASSIGNED_STACK" Bundle.steD) (by decide +kernel)) (htbl (.initialized Bundle.tN) (by decide +kernel)) (hgf (.isRef (.static Bundle.tN "UNASSIGNED_STACK" Bundle.steD)) (by decide +kernel)) hA
  · exact vx_Zqof (htbl (.laysStatic Bundle.tN "SUPPRESSED_SENTINEL" Bundle.listD) (by decide +kernel)) (htbl (.initialized Bundle.tN) (by decide +kernel)) (hgf (.isRef (.static Bundle.tN "SUPPRESSED_SENTINEL" Bundle.listD)) (by decide +kernel)) hA
  · obtain ⟨a, -, -, -, h1, -⟩ := Cond.exactly_spec (hgf _ (str_gv q hq))
    exact ⟨a, vk_R.of (htbl _ (str_tb q hq)) h1⟩
  · exact va_Nw.of rfl (htbl _ (xnd_tb Y hY))
  · exact va_Nw.of rfl (htbl _ (xcl_tb Y hY))
  · exact va_Nc.of (hgf _ (xcl_gv Y hY Z hZ hne))
/-- YOUR PART: from the entry, for every script of at most 2560 ints, the law comes to its end with true -/
theorem whole_start {p : Program} {e : Env} {s : State} {m : MethodId} {below : List Frame} {meth : Method} {c : Code} (l : Launch) (hflags : l.flags = flags0) {b L : Nat} {xs : Nat → Int32} (hL : L ≤ 2560) (C0 : lw_At p s m meth c b L xs) : W p l e room_1 s m #[Value.ref b] below meth c s.heap [] 0 0 (lw_Z below #[Value.ref b] s) (entryFrame m ([Value.ref b] : List Value).toArray 7) := by
  obtain ⟨hx, hb, hret, hml, hown, htbl, hX, hbl, hlocks, hgv⟩ := C0
  obtain ⟨D, cA, hP⟩ := whole_pre htbl hgv
  have hl := lv_entry [Value.ref b] (n := 7) (Nat.le_of_ble_eq_true rfl)
  rw [lg_entry_eq]
  exact whole_walk hflags hL hx hb hret hml hown htbl hX hbl hlocks hP hl
set_option maxHeartbeats 4000000 in
theorem lw_walk (l : Launch) (hflags : l.flags = flags0) (b : Addr) (xs : List Int32) : MetFree l x (headSpec (Jvm.Cond.code x code maxLocals ret :: tables_1) room_1) (lw_P b xs) (fun _ _ _ _ _ => True) lw_Q := by
  refine MetFree.of_bodyS (code := code) (maxLocals := maxLocals) (ret := ret) (by decide) ?_ ?_
  · intro args s m h hn
    obtain ⟨meth, c, h1, h2, h3, h4, h5, h6, -, -⟩ := Cond.code_spec hn (atoms_spec (ws := Jvm.Cond.code x code maxLocals ret :: tables_1) h _ List.mem_cons_self)
    exact ⟨meth, c, h1, h2, h3, h4, h5, h6⟩
  · intro p e s m args below meth c s₁ B hml0 hP _
    obtain ⟨rfl, hx, hbd, hgv⟩ := hP
    obtain ⟨scr, harrAt, hlist, hof, hsmall⟩ := hx
    obtain ⟨hcb, hkn, -, -⟩ := State.arrayAt?_spec harrAt
    have hown : s.vm.findClass R_law = some m.cls := findClass_of_methodNamed B.named
    have hts0 : ∀ c ∈ (Jvm.Cond.code x code maxLocals ret :: tables_1), c.before #[Value.ref b] s = true := atoms_spec (ws := Jvm.Cond.code x code maxLocals ret :: tables_1) B.pre
    have hts : ∀ w ∈ lw_tbl, w.before #[Value.ref b] s = true := k2_hts_sels lw_privs (fun w hw => hts0 w (List.mem_cons_of_mem _ hw)) lw_privs_ok
    have hml : c.maxLocals = 7 := B.maxLocals_eq (hts0 _ List.mem_cons_self)
    have X₀ : Stand p l e room_1 s m #[Value.ref b] below meth c s₁ [] 0 0 := Stand.of_body B
    have hh0 : s₁.heap = s.heap := by rw [B.state]; rfl
    have hsz : scr.slots.size = xs.length := by rw [← Array.length_toList, hlist, List.length_map]
    have hval : ∀ j : Nat, j < xs.length → scr.slots[j]? = some (.int (xs.getD j 0)) := fun j hj => by
      rw [← Array.getElem?_toList, hlist]
      simp [hj]
    have hbl : b < s.heap.size := (Array.getElem?_eq_some_iff.mp hcb).1
    have hX : va_X b xs.length (fun j => xs.getD j 0) s s.heap := ⟨scr, hcb, hof, hkn, hsz, hval⟩
    have K : W p l e room_1 s m #[Value.ref b] below meth c s₁.heap [] 0 0 (lw_Z below #[Value.ref b] s) (entryFrame m ([Value.ref b] : List Value).toArray 7) := by
      rw [hh0]
      exact whole_start l hflags hbd ⟨B.exec, B.bytes, B.returns, hml, hown, hts, hX, hbl, B.notSynchronized, hgv⟩
    obtain ⟨t, a1, o, b1, b2, b3⟩ := K s₁ rfl X₀
    exact ⟨t, o, a1, b1, b2, b3⟩
theorem lw_pre_spec {args : Array Value} {s : State} (h : (Jvm.Cond.and given_1 narrow_1).before args s = true) (hr : rest_1_c.before args s = true) : ∃ (b : Addr) (xs : List Int32), lw_P b xs args s := by
  have hs := flat_of_before _ h
  have hq := flat_of_before _ hr
  have hc : (Cond.count 1).before args s = true := hs _ (by decide +kernel)
  have harr : (Cond.arrayOf (.arg 0) .int).before args s = true := hs _ (by decide +kernel)
  have hle : (Cond.le (.length (.arg 0)) (.int 2560)).before args s = true := hs _ (by decide +kernel)
  have hlen : (Cond.isInt (.length (.arg 0))).before args s = true := hq _ (by decide +kernel)
  have hall : (Cond.all (.arg 0) (.isInt (.elem (.arg 0) (.index 0)))).before args s = true := hq _ (by decide +kernel)
  obtain ⟨b, xs, hb, hx⟩ := State.ints_of_pre rfl harr hlen hall
  have hsm : xs.length < 2 ^ 31 := hx.choose_spec.2.2.2
  have hev : (Term.length (.arg 0)).eval args s none [] s = some (.int xs.length.toInt32) := hx.length_eval hb
  have hv := Cond.le_ints hev (show (Term.int 2560).eval args s none [] s = some (.int 2560) from rfl)
  have hd : xs.length.toInt32 ≤ 2560 := by
    simpa [Cond.before, Cond.holds, hv] using hle
  have hN : xs.length ≤ 2560 := (Int32.ofNat_le_ofNat hsm (by decide)).mp (show Int32.ofNat xs.length ≤ Int32.ofNat 2560 from hd)
  exact ⟨b, xs, Cond.one_arg hc (show args[0]? = some (.ref b) from hb), hx, hN, h⟩
theorem lw_comes (l : Launch) (hflags : l.flags = flags0) : Comes l x (Jvm.Cond.code x code maxLocals ret :: tables_1) room_1 (fun tb e args s => Calls_1 tb e args s ∧ rest_1 tb e args s ∧ Pre_1 tb e args s)
    (fun _ _ args s o t => lw_Q args s o t) := by
  intro p e ha hc hk s m args below hf hfit hheap happ hpre
  obtain ⟨b, xs, hP⟩ := lw_pre_spec hpre.2.2 hpre.2.1
  obtain ⟨k, o, h1, h2, h3, hQ⟩ := lw_walk l hflags b xs p e ha hc hk s m args below hf ((Spec.applies_iff_loose hf).mp happ).1 hP trivial
  exact ⟨k, o, h1, h2, h3, hQ⟩
theorem lw_frame {s t : State} {o : Outcome} {args : Array Value} (h : Framed s o t [] 669044 7088973) :
    Framed s o t (fieldLocs frame_1_writes args s ++ arrayLocs frame_1_arrays args s ++ staticLocs frame_1_statics s) 669044 7088973 := h
theorem lw_limb (L : Cond) (hL : ∀ (args : Array Value) (s t : State), L.after args s (.returned (some (.int 1))) t = true) :
    ArmFor flags0 classFile x code maxLocals ret World_1 tables_1 room_1 Calls_1 rest_1 Pre_1
      (fun tb e a s o t => postC L tb e a s o t ∧ Framed s o t (fieldLocs frame_1_writes a s ++ arrayLocs frame_1_arrays a s ++ staticLocs frame_1_statics s) 669044 7088973) := by
  intro l hflags _ _ p e ha hc hk s m args below hf hfit hheap happ hpre
  obtain ⟨k, o, h1, h2, h3, rfl, hF⟩ := lw_comes l hflags p e ha hc hk s m args below hf hfit hheap happ hpre
  exact ⟨k, _, h1, h2, h3, hL args s _, lw_frame hF⟩
theorem i_vc : Claimed_1_1 ∧ Claimed_1_2 := ⟨lw_limb limb_1_1 (fun args s t => by simp [limb_1_1, Cond.after, Cond.holds, Cond.value]), lw_limb limb_1_2 (fun args s t => Cond.after_iff.mpr (by
  first | (rw [show limb_1_2 = Cond.eq .result (.int 1) from rfl, Cond.eq_ints (x := 1) (y := 1) rfl rfl]; simp; done) | (simp [limb_1_2, Cond.value, Term.eval]; done)))⟩
