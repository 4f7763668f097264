/-! THE CLAIM OUT OF ONE WALK OF THE LAW'S BODY. Your part is whole_start (and what it stands on); all else here is the same for every law, but numbers. -/
def R_law : String := "TermBillLaw"
def lw_P (b : Addr) (xs : List Int32) (args : Array Value) (s : State) : Prop := args = #[.ref b] ∧ s.IntsAt b xs ∧ xs.length ≤ 260 ∧ (Jvm.Cond.and given_1 narrow_1).before args s = true
def lw_Q (_ : Array Value) (s : State) (o : Outcome) (t : State) : Prop := o = .returned (some (.int 1)) ∧ Framed s o t [] 693998 7019631
def lw_Z (below : List Frame) (a : Array Value) (s : State) : State → Prop := fun t => ∃ o, t.status = .running ∧ Ended t below o ∧ lw_Q a s o t
/-- the law's own end, with 1 on the stack, nothing written that was there before, its room as the claim has it -/
theorem lw_ret {p : Program} {l : Launch} {e : Env} {s : State} {m : MethodId} {below : List Frame} {meth : Method} {c : Code} {b : Nat} (hx : p.tables.exec = Jvm.exec) (hb : c.code = code) (hr : meth.sig.returnType = ret) (hlocks : meth.locks = false) {pc : Nat} {H : Heap} {ls : Array Slot} (hdg : decode code pc = .ok (.ireturn, 1)) : W p l e room_1 s m #[Value.ref b] below meth c H [] 693998 7019631 (lw_Z below #[Value.ref b] s) (F0 m pc ls [.int 1]) := by
  intro T hT X
  obtain ⟨fs, hret, hrun, hended, hW, hframe⟩ := X.leave (v := some (.int 1)) (hlocks := hlocks) (fun h => by rw [hr] at h; cases h)
  have hmeth' : T.vm.method? m = some meth := X.method'
  refine ⟨T.setFrames fs, ?_, .returned (some (.int 1)), hrun, hended, rfl, ⟨_, rfl⟩, hW, hframe⟩
  jvm_step X.here [X.here.top, hx, hb, hdg, hmeth', hr, ret, narrow_b1]
  (try refine ⟨rfl, ?_⟩); (try refine ⟨rfl, ?_⟩)
  first | (intro acts; rw [hret _ acts rfl rfl rfl]) | rw [hret _ _ rfl rfl rfl]
  exact Steps.refl _
/-- what holds at the law's entry: the machine, the code, the tables' words (any of lw_tbl by 'hts w (by decide +kernel)'), the script of L ints xs at the cell b, what the Statement gives of the start (any of its parts by flat_of_before) -/
def lw_At (p : Program) (s : State) (m : MethodId) (meth : Method) (c : Code) (b L : Nat) (xs : Nat → Int32) : Prop :=
  p.tables.exec = Jvm.exec ∧ c.code = code ∧ meth.sig.returnType = ret ∧ c.maxLocals = 6 ∧ s.vm.findClass R_law = some m.cls ∧ (∀ w ∈ lw_tbl, w.before #[Value.ref b] s = true) ∧ va_X b L xs s s.heap ∧ b < s.heap.size ∧ meth.locks = false ∧ (Jvm.Cond.and given_1 narrow_1).before #[Value.ref b] s = true
def cnK (k : Nat) : Nat := k + 2 * ((k + 4) / 7) + 3 * ((k + 4) / 9) + (k + 2) / 4
set_option maxHeartbeats 2000000 in
set_option maxRecDepth 100000 in
theorem law_loop {p : Program} {l : Launch} {e : Env} {s : State} {m : MethodId} {below : List Frame} {meth : Method} {c : Code} {D : va_G} {cA : Nat → ClassId} {ad bd : Nat → Nat} {b L : Nat} {xs : Nat → Int32} (X : C2 p m c code 6 s #[Value.ref b] wsL_law RL D cA ad bd meth) (hret : meth.sig.returnType = ret) (hX : va_X b L xs s s.heap) (hbl : b < s.heap.size) (hbA : ¬ A2 ad bd s.heap.size b) (hL : L ≤ 260) (hst : l.stackTraces = false) (hnew : ∀ q, A2 ad bd s.heap.size q → s.heap.size ≤ q) : ∀ (d k : Nat), k + d = 110 → ∀ F G M : FF, RX (cnK k) F M → RX (cnK k) G M → 0 ≤ (M 36 8).toInt → ∀ (H : Heap) (locs : List Loc) (ls : Array Slot), S2 D cA ad bd F G s.heap H locs → lv_has ls 6 [(0, .ref b), (1, .ref (ad 0)), (2, .ref (bd 0)), (3, .int (nI k))] → W p l e room_1 s m #[Value.ref b] below meth c H locs (100 + 40 * k) (700 + 300 * k) (lw_Z below #[Value.ref b] s) (F0 m 18 ls []) := by
  obtain ⟨⟨hx, hb, hml, hown, hts⟩, hE, hI, hlocks⟩ := id X
  intro d
  induction d with
  | zero =>
    intro k hk F G M hF hG h8 H locs ls S hl
    obtain rfl : k = 110 := by omega
    unfold cnK at hF hG
    refine lv_iload_n hx hb dL_law_18 rfl (lv_at hl 3 rfl) ?_
    refine lv_bipush (v := 110) hx hb dL_law_19 (by decide) ?_
    refine lv_icmp_ge (tgt := 194) hx hb dL_law_21 (by decide) (fun _ => ?_) (fun z => False.elim (absurd (Int32.le_refl _) z))
    refine lv_aload_n hx hb dL_law_194 rfl (lv_at hl 1 rfl) ?_
    refine lv_aload_n hx hb dL_law_195 rfl (lv_at hl 2 rfl) ?_
    refine t_SB X S (b_areAlike hst (by omega) hF hG D cA ad bd _) (va_cwS 2 hts gL_law_L_areAlike rfl rfl rfl (by decide +kernel) ⟨Nat.le_of_ble_eq_true rfl, Nat.le_of_ble_eq_true rfl⟩) rfl hl.1 rfl (Nat.le_of_ble_eq_true rfl) dL_law_196 ⟨(show (100 + 40 * 110) + 16 ≤ 693998 by omega), (show (700 + 300 * 110) + 96 ≤ 7019631 by omega)⟩ (fun F_1 G_2 H locs r_3 S => ?_)
    refine lv_if_eq (tgt := 222) hx hb dL_law_199 (by decide) (fun z => False.elim (by first | exact absurd z (by decide) | exact absurd (by decide) z)) (fun _ => ?_)
    refine lv_aload_n hx hb dL_law_202 rfl (lv_at hl 1 rfl) ?_
    refine lv_iconst (v := 0) hx hb dL_law_203 (by decide) ?_
    refine t_SE X S (b_isOnce hst (by omega) h8 (by decide) r_3.1 D cA ad _) (va_cwS 2 hts gL_law_L_isOnce rfl rfl rfl (by decide +kernel) ⟨Nat.le_of_ble_eq_true rfl, Nat.le_of_ble_eq_true rfl⟩) rfl hl.1 rfl (Nat.le_of_ble_eq_true rfl) dL_law_204 ⟨(show ((100 + 40 * 110) + 16) + 1 ≤ 693998 by omega), (show ((700 + 300 * 110) + 96) + 6 ≤ 7019631 by omega)⟩ (fun F_4 H locs r_5 S => ?_)
    refine lv_if_eq (tgt := 222) hx hb dL_law_207 (by decide) (fun z => False.elim (by first | exact absurd z (by decide) | exact absurd (by decide) z)) (fun _ => ?_)
    refine lv_aload_n hx hb dL_law_210 rfl (lv_at hl 2 rfl) ?_
    refine lv_iconst (v := 3) hx hb dL_law_211 (by decide) ?_
    refine u_SE X S (b_isOnce hst (by omega) h8 (by decide) r_3.2 D cA bd _) (va_cwS 2 hts gL_law_L_isOnce rfl rfl rfl (by decide +kernel) ⟨Nat.le_of_ble_eq_true rfl, Nat.le_of_ble_eq_true rfl⟩) rfl hl.1 rfl (Nat.le_of_ble_eq_true rfl) dL_law_212 ⟨(show (((100 + 40 * 110) + 16) + 1) + 1 ≤ 693998 by omega), (show (((700 + 300 * 110) + 96) + 6) + 6 ≤ 7019631 by omega)⟩ (fun F_6 H locs r_7 S => ?_)
    refine lv_if_eq (tgt := 222) hx hb dL_law_215 (by decide) (fun z => False.elim (by first | exact absurd z (by decide) | exact absurd (by decide) z)) (fun _ => ?_)
    refine lv_iconst (v := 1) hx hb dL_law_218 (by decide) ?_
    refine lv_goto (tgt := 223) hx hb dL_law_219 (by decide) ?_
    refine va_forget (fun q hq => hnew _ (S.2.2.2.2 q hq)) ?_
    exact W.widen (k := 693998) (n := 7019631) (by omega) (by omega) (lw_ret hx hb hret hlocks dL_law_223)
  | succ d ih =>
    intro k hk F G M hF hG h8 H locs ls S hl
    have hk1 : k < 110 := by omega
    have k188 : ∀ (n : Nat) (F G M : FF), n ≤ (k + 1 + 2 * ((k + 5) / 7) + 3 * ((k + 5) / 9) + (k + 3) / 4) → RX n F M → RX n G M → 0 ≤ (M 36 8).toInt → ∀ (H : Heap) (locs : List Loc) (ls : Array Slot), S2 D cA ad bd F G s.heap H locs → lv_has ls 6 [(0, .ref b), (1, .ref (ad 0)), (2, .ref (bd 0)), (3, .int (nI k))] → W p l e room_1 s m #[Value.ref b] below meth c H locs (100 + 40 * k + 25) (700 + 300 * k + 150) (lw_Z below #[Value.ref b] s) (F0 m 188 ls []) := by
      intro n F G M hn hF hG h8 H locs ls S hl
      refine lv_iinc (v := nI (k + 1)) (lv' := [(3, .int (nI (k + 1))), (0, .ref b), (1, .ref (ad 0)), (2, .ref (bd 0))]) hx hb dL_law_188 hl (k := 3) rfl (nI_add _ _) (by decide) rfl (fun ls hl => ?_)
      refine lv_goto (tgt := 18) hx hb dL_law_191 (by decide) ?_
      exact W.widen (by omega) (by omega) (ih (k + 1) (by omega) _ _ _ (RX_of (show n ≤ cnK (k + 1) from hn) hF (EC_rfl _) (EM_rfl _)) (RX_of (show n ≤ cnK (k + 1) from hn) hG (EC_rfl _) (EM_rfl _)) h8 H locs ls S (lv_sub hl [1, 2, 3, 0] rfl))
    have k171 : ∀ (v : Int32) (n : Nat) (F G M : FF), n ≤ (k + 1 + 2 * ((k + 5) / 7) + 3 * ((k + 5) / 9) + (k + 2) / 4) → RX n F M → RX n G M → 0 ≤ (M 36 8).toInt → ∀ (H : Heap) (locs : List Loc) (ls : Array Slot), S2 D cA ad bd F G s.heap H locs → lv_has ls 6 [(0, .ref b), (1, .ref (ad 0)), (2, .ref (bd 0)), (3, .int (nI k)), (4, .int v)] → W p l e room_1 s m #[Value.ref b] below meth c H locs (100 + 40 * k + 22) (700 + 300 * k + 132) (lw_Z below #[Value.ref b] s) (F0 m 171 ls []) := by
      intro v n F G M hn hF hG h8 H locs ls S hl
      refine lv_iload_n hx hb dL_law_171 rfl (lv_at hl 3 rfl) ?_
      refine lv_iconst (v := 4) hx hb dL_law_172 (by decide) ?_
      refine lv_irem hx hb dL_law_173 (by decide) ?_
      refine lv_topi (fun x_1 ex_1 => ?_)
      obtain rfl : x_1 = nI (k % 4) := ex_1.trans (rm_4 k hk1)
      refine lv_iconst (v := 1) hx hb dL_law_174 (by decide) ?_
      refine lv_icmp_ne (tgt := 188) hx hb dL_law_175 (by decide) (fun c_2 => ?_) (fun c_2 => ?_)
      · exact W.widen (by omega) (by omega) (k188 _ _ _ _ (by omega) hF hG h8 H locs ls S (lv_sub hl [0, 1, 2, 3] rfl))
      · refine lv_aload_n hx hb dL_law_178 rfl (lv_at hl 1 rfl) ?_
        refine lv_aload_n hx hb dL_law_179 rfl (lv_at hl 2 rfl) ?_
        obtain ⟨M_6, h_7, q_8⟩ := k_isClosedSo hst (by omega) h8 hF hG
        refine t_SB X S (q_8 D cA ad bd _) (va_cwS 2 hts gL_law_L_isClosedSo rfl rfl rfl (by decide +kernel) ⟨Nat.le_of_ble_eq_true rfl, Nat.le_of_ble_eq_true rfl⟩) rfl hl.1 rfl (Nat.le_of_ble_eq_true rfl) dL_law_180 ⟨(show (100 + 40 * k + 22) + 3 ≤ 693998 by omega), (show (700 + 300 * k + 132) + 18 ≤ 7019631 by omega)⟩ (fun F_3 G_4 H locs r_5 S => ?_)
        refine lv_if_ne (tgt := 188) hx hb dL_law_183 (by decide) (fun _ => ?_) (fun z => False.elim (absurd z (by decide)))
        have m9 : k % 4 = 1 := nI_inj (by omega) (by omega) (show nI (k % 4) = nI 1 from c_2)
        exact W.widen (by omega) (by omega) (k188 _ _ _ _ (by omega) r_5.1 r_5.2 h_7 H locs ls S (lv_sub hl [0, 1, 2, 3] rfl))
    have k136 : ∀ (v : Int32) (n : Nat) (F G M : FF), n ≤ (k + 1 + 2 * ((k + 5) / 7) + 3 * ((k + 4) / 9) + (k + 2) / 4) → RX n F M → RX n G M → 0 ≤ (M 36 8).toInt → ∀ (H : Heap) (locs : List Loc) (ls : Array Slot), S2 D cA ad bd F G s.heap H locs → lv_has ls 6 [(0, .ref b), (1, .ref (ad 0)), (2, .ref (bd 0)), (3, .int (nI k)), (4, .int v)] → W p l e room_1 s m #[Value.ref b] below meth c H locs (100 + 40 * k + 19) (700 + 300 * k + 114) (lw_Z below #[Value.ref b] s) (F0 m 136 ls []) := by
      intro v n F G M hn hF hG h8 H locs ls S hl
      obtain ⟨i, hi, ei⟩ := an3 (v >>> (8 &&& 31))
      refine lv_iload_n hx hb dL_law_136 rfl (lv_at hl 3 rfl) ?_
      refine lv_bipush (v := 9) hx hb dL_law_137 (by decide) ?_
      refine lv_irem hx hb dL_law_139 (by decide) ?_
      refine lv_topi (fun x_1 ex_1 => ?_)
      obtain rfl : x_1 = nI (k % 9) := ex_1.trans (rm_9 k hk1)
      refine lv_iconst (v := 4) hx hb dL_law_140 (by decide) ?_
      refine lv_icmp_ne (tgt := 171) hx hb dL_law_141 (by decide) (fun c_2 => ?_) (fun c_2 => ?_)
      · exact W.widen (by omega) (by omega) (k171 v _ _ _ _ (by omega) hF hG h8 H locs ls S (lv_sub hl [0, 1, 2, 3, 4] rfl))
      · refine lv_aload_n hx hb dL_law_144 rfl (lv_at hl 1 rfl) ?_
        refine lv_aload_n hx hb dL_law_145 rfl (lv_at hl 2 rfl) ?_
        refine lv_iload hx hb dL_law_146 (lv_at hl 4 rfl) ?_
        refine lv_bipush (v := 8) hx hb dL_law_148 (by decide) ?_
        refine lv_ishr hx hb dL_law_150 ?_
        refine lv_iconst (v := 3) hx hb dL_law_151 (by decide) ?_
        refine lv_iand hx hb dL_law_152 ?_
        refine lv_topi (fun x_3 ex_3 => ?_)
        obtain rfl : x_3 = nI i := ex_3.trans ei
        refine lv_iconst (v := 1) hx hb dL_law_153 (by decide) ?_
        refine lv_iload hx hb dL_law_154 (lv_at hl 4 rfl) ?_
        refine lv_bipush (v := 10) hx hb dL_law_156 (by decide) ?_
        refine lv_ishr hx hb dL_law_158 ?_
        refine lv_bipush (v := 10) hx hb dL_law_159 (by decide) ?_
        refine t_S0 X S (c_L_low l D cA ad _ F (v >>> (10 &&& 31)) 10 (by decide)) (va_cwS 2 hts gL_law_L_low rfl rfl rfl (by decide +kernel) ⟨Nat.le_of_ble_eq_true rfl, Nat.le_of_ble_eq_true rfl⟩) rfl hl.1 rfl (Nat.le_of_ble_eq_true rfl) dL_law_161 ⟨(show (100 + 40 * k + 19) ≤ 693998 by omega), (show (700 + 300 * k + 114) ≤ 7019631 by omega)⟩ (fun H locs S => ?_)
        refine lv_iadd hx hb dL_law_164 ?_
        obtain ⟨M_7, h_8, q_9⟩ := k_isDroppedSo hst (by omega) h8 hi (cr_w _) hF hG
        refine t_SB X S (q_9 D cA ad bd _) (va_cwS 4 hts gL_law_L_isDroppedSo rfl rfl rfl (by decide +kernel) ⟨Nat.le_of_ble_eq_true rfl, Nat.le_of_ble_eq_true rfl⟩) rfl hl.1 rfl (Nat.le_of_ble_eq_true rfl) dL_law_165 ⟨(show (100 + 40 * k + 19) + 3 ≤ 693998 by omega), (show (700 + 300 * k + 114) + 18 ≤ 7019631 by omega)⟩ (fun F_4 G_5 H locs r_6 S => ?_)
        refine lv_if_eq (tgt := 186) hx hb dL_law_168 (by decide) (fun z => False.elim (absurd z (by decide))) (fun _ => ?_)
        have m9 : k % 9 = 4 := nI_inj (by omega) (by omega) (show nI (k % 9) = nI 4 from c_2)
        exact W.widen (by omega) (by omega) (k171 v _ _ _ _ (by omega) r_6.1 r_6.2 h_8 H locs ls S (lv_sub hl [0, 1, 2, 3, 4] rfl))
    have k101 : ∀ (v : Int32) (n : Nat) (F G M : FF), n ≤ (k + 1 + 2 * ((k + 4) / 7) + 3 * ((k + 4) / 9) + (k + 2) / 4) → RX n F M → RX n G M → 0 ≤ (M 36 8).toInt → ∀ (H : Heap) (locs : List Loc) (ls : Array Slot), S2 D cA ad bd F G s.heap H locs → lv_has ls 6 [(0, .ref b), (1, .ref (ad 0)), (2, .ref (bd 0)), (3, .int (nI k)), (4, .int v)] → W p l e room_1 s m #[Value.ref b] below meth c H locs (100 + 40 * k + 19) (700 + 300 * k + 114) (lw_Z below #[Value.ref b] s) (F0 m 101 ls []) := by
      intro v n F G M hn hF hG h8 H locs ls S hl
      obtain ⟨i, hi, ei⟩ := an3 (v >>> (8 &&& 31))
      refine lv_iload_n hx hb dL_law_101 rfl (lv_at hl 3 rfl) ?_
      refine lv_bipush (v := 7) hx hb dL_law_102 (by decide) ?_
      refine lv_irem hx hb dL_law_104 (by decide) ?_
      refine lv_topi (fun x_1 ex_1 => ?_)
      obtain rfl : x_1 = nI (k % 7) := ex_1.trans (rm_7 k hk1)
      refine lv_iconst (v := 2) hx hb dL_law_105 (by decide) ?_
      refine lv_icmp_ne (tgt := 136) hx hb dL_law_106 (by decide) (fun c_2 => ?_) (fun c_2 => ?_)
      · exact W.widen (by omega) (by omega) (k136 v _ _ _ _ (by omega) hF hG h8 H locs ls S (lv_sub hl [0, 1, 2, 3, 4] rfl))
      · refine lv_aload_n hx hb dL_law_109 rfl (lv_at hl 1 rfl) ?_
        refine lv_aload_n hx hb dL_law_110 rfl (lv_at hl 2 rfl) ?_
        refine lv_iload hx hb dL_law_111 (lv_at hl 4 rfl) ?_
        refine lv_bipush (v := 8) hx hb dL_law_113 (by decide) ?_
        refine lv_ishr hx hb dL_law_115 ?_
        refine lv_iconst (v := 3) hx hb dL_law_116 (by decide) ?_
        refine lv_iand hx hb dL_law_117 ?_
        refine lv_topi (fun x_3 ex_3 => ?_)
        obtain rfl : x_3 = nI i := ex_3.trans ei
        refine lv_iconst (v := 1) hx hb dL_law_118 (by decide) ?_
        refine lv_iload hx hb dL_law_119 (lv_at hl 4 rfl) ?_
        refine lv_bipush (v := 10) hx hb dL_law_121 (by decide) ?_
        refine lv_ishr hx hb dL_law_123 ?_
        refine lv_ldc (v := 90000) hx hb hown (hts (.constant RL 137 (90000)) (by decide +kernel)) dL_law_124 ?_
        refine t_S0 X S (c_L_low l D cA ad _ F (v >>> (10 &&& 31)) 90000 (by decide)) (va_cwS 2 hts gL_law_L_low rfl rfl rfl (by decide +kernel) ⟨Nat.le_of_ble_eq_true rfl, Nat.le_of_ble_eq_true rfl⟩) rfl hl.1 rfl (Nat.le_of_ble_eq_true rfl) dL_law_126 ⟨(show (100 + 40 * k + 19) ≤ 693998 by omega), (show (700 + 300 * k + 114) ≤ 7019631 by omega)⟩ (fun H locs S => ?_)
        refine lv_iadd hx hb dL_law_129 ?_
        obtain ⟨M_7, h_8, q_9⟩ := k_isPaidSo hst (by omega) h8 hi (am_w _) hF hG
        refine t_SB X S (q_9 D cA ad bd _) (va_cwS 4 hts gL_law_L_isPaidSo rfl rfl rfl (by decide +kernel) ⟨Nat.le_of_ble_eq_true rfl, Nat.le_of_ble_eq_true rfl⟩) rfl hl.1 rfl (Nat.le_of_ble_eq_true rfl) dL_law_130 ⟨(show (100 + 40 * k + 19) + 0 ≤ 693998 by omega), (show (700 + 300 * k + 114) + 0 ≤ 7019631 by omega)⟩ (fun F_4 G_5 H locs r_6 S => ?_)
        refine lv_if_eq (tgt := 186) hx hb dL_law_133 (by decide) (fun z => False.elim (absurd z (by decide))) (fun _ => ?_)
        have m9 : k % 7 = 2 := nI_inj (by omega) (by omega) (show nI (k % 7) = nI 2 from c_2)
        exact W.widen (by omega) (by omega) (k136 v _ _ _ _ (by omega) r_6.1 r_6.2 h_8 H locs ls S (lv_sub hl [0, 1, 2, 3, 4] rfl))
    have k69 : ∀ (v k1 : Int32) (n : Nat) (F G M : FF), n ≤ (k + 1 + 2 * ((k + 4) / 7) + 3 * ((k + 4) / 9) + (k + 2) / 4) → RX n F M → RX n G M → 0 ≤ (M 36 8).toInt → ∀ (H : Heap) (locs : List Loc) (ls : Array Slot), S2 D cA ad bd F G s.heap H locs → lv_has ls 6 [(0, .ref b), (1, .ref (ad 0)), (2, .ref (bd 0)), (3, .int (nI k)), (4, .int v), (5, .int k1)] → W p l e room_1 s m #[Value.ref b] below meth c H locs (100 + 40 * k + 2) (700 + 300 * k + 12) (lw_Z below #[Value.ref b] s) (F0 m 69 ls []) := by
      intro v k1 n F G M hn hF hG h8 H locs ls S hl
      obtain ⟨i, hi, ei⟩ := an3 (v >>> (7 &&& 31))
      refine lv_aload_n hx hb dL_law_69 rfl (lv_at hl 1 rfl) ?_
      refine lv_iload hx hb dL_law_70 (lv_at hl 4 rfl) ?_
      refine lv_bipush (v := 7) hx hb dL_law_72 (by decide) ?_
      refine lv_ishr hx hb dL_law_74 ?_
      refine lv_iconst (v := 3) hx hb dL_law_75 (by decide) ?_
      refine lv_iand hx hb dL_law_76 ?_
      refine lv_topi (fun x_1 ex_1 => ?_)
      obtain rfl : x_1 = nI i := ex_1.trans ei
      refine t_SE X S (b_isOnce hst (by omega) h8 hi hF D cA ad _) (va_cwS 2 hts gL_law_L_isOnce rfl rfl rfl (by decide +kernel) ⟨Nat.le_of_ble_eq_true rfl, Nat.le_of_ble_eq_true rfl⟩) rfl hl.1 rfl (Nat.le_of_ble_eq_true rfl) dL_law_77 ⟨(show (100 + 40 * k + 2) + 1 ≤ 693998 by omega), (show (700 + 300 * k + 12) + 6 ≤ 7019631 by omega)⟩ (fun F_2 H locs r_3 S => ?_)
      refine lv_if_eq (tgt := 99) hx hb dL_law_80 (by decide) (fun z => False.elim (absurd z (by decide))) (fun _ => ?_)
      refine lv_iload_n hx hb dL_law_83 rfl (lv_at hl 3 rfl) ?_
      refine lv_bipush (v := 6) hx hb dL_law_84 (by decide) ?_
      refine lv_irem hx hb dL_law_86 (by decide) ?_
      refine lv_topi (fun x_4 ex_4 => ?_)
      obtain rfl : x_4 = nI (k % 6) := ex_4.trans (rm_6 k hk1)
      refine lv_iconst (v := 3) hx hb dL_law_87 (by decide) ?_
      refine lv_icmp_ne (tgt := 101) hx hb dL_law_88 (by decide) (fun c_5 => ?_) (fun c_5 => ?_)
      · exact W.widen (by omega) (by omega) (k101 v _ _ _ _ (by omega) r_3 hG h8 H locs ls S (lv_sub hl [0, 1, 2, 3, 4] rfl))
      · refine lv_aload_n hx hb dL_law_91 rfl (lv_at hl 1 rfl) ?_
        refine lv_aload_n hx hb dL_law_92 rfl (lv_at hl 2 rfl) ?_
        refine t_SB X S (b_areAlike hst (by omega) r_3 hG D cA ad bd _) (va_cwS 2 hts gL_law_L_areAlike rfl rfl rfl (by decide +kernel) ⟨Nat.le_of_ble_eq_true rfl, Nat.le_of_ble_eq_true rfl⟩) rfl hl.1 rfl (Nat.le_of_ble_eq_true rfl) dL_law_93 ⟨(show ((100 + 40 * k + 2) + 1) + 16 ≤ 693998 by omega), (show ((700 + 300 * k + 12) + 6) + 96 ≤ 7019631 by omega)⟩ (fun F_6 G_7 H locs r_8 S => ?_)
        refine lv_if_ne (tgt := 101) hx hb dL_law_96 (by decide) (fun _ => ?_) (fun z => False.elim (absurd z (by decide)))
        exact W.widen (by omega) (by omega) (k101 v _ _ _ _ (by omega) r_8.1 r_8.2 h8 H locs ls S (lv_sub hl [0, 1, 2, 3, 4] rfl))
    refine lv_iload_n hx hb dL_law_18 rfl (lv_at hl 3 rfl) ?_
    refine lv_bipush (v := 110) hx hb dL_law_19 (by decide) ?_
    refine lv_icmp_ge (tgt := 194) hx hb dL_law_21 (by decide) (fun z => False.elim (nI_ge (a := k) (b := 110) (by omega) (by omega) z)) (fun _ => ?_)
    refine lv_aload_n hx hb dL_law_24 rfl (lv_at hl 0 rfl) ?_
    refine lv_iload_n hx hb dL_law_25 rfl (lv_at hl 3 rfl) ?_
    refine lv_bipush (v := 61) hx hb dL_law_26 (by decide) ?_
    refine lv_irem hx hb dL_law_28 (by decide) ?_
    refine lv_topi (fun x_1 ex_1 => ?_)
    obtain rfl : x_1 = nI (k % 61) := ex_1.trans (rm_61 k hk1)
    refine t_cell X S (va_runS X.1 (c_L_cell l b L xs hL (k := k % 61) (by omega)) (va_cwS 2 hts gL_law_L_cell rfl rfl rfl (by decide +kernel) ⟨Nat.le_of_ble_eq_true rfl, Nat.le_of_ble_eq_true rfl⟩) (preX2 X S hX hbl hbA [.ref b, .int (nI (k % 61))]) rfl rfl hl.1 rfl (lv_room (Nat.le_of_ble_eq_true rfl)) dL_law_29 ⟨(show (100 + 40 * k) ≤ 693998 by omega), (show (700 + 300 * k) ≤ 7019631 by omega)⟩) (fun v0 H locs S => ?_)
    refine lv_sipush (v := 1123) hx hb dL_law_32 (by decide) ?_
    refine lv_iload_n hx hb dL_law_35 rfl (lv_at hl 3 rfl) ?_
    refine lv_bipush (v := 61) hx hb dL_law_36 (by decide) ?_
    refine lv_idiv hx hb dL_law_38 (by decide) ?_
    refine lv_imul hx hb dL_law_39 ?_
    refine lv_iadd hx hb dL_law_40 ?_
    refine lv_topi (fun v _ => ?_)
    obtain ⟨k1, M', ac⟩ := ac_any hst (n := cnK k) (by unfold cnK; omega) hF v
    refine lv_istore (lv' := [(4, .int v), (0, .ref b), (1, .ref (ad 0)), (2, .ref (bd 0)), (3, .int (nI k))]) hx hb dL_law_41 hl (by decide) rfl (fun ls hl => ?_)
    refine lv_aload_n hx hb dL_law_43 rfl (lv_at hl 2 rfl) ?_
    refine lv_iload hx hb dL_law_44 (lv_at hl 0 rfl) ?_
    obtain ⟨F_3, c_4, r_5⟩ := ac.2.2 _ hF
    refine t_S X S (c_4 D cA ad _) (va_cwS 2 hts gL_law_L_act rfl rfl rfl (by decide +kernel) ⟨Nat.le_of_ble_eq_true rfl, Nat.le_of_ble_eq_true rfl⟩) rfl hl.1 rfl (Nat.le_of_ble_eq_true rfl) dL_law_46 ⟨(show (100 + 40 * k) + 1 ≤ 693998 by omega), (show (700 + 300 * k) + 6 ≤ 7019631 by omega)⟩ (fun H locs S => ?_)
    refine lv_istore (lv' := [(5, .int k1), (4, .int v), (0, .ref b), (1, .ref (ad 0)), (2, .ref (bd 0)), (3, .int (nI k))]) hx hb dL_law_49 hl (by decide) rfl (fun ls hl => ?_)
    refine lv_iload hx hb dL_law_51 (lv_at hl 0 rfl) ?_
    refine lv_ldc (v := -1000000001) hx hb hown (hts (.constant RL 53 (-1000000001)) (by decide +kernel)) dL_law_53 ?_
    refine lv_icmp_eq (tgt := 69) hx hb dL_law_55 (by decide) (fun c_6 => ?_) (fun c_6 => ?_)
    · have em : M' = M := ac.1 c_6
      exact W.widen (by omega) (by omega) (k69 v k1 _ _ _ _ (show cnK k + 1 ≤ _ by unfold cnK; omega) r_5 (by rw [em]; exact RX_of (Nat.le_succ _) hG (EC_rfl _) (EM_rfl _)) (ac.2.1 h8) H locs ls S (lv_sub hl [2, 3, 4, 5, 1, 0] rfl))
    · refine lv_aload_n hx hb dL_law_58 rfl (lv_at hl 4 rfl) ?_
      refine lv_iload hx hb dL_law_59 (lv_at hl 1 rfl) ?_
      obtain ⟨F_7, c_8, r_9⟩ := ac.2.2 _ hG
      refine u_S X S (c_8 D cA bd _) (va_cwS 2 hts gL_law_L_act rfl rfl rfl (by decide +kernel) ⟨Nat.le_of_ble_eq_true rfl, Nat.le_of_ble_eq_true rfl⟩) rfl hl.1 rfl (Nat.le_of_ble_eq_true rfl) dL_law_61 ⟨(show ((100 + 40 * k) + 1) + 1 ≤ 693998 by omega), (show ((700 + 300 * k) + 6) + 6 ≤ 7019631 by omega)⟩ (fun H locs S => ?_)
      refine lv_iload hx hb dL_law_64 (lv_at hl 0 rfl) ?_
      refine lv_icmp_ne (tgt := 99) hx hb dL_law_66 (by decide) (fun z => False.elim (z rfl)) (fun _ => ?_)
      exact W.widen (by omega) (by omega) (k69 v k1 _ _ _ _ (show cnK k + 1 ≤ _ by unfold cnK; omega) r_5 r_9 (ac.2.1 h8) H locs ls S (lv_sub hl [2, 3, 4, 5, 1, 0] rfl))
