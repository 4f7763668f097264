/-! the law: its script, its numbers, its loop -/
theorem an3 (x : Int32) : ∃ i, i < 4 ∧ x &&& 3 = nI i := by
  have h : (x &&& 3).toBitVec.toNat ≤ 3 := by
    show (x.toBitVec &&& (3 : Int32).toBitVec).toNat ≤ 3
    rw [BitVec.toNat_and]
    exact Nat.and_le_right
  refine ⟨(x &&& 3).toBitVec.toNat, by omega, ?_⟩
  refine Int32.toBitVec_inj.mp ?_
  show (x &&& 3).toBitVec = BitVec.ofNat 32 (x &&& 3).toBitVec.toNat
  rw [BitVec.ofNat_toNat, BitVec.setWidth_eq]
theorem an31 (y : Int32) : 0 ≤ (y &&& 2147483647).toInt := by
  have h : (y &&& 2147483647).toBitVec.toNat ≤ 2147483647 := by
    show (y.toBitVec &&& (2147483647 : Int32).toBitVec).toNat ≤ 2147483647
    rw [BitVec.toNat_and]
    exact Nat.and_le_right
  show 0 ≤ (y &&& 2147483647).toBitVec.toInt
  rw [BitVec.toInt_eq_toNat_of_lt (by omega)]
  omega
theorem low_L (y : Int32) : bt (lowI y 90000) 0 89999 := by
  have e : (90000 : Int32).toInt = 90000 := by decide
  have h := an31 y
  have hl := Int32.toInt_lt (y &&& 2147483647)
  have d := idiv (a := y &&& 2147483647) (b := 90000) h (by rw [e]; omega)
  rw [e] at d
  have m : ((y &&& 2147483647) / 90000 * 90000).toInt = (y &&& 2147483647).toInt / 90000 * 90000 := by rw [imul (by rw [d, e]; omega) (by rw [d, e]; omega), d, e]
  unfold lowI bt
  rw [isub (by rw [m]; omega) (by rw [m]; omega), m]
  omega
theorem low_T (y : Int32) : bt (lowI y 10) 0 9 := by
  have e : (10 : Int32).toInt = 10 := by decide
  have h := an31 y
  have hl := Int32.toInt_lt (y &&& 2147483647)
  have d := idiv (a := y &&& 2147483647) (b := 10) h (by rw [e]; omega)
  rw [e] at d
  have m : ((y &&& 2147483647) / 10 * 10).toInt = (y &&& 2147483647).toInt / 10 * 10 := by rw [imul (by rw [d, e]; omega) (by rw [d, e]; omega), d, e]
  unfold lowI bt
  rw [isub (by rw [m]; omega) (by rw [m]; omega), m]
  omega
theorem wi_of {x a b : Int32} {u v : Int} (ha : a.toInt = u) (hb : b.toInt = v) (h : bt x u v) : wi x a b = true := by
  rw [wi_iff, ha, hb]
  exact h
theorem am_w (y : Int32) : wi (1 + lowI y 90000) 1 1000000 = true := by
  have q := low_L y
  have q1 := q.1
  have q2 := q.2
  refine wi_of i1 i1e6 ⟨?_, ?_⟩ <;> (rw [iadd (by rw [i1]; omega) (by rw [i1]; omega), i1]; omega)
theorem cr_w (y : Int32) : wi (1 + lowI y 10) 1 10 = true := by
  have q := low_T y
  have q1 := q.1
  have q2 := q.2
  refine wi_of i1 i10 ⟨?_, ?_⟩ <;> (rw [iadd (by rw [i1]; omega) (by rw [i1]; omega), i1]; omega)
theorem rm_61 : ∀ k, k < 110 → nI k - nI k / 61 * 61 = nI (k % 61) := by decide +kernel
theorem rm_6 : ∀ k, k < 110 → nI k - nI k / 6 * 6 = nI (k % 6) := by decide +kernel
theorem rm_7 : ∀ k, k < 110 → nI k - nI k / 7 * 7 = nI (k % 7) := by decide +kernel
theorem rm_9 : ∀ k, k < 110 → nI k - nI k / 9 * 9 = nI (k % 9) := by decide +kernel
theorem rm_4 : ∀ k, k < 110 → nI k - nI k / 4 * 4 = nI (k % 4) := by decide +kernel
def PcX (b L : Nat) (xs : Nat → Int32) (av : List Value) : Array Value → State → Prop := va_Pc av (fun U => b < U.heap.size ∧ va_X b L xs U U.heap)
theorem PcX_blind {b L : Nat} {xs : Nat → Int32} {av : List Value} : FrameBlind (PcX b L xs av) := fun a U g mk q => ⟨q.1, q.2.1, va_X.moved (u := U) (U := U.calling g mk a) (Vm.Alike.refl U.vm) q.2.2⟩
def CQX : Array Value → State → Outcome → State → Prop := fun _ st oc t => ∃ v : Int32, oc = .returned (some (.int v)) ∧ va_F (fun _ => False) st t
section RX1
variable {p : Program} {l : Launch} {e : Env} {R : Room} {s : State} {m : MethodId} {args : Array Value} {below : List Frame} {meth : Method} {c : Code} {cc : ByteArray} {nL : Nat} {ws : List Cond} {own : String} {D : va_G} {cA : Nat → ClassId} {ad bd : Nat → Nat} {F G : FF} {H : Heap} {locs : List Loc} {cells slots : Nat} {Q : State → Prop} {pc : Nat} {ls : Array Slot} {rest st0 : List Value} {b L k : Nat} {xs : Nat → Int32}
theorem cell_ret (hx : p.tables.exec = Jvm.exec) (hb : c.code = cL_cell) (hr : meth.sig.returnType = some .int) (hlocks : meth.locks = false) {v : Int32} : W p l e (RM 0 0 0 0) s m args below meth c s.heap [] 0 0 (MQ below CQX args s 0 0 (fun _ => False)) (F0 m 27 ls [.int v]) :=
  W.iret hx hb hr (fun t ht _ => ⟨v, rfl, va_S.rf.F ht⟩) (fun _ h => by cases h) dL_cell_27 hlocks
theorem cell_body (hx : p.tables.exec = Jvm.exec) (hb : c.code = cL_cell) (hr : meth.sig.returnType = some .int) (hlocks : meth.locks = false) (hX : va_X b L xs s s.heap) (hbl : b < s.heap.size) (hL : L ≤ 260) (hk : k < 61) (hl : lv_has ls 2 [(0, .ref b), (1, .int (nI k))]) : W p l e (RM 0 0 0 0) s m args below meth c s.heap [] 0 0 (MQ below CQX args s 0 0 (fun _ => False)) (F0 m 0 ls []) := by
  refine lv_iload_n hx hb dL_cell_0 rfl (lv_at hl 1 rfl) ?_
  refine lv_aload_n hx hb dL_cell_1 rfl (lv_at hl 0 rfl) ?_
  refine va_slen (A := fun _ => False) hx hb hX hbl (fun h => h) va_S.rf dL_cell_2 ?_
  refine lv_icmp_ge (tgt := 12) hx hb dL_cell_3 (by decide) (fun z => ?_) (fun z => ?_)
  · refine lv_sipush (v := 7919) hx hb dL_cell_12 (by decide) ?_
    refine lv_iload_n hx hb dL_cell_15 rfl (lv_at hl 1 rfl) ?_
    refine lv_sipush (v := 659) hx hb dL_cell_16 (by decide) ?_
    refine lv_iadd hx hb dL_cell_19 ?_
    refine lv_imul hx hb dL_cell_20 ?_
    refine lv_iload_n hx hb dL_cell_21 rfl (lv_at hl 1 rfl) ?_
    refine lv_sipush (v := 3019) hx hb dL_cell_22 (by decide) ?_
    refine lv_iadd hx hb dL_cell_25 ?_
    refine lv_imul hx hb dL_cell_26 ?_
    exact cell_ret hx hb hr hlocks
  · have hkL : k < L := by
      by_cases q : k < L
      · exact q
      · exact absurd (nI_le (a := L) (b := k) (by omega) (by omega)) z
    refine lv_aload_n hx hb dL_cell_6 rfl (lv_at hl 0 rfl) ?_
    refine lv_iload_n hx hb dL_cell_7 rfl (lv_at hl 1 rfl) ?_
    refine va_sld (A := fun _ => False) hx hb hX hbl (fun h => h) va_S.rf (vp_in_nI hkL (by omega)) dL_cell_8 ?_
    refine lv_goto (tgt := 27) hx hb dL_cell_9 (by decide) ?_
    exact cell_ret hx hb hr hlocks
theorem c_L_cell (l : Launch) (b L : Nat) (xs : Nat → Int32) (hL : L ≤ 260) {k : Nat} (hk : k < 61) : Met l yL_cell wsL_cell (RM 0 0 0 0) (PcX b L xs [.ref b, .int (nI k)]) CQX 0 0 (fun _ => False) := by
  refine Met.ofW (cc := cL_cell) (maxL := 2) (ret := some .int) (by decide +kernel) rfl ?_
  intro p e s m args below meth c s₁ B hml hv
  obtain ⟨rfl, hbl, hX⟩ := hv
  have hl := lv_entry [Value.ref b, .int (nI k)] (n := 2) (Nat.le_of_ble_eq_true rfl)
  rw [lg_entry_eq]
  exact cell_body B.exec B.bytes B.returns B.notSynchronized hX hbl hL hk hl
theorem preX2 (X : C2 p m c cc nL s args ws own D cA ad bd meth) (S : S2 D cA ad bd F G s.heap H locs) (hX : va_X b L xs s s.heap) (hbl : b < s.heap.size) (hbA : ¬ A2 ad bd s.heap.size b) (av : List Value) : PreS s H (PcX b L xs av) av :=
  ⟨PcX_blind, fun U hU hW => ⟨rfl, by rw [hU]; exact Nat.lt_of_lt_of_le hbl S.2.2.1, by rw [hU]; exact va_X.moved hW.alike (hX.kept (S.2.2.2.1 b hbl hbA))⟩⟩
theorem t_cell (X : C2 p m c cc nL s args ws own D cA ad bd meth) (S : S2 D cA ad bd F G s.heap H locs) {a : Array Value} (hr : va_Run p l e R s m args below meth c H locs cells slots 0 0 (F0 m pc ls st0) rest (CQX a) (fun _ => False))
    (kk : ∀ (v : Int32) (H1 : Heap) (locs1 : List Loc), S2 D cA ad bd F G s.heap H1 locs1 → W p l e R s m args below meth c H1 locs1 cells slots Q (F0 m (pc + 3) ls (.int v :: rest))) : W p l e R s m args below meth c H locs cells slots Q (F0 m pc ls st0) := by
  intro T hT X9
  obtain ⟨v0, st₀, t, T', L9, h0, X', hL, e1, e2, ⟨v, hv, hF⟩, st⟩ := hr T hT X9
  cases hv
  obtain ⟨-, k2, k3⟩ := vx_keep (A1 := fun _ => False) (free := fun _ => False) h0 e1 S.2.2 (fun q _ h => False.elim h) (fun q h => False.elim h) hL hF
  obtain ⟨t2, a1, b1⟩ := kk v T'.heap (locs ++ L9) ⟨S.1.kept (fun k q hk => k2 q.1 (S.1 k q hk).lt (fun h => h)), S.2.1.kept (fun k q hk => k2 q.1 (S.2.1 k q hk).lt (fun h => h)), k3⟩ T' rfl X'
  exact ⟨t2, st t2 a1, b1⟩
end RX1
