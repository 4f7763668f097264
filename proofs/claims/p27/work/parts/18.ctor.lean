section GW2
variable {p : Program} {l : Launch} {e : Env} {R : Room} {s : State} {m : MethodId} {args : Array Value} {below : List Frame} {meth : Method} {c : Code} {cc : ByteArray} {nL : Nat} {ws : List Cond} {own : String} {D : va_G} {cA : Nat → ClassId} {A : Nat → Prop} {w : va_W} {H : Heap} {locs : List Loc} {cells slots : Nat} {Q : State → Prop} {pc : Nat} {ls : Array Slot} {rest st0 : List Value} {a : Nat}
theorem g_iast (X : Gx p m c cc nL s args ws own D cA A meth) (S : SG D A w s.heap H locs) (q0 : Nat) {n : Nat} {f : Nat → Int32} (he : w[q0]? = some (a, .inl (cA 0, n, .inl f))) {i v : Int32} {j : Nat} (hi : i = nI j) (hj : j < n) (hn : n ≤ 64) (hdg : decode cc pc = .ok (.iastore, 1))
    (kk : ∀ (H1 : Heap) (locs1 : List Loc), SG D A (w.set q0 (a, .inl (cA 0, n, .inl (upd f j v)))) s.heap H1 locs1 → W p l e R s m args below meth c H1 locs1 cells slots Q (F0 m (pc + 1) ls rest)) : W p l e R s m args below meth c H locs cells slots Q (F0 m pc ls (.int v :: .int i :: .ref a :: rest)) := by
  obtain ⟨h1, h2⟩ := in_N hi hj hn
  refine va_iast X.1.1 X.1.2.1 X.2.1.1 S.1 S.2.1 S.2.2 q0 0 he rfl h1 hdg (fun H1 locs1 hP hD hS => kk H1 locs1 ?_)
  rw [h2] at hP hD
  exact ⟨hP, hD, hS⟩
theorem g_aast (X : Gx p m c cc nL s args ws own D cA A meth) (S : SG D A w s.heap H locs) (q0 qk : Nat) {n v : Nat} {f : Nat → Option Nat} {vs : List Value} (he : w[q0]? = some (a, .inl (cA 1, n, .inr (.inr (.inr (.inr f)))))) (hv : w[qk]? = some (v, .inr (3, vs))) {i : Int32} {j : Nat} (hi : i = nI j) (hj : j < n) (hn : n ≤ 64) (hdg : decode cc pc = .ok (.aastore, 1))
    (kk : ∀ (H1 : Heap) (locs1 : List Loc), SG D A (w.set q0 (a, .inl (cA 1, n, .inr (.inr (.inr (.inr (va_up f j (some v)))))))) s.heap H1 locs1 → W p l e R s m args below meth c H1 locs1 cells slots Q (F0 m (pc + 1) ls rest)) : W p l e R s m args below meth c H locs cells slots Q (F0 m pc ls (.ref v :: .int i :: .ref a :: rest)) := by
  obtain ⟨h1, h2⟩ := in_N hi hj hn
  refine va_astq X.1.1 X.1.2.1 X.2.1.1 S.1 S.2.1 S.2.2 q0 1 qk 3 (r := (RX3, TX3, 11)) he rfl hv rfl h1 hdg (fun H1 locs1 hP hD hS => kk H1 locs1 ?_)
  rw [h2] at hP hD
  exact ⟨hP, hD, hS⟩
theorem g_leni (X : Gx p m c cc nL s args ws own D cA A meth) (S : SG D A w s.heap H locs) (q0 : Nat) {n : Nat} {f : Nat → Int32} (he : w[q0]? = some (a, .inl (cA 0, n, .inl f))) (hdg : decode cc pc = .ok (.arraylength, 1))
    (kk : W p l e R s m args below meth c H locs cells slots Q (F0 m (pc + 1) ls (.int (nI n) :: rest))) : W p l e R s m args below meth c H locs cells slots Q (F0 m pc ls (.ref a :: rest)) :=
  va_alen X.1.1 X.1.2.1 X.2.1.1 S.1 q0 0 he rfl rfl hdg kk
theorem g_lens (X : Gx p m c cc nL s args ws own D cA A meth) (S : SG D A w s.heap H locs) (q0 : Nat) {f : Nat → Option Nat} (he : w[q0]? = some (a, .inl (cA 1, 4, .inr (.inr (.inr (.inr f)))))) (hdg : decode cc pc = .ok (.arraylength, 1))
    (kk : W p l e R s m args below meth c H locs cells slots Q (F0 m (pc + 1) ls (.int 4 :: rest))) : W p l e R s m args below meth c H locs cells slots Q (F0 m pc ls (.ref a :: rest)) :=
  va_alen X.1.1 X.1.2.1 X.2.1.1 S.1 q0 1 he rfl rfl hdg kk
end GW2
theorem g_perm {D : va_G} {A : Nat → Prop} {w w' : va_W} {H0 H : Heap} {locs : List Loc} (S : SG D A w H0 H locs) (is : List Nat) (hn : va_nd is = true) (hs : is.filterMap (fun i => w[i]?) = w') (hs2 : is.map (fun i => w[i]?) = w'.map some) : SG D A w' H0 H locs := ⟨S.1.sub is hs, S.2.1.sub is hn hs2, S.2.2⟩
def filF (f : Nat → Int32) (v : Int32) (j : Nat) : Nat → Int32 := fun z => if z < j then v else f z
theorem filF_0 (f : Nat → Int32) (v : Int32) : filF f v 0 = f := by funext z; simp [filF]
theorem filF_s (f : Nat → Int32) (v : Int32) (j : Nat) : upd (filF f v j) j v = filF f v (j + 1) := by
  funext z
  by_cases h : z = j
  · subst h; simp [upd, filF]
  · by_cases h2 : z < j
    · simp [upd, filF, h, h2, show z < j + 1 by omega]
    · simp [upd, filF, h, h2, show ¬ z < j + 1 by omega]
set_option maxHeartbeats 1000000 in
set_option maxRecDepth 100000 in
theorem k_fill (l : Launch) (D : va_G) (cA : Nat → ClassId) (sz : Nat) (k n : Nat) (hn : n ≤ 64) (f : Nat → Int32) (v : Int32) : CG l D cA sz yJ7_fill_53178 wsJ7_fill_53178 0 0 0 0 [.ref k, .int v] [(k, .inl (cA 0, n, .inl f))] (fun _ => [(k, .inl (cA 0, n, .inl (filF f v n)))]) := by
  refine CG_of (own := RJ7) (cc := cJ7_fill_53178) (maxL := 4) (ret := none) (by decide +kernel) rfl rfl (Nat.le_of_ble_eq_true rfl) ?_
  intro p e s m below meth c ls A hAe X S hin hr hl
  obtain ⟨⟨hx, hb, hml, hown, hts⟩, hE, hlocks, hA⟩ := id X
  have hl : lv_has ls 4 [(0, .ref k), (1, .int v)] := hl
  have loop : ∀ (d j : Nat), j + d = n → ∀ (H : Heap) (locs : List Loc) (ls : Array Slot), SG D A [(k, .inl (cA 0, n, .inl (filF f v j)))] s.heap H locs → lv_has ls 4 [(0, .ref k), (1, .int v), (2, .int (nI j)), (3, .int (nI n))] → W p l e (RM 0 0 0 0) s m [.ref k, .int v].toArray below meth c H locs 0 0 (MQ below (CQG D [(k, .inl (cA 0, n, .inl f))] s.heap.size (fun _ => [(k, .inl (cA 0, n, .inl (filF f v n)))])) [.ref k, .int v].toArray s 0 0 (va_A [(k, .inl (cA 0, n, .inl f))] s.heap.size)) (F0 m 5 ls []) := by
    intro d
    induction d with
    | zero =>
      intro j hj H locs ls S hl
      obtain rfl : j = n := by omega
      refine lv_iload_n hx hb dJ7_fill_53178_5 rfl (lv_at hl 2 rfl) ?_
      refine lv_iload_n hx hb dJ7_fill_53178_6 rfl (lv_at hl 3 rfl) ?_
      refine lv_icmp_ge (tgt := 20) hx hb dJ7_fill_53178_7 (by decide) (fun _ => ?_) (fun z => False.elim (z (Int32.le_refl _)))
      exact g_vret X hAe S hr dJ7_fill_53178_20 (Nat.le_of_ble_eq_true rfl) (Nat.le_of_ble_eq_true rfl) (fun _ => 0) rfl
    | succ d ih =>
      intro j hj H locs ls S hl
      refine lv_iload_n hx hb dJ7_fill_53178_5 rfl (lv_at hl 2 rfl) ?_
      refine lv_iload_n hx hb dJ7_fill_53178_6 rfl (lv_at hl 3 rfl) ?_
      refine lv_icmp_ge (tgt := 20) hx hb dJ7_fill_53178_7 (by decide) (fun z => False.elim (nI_ge (a := j) (b := n) (by omega) (by omega) z)) (fun _ => ?_)
      refine lv_aload_n hx hb dJ7_fill_53178_10 rfl (lv_at hl 0 rfl) ?_
      refine lv_iload_n hx hb dJ7_fill_53178_11 rfl (lv_at hl 2 rfl) ?_
      refine lv_iload_n hx hb dJ7_fill_53178_12 rfl (lv_at hl 1 rfl) ?_
      refine g_iast X S 0 rfl (j := j) rfl (by omega) hn dJ7_fill_53178_13 (fun H locs S => ?_)
      have S : SG D A [(k, .inl (cA 0, n, .inl (filF f v (j + 1))))] s.heap H locs := by rw [← filF_s]; exact S
      refine lv_iinc (v := nI (j + 1)) (lv' := [(2, .int (nI (j + 1))), (0, .ref k), (1, .int v), (3, .int (nI n))]) hx hb dJ7_fill_53178_14 hl (k := 2) rfl (nI_add _ _) (by decide) rfl (fun ls hl => ?_)
      refine lv_goto (tgt := 5) hx hb dJ7_fill_53178_17 (by decide) ?_
      exact ih (j + 1) (by omega) H locs ls S (lv_sub hl [1, 2, 0, 3] rfl)
  refine lv_iconst (v := 0) hx hb dJ7_fill_53178_0 (by decide) ?_
  refine lv_istore_n (lv' := [(2, .int 0), (0, .ref k), (1, .int v)]) hx hb dJ7_fill_53178_1 rfl hl (by decide) rfl (fun ls hl => ?_)
  refine lv_aload_n hx hb dJ7_fill_53178_2 rfl (lv_at hl 1 rfl) ?_
  refine g_leni X S 0 rfl dJ7_fill_53178_3 ?_
  refine lv_istore_n (lv' := [(3, .int (nI n)), (2, .int 0), (0, .ref k), (1, .int v)]) hx hb dJ7_fill_53178_4 rfl hl (by decide) rfl (fun ls hl => ?_)
  exact loop n 0 (by omega) _ _ ls (by rw [filF_0]; exact S) (lv_sub hl [2, 3, 1, 0] (by rw [nI_0]; rfl))
/-- a new student, with what it has -/
def stC (cA : Nat → ClassId) (h0 : Nat) (q : Nat → Nat) : va_W := [(h0, .inr (3, [.ref (q 1), .ref (q 3), .ref (q 7), .int 0, .int 1, .int 0, .int 0, .int 0, .int 0, .int 0, .int 0])), (q 1, .inr (1, [.ref (q 2), .int 0, .int 0])), (q 2, .inl (cA 0, 8, .inl (fun _ => 0))), (q 3, .inr (0, [.ref (q 4), .ref (q 5), .ref (q 6), .int 0])), (q 4, .inl (cA 0, 6, .inl (fun _ => 0))), (q 5, .inl (cA 0, 6, .inl (fun _ => 0))), (q 6, .inl (cA 0, 6, .inl (fun _ => 0))), (q 7, .inr (2, [.int 0, .int 0, .int 0, .int 0, .int 0]))]
set_option maxHeartbeats 400000 in
set_option maxRecDepth 100000 in
theorem k_X1_init (l : Launch) (D : va_G) (cA : Nat → ClassId) (sz : Nat) (h0 : Nat) : CG l D cA sz yX1_init wsX1_init 1 12 1 8 [.ref h0] [(h0, .inr (1, [.null, .int 0, .int 0]))] (fun q => [(h0, .inr (1, [.ref (q 0), .int 0, .int 0])), ((q 0), .inl (cA 0, 8, .inl (fun _ => 0)))]) := by
  refine CG_of (own := RX1) (cc := cX1_init) (maxL := 1) (ret := none) (by decide +kernel) rfl rfl (Nat.le_of_ble_eq_true rfl) ?_
  intro p e s m below meth c ls A hAe X S hin hr hl
  obtain ⟨⟨hx, hb, hml, hown, hts⟩, hE, hlocks, hA⟩ := id X
  have hl : lv_has ls 1 [(0, .ref h0)] := hl
  have hw1 : ∀ w ∈ wsX10, w.before _ s = true := fun w h => hts w ((by decide +kernel : ∀ w ∈ wsX10, w ∈ wsX1_init) w h)
  refine lv_aload_n hx hb dX1_init_0 rfl (lv_at hl 0 rfl) ?_
  refine W.objInit hx hb hown (hts (.methodLink RX1 3 objectInit) (by decide +kernel)) (hts (.instanceMethod objectInit) (by decide +kernel)) (hts _ (by decide +kernel)) rfl (by rw [hml]; exact hl.1) rfl dX1_init_1 (Nat.le_of_ble_eq_true rfl) (Nat.le_of_ble_eq_true rfl) ?_
  refine W.eq (g2 := F0 m 4 ls []) rfl ?_
  refine lv_aload_n hx hb dX1_init_4 rfl (lv_at hl 0 rfl) ?_
  refine lv_bipush (v := 8) hx hb dX1_init_5 (by decide) ?_
  refine g_newi X S (hts (.arrayClass .int) (by decide +kernel)) (by decide) (N' := 8) (by decide) (by decide) (Nat.le_of_ble_eq_true rfl) (Nat.le_of_ble_eq_true rfl) dX1_init_7 (fun q1 H S => ?_)
  refine W.widen (k := 1) (n := 8) (Nat.le_of_ble_eq_true rfl) (Nat.le_of_ble_eq_true rfl) ?_
  have S : SG D A ([(h0, .inr (1, [.null, .int 0, .int 0])), (q1, .inl (cA 0, 8, .inl (fun _ => 0)))]) s.heap H _ := S
  refine g_putF X S hin hw1 tyX1 tyX1_ok nmX1 0 rfl rfl 0 ⟨by decide, by simp⟩ (hts (.fieldLink RX1 9 "TermBill$Courses" "creditsByCourse" "[I") (by decide +kernel)) rfl rfl rfl rfl dX1_init_9 (fun H locs S => ?_)
  have S : SG D A ([(h0, .inr (1, [.ref q1, .int 0, .int 0])), (q1, .inl (cA 0, 8, .inl (fun _ => 0)))]) s.heap H _ := S
  refine lv_aload_n hx hb dX1_init_12 rfl (lv_at hl 0 rfl) ?_
  refine lv_iconst (v := 0) hx hb dX1_init_13 (by decide) ?_
  refine g_put X S hw1 tyX1 tyX1_ok nmX1 0 rfl rfl 1 ⟨by decide, by simp⟩ (hts (.fieldLink RX1 15 "TermBill$Courses" "taken" "I") (by decide +kernel)) rfl rfl rfl dX1_init_14 (fun H locs S => ?_)
  have S : SG D A ([(h0, .inr (1, [.ref q1, .int 0, .int 0])), (q1, .inl (cA 0, 8, .inl (fun _ => 0)))]) s.heap H _ := S
  refine lv_aload_n hx hb dX1_init_17 rfl (lv_at hl 0 rfl) ?_
  refine lv_iconst (v := 0) hx hb dX1_init_18 (by decide) ?_
  refine g_put X S hw1 tyX1 tyX1_ok nmX1 0 rfl rfl 2 ⟨by decide, by simp⟩ (hts (.fieldLink RX1 19 "TermBill$Courses" "keptSum" "I") (by decide +kernel)) rfl rfl rfl dX1_init_19 (fun H locs S => ?_)
  have S : SG D A ([(h0, .inr (1, [.ref q1, .int 0, .int 0])), (q1, .inl (cA 0, 8, .inl (fun _ => 0)))]) s.heap H _ := S
  exact g_vret X hAe S hr dX1_init_22 (Nat.le_of_ble_eq_true rfl) (Nat.le_of_ble_eq_true rfl) (fun k => [q1].getD k 0) rfl

set_option maxHeartbeats 400000 in
set_option maxRecDepth 100000 in
theorem k_X0_init (l : Launch) (D : va_G) (cA : Nat → ClassId) (sz : Nat) (h0 : Nat) : CG l D cA sz yX0_init wsX0_init 1 12 3 18 [.ref h0] [(h0, .inr (0, [.null, .null, .null, .int 0]))] (fun q => [(h0, .inr (0, [.ref (q 0), .ref (q 1), .ref (q 2), .int 0])), ((q 0), .inl (cA 0, 6, .inl (fun _ => 0))), ((q 1), .inl (cA 0, 6, .inl (fun _ => 0))), ((q 2), .inl (cA 0, 6, .inl (fun _ => 0)))]) := by
  refine CG_of (own := RX0) (cc := cX0_init) (maxL := 1) (ret := none) (by decide +kernel) rfl rfl (Nat.le_of_ble_eq_true rfl) ?_
  intro p e s m below meth c ls A hAe X S hin hr hl
  obtain ⟨⟨hx, hb, hml, hown, hts⟩, hE, hlocks, hA⟩ := id X
  have hl : lv_has ls 1 [(0, .ref h0)] := hl
  have hw0 : ∀ w ∈ wsX00, w.before _ s = true := fun w h => hts w ((by decide +kernel : ∀ w ∈ wsX00, w ∈ wsX0_init) w h)
  refine lv_aload_n hx hb dX0_init_0 rfl (lv_at hl 0 rfl) ?_
  refine W.objInit hx hb hown (hts (.methodLink RX0 3 objectInit) (by decide +kernel)) (hts (.instanceMethod objectInit) (by decide +kernel)) (hts _ (by decide +kernel)) rfl (by rw [hml]; exact hl.1) rfl dX0_init_1 (Nat.le_of_ble_eq_true rfl) (Nat.le_of_ble_eq_true rfl) ?_
  refine W.eq (g2 := F0 m 4 ls []) rfl ?_
  refine lv_aload_n hx hb dX0_init_4 rfl (lv_at hl 0 rfl) ?_
  refine lv_bipush (v := 6) hx hb dX0_init_5 (by decide) ?_
  refine g_newi X S (hts (.arrayClass .int) (by decide +kernel)) (by decide) (N' := 6) (by decide) (by decide) (Nat.le_of_ble_eq_true rfl) (Nat.le_of_ble_eq_true rfl) dX0_init_7 (fun q1 H S => ?_)
  refine W.widen (k := 1) (n := 6) (Nat.le_of_ble_eq_true rfl) (Nat.le_of_ble_eq_true rfl) ?_
  have S : SG D A ([(h0, .inr (0, [.null, .null, .null, .int 0])), (q1, .inl (cA 0, 6, .inl (fun _ => 0)))]) s.heap H _ := S
  refine g_putF X S hin hw0 tyX0 tyX0_ok nmX0 0 rfl rfl 0 ⟨by decide, by simp⟩ (hts (.fieldLink RX0 9 "TermBill$Aid" "ranks" "[I") (by decide +kernel)) rfl rfl rfl rfl dX0_init_9 (fun H locs S => ?_)
  have S : SG D A ([(h0, .inr (0, [.ref q1, .null, .null, .int 0])), (q1, .inl (cA 0, 6, .inl (fun _ => 0)))]) s.heap H _ := S
  refine lv_aload_n hx hb dX0_init_12 rfl (lv_at hl 0 rfl) ?_
  refine lv_bipush (v := 6) hx hb dX0_init_13 (by decide) ?_
  refine g_newi X S (hts (.arrayClass .int) (by decide +kernel)) (by decide) (N' := 6) (by decide) (by decide) (Nat.le_of_ble_eq_true rfl) (Nat.le_of_ble_eq_true rfl) dX0_init_15 (fun q2 H S => ?_)
  refine W.widen (k := 2) (n := 12) (Nat.le_of_ble_eq_true rfl) (Nat.le_of_ble_eq_true rfl) ?_
  have S : SG D A ([(h0, .inr (0, [.ref q1, .null, .null, .int 0])), (q1, .inl (cA 0, 6, .inl (fun _ => 0))), (q2, .inl (cA 0, 6, .inl (fun _ => 0)))]) s.heap H _ := S
  refine g_putF X S hin hw0 tyX0 tyX0_ok nmX0 0 rfl rfl 1 ⟨by decide, by simp⟩ (hts (.fieldLink RX0 15 "TermBill$Aid" "amounts" "[I") (by decide +kernel)) rfl rfl rfl rfl dX0_init_17 (fun H locs S => ?_)
  have S : SG D A ([(h0, .inr (0, [.ref q1, .ref q2, .null, .int 0])), (q1, .inl (cA 0, 6, .inl (fun _ => 0))), (q2, .inl (cA 0, 6, .inl (fun _ => 0)))]) s.heap H _ := S
  refine lv_aload_n hx hb dX0_init_20 rfl (lv_at hl 0 rfl) ?_
  refine lv_bipush (v := 6) hx hb dX0_init_21 (by decide) ?_
  refine g_newi X S (hts (.arrayClass .int) (by decide +kernel)) (by decide) (N' := 6) (by decide) (by decide) (Nat.le_of_ble_eq_true rfl) (Nat.le_of_ble_eq_true rfl) dX0_init_23 (fun q3 H S => ?_)
  refine W.widen (k := 3) (n := 18) (Nat.le_of_ble_eq_true rfl) (Nat.le_of_ble_eq_true rfl) ?_
  have S : SG D A ([(h0, .inr (0, [.ref q1, .ref q2, .null, .int 0])), (q1, .inl (cA 0, 6, .inl (fun _ => 0))), (q2, .inl (cA 0, 6, .inl (fun _ => 0))), (q3, .inl (cA 0, 6, .inl (fun _ => 0)))]) s.heap H _ := S
  refine g_putF X S hin hw0 tyX0 tyX0_ok nmX0 0 rfl rfl 2 ⟨by decide, by simp⟩ (hts (.fieldLink RX0 18 "TermBill$Aid" "uses" "[I") (by decide +kernel)) rfl rfl rfl rfl dX0_init_25 (fun H locs S => ?_)
  have S : SG D A ([(h0, .inr (0, [.ref q1, .ref q2, .ref q3, .int 0])), (q1, .inl (cA 0, 6, .inl (fun _ => 0))), (q2, .inl (cA 0, 6, .inl (fun _ => 0))), (q3, .inl (cA 0, 6, .inl (fun _ => 0)))]) s.heap H _ := S
  refine lv_aload_n hx hb dX0_init_28 rfl (lv_at hl 0 rfl) ?_
  refine lv_iconst (v := 0) hx hb dX0_init_29 (by decide) ?_
  refine g_put X S hw0 tyX0 tyX0_ok nmX0 0 rfl rfl 3 ⟨by decide, by simp⟩ (hts (.fieldLink RX0 21 "TermBill$Aid" "many" "I") (by decide +kernel)) rfl rfl rfl dX0_init_30 (fun H locs S => ?_)
  have S : SG D A ([(h0, .inr (0, [.ref q1, .ref q2, .ref q3, .int 0])), (q1, .inl (cA 0, 6, .inl (fun _ => 0))), (q2, .inl (cA 0, 6, .inl (fun _ => 0))), (q3, .inl (cA 0, 6, .inl (fun _ => 0)))]) s.heap H _ := S
  exact g_vret X hAe S hr dX0_init_33 (Nat.le_of_ble_eq_true rfl) (Nat.le_of_ble_eq_true rfl) (fun k => [q1, q2, q3].getD k 0) rfl

set_option maxHeartbeats 400000 in
set_option maxRecDepth 100000 in
theorem k_X2_init (l : Launch) (D : va_G) (cA : Nat → ClassId) (sz : Nat) (h0 : Nat) : CG l D cA sz yX2_init wsX2_init 1 12 0 0 [.ref h0] [(h0, .inr (2, [.int 0, .int 0, .int 0, .int 0, .int 0]))] (fun q => [(h0, .inr (2, [.int 0, .int 0, .int 0, .int 0, .int 0]))]) := by
  refine CG_of (own := RX2) (cc := cX2_init) (maxL := 1) (ret := none) (by decide +kernel) rfl rfl (Nat.le_of_ble_eq_true rfl) ?_
  intro p e s m below meth c ls A hAe X S hin hr hl
  obtain ⟨⟨hx, hb, hml, hown, hts⟩, hE, hlocks, hA⟩ := id X
  have hl : lv_has ls 1 [(0, .ref h0)] := hl
  have hw2 : ∀ w ∈ wsX20, w.before _ s = true := fun w h => hts w ((by decide +kernel : ∀ w ∈ wsX20, w ∈ wsX2_init) w h)
  refine lv_aload_n hx hb dX2_init_0 rfl (lv_at hl 0 rfl) ?_
  refine W.objInit hx hb hown (hts (.methodLink RX2 3 objectInit) (by decide +kernel)) (hts (.instanceMethod objectInit) (by decide +kernel)) (hts _ (by decide +kernel)) rfl (by rw [hml]; exact hl.1) rfl dX2_init_1 (Nat.le_of_ble_eq_true rfl) (Nat.le_of_ble_eq_true rfl) ?_
  refine W.eq (g2 := F0 m 4 ls []) rfl ?_
  refine lv_aload_n hx hb dX2_init_4 rfl (lv_at hl 0 rfl) ?_
  refine lv_iconst (v := 0) hx hb dX2_init_5 (by decide) ?_
  refine g_put X S hw2 tyX2 tyX2_ok nmX2 0 rfl rfl 0 ⟨by decide, by simp⟩ (hts (.fieldLink RX2 9 "TermBill$Instalments" "madeAt" "I") (by decide +kernel)) rfl rfl rfl dX2_init_6 (fun H locs S => ?_)
  have S : SG D A ([(h0, .inr (2, [.int 0, .int 0, .int 0, .int 0, .int 0]))]) s.heap H _ := S
  refine lv_aload_n hx hb dX2_init_9 rfl (lv_at hl 0 rfl) ?_
  refine lv_iconst (v := 0) hx hb dX2_init_10 (by decide) ?_
  refine g_put X S hw2 tyX2 tyX2_ok nmX2 0 rfl rfl 1 ⟨by decide, by simp⟩ (hts (.fieldLink RX2 15 "TermBill$Instalments" "many" "I") (by decide +kernel)) rfl rfl rfl dX2_init_11 (fun H locs S => ?_)
  have S : SG D A ([(h0, .inr (2, [.int 0, .int 0, .int 0, .int 0, .int 0]))]) s.heap H _ := S
  refine lv_aload_n hx hb dX2_init_14 rfl (lv_at hl 0 rfl) ?_
  refine lv_iconst (v := 0) hx hb dX2_init_15 (by decide) ?_
  refine g_put X S hw2 tyX2 tyX2_ok nmX2 0 rfl rfl 2 ⟨by decide, by simp⟩ (hts (.fieldLink RX2 18 "TermBill$Instalments" "first" "I") (by decide +kernel)) rfl rfl rfl dX2_init_16 (fun H locs S => ?_)
  have S : SG D A ([(h0, .inr (2, [.int 0, .int 0, .int 0, .int 0, .int 0]))]) s.heap H _ := S
  refine lv_aload_n hx hb dX2_init_19 rfl (lv_at hl 0 rfl) ?_
  refine lv_iconst (v := 0) hx hb dX2_init_20 (by decide) ?_
  refine g_put X S hw2 tyX2 tyX2_ok nmX2 0 rfl rfl 3 ⟨by decide, by simp⟩ (hts (.fieldLink RX2 21 "TermBill$Instalments" "each" "I") (by decide +kernel)) rfl rfl rfl dX2_init_21 (fun H locs S => ?_)
  have S : SG D A ([(h0, .inr (2, [.int 0, .int 0, .int 0, .int 0, .int 0]))]) s.heap H _ := S
  refine lv_aload_n hx hb dX2_init_24 rfl (lv_at hl 0 rfl) ?_
  refine lv_iconst (v := 0) hx hb dX2_init_25 (by decide) ?_
  refine g_put X S hw2 tyX2 tyX2_ok nmX2 0 rfl rfl 4 ⟨by decide, by simp⟩ (hts (.fieldLink RX2 24 "TermBill$Instalments" "paidSince" "I") (by decide +kernel)) rfl rfl rfl dX2_init_26 (fun H locs S => ?_)
  have S : SG D A ([(h0, .inr (2, [.int 0, .int 0, .int 0, .int 0, .int 0]))]) s.heap H _ := S
  exact g_vret X hAe S hr dX2_init_29 (Nat.le_of_ble_eq_true rfl) (Nat.le_of_ble_eq_true rfl) (fun k => [0].getD k 0) rfl

set_option maxHeartbeats 400000 in
set_option maxRecDepth 100000 in
theorem k_X3_init (l : Launch) (D : va_G) (cA : Nat → ClassId) (sz : Nat) (h0 : Nat) : CG l D cA sz yX3_init wsX3_init 2 32 7 38 [.ref h0] [(h0, .inr (3, [.null, .null, .null, .int 0, .int 0, .int 0, .int 0, .int 0, .int 0, .int 0, .int 0]))] (stC cA h0) := by
  refine CG_of (own := RX3) (cc := cX3_init) (maxL := 1) (ret := none) (by decide +kernel) rfl rfl (Nat.le_of_ble_eq_true rfl) ?_
  intro p e s m below meth c ls A hAe X S hin hr hl
  obtain ⟨⟨hx, hb, hml, hown, hts⟩, hE, hlocks, hA⟩ := id X
  have hl : lv_has ls 1 [(0, .ref h0)] := hl
  have hw0 : ∀ w ∈ wsX00, w.before _ s = true := fun w h => hts w ((by decide +kernel : ∀ w ∈ wsX00, w ∈ wsX3_init) w h)
  have hw1 : ∀ w ∈ wsX10, w.before _ s = true := fun w h => hts w ((by decide +kernel : ∀ w ∈ wsX10, w ∈ wsX3_init) w h)
  have hw2 : ∀ w ∈ wsX20, w.before _ s = true := fun w h => hts w ((by decide +kernel : ∀ w ∈ wsX20, w ∈ wsX3_init) w h)
  have hw3 : ∀ w ∈ wsX30, w.before _ s = true := fun w h => hts w ((by decide +kernel : ∀ w ∈ wsX30, w ∈ wsX3_init) w h)
  refine lv_aload_n hx hb dX3_init_0 rfl (lv_at hl 0 rfl) ?_
  refine W.objInit hx hb hown (hts (.methodLink RX3 1 objectInit) (by decide +kernel)) (hts (.instanceMethod objectInit) (by decide +kernel)) (hts _ (by decide +kernel)) rfl (by rw [hml]; exact hl.1) rfl dX3_init_1 (Nat.le_of_ble_eq_true rfl) (Nat.le_of_ble_eq_true rfl) ?_
  refine W.eq (g2 := F0 m 4 ls []) rfl ?_
  refine lv_aload_n hx hb dX3_init_4 rfl (lv_at hl 0 rfl) ?_
  refine g_new (ci := 1) (fs := [.null, .int 0, .int 0]) X S hw1 tyX1 tyX1_ok (hts (.classLink RX3 7 RX1) (by decide +kernel)) (hts (.instantiable RX1 3) (by decide +kernel)) (hts (.initialized RX1) (by decide +kernel)) rfl (by decide +kernel) (Nat.le_of_ble_eq_true rfl) (Nat.le_of_ble_eq_true rfl) dX3_init_5 (fun q1 H S => ?_)
  refine W.widen (k := 1) (n := 3) (Nat.le_of_ble_eq_true rfl) (Nat.le_of_ble_eq_true rfl) ?_
  have S : SG D A (([(h0, .inr (3, [.null, .null, .null, .int 0, .int 0, .int 0, .int 0, .int 0, .int 0, .int 0, .int 0]))]) ++ [(q1, .inr (1, [.null, .int 0, .int 0]))]) s.heap H _ := S
  refine lv_dup hx hb dX3_init_8 rfl ?_
  refine g_call X S (va_runIN (As := []) (rest := [.ref q1, .ref h0]) X.1 (k_X1_init l D cA _ q1) ⟨va_cnB 0 hts gX3_init_X1_init_n9 rfl rfl rfl X.2.1.2.1 (hts (.initialized RX1) (by decide +kernel)) (by decide +kernel) ⟨Nat.le_of_ble_eq_true rfl, Nat.le_of_ble_eq_true rfl⟩, rfl, (hts (.instanceMethod yX1_init) (by decide +kernel))⟩ (g_pre X S [.ref q1]) rfl rfl hl.1 rfl (lv_room (Nat.le_of_ble_eq_true rfl)) dX3_init_9 ⟨Nat.le_of_ble_eq_true rfl, Nat.le_of_ble_eq_true rfl⟩) (fun qa2 H locs S => ?_)
  refine W.widen (k := 2) (n := 11) (Nat.le_of_ble_eq_true rfl) (Nat.le_of_ble_eq_true rfl) ?_
  have S : SG D A ([(h0, .inr (3, [.null, .null, .null, .int 0, .int 0, .int 0, .int 0, .int 0, .int 0, .int 0, .int 0])), (q1, .inr (1, [.ref (qa2 0), .int 0, .int 0])), ((qa2 0), .inl (cA 0, 8, .inl (fun _ => 0)))]) s.heap H _ := S
  refine g_putF X S hin hw3 tyX3 tyX3_ok nmX3 0 rfl rfl 0 ⟨by decide, by simp⟩ (hts (.fieldLink RX3 10 "TermBill$Student" "courses" "LTermBill$Courses;") (by decide +kernel)) rfl rfl rfl rfl dX3_init_12 (fun H locs S => ?_)
  have S : SG D A ([(h0, .inr (3, [.ref q1, .null, .null, .int 0, .int 0, .int 0, .int 0, .int 0, .int 0, .int 0, .int 0])), (q1, .inr (1, [.ref (qa2 0), .int 0, .int 0])), ((qa2 0), .inl (cA 0, 8, .inl (fun _ => 0)))]) s.heap H _ := S
  refine lv_aload_n hx hb dX3_init_15 rfl (lv_at hl 0 rfl) ?_
  refine g_new (ci := 0) (fs := [.null, .null, .null, .int 0]) X S hw0 tyX0 tyX0_ok (hts (.classLink RX3 16 RX0) (by decide +kernel)) (hts (.instantiable RX0 4) (by decide +kernel)) (hts (.initialized RX0) (by decide +kernel)) rfl (by decide +kernel) (Nat.le_of_ble_eq_true rfl) (Nat.le_of_ble_eq_true rfl) dX3_init_16 (fun q3 H S => ?_)
  refine W.widen (k := 3) (n := 15) (Nat.le_of_ble_eq_true rfl) (Nat.le_of_ble_eq_true rfl) ?_
  have S : SG D A (([(h0, .inr (3, [.ref q1, .null, .null, .int 0, .int 0, .int 0, .int 0, .int 0, .int 0, .int 0, .int 0])), (q1, .inr (1, [.ref (qa2 0), .int 0, .int 0])), ((qa2 0), .inl (cA 0, 8, .inl (fun _ => 0)))]) ++ [(q3, .inr (0, [.null, .null, .null, .int 0]))]) s.heap H _ := S
  refine lv_dup hx hb dX3_init_19 rfl ?_
  refine g_call X S (va_runIN (As := []) (rest := [.ref q3, .ref h0]) X.1 (k_X0_init l D cA _ q3) ⟨va_cnB 0 hts gX3_init_X0_init_n18 rfl rfl rfl X.2.1.2.2.1 (hts (.initialized RX0) (by decide +kernel)) (by decide +kernel) ⟨Nat.le_of_ble_eq_true rfl, Nat.le_of_ble_eq_true rfl⟩, rfl, (hts (.instanceMethod yX0_init) (by decide +kernel))⟩ (g_pre X S [.ref q3]) rfl rfl hl.1 rfl (lv_room (Nat.le_of_ble_eq_true rfl)) dX3_init_20 ⟨Nat.le_of_ble_eq_true rfl, Nat.le_of_ble_eq_true rfl⟩) (fun qa4 H locs S => ?_)
  refine W.widen (k := 6) (n := 33) (Nat.le_of_ble_eq_true rfl) (Nat.le_of_ble_eq_true rfl) ?_
  have S : SG D A ([(h0, .inr (3, [.ref q1, .null, .null, .int 0, .int 0, .int 0, .int 0, .int 0, .int 0, .int 0, .int 0])), (q1, .inr (1, [.ref (qa2 0), .int 0, .int 0])), ((qa2 0), .inl (cA 0, 8, .inl (fun _ => 0))), (q3, .inr (0, [.ref (qa4 0), .ref (qa4 1), .ref (qa4 2), .int 0])), ((qa4 0), .inl (cA 0, 6, .inl (fun _ => 0))), ((qa4 1), .inl (cA 0, 6, .inl (fun _ => 0))), ((qa4 2), .inl (cA 0, 6, .inl (fun _ => 0)))]) s.heap H _ := S
  refine g_putF X S hin hw3 tyX3 tyX3_ok nmX3 0 rfl rfl 1 ⟨by decide, by simp⟩ (hts (.fieldLink RX3 19 "TermBill$Student" "aid" "LTermBill$Aid;") (by decide +kernel)) rfl rfl rfl rfl dX3_init_23 (fun H locs S => ?_)
  have S : SG D A ([(h0, .inr (3, [.ref q1, .ref q3, .null, .int 0, .int 0, .int 0, .int 0, .int 0, .int 0, .int 0, .int 0])), (q1, .inr (1, [.ref (qa2 0), .int 0, .int 0])), ((qa2 0), .inl (cA 0, 8, .inl (fun _ => 0))), (q3, .inr (0, [.ref (qa4 0), .ref (qa4 1), .ref (qa4 2), .int 0])), ((qa4 0), .inl (cA 0, 6, .inl (fun _ => 0))), ((qa4 1), .inl (cA 0, 6, .inl (fun _ => 0))), ((qa4 2), .inl (cA 0, 6, .inl (fun _ => 0)))]) s.heap H _ := S
  refine lv_aload_n hx hb dX3_init_26 rfl (lv_at hl 0 rfl) ?_
  refine g_new (ci := 2) (fs := [.int 0, .int 0, .int 0, .int 0, .int 0]) X S hw2 tyX2 tyX2_ok (hts (.classLink RX3 23 RX2) (by decide +kernel)) (hts (.instantiable RX2 5) (by decide +kernel)) (hts (.initialized RX2) (by decide +kernel)) rfl (by decide +kernel) (Nat.le_of_ble_eq_true rfl) (Nat.le_of_ble_eq_true rfl) dX3_init_27 (fun q5 H S => ?_)
  refine W.widen (k := 7) (n := 38) (Nat.le_of_ble_eq_true rfl) (Nat.le_of_ble_eq_true rfl) ?_
  have S : SG D A (([(h0, .inr (3, [.ref q1, .ref q3, .null, .int 0, .int 0, .int 0, .int 0, .int 0, .int 0, .int 0, .int 0])), (q1, .inr (1, [.ref (qa2 0), .int 0, .int 0])), ((qa2 0), .inl (cA 0, 8, .inl (fun _ => 0))), (q3, .inr (0, [.ref (qa4 0), .ref (qa4 1), .ref (qa4 2), .int 0])), ((qa4 0), .inl (cA 0, 6, .inl (fun _ => 0))), ((qa4 1), .inl (cA 0, 6, .inl (fun _ => 0))), ((qa4 2), .inl (cA 0, 6, .inl (fun _ => 0)))]) ++ [(q5, .inr (2, [.int 0, .int 0, .int 0, .int 0, .int 0]))]) s.heap H _ := S
  refine lv_dup hx hb dX3_init_30 rfl ?_
  refine g_call X S (va_runIN (As := []) (rest := [.ref q5, .ref h0]) X.1 (k_X2_init l D cA _ q5) ⟨va_cnB 0 hts gX3_init_X2_init_n25 rfl rfl rfl X.2.1.2.2.2.1 (hts (.initialized RX2) (by decide +kernel)) (by decide +kernel) ⟨Nat.le_of_ble_eq_true rfl, Nat.le_of_ble_eq_true rfl⟩, rfl, (hts (.instanceMethod yX2_init) (by decide +kernel))⟩ (g_pre X S [.ref q5]) rfl rfl hl.1 rfl (lv_room (Nat.le_of_ble_eq_true rfl)) dX3_init_31 ⟨Nat.le_of_ble_eq_true rfl, Nat.le_of_ble_eq_true rfl⟩) (fun qa6 H locs S => ?_)
  refine W.widen (k := 7) (n := 38) (Nat.le_of_ble_eq_true rfl) (Nat.le_of_ble_eq_true rfl) ?_
  have S : SG D A ([(h0, .inr (3, [.ref q1, .ref q3, .null, .int 0, .int 0, .int 0, .int 0, .int 0, .int 0, .int 0, .int 0])), (q1, .inr (1, [.ref (qa2 0), .int 0, .int 0])), ((qa2 0), .inl (cA 0, 8, .inl (fun _ => 0))), (q3, .inr (0, [.ref (qa4 0), .ref (qa4 1), .ref (qa4 2), .int 0])), ((qa4 0), .inl (cA 0, 6, .inl (fun _ => 0))), ((qa4 1), .inl (cA 0, 6, .inl (fun _ => 0))), ((qa4 2), .inl (cA 0, 6, .inl (fun _ => 0))), (q5, .inr (2, [.int 0, .int 0, .int 0, .int 0, .int 0]))]) s.heap H _ := S
  refine g_putF X S hin hw3 tyX3 tyX3_ok nmX3 0 rfl rfl 2 ⟨by decide, by simp⟩ (hts (.fieldLink RX3 26 "TermBill$Student" "instalments" "LTermBill$Instalments;") (by decide +kernel)) rfl rfl rfl rfl dX3_init_34 (fun H locs S => ?_)
  have S : SG D A ([(h0, .inr (3, [.ref q1, .ref q3, .ref q5, .int 0, .int 0, .int 0, .int 0, .int 0, .int 0, .int 0, .int 0])), (q1, .inr (1, [.ref (qa2 0), .int 0, .int 0])), ((qa2 0), .inl (cA 0, 8, .inl (fun _ => 0))), (q3, .inr (0, [.ref (qa4 0), .ref (qa4 1), .ref (qa4 2), .int 0])), ((qa4 0), .inl (cA 0, 6, .inl (fun _ => 0))), ((qa4 1), .inl (cA 0, 6, .inl (fun _ => 0))), ((qa4 2), .inl (cA 0, 6, .inl (fun _ => 0))), (q5, .inr (2, [.int 0, .int 0, .int 0, .int 0, .int 0]))]) s.heap H _ := S
  refine lv_aload_n hx hb dX3_init_37 rfl (lv_at hl 0 rfl) ?_
  refine lv_iconst (v := 0) hx hb dX3_init_38 (by decide) ?_
  refine g_put X S hw3 tyX3 tyX3_ok nmX3 0 rfl rfl 3 ⟨by decide, by simp⟩ (hts (.fieldLink RX3 30 "TermBill$Student" "level" "I") (by decide +kernel)) rfl rfl rfl dX3_init_39 (fun H locs S => ?_)
  have S : SG D A ([(h0, .inr (3, [.ref q1, .ref q3, .ref q5, .int 0, .int 0, .int 0, .int 0, .int 0, .int 0, .int 0, .int 0])), (q1, .inr (1, [.ref (qa2 0), .int 0, .int 0])), ((qa2 0), .inl (cA 0, 8, .inl (fun _ => 0))), (q3, .inr (0, [.ref (qa4 0), .ref (qa4 1), .ref (qa4 2), .int 0])), ((qa4 0), .inl (cA 0, 6, .inl (fun _ => 0))), ((qa4 1), .inl (cA 0, 6, .inl (fun _ => 0))), ((qa4 2), .inl (cA 0, 6, .inl (fun _ => 0))), (q5, .inr (2, [.int 0, .int 0, .int 0, .int 0, .int 0]))]) s.heap H _ := S
  refine lv_aload_n hx hb dX3_init_42 rfl (lv_at hl 0 rfl) ?_
  refine lv_iconst (v := 1) hx hb dX3_init_43 (by decide) ?_
  refine g_put X S hw3 tyX3 tyX3_ok nmX3 0 rfl rfl 4 ⟨by decide, by simp⟩ (hts (.fieldLink RX3 34 "TermBill$Student" "isResident" "Z") (by decide +kernel)) rfl rfl rfl dX3_init_44 (fun H locs S => ?_)
  have S : SG D A ([(h0, .inr (3, [.ref q1, .ref q3, .ref q5, .int 0, .int 1, .int 0, .int 0, .int 0, .int 0, .int 0, .int 0])), (q1, .inr (1, [.ref (qa2 0), .int 0, .int 0])), ((qa2 0), .inl (cA 0, 8, .inl (fun _ => 0))), (q3, .inr (0, [.ref (qa4 0), .ref (qa4 1), .ref (qa4 2), .int 0])), ((qa4 0), .inl (cA 0, 6, .inl (fun _ => 0))), ((qa4 1), .inl (cA 0, 6, .inl (fun _ => 0))), ((qa4 2), .inl (cA 0, 6, .inl (fun _ => 0))), (q5, .inr (2, [.int 0, .int 0, .int 0, .int 0, .int 0]))]) s.heap H _ := S
  refine lv_aload_n hx hb dX3_init_47 rfl (lv_at hl 0 rfl) ?_
  refine lv_iconst (v := 0) hx hb dX3_init_48 (by decide) ?_
  refine g_put X S hw3 tyX3 tyX3_ok nmX3 0 rfl rfl 5 ⟨by decide, by simp⟩ (hts (.fieldLink RX3 38 "TermBill$Student" "need" "I") (by decide +kernel)) rfl rfl rfl dX3_init_49 (fun H locs S => ?_)
  have S : SG D A ([(h0, .inr (3, [.ref q1, .ref q3, .ref q5, .int 0, .int 1, .int 0, .int 0, .int 0, .int 0, .int 0, .int 0])), (q1, .inr (1, [.ref (qa2 0), .int 0, .int 0])), ((qa2 0), .inl (cA 0, 8, .inl (fun _ => 0))), (q3, .inr (0, [.ref (qa4 0), .ref (qa4 1), .ref (qa4 2), .int 0])), ((qa4 0), .inl (cA 0, 6, .inl (fun _ => 0))), ((qa4 1), .inl (cA 0, 6, .inl (fun _ => 0))), ((qa4 2), .inl (cA 0, 6, .inl (fun _ => 0))), (q5, .inr (2, [.int 0, .int 0, .int 0, .int 0, .int 0]))]) s.heap H _ := S
  refine lv_aload_n hx hb dX3_init_52 rfl (lv_at hl 0 rfl) ?_
  refine lv_iconst (v := 0) hx hb dX3_init_53 (by decide) ?_
  refine g_put X S hw3 tyX3 tyX3_ok nmX3 0 rfl rfl 6 ⟨by decide, by simp⟩ (hts (.fieldLink RX3 41 "TermBill$Student" "fees" "I") (by decide +kernel)) rfl rfl rfl dX3_init_54 (fun H locs S => ?_)
  have S : SG D A ([(h0, .inr (3, [.ref q1, .ref q3, .ref q5, .int 0, .int 1, .int 0, .int 0, .int 0, .int 0, .int 0, .int 0])), (q1, .inr (1, [.ref (qa2 0), .int 0, .int 0])), ((qa2 0), .inl (cA 0, 8, .inl (fun _ => 0))), (q3, .inr (0, [.ref (qa4 0), .ref (qa4 1), .ref (qa4 2), .int 0])), ((qa4 0), .inl (cA 0, 6, .inl (fun _ => 0))), ((qa4 1), .inl (cA 0, 6, .inl (fun _ => 0))), ((qa4 2), .inl (cA 0, 6, .inl (fun _ => 0))), (q5, .inr (2, [.int 0, .int 0, .int 0, .int 0, .int 0]))]) s.heap H _ := S
  refine lv_aload_n hx hb dX3_init_57 rfl (lv_at hl 0 rfl) ?_
  refine lv_iconst (v := 0) hx hb dX3_init_58 (by decide) ?_
  refine g_put X S hw3 tyX3 tyX3_ok nmX3 0 rfl rfl 7 ⟨by decide, by simp⟩ (hts (.fieldLink RX3 44 "TermBill$Student" "housing" "I") (by decide +kernel)) rfl rfl rfl dX3_init_59 (fun H locs S => ?_)
  have S : SG D A ([(h0, .inr (3, [.ref q1, .ref q3, .ref q5, .int 0, .int 1, .int 0, .int 0, .int 0, .int 0, .int 0, .int 0])), (q1, .inr (1, [.ref (qa2 0), .int 0, .int 0])), ((qa2 0), .inl (cA 0, 8, .inl (fun _ => 0))), (q3, .inr (0, [.ref (qa4 0), .ref (qa4 1), .ref (qa4 2), .int 0])), ((qa4 0), .inl (cA 0, 6, .inl (fun _ => 0))), ((qa4 1), .inl (cA 0, 6, .inl (fun _ => 0))), ((qa4 2), .inl (cA 0, 6, .inl (fun _ => 0))), (q5, .inr (2, [.int 0, .int 0, .int 0, .int 0, .int 0]))]) s.heap H _ := S
  refine lv_aload_n hx hb dX3_init_62 rfl (lv_at hl 0 rfl) ?_
  refine lv_iconst (v := 0) hx hb dX3_init_63 (by decide) ?_
  refine g_put X S hw3 tyX3 tyX3_ok nmX3 0 rfl rfl 8 ⟨by decide, by simp⟩ (hts (.fieldLink RX3 47 "TermBill$Student" "sponsorKinds" "I") (by decide +kernel)) rfl rfl rfl dX3_init_64 (fun H locs S => ?_)
  have S : SG D A ([(h0, .inr (3, [.ref q1, .ref q3, .ref q5, .int 0, .int 1, .int 0, .int 0, .int 0, .int 0, .int 0, .int 0])), (q1, .inr (1, [.ref (qa2 0), .int 0, .int 0])), ((qa2 0), .inl (cA 0, 8, .inl (fun _ => 0))), (q3, .inr (0, [.ref (qa4 0), .ref (qa4 1), .ref (qa4 2), .int 0])), ((qa4 0), .inl (cA 0, 6, .inl (fun _ => 0))), ((qa4 1), .inl (cA 0, 6, .inl (fun _ => 0))), ((qa4 2), .inl (cA 0, 6, .inl (fun _ => 0))), (q5, .inr (2, [.int 0, .int 0, .int 0, .int 0, .int 0]))]) s.heap H _ := S
  refine lv_aload_n hx hb dX3_init_67 rfl (lv_at hl 0 rfl) ?_
  refine lv_iconst (v := 0) hx hb dX3_init_68 (by decide) ?_
  refine g_put X S hw3 tyX3 tyX3_ok nmX3 0 rfl rfl 9 ⟨by decide, by simp⟩ (hts (.fieldLink RX3 50 "TermBill$Student" "sponsorLimit" "I") (by decide +kernel)) rfl rfl rfl dX3_init_69 (fun H locs S => ?_)
  have S : SG D A ([(h0, .inr (3, [.ref q1, .ref q3, .ref q5, .int 0, .int 1, .int 0, .int 0, .int 0, .int 0, .int 0, .int 0])), (q1, .inr (1, [.ref (qa2 0), .int 0, .int 0])), ((qa2 0), .inl (cA 0, 8, .inl (fun _ => 0))), (q3, .inr (0, [.ref (qa4 0), .ref (qa4 1), .ref (qa4 2), .int 0])), ((qa4 0), .inl (cA 0, 6, .inl (fun _ => 0))), ((qa4 1), .inl (cA 0, 6, .inl (fun _ => 0))), ((qa4 2), .inl (cA 0, 6, .inl (fun _ => 0))), (q5, .inr (2, [.int 0, .int 0, .int 0, .int 0, .int 0]))]) s.heap H _ := S
  refine lv_aload_n hx hb dX3_init_72 rfl (lv_at hl 0 rfl) ?_
  refine lv_iconst (v := 0) hx hb dX3_init_73 (by decide) ?_
  refine g_put X S hw3 tyX3 tyX3_ok nmX3 0 rfl rfl 10 ⟨by decide, by simp⟩ (hts (.fieldLink RX3 53 "TermBill$Student" "paidSum" "I") (by decide +kernel)) rfl rfl rfl dX3_init_74 (fun H locs S => ?_)
  have S : SG D A ([(h0, .inr (3, [.ref q1, .ref q3, .ref q5, .int 0, .int 1, .int 0, .int 0, .int 0, .int 0, .int 0, .int 0])), (q1, .inr (1, [.ref (qa2 0), .int 0, .int 0])), ((qa2 0), .inl (cA 0, 8, .inl (fun _ => 0))), (q3, .inr (0, [.ref (qa4 0), .ref (qa4 1), .ref (qa4 2), .int 0])), ((qa4 0), .inl (cA 0, 6, .inl (fun _ => 0))), ((qa4 1), .inl (cA 0, 6, .inl (fun _ => 0))), ((qa4 2), .inl (cA 0, 6, .inl (fun _ => 0))), (q5, .inr (2, [.int 0, .int 0, .int 0, .int 0, .int 0]))]) s.heap H _ := S
  exact g_vret X hAe S hr dX3_init_77 (Nat.le_of_ble_eq_true rfl) (Nat.le_of_ble_eq_true rfl) (fun k => [0, q1, qa2 0, q3, qa4 0, qa4 1, qa4 2, q5].getD k 0) rfl

/-- the numbers of the one world when both sides are new -/
def F0v : FF := fun k => match k with
  | 0 => fun j => match j with
    | 3 => 12
    | 4 => 18
    | 5 => 2500
    | _ => 0
  | 2 => filF (fun _ => 0) 10000 4
  | 3 => upd (upd (filF (fun _ => 0) 100 16) 0 0) 1 0
  | 4 => fun j => if j = 4 then 1 else 0
  | 12 => fun j => if j = 4 then 1 else 0
  | 20 => fun j => if j = 4 then 1 else 0
  | 28 => fun j => if j = 4 then 1 else 0
  | 36 => fun j => match j with
    | 4 => 12
    | 5 => 18
    | 7 => 2500
    | _ => 0
  | 37 => upd (upd (upd (upd (fun _ => 0) 0 10000) 1 10000) 2 10000) 3 10000
  | 38 => upd (upd (upd (upd (upd (upd (upd (upd (upd (upd (upd (upd (upd (upd (fun _ => 0) 2 100) 3 100) 4 100) 5 100) 6 100) 7 100) 8 100) 9 100) 10 100) 11 100) 12 100) 13 100) 14 100) 15 100
  | 40 => upd (upd (upd (upd (fun _ => 0) 0 1) 1 1) 2 1) 3 1
  | _ => fun _ => 0
def wC (cA : Nat → ClassId) (ad : Nat → Nat) : va_W := (List.range 36).map (fun k => (ad k, ent cA ad (F0v k) k))
def a0 (h0 : Nat) (q : Nat → Nat) : Nat → Nat := fun k => if k = 0 then h0 else q k

set_option maxHeartbeats 400000 in
set_option maxRecDepth 100000 in
theorem k_X4_init (l : Launch) (D : va_G) (cA : Nat → ClassId) (sz : Nat) (h0 : Nat) : CG l D cA sz yX4_init wsX4_init 3 52 35 220 [.ref h0] [(h0, .inr (4, [.null, .null, .null, .int 0, .int 0, .int 0, .int 0, .int 0, .int 0]))] (fun q => wC cA (a0 h0 q)) := by
  refine CG_of (own := RX4) (cc := cX4_init) (maxL := 2) (ret := none) (by decide +kernel) rfl rfl (Nat.le_of_ble_eq_true rfl) ?_
  intro p e s m below meth c ls A hAe X S hin hr hl
  obtain ⟨⟨hx, hb, hml, hown, hts⟩, hE, hlocks, hA⟩ := id X
  have hl : lv_has ls 2 [(0, .ref h0)] := hl
  have hw3 : ∀ w ∈ wsX30, w.before _ s = true := fun w h => hts w ((by decide +kernel : ∀ w ∈ wsX30, w ∈ wsX4_init) w h)
  have hw4 : ∀ w ∈ wsX40, w.before _ s = true := fun w h => hts w ((by decide +kernel : ∀ w ∈ wsX40, w ∈ wsX4_init) w h)
  refine lv_aload_n hx hb dX4_init_0 rfl (lv_at hl 0 rfl) ?_
  refine W.objInit hx hb hown (hts (.methodLink RX4 3 objectInit) (by decide +kernel)) (hts (.instanceMethod objectInit) (by decide +kernel)) (hts _ (by decide +kernel)) rfl (by rw [hml]; exact hl.1) rfl dX4_init_1 (Nat.le_of_ble_eq_true rfl) (Nat.le_of_ble_eq_true rfl) ?_
  refine W.eq (g2 := F0 m 4 ls []) rfl ?_
  refine lv_aload_n hx hb dX4_init_4 rfl (lv_at hl 0 rfl) ?_
  refine lv_iconst (v := 4) hx hb dX4_init_5 (by decide) ?_
  refine g_news X S (hts (.classLink RX4 9 RX3) (by decide +kernel)) (by decide) (N' := 4) (by decide) (by decide) (Nat.le_of_ble_eq_true rfl) (Nat.le_of_ble_eq_true rfl) dX4_init_6 (fun q1 H S => ?_)
  refine W.widen (k := 1) (n := 4) (Nat.le_of_ble_eq_true rfl) (Nat.le_of_ble_eq_true rfl) ?_
  have S : SG D A ([(h0, .inr (4, [.null, .null, .null, .int 0, .int 0, .int 0, .int 0, .int 0, .int 0])), (q1, .inl (cA 1, 4, .inr (.inr (.inr (.inr (fun _ => none))))))]) s.heap H _ := S
  refine g_putF X S hin hw4 tyX4 tyX4_ok nmX4 0 rfl rfl 0 ⟨by decide, by simp⟩ (hts (.fieldLink RX4 11 "TermBill" "students" "[LTermBill$Student;") (by decide +kernel)) rfl rfl rfl rfl dX4_init_9 (fun H locs S => ?_)
  have S : SG D A ([(h0, .inr (4, [.ref q1, .null, .null, .int 0, .int 0, .int 0, .int 0, .int 0, .int 0])), (q1, .inl (cA 1, 4, .inr (.inr (.inr (.inr (fun _ => none))))))]) s.heap H _ := S
  refine lv_aload_n hx hb dX4_init_12 rfl (lv_at hl 0 rfl) ?_
  refine lv_iconst (v := 4) hx hb dX4_init_13 (by decide) ?_
  refine g_newi X S (hts (.arrayClass .int) (by decide +kernel)) (by decide) (N' := 4) (by decide) (by decide) (Nat.le_of_ble_eq_true rfl) (Nat.le_of_ble_eq_true rfl) dX4_init_14 (fun q2 H S => ?_)
  refine W.widen (k := 2) (n := 8) (Nat.le_of_ble_eq_true rfl) (Nat.le_of_ble_eq_true rfl) ?_
  have S : SG D A ([(h0, .inr (4, [.ref q1, .null, .null, .int 0, .int 0, .int 0, .int 0, .int 0, .int 0])), (q1, .inl (cA 1, 4, .inr (.inr (.inr (.inr (fun _ => none)))))), (q2, .inl (cA 0, 4, .inl (fun _ => 0)))]) s.heap H _ := S
  refine g_putF X S hin hw4 tyX4 tyX4_ok nmX4 0 rfl rfl 1 ⟨by decide, by simp⟩ (hts (.fieldLink RX4 15 "TermBill" "rates" "[I") (by decide +kernel)) rfl rfl rfl rfl dX4_init_16 (fun H locs S => ?_)
  have S : SG D A ([(h0, .inr (4, [.ref q1, .ref q2, .null, .int 0, .int 0, .int 0, .int 0, .int 0, .int 0])), (q1, .inl (cA 1, 4, .inr (.inr (.inr (.inr (fun _ => none)))))), (q2, .inl (cA 0, 4, .inl (fun _ => 0)))]) s.heap H _ := S
  refine lv_aload_n hx hb dX4_init_19 rfl (lv_at hl 0 rfl) ?_
  refine lv_bipush (v := 16) hx hb dX4_init_20 (by decide) ?_
  refine g_newi X S (hts (.arrayClass .int) (by decide +kernel)) (by decide) (N' := 16) (by decide) (by decide) (Nat.le_of_ble_eq_true rfl) (Nat.le_of_ble_eq_true rfl) dX4_init_22 (fun q3 H S => ?_)
  refine W.widen (k := 3) (n := 24) (Nat.le_of_ble_eq_true rfl) (Nat.le_of_ble_eq_true rfl) ?_
  have S : SG D A ([(h0, .inr (4, [.ref q1, .ref q2, .null, .int 0, .int 0, .int 0, .int 0, .int 0, .int 0])), (q1, .inl (cA 1, 4, .inr (.inr (.inr (.inr (fun _ => none)))))), (q2, .inl (cA 0, 4, .inl (fun _ => 0))), (q3, .inl (cA 0, 16, .inl (fun _ => 0)))]) s.heap H _ := S
  refine g_putF X S hin hw4 tyX4 tyX4_ok nmX4 0 rfl rfl 2 ⟨by decide, by simp⟩ (hts (.fieldLink RX4 19 "TermBill" "shares" "[I") (by decide +kernel)) rfl rfl rfl rfl dX4_init_24 (fun H locs S => ?_)
  have S : SG D A ([(h0, .inr (4, [.ref q1, .ref q2, .ref q3, .int 0, .int 0, .int 0, .int 0, .int 0, .int 0])), (q1, .inl (cA 1, 4, .inr (.inr (.inr (.inr (fun _ => none)))))), (q2, .inl (cA 0, 4, .inl (fun _ => 0))), (q3, .inl (cA 0, 16, .inl (fun _ => 0)))]) s.heap H _ := S
  refine lv_aload_n hx hb dX4_init_27 rfl (lv_at hl 0 rfl) ?_
  refine lv_bipush (v := 12) hx hb dX4_init_28 (by decide) ?_
  refine g_put X S hw4 tyX4 tyX4_ok nmX4 0 rfl rfl 3 ⟨by decide, by simp⟩ (hts (.fieldLink RX4 22 "TermBill" "bandFrom" "I") (by decide +kernel)) rfl rfl rfl dX4_init_30 (fun H locs S => ?_)
  have S : SG D A ([(h0, .inr (4, [.ref q1, .ref q2, .ref q3, .int 12, .int 0, .int 0, .int 0, .int 0, .int 0])), (q1, .inl (cA 1, 4, .inr (.inr (.inr (.inr (fun _ => none)))))), (q2, .inl (cA 0, 4, .inl (fun _ => 0))), (q3, .inl (cA 0, 16, .inl (fun _ => 0)))]) s.heap H _ := S
  refine lv_aload_n hx hb dX4_init_33 rfl (lv_at hl 0 rfl) ?_
  refine lv_bipush (v := 18) hx hb dX4_init_34 (by decide) ?_
  refine g_put X S hw4 tyX4 tyX4_ok nmX4 0 rfl rfl 4 ⟨by decide, by simp⟩ (hts (.fieldLink RX4 26 "TermBill" "bandTo" "I") (by decide +kernel)) rfl rfl rfl dX4_init_36 (fun H locs S => ?_)
  have S : SG D A ([(h0, .inr (4, [.ref q1, .ref q2, .ref q3, .int 12, .int 18, .int 0, .int 0, .int 0, .int 0])), (q1, .inl (cA 1, 4, .inr (.inr (.inr (.inr (fun _ => none)))))), (q2, .inl (cA 0, 4, .inl (fun _ => 0))), (q3, .inl (cA 0, 16, .inl (fun _ => 0)))]) s.heap H _ := S
  refine lv_aload_n hx hb dX4_init_39 rfl (lv_at hl 0 rfl) ?_
  refine lv_sipush (v := 2500) hx hb dX4_init_40 (by decide) ?_
  refine g_put X S hw4 tyX4 tyX4_ok nmX4 0 rfl rfl 5 ⟨by decide, by simp⟩ (hts (.fieldLink RX4 29 "TermBill" "lateFee" "I") (by decide +kernel)) rfl rfl rfl dX4_init_43 (fun H locs S => ?_)
  have S : SG D A ([(h0, .inr (4, [.ref q1, .ref q2, .ref q3, .int 12, .int 18, .int 2500, .int 0, .int 0, .int 0])), (q1, .inl (cA 1, 4, .inr (.inr (.inr (.inr (fun _ => none)))))), (q2, .inl (cA 0, 4, .inl (fun _ => 0))), (q3, .inl (cA 0, 16, .inl (fun _ => 0)))]) s.heap H _ := S
  refine lv_aload_n hx hb dX4_init_46 rfl (lv_at hl 0 rfl) ?_
  refine lv_iconst (v := 0) hx hb dX4_init_47 (by decide) ?_
  refine g_put X S hw4 tyX4 tyX4_ok nmX4 0 rfl rfl 6 ⟨by decide, by simp⟩ (hts (.fieldLink RX4 32 "TermBill" "holdLimit" "I") (by decide +kernel)) rfl rfl rfl dX4_init_48 (fun H locs S => ?_)
  have S : SG D A ([(h0, .inr (4, [.ref q1, .ref q2, .ref q3, .int 12, .int 18, .int 2500, .int 0, .int 0, .int 0])), (q1, .inl (cA 1, 4, .inr (.inr (.inr (.inr (fun _ => none)))))), (q2, .inl (cA 0, 4, .inl (fun _ => 0))), (q3, .inl (cA 0, 16, .inl (fun _ => 0)))]) s.heap H _ := S
  refine lv_aload_n hx hb dX4_init_51 rfl (lv_at hl 0 rfl) ?_
  refine lv_iconst (v := 0) hx hb dX4_init_52 (by decide) ?_
  refine g_put X S hw4 tyX4 tyX4_ok nmX4 0 rfl rfl 7 ⟨by decide, by simp⟩ (hts (.fieldLink RX4 35 "TermBill" "week" "I") (by decide +kernel)) rfl rfl rfl dX4_init_53 (fun H locs S => ?_)
  have S : SG D A ([(h0, .inr (4, [.ref q1, .ref q2, .ref q3, .int 12, .int 18, .int 2500, .int 0, .int 0, .int 0])), (q1, .inl (cA 1, 4, .inr (.inr (.inr (.inr (fun _ => none)))))), (q2, .inl (cA 0, 4, .inl (fun _ => 0))), (q3, .inl (cA 0, 16, .inl (fun _ => 0)))]) s.heap H _ := S
  refine lv_aload_n hx hb dX4_init_56 rfl (lv_at hl 0 rfl) ?_
  refine lv_iconst (v := 0) hx hb dX4_init_57 (by decide) ?_
  refine g_put X S hw4 tyX4 tyX4_ok nmX4 0 rfl rfl 8 ⟨by decide, by simp⟩ (hts (.fieldLink RX4 38 "TermBill" "term" "I") (by decide +kernel)) rfl rfl rfl dX4_init_58 (fun H locs S => ?_)
  have S : SG D A ([(h0, .inr (4, [.ref q1, .ref q2, .ref q3, .int 12, .int 18, .int 2500, .int 0, .int 0, .int 0])), (q1, .inl (cA 1, 4, .inr (.inr (.inr (.inr (fun _ => none)))))), (q2, .inl (cA 0, 4, .inl (fun _ => 0))), (q3, .inl (cA 0, 16, .inl (fun _ => 0)))]) s.heap H _ := S
  refine lv_iconst (v := 0) hx hb dX4_init_61 (by decide) ?_
  refine lv_istore_n (lv' := [(1, .int 0), (0, .ref h0)]) hx hb dX4_init_62 rfl hl (by decide) rfl (fun ls hl => ?_)
  refine lv_iload_n hx hb dX4_init_63 rfl (lv_at hl 0 rfl) ?_
  refine lv_aload_n hx hb dX4_init_64 rfl (lv_at hl 1 rfl) ?_
  refine g_getr X S hw4 0 rfl rfl 0 (by decide) (hts (.fieldLink RX4 11 "TermBill" "students" "[LTermBill$Student;") (by decide +kernel)) rfl dX4_init_65 ?_
  refine g_lens X S 1 rfl dX4_init_68 ?_
  refine lv_icmp_ge (tgt := 91) hx hb dX4_init_69 (by decide) (fun z => False.elim (absurd z (by decide))) (fun _ => ?_)
  refine lv_aload_n hx hb dX4_init_72 rfl (lv_at hl 1 rfl) ?_
  refine g_getr X S hw4 0 rfl rfl 0 (by decide) (hts (.fieldLink RX4 11 "TermBill" "students" "[LTermBill$Student;") (by decide +kernel)) rfl dX4_init_73 ?_
  refine lv_iload_n hx hb dX4_init_76 rfl (lv_at hl 0 rfl) ?_
  refine g_new (ci := 3) (fs := [.null, .null, .null, .int 0, .int 0, .int 0, .int 0, .int 0, .int 0, .int 0, .int 0]) X S hw3 tyX3 tyX3_ok (hts (.classLink RX4 9 RX3) (by decide +kernel)) (hts (.instantiable RX3 11) (by decide +kernel)) (hts (.initialized RX3) (by decide +kernel)) rfl (by decide +kernel) (Nat.le_of_ble_eq_true rfl) (Nat.le_of_ble_eq_true rfl) dX4_init_77 (fun q4 H S => ?_)
  refine W.widen (k := 4) (n := 35) (Nat.le_of_ble_eq_true rfl) (Nat.le_of_ble_eq_true rfl) ?_
  have S : SG D A (([(h0, .inr (4, [.ref q1, .ref q2, .ref q3, .int 12, .int 18, .int 2500, .int 0, .int 0, .int 0])), (q1, .inl (cA 1, 4, .inr (.inr (.inr (.inr (fun _ => none)))))), (q2, .inl (cA 0, 4, .inl (fun _ => 0))), (q3, .inl (cA 0, 16, .inl (fun _ => 0)))]) ++ [(q4, .inr (3, [.null, .null, .null, .int 0, .int 0, .int 0, .int 0, .int 0, .int 0, .int 0, .int 0]))]) s.heap H _ := S
  refine lv_dup hx hb dX4_init_80 rfl ?_
  refine g_call X S (va_runIN (As := []) (rest := [.ref q4, .int 0, .ref q1]) X.1 (k_X3_init l D cA _ q4) ⟨va_cnB 0 hts gX4_init_X3_init_n41 rfl rfl rfl X.2.1.2.2.2.2.1 (hts (.initialized RX3) (by decide +kernel)) (by decide +kernel) ⟨Nat.le_of_ble_eq_true rfl, Nat.le_of_ble_eq_true rfl⟩, rfl, (hts (.instanceMethod yX3_init) (by decide +kernel))⟩ (g_pre X S [.ref q4]) rfl rfl hl.1 rfl (lv_room (Nat.le_of_ble_eq_true rfl)) dX4_init_81 ⟨Nat.le_of_ble_eq_true rfl, Nat.le_of_ble_eq_true rfl⟩) (fun qa5 H locs S => ?_)
  refine W.widen (k := 11) (n := 73) (Nat.le_of_ble_eq_true rfl) (Nat.le_of_ble_eq_true rfl) ?_
  have S : SG D A ([(h0, .inr (4, [.ref q1, .ref q2, .ref q3, .int 12, .int 18, .int 2500, .int 0, .int 0, .int 0])), (q1, .inl (cA 1, 4, .inr (.inr (.inr (.inr (fun _ => none)))))), (q2, .inl (cA 0, 4, .inl (fun _ => 0))), (q3, .inl (cA 0, 16, .inl (fun _ => 0)))] ++ stC cA q4 qa5) s.heap H _ := S
  refine g_aast X S 1 4 rfl rfl (j := 0) (by decide) (by decide) (by decide) dX4_init_84 (fun H locs S => ?_)
  have S : SG D A ([(h0, .inr (4, [.ref q1, .ref q2, .ref q3, .int 12, .int 18, .int 2500, .int 0, .int 0, .int 0])), (q1, .inl (cA 1, 4, .inr (.inr (.inr (.inr (va_up (fun _ => none) 0 (some q4))))))), (q2, .inl (cA 0, 4, .inl (fun _ => 0))), (q3, .inl (cA 0, 16, .inl (fun _ => 0)))] ++ stC cA q4 qa5) s.heap H _ := S
  refine lv_iinc (v := 1) (lv' := [(1, .int 1), (0, .ref h0)]) hx hb dX4_init_85 hl (k := 0) rfl (by decide) (by decide) rfl (fun ls hl => ?_)
  refine lv_goto (tgt := 63) hx hb dX4_init_88 (by decide) ?_
  refine lv_iload_n hx hb dX4_init_63 rfl (lv_at hl 0 rfl) ?_
  refine lv_aload_n hx hb dX4_init_64 rfl (lv_at hl 1 rfl) ?_
  refine g_getr X S hw4 0 rfl rfl 0 (by decide) (hts (.fieldLink RX4 11 "TermBill" "students" "[LTermBill$Student;") (by decide +kernel)) rfl dX4_init_65 ?_
  refine g_lens X S 1 rfl dX4_init_68 ?_
  refine lv_icmp_ge (tgt := 91) hx hb dX4_init_69 (by decide) (fun z => False.elim (absurd z (by decide))) (fun _ => ?_)
  refine lv_aload_n hx hb dX4_init_72 rfl (lv_at hl 1 rfl) ?_
  refine g_getr X S hw4 0 rfl rfl 0 (by decide) (hts (.fieldLink RX4 11 "TermBill" "students" "[LTermBill$Student;") (by decide +kernel)) rfl dX4_init_73 ?_
  refine lv_iload_n hx hb dX4_init_76 rfl (lv_at hl 0 rfl) ?_
  refine g_new (ci := 3) (fs := [.null, .null, .null, .int 0, .int 0, .int 0, .int 0, .int 0, .int 0, .int 0, .int 0]) X S hw3 tyX3 tyX3_ok (hts (.classLink RX4 9 RX3) (by decide +kernel)) (hts (.instantiable RX3 11) (by decide +kernel)) (hts (.initialized RX3) (by decide +kernel)) rfl (by decide +kernel) (Nat.le_of_ble_eq_true rfl) (Nat.le_of_ble_eq_true rfl) dX4_init_77 (fun q6 H S => ?_)
  refine W.widen (k := 12) (n := 84) (Nat.le_of_ble_eq_true rfl) (Nat.le_of_ble_eq_true rfl) ?_
  have S : SG D A (([(h0, .inr (4, [.ref q1, .ref q2, .ref q3, .int 12, .int 18, .int 2500, .int 0, .int 0, .int 0])), (q1, .inl (cA 1, 4, .inr (.inr (.inr (.inr (va_up (fun _ => none) 0 (some q4))))))), (q2, .inl (cA 0, 4, .inl (fun _ => 0))), (q3, .inl (cA 0, 16, .inl (fun _ => 0)))] ++ stC cA q4 qa5) ++ [(q6, .inr (3, [.null, .null, .null, .int 0, .int 0, .int 0, .int 0, .int 0, .int 0, .int 0, .int 0]))]) s.heap H _ := S
  refine lv_dup hx hb dX4_init_80 rfl ?_
  refine g_call X S (va_runIN (As := []) (rest := [.ref q6, .int 1, .ref q1]) X.1 (k_X3_init l D cA _ q6) ⟨va_cnB 0 hts gX4_init_X3_init_n41 rfl rfl rfl X.2.1.2.2.2.2.1 (hts (.initialized RX3) (by decide +kernel)) (by decide +kernel) ⟨Nat.le_of_ble_eq_true rfl, Nat.le_of_ble_eq_true rfl⟩, rfl, (hts (.instanceMethod yX3_init) (by decide +kernel))⟩ (g_pre X S [.ref q6]) rfl rfl hl.1 rfl (lv_room (Nat.le_of_ble_eq_true rfl)) dX4_init_81 ⟨Nat.le_of_ble_eq_true rfl, Nat.le_of_ble_eq_true rfl⟩) (fun qa7 H locs S => ?_)
  refine W.widen (k := 19) (n := 122) (Nat.le_of_ble_eq_true rfl) (Nat.le_of_ble_eq_true rfl) ?_
  have S : SG D A ([(h0, .inr (4, [.ref q1, .ref q2, .ref q3, .int 12, .int 18, .int 2500, .int 0, .int 0, .int 0])), (q1, .inl (cA 1, 4, .inr (.inr (.inr (.inr (va_up (fun _ => none) 0 (some q4))))))), (q2, .inl (cA 0, 4, .inl (fun _ => 0))), (q3, .inl (cA 0, 16, .inl (fun _ => 0)))] ++ stC cA q4 qa5 ++ stC cA q6 qa7) s.heap H _ := S
  refine g_aast X S 1 12 rfl rfl (j := 1) (by decide) (by decide) (by decide) dX4_init_84 (fun H locs S => ?_)
  have S : SG D A ([(h0, .inr (4, [.ref q1, .ref q2, .ref q3, .int 12, .int 18, .int 2500, .int 0, .int 0, .int 0])), (q1, .inl (cA 1, 4, .inr (.inr (.inr (.inr (va_up (va_up (fun _ => none) 0 (some q4)) 1 (some q6))))))), (q2, .inl (cA 0, 4, .inl (fun _ => 0))), (q3, .inl (cA 0, 16, .inl (fun _ => 0)))] ++ stC cA q4 qa5 ++ stC cA q6 qa7) s.heap H _ := S
  refine lv_iinc (v := 2) (lv' := [(1, .int 2), (0, .ref h0)]) hx hb dX4_init_85 hl (k := 0) rfl (by decide) (by decide) rfl (fun ls hl => ?_)
  refine lv_goto (tgt := 63) hx hb dX4_init_88 (by decide) ?_
  refine lv_iload_n hx hb dX4_init_63 rfl (lv_at hl 0 rfl) ?_
  refine lv_aload_n hx hb dX4_init_64 rfl (lv_at hl 1 rfl) ?_
  refine g_getr X S hw4 0 rfl rfl 0 (by decide) (hts (.fieldLink RX4 11 "TermBill" "students" "[LTermBill$Student;") (by decide +kernel)) rfl dX4_init_65 ?_
  refine g_lens X S 1 rfl dX4_init_68 ?_
  refine lv_icmp_ge (tgt := 91) hx hb dX4_init_69 (by decide) (fun z => False.elim (absurd z (by decide))) (fun _ => ?_)
  refine lv_aload_n hx hb dX4_init_72 rfl (lv_at hl 1 rfl) ?_
  refine g_getr X S hw4 0 rfl rfl 0 (by decide) (hts (.fieldLink RX4 11 "TermBill" "students" "[LTermBill$Student;") (by decide +kernel)) rfl dX4_init_73 ?_
  refine lv_iload_n hx hb dX4_init_76 rfl (lv_at hl 0 rfl) ?_
  refine g_new (ci := 3) (fs := [.null, .null, .null, .int 0, .int 0, .int 0, .int 0, .int 0, .int 0, .int 0, .int 0]) X S hw3 tyX3 tyX3_ok (hts (.classLink RX4 9 RX3) (by decide +kernel)) (hts (.instantiable RX3 11) (by decide +kernel)) (hts (.initialized RX3) (by decide +kernel)) rfl (by decide +kernel) (Nat.le_of_ble_eq_true rfl) (Nat.le_of_ble_eq_true rfl) dX4_init_77 (fun q8 H S => ?_)
  refine W.widen (k := 20) (n := 133) (Nat.le_of_ble_eq_true rfl) (Nat.le_of_ble_eq_true rfl) ?_
  have S : SG D A (([(h0, .inr (4, [.ref q1, .ref q2, .ref q3, .int 12, .int 18, .int 2500, .int 0, .int 0, .int 0])), (q1, .inl (cA 1, 4, .inr (.inr (.inr (.inr (va_up (va_up (fun _ => none) 0 (some q4)) 1 (some q6))))))), (q2, .inl (cA 0, 4, .inl (fun _ => 0))), (q3, .inl (cA 0, 16, .inl (fun _ => 0)))] ++ stC cA q4 qa5 ++ stC cA q6 qa7) ++ [(q8, .inr (3, [.null, .null, .null, .int 0, .int 0, .int 0, .int 0, .int 0, .int 0, .int 0, .int 0]))]) s.heap H _ := S
  refine lv_dup hx hb dX4_init_80 rfl ?_
  refine g_call X S (va_runIN (As := []) (rest := [.ref q8, .int 2, .ref q1]) X.1 (k_X3_init l D cA _ q8) ⟨va_cnB 0 hts gX4_init_X3_init_n41 rfl rfl rfl X.2.1.2.2.2.2.1 (hts (.initialized RX3) (by decide +kernel)) (by decide +kernel) ⟨Nat.le_of_ble_eq_true rfl, Nat.le_of_ble_eq_true rfl⟩, rfl, (hts (.instanceMethod yX3_init) (by decide +kernel))⟩ (g_pre X S [.ref q8]) rfl rfl hl.1 rfl (lv_room (Nat.le_of_ble_eq_true rfl)) dX4_init_81 ⟨Nat.le_of_ble_eq_true rfl, Nat.le_of_ble_eq_true rfl⟩) (fun qa9 H locs S => ?_)
  refine W.widen (k := 27) (n := 171) (Nat.le_of_ble_eq_true rfl) (Nat.le_of_ble_eq_true rfl) ?_
  have S : SG D A ([(h0, .inr (4, [.ref q1, .ref q2, .ref q3, .int 12, .int 18, .int 2500, .int 0, .int 0, .int 0])), (q1, .inl (cA 1, 4, .inr (.inr (.inr (.inr (va_up (va_up (fun _ => none) 0 (some q4)) 1 (some q6))))))), (q2, .inl (cA 0, 4, .inl (fun _ => 0))), (q3, .inl (cA 0, 16, .inl (fun _ => 0)))] ++ stC cA q4 qa5 ++ stC cA q6 qa7 ++ stC cA q8 qa9) s.heap H _ := S
  refine g_aast X S 1 20 rfl rfl (j := 2) (by decide) (by decide) (by decide) dX4_init_84 (fun H locs S => ?_)
  have S : SG D A ([(h0, .inr (4, [.ref q1, .ref q2, .ref q3, .int 12, .int 18, .int 2500, .int 0, .int 0, .int 0])), (q1, .inl (cA 1, 4, .inr (.inr (.inr (.inr (va_up (va_up (va_up (fun _ => none) 0 (some q4)) 1 (some q6)) 2 (some q8))))))), (q2, .inl (cA 0, 4, .inl (fun _ => 0))), (q3, .inl (cA 0, 16, .inl (fun _ => 0)))] ++ stC cA q4 qa5 ++ stC cA q6 qa7 ++ stC cA q8 qa9) s.heap H _ := S
  refine lv_iinc (v := 3) (lv' := [(1, .int 3), (0, .ref h0)]) hx hb dX4_init_85 hl (k := 0) rfl (by decide) (by decide) rfl (fun ls hl => ?_)
  refine lv_goto (tgt := 63) hx hb dX4_init_88 (by decide) ?_
  refine lv_iload_n hx hb dX4_init_63 rfl (lv_at hl 0 rfl) ?_
  refine lv_aload_n hx hb dX4_init_64 rfl (lv_at hl 1 rfl) ?_
  refine g_getr X S hw4 0 rfl rfl 0 (by decide) (hts (.fieldLink RX4 11 "TermBill" "students" "[LTermBill$Student;") (by decide +kernel)) rfl dX4_init_65 ?_
  refine g_lens X S 1 rfl dX4_init_68 ?_
  refine lv_icmp_ge (tgt := 91) hx hb dX4_init_69 (by decide) (fun z => False.elim (absurd z (by decide))) (fun _ => ?_)
  refine lv_aload_n hx hb dX4_init_72 rfl (lv_at hl 1 rfl) ?_
  refine g_getr X S hw4 0 rfl rfl 0 (by decide) (hts (.fieldLink RX4 11 "TermBill" "students" "[LTermBill$Student;") (by decide +kernel)) rfl dX4_init_73 ?_
  refine lv_iload_n hx hb dX4_init_76 rfl (lv_at hl 0 rfl) ?_
  refine g_new (ci := 3) (fs := [.null, .null, .null, .int 0, .int 0, .int 0, .int 0, .int 0, .int 0, .int 0, .int 0]) X S hw3 tyX3 tyX3_ok (hts (.classLink RX4 9 RX3) (by decide +kernel)) (hts (.instantiable RX3 11) (by decide +kernel)) (hts (.initialized RX3) (by decide +kernel)) rfl (by decide +kernel) (Nat.le_of_ble_eq_true rfl) (Nat.le_of_ble_eq_true rfl) dX4_init_77 (fun q10 H S => ?_)
  refine W.widen (k := 28) (n := 182) (Nat.le_of_ble_eq_true rfl) (Nat.le_of_ble_eq_true rfl) ?_
  have S : SG D A (([(h0, .inr (4, [.ref q1, .ref q2, .ref q3, .int 12, .int 18, .int 2500, .int 0, .int 0, .int 0])), (q1, .inl (cA 1, 4, .inr (.inr (.inr (.inr (va_up (va_up (va_up (fun _ => none) 0 (some q4)) 1 (some q6)) 2 (some q8))))))), (q2, .inl (cA 0, 4, .inl (fun _ => 0))), (q3, .inl (cA 0, 16, .inl (fun _ => 0)))] ++ stC cA q4 qa5 ++ stC cA q6 qa7 ++ stC cA q8 qa9) ++ [(q10, .inr (3, [.null, .null, .null, .int 0, .int 0, .int 0, .int 0, .int 0, .int 0, .int 0, .int 0]))]) s.heap H _ := S
  refine lv_dup hx hb dX4_init_80 rfl ?_
  refine g_call X S (va_runIN (As := []) (rest := [.ref q10, .int 3, .ref q1]) X.1 (k_X3_init l D cA _ q10) ⟨va_cnB 0 hts gX4_init_X3_init_n41 rfl rfl rfl X.2.1.2.2.2.2.1 (hts (.initialized RX3) (by decide +kernel)) (by decide +kernel) ⟨Nat.le_of_ble_eq_true rfl, Nat.le_of_ble_eq_true rfl⟩, rfl, (hts (.instanceMethod yX3_init) (by decide +kernel))⟩ (g_pre X S [.ref q10]) rfl rfl hl.1 rfl (lv_room (Nat.le_of_ble_eq_true rfl)) dX4_init_81 ⟨Nat.le_of_ble_eq_true rfl, Nat.le_of_ble_eq_true rfl⟩) (fun qa11 H locs S => ?_)
  refine W.widen (k := 35) (n := 220) (Nat.le_of_ble_eq_true rfl) (Nat.le_of_ble_eq_true rfl) ?_
  have S : SG D A ([(h0, .inr (4, [.ref q1, .ref q2, .ref q3, .int 12, .int 18, .int 2500, .int 0, .int 0, .int 0])), (q1, .inl (cA 1, 4, .inr (.inr (.inr (.inr (va_up (va_up (va_up (fun _ => none) 0 (some q4)) 1 (some q6)) 2 (some q8))))))), (q2, .inl (cA 0, 4, .inl (fun _ => 0))), (q3, .inl (cA 0, 16, .inl (fun _ => 0)))] ++ stC cA q4 qa5 ++ stC cA q6 qa7 ++ stC cA q8 qa9 ++ stC cA q10 qa11) s.heap H _ := S
  refine g_aast X S 1 28 rfl rfl (j := 3) (by decide) (by decide) (by decide) dX4_init_84 (fun H locs S => ?_)
  have S : SG D A ([(h0, .inr (4, [.ref q1, .ref q2, .ref q3, .int 12, .int 18, .int 2500, .int 0, .int 0, .int 0])), (q1, .inl (cA 1, 4, .inr (.inr (.inr (.inr (va_up (va_up (va_up (va_up (fun _ => none) 0 (some q4)) 1 (some q6)) 2 (some q8)) 3 (some q10))))))), (q2, .inl (cA 0, 4, .inl (fun _ => 0))), (q3, .inl (cA 0, 16, .inl (fun _ => 0)))] ++ stC cA q4 qa5 ++ stC cA q6 qa7 ++ stC cA q8 qa9 ++ stC cA q10 qa11) s.heap H _ := S
  refine lv_iinc (v := 4) (lv' := [(1, .int 4), (0, .ref h0)]) hx hb dX4_init_85 hl (k := 0) rfl (by decide) (by decide) rfl (fun ls hl => ?_)
  refine lv_goto (tgt := 63) hx hb dX4_init_88 (by decide) ?_
  refine lv_iload_n hx hb dX4_init_63 rfl (lv_at hl 0 rfl) ?_
  refine lv_aload_n hx hb dX4_init_64 rfl (lv_at hl 1 rfl) ?_
  refine g_getr X S hw4 0 rfl rfl 0 (by decide) (hts (.fieldLink RX4 11 "TermBill" "students" "[LTermBill$Student;") (by decide +kernel)) rfl dX4_init_65 ?_
  refine g_lens X S 1 rfl dX4_init_68 ?_
  refine lv_icmp_ge (tgt := 91) hx hb dX4_init_69 (by decide) (fun _ => ?_) (fun z => False.elim (absurd (by decide) z))
  refine lv_aload_n hx hb dX4_init_91 rfl (lv_at hl 1 rfl) ?_
  refine g_getr X S hw4 0 rfl rfl 1 (by decide) (hts (.fieldLink RX4 15 "TermBill" "rates" "[I") (by decide +kernel)) rfl dX4_init_92 ?_
  refine lv_sipush (v := 10000) hx hb dX4_init_95 (by decide) ?_
  have S : SG D A (([(h0, .inr (4, [.ref q1, .ref q2, .ref q3, .int 12, .int 18, .int 2500, .int 0, .int 0, .int 0])), (q1, .inl (cA 1, 4, .inr (.inr (.inr (.inr (va_up (va_up (va_up (va_up (fun _ => none) 0 (some q4)) 1 (some q6)) 2 (some q8)) 3 (some q10))))))), (q3, .inl (cA 0, 16, .inl (fun _ => 0)))] ++ stC cA q4 qa5 ++ stC cA q6 qa7 ++ stC cA q8 qa9 ++ stC cA q10 qa11) ++ [(q2, .inl (cA 0, 4, .inl (fun _ => 0)))]) s.heap H _ := g_perm S [0, 1, 3, 4, 5, 6, 7, 8, 9, 10, 11, 12, 13, 14, 15, 16, 17, 18, 19, 20, 21, 22, 23, 24, 25, 26, 27, 28, 29, 30, 31, 32, 33, 34, 35, 2] (by decide) rfl rfl
  refine g_call X S (va_runS X.1 (k_fill l D cA _ q2 4 (by decide) (fun _ => 0) 10000) (va_cwS 2 hts gX4_init_J7_fill_53178 rfl rfl rfl (by decide +kernel) ⟨Nat.le_of_ble_eq_true rfl, Nat.le_of_ble_eq_true rfl⟩) (g_pre X S [.ref q2, .int 10000]) rfl rfl hl.1 rfl (lv_room (Nat.le_of_ble_eq_true rfl)) dX4_init_98 ⟨Nat.le_of_ble_eq_true rfl, Nat.le_of_ble_eq_true rfl⟩) (fun _ H locs S => ?_)
  have S : SG D A ([(h0, .inr (4, [.ref q1, .ref q2, .ref q3, .int 12, .int 18, .int 2500, .int 0, .int 0, .int 0])), (q1, .inl (cA 1, 4, .inr (.inr (.inr (.inr (va_up (va_up (va_up (va_up (fun _ => none) 0 (some q4)) 1 (some q6)) 2 (some q8)) 3 (some q10))))))), (q2, .inl (cA 0, 4, .inl (filF (fun _ => 0) 10000 4))), (q3, .inl (cA 0, 16, .inl (fun _ => 0)))] ++ stC cA q4 qa5 ++ stC cA q6 qa7 ++ stC cA q8 qa9 ++ stC cA q10 qa11) s.heap H _ := g_perm S [0, 1, 35, 2, 3, 4, 5, 6, 7, 8, 9, 10, 11, 12, 13, 14, 15, 16, 17, 18, 19, 20, 21, 22, 23, 24, 25, 26, 27, 28, 29, 30, 31, 32, 33, 34] (by decide) rfl rfl
  refine lv_aload_n hx hb dX4_init_101 rfl (lv_at hl 1 rfl) ?_
  refine g_getr X S hw4 0 rfl rfl 2 (by decide) (hts (.fieldLink RX4 19 "TermBill" "shares" "[I") (by decide +kernel)) rfl dX4_init_102 ?_
  refine lv_bipush (v := 100) hx hb dX4_init_105 (by decide) ?_
  have S : SG D A (([(h0, .inr (4, [.ref q1, .ref q2, .ref q3, .int 12, .int 18, .int 2500, .int 0, .int 0, .int 0])), (q1, .inl (cA 1, 4, .inr (.inr (.inr (.inr (va_up (va_up (va_up (va_up (fun _ => none) 0 (some q4)) 1 (some q6)) 2 (some q8)) 3 (some q10))))))), (q2, .inl (cA 0, 4, .inl (filF (fun _ => 0) 10000 4)))] ++ stC cA q4 qa5 ++ stC cA q6 qa7 ++ stC cA q8 qa9 ++ stC cA q10 qa11) ++ [(q3, .inl (cA 0, 16, .inl (fun _ => 0)))]) s.heap H _ := g_perm S [0, 1, 2, 4, 5, 6, 7, 8, 9, 10, 11, 12, 13, 14, 15, 16, 17, 18, 19, 20, 21, 22, 23, 24, 25, 26, 27, 28, 29, 30, 31, 32, 33, 34, 35, 3] (by decide) rfl rfl
  refine g_call X S (va_runS X.1 (k_fill l D cA _ q3 16 (by decide) (fun _ => 0) 100) (va_cwS 2 hts gX4_init_J7_fill_53178 rfl rfl rfl (by decide +kernel) ⟨Nat.le_of_ble_eq_true rfl, Nat.le_of_ble_eq_true rfl⟩) (g_pre X S [.ref q3, .int 100]) rfl rfl hl.1 rfl (lv_room (Nat.le_of_ble_eq_true rfl)) dX4_init_107 ⟨Nat.le_of_ble_eq_true rfl, Nat.le_of_ble_eq_true rfl⟩) (fun _ H locs S => ?_)
  have S : SG D A ([(h0, .inr (4, [.ref q1, .ref q2, .ref q3, .int 12, .int 18, .int 2500, .int 0, .int 0, .int 0])), (q1, .inl (cA 1, 4, .inr (.inr (.inr (.inr (va_up (va_up (va_up (va_up (fun _ => none) 0 (some q4)) 1 (some q6)) 2 (some q8)) 3 (some q10))))))), (q2, .inl (cA 0, 4, .inl (filF (fun _ => 0) 10000 4))), (q3, .inl (cA 0, 16, .inl (filF (fun _ => 0) 100 16)))] ++ stC cA q4 qa5 ++ stC cA q6 qa7 ++ stC cA q8 qa9 ++ stC cA q10 qa11) s.heap H _ := g_perm S [0, 1, 2, 35, 3, 4, 5, 6, 7, 8, 9, 10, 11, 12, 13, 14, 15, 16, 17, 18, 19, 20, 21, 22, 23, 24, 25, 26, 27, 28, 29, 30, 31, 32, 33, 34] (by decide) rfl rfl
  refine lv_aload_n hx hb dX4_init_110 rfl (lv_at hl 1 rfl) ?_
  refine g_getr X S hw4 0 rfl rfl 2 (by decide) (hts (.fieldLink RX4 19 "TermBill" "shares" "[I") (by decide +kernel)) rfl dX4_init_111 ?_
  refine lv_iconst (v := 0) hx hb dX4_init_114 (by decide) ?_
  refine lv_iconst (v := 0) hx hb dX4_init_115 (by decide) ?_
  refine g_iast X S 3 rfl (j := 0) (by decide) (by decide) (by decide) dX4_init_116 (fun H locs S => ?_)
  have S : SG D A ([(h0, .inr (4, [.ref q1, .ref q2, .ref q3, .int 12, .int 18, .int 2500, .int 0, .int 0, .int 0])), (q1, .inl (cA 1, 4, .inr (.inr (.inr (.inr (va_up (va_up (va_up (va_up (fun _ => none) 0 (some q4)) 1 (some q6)) 2 (some q8)) 3 (some q10))))))), (q2, .inl (cA 0, 4, .inl (filF (fun _ => 0) 10000 4))), (q3, .inl (cA 0, 16, .inl (upd (filF (fun _ => 0) 100 16) 0 0)))] ++ stC cA q4 qa5 ++ stC cA q6 qa7 ++ stC cA q8 qa9 ++ stC cA q10 qa11) s.heap H _ := S
  refine lv_aload_n hx hb dX4_init_117 rfl (lv_at hl 1 rfl) ?_
  refine g_getr X S hw4 0 rfl rfl 2 (by decide) (hts (.fieldLink RX4 19 "TermBill" "shares" "[I") (by decide +kernel)) rfl dX4_init_118 ?_
  refine lv_iconst (v := 1) hx hb dX4_init_121 (by decide) ?_
  refine lv_iconst (v := 0) hx hb dX4_init_122 (by decide) ?_
  refine g_iast X S 3 rfl (j := 1) (by decide) (by decide) (by decide) dX4_init_123 (fun H locs S => ?_)
  have S : SG D A ([(h0, .inr (4, [.ref q1, .ref q2, .ref q3, .int 12, .int 18, .int 2500, .int 0, .int 0, .int 0])), (q1, .inl (cA 1, 4, .inr (.inr (.inr (.inr (va_up (va_up (va_up (va_up (fun _ => none) 0 (some q4)) 1 (some q6)) 2 (some q8)) 3 (some q10))))))), (q2, .inl (cA 0, 4, .inl (filF (fun _ => 0) 10000 4))), (q3, .inl (cA 0, 16, .inl (upd (upd (filF (fun _ => 0) 100 16) 0 0) 1 0)))] ++ stC cA q4 qa5 ++ stC cA q6 qa7 ++ stC cA q8 qa9 ++ stC cA q10 qa11) s.heap H _ := S
  have hst9 : va_up (va_up (va_up (va_up (fun _ => none) 0 (some q4)) 1 (some q6)) 2 (some q8)) 3 (some q10) = stf (a0 h0 (fun k => [0, q1, q2, q3, q4, qa5 1, qa5 2, qa5 3, qa5 4, qa5 5, qa5 6, qa5 7, q6, qa7 1, qa7 2, qa7 3, qa7 4, qa7 5, qa7 6, qa7 7, q8, qa9 1, qa9 2, qa9 3, qa9 4, qa9 5, qa9 6, qa9 7, q10, qa11 1, qa11 2, qa11 3, qa11 4, qa11 5, qa11 6, qa11 7].getD k 0)) := by
    funext j
    match j with
    | 0 => rfl
    | 1 => rfl
    | 2 => rfl
    | 3 => rfl
    | j + 4 => simp [va_up, stf]
  rw [hst9] at S
  exact g_vret X hAe S hr dX4_init_124 (Nat.le_of_ble_eq_true rfl) (Nat.le_of_ble_eq_true rfl) (fun k => [0, q1, q2, q3, q4, qa5 1, qa5 2, qa5 3, qa5 4, qa5 5, qa5 6, qa5 7, q6, qa7 1, qa7 2, qa7 3, qa7 4, qa7 5, qa7 6, qa7 7, q8, qa9 1, qa9 2, qa9 3, qa9 4, qa9 5, qa9 6, qa9 7, q10, qa11 1, qa11 2, qa11 3, qa11 4, qa11 5, qa11 6, qa11 7].getD k 0) rfl

