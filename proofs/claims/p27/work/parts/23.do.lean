/-! the call by number: what it tells, and what the reference's numbers are then -/
def DO (l : Launch) (n : Nat) (h a b c : Int32) (M : FF) (k : Int32) (M' : FF) : Prop := (k = -1000000001 → M' = M) ∧ (0 ≤ (M 36 8).toInt → 0 ≤ (M' 36 8).toInt) ∧ ∀ F : FF, RX n F M → ∃ F1 : FF, (∀ (D : va_G) (cA : Nat → ClassId) (ad : Nat → Nat) (sz : Nat), CI l D cA ad sz yL_does wsL_does 9 161 1 6 [.ref (ad 0), .int h, .int a, .int b, .int c] F (some (.int k)) F1) ∧ RX (n + 1) F1 M'
theorem DO_x {l : Launch} {n : Nat} {h a b c : Int32} {M : FF} (hx : ∀ F : FF, RX n F M → ∃ F1 : FF, (∀ (D : va_G) (cA : Nat → ClassId) (ad : Nat → Nat) (sz : Nat), CI l D cA ad sz yL_does wsL_does 9 161 1 6 [.ref (ad 0), .int h, .int a, .int b, .int c] F (some (.int (-1000000001))) F1) ∧ RX n F1 M) : DO l n h a b c M (-1000000001) M :=
  ⟨fun _ => rfl, id, fun F hF => by
    obtain ⟨F1, c1, r1⟩ := hx F hF
    exact ⟨F1, c1, RX_of (Nat.le_succ n) r1 (EC_rfl F1) (EM_rfl M)⟩⟩
theorem iE : (-1000000001 : Int32).toInt = -1000000001 := by decide
theorem neE {k : Int32} (h : -1000000001 < k.toInt) : ¬ k = -1000000001 := fun e => by rw [e, iE] at h; omega
theorem DO_w {l : Launch} {n : Nat} {h a b c : Int32} {M : FF} {k : Int32} {M' : FF} (hk : -1000000001 < k.toInt) (hL : 0 ≤ (M 36 8).toInt → 0 ≤ (M' 36 8).toInt) (hw : ∀ F : FF, RX n F M → ∃ F1 : FF, (∀ (D : va_G) (cA : Nat → ClassId) (ad : Nat → Nat) (sz : Nat), CI l D cA ad sz yL_does wsL_does 9 161 1 6 [.ref (ad 0), .int h, .int a, .int b, .int c] F (some (.int k)) F1) ∧ RX (n + 1) F1 M') : DO l n h a b c M k M' := ⟨fun e => absurd e (neE hk), hL, hw⟩
theorem ciV {l : Launch} {D : va_G} {cA : Nat → ClassId} {ad : Nat → Nat} {sz : Nat} {y : MethodName} {ws : List Cond} {fr lo mc ms : Nat} {av : List Value} {F F1 : FF} {k k' : Int32} (h : CI l D cA ad sz y ws fr lo mc ms av F (some (.int k)) F1) (e : k = k') : CI l D cA ad sz y ws fr lo mc ms av F (some (.int k')) F1 := e ▸ h
theorem do_rate {l : Launch} (hst : l.stackTraces = false) {n : Nat} (hn : n < 512) {F0 M : FF} (h0 : RX n F0 M) (a b c : Int32) : ∃ (k : Int32) (M' : FF), DO l n 0 a b c M k M' := by
  by_cases h : wi a 0 1 = true ∧ wi c 0 100000 = true
  · obtain ⟨h1, h2⟩ := h
    exact ⟨_, _, DO_w (by have := (pm_rate h0 a (decide (b = 1)) c h2).2.1; omega) (fun z => by rw [u2_cell _ _ _ (by omega)]; exact z) (fun F hF => ⟨_, fun D cA ad sz => ciV (w_does_setRate l D cA ad sz F a b c h1 h2) (pm_rate hF a (decide (b = 1)) c h2).1, (pm_rate hF a (decide (b = 1)) c h2).2.2⟩)⟩
  · exact ⟨_, _, DO_x (fun F hF => ⟨F, fun D cA ad sz => x1_does_setRate l D cA ad sz F hst a b c h, hF⟩)⟩
theorem do_share {l : Launch} (hst : l.stackTraces = false) {n : Nat} (hn : n < 512) {F0 M : FF} (h0 : RX n F0 M) (a b c : Int32) : ∃ (k : Int32) (M' : FF), DO l n 2 a b c M k M' := by
  by_cases h : wi a 0 15 = true ∧ wi b 0 100 = true
  · obtain ⟨h1, h2⟩ := h
    obtain ⟨w, hw, ew⟩ := wk_i h1
    rw [ew]
    exact ⟨_, _, DO_w (by have := (pm_share h0 hw b h2).2.1; omega) (fun z => by rw [u2_cell _ _ _ (by omega)]; exact z) (fun F hF => ⟨_, fun D cA ad sz => ciV (w_does_setShare l D cA ad sz F w hw b h2 c) (pm_share hF hw b h2).1, (pm_share hF hw b h2).2.2⟩)⟩
  · exact ⟨_, _, DO_x (fun F hF => ⟨F, fun D cA ad sz => x1_does_setShare l D cA ad sz F hst a b h c, hF⟩)⟩
theorem do_band {l : Launch} (hst : l.stackTraces = false) {n : Nat} (hn : n < 512) {F0 M : FF} (h0 : RX n F0 M) (a b c : Int32) : ∃ (k : Int32) (M' : FF), DO l n 1 a b c M k M' := by
  by_cases h : wi a 1 30 = true ∧ wi b a 30 = true
  · obtain ⟨h1, h2⟩ := h
    exact ⟨0, _, DO_w (by rw [i0]; omega) (fun z => by rw [u2_ne _ _ (by omega), u2_ne _ _ (by omega)]; exact z) (fun F hF => ⟨_, fun D cA ad sz => w_does_setBand l D cA ad sz F a b h1 h2 c, pm_band hF a b h1 h2⟩)⟩
  · exact ⟨_, _, DO_x (fun F hF => ⟨F, fun D cA ad sz => x1_does_setBand l D cA ad sz F hst a b h c, hF⟩)⟩
theorem do_fees {l : Launch} (hst : l.stackTraces = false) {n : Nat} (hn : n < 512) {F0 M : FF} (h0 : RX n F0 M) (a b c : Int32) : ∃ (k : Int32) (M' : FF), DO l n 3 a b c M k M' := by
  by_cases h : wi a 0 100000 = true ∧ wi b 0 1000000 = true
  · obtain ⟨h1, h2⟩ := h
    exact ⟨0, _, DO_w (by rw [i0]; omega) (fun _ => by rw [u2_eq]; exact (wi_bt i0 i1e6 h2).1) (fun F hF => ⟨_, fun D cA ad sz => w_does_setFees l D cA ad sz F a b h1 h2 c, pm_fees hF a b h1⟩)⟩
  · exact ⟨_, _, DO_x (fun F hF => ⟨F, fun D cA ad sz => x1_does_setFees l D cA ad sz F hst a b h c, hF⟩)⟩
theorem do_four {l : Launch} (hst : l.stackTraces = false) {n : Nat} (hn : n < 512) {F0 M : FF} (h0 : RX n F0 M) (a b c : Int32) : ∃ (k : Int32) (M' : FF), DO l n 4 a b c M k M' := by
  cases hx : wi a 0 3 with
  | false =>
    by_cases hc : c < 0
    · exact ⟨_, _, DO_x (fun F hF => ⟨F, fun D cA ad sz => x1_does_setStudent l D cA ad sz F hst b c hc a hx, hF⟩)⟩
    · exact ⟨_, _, DO_x (fun F hF => ⟨F, fun D cA ad sz => x1_does_setSponsor l D cA ad sz F hst a b c hx hc, hF⟩)⟩
  | true =>
    obtain ⟨i, hi, ex⟩ := stu_i hx
    rw [ex]
    by_cases hc : c < 0
    · by_cases h : wi (b &&& 1) 0 1 = true ∧ wi (-1 - c) 0 1000000 = true
      · obtain ⟨h1, h2⟩ := h
        exact ⟨0, _, DO_w (by rw [i0]; omega) (fun z => by rw [u2_cell _ _ _ (by omega), u2_cell _ _ _ (by omega), u2_cell _ _ _ (by omega)]; exact z) (fun F hF => ⟨_, fun D cA ad sz => w_does_setStudent l D cA ad sz F b c hc i hi h1 h2, pm_student hF hi (b &&& 1) (decide (b &&& 2 = 0)) (-1 - c) h1 h2⟩)⟩
      · exact ⟨_, _, DO_x (fun F hF => ⟨F, fun D cA ad sz => x2_does_setStudent l D cA ad sz F hst b c hc i hi h, hF⟩)⟩
    · by_cases h : wi b 0 7 = true ∧ wi c 0 1000000 = true
      · obtain ⟨h1, h2⟩ := h
        exact ⟨0, _, DO_w (by rw [i0]; omega) (fun z => by rw [u2_cell _ _ _ (by omega), u2_cell _ _ _ (by omega)]; exact z) (fun F hF => ⟨_, fun D cA ad sz => w_does_setSponsor l D cA ad sz F i hi b c h1 h2 hc, pm_sponsor hF hi b c h1 h2⟩)⟩
      · exact ⟨_, _, DO_x (fun F hF => ⟨F, fun D cA ad sz => x2_does_setSponsor l D cA ad sz F hst i hi b c h hc, hF⟩)⟩
theorem tk_n {n : Nat} {F M : FF} (h : RX n F M) {i : Nat} (hi : i < 4) : F (4 + 8 * i + 1) 1 = nI (tM M i) := (h.2.2 i hi).2.2.1.1.trans (h.2.2 i hi).2.2.1.2.2.1
theorem tk_8 {n : Nat} {F M : FF} (h : RX n F M) {i : Nat} (hi : i < 4) : tM M i ≤ 8 := (h.2.2 i hi).2.2.1.2.1
theorem do_take_ok {l : Launch} {n : Nat} {M : FF} {i : Nat} (hi : i < 4) (cr c : Int32) (h1 : wi cr 1 10 = true) (ht : tM M i < 8) : DO l n 5 (nI i) cr c M (nI (tM M i)) (mtF M i cr) :=
  DO_w (by rw [iN (by omega)]; omega) (fun z => by unfold mtF; simp (disch := omega) only [u2_cell, u2_ne]; exact z) (fun F hF => ⟨_, fun D cA ad sz => w_does_take l D cA ad sz F i hi cr h1 (tM M i) ht (tk_n hF hi) c, pm_take hF hi cr h1 ht⟩)
theorem do_take_full {l : Launch} (hst : l.stackTraces = false) {n : Nat} {M : FF} {i : Nat} (hi : i < 4) (cr c : Int32) (h1 : wi cr 1 10 = true) (ht : tM M i = 8) : DO l n 5 (nI i) cr c M (-1000000001) M :=
  DO_x (fun F hF => ⟨F, fun D cA ad sz => x3_does_take l D cA ad sz F hst i hi cr h1 (by rw [tk_n hF hi, ht]) c, hF⟩)
theorem do_take {l : Launch} (hst : l.stackTraces = false) {n : Nat} (hn : n < 512) {F0 M : FF} (h0 : RX n F0 M) (a b c : Int32) : ∃ (k : Int32) (M' : FF), DO l n 5 a b c M k M' := by
  cases hx : wi a 0 3 with
  | false => exact ⟨_, _, DO_x (fun F hF => ⟨F, fun D cA ad sz => x1_does_take l D cA ad sz F hst a b hx c, hF⟩)⟩
  | true =>
    obtain ⟨i, hi, ex⟩ := stu_i hx
    rw [ex]
    cases h1 : wi b 1 10 with
    | false => exact ⟨_, _, DO_x (fun F hF => ⟨F, fun D cA ad sz => x2_does_take l D cA ad sz F hst i hi b h1 c, hF⟩)⟩
    | true =>
      by_cases ht : tM M i = 8
      · exact ⟨_, _, do_take_full hst hi b c h1 ht⟩
      · exact ⟨_, _, do_take_ok hi b c h1 (by have := tk_8 h0 hi; omega)⟩
theorem cr_0 {n : Nat} {F M : FF} (h : RX n F M) {i j : Nat} (hi : i < 4) (hj : j < tM M i) : F (4 + 8 * i + 2) j = if M 46 (8 * i + j) = 0 then M 45 (8 * i + j) else 0 := by
  have h3 := (h.2.2 i hi).2.2.1
  have h8 : tM M i ≤ 8 := h3.2.1
  have e5 := h3.2.2.2.2.1 j (by omega)
  rw [e5]
  by_cases hz : M 46 (8 * i + j) = 0
  · rw [if_pos hz, if_pos ⟨hj, hz⟩]
  · rw [if_neg hz, if_neg (fun q => hz q.2)]
theorem cr_p {n : Nat} {F M : FF} (h : RX n F M) {i j : Nat} (hi : i < 4) (hj : j < tM M i) (hz : M 46 (8 * i + j) = 0) : ¬ F (4 + 8 * i + 2) j = 0 := by
  have b5 := ((h.2.2 i hi).2.2.1.2.2.2.2.2.1 j hj hz).1
  rw [cr_0 h hi hj, if_pos hz]
  intro q
  rw [q, i0] at b5
  omega
theorem wk_n {n : Nat} {F M : FF} (h : RX n F M) : wkN M < 16 ∧ M 36 1 = nI (wkN M) := ⟨h.2.1.2.2.1, h.2.1.2.2.2.1⟩
theorem do_drop_x {l : Launch} (hst : l.stackTraces = false) {n : Nat} {M : FF} {i j : Nat} (hi : i < 4) (c : Int32) (hj : j < tM M i) (h8 : tM M i ≤ 8) (hz : ¬ M 46 (8 * i + j) = 0) : DO l n 6 (nI i) (nI j) c M (-1000000001) M :=
  DO_x (fun F hF => ⟨F, fun D cA ad sz => x2_does_drop l D cA ad sz F hst i hi j (by omega) (by rw [tk_n hF hi]; exact hasI_nI hj h8) (by rw [cr_0 hF hi hj, if_neg hz]) c, hF⟩)
theorem mdK_b {n : Nat} {F M : FF} (h : RX n F M) {i j w : Nat} (hi : i < 4) (hj : j < tM M i) (hw : w < 16) : 0 ≤ (mdK M i j w).toInt := by
  exact (dr_bd h.1 (h.2.2 i hi).1 (h.2.2 i hi).2.2.1 hj hw).1
theorem do_drop {l : Launch} (hst : l.stackTraces = false) {n : Nat} (hn : n < 512) {F0 M : FF} (h0 : RX n F0 M) (a b c : Int32) : ∃ (k : Int32) (M' : FF), DO l n 6 a b c M k M' := by
  cases hx : wi a 0 3 with
  | false => exact ⟨_, _, DO_x (fun F hF => ⟨F, fun D cA ad sz => x1_does_drop l D cA ad sz F hst a b hx c, hF⟩)⟩
  | true =>
    obtain ⟨i, hi, ex⟩ := stu_i hx
    rw [ex]
    have h8 := tk_8 h0 hi
    cases hy : hasI b (nI (tM M i)) with
    | false => exact ⟨_, _, DO_x (fun F hF => ⟨F, fun D cA ad sz => x4_does_drop l D cA ad sz F hst i hi b (by rw [tk_n hF hi]; exact hy) c, hF⟩)⟩
    | true =>
      obtain ⟨j, hj, ey⟩ := hasI_j h8 hy
      rw [ey]
      by_cases hz : M 46 (8 * i + j) = 0
      · obtain ⟨hw, ew⟩ := wk_n h0
        exact ⟨_, _, DO_w (by have := mdK_b h0 hi hj hw; omega) (fun z => by unfold mdF md0; simp (disch := omega) only [u2_cell, u2_ne]; exact z) (fun F hF => ⟨_, fun D cA ad sz => ciV (w_does_drop l D cA ad sz F i hi j (by omega) (by rw [tk_n hF hi]; exact hasI_nI hj h8) (cr_p hF hi hj hz) (wkN M) hw (hF.2.1.1.trans ew) c) (pm_drop hF hi hj hw).1, (pm_drop hF hi hj hw).2⟩)⟩
      · exact ⟨_, _, do_drop_x hst hi c hj h8 hz⟩
theorem chg_b {x c : Int32} (h1 : 0 ≤ x.toInt) (h2 : x.toInt ≤ 700000000) (hc : wi c 1 1000000 = true) : -1000000001 < (x + c).toInt := by
  have ba := wi_bt i1 i1e6 hc
  have := ba.1
  have := ba.2
  rw [iadd (by omega) (by omega)]
  omega
theorem chg_1 {n : Nat} (hn : n < 512) {F M : FF} (h : RX n F M) {i : Nat} (hi : i < 4) : (M 48 i).toInt ≤ 700000000 := by
  have hB := Bmax (by omega) h
  have q := (h.2.2 i hi).2.1
  have := q.2.2.2.2.1
  have := q.2.2.2.2.2.1
  omega
theorem chg_2 {n : Nat} (hn : n < 512) {F M : FF} (h : RX n F M) {i : Nat} (hi : i < 4) : (M 49 i).toInt ≤ 700000000 := by
  have hB := Bmax (by omega) h
  have q := (h.2.2 i hi).2.1
  have := q.2.2.2.1
  have := q.2.2.2.2.2.1
  omega
theorem do_charge {l : Launch} (hst : l.stackTraces = false) {n : Nat} (hn : n < 512) {F0 M : FF} (h0 : RX n F0 M) (a b c : Int32) : ∃ (k : Int32) (M' : FF), DO l n 7 a b c M k M' := by
  cases hx : wi a 0 3 with
  | false => exact ⟨_, _, DO_x (fun F hF => ⟨F, fun D cA ad sz => x1_does_charge l D cA ad sz F hst a b c hx, hF⟩)⟩
  | true =>
    obtain ⟨i, hi, ex⟩ := stu_i hx
    rw [ex]
    by_cases h : (b = 1 ∨ b = 2) ∧ wi c 1 1000000 = true
    · obtain ⟨h1, h2⟩ := h
      rcases h1 with eb | eb
      · rw [eb]
        exact ⟨_, _, DO_w (chg_b (h0.2.2 i hi).2.1.2.2.2.1 (chg_1 hn h0 hi) h2) (fun z => by unfold mcF; simp (disch := omega) only [u2_cell, u2_ne]; exact z) (fun F hF => ⟨_, fun D cA ad sz => ciV (w_does_charge1 l D cA ad sz F i hi c h2) (by rw [(pm_charge1 hn hF hi c h2).1]), (pm_charge1 hn hF hi c h2).2⟩)⟩
      · rw [eb]
        exact ⟨_, _, DO_w (chg_b (h0.2.2 i hi).2.1.2.2.2.2.1 (chg_2 hn h0 hi) h2) (fun z => by unfold mcF; simp (disch := omega) only [u2_cell, u2_ne]; exact z) (fun F hF => ⟨_, fun D cA ad sz => ciV (w_does_charge2 l D cA ad sz F i hi c h2) (by rw [(pm_charge2 hn hF hi c h2).1]), (pm_charge2 hn hF hi c h2).2⟩)⟩
    · exact ⟨_, _, DO_x (fun F hF => ⟨F, fun D cA ad sz => x2_does_charge l D cA ad sz F hst i hi b c h, hF⟩)⟩
theorem do_award {l : Launch} (hst : l.stackTraces = false) {n : Nat} (hn : n < 512) {F0 M : FF} (h0 : RX n F0 M) (a b c : Int32) : ∃ (k : Int32) (M' : FF), DO l n 8 a b c M k M' := by
  cases hx : wi a 0 3 with
  | false => exact ⟨_, _, DO_x (fun F hF => ⟨F, fun D cA ad sz => x1_does_award l D cA ad sz F hst a b c hx, hF⟩)⟩
  | true =>
    obtain ⟨i, hi, ex⟩ := stu_i hx
    rw [ex]
    by_cases h : wi b 0 2 = true ∧ wi c 1 1000000 = true
    · obtain ⟨h1, h2⟩ := h
      have h6 := aw_6 h0 hi
      by_cases ht : aM M i = 6
      · exact ⟨_, _, DO_x (fun F hF => ⟨F, fun D cA ad sz => x3_does_award l D cA ad sz F hst i hi b c h1 h2 (by rw [aw_n hF hi, ht]), hF⟩)⟩
      · have ht6 : aM M i < 6 := by omega
        exact ⟨_, _, DO_w (by rw [iN (by omega)]; omega) (fun z => by unfold maF; simp (disch := omega) only [u2_cell, u2_ne]; exact z) (fun F hF => ⟨_, fun D cA ad sz => w_does_award l D cA ad sz F i hi b c h1 h2 (aM M i) ht6 (aw_n hF hi), pm_award hF hi b c h1 h2 ht6⟩)⟩
    · exact ⟨_, _, DO_x (fun F hF => ⟨F, fun D cA ad sz => x2_does_award l D cA ad sz F hst i hi b c h, hF⟩)⟩
theorem ow_bd {n : Nat} (hn : n ≤ 512) {F M : FF} (h : RX n F M) {i : Nat} (hi : i < 4) : -512000000 ≤ (owM M i).toInt ∧ (owM M i).toInt ≤ 648000000 := by
  have hB := Bmax hn h
  have q := ow_b h.1 (h.2.2 i hi) (by omega) (by omega)
  omega
theorem pl_b {b : Int32} {q : Nat} (hq : q < 4) (h0 : ¬ b ≤ 0) : 0 ≤ (plS b (q + 1)).toInt := by
  rw [ile, i0] at h0
  have eq1 : (nI (q + 1)).toInt = (q : Int) + 1 := by rw [iN (by omega)]; omega
  have e1 := idiv (a := b) (b := nI (q + 1)) (by omega) (by rw [eq1]; omega)
  have e2 : (nI (q + 1) - 1).toInt = q := by rw [isub (by rw [eq1, i1]; omega) (by rw [eq1, i1]; omega), eq1, i1]; omega
  rw [eq1] at e1
  have l1 : b.toInt / ((q : Int) + 1) * (q : Int) ≤ b.toInt := by
    have d1 : 0 ≤ b.toInt / ((q : Int) + 1) := Int.ediv_nonneg (by omega) (by omega)
    have d2 : b.toInt / ((q : Int) + 1) * ((q : Int) + 1) ≤ b.toInt := Int.ediv_mul_le _ (by omega)
    rw [Int.mul_add, Int.mul_one] at d2
    omega
  have l0 : 0 ≤ b.toInt / ((q : Int) + 1) * (q : Int) := Int.mul_nonneg (Int.ediv_nonneg (by omega) (by omega)) (by omega)
  have bu : b.toInt ≤ 2147483647 := by have := Int32.toInt_lt b; omega
  have e3 : (b / nI (q + 1) * (nI (q + 1) - 1)).toInt = b.toInt / ((q : Int) + 1) * (q : Int) := by
    rw [imul (by rw [e1, e2]; omega) (by rw [e1, e2]; omega), e1, e2]
  unfold plS
  rw [isub (by rw [e3]; omega) (by rw [e3]; omega), e3]
  omega
theorem do_pay {l : Launch} (hst : l.stackTraces = false) {n : Nat} (hn : n < 512) {F0 M : FF} (h0 : RX n F0 M) (a b c : Int32) : ∃ (k : Int32) (M' : FF), DO l n 9 a b c M k M' := by
  cases hx : wi a 0 3 with
  | false => exact ⟨_, _, DO_x (fun F hF => ⟨F, fun D cA ad sz => x1_does_pay l D cA ad sz F hst a b hx c, hF⟩)⟩
  | true =>
    obtain ⟨i, hi, ex⟩ := stu_i hx
    rw [ex]
    cases h1 : wi b 1 1000000 with
    | false => exact ⟨_, _, DO_x (fun F hF => ⟨F, fun D cA ad sz => x2_does_pay l D cA ad sz F hst i hi b h1 c, hF⟩)⟩
    | true => exact ⟨_, _, DO_w (by have := (ow_bd (by omega) (pm_pay hn h0 hi b h1).2 hi).1; omega) (fun z => by unfold mpF; simp (disch := omega) only [u2_cell, u2_ne]; exact z) (fun F hF => ⟨_, fun D cA ad sz => ciV (w_does_pay l D cA ad sz F i hi b h1 c) (pm_pay hn hF hi b h1).1, (pm_pay hn hF hi b h1).2⟩)⟩
theorem do_plan {l : Launch} (hst : l.stackTraces = false) {n : Nat} (hn : n < 512) {F0 M : FF} (h0 : RX n F0 M) (a b c : Int32) : ∃ (k : Int32) (M' : FF), DO l n 10 a b c M k M' := by
  cases hx : wi a 0 3 with
  | false => exact ⟨_, _, DO_x (fun F hF => ⟨F, fun D cA ad sz => x1_does_plan l D cA ad sz F hst a b hx c, hF⟩)⟩
  | true =>
    obtain ⟨i, hi, ex⟩ := stu_i hx
    rw [ex]
    cases h1 : wi b 1 4 with
    | false => exact ⟨_, _, DO_x (fun F hF => ⟨F, fun D cA ad sz => x2_does_plan l D cA ad sz F hst i hi b h1 c, hF⟩)⟩
    | true =>
      obtain ⟨q, hq, ey⟩ := mo_i h1
      rw [ey]
      by_cases hb : owM M i ≤ 0
      · exact ⟨_, _, DO_x (fun F hF => ⟨_, fun D cA ad sz => x3_does_plan l D cA ad sz F hst i hi q hq (by rw [(bal_M (by omega) hi hF).1]; exact hb) c, pm_bal hF hi⟩)⟩
      · exact ⟨_, _, DO_w (by have := pl_b hq hb; omega) (fun z => by unfold mlF ml3; simp (disch := omega) only [u2_cell, u2_ne]; exact z) (fun F hF => ⟨_, fun D cA ad sz => ciV (w_does_plan l D cA ad sz F i hi q hq (by rw [(bal_M (by omega) hi hF).1]; exact hb) c) (pm_plan hn hF hi q).1, (pm_plan hn hF hi q).2⟩)⟩
theorem mzV_b {n : Nat} {F M : FF} (h : RX n F M) {i w : Nat} (hi : i < 4) (hw : w < 16) (ew : M 36 1 = nI w) : -1000000001 < (mzV M i w).toInt := by
  rw [← (pm_leave h hi hw ew).1]
  have hS := h.2.2 i hi
  have := le_b (w := w) h.1 hS.1 hS.2.2.1 hS.2.2.2.1 hw (h.2.1.1.trans ew) ew
  omega
theorem do_leave {l : Launch} (hst : l.stackTraces = false) {n : Nat} (hn : n < 512) {F0 M : FF} (h0 : RX n F0 M) (a b c : Int32) : ∃ (k : Int32) (M' : FF), DO l n 11 a b c M k M' := by
  cases hx : wi a 0 3 with
  | false => exact ⟨_, _, DO_x (fun F hF => ⟨F, fun D cA ad sz => x1_does_leave l D cA ad sz F hst a hx b c, hF⟩)⟩
  | true =>
    obtain ⟨i, hi, ex⟩ := stu_i hx
    rw [ex]
    obtain ⟨hw, ew⟩ := wk_n h0
    exact ⟨_, _, DO_w (mzV_b h0 hi hw ew) (fun z => by rw [mzF_ne (tk_8 h0 hi) (by omega) (by omega) (by omega), show th M 0 36 8 = M 36 8 from u2_ne _ _ (by omega)]; exact z) (fun F hF => ⟨_, fun D cA ad sz => ciV (w_does_leave l D cA ad sz F i hi (wkN M) hw (hF.2.1.1.trans ew) b c) (pm_leave hF hi hw ew).1, (pm_leave hF hi hw ew).2⟩)⟩
def dwK (M : FF) : Int32 := if wkN M < 15 then fl4 (mw1 M) 36 1 else if tmN M < 9 then fl4 (enM (th M 0)) 36 1 else -1000000001
def dwM (M : FF) : FF := if wkN M < 15 then fl4 (mw1 M) else if tmN M < 9 then fl4 (enM (th M 0)) else M
theorem do_close {l : Launch} (hst : l.stackTraces = false) {n : Nat} (hn : n < 512) {F0 M : FF} (h0 : RX n F0 M) (w4 a b c : Int32) (n0 : ¬ w4 = 0) (n1 : ¬ w4 = 1) (n3 : ¬ w4 = 3) (n4 : ¬ w4 = 4) (n2 : ¬ w4 = 2) (n5 : ¬ w4 = 5) (n6 : ¬ w4 = 6) (n7 : ¬ w4 = 7) (n8 : ¬ w4 = 8) (n9 : ¬ w4 = 9) (n10 : ¬ w4 = 10) (n11 : ¬ w4 = 11) : DO l n w4 a b c M (dwK M) (dwM M) := by
  unfold dwK dwM
  by_cases hw : wkN M < 15
  · rw [if_pos hw, if_pos hw]
    exact DO_w (by rw [(pm_week hn h0 hw).2.2.2.2.1, iN (by omega)]; omega) (fun z => by rw [fl4_row (by omega)]; unfold mw1; rw [u2_ne _ _ (by omega), show th M 0 36 8 = M 36 8 from u2_ne _ _ (by omega)]; exact z) (fun F hF => ⟨_, fun D cA ad sz => ciV (w_does_closeWeek1 l D cA ad sz F (pm_week hn hF hw).1 w4 n0 n1 n3 n4 n2 n5 n6 n7 n8 n9 n10 n11 a b c) (pm_week hn hF hw).2.1, (pm_week hn hF hw).2.2.1⟩)
  · rw [if_neg hw, if_neg hw]
    by_cases ht : tmN M < 9
    · rw [if_pos ht, if_pos ht]
      exact DO_w (by have q := wk_n (pm_term hn h0 hw ht).2.2.2; rw [q.2, iN (by omega)]; omega) (fun z => by rw [fl4_row (by omega)]; unfold enM; rw [u2_ne _ _ (by omega), u2_ne _ _ (by omega), etA_row (by omega), ec_c2, c2_row (by omega), c2_row (by omega), show th M 0 36 8 = M 36 8 from u2_ne _ _ (by omega)]; exact z) (fun F hF => ⟨_, fun D cA ad sz => ciV (w_does_closeWeek2 l D cA ad sz F (pm_term hn hF hw ht).1 (pm_term hn hF hw ht).2.1 w4 n0 n1 n3 n4 n2 n5 n6 n7 n8 n9 n10 n11 a b c) (pm_term hn hF hw ht).2.2.1, (pm_term hn hF hw ht).2.2.2⟩)
    · rw [if_neg ht, if_neg ht]
      exact DO_x (fun F hF => ⟨F, fun D cA ad sz => x1_does_closeWeek l D cA ad sz F hst (pm_last hF hw ht).1 (pm_last hF hw ht).2 w4 n0 n1 n3 n4 n2 n5 n6 n7 n8 n9 n10 n11 a b c, hF⟩)
theorem do_any {l : Launch} (hst : l.stackTraces = false) {n : Nat} (hn : n < 512) {F0 M : FF} (h0 : RX n F0 M) (h a b c : Int32) : ∃ (k : Int32) (M' : FF), DO l n h a b c M k M' := by
  by_cases n0 : h = 0
  · rw [n0]; exact do_rate hst hn h0 a b c
  by_cases n1 : h = 1
  · rw [n1]; exact do_band hst hn h0 a b c
  by_cases n3 : h = 3
  · rw [n3]; exact do_fees hst hn h0 a b c
  by_cases n4 : h = 4
  · rw [n4]; exact do_four hst hn h0 a b c
  by_cases n2 : h = 2
  · rw [n2]; exact do_share hst hn h0 a b c
  by_cases n5 : h = 5
  · rw [n5]; exact do_take hst hn h0 a b c
  by_cases n6 : h = 6
  · rw [n6]; exact do_drop hst hn h0 a b c
  by_cases n7 : h = 7
  · rw [n7]; exact do_charge hst hn h0 a b c
  by_cases n8 : h = 8
  · rw [n8]; exact do_award hst hn h0 a b c
  by_cases n9 : h = 9
  · rw [n9]; exact do_pay hst hn h0 a b c
  by_cases n10 : h = 10
  · rw [n10]; exact do_plan hst hn h0 a b c
  by_cases n11 : h = 11
  · rw [n11]; exact do_leave hst hn h0 a b c
  exact ⟨_, _, do_close hst hn h0 h a b c n0 n1 n3 n4 n2 n5 n6 n7 n8 n9 n10 n11⟩
