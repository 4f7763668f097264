/-! the calls that ask -/
theorem th59 (G : FF) (r p : Int32) : th (u2 G 59 0 r) p 59 0 = r := (u2_ne _ _ (by omega)).trans (u2_eq _ _ _ _)
theorem EMh {n : Nat} {F : FF} {i : Nat} (hR : REL n F) (hi : i < 4) : OKM F i := RX_OKM hR hi
theorem rk_i {x : Int32} (h : bt x 0 2) : ∃ r, r < 3 ∧ x = nI r := by
  have e : x.toNatClampNeg = x.toInt.toNat := rfl
  refine ⟨x.toNatClampNeg, by have := h.2; omega, ?_⟩
  apply ieq
  rw [iN (by have := h.2; omega), e]
  have := h.1
  omega
theorem tM_of {F G : FF} {i : Nat} (h : G 44 i = F 44 i) : tM G i = tM F i := by unfold tM; rw [h]
theorem aM_of {F G : FF} {i : Nat} (h : G 50 i = F 50 i) : aM G i = aM F i := by unfold aM; rw [h]
theorem op_credits {l : Launch} (hst : l.stackTraces = false) {n : Nat} (hn : n < 512) {F : FF} (hR : REL n F) (x : Int32) : ∃ (k bb : Int32) (F1 F2 : FF), (∀ (D : va_G) (cA : Nat → ClassId) (ad : Nat → Nat) (sz : Nat), CI l D cA ad sz yL_credits wsL_credits 8 133 1 6 [.ref (ad 0), .int x, .ref (ad 59)] F (some (.int k)) F1) ∧ (∀ (D : va_G) (cA : Nat → ClassId) (ad : Nat → Nat) (sz : Nat), CI l D cA ad sz yX5_credits wsX5_credits 2 42 0 0 [.ref (ad 36), .int x] F1 (some (.int bb)) F2) ∧ F2 36 0 = k ∧ (k = 0 → F2 59 0 = bb) ∧ REL (n + 1) F2 := by
  cases hx : wi x 0 3 with
  | false =>
    exact ⟨1, 0, F, th F 1, fun D cA ad sz => x1_L_credits l D cA ad sz F hst x hx, fun D cA ad sz => e1_X5_credits l D cA ad sz F x hx, u2_eq _ _ _ _, fun z => absurd z (by decide), REL_th hR 1⟩
  | true =>
    obtain ⟨i, hi, ex⟩ := stu_i hx
    rw [ex]
    have hn0 : n ≤ 512 := by omega
    have hS := hR.2.2 i hi
    have q := REL_q (r := tot8 (F (4 + 8 * i + 2))) (p := 0) hR (C' := F) (EC_rfl F) (fun _ _ _ => rfl)
    have hO := RX_OKM q.2.2 hi
    have hX := q.2.1
    have hT := hX.2.2 i hi
    refine ⟨0, _, u2 (F) 59 0 (tot8 (F (4 + 8 * i + 2))), th (u2 (F) 59 0 (tot8 (F (4 + 8 * i + 2)))) 0, fun D cA ad sz => w_L_credits l D cA ad sz F i hi, fun D cA ad sz => c_X5_credits l D cA ad sz _ i hi hO, u2_eq _ _ _ _, fun _ => ?_, q.1⟩
    refine (th59 _ _ _).trans ?_
    exact cr_eq hT.2.2.1
theorem op_sponsored {l : Launch} (hst : l.stackTraces = false) {n : Nat} (hn : n < 512) {F : FF} (hR : REL n F) (x : Int32) : ∃ (k bb : Int32) (F1 F2 : FF), (∀ (D : va_G) (cA : Nat → ClassId) (ad : Nat → Nat) (sz : Nat), CI l D cA ad sz yL_sponsored wsL_sponsored 8 133 1 6 [.ref (ad 0), .int x, .ref (ad 59)] F (some (.int k)) F1) ∧ (∀ (D : va_G) (cA : Nat → ClassId) (ad : Nat → Nat) (sz : Nat), CI l D cA ad sz yX5_sponsored wsX5_sponsored 4 89 0 0 [.ref (ad 36), .int x] F1 (some (.int bb)) F2) ∧ F2 36 0 = k ∧ (k = 0 → F2 59 0 = bb) ∧ REL (n + 1) F2 := by
  cases hx : wi x 0 3 with
  | false =>
    exact ⟨1, 0, F, th F 1, fun D cA ad sz => x1_L_sponsored l D cA ad sz F hst x hx, fun D cA ad sz => e1_X5_sponsored l D cA ad sz F x hx, u2_eq _ _ _ _, fun z => absurd z (by decide), REL_th hR 1⟩
  | true =>
    obtain ⟨i, hi, ex⟩ := stu_i hx
    rw [ex]
    have hn0 : n ≤ 512 := by omega
    have hS := hR.2.2 i hi
    have q := REL_q (r := spC F i) (p := 0) hR (C' := F) (EC_rfl F) (fun _ _ _ => rfl)
    have hO := RX_OKM q.2.2 hi
    have hX := q.2.1
    have hT := hX.2.2 i hi
    refine ⟨0, _, u2 (F) 59 0 (spC F i), th (u2 (F) 59 0 (spC F i)) 0, fun D cA ad sz => w_L_sponsored l D cA ad sz F i hi, fun D cA ad sz => c_X5_sponsored l D cA ad sz _ i hi hO, u2_eq _ _ _ _, fun _ => ?_, q.1⟩
    refine (th59 _ _ _).trans ?_
    exact sp_eq hX.1 hT
theorem op_paid {l : Launch} (hst : l.stackTraces = false) {n : Nat} (hn : n < 512) {F : FF} (hR : REL n F) (x : Int32) : ∃ (k bb : Int32) (F1 F2 : FF), (∀ (D : va_G) (cA : Nat → ClassId) (ad : Nat → Nat) (sz : Nat), CI l D cA ad sz yL_paid wsL_paid 8 133 1 6 [.ref (ad 0), .int x, .ref (ad 59)] F (some (.int k)) F1) ∧ (∀ (D : va_G) (cA : Nat → ClassId) (ad : Nat → Nat) (sz : Nat), CI l D cA ad sz yX5_paid wsX5_paid 2 42 0 0 [.ref (ad 36), .int x] F1 (some (.int bb)) F2) ∧ F2 36 0 = k ∧ (k = 0 → F2 59 0 = bb) ∧ REL (n + 1) F2 := by
  cases hx : wi x 0 3 with
  | false =>
    exact ⟨1, 0, F, th F 1, fun D cA ad sz => x1_L_paid l D cA ad sz F hst x hx, fun D cA ad sz => e1_X5_paid l D cA ad sz F x hx, u2_eq _ _ _ _, fun z => absurd z (by decide), REL_th hR 1⟩
  | true =>
    obtain ⟨i, hi, ex⟩ := stu_i hx
    rw [ex]
    have hn0 : n ≤ 512 := by omega
    have hS := hR.2.2 i hi
    have q := REL_q (r := F (4 + 8 * i) 10) (p := 0) hR (C' := F) (EC_rfl F) (fun _ _ _ => rfl)
    have hO := RX_OKM q.2.2 hi
    have hX := q.2.1
    have hT := hX.2.2 i hi
    refine ⟨0, _, u2 (F) 59 0 (F (4 + 8 * i) 10), th (u2 (F) 59 0 (F (4 + 8 * i) 10)) 0, fun D cA ad sz => w_L_paid l D cA ad sz F i hi, fun D cA ad sz => c_X5_paid l D cA ad sz _ i hi, u2_eq _ _ _ _, fun _ => ?_, q.1⟩
    refine (th59 _ _ _).trans ?_
    exact hT.2.1.2.2.1
theorem op_owed {l : Launch} (hst : l.stackTraces = false) {n : Nat} (hn : n < 512) {F : FF} (hR : REL n F) (x : Int32) : ∃ (k bb : Int32) (F1 F2 : FF), (∀ (D : va_G) (cA : Nat → ClassId) (ad : Nat → Nat) (sz : Nat), CI l D cA ad sz yL_owed wsL_owed 8 133 1 6 [.ref (ad 0), .int x, .ref (ad 59)] F (some (.int k)) F1) ∧ (∀ (D : va_G) (cA : Nat → ClassId) (ad : Nat → Nat) (sz : Nat), CI l D cA ad sz yX5_owed wsX5_owed 6 140 0 0 [.ref (ad 36), .int x] F1 (some (.int bb)) F2) ∧ F2 36 0 = k ∧ (k = 0 → F2 59 0 = bb) ∧ REL (n + 1) F2 := by
  cases hx : wi x 0 3 with
  | false =>
    exact ⟨1, 0, F, th F 1, fun D cA ad sz => x1_L_owed l D cA ad sz F hst x hx, fun D cA ad sz => e1_X5_owed l D cA ad sz F x hx, u2_eq _ _ _ _, fun z => absurd z (by decide), REL_th hR 1⟩
  | true =>
    obtain ⟨i, hi, ex⟩ := stu_i hx
    rw [ex]
    have hn0 : n ≤ 512 := by omega
    have hS := hR.2.2 i hi
    have q := REL_q (r := balV F i) (p := 0) hR (C' := balF F i) (bal_EC hn0 hi hR) (bal_EM hn0 hi hR)
    have hO := RX_OKM q.2.2 hi
    have hX := q.2.1
    have hT := hX.2.2 i hi
    refine ⟨0, _, u2 (balF F i) 59 0 (balV F i), th (u2 (balF F i) 59 0 (balV F i)) 0, fun D cA ad sz => w_L_owed l D cA ad sz F i hi, fun D cA ad sz => c_X5_owed l D cA ad sz _ i hi hO, u2_eq _ _ _ _, fun _ => ?_, q.1⟩
    refine (th59 _ _ _).trans ?_
    exact (bal_M hn0 hi hX).1
theorem hh_key {a b c d : Int32} (h1 : a = b) (h2 : c = d) : bI (!decide (a ≤ c)) = bI (!decide (b ≤ d)) := by rw [h1, h2]
theorem bI01 (b : Bool) : bI b = 0 ∨ bI b = 1 := by cases b <;> simp [bI]
theorem op_hasHold {l : Launch} (hst : l.stackTraces = false) {n : Nat} (hn : n < 512) {F : FF} (hR : REL n F) (x : Int32) : ∃ (k bb : Int32) (F1 F2 : FF), (bb = 0 ∨ bb = 1) ∧ (∀ (D : va_G) (cA : Nat → ClassId) (ad : Nat → Nat) (sz : Nat), CI l D cA ad sz yL_hasHold wsL_hasHold 8 133 1 6 [.ref (ad 0), .int x, .ref (ad 59)] F (some (.int k)) F1) ∧ (∀ (D : va_G) (cA : Nat → ClassId) (ad : Nat → Nat) (sz : Nat), CI l D cA ad sz yX5_hasHold wsX5_hasHold 6 140 0 0 [.ref (ad 36), .int x] F1 (some (.int bb)) F2) ∧ F2 36 0 = k ∧ (k = 0 → F2 59 0 = bb) ∧ REL (n + 1) F2 := by
  cases hx : wi x 0 3 with
  | false =>
    exact ⟨1, 0, F, th F 1, Or.inl rfl, fun D cA ad sz => x1_L_hasHold l D cA ad sz F hst x hx, fun D cA ad sz => e1_X5_hasHold l D cA ad sz F x hx, u2_eq _ _ _ _, fun z => absurd z (by decide), REL_th hR 1⟩
  | true =>
    obtain ⟨i, hi, ex⟩ := stu_i hx
    rw [ex]
    have hn0 : n ≤ 512 := by omega
    have hS := hR.2.2 i hi
    have q := REL_q (r := bI (!decide (balV F i ≤ balF F i 0 6))) (p := 0) hR (C' := balF F i) (bal_EC hn0 hi hR) (bal_EM hn0 hi hR)
    have hO := RX_OKM q.2.2 hi
    have hX := q.2.1
    have hT := hX.2.2 i hi
    refine ⟨0, _, u2 (balF F i) 59 0 (bI (!decide (balV F i ≤ balF F i 0 6))), th (u2 (balF F i) 59 0 (bI (!decide (balV F i ≤ balF F i 0 6)))) 0, bI01 _, fun D cA ad sz => w_L_hasHold l D cA ad sz F i hi, fun D cA ad sz => c_X5_hasHold l D cA ad sz _ i hi hO, u2_eq _ _ _ _, fun _ => ?_, q.1⟩
    refine (th59 _ _ _).trans ?_
    have z := bal_M hn0 hi hX
    exact hh_key z.1 ((congrFun (z.2.1 0 (by omega)) 6).trans hX.1.2.2.2.2.2)
theorem op_used {l : Launch} (hst : l.stackTraces = false) {n : Nat} (hn : n < 512) {F : FF} (hR : REL n F) (x : Int32) (y : Int32) : ∃ (k bb : Int32) (F1 F2 : FF), (∀ (D : va_G) (cA : Nat → ClassId) (ad : Nat → Nat) (sz : Nat), CI l D cA ad sz yL_used wsL_used 8 135 1 6 [.ref (ad 0), .int x, .int y, .ref (ad 59)] F (some (.int k)) F1) ∧ (∀ (D : va_G) (cA : Nat → ClassId) (ad : Nat → Nat) (sz : Nat), CI l D cA ad sz yX5_used wsX5_used 5 119 0 0 [.ref (ad 36), .int x, .int y] F1 (some (.int bb)) F2) ∧ F2 36 0 = k ∧ (k = 0 → F2 59 0 = bb) ∧ REL (n + 1) F2 := by
  cases hx : wi x 0 3 with
  | false =>
    exact ⟨1, 0, F, th F 1, fun D cA ad sz => x1_L_used l D cA ad sz F hst x y hx, fun D cA ad sz => e1_X5_used l D cA ad sz F x y hx, u2_eq _ _ _ _, fun z => absurd z (by decide), REL_th hR 1⟩
  | true =>
    obtain ⟨i, hi, ex⟩ := stu_i hx
    rw [ex]
    have hn0 : n ≤ 512 := by omega
    have hS := hR.2.2 i hi
    have h4 := hS.2.2.2.1
    have e3 : F (4 + 8 * i + 3) 3 = nI (aM F i) := h4.1.trans h4.2.2.1
    have h6 : aM F i ≤ 6 := h4.2.1
    cases hy : hasI y (nI (aM F i)) with
    | false =>
      exact ⟨1, 0, F, th F 1, fun D cA ad sz => x4_L_used l D cA ad sz F hst i hi y (by rw [e3]; exact hy), fun D cA ad sz => e4_X5_used l D cA ad sz F i hi (EMh hR hi) y (wi_hasF (by omega) hy), u2_eq _ _ _ _, fun z => absurd z (by decide), REL_th hR 1⟩
    | true =>
      obtain ⟨j, hj, ey⟩ := hasI_j (by omega) hy
      rw [ey]
      have q := REL_q (r := balF F i (4 + 8 * i + 6) j) (p := 0) hR (C' := balF F i) (bal_EC hn0 hi hR) (bal_EM hn0 hi hR)
      have HA : u2 (balF F i) 59 0 (balF F i (4 + 8 * i + 6) j) 50 i = F 50 i := by rw [u2_cell _ _ _ (by omega), (bal_EM hn0 hi hR) 50 (by omega) (by omega)]
      have hA : aM (th (u2 (balF F i) 59 0 (balF F i (4 + 8 * i + 6) j)) 0) i = aM F i := by unfold aM; rw [show th (u2 (balF F i) 59 0 (balF F i (4 + 8 * i + 6) j)) 0 50 i = u2 (balF F i) 59 0 (balF F i (4 + 8 * i + 6) j) 50 i from u2_ne _ _ (by omega), HA]
      have hO := RX_OKM q.2.2 hi
      have hX := q.2.1
      have hT := hX.2.2 i hi
      refine ⟨0, _, u2 (balF F i) 59 0 (balF F i (4 + 8 * i + 6) j), th (u2 (balF F i) 59 0 (balF F i (4 + 8 * i + 6) j)) 0, fun D cA ad sz => w_L_used l D cA ad sz F i hi j (by omega) (by rw [e3]; exact hasI_nI hj (by omega)), fun D cA ad sz => c_X5_used l D cA ad sz _ i hi hO j (by rw [aM_of (show _ = F 50 i from HA)]; exact hj), u2_eq _ _ _ _, fun _ => ?_, q.1⟩
      refine (th59 _ _ _).trans ?_
      have hm := (hT.2.2.2.1.2.2.2.1 j (by rw [hA]; exact hj)).2
      obtain ⟨r, hr, em⟩ := rk_i hm
      exact (bal_M hn0 hi hX).2.2.1 j r (by rw [hA]; exact hj) hr em
theorem op_amountOf {l : Launch} (hst : l.stackTraces = false) {n : Nat} (hn : n < 512) {F : FF} (hR : REL n F) (x : Int32) (y : Int32) : ∃ (k bb : Int32) (F1 F2 : FF), (∀ (D : va_G) (cA : Nat → ClassId) (ad : Nat → Nat) (sz : Nat), CI l D cA ad sz yL_amountOf wsL_amountOf 8 135 1 6 [.ref (ad 0), .int x, .int y, .ref (ad 59)] F (some (.int k)) F1) ∧ (∀ (D : va_G) (cA : Nat → ClassId) (ad : Nat → Nat) (sz : Nat), CI l D cA ad sz yX5_amountOf wsX5_amountOf 3 64 0 0 [.ref (ad 36), .int x, .int y] F1 (some (.int bb)) F2) ∧ F2 36 0 = k ∧ (k = 0 → F2 59 0 = bb) ∧ REL (n + 1) F2 := by
  cases hx : wi x 0 3 with
  | false =>
    exact ⟨1, 0, F, th F 1, fun D cA ad sz => x1_L_amountOf l D cA ad sz F hst x y hx, fun D cA ad sz => e1_X5_amountOf l D cA ad sz F x y hx, u2_eq _ _ _ _, fun z => absurd z (by decide), REL_th hR 1⟩
  | true =>
    obtain ⟨i, hi, ex⟩ := stu_i hx
    rw [ex]
    have hn0 : n ≤ 512 := by omega
    have hS := hR.2.2 i hi
    have h4 := hS.2.2.2.1
    have e3 : F (4 + 8 * i + 3) 3 = nI (aM F i) := h4.1.trans h4.2.2.1
    have h6 : aM F i ≤ 6 := h4.2.1
    cases hy : hasI y (nI (aM F i)) with
    | false =>
      exact ⟨1, 0, F, th F 1, fun D cA ad sz => x4_L_amountOf l D cA ad sz F hst i hi y (by rw [e3]; exact hy), fun D cA ad sz => e4_X5_amountOf l D cA ad sz F i hi (EMh hR hi) y (wi_hasF (by omega) hy), u2_eq _ _ _ _, fun z => absurd z (by decide), REL_th hR 1⟩
    | true =>
      obtain ⟨j, hj, ey⟩ := hasI_j (by omega) hy
      rw [ey]
      have q := REL_q (r := F (4 + 8 * i + 5) j) (p := 0) hR (C' := F) (EC_rfl F) (fun _ _ _ => rfl)
      have HA : u2 (F) 59 0 (F (4 + 8 * i + 5) j) 50 i = F 50 i := by rw [u2_cell _ _ _ (by omega)]
      have hA : aM (th (u2 (F) 59 0 (F (4 + 8 * i + 5) j)) 0) i = aM F i := by unfold aM; rw [show th (u2 (F) 59 0 (F (4 + 8 * i + 5) j)) 0 50 i = u2 (F) 59 0 (F (4 + 8 * i + 5) j) 50 i from u2_ne _ _ (by omega), HA]
      have hO := RX_OKM q.2.2 hi
      have hX := q.2.1
      have hT := hX.2.2 i hi
      refine ⟨0, _, u2 (F) 59 0 (F (4 + 8 * i + 5) j), th (u2 (F) 59 0 (F (4 + 8 * i + 5) j)) 0, fun D cA ad sz => w_L_amountOf l D cA ad sz F i hi j (by omega) (by rw [e3]; exact hasI_nI hj (by omega)), fun D cA ad sz => c_X5_amountOf l D cA ad sz _ i hi hO j (by rw [aM_of (show _ = F 50 i from HA)]; exact hj), u2_eq _ _ _ _, fun _ => ?_, q.1⟩
      refine (th59 _ _ _).trans ?_
      have hm := hT.2.2.2.1.2.2.2.2.1 j (by omega)
      rw [hA, if_pos hj] at hm
      exact hm
theorem kd_i {x : Int32} (h : wi x 0 2 = true) : x = 0 ∨ x = 1 ∨ x = 2 := by
  obtain ⟨r, hr, e⟩ := rk_i (wi_bt i0 i2 h)
  match r, hr with
  | 0, _ => exact Or.inl e
  | 1, _ => exact Or.inr (Or.inl e)
  | 2, _ => exact Or.inr (Or.inr e)
theorem ch_a1 {C M : FF} {i : Nat} {B P : Int} (hG : RG C M) (h : RS B P C M i) : chC C i 1 = tuM M i := by
  unfold chC ch3 ch2 ch1
  rw [if_pos (by decide), if_pos (by decide), if_neg (by decide), Int32.zero_add]
  exact tu_eq hG h.1 h.2.2.1
theorem ch_a2 (C : FF) (i : Nat) : chC C i 2 = C (4 + 8 * i) 6 := by
  unfold chC ch3 ch2 ch1
  rw [if_pos (by decide), if_neg (by decide), if_pos (by decide), Int32.zero_add]
theorem ch_a4 (C : FF) (i : Nat) : chC C i 4 = C (4 + 8 * i) 7 := by
  unfold chC ch3 ch2 ch1
  rw [if_neg (by decide), if_pos (by decide), if_pos (by decide), Int32.zero_add]
theorem op_charged {l : Launch} (hst : l.stackTraces = false) {n : Nat} (hn : n < 512) {F : FF} (hR : REL n F) (x : Int32) (kd : Int32) : ∃ (k bb : Int32) (F1 F2 : FF), (∀ (D : va_G) (cA : Nat → ClassId) (ad : Nat → Nat) (sz : Nat), CI l D cA ad sz yL_charged wsL_charged 8 135 1 6 [.ref (ad 0), .int x, .int kd, .ref (ad 59)] F (some (.int k)) F1) ∧ (∀ (D : va_G) (cA : Nat → ClassId) (ad : Nat → Nat) (sz : Nat), CI l D cA ad sz yX5_charged wsX5_charged 3 66 0 0 [.ref (ad 36), .int x, .int kd] F1 (some (.int bb)) F2) ∧ F2 36 0 = k ∧ (k = 0 → F2 59 0 = bb) ∧ REL (n + 1) F2 := by
  cases hx : wi x 0 3 with
  | false =>
    exact ⟨1, 0, F, th F 1, fun D cA ad sz => x1_L_charged l D cA ad sz F hst x kd hx, fun D cA ad sz => e1_X5_charged l D cA ad sz F x kd hx, u2_eq _ _ _ _, fun z => absurd z (by decide), REL_th hR 1⟩
  | true =>
    obtain ⟨i, hi, ex⟩ := stu_i hx
    rw [ex]
    have hn0 : n ≤ 512 := by omega
    have hS := hR.2.2 i hi
    cases hk : wi kd 0 2 with
    | false =>
      exact ⟨2, 0, F, th F 2, fun D cA ad sz => x2_L_charged l D cA ad sz F hst i hi kd hk, fun D cA ad sz => e2_X5_charged l D cA ad sz F i hi kd hk, u2_eq _ _ _ _, fun z => absurd z (by decide), REL_th hR 2⟩
    | true =>
      rcases kd_i hk with ek | ek | ek
      · rw [ek]
        have q := REL_q (r := chC F i 1) (p := 0) hR (C' := F) (EC_rfl F) (fun _ _ _ => rfl)
        have hO := RX_OKM q.2.2 hi
        have hX := q.2.1
        have hT := hX.2.2 i hi
        refine ⟨0, _, u2 (F) 59 0 (chC F i 1), th (u2 (F) 59 0 (chC F i 1)) 0, fun D cA ad sz => w_L_charged0 l D cA ad sz F i hi, fun D cA ad sz => c_X5_charged0 l D cA ad sz _ i hi hO, u2_eq _ _ _ _, fun _ => ?_, q.1⟩
        refine (th59 _ _ _).trans ?_
        exact ch_a1 hX.1 hT
      · rw [ek]
        have q := REL_q (r := chC F i 2) (p := 0) hR (C' := F) (EC_rfl F) (fun _ _ _ => rfl)
        have hO := RX_OKM q.2.2 hi
        have hX := q.2.1
        have hT := hX.2.2 i hi
        refine ⟨0, _, u2 (F) 59 0 (chC F i 2), th (u2 (F) 59 0 (chC F i 2)) 0, fun D cA ad sz => w_L_charged1 l D cA ad sz F i hi, fun D cA ad sz => c_X5_charged1 l D cA ad sz _ i hi hO, u2_eq _ _ _ _, fun _ => ?_, q.1⟩
        refine (th59 _ _ _).trans ?_
        exact (ch_a2 F i).trans hT.2.1.1
      · rw [ek]
        have q := REL_q (r := chC F i 4) (p := 0) hR (C' := F) (EC_rfl F) (fun _ _ _ => rfl)
        have hO := RX_OKM q.2.2 hi
        have hX := q.2.1
        have hT := hX.2.2 i hi
        refine ⟨0, _, u2 (F) 59 0 (chC F i 4), th (u2 (F) 59 0 (chC F i 4)) 0, fun D cA ad sz => w_L_charged2 l D cA ad sz F i hi, fun D cA ad sz => c_X5_charged2 l D cA ad sz _ i hi hO, u2_eq _ _ _ _, fun _ => ?_, q.1⟩
        refine (th59 _ _ _).trans ?_
        exact (ch_a4 F i).trans hT.2.1.2.1
/-! the calls that set -/
theorem tt1 {a b : Bool} (h : ¬ (a = true ∧ b = true)) : a = false ∨ b = false := by cases a <;> cases b <;> simp_all
theorem i30 : (30 : Int32).toInt = 30 := by decide
theorem i7 : (7 : Int32).toInt = 7 := by decide
theorem i100 : (100 : Int32).toInt = 100 := by decide
theorem i1e5 : (100000 : Int32).toInt = 100000 := by decide
theorem i1e6 : (1000000 : Int32).toInt = 1000000 := by decide
theorem bI_b (b : Bool) : bI b = 0 ∨ bI b = 1 := by cases b <;> simp [bI]
theorem up_all {P : Nat → Int32 → Int32 → Prop} {C M C' M' : FF} {c m p N : Nat} (v : Int32) (h : ∀ j, j < N → P j (C c j) (M m j)) (hc : ∀ j, C' c j = if j = p then v else C c j) (hm : ∀ j, M' m j = if j = p then v else M m j) (hv : P p v v) : ∀ j, j < N → P j (C' c j) (M' m j) := by
  intro j hj
  rw [hc, hm]
  by_cases e : j = p
  · rw [if_pos e, if_pos e, e]; exact hv
  · rw [if_neg e, if_neg e]; exact h j hj
theorem u2_at (F : FF) (k p j : Nat) (v : Int32) : u2 F k p v k j = if j = p then v else F k j := by
  by_cases e : j = p
  · rw [if_pos e, e, u2_eq]
  · rw [if_neg e, u2_ne _ _ (fun q => e q.2)]
theorem op_setRate {l : Launch} (hst : l.stackTraces = false) {n : Nat} (hn : n < 512) {F : FF} (hR : REL n F) (lv : Int32) (b : Bool) (rt : Int32) : ∃ (k bb : Int32) (F1 F2 : FF), (∀ (D : va_G) (cA : Nat → ClassId) (ad : Nat → Nat) (sz : Nat), CI l D cA ad sz yL_setRate wsL_setRate 7 115 1 6 [.ref (ad 0), .int lv, .int (bI b), .int rt, .ref (ad 59)] F (some (.int k)) F1) ∧ (∀ (D : va_G) (cA : Nat → ClassId) (ad : Nat → Nat) (sz : Nat), CI l D cA ad sz yX5_setRate wsX5_setRate 1 22 0 0 [.ref (ad 36), .int lv, .int (bI b), .int rt] F1 (some (.int bb)) F2) ∧ F2 36 0 = k ∧ (k = 0 → F2 59 0 = bb) ∧ REL (n + 1) F2 := by
  by_cases h : wi lv 0 1 = true ∧ wi rt 0 100000 = true
  · obtain ⟨h1, h2⟩ := h
    have hp := plc_lt lv (bI b)
    have hG := hR.1
    refine ⟨0, _, u2 (srF F lv b rt) 59 0 (F 2 (plc lv (bI b))), u2 (th (u2 (srF F lv b rt) 59 0 (F 2 (plc lv (bI b)))) 0) 37 (plc lv (bI b)) rt, fun D cA ad sz => w_L_setRate l D cA ad sz F lv b rt h1 h2, fun D cA ad sz => c_X5_setRate l D cA ad sz _ lv b rt h1 h2, ?_, fun _ => ?_, ?_⟩
    all_goals (unfold srF; generalize plc lv (bI b) = p at *)
    · simp (disch := omega) only [u2_eq, u2_cell, u2_ne]
    · simp (disch := omega) only [u2_eq, u2_cell, u2_ne]
      exact (hG.1 p hp).1
    · refine RX_glob hR ⟨?_, ?_, ?_, ?_⟩ ?_ ?_ ?_ ?_ (fun k q1 q2 => ?_) (fun k q1 q2 => ?_)
      · exact up_all (P := fun j x y => x = y ∧ bt y 0 100000) (p := p) rt hG.1 (fun j => by simp (disch := omega) only [u2_cell, u2_at]) (fun j => by simp (disch := omega) only [u2_cell, u2_at]) ⟨rfl, wi_bt i0 i1e5 h2⟩
      · simp (disch := omega) only [u2_eq, u2_cell, u2_ne]; exact hG.2.1
      · simp (disch := omega) only [u2_eq, u2_cell, u2_ne]; exact hG.2.2.1
      · simp (disch := omega) only [u2_eq, u2_cell, u2_ne]; exact hG.2.2.2
      · simp (disch := omega) only [u2_eq, u2_cell, u2_ne]
      · simp (disch := omega) only [u2_eq, u2_cell, u2_ne]
      · simp (disch := omega) only [u2_eq, u2_cell, u2_ne]
      · simp (disch := omega) only [u2_eq, u2_cell, u2_ne]
      · simp (disch := omega) only [u2_eq, u2_cell, u2_ne]
      · simp (disch := omega) only [u2_eq, u2_cell, u2_ne]
  · exact ⟨1, 0, F, th F 1, fun D cA ad sz => x1_L_setRate l D cA ad sz F hst lv b rt h, fun D cA ad sz => e1_X5_setRate l D cA ad sz F lv b rt h, u2_eq _ _ _ _, fun z => absurd z (by decide), REL_th hR 1⟩
theorem op_setShare {l : Launch} (hst : l.stackTraces = false) {n : Nat} (hn : n < 512) {F : FF} (hR : REL n F) (wk : Int32) (sh : Int32) : ∃ (k bb : Int32) (F1 F2 : FF), (∀ (D : va_G) (cA : Nat → ClassId) (ad : Nat → Nat) (sz : Nat), CI l D cA ad sz yL_setShare wsL_setShare 7 113 1 6 [.ref (ad 0), .int wk, .int sh, .ref (ad 59)] F (some (.int k)) F1) ∧ (∀ (D : va_G) (cA : Nat → ClassId) (ad : Nat → Nat) (sz : Nat), CI l D cA ad sz yX5_setShare wsX5_setShare 1 22 0 0 [.ref (ad 36), .int wk, .int sh] F1 (some (.int bb)) F2) ∧ F2 36 0 = k ∧ (k = 0 → F2 59 0 = bb) ∧ REL (n + 1) F2 := by
  by_cases h : wi wk 0 15 = true ∧ wi sh 0 100 = true
  · obtain ⟨h1, h2⟩ := h
    obtain ⟨w, hw, ew⟩ := wk_i h1
    rw [ew]
    have hG := hR.1
    refine ⟨0, _, u2 (u2 F 3 w sh) 59 0 (F 3 w), u2 (th (u2 (u2 F 3 w sh) 59 0 (F 3 w)) 0) 38 w sh, fun D cA ad sz => w_L_setShare l D cA ad sz F w hw sh h2, fun D cA ad sz => c_X5_setShare l D cA ad sz _ w hw sh h2, ?_, fun _ => ?_, ?_⟩
    · simp (disch := omega) only [u2_eq, u2_cell, u2_ne]
    · simp (disch := omega) only [u2_eq, u2_cell, u2_ne]
      exact (hG.2.1 w hw).1
    · refine RX_glob hR ⟨?_, ?_, ?_, ?_⟩ ?_ ?_ ?_ ?_ (fun k q1 q2 => ?_) (fun k q1 q2 => ?_)
      · simp (disch := omega) only [u2_eq, u2_cell, u2_ne]; exact hG.1
      · exact up_all (P := fun j x y => x = y ∧ bt y 0 100) (p := w) sh hG.2.1 (fun j => by simp (disch := omega) only [u2_cell, u2_at]) (fun j => by simp (disch := omega) only [u2_cell, u2_at]) ⟨rfl, wi_bt i0 i100 h2⟩
      · simp (disch := omega) only [u2_eq, u2_cell, u2_ne]; exact hG.2.2.1
      · simp (disch := omega) only [u2_eq, u2_cell, u2_ne]; exact hG.2.2.2
      · simp (disch := omega) only [u2_eq, u2_cell, u2_ne]
      · simp (disch := omega) only [u2_eq, u2_cell, u2_ne]
      · simp (disch := omega) only [u2_eq, u2_cell, u2_ne]
      · simp (disch := omega) only [u2_eq, u2_cell, u2_ne]
      · simp (disch := omega) only [u2_eq, u2_cell, u2_ne]
      · simp (disch := omega) only [u2_eq, u2_cell, u2_ne]
  · exact ⟨1, 0, F, th F 1, fun D cA ad sz => x1_L_setShare l D cA ad sz F hst wk sh h, fun D cA ad sz => e1_X5_setShare l D cA ad sz F wk sh h, u2_eq _ _ _ _, fun z => absurd z (by decide), REL_th hR 1⟩
theorem op_setBand {l : Launch} (hst : l.stackTraces = false) {n : Nat} (hn : n < 512) {F : FF} (hR : REL n F) (fr : Int32) (tt : Int32) : ∃ (k : Int32) (F1 F2 : FF), (∀ (D : va_G) (cA : Nat → ClassId) (ad : Nat → Nat) (sz : Nat), CI l D cA ad sz yL_setBand wsL_setBand 7 112 1 6 [.ref (ad 0), .int fr, .int tt] F (some (.int k)) F1) ∧ (∀ (D : va_G) (cA : Nat → ClassId) (ad : Nat → Nat) (sz : Nat), CI l D cA ad sz yX5_setBand wsX5_setBand 1 22 0 0 [.ref (ad 36), .int fr, .int tt] F1 none F2) ∧ F2 36 0 = k ∧ REL (n + 1) F2 := by
  by_cases h : wi fr 1 30 = true ∧ wi tt fr 30 = true
  · obtain ⟨h1, h2⟩ := h
    have hG := hR.1
    refine ⟨0, u2 (u2 F 0 3 fr) 0 4 tt, u2 (u2 (th (u2 (u2 F 0 3 fr) 0 4 tt) 0) 36 4 fr) 36 5 tt, fun D cA ad sz => w_L_setBand l D cA ad sz F fr tt h1 h2, fun D cA ad sz => c_X5_setBand l D cA ad sz _ fr tt h1 h2, ?_, ?_⟩
    · simp (disch := omega) only [u2_eq, u2_cell, u2_ne]
    · refine RX_glob hR ⟨?_, ?_, ?_, ?_⟩ ?_ ?_ ?_ ?_ (fun k q1 q2 => ?_) (fun k q1 q2 => ?_)
      · simp (disch := omega) only [u2_eq, u2_cell, u2_ne]; exact hG.1
      · simp (disch := omega) only [u2_eq, u2_cell, u2_ne]; exact hG.2.1
      · simp (disch := omega) only [u2_eq, u2_cell, u2_ne]; exact ⟨trivial, trivial, wi_bt i1 i30 h1, wi_bt rfl i30 h2⟩
      · simp (disch := omega) only [u2_eq, u2_cell, u2_ne]; exact hG.2.2.2
      · simp (disch := omega) only [u2_eq, u2_cell, u2_ne]
      · simp (disch := omega) only [u2_eq, u2_cell, u2_ne]
      · simp (disch := omega) only [u2_eq, u2_cell, u2_ne]
      · simp (disch := omega) only [u2_eq, u2_cell, u2_ne]
      · simp (disch := omega) only [u2_eq, u2_cell, u2_ne]
      · simp (disch := omega) only [u2_eq, u2_cell, u2_ne]
  · exact ⟨1, F, th F 1, fun D cA ad sz => x1_L_setBand l D cA ad sz F hst fr tt h, fun D cA ad sz => e1_X5_setBand l D cA ad sz F fr tt h, u2_eq _ _ _ _, REL_th hR 1⟩
theorem op_setFees {l : Launch} (hst : l.stackTraces = false) {n : Nat} (hn : n < 512) {F : FF} (hR : REL n F) (fe : Int32) (lm : Int32) : ∃ (k : Int32) (F1 F2 : FF), (∀ (D : va_G) (cA : Nat → ClassId) (ad : Nat → Nat) (sz : Nat), CI l D cA ad sz yL_setFees wsL_setFees 7 112 1 6 [.ref (ad 0), .int fe, .int lm] F (some (.int k)) F1) ∧ (∀ (D : va_G) (cA : Nat → ClassId) (ad : Nat → Nat) (sz : Nat), CI l D cA ad sz yX5_setFees wsX5_setFees 1 22 0 0 [.ref (ad 36), .int fe, .int lm] F1 none F2) ∧ F2 36 0 = k ∧ REL (n + 1) F2 := by
  by_cases h : wi fe 0 100000 = true ∧ wi lm 0 1000000 = true
  · obtain ⟨h1, h2⟩ := h
    have hG := hR.1
    refine ⟨0, u2 (u2 F 0 5 fe) 0 6 lm, u2 (u2 (th (u2 (u2 F 0 5 fe) 0 6 lm) 0) 36 7 fe) 36 8 lm, fun D cA ad sz => w_L_setFees l D cA ad sz F fe lm h1 h2, fun D cA ad sz => c_X5_setFees l D cA ad sz _ fe lm h1 h2, ?_, ?_⟩
    · simp (disch := omega) only [u2_eq, u2_cell, u2_ne]
    · refine RX_glob hR ⟨?_, ?_, ?_, ?_⟩ ?_ ?_ ?_ ?_ (fun k q1 q2 => ?_) (fun k q1 q2 => ?_)
      · simp (disch := omega) only [u2_eq, u2_cell, u2_ne]; exact hG.1
      · simp (disch := omega) only [u2_eq, u2_cell, u2_ne]; exact hG.2.1
      · simp (disch := omega) only [u2_eq, u2_cell, u2_ne]; exact hG.2.2.1
      · simp (disch := omega) only [u2_eq, u2_cell, u2_ne]; exact ⟨trivial, wi_bt i0 i1e5 h1, trivial⟩
      · simp (disch := omega) only [u2_eq, u2_cell, u2_ne]
      · simp (disch := omega) only [u2_eq, u2_cell, u2_ne]
      · simp (disch := omega) only [u2_eq, u2_cell, u2_ne]
      · simp (disch := omega) only [u2_eq, u2_cell, u2_ne]
      · simp (disch := omega) only [u2_eq, u2_cell, u2_ne]
      · simp (disch := omega) only [u2_eq, u2_cell, u2_ne]
  · exact ⟨1, F, th F 1, fun D cA ad sz => x1_L_setFees l D cA ad sz F hst fe lm h, fun D cA ad sz => e1_X5_setFees l D cA ad sz F fe lm h, u2_eq _ _ _ _, REL_th hR 1⟩
theorem op_setStudent {l : Launch} (hst : l.stackTraces = false) {n : Nat} (hn : n < 512) {F : FF} (hR : REL n F) (x : Int32) (lv : Int32) (b : Bool) (nd : Int32) : ∃ (k : Int32) (F1 F2 : FF), (∀ (D : va_G) (cA : Nat → ClassId) (ad : Nat → Nat) (sz : Nat), CI l D cA ad sz yL_setStudent wsL_setStudent 8 137 1 6 [.ref (ad 0), .int x, .int lv, .int (bI b), .int nd] F (some (.int k)) F1) ∧ (∀ (D : va_G) (cA : Nat → ClassId) (ad : Nat → Nat) (sz : Nat), CI l D cA ad sz yX5_setStudent wsX5_setStudent 2 42 0 0 [.ref (ad 36), .int x, .int lv, .int (bI b), .int nd] F1 none F2) ∧ F2 36 0 = k ∧ REL (n + 1) F2 := by
  cases hx : wi x 0 3 with
  | false =>
    exact ⟨1, F, th F 1, fun D cA ad sz => x1_L_setStudent l D cA ad sz F hst x lv b nd hx, fun D cA ad sz => e1_X5_setStudent l D cA ad sz F x lv nd b hx, u2_eq _ _ _ _, REL_th hR 1⟩
  | true =>
    obtain ⟨i, hi, ex⟩ := stu_i hx
    rw [ex]
    have hn0 : n ≤ 512 := by omega
    have hS := hR.2.2 i hi
    by_cases h : wi lv 0 1 = true ∧ wi nd 0 1000000 = true
    · obtain ⟨h1, h2⟩ := h
      obtain ⟨g1, g2, g3, g4, g5, h8, h9, h10, h11⟩ := hS.1
      refine ⟨0, u2 (u2 (u2 F (4 + 8 * i) 3 lv) (4 + 8 * i) 4 (bI b)) (4 + 8 * i) 5 nd, u2 (u2 (u2 (th (u2 (u2 (u2 F (4 + 8 * i) 3 lv) (4 + 8 * i) 4 (bI b)) (4 + 8 * i) 5 nd) 0) 39 i lv) 40 i (bI b)) 41 i nd, fun D cA ad sz => w_L_setStudent l D cA ad sz F i hi lv b nd h1 h2, fun D cA ad sz => c_X5_setStudent l D cA ad sz _ i hi lv b nd h1 h2, ?_, ?_⟩
      · simp (disch := omega) only [u2_eq, u2_cell, u2_ne]
      · refine RX_stu hR (i := i) (fun k j q1 q2 q3 => ?_) (fun k j q1 q2 q3 q4 => ?_) ⟨?_, ?_, ?_, ?_, ?_⟩
        · simp (disch := omega) only [u2_eq, u2_cell, u2_ne]
        · unfold Oth at q4
          simp (disch := omega) only [u2_eq, u2_cell, u2_ne]
        · unfold R1
          simp (disch := omega) only [u2_eq, u2_cell, u2_ne]
          exact ⟨trivial, wi_01 h1, trivial, trivial, (wi_bt i0 i1e6 h2).1, h8, h9, h10, h11⟩
        · refine R2_of hS.2.1 (by omega) (by omega) (fun j hj => ?_) ?_ ?_ ?_ <;> simp (disch := omega) only [u2_eq, u2_cell, u2_ne]
        · refine R3_of hS.2.2.1 ?_ ?_ (fun j hj => ?_) ?_ ?_ (fun j hj => ?_) (fun j hj => ?_) <;> simp (disch := omega) only [u2_eq, u2_cell, u2_ne]
        · refine R4_of hS.2.2.2.1 ?_ (fun j hj => ?_) (fun j hj => ?_) ?_ (fun j hj => ?_) (fun j hj => ?_) <;> simp (disch := omega) only [u2_eq, u2_cell, u2_ne]
        · refine R5_of hS.2.2.2.2 (fun j hj => ?_) (fun k q1 q2 => ?_) <;> simp (disch := omega) only [u2_eq, u2_cell, u2_ne]
    · exact ⟨2, F, th F 2, fun D cA ad sz => x2_L_setStudent l D cA ad sz F hst i hi lv b nd h, fun D cA ad sz => e2_X5_setStudent l D cA ad sz F i hi lv b nd h, u2_eq _ _ _ _, REL_th hR 2⟩
theorem op_setSponsor {l : Launch} (hst : l.stackTraces = false) {n : Nat} (hn : n < 512) {F : FF} (hR : REL n F) (x : Int32) (ks : Int32) (lm : Int32) : ∃ (k : Int32) (F1 F2 : FF), (∀ (D : va_G) (cA : Nat → ClassId) (ad : Nat → Nat) (sz : Nat), CI l D cA ad sz yL_setSponsor wsL_setSponsor 8 136 1 6 [.ref (ad 0), .int x, .int ks, .int lm] F (some (.int k)) F1) ∧ (∀ (D : va_G) (cA : Nat → ClassId) (ad : Nat → Nat) (sz : Nat), CI l D cA ad sz yX5_setSponsor wsX5_setSponsor 2 42 0 0 [.ref (ad 36), .int x, .int ks, .int lm] F1 none F2) ∧ F2 36 0 = k ∧ REL (n + 1) F2 := by
  cases hx : wi x 0 3 with
  | false =>
    exact ⟨1, F, th F 1, fun D cA ad sz => x1_L_setSponsor l D cA ad sz F hst x ks lm hx, fun D cA ad sz => e1_X5_setSponsor l D cA ad sz F x ks lm hx, u2_eq _ _ _ _, REL_th hR 1⟩
  | true =>
    obtain ⟨i, hi, ex⟩ := stu_i hx
    rw [ex]
    have hn0 : n ≤ 512 := by omega
    have hS := hR.2.2 i hi
    by_cases h : wi ks 0 7 = true ∧ wi lm 0 1000000 = true
    · obtain ⟨h1, h2⟩ := h
      obtain ⟨g1, g2, g3, g4, g5, h8, h9, h10, h11⟩ := hS.1
      refine ⟨0, u2 (u2 F (4 + 8 * i) 8 ks) (4 + 8 * i) 9 lm, u2 (u2 (th (u2 (u2 F (4 + 8 * i) 8 ks) (4 + 8 * i) 9 lm) 0) 42 i ks) 43 i lm, fun D cA ad sz => w_L_setSponsor l D cA ad sz F i hi ks lm h1 h2, fun D cA ad sz => c_X5_setSponsor l D cA ad sz _ i hi ks lm h1 h2, ?_, ?_⟩
      · simp (disch := omega) only [u2_eq, u2_cell, u2_ne]
      · refine RX_stu hR (i := i) (fun k j q1 q2 q3 => ?_) (fun k j q1 q2 q3 q4 => ?_) ⟨?_, ?_, ?_, ?_, ?_⟩
        · simp (disch := omega) only [u2_eq, u2_cell, u2_ne]
        · unfold Oth at q4
          simp (disch := omega) only [u2_eq, u2_cell, u2_ne]
        · unfold R1
          simp (disch := omega) only [u2_eq, u2_cell, u2_ne]
          exact ⟨g1, g2, g3, g4, g5, trivial, wi_bt i0 i7 h1, trivial, (wi_bt i0 i1e6 h2).1⟩
        · refine R2_of hS.2.1 (by omega) (by omega) (fun j hj => ?_) ?_ ?_ ?_ <;> simp (disch := omega) only [u2_eq, u2_cell, u2_ne]
        · refine R3_of hS.2.2.1 ?_ ?_ (fun j hj => ?_) ?_ ?_ (fun j hj => ?_) (fun j hj => ?_) <;> simp (disch := omega) only [u2_eq, u2_cell, u2_ne]
        · refine R4_of hS.2.2.2.1 ?_ (fun j hj => ?_) (fun j hj => ?_) ?_ (fun j hj => ?_) (fun j hj => ?_) <;> simp (disch := omega) only [u2_eq, u2_cell, u2_ne]
        · refine R5_of hS.2.2.2.2 (fun j hj => ?_) (fun k q1 q2 => ?_) <;> simp (disch := omega) only [u2_eq, u2_cell, u2_ne]
    · exact ⟨2, F, th F 2, fun D cA ad sz => x2_L_setSponsor l D cA ad sz F hst i hi ks lm h, fun D cA ad sz => e2_X5_setSponsor l D cA ad sz F i hi ks lm h, u2_eq _ _ _ _, REL_th hR 2⟩
/-! take, award, charge, pay, plan -/
theorem clN {n : Nat} (h : n < 2 ^ 31) : (nI n).toNatClampNeg = n := by
  show (nI n).toInt.toNat = n
  rw [iN h]; rfl
theorem sN_ne {f g : Nat → Int32} {p : Nat} (h : ∀ j, j ≠ p → g j = f j) (n : Nat) (hp : n ≤ p) : sN g n = sN f n := sN_congr n (fun j hj => h j (by omega))
theorem sN_up {f g : Nat → Int32} {p : Nat} (h : ∀ j, j ≠ p → g j = f j) : ∀ n, p < n → sN g n = sN f n - (f p).toInt + (g p).toInt
  | 0, hp => absurd hp (by omega)
  | n + 1, hp => by
    show sN g n + (g n).toInt = sN f n + (f n).toInt - (f p).toInt + (g p).toInt
    by_cases e : n = p
    · rw [sN_ne h n (by omega), e]; omega
    · rw [sN_up h n (by omega), h n e]; omega
theorem kd_12 {x : Int32} (h : wi x 1 2 = true) : x = 1 ∨ x = 2 := by
  have q := wi_iff.mp h
  rw [i1, i2] at q
  rcases (show x.toInt = 1 ∨ x.toInt = 2 by omega) with e | e
  · exact Or.inl (ieq (e.trans i1.symm))
  · exact Or.inr (ieq (e.trans i2.symm))
theorem R3_take {C M C' M' : FF} {i t : Nat} {cr : Int32} (h : R3 C M i) (et : tM M i = t) (ht : t < 8) (hc : bt cr 1 10) (c1 : C' (4 + 8 * i + 1) 1 = nI (t + 1)) (c2 : C' (4 + 8 * i + 1) 2 = C (4 + 8 * i + 1) 2) (cc : ∀ j, C' (4 + 8 * i + 2) j = if j = t then cr else C (4 + 8 * i + 2) j) (m4 : M' 44 i = nI (t + 1)) (m7 : M' 47 i = M 47 i) (m5 : ∀ j, j < 8 → M' 45 (8 * i + j) = if j = t then cr else M 45 (8 * i + j)) (m6 : ∀ j, j < 8 → M' 46 (8 * i + j) = if j = t then 0 else M 46 (8 * i + j)) : R3 C' M' i := by
  obtain ⟨h1, h2, h3, h4, h5, h6, h7, h8⟩ := h
  have e' : tM M' i = t + 1 := by unfold tM; rw [m4, clN (by omega)]
  rw [et] at h2 h3 h5 h6 h8
  refine ⟨by rw [c1, m4], by rw [e']; omega, by rw [m4, e'], by rw [c2, m7]; exact h4, fun j hj => ?_, fun j hj hz => ?_, by rw [m7]; exact h7, ?_⟩
  · rw [cc j, e', m6 j hj, m5 j hj]
    by_cases e : j = t
    · rw [if_pos e, if_pos e, if_pos e, if_pos ⟨by omega, rfl⟩]
    · rw [if_neg e, if_neg e, if_neg e, h5 j hj]
      by_cases z : j < t ∧ M 46 (8 * i + j) = 0
      · rw [if_pos z, if_pos ⟨by omega, z.2⟩]
      · rw [if_neg z, if_neg (fun w => z ⟨by omega, w.2⟩)]
  · rw [e'] at hj
    rw [m6 j (by omega)] at hz
    rw [m5 j (by omega)]
    by_cases e : j = t
    · rw [if_pos e]; exact hc
    · rw [if_neg e] at hz ⊢
      exact h6 j (by omega) hz
  · have e0 : C (4 + 8 * i + 2) t = 0 := by rw [h5 t (by omega), if_neg (fun w => absurd w.1 (by omega))]
    have e1 : C' (4 + 8 * i + 2) t = cr := by rw [cc, if_pos rfl]
    rw [m7, e', sN_up (f := C (4 + 8 * i + 2)) (p := t) (fun j hj => by rw [cc, if_neg hj]) 8 ht, e0, e1, i0]
    have := hc.2
    omega
theorem R4_award {C M C' M' : FF} {i t : Nat} {rk am : Int32} (h : R4 C M i) (et : aM M i = t) (ht : t < 6) (hr : bt rk 0 2) (ha : bt am 0 1000000) (c3 : C' (4 + 8 * i + 3) 3 = nI (t + 1)) (c4 : ∀ j, C' (4 + 8 * i + 4) j = if j = t then rk else C (4 + 8 * i + 4) j) (c5 : ∀ j, C' (4 + 8 * i + 5) j = if j = t then am else C (4 + 8 * i + 5) j) (m0 : M' 50 i = nI (t + 1)) (m1 : ∀ j, j < 6 → M' 51 (6 * i + j) = if j = t then rk else M 51 (6 * i + j)) (m2 : ∀ j, j < 6 → M' 52 (6 * i + j) = if j = t then am else M 52 (6 * i + j)) : R4 C' M' i := by
  obtain ⟨h1, h2, h3, h4, h5, h6⟩ := h
  have e' : aM M' i = t + 1 := by unfold aM; rw [m0, clN (by omega)]
  rw [et] at h2 h3 h4 h5 h6
  refine ⟨by rw [c3, m0], by rw [e']; omega, by rw [m0, e'], fun j hj => ?_, fun j hj => ?_, fun j hj => ?_⟩
  · rw [e'] at hj
    rw [c4, m1 j (by omega)]
    by_cases e : j = t
    · rw [if_pos e, if_pos e]; exact ⟨rfl, hr⟩
    · rw [if_neg e, if_neg e]; exact h4 j (by omega)
  · rw [c5, e', m2 j hj]
    by_cases e : j = t
    · rw [if_pos e, if_pos e, if_pos (by omega)]
    · rw [if_neg e, if_neg e, h5 j hj]
      by_cases z : j < t
      · rw [if_pos z, if_pos (by omega)]
      · rw [if_neg z, if_neg (by omega)]
  · rw [e'] at hj
    rw [m2 j (by omega)]
    by_cases e : j = t
    · rw [if_pos e]; exact ha
    · rw [if_neg e]; exact h6 j (by omega)
theorem R2_chg {B P B' P' : Int} {C M C' M' : FF} {i : Nat} {a b : Int32} (h : R2 B P C M i) (hB : B + 1000000 ≤ B') (hB2 : B' ≤ 700000000) (hP : P ≤ P') (ha : 0 ≤ a.toInt) (hb : 0 ≤ b.toInt) (hab : a.toInt + b.toInt ≤ 1000000) (c6 : C' (4 + 8 * i) 6 = C (4 + 8 * i) 6 + a) (c7 : C' (4 + 8 * i) 7 = C (4 + 8 * i) 7 + b) (c10 : C' (4 + 8 * i) 10 = C (4 + 8 * i) 10) (m8 : M' 48 i = M 48 i + a) (m9 : M' 49 i = M 49 i + b) (m3 : M' 53 i = M 53 i) : R2 B' P' C' M' i := by
  unfold R2 bt at h ⊢
  obtain ⟨h1, h2, h3, h4, h5, h6, h7, h8⟩ := h
  rw [c6, c7, c10, m8, m9, m3, iadd (by omega) (by omega), iadd (by omega) (by omega), h1, h2]
  exact ⟨rfl, rfl, h3, by omega, by omega, by omega, h7, by omega⟩
theorem u2_of8 (F : FF) (k i t j : Nat) (v : Int32) : u2 F k (8 * i + t) v k (8 * i + j) = if j = t then v else F k (8 * i + j) := by
  by_cases e : j = t
  · rw [if_pos e, e, u2_eq]
  · rw [if_neg e, u2_ne _ _ (fun q => by omega)]
theorem u2_of6 (F : FF) (k i t j : Nat) (v : Int32) : u2 F k (6 * i + t) v k (6 * i + j) = if j = t then v else F k (6 * i + j) := by
  by_cases e : j = t
  · rw [if_pos e, e, u2_eq]
  · rw [if_neg e, u2_ne _ _ (fun q => by omega)]
theorem op_take {l : Launch} (hst : l.stackTraces = false) {n : Nat} (hn : n < 512) {F : FF} (hR : REL n F) (x : Int32) (cr : Int32) : ∃ (k bb : Int32) (F1 F2 : FF), (∀ (D : va_G) (cA : Nat → ClassId) (ad : Nat → Nat) (sz : Nat), CI l D cA ad sz yL_take wsL_take 8 136 1 6 [.ref (ad 0), .int x, .int cr, .ref (ad 59)] F (some (.int k)) F1) ∧ (∀ (D : va_G) (cA : Nat → ClassId) (ad : Nat → Nat) (sz : Nat), CI l D cA ad sz yX5_take wsX5_take 2 42 0 0 [.ref (ad 36), .int x, .int cr] F1 (some (.int bb)) F2) ∧ F2 36 0 = k ∧ (k = 0 → F2 59 0 = bb) ∧ REL (n + 1) F2 := by
  cases hx : wi x 0 3 with
  | false =>
    exact ⟨1, 0, F, th F 1, fun D cA ad sz => x1_L_take l D cA ad sz F hst x cr hx, fun D cA ad sz => e1_X5_take l D cA ad sz F x cr hx, u2_eq _ _ _ _, fun z => absurd z (by decide), REL_th hR 1⟩
  | true =>
    obtain ⟨i, hi, ex⟩ := stu_i hx
    rw [ex]
    have hn0 : n ≤ 512 := by omega
    have hS := hR.2.2 i hi
    have h3 := hS.2.2.1
    have et : F (4 + 8 * i + 1) 1 = nI (tM F i) := h3.1.trans h3.2.2.1
    cases h1 : wi cr 1 10 with
    | false =>
      exact ⟨2, 0, F, th F 2, fun D cA ad sz => x2_L_take l D cA ad sz F hst i hi cr h1, fun D cA ad sz => e2_X5_take l D cA ad sz F i hi (EMh hR hi) cr h1, u2_eq _ _ _ _, fun z => absurd z (by decide), REL_th hR 2⟩
    | true =>
      by_cases ht : tM F i = 8
      · exact ⟨3, 0, F, th F 3, fun D cA ad sz => x3_L_take l D cA ad sz F hst i hi cr h1 (by rw [et, ht]), fun D cA ad sz => e3_X5_take l D cA ad sz F i hi (EMh hR hi) cr h1 ht, u2_eq _ _ _ _, fun z => absurd z (by decide), REL_th hR 3⟩
      · have ht8 : tM F i < 8 := by have := h3.2.1; omega
        have eT : tM (u2 (u2 (u2 F (4 + 8 * i + 2) (tM F i) cr) (4 + 8 * i + 1) 1 (nI (tM F i + 1))) 59 0 (nI (tM F i))) i = tM F i := tM_of (by simp (disch := omega) only [u2_eq, u2_cell, u2_ne])
        have eF : mtF (u2 (u2 (u2 F (4 + 8 * i + 2) (tM F i) cr) (4 + 8 * i + 1) 1 (nI (tM F i + 1))) 59 0 (nI (tM F i))) i cr = u2 (u2 (u2 (th (u2 (u2 (u2 F (4 + 8 * i + 2) (tM F i) cr) (4 + 8 * i + 1) 1 (nI (tM F i + 1))) 59 0 (nI (tM F i))) 0) 45 (8 * i + tM F i) cr) 46 (8 * i + tM F i) 0) 44 i (nI (tM F i + 1)) := by unfold mtF; rw [eT]
        have hO : OKM (u2 (u2 (u2 F (4 + 8 * i + 2) (tM F i) cr) (4 + 8 * i + 1) 1 (nI (tM F i + 1))) 59 0 (nI (tM F i))) i := OKM_of (EMh hR hi) (by simp (disch := omega) only [u2_eq, u2_cell, u2_ne]) (by simp (disch := omega) only [u2_eq, u2_cell, u2_ne]) (by simp (disch := omega) only [u2_eq, u2_cell, u2_ne])
        refine ⟨0, nI (tM F i), u2 (u2 (u2 F (4 + 8 * i + 2) (tM F i) cr) (4 + 8 * i + 1) 1 (nI (tM F i + 1))) 59 0 (nI (tM F i)), u2 (u2 (u2 (th (u2 (u2 (u2 F (4 + 8 * i + 2) (tM F i) cr) (4 + 8 * i + 1) 1 (nI (tM F i + 1))) 59 0 (nI (tM F i))) 0) 45 (8 * i + tM F i) cr) 46 (8 * i + tM F i) 0) 44 i (nI (tM F i + 1)), fun D cA ad sz => w_L_take l D cA ad sz F i hi cr h1 (tM F i) ht8 et, fun D cA ad sz => ?_, ?_, fun _ => ?_, ?_⟩
        · have c := c_X5_take l D cA ad sz (u2 (u2 (u2 F (4 + 8 * i + 2) (tM F i) cr) (4 + 8 * i + 1) 1 (nI (tM F i + 1))) 59 0 (nI (tM F i))) i hi hO cr h1 (by rw [eT]; exact ht8)
          rw [eT, eF] at c
          exact c
        · simp (disch := omega) only [u2_eq, u2_cell, u2_ne]
        · simp (disch := omega) only [u2_eq, u2_cell, u2_ne]
        · refine RX_stu hR (i := i) (fun k j q1 q2 q3 => ?_) (fun k j q1 q2 q3 q4 => ?_) ⟨?_, ?_, ?_, ?_, ?_⟩
          · simp (disch := omega) only [u2_eq, u2_cell, u2_ne]
          · unfold Oth at q4
            simp (disch := omega) only [u2_eq, u2_cell, u2_ne]
          · refine R1_of hS.1 (fun j hj => ?_) (fun k q1 q2 => ?_) <;> simp (disch := omega) only [u2_eq, u2_cell, u2_ne]
          · refine R2_of hS.2.1 (by omega) (by omega) (fun j hj => ?_) ?_ ?_ ?_ <;> simp (disch := omega) only [u2_eq, u2_cell, u2_ne]
          · refine R3_take h3 rfl ht8 (wi_bt i1 i10 h1) ?_ ?_ (fun j => ?_) ?_ ?_ (fun j hj => ?_) (fun j hj => ?_)
            · simp (disch := omega) only [u2_eq, u2_cell, u2_ne]
            · simp (disch := omega) only [u2_eq, u2_cell, u2_ne]
            · simp (disch := omega) only [u2_cell, u2_at, u2_of8, u2_of6, Nat.add_left_cancel_iff]
            · simp (disch := omega) only [u2_eq, u2_cell, u2_ne]
            · simp (disch := omega) only [u2_eq, u2_cell, u2_ne]
            · simp (disch := omega) only [u2_cell, u2_at, u2_of8, u2_of6, Nat.add_left_cancel_iff]
            · simp (disch := omega) only [u2_cell, u2_at, u2_of8, u2_of6, Nat.add_left_cancel_iff]
          · refine R4_of hS.2.2.2.1 ?_ (fun j hj => ?_) (fun j hj => ?_) ?_ (fun j hj => ?_) (fun j hj => ?_) <;> simp (disch := omega) only [u2_eq, u2_cell, u2_ne]
          · refine R5_of hS.2.2.2.2 (fun j hj => ?_) (fun k q1 q2 => ?_) <;> simp (disch := omega) only [u2_eq, u2_cell, u2_ne]
theorem op_award {l : Launch} (hst : l.stackTraces = false) {n : Nat} (hn : n < 512) {F : FF} (hR : REL n F) (x : Int32) (rk : Int32) (am : Int32) : ∃ (k bb : Int32) (F1 F2 : FF), (∀ (D : va_G) (cA : Nat → ClassId) (ad : Nat → Nat) (sz : Nat), CI l D cA ad sz yL_award wsL_award 8 137 1 6 [.ref (ad 0), .int x, .int rk, .int am, .ref (ad 59)] F (some (.int k)) F1) ∧ (∀ (D : va_G) (cA : Nat → ClassId) (ad : Nat → Nat) (sz : Nat), CI l D cA ad sz yX5_award wsX5_award 2 42 0 0 [.ref (ad 36), .int x, .int rk, .int am] F1 (some (.int bb)) F2) ∧ F2 36 0 = k ∧ (k = 0 → F2 59 0 = bb) ∧ REL (n + 1) F2 := by
  cases hx : wi x 0 3 with
  | false =>
    exact ⟨1, 0, F, th F 1, fun D cA ad sz => x1_L_award l D cA ad sz F hst x rk am hx, fun D cA ad sz => e1_X5_award l D cA ad sz F x rk am hx, u2_eq _ _ _ _, fun z => absurd z (by decide), REL_th hR 1⟩
  | true =>
    obtain ⟨i, hi, ex⟩ := stu_i hx
    rw [ex]
    have hn0 : n ≤ 512 := by omega
    have hS := hR.2.2 i hi
    have h4 := hS.2.2.2.1
    have et : F (4 + 8 * i + 3) 3 = nI (aM F i) := h4.1.trans h4.2.2.1
    by_cases h : wi rk 0 2 = true ∧ wi am 1 1000000 = true
    · obtain ⟨h1, h2⟩ := h
      by_cases ht : aM F i = 6
      · exact ⟨3, 0, F, th F 3, fun D cA ad sz => x3_L_award l D cA ad sz F hst i hi rk am h1 h2 (by rw [et, ht]), fun D cA ad sz => e3_X5_award l D cA ad sz F i hi (EMh hR hi) rk am h1 h2 ht, u2_eq _ _ _ _, fun z => absurd z (by decide), REL_th hR 3⟩
      · have ht8 : aM F i < 6 := by have := h4.2.1; omega
        have eT : aM (u2 (u2 (u2 (u2 F (4 + 8 * i + 4) (aM F i) rk) (4 + 8 * i + 5) (aM F i) am) (4 + 8 * i + 3) 3 (nI (aM F i + 1))) 59 0 (nI (aM F i))) i = aM F i := aM_of (by simp (disch := omega) only [u2_eq, u2_cell, u2_ne])
        have eF : maF (u2 (u2 (u2 (u2 F (4 + 8 * i + 4) (aM F i) rk) (4 + 8 * i + 5) (aM F i) am) (4 + 8 * i + 3) 3 (nI (aM F i + 1))) 59 0 (nI (aM F i))) i rk am = u2 (u2 (u2 (th (u2 (u2 (u2 (u2 F (4 + 8 * i + 4) (aM F i) rk) (4 + 8 * i + 5) (aM F i) am) (4 + 8 * i + 3) 3 (nI (aM F i + 1))) 59 0 (nI (aM F i))) 0) 51 (6 * i + aM F i) rk) 52 (6 * i + aM F i) am) 50 i (nI (aM F i + 1)) := by unfold maF; rw [eT]
        have hO : OKM (u2 (u2 (u2 (u2 F (4 + 8 * i + 4) (aM F i) rk) (4 + 8 * i + 5) (aM F i) am) (4 + 8 * i + 3) 3 (nI (aM F i + 1))) 59 0 (nI (aM F i))) i := OKM_of (EMh hR hi) (by simp (disch := omega) only [u2_eq, u2_cell, u2_ne]) (by simp (disch := omega) only [u2_eq, u2_cell, u2_ne]) (by simp (disch := omega) only [u2_eq, u2_cell, u2_ne])
        have ba := wi_bt i1 i1e6 h2
        refine ⟨0, nI (aM F i), u2 (u2 (u2 (u2 F (4 + 8 * i + 4) (aM F i) rk) (4 + 8 * i + 5) (aM F i) am) (4 + 8 * i + 3) 3 (nI (aM F i + 1))) 59 0 (nI (aM F i)), u2 (u2 (u2 (th (u2 (u2 (u2 (u2 F (4 + 8 * i + 4) (aM F i) rk) (4 + 8 * i + 5) (aM F i) am) (4 + 8 * i + 3) 3 (nI (aM F i + 1))) 59 0 (nI (aM F i))) 0) 51 (6 * i + aM F i) rk) 52 (6 * i + aM F i) am) 50 i (nI (aM F i + 1)), fun D cA ad sz => w_L_award l D cA ad sz F i hi rk am h1 h2 (aM F i) ht8 et, fun D cA ad sz => ?_, ?_, fun _ => ?_, ?_⟩
        · have c := c_X5_award l D cA ad sz (u2 (u2 (u2 (u2 F (4 + 8 * i + 4) (aM F i) rk) (4 + 8 * i + 5) (aM F i) am) (4 + 8 * i + 3) 3 (nI (aM F i + 1))) 59 0 (nI (aM F i))) i hi hO rk am h1 h2 (by rw [eT]; exact ht8)
          rw [eT, eF] at c
          exact c
        · simp (disch := omega) only [u2_eq, u2_cell, u2_ne]
        · simp (disch := omega) only [u2_eq, u2_cell, u2_ne]
        · refine RX_stu hR (i := i) (fun k j q1 q2 q3 => ?_) (fun k j q1 q2 q3 q4 => ?_) ⟨?_, ?_, ?_, ?_, ?_⟩
          · simp (disch := omega) only [u2_eq, u2_cell, u2_ne]
          · unfold Oth at q4
            simp (disch := omega) only [u2_eq, u2_cell, u2_ne]
          · refine R1_of hS.1 (fun j hj => ?_) (fun k q1 q2 => ?_) <;> simp (disch := omega) only [u2_eq, u2_cell, u2_ne]
          · refine R2_of hS.2.1 (by omega) (by omega) (fun j hj => ?_) ?_ ?_ ?_ <;> simp (disch := omega) only [u2_eq, u2_cell, u2_ne]
          · refine R3_of hS.2.2.1 ?_ ?_ (fun j hj => ?_) ?_ ?_ (fun j hj => ?_) (fun j hj => ?_) <;> simp (disch := omega) only [u2_eq, u2_cell, u2_ne]
          · refine R4_award h4 rfl ht8 (wi_bt i0 i2 h1) ⟨by have := ba.1; omega, ba.2⟩ ?_ (fun j => ?_) (fun j => ?_) ?_ (fun j hj => ?_) (fun j hj => ?_)
            · simp (disch := omega) only [u2_eq, u2_cell, u2_ne]
            · simp (disch := omega) only [u2_cell, u2_at, u2_of8, u2_of6, Nat.add_left_cancel_iff]
            · simp (disch := omega) only [u2_cell, u2_at, u2_of8, u2_of6, Nat.add_left_cancel_iff]
            · simp (disch := omega) only [u2_eq, u2_cell, u2_ne]
            · simp (disch := omega) only [u2_cell, u2_at, u2_of8, u2_of6, Nat.add_left_cancel_iff]
            · simp (disch := omega) only [u2_cell, u2_at, u2_of8, u2_of6, Nat.add_left_cancel_iff]
          · refine R5_of hS.2.2.2.2 (fun j hj => ?_) (fun k q1 q2 => ?_) <;> simp (disch := omega) only [u2_eq, u2_cell, u2_ne]
    · exact ⟨2, 0, F, th F 2, fun D cA ad sz => x2_L_award l D cA ad sz F hst i hi rk am h, fun D cA ad sz => e2_X5_award l D cA ad sz F i hi (EMh hR hi) rk am h, u2_eq _ _ _ _, fun z => absurd z (by decide), REL_th hR 2⟩
theorem kd_wi {x : Int32} (h : x = 1 ∨ x = 2) : wi x 1 2 = true := by
  rcases h with e | e <;> rw [e] <;> decide
theorem op_charge {l : Launch} (hst : l.stackTraces = false) {n : Nat} (hn : n < 512) {F : FF} (hR : REL n F) (x : Int32) (kd : Int32) (am : Int32) : ∃ (k bb : Int32) (F1 F2 : FF), (∀ (D : va_G) (cA : Nat → ClassId) (ad : Nat → Nat) (sz : Nat), CI l D cA ad sz yL_charge wsL_charge 8 136 1 6 [.ref (ad 0), .int x, .int kd, .int am, .ref (ad 59)] F (some (.int k)) F1) ∧ (∀ (D : va_G) (cA : Nat → ClassId) (ad : Nat → Nat) (sz : Nat), CI l D cA ad sz yX5_charge wsX5_charge 2 42 0 0 [.ref (ad 36), .int x, .int kd, .int am] F1 (some (.int bb)) F2) ∧ F2 36 0 = k ∧ (k = 0 → F2 59 0 = bb) ∧ REL (n + 1) F2 := by
  cases hx : wi x 0 3 with
  | false =>
    exact ⟨1, 0, F, th F 1, fun D cA ad sz => x1_L_charge l D cA ad sz F hst x kd am hx, fun D cA ad sz => e1_X5_charge l D cA ad sz F x kd am hx, u2_eq _ _ _ _, fun z => absurd z (by decide), REL_th hR 1⟩
  | true =>
    obtain ⟨i, hi, ex⟩ := stu_i hx
    rw [ex]
    have hn0 : n ≤ 512 := by omega
    have hS := hR.2.2 i hi
    by_cases h : wi kd 1 2 = true ∧ wi am 1 1000000 = true
    · obtain ⟨h1, h2⟩ := h
      have ba := wi_bt i1 i1e6 h2
      have hB := Bmax (n := n + 1) (by omega) (show RX (n + 1) F F from REL_mono hR)
      rcases kd_12 h1 with ek | ek
      · rw [ek]
        refine ⟨0, mcF (u2 (u2 F (4 + 8 * i) 6 (F (4 + 8 * i) 6 + am)) 59 0 (F (4 + 8 * i) 6 + am)) i am 0 48 i, u2 (u2 F (4 + 8 * i) 6 (F (4 + 8 * i) 6 + am)) 59 0 (F (4 + 8 * i) 6 + am), mcF (u2 (u2 F (4 + 8 * i) 6 (F (4 + 8 * i) 6 + am)) 59 0 (F (4 + 8 * i) 6 + am)) i am 0, fun D cA ad sz => w_L_charge1 l D cA ad sz F i hi am h2, fun D cA ad sz => c_X5_charge1 l D cA ad sz _ i hi am h2, ?_, fun _ => ?_, ?_⟩
        all_goals unfold mcF
        · simp (disch := omega) only [u2_eq, u2_cell, u2_ne]
        · simp (disch := omega) only [u2_eq, u2_cell, u2_ne]
          rw [hS.2.1.1]
        · refine RX_stu hR (i := i) (fun k j q1 q2 q3 => ?_) (fun k j q1 q2 q3 q4 => ?_) ⟨?_, ?_, ?_, ?_, ?_⟩
          · simp (disch := omega) only [u2_eq, u2_cell, u2_ne]
          · unfold Oth at q4
            simp (disch := omega) only [u2_eq, u2_cell, u2_ne]
          · refine R1_of hS.1 (fun j hj => ?_) (fun k q1 q2 => ?_) <;> simp (disch := omega) only [u2_eq, u2_cell, u2_ne]
          · refine R2_chg (a := am) (b := 0) hS.2.1 (by omega) (by omega) (by omega) (by have z := i0; have y := ba.1; have w := ba.2; omega) (by have z := i0; have y := ba.1; have w := ba.2; omega) (by have z := i0; have y := ba.1; have w := ba.2; omega) ?_ ?_ ?_ ?_ ?_ ?_ <;> simp (disch := omega) only [u2_eq, u2_cell, u2_ne, Int32.add_zero]
          · refine R3_of hS.2.2.1 ?_ ?_ (fun j hj => ?_) ?_ ?_ (fun j hj => ?_) (fun j hj => ?_) <;> simp (disch := omega) only [u2_eq, u2_cell, u2_ne]
          · refine R4_of hS.2.2.2.1 ?_ (fun j hj => ?_) (fun j hj => ?_) ?_ (fun j hj => ?_) (fun j hj => ?_) <;> simp (disch := omega) only [u2_eq, u2_cell, u2_ne]
          · refine R5_of hS.2.2.2.2 (fun j hj => ?_) (fun k q1 q2 => ?_) <;> simp (disch := omega) only [u2_eq, u2_cell, u2_ne]
      · rw [ek]
        refine ⟨0, mcF (u2 (u2 F (4 + 8 * i) 7 (F (4 + 8 * i) 7 + am)) 59 0 (F (4 + 8 * i) 7 + am)) i 0 am 49 i, u2 (u2 F (4 + 8 * i) 7 (F (4 + 8 * i) 7 + am)) 59 0 (F (4 + 8 * i) 7 + am), mcF (u2 (u2 F (4 + 8 * i) 7 (F (4 + 8 * i) 7 + am)) 59 0 (F (4 + 8 * i) 7 + am)) i 0 am, fun D cA ad sz => w_L_charge2 l D cA ad sz F i hi am h2, fun D cA ad sz => c_X5_charge2 l D cA ad sz _ i hi am h2, ?_, fun _ => ?_, ?_⟩
        all_goals unfold mcF
        · simp (disch := omega) only [u2_eq, u2_cell, u2_ne]
        · simp (disch := omega) only [u2_eq, u2_cell, u2_ne]
          rw [hS.2.1.2.1]
        · refine RX_stu hR (i := i) (fun k j q1 q2 q3 => ?_) (fun k j q1 q2 q3 q4 => ?_) ⟨?_, ?_, ?_, ?_, ?_⟩
          · simp (disch := omega) only [u2_eq, u2_cell, u2_ne]
          · unfold Oth at q4
            simp (disch := omega) only [u2_eq, u2_cell, u2_ne]
          · refine R1_of hS.1 (fun j hj => ?_) (fun k q1 q2 => ?_) <;> simp (disch := omega) only [u2_eq, u2_cell, u2_ne]
          · refine R2_chg (a := 0) (b := am) hS.2.1 (by omega) (by omega) (by omega) (by have z := i0; have y := ba.1; have w := ba.2; omega) (by have z := i0; have y := ba.1; have w := ba.2; omega) (by have z := i0; have y := ba.1; have w := ba.2; omega) ?_ ?_ ?_ ?_ ?_ ?_ <;> simp (disch := omega) only [u2_eq, u2_cell, u2_ne, Int32.add_zero]
          · refine R3_of hS.2.2.1 ?_ ?_ (fun j hj => ?_) ?_ ?_ (fun j hj => ?_) (fun j hj => ?_) <;> simp (disch := omega) only [u2_eq, u2_cell, u2_ne]
          · refine R4_of hS.2.2.2.1 ?_ (fun j hj => ?_) (fun j hj => ?_) ?_ (fun j hj => ?_) (fun j hj => ?_) <;> simp (disch := omega) only [u2_eq, u2_cell, u2_ne]
          · refine R5_of hS.2.2.2.2 (fun j hj => ?_) (fun k q1 q2 => ?_) <;> simp (disch := omega) only [u2_eq, u2_cell, u2_ne]
    · exact ⟨2, 0, F, th F 2, fun D cA ad sz => x2_L_charge l D cA ad sz F hst i hi kd am (fun z => h ⟨kd_wi z.1, z.2⟩), fun D cA ad sz => e2_X5_charge l D cA ad sz F i hi kd am h, u2_eq _ _ _ _, fun z => absurd z (by decide), REL_th hR 2⟩
/-! pay, plan -/
theorem cvT_row {i : Nat} {r : Int32} {j a : Nat} (h : a ≠ 4 + 8 * i + 6) (s : TC) : (cvT i r j s).1 a = s.1 a := by
  unfold cvT
  split
  · exact u2_cell _ _ _ h
  · rfl
theorem cvR_row {i : Nat} {r : Int32} {a : Nat} (h : a ≠ 4 + 8 * i + 6) (s : TC) : ∀ j, (cvR i r j s).1 a = s.1 a
  | 0 => rfl
  | j + 1 => (cvT_row h _).trans (cvR_row h s j)
theorem bal_row {F : FF} {i a : Nat} (h : a ≠ 4 + 8 * i + 6) : balF F i a = F a := by
  unfold balF cvA
  rw [cvR_row h, cvR_row h, cvR_row h]
theorem R2_pay {B P B' P' : Int} {C M C' M' : FF} {i : Nat} {a : Int32} (h : R2 B P C M i) (hB : B ≤ B') (hP : P + 1000000 ≤ P') (hP2 : P' ≤ 700000000) (ha : bt a 1 1000000) (c6 : C' (4 + 8 * i) 6 = C (4 + 8 * i) 6) (c7 : C' (4 + 8 * i) 7 = C (4 + 8 * i) 7) (c10 : C' (4 + 8 * i) 10 = C (4 + 8 * i) 10 + a) (m8 : M' 48 i = M 48 i) (m9 : M' 49 i = M 49 i) (m3 : M' 53 i = M 53 i + a) : R2 B' P' C' M' i := by
  unfold R2 bt at h ⊢
  obtain ⟨h1, h2, h3, h4, h5, h6, h7, h8⟩ := h
  obtain ⟨a1, a2⟩ := ha
  rw [c6, c7, c10, m8, m9, m3, iadd (by omega) (by omega), h3]
  exact ⟨h1, h2, rfl, h4, h5, by omega, by omega, by omega⟩
theorem ring1 (b d m : Int32) : b - d * (m - 1) = d + (b - d * m) := by
  rw [Int32.mul_sub, Int32.mul_one, Int32.sub_eq_add_neg b, Int32.neg_sub, Int32.sub_eq_add_neg d, Int32.sub_eq_add_neg b, ← Int32.add_assoc, ← Int32.add_assoc, Int32.add_comm b d]
theorem op_pay {l : Launch} (hst : l.stackTraces = false) {n : Nat} (hn : n < 512) {F : FF} (hR : REL n F) (x : Int32) (am : Int32) : ∃ (k bb : Int32) (F1 F2 : FF), (∀ (D : va_G) (cA : Nat → ClassId) (ad : Nat → Nat) (sz : Nat), CI l D cA ad sz yL_pay wsL_pay 8 135 1 6 [.ref (ad 0), .int x, .int am, .ref (ad 59)] F (some (.int k)) F1) ∧ (∀ (D : va_G) (cA : Nat → ClassId) (ad : Nat → Nat) (sz : Nat), CI l D cA ad sz yX5_pay wsX5_pay 6 140 0 0 [.ref (ad 36), .int x, .int am] F1 (some (.int bb)) F2) ∧ F2 36 0 = k ∧ (k = 0 → F2 59 0 = bb) ∧ REL (n + 1) F2 := by
  cases hx : wi x 0 3 with
  | false =>
    exact ⟨1, 0, F, th F 1, fun D cA ad sz => x1_L_pay l D cA ad sz F hst x am hx, fun D cA ad sz => e1_X5_pay l D cA ad sz F x am hx, u2_eq _ _ _ _, fun z => absurd z (by decide), REL_th hR 1⟩
  | true =>
    obtain ⟨i, hi, ex⟩ := stu_i hx
    rw [ex]
    have hn0 : n ≤ 512 := by omega
    have hS := hR.2.2 i hi
    cases h1 : wi am 1 1000000 with
    | false =>
      exact ⟨2, 0, F, th F 2, fun D cA ad sz => x2_L_pay l D cA ad sz F hst i hi am h1, fun D cA ad sz => e2_X5_pay l D cA ad sz F i hi am h1, u2_eq _ _ _ _, fun z => absurd z (by decide), REL_th hR 2⟩
    | true =>
      have hM : EM F (u2 (balF (pyF F i am) i) 59 0 (balV (pyF F i am) i)) := EM_59 (fun k q1 q2 => by rw [bal_row (by omega)]; unfold pyF; simp (disch := omega) only [u2_eq, u2_cell, u2_ne])
      have hX := RX_of (Nat.le_refl n) hR (EC_rfl F) hM
      have hT := hX.2.2 i hi
      have hO := RX_OKM hX hi
      have hB := Bmax hn0 hX
      have ba := wi_bt i1 i1e6 h1
      have hX' : RX (n + 1) (pyF F i am) (mpF (u2 (balF (pyF F i am) i) 59 0 (balV (pyF F i am) i)) i am) := by
        generalize balV (pyF F i am) i = r at *
        unfold mpF pyF at *
        refine RX_stu hX (i := i) (fun k j q1 q2 q3 => ?_) (fun k j q1 q2 q3 q4 => ?_) ⟨?_, ?_, ?_, ?_, ?_⟩
        · simp (disch := omega) only [u2_eq, u2_cell, u2_ne]
        · unfold Oth at q4
          simp (disch := omega) only [u2_eq, u2_cell, u2_ne]
        · refine R1_of hT.1 (fun j hj => ?_) (fun k q1 q2 => ?_) <;> simp (disch := omega) only [u2_eq, u2_cell, u2_ne, bal_row]
        · refine R2_pay hT.2.1 (by omega) (by omega) (by omega) ba ?_ ?_ ?_ ?_ ?_ ?_ <;> simp (disch := omega) only [u2_eq, u2_cell, u2_ne]
        · refine R3_of hT.2.2.1 ?_ ?_ (fun j hj => ?_) ?_ ?_ (fun j hj => ?_) (fun j hj => ?_) <;> simp (disch := omega) only [u2_eq, u2_cell, u2_ne, bal_row]
        · refine R4_of hT.2.2.2.1 ?_ (fun j hj => ?_) (fun j hj => ?_) ?_ (fun j hj => ?_) (fun j hj => ?_) <;> simp (disch := omega) only [u2_eq, u2_cell, u2_ne, bal_row]
        · obtain ⟨g0, g1, g2, g3, g4⟩ := hT.2.2.2.2
          refine ⟨?_, ?_, ?_, ?_, ?_⟩
          · simp (disch := omega) only [u2_eq, u2_cell, u2_ne, bal_row] at g0 ⊢; exact g0
          · simp (disch := omega) only [u2_eq, u2_cell, u2_ne, bal_row] at g1 ⊢; exact g1
          · simp (disch := omega) only [u2_eq, u2_cell, u2_ne, bal_row] at g2 ⊢; exact g2
          · simp (disch := omega) only [u2_eq, u2_cell, u2_ne, bal_row] at g3 ⊢; exact g3
          · simp (disch := omega) only [u2_eq, u2_cell, u2_ne, bal_row] at g4 ⊢; rw [g4]
      have hb := bal_M (n := n + 1) (by omega) hi hX'
      refine ⟨0, _, u2 (balF (pyF F i am) i) 59 0 (balV (pyF F i am) i), mpF (u2 (balF (pyF F i am) i) 59 0 (balV (pyF F i am) i)) i am, fun D cA ad sz => w_L_pay l D cA ad sz F i hi am h1, fun D cA ad sz => c_X5_pay l D cA ad sz _ i hi hO am h1, ?_, fun _ => ?_, ?_⟩
      · unfold mpF; simp (disch := omega) only [u2_eq, u2_cell, u2_ne]
      · refine Eq.trans ?_ hb.1
        generalize balV (pyF F i am) i = r
        unfold mpF; simp (disch := omega) only [u2_eq, u2_cell, u2_ne]
      · refine REL_mk hX' (fun k q1 q2 => ?_)
        generalize balV (pyF F i am) i = r
        unfold mpF
        simp (disch := omega) only [u2_cell]
        exact bal_row (q2 i hi)
theorem op_plan {l : Launch} (hst : l.stackTraces = false) {n : Nat} (hn : n < 512) {F : FF} (hR : REL n F) (x : Int32) (y : Int32) : ∃ (k bb : Int32) (F1 F2 : FF), (∀ (D : va_G) (cA : Nat → ClassId) (ad : Nat → Nat) (sz : Nat), CI l D cA ad sz yL_plan wsL_plan 8 138 1 6 [.ref (ad 0), .int x, .int y, .ref (ad 59)] F (some (.int k)) F1) ∧ (∀ (D : va_G) (cA : Nat → ClassId) (ad : Nat → Nat) (sz : Nat), CI l D cA ad sz yX5_plan wsX5_plan 6 140 0 0 [.ref (ad 36), .int x, .int y] F1 (some (.int bb)) F2) ∧ F2 36 0 = k ∧ (k = 0 → F2 59 0 = bb) ∧ REL (n + 1) F2 := by
  cases hx : wi x 0 3 with
  | false =>
    exact ⟨1, 0, F, th F 1, fun D cA ad sz => x1_L_plan l D cA ad sz F hst x y hx, fun D cA ad sz => e1_X5_plan l D cA ad sz F x y hx, u2_eq _ _ _ _, fun z => absurd z (by decide), REL_th hR 1⟩
  | true =>
    obtain ⟨i, hi, ex⟩ := stu_i hx
    rw [ex]
    have hn0 : n ≤ 512 := by omega
    have hS := hR.2.2 i hi
    cases h1 : wi y 1 4 with
    | false =>
      exact ⟨2, 0, F, th F 2, fun D cA ad sz => x2_L_plan l D cA ad sz F hst i hi y h1, fun D cA ad sz => e2_X5_plan l D cA ad sz F i hi y h1, u2_eq _ _ _ _, fun z => absurd z (by decide), REL_th hR 2⟩
    | true =>
      obtain ⟨q, hq, ey⟩ := mo_i h1
      rw [ey]
      by_cases hb : balV F i ≤ 0
      · have hM : EM F (balF F i) := fun k j q1 q2 _ => by rw [bal_row (by omega)]
        have hX := RX_of (Nat.le_refl n) hR (EC_rfl F) hM
        exact ⟨3, 0, balF F i, th (balF F i) 3, fun D cA ad sz => x3_L_plan l D cA ad sz F hst i hi q hq hb, fun D cA ad sz => e3_X5_plan l D cA ad sz _ i hi (RX_OKM hX hi) q hq (by rw [← (bal_M hn0 hi hX).1]; exact hb), u2_eq _ _ _ _, fun z => absurd z (by decide), RX_of (Nat.le_succ n) hR (fun k q1 q2 => (u2_cell _ _ _ (by omega)).trans (bal_row (q2 i hi))) (EM_th hM)⟩
      · have hM : EM F (u2 (plF F i (q + 1)) 59 0 (plS (balV F i) (q + 1))) := EM_59 (fun k q1 q2 => by unfold plF; rw [u2_cell _ _ _ (by omega), u2_cell _ _ _ (by omega), u2_cell _ _ _ (by omega), u2_cell _ _ _ (by omega), u2_cell _ _ _ (by omega), bal_row (by omega)])
        have hX := RX_of (Nat.le_refl n) hR (EC_rfl F) hM
        have hXt := RX_of (Nat.le_refl n) hR (EC_rfl F) (EM_th (p := 0) hM)
        have hT := hX.2.2 i hi
        have hO := RX_OKM hX hi
        have e1 := (bal_M hn0 hi hX).1
        have e2 := (bal_M hn0 hi hXt).1
        have hX' : RX (n + 1) (plF F i (q + 1)) (mlF (u2 (plF F i (q + 1)) 59 0 (plS (balV F i) (q + 1))) i (nI (q + 1)) (balV F i)) := by
          have k1 := hR.2.1.1
          have k2 := hR.2.1.2.1
          clear e1 e2 hXt hO hb
          unfold mlF ml3 plF at *
          unfold plS plE at *
          generalize balV F i = b at *
          refine RX_stu hX (i := i) (fun k j q1 q2 q3 => ?_) (fun k j q1 q2 q3 q4 => ?_) ⟨?_, ?_, ?_, ?_, ?_⟩
          · simp (disch := omega) only [u2_eq, u2_cell, u2_ne, bal_row]
          · unfold Oth at q4
            simp (disch := omega) only [u2_eq, u2_cell, u2_ne]
          · refine R1_of hT.1 (fun j hj => ?_) (fun k q1 q2 => ?_) <;> simp (disch := omega) only [u2_eq, u2_cell, u2_ne, bal_row]
          · refine R2_of hT.2.1 (by omega) (by omega) (fun j hj => ?_) ?_ ?_ ?_ <;> simp (disch := omega) only [u2_eq, u2_cell, u2_ne, bal_row]
          · refine R3_of hT.2.2.1 ?_ ?_ (fun j hj => ?_) ?_ ?_ (fun j hj => ?_) (fun j hj => ?_) <;> simp (disch := omega) only [u2_eq, u2_cell, u2_ne, bal_row]
          · refine R4_of hT.2.2.2.1 ?_ (fun j hj => ?_) (fun j hj => ?_) ?_ (fun j hj => ?_) (fun j hj => ?_) <;> simp (disch := omega) only [u2_eq, u2_cell, u2_ne, bal_row]
          · refine ⟨?_, ?_, ?_, ?_, ?_⟩
            · simp (disch := omega) only [u2_eq, u2_cell, u2_ne, bal_row]; rw [k1, k2, Int32.mul_comm]
            · simp (disch := omega) only [u2_eq, u2_cell, u2_ne, bal_row]
            · simp (disch := omega) only [u2_eq, u2_cell, u2_ne, bal_row]; exact ring1 _ _ _
            · simp (disch := omega) only [u2_eq, u2_cell, u2_ne, bal_row]
            · simp (disch := omega) only [u2_eq, u2_cell, u2_ne, bal_row]
        refine ⟨0, mlF (u2 (plF F i (q + 1)) 59 0 (plS (balV F i) (q + 1))) i (nI (q + 1)) (balV F i) 55 i + mlF (u2 (plF F i (q + 1)) 59 0 (plS (balV F i) (q + 1))) i (nI (q + 1)) (balV F i) 56 i, u2 (plF F i (q + 1)) 59 0 (plS (balV F i) (q + 1)), mlF (u2 (plF F i (q + 1)) 59 0 (plS (balV F i) (q + 1))) i (nI (q + 1)) (balV F i), fun D cA ad sz => w_L_plan l D cA ad sz F i hi q hq hb, fun D cA ad sz => ?_, ?_, fun _ => ?_, ?_⟩
        · have c := c_X5_plan l D cA ad sz (u2 (plF F i (q + 1)) 59 0 (plS (balV F i) (q + 1))) i hi hO q hq (by rw [← e1]; exact hb)
          rw [← e2] at c
          exact c
        · unfold mlF ml3; simp (disch := omega) only [u2_eq, u2_cell, u2_ne]
        · unfold mlF ml3 plS
          generalize balV F i = b
          simp (disch := omega) only [u2_eq, u2_cell, u2_ne]
          exact ring1 _ _ _
        · refine REL_mk hX' (fun k q1 q2 => ?_)
          unfold mlF ml3
          generalize balV F i = b
          simp (disch := omega) only [u2_eq, u2_cell, u2_ne]
