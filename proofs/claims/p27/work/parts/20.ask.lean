/-! the calls that ask -/
theorem a_week {n : Nat} {F M : FF} (h : RX n F M) (l : Launch) (D : va_G) (cA : Nat → ClassId) (ad : Nat → Nat) (sz : Nat) : CI l D cA ad sz yX4_week wsX4_week 0 0 0 0 [.ref (ad 0)] F (some (.int (M 36 1))) F := by
  have q := c_X4_week l D cA ad sz F
  rw [h.2.1.1] at q
  exact q
theorem a_term {n : Nat} {F M : FF} (h : RX n F M) (l : Launch) (D : va_G) (cA : Nat → ClassId) (ad : Nat → Nat) (sz : Nat) : CI l D cA ad sz yX4_term wsX4_term 0 0 0 0 [.ref (ad 0)] F (some (.int (M 36 2))) F := by
  have q := c_X4_term l D cA ad sz F
  rw [h.2.1.2.1] at q
  exact q
theorem a_credits {n : Nat} {F M : FF} (h : RX n F M) {i : Nat} (hi : i < 4) (l : Launch) (D : va_G) (cA : Nat → ClassId) (ad : Nat → Nat) (sz : Nat) : CI l D cA ad sz yX4_credits wsX4_credits 1 22 0 0 [.ref (ad 0), .int (nI i)] F (some (.int (mcr M i (tM M i)))) F := by
  have q := c_X4_credits l D cA ad sz F i hi
  rw [cr_eq (h.2.2 i hi).2.2.1] at q
  exact q
theorem a_charged0 {n : Nat} {F M : FF} (h : RX n F M) {i : Nat} (hi : i < 4) (l : Launch) (D : va_G) (cA : Nat → ClassId) (ad : Nat → Nat) (sz : Nat) : CI l D cA ad sz yX4_charged wsX4_charged 2 46 0 0 [.ref (ad 0), .int (nI i), .int 0] F (some (.int (tuM M i))) F := by
  have q := c_X4_charged0 l D cA ad sz F i hi
  rw [ch_a1 h.1 (h.2.2 i hi)] at q
  exact q
theorem a_charged1 {n : Nat} {F M : FF} (h : RX n F M) {i : Nat} (hi : i < 4) (l : Launch) (D : va_G) (cA : Nat → ClassId) (ad : Nat → Nat) (sz : Nat) : CI l D cA ad sz yX4_charged wsX4_charged 2 46 0 0 [.ref (ad 0), .int (nI i), .int 1] F (some (.int (M 48 i))) F := by
  have q := c_X4_charged1 l D cA ad sz F i hi
  rw [(ch_a2 F i).trans (h.2.2 i hi).2.1.1] at q
  exact q
theorem a_charged2 {n : Nat} {F M : FF} (h : RX n F M) {i : Nat} (hi : i < 4) (l : Launch) (D : va_G) (cA : Nat → ClassId) (ad : Nat → Nat) (sz : Nat) : CI l D cA ad sz yX4_charged wsX4_charged 2 46 0 0 [.ref (ad 0), .int (nI i), .int 2] F (some (.int (M 49 i))) F := by
  have q := c_X4_charged2 l D cA ad sz F i hi
  rw [(ch_a4 F i).trans (h.2.2 i hi).2.1.2.1] at q
  exact q
theorem a_sponsored {n : Nat} {F M : FF} (h : RX n F M) {i : Nat} (hi : i < 4) (l : Launch) (D : va_G) (cA : Nat → ClassId) (ad : Nat → Nat) (sz : Nat) : CI l D cA ad sz yX4_sponsored wsX4_sponsored 3 67 0 0 [.ref (ad 0), .int (nI i)] F (some (.int (spM M i))) F := by
  have q := c_X4_sponsored l D cA ad sz F i hi
  rw [sp_eq h.1 (h.2.2 i hi)] at q
  exact q
theorem a_paid {n : Nat} {F M : FF} (h : RX n F M) {i : Nat} (hi : i < 4) (l : Launch) (D : va_G) (cA : Nat → ClassId) (ad : Nat → Nat) (sz : Nat) : CI l D cA ad sz yX4_paid wsX4_paid 1 22 0 0 [.ref (ad 0), .int (nI i)] F (some (.int (M 53 i))) F := by
  have q := c_X4_paid l D cA ad sz F i hi
  rw [(h.2.2 i hi).2.1.2.2.1] at q
  exact q
theorem aw_n {n : Nat} {F M : FF} (h : RX n F M) {i : Nat} (hi : i < 4) : F (4 + 8 * i + 3) 3 = nI (aM M i) := (h.2.2 i hi).2.2.2.1.1.trans (h.2.2 i hi).2.2.2.1.2.2.1
theorem aw_6 {n : Nat} {F M : FF} (h : RX n F M) {i : Nat} (hi : i < 4) : aM M i ≤ 6 := (h.2.2 i hi).2.2.2.1.2.1
theorem aw_r {n : Nat} {F M : FF} (h : RX n F M) {i : Nat} (hi : i < 4) {j : Nat} (hj : j < aM M i) : ∃ r, r < 3 ∧ M 51 (6 * i + j) = nI r := rk_i ((h.2.2 i hi).2.2.2.1.2.2.2.1 j hj).2
theorem a_amountOf {n : Nat} {F M : FF} (h : RX n F M) {i : Nat} (hi : i < 4) {j : Nat} (hj : j < aM M i) (l : Launch) (D : va_G) (cA : Nat → ClassId) (ad : Nat → Nat) (sz : Nat) : CI l D cA ad sz yX4_amountOf wsX4_amountOf 1 22 0 0 [.ref (ad 0), .int (nI i), .int (nI j)] F (some (.int (M 52 (6 * i + j)))) F := by
  have h6 := aw_6 h hi
  have q := c_X4_amountOf l D cA ad sz F i hi j (by omega) (by rw [aw_n h hi]; exact hasI_nI hj (by omega))
  rw [(h.2.2 i hi).2.2.2.1.2.2.2.2.1 j (by omega), if_pos hj] at q
  exact q
theorem a_owed {n : Nat} (hn : n ≤ 512) {F M : FF} (h : RX n F M) {i : Nat} (hi : i < 4) : ∃ F1 : FF, (∀ (l : Launch) (D : va_G) (cA : Nat → ClassId) (ad : Nat → Nat) (sz : Nat), CI l D cA ad sz yX4_owed wsX4_owed 5 110 0 0 [.ref (ad 0), .int (nI i)] F (some (.int (owM M i))) F1) ∧ RX n F1 M := by
  refine ⟨balF F i, fun l D cA ad sz => ?_, pm_bal h hi⟩
  have q := c_X4_owed l D cA ad sz F i hi
  rw [(bal_M hn hi h).1] at q
  exact q
theorem a_hasHold {n : Nat} (hn : n ≤ 512) {F M : FF} (h : RX n F M) {i : Nat} (hi : i < 4) : ∃ F1 : FF, (∀ (l : Launch) (D : va_G) (cA : Nat → ClassId) (ad : Nat → Nat) (sz : Nat), CI l D cA ad sz yX4_hasHold wsX4_hasHold 5 110 0 0 [.ref (ad 0), .int (nI i)] F (some (.int (bI (!decide (owM M i ≤ M 36 8))))) F1) ∧ RX n F1 M := by
  refine ⟨balF F i, fun l D cA ad sz => ?_, pm_bal h hi⟩
  have q := c_X4_hasHold l D cA ad sz F i hi
  rw [hh_key (bal_M hn hi h).1 ((congrFun ((bal_M hn hi h).2.1 0 (by omega)) 6).trans h.1.2.2.2.2.2)] at q
  exact q
theorem a_used {n : Nat} (hn : n ≤ 512) {F M : FF} (h : RX n F M) {i : Nat} (hi : i < 4) {j : Nat} (hj : j < aM M i) : ∃ F1 : FF, (∀ (l : Launch) (D : va_G) (cA : Nat → ClassId) (ad : Nat → Nat) (sz : Nat), CI l D cA ad sz yX4_used wsX4_used 4 88 0 0 [.ref (ad 0), .int (nI i), .int (nI j)] F (some (.int (usR M i (nI j)))) F1) ∧ RX n F1 M := by
  have h6 := aw_6 h hi
  obtain ⟨r, hr, em⟩ := aw_r h hi hj
  refine ⟨balF F i, fun l D cA ad sz => ?_, pm_bal h hi⟩
  have q := c_X4_used l D cA ad sz F i hi j (by omega) (by rw [aw_n h hi]; exact hasI_nI hj (by omega))
  rw [(bal_M hn hi h).2.2.1 j r hj hr em] at q
  exact q
