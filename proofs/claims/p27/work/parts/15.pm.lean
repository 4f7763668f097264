/-! what a call does, of the program's numbers C and the reference's M -/
theorem pm_rate {n : Nat} {C M : FF} (h : RX n C M) (lv : Int32) (b : Bool) (rt : Int32) (h2 : wi rt 0 100000 = true) : C 2 (plc lv (bI b)) = M 37 (plc lv (bI b)) ∧ 0 ≤ (M 37 (plc lv (bI b))).toInt ∧ RX (n + 1) (srF C lv b rt) (u2 M 37 (plc lv (bI b)) rt) := by
  have hp := plc_lt lv (bI b)
  have hG := h.1
  unfold srF
  generalize plc lv (bI b) = p at *
  refine ⟨(hG.1 p hp).1, (hG.1 p hp).2.1, ?_⟩
  refine RX_glob h ⟨?_, ?_, ?_, ?_⟩ ?_ ?_ ?_ ?_ (fun k q1 q2 => ?_) (fun k q1 q2 => ?_)
  · exact up_all (P := fun j x y => x = y ∧ bt y 0 100000) (p := p) rt hG.1 (fun j => by simp (disch := omega) only [u2_at]) (fun j => by simp (disch := omega) only [u2_at]) ⟨rfl, wi_bt i0 i1e5 h2⟩
  · simp (disch := omega) only [u2_eq, u2_cell, u2_ne]; exact hG.2.1
  · simp (disch := omega) only [u2_eq, u2_cell, u2_ne]; exact hG.2.2.1
  · simp (disch := omega) only [u2_eq, u2_cell, u2_ne]; exact hG.2.2.2
  · simp (disch := omega) only [u2_eq, u2_cell, u2_ne]
  · simp (disch := omega) only [u2_eq, u2_cell, u2_ne]
  · simp (disch := omega) only [u2_eq, u2_cell, u2_ne]
  · simp (disch := omega) only [u2_eq, u2_cell, u2_ne]
  · simp (disch := omega) only [u2_eq, u2_cell, u2_ne]
  · simp (disch := omega) only [u2_eq, u2_cell, u2_ne]
theorem pm_share {n : Nat} {C M : FF} (h : RX n C M) {w : Nat} (hw : w < 16) (sh : Int32) (h2 : wi sh 0 100 = true) : C 3 w = M 38 w ∧ 0 ≤ (M 38 w).toInt ∧ RX (n + 1) (u2 C 3 w sh) (u2 M 38 w sh) := by
  have hG := h.1
  refine ⟨(hG.2.1 w hw).1, (hG.2.1 w hw).2.1, ?_⟩
  refine RX_glob h ⟨?_, ?_, ?_, ?_⟩ ?_ ?_ ?_ ?_ (fun k q1 q2 => ?_) (fun k q1 q2 => ?_)
  · simp (disch := omega) only [u2_eq, u2_cell, u2_ne]; exact hG.1
  · exact up_all (P := fun j x y => x = y ∧ bt y 0 100) (p := w) sh hG.2.1 (fun j => by simp (disch := omega) only [u2_at]) (fun j => by simp (disch := omega) only [u2_at]) ⟨rfl, wi_bt i0 i100 h2⟩
  · simp (disch := omega) only [u2_eq, u2_cell, u2_ne]; exact hG.2.2.1
  · simp (disch := omega) only [u2_eq, u2_cell, u2_ne]; exact hG.2.2.2
  · simp (disch := omega) only [u2_eq, u2_cell, u2_ne]
  · simp (disch := omega) only [u2_eq, u2_cell, u2_ne]
  · simp (disch := omega) only [u2_eq, u2_cell, u2_ne]
  · simp (disch := omega) only [u2_eq, u2_cell, u2_ne]
  · simp (disch := omega) only [u2_eq, u2_cell, u2_ne]
  · simp (disch := omega) only [u2_eq, u2_cell, u2_ne]
theorem pm_band {n : Nat} {C M : FF} (h : RX n C M) (fr tt : Int32) (h1 : wi fr 1 30 = true) (h2 : wi tt fr 30 = true) : RX (n + 1) (u2 (u2 C 0 3 fr) 0 4 tt) (u2 (u2 M 36 4 fr) 36 5 tt) := by
  have hG := h.1
  refine RX_glob h ⟨?_, ?_, ?_, ?_⟩ ?_ ?_ ?_ ?_ (fun k q1 q2 => ?_) (fun k q1 q2 => ?_)
  · simp (disch := omega) only [u2_eq, u2_cell, u2_ne]; exact hG.1
  · simp (disch := omega) only [u2_eq, u2_cell, u2_ne]; exact hG.2.1
  · simp (disch := omega) only [u2_eq, u2_cell, u2_ne]; exact ⟨trivial, trivial, wi_bt i1 i30 h1, wi_bt rfl i30 h2⟩
  · simp (disch := omega) only [u2_eq, u2_cell, u2_ne]; exact hG.2.2.2
  · simp (disch := omega) only [u2_eq, u2_cell, u2_ne]
  · simp (disch := omega) only [u2_eq, u2_cell, u2_ne]
  · simp (disch := omega) only [u2_eq, u2_cell, u2_ne]
  · simp (disch := omega) only [u2_eq, u2_cell, u2_ne]
  · simp (disch := omega) only [u2_eq, u2_cell, u2_ne]
  · simp (disch := omega) only [u2_eq, u2_cell, u2_ne]
theorem pm_fees {n : Nat} {C M : FF} (h : RX n C M) (fe lm : Int32) (h1 : wi fe 0 100000 = true) : RX (n + 1) (u2 (u2 C 0 5 fe) 0 6 lm) (u2 (u2 M 36 7 fe) 36 8 lm) := by
  have hG := h.1
  refine RX_glob h ⟨?_, ?_, ?_, ?_⟩ ?_ ?_ ?_ ?_ (fun k q1 q2 => ?_) (fun k q1 q2 => ?_)
  · simp (disch := omega) only [u2_eq, u2_cell, u2_ne]; exact hG.1
  · simp (disch := omega) only [u2_eq, u2_cell, u2_ne]; exact hG.2.1
  · simp (disch := omega) only [u2_eq, u2_cell, u2_ne]; exact hG.2.2.1
  · simp (disch := omega) only [u2_eq, u2_cell, u2_ne]; exact ⟨trivial, wi_bt i0 i1e5 h1, trivial⟩
  · simp (disch := omega) only [u2_eq, u2_cell, u2_ne]
  · simp (disch := omega) only [u2_eq, u2_cell, u2_ne]
  · simp (disch := omega) only [u2_eq, u2_cell, u2_ne]
  · simp (disch := omega) only [u2_eq, u2_cell, u2_ne]
  · simp (disch := omega) only [u2_eq, u2_cell, u2_ne]
  · simp (disch := omega) only [u2_eq, u2_cell, u2_ne]
theorem pm_student {n : Nat} {C M : FF} (h : RX n C M) {i : Nat} (hi : i < 4) (lv : Int32) (b : Bool) (nd : Int32) (h1 : wi lv 0 1 = true) (h2 : wi nd 0 1000000 = true) : RX (n + 1) (u2 (u2 (u2 C (4 + 8 * i) 3 lv) (4 + 8 * i) 4 (bI b)) (4 + 8 * i) 5 nd) (u2 (u2 (u2 M 39 i lv) 40 i (bI b)) 41 i nd) := by
  have hS := h.2.2 i hi
  obtain ⟨g1, g2, g3, g4, g5, h8, h9, h10, h11⟩ := hS.1
  refine RX_stu h (i := i) (fun k j q1 q2 q3 => ?_) (fun k j q1 q2 q3 q4 => ?_) ⟨?_, ?_, ?_, ?_, ?_⟩
  · simp (disch := omega) only [u2_eq, u2_cell, u2_ne]
  · unfold Oth at q4
    simp (disch := omega) only [u2_eq, u2_cell, u2_ne]
  · unfold R1
    simp (disch := omega) only [u2_eq, u2_cell, u2_ne]
    exact ⟨trivial, wi_01 h1, trivial, trivial, (wi_bt i0 i1e6 h2).1, h8, h9, h10, h11⟩
  · refine R2_of hS.2.1 (by omega) (by omega) (fun j hj => ?_) ?_ ?_ ?_ <;> simp (disch := omega) only [u2_eq, u2_cell, u2_ne]
  · refine R3_of hS.2.2.1 ?_ ?_ (fun j hj => ?_) ?_ ?_ (fun j hj => ?_) (fun j hj => ?_) <;> simp (disch := omega) only [u2_eq, u2_cell, u2_ne]
  · refine R4_of hS.2.2.2.1 ?_ (fun j hj => ?_) (fun j hj => ?_) ?_ (fun j hj => ?_) (fun j hj => ?_) <;> simp (disch := omega) only [u2_eq, u2_cell, u2_ne]
  · refine R5_of hS.2.2.2.2 (fun j hj => ?_) (fun k q1 q2 => ?_) <;> simp (disch := omega) only [u2_eq, u2_cell, u2_ne]
theorem pm_sponsor {n : Nat} {C M : FF} (h : RX n C M) {i : Nat} (hi : i < 4) (ks lm : Int32) (h1 : wi ks 0 7 = true) (h2 : wi lm 0 1000000 = true) : RX (n + 1) (u2 (u2 C (4 + 8 * i) 8 ks) (4 + 8 * i) 9 lm) (u2 (u2 M 42 i ks) 43 i lm) := by
  have hS := h.2.2 i hi
  obtain ⟨g1, g2, g3, g4, g5, h8, h9, h10, h11⟩ := hS.1
  refine RX_stu h (i := i) (fun k j q1 q2 q3 => ?_) (fun k j q1 q2 q3 q4 => ?_) ⟨?_, ?_, ?_, ?_, ?_⟩
  · simp (disch := omega) only [u2_eq, u2_cell, u2_ne]
  · unfold Oth at q4
    simp (disch := omega) only [u2_eq, u2_cell, u2_ne]
  · unfold R1
    simp (disch := omega) only [u2_eq, u2_cell, u2_ne]
    exact ⟨g1, g2, g3, g4, g5, trivial, wi_bt i0 i7 h1, trivial, (wi_bt i0 i1e6 h2).1⟩
  · refine R2_of hS.2.1 (by omega) (by omega) (fun j hj => ?_) ?_ ?_ ?_ <;> simp (disch := omega) only [u2_eq, u2_cell, u2_ne]
  · refine R3_of hS.2.2.1 ?_ ?_ (fun j hj => ?_) ?_ ?_ (fun j hj => ?_) (fun j hj => ?_) <;> simp (disch := omega) only [u2_eq, u2_cell, u2_ne]
  · refine R4_of hS.2.2.2.1 ?_ (fun j hj => ?_) (fun j hj => ?_) ?_ (fun j hj => ?_) (fun j hj => ?_) <;> simp (disch := omega) only [u2_eq, u2_cell, u2_ne]
  · refine R5_of hS.2.2.2.2 (fun j hj => ?_) (fun k q1 q2 => ?_) <;> simp (disch := omega) only [u2_eq, u2_cell, u2_ne]
theorem pm_take {n : Nat} {C M : FF} (h : RX n C M) {i : Nat} (hi : i < 4) (cr : Int32) (h1 : wi cr 1 10 = true) (ht : tM M i < 8) : RX (n + 1) (u2 (u2 C (4 + 8 * i + 2) (tM M i) cr) (4 + 8 * i + 1) 1 (nI (tM M i + 1))) (mtF M i cr) := by
  have hS := h.2.2 i hi
  have h3 := hS.2.2.1
  unfold mtF
  refine RX_stu h (i := i) (fun k j q1 q2 q3 => ?_) (fun k j q1 q2 q3 q4 => ?_) ⟨?_, ?_, ?_, ?_, ?_⟩
  · simp (disch := omega) only [u2_eq, u2_cell, u2_ne]
  · unfold Oth at q4
    simp (disch := omega) only [u2_eq, u2_cell, u2_ne]
  · refine R1_of hS.1 (fun j hj => ?_) (fun k q1 q2 => ?_) <;> simp (disch := omega) only [u2_eq, u2_cell, u2_ne]
  · refine R2_of hS.2.1 (by omega) (by omega) (fun j hj => ?_) ?_ ?_ ?_ <;> simp (disch := omega) only [u2_eq, u2_cell, u2_ne]
  · refine R3_take h3 rfl ht (wi_bt i1 i10 h1) ?_ ?_ (fun j => ?_) ?_ ?_ (fun j hj => ?_) (fun j hj => ?_)
    · simp (disch := omega) only [u2_eq, u2_cell, u2_ne]
    · simp (disch := omega) only [u2_eq, u2_cell, u2_ne]
    · simp (disch := omega) only [u2_cell, u2_at, u2_of8, u2_of6, Nat.add_left_cancel_iff]
    · simp (disch := omega) only [u2_eq, u2_cell, u2_ne]
    · simp (disch := omega) only [u2_eq, u2_cell, u2_ne]
    · simp (disch := omega) only [u2_cell, u2_at, u2_of8, u2_of6, Nat.add_left_cancel_iff]
    · simp (disch := omega) only [u2_cell, u2_at, u2_of8, u2_of6, Nat.add_left_cancel_iff]
  · refine R4_of hS.2.2.2.1 ?_ (fun j hj => ?_) (fun j hj => ?_) ?_ (fun j hj => ?_) (fun j hj => ?_) <;> simp (disch := omega) only [u2_eq, u2_cell, u2_ne]
  · refine R5_of hS.2.2.2.2 (fun j hj => ?_) (fun k q1 q2 => ?_) <;> simp (disch := omega) only [u2_eq, u2_cell, u2_ne]
theorem pm_award {n : Nat} {C M : FF} (h : RX n C M) {i : Nat} (hi : i < 4) (rk am : Int32) (h1 : wi rk 0 2 = true) (h2 : wi am 1 1000000 = true) (ht : aM M i < 6) : RX (n + 1) (u2 (u2 (u2 C (4 + 8 * i + 4) (aM M i) rk) (4 + 8 * i + 5) (aM M i) am) (4 + 8 * i + 3) 3 (nI (aM M i + 1))) (maF M i rk am) := by
  have hS := h.2.2 i hi
  have h4 := hS.2.2.2.1
  have ba := wi_bt i1 i1e6 h2
  unfold maF
  refine RX_stu h (i := i) (fun k j q1 q2 q3 => ?_) (fun k j q1 q2 q3 q4 => ?_) ⟨?_, ?_, ?_, ?_, ?_⟩
  · simp (disch := omega) only [u2_eq, u2_cell, u2_ne]
  · unfold Oth at q4
    simp (disch := omega) only [u2_eq, u2_cell, u2_ne]
  · refine R1_of hS.1 (fun j hj => ?_) (fun k q1 q2 => ?_) <;> simp (disch := omega) only [u2_eq, u2_cell, u2_ne]
  · refine R2_of hS.2.1 (by omega) (by omega) (fun j hj => ?_) ?_ ?_ ?_ <;> simp (disch := omega) only [u2_eq, u2_cell, u2_ne]
  · refine R3_of hS.2.2.1 ?_ ?_ (fun j hj => ?_) ?_ ?_ (fun j hj => ?_) (fun j hj => ?_) <;> simp (disch := omega) only [u2_eq, u2_cell, u2_ne]
  · refine R4_award h4 rfl ht (wi_bt i0 i2 h1) ⟨by have := ba.1; omega, ba.2⟩ ?_ (fun j => ?_) (fun j => ?_) ?_ (fun j hj => ?_) (fun j hj => ?_)
    · simp (disch := omega) only [u2_eq, u2_cell, u2_ne]
    · simp (disch := omega) only [u2_cell, u2_at, u2_of8, u2_of6, Nat.add_left_cancel_iff]
    · simp (disch := omega) only [u2_cell, u2_at, u2_of8, u2_of6, Nat.add_left_cancel_iff]
    · simp (disch := omega) only [u2_eq, u2_cell, u2_ne]
    · simp (disch := omega) only [u2_cell, u2_at, u2_of8, u2_of6, Nat.add_left_cancel_iff]
    · simp (disch := omega) only [u2_cell, u2_at, u2_of8, u2_of6, Nat.add_left_cancel_iff]
  · refine R5_of hS.2.2.2.2 (fun j hj => ?_) (fun k q1 q2 => ?_) <;> simp (disch := omega) only [u2_eq, u2_cell, u2_ne]
theorem pm_charge1 {n : Nat} (hn : n < 512) {C M : FF} (h : RX n C M) {i : Nat} (hi : i < 4) (am : Int32) (h2 : wi am 1 1000000 = true) : C (4 + 8 * i) 6 = M 48 i ∧ RX (n + 1) (u2 C (4 + 8 * i) 6 (C (4 + 8 * i) 6 + am)) (mcF M i am 0) := by
  have hS := h.2.2 i hi
  have ba := wi_bt i1 i1e6 h2
  have hB := Bmax (n := n + 1) (by omega) (RX_of (Nat.le_succ n) h (EC_rfl C) (EM_rfl M))
  refine ⟨hS.2.1.1, ?_⟩
  unfold mcF
  refine RX_stu h (i := i) (fun k j q1 q2 q3 => ?_) (fun k j q1 q2 q3 q4 => ?_) ⟨?_, ?_, ?_, ?_, ?_⟩
  · simp (disch := omega) only [u2_eq, u2_cell, u2_ne]
  · unfold Oth at q4
    simp (disch := omega) only [u2_eq, u2_cell, u2_ne]
  · refine R1_of hS.1 (fun j hj => ?_) (fun k q1 q2 => ?_) <;> simp (disch := omega) only [u2_eq, u2_cell, u2_ne]
  · refine R2_chg (a := am) (b := 0) hS.2.1 (by omega) (by omega) (by omega) (by have z := i0; have y := ba.1; have w := ba.2; omega) (by have z := i0; have y := ba.1; have w := ba.2; omega) (by have z := i0; have y := ba.1; have w := ba.2; omega) ?_ ?_ ?_ ?_ ?_ ?_ <;> simp (disch := omega) only [u2_eq, u2_cell, u2_ne, Int32.add_zero]
  · refine R3_of hS.2.2.1 ?_ ?_ (fun j hj => ?_) ?_ ?_ (fun j hj => ?_) (fun j hj => ?_) <;> simp (disch := omega) only [u2_eq, u2_cell, u2_ne]
  · refine R4_of hS.2.2.2.1 ?_ (fun j hj => ?_) (fun j hj => ?_) ?_ (fun j hj => ?_) (fun j hj => ?_) <;> simp (disch := omega) only [u2_eq, u2_cell, u2_ne]
  · refine R5_of hS.2.2.2.2 (fun j hj => ?_) (fun k q1 q2 => ?_) <;> simp (disch := omega) only [u2_eq, u2_cell, u2_ne]
theorem pm_charge2 {n : Nat} (hn : n < 512) {C M : FF} (h : RX n C M) {i : Nat} (hi : i < 4) (am : Int32) (h2 : wi am 1 1000000 = true) : C (4 + 8 * i) 7 = M 49 i ∧ RX (n + 1) (u2 C (4 + 8 * i) 7 (C (4 + 8 * i) 7 + am)) (mcF M i 0 am) := by
  have hS := h.2.2 i hi
  have ba := wi_bt i1 i1e6 h2
  have hB := Bmax (n := n + 1) (by omega) (RX_of (Nat.le_succ n) h (EC_rfl C) (EM_rfl M))
  refine ⟨hS.2.1.2.1, ?_⟩
  unfold mcF
  refine RX_stu h (i := i) (fun k j q1 q2 q3 => ?_) (fun k j q1 q2 q3 q4 => ?_) ⟨?_, ?_, ?_, ?_, ?_⟩
  · simp (disch := omega) only [u2_eq, u2_cell, u2_ne]
  · unfold Oth at q4
    simp (disch := omega) only [u2_eq, u2_cell, u2_ne]
  · refine R1_of hS.1 (fun j hj => ?_) (fun k q1 q2 => ?_) <;> simp (disch := omega) only [u2_eq, u2_cell, u2_ne]
  · refine R2_chg (a := 0) (b := am) hS.2.1 (by omega) (by omega) (by omega) (by have z := i0; have y := ba.1; have w := ba.2; omega) (by have z := i0; have y := ba.1; have w := ba.2; omega) (by have z := i0; have y := ba.1; have w := ba.2; omega) ?_ ?_ ?_ ?_ ?_ ?_ <;> simp (disch := omega) only [u2_eq, u2_cell, u2_ne, Int32.add_zero]
  · refine R3_of hS.2.2.1 ?_ ?_ (fun j hj => ?_) ?_ ?_ (fun j hj => ?_) (fun j hj => ?_) <;> simp (disch := omega) only [u2_eq, u2_cell, u2_ne]
  · refine R4_of hS.2.2.2.1 ?_ (fun j hj => ?_) (fun j hj => ?_) ?_ (fun j hj => ?_) (fun j hj => ?_) <;> simp (disch := omega) only [u2_eq, u2_cell, u2_ne]
  · refine R5_of hS.2.2.2.2 (fun j hj => ?_) (fun k q1 q2 => ?_) <;> simp (disch := omega) only [u2_eq, u2_cell, u2_ne]
theorem pm_pay {n : Nat} (hn : n < 512) {C M : FF} (h : RX n C M) {i : Nat} (hi : i < 4) (am : Int32) (h1 : wi am 1 1000000 = true) : balV (pyF C i am) i = owM (mpF M i am) i ∧ RX (n + 1) (balF (pyF C i am) i) (mpF M i am) := by
  have hS := h.2.2 i hi
  have ba := wi_bt i1 i1e6 h1
  have hB := Bmax (n := n + 1) (by omega) (RX_of (Nat.le_succ n) h (EC_rfl C) (EM_rfl M))
  have hX' : RX (n + 1) (pyF C i am) (mpF M i am) := by
    unfold mpF pyF
    refine RX_stu h (i := i) (fun k j q1 q2 q3 => ?_) (fun k j q1 q2 q3 q4 => ?_) ⟨?_, ?_, ?_, ?_, ?_⟩
    · simp (disch := omega) only [u2_eq, u2_cell, u2_ne]
    · unfold Oth at q4
      simp (disch := omega) only [u2_eq, u2_cell, u2_ne]
    · refine R1_of hS.1 (fun j hj => ?_) (fun k q1 q2 => ?_) <;> simp (disch := omega) only [u2_eq, u2_cell, u2_ne]
    · refine R2_pay hS.2.1 (by omega) (by omega) (by omega) ba ?_ ?_ ?_ ?_ ?_ ?_ <;> simp (disch := omega) only [u2_eq, u2_cell, u2_ne]
    · refine R3_of hS.2.2.1 ?_ ?_ (fun j hj => ?_) ?_ ?_ (fun j hj => ?_) (fun j hj => ?_) <;> simp (disch := omega) only [u2_eq, u2_cell, u2_ne]
    · refine R4_of hS.2.2.2.1 ?_ (fun j hj => ?_) (fun j hj => ?_) ?_ (fun j hj => ?_) (fun j hj => ?_) <;> simp (disch := omega) only [u2_eq, u2_cell, u2_ne]
    · obtain ⟨g0, g1, g2, g3, g4⟩ := hS.2.2.2.2
      refine ⟨?_, ?_, ?_, ?_, ?_⟩
      · simp (disch := omega) only [u2_eq, u2_cell, u2_ne]; exact g0
      · simp (disch := omega) only [u2_eq, u2_cell, u2_ne]; exact g1
      · simp (disch := omega) only [u2_eq, u2_cell, u2_ne]; exact g2
      · simp (disch := omega) only [u2_eq, u2_cell, u2_ne]; exact g3
      · simp (disch := omega) only [u2_eq, u2_cell, u2_ne]; rw [g4]
  have hb := bal_M (n := n + 1) (by omega) hi hX'
  exact ⟨hb.1, RX_of (Nat.le_refl _) hX' (fun k q1 q2 => bal_row (q2 i hi)) (EM_rfl _)⟩
theorem pm_plan {n : Nat} (hn : n < 512) {C M : FF} (h : RX n C M) {i : Nat} (hi : i < 4) (q : Nat) : plS (balV C i) (q + 1) = plS (owM M i) (q + 1) ∧ RX (n + 1) (plF C i (q + 1)) (mlF M i (nI (q + 1)) (owM M i)) := by
  have hS := h.2.2 i hi
  have e1 := (bal_M (n := n) (by omega) hi h).1
  have k1 := h.2.1.1
  have k2 := h.2.1.2.1
  rw [← e1]
  refine ⟨rfl, ?_⟩
  clear e1
  unfold mlF ml3 plF
  unfold plS plE
  generalize balV C i = b
  refine RX_stu h (i := i) (fun k j q1 q2 q3 => ?_) (fun k j q1 q2 q3 q4 => ?_) ⟨?_, ?_, ?_, ?_, ?_⟩
  · simp (disch := omega) only [u2_eq, u2_cell, u2_ne, bal_row]
  · unfold Oth at q4
    simp (disch := omega) only [u2_eq, u2_cell, u2_ne, bal_row]
  · refine R1_of hS.1 (fun j hj => ?_) (fun k q1 q2 => ?_) <;> simp (disch := omega) only [u2_eq, u2_cell, u2_ne, bal_row]
  · refine R2_of hS.2.1 (by omega) (by omega) (fun j hj => ?_) ?_ ?_ ?_ <;> simp (disch := omega) only [u2_eq, u2_cell, u2_ne, bal_row]
  · refine R3_of hS.2.2.1 ?_ ?_ (fun j hj => ?_) ?_ ?_ (fun j hj => ?_) (fun j hj => ?_) <;> simp (disch := omega) only [u2_eq, u2_cell, u2_ne, bal_row]
  · refine R4_of hS.2.2.2.1 ?_ (fun j hj => ?_) (fun j hj => ?_) ?_ (fun j hj => ?_) (fun j hj => ?_) <;> simp (disch := omega) only [u2_eq, u2_cell, u2_ne, bal_row]
  · refine ⟨?_, ?_, ?_, ?_, ?_⟩
    · simp (disch := omega) only [u2_eq, u2_cell, u2_ne, bal_row]; rw [k1, k2, Int32.mul_comm]
    · simp (disch := omega) only [u2_eq, u2_cell, u2_ne, bal_row]
    · simp (disch := omega) only [u2_eq, u2_cell, u2_ne, bal_row]; exact ring1 _ _ _
    · simp (disch := omega) only [u2_eq, u2_cell, u2_ne, bal_row]
    · simp (disch := omega) only [u2_eq, u2_cell, u2_ne, bal_row]
theorem pm_bal {n : Nat} {C M : FF} (h : RX n C M) {i : Nat} (hi : i < 4) : RX n (balF C i) M := RX_of (Nat.le_refl n) h (fun k q1 q2 => bal_row (q2 i hi)) (EM_rfl M)
theorem pm_drop {n : Nat} {C M : FF} (h : RX n C M) {i j w : Nat} (hi : i < 4) (hj : j < tM M i) (hw : w < 16) : drK C i j w = mdK M i j w ∧ RX (n + 1) (drF C i j w) (mdF M i j w) := by
  have hS := h.2.2 i hi
  have h8 : tM M i ≤ 8 := hS.2.2.1.2.1
  have sm := dr_sim (w := w) h.1 hS.1 hS.2.2.1 hj hw
  refine ⟨sm.1, ?_⟩
  have s2 := sm.2
  clear sm
  refine RX_stu h (i := i) (fun a b q1 q2 q3 => ?_) (fun a b q1 q2 q3 q4 => ?_) ⟨?_, ?_, s2, ?_, ?_⟩
  · simp (disch := omega) only [u2_eq, u2_cell, u2_ne, drF_row, drF_c, mdF_row, mdF_ne]
  · unfold Oth at q4
    simp (disch := omega) only [u2_eq, u2_cell, u2_ne, drF_row, drF_c, mdF_row, mdF_ne]
  · refine R1_of hS.1 (fun j hj => ?_) (fun k q1 q2 => ?_) <;> simp (disch := omega) only [u2_eq, u2_cell, u2_ne, drF_row, drF_c, mdF_row, mdF_ne]
  · refine R2_of hS.2.1 (by omega) (by omega) (fun j hj => ?_) ?_ ?_ ?_ <;> simp (disch := omega) only [u2_eq, u2_cell, u2_ne, drF_row, drF_c, mdF_row, mdF_ne]
  · refine R4_of hS.2.2.2.1 ?_ (fun j hj => ?_) (fun j hj => ?_) ?_ (fun j hj => ?_) (fun j hj => ?_) <;> simp (disch := omega) only [u2_eq, u2_cell, u2_ne, drF_row, drF_c, mdF_row, mdF_ne]
  · refine R5_of hS.2.2.2.2 (fun j hj => ?_) (fun k q1 q2 => ?_) <;> simp (disch := omega) only [u2_eq, u2_cell, u2_ne, drF_row, drF_c, mdF_row, mdF_ne]
theorem pm_leave {n : Nat} {C M : FF} (h : RX n C M) {i w : Nat} (hi : i < 4) (hw : w < 16) (ew : M 36 1 = nI w) : leB C i w = mzV M i w ∧ RX (n + 1) (leF C i w) (mzF M i w) := by
  have h := RX_of (Nat.le_refl n) h (EC_rfl C) (EM_th (p := 0) (EM_rfl M))
  have hS := h.2.2 i hi
  have c7 : C 0 7 = nI w := h.2.1.1.trans ((u2_ne _ _ (by omega)).trans ew)
  have f1 : ∀ a, a ≠ 4 + 8 * i + 1 → a ≠ 4 + 8 * i + 2 → a ≠ 4 + 8 * i + 5 → leF C i w a = C a := fun a h1 h2 h3 => leF_row h1 h2 h3
  obtain ⟨s1, s2, s3⟩ := le_sim (w := w) h.1 hS.1 hS.2.2.1 hS.2.2.2.1 hw c7 ((u2_ne _ _ (by omega)).trans ew)
  obtain ⟨v1, v2⟩ := mzV_eq (C := C) s1
  rw [← v2] at s2 s3
  have ht8 : tM M i ≤ 8 := by have := hS.2.2.1.2.1; rw [tM_th] at this; exact this
  have g : ∀ a b, ¬ (a = 47 ∧ b = i) → ¬ (a = 46 ∧ b / 8 = i) → ¬ (a = 52 ∧ b / 6 = i) → mzF M i w a b = th M 0 a b := fun a b h1 h2 h3 => mzF_ne ht8 h1 h2 h3
  refine ⟨v1.symm, ?_⟩
  refine RX_stu h (i := i) (fun a b q1 q2 q3 => ?_) (fun a b q1 q2 q3 q4 => ?_) ⟨?_, ?_, s2, s3, ?_⟩
  · rw [f1 a (by omega) (by omega) (by omega)]
  · unfold Oth at q4
    exact g a b (by omega) (by omega) (by omega)
  · exact R1_of hS.1 (fun j hj => by rw [f1 _ (by omega) (by omega) (by omega)]) (fun k q1 q2 => g k i (by omega) (by omega) (by omega))
  · exact R2_of hS.2.1 (by omega) (by omega) (fun j hj => by rw [f1 _ (by omega) (by omega) (by omega)]) (g 48 i (by omega) (by omega) (by omega)) (g 49 i (by omega) (by omega) (by omega)) (g 53 i (by omega) (by omega) (by omega))
  · exact R5_of hS.2.2.2.2 (fun j hj => by rw [f1 _ (by omega) (by omega) (by omega)]) (fun k q1 q2 => g k i (by omega) (by omega) (by omega))
theorem pm_week {n : Nat} (hn : n < 512) {C M : FF} (h : RX n C M) (hw : wkN M < 15) : C 0 7 < 15 ∧ clA (cw1 C) 4 0 7 = fl4 (mw1 M) 36 1 ∧ RX (n + 1) (clA (cw1 C) 4) (fl4 (mw1 M)) ∧ (∀ k, k ≠ 36 → k ≠ 48 → fl4 (mw1 M) k = M k) ∧ fl4 (mw1 M) 36 1 = nI (wkN M + 1) ∧ fl4 (mw1 M) 36 2 = M 36 2 := by
  obtain ⟨z1, z2, z3, z4, z5, z6⟩ := h.2.1
  obtain ⟨l1, l2⟩ := lt15 (wkN M) z3
  have hB := Bmax (by omega) h
  have s1 := cw1_sim (M' := mw1 M) h hw (fun k q1 q2 => by unfold mw1; rw [u2_cell _ _ _ (by omega)]; exact u2_cell _ _ _ (by omega)) (u2_eq _ _ _ _) (fun j hj => by unfold mw1; rw [u2_ne _ _ (by omega)]; exact u2_ne _ _ (by omega))
  have s2 := fall_4 s1 (by omega)
  have tm : tmN (fl4 (mw1 M)) = tmN M := tmN_of (by rw [fl4_row (by omega)]; unfold mw1; rw [u2_ne _ _ (by omega)]; exact u2_ne _ _ (by omega))
  have hX' : RX (n + 1) (clA (cw1 C) 4) (fl4 (mw1 M)) := by
    have s3 := RXB_mono s2 (B' := 1100000 * ((n + 1 : Nat) : Int) + 8000000 * (tmN M : Int)) (P' := 1000000 * ((n + 1 : Nat) : Int)) (by omega) (by omega)
    rw [← tm] at s3
    exact s3
  refine ⟨by rw [z1, z4]; exact l1.mpr hw, hX'.2.1.1, hX', fun k h1 h2 => by rw [fl4_row h2]; unfold mw1; rw [u2_cell _ _ _ h1]; exact u2_cell _ _ _ h1, ?_, ?_⟩
  · rw [fl4_row (by omega)]; unfold mw1; rw [u2_eq, z4]; exact nI_1 _
  · rw [fl4_row (by omega)]; unfold mw1; rw [u2_ne _ _ (by omega)]; exact u2_ne _ _ (by omega)
theorem pm_term {n : Nat} (hn : n < 512) {C M : FF} (h : RX n C M) (hw : ¬ wkN M < 15) (ht : tmN M < 9) : ¬ C 0 7 < 15 ∧ C 0 8 < 9 ∧ clA (cw2 C) 4 0 7 = fl4 (enM (th M 0)) 36 1 ∧ RX (n + 1) (clA (cw2 C) 4) (fl4 (enM (th M 0))) := by
  obtain ⟨z1, z2, z3, z4, z5, z6⟩ := h.2.1
  obtain ⟨l1, l2⟩ := lt15 (wkN M) z3
  obtain ⟨l3, l4⟩ := lt9 (tmN M) z5
  have hXt := RX_of (Nat.le_refl n) h (EC_rfl C) (EM_th (p := 0) (EM_rfl M))
  have hB := Bmax (by omega) hXt
  have tt : tmN (th M 0) = tmN M := tmN_of (u2_ne _ _ (by omega))
  have s1 := en_sim hXt (by omega) (by omega) (by omega) (by omega) (by rw [tt]; exact ht)
  have s2 := fall_4 s1.1 (by omega)
  have s1t := s1.2
  have tm : tmN (fl4 (enM (th M 0))) = tmN (th M 0) + 1 := by
    rw [← s1t]
    exact tmN_of (by rw [fl4_row (by omega)])
  have hX' : RX (n + 1) (clA (cw2 C) 4) (fl4 (enM (th M 0))) := by
    have s3 := RXB_mono s2 (B' := 1100000 * ((n + 1 : Nat) : Int) + 8000000 * ((tmN (th M 0) + 1 : Nat) : Int)) (P' := 1000000 * ((n + 1 : Nat) : Int)) (by omega) (by omega)
    rw [← tm] at s3
    exact s3
  exact ⟨by rw [z1, z4]; exact fun q => hw (l1.mp q), by rw [z2, z6]; exact l3.mpr ht, hX'.2.1.1, hX'⟩
theorem pm_last {n : Nat} {C M : FF} (h : RX n C M) (hw : ¬ wkN M < 15) (ht : ¬ tmN M < 9) : ¬ C 0 7 < 15 ∧ ¬ C 0 8 < 9 := by
  obtain ⟨z1, z2, z3, z4, z5, z6⟩ := h.2.1
  obtain ⟨l1, l2⟩ := lt15 (wkN M) z3
  obtain ⟨l3, l4⟩ := lt9 (tmN M) z5
  exact ⟨by rw [z1, z4]; exact fun q => hw (l1.mp q), by rw [z2, z6]; exact fun q => ht (l3.mp q)⟩
