/-! a week that ends -/
theorem flM_48 (F : FF) (i j : Nat) (h : j ≠ i) : flM F i 48 j = F 48 j := by
  unfold flM
  split
  · exact u2_ne _ _ (fun q => h q.2)
  · rfl
theorem flM_at (F : FF) (i : Nat) : flM F i 48 i = F 48 i ∨ flM F i 48 i = F 48 i + F 36 7 := by
  unfold flM
  split
  · exact Or.inr (u2_eq _ _ _ _)
  · exact Or.inl rfl
theorem fl4_0 (F : FF) : fl4 F 48 0 = F 48 0 ∨ fl4 F 48 0 = F 48 0 + F 36 7 := by
  unfold fl4
  rw [flM_48 _ 3 0 (by omega), flM_48 _ 2 0 (by omega), flM_48 _ 1 0 (by omega)]
  exact flM_at F 0
theorem fl4_1 (F : FF) : fl4 F 48 1 = F 48 1 ∨ fl4 F 48 1 = F 48 1 + F 36 7 := by
  unfold fl4
  rw [flM_48 _ 3 1 (by omega), flM_48 _ 2 1 (by omega)]
  have q := flM_at (flM F 0) 1
  rw [flM_48 F 0 1 (by omega), flM_row (show 36 ≠ 48 by omega)] at q
  exact q
/-- a late fee at most is added -/
theorem lt_i {x y f : Int32} (h : y = x ∨ y = x + f) (hx : bt x 0 700000000) (hf : bt f 0 100000) : x.toInt ≤ y.toInt ∧ y.toInt ≤ x.toInt + 100000 := by
  obtain ⟨x1, x2⟩ := hx
  obtain ⟨f1, f2⟩ := hf
  rcases h with e | e
  · rw [e]; omega
  · rw [e, iadd (by omega) (by omega)]; omega
theorem fe_bd {n : Nat} (hn : n ≤ 512) {C M : FF} (h : RX n C M) {i : Nat} (hi : i < 4) : bt (M 48 i) 0 640000000 := by
  obtain ⟨B, P, hS, hB, hP⟩ := fa_B hn h hi
  have a := hS.2.1.2.2.2.1
  have b := hS.2.1.2.2.2.2.1
  have c := hS.2.1.2.2.2.2.2.1
  exact ⟨a, by omega⟩
theorem wk_fees {n : Nat} (hn : n < 512) {C C' M : FF} (h : RX n C M) (h' : RX (n + 1) C' (fl4 (mw1 M))) : (M 48 0 + M 48 1).toInt ≤ (fl4 (mw1 M) 48 0 + fl4 (mw1 M) 48 1).toInt ∧ (fl4 (mw1 M) 48 0 + fl4 (mw1 M) 48 1).toInt ≤ (M 48 0 + M 48 1 + 200000).toInt := by
  have a0 := fe_bd (by omega) h (i := 0) (by omega)
  have a1 := fe_bd (by omega) h (i := 1) (by omega)
  have b0 := fe_bd (by omega) h' (i := 0) (by omega)
  have b1 := fe_bd (by omega) h' (i := 1) (by omega)
  have r8 : mw1 M 48 = M 48 := by unfold mw1; rw [u2_cell _ _ _ (by omega)]; exact u2_cell _ _ _ (by omega)
  have r7 : mw1 M 36 7 = M 36 7 := by unfold mw1; rw [u2_ne _ _ (by omega)]; exact u2_ne _ _ (by omega)
  have f0 := fl4_0 (mw1 M)
  have f1 := fl4_1 (mw1 M)
  rw [r8, r7] at f0 f1
  have hf := h.1.2.2.2.2.1
  have l0 := lt_i f0 ⟨a0.1, by have := a0.2; omega⟩ hf
  have l1 := lt_i f1 ⟨a1.1, by have := a1.2; omega⟩ hf
  obtain ⟨x1, x2⟩ := a0
  obtain ⟨x3, x4⟩ := a1
  obtain ⟨x5, x6⟩ := b0
  obtain ⟨x7, x8⟩ := b1
  have e2 : (200000 : Int32).toInt = 200000 := by decide
  have s1 : (M 48 0 + M 48 1).toInt = (M 48 0).toInt + (M 48 1).toInt := iadd (by omega) (by omega)
  rw [iadd (a := M 48 0 + M 48 1) (by omega) (by omega), s1, e2, iadd (by omega) (by omega)]
  omega
theorem bk_0 : ¬ bkM 0 0 = 1 ∧ ¬ bkM 0 1 = 1 ∧ ¬ bkM 0 2 = 1 := by decide
/-- a student at a term's begin -/
theorem ow_end {n : Nat} (hn : n ≤ 512) {C M : FF} (h : RX n C M) {i : Nat} (hi : i < 4) (h2 : M 42 i = 0) (h4 : M 44 i = 0) (h7 : M 47 i = 0) (h9 : M 49 i = 0) (h5 : M 50 i = 0) : (owM M i).toInt = (M 48 i).toInt - (M 53 i).toInt ∧ mcr M i (tM M i) = 0 ∧ spM M i = 0 ∧ aM M i = 0 := by
  have et : tM M i = 0 := by unfold tM; rw [h4]; exact clam0
  have ea : aM M i = 0 := by unfold aM; rw [h5]; exact clam0
  have em : mcr M i (tM M i) = 0 := by rw [et]; rfl
  have b1 := h.1.2.2.1.2.2.1
  have ep : prM M i 0 = 0 := by
    unfold prM pcl
    rw [if_neg (by rw [ilt, i0]; have := b1.1; omega), Int32.zero_mul]
  have eu : tuM M i = 0 := by unfold tuM; rw [em, ep, h7]; rfl
  have el : alM M i = M 48 i := by unfold alM; rw [eu, h9, Int32.zero_add, Int32.add_zero]
  have s := fa_sp hn h hi
  have es : smM M i = 0 := by
    unfold smM
    rw [h2, if_neg bk_0.1, if_neg bk_0.2.1, if_neg bk_0.2.2]
    rfl
  have lim := (h.2.2 i hi).1.2.2.2.2.2.2.2.2
  have e0 : spM M i = 0 := by
    unfold spM
    rw [es]
    exact mn_0 lim
  have o := owM_i hn h hi
  have hb := fa_hb h hi
  have hd := fa_nd h hi
  have hu : 0 ≤ (unM M i).toInt := by show 0 ≤ (alM M i - spM M i).toInt; omega
  have c := wS_cut hb hu hd (un := unM M i) (nd := M 41 i) 6 (by omega)
  rw [ea, show 0 + 6 = 6 from rfl, wS_6] at c
  have c0 : vS M i (unM M i) (M 41 i) 18 = 0 := c
  have u : (unM M i).toInt = (M 48 i).toInt := by show (alM M i - spM M i).toInt = _; rw [e0, Int32.sub_zero, el]
  exact ⟨by rw [o, c0, u]; omega, em, e0, ea⟩
theorem c2_int {x y : Int32} (hx : bo x) (hy : bo y) : (x - mvI x y).toInt = x.toInt - ((cai x y).toInt - (cai y x).toInt) ∧ (y + mvI x y).toInt = y.toInt + ((cai x y).toInt - (cai y x).toInt) ∧ (cai x y).toInt = (if x.toInt ≤ 0 then 0 else if 0 ≤ y.toInt then 0 else if -y.toInt < x.toInt then -y.toInt else x.toInt) ∧ (cai y x).toInt = (if y.toInt ≤ 0 then 0 else if 0 ≤ x.toInt then 0 else if -x.toInt < y.toInt then -x.toInt else y.toInt) := by
  have a := cai_i (x := x) hy
  have b := cai_i (x := y) hx
  obtain ⟨x1, x2⟩ := hx
  obtain ⟨y1, y2⟩ := hy
  have m : mvI x y = cai x y - cai y x := by
    unfold mvI
    rw [car_i ⟨y1, y2⟩, car_i ⟨x1, x2⟩]
  have e3 : (cai x y - cai y x).toInt = (cai x y).toInt - (cai y x).toInt := by
    refine isub ?_ ?_ <;> (rw [a, b]; split <;> split <;> (try split) <;> (try split) <;> (try split) <;> omega)
  have e4 : (x - (cai x y - cai y x)).toInt = x.toInt - ((cai x y).toInt - (cai y x).toInt) := by
    rw [← e3]
    refine isub ?_ ?_ <;> (rw [e3, a, b]; split <;> split <;> (try split) <;> (try split) <;> (try split) <;> omega)
  have e5 : (y + (cai x y - cai y x)).toInt = y.toInt + ((cai x y).toInt - (cai y x).toInt) := by
    rw [← e3]
    refine iadd ?_ ?_ <;> (rw [e3, a, b]; split <;> split <;> (try split) <;> (try split) <;> (try split) <;> omega)
  exact ⟨by rw [m, e4], by rw [m, e5], a, b⟩
theorem en_MF {B P : Int} {C M : FF} (h : RXB B P C M) (hB : B ≤ 650000000) (hP : P ≤ 600000000) : MF M (enM M) 0 (owM M 0 - mvI (owM M 0) (owM M 1)) ∧ MF M (enM M) 1 (owM M 1 + mvI (owM M 0) (owM M 1)) ∧ enM M 36 1 = 0 ∧ enM M 36 2 = M 36 2 + 1 ∧ (∀ j, j ≠ 1 → j ≠ 2 → enM M 36 j = M 36 j) := by
  obtain ⟨hG, hK, hS⟩ := h
  have ht : ∀ j, j < 4 → tM M j ≤ 8 := fun j hj => (hS j hj).2.2.1.2.1
  have ob : ∀ j, j < 4 → -P ≤ (owM M j).toInt ∧ (owM M j).toInt ≤ B + 8000000 := fun j hj => ow_b hG (hS j hj) (by omega) (by omega)
  have oo : ∀ j, j < 4 → bo (owM M j) := fun j hj => by have := ob j hj; exact ⟨by omega, by omega⟩
  obtain ⟨n0, n1, n2⟩ := ow_c2 (M := M) (i := 0) (k := 1) (by omega) (by omega) (by omega) ht (oo 0 (by omega)) (oo 1 (by omega))
  have ht1 : ∀ j, j < 4 → tM (c2M M 0 1) j ≤ 8 := fun j hj => by rw [tM_of (show c2M M 0 1 44 j = M 44 j by rw [c2_row (by omega)])]; exact ht j hj
  have e2 := n2 2 (by omega) (by omega) (by omega)
  have e3 := n2 3 (by omega) (by omega) (by omega)
  obtain ⟨-, -, p0⟩ := ow_c2 (M := c2M M 0 1) (i := 2) (k := 3) (by omega) (by omega) (by omega) ht1 (by rw [e2]; exact oo 2 (by omega)) (by rw [e3]; exact oo 3 (by omega))
  have p00 := (p0 0 (by omega) (by omega) (by omega)).trans n0
  have p01 := (p0 1 (by omega) (by omega) (by omega)).trans n1
  have ht2 : ∀ j, j < 4 → tM (ecF M) j ≤ 8 := fun j hj => by
    rw [ec_c2, tM_of (show c2M (c2M M 0 1) 2 3 44 j = M 44 j by rw [c2_row (by omega), c2_row (by omega)])]; exact ht j hj
  have er : ∀ k, k ≠ 53 → ecF M k = M k := fun k hk => by rw [ec_c2, c2_row hk, c2_row hk]
  rw [← ec_c2] at p00 p01
  obtain ⟨-, b0, b1, -, -⟩ := c2_num (oo 0 (by omega)) (oo 1 (by omega))
  have o0 := ob 0 (by omega)
  have o1 := ob 1 (by omega)
  have bb : ∀ {x y : Int32}, bt x (if y.toInt ≤ 0 then y.toInt else 0) (if y.toInt ≤ 0 then 0 else y.toInt) → -P ≤ y.toInt → y.toInt ≤ B + 8000000 → -600000000 ≤ x.toInt := by
    intro x y q z1 z2
    obtain ⟨q1, q2⟩ := q
    by_cases z : y.toInt ≤ 0
    · rw [if_pos z] at q1 q2; omega
    · rw [if_neg z] at q1 q2; omega
  have c0 := bb b0 o0.1 o0.2
  have c1 := bb b1 o1.1 o1.2
  have mr : ∀ k, 37 ≤ k → enM M k = etA (ecF M) 4 k := fun k hk => by unfold enM; rw [u2_cell _ _ _ (by omega), u2_cell _ _ _ (by omega)]
  have fin : ∀ i b, i < 4 → owM (ecF M) i = b → -600000000 ≤ b.toInt → MF M (enM M) i b := fun i b hi hm q1 => MF_of (et_MF hi (ht2 i hi) hm (by omega)) (fun k hk => by rw [er k (by omega)]) (fun k s1 s2 => by rw [mr k (by omega)])
  refine ⟨fin 0 _ (by omega) p00 c0, fin 1 _ (by omega) p01 c1, ?_, ?_, fun j h1 h2 => ?_⟩
  · unfold enM; rw [u2_ne _ _ (by omega), u2_eq]
  · unfold enM; rw [u2_eq, u2_ne _ _ (by omega), etA_row (by omega), er 36 (by omega)]
  · unfold enM; rw [u2_ne _ _ (by omega), u2_ne _ _ (by omega), etA_row (by omega), er 36 (by omega)]
theorem mx_i (b : Int32) (hb : -2147483647 ≤ b.toInt) : (mx b 0).toInt - (mx (-b) 0).toInt = b.toInt ∧ 0 ≤ (mx b 0).toInt := by
  rw [imx, imx, i0, ineg hb]
  split <;> split <;> omega
theorem car_z {x y a b X Y : Int} (ha : a = if x ≤ 0 then 0 else if 0 ≤ y then 0 else if -y < x then -y else x) (hb : b = if y ≤ 0 then 0 else if 0 ≤ x then 0 else if -x < y then -x else y) (hX : X = x - (a - b)) (hY : Y = y + (a - b)) (h1 : 0 < X) (h2 : Y < 0) : False := by
  by_cases p : x ≤ 0
  · rw [if_pos p] at ha
    by_cases q : y ≤ 0
    · rw [if_pos q] at hb; omega
    · rw [if_neg q] at hb
      by_cases r : 0 ≤ x
      · rw [if_pos r] at hb; omega
      · rw [if_neg r] at hb
        by_cases t : -x < y
        · rw [if_pos t] at hb; omega
        · rw [if_neg t] at hb; omega
  · rw [if_neg p] at ha
    have r : 0 ≤ x := by omega
    have hb0 : b = 0 := by
      rw [if_pos r] at hb
      split at hb <;> exact hb
    by_cases q : 0 ≤ y
    · rw [if_pos q] at ha; omega
    · rw [if_neg q] at ha
      by_cases t : -y < x
      · rw [if_pos t] at ha; omega
      · rw [if_neg t] at ha; omega
theorem bt_in {X : Int32} {x : Int} (h : bt X (if x ≤ 0 then x else 0) (if x ≤ 0 then 0 else x)) (h1 : -600000000 ≤ x) (h2 : x ≤ 648000000) : -600000000 ≤ X.toInt ∧ X.toInt ≤ 648000000 := by
  obtain ⟨q1, q2⟩ := h
  by_cases z : x ≤ 0
  · rw [if_pos z] at q1 q2; omega
  · rw [if_neg z] at q1 q2; omega
/-- what is told when a term has ended -/
theorem tm_facts {n : Nat} (hn : n < 512) {C C' M : FF} (h : RX n C M) (h' : RX (n + 1) C' (fl4 (enM (th M 0)))) : fl4 (enM (th M 0)) 36 1 = 0 ∧ fl4 (enM (th M 0)) 36 2 = M 36 2 + 1 ∧ fl4 (enM (th M 0)) 36 8 = M 36 8 ∧ mcr (fl4 (enM (th M 0))) 0 (tM (fl4 (enM (th M 0))) 0) = 0 ∧ spM (fl4 (enM (th M 0))) 1 = 0 ∧ aM (fl4 (enM (th M 0))) 0 = 0 ∧ (owM M 0 + owM M 1).toInt ≤ (owM (fl4 (enM (th M 0))) 0 + owM (fl4 (enM (th M 0))) 1).toInt ∧ (owM (fl4 (enM (th M 0))) 0 + owM (fl4 (enM (th M 0))) 1).toInt ≤ (owM M 0 + owM M 1 + 200000).toInt ∧ ((owM (fl4 (enM (th M 0))) 0).toInt ≤ 200000 ∨ 0 ≤ (owM (fl4 (enM (th M 0))) 1).toInt) := by
  have hT := RX_of (Nat.le_refl n) h (EC_rfl C) (EM_th (p := 0) (EM_rfl M))
  have hB := Bmax (by omega) hT
  have hf := h.1.2.2.2.2.1
  have w0 := ow_bd (by omega) h (i := 0) (by omega)
  have w1 := ow_bd (by omega) h (i := 1) (by omega)
  have w2 := ow_bd (by omega) h' (i := 0) (by omega)
  have w3 := ow_bd (by omega) h' (i := 1) (by omega)
  have f8 : ∀ i, i < 4 → bt (fl4 (enM (th M 0)) 48 i) 0 640000000 := fun i hi => fe_bd (by omega) h' hi
  have uc : ∀ k j, 36 < k → th M 0 k j = M k j := fun k j hk => congrFun (u2_cell M 0 0 (by omega)) j
  have ag : ∀ i, AGm i M (th M 0) := fun i => ⟨fun k q1 q2 _ _ => uc k i (by omega), fun j _ => ⟨uc 45 _ (by omega), uc 46 _ (by omega)⟩, fun j _ => ⟨uc 51 _ (by omega), uc 52 _ (by omega)⟩, fun j hj => u2_ne _ _ (fun q => by omega), u2_cell M 0 0 (by omega)⟩
  have ox : ∀ i, i < 4 → owM (th M 0) i = owM M i := fun i hi => by rw [ow_x, ow_x, xM_c (ag i) (tk_8 h hi), uc 53 i (by omega)]
  obtain ⟨m0, m1, e1, e2, e3⟩ := en_MF (B := 1100000 * (n : Int) + 8000000 * (tmN (th M 0) : Int)) (P := 1000000 * (n : Int)) hT (by omega) (by omega)
  rw [ox 0 (by omega), ox 1 (by omega)] at m0 m1
  have e7 : enM (th M 0) 36 7 = M 36 7 := (e3 7 (by omega) (by omega)).trans (u2_ne _ _ (by omega))
  have q0 := fl4_0 (enM (th M 0))
  have q1 := fl4_1 (enM (th M 0))
  rw [e7] at q0 q1
  have r : ∀ k, k ≠ 48 → fl4 (enM (th M 0)) k = enM (th M 0) k := fun k hk => fl4_row hk
  have x1 := r 36 (by omega)
  have x42 := r 42 (by omega)
  have x44 := r 44 (by omega)
  have x47 := r 47 (by omega)
  have x49 := r 49 (by omega)
  have x50 := r 50 (by omega)
  have x53 := r 53 (by omega)
  have t2 : th M 0 36 2 = M 36 2 := u2_ne _ _ (by omega)
  have t8 : th M 0 36 8 = M 36 8 := u2_ne _ _ (by omega)
  have e8 := e3 8 (by omega) (by omega)
  generalize fl4 (enM (th M 0)) = N at *
  generalize enM (th M 0) = E at *
  obtain ⟨-, z0, p0, s0⟩ := m0
  obtain ⟨-, z1, p1, s1⟩ := m1
  have g0 := ow_end (by omega) h' (i := 0) (by omega) (by rw [x42]; exact z0 42 (by omega)) (by rw [x44]; exact z0 44 (by omega)) (by rw [x47]; exact z0 47 (by omega)) (by rw [x49]; exact z0 49 (by omega)) (by rw [x50]; exact z0 50 (by omega))
  have g1 := ow_end (by omega) h' (i := 1) (by omega) (by rw [x42]; exact z1 42 (by omega)) (by rw [x44]; exact z1 44 (by omega)) (by rw [x47]; exact z1 47 (by omega)) (by rw [x49]; exact z1 49 (by omega)) (by rw [x50]; exact z1 50 (by omega))
  have b0 : bo (owM M 0) := ⟨by omega, by omega⟩
  have b1 : bo (owM M 1) := ⟨by omega, by omega⟩
  obtain ⟨c0, c1, c2, c3⟩ := c2_int b0 b1
  obtain ⟨-, y0, y1, -, -⟩ := c2_num b0 b1
  generalize owM M 0 - mvI (owM M 0) (owM M 1) = X at *
  generalize owM M 1 + mvI (owM M 0) (owM M 1) = Y at *
  have hX := bt_in y0 (by omega) (by omega)
  have hY := bt_in y1 (by omega) (by omega)
  have mX := mx_i X (by omega)
  have mY := mx_i Y (by omega)
  have u0 : (mx X 0).toInt ≤ 648000000 := by rw [imx, i0]; split <;> omega
  have u1 : (mx Y 0).toInt ≤ 648000000 := by rw [imx, i0]; split <;> omega
  rw [p0] at q0
  rw [p1] at q1
  have l0 := lt_i q0 ⟨mX.2, by omega⟩ hf
  have l1 := lt_i q1 ⟨mY.2, by omega⟩ hf
  have o0 := g0.1
  have o1 := g1.1
  rw [x53, s0] at o0
  rw [x53, s1] at o1
  have e9 : (200000 : Int32).toInt = 200000 := by decide
  have sb : (owM M 0 + owM M 1).toInt = (owM M 0).toInt + (owM M 1).toInt := iadd (by omega) (by omega)
  refine ⟨by rw [x1]; exact e1, by rw [x1, e2, t2], by rw [x1, e8, t8], g0.2.1, g1.2.2.1, g0.2.2.2, ?_, ?_, ?_⟩
  · rw [sb, iadd (by omega) (by omega)]
    omega
  · rw [iadd (a := owM M 0 + owM M 1) (by omega) (by omega), sb, e9, iadd (by omega) (by omega)]
    omega
  · by_cases k : (owM N 0).toInt ≤ 200000
    · exact Or.inl k
    · refine Or.inr ?_
      have k1 : 0 < X.toInt := by omega
      by_cases k2 : 0 ≤ Y.toInt
      · omega
      · exact (car_z c2 c3 c0 c1 k1 (by omega)).elim
