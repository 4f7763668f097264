/-! what a call does, of the program's numbers C and the reference's M -/
theorem th59 (G : FF) (r p : Int32) : th (u2 G 59 0 r) p 59 0 = r := (u2_ne _ _ (by omega)).trans (u2_eq _ _ _ _)
theorem rk_i {x : Int32} (h : bt x 0 2) : ∃ r, r < 3 ∧ x = nI r := by
  have e : x.toNatClampNeg = x.toInt.toNat := rfl
  refine ⟨x.toNatClampNeg, by have := h.2; omega, ?_⟩
  apply ieq
  rw [iN (by have := h.2; omega), e]
  have := h.1
  omega
theorem tM_of {F G : FF} {i : Nat} (h : G 44 i = F 44 i) : tM G i = tM F i := by unfold tM; rw [h]
theorem aM_of {F G : FF} {i : Nat} (h : G 50 i = F 50 i) : aM G i = aM F i := by unfold aM; rw [h]
theorem hh_key {a b c d : Int32} (h1 : a = b) (h2 : c = d) : bI (!decide (a ≤ c)) = bI (!decide (b ≤ d)) := by rw [h1, h2]
theorem bI01 (b : Bool) : bI b = 0 ∨ bI b = 1 := by cases b <;> simp [bI]
theorem kd_i {x : Int32} (h : wi x 0 2 = true) : x = 0 ∨ x = 1 ∨ x = 2 := by
  obtain ⟨r, hr, e⟩ := rk_i (wi_bt i0 i2 h)
  match r, hr with
  | 0, _ => exact Or.inl e
  | 1, _ => exact Or.inr (Or.inl e)
  | 2, _ => exact Or.inr (Or.inr e)
theorem ch_a1 {C M : FF} {i : Nat} {B P : Int} (hG : RG C M) (h : RS B P C M i) : chC C i 1 = tuM M i := by
  unfold chC ch3 ch2 ch1
  rw [if_pos (by decide), if_pos (by decide), if_neg (by decide), Int32.zero_add]
  exact tu_eq hG h.1 h.2.2.1
theorem ch_a2 (C : FF) (i : Nat) : chC C i 2 = C (4 + 8 * i) 6 := by
  unfold chC ch3 ch2 ch1
  rw [if_pos (by decide), if_neg (by decide), if_pos (by decide), Int32.zero_add]
theorem ch_a4 (C : FF) (i : Nat) : chC C i 4 = C (4 + 8 * i) 7 := by
  unfold chC ch3 ch2 ch1
  rw [if_neg (by decide), if_pos (by decide), if_pos (by decide), Int32.zero_add]
theorem tt1 {a b : Bool} (h : ¬ (a = true ∧ b = true)) : a = false ∨ b = false := by cases a <;> cases b <;> simp_all
theorem i30 : (30 : Int32).toInt = 30 := by decide
theorem i7 : (7 : Int32).toInt = 7 := by decide
theorem i100 : (100 : Int32).toInt = 100 := by decide
theorem i1e5 : (100000 : Int32).toInt = 100000 := by decide
theorem i1e6 : (1000000 : Int32).toInt = 1000000 := by decide
theorem bI_b (b : Bool) : bI b = 0 ∨ bI b = 1 := by cases b <;> simp [bI]
theorem up_all {P : Nat → Int32 → Int32 → Prop} {C M C' M' : FF} {c m p N : Nat} (v : Int32) (h : ∀ j, j < N → P j (C c j) (M m j)) (hc : ∀ j, C' c j = if j = p then v else C c j) (hm : ∀ j, M' m j = if j = p then v else M m j) (hv : P p v v) : ∀ j, j < N → P j (C' c j) (M' m j) := by
  intro j hj
  rw [hc, hm]
  by_cases e : j = p
  · rw [if_pos e, if_pos e, e]; exact hv
  · rw [if_neg e, if_neg e]; exact h j hj
theorem u2_at (F : FF) (k p j : Nat) (v : Int32) : u2 F k p v k j = if j = p then v else F k j := by
  by_cases e : j = p
  · rw [if_pos e, e, u2_eq]
  · rw [if_neg e, u2_ne _ _ (fun q => e q.2)]
theorem clN {n : Nat} (h : n < 2 ^ 31) : (nI n).toNatClampNeg = n := by
  show (nI n).toInt.toNat = n
  rw [iN h]; rfl
theorem sN_ne {f g : Nat → Int32} {p : Nat} (h : ∀ j, j ≠ p → g j = f j) (n : Nat) (hp : n ≤ p) : sN g n = sN f n := sN_congr n (fun j hj => h j (by omega))
theorem sN_up {f g : Nat → Int32} {p : Nat} (h : ∀ j, j ≠ p → g j = f j) : ∀ n, p < n → sN g n = sN f n - (f p).toInt + (g p).toInt
  | 0, hp => absurd hp (by omega)
  | n + 1, hp => by
    show sN g n + (g n).toInt = sN f n + (f n).toInt - (f p).toInt + (g p).toInt
    by_cases e : n = p
    · rw [sN_ne h n (by omega), e]; omega
    · rw [sN_up h n (by omega), h n e]; omega
theorem kd_12 {x : Int32} (h : wi x 1 2 = true) : x = 1 ∨ x = 2 := by
  have q := wi_iff.mp h
  rw [i1, i2] at q
  rcases (show x.toInt = 1 ∨ x.toInt = 2 by omega) with e | e
  · exact Or.inl (ieq (e.trans i1.symm))
  · exact Or.inr (ieq (e.trans i2.symm))
theorem R3_take {C M C' M' : FF} {i t : Nat} {cr : Int32} (h : R3 C M i) (et : tM M i = t) (ht : t < 8) (hc : bt cr 1 10) (c1 : C' (4 + 8 * i + 1) 1 = nI (t + 1)) (c2 : C' (4 + 8 * i + 1) 2 = C (4 + 8 * i + 1) 2) (cc : ∀ j, C' (4 + 8 * i + 2) j = if j = t then cr else C (4 + 8 * i + 2) j) (m4 : M' 44 i = nI (t + 1)) (m7 : M' 47 i = M 47 i) (m5 : ∀ j, j < 8 → M' 45 (8 * i + j) = if j = t then cr else M 45 (8 * i + j)) (m6 : ∀ j, j < 8 → M' 46 (8 * i + j) = if j = t then 0 else M 46 (8 * i + j)) : R3 C' M' i := by
  obtain ⟨h1, h2, h3, h4, h5, h6, h7, h8⟩ := h
  have e' : tM M' i = t + 1 := by unfold tM; rw [m4, clN (by omega)]
  rw [et] at h2 h3 h5 h6 h8
  refine ⟨by rw [c1, m4], by rw [e']; omega, by rw [m4, e'], by rw [c2, m7]; exact h4, fun j hj => ?_, fun j hj hz => ?_, by rw [m7]; exact h7, ?_⟩
  · rw [cc j, e', m6 j hj, m5 j hj]
    by_cases e : j = t
    · rw [if_pos e, if_pos e, if_pos e, if_pos ⟨by omega, rfl⟩]
    · rw [if_neg e, if_neg e, if_neg e, h5 j hj]
      by_cases z : j < t ∧ M 46 (8 * i + j) = 0
      · rw [if_pos z, if_pos ⟨by omega, z.2⟩]
      · rw [if_neg z, if_neg (fun w => z ⟨by omega, w.2⟩)]
  · rw [e'] at hj
    rw [m6 j (by omega)] at hz
    rw [m5 j (by omega)]
    by_cases e : j = t
    · rw [if_pos e]; exact hc
    · rw [if_neg e] at hz ⊢
      exact h6 j (by omega) hz
  · have e0 : C (4 + 8 * i + 2) t = 0 := by rw [h5 t (by omega), if_neg (fun w => absurd w.1 (by omega))]
    have e1 : C' (4 + 8 * i + 2) t = cr := by rw [cc, if_pos rfl]
    rw [m7, e', sN_up (f := C (4 + 8 * i + 2)) (p := t) (fun j hj => by rw [cc, if_neg hj]) 8 ht, e0, e1, i0]
    have := hc.2
    omega
theorem R4_award {C M C' M' : FF} {i t : Nat} {rk am : Int32} (h : R4 C M i) (et : aM M i = t) (ht : t < 6) (hr : bt rk 0 2) (ha : bt am 0 1000000) (c3 : C' (4 + 8 * i + 3) 3 = nI (t + 1)) (c4 : ∀ j, C' (4 + 8 * i + 4) j = if j = t then rk else C (4 + 8 * i + 4) j) (c5 : ∀ j, C' (4 + 8 * i + 5) j = if j = t then am else C (4 + 8 * i + 5) j) (m0 : M' 50 i = nI (t + 1)) (m1 : ∀ j, j < 6 → M' 51 (6 * i + j) = if j = t then rk else M 51 (6 * i + j)) (m2 : ∀ j, j < 6 → M' 52 (6 * i + j) = if j = t then am else M 52 (6 * i + j)) : R4 C' M' i := by
  obtain ⟨h1, h2, h3, h4, h5, h6⟩ := h
  have e' : aM M' i = t + 1 := by unfold aM; rw [m0, clN (by omega)]
  rw [et] at h2 h3 h4 h5 h6
  refine ⟨by rw [c3, m0], by rw [e']; omega, by rw [m0, e'], fun j hj => ?_, fun j hj => ?_, fun j hj => ?_⟩
  · rw [e'] at hj
    rw [c4, m1 j (by omega)]
    by_cases e : j = t
    · rw [if_pos e, if_pos e]; exact ⟨rfl, hr⟩
    · rw [if_neg e, if_neg e]; exact h4 j (by omega)
  · rw [c5, e', m2 j hj]
    by_cases e : j = t
    · rw [if_pos e, if_pos e, if_pos (by omega)]
    · rw [if_neg e, if_neg e, h5 j hj]
      by_cases z : j < t
      · rw [if_pos z, if_pos (by omega)]
      · rw [if_neg z, if_neg (by omega)]
  · rw [e'] at hj
    rw [m2 j (by omega)]
    by_cases e : j = t
    · rw [if_pos e]; exact ha
    · rw [if_neg e]; exact h6 j (by omega)
theorem R2_chg {B P B' P' : Int} {C M C' M' : FF} {i : Nat} {a b : Int32} (h : R2 B P C M i) (hB : B + 1000000 ≤ B') (hB2 : B' ≤ 700000000) (hP : P ≤ P') (ha : 0 ≤ a.toInt) (hb : 0 ≤ b.toInt) (hab : a.toInt + b.toInt ≤ 1000000) (c6 : C' (4 + 8 * i) 6 = C (4 + 8 * i) 6 + a) (c7 : C' (4 + 8 * i) 7 = C (4 + 8 * i) 7 + b) (c10 : C' (4 + 8 * i) 10 = C (4 + 8 * i) 10) (m8 : M' 48 i = M 48 i + a) (m9 : M' 49 i = M 49 i + b) (m3 : M' 53 i = M 53 i) : R2 B' P' C' M' i := by
  unfold R2 bt at h ⊢
  obtain ⟨h1, h2, h3, h4, h5, h6, h7, h8⟩ := h
  rw [c6, c7, c10, m8, m9, m3, iadd (by omega) (by omega), iadd (by omega) (by omega), h1, h2]
  exact ⟨rfl, rfl, h3, by omega, by omega, by omega, h7, by omega⟩
theorem u2_of8 (F : FF) (k i t j : Nat) (v : Int32) : u2 F k (8 * i + t) v k (8 * i + j) = if j = t then v else F k (8 * i + j) := by
  by_cases e : j = t
  · rw [if_pos e, e, u2_eq]
  · rw [if_neg e, u2_ne _ _ (fun q => by omega)]
theorem u2_of6 (F : FF) (k i t j : Nat) (v : Int32) : u2 F k (6 * i + t) v k (6 * i + j) = if j = t then v else F k (6 * i + j) := by
  by_cases e : j = t
  · rw [if_pos e, e, u2_eq]
  · rw [if_neg e, u2_ne _ _ (fun q => by omega)]
theorem kd_wi {x : Int32} (h : x = 1 ∨ x = 2) : wi x 1 2 = true := by
  rcases h with e | e <;> rw [e] <;> decide
theorem cvT_row {i : Nat} {r : Int32} {j a : Nat} (h : a ≠ 4 + 8 * i + 6) (s : TC) : (cvT i r j s).1 a = s.1 a := by
  unfold cvT
  split
  · exact u2_cell _ _ _ h
  · rfl
theorem cvR_row {i : Nat} {r : Int32} {a : Nat} (h : a ≠ 4 + 8 * i + 6) (s : TC) : ∀ j, (cvR i r j s).1 a = s.1 a
  | 0 => rfl
  | j + 1 => (cvT_row h _).trans (cvR_row h s j)
theorem bal_row {F : FF} {i a : Nat} (h : a ≠ 4 + 8 * i + 6) : balF F i a = F a := by
  unfold balF cvA
  rw [cvR_row h, cvR_row h, cvR_row h]
theorem R2_pay {B P B' P' : Int} {C M C' M' : FF} {i : Nat} {a : Int32} (h : R2 B P C M i) (hB : B ≤ B') (hP : P + 1000000 ≤ P') (hP2 : P' ≤ 700000000) (ha : bt a 1 1000000) (c6 : C' (4 + 8 * i) 6 = C (4 + 8 * i) 6) (c7 : C' (4 + 8 * i) 7 = C (4 + 8 * i) 7) (c10 : C' (4 + 8 * i) 10 = C (4 + 8 * i) 10 + a) (m8 : M' 48 i = M 48 i) (m9 : M' 49 i = M 49 i) (m3 : M' 53 i = M 53 i + a) : R2 B' P' C' M' i := by
  unfold R2 bt at h ⊢
  obtain ⟨h1, h2, h3, h4, h5, h6, h7, h8⟩ := h
  obtain ⟨a1, a2⟩ := ha
  rw [c6, c7, c10, m8, m9, m3, iadd (by omega) (by omega), h3]
  exact ⟨h1, h2, rfl, h4, h5, by omega, by omega, by omega⟩
theorem ring1 (b d m : Int32) : b - d * (m - 1) = d + (b - d * m) := by
  rw [Int32.mul_sub, Int32.mul_one, Int32.sub_eq_add_neg b, Int32.neg_sub, Int32.sub_eq_add_neg d, Int32.sub_eq_add_neg b, ← Int32.add_assoc, ← Int32.add_assoc, Int32.add_comm b d]
theorem drF_row {F : FF} {i j w k : Nat} (h1 : k ≠ 4 + 8 * i + 1) (h2 : k ≠ 4 + 8 * i + 2) : drF F i j w k = F k := by
  unfold drF dr0
  rw [u2_cell _ _ _ h1, u2_cell _ _ _ h2]
theorem drF_c {F : FF} {i j w b : Nat} (h : b ≠ 2) : drF F i j w (4 + 8 * i + 1) b = F (4 + 8 * i + 1) b := by
  unfold drF dr0
  rw [u2_ne _ _ (fun q => h q.2), u2_cell _ _ _ (by omega)]
theorem mdF_ne {F : FF} {i j w a b : Nat} (h1 : ¬ (a = 47 ∧ b = i)) (h2 : ¬ (a = 46 ∧ b = 8 * i + j)) : mdF F i j w a b = F a b := by
  unfold mdF md0
  rw [u2_ne _ _ h1, u2_ne _ _ h2]
theorem tM_th (F : FF) (i : Nat) (p : Int32) : tM (th F p) i = tM F i := tM_of (u2_ne _ _ (by omega))
theorem mzV_eq {F C : FF} {i w : Nat} {V : Int32} (h : V = bakI (mvF (th F 0) i w (tM (th F 0) i) 36 1) (saM (mvF (th F 0) i w (tM (th F 0) i)) i (aM (mvF (th F 0) i w (tM (th F 0) i)) i))) : mzV F i w = V ∧ mzF F i w = (tkA i 18 (mvF (th F 0) i w (tM (th F 0) i), V)).1 := by
  have e : mzV F i w = V := by
    rw [h, tM_th]
    rfl
  refine ⟨e, ?_⟩
  unfold mzF
  rw [e, tM_th]
  rfl

theorem pm_rate {n : Nat} {C M : FF} (h : RX n C M) (lv : Int32) (b : Bool) (rt : Int32) (h2 : wi rt 0 100000 = true) : C 2 (plc lv (bI b)) = M 37 (plc lv (bI b)) ∧ 0 ≤ (M 37 (plc lv (bI b))).toInt ∧ RX (n + 1) (srF C lv b rt) (u2 M 37 (plc lv (bI b)) rt) := by
  have hp := plc_lt lv (bI b)
  have hG := h.1
  unfold srF
  generalize plc lv (bI b) = p at *
  refine ⟨(hG.1 p hp).1, (hG.1 p hp).2.1, ?_⟩
  refine RX_glob h ⟨?_, ?_, ?_, ?_⟩ ?_ ?_ ?_ ?_ (fun k q1 q2 => ?_) (fun k q1 q2 => ?_)
  · exact up_all (P := fun j x y => x = y ∧ bt y 0 100000) (p := p) rt hG.1 (fun j => by simp (disch := omega) only [u2_at]) (fun j => by simp (disch := omega) only [u2_at]) ⟨rfl, wi_bt i0 i1e5 h2⟩
  · simp (disch := omega) only [u2_eq, u2_cell, u2_ne]; exact hG.2.1
  · simp (disch := omega) only [u2_eq, u2_cell, u2_ne]; exact hG.2.2.1
  · simp (disch := omega) only [u2_eq, u2_cell, u2_ne]; exact hG.2.2.2
  · simp (disch := omega) only [u2_eq, u2_cell, u2_ne]
  · simp (disch := omega) only [u2_eq, u2_cell, u2_ne]
  · simp (disch := omega) only [u2_eq, u2_cell, u2_ne]
  · simp (disch := omega) only [u2_eq, u2_cell, u2_ne]
  · simp (disch := omega) only [u2_eq, u2_cell, u2_ne]
  · simp (disch := omega) only [u2_eq, u2_cell, u2_ne]
theorem pm_share {n : Nat} {C M : FF} (h : RX n C M) {w : Nat} (hw : w < 16) (sh : Int32) (h2 : wi sh 0 100 = true) : C 3 w = M 38 w ∧ 0 ≤ (M 38 w).toInt ∧ RX (n + 1) (u2 C 3 w sh) (u2 M 38 w sh) := by
  have hG := h.1
  refine ⟨(hG.2.1 w hw).1, (hG.2.1 w hw).2.1, ?_⟩
  refine RX_glob h ⟨?_, ?_, ?_, ?_⟩ ?_ ?_ ?_ ?_ (fun k q1 q2 => ?_) (fun k q1 q2 => ?_)
  · simp (disch := omega) only [u2_eq, u2_cell, u2_ne]; exact hG.1
  · exact up_all (P := fun j x y => x = y ∧ bt y 0 100) (p := w) sh hG.2.1 (fun j => by simp (disch := omega) only [u2_at]) (fun j => by simp (disch := omega) only [u2_at]) ⟨rfl, wi_bt i0 i100 h2⟩
  · simp (disch := omega) only [u2_eq, u2_cell, u2_ne]; exact hG.2.2.1
  · simp (disch := omega) only [u2_eq, u2_cell, u2_ne]; exact hG.2.2.2
  · simp (disch := omega) only [u2_eq, u2_cell, u2_ne]
  · simp (disch := omega) only [u2_eq, u2_cell, u2_ne]
  · simp (disch := omega) only [u2_eq, u2_cell, u2_ne]
  · simp (disch := omega) only [u2_eq, u2_cell, u2_ne]
  · simp (disch := omega) only [u2_eq, u2_cell, u2_ne]
  · simp (disch := omega) only [u2_eq, u2_cell, u2_ne]
theorem pm_band {n : Nat} {C M : FF} (h : RX n C M) (fr tt : Int32) (h1 : wi fr 1 30 = true) (h2 : wi tt fr 30 = true) : RX (n + 1) (u2 (u2 C 0 3 fr) 0 4 tt) (u2 (u2 M 36 4 fr) 36 5 tt) := by
  have hG := h.1
  refine RX_glob h ⟨?_, ?_, ?_, ?_⟩ ?_ ?_ ?_ ?_ (fun k q1 q2 => ?_) (fun k q1 q2 => ?_)
  · simp (disch := omega) only [u2_eq, u2_cell, u2_ne]; exact hG.1
  · simp (disch := omega) only [u2_eq, u2_cell, u2_ne]; exact hG.2.1
  · simp (disch := omega) only [u2_eq, u2_cell, u2_ne]; exact ⟨trivial, trivial, wi_bt i1 i30 h1, wi_bt rfl i30 h2⟩
  · simp (disch := omega) only [u2_eq, u2_cell, u2_ne]; exact hG.2.2.2
  · simp (disch := omega) only [u2_eq, u2_cell, u2_ne]
  · simp (disch := omega) only [u2_eq, u2_cell, u2_ne]
  · simp (disch := omega) only [u2_eq, u2_cell, u2_ne]
  · simp (disch := omega) only [u2_eq, u2_cell, u2_ne]
  · simp (disch := omega) only [u2_eq, u2_cell, u2_ne]
  · simp (disch := omega) only [u2_eq, u2_cell, u2_ne]
theorem pm_fees {n : Nat} {C M : FF} (h : RX n C M) (fe lm : Int32) (h1 : wi fe 0 100000 = true) : RX (n + 1) (u2 (u2 C 0 5 fe) 0 6 lm) (u2 (u2 M 36 7 fe) 36 8 lm) := by
  have hG := h.1
  refine RX_glob h ⟨?_, ?_, ?_, ?_⟩ ?_ ?_ ?_ ?_ (fun k q1 q2 => ?_) (fun k q1 q2 => ?_)
  · simp (disch := omega) only [u2_eq, u2_cell, u2_ne]; exact hG.1
  · simp (disch := omega) only [u2_eq, u2_cell, u2_ne]; exact hG.2.1
  · simp (disch := omega) only [u2_eq, u2_cell, u2_ne]; exact hG.2.2.1
  · simp (disch := omega) only [u2_eq, u2_cell, u2_ne]; exact ⟨trivial, wi_bt i0 i1e5 h1, trivial⟩
  · simp (disch := omega) only [u2_eq, u2_cell, u2_ne]
  · simp (disch := omega) only [u2_eq, u2_cell, u2_ne]
  · simp (disch := omega) only [u2_eq, u2_cell, u2_ne]
  · simp (disch := omega) only [u2_eq, u2_cell, u2_ne]
  · simp (disch := omega) only [u2_eq, u2_cell, u2_ne]
  · simp (disch := omega) only [u2_eq, u2_cell, u2_ne]
theorem pm_student {n : Nat} {C M : FF} (h : RX n C M) {i : Nat} (hi : i < 4) (lv : Int32) (b : Bool) (nd : Int32) (h1 : wi lv 0 1 = true) (h2 : wi nd 0 1000000 = true) : RX (n + 1) (u2 (u2 (u2 C (4 + 8 * i) 3 lv) (4 + 8 * i) 4 (bI b)) (4 + 8 * i) 5 nd) (u2 (u2 (u2 M 39 i lv) 40 i (bI b)) 41 i nd) := by
  have hS := h.2.2 i hi
  obtain ⟨g1, g2, g3, g4, g5, h8, h9, h10, h11⟩ := hS.1
  refine RX_stu h (i := i) (fun k j q1 q2 q3 => ?_) (fun k j q1 q2 q3 q4 => ?_) ⟨?_, ?_, ?_, ?_, ?_⟩
  · simp (disch := omega) only [u2_eq, u2_cell, u2_ne]
  · unfold Oth at q4
    simp (disch := omega) only [u2_eq, u2_cell, u2_ne]
  · unfold R1
    simp (disch := omega) only [u2_eq, u2_cell, u2_ne]
    exact ⟨trivial, wi_01 h1, trivial, trivial, (wi_bt i0 i1e6 h2).1, h8, h9, h10, h11⟩
  · refine R2_of hS.2.1 (by omega) (by omega) (fun j hj => ?_) ?_ ?_ ?_ <;> simp (disch := omega) only [u2_eq, u2_cell, u2_ne]
  · refine R3_of hS.2.2.1 ?_ ?_ (fun j hj => ?_) ?_ ?_ (fun j hj => ?_) (fun j hj => ?_) <;> simp (disch := omega) only [u2_eq, u2_cell, u2_ne]
  · refine R4_of hS.2.2.2.1 ?_ (fun j hj => ?_) (fun j hj => ?_) ?_ (fun j hj => ?_) (fun j hj => ?_) <;> simp (disch := omega) only [u2_eq, u2_cell, u2_ne]
  · refine R5_of hS.2.2.2.2 (fun j hj => ?_) (fun k q1 q2 => ?_) <;> simp (disch := omega) only [u2_eq, u2_cell, u2_ne]
theorem pm_sponsor {n : Nat} {C M : FF} (h : RX n C M) {i : Nat} (hi : i < 4) (ks lm : Int32) (h1 : wi ks 0 7 = true) (h2 : wi lm 0 1000000 = true) : RX (n + 1) (u2 (u2 C (4 + 8 * i) 8 ks) (4 + 8 * i) 9 lm) (u2 (u2 M 42 i ks) 43 i lm) := by
  have hS := h.2.2 i hi
  obtain ⟨g1, g2, g3, g4, g5, h8, h9, h10, h11⟩ := hS.1
  refine RX_stu h (i := i) (fun k j q1 q2 q3 => ?_) (fun k j q1 q2 q3 q4 => ?_) ⟨?_, ?_, ?_, ?_, ?_⟩
  · simp (disch := omega) only [u2_eq, u2_cell, u2_ne]
  · unfold Oth at q4
    simp (disch := omega) only [u2_eq, u2_cell, u2_ne]
  · unfold R1
    simp (disch := omega) only [u2_eq, u2_cell, u2_ne]
    exact ⟨g1, g2, g3, g4, g5, trivial, wi_bt i0 i7 h1, trivial, (wi_bt i0 i1e6 h2).1⟩
  · refine R2_of hS.2.1 (by omega) (by omega) (fun j hj => ?_) ?_ ?_ ?_ <;> simp (disch := omega) only [u2_eq, u2_cell, u2_ne]
  · refine R3_of hS.2.2.1 ?_ ?_ (fun j hj => ?_) ?_ ?_ (fun j hj => ?_) (fun j hj => ?_) <;> simp (disch := omega) only [u2_eq, u2_cell, u2_ne]
  · refine R4_of hS.2.2.2.1 ?_ (fun j hj => ?_) (fun j hj => ?_) ?_ (fun j hj => ?_) (fun j hj => ?_) <;> simp (disch := omega) only [u2_eq, u2_cell, u2_ne]
  · refine R5_of hS.2.2.2.2 (fun j hj => ?_) (fun k q1 q2 => ?_) <;> simp (disch := omega) only [u2_eq, u2_cell, u2_ne]
theorem pm_take {n : Nat} {C M : FF} (h : RX n C M) {i : Nat} (hi : i < 4) (cr : Int32) (h1 : wi cr 1 10 = true) (ht : tM M i < 8) : RX (n + 1) (u2 (u2 C (4 + 8 * i + 2) (tM M i) cr) (4 + 8 * i + 1) 1 (nI (tM M i + 1))) (mtF M i cr) := by
  have hS := h.2.2 i hi
  have h3 := hS.2.2.1
  unfold mtF
  refine RX_stu h (i := i) (fun k j q1 q2 q3 => ?_) (fun k j q1 q2 q3 q4 => ?_) ⟨?_, ?_, ?_, ?_, ?_⟩
  · simp (disch := omega) only [u2_eq, u2_cell, u2_ne]
  · unfold Oth at q4
    simp (disch := omega) only [u2_eq, u2_cell, u2_ne]
  · refine R1_of hS.1 (fun j hj => ?_) (fun k q1 q2 => ?_) <;> simp (disch := omega) only [u2_eq, u2_cell, u2_ne]
  · refine R2_of hS.2.1 (by omega) (by omega) (fun j hj => ?_) ?_ ?_ ?_ <;> simp (disch := omega) only [u2_eq, u2_cell, u2_ne]
  · refine R3_take h3 rfl ht (wi_bt i1 i10 h1) ?_ ?_ (fun j => ?_) ?_ ?_ (fun j hj => ?_) (fun j hj => ?_)
    · simp (disch := omega) only [u2_eq, u2_cell, u2_ne]
    · simp (disch := omega) only [u2_eq, u2_cell, u2_ne]
    · simp (disch := omega) only [u2_cell, u2_at, u2_of8, u2_of6, Nat.add_left_cancel_iff]
    · simp (disch := omega) only [u2_eq, u2_cell, u2_ne]
    · simp (disch := omega) only [u2_eq, u2_cell, u2_ne]
    · simp (disch := omega) only [u2_cell, u2_at, u2_of8, u2_of6, Nat.add_left_cancel_iff]
    · simp (disch := omega) only [u2_cell, u2_at, u2_of8, u2_of6, Nat.add_left_cancel_iff]
  · refine R4_of hS.2.2.2.1 ?_ (fun j hj => ?_) (fun j hj => ?_) ?_ (fun j hj => ?_) (fun j hj => ?_) <;> simp (disch := omega) only [u2_eq, u2_cell, u2_ne]
  · refine R5_of hS.2.2.2.2 (fun j hj => ?_) (fun k q1 q2 => ?_) <;> simp (disch := omega) only [u2_eq, u2_cell, u2_ne]
theorem pm_award {n : Nat} {C M : FF} (h : RX n C M) {i : Nat} (hi : i < 4) (rk am : Int32) (h1 : wi rk 0 2 = true) (h2 : wi am 1 1000000 = true) (ht : aM M i < 6) : RX (n + 1) (u2 (u2 (u2 C (4 + 8 * i + 4) (aM M i) rk) (4 + 8 * i + 5) (aM M i) am) (4 + 8 * i + 3) 3 (nI (aM M i + 1))) (maF M i rk am) := by
  have hS := h.2.2 i hi
  have h4 := hS.2.2.2.1
  have ba := wi_bt i1 i1e6 h2
  unfold maF
  refine RX_stu h (i := i) (fun k j q1 q2 q3 => ?_) (fun k j q1 q2 q3 q4 => ?_) ⟨?_, ?_, ?_, ?_, ?_⟩
  · simp (disch := omega) only [u2_eq, u2_cell, u2_ne]
  · unfold Oth at q4
    simp (disch := omega) only [u2_eq, u2_cell, u2_ne]
  · refine R1_of hS.1 (fun j hj => ?_) (fun k q1 q2 => ?_) <;> simp (disch := omega) only [u2_eq, u2_cell, u2_ne]
  · refine R2_of hS.2.1 (by omega) (by omega) (fun j hj => ?_) ?_ ?_ ?_ <;> simp (disch := omega) only [u2_eq, u2_cell, u2_ne]
  · refine R3_of hS.2.2.1 ?_ ?_ (fun j hj => ?_) ?_ ?_ (fun j hj => ?_) (fun j hj => ?_) <;> simp (disch := omega) only [u2_eq, u2_cell, u2_ne]
  · refine R4_award h4 rfl ht (wi_bt i0 i2 h1) ⟨by have := ba.1; omega, ba.2⟩ ?_ (fun j => ?_) (fun j => ?_) ?_ (fun j hj => ?_) (fun j hj => ?_)
    · simp (disch := omega) only [u2_eq, u2_cell, u2_ne]
    · simp (disch := omega) only [u2_cell, u2_at, u2_of8, u2_of6, Nat.add_left_cancel_iff]
    · simp (disch := omega) only [u2_cell, u2_at, u2_of8, u2_of6, Nat.add_left_cancel_iff]
    · simp (disch := omega) only [u2_eq, u2_cell, u2_ne]
    · simp (disch := omega) only [u2_cell, u2_at, u2_of8, u2_of6, Nat.add_left_cancel_iff]
    · simp (disch := omega) only [u2_cell, u2_at, u2_of8, u2_of6, Nat.add_left_cancel_iff]
  · refine R5_of hS.2.2.2.2 (fun j hj => ?_) (fun k q1 q2 => ?_) <;> simp (disch := omega) only [u2_eq, u2_cell, u2_ne]
theorem pm_charge1 {n : Nat} (hn : n < 512) {C M : FF} (h : RX n C M) {i : Nat} (hi : i < 4) (am : Int32) (h2 : wi am 1 1000000 = true) : C (4 + 8 * i) 6 = M 48 i ∧ RX (n + 1) (u2 C (4 + 8 * i) 6 (C (4 + 8 * i) 6 + am)) (mcF M i am 0) := by
  have hS := h.2.2 i hi
  have ba := wi_bt i1 i1e6 h2
  have hB := Bmax (n := n + 1) (by omega) (RX_of (Nat.le_succ n) h (EC_rfl C) (EM_rfl M))
  refine ⟨hS.2.1.1, ?_⟩
  unfold mcF
  refine RX_stu h (i := i) (fun k j q1 q2 q3 => ?_) (fun k j q1 q2 q3 q4 => ?_) ⟨?_, ?_, ?_, ?_, ?_⟩
  · simp (disch := omega) only [u2_eq, u2_cell, u2_ne]
  · unfold Oth at q4
    simp (disch := omega) only [u2_eq, u2_cell, u2_ne]
  · refine R1_of hS.1 (fun j hj => ?_) (fun k q1 q2 => ?_) <;> simp (disch := omega) only [u2_eq, u2_cell, u2_ne]
  · refine R2_chg (a := am) (b := 0) hS.2.1 (by omega) (by omega) (by omega) (by have z := i0; have y := ba.1; have w := ba.2; omega) (by have z := i0; have y := ba.1; have w := ba.2; omega) (by have z := i0; have y := ba.1; have w := ba.2; omega) ?_ ?_ ?_ ?_ ?_ ?_ <;> simp (disch := omega) only [u2_eq, u2_cell, u2_ne, Int32.add_zero]
  · refine R3_of hS.2.2.1 ?_ ?_ (fun j hj => ?_) ?_ ?_ (fun j hj => ?_) (fun j hj => ?_) <;> simp (disch := omega) only [u2_eq, u2_cell, u2_ne]
  · refine R4_of hS.2.2.2.1 ?_ (fun j hj => ?_) (fun j hj => ?_) ?_ (fun j hj => ?_) (fun j hj => ?_) <;> simp (disch := omega) only [u2_eq, u2_cell, u2_ne]
  · refine R5_of hS.2.2.2.2 (fun j hj => ?_) (fun k q1 q2 => ?_) <;> simp (disch := omega) only [u2_eq, u2_cell, u2_ne]
theorem pm_charge2 {n : Nat} (hn : n < 512) {C M : FF} (h : RX n C M) {i : Nat} (hi : i < 4) (am : Int32) (h2 : wi am 1 1000000 = true) : C (4 + 8 * i) 7 = M 49 i ∧ RX (n + 1) (u2 C (4 + 8 * i) 7 (C (4 + 8 * i) 7 + am)) (mcF M i 0 am) := by
  have hS := h.2.2 i hi
  have ba := wi_bt i1 i1e6 h2
  have hB := Bmax (n := n + 1) (by omega) (RX_of (Nat.le_succ n) h (EC_rfl C) (EM_rfl M))
  refine ⟨hS.2.1.2.1, ?_⟩
  unfold mcF
  refine RX_stu h (i := i) (fun k j q1 q2 q3 => ?_) (fun k j q1 q2 q3 q4 => ?_) ⟨?_, ?_, ?_, ?_, ?_⟩
  · simp (disch := omega) only [u2_eq, u2_cell, u2_ne]
  · unfold Oth at q4
    simp (disch := omega) only [u2_eq, u2_cell, u2_ne]
  · refine R1_of hS.1 (fun j hj => ?_) (fun k q1 q2 => ?_) <;> simp (disch := omega) only [u2_eq, u2_cell, u2_ne]
  · refine R2_chg (a := 0) (b := am) hS.2.1 (by omega) (by omega) (by omega) (by have z := i0; have y := ba.1; have w := ba.2; omega) (by have z := i0; have y := ba.1; have w := ba.2; omega) (by have z := i0; have y := ba.1; have w := ba.2; omega) ?_ ?_ ?_ ?_ ?_ ?_ <;> simp (disch := omega) only [u2_eq, u2_cell, u2_ne, Int32.add_zero]
  · refine R3_of hS.2.2.1 ?_ ?_ (fun j hj => ?_) ?_ ?_ (fun j hj => ?_) (fun j hj => ?_) <;> simp (disch := omega) only [u2_eq, u2_cell, u2_ne]
  · refine R4_of hS.2.2.2.1 ?_ (fun j hj => ?_) (fun j hj => ?_) ?_ (fun j hj => ?_) (fun j hj => ?_) <;> simp (disch := omega) only [u2_eq, u2_cell, u2_ne]
  · refine R5_of hS.2.2.2.2 (fun j hj => ?_) (fun k q1 q2 => ?_) <;> simp (disch := omega) only [u2_eq, u2_cell, u2_ne]
theorem pm_pay {n : Nat} (hn : n < 512) {C M : FF} (h : RX n C M) {i : Nat} (hi : i < 4) (am : Int32) (h1 : wi am 1 1000000 = true) : balV (pyF C i am) i = owM (mpF M i am) i ∧ RX (n + 1) (balF (pyF C i am) i) (mpF M i am) := by
  have hS := h.2.2 i hi
  have ba := wi_bt i1 i1e6 h1
  have hB := Bmax (n := n + 1) (by omega) (RX_of (Nat.le_succ n) h (EC_rfl C) (EM_rfl M))
  have hX' : RX (n + 1) (pyF C i am) (mpF M i am) := by
    unfold mpF pyF
    refine RX_stu h (i := i) (fun k j q1 q2 q3 => ?_) (fun k j q1 q2 q3 q4 => ?_) ⟨?_, ?_, ?_, ?_, ?_⟩
    · simp (disch := omega) only [u2_eq, u2_cell, u2_ne]
    · unfold Oth at q4
      simp (disch := omega) only [u2_eq, u2_cell, u2_ne]
    · refine R1_of hS.1 (fun j hj => ?_) (fun k q1 q2 => ?_) <;> simp (disch := omega) only [u2_eq, u2_cell, u2_ne]
    · refine R2_pay hS.2.1 (by omega) (by omega) (by omega) ba ?_ ?_ ?_ ?_ ?_ ?_ <;> simp (disch := omega) only [u2_eq, u2_cell, u2_ne]
    · refine R3_of hS.2.2.1 ?_ ?_ (fun j hj => ?_) ?_ ?_ (fun j hj => ?_) (fun j hj => ?_) <;> simp (disch := omega) only [u2_eq, u2_cell, u2_ne]
    · refine R4_of hS.2.2.2.1 ?_ (fun j hj => ?_) (fun j hj => ?_) ?_ (fun j hj => ?_) (fun j hj => ?_) <;> simp (disch := omega) only [u2_eq, u2_cell, u2_ne]
    · obtain ⟨g0, g1, g2, g3, g4⟩ := hS.2.2.2.2
      refine ⟨?_, ?_, ?_, ?_, ?_⟩
      · simp (disch := omega) only [u2_eq, u2_cell, u2_ne]; exact g0
      · simp (disch := omega) only [u2_eq, u2_cell, u2_ne]; exact g1
      · simp (disch := omega) only [u2_eq, u2_cell, u2_ne]; exact g2
      · simp (disch := omega) only [u2_eq, u2_cell, u2_ne]; exact g3
      · simp (disch := omega) only [u2_eq, u2_cell, u2_ne]; rw [g4]
  have hb := bal_M (n := n + 1) (by omega) hi hX'
  exact ⟨hb.1, RX_of (Nat.le_refl _) hX' (fun k q1 q2 => bal_row (q2 i hi)) (EM_rfl _)⟩
theorem pm_plan {n : Nat} (hn : n < 512) {C M : FF} (h : RX n C M) {i : Nat} (hi : i < 4) (q : Nat) : plS (balV C i) (q + 1) = plS (owM M i) (q + 1) ∧ RX (n + 1) (plF C i (q + 1)) (mlF M i (nI (q + 1)) (owM M i)) := by
  have hS := h.2.2 i hi
  have e1 := (bal_M (n := n) (by omega) hi h).1
  have k1 := h.2.1.1
  have k2 := h.2.1.2.1
  rw [← e1]
  refine ⟨rfl, ?_⟩
  clear e1
  unfold mlF ml3 plF
  unfold plS plE
  generalize balV C i = b
  refine RX_stu h (i := i) (fun k j q1 q2 q3 => ?_) (fun k j q1 q2 q3 q4 => ?_) ⟨?_, ?_, ?_, ?_, ?_⟩
  · simp (disch := omega) only [u2_eq, u2_cell, u2_ne, bal_row]
  · unfold Oth at q4
    simp (disch := omega) only [u2_eq, u2_cell, u2_ne, bal_row]
  · refine R1_of hS.1 (fun j hj => ?_) (fun k q1 q2 => ?_) <;> simp (disch := omega) only [u2_eq, u2_cell, u2_ne, bal_row]
  · refine R2_of hS.2.1 (by omega) (by omega) (fun j hj => ?_) ?_ ?_ ?_ <;> simp (disch := omega) only [u2_eq, u2_cell, u2_ne, bal_row]
  · refine R3_of hS.2.2.1 ?_ ?_ (fun j hj => ?_) ?_ ?_ (fun j hj => ?_) (fun j hj => ?_) <;> simp (disch := omega) only [u2_eq, u2_cell, u2_ne, bal_row]
  · refine R4_of hS.2.2.2.1 ?_ (fun j hj => ?_) (fun j hj => ?_) ?_ (fun j hj => ?_) (fun j hj => ?_) <;> simp (disch := omega) only [u2_eq, u2_cell, u2_ne, bal_row]
  · refine ⟨?_, ?_, ?_, ?_, ?_⟩
    · simp (disch := omega) only [u2_eq, u2_cell, u2_ne, bal_row]; rw [k1, k2, Int32.mul_comm]
    · simp (disch := omega) only [u2_eq, u2_cell, u2_ne, bal_row]
    · simp (disch := omega) only [u2_eq, u2_cell, u2_ne, bal_row]; exact ring1 _ _ _
    · simp (disch := omega) only [u2_eq, u2_cell, u2_ne, bal_row]
    · simp (disch := omega) only [u2_eq, u2_cell, u2_ne, bal_row]
theorem pm_bal {n : Nat} {C M : FF} (h : RX n C M) {i : Nat} (hi : i < 4) : RX n (balF C i) M := RX_of (Nat.le_refl n) h (fun k q1 q2 => bal_row (q2 i hi)) (EM_rfl M)
theorem pm_drop {n : Nat} {C M : FF} (h : RX n C M) {i j w : Nat} (hi : i < 4) (hj : j < tM M i) (hw : w < 16) : drK C i j w = mdK M i j w ∧ RX (n + 1) (drF C i j w) (mdF M i j w) := by
  have hS := h.2.2 i hi
  have h8 : tM M i ≤ 8 := hS.2.2.1.2.1
  have sm := dr_sim (w := w) h.1 hS.1 hS.2.2.1 hj hw
  refine ⟨sm.1, ?_⟩
  have s2 := sm.2
  clear sm
  refine RX_stu h (i := i) (fun a b q1 q2 q3 => ?_) (fun a b q1 q2 q3 q4 => ?_) ⟨?_, ?_, s2, ?_, ?_⟩
  · simp (disch := omega) only [u2_eq, u2_cell, u2_ne, drF_row, drF_c, mdF_row, mdF_ne]
  · unfold Oth at q4
    simp (disch := omega) only [u2_eq, u2_cell, u2_ne, drF_row, drF_c, mdF_row, mdF_ne]
  · refine R1_of hS.1 (fun j hj => ?_) (fun k q1 q2 => ?_) <;> simp (disch := omega) only [u2_eq, u2_cell, u2_ne, drF_row, drF_c, mdF_row, mdF_ne]
  · refine R2_of hS.2.1 (by omega) (by omega) (fun j hj => ?_) ?_ ?_ ?_ <;> simp (disch := omega) only [u2_eq, u2_cell, u2_ne, drF_row, drF_c, mdF_row, mdF_ne]
  · refine R4_of hS.2.2.2.1 ?_ (fun j hj => ?_) (fun j hj => ?_) ?_ (fun j hj => ?_) (fun j hj => ?_) <;> simp (disch := omega) only [u2_eq, u2_cell, u2_ne, drF_row, drF_c, mdF_row, mdF_ne]
  · refine R5_of hS.2.2.2.2 (fun j hj => ?_) (fun k q1 q2 => ?_) <;> simp (disch := omega) only [u2_eq, u2_cell, u2_ne, drF_row, drF_c, mdF_row, mdF_ne]
theorem pm_leave {n : Nat} {C M : FF} (h : RX n C M) {i w : Nat} (hi : i < 4) (hw : w < 16) (ew : M 36 1 = nI w) : leB C i w = mzV M i w ∧ RX (n + 1) (leF C i w) (mzF M i w) := by
  have h := RX_of (Nat.le_refl n) h (EC_rfl C) (EM_th (p := 0) (EM_rfl M))
  have hS := h.2.2 i hi
  have c7 : C 0 7 = nI w := h.2.1.1.trans ((u2_ne _ _ (by omega)).trans ew)
  have f1 : ∀ a, a ≠ 4 + 8 * i + 1 → a ≠ 4 + 8 * i + 2 → a ≠ 4 + 8 * i + 5 → leF C i w a = C a := fun a h1 h2 h3 => leF_row h1 h2 h3
  obtain ⟨s1, s2, s3⟩ := le_sim (w := w) h.1 hS.1 hS.2.2.1 hS.2.2.2.1 hw c7 ((u2_ne _ _ (by omega)).trans ew)
  obtain ⟨v1, v2⟩ := mzV_eq (C := C) s1
  rw [← v2] at s2 s3
  have ht8 : tM M i ≤ 8 := by have := hS.2.2.1.2.1; rw [tM_th] at this; exact this
  have g : ∀ a b, ¬ (a = 47 ∧ b = i) → ¬ (a = 46 ∧ b / 8 = i) → ¬ (a = 52 ∧ b / 6 = i) → mzF M i w a b = th M 0 a b := fun a b h1 h2 h3 => mzF_ne ht8 h1 h2 h3
  refine ⟨v1.symm, ?_⟩
  refine RX_stu h (i := i) (fun a b q1 q2 q3 => ?_) (fun a b q1 q2 q3 q4 => ?_) ⟨?_, ?_, s2, s3, ?_⟩
  · rw [f1 a (by omega) (by omega) (by omega)]
  · unfold Oth at q4
    exact g a b (by omega) (by omega) (by omega)
  · exact R1_of hS.1 (fun j hj => by rw [f1 _ (by omega) (by omega) (by omega)]) (fun k q1 q2 => g k i (by omega) (by omega) (by omega))
  · exact R2_of hS.2.1 (by omega) (by omega) (fun j hj => by rw [f1 _ (by omega) (by omega) (by omega)]) (g 48 i (by omega) (by omega) (by omega)) (g 49 i (by omega) (by omega) (by omega)) (g 53 i (by omega) (by omega) (by omega))
  · exact R5_of hS.2.2.2.2 (fun j hj => by rw [f1 _ (by omega) (by omega) (by omega)]) (fun k q1 q2 => g k i (by omega) (by omega) (by omega))
theorem pm_week {n : Nat} (hn : n < 512) {C M : FF} (h : RX n C M) (hw : wkN M < 15) : C 0 7 < 15 ∧ clA (cw1 C) 4 0 7 = fl4 (mw1 M) 36 1 ∧ RX (n + 1) (clA (cw1 C) 4) (fl4 (mw1 M)) ∧ (∀ k, k ≠ 36 → k ≠ 48 → fl4 (mw1 M) k = M k) ∧ fl4 (mw1 M) 36 1 = nI (wkN M + 1) ∧ fl4 (mw1 M) 36 2 = M 36 2 := by
  obtain ⟨z1, z2, z3, z4, z5, z6⟩ := h.2.1
  obtain ⟨l1, l2⟩ := lt15 (wkN M) z3
  have hB := Bmax (by omega) h
  have s1 := cw1_sim (M' := mw1 M) h hw (fun k q1 q2 => by unfold mw1; rw [u2_cell _ _ _ (by omega)]; exact u2_cell _ _ _ (by omega)) (u2_eq _ _ _ _) (fun j hj => by unfold mw1; rw [u2_ne _ _ (by omega)]; exact u2_ne _ _ (by omega))
  have s2 := fall_4 s1 (by omega)
  have tm : tmN (fl4 (mw1 M)) = tmN M := tmN_of (by rw [fl4_row (by omega)]; unfold mw1; rw [u2_ne _ _ (by omega)]; exact u2_ne _ _ (by omega))
  have hX' : RX (n + 1) (clA (cw1 C) 4) (fl4 (mw1 M)) := by
    have s3 := RXB_mono s2 (B' := 1100000 * ((n + 1 : Nat) : Int) + 8000000 * (tmN M : Int)) (P' := 1000000 * ((n + 1 : Nat) : Int)) (by omega) (by omega)
    rw [← tm] at s3
    exact s3
  refine ⟨by rw [z1, z4]; exact l1.mpr hw, hX'.2.1.1, hX', fun k h1 h2 => by rw [fl4_row h2]; unfold mw1; rw [u2_cell _ _ _ h1]; exact u2_cell _ _ _ h1, ?_, ?_⟩
  · rw [fl4_row (by omega)]; unfold mw1; rw [u2_eq, z4]; exact nI_1 _
  · rw [fl4_row (by omega)]; unfold mw1; rw [u2_ne _ _ (by omega)]; exact u2_ne _ _ (by omega)
theorem pm_term {n : Nat} (hn : n < 512) {C M : FF} (h : RX n C M) (hw : ¬ wkN M < 15) (ht : tmN M < 9) : ¬ C 0 7 < 15 ∧ C 0 8 < 9 ∧ clA (cw2 C) 4 0 7 = fl4 (enM (th M 0)) 36 1 ∧ RX (n + 1) (clA (cw2 C) 4) (fl4 (enM (th M 0))) := by
  obtain ⟨z1, z2, z3, z4, z5, z6⟩ := h.2.1
  obtain ⟨l1, l2⟩ := lt15 (wkN M) z3
  obtain ⟨l3, l4⟩ := lt9 (tmN M) z5
  have hXt := RX_of (Nat.le_refl n) h (EC_rfl C) (EM_th (p := 0) (EM_rfl M))
  have hB := Bmax (by omega) hXt
  have tt : tmN (th M 0) = tmN M := tmN_of (u2_ne _ _ (by omega))
  have s1 := en_sim hXt (by omega) (by omega) (by omega) (by omega) (by rw [tt]; exact ht)
  have s2 := fall_4 s1.1 (by omega)
  have s1t := s1.2
  have tm : tmN (fl4 (enM (th M 0))) = tmN (th M 0) + 1 := by
    rw [← s1t]
    exact tmN_of (by rw [fl4_row (by omega)])
  have hX' : RX (n + 1) (clA (cw2 C) 4) (fl4 (enM (th M 0))) := by
    have s3 := RXB_mono s2 (B' := 1100000 * ((n + 1 : Nat) : Int) + 8000000 * ((tmN (th M 0) + 1 : Nat) : Int)) (P' := 1000000 * ((n + 1 : Nat) : Int)) (by omega) (by omega)
    rw [← tm] at s3
    exact s3
  exact ⟨by rw [z1, z4]; exact fun q => hw (l1.mp q), by rw [z2, z6]; exact l3.mpr ht, hX'.2.1.1, hX'⟩
theorem pm_last {n : Nat} {C M : FF} (h : RX n C M) (hw : ¬ wkN M < 15) (ht : ¬ tmN M < 9) : ¬ C 0 7 < 15 ∧ ¬ C 0 8 < 9 := by
  obtain ⟨z1, z2, z3, z4, z5, z6⟩ := h.2.1
  obtain ⟨l1, l2⟩ := lt15 (wkN M) z3
  obtain ⟨l3, l4⟩ := lt9 (tmN M) z5
  exact ⟨by rw [z1, z4]; exact fun q => hw (l1.mp q), by rw [z2, z6]; exact fun q => ht (l3.mp q)⟩
