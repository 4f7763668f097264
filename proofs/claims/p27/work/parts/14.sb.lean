theorem th59 (G : FF) (r p : Int32) : th (u2 G 59 0 r) p 59 0 = r := (u2_ne _ _ (by omega)).trans (u2_eq _ _ _ _)
theorem rk_i {x : Int32} (h : bt x 0 2) : ∃ r, r < 3 ∧ x = nI r := by
  have e : x.toNatClampNeg = x.toInt.toNat := rfl
  refine ⟨x.toNatClampNeg, by have := h.2; omega, ?_⟩
  apply ieq
  rw [iN (by have := h.2; omega), e]
  have := h.1
  omega
theorem tM_of {F G : FF} {i : Nat} (h : G 44 i = F 44 i) : tM G i = tM F i := by unfold tM; rw [h]
theorem aM_of {F G : FF} {i : Nat} (h : G 50 i = F 50 i) : aM G i = aM F i := by unfold aM; rw [h]
theorem hh_key {a b c d : Int32} (h1 : a = b) (h2 : c = d) : bI (!decide (a ≤ c)) = bI (!decide (b ≤ d)) := by rw [h1, h2]
theorem bI01 (b : Bool) : bI b = 0 ∨ bI b = 1 := by cases b <;> simp [bI]
theorem kd_i {x : Int32} (h : wi x 0 2 = true) : x = 0 ∨ x = 1 ∨ x = 2 := by
  obtain ⟨r, hr, e⟩ := rk_i (wi_bt i0 i2 h)
  match r, hr with
  | 0, _ => exact Or.inl e
  | 1, _ => exact Or.inr (Or.inl e)
  | 2, _ => exact Or.inr (Or.inr e)
theorem ch_a1 {C M : FF} {i : Nat} {B P : Int} (hG : RG C M) (h : RS B P C M i) : chC C i 1 = tuM M i := by
  unfold chC ch3 ch2 ch1
  rw [if_pos (by decide), if_pos (by decide), if_neg (by decide), Int32.zero_add]
  exact tu_eq hG h.1 h.2.2.1
theorem ch_a2 (C : FF) (i : Nat) : chC C i 2 = C (4 + 8 * i) 6 := by
  unfold chC ch3 ch2 ch1
  rw [if_pos (by decide), if_neg (by decide), if_pos (by decide), Int32.zero_add]
theorem ch_a4 (C : FF) (i : Nat) : chC C i 4 = C (4 + 8 * i) 7 := by
  unfold chC ch3 ch2 ch1
  rw [if_neg (by decide), if_pos (by decide), if_pos (by decide), Int32.zero_add]
theorem tt1 {a b : Bool} (h : ¬ (a = true ∧ b = true)) : a = false ∨ b = false := by cases a <;> cases b <;> simp_all
theorem i30 : (30 : Int32).toInt = 30 := by decide
theorem i7 : (7 : Int32).toInt = 7 := by decide
theorem i100 : (100 : Int32).toInt = 100 := by decide
theorem i1e5 : (100000 : Int32).toInt = 100000 := by decide
theorem i1e6 : (1000000 : Int32).toInt = 1000000 := by decide
theorem bI_b (b : Bool) : bI b = 0 ∨ bI b = 1 := by cases b <;> simp [bI]
theorem up_all {P : Nat → Int32 → Int32 → Prop} {C M C' M' : FF} {c m p N : Nat} (v : Int32) (h : ∀ j, j < N → P j (C c j) (M m j)) (hc : ∀ j, C' c j = if j = p then v else C c j) (hm : ∀ j, M' m j = if j = p then v else M m j) (hv : P p v v) : ∀ j, j < N → P j (C' c j) (M' m j) := by
  intro j hj
  rw [hc, hm]
  by_cases e : j = p
  · rw [if_pos e, if_pos e, e]; exact hv
  · rw [if_neg e, if_neg e]; exact h j hj
theorem u2_at (F : FF) (k p j : Nat) (v : Int32) : u2 F k p v k j = if j = p then v else F k j := by
  by_cases e : j = p
  · rw [if_pos e, e, u2_eq]
  · rw [if_neg e, u2_ne _ _ (fun q => e q.2)]
theorem clN {n : Nat} (h : n < 2 ^ 31) : (nI n).toNatClampNeg = n := by
  show (nI n).toInt.toNat = n
  rw [iN h]; rfl
theorem sN_ne {f g : Nat → Int32} {p : Nat} (h : ∀ j, j ≠ p → g j = f j) (n : Nat) (hp : n ≤ p) : sN g n = sN f n := sN_congr n (fun j hj => h j (by omega))
theorem sN_up {f g : Nat → Int32} {p : Nat} (h : ∀ j, j ≠ p → g j = f j) : ∀ n, p < n → sN g n = sN f n - (f p).toInt + (g p).toInt
  | 0, hp => absurd hp (by omega)
  | n + 1, hp => by
    show sN g n + (g n).toInt = sN f n + (f n).toInt - (f p).toInt + (g p).toInt
    by_cases e : n = p
    · rw [sN_ne h n (by omega), e]; omega
    · rw [sN_up h n (by omega), h n e]; omega
theorem kd_12 {x : Int32} (h : wi x 1 2 = true) : x = 1 ∨ x = 2 := by
  have q := wi_iff.mp h
  rw [i1, i2] at q
  rcases (show x.toInt = 1 ∨ x.toInt = 2 by omega) with e | e
  · exact Or.inl (ieq (e.trans i1.symm))
  · exact Or.inr (ieq (e.trans i2.symm))
theorem R3_take {C M C' M' : FF} {i t : Nat} {cr : Int32} (h : R3 C M i) (et : tM M i = t) (ht : t < 8) (hc : bt cr 1 10) (c1 : C' (4 + 8 * i + 1) 1 = nI (t + 1)) (c2 : C' (4 + 8 * i + 1) 2 = C (4 + 8 * i + 1) 2) (cc : ∀ j, C' (4 + 8 * i + 2) j = if j = t then cr else C (4 + 8 * i + 2) j) (m4 : M' 44 i = nI (t + 1)) (m7 : M' 47 i = M 47 i) (m5 : ∀ j, j < 8 → M' 45 (8 * i + j) = if j = t then cr else M 45 (8 * i + j)) (m6 : ∀ j, j < 8 → M' 46 (8 * i + j) = if j = t then 0 else M 46 (8 * i + j)) : R3 C' M' i := by
  obtain ⟨h1, h2, h3, h4, h5, h6, h7, h8⟩ := h
  have e' : tM M' i = t + 1 := by unfold tM; rw [m4, clN (by omega)]
  rw [et] at h2 h3 h5 h6 h8
  refine ⟨by rw [c1, m4], by rw [e']; omega, by rw [m4, e'], by rw [c2, m7]; exact h4, fun j hj => ?_, fun j hj hz => ?_, by rw [m7]; exact h7, ?_⟩
  · rw [cc j, e', m6 j hj, m5 j hj]
    by_cases e : j = t
    · rw [if_pos e, if_pos e, if_pos e, if_pos ⟨by omega, rfl⟩]
    · rw [if_neg e, if_neg e, if_neg e, h5 j hj]
      by_cases z : j < t ∧ M 46 (8 * i + j) = 0
      · rw [if_pos z, if_pos ⟨by omega, z.2⟩]
      · rw [if_neg z, if_neg (fun w => z ⟨by omega, w.2⟩)]
  · rw [e'] at hj
    rw [m6 j (by omega)] at hz
    rw [m5 j (by omega)]
    by_cases e : j = t
    · rw [if_pos e]; exact hc
    · rw [if_neg e] at hz ⊢
      exact h6 j (by omega) hz
  · have e0 : C (4 + 8 * i + 2) t = 0 := by rw [h5 t (by omega), if_neg (fun w => absurd w.1 (by omega))]
    have e1 : C' (4 + 8 * i + 2) t = cr := by rw [cc, if_pos rfl]
    rw [m7, e', sN_up (f := C (4 + 8 * i + 2)) (p := t) (fun j hj => by rw [cc, if_neg hj]) 8 ht, e0, e1, i0]
    have := hc.2
    omega
theorem R4_award {C M C' M' : FF} {i t : Nat} {rk am : Int32} (h : R4 C M i) (et : aM M i = t) (ht : t < 6) (hr : bt rk 0 2) (ha : bt am 0 1000000) (c3 : C' (4 + 8 * i + 3) 3 = nI (t + 1)) (c4 : ∀ j, C' (4 + 8 * i + 4) j = if j = t then rk else C (4 + 8 * i + 4) j) (c5 : ∀ j, C' (4 + 8 * i + 5) j = if j = t then am else C (4 + 8 * i + 5) j) (m0 : M' 50 i = nI (t + 1)) (m1 : ∀ j, j < 6 → M' 51 (6 * i + j) = if j = t then rk else M 51 (6 * i + j)) (m2 : ∀ j, j < 6 → M' 52 (6 * i + j) = if j = t then am else M 52 (6 * i + j)) : R4 C' M' i := by
  obtain ⟨h1, h2, h3, h4, h5, h6⟩ := h
  have e' : aM M' i = t + 1 := by unfold aM; rw [m0, clN (by omega)]
  rw [et] at h2 h3 h4 h5 h6
  refine ⟨by rw [c3, m0], by rw [e']; omega, by rw [m0, e'], fun j hj => ?_, fun j hj => ?_, fun j hj => ?_⟩
  · rw [e'] at hj
    rw [c4, m1 j (by omega)]
    by_cases e : j = t
    · rw [if_pos e, if_pos e]; exact ⟨rfl, hr⟩
    · rw [if_neg e, if_neg e]; exact h4 j (by omega)
  · rw [c5, e', m2 j hj]
    by_cases e : j = t
    · rw [if_pos e, if_pos e, if_pos (by omega)]
    · rw [if_neg e, if_neg e, h5 j hj]
      by_cases z : j < t
      · rw [if_pos z, if_pos (by omega)]
      · rw [if_neg z, if_neg (by omega)]
  · rw [e'] at hj
    rw [m2 j (by omega)]
    by_cases e : j = t
    · rw [if_pos e]; exact ha
    · rw [if_neg e]; exact h6 j (by omega)
theorem R2_chg {B P B' P' : Int} {C M C' M' : FF} {i : Nat} {a b : Int32} (h : R2 B P C M i) (hB : B + 1000000 ≤ B') (hB2 : B' ≤ 700000000) (hP : P ≤ P') (ha : 0 ≤ a.toInt) (hb : 0 ≤ b.toInt) (hab : a.toInt + b.toInt ≤ 1000000) (c6 : C' (4 + 8 * i) 6 = C (4 + 8 * i) 6 + a) (c7 : C' (4 + 8 * i) 7 = C (4 + 8 * i) 7 + b) (c10 : C' (4 + 8 * i) 10 = C (4 + 8 * i) 10) (m8 : M' 48 i = M 48 i + a) (m9 : M' 49 i = M 49 i + b) (m3 : M' 53 i = M 53 i) : R2 B' P' C' M' i := by
  unfold R2 bt at h ⊢
  obtain ⟨h1, h2, h3, h4, h5, h6, h7, h8⟩ := h
  rw [c6, c7, c10, m8, m9, m3, iadd (by omega) (by omega), iadd (by omega) (by omega), h1, h2]
  exact ⟨rfl, rfl, h3, by omega, by omega, by omega, h7, by omega⟩
theorem u2_of8 (F : FF) (k i t j : Nat) (v : Int32) : u2 F k (8 * i + t) v k (8 * i + j) = if j = t then v else F k (8 * i + j) := by
  by_cases e : j = t
  · rw [if_pos e, e, u2_eq]
  · rw [if_neg e, u2_ne _ _ (fun q => by omega)]
theorem u2_of6 (F : FF) (k i t j : Nat) (v : Int32) : u2 F k (6 * i + t) v k (6 * i + j) = if j = t then v else F k (6 * i + j) := by
  by_cases e : j = t
  · rw [if_pos e, e, u2_eq]
  · rw [if_neg e, u2_ne _ _ (fun q => by omega)]
theorem kd_wi {x : Int32} (h : x = 1 ∨ x = 2) : wi x 1 2 = true := by
  rcases h with e | e <;> rw [e] <;> decide
theorem cvT_row {i : Nat} {r : Int32} {j a : Nat} (h : a ≠ 4 + 8 * i + 6) (s : TC) : (cvT i r j s).1 a = s.1 a := by
  unfold cvT
  split
  · exact u2_cell _ _ _ h
  · rfl
theorem cvR_row {i : Nat} {r : Int32} {a : Nat} (h : a ≠ 4 + 8 * i + 6) (s : TC) : ∀ j, (cvR i r j s).1 a = s.1 a
  | 0 => rfl
  | j + 1 => (cvT_row h _).trans (cvR_row h s j)
theorem bal_row {F : FF} {i a : Nat} (h : a ≠ 4 + 8 * i + 6) : balF F i a = F a := by
  unfold balF cvA
  rw [cvR_row h, cvR_row h, cvR_row h]
theorem R2_pay {B P B' P' : Int} {C M C' M' : FF} {i : Nat} {a : Int32} (h : R2 B P C M i) (hB : B ≤ B') (hP : P + 1000000 ≤ P') (hP2 : P' ≤ 700000000) (ha : bt a 1 1000000) (c6 : C' (4 + 8 * i) 6 = C (4 + 8 * i) 6) (c7 : C' (4 + 8 * i) 7 = C (4 + 8 * i) 7) (c10 : C' (4 + 8 * i) 10 = C (4 + 8 * i) 10 + a) (m8 : M' 48 i = M 48 i) (m9 : M' 49 i = M 49 i) (m3 : M' 53 i = M 53 i + a) : R2 B' P' C' M' i := by
  unfold R2 bt at h ⊢
  obtain ⟨h1, h2, h3, h4, h5, h6, h7, h8⟩ := h
  obtain ⟨a1, a2⟩ := ha
  rw [c6, c7, c10, m8, m9, m3, iadd (by omega) (by omega), h3]
  exact ⟨h1, h2, rfl, h4, h5, by omega, by omega, by omega⟩
theorem ring1 (b d m : Int32) : b - d * (m - 1) = d + (b - d * m) := by
  rw [Int32.mul_sub, Int32.mul_one, Int32.sub_eq_add_neg b, Int32.neg_sub, Int32.sub_eq_add_neg d, Int32.sub_eq_add_neg b, ← Int32.add_assoc, ← Int32.add_assoc, Int32.add_comm b d]
