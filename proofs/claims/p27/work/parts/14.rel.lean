/-! what holds from call to call: of the landed program's numbers C and the reference's M; n calls are done -/
def bt (x : Int32) (a b : Int) : Prop := a ≤ x.toInt ∧ x.toInt ≤ b
def wkN (M : FF) : Nat := (M 36 1).toNatClampNeg
def tmN (M : FF) : Nat := (M 36 2).toNatClampNeg
def RG (C M : FF) : Prop := (∀ j, j < 4 → C 2 j = M 37 j ∧ bt (M 37 j) 0 100000) ∧ (∀ j, j < 16 → C 3 j = M 38 j ∧ bt (M 38 j) 0 100) ∧ (C 0 3 = M 36 4 ∧ C 0 4 = M 36 5 ∧ bt (M 36 4) 1 30 ∧ bt (M 36 5) (M 36 4).toInt 30) ∧ (C 0 5 = M 36 7 ∧ bt (M 36 7) 0 100000 ∧ C 0 6 = M 36 8)
def RK (C M : FF) : Prop := C 0 7 = M 36 1 ∧ C 0 8 = M 36 2 ∧ wkN M < 16 ∧ M 36 1 = nI (wkN M) ∧ tmN M < 10 ∧ M 36 2 = nI (tmN M)
def R1 (C M : FF) (i : Nat) : Prop := C (4 + 8 * i) 3 = M 39 i ∧ (M 39 i = 0 ∨ M 39 i = 1) ∧ C (4 + 8 * i) 4 = M 40 i ∧ C (4 + 8 * i) 5 = M 41 i ∧ 0 ≤ (M 41 i).toInt ∧ C (4 + 8 * i) 8 = M 42 i ∧ bt (M 42 i) 0 7 ∧ C (4 + 8 * i) 9 = M 43 i ∧ 0 ≤ (M 43 i).toInt
def R2 (B P : Int) (C M : FF) (i : Nat) : Prop := C (4 + 8 * i) 6 = M 48 i ∧ C (4 + 8 * i) 7 = M 49 i ∧ C (4 + 8 * i) 10 = M 53 i ∧ 0 ≤ (M 48 i).toInt ∧ 0 ≤ (M 49 i).toInt ∧ (M 48 i).toInt + (M 49 i).toInt ≤ B ∧ bt (M 53 i) 0 P
def sN (f : Nat → Int32) : Nat → Int
  | 0 => 0
  | n + 1 => sN f n + (f n).toInt
def R3 (C M : FF) (i : Nat) : Prop := C (4 + 8 * i + 1) 1 = M 44 i ∧ tM M i ≤ 8 ∧ M 44 i = nI (tM M i) ∧ C (4 + 8 * i + 1) 2 = M 47 i ∧ (∀ j, j < 8 → C (4 + 8 * i + 2) j = if j < tM M i ∧ M 46 (8 * i + j) = 0 then M 45 (8 * i + j) else 0) ∧ (∀ j, j < tM M i → M 46 (8 * i + j) = 0 → bt (M 45 (8 * i + j)) 1 10) ∧ 0 ≤ (M 47 i).toInt ∧ (M 47 i).toInt + 100000 * sN (C (4 + 8 * i + 2)) 8 ≤ 1000000 * (tM M i : Int)
def R4 (C M : FF) (i : Nat) : Prop := C (4 + 8 * i + 3) 3 = M 50 i ∧ aM M i ≤ 6 ∧ M 50 i = nI (aM M i) ∧ (∀ j, j < aM M i → C (4 + 8 * i + 4) j = M 51 (6 * i + j) ∧ bt (M 51 (6 * i + j)) 0 2) ∧ (∀ j, j < 6 → C (4 + 8 * i + 5) j = if j < aM M i then M 52 (6 * i + j) else 0) ∧ (∀ j, j < aM M i → bt (M 52 (6 * i + j)) 0 1000000)
def R5 (C M : FF) (i : Nat) : Prop := C (4 + 8 * i + 7) 0 = M 57 i ∧ C (4 + 8 * i + 7) 1 = M 54 i ∧ C (4 + 8 * i + 7) 2 = M 55 i + M 56 i ∧ C (4 + 8 * i + 7) 3 = M 55 i ∧ C (4 + 8 * i + 7) 4 = M 58 i
def RS (B P : Int) (C M : FF) (i : Nat) : Prop := R1 C M i ∧ R2 B P C M i ∧ R3 C M i ∧ R4 C M i ∧ R5 C M i
def RX (n : Nat) (C M : FF) : Prop := RG C M ∧ RK C M ∧ ∀ i, i < 4 → RS (1100000 * (n : Int) + 8000000 * (tmN M : Int)) (1000000 * (n : Int)) C M i
def REL (n : Nat) (F : FF) : Prop := RX n F F
theorem RG_of {C M C' M' : FF} (h : RG C M) (c2 : ∀ j, j < 4 → C' 2 j = C 2 j) (c3 : ∀ j, j < 16 → C' 3 j = C 3 j) (c0 : ∀ j, 3 ≤ j → j ≤ 6 → C' 0 j = C 0 j) (m7 : ∀ j, j < 4 → M' 37 j = M 37 j) (m8 : ∀ j, j < 16 → M' 38 j = M 38 j) (m0 : ∀ j, 4 ≤ j → j ≤ 8 → M' 36 j = M 36 j) : RG C' M' := by
  obtain ⟨h1, h2, ⟨a1, a2, a3, a4⟩, ⟨b1, b2, b3⟩⟩ := h
  refine ⟨fun j hj => ?_, fun j hj => ?_, ?_, ?_⟩
  · rw [c2 j hj, m7 j hj]; exact h1 j hj
  · rw [c3 j hj, m8 j hj]; exact h2 j hj
  · rw [c0 3 (by omega) (by omega), c0 4 (by omega) (by omega), m0 4 (by omega) (by omega), m0 5 (by omega) (by omega)]; exact ⟨a1, a2, a3, a4⟩
  · rw [c0 5 (by omega) (by omega), c0 6 (by omega) (by omega), m0 7 (by omega) (by omega), m0 8 (by omega) (by omega)]; exact ⟨b1, b2, b3⟩
theorem RK_of {C M C' M' : FF} (h : RK C M) (c7 : C' 0 7 = C 0 7) (c8 : C' 0 8 = C 0 8) (m1 : M' 36 1 = M 36 1) (m2 : M' 36 2 = M 36 2) : RK C' M' := by
  unfold RK wkN tmN at h ⊢
  rw [c7, c8, m1, m2]
  exact h
theorem R1_of {C M C' M' : FF} {i : Nat} (h : R1 C M i) (c : ∀ j, (j = 3 ∨ j = 4 ∨ j = 5 ∨ j = 8 ∨ j = 9) → C' (4 + 8 * i) j = C (4 + 8 * i) j) (m : ∀ k, 39 ≤ k → k ≤ 43 → M' k i = M k i) : R1 C' M' i := by
  unfold R1 at h ⊢
  rw [c 3 (by omega), c 4 (by omega), c 5 (by omega), c 8 (by omega), c 9 (by omega), m 39 (by omega) (by omega), m 40 (by omega) (by omega), m 41 (by omega) (by omega), m 42 (by omega) (by omega), m 43 (by omega) (by omega)]
  exact h
theorem R2_of {B P B' P' : Int} {C M C' M' : FF} {i : Nat} (h : R2 B P C M i) (hB : B ≤ B') (hP : P ≤ P') (c : ∀ j, (j = 6 ∨ j = 7 ∨ j = 10) → C' (4 + 8 * i) j = C (4 + 8 * i) j) (m8 : M' 48 i = M 48 i) (m9 : M' 49 i = M 49 i) (m3 : M' 53 i = M 53 i) : R2 B' P' C' M' i := by
  unfold R2 bt at h ⊢
  rw [c 6 (by omega), c 7 (by omega), c 10 (by omega), m8, m9, m3]
  obtain ⟨h1, h2, h3, h4, h5, h6, h7, h8⟩ := h
  exact ⟨h1, h2, h3, h4, h5, by omega, h7, by omega⟩
theorem sN_congr {f g : Nat → Int32} : ∀ n, (∀ j, j < n → f j = g j) → sN f n = sN g n
  | 0, _ => rfl
  | n + 1, h => by
    show sN f n + (f n).toInt = sN g n + (g n).toInt
    rw [sN_congr n (fun j hj => h j (by omega)), h n (by omega)]
theorem R3_of {C M C' M' : FF} {i : Nat} (h : R3 C M i) (c1 : C' (4 + 8 * i + 1) 1 = C (4 + 8 * i + 1) 1) (c2 : C' (4 + 8 * i + 1) 2 = C (4 + 8 * i + 1) 2) (cc : ∀ j, j < 8 → C' (4 + 8 * i + 2) j = C (4 + 8 * i + 2) j) (m4 : M' 44 i = M 44 i) (m7 : M' 47 i = M 47 i) (m5 : ∀ j, j < 8 → M' 45 (8 * i + j) = M 45 (8 * i + j)) (m6 : ∀ j, j < 8 → M' 46 (8 * i + j) = M 46 (8 * i + j)) : R3 C' M' i := by
  obtain ⟨h1, h2, h3, h4, h5, h6, h7, h8⟩ := h
  have et : tM M' i = tM M i := by unfold tM; rw [m4]
  refine ⟨by rw [c1, m4]; exact h1, by rw [et]; exact h2, by rw [m4, et]; exact h3, by rw [c2, m7]; exact h4, fun j hj => ?_, fun j hj hz => ?_, by rw [m7]; exact h7, ?_⟩
  · rw [cc j hj, h5 j hj, et, m6 j hj, m5 j hj]
  · rw [et] at hj
    rw [m6 j (by omega)] at hz
    rw [m5 j (by omega)]
    exact h6 j hj hz
  · rw [m7, et, sN_congr 8 cc]
    exact h8
theorem R4_of {C M C' M' : FF} {i : Nat} (h : R4 C M i) (c3 : C' (4 + 8 * i + 3) 3 = C (4 + 8 * i + 3) 3) (c4 : ∀ j, j < 6 → C' (4 + 8 * i + 4) j = C (4 + 8 * i + 4) j) (c5 : ∀ j, j < 6 → C' (4 + 8 * i + 5) j = C (4 + 8 * i + 5) j) (m0 : M' 50 i = M 50 i) (m1 : ∀ j, j < 6 → M' 51 (6 * i + j) = M 51 (6 * i + j)) (m2 : ∀ j, j < 6 → M' 52 (6 * i + j) = M 52 (6 * i + j)) : R4 C' M' i := by
  obtain ⟨h1, h2, h3, h4, h5, h6⟩ := h
  have et : aM M' i = aM M i := by unfold aM; rw [m0]
  refine ⟨by rw [c3, m0]; exact h1, by rw [et]; exact h2, by rw [m0, et]; exact h3, fun j hj => ?_, fun j hj => ?_, fun j hj => ?_⟩
  · rw [et] at hj
    rw [c4 j (by omega), m1 j (by omega)]
    exact h4 j hj
  · rw [c5 j hj, h5 j hj, et, m2 j hj]
  · rw [et] at hj
    rw [m2 j (by omega)]
    exact h6 j hj
theorem R5_of {C M C' M' : FF} {i : Nat} (h : R5 C M i) (c : ∀ j, j ≤ 4 → C' (4 + 8 * i + 7) j = C (4 + 8 * i + 7) j) (m : ∀ k, 54 ≤ k → k ≤ 58 → M' k i = M k i) : R5 C' M' i := by
  unfold R5 at h ⊢
  rw [c 0 (by omega), c 1 (by omega), c 2 (by omega), c 3 (by omega), c 4 (by omega), m 54 (by omega) (by omega), m 55 (by omega) (by omega), m 56 (by omega) (by omega), m 57 (by omega) (by omega), m 58 (by omega) (by omega)]
  exact h
/-- nothing of the student i changed -/
def AG (i : Nat) (C M C' M' : FF) : Prop := (∀ k j, 4 + 8 * i ≤ k → k < 12 + 8 * i → k ≠ 4 + 8 * i + 6 → C' k j = C k j) ∧ (∀ k, 39 ≤ k → k ≤ 58 → k ≠ 45 → k ≠ 46 → k ≠ 51 → k ≠ 52 → M' k i = M k i) ∧ (∀ j, j < 8 → M' 45 (8 * i + j) = M 45 (8 * i + j) ∧ M' 46 (8 * i + j) = M 46 (8 * i + j)) ∧ (∀ j, j < 6 → M' 51 (6 * i + j) = M 51 (6 * i + j) ∧ M' 52 (6 * i + j) = M 52 (6 * i + j))
theorem RS_of {B P B' P' : Int} {C M C' M' : FF} {i : Nat} (h : RS B P C M i) (hB : B ≤ B') (hP : P ≤ P') (a : AG i C M C' M') : RS B' P' C' M' i := by
  obtain ⟨h1, h2, h3, h4, h5⟩ := h
  obtain ⟨a1, a2, a3, a4⟩ := a
  exact ⟨R1_of h1 (fun j _ => a1 _ j (by omega) (by omega) (by omega)) (fun k q1 q2 => a2 k (by omega) (by omega) (by omega) (by omega) (by omega) (by omega)),
    R2_of h2 hB hP (fun j _ => a1 _ j (by omega) (by omega) (by omega)) (a2 48 (by omega) (by omega) (by omega) (by omega) (by omega) (by omega)) (a2 49 (by omega) (by omega) (by omega) (by omega) (by omega) (by omega)) (a2 53 (by omega) (by omega) (by omega) (by omega) (by omega) (by omega)),
    R3_of h3 (a1 _ 1 (by omega) (by omega) (by omega)) (a1 _ 2 (by omega) (by omega) (by omega)) (fun j _ => a1 _ j (by omega) (by omega) (by omega)) (a2 44 (by omega) (by omega) (by omega) (by omega) (by omega) (by omega)) (a2 47 (by omega) (by omega) (by omega) (by omega) (by omega) (by omega)) (fun j hj => (a3 j hj).1) (fun j hj => (a3 j hj).2),
    R4_of h4 (a1 _ 3 (by omega) (by omega) (by omega)) (fun j _ => a1 _ j (by omega) (by omega) (by omega)) (fun j _ => a1 _ j (by omega) (by omega) (by omega)) (a2 50 (by omega) (by omega) (by omega) (by omega) (by omega) (by omega)) (fun j hj => (a4 j hj).1) (fun j hj => (a4 j hj).2),
    R5_of h5 (fun j _ => a1 _ j (by omega) (by omega) (by omega)) (fun k q1 q2 => a2 k (by omega) (by omega) (by omega) (by omega) (by omega) (by omega))⟩
/-- the landed program's cells agree but for its scratch rows; the reference's but for the number of the latest exception -/
def EC (C C' : FF) : Prop := ∀ k, k < 36 → (∀ i, i < 4 → k ≠ 4 + 8 * i + 6) → C' k = C k
def EM (M M' : FF) : Prop := ∀ k j, 36 ≤ k → k < 59 → ¬ (k = 36 ∧ j = 0) → M' k j = M k j
theorem EC_rfl (C : FF) : EC C C := fun _ _ _ => rfl
theorem EM_rfl (M : FF) : EM M M := fun _ _ _ _ _ => rfl
theorem EC_tr {A B C : FF} (h1 : EC A B) (h2 : EC B C) : EC A C := fun k a b => (h2 k a b).trans (h1 k a b)
theorem EM_tr {A B C : FF} (h1 : EM A B) (h2 : EM B C) : EM A C := fun k j a b c => (h2 k j a b c).trans (h1 k j a b c)
theorem AG_of {C M C' M' : FF} (hC : EC C C') (hM : EM M M') {i : Nat} (hi : i < 4) : AG i C M C' M' := ⟨fun k j h1 h2 h3 => by rw [hC k (by omega) (fun z hz => by omega)], fun k h1 h2 h3 h4 h5 h6 => hM k i (by omega) (by omega) (by omega), fun j hj => ⟨hM 45 _ (by omega) (by omega) (by omega), hM 46 _ (by omega) (by omega) (by omega)⟩, fun j hj => ⟨hM 51 _ (by omega) (by omega) (by omega), hM 52 _ (by omega) (by omega) (by omega)⟩⟩
theorem tmN_of {M M' : FF} (hM : M' 36 2 = M 36 2) : tmN M' = tmN M := by unfold tmN; rw [hM]
theorem RX_of {n m : Nat} (hnm : n ≤ m) {C M C' M' : FF} (h : RX n C M) (hC : EC C C') (hM : EM M M') : RX m C' M' := by
  obtain ⟨h1, h2, h3⟩ := h
  refine ⟨RG_of h1 (fun j _ => by rw [hC 2 (by omega) (fun z hz => by omega)]) (fun j _ => by rw [hC 3 (by omega) (fun z hz => by omega)]) (fun j _ _ => by rw [hC 0 (by omega) (fun z hz => by omega)]) (fun j _ => hM 37 j (by omega) (by omega) (by omega)) (fun j _ => hM 38 j (by omega) (by omega) (by omega)) (fun j q _ => hM 36 j (by omega) (by omega) (by omega)),
    RK_of h2 (by rw [hC 0 (by omega) (fun z hz => by omega)]) (by rw [hC 0 (by omega) (fun z hz => by omega)]) (hM 36 1 (by omega) (by omega) (by omega)) (hM 36 2 (by omega) (by omega) (by omega)), fun i hi => ?_⟩
  have et := tmN_of (hM 36 2 (by omega) (by omega) (by omega))
  exact RS_of (h3 i hi) (by rw [et]; omega) (by omega) (AG_of hC hM hi)
theorem REL_th {n : Nat} {F : FF} (h : REL n F) (p : Int32) : REL (n + 1) (u2 F 36 0 p) :=
  RX_of (Nat.le_succ n) h (fun k hk _ => u2_cell _ _ _ (by omega)) (fun k j _ _ hn => u2_ne _ _ hn)
theorem REL_mono {n : Nat} {F : FF} (h : REL n F) : REL (n + 1) F := RX_of (Nat.le_succ n) h (EC_rfl F) (EM_rfl F)
/-- the model's part of the one world as it stands, the program's part as it was said -/
theorem REL_mk {n : Nat} {C F : FF} (h : RX n C F) (hC : EC C F) : REL n F := RX_of (Nat.le_refl n) h hC (EM_rfl F)
theorem RX_OKM {n : Nat} {C M : FF} (h : RX n C M) {i : Nat} (hi : i < 4) : OKM M i := by
  obtain ⟨h1, -, h3, h4, -⟩ := h.2.2 i hi
  exact ⟨h1.2.1, ⟨h3.2.1, h3.2.2.1⟩, ⟨h4.2.1, h4.2.2.1⟩⟩
