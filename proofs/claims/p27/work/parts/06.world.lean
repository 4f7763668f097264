/-! the world of one object of the program: thirty-six cells; F k j is the number at place j of cell k (from 36 on: no cell) -/
abbrev FF : Type := Nat → Nat → Int32
def u2 (F : FF) (k j : Nat) (v : Int32) : FF := fun a b => if a = k ∧ b = j then v else F a b
theorem u2_eq (F : FF) (k j : Nat) (v : Int32) : u2 F k j v k j = v := by simp [u2]
theorem u2_cell (F : FF) {k a : Nat} (j : Nat) (v : Int32) (h : a ≠ k) : u2 F k j v a = F a := by funext b; simp [u2, h]
theorem u2_ne (F : FF) {k a : Nat} {j b : Nat} (v : Int32) (h : ¬ (a = k ∧ b = j)) : u2 F k j v a b = F a b := by simp only [u2, if_neg h]
theorem u2_row (F : FF) (k j : Nat) (v : Int32) : u2 F k j v k = upd (F k) j v := by funext b; by_cases h : b = j <;> simp [u2, upd, h]
/-- kind of a cell: 0 an object, 1 a row of ints, 3 the students -/
def kin (k : Nat) : Nat := if k = 1 then 3 else if k = 0 then 0 else if k < 4 then 1 else if (k - 4) % 8 = 0 then 0 else if (k - 4) % 8 = 1 then 0 else if (k - 4) % 8 = 3 then 0 else if (k - 4) % 8 = 7 then 0 else 1
/-- of which kind the object is (its place in vwCl) -/
def ocl (k : Nat) : Nat := if k = 0 then 4 else if (k - 4) % 8 = 0 then 3 else if (k - 4) % 8 = 1 then 1 else if (k - 4) % 8 = 3 then 0 else 2
def onn (c : Nat) : Nat := match c with
  | 0 => 4
  | 1 => 3
  | 2 => 5
  | 3 => 11
  | _ => 9
/-- which cell field j of the object k (of kind c) holds, if it holds one -/
def orc (c k j : Nat) : Option Nat := match c with
  | 0 => if j = 0 then some (k + 1) else if j = 1 then some (k + 2) else if j = 2 then some (k + 3) else none
  | 1 => if j = 0 then some (k + 1) else none
  | 2 => none
  | 3 => if j = 0 then some (k + 1) else if j = 1 then some (k + 3) else if j = 2 then some (k + 7) else none
  | _ => if j = 0 then some (k + 1) else if j = 1 then some (k + 2) else if j = 2 then some (k + 3) else none
/-- how many places a row has -/
def aln (k : Nat) : Nat := if k = 2 then 4 else if k = 3 then 16 else if (k - 4) % 8 = 2 then 8 else 6
def vls (ad : Nat → Nat) (f : Nat → Int32) (k : Nat) : List Value := (List.range (onn (ocl k))).map (fun j => match orc (ocl k) k j with
  | some q => .ref (ad q)
  | none => .int (f j))
def stf (ad : Nat → Nat) : Nat → Option Nat := fun j => if j < 4 then some (ad (4 + 8 * j)) else none
def ent (cA : Nat → ClassId) (ad : Nat → Nat) (f : Nat → Int32) (k : Nat) : va_E := match kin k with
  | 0 => .inr (ocl k, vls ad f k)
  | 1 => .inl (cA 0, aln k, .inl f)
  | _ => .inl (cA 1, 4, .inr (.inr (.inr (.inr (stf ad)))))
def wA (cA : Nat → ClassId) (ad : Nat → Nat) (F : FF) : va_W := (List.range 36).map (fun k => (ad k, ent cA ad (F k) k))
abbrev TT (cA : Nat → ClassId) : List (ClassId × FieldType) := [(cA 0, .int), (cA 1, .object "TermBill$Student")]
theorem wA_get {cA : Nat → ClassId} {ad : Nat → Nat} {F : FF} {k : Nat} (h : k < 36) : (wA cA ad F)[k]? = some (ad k, ent cA ad (F k) k) := by
  simp [wA, h]
theorem wA_mem {cA : Nat → ClassId} {ad : Nat → Nat} {F : FF} {k : Nat} {q : Nat × va_E} (h : (wA cA ad F)[k]? = some q) : k < 36 ∧ q = (ad k, ent cA ad (F k) k) := by
  have hk : k < 36 := by
    have h1 := (List.getElem?_eq_some_iff.mp h).1
    simpa [wA] using h1
  rw [wA_get hk] at h
  exact ⟨hk, (Option.some.inj h).symm⟩
theorem wA_set {cA : Nat → ClassId} {ad : Nat → Nat} {F : FF} {k : Nat} (h : k < 36) (j : Nat) (v : Int32) : (wA cA ad F).set k (ad k, ent cA ad (upd (F k) j v) k) = wA cA ad (u2 F k j v) := by
  apply List.ext_getElem?
  intro q
  by_cases hq : q = k
  · subst hq
    rw [List.getElem?_set_self (by simpa [wA] using h), wA_get h, u2_row]
  · rw [List.getElem?_set_ne (fun z => hq z.symm)]
    by_cases h2 : q < 36
    · rw [wA_get h2, wA_get h2, u2_cell F j v hq]
    · rw [List.getElem?_eq_none (by simp [wA]; omega), List.getElem?_eq_none (by simp [wA]; omega)]
def Inj (ad : Nat → Nat) : Prop := ∀ i j : Nat, i < 36 → j < 36 → ad i = ad j → i = j
def AA (ad : Nat → Nat) (sz : Nat) : Nat → Prop := fun q => (∃ k : Nat, k < 36 ∧ q = ad k) ∨ sz ≤ q
theorem AA_of {ad : Nat → Nat} {sz k : Nat} (h : k < 36) : AA ad sz (ad k) := Or.inl ⟨k, h, rfl⟩
theorem AA_new {ad : Nat → Nat} {sz q : Nat} (h : sz ≤ q) : AA ad sz q := Or.inr h
theorem AA_mono {ad : Nat → Nat} {sz s2 : Nat} (h : sz ≤ s2) (q : Nat) (hq : AA ad s2 q) : AA ad sz q := hq.elim Or.inl (fun z => Or.inr (Nat.le_trans h z))
theorem wA_D {cA : Nat → ClassId} {ad : Nat → Nat} {A : Nat → Prop} (F : FF) (h : Inj ad) (hA : ∀ k : Nat, k < 36 → A (ad k)) : va_D A (wA cA ad F) := by
  refine ⟨fun i j p q hi hj hpq => ?_, fun k q hk => ?_⟩
  · obtain ⟨h1, rfl⟩ := wA_mem hi
    obtain ⟨h2, rfl⟩ := wA_mem hj
    exact h i j h1 h2 hpq
  · obtain ⟨h1, rfl⟩ := wA_mem hk
    exact hA k h1
/-- an object, a row -/
def Ob (k c : Nat) : Prop := k < 36 ∧ kin k = 0 ∧ ocl k = c
def Ar (k t n : Nat) : Prop := k < 36 ∧ kin k = t ∧ aln k = n
theorem ob_0 : Ob 0 4 := by unfold Ob; decide
theorem ob_S : ∀ i, i < 4 → Ob (4 + 8 * i) 3 := by unfold Ob; decide
theorem ob_C : ∀ i, i < 4 → Ob (4 + 8 * i + 1) 1 := by unfold Ob; decide
theorem ob_A : ∀ i, i < 4 → Ob (4 + 8 * i + 3) 0 := by unfold Ob; decide
theorem ob_I : ∀ i, i < 4 → Ob (4 + 8 * i + 7) 2 := by unfold Ob; decide
theorem ar_C : ∀ i, i < 4 → Ar (4 + 8 * i + 2) 1 8 := by unfold Ar; decide
theorem ar_R : ∀ i, i < 4 → Ar (4 + 8 * i + 4) 1 6 := by unfold Ar; decide
theorem ar_M : ∀ i, i < 4 → Ar (4 + 8 * i + 5) 1 6 := by unfold Ar; decide
theorem ar_U : ∀ i, i < 4 → Ar (4 + 8 * i + 6) 1 6 := by unfold Ar; decide
theorem vls_int {ad : Nat → Nat} {f : Nat → Int32} {k c j : Nat} (hc : ocl k = c) (hj : j < onn c) (hr : orc c k j = none) : (vls ad f k)[j]? = some (.int (f j)) := by
  subst hc
  simp [vls, hj, hr]
theorem vls_ref {ad : Nat → Nat} {f : Nat → Int32} {k c j q : Nat} (hc : ocl k = c) (hj : j < onn c) (hr : orc c k j = some q) : (vls ad f k)[j]? = some (.ref (ad q)) := by
  subst hc
  simp [vls, hj, hr]
theorem vls_len {ad : Nat → Nat} {f : Nat → Int32} {k c : Nat} (hc : ocl k = c) : (vls ad f k).length = onn c := by
  subst hc
  simp [vls]
theorem vls_set {ad : Nat → Nat} {f : Nat → Int32} {k c j : Nat} {v : Int32} (hc : ocl k = c) (hj : j < onn c) (hr : orc c k j = none) : (vls ad f k).set j (.int v) = vls ad (upd f j v) k := by
  apply List.ext_getElem?
  intro q
  by_cases hq : q = j
  · subst hq
    rw [List.getElem?_set_self (by rw [vls_len hc]; exact hj), vls_int hc hj hr]
    simp [upd]
  · rw [List.getElem?_set_ne (fun z => hq z.symm)]
    subst hc
    unfold vls
    rw [List.getElem?_map, List.getElem?_map]
    rcases Nat.lt_or_ge q (onn (ocl k)) with h | h
    · rw [List.getElem?_range h]
      simp only [Option.map_some, upd, if_neg hq]
    · rw [List.getElem?_eq_none (by simpa using h)]
      rfl
theorem ent_ob {cA : Nat → ClassId} {ad : Nat → Nat} {f : Nat → Int32} {k c : Nat} (h : Ob k c) : ent cA ad f k = .inr (c, vls ad f k) := by
  obtain ⟨-, h1, h2⟩ := h
  simp only [ent, h1, h2]
theorem ent_i {cA : Nat → ClassId} {ad : Nat → Nat} {f : Nat → Int32} {k n : Nat} (h : Ar k 1 n) : ent cA ad f k = .inl (cA 0, n, .inl f) := by
  obtain ⟨-, h1, h2⟩ := h
  simp only [ent, h1, h2]
theorem ent_s {cA : Nat → ClassId} {ad : Nat → Nat} {f : Nat → Int32} : ent cA ad f 1 = .inl (cA 1, 4, .inr (.inr (.inr (.inr (stf ad))))) := rfl
