/-! the week's end: late fees -/
def RXB (B P : Int) (C M : FF) : Prop := RG C M ∧ RK C M ∧ ∀ i, i < 4 → RS B P C M i
theorem R2_fee {B P B' P' : Int} {C M C' M' : FF} {i : Nat} {a : Int32} (h : R2 B P C M i) (hB : B + 100000 ≤ B') (hB2 : B' ≤ 700000000) (hP : P ≤ P') (ha : bt a 0 100000) (c6 : C' (4 + 8 * i) 6 = C (4 + 8 * i) 6 + a) (c7 : C' (4 + 8 * i) 7 = C (4 + 8 * i) 7) (c10 : C' (4 + 8 * i) 10 = C (4 + 8 * i) 10) (m8 : M' 48 i = M 48 i + a) (m9 : M' 49 i = M 49 i) (m3 : M' 53 i = M 53 i) : R2 B' P' C' M' i := by
  unfold R2 bt at h ⊢
  obtain ⟨h1, h2, h3, h4, h5, h6, h7, h8⟩ := h
  obtain ⟨a1, a2⟩ := ha
  rw [c6, c7, c10, m8, m9, m3, iadd (by omega) (by omega), h1, h2]
  exact ⟨rfl, rfl, h3, by omega, by omega, by omega, h7, by omega⟩
theorem RXB_mono {B P B' P' : Int} {C M : FF} (h : RXB B P C M) (hB : B ≤ B') (hP : P ≤ P') : RXB B' P' C M :=
  ⟨h.1, h.2.1, fun i hi => RS_of (h.2.2 i hi) hB hP (AG_of (EC_rfl C) (EM_rfl M) hi)⟩
theorem ring2 (e r d : Int32) : e + r + e * (d - 1) = d * e + r := by
  rw [Int32.mul_sub, Int32.mul_one, Int32.sub_eq_add_neg, Int32.mul_comm d e]
  generalize e * d = x
  rw [Int32.add_comm e r, Int32.add_assoc r e, Int32.add_comm x (-e), ← Int32.add_assoc e, Int32.add_right_neg, Int32.zero_add, Int32.add_comm]
theorem lf_eq {C M : FF} {i : Nat} (hK : RK C M) (h5 : R5 C M i) : lfC C i = flB M i := by
  obtain ⟨k1, k2, -⟩ := hK
  obtain ⟨g0, g1, g2, g3, g4⟩ := h5
  have e : M 36 2 * 16 + M 36 1 - M 57 i = fwM M i := by unfold fwM; rw [Int32.mul_comm]
  unfold lfC flB lateI wi
  rw [k1, k2, g0, g1, g2, g3, g4, e, ring2]
  have q : (!decide (fwM M i / 2 < 1)) = decide (1 ≤ fwM M i / 2) := by
    by_cases z : fwM M i / 2 < 1
    · rw [decide_eq_true z, decide_eq_false (Int32.not_le.mpr z)]; rfl
    · rw [decide_eq_false z, decide_eq_true (Int32.not_lt.mp z)]; rfl
  rw [q, Bool.and_assoc]
theorem fall_s {B P : Int} {C M : FF} {i : Nat} (hi : i < 4) (h : RXB B P C M) (hB : B + 100000 ≤ 700000000) : RXB (B + 100000) P (clS C i) (flM M i) := by
  have hS := h.2.2 i hi
  have e := lf_eq h.2.1 hS.2.2.2.2
  unfold clS flM
  rw [e]
  by_cases z : flB M i = true
  · rw [if_pos z, if_pos z]
    have hG := h.1.2.2.2
    have c0 : ∀ k, k ≠ 4 + 8 * i → u2 C (4 + 8 * i) 6 (C (4 + 8 * i) 6 + C 0 5) k = C k := fun k hk => u2_cell _ _ _ hk
    have cS : ∀ j, j ≠ 6 → u2 C (4 + 8 * i) 6 (C (4 + 8 * i) 6 + C 0 5) (4 + 8 * i) j = C (4 + 8 * i) j := fun j hj => u2_ne _ _ (fun q => hj q.2)
    have m0 : ∀ k, k ≠ 48 → u2 M 48 i (M 48 i + M 36 7) k = M k := fun k hk => u2_cell _ _ _ hk
    have mS : ∀ j, j ≠ i → u2 M 48 i (M 48 i + M 36 7) 48 j = M 48 j := fun j hj => u2_ne _ _ (fun q => hj q.2)
    have c6 : u2 C (4 + 8 * i) 6 (C (4 + 8 * i) 6 + C 0 5) (4 + 8 * i) 6 = C (4 + 8 * i) 6 + M 36 7 := by rw [u2_eq, hG.1]
    have m8 : u2 M 48 i (M 48 i + M 36 7) 48 i = M 48 i + M 36 7 := u2_eq _ _ _ _
    generalize u2 C (4 + 8 * i) 6 (C (4 + 8 * i) 6 + C 0 5) = C' at *
    generalize u2 M 48 i (M 48 i + M 36 7) = M' at *
    refine ⟨RG_of h.1 (fun j _ => by rw [c0 2 (by omega)]) (fun j _ => by rw [c0 3 (by omega)]) (fun j _ _ => by rw [c0 0 (by omega)]) (fun j _ => by rw [m0 37 (by omega)]) (fun j _ => by rw [m0 38 (by omega)]) (fun j _ _ => by rw [m0 36 (by omega)]), RK_of h.2.1 (by rw [c0 0 (by omega)]) (by rw [c0 0 (by omega)]) (by rw [m0 36 (by omega)]) (by rw [m0 36 (by omega)]), fun k hk => ?_⟩
    by_cases ek : k = i
    · rw [ek]
      refine ⟨R1_of hS.1 (fun j hj => cS j (by omega)) (fun a q1 q2 => by rw [m0 a (by omega)]), R2_fee hS.2.1 (Int.le_refl _) hB (Int.le_refl _) hG.2.1 c6 (cS 7 (by omega)) (cS 10 (by omega)) m8 (by rw [m0 49 (by omega)]) (by rw [m0 53 (by omega)]), ?_, ?_, ?_⟩
      · exact R3_of hS.2.2.1 (by rw [c0 _ (by omega)]) (by rw [c0 _ (by omega)]) (fun j _ => by rw [c0 _ (by omega)]) (by rw [m0 44 (by omega)]) (by rw [m0 47 (by omega)]) (fun j _ => by rw [m0 45 (by omega)]) (fun j _ => by rw [m0 46 (by omega)])
      · exact R4_of hS.2.2.2.1 (by rw [c0 _ (by omega)]) (fun j _ => by rw [c0 _ (by omega)]) (fun j _ => by rw [c0 _ (by omega)]) (by rw [m0 50 (by omega)]) (fun j _ => by rw [m0 51 (by omega)]) (fun j _ => by rw [m0 52 (by omega)])
      · exact R5_of hS.2.2.2.2 (fun j _ => by rw [c0 _ (by omega)]) (fun a q1 q2 => by rw [m0 a (by omega)])
    · refine RS_of (h.2.2 k hk) (by omega) (Int.le_refl _) ⟨fun a j q1 q2 q3 => by rw [c0 a (by omega)], fun a q1 q2 _ _ _ _ => ?_, fun j hj => ⟨by rw [m0 45 (by omega)], by rw [m0 46 (by omega)]⟩, fun j hj => ⟨by rw [m0 51 (by omega)], by rw [m0 52 (by omega)]⟩⟩
      by_cases ea : a = 48
      · rw [ea]; exact mS k ek
      · rw [m0 a ea]
  · rw [if_neg z, if_neg z]
    exact RXB_mono h (by omega) (Int.le_refl _)
theorem fall_4 {B P : Int} {C M : FF} (h : RXB B P C M) (hB : B + 400000 ≤ 700000000) : RXB (B + 400000) P (clA C 4) (fl4 M) := by
  have h0 := fall_s (i := 0) (by omega) h (by omega)
  have h1 := fall_s (i := 1) (by omega) h0 (by omega)
  have h2 := fall_s (i := 2) (by omega) h1 (by omega)
  have h3 := fall_s (i := 3) (by omega) h2 (by omega)
  exact RXB_mono h3 (by omega) (Int.le_refl _)
theorem clS_row {F : FF} {i k : Nat} (h : k ≠ 4 + 8 * i) : clS F i k = F k := by
  unfold clS
  split
  · exact u2_cell _ _ _ h
  · rfl
theorem clA_row {F : FF} {k : Nat} (h : ∀ i, i < 4 → k ≠ 4 + 8 * i) : ∀ i, i ≤ 4 → clA F i k = F k
  | 0, _ => rfl
  | i + 1, hi => (clS_row (h i (by omega))).trans (clA_row h i (by omega))
theorem flM_row {F : FF} {i k : Nat} (h : k ≠ 48) : flM F i k = F k := by
  unfold flM
  split
  · exact u2_cell _ _ _ h
  · rfl
theorem fl4_row {F : FF} {k : Nat} (h : k ≠ 48) : fl4 F k = F k := by
  unfold fl4
  rw [flM_row h, flM_row h, flM_row h, flM_row h]
/-! what is owed stands on the student's own rows -/
def AGm (i : Nat) (M M' : FF) : Prop := (∀ k, 39 ≤ k → k ≤ 50 → k ≠ 45 → k ≠ 46 → M' k i = M k i) ∧ (∀ j, j < 8 → M' 45 (8 * i + j) = M 45 (8 * i + j) ∧ M' 46 (8 * i + j) = M 46 (8 * i + j)) ∧ (∀ j, j < 6 → M' 51 (6 * i + j) = M 51 (6 * i + j) ∧ M' 52 (6 * i + j) = M 52 (6 * i + j)) ∧ (∀ j, 3 ≤ j → M' 36 j = M 36 j) ∧ M' 37 = M 37
def xM (M : FF) (i : Nat) : Int32 := alM M i - spM M i - usR M i (-1)
theorem mcr_c {M M' : FF} {i : Nat} (h : AGm i M M') : ∀ n, n ≤ 8 → mcr M' i n = mcr M i n
  | 0, _ => rfl
  | n + 1, hn => by
    show mcr M' i n + _ = mcr M i n + _
    rw [mcr_c h n (by omega), (h.2.1 n (by omega)).1, (h.2.1 n (by omega)).2]
theorem tu_c {M M' : FF} {i : Nat} (h : AGm i M M') (ht : tM M i ≤ 8) : tuM M' i = tuM M i := by
  have et : tM M' i = tM M i := tM_of (h.1 44 (by omega) (by omega) (by omega) (by omega))
  unfold tuM prM rtM
  rw [et, mcr_c h _ ht, h.2.2.2.1 4 (by omega), h.2.2.2.1 5 (by omega), h.2.2.2.2, h.1 39 (by omega) (by omega) (by omega) (by omega), h.1 40 (by omega) (by omega) (by omega) (by omega), h.1 47 (by omega) (by omega) (by omega) (by omega)]
theorem usL_c {M M' : FF} {i : Nat} {aw : Int32} (h1 : ∀ k, usI M' i k = usI M i k) (h2 : ∀ k s, usV M' i k s = usV M i k s) : ∀ d k s, usL M' i aw d k s = usL M i aw d k s
  | 0, _, _ => rfl
  | d + 1, k, s => by
    have e : usS M' i k s = usS M i k s := by unfold usS; rw [h2]
    by_cases z : usI M i k = true ∧ nI (k % 6) = aw
    · rw [usL_y z, usL_y (by rw [h1]; exact z), h2]
    · rw [usL_n z, usL_n (by rw [h1]; exact z), e]
      exact usL_c h1 h2 d (k + 1) _
theorem xM_c {M M' : FF} {i : Nat} (h : AGm i M M') (ht : tM M i ≤ 8) : xM M' i = xM M i := by
  have eu := tu_c h ht
  have ea : alM M' i = alM M i := by unfold alM; rw [eu, h.1 48 (by omega) (by omega) (by omega) (by omega), h.1 49 (by omega) (by omega) (by omega) (by omega)]
  have es : spM M' i = spM M i := by
    unfold spM smM
    rw [eu, h.1 48 (by omega) (by omega) (by omega) (by omega), h.1 49 (by omega) (by omega) (by omega) (by omega), h.1 42 (by omega) (by omega) (by omega) (by omega), h.1 43 (by omega) (by omega) (by omega) (by omega)]
  have em : aM M' i = aM M i := aM_of (h.1 50 (by omega) (by omega) (by omega) (by omega))
  have h1 : ∀ k, usI M' i k = usI M i k := fun k => by unfold usI; rw [em, (h.2.2.1 (k % 6) (by omega)).1]
  have h2 : ∀ k s, usV M' i k s = usV M i k s := fun k s => by unfold usV us0; rw [h1, (h.2.2.1 (k % 6) (by omega)).2]
  unfold xM usR
  rw [ea, es, h.1 41 (by omega) (by omega) (by omega) (by omega), usL_c h1 h2]
theorem ow_x (M : FF) (i : Nat) : owM M i = xM M i - M 53 i := rfl
/-! the term's end -/
def cai (x y : Int32) : Int32 := if x ≤ 0 then 0 else if -y ≤ 0 then 0 else mn x (-y)
def bo (x : Int32) : Prop := bt x (-700000000) 800000000
theorem cai_i {x y : Int32} (hy : bo y) : (cai x y).toInt = if x.toInt ≤ 0 then 0 else if 0 ≤ y.toInt then 0 else if -y.toInt < x.toInt then -y.toInt else x.toInt := by
  have e : (-y).toInt = -y.toInt := ineg (by have := hy.1; omega)
  unfold cai
  by_cases h : x ≤ 0
  · have h2 := ile.mp h
    rw [i0] at h2
    rw [if_pos h, if_pos h2, i0]
  · have h2 : ¬ x.toInt ≤ 0 := fun q => h (ile.mpr (by rw [i0]; exact q))
    rw [if_neg h, if_neg h2]
    by_cases z : -y ≤ 0
    · have z2 := ile.mp z
      rw [i0, e] at z2
      rw [if_pos z, if_pos (by omega), i0]
    · have z2 : ¬ 0 ≤ y.toInt := fun q => z (ile.mpr (by rw [i0, e]; omega))
      rw [if_neg z, if_neg z2, imn, e]
theorem car_i {x y : Int32} (hy : bo y) : carI x y = cai x y := by
  have e : (-y).toInt = -y.toInt := ineg (by have := hy.1; omega)
  unfold carI cai
  by_cases h : x ≤ 0
  · rw [if_pos h, if_pos h]
  · rw [if_neg h, if_neg h]
    by_cases z : -y ≤ 0
    · have z2 := ile.mp z
      rw [i0, e] at z2
      rw [if_pos z, if_pos (ile.mpr (by rw [i0]; omega))]
    · have z2 : ¬ 0 ≤ y := fun q => z (ile.mpr (by have := ile.mp q; rw [i0] at this; rw [i0, e]; omega))
      rw [if_neg z, if_neg z2]
theorem ca_53 {F : FF} {i k : Nat} (h : i ≠ k) : caM F i k 53 i = F 53 i + cai (owM F i) (owM F k) ∧ caM F i k 53 k = F 53 k - cai (owM F i) (owM F k) ∧ ∀ j, j ≠ i → j ≠ k → caM F i k 53 j = F 53 j := by
  unfold caM cai
  generalize owM F i = x
  generalize owM F k = y
  by_cases h1 : x ≤ 0
  · rw [if_pos h1, if_pos h1, Int32.add_zero, Int32.sub_zero]
    exact ⟨rfl, rfl, fun _ _ _ => rfl⟩
  · rw [if_neg h1, if_neg h1]
    by_cases h2 : -y ≤ 0
    · rw [if_pos h2, if_pos h2, Int32.add_zero, Int32.sub_zero]
      exact ⟨rfl, rfl, fun _ _ _ => rfl⟩
    · rw [if_neg h2, if_neg h2]
      refine ⟨?_, ?_, fun j q1 q2 => ?_⟩
      · rw [u2_ne _ _ (fun q => h q.2), u2_eq]
      · rw [u2_eq, u2_ne _ _ (fun q => h q.2.symm)]
      · rw [u2_ne _ _ (fun q => q2 q.2), u2_ne _ _ (fun q => q1 q.2)]
theorem AGm_53 {i : Nat} {M M' : FF} (h : ∀ k, k ≠ 53 → M' k = M k) : AGm i M M' := ⟨fun k _ _ _ _ => by rw [h k (by omega)], fun j _ => ⟨by rw [h 45 (by omega)], by rw [h 46 (by omega)]⟩, fun j _ => ⟨by rw [h 51 (by omega)], by rw [h 52 (by omega)]⟩, fun j _ => by rw [h 36 (by omega)], h 37 (by omega)⟩
theorem sub_ad (x p a : Int32) : x - (p + a) = x - p - a := by
  rw [Int32.sub_eq_add_neg, Int32.neg_add, Int32.sub_eq_add_neg (-p), ← Int32.add_assoc, ← Int32.sub_eq_add_neg, ← Int32.sub_eq_add_neg]
theorem sub_sb2 (x p a : Int32) : x - (p - a) = x - p + a := by
  rw [Int32.sub_eq_add_neg, Int32.neg_sub, Int32.sub_eq_add_neg a, Int32.add_comm a, ← Int32.add_assoc, ← Int32.sub_eq_add_neg]
theorem ow_ca {M : FF} {i k : Nat} (h : i ≠ k) (ht : ∀ j, j < 4 → tM M j ≤ 8) : (i < 4 → owM (caM M i k) i = owM M i - cai (owM M i) (owM M k)) ∧ (k < 4 → owM (caM M i k) k = owM M k + cai (owM M i) (owM M k)) ∧ ∀ j, j < 4 → j ≠ i → j ≠ k → owM (caM M i k) j = owM M j := by
  obtain ⟨c1, c2, c3⟩ := ca_53 (F := M) h
  have x : ∀ j, j < 4 → xM (caM M i k) j = xM M j := fun j hj => xM_c (AGm_53 (fun a ha => caM_row ha)) (ht j hj)
  refine ⟨fun hi => ?_, fun hk => ?_, fun j hj h1 h2 => ?_⟩
  · rw [ow_x, ow_x M i, x i hi, c1, ow_x M i, sub_ad]
  · rw [ow_x, ow_x M k, x k hk, c2, ow_x M k, sub_sb2]
  · rw [ow_x, ow_x M j, x j hj, c3 j h1 h2]
/-- the two carries of a pair, one after the other -/
def c2M (M : FF) (i k : Nat) : FF := caM (caM M i k) k i
def mvI (x y : Int32) : Int32 := carI x y - carI y x
theorem c2_num {x y : Int32} (hx : bo x) (hy : bo y) : cai (y + cai x y) (x - cai x y) = cai y x ∧ bt (x - mvI x y) (if x.toInt ≤ 0 then x.toInt else 0) (if x.toInt ≤ 0 then 0 else x.toInt) ∧ bt (y + mvI x y) (if y.toInt ≤ 0 then y.toInt else 0) (if y.toInt ≤ 0 then 0 else y.toInt) ∧ x - cai x y + cai y x = x - mvI x y ∧ y + cai x y - cai y x = y + mvI x y := by
  have a := cai_i (x := x) hy
  have b := cai_i (x := y) hx
  obtain ⟨x1, x2⟩ := hx
  obtain ⟨y1, y2⟩ := hy
  have e1 : (y + cai x y).toInt = y.toInt + (cai x y).toInt := by
    refine iadd ?_ ?_ <;> (rw [a]; split <;> (try split) <;> (try split) <;> omega)
  have e2 : (x - cai x y).toInt = x.toInt - (cai x y).toInt := by
    refine isub ?_ ?_ <;> (rw [a]; split <;> (try split) <;> (try split) <;> omega)
  have hb2 : bo (x - cai x y) := by
    unfold bo bt
    rw [e2, a]
    split <;> (try split) <;> (try split) <;> omega
  have k1 : cai (y + cai x y) (x - cai x y) = cai y x := by
    apply ieq
    rw [cai_i hb2, b, e1, e2, a]
    split <;> split <;> (try split) <;> (try split) <;> (try split) <;> (try split) <;> (try split) <;> (try split) <;> omega
  have m : mvI x y = cai x y - cai y x := by
    unfold mvI
    rw [car_i ⟨y1, y2⟩, car_i ⟨x1, x2⟩]
  have e3 : (cai x y - cai y x).toInt = (cai x y).toInt - (cai y x).toInt := by
    refine isub ?_ ?_ <;> (rw [a, b]; split <;> split <;> (try split) <;> (try split) <;> (try split) <;> omega)
  have e4 : (x - (cai x y - cai y x)).toInt = x.toInt - ((cai x y).toInt - (cai y x).toInt) := by
    rw [← e3]
    refine isub ?_ ?_ <;> (rw [e3, a, b]; split <;> split <;> (try split) <;> (try split) <;> (try split) <;> omega)
  have e5 : (y + (cai x y - cai y x)).toInt = y.toInt + ((cai x y).toInt - (cai y x).toInt) := by
    rw [← e3]
    refine iadd ?_ ?_ <;> (rw [e3, a, b]; split <;> split <;> (try split) <;> (try split) <;> (try split) <;> omega)
  refine ⟨k1, ?_, ?_, ?_, ?_⟩
  · unfold bt
    rw [m, e4, a, b]
    split <;> split <;> (try split) <;> (try split) <;> (try split) <;> omega
  · unfold bt
    rw [m, e5, a, b]
    split <;> split <;> (try split) <;> (try split) <;> (try split) <;> omega
  · rw [m, sub_sb2]
  · rw [m, Int32.sub_eq_add_neg, Int32.sub_eq_add_neg, Int32.add_assoc]
theorem c2_row {M : FF} {i k a : Nat} (h : a ≠ 53) : c2M M i k a = M a := (caM_row h).trans (caM_row h)
theorem ow_c2 {M : FF} {i k : Nat} (h : i ≠ k) (hi : i < 4) (hk : k < 4) (ht : ∀ j, j < 4 → tM M j ≤ 8) (bi : bo (owM M i)) (bk : bo (owM M k)) : owM (c2M M i k) i = owM M i - mvI (owM M i) (owM M k) ∧ owM (c2M M i k) k = owM M k + mvI (owM M i) (owM M k) ∧ ∀ j, j < 4 → j ≠ i → j ≠ k → owM (c2M M i k) j = owM M j := by
  obtain ⟨a1, a2, a3⟩ := ow_ca (M := M) h ht
  have ht' : ∀ j, j < 4 → tM (caM M i k) j ≤ 8 := fun j hj => by rw [tM_of (show caM M i k 44 j = M 44 j by rw [caM_row (by omega)])]; exact ht j hj
  obtain ⟨b1, b2, b3⟩ := ow_ca (M := caM M i k) (fun q => h q.symm) ht'
  obtain ⟨n1, -, -, n4, n5⟩ := c2_num bi bk
  rw [a1 hi, a2 hk] at b1 b2
  rw [n1] at b1 b2
  refine ⟨?_, ?_, fun j hj q1 q2 => ?_⟩
  · show owM (caM (caM M i k) k i) i = _
    rw [b2 hi, n4]
  · show owM (caM (caM M i k) k i) k = _
    rw [b1 hk, n5]
  · show owM (caM (caM M i k) k i) j = _
    rw [b3 j hj q2 q1, a3 j hj q1 q2]
theorem ec_c2 (M : FF) : ecF M = c2M (c2M M 0 1) 2 3 := rfl
theorem et_row {F : FF} {i k : Nat} (h : k ≠ 42 ∧ k ≠ 43 ∧ k ≠ 44 ∧ k ≠ 47 ∧ k ≠ 48 ∧ k ≠ 49 ∧ k ≠ 50 ∧ k ≠ 53) : etS F i k = F k := by
  unfold etS et6
  simp (disch := omega) only [u2_cell]
theorem etA_row {F : FF} {k : Nat} (h : k ≠ 42 ∧ k ≠ 43 ∧ k ≠ 44 ∧ k ≠ 47 ∧ k ≠ 48 ∧ k ≠ 49 ∧ k ≠ 50 ∧ k ≠ 53) : ∀ i, etA F i k = F k
  | 0 => rfl
  | i + 1 => (et_row h).trans (etA_row h i)
theorem etA_eq {F : FF} {i k : Nat} : ∀ m, i < m → etA F m k i = etS (etA F i) i k i
  | 0, h => absurd h (by omega)
  | m + 1, h => by
    by_cases e : i = m
    · rw [e]; rfl
    · show etS (etA F m) m k i = _
      rw [etS_ne (by omega), etA_eq m (by omega)]
theorem mx_1 {b : Int32} : (if b ≤ 0 then 0 else b) = mx b 0 := by
  apply ieq
  rw [imx, i0]
  by_cases h : b ≤ 0
  · have h2 := ile.mp h
    rw [i0] at h2
    rw [if_pos h, i0]
    split <;> omega
  · have h2 : ¬ b.toInt ≤ 0 := fun q => h (ile.mpr (by rw [i0]; exact q))
    rw [if_neg h]
    split <;> omega
theorem mx_2 {b : Int32} (hb : -2147483647 ≤ b.toInt) : (if 0 ≤ b then 0 else -b) = mx (-b) 0 := by
  apply ieq
  rw [imx, ineg hb, i0]
  by_cases h : 0 ≤ b
  · have h2 := ile.mp h
    rw [i0] at h2
    rw [if_pos h, i0]
    split <;> omega
  · have h2 : ¬ 0 ≤ b.toInt := fun q => h (ile.mpr (by rw [i0]; exact q))
    rw [if_neg h, ineg hb]
    split <;> omega
def MF (M M' : FF) (i : Nat) (b : Int32) : Prop := (∀ k, (39 ≤ k ∧ k ≤ 41 ∨ 54 ≤ k ∧ k ≤ 58) → M' k i = M k i) ∧ (∀ k, (k = 42 ∨ k = 43 ∨ k = 44 ∨ k = 47 ∨ k = 49 ∨ k = 50) → M' k i = 0) ∧ M' 48 i = mx b 0 ∧ M' 53 i = mx (-b) 0
theorem et_MF {F : FF} {i : Nat} {b : Int32} (hi : i < 4) (ht : tM F i ≤ 8) (hb : owM F i = b) (hb2 : -2147483647 ≤ b.toInt) : MF F (etA F 4) i b := by
  have ag : AGm i F (etA F i) := ⟨fun k _ _ _ _ => etA_ne i (Nat.le_refl i), fun j _ => ⟨etA_ne i (by omega), etA_ne i (by omega)⟩, fun j _ => ⟨etA_ne i (by omega), etA_ne i (by omega)⟩, fun j _ => etA_ne i (by omega), etA_row (by omega) i⟩
  have eo : owM (etA F i) i = b := by
    rw [ow_x, xM_c ag ht, etA_ne i (Nat.le_refl i), ← ow_x]
    exact hb
  have en : ∀ k, etA F i k i = F k i := fun k => etA_ne i (Nat.le_refl i)
  unfold MF
  refine ⟨fun k hk => ?_, fun k hk => ?_, ?_, ?_⟩
  · rw [etA_eq 4 hi, et_row (by omega), en]
  · rw [etA_eq 4 hi]
    unfold etS et6
    generalize etA F i = X at *
    rcases hk with e | e | e | e | e | e <;> rw [e] <;> simp (disch := omega) only [u2_cell, u2_eq]
  · rw [etA_eq 4 hi]
    unfold etS
    rw [eo, mx_1]
    generalize etA F i = X at *
    simp (disch := omega) only [u2_cell, u2_eq]
  · rw [etA_eq 4 hi]
    unfold etS
    rw [eo, mx_2 hb2]
    exact u2_eq _ _ _ _
theorem uF_cell {F : FF} {k n a : Nat} {v : Int32} (h : a ≠ k) : uF F k n v a = F a := by funext b; simp [uF, h]
theorem uF_in {F : FF} {k n b : Nat} {v : Int32} (h : b < n) : uF F k n v k b = v := by simp [uF, h]
def CF (C C' : FF) (i : Nat) (b : Int32) : Prop := (∀ j, (j = 3 ∨ j = 4 ∨ j = 5) → C' (4 + 8 * i) j = C (4 + 8 * i) j) ∧ C' (4 + 8 * i) 6 = mx b 0 ∧ C' (4 + 8 * i) 7 = 0 ∧ C' (4 + 8 * i) 8 = 0 ∧ C' (4 + 8 * i) 9 = 0 ∧ C' (4 + 8 * i) 10 = mx (-b) 0 ∧ C' (4 + 8 * i + 1) 1 = 0 ∧ C' (4 + 8 * i + 1) 2 = 0 ∧ (∀ j, j < 8 → C' (4 + 8 * i + 2) j = 0) ∧ C' (4 + 8 * i + 3) 3 = 0 ∧ (∀ j, j < 6 → C' (4 + 8 * i + 5) j = 0) ∧ C' (4 + 8 * i + 7) = C (4 + 8 * i + 7)
theorem bg_CF (C : FF) (i : Nat) (b : Int32) : CF C (bgT C i b) i b := by
  unfold CF bgT
  refine ⟨fun j hj => ?_, ?_, ?_, ?_, ?_, ?_, ?_, ?_, fun j hj => ?_, ?_, fun j hj => ?_, ?_⟩ <;> simp (disch := omega) only [u2_cell, u2_eq, u2_ne, uF_cell, uF_in]
theorem bg_oth {C : FF} {i k : Nat} {b : Int32} (h : k < 4 + 8 * i ∨ 11 + 8 * i < k) : bgT C i b k = C k := by
  unfold bgT
  simp (disch := omega) only [u2_cell, uF_cell]
theorem CF_of {C D C' D' : FF} {i : Nat} {b : Int32} (h : CF C C' i b) (h1 : ∀ k, 4 + 8 * i ≤ k → k ≤ 11 + 8 * i → k ≠ 4 + 8 * i + 6 → D k = C k) (h2 : ∀ k, 4 + 8 * i ≤ k → k ≤ 11 + 8 * i → k ≠ 4 + 8 * i + 6 → D' k = C' k) : CF D D' i b := by
  unfold CF at h ⊢
  rw [h2 (4 + 8 * i) (by omega) (by omega) (by omega), h2 (4 + 8 * i + 1) (by omega) (by omega) (by omega), h2 (4 + 8 * i + 2) (by omega) (by omega) (by omega), h2 (4 + 8 * i + 3) (by omega) (by omega) (by omega), h2 (4 + 8 * i + 5) (by omega) (by omega) (by omega), h2 (4 + 8 * i + 7) (by omega) (by omega) (by omega), h1 (4 + 8 * i) (by omega) (by omega) (by omega), h1 (4 + 8 * i + 7) (by omega) (by omega) (by omega)]
  exact h
theorem en_CF {C : FF} {i k : Nat} {x y : Int32} (h : i < k) (hx : balV C i = x) (hy : balV (balF C i) k = y) : CF C (enP C i k) i (x - mvI x y) ∧ CF C (enP C i k) k (y + mvI x y) ∧ ∀ a, (a < 4 + 8 * i ∨ 11 + 8 * i < a) → (a < 4 + 8 * k ∨ 11 + 8 * k < a) → enP C i k a = C a := by
  have e : enP C i k = bgT (bgT (balF (balF C i) k) i (x - mvI x y)) k (y + mvI x y) := by
    unfold enP mvI
    rw [hx, hy]
  have r : ∀ a, a ≠ 4 + 8 * i + 6 → a ≠ 4 + 8 * k + 6 → balF (balF C i) k a = C a := fun a h1 h2 => (bal_row h2).trans (bal_row h1)
  rw [e]
  clear e hx hy
  generalize balF (balF C i) k = X at *
  generalize x - mvI x y = u
  generalize y + mvI x y = v
  refine ⟨CF_of (bg_CF X i u) (fun a q1 q2 q3 => (r a (by omega) (by omega)).symm) (fun a q1 q2 q3 => bg_oth (by omega)), CF_of (bg_CF (bgT X i u) k v) (fun a q1 q2 q3 => ?_) (fun a q1 q2 q3 => rfl), fun a h1 h2 => ?_⟩
  · rw [bg_oth (by omega), r a (by omega) (by omega)]
  · rw [bg_oth (by omega), bg_oth (by omega), r a (by omega) (by omega)]
theorem end_RS {B P B' P' : Int} {C M C' M' : FF} {i : Nat} {b : Int32} (h : RS B P C M i) (hc : CF C C' i b) (hm : MF M M' i b) (b1 : -P' ≤ b.toInt) (b2 : b.toInt ≤ B') (hB : 0 ≤ B') (hP : 0 ≤ P') (hP2 : P' ≤ 700000000) : RS B' P' C' M' i := by
  obtain ⟨g1, g2, g3, g4, g5⟩ := h
  obtain ⟨m1, m2, m3, m4⟩ := hm
  obtain ⟨c1, c2, c3, c4, c5, c6, c7, c8, c9, c10, c11, c12⟩ := hc
  have t0 : tM M' i = 0 := by unfold tM; rw [m2 44 (by omega)]; decide
  have a0 : aM M' i = 0 := by unfold aM; rw [m2 50 (by omega)]; decide
  have n0 : (0 : Int32) = nI 0 := by decide
  refine ⟨?_, ?_, ?_, ?_, ?_⟩
  · unfold R1 at g1 ⊢
    rw [c1 3 (by omega), c1 4 (by omega), c1 5 (by omega), c4, c5, m1 39 (by omega), m1 40 (by omega), m1 41 (by omega), m2 42 (by omega), m2 43 (by omega)]
    exact ⟨g1.1, g1.2.1, g1.2.2.1, g1.2.2.2.1, g1.2.2.2.2.1, rfl, ⟨by rw [i0]; omega, by rw [i0]; omega⟩, rfl, by rw [i0]; omega⟩
  · unfold R2 bt
    rw [c2, c3, c6, m3, m2 49 (by omega), m4, imx, imx, i0, ineg (by omega)]
    refine ⟨rfl, rfl, rfl, ?_, ?_, ?_, ?_, ?_⟩ <;> (try split) <;> omega
  · unfold R3
    rw [t0, c7, c8, m2 44 (by omega), m2 47 (by omega), sN_congr (g := fun _ => 0) 8 c9]
    refine ⟨rfl, by omega, n0, rfl, fun j hj => ?_, fun j hj => absurd hj (by omega), by rw [i0]; omega, by decide⟩
    rw [c9 j hj, if_neg (fun q => absurd q.1 (by omega))]
  · unfold R4
    rw [a0, c10, m2 50 (by omega)]
    refine ⟨rfl, by omega, n0, fun j hj => absurd hj (by omega), fun j hj => ?_, fun j hj => absurd hj (by omega)⟩
    rw [c11 j hj, if_neg (by omega)]
  · exact R5_of g5 (fun j _ => by rw [c12]) (fun k q1 q2 => m1 k (by omega))
/-! closeWeek -/
theorem enP_row {F : FF} {i k a : Nat} (h1 : a < 4 + 8 * i ∨ 11 + 8 * i < a) (h2 : a < 4 + 8 * k ∨ 11 + 8 * k < a) : enP F i k a = F a := by
  unfold enP
  rw [bg_oth h2, bg_oth h1, bal_row (by omega), bal_row (by omega)]
theorem cw2_row {F : FF} {k : Nat} (h : 36 ≤ k) : cw2 F k = F k := by
  unfold cw2
  rw [u2_cell _ _ _ (by omega), u2_cell _ _ _ (by omega), enP_row (by omega) (by omega), enP_row (by omega) (by omega)]
theorem MF_of {M N M' N' : FF} {i : Nat} {b : Int32} (h : MF M M' i b) (h1 : ∀ k, (39 ≤ k ∧ k ≤ 41 ∨ 54 ≤ k ∧ k ≤ 58) → N k i = M k i) (h2 : ∀ k, 39 ≤ k → k ≤ 58 → N' k i = M' k i) : MF N N' i b := by
  obtain ⟨m1, m2, m3, m4⟩ := h
  exact ⟨fun k hk => by rw [h1 k hk, h2 k (by omega) (by omega)]; exact m1 k hk, fun k hk => by rw [h2 k (by omega) (by omega)]; exact m2 k hk, by rw [h2 48 (by omega) (by omega)]; exact m3, by rw [h2 53 (by omega) (by omega)]; exact m4⟩
theorem ow_b {B P : Int} {C M : FF} {i : Nat} (hG : RG C M) (h : RS B P C M i) (hB : B ≤ 700000000) (hP : P ≤ 700000000) : -P ≤ (owM M i).toInt ∧ (owM M i).toInt ≤ B + 8000000 := by
  obtain ⟨x, e, x1, x2⟩ := (bal_eq hG h hB).2.2.2
  obtain ⟨-, -, -, -, -, -, p1, p2⟩ := h.2.1
  rw [e, isub (by omega) (by omega)]
  omega
theorem en_sim {B P : Int} {C M : FF} (h : RXB B P C M) (hB : B ≤ 650000000) (hB0 : 0 ≤ B) (hP0 : 0 ≤ P) (hP : P ≤ 600000000) (hT : tmN M < 9) : RXB (B + 8000000) P (cw2 C) (enM M) ∧ tmN (enM M) = tmN M + 1 := by
  obtain ⟨hG, hK, hS⟩ := h
  have ht : ∀ j, j < 4 → tM M j ≤ 8 := fun j hj => (hS j hj).2.2.1.2.1
  have ob : ∀ j, j < 4 → -P ≤ (owM M j).toInt ∧ (owM M j).toInt ≤ B + 8000000 := fun j hj => ow_b hG (hS j hj) (by omega) (by omega)
  have oo : ∀ j, j < 4 → bo (owM M j) := fun j hj => by have := ob j hj; exact ⟨by omega, by omega⟩
  -- the program's balances
  have w0 : balV C 0 = owM M 0 := (bal_eq hG (hS 0 (by omega)) (by omega)).1
  have gb : ∀ {D : FF} {i : Nat}, RG D M → RG (balF D i) M := fun {D i} hg => RG_of hg (fun j _ => by rw [bal_row (by omega)]) (fun j _ => by rw [bal_row (by omega)]) (fun j _ _ => by rw [bal_row (by omega)]) (fun j _ => rfl) (fun j _ => rfl) (fun j _ _ => rfl)
  have sb : ∀ {D : FF} {i k : Nat}, k ≠ i → RS B P D M k → RS B P (balF D i) M k := fun {D i k} hne hs => RS_of hs (Int.le_refl _) (Int.le_refl _) ⟨fun a j q1 q2 q3 => by rw [bal_row (by omega)], fun _ _ _ _ _ _ _ => rfl, fun _ _ => ⟨rfl, rfl⟩, fun _ _ => ⟨rfl, rfl⟩⟩
  have w1 : balV (balF C 0) 1 = owM M 1 := (bal_eq (gb hG) (sb (by omega) (hS 1 (by omega))) (by omega)).1
  obtain ⟨f0, f1, fo⟩ := en_CF (C := C) (i := 0) (k := 1) (by omega) w0 w1
  have r1 : ∀ a, (a < 4 ∨ 19 < a) → enP C 0 1 a = C a := fun a ha => fo a (by omega) (by omega)
  have hG1 : RG (enP C 0 1) M := RG_of hG (fun j _ => by rw [r1 2 (by omega)]) (fun j _ => by rw [r1 3 (by omega)]) (fun j _ _ => by rw [r1 0 (by omega)]) (fun j _ => rfl) (fun j _ => rfl) (fun j _ _ => rfl)
  have hS1 : ∀ k, 2 ≤ k → k < 4 → RS B P (enP C 0 1) M k := fun k hk1 hk2 => RS_of (hS k hk2) (Int.le_refl _) (Int.le_refl _) ⟨fun a j q1 q2 q3 => by rw [r1 a (by omega)], fun _ _ _ _ _ _ _ => rfl, fun _ _ => ⟨rfl, rfl⟩, fun _ _ => ⟨rfl, rfl⟩⟩
  have w2 : balV (enP C 0 1) 2 = owM M 2 := (bal_eq hG1 (hS1 2 (by omega) (by omega)) (by omega)).1
  have w3 : balV (balF (enP C 0 1) 2) 3 = owM M 3 := (bal_eq (gb hG1) (sb (by omega) (hS1 3 (by omega) (by omega))) (by omega)).1
  obtain ⟨f2, f3, go⟩ := en_CF (C := enP C 0 1) (i := 2) (k := 3) (by omega) w2 w3
  have r2 : ∀ a, a < 20 → enP (enP C 0 1) 2 3 a = enP C 0 1 a := fun a ha => go a (by omega) (by omega)
  have rw2 : ∀ a, 4 ≤ a → cw2 C a = enP (enP C 0 1) 2 3 a := fun a ha => by unfold cw2; rw [u2_cell _ _ _ (by omega), u2_cell _ _ _ (by omega)]
  have k0 : ∀ a, 0 < a → a < 4 → cw2 C a = C a := fun a h1 h2 => by unfold cw2; rw [u2_cell _ _ _ (by omega), u2_cell _ _ _ (by omega), r2 a (by omega), r1 a (by omega)]
  have k00 : ∀ j, j ≠ 7 → j ≠ 8 → cw2 C 0 j = C 0 j := fun j h1 h2 => by unfold cw2; rw [u2_ne _ _ (by omega), u2_ne _ _ (by omega), r2 0 (by omega), r1 0 (by omega)]
  have k07 : cw2 C 0 7 = 0 := by unfold cw2; rw [u2_ne _ _ (by omega), u2_eq]
  have k08 : cw2 C 0 8 = C 0 8 + 1 := by unfold cw2; rw [u2_eq, u2_ne _ _ (by omega), r2 0 (by omega), r1 0 (by omega)]
  -- the reference's
  obtain ⟨n0, n1, n2⟩ := ow_c2 (M := M) (i := 0) (k := 1) (by omega) (by omega) (by omega) ht (oo 0 (by omega)) (oo 1 (by omega))
  have ht1 : ∀ j, j < 4 → tM (c2M M 0 1) j ≤ 8 := fun j hj => by rw [tM_of (show c2M M 0 1 44 j = M 44 j by rw [c2_row (by omega)])]; exact ht j hj
  have e2 := n2 2 (by omega) (by omega) (by omega)
  have e3 := n2 3 (by omega) (by omega) (by omega)
  obtain ⟨p2, p3, p0⟩ := ow_c2 (M := c2M M 0 1) (i := 2) (k := 3) (by omega) (by omega) (by omega) ht1 (by rw [e2]; exact oo 2 (by omega)) (by rw [e3]; exact oo 3 (by omega))
  rw [e2, e3] at p2 p3
  have p00 := (p0 0 (by omega) (by omega) (by omega)).trans n0
  have p01 := (p0 1 (by omega) (by omega) (by omega)).trans n1
  have ht2 : ∀ j, j < 4 → tM (ecF M) j ≤ 8 := fun j hj => by
    rw [ec_c2, tM_of (show c2M (c2M M 0 1) 2 3 44 j = M 44 j by rw [c2_row (by omega), c2_row (by omega)])]; exact ht j hj
  have er : ∀ k, k ≠ 53 → ecF M k = M k := fun k hk => by rw [ec_c2, c2_row hk, c2_row hk]
  rw [← ec_c2] at p2 p3 p00 p01
  obtain ⟨-, b0, b1, -, -⟩ := c2_num (oo 0 (by omega)) (oo 1 (by omega))
  obtain ⟨-, b2, b3, -, -⟩ := c2_num (oo 2 (by omega)) (oo 3 (by omega))
  have o0 := ob 0 (by omega)
  have o1 := ob 1 (by omega)
  have o2 := ob 2 (by omega)
  have o3 := ob 3 (by omega)
  have bb : ∀ {x y : Int32}, bt x (if y.toInt ≤ 0 then y.toInt else 0) (if y.toInt ≤ 0 then 0 else y.toInt) → -P ≤ y.toInt → y.toInt ≤ B + 8000000 → -P ≤ x.toInt ∧ x.toInt ≤ B + 8000000 := by
    intro x y q z1 z2
    obtain ⟨q1, q2⟩ := q
    by_cases z : y.toInt ≤ 0
    · rw [if_pos z] at q1 q2; omega
    · rw [if_neg z] at q1 q2; omega
  have c0 := bb b0 o0.1 o0.2
  have c1 := bb b1 o1.1 o1.2
  have c2 := bb b2 o2.1 o2.2
  have c3 := bb b3 o3.1 o3.2
  have mr : ∀ k, 37 ≤ k → enM M k = etA (ecF M) 4 k := fun k hk => by unfold enM; rw [u2_cell _ _ _ (by omega), u2_cell _ _ _ (by omega)]
  have m36 : ∀ j, j ≠ 1 → j ≠ 2 → enM M 36 j = M 36 j := fun j h1 h2 => by unfold enM; rw [u2_ne _ _ (by omega), u2_ne _ _ (by omega), etA_row (by omega), er 36 (by omega)]
  have m361 : enM M 36 1 = 0 := by unfold enM; rw [u2_ne _ _ (by omega), u2_eq]
  have m362 : enM M 36 2 = M 36 2 + 1 := by unfold enM; rw [u2_eq, u2_ne _ _ (by omega), etA_row (by omega), er 36 (by omega)]
  obtain ⟨z1, z2, z3, z4, z5, z6⟩ := hK
  have em2 : enM M 36 2 = nI (tmN M + 1) := by rw [m362, z6, nI_succ]
  have et : tmN (enM M) = tmN M + 1 := by
    show (enM M 36 2).toNatClampNeg = _
    rw [em2, clN (by omega)]
  have ew : wkN (enM M) = 0 := by
    show (enM M 36 1).toNatClampNeg = _
    rw [m361]; decide
  refine ⟨⟨?_, ?_, ?_⟩, et⟩
  · exact RG_of hG (fun j _ => by rw [k0 2 (by omega) (by omega)]) (fun j _ => by rw [k0 3 (by omega) (by omega)]) (fun j _ _ => k00 j (by omega) (by omega)) (fun j _ => by rw [mr 37 (by omega), etA_row (by omega), er 37 (by omega)]) (fun j _ => by rw [mr 38 (by omega), etA_row (by omega), er 38 (by omega)]) (fun j _ _ => m36 j (by omega) (by omega))
  · unfold RK
    rw [et, ew, k07, k08, m361, em2, z2, z6]
    exact ⟨rfl, (nI_succ _).symm, by omega, by decide, by omega, rfl⟩
  · have fin : ∀ i b, i < 4 → CF C (enP (enP C 0 1) 2 3) i b → owM (ecF M) i = b → -P ≤ b.toInt → b.toInt ≤ B + 8000000 → RS (B + 8000000) P (cw2 C) (enM M) i := by
      intro i b hi hc hm q1 q2
      have mf := et_MF hi (ht2 i hi) hm (by omega)
      exact end_RS (hS i hi) (CF_of hc (fun a _ _ _ => rfl) (fun a s1 s2 _ => rw2 a (by omega))) (MF_of mf (fun k hk => by rw [er k (by omega)]) (fun k s1 s2 => by rw [mr k (by omega)])) q1 q2 (by omega) hP0 (by omega)
    intro i hi
    match i, hi with
    | 0, _ => exact fin 0 _ (by omega) (CF_of f0 (fun a _ _ _ => rfl) (fun a s1 s2 _ => r2 a (by omega))) p00 c0.1 c0.2
    | 1, _ => exact fin 1 _ (by omega) (CF_of f1 (fun a _ _ _ => rfl) (fun a s1 s2 _ => r2 a (by omega))) p01 c1.1 c1.2
    | 2, _ => exact fin 2 _ (by omega) (CF_of f2 (fun a s1 s2 _ => (r1 a (by omega)).symm) (fun a _ _ _ => rfl)) p2 c2.1 c2.2
    | 3, _ => exact fin 3 _ (by omega) (CF_of f3 (fun a s1 s2 _ => (r1 a (by omega)).symm) (fun a _ _ _ => rfl)) p3 c3.1 c3.2
theorem cw1_sim {B P : Int} {C M M' : FF} (h : RXB B P C M) (hw : wkN M < 15) (m0 : ∀ k, 37 ≤ k → k < 59 → M' k = M k) (m1 : M' 36 1 = M 36 1 + 1) (m2 : ∀ j, 2 ≤ j → M' 36 j = M 36 j) : RXB B P (cw1 C) M' := by
  obtain ⟨hG, ⟨z1, z2, z3, z4, z5, z6⟩, hS⟩ := h
  have c0 : ∀ k, k ≠ 0 → cw1 C k = C k := fun k hk => u2_cell _ _ _ hk
  have c7 : cw1 C 0 7 = C 0 7 + 1 := u2_eq _ _ _ _
  have cn : ∀ j, j ≠ 7 → cw1 C 0 j = C 0 j := fun j hj => u2_ne _ _ (fun q => hj q.2)
  generalize cw1 C = C' at *
  have e1 : M' 36 1 = nI (wkN M + 1) := by rw [m1, z4, nI_succ]
  have ew : wkN M' = wkN M + 1 := by
    show (M' 36 1).toNatClampNeg = _
    rw [e1, clN (by omega)]
  have et : tmN M' = tmN M := tmN_of (m2 2 (by omega))
  refine ⟨RG_of hG (fun j _ => by rw [c0 2 (by omega)]) (fun j _ => by rw [c0 3 (by omega)]) (fun j q1 q2 => cn j (by omega)) (fun j _ => by rw [m0 37 (by omega) (by omega)]) (fun j _ => by rw [m0 38 (by omega) (by omega)]) (fun j q1 q2 => m2 j (by omega)), ?_, fun i hi => RS_of (hS i hi) (Int.le_refl _) (Int.le_refl _) ⟨fun a j _ _ _ => by rw [c0 a (by omega)], fun k q1 q2 _ _ _ _ => by rw [m0 k (by omega) (by omega)], fun j _ => ⟨by rw [m0 45 (by omega) (by omega)], by rw [m0 46 (by omega) (by omega)]⟩, fun j _ => ⟨by rw [m0 51 (by omega) (by omega)], by rw [m0 52 (by omega) (by omega)]⟩⟩⟩
  unfold RK
  rw [et, ew, c7, cn 8 (by omega), e1, m2 2 (by omega), z1, z4]
  exact ⟨(nI_succ _).symm, z2, by omega, rfl, z5, z6⟩
theorem lt15 : ∀ w, w < 16 → (nI w < 15 ↔ w < 15) ∧ (nI w = 15 ↔ w = 15) := by decide
theorem lt9 : ∀ w, w < 10 → (nI w < 9 ↔ w < 9) ∧ (nI w = 9 ↔ w = 9) := by decide
