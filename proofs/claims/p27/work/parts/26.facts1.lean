/-! what holds of the reference's numbers M: the awards' shares one by one -/
theorem fa_B {n : Nat} (hn : n ≤ 512) {C M : FF} (h : RX n C M) {i : Nat} (hi : i < 4) : ∃ B P : Int, RS B P C M i ∧ B ≤ 640000000 ∧ P ≤ 512000000 := ⟨_, _, h.2.2 i hi, (Bmax hn h).1, (Bmax hn h).2⟩
theorem fa_sp {n : Nat} (hn : n ≤ 512) {C M : FF} (h : RX n C M) {i : Nat} (hi : i < 4) : 0 ≤ (spM M i).toInt ∧ (spM M i).toInt ≤ (alM M i).toInt ∧ (alM M i).toInt ≤ 648000000 ∧ (alM M i - spM M i).toInt = (alM M i).toInt - (spM M i).toInt := by
  obtain ⟨B, P, hS, hB, hP⟩ := fa_B hn h hi
  have a := al_i h.1 hS (by omega)
  have s := sp_i h.1 hS (by omega)
  exact ⟨s.1, s.2, by omega, isub (by omega) (by omega)⟩
theorem fa_cr {n : Nat} {C M : FF} (h : RX n C M) {i : Nat} (hi : i < 4) : bt (mcr M i (tM M i)) 0 80 := by
  have h3 := (h.2.2 i hi).2.2.1
  have q := cr_i h3
  rw [← cr_eq h3]
  exact ⟨by omega, by omega⟩
def vK (M : FF) (i : Nat) (un nd : Int32) (k : Nat) : Int := (usV M i k (usK M i k (un, nd, 0))).toInt
def vS (M : FF) (i : Nat) (un nd : Int32) : Nat → Int
  | 0 => 0
  | k + 1 => vS M i un nd k + vK M i un nd k
theorem uk_all {M : FF} {i : Nat} {un nd : Int32} (hb : ∀ k, usI M i k = true → 0 ≤ (M 52 (6 * i + k % 6)).toInt) (hu : 0 ≤ un.toInt) (hd : 0 ≤ nd.toInt) : ∀ k, k ≤ 18 → (usK M i k (un, nd, 0)).2.2 = un - (usK M i k (un, nd, 0)).1 ∧ 0 ≤ (usK M i k (un, nd, 0)).1.toInt ∧ (usK M i k (un, nd, 0)).1.toInt ≤ un.toInt ∧ 0 ≤ (usK M i k (un, nd, 0)).2.1.toInt ∧ (usK M i k (un, nd, 0)).1.toInt = un.toInt - vS M i un nd k
  | 0, _ => ⟨(Int32.sub_self un).symm, hu, Int.le_refl _, hd, by show un.toInt = un.toInt - 0; omega⟩
  | k + 1, hk => by
    obtain ⟨h1, h2, h3, h4, h5⟩ := uk_all hb hu hd k (by omega)
    have q := usS_b (M := M) (i := i) (k := k) (by omega) (hb k) h1 h2 h3 h4
    have v := usV_b (M := M) (i := i) (k := k) (by omega) (hb k) h2 h4
    refine ⟨q.1, q.2.1, q.2.2.1, q.2.2.2, ?_⟩
    show ((usK M i k (un, nd, 0)).1 - usV M i k (usK M i k (un, nd, 0))).toInt = un.toInt - (vS M i un nd k + vK M i un nd k)
    have hlt := Int32.toInt_lt un
    rw [isub (by omega) (by omega), h5]
    unfold vK
    omega
theorem vK_b {M : FF} {i : Nat} {un nd : Int32} (hb : ∀ k, usI M i k = true → 0 ≤ (M 52 (6 * i + k % 6)).toInt) (hu : 0 ≤ un.toInt) (hd : 0 ≤ nd.toInt) {k : Nat} (hk : k < 18) : 0 ≤ vK M i un nd k ∧ (usI M i k = false → vK M i un nd k = 0) ∧ (usI M i k = true → vK M i un nd k ≤ (M 52 (6 * i + k % 6)).toInt) := by
  obtain ⟨h1, h2, h3, h4, h5⟩ := uk_all hb hu hd k (by omega)
  have v := usV_b (M := M) (i := i) (k := k) hk (hb k) h2 h4
  refine ⟨v.1, fun e => ?_, fun e => ?_⟩
  · have u : ∀ lf, us0 M i k lf = 0 := fun lf => by
      unfold us0
      rw [if_neg (by rw [e]; decide)]
    unfold vK usV
    rw [u]
    split
    · rw [mn_0 h4]; exact i0
    · exact i0
  · unfold vK usV us0
    rw [if_pos e]
    split
    · rw [imn, imn]; split <;> (try split) <;> omega
    · rw [imn]; split <;> omega
theorem vS_m {M : FF} {i : Nat} {un nd : Int32} (hb : ∀ k, usI M i k = true → 0 ≤ (M 52 (6 * i + k % 6)).toInt) (hu : 0 ≤ un.toInt) (hd : 0 ≤ nd.toInt) : 0 ≤ vS M i un nd 18 ∧ vS M i un nd 18 ≤ un.toInt ∧ ((usK M i 18 (un, nd, 0)).2.2).toInt = vS M i un nd 18 := by
  obtain ⟨h1, h2, h3, h4, h5⟩ := uk_all hb hu hd 18 (by omega)
  have hlt := Int32.toInt_lt un
  have e : (usK M i 18 (un, nd, 0)).2.2.toInt = un.toInt - (usK M i 18 (un, nd, 0)).1.toInt := by rw [h1]; exact isub (by omega) (by omega)
  exact ⟨by omega, by omega, by omega⟩
/-- a share by the award's number j -/
def wK (M : FF) (i : Nat) (un nd : Int32) (j : Nat) : Int := vK M i un nd j + vK M i un nd (6 + j) + vK M i un nd (12 + j)
def wS (M : FF) (i : Nat) (un nd : Int32) : Nat → Int
  | 0 => 0
  | j + 1 => wS M i un nd j + wK M i un nd j
theorem wS_6 (M : FF) (i : Nat) (un nd : Int32) : wS M i un nd 6 = vS M i un nd 18 := by
  simp only [wS, wK, vS, Nat.reduceAdd]
  omega
theorem usI_6 {M : FF} {i j r : Nat} (hj : j < 6) : usI M i (6 * r + j) = (decide (j < aM M i) && decide (M 51 (6 * i + j) = nI r)) := by
  unfold usI
  rw [show (6 * r + j) % 6 = j by omega, show (6 * r + j) / 6 = r by omega]
theorem nI3 {a b : Nat} (ha : a < 3) (hb : b < 3) (h : nI a = nI b) : a = b := nI_inj (by omega) (by omega) h
theorem wK_us {M : FF} {i : Nat} {un nd : Int32} (hb : ∀ k, usI M i k = true → 0 ≤ (M 52 (6 * i + k % 6)).toInt) (hu : 0 ≤ un.toInt) (hd : 0 ≤ nd.toInt) {j r : Nat} (h6 : aM M i ≤ 6) (hj : j < aM M i) (hr : r < 3) (hm : M 51 (6 * i + j) = nI r) : wK M i un nd j = vK M i un nd (6 * r + j) := by
  have z : ∀ q, q < 3 → q ≠ r → vK M i un nd (6 * q + j) = 0 := fun q hq hne => (vK_b hb hu hd (by omega)).2.1 (by
    rw [usI_6 (by omega), hm, decide_eq_false (p := nI r = nI q) (fun e => hne (nI3 hr hq e).symm), Bool.and_false])
  have z0 := z 0 (by omega)
  have z1 := z 1 (by omega)
  have z2 := z 2 (by omega)
  simp only [Nat.mul_zero, Nat.zero_add, Nat.mul_one, show 6 * 2 = 12 from rfl] at z0 z1 z2
  unfold wK
  match r, hr with
  | 0, _ => rw [z1 (by omega), z2 (by omega)]; simp
  | 1, _ => rw [z0 (by omega), z2 (by omega)]; simp
  | 2, _ => rw [z0 (by omega), z1 (by omega)]; simp
theorem wK_0 {M : FF} {i : Nat} {un nd : Int32} (hb : ∀ k, usI M i k = true → 0 ≤ (M 52 (6 * i + k % 6)).toInt) (hu : 0 ≤ un.toInt) (hd : 0 ≤ nd.toInt) {j : Nat} (hj : ¬ j < aM M i) (h6 : j < 6) : wK M i un nd j = 0 := by
  have z : ∀ q, q < 3 → vK M i un nd (6 * q + j) = 0 := fun q hq => (vK_b hb hu hd (by omega)).2.1 (by
    rw [usI_6 h6, decide_eq_false hj, Bool.false_and])
  have z0 := z 0 (by omega)
  have z1 := z 1 (by omega)
  have z2 := z 2 (by omega)
  simp only [Nat.mul_zero, Nat.zero_add, Nat.mul_one, show 6 * 2 = 12 from rfl] at z0 z1 z2
  unfold wK
  rw [z0, z1, z2]
  rfl
theorem wK_p {M : FF} {i : Nat} {un nd : Int32} (hb : ∀ k, usI M i k = true → 0 ≤ (M 52 (6 * i + k % 6)).toInt) (hu : 0 ≤ un.toInt) (hd : 0 ≤ nd.toInt) {j : Nat} (hj : j < 6) : 0 ≤ wK M i un nd j := by
  have a := (vK_b hb hu hd (k := j) (by omega)).1
  have b := (vK_b hb hu hd (k := 6 + j) (by omega)).1
  have c := (vK_b hb hu hd (k := 12 + j) (by omega)).1
  unfold wK
  omega
theorem wS_to {M : FF} {i : Nat} {un nd : Int32} (hb : ∀ k, usI M i k = true → 0 ≤ (M 52 (6 * i + k % 6)).toInt) (hu : 0 ≤ un.toInt) (hd : 0 ≤ nd.toInt) {m : Nat} : ∀ d, m + d = 6 → 0 ≤ wS M i un nd 6 - wS M i un nd m
  | 0, e => by rw [show m = 6 by omega]; omega
  | d + 1, e => by
    have q := wS_to hb hu hd (m := m + 1) d (by omega)
    have p := wK_p hb hu hd (un := un) (nd := nd) (j := m) (by omega)
    have e1 : wS M i un nd (m + 1) = wS M i un nd m + wK M i un nd m := rfl
    omega
theorem wS_cut {M : FF} {i : Nat} {un nd : Int32} (hb : ∀ k, usI M i k = true → 0 ≤ (M 52 (6 * i + k % 6)).toInt) (hu : 0 ≤ un.toInt) (hd : 0 ≤ nd.toInt) : ∀ d, aM M i + d ≤ 6 → wS M i un nd (aM M i + d) = wS M i un nd (aM M i)
  | 0, _ => rfl
  | d + 1, e => by
    have q := wS_cut hb hu hd (un := un) (nd := nd) d (by omega)
    show wS M i un nd (aM M i + d) + wK M i un nd (aM M i + d) = _
    rw [q, wK_0 hb hu hd (by omega) (by omega)]
    omega
abbrev unM (M : FF) (i : Nat) : Int32 := alM M i - spM M i
abbrev usF (M : FF) (i : Nat) : Nat → Int32 := fun j => usR M i (nI j)
theorem fa_hb {n : Nat} {C M : FF} (h : RX n C M) {i : Nat} (hi : i < 4) : ∀ k, usI M i k = true → 0 ≤ (M 52 (6 * i + k % 6)).toInt := fun _ => usI_am (h.2.2 i hi).2.2.2.1
theorem fa_nd {n : Nat} {C M : FF} (h : RX n C M) {i : Nat} (hi : i < 4) : 0 ≤ (M 41 i).toInt := (h.2.2 i hi).1.2.2.2.2.1
theorem fa_us {n : Nat} (hn : n ≤ 512) {C M : FF} (h : RX n C M) {i : Nat} (hi : i < 4) {j : Nat} (hj : j < aM M i) : (usR M i (nI j)).toInt = wK M i (unM M i) (M 41 i) j ∧ 0 ≤ (usR M i (nI j)).toInt ∧ (usR M i (nI j)).toInt ≤ (M 52 (6 * i + j)).toInt := by
  have s := fa_sp hn h hi
  have hb := fa_hb h hi
  have hd := fa_nd h hi
  have h6 := aw_6 h hi
  obtain ⟨r, hr, em⟩ := aw_r h hi hj
  have hu : 0 ≤ (unM M i).toInt := by show 0 ≤ (alM M i - spM M i).toInt; omega
  have e1 : usR M i (nI j) = usV M i (6 * r + j) (usK M i (6 * r + j) (unM M i, M 41 i, 0)) := usL_at h6 hj hr em (unM M i, M 41 i, 0) 18 0 (by omega) (by omega) (by omega)
  have e2 : (usR M i (nI j)).toInt = vK M i (unM M i) (M 41 i) (6 * r + j) := by rw [e1]; rfl
  have q := vK_b hb hu hd (un := unM M i) (nd := M 41 i) (k := 6 * r + j) (by omega)
  have hI : usI M i (6 * r + j) = true := by rw [usI_6 (by omega), decide_eq_true hj, decide_eq_true em]; rfl
  have q3 := q.2.2 hI
  rw [show (6 * r + j) % 6 = j by omega] at q3
  exact ⟨by rw [e2, wK_us hb hu hd h6 hj hr em], by rw [e2]; exact q.1, by rw [e2]; exact q3⟩
theorem fa_ai {n : Nat} (hn : n ≤ 512) {C M : FF} (h : RX n C M) {i : Nat} (hi : i < 4) : ∀ m, m ≤ aM M i → (tS (usF M i) m).toInt = wS M i (unM M i) (M 41 i) m ∧ 0 ≤ wS M i (unM M i) (M 41 i) m ∧ wS M i (unM M i) (M 41 i) m ≤ (unM M i).toInt := by
  have s := fa_sp hn h hi
  have hb := fa_hb h hi
  have hd := fa_nd h hi
  have h6 := aw_6 h hi
  have hu : 0 ≤ (unM M i).toInt := by show 0 ≤ (alM M i - spM M i).toInt; omega
  have top := (vS_m hb hu hd).2.1
  rw [← wS_6] at top
  have hlt := Int32.toInt_lt (unM M i)
  intro m
  induction m with
  | zero => exact fun _ => ⟨i0, Int.le_refl _, hu⟩
  | succ m ih =>
    intro hm
    obtain ⟨a, b, c⟩ := ih (by omega)
    have u := fa_us hn h hi (j := m) (by omega)
    have t := wS_to hb hu hd (un := unM M i) (nd := M 41 i) (m := m + 1) (5 - m) (by omega)
    have e1 : wS M i (unM M i) (M 41 i) (m + 1) = wS M i (unM M i) (M 41 i) m + wK M i (unM M i) (M 41 i) m := rfl
    refine ⟨?_, by omega, by omega⟩
    show (tS (usF M i) m + usR M i (nI m)).toInt = _
    rw [iadd (by omega) (by omega), a, u.1, e1]
theorem fa_tot {n : Nat} (hn : n ≤ 512) {C M : FF} (h : RX n C M) {i : Nat} (hi : i < 4) : tS (usF M i) (aM M i) = usR M i (-1) ∧ (tS (usF M i) (aM M i)).toInt ≤ (unM M i).toInt := by
  have s := fa_sp hn h hi
  have hb := fa_hb h hi
  have hd := fa_nd h hi
  have h6 := aw_6 h hi
  have hu : 0 ≤ (unM M i).toInt := by show 0 ≤ (alM M i - spM M i).toInt; omega
  have a := fa_ai hn h hi (aM M i) (Nat.le_refl _)
  have c := wS_cut hb hu hd (un := unM M i) (nd := M 41 i) (6 - aM M i) (by omega)
  rw [show aM M i + (6 - aM M i) = 6 by omega, wS_6] at c
  refine ⟨ieq ?_, by omega⟩
  rw [a.1, ← c, ← (vS_m hb hu hd).2.2]
  exact (congrArg Int32.toInt (usL_m1 M i (unM M i, M 41 i, 0))).symm
theorem fa_ow {n : Nat} (hn : n ≤ 512) {C M : FF} (h : RX n C M) {i : Nat} (hi : i < 4) : owM M i = alM M i - spM M i - tS (usF M i) (aM M i) - M 53 i := by
  rw [(fa_tot hn h hi).1]
  rfl
/-- what is left of the charges, as the charges grow -/
theorem lf_m {M : FF} {i : Nat} {un un' nd : Int32} (hb : ∀ k, usI M i k = true → 0 ≤ (M 52 (6 * i + k % 6)).toInt) (hu : 0 ≤ un.toInt) (hd : 0 ≤ nd.toInt) (hle : un.toInt ≤ un'.toInt) : ∀ k, k ≤ 18 → vS M i un nd k ≤ vS M i un' nd k ∧ vS M i un' nd k - vS M i un nd k ≤ un'.toInt - un.toInt ∧ (k ≤ 6 → (usK M i k (un, nd, 0)).2.1.toInt = nd.toInt - vS M i un nd k ∧ (usK M i k (un', nd, 0)).2.1.toInt = nd.toInt - vS M i un' nd k)
  | 0, _ => ⟨Int.le_refl _, by show (0 : Int) - 0 ≤ _; omega, fun _ => ⟨by show nd.toInt = nd.toInt - 0; omega, by show nd.toInt = nd.toInt - 0; omega⟩⟩
  | k + 1, hk => by
    obtain ⟨p1, p2, p3⟩ := lf_m hb hu hd hle k (by omega)
    obtain ⟨-, a2, a3, a4, a5⟩ := uk_all hb hu hd k (by omega)
    obtain ⟨-, b2, b3, b4, b5⟩ := uk_all hb (un := un') (by omega) hd k (by omega)
    have va := vK_b hb hu hd (k := k) (by omega)
    have vb := vK_b hb (un := un') (by omega) hd (k := k) (by omega)
    have e1 : vS M i un nd (k + 1) = vS M i un nd k + vK M i un nd k := rfl
    have e2 : vS M i un' nd (k + 1) = vS M i un' nd k + vK M i un' nd k := rfl
    have hz := nIz (k := k) (by omega)
    have g1 : (usK M i (k + 1) (un, nd, 0)).2.1 = (usK M i k (un, nd, 0)).2.1 - (if nI (k / 6) = 0 then usV M i k (usK M i k (un, nd, 0)) else 0) := rfl
    have g2 : (usK M i (k + 1) (un', nd, 0)).2.1 = (usK M i k (un', nd, 0)).2.1 - (if nI (k / 6) = 0 then usV M i k (usK M i k (un', nd, 0)) else 0) := rfl
    have w1 := usV_b (M := M) (i := i) (k := k) (by omega) (hb k) a2 a4
    have w2 := usV_b (M := M) (i := i) (k := k) (by omega) (hb k) b2 b4
    have l1 := Int32.toInt_lt (usK M i k (un, nd, 0)).2.1
    have l2 := Int32.toInt_lt (usK M i k (un', nd, 0)).2.1
    have gg : k + 1 ≤ 6 → (usK M i (k + 1) (un, nd, 0)).2.1.toInt = nd.toInt - vS M i un nd (k + 1) ∧ (usK M i (k + 1) (un', nd, 0)).2.1.toInt = nd.toInt - vS M i un' nd (k + 1) := fun h6 => by
      obtain ⟨q1, q2⟩ := p3 (by omega)
      have k0 : k / 6 = 0 := by omega
      have x1 := w1.2.2 k0
      have x2 := w2.2.2 k0
      rw [g1, g2, if_pos (hz.mpr k0), if_pos (hz.mpr k0), isub (by omega) (by omega), isub (by omega) (by omega), e1, e2, q1, q2]
      unfold vK
      omega
    cases hI : usI M i k with
    | false =>
      have x1 := va.2.1 hI
      have x2 := vb.2.1 hI
      exact ⟨by omega, by omega, gg⟩
    | true =>
      by_cases k0 : k / 6 = 0
      · obtain ⟨q1, q2⟩ := p3 (by omega)
        have f1 : vK M i un nd k = (mn (mn (M 52 (6 * i + k % 6)) (usK M i k (un, nd, 0)).1) (usK M i k (un, nd, 0)).2.1).toInt := by unfold vK usV us0; rw [if_pos (hz.mpr k0), if_pos hI]
        have f2 : vK M i un' nd k = (mn (mn (M 52 (6 * i + k % 6)) (usK M i k (un', nd, 0)).1) (usK M i k (un', nd, 0)).2.1).toInt := by unfold vK usV us0; rw [if_pos (hz.mpr k0), if_pos hI]
        rw [imn, imn] at f1 f2
        refine ⟨?_, ?_, gg⟩
        · rw [e1, e2, f1, f2]
          split <;> (try split) <;> (try split) <;> (try split) <;> omega
        · rw [e1, e2, f1, f2]
          split <;> (try split) <;> (try split) <;> (try split) <;> omega
      · have f1 : vK M i un nd k = (mn (M 52 (6 * i + k % 6)) (usK M i k (un, nd, 0)).1).toInt := by unfold vK usV us0; rw [if_neg (fun z => k0 (hz.mp z)), if_pos hI]
        have f2 : vK M i un' nd k = (mn (M 52 (6 * i + k % 6)) (usK M i k (un', nd, 0)).1).toInt := by unfold vK usV us0; rw [if_neg (fun z => k0 (hz.mp z)), if_pos hI]
        rw [imn] at f1 f2
        refine ⟨?_, ?_, gg⟩
        · rw [e1, e2, f1, f2]
          split <;> (try split) <;> omega
        · rw [e1, e2, f1, f2]
          split <;> (try split) <;> omega
theorem usI_c {M M' : FF} {i : Nat} (h0 : M' 50 i = M 50 i) (h1 : M' 51 = M 51) (k : Nat) : usI M' i k = usI M i k := by unfold usI aM; rw [h0, h1]
theorem usV_c {M M' : FF} {i : Nat} (h0 : M' 50 i = M 50 i) (h1 : M' 51 = M 51) (h2 : M' 52 = M 52) (k : Nat) (s : TM) : usV M' i k s = usV M i k s := by unfold usV us0; rw [usI_c h0 h1, h2]
theorem usK_c {M M' : FF} {i : Nat} (h0 : M' 50 i = M 50 i) (h1 : M' 51 = M 51) (h2 : M' 52 = M 52) (s : TM) : ∀ k, usK M' i k s = usK M i k s
  | 0 => rfl
  | k + 1 => by
    show usS M' i k (usK M' i k s) = usS M i k (usK M i k s)
    rw [usK_c h0 h1 h2 s k]
    unfold usS
    rw [usV_c h0 h1 h2]
theorem owM_i {n : Nat} (hn : n ≤ 512) {C M : FF} (h : RX n C M) {i : Nat} (hi : i < 4) : (owM M i).toInt = (unM M i).toInt - vS M i (unM M i) (M 41 i) 18 - (M 53 i).toInt := by
  have s := fa_sp hn h hi
  have hb := fa_hb h hi
  have hd := fa_nd h hi
  have hu : 0 ≤ (unM M i).toInt := by show 0 ≤ (alM M i - spM M i).toInt; omega
  have v := vS_m hb hu hd
  obtain ⟨B, P, hS, hB, hP⟩ := fa_B hn h hi
  have p1 := hS.2.1.2.2.2.2.2.2.1
  have p2 := hS.2.1.2.2.2.2.2.2.2
  have e : usR M i (-1) = (usK M i 18 (unM M i, M 41 i, 0)).2.2 := usL_m1 M i (unM M i, M 41 i, 0)
  have hu2 : (unM M i).toInt ≤ 648000000 := by show (alM M i - spM M i).toInt ≤ _; omega
  show (unM M i - usR M i (-1) - M 53 i).toInt = _
  rw [e, isub (by rw [isub (by omega) (by omega)]; omega) (by rw [isub (by omega) (by omega)]; omega), isub (by omega) (by omega), v.2.2]
