/-! whole numbers of 32 bits read as integers -/
theorem i0 : (0 : Int32).toInt = 0 := by decide
theorem i1 : (1 : Int32).toInt = 1 := by decide
theorem i2 : (2 : Int32).toInt = 2 := by decide
theorem i16 : (16 : Int32).toInt = 16 := by decide
theorem i10 : (10 : Int32).toInt = 10 := by decide
theorem iN {n : Nat} (h : n < 2 ^ 31) : (nI n).toInt = n := by
  show (Int32.ofNat n).toInt = n
  rw [Int32.toInt_ofNat_of_lt h]
theorem iadd {a b : Int32} (h1 : -2147483648 ≤ a.toInt + b.toInt) (h2 : a.toInt + b.toInt ≤ 2147483647) : (a + b).toInt = a.toInt + b.toInt := by
  rw [Int32.toInt_add]
  exact Int.bmod_eq_of_le (by omega) (by omega)
theorem isub {a b : Int32} (h1 : -2147483648 ≤ a.toInt - b.toInt) (h2 : a.toInt - b.toInt ≤ 2147483647) : (a - b).toInt = a.toInt - b.toInt := by
  rw [Int32.toInt_sub]
  exact Int.bmod_eq_of_le (by omega) (by omega)
theorem imul {a b : Int32} (h1 : -2147483648 ≤ a.toInt * b.toInt) (h2 : a.toInt * b.toInt ≤ 2147483647) : (a * b).toInt = a.toInt * b.toInt := by
  rw [Int32.toInt_mul]
  exact Int.bmod_eq_of_le (by omega) (by omega)
theorem ineg {a : Int32} (h1 : -2147483647 ≤ a.toInt) : (-a).toInt = -a.toInt := by
  have := a.toInt_lt
  rw [Int32.toInt_neg]
  exact Int.bmod_eq_of_le (by omega) (by omega)
theorem ile {a b : Int32} : a ≤ b ↔ a.toInt ≤ b.toInt := Int32.le_iff_toInt_le
theorem ilt {a b : Int32} : a < b ↔ a.toInt < b.toInt := Int32.lt_iff_toInt_lt
theorem ieq {a b : Int32} (h : a.toInt = b.toInt) : a = b := Int32.toInt_inj.mp h
theorem imn (a b : Int32) : (mn a b).toInt = if b.toInt < a.toInt then b.toInt else a.toInt := by
  unfold mn
  by_cases h : b < a
  · rw [if_pos h, if_pos (ilt.mp h)]
  · rw [if_neg h, if_neg (fun q => h (ilt.mpr q))]
theorem imx (a b : Int32) : (mx a b).toInt = if a.toInt < b.toInt then b.toInt else a.toInt := by
  unfold mx
  by_cases h : a < b
  · rw [if_pos h, if_pos (ilt.mp h)]
  · rw [if_neg h, if_neg (fun q => h (ilt.mpr q))]
theorem nI0 : nI 0 = 0 := by decide
theorem mn_c (a b : Int32) : mn a b = mn b a := by
  apply ieq
  rw [imn, imn]
  split <;> split <;> omega
theorem nI_inj {a b : Nat} (ha : a < 2 ^ 31) (hb : b < 2 ^ 31) (h : nI a = nI b) : a = b := by
  have := congrArg Int32.toInt h
  rw [iN ha, iN hb] at this
  omega
/-! prices -/
theorem mulB {a b A B : Int} (h1 : 0 ≤ a) (h2 : a ≤ A) (h3 : 0 ≤ b) (h4 : b ≤ B) : 0 ≤ a * b ∧ a * b ≤ A * B := ⟨Int.mul_nonneg h1 h3, Int.mul_le_mul h2 h4 h3 (by omega)⟩
def cnt (f t c : Int) : Int := if f < c then (if t < c then f + c - t else f) else c
theorem cnt_b {f t c : Int} (h1 : 1 ≤ f) (h2 : f ≤ t) (h3 : 0 ≤ c) : 0 ≤ cnt f t c ∧ cnt f t c ≤ c := by
  unfold cnt; split
  · split <;> omega
  · omega
theorem cnt_m {f t c d : Int} (h1 : 1 ≤ f) (h2 : f ≤ t) (h3 : 0 ≤ d) (h4 : d ≤ c) : cnt f t d ≤ cnt f t c ∧ cnt f t c - cnt f t d ≤ c - d := by
  unfold cnt
  split <;> split <;> (try split) <;> (try split) <;> omega
theorem pcl_i {f t c r : Int32} (h1 : 1 ≤ f.toInt) (h2 : f.toInt ≤ t.toInt) (h3 : t.toInt ≤ 30) (hc : bt c 0 80) (hr : bt r 0 100000) : (pcl f t c r).toInt = cnt f.toInt t.toInt c.toInt * r.toInt ∧ 0 ≤ cnt f.toInt t.toInt c.toInt ∧ cnt f.toInt t.toInt c.toInt ≤ c.toInt := by
  obtain ⟨c1, c2⟩ := hc
  obtain ⟨r1, r2⟩ := hr
  have hb := cnt_b h1 h2 c1
  refine ⟨?_, hb⟩
  have hm := mulB hb.1 (Int.le_trans hb.2 c2) r1 r2
  unfold pcl
  unfold cnt at hm ⊢
  by_cases q : f < c
  · have q1 := ilt.mp q
    rw [if_pos q, if_pos q1] at *
    by_cases z : t < c
    · have z1 := ilt.mp z
      rw [if_pos z]
      rw [if_pos z1] at hm ⊢
      have e1 : (f + c).toInt = f.toInt + c.toInt := iadd (by omega) (by omega)
      have e2 : (f + c - t).toInt = f.toInt + c.toInt - t.toInt := by rw [isub (by rw [e1]; omega) (by rw [e1]; omega), e1]
      rw [imul (by rw [e2]; omega) (by rw [e2]; omega), e2]
    · have z1 : ¬ t.toInt < c.toInt := fun w => z (ilt.mpr w)
      rw [if_neg z]
      rw [if_neg z1] at hm ⊢
      rw [imul (by omega) (by omega)]
  · have q1 : ¬ f.toInt < c.toInt := fun w => q (ilt.mpr w)
    rw [if_neg q]
    rw [if_neg q1] at hm ⊢
    rw [imul (by omega) (by omega)]
def tS (f : Nat → Int32) : Nat → Int32
  | 0 => 0
  | n + 1 => tS f n + f n
theorem tS_congr {f g : Nat → Int32} : ∀ n, (∀ j, j < n → f j = g j) → tS f n = tS g n
  | 0, _ => rfl
  | n + 1, h => by
    show tS f n + f n = tS g n + g n
    rw [tS_congr n (fun j hj => h j (by omega)), h n (by omega)]
theorem tS_cut {f : Nat → Int32} {t : Nat} : ∀ d, (∀ j, t ≤ j → j < t + d → f j = 0) → tS f (t + d) = tS f t
  | 0, _ => rfl
  | d + 1, h => by
    show tS f (t + d) + f (t + d) = tS f t
    rw [h (t + d) (by omega) (by omega), Int32.add_zero]
    exact tS_cut d (fun j q1 q2 => h j q1 (by omega))
theorem tS_8 (f : Nat → Int32) : tot8 f = tS f 8 := rfl
theorem tS_6 (f : Nat → Int32) : tot6 f = tS f 6 := rfl
theorem tS_i {f : Nat → Int32} {K : Int} : ∀ n, (∀ j, j < n → bt (f j) 0 K) → K * (n : Int) ≤ 2147483647 → 0 ≤ K → (tS f n).toInt = sN f n ∧ 0 ≤ sN f n ∧ sN f n ≤ K * (n : Int)
  | 0, _, _, _ => ⟨i0, by show (0 : Int) ≤ 0; omega, by show (0 : Int) ≤ _; simp⟩
  | n + 1, h, hK, h0 => by
    have e : K * ((n + 1 : Nat) : Int) = K * (n : Int) + K := by rw [Int.natCast_add, Int.mul_add]; simp
    rw [e] at hK ⊢
    obtain ⟨q1, q2, q3⟩ := tS_i n (fun j hj => h j (by omega)) (by omega) h0
    obtain ⟨p1, p2⟩ := h n (by omega)
    show (tS f n + f n).toInt = sN f n + (f n).toInt ∧ 0 ≤ sN f n + (f n).toInt ∧ sN f n + (f n).toInt ≤ _
    rw [iadd (by omega) (by omega)]
    omega
theorem mcr_tS (M : FF) (i : Nat) : ∀ n, mcr M i n = tS (fun j => if M 46 (8 * i + j) = 0 then M 45 (8 * i + j) else 0) n
  | 0 => rfl
  | n + 1 => by
    show mcr M i n + _ = tS _ n + _
    rw [mcr_tS M i n]
theorem saM_tS (M : FF) (i : Nat) : ∀ n, saM M i n = tS (fun j => M 52 (6 * i + j)) n
  | 0 => rfl
  | n + 1 => by
    show saM M i n + _ = tS _ n + _
    rw [saM_tS M i n]
theorem cr_eq {C M : FF} {i : Nat} (h : R3 C M i) : tot8 (C (4 + 8 * i + 2)) = mcr M i (tM M i) := by
  obtain ⟨h1, h2, h3, h4, h5, h6, h7, h8⟩ := h
  rw [tS_8, mcr_tS, show tS (C (4 + 8 * i + 2)) 8 = tS (C (4 + 8 * i + 2)) (tM M i + (8 - tM M i)) by rw [Nat.add_sub_cancel' h2], tS_cut _ (fun j q1 q2 => by rw [h5 j (by omega), if_neg (fun z => absurd z.1 (by omega))])]
  refine tS_congr _ (fun j hj => ?_)
  rw [h5 j (by omega)]
  by_cases z : M 46 (8 * i + j) = 0
  · rw [if_pos ⟨hj, z⟩, if_pos z]
  · rw [if_neg (fun q => z q.2), if_neg z]
theorem cr_b {C M : FF} {i : Nat} (h : R3 C M i) : ∀ j, j < 8 → bt (C (4 + 8 * i + 2) j) 0 10 := by
  obtain ⟨h1, h2, h3, h4, h5, h6, h7, h8⟩ := h
  intro j hj
  rw [h5 j hj]
  by_cases z : j < tM M i ∧ M 46 (8 * i + j) = 0
  · rw [if_pos z]
    have := h6 j z.1 z.2
    exact ⟨by have := this.1; omega, this.2⟩
  · rw [if_neg z]
    exact ⟨by rw [i0]; omega, by rw [i0]; omega⟩
theorem cr_i {C M : FF} {i : Nat} (h : R3 C M i) : (tot8 (C (4 + 8 * i + 2))).toInt = sN (C (4 + 8 * i + 2)) 8 ∧ 0 ≤ sN (C (4 + 8 * i + 2)) 8 ∧ sN (C (4 + 8 * i + 2)) 8 ≤ 80 := by
  have := tS_i (f := C (4 + 8 * i + 2)) (K := 10) 8 (cr_b h) (by omega) (by omega)
  rw [tS_8]
  omega
theorem rt_eq {C M : FF} {i : Nat} (hG : RG C M) (h : R1 C M i) : rtC C i = rtM M i ∧ bt (rtM M i) 0 100000 := by
  unfold rtC rtM
  rw [h.1, h.2.2.1, raA_p (poR_p (wi_b01 h.2.1)) (plc_lt _ _)]
  exact hG.1 _ (plc_lt _ _)
theorem pr_i {C M : FF} {i : Nat} (hG : RG C M) (h : R1 C M i) {c : Int32} (hc : bt c 0 80) : (prM M i c).toInt = cnt (M 36 4).toInt (M 36 5).toInt c.toInt * (rtM M i).toInt ∧ 0 ≤ cnt (M 36 4).toInt (M 36 5).toInt c.toInt ∧ cnt (M 36 4).toInt (M 36 5).toInt c.toInt ≤ c.toInt := by
  obtain ⟨-, -, b1, b2⟩ := hG.2.2.1
  exact pcl_i b1.1 b2.1 b2.2 hc (rt_eq hG h).2
theorem tu_eq {C M : FF} {i : Nat} (hG : RG C M) (h : R1 C M i) (h3 : R3 C M i) : tuC C i = tuM M i := by
  unfold tuC tuM prM
  rw [cr_eq h3, (rt_eq hG h).1, hG.2.2.1.1, hG.2.2.1.2.1, h3.2.2.2.1]
theorem tu_i {C M : FF} {i : Nat} (hG : RG C M) (h : R1 C M i) (h3 : R3 C M i) : bt (tuM M i) 0 (1000000 * (tM M i : Int)) ∧ bt (tuM M i) 0 8000000 := by
  have q := cr_i h3
  have e := cr_eq h3
  have k7 := h3.2.2.2.2.2.2.1
  have k8 := h3.2.2.2.2.2.2.2
  have k2 := h3.2.1
  have ec : (mcr M i (tM M i)).toInt = sN (C (4 + 8 * i + 2)) 8 := by rw [← e]; exact q.1
  generalize sN (C (4 + 8 * i + 2)) 8 = s at *
  have hc : bt (mcr M i (tM M i)) 0 80 := ⟨by omega, by omega⟩
  obtain ⟨p1, p2, p3⟩ := pr_i hG h hc
  obtain ⟨r1, r2⟩ := (rt_eq hG h).2
  have hm := mulB p2 p3 r1 r2
  rw [← p1] at hm
  have ht : (tuM M i).toInt = (prM M i (mcr M i (tM M i))).toInt + (M 47 i).toInt := iadd (by omega) (by omega)
  unfold bt
  omega
/-! charges and the sponsor's share -/
theorem ks_all : ∀ k, k < 8 → (nI k &&& 1 = 0 ↔ ¬ bkM (nI k) 0 = 1) ∧ (nI k &&& 2 = 0 ↔ ¬ bkM (nI k) 1 = 1) ∧ (nI k &&& 4 = 0 ↔ ¬ bkM (nI k) 2 = 1) := by decide
theorem ks_nI {x : Int32} (h : bt x 0 7) : ∃ k, k < 8 ∧ x = nI k := by
  refine ⟨x.toNatClampNeg, ?_, ?_⟩
  · have := h.1; have := h.2
    show x.toInt.toNat < 8
    omega
  · apply ieq
    have := h.1; have := h.2
    have e : x.toNatClampNeg = x.toInt.toNat := rfl
    rw [iN (by omega), e]
    omega
theorem ch_sm {ks tu fe ho : Int32} (h : bt ks 0 7) : ch3 ks tu fe ho = 0 + (if bkM ks 0 = 1 then tu else 0) + (if bkM ks 1 = 1 then fe else 0) + (if bkM ks 2 = 1 then ho else 0) := by
  obtain ⟨k, hk, rfl⟩ := ks_nI h
  obtain ⟨q1, q2, q3⟩ := ks_all k hk
  unfold ch3 ch2 ch1
  by_cases a : bkM (nI k) 0 = 1 <;> by_cases b : bkM (nI k) 1 = 1 <;> by_cases c : bkM (nI k) 2 = 1 <;> simp only [q1, q2, q3, a, b, c, if_true, if_false, not_true_eq_false, not_false_eq_true, Int32.add_zero, Int32.zero_add]
theorem ch_eq {C M : FF} {i : Nat} {B P : Int} (hG : RG C M) (h : RS B P C M i) : chC C i (C (4 + 8 * i) 8) = smM M i := by
  obtain ⟨h1, h2, h3, -, -⟩ := h
  unfold chC smM
  rw [tu_eq hG h1 h3, h2.1, h2.2.1, h1.2.2.2.2.2.1, ch_sm h1.2.2.2.2.2.2.1]
theorem ch7_eq {C M : FF} {i : Nat} {B P : Int} (hG : RG C M) (h : RS B P C M i) : chC C i 7 = alM M i := by
  obtain ⟨h1, h2, h3, -, -⟩ := h
  unfold chC alM
  rw [tu_eq hG h1 h3, h2.1, h2.2.1]
  unfold ch3 ch2 ch1
  rw [if_neg (by decide), if_neg (by decide), if_neg (by decide), Int32.zero_add]
theorem al_i {C M : FF} {i : Nat} {B P : Int} (hG : RG C M) (h : RS B P C M i) (hB : B ≤ 700000000) : (alM M i).toInt = (tuM M i).toInt + (M 48 i).toInt + (M 49 i).toInt ∧ 0 ≤ (alM M i).toInt ∧ (alM M i).toInt ≤ B + 8000000 := by
  obtain ⟨h1, h2, h3, -, -⟩ := h
  obtain ⟨-, t1, t2⟩ := tu_i hG h1 h3
  obtain ⟨-, -, -, q1, q2, q3, -⟩ := h2
  have e1 : (tuM M i + M 48 i).toInt = (tuM M i).toInt + (M 48 i).toInt := iadd (by omega) (by omega)
  have e2 : (alM M i).toInt = (tuM M i + M 48 i).toInt + (M 49 i).toInt := iadd (by rw [e1]; omega) (by rw [e1]; omega)
  omega
theorem if_i {p : Prop} [Decidable p] {x : Int32} (h : 0 ≤ x.toInt) : 0 ≤ (if p then x else 0).toInt ∧ (if p then x else 0).toInt ≤ x.toInt := by
  split
  · exact ⟨h, Int.le_refl _⟩
  · rw [i0]; exact ⟨Int.le_refl _, h⟩
theorem sm_i {C M : FF} {i : Nat} {B P : Int} (hG : RG C M) (h : RS B P C M i) (hB : B ≤ 700000000) : 0 ≤ (smM M i).toInt ∧ (smM M i).toInt ≤ (alM M i).toInt := by
  have ha := al_i hG h hB
  obtain ⟨h1, h2, h3, -, -⟩ := h
  obtain ⟨-, t1, t2⟩ := tu_i hG h1 h3
  obtain ⟨-, -, -, q1, q2, q3, -⟩ := h2
  have a1 := if_i (p := bkM (M 42 i) 0 = 1) t1
  have a2 := if_i (p := bkM (M 42 i) 1 = 1) q1
  have a3 := if_i (p := bkM (M 42 i) 2 = 1) q2
  unfold smM
  generalize (if bkM (M 42 i) 0 = 1 then tuM M i else 0) = x at *
  generalize (if bkM (M 42 i) 1 = 1 then M 48 i else 0) = y at *
  generalize (if bkM (M 42 i) 2 = 1 then M 49 i else 0) = z at *
  rw [Int32.zero_add]
  have e1 : (x + y).toInt = x.toInt + y.toInt := iadd (by omega) (by omega)
  have e2 : (x + y + z).toInt = (x + y).toInt + z.toInt := iadd (by rw [e1]; omega) (by rw [e1]; omega)
  omega
theorem sp_eq {C M : FF} {i : Nat} {B P : Int} (hG : RG C M) (h : RS B P C M i) : spC C i = spM M i := by
  unfold spC spM
  rw [ch_eq hG h, h.1.2.2.2.2.2.2.2.1]
theorem sp_i {C M : FF} {i : Nat} {B P : Int} (hG : RG C M) (h : RS B P C M i) (hB : B ≤ 700000000) : 0 ≤ (spM M i).toInt ∧ (spM M i).toInt ≤ (alM M i).toInt := by
  have q := sm_i hG h hB
  have z := h.1.2.2.2.2.2.2.2.2
  unfold spM
  rw [imn]
  split <;> omega
theorem un_eq {C M : FF} {i : Nat} {B P : Int} (hG : RG C M) (h : RS B P C M i) : unC C i = alM M i - spM M i := by
  unfold unC
  rw [ch7_eq hG h, sp_eq hG h]
theorem un_i {C M : FF} {i : Nat} {B P : Int} (hG : RG C M) (h : RS B P C M i) (hB : B ≤ 700000000) : 0 ≤ (alM M i - spM M i).toInt ∧ (alM M i - spM M i).toInt ≤ B + 8000000 := by
  have q1 := al_i hG h hB
  have q2 := sp_i hG h hB
  have e : (alM M i - spM M i).toInt = (alM M i).toInt - (spM M i).toInt := isub (by omega) (by omega)
  omega
/-! awards laid over the charges: three ranks by six places -/
theorem mn_as (a b c : Int32) : mn a (mn b c) = mn (mn a b) c := by
  apply ieq
  rw [imn, imn, imn, imn]
  split <;> split <;> (try split) <;> (try split) <;> omega
theorem mn_0 {b : Int32} (h : 0 ≤ b.toInt) : mn 0 b = 0 := by
  apply ieq
  rw [imn, i0]
  split <;> omega
def cvL (i : Nat) : Nat → TC → TC
  | 0, s => s
  | k + 1, s => cvT i (nI (k / 6)) (k % 6) (cvL i k s)
theorem cvL_R (i q : Nat) (s : TC) : ∀ n, n ≤ 6 → cvL i (6 * q + n) s = cvR i (nI q) n (cvL i (6 * q) s)
  | 0, _ => rfl
  | n + 1, h => by
    show cvT i (nI ((6 * q + n) / 6)) ((6 * q + n) % 6) (cvL i (6 * q + n) s) = cvT i (nI q) n (cvR i (nI q) n (cvL i (6 * q) s))
    rw [cvL_R i q s n (by omega), show (6 * q + n) / 6 = q by omega, show (6 * q + n) % 6 = n by omega]
theorem cvA_L (i : Nat) (s : TC) : cvA i s = cvL i 18 s := by
  have e2 := cvL_R i 2 s 6 (by omega)
  have e1 := cvL_R i 1 s 6 (by omega)
  have e0 := cvL_R i 0 s 6 (by omega)
  have z : cvL i (6 * 0) s = s := rfl
  rw [z] at e0
  unfold cvA
  rw [show (2 : Int32) = nI 2 by decide, show (1 : Int32) = nI 1 by decide, show (0 : Int32) = nI 0 by decide, ← e0, ← (show 6 * 1 = 6 * 0 + 6 by decide), ← e1, ← (show 6 * 2 = 6 * 1 + 6 by decide), ← e2]
def usK (M : FF) (i : Nat) : Nat → TM → TM
  | 0, s => s
  | k + 1, s => usS M i k (usK M i k s)
def CV (C : FF) (i : Nat) (un : Int32) (s : TC) (t : TM) : Prop := s.2.1 = t.1 ∧ s.2.2 = t.2.1 ∧ t.2.2 = un - t.1 ∧ 0 ≤ t.1.toInt ∧ t.1.toInt ≤ un.toInt ∧ 0 ≤ t.2.1.toInt ∧ ∀ a, a ≠ 4 + 8 * i + 6 → s.1 a = C a
theorem nIz {k : Nat} (hk : k < 18) : nI (k / 6) = 0 ↔ k / 6 = 0 := by
  constructor
  · intro h
    exact nI_inj (by omega) (by omega) h
  · intro h
    rw [h]; rfl
theorem usV_b {M : FF} {i k : Nat} (hk : k < 18) {t : TM} (hb : usI M i k = true → 0 ≤ (M 52 (6 * i + k % 6)).toInt) (h1 : 0 ≤ t.1.toInt) (h2 : 0 ≤ t.2.1.toInt) : 0 ≤ (usV M i k t).toInt ∧ (usV M i k t).toInt ≤ t.1.toInt ∧ (k / 6 = 0 → (usV M i k t).toInt ≤ t.2.1.toInt) := by
  have q : 0 ≤ (us0 M i k t.1).toInt ∧ (us0 M i k t.1).toInt ≤ t.1.toInt := by
    unfold us0
    split
    · rename_i z
      have := hb z
      rw [imn]
      split <;> omega
    · rw [i0]; omega
  unfold usV
  by_cases z : k / 6 = 0
  · rw [if_pos ((nIz hk).mpr z), imn]
    split <;> omega
  · rw [if_neg (fun w => z ((nIz hk).mp w))]
    exact ⟨q.1, q.2, fun w => absurd w z⟩
theorem usS_b {M : FF} {i k : Nat} (hk : k < 18) {t : TM} {un : Int32} (hb : usI M i k = true → 0 ≤ (M 52 (6 * i + k % 6)).toInt) (h0 : t.2.2 = un - t.1) (h1 : 0 ≤ t.1.toInt) (h3 : t.1.toInt ≤ un.toInt) (h2 : 0 ≤ t.2.1.toInt) : (usS M i k t).2.2 = un - (usS M i k t).1 ∧ 0 ≤ (usS M i k t).1.toInt ∧ (usS M i k t).1.toInt ≤ un.toInt ∧ 0 ≤ (usS M i k t).2.1.toInt := by
  obtain ⟨q1, q2, q3⟩ := usV_b hk hb h1 h2
  have b1 := t.1.toInt_lt
  have b2 := t.2.1.toInt_lt
  unfold usS
  show t.2.2 + usV M i k t = un - (t.1 - usV M i k t) ∧ 0 ≤ (t.1 - usV M i k t).toInt ∧ (t.1 - usV M i k t).toInt ≤ un.toInt ∧ 0 ≤ (t.2.1 - (if nI (k / 6) = 0 then usV M i k t else 0)).toInt
  have e1 : (t.1 - usV M i k t).toInt = t.1.toInt - (usV M i k t).toInt := isub (by omega) (by omega)
  refine ⟨?_, by omega, by omega, ?_⟩
  · rw [h0, Int32.sub_eq_add_neg un, Int32.sub_eq_add_neg un, Int32.add_assoc, Int32.neg_sub, Int32.sub_eq_add_neg (usV M i k t), Int32.add_comm (-t.1)]
  · by_cases z : k / 6 = 0
    · rw [if_pos ((nIz hk).mpr z)]
      have := q3 z
      rw [isub (by omega) (by omega)]
      omega
    · rw [if_neg (fun w => z ((nIz hk).mp w)), Int32.sub_zero]
      exact h2
theorem ne6 {i a : Nat} (h : a = 4 + 8 * i + 4 ∨ a = 4 + 8 * i + 5) : a ≠ 4 + 8 * i + 6 := by omega
theorem usI_am {C M : FF} {i k : Nat} (h : R4 C M i) : usI M i k = true → 0 ≤ (M 52 (6 * i + k % 6)).toInt := by
  intro z
  unfold usI at z
  rw [Bool.and_eq_true, decide_eq_true_eq] at z
  exact (h.2.2.2.2.2 _ z.1).1
theorem CV_s {C M : FF} {i k : Nat} {un : Int32} {s : TC} {t : TM} (h4 : R4 C M i) (hk : k < 18) (h : CV C i un s t) : CV C i un (cvT i (nI (k / 6)) (k % 6) s) (usS M i k t) ∧ (usI M i k = true → cvT i (nI (k / 6)) (k % 6) s = (u2 s.1 (4 + 8 * i + 6) (k % 6) (usV M i k t), t.1 - usV M i k t, t.2.1 - (if nI (k / 6) = 0 then usV M i k t else 0))) := by
  obtain ⟨h1, h2, h3, h4', h5, h6, h7⟩ := h
  obtain ⟨b1, b2, b3, b4⟩ := usS_b hk (usI_am h4) h3 h4' h5 h6
  have r4 : s.1 (4 + 8 * i + 4) = C (4 + 8 * i + 4) := h7 _ (by omega)
  have r5 : s.1 (4 + 8 * i + 5) = C (4 + 8 * i + 5) := h7 _ (by omega)
  by_cases hj : k % 6 < aM M i
  · have e4 := (h4.2.2.2.1 _ hj).1
    have e5 : C (4 + 8 * i + 5) (k % 6) = M 52 (6 * i + k % 6) := by rw [h4.2.2.2.2.1 _ (by omega), if_pos hj]
    by_cases hr : M 51 (6 * i + k % 6) = nI (k / 6)
    · have hu : usI M i k = true := by unfold usI; rw [Bool.and_eq_true, decide_eq_true_eq, decide_eq_true_eq]; exact ⟨hj, hr⟩
      have ev : cvU i (nI (k / 6)) (k % 6) s = usV M i k t := by
        unfold cvU usV us0
        rw [if_pos hu, r5, e5, h1, h2]
        by_cases z : nI (k / 6) = 0
        · rw [if_pos z, if_pos z, mn_as]
        · rw [if_neg z, if_neg z]
      have et : cvT i (nI (k / 6)) (k % 6) s = (u2 s.1 (4 + 8 * i + 6) (k % 6) (usV M i k t), t.1 - usV M i k t, t.2.1 - (if nI (k / 6) = 0 then usV M i k t else 0)) := by
        unfold cvT
        rw [r4, e4, if_pos hr, ev, h1, h2]
      refine ⟨?_, fun _ => et⟩
      rw [et]
      exact ⟨rfl, rfl, b1, b2, b3, b4, fun a ha => (u2_cell _ _ _ ha).trans (h7 a ha)⟩
    · have hu : usI M i k = false := usI_f2 hr
      have et : cvT i (nI (k / 6)) (k % 6) s = s := by
        unfold cvT
        rw [r4, e4, if_neg hr]
      have ez : usV M i k t = 0 := by
        unfold usV us0
        rw [hu]
        by_cases z : nI (k / 6) = 0
        · rw [if_pos z, if_neg (by decide), mn_0 h6]
        · rw [if_neg z, if_neg (by decide)]
      refine ⟨?_, fun q => by rw [hu] at q; cases q⟩
      rw [et]
      refine ⟨?_, ?_, b1, b2, b3, b4, h7⟩
      · show s.2.1 = t.1 - usV M i k t
        rw [ez, Int32.sub_zero, h1]
      · show s.2.2 = t.2.1 - (if nI (k / 6) = 0 then usV M i k t else 0)
        rw [ez, h2]
        split <;> rw [Int32.sub_zero]
  · have hu : usI M i k = false := by unfold usI; simp [hj]
    have e5 : C (4 + 8 * i + 5) (k % 6) = 0 := by rw [h4.2.2.2.2.1 _ (by omega), if_neg hj]
    have ez : usV M i k t = 0 := by
      unfold usV us0
      rw [hu]
      by_cases z : nI (k / 6) = 0
      · rw [if_pos z, if_neg (by decide), mn_0 h6]
      · rw [if_neg z, if_neg (by decide)]
    have ev : cvU i (nI (k / 6)) (k % 6) s = 0 := by
      unfold cvU
      rw [r5, e5, h1, h2]
      split
      · exact mn_0 (by rw [imn]; split <;> omega)
      · exact mn_0 h4'
    refine ⟨?_, fun q => by rw [hu] at q; cases q⟩
    have g1 : s.2.1 = t.1 - usV M i k t := by rw [ez, Int32.sub_zero, h1]
    have g2 : s.2.2 = t.2.1 - (if nI (k / 6) = 0 then usV M i k t else 0) := by
      rw [ez, h2]
      split <;> rw [Int32.sub_zero]
    unfold cvT
    by_cases z : s.1 (4 + 8 * i + 4) (k % 6) = nI (k / 6)
    · rw [if_pos z, ev]
      refine ⟨?_, ?_, b1, b2, b3, b4, fun a ha => (u2_cell _ _ _ ha).trans (h7 a ha)⟩
      · show s.2.1 - 0 = _
        rw [Int32.sub_zero]; exact g1
      · show s.2.2 - (if nI (k / 6) = 0 then 0 else 0) = _
        rw [ite_self, Int32.sub_zero]; exact g2
    · rw [if_neg z]
      exact ⟨g1, g2, b1, b2, b3, b4, h7⟩
theorem CV_L {C M : FF} {i : Nat} {un nd : Int32} (h4 : R4 C M i) (hu : 0 ≤ un.toInt) (hn : 0 ≤ nd.toInt) : ∀ k, k ≤ 18 → CV C i un (cvL i k (C, un, nd)) (usK M i k (un, nd, 0))
  | 0, _ => ⟨rfl, rfl, (Int32.sub_self un).symm, hu, Int.le_refl _, hn, fun _ _ => rfl⟩
  | k + 1, h => (CV_s h4 (by omega) (CV_L h4 hu hn k (by omega))).1
/-- place j of the scratch row is what the reference says of the award j -/
theorem CV_u {C M : FF} {i : Nat} {un nd : Int32} (h4 : R4 C M i) (hu : 0 ≤ un.toInt) (hn : 0 ≤ nd.toInt) {j r : Nat} (hj : j < aM M i) (hr : r < 3) (hm : M 51 (6 * i + j) = nI r) : ∀ k, k ≤ 18 → 6 * r + j < k → (cvL i k (C, un, nd)).1 (4 + 8 * i + 6) j = usV M i (6 * r + j) (usK M i (6 * r + j) (un, nd, 0))
  | 0, _, h => absurd h (by omega)
  | k + 1, hk, h => by
    have h6 := h4.2.1
    obtain ⟨cv, cu⟩ := CV_s h4 (show k < 18 by omega) (CV_L h4 hu hn k (by omega))
    show (cvT i (nI (k / 6)) (k % 6) (cvL i k (C, un, nd))).1 (4 + 8 * i + 6) j = _
    by_cases z : 6 * r + j = k
    · have e1 : k % 6 = j := by omega
      have e2 : k / 6 = r := by omega
      have hu : usI M i k = true := by unfold usI; rw [Bool.and_eq_true, decide_eq_true_eq, decide_eq_true_eq, e1, e2]; exact ⟨hj, hm⟩
      rw [cu hu, z, e1]
      exact u2_eq _ _ _ _
    · rw [← CV_u h4 hu hn hj hr hm k (by omega) (by omega)]
      by_cases w : k % 6 = j
      · have hq : ¬ (cvL i k (C, un, nd)).1 (4 + 8 * i + 4) (k % 6) = nI (k / 6) := by
          rw [(CV_L h4 hu hn k (by omega)).2.2.2.2.2.2 _ (by omega), w, (h4.2.2.2.1 j hj).1, hm]
          intro q
          have := nI_inj (by omega) (by omega) q
          omega
        unfold cvT
        rw [if_neg hq]
      · unfold cvT
        split
        · exact u2_ne _ _ (fun q => w q.2.symm)
        · rfl
def usD (M : FF) (i : Nat) : Nat → Nat → TM → TM
  | 0, _, s => s
  | d + 1, k, s => usD M i d (k + 1) (usS M i k s)
theorem usD_K {M : FF} {i : Nat} (s : TM) : ∀ d k, usD M i d k (usK M i k s) = usK M i (k + d) s
  | 0, _ => rfl
  | d + 1, k => by
    show usD M i d (k + 1) (usK M i (k + 1) s) = usK M i (k + (d + 1)) s
    rw [usD_K s d (k + 1)]
    congr 1
    omega
theorem usL_D {M : FF} {i : Nat} {aw : Int32} (h : ∀ k, k < 18 → ¬ (usI M i k = true ∧ nI (k % 6) = aw)) : ∀ d k s, k + d ≤ 18 → usL M i aw d k s = (usD M i d k s).2.2
  | 0, _, _, _ => rfl
  | d + 1, k, s, hk => by
    rw [usL_n (h k (by omega))]
    exact usL_D h d (k + 1) _ (by omega)
theorem nIneg {k : Nat} (h : k < 2 ^ 31) : ¬ nI k = -1 := by
  intro q
  have := congrArg Int32.toInt q
  rw [iN h] at this
  have e : (-1 : Int32).toInt = -1 := by decide
  omega
theorem usL_m1 (M : FF) (i : Nat) (s : TM) : usL M i (-1) 18 0 s = (usK M i 18 s).2.2 := by
  rw [usL_D (fun k _ q => nIneg (by omega) q.2) 18 0 s (by omega), ← usD_K s 18 0]
  rfl
theorem usL_at {M : FF} {i : Nat} {j r : Nat} (ha : aM M i ≤ 6) (hj : j < aM M i) (hr : r < 3) (hm : M 51 (6 * i + j) = nI r) (s : TM) : ∀ d k, k ≤ 6 * r + j → 6 * r + j < k + d → k + d ≤ 18 → usL M i (nI j) d k (usK M i k s) = usV M i (6 * r + j) (usK M i (6 * r + j) s)
  | 0, k, h1, h2, _ => absurd h2 (by omega)
  | d + 1, k, h1, h2, h3 => by
    by_cases z : k = 6 * r + j
    · have e1 : k % 6 = j := by omega
      have e2 : k / 6 = r := by omega
      have hu : usI M i k = true := by unfold usI; rw [Bool.and_eq_true, decide_eq_true_eq, decide_eq_true_eq, e1, e2]; exact ⟨hj, hm⟩
      rw [usL_y ⟨hu, by rw [e1]⟩, z]
    · rw [usL_n ?_]
      · exact usL_at ha hj hr hm s d (k + 1) (by omega) (by omega) (by omega)
      · intro q
        have e1 : k % 6 = j := nI_inj (by omega) (by omega) q.2
        have q1 := q.1
        unfold usI at q1
        rw [Bool.and_eq_true, decide_eq_true_eq, decide_eq_true_eq, e1, hm] at q1
        have := nI_inj (by omega) (by omega) q1.2
        omega
theorem sub_sb (u x : Int32) : u - (u - x) = x := by
  rw [Int32.sub_eq_add_neg u (u - x), Int32.neg_sub, Int32.add_comm, Int32.sub_add_cancel]
theorem bal_eq {C M : FF} {i : Nat} {B P : Int} (hG : RG C M) (h : RS B P C M i) (hB : B ≤ 700000000) : balV C i = owM M i ∧ (∀ a, a ≠ 4 + 8 * i + 6 → balF C i a = C a) ∧ (∀ j r, j < aM M i → r < 3 → M 51 (6 * i + j) = nI r → balF C i (4 + 8 * i + 6) j = usR M i (nI j)) ∧ ∃ x : Int32, owM M i = x - M 53 i ∧ 0 ≤ x.toInt ∧ x.toInt ≤ B + 8000000 := by
  have hu := un_i hG h hB
  have eu := un_eq hG h
  obtain ⟨h1, h2, h3, h4, h5⟩ := h
  have en : C (4 + 8 * i) 5 = M 41 i := h1.2.2.2.1
  have hn := h1.2.2.2.2.1
  have cv := CV_L h4 hu.1 hn 18 (Nat.le_refl _)
  have ef : balF C i = (cvL i 18 (C, alM M i - spM M i, M 41 i)).1 := by unfold balF; rw [cvA_L, eu, en]
  have es : usR M i (-1) = (usK M i 18 (alM M i - spM M i, M 41 i, 0)).2.2 := usL_m1 M i _
  have ep : balF C i (4 + 8 * i) 10 = M 53 i := by rw [ef, cv.2.2.2.2.2.2 _ (by omega)]; exact h2.2.2.1
  refine ⟨?_, fun a ha => by rw [ef]; exact cv.2.2.2.2.2.2 a ha, fun j r hj hr hm => ?_, ?_⟩
  · unfold balV owM
    rw [ep, cvA_L, eu, en, es, cv.1, cv.2.2.1]
  · rw [ef, CV_u h4 hu.1 hn hj hr hm 18 (Nat.le_refl _) (by have := h4.2.1; omega)]
    exact (usL_at h4.2.1 hj hr hm _ 18 0 (by omega) (by have := h4.2.1; omega) (by omega)).symm
  · refine ⟨(usK M i 18 (alM M i - spM M i, M 41 i, 0)).1, ?_, cv.2.2.2.1, by have := cv.2.2.2.2.1; omega⟩
    unfold owM
    rw [es, cv.2.2.1]
    generalize (usK M i 18 (alM M i - spM M i, M 41 i, 0)).1 = x
    generalize alM M i - spM M i = u
    rw [sub_sb]
/-! what a call changes, and what it leaves -/
theorem RX_glob {n : Nat} {C M C' M' : FF} (h : RX n C M) (hg : RG C' M') (c7 : C' 0 7 = C 0 7) (c8 : C' 0 8 = C 0 8) (m1 : M' 36 1 = M 36 1) (m2 : M' 36 2 = M 36 2) (hc : ∀ k, 4 ≤ k → k < 36 → C' k = C k) (hm : ∀ k, 39 ≤ k → k < 59 → M' k = M k) : RX (n + 1) C' M' := by
  obtain ⟨h1, h2, h3⟩ := h
  refine ⟨hg, RK_of h2 c7 c8 m1 m2, fun i hi => ?_⟩
  rw [tmN_of m2]
  exact RS_of (h3 i hi) (by omega) (by omega) ⟨fun k j q1 q2 q3 => by rw [hc k (by omega) (by omega)], fun k q1 q2 _ _ _ _ => by rw [hm k q1 (by omega)], fun j hj => ⟨by rw [hm 45 (by omega) (by omega)], by rw [hm 46 (by omega) (by omega)]⟩, fun j hj => ⟨by rw [hm 51 (by omega) (by omega)], by rw [hm 52 (by omega) (by omega)]⟩⟩
def Oth (i k j : Nat) : Prop := k < 39 ∨ (k ≠ 45 ∧ k ≠ 46 ∧ k ≠ 51 ∧ k ≠ 52 ∧ j ≠ i) ∨ ((k = 45 ∨ k = 46) ∧ j / 8 ≠ i) ∨ ((k = 51 ∨ k = 52) ∧ j / 6 ≠ i)
theorem RX_stu {n : Nat} {C M C' M' : FF} {i : Nat} (h : RX n C M) (hc : ∀ k j, k < 36 → (k < 4 + 8 * i ∨ 12 + 8 * i ≤ k) → (∀ z, z < 4 → k ≠ 4 + 8 * z + 6) → C' k j = C k j) (hm : ∀ k j, 36 ≤ k → k < 59 → ¬ (k = 36 ∧ j = 0) → Oth i k j → M' k j = M k j) (hs : RS (1100000 * ((n + 1 : Nat) : Int) + 8000000 * (tmN M : Int)) (1000000 * ((n + 1 : Nat) : Int)) C' M' i) : RX (n + 1) C' M' := by
  obtain ⟨h1, h2, h3⟩ := h
  have m2 : M' 36 2 = M 36 2 := hm 36 2 (by omega) (by omega) (by omega) (Or.inl (by omega))
  refine ⟨RG_of h1 (fun j _ => hc 2 j (by omega) (by omega) (by omega)) (fun j _ => hc 3 j (by omega) (by omega) (by omega)) (fun j _ _ => hc 0 j (by omega) (by omega) (by omega)) (fun j _ => hm 37 j (by omega) (by omega) (by omega) (Or.inl (by omega))) (fun j _ => hm 38 j (by omega) (by omega) (by omega) (Or.inl (by omega))) (fun j q _ => hm 36 j (by omega) (by omega) (by omega) (Or.inl (by omega))),
    RK_of h2 (hc 0 7 (by omega) (by omega) (by omega)) (hc 0 8 (by omega) (by omega) (by omega)) (hm 36 1 (by omega) (by omega) (by omega) (Or.inl (by omega))) m2, fun k hk => ?_⟩
  rw [tmN_of m2]
  by_cases e : k = i
  · rw [e]; exact hs
  · exact RS_of (h3 k hk) (by omega) (by omega) ⟨fun a j q1 q2 q3 => hc a j (by omega) (by omega) (fun z hz => by omega), fun a q1 q2 w1 w2 w3 w4 => hm a k (by omega) (by omega) (by omega) (by unfold Oth; omega), fun j hj => ⟨hm 45 _ (by omega) (by omega) (by omega) (by unfold Oth; omega), hm 46 _ (by omega) (by omega) (by omega) (by unfold Oth; omega)⟩, fun j hj => ⟨hm 51 _ (by omega) (by omega) (by omega) (by unfold Oth; omega), hm 52 _ (by omega) (by omega) (by omega) (by unfold Oth; omega)⟩⟩
theorem hasI_j {y : Int32} {t : Nat} (ht : t ≤ 8) (h : hasI y (nI t) = true) : ∃ j, j < t ∧ y = nI j := by
  unfold hasI at h
  rw [Bool.and_eq_true, Bool.not_eq_true', decide_eq_false_iff_not, decide_eq_true_eq, ilt, ilt, i0, iN (by omega)] at h
  have e : y.toNatClampNeg = y.toInt.toNat := rfl
  refine ⟨y.toNatClampNeg, by omega, ?_⟩
  apply ieq
  rw [iN (by omega), e]
  omega
theorem hasI_nI {j t : Nat} (hj : j < t) (ht : t ≤ 8) : hasI (nI j) (nI t) = true := by
  unfold hasI
  rw [Bool.and_eq_true, Bool.not_eq_true', decide_eq_false_iff_not, decide_eq_true_eq, ilt, ilt, i0, iN (by omega), iN (by omega)]
  omega
theorem wi_hasF {y : Int32} {t : Nat} (ht : t ≤ 8) (h : hasI y (nI t) = false) : wi y 0 (nI t - 1) = false := by
  rw [Bool.eq_false_iff]
  intro q
  have q2 := wi_iff.mp q
  have e : (nI t - 1).toInt = (t : Int) - 1 := by rw [isub (by rw [iN (by omega), i1]; omega) (by rw [iN (by omega), i1]; omega), iN (by omega), i1]
  rw [e, i0] at q2
  unfold hasI at h
  rw [Bool.and_eq_false_iff, Bool.not_eq_false', decide_eq_true_eq, decide_eq_false_iff_not, ilt, ilt, i0, iN (by omega)] at h
  omega
theorem stu_i {x : Int32} (h : wi x 0 3 = true) : ∃ i, i < 4 ∧ x = nI i := by
  have q := wi_iff.mp h
  have e3 : (3 : Int32).toInt = 3 := by decide
  rw [i0, e3] at q
  have e : x.toNatClampNeg = x.toInt.toNat := rfl
  refine ⟨x.toNatClampNeg, by omega, ?_⟩
  apply ieq
  rw [iN (by omega), e]
  omega
theorem wk_i {x : Int32} (h : wi x 0 15 = true) : ∃ i, i < 16 ∧ x = nI i := by
  have q := wi_iff.mp h
  have e3 : (15 : Int32).toInt = 15 := by decide
  rw [i0, e3] at q
  have e : x.toNatClampNeg = x.toInt.toNat := rfl
  refine ⟨x.toNatClampNeg, by omega, ?_⟩
  apply ieq
  rw [iN (by omega), e]
  omega
theorem mo_i {x : Int32} (h : wi x 1 4 = true) : ∃ q, q < 4 ∧ x = nI (q + 1) := by
  have q := wi_iff.mp h
  have e3 : (4 : Int32).toInt = 4 := by decide
  rw [i1, e3] at q
  have e : x.toNatClampNeg = x.toInt.toNat := rfl
  refine ⟨x.toNatClampNeg - 1, by omega, ?_⟩
  apply ieq
  rw [iN (by omega), e]
  omega
theorem wi_bt {x a b : Int32} {u v : Int} (ha : a.toInt = u) (hb : b.toInt = v) (h : wi x a b = true) : bt x u v := by
  have q := wi_iff.mp h
  rw [ha, hb] at q
  exact q
theorem Bmax {n : Nat} {C M : FF} (hn : n ≤ 512) (h : RX n C M) : 1100000 * (n : Int) + 8000000 * (tmN M : Int) ≤ 640000000 ∧ 1000000 * (n : Int) ≤ 512000000 := by
  have := h.2.1.2.2.2.2.1
  omega
/-- the two sides' latest refusal -/
theorem op_r {n : Nat} {F : FF} (hR : REL n F) {k : Int32} (hk : ¬ k = 0) {X Y : FF → Prop} (hX : X F) (hY : Y (th F k)) : ∃ F1 F2 : FF, X F1 ∧ Y F2 ∧ F1 = F ∧ F2 = th F k := ⟨F, th F k, hX, hY, rfl, rfl⟩
theorem EM_59 {F C' : FF} {r : Int32} (h : ∀ k, 36 ≤ k → k < 59 → C' k = F k) : EM F (u2 C' 59 0 r) := fun k j q1 q2 _ => by rw [u2_cell _ _ _ (by omega), h k q1 q2]
theorem EM_th {F G : FF} {p : Int32} (h : EM F G) : EM F (th G p) := fun k j q1 q2 q3 => (u2_ne _ _ q3).trans (h k j q1 q2 q3)
/-- a question: the program's part stands but for scratch, the reference's but for its latest number -/
theorem REL_q {n : Nat} {F C' : FF} {r p : Int32} (hR : REL n F) (hC : EC F C') (hM : ∀ k, 36 ≤ k → k < 59 → C' k = F k) : REL (n + 1) (th (u2 C' 59 0 r) p) ∧ RX n F (th (u2 C' 59 0 r) p) ∧ RX n F (u2 C' 59 0 r) := by
  have e1 := EM_59 (r := r) hM
  have e2 := EM_th (p := p) e1
  have ec : EC F (th (u2 C' 59 0 r) p) := fun k q1 q2 => by
    show u2 (u2 C' 59 0 r) 36 0 p k = F k
    rw [u2_cell _ _ _ (by omega), u2_cell _ _ _ (by omega), hC k q1 q2]
  exact ⟨RX_of (Nat.le_succ n) hR ec e2, RX_of (Nat.le_refl n) hR (EC_rfl F) e2, RX_of (Nat.le_refl n) hR (EC_rfl F) e1⟩
theorem bal_M {n : Nat} {C M : FF} {i : Nat} (hn : n ≤ 512) (hi : i < 4) (h : RX n C M) : balV C i = owM M i ∧ (∀ a, a ≠ 4 + 8 * i + 6 → balF C i a = C a) ∧ (∀ j r, j < aM M i → r < 3 → M 51 (6 * i + j) = nI r → balF C i (4 + 8 * i + 6) j = usR M i (nI j)) ∧ ∃ x : Int32, owM M i = x - M 53 i ∧ 0 ≤ x.toInt ∧ x.toInt ≤ 1100000 * (n : Int) + 8000000 * (tmN M : Int) + 8000000 := bal_eq h.1 (h.2.2 i hi) (by have := (Bmax hn h).1; omega)
theorem bal_EC {n : Nat} {C M : FF} {i : Nat} (hn : n ≤ 512) (hi : i < 4) (h : RX n C M) : EC C (balF C i) := fun k q1 q2 => (bal_M hn hi h).2.1 k (q2 i hi)
theorem bal_EM {n : Nat} {C M : FF} {i : Nat} (hn : n ≤ 512) (hi : i < 4) (h : RX n C M) : ∀ k, 36 ≤ k → k < 59 → balF C i k = C k := fun k q1 q2 => (bal_M hn hi h).2.1 k (by omega)
