/-! what the reference's methods answer; i is the student's number -/
theorem wi4 : ∀ i, i < 4 → wi (nI i) 0 3 = true := by decide
theorem wi16 : ∀ w, w < 16 → wi (nI w) 0 15 = true := by decide
theorem wi_01 {x : Int32} (h : wi x 0 1 = true) : x = 0 ∨ x = 1 := by
  have h2 := wi_iff.mp h
  have e0 : (0 : Int32).toInt = 0 := by decide
  have e1 : (1 : Int32).toInt = 1 := by decide
  rw [e0, e1] at h2
  rcases (show x.toInt = 0 ∨ x.toInt = 1 by omega) with q | q
  · exact Or.inl (Int32.toInt_inj.mp (q.trans e0.symm))
  · exact Or.inr (Int32.toInt_inj.mp (q.trans e1.symm))
theorem mn_1 {a b : Int32} (h : b ≤ a) : b = mn a b := by
  unfold mn
  split
  · rfl
  · rename_i q
    exact Int32.le_antisymm h (Int32.not_lt.mp q)
theorem mn_2 {a b : Int32} (h : ¬ b ≤ a) : a = mn a b := by
  unfold mn
  rw [if_neg (fun q => h (Int32.le_of_lt q))]
abbrev th (F : FF) (p : Int32) : FF := u2 F 36 0 p
def tM (F : FF) (i : Nat) : Nat := (F 44 i).toNatClampNeg
def aM (F : FF) (i : Nat) : Nat := (F 50 i).toNatClampNeg
/-- what the reference needs of its rows so that no index leaves them -/
def OKM (F : FF) (i : Nat) : Prop := (F 39 i = 0 ∨ F 39 i = 1) ∧ (tM F i ≤ 8 ∧ F 44 i = nI (tM F i)) ∧ (aM F i ≤ 6 ∧ F 50 i = nI (aM F i))
theorem OKM_of {F G : FF} {i : Nat} (h : OKM F i) (e1 : G 39 i = F 39 i) (e2 : G 44 i = F 44 i) (e3 : G 50 i = F 50 i) : OKM G i := by
  unfold OKM tM aM at h ⊢
  rw [e1, e2, e3]
  exact h
theorem OKM_u2 {F : FF} {i k j : Nat} {v : Int32} (h : OKM F i) (h1 : k ≠ 39) (h2 : k ≠ 44) (h3 : k ≠ 50) : OKM (u2 F k j v) i :=
  OKM_of h (u2_ne _ _ (fun q => h1 q.1.symm)) (u2_ne _ _ (fun q => h2 q.1.symm)) (u2_ne _ _ (fun q => h3 q.1.symm))
def mcr (F : FF) (i : Nat) : Nat → Int32
  | 0 => 0
  | n + 1 => mcr F i n + (if F 46 (8 * i + n) = 0 then F 45 (8 * i + n) else 0)
def rtM (F : FF) (i : Nat) : Int32 := F 37 (plc (F 39 i) (F 40 i))
def prM (F : FF) (i : Nat) (c9 : Int32) : Int32 := pcl (F 36 4) (F 36 5) c9 (rtM F i)
def tuM (F : FF) (i : Nat) : Int32 := prM F i (mcr F i (tM F i)) + F 47 i
def alM (F : FF) (i : Nat) : Int32 := tuM F i + F 48 i + F 49 i
def bkM (ks : Int32) (k : Int32) : Int32 := ks >>> (k &&& 31) &&& 1
def smM (F : FF) (i : Nat) : Int32 := 0 + (if bkM (F 42 i) 0 = 1 then tuM F i else 0) + (if bkM (F 42 i) 1 = 1 then F 48 i else 0) + (if bkM (F 42 i) 2 = 1 then F 49 i else 0)
def spM (F : FF) (i : Nat) : Int32 := mn (smM F i) (F 43 i)
abbrev TM : Type := Int32 × Int32 × Int32
theorem nI_d6 : ∀ k, k < 18 → nI k / 6 = nI (k / 6) := by decide
theorem nI_m6 : ∀ k, k < 18 → nI k - nI k / 6 * 6 = nI (k % 6) := by decide
def usI (F : FF) (i k : Nat) : Bool := decide (k % 6 < aM F i) && decide (F 51 (6 * i + k % 6) = nI (k / 6))
theorem usI_f1 {F : FF} {i k : Nat} (ha : aM F i ≤ 6) (h : nI (aM F i) ≤ nI (k % 6)) : usI F i k = false := by
  have h1 : ¬ k % 6 < aM F i := by
    have := (nI_leI (a := aM F i) (b := k % 6) (by omega) (by omega)).mp h
    omega
  simp [usI, h1]
theorem usI_f2 {F : FF} {i k : Nat} (h : ¬ F 51 (6 * i + k % 6) = nI (k / 6)) : usI F i k = false := by simp [usI, h]
theorem usI_t {F : FF} {i k : Nat} (ha : aM F i ≤ 6) (h : ¬ nI (aM F i) ≤ nI (k % 6)) (h2 : F 51 (6 * i + k % 6) = nI (k / 6)) : usI F i k = true := by
  have h1 : k % 6 < aM F i := by
    have := mt (nI_leI (a := aM F i) (b := k % 6) (by omega) (by omega)).mpr h
    omega
  simp [usI, h1, h2]
def us0 (F : FF) (i k : Nat) (lf : Int32) : Int32 := if usI F i k = true then mn (F 52 (6 * i + k % 6)) lf else 0
def usV (F : FF) (i k : Nat) (s : TM) : Int32 := if nI (k / 6) = 0 then mn (us0 F i k s.1) s.2.1 else us0 F i k s.1
def usS (F : FF) (i k : Nat) (s : TM) : TM := (s.1 - usV F i k s, s.2.1 - (if nI (k / 6) = 0 then usV F i k s else 0), s.2.2 + usV F i k s)
def usL (F : FF) (i : Nat) (aw : Int32) : Nat → Nat → TM → Int32
  | 0, _, s => s.2.2
  | d + 1, k, s => if usI F i k = true ∧ nI (k % 6) = aw then usV F i k s else usL F i aw d (k + 1) (usS F i k s)
theorem usL_n {F : FF} {i k d : Nat} {aw : Int32} {s : TM} (h : ¬ (usI F i k = true ∧ nI (k % 6) = aw)) : usL F i aw (d + 1) k s = usL F i aw d (k + 1) (usS F i k s) := if_neg h
theorem usL_y {F : FF} {i k d : Nat} {aw : Int32} {s : TM} (h : usI F i k = true ∧ nI (k % 6) = aw) : usL F i aw (d + 1) k s = usV F i k s := if_pos h
def usR (F : FF) (i : Nat) (aw : Int32) : Int32 := usL F i aw 18 0 (alM F i - spM F i, F 41 i, 0)
def owM (F : FF) (i : Nat) : Int32 := alM F i - spM F i - usR F i (-1) - F 53 i
def md0 (F : FF) (i j : Nat) : FF := u2 F 46 (8 * i + j) 1
def mdK (F : FF) (i j w : Nat) : Int32 := Int64.toInt32 (Int32.toInt64 (prM F i (mcr F i (tM F i)) - prM (md0 F i j) i (mcr (md0 F i j) i (tM (md0 F i j) i))) * Int32.toInt64 (md0 F i j 38 w) / 100)
def mdF (F : FF) (i j w : Nat) : FF := u2 (md0 F i j) 47 i (md0 F i j 47 i + mdK F i j w)
def mtF (F : FF) (i : Nat) (cr : Int32) : FF := u2 (u2 (u2 (th F 0) 45 (8 * i + tM F i) cr) 46 (8 * i + tM F i) 0) 44 i (nI (tM F i + 1))
def maF (F : FF) (i : Nat) (rk am : Int32) : FF := u2 (u2 (u2 (th F 0) 51 (6 * i + aM F i) rk) 52 (6 * i + aM F i) am) 50 i (nI (aM F i + 1))
def mpF (F : FF) (i : Nat) (am : Int32) : FF := u2 (u2 (th F 0) 53 i (th F 0 53 i + am)) 58 i (u2 (th F 0) 53 i (th F 0 53 i + am) 58 i + am)
def ml3 (F : FF) (i : Nat) (m ow : Int32) : FF := u2 (u2 (u2 (th F 0) 54 i m) 55 i (ow / m)) 56 i (ow - ow / m * m)
def mlF (F : FF) (i : Nat) (m ow : Int32) : FF := u2 (u2 (ml3 F i m ow) 57 i (16 * ml3 F i m ow 36 2 + ml3 F i m ow 36 1)) 58 i 0
def mcF (F : FF) (i : Nat) (a b : Int32) : FF := u2 (u2 (th F 0) 48 i (th F 0 48 i + a)) 49 i (u2 (th F 0) 48 i (th F 0 48 i + a) 49 i + b)
def mvS (i w j : Nat) (F : FF) : FF := if F 46 (8 * i + j) = 0 then mdF F i j w else F
def mvF (F : FF) (i w : Nat) : Nat → FF
  | 0 => F
  | j + 1 => mvS i w j (mvF F i w j)
theorem mdF_row {F : FF} {i j w k : Nat} (h1 : k ≠ 46) (h2 : k ≠ 47) : mdF F i j w k = F k := by
  unfold mdF md0
  rw [u2_cell _ _ _ h2, u2_cell _ _ _ h1]
theorem mvF_row {F : FF} {i w k : Nat} (h1 : k ≠ 46) (h2 : k ≠ 47) : ∀ j, mvF F i w j k = F k
  | 0 => rfl
  | j + 1 => by
    show mvS i w j (mvF F i w j) k = F k
    unfold mvS
    split
    · rw [mdF_row h1 h2]; exact mvF_row h1 h2 j
    · exact mvF_row h1 h2 j
theorem OKM_mvF {F : FF} {i w : Nat} (h : OKM F i) (j : Nat) : OKM (mvF F i w j) i := OKM_of h (by rw [mvF_row (by decide) (by decide)]) (by rw [mvF_row (by decide) (by decide)]) (by rw [mvF_row (by decide) (by decide)])
def saM (F : FF) (i : Nat) : Nat → Int32
  | 0 => 0
  | n + 1 => saM F i n + F 52 (6 * i + n)
abbrev TK : Type := FF × Int32
def tkI (F : FF) (i k : Nat) : Bool := decide (k % 6 < aM F i) && decide (F 51 (6 * i + k % 6) = 2 - nI (k / 6))
theorem tkI_f1 {F : FF} {i k : Nat} (ha : aM F i ≤ 6) (h : nI (aM F i) ≤ nI (k % 6)) : tkI F i k = false := by
  have h1 : ¬ k % 6 < aM F i := by
    have := (nI_leI (a := aM F i) (b := k % 6) (by omega) (by omega)).mp h
    omega
  simp [tkI, h1]
theorem tkI_f2 {F : FF} {i k : Nat} (h : ¬ F 51 (6 * i + k % 6) = 2 - nI (k / 6)) : tkI F i k = false := by simp [tkI, h]
theorem tkI_t {F : FF} {i k : Nat} (ha : aM F i ≤ 6) (h : ¬ nI (aM F i) ≤ nI (k % 6)) (h2 : F 51 (6 * i + k % 6) = 2 - nI (k / 6)) : tkI F i k = true := by
  have h1 : k % 6 < aM F i := by
    have := mt (nI_leI (a := aM F i) (b := k % 6) (by omega) (by omega)).mpr h
    omega
  simp [tkI, h1, h2]
def tkV (i k : Nat) (s : TK) : Int32 := if tkI s.1 i k = true then mn (s.1 52 (6 * i + k % 6)) s.2 else 0
def tkS (i k : Nat) (s : TK) : TK := (u2 s.1 52 (6 * i + k % 6) (s.1 52 (6 * i + k % 6) - tkV i k s), s.2 - tkV i k s)
def tkA (i : Nat) : Nat → TK → TK
  | 0, s => s
  | k + 1, s => tkS i k (tkA i k s)
theorem tkA_row {i r : Nat} (h : r ≠ 52) (s : TK) : ∀ k, (tkA i k s).1 r = s.1 r
  | 0 => rfl
  | k + 1 => by
    show (tkS i k (tkA i k s)).1 r = s.1 r
    unfold tkS
    show u2 _ 52 _ _ r = s.1 r
    rw [u2_cell _ _ _ h]
    exact tkA_row h s k
theorem OKM_tkA {i : Nat} {s : TK} (h : OKM s.1 i) (k : Nat) : OKM (tkA i k s).1 i := OKM_of h (by rw [tkA_row (by decide)]) (by rw [tkA_row (by decide)]) (by rw [tkA_row (by decide)])
def mbV (F : FF) (i w : Nat) : Int32 := bakI (mvF F i w 8 36 1) (saM (mvF F i w 8) i (aM (mvF F i w 8) i))
def caM (F : FF) (i k : Nat) : FF := if owM F i ≤ 0 then F else if -owM F k ≤ 0 then F else u2 (u2 F 53 i (F 53 i + mn (owM F i) (-owM F k))) 53 k (u2 F 53 i (F 53 i + mn (owM F i) (-owM F k)) 53 k - mn (owM F i) (-owM F k))
def et6 (F : FF) (i : Nat) : FF := u2 (u2 (u2 (u2 (u2 (u2 F 44 i 0) 50 i 0) 42 i 0) 43 i 0) 47 i 0) 49 i 0
def etS (F : FF) (i : Nat) : FF := u2 (u2 (et6 F i) 48 i (if owM F i ≤ 0 then 0 else owM F i)) 53 i (if 0 ≤ owM F i then 0 else -owM F i)
def etA (F : FF) : Nat → FF
  | 0 => F
  | i + 1 => etS (etA F i) i
def ecF (F : FF) : FF := caM (caM (caM (caM F 0 1) 1 0) 2 3) 3 2
def enM (F : FF) : FF := u2 (u2 (etA (ecF F) 4) 36 1 0) 36 2 (u2 (etA (ecF F) 4) 36 1 0 36 2 + 1)
def fwM (F : FF) (i : Nat) : Int32 := 16 * F 36 2 + F 36 1 - F 57 i
def flB (F : FF) (i : Nat) : Bool := decide (fwM F i - fwM F i / 2 * 2 = 0) && (wi (fwM F i / 2) 1 (F 54 i) && !decide (fwM F i / 2 * F 55 i + F 56 i ≤ F 58 i))
def flM (F : FF) (i : Nat) : FF := if flB F i = true then u2 F 48 i (F 48 i + F 36 7) else F
def fl4 (F : FF) : FF := flM (flM (flM (flM F 0) 1) 2) 3
def mw1 (F : FF) : FF := u2 (th F 0) 36 1 (F 36 1 + 1)
theorem caM_row {F : FF} {i k r : Nat} (h : r ≠ 53) : caM F i k r = F r := by
  unfold caM
  split
  · rfl
  · split
    · rfl
    · rw [u2_cell _ _ _ h, u2_cell _ _ _ h]
theorem OKM_caM {F : FF} {a b i : Nat} (h : OKM F i) : OKM (caM F a b) i := OKM_of h (by rw [caM_row (by decide)]) (by rw [caM_row (by decide)]) (by rw [caM_row (by decide)])
theorem etS_ne {F : FF} {i k j : Nat} (h : j ≠ i) : etS F i k j = F k j := by
  unfold etS et6
  rw [u2_ne _ _ (fun q => h q.2), u2_ne _ _ (fun q => h q.2), u2_ne _ _ (fun q => h q.2), u2_ne _ _ (fun q => h q.2), u2_ne _ _ (fun q => h q.2), u2_ne _ _ (fun q => h q.2), u2_ne _ _ (fun q => h q.2), u2_ne _ _ (fun q => h q.2)]
theorem etA_ne {F : FF} {k j : Nat} : ∀ i, i ≤ j → etA F i k j = F k j
  | 0, _ => rfl
  | i + 1, h => by
    show etS (etA F i) i k j = F k j
    rw [etS_ne (by omega)]
    exact etA_ne i (by omega)
theorem OKM_etA {F : FF} {i : Nat} (h : OKM F i) : OKM (etA F i) i := OKM_of h (etA_ne i (Nat.le_refl i)) (etA_ne i (Nat.le_refl i)) (etA_ne i (Nat.le_refl i))
theorem clam0 : (0 : Int32).toNatClampNeg = 0 := by decide
theorem wi_pred {j t : Nat} (h : j < t) (ht : t ≤ 8) : wi (nI j) 0 (nI t - 1) = true := by
  obtain ⟨t', rfl⟩ : ∃ z, t = z + 1 := ⟨t - 1, by omega⟩
  rw [nI_pred]
  exact wi_t (nI_pos (by omega)) (nI_nlt (by omega) (by omega))
theorem wi14 : ∀ q, q < 4 → wi (nI (q + 1)) 1 4 = true := by decide
def mzG (F : FF) (i w : Nat) : FF := mvF (th F 0) i w (tM F i)
def mzV (F : FF) (i w : Nat) : Int32 := bakI (mzG F i w 36 1) (saM (mzG F i w) i (aM (mzG F i w) i))
def mzF (F : FF) (i w : Nat) : FF := (tkA i 18 (mzG F i w, mzV F i w)).1
