/-! what the reference's methods answer; i is the student's number -/
theorem wi4 : ∀ i, i < 4 → wi (nI i) 0 3 = true := by decide
theorem wi16 : ∀ w, w < 16 → wi (nI w) 0 15 = true := by decide
theorem wi_01 {x : Int32} (h : wi x 0 1 = true) : x = 0 ∨ x = 1 := by
  have h2 := wi_iff.mp h
  have e0 : (0 : Int32).toInt = 0 := by decide
  have e1 : (1 : Int32).toInt = 1 := by decide
  rw [e0, e1] at h2
  rcases (show x.toInt = 0 ∨ x.toInt = 1 by omega) with q | q
  · exact Or.inl (Int32.toInt_inj.mp (q.trans e0.symm))
  · exact Or.inr (Int32.toInt_inj.mp (q.trans e1.symm))
theorem mn_1 {a b : Int32} (h : b ≤ a) : b = mn a b := by
  unfold mn
  split
  · rfl
  · rename_i q
    exact Int32.le_antisymm h (Int32.not_lt.mp q)
theorem mn_2 {a b : Int32} (h : ¬ b ≤ a) : a = mn a b := by
  unfold mn
  rw [if_neg (fun q => h (Int32.le_of_lt q))]
abbrev th (F : FF) (p : Int32) : FF := u2 F 36 0 p
def tM (F : FF) (i : Nat) : Nat := (F 44 i).toNatClampNeg
def aM (F : FF) (i : Nat) : Nat := (F 50 i).toNatClampNeg
/-- what the reference needs of its rows so that no index leaves them -/
def OKM (F : FF) (i : Nat) : Prop := (F 39 i = 0 ∨ F 39 i = 1) ∧ (tM F i ≤ 8 ∧ F 44 i = nI (tM F i)) ∧ (aM F i ≤ 6 ∧ F 50 i = nI (aM F i))
theorem OKM_of {F G : FF} {i : Nat} (h : OKM F i) (e1 : G 39 i = F 39 i) (e2 : G 44 i = F 44 i) (e3 : G 50 i = F 50 i) : OKM G i := by
  unfold OKM tM aM at h ⊢
  rw [e1, e2, e3]
  exact h
theorem OKM_u2 {F : FF} {i k j : Nat} {v : Int32} (h : OKM F i) (h1 : k ≠ 39) (h2 : k ≠ 44) (h3 : k ≠ 50) : OKM (u2 F k j v) i :=
  OKM_of h (u2_ne _ _ (fun q => h1 q.1.symm)) (u2_ne _ _ (fun q => h2 q.1.symm)) (u2_ne _ _ (fun q => h3 q.1.symm))
def mcr (F : FF) (i : Nat) : Nat → Int32
  | 0 => 0
  | n + 1 => mcr F i n + (if F 46 (8 * i + n) = 0 then F 45 (8 * i + n) else 0)
def rtM (F : FF) (i : Nat) : Int32 := F 37 (plc (F 39 i) (F 40 i))
def prM (F : FF) (i : Nat) (c9 : Int32) : Int32 := pcl (F 36 4) (F 36 5) c9 (rtM F i)
def tuM (F : FF) (i : Nat) : Int32 := prM F i (mcr F i (tM F i)) + F 47 i
def alM (F : FF) (i : Nat) : Int32 := tuM F i + F 48 i + F 49 i
def bkM (ks : Int32) (k : Int32) : Int32 := ks >>> (k &&& 31) &&& 1
def smM (F : FF) (i : Nat) : Int32 := 0 + (if bkM (F 42 i) 0 = 1 then tuM F i else 0) + (if bkM (F 42 i) 1 = 1 then F 48 i else 0) + (if bkM (F 42 i) 2 = 1 then F 49 i else 0)
def spM (F : FF) (i : Nat) : Int32 := mn (smM F i) (F 43 i)
abbrev TM : Type := Int32 × Int32 × Int32
theorem nI_d6 : ∀ k, k < 18 → nI k / 6 = nI (k / 6) := by decide
theorem nI_m6 : ∀ k, k < 18 → nI k - nI k / 6 * 6 = nI (k % 6) := by decide
def usI (F : FF) (i k : Nat) : Bool := decide (k % 6 < aM F i) && decide (F 51 (6 * i + k % 6) = nI (k / 6))
theorem usI_f1 {F : FF} {i k : Nat} (ha : aM F i ≤ 6) (h : nI (aM F i) ≤ nI (k % 6)) : usI F i k = false := by
  have h1 : ¬ k % 6 < aM F i := by
    have := (nI_leI (a := aM F i) (b := k % 6) (by omega) (by omega)).mp h
    omega
  simp [usI, h1]
theorem usI_f2 {F : FF} {i k : Nat} (h : ¬ F 51 (6 * i + k % 6) = nI (k / 6)) : usI F i k = false := by simp [usI, h]
theorem usI_t {F : FF} {i k : Nat} (ha : aM F i ≤ 6) (h : ¬ nI (aM F i) ≤ nI (k % 6)) (h2 : F 51 (6 * i + k % 6) = nI (k / 6)) : usI F i k = true := by
  have h1 : k % 6 < aM F i := by
    have := mt (nI_leI (a := aM F i) (b := k % 6) (by omega) (by omega)).mpr h
    omega
  simp [usI, h1, h2]
def us0 (F : FF) (i k : Nat) (lf : Int32) : Int32 := if usI F i k = true then mn (F 52 (6 * i + k % 6)) lf else 0
def usV (F : FF) (i k : Nat) (s : TM) : Int32 := if nI (k / 6) = 0 then mn (us0 F i k s.1) s.2.1 else us0 F i k s.1
def usS (F : FF) (i k : Nat) (s : TM) : TM := (s.1 - usV F i k s, s.2.1 - (if nI (k / 6) = 0 then usV F i k s else 0), s.2.2 + usV F i k s)
def usL (F : FF) (i : Nat) (aw : Int32) : Nat → Nat → TM → Int32
  | 0, _, s => s.2.2
  | d + 1, k, s => if usI F i k = true ∧ nI (k % 6) = aw then usV F i k s else usL F i aw d (k + 1) (usS F i k s)
theorem usL_n {F : FF} {i k d : Nat} {aw : Int32} {s : TM} (h : ¬ (usI F i k = true ∧ nI (k % 6) = aw)) : usL F i aw (d + 1) k s = usL F i aw d (k + 1) (usS F i k s) := if_neg h
theorem usL_y {F : FF} {i k d : Nat} {aw : Int32} {s : TM} (h : usI F i k = true ∧ nI (k % 6) = aw) : usL F i aw (d + 1) k s = usV F i k s := if_pos h
def usR (F : FF) (i : Nat) (aw : Int32) : Int32 := usL F i aw 18 0 (alM F i - spM F i, F 41 i, 0)
def owM (F : FF) (i : Nat) : Int32 := alM F i - spM F i - usR F i (-1) - F 53 i
def md0 (F : FF) (i j : Nat) : FF := u2 F 46 (8 * i + j) 1
def mdK (F : FF) (i j w : Nat) : Int32 := Int64.toInt32 (Int32.toInt64 (prM F i (mcr F i (tM F i)) - prM (md0 F i j) i (mcr (md0 F i j) i (tM (md0 F i j) i))) * Int32.toInt64 (md0 F i j 38 w) / 100)
def mdF (F : FF) (i j w : Nat) : FF := u2 (md0 F i j) 47 i (md0 F i j 47 i + mdK F i j w)
def mtF (F : FF) (i : Nat) (cr : Int32) : FF := u2 (u2 (u2 (th F 0) 45 (8 * i + tM F i) cr) 46 (8 * i + tM F i) 0) 44 i (nI (tM F i + 1))
def maF (F : FF) (i : Nat) (rk am : Int32) : FF := u2 (u2 (u2 (th F 0) 51 (6 * i + aM F i) rk) 52 (6 * i + aM F i) am) 50 i (nI (aM F i + 1))
def mpF (F : FF) (i : Nat) (am : Int32) : FF := u2 (u2 (th F 0) 53 i (th F 0 53 i + am)) 58 i (u2 (th F 0) 53 i (th F 0 53 i + am) 58 i + am)
def ml3 (F : FF) (i : Nat) (m ow : Int32) : FF := u2 (u2 (u2 (th F 0) 54 i m) 55 i (ow / m)) 56 i (ow - ow / m * m)
def mlF (F : FF) (i : Nat) (m ow : Int32) : FF := u2 (u2 (ml3 F i m ow) 57 i (16 * ml3 F i m ow 36 2 + ml3 F i m ow 36 1)) 58 i 0
def mcF (F : FF) (i : Nat) (a b : Int32) : FF := u2 (u2 (th F 0) 48 i (th F 0 48 i + a)) 49 i (u2 (th F 0) 48 i (th F 0 48 i + a) 49 i + b)
def mvS (i w j : Nat) (F : FF) : FF := if F 46 (8 * i + j) = 0 then mdF F i j w else F
def mvF (F : FF) (i w : Nat) : Nat → FF
  | 0 => F
  | j + 1 => mvS i w j (mvF F i w j)
theorem mdF_row {F : FF} {i j w k : Nat} (h1 : k ≠ 46) (h2 : k ≠ 47) : mdF F i j w k = F k := by
  unfold mdF md0
  rw [u2_cell _ _ _ h2, u2_cell _ _ _ h1]
theorem mvF_row {F : FF} {i w k : Nat} (h1 : k ≠ 46) (h2 : k ≠ 47) : ∀ j, mvF F i w j k = F k
  | 0 => rfl
  | j + 1 => by
    show mvS i w j (mvF F i w j) k = F k
    unfold mvS
    split
    · rw [mdF_row h1 h2]; exact mvF_row h1 h2 j
    · exact mvF_row h1 h2 j
theorem OKM_mvF {F : FF} {i w : Nat} (h : OKM F i) (j : Nat) : OKM (mvF F i w j) i := OKM_of h (by rw [mvF_row (by decide) (by decide)]) (by rw [mvF_row (by decide) (by decide)]) (by rw [mvF_row (by decide) (by decide)])
def saM (F : FF) (i : Nat) : Nat → Int32
  | 0 => 0
  | n + 1 => saM F i n + F 52 (6 * i + n)
abbrev TK : Type := FF × Int32
def tkI (F : FF) (i k : Nat) : Bool := decide (k % 6 < aM F i) && decide (F 51 (6 * i + k % 6) = 2 - nI (k / 6))
theorem tkI_f1 {F : FF} {i k : Nat} (ha : aM F i ≤ 6) (h : nI (aM F i) ≤ nI (k % 6)) : tkI F i k = false := by
  have h1 : ¬ k % 6 < aM F i := by
    have := (nI_leI (a := aM F i) (b := k % 6) (by omega) (by omega)).mp h
    omega
  simp [tkI, h1]
theorem tkI_f2 {F : FF} {i k : Nat} (h : ¬ F 51 (6 * i + k % 6) = 2 - nI (k / 6)) : tkI F i k = false := by simp [tkI, h]
theorem tkI_t {F : FF} {i k : Nat} (ha : aM F i ≤ 6) (h : ¬ nI (aM F i) ≤ nI (k % 6)) (h2 : F 51 (6 * i + k % 6) = 2 - nI (k / 6)) : tkI F i k = true := by
  have h1 : k % 6 < aM F i := by
    have := mt (nI_leI (a := aM F i) (b := k % 6) (by omega) (by omega)).mpr h
    omega
  simp [tkI, h1, h2]
def tkV (i k : Nat) (s : TK) : Int32 := if tkI s.1 i k = true then mn (s.1 52 (6 * i + k % 6)) s.2 else 0
def tkS (i k : Nat) (s : TK) : TK := (u2 s.1 52 (6 * i + k % 6) (s.1 52 (6 * i + k % 6) - tkV i k s), s.2 - tkV i k s)
def tkA (i : Nat) : Nat → TK → TK
  | 0, s => s
  | k + 1, s => tkS i k (tkA i k s)
theorem tkA_row {i r : Nat} (h : r ≠ 52) (s : TK) : ∀ k, (tkA i k s).1 r = s.1 r
  | 0 => rfl
  | k + 1 => by
    show (tkS i k (tkA i k s)).1 r = s.1 r
    unfold tkS
    show u2 _ 52 _ _ r = s.1 r
    rw [u2_cell _ _ _ h]
    exact tkA_row h s k
theorem OKM_tkA {i : Nat} {s : TK} (h : OKM s.1 i) (k : Nat) : OKM (tkA i k s).1 i := OKM_of h (by rw [tkA_row (by decide)]) (by rw [tkA_row (by decide)]) (by rw [tkA_row (by decide)])
def mbV (F : FF) (i w : Nat) : Int32 := bakI (mvF F i w 8 36 1) (saM (mvF F i w 8) i (aM (mvF F i w 8) i))
def caM (F : FF) (i k : Nat) : FF := if owM F i ≤ 0 then F else if -owM F k ≤ 0 then F else u2 (u2 F 53 i (F 53 i + mn (owM F i) (-owM F k))) 53 k (u2 F 53 i (F 53 i + mn (owM F i) (-owM F k)) 53 k - mn (owM F i) (-owM F k))
def et6 (F : FF) (i : Nat) : FF := u2 (u2 (u2 (u2 (u2 (u2 F 44 i 0) 50 i 0) 42 i 0) 43 i 0) 47 i 0) 49 i 0
def etS (F : FF) (i : Nat) : FF := u2 (u2 (et6 F i) 48 i (if owM F i ≤ 0 then 0 else owM F i)) 53 i (if 0 ≤ owM F i then 0 else -owM F i)
def etA (F : FF) : Nat → FF
  | 0 => F
  | i + 1 => etS (etA F i) i
def ecF (F : FF) : FF := caM (caM (caM (caM F 0 1) 1 0) 2 3) 3 2
def enM (F : FF) : FF := u2 (u2 (etA (ecF F) 4) 36 1 0) 36 2 (u2 (etA (ecF F) 4) 36 1 0 36 2 + 1)
def fwM (F : FF) (i : Nat) : Int32 := 16 * F 36 2 + F 36 1 - F 57 i
def flB (F : FF) (i : Nat) : Bool := decide (fwM F i - fwM F i / 2 * 2 = 0) && (wi (fwM F i / 2) 1 (F 54 i) && !decide (fwM F i / 2 * F 55 i + F 56 i ≤ F 58 i))
def flM (F : FF) (i : Nat) : FF := if flB F i = true then u2 F 48 i (F 48 i + F 36 7) else F
def fl4 (F : FF) : FF := flM (flM (flM (flM F 0) 1) 2) 3
def mw1 (F : FF) : FF := u2 (th F 0) 36 1 (F 36 1 + 1)
theorem caM_row {F : FF} {i k r : Nat} (h : r ≠ 53) : caM F i k r = F r := by
  unfold caM
  split
  · rfl
  · split
    · rfl
    · rw [u2_cell _ _ _ h, u2_cell _ _ _ h]
theorem OKM_caM {F : FF} {a b i : Nat} (h : OKM F i) : OKM (caM F a b) i := OKM_of h (by rw [caM_row (by decide)]) (by rw [caM_row (by decide)]) (by rw [caM_row (by decide)])
theorem etS_ne {F : FF} {i k j : Nat} (h : j ≠ i) : etS F i k j = F k j := by
  unfold etS et6
  rw [u2_ne _ _ (fun q => h q.2), u2_ne _ _ (fun q => h q.2), u2_ne _ _ (fun q => h q.2), u2_ne _ _ (fun q => h q.2), u2_ne _ _ (fun q => h q.2), u2_ne _ _ (fun q => h q.2), u2_ne _ _ (fun q => h q.2), u2_ne _ _ (fun q => h q.2)]
theorem etA_ne {F : FF} {k j : Nat} : ∀ i, i ≤ j → etA F i k j = F k j
  | 0, _ => rfl
  | i + 1, h => by
    show etS (etA F i) i k j = F k j
    rw [etS_ne (by omega)]
    exact etA_ne i (by omega)
theorem OKM_etA {F : FF} {i : Nat} (h : OKM F i) : OKM (etA F i) i := OKM_of h (etA_ne i (Nat.le_refl i)) (etA_ne i (Nat.le_refl i)) (etA_ne i (Nat.le_refl i))
theorem clam0 : (0 : Int32).toNatClampNeg = 0 := by decide
theorem wi_pred {j t : Nat} (h : j < t) (ht : t ≤ 8) : wi (nI j) 0 (nI t - 1) = true := by
  obtain ⟨t', rfl⟩ : ∃ z, t = z + 1 := ⟨t - 1, by omega⟩
  rw [nI_pred]
  exact wi_t (nI_pos (by omega)) (nI_nlt (by omega) (by omega))
set_option maxHeartbeats 1000000 in
set_option maxRecDepth 100000 in
theorem c_X5_holds0 (l : Launch) (D : va_G) (cA : Nat → ClassId) (ad : Nat → Nat) (sz : Nat) (F : FF) : CI l D cA ad sz yX5_holds wsX5_holds 0 0 0 0 [.ref (ad 36), .int 0] F (some (.int 1)) (u2 F 36 0 0) := by
  refine CI_of (own := RX5) (cc := cX5_holds) (maxL := 2) (ret := (some .boolean)) (by decide +kernel) rfl rfl (Nat.le_of_ble_eq_true rfl) ?_
  intro p e s m below meth c ls X S hr hl
  obtain ⟨⟨hx, hb, hml, hown, hts⟩, hE, hI, hlocks⟩ := id X
  have hl : lv_has ls 2 [(0, .ref (ad 36)), (1, .int 0)] := hl
  have hw5 : ∀ w ∈ wsX50, w.before _ s = true := fun w h => hts w ((by decide +kernel : ∀ w ∈ wsX50, w ∈ wsX5_holds) w h)
  refine lv_aload_n hx hb dX5_holds_0 rfl (lv_at hl 0 rfl) ?_
  refine lv_iload_n hx hb dX5_holds_1 rfl (lv_at hl 1 rfl) ?_
  refine r_puti X S hw5 ob_M 0 ⟨rfl, by decide, rfl⟩ rfl (hts (.fieldLink RX5 87 "TermBillModel" "thrown" "I") (by decide +kernel)) tyX5 tyX5_ok nmX5 rfl rfl dX5_holds_2 (fun H locs S => ?_)
  obtain ⟨F_1, eF_1⟩ : ∃ z, z = u2 F 36 0 0 := ⟨_, rfl⟩
  rw [← eF_1] at S
  refine lv_iload_n hx hb dX5_holds_5 rfl (lv_at hl 1 rfl) ?_
  refine lv_if_ne (tgt := 13) hx hb dX5_holds_6 (by decide) (fun z => False.elim (by first | exact absurd z (by decide) | exact absurd (by decide) z)) (fun _ => ?_)
  refine lv_iconst (v := 1) hx hb dX5_holds_9 (by decide) ?_
  refine lv_goto (tgt := 14) hx hb dX5_holds_10 (by decide) ?_
  exact r_zret X S hr rfl dX5_holds_14 (Nat.le_of_ble_eq_true rfl) (Nat.le_of_ble_eq_true rfl) rfl eF_1

set_option maxHeartbeats 1000000 in
set_option maxRecDepth 100000 in
theorem c_X5_holdsn (l : Launch) (D : va_G) (cA : Nat → ClassId) (ad : Nat → Nat) (sz : Nat) (F : FF) (p9 : Int32) (h : ¬ p9 = 0) : CI l D cA ad sz yX5_holds wsX5_holds 0 0 0 0 [.ref (ad 36), .int p9] F (some (.int 0)) (u2 F 36 0 p9) := by
  refine CI_of (own := RX5) (cc := cX5_holds) (maxL := 2) (ret := (some .boolean)) (by decide +kernel) rfl rfl (Nat.le_of_ble_eq_true rfl) ?_
  intro p e s m below meth c ls X S hr hl
  obtain ⟨⟨hx, hb, hml, hown, hts⟩, hE, hI, hlocks⟩ := id X
  have hl : lv_has ls 2 [(0, .ref (ad 36)), (1, .int p9)] := hl
  have hw5 : ∀ w ∈ wsX50, w.before _ s = true := fun w h => hts w ((by decide +kernel : ∀ w ∈ wsX50, w ∈ wsX5_holds) w h)
  refine lv_aload_n hx hb dX5_holds_0 rfl (lv_at hl 0 rfl) ?_
  refine lv_iload_n hx hb dX5_holds_1 rfl (lv_at hl 1 rfl) ?_
  refine r_puti X S hw5 ob_M 0 ⟨rfl, by decide, rfl⟩ rfl (hts (.fieldLink RX5 87 "TermBillModel" "thrown" "I") (by decide +kernel)) tyX5 tyX5_ok nmX5 rfl rfl dX5_holds_2 (fun H locs S => ?_)
  obtain ⟨F_1, eF_1⟩ : ∃ z, z = u2 F 36 0 p9 := ⟨_, rfl⟩
  rw [← eF_1] at S
  refine lv_iload_n hx hb dX5_holds_5 rfl (lv_at hl 1 rfl) ?_
  refine lv_if_ne (tgt := 13) hx hb dX5_holds_6 (by decide) (fun _ => ?_) (fun z => False.elim (h z))
  refine lv_iconst (v := 0) hx hb dX5_holds_13 (by decide) ?_
  exact r_zret X S hr rfl dX5_holds_14 (Nat.le_of_ble_eq_true rfl) (Nat.le_of_ble_eq_true rfl) rfl eF_1

set_option maxHeartbeats 1000000 in
set_option maxRecDepth 100000 in
theorem c_X5_thrown (l : Launch) (D : va_G) (cA : Nat → ClassId) (ad : Nat → Nat) (sz : Nat) (F : FF) : CI l D cA ad sz yX5_thrown wsX5_thrown 0 0 0 0 [.ref (ad 36)] F (some (.int (F 36 0))) F := by
  refine CI_of (own := RX5) (cc := cX5_thrown) (maxL := 1) (ret := (some .int)) (by decide +kernel) rfl rfl (Nat.le_of_ble_eq_true rfl) ?_
  intro p e s m below meth c ls X S hr hl
  obtain ⟨⟨hx, hb, hml, hown, hts⟩, hE, hI, hlocks⟩ := id X
  have hl : lv_has ls 1 [(0, .ref (ad 36))] := hl
  have hw5 : ∀ w ∈ wsX50, w.before _ s = true := fun w h => hts w ((by decide +kernel : ∀ w ∈ wsX50, w ∈ wsX5_thrown) w h)
  refine lv_aload_n hx hb dX5_thrown_0 rfl (lv_at hl 0 rfl) ?_
  refine r_geti X S hw5 ob_M 0 ⟨rfl, by decide, rfl⟩ rfl (hts (.fieldLink RX5 87 "TermBillModel" "thrown" "I") (by decide +kernel)) dX5_thrown_1 ?_
  exact r_iret X S hr dX5_thrown_4 (Nat.le_of_ble_eq_true rfl) (Nat.le_of_ble_eq_true rfl) rfl rfl

set_option maxHeartbeats 1000000 in
set_option maxRecDepth 100000 in
theorem c_X5_isStudent (l : Launch) (D : va_G) (cA : Nat → ClassId) (ad : Nat → Nat) (sz : Nat) (F : FF) (x : Int32) : CI l D cA ad sz yX5_isStudent wsX5_isStudent 1 22 0 0 [.int x] F (some (.int (bI (wi x 0 3)))) F := by
  refine CI_of (own := RX5) (cc := cX5_isStudent) (maxL := 1) (ret := (some .boolean)) (by decide +kernel) rfl rfl (Nat.le_of_ble_eq_true rfl) ?_
  intro p e s m below meth c ls X S hr hl
  obtain ⟨⟨hx, hb, hml, hown, hts⟩, hE, hI, hlocks⟩ := id X
  have hl : lv_has ls 1 [(0, .int x)] := hl
  refine lv_iload_n hx hb dX5_isStudent_0 rfl (lv_at hl 0 rfl) ?_
  refine lv_iconst (v := 0) hx hb dX5_isStudent_1 (by decide) ?_
  refine lv_iconst (v := 3) hx hb dX5_isStudent_2 (by decide) ?_
  refine r_S0 X S (c_X5_in l D cA ad _ F x 0 3) (va_cwS 3 hts gX5_isStudent_X5_in rfl rfl rfl (by decide +kernel) ⟨Nat.le_of_ble_eq_true rfl, Nat.le_of_ble_eq_true rfl⟩) rfl hl.1 rfl (Nat.le_of_ble_eq_true rfl) dX5_isStudent_3 ⟨Nat.zero_le _, Nat.zero_le _⟩ (fun H locs S => ?_)
  exact r_zret X S hr (bI_narrow _) dX5_isStudent_6 (Nat.le_of_ble_eq_true rfl) (Nat.le_of_ble_eq_true rfl) rfl rfl

set_option maxHeartbeats 1000000 in
set_option maxRecDepth 100000 in
theorem c_X5_least (l : Launch) (D : va_G) (cA : Nat → ClassId) (ad : Nat → Nat) (sz : Nat) (F : FF) (a b : Int32) : CI l D cA ad sz yX5_least wsX5_least 0 0 0 0 [.int a, .int b] F (some (.int (mn a b))) F := by
  refine CI_of (own := RX5) (cc := cX5_least) (maxL := 2) (ret := (some .int)) (by decide +kernel) rfl rfl (Nat.le_of_ble_eq_true rfl) ?_
  intro p e s m below meth c ls X S hr hl
  obtain ⟨⟨hx, hb, hml, hown, hts⟩, hE, hI, hlocks⟩ := id X
  have hl : lv_has ls 2 [(0, .int a), (1, .int b)] := hl
  refine lv_iload_n hx hb dX5_least_0 rfl (lv_at hl 0 rfl) ?_
  refine lv_iload_n hx hb dX5_least_1 rfl (lv_at hl 1 rfl) ?_
  refine lv_icmp_ge (tgt := 9) hx hb dX5_least_2 (by decide) (fun c_1 => ?_) (fun c_1 => ?_)
  · refine lv_iload_n hx hb dX5_least_9 rfl (lv_at hl 1 rfl) ?_
    exact r_iret X S hr dX5_least_10 (Nat.le_of_ble_eq_true rfl) (Nat.le_of_ble_eq_true rfl) (mn_1 c_1) rfl
  · refine lv_iload_n hx hb dX5_least_5 rfl (lv_at hl 0 rfl) ?_
    refine lv_goto (tgt := 10) hx hb dX5_least_6 (by decide) ?_
    exact r_iret X S hr dX5_least_10 (Nat.le_of_ble_eq_true rfl) (Nat.le_of_ble_eq_true rfl) (mn_2 c_1) rfl

set_option maxHeartbeats 1000000 in
set_option maxRecDepth 100000 in
theorem c_X5_rateOf (l : Launch) (D : va_G) (cA : Nat → ClassId) (ad : Nat → Nat) (sz : Nat) (F : FF) (a z9 : Int32) (h : a = 0 ∨ a = 1) : CI l D cA ad sz yX5_rateOf wsX5_rateOf 0 0 0 0 [.int a, .int z9] F (some (.int (nI (plc a z9)))) F := by
  refine CI_of (own := RX5) (cc := cX5_rateOf) (maxL := 2) (ret := (some .int)) (by decide +kernel) rfl rfl (Nat.le_of_ble_eq_true rfl) ?_
  intro p e s m below meth c ls X S hr hl
  obtain ⟨⟨hx, hb, hml, hown, hts⟩, hE, hI, hlocks⟩ := id X
  have hl : lv_has ls 2 [(0, .int a), (1, .int z9)] := hl
  refine lv_iconst (v := 2) hx hb dX5_rateOf_0 (by decide) ?_
  refine lv_iload_n hx hb dX5_rateOf_1 rfl (lv_at hl 0 rfl) ?_
  refine lv_imul hx hb dX5_rateOf_2 ?_
  refine lv_iload_n hx hb dX5_rateOf_3 rfl (lv_at hl 1 rfl) ?_
  refine lv_if_eq (tgt := 11) hx hb dX5_rateOf_4 (by decide) (fun c_1 => ?_) (fun c_1 => ?_)
  · refine lv_iconst (v := 0) hx hb dX5_rateOf_11 (by decide) ?_
    refine lv_iadd hx hb dX5_rateOf_12 ?_
    exact r_iret X S hr dX5_rateOf_13 (Nat.le_of_ble_eq_true rfl) (Nat.le_of_ble_eq_true rfl) (rof_0 h c_1) rfl
  · refine lv_iconst (v := 1) hx hb dX5_rateOf_7 (by decide) ?_
    refine lv_goto (tgt := 12) hx hb dX5_rateOf_8 (by decide) ?_
    refine lv_iadd hx hb dX5_rateOf_12 ?_
    exact r_iret X S hr dX5_rateOf_13 (Nat.le_of_ble_eq_true rfl) (Nat.le_of_ble_eq_true rfl) (rof_1 h c_1) rfl

set_option maxHeartbeats 1000000 in
set_option maxRecDepth 100000 in
theorem c_X5_creditsOf (l : Launch) (D : va_G) (cA : Nat → ClassId) (ad : Nat → Nat) (sz : Nat) (F : FF) (i : Nat) (hi : i < 4) (hM : OKM F i) : CI l D cA ad sz yX5_creditsOf wsX5_creditsOf 0 0 0 0 [.ref (ad 36), .int (nI i)] F (some (.int (mcr F i (tM F i)))) F := by
  refine CI_of (own := RX5) (cc := cX5_creditsOf) (maxL := 4) (ret := (some .int)) (by decide +kernel) rfl rfl (Nat.le_of_ble_eq_true rfl) ?_
  intro p e s m below meth c ls X S hr hl
  obtain ⟨⟨hx, hb, hml, hown, hts⟩, hE, hI, hlocks⟩ := id X
  have hl : lv_has ls 4 [(0, .ref (ad 36)), (1, .int (nI i))] := hl
  have hw5 : ∀ w ∈ wsX50, w.before _ s = true := fun w h => hts w ((by decide +kernel : ∀ w ∈ wsX50, w ∈ wsX5_creditsOf) w h)
  have loop : ∀ (q n : Nat), n + q = tM F i → ∀ (H : Heap) (locs : List Loc) (ls : Array Slot), St D cA ad F s.heap H locs → lv_has ls 4 [(0, .ref (ad 36)), (1, .int (nI i)), (2, .int (mcr F i n)), (3, .int (nI (8 * i + n)))] → W p l e (RM 0 0 0 0) s m [.ref (ad 36), .int (nI i)].toArray below meth c H locs 0 0 (MQ below (CQ D cA ad s.heap.size F (some (.int (mcr F i (tM F i))))) [.ref (ad 36), .int (nI i)].toArray s 0 0 (AA ad s.heap.size)) (F0 m 7 ls []) := by
    intro q
    induction q with
    | zero =>
      intro n hn H locs ls S hl
      obtain rfl : n = tM F i := by omega
      refine lv_iload_n hx hb dX5_creditsOf_7 rfl (lv_at hl 3 rfl) ?_
      refine lv_bipush (v := 8) hx hb dX5_creditsOf_8 (by decide) ?_
      refine lv_iload_n hx hb dX5_creditsOf_10 rfl (lv_at hl 1 rfl) ?_
      refine lv_imul hx hb dX5_creditsOf_11 ?_
      refine lv_topi (fun x_1 ex_1 => ?_)
      obtain rfl : x_1 = nI (8 * i) := ex_1.trans (nI_mul 8 i)
      refine lv_aload_n hx hb dX5_creditsOf_12 rfl (lv_at hl 0 rfl) ?_
      refine r_getr (q := 44) X S hw5 ob_M 14 ⟨rfl, by decide, rfl⟩ rfl (hts (.fieldLink RX5 42 "TermBillModel" "courses" "[I") (by decide +kernel)) dX5_creditsOf_13 ?_
      refine lv_iload_n hx hb dX5_creditsOf_16 rfl (lv_at hl 1 rfl) ?_
      refine r_ialN X S (k := 44) (n := 4) (by unfold Ar; decide) (q := i) rfl (by omega) (by decide) dX5_creditsOf_17 ?_
      rw [show F 44 i = nI (tM F i) from hM.2.1.2]
      refine lv_iadd hx hb dX5_creditsOf_18 ?_
      refine lv_topi (fun x_2 ex_2 => ?_)
      obtain rfl : x_2 = nI ((8 * i) + (tM F i)) := ex_2.trans (nI_add (8 * i) (tM F i))
      refine lv_icmp_ge (tgt := 50) hx hb dX5_creditsOf_19 (by decide) (fun _ => ?_) (fun z => False.elim (z (Int32.le_refl _)))
      refine lv_iload_n hx hb dX5_creditsOf_50 rfl (lv_at hl 2 rfl) ?_
      exact r_iret X S hr dX5_creditsOf_51 (Nat.le_of_ble_eq_true rfl) (Nat.le_of_ble_eq_true rfl) rfl rfl
    | succ q ih =>
      intro n hn H locs ls S hl
      refine lv_iload_n hx hb dX5_creditsOf_7 rfl (lv_at hl 3 rfl) ?_
      refine lv_bipush (v := 8) hx hb dX5_creditsOf_8 (by decide) ?_
      refine lv_iload_n hx hb dX5_creditsOf_10 rfl (lv_at hl 1 rfl) ?_
      refine lv_imul hx hb dX5_creditsOf_11 ?_
      refine lv_topi (fun x_3 ex_3 => ?_)
      obtain rfl : x_3 = nI (8 * i) := ex_3.trans (nI_mul 8 i)
      refine lv_aload_n hx hb dX5_creditsOf_12 rfl (lv_at hl 0 rfl) ?_
      refine r_getr (q := 44) X S hw5 ob_M 14 ⟨rfl, by decide, rfl⟩ rfl (hts (.fieldLink RX5 42 "TermBillModel" "courses" "[I") (by decide +kernel)) dX5_creditsOf_13 ?_
      refine lv_iload_n hx hb dX5_creditsOf_16 rfl (lv_at hl 1 rfl) ?_
      refine r_ialN X S (k := 44) (n := 4) (by unfold Ar; decide) (q := i) rfl (by omega) (by decide) dX5_creditsOf_17 ?_
      rw [show F 44 i = nI (tM F i) from hM.2.1.2]
      refine lv_iadd hx hb dX5_creditsOf_18 ?_
      refine lv_topi (fun x_4 ex_4 => ?_)
      obtain rfl : x_4 = nI ((8 * i) + (tM F i)) := ex_4.trans (nI_add (8 * i) (tM F i))
      refine lv_icmp_ge (tgt := 50) hx hb dX5_creditsOf_19 (by decide) (fun z => False.elim (nI_ge (a := 8 * i + n) (b := 8 * i + tM F i) (by omega) (by have := hM.2.1.1; omega) z)) (fun _ => ?_)
      refine lv_iload_n hx hb dX5_creditsOf_22 rfl (lv_at hl 2 rfl) ?_
      refine lv_aload_n hx hb dX5_creditsOf_23 rfl (lv_at hl 0 rfl) ?_
      refine r_getr (q := 46) X S hw5 ob_M 16 ⟨rfl, by decide, rfl⟩ rfl (hts (.fieldLink RX5 48 "TermBillModel" "areDropped" "[Z") (by decide +kernel)) dX5_creditsOf_24 ?_
      refine lv_iload_n hx hb dX5_creditsOf_27 rfl (lv_at hl 3 rfl) ?_
      refine r_zalN X S (k := 46) (n := 32) (by unfold Ar; decide) (q := 8 * i + n) rfl (by have := hM.2.1.1; omega) (by decide) dX5_creditsOf_28 ?_
      refine lv_if_eq (tgt := 36) hx hb dX5_creditsOf_29 (by decide) (fun c_5 => ?_) (fun c_5 => ?_)
      · refine lv_aload_n hx hb dX5_creditsOf_36 rfl (lv_at hl 0 rfl) ?_
        refine r_getr (q := 45) X S hw5 ob_M 15 ⟨rfl, by decide, rfl⟩ rfl (hts (.fieldLink RX5 45 "TermBillModel" "credits" "[I") (by decide +kernel)) dX5_creditsOf_37 ?_
        refine lv_iload_n hx hb dX5_creditsOf_40 rfl (lv_at hl 3 rfl) ?_
        refine r_ialN X S (k := 45) (n := 32) (by unfold Ar; decide) (q := 8 * i + n) rfl (by have := hM.2.1.1; omega) (by decide) dX5_creditsOf_41 ?_
        refine lv_iadd hx hb dX5_creditsOf_42 ?_
        refine lv_istore_n (lv' := [(2, .int ((mcr F i n) + (F 45 (8 * i + n)))), (0, .ref (ad 36)), (1, .int (nI i)), (3, .int (nI (8 * i + n)))]) hx hb dX5_creditsOf_43 rfl hl (by decide) rfl (fun ls hl => ?_)
        refine lv_iinc (v := nI (8 * i + n + 1)) (lv' := [(3, .int (nI (8 * i + n + 1))), (2, .int ((mcr F i n) + (F 45 (8 * i + n)))), (0, .ref (ad 36)), (1, .int (nI i))]) hx hb dX5_creditsOf_44 hl (k := 3) rfl (nI_add _ _) (by decide) rfl (fun ls hl => ?_)
        refine lv_goto (tgt := 7) hx hb dX5_creditsOf_47 (by decide) ?_
        rw [show (mcr F i n) + (F 45 (8 * i + n)) = mcr F i (n + 1) from (by show _ = mcr F i n + (if F 46 (8 * i + n) = 0 then F 45 (8 * i + n) else 0); rw [if_pos c_5])] at hl
        exact ih (n + 1) (by omega) H locs ls S (lv_sub hl [2, 3, 1, 0] rfl)
      · refine lv_iconst (v := 0) hx hb dX5_creditsOf_32 (by decide) ?_
        refine lv_goto (tgt := 42) hx hb dX5_creditsOf_33 (by decide) ?_
        refine lv_iadd hx hb dX5_creditsOf_42 ?_
        refine lv_istore_n (lv' := [(2, .int ((mcr F i n) + 0)), (0, .ref (ad 36)), (1, .int (nI i)), (3, .int (nI (8 * i + n)))]) hx hb dX5_creditsOf_43 rfl hl (by decide) rfl (fun ls hl => ?_)
        refine lv_iinc (v := nI (8 * i + n + 1)) (lv' := [(3, .int (nI (8 * i + n + 1))), (2, .int ((mcr F i n) + 0)), (0, .ref (ad 36)), (1, .int (nI i))]) hx hb dX5_creditsOf_44 hl (k := 3) rfl (nI_add _ _) (by decide) rfl (fun ls hl => ?_)
        refine lv_goto (tgt := 7) hx hb dX5_creditsOf_47 (by decide) ?_
        rw [show (mcr F i n) + 0 = mcr F i (n + 1) from (by show _ = mcr F i n + (if F 46 (8 * i + n) = 0 then F 45 (8 * i + n) else 0); rw [if_neg c_5])] at hl
        exact ih (n + 1) (by omega) H locs ls S (lv_sub hl [2, 3, 1, 0] rfl)
  refine lv_iconst (v := 0) hx hb dX5_creditsOf_0 (by decide) ?_
  refine lv_istore_n (lv' := [(2, .int 0), (0, .ref (ad 36)), (1, .int (nI i))]) hx hb dX5_creditsOf_1 rfl hl (by decide) rfl (fun ls hl => ?_)
  refine lv_bipush (v := 8) hx hb dX5_creditsOf_2 (by decide) ?_
  refine lv_iload_n hx hb dX5_creditsOf_4 rfl (lv_at hl 2 rfl) ?_
  refine lv_imul hx hb dX5_creditsOf_5 ?_
  refine lv_topi (fun x_6 ex_6 => ?_)
  obtain rfl : x_6 = nI (8 * i) := ex_6.trans (nI_mul 8 i)
  refine lv_istore_n (lv' := [(3, .int (nI (8 * i))), (2, .int 0), (0, .ref (ad 36)), (1, .int (nI i))]) hx hb dX5_creditsOf_6 rfl hl (by decide) rfl (fun ls hl => ?_)
  exact loop (tM F i) 0 (by omega) _ _ ls S (lv_sub hl [2, 3, 1, 0] rfl)

set_option maxHeartbeats 1000000 in
set_option maxRecDepth 100000 in
theorem c_X5_price (l : Launch) (D : va_G) (cA : Nat → ClassId) (ad : Nat → Nat) (sz : Nat) (F : FF) (i : Nat) (hi : i < 4) (hM : OKM F i) (c9 : Int32) : CI l D cA ad sz yX5_price wsX5_price 1 21 0 0 [.ref (ad 36), .int (nI i), .int c9] F (some (.int (prM F i c9))) F := by
  refine CI_of (own := RX5) (cc := cX5_price) (maxL := 4) (ret := (some .int)) (by decide +kernel) rfl rfl (Nat.le_of_ble_eq_true rfl) ?_
  intro p e s m below meth c ls X S hr hl
  obtain ⟨⟨hx, hb, hml, hown, hts⟩, hE, hI, hlocks⟩ := id X
  have hl : lv_has ls 4 [(0, .ref (ad 36)), (1, .int (nI i)), (2, .int c9)] := hl
  have hw5 : ∀ w ∈ wsX50, w.before _ s = true := fun w h => hts w ((by decide +kernel : ∀ w ∈ wsX50, w ∈ wsX5_price) w h)
  refine lv_iload_n hx hb dX5_price_0 rfl (lv_at hl 2 rfl) ?_
  refine lv_aload_n hx hb dX5_price_1 rfl (lv_at hl 0 rfl) ?_
  refine r_geti X S hw5 ob_M 4 ⟨rfl, by decide, rfl⟩ rfl (hts (.fieldLink RX5 13 "TermBillModel" "from" "I") (by decide +kernel)) dX5_price_2 ?_
  refine lv_icmp_gt (tgt := 12) hx hb dX5_price_5 (by decide) (fun c_1 => ?_) (fun c_1 => ?_)
  · refine lv_iload_n hx hb dX5_price_12 rfl (lv_at hl 2 rfl) ?_
    refine lv_aload_n hx hb dX5_price_13 rfl (lv_at hl 0 rfl) ?_
    refine r_geti X S hw5 ob_M 5 ⟨rfl, by decide, rfl⟩ rfl (hts (.fieldLink RX5 17 "TermBillModel" "to" "I") (by decide +kernel)) dX5_price_14 ?_
    refine lv_icmp_gt (tgt := 27) hx hb dX5_price_17 (by decide) (fun c_2 => ?_) (fun c_2 => ?_)
    · refine lv_aload_n hx hb dX5_price_27 rfl (lv_at hl 0 rfl) ?_
      refine r_geti X S hw5 ob_M 4 ⟨rfl, by decide, rfl⟩ rfl (hts (.fieldLink RX5 13 "TermBillModel" "from" "I") (by decide +kernel)) dX5_price_28 ?_
      refine lv_iload_n hx hb dX5_price_31 rfl (lv_at hl 2 rfl) ?_
      refine lv_iadd hx hb dX5_price_32 ?_
      refine lv_aload_n hx hb dX5_price_33 rfl (lv_at hl 0 rfl) ?_
      refine r_geti X S hw5 ob_M 5 ⟨rfl, by decide, rfl⟩ rfl (hts (.fieldLink RX5 17 "TermBillModel" "to" "I") (by decide +kernel)) dX5_price_34 ?_
      refine lv_isub hx hb dX5_price_37 ?_
      refine lv_istore_n (lv' := [(3, .int (((F 36 4) + c9) - (F 36 5))), (0, .ref (ad 36)), (1, .int (nI i)), (2, .int c9)]) hx hb dX5_price_38 rfl hl (by decide) rfl (fun ls hl => ?_)
      refine lv_iload_n hx hb dX5_price_39 rfl (lv_at hl 0 rfl) ?_
      refine lv_aload_n hx hb dX5_price_40 rfl (lv_at hl 1 rfl) ?_
      refine r_getr (q := 37) X S hw5 ob_M 3 ⟨rfl, by decide, rfl⟩ rfl (hts (.fieldLink RX5 7 "TermBillModel" "rates" "[I") (by decide +kernel)) dX5_price_41 ?_
      refine lv_aload_n hx hb dX5_price_44 rfl (lv_at hl 1 rfl) ?_
      refine r_getr (q := 39) X S hw5 ob_M 9 ⟨rfl, by decide, rfl⟩ rfl (hts (.fieldLink RX5 26 "TermBillModel" "levels" "[I") (by decide +kernel)) dX5_price_45 ?_
      refine lv_iload_n hx hb dX5_price_48 rfl (lv_at hl 2 rfl) ?_
      refine r_ialN X S (k := 39) (n := 4) (by unfold Ar; decide) (q := i) rfl (by omega) (by decide) dX5_price_49 ?_
      refine lv_aload_n hx hb dX5_price_50 rfl (lv_at hl 1 rfl) ?_
      refine r_getr (q := 40) X S hw5 ob_M 10 ⟨rfl, by decide, rfl⟩ rfl (hts (.fieldLink RX5 29 "TermBillModel" "areResident" "[Z") (by decide +kernel)) dX5_price_51 ?_
      refine lv_iload_n hx hb dX5_price_54 rfl (lv_at hl 2 rfl) ?_
      refine r_zalN X S (k := 40) (n := 4) (by unfold Ar; decide) (q := i) rfl (by omega) (by decide) dX5_price_55 ?_
      refine r_S0 X S (c_X5_rateOf l D cA ad _ F (F 39 i) (F 40 i) hM.1) (va_cwS 2 hts gX5_price_X5_rateOf rfl rfl rfl (by decide +kernel) ⟨Nat.le_of_ble_eq_true rfl, Nat.le_of_ble_eq_true rfl⟩) rfl hl.1 rfl (Nat.le_of_ble_eq_true rfl) dX5_price_56 ⟨Nat.zero_le _, Nat.zero_le _⟩ (fun H locs S => ?_)
      refine r_ialN X S (k := 37) (n := 4) (by unfold Ar; decide) (q := plc (F 39 i) (F 40 i)) rfl (plc_lt _ _) (by decide) dX5_price_59 ?_
      refine lv_imul hx hb dX5_price_60 ?_
      exact r_iret X S hr dX5_price_61 (Nat.le_of_ble_eq_true rfl) (Nat.le_of_ble_eq_true rfl) (by unfold prM pcl rtM; simp only [c_1, c_2, ↓reduceIte]) rfl
    · refine lv_aload_n hx hb dX5_price_20 rfl (lv_at hl 0 rfl) ?_
      refine r_geti X S hw5 ob_M 4 ⟨rfl, by decide, rfl⟩ rfl (hts (.fieldLink RX5 13 "TermBillModel" "from" "I") (by decide +kernel)) dX5_price_21 ?_
      refine lv_goto (tgt := 38) hx hb dX5_price_24 (by decide) ?_
      refine lv_istore_n (lv' := [(3, .int (F 36 4)), (0, .ref (ad 36)), (1, .int (nI i)), (2, .int c9)]) hx hb dX5_price_38 rfl hl (by decide) rfl (fun ls hl => ?_)
      refine lv_iload_n hx hb dX5_price_39 rfl (lv_at hl 0 rfl) ?_
      refine lv_aload_n hx hb dX5_price_40 rfl (lv_at hl 1 rfl) ?_
      refine r_getr (q := 37) X S hw5 ob_M 3 ⟨rfl, by decide, rfl⟩ rfl (hts (.fieldLink RX5 7 "TermBillModel" "rates" "[I") (by decide +kernel)) dX5_price_41 ?_
      refine lv_aload_n hx hb dX5_price_44 rfl (lv_at hl 1 rfl) ?_
      refine r_getr (q := 39) X S hw5 ob_M 9 ⟨rfl, by decide, rfl⟩ rfl (hts (.fieldLink RX5 26 "TermBillModel" "levels" "[I") (by decide +kernel)) dX5_price_45 ?_
      refine lv_iload_n hx hb dX5_price_48 rfl (lv_at hl 2 rfl) ?_
      refine r_ialN X S (k := 39) (n := 4) (by unfold Ar; decide) (q := i) rfl (by omega) (by decide) dX5_price_49 ?_
      refine lv_aload_n hx hb dX5_price_50 rfl (lv_at hl 1 rfl) ?_
      refine r_getr (q := 40) X S hw5 ob_M 10 ⟨rfl, by decide, rfl⟩ rfl (hts (.fieldLink RX5 29 "TermBillModel" "areResident" "[Z") (by decide +kernel)) dX5_price_51 ?_
      refine lv_iload_n hx hb dX5_price_54 rfl (lv_at hl 2 rfl) ?_
      refine r_zalN X S (k := 40) (n := 4) (by unfold Ar; decide) (q := i) rfl (by omega) (by decide) dX5_price_55 ?_
      refine r_S0 X S (c_X5_rateOf l D cA ad _ F (F 39 i) (F 40 i) hM.1) (va_cwS 2 hts gX5_price_X5_rateOf rfl rfl rfl (by decide +kernel) ⟨Nat.le_of_ble_eq_true rfl, Nat.le_of_ble_eq_true rfl⟩) rfl hl.1 rfl (Nat.le_of_ble_eq_true rfl) dX5_price_56 ⟨Nat.zero_le _, Nat.zero_le _⟩ (fun H locs S => ?_)
      refine r_ialN X S (k := 37) (n := 4) (by unfold Ar; decide) (q := plc (F 39 i) (F 40 i)) rfl (plc_lt _ _) (by decide) dX5_price_59 ?_
      refine lv_imul hx hb dX5_price_60 ?_
      exact r_iret X S hr dX5_price_61 (Nat.le_of_ble_eq_true rfl) (Nat.le_of_ble_eq_true rfl) (by unfold prM pcl rtM; simp only [c_1, c_2, ↓reduceIte]) rfl
  · refine lv_iload_n hx hb dX5_price_8 rfl (lv_at hl 2 rfl) ?_
    refine lv_goto (tgt := 38) hx hb dX5_price_9 (by decide) ?_
    refine lv_istore_n (lv' := [(3, .int c9), (0, .ref (ad 36)), (1, .int (nI i)), (2, .int c9)]) hx hb dX5_price_38 rfl hl (by decide) rfl (fun ls hl => ?_)
    refine lv_iload_n hx hb dX5_price_39 rfl (lv_at hl 0 rfl) ?_
    refine lv_aload_n hx hb dX5_price_40 rfl (lv_at hl 1 rfl) ?_
    refine r_getr (q := 37) X S hw5 ob_M 3 ⟨rfl, by decide, rfl⟩ rfl (hts (.fieldLink RX5 7 "TermBillModel" "rates" "[I") (by decide +kernel)) dX5_price_41 ?_
    refine lv_aload_n hx hb dX5_price_44 rfl (lv_at hl 1 rfl) ?_
    refine r_getr (q := 39) X S hw5 ob_M 9 ⟨rfl, by decide, rfl⟩ rfl (hts (.fieldLink RX5 26 "TermBillModel" "levels" "[I") (by decide +kernel)) dX5_price_45 ?_
    refine lv_iload_n hx hb dX5_price_48 rfl (lv_at hl 2 rfl) ?_
    refine r_ialN X S (k := 39) (n := 4) (by unfold Ar; decide) (q := i) rfl (by omega) (by decide) dX5_price_49 ?_
    refine lv_aload_n hx hb dX5_price_50 rfl (lv_at hl 1 rfl) ?_
    refine r_getr (q := 40) X S hw5 ob_M 10 ⟨rfl, by decide, rfl⟩ rfl (hts (.fieldLink RX5 29 "TermBillModel" "areResident" "[Z") (by decide +kernel)) dX5_price_51 ?_
    refine lv_iload_n hx hb dX5_price_54 rfl (lv_at hl 2 rfl) ?_
    refine r_zalN X S (k := 40) (n := 4) (by unfold Ar; decide) (q := i) rfl (by omega) (by decide) dX5_price_55 ?_
    refine r_S0 X S (c_X5_rateOf l D cA ad _ F (F 39 i) (F 40 i) hM.1) (va_cwS 2 hts gX5_price_X5_rateOf rfl rfl rfl (by decide +kernel) ⟨Nat.le_of_ble_eq_true rfl, Nat.le_of_ble_eq_true rfl⟩) rfl hl.1 rfl (Nat.le_of_ble_eq_true rfl) dX5_price_56 ⟨Nat.zero_le _, Nat.zero_le _⟩ (fun H locs S => ?_)
    refine r_ialN X S (k := 37) (n := 4) (by unfold Ar; decide) (q := plc (F 39 i) (F 40 i)) rfl (plc_lt _ _) (by decide) dX5_price_59 ?_
    refine lv_imul hx hb dX5_price_60 ?_
    exact r_iret X S hr dX5_price_61 (Nat.le_of_ble_eq_true rfl) (Nat.le_of_ble_eq_true rfl) (by unfold prM pcl rtM; simp only [c_1, ↓reduceIte]) rfl

set_option maxHeartbeats 1000000 in
set_option maxRecDepth 100000 in
theorem c_X5_chargedOf0 (l : Launch) (D : va_G) (cA : Nat → ClassId) (ad : Nat → Nat) (sz : Nat) (F : FF) (i : Nat) (hi : i < 4) (hM : OKM F i) : CI l D cA ad sz yX5_chargedOf wsX5_chargedOf 2 44 0 0 [.ref (ad 36), .int (nI i), .int 0] F (some (.int (tuM F i))) F := by
  refine CI_of (own := RX5) (cc := cX5_chargedOf) (maxL := 3) (ret := (some .int)) (by decide +kernel) rfl rfl (Nat.le_of_ble_eq_true rfl) ?_
  intro p e s m below meth c ls X S hr hl
  obtain ⟨⟨hx, hb, hml, hown, hts⟩, hE, hI, hlocks⟩ := id X
  have hl : lv_has ls 3 [(0, .ref (ad 36)), (1, .int (nI i)), (2, .int 0)] := hl
  have hw5 : ∀ w ∈ wsX50, w.before _ s = true := fun w h => hts w ((by decide +kernel : ∀ w ∈ wsX50, w ∈ wsX5_chargedOf) w h)
  refine lv_iload_n hx hb dX5_chargedOf_0 rfl (lv_at hl 2 rfl) ?_
  refine lv_if_ne (tgt := 24) hx hb dX5_chargedOf_1 (by decide) (fun z => False.elim (by first | exact absurd z (by decide) | exact absurd (by decide) z)) (fun _ => ?_)
  refine lv_aload_n hx hb dX5_chargedOf_4 rfl (lv_at hl 0 rfl) ?_
  refine lv_iload_n hx hb dX5_chargedOf_5 rfl (lv_at hl 1 rfl) ?_
  refine lv_aload_n hx hb dX5_chargedOf_6 rfl (lv_at hl 0 rfl) ?_
  refine lv_iload_n hx hb dX5_chargedOf_7 rfl (lv_at hl 1 rfl) ?_
  refine r_V0 X S (c_X5_creditsOf l D cA ad _ F i hi hM) ob_M rfl (cwV 1 hts gX5_chargedOf_X5_creditsOf rfl rfl rfl (by decide +kernel) ⟨Nat.le_of_ble_eq_true rfl, Nat.le_of_ble_eq_true rfl⟩) rfl hl.1 rfl (Nat.le_of_ble_eq_true rfl) dX5_chargedOf_8 ⟨Nat.zero_le _, Nat.zero_le _⟩ (fun H locs S => ?_)
  refine r_V0 X S (c_X5_price l D cA ad _ F i hi hM (mcr F i (tM F i))) ob_M rfl (cwV 2 hts gX5_chargedOf_X5_price rfl rfl rfl (by decide +kernel) ⟨Nat.le_of_ble_eq_true rfl, Nat.le_of_ble_eq_true rfl⟩) rfl hl.1 rfl (Nat.le_of_ble_eq_true rfl) dX5_chargedOf_11 ⟨Nat.zero_le _, Nat.zero_le _⟩ (fun H locs S => ?_)
  refine lv_aload_n hx hb dX5_chargedOf_14 rfl (lv_at hl 0 rfl) ?_
  refine r_getr (q := 47) X S hw5 ob_M 17 ⟨rfl, by decide, rfl⟩ rfl (hts (.fieldLink RX5 51 "TermBillModel" "kept" "[I") (by decide +kernel)) dX5_chargedOf_15 ?_
  refine lv_iload_n hx hb dX5_chargedOf_18 rfl (lv_at hl 1 rfl) ?_
  refine r_ialN X S (k := 47) (n := 4) (by unfold Ar; decide) (q := i) rfl (by omega) (by decide) dX5_chargedOf_19 ?_
  refine lv_iadd hx hb dX5_chargedOf_20 ?_
  refine lv_goto (tgt := 44) hx hb dX5_chargedOf_21 (by decide) ?_
  exact r_iret X S hr dX5_chargedOf_44 (Nat.le_of_ble_eq_true rfl) (Nat.le_of_ble_eq_true rfl) (by unfold tuM; rfl) rfl

set_option maxHeartbeats 1000000 in
set_option maxRecDepth 100000 in
theorem c_X5_chargedOf1 (l : Launch) (D : va_G) (cA : Nat → ClassId) (ad : Nat → Nat) (sz : Nat) (F : FF) (i : Nat) (hi : i < 4) : CI l D cA ad sz yX5_chargedOf wsX5_chargedOf 0 0 0 0 [.ref (ad 36), .int (nI i), .int 1] F (some (.int (F 48 i))) F := by
  refine CI_of (own := RX5) (cc := cX5_chargedOf) (maxL := 3) (ret := (some .int)) (by decide +kernel) rfl rfl (Nat.le_of_ble_eq_true rfl) ?_
  intro p e s m below meth c ls X S hr hl
  obtain ⟨⟨hx, hb, hml, hown, hts⟩, hE, hI, hlocks⟩ := id X
  have hl : lv_has ls 3 [(0, .ref (ad 36)), (1, .int (nI i)), (2, .int 1)] := hl
  have hw5 : ∀ w ∈ wsX50, w.before _ s = true := fun w h => hts w ((by decide +kernel : ∀ w ∈ wsX50, w ∈ wsX5_chargedOf) w h)
  refine lv_iload_n hx hb dX5_chargedOf_0 rfl (lv_at hl 2 rfl) ?_
  refine lv_if_ne (tgt := 24) hx hb dX5_chargedOf_1 (by decide) (fun _ => ?_) (fun z => False.elim (by first | exact absurd z (by decide) | exact absurd (by decide) z))
  refine lv_iload_n hx hb dX5_chargedOf_24 rfl (lv_at hl 2 rfl) ?_
  refine lv_iconst (v := 1) hx hb dX5_chargedOf_25 (by decide) ?_
  refine lv_icmp_ne (tgt := 38) hx hb dX5_chargedOf_26 (by decide) (fun z => False.elim (by first | exact absurd z (by decide) | exact absurd (by decide) z)) (fun _ => ?_)
  refine lv_aload_n hx hb dX5_chargedOf_29 rfl (lv_at hl 0 rfl) ?_
  refine r_getr (q := 48) X S hw5 ob_M 18 ⟨rfl, by decide, rfl⟩ rfl (hts (.fieldLink RX5 54 "TermBillModel" "fees" "[I") (by decide +kernel)) dX5_chargedOf_30 ?_
  refine lv_iload_n hx hb dX5_chargedOf_33 rfl (lv_at hl 1 rfl) ?_
  refine r_ialN X S (k := 48) (n := 4) (by unfold Ar; decide) (q := i) rfl (by omega) (by decide) dX5_chargedOf_34 ?_
  refine lv_goto (tgt := 44) hx hb dX5_chargedOf_35 (by decide) ?_
  exact r_iret X S hr dX5_chargedOf_44 (Nat.le_of_ble_eq_true rfl) (Nat.le_of_ble_eq_true rfl) (by rfl) rfl

set_option maxHeartbeats 1000000 in
set_option maxRecDepth 100000 in
theorem c_X5_chargedOf2 (l : Launch) (D : va_G) (cA : Nat → ClassId) (ad : Nat → Nat) (sz : Nat) (F : FF) (i : Nat) (hi : i < 4) : CI l D cA ad sz yX5_chargedOf wsX5_chargedOf 0 0 0 0 [.ref (ad 36), .int (nI i), .int 2] F (some (.int (F 49 i))) F := by
  refine CI_of (own := RX5) (cc := cX5_chargedOf) (maxL := 3) (ret := (some .int)) (by decide +kernel) rfl rfl (Nat.le_of_ble_eq_true rfl) ?_
  intro p e s m below meth c ls X S hr hl
  obtain ⟨⟨hx, hb, hml, hown, hts⟩, hE, hI, hlocks⟩ := id X
  have hl : lv_has ls 3 [(0, .ref (ad 36)), (1, .int (nI i)), (2, .int 2)] := hl
  have hw5 : ∀ w ∈ wsX50, w.before _ s = true := fun w h => hts w ((by decide +kernel : ∀ w ∈ wsX50, w ∈ wsX5_chargedOf) w h)
  refine lv_iload_n hx hb dX5_chargedOf_0 rfl (lv_at hl 2 rfl) ?_
  refine lv_if_ne (tgt := 24) hx hb dX5_chargedOf_1 (by decide) (fun _ => ?_) (fun z => False.elim (by first | exact absurd z (by decide) | exact absurd (by decide) z))
  refine lv_iload_n hx hb dX5_chargedOf_24 rfl (lv_at hl 2 rfl) ?_
  refine lv_iconst (v := 1) hx hb dX5_chargedOf_25 (by decide) ?_
  refine lv_icmp_ne (tgt := 38) hx hb dX5_chargedOf_26 (by decide) (fun _ => ?_) (fun z => False.elim (by first | exact absurd z (by decide) | exact absurd (by decide) z))
  refine lv_aload_n hx hb dX5_chargedOf_38 rfl (lv_at hl 0 rfl) ?_
  refine r_getr (q := 49) X S hw5 ob_M 19 ⟨rfl, by decide, rfl⟩ rfl (hts (.fieldLink RX5 57 "TermBillModel" "housing" "[I") (by decide +kernel)) dX5_chargedOf_39 ?_
  refine lv_iload_n hx hb dX5_chargedOf_42 rfl (lv_at hl 1 rfl) ?_
  refine r_ialN X S (k := 49) (n := 4) (by unfold Ar; decide) (q := i) rfl (by omega) (by decide) dX5_chargedOf_43 ?_
  exact r_iret X S hr dX5_chargedOf_44 (Nat.le_of_ble_eq_true rfl) (Nat.le_of_ble_eq_true rfl) (by rfl) rfl

set_option maxHeartbeats 1000000 in
set_option maxRecDepth 100000 in
theorem c_X5_all (l : Launch) (D : va_G) (cA : Nat → ClassId) (ad : Nat → Nat) (sz : Nat) (F : FF) (i : Nat) (hi : i < 4) (hM : OKM F i) : CI l D cA ad sz yX5_all wsX5_all 3 66 0 0 [.ref (ad 36), .int (nI i)] F (some (.int (alM F i))) F := by
  refine CI_of (own := RX5) (cc := cX5_all) (maxL := 2) (ret := (some .int)) (by decide +kernel) rfl rfl (Nat.le_of_ble_eq_true rfl) ?_
  intro p e s m below meth c ls X S hr hl
  obtain ⟨⟨hx, hb, hml, hown, hts⟩, hE, hI, hlocks⟩ := id X
  have hl : lv_has ls 2 [(0, .ref (ad 36)), (1, .int (nI i))] := hl
  refine lv_aload_n hx hb dX5_all_0 rfl (lv_at hl 0 rfl) ?_
  refine lv_iload_n hx hb dX5_all_1 rfl (lv_at hl 1 rfl) ?_
  refine lv_iconst (v := 0) hx hb dX5_all_2 (by decide) ?_
  refine r_V0 X S (c_X5_chargedOf0 l D cA ad _ F i hi hM) ob_M rfl (cwV 2 hts gX5_all_X5_chargedOf rfl rfl rfl (by decide +kernel) ⟨Nat.le_of_ble_eq_true rfl, Nat.le_of_ble_eq_true rfl⟩) rfl hl.1 rfl (Nat.le_of_ble_eq_true rfl) dX5_all_3 ⟨Nat.zero_le _, Nat.zero_le _⟩ (fun H locs S => ?_)
  refine lv_aload_n hx hb dX5_all_6 rfl (lv_at hl 0 rfl) ?_
  refine lv_iload_n hx hb dX5_all_7 rfl (lv_at hl 1 rfl) ?_
  refine lv_iconst (v := 1) hx hb dX5_all_8 (by decide) ?_
  refine r_V0 X S (c_X5_chargedOf1 l D cA ad _ F i hi) ob_M rfl (cwV 2 hts gX5_all_X5_chargedOf rfl rfl rfl (by decide +kernel) ⟨Nat.le_of_ble_eq_true rfl, Nat.le_of_ble_eq_true rfl⟩) rfl hl.1 rfl (Nat.le_of_ble_eq_true rfl) dX5_all_9 ⟨Nat.zero_le _, Nat.zero_le _⟩ (fun H locs S => ?_)
  refine lv_iadd hx hb dX5_all_12 ?_
  refine lv_aload_n hx hb dX5_all_13 rfl (lv_at hl 0 rfl) ?_
  refine lv_iload_n hx hb dX5_all_14 rfl (lv_at hl 1 rfl) ?_
  refine lv_iconst (v := 2) hx hb dX5_all_15 (by decide) ?_
  refine r_V0 X S (c_X5_chargedOf2 l D cA ad _ F i hi) ob_M rfl (cwV 2 hts gX5_all_X5_chargedOf rfl rfl rfl (by decide +kernel) ⟨Nat.le_of_ble_eq_true rfl, Nat.le_of_ble_eq_true rfl⟩) rfl hl.1 rfl (Nat.le_of_ble_eq_true rfl) dX5_all_16 ⟨Nat.zero_le _, Nat.zero_le _⟩ (fun H locs S => ?_)
  refine lv_iadd hx hb dX5_all_19 ?_
  exact r_iret X S hr dX5_all_20 (Nat.le_of_ble_eq_true rfl) (Nat.le_of_ble_eq_true rfl) (by unfold alM; rfl) rfl

set_option maxHeartbeats 1000000 in
set_option maxRecDepth 100000 in
theorem c_X5_sponsoredOf (l : Launch) (D : va_G) (cA : Nat → ClassId) (ad : Nat → Nat) (sz : Nat) (F : FF) (i : Nat) (hi : i < 4) (hM : OKM F i) : CI l D cA ad sz yX5_sponsoredOf wsX5_sponsoredOf 3 66 0 0 [.ref (ad 36), .int (nI i)] F (some (.int (spM F i))) F := by
  refine CI_of (own := RX5) (cc := cX5_sponsoredOf) (maxL := 4) (ret := (some .int)) (by decide +kernel) rfl rfl (Nat.le_of_ble_eq_true rfl) ?_
  intro p e s m below meth c ls X S hr hl
  obtain ⟨⟨hx, hb, hml, hown, hts⟩, hE, hI, hlocks⟩ := id X
  have hl : lv_has ls 4 [(0, .ref (ad 36)), (1, .int (nI i))] := hl
  have hw5 : ∀ w ∈ wsX50, w.before _ s = true := fun w h => hts w ((by decide +kernel : ∀ w ∈ wsX50, w ∈ wsX5_sponsoredOf) w h)
  refine lv_iconst (v := 0) hx hb dX5_sponsoredOf_0 (by decide) ?_
  refine lv_istore_n (lv' := [(2, .int 0), (0, .ref (ad 36)), (1, .int (nI i))]) hx hb dX5_sponsoredOf_1 rfl hl (by decide) rfl (fun ls hl => ?_)
  refine lv_iconst (v := 0) hx hb dX5_sponsoredOf_2 (by decide) ?_
  refine lv_istore_n (lv' := [(3, .int 0), (2, .int 0), (0, .ref (ad 36)), (1, .int (nI i))]) hx hb dX5_sponsoredOf_3 rfl hl (by decide) rfl (fun ls hl => ?_)
  refine lv_iload_n hx hb dX5_sponsoredOf_4 rfl (lv_at hl 0 rfl) ?_
  refine lv_iconst (v := 2) hx hb dX5_sponsoredOf_5 (by decide) ?_
  refine lv_icmp_gt (tgt := 42) hx hb dX5_sponsoredOf_6 (by decide) (fun z => False.elim (by first | exact absurd z (by decide) | exact absurd (by decide) z)) (fun _ => ?_)
  refine lv_iload_n hx hb dX5_sponsoredOf_9 rfl (lv_at hl 1 rfl) ?_
  refine lv_aload_n hx hb dX5_sponsoredOf_10 rfl (lv_at hl 2 rfl) ?_
  refine r_getr (q := 42) X S hw5 ob_M 12 ⟨rfl, by decide, rfl⟩ rfl (hts (.fieldLink RX5 36 "TermBillModel" "sponsorKinds" "[I") (by decide +kernel)) dX5_sponsoredOf_11 ?_
  refine lv_iload_n hx hb dX5_sponsoredOf_14 rfl (lv_at hl 3 rfl) ?_
  refine r_ialN X S (k := 42) (n := 4) (by unfold Ar; decide) (q := i) rfl (by omega) (by decide) dX5_sponsoredOf_15 ?_
  refine lv_iload_n hx hb dX5_sponsoredOf_16 rfl (lv_at hl 0 rfl) ?_
  refine lv_ishr hx hb dX5_sponsoredOf_17 ?_
  refine lv_iconst (v := 1) hx hb dX5_sponsoredOf_18 (by decide) ?_
  refine lv_iand hx hb dX5_sponsoredOf_19 ?_
  refine lv_iconst (v := 1) hx hb dX5_sponsoredOf_20 (by decide) ?_
  refine lv_icmp_ne (tgt := 33) hx hb dX5_sponsoredOf_21 (by decide) (fun c_1 => ?_) (fun c_1 => ?_)
  · refine lv_iconst (v := 0) hx hb dX5_sponsoredOf_33 (by decide) ?_
    refine lv_iadd hx hb dX5_sponsoredOf_34 ?_
    refine lv_istore_n (lv' := [(2, .int (0 + 0)), (3, .int 0), (0, .ref (ad 36)), (1, .int (nI i))]) hx hb dX5_sponsoredOf_35 rfl hl (by decide) rfl (fun ls hl => ?_)
    refine lv_iinc (v := 1) (lv' := [(3, .int 1), (2, .int (0 + 0)), (0, .ref (ad 36)), (1, .int (nI i))]) hx hb dX5_sponsoredOf_36 hl (k := 1) rfl (by decide) (by decide) rfl (fun ls hl => ?_)
    refine lv_goto (tgt := 4) hx hb dX5_sponsoredOf_39 (by decide) ?_
    refine lv_iload_n hx hb dX5_sponsoredOf_4 rfl (lv_at hl 0 rfl) ?_
    refine lv_iconst (v := 2) hx hb dX5_sponsoredOf_5 (by decide) ?_
    refine lv_icmp_gt (tgt := 42) hx hb dX5_sponsoredOf_6 (by decide) (fun z => False.elim (by first | exact absurd z (by decide) | exact absurd (by decide) z)) (fun _ => ?_)
    refine lv_iload_n hx hb dX5_sponsoredOf_9 rfl (lv_at hl 1 rfl) ?_
    refine lv_aload_n hx hb dX5_sponsoredOf_10 rfl (lv_at hl 2 rfl) ?_
    refine r_getr (q := 42) X S hw5 ob_M 12 ⟨rfl, by decide, rfl⟩ rfl (hts (.fieldLink RX5 36 "TermBillModel" "sponsorKinds" "[I") (by decide +kernel)) dX5_sponsoredOf_11 ?_
    refine lv_iload_n hx hb dX5_sponsoredOf_14 rfl (lv_at hl 3 rfl) ?_
    refine r_ialN X S (k := 42) (n := 4) (by unfold Ar; decide) (q := i) rfl (by omega) (by decide) dX5_sponsoredOf_15 ?_
    refine lv_iload_n hx hb dX5_sponsoredOf_16 rfl (lv_at hl 0 rfl) ?_
    refine lv_ishr hx hb dX5_sponsoredOf_17 ?_
    refine lv_iconst (v := 1) hx hb dX5_sponsoredOf_18 (by decide) ?_
    refine lv_iand hx hb dX5_sponsoredOf_19 ?_
    refine lv_iconst (v := 1) hx hb dX5_sponsoredOf_20 (by decide) ?_
    refine lv_icmp_ne (tgt := 33) hx hb dX5_sponsoredOf_21 (by decide) (fun c_2 => ?_) (fun c_2 => ?_)
    · refine lv_iconst (v := 0) hx hb dX5_sponsoredOf_33 (by decide) ?_
      refine lv_iadd hx hb dX5_sponsoredOf_34 ?_
      refine lv_istore_n (lv' := [(2, .int ((0 + 0) + 0)), (3, .int 1), (0, .ref (ad 36)), (1, .int (nI i))]) hx hb dX5_sponsoredOf_35 rfl hl (by decide) rfl (fun ls hl => ?_)
      refine lv_iinc (v := 2) (lv' := [(3, .int 2), (2, .int ((0 + 0) + 0)), (0, .ref (ad 36)), (1, .int (nI i))]) hx hb dX5_sponsoredOf_36 hl (k := 1) rfl (by decide) (by decide) rfl (fun ls hl => ?_)
      refine lv_goto (tgt := 4) hx hb dX5_sponsoredOf_39 (by decide) ?_
      refine lv_iload_n hx hb dX5_sponsoredOf_4 rfl (lv_at hl 0 rfl) ?_
      refine lv_iconst (v := 2) hx hb dX5_sponsoredOf_5 (by decide) ?_
      refine lv_icmp_gt (tgt := 42) hx hb dX5_sponsoredOf_6 (by decide) (fun z => False.elim (by first | exact absurd z (by decide) | exact absurd (by decide) z)) (fun _ => ?_)
      refine lv_iload_n hx hb dX5_sponsoredOf_9 rfl (lv_at hl 1 rfl) ?_
      refine lv_aload_n hx hb dX5_sponsoredOf_10 rfl (lv_at hl 2 rfl) ?_
      refine r_getr (q := 42) X S hw5 ob_M 12 ⟨rfl, by decide, rfl⟩ rfl (hts (.fieldLink RX5 36 "TermBillModel" "sponsorKinds" "[I") (by decide +kernel)) dX5_sponsoredOf_11 ?_
      refine lv_iload_n hx hb dX5_sponsoredOf_14 rfl (lv_at hl 3 rfl) ?_
      refine r_ialN X S (k := 42) (n := 4) (by unfold Ar; decide) (q := i) rfl (by omega) (by decide) dX5_sponsoredOf_15 ?_
      refine lv_iload_n hx hb dX5_sponsoredOf_16 rfl (lv_at hl 0 rfl) ?_
      refine lv_ishr hx hb dX5_sponsoredOf_17 ?_
      refine lv_iconst (v := 1) hx hb dX5_sponsoredOf_18 (by decide) ?_
      refine lv_iand hx hb dX5_sponsoredOf_19 ?_
      refine lv_iconst (v := 1) hx hb dX5_sponsoredOf_20 (by decide) ?_
      refine lv_icmp_ne (tgt := 33) hx hb dX5_sponsoredOf_21 (by decide) (fun c_3 => ?_) (fun c_3 => ?_)
      · refine lv_iconst (v := 0) hx hb dX5_sponsoredOf_33 (by decide) ?_
        refine lv_iadd hx hb dX5_sponsoredOf_34 ?_
        refine lv_istore_n (lv' := [(2, .int (((0 + 0) + 0) + 0)), (3, .int 2), (0, .ref (ad 36)), (1, .int (nI i))]) hx hb dX5_sponsoredOf_35 rfl hl (by decide) rfl (fun ls hl => ?_)
        refine lv_iinc (v := 3) (lv' := [(3, .int 3), (2, .int (((0 + 0) + 0) + 0)), (0, .ref (ad 36)), (1, .int (nI i))]) hx hb dX5_sponsoredOf_36 hl (k := 1) rfl (by decide) (by decide) rfl (fun ls hl => ?_)
        refine lv_goto (tgt := 4) hx hb dX5_sponsoredOf_39 (by decide) ?_
        refine lv_iload_n hx hb dX5_sponsoredOf_4 rfl (lv_at hl 0 rfl) ?_
        refine lv_iconst (v := 2) hx hb dX5_sponsoredOf_5 (by decide) ?_
        refine lv_icmp_gt (tgt := 42) hx hb dX5_sponsoredOf_6 (by decide) (fun _ => ?_) (fun z => False.elim (by first | exact absurd z (by decide) | exact absurd (by decide) z))
        refine lv_iload_n hx hb dX5_sponsoredOf_42 rfl (lv_at hl 1 rfl) ?_
        refine lv_aload_n hx hb dX5_sponsoredOf_43 rfl (lv_at hl 2 rfl) ?_
        refine r_getr (q := 43) X S hw5 ob_M 13 ⟨rfl, by decide, rfl⟩ rfl (hts (.fieldLink RX5 39 "TermBillModel" "sponsorLimits" "[I") (by decide +kernel)) dX5_sponsoredOf_44 ?_
        refine lv_iload_n hx hb dX5_sponsoredOf_47 rfl (lv_at hl 3 rfl) ?_
        refine r_ialN X S (k := 43) (n := 4) (by unfold Ar; decide) (q := i) rfl (by omega) (by decide) dX5_sponsoredOf_48 ?_
        refine r_S0 X S (c_X5_least l D cA ad _ F (((0 + 0) + 0) + 0) (F 43 i)) (va_cwS 2 hts gX5_sponsoredOf_X5_least rfl rfl rfl (by decide +kernel) ⟨Nat.le_of_ble_eq_true rfl, Nat.le_of_ble_eq_true rfl⟩) rfl hl.1 rfl (Nat.le_of_ble_eq_true rfl) dX5_sponsoredOf_49 ⟨Nat.zero_le _, Nat.zero_le _⟩ (fun H locs S => ?_)
        exact r_iret X S hr dX5_sponsoredOf_52 (Nat.le_of_ble_eq_true rfl) (Nat.le_of_ble_eq_true rfl) (by unfold spM smM bkM; simp only [c_1, c_2, c_3, ↓reduceIte]) rfl
      · refine lv_aload_n hx hb dX5_sponsoredOf_24 rfl (lv_at hl 2 rfl) ?_
        refine lv_iload_n hx hb dX5_sponsoredOf_25 rfl (lv_at hl 3 rfl) ?_
        refine lv_iload_n hx hb dX5_sponsoredOf_26 rfl (lv_at hl 0 rfl) ?_
        refine r_V0 X S (c_X5_chargedOf2 l D cA ad _ F i hi) ob_M rfl (cwV 2 hts gX5_sponsoredOf_X5_chargedOf rfl rfl rfl (by decide +kernel) ⟨Nat.le_of_ble_eq_true rfl, Nat.le_of_ble_eq_true rfl⟩) rfl hl.1 rfl (Nat.le_of_ble_eq_true rfl) dX5_sponsoredOf_27 ⟨Nat.zero_le _, Nat.zero_le _⟩ (fun H locs S => ?_)
        refine lv_goto (tgt := 34) hx hb dX5_sponsoredOf_30 (by decide) ?_
        refine lv_iadd hx hb dX5_sponsoredOf_34 ?_
        refine lv_istore_n (lv' := [(2, .int (((0 + 0) + 0) + (F 49 i))), (3, .int 2), (0, .ref (ad 36)), (1, .int (nI i))]) hx hb dX5_sponsoredOf_35 rfl hl (by decide) rfl (fun ls hl => ?_)
        refine lv_iinc (v := 3) (lv' := [(3, .int 3), (2, .int (((0 + 0) + 0) + (F 49 i))), (0, .ref (ad 36)), (1, .int (nI i))]) hx hb dX5_sponsoredOf_36 hl (k := 1) rfl (by decide) (by decide) rfl (fun ls hl => ?_)
        refine lv_goto (tgt := 4) hx hb dX5_sponsoredOf_39 (by decide) ?_
        refine lv_iload_n hx hb dX5_sponsoredOf_4 rfl (lv_at hl 0 rfl) ?_
        refine lv_iconst (v := 2) hx hb dX5_sponsoredOf_5 (by decide) ?_
        refine lv_icmp_gt (tgt := 42) hx hb dX5_sponsoredOf_6 (by decide) (fun _ => ?_) (fun z => False.elim (by first | exact absurd z (by decide) | exact absurd (by decide) z))
        refine lv_iload_n hx hb dX5_sponsoredOf_42 rfl (lv_at hl 1 rfl) ?_
        refine lv_aload_n hx hb dX5_sponsoredOf_43 rfl (lv_at hl 2 rfl) ?_
        refine r_getr (q := 43) X S hw5 ob_M 13 ⟨rfl, by decide, rfl⟩ rfl (hts (.fieldLink RX5 39 "TermBillModel" "sponsorLimits" "[I") (by decide +kernel)) dX5_sponsoredOf_44 ?_
        refine lv_iload_n hx hb dX5_sponsoredOf_47 rfl (lv_at hl 3 rfl) ?_
        refine r_ialN X S (k := 43) (n := 4) (by unfold Ar; decide) (q := i) rfl (by omega) (by decide) dX5_sponsoredOf_48 ?_
        refine r_S0 X S (c_X5_least l D cA ad _ F (((0 + 0) + 0) + (F 49 i)) (F 43 i)) (va_cwS 2 hts gX5_sponsoredOf_X5_least rfl rfl rfl (by decide +kernel) ⟨Nat.le_of_ble_eq_true rfl, Nat.le_of_ble_eq_true rfl⟩) rfl hl.1 rfl (Nat.le_of_ble_eq_true rfl) dX5_sponsoredOf_49 ⟨Nat.zero_le _, Nat.zero_le _⟩ (fun H locs S => ?_)
        exact r_iret X S hr dX5_sponsoredOf_52 (Nat.le_of_ble_eq_true rfl) (Nat.le_of_ble_eq_true rfl) (by unfold spM smM bkM; simp only [c_1, c_2, c_3, ↓reduceIte]) rfl
    · refine lv_aload_n hx hb dX5_sponsoredOf_24 rfl (lv_at hl 2 rfl) ?_
      refine lv_iload_n hx hb dX5_sponsoredOf_25 rfl (lv_at hl 3 rfl) ?_
      refine lv_iload_n hx hb dX5_sponsoredOf_26 rfl (lv_at hl 0 rfl) ?_
      refine r_V0 X S (c_X5_chargedOf1 l D cA ad _ F i hi) ob_M rfl (cwV 2 hts gX5_sponsoredOf_X5_chargedOf rfl rfl rfl (by decide +kernel) ⟨Nat.le_of_ble_eq_true rfl, Nat.le_of_ble_eq_true rfl⟩) rfl hl.1 rfl (Nat.le_of_ble_eq_true rfl) dX5_sponsoredOf_27 ⟨Nat.zero_le _, Nat.zero_le _⟩ (fun H locs S => ?_)
      refine lv_goto (tgt := 34) hx hb dX5_sponsoredOf_30 (by decide) ?_
      refine lv_iadd hx hb dX5_sponsoredOf_34 ?_
      refine lv_istore_n (lv' := [(2, .int ((0 + 0) + (F 48 i))), (3, .int 1), (0, .ref (ad 36)), (1, .int (nI i))]) hx hb dX5_sponsoredOf_35 rfl hl (by decide) rfl (fun ls hl => ?_)
      refine lv_iinc (v := 2) (lv' := [(3, .int 2), (2, .int ((0 + 0) + (F 48 i))), (0, .ref (ad 36)), (1, .int (nI i))]) hx hb dX5_sponsoredOf_36 hl (k := 1) rfl (by decide) (by decide) rfl (fun ls hl => ?_)
      refine lv_goto (tgt := 4) hx hb dX5_sponsoredOf_39 (by decide) ?_
      refine lv_iload_n hx hb dX5_sponsoredOf_4 rfl (lv_at hl 0 rfl) ?_
      refine lv_iconst (v := 2) hx hb dX5_sponsoredOf_5 (by decide) ?_
      refine lv_icmp_gt (tgt := 42) hx hb dX5_sponsoredOf_6 (by decide) (fun z => False.elim (by first | exact absurd z (by decide) | exact absurd (by decide) z)) (fun _ => ?_)
      refine lv_iload_n hx hb dX5_sponsoredOf_9 rfl (lv_at hl 1 rfl) ?_
      refine lv_aload_n hx hb dX5_sponsoredOf_10 rfl (lv_at hl 2 rfl) ?_
      refine r_getr (q := 42) X S hw5 ob_M 12 ⟨rfl, by decide, rfl⟩ rfl (hts (.fieldLink RX5 36 "TermBillModel" "sponsorKinds" "[I") (by decide +kernel)) dX5_sponsoredOf_11 ?_
      refine lv_iload_n hx hb dX5_sponsoredOf_14 rfl (lv_at hl 3 rfl) ?_
      refine r_ialN X S (k := 42) (n := 4) (by unfold Ar; decide) (q := i) rfl (by omega) (by decide) dX5_sponsoredOf_15 ?_
      refine lv_iload_n hx hb dX5_sponsoredOf_16 rfl (lv_at hl 0 rfl) ?_
      refine lv_ishr hx hb dX5_sponsoredOf_17 ?_
      refine lv_iconst (v := 1) hx hb dX5_sponsoredOf_18 (by decide) ?_
      refine lv_iand hx hb dX5_sponsoredOf_19 ?_
      refine lv_iconst (v := 1) hx hb dX5_sponsoredOf_20 (by decide) ?_
      refine lv_icmp_ne (tgt := 33) hx hb dX5_sponsoredOf_21 (by decide) (fun c_4 => ?_) (fun c_4 => ?_)
      · refine lv_iconst (v := 0) hx hb dX5_sponsoredOf_33 (by decide) ?_
        refine lv_iadd hx hb dX5_sponsoredOf_34 ?_
        refine lv_istore_n (lv' := [(2, .int (((0 + 0) + (F 48 i)) + 0)), (3, .int 2), (0, .ref (ad 36)), (1, .int (nI i))]) hx hb dX5_sponsoredOf_35 rfl hl (by decide) rfl (fun ls hl => ?_)
        refine lv_iinc (v := 3) (lv' := [(3, .int 3), (2, .int (((0 + 0) + (F 48 i)) + 0)), (0, .ref (ad 36)), (1, .int (nI i))]) hx hb dX5_sponsoredOf_36 hl (k := 1) rfl (by decide) (by decide) rfl (fun ls hl => ?_)
        refine lv_goto (tgt := 4) hx hb dX5_sponsoredOf_39 (by decide) ?_
        refine lv_iload_n hx hb dX5_sponsoredOf_4 rfl (lv_at hl 0 rfl) ?_
        refine lv_iconst (v := 2) hx hb dX5_sponsoredOf_5 (by decide) ?_
        refine lv_icmp_gt (tgt := 42) hx hb dX5_sponsoredOf_6 (by decide) (fun _ => ?_) (fun z => False.elim (by first | exact absurd z (by decide) | exact absurd (by decide) z))
        refine lv_iload_n hx hb dX5_sponsoredOf_42 rfl (lv_at hl 1 rfl) ?_
        refine lv_aload_n hx hb dX5_sponsoredOf_43 rfl (lv_at hl 2 rfl) ?_
        refine r_getr (q := 43) X S hw5 ob_M 13 ⟨rfl, by decide, rfl⟩ rfl (hts (.fieldLink RX5 39 "TermBillModel" "sponsorLimits" "[I") (by decide +kernel)) dX5_sponsoredOf_44 ?_
        refine lv_iload_n hx hb dX5_sponsoredOf_47 rfl (lv_at hl 3 rfl) ?_
        refine r_ialN X S (k := 43) (n := 4) (by unfold Ar; decide) (q := i) rfl (by omega) (by decide) dX5_sponsoredOf_48 ?_
        refine r_S0 X S (c_X5_least l D cA ad _ F (((0 + 0) + (F 48 i)) + 0) (F 43 i)) (va_cwS 2 hts gX5_sponsoredOf_X5_least rfl rfl rfl (by decide +kernel) ⟨Nat.le_of_ble_eq_true rfl, Nat.le_of_ble_eq_true rfl⟩) rfl hl.1 rfl (Nat.le_of_ble_eq_true rfl) dX5_sponsoredOf_49 ⟨Nat.zero_le _, Nat.zero_le _⟩ (fun H locs S => ?_)
        exact r_iret X S hr dX5_sponsoredOf_52 (Nat.le_of_ble_eq_true rfl) (Nat.le_of_ble_eq_true rfl) (by unfold spM smM bkM; simp only [c_1, c_2, c_4, ↓reduceIte]) rfl
      · refine lv_aload_n hx hb dX5_sponsoredOf_24 rfl (lv_at hl 2 rfl) ?_
        refine lv_iload_n hx hb dX5_sponsoredOf_25 rfl (lv_at hl 3 rfl) ?_
        refine lv_iload_n hx hb dX5_sponsoredOf_26 rfl (lv_at hl 0 rfl) ?_
        refine r_V0 X S (c_X5_chargedOf2 l D cA ad _ F i hi) ob_M rfl (cwV 2 hts gX5_sponsoredOf_X5_chargedOf rfl rfl rfl (by decide +kernel) ⟨Nat.le_of_ble_eq_true rfl, Nat.le_of_ble_eq_true rfl⟩) rfl hl.1 rfl (Nat.le_of_ble_eq_true rfl) dX5_sponsoredOf_27 ⟨Nat.zero_le _, Nat.zero_le _⟩ (fun H locs S => ?_)
        refine lv_goto (tgt := 34) hx hb dX5_sponsoredOf_30 (by decide) ?_
        refine lv_iadd hx hb dX5_sponsoredOf_34 ?_
        refine lv_istore_n (lv' := [(2, .int (((0 + 0) + (F 48 i)) + (F 49 i))), (3, .int 2), (0, .ref (ad 36)), (1, .int (nI i))]) hx hb dX5_sponsoredOf_35 rfl hl (by decide) rfl (fun ls hl => ?_)
        refine lv_iinc (v := 3) (lv' := [(3, .int 3), (2, .int (((0 + 0) + (F 48 i)) + (F 49 i))), (0, .ref (ad 36)), (1, .int (nI i))]) hx hb dX5_sponsoredOf_36 hl (k := 1) rfl (by decide) (by decide) rfl (fun ls hl => ?_)
        refine lv_goto (tgt := 4) hx hb dX5_sponsoredOf_39 (by decide) ?_
        refine lv_iload_n hx hb dX5_sponsoredOf_4 rfl (lv_at hl 0 rfl) ?_
        refine lv_iconst (v := 2) hx hb dX5_sponsoredOf_5 (by decide) ?_
        refine lv_icmp_gt (tgt := 42) hx hb dX5_sponsoredOf_6 (by decide) (fun _ => ?_) (fun z => False.elim (by first | exact absurd z (by decide) | exact absurd (by decide) z))
        refine lv_iload_n hx hb dX5_sponsoredOf_42 rfl (lv_at hl 1 rfl) ?_
        refine lv_aload_n hx hb dX5_sponsoredOf_43 rfl (lv_at hl 2 rfl) ?_
        refine r_getr (q := 43) X S hw5 ob_M 13 ⟨rfl, by decide, rfl⟩ rfl (hts (.fieldLink RX5 39 "TermBillModel" "sponsorLimits" "[I") (by decide +kernel)) dX5_sponsoredOf_44 ?_
        refine lv_iload_n hx hb dX5_sponsoredOf_47 rfl (lv_at hl 3 rfl) ?_
        refine r_ialN X S (k := 43) (n := 4) (by unfold Ar; decide) (q := i) rfl (by omega) (by decide) dX5_sponsoredOf_48 ?_
        refine r_S0 X S (c_X5_least l D cA ad _ F (((0 + 0) + (F 48 i)) + (F 49 i)) (F 43 i)) (va_cwS 2 hts gX5_sponsoredOf_X5_least rfl rfl rfl (by decide +kernel) ⟨Nat.le_of_ble_eq_true rfl, Nat.le_of_ble_eq_true rfl⟩) rfl hl.1 rfl (Nat.le_of_ble_eq_true rfl) dX5_sponsoredOf_49 ⟨Nat.zero_le _, Nat.zero_le _⟩ (fun H locs S => ?_)
        exact r_iret X S hr dX5_sponsoredOf_52 (Nat.le_of_ble_eq_true rfl) (Nat.le_of_ble_eq_true rfl) (by unfold spM smM bkM; simp only [c_1, c_2, c_4, ↓reduceIte]) rfl
  · refine lv_aload_n hx hb dX5_sponsoredOf_24 rfl (lv_at hl 2 rfl) ?_
    refine lv_iload_n hx hb dX5_sponsoredOf_25 rfl (lv_at hl 3 rfl) ?_
    refine lv_iload_n hx hb dX5_sponsoredOf_26 rfl (lv_at hl 0 rfl) ?_
    refine r_V0 X S (c_X5_chargedOf0 l D cA ad _ F i hi hM) ob_M rfl (cwV 2 hts gX5_sponsoredOf_X5_chargedOf rfl rfl rfl (by decide +kernel) ⟨Nat.le_of_ble_eq_true rfl, Nat.le_of_ble_eq_true rfl⟩) rfl hl.1 rfl (Nat.le_of_ble_eq_true rfl) dX5_sponsoredOf_27 ⟨Nat.zero_le _, Nat.zero_le _⟩ (fun H locs S => ?_)
    refine lv_goto (tgt := 34) hx hb dX5_sponsoredOf_30 (by decide) ?_
    refine lv_iadd hx hb dX5_sponsoredOf_34 ?_
    refine lv_istore_n (lv' := [(2, .int (0 + (tuM F i))), (3, .int 0), (0, .ref (ad 36)), (1, .int (nI i))]) hx hb dX5_sponsoredOf_35 rfl hl (by decide) rfl (fun ls hl => ?_)
    refine lv_iinc (v := 1) (lv' := [(3, .int 1), (2, .int (0 + (tuM F i))), (0, .ref (ad 36)), (1, .int (nI i))]) hx hb dX5_sponsoredOf_36 hl (k := 1) rfl (by decide) (by decide) rfl (fun ls hl => ?_)
    refine lv_goto (tgt := 4) hx hb dX5_sponsoredOf_39 (by decide) ?_
    refine lv_iload_n hx hb dX5_sponsoredOf_4 rfl (lv_at hl 0 rfl) ?_
    refine lv_iconst (v := 2) hx hb dX5_sponsoredOf_5 (by decide) ?_
    refine lv_icmp_gt (tgt := 42) hx hb dX5_sponsoredOf_6 (by decide) (fun z => False.elim (by first | exact absurd z (by decide) | exact absurd (by decide) z)) (fun _ => ?_)
    refine lv_iload_n hx hb dX5_sponsoredOf_9 rfl (lv_at hl 1 rfl) ?_
    refine lv_aload_n hx hb dX5_sponsoredOf_10 rfl (lv_at hl 2 rfl) ?_
    refine r_getr (q := 42) X S hw5 ob_M 12 ⟨rfl, by decide, rfl⟩ rfl (hts (.fieldLink RX5 36 "TermBillModel" "sponsorKinds" "[I") (by decide +kernel)) dX5_sponsoredOf_11 ?_
    refine lv_iload_n hx hb dX5_sponsoredOf_14 rfl (lv_at hl 3 rfl) ?_
    refine r_ialN X S (k := 42) (n := 4) (by unfold Ar; decide) (q := i) rfl (by omega) (by decide) dX5_sponsoredOf_15 ?_
    refine lv_iload_n hx hb dX5_sponsoredOf_16 rfl (lv_at hl 0 rfl) ?_
    refine lv_ishr hx hb dX5_sponsoredOf_17 ?_
    refine lv_iconst (v := 1) hx hb dX5_sponsoredOf_18 (by decide) ?_
    refine lv_iand hx hb dX5_sponsoredOf_19 ?_
    refine lv_iconst (v := 1) hx hb dX5_sponsoredOf_20 (by decide) ?_
    refine lv_icmp_ne (tgt := 33) hx hb dX5_sponsoredOf_21 (by decide) (fun c_5 => ?_) (fun c_5 => ?_)
    · refine lv_iconst (v := 0) hx hb dX5_sponsoredOf_33 (by decide) ?_
      refine lv_iadd hx hb dX5_sponsoredOf_34 ?_
      refine lv_istore_n (lv' := [(2, .int ((0 + (tuM F i)) + 0)), (3, .int 1), (0, .ref (ad 36)), (1, .int (nI i))]) hx hb dX5_sponsoredOf_35 rfl hl (by decide) rfl (fun ls hl => ?_)
      refine lv_iinc (v := 2) (lv' := [(3, .int 2), (2, .int ((0 + (tuM F i)) + 0)), (0, .ref (ad 36)), (1, .int (nI i))]) hx hb dX5_sponsoredOf_36 hl (k := 1) rfl (by decide) (by decide) rfl (fun ls hl => ?_)
      refine lv_goto (tgt := 4) hx hb dX5_sponsoredOf_39 (by decide) ?_
      refine lv_iload_n hx hb dX5_sponsoredOf_4 rfl (lv_at hl 0 rfl) ?_
      refine lv_iconst (v := 2) hx hb dX5_sponsoredOf_5 (by decide) ?_
      refine lv_icmp_gt (tgt := 42) hx hb dX5_sponsoredOf_6 (by decide) (fun z => False.elim (by first | exact absurd z (by decide) | exact absurd (by decide) z)) (fun _ => ?_)
      refine lv_iload_n hx hb dX5_sponsoredOf_9 rfl (lv_at hl 1 rfl) ?_
      refine lv_aload_n hx hb dX5_sponsoredOf_10 rfl (lv_at hl 2 rfl) ?_
      refine r_getr (q := 42) X S hw5 ob_M 12 ⟨rfl, by decide, rfl⟩ rfl (hts (.fieldLink RX5 36 "TermBillModel" "sponsorKinds" "[I") (by decide +kernel)) dX5_sponsoredOf_11 ?_
      refine lv_iload_n hx hb dX5_sponsoredOf_14 rfl (lv_at hl 3 rfl) ?_
      refine r_ialN X S (k := 42) (n := 4) (by unfold Ar; decide) (q := i) rfl (by omega) (by decide) dX5_sponsoredOf_15 ?_
      refine lv_iload_n hx hb dX5_sponsoredOf_16 rfl (lv_at hl 0 rfl) ?_
      refine lv_ishr hx hb dX5_sponsoredOf_17 ?_
      refine lv_iconst (v := 1) hx hb dX5_sponsoredOf_18 (by decide) ?_
      refine lv_iand hx hb dX5_sponsoredOf_19 ?_
      refine lv_iconst (v := 1) hx hb dX5_sponsoredOf_20 (by decide) ?_
      refine lv_icmp_ne (tgt := 33) hx hb dX5_sponsoredOf_21 (by decide) (fun c_6 => ?_) (fun c_6 => ?_)
      · refine lv_iconst (v := 0) hx hb dX5_sponsoredOf_33 (by decide) ?_
        refine lv_iadd hx hb dX5_sponsoredOf_34 ?_
        refine lv_istore_n (lv' := [(2, .int (((0 + (tuM F i)) + 0) + 0)), (3, .int 2), (0, .ref (ad 36)), (1, .int (nI i))]) hx hb dX5_sponsoredOf_35 rfl hl (by decide) rfl (fun ls hl => ?_)
        refine lv_iinc (v := 3) (lv' := [(3, .int 3), (2, .int (((0 + (tuM F i)) + 0) + 0)), (0, .ref (ad 36)), (1, .int (nI i))]) hx hb dX5_sponsoredOf_36 hl (k := 1) rfl (by decide) (by decide) rfl (fun ls hl => ?_)
        refine lv_goto (tgt := 4) hx hb dX5_sponsoredOf_39 (by decide) ?_
        refine lv_iload_n hx hb dX5_sponsoredOf_4 rfl (lv_at hl 0 rfl) ?_
        refine lv_iconst (v := 2) hx hb dX5_sponsoredOf_5 (by decide) ?_
        refine lv_icmp_gt (tgt := 42) hx hb dX5_sponsoredOf_6 (by decide) (fun _ => ?_) (fun z => False.elim (by first | exact absurd z (by decide) | exact absurd (by decide) z))
        refine lv_iload_n hx hb dX5_sponsoredOf_42 rfl (lv_at hl 1 rfl) ?_
        refine lv_aload_n hx hb dX5_sponsoredOf_43 rfl (lv_at hl 2 rfl) ?_
        refine r_getr (q := 43) X S hw5 ob_M 13 ⟨rfl, by decide, rfl⟩ rfl (hts (.fieldLink RX5 39 "TermBillModel" "sponsorLimits" "[I") (by decide +kernel)) dX5_sponsoredOf_44 ?_
        refine lv_iload_n hx hb dX5_sponsoredOf_47 rfl (lv_at hl 3 rfl) ?_
        refine r_ialN X S (k := 43) (n := 4) (by unfold Ar; decide) (q := i) rfl (by omega) (by decide) dX5_sponsoredOf_48 ?_
        refine r_S0 X S (c_X5_least l D cA ad _ F (((0 + (tuM F i)) + 0) + 0) (F 43 i)) (va_cwS 2 hts gX5_sponsoredOf_X5_least rfl rfl rfl (by decide +kernel) ⟨Nat.le_of_ble_eq_true rfl, Nat.le_of_ble_eq_true rfl⟩) rfl hl.1 rfl (Nat.le_of_ble_eq_true rfl) dX5_sponsoredOf_49 ⟨Nat.zero_le _, Nat.zero_le _⟩ (fun H locs S => ?_)
        exact r_iret X S hr dX5_sponsoredOf_52 (Nat.le_of_ble_eq_true rfl) (Nat.le_of_ble_eq_true rfl) (by unfold spM smM bkM; simp only [c_1, c_5, c_6, ↓reduceIte]) rfl
      · refine lv_aload_n hx hb dX5_sponsoredOf_24 rfl (lv_at hl 2 rfl) ?_
        refine lv_iload_n hx hb dX5_sponsoredOf_25 rfl (lv_at hl 3 rfl) ?_
        refine lv_iload_n hx hb dX5_sponsoredOf_26 rfl (lv_at hl 0 rfl) ?_
        refine r_V0 X S (c_X5_chargedOf2 l D cA ad _ F i hi) ob_M rfl (cwV 2 hts gX5_sponsoredOf_X5_chargedOf rfl rfl rfl (by decide +kernel) ⟨Nat.le_of_ble_eq_true rfl, Nat.le_of_ble_eq_true rfl⟩) rfl hl.1 rfl (Nat.le_of_ble_eq_true rfl) dX5_sponsoredOf_27 ⟨Nat.zero_le _, Nat.zero_le _⟩ (fun H locs S => ?_)
        refine lv_goto (tgt := 34) hx hb dX5_sponsoredOf_30 (by decide) ?_
        refine lv_iadd hx hb dX5_sponsoredOf_34 ?_
        refine lv_istore_n (lv' := [(2, .int (((0 + (tuM F i)) + 0) + (F 49 i))), (3, .int 2), (0, .ref (ad 36)), (1, .int (nI i))]) hx hb dX5_sponsoredOf_35 rfl hl (by decide) rfl (fun ls hl => ?_)
        refine lv_iinc (v := 3) (lv' := [(3, .int 3), (2, .int (((0 + (tuM F i)) + 0) + (F 49 i))), (0, .ref (ad 36)), (1, .int (nI i))]) hx hb dX5_sponsoredOf_36 hl (k := 1) rfl (by decide) (by decide) rfl (fun ls hl => ?_)
        refine lv_goto (tgt := 4) hx hb dX5_sponsoredOf_39 (by decide) ?_
        refine lv_iload_n hx hb dX5_sponsoredOf_4 rfl (lv_at hl 0 rfl) ?_
        refine lv_iconst (v := 2) hx hb dX5_sponsoredOf_5 (by decide) ?_
        refine lv_icmp_gt (tgt := 42) hx hb dX5_sponsoredOf_6 (by decide) (fun _ => ?_) (fun z => False.elim (by first | exact absurd z (by decide) | exact absurd (by decide) z))
        refine lv_iload_n hx hb dX5_sponsoredOf_42 rfl (lv_at hl 1 rfl) ?_
        refine lv_aload_n hx hb dX5_sponsoredOf_43 rfl (lv_at hl 2 rfl) ?_
        refine r_getr (q := 43) X S hw5 ob_M 13 ⟨rfl, by decide, rfl⟩ rfl (hts (.fieldLink RX5 39 "TermBillModel" "sponsorLimits" "[I") (by decide +kernel)) dX5_sponsoredOf_44 ?_
        refine lv_iload_n hx hb dX5_sponsoredOf_47 rfl (lv_at hl 3 rfl) ?_
        refine r_ialN X S (k := 43) (n := 4) (by unfold Ar; decide) (q := i) rfl (by omega) (by decide) dX5_sponsoredOf_48 ?_
        refine r_S0 X S (c_X5_least l D cA ad _ F (((0 + (tuM F i)) + 0) + (F 49 i)) (F 43 i)) (va_cwS 2 hts gX5_sponsoredOf_X5_least rfl rfl rfl (by decide +kernel) ⟨Nat.le_of_ble_eq_true rfl, Nat.le_of_ble_eq_true rfl⟩) rfl hl.1 rfl (Nat.le_of_ble_eq_true rfl) dX5_sponsoredOf_49 ⟨Nat.zero_le _, Nat.zero_le _⟩ (fun H locs S => ?_)
        exact r_iret X S hr dX5_sponsoredOf_52 (Nat.le_of_ble_eq_true rfl) (Nat.le_of_ble_eq_true rfl) (by unfold spM smM bkM; simp only [c_1, c_5, c_6, ↓reduceIte]) rfl
    · refine lv_aload_n hx hb dX5_sponsoredOf_24 rfl (lv_at hl 2 rfl) ?_
      refine lv_iload_n hx hb dX5_sponsoredOf_25 rfl (lv_at hl 3 rfl) ?_
      refine lv_iload_n hx hb dX5_sponsoredOf_26 rfl (lv_at hl 0 rfl) ?_
      refine r_V0 X S (c_X5_chargedOf1 l D cA ad _ F i hi) ob_M rfl (cwV 2 hts gX5_sponsoredOf_X5_chargedOf rfl rfl rfl (by decide +kernel) ⟨Nat.le_of_ble_eq_true rfl, Nat.le_of_ble_eq_true rfl⟩) rfl hl.1 rfl (Nat.le_of_ble_eq_true rfl) dX5_sponsoredOf_27 ⟨Nat.zero_le _, Nat.zero_le _⟩ (fun H locs S => ?_)
      refine lv_goto (tgt := 34) hx hb dX5_sponsoredOf_30 (by decide) ?_
      refine lv_iadd hx hb dX5_sponsoredOf_34 ?_
      refine lv_istore_n (lv' := [(2, .int ((0 + (tuM F i)) + (F 48 i))), (3, .int 1), (0, .ref (ad 36)), (1, .int (nI i))]) hx hb dX5_sponsoredOf_35 rfl hl (by decide) rfl (fun ls hl => ?_)
      refine lv_iinc (v := 2) (lv' := [(3, .int 2), (2, .int ((0 + (tuM F i)) + (F 48 i))), (0, .ref (ad 36)), (1, .int (nI i))]) hx hb dX5_sponsoredOf_36 hl (k := 1) rfl (by decide) (by decide) rfl (fun ls hl => ?_)
      refine lv_goto (tgt := 4) hx hb dX5_sponsoredOf_39 (by decide) ?_
      refine lv_iload_n hx hb dX5_sponsoredOf_4 rfl (lv_at hl 0 rfl) ?_
      refine lv_iconst (v := 2) hx hb dX5_sponsoredOf_5 (by decide) ?_
      refine lv_icmp_gt (tgt := 42) hx hb dX5_sponsoredOf_6 (by decide) (fun z => False.elim (by first | exact absurd z (by decide) | exact absurd (by decide) z)) (fun _ => ?_)
      refine lv_iload_n hx hb dX5_sponsoredOf_9 rfl (lv_at hl 1 rfl) ?_
      refine lv_aload_n hx hb dX5_sponsoredOf_10 rfl (lv_at hl 2 rfl) ?_
      refine r_getr (q := 42) X S hw5 ob_M 12 ⟨rfl, by decide, rfl⟩ rfl (hts (.fieldLink RX5 36 "TermBillModel" "sponsorKinds" "[I") (by decide +kernel)) dX5_sponsoredOf_11 ?_
      refine lv_iload_n hx hb dX5_sponsoredOf_14 rfl (lv_at hl 3 rfl) ?_
      refine r_ialN X S (k := 42) (n := 4) (by unfold Ar; decide) (q := i) rfl (by omega) (by decide) dX5_sponsoredOf_15 ?_
      refine lv_iload_n hx hb dX5_sponsoredOf_16 rfl (lv_at hl 0 rfl) ?_
      refine lv_ishr hx hb dX5_sponsoredOf_17 ?_
      refine lv_iconst (v := 1) hx hb dX5_sponsoredOf_18 (by decide) ?_
      refine lv_iand hx hb dX5_sponsoredOf_19 ?_
      refine lv_iconst (v := 1) hx hb dX5_sponsoredOf_20 (by decide) ?_
      refine lv_icmp_ne (tgt := 33) hx hb dX5_sponsoredOf_21 (by decide) (fun c_7 => ?_) (fun c_7 => ?_)
      · refine lv_iconst (v := 0) hx hb dX5_sponsoredOf_33 (by decide) ?_
        refine lv_iadd hx hb dX5_sponsoredOf_34 ?_
        refine lv_istore_n (lv' := [(2, .int (((0 + (tuM F i)) + (F 48 i)) + 0)), (3, .int 2), (0, .ref (ad 36)), (1, .int (nI i))]) hx hb dX5_sponsoredOf_35 rfl hl (by decide) rfl (fun ls hl => ?_)
        refine lv_iinc (v := 3) (lv' := [(3, .int 3), (2, .int (((0 + (tuM F i)) + (F 48 i)) + 0)), (0, .ref (ad 36)), (1, .int (nI i))]) hx hb dX5_sponsoredOf_36 hl (k := 1) rfl (by decide) (by decide) rfl (fun ls hl => ?_)
        refine lv_goto (tgt := 4) hx hb dX5_sponsoredOf_39 (by decide) ?_
        refine lv_iload_n hx hb dX5_sponsoredOf_4 rfl (lv_at hl 0 rfl) ?_
        refine lv_iconst (v := 2) hx hb dX5_sponsoredOf_5 (by decide) ?_
        refine lv_icmp_gt (tgt := 42) hx hb dX5_sponsoredOf_6 (by decide) (fun _ => ?_) (fun z => False.elim (by first | exact absurd z (by decide) | exact absurd (by decide) z))
        refine lv_iload_n hx hb dX5_sponsoredOf_42 rfl (lv_at hl 1 rfl) ?_
        refine lv_aload_n hx hb dX5_sponsoredOf_43 rfl (lv_at hl 2 rfl) ?_
        refine r_getr (q := 43) X S hw5 ob_M 13 ⟨rfl, by decide, rfl⟩ rfl (hts (.fieldLink RX5 39 "TermBillModel" "sponsorLimits" "[I") (by decide +kernel)) dX5_sponsoredOf_44 ?_
        refine lv_iload_n hx hb dX5_sponsoredOf_47 rfl (lv_at hl 3 rfl) ?_
        refine r_ialN X S (k := 43) (n := 4) (by unfold Ar; decide) (q := i) rfl (by omega) (by decide) dX5_sponsoredOf_48 ?_
        refine r_S0 X S (c_X5_least l D cA ad _ F (((0 + (tuM F i)) + (F 48 i)) + 0) (F 43 i)) (va_cwS 2 hts gX5_sponsoredOf_X5_least rfl rfl rfl (by decide +kernel) ⟨Nat.le_of_ble_eq_true rfl, Nat.le_of_ble_eq_true rfl⟩) rfl hl.1 rfl (Nat.le_of_ble_eq_true rfl) dX5_sponsoredOf_49 ⟨Nat.zero_le _, Nat.zero_le _⟩ (fun H locs S => ?_)
        exact r_iret X S hr dX5_sponsoredOf_52 (Nat.le_of_ble_eq_true rfl) (Nat.le_of_ble_eq_true rfl) (by unfold spM smM bkM; simp only [c_1, c_5, c_7, ↓reduceIte]) rfl
      · refine lv_aload_n hx hb dX5_sponsoredOf_24 rfl (lv_at hl 2 rfl) ?_
        refine lv_iload_n hx hb dX5_sponsoredOf_25 rfl (lv_at hl 3 rfl) ?_
        refine lv_iload_n hx hb dX5_sponsoredOf_26 rfl (lv_at hl 0 rfl) ?_
        refine r_V0 X S (c_X5_chargedOf2 l D cA ad _ F i hi) ob_M rfl (cwV 2 hts gX5_sponsoredOf_X5_chargedOf rfl rfl rfl (by decide +kernel) ⟨Nat.le_of_ble_eq_true rfl, Nat.le_of_ble_eq_true rfl⟩) rfl hl.1 rfl (Nat.le_of_ble_eq_true rfl) dX5_sponsoredOf_27 ⟨Nat.zero_le _, Nat.zero_le _⟩ (fun H locs S => ?_)
        refine lv_goto (tgt := 34) hx hb dX5_sponsoredOf_30 (by decide) ?_
        refine lv_iadd hx hb dX5_sponsoredOf_34 ?_
        refine lv_istore_n (lv' := [(2, .int (((0 + (tuM F i)) + (F 48 i)) + (F 49 i))), (3, .int 2), (0, .ref (ad 36)), (1, .int (nI i))]) hx hb dX5_sponsoredOf_35 rfl hl (by decide) rfl (fun ls hl => ?_)
        refine lv_iinc (v := 3) (lv' := [(3, .int 3), (2, .int (((0 + (tuM F i)) + (F 48 i)) + (F 49 i))), (0, .ref (ad 36)), (1, .int (nI i))]) hx hb dX5_sponsoredOf_36 hl (k := 1) rfl (by decide) (by decide) rfl (fun ls hl => ?_)
        refine lv_goto (tgt := 4) hx hb dX5_sponsoredOf_39 (by decide) ?_
        refine lv_iload_n hx hb dX5_sponsoredOf_4 rfl (lv_at hl 0 rfl) ?_
        refine lv_iconst (v := 2) hx hb dX5_sponsoredOf_5 (by decide) ?_
        refine lv_icmp_gt (tgt := 42) hx hb dX5_sponsoredOf_6 (by decide) (fun _ => ?_) (fun z => False.elim (by first | exact absurd z (by decide) | exact absurd (by decide) z))
        refine lv_iload_n hx hb dX5_sponsoredOf_42 rfl (lv_at hl 1 rfl) ?_
        refine lv_aload_n hx hb dX5_sponsoredOf_43 rfl (lv_at hl 2 rfl) ?_
        refine r_getr (q := 43) X S hw5 ob_M 13 ⟨rfl, by decide, rfl⟩ rfl (hts (.fieldLink RX5 39 "TermBillModel" "sponsorLimits" "[I") (by decide +kernel)) dX5_sponsoredOf_44 ?_
        refine lv_iload_n hx hb dX5_sponsoredOf_47 rfl (lv_at hl 3 rfl) ?_
        refine r_ialN X S (k := 43) (n := 4) (by unfold Ar; decide) (q := i) rfl (by omega) (by decide) dX5_sponsoredOf_48 ?_
        refine r_S0 X S (c_X5_least l D cA ad _ F (((0 + (tuM F i)) + (F 48 i)) + (F 49 i)) (F 43 i)) (va_cwS 2 hts gX5_sponsoredOf_X5_least rfl rfl rfl (by decide +kernel) ⟨Nat.le_of_ble_eq_true rfl, Nat.le_of_ble_eq_true rfl⟩) rfl hl.1 rfl (Nat.le_of_ble_eq_true rfl) dX5_sponsoredOf_49 ⟨Nat.zero_le _, Nat.zero_le _⟩ (fun H locs S => ?_)
        exact r_iret X S hr dX5_sponsoredOf_52 (Nat.le_of_ble_eq_true rfl) (Nat.le_of_ble_eq_true rfl) (by unfold spM smM bkM; simp only [c_1, c_5, c_7, ↓reduceIte]) rfl

set_option maxHeartbeats 1000000 in
set_option maxRecDepth 100000 in
theorem c_X5_usedOf (l : Launch) (D : va_G) (cA : Nat → ClassId) (ad : Nat → Nat) (sz : Nat) (F : FF) (i : Nat) (hi : i < 4) (hM : OKM F i) (aw : Int32) : CI l D cA ad sz yX5_usedOf wsX5_usedOf 4 89 0 0 [.ref (ad 36), .int (nI i), .int aw] F (some (.int (usR F i aw))) F := by
  refine CI_of (own := RX5) (cc := cX5_usedOf) (maxL := 11) (ret := (some .int)) (by decide +kernel) rfl rfl (Nat.le_of_ble_eq_true rfl) ?_
  intro p e s m below meth c ls X S hr hl
  obtain ⟨⟨hx, hb, hml, hown, hts⟩, hE, hI, hlocks⟩ := id X
  have hl : lv_has ls 11 [(0, .ref (ad 36)), (1, .int (nI i)), (2, .int aw)] := hl
  have hw5 : ∀ w ∈ wsX50, w.before _ s = true := fun w h => hts w ((by decide +kernel : ∀ w ∈ wsX50, w ∈ wsX5_usedOf) w h)
  have loop : ∀ (d k : Nat), k + d = 18 → ∀ s9 : TM, usL F i aw d k s9 = usR F i aw → ∀ (H : Heap) (locs : List Loc) (ls : Array Slot), St D cA ad F s.heap H locs → lv_has ls 11 [(0, .ref (ad 36)), (1, .int (nI i)), (2, .int aw), (3, .int s9.1), (4, .int s9.2.1), (5, .int s9.2.2), (6, .int (nI k))] → W p l e (RM 4 89 0 0) s m [.ref (ad 36), .int (nI i), .int aw].toArray below meth c H locs 0 0 (MQ below (CQ D cA ad s.heap.size F (some (.int (usR F i aw)))) [.ref (ad 36), .int (nI i), .int aw].toArray s 0 0 (AA ad s.heap.size)) (F0 m 26 ls []) := by
    intro d
    induction d with
    | zero =>
      intro k hk s9 eS H locs ls S hl
      obtain rfl : k = 18 := by omega
      refine lv_iload hx hb dX5_usedOf_26 (lv_at hl 6 rfl) ?_
      refine lv_bipush (v := 18) hx hb dX5_usedOf_28 (by decide) ?_
      refine lv_icmp_ge (tgt := 177) hx hb dX5_usedOf_30 (by decide) (fun _ => ?_) (fun z => False.elim (absurd (by decide) z))
      refine lv_iload hx hb dX5_usedOf_177 (lv_at hl 5 rfl) ?_
      exact r_iret X S hr dX5_usedOf_179 (Nat.le_of_ble_eq_true rfl) (Nat.le_of_ble_eq_true rfl) eS rfl
    | succ d ih =>
      intro k hk s9 eS H locs ls S hl
      have hk9 : k < 18 := by omega
      have ha := hM.2.2.1
      refine lv_iload hx hb dX5_usedOf_26 (lv_at hl 6 rfl) ?_
      refine lv_bipush (v := 18) hx hb dX5_usedOf_28 (by decide) ?_
      refine lv_icmp_ge (tgt := 177) hx hb dX5_usedOf_30 (by decide) (fun z => False.elim (nI_ge (a := k) (b := 18) (by omega) (by omega) z)) (fun _ => ?_)
      refine lv_iload hx hb dX5_usedOf_33 (lv_at hl 6 rfl) ?_
      refine lv_bipush (v := 6) hx hb dX5_usedOf_35 (by decide) ?_
      refine lv_idiv hx hb dX5_usedOf_37 (by decide) ?_
      rw [show (nI k) / 6 = nI (k / 6) from (nI_d6 k hk9)]
      refine lv_istore (lv' := [(7, .int (nI (k / 6))), (0, .ref (ad 36)), (1, .int (nI i)), (2, .int aw), (3, .int s9.1), (4, .int s9.2.1), (5, .int s9.2.2), (6, .int (nI k))]) hx hb dX5_usedOf_38 hl (by decide) rfl (fun ls hl => ?_)
      refine lv_bipush (v := 6) hx hb dX5_usedOf_40 (by decide) ?_
      refine lv_iload_n hx hb dX5_usedOf_42 rfl (lv_at hl 2 rfl) ?_
      refine lv_imul hx hb dX5_usedOf_43 ?_
      refine lv_topi (fun x_1 ex_1 => ?_)
      obtain rfl : x_1 = nI (6 * i) := ex_1.trans (nI_mul 6 i)
      refine lv_iload hx hb dX5_usedOf_44 (lv_at hl 7 rfl) ?_
      refine lv_bipush (v := 6) hx hb dX5_usedOf_46 (by decide) ?_
      refine lv_irem hx hb dX5_usedOf_48 (by decide) ?_
      rw [show (nI k) - (nI k) / 6 * 6 = nI (k % 6) from (nI_m6 k hk9)]
      refine lv_iadd hx hb dX5_usedOf_49 ?_
      refine lv_topi (fun x_2 ex_2 => ?_)
      obtain rfl : x_2 = nI ((6 * i) + (k % 6)) := ex_2.trans (nI_add (6 * i) (k % 6))
      refine lv_istore (lv' := [(8, .int (nI ((6 * i) + (k % 6)))), (7, .int (nI (k / 6))), (0, .ref (ad 36)), (1, .int (nI i)), (2, .int aw), (3, .int s9.1), (4, .int s9.2.1), (5, .int s9.2.2), (6, .int (nI k))]) hx hb dX5_usedOf_50 hl (by decide) rfl (fun ls hl => ?_)
      refine lv_iload hx hb dX5_usedOf_52 (lv_at hl 8 rfl) ?_
      refine lv_bipush (v := 6) hx hb dX5_usedOf_54 (by decide) ?_
      refine lv_irem hx hb dX5_usedOf_56 (by decide) ?_
      rw [show (nI k) - (nI k) / 6 * 6 = nI (k % 6) from (nI_m6 k hk9)]
      refine lv_aload_n hx hb dX5_usedOf_57 rfl (lv_at hl 2 rfl) ?_
      refine r_getr (q := 50) X S hw5 ob_M 20 ⟨rfl, by decide, rfl⟩ rfl (hts (.fieldLink RX5 60 "TermBillModel" "awards" "[I") (by decide +kernel)) dX5_usedOf_58 ?_
      refine lv_iload_n hx hb dX5_usedOf_61 rfl (lv_at hl 3 rfl) ?_
      refine r_ialN X S (k := 50) (n := 4) (by unfold Ar; decide) (q := i) rfl (by omega) (by decide) dX5_usedOf_62 ?_
      rw [show F 50 i = nI (aM F i) from hM.2.2.2]
      refine lv_icmp_ge (tgt := 82) hx hb dX5_usedOf_63 (by decide) (fun c_3 => ?_) (fun c_3 => ?_)
      · refine lv_iconst (v := 0) hx hb dX5_usedOf_82 (by decide) ?_
        refine lv_istore (lv' := [(9, .int 0), (8, .int (nI ((6 * i) + (k % 6)))), (7, .int (nI (k / 6))), (0, .ref (ad 36)), (1, .int (nI i)), (2, .int aw), (3, .int s9.1), (4, .int s9.2.1), (5, .int s9.2.2), (6, .int (nI k))]) hx hb dX5_usedOf_83 hl (by decide) rfl (fun ls hl => ?_)
        refine lv_iload hx hb dX5_usedOf_85 (lv_at hl 0 rfl) ?_
        refine lv_if_eq (tgt := 104) hx hb dX5_usedOf_87 (by decide) (fun _ => ?_) (fun z => False.elim (by first | exact absurd z (by decide) | exact absurd (by decide) z))
        refine lv_iconst (v := 0) hx hb dX5_usedOf_104 (by decide) ?_
        refine lv_istore (lv' := [(10, .int 0), (9, .int 0), (8, .int (nI ((6 * i) + (k % 6)))), (7, .int (nI (k / 6))), (0, .ref (ad 36)), (1, .int (nI i)), (2, .int aw), (3, .int s9.1), (4, .int s9.2.1), (5, .int s9.2.2), (6, .int (nI k))]) hx hb dX5_usedOf_105 hl (by decide) rfl (fun ls hl => ?_)
        refine lv_iload hx hb dX5_usedOf_107 (lv_at hl 3 rfl) ?_
        refine lv_if_ne (tgt := 122) hx hb dX5_usedOf_109 (by decide) (fun c_4 => ?_) (fun c_4 => ?_)
        · refine lv_iload hx hb dX5_usedOf_122 (lv_at hl 0 rfl) ?_
          refine lv_istore (lv' := [(10, .int 0), (9, .int 0), (8, .int (nI ((6 * i) + (k % 6)))), (7, .int (nI (k / 6))), (0, .ref (ad 36)), (1, .int (nI i)), (2, .int aw), (3, .int s9.1), (4, .int s9.2.1), (5, .int s9.2.2), (6, .int (nI k))]) hx hb dX5_usedOf_124 hl (by decide) rfl (fun ls hl => ?_)
          refine lv_iload hx hb dX5_usedOf_126 (lv_at hl 8 rfl) ?_
          refine lv_iload hx hb dX5_usedOf_128 (lv_at hl 3 rfl) ?_
          refine lv_if_ne (tgt := 138) hx hb dX5_usedOf_130 (by decide) (fun _ => ?_) (fun z => False.elim (c_4 z))
          refine lv_iconst (v := 0) hx hb dX5_usedOf_138 (by decide) ?_
          refine lv_isub hx hb dX5_usedOf_139 ?_
          refine lv_istore (lv' := [(4, .int (s9.2.1 - 0)), (10, .int 0), (9, .int 0), (8, .int (nI ((6 * i) + (k % 6)))), (7, .int (nI (k / 6))), (0, .ref (ad 36)), (1, .int (nI i)), (2, .int aw), (3, .int s9.1), (5, .int s9.2.2), (6, .int (nI k))]) hx hb dX5_usedOf_140 hl (by decide) rfl (fun ls hl => ?_)
          refine lv_iload_n hx hb dX5_usedOf_142 rfl (lv_at hl 8 rfl) ?_
          refine lv_iload hx hb dX5_usedOf_143 (lv_at hl 1 rfl) ?_
          refine lv_isub hx hb dX5_usedOf_145 ?_
          refine lv_istore_n (lv' := [(3, .int (s9.1 - 0)), (4, .int (s9.2.1 - 0)), (10, .int 0), (9, .int 0), (8, .int (nI ((6 * i) + (k % 6)))), (7, .int (nI (k / 6))), (0, .ref (ad 36)), (1, .int (nI i)), (2, .int aw), (5, .int s9.2.2), (6, .int (nI k))]) hx hb dX5_usedOf_146 rfl hl (by decide) rfl (fun ls hl => ?_)
          refine lv_iload hx hb dX5_usedOf_147 (lv_at hl 9 rfl) ?_
          refine lv_iload hx hb dX5_usedOf_149 (lv_at hl 2 rfl) ?_
          refine lv_iadd hx hb dX5_usedOf_151 ?_
          refine lv_istore (lv' := [(5, .int (s9.2.2 + 0)), (3, .int (s9.1 - 0)), (4, .int (s9.2.1 - 0)), (10, .int 0), (9, .int 0), (8, .int (nI ((6 * i) + (k % 6)))), (7, .int (nI (k / 6))), (0, .ref (ad 36)), (1, .int (nI i)), (2, .int aw), (6, .int (nI k))]) hx hb dX5_usedOf_152 hl (by decide) rfl (fun ls hl => ?_)
          refine lv_iload hx hb dX5_usedOf_154 (lv_at hl 4 rfl) ?_
          refine lv_if_eq (tgt := 171) hx hb dX5_usedOf_156 (by decide) (fun _ => ?_) (fun z => False.elim (by first | exact absurd z (by decide) | exact absurd (by decide) z))
          refine lv_iinc (v := nI (k + 1)) (lv' := [(6, .int (nI (k + 1))), (5, .int (s9.2.2 + 0)), (3, .int (s9.1 - 0)), (4, .int (s9.2.1 - 0)), (10, .int 0), (9, .int 0), (8, .int (nI ((6 * i) + (k % 6)))), (7, .int (nI (k / 6))), (0, .ref (ad 36)), (1, .int (nI i)), (2, .int aw)]) hx hb dX5_usedOf_171 hl (k := 10) rfl (nI_add _ _) (by decide) rfl (fun ls hl => ?_)
          refine lv_goto (tgt := 26) hx hb dX5_usedOf_174 (by decide) ?_
          exact ih (k + 1) (by omega) (s9.1 - 0, s9.2.1 - 0, s9.2.2 + 0) (by rw [show (s9.1 - 0, s9.2.1 - 0, s9.2.2 + 0) = usS F i k s9 from (by simp only [usS, usV, us0, (usI_f1 ha c_3), c_4, Bool.false_eq_true, ↓reduceIte]), ← usL_n (fun q => Bool.noConfusion (q.1.symm.trans (usI_f1 ha c_3)))]; exact eS) H locs ls S (lv_sub hl [8, 9, 10, 2, 3, 1, 0] rfl)
        · refine lv_iload hx hb dX5_usedOf_112 (lv_at hl 0 rfl) ?_
          refine lv_iload hx hb dX5_usedOf_114 (lv_at hl 8 rfl) ?_
          refine r_S0 X S (c_X5_least l D cA ad _ F 0 s9.2.1) (va_cwS 2 hts gX5_usedOf_X5_least rfl rfl rfl (by decide +kernel) ⟨Nat.le_of_ble_eq_true rfl, Nat.le_of_ble_eq_true rfl⟩) rfl hl.1 rfl (Nat.le_of_ble_eq_true rfl) dX5_usedOf_116 ⟨Nat.zero_le _, Nat.zero_le _⟩ (fun H locs S => ?_)
          refine lv_goto (tgt := 124) hx hb dX5_usedOf_119 (by decide) ?_
          refine lv_istore (lv' := [(10, .int (mn 0 s9.2.1)), (9, .int 0), (8, .int (nI ((6 * i) + (k % 6)))), (7, .int (nI (k / 6))), (0, .ref (ad 36)), (1, .int (nI i)), (2, .int aw), (3, .int s9.1), (4, .int s9.2.1), (5, .int s9.2.2), (6, .int (nI k))]) hx hb dX5_usedOf_124 hl (by decide) rfl (fun ls hl => ?_)
          refine lv_iload hx hb dX5_usedOf_126 (lv_at hl 8 rfl) ?_
          refine lv_iload hx hb dX5_usedOf_128 (lv_at hl 3 rfl) ?_
          refine lv_if_ne (tgt := 138) hx hb dX5_usedOf_130 (by decide) (fun z => False.elim (z c_4)) (fun _ => ?_)
          refine lv_iload hx hb dX5_usedOf_133 (lv_at hl 0 rfl) ?_
          refine lv_goto (tgt := 139) hx hb dX5_usedOf_135 (by decide) ?_
          refine lv_isub hx hb dX5_usedOf_139 ?_
          refine lv_istore (lv' := [(4, .int (s9.2.1 - (mn 0 s9.2.1))), (10, .int (mn 0 s9.2.1)), (9, .int 0), (8, .int (nI ((6 * i) + (k % 6)))), (7, .int (nI (k / 6))), (0, .ref (ad 36)), (1, .int (nI i)), (2, .int aw), (3, .int s9.1), (5, .int s9.2.2), (6, .int (nI k))]) hx hb dX5_usedOf_140 hl (by decide) rfl (fun ls hl => ?_)
          refine lv_iload_n hx hb dX5_usedOf_142 rfl (lv_at hl 8 rfl) ?_
          refine lv_iload hx hb dX5_usedOf_143 (lv_at hl 1 rfl) ?_
          refine lv_isub hx hb dX5_usedOf_145 ?_
          refine lv_istore_n (lv' := [(3, .int (s9.1 - (mn 0 s9.2.1))), (4, .int (s9.2.1 - (mn 0 s9.2.1))), (10, .int (mn 0 s9.2.1)), (9, .int 0), (8, .int (nI ((6 * i) + (k % 6)))), (7, .int (nI (k / 6))), (0, .ref (ad 36)), (1, .int (nI i)), (2, .int aw), (5, .int s9.2.2), (6, .int (nI k))]) hx hb dX5_usedOf_146 rfl hl (by decide) rfl (fun ls hl => ?_)
          refine lv_iload hx hb dX5_usedOf_147 (lv_at hl 9 rfl) ?_
          refine lv_iload hx hb dX5_usedOf_149 (lv_at hl 2 rfl) ?_
          refine lv_iadd hx hb dX5_usedOf_151 ?_
          refine lv_istore (lv' := [(5, .int (s9.2.2 + (mn 0 s9.2.1))), (3, .int (s9.1 - (mn 0 s9.2.1))), (4, .int (s9.2.1 - (mn 0 s9.2.1))), (10, .int (mn 0 s9.2.1)), (9, .int 0), (8, .int (nI ((6 * i) + (k % 6)))), (7, .int (nI (k / 6))), (0, .ref (ad 36)), (1, .int (nI i)), (2, .int aw), (6, .int (nI k))]) hx hb dX5_usedOf_152 hl (by decide) rfl (fun ls hl => ?_)
          refine lv_iload hx hb dX5_usedOf_154 (lv_at hl 4 rfl) ?_
          refine lv_if_eq (tgt := 171) hx hb dX5_usedOf_156 (by decide) (fun _ => ?_) (fun z => False.elim (by first | exact absurd z (by decide) | exact absurd (by decide) z))
          refine lv_iinc (v := nI (k + 1)) (lv' := [(6, .int (nI (k + 1))), (5, .int (s9.2.2 + (mn 0 s9.2.1))), (3, .int (s9.1 - (mn 0 s9.2.1))), (4, .int (s9.2.1 - (mn 0 s9.2.1))), (10, .int (mn 0 s9.2.1)), (9, .int 0), (8, .int (nI ((6 * i) + (k % 6)))), (7, .int (nI (k / 6))), (0, .ref (ad 36)), (1, .int (nI i)), (2, .int aw)]) hx hb dX5_usedOf_171 hl (k := 10) rfl (nI_add _ _) (by decide) rfl (fun ls hl => ?_)
          refine lv_goto (tgt := 26) hx hb dX5_usedOf_174 (by decide) ?_
          exact ih (k + 1) (by omega) (s9.1 - (mn 0 s9.2.1), s9.2.1 - (mn 0 s9.2.1), s9.2.2 + (mn 0 s9.2.1)) (by rw [show (s9.1 - (mn 0 s9.2.1), s9.2.1 - (mn 0 s9.2.1), s9.2.2 + (mn 0 s9.2.1)) = usS F i k s9 from (by simp only [usS, usV, us0, (usI_f1 ha c_3), c_4, Bool.false_eq_true, ↓reduceIte]), ← usL_n (fun q => Bool.noConfusion (q.1.symm.trans (usI_f1 ha c_3)))]; exact eS) H locs ls S (lv_sub hl [8, 9, 10, 2, 3, 1, 0] rfl)
      · refine lv_aload_n hx hb dX5_usedOf_66 rfl (lv_at hl 2 rfl) ?_
        refine r_getr (q := 51) X S hw5 ob_M 21 ⟨rfl, by decide, rfl⟩ rfl (hts (.fieldLink RX5 63 "TermBillModel" "ranks" "[I") (by decide +kernel)) dX5_usedOf_67 ?_
        refine lv_iload hx hb dX5_usedOf_70 (lv_at hl 0 rfl) ?_
        refine r_ialN X S (k := 51) (n := 24) (by unfold Ar; decide) (q := (6 * i) + (k % 6)) rfl (by omega) (by decide) dX5_usedOf_72 ?_
        refine lv_iload hx hb dX5_usedOf_73 (lv_at hl 1 rfl) ?_
        refine lv_icmp_ne (tgt := 82) hx hb dX5_usedOf_75 (by decide) (fun c_5 => ?_) (fun c_5 => ?_)
        · refine lv_iconst (v := 0) hx hb dX5_usedOf_82 (by decide) ?_
          refine lv_istore (lv' := [(9, .int 0), (8, .int (nI ((6 * i) + (k % 6)))), (7, .int (nI (k / 6))), (0, .ref (ad 36)), (1, .int (nI i)), (2, .int aw), (3, .int s9.1), (4, .int s9.2.1), (5, .int s9.2.2), (6, .int (nI k))]) hx hb dX5_usedOf_83 hl (by decide) rfl (fun ls hl => ?_)
          refine lv_iload hx hb dX5_usedOf_85 (lv_at hl 0 rfl) ?_
          refine lv_if_eq (tgt := 104) hx hb dX5_usedOf_87 (by decide) (fun _ => ?_) (fun z => False.elim (by first | exact absurd z (by decide) | exact absurd (by decide) z))
          refine lv_iconst (v := 0) hx hb dX5_usedOf_104 (by decide) ?_
          refine lv_istore (lv' := [(10, .int 0), (9, .int 0), (8, .int (nI ((6 * i) + (k % 6)))), (7, .int (nI (k / 6))), (0, .ref (ad 36)), (1, .int (nI i)), (2, .int aw), (3, .int s9.1), (4, .int s9.2.1), (5, .int s9.2.2), (6, .int (nI k))]) hx hb dX5_usedOf_105 hl (by decide) rfl (fun ls hl => ?_)
          refine lv_iload hx hb dX5_usedOf_107 (lv_at hl 3 rfl) ?_
          refine lv_if_ne (tgt := 122) hx hb dX5_usedOf_109 (by decide) (fun c_6 => ?_) (fun c_6 => ?_)
          · refine lv_iload hx hb dX5_usedOf_122 (lv_at hl 0 rfl) ?_
            refine lv_istore (lv' := [(10, .int 0), (9, .int 0), (8, .int (nI ((6 * i) + (k % 6)))), (7, .int (nI (k / 6))), (0, .ref (ad 36)), (1, .int (nI i)), (2, .int aw), (3, .int s9.1), (4, .int s9.2.1), (5, .int s9.2.2), (6, .int (nI k))]) hx hb dX5_usedOf_124 hl (by decide) rfl (fun ls hl => ?_)
            refine lv_iload hx hb dX5_usedOf_126 (lv_at hl 8 rfl) ?_
            refine lv_iload hx hb dX5_usedOf_128 (lv_at hl 3 rfl) ?_
            refine lv_if_ne (tgt := 138) hx hb dX5_usedOf_130 (by decide) (fun _ => ?_) (fun z => False.elim (c_6 z))
            refine lv_iconst (v := 0) hx hb dX5_usedOf_138 (by decide) ?_
            refine lv_isub hx hb dX5_usedOf_139 ?_
            refine lv_istore (lv' := [(4, .int (s9.2.1 - 0)), (10, .int 0), (9, .int 0), (8, .int (nI ((6 * i) + (k % 6)))), (7, .int (nI (k / 6))), (0, .ref (ad 36)), (1, .int (nI i)), (2, .int aw), (3, .int s9.1), (5, .int s9.2.2), (6, .int (nI k))]) hx hb dX5_usedOf_140 hl (by decide) rfl (fun ls hl => ?_)
            refine lv_iload_n hx hb dX5_usedOf_142 rfl (lv_at hl 8 rfl) ?_
            refine lv_iload hx hb dX5_usedOf_143 (lv_at hl 1 rfl) ?_
            refine lv_isub hx hb dX5_usedOf_145 ?_
            refine lv_istore_n (lv' := [(3, .int (s9.1 - 0)), (4, .int (s9.2.1 - 0)), (10, .int 0), (9, .int 0), (8, .int (nI ((6 * i) + (k % 6)))), (7, .int (nI (k / 6))), (0, .ref (ad 36)), (1, .int (nI i)), (2, .int aw), (5, .int s9.2.2), (6, .int (nI k))]) hx hb dX5_usedOf_146 rfl hl (by decide) rfl (fun ls hl => ?_)
            refine lv_iload hx hb dX5_usedOf_147 (lv_at hl 9 rfl) ?_
            refine lv_iload hx hb dX5_usedOf_149 (lv_at hl 2 rfl) ?_
            refine lv_iadd hx hb dX5_usedOf_151 ?_
            refine lv_istore (lv' := [(5, .int (s9.2.2 + 0)), (3, .int (s9.1 - 0)), (4, .int (s9.2.1 - 0)), (10, .int 0), (9, .int 0), (8, .int (nI ((6 * i) + (k % 6)))), (7, .int (nI (k / 6))), (0, .ref (ad 36)), (1, .int (nI i)), (2, .int aw), (6, .int (nI k))]) hx hb dX5_usedOf_152 hl (by decide) rfl (fun ls hl => ?_)
            refine lv_iload hx hb dX5_usedOf_154 (lv_at hl 4 rfl) ?_
            refine lv_if_eq (tgt := 171) hx hb dX5_usedOf_156 (by decide) (fun _ => ?_) (fun z => False.elim (by first | exact absurd z (by decide) | exact absurd (by decide) z))
            refine lv_iinc (v := nI (k + 1)) (lv' := [(6, .int (nI (k + 1))), (5, .int (s9.2.2 + 0)), (3, .int (s9.1 - 0)), (4, .int (s9.2.1 - 0)), (10, .int 0), (9, .int 0), (8, .int (nI ((6 * i) + (k % 6)))), (7, .int (nI (k / 6))), (0, .ref (ad 36)), (1, .int (nI i)), (2, .int aw)]) hx hb dX5_usedOf_171 hl (k := 10) rfl (nI_add _ _) (by decide) rfl (fun ls hl => ?_)
            refine lv_goto (tgt := 26) hx hb dX5_usedOf_174 (by decide) ?_
            exact ih (k + 1) (by omega) (s9.1 - 0, s9.2.1 - 0, s9.2.2 + 0) (by rw [show (s9.1 - 0, s9.2.1 - 0, s9.2.2 + 0) = usS F i k s9 from (by simp only [usS, usV, us0, (usI_f2 c_5), c_6, Bool.false_eq_true, ↓reduceIte]), ← usL_n (fun q => Bool.noConfusion (q.1.symm.trans (usI_f2 c_5)))]; exact eS) H locs ls S (lv_sub hl [8, 9, 10, 2, 3, 1, 0] rfl)
          · refine lv_iload hx hb dX5_usedOf_112 (lv_at hl 0 rfl) ?_
            refine lv_iload hx hb dX5_usedOf_114 (lv_at hl 8 rfl) ?_
            refine r_S0 X S (c_X5_least l D cA ad _ F 0 s9.2.1) (va_cwS 2 hts gX5_usedOf_X5_least rfl rfl rfl (by decide +kernel) ⟨Nat.le_of_ble_eq_true rfl, Nat.le_of_ble_eq_true rfl⟩) rfl hl.1 rfl (Nat.le_of_ble_eq_true rfl) dX5_usedOf_116 ⟨Nat.zero_le _, Nat.zero_le _⟩ (fun H locs S => ?_)
            refine lv_goto (tgt := 124) hx hb dX5_usedOf_119 (by decide) ?_
            refine lv_istore (lv' := [(10, .int (mn 0 s9.2.1)), (9, .int 0), (8, .int (nI ((6 * i) + (k % 6)))), (7, .int (nI (k / 6))), (0, .ref (ad 36)), (1, .int (nI i)), (2, .int aw), (3, .int s9.1), (4, .int s9.2.1), (5, .int s9.2.2), (6, .int (nI k))]) hx hb dX5_usedOf_124 hl (by decide) rfl (fun ls hl => ?_)
            refine lv_iload hx hb dX5_usedOf_126 (lv_at hl 8 rfl) ?_
            refine lv_iload hx hb dX5_usedOf_128 (lv_at hl 3 rfl) ?_
            refine lv_if_ne (tgt := 138) hx hb dX5_usedOf_130 (by decide) (fun z => False.elim (z c_6)) (fun _ => ?_)
            refine lv_iload hx hb dX5_usedOf_133 (lv_at hl 0 rfl) ?_
            refine lv_goto (tgt := 139) hx hb dX5_usedOf_135 (by decide) ?_
            refine lv_isub hx hb dX5_usedOf_139 ?_
            refine lv_istore (lv' := [(4, .int (s9.2.1 - (mn 0 s9.2.1))), (10, .int (mn 0 s9.2.1)), (9, .int 0), (8, .int (nI ((6 * i) + (k % 6)))), (7, .int (nI (k / 6))), (0, .ref (ad 36)), (1, .int (nI i)), (2, .int aw), (3, .int s9.1), (5, .int s9.2.2), (6, .int (nI k))]) hx hb dX5_usedOf_140 hl (by decide) rfl (fun ls hl => ?_)
            refine lv_iload_n hx hb dX5_usedOf_142 rfl (lv_at hl 8 rfl) ?_
            refine lv_iload hx hb dX5_usedOf_143 (lv_at hl 1 rfl) ?_
            refine lv_isub hx hb dX5_usedOf_145 ?_
            refine lv_istore_n (lv' := [(3, .int (s9.1 - (mn 0 s9.2.1))), (4, .int (s9.2.1 - (mn 0 s9.2.1))), (10, .int (mn 0 s9.2.1)), (9, .int 0), (8, .int (nI ((6 * i) + (k % 6)))), (7, .int (nI (k / 6))), (0, .ref (ad 36)), (1, .int (nI i)), (2, .int aw), (5, .int s9.2.2), (6, .int (nI k))]) hx hb dX5_usedOf_146 rfl hl (by decide) rfl (fun ls hl => ?_)
            refine lv_iload hx hb dX5_usedOf_147 (lv_at hl 9 rfl) ?_
            refine lv_iload hx hb dX5_usedOf_149 (lv_at hl 2 rfl) ?_
            refine lv_iadd hx hb dX5_usedOf_151 ?_
            refine lv_istore (lv' := [(5, .int (s9.2.2 + (mn 0 s9.2.1))), (3, .int (s9.1 - (mn 0 s9.2.1))), (4, .int (s9.2.1 - (mn 0 s9.2.1))), (10, .int (mn 0 s9.2.1)), (9, .int 0), (8, .int (nI ((6 * i) + (k % 6)))), (7, .int (nI (k / 6))), (0, .ref (ad 36)), (1, .int (nI i)), (2, .int aw), (6, .int (nI k))]) hx hb dX5_usedOf_152 hl (by decide) rfl (fun ls hl => ?_)
            refine lv_iload hx hb dX5_usedOf_154 (lv_at hl 4 rfl) ?_
            refine lv_if_eq (tgt := 171) hx hb dX5_usedOf_156 (by decide) (fun _ => ?_) (fun z => False.elim (by first | exact absurd z (by decide) | exact absurd (by decide) z))
            refine lv_iinc (v := nI (k + 1)) (lv' := [(6, .int (nI (k + 1))), (5, .int (s9.2.2 + (mn 0 s9.2.1))), (3, .int (s9.1 - (mn 0 s9.2.1))), (4, .int (s9.2.1 - (mn 0 s9.2.1))), (10, .int (mn 0 s9.2.1)), (9, .int 0), (8, .int (nI ((6 * i) + (k % 6)))), (7, .int (nI (k / 6))), (0, .ref (ad 36)), (1, .int (nI i)), (2, .int aw)]) hx hb dX5_usedOf_171 hl (k := 10) rfl (nI_add _ _) (by decide) rfl (fun ls hl => ?_)
            refine lv_goto (tgt := 26) hx hb dX5_usedOf_174 (by decide) ?_
            exact ih (k + 1) (by omega) (s9.1 - (mn 0 s9.2.1), s9.2.1 - (mn 0 s9.2.1), s9.2.2 + (mn 0 s9.2.1)) (by rw [show (s9.1 - (mn 0 s9.2.1), s9.2.1 - (mn 0 s9.2.1), s9.2.2 + (mn 0 s9.2.1)) = usS F i k s9 from (by simp only [usS, usV, us0, (usI_f2 c_5), c_6, Bool.false_eq_true, ↓reduceIte]), ← usL_n (fun q => Bool.noConfusion (q.1.symm.trans (usI_f2 c_5)))]; exact eS) H locs ls S (lv_sub hl [8, 9, 10, 2, 3, 1, 0] rfl)
        · refine lv_iconst (v := 1) hx hb dX5_usedOf_78 (by decide) ?_
          refine lv_goto (tgt := 83) hx hb dX5_usedOf_79 (by decide) ?_
          refine lv_istore (lv' := [(9, .int 1), (8, .int (nI ((6 * i) + (k % 6)))), (7, .int (nI (k / 6))), (0, .ref (ad 36)), (1, .int (nI i)), (2, .int aw), (3, .int s9.1), (4, .int s9.2.1), (5, .int s9.2.2), (6, .int (nI k))]) hx hb dX5_usedOf_83 hl (by decide) rfl (fun ls hl => ?_)
          refine lv_iload hx hb dX5_usedOf_85 (lv_at hl 0 rfl) ?_
          refine lv_if_eq (tgt := 104) hx hb dX5_usedOf_87 (by decide) (fun z => False.elim (by first | exact absurd z (by decide) | exact absurd (by decide) z)) (fun _ => ?_)
          refine lv_aload_n hx hb dX5_usedOf_90 rfl (lv_at hl 3 rfl) ?_
          refine r_getr (q := 52) X S hw5 ob_M 22 ⟨rfl, by decide, rfl⟩ rfl (hts (.fieldLink RX5 66 "TermBillModel" "amounts" "[I") (by decide +kernel)) dX5_usedOf_91 ?_
          refine lv_iload hx hb dX5_usedOf_94 (lv_at hl 1 rfl) ?_
          refine r_ialN X S (k := 52) (n := 24) (by unfold Ar; decide) (q := (6 * i) + (k % 6)) rfl (by omega) (by decide) dX5_usedOf_96 ?_
          refine lv_iload_n hx hb dX5_usedOf_97 rfl (lv_at hl 6 rfl) ?_
          refine r_S0 X S (c_X5_least l D cA ad _ F (F 52 ((6 * i) + (k % 6))) s9.1) (va_cwS 2 hts gX5_usedOf_X5_least rfl rfl rfl (by decide +kernel) ⟨Nat.le_of_ble_eq_true rfl, Nat.le_of_ble_eq_true rfl⟩) rfl hl.1 rfl (Nat.le_of_ble_eq_true rfl) dX5_usedOf_98 ⟨Nat.zero_le _, Nat.zero_le _⟩ (fun H locs S => ?_)
          refine lv_goto (tgt := 105) hx hb dX5_usedOf_101 (by decide) ?_
          refine lv_istore (lv' := [(10, .int (mn (F 52 ((6 * i) + (k % 6))) s9.1)), (9, .int 1), (8, .int (nI ((6 * i) + (k % 6)))), (7, .int (nI (k / 6))), (0, .ref (ad 36)), (1, .int (nI i)), (2, .int aw), (3, .int s9.1), (4, .int s9.2.1), (5, .int s9.2.2), (6, .int (nI k))]) hx hb dX5_usedOf_105 hl (by decide) rfl (fun ls hl => ?_)
          refine lv_iload hx hb dX5_usedOf_107 (lv_at hl 3 rfl) ?_
          refine lv_if_ne (tgt := 122) hx hb dX5_usedOf_109 (by decide) (fun c_7 => ?_) (fun c_7 => ?_)
          · refine lv_iload hx hb dX5_usedOf_122 (lv_at hl 0 rfl) ?_
            refine lv_istore (lv' := [(10, .int (mn (F 52 ((6 * i) + (k % 6))) s9.1)), (9, .int 1), (8, .int (nI ((6 * i) + (k % 6)))), (7, .int (nI (k / 6))), (0, .ref (ad 36)), (1, .int (nI i)), (2, .int aw), (3, .int s9.1), (4, .int s9.2.1), (5, .int s9.2.2), (6, .int (nI k))]) hx hb dX5_usedOf_124 hl (by decide) rfl (fun ls hl => ?_)
            refine lv_iload hx hb dX5_usedOf_126 (lv_at hl 8 rfl) ?_
            refine lv_iload hx hb dX5_usedOf_128 (lv_at hl 3 rfl) ?_
            refine lv_if_ne (tgt := 138) hx hb dX5_usedOf_130 (by decide) (fun _ => ?_) (fun z => False.elim (c_7 z))
            refine lv_iconst (v := 0) hx hb dX5_usedOf_138 (by decide) ?_
            refine lv_isub hx hb dX5_usedOf_139 ?_
            refine lv_istore (lv' := [(4, .int (s9.2.1 - 0)), (10, .int (mn (F 52 ((6 * i) + (k % 6))) s9.1)), (9, .int 1), (8, .int (nI ((6 * i) + (k % 6)))), (7, .int (nI (k / 6))), (0, .ref (ad 36)), (1, .int (nI i)), (2, .int aw), (3, .int s9.1), (5, .int s9.2.2), (6, .int (nI k))]) hx hb dX5_usedOf_140 hl (by decide) rfl (fun ls hl => ?_)
            refine lv_iload_n hx hb dX5_usedOf_142 rfl (lv_at hl 8 rfl) ?_
            refine lv_iload hx hb dX5_usedOf_143 (lv_at hl 1 rfl) ?_
            refine lv_isub hx hb dX5_usedOf_145 ?_
            refine lv_istore_n (lv' := [(3, .int (s9.1 - (mn (F 52 ((6 * i) + (k % 6))) s9.1))), (4, .int (s9.2.1 - 0)), (10, .int (mn (F 52 ((6 * i) + (k % 6))) s9.1)), (9, .int 1), (8, .int (nI ((6 * i) + (k % 6)))), (7, .int (nI (k / 6))), (0, .ref (ad 36)), (1, .int (nI i)), (2, .int aw), (5, .int s9.2.2), (6, .int (nI k))]) hx hb dX5_usedOf_146 rfl hl (by decide) rfl (fun ls hl => ?_)
            refine lv_iload hx hb dX5_usedOf_147 (lv_at hl 9 rfl) ?_
            refine lv_iload hx hb dX5_usedOf_149 (lv_at hl 2 rfl) ?_
            refine lv_iadd hx hb dX5_usedOf_151 ?_
            refine lv_istore (lv' := [(5, .int (s9.2.2 + (mn (F 52 ((6 * i) + (k % 6))) s9.1))), (3, .int (s9.1 - (mn (F 52 ((6 * i) + (k % 6))) s9.1))), (4, .int (s9.2.1 - 0)), (10, .int (mn (F 52 ((6 * i) + (k % 6))) s9.1)), (9, .int 1), (8, .int (nI ((6 * i) + (k % 6)))), (7, .int (nI (k / 6))), (0, .ref (ad 36)), (1, .int (nI i)), (2, .int aw), (6, .int (nI k))]) hx hb dX5_usedOf_152 hl (by decide) rfl (fun ls hl => ?_)
            refine lv_iload hx hb dX5_usedOf_154 (lv_at hl 4 rfl) ?_
            refine lv_if_eq (tgt := 171) hx hb dX5_usedOf_156 (by decide) (fun z => False.elim (by first | exact absurd z (by decide) | exact absurd (by decide) z)) (fun _ => ?_)
            refine lv_iload hx hb dX5_usedOf_159 (lv_at hl 10 rfl) ?_
            refine lv_bipush (v := 6) hx hb dX5_usedOf_161 (by decide) ?_
            refine lv_irem hx hb dX5_usedOf_163 (by decide) ?_
            rw [show (nI k) - (nI k) / 6 * 6 = nI (k % 6) from (nI_m6 k hk9)]
            refine lv_iload_n hx hb dX5_usedOf_164 rfl (lv_at hl 9 rfl) ?_
            refine lv_icmp_ne (tgt := 171) hx hb dX5_usedOf_165 (by decide) (fun c_8 => ?_) (fun c_8 => ?_)
            · refine lv_iinc (v := nI (k + 1)) (lv' := [(6, .int (nI (k + 1))), (5, .int (s9.2.2 + (mn (F 52 ((6 * i) + (k % 6))) s9.1))), (3, .int (s9.1 - (mn (F 52 ((6 * i) + (k % 6))) s9.1))), (4, .int (s9.2.1 - 0)), (10, .int (mn (F 52 ((6 * i) + (k % 6))) s9.1)), (9, .int 1), (8, .int (nI ((6 * i) + (k % 6)))), (7, .int (nI (k / 6))), (0, .ref (ad 36)), (1, .int (nI i)), (2, .int aw)]) hx hb dX5_usedOf_171 hl (k := 10) rfl (nI_add _ _) (by decide) rfl (fun ls hl => ?_)
              refine lv_goto (tgt := 26) hx hb dX5_usedOf_174 (by decide) ?_
              exact ih (k + 1) (by omega) (s9.1 - (mn (F 52 ((6 * i) + (k % 6))) s9.1), s9.2.1 - 0, s9.2.2 + (mn (F 52 ((6 * i) + (k % 6))) s9.1)) (by rw [show (s9.1 - (mn (F 52 ((6 * i) + (k % 6))) s9.1), s9.2.1 - 0, s9.2.2 + (mn (F 52 ((6 * i) + (k % 6))) s9.1)) = usS F i k s9 from (by simp only [usS, usV, us0, (usI_t ha c_3 c_5), c_7, Bool.false_eq_true, ↓reduceIte]), ← usL_n (fun q => c_8 q.2)]; exact eS) H locs ls S (lv_sub hl [8, 9, 10, 2, 3, 1, 0] rfl)
            · refine lv_iload hx hb dX5_usedOf_168 (lv_at hl 3 rfl) ?_
              exact r_iret X S hr dX5_usedOf_170 (Nat.le_of_ble_eq_true rfl) (Nat.le_of_ble_eq_true rfl) (by rw [← eS, usL_y ⟨(usI_t ha c_3 c_5), c_8⟩]; simp only [usV, us0, (usI_t ha c_3 c_5), c_7, ↓reduceIte]) rfl
          · refine lv_iload hx hb dX5_usedOf_112 (lv_at hl 0 rfl) ?_
            refine lv_iload hx hb dX5_usedOf_114 (lv_at hl 8 rfl) ?_
            refine r_S0 X S (c_X5_least l D cA ad _ F (mn (F 52 ((6 * i) + (k % 6))) s9.1) s9.2.1) (va_cwS 2 hts gX5_usedOf_X5_least rfl rfl rfl (by decide +kernel) ⟨Nat.le_of_ble_eq_true rfl, Nat.le_of_ble_eq_true rfl⟩) rfl hl.1 rfl (Nat.le_of_ble_eq_true rfl) dX5_usedOf_116 ⟨Nat.zero_le _, Nat.zero_le _⟩ (fun H locs S => ?_)
            refine lv_goto (tgt := 124) hx hb dX5_usedOf_119 (by decide) ?_
            refine lv_istore (lv' := [(10, .int (mn (mn (F 52 ((6 * i) + (k % 6))) s9.1) s9.2.1)), (9, .int 1), (8, .int (nI ((6 * i) + (k % 6)))), (7, .int (nI (k / 6))), (0, .ref (ad 36)), (1, .int (nI i)), (2, .int aw), (3, .int s9.1), (4, .int s9.2.1), (5, .int s9.2.2), (6, .int (nI k))]) hx hb dX5_usedOf_124 hl (by decide) rfl (fun ls hl => ?_)
            refine lv_iload hx hb dX5_usedOf_126 (lv_at hl 8 rfl) ?_
            refine lv_iload hx hb dX5_usedOf_128 (lv_at hl 3 rfl) ?_
            refine lv_if_ne (tgt := 138) hx hb dX5_usedOf_130 (by decide) (fun z => False.elim (z c_7)) (fun _ => ?_)
            refine lv_iload hx hb dX5_usedOf_133 (lv_at hl 0 rfl) ?_
            refine lv_goto (tgt := 139) hx hb dX5_usedOf_135 (by decide) ?_
            refine lv_isub hx hb dX5_usedOf_139 ?_
            refine lv_istore (lv' := [(4, .int (s9.2.1 - (mn (mn (F 52 ((6 * i) + (k % 6))) s9.1) s9.2.1))), (10, .int (mn (mn (F 52 ((6 * i) + (k % 6))) s9.1) s9.2.1)), (9, .int 1), (8, .int (nI ((6 * i) + (k % 6)))), (7, .int (nI (k / 6))), (0, .ref (ad 36)), (1, .int (nI i)), (2, .int aw), (3, .int s9.1), (5, .int s9.2.2), (6, .int (nI k))]) hx hb dX5_usedOf_140 hl (by decide) rfl (fun ls hl => ?_)
            refine lv_iload_n hx hb dX5_usedOf_142 rfl (lv_at hl 8 rfl) ?_
            refine lv_iload hx hb dX5_usedOf_143 (lv_at hl 1 rfl) ?_
            refine lv_isub hx hb dX5_usedOf_145 ?_
            refine lv_istore_n (lv' := [(3, .int (s9.1 - (mn (mn (F 52 ((6 * i) + (k % 6))) s9.1) s9.2.1))), (4, .int (s9.2.1 - (mn (mn (F 52 ((6 * i) + (k % 6))) s9.1) s9.2.1))), (10, .int (mn (mn (F 52 ((6 * i) + (k % 6))) s9.1) s9.2.1)), (9, .int 1), (8, .int (nI ((6 * i) + (k % 6)))), (7, .int (nI (k / 6))), (0, .ref (ad 36)), (1, .int (nI i)), (2, .int aw), (5, .int s9.2.2), (6, .int (nI k))]) hx hb dX5_usedOf_146 rfl hl (by decide) rfl (fun ls hl => ?_)
            refine lv_iload hx hb dX5_usedOf_147 (lv_at hl 9 rfl) ?_
            refine lv_iload hx hb dX5_usedOf_149 (lv_at hl 2 rfl) ?_
            refine lv_iadd hx hb dX5_usedOf_151 ?_
            refine lv_istore (lv' := [(5, .int (s9.2.2 + (mn (mn (F 52 ((6 * i) + (k % 6))) s9.1) s9.2.1))), (3, .int (s9.1 - (mn (mn (F 52 ((6 * i) + (k % 6))) s9.1) s9.2.1))), (4, .int (s9.2.1 - (mn (mn (F 52 ((6 * i) + (k % 6))) s9.1) s9.2.1))), (10, .int (mn (mn (F 52 ((6 * i) + (k % 6))) s9.1) s9.2.1)), (9, .int 1), (8, .int (nI ((6 * i) + (k % 6)))), (7, .int (nI (k / 6))), (0, .ref (ad 36)), (1, .int (nI i)), (2, .int aw), (6, .int (nI k))]) hx hb dX5_usedOf_152 hl (by decide) rfl (fun ls hl => ?_)
            refine lv_iload hx hb dX5_usedOf_154 (lv_at hl 4 rfl) ?_
            refine lv_if_eq (tgt := 171) hx hb dX5_usedOf_156 (by decide) (fun z => False.elim (by first | exact absurd z (by decide) | exact absurd (by decide) z)) (fun _ => ?_)
            refine lv_iload hx hb dX5_usedOf_159 (lv_at hl 10 rfl) ?_
            refine lv_bipush (v := 6) hx hb dX5_usedOf_161 (by decide) ?_
            refine lv_irem hx hb dX5_usedOf_163 (by decide) ?_
            rw [show (nI k) - (nI k) / 6 * 6 = nI (k % 6) from (nI_m6 k hk9)]
            refine lv_iload_n hx hb dX5_usedOf_164 rfl (lv_at hl 9 rfl) ?_
            refine lv_icmp_ne (tgt := 171) hx hb dX5_usedOf_165 (by decide) (fun c_9 => ?_) (fun c_9 => ?_)
            · refine lv_iinc (v := nI (k + 1)) (lv' := [(6, .int (nI (k + 1))), (5, .int (s9.2.2 + (mn (mn (F 52 ((6 * i) + (k % 6))) s9.1) s9.2.1))), (3, .int (s9.1 - (mn (mn (F 52 ((6 * i) + (k % 6))) s9.1) s9.2.1))), (4, .int (s9.2.1 - (mn (mn (F 52 ((6 * i) + (k % 6))) s9.1) s9.2.1))), (10, .int (mn (mn (F 52 ((6 * i) + (k % 6))) s9.1) s9.2.1)), (9, .int 1), (8, .int (nI ((6 * i) + (k % 6)))), (7, .int (nI (k / 6))), (0, .ref (ad 36)), (1, .int (nI i)), (2, .int aw)]) hx hb dX5_usedOf_171 hl (k := 10) rfl (nI_add _ _) (by decide) rfl (fun ls hl => ?_)
              refine lv_goto (tgt := 26) hx hb dX5_usedOf_174 (by decide) ?_
              exact ih (k + 1) (by omega) (s9.1 - (mn (mn (F 52 ((6 * i) + (k % 6))) s9.1) s9.2.1), s9.2.1 - (mn (mn (F 52 ((6 * i) + (k % 6))) s9.1) s9.2.1), s9.2.2 + (mn (mn (F 52 ((6 * i) + (k % 6))) s9.1) s9.2.1)) (by rw [show (s9.1 - (mn (mn (F 52 ((6 * i) + (k % 6))) s9.1) s9.2.1), s9.2.1 - (mn (mn (F 52 ((6 * i) + (k % 6))) s9.1) s9.2.1), s9.2.2 + (mn (mn (F 52 ((6 * i) + (k % 6))) s9.1) s9.2.1)) = usS F i k s9 from (by simp only [usS, usV, us0, (usI_t ha c_3 c_5), c_7, Bool.false_eq_true, ↓reduceIte]), ← usL_n (fun q => c_9 q.2)]; exact eS) H locs ls S (lv_sub hl [8, 9, 10, 2, 3, 1, 0] rfl)
            · refine lv_iload hx hb dX5_usedOf_168 (lv_at hl 3 rfl) ?_
              exact r_iret X S hr dX5_usedOf_170 (Nat.le_of_ble_eq_true rfl) (Nat.le_of_ble_eq_true rfl) (by rw [← eS, usL_y ⟨(usI_t ha c_3 c_5), c_9⟩]; simp only [usV, us0, (usI_t ha c_3 c_5), c_7, ↓reduceIte]) rfl
  refine lv_aload_n hx hb dX5_usedOf_0 rfl (lv_at hl 0 rfl) ?_
  refine lv_iload_n hx hb dX5_usedOf_1 rfl (lv_at hl 1 rfl) ?_
  refine r_V0 X S (c_X5_all l D cA ad _ F i hi hM) ob_M rfl (cwV 1 hts gX5_usedOf_X5_all rfl rfl rfl (by decide +kernel) ⟨Nat.le_of_ble_eq_true rfl, Nat.le_of_ble_eq_true rfl⟩) rfl hl.1 rfl (Nat.le_of_ble_eq_true rfl) dX5_usedOf_2 ⟨Nat.zero_le _, Nat.zero_le _⟩ (fun H locs S => ?_)
  refine lv_aload_n hx hb dX5_usedOf_5 rfl (lv_at hl 0 rfl) ?_
  refine lv_iload_n hx hb dX5_usedOf_6 rfl (lv_at hl 1 rfl) ?_
  refine r_V0 X S (c_X5_sponsoredOf l D cA ad _ F i hi hM) ob_M rfl (cwV 1 hts gX5_usedOf_X5_sponsoredOf rfl rfl rfl (by decide +kernel) ⟨Nat.le_of_ble_eq_true rfl, Nat.le_of_ble_eq_true rfl⟩) rfl hl.1 rfl (Nat.le_of_ble_eq_true rfl) dX5_usedOf_7 ⟨Nat.zero_le _, Nat.zero_le _⟩ (fun H locs S => ?_)
  refine lv_isub hx hb dX5_usedOf_10 ?_
  refine lv_istore_n (lv' := [(3, .int ((alM F i) - (spM F i))), (0, .ref (ad 36)), (1, .int (nI i)), (2, .int aw)]) hx hb dX5_usedOf_11 rfl hl (by decide) rfl (fun ls hl => ?_)
  refine lv_aload_n hx hb dX5_usedOf_12 rfl (lv_at hl 1 rfl) ?_
  refine r_getr (q := 41) X S hw5 ob_M 11 ⟨rfl, by decide, rfl⟩ rfl (hts (.fieldLink RX5 33 "TermBillModel" "needs" "[I") (by decide +kernel)) dX5_usedOf_13 ?_
  refine lv_iload_n hx hb dX5_usedOf_16 rfl (lv_at hl 2 rfl) ?_
  refine r_ialN X S (k := 41) (n := 4) (by unfold Ar; decide) (q := i) rfl (by omega) (by decide) dX5_usedOf_17 ?_
  refine lv_istore (lv' := [(4, .int (F 41 i)), (3, .int ((alM F i) - (spM F i))), (0, .ref (ad 36)), (1, .int (nI i)), (2, .int aw)]) hx hb dX5_usedOf_18 hl (by decide) rfl (fun ls hl => ?_)
  refine lv_iconst (v := 0) hx hb dX5_usedOf_20 (by decide) ?_
  refine lv_istore (lv' := [(5, .int 0), (4, .int (F 41 i)), (3, .int ((alM F i) - (spM F i))), (0, .ref (ad 36)), (1, .int (nI i)), (2, .int aw)]) hx hb dX5_usedOf_21 hl (by decide) rfl (fun ls hl => ?_)
  refine lv_iconst (v := 0) hx hb dX5_usedOf_23 (by decide) ?_
  refine lv_istore (lv' := [(6, .int 0), (5, .int 0), (4, .int (F 41 i)), (3, .int ((alM F i) - (spM F i))), (0, .ref (ad 36)), (1, .int (nI i)), (2, .int aw)]) hx hb dX5_usedOf_24 hl (by decide) rfl (fun ls hl => ?_)
  exact loop 18 0 (by omega) (alM F i - spM F i, F 41 i, 0) rfl _ _ ls S (lv_sub hl [4, 5, 6, 3, 2, 1, 0] rfl)

set_option maxHeartbeats 1000000 in
set_option maxRecDepth 100000 in
theorem c_X5_owedOf (l : Launch) (D : va_G) (cA : Nat → ClassId) (ad : Nat → Nat) (sz : Nat) (F : FF) (i : Nat) (hi : i < 4) (hM : OKM F i) : CI l D cA ad sz yX5_owedOf wsX5_owedOf 5 119 0 0 [.ref (ad 36), .int (nI i)] F (some (.int (owM F i))) F := by
  refine CI_of (own := RX5) (cc := cX5_owedOf) (maxL := 2) (ret := (some .int)) (by decide +kernel) rfl rfl (Nat.le_of_ble_eq_true rfl) ?_
  intro p e s m below meth c ls X S hr hl
  obtain ⟨⟨hx, hb, hml, hown, hts⟩, hE, hI, hlocks⟩ := id X
  have hl : lv_has ls 2 [(0, .ref (ad 36)), (1, .int (nI i))] := hl
  have hw5 : ∀ w ∈ wsX50, w.before _ s = true := fun w h => hts w ((by decide +kernel : ∀ w ∈ wsX50, w ∈ wsX5_owedOf) w h)
  refine lv_aload_n hx hb dX5_owedOf_0 rfl (lv_at hl 0 rfl) ?_
  refine lv_iload_n hx hb dX5_owedOf_1 rfl (lv_at hl 1 rfl) ?_
  refine r_V0 X S (c_X5_all l D cA ad _ F i hi hM) ob_M rfl (cwV 1 hts gX5_owedOf_X5_all rfl rfl rfl (by decide +kernel) ⟨Nat.le_of_ble_eq_true rfl, Nat.le_of_ble_eq_true rfl⟩) rfl hl.1 rfl (Nat.le_of_ble_eq_true rfl) dX5_owedOf_2 ⟨Nat.zero_le _, Nat.zero_le _⟩ (fun H locs S => ?_)
  refine lv_aload_n hx hb dX5_owedOf_5 rfl (lv_at hl 0 rfl) ?_
  refine lv_iload_n hx hb dX5_owedOf_6 rfl (lv_at hl 1 rfl) ?_
  refine r_V0 X S (c_X5_sponsoredOf l D cA ad _ F i hi hM) ob_M rfl (cwV 1 hts gX5_owedOf_X5_sponsoredOf rfl rfl rfl (by decide +kernel) ⟨Nat.le_of_ble_eq_true rfl, Nat.le_of_ble_eq_true rfl⟩) rfl hl.1 rfl (Nat.le_of_ble_eq_true rfl) dX5_owedOf_7 ⟨Nat.zero_le _, Nat.zero_le _⟩ (fun H locs S => ?_)
  refine lv_isub hx hb dX5_owedOf_10 ?_
  refine lv_aload_n hx hb dX5_owedOf_11 rfl (lv_at hl 0 rfl) ?_
  refine lv_iload_n hx hb dX5_owedOf_12 rfl (lv_at hl 1 rfl) ?_
  refine lv_iconst (v := -1) hx hb dX5_owedOf_13 (by decide) ?_
  refine r_V0 X S (c_X5_usedOf l D cA ad _ F i hi hM (-1)) ob_M rfl (cwV 2 hts gX5_owedOf_X5_usedOf rfl rfl rfl (by decide +kernel) ⟨Nat.le_of_ble_eq_true rfl, Nat.le_of_ble_eq_true rfl⟩) rfl hl.1 rfl (Nat.le_of_ble_eq_true rfl) dX5_owedOf_14 ⟨Nat.zero_le _, Nat.zero_le _⟩ (fun H locs S => ?_)
  refine lv_isub hx hb dX5_owedOf_17 ?_
  refine lv_aload_n hx hb dX5_owedOf_18 rfl (lv_at hl 0 rfl) ?_
  refine r_getr (q := 53) X S hw5 ob_M 23 ⟨rfl, by decide, rfl⟩ rfl (hts (.fieldLink RX5 69 "TermBillModel" "paid" "[I") (by decide +kernel)) dX5_owedOf_19 ?_
  refine lv_iload_n hx hb dX5_owedOf_22 rfl (lv_at hl 1 rfl) ?_
  refine r_ialN X S (k := 53) (n := 4) (by unfold Ar; decide) (q := i) rfl (by omega) (by decide) dX5_owedOf_23 ?_
  refine lv_isub hx hb dX5_owedOf_24 ?_
  exact r_iret X S hr dX5_owedOf_25 (Nat.le_of_ble_eq_true rfl) (Nat.le_of_ble_eq_true rfl) (by unfold owM; rfl) rfl
