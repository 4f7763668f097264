/-! what the small methods answer -/
def wi (x a b : Int32) : Bool := decide (a ≤ x) && decide (x ≤ b)
theorem wi_t {x a b : Int32} (h1 : ¬ x < a) (h2 : ¬ b < x) : wi x a b = true := by
  simp only [wi, Bool.and_eq_true, decide_eq_true_eq]
  exact ⟨Int32.not_lt.mp h1, Int32.not_lt.mp h2⟩
theorem wi_f1 {x a b : Int32} (h : x < a) : wi x a b = false := by
  have h1 : ¬ a ≤ x := Int32.not_le.mpr h
  simp [wi, h1]
theorem wi_f2 {x a b : Int32} (h : b < x) : wi x a b = false := by
  have h1 : ¬ x ≤ b := Int32.not_le.mpr h
  simp [wi, h1]
theorem wi_iff {x a b : Int32} : wi x a b = true ↔ a.toInt ≤ x.toInt ∧ x.toInt ≤ b.toInt := by
  simp only [wi, Bool.and_eq_true, decide_eq_true_eq, Int32.le_iff_toInt_le]
theorem wi_no {x a b : Int32} (h : wi x a b = false) : ¬ (a.toInt ≤ x.toInt ∧ x.toInt ≤ b.toInt) := by
  rw [← wi_iff, h]
  decide
theorem stu_bad {x : Int32} (h : wi x 0 3 = false) (h1 : ¬ x < 0) (z : ¬ (4 : Int32) ≤ x) : False := by
  have h2 := wi_no h
  rw [Int32.le_iff_toInt_le] at z
  rw [Int32.lt_iff_toInt_lt] at h1
  have e0 : (0 : Int32).toInt = 0 := by decide
  have e3 : (3 : Int32).toInt = 3 := by decide
  have e4 : (4 : Int32).toInt = 4 := by decide
  omega
def pcl (f t c r : Int32) : Int32 := if f < c then (if t < c then (f + c - t) * r else f * r) else c * r
def plc (a b : Int32) : Nat := (if a = 0 then 0 else 2) + (if b = 0 then 0 else 1)
theorem plc_lt (a b : Int32) : plc a b < 4 := by unfold plc; split <;> split <;> omega
theorem rof_1 {a z : Int32} (h : a = 0 ∨ a = 1) (hz : ¬ z = 0) : 2 * a + 1 = nI (plc a z) := by
  unfold plc
  rw [if_neg hz]
  rcases h with rfl | rfl <;> decide
theorem rof_0 {a z : Int32} (h : a = 0 ∨ a = 1) (hz : z = 0) : 2 * a + 0 = nI (plc a z) := by
  unfold plc
  rw [if_pos hz]
  rcases h with rfl | rfl <;> decide
def poR (a b : Int32) : Int32 := if a < 0 then -1 else if a ≤ 1 then (if b = 0 then 2 * a + 0 else 2 * a + 1) else -1
def raA (F : FF) (x : Int32) : Int32 := if x < 0 then 0 else if 4 ≤ x then 0 else F 2 x.toNatClampNeg
theorem rt_ix {x : Int32} (h1 : ¬ x < 0) (h2 : ¬ (4 : Int32) ≤ x) : x = nI x.toNatClampNeg ∧ x.toNatClampNeg < 4 := by
  rw [Int32.lt_iff_toInt_lt] at h1
  rw [Int32.le_iff_toInt_le] at h2
  have e0 : (0 : Int32).toInt = 0 := by decide
  have e4 : (4 : Int32).toInt = 4 := by decide
  have e : x.toNatClampNeg = x.toInt.toNat := rfl
  refine ⟨Int32.toInt_inj.mp ?_, by omega⟩
  rw [nI_toInt (by omega), e]
  omega
theorem poR_p {a b : Int32} (h : wi a 0 1 = true) : poR a b = nI (plc a b) := by
  have h1 := wi_iff.mp h
  have e0 : (0 : Int32).toInt = 0 := by decide
  have e1 : (1 : Int32).toInt = 1 := by decide
  have z : a = 0 ∨ a = 1 := by
    by_cases q : a.toInt = 0
    · exact .inl (Int32.toInt_inj.mp (q.trans e0.symm))
    · exact .inr (Int32.toInt_inj.mp ((by omega : a.toInt = 1).trans e1.symm))
  have n0 : ¬ a < 0 := by rw [Int32.lt_iff_toInt_lt]; omega
  have n1 : a ≤ 1 := by rw [Int32.le_iff_toInt_le]; omega
  unfold poR
  rw [if_neg n0, if_pos n1]
  by_cases hb : b = 0
  · rw [if_pos hb]; exact rof_0 z hb
  · rw [if_neg hb]; exact rof_1 z hb
theorem poR_w {a b : Int32} (h : ¬ poR a b < 0) : wi a 0 1 = true := by
  unfold poR at h
  by_cases h1 : a < 0
  · rw [if_pos h1] at h; exact absurd (by decide) h
  · rw [if_neg h1] at h
    by_cases h2 : a ≤ 1
    · exact wi_t h1 (Int32.not_lt.mpr h2)
    · rw [if_neg h2] at h; exact absurd (by decide) h
theorem raA_p {F : FF} {x : Int32} {p : Nat} (h : x = nI p) (hp : p < 4) : raA F x = F 2 p := by
  subst h
  have n0 : ¬ nI p < 0 := nI_pos (by omega)
  have n4 : ¬ (4 : Int32) ≤ nI p := nI_ge (a := p) (b := 4) hp (by omega)
  unfold raA
  rw [if_neg n0, if_neg n4, nI_clamp (by omega)]
theorem wi_b01 {a : Int32} (h : a = 0 ∨ a = 1) : wi a 0 1 = true := by rcases h with rfl | rfl <;> decide
def hasI (x t : Int32) : Bool := !decide (x < 0) && decide (x < t)
theorem hasI_t {x t : Int32} (h1 : ¬ x < 0) (h2 : ¬ t ≤ x) : hasI x t = true := by simp [hasI, h1, Int32.not_le.mp h2]
theorem hasI_f1 {x t : Int32} (h1 : x < 0) : hasI x t = false := by simp [hasI, h1]
theorem hasI_f2 {x t : Int32} (h2 : t ≤ x) : hasI x t = false := by
  have h3 : ¬ x < t := Int32.not_lt.mpr h2
  simp [hasI, h3]
def uF (F : FF) (k n : Nat) (v : Int32) : FF := fun a b => if a = k ∧ b < n then v else F a b
theorem uF_0 (F : FF) (k : Nat) (v : Int32) : uF F k 0 v = F := by funext a b; simp [uF]
theorem uF_s (F : FF) (k n : Nat) (v : Int32) : u2 (uF F k n v) k n v = uF F k (n + 1) v := by
  funext a b
  by_cases h : a = k
  · subst h
    by_cases h2 : b = n
    · subst h2; simp [u2, uF]
    · by_cases h3 : b < n
      · simp [u2, uF, h2, h3, show b < n + 1 by omega]
      · simp [u2, uF, h2, h3, show ¬ b < n + 1 by omega]
  · simp [u2, uF, h]
def lateI (wk ma mn fi ea ps : Int32) : Bool := decide (wk - ma - (wk - ma) / 2 * 2 = 0) && (!decide ((wk - ma) / 2 < 1) && (decide ((wk - ma) / 2 ≤ mn) && !decide (fi + ea * ((wk - ma) / 2 - 1) ≤ ps)))
def carI (a b : Int32) : Int32 := if a ≤ 0 then 0 else if 0 ≤ b then 0 else mn a (-b)
def bakI (w a : Int32) : Int32 := if w < 10 then a - a * w / 16 else 0
def tot8 (f : Nat → Int32) : Int32 := 0 + f 0 + f 1 + f 2 + f 3 + f 4 + f 5 + f 6 + f 7
def tot6 (f : Nat → Int32) : Int32 := 0 + f 0 + f 1 + f 2 + f 3 + f 4 + f 5
set_option maxHeartbeats 1000000 in
set_option maxRecDepth 100000 in
theorem c_X4_isWithin (l : Launch) (D : va_G) (cA : Nat → ClassId) (ad : Nat → Nat) (sz : Nat) (F : FF) (x a b : Int32) : CI l D cA ad sz yX4_isWithin wsX4_isWithin 0 0 0 0 [.int x, .int a, .int b] F (some (.int (bI (wi x a b)))) F := by
  refine CI_of (own := RX4) (cc := cX4_isWithin) (maxL := 3) (ret := (some .boolean)) (by decide +kernel) rfl rfl (Nat.le_of_ble_eq_true rfl) ?_
  intro p e s m below meth c ls X S hr hl
  obtain ⟨⟨hx, hb, hml, hown, hts⟩, hE, hI, hlocks⟩ := id X
  have hl : lv_has ls 3 [(0, .int x), (1, .int a), (2, .int b)] := hl
  refine lv_iload_n hx hb dX4_isWithin_0 rfl (lv_at hl 0 rfl) ?_
  refine lv_iload_n hx hb dX4_isWithin_1 rfl (lv_at hl 1 rfl) ?_
  refine lv_icmp_lt (tgt := 14) hx hb dX4_isWithin_2 (by decide) (fun c_1 => ?_) (fun c_1 => ?_)
  · refine lv_iconst (v := 0) hx hb dX4_isWithin_14 (by decide) ?_
    exact r_zret X S hr rfl dX4_isWithin_15 (Nat.le_of_ble_eq_true rfl) (Nat.le_of_ble_eq_true rfl) (by rw [wi_f1 c_1]; rfl) rfl
  · refine lv_iload_n hx hb dX4_isWithin_5 rfl (lv_at hl 0 rfl) ?_
    refine lv_iload_n hx hb dX4_isWithin_6 rfl (lv_at hl 2 rfl) ?_
    refine lv_icmp_gt (tgt := 14) hx hb dX4_isWithin_7 (by decide) (fun c_2 => ?_) (fun c_2 => ?_)
    · refine lv_iconst (v := 0) hx hb dX4_isWithin_14 (by decide) ?_
      exact r_zret X S hr rfl dX4_isWithin_15 (Nat.le_of_ble_eq_true rfl) (Nat.le_of_ble_eq_true rfl) (by rw [wi_f2 c_2]; rfl) rfl
    · refine lv_iconst (v := 1) hx hb dX4_isWithin_10 (by decide) ?_
      refine lv_goto (tgt := 15) hx hb dX4_isWithin_11 (by decide) ?_
      exact r_zret X S hr rfl dX4_isWithin_15 (Nat.le_of_ble_eq_true rfl) (Nat.le_of_ble_eq_true rfl) (by rw [wi_t c_1 c_2]; rfl) rfl

set_option maxHeartbeats 1000000 in
set_option maxRecDepth 100000 in
theorem c_X4_studentAt (l : Launch) (D : va_G) (cA : Nat → ClassId) (ad : Nat → Nat) (sz : Nat) (F : FF) (i : Nat) (hi : i < 4) : CI l D cA ad sz yX4_studentAt wsX4_studentAt 0 0 0 0 [.ref (ad 0), .int (nI i)] F (some (.ref (ad (4 + 8 * i)))) F := by
  refine CI_of (own := RX4) (cc := cX4_studentAt) (maxL := 3) (ret := (some (.object "TermBill$Student"))) (by decide +kernel) rfl rfl (Nat.le_of_ble_eq_true rfl) ?_
  intro p e s m below meth c ls X S hr hl
  obtain ⟨⟨hx, hb, hml, hown, hts⟩, hE, hI, hlocks⟩ := id X
  have hl : lv_has ls 3 [(0, .ref (ad 0)), (1, .int (nI i))] := hl
  have hw4 : ∀ w ∈ wsX40, w.before _ s = true := fun w h => hts w ((by decide +kernel : ∀ w ∈ wsX40, w ∈ wsX4_studentAt) w h)
  refine lv_iload_n hx hb dX4_studentAt_0 rfl (lv_at hl 1 rfl) ?_
  refine lv_if_lt (tgt := 22) hx hb dX4_studentAt_1 (by decide) (fun z => False.elim (nI_pos (by omega) z)) (fun _ => ?_)
  refine lv_iload_n hx hb dX4_studentAt_4 rfl (lv_at hl 1 rfl) ?_
  refine lv_aload_n hx hb dX4_studentAt_5 rfl (lv_at hl 0 rfl) ?_
  refine r_getr (q := 1) X S hw4 ob_0 0 ⟨rfl, by decide, rfl⟩ rfl (hts (.fieldLink RX4 11 "TermBill" "students" "[LTermBill$Student;") (by decide +kernel)) dX4_studentAt_6 ?_
  refine r_lens X S dX4_studentAt_9 ?_
  refine lv_icmp_ge (tgt := 22) hx hb dX4_studentAt_10 (by decide) (fun z => False.elim (nI_ge (a := i) (b := 4) (by omega) (by omega) z)) (fun _ => ?_)
  refine lv_aload_n hx hb dX4_studentAt_13 rfl (lv_at hl 0 rfl) ?_
  refine r_getr (q := 1) X S hw4 ob_0 0 ⟨rfl, by decide, rfl⟩ rfl (hts (.fieldLink RX4 11 "TermBill" "students" "[LTermBill$Student;") (by decide +kernel)) dX4_studentAt_14 ?_
  refine lv_iload_n hx hb dX4_studentAt_17 rfl (lv_at hl 1 rfl) ?_
  refine r_sal X S (q := i) rfl (by omega) dX4_studentAt_18 ?_
  refine lv_goto (tgt := 23) hx hb dX4_studentAt_19 (by decide) ?_
  refine lv_astore_n (lv' := [(2, .ref (ad (4 + 8 * i))), (0, .ref (ad 0)), (1, .int (nI i))]) hx hb dX4_studentAt_23 rfl hl (by decide) rfl (fun ls hl => ?_)
  refine lv_aload_n hx hb dX4_studentAt_24 rfl (lv_at hl 0 rfl) ?_
  refine lv_ifnonnull (tgt := 38) hx hb dX4_studentAt_25 (by decide) ?_
  refine lv_aload_n hx hb dX4_studentAt_38 rfl (lv_at hl 0 rfl) ?_
  exact r_aret X S hr dX4_studentAt_39 (Nat.le_of_ble_eq_true rfl) (Nat.le_of_ble_eq_true rfl) rfl rfl

set_option maxHeartbeats 1000000 in
set_option maxRecDepth 100000 in
theorem x_X4_studentAt (l : Launch) (hst : l.stackTraces = false) (D : va_G) (cA : Nat → ClassId) (ad : Nat → Nat) (sz : Nat) (F : FF) (x : Int32) (h : wi x 0 3 = false) : CX l D cA ad sz yX4_studentAt wsX4_studentAt 6 90 [.ref (ad 0), .int x] F "java/lang/IndexOutOfBoundsException" F := by
  refine CX_of (own := RX4) (cc := cX4_studentAt) (maxL := 3) (ret := (some (.object "TermBill$Student"))) (by decide +kernel) rfl rfl (Nat.le_of_ble_eq_true rfl) ?_
  intro p e s m below meth c ls X S hno hl
  obtain ⟨⟨hx, hb, hml, hown, hts⟩, hE, hI, hlocks⟩ := id X
  have hl : lv_has ls 3 [(0, .ref (ad 0)), (1, .int x)] := hl
  have hw4 : ∀ w ∈ wsX40, w.before _ s = true := fun w h => hts w ((by decide +kernel : ∀ w ∈ wsX40, w ∈ wsX4_studentAt) w h)
  refine lv_iload_n hx hb dX4_studentAt_0 rfl (lv_at hl 1 rfl) ?_
  refine lv_if_lt (tgt := 22) hx hb dX4_studentAt_1 (by decide) (fun c_1 => ?_) (fun c_1 => ?_)
  · refine lv_null hx hb dX4_studentAt_22 ?_
    refine lv_astore_nN (lv' := [(2, .null), (0, .ref (ad 0)), (1, .int x)]) hx hb dX4_studentAt_23 rfl hl (by decide) rfl (fun ls hl => ?_)
    refine lv_aload_nN hx hb dX4_studentAt_24 rfl (lv_at hl 0 rfl) ?_
    refine lv_ifnonnullN hx hb dX4_studentAt_25 ?_
    exact r_throw X S hst hno (is := 223) (text := "no such student") hl.1 (by decide +kernel) (hts (.classLink RX4 116 "java/lang/IndexOutOfBoundsException") (by decide +kernel)) (hts (.initialized "java/lang/IndexOutOfBoundsException") (by decide +kernel)) (by decide +kernel) (hat120 hE.2.2.2.2 hts (fun w h => List.mem_cons_of_mem _ (by first | exact List.mem_append_right _ h | exact List.mem_append_left _ (List.mem_append_right _ h) | exact List.mem_append_left _ (List.mem_append_left _ (List.mem_append_right _ h))))) hgd120 dX4_studentAt_28 dX4_studentAt_31 dX4_studentAt_32 dX4_studentAt_34 dX4_studentAt_37 ⟨Nat.le_of_ble_eq_true rfl, Nat.le_of_ble_eq_true rfl, Nat.le_of_ble_eq_true rfl, Nat.le_of_ble_eq_true rfl⟩ (Nat.le_refl _) (Nat.le_refl _) rfl
  · refine lv_iload_n hx hb dX4_studentAt_4 rfl (lv_at hl 1 rfl) ?_
    refine lv_aload_n hx hb dX4_studentAt_5 rfl (lv_at hl 0 rfl) ?_
    refine r_getr (q := 1) X S hw4 ob_0 0 ⟨rfl, by decide, rfl⟩ rfl (hts (.fieldLink RX4 11 "TermBill" "students" "[LTermBill$Student;") (by decide +kernel)) dX4_studentAt_6 ?_
    refine r_lens X S dX4_studentAt_9 ?_
    refine lv_icmp_ge (tgt := 22) hx hb dX4_studentAt_10 (by decide) (fun _ => ?_) (fun z => False.elim (stu_bad h c_1 z))
    refine lv_null hx hb dX4_studentAt_22 ?_
    refine lv_astore_nN (lv' := [(2, .null), (0, .ref (ad 0)), (1, .int x)]) hx hb dX4_studentAt_23 rfl hl (by decide) rfl (fun ls hl => ?_)
    refine lv_aload_nN hx hb dX4_studentAt_24 rfl (lv_at hl 0 rfl) ?_
    refine lv_ifnonnullN hx hb dX4_studentAt_25 ?_
    exact r_throw X S hst hno (is := 223) (text := "no such student") hl.1 (by decide +kernel) (hts (.classLink RX4 116 "java/lang/IndexOutOfBoundsException") (by decide +kernel)) (hts (.initialized "java/lang/IndexOutOfBoundsException") (by decide +kernel)) (by decide +kernel) (hat120 hE.2.2.2.2 hts (fun w h => List.mem_cons_of_mem _ (by first | exact List.mem_append_right _ h | exact List.mem_append_left _ (List.mem_append_right _ h) | exact List.mem_append_left _ (List.mem_append_left _ (List.mem_append_right _ h))))) hgd120 dX4_studentAt_28 dX4_studentAt_31 dX4_studentAt_32 dX4_studentAt_34 dX4_studentAt_37 ⟨Nat.le_of_ble_eq_true rfl, Nat.le_of_ble_eq_true rfl, Nat.le_of_ble_eq_true rfl, Nat.le_of_ble_eq_true rfl⟩ (Nat.le_refl _) (Nat.le_refl _) rfl

set_option maxHeartbeats 1000000 in
set_option maxRecDepth 100000 in
theorem c_X4_weekNumber (l : Launch) (D : va_G) (cA : Nat → ClassId) (ad : Nat → Nat) (sz : Nat) (F : FF) : CI l D cA ad sz yX4_weekNumber wsX4_weekNumber 0 0 0 0 [.ref (ad 0)] F (some (.int (F 0 8 * 16 + F 0 7))) F := by
  refine CI_of (own := RX4) (cc := cX4_weekNumber) (maxL := 1) (ret := (some .int)) (by decide +kernel) rfl rfl (Nat.le_of_ble_eq_true rfl) ?_
  intro p e s m below meth c ls X S hr hl
  obtain ⟨⟨hx, hb, hml, hown, hts⟩, hE, hI, hlocks⟩ := id X
  have hl : lv_has ls 1 [(0, .ref (ad 0))] := hl
  have hw4 : ∀ w ∈ wsX40, w.before _ s = true := fun w h => hts w ((by decide +kernel : ∀ w ∈ wsX40, w ∈ wsX4_weekNumber) w h)
  refine lv_aload_n hx hb dX4_weekNumber_0 rfl (lv_at hl 0 rfl) ?_
  refine r_geti X S hw4 ob_0 8 ⟨rfl, by decide, rfl⟩ rfl (hts (.fieldLink RX4 38 "TermBill" "term" "I") (by decide +kernel)) dX4_weekNumber_1 ?_
  refine lv_bipush (v := 16) hx hb dX4_weekNumber_4 (by decide) ?_
  refine lv_imul hx hb dX4_weekNumber_6 ?_
  refine lv_aload_n hx hb dX4_weekNumber_7 rfl (lv_at hl 0 rfl) ?_
  refine r_geti X S hw4 ob_0 7 ⟨rfl, by decide, rfl⟩ rfl (hts (.fieldLink RX4 35 "TermBill" "week" "I") (by decide +kernel)) dX4_weekNumber_8 ?_
  refine lv_iadd hx hb dX4_weekNumber_11 ?_
  exact r_iret X S hr dX4_weekNumber_12 (Nat.le_of_ble_eq_true rfl) (Nat.le_of_ble_eq_true rfl) rfl rfl

set_option maxHeartbeats 1000000 in
set_option maxRecDepth 100000 in
theorem c_X4_placeOfRate (l : Launch) (D : va_G) (cA : Nat → ClassId) (ad : Nat → Nat) (sz : Nat) (F : FF) (a b : Int32) : CI l D cA ad sz yX4_placeOfRate wsX4_placeOfRate 0 0 0 0 [.int a, .int b] F (some (.int (poR a b))) F := by
  refine CI_of (own := RX4) (cc := cX4_placeOfRate) (maxL := 2) (ret := (some .int)) (by decide +kernel) rfl rfl (Nat.le_of_ble_eq_true rfl) ?_
  intro p e s m below meth c ls X S hr hl
  obtain ⟨⟨hx, hb, hml, hown, hts⟩, hE, hI, hlocks⟩ := id X
  have hl : lv_has ls 2 [(0, .int a), (1, .int b)] := hl
  refine lv_iload_n hx hb dX4_placeOfRate_0 rfl (lv_at hl 0 rfl) ?_
  refine lv_if_lt (tgt := 9) hx hb dX4_placeOfRate_1 (by decide) (fun c_1 => ?_) (fun c_1 => ?_)
  · refine lv_iconst (v := -1) hx hb dX4_placeOfRate_9 (by decide) ?_
    exact r_iret X S hr dX4_placeOfRate_10 (Nat.le_of_ble_eq_true rfl) (Nat.le_of_ble_eq_true rfl) (by first | rfl | (simp only [poR, c_1, ↓reduceIte]; done) | (simp only [poR, c_1, ↓reduceIte]; rfl) | (subst_vars; simp only [poR, c_1, ↓reduceIte]; done) | (subst_vars; rfl)) (by first | rfl | (subst_vars; rfl))
  · refine lv_iload_n hx hb dX4_placeOfRate_4 rfl (lv_at hl 0 rfl) ?_
    refine lv_iconst (v := 1) hx hb dX4_placeOfRate_5 (by decide) ?_
    refine lv_icmp_le (tgt := 11) hx hb dX4_placeOfRate_6 (by decide) (fun c_2 => ?_) (fun c_2 => ?_)
    · refine lv_iconst (v := 2) hx hb dX4_placeOfRate_11 (by decide) ?_
      refine lv_iload_n hx hb dX4_placeOfRate_12 rfl (lv_at hl 0 rfl) ?_
      refine lv_imul hx hb dX4_placeOfRate_13 ?_
      refine lv_iload_n hx hb dX4_placeOfRate_14 rfl (lv_at hl 1 rfl) ?_
      refine lv_if_eq (tgt := 22) hx hb dX4_placeOfRate_15 (by decide) (fun c_3 => ?_) (fun c_3 => ?_)
      · refine lv_iconst (v := 0) hx hb dX4_placeOfRate_22 (by decide) ?_
        refine lv_iadd hx hb dX4_placeOfRate_23 ?_
        exact r_iret X S hr dX4_placeOfRate_24 (Nat.le_of_ble_eq_true rfl) (Nat.le_of_ble_eq_true rfl) (by first | rfl | (simp only [poR, c_1, c_2, c_3, ↓reduceIte]; done) | (simp only [poR, c_1, c_2, c_3, ↓reduceIte]; rfl) | (subst_vars; simp only [poR, c_1, c_2, c_3, ↓reduceIte]; done) | (subst_vars; rfl)) (by first | rfl | (subst_vars; rfl))
      · refine lv_iconst (v := 1) hx hb dX4_placeOfRate_18 (by decide) ?_
        refine lv_goto (tgt := 23) hx hb dX4_placeOfRate_19 (by decide) ?_
        refine lv_iadd hx hb dX4_placeOfRate_23 ?_
        exact r_iret X S hr dX4_placeOfRate_24 (Nat.le_of_ble_eq_true rfl) (Nat.le_of_ble_eq_true rfl) (by first | rfl | (simp only [poR, c_1, c_2, c_3, ↓reduceIte]; done) | (simp only [poR, c_1, c_2, c_3, ↓reduceIte]; rfl) | (subst_vars; simp only [poR, c_1, c_2, c_3, ↓reduceIte]; done) | (subst_vars; rfl)) (by first | rfl | (subst_vars; rfl))
    · refine lv_iconst (v := -1) hx hb dX4_placeOfRate_9 (by decide) ?_
      exact r_iret X S hr dX4_placeOfRate_10 (Nat.le_of_ble_eq_true rfl) (Nat.le_of_ble_eq_true rfl) (by first | rfl | (simp only [poR, c_1, c_2, ↓reduceIte]; done) | (simp only [poR, c_1, c_2, ↓reduceIte]; rfl) | (subst_vars; simp only [poR, c_1, c_2, ↓reduceIte]; done) | (subst_vars; rfl)) (by first | rfl | (subst_vars; rfl))

set_option maxHeartbeats 1000000 in
set_option maxRecDepth 100000 in
theorem c_X4_rateAt (l : Launch) (D : va_G) (cA : Nat → ClassId) (ad : Nat → Nat) (sz : Nat) (F : FF) (x : Int32) : CI l D cA ad sz yX4_rateAt wsX4_rateAt 0 0 0 0 [.ref (ad 0), .int x] F (some (.int (raA F x))) F := by
  refine CI_of (own := RX4) (cc := cX4_rateAt) (maxL := 2) (ret := (some .int)) (by decide +kernel) rfl rfl (Nat.le_of_ble_eq_true rfl) ?_
  intro p e s m below meth c ls X S hr hl
  obtain ⟨⟨hx, hb, hml, hown, hts⟩, hE, hI, hlocks⟩ := id X
  have hl : lv_has ls 2 [(0, .ref (ad 0)), (1, .int x)] := hl
  have hw4 : ∀ w ∈ wsX40, w.before _ s = true := fun w h => hts w ((by decide +kernel : ∀ w ∈ wsX40, w ∈ wsX4_rateAt) w h)
  refine lv_iload_n hx hb dX4_rateAt_0 rfl (lv_at hl 1 rfl) ?_
  refine lv_if_lt (tgt := 22) hx hb dX4_rateAt_1 (by decide) (fun c_1 => ?_) (fun c_1 => ?_)
  · refine lv_iconst (v := 0) hx hb dX4_rateAt_22 (by decide) ?_
    exact r_iret X S hr dX4_rateAt_23 (Nat.le_of_ble_eq_true rfl) (Nat.le_of_ble_eq_true rfl) (by first | rfl | (simp only [raA, c_1, ↓reduceIte]; done) | (simp only [raA, c_1, ↓reduceIte]; rfl) | (subst_vars; simp only [raA, c_1, ↓reduceIte]; done) | (subst_vars; rfl)) (by first | rfl | (subst_vars; rfl))
  · refine lv_iload_n hx hb dX4_rateAt_4 rfl (lv_at hl 1 rfl) ?_
    refine lv_aload_n hx hb dX4_rateAt_5 rfl (lv_at hl 0 rfl) ?_
    refine r_getr (q := 2) X S hw4 ob_0 1 ⟨rfl, by decide, rfl⟩ rfl (hts (.fieldLink RX4 15 "TermBill" "rates" "[I") (by decide +kernel)) dX4_rateAt_6 ?_
    refine r_leni X S (k := 2) (n := 4) (by unfold Ar; decide) (v := 4) rfl dX4_rateAt_9 ?_
    refine lv_icmp_ge (tgt := 22) hx hb dX4_rateAt_10 (by decide) (fun c_2 => ?_) (fun c_2 => ?_)
    · refine lv_iconst (v := 0) hx hb dX4_rateAt_22 (by decide) ?_
      exact r_iret X S hr dX4_rateAt_23 (Nat.le_of_ble_eq_true rfl) (Nat.le_of_ble_eq_true rfl) (by first | rfl | (simp only [raA, c_1, c_2, ↓reduceIte]; done) | (simp only [raA, c_1, c_2, ↓reduceIte]; rfl) | (subst_vars; simp only [raA, c_1, c_2, ↓reduceIte]; done) | (subst_vars; rfl)) (by first | rfl | (subst_vars; rfl))
    · refine lv_aload_n hx hb dX4_rateAt_13 rfl (lv_at hl 0 rfl) ?_
      refine r_getr (q := 2) X S hw4 ob_0 1 ⟨rfl, by decide, rfl⟩ rfl (hts (.fieldLink RX4 15 "TermBill" "rates" "[I") (by decide +kernel)) dX4_rateAt_14 ?_
      refine lv_iload_n hx hb dX4_rateAt_17 rfl (lv_at hl 1 rfl) ?_
      refine r_ialN X S (k := 2) (n := 4) (by unfold Ar; decide) (q := x.toNatClampNeg) (rt_ix c_1 c_2).1 (rt_ix c_1 c_2).2 (by decide) dX4_rateAt_18 ?_
      refine lv_goto (tgt := 23) hx hb dX4_rateAt_19 (by decide) ?_
      exact r_iret X S hr dX4_rateAt_23 (Nat.le_of_ble_eq_true rfl) (Nat.le_of_ble_eq_true rfl) (by first | rfl | (simp only [raA, c_1, c_2, ↓reduceIte]; done) | (simp only [raA, c_1, c_2, ↓reduceIte]; rfl) | (subst_vars; simp only [raA, c_1, c_2, ↓reduceIte]; done) | (subst_vars; rfl)) (by first | rfl | (subst_vars; rfl))

set_option maxHeartbeats 1000000 in
set_option maxRecDepth 100000 in
theorem c_X4_shareNow (l : Launch) (D : va_G) (cA : Nat → ClassId) (ad : Nat → Nat) (sz : Nat) (F : FF) (w : Nat) (hw : w < 16) (ew : F 0 7 = nI w) : CI l D cA ad sz yX4_shareNow wsX4_shareNow 0 0 0 0 [.ref (ad 0)] F (some (.int (F 3 w))) F := by
  refine CI_of (own := RX4) (cc := cX4_shareNow) (maxL := 1) (ret := (some .int)) (by decide +kernel) rfl rfl (Nat.le_of_ble_eq_true rfl) ?_
  intro p e s m below meth c ls X S hr hl
  obtain ⟨⟨hx, hb, hml, hown, hts⟩, hE, hI, hlocks⟩ := id X
  have hl : lv_has ls 1 [(0, .ref (ad 0))] := hl
  have hw4 : ∀ w ∈ wsX40, w.before _ s = true := fun w h => hts w ((by decide +kernel : ∀ w ∈ wsX40, w ∈ wsX4_shareNow) w h)
  refine lv_aload_n hx hb dX4_shareNow_0 rfl (lv_at hl 0 rfl) ?_
  refine r_geti X S hw4 ob_0 7 ⟨rfl, by decide, rfl⟩ rfl (hts (.fieldLink RX4 35 "TermBill" "week" "I") (by decide +kernel)) dX4_shareNow_1 ?_
  rw [show F 0 7 = nI w from ew]
  refine lv_if_lt (tgt := 31) hx hb dX4_shareNow_4 (by decide) (fun z => False.elim (nI_pos (by omega) z)) (fun _ => ?_)
  refine lv_aload_n hx hb dX4_shareNow_7 rfl (lv_at hl 0 rfl) ?_
  refine r_geti X S hw4 ob_0 7 ⟨rfl, by decide, rfl⟩ rfl (hts (.fieldLink RX4 35 "TermBill" "week" "I") (by decide +kernel)) dX4_shareNow_8 ?_
  rw [show F 0 7 = nI w from ew]
  refine lv_aload_n hx hb dX4_shareNow_11 rfl (lv_at hl 0 rfl) ?_
  refine r_getr (q := 3) X S hw4 ob_0 2 ⟨rfl, by decide, rfl⟩ rfl (hts (.fieldLink RX4 19 "TermBill" "shares" "[I") (by decide +kernel)) dX4_shareNow_12 ?_
  refine r_leni X S (k := 3) (n := 16) (by unfold Ar; decide) (v := 16) rfl dX4_shareNow_15 ?_
  refine lv_icmp_ge (tgt := 31) hx hb dX4_shareNow_16 (by decide) (fun z => False.elim (nI_ge (a := w) (b := 16) hw (by omega) z)) (fun _ => ?_)
  refine lv_aload_n hx hb dX4_shareNow_19 rfl (lv_at hl 0 rfl) ?_
  refine r_getr (q := 3) X S hw4 ob_0 2 ⟨rfl, by decide, rfl⟩ rfl (hts (.fieldLink RX4 19 "TermBill" "shares" "[I") (by decide +kernel)) dX4_shareNow_20 ?_
  refine lv_aload_n hx hb dX4_shareNow_23 rfl (lv_at hl 0 rfl) ?_
  refine r_geti X S hw4 ob_0 7 ⟨rfl, by decide, rfl⟩ rfl (hts (.fieldLink RX4 35 "TermBill" "week" "I") (by decide +kernel)) dX4_shareNow_24 ?_
  rw [show F 0 7 = nI w from ew]
  refine r_ialN X S (k := 3) (n := 16) (by unfold Ar; decide) (q := w) rfl (by omega) (by decide) dX4_shareNow_27 ?_
  refine lv_goto (tgt := 32) hx hb dX4_shareNow_28 (by decide) ?_
  exact r_iret X S hr dX4_shareNow_32 (Nat.le_of_ble_eq_true rfl) (Nat.le_of_ble_eq_true rfl) rfl rfl

set_option maxHeartbeats 1000000 in
set_option maxRecDepth 100000 in
theorem c_X4_priceOf (l : Launch) (D : va_G) (cA : Nat → ClassId) (ad : Nat → Nat) (sz : Nat) (F : FF) (c9 r : Int32) : CI l D cA ad sz yX4_priceOf wsX4_priceOf 0 0 0 0 [.ref (ad 0), .int c9, .int r] F (some (.int (pcl (F 0 3) (F 0 4) c9 r))) F := by
  refine CI_of (own := RX4) (cc := cX4_priceOf) (maxL := 3) (ret := (some .int)) (by decide +kernel) rfl rfl (Nat.le_of_ble_eq_true rfl) ?_
  intro p e s m below meth c ls X S hr hl
  obtain ⟨⟨hx, hb, hml, hown, hts⟩, hE, hI, hlocks⟩ := id X
  have hl : lv_has ls 3 [(0, .ref (ad 0)), (1, .int c9), (2, .int r)] := hl
  have hw4 : ∀ w ∈ wsX40, w.before _ s = true := fun w h => hts w ((by decide +kernel : ∀ w ∈ wsX40, w ∈ wsX4_priceOf) w h)
  refine lv_iload_n hx hb dX4_priceOf_0 rfl (lv_at hl 1 rfl) ?_
  refine lv_aload_n hx hb dX4_priceOf_1 rfl (lv_at hl 0 rfl) ?_
  refine r_geti X S hw4 ob_0 3 ⟨rfl, by decide, rfl⟩ rfl (hts (.fieldLink RX4 22 "TermBill" "bandFrom" "I") (by decide +kernel)) dX4_priceOf_2 ?_
  refine lv_icmp_gt (tgt := 12) hx hb dX4_priceOf_5 (by decide) (fun c_1 => ?_) (fun c_1 => ?_)
  · refine lv_iload_n hx hb dX4_priceOf_12 rfl (lv_at hl 1 rfl) ?_
    refine lv_aload_n hx hb dX4_priceOf_13 rfl (lv_at hl 0 rfl) ?_
    refine r_geti X S hw4 ob_0 4 ⟨rfl, by decide, rfl⟩ rfl (hts (.fieldLink RX4 26 "TermBill" "bandTo" "I") (by decide +kernel)) dX4_priceOf_14 ?_
    refine lv_icmp_gt (tgt := 27) hx hb dX4_priceOf_17 (by decide) (fun c_2 => ?_) (fun c_2 => ?_)
    · refine lv_aload_n hx hb dX4_priceOf_27 rfl (lv_at hl 0 rfl) ?_
      refine r_geti X S hw4 ob_0 3 ⟨rfl, by decide, rfl⟩ rfl (hts (.fieldLink RX4 22 "TermBill" "bandFrom" "I") (by decide +kernel)) dX4_priceOf_28 ?_
      refine lv_iload_n hx hb dX4_priceOf_31 rfl (lv_at hl 1 rfl) ?_
      refine lv_iadd hx hb dX4_priceOf_32 ?_
      refine lv_aload_n hx hb dX4_priceOf_33 rfl (lv_at hl 0 rfl) ?_
      refine r_geti X S hw4 ob_0 4 ⟨rfl, by decide, rfl⟩ rfl (hts (.fieldLink RX4 26 "TermBill" "bandTo" "I") (by decide +kernel)) dX4_priceOf_34 ?_
      refine lv_isub hx hb dX4_priceOf_37 ?_
      refine lv_iload_n hx hb dX4_priceOf_38 rfl (lv_at hl 2 rfl) ?_
      refine lv_imul hx hb dX4_priceOf_39 ?_
      exact r_iret X S hr dX4_priceOf_40 (Nat.le_of_ble_eq_true rfl) (Nat.le_of_ble_eq_true rfl) (by first | rfl | (simp only [pcl, c_1, c_2, ↓reduceIte]; done) | (simp only [pcl, c_1, c_2, ↓reduceIte]; rfl) | (subst_vars; simp only [pcl, c_1, c_2, ↓reduceIte]; done) | (subst_vars; rfl)) (by first | rfl | (subst_vars; rfl))
    · refine lv_aload_n hx hb dX4_priceOf_20 rfl (lv_at hl 0 rfl) ?_
      refine r_geti X S hw4 ob_0 3 ⟨rfl, by decide, rfl⟩ rfl (hts (.fieldLink RX4 22 "TermBill" "bandFrom" "I") (by decide +kernel)) dX4_priceOf_21 ?_
      refine lv_iload_n hx hb dX4_priceOf_24 rfl (lv_at hl 2 rfl) ?_
      refine lv_imul hx hb dX4_priceOf_25 ?_
      exact r_iret X S hr dX4_priceOf_26 (Nat.le_of_ble_eq_true rfl) (Nat.le_of_ble_eq_true rfl) (by first | rfl | (simp only [pcl, c_1, c_2, ↓reduceIte]; done) | (simp only [pcl, c_1, c_2, ↓reduceIte]; rfl) | (subst_vars; simp only [pcl, c_1, c_2, ↓reduceIte]; done) | (subst_vars; rfl)) (by first | rfl | (subst_vars; rfl))
  · refine lv_iload_n hx hb dX4_priceOf_8 rfl (lv_at hl 1 rfl) ?_
    refine lv_iload_n hx hb dX4_priceOf_9 rfl (lv_at hl 2 rfl) ?_
    refine lv_imul hx hb dX4_priceOf_10 ?_
    exact r_iret X S hr dX4_priceOf_11 (Nat.le_of_ble_eq_true rfl) (Nat.le_of_ble_eq_true rfl) (by first | rfl | (simp only [pcl, c_1, ↓reduceIte]; done) | (simp only [pcl, c_1, ↓reduceIte]; rfl) | (subst_vars; simp only [pcl, c_1, ↓reduceIte]; done) | (subst_vars; rfl)) (by first | rfl | (subst_vars; rfl))

set_option maxHeartbeats 1000000 in
set_option maxRecDepth 100000 in
theorem c_X1_total (l : Launch) (D : va_G) (cA : Nat → ClassId) (ad : Nat → Nat) (sz : Nat) (F : FF) (i : Nat) (hi : i < 4) : CI l D cA ad sz yX1_total wsX1_total 0 0 0 0 [.ref (ad (4 + 8 * i + 1))] F (some (.int (tot8 (F (4 + 8 * i + 2))))) F := by
  refine CI_of (own := RX1) (cc := cX1_total) (maxL := 3) (ret := (some .int)) (by decide +kernel) rfl rfl (Nat.le_of_ble_eq_true rfl) ?_
  intro p e s m below meth c ls X S hr hl
  obtain ⟨⟨hx, hb, hml, hown, hts⟩, hE, hI, hlocks⟩ := id X
  have hl : lv_has ls 3 [(0, .ref (ad (4 + 8 * i + 1)))] := hl
  have hw1 : ∀ w ∈ wsX10, w.before _ s = true := fun w h => hts w ((by decide +kernel : ∀ w ∈ wsX10, w ∈ wsX1_total) w h)
  refine lv_iconst (v := 0) hx hb dX1_total_0 (by decide) ?_
  refine lv_istore_n (lv' := [(1, .int 0), (0, .ref (ad (4 + 8 * i + 1)))]) hx hb dX1_total_1 rfl hl (by decide) rfl (fun ls hl => ?_)
  refine lv_iconst (v := 0) hx hb dX1_total_2 (by decide) ?_
  refine lv_istore_n (lv' := [(2, .int 0), (1, .int 0), (0, .ref (ad (4 + 8 * i + 1)))]) hx hb dX1_total_3 rfl hl (by decide) rfl (fun ls hl => ?_)
  refine lv_iload_n hx hb dX1_total_4 rfl (lv_at hl 0 rfl) ?_
  refine lv_aload_n hx hb dX1_total_5 rfl (lv_at hl 2 rfl) ?_
  refine r_getr (q := 4 + 8 * i + 2) X S hw1 (ob_C i hi) 0 ⟨rfl, by decide, rfl⟩ rfl (hts (.fieldLink RX1 9 "TermBill$Courses" "creditsByCourse" "[I") (by decide +kernel)) dX1_total_6 ?_
  refine r_leni X S (ar_C i hi) (v := 8) rfl dX1_total_9 ?_
  refine lv_icmp_ge (tgt := 28) hx hb dX1_total_10 (by decide) (fun z => False.elim (by first | exact absurd z (by decide) | exact absurd (by decide) z)) (fun _ => ?_)
  refine lv_iload_n hx hb dX1_total_13 rfl (lv_at hl 1 rfl) ?_
  refine lv_aload_n hx hb dX1_total_14 rfl (lv_at hl 2 rfl) ?_
  refine r_getr (q := 4 + 8 * i + 2) X S hw1 (ob_C i hi) 0 ⟨rfl, by decide, rfl⟩ rfl (hts (.fieldLink RX1 9 "TermBill$Courses" "creditsByCourse" "[I") (by decide +kernel)) dX1_total_15 ?_
  refine lv_iload_n hx hb dX1_total_18 rfl (lv_at hl 0 rfl) ?_
  refine r_ialN X S (ar_C i hi) (q := 0) (by decide) (by omega) (by decide) dX1_total_19 ?_
  refine lv_iadd hx hb dX1_total_20 ?_
  refine lv_istore_n (lv' := [(1, .int (0 + (F (4 + 8 * i + 2) 0))), (2, .int 0), (0, .ref (ad (4 + 8 * i + 1)))]) hx hb dX1_total_21 rfl hl (by decide) rfl (fun ls hl => ?_)
  refine lv_iinc (v := 1) (lv' := [(2, .int 1), (1, .int (0 + (F (4 + 8 * i + 2) 0))), (0, .ref (ad (4 + 8 * i + 1)))]) hx hb dX1_total_22 hl (k := 1) rfl (by decide) (by decide) rfl (fun ls hl => ?_)
  refine lv_goto (tgt := 4) hx hb dX1_total_25 (by decide) ?_
  refine lv_iload_n hx hb dX1_total_4 rfl (lv_at hl 0 rfl) ?_
  refine lv_aload_n hx hb dX1_total_5 rfl (lv_at hl 2 rfl) ?_
  refine r_getr (q := 4 + 8 * i + 2) X S hw1 (ob_C i hi) 0 ⟨rfl, by decide, rfl⟩ rfl (hts (.fieldLink RX1 9 "TermBill$Courses" "creditsByCourse" "[I") (by decide +kernel)) dX1_total_6 ?_
  refine r_leni X S (ar_C i hi) (v := 8) rfl dX1_total_9 ?_
  refine lv_icmp_ge (tgt := 28) hx hb dX1_total_10 (by decide) (fun z => False.elim (by first | exact absurd z (by decide) | exact absurd (by decide) z)) (fun _ => ?_)
  refine lv_iload_n hx hb dX1_total_13 rfl (lv_at hl 1 rfl) ?_
  refine lv_aload_n hx hb dX1_total_14 rfl (lv_at hl 2 rfl) ?_
  refine r_getr (q := 4 + 8 * i + 2) X S hw1 (ob_C i hi) 0 ⟨rfl, by decide, rfl⟩ rfl (hts (.fieldLink RX1 9 "TermBill$Courses" "creditsByCourse" "[I") (by decide +kernel)) dX1_total_15 ?_
  refine lv_iload_n hx hb dX1_total_18 rfl (lv_at hl 0 rfl) ?_
  refine r_ialN X S (ar_C i hi) (q := 1) (by decide) (by omega) (by decide) dX1_total_19 ?_
  refine lv_iadd hx hb dX1_total_20 ?_
  refine lv_istore_n (lv' := [(1, .int ((0 + (F (4 + 8 * i + 2) 0)) + (F (4 + 8 * i + 2) 1))), (2, .int 1), (0, .ref (ad (4 + 8 * i + 1)))]) hx hb dX1_total_21 rfl hl (by decide) rfl (fun ls hl => ?_)
  refine lv_iinc (v := 2) (lv' := [(2, .int 2), (1, .int ((0 + (F (4 + 8 * i + 2) 0)) + (F (4 + 8 * i + 2) 1))), (0, .ref (ad (4 + 8 * i + 1)))]) hx hb dX1_total_22 hl (k := 1) rfl (by decide) (by decide) rfl (fun ls hl => ?_)
  refine lv_goto (tgt := 4) hx hb dX1_total_25 (by decide) ?_
  refine lv_iload_n hx hb dX1_total_4 rfl (lv_at hl 0 rfl) ?_
  refine lv_aload_n hx hb dX1_total_5 rfl (lv_at hl 2 rfl) ?_
  refine r_getr (q := 4 + 8 * i + 2) X S hw1 (ob_C i hi) 0 ⟨rfl, by decide, rfl⟩ rfl (hts (.fieldLink RX1 9 "TermBill$Courses" "creditsByCourse" "[I") (by decide +kernel)) dX1_total_6 ?_
  refine r_leni X S (ar_C i hi) (v := 8) rfl dX1_total_9 ?_
  refine lv_icmp_ge (tgt := 28) hx hb dX1_total_10 (by decide) (fun z => False.elim (by first | exact absurd z (by decide) | exact absurd (by decide) z)) (fun _ => ?_)
  refine lv_iload_n hx hb dX1_total_13 rfl (lv_at hl 1 rfl) ?_
  refine lv_aload_n hx hb dX1_total_14 rfl (lv_at hl 2 rfl) ?_
  refine r_getr (q := 4 + 8 * i + 2) X S hw1 (ob_C i hi) 0 ⟨rfl, by decide, rfl⟩ rfl (hts (.fieldLink RX1 9 "TermBill$Courses" "creditsByCourse" "[I") (by decide +kernel)) dX1_total_15 ?_
  refine lv_iload_n hx hb dX1_total_18 rfl (lv_at hl 0 rfl) ?_
  refine r_ialN X S (ar_C i hi) (q := 2) (by decide) (by omega) (by decide) dX1_total_19 ?_
  refine lv_iadd hx hb dX1_total_20 ?_
  refine lv_istore_n (lv' := [(1, .int (((0 + (F (4 + 8 * i + 2) 0)) + (F (4 + 8 * i + 2) 1)) + (F (4 + 8 * i + 2) 2))), (2, .int 2), (0, .ref (ad (4 + 8 * i + 1)))]) hx hb dX1_total_21 rfl hl (by decide) rfl (fun ls hl => ?_)
  refine lv_iinc (v := 3) (lv' := [(2, .int 3), (1, .int (((0 + (F (4 + 8 * i + 2) 0)) + (F (4 + 8 * i + 2) 1)) + (F (4 + 8 * i + 2) 2))), (0, .ref (ad (4 + 8 * i + 1)))]) hx hb dX1_total_22 hl (k := 1) rfl (by decide) (by decide) rfl (fun ls hl => ?_)
  refine lv_goto (tgt := 4) hx hb dX1_total_25 (by decide) ?_
  refine lv_iload_n hx hb dX1_total_4 rfl (lv_at hl 0 rfl) ?_
  refine lv_aload_n hx hb dX1_total_5 rfl (lv_at hl 2 rfl) ?_
  refine r_getr (q := 4 + 8 * i + 2) X S hw1 (ob_C i hi) 0 ⟨rfl, by decide, rfl⟩ rfl (hts (.fieldLink RX1 9 "TermBill$Courses" "creditsByCourse" "[I") (by decide +kernel)) dX1_total_6 ?_
  refine r_leni X S (ar_C i hi) (v := 8) rfl dX1_total_9 ?_
  refine lv_icmp_ge (tgt := 28) hx hb dX1_total_10 (by decide) (fun z => False.elim (by first | exact absurd z (by decide) | exact absurd (by decide) z)) (fun _ => ?_)
  refine lv_iload_n hx hb dX1_total_13 rfl (lv_at hl 1 rfl) ?_
  refine lv_aload_n hx hb dX1_total_14 rfl (lv_at hl 2 rfl) ?_
  refine r_getr (q := 4 + 8 * i + 2) X S hw1 (ob_C i hi) 0 ⟨rfl, by decide, rfl⟩ rfl (hts (.fieldLink RX1 9 "TermBill$Courses" "creditsByCourse" "[I") (by decide +kernel)) dX1_total_15 ?_
  refine lv_iload_n hx hb dX1_total_18 rfl (lv_at hl 0 rfl) ?_
  refine r_ialN X S (ar_C i hi) (q := 3) (by decide) (by omega) (by decide) dX1_total_19 ?_
  refine lv_iadd hx hb dX1_total_20 ?_
  refine lv_istore_n (lv' := [(1, .int ((((0 + (F (4 + 8 * i + 2) 0)) + (F (4 + 8 * i + 2) 1)) + (F (4 + 8 * i + 2) 2)) + (F (4 + 8 * i + 2) 3))), (2, .int 3), (0, .ref (ad (4 + 8 * i + 1)))]) hx hb dX1_total_21 rfl hl (by decide) rfl (fun ls hl => ?_)
  refine lv_iinc (v := 4) (lv' := [(2, .int 4), (1, .int ((((0 + (F (4 + 8 * i + 2) 0)) + (F (4 + 8 * i + 2) 1)) + (F (4 + 8 * i + 2) 2)) + (F (4 + 8 * i + 2) 3))), (0, .ref (ad (4 + 8 * i + 1)))]) hx hb dX1_total_22 hl (k := 1) rfl (by decide) (by decide) rfl (fun ls hl => ?_)
  refine lv_goto (tgt := 4) hx hb dX1_total_25 (by decide) ?_
  refine lv_iload_n hx hb dX1_total_4 rfl (lv_at hl 0 rfl) ?_
  refine lv_aload_n hx hb dX1_total_5 rfl (lv_at hl 2 rfl) ?_
  refine r_getr (q := 4 + 8 * i + 2) X S hw1 (ob_C i hi) 0 ⟨rfl, by decide, rfl⟩ rfl (hts (.fieldLink RX1 9 "TermBill$Courses" "creditsByCourse" "[I") (by decide +kernel)) dX1_total_6 ?_
  refine r_leni X S (ar_C i hi) (v := 8) rfl dX1_total_9 ?_
  refine lv_icmp_ge (tgt := 28) hx hb dX1_total_10 (by decide) (fun z => False.elim (by first | exact absurd z (by decide) | exact absurd (by decide) z)) (fun _ => ?_)
  refine lv_iload_n hx hb dX1_total_13 rfl (lv_at hl 1 rfl) ?_
  refine lv_aload_n hx hb dX1_total_14 rfl (lv_at hl 2 rfl) ?_
  refine r_getr (q := 4 + 8 * i + 2) X S hw1 (ob_C i hi) 0 ⟨rfl, by decide, rfl⟩ rfl (hts (.fieldLink RX1 9 "TermBill$Courses" "creditsByCourse" "[I") (by decide +kernel)) dX1_total_15 ?_
  refine lv_iload_n hx hb dX1_total_18 rfl (lv_at hl 0 rfl) ?_
  refine r_ialN X S (ar_C i hi) (q := 4) (by decide) (by omega) (by decide) dX1_total_19 ?_
  refine lv_iadd hx hb dX1_total_20 ?_
  refine lv_istore_n (lv' := [(1, .int (((((0 + (F (4 + 8 * i + 2) 0)) + (F (4 + 8 * i + 2) 1)) + (F (4 + 8 * i + 2) 2)) + (F (4 + 8 * i + 2) 3)) + (F (4 + 8 * i + 2) 4))), (2, .int 4), (0, .ref (ad (4 + 8 * i + 1)))]) hx hb dX1_total_21 rfl hl (by decide) rfl (fun ls hl => ?_)
  refine lv_iinc (v := 5) (lv' := [(2, .int 5), (1, .int (((((0 + (F (4 + 8 * i + 2) 0)) + (F (4 + 8 * i + 2) 1)) + (F (4 + 8 * i + 2) 2)) + (F (4 + 8 * i + 2) 3)) + (F (4 + 8 * i + 2) 4))), (0, .ref (ad (4 + 8 * i + 1)))]) hx hb dX1_total_22 hl (k := 1) rfl (by decide) (by decide) rfl (fun ls hl => ?_)
  refine lv_goto (tgt := 4) hx hb dX1_total_25 (by decide) ?_
  refine lv_iload_n hx hb dX1_total_4 rfl (lv_at hl 0 rfl) ?_
  refine lv_aload_n hx hb dX1_total_5 rfl (lv_at hl 2 rfl) ?_
  refine r_getr (q := 4 + 8 * i + 2) X S hw1 (ob_C i hi) 0 ⟨rfl, by decide, rfl⟩ rfl (hts (.fieldLink RX1 9 "TermBill$Courses" "creditsByCourse" "[I") (by decide +kernel)) dX1_total_6 ?_
  refine r_leni X S (ar_C i hi) (v := 8) rfl dX1_total_9 ?_
  refine lv_icmp_ge (tgt := 28) hx hb dX1_total_10 (by decide) (fun z => False.elim (by first | exact absurd z (by decide) | exact absurd (by decide) z)) (fun _ => ?_)
  refine lv_iload_n hx hb dX1_total_13 rfl (lv_at hl 1 rfl) ?_
  refine lv_aload_n hx hb dX1_total_14 rfl (lv_at hl 2 rfl) ?_
  refine r_getr (q := 4 + 8 * i + 2) X S hw1 (ob_C i hi) 0 ⟨rfl, by decide, rfl⟩ rfl (hts (.fieldLink RX1 9 "TermBill$Courses" "creditsByCourse" "[I") (by decide +kernel)) dX1_total_15 ?_
  refine lv_iload_n hx hb dX1_total_18 rfl (lv_at hl 0 rfl) ?_
  refine r_ialN X S (ar_C i hi) (q := 5) (by decide) (by omega) (by decide) dX1_total_19 ?_
  refine lv_iadd hx hb dX1_total_20 ?_
  refine lv_istore_n (lv' := [(1, .int ((((((0 + (F (4 + 8 * i + 2) 0)) + (F (4 + 8 * i + 2) 1)) + (F (4 + 8 * i + 2) 2)) + (F (4 + 8 * i + 2) 3)) + (F (4 + 8 * i + 2) 4)) + (F (4 + 8 * i + 2) 5))), (2, .int 5), (0, .ref (ad (4 + 8 * i + 1)))]) hx hb dX1_total_21 rfl hl (by decide) rfl (fun ls hl => ?_)
  refine lv_iinc (v := 6) (lv' := [(2, .int 6), (1, .int ((((((0 + (F (4 + 8 * i + 2) 0)) + (F (4 + 8 * i + 2) 1)) + (F (4 + 8 * i + 2) 2)) + (F (4 + 8 * i + 2) 3)) + (F (4 + 8 * i + 2) 4)) + (F (4 + 8 * i + 2) 5))), (0, .ref (ad (4 + 8 * i + 1)))]) hx hb dX1_total_22 hl (k := 1) rfl (by decide) (by decide) rfl (fun ls hl => ?_)
  refine lv_goto (tgt := 4) hx hb dX1_total_25 (by decide) ?_
  refine lv_iload_n hx hb dX1_total_4 rfl (lv_at hl 0 rfl) ?_
  refine lv_aload_n hx hb dX1_total_5 rfl (lv_at hl 2 rfl) ?_
  refine r_getr (q := 4 + 8 * i + 2) X S hw1 (ob_C i hi) 0 ⟨rfl, by decide, rfl⟩ rfl (hts (.fieldLink RX1 9 "TermBill$Courses" "creditsByCourse" "[I") (by decide +kernel)) dX1_total_6 ?_
  refine r_leni X S (ar_C i hi) (v := 8) rfl dX1_total_9 ?_
  refine lv_icmp_ge (tgt := 28) hx hb dX1_total_10 (by decide) (fun z => False.elim (by first | exact absurd z (by decide) | exact absurd (by decide) z)) (fun _ => ?_)
  refine lv_iload_n hx hb dX1_total_13 rfl (lv_at hl 1 rfl) ?_
  refine lv_aload_n hx hb dX1_total_14 rfl (lv_at hl 2 rfl) ?_
  refine r_getr (q := 4 + 8 * i + 2) X S hw1 (ob_C i hi) 0 ⟨rfl, by decide, rfl⟩ rfl (hts (.fieldLink RX1 9 "TermBill$Courses" "creditsByCourse" "[I") (by decide +kernel)) dX1_total_15 ?_
  refine lv_iload_n hx hb dX1_total_18 rfl (lv_at hl 0 rfl) ?_
  refine r_ialN X S (ar_C i hi) (q := 6) (by decide) (by omega) (by decide) dX1_total_19 ?_
  refine lv_iadd hx hb dX1_total_20 ?_
  refine lv_istore_n (lv' := [(1, .int (((((((0 + (F (4 + 8 * i + 2) 0)) + (F (4 + 8 * i + 2) 1)) + (F (4 + 8 * i + 2) 2)) + (F (4 + 8 * i + 2) 3)) + (F (4 + 8 * i + 2) 4)) + (F (4 + 8 * i + 2) 5)) + (F (4 + 8 * i + 2) 6))), (2, .int 6), (0, .ref (ad (4 + 8 * i + 1)))]) hx hb dX1_total_21 rfl hl (by decide) rfl (fun ls hl => ?_)
  refine lv_iinc (v := 7) (lv' := [(2, .int 7), (1, .int (((((((0 + (F (4 + 8 * i + 2) 0)) + (F (4 + 8 * i + 2) 1)) + (F (4 + 8 * i + 2) 2)) + (F (4 + 8 * i + 2) 3)) + (F (4 + 8 * i + 2) 4)) + (F (4 + 8 * i + 2) 5)) + (F (4 + 8 * i + 2) 6))), (0, .ref (ad (4 + 8 * i + 1)))]) hx hb dX1_total_22 hl (k := 1) rfl (by decide) (by decide) rfl (fun ls hl => ?_)
  refine lv_goto (tgt := 4) hx hb dX1_total_25 (by decide) ?_
  refine lv_iload_n hx hb dX1_total_4 rfl (lv_at hl 0 rfl) ?_
  refine lv_aload_n hx hb dX1_total_5 rfl (lv_at hl 2 rfl) ?_
  refine r_getr (q := 4 + 8 * i + 2) X S hw1 (ob_C i hi) 0 ⟨rfl, by decide, rfl⟩ rfl (hts (.fieldLink RX1 9 "TermBill$Courses" "creditsByCourse" "[I") (by decide +kernel)) dX1_total_6 ?_
  refine r_leni X S (ar_C i hi) (v := 8) rfl dX1_total_9 ?_
  refine lv_icmp_ge (tgt := 28) hx hb dX1_total_10 (by decide) (fun z => False.elim (by first | exact absurd z (by decide) | exact absurd (by decide) z)) (fun _ => ?_)
  refine lv_iload_n hx hb dX1_total_13 rfl (lv_at hl 1 rfl) ?_
  refine lv_aload_n hx hb dX1_total_14 rfl (lv_at hl 2 rfl) ?_
  refine r_getr (q := 4 + 8 * i + 2) X S hw1 (ob_C i hi) 0 ⟨rfl, by decide, rfl⟩ rfl (hts (.fieldLink RX1 9 "TermBill$Courses" "creditsByCourse" "[I") (by decide +kernel)) dX1_total_15 ?_
  refine lv_iload_n hx hb dX1_total_18 rfl (lv_at hl 0 rfl) ?_
  refine r_ialN X S (ar_C i hi) (q := 7) (by decide) (by omega) (by decide) dX1_total_19 ?_
  refine lv_iadd hx hb dX1_total_20 ?_
  refine lv_istore_n (lv' := [(1, .int ((((((((0 + (F (4 + 8 * i + 2) 0)) + (F (4 + 8 * i + 2) 1)) + (F (4 + 8 * i + 2) 2)) + (F (4 + 8 * i + 2) 3)) + (F (4 + 8 * i + 2) 4)) + (F (4 + 8 * i + 2) 5)) + (F (4 + 8 * i + 2) 6)) + (F (4 + 8 * i + 2) 7))), (2, .int 7), (0, .ref (ad (4 + 8 * i + 1)))]) hx hb dX1_total_21 rfl hl (by decide) rfl (fun ls hl => ?_)
  refine lv_iinc (v := 8) (lv' := [(2, .int 8), (1, .int ((((((((0 + (F (4 + 8 * i + 2) 0)) + (F (4 + 8 * i + 2) 1)) + (F (4 + 8 * i + 2) 2)) + (F (4 + 8 * i + 2) 3)) + (F (4 + 8 * i + 2) 4)) + (F (4 + 8 * i + 2) 5)) + (F (4 + 8 * i + 2) 6)) + (F (4 + 8 * i + 2) 7))), (0, .ref (ad (4 + 8 * i + 1)))]) hx hb dX1_total_22 hl (k := 1) rfl (by decide) (by decide) rfl (fun ls hl => ?_)
  refine lv_goto (tgt := 4) hx hb dX1_total_25 (by decide) ?_
  refine lv_iload_n hx hb dX1_total_4 rfl (lv_at hl 0 rfl) ?_
  refine lv_aload_n hx hb dX1_total_5 rfl (lv_at hl 2 rfl) ?_
  refine r_getr (q := 4 + 8 * i + 2) X S hw1 (ob_C i hi) 0 ⟨rfl, by decide, rfl⟩ rfl (hts (.fieldLink RX1 9 "TermBill$Courses" "creditsByCourse" "[I") (by decide +kernel)) dX1_total_6 ?_
  refine r_leni X S (ar_C i hi) (v := 8) rfl dX1_total_9 ?_
  refine lv_icmp_ge (tgt := 28) hx hb dX1_total_10 (by decide) (fun _ => ?_) (fun z => False.elim (by first | exact absurd z (by decide) | exact absurd (by decide) z))
  refine lv_iload_n hx hb dX1_total_28 rfl (lv_at hl 1 rfl) ?_
  exact r_iret X S hr dX1_total_29 (Nat.le_of_ble_eq_true rfl) (Nat.le_of_ble_eq_true rfl) rfl rfl

set_option maxHeartbeats 1000000 in
set_option maxRecDepth 100000 in
theorem c_X1_has (l : Launch) (D : va_G) (cA : Nat → ClassId) (ad : Nat → Nat) (sz : Nat) (F : FF) (i : Nat) (hi : i < 4) (x : Int32) : CI l D cA ad sz yX1_has wsX1_has 0 0 0 0 [.ref (ad (4 + 8 * i + 1)), .int x] F (some (.int (bI (hasI x (F (4 + 8 * i + 1) 1))))) F := by
  refine CI_of (own := RX1) (cc := cX1_has) (maxL := 2) (ret := (some .boolean)) (by decide +kernel) rfl rfl (Nat.le_of_ble_eq_true rfl) ?_
  intro p e s m below meth c ls X S hr hl
  obtain ⟨⟨hx, hb, hml, hown, hts⟩, hE, hI, hlocks⟩ := id X
  have hl : lv_has ls 2 [(0, .ref (ad (4 + 8 * i + 1))), (1, .int x)] := hl
  have hw1 : ∀ w ∈ wsX10, w.before _ s = true := fun w h => hts w ((by decide +kernel : ∀ w ∈ wsX10, w ∈ wsX1_has) w h)
  refine lv_iload_n hx hb dX1_has_0 rfl (lv_at hl 1 rfl) ?_
  refine lv_if_lt (tgt := 16) hx hb dX1_has_1 (by decide) (fun c_1 => ?_) (fun c_1 => ?_)
  · refine lv_iconst (v := 0) hx hb dX1_has_16 (by decide) ?_
    exact r_zret X S hr rfl dX1_has_17 (Nat.le_of_ble_eq_true rfl) (Nat.le_of_ble_eq_true rfl) (by rw [hasI_f1 c_1]; rfl) rfl
  · refine lv_iload_n hx hb dX1_has_4 rfl (lv_at hl 1 rfl) ?_
    refine lv_aload_n hx hb dX1_has_5 rfl (lv_at hl 0 rfl) ?_
    refine r_geti X S hw1 (ob_C i hi) 1 ⟨rfl, by decide, rfl⟩ rfl (hts (.fieldLink RX1 15 "TermBill$Courses" "taken" "I") (by decide +kernel)) dX1_has_6 ?_
    refine lv_icmp_ge (tgt := 16) hx hb dX1_has_9 (by decide) (fun c_2 => ?_) (fun c_2 => ?_)
    · refine lv_iconst (v := 0) hx hb dX1_has_16 (by decide) ?_
      exact r_zret X S hr rfl dX1_has_17 (Nat.le_of_ble_eq_true rfl) (Nat.le_of_ble_eq_true rfl) (by rw [hasI_f2 c_2]; rfl) rfl
    · refine lv_iconst (v := 1) hx hb dX1_has_12 (by decide) ?_
      refine lv_goto (tgt := 17) hx hb dX1_has_13 (by decide) ?_
      exact r_zret X S hr rfl dX1_has_17 (Nat.le_of_ble_eq_true rfl) (Nat.le_of_ble_eq_true rfl) (by rw [hasI_t c_1 c_2]; rfl) rfl

set_option maxHeartbeats 1000000 in
set_option maxRecDepth 100000 in
theorem c_X0_has (l : Launch) (D : va_G) (cA : Nat → ClassId) (ad : Nat → Nat) (sz : Nat) (F : FF) (i : Nat) (hi : i < 4) (x : Int32) : CI l D cA ad sz yX0_has wsX0_has 0 0 0 0 [.ref (ad (4 + 8 * i + 3)), .int x] F (some (.int (bI (hasI x (F (4 + 8 * i + 3) 3))))) F := by
  refine CI_of (own := RX0) (cc := cX0_has) (maxL := 2) (ret := (some .boolean)) (by decide +kernel) rfl rfl (Nat.le_of_ble_eq_true rfl) ?_
  intro p e s m below meth c ls X S hr hl
  obtain ⟨⟨hx, hb, hml, hown, hts⟩, hE, hI, hlocks⟩ := id X
  have hl : lv_has ls 2 [(0, .ref (ad (4 + 8 * i + 3))), (1, .int x)] := hl
  have hw0 : ∀ w ∈ wsX00, w.before _ s = true := fun w h => hts w ((by decide +kernel : ∀ w ∈ wsX00, w ∈ wsX0_has) w h)
  refine lv_iload_n hx hb dX0_has_0 rfl (lv_at hl 1 rfl) ?_
  refine lv_if_lt (tgt := 16) hx hb dX0_has_1 (by decide) (fun c_1 => ?_) (fun c_1 => ?_)
  · refine lv_iconst (v := 0) hx hb dX0_has_16 (by decide) ?_
    exact r_zret X S hr rfl dX0_has_17 (Nat.le_of_ble_eq_true rfl) (Nat.le_of_ble_eq_true rfl) (by rw [hasI_f1 c_1]; rfl) rfl
  · refine lv_iload_n hx hb dX0_has_4 rfl (lv_at hl 1 rfl) ?_
    refine lv_aload_n hx hb dX0_has_5 rfl (lv_at hl 0 rfl) ?_
    refine r_geti X S hw0 (ob_A i hi) 3 ⟨rfl, by decide, rfl⟩ rfl (hts (.fieldLink RX0 21 "TermBill$Aid" "many" "I") (by decide +kernel)) dX0_has_6 ?_
    refine lv_icmp_ge (tgt := 16) hx hb dX0_has_9 (by decide) (fun c_2 => ?_) (fun c_2 => ?_)
    · refine lv_iconst (v := 0) hx hb dX0_has_16 (by decide) ?_
      exact r_zret X S hr rfl dX0_has_17 (Nat.le_of_ble_eq_true rfl) (Nat.le_of_ble_eq_true rfl) (by rw [hasI_f2 c_2]; rfl) rfl
    · refine lv_iconst (v := 1) hx hb dX0_has_12 (by decide) ?_
      refine lv_goto (tgt := 17) hx hb dX0_has_13 (by decide) ?_
      exact r_zret X S hr rfl dX0_has_17 (Nat.le_of_ble_eq_true rfl) (Nat.le_of_ble_eq_true rfl) (by rw [hasI_t c_1 c_2]; rfl) rfl

set_option maxHeartbeats 1000000 in
set_option maxRecDepth 100000 in
theorem c_X1_creditsOf (l : Launch) (D : va_G) (cA : Nat → ClassId) (ad : Nat → Nat) (sz : Nat) (F : FF) (i : Nat) (hi : i < 4) (j : Nat) (hj : j < 8) : CI l D cA ad sz yX1_creditsOf wsX1_creditsOf 0 0 0 0 [.ref (ad (4 + 8 * i + 1)), .int (nI j)] F (some (.int (F (4 + 8 * i + 2) j))) F := by
  refine CI_of (own := RX1) (cc := cX1_creditsOf) (maxL := 2) (ret := (some .int)) (by decide +kernel) rfl rfl (Nat.le_of_ble_eq_true rfl) ?_
  intro p e s m below meth c ls X S hr hl
  obtain ⟨⟨hx, hb, hml, hown, hts⟩, hE, hI, hlocks⟩ := id X
  have hl : lv_has ls 2 [(0, .ref (ad (4 + 8 * i + 1))), (1, .int (nI j))] := hl
  have hw1 : ∀ w ∈ wsX10, w.before _ s = true := fun w h => hts w ((by decide +kernel : ∀ w ∈ wsX10, w ∈ wsX1_creditsOf) w h)
  refine lv_iload_n hx hb dX1_creditsOf_0 rfl (lv_at hl 1 rfl) ?_
  refine lv_if_lt (tgt := 22) hx hb dX1_creditsOf_1 (by decide) (fun z => False.elim (nI_pos (by omega) z)) (fun _ => ?_)
  refine lv_iload_n hx hb dX1_creditsOf_4 rfl (lv_at hl 1 rfl) ?_
  refine lv_aload_n hx hb dX1_creditsOf_5 rfl (lv_at hl 0 rfl) ?_
  refine r_getr (q := 4 + 8 * i + 2) X S hw1 (ob_C i hi) 0 ⟨rfl, by decide, rfl⟩ rfl (hts (.fieldLink RX1 9 "TermBill$Courses" "creditsByCourse" "[I") (by decide +kernel)) dX1_creditsOf_6 ?_
  refine r_leni X S (ar_C i hi) (v := 8) rfl dX1_creditsOf_9 ?_
  refine lv_icmp_ge (tgt := 22) hx hb dX1_creditsOf_10 (by decide) (fun z => False.elim (nI_ge (a := j) (b := 8) hj (by omega) z)) (fun _ => ?_)
  refine lv_aload_n hx hb dX1_creditsOf_13 rfl (lv_at hl 0 rfl) ?_
  refine r_getr (q := 4 + 8 * i + 2) X S hw1 (ob_C i hi) 0 ⟨rfl, by decide, rfl⟩ rfl (hts (.fieldLink RX1 9 "TermBill$Courses" "creditsByCourse" "[I") (by decide +kernel)) dX1_creditsOf_14 ?_
  refine lv_iload_n hx hb dX1_creditsOf_17 rfl (lv_at hl 1 rfl) ?_
  refine r_ialN X S (ar_C i hi) (q := j) rfl (by omega) (by decide) dX1_creditsOf_18 ?_
  refine lv_goto (tgt := 23) hx hb dX1_creditsOf_19 (by decide) ?_
  exact r_iret X S hr dX1_creditsOf_23 (Nat.le_of_ble_eq_true rfl) (Nat.le_of_ble_eq_true rfl) rfl rfl

set_option maxHeartbeats 1000000 in
set_option maxRecDepth 100000 in
theorem c_X0_sumOf (l : Launch) (D : va_G) (cA : Nat → ClassId) (ad : Nat → Nat) (sz : Nat) (F : FF) (i : Nat) (hi : i < 4) (j : Nat) (hj : j < 6) : CI l D cA ad sz yX0_sumOf wsX0_sumOf 0 0 0 0 [.ref (ad (4 + 8 * i + 3)), .int (nI j)] F (some (.int (F (4 + 8 * i + 5) j))) F := by
  refine CI_of (own := RX0) (cc := cX0_sumOf) (maxL := 2) (ret := (some .int)) (by decide +kernel) rfl rfl (Nat.le_of_ble_eq_true rfl) ?_
  intro p e s m below meth c ls X S hr hl
  obtain ⟨⟨hx, hb, hml, hown, hts⟩, hE, hI, hlocks⟩ := id X
  have hl : lv_has ls 2 [(0, .ref (ad (4 + 8 * i + 3))), (1, .int (nI j))] := hl
  have hw0 : ∀ w ∈ wsX00, w.before _ s = true := fun w h => hts w ((by decide +kernel : ∀ w ∈ wsX00, w ∈ wsX0_sumOf) w h)
  refine lv_iload_n hx hb dX0_sumOf_0 rfl (lv_at hl 1 rfl) ?_
  refine lv_if_lt (tgt := 22) hx hb dX0_sumOf_1 (by decide) (fun z => False.elim (nI_pos (by omega) z)) (fun _ => ?_)
  refine lv_iload_n hx hb dX0_sumOf_4 rfl (lv_at hl 1 rfl) ?_
  refine lv_aload_n hx hb dX0_sumOf_5 rfl (lv_at hl 0 rfl) ?_
  refine r_getr (q := 4 + 8 * i + 5) X S hw0 (ob_A i hi) 1 ⟨rfl, by decide, rfl⟩ rfl (hts (.fieldLink RX0 15 "TermBill$Aid" "amounts" "[I") (by decide +kernel)) dX0_sumOf_6 ?_
  refine r_leni X S (ar_M i hi) (v := 6) rfl dX0_sumOf_9 ?_
  refine lv_icmp_ge (tgt := 22) hx hb dX0_sumOf_10 (by decide) (fun z => False.elim (nI_ge (a := j) (b := 6) hj (by omega) z)) (fun _ => ?_)
  refine lv_aload_n hx hb dX0_sumOf_13 rfl (lv_at hl 0 rfl) ?_
  refine r_getr (q := 4 + 8 * i + 5) X S hw0 (ob_A i hi) 1 ⟨rfl, by decide, rfl⟩ rfl (hts (.fieldLink RX0 15 "TermBill$Aid" "amounts" "[I") (by decide +kernel)) dX0_sumOf_14 ?_
  refine lv_iload_n hx hb dX0_sumOf_17 rfl (lv_at hl 1 rfl) ?_
  refine r_ialN X S (ar_M i hi) (q := j) rfl (by omega) (by decide) dX0_sumOf_18 ?_
  refine lv_goto (tgt := 23) hx hb dX0_sumOf_19 (by decide) ?_
  exact r_iret X S hr dX0_sumOf_23 (Nat.le_of_ble_eq_true rfl) (Nat.le_of_ble_eq_true rfl) rfl rfl

set_option maxHeartbeats 1000000 in
set_option maxRecDepth 100000 in
theorem c_X0_useOf (l : Launch) (D : va_G) (cA : Nat → ClassId) (ad : Nat → Nat) (sz : Nat) (F : FF) (i : Nat) (hi : i < 4) (j : Nat) (hj : j < 6) : CI l D cA ad sz yX0_useOf wsX0_useOf 0 0 0 0 [.ref (ad (4 + 8 * i + 3)), .int (nI j)] F (some (.int (F (4 + 8 * i + 6) j))) F := by
  refine CI_of (own := RX0) (cc := cX0_useOf) (maxL := 2) (ret := (some .int)) (by decide +kernel) rfl rfl (Nat.le_of_ble_eq_true rfl) ?_
  intro p e s m below meth c ls X S hr hl
  obtain ⟨⟨hx, hb, hml, hown, hts⟩, hE, hI, hlocks⟩ := id X
  have hl : lv_has ls 2 [(0, .ref (ad (4 + 8 * i + 3))), (1, .int (nI j))] := hl
  have hw0 : ∀ w ∈ wsX00, w.before _ s = true := fun w h => hts w ((by decide +kernel : ∀ w ∈ wsX00, w ∈ wsX0_useOf) w h)
  refine lv_iload_n hx hb dX0_useOf_0 rfl (lv_at hl 1 rfl) ?_
  refine lv_if_lt (tgt := 22) hx hb dX0_useOf_1 (by decide) (fun z => False.elim (nI_pos (by omega) z)) (fun _ => ?_)
  refine lv_iload_n hx hb dX0_useOf_4 rfl (lv_at hl 1 rfl) ?_
  refine lv_aload_n hx hb dX0_useOf_5 rfl (lv_at hl 0 rfl) ?_
  refine r_getr (q := 4 + 8 * i + 6) X S hw0 (ob_A i hi) 2 ⟨rfl, by decide, rfl⟩ rfl (hts (.fieldLink RX0 18 "TermBill$Aid" "uses" "[I") (by decide +kernel)) dX0_useOf_6 ?_
  refine r_leni X S (ar_U i hi) (v := 6) rfl dX0_useOf_9 ?_
  refine lv_icmp_ge (tgt := 22) hx hb dX0_useOf_10 (by decide) (fun z => False.elim (nI_ge (a := j) (b := 6) hj (by omega) z)) (fun _ => ?_)
  refine lv_aload_n hx hb dX0_useOf_13 rfl (lv_at hl 0 rfl) ?_
  refine r_getr (q := 4 + 8 * i + 6) X S hw0 (ob_A i hi) 2 ⟨rfl, by decide, rfl⟩ rfl (hts (.fieldLink RX0 18 "TermBill$Aid" "uses" "[I") (by decide +kernel)) dX0_useOf_14 ?_
  refine lv_iload_n hx hb dX0_useOf_17 rfl (lv_at hl 1 rfl) ?_
  refine r_ialN X S (ar_U i hi) (q := j) rfl (by omega) (by decide) dX0_useOf_18 ?_
  refine lv_goto (tgt := 23) hx hb dX0_useOf_19 (by decide) ?_
  exact r_iret X S hr dX0_useOf_23 (Nat.le_of_ble_eq_true rfl) (Nat.le_of_ble_eq_true rfl) rfl rfl

set_option maxHeartbeats 1000000 in
set_option maxRecDepth 100000 in
theorem c_X1_remove (l : Launch) (D : va_G) (cA : Nat → ClassId) (ad : Nat → Nat) (sz : Nat) (F : FF) (i : Nat) (hi : i < 4) (j : Nat) (hj : j < 8) : CI l D cA ad sz yX1_remove wsX1_remove 0 0 0 0 [.ref (ad (4 + 8 * i + 1)), .int (nI j)] F none (u2 F (4 + 8 * i + 2) j 0) := by
  refine CI_of (own := RX1) (cc := cX1_remove) (maxL := 2) (ret := none) (by decide +kernel) rfl rfl (Nat.le_of_ble_eq_true rfl) ?_
  intro p e s m below meth c ls X S hr hl
  obtain ⟨⟨hx, hb, hml, hown, hts⟩, hE, hI, hlocks⟩ := id X
  have hl : lv_has ls 2 [(0, .ref (ad (4 + 8 * i + 1))), (1, .int (nI j))] := hl
  have hw1 : ∀ w ∈ wsX10, w.before _ s = true := fun w h => hts w ((by decide +kernel : ∀ w ∈ wsX10, w ∈ wsX1_remove) w h)
  refine lv_iload_n hx hb dX1_remove_0 rfl (lv_at hl 1 rfl) ?_
  refine lv_if_lt (tgt := 20) hx hb dX1_remove_1 (by decide) (fun z => False.elim (nI_pos (by omega) z)) (fun _ => ?_)
  refine lv_iload_n hx hb dX1_remove_4 rfl (lv_at hl 1 rfl) ?_
  refine lv_aload_n hx hb dX1_remove_5 rfl (lv_at hl 0 rfl) ?_
  refine r_getr (q := 4 + 8 * i + 2) X S hw1 (ob_C i hi) 0 ⟨rfl, by decide, rfl⟩ rfl (hts (.fieldLink RX1 9 "TermBill$Courses" "creditsByCourse" "[I") (by decide +kernel)) dX1_remove_6 ?_
  refine r_leni X S (ar_C i hi) (v := 8) rfl dX1_remove_9 ?_
  refine lv_icmp_ge (tgt := 20) hx hb dX1_remove_10 (by decide) (fun z => False.elim (nI_ge (a := j) (b := 8) hj (by omega) z)) (fun _ => ?_)
  refine lv_aload_n hx hb dX1_remove_13 rfl (lv_at hl 0 rfl) ?_
  refine r_getr (q := 4 + 8 * i + 2) X S hw1 (ob_C i hi) 0 ⟨rfl, by decide, rfl⟩ rfl (hts (.fieldLink RX1 9 "TermBill$Courses" "creditsByCourse" "[I") (by decide +kernel)) dX1_remove_14 ?_
  refine lv_iload_n hx hb dX1_remove_17 rfl (lv_at hl 1 rfl) ?_
  refine lv_iconst (v := 0) hx hb dX1_remove_18 (by decide) ?_
  refine r_iasN X S (ar_C i hi) (q := j) rfl (by omega) (by decide) dX1_remove_19 (fun H locs S => ?_)
  obtain ⟨F_1, eF_1⟩ : ∃ z, z = u2 F (4 + 8 * i + 2) j 0 := ⟨_, rfl⟩
  rw [← eF_1] at S
  exact r_vret X S hr dX1_remove_20 (Nat.le_of_ble_eq_true rfl) (Nat.le_of_ble_eq_true rfl) (by first | rfl | (subst_vars; rfl))

set_option maxHeartbeats 1000000 in
set_option maxRecDepth 100000 in
theorem c_X1_add (l : Launch) (D : va_G) (cA : Nat → ClassId) (ad : Nat → Nat) (sz : Nat) (F : FF) (i : Nat) (hi : i < 4) (t : Nat) (ht : t < 8) (et : F (4 + 8 * i + 1) 1 = nI t) (x : Int32) : CI l D cA ad sz yX1_add wsX1_add 0 0 0 0 [.ref (ad (4 + 8 * i + 1)), .int x] F (some (.int (nI t))) (u2 (u2 F (4 + 8 * i + 2) t x) (4 + 8 * i + 1) 1 (nI (t + 1))) := by
  refine CI_of (own := RX1) (cc := cX1_add) (maxL := 2) (ret := (some .int)) (by decide +kernel) rfl rfl (Nat.le_of_ble_eq_true rfl) ?_
  intro p e s m below meth c ls X S hr hl
  obtain ⟨⟨hx, hb, hml, hown, hts⟩, hE, hI, hlocks⟩ := id X
  have hl : lv_has ls 2 [(0, .ref (ad (4 + 8 * i + 1))), (1, .int x)] := hl
  have hw1 : ∀ w ∈ wsX10, w.before _ s = true := fun w h => hts w ((by decide +kernel : ∀ w ∈ wsX10, w ∈ wsX1_add) w h)
  refine lv_aload_n hx hb dX1_add_0 rfl (lv_at hl 0 rfl) ?_
  refine r_geti X S hw1 (ob_C i hi) 1 ⟨rfl, by decide, rfl⟩ rfl (hts (.fieldLink RX1 15 "TermBill$Courses" "taken" "I") (by decide +kernel)) dX1_add_1 ?_
  rw [show F (4 + 8 * i + 1) 1 = nI t from et]
  refine lv_if_lt (tgt := 19) hx hb dX1_add_4 (by decide) (fun z => False.elim (nI_pos (by omega) z)) (fun _ => ?_)
  refine lv_aload_n hx hb dX1_add_7 rfl (lv_at hl 0 rfl) ?_
  refine r_geti X S hw1 (ob_C i hi) 1 ⟨rfl, by decide, rfl⟩ rfl (hts (.fieldLink RX1 15 "TermBill$Courses" "taken" "I") (by decide +kernel)) dX1_add_8 ?_
  rw [show F (4 + 8 * i + 1) 1 = nI t from et]
  refine lv_aload_n hx hb dX1_add_11 rfl (lv_at hl 0 rfl) ?_
  refine r_getr (q := 4 + 8 * i + 2) X S hw1 (ob_C i hi) 0 ⟨rfl, by decide, rfl⟩ rfl (hts (.fieldLink RX1 9 "TermBill$Courses" "creditsByCourse" "[I") (by decide +kernel)) dX1_add_12 ?_
  refine r_leni X S (ar_C i hi) (v := 8) rfl dX1_add_15 ?_
  refine lv_icmp_lt (tgt := 21) hx hb dX1_add_16 (by decide) (fun _ => ?_) (fun z => False.elim (z (nI_lt (a := t) (b := 8) ht (by omega))))
  refine lv_aload_n hx hb dX1_add_21 rfl (lv_at hl 0 rfl) ?_
  refine r_getr (q := 4 + 8 * i + 2) X S hw1 (ob_C i hi) 0 ⟨rfl, by decide, rfl⟩ rfl (hts (.fieldLink RX1 9 "TermBill$Courses" "creditsByCourse" "[I") (by decide +kernel)) dX1_add_22 ?_
  refine lv_aload_n hx hb dX1_add_25 rfl (lv_at hl 0 rfl) ?_
  refine r_geti X S hw1 (ob_C i hi) 1 ⟨rfl, by decide, rfl⟩ rfl (hts (.fieldLink RX1 15 "TermBill$Courses" "taken" "I") (by decide +kernel)) dX1_add_26 ?_
  rw [show F (4 + 8 * i + 1) 1 = nI t from et]
  refine lv_iload_n hx hb dX1_add_29 rfl (lv_at hl 1 rfl) ?_
  refine r_iasN X S (ar_C i hi) (q := t) rfl (by omega) (by decide) dX1_add_30 (fun H locs S => ?_)
  obtain ⟨F_1, eF_1⟩ : ∃ z, z = u2 F (4 + 8 * i + 2) t x := ⟨_, rfl⟩
  rw [← eF_1] at S
  refine lv_aload_n hx hb dX1_add_31 rfl (lv_at hl 0 rfl) ?_
  refine lv_dup hx hb dX1_add_32 rfl ?_
  refine r_geti X S hw1 (ob_C i hi) 1 ⟨rfl, by decide, rfl⟩ rfl (hts (.fieldLink RX1 15 "TermBill$Courses" "taken" "I") (by decide +kernel)) dX1_add_33 ?_
  rw [show F_1 (4 + 8 * i + 1) 1 = nI t from (by rw [eF_1, u2_ne _ _ (by omega), et])]
  refine lv_iconst (v := 1) hx hb dX1_add_36 (by decide) ?_
  refine lv_iadd hx hb dX1_add_37 ?_
  refine lv_topi (fun x_2 ex_2 => ?_)
  obtain rfl : x_2 = nI (t + 1) := ex_2.trans (nI_add t 1)
  refine r_puti X S hw1 (ob_C i hi) 1 ⟨rfl, by decide, rfl⟩ rfl (hts (.fieldLink RX1 15 "TermBill$Courses" "taken" "I") (by decide +kernel)) tyX1 tyX1_ok nmX1 rfl rfl dX1_add_38 (fun H locs S => ?_)
  obtain ⟨F_3, eF_3⟩ : ∃ z, z = u2 F_1 (4 + 8 * i + 1) 1 (nI (t + 1)) := ⟨_, rfl⟩
  rw [← eF_3] at S
  refine lv_aload_n hx hb dX1_add_41 rfl (lv_at hl 0 rfl) ?_
  refine r_geti X S hw1 (ob_C i hi) 1 ⟨rfl, by decide, rfl⟩ rfl (hts (.fieldLink RX1 15 "TermBill$Courses" "taken" "I") (by decide +kernel)) dX1_add_42 ?_
  rw [show F_3 (4 + 8 * i + 1) 1 = nI (t + 1) from (by rw [eF_3, u2_eq])]
  refine lv_iconst (v := 1) hx hb dX1_add_45 (by decide) ?_
  refine lv_isub hx hb dX1_add_46 ?_
  exact r_iret X S hr dX1_add_47 (Nat.le_of_ble_eq_true rfl) (Nat.le_of_ble_eq_true rfl) (nI_pred t) (by first | rfl | (subst_vars; rfl))

set_option maxHeartbeats 1000000 in
set_option maxRecDepth 100000 in
theorem c_X1_addf (l : Launch) (D : va_G) (cA : Nat → ClassId) (ad : Nat → Nat) (sz : Nat) (F : FF) (i : Nat) (hi : i < 4) (et : F (4 + 8 * i + 1) 1 = nI 8) (x : Int32) : CI l D cA ad sz yX1_add wsX1_add 0 0 0 0 [.ref (ad (4 + 8 * i + 1)), .int x] F (some (.int (-1))) F := by
  refine CI_of (own := RX1) (cc := cX1_add) (maxL := 2) (ret := (some .int)) (by decide +kernel) rfl rfl (Nat.le_of_ble_eq_true rfl) ?_
  intro p e s m below meth c ls X S hr hl
  obtain ⟨⟨hx, hb, hml, hown, hts⟩, hE, hI, hlocks⟩ := id X
  have hl : lv_has ls 2 [(0, .ref (ad (4 + 8 * i + 1))), (1, .int x)] := hl
  have hw1 : ∀ w ∈ wsX10, w.before _ s = true := fun w h => hts w ((by decide +kernel : ∀ w ∈ wsX10, w ∈ wsX1_add) w h)
  refine lv_aload_n hx hb dX1_add_0 rfl (lv_at hl 0 rfl) ?_
  refine r_geti X S hw1 (ob_C i hi) 1 ⟨rfl, by decide, rfl⟩ rfl (hts (.fieldLink RX1 15 "TermBill$Courses" "taken" "I") (by decide +kernel)) dX1_add_1 ?_
  rw [show F (4 + 8 * i + 1) 1 = nI 8 from et]
  refine lv_if_lt (tgt := 19) hx hb dX1_add_4 (by decide) (fun z => False.elim (nI_pos (by omega) z)) (fun _ => ?_)
  refine lv_aload_n hx hb dX1_add_7 rfl (lv_at hl 0 rfl) ?_
  refine r_geti X S hw1 (ob_C i hi) 1 ⟨rfl, by decide, rfl⟩ rfl (hts (.fieldLink RX1 15 "TermBill$Courses" "taken" "I") (by decide +kernel)) dX1_add_8 ?_
  rw [show F (4 + 8 * i + 1) 1 = nI 8 from et]
  refine lv_aload_n hx hb dX1_add_11 rfl (lv_at hl 0 rfl) ?_
  refine r_getr (q := 4 + 8 * i + 2) X S hw1 (ob_C i hi) 0 ⟨rfl, by decide, rfl⟩ rfl (hts (.fieldLink RX1 9 "TermBill$Courses" "creditsByCourse" "[I") (by decide +kernel)) dX1_add_12 ?_
  refine r_leni X S (ar_C i hi) (v := 8) rfl dX1_add_15 ?_
  refine lv_icmp_lt (tgt := 21) hx hb dX1_add_16 (by decide) (fun z => False.elim (absurd z (by decide))) (fun _ => ?_)
  refine lv_iconst (v := -1) hx hb dX1_add_19 (by decide) ?_
  exact r_iret X S hr dX1_add_20 (Nat.le_of_ble_eq_true rfl) (Nat.le_of_ble_eq_true rfl) rfl rfl

set_option maxHeartbeats 1000000 in
set_option maxRecDepth 100000 in
theorem c_X0_add (l : Launch) (D : va_G) (cA : Nat → ClassId) (ad : Nat → Nat) (sz : Nat) (F : FF) (i : Nat) (hi : i < 4) (t : Nat) (ht : t < 6) (et : F (4 + 8 * i + 3) 3 = nI t) (x y : Int32) : CI l D cA ad sz yX0_add wsX0_add 0 0 0 0 [.ref (ad (4 + 8 * i + 3)), .int x, .int y] F (some (.int (nI t))) (u2 (u2 (u2 F (4 + 8 * i + 4) t x) (4 + 8 * i + 5) t y) (4 + 8 * i + 3) 3 (nI (t + 1))) := by
  refine CI_of (own := RX0) (cc := cX0_add) (maxL := 3) (ret := (some .int)) (by decide +kernel) rfl rfl (Nat.le_of_ble_eq_true rfl) ?_
  intro p e s m below meth c ls X S hr hl
  obtain ⟨⟨hx, hb, hml, hown, hts⟩, hE, hI, hlocks⟩ := id X
  have hl : lv_has ls 3 [(0, .ref (ad (4 + 8 * i + 3))), (1, .int x), (2, .int y)] := hl
  have hw0 : ∀ w ∈ wsX00, w.before _ s = true := fun w h => hts w ((by decide +kernel : ∀ w ∈ wsX00, w ∈ wsX0_add) w h)
  refine lv_aload_n hx hb dX0_add_0 rfl (lv_at hl 0 rfl) ?_
  refine r_geti X S hw0 (ob_A i hi) 3 ⟨rfl, by decide, rfl⟩ rfl (hts (.fieldLink RX0 21 "TermBill$Aid" "many" "I") (by decide +kernel)) dX0_add_1 ?_
  rw [show F (4 + 8 * i + 3) 3 = nI t from et]
  refine lv_if_lt (tgt := 16) hx hb dX0_add_4 (by decide) (fun z => False.elim (nI_pos (by omega) z)) (fun _ => ?_)
  refine lv_aload_n hx hb dX0_add_7 rfl (lv_at hl 0 rfl) ?_
  refine r_geti X S hw0 (ob_A i hi) 3 ⟨rfl, by decide, rfl⟩ rfl (hts (.fieldLink RX0 21 "TermBill$Aid" "many" "I") (by decide +kernel)) dX0_add_8 ?_
  rw [show F (4 + 8 * i + 3) 3 = nI t from et]
  refine lv_bipush (v := 6) hx hb dX0_add_11 (by decide) ?_
  refine lv_icmp_lt (tgt := 18) hx hb dX0_add_13 (by decide) (fun _ => ?_) (fun z => False.elim (z (nI_lt (a := t) (b := 6) ht (by omega))))
  refine lv_aload_n hx hb dX0_add_18 rfl (lv_at hl 0 rfl) ?_
  refine r_getr (q := 4 + 8 * i + 4) X S hw0 (ob_A i hi) 0 ⟨rfl, by decide, rfl⟩ rfl (hts (.fieldLink RX0 9 "TermBill$Aid" "ranks" "[I") (by decide +kernel)) dX0_add_19 ?_
  refine lv_aload_n hx hb dX0_add_22 rfl (lv_at hl 0 rfl) ?_
  refine r_geti X S hw0 (ob_A i hi) 3 ⟨rfl, by decide, rfl⟩ rfl (hts (.fieldLink RX0 21 "TermBill$Aid" "many" "I") (by decide +kernel)) dX0_add_23 ?_
  rw [show F (4 + 8 * i + 3) 3 = nI t from et]
  refine lv_iload_n hx hb dX0_add_26 rfl (lv_at hl 1 rfl) ?_
  refine r_iasN X S (ar_R i hi) (q := t) rfl (by omega) (by decide) dX0_add_27 (fun H locs S => ?_)
  obtain ⟨F_1, eF_1⟩ : ∃ z, z = u2 F (4 + 8 * i + 4) t x := ⟨_, rfl⟩
  rw [← eF_1] at S
  refine lv_aload_n hx hb dX0_add_28 rfl (lv_at hl 0 rfl) ?_
  refine r_getr (q := 4 + 8 * i + 5) X S hw0 (ob_A i hi) 1 ⟨rfl, by decide, rfl⟩ rfl (hts (.fieldLink RX0 15 "TermBill$Aid" "amounts" "[I") (by decide +kernel)) dX0_add_29 ?_
  refine lv_aload_n hx hb dX0_add_32 rfl (lv_at hl 0 rfl) ?_
  refine r_geti X S hw0 (ob_A i hi) 3 ⟨rfl, by decide, rfl⟩ rfl (hts (.fieldLink RX0 21 "TermBill$Aid" "many" "I") (by decide +kernel)) dX0_add_33 ?_
  rw [show F_1 (4 + 8 * i + 3) 3 = nI t from (by rw [eF_1, u2_ne _ _ (by omega), et])]
  refine lv_iload_n hx hb dX0_add_36 rfl (lv_at hl 2 rfl) ?_
  refine r_iasN X S (ar_M i hi) (q := t) rfl (by omega) (by decide) dX0_add_37 (fun H locs S => ?_)
  obtain ⟨F_2, eF_2⟩ : ∃ z, z = u2 F_1 (4 + 8 * i + 5) t y := ⟨_, rfl⟩
  rw [← eF_2] at S
  refine lv_aload_n hx hb dX0_add_38 rfl (lv_at hl 0 rfl) ?_
  refine lv_dup hx hb dX0_add_39 rfl ?_
  refine r_geti X S hw0 (ob_A i hi) 3 ⟨rfl, by decide, rfl⟩ rfl (hts (.fieldLink RX0 21 "TermBill$Aid" "many" "I") (by decide +kernel)) dX0_add_40 ?_
  rw [show F_2 (4 + 8 * i + 3) 3 = nI t from (by rw [eF_2, u2_ne _ _ (by omega), eF_1, u2_ne _ _ (by omega), et])]
  refine lv_iconst (v := 1) hx hb dX0_add_43 (by decide) ?_
  refine lv_iadd hx hb dX0_add_44 ?_
  refine lv_topi (fun x_3 ex_3 => ?_)
  obtain rfl : x_3 = nI (t + 1) := ex_3.trans (nI_add t 1)
  refine r_puti X S hw0 (ob_A i hi) 3 ⟨rfl, by decide, rfl⟩ rfl (hts (.fieldLink RX0 21 "TermBill$Aid" "many" "I") (by decide +kernel)) tyX0 tyX0_ok nmX0 rfl rfl dX0_add_45 (fun H locs S => ?_)
  obtain ⟨F_4, eF_4⟩ : ∃ z, z = u2 F_2 (4 + 8 * i + 3) 3 (nI (t + 1)) := ⟨_, rfl⟩
  rw [← eF_4] at S
  refine lv_aload_n hx hb dX0_add_48 rfl (lv_at hl 0 rfl) ?_
  refine r_geti X S hw0 (ob_A i hi) 3 ⟨rfl, by decide, rfl⟩ rfl (hts (.fieldLink RX0 21 "TermBill$Aid" "many" "I") (by decide +kernel)) dX0_add_49 ?_
  rw [show F_4 (4 + 8 * i + 3) 3 = nI (t + 1) from (by rw [eF_4, u2_eq])]
  refine lv_iconst (v := 1) hx hb dX0_add_52 (by decide) ?_
  refine lv_isub hx hb dX0_add_53 ?_
  exact r_iret X S hr dX0_add_54 (Nat.le_of_ble_eq_true rfl) (Nat.le_of_ble_eq_true rfl) (nI_pred t) (by first | rfl | (subst_vars; rfl))

set_option maxHeartbeats 1000000 in
set_option maxRecDepth 100000 in
theorem c_X0_addf (l : Launch) (D : va_G) (cA : Nat → ClassId) (ad : Nat → Nat) (sz : Nat) (F : FF) (i : Nat) (hi : i < 4) (et : F (4 + 8 * i + 3) 3 = nI 6) (x y : Int32) : CI l D cA ad sz yX0_add wsX0_add 0 0 0 0 [.ref (ad (4 + 8 * i + 3)), .int x, .int y] F (some (.int (-1))) F := by
  refine CI_of (own := RX0) (cc := cX0_add) (maxL := 3) (ret := (some .int)) (by decide +kernel) rfl rfl (Nat.le_of_ble_eq_true rfl) ?_
  intro p e s m below meth c ls X S hr hl
  obtain ⟨⟨hx, hb, hml, hown, hts⟩, hE, hI, hlocks⟩ := id X
  have hl : lv_has ls 3 [(0, .ref (ad (4 + 8 * i + 3))), (1, .int x), (2, .int y)] := hl
  have hw0 : ∀ w ∈ wsX00, w.before _ s = true := fun w h => hts w ((by decide +kernel : ∀ w ∈ wsX00, w ∈ wsX0_add) w h)
  refine lv_aload_n hx hb dX0_add_0 rfl (lv_at hl 0 rfl) ?_
  refine r_geti X S hw0 (ob_A i hi) 3 ⟨rfl, by decide, rfl⟩ rfl (hts (.fieldLink RX0 21 "TermBill$Aid" "many" "I") (by decide +kernel)) dX0_add_1 ?_
  rw [show F (4 + 8 * i + 3) 3 = nI 6 from et]
  refine lv_if_lt (tgt := 16) hx hb dX0_add_4 (by decide) (fun z => False.elim (nI_pos (by omega) z)) (fun _ => ?_)
  refine lv_aload_n hx hb dX0_add_7 rfl (lv_at hl 0 rfl) ?_
  refine r_geti X S hw0 (ob_A i hi) 3 ⟨rfl, by decide, rfl⟩ rfl (hts (.fieldLink RX0 21 "TermBill$Aid" "many" "I") (by decide +kernel)) dX0_add_8 ?_
  rw [show F (4 + 8 * i + 3) 3 = nI 6 from et]
  refine lv_bipush (v := 6) hx hb dX0_add_11 (by decide) ?_
  refine lv_icmp_lt (tgt := 18) hx hb dX0_add_13 (by decide) (fun z => False.elim (absurd z (by decide))) (fun _ => ?_)
  refine lv_iconst (v := -1) hx hb dX0_add_16 (by decide) ?_
  exact r_iret X S hr dX0_add_17 (Nat.le_of_ble_eq_true rfl) (Nat.le_of_ble_eq_true rfl) rfl rfl

set_option maxHeartbeats 1000000 in
set_option maxRecDepth 100000 in
theorem c_X2_start (l : Launch) (D : va_G) (cA : Nat → ClassId) (ad : Nat → Nat) (sz : Nat) (F : FF) (i : Nat) (hi : i < 4) (a b c9 d9 : Int32) : CI l D cA ad sz yX2_start wsX2_start 0 0 0 0 [.ref (ad (4 + 8 * i + 7)), .int a, .int b, .int c9, .int d9] F none (u2 (u2 (u2 (u2 (u2 F (4 + 8 * i + 7) 0 a) (4 + 8 * i + 7) 1 b) (4 + 8 * i + 7) 2 c9) (4 + 8 * i + 7) 3 d9) (4 + 8 * i + 7) 4 0) := by
  refine CI_of (own := RX2) (cc := cX2_start) (maxL := 5) (ret := none) (by decide +kernel) rfl rfl (Nat.le_of_ble_eq_true rfl) ?_
  intro p e s m below meth c ls X S hr hl
  obtain ⟨⟨hx, hb, hml, hown, hts⟩, hE, hI, hlocks⟩ := id X
  have hl : lv_has ls 5 [(0, .ref (ad (4 + 8 * i + 7))), (1, .int a), (2, .int b), (3, .int c9), (4, .int d9)] := hl
  have hw2 : ∀ w ∈ wsX20, w.before _ s = true := fun w h => hts w ((by decide +kernel : ∀ w ∈ wsX20, w ∈ wsX2_start) w h)
  refine lv_aload_n hx hb dX2_start_0 rfl (lv_at hl 0 rfl) ?_
  refine lv_iload_n hx hb dX2_start_1 rfl (lv_at hl 1 rfl) ?_
  refine r_puti X S hw2 (ob_I i hi) 0 ⟨rfl, by decide, rfl⟩ rfl (hts (.fieldLink RX2 9 "TermBill$Instalments" "madeAt" "I") (by decide +kernel)) tyX2 tyX2_ok nmX2 rfl rfl dX2_start_2 (fun H locs S => ?_)
  obtain ⟨F_1, eF_1⟩ : ∃ z, z = u2 F (4 + 8 * i + 7) 0 a := ⟨_, rfl⟩
  rw [← eF_1] at S
  refine lv_aload_n hx hb dX2_start_5 rfl (lv_at hl 0 rfl) ?_
  refine lv_iload_n hx hb dX2_start_6 rfl (lv_at hl 2 rfl) ?_
  refine r_puti X S hw2 (ob_I i hi) 1 ⟨rfl, by decide, rfl⟩ rfl (hts (.fieldLink RX2 15 "TermBill$Instalments" "many" "I") (by decide +kernel)) tyX2 tyX2_ok nmX2 rfl rfl dX2_start_7 (fun H locs S => ?_)
  obtain ⟨F_2, eF_2⟩ : ∃ z, z = u2 F_1 (4 + 8 * i + 7) 1 b := ⟨_, rfl⟩
  rw [← eF_2] at S
  refine lv_aload_n hx hb dX2_start_10 rfl (lv_at hl 0 rfl) ?_
  refine lv_iload_n hx hb dX2_start_11 rfl (lv_at hl 3 rfl) ?_
  refine r_puti X S hw2 (ob_I i hi) 2 ⟨rfl, by decide, rfl⟩ rfl (hts (.fieldLink RX2 18 "TermBill$Instalments" "first" "I") (by decide +kernel)) tyX2 tyX2_ok nmX2 rfl rfl dX2_start_12 (fun H locs S => ?_)
  obtain ⟨F_3, eF_3⟩ : ∃ z, z = u2 F_2 (4 + 8 * i + 7) 2 c9 := ⟨_, rfl⟩
  rw [← eF_3] at S
  refine lv_aload_n hx hb dX2_start_15 rfl (lv_at hl 0 rfl) ?_
  refine lv_iload hx hb dX2_start_16 (lv_at hl 4 rfl) ?_
  refine r_puti X S hw2 (ob_I i hi) 3 ⟨rfl, by decide, rfl⟩ rfl (hts (.fieldLink RX2 21 "TermBill$Instalments" "each" "I") (by decide +kernel)) tyX2 tyX2_ok nmX2 rfl rfl dX2_start_18 (fun H locs S => ?_)
  obtain ⟨F_4, eF_4⟩ : ∃ z, z = u2 F_3 (4 + 8 * i + 7) 3 d9 := ⟨_, rfl⟩
  rw [← eF_4] at S
  refine lv_aload_n hx hb dX2_start_21 rfl (lv_at hl 0 rfl) ?_
  refine lv_iconst (v := 0) hx hb dX2_start_22 (by decide) ?_
  refine r_puti X S hw2 (ob_I i hi) 4 ⟨rfl, by decide, rfl⟩ rfl (hts (.fieldLink RX2 24 "TermBill$Instalments" "paidSince" "I") (by decide +kernel)) tyX2 tyX2_ok nmX2 rfl rfl dX2_start_23 (fun H locs S => ?_)
  obtain ⟨F_5, eF_5⟩ : ∃ z, z = u2 F_4 (4 + 8 * i + 7) 4 0 := ⟨_, rfl⟩
  rw [← eF_5] at S
  exact r_vret X S hr dX2_start_26 (Nat.le_of_ble_eq_true rfl) (Nat.le_of_ble_eq_true rfl) (by first | rfl | (subst_vars; rfl))

set_option maxHeartbeats 1000000 in
set_option maxRecDepth 100000 in
theorem c_X4_aidToGiveBack (l : Launch) (D : va_G) (cA : Nat → ClassId) (ad : Nat → Nat) (sz : Nat) (F : FF) (a : Int32) : CI l D cA ad sz yX4_aidToGiveBack wsX4_aidToGiveBack 0 0 0 0 [.ref (ad 0), .int a] F (some (.int (bakI (F 0 7) a))) F := by
  refine CI_of (own := RX4) (cc := cX4_aidToGiveBack) (maxL := 2) (ret := (some .int)) (by decide +kernel) rfl rfl (Nat.le_of_ble_eq_true rfl) ?_
  intro p e s m below meth c ls X S hr hl
  obtain ⟨⟨hx, hb, hml, hown, hts⟩, hE, hI, hlocks⟩ := id X
  have hl : lv_has ls 2 [(0, .ref (ad 0)), (1, .int a)] := hl
  have hw4 : ∀ w ∈ wsX40, w.before _ s = true := fun w h => hts w ((by decide +kernel : ∀ w ∈ wsX40, w ∈ wsX4_aidToGiveBack) w h)
  refine lv_aload_n hx hb dX4_aidToGiveBack_0 rfl (lv_at hl 0 rfl) ?_
  refine r_geti X S hw4 ob_0 7 ⟨rfl, by decide, rfl⟩ rfl (hts (.fieldLink RX4 35 "TermBill" "week" "I") (by decide +kernel)) dX4_aidToGiveBack_1 ?_
  refine lv_bipush (v := 10) hx hb dX4_aidToGiveBack_4 (by decide) ?_
  refine lv_icmp_lt (tgt := 11) hx hb dX4_aidToGiveBack_6 (by decide) (fun c_1 => ?_) (fun c_1 => ?_)
  · refine lv_iload_n hx hb dX4_aidToGiveBack_11 rfl (lv_at hl 1 rfl) ?_
    refine lv_iload_n hx hb dX4_aidToGiveBack_12 rfl (lv_at hl 1 rfl) ?_
    refine lv_aload_n hx hb dX4_aidToGiveBack_13 rfl (lv_at hl 0 rfl) ?_
    refine r_geti X S hw4 ob_0 7 ⟨rfl, by decide, rfl⟩ rfl (hts (.fieldLink RX4 35 "TermBill" "week" "I") (by decide +kernel)) dX4_aidToGiveBack_14 ?_
    refine lv_imul hx hb dX4_aidToGiveBack_17 ?_
    refine lv_bipush (v := 16) hx hb dX4_aidToGiveBack_18 (by decide) ?_
    refine lv_idiv hx hb dX4_aidToGiveBack_20 (by decide) ?_
    refine lv_isub hx hb dX4_aidToGiveBack_21 ?_
    exact r_iret X S hr dX4_aidToGiveBack_22 (Nat.le_of_ble_eq_true rfl) (Nat.le_of_ble_eq_true rfl) (by first | rfl | (simp only [bakI, c_1, ↓reduceIte]; done) | (simp only [bakI, c_1, ↓reduceIte]; rfl) | (subst_vars; simp only [bakI, c_1, ↓reduceIte]; done) | (subst_vars; rfl)) (by first | rfl | (subst_vars; rfl))
  · refine lv_iconst (v := 0) hx hb dX4_aidToGiveBack_9 (by decide) ?_
    exact r_iret X S hr dX4_aidToGiveBack_10 (Nat.le_of_ble_eq_true rfl) (Nat.le_of_ble_eq_true rfl) (by first | rfl | (simp only [bakI, c_1, ↓reduceIte]; done) | (simp only [bakI, c_1, ↓reduceIte]; rfl) | (subst_vars; simp only [bakI, c_1, ↓reduceIte]; done) | (subst_vars; rfl)) (by first | rfl | (subst_vars; rfl))

set_option maxHeartbeats 1000000 in
set_option maxRecDepth 100000 in
theorem c_X4_carriedTo (l : Launch) (D : va_G) (cA : Nat → ClassId) (ad : Nat → Nat) (sz : Nat) (F : FF) (a b : Int32) : CI l D cA ad sz yX4_carriedTo wsX4_carriedTo 1 21 0 0 [.int a, .int b] F (some (.int (carI a b))) F := by
  refine CI_of (own := RX4) (cc := cX4_carriedTo) (maxL := 2) (ret := (some .int)) (by decide +kernel) rfl rfl (Nat.le_of_ble_eq_true rfl) ?_
  intro p e s m below meth c ls X S hr hl
  obtain ⟨⟨hx, hb, hml, hown, hts⟩, hE, hI, hlocks⟩ := id X
  have hl : lv_has ls 2 [(0, .int a), (1, .int b)] := hl
  refine lv_iload_n hx hb dX4_carriedTo_0 rfl (lv_at hl 0 rfl) ?_
  refine lv_if_le (tgt := 17) hx hb dX4_carriedTo_1 (by decide) (fun c_1 => ?_) (fun c_1 => ?_)
  · refine lv_iconst (v := 0) hx hb dX4_carriedTo_17 (by decide) ?_
    exact r_iret X S hr dX4_carriedTo_18 (Nat.le_of_ble_eq_true rfl) (Nat.le_of_ble_eq_true rfl) (by first | rfl | (simp only [carI, c_1, ↓reduceIte]; done) | (simp only [carI, c_1, ↓reduceIte]; rfl) | (subst_vars; simp only [carI, c_1, ↓reduceIte]; done) | (subst_vars; rfl)) (by first | rfl | (subst_vars; rfl))
  · refine lv_iload_n hx hb dX4_carriedTo_4 rfl (lv_at hl 1 rfl) ?_
    refine lv_if_ge (tgt := 17) hx hb dX4_carriedTo_5 (by decide) (fun c_2 => ?_) (fun c_2 => ?_)
    · refine lv_iconst (v := 0) hx hb dX4_carriedTo_17 (by decide) ?_
      exact r_iret X S hr dX4_carriedTo_18 (Nat.le_of_ble_eq_true rfl) (Nat.le_of_ble_eq_true rfl) (by first | rfl | (simp only [carI, c_1, c_2, ↓reduceIte]; done) | (simp only [carI, c_1, c_2, ↓reduceIte]; rfl) | (subst_vars; simp only [carI, c_1, c_2, ↓reduceIte]; done) | (subst_vars; rfl)) (by first | rfl | (subst_vars; rfl))
    · refine lv_iload_n hx hb dX4_carriedTo_8 rfl (lv_at hl 0 rfl) ?_
      refine lv_iload_n hx hb dX4_carriedTo_9 rfl (lv_at hl 1 rfl) ?_
      refine lv_ineg hx hb dX4_carriedTo_10 ?_
      refine r_min X hl.1 (hts (.methodLink RX4 240 Lib.Math.min.name) (by decide +kernel)) (hts (.static Lib.Math.min.name) (by decide +kernel)) (hts (.initialized "java/lang/Math") (by decide +kernel)) (hts (.code Lib.Math.min.name Lib.Math.min.code 2 (some .int)) (by decide +kernel)) (Nat.le_of_ble_eq_true rfl) (Nat.le_of_ble_eq_true rfl) (Nat.zero_le _) (Nat.zero_le _) dX4_carriedTo_11 ?_
      refine lv_goto (tgt := 18) hx hb dX4_carriedTo_14 (by decide) ?_
      exact r_iret X S hr dX4_carriedTo_18 (Nat.le_of_ble_eq_true rfl) (Nat.le_of_ble_eq_true rfl) (by first | rfl | (simp only [carI, c_1, c_2, ↓reduceIte]; done) | (simp only [carI, c_1, c_2, ↓reduceIte]; rfl) | (subst_vars; simp only [carI, c_1, c_2, ↓reduceIte]; done) | (subst_vars; rfl)) (by first | rfl | (subst_vars; rfl))

set_option maxHeartbeats 1000000 in
set_option maxRecDepth 100000 in
theorem c_X2_isLateAt (l : Launch) (D : va_G) (cA : Nat → ClassId) (ad : Nat → Nat) (sz : Nat) (F : FF) (i : Nat) (hi : i < 4) (wk : Int32) : CI l D cA ad sz yX2_isLateAt wsX2_isLateAt 0 0 0 0 [.ref (ad (4 + 8 * i + 7)), .int wk] F (some (.int (bI (lateI wk (F (4 + 8 * i + 7) 0) (F (4 + 8 * i + 7) 1) (F (4 + 8 * i + 7) 2) (F (4 + 8 * i + 7) 3) (F (4 + 8 * i + 7) 4))))) F := by
  refine CI_of (own := RX2) (cc := cX2_isLateAt) (maxL := 4) (ret := (some .boolean)) (by decide +kernel) rfl rfl (Nat.le_of_ble_eq_true rfl) ?_
  intro p e s m below meth c ls X S hr hl
  obtain ⟨⟨hx, hb, hml, hown, hts⟩, hE, hI, hlocks⟩ := id X
  have hl : lv_has ls 4 [(0, .ref (ad (4 + 8 * i + 7))), (1, .int wk)] := hl
  have hw2 : ∀ w ∈ wsX20, w.before _ s = true := fun w h => hts w ((by decide +kernel : ∀ w ∈ wsX20, w ∈ wsX2_isLateAt) w h)
  refine lv_iload_n hx hb dX2_isLateAt_0 rfl (lv_at hl 1 rfl) ?_
  refine lv_aload_n hx hb dX2_isLateAt_1 rfl (lv_at hl 0 rfl) ?_
  refine r_geti X S hw2 (ob_I i hi) 0 ⟨rfl, by decide, rfl⟩ rfl (hts (.fieldLink RX2 9 "TermBill$Instalments" "madeAt" "I") (by decide +kernel)) dX2_isLateAt_2 ?_
  refine lv_isub hx hb dX2_isLateAt_5 ?_
  refine lv_istore_n (lv' := [(2, .int (wk - (F (4 + 8 * i + 7) 0))), (0, .ref (ad (4 + 8 * i + 7))), (1, .int wk)]) hx hb dX2_isLateAt_6 rfl hl (by decide) rfl (fun ls hl => ?_)
  refine lv_iload_n hx hb dX2_isLateAt_7 rfl (lv_at hl 0 rfl) ?_
  refine lv_iconst (v := 2) hx hb dX2_isLateAt_8 (by decide) ?_
  refine lv_idiv hx hb dX2_isLateAt_9 (by decide) ?_
  refine lv_istore_n (lv' := [(3, .int ((wk - (F (4 + 8 * i + 7) 0)) / 2)), (2, .int (wk - (F (4 + 8 * i + 7) 0))), (0, .ref (ad (4 + 8 * i + 7))), (1, .int wk)]) hx hb dX2_isLateAt_10 rfl hl (by decide) rfl (fun ls hl => ?_)
  refine lv_iload_n hx hb dX2_isLateAt_11 rfl (lv_at hl 1 rfl) ?_
  refine lv_iconst (v := 2) hx hb dX2_isLateAt_12 (by decide) ?_
  refine lv_irem hx hb dX2_isLateAt_13 (by decide) ?_
  refine lv_if_ne (tgt := 30) hx hb dX2_isLateAt_14 (by decide) (fun c_1 => ?_) (fun c_1 => ?_)
  · refine lv_iconst (v := 0) hx hb dX2_isLateAt_30 (by decide) ?_
    exact r_zret X S hr rfl dX2_isLateAt_31 (Nat.le_of_ble_eq_true rfl) (Nat.le_of_ble_eq_true rfl) (by simp [lateI, bI, c_1]) rfl
  · refine lv_iload_n hx hb dX2_isLateAt_17 rfl (lv_at hl 0 rfl) ?_
    refine lv_iconst (v := 1) hx hb dX2_isLateAt_18 (by decide) ?_
    refine lv_icmp_lt (tgt := 30) hx hb dX2_isLateAt_19 (by decide) (fun c_2 => ?_) (fun c_2 => ?_)
    · refine lv_iconst (v := 0) hx hb dX2_isLateAt_30 (by decide) ?_
      exact r_zret X S hr rfl dX2_isLateAt_31 (Nat.le_of_ble_eq_true rfl) (Nat.le_of_ble_eq_true rfl) (by simp [lateI, bI, c_1, c_2]) rfl
    · refine lv_iload_n hx hb dX2_isLateAt_22 rfl (lv_at hl 0 rfl) ?_
      refine lv_aload_n hx hb dX2_isLateAt_23 rfl (lv_at hl 2 rfl) ?_
      refine r_geti X S hw2 (ob_I i hi) 1 ⟨rfl, by decide, rfl⟩ rfl (hts (.fieldLink RX2 15 "TermBill$Instalments" "many" "I") (by decide +kernel)) dX2_isLateAt_24 ?_
      refine lv_icmp_le (tgt := 32) hx hb dX2_isLateAt_27 (by decide) (fun c_3 => ?_) (fun c_3 => ?_)
      · refine lv_aload_n hx hb dX2_isLateAt_32 rfl (lv_at hl 2 rfl) ?_
        refine r_geti X S hw2 (ob_I i hi) 4 ⟨rfl, by decide, rfl⟩ rfl (hts (.fieldLink RX2 24 "TermBill$Instalments" "paidSince" "I") (by decide +kernel)) dX2_isLateAt_33 ?_
        refine lv_aload_n hx hb dX2_isLateAt_36 rfl (lv_at hl 2 rfl) ?_
        refine r_geti X S hw2 (ob_I i hi) 2 ⟨rfl, by decide, rfl⟩ rfl (hts (.fieldLink RX2 18 "TermBill$Instalments" "first" "I") (by decide +kernel)) dX2_isLateAt_37 ?_
        refine lv_aload_n hx hb dX2_isLateAt_40 rfl (lv_at hl 2 rfl) ?_
        refine r_geti X S hw2 (ob_I i hi) 3 ⟨rfl, by decide, rfl⟩ rfl (hts (.fieldLink RX2 21 "TermBill$Instalments" "each" "I") (by decide +kernel)) dX2_isLateAt_41 ?_
        refine lv_iload_n hx hb dX2_isLateAt_44 rfl (lv_at hl 0 rfl) ?_
        refine lv_iconst (v := 1) hx hb dX2_isLateAt_45 (by decide) ?_
        refine lv_isub hx hb dX2_isLateAt_46 ?_
        refine lv_imul hx hb dX2_isLateAt_47 ?_
        refine lv_iadd hx hb dX2_isLateAt_48 ?_
        refine lv_icmp_ge (tgt := 56) hx hb dX2_isLateAt_49 (by decide) (fun c_4 => ?_) (fun c_4 => ?_)
        · refine lv_iconst (v := 0) hx hb dX2_isLateAt_56 (by decide) ?_
          exact r_zret X S hr rfl dX2_isLateAt_57 (Nat.le_of_ble_eq_true rfl) (Nat.le_of_ble_eq_true rfl) (by simp [lateI, bI, c_1, c_2, c_3, c_4]) rfl
        · refine lv_iconst (v := 1) hx hb dX2_isLateAt_52 (by decide) ?_
          refine lv_goto (tgt := 57) hx hb dX2_isLateAt_53 (by decide) ?_
          exact r_zret X S hr rfl dX2_isLateAt_57 (Nat.le_of_ble_eq_true rfl) (Nat.le_of_ble_eq_true rfl) (by simp [lateI, bI, c_1, c_2, c_3, c_4]) rfl
      · refine lv_iconst (v := 0) hx hb dX2_isLateAt_30 (by decide) ?_
        exact r_zret X S hr rfl dX2_isLateAt_31 (Nat.le_of_ble_eq_true rfl) (Nat.le_of_ble_eq_true rfl) (by simp [lateI, bI, c_1, c_2, c_3]) rfl

set_option maxHeartbeats 1000000 in
set_option maxRecDepth 100000 in
theorem c_J7_fill_53178 (l : Launch) (D : va_G) (cA : Nat → ClassId) (ad : Nat → Nat) (sz : Nat) (F : FF) (k n : Nat) (ha : Ar k 1 n) (hn : n ≤ 64) (v : Int32) : CI l D cA ad sz yJ7_fill_53178 wsJ7_fill_53178 0 0 0 0 [.ref (ad k), .int v] F none (uF F k n v) := by
  refine CI_of (own := RJ7) (cc := cJ7_fill_53178) (maxL := 4) (ret := none) (by decide +kernel) rfl rfl (Nat.le_of_ble_eq_true rfl) ?_
  intro p e s m below meth c ls X S hr hl
  obtain ⟨⟨hx, hb, hml, hown, hts⟩, hE, hI, hlocks⟩ := id X
  have hl : lv_has ls 4 [(0, .ref (ad k)), (1, .int v)] := hl
  have loop : ∀ (d j : Nat), j + d = n → ∀ (H : Heap) (locs : List Loc) (ls : Array Slot), St D cA ad (uF F k j v) s.heap H locs → lv_has ls 4 [(0, .ref (ad k)), (1, .int v), (2, .int (nI j)), (3, .int (nI n))] → W p l e (RM 0 0 0 0) s m [.ref (ad k), .int v].toArray below meth c H locs 0 0 (MQ below (CQ D cA ad s.heap.size (uF F k n v) none) [.ref (ad k), .int v].toArray s 0 0 (AA ad s.heap.size)) (F0 m 5 ls []) := by
    intro d
    induction d with
    | zero =>
      intro j hj H locs ls S hl
      obtain rfl : j = n := by omega
      refine lv_iload_n hx hb dJ7_fill_53178_5 rfl (lv_at hl 2 rfl) ?_
      refine lv_iload_n hx hb dJ7_fill_53178_6 rfl (lv_at hl 3 rfl) ?_
      refine lv_icmp_ge (tgt := 20) hx hb dJ7_fill_53178_7 (by decide) (fun _ => ?_) (fun z => False.elim (z (Int32.le_refl _)))
      exact r_vret X S hr dJ7_fill_53178_20 (Nat.le_of_ble_eq_true rfl) (Nat.le_of_ble_eq_true rfl) rfl
    | succ d ih =>
      intro j hj H locs ls S hl
      refine lv_iload_n hx hb dJ7_fill_53178_5 rfl (lv_at hl 2 rfl) ?_
      refine lv_iload_n hx hb dJ7_fill_53178_6 rfl (lv_at hl 3 rfl) ?_
      refine lv_icmp_ge (tgt := 20) hx hb dJ7_fill_53178_7 (by decide) (fun z => False.elim (nI_ge (a := j) (b := n) (by omega) (by omega) z)) (fun _ => ?_)
      refine lv_aload_n hx hb dJ7_fill_53178_10 rfl (lv_at hl 0 rfl) ?_
      refine lv_iload_n hx hb dJ7_fill_53178_11 rfl (lv_at hl 2 rfl) ?_
      refine lv_iload_n hx hb dJ7_fill_53178_12 rfl (lv_at hl 1 rfl) ?_
      refine r_iasN X S ha (q := j) rfl (by omega) hn dJ7_fill_53178_13 (fun H locs S => ?_)
      rw [uF_s] at S
      refine lv_iinc (v := nI (j + 1)) (lv' := [(2, .int (nI (j + 1))), (0, .ref (ad k)), (1, .int v), (3, .int (nI n))]) hx hb dJ7_fill_53178_14 hl (k := 2) rfl (nI_add _ _) (by decide) rfl (fun ls hl => ?_)
      refine lv_goto (tgt := 5) hx hb dJ7_fill_53178_17 (by decide) ?_
      exact ih (j + 1) (by omega) H locs ls S (lv_sub hl [1, 2, 0, 3] rfl)
  refine lv_iconst (v := 0) hx hb dJ7_fill_53178_0 (by decide) ?_
  refine lv_istore_n (lv' := [(2, .int 0), (0, .ref (ad k)), (1, .int v)]) hx hb dJ7_fill_53178_1 rfl hl (by decide) rfl (fun ls hl => ?_)
  refine lv_aload_n hx hb dJ7_fill_53178_2 rfl (lv_at hl 1 rfl) ?_
  refine r_leni X S ha (v := nI n) rfl dJ7_fill_53178_3 ?_
  refine lv_istore_n (lv' := [(3, .int (nI n)), (2, .int 0), (0, .ref (ad k)), (1, .int v)]) hx hb dJ7_fill_53178_4 rfl hl (by decide) rfl (fun ls hl => ?_)
  refine loop n 0 (by omega) _ _ ls (by rw [uF_0]; exact S) (lv_sub hl [2, 3, 1, 0] (by rw [nI_0]; rfl))

set_option maxHeartbeats 1000000 in
set_option maxRecDepth 100000 in
theorem c_X1_clear (l : Launch) (D : va_G) (cA : Nat → ClassId) (ad : Nat → Nat) (sz : Nat) (F : FF) (i : Nat) (hi : i < 4) : CI l D cA ad sz yX1_clear wsX1_clear 1 23 0 0 [.ref (ad (4 + 8 * i + 1))] F none (u2 (u2 (uF F (4 + 8 * i + 2) 8 0) (4 + 8 * i + 1) 1 0) (4 + 8 * i + 1) 2 0) := by
  refine CI_of (own := RX1) (cc := cX1_clear) (maxL := 1) (ret := none) (by decide +kernel) rfl rfl (Nat.le_of_ble_eq_true rfl) ?_
  intro p e s m below meth c ls X S hr hl
  obtain ⟨⟨hx, hb, hml, hown, hts⟩, hE, hI, hlocks⟩ := id X
  have hl : lv_has ls 1 [(0, .ref (ad (4 + 8 * i + 1)))] := hl
  have hw1 : ∀ w ∈ wsX10, w.before _ s = true := fun w h => hts w ((by decide +kernel : ∀ w ∈ wsX10, w ∈ wsX1_clear) w h)
  refine lv_aload_n hx hb dX1_clear_0 rfl (lv_at hl 0 rfl) ?_
  refine r_getr (q := 4 + 8 * i + 2) X S hw1 (ob_C i hi) 0 ⟨rfl, by decide, rfl⟩ rfl (hts (.fieldLink RX1 9 "TermBill$Courses" "creditsByCourse" "[I") (by decide +kernel)) dX1_clear_1 ?_
  refine lv_iconst (v := 0) hx hb dX1_clear_4 (by decide) ?_
  refine r_S0 X S (c_J7_fill_53178 l D cA ad _ F (4 + 8 * i + 2) 8 (ar_C i hi) (by decide) 0) (va_cwS 2 hts gX1_clear_J7_fill_53178 rfl rfl rfl (by decide +kernel) ⟨Nat.le_of_ble_eq_true rfl, Nat.le_of_ble_eq_true rfl⟩) rfl hl.1 rfl (Nat.le_of_ble_eq_true rfl) dX1_clear_5 ⟨Nat.zero_le _, Nat.zero_le _⟩ (fun H locs S => ?_)
  obtain ⟨F_1, eF_1⟩ : ∃ z, z = uF F (4 + 8 * i + 2) 8 0 := ⟨_, rfl⟩
  rw [← eF_1] at S
  refine lv_aload_n hx hb dX1_clear_8 rfl (lv_at hl 0 rfl) ?_
  refine lv_iconst (v := 0) hx hb dX1_clear_9 (by decide) ?_
  refine r_puti X S hw1 (ob_C i hi) 1 ⟨rfl, by decide, rfl⟩ rfl (hts (.fieldLink RX1 15 "TermBill$Courses" "taken" "I") (by decide +kernel)) tyX1 tyX1_ok nmX1 rfl rfl dX1_clear_10 (fun H locs S => ?_)
  obtain ⟨F_2, eF_2⟩ : ∃ z, z = u2 F_1 (4 + 8 * i + 1) 1 0 := ⟨_, rfl⟩
  rw [← eF_2] at S
  refine lv_aload_n hx hb dX1_clear_13 rfl (lv_at hl 0 rfl) ?_
  refine lv_iconst (v := 0) hx hb dX1_clear_14 (by decide) ?_
  refine r_puti X S hw1 (ob_C i hi) 2 ⟨rfl, by decide, rfl⟩ rfl (hts (.fieldLink RX1 19 "TermBill$Courses" "keptSum" "I") (by decide +kernel)) tyX1 tyX1_ok nmX1 rfl rfl dX1_clear_15 (fun H locs S => ?_)
  obtain ⟨F_3, eF_3⟩ : ∃ z, z = u2 F_2 (4 + 8 * i + 1) 2 0 := ⟨_, rfl⟩
  rw [← eF_3] at S
  exact r_vret X S hr dX1_clear_18 (Nat.le_of_ble_eq_true rfl) (Nat.le_of_ble_eq_true rfl) (by first | rfl | (subst_vars; rfl))

set_option maxHeartbeats 1000000 in
set_option maxRecDepth 100000 in
theorem c_X0_clear (l : Launch) (D : va_G) (cA : Nat → ClassId) (ad : Nat → Nat) (sz : Nat) (F : FF) (i : Nat) (hi : i < 4) : CI l D cA ad sz yX0_clear wsX0_clear 1 23 0 0 [.ref (ad (4 + 8 * i + 3))] F none (u2 (uF F (4 + 8 * i + 5) 6 0) (4 + 8 * i + 3) 3 0) := by
  refine CI_of (own := RX0) (cc := cX0_clear) (maxL := 1) (ret := none) (by decide +kernel) rfl rfl (Nat.le_of_ble_eq_true rfl) ?_
  intro p e s m below meth c ls X S hr hl
  obtain ⟨⟨hx, hb, hml, hown, hts⟩, hE, hI, hlocks⟩ := id X
  have hl : lv_has ls 1 [(0, .ref (ad (4 + 8 * i + 3)))] := hl
  have hw0 : ∀ w ∈ wsX00, w.before _ s = true := fun w h => hts w ((by decide +kernel : ∀ w ∈ wsX00, w ∈ wsX0_clear) w h)
  refine lv_aload_n hx hb dX0_clear_0 rfl (lv_at hl 0 rfl) ?_
  refine r_getr (q := 4 + 8 * i + 5) X S hw0 (ob_A i hi) 1 ⟨rfl, by decide, rfl⟩ rfl (hts (.fieldLink RX0 15 "TermBill$Aid" "amounts" "[I") (by decide +kernel)) dX0_clear_1 ?_
  refine lv_iconst (v := 0) hx hb dX0_clear_4 (by decide) ?_
  refine r_S0 X S (c_J7_fill_53178 l D cA ad _ F (4 + 8 * i + 5) 6 (ar_M i hi) (by decide) 0) (va_cwS 2 hts gX0_clear_J7_fill_53178 rfl rfl rfl (by decide +kernel) ⟨Nat.le_of_ble_eq_true rfl, Nat.le_of_ble_eq_true rfl⟩) rfl hl.1 rfl (Nat.le_of_ble_eq_true rfl) dX0_clear_5 ⟨Nat.zero_le _, Nat.zero_le _⟩ (fun H locs S => ?_)
  obtain ⟨F_1, eF_1⟩ : ∃ z, z = uF F (4 + 8 * i + 5) 6 0 := ⟨_, rfl⟩
  rw [← eF_1] at S
  refine lv_aload_n hx hb dX0_clear_8 rfl (lv_at hl 0 rfl) ?_
  refine lv_iconst (v := 0) hx hb dX0_clear_9 (by decide) ?_
  refine r_puti X S hw0 (ob_A i hi) 3 ⟨rfl, by decide, rfl⟩ rfl (hts (.fieldLink RX0 21 "TermBill$Aid" "many" "I") (by decide +kernel)) tyX0 tyX0_ok nmX0 rfl rfl dX0_clear_10 (fun H locs S => ?_)
  obtain ⟨F_2, eF_2⟩ : ∃ z, z = u2 F_1 (4 + 8 * i + 3) 3 0 := ⟨_, rfl⟩
  rw [← eF_2] at S
  exact r_vret X S hr dX0_clear_13 (Nat.le_of_ble_eq_true rfl) (Nat.le_of_ble_eq_true rfl) (by first | rfl | (subst_vars; rfl))

set_option maxHeartbeats 1000000 in
set_option maxRecDepth 100000 in
theorem c_X0_total (l : Launch) (D : va_G) (cA : Nat → ClassId) (ad : Nat → Nat) (sz : Nat) (F : FF) (i : Nat) (hi : i < 4) : CI l D cA ad sz yX0_total wsX0_total 0 0 0 0 [.ref (ad (4 + 8 * i + 3))] F (some (.int (tot6 (F (4 + 8 * i + 5))))) F := by
  refine CI_of (own := RX0) (cc := cX0_total) (maxL := 3) (ret := (some .int)) (by decide +kernel) rfl rfl (Nat.le_of_ble_eq_true rfl) ?_
  intro p e s m below meth c ls X S hr hl
  obtain ⟨⟨hx, hb, hml, hown, hts⟩, hE, hI, hlocks⟩ := id X
  have hl : lv_has ls 3 [(0, .ref (ad (4 + 8 * i + 3)))] := hl
  have hw0 : ∀ w ∈ wsX00, w.before _ s = true := fun w h => hts w ((by decide +kernel : ∀ w ∈ wsX00, w ∈ wsX0_total) w h)
  refine lv_iconst (v := 0) hx hb dX0_total_0 (by decide) ?_
  refine lv_istore_n (lv' := [(1, .int 0), (0, .ref (ad (4 + 8 * i + 3)))]) hx hb dX0_total_1 rfl hl (by decide) rfl (fun ls hl => ?_)
  refine lv_iconst (v := 0) hx hb dX0_total_2 (by decide) ?_
  refine lv_istore_n (lv' := [(2, .int 0), (1, .int 0), (0, .ref (ad (4 + 8 * i + 3)))]) hx hb dX0_total_3 rfl hl (by decide) rfl (fun ls hl => ?_)
  refine lv_iload_n hx hb dX0_total_4 rfl (lv_at hl 0 rfl) ?_
  refine lv_aload_n hx hb dX0_total_5 rfl (lv_at hl 2 rfl) ?_
  refine r_getr (q := 4 + 8 * i + 5) X S hw0 (ob_A i hi) 1 ⟨rfl, by decide, rfl⟩ rfl (hts (.fieldLink RX0 15 "TermBill$Aid" "amounts" "[I") (by decide +kernel)) dX0_total_6 ?_
  refine r_leni X S (ar_M i hi) (v := 6) rfl dX0_total_9 ?_
  refine lv_icmp_ge (tgt := 28) hx hb dX0_total_10 (by decide) (fun z => False.elim (by first | exact absurd z (by decide) | exact absurd (by decide) z)) (fun _ => ?_)
  refine lv_iload_n hx hb dX0_total_13 rfl (lv_at hl 1 rfl) ?_
  refine lv_aload_n hx hb dX0_total_14 rfl (lv_at hl 2 rfl) ?_
  refine r_getr (q := 4 + 8 * i + 5) X S hw0 (ob_A i hi) 1 ⟨rfl, by decide, rfl⟩ rfl (hts (.fieldLink RX0 15 "TermBill$Aid" "amounts" "[I") (by decide +kernel)) dX0_total_15 ?_
  refine lv_iload_n hx hb dX0_total_18 rfl (lv_at hl 0 rfl) ?_
  refine r_ialN X S (ar_M i hi) (q := 0) (by decide) (by omega) (by decide) dX0_total_19 ?_
  refine lv_iadd hx hb dX0_total_20 ?_
  refine lv_istore_n (lv' := [(1, .int (0 + (F (4 + 8 * i + 5) 0))), (2, .int 0), (0, .ref (ad (4 + 8 * i + 3)))]) hx hb dX0_total_21 rfl hl (by decide) rfl (fun ls hl => ?_)
  refine lv_iinc (v := 1) (lv' := [(2, .int 1), (1, .int (0 + (F (4 + 8 * i + 5) 0))), (0, .ref (ad (4 + 8 * i + 3)))]) hx hb dX0_total_22 hl (k := 1) rfl (by decide) (by decide) rfl (fun ls hl => ?_)
  refine lv_goto (tgt := 4) hx hb dX0_total_25 (by decide) ?_
  refine lv_iload_n hx hb dX0_total_4 rfl (lv_at hl 0 rfl) ?_
  refine lv_aload_n hx hb dX0_total_5 rfl (lv_at hl 2 rfl) ?_
  refine r_getr (q := 4 + 8 * i + 5) X S hw0 (ob_A i hi) 1 ⟨rfl, by decide, rfl⟩ rfl (hts (.fieldLink RX0 15 "TermBill$Aid" "amounts" "[I") (by decide +kernel)) dX0_total_6 ?_
  refine r_leni X S (ar_M i hi) (v := 6) rfl dX0_total_9 ?_
  refine lv_icmp_ge (tgt := 28) hx hb dX0_total_10 (by decide) (fun z => False.elim (by first | exact absurd z (by decide) | exact absurd (by decide) z)) (fun _ => ?_)
  refine lv_iload_n hx hb dX0_total_13 rfl (lv_at hl 1 rfl) ?_
  refine lv_aload_n hx hb dX0_total_14 rfl (lv_at hl 2 rfl) ?_
  refine r_getr (q := 4 + 8 * i + 5) X S hw0 (ob_A i hi) 1 ⟨rfl, by decide, rfl⟩ rfl (hts (.fieldLink RX0 15 "TermBill$Aid" "amounts" "[I") (by decide +kernel)) dX0_total_15 ?_
  refine lv_iload_n hx hb dX0_total_18 rfl (lv_at hl 0 rfl) ?_
  refine r_ialN X S (ar_M i hi) (q := 1) (by decide) (by omega) (by decide) dX0_total_19 ?_
  refine lv_iadd hx hb dX0_total_20 ?_
  refine lv_istore_n (lv' := [(1, .int ((0 + (F (4 + 8 * i + 5) 0)) + (F (4 + 8 * i + 5) 1))), (2, .int 1), (0, .ref (ad (4 + 8 * i + 3)))]) hx hb dX0_total_21 rfl hl (by decide) rfl (fun ls hl => ?_)
  refine lv_iinc (v := 2) (lv' := [(2, .int 2), (1, .int ((0 + (F (4 + 8 * i + 5) 0)) + (F (4 + 8 * i + 5) 1))), (0, .ref (ad (4 + 8 * i + 3)))]) hx hb dX0_total_22 hl (k := 1) rfl (by decide) (by decide) rfl (fun ls hl => ?_)
  refine lv_goto (tgt := 4) hx hb dX0_total_25 (by decide) ?_
  refine lv_iload_n hx hb dX0_total_4 rfl (lv_at hl 0 rfl) ?_
  refine lv_aload_n hx hb dX0_total_5 rfl (lv_at hl 2 rfl) ?_
  refine r_getr (q := 4 + 8 * i + 5) X S hw0 (ob_A i hi) 1 ⟨rfl, by decide, rfl⟩ rfl (hts (.fieldLink RX0 15 "TermBill$Aid" "amounts" "[I") (by decide +kernel)) dX0_total_6 ?_
  refine r_leni X S (ar_M i hi) (v := 6) rfl dX0_total_9 ?_
  refine lv_icmp_ge (tgt := 28) hx hb dX0_total_10 (by decide) (fun z => False.elim (by first | exact absurd z (by decide) | exact absurd (by decide) z)) (fun _ => ?_)
  refine lv_iload_n hx hb dX0_total_13 rfl (lv_at hl 1 rfl) ?_
  refine lv_aload_n hx hb dX0_total_14 rfl (lv_at hl 2 rfl) ?_
  refine r_getr (q := 4 + 8 * i + 5) X S hw0 (ob_A i hi) 1 ⟨rfl, by decide, rfl⟩ rfl (hts (.fieldLink RX0 15 "TermBill$Aid" "amounts" "[I") (by decide +kernel)) dX0_total_15 ?_
  refine lv_iload_n hx hb dX0_total_18 rfl (lv_at hl 0 rfl) ?_
  refine r_ialN X S (ar_M i hi) (q := 2) (by decide) (by omega) (by decide) dX0_total_19 ?_
  refine lv_iadd hx hb dX0_total_20 ?_
  refine lv_istore_n (lv' := [(1, .int (((0 + (F (4 + 8 * i + 5) 0)) + (F (4 + 8 * i + 5) 1)) + (F (4 + 8 * i + 5) 2))), (2, .int 2), (0, .ref (ad (4 + 8 * i + 3)))]) hx hb dX0_total_21 rfl hl (by decide) rfl (fun ls hl => ?_)
  refine lv_iinc (v := 3) (lv' := [(2, .int 3), (1, .int (((0 + (F (4 + 8 * i + 5) 0)) + (F (4 + 8 * i + 5) 1)) + (F (4 + 8 * i + 5) 2))), (0, .ref (ad (4 + 8 * i + 3)))]) hx hb dX0_total_22 hl (k := 1) rfl (by decide) (by decide) rfl (fun ls hl => ?_)
  refine lv_goto (tgt := 4) hx hb dX0_total_25 (by decide) ?_
  refine lv_iload_n hx hb dX0_total_4 rfl (lv_at hl 0 rfl) ?_
  refine lv_aload_n hx hb dX0_total_5 rfl (lv_at hl 2 rfl) ?_
  refine r_getr (q := 4 + 8 * i + 5) X S hw0 (ob_A i hi) 1 ⟨rfl, by decide, rfl⟩ rfl (hts (.fieldLink RX0 15 "TermBill$Aid" "amounts" "[I") (by decide +kernel)) dX0_total_6 ?_
  refine r_leni X S (ar_M i hi) (v := 6) rfl dX0_total_9 ?_
  refine lv_icmp_ge (tgt := 28) hx hb dX0_total_10 (by decide) (fun z => False.elim (by first | exact absurd z (by decide) | exact absurd (by decide) z)) (fun _ => ?_)
  refine lv_iload_n hx hb dX0_total_13 rfl (lv_at hl 1 rfl) ?_
  refine lv_aload_n hx hb dX0_total_14 rfl (lv_at hl 2 rfl) ?_
  refine r_getr (q := 4 + 8 * i + 5) X S hw0 (ob_A i hi) 1 ⟨rfl, by decide, rfl⟩ rfl (hts (.fieldLink RX0 15 "TermBill$Aid" "amounts" "[I") (by decide +kernel)) dX0_total_15 ?_
  refine lv_iload_n hx hb dX0_total_18 rfl (lv_at hl 0 rfl) ?_
  refine r_ialN X S (ar_M i hi) (q := 3) (by decide) (by omega) (by decide) dX0_total_19 ?_
  refine lv_iadd hx hb dX0_total_20 ?_
  refine lv_istore_n (lv' := [(1, .int ((((0 + (F (4 + 8 * i + 5) 0)) + (F (4 + 8 * i + 5) 1)) + (F (4 + 8 * i + 5) 2)) + (F (4 + 8 * i + 5) 3))), (2, .int 3), (0, .ref (ad (4 + 8 * i + 3)))]) hx hb dX0_total_21 rfl hl (by decide) rfl (fun ls hl => ?_)
  refine lv_iinc (v := 4) (lv' := [(2, .int 4), (1, .int ((((0 + (F (4 + 8 * i + 5) 0)) + (F (4 + 8 * i + 5) 1)) + (F (4 + 8 * i + 5) 2)) + (F (4 + 8 * i + 5) 3))), (0, .ref (ad (4 + 8 * i + 3)))]) hx hb dX0_total_22 hl (k := 1) rfl (by decide) (by decide) rfl (fun ls hl => ?_)
  refine lv_goto (tgt := 4) hx hb dX0_total_25 (by decide) ?_
  refine lv_iload_n hx hb dX0_total_4 rfl (lv_at hl 0 rfl) ?_
  refine lv_aload_n hx hb dX0_total_5 rfl (lv_at hl 2 rfl) ?_
  refine r_getr (q := 4 + 8 * i + 5) X S hw0 (ob_A i hi) 1 ⟨rfl, by decide, rfl⟩ rfl (hts (.fieldLink RX0 15 "TermBill$Aid" "amounts" "[I") (by decide +kernel)) dX0_total_6 ?_
  refine r_leni X S (ar_M i hi) (v := 6) rfl dX0_total_9 ?_
  refine lv_icmp_ge (tgt := 28) hx hb dX0_total_10 (by decide) (fun z => False.elim (by first | exact absurd z (by decide) | exact absurd (by decide) z)) (fun _ => ?_)
  refine lv_iload_n hx hb dX0_total_13 rfl (lv_at hl 1 rfl) ?_
  refine lv_aload_n hx hb dX0_total_14 rfl (lv_at hl 2 rfl) ?_
  refine r_getr (q := 4 + 8 * i + 5) X S hw0 (ob_A i hi) 1 ⟨rfl, by decide, rfl⟩ rfl (hts (.fieldLink RX0 15 "TermBill$Aid" "amounts" "[I") (by decide +kernel)) dX0_total_15 ?_
  refine lv_iload_n hx hb dX0_total_18 rfl (lv_at hl 0 rfl) ?_
  refine r_ialN X S (ar_M i hi) (q := 4) (by decide) (by omega) (by decide) dX0_total_19 ?_
  refine lv_iadd hx hb dX0_total_20 ?_
  refine lv_istore_n (lv' := [(1, .int (((((0 + (F (4 + 8 * i + 5) 0)) + (F (4 + 8 * i + 5) 1)) + (F (4 + 8 * i + 5) 2)) + (F (4 + 8 * i + 5) 3)) + (F (4 + 8 * i + 5) 4))), (2, .int 4), (0, .ref (ad (4 + 8 * i + 3)))]) hx hb dX0_total_21 rfl hl (by decide) rfl (fun ls hl => ?_)
  refine lv_iinc (v := 5) (lv' := [(2, .int 5), (1, .int (((((0 + (F (4 + 8 * i + 5) 0)) + (F (4 + 8 * i + 5) 1)) + (F (4 + 8 * i + 5) 2)) + (F (4 + 8 * i + 5) 3)) + (F (4 + 8 * i + 5) 4))), (0, .ref (ad (4 + 8 * i + 3)))]) hx hb dX0_total_22 hl (k := 1) rfl (by decide) (by decide) rfl (fun ls hl => ?_)
  refine lv_goto (tgt := 4) hx hb dX0_total_25 (by decide) ?_
  refine lv_iload_n hx hb dX0_total_4 rfl (lv_at hl 0 rfl) ?_
  refine lv_aload_n hx hb dX0_total_5 rfl (lv_at hl 2 rfl) ?_
  refine r_getr (q := 4 + 8 * i + 5) X S hw0 (ob_A i hi) 1 ⟨rfl, by decide, rfl⟩ rfl (hts (.fieldLink RX0 15 "TermBill$Aid" "amounts" "[I") (by decide +kernel)) dX0_total_6 ?_
  refine r_leni X S (ar_M i hi) (v := 6) rfl dX0_total_9 ?_
  refine lv_icmp_ge (tgt := 28) hx hb dX0_total_10 (by decide) (fun z => False.elim (by first | exact absurd z (by decide) | exact absurd (by decide) z)) (fun _ => ?_)
  refine lv_iload_n hx hb dX0_total_13 rfl (lv_at hl 1 rfl) ?_
  refine lv_aload_n hx hb dX0_total_14 rfl (lv_at hl 2 rfl) ?_
  refine r_getr (q := 4 + 8 * i + 5) X S hw0 (ob_A i hi) 1 ⟨rfl, by decide, rfl⟩ rfl (hts (.fieldLink RX0 15 "TermBill$Aid" "amounts" "[I") (by decide +kernel)) dX0_total_15 ?_
  refine lv_iload_n hx hb dX0_total_18 rfl (lv_at hl 0 rfl) ?_
  refine r_ialN X S (ar_M i hi) (q := 5) (by decide) (by omega) (by decide) dX0_total_19 ?_
  refine lv_iadd hx hb dX0_total_20 ?_
  refine lv_istore_n (lv' := [(1, .int ((((((0 + (F (4 + 8 * i + 5) 0)) + (F (4 + 8 * i + 5) 1)) + (F (4 + 8 * i + 5) 2)) + (F (4 + 8 * i + 5) 3)) + (F (4 + 8 * i + 5) 4)) + (F (4 + 8 * i + 5) 5))), (2, .int 5), (0, .ref (ad (4 + 8 * i + 3)))]) hx hb dX0_total_21 rfl hl (by decide) rfl (fun ls hl => ?_)
  refine lv_iinc (v := 6) (lv' := [(2, .int 6), (1, .int ((((((0 + (F (4 + 8 * i + 5) 0)) + (F (4 + 8 * i + 5) 1)) + (F (4 + 8 * i + 5) 2)) + (F (4 + 8 * i + 5) 3)) + (F (4 + 8 * i + 5) 4)) + (F (4 + 8 * i + 5) 5))), (0, .ref (ad (4 + 8 * i + 3)))]) hx hb dX0_total_22 hl (k := 1) rfl (by decide) (by decide) rfl (fun ls hl => ?_)
  refine lv_goto (tgt := 4) hx hb dX0_total_25 (by decide) ?_
  refine lv_iload_n hx hb dX0_total_4 rfl (lv_at hl 0 rfl) ?_
  refine lv_aload_n hx hb dX0_total_5 rfl (lv_at hl 2 rfl) ?_
  refine r_getr (q := 4 + 8 * i + 5) X S hw0 (ob_A i hi) 1 ⟨rfl, by decide, rfl⟩ rfl (hts (.fieldLink RX0 15 "TermBill$Aid" "amounts" "[I") (by decide +kernel)) dX0_total_6 ?_
  refine r_leni X S (ar_M i hi) (v := 6) rfl dX0_total_9 ?_
  refine lv_icmp_ge (tgt := 28) hx hb dX0_total_10 (by decide) (fun _ => ?_) (fun z => False.elim (by first | exact absurd z (by decide) | exact absurd (by decide) z))
  refine lv_iload_n hx hb dX0_total_28 rfl (lv_at hl 1 rfl) ?_
  exact r_iret X S hr dX0_total_29 (Nat.le_of_ble_eq_true rfl) (Nat.le_of_ble_eq_true rfl) rfl rfl
