/-! what the middle methods of the landed program answer; i is the student's number -/
def rtC (F : FF) (i : Nat) : Int32 := F 2 (plc (F (4 + 8 * i) 3) (F (4 + 8 * i) 4))
def tuC (F : FF) (i : Nat) : Int32 := pcl (F 0 3) (F 0 4) (tot8 (F (4 + 8 * i + 2))) (rtC F i) + F (4 + 8 * i + 1) 2
def ch1 (ks tu : Int32) : Int32 := if ks &&& 1 = 0 then 0 else 0 + tu
def ch2 (ks tu fe : Int32) : Int32 := if ks &&& 2 = 0 then ch1 ks tu else ch1 ks tu + fe
def ch3 (ks tu fe ho : Int32) : Int32 := if ks &&& 4 = 0 then ch2 ks tu fe else ch2 ks tu fe + ho
def chC (F : FF) (i : Nat) (ks : Int32) : Int32 := ch3 ks (tuC F i) (F (4 + 8 * i) 6) (F (4 + 8 * i) 7)
def spC (F : FF) (i : Nat) : Int32 := mn (chC F i (F (4 + 8 * i) 8)) (F (4 + 8 * i) 9)
def unC (F : FF) (i : Nat) : Int32 := chC F i 7 - spC F i
abbrev TC : Type := FF × Int32 × Int32
def cvU (i : Nat) (r : Int32) (j : Nat) (s : TC) : Int32 := mn (s.1 (4 + 8 * i + 5) j) (if r = 0 then mn s.2.1 s.2.2 else s.2.1)
def cvT (i : Nat) (r : Int32) (j : Nat) (s : TC) : TC := if s.1 (4 + 8 * i + 4) j = r then (u2 s.1 (4 + 8 * i + 6) j (cvU i r j s), s.2.1 - cvU i r j s, s.2.2 - (if r = 0 then cvU i r j s else 0)) else s
def cvR (i : Nat) (r : Int32) : Nat → TC → TC
  | 0, s => s
  | j + 1, s => cvT i r j (cvR i r j s)
def cvA (i : Nat) (s : TC) : TC := cvR i 2 6 (cvR i 1 6 (cvR i 0 6 s))
def balF (F : FF) (i : Nat) : FF := (cvA i (F, unC F i, F (4 + 8 * i) 5)).1
def balV (F : FF) (i : Nat) : Int32 := unC F i - (unC F i - (cvA i (F, unC F i, F (4 + 8 * i) 5)).2.1) - balF F i (4 + 8 * i) 10
abbrev TO : Type := FF × Int32
def toU (i : Nat) (j : Nat) (s : TO) : Int32 := mn (s.1 (4 + 8 * i + 5) j) s.2
def toT (i : Nat) (r : Int32) (j : Nat) (s : TO) : TO := if s.1 (4 + 8 * i + 4) j = r then (u2 s.1 (4 + 8 * i + 5) j (s.1 (4 + 8 * i + 5) j - toU i j s), s.2 - toU i j s) else s
def toR (i : Nat) (r : Int32) : Nat → TO → TO
  | 0, s => s
  | j + 1, s => toT i r j (toR i r j s)
def toA (i : Nat) (s : TO) : TO := toR i 0 6 (toR i 1 6 (toR i 2 6 s))
def bgT (F : FF) (i : Nat) (b : Int32) : FF := u2 (u2 (u2 (u2 (u2 (u2 (uF (u2 (u2 (uF F (4 + 8 * i + 2) 8 0) (4 + 8 * i + 1) 1 0) (4 + 8 * i + 1) 2 0) (4 + 8 * i + 5) 6 0) (4 + 8 * i + 3) 3 0) (4 + 8 * i) 8 0) (4 + 8 * i) 9 0) (4 + 8 * i) 7 0) (4 + 8 * i) 6 (mx b 0)) (4 + 8 * i) 10 (mx (-b) 0)
def dr0 (F : FF) (i j : Nat) : FF := u2 F (4 + 8 * i + 2) j 0
def drK (F : FF) (i j w : Nat) : Int32 := (pcl (F 0 3) (F 0 4) (tot8 (F (4 + 8 * i + 2))) (rtC F i) - pcl (dr0 F i j 0 3) (dr0 F i j 0 4) (tot8 (dr0 F i j (4 + 8 * i + 2))) (rtC F i)) * dr0 F i j 3 w / 100
def drF (F : FF) (i j w : Nat) : FF := u2 (dr0 F i j) (4 + 8 * i + 1) 2 (dr0 F i j (4 + 8 * i + 1) 2 + drK F i j w)
def enP (F : FF) (i k : Nat) : FF := bgT (bgT (balF (balF F i) k) i (balV F i - (carI (balV F i) (balV (balF F i) k) - carI (balV (balF F i) k) (balV F i)))) k (balV (balF F i) k + (carI (balV F i) (balV (balF F i) k) - carI (balV (balF F i) k) (balV F i)))
def lfC (F : FF) (i : Nat) : Bool := lateI (F 0 8 * 16 + F 0 7) (F (4 + 8 * i + 7) 0) (F (4 + 8 * i + 7) 1) (F (4 + 8 * i + 7) 2) (F (4 + 8 * i + 7) 3) (F (4 + 8 * i + 7) 4)
def clS (F : FF) (i : Nat) : FF := if lfC F i = true then u2 F (4 + 8 * i) 6 (F (4 + 8 * i) 6 + F 0 5) else F
def clA (F : FF) : Nat → FF
  | 0 => F
  | i + 1 => clS (clA F i) i
set_option maxHeartbeats 4000000 in
set_option maxRecDepth 100000 in
theorem c_X3_beginTerm (l : Launch) (D : va_G) (cA : Nat → ClassId) (ad : Nat → Nat) (sz : Nat) (F : FF) (i : Nat) (hi : i < 4) (b : Int32) : CI l D cA ad sz yX3_beginTerm wsX3_beginTerm 2 43 0 0 [.ref (ad (4 + 8 * i)), .int b] F none (bgT F i b) := by
  refine CI_of (own := RX3) (cc := cX3_beginTerm) (maxL := 2) (ret := none) (by decide +kernel) rfl rfl (Nat.le_of_ble_eq_true rfl) ?_
  intro p e s m below meth c ls X S hr hl
  obtain ⟨⟨hx, hb, hml, hown, hts⟩, hE, hI, hlocks⟩ := id X
  have hl : lv_has ls 2 [(0, .ref (ad (4 + 8 * i))), (1, .int b)] := hl
  have hw3 : ∀ w ∈ wsX30, w.before _ s = true := fun w h => hts w ((by decide +kernel : ∀ w ∈ wsX30, w ∈ wsX3_beginTerm) w h)
  refine lv_aload_n hx hb dX3_beginTerm_0 rfl (lv_at hl 0 rfl) ?_
  refine r_getr (q := 4 + 8 * i + 1) X S hw3 (ob_S i hi) 0 ⟨rfl, by decide, rfl⟩ rfl (hts (.fieldLink RX3 10 "TermBill$Student" "courses" "LTermBill$Courses;") (by decide +kernel)) dX3_beginTerm_1 ?_
  refine r_V0 X S (c_X1_clear l D cA ad _ F i hi) (ob_C i hi) rfl (cwV 0 hts gX3_beginTerm_X1_clear rfl rfl rfl (by decide +kernel) ⟨Nat.le_of_ble_eq_true rfl, Nat.le_of_ble_eq_true rfl⟩) rfl hl.1 rfl (by decide) dX3_beginTerm_4 ⟨Nat.zero_le _, Nat.zero_le _⟩ (fun H locs S => ?_)
  obtain ⟨F_1, eF_1⟩ : ∃ z, z = u2 (u2 (uF F (4 + 8 * i + 2) 8 0) (4 + 8 * i + 1) 1 0) (4 + 8 * i + 1) 2 0 := ⟨_, rfl⟩
  rw [← eF_1] at S
  refine lv_aload_n hx hb dX3_beginTerm_7 rfl (lv_at hl 0 rfl) ?_
  refine r_getr (q := 4 + 8 * i + 3) X S hw3 (ob_S i hi) 1 ⟨rfl, by decide, rfl⟩ rfl (hts (.fieldLink RX3 19 "TermBill$Student" "aid" "LTermBill$Aid;") (by decide +kernel)) dX3_beginTerm_8 ?_
  refine r_V0 X S (c_X0_clear l D cA ad _ F_1 i hi) (ob_A i hi) rfl (cwV 0 hts gX3_beginTerm_X0_clear rfl rfl rfl (by decide +kernel) ⟨Nat.le_of_ble_eq_true rfl, Nat.le_of_ble_eq_true rfl⟩) rfl hl.1 rfl (by decide) dX3_beginTerm_11 ⟨Nat.zero_le _, Nat.zero_le _⟩ (fun H locs S => ?_)
  obtain ⟨F_2, eF_2⟩ : ∃ z, z = u2 (uF F_1 (4 + 8 * i + 5) 6 0) (4 + 8 * i + 3) 3 0 := ⟨_, rfl⟩
  rw [← eF_2] at S
  refine lv_aload_n hx hb dX3_beginTerm_14 rfl (lv_at hl 0 rfl) ?_
  refine lv_iconst (v := 0) hx hb dX3_beginTerm_15 (by decide) ?_
  refine r_puti X S hw3 (ob_S i hi) 8 ⟨rfl, by decide, rfl⟩ rfl (hts (.fieldLink RX3 47 "TermBill$Student" "sponsorKinds" "I") (by decide +kernel)) tyX3 tyX3_ok nmX3 rfl rfl dX3_beginTerm_16 (fun H locs S => ?_)
  obtain ⟨F_3, eF_3⟩ : ∃ z, z = u2 F_2 (4 + 8 * i) 8 0 := ⟨_, rfl⟩
  rw [← eF_3] at S
  refine lv_aload_n hx hb dX3_beginTerm_19 rfl (lv_at hl 0 rfl) ?_
  refine lv_iconst (v := 0) hx hb dX3_beginTerm_20 (by decide) ?_
  refine r_puti X S hw3 (ob_S i hi) 9 ⟨rfl, by decide, rfl⟩ rfl (hts (.fieldLink RX3 50 "TermBill$Student" "sponsorLimit" "I") (by decide +kernel)) tyX3 tyX3_ok nmX3 rfl rfl dX3_beginTerm_21 (fun H locs S => ?_)
  obtain ⟨F_4, eF_4⟩ : ∃ z, z = u2 F_3 (4 + 8 * i) 9 0 := ⟨_, rfl⟩
  rw [← eF_4] at S
  refine lv_aload_n hx hb dX3_beginTerm_24 rfl (lv_at hl 0 rfl) ?_
  refine lv_iconst (v := 0) hx hb dX3_beginTerm_25 (by decide) ?_
  refine r_puti X S hw3 (ob_S i hi) 7 ⟨rfl, by decide, rfl⟩ rfl (hts (.fieldLink RX3 44 "TermBill$Student" "housing" "I") (by decide +kernel)) tyX3 tyX3_ok nmX3 rfl rfl dX3_beginTerm_26 (fun H locs S => ?_)
  obtain ⟨F_5, eF_5⟩ : ∃ z, z = u2 F_4 (4 + 8 * i) 7 0 := ⟨_, rfl⟩
  rw [← eF_5] at S
  refine lv_aload_n hx hb dX3_beginTerm_29 rfl (lv_at hl 0 rfl) ?_
  refine lv_iload_n hx hb dX3_beginTerm_30 rfl (lv_at hl 1 rfl) ?_
  refine lv_iconst (v := 0) hx hb dX3_beginTerm_31 (by decide) ?_
  refine r_max X hl.1 (hts (.methodLink RX3 60 Lib.Math.max.name) (by decide +kernel)) (hts (.static Lib.Math.max.name) (by decide +kernel)) (hts (.initialized "java/lang/Math") (by decide +kernel)) (hts (.code Lib.Math.max.name Lib.Math.max.code 2 (some .int)) (by decide +kernel)) (Nat.le_of_ble_eq_true rfl) (Nat.le_of_ble_eq_true rfl) (Nat.zero_le _) (Nat.zero_le _) dX3_beginTerm_32 ?_
  refine r_puti X S hw3 (ob_S i hi) 6 ⟨rfl, by decide, rfl⟩ rfl (hts (.fieldLink RX3 41 "TermBill$Student" "fees" "I") (by decide +kernel)) tyX3 tyX3_ok nmX3 rfl rfl dX3_beginTerm_35 (fun H locs S => ?_)
  obtain ⟨F_6, eF_6⟩ : ∃ z, z = u2 F_5 (4 + 8 * i) 6 (mx b 0) := ⟨_, rfl⟩
  rw [← eF_6] at S
  refine lv_aload_n hx hb dX3_beginTerm_38 rfl (lv_at hl 0 rfl) ?_
  refine lv_iload_n hx hb dX3_beginTerm_39 rfl (lv_at hl 1 rfl) ?_
  refine lv_ineg hx hb dX3_beginTerm_40 ?_
  refine lv_iconst (v := 0) hx hb dX3_beginTerm_41 (by decide) ?_
  refine r_max X hl.1 (hts (.methodLink RX3 60 Lib.Math.max.name) (by decide +kernel)) (hts (.static Lib.Math.max.name) (by decide +kernel)) (hts (.initialized "java/lang/Math") (by decide +kernel)) (hts (.code Lib.Math.max.name Lib.Math.max.code 2 (some .int)) (by decide +kernel)) (Nat.le_of_ble_eq_true rfl) (Nat.le_of_ble_eq_true rfl) (Nat.zero_le _) (Nat.zero_le _) dX3_beginTerm_42 ?_
  refine r_puti X S hw3 (ob_S i hi) 10 ⟨rfl, by decide, rfl⟩ rfl (hts (.fieldLink RX3 53 "TermBill$Student" "paidSum" "I") (by decide +kernel)) tyX3 tyX3_ok nmX3 rfl rfl dX3_beginTerm_45 (fun H locs S => ?_)
  obtain ⟨F_7, eF_7⟩ : ∃ z, z = u2 F_6 (4 + 8 * i) 10 (mx (-b) 0) := ⟨_, rfl⟩
  rw [← eF_7] at S
  exact r_vret X S hr dX3_beginTerm_48 (Nat.le_of_ble_eq_true rfl) (Nat.le_of_ble_eq_true rfl) (by subst_vars; unfold bgT; rfl)

set_option maxHeartbeats 4000000 in
set_option maxRecDepth 100000 in
theorem c_X4_chargesOf (l : Launch) (D : va_G) (cA : Nat → ClassId) (ad : Nat → Nat) (sz : Nat) (F : FF) (i : Nat) (hi : i < 4) (ks : Int32) : CI l D cA ad sz yX4_chargesOf wsX4_chargesOf 1 22 0 0 [.ref (ad 0), .ref (ad (4 + 8 * i)), .int ks] F (some (.int (chC F i ks))) F := by
  refine CI_of (own := RX4) (cc := cX4_chargesOf) (maxL := 5) (ret := (some .int)) (by decide +kernel) rfl rfl (Nat.le_of_ble_eq_true rfl) ?_
  intro p e s m below meth c ls X S hr hl
  obtain ⟨⟨hx, hb, hml, hown, hts⟩, hE, hI, hlocks⟩ := id X
  have hl : lv_has ls 5 [(0, .ref (ad 0)), (1, .ref (ad (4 + 8 * i))), (2, .int ks)] := hl
  have hw1 : ∀ w ∈ wsX10, w.before _ s = true := fun w h => hts w ((by decide +kernel : ∀ w ∈ wsX10, w ∈ wsX4_chargesOf) w h)
  have hw3 : ∀ w ∈ wsX30, w.before _ s = true := fun w h => hts w ((by decide +kernel : ∀ w ∈ wsX30, w ∈ wsX4_chargesOf) w h)
  have hw4 : ∀ w ∈ wsX40, w.before _ s = true := fun w h => hts w ((by decide +kernel : ∀ w ∈ wsX40, w ∈ wsX4_chargesOf) w h)
  refine lv_iconst (v := 0) hx hb dX4_chargesOf_0 (by decide) ?_
  refine lv_istore_n (lv' := [(3, .int 0), (0, .ref (ad 0)), (1, .ref (ad (4 + 8 * i))), (2, .int ks)]) hx hb dX4_chargesOf_1 rfl hl (by decide) rfl (fun ls hl => ?_)
  refine lv_iload_n hx hb dX4_chargesOf_2 rfl (lv_at hl 3 rfl) ?_
  refine lv_iconst (v := 1) hx hb dX4_chargesOf_3 (by decide) ?_
  refine lv_iand hx hb dX4_chargesOf_4 ?_
  refine lv_if_eq (tgt := 50) hx hb dX4_chargesOf_5 (by decide) (fun c_1 => ?_) (fun c_1 => ?_)
  · refine lv_iload_n hx hb dX4_chargesOf_50 rfl (lv_at hl 3 rfl) ?_
    refine lv_iconst (v := 2) hx hb dX4_chargesOf_51 (by decide) ?_
    refine lv_iand hx hb dX4_chargesOf_52 ?_
    refine lv_if_eq (tgt := 63) hx hb dX4_chargesOf_53 (by decide) (fun c_2 => ?_) (fun c_2 => ?_)
    · refine lv_iload_n hx hb dX4_chargesOf_63 rfl (lv_at hl 3 rfl) ?_
      refine lv_iconst (v := 4) hx hb dX4_chargesOf_64 (by decide) ?_
      refine lv_iand hx hb dX4_chargesOf_65 ?_
      refine lv_if_eq (tgt := 76) hx hb dX4_chargesOf_66 (by decide) (fun c_3 => ?_) (fun c_3 => ?_)
      · refine lv_iload_n hx hb dX4_chargesOf_76 rfl (lv_at hl 0 rfl) ?_
        exact r_iret X S hr dX4_chargesOf_77 (Nat.le_of_ble_eq_true rfl) (Nat.le_of_ble_eq_true rfl) (by simp only [chC, ch3, ch2, ch1, tuC, rtC, c_1, c_2, c_3, ↓reduceIte]) rfl
      · refine lv_iload_n hx hb dX4_chargesOf_69 rfl (lv_at hl 0 rfl) ?_
        refine lv_aload_n hx hb dX4_chargesOf_70 rfl (lv_at hl 2 rfl) ?_
        refine r_geti X S hw3 (ob_S i hi) 7 ⟨rfl, by decide, rfl⟩ rfl (hts (.fieldLink RX4 135 "TermBill$Student" "housing" "I") (by decide +kernel)) dX4_chargesOf_71 ?_
        refine lv_iadd hx hb dX4_chargesOf_74 ?_
        refine lv_istore_n (lv' := [(3, .int (0 + (F (4 + 8 * i) 7))), (0, .ref (ad 0)), (1, .ref (ad (4 + 8 * i))), (2, .int ks)]) hx hb dX4_chargesOf_75 rfl hl (by decide) rfl (fun ls hl => ?_)
        refine lv_iload_n hx hb dX4_chargesOf_76 rfl (lv_at hl 0 rfl) ?_
        exact r_iret X S hr dX4_chargesOf_77 (Nat.le_of_ble_eq_true rfl) (Nat.le_of_ble_eq_true rfl) (by simp only [chC, ch3, ch2, ch1, tuC, rtC, c_1, c_2, c_3, ↓reduceIte]) rfl
    · refine lv_iload_n hx hb dX4_chargesOf_56 rfl (lv_at hl 0 rfl) ?_
      refine lv_aload_n hx hb dX4_chargesOf_57 rfl (lv_at hl 2 rfl) ?_
      refine r_geti X S hw3 (ob_S i hi) 6 ⟨rfl, by decide, rfl⟩ rfl (hts (.fieldLink RX4 132 "TermBill$Student" "fees" "I") (by decide +kernel)) dX4_chargesOf_58 ?_
      refine lv_iadd hx hb dX4_chargesOf_61 ?_
      refine lv_istore_n (lv' := [(3, .int (0 + (F (4 + 8 * i) 6))), (0, .ref (ad 0)), (1, .ref (ad (4 + 8 * i))), (2, .int ks)]) hx hb dX4_chargesOf_62 rfl hl (by decide) rfl (fun ls hl => ?_)
      refine lv_iload_n hx hb dX4_chargesOf_63 rfl (lv_at hl 3 rfl) ?_
      refine lv_iconst (v := 4) hx hb dX4_chargesOf_64 (by decide) ?_
      refine lv_iand hx hb dX4_chargesOf_65 ?_
      refine lv_if_eq (tgt := 76) hx hb dX4_chargesOf_66 (by decide) (fun c_4 => ?_) (fun c_4 => ?_)
      · refine lv_iload_n hx hb dX4_chargesOf_76 rfl (lv_at hl 0 rfl) ?_
        exact r_iret X S hr dX4_chargesOf_77 (Nat.le_of_ble_eq_true rfl) (Nat.le_of_ble_eq_true rfl) (by simp only [chC, ch3, ch2, ch1, tuC, rtC, c_1, c_2, c_4, ↓reduceIte]) rfl
      · refine lv_iload_n hx hb dX4_chargesOf_69 rfl (lv_at hl 0 rfl) ?_
        refine lv_aload_n hx hb dX4_chargesOf_70 rfl (lv_at hl 2 rfl) ?_
        refine r_geti X S hw3 (ob_S i hi) 7 ⟨rfl, by decide, rfl⟩ rfl (hts (.fieldLink RX4 135 "TermBill$Student" "housing" "I") (by decide +kernel)) dX4_chargesOf_71 ?_
        refine lv_iadd hx hb dX4_chargesOf_74 ?_
        refine lv_istore_n (lv' := [(3, .int ((0 + (F (4 + 8 * i) 6)) + (F (4 + 8 * i) 7))), (0, .ref (ad 0)), (1, .ref (ad (4 + 8 * i))), (2, .int ks)]) hx hb dX4_chargesOf_75 rfl hl (by decide) rfl (fun ls hl => ?_)
        refine lv_iload_n hx hb dX4_chargesOf_76 rfl (lv_at hl 0 rfl) ?_
        exact r_iret X S hr dX4_chargesOf_77 (Nat.le_of_ble_eq_true rfl) (Nat.le_of_ble_eq_true rfl) (by simp only [chC, ch3, ch2, ch1, tuC, rtC, c_1, c_2, c_4, ↓reduceIte]) rfl
  · refine lv_aload_n hx hb dX4_chargesOf_8 rfl (lv_at hl 1 rfl) ?_
    refine r_getr (q := 2) X S hw4 ob_0 1 ⟨rfl, by decide, rfl⟩ rfl (hts (.fieldLink RX4 15 "TermBill" "rates" "[I") (by decide +kernel)) dX4_chargesOf_9 ?_
    refine lv_aload_n hx hb dX4_chargesOf_12 rfl (lv_at hl 2 rfl) ?_
    refine r_geti X S hw3 (ob_S i hi) 3 ⟨rfl, by decide, rfl⟩ rfl (hts (.fieldLink RX4 77 "TermBill$Student" "level" "I") (by decide +kernel)) dX4_chargesOf_13 ?_
    refine lv_aload_n hx hb dX4_chargesOf_16 rfl (lv_at hl 2 rfl) ?_
    refine r_geti X S hw3 (ob_S i hi) 4 ⟨rfl, by decide, rfl⟩ rfl (hts (.fieldLink RX4 80 "TermBill$Student" "isResident" "Z") (by decide +kernel)) dX4_chargesOf_17 ?_
    refine r_S0 X S (c_X4_placeOfRate l D cA ad _ F (F (4 + 8 * i) 3) (F (4 + 8 * i) 4)) (va_cwS 2 hts gX4_chargesOf_X4_placeOfRate rfl rfl rfl (by decide +kernel) ⟨Nat.le_of_ble_eq_true rfl, Nat.le_of_ble_eq_true rfl⟩) rfl hl.1 rfl (by decide) dX4_chargesOf_20 ⟨Nat.zero_le _, Nat.zero_le _⟩ (fun H locs S => ?_)
    refine r_ialN X S (k := 2) (n := 4) (by unfold Ar; decide) (q := plc (F (4 + 8 * i) 3) (F (4 + 8 * i) 4)) rfl (plc_lt _ _) (by decide) dX4_chargesOf_23 ?_
    refine lv_istore (lv' := [(4, .int (F 2 (plc (F (4 + 8 * i) 3) (F (4 + 8 * i) 4)))), (3, .int 0), (0, .ref (ad 0)), (1, .ref (ad (4 + 8 * i))), (2, .int ks)]) hx hb dX4_chargesOf_24 hl (by decide) rfl (fun ls hl => ?_)
    refine lv_iload_n hx hb dX4_chargesOf_26 rfl (lv_at hl 1 rfl) ?_
    refine lv_aload_n hx hb dX4_chargesOf_27 rfl (lv_at hl 2 rfl) ?_
    refine lv_aload_n hx hb dX4_chargesOf_28 rfl (lv_at hl 3 rfl) ?_
    refine r_getr (q := 4 + 8 * i + 1) X S hw3 (ob_S i hi) 0 ⟨rfl, by decide, rfl⟩ rfl (hts (.fieldLink RX4 97 "TermBill$Student" "courses" "LTermBill$Courses;") (by decide +kernel)) dX4_chargesOf_29 ?_
    refine r_V0 X S (c_X1_total l D cA ad _ F i hi) (ob_C i hi) rfl (cwV 0 hts gX4_chargesOf_X1_total rfl rfl rfl (by decide +kernel) ⟨Nat.le_of_ble_eq_true rfl, Nat.le_of_ble_eq_true rfl⟩) rfl hl.1 rfl (by decide) dX4_chargesOf_32 ⟨Nat.zero_le _, Nat.zero_le _⟩ (fun H locs S => ?_)
    refine lv_iload hx hb dX4_chargesOf_35 (lv_at hl 0 rfl) ?_
    refine r_V0 X S (c_X4_priceOf l D cA ad _ F (tot8 (F (4 + 8 * i + 2))) (F 2 (plc (F (4 + 8 * i) 3) (F (4 + 8 * i) 4)))) ob_0 rfl (cwV 2 hts gX4_chargesOf_X4_priceOf rfl rfl rfl (by decide +kernel) ⟨Nat.le_of_ble_eq_true rfl, Nat.le_of_ble_eq_true rfl⟩) rfl hl.1 rfl (by decide) dX4_chargesOf_37 ⟨Nat.zero_le _, Nat.zero_le _⟩ (fun H locs S => ?_)
    refine lv_aload_n hx hb dX4_chargesOf_40 rfl (lv_at hl 3 rfl) ?_
    refine r_getr (q := 4 + 8 * i + 1) X S hw3 (ob_S i hi) 0 ⟨rfl, by decide, rfl⟩ rfl (hts (.fieldLink RX4 97 "TermBill$Student" "courses" "LTermBill$Courses;") (by decide +kernel)) dX4_chargesOf_41 ?_
    refine r_geti X S hw1 (ob_C i hi) 2 ⟨rfl, by decide, rfl⟩ rfl (hts (.fieldLink RX4 234 "TermBill$Courses" "keptSum" "I") (by decide +kernel)) dX4_chargesOf_44 ?_
    refine lv_iadd hx hb dX4_chargesOf_47 ?_
    refine lv_iadd hx hb dX4_chargesOf_48 ?_
    refine lv_istore_n (lv' := [(3, .int (0 + ((pcl (F 0 3) (F 0 4) (tot8 (F (4 + 8 * i + 2))) (F 2 (plc (F (4 + 8 * i) 3) (F (4 + 8 * i) 4)))) + (F (4 + 8 * i + 1) 2)))), (4, .int (F 2 (plc (F (4 + 8 * i) 3) (F (4 + 8 * i) 4)))), (0, .ref (ad 0)), (1, .ref (ad (4 + 8 * i))), (2, .int ks)]) hx hb dX4_chargesOf_49 rfl hl (by decide) rfl (fun ls hl => ?_)
    refine lv_iload_n hx hb dX4_chargesOf_50 rfl (lv_at hl 4 rfl) ?_
    refine lv_iconst (v := 2) hx hb dX4_chargesOf_51 (by decide) ?_
    refine lv_iand hx hb dX4_chargesOf_52 ?_
    refine lv_if_eq (tgt := 63) hx hb dX4_chargesOf_53 (by decide) (fun c_5 => ?_) (fun c_5 => ?_)
    · refine lv_iload_n hx hb dX4_chargesOf_63 rfl (lv_at hl 4 rfl) ?_
      refine lv_iconst (v := 4) hx hb dX4_chargesOf_64 (by decide) ?_
      refine lv_iand hx hb dX4_chargesOf_65 ?_
      refine lv_if_eq (tgt := 76) hx hb dX4_chargesOf_66 (by decide) (fun c_6 => ?_) (fun c_6 => ?_)
      · refine lv_iload_n hx hb dX4_chargesOf_76 rfl (lv_at hl 0 rfl) ?_
        exact r_iret X S hr dX4_chargesOf_77 (Nat.le_of_ble_eq_true rfl) (Nat.le_of_ble_eq_true rfl) (by simp only [chC, ch3, ch2, ch1, tuC, rtC, c_1, c_5, c_6, ↓reduceIte]) rfl
      · refine lv_iload_n hx hb dX4_chargesOf_69 rfl (lv_at hl 0 rfl) ?_
        refine lv_aload_n hx hb dX4_chargesOf_70 rfl (lv_at hl 3 rfl) ?_
        refine r_geti X S hw3 (ob_S i hi) 7 ⟨rfl, by decide, rfl⟩ rfl (hts (.fieldLink RX4 135 "TermBill$Student" "housing" "I") (by decide +kernel)) dX4_chargesOf_71 ?_
        refine lv_iadd hx hb dX4_chargesOf_74 ?_
        refine lv_istore_n (lv' := [(3, .int ((0 + ((pcl (F 0 3) (F 0 4) (tot8 (F (4 + 8 * i + 2))) (F 2 (plc (F (4 + 8 * i) 3) (F (4 + 8 * i) 4)))) + (F (4 + 8 * i + 1) 2))) + (F (4 + 8 * i) 7))), (4, .int (F 2 (plc (F (4 + 8 * i) 3) (F (4 + 8 * i) 4)))), (0, .ref (ad 0)), (1, .ref (ad (4 + 8 * i))), (2, .int ks)]) hx hb dX4_chargesOf_75 rfl hl (by decide) rfl (fun ls hl => ?_)
        refine lv_iload_n hx hb dX4_chargesOf_76 rfl (lv_at hl 0 rfl) ?_
        exact r_iret X S hr dX4_chargesOf_77 (Nat.le_of_ble_eq_true rfl) (Nat.le_of_ble_eq_true rfl) (by simp only [chC, ch3, ch2, ch1, tuC, rtC, c_1, c_5, c_6, ↓reduceIte]) rfl
    · refine lv_iload_n hx hb dX4_chargesOf_56 rfl (lv_at hl 0 rfl) ?_
      refine lv_aload_n hx hb dX4_chargesOf_57 rfl (lv_at hl 3 rfl) ?_
      refine r_geti X S hw3 (ob_S i hi) 6 ⟨rfl, by decide, rfl⟩ rfl (hts (.fieldLink RX4 132 "TermBill$Student" "fees" "I") (by decide +kernel)) dX4_chargesOf_58 ?_
      refine lv_iadd hx hb dX4_chargesOf_61 ?_
      refine lv_istore_n (lv' := [(3, .int ((0 + ((pcl (F 0 3) (F 0 4) (tot8 (F (4 + 8 * i + 2))) (F 2 (plc (F (4 + 8 * i) 3) (F (4 + 8 * i) 4)))) + (F (4 + 8 * i + 1) 2))) + (F (4 + 8 * i) 6))), (4, .int (F 2 (plc (F (4 + 8 * i) 3) (F (4 + 8 * i) 4)))), (0, .ref (ad 0)), (1, .ref (ad (4 + 8 * i))), (2, .int ks)]) hx hb dX4_chargesOf_62 rfl hl (by decide) rfl (fun ls hl => ?_)
      refine lv_iload_n hx hb dX4_chargesOf_63 rfl (lv_at hl 4 rfl) ?_
      refine lv_iconst (v := 4) hx hb dX4_chargesOf_64 (by decide) ?_
      refine lv_iand hx hb dX4_chargesOf_65 ?_
      refine lv_if_eq (tgt := 76) hx hb dX4_chargesOf_66 (by decide) (fun c_7 => ?_) (fun c_7 => ?_)
      · refine lv_iload_n hx hb dX4_chargesOf_76 rfl (lv_at hl 0 rfl) ?_
        exact r_iret X S hr dX4_chargesOf_77 (Nat.le_of_ble_eq_true rfl) (Nat.le_of_ble_eq_true rfl) (by simp only [chC, ch3, ch2, ch1, tuC, rtC, c_1, c_5, c_7, ↓reduceIte]) rfl
      · refine lv_iload_n hx hb dX4_chargesOf_69 rfl (lv_at hl 0 rfl) ?_
        refine lv_aload_n hx hb dX4_chargesOf_70 rfl (lv_at hl 3 rfl) ?_
        refine r_geti X S hw3 (ob_S i hi) 7 ⟨rfl, by decide, rfl⟩ rfl (hts (.fieldLink RX4 135 "TermBill$Student" "housing" "I") (by decide +kernel)) dX4_chargesOf_71 ?_
        refine lv_iadd hx hb dX4_chargesOf_74 ?_
        refine lv_istore_n (lv' := [(3, .int (((0 + ((pcl (F 0 3) (F 0 4) (tot8 (F (4 + 8 * i + 2))) (F 2 (plc (F (4 + 8 * i) 3) (F (4 + 8 * i) 4)))) + (F (4 + 8 * i + 1) 2))) + (F (4 + 8 * i) 6)) + (F (4 + 8 * i) 7))), (4, .int (F 2 (plc (F (4 + 8 * i) 3) (F (4 + 8 * i) 4)))), (0, .ref (ad 0)), (1, .ref (ad (4 + 8 * i))), (2, .int ks)]) hx hb dX4_chargesOf_75 rfl hl (by decide) rfl (fun ls hl => ?_)
        refine lv_iload_n hx hb dX4_chargesOf_76 rfl (lv_at hl 0 rfl) ?_
        exact r_iret X S hr dX4_chargesOf_77 (Nat.le_of_ble_eq_true rfl) (Nat.le_of_ble_eq_true rfl) (by simp only [chC, ch3, ch2, ch1, tuC, rtC, c_1, c_5, c_7, ↓reduceIte]) rfl

set_option maxHeartbeats 4000000 in
set_option maxRecDepth 100000 in
theorem c_X4_chargeLateFees (l : Launch) (D : va_G) (cA : Nat → ClassId) (ad : Nat → Nat) (sz : Nat) (F : FF) : CI l D cA ad sz yX4_chargeLateFees wsX4_chargeLateFees 1 23 0 0 [.ref (ad 0)] F none (clA F 4) := by
  refine CI_of (own := RX4) (cc := cX4_chargeLateFees) (maxL := 3) (ret := none) (by decide +kernel) rfl rfl (Nat.le_of_ble_eq_true rfl) ?_
  intro p e s m below meth c ls X S hr hl
  obtain ⟨⟨hx, hb, hml, hown, hts⟩, hE, hI, hlocks⟩ := id X
  have hl : lv_has ls 3 [(0, .ref (ad 0))] := hl
  have hw3 : ∀ w ∈ wsX30, w.before _ s = true := fun w h => hts w ((by decide +kernel : ∀ w ∈ wsX30, w ∈ wsX4_chargeLateFees) w h)
  have hw4 : ∀ w ∈ wsX40, w.before _ s = true := fun w h => hts w ((by decide +kernel : ∀ w ∈ wsX40, w ∈ wsX4_chargeLateFees) w h)
  have loop : ∀ (q i : Nat), i + q = 4 → ∀ G : FF, G = clA F i → ∀ (H : Heap) (locs : List Loc) (ls : Array Slot), St D cA ad G s.heap H locs → lv_has ls 3 [(0, .ref (ad 0)), (1, .int (nI i))] → W p l e (RM 1 23 0 0) s m [.ref (ad 0)].toArray below meth c H locs 0 0 (MQ below (CQ D cA ad s.heap.size (clA F 4) none) [.ref (ad 0)].toArray s 0 0 (AA ad s.heap.size)) (F0 m 2 ls []) := by
    intro q
    induction q with
    | zero =>
      intro i hi G eG H locs ls S hl
      obtain rfl : i = 4 := by omega
      refine lv_iload_n hx hb dX4_chargeLateFees_2 rfl (lv_at hl 1 rfl) ?_
      refine lv_iconst (v := 4) hx hb dX4_chargeLateFees_3 (by decide) ?_
      refine lv_icmp_ge (tgt := 46) hx hb dX4_chargeLateFees_4 (by decide) (fun _ => ?_) (fun z => False.elim (absurd (by decide) z))
      exact r_vret X S hr dX4_chargeLateFees_46 (Nat.le_of_ble_eq_true rfl) (Nat.le_of_ble_eq_true rfl) eG
    | succ q ih =>
      intro i hi9 G eG H locs ls S hl
      have hi : i < 4 := by omega
      refine lv_iload_n hx hb dX4_chargeLateFees_2 rfl (lv_at hl 1 rfl) ?_
      refine lv_iconst (v := 4) hx hb dX4_chargeLateFees_3 (by decide) ?_
      refine lv_icmp_ge (tgt := 46) hx hb dX4_chargeLateFees_4 (by decide) (fun z => False.elim (nI_ge (a := i) (b := 4) (by omega) (by omega) z)) (fun _ => ?_)
      refine lv_aload_n hx hb dX4_chargeLateFees_7 rfl (lv_at hl 0 rfl) ?_
      refine lv_iload_n hx hb dX4_chargeLateFees_8 rfl (lv_at hl 1 rfl) ?_
      refine r_V0 X S (c_X4_studentAt l D cA ad _ G i hi) ob_0 rfl (cwV 1 hts gX4_chargeLateFees_X4_studentAt rfl rfl rfl (by decide +kernel) ⟨Nat.le_of_ble_eq_true rfl, Nat.le_of_ble_eq_true rfl⟩) rfl hl.1 rfl (by decide) dX4_chargeLateFees_9 ⟨Nat.zero_le _, Nat.zero_le _⟩ (fun H locs S => ?_)
      refine lv_astore_n (lv' := [(2, .ref (ad (4 + 8 * i))), (0, .ref (ad 0)), (1, .int (nI i))]) hx hb dX4_chargeLateFees_12 rfl hl (by decide) rfl (fun ls hl => ?_)
      refine lv_aload_n hx hb dX4_chargeLateFees_13 rfl (lv_at hl 0 rfl) ?_
      refine r_getr (q := 4 + 8 * i + 7) X S hw3 (ob_S i hi) 2 ⟨rfl, by decide, rfl⟩ rfl (hts (.fieldLink RX4 156 "TermBill$Student" "instalments" "LTermBill$Instalments;") (by decide +kernel)) dX4_chargeLateFees_14 ?_
      refine lv_aload_n hx hb dX4_chargeLateFees_17 rfl (lv_at hl 1 rfl) ?_
      refine r_V0 X S (c_X4_weekNumber l D cA ad _ G) ob_0 rfl (cwV 0 hts gX4_chargeLateFees_X4_weekNumber rfl rfl rfl (by decide +kernel) ⟨Nat.le_of_ble_eq_true rfl, Nat.le_of_ble_eq_true rfl⟩) rfl hl.1 rfl (by decide) dX4_chargeLateFees_18 ⟨Nat.zero_le _, Nat.zero_le _⟩ (fun H locs S => ?_)
      refine r_V0 X S (c_X2_isLateAt l D cA ad _ G i hi (G 0 8 * 16 + G 0 7)) (ob_I i hi) rfl (cwV 1 hts gX4_chargeLateFees_X2_isLateAt rfl rfl rfl (by decide +kernel) ⟨Nat.le_of_ble_eq_true rfl, Nat.le_of_ble_eq_true rfl⟩) rfl hl.1 rfl (by decide) dX4_chargeLateFees_21 ⟨Nat.zero_le _, Nat.zero_le _⟩ (fun H locs S => ?_)
      refine lv_if_eq (tgt := 40) hx hb dX4_chargeLateFees_24 (by decide) (fun c_1 => ?_) (fun c_1 => ?_)
      · have c_1 : lateI (G 0 8 * 16 + G 0 7) (G (4 + 8 * i + 7) 0) (G (4 + 8 * i + 7) 1) (G (4 + 8 * i + 7) 2) (G (4 + 8 * i + 7) 3) (G (4 + 8 * i + 7) 4) = false := bI_f c_1
        refine lv_iinc (v := nI (i + 1)) (lv' := [(1, .int (nI (i + 1))), (2, .ref (ad (4 + 8 * i))), (0, .ref (ad 0))]) hx hb dX4_chargeLateFees_40 hl (k := 2) rfl (nI_add _ _) (by decide) rfl (fun ls hl => ?_)
        refine lv_goto (tgt := 2) hx hb dX4_chargeLateFees_43 (by decide) ?_
        exact ih (i + 1) (by omega) G (by rw [show clA F (i + 1) = clS (clA F i) i from rfl, ← eG]; unfold clS; rw [if_neg (by rw [show lfC G i = false from c_1]; decide)]) H locs ls S (lv_sub hl [2, 0] rfl)
      · have c_1 : lateI (G 0 8 * 16 + G 0 7) (G (4 + 8 * i + 7) 0) (G (4 + 8 * i + 7) 1) (G (4 + 8 * i + 7) 2) (G (4 + 8 * i + 7) 3) (G (4 + 8 * i + 7) 4) = true := bI_t c_1
        refine lv_aload_n hx hb dX4_chargeLateFees_27 rfl (lv_at hl 0 rfl) ?_
        refine lv_dup hx hb dX4_chargeLateFees_28 rfl ?_
        refine r_geti X S hw3 (ob_S i hi) 6 ⟨rfl, by decide, rfl⟩ rfl (hts (.fieldLink RX4 132 "TermBill$Student" "fees" "I") (by decide +kernel)) dX4_chargeLateFees_29 ?_
        refine lv_aload_n hx hb dX4_chargeLateFees_32 rfl (lv_at hl 1 rfl) ?_
        refine r_geti X S hw4 ob_0 5 ⟨rfl, by decide, rfl⟩ rfl (hts (.fieldLink RX4 29 "TermBill" "lateFee" "I") (by decide +kernel)) dX4_chargeLateFees_33 ?_
        refine lv_iadd hx hb dX4_chargeLateFees_36 ?_
        refine r_puti X S hw3 (ob_S i hi) 6 ⟨rfl, by decide, rfl⟩ rfl (hts (.fieldLink RX4 132 "TermBill$Student" "fees" "I") (by decide +kernel)) tyX3 tyX3_ok nmX3 rfl rfl dX4_chargeLateFees_37 (fun H locs S => ?_)
        obtain ⟨F_2, eF_2⟩ : ∃ z, z = u2 G (4 + 8 * i) 6 ((G (4 + 8 * i) 6) + (G 0 5)) := ⟨_, rfl⟩
        rw [← eF_2] at S
        refine lv_iinc (v := nI (i + 1)) (lv' := [(1, .int (nI (i + 1))), (2, .ref (ad (4 + 8 * i))), (0, .ref (ad 0))]) hx hb dX4_chargeLateFees_40 hl (k := 2) rfl (nI_add _ _) (by decide) rfl (fun ls hl => ?_)
        refine lv_goto (tgt := 2) hx hb dX4_chargeLateFees_43 (by decide) ?_
        exact ih (i + 1) (by omega) F_2 (by rw [show clA F (i + 1) = clS (clA F i) i from rfl, ← eG, eF_2]; unfold clS; rw [if_pos (show lfC G i = true from c_1)]) H locs ls S (lv_sub hl [2, 0] rfl)
  refine lv_iconst (v := 0) hx hb dX4_chargeLateFees_0 (by decide) ?_
  refine lv_istore_n (lv' := [(1, .int 0), (0, .ref (ad 0))]) hx hb dX4_chargeLateFees_1 rfl hl (by decide) rfl (fun ls hl => ?_)
  exact loop 4 0 (by omega) F rfl _ _ ls S (by rw [nI_0]; exact (lv_sub hl [1, 0] rfl))
