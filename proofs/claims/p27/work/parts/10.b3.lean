/-! what the public methods of the landed program answer -/
theorem wi_wk {x : Int32} (h1 : ¬ x < 0) (h2 : ¬ (16 : Int32) ≤ x) : wi x 0 15 = true := by
  rw [wi_iff]
  rw [Int32.le_iff_toInt_le] at h2
  rw [Int32.lt_iff_toInt_lt] at h1
  have e0 : (0 : Int32).toInt = 0 := by decide
  have e3 : (15 : Int32).toInt = 15 := by decide
  have e4 : (16 : Int32).toInt = 16 := by decide
  omega
def srF (F : FF) (lv : Int32) (b : Bool) (r : Int32) : FF := u2 F 2 (plc lv (bI b)) r
def pyF (F : FF) (i : Nat) (a : Int32) : FF := u2 (u2 F (4 + 8 * i) 10 (F (4 + 8 * i) 10 + a)) (4 + 8 * i + 7) 4 (u2 F (4 + 8 * i) 10 (F (4 + 8 * i) 10 + a) (4 + 8 * i + 7) 4 + a)
def plE (b : Int32) (m : Nat) : Int32 := b / nI m
def plS (b : Int32) (m : Nat) : Int32 := b - b / nI m * (nI m - 1)
def plF (F : FF) (i m : Nat) : FF := u2 (u2 (u2 (u2 (u2 (balF F i) (4 + 8 * i + 7) 0 (balF F i 0 8 * 16 + balF F i 0 7)) (4 + 8 * i + 7) 1 (nI m)) (4 + 8 * i + 7) 2 (plS (balV F i) m)) (4 + 8 * i + 7) 3 (plE (balV F i) m)) (4 + 8 * i + 7) 4 0
def lvS (i w j : Nat) (F : FF) : FF := if F (4 + 8 * i + 2) j ≤ 0 then F else drF F i j w
def lvF (F : FF) (i w : Nat) : Nat → FF
  | 0 => F
  | j + 1 => lvS i w j (lvF F i w j)
theorem lvS_0 (i w j : Nat) (F : FF) : lvS i w j F 0 = F 0 := by
  unfold lvS
  split
  · rfl
  · unfold drF dr0
    rw [u2_cell _ _ _ (by omega), u2_cell _ _ _ (by omega)]
theorem lvF_0 (F : FF) (i w : Nat) : ∀ j, lvF F i w j 0 = F 0
  | 0 => rfl
  | j + 1 => (lvS_0 i w j _).trans (lvF_0 F i w j)
def leB (F : FF) (i w : Nat) : Int32 := bakI (lvF F i w 8 0 7) (tot6 (lvF F i w 8 (4 + 8 * i + 5)))
def leF (F : FF) (i w : Nat) : FF := (toA i (lvF F i w 8, leB F i w)).1
def cw1 (F : FF) : FF := u2 F 0 7 (F 0 7 + 1)
def cw2 (F : FF) : FF := u2 (u2 (enP (enP F 0 1) 2 3) 0 7 0) 0 8 (u2 (enP (enP F 0 1) 2 3) 0 7 0 0 8 + 1)
set_option maxHeartbeats 1000000 in
set_option maxRecDepth 100000 in
theorem c_X4_setRate (l : Launch) (D : va_G) (cA : Nat → ClassId) (ad : Nat → Nat) (sz : Nat) (F : FF) (lv : Int32) (b : Bool) (rt : Int32) (h1 : wi lv 0 1 = true) (h2 : wi rt 0 100000 = true) : CI l D cA ad sz yX4_setRate wsX4_setRate 1 22 0 0 [.ref (ad 0), .int lv, .int (bI b), .int rt] F (some (.int (F 2 (plc lv (bI b))))) (srF F lv b rt) := by
  refine CI_of (own := RX4) (cc := cX4_setRate) (maxL := 6) (ret := (some .int)) (by decide +kernel) rfl rfl (Nat.le_of_ble_eq_true rfl) ?_
  intro p e s m below meth c ls X S hr hl
  obtain ⟨⟨hx, hb, hml, hown, hts⟩, hE, hI, hlocks⟩ := id X
  have hl : lv_has ls 6 [(0, .ref (ad 0)), (1, .int lv), (2, .int (bI b)), (3, .int rt)] := hl
  have hw4 : ∀ w ∈ wsX40, w.before _ s = true := fun w h => hts w ((by decide +kernel : ∀ w ∈ wsX40, w ∈ wsX4_setRate) w h)
  refine lv_iload_n hx hb dX4_setRate_0 rfl (lv_at hl 1 rfl) ?_
  refine lv_iload_n hx hb dX4_setRate_1 rfl (lv_at hl 2 rfl) ?_
  refine r_S0 X S (c_X4_placeOfRate l D cA ad _ F lv (bI b)) (va_cwS 2 hts gX4_setRate_X4_placeOfRate rfl rfl rfl (by decide +kernel) ⟨Nat.le_of_ble_eq_true rfl, Nat.le_of_ble_eq_true rfl⟩) rfl hl.1 rfl (Nat.le_of_ble_eq_true rfl) dX4_setRate_2 ⟨Nat.zero_le _, Nat.zero_le _⟩ (fun H locs S => ?_)
  rw [show poR lv (bI b) = nI (plc lv (bI b)) from (poR_p h1)]
  refine lv_istore (lv' := [(4, .int (nI (plc lv (bI b)))), (0, .ref (ad 0)), (1, .int lv), (2, .int (bI b)), (3, .int rt)]) hx hb dX4_setRate_5 hl (by decide) rfl (fun ls hl => ?_)
  refine lv_iload hx hb dX4_setRate_7 (lv_at hl 0 rfl) ?_
  refine lv_if_lt (tgt := 32) hx hb dX4_setRate_9 (by decide) (fun z => False.elim (nI_pos (Nat.lt_trans (plc_lt _ _) (by decide)) z)) (fun _ => ?_)
  refine lv_iload hx hb dX4_setRate_12 (lv_at hl 0 rfl) ?_
  refine lv_aload_n hx hb dX4_setRate_14 rfl (lv_at hl 1 rfl) ?_
  refine r_getr (q := 2) X S hw4 ob_0 1 ⟨rfl, by decide, rfl⟩ rfl (hts (.fieldLink RX4 15 "TermBill" "rates" "[I") (by decide +kernel)) dX4_setRate_15 ?_
  refine r_leni X S (k := 2) (n := 4) (by unfold Ar; decide) (v := 4) rfl dX4_setRate_18 ?_
  refine lv_icmp_ge (tgt := 32) hx hb dX4_setRate_19 (by decide) (fun z => False.elim (nI_ge (a := plc lv (bI b)) (b := 4) (plc_lt _ _) (by omega) z)) (fun _ => ?_)
  refine lv_iload_n hx hb dX4_setRate_22 rfl (lv_at hl 4 rfl) ?_
  refine lv_iconst (v := 0) hx hb dX4_setRate_23 (by decide) ?_
  refine lv_ldc (v := 100000) hx hb hown (hts (.constant RX4 52 100000) (by decide +kernel)) dX4_setRate_24 ?_
  refine r_S0 X S (c_X4_isWithin l D cA ad _ F rt 0 100000) (va_cwS 3 hts gX4_setRate_X4_isWithin rfl rfl rfl (by decide +kernel) ⟨Nat.le_of_ble_eq_true rfl, Nat.le_of_ble_eq_true rfl⟩) rfl hl.1 rfl (Nat.le_of_ble_eq_true rfl) dX4_setRate_26 ⟨Nat.zero_le _, Nat.zero_le _⟩ (fun H locs S => ?_)
  refine lv_if_ne (tgt := 42) hx hb dX4_setRate_29 (by decide) (fun _ => ?_) (fun z => False.elim (by rw [h2] at z; revert z; decide))
  refine lv_aload_n hx hb dX4_setRate_42 rfl (lv_at hl 1 rfl) ?_
  refine r_getr (q := 2) X S hw4 ob_0 1 ⟨rfl, by decide, rfl⟩ rfl (hts (.fieldLink RX4 15 "TermBill" "rates" "[I") (by decide +kernel)) dX4_setRate_43 ?_
  refine lv_iload hx hb dX4_setRate_46 (lv_at hl 0 rfl) ?_
  refine r_ialN X S (k := 2) (n := 4) (by unfold Ar; decide) (q := plc lv (bI b)) rfl (plc_lt _ _) (by decide) dX4_setRate_48 ?_
  refine lv_istore (lv' := [(5, .int (F 2 (plc lv (bI b)))), (4, .int (nI (plc lv (bI b)))), (0, .ref (ad 0)), (1, .int lv), (2, .int (bI b)), (3, .int rt)]) hx hb dX4_setRate_49 hl (by decide) rfl (fun ls hl => ?_)
  refine lv_aload_n hx hb dX4_setRate_51 rfl (lv_at hl 2 rfl) ?_
  refine r_getr (q := 2) X S hw4 ob_0 1 ⟨rfl, by decide, rfl⟩ rfl (hts (.fieldLink RX4 15 "TermBill" "rates" "[I") (by decide +kernel)) dX4_setRate_52 ?_
  refine lv_iload hx hb dX4_setRate_55 (lv_at hl 1 rfl) ?_
  refine lv_iload_n hx hb dX4_setRate_57 rfl (lv_at hl 5 rfl) ?_
  refine r_iasN X S (k := 2) (n := 4) (by unfold Ar; decide) (q := plc lv (bI b)) rfl (plc_lt _ _) (by decide) dX4_setRate_58 (fun H locs S => ?_)
  obtain ⟨F_1, eF_1⟩ : ∃ z, z = u2 F 2 (plc lv (bI b)) rt := ⟨_, rfl⟩
  rw [← eF_1] at S
  refine lv_iload hx hb dX4_setRate_59 (lv_at hl 0 rfl) ?_
  exact r_iret X S hr dX4_setRate_61 (Nat.le_of_ble_eq_true rfl) (Nat.le_of_ble_eq_true rfl) (by rfl) (by unfold srF; simp only [eF_1])

set_option maxHeartbeats 1000000 in
set_option maxRecDepth 100000 in
theorem x1_X4_setRate (l : Launch) (hst : l.stackTraces = false) (D : va_G) (cA : Nat → ClassId) (ad : Nat → Nat) (sz : Nat) (F : FF) (lv : Int32) (b : Bool) (rt : Int32) (h : ¬ (wi lv 0 1 = true ∧ wi rt 0 100000 = true)) : CX l D cA ad sz yX4_setRate wsX4_setRate 6 90 [.ref (ad 0), .int lv, .int (bI b), .int rt] F "java/lang/IllegalArgumentException" F := by
  refine CX_of (own := RX4) (cc := cX4_setRate) (maxL := 6) (ret := (some .int)) (by decide +kernel) rfl rfl (Nat.le_of_ble_eq_true rfl) ?_
  intro p e s m below meth c ls X S hno hl
  obtain ⟨⟨hx, hb, hml, hown, hts⟩, hE, hI, hlocks⟩ := id X
  have hl : lv_has ls 6 [(0, .ref (ad 0)), (1, .int lv), (2, .int (bI b)), (3, .int rt)] := hl
  have hw4 : ∀ w ∈ wsX40, w.before _ s = true := fun w h => hts w ((by decide +kernel : ∀ w ∈ wsX40, w ∈ wsX4_setRate) w h)
  refine lv_iload_n hx hb dX4_setRate_0 rfl (lv_at hl 1 rfl) ?_
  refine lv_iload_n hx hb dX4_setRate_1 rfl (lv_at hl 2 rfl) ?_
  refine r_S0 X S (c_X4_placeOfRate l D cA ad _ F lv (bI b)) (va_cwS 2 hts gX4_setRate_X4_placeOfRate rfl rfl rfl (by decide +kernel) ⟨Nat.le_of_ble_eq_true rfl, Nat.le_of_ble_eq_true rfl⟩) rfl hl.1 rfl (Nat.le_of_ble_eq_true rfl) dX4_setRate_2 ⟨Nat.zero_le _, Nat.zero_le _⟩ (fun H locs S => ?_)
  refine lv_istore (lv' := [(4, .int (poR lv (bI b))), (0, .ref (ad 0)), (1, .int lv), (2, .int (bI b)), (3, .int rt)]) hx hb dX4_setRate_5 hl (by decide) rfl (fun ls hl => ?_)
  refine lv_iload hx hb dX4_setRate_7 (lv_at hl 0 rfl) ?_
  refine lv_if_lt (tgt := 32) hx hb dX4_setRate_9 (by decide) (fun c_1 => ?_) (fun c_1 => ?_)
  · exact r_throw X S hst hno (is := 59) (text := "level or rate is out of range") hl.1 (by decide +kernel) (hts (.classLink RX4 57 "java/lang/IllegalArgumentException") (by decide +kernel)) (hts (.initialized "java/lang/IllegalArgumentException") (by decide +kernel)) (by decide +kernel) (hat61 hE.2.2.2.2 hts (fun w h => List.mem_cons_of_mem _ (by first | exact List.mem_append_right _ h | exact List.mem_append_left _ (List.mem_append_right _ h) | exact List.mem_append_left _ (List.mem_append_left _ (List.mem_append_right _ h))))) hgd61 dX4_setRate_32 dX4_setRate_35 dX4_setRate_36 dX4_setRate_38 dX4_setRate_41 ⟨Nat.le_of_ble_eq_true rfl, Nat.le_of_ble_eq_true rfl, Nat.le_of_ble_eq_true rfl, Nat.le_of_ble_eq_true rfl⟩ (Nat.le_refl _) (Nat.le_refl _) rfl
  · refine lv_iload hx hb dX4_setRate_12 (lv_at hl 0 rfl) ?_
    refine lv_aload_n hx hb dX4_setRate_14 rfl (lv_at hl 1 rfl) ?_
    refine r_getr (q := 2) X S hw4 ob_0 1 ⟨rfl, by decide, rfl⟩ rfl (hts (.fieldLink RX4 15 "TermBill" "rates" "[I") (by decide +kernel)) dX4_setRate_15 ?_
    refine r_leni X S (k := 2) (n := 4) (by unfold Ar; decide) (v := 4) rfl dX4_setRate_18 ?_
    refine lv_icmp_ge (tgt := 32) hx hb dX4_setRate_19 (by decide) (fun c_2 => ?_) (fun c_2 => ?_)
    · exact r_throw X S hst hno (is := 59) (text := "level or rate is out of range") hl.1 (by decide +kernel) (hts (.classLink RX4 57 "java/lang/IllegalArgumentException") (by decide +kernel)) (hts (.initialized "java/lang/IllegalArgumentException") (by decide +kernel)) (by decide +kernel) (hat61 hE.2.2.2.2 hts (fun w h => List.mem_cons_of_mem _ (by first | exact List.mem_append_right _ h | exact List.mem_append_left _ (List.mem_append_right _ h) | exact List.mem_append_left _ (List.mem_append_left _ (List.mem_append_right _ h))))) hgd61 dX4_setRate_32 dX4_setRate_35 dX4_setRate_36 dX4_setRate_38 dX4_setRate_41 ⟨Nat.le_of_ble_eq_true rfl, Nat.le_of_ble_eq_true rfl, Nat.le_of_ble_eq_true rfl, Nat.le_of_ble_eq_true rfl⟩ (Nat.le_refl _) (Nat.le_refl _) rfl
    · refine lv_iload_n hx hb dX4_setRate_22 rfl (lv_at hl 4 rfl) ?_
      refine lv_iconst (v := 0) hx hb dX4_setRate_23 (by decide) ?_
      refine lv_ldc (v := 100000) hx hb hown (hts (.constant RX4 52 100000) (by decide +kernel)) dX4_setRate_24 ?_
      refine r_S0 X S (c_X4_isWithin l D cA ad _ F rt 0 100000) (va_cwS 3 hts gX4_setRate_X4_isWithin rfl rfl rfl (by decide +kernel) ⟨Nat.le_of_ble_eq_true rfl, Nat.le_of_ble_eq_true rfl⟩) rfl hl.1 rfl (Nat.le_of_ble_eq_true rfl) dX4_setRate_26 ⟨Nat.zero_le _, Nat.zero_le _⟩ (fun H locs S => ?_)
      refine lv_if_ne (tgt := 42) hx hb dX4_setRate_29 (by decide) (fun z => False.elim (h ⟨poR_w c_1, bI_t z⟩)) (fun _ => ?_)
      exact r_throw X S hst hno (is := 59) (text := "level or rate is out of range") hl.1 (by decide +kernel) (hts (.classLink RX4 57 "java/lang/IllegalArgumentException") (by decide +kernel)) (hts (.initialized "java/lang/IllegalArgumentException") (by decide +kernel)) (by decide +kernel) (hat61 hE.2.2.2.2 hts (fun w h => List.mem_cons_of_mem _ (by first | exact List.mem_append_right _ h | exact List.mem_append_left _ (List.mem_append_right _ h) | exact List.mem_append_left _ (List.mem_append_left _ (List.mem_append_right _ h))))) hgd61 dX4_setRate_32 dX4_setRate_35 dX4_setRate_36 dX4_setRate_38 dX4_setRate_41 ⟨Nat.le_of_ble_eq_true rfl, Nat.le_of_ble_eq_true rfl, Nat.le_of_ble_eq_true rfl, Nat.le_of_ble_eq_true rfl⟩ (Nat.le_refl _) (Nat.le_refl _) rfl

set_option maxHeartbeats 1000000 in
set_option maxRecDepth 100000 in
theorem c_X4_setBand (l : Launch) (D : va_G) (cA : Nat → ClassId) (ad : Nat → Nat) (sz : Nat) (F : FF) (fr tt : Int32) (h1 : wi fr 1 30 = true) (h2 : wi tt fr 30 = true) : CI l D cA ad sz yX4_setBand wsX4_setBand 1 22 0 0 [.ref (ad 0), .int fr, .int tt] F none (u2 (u2 F 0 3 fr) 0 4 tt) := by
  refine CI_of (own := RX4) (cc := cX4_setBand) (maxL := 3) (ret := none) (by decide +kernel) rfl rfl (Nat.le_of_ble_eq_true rfl) ?_
  intro p e s m below meth c ls X S hr hl
  obtain ⟨⟨hx, hb, hml, hown, hts⟩, hE, hI, hlocks⟩ := id X
  have hl : lv_has ls 3 [(0, .ref (ad 0)), (1, .int fr), (2, .int tt)] := hl
  have hw4 : ∀ w ∈ wsX40, w.before _ s = true := fun w h => hts w ((by decide +kernel : ∀ w ∈ wsX40, w ∈ wsX4_setBand) w h)
  refine lv_iload_n hx hb dX4_setBand_0 rfl (lv_at hl 1 rfl) ?_
  refine lv_iconst (v := 1) hx hb dX4_setBand_1 (by decide) ?_
  refine lv_bipush (v := 30) hx hb dX4_setBand_2 (by decide) ?_
  refine r_S0 X S (c_X4_isWithin l D cA ad _ F fr 1 30) (va_cwS 3 hts gX4_setBand_X4_isWithin rfl rfl rfl (by decide +kernel) ⟨Nat.le_of_ble_eq_true rfl, Nat.le_of_ble_eq_true rfl⟩) rfl hl.1 rfl (Nat.le_of_ble_eq_true rfl) dX4_setBand_4 ⟨Nat.zero_le _, Nat.zero_le _⟩ (fun H locs S => ?_)
  refine lv_if_eq (tgt := 20) hx hb dX4_setBand_7 (by decide) (fun z => False.elim (by rw [h1] at z; revert z; decide)) (fun _ => ?_)
  refine lv_iload_n hx hb dX4_setBand_10 rfl (lv_at hl 2 rfl) ?_
  refine lv_iload_n hx hb dX4_setBand_11 rfl (lv_at hl 1 rfl) ?_
  refine lv_bipush (v := 30) hx hb dX4_setBand_12 (by decide) ?_
  refine r_S0 X S (c_X4_isWithin l D cA ad _ F tt fr 30) (va_cwS 3 hts gX4_setBand_X4_isWithin rfl rfl rfl (by decide +kernel) ⟨Nat.le_of_ble_eq_true rfl, Nat.le_of_ble_eq_true rfl⟩) rfl hl.1 rfl (Nat.le_of_ble_eq_true rfl) dX4_setBand_14 ⟨Nat.zero_le _, Nat.zero_le _⟩ (fun H locs S => ?_)
  refine lv_if_ne (tgt := 30) hx hb dX4_setBand_17 (by decide) (fun _ => ?_) (fun z => False.elim (by rw [h2] at z; revert z; decide))
  refine lv_aload_n hx hb dX4_setBand_30 rfl (lv_at hl 0 rfl) ?_
  refine lv_iload_n hx hb dX4_setBand_31 rfl (lv_at hl 1 rfl) ?_
  refine r_puti X S hw4 ob_0 3 ⟨rfl, by decide, rfl⟩ rfl (hts (.fieldLink RX4 22 "TermBill" "bandFrom" "I") (by decide +kernel)) tyX4 tyX4_ok nmX4 rfl rfl dX4_setBand_32 (fun H locs S => ?_)
  obtain ⟨F_1, eF_1⟩ : ∃ z, z = u2 F 0 3 fr := ⟨_, rfl⟩
  rw [← eF_1] at S
  refine lv_aload_n hx hb dX4_setBand_35 rfl (lv_at hl 0 rfl) ?_
  refine lv_iload_n hx hb dX4_setBand_36 rfl (lv_at hl 2 rfl) ?_
  refine r_puti X S hw4 ob_0 4 ⟨rfl, by decide, rfl⟩ rfl (hts (.fieldLink RX4 26 "TermBill" "bandTo" "I") (by decide +kernel)) tyX4 tyX4_ok nmX4 rfl rfl dX4_setBand_37 (fun H locs S => ?_)
  obtain ⟨F_2, eF_2⟩ : ∃ z, z = u2 F_1 0 4 tt := ⟨_, rfl⟩
  rw [← eF_2] at S
  exact r_vret X S hr dX4_setBand_40 (Nat.le_of_ble_eq_true rfl) (Nat.le_of_ble_eq_true rfl) (by simp only [eF_2, eF_1])

set_option maxHeartbeats 1000000 in
set_option maxRecDepth 100000 in
theorem x1_X4_setBand (l : Launch) (hst : l.stackTraces = false) (D : va_G) (cA : Nat → ClassId) (ad : Nat → Nat) (sz : Nat) (F : FF) (fr tt : Int32) (h : ¬ (wi fr 1 30 = true ∧ wi tt fr 30 = true)) : CX l D cA ad sz yX4_setBand wsX4_setBand 6 90 [.ref (ad 0), .int fr, .int tt] F "java/lang/IllegalArgumentException" F := by
  refine CX_of (own := RX4) (cc := cX4_setBand) (maxL := 3) (ret := none) (by decide +kernel) rfl rfl (Nat.le_of_ble_eq_true rfl) ?_
  intro p e s m below meth c ls X S hno hl
  obtain ⟨⟨hx, hb, hml, hown, hts⟩, hE, hI, hlocks⟩ := id X
  have hl : lv_has ls 3 [(0, .ref (ad 0)), (1, .int fr), (2, .int tt)] := hl
  refine lv_iload_n hx hb dX4_setBand_0 rfl (lv_at hl 1 rfl) ?_
  refine lv_iconst (v := 1) hx hb dX4_setBand_1 (by decide) ?_
  refine lv_bipush (v := 30) hx hb dX4_setBand_2 (by decide) ?_
  refine r_S0 X S (c_X4_isWithin l D cA ad _ F fr 1 30) (va_cwS 3 hts gX4_setBand_X4_isWithin rfl rfl rfl (by decide +kernel) ⟨Nat.le_of_ble_eq_true rfl, Nat.le_of_ble_eq_true rfl⟩) rfl hl.1 rfl (Nat.le_of_ble_eq_true rfl) dX4_setBand_4 ⟨Nat.zero_le _, Nat.zero_le _⟩ (fun H locs S => ?_)
  refine lv_if_eq (tgt := 20) hx hb dX4_setBand_7 (by decide) (fun c_1 => ?_) (fun c_1 => ?_)
  · have c_1 : (wi fr 1 30) = false := bI_f c_1
    exact r_throw X S hst hno (is := 64) (text := "from or to is out of range") hl.1 (by decide +kernel) (hts (.classLink RX4 57 "java/lang/IllegalArgumentException") (by decide +kernel)) (hts (.initialized "java/lang/IllegalArgumentException") (by decide +kernel)) (by decide +kernel) (hat61 hE.2.2.2.2 hts (fun w h => List.mem_cons_of_mem _ (by first | exact List.mem_append_right _ h | exact List.mem_append_left _ (List.mem_append_right _ h) | exact List.mem_append_left _ (List.mem_append_left _ (List.mem_append_right _ h))))) hgd61 dX4_setBand_20 dX4_setBand_23 dX4_setBand_24 dX4_setBand_26 dX4_setBand_29 ⟨Nat.le_of_ble_eq_true rfl, Nat.le_of_ble_eq_true rfl, Nat.le_of_ble_eq_true rfl, Nat.le_of_ble_eq_true rfl⟩ (Nat.le_refl _) (Nat.le_refl _) rfl
  · have c_1 : (wi fr 1 30) = true := bI_t c_1
    refine lv_iload_n hx hb dX4_setBand_10 rfl (lv_at hl 2 rfl) ?_
    refine lv_iload_n hx hb dX4_setBand_11 rfl (lv_at hl 1 rfl) ?_
    refine lv_bipush (v := 30) hx hb dX4_setBand_12 (by decide) ?_
    refine r_S0 X S (c_X4_isWithin l D cA ad _ F tt fr 30) (va_cwS 3 hts gX4_setBand_X4_isWithin rfl rfl rfl (by decide +kernel) ⟨Nat.le_of_ble_eq_true rfl, Nat.le_of_ble_eq_true rfl⟩) rfl hl.1 rfl (Nat.le_of_ble_eq_true rfl) dX4_setBand_14 ⟨Nat.zero_le _, Nat.zero_le _⟩ (fun H locs S => ?_)
    refine lv_if_ne (tgt := 30) hx hb dX4_setBand_17 (by decide) (fun z => False.elim (h ⟨c_1, bI_t z⟩)) (fun _ => ?_)
    exact r_throw X S hst hno (is := 64) (text := "from or to is out of range") hl.1 (by decide +kernel) (hts (.classLink RX4 57 "java/lang/IllegalArgumentException") (by decide +kernel)) (hts (.initialized "java/lang/IllegalArgumentException") (by decide +kernel)) (by decide +kernel) (hat61 hE.2.2.2.2 hts (fun w h => List.mem_cons_of_mem _ (by first | exact List.mem_append_right _ h | exact List.mem_append_left _ (List.mem_append_right _ h) | exact List.mem_append_left _ (List.mem_append_left _ (List.mem_append_right _ h))))) hgd61 dX4_setBand_20 dX4_setBand_23 dX4_setBand_24 dX4_setBand_26 dX4_setBand_29 ⟨Nat.le_of_ble_eq_true rfl, Nat.le_of_ble_eq_true rfl, Nat.le_of_ble_eq_true rfl, Nat.le_of_ble_eq_true rfl⟩ (Nat.le_refl _) (Nat.le_refl _) rfl

set_option maxHeartbeats 1000000 in
set_option maxRecDepth 100000 in
theorem c_X4_setShare (l : Launch) (D : va_G) (cA : Nat → ClassId) (ad : Nat → Nat) (sz : Nat) (F : FF) (w : Nat) (hw : w < 16) (sh : Int32) (h2 : wi sh 0 100 = true) : CI l D cA ad sz yX4_setShare wsX4_setShare 1 22 0 0 [.ref (ad 0), .int (nI w), .int sh] F (some (.int (F 3 w))) (u2 F 3 w sh) := by
  refine CI_of (own := RX4) (cc := cX4_setShare) (maxL := 4) (ret := (some .int)) (by decide +kernel) rfl rfl (Nat.le_of_ble_eq_true rfl) ?_
  intro p e s m below meth c ls X S hr hl
  obtain ⟨⟨hx, hb, hml, hown, hts⟩, hE, hI, hlocks⟩ := id X
  have hl : lv_has ls 4 [(0, .ref (ad 0)), (1, .int (nI w)), (2, .int sh)] := hl
  have hw4 : ∀ w ∈ wsX40, w.before _ s = true := fun w h => hts w ((by decide +kernel : ∀ w ∈ wsX40, w ∈ wsX4_setShare) w h)
  refine lv_iload_n hx hb dX4_setShare_0 rfl (lv_at hl 1 rfl) ?_
  refine lv_if_lt (tgt := 23) hx hb dX4_setShare_1 (by decide) (fun z => False.elim (nI_pos (by omega) z)) (fun _ => ?_)
  refine lv_iload_n hx hb dX4_setShare_4 rfl (lv_at hl 1 rfl) ?_
  refine lv_aload_n hx hb dX4_setShare_5 rfl (lv_at hl 0 rfl) ?_
  refine r_getr (q := 3) X S hw4 ob_0 2 ⟨rfl, by decide, rfl⟩ rfl (hts (.fieldLink RX4 19 "TermBill" "shares" "[I") (by decide +kernel)) dX4_setShare_6 ?_
  refine r_leni X S (k := 3) (n := 16) (by unfold Ar; decide) (v := 16) rfl dX4_setShare_9 ?_
  refine lv_icmp_ge (tgt := 23) hx hb dX4_setShare_10 (by decide) (fun z => False.elim (nI_ge (a := w) (b := 16) hw (by omega) z)) (fun _ => ?_)
  refine lv_iload_n hx hb dX4_setShare_13 rfl (lv_at hl 2 rfl) ?_
  refine lv_iconst (v := 0) hx hb dX4_setShare_14 (by decide) ?_
  refine lv_bipush (v := 100) hx hb dX4_setShare_15 (by decide) ?_
  refine r_S0 X S (c_X4_isWithin l D cA ad _ F sh 0 100) (va_cwS 3 hts gX4_setShare_X4_isWithin rfl rfl rfl (by decide +kernel) ⟨Nat.le_of_ble_eq_true rfl, Nat.le_of_ble_eq_true rfl⟩) rfl hl.1 rfl (Nat.le_of_ble_eq_true rfl) dX4_setShare_17 ⟨Nat.zero_le _, Nat.zero_le _⟩ (fun H locs S => ?_)
  refine lv_if_ne (tgt := 33) hx hb dX4_setShare_20 (by decide) (fun _ => ?_) (fun z => False.elim (by rw [h2] at z; revert z; decide))
  refine lv_aload_n hx hb dX4_setShare_33 rfl (lv_at hl 0 rfl) ?_
  refine r_getr (q := 3) X S hw4 ob_0 2 ⟨rfl, by decide, rfl⟩ rfl (hts (.fieldLink RX4 19 "TermBill" "shares" "[I") (by decide +kernel)) dX4_setShare_34 ?_
  refine lv_iload_n hx hb dX4_setShare_37 rfl (lv_at hl 1 rfl) ?_
  refine r_ialN X S (k := 3) (n := 16) (by unfold Ar; decide) (q := w) rfl (by omega) (by decide) dX4_setShare_38 ?_
  refine lv_istore_n (lv' := [(3, .int (F 3 w)), (0, .ref (ad 0)), (1, .int (nI w)), (2, .int sh)]) hx hb dX4_setShare_39 rfl hl (by decide) rfl (fun ls hl => ?_)
  refine lv_aload_n hx hb dX4_setShare_40 rfl (lv_at hl 1 rfl) ?_
  refine r_getr (q := 3) X S hw4 ob_0 2 ⟨rfl, by decide, rfl⟩ rfl (hts (.fieldLink RX4 19 "TermBill" "shares" "[I") (by decide +kernel)) dX4_setShare_41 ?_
  refine lv_iload_n hx hb dX4_setShare_44 rfl (lv_at hl 2 rfl) ?_
  refine lv_iload_n hx hb dX4_setShare_45 rfl (lv_at hl 3 rfl) ?_
  refine r_iasN X S (k := 3) (n := 16) (by unfold Ar; decide) (q := w) rfl (by omega) (by decide) dX4_setShare_46 (fun H locs S => ?_)
  obtain ⟨F_1, eF_1⟩ : ∃ z, z = u2 F 3 w sh := ⟨_, rfl⟩
  rw [← eF_1] at S
  refine lv_iload_n hx hb dX4_setShare_47 rfl (lv_at hl 0 rfl) ?_
  exact r_iret X S hr dX4_setShare_48 (Nat.le_of_ble_eq_true rfl) (Nat.le_of_ble_eq_true rfl) (by rfl) (by simp only [eF_1])

set_option maxHeartbeats 1000000 in
set_option maxRecDepth 100000 in
theorem x1_X4_setShare (l : Launch) (hst : l.stackTraces = false) (D : va_G) (cA : Nat → ClassId) (ad : Nat → Nat) (sz : Nat) (F : FF) (wk sh : Int32) (h : ¬ (wi wk 0 15 = true ∧ wi sh 0 100 = true)) : CX l D cA ad sz yX4_setShare wsX4_setShare 6 90 [.ref (ad 0), .int wk, .int sh] F "java/lang/IllegalArgumentException" F := by
  refine CX_of (own := RX4) (cc := cX4_setShare) (maxL := 4) (ret := (some .int)) (by decide +kernel) rfl rfl (Nat.le_of_ble_eq_true rfl) ?_
  intro p e s m below meth c ls X S hno hl
  obtain ⟨⟨hx, hb, hml, hown, hts⟩, hE, hI, hlocks⟩ := id X
  have hl : lv_has ls 4 [(0, .ref (ad 0)), (1, .int wk), (2, .int sh)] := hl
  have hw4 : ∀ w ∈ wsX40, w.before _ s = true := fun w h => hts w ((by decide +kernel : ∀ w ∈ wsX40, w ∈ wsX4_setShare) w h)
  refine lv_iload_n hx hb dX4_setShare_0 rfl (lv_at hl 1 rfl) ?_
  refine lv_if_lt (tgt := 23) hx hb dX4_setShare_1 (by decide) (fun c_1 => ?_) (fun c_1 => ?_)
  · exact r_throw X S hst hno (is := 66) (text := "week or share is out of range") hl.1 (by decide +kernel) (hts (.classLink RX4 57 "java/lang/IllegalArgumentException") (by decide +kernel)) (hts (.initialized "java/lang/IllegalArgumentException") (by decide +kernel)) (by decide +kernel) (hat61 hE.2.2.2.2 hts (fun w h => List.mem_cons_of_mem _ (by first | exact List.mem_append_right _ h | exact List.mem_append_left _ (List.mem_append_right _ h) | exact List.mem_append_left _ (List.mem_append_left _ (List.mem_append_right _ h))))) hgd61 dX4_setShare_23 dX4_setShare_26 dX4_setShare_27 dX4_setShare_29 dX4_setShare_32 ⟨Nat.le_of_ble_eq_true rfl, Nat.le_of_ble_eq_true rfl, Nat.le_of_ble_eq_true rfl, Nat.le_of_ble_eq_true rfl⟩ (Nat.le_refl _) (Nat.le_refl _) rfl
  · refine lv_iload_n hx hb dX4_setShare_4 rfl (lv_at hl 1 rfl) ?_
    refine lv_aload_n hx hb dX4_setShare_5 rfl (lv_at hl 0 rfl) ?_
    refine r_getr (q := 3) X S hw4 ob_0 2 ⟨rfl, by decide, rfl⟩ rfl (hts (.fieldLink RX4 19 "TermBill" "shares" "[I") (by decide +kernel)) dX4_setShare_6 ?_
    refine r_leni X S (k := 3) (n := 16) (by unfold Ar; decide) (v := 16) rfl dX4_setShare_9 ?_
    refine lv_icmp_ge (tgt := 23) hx hb dX4_setShare_10 (by decide) (fun c_2 => ?_) (fun c_2 => ?_)
    · exact r_throw X S hst hno (is := 66) (text := "week or share is out of range") hl.1 (by decide +kernel) (hts (.classLink RX4 57 "java/lang/IllegalArgumentException") (by decide +kernel)) (hts (.initialized "java/lang/IllegalArgumentException") (by decide +kernel)) (by decide +kernel) (hat61 hE.2.2.2.2 hts (fun w h => List.mem_cons_of_mem _ (by first | exact List.mem_append_right _ h | exact List.mem_append_left _ (List.mem_append_right _ h) | exact List.mem_append_left _ (List.mem_append_left _ (List.mem_append_right _ h))))) hgd61 dX4_setShare_23 dX4_setShare_26 dX4_setShare_27 dX4_setShare_29 dX4_setShare_32 ⟨Nat.le_of_ble_eq_true rfl, Nat.le_of_ble_eq_true rfl, Nat.le_of_ble_eq_true rfl, Nat.le_of_ble_eq_true rfl⟩ (Nat.le_refl _) (Nat.le_refl _) rfl
    · refine lv_iload_n hx hb dX4_setShare_13 rfl (lv_at hl 2 rfl) ?_
      refine lv_iconst (v := 0) hx hb dX4_setShare_14 (by decide) ?_
      refine lv_bipush (v := 100) hx hb dX4_setShare_15 (by decide) ?_
      refine r_S0 X S (c_X4_isWithin l D cA ad _ F sh 0 100) (va_cwS 3 hts gX4_setShare_X4_isWithin rfl rfl rfl (by decide +kernel) ⟨Nat.le_of_ble_eq_true rfl, Nat.le_of_ble_eq_true rfl⟩) rfl hl.1 rfl (Nat.le_of_ble_eq_true rfl) dX4_setShare_17 ⟨Nat.zero_le _, Nat.zero_le _⟩ (fun H locs S => ?_)
      refine lv_if_ne (tgt := 33) hx hb dX4_setShare_20 (by decide) (fun z => False.elim (h ⟨wi_wk c_1 c_2, bI_t z⟩)) (fun _ => ?_)
      exact r_throw X S hst hno (is := 66) (text := "week or share is out of range") hl.1 (by decide +kernel) (hts (.classLink RX4 57 "java/lang/IllegalArgumentException") (by decide +kernel)) (hts (.initialized "java/lang/IllegalArgumentException") (by decide +kernel)) (by decide +kernel) (hat61 hE.2.2.2.2 hts (fun w h => List.mem_cons_of_mem _ (by first | exact List.mem_append_right _ h | exact List.mem_append_left _ (List.mem_append_right _ h) | exact List.mem_append_left _ (List.mem_append_left _ (List.mem_append_right _ h))))) hgd61 dX4_setShare_23 dX4_setShare_26 dX4_setShare_27 dX4_setShare_29 dX4_setShare_32 ⟨Nat.le_of_ble_eq_true rfl, Nat.le_of_ble_eq_true rfl, Nat.le_of_ble_eq_true rfl, Nat.le_of_ble_eq_true rfl⟩ (Nat.le_refl _) (Nat.le_refl _) rfl

set_option maxHeartbeats 1000000 in
set_option maxRecDepth 100000 in
theorem c_X4_setFees (l : Launch) (D : va_G) (cA : Nat → ClassId) (ad : Nat → Nat) (sz : Nat) (F : FF) (fe lm : Int32) (h1 : wi fe 0 100000 = true) (h2 : wi lm 0 1000000 = true) : CI l D cA ad sz yX4_setFees wsX4_setFees 1 22 0 0 [.ref (ad 0), .int fe, .int lm] F none (u2 (u2 F 0 5 fe) 0 6 lm) := by
  refine CI_of (own := RX4) (cc := cX4_setFees) (maxL := 3) (ret := none) (by decide +kernel) rfl rfl (Nat.le_of_ble_eq_true rfl) ?_
  intro p e s m below meth c ls X S hr hl
  obtain ⟨⟨hx, hb, hml, hown, hts⟩, hE, hI, hlocks⟩ := id X
  have hl : lv_has ls 3 [(0, .ref (ad 0)), (1, .int fe), (2, .int lm)] := hl
  have hw4 : ∀ w ∈ wsX40, w.before _ s = true := fun w h => hts w ((by decide +kernel : ∀ w ∈ wsX40, w ∈ wsX4_setFees) w h)
  refine lv_iload_n hx hb dX4_setFees_0 rfl (lv_at hl 1 rfl) ?_
  refine lv_iconst (v := 0) hx hb dX4_setFees_1 (by decide) ?_
  refine lv_ldc (v := 100000) hx hb hown (hts (.constant RX4 52 100000) (by decide +kernel)) dX4_setFees_2 ?_
  refine r_S0 X S (c_X4_isWithin l D cA ad _ F fe 0 100000) (va_cwS 3 hts gX4_setFees_X4_isWithin rfl rfl rfl (by decide +kernel) ⟨Nat.le_of_ble_eq_true rfl, Nat.le_of_ble_eq_true rfl⟩) rfl hl.1 rfl (Nat.le_of_ble_eq_true rfl) dX4_setFees_4 ⟨Nat.zero_le _, Nat.zero_le _⟩ (fun H locs S => ?_)
  refine lv_if_eq (tgt := 20) hx hb dX4_setFees_7 (by decide) (fun z => False.elim (by rw [h1] at z; revert z; decide)) (fun _ => ?_)
  refine lv_iload_n hx hb dX4_setFees_10 rfl (lv_at hl 2 rfl) ?_
  refine lv_iconst (v := 0) hx hb dX4_setFees_11 (by decide) ?_
  refine lv_ldc (v := 1000000) hx hb hown (hts (.constant RX4 68 1000000) (by decide +kernel)) dX4_setFees_12 ?_
  refine r_S0 X S (c_X4_isWithin l D cA ad _ F lm 0 1000000) (va_cwS 3 hts gX4_setFees_X4_isWithin rfl rfl rfl (by decide +kernel) ⟨Nat.le_of_ble_eq_true rfl, Nat.le_of_ble_eq_true rfl⟩) rfl hl.1 rfl (Nat.le_of_ble_eq_true rfl) dX4_setFees_14 ⟨Nat.zero_le _, Nat.zero_le _⟩ (fun H locs S => ?_)
  refine lv_if_ne (tgt := 30) hx hb dX4_setFees_17 (by decide) (fun _ => ?_) (fun z => False.elim (by rw [h2] at z; revert z; decide))
  refine lv_aload_n hx hb dX4_setFees_30 rfl (lv_at hl 0 rfl) ?_
  refine lv_iload_n hx hb dX4_setFees_31 rfl (lv_at hl 1 rfl) ?_
  refine r_puti X S hw4 ob_0 5 ⟨rfl, by decide, rfl⟩ rfl (hts (.fieldLink RX4 29 "TermBill" "lateFee" "I") (by decide +kernel)) tyX4 tyX4_ok nmX4 rfl rfl dX4_setFees_32 (fun H locs S => ?_)
  obtain ⟨F_1, eF_1⟩ : ∃ z, z = u2 F 0 5 fe := ⟨_, rfl⟩
  rw [← eF_1] at S
  refine lv_aload_n hx hb dX4_setFees_35 rfl (lv_at hl 0 rfl) ?_
  refine lv_iload_n hx hb dX4_setFees_36 rfl (lv_at hl 2 rfl) ?_
  refine r_puti X S hw4 ob_0 6 ⟨rfl, by decide, rfl⟩ rfl (hts (.fieldLink RX4 32 "TermBill" "holdLimit" "I") (by decide +kernel)) tyX4 tyX4_ok nmX4 rfl rfl dX4_setFees_37 (fun H locs S => ?_)
  obtain ⟨F_2, eF_2⟩ : ∃ z, z = u2 F_1 0 6 lm := ⟨_, rfl⟩
  rw [← eF_2] at S
  exact r_vret X S hr dX4_setFees_40 (Nat.le_of_ble_eq_true rfl) (Nat.le_of_ble_eq_true rfl) (by simp only [eF_2, eF_1])

set_option maxHeartbeats 1000000 in
set_option maxRecDepth 100000 in
theorem x1_X4_setFees (l : Launch) (hst : l.stackTraces = false) (D : va_G) (cA : Nat → ClassId) (ad : Nat → Nat) (sz : Nat) (F : FF) (fe lm : Int32) (h : ¬ (wi fe 0 100000 = true ∧ wi lm 0 1000000 = true)) : CX l D cA ad sz yX4_setFees wsX4_setFees 6 90 [.ref (ad 0), .int fe, .int lm] F "java/lang/IllegalArgumentException" F := by
  refine CX_of (own := RX4) (cc := cX4_setFees) (maxL := 3) (ret := none) (by decide +kernel) rfl rfl (Nat.le_of_ble_eq_true rfl) ?_
  intro p e s m below meth c ls X S hno hl
  obtain ⟨⟨hx, hb, hml, hown, hts⟩, hE, hI, hlocks⟩ := id X
  have hl : lv_has ls 3 [(0, .ref (ad 0)), (1, .int fe), (2, .int lm)] := hl
  refine lv_iload_n hx hb dX4_setFees_0 rfl (lv_at hl 1 rfl) ?_
  refine lv_iconst (v := 0) hx hb dX4_setFees_1 (by decide) ?_
  refine lv_ldc (v := 100000) hx hb hown (hts (.constant RX4 52 100000) (by decide +kernel)) dX4_setFees_2 ?_
  refine r_S0 X S (c_X4_isWithin l D cA ad _ F fe 0 100000) (va_cwS 3 hts gX4_setFees_X4_isWithin rfl rfl rfl (by decide +kernel) ⟨Nat.le_of_ble_eq_true rfl, Nat.le_of_ble_eq_true rfl⟩) rfl hl.1 rfl (Nat.le_of_ble_eq_true rfl) dX4_setFees_4 ⟨Nat.zero_le _, Nat.zero_le _⟩ (fun H locs S => ?_)
  refine lv_if_eq (tgt := 20) hx hb dX4_setFees_7 (by decide) (fun c_1 => ?_) (fun c_1 => ?_)
  · have c_1 : (wi fe 0 100000) = false := bI_f c_1
    exact r_throw X S hst hno (is := 69) (text := "fee or limit is out of range") hl.1 (by decide +kernel) (hts (.classLink RX4 57 "java/lang/IllegalArgumentException") (by decide +kernel)) (hts (.initialized "java/lang/IllegalArgumentException") (by decide +kernel)) (by decide +kernel) (hat61 hE.2.2.2.2 hts (fun w h => List.mem_cons_of_mem _ (by first | exact List.mem_append_right _ h | exact List.mem_append_left _ (List.mem_append_right _ h) | exact List.mem_append_left _ (List.mem_append_left _ (List.mem_append_right _ h))))) hgd61 dX4_setFees_20 dX4_setFees_23 dX4_setFees_24 dX4_setFees_26 dX4_setFees_29 ⟨Nat.le_of_ble_eq_true rfl, Nat.le_of_ble_eq_true rfl, Nat.le_of_ble_eq_true rfl, Nat.le_of_ble_eq_true rfl⟩ (Nat.le_refl _) (Nat.le_refl _) rfl
  · have c_1 : (wi fe 0 100000) = true := bI_t c_1
    refine lv_iload_n hx hb dX4_setFees_10 rfl (lv_at hl 2 rfl) ?_
    refine lv_iconst (v := 0) hx hb dX4_setFees_11 (by decide) ?_
    refine lv_ldc (v := 1000000) hx hb hown (hts (.constant RX4 68 1000000) (by decide +kernel)) dX4_setFees_12 ?_
    refine r_S0 X S (c_X4_isWithin l D cA ad _ F lm 0 1000000) (va_cwS 3 hts gX4_setFees_X4_isWithin rfl rfl rfl (by decide +kernel) ⟨Nat.le_of_ble_eq_true rfl, Nat.le_of_ble_eq_true rfl⟩) rfl hl.1 rfl (Nat.le_of_ble_eq_true rfl) dX4_setFees_14 ⟨Nat.zero_le _, Nat.zero_le _⟩ (fun H locs S => ?_)
    refine lv_if_ne (tgt := 30) hx hb dX4_setFees_17 (by decide) (fun z => False.elim (h ⟨c_1, bI_t z⟩)) (fun _ => ?_)
    exact r_throw X S hst hno (is := 69) (text := "fee or limit is out of range") hl.1 (by decide +kernel) (hts (.classLink RX4 57 "java/lang/IllegalArgumentException") (by decide +kernel)) (hts (.initialized "java/lang/IllegalArgumentException") (by decide +kernel)) (by decide +kernel) (hat61 hE.2.2.2.2 hts (fun w h => List.mem_cons_of_mem _ (by first | exact List.mem_append_right _ h | exact List.mem_append_left _ (List.mem_append_right _ h) | exact List.mem_append_left _ (List.mem_append_left _ (List.mem_append_right _ h))))) hgd61 dX4_setFees_20 dX4_setFees_23 dX4_setFees_24 dX4_setFees_26 dX4_setFees_29 ⟨Nat.le_of_ble_eq_true rfl, Nat.le_of_ble_eq_true rfl, Nat.le_of_ble_eq_true rfl, Nat.le_of_ble_eq_true rfl⟩ (Nat.le_refl _) (Nat.le_refl _) rfl

set_option maxHeartbeats 1000000 in
set_option maxRecDepth 100000 in
theorem c_X4_setStudent (l : Launch) (D : va_G) (cA : Nat → ClassId) (ad : Nat → Nat) (sz : Nat) (F : FF) (i : Nat) (hi : i < 4) (lv : Int32) (b : Bool) (nd : Int32) (h1 : wi lv 0 1 = true) (h2 : wi nd 0 1000000 = true) : CI l D cA ad sz yX4_setStudent wsX4_setStudent 1 22 0 0 [.ref (ad 0), .int (nI i), .int lv, .int (bI b), .int nd] F none (u2 (u2 (u2 F (4 + 8 * i) 3 lv) (4 + 8 * i) 4 (bI b)) (4 + 8 * i) 5 nd) := by
  refine CI_of (own := RX4) (cc := cX4_setStudent) (maxL := 6) (ret := none) (by decide +kernel) rfl rfl (Nat.le_of_ble_eq_true rfl) ?_
  intro p e s m below meth c ls X S hr hl
  obtain ⟨⟨hx, hb, hml, hown, hts⟩, hE, hI, hlocks⟩ := id X
  have hl : lv_has ls 6 [(0, .ref (ad 0)), (1, .int (nI i)), (2, .int lv), (3, .int (bI b)), (4, .int nd)] := hl
  have hw3 : ∀ w ∈ wsX30, w.before _ s = true := fun w h => hts w ((by decide +kernel : ∀ w ∈ wsX30, w ∈ wsX4_setStudent) w h)
  refine lv_aload_n hx hb dX4_setStudent_0 rfl (lv_at hl 0 rfl) ?_
  refine lv_iload_n hx hb dX4_setStudent_1 rfl (lv_at hl 1 rfl) ?_
  refine r_V0 X S (c_X4_studentAt l D cA ad _ F i hi) ob_0 rfl (cwV 1 hts gX4_setStudent_X4_studentAt rfl rfl rfl (by decide +kernel) ⟨Nat.le_of_ble_eq_true rfl, Nat.le_of_ble_eq_true rfl⟩) rfl hl.1 rfl (Nat.le_of_ble_eq_true rfl) dX4_setStudent_2 ⟨Nat.zero_le _, Nat.zero_le _⟩ (fun H locs S => ?_)
  refine lv_astore (lv' := [(5, .ref (ad (4 + 8 * i))), (0, .ref (ad 0)), (1, .int (nI i)), (2, .int lv), (3, .int (bI b)), (4, .int nd)]) hx hb dX4_setStudent_5 hl (by decide) rfl (fun ls hl => ?_)
  refine lv_iload_n hx hb dX4_setStudent_7 rfl (lv_at hl 3 rfl) ?_
  refine lv_iconst (v := 0) hx hb dX4_setStudent_8 (by decide) ?_
  refine lv_iconst (v := 1) hx hb dX4_setStudent_9 (by decide) ?_
  refine r_S0 X S (c_X4_isWithin l D cA ad _ F lv 0 1) (va_cwS 3 hts gX4_setStudent_X4_isWithin rfl rfl rfl (by decide +kernel) ⟨Nat.le_of_ble_eq_true rfl, Nat.le_of_ble_eq_true rfl⟩) rfl hl.1 rfl (Nat.le_of_ble_eq_true rfl) dX4_setStudent_10 ⟨Nat.zero_le _, Nat.zero_le _⟩ (fun H locs S => ?_)
  refine lv_if_eq (tgt := 27) hx hb dX4_setStudent_13 (by decide) (fun z => False.elim (by rw [h1] at z; revert z; decide)) (fun _ => ?_)
  refine lv_iload hx hb dX4_setStudent_16 (lv_at hl 5 rfl) ?_
  refine lv_iconst (v := 0) hx hb dX4_setStudent_18 (by decide) ?_
  refine lv_ldc (v := 1000000) hx hb hown (hts (.constant RX4 68 1000000) (by decide +kernel)) dX4_setStudent_19 ?_
  refine r_S0 X S (c_X4_isWithin l D cA ad _ F nd 0 1000000) (va_cwS 3 hts gX4_setStudent_X4_isWithin rfl rfl rfl (by decide +kernel) ⟨Nat.le_of_ble_eq_true rfl, Nat.le_of_ble_eq_true rfl⟩) rfl hl.1 rfl (Nat.le_of_ble_eq_true rfl) dX4_setStudent_21 ⟨Nat.zero_le _, Nat.zero_le _⟩ (fun H locs S => ?_)
  refine lv_if_ne (tgt := 37) hx hb dX4_setStudent_24 (by decide) (fun _ => ?_) (fun z => False.elim (by rw [h2] at z; revert z; decide))
  refine lv_aload hx hb dX4_setStudent_37 (lv_at hl 0 rfl) ?_
  refine lv_iload_n hx hb dX4_setStudent_39 rfl (lv_at hl 3 rfl) ?_
  refine r_puti X S hw3 (ob_S i hi) 3 ⟨rfl, by decide, rfl⟩ rfl (hts (.fieldLink RX4 77 "TermBill$Student" "level" "I") (by decide +kernel)) tyX3 tyX3_ok nmX3 rfl rfl dX4_setStudent_40 (fun H locs S => ?_)
  obtain ⟨F_1, eF_1⟩ : ∃ z, z = u2 F (4 + 8 * i) 3 lv := ⟨_, rfl⟩
  rw [← eF_1] at S
  refine lv_aload hx hb dX4_setStudent_43 (lv_at hl 0 rfl) ?_
  refine lv_iload_n hx hb dX4_setStudent_45 rfl (lv_at hl 4 rfl) ?_
  refine r_put X S hw3 (ob_S i hi) 4 ⟨rfl, by decide, rfl⟩ rfl (hts (.fieldLink RX4 80 "TermBill$Student" "isResident" "Z") (by decide +kernel)) tyX3 tyX3_ok nmX3 rfl (bI_narrow _) (bI_fits _) dX4_setStudent_46 (fun H locs S => ?_)
  obtain ⟨F_2, eF_2⟩ : ∃ z, z = u2 F_1 (4 + 8 * i) 4 (bI b) := ⟨_, rfl⟩
  rw [← eF_2] at S
  refine lv_aload hx hb dX4_setStudent_49 (lv_at hl 0 rfl) ?_
  refine lv_iload hx hb dX4_setStudent_51 (lv_at hl 5 rfl) ?_
  refine r_puti X S hw3 (ob_S i hi) 5 ⟨rfl, by decide, rfl⟩ rfl (hts (.fieldLink RX4 84 "TermBill$Student" "need" "I") (by decide +kernel)) tyX3 tyX3_ok nmX3 rfl rfl dX4_setStudent_53 (fun H locs S => ?_)
  obtain ⟨F_3, eF_3⟩ : ∃ z, z = u2 F_2 (4 + 8 * i) 5 nd := ⟨_, rfl⟩
  rw [← eF_3] at S
  exact r_vret X S hr dX4_setStudent_56 (Nat.le_of_ble_eq_true rfl) (Nat.le_of_ble_eq_true rfl) (by simp only [eF_3, eF_2, eF_1])

set_option maxHeartbeats 1000000 in
set_option maxRecDepth 100000 in
theorem x1_X4_setStudent (l : Launch) (hst : l.stackTraces = false) (D : va_G) (cA : Nat → ClassId) (ad : Nat → Nat) (sz : Nat) (F : FF) (x lv : Int32) (b : Bool) (nd : Int32) (h : wi x 0 3 = false) : CX l D cA ad sz yX4_setStudent wsX4_setStudent 7 112 [.ref (ad 0), .int x, .int lv, .int (bI b), .int nd] F "java/lang/IndexOutOfBoundsException" F := by
  refine CX_of (own := RX4) (cc := cX4_setStudent) (maxL := 6) (ret := none) (by decide +kernel) rfl rfl (Nat.le_of_ble_eq_true rfl) ?_
  intro p e s m below meth c ls X S hno hl
  obtain ⟨⟨hx, hb, hml, hown, hts⟩, hE, hI, hlocks⟩ := id X
  have hl : lv_has ls 6 [(0, .ref (ad 0)), (1, .int x), (2, .int lv), (3, .int (bI b)), (4, .int nd)] := hl
  refine lv_aload_n hx hb dX4_setStudent_0 rfl (lv_at hl 0 rfl) ?_
  refine lv_iload_n hx hb dX4_setStudent_1 rfl (lv_at hl 1 rfl) ?_
  refine r_VX X S (x_X4_studentAt l hst D cA ad _ F x h) ob_0 rfl (cwV 1 hts gX4_setStudent_X4_studentAt rfl rfl rfl (by decide +kernel) ⟨Nat.le_of_ble_eq_true rfl, Nat.le_of_ble_eq_true rfl⟩) rfl hl.1 rfl (Nat.le_of_ble_eq_true rfl) dX4_setStudent_2 ⟨Nat.le_of_ble_eq_true rfl, Nat.le_of_ble_eq_true rfl⟩ (fun ce q9 H locs S h1 h2 h3 => ?_)
  exact r_out X S hno h1 h2 h3 (Nat.le_refl _) (Nat.le_refl _) rfl

set_option maxHeartbeats 1000000 in
set_option maxRecDepth 100000 in
theorem x2_X4_setStudent (l : Launch) (hst : l.stackTraces = false) (D : va_G) (cA : Nat → ClassId) (ad : Nat → Nat) (sz : Nat) (F : FF) (i : Nat) (hi : i < 4) (lv : Int32) (b : Bool) (nd : Int32) (h : ¬ (wi lv 0 1 = true ∧ wi nd 0 1000000 = true)) : CX l D cA ad sz yX4_setStudent wsX4_setStudent 6 90 [.ref (ad 0), .int (nI i), .int lv, .int (bI b), .int nd] F "java/lang/IllegalArgumentException" F := by
  refine CX_of (own := RX4) (cc := cX4_setStudent) (maxL := 6) (ret := none) (by decide +kernel) rfl rfl (Nat.le_of_ble_eq_true rfl) ?_
  intro p e s m below meth c ls X S hno hl
  obtain ⟨⟨hx, hb, hml, hown, hts⟩, hE, hI, hlocks⟩ := id X
  have hl : lv_has ls 6 [(0, .ref (ad 0)), (1, .int (nI i)), (2, .int lv), (3, .int (bI b)), (4, .int nd)] := hl
  refine lv_aload_n hx hb dX4_setStudent_0 rfl (lv_at hl 0 rfl) ?_
  refine lv_iload_n hx hb dX4_setStudent_1 rfl (lv_at hl 1 rfl) ?_
  refine r_V0 X S (c_X4_studentAt l D cA ad _ F i hi) ob_0 rfl (cwV 1 hts gX4_setStudent_X4_studentAt rfl rfl rfl (by decide +kernel) ⟨Nat.le_of_ble_eq_true rfl, Nat.le_of_ble_eq_true rfl⟩) rfl hl.1 rfl (Nat.le_of_ble_eq_true rfl) dX4_setStudent_2 ⟨Nat.zero_le _, Nat.zero_le _⟩ (fun H locs S => ?_)
  refine lv_astore (lv' := [(5, .ref (ad (4 + 8 * i))), (0, .ref (ad 0)), (1, .int (nI i)), (2, .int lv), (3, .int (bI b)), (4, .int nd)]) hx hb dX4_setStudent_5 hl (by decide) rfl (fun ls hl => ?_)
  refine lv_iload_n hx hb dX4_setStudent_7 rfl (lv_at hl 3 rfl) ?_
  refine lv_iconst (v := 0) hx hb dX4_setStudent_8 (by decide) ?_
  refine lv_iconst (v := 1) hx hb dX4_setStudent_9 (by decide) ?_
  refine r_S0 X S (c_X4_isWithin l D cA ad _ F lv 0 1) (va_cwS 3 hts gX4_setStudent_X4_isWithin rfl rfl rfl (by decide +kernel) ⟨Nat.le_of_ble_eq_true rfl, Nat.le_of_ble_eq_true rfl⟩) rfl hl.1 rfl (Nat.le_of_ble_eq_true rfl) dX4_setStudent_10 ⟨Nat.zero_le _, Nat.zero_le _⟩ (fun H locs S => ?_)
  refine lv_if_eq (tgt := 27) hx hb dX4_setStudent_13 (by decide) (fun c_1 => ?_) (fun c_1 => ?_)
  · have c_1 : (wi lv 0 1) = false := bI_f c_1
    exact r_throw X S hst hno (is := 75) (text := "level or need is out of range") hl.1 (by decide +kernel) (hts (.classLink RX4 57 "java/lang/IllegalArgumentException") (by decide +kernel)) (hts (.initialized "java/lang/IllegalArgumentException") (by decide +kernel)) (by decide +kernel) (hat61 hE.2.2.2.2 hts (fun w h => List.mem_cons_of_mem _ (by first | exact List.mem_append_right _ h | exact List.mem_append_left _ (List.mem_append_right _ h) | exact List.mem_append_left _ (List.mem_append_left _ (List.mem_append_right _ h))))) hgd61 dX4_setStudent_27 dX4_setStudent_30 dX4_setStudent_31 dX4_setStudent_33 dX4_setStudent_36 ⟨Nat.le_of_ble_eq_true rfl, Nat.le_of_ble_eq_true rfl, Nat.le_of_ble_eq_true rfl, Nat.le_of_ble_eq_true rfl⟩ (Nat.le_refl _) (Nat.le_refl _) rfl
  · have c_1 : (wi lv 0 1) = true := bI_t c_1
    refine lv_iload hx hb dX4_setStudent_16 (lv_at hl 5 rfl) ?_
    refine lv_iconst (v := 0) hx hb dX4_setStudent_18 (by decide) ?_
    refine lv_ldc (v := 1000000) hx hb hown (hts (.constant RX4 68 1000000) (by decide +kernel)) dX4_setStudent_19 ?_
    refine r_S0 X S (c_X4_isWithin l D cA ad _ F nd 0 1000000) (va_cwS 3 hts gX4_setStudent_X4_isWithin rfl rfl rfl (by decide +kernel) ⟨Nat.le_of_ble_eq_true rfl, Nat.le_of_ble_eq_true rfl⟩) rfl hl.1 rfl (Nat.le_of_ble_eq_true rfl) dX4_setStudent_21 ⟨Nat.zero_le _, Nat.zero_le _⟩ (fun H locs S => ?_)
    refine lv_if_ne (tgt := 37) hx hb dX4_setStudent_24 (by decide) (fun z => False.elim (h ⟨c_1, bI_t z⟩)) (fun _ => ?_)
    exact r_throw X S hst hno (is := 75) (text := "level or need is out of range") hl.1 (by decide +kernel) (hts (.classLink RX4 57 "java/lang/IllegalArgumentException") (by decide +kernel)) (hts (.initialized "java/lang/IllegalArgumentException") (by decide +kernel)) (by decide +kernel) (hat61 hE.2.2.2.2 hts (fun w h => List.mem_cons_of_mem _ (by first | exact List.mem_append_right _ h | exact List.mem_append_left _ (List.mem_append_right _ h) | exact List.mem_append_left _ (List.mem_append_left _ (List.mem_append_right _ h))))) hgd61 dX4_setStudent_27 dX4_setStudent_30 dX4_setStudent_31 dX4_setStudent_33 dX4_setStudent_36 ⟨Nat.le_of_ble_eq_true rfl, Nat.le_of_ble_eq_true rfl, Nat.le_of_ble_eq_true rfl, Nat.le_of_ble_eq_true rfl⟩ (Nat.le_refl _) (Nat.le_refl _) rfl

set_option maxHeartbeats 1000000 in
set_option maxRecDepth 100000 in
theorem c_X4_setSponsor (l : Launch) (D : va_G) (cA : Nat → ClassId) (ad : Nat → Nat) (sz : Nat) (F : FF) (i : Nat) (hi : i < 4) (ks lm : Int32) (h1 : wi ks 0 7 = true) (h2 : wi lm 0 1000000 = true) : CI l D cA ad sz yX4_setSponsor wsX4_setSponsor 1 22 0 0 [.ref (ad 0), .int (nI i), .int ks, .int lm] F none (u2 (u2 F (4 + 8 * i) 8 ks) (4 + 8 * i) 9 lm) := by
  refine CI_of (own := RX4) (cc := cX4_setSponsor) (maxL := 5) (ret := none) (by decide +kernel) rfl rfl (Nat.le_of_ble_eq_true rfl) ?_
  intro p e s m below meth c ls X S hr hl
  obtain ⟨⟨hx, hb, hml, hown, hts⟩, hE, hI, hlocks⟩ := id X
  have hl : lv_has ls 5 [(0, .ref (ad 0)), (1, .int (nI i)), (2, .int ks), (3, .int lm)] := hl
  have hw3 : ∀ w ∈ wsX30, w.before _ s = true := fun w h => hts w ((by decide +kernel : ∀ w ∈ wsX30, w ∈ wsX4_setSponsor) w h)
  refine lv_aload_n hx hb dX4_setSponsor_0 rfl (lv_at hl 0 rfl) ?_
  refine lv_iload_n hx hb dX4_setSponsor_1 rfl (lv_at hl 1 rfl) ?_
  refine r_V0 X S (c_X4_studentAt l D cA ad _ F i hi) ob_0 rfl (cwV 1 hts gX4_setSponsor_X4_studentAt rfl rfl rfl (by decide +kernel) ⟨Nat.le_of_ble_eq_true rfl, Nat.le_of_ble_eq_true rfl⟩) rfl hl.1 rfl (Nat.le_of_ble_eq_true rfl) dX4_setSponsor_2 ⟨Nat.zero_le _, Nat.zero_le _⟩ (fun H locs S => ?_)
  refine lv_astore (lv' := [(4, .ref (ad (4 + 8 * i))), (0, .ref (ad 0)), (1, .int (nI i)), (2, .int ks), (3, .int lm)]) hx hb dX4_setSponsor_5 hl (by decide) rfl (fun ls hl => ?_)
  refine lv_iload_n hx hb dX4_setSponsor_7 rfl (lv_at hl 3 rfl) ?_
  refine lv_iconst (v := 0) hx hb dX4_setSponsor_8 (by decide) ?_
  refine lv_bipush (v := 7) hx hb dX4_setSponsor_9 (by decide) ?_
  refine r_S0 X S (c_X4_isWithin l D cA ad _ F ks 0 7) (va_cwS 3 hts gX4_setSponsor_X4_isWithin rfl rfl rfl (by decide +kernel) ⟨Nat.le_of_ble_eq_true rfl, Nat.le_of_ble_eq_true rfl⟩) rfl hl.1 rfl (Nat.le_of_ble_eq_true rfl) dX4_setSponsor_11 ⟨Nat.zero_le _, Nat.zero_le _⟩ (fun H locs S => ?_)
  refine lv_if_eq (tgt := 27) hx hb dX4_setSponsor_14 (by decide) (fun z => False.elim (by rw [h1] at z; revert z; decide)) (fun _ => ?_)
  refine lv_iload_n hx hb dX4_setSponsor_17 rfl (lv_at hl 4 rfl) ?_
  refine lv_iconst (v := 0) hx hb dX4_setSponsor_18 (by decide) ?_
  refine lv_ldc (v := 1000000) hx hb hown (hts (.constant RX4 68 1000000) (by decide +kernel)) dX4_setSponsor_19 ?_
  refine r_S0 X S (c_X4_isWithin l D cA ad _ F lm 0 1000000) (va_cwS 3 hts gX4_setSponsor_X4_isWithin rfl rfl rfl (by decide +kernel) ⟨Nat.le_of_ble_eq_true rfl, Nat.le_of_ble_eq_true rfl⟩) rfl hl.1 rfl (Nat.le_of_ble_eq_true rfl) dX4_setSponsor_21 ⟨Nat.zero_le _, Nat.zero_le _⟩ (fun H locs S => ?_)
  refine lv_if_ne (tgt := 37) hx hb dX4_setSponsor_24 (by decide) (fun _ => ?_) (fun z => False.elim (by rw [h2] at z; revert z; decide))
  refine lv_aload hx hb dX4_setSponsor_37 (lv_at hl 0 rfl) ?_
  refine lv_iload_n hx hb dX4_setSponsor_39 rfl (lv_at hl 3 rfl) ?_
  refine r_puti X S hw3 (ob_S i hi) 8 ⟨rfl, by decide, rfl⟩ rfl (hts (.fieldLink RX4 89 "TermBill$Student" "sponsorKinds" "I") (by decide +kernel)) tyX3 tyX3_ok nmX3 rfl rfl dX4_setSponsor_40 (fun H locs S => ?_)
  obtain ⟨F_1, eF_1⟩ : ∃ z, z = u2 F (4 + 8 * i) 8 ks := ⟨_, rfl⟩
  rw [← eF_1] at S
  refine lv_aload hx hb dX4_setSponsor_43 (lv_at hl 0 rfl) ?_
  refine lv_iload_n hx hb dX4_setSponsor_45 rfl (lv_at hl 4 rfl) ?_
  refine r_puti X S hw3 (ob_S i hi) 9 ⟨rfl, by decide, rfl⟩ rfl (hts (.fieldLink RX4 92 "TermBill$Student" "sponsorLimit" "I") (by decide +kernel)) tyX3 tyX3_ok nmX3 rfl rfl dX4_setSponsor_46 (fun H locs S => ?_)
  obtain ⟨F_2, eF_2⟩ : ∃ z, z = u2 F_1 (4 + 8 * i) 9 lm := ⟨_, rfl⟩
  rw [← eF_2] at S
  exact r_vret X S hr dX4_setSponsor_49 (Nat.le_of_ble_eq_true rfl) (Nat.le_of_ble_eq_true rfl) (by simp only [eF_2, eF_1])

set_option maxHeartbeats 1000000 in
set_option maxRecDepth 100000 in
theorem x1_X4_setSponsor (l : Launch) (hst : l.stackTraces = false) (D : va_G) (cA : Nat → ClassId) (ad : Nat → Nat) (sz : Nat) (F : FF) (x ks lm : Int32) (h : wi x 0 3 = false) : CX l D cA ad sz yX4_setSponsor wsX4_setSponsor 7 112 [.ref (ad 0), .int x, .int ks, .int lm] F "java/lang/IndexOutOfBoundsException" F := by
  refine CX_of (own := RX4) (cc := cX4_setSponsor) (maxL := 5) (ret := none) (by decide +kernel) rfl rfl (Nat.le_of_ble_eq_true rfl) ?_
  intro p e s m below meth c ls X S hno hl
  obtain ⟨⟨hx, hb, hml, hown, hts⟩, hE, hI, hlocks⟩ := id X
  have hl : lv_has ls 5 [(0, .ref (ad 0)), (1, .int x), (2, .int ks), (3, .int lm)] := hl
  refine lv_aload_n hx hb dX4_setSponsor_0 rfl (lv_at hl 0 rfl) ?_
  refine lv_iload_n hx hb dX4_setSponsor_1 rfl (lv_at hl 1 rfl) ?_
  refine r_VX X S (x_X4_studentAt l hst D cA ad _ F x h) ob_0 rfl (cwV 1 hts gX4_setSponsor_X4_studentAt rfl rfl rfl (by decide +kernel) ⟨Nat.le_of_ble_eq_true rfl, Nat.le_of_ble_eq_true rfl⟩) rfl hl.1 rfl (Nat.le_of_ble_eq_true rfl) dX4_setSponsor_2 ⟨Nat.le_of_ble_eq_true rfl, Nat.le_of_ble_eq_true rfl⟩ (fun ce q9 H locs S h1 h2 h3 => ?_)
  exact r_out X S hno h1 h2 h3 (Nat.le_refl _) (Nat.le_refl _) rfl

set_option maxHeartbeats 1000000 in
set_option maxRecDepth 100000 in
theorem x2_X4_setSponsor (l : Launch) (hst : l.stackTraces = false) (D : va_G) (cA : Nat → ClassId) (ad : Nat → Nat) (sz : Nat) (F : FF) (i : Nat) (hi : i < 4) (ks lm : Int32) (h : ¬ (wi ks 0 7 = true ∧ wi lm 0 1000000 = true)) : CX l D cA ad sz yX4_setSponsor wsX4_setSponsor 6 90 [.ref (ad 0), .int (nI i), .int ks, .int lm] F "java/lang/IllegalArgumentException" F := by
  refine CX_of (own := RX4) (cc := cX4_setSponsor) (maxL := 5) (ret := none) (by decide +kernel) rfl rfl (Nat.le_of_ble_eq_true rfl) ?_
  intro p e s m below meth c ls X S hno hl
  obtain ⟨⟨hx, hb, hml, hown, hts⟩, hE, hI, hlocks⟩ := id X
  have hl : lv_has ls 5 [(0, .ref (ad 0)), (1, .int (nI i)), (2, .int ks), (3, .int lm)] := hl
  refine lv_aload_n hx hb dX4_setSponsor_0 rfl (lv_at hl 0 rfl) ?_
  refine lv_iload_n hx hb dX4_setSponsor_1 rfl (lv_at hl 1 rfl) ?_
  refine r_V0 X S (c_X4_studentAt l D cA ad _ F i hi) ob_0 rfl (cwV 1 hts gX4_setSponsor_X4_studentAt rfl rfl rfl (by decide +kernel) ⟨Nat.le_of_ble_eq_true rfl, Nat.le_of_ble_eq_true rfl⟩) rfl hl.1 rfl (Nat.le_of_ble_eq_true rfl) dX4_setSponsor_2 ⟨Nat.zero_le _, Nat.zero_le _⟩ (fun H locs S => ?_)
  refine lv_astore (lv' := [(4, .ref (ad (4 + 8 * i))), (0, .ref (ad 0)), (1, .int (nI i)), (2, .int ks), (3, .int lm)]) hx hb dX4_setSponsor_5 hl (by decide) rfl (fun ls hl => ?_)
  refine lv_iload_n hx hb dX4_setSponsor_7 rfl (lv_at hl 3 rfl) ?_
  refine lv_iconst (v := 0) hx hb dX4_setSponsor_8 (by decide) ?_
  refine lv_bipush (v := 7) hx hb dX4_setSponsor_9 (by decide) ?_
  refine r_S0 X S (c_X4_isWithin l D cA ad _ F ks 0 7) (va_cwS 3 hts gX4_setSponsor_X4_isWithin rfl rfl rfl (by decide +kernel) ⟨Nat.le_of_ble_eq_true rfl, Nat.le_of_ble_eq_true rfl⟩) rfl hl.1 rfl (Nat.le_of_ble_eq_true rfl) dX4_setSponsor_11 ⟨Nat.zero_le _, Nat.zero_le _⟩ (fun H locs S => ?_)
  refine lv_if_eq (tgt := 27) hx hb dX4_setSponsor_14 (by decide) (fun c_1 => ?_) (fun c_1 => ?_)
  · have c_1 : (wi ks 0 7) = false := bI_f c_1
    exact r_throw X S hst hno (is := 87) (text := "kinds or limit is out of range") hl.1 (by decide +kernel) (hts (.classLink RX4 57 "java/lang/IllegalArgumentException") (by decide +kernel)) (hts (.initialized "java/lang/IllegalArgumentException") (by decide +kernel)) (by decide +kernel) (hat61 hE.2.2.2.2 hts (fun w h => List.mem_cons_of_mem _ (by first | exact List.mem_append_right _ h | exact List.mem_append_left _ (List.mem_append_right _ h) | exact List.mem_append_left _ (List.mem_append_left _ (List.mem_append_right _ h))))) hgd61 dX4_setSponsor_27 dX4_setSponsor_30 dX4_setSponsor_31 dX4_setSponsor_33 dX4_setSponsor_36 ⟨Nat.le_of_ble_eq_true rfl, Nat.le_of_ble_eq_true rfl, Nat.le_of_ble_eq_true rfl, Nat.le_of_ble_eq_true rfl⟩ (Nat.le_refl _) (Nat.le_refl _) rfl
  · have c_1 : (wi ks 0 7) = true := bI_t c_1
    refine lv_iload_n hx hb dX4_setSponsor_17 rfl (lv_at hl 4 rfl) ?_
    refine lv_iconst (v := 0) hx hb dX4_setSponsor_18 (by decide) ?_
    refine lv_ldc (v := 1000000) hx hb hown (hts (.constant RX4 68 1000000) (by decide +kernel)) dX4_setSponsor_19 ?_
    refine r_S0 X S (c_X4_isWithin l D cA ad _ F lm 0 1000000) (va_cwS 3 hts gX4_setSponsor_X4_isWithin rfl rfl rfl (by decide +kernel) ⟨Nat.le_of_ble_eq_true rfl, Nat.le_of_ble_eq_true rfl⟩) rfl hl.1 rfl (Nat.le_of_ble_eq_true rfl) dX4_setSponsor_21 ⟨Nat.zero_le _, Nat.zero_le _⟩ (fun H locs S => ?_)
    refine lv_if_ne (tgt := 37) hx hb dX4_setSponsor_24 (by decide) (fun z => False.elim (h ⟨c_1, bI_t z⟩)) (fun _ => ?_)
    exact r_throw X S hst hno (is := 87) (text := "kinds or limit is out of range") hl.1 (by decide +kernel) (hts (.classLink RX4 57 "java/lang/IllegalArgumentException") (by decide +kernel)) (hts (.initialized "java/lang/IllegalArgumentException") (by decide +kernel)) (by decide +kernel) (hat61 hE.2.2.2.2 hts (fun w h => List.mem_cons_of_mem _ (by first | exact List.mem_append_right _ h | exact List.mem_append_left _ (List.mem_append_right _ h) | exact List.mem_append_left _ (List.mem_append_left _ (List.mem_append_right _ h))))) hgd61 dX4_setSponsor_27 dX4_setSponsor_30 dX4_setSponsor_31 dX4_setSponsor_33 dX4_setSponsor_36 ⟨Nat.le_of_ble_eq_true rfl, Nat.le_of_ble_eq_true rfl, Nat.le_of_ble_eq_true rfl, Nat.le_of_ble_eq_true rfl⟩ (Nat.le_refl _) (Nat.le_refl _) rfl

set_option maxHeartbeats 1000000 in
set_option maxRecDepth 100000 in
theorem c_X4_take (l : Launch) (D : va_G) (cA : Nat → ClassId) (ad : Nat → Nat) (sz : Nat) (F : FF) (i : Nat) (hi : i < 4) (cr : Int32) (h1 : wi cr 1 10 = true) (t : Nat) (ht : t < 8) (et : F (4 + 8 * i + 1) 1 = nI t) : CI l D cA ad sz yX4_take wsX4_take 1 22 0 0 [.ref (ad 0), .int (nI i), .int cr] F (some (.int (nI t))) (u2 (u2 F (4 + 8 * i + 2) t cr) (4 + 8 * i + 1) 1 (nI (t + 1))) := by
  refine CI_of (own := RX4) (cc := cX4_take) (maxL := 5) (ret := (some .int)) (by decide +kernel) rfl rfl (Nat.le_of_ble_eq_true rfl) ?_
  intro p e s m below meth c ls X S hr hl
  obtain ⟨⟨hx, hb, hml, hown, hts⟩, hE, hI, hlocks⟩ := id X
  have hl : lv_has ls 5 [(0, .ref (ad 0)), (1, .int (nI i)), (2, .int cr)] := hl
  have hw3 : ∀ w ∈ wsX30, w.before _ s = true := fun w h => hts w ((by decide +kernel : ∀ w ∈ wsX30, w ∈ wsX4_take) w h)
  refine lv_aload_n hx hb dX4_take_0 rfl (lv_at hl 0 rfl) ?_
  refine lv_iload_n hx hb dX4_take_1 rfl (lv_at hl 1 rfl) ?_
  refine r_V0 X S (c_X4_studentAt l D cA ad _ F i hi) ob_0 rfl (cwV 1 hts gX4_take_X4_studentAt rfl rfl rfl (by decide +kernel) ⟨Nat.le_of_ble_eq_true rfl, Nat.le_of_ble_eq_true rfl⟩) rfl hl.1 rfl (Nat.le_of_ble_eq_true rfl) dX4_take_2 ⟨Nat.zero_le _, Nat.zero_le _⟩ (fun H locs S => ?_)
  refine lv_astore_n (lv' := [(3, .ref (ad (4 + 8 * i))), (0, .ref (ad 0)), (1, .int (nI i)), (2, .int cr)]) hx hb dX4_take_5 rfl hl (by decide) rfl (fun ls hl => ?_)
  refine lv_iload_n hx hb dX4_take_6 rfl (lv_at hl 3 rfl) ?_
  refine lv_iconst (v := 1) hx hb dX4_take_7 (by decide) ?_
  refine lv_bipush (v := 10) hx hb dX4_take_8 (by decide) ?_
  refine r_S0 X S (c_X4_isWithin l D cA ad _ F cr 1 10) (va_cwS 3 hts gX4_take_X4_isWithin rfl rfl rfl (by decide +kernel) ⟨Nat.le_of_ble_eq_true rfl, Nat.le_of_ble_eq_true rfl⟩) rfl hl.1 rfl (Nat.le_of_ble_eq_true rfl) dX4_take_10 ⟨Nat.zero_le _, Nat.zero_le _⟩ (fun H locs S => ?_)
  refine lv_if_ne (tgt := 26) hx hb dX4_take_13 (by decide) (fun _ => ?_) (fun z => False.elim (by rw [h1] at z; revert z; decide))
  refine lv_aload_n hx hb dX4_take_26 rfl (lv_at hl 0 rfl) ?_
  refine r_getr (q := 4 + 8 * i + 1) X S hw3 (ob_S i hi) 0 ⟨rfl, by decide, rfl⟩ rfl (hts (.fieldLink RX4 97 "TermBill$Student" "courses" "LTermBill$Courses;") (by decide +kernel)) dX4_take_27 ?_
  refine lv_iload_n hx hb dX4_take_30 rfl (lv_at hl 3 rfl) ?_
  refine r_V0 X S (c_X1_add l D cA ad _ F i hi t ht et cr) (ob_C i hi) rfl (cwV 1 hts gX4_take_X1_add rfl rfl rfl (by decide +kernel) ⟨Nat.le_of_ble_eq_true rfl, Nat.le_of_ble_eq_true rfl⟩) rfl hl.1 rfl (Nat.le_of_ble_eq_true rfl) dX4_take_31 ⟨Nat.zero_le _, Nat.zero_le _⟩ (fun H locs S => ?_)
  obtain ⟨F_1, eF_1⟩ : ∃ z, z = u2 (u2 F (4 + 8 * i + 2) t cr) (4 + 8 * i + 1) 1 (nI (t + 1)) := ⟨_, rfl⟩
  rw [← eF_1] at S
  refine lv_istore (lv' := [(4, .int (nI t)), (3, .ref (ad (4 + 8 * i))), (0, .ref (ad 0)), (1, .int (nI i)), (2, .int cr)]) hx hb dX4_take_34 hl (by decide) rfl (fun ls hl => ?_)
  refine lv_iload hx hb dX4_take_36 (lv_at hl 0 rfl) ?_
  refine lv_if_ge (tgt := 51) hx hb dX4_take_38 (by decide) (fun _ => ?_) (fun z => False.elim (z (nI_pos' (by omega))))
  refine lv_iload hx hb dX4_take_51 (lv_at hl 0 rfl) ?_
  exact r_iret X S hr dX4_take_53 (Nat.le_of_ble_eq_true rfl) (Nat.le_of_ble_eq_true rfl) (by rfl) (by simp only [eF_1])

set_option maxHeartbeats 1000000 in
set_option maxRecDepth 100000 in
theorem x1_X4_take (l : Launch) (hst : l.stackTraces = false) (D : va_G) (cA : Nat → ClassId) (ad : Nat → Nat) (sz : Nat) (F : FF) (x cr : Int32) (h : wi x 0 3 = false) : CX l D cA ad sz yX4_take wsX4_take 7 112 [.ref (ad 0), .int x, .int cr] F "java/lang/IndexOutOfBoundsException" F := by
  refine CX_of (own := RX4) (cc := cX4_take) (maxL := 5) (ret := (some .int)) (by decide +kernel) rfl rfl (Nat.le_of_ble_eq_true rfl) ?_
  intro p e s m below meth c ls X S hno hl
  obtain ⟨⟨hx, hb, hml, hown, hts⟩, hE, hI, hlocks⟩ := id X
  have hl : lv_has ls 5 [(0, .ref (ad 0)), (1, .int x), (2, .int cr)] := hl
  refine lv_aload_n hx hb dX4_take_0 rfl (lv_at hl 0 rfl) ?_
  refine lv_iload_n hx hb dX4_take_1 rfl (lv_at hl 1 rfl) ?_
  refine r_VX X S (x_X4_studentAt l hst D cA ad _ F x h) ob_0 rfl (cwV 1 hts gX4_take_X4_studentAt rfl rfl rfl (by decide +kernel) ⟨Nat.le_of_ble_eq_true rfl, Nat.le_of_ble_eq_true rfl⟩) rfl hl.1 rfl (Nat.le_of_ble_eq_true rfl) dX4_take_2 ⟨Nat.le_of_ble_eq_true rfl, Nat.le_of_ble_eq_true rfl⟩ (fun ce q9 H locs S h1 h2 h3 => ?_)
  exact r_out X S hno h1 h2 h3 (Nat.le_refl _) (Nat.le_refl _) rfl

set_option maxHeartbeats 1000000 in
set_option maxRecDepth 100000 in
theorem x2_X4_take (l : Launch) (hst : l.stackTraces = false) (D : va_G) (cA : Nat → ClassId) (ad : Nat → Nat) (sz : Nat) (F : FF) (i : Nat) (hi : i < 4) (cr : Int32) (h : wi cr 1 10 = false) : CX l D cA ad sz yX4_take wsX4_take 6 90 [.ref (ad 0), .int (nI i), .int cr] F "java/lang/IllegalArgumentException" F := by
  refine CX_of (own := RX4) (cc := cX4_take) (maxL := 5) (ret := (some .int)) (by decide +kernel) rfl rfl (Nat.le_of_ble_eq_true rfl) ?_
  intro p e s m below meth c ls X S hno hl
  obtain ⟨⟨hx, hb, hml, hown, hts⟩, hE, hI, hlocks⟩ := id X
  have hl : lv_has ls 5 [(0, .ref (ad 0)), (1, .int (nI i)), (2, .int cr)] := hl
  refine lv_aload_n hx hb dX4_take_0 rfl (lv_at hl 0 rfl) ?_
  refine lv_iload_n hx hb dX4_take_1 rfl (lv_at hl 1 rfl) ?_
  refine r_V0 X S (c_X4_studentAt l D cA ad _ F i hi) ob_0 rfl (cwV 1 hts gX4_take_X4_studentAt rfl rfl rfl (by decide +kernel) ⟨Nat.le_of_ble_eq_true rfl, Nat.le_of_ble_eq_true rfl⟩) rfl hl.1 rfl (Nat.le_of_ble_eq_true rfl) dX4_take_2 ⟨Nat.zero_le _, Nat.zero_le _⟩ (fun H locs S => ?_)
  refine lv_astore_n (lv' := [(3, .ref (ad (4 + 8 * i))), (0, .ref (ad 0)), (1, .int (nI i)), (2, .int cr)]) hx hb dX4_take_5 rfl hl (by decide) rfl (fun ls hl => ?_)
  refine lv_iload_n hx hb dX4_take_6 rfl (lv_at hl 3 rfl) ?_
  refine lv_iconst (v := 1) hx hb dX4_take_7 (by decide) ?_
  refine lv_bipush (v := 10) hx hb dX4_take_8 (by decide) ?_
  refine r_S0 X S (c_X4_isWithin l D cA ad _ F cr 1 10) (va_cwS 3 hts gX4_take_X4_isWithin rfl rfl rfl (by decide +kernel) ⟨Nat.le_of_ble_eq_true rfl, Nat.le_of_ble_eq_true rfl⟩) rfl hl.1 rfl (Nat.le_of_ble_eq_true rfl) dX4_take_10 ⟨Nat.zero_le _, Nat.zero_le _⟩ (fun H locs S => ?_)
  refine lv_if_ne (tgt := 26) hx hb dX4_take_13 (by decide) (fun z => False.elim (by rw [h] at z; revert z; decide)) (fun _ => ?_)
  exact r_throw X S hst hno (is := 95) (text := "credits is out of range") hl.1 (by decide +kernel) (hts (.classLink RX4 57 "java/lang/IllegalArgumentException") (by decide +kernel)) (hts (.initialized "java/lang/IllegalArgumentException") (by decide +kernel)) (by decide +kernel) (hat61 hE.2.2.2.2 hts (fun w h => List.mem_cons_of_mem _ (by first | exact List.mem_append_right _ h | exact List.mem_append_left _ (List.mem_append_right _ h) | exact List.mem_append_left _ (List.mem_append_left _ (List.mem_append_right _ h))))) hgd61 dX4_take_16 dX4_take_19 dX4_take_20 dX4_take_22 dX4_take_25 ⟨Nat.le_of_ble_eq_true rfl, Nat.le_of_ble_eq_true rfl, Nat.le_of_ble_eq_true rfl, Nat.le_of_ble_eq_true rfl⟩ (Nat.le_refl _) (Nat.le_refl _) rfl

set_option maxHeartbeats 1000000 in
set_option maxRecDepth 100000 in
theorem x3_X4_take (l : Launch) (hst : l.stackTraces = false) (D : va_G) (cA : Nat → ClassId) (ad : Nat → Nat) (sz : Nat) (F : FF) (i : Nat) (hi : i < 4) (cr : Int32) (h1 : wi cr 1 10 = true) (et : F (4 + 8 * i + 1) 1 = nI 8) : CX l D cA ad sz yX4_take wsX4_take 6 90 [.ref (ad 0), .int (nI i), .int cr] F "java/lang/IllegalStateException" F := by
  refine CX_of (own := RX4) (cc := cX4_take) (maxL := 5) (ret := (some .int)) (by decide +kernel) rfl rfl (Nat.le_of_ble_eq_true rfl) ?_
  intro p e s m below meth c ls X S hno hl
  obtain ⟨⟨hx, hb, hml, hown, hts⟩, hE, hI, hlocks⟩ := id X
  have hl : lv_has ls 5 [(0, .ref (ad 0)), (1, .int (nI i)), (2, .int cr)] := hl
  have hw3 : ∀ w ∈ wsX30, w.before _ s = true := fun w h => hts w ((by decide +kernel : ∀ w ∈ wsX30, w ∈ wsX4_take) w h)
  refine lv_aload_n hx hb dX4_take_0 rfl (lv_at hl 0 rfl) ?_
  refine lv_iload_n hx hb dX4_take_1 rfl (lv_at hl 1 rfl) ?_
  refine r_V0 X S (c_X4_studentAt l D cA ad _ F i hi) ob_0 rfl (cwV 1 hts gX4_take_X4_studentAt rfl rfl rfl (by decide +kernel) ⟨Nat.le_of_ble_eq_true rfl, Nat.le_of_ble_eq_true rfl⟩) rfl hl.1 rfl (Nat.le_of_ble_eq_true rfl) dX4_take_2 ⟨Nat.zero_le _, Nat.zero_le _⟩ (fun H locs S => ?_)
  refine lv_astore_n (lv' := [(3, .ref (ad (4 + 8 * i))), (0, .ref (ad 0)), (1, .int (nI i)), (2, .int cr)]) hx hb dX4_take_5 rfl hl (by decide) rfl (fun ls hl => ?_)
  refine lv_iload_n hx hb dX4_take_6 rfl (lv_at hl 3 rfl) ?_
  refine lv_iconst (v := 1) hx hb dX4_take_7 (by decide) ?_
  refine lv_bipush (v := 10) hx hb dX4_take_8 (by decide) ?_
  refine r_S0 X S (c_X4_isWithin l D cA ad _ F cr 1 10) (va_cwS 3 hts gX4_take_X4_isWithin rfl rfl rfl (by decide +kernel) ⟨Nat.le_of_ble_eq_true rfl, Nat.le_of_ble_eq_true rfl⟩) rfl hl.1 rfl (Nat.le_of_ble_eq_true rfl) dX4_take_10 ⟨Nat.zero_le _, Nat.zero_le _⟩ (fun H locs S => ?_)
  refine lv_if_ne (tgt := 26) hx hb dX4_take_13 (by decide) (fun _ => ?_) (fun z => False.elim (by rw [h1] at z; revert z; decide))
  refine lv_aload_n hx hb dX4_take_26 rfl (lv_at hl 0 rfl) ?_
  refine r_getr (q := 4 + 8 * i + 1) X S hw3 (ob_S i hi) 0 ⟨rfl, by decide, rfl⟩ rfl (hts (.fieldLink RX4 97 "TermBill$Student" "courses" "LTermBill$Courses;") (by decide +kernel)) dX4_take_27 ?_
  refine lv_iload_n hx hb dX4_take_30 rfl (lv_at hl 3 rfl) ?_
  refine r_V0 X S (c_X1_addf l D cA ad _ F i hi et cr) (ob_C i hi) rfl (cwV 1 hts gX4_take_X1_add rfl rfl rfl (by decide +kernel) ⟨Nat.le_of_ble_eq_true rfl, Nat.le_of_ble_eq_true rfl⟩) rfl hl.1 rfl (Nat.le_of_ble_eq_true rfl) dX4_take_31 ⟨Nat.zero_le _, Nat.zero_le _⟩ (fun H locs S => ?_)
  refine lv_istore (lv' := [(4, .int (-1)), (3, .ref (ad (4 + 8 * i))), (0, .ref (ad 0)), (1, .int (nI i)), (2, .int cr)]) hx hb dX4_take_34 hl (by decide) rfl (fun ls hl => ?_)
  refine lv_iload hx hb dX4_take_36 (lv_at hl 0 rfl) ?_
  refine lv_if_ge (tgt := 51) hx hb dX4_take_38 (by decide) (fun z => False.elim (by first | exact absurd z (by decide) | exact absurd (by decide) z)) (fun _ => ?_)
  exact r_throw X S hst hno (is := 109) (text := "it has taken all courses of the term") hl.1 (by decide +kernel) (hts (.classLink RX4 107 "java/lang/IllegalStateException") (by decide +kernel)) (hts (.initialized "java/lang/IllegalStateException") (by decide +kernel)) (by decide +kernel) (hat111 hE.2.2.2.2 hts (fun w h => List.mem_cons_of_mem _ (by first | exact List.mem_append_right _ h | exact List.mem_append_left _ (List.mem_append_right _ h) | exact List.mem_append_left _ (List.mem_append_left _ (List.mem_append_right _ h))))) hgd111 dX4_take_41 dX4_take_44 dX4_take_45 dX4_take_47 dX4_take_50 ⟨Nat.le_of_ble_eq_true rfl, Nat.le_of_ble_eq_true rfl, Nat.le_of_ble_eq_true rfl, Nat.le_of_ble_eq_true rfl⟩ (Nat.le_refl _) (Nat.le_refl _) rfl

set_option maxHeartbeats 1000000 in
set_option maxRecDepth 100000 in
theorem c_X4_drop (l : Launch) (D : va_G) (cA : Nat → ClassId) (ad : Nat → Nat) (sz : Nat) (F : FF) (i : Nat) (hi : i < 4) (j : Nat) (hj : j < 8) (h1 : hasI (nI j) (F (4 + 8 * i + 1) 1) = true) (h2 : ¬ F (4 + 8 * i + 2) j = 0) (w : Nat) (hw : w < 16) (ew : F 0 7 = nI w) : CI l D cA ad sz yX4_drop wsX4_drop 2 48 0 0 [.ref (ad 0), .int (nI i), .int (nI j)] F (some (.int (drK F i j w))) (drF F i j w) := by
  refine CI_of (own := RX4) (cc := cX4_drop) (maxL := 4) (ret := (some .int)) (by decide +kernel) rfl rfl (Nat.le_of_ble_eq_true rfl) ?_
  intro p e s m below meth c ls X S hr hl
  obtain ⟨⟨hx, hb, hml, hown, hts⟩, hE, hI, hlocks⟩ := id X
  have hl : lv_has ls 4 [(0, .ref (ad 0)), (1, .int (nI i)), (2, .int (nI j))] := hl
  have hw3 : ∀ w ∈ wsX30, w.before _ s = true := fun w h => hts w ((by decide +kernel : ∀ w ∈ wsX30, w ∈ wsX4_drop) w h)
  refine lv_aload_n hx hb dX4_drop_0 rfl (lv_at hl 0 rfl) ?_
  refine lv_iload_n hx hb dX4_drop_1 rfl (lv_at hl 1 rfl) ?_
  refine r_V0 X S (c_X4_studentAt l D cA ad _ F i hi) ob_0 rfl (cwV 1 hts gX4_drop_X4_studentAt rfl rfl rfl (by decide +kernel) ⟨Nat.le_of_ble_eq_true rfl, Nat.le_of_ble_eq_true rfl⟩) rfl hl.1 rfl (Nat.le_of_ble_eq_true rfl) dX4_drop_2 ⟨Nat.zero_le _, Nat.zero_le _⟩ (fun H locs S => ?_)
  refine lv_astore_n (lv' := [(3, .ref (ad (4 + 8 * i))), (0, .ref (ad 0)), (1, .int (nI i)), (2, .int (nI j))]) hx hb dX4_drop_5 rfl hl (by decide) rfl (fun ls hl => ?_)
  refine lv_aload_n hx hb dX4_drop_6 rfl (lv_at hl 0 rfl) ?_
  refine r_getr (q := 4 + 8 * i + 1) X S hw3 (ob_S i hi) 0 ⟨rfl, by decide, rfl⟩ rfl (hts (.fieldLink RX4 97 "TermBill$Student" "courses" "LTermBill$Courses;") (by decide +kernel)) dX4_drop_7 ?_
  refine lv_iload_n hx hb dX4_drop_10 rfl (lv_at hl 3 rfl) ?_
  refine r_V0 X S (c_X1_has l D cA ad _ F i hi (nI j)) (ob_C i hi) rfl (cwV 1 hts gX4_drop_X1_has rfl rfl rfl (by decide +kernel) ⟨Nat.le_of_ble_eq_true rfl, Nat.le_of_ble_eq_true rfl⟩) rfl hl.1 rfl (Nat.le_of_ble_eq_true rfl) dX4_drop_11 ⟨Nat.zero_le _, Nat.zero_le _⟩ (fun H locs S => ?_)
  refine lv_if_ne (tgt := 27) hx hb dX4_drop_14 (by decide) (fun _ => ?_) (fun z => False.elim (by rw [h1] at z; revert z; decide))
  refine lv_aload_n hx hb dX4_drop_27 rfl (lv_at hl 0 rfl) ?_
  refine r_getr (q := 4 + 8 * i + 1) X S hw3 (ob_S i hi) 0 ⟨rfl, by decide, rfl⟩ rfl (hts (.fieldLink RX4 97 "TermBill$Student" "courses" "LTermBill$Courses;") (by decide +kernel)) dX4_drop_28 ?_
  refine lv_iload_n hx hb dX4_drop_31 rfl (lv_at hl 3 rfl) ?_
  refine r_V0 X S (c_X1_creditsOf l D cA ad _ F i hi j (by omega)) (ob_C i hi) rfl (cwV 1 hts gX4_drop_X1_creditsOf rfl rfl rfl (by decide +kernel) ⟨Nat.le_of_ble_eq_true rfl, Nat.le_of_ble_eq_true rfl⟩) rfl hl.1 rfl (Nat.le_of_ble_eq_true rfl) dX4_drop_32 ⟨Nat.zero_le _, Nat.zero_le _⟩ (fun H locs S => ?_)
  refine lv_if_ne (tgt := 48) hx hb dX4_drop_35 (by decide) (fun _ => ?_) (fun z => False.elim (h2 z))
  refine lv_aload_n hx hb dX4_drop_48 rfl (lv_at hl 1 rfl) ?_
  refine lv_aload_n hx hb dX4_drop_49 rfl (lv_at hl 0 rfl) ?_
  refine lv_iload_n hx hb dX4_drop_50 rfl (lv_at hl 3 rfl) ?_
  refine r_V0 X S (c_X4_dropCourse l D cA ad _ F i hi j (by omega) w hw (ew)) ob_0 rfl (cwV 2 hts gX4_drop_X4_dropCourse rfl rfl rfl (by decide +kernel) ⟨Nat.le_of_ble_eq_true rfl, Nat.le_of_ble_eq_true rfl⟩) rfl hl.1 rfl (Nat.le_of_ble_eq_true rfl) dX4_drop_51 ⟨Nat.zero_le _, Nat.zero_le _⟩ (fun H locs S => ?_)
  obtain ⟨F_1, eF_1⟩ : ∃ z, z = drF F i j w := ⟨_, rfl⟩
  rw [← eF_1] at S
  exact r_iret X S hr dX4_drop_54 (Nat.le_of_ble_eq_true rfl) (Nat.le_of_ble_eq_true rfl) (by rfl) (by simp only [eF_1])

set_option maxHeartbeats 1000000 in
set_option maxRecDepth 100000 in
theorem x1_X4_drop (l : Launch) (hst : l.stackTraces = false) (D : va_G) (cA : Nat → ClassId) (ad : Nat → Nat) (sz : Nat) (F : FF) (x y : Int32) (h : wi x 0 3 = false) : CX l D cA ad sz yX4_drop wsX4_drop 7 112 [.ref (ad 0), .int x, .int y] F "java/lang/IndexOutOfBoundsException" F := by
  refine CX_of (own := RX4) (cc := cX4_drop) (maxL := 4) (ret := (some .int)) (by decide +kernel) rfl rfl (Nat.le_of_ble_eq_true rfl) ?_
  intro p e s m below meth c ls X S hno hl
  obtain ⟨⟨hx, hb, hml, hown, hts⟩, hE, hI, hlocks⟩ := id X
  have hl : lv_has ls 4 [(0, .ref (ad 0)), (1, .int x), (2, .int y)] := hl
  refine lv_aload_n hx hb dX4_drop_0 rfl (lv_at hl 0 rfl) ?_
  refine lv_iload_n hx hb dX4_drop_1 rfl (lv_at hl 1 rfl) ?_
  refine r_VX X S (x_X4_studentAt l hst D cA ad _ F x h) ob_0 rfl (cwV 1 hts gX4_drop_X4_studentAt rfl rfl rfl (by decide +kernel) ⟨Nat.le_of_ble_eq_true rfl, Nat.le_of_ble_eq_true rfl⟩) rfl hl.1 rfl (Nat.le_of_ble_eq_true rfl) dX4_drop_2 ⟨Nat.le_of_ble_eq_true rfl, Nat.le_of_ble_eq_true rfl⟩ (fun ce q9 H locs S h1 h2 h3 => ?_)
  exact r_out X S hno h1 h2 h3 (Nat.le_refl _) (Nat.le_refl _) rfl

set_option maxHeartbeats 1000000 in
set_option maxRecDepth 100000 in
theorem x4_X4_drop (l : Launch) (hst : l.stackTraces = false) (D : va_G) (cA : Nat → ClassId) (ad : Nat → Nat) (sz : Nat) (F : FF) (i : Nat) (hi : i < 4) (y : Int32) (h : hasI y (F (4 + 8 * i + 1) 1) = false) : CX l D cA ad sz yX4_drop wsX4_drop 6 90 [.ref (ad 0), .int (nI i), .int y] F "java/lang/IndexOutOfBoundsException" F := by
  refine CX_of (own := RX4) (cc := cX4_drop) (maxL := 4) (ret := (some .int)) (by decide +kernel) rfl rfl (Nat.le_of_ble_eq_true rfl) ?_
  intro p e s m below meth c ls X S hno hl
  obtain ⟨⟨hx, hb, hml, hown, hts⟩, hE, hI, hlocks⟩ := id X
  have hl : lv_has ls 4 [(0, .ref (ad 0)), (1, .int (nI i)), (2, .int y)] := hl
  have hw3 : ∀ w ∈ wsX30, w.before _ s = true := fun w h => hts w ((by decide +kernel : ∀ w ∈ wsX30, w ∈ wsX4_drop) w h)
  refine lv_aload_n hx hb dX4_drop_0 rfl (lv_at hl 0 rfl) ?_
  refine lv_iload_n hx hb dX4_drop_1 rfl (lv_at hl 1 rfl) ?_
  refine r_V0 X S (c_X4_studentAt l D cA ad _ F i hi) ob_0 rfl (cwV 1 hts gX4_drop_X4_studentAt rfl rfl rfl (by decide +kernel) ⟨Nat.le_of_ble_eq_true rfl, Nat.le_of_ble_eq_true rfl⟩) rfl hl.1 rfl (Nat.le_of_ble_eq_true rfl) dX4_drop_2 ⟨Nat.zero_le _, Nat.zero_le _⟩ (fun H locs S => ?_)
  refine lv_astore_n (lv' := [(3, .ref (ad (4 + 8 * i))), (0, .ref (ad 0)), (1, .int (nI i)), (2, .int y)]) hx hb dX4_drop_5 rfl hl (by decide) rfl (fun ls hl => ?_)
  refine lv_aload_n hx hb dX4_drop_6 rfl (lv_at hl 0 rfl) ?_
  refine r_getr (q := 4 + 8 * i + 1) X S hw3 (ob_S i hi) 0 ⟨rfl, by decide, rfl⟩ rfl (hts (.fieldLink RX4 97 "TermBill$Student" "courses" "LTermBill$Courses;") (by decide +kernel)) dX4_drop_7 ?_
  refine lv_iload_n hx hb dX4_drop_10 rfl (lv_at hl 3 rfl) ?_
  refine r_V0 X S (c_X1_has l D cA ad _ F i hi y) (ob_C i hi) rfl (cwV 1 hts gX4_drop_X1_has rfl rfl rfl (by decide +kernel) ⟨Nat.le_of_ble_eq_true rfl, Nat.le_of_ble_eq_true rfl⟩) rfl hl.1 rfl (Nat.le_of_ble_eq_true rfl) dX4_drop_11 ⟨Nat.zero_le _, Nat.zero_le _⟩ (fun H locs S => ?_)
  refine lv_if_ne (tgt := 27) hx hb dX4_drop_14 (by decide) (fun z => False.elim (by rw [h] at z; revert z; decide)) (fun _ => ?_)
  exact r_throw X S hst hno (is := 118) (text := "no such course") hl.1 (by decide +kernel) (hts (.classLink RX4 116 "java/lang/IndexOutOfBoundsException") (by decide +kernel)) (hts (.initialized "java/lang/IndexOutOfBoundsException") (by decide +kernel)) (by decide +kernel) (hat120 hE.2.2.2.2 hts (fun w h => List.mem_cons_of_mem _ (by first | exact List.mem_append_right _ h | exact List.mem_append_left _ (List.mem_append_right _ h) | exact List.mem_append_left _ (List.mem_append_left _ (List.mem_append_right _ h))))) hgd120 dX4_drop_17 dX4_drop_20 dX4_drop_21 dX4_drop_23 dX4_drop_26 ⟨Nat.le_of_ble_eq_true rfl, Nat.le_of_ble_eq_true rfl, Nat.le_of_ble_eq_true rfl, Nat.le_of_ble_eq_true rfl⟩ (Nat.le_refl _) (Nat.le_refl _) rfl

set_option maxHeartbeats 1000000 in
set_option maxRecDepth 100000 in
theorem x2_X4_drop (l : Launch) (hst : l.stackTraces = false) (D : va_G) (cA : Nat → ClassId) (ad : Nat → Nat) (sz : Nat) (F : FF) (i : Nat) (hi : i < 4) (j : Nat) (hj : j < 8) (h1 : hasI (nI j) (F (4 + 8 * i + 1) 1) = true) (h2 : F (4 + 8 * i + 2) j = 0) : CX l D cA ad sz yX4_drop wsX4_drop 6 90 [.ref (ad 0), .int (nI i), .int (nI j)] F "java/lang/IllegalStateException" F := by
  refine CX_of (own := RX4) (cc := cX4_drop) (maxL := 4) (ret := (some .int)) (by decide +kernel) rfl rfl (Nat.le_of_ble_eq_true rfl) ?_
  intro p e s m below meth c ls X S hno hl
  obtain ⟨⟨hx, hb, hml, hown, hts⟩, hE, hI, hlocks⟩ := id X
  have hl : lv_has ls 4 [(0, .ref (ad 0)), (1, .int (nI i)), (2, .int (nI j))] := hl
  have hw3 : ∀ w ∈ wsX30, w.before _ s = true := fun w h => hts w ((by decide +kernel : ∀ w ∈ wsX30, w ∈ wsX4_drop) w h)
  refine lv_aload_n hx hb dX4_drop_0 rfl (lv_at hl 0 rfl) ?_
  refine lv_iload_n hx hb dX4_drop_1 rfl (lv_at hl 1 rfl) ?_
  refine r_V0 X S (c_X4_studentAt l D cA ad _ F i hi) ob_0 rfl (cwV 1 hts gX4_drop_X4_studentAt rfl rfl rfl (by decide +kernel) ⟨Nat.le_of_ble_eq_true rfl, Nat.le_of_ble_eq_true rfl⟩) rfl hl.1 rfl (Nat.le_of_ble_eq_true rfl) dX4_drop_2 ⟨Nat.zero_le _, Nat.zero_le _⟩ (fun H locs S => ?_)
  refine lv_astore_n (lv' := [(3, .ref (ad (4 + 8 * i))), (0, .ref (ad 0)), (1, .int (nI i)), (2, .int (nI j))]) hx hb dX4_drop_5 rfl hl (by decide) rfl (fun ls hl => ?_)
  refine lv_aload_n hx hb dX4_drop_6 rfl (lv_at hl 0 rfl) ?_
  refine r_getr (q := 4 + 8 * i + 1) X S hw3 (ob_S i hi) 0 ⟨rfl, by decide, rfl⟩ rfl (hts (.fieldLink RX4 97 "TermBill$Student" "courses" "LTermBill$Courses;") (by decide +kernel)) dX4_drop_7 ?_
  refine lv_iload_n hx hb dX4_drop_10 rfl (lv_at hl 3 rfl) ?_
  refine r_V0 X S (c_X1_has l D cA ad _ F i hi (nI j)) (ob_C i hi) rfl (cwV 1 hts gX4_drop_X1_has rfl rfl rfl (by decide +kernel) ⟨Nat.le_of_ble_eq_true rfl, Nat.le_of_ble_eq_true rfl⟩) rfl hl.1 rfl (Nat.le_of_ble_eq_true rfl) dX4_drop_11 ⟨Nat.zero_le _, Nat.zero_le _⟩ (fun H locs S => ?_)
  refine lv_if_ne (tgt := 27) hx hb dX4_drop_14 (by decide) (fun _ => ?_) (fun z => False.elim (by rw [h1] at z; revert z; decide))
  refine lv_aload_n hx hb dX4_drop_27 rfl (lv_at hl 0 rfl) ?_
  refine r_getr (q := 4 + 8 * i + 1) X S hw3 (ob_S i hi) 0 ⟨rfl, by decide, rfl⟩ rfl (hts (.fieldLink RX4 97 "TermBill$Student" "courses" "LTermBill$Courses;") (by decide +kernel)) dX4_drop_28 ?_
  refine lv_iload_n hx hb dX4_drop_31 rfl (lv_at hl 3 rfl) ?_
  refine r_V0 X S (c_X1_creditsOf l D cA ad _ F i hi j (by omega)) (ob_C i hi) rfl (cwV 1 hts gX4_drop_X1_creditsOf rfl rfl rfl (by decide +kernel) ⟨Nat.le_of_ble_eq_true rfl, Nat.le_of_ble_eq_true rfl⟩) rfl hl.1 rfl (Nat.le_of_ble_eq_true rfl) dX4_drop_32 ⟨Nat.zero_le _, Nat.zero_le _⟩ (fun H locs S => ?_)
  refine lv_if_ne (tgt := 48) hx hb dX4_drop_35 (by decide) (fun z => False.elim (z h2)) (fun _ => ?_)
  exact r_throw X S hst hno (is := 124) (text := "the course is dropped") hl.1 (by decide +kernel) (hts (.classLink RX4 107 "java/lang/IllegalStateException") (by decide +kernel)) (hts (.initialized "java/lang/IllegalStateException") (by decide +kernel)) (by decide +kernel) (hat111 hE.2.2.2.2 hts (fun w h => List.mem_cons_of_mem _ (by first | exact List.mem_append_right _ h | exact List.mem_append_left _ (List.mem_append_right _ h) | exact List.mem_append_left _ (List.mem_append_left _ (List.mem_append_right _ h))))) hgd111 dX4_drop_38 dX4_drop_41 dX4_drop_42 dX4_drop_44 dX4_drop_47 ⟨Nat.le_of_ble_eq_true rfl, Nat.le_of_ble_eq_true rfl, Nat.le_of_ble_eq_true rfl, Nat.le_of_ble_eq_true rfl⟩ (Nat.le_refl _) (Nat.le_refl _) rfl

set_option maxHeartbeats 1000000 in
set_option maxRecDepth 100000 in
theorem c_X4_charge1 (l : Launch) (D : va_G) (cA : Nat → ClassId) (ad : Nat → Nat) (sz : Nat) (F : FF) (i : Nat) (hi : i < 4) (am : Int32) (h1 : wi am 1 1000000 = true) : CI l D cA ad sz yX4_charge wsX4_charge 1 22 0 0 [.ref (ad 0), .int (nI i), .int 1, .int am] F (some (.int (F (4 + 8 * i) 6 + am))) (u2 F (4 + 8 * i) 6 (F (4 + 8 * i) 6 + am)) := by
  refine CI_of (own := RX4) (cc := cX4_charge) (maxL := 5) (ret := (some .int)) (by decide +kernel) rfl rfl (Nat.le_of_ble_eq_true rfl) ?_
  intro p e s m below meth c ls X S hr hl
  obtain ⟨⟨hx, hb, hml, hown, hts⟩, hE, hI, hlocks⟩ := id X
  have hl : lv_has ls 5 [(0, .ref (ad 0)), (1, .int (nI i)), (2, .int 1), (3, .int am)] := hl
  have hw3 : ∀ w ∈ wsX30, w.before _ s = true := fun w h => hts w ((by decide +kernel : ∀ w ∈ wsX30, w ∈ wsX4_charge) w h)
  refine lv_aload_n hx hb dX4_charge_0 rfl (lv_at hl 0 rfl) ?_
  refine lv_iload_n hx hb dX4_charge_1 rfl (lv_at hl 1 rfl) ?_
  refine r_V0 X S (c_X4_studentAt l D cA ad _ F i hi) ob_0 rfl (cwV 1 hts gX4_charge_X4_studentAt rfl rfl rfl (by decide +kernel) ⟨Nat.le_of_ble_eq_true rfl, Nat.le_of_ble_eq_true rfl⟩) rfl hl.1 rfl (Nat.le_of_ble_eq_true rfl) dX4_charge_2 ⟨Nat.zero_le _, Nat.zero_le _⟩ (fun H locs S => ?_)
  refine lv_astore (lv' := [(4, .ref (ad (4 + 8 * i))), (0, .ref (ad 0)), (1, .int (nI i)), (2, .int 1), (3, .int am)]) hx hb dX4_charge_5 hl (by decide) rfl (fun ls hl => ?_)
  refine lv_iload_n hx hb dX4_charge_7 rfl (lv_at hl 3 rfl) ?_
  refine lv_iconst (v := 1) hx hb dX4_charge_8 (by decide) ?_
  refine lv_icmp_eq (tgt := 17) hx hb dX4_charge_9 (by decide) (fun _ => ?_) (fun z => False.elim (by first | exact absurd z (by decide) | exact absurd (by decide) z))
  refine lv_iload_n hx hb dX4_charge_17 rfl (lv_at hl 4 rfl) ?_
  refine lv_iconst (v := 1) hx hb dX4_charge_18 (by decide) ?_
  refine lv_ldc (v := 1000000) hx hb hown (hts (.constant RX4 68 1000000) (by decide +kernel)) dX4_charge_19 ?_
  refine r_S0 X S (c_X4_isWithin l D cA ad _ F am 1 1000000) (va_cwS 3 hts gX4_charge_X4_isWithin rfl rfl rfl (by decide +kernel) ⟨Nat.le_of_ble_eq_true rfl, Nat.le_of_ble_eq_true rfl⟩) rfl hl.1 rfl (Nat.le_of_ble_eq_true rfl) dX4_charge_21 ⟨Nat.zero_le _, Nat.zero_le _⟩ (fun H locs S => ?_)
  refine lv_if_ne (tgt := 37) hx hb dX4_charge_24 (by decide) (fun _ => ?_) (fun z => False.elim (by rw [h1] at z; revert z; decide))
  refine lv_iload_n hx hb dX4_charge_37 rfl (lv_at hl 3 rfl) ?_
  refine lv_iconst (v := 1) hx hb dX4_charge_38 (by decide) ?_
  refine lv_icmp_ne (tgt := 59) hx hb dX4_charge_39 (by decide) (fun z => False.elim (by first | exact absurd z (by decide) | exact absurd (by decide) z)) (fun _ => ?_)
  refine lv_aload hx hb dX4_charge_42 (lv_at hl 0 rfl) ?_
  refine lv_dup hx hb dX4_charge_44 rfl ?_
  refine r_geti X S hw3 (ob_S i hi) 6 ⟨rfl, by decide, rfl⟩ rfl (hts (.fieldLink RX4 132 "TermBill$Student" "fees" "I") (by decide +kernel)) dX4_charge_45 ?_
  refine lv_iload_n hx hb dX4_charge_48 rfl (lv_at hl 4 rfl) ?_
  refine lv_iadd hx hb dX4_charge_49 ?_
  refine r_puti X S hw3 (ob_S i hi) 6 ⟨rfl, by decide, rfl⟩ rfl (hts (.fieldLink RX4 132 "TermBill$Student" "fees" "I") (by decide +kernel)) tyX3 tyX3_ok nmX3 rfl rfl dX4_charge_50 (fun H locs S => ?_)
  obtain ⟨F_1, eF_1⟩ : ∃ z, z = u2 F (4 + 8 * i) 6 ((F (4 + 8 * i) 6) + am) := ⟨_, rfl⟩
  rw [← eF_1] at S
  refine lv_aload hx hb dX4_charge_53 (lv_at hl 0 rfl) ?_
  refine r_geti X S hw3 (ob_S i hi) 6 ⟨rfl, by decide, rfl⟩ rfl (hts (.fieldLink RX4 132 "TermBill$Student" "fees" "I") (by decide +kernel)) dX4_charge_55 ?_
  rw [show F_1 (4 + 8 * i) 6 = F (4 + 8 * i) 6 + am from (by rw [eF_1, u2_eq])]
  exact r_iret X S hr dX4_charge_58 (Nat.le_of_ble_eq_true rfl) (Nat.le_of_ble_eq_true rfl) rfl eF_1

set_option maxHeartbeats 1000000 in
set_option maxRecDepth 100000 in
theorem c_X4_charge2 (l : Launch) (D : va_G) (cA : Nat → ClassId) (ad : Nat → Nat) (sz : Nat) (F : FF) (i : Nat) (hi : i < 4) (am : Int32) (h1 : wi am 1 1000000 = true) : CI l D cA ad sz yX4_charge wsX4_charge 1 22 0 0 [.ref (ad 0), .int (nI i), .int 2, .int am] F (some (.int (F (4 + 8 * i) 7 + am))) (u2 F (4 + 8 * i) 7 (F (4 + 8 * i) 7 + am)) := by
  refine CI_of (own := RX4) (cc := cX4_charge) (maxL := 5) (ret := (some .int)) (by decide +kernel) rfl rfl (Nat.le_of_ble_eq_true rfl) ?_
  intro p e s m below meth c ls X S hr hl
  obtain ⟨⟨hx, hb, hml, hown, hts⟩, hE, hI, hlocks⟩ := id X
  have hl : lv_has ls 5 [(0, .ref (ad 0)), (1, .int (nI i)), (2, .int 2), (3, .int am)] := hl
  have hw3 : ∀ w ∈ wsX30, w.before _ s = true := fun w h => hts w ((by decide +kernel : ∀ w ∈ wsX30, w ∈ wsX4_charge) w h)
  refine lv_aload_n hx hb dX4_charge_0 rfl (lv_at hl 0 rfl) ?_
  refine lv_iload_n hx hb dX4_charge_1 rfl (lv_at hl 1 rfl) ?_
  refine r_V0 X S (c_X4_studentAt l D cA ad _ F i hi) ob_0 rfl (cwV 1 hts gX4_charge_X4_studentAt rfl rfl rfl (by decide +kernel) ⟨Nat.le_of_ble_eq_true rfl, Nat.le_of_ble_eq_true rfl⟩) rfl hl.1 rfl (Nat.le_of_ble_eq_true rfl) dX4_charge_2 ⟨Nat.zero_le _, Nat.zero_le _⟩ (fun H locs S => ?_)
  refine lv_astore (lv' := [(4, .ref (ad (4 + 8 * i))), (0, .ref (ad 0)), (1, .int (nI i)), (2, .int 2), (3, .int am)]) hx hb dX4_charge_5 hl (by decide) rfl (fun ls hl => ?_)
  refine lv_iload_n hx hb dX4_charge_7 rfl (lv_at hl 3 rfl) ?_
  refine lv_iconst (v := 1) hx hb dX4_charge_8 (by decide) ?_
  refine lv_icmp_eq (tgt := 17) hx hb dX4_charge_9 (by decide) (fun z => False.elim (by first | exact absurd z (by decide) | exact absurd (by decide) z)) (fun _ => ?_)
  refine lv_iload_n hx hb dX4_charge_12 rfl (lv_at hl 3 rfl) ?_
  refine lv_iconst (v := 2) hx hb dX4_charge_13 (by decide) ?_
  refine lv_icmp_ne (tgt := 27) hx hb dX4_charge_14 (by decide) (fun z => False.elim (by first | exact absurd z (by decide) | exact absurd (by decide) z)) (fun _ => ?_)
  refine lv_iload_n hx hb dX4_charge_17 rfl (lv_at hl 4 rfl) ?_
  refine lv_iconst (v := 1) hx hb dX4_charge_18 (by decide) ?_
  refine lv_ldc (v := 1000000) hx hb hown (hts (.constant RX4 68 1000000) (by decide +kernel)) dX4_charge_19 ?_
  refine r_S0 X S (c_X4_isWithin l D cA ad _ F am 1 1000000) (va_cwS 3 hts gX4_charge_X4_isWithin rfl rfl rfl (by decide +kernel) ⟨Nat.le_of_ble_eq_true rfl, Nat.le_of_ble_eq_true rfl⟩) rfl hl.1 rfl (Nat.le_of_ble_eq_true rfl) dX4_charge_21 ⟨Nat.zero_le _, Nat.zero_le _⟩ (fun H locs S => ?_)
  refine lv_if_ne (tgt := 37) hx hb dX4_charge_24 (by decide) (fun _ => ?_) (fun z => False.elim (by rw [h1] at z; revert z; decide))
  refine lv_iload_n hx hb dX4_charge_37 rfl (lv_at hl 3 rfl) ?_
  refine lv_iconst (v := 1) hx hb dX4_charge_38 (by decide) ?_
  refine lv_icmp_ne (tgt := 59) hx hb dX4_charge_39 (by decide) (fun _ => ?_) (fun z => False.elim (by first | exact absurd z (by decide) | exact absurd (by decide) z))
  refine lv_aload hx hb dX4_charge_59 (lv_at hl 0 rfl) ?_
  refine lv_dup hx hb dX4_charge_61 rfl ?_
  refine r_geti X S hw3 (ob_S i hi) 7 ⟨rfl, by decide, rfl⟩ rfl (hts (.fieldLink RX4 135 "TermBill$Student" "housing" "I") (by decide +kernel)) dX4_charge_62 ?_
  refine lv_iload_n hx hb dX4_charge_65 rfl (lv_at hl 4 rfl) ?_
  refine lv_iadd hx hb dX4_charge_66 ?_
  refine r_puti X S hw3 (ob_S i hi) 7 ⟨rfl, by decide, rfl⟩ rfl (hts (.fieldLink RX4 135 "TermBill$Student" "housing" "I") (by decide +kernel)) tyX3 tyX3_ok nmX3 rfl rfl dX4_charge_67 (fun H locs S => ?_)
  obtain ⟨F_1, eF_1⟩ : ∃ z, z = u2 F (4 + 8 * i) 7 ((F (4 + 8 * i) 7) + am) := ⟨_, rfl⟩
  rw [← eF_1] at S
  refine lv_aload hx hb dX4_charge_70 (lv_at hl 0 rfl) ?_
  refine r_geti X S hw3 (ob_S i hi) 7 ⟨rfl, by decide, rfl⟩ rfl (hts (.fieldLink RX4 135 "TermBill$Student" "housing" "I") (by decide +kernel)) dX4_charge_72 ?_
  rw [show F_1 (4 + 8 * i) 7 = F (4 + 8 * i) 7 + am from (by rw [eF_1, u2_eq])]
  exact r_iret X S hr dX4_charge_75 (Nat.le_of_ble_eq_true rfl) (Nat.le_of_ble_eq_true rfl) rfl eF_1

set_option maxHeartbeats 1000000 in
set_option maxRecDepth 100000 in
theorem x1_X4_charge (l : Launch) (hst : l.stackTraces = false) (D : va_G) (cA : Nat → ClassId) (ad : Nat → Nat) (sz : Nat) (F : FF) (x kd am : Int32) (h : wi x 0 3 = false) : CX l D cA ad sz yX4_charge wsX4_charge 7 112 [.ref (ad 0), .int x, .int kd, .int am] F "java/lang/IndexOutOfBoundsException" F := by
  refine CX_of (own := RX4) (cc := cX4_charge) (maxL := 5) (ret := (some .int)) (by decide +kernel) rfl rfl (Nat.le_of_ble_eq_true rfl) ?_
  intro p e s m below meth c ls X S hno hl
  obtain ⟨⟨hx, hb, hml, hown, hts⟩, hE, hI, hlocks⟩ := id X
  have hl : lv_has ls 5 [(0, .ref (ad 0)), (1, .int x), (2, .int kd), (3, .int am)] := hl
  refine lv_aload_n hx hb dX4_charge_0 rfl (lv_at hl 0 rfl) ?_
  refine lv_iload_n hx hb dX4_charge_1 rfl (lv_at hl 1 rfl) ?_
  refine r_VX X S (x_X4_studentAt l hst D cA ad _ F x h) ob_0 rfl (cwV 1 hts gX4_charge_X4_studentAt rfl rfl rfl (by decide +kernel) ⟨Nat.le_of_ble_eq_true rfl, Nat.le_of_ble_eq_true rfl⟩) rfl hl.1 rfl (Nat.le_of_ble_eq_true rfl) dX4_charge_2 ⟨Nat.le_of_ble_eq_true rfl, Nat.le_of_ble_eq_true rfl⟩ (fun ce q9 H locs S h1 h2 h3 => ?_)
  exact r_out X S hno h1 h2 h3 (Nat.le_refl _) (Nat.le_refl _) rfl

set_option maxHeartbeats 1000000 in
set_option maxRecDepth 100000 in
theorem x2_X4_charge (l : Launch) (hst : l.stackTraces = false) (D : va_G) (cA : Nat → ClassId) (ad : Nat → Nat) (sz : Nat) (F : FF) (i : Nat) (hi : i < 4) (kd am : Int32) (h : ¬ ((kd = 1 ∨ kd = 2) ∧ wi am 1 1000000 = true)) : CX l D cA ad sz yX4_charge wsX4_charge 6 90 [.ref (ad 0), .int (nI i), .int kd, .int am] F "java/lang/IllegalArgumentException" F := by
  refine CX_of (own := RX4) (cc := cX4_charge) (maxL := 5) (ret := (some .int)) (by decide +kernel) rfl rfl (Nat.le_of_ble_eq_true rfl) ?_
  intro p e s m below meth c ls X S hno hl
  obtain ⟨⟨hx, hb, hml, hown, hts⟩, hE, hI, hlocks⟩ := id X
  have hl : lv_has ls 5 [(0, .ref (ad 0)), (1, .int (nI i)), (2, .int kd), (3, .int am)] := hl
  refine lv_aload_n hx hb dX4_charge_0 rfl (lv_at hl 0 rfl) ?_
  refine lv_iload_n hx hb dX4_charge_1 rfl (lv_at hl 1 rfl) ?_
  refine r_V0 X S (c_X4_studentAt l D cA ad _ F i hi) ob_0 rfl (cwV 1 hts gX4_charge_X4_studentAt rfl rfl rfl (by decide +kernel) ⟨Nat.le_of_ble_eq_true rfl, Nat.le_of_ble_eq_true rfl⟩) rfl hl.1 rfl (Nat.le_of_ble_eq_true rfl) dX4_charge_2 ⟨Nat.zero_le _, Nat.zero_le _⟩ (fun H locs S => ?_)
  refine lv_astore (lv' := [(4, .ref (ad (4 + 8 * i))), (0, .ref (ad 0)), (1, .int (nI i)), (2, .int kd), (3, .int am)]) hx hb dX4_charge_5 hl (by decide) rfl (fun ls hl => ?_)
  refine lv_iload_n hx hb dX4_charge_7 rfl (lv_at hl 3 rfl) ?_
  refine lv_iconst (v := 1) hx hb dX4_charge_8 (by decide) ?_
  refine lv_icmp_eq (tgt := 17) hx hb dX4_charge_9 (by decide) (fun c_1 => ?_) (fun c_1 => ?_)
  · refine lv_iload_n hx hb dX4_charge_17 rfl (lv_at hl 4 rfl) ?_
    refine lv_iconst (v := 1) hx hb dX4_charge_18 (by decide) ?_
    refine lv_ldc (v := 1000000) hx hb hown (hts (.constant RX4 68 1000000) (by decide +kernel)) dX4_charge_19 ?_
    refine r_S0 X S (c_X4_isWithin l D cA ad _ F am 1 1000000) (va_cwS 3 hts gX4_charge_X4_isWithin rfl rfl rfl (by decide +kernel) ⟨Nat.le_of_ble_eq_true rfl, Nat.le_of_ble_eq_true rfl⟩) rfl hl.1 rfl (Nat.le_of_ble_eq_true rfl) dX4_charge_21 ⟨Nat.zero_le _, Nat.zero_le _⟩ (fun H locs S => ?_)
    refine lv_if_ne (tgt := 37) hx hb dX4_charge_24 (by decide) (fun z => False.elim (h ⟨Or.inl c_1, bI_t z⟩)) (fun _ => ?_)
    exact r_throw X S hst hno (is := 130) (text := "kind or amount is out of range") hl.1 (by decide +kernel) (hts (.classLink RX4 57 "java/lang/IllegalArgumentException") (by decide +kernel)) (hts (.initialized "java/lang/IllegalArgumentException") (by decide +kernel)) (by decide +kernel) (hat61 hE.2.2.2.2 hts (fun w h => List.mem_cons_of_mem _ (by first | exact List.mem_append_right _ h | exact List.mem_append_left _ (List.mem_append_right _ h) | exact List.mem_append_left _ (List.mem_append_left _ (List.mem_append_right _ h))))) hgd61 dX4_charge_27 dX4_charge_30 dX4_charge_31 dX4_charge_33 dX4_charge_36 ⟨Nat.le_of_ble_eq_true rfl, Nat.le_of_ble_eq_true rfl, Nat.le_of_ble_eq_true rfl, Nat.le_of_ble_eq_true rfl⟩ (Nat.le_refl _) (Nat.le_refl _) rfl
  · refine lv_iload_n hx hb dX4_charge_12 rfl (lv_at hl 3 rfl) ?_
    refine lv_iconst (v := 2) hx hb dX4_charge_13 (by decide) ?_
    refine lv_icmp_ne (tgt := 27) hx hb dX4_charge_14 (by decide) (fun c_2 => ?_) (fun c_2 => ?_)
    · exact r_throw X S hst hno (is := 130) (text := "kind or amount is out of range") hl.1 (by decide +kernel) (hts (.classLink RX4 57 "java/lang/IllegalArgumentException") (by decide +kernel)) (hts (.initialized "java/lang/IllegalArgumentException") (by decide +kernel)) (by decide +kernel) (hat61 hE.2.2.2.2 hts (fun w h => List.mem_cons_of_mem _ (by first | exact List.mem_append_right _ h | exact List.mem_append_left _ (List.mem_append_right _ h) | exact List.mem_append_left _ (List.mem_append_left _ (List.mem_append_right _ h))))) hgd61 dX4_charge_27 dX4_charge_30 dX4_charge_31 dX4_charge_33 dX4_charge_36 ⟨Nat.le_of_ble_eq_true rfl, Nat.le_of_ble_eq_true rfl, Nat.le_of_ble_eq_true rfl, Nat.le_of_ble_eq_true rfl⟩ (Nat.le_refl _) (Nat.le_refl _) rfl
    · refine lv_iload_n hx hb dX4_charge_17 rfl (lv_at hl 4 rfl) ?_
      refine lv_iconst (v := 1) hx hb dX4_charge_18 (by decide) ?_
      refine lv_ldc (v := 1000000) hx hb hown (hts (.constant RX4 68 1000000) (by decide +kernel)) dX4_charge_19 ?_
      refine r_S0 X S (c_X4_isWithin l D cA ad _ F am 1 1000000) (va_cwS 3 hts gX4_charge_X4_isWithin rfl rfl rfl (by decide +kernel) ⟨Nat.le_of_ble_eq_true rfl, Nat.le_of_ble_eq_true rfl⟩) rfl hl.1 rfl (Nat.le_of_ble_eq_true rfl) dX4_charge_21 ⟨Nat.zero_le _, Nat.zero_le _⟩ (fun H locs S => ?_)
      refine lv_if_ne (tgt := 37) hx hb dX4_charge_24 (by decide) (fun z => False.elim (h ⟨Or.inr c_2, bI_t z⟩)) (fun _ => ?_)
      exact r_throw X S hst hno (is := 130) (text := "kind or amount is out of range") hl.1 (by decide +kernel) (hts (.classLink RX4 57 "java/lang/IllegalArgumentException") (by decide +kernel)) (hts (.initialized "java/lang/IllegalArgumentException") (by decide +kernel)) (by decide +kernel) (hat61 hE.2.2.2.2 hts (fun w h => List.mem_cons_of_mem _ (by first | exact List.mem_append_right _ h | exact List.mem_append_left _ (List.mem_append_right _ h) | exact List.mem_append_left _ (List.mem_append_left _ (List.mem_append_right _ h))))) hgd61 dX4_charge_27 dX4_charge_30 dX4_charge_31 dX4_charge_33 dX4_charge_36 ⟨Nat.le_of_ble_eq_true rfl, Nat.le_of_ble_eq_true rfl, Nat.le_of_ble_eq_true rfl, Nat.le_of_ble_eq_true rfl⟩ (Nat.le_refl _) (Nat.le_refl _) rfl

set_option maxHeartbeats 1000000 in
set_option maxRecDepth 100000 in
theorem c_X4_award (l : Launch) (D : va_G) (cA : Nat → ClassId) (ad : Nat → Nat) (sz : Nat) (F : FF) (i : Nat) (hi : i < 4) (rk am : Int32) (h1 : wi rk 0 2 = true) (h2 : wi am 1 1000000 = true) (t : Nat) (ht : t < 6) (et : F (4 + 8 * i + 3) 3 = nI t) : CI l D cA ad sz yX4_award wsX4_award 1 22 0 0 [.ref (ad 0), .int (nI i), .int rk, .int am] F (some (.int (nI t))) (u2 (u2 (u2 F (4 + 8 * i + 4) t rk) (4 + 8 * i + 5) t am) (4 + 8 * i + 3) 3 (nI (t + 1))) := by
  refine CI_of (own := RX4) (cc := cX4_award) (maxL := 6) (ret := (some .int)) (by decide +kernel) rfl rfl (Nat.le_of_ble_eq_true rfl) ?_
  intro p e s m below meth c ls X S hr hl
  obtain ⟨⟨hx, hb, hml, hown, hts⟩, hE, hI, hlocks⟩ := id X
  have hl : lv_has ls 6 [(0, .ref (ad 0)), (1, .int (nI i)), (2, .int rk), (3, .int am)] := hl
  have hw3 : ∀ w ∈ wsX30, w.before _ s = true := fun w h => hts w ((by decide +kernel : ∀ w ∈ wsX30, w ∈ wsX4_award) w h)
  refine lv_aload_n hx hb dX4_award_0 rfl (lv_at hl 0 rfl) ?_
  refine lv_iload_n hx hb dX4_award_1 rfl (lv_at hl 1 rfl) ?_
  refine r_V0 X S (c_X4_studentAt l D cA ad _ F i hi) ob_0 rfl (cwV 1 hts gX4_award_X4_studentAt rfl rfl rfl (by decide +kernel) ⟨Nat.le_of_ble_eq_true rfl, Nat.le_of_ble_eq_true rfl⟩) rfl hl.1 rfl (Nat.le_of_ble_eq_true rfl) dX4_award_2 ⟨Nat.zero_le _, Nat.zero_le _⟩ (fun H locs S => ?_)
  refine lv_astore (lv' := [(4, .ref (ad (4 + 8 * i))), (0, .ref (ad 0)), (1, .int (nI i)), (2, .int rk), (3, .int am)]) hx hb dX4_award_5 hl (by decide) rfl (fun ls hl => ?_)
  refine lv_iload_n hx hb dX4_award_7 rfl (lv_at hl 3 rfl) ?_
  refine lv_iconst (v := 0) hx hb dX4_award_8 (by decide) ?_
  refine lv_iconst (v := 2) hx hb dX4_award_9 (by decide) ?_
  refine r_S0 X S (c_X4_isWithin l D cA ad _ F rk 0 2) (va_cwS 3 hts gX4_award_X4_isWithin rfl rfl rfl (by decide +kernel) ⟨Nat.le_of_ble_eq_true rfl, Nat.le_of_ble_eq_true rfl⟩) rfl hl.1 rfl (Nat.le_of_ble_eq_true rfl) dX4_award_10 ⟨Nat.zero_le _, Nat.zero_le _⟩ (fun H locs S => ?_)
  refine lv_if_eq (tgt := 26) hx hb dX4_award_13 (by decide) (fun z => False.elim (by rw [h1] at z; revert z; decide)) (fun _ => ?_)
  refine lv_iload_n hx hb dX4_award_16 rfl (lv_at hl 4 rfl) ?_
  refine lv_iconst (v := 1) hx hb dX4_award_17 (by decide) ?_
  refine lv_ldc (v := 1000000) hx hb hown (hts (.constant RX4 68 1000000) (by decide +kernel)) dX4_award_18 ?_
  refine r_S0 X S (c_X4_isWithin l D cA ad _ F am 1 1000000) (va_cwS 3 hts gX4_award_X4_isWithin rfl rfl rfl (by decide +kernel) ⟨Nat.le_of_ble_eq_true rfl, Nat.le_of_ble_eq_true rfl⟩) rfl hl.1 rfl (Nat.le_of_ble_eq_true rfl) dX4_award_20 ⟨Nat.zero_le _, Nat.zero_le _⟩ (fun H locs S => ?_)
  refine lv_if_ne (tgt := 36) hx hb dX4_award_23 (by decide) (fun _ => ?_) (fun z => False.elim (by rw [h2] at z; revert z; decide))
  refine lv_aload hx hb dX4_award_36 (lv_at hl 0 rfl) ?_
  refine r_getr (q := 4 + 8 * i + 3) X S hw3 (ob_S i hi) 1 ⟨rfl, by decide, rfl⟩ rfl (hts (.fieldLink RX4 140 "TermBill$Student" "aid" "LTermBill$Aid;") (by decide +kernel)) dX4_award_38 ?_
  refine lv_iload_n hx hb dX4_award_41 rfl (lv_at hl 3 rfl) ?_
  refine lv_iload_n hx hb dX4_award_42 rfl (lv_at hl 4 rfl) ?_
  refine r_V0 X S (c_X0_add l D cA ad _ F i hi t ht et rk am) (ob_A i hi) rfl (cwV 2 hts gX4_award_X0_add rfl rfl rfl (by decide +kernel) ⟨Nat.le_of_ble_eq_true rfl, Nat.le_of_ble_eq_true rfl⟩) rfl hl.1 rfl (Nat.le_of_ble_eq_true rfl) dX4_award_43 ⟨Nat.zero_le _, Nat.zero_le _⟩ (fun H locs S => ?_)
  obtain ⟨F_1, eF_1⟩ : ∃ z, z = u2 (u2 (u2 F (4 + 8 * i + 4) t rk) (4 + 8 * i + 5) t am) (4 + 8 * i + 3) 3 (nI (t + 1)) := ⟨_, rfl⟩
  rw [← eF_1] at S
  refine lv_istore (lv' := [(5, .int (nI t)), (4, .ref (ad (4 + 8 * i))), (0, .ref (ad 0)), (1, .int (nI i)), (2, .int rk), (3, .int am)]) hx hb dX4_award_46 hl (by decide) rfl (fun ls hl => ?_)
  refine lv_iload hx hb dX4_award_48 (lv_at hl 0 rfl) ?_
  refine lv_if_ge (tgt := 63) hx hb dX4_award_50 (by decide) (fun _ => ?_) (fun z => False.elim (z (nI_pos' (by omega))))
  refine lv_iload hx hb dX4_award_63 (lv_at hl 0 rfl) ?_
  exact r_iret X S hr dX4_award_65 (Nat.le_of_ble_eq_true rfl) (Nat.le_of_ble_eq_true rfl) (by rfl) (by simp only [eF_1])

set_option maxHeartbeats 1000000 in
set_option maxRecDepth 100000 in
theorem x1_X4_award (l : Launch) (hst : l.stackTraces = false) (D : va_G) (cA : Nat → ClassId) (ad : Nat → Nat) (sz : Nat) (F : FF) (x rk am : Int32) (h : wi x 0 3 = false) : CX l D cA ad sz yX4_award wsX4_award 7 112 [.ref (ad 0), .int x, .int rk, .int am] F "java/lang/IndexOutOfBoundsException" F := by
  refine CX_of (own := RX4) (cc := cX4_award) (maxL := 6) (ret := (some .int)) (by decide +kernel) rfl rfl (Nat.le_of_ble_eq_true rfl) ?_
  intro p e s m below meth c ls X S hno hl
  obtain ⟨⟨hx, hb, hml, hown, hts⟩, hE, hI, hlocks⟩ := id X
  have hl : lv_has ls 6 [(0, .ref (ad 0)), (1, .int x), (2, .int rk), (3, .int am)] := hl
  refine lv_aload_n hx hb dX4_award_0 rfl (lv_at hl 0 rfl) ?_
  refine lv_iload_n hx hb dX4_award_1 rfl (lv_at hl 1 rfl) ?_
  refine r_VX X S (x_X4_studentAt l hst D cA ad _ F x h) ob_0 rfl (cwV 1 hts gX4_award_X4_studentAt rfl rfl rfl (by decide +kernel) ⟨Nat.le_of_ble_eq_true rfl, Nat.le_of_ble_eq_true rfl⟩) rfl hl.1 rfl (Nat.le_of_ble_eq_true rfl) dX4_award_2 ⟨Nat.le_of_ble_eq_true rfl, Nat.le_of_ble_eq_true rfl⟩ (fun ce q9 H locs S h1 h2 h3 => ?_)
  exact r_out X S hno h1 h2 h3 (Nat.le_refl _) (Nat.le_refl _) rfl

set_option maxHeartbeats 1000000 in
set_option maxRecDepth 100000 in
theorem x2_X4_award (l : Launch) (hst : l.stackTraces = false) (D : va_G) (cA : Nat → ClassId) (ad : Nat → Nat) (sz : Nat) (F : FF) (i : Nat) (hi : i < 4) (rk am : Int32) (h : ¬ (wi rk 0 2 = true ∧ wi am 1 1000000 = true)) : CX l D cA ad sz yX4_award wsX4_award 6 90 [.ref (ad 0), .int (nI i), .int rk, .int am] F "java/lang/IllegalArgumentException" F := by
  refine CX_of (own := RX4) (cc := cX4_award) (maxL := 6) (ret := (some .int)) (by decide +kernel) rfl rfl (Nat.le_of_ble_eq_true rfl) ?_
  intro p e s m below meth c ls X S hno hl
  obtain ⟨⟨hx, hb, hml, hown, hts⟩, hE, hI, hlocks⟩ := id X
  have hl : lv_has ls 6 [(0, .ref (ad 0)), (1, .int (nI i)), (2, .int rk), (3, .int am)] := hl
  refine lv_aload_n hx hb dX4_award_0 rfl (lv_at hl 0 rfl) ?_
  refine lv_iload_n hx hb dX4_award_1 rfl (lv_at hl 1 rfl) ?_
  refine r_V0 X S (c_X4_studentAt l D cA ad _ F i hi) ob_0 rfl (cwV 1 hts gX4_award_X4_studentAt rfl rfl rfl (by decide +kernel) ⟨Nat.le_of_ble_eq_true rfl, Nat.le_of_ble_eq_true rfl⟩) rfl hl.1 rfl (Nat.le_of_ble_eq_true rfl) dX4_award_2 ⟨Nat.zero_le _, Nat.zero_le _⟩ (fun H locs S => ?_)
  refine lv_astore (lv' := [(4, .ref (ad (4 + 8 * i))), (0, .ref (ad 0)), (1, .int (nI i)), (2, .int rk), (3, .int am)]) hx hb dX4_award_5 hl (by decide) rfl (fun ls hl => ?_)
  refine lv_iload_n hx hb dX4_award_7 rfl (lv_at hl 3 rfl) ?_
  refine lv_iconst (v := 0) hx hb dX4_award_8 (by decide) ?_
  refine lv_iconst (v := 2) hx hb dX4_award_9 (by decide) ?_
  refine r_S0 X S (c_X4_isWithin l D cA ad _ F rk 0 2) (va_cwS 3 hts gX4_award_X4_isWithin rfl rfl rfl (by decide +kernel) ⟨Nat.le_of_ble_eq_true rfl, Nat.le_of_ble_eq_true rfl⟩) rfl hl.1 rfl (Nat.le_of_ble_eq_true rfl) dX4_award_10 ⟨Nat.zero_le _, Nat.zero_le _⟩ (fun H locs S => ?_)
  refine lv_if_eq (tgt := 26) hx hb dX4_award_13 (by decide) (fun c_1 => ?_) (fun c_1 => ?_)
  · have c_1 : (wi rk 0 2) = false := bI_f c_1
    exact r_throw X S hst hno (is := 138) (text := "rank or amount is out of range") hl.1 (by decide +kernel) (hts (.classLink RX4 57 "java/lang/IllegalArgumentException") (by decide +kernel)) (hts (.initialized "java/lang/IllegalArgumentException") (by decide +kernel)) (by decide +kernel) (hat61 hE.2.2.2.2 hts (fun w h => List.mem_cons_of_mem _ (by first | exact List.mem_append_right _ h | exact List.mem_append_left _ (List.mem_append_right _ h) | exact List.mem_append_left _ (List.mem_append_left _ (List.mem_append_right _ h))))) hgd61 dX4_award_26 dX4_award_29 dX4_award_30 dX4_award_32 dX4_award_35 ⟨Nat.le_of_ble_eq_true rfl, Nat.le_of_ble_eq_true rfl, Nat.le_of_ble_eq_true rfl, Nat.le_of_ble_eq_true rfl⟩ (Nat.le_refl _) (Nat.le_refl _) rfl
  · have c_1 : (wi rk 0 2) = true := bI_t c_1
    refine lv_iload_n hx hb dX4_award_16 rfl (lv_at hl 4 rfl) ?_
    refine lv_iconst (v := 1) hx hb dX4_award_17 (by decide) ?_
    refine lv_ldc (v := 1000000) hx hb hown (hts (.constant RX4 68 1000000) (by decide +kernel)) dX4_award_18 ?_
    refine r_S0 X S (c_X4_isWithin l D cA ad _ F am 1 1000000) (va_cwS 3 hts gX4_award_X4_isWithin rfl rfl rfl (by decide +kernel) ⟨Nat.le_of_ble_eq_true rfl, Nat.le_of_ble_eq_true rfl⟩) rfl hl.1 rfl (Nat.le_of_ble_eq_true rfl) dX4_award_20 ⟨Nat.zero_le _, Nat.zero_le _⟩ (fun H locs S => ?_)
    refine lv_if_ne (tgt := 36) hx hb dX4_award_23 (by decide) (fun z => False.elim (h ⟨c_1, bI_t z⟩)) (fun _ => ?_)
    exact r_throw X S hst hno (is := 138) (text := "rank or amount is out of range") hl.1 (by decide +kernel) (hts (.classLink RX4 57 "java/lang/IllegalArgumentException") (by decide +kernel)) (hts (.initialized "java/lang/IllegalArgumentException") (by decide +kernel)) (by decide +kernel) (hat61 hE.2.2.2.2 hts (fun w h => List.mem_cons_of_mem _ (by first | exact List.mem_append_right _ h | exact List.mem_append_left _ (List.mem_append_right _ h) | exact List.mem_append_left _ (List.mem_append_left _ (List.mem_append_right _ h))))) hgd61 dX4_award_26 dX4_award_29 dX4_award_30 dX4_award_32 dX4_award_35 ⟨Nat.le_of_ble_eq_true rfl, Nat.le_of_ble_eq_true rfl, Nat.le_of_ble_eq_true rfl, Nat.le_of_ble_eq_true rfl⟩ (Nat.le_refl _) (Nat.le_refl _) rfl

set_option maxHeartbeats 1000000 in
set_option maxRecDepth 100000 in
theorem x3_X4_award (l : Launch) (hst : l.stackTraces = false) (D : va_G) (cA : Nat → ClassId) (ad : Nat → Nat) (sz : Nat) (F : FF) (i : Nat) (hi : i < 4) (rk am : Int32) (h1 : wi rk 0 2 = true) (h2 : wi am 1 1000000 = true) (et : F (4 + 8 * i + 3) 3 = nI 6) : CX l D cA ad sz yX4_award wsX4_award 6 90 [.ref (ad 0), .int (nI i), .int rk, .int am] F "java/lang/IllegalStateException" F := by
  refine CX_of (own := RX4) (cc := cX4_award) (maxL := 6) (ret := (some .int)) (by decide +kernel) rfl rfl (Nat.le_of_ble_eq_true rfl) ?_
  intro p e s m below meth c ls X S hno hl
  obtain ⟨⟨hx, hb, hml, hown, hts⟩, hE, hI, hlocks⟩ := id X
  have hl : lv_has ls 6 [(0, .ref (ad 0)), (1, .int (nI i)), (2, .int rk), (3, .int am)] := hl
  have hw3 : ∀ w ∈ wsX30, w.before _ s = true := fun w h => hts w ((by decide +kernel : ∀ w ∈ wsX30, w ∈ wsX4_award) w h)
  refine lv_aload_n hx hb dX4_award_0 rfl (lv_at hl 0 rfl) ?_
  refine lv_iload_n hx hb dX4_award_1 rfl (lv_at hl 1 rfl) ?_
  refine r_V0 X S (c_X4_studentAt l D cA ad _ F i hi) ob_0 rfl (cwV 1 hts gX4_award_X4_studentAt rfl rfl rfl (by decide +kernel) ⟨Nat.le_of_ble_eq_true rfl, Nat.le_of_ble_eq_true rfl⟩) rfl hl.1 rfl (Nat.le_of_ble_eq_true rfl) dX4_award_2 ⟨Nat.zero_le _, Nat.zero_le _⟩ (fun H locs S => ?_)
  refine lv_astore (lv' := [(4, .ref (ad (4 + 8 * i))), (0, .ref (ad 0)), (1, .int (nI i)), (2, .int rk), (3, .int am)]) hx hb dX4_award_5 hl (by decide) rfl (fun ls hl => ?_)
  refine lv_iload_n hx hb dX4_award_7 rfl (lv_at hl 3 rfl) ?_
  refine lv_iconst (v := 0) hx hb dX4_award_8 (by decide) ?_
  refine lv_iconst (v := 2) hx hb dX4_award_9 (by decide) ?_
  refine r_S0 X S (c_X4_isWithin l D cA ad _ F rk 0 2) (va_cwS 3 hts gX4_award_X4_isWithin rfl rfl rfl (by decide +kernel) ⟨Nat.le_of_ble_eq_true rfl, Nat.le_of_ble_eq_true rfl⟩) rfl hl.1 rfl (Nat.le_of_ble_eq_true rfl) dX4_award_10 ⟨Nat.zero_le _, Nat.zero_le _⟩ (fun H locs S => ?_)
  refine lv_if_eq (tgt := 26) hx hb dX4_award_13 (by decide) (fun z => False.elim (by rw [h1] at z; revert z; decide)) (fun _ => ?_)
  refine lv_iload_n hx hb dX4_award_16 rfl (lv_at hl 4 rfl) ?_
  refine lv_iconst (v := 1) hx hb dX4_award_17 (by decide) ?_
  refine lv_ldc (v := 1000000) hx hb hown (hts (.constant RX4 68 1000000) (by decide +kernel)) dX4_award_18 ?_
  refine r_S0 X S (c_X4_isWithin l D cA ad _ F am 1 1000000) (va_cwS 3 hts gX4_award_X4_isWithin rfl rfl rfl (by decide +kernel) ⟨Nat.le_of_ble_eq_true rfl, Nat.le_of_ble_eq_true rfl⟩) rfl hl.1 rfl (Nat.le_of_ble_eq_true rfl) dX4_award_20 ⟨Nat.zero_le _, Nat.zero_le _⟩ (fun H locs S => ?_)
  refine lv_if_ne (tgt := 36) hx hb dX4_award_23 (by decide) (fun _ => ?_) (fun z => False.elim (by rw [h2] at z; revert z; decide))
  refine lv_aload hx hb dX4_award_36 (lv_at hl 0 rfl) ?_
  refine r_getr (q := 4 + 8 * i + 3) X S hw3 (ob_S i hi) 1 ⟨rfl, by decide, rfl⟩ rfl (hts (.fieldLink RX4 140 "TermBill$Student" "aid" "LTermBill$Aid;") (by decide +kernel)) dX4_award_38 ?_
  refine lv_iload_n hx hb dX4_award_41 rfl (lv_at hl 3 rfl) ?_
  refine lv_iload_n hx hb dX4_award_42 rfl (lv_at hl 4 rfl) ?_
  refine r_V0 X S (c_X0_addf l D cA ad _ F i hi et rk am) (ob_A i hi) rfl (cwV 2 hts gX4_award_X0_add rfl rfl rfl (by decide +kernel) ⟨Nat.le_of_ble_eq_true rfl, Nat.le_of_ble_eq_true rfl⟩) rfl hl.1 rfl (Nat.le_of_ble_eq_true rfl) dX4_award_43 ⟨Nat.zero_le _, Nat.zero_le _⟩ (fun H locs S => ?_)
  refine lv_istore (lv' := [(5, .int (-1)), (4, .ref (ad (4 + 8 * i))), (0, .ref (ad 0)), (1, .int (nI i)), (2, .int rk), (3, .int am)]) hx hb dX4_award_46 hl (by decide) rfl (fun ls hl => ?_)
  refine lv_iload hx hb dX4_award_48 (lv_at hl 0 rfl) ?_
  refine lv_if_ge (tgt := 63) hx hb dX4_award_50 (by decide) (fun z => False.elim (by first | exact absurd z (by decide) | exact absurd (by decide) z)) (fun _ => ?_)
  exact r_throw X S hst hno (is := 149) (text := "it has all awards of the term") hl.1 (by decide +kernel) (hts (.classLink RX4 107 "java/lang/IllegalStateException") (by decide +kernel)) (hts (.initialized "java/lang/IllegalStateException") (by decide +kernel)) (by decide +kernel) (hat111 hE.2.2.2.2 hts (fun w h => List.mem_cons_of_mem _ (by first | exact List.mem_append_right _ h | exact List.mem_append_left _ (List.mem_append_right _ h) | exact List.mem_append_left _ (List.mem_append_left _ (List.mem_append_right _ h))))) hgd111 dX4_award_53 dX4_award_56 dX4_award_57 dX4_award_59 dX4_award_62 ⟨Nat.le_of_ble_eq_true rfl, Nat.le_of_ble_eq_true rfl, Nat.le_of_ble_eq_true rfl, Nat.le_of_ble_eq_true rfl⟩ (Nat.le_refl _) (Nat.le_refl _) rfl

set_option maxHeartbeats 1000000 in
set_option maxRecDepth 100000 in
theorem c_X4_pay (l : Launch) (D : va_G) (cA : Nat → ClassId) (ad : Nat → Nat) (sz : Nat) (F : FF) (i : Nat) (hi : i < 4) (am : Int32) (h1 : wi am 1 1000000 = true) : CI l D cA ad sz yX4_pay wsX4_pay 5 110 0 0 [.ref (ad 0), .int (nI i), .int am] F (some (.int (balV (pyF F i am) i))) (balF (pyF F i am) i) := by
  refine CI_of (own := RX4) (cc := cX4_pay) (maxL := 4) (ret := (some .int)) (by decide +kernel) rfl rfl (Nat.le_of_ble_eq_true rfl) ?_
  intro p e s m below meth c ls X S hr hl
  obtain ⟨⟨hx, hb, hml, hown, hts⟩, hE, hI, hlocks⟩ := id X
  have hl : lv_has ls 4 [(0, .ref (ad 0)), (1, .int (nI i)), (2, .int am)] := hl
  have hw2 : ∀ w ∈ wsX20, w.before _ s = true := fun w h => hts w ((by decide +kernel : ∀ w ∈ wsX20, w ∈ wsX4_pay) w h)
  have hw3 : ∀ w ∈ wsX30, w.before _ s = true := fun w h => hts w ((by decide +kernel : ∀ w ∈ wsX30, w ∈ wsX4_pay) w h)
  refine lv_aload_n hx hb dX4_pay_0 rfl (lv_at hl 0 rfl) ?_
  refine lv_iload_n hx hb dX4_pay_1 rfl (lv_at hl 1 rfl) ?_
  refine r_V0 X S (c_X4_studentAt l D cA ad _ F i hi) ob_0 rfl (cwV 1 hts gX4_pay_X4_studentAt rfl rfl rfl (by decide +kernel) ⟨Nat.le_of_ble_eq_true rfl, Nat.le_of_ble_eq_true rfl⟩) rfl hl.1 rfl (Nat.le_of_ble_eq_true rfl) dX4_pay_2 ⟨Nat.zero_le _, Nat.zero_le _⟩ (fun H locs S => ?_)
  refine lv_astore_n (lv' := [(3, .ref (ad (4 + 8 * i))), (0, .ref (ad 0)), (1, .int (nI i)), (2, .int am)]) hx hb dX4_pay_5 rfl hl (by decide) rfl (fun ls hl => ?_)
  refine lv_iload_n hx hb dX4_pay_6 rfl (lv_at hl 3 rfl) ?_
  refine lv_iconst (v := 1) hx hb dX4_pay_7 (by decide) ?_
  refine lv_ldc (v := 1000000) hx hb hown (hts (.constant RX4 68 1000000) (by decide +kernel)) dX4_pay_8 ?_
  refine r_S0 X S (c_X4_isWithin l D cA ad _ F am 1 1000000) (va_cwS 3 hts gX4_pay_X4_isWithin rfl rfl rfl (by decide +kernel) ⟨Nat.le_of_ble_eq_true rfl, Nat.le_of_ble_eq_true rfl⟩) rfl hl.1 rfl (Nat.le_of_ble_eq_true rfl) dX4_pay_10 ⟨Nat.zero_le _, Nat.zero_le _⟩ (fun H locs S => ?_)
  refine lv_if_ne (tgt := 26) hx hb dX4_pay_13 (by decide) (fun _ => ?_) (fun z => False.elim (by rw [h1] at z; revert z; decide))
  refine lv_aload_n hx hb dX4_pay_26 rfl (lv_at hl 0 rfl) ?_
  refine lv_dup hx hb dX4_pay_27 rfl ?_
  refine r_geti X S hw3 (ob_S i hi) 10 ⟨rfl, by decide, rfl⟩ rfl (hts (.fieldLink RX4 153 "TermBill$Student" "paidSum" "I") (by decide +kernel)) dX4_pay_28 ?_
  refine lv_iload_n hx hb dX4_pay_31 rfl (lv_at hl 3 rfl) ?_
  refine lv_iadd hx hb dX4_pay_32 ?_
  refine r_puti X S hw3 (ob_S i hi) 10 ⟨rfl, by decide, rfl⟩ rfl (hts (.fieldLink RX4 153 "TermBill$Student" "paidSum" "I") (by decide +kernel)) tyX3 tyX3_ok nmX3 rfl rfl dX4_pay_33 (fun H locs S => ?_)
  obtain ⟨F_1, eF_1⟩ : ∃ z, z = u2 F (4 + 8 * i) 10 ((F (4 + 8 * i) 10) + am) := ⟨_, rfl⟩
  rw [← eF_1] at S
  refine lv_aload_n hx hb dX4_pay_36 rfl (lv_at hl 0 rfl) ?_
  refine r_getr (q := 4 + 8 * i + 7) X S hw3 (ob_S i hi) 2 ⟨rfl, by decide, rfl⟩ rfl (hts (.fieldLink RX4 156 "TermBill$Student" "instalments" "LTermBill$Instalments;") (by decide +kernel)) dX4_pay_37 ?_
  refine lv_dup hx hb dX4_pay_40 rfl ?_
  refine r_geti X S hw2 (ob_I i hi) 4 ⟨rfl, by decide, rfl⟩ rfl (hts (.fieldLink RX4 160 "TermBill$Instalments" "paidSince" "I") (by decide +kernel)) dX4_pay_41 ?_
  refine lv_iload_n hx hb dX4_pay_44 rfl (lv_at hl 3 rfl) ?_
  refine lv_iadd hx hb dX4_pay_45 ?_
  refine r_puti X S hw2 (ob_I i hi) 4 ⟨rfl, by decide, rfl⟩ rfl (hts (.fieldLink RX4 160 "TermBill$Instalments" "paidSince" "I") (by decide +kernel)) tyX2 tyX2_ok nmX2 rfl rfl dX4_pay_46 (fun H locs S => ?_)
  obtain ⟨F_2, eF_2⟩ : ∃ z, z = u2 F_1 (4 + 8 * i + 7) 4 ((F_1 (4 + 8 * i + 7) 4) + am) := ⟨_, rfl⟩
  rw [← eF_2] at S
  refine lv_aload_n hx hb dX4_pay_49 rfl (lv_at hl 1 rfl) ?_
  refine lv_aload_n hx hb dX4_pay_50 rfl (lv_at hl 0 rfl) ?_
  refine r_V0 X S (c_X4_balanceOf l D cA ad _ F_2 i hi) ob_0 rfl (cwV 1 hts gX4_pay_X4_balanceOf rfl rfl rfl (by decide +kernel) ⟨Nat.le_of_ble_eq_true rfl, Nat.le_of_ble_eq_true rfl⟩) rfl hl.1 rfl (Nat.le_of_ble_eq_true rfl) dX4_pay_51 ⟨Nat.zero_le _, Nat.zero_le _⟩ (fun H locs S => ?_)
  obtain ⟨F_3, eF_3⟩ : ∃ z, z = balF F_2 i := ⟨_, rfl⟩
  rw [← eF_3] at S
  exact r_iret X S hr dX4_pay_54 (Nat.le_of_ble_eq_true rfl) (Nat.le_of_ble_eq_true rfl) (by unfold pyF; simp only [eF_2, eF_1]) (by unfold pyF; simp only [eF_3, eF_2, eF_1])

set_option maxHeartbeats 1000000 in
set_option maxRecDepth 100000 in
theorem x1_X4_pay (l : Launch) (hst : l.stackTraces = false) (D : va_G) (cA : Nat → ClassId) (ad : Nat → Nat) (sz : Nat) (F : FF) (x am : Int32) (h : wi x 0 3 = false) : CX l D cA ad sz yX4_pay wsX4_pay 7 112 [.ref (ad 0), .int x, .int am] F "java/lang/IndexOutOfBoundsException" F := by
  refine CX_of (own := RX4) (cc := cX4_pay) (maxL := 4) (ret := (some .int)) (by decide +kernel) rfl rfl (Nat.le_of_ble_eq_true rfl) ?_
  intro p e s m below meth c ls X S hno hl
  obtain ⟨⟨hx, hb, hml, hown, hts⟩, hE, hI, hlocks⟩ := id X
  have hl : lv_has ls 4 [(0, .ref (ad 0)), (1, .int x), (2, .int am)] := hl
  refine lv_aload_n hx hb dX4_pay_0 rfl (lv_at hl 0 rfl) ?_
  refine lv_iload_n hx hb dX4_pay_1 rfl (lv_at hl 1 rfl) ?_
  refine r_VX X S (x_X4_studentAt l hst D cA ad _ F x h) ob_0 rfl (cwV 1 hts gX4_pay_X4_studentAt rfl rfl rfl (by decide +kernel) ⟨Nat.le_of_ble_eq_true rfl, Nat.le_of_ble_eq_true rfl⟩) rfl hl.1 rfl (Nat.le_of_ble_eq_true rfl) dX4_pay_2 ⟨Nat.le_of_ble_eq_true rfl, Nat.le_of_ble_eq_true rfl⟩ (fun ce q9 H locs S h1 h2 h3 => ?_)
  exact r_out X S hno h1 h2 h3 (Nat.le_refl _) (Nat.le_refl _) rfl

set_option maxHeartbeats 1000000 in
set_option maxRecDepth 100000 in
theorem x2_X4_pay (l : Launch) (hst : l.stackTraces = false) (D : va_G) (cA : Nat → ClassId) (ad : Nat → Nat) (sz : Nat) (F : FF) (i : Nat) (hi : i < 4) (am : Int32) (h : wi am 1 1000000 = false) : CX l D cA ad sz yX4_pay wsX4_pay 6 90 [.ref (ad 0), .int (nI i), .int am] F "java/lang/IllegalArgumentException" F := by
  refine CX_of (own := RX4) (cc := cX4_pay) (maxL := 4) (ret := (some .int)) (by decide +kernel) rfl rfl (Nat.le_of_ble_eq_true rfl) ?_
  intro p e s m below meth c ls X S hno hl
  obtain ⟨⟨hx, hb, hml, hown, hts⟩, hE, hI, hlocks⟩ := id X
  have hl : lv_has ls 4 [(0, .ref (ad 0)), (1, .int (nI i)), (2, .int am)] := hl
  refine lv_aload_n hx hb dX4_pay_0 rfl (lv_at hl 0 rfl) ?_
  refine lv_iload_n hx hb dX4_pay_1 rfl (lv_at hl 1 rfl) ?_
  refine r_V0 X S (c_X4_studentAt l D cA ad _ F i hi) ob_0 rfl (cwV 1 hts gX4_pay_X4_studentAt rfl rfl rfl (by decide +kernel) ⟨Nat.le_of_ble_eq_true rfl, Nat.le_of_ble_eq_true rfl⟩) rfl hl.1 rfl (Nat.le_of_ble_eq_true rfl) dX4_pay_2 ⟨Nat.zero_le _, Nat.zero_le _⟩ (fun H locs S => ?_)
  refine lv_astore_n (lv' := [(3, .ref (ad (4 + 8 * i))), (0, .ref (ad 0)), (1, .int (nI i)), (2, .int am)]) hx hb dX4_pay_5 rfl hl (by decide) rfl (fun ls hl => ?_)
  refine lv_iload_n hx hb dX4_pay_6 rfl (lv_at hl 3 rfl) ?_
  refine lv_iconst (v := 1) hx hb dX4_pay_7 (by decide) ?_
  refine lv_ldc (v := 1000000) hx hb hown (hts (.constant RX4 68 1000000) (by decide +kernel)) dX4_pay_8 ?_
  refine r_S0 X S (c_X4_isWithin l D cA ad _ F am 1 1000000) (va_cwS 3 hts gX4_pay_X4_isWithin rfl rfl rfl (by decide +kernel) ⟨Nat.le_of_ble_eq_true rfl, Nat.le_of_ble_eq_true rfl⟩) rfl hl.1 rfl (Nat.le_of_ble_eq_true rfl) dX4_pay_10 ⟨Nat.zero_le _, Nat.zero_le _⟩ (fun H locs S => ?_)
  refine lv_if_ne (tgt := 26) hx hb dX4_pay_13 (by decide) (fun z => False.elim (by rw [h] at z; revert z; decide)) (fun _ => ?_)
  exact r_throw X S hst hno (is := 151) (text := "amount is out of range") hl.1 (by decide +kernel) (hts (.classLink RX4 57 "java/lang/IllegalArgumentException") (by decide +kernel)) (hts (.initialized "java/lang/IllegalArgumentException") (by decide +kernel)) (by decide +kernel) (hat61 hE.2.2.2.2 hts (fun w h => List.mem_cons_of_mem _ (by first | exact List.mem_append_right _ h | exact List.mem_append_left _ (List.mem_append_right _ h) | exact List.mem_append_left _ (List.mem_append_left _ (List.mem_append_right _ h))))) hgd61 dX4_pay_16 dX4_pay_19 dX4_pay_20 dX4_pay_22 dX4_pay_25 ⟨Nat.le_of_ble_eq_true rfl, Nat.le_of_ble_eq_true rfl, Nat.le_of_ble_eq_true rfl, Nat.le_of_ble_eq_true rfl⟩ (Nat.le_refl _) (Nat.le_refl _) rfl

set_option maxHeartbeats 1000000 in
set_option maxRecDepth 100000 in
theorem c_X4_plan (l : Launch) (D : va_G) (cA : Nat → ClassId) (ad : Nat → Nat) (sz : Nat) (F : FF) (i : Nat) (hi : i < 4) (q : Nat) (hq : q < 4) (h : ¬ balV F i ≤ 0) : CI l D cA ad sz yX4_plan wsX4_plan 5 110 0 0 [.ref (ad 0), .int (nI i), .int (nI (q + 1))] F (some (.int (plS (balV F i) (q + 1)))) (plF F i (q + 1)) := by
  refine CI_of (own := RX4) (cc := cX4_plan) (maxL := 7) (ret := (some .int)) (by decide +kernel) rfl rfl (Nat.le_of_ble_eq_true rfl) ?_
  intro p e s m below meth c ls X S hr hl
  obtain ⟨⟨hx, hb, hml, hown, hts⟩, hE, hI, hlocks⟩ := id X
  have hl : lv_has ls 7 [(0, .ref (ad 0)), (1, .int (nI i)), (2, .int (nI (q + 1)))] := hl
  have hw3 : ∀ w ∈ wsX30, w.before _ s = true := fun w h => hts w ((by decide +kernel : ∀ w ∈ wsX30, w ∈ wsX4_plan) w h)
  refine lv_aload_n hx hb dX4_plan_0 rfl (lv_at hl 0 rfl) ?_
  refine lv_iload_n hx hb dX4_plan_1 rfl (lv_at hl 1 rfl) ?_
  refine r_V0 X S (c_X4_studentAt l D cA ad _ F i hi) ob_0 rfl (cwV 1 hts gX4_plan_X4_studentAt rfl rfl rfl (by decide +kernel) ⟨Nat.le_of_ble_eq_true rfl, Nat.le_of_ble_eq_true rfl⟩) rfl hl.1 rfl (Nat.le_of_ble_eq_true rfl) dX4_plan_2 ⟨Nat.zero_le _, Nat.zero_le _⟩ (fun H locs S => ?_)
  refine lv_astore_n (lv' := [(3, .ref (ad (4 + 8 * i))), (0, .ref (ad 0)), (1, .int (nI i)), (2, .int (nI (q + 1)))]) hx hb dX4_plan_5 rfl hl (by decide) rfl (fun ls hl => ?_)
  refine lv_iload_n hx hb dX4_plan_6 rfl (lv_at hl 3 rfl) ?_
  refine lv_iconst (v := 1) hx hb dX4_plan_7 (by decide) ?_
  refine lv_icmp_lt (tgt := 16) hx hb dX4_plan_8 (by decide) (fun z => False.elim (nI_nlt (a := q + 1) (b := 1) (by omega) (by omega) z)) (fun _ => ?_)
  refine lv_iload_n hx hb dX4_plan_11 rfl (lv_at hl 3 rfl) ?_
  refine lv_iconst (v := 4) hx hb dX4_plan_12 (by decide) ?_
  refine lv_icmp_le (tgt := 26) hx hb dX4_plan_13 (by decide) (fun _ => ?_) (fun z => False.elim (z (nI_le (b := 4) (by omega) (by omega))))
  refine lv_aload_n hx hb dX4_plan_26 rfl (lv_at hl 1 rfl) ?_
  refine lv_aload_n hx hb dX4_plan_27 rfl (lv_at hl 0 rfl) ?_
  refine r_V0 X S (c_X4_balanceOf l D cA ad _ F i hi) ob_0 rfl (cwV 1 hts gX4_plan_X4_balanceOf rfl rfl rfl (by decide +kernel) ⟨Nat.le_of_ble_eq_true rfl, Nat.le_of_ble_eq_true rfl⟩) rfl hl.1 rfl (Nat.le_of_ble_eq_true rfl) dX4_plan_28 ⟨Nat.zero_le _, Nat.zero_le _⟩ (fun H locs S => ?_)
  obtain ⟨F_1, eF_1⟩ : ∃ z, z = balF F i := ⟨_, rfl⟩
  rw [← eF_1] at S
  refine lv_istore (lv' := [(4, .int (balV F i)), (3, .ref (ad (4 + 8 * i))), (0, .ref (ad 0)), (1, .int (nI i)), (2, .int (nI (q + 1)))]) hx hb dX4_plan_31 hl (by decide) rfl (fun ls hl => ?_)
  refine lv_iload hx hb dX4_plan_33 (lv_at hl 0 rfl) ?_
  refine lv_if_gt (tgt := 48) hx hb dX4_plan_35 (by decide) (fun _ => ?_) (fun z => False.elim (h (Int32.not_lt.mp z)))
  refine lv_iload hx hb dX4_plan_48 (lv_at hl 0 rfl) ?_
  refine lv_iload_n hx hb dX4_plan_50 rfl (lv_at hl 4 rfl) ?_
  refine lv_idiv hx hb dX4_plan_51 (nI_ne0 (by omega) (by omega)) ?_
  refine lv_istore (lv' := [(5, .int ((balV F i) / (nI (q + 1)))), (4, .int (balV F i)), (3, .ref (ad (4 + 8 * i))), (0, .ref (ad 0)), (1, .int (nI i)), (2, .int (nI (q + 1)))]) hx hb dX4_plan_52 hl (by decide) rfl (fun ls hl => ?_)
  refine lv_iload hx hb dX4_plan_54 (lv_at hl 1 rfl) ?_
  refine lv_iload hx hb dX4_plan_56 (lv_at hl 0 rfl) ?_
  refine lv_iload_n hx hb dX4_plan_58 rfl (lv_at hl 5 rfl) ?_
  refine lv_iconst (v := 1) hx hb dX4_plan_59 (by decide) ?_
  refine lv_isub hx hb dX4_plan_60 ?_
  refine lv_imul hx hb dX4_plan_61 ?_
  refine lv_isub hx hb dX4_plan_62 ?_
  refine lv_istore (lv' := [(6, .int ((balV F i) - (((balV F i) / (nI (q + 1))) * ((nI (q + 1)) - 1)))), (5, .int ((balV F i) / (nI (q + 1)))), (4, .int (balV F i)), (3, .ref (ad (4 + 8 * i))), (0, .ref (ad 0)), (1, .int (nI i)), (2, .int (nI (q + 1)))]) hx hb dX4_plan_63 hl (by decide) rfl (fun ls hl => ?_)
  refine lv_aload_n hx hb dX4_plan_65 rfl (lv_at hl 3 rfl) ?_
  refine r_getr (q := 4 + 8 * i + 7) X S hw3 (ob_S i hi) 2 ⟨rfl, by decide, rfl⟩ rfl (hts (.fieldLink RX4 156 "TermBill$Student" "instalments" "LTermBill$Instalments;") (by decide +kernel)) dX4_plan_66 ?_
  refine lv_aload_n hx hb dX4_plan_69 rfl (lv_at hl 4 rfl) ?_
  refine r_V0 X S (c_X4_weekNumber l D cA ad _ F_1) ob_0 rfl (cwV 0 hts gX4_plan_X4_weekNumber rfl rfl rfl (by decide +kernel) ⟨Nat.le_of_ble_eq_true rfl, Nat.le_of_ble_eq_true rfl⟩) rfl hl.1 rfl (Nat.le_of_ble_eq_true rfl) dX4_plan_70 ⟨Nat.zero_le _, Nat.zero_le _⟩ (fun H locs S => ?_)
  refine lv_iload_n hx hb dX4_plan_73 rfl (lv_at hl 6 rfl) ?_
  refine lv_iload hx hb dX4_plan_74 (lv_at hl 0 rfl) ?_
  refine lv_iload hx hb dX4_plan_76 (lv_at hl 1 rfl) ?_
  refine r_V0 X S (c_X2_start l D cA ad _ F_1 i hi (F_1 0 8 * 16 + F_1 0 7) (nI (q + 1)) ((balV F i) - (((balV F i) / (nI (q + 1))) * ((nI (q + 1)) - 1))) ((balV F i) / (nI (q + 1)))) (ob_I i hi) rfl (cwV 4 hts gX4_plan_X2_start rfl rfl rfl (by decide +kernel) ⟨Nat.le_of_ble_eq_true rfl, Nat.le_of_ble_eq_true rfl⟩) rfl hl.1 rfl (Nat.le_of_ble_eq_true rfl) dX4_plan_78 ⟨Nat.zero_le _, Nat.zero_le _⟩ (fun H locs S => ?_)
  obtain ⟨F_2, eF_2⟩ : ∃ z, z = u2 (u2 (u2 (u2 (u2 F_1 (4 + 8 * i + 7) 0 (F_1 0 8 * 16 + F_1 0 7)) (4 + 8 * i + 7) 1 (nI (q + 1))) (4 + 8 * i + 7) 2 ((balV F i) - (((balV F i) / (nI (q + 1))) * ((nI (q + 1)) - 1)))) (4 + 8 * i + 7) 3 ((balV F i) / (nI (q + 1)))) (4 + 8 * i + 7) 4 0 := ⟨_, rfl⟩
  rw [← eF_2] at S
  refine lv_iload hx hb dX4_plan_81 (lv_at hl 0 rfl) ?_
  exact r_iret X S hr dX4_plan_83 (Nat.le_of_ble_eq_true rfl) (Nat.le_of_ble_eq_true rfl) (by unfold plS; rfl) (by unfold plF plS plE; simp only [eF_2, eF_1])

set_option maxHeartbeats 1000000 in
set_option maxRecDepth 100000 in
theorem x1_X4_plan (l : Launch) (hst : l.stackTraces = false) (D : va_G) (cA : Nat → ClassId) (ad : Nat → Nat) (sz : Nat) (F : FF) (x y : Int32) (h : wi x 0 3 = false) : CX l D cA ad sz yX4_plan wsX4_plan 7 112 [.ref (ad 0), .int x, .int y] F "java/lang/IndexOutOfBoundsException" F := by
  refine CX_of (own := RX4) (cc := cX4_plan) (maxL := 7) (ret := (some .int)) (by decide +kernel) rfl rfl (Nat.le_of_ble_eq_true rfl) ?_
  intro p e s m below meth c ls X S hno hl
  obtain ⟨⟨hx, hb, hml, hown, hts⟩, hE, hI, hlocks⟩ := id X
  have hl : lv_has ls 7 [(0, .ref (ad 0)), (1, .int x), (2, .int y)] := hl
  refine lv_aload_n hx hb dX4_plan_0 rfl (lv_at hl 0 rfl) ?_
  refine lv_iload_n hx hb dX4_plan_1 rfl (lv_at hl 1 rfl) ?_
  refine r_VX X S (x_X4_studentAt l hst D cA ad _ F x h) ob_0 rfl (cwV 1 hts gX4_plan_X4_studentAt rfl rfl rfl (by decide +kernel) ⟨Nat.le_of_ble_eq_true rfl, Nat.le_of_ble_eq_true rfl⟩) rfl hl.1 rfl (Nat.le_of_ble_eq_true rfl) dX4_plan_2 ⟨Nat.le_of_ble_eq_true rfl, Nat.le_of_ble_eq_true rfl⟩ (fun ce q9 H locs S h1 h2 h3 => ?_)
  exact r_out X S hno h1 h2 h3 (Nat.le_refl _) (Nat.le_refl _) rfl

set_option maxHeartbeats 1000000 in
set_option maxRecDepth 100000 in
theorem x2_X4_plan (l : Launch) (hst : l.stackTraces = false) (D : va_G) (cA : Nat → ClassId) (ad : Nat → Nat) (sz : Nat) (F : FF) (i : Nat) (hi : i < 4) (y : Int32) (h : wi y 1 4 = false) : CX l D cA ad sz yX4_plan wsX4_plan 6 90 [.ref (ad 0), .int (nI i), .int y] F "java/lang/IllegalArgumentException" F := by
  refine CX_of (own := RX4) (cc := cX4_plan) (maxL := 7) (ret := (some .int)) (by decide +kernel) rfl rfl (Nat.le_of_ble_eq_true rfl) ?_
  intro p e s m below meth c ls X S hno hl
  obtain ⟨⟨hx, hb, hml, hown, hts⟩, hE, hI, hlocks⟩ := id X
  have hl : lv_has ls 7 [(0, .ref (ad 0)), (1, .int (nI i)), (2, .int y)] := hl
  refine lv_aload_n hx hb dX4_plan_0 rfl (lv_at hl 0 rfl) ?_
  refine lv_iload_n hx hb dX4_plan_1 rfl (lv_at hl 1 rfl) ?_
  refine r_V0 X S (c_X4_studentAt l D cA ad _ F i hi) ob_0 rfl (cwV 1 hts gX4_plan_X4_studentAt rfl rfl rfl (by decide +kernel) ⟨Nat.le_of_ble_eq_true rfl, Nat.le_of_ble_eq_true rfl⟩) rfl hl.1 rfl (Nat.le_of_ble_eq_true rfl) dX4_plan_2 ⟨Nat.zero_le _, Nat.zero_le _⟩ (fun H locs S => ?_)
  refine lv_astore_n (lv' := [(3, .ref (ad (4 + 8 * i))), (0, .ref (ad 0)), (1, .int (nI i)), (2, .int y)]) hx hb dX4_plan_5 rfl hl (by decide) rfl (fun ls hl => ?_)
  refine lv_iload_n hx hb dX4_plan_6 rfl (lv_at hl 3 rfl) ?_
  refine lv_iconst (v := 1) hx hb dX4_plan_7 (by decide) ?_
  refine lv_icmp_lt (tgt := 16) hx hb dX4_plan_8 (by decide) (fun c_1 => ?_) (fun c_1 => ?_)
  · exact r_throw X S hst hno (is := 169) (text := "many is out of range") hl.1 (by decide +kernel) (hts (.classLink RX4 57 "java/lang/IllegalArgumentException") (by decide +kernel)) (hts (.initialized "java/lang/IllegalArgumentException") (by decide +kernel)) (by decide +kernel) (hat61 hE.2.2.2.2 hts (fun w h => List.mem_cons_of_mem _ (by first | exact List.mem_append_right _ h | exact List.mem_append_left _ (List.mem_append_right _ h) | exact List.mem_append_left _ (List.mem_append_left _ (List.mem_append_right _ h))))) hgd61 dX4_plan_16 dX4_plan_19 dX4_plan_20 dX4_plan_22 dX4_plan_25 ⟨Nat.le_of_ble_eq_true rfl, Nat.le_of_ble_eq_true rfl, Nat.le_of_ble_eq_true rfl, Nat.le_of_ble_eq_true rfl⟩ (Nat.le_refl _) (Nat.le_refl _) rfl
  · refine lv_iload_n hx hb dX4_plan_11 rfl (lv_at hl 3 rfl) ?_
    refine lv_iconst (v := 4) hx hb dX4_plan_12 (by decide) ?_
    refine lv_icmp_le (tgt := 26) hx hb dX4_plan_13 (by decide) (fun z => False.elim (absurd (wi_t c_1 (Int32.not_lt.mpr z)) (by rw [h]; decide))) (fun _ => ?_)
    exact r_throw X S hst hno (is := 169) (text := "many is out of range") hl.1 (by decide +kernel) (hts (.classLink RX4 57 "java/lang/IllegalArgumentException") (by decide +kernel)) (hts (.initialized "java/lang/IllegalArgumentException") (by decide +kernel)) (by decide +kernel) (hat61 hE.2.2.2.2 hts (fun w h => List.mem_cons_of_mem _ (by first | exact List.mem_append_right _ h | exact List.mem_append_left _ (List.mem_append_right _ h) | exact List.mem_append_left _ (List.mem_append_left _ (List.mem_append_right _ h))))) hgd61 dX4_plan_16 dX4_plan_19 dX4_plan_20 dX4_plan_22 dX4_plan_25 ⟨Nat.le_of_ble_eq_true rfl, Nat.le_of_ble_eq_true rfl, Nat.le_of_ble_eq_true rfl, Nat.le_of_ble_eq_true rfl⟩ (Nat.le_refl _) (Nat.le_refl _) rfl

set_option maxHeartbeats 1000000 in
set_option maxRecDepth 100000 in
theorem x3_X4_plan (l : Launch) (hst : l.stackTraces = false) (D : va_G) (cA : Nat → ClassId) (ad : Nat → Nat) (sz : Nat) (F : FF) (i : Nat) (hi : i < 4) (q : Nat) (hq : q < 4) (h : balV F i ≤ 0) : CX l D cA ad sz yX4_plan wsX4_plan 6 110 [.ref (ad 0), .int (nI i), .int (nI (q + 1))] F "java/lang/IllegalStateException" (balF F i) := by
  refine CX_of (own := RX4) (cc := cX4_plan) (maxL := 7) (ret := (some .int)) (by decide +kernel) rfl rfl (Nat.le_of_ble_eq_true rfl) ?_
  intro p e s m below meth c ls X S hno hl
  obtain ⟨⟨hx, hb, hml, hown, hts⟩, hE, hI, hlocks⟩ := id X
  have hl : lv_has ls 7 [(0, .ref (ad 0)), (1, .int (nI i)), (2, .int (nI (q + 1)))] := hl
  refine lv_aload_n hx hb dX4_plan_0 rfl (lv_at hl 0 rfl) ?_
  refine lv_iload_n hx hb dX4_plan_1 rfl (lv_at hl 1 rfl) ?_
  refine r_V0 X S (c_X4_studentAt l D cA ad _ F i hi) ob_0 rfl (cwV 1 hts gX4_plan_X4_studentAt rfl rfl rfl (by decide +kernel) ⟨Nat.le_of_ble_eq_true rfl, Nat.le_of_ble_eq_true rfl⟩) rfl hl.1 rfl (Nat.le_of_ble_eq_true rfl) dX4_plan_2 ⟨Nat.zero_le _, Nat.zero_le _⟩ (fun H locs S => ?_)
  refine lv_astore_n (lv' := [(3, .ref (ad (4 + 8 * i))), (0, .ref (ad 0)), (1, .int (nI i)), (2, .int (nI (q + 1)))]) hx hb dX4_plan_5 rfl hl (by decide) rfl (fun ls hl => ?_)
  refine lv_iload_n hx hb dX4_plan_6 rfl (lv_at hl 3 rfl) ?_
  refine lv_iconst (v := 1) hx hb dX4_plan_7 (by decide) ?_
  refine lv_icmp_lt (tgt := 16) hx hb dX4_plan_8 (by decide) (fun z => False.elim (nI_nlt (a := q + 1) (b := 1) (by omega) (by omega) z)) (fun _ => ?_)
  refine lv_iload_n hx hb dX4_plan_11 rfl (lv_at hl 3 rfl) ?_
  refine lv_iconst (v := 4) hx hb dX4_plan_12 (by decide) ?_
  refine lv_icmp_le (tgt := 26) hx hb dX4_plan_13 (by decide) (fun _ => ?_) (fun z => False.elim (z (nI_le (b := 4) (by omega) (by omega))))
  refine lv_aload_n hx hb dX4_plan_26 rfl (lv_at hl 1 rfl) ?_
  refine lv_aload_n hx hb dX4_plan_27 rfl (lv_at hl 0 rfl) ?_
  refine r_V0 X S (c_X4_balanceOf l D cA ad _ F i hi) ob_0 rfl (cwV 1 hts gX4_plan_X4_balanceOf rfl rfl rfl (by decide +kernel) ⟨Nat.le_of_ble_eq_true rfl, Nat.le_of_ble_eq_true rfl⟩) rfl hl.1 rfl (Nat.le_of_ble_eq_true rfl) dX4_plan_28 ⟨Nat.zero_le _, Nat.zero_le _⟩ (fun H locs S => ?_)
  obtain ⟨F_1, eF_1⟩ : ∃ z, z = balF F i := ⟨_, rfl⟩
  rw [← eF_1] at S
  refine lv_istore (lv' := [(4, .int (balV F i)), (3, .ref (ad (4 + 8 * i))), (0, .ref (ad 0)), (1, .int (nI i)), (2, .int (nI (q + 1)))]) hx hb dX4_plan_31 hl (by decide) rfl (fun ls hl => ?_)
  refine lv_iload hx hb dX4_plan_33 (lv_at hl 0 rfl) ?_
  refine lv_if_gt (tgt := 48) hx hb dX4_plan_35 (by decide) (fun z => False.elim (Int32.not_lt.mpr h z)) (fun _ => ?_)
  exact r_throw X S hst hno (is := 171) (text := "it owes nothing") hl.1 (by decide +kernel) (hts (.classLink RX4 107 "java/lang/IllegalStateException") (by decide +kernel)) (hts (.initialized "java/lang/IllegalStateException") (by decide +kernel)) (by decide +kernel) (hat111 hE.2.2.2.2 hts (fun w h => List.mem_cons_of_mem _ (by first | exact List.mem_append_right _ h | exact List.mem_append_left _ (List.mem_append_right _ h) | exact List.mem_append_left _ (List.mem_append_left _ (List.mem_append_right _ h))))) hgd111 dX4_plan_38 dX4_plan_41 dX4_plan_42 dX4_plan_44 dX4_plan_47 ⟨Nat.le_of_ble_eq_true rfl, Nat.le_of_ble_eq_true rfl, Nat.le_of_ble_eq_true rfl, Nat.le_of_ble_eq_true rfl⟩ (Nat.le_refl _) (Nat.le_refl _) eF_1

set_option maxHeartbeats 1000000 in
set_option maxRecDepth 100000 in
theorem c_X4_leave (l : Launch) (D : va_G) (cA : Nat → ClassId) (ad : Nat → Nat) (sz : Nat) (F : FF) (i : Nat) (hi : i < 4) (w : Nat) (hw : w < 16) (ew : F 0 7 = nI w) : CI l D cA ad sz yX4_leave wsX4_leave 2 48 0 0 [.ref (ad 0), .int (nI i)] F (some (.int (leB F i w))) (leF F i w) := by
  refine CI_of (own := RX4) (cc := cX4_leave) (maxL := 4) (ret := (some .int)) (by decide +kernel) rfl rfl (Nat.le_of_ble_eq_true rfl) ?_
  intro p e s m below meth c ls X S hr hl
  obtain ⟨⟨hx, hb, hml, hown, hts⟩, hE, hI, hlocks⟩ := id X
  have hl : lv_has ls 4 [(0, .ref (ad 0)), (1, .int (nI i))] := hl
  have hw3 : ∀ w ∈ wsX30, w.before _ s = true := fun w h => hts w ((by decide +kernel : ∀ w ∈ wsX30, w ∈ wsX4_leave) w h)
  have loop : ∀ (q j : Nat), j + q = 8 → ∀ (kk : ∀ (H : Heap) (locs : List Loc) (ls : Array Slot), St D cA ad (lvF F i w 8) s.heap H locs → lv_has ls 4 [(0, .ref (ad 0)), (1, .int (nI i)), (2, .ref (ad (4 + 8 * i))), (3, .int (nI 8))] → W p l e (RM 2 48 0 0) s m [.ref (ad 0), .int (nI i)].toArray below meth c H locs 0 0 (MQ below (CQ D cA ad s.heap.size (leF F i w) (some (.int (leB F i w)))) [.ref (ad 0), .int (nI i)].toArray s 0 0 (AA ad s.heap.size)) (F0 m 38 ls [])), ∀ G : FF, G = lvF F i w j → ∀ (H : Heap) (locs : List Loc) (ls : Array Slot), St D cA ad G s.heap H locs → lv_has ls 4 [(0, .ref (ad 0)), (1, .int (nI i)), (2, .ref (ad (4 + 8 * i))), (3, .int (nI j))] → W p l e (RM 2 48 0 0) s m [.ref (ad 0), .int (nI i)].toArray below meth c H locs 0 0 (MQ below (CQ D cA ad s.heap.size (leF F i w) (some (.int (leB F i w)))) [.ref (ad 0), .int (nI i)].toArray s 0 0 (AA ad s.heap.size)) (F0 m 8 ls []) := by
    intro q
    induction q with
    | zero =>
      intro j hj kk G eG H locs ls S hl
      obtain rfl : j = 8 := by omega
      rw [eG] at S
      refine lv_iload_n hx hb dX4_leave_8 rfl (lv_at hl 3 rfl) ?_
      refine lv_bipush (v := 8) hx hb dX4_leave_9 (by decide) ?_
      refine lv_icmp_ge (tgt := 38) hx hb dX4_leave_11 (by decide) (fun _ => ?_) (fun z => False.elim (absurd (by decide) z))
      exact kk H locs ls S (lv_sub hl [0, 1, 2, 3] rfl)
    | succ q ih =>
      intro j hj kk G eG H locs ls S hl
      refine lv_iload_n hx hb dX4_leave_8 rfl (lv_at hl 3 rfl) ?_
      refine lv_bipush (v := 8) hx hb dX4_leave_9 (by decide) ?_
      refine lv_icmp_ge (tgt := 38) hx hb dX4_leave_11 (by decide) (fun z => False.elim (nI_ge (a := j) (b := 8) (by omega) (by omega) z)) (fun _ => ?_)
      refine lv_aload_n hx hb dX4_leave_14 rfl (lv_at hl 2 rfl) ?_
      refine r_getr (q := 4 + 8 * i + 1) X S hw3 (ob_S i hi) 0 ⟨rfl, by decide, rfl⟩ rfl (hts (.fieldLink RX4 97 "TermBill$Student" "courses" "LTermBill$Courses;") (by decide +kernel)) dX4_leave_15 ?_
      refine lv_iload_n hx hb dX4_leave_18 rfl (lv_at hl 3 rfl) ?_
      refine r_V0 X S (c_X1_creditsOf l D cA ad _ G i hi j (by omega)) (ob_C i hi) rfl (cwV 1 hts gX4_leave_X1_creditsOf rfl rfl rfl (by decide +kernel) ⟨Nat.le_of_ble_eq_true rfl, Nat.le_of_ble_eq_true rfl⟩) rfl hl.1 rfl (Nat.le_of_ble_eq_true rfl) dX4_leave_19 ⟨Nat.zero_le _, Nat.zero_le _⟩ (fun H locs S => ?_)
      refine lv_if_le (tgt := 32) hx hb dX4_leave_22 (by decide) (fun c_1 => ?_) (fun c_1 => ?_)
      · refine lv_iinc (v := nI (j + 1)) (lv' := [(3, .int (nI (j + 1))), (0, .ref (ad 0)), (1, .int (nI i)), (2, .ref (ad (4 + 8 * i)))]) hx hb dX4_leave_32 hl (k := 3) rfl (nI_add _ _) (by decide) rfl (fun ls hl => ?_)
        refine lv_goto (tgt := 8) hx hb dX4_leave_35 (by decide) ?_
        exact ih (j + 1) (by omega) kk G (by rw [show lvF F i w (j + 1) = lvS i w j (lvF F i w j) from rfl, ← eG]; unfold lvS; rw [if_pos c_1]) H locs ls S (lv_sub hl [1, 2, 3, 0] rfl)
      · refine lv_aload_n hx hb dX4_leave_25 rfl (lv_at hl 0 rfl) ?_
        refine lv_aload_n hx hb dX4_leave_26 rfl (lv_at hl 2 rfl) ?_
        refine lv_iload_n hx hb dX4_leave_27 rfl (lv_at hl 3 rfl) ?_
        refine r_V0 X S (c_X4_dropCourse l D cA ad _ G i hi j (by omega) w hw (by rw [eG, lvF_0]; exact ew)) ob_0 rfl (cwV 2 hts gX4_leave_X4_dropCourse rfl rfl rfl (by decide +kernel) ⟨Nat.le_of_ble_eq_true rfl, Nat.le_of_ble_eq_true rfl⟩) rfl hl.1 rfl (Nat.le_of_ble_eq_true rfl) dX4_leave_28 ⟨Nat.zero_le _, Nat.zero_le _⟩ (fun H locs S => ?_)
        obtain ⟨F_2, eF_2⟩ : ∃ z, z = drF G i j w := ⟨_, rfl⟩
        rw [← eF_2] at S
        refine lv_pop hx hb dX4_leave_31 rfl ?_
        refine lv_iinc (v := nI (j + 1)) (lv' := [(3, .int (nI (j + 1))), (0, .ref (ad 0)), (1, .int (nI i)), (2, .ref (ad (4 + 8 * i)))]) hx hb dX4_leave_32 hl (k := 3) rfl (nI_add _ _) (by decide) rfl (fun ls hl => ?_)
        refine lv_goto (tgt := 8) hx hb dX4_leave_35 (by decide) ?_
        exact ih (j + 1) (by omega) kk F_2 (by rw [show lvF F i w (j + 1) = lvS i w j (lvF F i w j) from rfl, ← eG, eF_2]; unfold lvS; rw [if_neg c_1]) H locs ls S (lv_sub hl [1, 2, 3, 0] rfl)
  refine lv_aload_n hx hb dX4_leave_0 rfl (lv_at hl 0 rfl) ?_
  refine lv_iload_n hx hb dX4_leave_1 rfl (lv_at hl 1 rfl) ?_
  refine r_V0 X S (c_X4_studentAt l D cA ad _ F i hi) ob_0 rfl (cwV 1 hts gX4_leave_X4_studentAt rfl rfl rfl (by decide +kernel) ⟨Nat.le_of_ble_eq_true rfl, Nat.le_of_ble_eq_true rfl⟩) rfl hl.1 rfl (Nat.le_of_ble_eq_true rfl) dX4_leave_2 ⟨Nat.zero_le _, Nat.zero_le _⟩ (fun H locs S => ?_)
  refine lv_astore_n (lv' := [(2, .ref (ad (4 + 8 * i))), (0, .ref (ad 0)), (1, .int (nI i))]) hx hb dX4_leave_5 rfl hl (by decide) rfl (fun ls hl => ?_)
  refine lv_iconst (v := 0) hx hb dX4_leave_6 (by decide) ?_
  refine lv_istore_n (lv' := [(3, .int 0), (2, .ref (ad (4 + 8 * i))), (0, .ref (ad 0)), (1, .int (nI i))]) hx hb dX4_leave_7 rfl hl (by decide) rfl (fun ls hl => ?_)
  refine loop 8 0 (by omega) (fun H locs ls S hl => ?_) F rfl _ _ ls S (by rw [nI_0]; exact (lv_sub hl [2, 3, 1, 0] rfl))
  obtain ⟨G9, eG9⟩ : ∃ z, z = lvF F i w 8 := ⟨_, rfl⟩
  rw [← eG9] at S
  refine lv_aload_n hx hb dX4_leave_38 rfl (lv_at hl 0 rfl) ?_
  refine lv_aload_n hx hb dX4_leave_39 rfl (lv_at hl 2 rfl) ?_
  refine r_getr (q := 4 + 8 * i + 3) X S hw3 (ob_S i hi) 1 ⟨rfl, by decide, rfl⟩ rfl (hts (.fieldLink RX4 140 "TermBill$Student" "aid" "LTermBill$Aid;") (by decide +kernel)) dX4_leave_40 ?_
  refine r_V0 X S (c_X0_total l D cA ad _ G9 i hi) (ob_A i hi) rfl (cwV 0 hts gX4_leave_X0_total rfl rfl rfl (by decide +kernel) ⟨Nat.le_of_ble_eq_true rfl, Nat.le_of_ble_eq_true rfl⟩) rfl hl.1 rfl (Nat.le_of_ble_eq_true rfl) dX4_leave_43 ⟨Nat.zero_le _, Nat.zero_le _⟩ (fun H locs S => ?_)
  refine r_V0 X S (c_X4_aidToGiveBack l D cA ad _ G9 (tot6 (G9 (4 + 8 * i + 5)))) ob_0 rfl (cwV 1 hts gX4_leave_X4_aidToGiveBack rfl rfl rfl (by decide +kernel) ⟨Nat.le_of_ble_eq_true rfl, Nat.le_of_ble_eq_true rfl⟩) rfl hl.1 rfl (Nat.le_of_ble_eq_true rfl) dX4_leave_46 ⟨Nat.zero_le _, Nat.zero_le _⟩ (fun H locs S => ?_)
  refine lv_istore_n (lv' := [(3, .int (bakI (G9 0 7) (tot6 (G9 (4 + 8 * i + 5))))), (0, .ref (ad 0)), (1, .int (nI i)), (2, .ref (ad (4 + 8 * i)))]) hx hb dX4_leave_49 rfl hl (by decide) rfl (fun ls hl => ?_)
  refine lv_aload_n hx hb dX4_leave_50 rfl (lv_at hl 3 rfl) ?_
  refine r_getr (q := 4 + 8 * i + 3) X S hw3 (ob_S i hi) 1 ⟨rfl, by decide, rfl⟩ rfl (hts (.fieldLink RX4 140 "TermBill$Student" "aid" "LTermBill$Aid;") (by decide +kernel)) dX4_leave_51 ?_
  refine lv_iload_n hx hb dX4_leave_54 rfl (lv_at hl 0 rfl) ?_
  refine r_V0 X S (c_X0_takeOff l D cA ad _ G9 i hi (bakI (G9 0 7) (tot6 (G9 (4 + 8 * i + 5))))) (ob_A i hi) rfl (cwV 1 hts gX4_leave_X0_takeOff rfl rfl rfl (by decide +kernel) ⟨Nat.le_of_ble_eq_true rfl, Nat.le_of_ble_eq_true rfl⟩) rfl hl.1 rfl (Nat.le_of_ble_eq_true rfl) dX4_leave_55 ⟨Nat.zero_le _, Nat.zero_le _⟩ (fun H locs S => ?_)
  obtain ⟨F_3, eF_3⟩ : ∃ z, z = (toA i (G9, bakI (G9 0 7) (tot6 (G9 (4 + 8 * i + 5))))).1 := ⟨_, rfl⟩
  rw [← eF_3] at S
  refine lv_iload_n hx hb dX4_leave_58 rfl (lv_at hl 0 rfl) ?_
  exact r_iret X S hr dX4_leave_59 (Nat.le_of_ble_eq_true rfl) (Nat.le_of_ble_eq_true rfl) (by unfold leB; simp only [eG9]) (by unfold leF leB; simp only [eG9, eF_3])

set_option maxHeartbeats 1000000 in
set_option maxRecDepth 100000 in
theorem x1_X4_leave (l : Launch) (hst : l.stackTraces = false) (D : va_G) (cA : Nat → ClassId) (ad : Nat → Nat) (sz : Nat) (F : FF) (x : Int32) (h : wi x 0 3 = false) : CX l D cA ad sz yX4_leave wsX4_leave 7 112 [.ref (ad 0), .int x] F "java/lang/IndexOutOfBoundsException" F := by
  refine CX_of (own := RX4) (cc := cX4_leave) (maxL := 4) (ret := (some .int)) (by decide +kernel) rfl rfl (Nat.le_of_ble_eq_true rfl) ?_
  intro p e s m below meth c ls X S hno hl
  obtain ⟨⟨hx, hb, hml, hown, hts⟩, hE, hI, hlocks⟩ := id X
  have hl : lv_has ls 4 [(0, .ref (ad 0)), (1, .int x)] := hl
  refine lv_aload_n hx hb dX4_leave_0 rfl (lv_at hl 0 rfl) ?_
  refine lv_iload_n hx hb dX4_leave_1 rfl (lv_at hl 1 rfl) ?_
  refine r_VX X S (x_X4_studentAt l hst D cA ad _ F x h) ob_0 rfl (cwV 1 hts gX4_leave_X4_studentAt rfl rfl rfl (by decide +kernel) ⟨Nat.le_of_ble_eq_true rfl, Nat.le_of_ble_eq_true rfl⟩) rfl hl.1 rfl (Nat.le_of_ble_eq_true rfl) dX4_leave_2 ⟨Nat.le_of_ble_eq_true rfl, Nat.le_of_ble_eq_true rfl⟩ (fun ce q9 H locs S h1 h2 h3 => ?_)
  exact r_out X S hno h1 h2 h3 (Nat.le_refl _) (Nat.le_refl _) rfl

set_option maxHeartbeats 1000000 in
set_option maxRecDepth 100000 in
theorem c_X4_closeWeek1 (l : Launch) (D : va_G) (cA : Nat → ClassId) (ad : Nat → Nat) (sz : Nat) (F : FF) (h : F 0 7 < 15) : CI l D cA ad sz yX4_closeWeek wsX4_closeWeek 2 45 0 0 [.ref (ad 0)] F (some (.int (clA (cw1 F) 4 0 7))) (clA (cw1 F) 4) := by
  refine CI_of (own := RX4) (cc := cX4_closeWeek) (maxL := 1) (ret := (some .int)) (by decide +kernel) rfl rfl (Nat.le_of_ble_eq_true rfl) ?_
  intro p e s m below meth c ls X S hr hl
  obtain ⟨⟨hx, hb, hml, hown, hts⟩, hE, hI, hlocks⟩ := id X
  have hl : lv_has ls 1 [(0, .ref (ad 0))] := hl
  have hw4 : ∀ w ∈ wsX40, w.before _ s = true := fun w h => hts w ((by decide +kernel : ∀ w ∈ wsX40, w ∈ wsX4_closeWeek) w h)
  refine lv_aload_n hx hb dX4_closeWeek_0 rfl (lv_at hl 0 rfl) ?_
  refine r_geti X S hw4 ob_0 7 ⟨rfl, by decide, rfl⟩ rfl (hts (.fieldLink RX4 35 "TermBill" "week" "I") (by decide +kernel)) dX4_closeWeek_1 ?_
  refine lv_bipush (v := 15) hx hb dX4_closeWeek_4 (by decide) ?_
  refine lv_icmp_lt (tgt := 28) hx hb dX4_closeWeek_6 (by decide) (fun _ => ?_) (fun z => False.elim (z h))
  refine lv_aload_n hx hb dX4_closeWeek_28 rfl (lv_at hl 0 rfl) ?_
  refine r_geti X S hw4 ob_0 7 ⟨rfl, by decide, rfl⟩ rfl (hts (.fieldLink RX4 35 "TermBill" "week" "I") (by decide +kernel)) dX4_closeWeek_29 ?_
  refine lv_bipush (v := 15) hx hb dX4_closeWeek_32 (by decide) ?_
  refine lv_icmp_lt (tgt := 59) hx hb dX4_closeWeek_34 (by decide) (fun _ => ?_) (fun z => False.elim (z h))
  refine lv_aload_n hx hb dX4_closeWeek_59 rfl (lv_at hl 0 rfl) ?_
  refine lv_dup hx hb dX4_closeWeek_60 rfl ?_
  refine r_geti X S hw4 ob_0 7 ⟨rfl, by decide, rfl⟩ rfl (hts (.fieldLink RX4 35 "TermBill" "week" "I") (by decide +kernel)) dX4_closeWeek_61 ?_
  refine lv_iconst (v := 1) hx hb dX4_closeWeek_64 (by decide) ?_
  refine lv_iadd hx hb dX4_closeWeek_65 ?_
  refine r_puti X S hw4 ob_0 7 ⟨rfl, by decide, rfl⟩ rfl (hts (.fieldLink RX4 35 "TermBill" "week" "I") (by decide +kernel)) tyX4 tyX4_ok nmX4 rfl rfl dX4_closeWeek_66 (fun H locs S => ?_)
  obtain ⟨F_1, eF_1⟩ : ∃ z, z = u2 F 0 7 ((F 0 7) + 1) := ⟨_, rfl⟩
  rw [← eF_1] at S
  refine lv_aload_n hx hb dX4_closeWeek_69 rfl (lv_at hl 0 rfl) ?_
  refine r_V0 X S (c_X4_chargeLateFees l D cA ad _ F_1) ob_0 rfl (cwV 0 hts gX4_closeWeek_X4_chargeLateFees rfl rfl rfl (by decide +kernel) ⟨Nat.le_of_ble_eq_true rfl, Nat.le_of_ble_eq_true rfl⟩) rfl hl.1 rfl (Nat.le_of_ble_eq_true rfl) dX4_closeWeek_70 ⟨Nat.zero_le _, Nat.zero_le _⟩ (fun H locs S => ?_)
  obtain ⟨F_2, eF_2⟩ : ∃ z, z = clA F_1 4 := ⟨_, rfl⟩
  rw [← eF_2] at S
  refine lv_aload_n hx hb dX4_closeWeek_73 rfl (lv_at hl 0 rfl) ?_
  refine r_geti X S hw4 ob_0 7 ⟨rfl, by decide, rfl⟩ rfl (hts (.fieldLink RX4 35 "TermBill" "week" "I") (by decide +kernel)) dX4_closeWeek_74 ?_
  exact r_iret X S hr dX4_closeWeek_77 (Nat.le_of_ble_eq_true rfl) (Nat.le_of_ble_eq_true rfl) (by unfold cw1; simp only [eF_2, eF_1]) (by unfold cw1; simp only [eF_2, eF_1])

set_option maxHeartbeats 1000000 in
set_option maxRecDepth 100000 in
theorem c_X4_closeWeek2 (l : Launch) (D : va_G) (cA : Nat → ClassId) (ad : Nat → Nat) (sz : Nat) (F : FF) (h1 : ¬ F 0 7 < 15) (h2 : F 0 8 < 9) : CI l D cA ad sz yX4_closeWeek wsX4_closeWeek 6 136 0 0 [.ref (ad 0)] F (some (.int (clA (cw2 F) 4 0 7))) (clA (cw2 F) 4) := by
  refine CI_of (own := RX4) (cc := cX4_closeWeek) (maxL := 1) (ret := (some .int)) (by decide +kernel) rfl rfl (Nat.le_of_ble_eq_true rfl) ?_
  intro p e s m below meth c ls X S hr hl
  obtain ⟨⟨hx, hb, hml, hown, hts⟩, hE, hI, hlocks⟩ := id X
  have hl : lv_has ls 1 [(0, .ref (ad 0))] := hl
  have hw4 : ∀ w ∈ wsX40, w.before _ s = true := fun w h => hts w ((by decide +kernel : ∀ w ∈ wsX40, w ∈ wsX4_closeWeek) w h)
  refine lv_aload_n hx hb dX4_closeWeek_0 rfl (lv_at hl 0 rfl) ?_
  refine r_geti X S hw4 ob_0 7 ⟨rfl, by decide, rfl⟩ rfl (hts (.fieldLink RX4 35 "TermBill" "week" "I") (by decide +kernel)) dX4_closeWeek_1 ?_
  refine lv_bipush (v := 15) hx hb dX4_closeWeek_4 (by decide) ?_
  refine lv_icmp_lt (tgt := 28) hx hb dX4_closeWeek_6 (by decide) (fun z => False.elim (h1 z)) (fun _ => ?_)
  refine lv_aload_n hx hb dX4_closeWeek_9 rfl (lv_at hl 0 rfl) ?_
  refine r_geti X S hw4 ob_0 8 ⟨rfl, by decide, rfl⟩ rfl (hts (.fieldLink RX4 38 "TermBill" "term" "I") (by decide +kernel)) dX4_closeWeek_10 ?_
  refine lv_bipush (v := 9) hx hb dX4_closeWeek_13 (by decide) ?_
  refine lv_icmp_lt (tgt := 28) hx hb dX4_closeWeek_15 (by decide) (fun _ => ?_) (fun z => False.elim (z h2))
  refine lv_aload_n hx hb dX4_closeWeek_28 rfl (lv_at hl 0 rfl) ?_
  refine r_geti X S hw4 ob_0 7 ⟨rfl, by decide, rfl⟩ rfl (hts (.fieldLink RX4 35 "TermBill" "week" "I") (by decide +kernel)) dX4_closeWeek_29 ?_
  refine lv_bipush (v := 15) hx hb dX4_closeWeek_32 (by decide) ?_
  refine lv_icmp_lt (tgt := 59) hx hb dX4_closeWeek_34 (by decide) (fun z => False.elim (h1 z)) (fun _ => ?_)
  refine lv_aload_n hx hb dX4_closeWeek_37 rfl (lv_at hl 0 rfl) ?_
  refine r_V0 X S (c_X4_endTerm l D cA ad _ F) ob_0 rfl (cwV 0 hts gX4_closeWeek_X4_endTerm rfl rfl rfl (by decide +kernel) ⟨Nat.le_of_ble_eq_true rfl, Nat.le_of_ble_eq_true rfl⟩) rfl hl.1 rfl (Nat.le_of_ble_eq_true rfl) dX4_closeWeek_38 ⟨Nat.zero_le _, Nat.zero_le _⟩ (fun H locs S => ?_)
  obtain ⟨F_1, eF_1⟩ : ∃ z, z = enP (enP F 0 1) 2 3 := ⟨_, rfl⟩
  rw [← eF_1] at S
  refine lv_aload_n hx hb dX4_closeWeek_41 rfl (lv_at hl 0 rfl) ?_
  refine lv_iconst (v := 0) hx hb dX4_closeWeek_42 (by decide) ?_
  refine r_puti X S hw4 ob_0 7 ⟨rfl, by decide, rfl⟩ rfl (hts (.fieldLink RX4 35 "TermBill" "week" "I") (by decide +kernel)) tyX4 tyX4_ok nmX4 rfl rfl dX4_closeWeek_43 (fun H locs S => ?_)
  obtain ⟨F_2, eF_2⟩ : ∃ z, z = u2 F_1 0 7 0 := ⟨_, rfl⟩
  rw [← eF_2] at S
  refine lv_aload_n hx hb dX4_closeWeek_46 rfl (lv_at hl 0 rfl) ?_
  refine lv_dup hx hb dX4_closeWeek_47 rfl ?_
  refine r_geti X S hw4 ob_0 8 ⟨rfl, by decide, rfl⟩ rfl (hts (.fieldLink RX4 38 "TermBill" "term" "I") (by decide +kernel)) dX4_closeWeek_48 ?_
  refine lv_iconst (v := 1) hx hb dX4_closeWeek_51 (by decide) ?_
  refine lv_iadd hx hb dX4_closeWeek_52 ?_
  refine r_puti X S hw4 ob_0 8 ⟨rfl, by decide, rfl⟩ rfl (hts (.fieldLink RX4 38 "TermBill" "term" "I") (by decide +kernel)) tyX4 tyX4_ok nmX4 rfl rfl dX4_closeWeek_53 (fun H locs S => ?_)
  obtain ⟨F_3, eF_3⟩ : ∃ z, z = u2 F_2 0 8 ((F_2 0 8) + 1) := ⟨_, rfl⟩
  rw [← eF_3] at S
  refine lv_goto (tgt := 69) hx hb dX4_closeWeek_56 (by decide) ?_
  refine lv_aload_n hx hb dX4_closeWeek_69 rfl (lv_at hl 0 rfl) ?_
  refine r_V0 X S (c_X4_chargeLateFees l D cA ad _ F_3) ob_0 rfl (cwV 0 hts gX4_closeWeek_X4_chargeLateFees rfl rfl rfl (by decide +kernel) ⟨Nat.le_of_ble_eq_true rfl, Nat.le_of_ble_eq_true rfl⟩) rfl hl.1 rfl (Nat.le_of_ble_eq_true rfl) dX4_closeWeek_70 ⟨Nat.zero_le _, Nat.zero_le _⟩ (fun H locs S => ?_)
  obtain ⟨F_4, eF_4⟩ : ∃ z, z = clA F_3 4 := ⟨_, rfl⟩
  rw [← eF_4] at S
  refine lv_aload_n hx hb dX4_closeWeek_73 rfl (lv_at hl 0 rfl) ?_
  refine r_geti X S hw4 ob_0 7 ⟨rfl, by decide, rfl⟩ rfl (hts (.fieldLink RX4 35 "TermBill" "week" "I") (by decide +kernel)) dX4_closeWeek_74 ?_
  exact r_iret X S hr dX4_closeWeek_77 (Nat.le_of_ble_eq_true rfl) (Nat.le_of_ble_eq_true rfl) (by unfold cw2; simp only [eF_4, eF_3, eF_2, eF_1]) (by unfold cw2; simp only [eF_4, eF_3, eF_2, eF_1])

set_option maxHeartbeats 1000000 in
set_option maxRecDepth 100000 in
theorem x1_X4_closeWeek (l : Launch) (hst : l.stackTraces = false) (D : va_G) (cA : Nat → ClassId) (ad : Nat → Nat) (sz : Nat) (F : FF) (h1 : ¬ F 0 7 < 15) (h2 : ¬ F 0 8 < 9) : CX l D cA ad sz yX4_closeWeek wsX4_closeWeek 6 90 [.ref (ad 0)] F "java/lang/IllegalStateException" F := by
  refine CX_of (own := RX4) (cc := cX4_closeWeek) (maxL := 1) (ret := (some .int)) (by decide +kernel) rfl rfl (Nat.le_of_ble_eq_true rfl) ?_
  intro p e s m below meth c ls X S hno hl
  obtain ⟨⟨hx, hb, hml, hown, hts⟩, hE, hI, hlocks⟩ := id X
  have hl : lv_has ls 1 [(0, .ref (ad 0))] := hl
  have hw4 : ∀ w ∈ wsX40, w.before _ s = true := fun w h => hts w ((by decide +kernel : ∀ w ∈ wsX40, w ∈ wsX4_closeWeek) w h)
  refine lv_aload_n hx hb dX4_closeWeek_0 rfl (lv_at hl 0 rfl) ?_
  refine r_geti X S hw4 ob_0 7 ⟨rfl, by decide, rfl⟩ rfl (hts (.fieldLink RX4 35 "TermBill" "week" "I") (by decide +kernel)) dX4_closeWeek_1 ?_
  refine lv_bipush (v := 15) hx hb dX4_closeWeek_4 (by decide) ?_
  refine lv_icmp_lt (tgt := 28) hx hb dX4_closeWeek_6 (by decide) (fun z => False.elim (h1 z)) (fun _ => ?_)
  refine lv_aload_n hx hb dX4_closeWeek_9 rfl (lv_at hl 0 rfl) ?_
  refine r_geti X S hw4 ob_0 8 ⟨rfl, by decide, rfl⟩ rfl (hts (.fieldLink RX4 38 "TermBill" "term" "I") (by decide +kernel)) dX4_closeWeek_10 ?_
  refine lv_bipush (v := 9) hx hb dX4_closeWeek_13 (by decide) ?_
  refine lv_icmp_lt (tgt := 28) hx hb dX4_closeWeek_15 (by decide) (fun z => False.elim (h2 z)) (fun _ => ?_)
  exact r_throw X S hst hno (is := 191) (text := "the last term ends with this week") hl.1 (by decide +kernel) (hts (.classLink RX4 107 "java/lang/IllegalStateException") (by decide +kernel)) (hts (.initialized "java/lang/IllegalStateException") (by decide +kernel)) (by decide +kernel) (hat111 hE.2.2.2.2 hts (fun w h => List.mem_cons_of_mem _ (by first | exact List.mem_append_right _ h | exact List.mem_append_left _ (List.mem_append_right _ h) | exact List.mem_append_left _ (List.mem_append_left _ (List.mem_append_right _ h))))) hgd111 dX4_closeWeek_18 dX4_closeWeek_21 dX4_closeWeek_22 dX4_closeWeek_24 dX4_closeWeek_27 ⟨Nat.le_of_ble_eq_true rfl, Nat.le_of_ble_eq_true rfl, Nat.le_of_ble_eq_true rfl, Nat.le_of_ble_eq_true rfl⟩ (Nat.le_refl _) (Nat.le_refl _) rfl

set_option maxHeartbeats 1000000 in
set_option maxRecDepth 100000 in
theorem c_X4_week (l : Launch) (D : va_G) (cA : Nat → ClassId) (ad : Nat → Nat) (sz : Nat) (F : FF) : CI l D cA ad sz yX4_week wsX4_week 0 0 0 0 [.ref (ad 0)] F (some (.int (F 0 7))) F := by
  refine CI_of (own := RX4) (cc := cX4_week) (maxL := 1) (ret := (some .int)) (by decide +kernel) rfl rfl (Nat.le_of_ble_eq_true rfl) ?_
  intro p e s m below meth c ls X S hr hl
  obtain ⟨⟨hx, hb, hml, hown, hts⟩, hE, hI, hlocks⟩ := id X
  have hl : lv_has ls 1 [(0, .ref (ad 0))] := hl
  have hw4 : ∀ w ∈ wsX40, w.before _ s = true := fun w h => hts w ((by decide +kernel : ∀ w ∈ wsX40, w ∈ wsX4_week) w h)
  refine lv_aload_n hx hb dX4_week_0 rfl (lv_at hl 0 rfl) ?_
  refine r_geti X S hw4 ob_0 7 ⟨rfl, by decide, rfl⟩ rfl (hts (.fieldLink RX4 35 "TermBill" "week" "I") (by decide +kernel)) dX4_week_1 ?_
  exact r_iret X S hr dX4_week_4 (Nat.le_of_ble_eq_true rfl) (Nat.le_of_ble_eq_true rfl) rfl rfl

set_option maxHeartbeats 1000000 in
set_option maxRecDepth 100000 in
theorem c_X4_term (l : Launch) (D : va_G) (cA : Nat → ClassId) (ad : Nat → Nat) (sz : Nat) (F : FF) : CI l D cA ad sz yX4_term wsX4_term 0 0 0 0 [.ref (ad 0)] F (some (.int (F 0 8))) F := by
  refine CI_of (own := RX4) (cc := cX4_term) (maxL := 1) (ret := (some .int)) (by decide +kernel) rfl rfl (Nat.le_of_ble_eq_true rfl) ?_
  intro p e s m below meth c ls X S hr hl
  obtain ⟨⟨hx, hb, hml, hown, hts⟩, hE, hI, hlocks⟩ := id X
  have hl : lv_has ls 1 [(0, .ref (ad 0))] := hl
  have hw4 : ∀ w ∈ wsX40, w.before _ s = true := fun w h => hts w ((by decide +kernel : ∀ w ∈ wsX40, w ∈ wsX4_term) w h)
  refine lv_aload_n hx hb dX4_term_0 rfl (lv_at hl 0 rfl) ?_
  refine r_geti X S hw4 ob_0 8 ⟨rfl, by decide, rfl⟩ rfl (hts (.fieldLink RX4 38 "TermBill" "term" "I") (by decide +kernel)) dX4_term_1 ?_
  exact r_iret X S hr dX4_term_4 (Nat.le_of_ble_eq_true rfl) (Nat.le_of_ble_eq_true rfl) rfl rfl

set_option maxHeartbeats 1000000 in
set_option maxRecDepth 100000 in
theorem c_X4_credits (l : Launch) (D : va_G) (cA : Nat → ClassId) (ad : Nat → Nat) (sz : Nat) (F : FF) (i : Nat) (hi : i < 4) : CI l D cA ad sz yX4_credits wsX4_credits 1 22 0 0 [.ref (ad 0), .int (nI i)] F (some (.int (tot8 (F (4 + 8 * i + 2))))) F := by
  refine CI_of (own := RX4) (cc := cX4_credits) (maxL := 2) (ret := (some .int)) (by decide +kernel) rfl rfl (Nat.le_of_ble_eq_true rfl) ?_
  intro p e s m below meth c ls X S hr hl
  obtain ⟨⟨hx, hb, hml, hown, hts⟩, hE, hI, hlocks⟩ := id X
  have hl : lv_has ls 2 [(0, .ref (ad 0)), (1, .int (nI i))] := hl
  have hw3 : ∀ w ∈ wsX30, w.before _ s = true := fun w h => hts w ((by decide +kernel : ∀ w ∈ wsX30, w ∈ wsX4_credits) w h)
  refine lv_aload_n hx hb dX4_credits_0 rfl (lv_at hl 0 rfl) ?_
  refine lv_iload_n hx hb dX4_credits_1 rfl (lv_at hl 1 rfl) ?_
  refine r_V0 X S (c_X4_studentAt l D cA ad _ F i hi) ob_0 rfl (cwV 1 hts gX4_credits_X4_studentAt rfl rfl rfl (by decide +kernel) ⟨Nat.le_of_ble_eq_true rfl, Nat.le_of_ble_eq_true rfl⟩) rfl hl.1 rfl (Nat.le_of_ble_eq_true rfl) dX4_credits_2 ⟨Nat.zero_le _, Nat.zero_le _⟩ (fun H locs S => ?_)
  refine r_getr (q := 4 + 8 * i + 1) X S hw3 (ob_S i hi) 0 ⟨rfl, by decide, rfl⟩ rfl (hts (.fieldLink RX4 97 "TermBill$Student" "courses" "LTermBill$Courses;") (by decide +kernel)) dX4_credits_5 ?_
  refine r_V0 X S (c_X1_total l D cA ad _ F i hi) (ob_C i hi) rfl (cwV 0 hts gX4_credits_X1_total rfl rfl rfl (by decide +kernel) ⟨Nat.le_of_ble_eq_true rfl, Nat.le_of_ble_eq_true rfl⟩) rfl hl.1 rfl (Nat.le_of_ble_eq_true rfl) dX4_credits_8 ⟨Nat.zero_le _, Nat.zero_le _⟩ (fun H locs S => ?_)
  exact r_iret X S hr dX4_credits_11 (Nat.le_of_ble_eq_true rfl) (Nat.le_of_ble_eq_true rfl) rfl rfl

set_option maxHeartbeats 1000000 in
set_option maxRecDepth 100000 in
theorem x1_X4_credits (l : Launch) (hst : l.stackTraces = false) (D : va_G) (cA : Nat → ClassId) (ad : Nat → Nat) (sz : Nat) (F : FF) (x : Int32) (h : wi x 0 3 = false) : CX l D cA ad sz yX4_credits wsX4_credits 7 112 [.ref (ad 0), .int x] F "java/lang/IndexOutOfBoundsException" F := by
  refine CX_of (own := RX4) (cc := cX4_credits) (maxL := 2) (ret := (some .int)) (by decide +kernel) rfl rfl (Nat.le_of_ble_eq_true rfl) ?_
  intro p e s m below meth c ls X S hno hl
  obtain ⟨⟨hx, hb, hml, hown, hts⟩, hE, hI, hlocks⟩ := id X
  have hl : lv_has ls 2 [(0, .ref (ad 0)), (1, .int x)] := hl
  refine lv_aload_n hx hb dX4_credits_0 rfl (lv_at hl 0 rfl) ?_
  refine lv_iload_n hx hb dX4_credits_1 rfl (lv_at hl 1 rfl) ?_
  refine r_VX X S (x_X4_studentAt l hst D cA ad _ F x h) ob_0 rfl (cwV 1 hts gX4_credits_X4_studentAt rfl rfl rfl (by decide +kernel) ⟨Nat.le_of_ble_eq_true rfl, Nat.le_of_ble_eq_true rfl⟩) rfl hl.1 rfl (Nat.le_of_ble_eq_true rfl) dX4_credits_2 ⟨Nat.le_of_ble_eq_true rfl, Nat.le_of_ble_eq_true rfl⟩ (fun ce q9 H locs S h1 h2 h3 => ?_)
  exact r_out X S hno h1 h2 h3 (Nat.le_refl _) (Nat.le_refl _) rfl

set_option maxHeartbeats 1000000 in
set_option maxRecDepth 100000 in
theorem c_X4_charged0 (l : Launch) (D : va_G) (cA : Nat → ClassId) (ad : Nat → Nat) (sz : Nat) (F : FF) (i : Nat) (hi : i < 4) : CI l D cA ad sz yX4_charged wsX4_charged 2 46 0 0 [.ref (ad 0), .int (nI i), .int 0] F (some (.int (chC F i 1))) F := by
  refine CI_of (own := RX4) (cc := cX4_charged) (maxL := 4) (ret := (some .int)) (by decide +kernel) rfl rfl (Nat.le_of_ble_eq_true rfl) ?_
  intro p e s m below meth c ls X S hr hl
  obtain ⟨⟨hx, hb, hml, hown, hts⟩, hE, hI, hlocks⟩ := id X
  have hl : lv_has ls 4 [(0, .ref (ad 0)), (1, .int (nI i)), (2, .int 0)] := hl
  refine lv_aload_n hx hb dX4_charged_0 rfl (lv_at hl 0 rfl) ?_
  refine lv_iload_n hx hb dX4_charged_1 rfl (lv_at hl 1 rfl) ?_
  refine r_V0 X S (c_X4_studentAt l D cA ad _ F i hi) ob_0 rfl (cwV 1 hts gX4_charged_X4_studentAt rfl rfl rfl (by decide +kernel) ⟨Nat.le_of_ble_eq_true rfl, Nat.le_of_ble_eq_true rfl⟩) rfl hl.1 rfl (Nat.le_of_ble_eq_true rfl) dX4_charged_2 ⟨Nat.zero_le _, Nat.zero_le _⟩ (fun H locs S => ?_)
  refine lv_astore_n (lv' := [(3, .ref (ad (4 + 8 * i))), (0, .ref (ad 0)), (1, .int (nI i)), (2, .int 0)]) hx hb dX4_charged_5 rfl hl (by decide) rfl (fun ls hl => ?_)
  refine lv_iload_n hx hb dX4_charged_6 rfl (lv_at hl 3 rfl) ?_
  refine lv_iconst (v := 0) hx hb dX4_charged_7 (by decide) ?_
  refine lv_iconst (v := 2) hx hb dX4_charged_8 (by decide) ?_
  refine r_S0 X S (c_X4_isWithin l D cA ad _ F 0 0 2) (va_cwS 3 hts gX4_charged_X4_isWithin rfl rfl rfl (by decide +kernel) ⟨Nat.le_of_ble_eq_true rfl, Nat.le_of_ble_eq_true rfl⟩) rfl hl.1 rfl (Nat.le_of_ble_eq_true rfl) dX4_charged_9 ⟨Nat.zero_le _, Nat.zero_le _⟩ (fun H locs S => ?_)
  refine lv_if_ne (tgt := 25) hx hb dX4_charged_12 (by decide) (fun _ => ?_) (fun z => False.elim (by rw [(show wi 0 0 2 = true by decide)] at z; revert z; decide))
  refine lv_aload_n hx hb dX4_charged_25 rfl (lv_at hl 1 rfl) ?_
  refine lv_aload_n hx hb dX4_charged_26 rfl (lv_at hl 0 rfl) ?_
  refine lv_iconst (v := 1) hx hb dX4_charged_27 (by decide) ?_
  refine lv_iload_n hx hb dX4_charged_28 rfl (lv_at hl 3 rfl) ?_
  refine lv_ishl hx hb dX4_charged_29 ?_
  refine lv_topi (fun x_1 ex_1 => ?_)
  obtain rfl : x_1 = 1 := ex_1.trans (by decide)
  refine r_V0 X S (c_X4_chargesOf l D cA ad _ F i hi 1) ob_0 rfl (cwV 2 hts gX4_charged_X4_chargesOf rfl rfl rfl (by decide +kernel) ⟨Nat.le_of_ble_eq_true rfl, Nat.le_of_ble_eq_true rfl⟩) rfl hl.1 rfl (Nat.le_of_ble_eq_true rfl) dX4_charged_30 ⟨Nat.zero_le _, Nat.zero_le _⟩ (fun H locs S => ?_)
  exact r_iret X S hr dX4_charged_33 (Nat.le_of_ble_eq_true rfl) (Nat.le_of_ble_eq_true rfl) rfl rfl

set_option maxHeartbeats 1000000 in
set_option maxRecDepth 100000 in
theorem c_X4_charged1 (l : Launch) (D : va_G) (cA : Nat → ClassId) (ad : Nat → Nat) (sz : Nat) (F : FF) (i : Nat) (hi : i < 4) : CI l D cA ad sz yX4_charged wsX4_charged 2 46 0 0 [.ref (ad 0), .int (nI i), .int 1] F (some (.int (chC F i 2))) F := by
  refine CI_of (own := RX4) (cc := cX4_charged) (maxL := 4) (ret := (some .int)) (by decide +kernel) rfl rfl (Nat.le_of_ble_eq_true rfl) ?_
  intro p e s m below meth c ls X S hr hl
  obtain ⟨⟨hx, hb, hml, hown, hts⟩, hE, hI, hlocks⟩ := id X
  have hl : lv_has ls 4 [(0, .ref (ad 0)), (1, .int (nI i)), (2, .int 1)] := hl
  refine lv_aload_n hx hb dX4_charged_0 rfl (lv_at hl 0 rfl) ?_
  refine lv_iload_n hx hb dX4_charged_1 rfl (lv_at hl 1 rfl) ?_
  refine r_V0 X S (c_X4_studentAt l D cA ad _ F i hi) ob_0 rfl (cwV 1 hts gX4_charged_X4_studentAt rfl rfl rfl (by decide +kernel) ⟨Nat.le_of_ble_eq_true rfl, Nat.le_of_ble_eq_true rfl⟩) rfl hl.1 rfl (Nat.le_of_ble_eq_true rfl) dX4_charged_2 ⟨Nat.zero_le _, Nat.zero_le _⟩ (fun H locs S => ?_)
  refine lv_astore_n (lv' := [(3, .ref (ad (4 + 8 * i))), (0, .ref (ad 0)), (1, .int (nI i)), (2, .int 1)]) hx hb dX4_charged_5 rfl hl (by decide) rfl (fun ls hl => ?_)
  refine lv_iload_n hx hb dX4_charged_6 rfl (lv_at hl 3 rfl) ?_
  refine lv_iconst (v := 0) hx hb dX4_charged_7 (by decide) ?_
  refine lv_iconst (v := 2) hx hb dX4_charged_8 (by decide) ?_
  refine r_S0 X S (c_X4_isWithin l D cA ad _ F 1 0 2) (va_cwS 3 hts gX4_charged_X4_isWithin rfl rfl rfl (by decide +kernel) ⟨Nat.le_of_ble_eq_true rfl, Nat.le_of_ble_eq_true rfl⟩) rfl hl.1 rfl (Nat.le_of_ble_eq_true rfl) dX4_charged_9 ⟨Nat.zero_le _, Nat.zero_le _⟩ (fun H locs S => ?_)
  refine lv_if_ne (tgt := 25) hx hb dX4_charged_12 (by decide) (fun _ => ?_) (fun z => False.elim (by rw [(show wi 1 0 2 = true by decide)] at z; revert z; decide))
  refine lv_aload_n hx hb dX4_charged_25 rfl (lv_at hl 1 rfl) ?_
  refine lv_aload_n hx hb dX4_charged_26 rfl (lv_at hl 0 rfl) ?_
  refine lv_iconst (v := 1) hx hb dX4_charged_27 (by decide) ?_
  refine lv_iload_n hx hb dX4_charged_28 rfl (lv_at hl 3 rfl) ?_
  refine lv_ishl hx hb dX4_charged_29 ?_
  refine lv_topi (fun x_1 ex_1 => ?_)
  obtain rfl : x_1 = 2 := ex_1.trans (by decide)
  refine r_V0 X S (c_X4_chargesOf l D cA ad _ F i hi 2) ob_0 rfl (cwV 2 hts gX4_charged_X4_chargesOf rfl rfl rfl (by decide +kernel) ⟨Nat.le_of_ble_eq_true rfl, Nat.le_of_ble_eq_true rfl⟩) rfl hl.1 rfl (Nat.le_of_ble_eq_true rfl) dX4_charged_30 ⟨Nat.zero_le _, Nat.zero_le _⟩ (fun H locs S => ?_)
  exact r_iret X S hr dX4_charged_33 (Nat.le_of_ble_eq_true rfl) (Nat.le_of_ble_eq_true rfl) rfl rfl

set_option maxHeartbeats 1000000 in
set_option maxRecDepth 100000 in
theorem c_X4_charged2 (l : Launch) (D : va_G) (cA : Nat → ClassId) (ad : Nat → Nat) (sz : Nat) (F : FF) (i : Nat) (hi : i < 4) : CI l D cA ad sz yX4_charged wsX4_charged 2 46 0 0 [.ref (ad 0), .int (nI i), .int 2] F (some (.int (chC F i 4))) F := by
  refine CI_of (own := RX4) (cc := cX4_charged) (maxL := 4) (ret := (some .int)) (by decide +kernel) rfl rfl (Nat.le_of_ble_eq_true rfl) ?_
  intro p e s m below meth c ls X S hr hl
  obtain ⟨⟨hx, hb, hml, hown, hts⟩, hE, hI, hlocks⟩ := id X
  have hl : lv_has ls 4 [(0, .ref (ad 0)), (1, .int (nI i)), (2, .int 2)] := hl
  refine lv_aload_n hx hb dX4_charged_0 rfl (lv_at hl 0 rfl) ?_
  refine lv_iload_n hx hb dX4_charged_1 rfl (lv_at hl 1 rfl) ?_
  refine r_V0 X S (c_X4_studentAt l D cA ad _ F i hi) ob_0 rfl (cwV 1 hts gX4_charged_X4_studentAt rfl rfl rfl (by decide +kernel) ⟨Nat.le_of_ble_eq_true rfl, Nat.le_of_ble_eq_true rfl⟩) rfl hl.1 rfl (Nat.le_of_ble_eq_true rfl) dX4_charged_2 ⟨Nat.zero_le _, Nat.zero_le _⟩ (fun H locs S => ?_)
  refine lv_astore_n (lv' := [(3, .ref (ad (4 + 8 * i))), (0, .ref (ad 0)), (1, .int (nI i)), (2, .int 2)]) hx hb dX4_charged_5 rfl hl (by decide) rfl (fun ls hl => ?_)
  refine lv_iload_n hx hb dX4_charged_6 rfl (lv_at hl 3 rfl) ?_
  refine lv_iconst (v := 0) hx hb dX4_charged_7 (by decide) ?_
  refine lv_iconst (v := 2) hx hb dX4_charged_8 (by decide) ?_
  refine r_S0 X S (c_X4_isWithin l D cA ad _ F 2 0 2) (va_cwS 3 hts gX4_charged_X4_isWithin rfl rfl rfl (by decide +kernel) ⟨Nat.le_of_ble_eq_true rfl, Nat.le_of_ble_eq_true rfl⟩) rfl hl.1 rfl (Nat.le_of_ble_eq_true rfl) dX4_charged_9 ⟨Nat.zero_le _, Nat.zero_le _⟩ (fun H locs S => ?_)
  refine lv_if_ne (tgt := 25) hx hb dX4_charged_12 (by decide) (fun _ => ?_) (fun z => False.elim (by rw [(show wi 2 0 2 = true by decide)] at z; revert z; decide))
  refine lv_aload_n hx hb dX4_charged_25 rfl (lv_at hl 1 rfl) ?_
  refine lv_aload_n hx hb dX4_charged_26 rfl (lv_at hl 0 rfl) ?_
  refine lv_iconst (v := 1) hx hb dX4_charged_27 (by decide) ?_
  refine lv_iload_n hx hb dX4_charged_28 rfl (lv_at hl 3 rfl) ?_
  refine lv_ishl hx hb dX4_charged_29 ?_
  refine lv_topi (fun x_1 ex_1 => ?_)
  obtain rfl : x_1 = 4 := ex_1.trans (by decide)
  refine r_V0 X S (c_X4_chargesOf l D cA ad _ F i hi 4) ob_0 rfl (cwV 2 hts gX4_charged_X4_chargesOf rfl rfl rfl (by decide +kernel) ⟨Nat.le_of_ble_eq_true rfl, Nat.le_of_ble_eq_true rfl⟩) rfl hl.1 rfl (Nat.le_of_ble_eq_true rfl) dX4_charged_30 ⟨Nat.zero_le _, Nat.zero_le _⟩ (fun H locs S => ?_)
  exact r_iret X S hr dX4_charged_33 (Nat.le_of_ble_eq_true rfl) (Nat.le_of_ble_eq_true rfl) rfl rfl

set_option maxHeartbeats 1000000 in
set_option maxRecDepth 100000 in
theorem x1_X4_charged (l : Launch) (hst : l.stackTraces = false) (D : va_G) (cA : Nat → ClassId) (ad : Nat → Nat) (sz : Nat) (F : FF) (x kd : Int32) (h : wi x 0 3 = false) : CX l D cA ad sz yX4_charged wsX4_charged 7 112 [.ref (ad 0), .int x, .int kd] F "java/lang/IndexOutOfBoundsException" F := by
  refine CX_of (own := RX4) (cc := cX4_charged) (maxL := 4) (ret := (some .int)) (by decide +kernel) rfl rfl (Nat.le_of_ble_eq_true rfl) ?_
  intro p e s m below meth c ls X S hno hl
  obtain ⟨⟨hx, hb, hml, hown, hts⟩, hE, hI, hlocks⟩ := id X
  have hl : lv_has ls 4 [(0, .ref (ad 0)), (1, .int x), (2, .int kd)] := hl
  refine lv_aload_n hx hb dX4_charged_0 rfl (lv_at hl 0 rfl) ?_
  refine lv_iload_n hx hb dX4_charged_1 rfl (lv_at hl 1 rfl) ?_
  refine r_VX X S (x_X4_studentAt l hst D cA ad _ F x h) ob_0 rfl (cwV 1 hts gX4_charged_X4_studentAt rfl rfl rfl (by decide +kernel) ⟨Nat.le_of_ble_eq_true rfl, Nat.le_of_ble_eq_true rfl⟩) rfl hl.1 rfl (Nat.le_of_ble_eq_true rfl) dX4_charged_2 ⟨Nat.le_of_ble_eq_true rfl, Nat.le_of_ble_eq_true rfl⟩ (fun ce q9 H locs S h1 h2 h3 => ?_)
  exact r_out X S hno h1 h2 h3 (Nat.le_refl _) (Nat.le_refl _) rfl

set_option maxHeartbeats 1000000 in
set_option maxRecDepth 100000 in
theorem x2_X4_charged (l : Launch) (hst : l.stackTraces = false) (D : va_G) (cA : Nat → ClassId) (ad : Nat → Nat) (sz : Nat) (F : FF) (i : Nat) (hi : i < 4) (kd : Int32) (h : wi kd 0 2 = false) : CX l D cA ad sz yX4_charged wsX4_charged 6 90 [.ref (ad 0), .int (nI i), .int kd] F "java/lang/IllegalArgumentException" F := by
  refine CX_of (own := RX4) (cc := cX4_charged) (maxL := 4) (ret := (some .int)) (by decide +kernel) rfl rfl (Nat.le_of_ble_eq_true rfl) ?_
  intro p e s m below meth c ls X S hno hl
  obtain ⟨⟨hx, hb, hml, hown, hts⟩, hE, hI, hlocks⟩ := id X
  have hl : lv_has ls 4 [(0, .ref (ad 0)), (1, .int (nI i)), (2, .int kd)] := hl
  refine lv_aload_n hx hb dX4_charged_0 rfl (lv_at hl 0 rfl) ?_
  refine lv_iload_n hx hb dX4_charged_1 rfl (lv_at hl 1 rfl) ?_
  refine r_V0 X S (c_X4_studentAt l D cA ad _ F i hi) ob_0 rfl (cwV 1 hts gX4_charged_X4_studentAt rfl rfl rfl (by decide +kernel) ⟨Nat.le_of_ble_eq_true rfl, Nat.le_of_ble_eq_true rfl⟩) rfl hl.1 rfl (Nat.le_of_ble_eq_true rfl) dX4_charged_2 ⟨Nat.zero_le _, Nat.zero_le _⟩ (fun H locs S => ?_)
  refine lv_astore_n (lv' := [(3, .ref (ad (4 + 8 * i))), (0, .ref (ad 0)), (1, .int (nI i)), (2, .int kd)]) hx hb dX4_charged_5 rfl hl (by decide) rfl (fun ls hl => ?_)
  refine lv_iload_n hx hb dX4_charged_6 rfl (lv_at hl 3 rfl) ?_
  refine lv_iconst (v := 0) hx hb dX4_charged_7 (by decide) ?_
  refine lv_iconst (v := 2) hx hb dX4_charged_8 (by decide) ?_
  refine r_S0 X S (c_X4_isWithin l D cA ad _ F kd 0 2) (va_cwS 3 hts gX4_charged_X4_isWithin rfl rfl rfl (by decide +kernel) ⟨Nat.le_of_ble_eq_true rfl, Nat.le_of_ble_eq_true rfl⟩) rfl hl.1 rfl (Nat.le_of_ble_eq_true rfl) dX4_charged_9 ⟨Nat.zero_le _, Nat.zero_le _⟩ (fun H locs S => ?_)
  refine lv_if_ne (tgt := 25) hx hb dX4_charged_12 (by decide) (fun z => False.elim (by rw [h] at z; revert z; decide)) (fun _ => ?_)
  exact r_throw X S hst hno (is := 200) (text := "no such kind") hl.1 (by decide +kernel) (hts (.classLink RX4 57 "java/lang/IllegalArgumentException") (by decide +kernel)) (hts (.initialized "java/lang/IllegalArgumentException") (by decide +kernel)) (by decide +kernel) (hat61 hE.2.2.2.2 hts (fun w h => List.mem_cons_of_mem _ (by first | exact List.mem_append_right _ h | exact List.mem_append_left _ (List.mem_append_right _ h) | exact List.mem_append_left _ (List.mem_append_left _ (List.mem_append_right _ h))))) hgd61 dX4_charged_15 dX4_charged_18 dX4_charged_19 dX4_charged_21 dX4_charged_24 ⟨Nat.le_of_ble_eq_true rfl, Nat.le_of_ble_eq_true rfl, Nat.le_of_ble_eq_true rfl, Nat.le_of_ble_eq_true rfl⟩ (Nat.le_refl _) (Nat.le_refl _) rfl

set_option maxHeartbeats 1000000 in
set_option maxRecDepth 100000 in
theorem c_X4_sponsored (l : Launch) (D : va_G) (cA : Nat → ClassId) (ad : Nat → Nat) (sz : Nat) (F : FF) (i : Nat) (hi : i < 4) : CI l D cA ad sz yX4_sponsored wsX4_sponsored 3 67 0 0 [.ref (ad 0), .int (nI i)] F (some (.int (spC F i))) F := by
  refine CI_of (own := RX4) (cc := cX4_sponsored) (maxL := 2) (ret := (some .int)) (by decide +kernel) rfl rfl (Nat.le_of_ble_eq_true rfl) ?_
  intro p e s m below meth c ls X S hr hl
  obtain ⟨⟨hx, hb, hml, hown, hts⟩, hE, hI, hlocks⟩ := id X
  have hl : lv_has ls 2 [(0, .ref (ad 0)), (1, .int (nI i))] := hl
  refine lv_aload_n hx hb dX4_sponsored_0 rfl (lv_at hl 0 rfl) ?_
  refine lv_aload_n hx hb dX4_sponsored_1 rfl (lv_at hl 0 rfl) ?_
  refine lv_iload_n hx hb dX4_sponsored_2 rfl (lv_at hl 1 rfl) ?_
  refine r_V0 X S (c_X4_studentAt l D cA ad _ F i hi) ob_0 rfl (cwV 1 hts gX4_sponsored_X4_studentAt rfl rfl rfl (by decide +kernel) ⟨Nat.le_of_ble_eq_true rfl, Nat.le_of_ble_eq_true rfl⟩) rfl hl.1 rfl (Nat.le_of_ble_eq_true rfl) dX4_sponsored_3 ⟨Nat.zero_le _, Nat.zero_le _⟩ (fun H locs S => ?_)
  refine r_V0 X S (c_X4_sponsorPart l D cA ad _ F i hi) ob_0 rfl (cwV 1 hts gX4_sponsored_X4_sponsorPart rfl rfl rfl (by decide +kernel) ⟨Nat.le_of_ble_eq_true rfl, Nat.le_of_ble_eq_true rfl⟩) rfl hl.1 rfl (Nat.le_of_ble_eq_true rfl) dX4_sponsored_6 ⟨Nat.zero_le _, Nat.zero_le _⟩ (fun H locs S => ?_)
  exact r_iret X S hr dX4_sponsored_9 (Nat.le_of_ble_eq_true rfl) (Nat.le_of_ble_eq_true rfl) rfl rfl

set_option maxHeartbeats 1000000 in
set_option maxRecDepth 100000 in
theorem x1_X4_sponsored (l : Launch) (hst : l.stackTraces = false) (D : va_G) (cA : Nat → ClassId) (ad : Nat → Nat) (sz : Nat) (F : FF) (x : Int32) (h : wi x 0 3 = false) : CX l D cA ad sz yX4_sponsored wsX4_sponsored 7 112 [.ref (ad 0), .int x] F "java/lang/IndexOutOfBoundsException" F := by
  refine CX_of (own := RX4) (cc := cX4_sponsored) (maxL := 2) (ret := (some .int)) (by decide +kernel) rfl rfl (Nat.le_of_ble_eq_true rfl) ?_
  intro p e s m below meth c ls X S hno hl
  obtain ⟨⟨hx, hb, hml, hown, hts⟩, hE, hI, hlocks⟩ := id X
  have hl : lv_has ls 2 [(0, .ref (ad 0)), (1, .int x)] := hl
  refine lv_aload_n hx hb dX4_sponsored_0 rfl (lv_at hl 0 rfl) ?_
  refine lv_aload_n hx hb dX4_sponsored_1 rfl (lv_at hl 0 rfl) ?_
  refine lv_iload_n hx hb dX4_sponsored_2 rfl (lv_at hl 1 rfl) ?_
  refine r_VX X S (x_X4_studentAt l hst D cA ad _ F x h) ob_0 rfl (cwV 1 hts gX4_sponsored_X4_studentAt rfl rfl rfl (by decide +kernel) ⟨Nat.le_of_ble_eq_true rfl, Nat.le_of_ble_eq_true rfl⟩) rfl hl.1 rfl (Nat.le_of_ble_eq_true rfl) dX4_sponsored_3 ⟨Nat.le_of_ble_eq_true rfl, Nat.le_of_ble_eq_true rfl⟩ (fun ce q9 H locs S h1 h2 h3 => ?_)
  exact r_out X S hno h1 h2 h3 (Nat.le_refl _) (Nat.le_refl _) rfl

set_option maxHeartbeats 1000000 in
set_option maxRecDepth 100000 in
theorem c_X4_used (l : Launch) (D : va_G) (cA : Nat → ClassId) (ad : Nat → Nat) (sz : Nat) (F : FF) (i : Nat) (hi : i < 4) (j : Nat) (hj : j < 6) (h1 : hasI (nI j) (F (4 + 8 * i + 3) 3) = true) : CI l D cA ad sz yX4_used wsX4_used 4 88 0 0 [.ref (ad 0), .int (nI i), .int (nI j)] F (some (.int (balF F i (4 + 8 * i + 6) j))) (balF F i) := by
  refine CI_of (own := RX4) (cc := cX4_used) (maxL := 4) (ret := (some .int)) (by decide +kernel) rfl rfl (Nat.le_of_ble_eq_true rfl) ?_
  intro p e s m below meth c ls X S hr hl
  obtain ⟨⟨hx, hb, hml, hown, hts⟩, hE, hI, hlocks⟩ := id X
  have hl : lv_has ls 4 [(0, .ref (ad 0)), (1, .int (nI i)), (2, .int (nI j))] := hl
  have hw3 : ∀ w ∈ wsX30, w.before _ s = true := fun w h => hts w ((by decide +kernel : ∀ w ∈ wsX30, w ∈ wsX4_used) w h)
  refine lv_aload_n hx hb dX4_used_0 rfl (lv_at hl 0 rfl) ?_
  refine lv_iload_n hx hb dX4_used_1 rfl (lv_at hl 1 rfl) ?_
  refine r_V0 X S (c_X4_studentAt l D cA ad _ F i hi) ob_0 rfl (cwV 1 hts gX4_used_X4_studentAt rfl rfl rfl (by decide +kernel) ⟨Nat.le_of_ble_eq_true rfl, Nat.le_of_ble_eq_true rfl⟩) rfl hl.1 rfl (Nat.le_of_ble_eq_true rfl) dX4_used_2 ⟨Nat.zero_le _, Nat.zero_le _⟩ (fun H locs S => ?_)
  refine lv_astore_n (lv' := [(3, .ref (ad (4 + 8 * i))), (0, .ref (ad 0)), (1, .int (nI i)), (2, .int (nI j))]) hx hb dX4_used_5 rfl hl (by decide) rfl (fun ls hl => ?_)
  refine lv_aload_n hx hb dX4_used_6 rfl (lv_at hl 0 rfl) ?_
  refine r_getr (q := 4 + 8 * i + 3) X S hw3 (ob_S i hi) 1 ⟨rfl, by decide, rfl⟩ rfl (hts (.fieldLink RX4 140 "TermBill$Student" "aid" "LTermBill$Aid;") (by decide +kernel)) dX4_used_7 ?_
  refine lv_iload_n hx hb dX4_used_10 rfl (lv_at hl 3 rfl) ?_
  refine r_V0 X S (c_X0_has l D cA ad _ F i hi (nI j)) (ob_A i hi) rfl (cwV 1 hts gX4_used_X0_has rfl rfl rfl (by decide +kernel) ⟨Nat.le_of_ble_eq_true rfl, Nat.le_of_ble_eq_true rfl⟩) rfl hl.1 rfl (Nat.le_of_ble_eq_true rfl) dX4_used_11 ⟨Nat.zero_le _, Nat.zero_le _⟩ (fun H locs S => ?_)
  refine lv_if_ne (tgt := 27) hx hb dX4_used_14 (by decide) (fun _ => ?_) (fun z => False.elim (by rw [h1] at z; revert z; decide))
  refine lv_aload_n hx hb dX4_used_27 rfl (lv_at hl 0 rfl) ?_
  refine r_getr (q := 4 + 8 * i + 3) X S hw3 (ob_S i hi) 1 ⟨rfl, by decide, rfl⟩ rfl (hts (.fieldLink RX4 140 "TermBill$Student" "aid" "LTermBill$Aid;") (by decide +kernel)) dX4_used_28 ?_
  refine lv_aload_n hx hb dX4_used_31 rfl (lv_at hl 1 rfl) ?_
  refine lv_aload_n hx hb dX4_used_32 rfl (lv_at hl 0 rfl) ?_
  refine r_V0 X S (c_X4_unsponsored l D cA ad _ F i hi) ob_0 rfl (cwV 1 hts gX4_used_X4_unsponsored rfl rfl rfl (by decide +kernel) ⟨Nat.le_of_ble_eq_true rfl, Nat.le_of_ble_eq_true rfl⟩) rfl hl.1 rfl (Nat.le_of_ble_eq_true rfl) dX4_used_33 ⟨Nat.zero_le _, Nat.zero_le _⟩ (fun H locs S => ?_)
  refine lv_aload_n hx hb dX4_used_36 rfl (lv_at hl 0 rfl) ?_
  refine r_geti X S hw3 (ob_S i hi) 5 ⟨rfl, by decide, rfl⟩ rfl (hts (.fieldLink RX4 84 "TermBill$Student" "need" "I") (by decide +kernel)) dX4_used_37 ?_
  refine r_V0 X S (c_X0_cover l D cA ad _ F i hi (unC F i) (F (4 + 8 * i) 5)) (ob_A i hi) rfl (cwV 2 hts gX4_used_X0_cover rfl rfl rfl (by decide +kernel) ⟨Nat.le_of_ble_eq_true rfl, Nat.le_of_ble_eq_true rfl⟩) rfl hl.1 rfl (Nat.le_of_ble_eq_true rfl) dX4_used_40 ⟨Nat.zero_le _, Nat.zero_le _⟩ (fun H locs S => ?_)
  obtain ⟨F_1, eF_1⟩ : ∃ z, z = (cvA i (F, unC F i, F (4 + 8 * i) 5)).1 := ⟨_, rfl⟩
  rw [← eF_1] at S
  refine lv_pop hx hb dX4_used_43 rfl ?_
  refine lv_aload_n hx hb dX4_used_44 rfl (lv_at hl 0 rfl) ?_
  refine r_getr (q := 4 + 8 * i + 3) X S hw3 (ob_S i hi) 1 ⟨rfl, by decide, rfl⟩ rfl (hts (.fieldLink RX4 140 "TermBill$Student" "aid" "LTermBill$Aid;") (by decide +kernel)) dX4_used_45 ?_
  refine lv_iload_n hx hb dX4_used_48 rfl (lv_at hl 3 rfl) ?_
  refine r_V0 X S (c_X0_useOf l D cA ad _ F_1 i hi j (by omega)) (ob_A i hi) rfl (cwV 1 hts gX4_used_X0_useOf rfl rfl rfl (by decide +kernel) ⟨Nat.le_of_ble_eq_true rfl, Nat.le_of_ble_eq_true rfl⟩) rfl hl.1 rfl (Nat.le_of_ble_eq_true rfl) dX4_used_49 ⟨Nat.zero_le _, Nat.zero_le _⟩ (fun H locs S => ?_)
  exact r_iret X S hr dX4_used_52 (Nat.le_of_ble_eq_true rfl) (Nat.le_of_ble_eq_true rfl) (by unfold balF; simp only [eF_1]) (by unfold balF; simp only [eF_1])

set_option maxHeartbeats 1000000 in
set_option maxRecDepth 100000 in
theorem x1_X4_used (l : Launch) (hst : l.stackTraces = false) (D : va_G) (cA : Nat → ClassId) (ad : Nat → Nat) (sz : Nat) (F : FF) (x y : Int32) (h : wi x 0 3 = false) : CX l D cA ad sz yX4_used wsX4_used 7 112 [.ref (ad 0), .int x, .int y] F "java/lang/IndexOutOfBoundsException" F := by
  refine CX_of (own := RX4) (cc := cX4_used) (maxL := 4) (ret := (some .int)) (by decide +kernel) rfl rfl (Nat.le_of_ble_eq_true rfl) ?_
  intro p e s m below meth c ls X S hno hl
  obtain ⟨⟨hx, hb, hml, hown, hts⟩, hE, hI, hlocks⟩ := id X
  have hl : lv_has ls 4 [(0, .ref (ad 0)), (1, .int x), (2, .int y)] := hl
  refine lv_aload_n hx hb dX4_used_0 rfl (lv_at hl 0 rfl) ?_
  refine lv_iload_n hx hb dX4_used_1 rfl (lv_at hl 1 rfl) ?_
  refine r_VX X S (x_X4_studentAt l hst D cA ad _ F x h) ob_0 rfl (cwV 1 hts gX4_used_X4_studentAt rfl rfl rfl (by decide +kernel) ⟨Nat.le_of_ble_eq_true rfl, Nat.le_of_ble_eq_true rfl⟩) rfl hl.1 rfl (Nat.le_of_ble_eq_true rfl) dX4_used_2 ⟨Nat.le_of_ble_eq_true rfl, Nat.le_of_ble_eq_true rfl⟩ (fun ce q9 H locs S h1 h2 h3 => ?_)
  exact r_out X S hno h1 h2 h3 (Nat.le_refl _) (Nat.le_refl _) rfl

set_option maxHeartbeats 1000000 in
set_option maxRecDepth 100000 in
theorem x4_X4_used (l : Launch) (hst : l.stackTraces = false) (D : va_G) (cA : Nat → ClassId) (ad : Nat → Nat) (sz : Nat) (F : FF) (i : Nat) (hi : i < 4) (y : Int32) (h : hasI y (F (4 + 8 * i + 3) 3) = false) : CX l D cA ad sz yX4_used wsX4_used 6 90 [.ref (ad 0), .int (nI i), .int y] F "java/lang/IndexOutOfBoundsException" F := by
  refine CX_of (own := RX4) (cc := cX4_used) (maxL := 4) (ret := (some .int)) (by decide +kernel) rfl rfl (Nat.le_of_ble_eq_true rfl) ?_
  intro p e s m below meth c ls X S hno hl
  obtain ⟨⟨hx, hb, hml, hown, hts⟩, hE, hI, hlocks⟩ := id X
  have hl : lv_has ls 4 [(0, .ref (ad 0)), (1, .int (nI i)), (2, .int y)] := hl
  have hw3 : ∀ w ∈ wsX30, w.before _ s = true := fun w h => hts w ((by decide +kernel : ∀ w ∈ wsX30, w ∈ wsX4_used) w h)
  refine lv_aload_n hx hb dX4_used_0 rfl (lv_at hl 0 rfl) ?_
  refine lv_iload_n hx hb dX4_used_1 rfl (lv_at hl 1 rfl) ?_
  refine r_V0 X S (c_X4_studentAt l D cA ad _ F i hi) ob_0 rfl (cwV 1 hts gX4_used_X4_studentAt rfl rfl rfl (by decide +kernel) ⟨Nat.le_of_ble_eq_true rfl, Nat.le_of_ble_eq_true rfl⟩) rfl hl.1 rfl (Nat.le_of_ble_eq_true rfl) dX4_used_2 ⟨Nat.zero_le _, Nat.zero_le _⟩ (fun H locs S => ?_)
  refine lv_astore_n (lv' := [(3, .ref (ad (4 + 8 * i))), (0, .ref (ad 0)), (1, .int (nI i)), (2, .int y)]) hx hb dX4_used_5 rfl hl (by decide) rfl (fun ls hl => ?_)
  refine lv_aload_n hx hb dX4_used_6 rfl (lv_at hl 0 rfl) ?_
  refine r_getr (q := 4 + 8 * i + 3) X S hw3 (ob_S i hi) 1 ⟨rfl, by decide, rfl⟩ rfl (hts (.fieldLink RX4 140 "TermBill$Student" "aid" "LTermBill$Aid;") (by decide +kernel)) dX4_used_7 ?_
  refine lv_iload_n hx hb dX4_used_10 rfl (lv_at hl 3 rfl) ?_
  refine r_V0 X S (c_X0_has l D cA ad _ F i hi y) (ob_A i hi) rfl (cwV 1 hts gX4_used_X0_has rfl rfl rfl (by decide +kernel) ⟨Nat.le_of_ble_eq_true rfl, Nat.le_of_ble_eq_true rfl⟩) rfl hl.1 rfl (Nat.le_of_ble_eq_true rfl) dX4_used_11 ⟨Nat.zero_le _, Nat.zero_le _⟩ (fun H locs S => ?_)
  refine lv_if_ne (tgt := 27) hx hb dX4_used_14 (by decide) (fun z => False.elim (by rw [h] at z; revert z; decide)) (fun _ => ?_)
  exact r_throw X S hst hno (is := 209) (text := "no such award") hl.1 (by decide +kernel) (hts (.classLink RX4 116 "java/lang/IndexOutOfBoundsException") (by decide +kernel)) (hts (.initialized "java/lang/IndexOutOfBoundsException") (by decide +kernel)) (by decide +kernel) (hat120 hE.2.2.2.2 hts (fun w h => List.mem_cons_of_mem _ (by first | exact List.mem_append_right _ h | exact List.mem_append_left _ (List.mem_append_right _ h) | exact List.mem_append_left _ (List.mem_append_left _ (List.mem_append_right _ h))))) hgd120 dX4_used_17 dX4_used_20 dX4_used_21 dX4_used_23 dX4_used_26 ⟨Nat.le_of_ble_eq_true rfl, Nat.le_of_ble_eq_true rfl, Nat.le_of_ble_eq_true rfl, Nat.le_of_ble_eq_true rfl⟩ (Nat.le_refl _) (Nat.le_refl _) rfl

set_option maxHeartbeats 1000000 in
set_option maxRecDepth 100000 in
theorem c_X4_amountOf (l : Launch) (D : va_G) (cA : Nat → ClassId) (ad : Nat → Nat) (sz : Nat) (F : FF) (i : Nat) (hi : i < 4) (j : Nat) (hj : j < 6) (h1 : hasI (nI j) (F (4 + 8 * i + 3) 3) = true) : CI l D cA ad sz yX4_amountOf wsX4_amountOf 1 22 0 0 [.ref (ad 0), .int (nI i), .int (nI j)] F (some (.int (F (4 + 8 * i + 5) j))) F := by
  refine CI_of (own := RX4) (cc := cX4_amountOf) (maxL := 4) (ret := (some .int)) (by decide +kernel) rfl rfl (Nat.le_of_ble_eq_true rfl) ?_
  intro p e s m below meth c ls X S hr hl
  obtain ⟨⟨hx, hb, hml, hown, hts⟩, hE, hI, hlocks⟩ := id X
  have hl : lv_has ls 4 [(0, .ref (ad 0)), (1, .int (nI i)), (2, .int (nI j))] := hl
  have hw3 : ∀ w ∈ wsX30, w.before _ s = true := fun w h => hts w ((by decide +kernel : ∀ w ∈ wsX30, w ∈ wsX4_amountOf) w h)
  refine lv_aload_n hx hb dX4_amountOf_0 rfl (lv_at hl 0 rfl) ?_
  refine lv_iload_n hx hb dX4_amountOf_1 rfl (lv_at hl 1 rfl) ?_
  refine r_V0 X S (c_X4_studentAt l D cA ad _ F i hi) ob_0 rfl (cwV 1 hts gX4_amountOf_X4_studentAt rfl rfl rfl (by decide +kernel) ⟨Nat.le_of_ble_eq_true rfl, Nat.le_of_ble_eq_true rfl⟩) rfl hl.1 rfl (Nat.le_of_ble_eq_true rfl) dX4_amountOf_2 ⟨Nat.zero_le _, Nat.zero_le _⟩ (fun H locs S => ?_)
  refine lv_astore_n (lv' := [(3, .ref (ad (4 + 8 * i))), (0, .ref (ad 0)), (1, .int (nI i)), (2, .int (nI j))]) hx hb dX4_amountOf_5 rfl hl (by decide) rfl (fun ls hl => ?_)
  refine lv_aload_n hx hb dX4_amountOf_6 rfl (lv_at hl 0 rfl) ?_
  refine r_getr (q := 4 + 8 * i + 3) X S hw3 (ob_S i hi) 1 ⟨rfl, by decide, rfl⟩ rfl (hts (.fieldLink RX4 140 "TermBill$Student" "aid" "LTermBill$Aid;") (by decide +kernel)) dX4_amountOf_7 ?_
  refine lv_iload_n hx hb dX4_amountOf_10 rfl (lv_at hl 3 rfl) ?_
  refine r_V0 X S (c_X0_has l D cA ad _ F i hi (nI j)) (ob_A i hi) rfl (cwV 1 hts gX4_amountOf_X0_has rfl rfl rfl (by decide +kernel) ⟨Nat.le_of_ble_eq_true rfl, Nat.le_of_ble_eq_true rfl⟩) rfl hl.1 rfl (Nat.le_of_ble_eq_true rfl) dX4_amountOf_11 ⟨Nat.zero_le _, Nat.zero_le _⟩ (fun H locs S => ?_)
  refine lv_if_ne (tgt := 27) hx hb dX4_amountOf_14 (by decide) (fun _ => ?_) (fun z => False.elim (by rw [h1] at z; revert z; decide))
  refine lv_aload_n hx hb dX4_amountOf_27 rfl (lv_at hl 0 rfl) ?_
  refine r_getr (q := 4 + 8 * i + 3) X S hw3 (ob_S i hi) 1 ⟨rfl, by decide, rfl⟩ rfl (hts (.fieldLink RX4 140 "TermBill$Student" "aid" "LTermBill$Aid;") (by decide +kernel)) dX4_amountOf_28 ?_
  refine lv_iload_n hx hb dX4_amountOf_31 rfl (lv_at hl 3 rfl) ?_
  refine r_V0 X S (c_X0_sumOf l D cA ad _ F i hi j (by omega)) (ob_A i hi) rfl (cwV 1 hts gX4_amountOf_X0_sumOf rfl rfl rfl (by decide +kernel) ⟨Nat.le_of_ble_eq_true rfl, Nat.le_of_ble_eq_true rfl⟩) rfl hl.1 rfl (Nat.le_of_ble_eq_true rfl) dX4_amountOf_32 ⟨Nat.zero_le _, Nat.zero_le _⟩ (fun H locs S => ?_)
  exact r_iret X S hr dX4_amountOf_35 (Nat.le_of_ble_eq_true rfl) (Nat.le_of_ble_eq_true rfl) rfl rfl

set_option maxHeartbeats 1000000 in
set_option maxRecDepth 100000 in
theorem x1_X4_amountOf (l : Launch) (hst : l.stackTraces = false) (D : va_G) (cA : Nat → ClassId) (ad : Nat → Nat) (sz : Nat) (F : FF) (x y : Int32) (h : wi x 0 3 = false) : CX l D cA ad sz yX4_amountOf wsX4_amountOf 7 112 [.ref (ad 0), .int x, .int y] F "java/lang/IndexOutOfBoundsException" F := by
  refine CX_of (own := RX4) (cc := cX4_amountOf) (maxL := 4) (ret := (some .int)) (by decide +kernel) rfl rfl (Nat.le_of_ble_eq_true rfl) ?_
  intro p e s m below meth c ls X S hno hl
  obtain ⟨⟨hx, hb, hml, hown, hts⟩, hE, hI, hlocks⟩ := id X
  have hl : lv_has ls 4 [(0, .ref (ad 0)), (1, .int x), (2, .int y)] := hl
  refine lv_aload_n hx hb dX4_amountOf_0 rfl (lv_at hl 0 rfl) ?_
  refine lv_iload_n hx hb dX4_amountOf_1 rfl (lv_at hl 1 rfl) ?_
  refine r_VX X S (x_X4_studentAt l hst D cA ad _ F x h) ob_0 rfl (cwV 1 hts gX4_amountOf_X4_studentAt rfl rfl rfl (by decide +kernel) ⟨Nat.le_of_ble_eq_true rfl, Nat.le_of_ble_eq_true rfl⟩) rfl hl.1 rfl (Nat.le_of_ble_eq_true rfl) dX4_amountOf_2 ⟨Nat.le_of_ble_eq_true rfl, Nat.le_of_ble_eq_true rfl⟩ (fun ce q9 H locs S h1 h2 h3 => ?_)
  exact r_out X S hno h1 h2 h3 (Nat.le_refl _) (Nat.le_refl _) rfl

set_option maxHeartbeats 1000000 in
set_option maxRecDepth 100000 in
theorem x4_X4_amountOf (l : Launch) (hst : l.stackTraces = false) (D : va_G) (cA : Nat → ClassId) (ad : Nat → Nat) (sz : Nat) (F : FF) (i : Nat) (hi : i < 4) (y : Int32) (h : hasI y (F (4 + 8 * i + 3) 3) = false) : CX l D cA ad sz yX4_amountOf wsX4_amountOf 6 90 [.ref (ad 0), .int (nI i), .int y] F "java/lang/IndexOutOfBoundsException" F := by
  refine CX_of (own := RX4) (cc := cX4_amountOf) (maxL := 4) (ret := (some .int)) (by decide +kernel) rfl rfl (Nat.le_of_ble_eq_true rfl) ?_
  intro p e s m below meth c ls X S hno hl
  obtain ⟨⟨hx, hb, hml, hown, hts⟩, hE, hI, hlocks⟩ := id X
  have hl : lv_has ls 4 [(0, .ref (ad 0)), (1, .int (nI i)), (2, .int y)] := hl
  have hw3 : ∀ w ∈ wsX30, w.before _ s = true := fun w h => hts w ((by decide +kernel : ∀ w ∈ wsX30, w ∈ wsX4_amountOf) w h)
  refine lv_aload_n hx hb dX4_amountOf_0 rfl (lv_at hl 0 rfl) ?_
  refine lv_iload_n hx hb dX4_amountOf_1 rfl (lv_at hl 1 rfl) ?_
  refine r_V0 X S (c_X4_studentAt l D cA ad _ F i hi) ob_0 rfl (cwV 1 hts gX4_amountOf_X4_studentAt rfl rfl rfl (by decide +kernel) ⟨Nat.le_of_ble_eq_true rfl, Nat.le_of_ble_eq_true rfl⟩) rfl hl.1 rfl (Nat.le_of_ble_eq_true rfl) dX4_amountOf_2 ⟨Nat.zero_le _, Nat.zero_le _⟩ (fun H locs S => ?_)
  refine lv_astore_n (lv' := [(3, .ref (ad (4 + 8 * i))), (0, .ref (ad 0)), (1, .int (nI i)), (2, .int y)]) hx hb dX4_amountOf_5 rfl hl (by decide) rfl (fun ls hl => ?_)
  refine lv_aload_n hx hb dX4_amountOf_6 rfl (lv_at hl 0 rfl) ?_
  refine r_getr (q := 4 + 8 * i + 3) X S hw3 (ob_S i hi) 1 ⟨rfl, by decide, rfl⟩ rfl (hts (.fieldLink RX4 140 "TermBill$Student" "aid" "LTermBill$Aid;") (by decide +kernel)) dX4_amountOf_7 ?_
  refine lv_iload_n hx hb dX4_amountOf_10 rfl (lv_at hl 3 rfl) ?_
  refine r_V0 X S (c_X0_has l D cA ad _ F i hi y) (ob_A i hi) rfl (cwV 1 hts gX4_amountOf_X0_has rfl rfl rfl (by decide +kernel) ⟨Nat.le_of_ble_eq_true rfl, Nat.le_of_ble_eq_true rfl⟩) rfl hl.1 rfl (Nat.le_of_ble_eq_true rfl) dX4_amountOf_11 ⟨Nat.zero_le _, Nat.zero_le _⟩ (fun H locs S => ?_)
  refine lv_if_ne (tgt := 27) hx hb dX4_amountOf_14 (by decide) (fun z => False.elim (by rw [h] at z; revert z; decide)) (fun _ => ?_)
  exact r_throw X S hst hno (is := 209) (text := "no such award") hl.1 (by decide +kernel) (hts (.classLink RX4 116 "java/lang/IndexOutOfBoundsException") (by decide +kernel)) (hts (.initialized "java/lang/IndexOutOfBoundsException") (by decide +kernel)) (by decide +kernel) (hat120 hE.2.2.2.2 hts (fun w h => List.mem_cons_of_mem _ (by first | exact List.mem_append_right _ h | exact List.mem_append_left _ (List.mem_append_right _ h) | exact List.mem_append_left _ (List.mem_append_left _ (List.mem_append_right _ h))))) hgd120 dX4_amountOf_17 dX4_amountOf_20 dX4_amountOf_21 dX4_amountOf_23 dX4_amountOf_26 ⟨Nat.le_of_ble_eq_true rfl, Nat.le_of_ble_eq_true rfl, Nat.le_of_ble_eq_true rfl, Nat.le_of_ble_eq_true rfl⟩ (Nat.le_refl _) (Nat.le_refl _) rfl

set_option maxHeartbeats 1000000 in
set_option maxRecDepth 100000 in
theorem c_X4_paid (l : Launch) (D : va_G) (cA : Nat → ClassId) (ad : Nat → Nat) (sz : Nat) (F : FF) (i : Nat) (hi : i < 4) : CI l D cA ad sz yX4_paid wsX4_paid 1 22 0 0 [.ref (ad 0), .int (nI i)] F (some (.int (F (4 + 8 * i) 10))) F := by
  refine CI_of (own := RX4) (cc := cX4_paid) (maxL := 2) (ret := (some .int)) (by decide +kernel) rfl rfl (Nat.le_of_ble_eq_true rfl) ?_
  intro p e s m below meth c ls X S hr hl
  obtain ⟨⟨hx, hb, hml, hown, hts⟩, hE, hI, hlocks⟩ := id X
  have hl : lv_has ls 2 [(0, .ref (ad 0)), (1, .int (nI i))] := hl
  have hw3 : ∀ w ∈ wsX30, w.before _ s = true := fun w h => hts w ((by decide +kernel : ∀ w ∈ wsX30, w ∈ wsX4_paid) w h)
  refine lv_aload_n hx hb dX4_paid_0 rfl (lv_at hl 0 rfl) ?_
  refine lv_iload_n hx hb dX4_paid_1 rfl (lv_at hl 1 rfl) ?_
  refine r_V0 X S (c_X4_studentAt l D cA ad _ F i hi) ob_0 rfl (cwV 1 hts gX4_paid_X4_studentAt rfl rfl rfl (by decide +kernel) ⟨Nat.le_of_ble_eq_true rfl, Nat.le_of_ble_eq_true rfl⟩) rfl hl.1 rfl (Nat.le_of_ble_eq_true rfl) dX4_paid_2 ⟨Nat.zero_le _, Nat.zero_le _⟩ (fun H locs S => ?_)
  refine r_geti X S hw3 (ob_S i hi) 10 ⟨rfl, by decide, rfl⟩ rfl (hts (.fieldLink RX4 153 "TermBill$Student" "paidSum" "I") (by decide +kernel)) dX4_paid_5 ?_
  exact r_iret X S hr dX4_paid_8 (Nat.le_of_ble_eq_true rfl) (Nat.le_of_ble_eq_true rfl) rfl rfl

set_option maxHeartbeats 1000000 in
set_option maxRecDepth 100000 in
theorem x1_X4_paid (l : Launch) (hst : l.stackTraces = false) (D : va_G) (cA : Nat → ClassId) (ad : Nat → Nat) (sz : Nat) (F : FF) (x : Int32) (h : wi x 0 3 = false) : CX l D cA ad sz yX4_paid wsX4_paid 7 112 [.ref (ad 0), .int x] F "java/lang/IndexOutOfBoundsException" F := by
  refine CX_of (own := RX4) (cc := cX4_paid) (maxL := 2) (ret := (some .int)) (by decide +kernel) rfl rfl (Nat.le_of_ble_eq_true rfl) ?_
  intro p e s m below meth c ls X S hno hl
  obtain ⟨⟨hx, hb, hml, hown, hts⟩, hE, hI, hlocks⟩ := id X
  have hl : lv_has ls 2 [(0, .ref (ad 0)), (1, .int x)] := hl
  refine lv_aload_n hx hb dX4_paid_0 rfl (lv_at hl 0 rfl) ?_
  refine lv_iload_n hx hb dX4_paid_1 rfl (lv_at hl 1 rfl) ?_
  refine r_VX X S (x_X4_studentAt l hst D cA ad _ F x h) ob_0 rfl (cwV 1 hts gX4_paid_X4_studentAt rfl rfl rfl (by decide +kernel) ⟨Nat.le_of_ble_eq_true rfl, Nat.le_of_ble_eq_true rfl⟩) rfl hl.1 rfl (Nat.le_of_ble_eq_true rfl) dX4_paid_2 ⟨Nat.le_of_ble_eq_true rfl, Nat.le_of_ble_eq_true rfl⟩ (fun ce q9 H locs S h1 h2 h3 => ?_)
  exact r_out X S hno h1 h2 h3 (Nat.le_refl _) (Nat.le_refl _) rfl

set_option maxHeartbeats 1000000 in
set_option maxRecDepth 100000 in
theorem c_X4_owed (l : Launch) (D : va_G) (cA : Nat → ClassId) (ad : Nat → Nat) (sz : Nat) (F : FF) (i : Nat) (hi : i < 4) : CI l D cA ad sz yX4_owed wsX4_owed 5 110 0 0 [.ref (ad 0), .int (nI i)] F (some (.int (balV F i))) (balF F i) := by
  refine CI_of (own := RX4) (cc := cX4_owed) (maxL := 2) (ret := (some .int)) (by decide +kernel) rfl rfl (Nat.le_of_ble_eq_true rfl) ?_
  intro p e s m below meth c ls X S hr hl
  obtain ⟨⟨hx, hb, hml, hown, hts⟩, hE, hI, hlocks⟩ := id X
  have hl : lv_has ls 2 [(0, .ref (ad 0)), (1, .int (nI i))] := hl
  refine lv_aload_n hx hb dX4_owed_0 rfl (lv_at hl 0 rfl) ?_
  refine lv_aload_n hx hb dX4_owed_1 rfl (lv_at hl 0 rfl) ?_
  refine lv_iload_n hx hb dX4_owed_2 rfl (lv_at hl 1 rfl) ?_
  refine r_V0 X S (c_X4_studentAt l D cA ad _ F i hi) ob_0 rfl (cwV 1 hts gX4_owed_X4_studentAt rfl rfl rfl (by decide +kernel) ⟨Nat.le_of_ble_eq_true rfl, Nat.le_of_ble_eq_true rfl⟩) rfl hl.1 rfl (Nat.le_of_ble_eq_true rfl) dX4_owed_3 ⟨Nat.zero_le _, Nat.zero_le _⟩ (fun H locs S => ?_)
  refine r_V0 X S (c_X4_balanceOf l D cA ad _ F i hi) ob_0 rfl (cwV 1 hts gX4_owed_X4_balanceOf rfl rfl rfl (by decide +kernel) ⟨Nat.le_of_ble_eq_true rfl, Nat.le_of_ble_eq_true rfl⟩) rfl hl.1 rfl (Nat.le_of_ble_eq_true rfl) dX4_owed_6 ⟨Nat.zero_le _, Nat.zero_le _⟩ (fun H locs S => ?_)
  obtain ⟨F_1, eF_1⟩ : ∃ z, z = balF F i := ⟨_, rfl⟩
  rw [← eF_1] at S
  exact r_iret X S hr dX4_owed_9 (Nat.le_of_ble_eq_true rfl) (Nat.le_of_ble_eq_true rfl) (by rfl) (by simp only [eF_1])

set_option maxHeartbeats 1000000 in
set_option maxRecDepth 100000 in
theorem x1_X4_owed (l : Launch) (hst : l.stackTraces = false) (D : va_G) (cA : Nat → ClassId) (ad : Nat → Nat) (sz : Nat) (F : FF) (x : Int32) (h : wi x 0 3 = false) : CX l D cA ad sz yX4_owed wsX4_owed 7 112 [.ref (ad 0), .int x] F "java/lang/IndexOutOfBoundsException" F := by
  refine CX_of (own := RX4) (cc := cX4_owed) (maxL := 2) (ret := (some .int)) (by decide +kernel) rfl rfl (Nat.le_of_ble_eq_true rfl) ?_
  intro p e s m below meth c ls X S hno hl
  obtain ⟨⟨hx, hb, hml, hown, hts⟩, hE, hI, hlocks⟩ := id X
  have hl : lv_has ls 2 [(0, .ref (ad 0)), (1, .int x)] := hl
  refine lv_aload_n hx hb dX4_owed_0 rfl (lv_at hl 0 rfl) ?_
  refine lv_aload_n hx hb dX4_owed_1 rfl (lv_at hl 0 rfl) ?_
  refine lv_iload_n hx hb dX4_owed_2 rfl (lv_at hl 1 rfl) ?_
  refine r_VX X S (x_X4_studentAt l hst D cA ad _ F x h) ob_0 rfl (cwV 1 hts gX4_owed_X4_studentAt rfl rfl rfl (by decide +kernel) ⟨Nat.le_of_ble_eq_true rfl, Nat.le_of_ble_eq_true rfl⟩) rfl hl.1 rfl (Nat.le_of_ble_eq_true rfl) dX4_owed_3 ⟨Nat.le_of_ble_eq_true rfl, Nat.le_of_ble_eq_true rfl⟩ (fun ce q9 H locs S h1 h2 h3 => ?_)
  exact r_out X S hno h1 h2 h3 (Nat.le_refl _) (Nat.le_refl _) rfl

set_option maxHeartbeats 1000000 in
set_option maxRecDepth 100000 in
theorem c_X4_hasHold (l : Launch) (D : va_G) (cA : Nat → ClassId) (ad : Nat → Nat) (sz : Nat) (F : FF) (i : Nat) (hi : i < 4) : CI l D cA ad sz yX4_hasHold wsX4_hasHold 5 110 0 0 [.ref (ad 0), .int (nI i)] F (some (.int (bI (!decide (balV F i ≤ balF F i 0 6))))) (balF F i) := by
  refine CI_of (own := RX4) (cc := cX4_hasHold) (maxL := 2) (ret := (some .boolean)) (by decide +kernel) rfl rfl (Nat.le_of_ble_eq_true rfl) ?_
  intro p e s m below meth c ls X S hr hl
  obtain ⟨⟨hx, hb, hml, hown, hts⟩, hE, hI, hlocks⟩ := id X
  have hl : lv_has ls 2 [(0, .ref (ad 0)), (1, .int (nI i))] := hl
  have hw4 : ∀ w ∈ wsX40, w.before _ s = true := fun w h => hts w ((by decide +kernel : ∀ w ∈ wsX40, w ∈ wsX4_hasHold) w h)
  refine lv_aload_n hx hb dX4_hasHold_0 rfl (lv_at hl 0 rfl) ?_
  refine lv_aload_n hx hb dX4_hasHold_1 rfl (lv_at hl 0 rfl) ?_
  refine lv_iload_n hx hb dX4_hasHold_2 rfl (lv_at hl 1 rfl) ?_
  refine r_V0 X S (c_X4_studentAt l D cA ad _ F i hi) ob_0 rfl (cwV 1 hts gX4_hasHold_X4_studentAt rfl rfl rfl (by decide +kernel) ⟨Nat.le_of_ble_eq_true rfl, Nat.le_of_ble_eq_true rfl⟩) rfl hl.1 rfl (Nat.le_of_ble_eq_true rfl) dX4_hasHold_3 ⟨Nat.zero_le _, Nat.zero_le _⟩ (fun H locs S => ?_)
  refine r_V0 X S (c_X4_balanceOf l D cA ad _ F i hi) ob_0 rfl (cwV 1 hts gX4_hasHold_X4_balanceOf rfl rfl rfl (by decide +kernel) ⟨Nat.le_of_ble_eq_true rfl, Nat.le_of_ble_eq_true rfl⟩) rfl hl.1 rfl (Nat.le_of_ble_eq_true rfl) dX4_hasHold_6 ⟨Nat.zero_le _, Nat.zero_le _⟩ (fun H locs S => ?_)
  obtain ⟨F_1, eF_1⟩ : ∃ z, z = balF F i := ⟨_, rfl⟩
  rw [← eF_1] at S
  refine lv_aload_n hx hb dX4_hasHold_9 rfl (lv_at hl 0 rfl) ?_
  refine r_geti X S hw4 ob_0 6 ⟨rfl, by decide, rfl⟩ rfl (hts (.fieldLink RX4 32 "TermBill" "holdLimit" "I") (by decide +kernel)) dX4_hasHold_10 ?_
  refine lv_icmp_le (tgt := 20) hx hb dX4_hasHold_13 (by decide) (fun c_2 => ?_) (fun c_2 => ?_)
  · refine lv_iconst (v := 0) hx hb dX4_hasHold_20 (by decide) ?_
    exact r_zret X S hr rfl dX4_hasHold_21 (Nat.le_of_ble_eq_true rfl) (Nat.le_of_ble_eq_true rfl) (by rw [eF_1] at c_2; simp only [c_2, decide_true, decide_false, Bool.not_true, Bool.not_false]; rfl) eF_1
  · refine lv_iconst (v := 1) hx hb dX4_hasHold_16 (by decide) ?_
    refine lv_goto (tgt := 21) hx hb dX4_hasHold_17 (by decide) ?_
    exact r_zret X S hr rfl dX4_hasHold_21 (Nat.le_of_ble_eq_true rfl) (Nat.le_of_ble_eq_true rfl) (by rw [eF_1] at c_2; simp only [c_2, decide_true, decide_false, Bool.not_true, Bool.not_false]; rfl) eF_1

set_option maxHeartbeats 1000000 in
set_option maxRecDepth 100000 in
theorem x1_X4_hasHold (l : Launch) (hst : l.stackTraces = false) (D : va_G) (cA : Nat → ClassId) (ad : Nat → Nat) (sz : Nat) (F : FF) (x : Int32) (h : wi x 0 3 = false) : CX l D cA ad sz yX4_hasHold wsX4_hasHold 7 112 [.ref (ad 0), .int x] F "java/lang/IndexOutOfBoundsException" F := by
  refine CX_of (own := RX4) (cc := cX4_hasHold) (maxL := 2) (ret := (some .boolean)) (by decide +kernel) rfl rfl (Nat.le_of_ble_eq_true rfl) ?_
  intro p e s m below meth c ls X S hno hl
  obtain ⟨⟨hx, hb, hml, hown, hts⟩, hE, hI, hlocks⟩ := id X
  have hl : lv_has ls 2 [(0, .ref (ad 0)), (1, .int x)] := hl
  refine lv_aload_n hx hb dX4_hasHold_0 rfl (lv_at hl 0 rfl) ?_
  refine lv_aload_n hx hb dX4_hasHold_1 rfl (lv_at hl 0 rfl) ?_
  refine lv_iload_n hx hb dX4_hasHold_2 rfl (lv_at hl 1 rfl) ?_
  refine r_VX X S (x_X4_studentAt l hst D cA ad _ F x h) ob_0 rfl (cwV 1 hts gX4_hasHold_X4_studentAt rfl rfl rfl (by decide +kernel) ⟨Nat.le_of_ble_eq_true rfl, Nat.le_of_ble_eq_true rfl⟩) rfl hl.1 rfl (Nat.le_of_ble_eq_true rfl) dX4_hasHold_3 ⟨Nat.le_of_ble_eq_true rfl, Nat.le_of_ble_eq_true rfl⟩ (fun ce q9 H locs S h1 h2 h3 => ?_)
  exact r_out X S hno h1 h2 h3 (Nat.le_refl _) (Nat.le_refl _) rfl
