set_option maxHeartbeats 1000000 in
set_option maxRecDepth 100000 in
theorem w_sets_setBand (l : Launch) (D : va_G) (cA : Nat → ClassId) (ad : Nat → Nat) (sz : Nat) (F : FF) (fr tt : Int32) (h1 : wi fr 1 30 = true) (h2 : wi tt fr 30 = true) (c4 : Int32) : CI l D cA ad sz yL_sets wsL_sets 2 47 0 0 [.ref (ad 0), .int 1, .int fr, .int tt, .int c4] F (some (.int 0)) (u2 (u2 F 0 3 fr) 0 4 tt) := by
  refine CI_of (own := RL) (cc := cL_sets) (maxL := 5) (ret := (some .int)) (by decide +kernel) rfl rfl (Nat.le_of_ble_eq_true rfl) ?_
  intro p e s m below meth c ls X S hr hl
  obtain ⟨⟨hx, hb, hml, hown, hts⟩, hE, hI, hlocks⟩ := id X
  have hl : lv_has ls 5 [(0, .ref (ad 0)), (1, .int 1), (2, .int fr), (3, .int tt), (4, .int c4)] := hl
  refine lv_iload_n hx hb dL_sets_0 rfl (lv_at hl 1 rfl) ?_
  refine lv_iconst (v := 1) hx hb dL_sets_1 (by decide) ?_
  refine lv_icmp_ne (tgt := 14) hx hb dL_sets_2 (by decide) (fun z => False.elim (by first | exact absurd z (by decide) | exact absurd (by decide) z)) (fun _ => ?_)
  refine lv_aload_n hx hb dL_sets_5 rfl (lv_at hl 0 rfl) ?_
  refine lv_iload_n hx hb dL_sets_6 rfl (lv_at hl 2 rfl) ?_
  refine lv_iload_n hx hb dL_sets_7 rfl (lv_at hl 3 rfl) ?_
  refine r_V0 X S (c_X4_setBand l D cA ad _ F fr tt h1 h2) ob_0 rfl (cwV 2 hts gL_sets_X4_setBand rfl rfl rfl (by decide +kernel) ⟨Nat.le_of_ble_eq_true rfl, Nat.le_of_ble_eq_true rfl⟩) rfl hl.1 rfl (Nat.le_of_ble_eq_true rfl) dL_sets_8 ⟨Nat.zero_le _, Nat.zero_le _⟩ (fun H locs S => ?_)
  obtain ⟨F_1, eF_1⟩ : ∃ z, z = u2 (u2 F 0 3 fr) 0 4 tt := ⟨_, rfl⟩
  rw [← eF_1] at S
  refine lv_goto (tgt := 67) hx hb dL_sets_11 (by decide) ?_
  refine lv_iconst (v := 0) hx hb dL_sets_67 (by decide) ?_
  exact r_iret X S hr dL_sets_68 (Nat.le_of_ble_eq_true rfl) (Nat.le_of_ble_eq_true rfl) rfl (by rw [eF_1])

set_option maxHeartbeats 1000000 in
set_option maxRecDepth 100000 in
theorem x1_sets_setBand (l : Launch) (hst : l.stackTraces = false) (D : va_G) (cA : Nat → ClassId) (ad : Nat → Nat) (sz : Nat) (F : FF) (fr tt : Int32) (h : ¬ (wi fr 1 30 = true ∧ wi tt fr 30 = true)) (c4 : Int32) : CX l D cA ad sz yL_sets wsL_sets 8 137 [.ref (ad 0), .int 1, .int fr, .int tt, .int c4] F "java/lang/IllegalArgumentException" F := by
  refine CX_of (own := RL) (cc := cL_sets) (maxL := 5) (ret := (some .int)) (by decide +kernel) rfl rfl (Nat.le_of_ble_eq_true rfl) ?_
  intro p e s m below meth c ls X S hno hl
  obtain ⟨⟨hx, hb, hml, hown, hts⟩, hE, hI, hlocks⟩ := id X
  have hl : lv_has ls 5 [(0, .ref (ad 0)), (1, .int 1), (2, .int fr), (3, .int tt), (4, .int c4)] := hl
  refine lv_iload_n hx hb dL_sets_0 rfl (lv_at hl 1 rfl) ?_
  refine lv_iconst (v := 1) hx hb dL_sets_1 (by decide) ?_
  refine lv_icmp_ne (tgt := 14) hx hb dL_sets_2 (by decide) (fun z => False.elim (by first | exact absurd z (by decide) | exact absurd (by decide) z)) (fun _ => ?_)
  refine lv_aload_n hx hb dL_sets_5 rfl (lv_at hl 0 rfl) ?_
  refine lv_iload_n hx hb dL_sets_6 rfl (lv_at hl 2 rfl) ?_
  refine lv_iload_n hx hb dL_sets_7 rfl (lv_at hl 3 rfl) ?_
  refine r_VX X S (x1_X4_setBand l hst D cA ad _ F fr tt h) ob_0 rfl (cwV 2 hts gL_sets_X4_setBand rfl rfl rfl (by decide +kernel) ⟨Nat.le_of_ble_eq_true rfl, Nat.le_of_ble_eq_true rfl⟩) rfl hl.1 rfl (Nat.le_of_ble_eq_true rfl) dL_sets_8 ⟨Nat.le_of_ble_eq_true rfl, Nat.le_of_ble_eq_true rfl⟩ (fun ce q9 H locs S h1 h2 h3 => ?_)
  exact r_out X S hno h1 h2 h3 (Nat.le_refl _) (Nat.le_refl _) rfl

set_option maxHeartbeats 1000000 in
set_option maxRecDepth 100000 in
theorem w_sets_setFees (l : Launch) (D : va_G) (cA : Nat → ClassId) (ad : Nat → Nat) (sz : Nat) (F : FF) (fe lm : Int32) (h1 : wi fe 0 100000 = true) (h2 : wi lm 0 1000000 = true) (c4 : Int32) : CI l D cA ad sz yL_sets wsL_sets 2 47 0 0 [.ref (ad 0), .int 3, .int fe, .int lm, .int c4] F (some (.int 0)) (u2 (u2 F 0 5 fe) 0 6 lm) := by
  refine CI_of (own := RL) (cc := cL_sets) (maxL := 5) (ret := (some .int)) (by decide +kernel) rfl rfl (Nat.le_of_ble_eq_true rfl) ?_
  intro p e s m below meth c ls X S hr hl
  obtain ⟨⟨hx, hb, hml, hown, hts⟩, hE, hI, hlocks⟩ := id X
  have hl : lv_has ls 5 [(0, .ref (ad 0)), (1, .int 3), (2, .int fe), (3, .int lm), (4, .int c4)] := hl
  refine lv_iload_n hx hb dL_sets_0 rfl (lv_at hl 1 rfl) ?_
  refine lv_iconst (v := 1) hx hb dL_sets_1 (by decide) ?_
  refine lv_icmp_ne (tgt := 14) hx hb dL_sets_2 (by decide) (fun _ => ?_) (fun z => False.elim (by first | exact absurd z (by decide) | exact absurd (by decide) z))
  refine lv_iload_n hx hb dL_sets_14 rfl (lv_at hl 1 rfl) ?_
  refine lv_iconst (v := 3) hx hb dL_sets_15 (by decide) ?_
  refine lv_icmp_ne (tgt := 28) hx hb dL_sets_16 (by decide) (fun z => False.elim (by first | exact absurd z (by decide) | exact absurd (by decide) z)) (fun _ => ?_)
  refine lv_aload_n hx hb dL_sets_19 rfl (lv_at hl 0 rfl) ?_
  refine lv_iload_n hx hb dL_sets_20 rfl (lv_at hl 2 rfl) ?_
  refine lv_iload_n hx hb dL_sets_21 rfl (lv_at hl 3 rfl) ?_
  refine r_V0 X S (c_X4_setFees l D cA ad _ F fe lm h1 h2) ob_0 rfl (cwV 2 hts gL_sets_X4_setFees rfl rfl rfl (by decide +kernel) ⟨Nat.le_of_ble_eq_true rfl, Nat.le_of_ble_eq_true rfl⟩) rfl hl.1 rfl (Nat.le_of_ble_eq_true rfl) dL_sets_22 ⟨Nat.zero_le _, Nat.zero_le _⟩ (fun H locs S => ?_)
  obtain ⟨F_1, eF_1⟩ : ∃ z, z = u2 (u2 F 0 5 fe) 0 6 lm := ⟨_, rfl⟩
  rw [← eF_1] at S
  refine lv_goto (tgt := 67) hx hb dL_sets_25 (by decide) ?_
  refine lv_iconst (v := 0) hx hb dL_sets_67 (by decide) ?_
  exact r_iret X S hr dL_sets_68 (Nat.le_of_ble_eq_true rfl) (Nat.le_of_ble_eq_true rfl) rfl (by rw [eF_1])

set_option maxHeartbeats 1000000 in
set_option maxRecDepth 100000 in
theorem x1_sets_setFees (l : Launch) (hst : l.stackTraces = false) (D : va_G) (cA : Nat → ClassId) (ad : Nat → Nat) (sz : Nat) (F : FF) (fe lm : Int32) (h : ¬ (wi fe 0 100000 = true ∧ wi lm 0 1000000 = true)) (c4 : Int32) : CX l D cA ad sz yL_sets wsL_sets 8 137 [.ref (ad 0), .int 3, .int fe, .int lm, .int c4] F "java/lang/IllegalArgumentException" F := by
  refine CX_of (own := RL) (cc := cL_sets) (maxL := 5) (ret := (some .int)) (by decide +kernel) rfl rfl (Nat.le_of_ble_eq_true rfl) ?_
  intro p e s m below meth c ls X S hno hl
  obtain ⟨⟨hx, hb, hml, hown, hts⟩, hE, hI, hlocks⟩ := id X
  have hl : lv_has ls 5 [(0, .ref (ad 0)), (1, .int 3), (2, .int fe), (3, .int lm), (4, .int c4)] := hl
  refine lv_iload_n hx hb dL_sets_0 rfl (lv_at hl 1 rfl) ?_
  refine lv_iconst (v := 1) hx hb dL_sets_1 (by decide) ?_
  refine lv_icmp_ne (tgt := 14) hx hb dL_sets_2 (by decide) (fun _ => ?_) (fun z => False.elim (by first | exact absurd z (by decide) | exact absurd (by decide) z))
  refine lv_iload_n hx hb dL_sets_14 rfl (lv_at hl 1 rfl) ?_
  refine lv_iconst (v := 3) hx hb dL_sets_15 (by decide) ?_
  refine lv_icmp_ne (tgt := 28) hx hb dL_sets_16 (by decide) (fun z => False.elim (by first | exact absurd z (by decide) | exact absurd (by decide) z)) (fun _ => ?_)
  refine lv_aload_n hx hb dL_sets_19 rfl (lv_at hl 0 rfl) ?_
  refine lv_iload_n hx hb dL_sets_20 rfl (lv_at hl 2 rfl) ?_
  refine lv_iload_n hx hb dL_sets_21 rfl (lv_at hl 3 rfl) ?_
  refine r_VX X S (x1_X4_setFees l hst D cA ad _ F fe lm h) ob_0 rfl (cwV 2 hts gL_sets_X4_setFees rfl rfl rfl (by decide +kernel) ⟨Nat.le_of_ble_eq_true rfl, Nat.le_of_ble_eq_true rfl⟩) rfl hl.1 rfl (Nat.le_of_ble_eq_true rfl) dL_sets_22 ⟨Nat.le_of_ble_eq_true rfl, Nat.le_of_ble_eq_true rfl⟩ (fun ce q9 H locs S h1 h2 h3 => ?_)
  exact r_out X S hno h1 h2 h3 (Nat.le_refl _) (Nat.le_refl _) rfl

set_option maxHeartbeats 1000000 in
set_option maxRecDepth 100000 in
theorem w_sets_setStudent (l : Launch) (D : va_G) (cA : Nat → ClassId) (ad : Nat → Nat) (sz : Nat) (F : FF) (b4 c4 : Int32) (hc : c4 < 0) (i : Nat) (hi : i < 4) (h1 : wi (b4 &&& 1) 0 1 = true) (h2 : wi (-1 - c4) 0 1000000 = true) : CI l D cA ad sz yL_sets wsL_sets 2 47 0 0 [.ref (ad 0), .int 4, .int (nI i), .int b4, .int c4] F (some (.int 0)) (u2 (u2 (u2 F (4 + 8 * i) 3 (b4 &&& 1)) (4 + 8 * i) 4 (bI (decide (b4 &&& 2 = 0)))) (4 + 8 * i) 5 (-1 - c4)) := by
  refine CI_of (own := RL) (cc := cL_sets) (maxL := 5) (ret := (some .int)) (by decide +kernel) rfl rfl (Nat.le_of_ble_eq_true rfl) ?_
  intro p e s m below meth c ls X S hr hl
  obtain ⟨⟨hx, hb, hml, hown, hts⟩, hE, hI, hlocks⟩ := id X
  have hl : lv_has ls 5 [(0, .ref (ad 0)), (1, .int 4), (2, .int (nI i)), (3, .int b4), (4, .int c4)] := hl
  refine lv_iload_n hx hb dL_sets_0 rfl (lv_at hl 1 rfl) ?_
  refine lv_iconst (v := 1) hx hb dL_sets_1 (by decide) ?_
  refine lv_icmp_ne (tgt := 14) hx hb dL_sets_2 (by decide) (fun _ => ?_) (fun z => False.elim (by first | exact absurd z (by decide) | exact absurd (by decide) z))
  refine lv_iload_n hx hb dL_sets_14 rfl (lv_at hl 1 rfl) ?_
  refine lv_iconst (v := 3) hx hb dL_sets_15 (by decide) ?_
  refine lv_icmp_ne (tgt := 28) hx hb dL_sets_16 (by decide) (fun _ => ?_) (fun z => False.elim (by first | exact absurd z (by decide) | exact absurd (by decide) z))
  refine lv_iload hx hb dL_sets_28 (lv_at hl 4 rfl) ?_
  refine lv_if_ge (tgt := 59) hx hb dL_sets_30 (by decide) (fun z => False.elim (Int32.not_le.mpr hc z)) (fun _ => ?_)
  refine lv_aload_n hx hb dL_sets_33 rfl (lv_at hl 0 rfl) ?_
  refine lv_iload_n hx hb dL_sets_34 rfl (lv_at hl 2 rfl) ?_
  refine lv_iload_n hx hb dL_sets_35 rfl (lv_at hl 3 rfl) ?_
  refine lv_iconst (v := 1) hx hb dL_sets_36 (by decide) ?_
  refine lv_iand hx hb dL_sets_37 ?_
  refine lv_iload_n hx hb dL_sets_38 rfl (lv_at hl 3 rfl) ?_
  refine lv_iconst (v := 2) hx hb dL_sets_39 (by decide) ?_
  refine lv_iand hx hb dL_sets_40 ?_
  refine lv_if_ne (tgt := 48) hx hb dL_sets_41 (by decide) (fun c_1 => ?_) (fun c_1 => ?_)
  · refine lv_iconst (v := 0) hx hb dL_sets_48 (by decide) ?_
    refine lv_topi (fun x_2 ex_2 => ?_)
    obtain rfl : x_2 = bI (decide (b4 &&& 2 = 0)) := ex_2.trans (by rw [decide_eq_false (p := b4 &&& 2 = 0) c_1]; rfl)
    refine lv_iconst (v := -1) hx hb dL_sets_49 (by decide) ?_
    refine lv_iload hx hb dL_sets_50 (lv_at hl 4 rfl) ?_
    refine lv_isub hx hb dL_sets_52 ?_
    refine r_V0 X S (c_X4_setStudent l D cA ad _ F i hi (b4 &&& 1) (decide (b4 &&& 2 = 0)) (-1 - c4) h1 h2) ob_0 rfl (cwV 4 hts gL_sets_X4_setStudent rfl rfl rfl (by decide +kernel) ⟨Nat.le_of_ble_eq_true rfl, Nat.le_of_ble_eq_true rfl⟩) rfl hl.1 rfl (Nat.le_of_ble_eq_true rfl) dL_sets_53 ⟨Nat.zero_le _, Nat.zero_le _⟩ (fun H locs S => ?_)
    obtain ⟨F_3, eF_3⟩ : ∃ z, z = u2 (u2 (u2 F (4 + 8 * i) 3 (b4 &&& 1)) (4 + 8 * i) 4 (bI (decide (b4 &&& 2 = 0)))) (4 + 8 * i) 5 (-1 - c4) := ⟨_, rfl⟩
    rw [← eF_3] at S
    refine lv_goto (tgt := 67) hx hb dL_sets_56 (by decide) ?_
    refine lv_iconst (v := 0) hx hb dL_sets_67 (by decide) ?_
    exact r_iret X S hr dL_sets_68 (Nat.le_of_ble_eq_true rfl) (Nat.le_of_ble_eq_true rfl) rfl (by rw [eF_3])
  · refine lv_iconst (v := 1) hx hb dL_sets_44 (by decide) ?_
    refine lv_goto (tgt := 49) hx hb dL_sets_45 (by decide) ?_
    refine lv_topi (fun x_4 ex_4 => ?_)
    obtain rfl : x_4 = bI (decide (b4 &&& 2 = 0)) := ex_4.trans (by rw [decide_eq_true (p := b4 &&& 2 = 0) c_1]; rfl)
    refine lv_iconst (v := -1) hx hb dL_sets_49 (by decide) ?_
    refine lv_iload hx hb dL_sets_50 (lv_at hl 4 rfl) ?_
    refine lv_isub hx hb dL_sets_52 ?_
    refine r_V0 X S (c_X4_setStudent l D cA ad _ F i hi (b4 &&& 1) (decide (b4 &&& 2 = 0)) (-1 - c4) h1 h2) ob_0 rfl (cwV 4 hts gL_sets_X4_setStudent rfl rfl rfl (by decide +kernel) ⟨Nat.le_of_ble_eq_true rfl, Nat.le_of_ble_eq_true rfl⟩) rfl hl.1 rfl (Nat.le_of_ble_eq_true rfl) dL_sets_53 ⟨Nat.zero_le _, Nat.zero_le _⟩ (fun H locs S => ?_)
    obtain ⟨F_5, eF_5⟩ : ∃ z, z = u2 (u2 (u2 F (4 + 8 * i) 3 (b4 &&& 1)) (4 + 8 * i) 4 (bI (decide (b4 &&& 2 = 0)))) (4 + 8 * i) 5 (-1 - c4) := ⟨_, rfl⟩
    rw [← eF_5] at S
    refine lv_goto (tgt := 67) hx hb dL_sets_56 (by decide) ?_
    refine lv_iconst (v := 0) hx hb dL_sets_67 (by decide) ?_
    exact r_iret X S hr dL_sets_68 (Nat.le_of_ble_eq_true rfl) (Nat.le_of_ble_eq_true rfl) rfl (by rw [eF_5])

set_option maxHeartbeats 1000000 in
set_option maxRecDepth 100000 in
theorem x1_sets_setStudent (l : Launch) (hst : l.stackTraces = false) (D : va_G) (cA : Nat → ClassId) (ad : Nat → Nat) (sz : Nat) (F : FF) (b4 c4 : Int32) (hc : c4 < 0) (x : Int32) (h : wi x 0 3 = false) : CX l D cA ad sz yL_sets wsL_sets 8 137 [.ref (ad 0), .int 4, .int x, .int b4, .int c4] F "java/lang/IndexOutOfBoundsException" F := by
  refine CX_of (own := RL) (cc := cL_sets) (maxL := 5) (ret := (some .int)) (by decide +kernel) rfl rfl (Nat.le_of_ble_eq_true rfl) ?_
  intro p e s m below meth c ls X S hno hl
  obtain ⟨⟨hx, hb, hml, hown, hts⟩, hE, hI, hlocks⟩ := id X
  have hl : lv_has ls 5 [(0, .ref (ad 0)), (1, .int 4), (2, .int x), (3, .int b4), (4, .int c4)] := hl
  refine lv_iload_n hx hb dL_sets_0 rfl (lv_at hl 1 rfl) ?_
  refine lv_iconst (v := 1) hx hb dL_sets_1 (by decide) ?_
  refine lv_icmp_ne (tgt := 14) hx hb dL_sets_2 (by decide) (fun _ => ?_) (fun z => False.elim (by first | exact absurd z (by decide) | exact absurd (by decide) z))
  refine lv_iload_n hx hb dL_sets_14 rfl (lv_at hl 1 rfl) ?_
  refine lv_iconst (v := 3) hx hb dL_sets_15 (by decide) ?_
  refine lv_icmp_ne (tgt := 28) hx hb dL_sets_16 (by decide) (fun _ => ?_) (fun z => False.elim (by first | exact absurd z (by decide) | exact absurd (by decide) z))
  refine lv_iload hx hb dL_sets_28 (lv_at hl 4 rfl) ?_
  refine lv_if_ge (tgt := 59) hx hb dL_sets_30 (by decide) (fun z => False.elim (Int32.not_le.mpr hc z)) (fun _ => ?_)
  refine lv_aload_n hx hb dL_sets_33 rfl (lv_at hl 0 rfl) ?_
  refine lv_iload_n hx hb dL_sets_34 rfl (lv_at hl 2 rfl) ?_
  refine lv_iload_n hx hb dL_sets_35 rfl (lv_at hl 3 rfl) ?_
  refine lv_iconst (v := 1) hx hb dL_sets_36 (by decide) ?_
  refine lv_iand hx hb dL_sets_37 ?_
  refine lv_iload_n hx hb dL_sets_38 rfl (lv_at hl 3 rfl) ?_
  refine lv_iconst (v := 2) hx hb dL_sets_39 (by decide) ?_
  refine lv_iand hx hb dL_sets_40 ?_
  refine lv_if_ne (tgt := 48) hx hb dL_sets_41 (by decide) (fun c_1 => ?_) (fun c_1 => ?_)
  · refine lv_iconst (v := 0) hx hb dL_sets_48 (by decide) ?_
    refine lv_topi (fun x_2 ex_2 => ?_)
    obtain rfl : x_2 = bI (decide (b4 &&& 2 = 0)) := ex_2.trans (by rw [decide_eq_false (p := b4 &&& 2 = 0) c_1]; rfl)
    refine lv_iconst (v := -1) hx hb dL_sets_49 (by decide) ?_
    refine lv_iload hx hb dL_sets_50 (lv_at hl 4 rfl) ?_
    refine lv_isub hx hb dL_sets_52 ?_
    refine r_VX X S (x1_X4_setStudent l hst D cA ad _ F x (b4 &&& 1) (decide (b4 &&& 2 = 0)) (-1 - c4) h) ob_0 rfl (cwV 4 hts gL_sets_X4_setStudent rfl rfl rfl (by decide +kernel) ⟨Nat.le_of_ble_eq_true rfl, Nat.le_of_ble_eq_true rfl⟩) rfl hl.1 rfl (Nat.le_of_ble_eq_true rfl) dL_sets_53 ⟨Nat.le_of_ble_eq_true rfl, Nat.le_of_ble_eq_true rfl⟩ (fun ce q9 H locs S h1 h2 h3 => ?_)
    exact r_out X S hno h1 h2 h3 (Nat.le_refl _) (Nat.le_refl _) rfl
  · refine lv_iconst (v := 1) hx hb dL_sets_44 (by decide) ?_
    refine lv_goto (tgt := 49) hx hb dL_sets_45 (by decide) ?_
    refine lv_topi (fun x_3 ex_3 => ?_)
    obtain rfl : x_3 = bI (decide (b4 &&& 2 = 0)) := ex_3.trans (by rw [decide_eq_true (p := b4 &&& 2 = 0) c_1]; rfl)
    refine lv_iconst (v := -1) hx hb dL_sets_49 (by decide) ?_
    refine lv_iload hx hb dL_sets_50 (lv_at hl 4 rfl) ?_
    refine lv_isub hx hb dL_sets_52 ?_
    refine r_VX X S (x1_X4_setStudent l hst D cA ad _ F x (b4 &&& 1) (decide (b4 &&& 2 = 0)) (-1 - c4) h) ob_0 rfl (cwV 4 hts gL_sets_X4_setStudent rfl rfl rfl (by decide +kernel) ⟨Nat.le_of_ble_eq_true rfl, Nat.le_of_ble_eq_true rfl⟩) rfl hl.1 rfl (Nat.le_of_ble_eq_true rfl) dL_sets_53 ⟨Nat.le_of_ble_eq_true rfl, Nat.le_of_ble_eq_true rfl⟩ (fun ce q9 H locs S h1 h2 h3 => ?_)
    exact r_out X S hno h1 h2 h3 (Nat.le_refl _) (Nat.le_refl _) rfl

set_option maxHeartbeats 1000000 in
set_option maxRecDepth 100000 in
theorem x2_sets_setStudent (l : Launch) (hst : l.stackTraces = false) (D : va_G) (cA : Nat → ClassId) (ad : Nat → Nat) (sz : Nat) (F : FF) (b4 c4 : Int32) (hc : c4 < 0) (i : Nat) (hi : i < 4) (h : ¬ (wi (b4 &&& 1) 0 1 = true ∧ wi (-1 - c4) 0 1000000 = true)) : CX l D cA ad sz yL_sets wsL_sets 8 137 [.ref (ad 0), .int 4, .int (nI i), .int b4, .int c4] F "java/lang/IllegalArgumentException" F := by
  refine CX_of (own := RL) (cc := cL_sets) (maxL := 5) (ret := (some .int)) (by decide +kernel) rfl rfl (Nat.le_of_ble_eq_true rfl) ?_
  intro p e s m below meth c ls X S hno hl
  obtain ⟨⟨hx, hb, hml, hown, hts⟩, hE, hI, hlocks⟩ := id X
  have hl : lv_has ls 5 [(0, .ref (ad 0)), (1, .int 4), (2, .int (nI i)), (3, .int b4), (4, .int c4)] := hl
  refine lv_iload_n hx hb dL_sets_0 rfl (lv_at hl 1 rfl) ?_
  refine lv_iconst (v := 1) hx hb dL_sets_1 (by decide) ?_
  refine lv_icmp_ne (tgt := 14) hx hb dL_sets_2 (by decide) (fun _ => ?_) (fun z => False.elim (by first | exact absurd z (by decide) | exact absurd (by decide) z))
  refine lv_iload_n hx hb dL_sets_14 rfl (lv_at hl 1 rfl) ?_
  refine lv_iconst (v := 3) hx hb dL_sets_15 (by decide) ?_
  refine lv_icmp_ne (tgt := 28) hx hb dL_sets_16 (by decide) (fun _ => ?_) (fun z => False.elim (by first | exact absurd z (by decide) | exact absurd (by decide) z))
  refine lv_iload hx hb dL_sets_28 (lv_at hl 4 rfl) ?_
  refine lv_if_ge (tgt := 59) hx hb dL_sets_30 (by decide) (fun z => False.elim (Int32.not_le.mpr hc z)) (fun _ => ?_)
  refine lv_aload_n hx hb dL_sets_33 rfl (lv_at hl 0 rfl) ?_
  refine lv_iload_n hx hb dL_sets_34 rfl (lv_at hl 2 rfl) ?_
  refine lv_iload_n hx hb dL_sets_35 rfl (lv_at hl 3 rfl) ?_
  refine lv_iconst (v := 1) hx hb dL_sets_36 (by decide) ?_
  refine lv_iand hx hb dL_sets_37 ?_
  refine lv_iload_n hx hb dL_sets_38 rfl (lv_at hl 3 rfl) ?_
  refine lv_iconst (v := 2) hx hb dL_sets_39 (by decide) ?_
  refine lv_iand hx hb dL_sets_40 ?_
  refine lv_if_ne (tgt := 48) hx hb dL_sets_41 (by decide) (fun c_1 => ?_) (fun c_1 => ?_)
  · refine lv_iconst (v := 0) hx hb dL_sets_48 (by decide) ?_
    refine lv_topi (fun x_2 ex_2 => ?_)
    obtain rfl : x_2 = bI (decide (b4 &&& 2 = 0)) := ex_2.trans (by rw [decide_eq_false (p := b4 &&& 2 = 0) c_1]; rfl)
    refine lv_iconst (v := -1) hx hb dL_sets_49 (by decide) ?_
    refine lv_iload hx hb dL_sets_50 (lv_at hl 4 rfl) ?_
    refine lv_isub hx hb dL_sets_52 ?_
    refine r_VX X S (x2_X4_setStudent l hst D cA ad _ F i hi (b4 &&& 1) (decide (b4 &&& 2 = 0)) (-1 - c4) h) ob_0 rfl (cwV 4 hts gL_sets_X4_setStudent rfl rfl rfl (by decide +kernel) ⟨Nat.le_of_ble_eq_true rfl, Nat.le_of_ble_eq_true rfl⟩) rfl hl.1 rfl (Nat.le_of_ble_eq_true rfl) dL_sets_53 ⟨Nat.le_of_ble_eq_true rfl, Nat.le_of_ble_eq_true rfl⟩ (fun ce q9 H locs S h1 h2 h3 => ?_)
    exact r_out X S hno h1 h2 h3 (Nat.le_refl _) (Nat.le_refl _) rfl
  · refine lv_iconst (v := 1) hx hb dL_sets_44 (by decide) ?_
    refine lv_goto (tgt := 49) hx hb dL_sets_45 (by decide) ?_
    refine lv_topi (fun x_3 ex_3 => ?_)
    obtain rfl : x_3 = bI (decide (b4 &&& 2 = 0)) := ex_3.trans (by rw [decide_eq_true (p := b4 &&& 2 = 0) c_1]; rfl)
    refine lv_iconst (v := -1) hx hb dL_sets_49 (by decide) ?_
    refine lv_iload hx hb dL_sets_50 (lv_at hl 4 rfl) ?_
    refine lv_isub hx hb dL_sets_52 ?_
    refine r_VX X S (x2_X4_setStudent l hst D cA ad _ F i hi (b4 &&& 1) (decide (b4 &&& 2 = 0)) (-1 - c4) h) ob_0 rfl (cwV 4 hts gL_sets_X4_setStudent rfl rfl rfl (by decide +kernel) ⟨Nat.le_of_ble_eq_true rfl, Nat.le_of_ble_eq_true rfl⟩) rfl hl.1 rfl (Nat.le_of_ble_eq_true rfl) dL_sets_53 ⟨Nat.le_of_ble_eq_true rfl, Nat.le_of_ble_eq_true rfl⟩ (fun ce q9 H locs S h1 h2 h3 => ?_)
    exact r_out X S hno h1 h2 h3 (Nat.le_refl _) (Nat.le_refl _) rfl

set_option maxHeartbeats 1000000 in
set_option maxRecDepth 100000 in
theorem w_sets_setSponsor (l : Launch) (D : va_G) (cA : Nat → ClassId) (ad : Nat → Nat) (sz : Nat) (F : FF) (i : Nat) (hi : i < 4) (ks lm : Int32) (h1 : wi ks 0 7 = true) (h2 : wi lm 0 1000000 = true) (hc : ¬ lm < 0) : CI l D cA ad sz yL_sets wsL_sets 2 47 0 0 [.ref (ad 0), .int 4, .int (nI i), .int ks, .int lm] F (some (.int 0)) (u2 (u2 F (4 + 8 * i) 8 ks) (4 + 8 * i) 9 lm) := by
  refine CI_of (own := RL) (cc := cL_sets) (maxL := 5) (ret := (some .int)) (by decide +kernel) rfl rfl (Nat.le_of_ble_eq_true rfl) ?_
  intro p e s m below meth c ls X S hr hl
  obtain ⟨⟨hx, hb, hml, hown, hts⟩, hE, hI, hlocks⟩ := id X
  have hl : lv_has ls 5 [(0, .ref (ad 0)), (1, .int 4), (2, .int (nI i)), (3, .int ks), (4, .int lm)] := hl
  refine lv_iload_n hx hb dL_sets_0 rfl (lv_at hl 1 rfl) ?_
  refine lv_iconst (v := 1) hx hb dL_sets_1 (by decide) ?_
  refine lv_icmp_ne (tgt := 14) hx hb dL_sets_2 (by decide) (fun _ => ?_) (fun z => False.elim (by first | exact absurd z (by decide) | exact absurd (by decide) z))
  refine lv_iload_n hx hb dL_sets_14 rfl (lv_at hl 1 rfl) ?_
  refine lv_iconst (v := 3) hx hb dL_sets_15 (by decide) ?_
  refine lv_icmp_ne (tgt := 28) hx hb dL_sets_16 (by decide) (fun _ => ?_) (fun z => False.elim (by first | exact absurd z (by decide) | exact absurd (by decide) z))
  refine lv_iload hx hb dL_sets_28 (lv_at hl 4 rfl) ?_
  refine lv_if_ge (tgt := 59) hx hb dL_sets_30 (by decide) (fun _ => ?_) (fun z => False.elim (z (Int32.not_lt.mp hc)))
  refine lv_aload_n hx hb dL_sets_59 rfl (lv_at hl 0 rfl) ?_
  refine lv_iload_n hx hb dL_sets_60 rfl (lv_at hl 2 rfl) ?_
  refine lv_iload_n hx hb dL_sets_61 rfl (lv_at hl 3 rfl) ?_
  refine lv_iload hx hb dL_sets_62 (lv_at hl 4 rfl) ?_
  refine r_V0 X S (c_X4_setSponsor l D cA ad _ F i hi ks lm h1 h2) ob_0 rfl (cwV 3 hts gL_sets_X4_setSponsor rfl rfl rfl (by decide +kernel) ⟨Nat.le_of_ble_eq_true rfl, Nat.le_of_ble_eq_true rfl⟩) rfl hl.1 rfl (Nat.le_of_ble_eq_true rfl) dL_sets_64 ⟨Nat.zero_le _, Nat.zero_le _⟩ (fun H locs S => ?_)
  obtain ⟨F_1, eF_1⟩ : ∃ z, z = u2 (u2 F (4 + 8 * i) 8 ks) (4 + 8 * i) 9 lm := ⟨_, rfl⟩
  rw [← eF_1] at S
  refine lv_iconst (v := 0) hx hb dL_sets_67 (by decide) ?_
  exact r_iret X S hr dL_sets_68 (Nat.le_of_ble_eq_true rfl) (Nat.le_of_ble_eq_true rfl) rfl (by rw [eF_1])

set_option maxHeartbeats 1000000 in
set_option maxRecDepth 100000 in
theorem x1_sets_setSponsor (l : Launch) (hst : l.stackTraces = false) (D : va_G) (cA : Nat → ClassId) (ad : Nat → Nat) (sz : Nat) (F : FF) (x ks lm : Int32) (h : wi x 0 3 = false) (hc : ¬ lm < 0) : CX l D cA ad sz yL_sets wsL_sets 8 137 [.ref (ad 0), .int 4, .int x, .int ks, .int lm] F "java/lang/IndexOutOfBoundsException" F := by
  refine CX_of (own := RL) (cc := cL_sets) (maxL := 5) (ret := (some .int)) (by decide +kernel) rfl rfl (Nat.le_of_ble_eq_true rfl) ?_
  intro p e s m below meth c ls X S hno hl
  obtain ⟨⟨hx, hb, hml, hown, hts⟩, hE, hI, hlocks⟩ := id X
  have hl : lv_has ls 5 [(0, .ref (ad 0)), (1, .int 4), (2, .int x), (3, .int ks), (4, .int lm)] := hl
  refine lv_iload_n hx hb dL_sets_0 rfl (lv_at hl 1 rfl) ?_
  refine lv_iconst (v := 1) hx hb dL_sets_1 (by decide) ?_
  refine lv_icmp_ne (tgt := 14) hx hb dL_sets_2 (by decide) (fun _ => ?_) (fun z => False.elim (by first | exact absurd z (by decide) | exact absurd (by decide) z))
  refine lv_iload_n hx hb dL_sets_14 rfl (lv_at hl 1 rfl) ?_
  refine lv_iconst (v := 3) hx hb dL_sets_15 (by decide) ?_
  refine lv_icmp_ne (tgt := 28) hx hb dL_sets_16 (by decide) (fun _ => ?_) (fun z => False.elim (by first | exact absurd z (by decide) | exact absurd (by decide) z))
  refine lv_iload hx hb dL_sets_28 (lv_at hl 4 rfl) ?_
  refine lv_if_ge (tgt := 59) hx hb dL_sets_30 (by decide) (fun _ => ?_) (fun z => False.elim (z (Int32.not_lt.mp hc)))
  refine lv_aload_n hx hb dL_sets_59 rfl (lv_at hl 0 rfl) ?_
  refine lv_iload_n hx hb dL_sets_60 rfl (lv_at hl 2 rfl) ?_
  refine lv_iload_n hx hb dL_sets_61 rfl (lv_at hl 3 rfl) ?_
  refine lv_iload hx hb dL_sets_62 (lv_at hl 4 rfl) ?_
  refine r_VX X S (x1_X4_setSponsor l hst D cA ad _ F x ks lm h) ob_0 rfl (cwV 3 hts gL_sets_X4_setSponsor rfl rfl rfl (by decide +kernel) ⟨Nat.le_of_ble_eq_true rfl, Nat.le_of_ble_eq_true rfl⟩) rfl hl.1 rfl (Nat.le_of_ble_eq_true rfl) dL_sets_64 ⟨Nat.le_of_ble_eq_true rfl, Nat.le_of_ble_eq_true rfl⟩ (fun ce q9 H locs S h1 h2 h3 => ?_)
  exact r_out X S hno h1 h2 h3 (Nat.le_refl _) (Nat.le_refl _) rfl

set_option maxHeartbeats 1000000 in
set_option maxRecDepth 100000 in
theorem x2_sets_setSponsor (l : Launch) (hst : l.stackTraces = false) (D : va_G) (cA : Nat → ClassId) (ad : Nat → Nat) (sz : Nat) (F : FF) (i : Nat) (hi : i < 4) (ks lm : Int32) (h : ¬ (wi ks 0 7 = true ∧ wi lm 0 1000000 = true)) (hc : ¬ lm < 0) : CX l D cA ad sz yL_sets wsL_sets 8 137 [.ref (ad 0), .int 4, .int (nI i), .int ks, .int lm] F "java/lang/IllegalArgumentException" F := by
  refine CX_of (own := RL) (cc := cL_sets) (maxL := 5) (ret := (some .int)) (by decide +kernel) rfl rfl (Nat.le_of_ble_eq_true rfl) ?_
  intro p e s m below meth c ls X S hno hl
  obtain ⟨⟨hx, hb, hml, hown, hts⟩, hE, hI, hlocks⟩ := id X
  have hl : lv_has ls 5 [(0, .ref (ad 0)), (1, .int 4), (2, .int (nI i)), (3, .int ks), (4, .int lm)] := hl
  refine lv_iload_n hx hb dL_sets_0 rfl (lv_at hl 1 rfl) ?_
  refine lv_iconst (v := 1) hx hb dL_sets_1 (by decide) ?_
  refine lv_icmp_ne (tgt := 14) hx hb dL_sets_2 (by decide) (fun _ => ?_) (fun z => False.elim (by first | exact absurd z (by decide) | exact absurd (by decide) z))
  refine lv_iload_n hx hb dL_sets_14 rfl (lv_at hl 1 rfl) ?_
  refine lv_iconst (v := 3) hx hb dL_sets_15 (by decide) ?_
  refine lv_icmp_ne (tgt := 28) hx hb dL_sets_16 (by decide) (fun _ => ?_) (fun z => False.elim (by first | exact absurd z (by decide) | exact absurd (by decide) z))
  refine lv_iload hx hb dL_sets_28 (lv_at hl 4 rfl) ?_
  refine lv_if_ge (tgt := 59) hx hb dL_sets_30 (by decide) (fun _ => ?_) (fun z => False.elim (z (Int32.not_lt.mp hc)))
  refine lv_aload_n hx hb dL_sets_59 rfl (lv_at hl 0 rfl) ?_
  refine lv_iload_n hx hb dL_sets_60 rfl (lv_at hl 2 rfl) ?_
  refine lv_iload_n hx hb dL_sets_61 rfl (lv_at hl 3 rfl) ?_
  refine lv_iload hx hb dL_sets_62 (lv_at hl 4 rfl) ?_
  refine r_VX X S (x2_X4_setSponsor l hst D cA ad _ F i hi ks lm h) ob_0 rfl (cwV 3 hts gL_sets_X4_setSponsor rfl rfl rfl (by decide +kernel) ⟨Nat.le_of_ble_eq_true rfl, Nat.le_of_ble_eq_true rfl⟩) rfl hl.1 rfl (Nat.le_of_ble_eq_true rfl) dL_sets_64 ⟨Nat.le_of_ble_eq_true rfl, Nat.le_of_ble_eq_true rfl⟩ (fun ce q9 H locs S h1 h2 h3 => ?_)
  exact r_out X S hno h1 h2 h3 (Nat.le_refl _) (Nat.le_refl _) rfl
