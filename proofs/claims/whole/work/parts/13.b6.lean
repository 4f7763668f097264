set_option maxHeartbeats 1000000 in
set_option maxRecDepth 100000 in
theorem w_L_setRate (l : Launch) (D : va_G) (cA : Nat → ClassId) (ad : Nat → Nat) (sz : Nat) (F : FF) (lv : Int32) (b : Bool) (rt : Int32) (h1 : wi lv 0 1 = true) (h2 : wi rt 0 100000 = true) : CI l D cA ad sz yL_setRate wsL_setRate 7 115 1 6 [.ref (ad 0), .int lv, .int (bI b), .int rt, .ref (ad 59)] F (some (.int 0)) (u2 (srF F lv b rt) 59 0 (F 2 (plc lv (bI b)))) := by
  refine CIW_of (own := RL) (cc := cL_setRate) (maxL := 6) (ret := (some .int)) (hh := [(0, 12, 15, 13)]) (by decide +kernel) rfl rfl (Nat.le_of_ble_eq_true rfl) ?_
  intro p e s m below meth c ls X S hr htab hl
  obtain ⟨⟨hx, hb, hml, hown, hts⟩, hE, hI, hlocks⟩ := id X
  have hl : lv_has ls 6 [(0, .ref (ad 0)), (1, .int lv), (2, .int (bI b)), (3, .int rt), (4, .ref (ad 59))] := hl
  refine lv_aload hx hb dL_setRate_0 (lv_at hl 4 rfl) ?_
  refine lv_iconst (v := 0) hx hb dL_setRate_2 (by decide) ?_
  refine lv_aload_n hx hb dL_setRate_3 rfl (lv_at hl 0 rfl) ?_
  refine lv_iload_n hx hb dL_setRate_4 rfl (lv_at hl 1 rfl) ?_
  refine lv_iload_n hx hb dL_setRate_5 rfl (lv_at hl 2 rfl) ?_
  refine lv_iload_n hx hb dL_setRate_6 rfl (lv_at hl 3 rfl) ?_
  refine r_V0 X S (c_X4_setRate l D cA ad _ F lv b rt h1 h2) ob_0 rfl (cwV 3 hts gL_setRate_X4_setRate rfl rfl rfl (by decide +kernel) ⟨Nat.le_of_ble_eq_true rfl, Nat.le_of_ble_eq_true rfl⟩) rfl hl.1 rfl (Nat.le_of_ble_eq_true rfl) dL_setRate_7 ⟨Nat.zero_le _, Nat.zero_le _⟩ (fun H locs S => ?_)
  obtain ⟨F_1, eF_1⟩ : ∃ z, z = srF F lv b rt := ⟨_, rfl⟩
  rw [← eF_1] at S
  refine lv_i2l hx hb dL_setRate_10 rfl ?_
  refine r_las (v := F 2 (plc lv (bI b))) X S rfl dL_setRate_11 (fun H locs S => ?_)
  obtain ⟨F_2, eF_2⟩ : ∃ z, z = u2 F_1 59 0 (F 2 (plc lv (bI b))) := ⟨_, rfl⟩
  rw [← eF_2] at S
  refine lv_goto (tgt := 19) hx hb dL_setRate_12 (by decide) ?_
  refine lv_iconst (v := 0) hx hb dL_setRate_19 (by decide) ?_
  exact r_iret X S hr dL_setRate_20 (Nat.le_of_ble_eq_true rfl) (Nat.le_of_ble_eq_true rfl) rfl (by rw [eF_2, eF_1])

set_option maxHeartbeats 1000000 in
set_option maxRecDepth 100000 in
theorem x1_L_setRate (l : Launch) (D : va_G) (cA : Nat → ClassId) (ad : Nat → Nat) (sz : Nat) (F : FF) (hst : l.stackTraces = false) (lv : Int32) (b : Bool) (rt : Int32) (h : ¬ (wi lv 0 1 = true ∧ wi rt 0 100000 = true)) : CI l D cA ad sz yL_setRate wsL_setRate 7 115 1 6 [.ref (ad 0), .int lv, .int (bI b), .int rt, .ref (ad 59)] F (some (.int 1)) F := by
  refine CIW_of (own := RL) (cc := cL_setRate) (maxL := 6) (ret := (some .int)) (hh := [(0, 12, 15, 13)]) (by decide +kernel) rfl rfl (Nat.le_of_ble_eq_true rfl) ?_
  intro p e s m below meth c ls X S hr htab hl
  obtain ⟨⟨hx, hb, hml, hown, hts⟩, hE, hI, hlocks⟩ := id X
  have hl : lv_has ls 6 [(0, .ref (ad 0)), (1, .int lv), (2, .int (bI b)), (3, .int rt), (4, .ref (ad 59))] := hl
  refine lv_aload hx hb dL_setRate_0 (lv_at hl 4 rfl) ?_
  refine lv_iconst (v := 0) hx hb dL_setRate_2 (by decide) ?_
  refine lv_aload_n hx hb dL_setRate_3 rfl (lv_at hl 0 rfl) ?_
  refine lv_iload_n hx hb dL_setRate_4 rfl (lv_at hl 1 rfl) ?_
  refine lv_iload_n hx hb dL_setRate_5 rfl (lv_at hl 2 rfl) ?_
  refine lv_iload_n hx hb dL_setRate_6 rfl (lv_at hl 3 rfl) ?_
  refine r_VX X S (x1_X4_setRate l hst D cA ad _ F lv b rt h) ob_0 rfl (cwV 3 hts gL_setRate_X4_setRate rfl rfl rfl (by decide +kernel) ⟨Nat.le_of_ble_eq_true rfl, Nat.le_of_ble_eq_true rfl⟩) rfl hl.1 rfl (Nat.le_of_ble_eq_true rfl) dL_setRate_7 ⟨Nat.le_of_ble_eq_true rfl, Nat.le_of_ble_eq_true rfl⟩ (fun ce q9 H locs S h1 h2 h3 => ?_)
  refine vx_catch (own := RL) (name := "java/lang/IllegalArgumentException") hown [] ⟨0, 12, 15, 13⟩ [] (htab.trans rfl) (fun z hz => nomatch hz) rfl (by decide) (hts (.classLink RL 13 "java/lang/IllegalArgumentException") (by decide +kernel)) (va_Nw.use rfl (hE.2.2.2.2.2.1 "java/lang/IllegalArgumentException" (by simp [xcl]))) h1 h2 h3 ?_
  refine lv_astore (lv' := [(5, .ref q9), (0, .ref (ad 0)), (1, .int lv), (2, .int (bI b)), (3, .int rt), (4, .ref (ad 59))]) hx hb dL_setRate_15 hl (by decide) rfl (fun ls hl => ?_)
  refine lv_iconst (v := 1) hx hb dL_setRate_17 (by decide) ?_
  exact r_iret X S hr dL_setRate_18 (Nat.le_of_ble_eq_true rfl) (Nat.le_of_ble_eq_true rfl) rfl rfl

set_option maxHeartbeats 1000000 in
set_option maxRecDepth 100000 in
theorem w_L_setBand (l : Launch) (D : va_G) (cA : Nat → ClassId) (ad : Nat → Nat) (sz : Nat) (F : FF) (fr tt : Int32) (h1 : wi fr 1 30 = true) (h2 : wi tt fr 30 = true) : CI l D cA ad sz yL_setBand wsL_setBand 7 112 1 6 [.ref (ad 0), .int fr, .int tt] F (some (.int 0)) (u2 (u2 F 0 3 fr) 0 4 tt) := by
  refine CIW_of (own := RL) (cc := cL_setBand) (maxL := 4) (ret := (some .int)) (hh := [(0, 6, 9, 13)]) (by decide +kernel) rfl rfl (Nat.le_of_ble_eq_true rfl) ?_
  intro p e s m below meth c ls X S hr htab hl
  obtain ⟨⟨hx, hb, hml, hown, hts⟩, hE, hI, hlocks⟩ := id X
  have hl : lv_has ls 4 [(0, .ref (ad 0)), (1, .int fr), (2, .int tt)] := hl
  refine lv_aload_n hx hb dL_setBand_0 rfl (lv_at hl 0 rfl) ?_
  refine lv_iload_n hx hb dL_setBand_1 rfl (lv_at hl 1 rfl) ?_
  refine lv_iload_n hx hb dL_setBand_2 rfl (lv_at hl 2 rfl) ?_
  refine r_V0 X S (c_X4_setBand l D cA ad _ F fr tt h1 h2) ob_0 rfl (cwV 2 hts gL_setBand_X4_setBand rfl rfl rfl (by decide +kernel) ⟨Nat.le_of_ble_eq_true rfl, Nat.le_of_ble_eq_true rfl⟩) rfl hl.1 rfl (Nat.le_of_ble_eq_true rfl) dL_setBand_3 ⟨Nat.zero_le _, Nat.zero_le _⟩ (fun H locs S => ?_)
  obtain ⟨F_1, eF_1⟩ : ∃ z, z = u2 (u2 F 0 3 fr) 0 4 tt := ⟨_, rfl⟩
  rw [← eF_1] at S
  refine lv_goto (tgt := 12) hx hb dL_setBand_6 (by decide) ?_
  refine lv_iconst (v := 0) hx hb dL_setBand_12 (by decide) ?_
  exact r_iret X S hr dL_setBand_13 (Nat.le_of_ble_eq_true rfl) (Nat.le_of_ble_eq_true rfl) rfl (by rw [eF_1])

set_option maxHeartbeats 1000000 in
set_option maxRecDepth 100000 in
theorem x1_L_setBand (l : Launch) (D : va_G) (cA : Nat → ClassId) (ad : Nat → Nat) (sz : Nat) (F : FF) (hst : l.stackTraces = false) (fr tt : Int32) (h : ¬ (wi fr 1 30 = true ∧ wi tt fr 30 = true)) : CI l D cA ad sz yL_setBand wsL_setBand 7 112 1 6 [.ref (ad 0), .int fr, .int tt] F (some (.int 1)) F := by
  refine CIW_of (own := RL) (cc := cL_setBand) (maxL := 4) (ret := (some .int)) (hh := [(0, 6, 9, 13)]) (by decide +kernel) rfl rfl (Nat.le_of_ble_eq_true rfl) ?_
  intro p e s m below meth c ls X S hr htab hl
  obtain ⟨⟨hx, hb, hml, hown, hts⟩, hE, hI, hlocks⟩ := id X
  have hl : lv_has ls 4 [(0, .ref (ad 0)), (1, .int fr), (2, .int tt)] := hl
  refine lv_aload_n hx hb dL_setBand_0 rfl (lv_at hl 0 rfl) ?_
  refine lv_iload_n hx hb dL_setBand_1 rfl (lv_at hl 1 rfl) ?_
  refine lv_iload_n hx hb dL_setBand_2 rfl (lv_at hl 2 rfl) ?_
  refine r_VX X S (x1_X4_setBand l hst D cA ad _ F fr tt h) ob_0 rfl (cwV 2 hts gL_setBand_X4_setBand rfl rfl rfl (by decide +kernel) ⟨Nat.le_of_ble_eq_true rfl, Nat.le_of_ble_eq_true rfl⟩) rfl hl.1 rfl (Nat.le_of_ble_eq_true rfl) dL_setBand_3 ⟨Nat.le_of_ble_eq_true rfl, Nat.le_of_ble_eq_true rfl⟩ (fun ce q9 H locs S h1 h2 h3 => ?_)
  refine vx_catch (own := RL) (name := "java/lang/IllegalArgumentException") hown [] ⟨0, 6, 9, 13⟩ [] (htab.trans rfl) (fun z hz => nomatch hz) rfl (by decide) (hts (.classLink RL 13 "java/lang/IllegalArgumentException") (by decide +kernel)) (va_Nw.use rfl (hE.2.2.2.2.2.1 "java/lang/IllegalArgumentException" (by simp [xcl]))) h1 h2 h3 ?_
  refine lv_astore_n (lv' := [(3, .ref q9), (0, .ref (ad 0)), (1, .int fr), (2, .int tt)]) hx hb dL_setBand_9 rfl hl (by decide) rfl (fun ls hl => ?_)
  refine lv_iconst (v := 1) hx hb dL_setBand_10 (by decide) ?_
  exact r_iret X S hr dL_setBand_11 (Nat.le_of_ble_eq_true rfl) (Nat.le_of_ble_eq_true rfl) rfl rfl

set_option maxHeartbeats 1000000 in
set_option maxRecDepth 100000 in
theorem w_L_setShare (l : Launch) (D : va_G) (cA : Nat → ClassId) (ad : Nat → Nat) (sz : Nat) (F : FF) (w : Nat) (hw : w < 16) (sh : Int32) (h2 : wi sh 0 100 = true) : CI l D cA ad sz yL_setShare wsL_setShare 7 113 1 6 [.ref (ad 0), .int (nI w), .int sh, .ref (ad 59)] F (some (.int 0)) (u2 (u2 F 3 w sh) 59 0 (F 3 w)) := by
  refine CIW_of (own := RL) (cc := cL_setShare) (maxL := 5) (ret := (some .int)) (hh := [(0, 10, 13, 13)]) (by decide +kernel) rfl rfl (Nat.le_of_ble_eq_true rfl) ?_
  intro p e s m below meth c ls X S hr htab hl
  obtain ⟨⟨hx, hb, hml, hown, hts⟩, hE, hI, hlocks⟩ := id X
  have hl : lv_has ls 5 [(0, .ref (ad 0)), (1, .int (nI w)), (2, .int sh), (3, .ref (ad 59))] := hl
  refine lv_aload_n hx hb dL_setShare_0 rfl (lv_at hl 3 rfl) ?_
  refine lv_iconst (v := 0) hx hb dL_setShare_1 (by decide) ?_
  refine lv_aload_n hx hb dL_setShare_2 rfl (lv_at hl 0 rfl) ?_
  refine lv_iload_n hx hb dL_setShare_3 rfl (lv_at hl 1 rfl) ?_
  refine lv_iload_n hx hb dL_setShare_4 rfl (lv_at hl 2 rfl) ?_
  refine r_V0 X S (c_X4_setShare l D cA ad _ F w hw sh h2) ob_0 rfl (cwV 2 hts gL_setShare_X4_setShare rfl rfl rfl (by decide +kernel) ⟨Nat.le_of_ble_eq_true rfl, Nat.le_of_ble_eq_true rfl⟩) rfl hl.1 rfl (Nat.le_of_ble_eq_true rfl) dL_setShare_5 ⟨Nat.zero_le _, Nat.zero_le _⟩ (fun H locs S => ?_)
  obtain ⟨F_1, eF_1⟩ : ∃ z, z = u2 F 3 w sh := ⟨_, rfl⟩
  rw [← eF_1] at S
  refine lv_i2l hx hb dL_setShare_8 rfl ?_
  refine r_las (v := F 3 w) X S rfl dL_setShare_9 (fun H locs S => ?_)
  obtain ⟨F_2, eF_2⟩ : ∃ z, z = u2 F_1 59 0 (F 3 w) := ⟨_, rfl⟩
  rw [← eF_2] at S
  refine lv_goto (tgt := 17) hx hb dL_setShare_10 (by decide) ?_
  refine lv_iconst (v := 0) hx hb dL_setShare_17 (by decide) ?_
  exact r_iret X S hr dL_setShare_18 (Nat.le_of_ble_eq_true rfl) (Nat.le_of_ble_eq_true rfl) rfl (by rw [eF_2, eF_1])

set_option maxHeartbeats 1000000 in
set_option maxRecDepth 100000 in
theorem x1_L_setShare (l : Launch) (D : va_G) (cA : Nat → ClassId) (ad : Nat → Nat) (sz : Nat) (F : FF) (hst : l.stackTraces = false) (wk sh : Int32) (h : ¬ (wi wk 0 15 = true ∧ wi sh 0 100 = true)) : CI l D cA ad sz yL_setShare wsL_setShare 7 113 1 6 [.ref (ad 0), .int wk, .int sh, .ref (ad 59)] F (some (.int 1)) F := by
  refine CIW_of (own := RL) (cc := cL_setShare) (maxL := 5) (ret := (some .int)) (hh := [(0, 10, 13, 13)]) (by decide +kernel) rfl rfl (Nat.le_of_ble_eq_true rfl) ?_
  intro p e s m below meth c ls X S hr htab hl
  obtain ⟨⟨hx, hb, hml, hown, hts⟩, hE, hI, hlocks⟩ := id X
  have hl : lv_has ls 5 [(0, .ref (ad 0)), (1, .int wk), (2, .int sh), (3, .ref (ad 59))] := hl
  refine lv_aload_n hx hb dL_setShare_0 rfl (lv_at hl 3 rfl) ?_
  refine lv_iconst (v := 0) hx hb dL_setShare_1 (by decide) ?_
  refine lv_aload_n hx hb dL_setShare_2 rfl (lv_at hl 0 rfl) ?_
  refine lv_iload_n hx hb dL_setShare_3 rfl (lv_at hl 1 rfl) ?_
  refine lv_iload_n hx hb dL_setShare_4 rfl (lv_at hl 2 rfl) ?_
  refine r_VX X S (x1_X4_setShare l hst D cA ad _ F wk sh h) ob_0 rfl (cwV 2 hts gL_setShare_X4_setShare rfl rfl rfl (by decide +kernel) ⟨Nat.le_of_ble_eq_true rfl, Nat.le_of_ble_eq_true rfl⟩) rfl hl.1 rfl (Nat.le_of_ble_eq_true rfl) dL_setShare_5 ⟨Nat.le_of_ble_eq_true rfl, Nat.le_of_ble_eq_true rfl⟩ (fun ce q9 H locs S h1 h2 h3 => ?_)
  refine vx_catch (own := RL) (name := "java/lang/IllegalArgumentException") hown [] ⟨0, 10, 13, 13⟩ [] (htab.trans rfl) (fun z hz => nomatch hz) rfl (by decide) (hts (.classLink RL 13 "java/lang/IllegalArgumentException") (by decide +kernel)) (va_Nw.use rfl (hE.2.2.2.2.2.1 "java/lang/IllegalArgumentException" (by simp [xcl]))) h1 h2 h3 ?_
  refine lv_astore (lv' := [(4, .ref q9), (0, .ref (ad 0)), (1, .int wk), (2, .int sh), (3, .ref (ad 59))]) hx hb dL_setShare_13 hl (by decide) rfl (fun ls hl => ?_)
  refine lv_iconst (v := 1) hx hb dL_setShare_15 (by decide) ?_
  exact r_iret X S hr dL_setShare_16 (Nat.le_of_ble_eq_true rfl) (Nat.le_of_ble_eq_true rfl) rfl rfl

set_option maxHeartbeats 1000000 in
set_option maxRecDepth 100000 in
theorem w_L_setFees (l : Launch) (D : va_G) (cA : Nat → ClassId) (ad : Nat → Nat) (sz : Nat) (F : FF) (fe lm : Int32) (h1 : wi fe 0 100000 = true) (h2 : wi lm 0 1000000 = true) : CI l D cA ad sz yL_setFees wsL_setFees 7 112 1 6 [.ref (ad 0), .int fe, .int lm] F (some (.int 0)) (u2 (u2 F 0 5 fe) 0 6 lm) := by
  refine CIW_of (own := RL) (cc := cL_setFees) (maxL := 4) (ret := (some .int)) (hh := [(0, 6, 9, 13)]) (by decide +kernel) rfl rfl (Nat.le_of_ble_eq_true rfl) ?_
  intro p e s m below meth c ls X S hr htab hl
  obtain ⟨⟨hx, hb, hml, hown, hts⟩, hE, hI, hlocks⟩ := id X
  have hl : lv_has ls 4 [(0, .ref (ad 0)), (1, .int fe), (2, .int lm)] := hl
  refine lv_aload_n hx hb dL_setFees_0 rfl (lv_at hl 0 rfl) ?_
  refine lv_iload_n hx hb dL_setFees_1 rfl (lv_at hl 1 rfl) ?_
  refine lv_iload_n hx hb dL_setFees_2 rfl (lv_at hl 2 rfl) ?_
  refine r_V0 X S (c_X4_setFees l D cA ad _ F fe lm h1 h2) ob_0 rfl (cwV 2 hts gL_setFees_X4_setFees rfl rfl rfl (by decide +kernel) ⟨Nat.le_of_ble_eq_true rfl, Nat.le_of_ble_eq_true rfl⟩) rfl hl.1 rfl (Nat.le_of_ble_eq_true rfl) dL_setFees_3 ⟨Nat.zero_le _, Nat.zero_le _⟩ (fun H locs S => ?_)
  obtain ⟨F_1, eF_1⟩ : ∃ z, z = u2 (u2 F 0 5 fe) 0 6 lm := ⟨_, rfl⟩
  rw [← eF_1] at S
  refine lv_goto (tgt := 12) hx hb dL_setFees_6 (by decide) ?_
  refine lv_iconst (v := 0) hx hb dL_setFees_12 (by decide) ?_
  exact r_iret X S hr dL_setFees_13 (Nat.le_of_ble_eq_true rfl) (Nat.le_of_ble_eq_true rfl) rfl (by rw [eF_1])

set_option maxHeartbeats 1000000 in
set_option maxRecDepth 100000 in
theorem x1_L_setFees (l : Launch) (D : va_G) (cA : Nat → ClassId) (ad : Nat → Nat) (sz : Nat) (F : FF) (hst : l.stackTraces = false) (fe lm : Int32) (h : ¬ (wi fe 0 100000 = true ∧ wi lm 0 1000000 = true)) : CI l D cA ad sz yL_setFees wsL_setFees 7 112 1 6 [.ref (ad 0), .int fe, .int lm] F (some (.int 1)) F := by
  refine CIW_of (own := RL) (cc := cL_setFees) (maxL := 4) (ret := (some .int)) (hh := [(0, 6, 9, 13)]) (by decide +kernel) rfl rfl (Nat.le_of_ble_eq_true rfl) ?_
  intro p e s m below meth c ls X S hr htab hl
  obtain ⟨⟨hx, hb, hml, hown, hts⟩, hE, hI, hlocks⟩ := id X
  have hl : lv_has ls 4 [(0, .ref (ad 0)), (1, .int fe), (2, .int lm)] := hl
  refine lv_aload_n hx hb dL_setFees_0 rfl (lv_at hl 0 rfl) ?_
  refine lv_iload_n hx hb dL_setFees_1 rfl (lv_at hl 1 rfl) ?_
  refine lv_iload_n hx hb dL_setFees_2 rfl (lv_at hl 2 rfl) ?_
  refine r_VX X S (x1_X4_setFees l hst D cA ad _ F fe lm h) ob_0 rfl (cwV 2 hts gL_setFees_X4_setFees rfl rfl rfl (by decide +kernel) ⟨Nat.le_of_ble_eq_true rfl, Nat.le_of_ble_eq_true rfl⟩) rfl hl.1 rfl (Nat.le_of_ble_eq_true rfl) dL_setFees_3 ⟨Nat.le_of_ble_eq_true rfl, Nat.le_of_ble_eq_true rfl⟩ (fun ce q9 H locs S h1 h2 h3 => ?_)
  refine vx_catch (own := RL) (name := "java/lang/IllegalArgumentException") hown [] ⟨0, 6, 9, 13⟩ [] (htab.trans rfl) (fun z hz => nomatch hz) rfl (by decide) (hts (.classLink RL 13 "java/lang/IllegalArgumentException") (by decide +kernel)) (va_Nw.use rfl (hE.2.2.2.2.2.1 "java/lang/IllegalArgumentException" (by simp [xcl]))) h1 h2 h3 ?_
  refine lv_astore_n (lv' := [(3, .ref q9), (0, .ref (ad 0)), (1, .int fe), (2, .int lm)]) hx hb dL_setFees_9 rfl hl (by decide) rfl (fun ls hl => ?_)
  refine lv_iconst (v := 1) hx hb dL_setFees_10 (by decide) ?_
  exact r_iret X S hr dL_setFees_11 (Nat.le_of_ble_eq_true rfl) (Nat.le_of_ble_eq_true rfl) rfl rfl

set_option maxHeartbeats 1000000 in
set_option maxRecDepth 100000 in
theorem w_L_setStudent (l : Launch) (D : va_G) (cA : Nat → ClassId) (ad : Nat → Nat) (sz : Nat) (F : FF) (i : Nat) (hi : i < 4) (lv : Int32) (b : Bool) (nd : Int32) (h1 : wi lv 0 1 = true) (h2 : wi nd 0 1000000 = true) : CI l D cA ad sz yL_setStudent wsL_setStudent 8 137 1 6 [.ref (ad 0), .int (nI i), .int lv, .int (bI b), .int nd] F (some (.int 0)) (u2 (u2 (u2 F (4 + 8 * i) 3 lv) (4 + 8 * i) 4 (bI b)) (4 + 8 * i) 5 nd) := by
  refine CIW_of (own := RL) (cc := cL_setStudent) (maxL := 6) (ret := (some .int)) (hh := [(0, 9, 12, 30), (0, 9, 16, 13)]) (by decide +kernel) rfl rfl (Nat.le_of_ble_eq_true rfl) ?_
  intro p e s m below meth c ls X S hr htab hl
  obtain ⟨⟨hx, hb, hml, hown, hts⟩, hE, hI, hlocks⟩ := id X
  have hl : lv_has ls 6 [(0, .ref (ad 0)), (1, .int (nI i)), (2, .int lv), (3, .int (bI b)), (4, .int nd)] := hl
  refine lv_aload_n hx hb dL_setStudent_0 rfl (lv_at hl 0 rfl) ?_
  refine lv_iload_n hx hb dL_setStudent_1 rfl (lv_at hl 1 rfl) ?_
  refine lv_iload_n hx hb dL_setStudent_2 rfl (lv_at hl 2 rfl) ?_
  refine lv_iload_n hx hb dL_setStudent_3 rfl (lv_at hl 3 rfl) ?_
  refine lv_iload hx hb dL_setStudent_4 (lv_at hl 4 rfl) ?_
  refine r_V0 X S (c_X4_setStudent l D cA ad _ F i hi lv b nd h1 h2) ob_0 rfl (cwV 4 hts gL_setStudent_X4_setStudent rfl rfl rfl (by decide +kernel) ⟨Nat.le_of_ble_eq_true rfl, Nat.le_of_ble_eq_true rfl⟩) rfl hl.1 rfl (Nat.le_of_ble_eq_true rfl) dL_setStudent_6 ⟨Nat.zero_le _, Nat.zero_le _⟩ (fun H locs S => ?_)
  obtain ⟨F_1, eF_1⟩ : ∃ z, z = u2 (u2 (u2 F (4 + 8 * i) 3 lv) (4 + 8 * i) 4 (bI b)) (4 + 8 * i) 5 nd := ⟨_, rfl⟩
  rw [← eF_1] at S
  refine lv_goto (tgt := 20) hx hb dL_setStudent_9 (by decide) ?_
  refine lv_iconst (v := 0) hx hb dL_setStudent_20 (by decide) ?_
  exact r_iret X S hr dL_setStudent_21 (Nat.le_of_ble_eq_true rfl) (Nat.le_of_ble_eq_true rfl) rfl (by rw [eF_1])

set_option maxHeartbeats 1000000 in
set_option maxRecDepth 100000 in
theorem x1_L_setStudent (l : Launch) (D : va_G) (cA : Nat → ClassId) (ad : Nat → Nat) (sz : Nat) (F : FF) (hst : l.stackTraces = false) (x lv : Int32) (b : Bool) (nd : Int32) (h : wi x 0 3 = false) : CI l D cA ad sz yL_setStudent wsL_setStudent 8 137 1 6 [.ref (ad 0), .int x, .int lv, .int (bI b), .int nd] F (some (.int 1)) F := by
  refine CIW_of (own := RL) (cc := cL_setStudent) (maxL := 6) (ret := (some .int)) (hh := [(0, 9, 12, 30), (0, 9, 16, 13)]) (by decide +kernel) rfl rfl (Nat.le_of_ble_eq_true rfl) ?_
  intro p e s m below meth c ls X S hr htab hl
  obtain ⟨⟨hx, hb, hml, hown, hts⟩, hE, hI, hlocks⟩ := id X
  have hl : lv_has ls 6 [(0, .ref (ad 0)), (1, .int x), (2, .int lv), (3, .int (bI b)), (4, .int nd)] := hl
  refine lv_aload_n hx hb dL_setStudent_0 rfl (lv_at hl 0 rfl) ?_
  refine lv_iload_n hx hb dL_setStudent_1 rfl (lv_at hl 1 rfl) ?_
  refine lv_iload_n hx hb dL_setStudent_2 rfl (lv_at hl 2 rfl) ?_
  refine lv_iload_n hx hb dL_setStudent_3 rfl (lv_at hl 3 rfl) ?_
  refine lv_iload hx hb dL_setStudent_4 (lv_at hl 4 rfl) ?_
  refine r_VX X S (x1_X4_setStudent l hst D cA ad _ F x lv b nd h) ob_0 rfl (cwV 4 hts gL_setStudent_X4_setStudent rfl rfl rfl (by decide +kernel) ⟨Nat.le_of_ble_eq_true rfl, Nat.le_of_ble_eq_true rfl⟩) rfl hl.1 rfl (Nat.le_of_ble_eq_true rfl) dL_setStudent_6 ⟨Nat.le_of_ble_eq_true rfl, Nat.le_of_ble_eq_true rfl⟩ (fun ce q9 H locs S h1 h2 h3 => ?_)
  refine vx_catch (own := RL) (name := "java/lang/IndexOutOfBoundsException") hown [] ⟨0, 9, 12, 30⟩ [⟨0, 9, 16, 13⟩] (htab.trans rfl) (fun z hz => nomatch hz) rfl (by decide) (hts (.classLink RL 30 "java/lang/IndexOutOfBoundsException") (by decide +kernel)) (va_Nw.use rfl (hE.2.2.2.2.2.1 "java/lang/IndexOutOfBoundsException" (by simp [xcl]))) h1 h2 h3 ?_
  refine lv_astore (lv' := [(5, .ref q9), (0, .ref (ad 0)), (1, .int x), (2, .int lv), (3, .int (bI b)), (4, .int nd)]) hx hb dL_setStudent_12 hl (by decide) rfl (fun ls hl => ?_)
  refine lv_iconst (v := 1) hx hb dL_setStudent_14 (by decide) ?_
  exact r_iret X S hr dL_setStudent_15 (Nat.le_of_ble_eq_true rfl) (Nat.le_of_ble_eq_true rfl) rfl rfl

set_option maxHeartbeats 1000000 in
set_option maxRecDepth 100000 in
theorem x2_L_setStudent (l : Launch) (D : va_G) (cA : Nat → ClassId) (ad : Nat → Nat) (sz : Nat) (F : FF) (hst : l.stackTraces = false) (i : Nat) (hi : i < 4) (lv : Int32) (b : Bool) (nd : Int32) (h : ¬ (wi lv 0 1 = true ∧ wi nd 0 1000000 = true)) : CI l D cA ad sz yL_setStudent wsL_setStudent 8 137 1 6 [.ref (ad 0), .int (nI i), .int lv, .int (bI b), .int nd] F (some (.int 2)) F := by
  refine CIW_of (own := RL) (cc := cL_setStudent) (maxL := 6) (ret := (some .int)) (hh := [(0, 9, 12, 30), (0, 9, 16, 13)]) (by decide +kernel) rfl rfl (Nat.le_of_ble_eq_true rfl) ?_
  intro p e s m below meth c ls X S hr htab hl
  obtain ⟨⟨hx, hb, hml, hown, hts⟩, hE, hI, hlocks⟩ := id X
  have hl : lv_has ls 6 [(0, .ref (ad 0)), (1, .int (nI i)), (2, .int lv), (3, .int (bI b)), (4, .int nd)] := hl
  refine lv_aload_n hx hb dL_setStudent_0 rfl (lv_at hl 0 rfl) ?_
  refine lv_iload_n hx hb dL_setStudent_1 rfl (lv_at hl 1 rfl) ?_
  refine lv_iload_n hx hb dL_setStudent_2 rfl (lv_at hl 2 rfl) ?_
  refine lv_iload_n hx hb dL_setStudent_3 rfl (lv_at hl 3 rfl) ?_
  refine lv_iload hx hb dL_setStudent_4 (lv_at hl 4 rfl) ?_
  refine r_VX X S (x2_X4_setStudent l hst D cA ad _ F i hi lv b nd h) ob_0 rfl (cwV 4 hts gL_setStudent_X4_setStudent rfl rfl rfl (by decide +kernel) ⟨Nat.le_of_ble_eq_true rfl, Nat.le_of_ble_eq_true rfl⟩) rfl hl.1 rfl (Nat.le_of_ble_eq_true rfl) dL_setStudent_6 ⟨Nat.le_of_ble_eq_true rfl, Nat.le_of_ble_eq_true rfl⟩ (fun ce q9 H locs S h1 h2 h3 => ?_)
  refine vx_catch (own := RL) (name := "java/lang/IllegalArgumentException") hown [⟨0, 9, 12, 30⟩] ⟨0, 9, 16, 13⟩ [] (htab.trans rfl) (fun z hz => by rw [List.mem_singleton.mp hz]; exact Or.inr ⟨by decide, "java/lang/IndexOutOfBoundsException", hts (.classLink RL 30 "java/lang/IndexOutOfBoundsException") (by decide +kernel), hE.2.2.2.2.2.2 "java/lang/IllegalArgumentException" (by simp [xcl]) "java/lang/IndexOutOfBoundsException" (by simp [xcl]) (by decide)⟩) rfl (by decide) (hts (.classLink RL 13 "java/lang/IllegalArgumentException") (by decide +kernel)) (va_Nw.use rfl (hE.2.2.2.2.2.1 "java/lang/IllegalArgumentException" (by simp [xcl]))) h1 h2 h3 ?_
  refine lv_astore (lv' := [(5, .ref q9), (0, .ref (ad 0)), (1, .int (nI i)), (2, .int lv), (3, .int (bI b)), (4, .int nd)]) hx hb dL_setStudent_16 hl (by decide) rfl (fun ls hl => ?_)
  refine lv_iconst (v := 2) hx hb dL_setStudent_18 (by decide) ?_
  exact r_iret X S hr dL_setStudent_19 (Nat.le_of_ble_eq_true rfl) (Nat.le_of_ble_eq_true rfl) rfl rfl

set_option maxHeartbeats 1000000 in
set_option maxRecDepth 100000 in
theorem w_L_setSponsor (l : Launch) (D : va_G) (cA : Nat → ClassId) (ad : Nat → Nat) (sz : Nat) (F : FF) (i : Nat) (hi : i < 4) (ks lm : Int32) (h1 : wi ks 0 7 = true) (h2 : wi lm 0 1000000 = true) : CI l D cA ad sz yL_setSponsor wsL_setSponsor 8 136 1 6 [.ref (ad 0), .int (nI i), .int ks, .int lm] F (some (.int 0)) (u2 (u2 F (4 + 8 * i) 8 ks) (4 + 8 * i) 9 lm) := by
  refine CIW_of (own := RL) (cc := cL_setSponsor) (maxL := 5) (ret := (some .int)) (hh := [(0, 7, 10, 30), (0, 7, 14, 13)]) (by decide +kernel) rfl rfl (Nat.le_of_ble_eq_true rfl) ?_
  intro p e s m below meth c ls X S hr htab hl
  obtain ⟨⟨hx, hb, hml, hown, hts⟩, hE, hI, hlocks⟩ := id X
  have hl : lv_has ls 5 [(0, .ref (ad 0)), (1, .int (nI i)), (2, .int ks), (3, .int lm)] := hl
  refine lv_aload_n hx hb dL_setSponsor_0 rfl (lv_at hl 0 rfl) ?_
  refine lv_iload_n hx hb dL_setSponsor_1 rfl (lv_at hl 1 rfl) ?_
  refine lv_iload_n hx hb dL_setSponsor_2 rfl (lv_at hl 2 rfl) ?_
  refine lv_iload_n hx hb dL_setSponsor_3 rfl (lv_at hl 3 rfl) ?_
  refine r_V0 X S (c_X4_setSponsor l D cA ad _ F i hi ks lm h1 h2) ob_0 rfl (cwV 3 hts gL_setSponsor_X4_setSponsor rfl rfl rfl (by decide +kernel) ⟨Nat.le_of_ble_eq_true rfl, Nat.le_of_ble_eq_true rfl⟩) rfl hl.1 rfl (Nat.le_of_ble_eq_true rfl) dL_setSponsor_4 ⟨Nat.zero_le _, Nat.zero_le _⟩ (fun H locs S => ?_)
  obtain ⟨F_1, eF_1⟩ : ∃ z, z = u2 (u2 F (4 + 8 * i) 8 ks) (4 + 8 * i) 9 lm := ⟨_, rfl⟩
  rw [← eF_1] at S
  refine lv_goto (tgt := 18) hx hb dL_setSponsor_7 (by decide) ?_
  refine lv_iconst (v := 0) hx hb dL_setSponsor_18 (by decide) ?_
  exact r_iret X S hr dL_setSponsor_19 (Nat.le_of_ble_eq_true rfl) (Nat.le_of_ble_eq_true rfl) rfl (by rw [eF_1])

set_option maxHeartbeats 1000000 in
set_option maxRecDepth 100000 in
theorem x1_L_setSponsor (l : Launch) (D : va_G) (cA : Nat → ClassId) (ad : Nat → Nat) (sz : Nat) (F : FF) (hst : l.stackTraces = false) (x ks lm : Int32) (h : wi x 0 3 = false) : CI l D cA ad sz yL_setSponsor wsL_setSponsor 8 136 1 6 [.ref (ad 0), .int x, .int ks, .int lm] F (some (.int 1)) F := by
  refine CIW_of (own := RL) (cc := cL_setSponsor) (maxL := 5) (ret := (some .int)) (hh := [(0, 7, 10, 30), (0, 7, 14, 13)]) (by decide +kernel) rfl rfl (Nat.le_of_ble_eq_true rfl) ?_
  intro p e s m below meth c ls X S hr htab hl
  obtain ⟨⟨hx, hb, hml, hown, hts⟩, hE, hI, hlocks⟩ := id X
  have hl : lv_has ls 5 [(0, .ref (ad 0)), (1, .int x), (2, .int ks), (3, .int lm)] := hl
  refine lv_aload_n hx hb dL_setSponsor_0 rfl (lv_at hl 0 rfl) ?_
  refine lv_iload_n hx hb dL_setSponsor_1 rfl (lv_at hl 1 rfl) ?_
  refine lv_iload_n hx hb dL_setSponsor_2 rfl (lv_at hl 2 rfl) ?_
  refine lv_iload_n hx hb dL_setSponsor_3 rfl (lv_at hl 3 rfl) ?_
  refine r_VX X S (x1_X4_setSponsor l hst D cA ad _ F x ks lm h) ob_0 rfl (cwV 3 hts gL_setSponsor_X4_setSponsor rfl rfl rfl (by decide +kernel) ⟨Nat.le_of_ble_eq_true rfl, Nat.le_of_ble_eq_true rfl⟩) rfl hl.1 rfl (Nat.le_of_ble_eq_true rfl) dL_setSponsor_4 ⟨Nat.le_of_ble_eq_true rfl, Nat.le_of_ble_eq_true rfl⟩ (fun ce q9 H locs S h1 h2 h3 => ?_)
  refine vx_catch (own := RL) (name := "java/lang/IndexOutOfBoundsException") hown [] ⟨0, 7, 10, 30⟩ [⟨0, 7, 14, 13⟩] (htab.trans rfl) (fun z hz => nomatch hz) rfl (by decide) (hts (.classLink RL 30 "java/lang/IndexOutOfBoundsException") (by decide +kernel)) (va_Nw.use rfl (hE.2.2.2.2.2.1 "java/lang/IndexOutOfBoundsException" (by simp [xcl]))) h1 h2 h3 ?_
  refine lv_astore (lv' := [(4, .ref q9), (0, .ref (ad 0)), (1, .int x), (2, .int ks), (3, .int lm)]) hx hb dL_setSponsor_10 hl (by decide) rfl (fun ls hl => ?_)
  refine lv_iconst (v := 1) hx hb dL_setSponsor_12 (by decide) ?_
  exact r_iret X S hr dL_setSponsor_13 (Nat.le_of_ble_eq_true rfl) (Nat.le_of_ble_eq_true rfl) rfl rfl

set_option maxHeartbeats 1000000 in
set_option maxRecDepth 100000 in
theorem x2_L_setSponsor (l : Launch) (D : va_G) (cA : Nat → ClassId) (ad : Nat → Nat) (sz : Nat) (F : FF) (hst : l.stackTraces = false) (i : Nat) (hi : i < 4) (ks lm : Int32) (h : ¬ (wi ks 0 7 = true ∧ wi lm 0 1000000 = true)) : CI l D cA ad sz yL_setSponsor wsL_setSponsor 8 136 1 6 [.ref (ad 0), .int (nI i), .int ks, .int lm] F (some (.int 2)) F := by
  refine CIW_of (own := RL) (cc := cL_setSponsor) (maxL := 5) (ret := (some .int)) (hh := [(0, 7, 10, 30), (0, 7, 14, 13)]) (by decide +kernel) rfl rfl (Nat.le_of_ble_eq_true rfl) ?_
  intro p e s m below meth c ls X S hr htab hl
  obtain ⟨⟨hx, hb, hml, hown, hts⟩, hE, hI, hlocks⟩ := id X
  have hl : lv_has ls 5 [(0, .ref (ad 0)), (1, .int (nI i)), (2, .int ks), (3, .int lm)] := hl
  refine lv_aload_n hx hb dL_setSponsor_0 rfl (lv_at hl 0 rfl) ?_
  refine lv_iload_n hx hb dL_setSponsor_1 rfl (lv_at hl 1 rfl) ?_
  refine lv_iload_n hx hb dL_setSponsor_2 rfl (lv_at hl 2 rfl) ?_
  refine lv_iload_n hx hb dL_setSponsor_3 rfl (lv_at hl 3 rfl) ?_
  refine r_VX X S (x2_X4_setSponsor l hst D cA ad _ F i hi ks lm h) ob_0 rfl (cwV 3 hts gL_setSponsor_X4_setSponsor rfl rfl rfl (by decide +kernel) ⟨Nat.le_of_ble_eq_true rfl, Nat.le_of_ble_eq_true rfl⟩) rfl hl.1 rfl (Nat.le_of_ble_eq_true rfl) dL_setSponsor_4 ⟨Nat.le_of_ble_eq_true rfl, Nat.le_of_ble_eq_true rfl⟩ (fun ce q9 H locs S h1 h2 h3 => ?_)
  refine vx_catch (own := RL) (name := "java/lang/IllegalArgumentException") hown [⟨0, 7, 10, 30⟩] ⟨0, 7, 14, 13⟩ [] (htab.trans rfl) (fun z hz => by rw [List.mem_singleton.mp hz]; exact Or.inr ⟨by decide, "java/lang/IndexOutOfBoundsException", hts (.classLink RL 30 "java/lang/IndexOutOfBoundsException") (by decide +kernel), hE.2.2.2.2.2.2 "java/lang/IllegalArgumentException" (by simp [xcl]) "java/lang/IndexOutOfBoundsException" (by simp [xcl]) (by decide)⟩) rfl (by decide) (hts (.classLink RL 13 "java/lang/IllegalArgumentException") (by decide +kernel)) (va_Nw.use rfl (hE.2.2.2.2.2.1 "java/lang/IllegalArgumentException" (by simp [xcl]))) h1 h2 h3 ?_
  refine lv_astore (lv' := [(4, .ref q9), (0, .ref (ad 0)), (1, .int (nI i)), (2, .int ks), (3, .int lm)]) hx hb dL_setSponsor_14 hl (by decide) rfl (fun ls hl => ?_)
  refine lv_iconst (v := 2) hx hb dL_setSponsor_16 (by decide) ?_
  exact r_iret X S hr dL_setSponsor_17 (Nat.le_of_ble_eq_true rfl) (Nat.le_of_ble_eq_true rfl) rfl rfl

set_option maxHeartbeats 1000000 in
set_option maxRecDepth 100000 in
theorem w_L_take (l : Launch) (D : va_G) (cA : Nat → ClassId) (ad : Nat → Nat) (sz : Nat) (F : FF) (i : Nat) (hi : i < 4) (cr : Int32) (h1 : wi cr 1 10 = true) (t : Nat) (ht : t < 8) (et : F (4 + 8 * i + 1) 1 = nI t) : CI l D cA ad sz yL_take wsL_take 8 136 1 6 [.ref (ad 0), .int (nI i), .int cr, .ref (ad 59)] F (some (.int 0)) (u2 (u2 (u2 F (4 + 8 * i + 2) t cr) (4 + 8 * i + 1) 1 (nI (t + 1))) 59 0 (nI t)) := by
  refine CIW_of (own := RL) (cc := cL_take) (maxL := 5) (ret := (some .int)) (hh := [(0, 10, 13, 30), (0, 10, 17, 13), (0, 10, 21, 39)]) (by decide +kernel) rfl rfl (Nat.le_of_ble_eq_true rfl) ?_
  intro p e s m below meth c ls X S hr htab hl
  obtain ⟨⟨hx, hb, hml, hown, hts⟩, hE, hI, hlocks⟩ := id X
  have hl : lv_has ls 5 [(0, .ref (ad 0)), (1, .int (nI i)), (2, .int cr), (3, .ref (ad 59))] := hl
  refine lv_aload_n hx hb dL_take_0 rfl (lv_at hl 3 rfl) ?_
  refine lv_iconst (v := 0) hx hb dL_take_1 (by decide) ?_
  refine lv_aload_n hx hb dL_take_2 rfl (lv_at hl 0 rfl) ?_
  refine lv_iload_n hx hb dL_take_3 rfl (lv_at hl 1 rfl) ?_
  refine lv_iload_n hx hb dL_take_4 rfl (lv_at hl 2 rfl) ?_
  refine r_V0 X S (c_X4_take l D cA ad _ F i hi cr h1 t ht et) ob_0 rfl (cwV 2 hts gL_take_X4_take rfl rfl rfl (by decide +kernel) ⟨Nat.le_of_ble_eq_true rfl, Nat.le_of_ble_eq_true rfl⟩) rfl hl.1 rfl (Nat.le_of_ble_eq_true rfl) dL_take_5 ⟨Nat.zero_le _, Nat.zero_le _⟩ (fun H locs S => ?_)
  obtain ⟨F_1, eF_1⟩ : ∃ z, z = u2 (u2 F (4 + 8 * i + 2) t cr) (4 + 8 * i + 1) 1 (nI (t + 1)) := ⟨_, rfl⟩
  rw [← eF_1] at S
  refine lv_i2l hx hb dL_take_8 rfl ?_
  refine r_las (v := nI t) X S rfl dL_take_9 (fun H locs S => ?_)
  obtain ⟨F_2, eF_2⟩ : ∃ z, z = u2 F_1 59 0 (nI t) := ⟨_, rfl⟩
  rw [← eF_2] at S
  refine lv_goto (tgt := 25) hx hb dL_take_10 (by decide) ?_
  refine lv_iconst (v := 0) hx hb dL_take_25 (by decide) ?_
  exact r_iret X S hr dL_take_26 (Nat.le_of_ble_eq_true rfl) (Nat.le_of_ble_eq_true rfl) rfl (by rw [eF_2, eF_1])

set_option maxHeartbeats 1000000 in
set_option maxRecDepth 100000 in
theorem x1_L_take (l : Launch) (D : va_G) (cA : Nat → ClassId) (ad : Nat → Nat) (sz : Nat) (F : FF) (hst : l.stackTraces = false) (x cr : Int32) (h : wi x 0 3 = false) : CI l D cA ad sz yL_take wsL_take 8 136 1 6 [.ref (ad 0), .int x, .int cr, .ref (ad 59)] F (some (.int 1)) F := by
  refine CIW_of (own := RL) (cc := cL_take) (maxL := 5) (ret := (some .int)) (hh := [(0, 10, 13, 30), (0, 10, 17, 13), (0, 10, 21, 39)]) (by decide +kernel) rfl rfl (Nat.le_of_ble_eq_true rfl) ?_
  intro p e s m below meth c ls X S hr htab hl
  obtain ⟨⟨hx, hb, hml, hown, hts⟩, hE, hI, hlocks⟩ := id X
  have hl : lv_has ls 5 [(0, .ref (ad 0)), (1, .int x), (2, .int cr), (3, .ref (ad 59))] := hl
  refine lv_aload_n hx hb dL_take_0 rfl (lv_at hl 3 rfl) ?_
  refine lv_iconst (v := 0) hx hb dL_take_1 (by decide) ?_
  refine lv_aload_n hx hb dL_take_2 rfl (lv_at hl 0 rfl) ?_
  refine lv_iload_n hx hb dL_take_3 rfl (lv_at hl 1 rfl) ?_
  refine lv_iload_n hx hb dL_take_4 rfl (lv_at hl 2 rfl) ?_
  refine r_VX X S (x1_X4_take l hst D cA ad _ F x cr h) ob_0 rfl (cwV 2 hts gL_take_X4_take rfl rfl rfl (by decide +kernel) ⟨Nat.le_of_ble_eq_true rfl, Nat.le_of_ble_eq_true rfl⟩) rfl hl.1 rfl (Nat.le_of_ble_eq_true rfl) dL_take_5 ⟨Nat.le_of_ble_eq_true rfl, Nat.le_of_ble_eq_true rfl⟩ (fun ce q9 H locs S h1 h2 h3 => ?_)
  refine vx_catch (own := RL) (name := "java/lang/IndexOutOfBoundsException") hown [] ⟨0, 10, 13, 30⟩ [⟨0, 10, 17, 13⟩, ⟨0, 10, 21, 39⟩] (htab.trans rfl) (fun z hz => nomatch hz) rfl (by decide) (hts (.classLink RL 30 "java/lang/IndexOutOfBoundsException") (by decide +kernel)) (va_Nw.use rfl (hE.2.2.2.2.2.1 "java/lang/IndexOutOfBoundsException" (by simp [xcl]))) h1 h2 h3 ?_
  refine lv_astore (lv' := [(4, .ref q9), (0, .ref (ad 0)), (1, .int x), (2, .int cr), (3, .ref (ad 59))]) hx hb dL_take_13 hl (by decide) rfl (fun ls hl => ?_)
  refine lv_iconst (v := 1) hx hb dL_take_15 (by decide) ?_
  exact r_iret X S hr dL_take_16 (Nat.le_of_ble_eq_true rfl) (Nat.le_of_ble_eq_true rfl) rfl rfl

set_option maxHeartbeats 1000000 in
set_option maxRecDepth 100000 in
theorem x2_L_take (l : Launch) (D : va_G) (cA : Nat → ClassId) (ad : Nat → Nat) (sz : Nat) (F : FF) (hst : l.stackTraces = false) (i : Nat) (hi : i < 4) (cr : Int32) (h : wi cr 1 10 = false) : CI l D cA ad sz yL_take wsL_take 8 136 1 6 [.ref (ad 0), .int (nI i), .int cr, .ref (ad 59)] F (some (.int 2)) F := by
  refine CIW_of (own := RL) (cc := cL_take) (maxL := 5) (ret := (some .int)) (hh := [(0, 10, 13, 30), (0, 10, 17, 13), (0, 10, 21, 39)]) (by decide +kernel) rfl rfl (Nat.le_of_ble_eq_true rfl) ?_
  intro p e s m below meth c ls X S hr htab hl
  obtain ⟨⟨hx, hb, hml, hown, hts⟩, hE, hI, hlocks⟩ := id X
  have hl : lv_has ls 5 [(0, .ref (ad 0)), (1, .int (nI i)), (2, .int cr), (3, .ref (ad 59))] := hl
  refine lv_aload_n hx hb dL_take_0 rfl (lv_at hl 3 rfl) ?_
  refine lv_iconst (v := 0) hx hb dL_take_1 (by decide) ?_
  refine lv_aload_n hx hb dL_take_2 rfl (lv_at hl 0 rfl) ?_
  refine lv_iload_n hx hb dL_take_3 rfl (lv_at hl 1 rfl) ?_
  refine lv_iload_n hx hb dL_take_4 rfl (lv_at hl 2 rfl) ?_
  refine r_VX X S (x2_X4_take l hst D cA ad _ F i hi cr h) ob_0 rfl (cwV 2 hts gL_take_X4_take rfl rfl rfl (by decide +kernel) ⟨Nat.le_of_ble_eq_true rfl, Nat.le_of_ble_eq_true rfl⟩) rfl hl.1 rfl (Nat.le_of_ble_eq_true rfl) dL_take_5 ⟨Nat.le_of_ble_eq_true rfl, Nat.le_of_ble_eq_true rfl⟩ (fun ce q9 H locs S h1 h2 h3 => ?_)
  refine vx_catch (own := RL) (name := "java/lang/IllegalArgumentException") hown [⟨0, 10, 13, 30⟩] ⟨0, 10, 17, 13⟩ [⟨0, 10, 21, 39⟩] (htab.trans rfl) (fun z hz => by rw [List.mem_singleton.mp hz]; exact Or.inr ⟨by decide, "java/lang/IndexOutOfBoundsException", hts (.classLink RL 30 "java/lang/IndexOutOfBoundsException") (by decide +kernel), hE.2.2.2.2.2.2 "java/lang/IllegalArgumentException" (by simp [xcl]) "java/lang/IndexOutOfBoundsException" (by simp [xcl]) (by decide)⟩) rfl (by decide) (hts (.classLink RL 13 "java/lang/IllegalArgumentException") (by decide +kernel)) (va_Nw.use rfl (hE.2.2.2.2.2.1 "java/lang/IllegalArgumentException" (by simp [xcl]))) h1 h2 h3 ?_
  refine lv_astore (lv' := [(4, .ref q9), (0, .ref (ad 0)), (1, .int (nI i)), (2, .int cr), (3, .ref (ad 59))]) hx hb dL_take_17 hl (by decide) rfl (fun ls hl => ?_)
  refine lv_iconst (v := 2) hx hb dL_take_19 (by decide) ?_
  exact r_iret X S hr dL_take_20 (Nat.le_of_ble_eq_true rfl) (Nat.le_of_ble_eq_true rfl) rfl rfl

set_option maxHeartbeats 1000000 in
set_option maxRecDepth 100000 in
theorem x3_L_take (l : Launch) (D : va_G) (cA : Nat → ClassId) (ad : Nat → Nat) (sz : Nat) (F : FF) (hst : l.stackTraces = false) (i : Nat) (hi : i < 4) (cr : Int32) (h1 : wi cr 1 10 = true) (et : F (4 + 8 * i + 1) 1 = nI 8) : CI l D cA ad sz yL_take wsL_take 8 136 1 6 [.ref (ad 0), .int (nI i), .int cr, .ref (ad 59)] F (some (.int 3)) F := by
  refine CIW_of (own := RL) (cc := cL_take) (maxL := 5) (ret := (some .int)) (hh := [(0, 10, 13, 30), (0, 10, 17, 13), (0, 10, 21, 39)]) (by decide +kernel) rfl rfl (Nat.le_of_ble_eq_true rfl) ?_
  intro p e s m below meth c ls X S hr htab hl
  obtain ⟨⟨hx, hb, hml, hown, hts⟩, hE, hI, hlocks⟩ := id X
  have hl : lv_has ls 5 [(0, .ref (ad 0)), (1, .int (nI i)), (2, .int cr), (3, .ref (ad 59))] := hl
  refine lv_aload_n hx hb dL_take_0 rfl (lv_at hl 3 rfl) ?_
  refine lv_iconst (v := 0) hx hb dL_take_1 (by decide) ?_
  refine lv_aload_n hx hb dL_take_2 rfl (lv_at hl 0 rfl) ?_
  refine lv_iload_n hx hb dL_take_3 rfl (lv_at hl 1 rfl) ?_
  refine lv_iload_n hx hb dL_take_4 rfl (lv_at hl 2 rfl) ?_
  refine r_VX X S (x3_X4_take l hst D cA ad _ F i hi cr h1 et) ob_0 rfl (cwV 2 hts gL_take_X4_take rfl rfl rfl (by decide +kernel) ⟨Nat.le_of_ble_eq_true rfl, Nat.le_of_ble_eq_true rfl⟩) rfl hl.1 rfl (Nat.le_of_ble_eq_true rfl) dL_take_5 ⟨Nat.le_of_ble_eq_true rfl, Nat.le_of_ble_eq_true rfl⟩ (fun ce q9 H locs S h1 h2 h3 => ?_)
  refine vx_catch (own := RL) (name := "java/lang/IllegalStateException") hown [⟨0, 10, 13, 30⟩, ⟨0, 10, 17, 13⟩] ⟨0, 10, 21, 39⟩ [] (htab.trans rfl) (fun z hz => by
      simp only [List.mem_cons, List.not_mem_nil, or_false] at hz
      rcases hz with rfl | rfl
      · exact Or.inr ⟨by decide, "java/lang/IndexOutOfBoundsException", hts (.classLink RL 30 "java/lang/IndexOutOfBoundsException") (by decide +kernel), hE.2.2.2.2.2.2 "java/lang/IllegalStateException" (by simp [xcl]) "java/lang/IndexOutOfBoundsException" (by simp [xcl]) (by decide)⟩
      · exact Or.inr ⟨by decide, "java/lang/IllegalArgumentException", hts (.classLink RL 13 "java/lang/IllegalArgumentException") (by decide +kernel), hE.2.2.2.2.2.2 "java/lang/IllegalStateException" (by simp [xcl]) "java/lang/IllegalArgumentException" (by simp [xcl]) (by decide)⟩) rfl (by decide) (hts (.classLink RL 39 "java/lang/IllegalStateException") (by decide +kernel)) (va_Nw.use rfl (hE.2.2.2.2.2.1 "java/lang/IllegalStateException" (by simp [xcl]))) h1 h2 h3 ?_
  refine lv_astore (lv' := [(4, .ref q9), (0, .ref (ad 0)), (1, .int (nI i)), (2, .int cr), (3, .ref (ad 59))]) hx hb dL_take_21 hl (by decide) rfl (fun ls hl => ?_)
  refine lv_iconst (v := 3) hx hb dL_take_23 (by decide) ?_
  exact r_iret X S hr dL_take_24 (Nat.le_of_ble_eq_true rfl) (Nat.le_of_ble_eq_true rfl) rfl rfl

set_option maxHeartbeats 1000000 in
set_option maxRecDepth 100000 in
theorem w_L_drop (l : Launch) (D : va_G) (cA : Nat → ClassId) (ad : Nat → Nat) (sz : Nat) (F : FF) (i : Nat) (hi : i < 4) (j : Nat) (hj : j < 8) (h1 : hasI (nI j) (F (4 + 8 * i + 1) 1) = true) (h2 : ¬ F (4 + 8 * i + 2) j = 0) (w : Nat) (hw : w < 16) (ew : F 0 7 = nI w) : CI l D cA ad sz yL_drop wsL_drop 8 135 1 6 [.ref (ad 0), .int (nI i), .int (nI j), .ref (ad 59)] F (some (.int 0)) (u2 (drF F i j w) 59 0 (drK F i j w)) := by
  refine CIW_of (own := RL) (cc := cL_drop) (maxL := 5) (ret := (some .int)) (hh := [(0, 10, 13, 30), (0, 10, 17, 39)]) (by decide +kernel) rfl rfl (Nat.le_of_ble_eq_true rfl) ?_
  intro p e s m below meth c ls X S hr htab hl
  obtain ⟨⟨hx, hb, hml, hown, hts⟩, hE, hI, hlocks⟩ := id X
  have hl : lv_has ls 5 [(0, .ref (ad 0)), (1, .int (nI i)), (2, .int (nI j)), (3, .ref (ad 59))] := hl
  refine lv_aload_n hx hb dL_drop_0 rfl (lv_at hl 3 rfl) ?_
  refine lv_iconst (v := 0) hx hb dL_drop_1 (by decide) ?_
  refine lv_aload_n hx hb dL_drop_2 rfl (lv_at hl 0 rfl) ?_
  refine lv_iload_n hx hb dL_drop_3 rfl (lv_at hl 1 rfl) ?_
  refine lv_iload_n hx hb dL_drop_4 rfl (lv_at hl 2 rfl) ?_
  refine r_V0 X S (c_X4_drop l D cA ad _ F i hi j hj h1 h2 w hw ew) ob_0 rfl (cwV 2 hts gL_drop_X4_drop rfl rfl rfl (by decide +kernel) ⟨Nat.le_of_ble_eq_true rfl, Nat.le_of_ble_eq_true rfl⟩) rfl hl.1 rfl (Nat.le_of_ble_eq_true rfl) dL_drop_5 ⟨Nat.zero_le _, Nat.zero_le _⟩ (fun H locs S => ?_)
  obtain ⟨F_1, eF_1⟩ : ∃ z, z = drF F i j w := ⟨_, rfl⟩
  rw [← eF_1] at S
  refine lv_i2l hx hb dL_drop_8 rfl ?_
  refine r_las (v := drK F i j w) X S rfl dL_drop_9 (fun H locs S => ?_)
  obtain ⟨F_2, eF_2⟩ : ∃ z, z = u2 F_1 59 0 (drK F i j w) := ⟨_, rfl⟩
  rw [← eF_2] at S
  refine lv_goto (tgt := 21) hx hb dL_drop_10 (by decide) ?_
  refine lv_iconst (v := 0) hx hb dL_drop_21 (by decide) ?_
  exact r_iret X S hr dL_drop_22 (Nat.le_of_ble_eq_true rfl) (Nat.le_of_ble_eq_true rfl) rfl (by rw [eF_2, eF_1])

set_option maxHeartbeats 1000000 in
set_option maxRecDepth 100000 in
theorem x1_L_drop (l : Launch) (D : va_G) (cA : Nat → ClassId) (ad : Nat → Nat) (sz : Nat) (F : FF) (hst : l.stackTraces = false) (x y : Int32) (h : wi x 0 3 = false) : CI l D cA ad sz yL_drop wsL_drop 8 135 1 6 [.ref (ad 0), .int x, .int y, .ref (ad 59)] F (some (.int 1)) F := by
  refine CIW_of (own := RL) (cc := cL_drop) (maxL := 5) (ret := (some .int)) (hh := [(0, 10, 13, 30), (0, 10, 17, 39)]) (by decide +kernel) rfl rfl (Nat.le_of_ble_eq_true rfl) ?_
  intro p e s m below meth c ls X S hr htab hl
  obtain ⟨⟨hx, hb, hml, hown, hts⟩, hE, hI, hlocks⟩ := id X
  have hl : lv_has ls 5 [(0, .ref (ad 0)), (1, .int x), (2, .int y), (3, .ref (ad 59))] := hl
  refine lv_aload_n hx hb dL_drop_0 rfl (lv_at hl 3 rfl) ?_
  refine lv_iconst (v := 0) hx hb dL_drop_1 (by decide) ?_
  refine lv_aload_n hx hb dL_drop_2 rfl (lv_at hl 0 rfl) ?_
  refine lv_iload_n hx hb dL_drop_3 rfl (lv_at hl 1 rfl) ?_
  refine lv_iload_n hx hb dL_drop_4 rfl (lv_at hl 2 rfl) ?_
  refine r_VX X S (x1_X4_drop l hst D cA ad _ F x y h) ob_0 rfl (cwV 2 hts gL_drop_X4_drop rfl rfl rfl (by decide +kernel) ⟨Nat.le_of_ble_eq_true rfl, Nat.le_of_ble_eq_true rfl⟩) rfl hl.1 rfl (Nat.le_of_ble_eq_true rfl) dL_drop_5 ⟨Nat.le_of_ble_eq_true rfl, Nat.le_of_ble_eq_true rfl⟩ (fun ce q9 H locs S h1 h2 h3 => ?_)
  refine vx_catch (own := RL) (name := "java/lang/IndexOutOfBoundsException") hown [] ⟨0, 10, 13, 30⟩ [⟨0, 10, 17, 39⟩] (htab.trans rfl) (fun z hz => nomatch hz) rfl (by decide) (hts (.classLink RL 30 "java/lang/IndexOutOfBoundsException") (by decide +kernel)) (va_Nw.use rfl (hE.2.2.2.2.2.1 "java/lang/IndexOutOfBoundsException" (by simp [xcl]))) h1 h2 h3 ?_
  refine lv_astore (lv' := [(4, .ref q9), (0, .ref (ad 0)), (1, .int x), (2, .int y), (3, .ref (ad 59))]) hx hb dL_drop_13 hl (by decide) rfl (fun ls hl => ?_)
  refine lv_iconst (v := 1) hx hb dL_drop_15 (by decide) ?_
  exact r_iret X S hr dL_drop_16 (Nat.le_of_ble_eq_true rfl) (Nat.le_of_ble_eq_true rfl) rfl rfl

set_option maxHeartbeats 1000000 in
set_option maxRecDepth 100000 in
theorem x4_L_drop (l : Launch) (D : va_G) (cA : Nat → ClassId) (ad : Nat → Nat) (sz : Nat) (F : FF) (hst : l.stackTraces = false) (i : Nat) (hi : i < 4) (y : Int32) (h : hasI y (F (4 + 8 * i + 1) 1) = false) : CI l D cA ad sz yL_drop wsL_drop 8 135 1 6 [.ref (ad 0), .int (nI i), .int y, .ref (ad 59)] F (some (.int 1)) F := by
  refine CIW_of (own := RL) (cc := cL_drop) (maxL := 5) (ret := (some .int)) (hh := [(0, 10, 13, 30), (0, 10, 17, 39)]) (by decide +kernel) rfl rfl (Nat.le_of_ble_eq_true rfl) ?_
  intro p e s m below meth c ls X S hr htab hl
  obtain ⟨⟨hx, hb, hml, hown, hts⟩, hE, hI, hlocks⟩ := id X
  have hl : lv_has ls 5 [(0, .ref (ad 0)), (1, .int (nI i)), (2, .int y), (3, .ref (ad 59))] := hl
  refine lv_aload_n hx hb dL_drop_0 rfl (lv_at hl 3 rfl) ?_
  refine lv_iconst (v := 0) hx hb dL_drop_1 (by decide) ?_
  refine lv_aload_n hx hb dL_drop_2 rfl (lv_at hl 0 rfl) ?_
  refine lv_iload_n hx hb dL_drop_3 rfl (lv_at hl 1 rfl) ?_
  refine lv_iload_n hx hb dL_drop_4 rfl (lv_at hl 2 rfl) ?_
  refine r_VX X S (x4_X4_drop l hst D cA ad _ F i hi y h) ob_0 rfl (cwV 2 hts gL_drop_X4_drop rfl rfl rfl (by decide +kernel) ⟨Nat.le_of_ble_eq_true rfl, Nat.le_of_ble_eq_true rfl⟩) rfl hl.1 rfl (Nat.le_of_ble_eq_true rfl) dL_drop_5 ⟨Nat.le_of_ble_eq_true rfl, Nat.le_of_ble_eq_true rfl⟩ (fun ce q9 H locs S h1 h2 h3 => ?_)
  refine vx_catch (own := RL) (name := "java/lang/IndexOutOfBoundsException") hown [] ⟨0, 10, 13, 30⟩ [⟨0, 10, 17, 39⟩] (htab.trans rfl) (fun z hz => nomatch hz) rfl (by decide) (hts (.classLink RL 30 "java/lang/IndexOutOfBoundsException") (by decide +kernel)) (va_Nw.use rfl (hE.2.2.2.2.2.1 "java/lang/IndexOutOfBoundsException" (by simp [xcl]))) h1 h2 h3 ?_
  refine lv_astore (lv' := [(4, .ref q9), (0, .ref (ad 0)), (1, .int (nI i)), (2, .int y), (3, .ref (ad 59))]) hx hb dL_drop_13 hl (by decide) rfl (fun ls hl => ?_)
  refine lv_iconst (v := 1) hx hb dL_drop_15 (by decide) ?_
  exact r_iret X S hr dL_drop_16 (Nat.le_of_ble_eq_true rfl) (Nat.le_of_ble_eq_true rfl) rfl rfl

set_option maxHeartbeats 1000000 in
set_option maxRecDepth 100000 in
theorem x2_L_drop (l : Launch) (D : va_G) (cA : Nat → ClassId) (ad : Nat → Nat) (sz : Nat) (F : FF) (hst : l.stackTraces = false) (i : Nat) (hi : i < 4) (j : Nat) (hj : j < 8) (h1 : hasI (nI j) (F (4 + 8 * i + 1) 1) = true) (h2 : F (4 + 8 * i + 2) j = 0) : CI l D cA ad sz yL_drop wsL_drop 8 135 1 6 [.ref (ad 0), .int (nI i), .int (nI j), .ref (ad 59)] F (some (.int 2)) F := by
  refine CIW_of (own := RL) (cc := cL_drop) (maxL := 5) (ret := (some .int)) (hh := [(0, 10, 13, 30), (0, 10, 17, 39)]) (by decide +kernel) rfl rfl (Nat.le_of_ble_eq_true rfl) ?_
  intro p e s m below meth c ls X S hr htab hl
  obtain ⟨⟨hx, hb, hml, hown, hts⟩, hE, hI, hlocks⟩ := id X
  have hl : lv_has ls 5 [(0, .ref (ad 0)), (1, .int (nI i)), (2, .int (nI j)), (3, .ref (ad 59))] := hl
  refine lv_aload_n hx hb dL_drop_0 rfl (lv_at hl 3 rfl) ?_
  refine lv_iconst (v := 0) hx hb dL_drop_1 (by decide) ?_
  refine lv_aload_n hx hb dL_drop_2 rfl (lv_at hl 0 rfl) ?_
  refine lv_iload_n hx hb dL_drop_3 rfl (lv_at hl 1 rfl) ?_
  refine lv_iload_n hx hb dL_drop_4 rfl (lv_at hl 2 rfl) ?_
  refine r_VX X S (x2_X4_drop l hst D cA ad _ F i hi j hj h1 h2) ob_0 rfl (cwV 2 hts gL_drop_X4_drop rfl rfl rfl (by decide +kernel) ⟨Nat.le_of_ble_eq_true rfl, Nat.le_of_ble_eq_true rfl⟩) rfl hl.1 rfl (Nat.le_of_ble_eq_true rfl) dL_drop_5 ⟨Nat.le_of_ble_eq_true rfl, Nat.le_of_ble_eq_true rfl⟩ (fun ce q9 H locs S h1 h2 h3 => ?_)
  refine vx_catch (own := RL) (name := "java/lang/IllegalStateException") hown [⟨0, 10, 13, 30⟩] ⟨0, 10, 17, 39⟩ [] (htab.trans rfl) (fun z hz => by rw [List.mem_singleton.mp hz]; exact Or.inr ⟨by decide, "java/lang/IndexOutOfBoundsException", hts (.classLink RL 30 "java/lang/IndexOutOfBoundsException") (by decide +kernel), hE.2.2.2.2.2.2 "java/lang/IllegalStateException" (by simp [xcl]) "java/lang/IndexOutOfBoundsException" (by simp [xcl]) (by decide)⟩) rfl (by decide) (hts (.classLink RL 39 "java/lang/IllegalStateException") (by decide +kernel)) (va_Nw.use rfl (hE.2.2.2.2.2.1 "java/lang/IllegalStateException" (by simp [xcl]))) h1 h2 h3 ?_
  refine lv_astore (lv' := [(4, .ref q9), (0, .ref (ad 0)), (1, .int (nI i)), (2, .int (nI j)), (3, .ref (ad 59))]) hx hb dL_drop_17 hl (by decide) rfl (fun ls hl => ?_)
  refine lv_iconst (v := 2) hx hb dL_drop_19 (by decide) ?_
  exact r_iret X S hr dL_drop_20 (Nat.le_of_ble_eq_true rfl) (Nat.le_of_ble_eq_true rfl) rfl rfl

set_option maxHeartbeats 1000000 in
set_option maxRecDepth 100000 in
theorem w_L_charge1 (l : Launch) (D : va_G) (cA : Nat → ClassId) (ad : Nat → Nat) (sz : Nat) (F : FF) (i : Nat) (hi : i < 4) (am : Int32) (h1 : wi am 1 1000000 = true) : CI l D cA ad sz yL_charge wsL_charge 8 136 1 6 [.ref (ad 0), .int (nI i), .int 1, .int am, .ref (ad 59)] F (some (.int 0)) (u2 (u2 F (4 + 8 * i) 6 (F (4 + 8 * i) 6 + am)) 59 0 (F (4 + 8 * i) 6 + am)) := by
  refine CIW_of (own := RL) (cc := cL_charge) (maxL := 6) (ret := (some .int)) (hh := [(0, 12, 15, 30), (0, 12, 19, 13)]) (by decide +kernel) rfl rfl (Nat.le_of_ble_eq_true rfl) ?_
  intro p e s m below meth c ls X S hr htab hl
  obtain ⟨⟨hx, hb, hml, hown, hts⟩, hE, hI, hlocks⟩ := id X
  have hl : lv_has ls 6 [(0, .ref (ad 0)), (1, .int (nI i)), (2, .int 1), (3, .int am), (4, .ref (ad 59))] := hl
  refine lv_aload hx hb dL_charge_0 (lv_at hl 4 rfl) ?_
  refine lv_iconst (v := 0) hx hb dL_charge_2 (by decide) ?_
  refine lv_aload_n hx hb dL_charge_3 rfl (lv_at hl 0 rfl) ?_
  refine lv_iload_n hx hb dL_charge_4 rfl (lv_at hl 1 rfl) ?_
  refine lv_iload_n hx hb dL_charge_5 rfl (lv_at hl 2 rfl) ?_
  refine lv_iload_n hx hb dL_charge_6 rfl (lv_at hl 3 rfl) ?_
  refine r_V0 X S (c_X4_charge1 l D cA ad _ F i hi am h1) ob_0 rfl (cwV 3 hts gL_charge_X4_charge rfl rfl rfl (by decide +kernel) ⟨Nat.le_of_ble_eq_true rfl, Nat.le_of_ble_eq_true rfl⟩) rfl hl.1 rfl (Nat.le_of_ble_eq_true rfl) dL_charge_7 ⟨Nat.zero_le _, Nat.zero_le _⟩ (fun H locs S => ?_)
  obtain ⟨F_1, eF_1⟩ : ∃ z, z = u2 F (4 + 8 * i) 6 (F (4 + 8 * i) 6 + am) := ⟨_, rfl⟩
  rw [← eF_1] at S
  refine lv_i2l hx hb dL_charge_10 rfl ?_
  refine r_las (v := F (4 + 8 * i) 6 + am) X S rfl dL_charge_11 (fun H locs S => ?_)
  obtain ⟨F_2, eF_2⟩ : ∃ z, z = u2 F_1 59 0 (F (4 + 8 * i) 6 + am) := ⟨_, rfl⟩
  rw [← eF_2] at S
  refine lv_goto (tgt := 23) hx hb dL_charge_12 (by decide) ?_
  refine lv_iconst (v := 0) hx hb dL_charge_23 (by decide) ?_
  exact r_iret X S hr dL_charge_24 (Nat.le_of_ble_eq_true rfl) (Nat.le_of_ble_eq_true rfl) rfl (by rw [eF_2, eF_1])

set_option maxHeartbeats 1000000 in
set_option maxRecDepth 100000 in
theorem w_L_charge2 (l : Launch) (D : va_G) (cA : Nat → ClassId) (ad : Nat → Nat) (sz : Nat) (F : FF) (i : Nat) (hi : i < 4) (am : Int32) (h1 : wi am 1 1000000 = true) : CI l D cA ad sz yL_charge wsL_charge 8 136 1 6 [.ref (ad 0), .int (nI i), .int 2, .int am, .ref (ad 59)] F (some (.int 0)) (u2 (u2 F (4 + 8 * i) 7 (F (4 + 8 * i) 7 + am)) 59 0 (F (4 + 8 * i) 7 + am)) := by
  refine CIW_of (own := RL) (cc := cL_charge) (maxL := 6) (ret := (some .int)) (hh := [(0, 12, 15, 30), (0, 12, 19, 13)]) (by decide +kernel) rfl rfl (Nat.le_of_ble_eq_true rfl) ?_
  intro p e s m below meth c ls X S hr htab hl
  obtain ⟨⟨hx, hb, hml, hown, hts⟩, hE, hI, hlocks⟩ := id X
  have hl : lv_has ls 6 [(0, .ref (ad 0)), (1, .int (nI i)), (2, .int 2), (3, .int am), (4, .ref (ad 59))] := hl
  refine lv_aload hx hb dL_charge_0 (lv_at hl 4 rfl) ?_
  refine lv_iconst (v := 0) hx hb dL_charge_2 (by decide) ?_
  refine lv_aload_n hx hb dL_charge_3 rfl (lv_at hl 0 rfl) ?_
  refine lv_iload_n hx hb dL_charge_4 rfl (lv_at hl 1 rfl) ?_
  refine lv_iload_n hx hb dL_charge_5 rfl (lv_at hl 2 rfl) ?_
  refine lv_iload_n hx hb dL_charge_6 rfl (lv_at hl 3 rfl) ?_
  refine r_V0 X S (c_X4_charge2 l D cA ad _ F i hi am h1) ob_0 rfl (cwV 3 hts gL_charge_X4_charge rfl rfl rfl (by decide +kernel) ⟨Nat.le_of_ble_eq_true rfl, Nat.le_of_ble_eq_true rfl⟩) rfl hl.1 rfl (Nat.le_of_ble_eq_true rfl) dL_charge_7 ⟨Nat.zero_le _, Nat.zero_le _⟩ (fun H locs S => ?_)
  obtain ⟨F_1, eF_1⟩ : ∃ z, z = u2 F (4 + 8 * i) 7 (F (4 + 8 * i) 7 + am) := ⟨_, rfl⟩
  rw [← eF_1] at S
  refine lv_i2l hx hb dL_charge_10 rfl ?_
  refine r_las (v := F (4 + 8 * i) 7 + am) X S rfl dL_charge_11 (fun H locs S => ?_)
  obtain ⟨F_2, eF_2⟩ : ∃ z, z = u2 F_1 59 0 (F (4 + 8 * i) 7 + am) := ⟨_, rfl⟩
  rw [← eF_2] at S
  refine lv_goto (tgt := 23) hx hb dL_charge_12 (by decide) ?_
  refine lv_iconst (v := 0) hx hb dL_charge_23 (by decide) ?_
  exact r_iret X S hr dL_charge_24 (Nat.le_of_ble_eq_true rfl) (Nat.le_of_ble_eq_true rfl) rfl (by rw [eF_2, eF_1])

set_option maxHeartbeats 1000000 in
set_option maxRecDepth 100000 in
theorem x1_L_charge (l : Launch) (D : va_G) (cA : Nat → ClassId) (ad : Nat → Nat) (sz : Nat) (F : FF) (hst : l.stackTraces = false) (x kd am : Int32) (h : wi x 0 3 = false) : CI l D cA ad sz yL_charge wsL_charge 8 136 1 6 [.ref (ad 0), .int x, .int kd, .int am, .ref (ad 59)] F (some (.int 1)) F := by
  refine CIW_of (own := RL) (cc := cL_charge) (maxL := 6) (ret := (some .int)) (hh := [(0, 12, 15, 30), (0, 12, 19, 13)]) (by decide +kernel) rfl rfl (Nat.le_of_ble_eq_true rfl) ?_
  intro p e s m below meth c ls X S hr htab hl
  obtain ⟨⟨hx, hb, hml, hown, hts⟩, hE, hI, hlocks⟩ := id X
  have hl : lv_has ls 6 [(0, .ref (ad 0)), (1, .int x), (2, .int kd), (3, .int am), (4, .ref (ad 59))] := hl
  refine lv_aload hx hb dL_charge_0 (lv_at hl 4 rfl) ?_
  refine lv_iconst (v := 0) hx hb dL_charge_2 (by decide) ?_
  refine lv_aload_n hx hb dL_charge_3 rfl (lv_at hl 0 rfl) ?_
  refine lv_iload_n hx hb dL_charge_4 rfl (lv_at hl 1 rfl) ?_
  refine lv_iload_n hx hb dL_charge_5 rfl (lv_at hl 2 rfl) ?_
  refine lv_iload_n hx hb dL_charge_6 rfl (lv_at hl 3 rfl) ?_
  refine r_VX X S (x1_X4_charge l hst D cA ad _ F x kd am h) ob_0 rfl (cwV 3 hts gL_charge_X4_charge rfl rfl rfl (by decide +kernel) ⟨Nat.le_of_ble_eq_true rfl, Nat.le_of_ble_eq_true rfl⟩) rfl hl.1 rfl (Nat.le_of_ble_eq_true rfl) dL_charge_7 ⟨Nat.le_of_ble_eq_true rfl, Nat.le_of_ble_eq_true rfl⟩ (fun ce q9 H locs S h1 h2 h3 => ?_)
  refine vx_catch (own := RL) (name := "java/lang/IndexOutOfBoundsException") hown [] ⟨0, 12, 15, 30⟩ [⟨0, 12, 19, 13⟩] (htab.trans rfl) (fun z hz => nomatch hz) rfl (by decide) (hts (.classLink RL 30 "java/lang/IndexOutOfBoundsException") (by decide +kernel)) (va_Nw.use rfl (hE.2.2.2.2.2.1 "java/lang/IndexOutOfBoundsException" (by simp [xcl]))) h1 h2 h3 ?_
  refine lv_astore (lv' := [(5, .ref q9), (0, .ref (ad 0)), (1, .int x), (2, .int kd), (3, .int am), (4, .ref (ad 59))]) hx hb dL_charge_15 hl (by decide) rfl (fun ls hl => ?_)
  refine lv_iconst (v := 1) hx hb dL_charge_17 (by decide) ?_
  exact r_iret X S hr dL_charge_18 (Nat.le_of_ble_eq_true rfl) (Nat.le_of_ble_eq_true rfl) rfl rfl

set_option maxHeartbeats 1000000 in
set_option maxRecDepth 100000 in
theorem x2_L_charge (l : Launch) (D : va_G) (cA : Nat → ClassId) (ad : Nat → Nat) (sz : Nat) (F : FF) (hst : l.stackTraces = false) (i : Nat) (hi : i < 4) (kd am : Int32) (h : ¬ ((kd = 1 ∨ kd = 2) ∧ wi am 1 1000000 = true)) : CI l D cA ad sz yL_charge wsL_charge 8 136 1 6 [.ref (ad 0), .int (nI i), .int kd, .int am, .ref (ad 59)] F (some (.int 2)) F := by
  refine CIW_of (own := RL) (cc := cL_charge) (maxL := 6) (ret := (some .int)) (hh := [(0, 12, 15, 30), (0, 12, 19, 13)]) (by decide +kernel) rfl rfl (Nat.le_of_ble_eq_true rfl) ?_
  intro p e s m below meth c ls X S hr htab hl
  obtain ⟨⟨hx, hb, hml, hown, hts⟩, hE, hI, hlocks⟩ := id X
  have hl : lv_has ls 6 [(0, .ref (ad 0)), (1, .int (nI i)), (2, .int kd), (3, .int am), (4, .ref (ad 59))] := hl
  refine lv_aload hx hb dL_charge_0 (lv_at hl 4 rfl) ?_
  refine lv_iconst (v := 0) hx hb dL_charge_2 (by decide) ?_
  refine lv_aload_n hx hb dL_charge_3 rfl (lv_at hl 0 rfl) ?_
  refine lv_iload_n hx hb dL_charge_4 rfl (lv_at hl 1 rfl) ?_
  refine lv_iload_n hx hb dL_charge_5 rfl (lv_at hl 2 rfl) ?_
  refine lv_iload_n hx hb dL_charge_6 rfl (lv_at hl 3 rfl) ?_
  refine r_VX X S (x2_X4_charge l hst D cA ad _ F i hi kd am h) ob_0 rfl (cwV 3 hts gL_charge_X4_charge rfl rfl rfl (by decide +kernel) ⟨Nat.le_of_ble_eq_true rfl, Nat.le_of_ble_eq_true rfl⟩) rfl hl.1 rfl (Nat.le_of_ble_eq_true rfl) dL_charge_7 ⟨Nat.le_of_ble_eq_true rfl, Nat.le_of_ble_eq_true rfl⟩ (fun ce q9 H locs S h1 h2 h3 => ?_)
  refine vx_catch (own := RL) (name := "java/lang/IllegalArgumentException") hown [⟨0, 12, 15, 30⟩] ⟨0, 12, 19, 13⟩ [] (htab.trans rfl) (fun z hz => by rw [List.mem_singleton.mp hz]; exact Or.inr ⟨by decide, "java/lang/IndexOutOfBoundsException", hts (.classLink RL 30 "java/lang/IndexOutOfBoundsException") (by decide +kernel), hE.2.2.2.2.2.2 "java/lang/IllegalArgumentException" (by simp [xcl]) "java/lang/IndexOutOfBoundsException" (by simp [xcl]) (by decide)⟩) rfl (by decide) (hts (.classLink RL 13 "java/lang/IllegalArgumentException") (by decide +kernel)) (va_Nw.use rfl (hE.2.2.2.2.2.1 "java/lang/IllegalArgumentException" (by simp [xcl]))) h1 h2 h3 ?_
  refine lv_astore (lv' := [(5, .ref q9), (0, .ref (ad 0)), (1, .int (nI i)), (2, .int kd), (3, .int am), (4, .ref (ad 59))]) hx hb dL_charge_19 hl (by decide) rfl (fun ls hl => ?_)
  refine lv_iconst (v := 2) hx hb dL_charge_21 (by decide) ?_
  exact r_iret X S hr dL_charge_22 (Nat.le_of_ble_eq_true rfl) (Nat.le_of_ble_eq_true rfl) rfl rfl

set_option maxHeartbeats 1000000 in
set_option maxRecDepth 100000 in
theorem w_L_award (l : Launch) (D : va_G) (cA : Nat → ClassId) (ad : Nat → Nat) (sz : Nat) (F : FF) (i : Nat) (hi : i < 4) (rk am : Int32) (h1 : wi rk 0 2 = true) (h2 : wi am 1 1000000 = true) (t : Nat) (ht : t < 6) (et : F (4 + 8 * i + 3) 3 = nI t) : CI l D cA ad sz yL_award wsL_award 8 137 1 6 [.ref (ad 0), .int (nI i), .int rk, .int am, .ref (ad 59)] F (some (.int 0)) (u2 (u2 (u2 (u2 F (4 + 8 * i + 4) t rk) (4 + 8 * i + 5) t am) (4 + 8 * i + 3) 3 (nI (t + 1))) 59 0 (nI t)) := by
  refine CIW_of (own := RL) (cc := cL_award) (maxL := 6) (ret := (some .int)) (hh := [(0, 12, 15, 30), (0, 12, 19, 13), (0, 12, 23, 39)]) (by decide +kernel) rfl rfl (Nat.le_of_ble_eq_true rfl) ?_
  intro p e s m below meth c ls X S hr htab hl
  obtain ⟨⟨hx, hb, hml, hown, hts⟩, hE, hI, hlocks⟩ := id X
  have hl : lv_has ls 6 [(0, .ref (ad 0)), (1, .int (nI i)), (2, .int rk), (3, .int am), (4, .ref (ad 59))] := hl
  refine lv_aload hx hb dL_award_0 (lv_at hl 4 rfl) ?_
  refine lv_iconst (v := 0) hx hb dL_award_2 (by decide) ?_
  refine lv_aload_n hx hb dL_award_3 rfl (lv_at hl 0 rfl) ?_
  refine lv_iload_n hx hb dL_award_4 rfl (lv_at hl 1 rfl) ?_
  refine lv_iload_n hx hb dL_award_5 rfl (lv_at hl 2 rfl) ?_
  refine lv_iload_n hx hb dL_award_6 rfl (lv_at hl 3 rfl) ?_
  refine r_V0 X S (c_X4_award l D cA ad _ F i hi rk am h1 h2 t ht et) ob_0 rfl (cwV 3 hts gL_award_X4_award rfl rfl rfl (by decide +kernel) ⟨Nat.le_of_ble_eq_true rfl, Nat.le_of_ble_eq_true rfl⟩) rfl hl.1 rfl (Nat.le_of_ble_eq_true rfl) dL_award_7 ⟨Nat.zero_le _, Nat.zero_le _⟩ (fun H locs S => ?_)
  obtain ⟨F_1, eF_1⟩ : ∃ z, z = u2 (u2 (u2 F (4 + 8 * i + 4) t rk) (4 + 8 * i + 5) t am) (4 + 8 * i + 3) 3 (nI (t + 1)) := ⟨_, rfl⟩
  rw [← eF_1] at S
  refine lv_i2l hx hb dL_award_10 rfl ?_
  refine r_las (v := nI t) X S rfl dL_award_11 (fun H locs S => ?_)
  obtain ⟨F_2, eF_2⟩ : ∃ z, z = u2 F_1 59 0 (nI t) := ⟨_, rfl⟩
  rw [← eF_2] at S
  refine lv_goto (tgt := 27) hx hb dL_award_12 (by decide) ?_
  refine lv_iconst (v := 0) hx hb dL_award_27 (by decide) ?_
  exact r_iret X S hr dL_award_28 (Nat.le_of_ble_eq_true rfl) (Nat.le_of_ble_eq_true rfl) rfl (by rw [eF_2, eF_1])

set_option maxHeartbeats 1000000 in
set_option maxRecDepth 100000 in
theorem x1_L_award (l : Launch) (D : va_G) (cA : Nat → ClassId) (ad : Nat → Nat) (sz : Nat) (F : FF) (hst : l.stackTraces = false) (x rk am : Int32) (h : wi x 0 3 = false) : CI l D cA ad sz yL_award wsL_award 8 137 1 6 [.ref (ad 0), .int x, .int rk, .int am, .ref (ad 59)] F (some (.int 1)) F := by
  refine CIW_of (own := RL) (cc := cL_award) (maxL := 6) (ret := (some .int)) (hh := [(0, 12, 15, 30), (0, 12, 19, 13), (0, 12, 23, 39)]) (by decide +kernel) rfl rfl (Nat.le_of_ble_eq_true rfl) ?_
  intro p e s m below meth c ls X S hr htab hl
  obtain ⟨⟨hx, hb, hml, hown, hts⟩, hE, hI, hlocks⟩ := id X
  have hl : lv_has ls 6 [(0, .ref (ad 0)), (1, .int x), (2, .int rk), (3, .int am), (4, .ref (ad 59))] := hl
  refine lv_aload hx hb dL_award_0 (lv_at hl 4 rfl) ?_
  refine lv_iconst (v := 0) hx hb dL_award_2 (by decide) ?_
  refine lv_aload_n hx hb dL_award_3 rfl (lv_at hl 0 rfl) ?_
  refine lv_iload_n hx hb dL_award_4 rfl (lv_at hl 1 rfl) ?_
  refine lv_iload_n hx hb dL_award_5 rfl (lv_at hl 2 rfl) ?_
  refine lv_iload_n hx hb dL_award_6 rfl (lv_at hl 3 rfl) ?_
  refine r_VX X S (x1_X4_award l hst D cA ad _ F x rk am h) ob_0 rfl (cwV 3 hts gL_award_X4_award rfl rfl rfl (by decide +kernel) ⟨Nat.le_of_ble_eq_true rfl, Nat.le_of_ble_eq_true rfl⟩) rfl hl.1 rfl (Nat.le_of_ble_eq_true rfl) dL_award_7 ⟨Nat.le_of_ble_eq_true rfl, Nat.le_of_ble_eq_true rfl⟩ (fun ce q9 H locs S h1 h2 h3 => ?_)
  refine vx_catch (own := RL) (name := "java/lang/IndexOutOfBoundsException") hown [] ⟨0, 12, 15, 30⟩ [⟨0, 12, 19, 13⟩, ⟨0, 12, 23, 39⟩] (htab.trans rfl) (fun z hz => nomatch hz) rfl (by decide) (hts (.classLink RL 30 "java/lang/IndexOutOfBoundsException") (by decide +kernel)) (va_Nw.use rfl (hE.2.2.2.2.2.1 "java/lang/IndexOutOfBoundsException" (by simp [xcl]))) h1 h2 h3 ?_
  refine lv_astore (lv' := [(5, .ref q9), (0, .ref (ad 0)), (1, .int x), (2, .int rk), (3, .int am), (4, .ref (ad 59))]) hx hb dL_award_15 hl (by decide) rfl (fun ls hl => ?_)
  refine lv_iconst (v := 1) hx hb dL_award_17 (by decide) ?_
  exact r_iret X S hr dL_award_18 (Nat.le_of_ble_eq_true rfl) (Nat.le_of_ble_eq_true rfl) rfl rfl

set_option maxHeartbeats 1000000 in
set_option maxRecDepth 100000 in
theorem x2_L_award (l : Launch) (D : va_G) (cA : Nat → ClassId) (ad : Nat → Nat) (sz : Nat) (F : FF) (hst : l.stackTraces = false) (i : Nat) (hi : i < 4) (rk am : Int32) (h : ¬ (wi rk 0 2 = true ∧ wi am 1 1000000 = true)) : CI l D cA ad sz yL_award wsL_award 8 137 1 6 [.ref (ad 0), .int (nI i), .int rk, .int am, .ref (ad 59)] F (some (.int 2)) F := by
  refine CIW_of (own := RL) (cc := cL_award) (maxL := 6) (ret := (some .int)) (hh := [(0, 12, 15, 30), (0, 12, 19, 13), (0, 12, 23, 39)]) (by decide +kernel) rfl rfl (Nat.le_of_ble_eq_true rfl) ?_
  intro p e s m below meth c ls X S hr htab hl
  obtain ⟨⟨hx, hb, hml, hown, hts⟩, hE, hI, hlocks⟩ := id X
  have hl : lv_has ls 6 [(0, .ref (ad 0)), (1, .int (nI i)), (2, .int rk), (3, .int am), (4, .ref (ad 59))] := hl
  refine lv_aload hx hb dL_award_0 (lv_at hl 4 rfl) ?_
  refine lv_iconst (v := 0) hx hb dL_award_2 (by decide) ?_
  refine lv_aload_n hx hb dL_award_3 rfl (lv_at hl 0 rfl) ?_
  refine lv_iload_n hx hb dL_award_4 rfl (lv_at hl 1 rfl) ?_
  refine lv_iload_n hx hb dL_award_5 rfl (lv_at hl 2 rfl) ?_
  refine lv_iload_n hx hb dL_award_6 rfl (lv_at hl 3 rfl) ?_
  refine r_VX X S (x2_X4_award l hst D cA ad _ F i hi rk am h) ob_0 rfl (cwV 3 hts gL_award_X4_award rfl rfl rfl (by decide +kernel) ⟨Nat.le_of_ble_eq_true rfl, Nat.le_of_ble_eq_true rfl⟩) rfl hl.1 rfl (Nat.le_of_ble_eq_true rfl) dL_award_7 ⟨Nat.le_of_ble_eq_true rfl, Nat.le_of_ble_eq_true rfl⟩ (fun ce q9 H locs S h1 h2 h3 => ?_)
  refine vx_catch (own := RL) (name := "java/lang/IllegalArgumentException") hown [⟨0, 12, 15, 30⟩] ⟨0, 12, 19, 13⟩ [⟨0, 12, 23, 39⟩] (htab.trans rfl) (fun z hz => by rw [List.mem_singleton.mp hz]; exact Or.inr ⟨by decide, "java/lang/IndexOutOfBoundsException", hts (.classLink RL 30 "java/lang/IndexOutOfBoundsException") (by decide +kernel), hE.2.2.2.2.2.2 "java/lang/IllegalArgumentException" (by simp [xcl]) "java/lang/IndexOutOfBoundsException" (by simp [xcl]) (by decide)⟩) rfl (by decide) (hts (.classLink RL 13 "java/lang/IllegalArgumentException") (by decide +kernel)) (va_Nw.use rfl (hE.2.2.2.2.2.1 "java/lang/IllegalArgumentException" (by simp [xcl]))) h1 h2 h3 ?_
  refine lv_astore (lv' := [(5, .ref q9), (0, .ref (ad 0)), (1, .int (nI i)), (2, .int rk), (3, .int am), (4, .ref (ad 59))]) hx hb dL_award_19 hl (by decide) rfl (fun ls hl => ?_)
  refine lv_iconst (v := 2) hx hb dL_award_21 (by decide) ?_
  exact r_iret X S hr dL_award_22 (Nat.le_of_ble_eq_true rfl) (Nat.le_of_ble_eq_true rfl) rfl rfl

set_option maxHeartbeats 1000000 in
set_option maxRecDepth 100000 in
theorem x3_L_award (l : Launch) (D : va_G) (cA : Nat → ClassId) (ad : Nat → Nat) (sz : Nat) (F : FF) (hst : l.stackTraces = false) (i : Nat) (hi : i < 4) (rk am : Int32) (h1 : wi rk 0 2 = true) (h2 : wi am 1 1000000 = true) (et : F (4 + 8 * i + 3) 3 = nI 6) : CI l D cA ad sz yL_award wsL_award 8 137 1 6 [.ref (ad 0), .int (nI i), .int rk, .int am, .ref (ad 59)] F (some (.int 3)) F := by
  refine CIW_of (own := RL) (cc := cL_award) (maxL := 6) (ret := (some .int)) (hh := [(0, 12, 15, 30), (0, 12, 19, 13), (0, 12, 23, 39)]) (by decide +kernel) rfl rfl (Nat.le_of_ble_eq_true rfl) ?_
  intro p e s m below meth c ls X S hr htab hl
  obtain ⟨⟨hx, hb, hml, hown, hts⟩, hE, hI, hlocks⟩ := id X
  have hl : lv_has ls 6 [(0, .ref (ad 0)), (1, .int (nI i)), (2, .int rk), (3, .int am), (4, .ref (ad 59))] := hl
  refine lv_aload hx hb dL_award_0 (lv_at hl 4 rfl) ?_
  refine lv_iconst (v := 0) hx hb dL_award_2 (by decide) ?_
  refine lv_aload_n hx hb dL_award_3 rfl (lv_at hl 0 rfl) ?_
  refine lv_iload_n hx hb dL_award_4 rfl (lv_at hl 1 rfl) ?_
  refine lv_iload_n hx hb dL_award_5 rfl (lv_at hl 2 rfl) ?_
  refine lv_iload_n hx hb dL_award_6 rfl (lv_at hl 3 rfl) ?_
  refine r_VX X S (x3_X4_award l hst D cA ad _ F i hi rk am h1 h2 et) ob_0 rfl (cwV 3 hts gL_award_X4_award rfl rfl rfl (by decide +kernel) ⟨Nat.le_of_ble_eq_true rfl, Nat.le_of_ble_eq_true rfl⟩) rfl hl.1 rfl (Nat.le_of_ble_eq_true rfl) dL_award_7 ⟨Nat.le_of_ble_eq_true rfl, Nat.le_of_ble_eq_true rfl⟩ (fun ce q9 H locs S h1 h2 h3 => ?_)
  refine vx_catch (own := RL) (name := "java/lang/IllegalStateException") hown [⟨0, 12, 15, 30⟩, ⟨0, 12, 19, 13⟩] ⟨0, 12, 23, 39⟩ [] (htab.trans rfl) (fun z hz => by
      simp only [List.mem_cons, List.not_mem_nil, or_false] at hz
      rcases hz with rfl | rfl
      · exact Or.inr ⟨by decide, "java/lang/IndexOutOfBoundsException", hts (.classLink RL 30 "java/lang/IndexOutOfBoundsException") (by decide +kernel), hE.2.2.2.2.2.2 "java/lang/IllegalStateException" (by simp [xcl]) "java/lang/IndexOutOfBoundsException" (by simp [xcl]) (by decide)⟩
      · exact Or.inr ⟨by decide, "java/lang/IllegalArgumentException", hts (.classLink RL 13 "java/lang/IllegalArgumentException") (by decide +kernel), hE.2.2.2.2.2.2 "java/lang/IllegalStateException" (by simp [xcl]) "java/lang/IllegalArgumentException" (by simp [xcl]) (by decide)⟩) rfl (by decide) (hts (.classLink RL 39 "java/lang/IllegalStateException") (by decide +kernel)) (va_Nw.use rfl (hE.2.2.2.2.2.1 "java/lang/IllegalStateException" (by simp [xcl]))) h1 h2 h3 ?_
  refine lv_astore (lv' := [(5, .ref q9), (0, .ref (ad 0)), (1, .int (nI i)), (2, .int rk), (3, .int am), (4, .ref (ad 59))]) hx hb dL_award_23 hl (by decide) rfl (fun ls hl => ?_)
  refine lv_iconst (v := 3) hx hb dL_award_25 (by decide) ?_
  exact r_iret X S hr dL_award_26 (Nat.le_of_ble_eq_true rfl) (Nat.le_of_ble_eq_true rfl) rfl rfl

set_option maxHeartbeats 1000000 in
set_option maxRecDepth 100000 in
theorem w_L_pay (l : Launch) (D : va_G) (cA : Nat → ClassId) (ad : Nat → Nat) (sz : Nat) (F : FF) (i : Nat) (hi : i < 4) (am : Int32) (h1 : wi am 1 1000000 = true) : CI l D cA ad sz yL_pay wsL_pay 8 135 1 6 [.ref (ad 0), .int (nI i), .int am, .ref (ad 59)] F (some (.int 0)) (u2 (balF (pyF F i am) i) 59 0 (balV (pyF F i am) i)) := by
  refine CIW_of (own := RL) (cc := cL_pay) (maxL := 5) (ret := (some .int)) (hh := [(0, 10, 13, 30), (0, 10, 17, 13)]) (by decide +kernel) rfl rfl (Nat.le_of_ble_eq_true rfl) ?_
  intro p e s m below meth c ls X S hr htab hl
  obtain ⟨⟨hx, hb, hml, hown, hts⟩, hE, hI, hlocks⟩ := id X
  have hl : lv_has ls 5 [(0, .ref (ad 0)), (1, .int (nI i)), (2, .int am), (3, .ref (ad 59))] := hl
  refine lv_aload_n hx hb dL_pay_0 rfl (lv_at hl 3 rfl) ?_
  refine lv_iconst (v := 0) hx hb dL_pay_1 (by decide) ?_
  refine lv_aload_n hx hb dL_pay_2 rfl (lv_at hl 0 rfl) ?_
  refine lv_iload_n hx hb dL_pay_3 rfl (lv_at hl 1 rfl) ?_
  refine lv_iload_n hx hb dL_pay_4 rfl (lv_at hl 2 rfl) ?_
  refine r_V0 X S (c_X4_pay l D cA ad _ F i hi am h1) ob_0 rfl (cwV 2 hts gL_pay_X4_pay rfl rfl rfl (by decide +kernel) ⟨Nat.le_of_ble_eq_true rfl, Nat.le_of_ble_eq_true rfl⟩) rfl hl.1 rfl (Nat.le_of_ble_eq_true rfl) dL_pay_5 ⟨Nat.zero_le _, Nat.zero_le _⟩ (fun H locs S => ?_)
  obtain ⟨F_1, eF_1⟩ : ∃ z, z = balF (pyF F i am) i := ⟨_, rfl⟩
  rw [← eF_1] at S
  refine lv_i2l hx hb dL_pay_8 rfl ?_
  refine r_las (v := balV (pyF F i am) i) X S rfl dL_pay_9 (fun H locs S => ?_)
  obtain ⟨F_2, eF_2⟩ : ∃ z, z = u2 F_1 59 0 (balV (pyF F i am) i) := ⟨_, rfl⟩
  rw [← eF_2] at S
  refine lv_goto (tgt := 21) hx hb dL_pay_10 (by decide) ?_
  refine lv_iconst (v := 0) hx hb dL_pay_21 (by decide) ?_
  exact r_iret X S hr dL_pay_22 (Nat.le_of_ble_eq_true rfl) (Nat.le_of_ble_eq_true rfl) rfl (by rw [eF_2, eF_1])

set_option maxHeartbeats 1000000 in
set_option maxRecDepth 100000 in
theorem x1_L_pay (l : Launch) (D : va_G) (cA : Nat → ClassId) (ad : Nat → Nat) (sz : Nat) (F : FF) (hst : l.stackTraces = false) (x am : Int32) (h : wi x 0 3 = false) : CI l D cA ad sz yL_pay wsL_pay 8 135 1 6 [.ref (ad 0), .int x, .int am, .ref (ad 59)] F (some (.int 1)) F := by
  refine CIW_of (own := RL) (cc := cL_pay) (maxL := 5) (ret := (some .int)) (hh := [(0, 10, 13, 30), (0, 10, 17, 13)]) (by decide +kernel) rfl rfl (Nat.le_of_ble_eq_true rfl) ?_
  intro p e s m below meth c ls X S hr htab hl
  obtain ⟨⟨hx, hb, hml, hown, hts⟩, hE, hI, hlocks⟩ := id X
  have hl : lv_has ls 5 [(0, .ref (ad 0)), (1, .int x), (2, .int am), (3, .ref (ad 59))] := hl
  refine lv_aload_n hx hb dL_pay_0 rfl (lv_at hl 3 rfl) ?_
  refine lv_iconst (v := 0) hx hb dL_pay_1 (by decide) ?_
  refine lv_aload_n hx hb dL_pay_2 rfl (lv_at hl 0 rfl) ?_
  refine lv_iload_n hx hb dL_pay_3 rfl (lv_at hl 1 rfl) ?_
  refine lv_iload_n hx hb dL_pay_4 rfl (lv_at hl 2 rfl) ?_
  refine r_VX X S (x1_X4_pay l hst D cA ad _ F x am h) ob_0 rfl (cwV 2 hts gL_pay_X4_pay rfl rfl rfl (by decide +kernel) ⟨Nat.le_of_ble_eq_true rfl, Nat.le_of_ble_eq_true rfl⟩) rfl hl.1 rfl (Nat.le_of_ble_eq_true rfl) dL_pay_5 ⟨Nat.le_of_ble_eq_true rfl, Nat.le_of_ble_eq_true rfl⟩ (fun ce q9 H locs S h1 h2 h3 => ?_)
  refine vx_catch (own := RL) (name := "java/lang/IndexOutOfBoundsException") hown [] ⟨0, 10, 13, 30⟩ [⟨0, 10, 17, 13⟩] (htab.trans rfl) (fun z hz => nomatch hz) rfl (by decide) (hts (.classLink RL 30 "java/lang/IndexOutOfBoundsException") (by decide +kernel)) (va_Nw.use rfl (hE.2.2.2.2.2.1 "java/lang/IndexOutOfBoundsException" (by simp [xcl]))) h1 h2 h3 ?_
  refine lv_astore (lv' := [(4, .ref q9), (0, .ref (ad 0)), (1, .int x), (2, .int am), (3, .ref (ad 59))]) hx hb dL_pay_13 hl (by decide) rfl (fun ls hl => ?_)
  refine lv_iconst (v := 1) hx hb dL_pay_15 (by decide) ?_
  exact r_iret X S hr dL_pay_16 (Nat.le_of_ble_eq_true rfl) (Nat.le_of_ble_eq_true rfl) rfl rfl

set_option maxHeartbeats 1000000 in
set_option maxRecDepth 100000 in
theorem x2_L_pay (l : Launch) (D : va_G) (cA : Nat → ClassId) (ad : Nat → Nat) (sz : Nat) (F : FF) (hst : l.stackTraces = false) (i : Nat) (hi : i < 4) (am : Int32) (h : wi am 1 1000000 = false) : CI l D cA ad sz yL_pay wsL_pay 8 135 1 6 [.ref (ad 0), .int (nI i), .int am, .ref (ad 59)] F (some (.int 2)) F := by
  refine CIW_of (own := RL) (cc := cL_pay) (maxL := 5) (ret := (some .int)) (hh := [(0, 10, 13, 30), (0, 10, 17, 13)]) (by decide +kernel) rfl rfl (Nat.le_of_ble_eq_true rfl) ?_
  intro p e s m below meth c ls X S hr htab hl
  obtain ⟨⟨hx, hb, hml, hown, hts⟩, hE, hI, hlocks⟩ := id X
  have hl : lv_has ls 5 [(0, .ref (ad 0)), (1, .int (nI i)), (2, .int am), (3, .ref (ad 59))] := hl
  refine lv_aload_n hx hb dL_pay_0 rfl (lv_at hl 3 rfl) ?_
  refine lv_iconst (v := 0) hx hb dL_pay_1 (by decide) ?_
  refine lv_aload_n hx hb dL_pay_2 rfl (lv_at hl 0 rfl) ?_
  refine lv_iload_n hx hb dL_pay_3 rfl (lv_at hl 1 rfl) ?_
  refine lv_iload_n hx hb dL_pay_4 rfl (lv_at hl 2 rfl) ?_
  refine r_VX X S (x2_X4_pay l hst D cA ad _ F i hi am h) ob_0 rfl (cwV 2 hts gL_pay_X4_pay rfl rfl rfl (by decide +kernel) ⟨Nat.le_of_ble_eq_true rfl, Nat.le_of_ble_eq_true rfl⟩) rfl hl.1 rfl (Nat.le_of_ble_eq_true rfl) dL_pay_5 ⟨Nat.le_of_ble_eq_true rfl, Nat.le_of_ble_eq_true rfl⟩ (fun ce q9 H locs S h1 h2 h3 => ?_)
  refine vx_catch (own := RL) (name := "java/lang/IllegalArgumentException") hown [⟨0, 10, 13, 30⟩] ⟨0, 10, 17, 13⟩ [] (htab.trans rfl) (fun z hz => by rw [List.mem_singleton.mp hz]; exact Or.inr ⟨by decide, "java/lang/IndexOutOfBoundsException", hts (.classLink RL 30 "java/lang/IndexOutOfBoundsException") (by decide +kernel), hE.2.2.2.2.2.2 "java/lang/IllegalArgumentException" (by simp [xcl]) "java/lang/IndexOutOfBoundsException" (by simp [xcl]) (by decide)⟩) rfl (by decide) (hts (.classLink RL 13 "java/lang/IllegalArgumentException") (by decide +kernel)) (va_Nw.use rfl (hE.2.2.2.2.2.1 "java/lang/IllegalArgumentException" (by simp [xcl]))) h1 h2 h3 ?_
  refine lv_astore (lv' := [(4, .ref q9), (0, .ref (ad 0)), (1, .int (nI i)), (2, .int am), (3, .ref (ad 59))]) hx hb dL_pay_17 hl (by decide) rfl (fun ls hl => ?_)
  refine lv_iconst (v := 2) hx hb dL_pay_19 (by decide) ?_
  exact r_iret X S hr dL_pay_20 (Nat.le_of_ble_eq_true rfl) (Nat.le_of_ble_eq_true rfl) rfl rfl

set_option maxHeartbeats 1000000 in
set_option maxRecDepth 100000 in
theorem w_L_plan (l : Launch) (D : va_G) (cA : Nat → ClassId) (ad : Nat → Nat) (sz : Nat) (F : FF) (i : Nat) (hi : i < 4) (q : Nat) (hq : q < 4) (h : ¬ balV F i ≤ 0) : CI l D cA ad sz yL_plan wsL_plan 8 138 1 6 [.ref (ad 0), .int (nI i), .int (nI (q + 1)), .ref (ad 59)] F (some (.int 0)) (u2 (plF F i (q + 1)) 59 0 (plS (balV F i) (q + 1))) := by
  refine CIW_of (own := RL) (cc := cL_plan) (maxL := 5) (ret := (some .int)) (hh := [(0, 10, 13, 30), (0, 10, 17, 13), (0, 10, 21, 39)]) (by decide +kernel) rfl rfl (Nat.le_of_ble_eq_true rfl) ?_
  intro p e s m below meth c ls X S hr htab hl
  obtain ⟨⟨hx, hb, hml, hown, hts⟩, hE, hI, hlocks⟩ := id X
  have hl : lv_has ls 5 [(0, .ref (ad 0)), (1, .int (nI i)), (2, .int (nI (q + 1))), (3, .ref (ad 59))] := hl
  refine lv_aload_n hx hb dL_plan_0 rfl (lv_at hl 3 rfl) ?_
  refine lv_iconst (v := 0) hx hb dL_plan_1 (by decide) ?_
  refine lv_aload_n hx hb dL_plan_2 rfl (lv_at hl 0 rfl) ?_
  refine lv_iload_n hx hb dL_plan_3 rfl (lv_at hl 1 rfl) ?_
  refine lv_iload_n hx hb dL_plan_4 rfl (lv_at hl 2 rfl) ?_
  refine r_V0 X S (c_X4_plan l D cA ad _ F i hi q hq h) ob_0 rfl (cwV 2 hts gL_plan_X4_plan rfl rfl rfl (by decide +kernel) ⟨Nat.le_of_ble_eq_true rfl, Nat.le_of_ble_eq_true rfl⟩) rfl hl.1 rfl (Nat.le_of_ble_eq_true rfl) dL_plan_5 ⟨Nat.zero_le _, Nat.zero_le _⟩ (fun H locs S => ?_)
  obtain ⟨F_1, eF_1⟩ : ∃ z, z = plF F i (q + 1) := ⟨_, rfl⟩
  rw [← eF_1] at S
  refine lv_i2l hx hb dL_plan_8 rfl ?_
  refine r_las (v := plS (balV F i) (q + 1)) X S rfl dL_plan_9 (fun H locs S => ?_)
  obtain ⟨F_2, eF_2⟩ : ∃ z, z = u2 F_1 59 0 (plS (balV F i) (q + 1)) := ⟨_, rfl⟩
  rw [← eF_2] at S
  refine lv_goto (tgt := 25) hx hb dL_plan_10 (by decide) ?_
  refine lv_iconst (v := 0) hx hb dL_plan_25 (by decide) ?_
  exact r_iret X S hr dL_plan_26 (Nat.le_of_ble_eq_true rfl) (Nat.le_of_ble_eq_true rfl) rfl (by rw [eF_2, eF_1])

set_option maxHeartbeats 1000000 in
set_option maxRecDepth 100000 in
theorem x1_L_plan (l : Launch) (D : va_G) (cA : Nat → ClassId) (ad : Nat → Nat) (sz : Nat) (F : FF) (hst : l.stackTraces = false) (x y : Int32) (h : wi x 0 3 = false) : CI l D cA ad sz yL_plan wsL_plan 8 138 1 6 [.ref (ad 0), .int x, .int y, .ref (ad 59)] F (some (.int 1)) F := by
  refine CIW_of (own := RL) (cc := cL_plan) (maxL := 5) (ret := (some .int)) (hh := [(0, 10, 13, 30), (0, 10, 17, 13), (0, 10, 21, 39)]) (by decide +kernel) rfl rfl (Nat.le_of_ble_eq_true rfl) ?_
  intro p e s m below meth c ls X S hr htab hl
  obtain ⟨⟨hx, hb, hml, hown, hts⟩, hE, hI, hlocks⟩ := id X
  have hl : lv_has ls 5 [(0, .ref (ad 0)), (1, .int x), (2, .int y), (3, .ref (ad 59))] := hl
  refine lv_aload_n hx hb dL_plan_0 rfl (lv_at hl 3 rfl) ?_
  refine lv_iconst (v := 0) hx hb dL_plan_1 (by decide) ?_
  refine lv_aload_n hx hb dL_plan_2 rfl (lv_at hl 0 rfl) ?_
  refine lv_iload_n hx hb dL_plan_3 rfl (lv_at hl 1 rfl) ?_
  refine lv_iload_n hx hb dL_plan_4 rfl (lv_at hl 2 rfl) ?_
  refine r_VX X S (x1_X4_plan l hst D cA ad _ F x y h) ob_0 rfl (cwV 2 hts gL_plan_X4_plan rfl rfl rfl (by decide +kernel) ⟨Nat.le_of_ble_eq_true rfl, Nat.le_of_ble_eq_true rfl⟩) rfl hl.1 rfl (Nat.le_of_ble_eq_true rfl) dL_plan_5 ⟨Nat.le_of_ble_eq_true rfl, Nat.le_of_ble_eq_true rfl⟩ (fun ce q9 H locs S h1 h2 h3 => ?_)
  refine vx_catch (own := RL) (name := "java/lang/IndexOutOfBoundsException") hown [] ⟨0, 10, 13, 30⟩ [⟨0, 10, 17, 13⟩, ⟨0, 10, 21, 39⟩] (htab.trans rfl) (fun z hz => nomatch hz) rfl (by decide) (hts (.classLink RL 30 "java/lang/IndexOutOfBoundsException") (by decide +kernel)) (va_Nw.use rfl (hE.2.2.2.2.2.1 "java/lang/IndexOutOfBoundsException" (by simp [xcl]))) h1 h2 h3 ?_
  refine lv_astore (lv' := [(4, .ref q9), (0, .ref (ad 0)), (1, .int x), (2, .int y), (3, .ref (ad 59))]) hx hb dL_plan_13 hl (by decide) rfl (fun ls hl => ?_)
  refine lv_iconst (v := 1) hx hb dL_plan_15 (by decide) ?_
  exact r_iret X S hr dL_plan_16 (Nat.le_of_ble_eq_true rfl) (Nat.le_of_ble_eq_true rfl) rfl rfl

set_option maxHeartbeats 1000000 in
set_option maxRecDepth 100000 in
theorem x2_L_plan (l : Launch) (D : va_G) (cA : Nat → ClassId) (ad : Nat → Nat) (sz : Nat) (F : FF) (hst : l.stackTraces = false) (i : Nat) (hi : i < 4) (y : Int32) (h : wi y 1 4 = false) : CI l D cA ad sz yL_plan wsL_plan 8 138 1 6 [.ref (ad 0), .int (nI i), .int y, .ref (ad 59)] F (some (.int 2)) F := by
  refine CIW_of (own := RL) (cc := cL_plan) (maxL := 5) (ret := (some .int)) (hh := [(0, 10, 13, 30), (0, 10, 17, 13), (0, 10, 21, 39)]) (by decide +kernel) rfl rfl (Nat.le_of_ble_eq_true rfl) ?_
  intro p e s m below meth c ls X S hr htab hl
  obtain ⟨⟨hx, hb, hml, hown, hts⟩, hE, hI, hlocks⟩ := id X
  have hl : lv_has ls 5 [(0, .ref (ad 0)), (1, .int (nI i)), (2, .int y), (3, .ref (ad 59))] := hl
  refine lv_aload_n hx hb dL_plan_0 rfl (lv_at hl 3 rfl) ?_
  refine lv_iconst (v := 0) hx hb dL_plan_1 (by decide) ?_
  refine lv_aload_n hx hb dL_plan_2 rfl (lv_at hl 0 rfl) ?_
  refine lv_iload_n hx hb dL_plan_3 rfl (lv_at hl 1 rfl) ?_
  refine lv_iload_n hx hb dL_plan_4 rfl (lv_at hl 2 rfl) ?_
  refine r_VX X S (x2_X4_plan l hst D cA ad _ F i hi y h) ob_0 rfl (cwV 2 hts gL_plan_X4_plan rfl rfl rfl (by decide +kernel) ⟨Nat.le_of_ble_eq_true rfl, Nat.le_of_ble_eq_true rfl⟩) rfl hl.1 rfl (Nat.le_of_ble_eq_true rfl) dL_plan_5 ⟨Nat.le_of_ble_eq_true rfl, Nat.le_of_ble_eq_true rfl⟩ (fun ce q9 H locs S h1 h2 h3 => ?_)
  refine vx_catch (own := RL) (name := "java/lang/IllegalArgumentException") hown [⟨0, 10, 13, 30⟩] ⟨0, 10, 17, 13⟩ [⟨0, 10, 21, 39⟩] (htab.trans rfl) (fun z hz => by rw [List.mem_singleton.mp hz]; exact Or.inr ⟨by decide, "java/lang/IndexOutOfBoundsException", hts (.classLink RL 30 "java/lang/IndexOutOfBoundsException") (by decide +kernel), hE.2.2.2.2.2.2 "java/lang/IllegalArgumentException" (by simp [xcl]) "java/lang/IndexOutOfBoundsException" (by simp [xcl]) (by decide)⟩) rfl (by decide) (hts (.classLink RL 13 "java/lang/IllegalArgumentException") (by decide +kernel)) (va_Nw.use rfl (hE.2.2.2.2.2.1 "java/lang/IllegalArgumentException" (by simp [xcl]))) h1 h2 h3 ?_
  refine lv_astore (lv' := [(4, .ref q9), (0, .ref (ad 0)), (1, .int (nI i)), (2, .int y), (3, .ref (ad 59))]) hx hb dL_plan_17 hl (by decide) rfl (fun ls hl => ?_)
  refine lv_iconst (v := 2) hx hb dL_plan_19 (by decide) ?_
  exact r_iret X S hr dL_plan_20 (Nat.le_of_ble_eq_true rfl) (Nat.le_of_ble_eq_true rfl) rfl rfl

set_option maxHeartbeats 1000000 in
set_option maxRecDepth 100000 in
theorem x3_L_plan (l : Launch) (D : va_G) (cA : Nat → ClassId) (ad : Nat → Nat) (sz : Nat) (F : FF) (hst : l.stackTraces = false) (i : Nat) (hi : i < 4) (q : Nat) (hq : q < 4) (h : balV F i ≤ 0) : CI l D cA ad sz yL_plan wsL_plan 8 138 1 6 [.ref (ad 0), .int (nI i), .int (nI (q + 1)), .ref (ad 59)] F (some (.int 3)) (balF F i) := by
  refine CIW_of (own := RL) (cc := cL_plan) (maxL := 5) (ret := (some .int)) (hh := [(0, 10, 13, 30), (0, 10, 17, 13), (0, 10, 21, 39)]) (by decide +kernel) rfl rfl (Nat.le_of_ble_eq_true rfl) ?_
  intro p e s m below meth c ls X S hr htab hl
  obtain ⟨⟨hx, hb, hml, hown, hts⟩, hE, hI, hlocks⟩ := id X
  have hl : lv_has ls 5 [(0, .ref (ad 0)), (1, .int (nI i)), (2, .int (nI (q + 1))), (3, .ref (ad 59))] := hl
  refine lv_aload_n hx hb dL_plan_0 rfl (lv_at hl 3 rfl) ?_
  refine lv_iconst (v := 0) hx hb dL_plan_1 (by decide) ?_
  refine lv_aload_n hx hb dL_plan_2 rfl (lv_at hl 0 rfl) ?_
  refine lv_iload_n hx hb dL_plan_3 rfl (lv_at hl 1 rfl) ?_
  refine lv_iload_n hx hb dL_plan_4 rfl (lv_at hl 2 rfl) ?_
  refine r_VX X S (x3_X4_plan l hst D cA ad _ F i hi q hq h) ob_0 rfl (cwV 2 hts gL_plan_X4_plan rfl rfl rfl (by decide +kernel) ⟨Nat.le_of_ble_eq_true rfl, Nat.le_of_ble_eq_true rfl⟩) rfl hl.1 rfl (Nat.le_of_ble_eq_true rfl) dL_plan_5 ⟨Nat.le_of_ble_eq_true rfl, Nat.le_of_ble_eq_true rfl⟩ (fun ce q9 H locs S h1 h2 h3 => ?_)
  refine vx_catch (own := RL) (name := "java/lang/IllegalStateException") hown [⟨0, 10, 13, 30⟩, ⟨0, 10, 17, 13⟩] ⟨0, 10, 21, 39⟩ [] (htab.trans rfl) (fun z hz => by
      simp only [List.mem_cons, List.not_mem_nil, or_false] at hz
      rcases hz with rfl | rfl
      · exact Or.inr ⟨by decide, "java/lang/IndexOutOfBoundsException", hts (.classLink RL 30 "java/lang/IndexOutOfBoundsException") (by decide +kernel), hE.2.2.2.2.2.2 "java/lang/IllegalStateException" (by simp [xcl]) "java/lang/IndexOutOfBoundsException" (by simp [xcl]) (by decide)⟩
      · exact Or.inr ⟨by decide, "java/lang/IllegalArgumentException", hts (.classLink RL 13 "java/lang/IllegalArgumentException") (by decide +kernel), hE.2.2.2.2.2.2 "java/lang/IllegalStateException" (by simp [xcl]) "java/lang/IllegalArgumentException" (by simp [xcl]) (by decide)⟩) rfl (by decide) (hts (.classLink RL 39 "java/lang/IllegalStateException") (by decide +kernel)) (va_Nw.use rfl (hE.2.2.2.2.2.1 "java/lang/IllegalStateException" (by simp [xcl]))) h1 h2 h3 ?_
  obtain ⟨F_1, eF_1⟩ : ∃ z, z = balF F i := ⟨_, rfl⟩
  rw [← eF_1] at S
  refine lv_astore (lv' := [(4, .ref q9), (0, .ref (ad 0)), (1, .int (nI i)), (2, .int (nI (q + 1))), (3, .ref (ad 59))]) hx hb dL_plan_21 hl (by decide) rfl (fun ls hl => ?_)
  refine lv_iconst (v := 3) hx hb dL_plan_23 (by decide) ?_
  exact r_iret X S hr dL_plan_24 (Nat.le_of_ble_eq_true rfl) (Nat.le_of_ble_eq_true rfl) rfl eF_1

set_option maxHeartbeats 1000000 in
set_option maxRecDepth 100000 in
theorem w_L_leave (l : Launch) (D : va_G) (cA : Nat → ClassId) (ad : Nat → Nat) (sz : Nat) (F : FF) (i : Nat) (hi : i < 4) (w : Nat) (hw : w < 16) (ew : F 0 7 = nI w) : CI l D cA ad sz yL_leave wsL_leave 8 135 1 6 [.ref (ad 0), .int (nI i), .ref (ad 59)] F (some (.int 0)) (u2 (leF F i w) 59 0 (leB F i w)) := by
  refine CIW_of (own := RL) (cc := cL_leave) (maxL := 4) (ret := (some .int)) (hh := [(0, 9, 12, 30)]) (by decide +kernel) rfl rfl (Nat.le_of_ble_eq_true rfl) ?_
  intro p e s m below meth c ls X S hr htab hl
  obtain ⟨⟨hx, hb, hml, hown, hts⟩, hE, hI, hlocks⟩ := id X
  have hl : lv_has ls 4 [(0, .ref (ad 0)), (1, .int (nI i)), (2, .ref (ad 59))] := hl
  refine lv_aload_n hx hb dL_leave_0 rfl (lv_at hl 2 rfl) ?_
  refine lv_iconst (v := 0) hx hb dL_leave_1 (by decide) ?_
  refine lv_aload_n hx hb dL_leave_2 rfl (lv_at hl 0 rfl) ?_
  refine lv_iload_n hx hb dL_leave_3 rfl (lv_at hl 1 rfl) ?_
  refine r_V0 X S (c_X4_leave l D cA ad _ F i hi w hw ew) ob_0 rfl (cwV 1 hts gL_leave_X4_leave rfl rfl rfl (by decide +kernel) ⟨Nat.le_of_ble_eq_true rfl, Nat.le_of_ble_eq_true rfl⟩) rfl hl.1 rfl (Nat.le_of_ble_eq_true rfl) dL_leave_4 ⟨Nat.zero_le _, Nat.zero_le _⟩ (fun H locs S => ?_)
  obtain ⟨F_1, eF_1⟩ : ∃ z, z = leF F i w := ⟨_, rfl⟩
  rw [← eF_1] at S
  refine lv_i2l hx hb dL_leave_7 rfl ?_
  refine r_las (v := leB F i w) X S rfl dL_leave_8 (fun H locs S => ?_)
  obtain ⟨F_2, eF_2⟩ : ∃ z, z = u2 F_1 59 0 (leB F i w) := ⟨_, rfl⟩
  rw [← eF_2] at S
  refine lv_goto (tgt := 15) hx hb dL_leave_9 (by decide) ?_
  refine lv_iconst (v := 0) hx hb dL_leave_15 (by decide) ?_
  exact r_iret X S hr dL_leave_16 (Nat.le_of_ble_eq_true rfl) (Nat.le_of_ble_eq_true rfl) rfl (by rw [eF_2, eF_1])

set_option maxHeartbeats 1000000 in
set_option maxRecDepth 100000 in
theorem x1_L_leave (l : Launch) (D : va_G) (cA : Nat → ClassId) (ad : Nat → Nat) (sz : Nat) (F : FF) (hst : l.stackTraces = false) (x : Int32) (h : wi x 0 3 = false) : CI l D cA ad sz yL_leave wsL_leave 8 135 1 6 [.ref (ad 0), .int x, .ref (ad 59)] F (some (.int 1)) F := by
  refine CIW_of (own := RL) (cc := cL_leave) (maxL := 4) (ret := (some .int)) (hh := [(0, 9, 12, 30)]) (by decide +kernel) rfl rfl (Nat.le_of_ble_eq_true rfl) ?_
  intro p e s m below meth c ls X S hr htab hl
  obtain ⟨⟨hx, hb, hml, hown, hts⟩, hE, hI, hlocks⟩ := id X
  have hl : lv_has ls 4 [(0, .ref (ad 0)), (1, .int x), (2, .ref (ad 59))] := hl
  refine lv_aload_n hx hb dL_leave_0 rfl (lv_at hl 2 rfl) ?_
  refine lv_iconst (v := 0) hx hb dL_leave_1 (by decide) ?_
  refine lv_aload_n hx hb dL_leave_2 rfl (lv_at hl 0 rfl) ?_
  refine lv_iload_n hx hb dL_leave_3 rfl (lv_at hl 1 rfl) ?_
  refine r_VX X S (x1_X4_leave l hst D cA ad _ F x h) ob_0 rfl (cwV 1 hts gL_leave_X4_leave rfl rfl rfl (by decide +kernel) ⟨Nat.le_of_ble_eq_true rfl, Nat.le_of_ble_eq_true rfl⟩) rfl hl.1 rfl (Nat.le_of_ble_eq_true rfl) dL_leave_4 ⟨Nat.le_of_ble_eq_true rfl, Nat.le_of_ble_eq_true rfl⟩ (fun ce q9 H locs S h1 h2 h3 => ?_)
  refine vx_catch (own := RL) (name := "java/lang/IndexOutOfBoundsException") hown [] ⟨0, 9, 12, 30⟩ [] (htab.trans rfl) (fun z hz => nomatch hz) rfl (by decide) (hts (.classLink RL 30 "java/lang/IndexOutOfBoundsException") (by decide +kernel)) (va_Nw.use rfl (hE.2.2.2.2.2.1 "java/lang/IndexOutOfBoundsException" (by simp [xcl]))) h1 h2 h3 ?_
  refine lv_astore_n (lv' := [(3, .ref q9), (0, .ref (ad 0)), (1, .int x), (2, .ref (ad 59))]) hx hb dL_leave_12 rfl hl (by decide) rfl (fun ls hl => ?_)
  refine lv_iconst (v := 1) hx hb dL_leave_13 (by decide) ?_
  exact r_iret X S hr dL_leave_14 (Nat.le_of_ble_eq_true rfl) (Nat.le_of_ble_eq_true rfl) rfl rfl

set_option maxHeartbeats 1000000 in
set_option maxRecDepth 100000 in
theorem w_L_closeWeek1 (l : Launch) (D : va_G) (cA : Nat → ClassId) (ad : Nat → Nat) (sz : Nat) (F : FF) (h : F 0 7 < 15) : CI l D cA ad sz yL_closeWeek wsL_closeWeek 7 156 1 6 [.ref (ad 0), .ref (ad 59)] F (some (.int 0)) (u2 (clA (cw1 F) 4) 59 0 (clA (cw1 F) 4 0 7)) := by
  refine CIW_of (own := RL) (cc := cL_closeWeek) (maxL := 3) (ret := (some .int)) (hh := [(0, 8, 11, 39)]) (by decide +kernel) rfl rfl (Nat.le_of_ble_eq_true rfl) ?_
  intro p e s m below meth c ls X S hr htab hl
  obtain ⟨⟨hx, hb, hml, hown, hts⟩, hE, hI, hlocks⟩ := id X
  have hl : lv_has ls 3 [(0, .ref (ad 0)), (1, .ref (ad 59))] := hl
  refine lv_aload_n hx hb dL_closeWeek_0 rfl (lv_at hl 1 rfl) ?_
  refine lv_iconst (v := 0) hx hb dL_closeWeek_1 (by decide) ?_
  refine lv_aload_n hx hb dL_closeWeek_2 rfl (lv_at hl 0 rfl) ?_
  refine r_V0 X S (c_X4_closeWeek1 l D cA ad _ F h) ob_0 rfl (cwV 0 hts gL_closeWeek_X4_closeWeek rfl rfl rfl (by decide +kernel) ⟨Nat.le_of_ble_eq_true rfl, Nat.le_of_ble_eq_true rfl⟩) rfl hl.1 rfl (Nat.le_of_ble_eq_true rfl) dL_closeWeek_3 ⟨Nat.zero_le _, Nat.zero_le _⟩ (fun H locs S => ?_)
  obtain ⟨F_1, eF_1⟩ : ∃ z, z = clA (cw1 F) 4 := ⟨_, rfl⟩
  rw [← eF_1] at S
  refine lv_i2l hx hb dL_closeWeek_6 rfl ?_
  refine r_las (v := clA (cw1 F) 4 0 7) X S rfl dL_closeWeek_7 (fun H locs S => ?_)
  obtain ⟨F_2, eF_2⟩ : ∃ z, z = u2 F_1 59 0 (clA (cw1 F) 4 0 7) := ⟨_, rfl⟩
  rw [← eF_2] at S
  refine lv_goto (tgt := 14) hx hb dL_closeWeek_8 (by decide) ?_
  refine lv_iconst (v := 0) hx hb dL_closeWeek_14 (by decide) ?_
  exact r_iret X S hr dL_closeWeek_15 (Nat.le_of_ble_eq_true rfl) (Nat.le_of_ble_eq_true rfl) rfl (by rw [eF_2, eF_1])

set_option maxHeartbeats 1000000 in
set_option maxRecDepth 100000 in
theorem w_L_closeWeek2 (l : Launch) (D : va_G) (cA : Nat → ClassId) (ad : Nat → Nat) (sz : Nat) (F : FF) (h1 : ¬ F 0 7 < 15) (h2 : F 0 8 < 9) : CI l D cA ad sz yL_closeWeek wsL_closeWeek 7 156 1 6 [.ref (ad 0), .ref (ad 59)] F (some (.int 0)) (u2 (clA (cw2 F) 4) 59 0 (clA (cw2 F) 4 0 7)) := by
  refine CIW_of (own := RL) (cc := cL_closeWeek) (maxL := 3) (ret := (some .int)) (hh := [(0, 8, 11, 39)]) (by decide +kernel) rfl rfl (Nat.le_of_ble_eq_true rfl) ?_
  intro p e s m below meth c ls X S hr htab hl
  obtain ⟨⟨hx, hb, hml, hown, hts⟩, hE, hI, hlocks⟩ := id X
  have hl : lv_has ls 3 [(0, .ref (ad 0)), (1, .ref (ad 59))] := hl
  refine lv_aload_n hx hb dL_closeWeek_0 rfl (lv_at hl 1 rfl) ?_
  refine lv_iconst (v := 0) hx hb dL_closeWeek_1 (by decide) ?_
  refine lv_aload_n hx hb dL_closeWeek_2 rfl (lv_at hl 0 rfl) ?_
  refine r_V0 X S (c_X4_closeWeek2 l D cA ad _ F h1 h2) ob_0 rfl (cwV 0 hts gL_closeWeek_X4_closeWeek rfl rfl rfl (by decide +kernel) ⟨Nat.le_of_ble_eq_true rfl, Nat.le_of_ble_eq_true rfl⟩) rfl hl.1 rfl (Nat.le_of_ble_eq_true rfl) dL_closeWeek_3 ⟨Nat.zero_le _, Nat.zero_le _⟩ (fun H locs S => ?_)
  obtain ⟨F_1, eF_1⟩ : ∃ z, z = clA (cw2 F) 4 := ⟨_, rfl⟩
  rw [← eF_1] at S
  refine lv_i2l hx hb dL_closeWeek_6 rfl ?_
  refine r_las (v := clA (cw2 F) 4 0 7) X S rfl dL_closeWeek_7 (fun H locs S => ?_)
  obtain ⟨F_2, eF_2⟩ : ∃ z, z = u2 F_1 59 0 (clA (cw2 F) 4 0 7) := ⟨_, rfl⟩
  rw [← eF_2] at S
  refine lv_goto (tgt := 14) hx hb dL_closeWeek_8 (by decide) ?_
  refine lv_iconst (v := 0) hx hb dL_closeWeek_14 (by decide) ?_
  exact r_iret X S hr dL_closeWeek_15 (Nat.le_of_ble_eq_true rfl) (Nat.le_of_ble_eq_true rfl) rfl (by rw [eF_2, eF_1])

set_option maxHeartbeats 1000000 in
set_option maxRecDepth 100000 in
theorem x1_L_closeWeek (l : Launch) (D : va_G) (cA : Nat → ClassId) (ad : Nat → Nat) (sz : Nat) (F : FF) (hst : l.stackTraces = false) (h1 : ¬ F 0 7 < 15) (h2 : ¬ F 0 8 < 9) : CI l D cA ad sz yL_closeWeek wsL_closeWeek 7 156 1 6 [.ref (ad 0), .ref (ad 59)] F (some (.int 1)) F := by
  refine CIW_of (own := RL) (cc := cL_closeWeek) (maxL := 3) (ret := (some .int)) (hh := [(0, 8, 11, 39)]) (by decide +kernel) rfl rfl (Nat.le_of_ble_eq_true rfl) ?_
  intro p e s m below meth c ls X S hr htab hl
  obtain ⟨⟨hx, hb, hml, hown, hts⟩, hE, hI, hlocks⟩ := id X
  have hl : lv_has ls 3 [(0, .ref (ad 0)), (1, .ref (ad 59))] := hl
  refine lv_aload_n hx hb dL_closeWeek_0 rfl (lv_at hl 1 rfl) ?_
  refine lv_iconst (v := 0) hx hb dL_closeWeek_1 (by decide) ?_
  refine lv_aload_n hx hb dL_closeWeek_2 rfl (lv_at hl 0 rfl) ?_
  refine r_VX X S (x1_X4_closeWeek l hst D cA ad _ F h1 h2) ob_0 rfl (cwV 0 hts gL_closeWeek_X4_closeWeek rfl rfl rfl (by decide +kernel) ⟨Nat.le_of_ble_eq_true rfl, Nat.le_of_ble_eq_true rfl⟩) rfl hl.1 rfl (Nat.le_of_ble_eq_true rfl) dL_closeWeek_3 ⟨Nat.le_of_ble_eq_true rfl, Nat.le_of_ble_eq_true rfl⟩ (fun ce q9 H locs S h1 h2 h3 => ?_)
  refine vx_catch (own := RL) (name := "java/lang/IllegalStateException") hown [] ⟨0, 8, 11, 39⟩ [] (htab.trans rfl) (fun z hz => nomatch hz) rfl (by decide) (hts (.classLink RL 39 "java/lang/IllegalStateException") (by decide +kernel)) (va_Nw.use rfl (hE.2.2.2.2.2.1 "java/lang/IllegalStateException" (by simp [xcl]))) h1 h2 h3 ?_
  refine lv_astore_n (lv' := [(2, .ref q9), (0, .ref (ad 0)), (1, .ref (ad 59))]) hx hb dL_closeWeek_11 rfl hl (by decide) rfl (fun ls hl => ?_)
  refine lv_iconst (v := 1) hx hb dL_closeWeek_12 (by decide) ?_
  exact r_iret X S hr dL_closeWeek_13 (Nat.le_of_ble_eq_true rfl) (Nat.le_of_ble_eq_true rfl) rfl rfl

set_option maxHeartbeats 1000000 in
set_option maxRecDepth 100000 in
theorem w_L_credits (l : Launch) (D : va_G) (cA : Nat → ClassId) (ad : Nat → Nat) (sz : Nat) (F : FF) (i : Nat) (hi : i < 4) : CI l D cA ad sz yL_credits wsL_credits 8 133 1 6 [.ref (ad 0), .int (nI i), .ref (ad 59)] F (some (.int 0)) (u2 F 59 0 (tot8 (F (4 + 8 * i + 2)))) := by
  refine CIW_of (own := RL) (cc := cL_credits) (maxL := 4) (ret := (some .int)) (hh := [(0, 9, 12, 30)]) (by decide +kernel) rfl rfl (Nat.le_of_ble_eq_true rfl) ?_
  intro p e s m below meth c ls X S hr htab hl
  obtain ⟨⟨hx, hb, hml, hown, hts⟩, hE, hI, hlocks⟩ := id X
  have hl : lv_has ls 4 [(0, .ref (ad 0)), (1, .int (nI i)), (2, .ref (ad 59))] := hl
  refine lv_aload_n hx hb dL_credits_0 rfl (lv_at hl 2 rfl) ?_
  refine lv_iconst (v := 0) hx hb dL_credits_1 (by decide) ?_
  refine lv_aload_n hx hb dL_credits_2 rfl (lv_at hl 0 rfl) ?_
  refine lv_iload_n hx hb dL_credits_3 rfl (lv_at hl 1 rfl) ?_
  refine r_V0 X S (c_X4_credits l D cA ad _ F i hi) ob_0 rfl (cwV 1 hts gL_credits_X4_credits rfl rfl rfl (by decide +kernel) ⟨Nat.le_of_ble_eq_true rfl, Nat.le_of_ble_eq_true rfl⟩) rfl hl.1 rfl (Nat.le_of_ble_eq_true rfl) dL_credits_4 ⟨Nat.zero_le _, Nat.zero_le _⟩ (fun H locs S => ?_)
  refine lv_i2l hx hb dL_credits_7 rfl ?_
  refine r_las (v := tot8 (F (4 + 8 * i + 2))) X S rfl dL_credits_8 (fun H locs S => ?_)
  obtain ⟨F_1, eF_1⟩ : ∃ z, z = u2 F 59 0 (tot8 (F (4 + 8 * i + 2))) := ⟨_, rfl⟩
  rw [← eF_1] at S
  refine lv_goto (tgt := 15) hx hb dL_credits_9 (by decide) ?_
  refine lv_iconst (v := 0) hx hb dL_credits_15 (by decide) ?_
  exact r_iret X S hr dL_credits_16 (Nat.le_of_ble_eq_true rfl) (Nat.le_of_ble_eq_true rfl) rfl (by rw [eF_1])

set_option maxHeartbeats 1000000 in
set_option maxRecDepth 100000 in
theorem x1_L_credits (l : Launch) (D : va_G) (cA : Nat → ClassId) (ad : Nat → Nat) (sz : Nat) (F : FF) (hst : l.stackTraces = false) (x : Int32) (h : wi x 0 3 = false) : CI l D cA ad sz yL_credits wsL_credits 8 133 1 6 [.ref (ad 0), .int x, .ref (ad 59)] F (some (.int 1)) F := by
  refine CIW_of (own := RL) (cc := cL_credits) (maxL := 4) (ret := (some .int)) (hh := [(0, 9, 12, 30)]) (by decide +kernel) rfl rfl (Nat.le_of_ble_eq_true rfl) ?_
  intro p e s m below meth c ls X S hr htab hl
  obtain ⟨⟨hx, hb, hml, hown, hts⟩, hE, hI, hlocks⟩ := id X
  have hl : lv_has ls 4 [(0, .ref (ad 0)), (1, .int x), (2, .ref (ad 59))] := hl
  refine lv_aload_n hx hb dL_credits_0 rfl (lv_at hl 2 rfl) ?_
  refine lv_iconst (v := 0) hx hb dL_credits_1 (by decide) ?_
  refine lv_aload_n hx hb dL_credits_2 rfl (lv_at hl 0 rfl) ?_
  refine lv_iload_n hx hb dL_credits_3 rfl (lv_at hl 1 rfl) ?_
  refine r_VX X S (x1_X4_credits l hst D cA ad _ F x h) ob_0 rfl (cwV 1 hts gL_credits_X4_credits rfl rfl rfl (by decide +kernel) ⟨Nat.le_of_ble_eq_true rfl, Nat.le_of_ble_eq_true rfl⟩) rfl hl.1 rfl (Nat.le_of_ble_eq_true rfl) dL_credits_4 ⟨Nat.le_of_ble_eq_true rfl, Nat.le_of_ble_eq_true rfl⟩ (fun ce q9 H locs S h1 h2 h3 => ?_)
  refine vx_catch (own := RL) (name := "java/lang/IndexOutOfBoundsException") hown [] ⟨0, 9, 12, 30⟩ [] (htab.trans rfl) (fun z hz => nomatch hz) rfl (by decide) (hts (.classLink RL 30 "java/lang/IndexOutOfBoundsException") (by decide +kernel)) (va_Nw.use rfl (hE.2.2.2.2.2.1 "java/lang/IndexOutOfBoundsException" (by simp [xcl]))) h1 h2 h3 ?_
  refine lv_astore_n (lv' := [(3, .ref q9), (0, .ref (ad 0)), (1, .int x), (2, .ref (ad 59))]) hx hb dL_credits_12 rfl hl (by decide) rfl (fun ls hl => ?_)
  refine lv_iconst (v := 1) hx hb dL_credits_13 (by decide) ?_
  exact r_iret X S hr dL_credits_14 (Nat.le_of_ble_eq_true rfl) (Nat.le_of_ble_eq_true rfl) rfl rfl

set_option maxHeartbeats 1000000 in
set_option maxRecDepth 100000 in
theorem w_L_charged0 (l : Launch) (D : va_G) (cA : Nat → ClassId) (ad : Nat → Nat) (sz : Nat) (F : FF) (i : Nat) (hi : i < 4) : CI l D cA ad sz yL_charged wsL_charged 8 135 1 6 [.ref (ad 0), .int (nI i), .int 0, .ref (ad 59)] F (some (.int 0)) (u2 F 59 0 (chC F i 1)) := by
  refine CIW_of (own := RL) (cc := cL_charged) (maxL := 5) (ret := (some .int)) (hh := [(0, 10, 13, 30), (0, 10, 17, 13)]) (by decide +kernel) rfl rfl (Nat.le_of_ble_eq_true rfl) ?_
  intro p e s m below meth c ls X S hr htab hl
  obtain ⟨⟨hx, hb, hml, hown, hts⟩, hE, hI, hlocks⟩ := id X
  have hl : lv_has ls 5 [(0, .ref (ad 0)), (1, .int (nI i)), (2, .int 0), (3, .ref (ad 59))] := hl
  refine lv_aload_n hx hb dL_charged_0 rfl (lv_at hl 3 rfl) ?_
  refine lv_iconst (v := 0) hx hb dL_charged_1 (by decide) ?_
  refine lv_aload_n hx hb dL_charged_2 rfl (lv_at hl 0 rfl) ?_
  refine lv_iload_n hx hb dL_charged_3 rfl (lv_at hl 1 rfl) ?_
  refine lv_iload_n hx hb dL_charged_4 rfl (lv_at hl 2 rfl) ?_
  refine r_V0 X S (c_X4_charged0 l D cA ad _ F i hi) ob_0 rfl (cwV 2 hts gL_charged_X4_charged rfl rfl rfl (by decide +kernel) ⟨Nat.le_of_ble_eq_true rfl, Nat.le_of_ble_eq_true rfl⟩) rfl hl.1 rfl (Nat.le_of_ble_eq_true rfl) dL_charged_5 ⟨Nat.zero_le _, Nat.zero_le _⟩ (fun H locs S => ?_)
  refine lv_i2l hx hb dL_charged_8 rfl ?_
  refine r_las (v := chC F i 1) X S rfl dL_charged_9 (fun H locs S => ?_)
  obtain ⟨F_1, eF_1⟩ : ∃ z, z = u2 F 59 0 (chC F i 1) := ⟨_, rfl⟩
  rw [← eF_1] at S
  refine lv_goto (tgt := 21) hx hb dL_charged_10 (by decide) ?_
  refine lv_iconst (v := 0) hx hb dL_charged_21 (by decide) ?_
  exact r_iret X S hr dL_charged_22 (Nat.le_of_ble_eq_true rfl) (Nat.le_of_ble_eq_true rfl) rfl (by rw [eF_1])

set_option maxHeartbeats 1000000 in
set_option maxRecDepth 100000 in
theorem w_L_charged1 (l : Launch) (D : va_G) (cA : Nat → ClassId) (ad : Nat → Nat) (sz : Nat) (F : FF) (i : Nat) (hi : i < 4) : CI l D cA ad sz yL_charged wsL_charged 8 135 1 6 [.ref (ad 0), .int (nI i), .int 1, .ref (ad 59)] F (some (.int 0)) (u2 F 59 0 (chC F i 2)) := by
  refine CIW_of (own := RL) (cc := cL_charged) (maxL := 5) (ret := (some .int)) (hh := [(0, 10, 13, 30), (0, 10, 17, 13)]) (by decide +kernel) rfl rfl (Nat.le_of_ble_eq_true rfl) ?_
  intro p e s m below meth c ls X S hr htab hl
  obtain ⟨⟨hx, hb, hml, hown, hts⟩, hE, hI, hlocks⟩ := id X
  have hl : lv_has ls 5 [(0, .ref (ad 0)), (1, .int (nI i)), (2, .int 1), (3, .ref (ad 59))] := hl
  refine lv_aload_n hx hb dL_charged_0 rfl (lv_at hl 3 rfl) ?_
  refine lv_iconst (v := 0) hx hb dL_charged_1 (by decide) ?_
  refine lv_aload_n hx hb dL_charged_2 rfl (lv_at hl 0 rfl) ?_
  refine lv_iload_n hx hb dL_charged_3 rfl (lv_at hl 1 rfl) ?_
  refine lv_iload_n hx hb dL_charged_4 rfl (lv_at hl 2 rfl) ?_
  refine r_V0 X S (c_X4_charged1 l D cA ad _ F i hi) ob_0 rfl (cwV 2 hts gL_charged_X4_charged rfl rfl rfl (by decide +kernel) ⟨Nat.le_of_ble_eq_true rfl, Nat.le_of_ble_eq_true rfl⟩) rfl hl.1 rfl (Nat.le_of_ble_eq_true rfl) dL_charged_5 ⟨Nat.zero_le _, Nat.zero_le _⟩ (fun H locs S => ?_)
  refine lv_i2l hx hb dL_charged_8 rfl ?_
  refine r_las (v := chC F i 2) X S rfl dL_charged_9 (fun H locs S => ?_)
  obtain ⟨F_1, eF_1⟩ : ∃ z, z = u2 F 59 0 (chC F i 2) := ⟨_, rfl⟩
  rw [← eF_1] at S
  refine lv_goto (tgt := 21) hx hb dL_charged_10 (by decide) ?_
  refine lv_iconst (v := 0) hx hb dL_charged_21 (by decide) ?_
  exact r_iret X S hr dL_charged_22 (Nat.le_of_ble_eq_true rfl) (Nat.le_of_ble_eq_true rfl) rfl (by rw [eF_1])

set_option maxHeartbeats 1000000 in
set_option maxRecDepth 100000 in
theorem w_L_charged2 (l : Launch) (D : va_G) (cA : Nat → ClassId) (ad : Nat → Nat) (sz : Nat) (F : FF) (i : Nat) (hi : i < 4) : CI l D cA ad sz yL_charged wsL_charged 8 135 1 6 [.ref (ad 0), .int (nI i), .int 2, .ref (ad 59)] F (some (.int 0)) (u2 F 59 0 (chC F i 4)) := by
  refine CIW_of (own := RL) (cc := cL_charged) (maxL := 5) (ret := (some .int)) (hh := [(0, 10, 13, 30), (0, 10, 17, 13)]) (by decide +kernel) rfl rfl (Nat.le_of_ble_eq_true rfl) ?_
  intro p e s m below meth c ls X S hr htab hl
  obtain ⟨⟨hx, hb, hml, hown, hts⟩, hE, hI, hlocks⟩ := id X
  have hl : lv_has ls 5 [(0, .ref (ad 0)), (1, .int (nI i)), (2, .int 2), (3, .ref (ad 59))] := hl
  refine lv_aload_n hx hb dL_charged_0 rfl (lv_at hl 3 rfl) ?_
  refine lv_iconst (v := 0) hx hb dL_charged_1 (by decide) ?_
  refine lv_aload_n hx hb dL_charged_2 rfl (lv_at hl 0 rfl) ?_
  refine lv_iload_n hx hb dL_charged_3 rfl (lv_at hl 1 rfl) ?_
  refine lv_iload_n hx hb dL_charged_4 rfl (lv_at hl 2 rfl) ?_
  refine r_V0 X S (c_X4_charged2 l D cA ad _ F i hi) ob_0 rfl (cwV 2 hts gL_charged_X4_charged rfl rfl rfl (by decide +kernel) ⟨Nat.le_of_ble_eq_true rfl, Nat.le_of_ble_eq_true rfl⟩) rfl hl.1 rfl (Nat.le_of_ble_eq_true rfl) dL_charged_5 ⟨Nat.zero_le _, Nat.zero_le _⟩ (fun H locs S => ?_)
  refine lv_i2l hx hb dL_charged_8 rfl ?_
  refine r_las (v := chC F i 4) X S rfl dL_charged_9 (fun H locs S => ?_)
  obtain ⟨F_1, eF_1⟩ : ∃ z, z = u2 F 59 0 (chC F i 4) := ⟨_, rfl⟩
  rw [← eF_1] at S
  refine lv_goto (tgt := 21) hx hb dL_charged_10 (by decide) ?_
  refine lv_iconst (v := 0) hx hb dL_charged_21 (by decide) ?_
  exact r_iret X S hr dL_charged_22 (Nat.le_of_ble_eq_true rfl) (Nat.le_of_ble_eq_true rfl) rfl (by rw [eF_1])

set_option maxHeartbeats 1000000 in
set_option maxRecDepth 100000 in
theorem x1_L_charged (l : Launch) (D : va_G) (cA : Nat → ClassId) (ad : Nat → Nat) (sz : Nat) (F : FF) (hst : l.stackTraces = false) (x kd : Int32) (h : wi x 0 3 = false) : CI l D cA ad sz yL_charged wsL_charged 8 135 1 6 [.ref (ad 0), .int x, .int kd, .ref (ad 59)] F (some (.int 1)) F := by
  refine CIW_of (own := RL) (cc := cL_charged) (maxL := 5) (ret := (some .int)) (hh := [(0, 10, 13, 30), (0, 10, 17, 13)]) (by decide +kernel) rfl rfl (Nat.le_of_ble_eq_true rfl) ?_
  intro p e s m below meth c ls X S hr htab hl
  obtain ⟨⟨hx, hb, hml, hown, hts⟩, hE, hI, hlocks⟩ := id X
  have hl : lv_has ls 5 [(0, .ref (ad 0)), (1, .int x), (2, .int kd), (3, .ref (ad 59))] := hl
  refine lv_aload_n hx hb dL_charged_0 rfl (lv_at hl 3 rfl) ?_
  refine lv_iconst (v := 0) hx hb dL_charged_1 (by decide) ?_
  refine lv_aload_n hx hb dL_charged_2 rfl (lv_at hl 0 rfl) ?_
  refine lv_iload_n hx hb dL_charged_3 rfl (lv_at hl 1 rfl) ?_
  refine lv_iload_n hx hb dL_charged_4 rfl (lv_at hl 2 rfl) ?_
  refine r_VX X S (x1_X4_charged l hst D cA ad _ F x kd h) ob_0 rfl (cwV 2 hts gL_charged_X4_charged rfl rfl rfl (by decide +kernel) ⟨Nat.le_of_ble_eq_true rfl, Nat.le_of_ble_eq_true rfl⟩) rfl hl.1 rfl (Nat.le_of_ble_eq_true rfl) dL_charged_5 ⟨Nat.le_of_ble_eq_true rfl, Nat.le_of_ble_eq_true rfl⟩ (fun ce q9 H locs S h1 h2 h3 => ?_)
  refine vx_catch (own := RL) (name := "java/lang/IndexOutOfBoundsException") hown [] ⟨0, 10, 13, 30⟩ [⟨0, 10, 17, 13⟩] (htab.trans rfl) (fun z hz => nomatch hz) rfl (by decide) (hts (.classLink RL 30 "java/lang/IndexOutOfBoundsException") (by decide +kernel)) (va_Nw.use rfl (hE.2.2.2.2.2.1 "java/lang/IndexOutOfBoundsException" (by simp [xcl]))) h1 h2 h3 ?_
  refine lv_astore (lv' := [(4, .ref q9), (0, .ref (ad 0)), (1, .int x), (2, .int kd), (3, .ref (ad 59))]) hx hb dL_charged_13 hl (by decide) rfl (fun ls hl => ?_)
  refine lv_iconst (v := 1) hx hb dL_charged_15 (by decide) ?_
  exact r_iret X S hr dL_charged_16 (Nat.le_of_ble_eq_true rfl) (Nat.le_of_ble_eq_true rfl) rfl rfl

set_option maxHeartbeats 1000000 in
set_option maxRecDepth 100000 in
theorem x2_L_charged (l : Launch) (D : va_G) (cA : Nat → ClassId) (ad : Nat → Nat) (sz : Nat) (F : FF) (hst : l.stackTraces = false) (i : Nat) (hi : i < 4) (kd : Int32) (h : wi kd 0 2 = false) : CI l D cA ad sz yL_charged wsL_charged 8 135 1 6 [.ref (ad 0), .int (nI i), .int kd, .ref (ad 59)] F (some (.int 2)) F := by
  refine CIW_of (own := RL) (cc := cL_charged) (maxL := 5) (ret := (some .int)) (hh := [(0, 10, 13, 30), (0, 10, 17, 13)]) (by decide +kernel) rfl rfl (Nat.le_of_ble_eq_true rfl) ?_
  intro p e s m below meth c ls X S hr htab hl
  obtain ⟨⟨hx, hb, hml, hown, hts⟩, hE, hI, hlocks⟩ := id X
  have hl : lv_has ls 5 [(0, .ref (ad 0)), (1, .int (nI i)), (2, .int kd), (3, .ref (ad 59))] := hl
  refine lv_aload_n hx hb dL_charged_0 rfl (lv_at hl 3 rfl) ?_
  refine lv_iconst (v := 0) hx hb dL_charged_1 (by decide) ?_
  refine lv_aload_n hx hb dL_charged_2 rfl (lv_at hl 0 rfl) ?_
  refine lv_iload_n hx hb dL_charged_3 rfl (lv_at hl 1 rfl) ?_
  refine lv_iload_n hx hb dL_charged_4 rfl (lv_at hl 2 rfl) ?_
  refine r_VX X S (x2_X4_charged l hst D cA ad _ F i hi kd h) ob_0 rfl (cwV 2 hts gL_charged_X4_charged rfl rfl rfl (by decide +kernel) ⟨Nat.le_of_ble_eq_true rfl, Nat.le_of_ble_eq_true rfl⟩) rfl hl.1 rfl (Nat.le_of_ble_eq_true rfl) dL_charged_5 ⟨Nat.le_of_ble_eq_true rfl, Nat.le_of_ble_eq_true rfl⟩ (fun ce q9 H locs S h1 h2 h3 => ?_)
  refine vx_catch (own := RL) (name := "java/lang/IllegalArgumentException") hown [⟨0, 10, 13, 30⟩] ⟨0, 10, 17, 13⟩ [] (htab.trans rfl) (fun z hz => by rw [List.mem_singleton.mp hz]; exact Or.inr ⟨by decide, "java/lang/IndexOutOfBoundsException", hts (.classLink RL 30 "java/lang/IndexOutOfBoundsException") (by decide +kernel), hE.2.2.2.2.2.2 "java/lang/IllegalArgumentException" (by simp [xcl]) "java/lang/IndexOutOfBoundsException" (by simp [xcl]) (by decide)⟩) rfl (by decide) (hts (.classLink RL 13 "java/lang/IllegalArgumentException") (by decide +kernel)) (va_Nw.use rfl (hE.2.2.2.2.2.1 "java/lang/IllegalArgumentException" (by simp [xcl]))) h1 h2 h3 ?_
  refine lv_astore (lv' := [(4, .ref q9), (0, .ref (ad 0)), (1, .int (nI i)), (2, .int kd), (3, .ref (ad 59))]) hx hb dL_charged_17 hl (by decide) rfl (fun ls hl => ?_)
  refine lv_iconst (v := 2) hx hb dL_charged_19 (by decide) ?_
  exact r_iret X S hr dL_charged_20 (Nat.le_of_ble_eq_true rfl) (Nat.le_of_ble_eq_true rfl) rfl rfl

set_option maxHeartbeats 1000000 in
set_option maxRecDepth 100000 in
theorem w_L_sponsored (l : Launch) (D : va_G) (cA : Nat → ClassId) (ad : Nat → Nat) (sz : Nat) (F : FF) (i : Nat) (hi : i < 4) : CI l D cA ad sz yL_sponsored wsL_sponsored 8 133 1 6 [.ref (ad 0), .int (nI i), .ref (ad 59)] F (some (.int 0)) (u2 F 59 0 (spC F i)) := by
  refine CIW_of (own := RL) (cc := cL_sponsored) (maxL := 4) (ret := (some .int)) (hh := [(0, 9, 12, 30)]) (by decide +kernel) rfl rfl (Nat.le_of_ble_eq_true rfl) ?_
  intro p e s m below meth c ls X S hr htab hl
  obtain ⟨⟨hx, hb, hml, hown, hts⟩, hE, hI, hlocks⟩ := id X
  have hl : lv_has ls 4 [(0, .ref (ad 0)), (1, .int (nI i)), (2, .ref (ad 59))] := hl
  refine lv_aload_n hx hb dL_sponsored_0 rfl (lv_at hl 2 rfl) ?_
  refine lv_iconst (v := 0) hx hb dL_sponsored_1 (by decide) ?_
  refine lv_aload_n hx hb dL_sponsored_2 rfl (lv_at hl 0 rfl) ?_
  refine lv_iload_n hx hb dL_sponsored_3 rfl (lv_at hl 1 rfl) ?_
  refine r_V0 X S (c_X4_sponsored l D cA ad _ F i hi) ob_0 rfl (cwV 1 hts gL_sponsored_X4_sponsored rfl rfl rfl (by decide +kernel) ⟨Nat.le_of_ble_eq_true rfl, Nat.le_of_ble_eq_true rfl⟩) rfl hl.1 rfl (Nat.le_of_ble_eq_true rfl) dL_sponsored_4 ⟨Nat.zero_le _, Nat.zero_le _⟩ (fun H locs S => ?_)
  refine lv_i2l hx hb dL_sponsored_7 rfl ?_
  refine r_las (v := spC F i) X S rfl dL_sponsored_8 (fun H locs S => ?_)
  obtain ⟨F_1, eF_1⟩ : ∃ z, z = u2 F 59 0 (spC F i) := ⟨_, rfl⟩
  rw [← eF_1] at S
  refine lv_goto (tgt := 15) hx hb dL_sponsored_9 (by decide) ?_
  refine lv_iconst (v := 0) hx hb dL_sponsored_15 (by decide) ?_
  exact r_iret X S hr dL_sponsored_16 (Nat.le_of_ble_eq_true rfl) (Nat.le_of_ble_eq_true rfl) rfl (by rw [eF_1])

set_option maxHeartbeats 1000000 in
set_option maxRecDepth 100000 in
theorem x1_L_sponsored (l : Launch) (D : va_G) (cA : Nat → ClassId) (ad : Nat → Nat) (sz : Nat) (F : FF) (hst : l.stackTraces = false) (x : Int32) (h : wi x 0 3 = false) : CI l D cA ad sz yL_sponsored wsL_sponsored 8 133 1 6 [.ref (ad 0), .int x, .ref (ad 59)] F (some (.int 1)) F := by
  refine CIW_of (own := RL) (cc := cL_sponsored) (maxL := 4) (ret := (some .int)) (hh := [(0, 9, 12, 30)]) (by decide +kernel) rfl rfl (Nat.le_of_ble_eq_true rfl) ?_
  intro p e s m below meth c ls X S hr htab hl
  obtain ⟨⟨hx, hb, hml, hown, hts⟩, hE, hI, hlocks⟩ := id X
  have hl : lv_has ls 4 [(0, .ref (ad 0)), (1, .int x), (2, .ref (ad 59))] := hl
  refine lv_aload_n hx hb dL_sponsored_0 rfl (lv_at hl 2 rfl) ?_
  refine lv_iconst (v := 0) hx hb dL_sponsored_1 (by decide) ?_
  refine lv_aload_n hx hb dL_sponsored_2 rfl (lv_at hl 0 rfl) ?_
  refine lv_iload_n hx hb dL_sponsored_3 rfl (lv_at hl 1 rfl) ?_
  refine r_VX X S (x1_X4_sponsored l hst D cA ad _ F x h) ob_0 rfl (cwV 1 hts gL_sponsored_X4_sponsored rfl rfl rfl (by decide +kernel) ⟨Nat.le_of_ble_eq_true rfl, Nat.le_of_ble_eq_true rfl⟩) rfl hl.1 rfl (Nat.le_of_ble_eq_true rfl) dL_sponsored_4 ⟨Nat.le_of_ble_eq_true rfl, Nat.le_of_ble_eq_true rfl⟩ (fun ce q9 H locs S h1 h2 h3 => ?_)
  refine vx_catch (own := RL) (name := "java/lang/IndexOutOfBoundsException") hown [] ⟨0, 9, 12, 30⟩ [] (htab.trans rfl) (fun z hz => nomatch hz) rfl (by decide) (hts (.classLink RL 30 "java/lang/IndexOutOfBoundsException") (by decide +kernel)) (va_Nw.use rfl (hE.2.2.2.2.2.1 "java/lang/IndexOutOfBoundsException" (by simp [xcl]))) h1 h2 h3 ?_
  refine lv_astore_n (lv' := [(3, .ref q9), (0, .ref (ad 0)), (1, .int x), (2, .ref (ad 59))]) hx hb dL_sponsored_12 rfl hl (by decide) rfl (fun ls hl => ?_)
  refine lv_iconst (v := 1) hx hb dL_sponsored_13 (by decide) ?_
  exact r_iret X S hr dL_sponsored_14 (Nat.le_of_ble_eq_true rfl) (Nat.le_of_ble_eq_true rfl) rfl rfl

set_option maxHeartbeats 1000000 in
set_option maxRecDepth 100000 in
theorem w_L_used (l : Launch) (D : va_G) (cA : Nat → ClassId) (ad : Nat → Nat) (sz : Nat) (F : FF) (i : Nat) (hi : i < 4) (j : Nat) (hj : j < 6) (h1 : hasI (nI j) (F (4 + 8 * i + 3) 3) = true) : CI l D cA ad sz yL_used wsL_used 8 135 1 6 [.ref (ad 0), .int (nI i), .int (nI j), .ref (ad 59)] F (some (.int 0)) (u2 (balF F i) 59 0 (balF F i (4 + 8 * i + 6) j)) := by
  refine CIW_of (own := RL) (cc := cL_used) (maxL := 5) (ret := (some .int)) (hh := [(0, 10, 13, 30)]) (by decide +kernel) rfl rfl (Nat.le_of_ble_eq_true rfl) ?_
  intro p e s m below meth c ls X S hr htab hl
  obtain ⟨⟨hx, hb, hml, hown, hts⟩, hE, hI, hlocks⟩ := id X
  have hl : lv_has ls 5 [(0, .ref (ad 0)), (1, .int (nI i)), (2, .int (nI j)), (3, .ref (ad 59))] := hl
  refine lv_aload_n hx hb dL_used_0 rfl (lv_at hl 3 rfl) ?_
  refine lv_iconst (v := 0) hx hb dL_used_1 (by decide) ?_
  refine lv_aload_n hx hb dL_used_2 rfl (lv_at hl 0 rfl) ?_
  refine lv_iload_n hx hb dL_used_3 rfl (lv_at hl 1 rfl) ?_
  refine lv_iload_n hx hb dL_used_4 rfl (lv_at hl 2 rfl) ?_
  refine r_V0 X S (c_X4_used l D cA ad _ F i hi j hj h1) ob_0 rfl (cwV 2 hts gL_used_X4_used rfl rfl rfl (by decide +kernel) ⟨Nat.le_of_ble_eq_true rfl, Nat.le_of_ble_eq_true rfl⟩) rfl hl.1 rfl (Nat.le_of_ble_eq_true rfl) dL_used_5 ⟨Nat.zero_le _, Nat.zero_le _⟩ (fun H locs S => ?_)
  obtain ⟨F_1, eF_1⟩ : ∃ z, z = balF F i := ⟨_, rfl⟩
  rw [← eF_1] at S
  refine lv_i2l hx hb dL_used_8 rfl ?_
  refine r_las (v := balF F i (4 + 8 * i + 6) j) X S rfl dL_used_9 (fun H locs S => ?_)
  obtain ⟨F_2, eF_2⟩ : ∃ z, z = u2 F_1 59 0 (balF F i (4 + 8 * i + 6) j) := ⟨_, rfl⟩
  rw [← eF_2] at S
  refine lv_goto (tgt := 17) hx hb dL_used_10 (by decide) ?_
  refine lv_iconst (v := 0) hx hb dL_used_17 (by decide) ?_
  exact r_iret X S hr dL_used_18 (Nat.le_of_ble_eq_true rfl) (Nat.le_of_ble_eq_true rfl) rfl (by rw [eF_2, eF_1])

set_option maxHeartbeats 1000000 in
set_option maxRecDepth 100000 in
theorem x1_L_used (l : Launch) (D : va_G) (cA : Nat → ClassId) (ad : Nat → Nat) (sz : Nat) (F : FF) (hst : l.stackTraces = false) (x y : Int32) (h : wi x 0 3 = false) : CI l D cA ad sz yL_used wsL_used 8 135 1 6 [.ref (ad 0), .int x, .int y, .ref (ad 59)] F (some (.int 1)) F := by
  refine CIW_of (own := RL) (cc := cL_used) (maxL := 5) (ret := (some .int)) (hh := [(0, 10, 13, 30)]) (by decide +kernel) rfl rfl (Nat.le_of_ble_eq_true rfl) ?_
  intro p e s m below meth c ls X S hr htab hl
  obtain ⟨⟨hx, hb, hml, hown, hts⟩, hE, hI, hlocks⟩ := id X
  have hl : lv_has ls 5 [(0, .ref (ad 0)), (1, .int x), (2, .int y), (3, .ref (ad 59))] := hl
  refine lv_aload_n hx hb dL_used_0 rfl (lv_at hl 3 rfl) ?_
  refine lv_iconst (v := 0) hx hb dL_used_1 (by decide) ?_
  refine lv_aload_n hx hb dL_used_2 rfl (lv_at hl 0 rfl) ?_
  refine lv_iload_n hx hb dL_used_3 rfl (lv_at hl 1 rfl) ?_
  refine lv_iload_n hx hb dL_used_4 rfl (lv_at hl 2 rfl) ?_
  refine r_VX X S (x1_X4_used l hst D cA ad _ F x y h) ob_0 rfl (cwV 2 hts gL_used_X4_used rfl rfl rfl (by decide +kernel) ⟨Nat.le_of_ble_eq_true rfl, Nat.le_of_ble_eq_true rfl⟩) rfl hl.1 rfl (Nat.le_of_ble_eq_true rfl) dL_used_5 ⟨Nat.le_of_ble_eq_true rfl, Nat.le_of_ble_eq_true rfl⟩ (fun ce q9 H locs S h1 h2 h3 => ?_)
  refine vx_catch (own := RL) (name := "java/lang/IndexOutOfBoundsException") hown [] ⟨0, 10, 13, 30⟩ [] (htab.trans rfl) (fun z hz => nomatch hz) rfl (by decide) (hts (.classLink RL 30 "java/lang/IndexOutOfBoundsException") (by decide +kernel)) (va_Nw.use rfl (hE.2.2.2.2.2.1 "java/lang/IndexOutOfBoundsException" (by simp [xcl]))) h1 h2 h3 ?_
  refine lv_astore (lv' := [(4, .ref q9), (0, .ref (ad 0)), (1, .int x), (2, .int y), (3, .ref (ad 59))]) hx hb dL_used_13 hl (by decide) rfl (fun ls hl => ?_)
  refine lv_iconst (v := 1) hx hb dL_used_15 (by decide) ?_
  exact r_iret X S hr dL_used_16 (Nat.le_of_ble_eq_true rfl) (Nat.le_of_ble_eq_true rfl) rfl rfl

set_option maxHeartbeats 1000000 in
set_option maxRecDepth 100000 in
theorem x4_L_used (l : Launch) (D : va_G) (cA : Nat → ClassId) (ad : Nat → Nat) (sz : Nat) (F : FF) (hst : l.stackTraces = false) (i : Nat) (hi : i < 4) (y : Int32) (h : hasI y (F (4 + 8 * i + 3) 3) = false) : CI l D cA ad sz yL_used wsL_used 8 135 1 6 [.ref (ad 0), .int (nI i), .int y, .ref (ad 59)] F (some (.int 1)) F := by
  refine CIW_of (own := RL) (cc := cL_used) (maxL := 5) (ret := (some .int)) (hh := [(0, 10, 13, 30)]) (by decide +kernel) rfl rfl (Nat.le_of_ble_eq_true rfl) ?_
  intro p e s m below meth c ls X S hr htab hl
  obtain ⟨⟨hx, hb, hml, hown, hts⟩, hE, hI, hlocks⟩ := id X
  have hl : lv_has ls 5 [(0, .ref (ad 0)), (1, .int (nI i)), (2, .int y), (3, .ref (ad 59))] := hl
  refine lv_aload_n hx hb dL_used_0 rfl (lv_at hl 3 rfl) ?_
  refine lv_iconst (v := 0) hx hb dL_used_1 (by decide) ?_
  refine lv_aload_n hx hb dL_used_2 rfl (lv_at hl 0 rfl) ?_
  refine lv_iload_n hx hb dL_used_3 rfl (lv_at hl 1 rfl) ?_
  refine lv_iload_n hx hb dL_used_4 rfl (lv_at hl 2 rfl) ?_
  refine r_VX X S (x4_X4_used l hst D cA ad _ F i hi y h) ob_0 rfl (cwV 2 hts gL_used_X4_used rfl rfl rfl (by decide +kernel) ⟨Nat.le_of_ble_eq_true rfl, Nat.le_of_ble_eq_true rfl⟩) rfl hl.1 rfl (Nat.le_of_ble_eq_true rfl) dL_used_5 ⟨Nat.le_of_ble_eq_true rfl, Nat.le_of_ble_eq_true rfl⟩ (fun ce q9 H locs S h1 h2 h3 => ?_)
  refine vx_catch (own := RL) (name := "java/lang/IndexOutOfBoundsException") hown [] ⟨0, 10, 13, 30⟩ [] (htab.trans rfl) (fun z hz => nomatch hz) rfl (by decide) (hts (.classLink RL 30 "java/lang/IndexOutOfBoundsException") (by decide +kernel)) (va_Nw.use rfl (hE.2.2.2.2.2.1 "java/lang/IndexOutOfBoundsException" (by simp [xcl]))) h1 h2 h3 ?_
  refine lv_astore (lv' := [(4, .ref q9), (0, .ref (ad 0)), (1, .int (nI i)), (2, .int y), (3, .ref (ad 59))]) hx hb dL_used_13 hl (by decide) rfl (fun ls hl => ?_)
  refine lv_iconst (v := 1) hx hb dL_used_15 (by decide) ?_
  exact r_iret X S hr dL_used_16 (Nat.le_of_ble_eq_true rfl) (Nat.le_of_ble_eq_true rfl) rfl rfl

set_option maxHeartbeats 1000000 in
set_option maxRecDepth 100000 in
theorem w_L_amountOf (l : Launch) (D : va_G) (cA : Nat → ClassId) (ad : Nat → Nat) (sz : Nat) (F : FF) (i : Nat) (hi : i < 4) (j : Nat) (hj : j < 6) (h1 : hasI (nI j) (F (4 + 8 * i + 3) 3) = true) : CI l D cA ad sz yL_amountOf wsL_amountOf 8 135 1 6 [.ref (ad 0), .int (nI i), .int (nI j), .ref (ad 59)] F (some (.int 0)) (u2 F 59 0 (F (4 + 8 * i + 5) j)) := by
  refine CIW_of (own := RL) (cc := cL_amountOf) (maxL := 5) (ret := (some .int)) (hh := [(0, 10, 13, 30)]) (by decide +kernel) rfl rfl (Nat.le_of_ble_eq_true rfl) ?_
  intro p e s m below meth c ls X S hr htab hl
  obtain ⟨⟨hx, hb, hml, hown, hts⟩, hE, hI, hlocks⟩ := id X
  have hl : lv_has ls 5 [(0, .ref (ad 0)), (1, .int (nI i)), (2, .int (nI j)), (3, .ref (ad 59))] := hl
  refine lv_aload_n hx hb dL_amountOf_0 rfl (lv_at hl 3 rfl) ?_
  refine lv_iconst (v := 0) hx hb dL_amountOf_1 (by decide) ?_
  refine lv_aload_n hx hb dL_amountOf_2 rfl (lv_at hl 0 rfl) ?_
  refine lv_iload_n hx hb dL_amountOf_3 rfl (lv_at hl 1 rfl) ?_
  refine lv_iload_n hx hb dL_amountOf_4 rfl (lv_at hl 2 rfl) ?_
  refine r_V0 X S (c_X4_amountOf l D cA ad _ F i hi j hj h1) ob_0 rfl (cwV 2 hts gL_amountOf_X4_amountOf rfl rfl rfl (by decide +kernel) ⟨Nat.le_of_ble_eq_true rfl, Nat.le_of_ble_eq_true rfl⟩) rfl hl.1 rfl (Nat.le_of_ble_eq_true rfl) dL_amountOf_5 ⟨Nat.zero_le _, Nat.zero_le _⟩ (fun H locs S => ?_)
  refine lv_i2l hx hb dL_amountOf_8 rfl ?_
  refine r_las (v := F (4 + 8 * i + 5) j) X S rfl dL_amountOf_9 (fun H locs S => ?_)
  obtain ⟨F_1, eF_1⟩ : ∃ z, z = u2 F 59 0 (F (4 + 8 * i + 5) j) := ⟨_, rfl⟩
  rw [← eF_1] at S
  refine lv_goto (tgt := 17) hx hb dL_amountOf_10 (by decide) ?_
  refine lv_iconst (v := 0) hx hb dL_amountOf_17 (by decide) ?_
  exact r_iret X S hr dL_amountOf_18 (Nat.le_of_ble_eq_true rfl) (Nat.le_of_ble_eq_true rfl) rfl (by rw [eF_1])

set_option maxHeartbeats 1000000 in
set_option maxRecDepth 100000 in
theorem x1_L_amountOf (l : Launch) (D : va_G) (cA : Nat → ClassId) (ad : Nat → Nat) (sz : Nat) (F : FF) (hst : l.stackTraces = false) (x y : Int32) (h : wi x 0 3 = false) : CI l D cA ad sz yL_amountOf wsL_amountOf 8 135 1 6 [.ref (ad 0), .int x, .int y, .ref (ad 59)] F (some (.int 1)) F := by
  refine CIW_of (own := RL) (cc := cL_amountOf) (maxL := 5) (ret := (some .int)) (hh := [(0, 10, 13, 30)]) (by decide +kernel) rfl rfl (Nat.le_of_ble_eq_true rfl) ?_
  intro p e s m below meth c ls X S hr htab hl
  obtain ⟨⟨hx, hb, hml, hown, hts⟩, hE, hI, hlocks⟩ := id X
  have hl : lv_has ls 5 [(0, .ref (ad 0)), (1, .int x), (2, .int y), (3, .ref (ad 59))] := hl
  refine lv_aload_n hx hb dL_amountOf_0 rfl (lv_at hl 3 rfl) ?_
  refine lv_iconst (v := 0) hx hb dL_amountOf_1 (by decide) ?_
  refine lv_aload_n hx hb dL_amountOf_2 rfl (lv_at hl 0 rfl) ?_
  refine lv_iload_n hx hb dL_amountOf_3 rfl (lv_at hl 1 rfl) ?_
  refine lv_iload_n hx hb dL_amountOf_4 rfl (lv_at hl 2 rfl) ?_
  refine r_VX X S (x1_X4_amountOf l hst D cA ad _ F x y h) ob_0 rfl (cwV 2 hts gL_amountOf_X4_amountOf rfl rfl rfl (by decide +kernel) ⟨Nat.le_of_ble_eq_true rfl, Nat.le_of_ble_eq_true rfl⟩) rfl hl.1 rfl (Nat.le_of_ble_eq_true rfl) dL_amountOf_5 ⟨Nat.le_of_ble_eq_true rfl, Nat.le_of_ble_eq_true rfl⟩ (fun ce q9 H locs S h1 h2 h3 => ?_)
  refine vx_catch (own := RL) (name := "java/lang/IndexOutOfBoundsException") hown [] ⟨0, 10, 13, 30⟩ [] (htab.trans rfl) (fun z hz => nomatch hz) rfl (by decide) (hts (.classLink RL 30 "java/lang/IndexOutOfBoundsException") (by decide +kernel)) (va_Nw.use rfl (hE.2.2.2.2.2.1 "java/lang/IndexOutOfBoundsException" (by simp [xcl]))) h1 h2 h3 ?_
  refine lv_astore (lv' := [(4, .ref q9), (0, .ref (ad 0)), (1, .int x), (2, .int y), (3, .ref (ad 59))]) hx hb dL_amountOf_13 hl (by decide) rfl (fun ls hl => ?_)
  refine lv_iconst (v := 1) hx hb dL_amountOf_15 (by decide) ?_
  exact r_iret X S hr dL_amountOf_16 (Nat.le_of_ble_eq_true rfl) (Nat.le_of_ble_eq_true rfl) rfl rfl

set_option maxHeartbeats 1000000 in
set_option maxRecDepth 100000 in
theorem x4_L_amountOf (l : Launch) (D : va_G) (cA : Nat → ClassId) (ad : Nat → Nat) (sz : Nat) (F : FF) (hst : l.stackTraces = false) (i : Nat) (hi : i < 4) (y : Int32) (h : hasI y (F (4 + 8 * i + 3) 3) = false) : CI l D cA ad sz yL_amountOf wsL_amountOf 8 135 1 6 [.ref (ad 0), .int (nI i), .int y, .ref (ad 59)] F (some (.int 1)) F := by
  refine CIW_of (own := RL) (cc := cL_amountOf) (maxL := 5) (ret := (some .int)) (hh := [(0, 10, 13, 30)]) (by decide +kernel) rfl rfl (Nat.le_of_ble_eq_true rfl) ?_
  intro p e s m below meth c ls X S hr htab hl
  obtain ⟨⟨hx, hb, hml, hown, hts⟩, hE, hI, hlocks⟩ := id X
  have hl : lv_has ls 5 [(0, .ref (ad 0)), (1, .int (nI i)), (2, .int y), (3, .ref (ad 59))] := hl
  refine lv_aload_n hx hb dL_amountOf_0 rfl (lv_at hl 3 rfl) ?_
  refine lv_iconst (v := 0) hx hb dL_amountOf_1 (by decide) ?_
  refine lv_aload_n hx hb dL_amountOf_2 rfl (lv_at hl 0 rfl) ?_
  refine lv_iload_n hx hb dL_amountOf_3 rfl (lv_at hl 1 rfl) ?_
  refine lv_iload_n hx hb dL_amountOf_4 rfl (lv_at hl 2 rfl) ?_
  refine r_VX X S (x4_X4_amountOf l hst D cA ad _ F i hi y h) ob_0 rfl (cwV 2 hts gL_amountOf_X4_amountOf rfl rfl rfl (by decide +kernel) ⟨Nat.le_of_ble_eq_true rfl, Nat.le_of_ble_eq_true rfl⟩) rfl hl.1 rfl (Nat.le_of_ble_eq_true rfl) dL_amountOf_5 ⟨Nat.le_of_ble_eq_true rfl, Nat.le_of_ble_eq_true rfl⟩ (fun ce q9 H locs S h1 h2 h3 => ?_)
  refine vx_catch (own := RL) (name := "java/lang/IndexOutOfBoundsException") hown [] ⟨0, 10, 13, 30⟩ [] (htab.trans rfl) (fun z hz => nomatch hz) rfl (by decide) (hts (.classLink RL 30 "java/lang/IndexOutOfBoundsException") (by decide +kernel)) (va_Nw.use rfl (hE.2.2.2.2.2.1 "java/lang/IndexOutOfBoundsException" (by simp [xcl]))) h1 h2 h3 ?_
  refine lv_astore (lv' := [(4, .ref q9), (0, .ref (ad 0)), (1, .int (nI i)), (2, .int y), (3, .ref (ad 59))]) hx hb dL_amountOf_13 hl (by decide) rfl (fun ls hl => ?_)
  refine lv_iconst (v := 1) hx hb dL_amountOf_15 (by decide) ?_
  exact r_iret X S hr dL_amountOf_16 (Nat.le_of_ble_eq_true rfl) (Nat.le_of_ble_eq_true rfl) rfl rfl

set_option maxHeartbeats 1000000 in
set_option maxRecDepth 100000 in
theorem w_L_paid (l : Launch) (D : va_G) (cA : Nat → ClassId) (ad : Nat → Nat) (sz : Nat) (F : FF) (i : Nat) (hi : i < 4) : CI l D cA ad sz yL_paid wsL_paid 8 133 1 6 [.ref (ad 0), .int (nI i), .ref (ad 59)] F (some (.int 0)) (u2 F 59 0 (F (4 + 8 * i) 10)) := by
  refine CIW_of (own := RL) (cc := cL_paid) (maxL := 4) (ret := (some .int)) (hh := [(0, 9, 12, 30)]) (by decide +kernel) rfl rfl (Nat.le_of_ble_eq_true rfl) ?_
  intro p e s m below meth c ls X S hr htab hl
  obtain ⟨⟨hx, hb, hml, hown, hts⟩, hE, hI, hlocks⟩ := id X
  have hl : lv_has ls 4 [(0, .ref (ad 0)), (1, .int (nI i)), (2, .ref (ad 59))] := hl
  refine lv_aload_n hx hb dL_paid_0 rfl (lv_at hl 2 rfl) ?_
  refine lv_iconst (v := 0) hx hb dL_paid_1 (by decide) ?_
  refine lv_aload_n hx hb dL_paid_2 rfl (lv_at hl 0 rfl) ?_
  refine lv_iload_n hx hb dL_paid_3 rfl (lv_at hl 1 rfl) ?_
  refine r_V0 X S (c_X4_paid l D cA ad _ F i hi) ob_0 rfl (cwV 1 hts gL_paid_X4_paid rfl rfl rfl (by decide +kernel) ⟨Nat.le_of_ble_eq_true rfl, Nat.le_of_ble_eq_true rfl⟩) rfl hl.1 rfl (Nat.le_of_ble_eq_true rfl) dL_paid_4 ⟨Nat.zero_le _, Nat.zero_le _⟩ (fun H locs S => ?_)
  refine lv_i2l hx hb dL_paid_7 rfl ?_
  refine r_las (v := F (4 + 8 * i) 10) X S rfl dL_paid_8 (fun H locs S => ?_)
  obtain ⟨F_1, eF_1⟩ : ∃ z, z = u2 F 59 0 (F (4 + 8 * i) 10) := ⟨_, rfl⟩
  rw [← eF_1] at S
  refine lv_goto (tgt := 15) hx hb dL_paid_9 (by decide) ?_
  refine lv_iconst (v := 0) hx hb dL_paid_15 (by decide) ?_
  exact r_iret X S hr dL_paid_16 (Nat.le_of_ble_eq_true rfl) (Nat.le_of_ble_eq_true rfl) rfl (by rw [eF_1])

set_option maxHeartbeats 1000000 in
set_option maxRecDepth 100000 in
theorem x1_L_paid (l : Launch) (D : va_G) (cA : Nat → ClassId) (ad : Nat → Nat) (sz : Nat) (F : FF) (hst : l.stackTraces = false) (x : Int32) (h : wi x 0 3 = false) : CI l D cA ad sz yL_paid wsL_paid 8 133 1 6 [.ref (ad 0), .int x, .ref (ad 59)] F (some (.int 1)) F := by
  refine CIW_of (own := RL) (cc := cL_paid) (maxL := 4) (ret := (some .int)) (hh := [(0, 9, 12, 30)]) (by decide +kernel) rfl rfl (Nat.le_of_ble_eq_true rfl) ?_
  intro p e s m below meth c ls X S hr htab hl
  obtain ⟨⟨hx, hb, hml, hown, hts⟩, hE, hI, hlocks⟩ := id X
  have hl : lv_has ls 4 [(0, .ref (ad 0)), (1, .int x), (2, .ref (ad 59))] := hl
  refine lv_aload_n hx hb dL_paid_0 rfl (lv_at hl 2 rfl) ?_
  refine lv_iconst (v := 0) hx hb dL_paid_1 (by decide) ?_
  refine lv_aload_n hx hb dL_paid_2 rfl (lv_at hl 0 rfl) ?_
  refine lv_iload_n hx hb dL_paid_3 rfl (lv_at hl 1 rfl) ?_
  refine r_VX X S (x1_X4_paid l hst D cA ad _ F x h) ob_0 rfl (cwV 1 hts gL_paid_X4_paid rfl rfl rfl (by decide +kernel) ⟨Nat.le_of_ble_eq_true rfl, Nat.le_of_ble_eq_true rfl⟩) rfl hl.1 rfl (Nat.le_of_ble_eq_true rfl) dL_paid_4 ⟨Nat.le_of_ble_eq_true rfl, Nat.le_of_ble_eq_true rfl⟩ (fun ce q9 H locs S h1 h2 h3 => ?_)
  refine vx_catch (own := RL) (name := "java/lang/IndexOutOfBoundsException") hown [] ⟨0, 9, 12, 30⟩ [] (htab.trans rfl) (fun z hz => nomatch hz) rfl (by decide) (hts (.classLink RL 30 "java/lang/IndexOutOfBoundsException") (by decide +kernel)) (va_Nw.use rfl (hE.2.2.2.2.2.1 "java/lang/IndexOutOfBoundsException" (by simp [xcl]))) h1 h2 h3 ?_
  refine lv_astore_n (lv' := [(3, .ref q9), (0, .ref (ad 0)), (1, .int x), (2, .ref (ad 59))]) hx hb dL_paid_12 rfl hl (by decide) rfl (fun ls hl => ?_)
  refine lv_iconst (v := 1) hx hb dL_paid_13 (by decide) ?_
  exact r_iret X S hr dL_paid_14 (Nat.le_of_ble_eq_true rfl) (Nat.le_of_ble_eq_true rfl) rfl rfl

set_option maxHeartbeats 1000000 in
set_option maxRecDepth 100000 in
theorem w_L_owed (l : Launch) (D : va_G) (cA : Nat → ClassId) (ad : Nat → Nat) (sz : Nat) (F : FF) (i : Nat) (hi : i < 4) : CI l D cA ad sz yL_owed wsL_owed 8 133 1 6 [.ref (ad 0), .int (nI i), .ref (ad 59)] F (some (.int 0)) (u2 (balF F i) 59 0 (balV F i)) := by
  refine CIW_of (own := RL) (cc := cL_owed) (maxL := 4) (ret := (some .int)) (hh := [(0, 9, 12, 30)]) (by decide +kernel) rfl rfl (Nat.le_of_ble_eq_true rfl) ?_
  intro p e s m below meth c ls X S hr htab hl
  obtain ⟨⟨hx, hb, hml, hown, hts⟩, hE, hI, hlocks⟩ := id X
  have hl : lv_has ls 4 [(0, .ref (ad 0)), (1, .int (nI i)), (2, .ref (ad 59))] := hl
  refine lv_aload_n hx hb dL_owed_0 rfl (lv_at hl 2 rfl) ?_
  refine lv_iconst (v := 0) hx hb dL_owed_1 (by decide) ?_
  refine lv_aload_n hx hb dL_owed_2 rfl (lv_at hl 0 rfl) ?_
  refine lv_iload_n hx hb dL_owed_3 rfl (lv_at hl 1 rfl) ?_
  refine r_V0 X S (c_X4_owed l D cA ad _ F i hi) ob_0 rfl (cwV 1 hts gL_owed_X4_owed rfl rfl rfl (by decide +kernel) ⟨Nat.le_of_ble_eq_true rfl, Nat.le_of_ble_eq_true rfl⟩) rfl hl.1 rfl (Nat.le_of_ble_eq_true rfl) dL_owed_4 ⟨Nat.zero_le _, Nat.zero_le _⟩ (fun H locs S => ?_)
  obtain ⟨F_1, eF_1⟩ : ∃ z, z = balF F i := ⟨_, rfl⟩
  rw [← eF_1] at S
  refine lv_i2l hx hb dL_owed_7 rfl ?_
  refine r_las (v := balV F i) X S rfl dL_owed_8 (fun H locs S => ?_)
  obtain ⟨F_2, eF_2⟩ : ∃ z, z = u2 F_1 59 0 (balV F i) := ⟨_, rfl⟩
  rw [← eF_2] at S
  refine lv_goto (tgt := 15) hx hb dL_owed_9 (by decide) ?_
  refine lv_iconst (v := 0) hx hb dL_owed_15 (by decide) ?_
  exact r_iret X S hr dL_owed_16 (Nat.le_of_ble_eq_true rfl) (Nat.le_of_ble_eq_true rfl) rfl (by rw [eF_2, eF_1])

set_option maxHeartbeats 1000000 in
set_option maxRecDepth 100000 in
theorem x1_L_owed (l : Launch) (D : va_G) (cA : Nat → ClassId) (ad : Nat → Nat) (sz : Nat) (F : FF) (hst : l.stackTraces = false) (x : Int32) (h : wi x 0 3 = false) : CI l D cA ad sz yL_owed wsL_owed 8 133 1 6 [.ref (ad 0), .int x, .ref (ad 59)] F (some (.int 1)) F := by
  refine CIW_of (own := RL) (cc := cL_owed) (maxL := 4) (ret := (some .int)) (hh := [(0, 9, 12, 30)]) (by decide +kernel) rfl rfl (Nat.le_of_ble_eq_true rfl) ?_
  intro p e s m below meth c ls X S hr htab hl
  obtain ⟨⟨hx, hb, hml, hown, hts⟩, hE, hI, hlocks⟩ := id X
  have hl : lv_has ls 4 [(0, .ref (ad 0)), (1, .int x), (2, .ref (ad 59))] := hl
  refine lv_aload_n hx hb dL_owed_0 rfl (lv_at hl 2 rfl) ?_
  refine lv_iconst (v := 0) hx hb dL_owed_1 (by decide) ?_
  refine lv_aload_n hx hb dL_owed_2 rfl (lv_at hl 0 rfl) ?_
  refine lv_iload_n hx hb dL_owed_3 rfl (lv_at hl 1 rfl) ?_
  refine r_VX X S (x1_X4_owed l hst D cA ad _ F x h) ob_0 rfl (cwV 1 hts gL_owed_X4_owed rfl rfl rfl (by decide +kernel) ⟨Nat.le_of_ble_eq_true rfl, Nat.le_of_ble_eq_true rfl⟩) rfl hl.1 rfl (Nat.le_of_ble_eq_true rfl) dL_owed_4 ⟨Nat.le_of_ble_eq_true rfl, Nat.le_of_ble_eq_true rfl⟩ (fun ce q9 H locs S h1 h2 h3 => ?_)
  refine vx_catch (own := RL) (name := "java/lang/IndexOutOfBoundsException") hown [] ⟨0, 9, 12, 30⟩ [] (htab.trans rfl) (fun z hz => nomatch hz) rfl (by decide) (hts (.classLink RL 30 "java/lang/IndexOutOfBoundsException") (by decide +kernel)) (va_Nw.use rfl (hE.2.2.2.2.2.1 "java/lang/IndexOutOfBoundsException" (by simp [xcl]))) h1 h2 h3 ?_
  refine lv_astore_n (lv' := [(3, .ref q9), (0, .ref (ad 0)), (1, .int x), (2, .ref (ad 59))]) hx hb dL_owed_12 rfl hl (by decide) rfl (fun ls hl => ?_)
  refine lv_iconst (v := 1) hx hb dL_owed_13 (by decide) ?_
  exact r_iret X S hr dL_owed_14 (Nat.le_of_ble_eq_true rfl) (Nat.le_of_ble_eq_true rfl) rfl rfl

set_option maxHeartbeats 1000000 in
set_option maxRecDepth 100000 in
theorem w_L_hasHold (l : Launch) (D : va_G) (cA : Nat → ClassId) (ad : Nat → Nat) (sz : Nat) (F : FF) (i : Nat) (hi : i < 4) : CI l D cA ad sz yL_hasHold wsL_hasHold 8 133 1 6 [.ref (ad 0), .int (nI i), .ref (ad 59)] F (some (.int 0)) (u2 (balF F i) 59 0 (bI (!decide (balV F i ≤ balF F i 0 6)))) := by
  refine CIW_of (own := RL) (cc := cL_hasHold) (maxL := 4) (ret := (some .int)) (hh := [(0, 16, 19, 30)]) (by decide +kernel) rfl rfl (Nat.le_of_ble_eq_true rfl) ?_
  intro p e s m below meth c ls X S hr htab hl
  obtain ⟨⟨hx, hb, hml, hown, hts⟩, hE, hI, hlocks⟩ := id X
  have hl : lv_has ls 4 [(0, .ref (ad 0)), (1, .int (nI i)), (2, .ref (ad 59))] := hl
  refine lv_aload_n hx hb dL_hasHold_0 rfl (lv_at hl 2 rfl) ?_
  refine lv_iconst (v := 0) hx hb dL_hasHold_1 (by decide) ?_
  refine lv_aload_n hx hb dL_hasHold_2 rfl (lv_at hl 0 rfl) ?_
  refine lv_iload_n hx hb dL_hasHold_3 rfl (lv_at hl 1 rfl) ?_
  refine r_V0 X S (c_X4_hasHold l D cA ad _ F i hi) ob_0 rfl (cwV 1 hts gL_hasHold_X4_hasHold rfl rfl rfl (by decide +kernel) ⟨Nat.le_of_ble_eq_true rfl, Nat.le_of_ble_eq_true rfl⟩) rfl hl.1 rfl (Nat.le_of_ble_eq_true rfl) dL_hasHold_4 ⟨Nat.zero_le _, Nat.zero_le _⟩ (fun H locs S => ?_)
  obtain ⟨F_1, eF_1⟩ : ∃ z, z = balF F i := ⟨_, rfl⟩
  rw [← eF_1] at S
  refine lv_if_eq (tgt := 14) hx hb dL_hasHold_7 (by decide) (fun c_2 => ?_) (fun c_2 => ?_)
  · have c_2 : (!decide (balV F i ≤ balF F i 0 6)) = false := bI_f c_2
    refine lv_lconst (v := 0) hx hb dL_hasHold_14 (by decide) ?_
    refine r_las (v := 0) X S (by decide) dL_hasHold_15 (fun H locs S => ?_)
    obtain ⟨F_3, eF_3⟩ : ∃ z, z = u2 F_1 59 0 0 := ⟨_, rfl⟩
    rw [← eF_3] at S
    refine lv_goto (tgt := 22) hx hb dL_hasHold_16 (by decide) ?_
    refine lv_iconst (v := 0) hx hb dL_hasHold_22 (by decide) ?_
    exact r_iret X S hr dL_hasHold_23 (Nat.le_of_ble_eq_true rfl) (Nat.le_of_ble_eq_true rfl) rfl (by rw [eF_3, eF_1, c_2]; rfl)
  · have c_2 : (!decide (balV F i ≤ balF F i 0 6)) = true := bI_t c_2
    refine lv_lconst (v := 1) hx hb dL_hasHold_10 (by decide) ?_
    refine lv_goto (tgt := 15) hx hb dL_hasHold_11 (by decide) ?_
    refine r_las (v := 1) X S (by decide) dL_hasHold_15 (fun H locs S => ?_)
    obtain ⟨F_4, eF_4⟩ : ∃ z, z = u2 F_1 59 0 1 := ⟨_, rfl⟩
    rw [← eF_4] at S
    refine lv_goto (tgt := 22) hx hb dL_hasHold_16 (by decide) ?_
    refine lv_iconst (v := 0) hx hb dL_hasHold_22 (by decide) ?_
    exact r_iret X S hr dL_hasHold_23 (Nat.le_of_ble_eq_true rfl) (Nat.le_of_ble_eq_true rfl) rfl (by rw [eF_4, eF_1, c_2]; rfl)

set_option maxHeartbeats 1000000 in
set_option maxRecDepth 100000 in
theorem x1_L_hasHold (l : Launch) (D : va_G) (cA : Nat → ClassId) (ad : Nat → Nat) (sz : Nat) (F : FF) (hst : l.stackTraces = false) (x : Int32) (h : wi x 0 3 = false) : CI l D cA ad sz yL_hasHold wsL_hasHold 8 133 1 6 [.ref (ad 0), .int x, .ref (ad 59)] F (some (.int 1)) F := by
  refine CIW_of (own := RL) (cc := cL_hasHold) (maxL := 4) (ret := (some .int)) (hh := [(0, 16, 19, 30)]) (by decide +kernel) rfl rfl (Nat.le_of_ble_eq_true rfl) ?_
  intro p e s m below meth c ls X S hr htab hl
  obtain ⟨⟨hx, hb, hml, hown, hts⟩, hE, hI, hlocks⟩ := id X
  have hl : lv_has ls 4 [(0, .ref (ad 0)), (1, .int x), (2, .ref (ad 59))] := hl
  refine lv_aload_n hx hb dL_hasHold_0 rfl (lv_at hl 2 rfl) ?_
  refine lv_iconst (v := 0) hx hb dL_hasHold_1 (by decide) ?_
  refine lv_aload_n hx hb dL_hasHold_2 rfl (lv_at hl 0 rfl) ?_
  refine lv_iload_n hx hb dL_hasHold_3 rfl (lv_at hl 1 rfl) ?_
  refine r_VX X S (x1_X4_hasHold l hst D cA ad _ F x h) ob_0 rfl (cwV 1 hts gL_hasHold_X4_hasHold rfl rfl rfl (by decide +kernel) ⟨Nat.le_of_ble_eq_true rfl, Nat.le_of_ble_eq_true rfl⟩) rfl hl.1 rfl (Nat.le_of_ble_eq_true rfl) dL_hasHold_4 ⟨Nat.le_of_ble_eq_true rfl, Nat.le_of_ble_eq_true rfl⟩ (fun ce q9 H locs S h1 h2 h3 => ?_)
  refine vx_catch (own := RL) (name := "java/lang/IndexOutOfBoundsException") hown [] ⟨0, 16, 19, 30⟩ [] (htab.trans rfl) (fun z hz => nomatch hz) rfl (by decide) (hts (.classLink RL 30 "java/lang/IndexOutOfBoundsException") (by decide +kernel)) (va_Nw.use rfl (hE.2.2.2.2.2.1 "java/lang/IndexOutOfBoundsException" (by simp [xcl]))) h1 h2 h3 ?_
  refine lv_astore_n (lv' := [(3, .ref q9), (0, .ref (ad 0)), (1, .int x), (2, .ref (ad 59))]) hx hb dL_hasHold_19 rfl hl (by decide) rfl (fun ls hl => ?_)
  refine lv_iconst (v := 1) hx hb dL_hasHold_20 (by decide) ?_
  exact r_iret X S hr dL_hasHold_21 (Nat.le_of_ble_eq_true rfl) (Nat.le_of_ble_eq_true rfl) rfl rfl
