set_option maxHeartbeats 1000000 in
set_option maxRecDepth 100000 in
theorem w_does_setRate (l : Launch) (D : va_G) (cA : Nat → ClassId) (ad : Nat → Nat) (sz : Nat) (F : FF) (lv : Int32) (b4 : Int32) (rt : Int32) (h1 : wi lv 0 1 = true) (h2 : wi rt 0 100000 = true) : CI l D cA ad sz yL_does wsL_does 9 161 1 6 [.ref (ad 0), .int 0, .int lv, .int b4, .int rt] F (some (.int (F 2 (plc lv (bI (decide (b4 = 1))))))) (srF F lv (decide (b4 = 1)) rt) := by
  refine CIW_of (own := RL) (cc := cL_does) (maxL := 6) (ret := (some .int)) (hh := [(0, 176, 177, 51), (0, 176, 182, 54), (0, 176, 187, 56)]) (by decide +kernel) rfl rfl (Nat.le_of_ble_eq_true rfl) ?_
  intro p e s m below meth c ls X S hr htab hl
  obtain ⟨⟨hx, hb, hml, hown, hts⟩, hE, hI, hlocks⟩ := id X
  have hl : lv_has ls 6 [(0, .ref (ad 0)), (1, .int 0), (2, .int lv), (3, .int b4), (4, .int rt)] := hl
  refine lv_iload_n hx hb dL_does_0 rfl (lv_at hl 1 rfl) ?_
  refine lv_if_ne (tgt := 24) hx hb dL_does_1 (by decide) (fun z => False.elim (by first | exact absurd z (by decide) | exact absurd (by decide) z)) (fun _ => ?_)
  refine lv_aload_n hx hb dL_does_4 rfl (lv_at hl 0 rfl) ?_
  refine lv_iload_n hx hb dL_does_5 rfl (lv_at hl 2 rfl) ?_
  refine lv_iload_n hx hb dL_does_6 rfl (lv_at hl 3 rfl) ?_
  refine lv_iconst (v := 1) hx hb dL_does_7 (by decide) ?_
  refine lv_icmp_ne (tgt := 15) hx hb dL_does_8 (by decide) (fun c_1 => ?_) (fun c_1 => ?_)
  · refine lv_iconst (v := 0) hx hb dL_does_15 (by decide) ?_
    refine lv_topi (fun x_2 ex_2 => ?_)
    obtain rfl : x_2 = bI (decide (b4 = 1)) := ex_2.trans (by rw [decide_eq_false (p := b4 = 1) c_1]; rfl)
    refine lv_iload hx hb dL_does_16 (lv_at hl 4 rfl) ?_
    refine r_V0 X S (c_X4_setRate l D cA ad _ F lv (decide (b4 = 1)) rt h1 h2) ob_0 rfl (cwV 3 hts gL_does_X4_setRate rfl rfl rfl (by decide +kernel) ⟨Nat.le_of_ble_eq_true rfl, Nat.le_of_ble_eq_true rfl⟩) rfl hl.1 rfl (Nat.le_of_ble_eq_true rfl) dL_does_18 ⟨Nat.zero_le _, Nat.zero_le _⟩ (fun H locs S => ?_)
    obtain ⟨F_3, eF_3⟩ : ∃ z, z = srF F lv (decide (b4 = 1)) rt := ⟨_, rfl⟩
    rw [← eF_3] at S
    refine lv_goto (tgt := 176) hx hb dL_does_21 (by decide) ?_
    exact r_iret X S hr dL_does_176 (Nat.le_of_ble_eq_true rfl) (Nat.le_of_ble_eq_true rfl) rfl (by rw [eF_3])
  · refine lv_iconst (v := 1) hx hb dL_does_11 (by decide) ?_
    refine lv_goto (tgt := 16) hx hb dL_does_12 (by decide) ?_
    refine lv_topi (fun x_4 ex_4 => ?_)
    obtain rfl : x_4 = bI (decide (b4 = 1)) := ex_4.trans (by rw [decide_eq_true (p := b4 = 1) c_1]; rfl)
    refine lv_iload hx hb dL_does_16 (lv_at hl 4 rfl) ?_
    refine r_V0 X S (c_X4_setRate l D cA ad _ F lv (decide (b4 = 1)) rt h1 h2) ob_0 rfl (cwV 3 hts gL_does_X4_setRate rfl rfl rfl (by decide +kernel) ⟨Nat.le_of_ble_eq_true rfl, Nat.le_of_ble_eq_true rfl⟩) rfl hl.1 rfl (Nat.le_of_ble_eq_true rfl) dL_does_18 ⟨Nat.zero_le _, Nat.zero_le _⟩ (fun H locs S => ?_)
    obtain ⟨F_5, eF_5⟩ : ∃ z, z = srF F lv (decide (b4 = 1)) rt := ⟨_, rfl⟩
    rw [← eF_5] at S
    refine lv_goto (tgt := 176) hx hb dL_does_21 (by decide) ?_
    exact r_iret X S hr dL_does_176 (Nat.le_of_ble_eq_true rfl) (Nat.le_of_ble_eq_true rfl) rfl (by rw [eF_5])

set_option maxHeartbeats 1000000 in
set_option maxRecDepth 100000 in
theorem x1_does_setRate (l : Launch) (D : va_G) (cA : Nat → ClassId) (ad : Nat → Nat) (sz : Nat) (F : FF) (hst : l.stackTraces = false) (lv : Int32) (b4 : Int32) (rt : Int32) (h : ¬ (wi lv 0 1 = true ∧ wi rt 0 100000 = true)) : CI l D cA ad sz yL_does wsL_does 9 161 1 6 [.ref (ad 0), .int 0, .int lv, .int b4, .int rt] F (some (.int (-1000000001))) F := by
  refine CIW_of (own := RL) (cc := cL_does) (maxL := 6) (ret := (some .int)) (hh := [(0, 176, 177, 51), (0, 176, 182, 54), (0, 176, 187, 56)]) (by decide +kernel) rfl rfl (Nat.le_of_ble_eq_true rfl) ?_
  intro p e s m below meth c ls X S hr htab hl
  obtain ⟨⟨hx, hb, hml, hown, hts⟩, hE, hI, hlocks⟩ := id X
  have hl : lv_has ls 6 [(0, .ref (ad 0)), (1, .int 0), (2, .int lv), (3, .int b4), (4, .int rt)] := hl
  refine lv_iload_n hx hb dL_does_0 rfl (lv_at hl 1 rfl) ?_
  refine lv_if_ne (tgt := 24) hx hb dL_does_1 (by decide) (fun z => False.elim (by first | exact absurd z (by decide) | exact absurd (by decide) z)) (fun _ => ?_)
  refine lv_aload_n hx hb dL_does_4 rfl (lv_at hl 0 rfl) ?_
  refine lv_iload_n hx hb dL_does_5 rfl (lv_at hl 2 rfl) ?_
  refine lv_iload_n hx hb dL_does_6 rfl (lv_at hl 3 rfl) ?_
  refine lv_iconst (v := 1) hx hb dL_does_7 (by decide) ?_
  refine lv_icmp_ne (tgt := 15) hx hb dL_does_8 (by decide) (fun c_1 => ?_) (fun c_1 => ?_)
  · refine lv_iconst (v := 0) hx hb dL_does_15 (by decide) ?_
    refine lv_topi (fun x_2 ex_2 => ?_)
    obtain rfl : x_2 = bI (decide (b4 = 1)) := ex_2.trans (by rw [decide_eq_false (p := b4 = 1) c_1]; rfl)
    refine lv_iload hx hb dL_does_16 (lv_at hl 4 rfl) ?_
    refine r_VX X S (x1_X4_setRate l hst D cA ad _ F lv (decide (b4 = 1)) rt h) ob_0 rfl (cwV 3 hts gL_does_X4_setRate rfl rfl rfl (by decide +kernel) ⟨Nat.le_of_ble_eq_true rfl, Nat.le_of_ble_eq_true rfl⟩) rfl hl.1 rfl (Nat.le_of_ble_eq_true rfl) dL_does_18 ⟨Nat.le_of_ble_eq_true rfl, Nat.le_of_ble_eq_true rfl⟩ (fun ce q9 H locs S h1 h2 h3 => ?_)
    refine vx_catch (own := RL) (name := "java/lang/IllegalArgumentException") hown [⟨0, 176, 177, 51⟩] ⟨0, 176, 182, 54⟩ [⟨0, 176, 187, 56⟩] (htab.trans rfl) (fun z hz => by rw [List.mem_singleton.mp hz]; exact Or.inr ⟨by decide, "java/lang/IndexOutOfBoundsException", hts (.classLink RL 51 "java/lang/IndexOutOfBoundsException") (by decide +kernel), hE.2.2.2.2.2.2 "java/lang/IllegalArgumentException" (by simp [xcl]) "java/lang/IndexOutOfBoundsException" (by simp [xcl]) (by decide)⟩) rfl (by decide) (hts (.classLink RL 54 "java/lang/IllegalArgumentException") (by decide +kernel)) (va_Nw.use rfl (hE.2.2.2.2.2.1 "java/lang/IllegalArgumentException" (by simp [xcl]))) h1 h2 h3 ?_
    refine lv_astore (lv' := [(5, .ref q9), (0, .ref (ad 0)), (1, .int 0), (2, .int lv), (3, .int b4), (4, .int rt)]) hx hb dL_does_182 hl (by decide) rfl (fun ls hl => ?_)
    refine lv_ldc (v := -1000000001) hx hb hown (hts (.constant RL 53 (-1000000001)) (by decide +kernel)) dL_does_184 ?_
    exact r_iret X S hr dL_does_186 (Nat.le_of_ble_eq_true rfl) (Nat.le_of_ble_eq_true rfl) rfl rfl
  · refine lv_iconst (v := 1) hx hb dL_does_11 (by decide) ?_
    refine lv_goto (tgt := 16) hx hb dL_does_12 (by decide) ?_
    refine lv_topi (fun x_3 ex_3 => ?_)
    obtain rfl : x_3 = bI (decide (b4 = 1)) := ex_3.trans (by rw [decide_eq_true (p := b4 = 1) c_1]; rfl)
    refine lv_iload hx hb dL_does_16 (lv_at hl 4 rfl) ?_
    refine r_VX X S (x1_X4_setRate l hst D cA ad _ F lv (decide (b4 = 1)) rt h) ob_0 rfl (cwV 3 hts gL_does_X4_setRate rfl rfl rfl (by decide +kernel) ⟨Nat.le_of_ble_eq_true rfl, Nat.le_of_ble_eq_true rfl⟩) rfl hl.1 rfl (Nat.le_of_ble_eq_true rfl) dL_does_18 ⟨Nat.le_of_ble_eq_true rfl, Nat.le_of_ble_eq_true rfl⟩ (fun ce q9 H locs S h1 h2 h3 => ?_)
    refine vx_catch (own := RL) (name := "java/lang/IllegalArgumentException") hown [⟨0, 176, 177, 51⟩] ⟨0, 176, 182, 54⟩ [⟨0, 176, 187, 56⟩] (htab.trans rfl) (fun z hz => by rw [List.mem_singleton.mp hz]; exact Or.inr ⟨by decide, "java/lang/IndexOutOfBoundsException", hts (.classLink RL 51 "java/lang/IndexOutOfBoundsException") (by decide +kernel), hE.2.2.2.2.2.2 "java/lang/IllegalArgumentException" (by simp [xcl]) "java/lang/IndexOutOfBoundsException" (by simp [xcl]) (by decide)⟩) rfl (by decide) (hts (.classLink RL 54 "java/lang/IllegalArgumentException") (by decide +kernel)) (va_Nw.use rfl (hE.2.2.2.2.2.1 "java/lang/IllegalArgumentException" (by simp [xcl]))) h1 h2 h3 ?_
    refine lv_astore (lv' := [(5, .ref q9), (0, .ref (ad 0)), (1, .int 0), (2, .int lv), (3, .int b4), (4, .int rt)]) hx hb dL_does_182 hl (by decide) rfl (fun ls hl => ?_)
    refine lv_ldc (v := -1000000001) hx hb hown (hts (.constant RL 53 (-1000000001)) (by decide +kernel)) dL_does_184 ?_
    exact r_iret X S hr dL_does_186 (Nat.le_of_ble_eq_true rfl) (Nat.le_of_ble_eq_true rfl) rfl rfl

set_option maxHeartbeats 1000000 in
set_option maxRecDepth 100000 in
theorem w_does_setShare (l : Launch) (D : va_G) (cA : Nat → ClassId) (ad : Nat → Nat) (sz : Nat) (F : FF) (w : Nat) (hw : w < 16) (sh : Int32) (h2 : wi sh 0 100 = true) (c4 : Int32) : CI l D cA ad sz yL_does wsL_does 9 161 1 6 [.ref (ad 0), .int 2, .int (nI w), .int sh, .int c4] F (some (.int (F 3 w))) (u2 F 3 w sh) := by
  refine CIW_of (own := RL) (cc := cL_does) (maxL := 6) (ret := (some .int)) (hh := [(0, 176, 177, 51), (0, 176, 182, 54), (0, 176, 187, 56)]) (by decide +kernel) rfl rfl (Nat.le_of_ble_eq_true rfl) ?_
  intro p e s m below meth c ls X S hr htab hl
  obtain ⟨⟨hx, hb, hml, hown, hts⟩, hE, hI, hlocks⟩ := id X
  have hl : lv_has ls 6 [(0, .ref (ad 0)), (1, .int 2), (2, .int (nI w)), (3, .int sh), (4, .int c4)] := hl
  refine lv_iload_n hx hb dL_does_0 rfl (lv_at hl 1 rfl) ?_
  refine lv_if_ne (tgt := 24) hx hb dL_does_1 (by decide) (fun _ => ?_) (fun z => False.elim (by first | exact absurd z (by decide) | exact absurd (by decide) z))
  refine lv_iload_n hx hb dL_does_24 rfl (lv_at hl 1 rfl) ?_
  refine lv_iconst (v := 1) hx hb dL_does_25 (by decide) ?_
  refine lv_icmp_eq (tgt := 39) hx hb dL_does_26 (by decide) (fun z => False.elim (by first | exact absurd z (by decide) | exact absurd (by decide) z)) (fun _ => ?_)
  refine lv_iload_n hx hb dL_does_29 rfl (lv_at hl 1 rfl) ?_
  refine lv_iconst (v := 3) hx hb dL_does_30 (by decide) ?_
  refine lv_icmp_eq (tgt := 39) hx hb dL_does_31 (by decide) (fun z => False.elim (by first | exact absurd z (by decide) | exact absurd (by decide) z)) (fun _ => ?_)
  refine lv_iload_n hx hb dL_does_34 rfl (lv_at hl 1 rfl) ?_
  refine lv_iconst (v := 4) hx hb dL_does_35 (by decide) ?_
  refine lv_icmp_ne (tgt := 51) hx hb dL_does_36 (by decide) (fun _ => ?_) (fun z => False.elim (by first | exact absurd z (by decide) | exact absurd (by decide) z))
  refine lv_iload_n hx hb dL_does_51 rfl (lv_at hl 1 rfl) ?_
  refine lv_iconst (v := 2) hx hb dL_does_52 (by decide) ?_
  refine lv_icmp_ne (tgt := 65) hx hb dL_does_53 (by decide) (fun z => False.elim (by first | exact absurd z (by decide) | exact absurd (by decide) z)) (fun _ => ?_)
  refine lv_aload_n hx hb dL_does_56 rfl (lv_at hl 0 rfl) ?_
  refine lv_iload_n hx hb dL_does_57 rfl (lv_at hl 2 rfl) ?_
  refine lv_iload_n hx hb dL_does_58 rfl (lv_at hl 3 rfl) ?_
  refine r_V0 X S (c_X4_setShare l D cA ad _ F w hw sh h2) ob_0 rfl (cwV 2 hts gL_does_X4_setShare rfl rfl rfl (by decide +kernel) ⟨Nat.le_of_ble_eq_true rfl, Nat.le_of_ble_eq_true rfl⟩) rfl hl.1 rfl (Nat.le_of_ble_eq_true rfl) dL_does_59 ⟨Nat.zero_le _, Nat.zero_le _⟩ (fun H locs S => ?_)
  obtain ⟨F_1, eF_1⟩ : ∃ z, z = u2 F 3 w sh := ⟨_, rfl⟩
  rw [← eF_1] at S
  refine lv_goto (tgt := 176) hx hb dL_does_62 (by decide) ?_
  exact r_iret X S hr dL_does_176 (Nat.le_of_ble_eq_true rfl) (Nat.le_of_ble_eq_true rfl) rfl (by rw [eF_1])

set_option maxHeartbeats 1000000 in
set_option maxRecDepth 100000 in
theorem x1_does_setShare (l : Launch) (D : va_G) (cA : Nat → ClassId) (ad : Nat → Nat) (sz : Nat) (F : FF) (hst : l.stackTraces = false) (wk sh : Int32) (h : ¬ (wi wk 0 15 = true ∧ wi sh 0 100 = true)) (c4 : Int32) : CI l D cA ad sz yL_does wsL_does 9 161 1 6 [.ref (ad 0), .int 2, .int wk, .int sh, .int c4] F (some (.int (-1000000001))) F := by
  refine CIW_of (own := RL) (cc := cL_does) (maxL := 6) (ret := (some .int)) (hh := [(0, 176, 177, 51), (0, 176, 182, 54), (0, 176, 187, 56)]) (by decide +kernel) rfl rfl (Nat.le_of_ble_eq_true rfl) ?_
  intro p e s m below meth c ls X S hr htab hl
  obtain ⟨⟨hx, hb, hml, hown, hts⟩, hE, hI, hlocks⟩ := id X
  have hl : lv_has ls 6 [(0, .ref (ad 0)), (1, .int 2), (2, .int wk), (3, .int sh), (4, .int c4)] := hl
  refine lv_iload_n hx hb dL_does_0 rfl (lv_at hl 1 rfl) ?_
  refine lv_if_ne (tgt := 24) hx hb dL_does_1 (by decide) (fun _ => ?_) (fun z => False.elim (by first | exact absurd z (by decide) | exact absurd (by decide) z))
  refine lv_iload_n hx hb dL_does_24 rfl (lv_at hl 1 rfl) ?_
  refine lv_iconst (v := 1) hx hb dL_does_25 (by decide) ?_
  refine lv_icmp_eq (tgt := 39) hx hb dL_does_26 (by decide) (fun z => False.elim (by first | exact absurd z (by decide) | exact absurd (by decide) z)) (fun _ => ?_)
  refine lv_iload_n hx hb dL_does_29 rfl (lv_at hl 1 rfl) ?_
  refine lv_iconst (v := 3) hx hb dL_does_30 (by decide) ?_
  refine lv_icmp_eq (tgt := 39) hx hb dL_does_31 (by decide) (fun z => False.elim (by first | exact absurd z (by decide) | exact absurd (by decide) z)) (fun _ => ?_)
  refine lv_iload_n hx hb dL_does_34 rfl (lv_at hl 1 rfl) ?_
  refine lv_iconst (v := 4) hx hb dL_does_35 (by decide) ?_
  refine lv_icmp_ne (tgt := 51) hx hb dL_does_36 (by decide) (fun _ => ?_) (fun z => False.elim (by first | exact absurd z (by decide) | exact absurd (by decide) z))
  refine lv_iload_n hx hb dL_does_51 rfl (lv_at hl 1 rfl) ?_
  refine lv_iconst (v := 2) hx hb dL_does_52 (by decide) ?_
  refine lv_icmp_ne (tgt := 65) hx hb dL_does_53 (by decide) (fun z => False.elim (by first | exact absurd z (by decide) | exact absurd (by decide) z)) (fun _ => ?_)
  refine lv_aload_n hx hb dL_does_56 rfl (lv_at hl 0 rfl) ?_
  refine lv_iload_n hx hb dL_does_57 rfl (lv_at hl 2 rfl) ?_
  refine lv_iload_n hx hb dL_does_58 rfl (lv_at hl 3 rfl) ?_
  refine r_VX X S (x1_X4_setShare l hst D cA ad _ F wk sh h) ob_0 rfl (cwV 2 hts gL_does_X4_setShare rfl rfl rfl (by decide +kernel) ⟨Nat.le_of_ble_eq_true rfl, Nat.le_of_ble_eq_true rfl⟩) rfl hl.1 rfl (Nat.le_of_ble_eq_true rfl) dL_does_59 ⟨Nat.le_of_ble_eq_true rfl, Nat.le_of_ble_eq_true rfl⟩ (fun ce q9 H locs S h1 h2 h3 => ?_)
  refine vx_catch (own := RL) (name := "java/lang/IllegalArgumentException") hown [⟨0, 176, 177, 51⟩] ⟨0, 176, 182, 54⟩ [⟨0, 176, 187, 56⟩] (htab.trans rfl) (fun z hz => by rw [List.mem_singleton.mp hz]; exact Or.inr ⟨by decide, "java/lang/IndexOutOfBoundsException", hts (.classLink RL 51 "java/lang/IndexOutOfBoundsException") (by decide +kernel), hE.2.2.2.2.2.2 "java/lang/IllegalArgumentException" (by simp [xcl]) "java/lang/IndexOutOfBoundsException" (by simp [xcl]) (by decide)⟩) rfl (by decide) (hts (.classLink RL 54 "java/lang/IllegalArgumentException") (by decide +kernel)) (va_Nw.use rfl (hE.2.2.2.2.2.1 "java/lang/IllegalArgumentException" (by simp [xcl]))) h1 h2 h3 ?_
  refine lv_astore (lv' := [(5, .ref q9), (0, .ref (ad 0)), (1, .int 2), (2, .int wk), (3, .int sh), (4, .int c4)]) hx hb dL_does_182 hl (by decide) rfl (fun ls hl => ?_)
  refine lv_ldc (v := -1000000001) hx hb hown (hts (.constant RL 53 (-1000000001)) (by decide +kernel)) dL_does_184 ?_
  exact r_iret X S hr dL_does_186 (Nat.le_of_ble_eq_true rfl) (Nat.le_of_ble_eq_true rfl) rfl rfl

set_option maxHeartbeats 1000000 in
set_option maxRecDepth 100000 in
theorem w_does_take (l : Launch) (D : va_G) (cA : Nat → ClassId) (ad : Nat → Nat) (sz : Nat) (F : FF) (i : Nat) (hi : i < 4) (cr : Int32) (h1 : wi cr 1 10 = true) (t : Nat) (ht : t < 8) (et : F (4 + 8 * i + 1) 1 = nI t) (c4 : Int32) : CI l D cA ad sz yL_does wsL_does 9 161 1 6 [.ref (ad 0), .int 5, .int (nI i), .int cr, .int c4] F (some (.int (nI t))) (u2 (u2 F (4 + 8 * i + 2) t cr) (4 + 8 * i + 1) 1 (nI (t + 1))) := by
  refine CIW_of (own := RL) (cc := cL_does) (maxL := 6) (ret := (some .int)) (hh := [(0, 176, 177, 51), (0, 176, 182, 54), (0, 176, 187, 56)]) (by decide +kernel) rfl rfl (Nat.le_of_ble_eq_true rfl) ?_
  intro p e s m below meth c ls X S hr htab hl
  obtain ⟨⟨hx, hb, hml, hown, hts⟩, hE, hI, hlocks⟩ := id X
  have hl : lv_has ls 6 [(0, .ref (ad 0)), (1, .int 5), (2, .int (nI i)), (3, .int cr), (4, .int c4)] := hl
  refine lv_iload_n hx hb dL_does_0 rfl (lv_at hl 1 rfl) ?_
  refine lv_if_ne (tgt := 24) hx hb dL_does_1 (by decide) (fun _ => ?_) (fun z => False.elim (by first | exact absurd z (by decide) | exact absurd (by decide) z))
  refine lv_iload_n hx hb dL_does_24 rfl (lv_at hl 1 rfl) ?_
  refine lv_iconst (v := 1) hx hb dL_does_25 (by decide) ?_
  refine lv_icmp_eq (tgt := 39) hx hb dL_does_26 (by decide) (fun z => False.elim (by first | exact absurd z (by decide) | exact absurd (by decide) z)) (fun _ => ?_)
  refine lv_iload_n hx hb dL_does_29 rfl (lv_at hl 1 rfl) ?_
  refine lv_iconst (v := 3) hx hb dL_does_30 (by decide) ?_
  refine lv_icmp_eq (tgt := 39) hx hb dL_does_31 (by decide) (fun z => False.elim (by first | exact absurd z (by decide) | exact absurd (by decide) z)) (fun _ => ?_)
  refine lv_iload_n hx hb dL_does_34 rfl (lv_at hl 1 rfl) ?_
  refine lv_iconst (v := 4) hx hb dL_does_35 (by decide) ?_
  refine lv_icmp_ne (tgt := 51) hx hb dL_does_36 (by decide) (fun _ => ?_) (fun z => False.elim (by first | exact absurd z (by decide) | exact absurd (by decide) z))
  refine lv_iload_n hx hb dL_does_51 rfl (lv_at hl 1 rfl) ?_
  refine lv_iconst (v := 2) hx hb dL_does_52 (by decide) ?_
  refine lv_icmp_ne (tgt := 65) hx hb dL_does_53 (by decide) (fun _ => ?_) (fun z => False.elim (by first | exact absurd z (by decide) | exact absurd (by decide) z))
  refine lv_iload_n hx hb dL_does_65 rfl (lv_at hl 1 rfl) ?_
  refine lv_iconst (v := 5) hx hb dL_does_66 (by decide) ?_
  refine lv_icmp_ne (tgt := 79) hx hb dL_does_67 (by decide) (fun z => False.elim (by first | exact absurd z (by decide) | exact absurd (by decide) z)) (fun _ => ?_)
  refine lv_aload_n hx hb dL_does_70 rfl (lv_at hl 0 rfl) ?_
  refine lv_iload_n hx hb dL_does_71 rfl (lv_at hl 2 rfl) ?_
  refine lv_iload_n hx hb dL_does_72 rfl (lv_at hl 3 rfl) ?_
  refine r_V0 X S (c_X4_take l D cA ad _ F i hi cr h1 t ht et) ob_0 rfl (cwV 2 hts gL_does_X4_take rfl rfl rfl (by decide +kernel) ⟨Nat.le_of_ble_eq_true rfl, Nat.le_of_ble_eq_true rfl⟩) rfl hl.1 rfl (Nat.le_of_ble_eq_true rfl) dL_does_73 ⟨Nat.zero_le _, Nat.zero_le _⟩ (fun H locs S => ?_)
  obtain ⟨F_1, eF_1⟩ : ∃ z, z = u2 (u2 F (4 + 8 * i + 2) t cr) (4 + 8 * i + 1) 1 (nI (t + 1)) := ⟨_, rfl⟩
  rw [← eF_1] at S
  refine lv_goto (tgt := 176) hx hb dL_does_76 (by decide) ?_
  exact r_iret X S hr dL_does_176 (Nat.le_of_ble_eq_true rfl) (Nat.le_of_ble_eq_true rfl) rfl (by rw [eF_1])

set_option maxHeartbeats 1000000 in
set_option maxRecDepth 100000 in
theorem x1_does_take (l : Launch) (D : va_G) (cA : Nat → ClassId) (ad : Nat → Nat) (sz : Nat) (F : FF) (hst : l.stackTraces = false) (x cr : Int32) (h : wi x 0 3 = false) (c4 : Int32) : CI l D cA ad sz yL_does wsL_does 9 161 1 6 [.ref (ad 0), .int 5, .int x, .int cr, .int c4] F (some (.int (-1000000001))) F := by
  refine CIW_of (own := RL) (cc := cL_does) (maxL := 6) (ret := (some .int)) (hh := [(0, 176, 177, 51), (0, 176, 182, 54), (0, 176, 187, 56)]) (by decide +kernel) rfl rfl (Nat.le_of_ble_eq_true rfl) ?_
  intro p e s m below meth c ls X S hr htab hl
  obtain ⟨⟨hx, hb, hml, hown, hts⟩, hE, hI, hlocks⟩ := id X
  have hl : lv_has ls 6 [(0, .ref (ad 0)), (1, .int 5), (2, .int x), (3, .int cr), (4, .int c4)] := hl
  refine lv_iload_n hx hb dL_does_0 rfl (lv_at hl 1 rfl) ?_
  refine lv_if_ne (tgt := 24) hx hb dL_does_1 (by decide) (fun _ => ?_) (fun z => False.elim (by first | exact absurd z (by decide) | exact absurd (by decide) z))
  refine lv_iload_n hx hb dL_does_24 rfl (lv_at hl 1 rfl) ?_
  refine lv_iconst (v := 1) hx hb dL_does_25 (by decide) ?_
  refine lv_icmp_eq (tgt := 39) hx hb dL_does_26 (by decide) (fun z => False.elim (by first | exact absurd z (by decide) | exact absurd (by decide) z)) (fun _ => ?_)
  refine lv_iload_n hx hb dL_does_29 rfl (lv_at hl 1 rfl) ?_
  refine lv_iconst (v := 3) hx hb dL_does_30 (by decide) ?_
  refine lv_icmp_eq (tgt := 39) hx hb dL_does_31 (by decide) (fun z => False.elim (by first | exact absurd z (by decide) | exact absurd (by decide) z)) (fun _ => ?_)
  refine lv_iload_n hx hb dL_does_34 rfl (lv_at hl 1 rfl) ?_
  refine lv_iconst (v := 4) hx hb dL_does_35 (by decide) ?_
  refine lv_icmp_ne (tgt := 51) hx hb dL_does_36 (by decide) (fun _ => ?_) (fun z => False.elim (by first | exact absurd z (by decide) | exact absurd (by decide) z))
  refine lv_iload_n hx hb dL_does_51 rfl (lv_at hl 1 rfl) ?_
  refine lv_iconst (v := 2) hx hb dL_does_52 (by decide) ?_
  refine lv_icmp_ne (tgt := 65) hx hb dL_does_53 (by decide) (fun _ => ?_) (fun z => False.elim (by first | exact absurd z (by decide) | exact absurd (by decide) z))
  refine lv_iload_n hx hb dL_does_65 rfl (lv_at hl 1 rfl) ?_
  refine lv_iconst (v := 5) hx hb dL_does_66 (by decide) ?_
  refine lv_icmp_ne (tgt := 79) hx hb dL_does_67 (by decide) (fun z => False.elim (by first | exact absurd z (by decide) | exact absurd (by decide) z)) (fun _ => ?_)
  refine lv_aload_n hx hb dL_does_70 rfl (lv_at hl 0 rfl) ?_
  refine lv_iload_n hx hb dL_does_71 rfl (lv_at hl 2 rfl) ?_
  refine lv_iload_n hx hb dL_does_72 rfl (lv_at hl 3 rfl) ?_
  refine r_VX X S (x1_X4_take l hst D cA ad _ F x cr h) ob_0 rfl (cwV 2 hts gL_does_X4_take rfl rfl rfl (by decide +kernel) ⟨Nat.le_of_ble_eq_true rfl, Nat.le_of_ble_eq_true rfl⟩) rfl hl.1 rfl (Nat.le_of_ble_eq_true rfl) dL_does_73 ⟨Nat.le_of_ble_eq_true rfl, Nat.le_of_ble_eq_true rfl⟩ (fun ce q9 H locs S h1 h2 h3 => ?_)
  refine vx_catch (own := RL) (name := "java/lang/IndexOutOfBoundsException") hown [] ⟨0, 176, 177, 51⟩ [⟨0, 176, 182, 54⟩, ⟨0, 176, 187, 56⟩] (htab.trans rfl) (fun z hz => nomatch hz) rfl (by decide) (hts (.classLink RL 51 "java/lang/IndexOutOfBoundsException") (by decide +kernel)) (va_Nw.use rfl (hE.2.2.2.2.2.1 "java/lang/IndexOutOfBoundsException" (by simp [xcl]))) h1 h2 h3 ?_
  refine lv_astore (lv' := [(5, .ref q9), (0, .ref (ad 0)), (1, .int 5), (2, .int x), (3, .int cr), (4, .int c4)]) hx hb dL_does_177 hl (by decide) rfl (fun ls hl => ?_)
  refine lv_ldc (v := -1000000001) hx hb hown (hts (.constant RL 53 (-1000000001)) (by decide +kernel)) dL_does_179 ?_
  exact r_iret X S hr dL_does_181 (Nat.le_of_ble_eq_true rfl) (Nat.le_of_ble_eq_true rfl) rfl rfl

set_option maxHeartbeats 1000000 in
set_option maxRecDepth 100000 in
theorem x2_does_take (l : Launch) (D : va_G) (cA : Nat → ClassId) (ad : Nat → Nat) (sz : Nat) (F : FF) (hst : l.stackTraces = false) (i : Nat) (hi : i < 4) (cr : Int32) (h : wi cr 1 10 = false) (c4 : Int32) : CI l D cA ad sz yL_does wsL_does 9 161 1 6 [.ref (ad 0), .int 5, .int (nI i), .int cr, .int c4] F (some (.int (-1000000001))) F := by
  refine CIW_of (own := RL) (cc := cL_does) (maxL := 6) (ret := (some .int)) (hh := [(0, 176, 177, 51), (0, 176, 182, 54), (0, 176, 187, 56)]) (by decide +kernel) rfl rfl (Nat.le_of_ble_eq_true rfl) ?_
  intro p e s m below meth c ls X S hr htab hl
  obtain ⟨⟨hx, hb, hml, hown, hts⟩, hE, hI, hlocks⟩ := id X
  have hl : lv_has ls 6 [(0, .ref (ad 0)), (1, .int 5), (2, .int (nI i)), (3, .int cr), (4, .int c4)] := hl
  refine lv_iload_n hx hb dL_does_0 rfl (lv_at hl 1 rfl) ?_
  refine lv_if_ne (tgt := 24) hx hb dL_does_1 (by decide) (fun _ => ?_) (fun z => False.elim (by first | exact absurd z (by decide) | exact absurd (by decide) z))
  refine lv_iload_n hx hb dL_does_24 rfl (lv_at hl 1 rfl) ?_
  refine lv_iconst (v := 1) hx hb dL_does_25 (by decide) ?_
  refine lv_icmp_eq (tgt := 39) hx hb dL_does_26 (by decide) (fun z => False.elim (by first | exact absurd z (by decide) | exact absurd (by decide) z)) (fun _ => ?_)
  refine lv_iload_n hx hb dL_does_29 rfl (lv_at hl 1 rfl) ?_
  refine lv_iconst (v := 3) hx hb dL_does_30 (by decide) ?_
  refine lv_icmp_eq (tgt := 39) hx hb dL_does_31 (by decide) (fun z => False.elim (by first | exact absurd z (by decide) | exact absurd (by decide) z)) (fun _ => ?_)
  refine lv_iload_n hx hb dL_does_34 rfl (lv_at hl 1 rfl) ?_
  refine lv_iconst (v := 4) hx hb dL_does_35 (by decide) ?_
  refine lv_icmp_ne (tgt := 51) hx hb dL_does_36 (by decide) (fun _ => ?_) (fun z => False.elim (by first | exact absurd z (by decide) | exact absurd (by decide) z))
  refine lv_iload_n hx hb dL_does_51 rfl (lv_at hl 1 rfl) ?_
  refine lv_iconst (v := 2) hx hb dL_does_52 (by decide) ?_
  refine lv_icmp_ne (tgt := 65) hx hb dL_does_53 (by decide) (fun _ => ?_) (fun z => False.elim (by first | exact absurd z (by decide) | exact absurd (by decide) z))
  refine lv_iload_n hx hb dL_does_65 rfl (lv_at hl 1 rfl) ?_
  refine lv_iconst (v := 5) hx hb dL_does_66 (by decide) ?_
  refine lv_icmp_ne (tgt := 79) hx hb dL_does_67 (by decide) (fun z => False.elim (by first | exact absurd z (by decide) | exact absurd (by decide) z)) (fun _ => ?_)
  refine lv_aload_n hx hb dL_does_70 rfl (lv_at hl 0 rfl) ?_
  refine lv_iload_n hx hb dL_does_71 rfl (lv_at hl 2 rfl) ?_
  refine lv_iload_n hx hb dL_does_72 rfl (lv_at hl 3 rfl) ?_
  refine r_VX X S (x2_X4_take l hst D cA ad _ F i hi cr h) ob_0 rfl (cwV 2 hts gL_does_X4_take rfl rfl rfl (by decide +kernel) ⟨Nat.le_of_ble_eq_true rfl, Nat.le_of_ble_eq_true rfl⟩) rfl hl.1 rfl (Nat.le_of_ble_eq_true rfl) dL_does_73 ⟨Nat.le_of_ble_eq_true rfl, Nat.le_of_ble_eq_true rfl⟩ (fun ce q9 H locs S h1 h2 h3 => ?_)
  refine vx_catch (own := RL) (name := "java/lang/IllegalArgumentException") hown [⟨0, 176, 177, 51⟩] ⟨0, 176, 182, 54⟩ [⟨0, 176, 187, 56⟩] (htab.trans rfl) (fun z hz => by rw [List.mem_singleton.mp hz]; exact Or.inr ⟨by decide, "java/lang/IndexOutOfBoundsException", hts (.classLink RL 51 "java/lang/IndexOutOfBoundsException") (by decide +kernel), hE.2.2.2.2.2.2 "java/lang/IllegalArgumentException" (by simp [xcl]) "java/lang/IndexOutOfBoundsException" (by simp [xcl]) (by decide)⟩) rfl (by decide) (hts (.classLink RL 54 "java/lang/IllegalArgumentException") (by decide +kernel)) (va_Nw.use rfl (hE.2.2.2.2.2.1 "java/lang/IllegalArgumentException" (by simp [xcl]))) h1 h2 h3 ?_
  refine lv_astore (lv' := [(5, .ref q9), (0, .ref (ad 0)), (1, .int 5), (2, .int (nI i)), (3, .int cr), (4, .int c4)]) hx hb dL_does_182 hl (by decide) rfl (fun ls hl => ?_)
  refine lv_ldc (v := -1000000001) hx hb hown (hts (.constant RL 53 (-1000000001)) (by decide +kernel)) dL_does_184 ?_
  exact r_iret X S hr dL_does_186 (Nat.le_of_ble_eq_true rfl) (Nat.le_of_ble_eq_true rfl) rfl rfl

set_option maxHeartbeats 1000000 in
set_option maxRecDepth 100000 in
theorem x3_does_take (l : Launch) (D : va_G) (cA : Nat → ClassId) (ad : Nat → Nat) (sz : Nat) (F : FF) (hst : l.stackTraces = false) (i : Nat) (hi : i < 4) (cr : Int32) (h1 : wi cr 1 10 = true) (et : F (4 + 8 * i + 1) 1 = nI 8) (c4 : Int32) : CI l D cA ad sz yL_does wsL_does 9 161 1 6 [.ref (ad 0), .int 5, .int (nI i), .int cr, .int c4] F (some (.int (-1000000001))) F := by
  refine CIW_of (own := RL) (cc := cL_does) (maxL := 6) (ret := (some .int)) (hh := [(0, 176, 177, 51), (0, 176, 182, 54), (0, 176, 187, 56)]) (by decide +kernel) rfl rfl (Nat.le_of_ble_eq_true rfl) ?_
  intro p e s m below meth c ls X S hr htab hl
  obtain ⟨⟨hx, hb, hml, hown, hts⟩, hE, hI, hlocks⟩ := id X
  have hl : lv_has ls 6 [(0, .ref (ad 0)), (1, .int 5), (2, .int (nI i)), (3, .int cr), (4, .int c4)] := hl
  refine lv_iload_n hx hb dL_does_0 rfl (lv_at hl 1 rfl) ?_
  refine lv_if_ne (tgt := 24) hx hb dL_does_1 (by decide) (fun _ => ?_) (fun z => False.elim (by first | exact absurd z (by decide) | exact absurd (by decide) z))
  refine lv_iload_n hx hb dL_does_24 rfl (lv_at hl 1 rfl) ?_
  refine lv_iconst (v := 1) hx hb dL_does_25 (by decide) ?_
  refine lv_icmp_eq (tgt := 39) hx hb dL_does_26 (by decide) (fun z => False.elim (by first | exact absurd z (by decide) | exact absurd (by decide) z)) (fun _ => ?_)
  refine lv_iload_n hx hb dL_does_29 rfl (lv_at hl 1 rfl) ?_
  refine lv_iconst (v := 3) hx hb dL_does_30 (by decide) ?_
  refine lv_icmp_eq (tgt := 39) hx hb dL_does_31 (by decide) (fun z => False.elim (by first | exact absurd z (by decide) | exact absurd (by decide) z)) (fun _ => ?_)
  refine lv_iload_n hx hb dL_does_34 rfl (lv_at hl 1 rfl) ?_
  refine lv_iconst (v := 4) hx hb dL_does_35 (by decide) ?_
  refine lv_icmp_ne (tgt := 51) hx hb dL_does_36 (by decide) (fun _ => ?_) (fun z => False.elim (by first | exact absurd z (by decide) | exact absurd (by decide) z))
  refine lv_iload_n hx hb dL_does_51 rfl (lv_at hl 1 rfl) ?_
  refine lv_iconst (v := 2) hx hb dL_does_52 (by decide) ?_
  refine lv_icmp_ne (tgt := 65) hx hb dL_does_53 (by decide) (fun _ => ?_) (fun z => False.elim (by first | exact absurd z (by decide) | exact absurd (by decide) z))
  refine lv_iload_n hx hb dL_does_65 rfl (lv_at hl 1 rfl) ?_
  refine lv_iconst (v := 5) hx hb dL_does_66 (by decide) ?_
  refine lv_icmp_ne (tgt := 79) hx hb dL_does_67 (by decide) (fun z => False.elim (by first | exact absurd z (by decide) | exact absurd (by decide) z)) (fun _ => ?_)
  refine lv_aload_n hx hb dL_does_70 rfl (lv_at hl 0 rfl) ?_
  refine lv_iload_n hx hb dL_does_71 rfl (lv_at hl 2 rfl) ?_
  refine lv_iload_n hx hb dL_does_72 rfl (lv_at hl 3 rfl) ?_
  refine r_VX X S (x3_X4_take l hst D cA ad _ F i hi cr h1 et) ob_0 rfl (cwV 2 hts gL_does_X4_take rfl rfl rfl (by decide +kernel) ⟨Nat.le_of_ble_eq_true rfl, Nat.le_of_ble_eq_true rfl⟩) rfl hl.1 rfl (Nat.le_of_ble_eq_true rfl) dL_does_73 ⟨Nat.le_of_ble_eq_true rfl, Nat.le_of_ble_eq_true rfl⟩ (fun ce q9 H locs S h1 h2 h3 => ?_)
  refine vx_catch (own := RL) (name := "java/lang/IllegalStateException") hown [⟨0, 176, 177, 51⟩, ⟨0, 176, 182, 54⟩] ⟨0, 176, 187, 56⟩ [] (htab.trans rfl) (fun z hz => by
      simp only [List.mem_cons, List.not_mem_nil, or_false] at hz
      rcases hz with rfl | rfl
      · exact Or.inr ⟨by decide, "java/lang/IndexOutOfBoundsException", hts (.classLink RL 51 "java/lang/IndexOutOfBoundsException") (by decide +kernel), hE.2.2.2.2.2.2 "java/lang/IllegalStateException" (by simp [xcl]) "java/lang/IndexOutOfBoundsException" (by simp [xcl]) (by decide)⟩
      · exact Or.inr ⟨by decide, "java/lang/IllegalArgumentException", hts (.classLink RL 54 "java/lang/IllegalArgumentException") (by decide +kernel), hE.2.2.2.2.2.2 "java/lang/IllegalStateException" (by simp [xcl]) "java/lang/IllegalArgumentException" (by simp [xcl]) (by decide)⟩) rfl (by decide) (hts (.classLink RL 56 "java/lang/IllegalStateException") (by decide +kernel)) (va_Nw.use rfl (hE.2.2.2.2.2.1 "java/lang/IllegalStateException" (by simp [xcl]))) h1 h2 h3 ?_
  refine lv_astore (lv' := [(5, .ref q9), (0, .ref (ad 0)), (1, .int 5), (2, .int (nI i)), (3, .int cr), (4, .int c4)]) hx hb dL_does_187 hl (by decide) rfl (fun ls hl => ?_)
  refine lv_ldc (v := -1000000001) hx hb hown (hts (.constant RL 53 (-1000000001)) (by decide +kernel)) dL_does_189 ?_
  exact r_iret X S hr dL_does_191 (Nat.le_of_ble_eq_true rfl) (Nat.le_of_ble_eq_true rfl) rfl rfl

set_option maxHeartbeats 1000000 in
set_option maxRecDepth 100000 in
theorem w_does_drop (l : Launch) (D : va_G) (cA : Nat → ClassId) (ad : Nat → Nat) (sz : Nat) (F : FF) (i : Nat) (hi : i < 4) (j : Nat) (hj : j < 8) (h1 : hasI (nI j) (F (4 + 8 * i + 1) 1) = true) (h2 : ¬ F (4 + 8 * i + 2) j = 0) (w : Nat) (hw : w < 16) (ew : F 0 7 = nI w) (c4 : Int32) : CI l D cA ad sz yL_does wsL_does 9 161 1 6 [.ref (ad 0), .int 6, .int (nI i), .int (nI j), .int c4] F (some (.int (drK F i j w))) (drF F i j w) := by
  refine CIW_of (own := RL) (cc := cL_does) (maxL := 6) (ret := (some .int)) (hh := [(0, 176, 177, 51), (0, 176, 182, 54), (0, 176, 187, 56)]) (by decide +kernel) rfl rfl (Nat.le_of_ble_eq_true rfl) ?_
  intro p e s m below meth c ls X S hr htab hl
  obtain ⟨⟨hx, hb, hml, hown, hts⟩, hE, hI, hlocks⟩ := id X
  have hl : lv_has ls 6 [(0, .ref (ad 0)), (1, .int 6), (2, .int (nI i)), (3, .int (nI j)), (4, .int c4)] := hl
  refine lv_iload_n hx hb dL_does_0 rfl (lv_at hl 1 rfl) ?_
  refine lv_if_ne (tgt := 24) hx hb dL_does_1 (by decide) (fun _ => ?_) (fun z => False.elim (by first | exact absurd z (by decide) | exact absurd (by decide) z))
  refine lv_iload_n hx hb dL_does_24 rfl (lv_at hl 1 rfl) ?_
  refine lv_iconst (v := 1) hx hb dL_does_25 (by decide) ?_
  refine lv_icmp_eq (tgt := 39) hx hb dL_does_26 (by decide) (fun z => False.elim (by first | exact absurd z (by decide) | exact absurd (by decide) z)) (fun _ => ?_)
  refine lv_iload_n hx hb dL_does_29 rfl (lv_at hl 1 rfl) ?_
  refine lv_iconst (v := 3) hx hb dL_does_30 (by decide) ?_
  refine lv_icmp_eq (tgt := 39) hx hb dL_does_31 (by decide) (fun z => False.elim (by first | exact absurd z (by decide) | exact absurd (by decide) z)) (fun _ => ?_)
  refine lv_iload_n hx hb dL_does_34 rfl (lv_at hl 1 rfl) ?_
  refine lv_iconst (v := 4) hx hb dL_does_35 (by decide) ?_
  refine lv_icmp_ne (tgt := 51) hx hb dL_does_36 (by decide) (fun _ => ?_) (fun z => False.elim (by first | exact absurd z (by decide) | exact absurd (by decide) z))
  refine lv_iload_n hx hb dL_does_51 rfl (lv_at hl 1 rfl) ?_
  refine lv_iconst (v := 2) hx hb dL_does_52 (by decide) ?_
  refine lv_icmp_ne (tgt := 65) hx hb dL_does_53 (by decide) (fun _ => ?_) (fun z => False.elim (by first | exact absurd z (by decide) | exact absurd (by decide) z))
  refine lv_iload_n hx hb dL_does_65 rfl (lv_at hl 1 rfl) ?_
  refine lv_iconst (v := 5) hx hb dL_does_66 (by decide) ?_
  refine lv_icmp_ne (tgt := 79) hx hb dL_does_67 (by decide) (fun _ => ?_) (fun z => False.elim (by first | exact absurd z (by decide) | exact absurd (by decide) z))
  refine lv_iload_n hx hb dL_does_79 rfl (lv_at hl 1 rfl) ?_
  refine lv_bipush (v := 6) hx hb dL_does_80 (by decide) ?_
  refine lv_icmp_ne (tgt := 94) hx hb dL_does_82 (by decide) (fun z => False.elim (by first | exact absurd z (by decide) | exact absurd (by decide) z)) (fun _ => ?_)
  refine lv_aload_n hx hb dL_does_85 rfl (lv_at hl 0 rfl) ?_
  refine lv_iload_n hx hb dL_does_86 rfl (lv_at hl 2 rfl) ?_
  refine lv_iload_n hx hb dL_does_87 rfl (lv_at hl 3 rfl) ?_
  refine r_V0 X S (c_X4_drop l D cA ad _ F i hi j hj h1 h2 w hw ew) ob_0 rfl (cwV 2 hts gL_does_X4_drop rfl rfl rfl (by decide +kernel) ⟨Nat.le_of_ble_eq_true rfl, Nat.le_of_ble_eq_true rfl⟩) rfl hl.1 rfl (Nat.le_of_ble_eq_true rfl) dL_does_88 ⟨Nat.zero_le _, Nat.zero_le _⟩ (fun H locs S => ?_)
  obtain ⟨F_1, eF_1⟩ : ∃ z, z = drF F i j w := ⟨_, rfl⟩
  rw [← eF_1] at S
  refine lv_goto (tgt := 176) hx hb dL_does_91 (by decide) ?_
  exact r_iret X S hr dL_does_176 (Nat.le_of_ble_eq_true rfl) (Nat.le_of_ble_eq_true rfl) rfl (by rw [eF_1])

set_option maxHeartbeats 1000000 in
set_option maxRecDepth 100000 in
theorem x1_does_drop (l : Launch) (D : va_G) (cA : Nat → ClassId) (ad : Nat → Nat) (sz : Nat) (F : FF) (hst : l.stackTraces = false) (x y : Int32) (h : wi x 0 3 = false) (c4 : Int32) : CI l D cA ad sz yL_does wsL_does 9 161 1 6 [.ref (ad 0), .int 6, .int x, .int y, .int c4] F (some (.int (-1000000001))) F := by
  refine CIW_of (own := RL) (cc := cL_does) (maxL := 6) (ret := (some .int)) (hh := [(0, 176, 177, 51), (0, 176, 182, 54), (0, 176, 187, 56)]) (by decide +kernel) rfl rfl (Nat.le_of_ble_eq_true rfl) ?_
  intro p e s m below meth c ls X S hr htab hl
  obtain ⟨⟨hx, hb, hml, hown, hts⟩, hE, hI, hlocks⟩ := id X
  have hl : lv_has ls 6 [(0, .ref (ad 0)), (1, .int 6), (2, .int x), (3, .int y), (4, .int c4)] := hl
  refine lv_iload_n hx hb dL_does_0 rfl (lv_at hl 1 rfl) ?_
  refine lv_if_ne (tgt := 24) hx hb dL_does_1 (by decide) (fun _ => ?_) (fun z => False.elim (by first | exact absurd z (by decide) | exact absurd (by decide) z))
  refine lv_iload_n hx hb dL_does_24 rfl (lv_at hl 1 rfl) ?_
  refine lv_iconst (v := 1) hx hb dL_does_25 (by decide) ?_
  refine lv_icmp_eq (tgt := 39) hx hb dL_does_26 (by decide) (fun z => False.elim (by first | exact absurd z (by decide) | exact absurd (by decide) z)) (fun _ => ?_)
  refine lv_iload_n hx hb dL_does_29 rfl (lv_at hl 1 rfl) ?_
  refine lv_iconst (v := 3) hx hb dL_does_30 (by decide) ?_
  refine lv_icmp_eq (tgt := 39) hx hb dL_does_31 (by decide) (fun z => False.elim (by first | exact absurd z (by decide) | exact absurd (by decide) z)) (fun _ => ?_)
  refine lv_iload_n hx hb dL_does_34 rfl (lv_at hl 1 rfl) ?_
  refine lv_iconst (v := 4) hx hb dL_does_35 (by decide) ?_
  refine lv_icmp_ne (tgt := 51) hx hb dL_does_36 (by decide) (fun _ => ?_) (fun z => False.elim (by first | exact absurd z (by decide) | exact absurd (by decide) z))
  refine lv_iload_n hx hb dL_does_51 rfl (lv_at hl 1 rfl) ?_
  refine lv_iconst (v := 2) hx hb dL_does_52 (by decide) ?_
  refine lv_icmp_ne (tgt := 65) hx hb dL_does_53 (by decide) (fun _ => ?_) (fun z => False.elim (by first | exact absurd z (by decide) | exact absurd (by decide) z))
  refine lv_iload_n hx hb dL_does_65 rfl (lv_at hl 1 rfl) ?_
  refine lv_iconst (v := 5) hx hb dL_does_66 (by decide) ?_
  refine lv_icmp_ne (tgt := 79) hx hb dL_does_67 (by decide) (fun _ => ?_) (fun z => False.elim (by first | exact absurd z (by decide) | exact absurd (by decide) z))
  refine lv_iload_n hx hb dL_does_79 rfl (lv_at hl 1 rfl) ?_
  refine lv_bipush (v := 6) hx hb dL_does_80 (by decide) ?_
  refine lv_icmp_ne (tgt := 94) hx hb dL_does_82 (by decide) (fun z => False.elim (by first | exact absurd z (by decide) | exact absurd (by decide) z)) (fun _ => ?_)
  refine lv_aload_n hx hb dL_does_85 rfl (lv_at hl 0 rfl) ?_
  refine lv_iload_n hx hb dL_does_86 rfl (lv_at hl 2 rfl) ?_
  refine lv_iload_n hx hb dL_does_87 rfl (lv_at hl 3 rfl) ?_
  refine r_VX X S (x1_X4_drop l hst D cA ad _ F x y h) ob_0 rfl (cwV 2 hts gL_does_X4_drop rfl rfl rfl (by decide +kernel) ⟨Nat.le_of_ble_eq_true rfl, Nat.le_of_ble_eq_true rfl⟩) rfl hl.1 rfl (Nat.le_of_ble_eq_true rfl) dL_does_88 ⟨Nat.le_of_ble_eq_true rfl, Nat.le_of_ble_eq_true rfl⟩ (fun ce q9 H locs S h1 h2 h3 => ?_)
  refine vx_catch (own := RL) (name := "java/lang/IndexOutOfBoundsException") hown [] ⟨0, 176, 177, 51⟩ [⟨0, 176, 182, 54⟩, ⟨0, 176, 187, 56⟩] (htab.trans rfl) (fun z hz => nomatch hz) rfl (by decide) (hts (.classLink RL 51 "java/lang/IndexOutOfBoundsException") (by decide +kernel)) (va_Nw.use rfl (hE.2.2.2.2.2.1 "java/lang/IndexOutOfBoundsException" (by simp [xcl]))) h1 h2 h3 ?_
  refine lv_astore (lv' := [(5, .ref q9), (0, .ref (ad 0)), (1, .int 6), (2, .int x), (3, .int y), (4, .int c4)]) hx hb dL_does_177 hl (by decide) rfl (fun ls hl => ?_)
  refine lv_ldc (v := -1000000001) hx hb hown (hts (.constant RL 53 (-1000000001)) (by decide +kernel)) dL_does_179 ?_
  exact r_iret X S hr dL_does_181 (Nat.le_of_ble_eq_true rfl) (Nat.le_of_ble_eq_true rfl) rfl rfl

set_option maxHeartbeats 1000000 in
set_option maxRecDepth 100000 in
theorem x4_does_drop (l : Launch) (D : va_G) (cA : Nat → ClassId) (ad : Nat → Nat) (sz : Nat) (F : FF) (hst : l.stackTraces = false) (i : Nat) (hi : i < 4) (y : Int32) (h : hasI y (F (4 + 8 * i + 1) 1) = false) (c4 : Int32) : CI l D cA ad sz yL_does wsL_does 9 161 1 6 [.ref (ad 0), .int 6, .int (nI i), .int y, .int c4] F (some (.int (-1000000001))) F := by
  refine CIW_of (own := RL) (cc := cL_does) (maxL := 6) (ret := (some .int)) (hh := [(0, 176, 177, 51), (0, 176, 182, 54), (0, 176, 187, 56)]) (by decide +kernel) rfl rfl (Nat.le_of_ble_eq_true rfl) ?_
  intro p e s m below meth c ls X S hr htab hl
  obtain ⟨⟨hx, hb, hml, hown, hts⟩, hE, hI, hlocks⟩ := id X
  have hl : lv_has ls 6 [(0, .ref (ad 0)), (1, .int 6), (2, .int (nI i)), (3, .int y), (4, .int c4)] := hl
  refine lv_iload_n hx hb dL_does_0 rfl (lv_at hl 1 rfl) ?_
  refine lv_if_ne (tgt := 24) hx hb dL_does_1 (by decide) (fun _ => ?_) (fun z => False.elim (by first | exact absurd z (by decide) | exact absurd (by decide) z))
  refine lv_iload_n hx hb dL_does_24 rfl (lv_at hl 1 rfl) ?_
  refine lv_iconst (v := 1) hx hb dL_does_25 (by decide) ?_
  refine lv_icmp_eq (tgt := 39) hx hb dL_does_26 (by decide) (fun z => False.elim (by first | exact absurd z (by decide) | exact absurd (by decide) z)) (fun _ => ?_)
  refine lv_iload_n hx hb dL_does_29 rfl (lv_at hl 1 rfl) ?_
  refine lv_iconst (v := 3) hx hb dL_does_30 (by decide) ?_
  refine lv_icmp_eq (tgt := 39) hx hb dL_does_31 (by decide) (fun z => False.elim (by first | exact absurd z (by decide) | exact absurd (by decide) z)) (fun _ => ?_)
  refine lv_iload_n hx hb dL_does_34 rfl (lv_at hl 1 rfl) ?_
  refine lv_iconst (v := 4) hx hb dL_does_35 (by decide) ?_
  refine lv_icmp_ne (tgt := 51) hx hb dL_does_36 (by decide) (fun _ => ?_) (fun z => False.elim (by first | exact absurd z (by decide) | exact absurd (by decide) z))
  refine lv_iload_n hx hb dL_does_51 rfl (lv_at hl 1 rfl) ?_
  refine lv_iconst (v := 2) hx hb dL_does_52 (by decide) ?_
  refine lv_icmp_ne (tgt := 65) hx hb dL_does_53 (by decide) (fun _ => ?_) (fun z => False.elim (by first | exact absurd z (by decide) | exact absurd (by decide) z))
  refine lv_iload_n hx hb dL_does_65 rfl (lv_at hl 1 rfl) ?_
  refine lv_iconst (v := 5) hx hb dL_does_66 (by decide) ?_
  refine lv_icmp_ne (tgt := 79) hx hb dL_does_67 (by decide) (fun _ => ?_) (fun z => False.elim (by first | exact absurd z (by decide) | exact absurd (by decide) z))
  refine lv_iload_n hx hb dL_does_79 rfl (lv_at hl 1 rfl) ?_
  refine lv_bipush (v := 6) hx hb dL_does_80 (by decide) ?_
  refine lv_icmp_ne (tgt := 94) hx hb dL_does_82 (by decide) (fun z => False.elim (by first | exact absurd z (by decide) | exact absurd (by decide) z)) (fun _ => ?_)
  refine lv_aload_n hx hb dL_does_85 rfl (lv_at hl 0 rfl) ?_
  refine lv_iload_n hx hb dL_does_86 rfl (lv_at hl 2 rfl) ?_
  refine lv_iload_n hx hb dL_does_87 rfl (lv_at hl 3 rfl) ?_
  refine r_VX X S (x4_X4_drop l hst D cA ad _ F i hi y h) ob_0 rfl (cwV 2 hts gL_does_X4_drop rfl rfl rfl (by decide +kernel) ⟨Nat.le_of_ble_eq_true rfl, Nat.le_of_ble_eq_true rfl⟩) rfl hl.1 rfl (Nat.le_of_ble_eq_true rfl) dL_does_88 ⟨Nat.le_of_ble_eq_true rfl, Nat.le_of_ble_eq_true rfl⟩ (fun ce q9 H locs S h1 h2 h3 => ?_)
  refine vx_catch (own := RL) (name := "java/lang/IndexOutOfBoundsException") hown [] ⟨0, 176, 177, 51⟩ [⟨0, 176, 182, 54⟩, ⟨0, 176, 187, 56⟩] (htab.trans rfl) (fun z hz => nomatch hz) rfl (by decide) (hts (.classLink RL 51 "java/lang/IndexOutOfBoundsException") (by decide +kernel)) (va_Nw.use rfl (hE.2.2.2.2.2.1 "java/lang/IndexOutOfBoundsException" (by simp [xcl]))) h1 h2 h3 ?_
  refine lv_astore (lv' := [(5, .ref q9), (0, .ref (ad 0)), (1, .int 6), (2, .int (nI i)), (3, .int y), (4, .int c4)]) hx hb dL_does_177 hl (by decide) rfl (fun ls hl => ?_)
  refine lv_ldc (v := -1000000001) hx hb hown (hts (.constant RL 53 (-1000000001)) (by decide +kernel)) dL_does_179 ?_
  exact r_iret X S hr dL_does_181 (Nat.le_of_ble_eq_true rfl) (Nat.le_of_ble_eq_true rfl) rfl rfl

set_option maxHeartbeats 1000000 in
set_option maxRecDepth 100000 in
theorem x2_does_drop (l : Launch) (D : va_G) (cA : Nat → ClassId) (ad : Nat → Nat) (sz : Nat) (F : FF) (hst : l.stackTraces = false) (i : Nat) (hi : i < 4) (j : Nat) (hj : j < 8) (h1 : hasI (nI j) (F (4 + 8 * i + 1) 1) = true) (h2 : F (4 + 8 * i + 2) j = 0) (c4 : Int32) : CI l D cA ad sz yL_does wsL_does 9 161 1 6 [.ref (ad 0), .int 6, .int (nI i), .int (nI j), .int c4] F (some (.int (-1000000001))) F := by
  refine CIW_of (own := RL) (cc := cL_does) (maxL := 6) (ret := (some .int)) (hh := [(0, 176, 177, 51), (0, 176, 182, 54), (0, 176, 187, 56)]) (by decide +kernel) rfl rfl (Nat.le_of_ble_eq_true rfl) ?_
  intro p e s m below meth c ls X S hr htab hl
  obtain ⟨⟨hx, hb, hml, hown, hts⟩, hE, hI, hlocks⟩ := id X
  have hl : lv_has ls 6 [(0, .ref (ad 0)), (1, .int 6), (2, .int (nI i)), (3, .int (nI j)), (4, .int c4)] := hl
  refine lv_iload_n hx hb dL_does_0 rfl (lv_at hl 1 rfl) ?_
  refine lv_if_ne (tgt := 24) hx hb dL_does_1 (by decide) (fun _ => ?_) (fun z => False.elim (by first | exact absurd z (by decide) | exact absurd (by decide) z))
  refine lv_iload_n hx hb dL_does_24 rfl (lv_at hl 1 rfl) ?_
  refine lv_iconst (v := 1) hx hb dL_does_25 (by decide) ?_
  refine lv_icmp_eq (tgt := 39) hx hb dL_does_26 (by decide) (fun z => False.elim (by first | exact absurd z (by decide) | exact absurd (by decide) z)) (fun _ => ?_)
  refine lv_iload_n hx hb dL_does_29 rfl (lv_at hl 1 rfl) ?_
  refine lv_iconst (v := 3) hx hb dL_does_30 (by decide) ?_
  refine lv_icmp_eq (tgt := 39) hx hb dL_does_31 (by decide) (fun z => False.elim (by first | exact absurd z (by decide) | exact absurd (by decide) z)) (fun _ => ?_)
  refine lv_iload_n hx hb dL_does_34 rfl (lv_at hl 1 rfl) ?_
  refine lv_iconst (v := 4) hx hb dL_does_35 (by decide) ?_
  refine lv_icmp_ne (tgt := 51) hx hb dL_does_36 (by decide) (fun _ => ?_) (fun z => False.elim (by first | exact absurd z (by decide) | exact absurd (by decide) z))
  refine lv_iload_n hx hb dL_does_51 rfl (lv_at hl 1 rfl) ?_
  refine lv_iconst (v := 2) hx hb dL_does_52 (by decide) ?_
  refine lv_icmp_ne (tgt := 65) hx hb dL_does_53 (by decide) (fun _ => ?_) (fun z => False.elim (by first | exact absurd z (by decide) | exact absurd (by decide) z))
  refine lv_iload_n hx hb dL_does_65 rfl (lv_at hl 1 rfl) ?_
  refine lv_iconst (v := 5) hx hb dL_does_66 (by decide) ?_
  refine lv_icmp_ne (tgt := 79) hx hb dL_does_67 (by decide) (fun _ => ?_) (fun z => False.elim (by first | exact absurd z (by decide) | exact absurd (by decide) z))
  refine lv_iload_n hx hb dL_does_79 rfl (lv_at hl 1 rfl) ?_
  refine lv_bipush (v := 6) hx hb dL_does_80 (by decide) ?_
  refine lv_icmp_ne (tgt := 94) hx hb dL_does_82 (by decide) (fun z => False.elim (by first | exact absurd z (by decide) | exact absurd (by decide) z)) (fun _ => ?_)
  refine lv_aload_n hx hb dL_does_85 rfl (lv_at hl 0 rfl) ?_
  refine lv_iload_n hx hb dL_does_86 rfl (lv_at hl 2 rfl) ?_
  refine lv_iload_n hx hb dL_does_87 rfl (lv_at hl 3 rfl) ?_
  refine r_VX X S (x2_X4_drop l hst D cA ad _ F i hi j hj h1 h2) ob_0 rfl (cwV 2 hts gL_does_X4_drop rfl rfl rfl (by decide +kernel) ⟨Nat.le_of_ble_eq_true rfl, Nat.le_of_ble_eq_true rfl⟩) rfl hl.1 rfl (Nat.le_of_ble_eq_true rfl) dL_does_88 ⟨Nat.le_of_ble_eq_true rfl, Nat.le_of_ble_eq_true rfl⟩ (fun ce q9 H locs S h1 h2 h3 => ?_)
  refine vx_catch (own := RL) (name := "java/lang/IllegalStateException") hown [⟨0, 176, 177, 51⟩, ⟨0, 176, 182, 54⟩] ⟨0, 176, 187, 56⟩ [] (htab.trans rfl) (fun z hz => by
      simp only [List.mem_cons, List.not_mem_nil, or_false] at hz
      rcases hz with rfl | rfl
      · exact Or.inr ⟨by decide, "java/lang/IndexOutOfBoundsException", hts (.classLink RL 51 "java/lang/IndexOutOfBoundsException") (by decide +kernel), hE.2.2.2.2.2.2 "java/lang/IllegalStateException" (by simp [xcl]) "java/lang/IndexOutOfBoundsException" (by simp [xcl]) (by decide)⟩
      · exact Or.inr ⟨by decide, "java/lang/IllegalArgumentException", hts (.classLink RL 54 "java/lang/IllegalArgumentException") (by decide +kernel), hE.2.2.2.2.2.2 "java/lang/IllegalStateException" (by simp [xcl]) "java/lang/IllegalArgumentException" (by simp [xcl]) (by decide)⟩) rfl (by decide) (hts (.classLink RL 56 "java/lang/IllegalStateException") (by decide +kernel)) (va_Nw.use rfl (hE.2.2.2.2.2.1 "java/lang/IllegalStateException" (by simp [xcl]))) h1 h2 h3 ?_
  refine lv_astore (lv' := [(5, .ref q9), (0, .ref (ad 0)), (1, .int 6), (2, .int (nI i)), (3, .int (nI j)), (4, .int c4)]) hx hb dL_does_187 hl (by decide) rfl (fun ls hl => ?_)
  refine lv_ldc (v := -1000000001) hx hb hown (hts (.constant RL 53 (-1000000001)) (by decide +kernel)) dL_does_189 ?_
  exact r_iret X S hr dL_does_191 (Nat.le_of_ble_eq_true rfl) (Nat.le_of_ble_eq_true rfl) rfl rfl

set_option maxHeartbeats 1000000 in
set_option maxRecDepth 100000 in
theorem w_does_charge1 (l : Launch) (D : va_G) (cA : Nat → ClassId) (ad : Nat → Nat) (sz : Nat) (F : FF) (i : Nat) (hi : i < 4) (am : Int32) (h1 : wi am 1 1000000 = true) : CI l D cA ad sz yL_does wsL_does 9 161 1 6 [.ref (ad 0), .int 7, .int (nI i), .int 1, .int am] F (some (.int (F (4 + 8 * i) 6 + am))) (u2 F (4 + 8 * i) 6 (F (4 + 8 * i) 6 + am)) := by
  refine CIW_of (own := RL) (cc := cL_does) (maxL := 6) (ret := (some .int)) (hh := [(0, 176, 177, 51), (0, 176, 182, 54), (0, 176, 187, 56)]) (by decide +kernel) rfl rfl (Nat.le_of_ble_eq_true rfl) ?_
  intro p e s m below meth c ls X S hr htab hl
  obtain ⟨⟨hx, hb, hml, hown, hts⟩, hE, hI, hlocks⟩ := id X
  have hl : lv_has ls 6 [(0, .ref (ad 0)), (1, .int 7), (2, .int (nI i)), (3, .int 1), (4, .int am)] := hl
  refine lv_iload_n hx hb dL_does_0 rfl (lv_at hl 1 rfl) ?_
  refine lv_if_ne (tgt := 24) hx hb dL_does_1 (by decide) (fun _ => ?_) (fun z => False.elim (by first | exact absurd z (by decide) | exact absurd (by decide) z))
  refine lv_iload_n hx hb dL_does_24 rfl (lv_at hl 1 rfl) ?_
  refine lv_iconst (v := 1) hx hb dL_does_25 (by decide) ?_
  refine lv_icmp_eq (tgt := 39) hx hb dL_does_26 (by decide) (fun z => False.elim (by first | exact absurd z (by decide) | exact absurd (by decide) z)) (fun _ => ?_)
  refine lv_iload_n hx hb dL_does_29 rfl (lv_at hl 1 rfl) ?_
  refine lv_iconst (v := 3) hx hb dL_does_30 (by decide) ?_
  refine lv_icmp_eq (tgt := 39) hx hb dL_does_31 (by decide) (fun z => False.elim (by first | exact absurd z (by decide) | exact absurd (by decide) z)) (fun _ => ?_)
  refine lv_iload_n hx hb dL_does_34 rfl (lv_at hl 1 rfl) ?_
  refine lv_iconst (v := 4) hx hb dL_does_35 (by decide) ?_
  refine lv_icmp_ne (tgt := 51) hx hb dL_does_36 (by decide) (fun _ => ?_) (fun z => False.elim (by first | exact absurd z (by decide) | exact absurd (by decide) z))
  refine lv_iload_n hx hb dL_does_51 rfl (lv_at hl 1 rfl) ?_
  refine lv_iconst (v := 2) hx hb dL_does_52 (by decide) ?_
  refine lv_icmp_ne (tgt := 65) hx hb dL_does_53 (by decide) (fun _ => ?_) (fun z => False.elim (by first | exact absurd z (by decide) | exact absurd (by decide) z))
  refine lv_iload_n hx hb dL_does_65 rfl (lv_at hl 1 rfl) ?_
  refine lv_iconst (v := 5) hx hb dL_does_66 (by decide) ?_
  refine lv_icmp_ne (tgt := 79) hx hb dL_does_67 (by decide) (fun _ => ?_) (fun z => False.elim (by first | exact absurd z (by decide) | exact absurd (by decide) z))
  refine lv_iload_n hx hb dL_does_79 rfl (lv_at hl 1 rfl) ?_
  refine lv_bipush (v := 6) hx hb dL_does_80 (by decide) ?_
  refine lv_icmp_ne (tgt := 94) hx hb dL_does_82 (by decide) (fun _ => ?_) (fun z => False.elim (by first | exact absurd z (by decide) | exact absurd (by decide) z))
  refine lv_iload_n hx hb dL_does_94 rfl (lv_at hl 1 rfl) ?_
  refine lv_bipush (v := 7) hx hb dL_does_95 (by decide) ?_
  refine lv_icmp_ne (tgt := 111) hx hb dL_does_97 (by decide) (fun z => False.elim (by first | exact absurd z (by decide) | exact absurd (by decide) z)) (fun _ => ?_)
  refine lv_aload_n hx hb dL_does_100 rfl (lv_at hl 0 rfl) ?_
  refine lv_iload_n hx hb dL_does_101 rfl (lv_at hl 2 rfl) ?_
  refine lv_iload_n hx hb dL_does_102 rfl (lv_at hl 3 rfl) ?_
  refine lv_iload hx hb dL_does_103 (lv_at hl 4 rfl) ?_
  refine r_V0 X S (c_X4_charge1 l D cA ad _ F i hi am h1) ob_0 rfl (cwV 3 hts gL_does_X4_charge rfl rfl rfl (by decide +kernel) ⟨Nat.le_of_ble_eq_true rfl, Nat.le_of_ble_eq_true rfl⟩) rfl hl.1 rfl (Nat.le_of_ble_eq_true rfl) dL_does_105 ⟨Nat.zero_le _, Nat.zero_le _⟩ (fun H locs S => ?_)
  obtain ⟨F_1, eF_1⟩ : ∃ z, z = u2 F (4 + 8 * i) 6 (F (4 + 8 * i) 6 + am) := ⟨_, rfl⟩
  rw [← eF_1] at S
  refine lv_goto (tgt := 176) hx hb dL_does_108 (by decide) ?_
  exact r_iret X S hr dL_does_176 (Nat.le_of_ble_eq_true rfl) (Nat.le_of_ble_eq_true rfl) rfl (by rw [eF_1])

set_option maxHeartbeats 1000000 in
set_option maxRecDepth 100000 in
theorem w_does_charge2 (l : Launch) (D : va_G) (cA : Nat → ClassId) (ad : Nat → Nat) (sz : Nat) (F : FF) (i : Nat) (hi : i < 4) (am : Int32) (h1 : wi am 1 1000000 = true) : CI l D cA ad sz yL_does wsL_does 9 161 1 6 [.ref (ad 0), .int 7, .int (nI i), .int 2, .int am] F (some (.int (F (4 + 8 * i) 7 + am))) (u2 F (4 + 8 * i) 7 (F (4 + 8 * i) 7 + am)) := by
  refine CIW_of (own := RL) (cc := cL_does) (maxL := 6) (ret := (some .int)) (hh := [(0, 176, 177, 51), (0, 176, 182, 54), (0, 176, 187, 56)]) (by decide +kernel) rfl rfl (Nat.le_of_ble_eq_true rfl) ?_
  intro p e s m below meth c ls X S hr htab hl
  obtain ⟨⟨hx, hb, hml, hown, hts⟩, hE, hI, hlocks⟩ := id X
  have hl : lv_has ls 6 [(0, .ref (ad 0)), (1, .int 7), (2, .int (nI i)), (3, .int 2), (4, .int am)] := hl
  refine lv_iload_n hx hb dL_does_0 rfl (lv_at hl 1 rfl) ?_
  refine lv_if_ne (tgt := 24) hx hb dL_does_1 (by decide) (fun _ => ?_) (fun z => False.elim (by first | exact absurd z (by decide) | exact absurd (by decide) z))
  refine lv_iload_n hx hb dL_does_24 rfl (lv_at hl 1 rfl) ?_
  refine lv_iconst (v := 1) hx hb dL_does_25 (by decide) ?_
  refine lv_icmp_eq (tgt := 39) hx hb dL_does_26 (by decide) (fun z => False.elim (by first | exact absurd z (by decide) | exact absurd (by decide) z)) (fun _ => ?_)
  refine lv_iload_n hx hb dL_does_29 rfl (lv_at hl 1 rfl) ?_
  refine lv_iconst (v := 3) hx hb dL_does_30 (by decide) ?_
  refine lv_icmp_eq (tgt := 39) hx hb dL_does_31 (by decide) (fun z => False.elim (by first | exact absurd z (by decide) | exact absurd (by decide) z)) (fun _ => ?_)
  refine lv_iload_n hx hb dL_does_34 rfl (lv_at hl 1 rfl) ?_
  refine lv_iconst (v := 4) hx hb dL_does_35 (by decide) ?_
  refine lv_icmp_ne (tgt := 51) hx hb dL_does_36 (by decide) (fun _ => ?_) (fun z => False.elim (by first | exact absurd z (by decide) | exact absurd (by decide) z))
  refine lv_iload_n hx hb dL_does_51 rfl (lv_at hl 1 rfl) ?_
  refine lv_iconst (v := 2) hx hb dL_does_52 (by decide) ?_
  refine lv_icmp_ne (tgt := 65) hx hb dL_does_53 (by decide) (fun _ => ?_) (fun z => False.elim (by first | exact absurd z (by decide) | exact absurd (by decide) z))
  refine lv_iload_n hx hb dL_does_65 rfl (lv_at hl 1 rfl) ?_
  refine lv_iconst (v := 5) hx hb dL_does_66 (by decide) ?_
  refine lv_icmp_ne (tgt := 79) hx hb dL_does_67 (by decide) (fun _ => ?_) (fun z => False.elim (by first | exact absurd z (by decide) | exact absurd (by decide) z))
  refine lv_iload_n hx hb dL_does_79 rfl (lv_at hl 1 rfl) ?_
  refine lv_bipush (v := 6) hx hb dL_does_80 (by decide) ?_
  refine lv_icmp_ne (tgt := 94) hx hb dL_does_82 (by decide) (fun _ => ?_) (fun z => False.elim (by first | exact absurd z (by decide) | exact absurd (by decide) z))
  refine lv_iload_n hx hb dL_does_94 rfl (lv_at hl 1 rfl) ?_
  refine lv_bipush (v := 7) hx hb dL_does_95 (by decide) ?_
  refine lv_icmp_ne (tgt := 111) hx hb dL_does_97 (by decide) (fun z => False.elim (by first | exact absurd z (by decide) | exact absurd (by decide) z)) (fun _ => ?_)
  refine lv_aload_n hx hb dL_does_100 rfl (lv_at hl 0 rfl) ?_
  refine lv_iload_n hx hb dL_does_101 rfl (lv_at hl 2 rfl) ?_
  refine lv_iload_n hx hb dL_does_102 rfl (lv_at hl 3 rfl) ?_
  refine lv_iload hx hb dL_does_103 (lv_at hl 4 rfl) ?_
  refine r_V0 X S (c_X4_charge2 l D cA ad _ F i hi am h1) ob_0 rfl (cwV 3 hts gL_does_X4_charge rfl rfl rfl (by decide +kernel) ⟨Nat.le_of_ble_eq_true rfl, Nat.le_of_ble_eq_true rfl⟩) rfl hl.1 rfl (Nat.le_of_ble_eq_true rfl) dL_does_105 ⟨Nat.zero_le _, Nat.zero_le _⟩ (fun H locs S => ?_)
  obtain ⟨F_1, eF_1⟩ : ∃ z, z = u2 F (4 + 8 * i) 7 (F (4 + 8 * i) 7 + am) := ⟨_, rfl⟩
  rw [← eF_1] at S
  refine lv_goto (tgt := 176) hx hb dL_does_108 (by decide) ?_
  exact r_iret X S hr dL_does_176 (Nat.le_of_ble_eq_true rfl) (Nat.le_of_ble_eq_true rfl) rfl (by rw [eF_1])

set_option maxHeartbeats 1000000 in
set_option maxRecDepth 100000 in
theorem x1_does_charge (l : Launch) (D : va_G) (cA : Nat → ClassId) (ad : Nat → Nat) (sz : Nat) (F : FF) (hst : l.stackTraces = false) (x kd am : Int32) (h : wi x 0 3 = false) : CI l D cA ad sz yL_does wsL_does 9 161 1 6 [.ref (ad 0), .int 7, .int x, .int kd, .int am] F (some (.int (-1000000001))) F := by
  refine CIW_of (own := RL) (cc := cL_does) (maxL := 6) (ret := (some .int)) (hh := [(0, 176, 177, 51), (0, 176, 182, 54), (0, 176, 187, 56)]) (by decide +kernel) rfl rfl (Nat.le_of_ble_eq_true rfl) ?_
  intro p e s m below meth c ls X S hr htab hl
  obtain ⟨⟨hx, hb, hml, hown, hts⟩, hE, hI, hlocks⟩ := id X
  have hl : lv_has ls 6 [(0, .ref (ad 0)), (1, .int 7), (2, .int x), (3, .int kd), (4, .int am)] := hl
  refine lv_iload_n hx hb dL_does_0 rfl (lv_at hl 1 rfl) ?_
  refine lv_if_ne (tgt := 24) hx hb dL_does_1 (by decide) (fun _ => ?_) (fun z => False.elim (by first | exact absurd z (by decide) | exact absurd (by decide) z))
  refine lv_iload_n hx hb dL_does_24 rfl (lv_at hl 1 rfl) ?_
  refine lv_iconst (v := 1) hx hb dL_does_25 (by decide) ?_
  refine lv_icmp_eq (tgt := 39) hx hb dL_does_26 (by decide) (fun z => False.elim (by first | exact absurd z (by decide) | exact absurd (by decide) z)) (fun _ => ?_)
  refine lv_iload_n hx hb dL_does_29 rfl (lv_at hl 1 rfl) ?_
  refine lv_iconst (v := 3) hx hb dL_does_30 (by decide) ?_
  refine lv_icmp_eq (tgt := 39) hx hb dL_does_31 (by decide) (fun z => False.elim (by first | exact absurd z (by decide) | exact absurd (by decide) z)) (fun _ => ?_)
  refine lv_iload_n hx hb dL_does_34 rfl (lv_at hl 1 rfl) ?_
  refine lv_iconst (v := 4) hx hb dL_does_35 (by decide) ?_
  refine lv_icmp_ne (tgt := 51) hx hb dL_does_36 (by decide) (fun _ => ?_) (fun z => False.elim (by first | exact absurd z (by decide) | exact absurd (by decide) z))
  refine lv_iload_n hx hb dL_does_51 rfl (lv_at hl 1 rfl) ?_
  refine lv_iconst (v := 2) hx hb dL_does_52 (by decide) ?_
  refine lv_icmp_ne (tgt := 65) hx hb dL_does_53 (by decide) (fun _ => ?_) (fun z => False.elim (by first | exact absurd z (by decide) | exact absurd (by decide) z))
  refine lv_iload_n hx hb dL_does_65 rfl (lv_at hl 1 rfl) ?_
  refine lv_iconst (v := 5) hx hb dL_does_66 (by decide) ?_
  refine lv_icmp_ne (tgt := 79) hx hb dL_does_67 (by decide) (fun _ => ?_) (fun z => False.elim (by first | exact absurd z (by decide) | exact absurd (by decide) z))
  refine lv_iload_n hx hb dL_does_79 rfl (lv_at hl 1 rfl) ?_
  refine lv_bipush (v := 6) hx hb dL_does_80 (by decide) ?_
  refine lv_icmp_ne (tgt := 94) hx hb dL_does_82 (by decide) (fun _ => ?_) (fun z => False.elim (by first | exact absurd z (by decide) | exact absurd (by decide) z))
  refine lv_iload_n hx hb dL_does_94 rfl (lv_at hl 1 rfl) ?_
  refine lv_bipush (v := 7) hx hb dL_does_95 (by decide) ?_
  refine lv_icmp_ne (tgt := 111) hx hb dL_does_97 (by decide) (fun z => False.elim (by first | exact absurd z (by decide) | exact absurd (by decide) z)) (fun _ => ?_)
  refine lv_aload_n hx hb dL_does_100 rfl (lv_at hl 0 rfl) ?_
  refine lv_iload_n hx hb dL_does_101 rfl (lv_at hl 2 rfl) ?_
  refine lv_iload_n hx hb dL_does_102 rfl (lv_at hl 3 rfl) ?_
  refine lv_iload hx hb dL_does_103 (lv_at hl 4 rfl) ?_
  refine r_VX X S (x1_X4_charge l hst D cA ad _ F x kd am h) ob_0 rfl (cwV 3 hts gL_does_X4_charge rfl rfl rfl (by decide +kernel) ⟨Nat.le_of_ble_eq_true rfl, Nat.le_of_ble_eq_true rfl⟩) rfl hl.1 rfl (Nat.le_of_ble_eq_true rfl) dL_does_105 ⟨Nat.le_of_ble_eq_true rfl, Nat.le_of_ble_eq_true rfl⟩ (fun ce q9 H locs S h1 h2 h3 => ?_)
  refine vx_catch (own := RL) (name := "java/lang/IndexOutOfBoundsException") hown [] ⟨0, 176, 177, 51⟩ [⟨0, 176, 182, 54⟩, ⟨0, 176, 187, 56⟩] (htab.trans rfl) (fun z hz => nomatch hz) rfl (by decide) (hts (.classLink RL 51 "java/lang/IndexOutOfBoundsException") (by decide +kernel)) (va_Nw.use rfl (hE.2.2.2.2.2.1 "java/lang/IndexOutOfBoundsException" (by simp [xcl]))) h1 h2 h3 ?_
  refine lv_astore (lv' := [(5, .ref q9), (0, .ref (ad 0)), (1, .int 7), (2, .int x), (3, .int kd), (4, .int am)]) hx hb dL_does_177 hl (by decide) rfl (fun ls hl => ?_)
  refine lv_ldc (v := -1000000001) hx hb hown (hts (.constant RL 53 (-1000000001)) (by decide +kernel)) dL_does_179 ?_
  exact r_iret X S hr dL_does_181 (Nat.le_of_ble_eq_true rfl) (Nat.le_of_ble_eq_true rfl) rfl rfl

set_option maxHeartbeats 1000000 in
set_option maxRecDepth 100000 in
theorem x2_does_charge (l : Launch) (D : va_G) (cA : Nat → ClassId) (ad : Nat → Nat) (sz : Nat) (F : FF) (hst : l.stackTraces = false) (i : Nat) (hi : i < 4) (kd am : Int32) (h : ¬ ((kd = 1 ∨ kd = 2) ∧ wi am 1 1000000 = true)) : CI l D cA ad sz yL_does wsL_does 9 161 1 6 [.ref (ad 0), .int 7, .int (nI i), .int kd, .int am] F (some (.int (-1000000001))) F := by
  refine CIW_of (own := RL) (cc := cL_does) (maxL := 6) (ret := (some .int)) (hh := [(0, 176, 177, 51), (0, 176, 182, 54), (0, 176, 187, 56)]) (by decide +kernel) rfl rfl (Nat.le_of_ble_eq_true rfl) ?_
  intro p e s m below meth c ls X S hr htab hl
  obtain ⟨⟨hx, hb, hml, hown, hts⟩, hE, hI, hlocks⟩ := id X
  have hl : lv_has ls 6 [(0, .ref (ad 0)), (1, .int 7), (2, .int (nI i)), (3, .int kd), (4, .int am)] := hl
  refine lv_iload_n hx hb dL_does_0 rfl (lv_at hl 1 rfl) ?_
  refine lv_if_ne (tgt := 24) hx hb dL_does_1 (by decide) (fun _ => ?_) (fun z => False.elim (by first | exact absurd z (by decide) | exact absurd (by decide) z))
  refine lv_iload_n hx hb dL_does_24 rfl (lv_at hl 1 rfl) ?_
  refine lv_iconst (v := 1) hx hb dL_does_25 (by decide) ?_
  refine lv_icmp_eq (tgt := 39) hx hb dL_does_26 (by decide) (fun z => False.elim (by first | exact absurd z (by decide) | exact absurd (by decide) z)) (fun _ => ?_)
  refine lv_iload_n hx hb dL_does_29 rfl (lv_at hl 1 rfl) ?_
  refine lv_iconst (v := 3) hx hb dL_does_30 (by decide) ?_
  refine lv_icmp_eq (tgt := 39) hx hb dL_does_31 (by decide) (fun z => False.elim (by first | exact absurd z (by decide) | exact absurd (by decide) z)) (fun _ => ?_)
  refine lv_iload_n hx hb dL_does_34 rfl (lv_at hl 1 rfl) ?_
  refine lv_iconst (v := 4) hx hb dL_does_35 (by decide) ?_
  refine lv_icmp_ne (tgt := 51) hx hb dL_does_36 (by decide) (fun _ => ?_) (fun z => False.elim (by first | exact absurd z (by decide) | exact absurd (by decide) z))
  refine lv_iload_n hx hb dL_does_51 rfl (lv_at hl 1 rfl) ?_
  refine lv_iconst (v := 2) hx hb dL_does_52 (by decide) ?_
  refine lv_icmp_ne (tgt := 65) hx hb dL_does_53 (by decide) (fun _ => ?_) (fun z => False.elim (by first | exact absurd z (by decide) | exact absurd (by decide) z))
  refine lv_iload_n hx hb dL_does_65 rfl (lv_at hl 1 rfl) ?_
  refine lv_iconst (v := 5) hx hb dL_does_66 (by decide) ?_
  refine lv_icmp_ne (tgt := 79) hx hb dL_does_67 (by decide) (fun _ => ?_) (fun z => False.elim (by first | exact absurd z (by decide) | exact absurd (by decide) z))
  refine lv_iload_n hx hb dL_does_79 rfl (lv_at hl 1 rfl) ?_
  refine lv_bipush (v := 6) hx hb dL_does_80 (by decide) ?_
  refine lv_icmp_ne (tgt := 94) hx hb dL_does_82 (by decide) (fun _ => ?_) (fun z => False.elim (by first | exact absurd z (by decide) | exact absurd (by decide) z))
  refine lv_iload_n hx hb dL_does_94 rfl (lv_at hl 1 rfl) ?_
  refine lv_bipush (v := 7) hx hb dL_does_95 (by decide) ?_
  refine lv_icmp_ne (tgt := 111) hx hb dL_does_97 (by decide) (fun z => False.elim (by first | exact absurd z (by decide) | exact absurd (by decide) z)) (fun _ => ?_)
  refine lv_aload_n hx hb dL_does_100 rfl (lv_at hl 0 rfl) ?_
  refine lv_iload_n hx hb dL_does_101 rfl (lv_at hl 2 rfl) ?_
  refine lv_iload_n hx hb dL_does_102 rfl (lv_at hl 3 rfl) ?_
  refine lv_iload hx hb dL_does_103 (lv_at hl 4 rfl) ?_
  refine r_VX X S (x2_X4_charge l hst D cA ad _ F i hi kd am h) ob_0 rfl (cwV 3 hts gL_does_X4_charge rfl rfl rfl (by decide +kernel) ⟨Nat.le_of_ble_eq_true rfl, Nat.le_of_ble_eq_true rfl⟩) rfl hl.1 rfl (Nat.le_of_ble_eq_true rfl) dL_does_105 ⟨Nat.le_of_ble_eq_true rfl, Nat.le_of_ble_eq_true rfl⟩ (fun ce q9 H locs S h1 h2 h3 => ?_)
  refine vx_catch (own := RL) (name := "java/lang/IllegalArgumentException") hown [⟨0, 176, 177, 51⟩] ⟨0, 176, 182, 54⟩ [⟨0, 176, 187, 56⟩] (htab.trans rfl) (fun z hz => by rw [List.mem_singleton.mp hz]; exact Or.inr ⟨by decide, "java/lang/IndexOutOfBoundsException", hts (.classLink RL 51 "java/lang/IndexOutOfBoundsException") (by decide +kernel), hE.2.2.2.2.2.2 "java/lang/IllegalArgumentException" (by simp [xcl]) "java/lang/IndexOutOfBoundsException" (by simp [xcl]) (by decide)⟩) rfl (by decide) (hts (.classLink RL 54 "java/lang/IllegalArgumentException") (by decide +kernel)) (va_Nw.use rfl (hE.2.2.2.2.2.1 "java/lang/IllegalArgumentException" (by simp [xcl]))) h1 h2 h3 ?_
  refine lv_astore (lv' := [(5, .ref q9), (0, .ref (ad 0)), (1, .int 7), (2, .int (nI i)), (3, .int kd), (4, .int am)]) hx hb dL_does_182 hl (by decide) rfl (fun ls hl => ?_)
  refine lv_ldc (v := -1000000001) hx hb hown (hts (.constant RL 53 (-1000000001)) (by decide +kernel)) dL_does_184 ?_
  exact r_iret X S hr dL_does_186 (Nat.le_of_ble_eq_true rfl) (Nat.le_of_ble_eq_true rfl) rfl rfl

set_option maxHeartbeats 1000000 in
set_option maxRecDepth 100000 in
theorem w_does_award (l : Launch) (D : va_G) (cA : Nat → ClassId) (ad : Nat → Nat) (sz : Nat) (F : FF) (i : Nat) (hi : i < 4) (rk am : Int32) (h1 : wi rk 0 2 = true) (h2 : wi am 1 1000000 = true) (t : Nat) (ht : t < 6) (et : F (4 + 8 * i + 3) 3 = nI t) : CI l D cA ad sz yL_does wsL_does 9 161 1 6 [.ref (ad 0), .int 8, .int (nI i), .int rk, .int am] F (some (.int (nI t))) (u2 (u2 (u2 F (4 + 8 * i + 4) t rk) (4 + 8 * i + 5) t am) (4 + 8 * i + 3) 3 (nI (t + 1))) := by
  refine CIW_of (own := RL) (cc := cL_does) (maxL := 6) (ret := (some .int)) (hh := [(0, 176, 177, 51), (0, 176, 182, 54), (0, 176, 187, 56)]) (by decide +kernel) rfl rfl (Nat.le_of_ble_eq_true rfl) ?_
  intro p e s m below meth c ls X S hr htab hl
  obtain ⟨⟨hx, hb, hml, hown, hts⟩, hE, hI, hlocks⟩ := id X
  have hl : lv_has ls 6 [(0, .ref (ad 0)), (1, .int 8), (2, .int (nI i)), (3, .int rk), (4, .int am)] := hl
  refine lv_iload_n hx hb dL_does_0 rfl (lv_at hl 1 rfl) ?_
  refine lv_if_ne (tgt := 24) hx hb dL_does_1 (by decide) (fun _ => ?_) (fun z => False.elim (by first | exact absurd z (by decide) | exact absurd (by decide) z))
  refine lv_iload_n hx hb dL_does_24 rfl (lv_at hl 1 rfl) ?_
  refine lv_iconst (v := 1) hx hb dL_does_25 (by decide) ?_
  refine lv_icmp_eq (tgt := 39) hx hb dL_does_26 (by decide) (fun z => False.elim (by first | exact absurd z (by decide) | exact absurd (by decide) z)) (fun _ => ?_)
  refine lv_iload_n hx hb dL_does_29 rfl (lv_at hl 1 rfl) ?_
  refine lv_iconst (v := 3) hx hb dL_does_30 (by decide) ?_
  refine lv_icmp_eq (tgt := 39) hx hb dL_does_31 (by decide) (fun z => False.elim (by first | exact absurd z (by decide) | exact absurd (by decide) z)) (fun _ => ?_)
  refine lv_iload_n hx hb dL_does_34 rfl (lv_at hl 1 rfl) ?_
  refine lv_iconst (v := 4) hx hb dL_does_35 (by decide) ?_
  refine lv_icmp_ne (tgt := 51) hx hb dL_does_36 (by decide) (fun _ => ?_) (fun z => False.elim (by first | exact absurd z (by decide) | exact absurd (by decide) z))
  refine lv_iload_n hx hb dL_does_51 rfl (lv_at hl 1 rfl) ?_
  refine lv_iconst (v := 2) hx hb dL_does_52 (by decide) ?_
  refine lv_icmp_ne (tgt := 65) hx hb dL_does_53 (by decide) (fun _ => ?_) (fun z => False.elim (by first | exact absurd z (by decide) | exact absurd (by decide) z))
  refine lv_iload_n hx hb dL_does_65 rfl (lv_at hl 1 rfl) ?_
  refine lv_iconst (v := 5) hx hb dL_does_66 (by decide) ?_
  refine lv_icmp_ne (tgt := 79) hx hb dL_does_67 (by decide) (fun _ => ?_) (fun z => False.elim (by first | exact absurd z (by decide) | exact absurd (by decide) z))
  refine lv_iload_n hx hb dL_does_79 rfl (lv_at hl 1 rfl) ?_
  refine lv_bipush (v := 6) hx hb dL_does_80 (by decide) ?_
  refine lv_icmp_ne (tgt := 94) hx hb dL_does_82 (by decide) (fun _ => ?_) (fun z => False.elim (by first | exact absurd z (by decide) | exact absurd (by decide) z))
  refine lv_iload_n hx hb dL_does_94 rfl (lv_at hl 1 rfl) ?_
  refine lv_bipush (v := 7) hx hb dL_does_95 (by decide) ?_
  refine lv_icmp_ne (tgt := 111) hx hb dL_does_97 (by decide) (fun _ => ?_) (fun z => False.elim (by first | exact absurd z (by decide) | exact absurd (by decide) z))
  refine lv_iload_n hx hb dL_does_111 rfl (lv_at hl 1 rfl) ?_
  refine lv_bipush (v := 8) hx hb dL_does_112 (by decide) ?_
  refine lv_icmp_ne (tgt := 128) hx hb dL_does_114 (by decide) (fun z => False.elim (by first | exact absurd z (by decide) | exact absurd (by decide) z)) (fun _ => ?_)
  refine lv_aload_n hx hb dL_does_117 rfl (lv_at hl 0 rfl) ?_
  refine lv_iload_n hx hb dL_does_118 rfl (lv_at hl 2 rfl) ?_
  refine lv_iload_n hx hb dL_does_119 rfl (lv_at hl 3 rfl) ?_
  refine lv_iload hx hb dL_does_120 (lv_at hl 4 rfl) ?_
  refine r_V0 X S (c_X4_award l D cA ad _ F i hi rk am h1 h2 t ht et) ob_0 rfl (cwV 3 hts gL_does_X4_award rfl rfl rfl (by decide +kernel) ⟨Nat.le_of_ble_eq_true rfl, Nat.le_of_ble_eq_true rfl⟩) rfl hl.1 rfl (Nat.le_of_ble_eq_true rfl) dL_does_122 ⟨Nat.zero_le _, Nat.zero_le _⟩ (fun H locs S => ?_)
  obtain ⟨F_1, eF_1⟩ : ∃ z, z = u2 (u2 (u2 F (4 + 8 * i + 4) t rk) (4 + 8 * i + 5) t am) (4 + 8 * i + 3) 3 (nI (t + 1)) := ⟨_, rfl⟩
  rw [← eF_1] at S
  refine lv_goto (tgt := 176) hx hb dL_does_125 (by decide) ?_
  exact r_iret X S hr dL_does_176 (Nat.le_of_ble_eq_true rfl) (Nat.le_of_ble_eq_true rfl) rfl (by rw [eF_1])

set_option maxHeartbeats 1000000 in
set_option maxRecDepth 100000 in
theorem x1_does_award (l : Launch) (D : va_G) (cA : Nat → ClassId) (ad : Nat → Nat) (sz : Nat) (F : FF) (hst : l.stackTraces = false) (x rk am : Int32) (h : wi x 0 3 = false) : CI l D cA ad sz yL_does wsL_does 9 161 1 6 [.ref (ad 0), .int 8, .int x, .int rk, .int am] F (some (.int (-1000000001))) F := by
  refine CIW_of (own := RL) (cc := cL_does) (maxL := 6) (ret := (some .int)) (hh := [(0, 176, 177, 51), (0, 176, 182, 54), (0, 176, 187, 56)]) (by decide +kernel) rfl rfl (Nat.le_of_ble_eq_true rfl) ?_
  intro p e s m below meth c ls X S hr htab hl
  obtain ⟨⟨hx, hb, hml, hown, hts⟩, hE, hI, hlocks⟩ := id X
  have hl : lv_has ls 6 [(0, .ref (ad 0)), (1, .int 8), (2, .int x), (3, .int rk), (4, .int am)] := hl
  refine lv_iload_n hx hb dL_does_0 rfl (lv_at hl 1 rfl) ?_
  refine lv_if_ne (tgt := 24) hx hb dL_does_1 (by decide) (fun _ => ?_) (fun z => False.elim (by first | exact absurd z (by decide) | exact absurd (by decide) z))
  refine lv_iload_n hx hb dL_does_24 rfl (lv_at hl 1 rfl) ?_
  refine lv_iconst (v := 1) hx hb dL_does_25 (by decide) ?_
  refine lv_icmp_eq (tgt := 39) hx hb dL_does_26 (by decide) (fun z => False.elim (by first | exact absurd z (by decide) | exact absurd (by decide) z)) (fun _ => ?_)
  refine lv_iload_n hx hb dL_does_29 rfl (lv_at hl 1 rfl) ?_
  refine lv_iconst (v := 3) hx hb dL_does_30 (by decide) ?_
  refine lv_icmp_eq (tgt := 39) hx hb dL_does_31 (by decide) (fun z => False.elim (by first | exact absurd z (by decide) | exact absurd (by decide) z)) (fun _ => ?_)
  refine lv_iload_n hx hb dL_does_34 rfl (lv_at hl 1 rfl) ?_
  refine lv_iconst (v := 4) hx hb dL_does_35 (by decide) ?_
  refine lv_icmp_ne (tgt := 51) hx hb dL_does_36 (by decide) (fun _ => ?_) (fun z => False.elim (by first | exact absurd z (by decide) | exact absurd (by decide) z))
  refine lv_iload_n hx hb dL_does_51 rfl (lv_at hl 1 rfl) ?_
  refine lv_iconst (v := 2) hx hb dL_does_52 (by decide) ?_
  refine lv_icmp_ne (tgt := 65) hx hb dL_does_53 (by decide) (fun _ => ?_) (fun z => False.elim (by first | exact absurd z (by decide) | exact absurd (by decide) z))
  refine lv_iload_n hx hb dL_does_65 rfl (lv_at hl 1 rfl) ?_
  refine lv_iconst (v := 5) hx hb dL_does_66 (by decide) ?_
  refine lv_icmp_ne (tgt := 79) hx hb dL_does_67 (by decide) (fun _ => ?_) (fun z => False.elim (by first | exact absurd z (by decide) | exact absurd (by decide) z))
  refine lv_iload_n hx hb dL_does_79 rfl (lv_at hl 1 rfl) ?_
  refine lv_bipush (v := 6) hx hb dL_does_80 (by decide) ?_
  refine lv_icmp_ne (tgt := 94) hx hb dL_does_82 (by decide) (fun _ => ?_) (fun z => False.elim (by first | exact absurd z (by decide) | exact absurd (by decide) z))
  refine lv_iload_n hx hb dL_does_94 rfl (lv_at hl 1 rfl) ?_
  refine lv_bipush (v := 7) hx hb dL_does_95 (by decide) ?_
  refine lv_icmp_ne (tgt := 111) hx hb dL_does_97 (by decide) (fun _ => ?_) (fun z => False.elim (by first | exact absurd z (by decide) | exact absurd (by decide) z))
  refine lv_iload_n hx hb dL_does_111 rfl (lv_at hl 1 rfl) ?_
  refine lv_bipush (v := 8) hx hb dL_does_112 (by decide) ?_
  refine lv_icmp_ne (tgt := 128) hx hb dL_does_114 (by decide) (fun z => False.elim (by first | exact absurd z (by decide) | exact absurd (by decide) z)) (fun _ => ?_)
  refine lv_aload_n hx hb dL_does_117 rfl (lv_at hl 0 rfl) ?_
  refine lv_iload_n hx hb dL_does_118 rfl (lv_at hl 2 rfl) ?_
  refine lv_iload_n hx hb dL_does_119 rfl (lv_at hl 3 rfl) ?_
  refine lv_iload hx hb dL_does_120 (lv_at hl 4 rfl) ?_
  refine r_VX X S (x1_X4_award l hst D cA ad _ F x rk am h) ob_0 rfl (cwV 3 hts gL_does_X4_award rfl rfl rfl (by decide +kernel) ⟨Nat.le_of_ble_eq_true rfl, Nat.le_of_ble_eq_true rfl⟩) rfl hl.1 rfl (Nat.le_of_ble_eq_true rfl) dL_does_122 ⟨Nat.le_of_ble_eq_true rfl, Nat.le_of_ble_eq_true rfl⟩ (fun ce q9 H locs S h1 h2 h3 => ?_)
  refine vx_catch (own := RL) (name := "java/lang/IndexOutOfBoundsException") hown [] ⟨0, 176, 177, 51⟩ [⟨0, 176, 182, 54⟩, ⟨0, 176, 187, 56⟩] (htab.trans rfl) (fun z hz => nomatch hz) rfl (by decide) (hts (.classLink RL 51 "java/lang/IndexOutOfBoundsException") (by decide +kernel)) (va_Nw.use rfl (hE.2.2.2.2.2.1 "java/lang/IndexOutOfBoundsException" (by simp [xcl]))) h1 h2 h3 ?_
  refine lv_astore (lv' := [(5, .ref q9), (0, .ref (ad 0)), (1, .int 8), (2, .int x), (3, .int rk), (4, .int am)]) hx hb dL_does_177 hl (by decide) rfl (fun ls hl => ?_)
  refine lv_ldc (v := -1000000001) hx hb hown (hts (.constant RL 53 (-1000000001)) (by decide +kernel)) dL_does_179 ?_
  exact r_iret X S hr dL_does_181 (Nat.le_of_ble_eq_true rfl) (Nat.le_of_ble_eq_true rfl) rfl rfl

set_option maxHeartbeats 1000000 in
set_option maxRecDepth 100000 in
theorem x2_does_award (l : Launch) (D : va_G) (cA : Nat → ClassId) (ad : Nat → Nat) (sz : Nat) (F : FF) (hst : l.stackTraces = false) (i : Nat) (hi : i < 4) (rk am : Int32) (h : ¬ (wi rk 0 2 = true ∧ wi am 1 1000000 = true)) : CI l D cA ad sz yL_does wsL_does 9 161 1 6 [.ref (ad 0), .int 8, .int (nI i), .int rk, .int am] F (some (.int (-1000000001))) F := by
  refine CIW_of (own := RL) (cc := cL_does) (maxL := 6) (ret := (some .int)) (hh := [(0, 176, 177, 51), (0, 176, 182, 54), (0, 176, 187, 56)]) (by decide +kernel) rfl rfl (Nat.le_of_ble_eq_true rfl) ?_
  intro p e s m below meth c ls X S hr htab hl
  obtain ⟨⟨hx, hb, hml, hown, hts⟩, hE, hI, hlocks⟩ := id X
  have hl : lv_has ls 6 [(0, .ref (ad 0)), (1, .int 8), (2, .int (nI i)), (3, .int rk), (4, .int am)] := hl
  refine lv_iload_n hx hb dL_does_0 rfl (lv_at hl 1 rfl) ?_
  refine lv_if_ne (tgt := 24) hx hb dL_does_1 (by decide) (fun _ => ?_) (fun z => False.elim (by first | exact absurd z (by decide) | exact absurd (by decide) z))
  refine lv_iload_n hx hb dL_does_24 rfl (lv_at hl 1 rfl) ?_
  refine lv_iconst (v := 1) hx hb dL_does_25 (by decide) ?_
  refine lv_icmp_eq (tgt := 39) hx hb dL_does_26 (by decide) (fun z => False.elim (by first | exact absurd z (by decide) | exact absurd (by decide) z)) (fun _ => ?_)
  refine lv_iload_n hx hb dL_does_29 rfl (lv_at hl 1 rfl) ?_
  refine lv_iconst (v := 3) hx hb dL_does_30 (by decide) ?_
  refine lv_icmp_eq (tgt := 39) hx hb dL_does_31 (by decide) (fun z => False.elim (by first | exact absurd z (by decide) | exact absurd (by decide) z)) (fun _ => ?_)
  refine lv_iload_n hx hb dL_does_34 rfl (lv_at hl 1 rfl) ?_
  refine lv_iconst (v := 4) hx hb dL_does_35 (by decide) ?_
  refine lv_icmp_ne (tgt := 51) hx hb dL_does_36 (by decide) (fun _ => ?_) (fun z => False.elim (by first | exact absurd z (by decide) | exact absurd (by decide) z))
  refine lv_iload_n hx hb dL_does_51 rfl (lv_at hl 1 rfl) ?_
  refine lv_iconst (v := 2) hx hb dL_does_52 (by decide) ?_
  refine lv_icmp_ne (tgt := 65) hx hb dL_does_53 (by decide) (fun _ => ?_) (fun z => False.elim (by first | exact absurd z (by decide) | exact absurd (by decide) z))
  refine lv_iload_n hx hb dL_does_65 rfl (lv_at hl 1 rfl) ?_
  refine lv_iconst (v := 5) hx hb dL_does_66 (by decide) ?_
  refine lv_icmp_ne (tgt := 79) hx hb dL_does_67 (by decide) (fun _ => ?_) (fun z => False.elim (by first | exact absurd z (by decide) | exact absurd (by decide) z))
  refine lv_iload_n hx hb dL_does_79 rfl (lv_at hl 1 rfl) ?_
  refine lv_bipush (v := 6) hx hb dL_does_80 (by decide) ?_
  refine lv_icmp_ne (tgt := 94) hx hb dL_does_82 (by decide) (fun _ => ?_) (fun z => False.elim (by first | exact absurd z (by decide) | exact absurd (by decide) z))
  refine lv_iload_n hx hb dL_does_94 rfl (lv_at hl 1 rfl) ?_
  refine lv_bipush (v := 7) hx hb dL_does_95 (by decide) ?_
  refine lv_icmp_ne (tgt := 111) hx hb dL_does_97 (by decide) (fun _ => ?_) (fun z => False.elim (by first | exact absurd z (by decide) | exact absurd (by decide) z))
  refine lv_iload_n hx hb dL_does_111 rfl (lv_at hl 1 rfl) ?_
  refine lv_bipush (v := 8) hx hb dL_does_112 (by decide) ?_
  refine lv_icmp_ne (tgt := 128) hx hb dL_does_114 (by decide) (fun z => False.elim (by first | exact absurd z (by decide) | exact absurd (by decide) z)) (fun _ => ?_)
  refine lv_aload_n hx hb dL_does_117 rfl (lv_at hl 0 rfl) ?_
  refine lv_iload_n hx hb dL_does_118 rfl (lv_at hl 2 rfl) ?_
  refine lv_iload_n hx hb dL_does_119 rfl (lv_at hl 3 rfl) ?_
  refine lv_iload hx hb dL_does_120 (lv_at hl 4 rfl) ?_
  refine r_VX X S (x2_X4_award l hst D cA ad _ F i hi rk am h) ob_0 rfl (cwV 3 hts gL_does_X4_award rfl rfl rfl (by decide +kernel) ⟨Nat.le_of_ble_eq_true rfl, Nat.le_of_ble_eq_true rfl⟩) rfl hl.1 rfl (Nat.le_of_ble_eq_true rfl) dL_does_122 ⟨Nat.le_of_ble_eq_true rfl, Nat.le_of_ble_eq_true rfl⟩ (fun ce q9 H locs S h1 h2 h3 => ?_)
  refine vx_catch (own := RL) (name := "java/lang/IllegalArgumentException") hown [⟨0, 176, 177, 51⟩] ⟨0, 176, 182, 54⟩ [⟨0, 176, 187, 56⟩] (htab.trans rfl) (fun z hz => by rw [List.mem_singleton.mp hz]; exact Or.inr ⟨by decide, "java/lang/IndexOutOfBoundsException", hts (.classLink RL 51 "java/lang/IndexOutOfBoundsException") (by decide +kernel), hE.2.2.2.2.2.2 "java/lang/IllegalArgumentException" (by simp [xcl]) "java/lang/IndexOutOfBoundsException" (by simp [xcl]) (by decide)⟩) rfl (by decide) (hts (.classLink RL 54 "java/lang/IllegalArgumentException") (by decide +kernel)) (va_Nw.use rfl (hE.2.2.2.2.2.1 "java/lang/IllegalArgumentException" (by simp [xcl]))) h1 h2 h3 ?_
  refine lv_astore (lv' := [(5, .ref q9), (0, .ref (ad 0)), (1, .int 8), (2, .int (nI i)), (3, .int rk), (4, .int am)]) hx hb dL_does_182 hl (by decide) rfl (fun ls hl => ?_)
  refine lv_ldc (v := -1000000001) hx hb hown (hts (.constant RL 53 (-1000000001)) (by decide +kernel)) dL_does_184 ?_
  exact r_iret X S hr dL_does_186 (Nat.le_of_ble_eq_true rfl) (Nat.le_of_ble_eq_true rfl) rfl rfl

set_option maxHeartbeats 1000000 in
set_option maxRecDepth 100000 in
theorem x3_does_award (l : Launch) (D : va_G) (cA : Nat → ClassId) (ad : Nat → Nat) (sz : Nat) (F : FF) (hst : l.stackTraces = false) (i : Nat) (hi : i < 4) (rk am : Int32) (h1 : wi rk 0 2 = true) (h2 : wi am 1 1000000 = true) (et : F (4 + 8 * i + 3) 3 = nI 6) : CI l D cA ad sz yL_does wsL_does 9 161 1 6 [.ref (ad 0), .int 8, .int (nI i), .int rk, .int am] F (some (.int (-1000000001))) F := by
  refine CIW_of (own := RL) (cc := cL_does) (maxL := 6) (ret := (some .int)) (hh := [(0, 176, 177, 51), (0, 176, 182, 54), (0, 176, 187, 56)]) (by decide +kernel) rfl rfl (Nat.le_of_ble_eq_true rfl) ?_
  intro p e s m below meth c ls X S hr htab hl
  obtain ⟨⟨hx, hb, hml, hown, hts⟩, hE, hI, hlocks⟩ := id X
  have hl : lv_has ls 6 [(0, .ref (ad 0)), (1, .int 8), (2, .int (nI i)), (3, .int rk), (4, .int am)] := hl
  refine lv_iload_n hx hb dL_does_0 rfl (lv_at hl 1 rfl) ?_
  refine lv_if_ne (tgt := 24) hx hb dL_does_1 (by decide) (fun _ => ?_) (fun z => False.elim (by first | exact absurd z (by decide) | exact absurd (by decide) z))
  refine lv_iload_n hx hb dL_does_24 rfl (lv_at hl 1 rfl) ?_
  refine lv_iconst (v := 1) hx hb dL_does_25 (by decide) ?_
  refine lv_icmp_eq (tgt := 39) hx hb dL_does_26 (by decide) (fun z => False.elim (by first | exact absurd z (by decide) | exact absurd (by decide) z)) (fun _ => ?_)
  refine lv_iload_n hx hb dL_does_29 rfl (lv_at hl 1 rfl) ?_
  refine lv_iconst (v := 3) hx hb dL_does_30 (by decide) ?_
  refine lv_icmp_eq (tgt := 39) hx hb dL_does_31 (by decide) (fun z => False.elim (by first | exact absurd z (by decide) | exact absurd (by decide) z)) (fun _ => ?_)
  refine lv_iload_n hx hb dL_does_34 rfl (lv_at hl 1 rfl) ?_
  refine lv_iconst (v := 4) hx hb dL_does_35 (by decide) ?_
  refine lv_icmp_ne (tgt := 51) hx hb dL_does_36 (by decide) (fun _ => ?_) (fun z => False.elim (by first | exact absurd z (by decide) | exact absurd (by decide) z))
  refine lv_iload_n hx hb dL_does_51 rfl (lv_at hl 1 rfl) ?_
  refine lv_iconst (v := 2) hx hb dL_does_52 (by decide) ?_
  refine lv_icmp_ne (tgt := 65) hx hb dL_does_53 (by decide) (fun _ => ?_) (fun z => False.elim (by first | exact absurd z (by decide) | exact absurd (by decide) z))
  refine lv_iload_n hx hb dL_does_65 rfl (lv_at hl 1 rfl) ?_
  refine lv_iconst (v := 5) hx hb dL_does_66 (by decide) ?_
  refine lv_icmp_ne (tgt := 79) hx hb dL_does_67 (by decide) (fun _ => ?_) (fun z => False.elim (by first | exact absurd z (by decide) | exact absurd (by decide) z))
  refine lv_iload_n hx hb dL_does_79 rfl (lv_at hl 1 rfl) ?_
  refine lv_bipush (v := 6) hx hb dL_does_80 (by decide) ?_
  refine lv_icmp_ne (tgt := 94) hx hb dL_does_82 (by decide) (fun _ => ?_) (fun z => False.elim (by first | exact absurd z (by decide) | exact absurd (by decide) z))
  refine lv_iload_n hx hb dL_does_94 rfl (lv_at hl 1 rfl) ?_
  refine lv_bipush (v := 7) hx hb dL_does_95 (by decide) ?_
  refine lv_icmp_ne (tgt := 111) hx hb dL_does_97 (by decide) (fun _ => ?_) (fun z => False.elim (by first | exact absurd z (by decide) | exact absurd (by decide) z))
  refine lv_iload_n hx hb dL_does_111 rfl (lv_at hl 1 rfl) ?_
  refine lv_bipush (v := 8) hx hb dL_does_112 (by decide) ?_
  refine lv_icmp_ne (tgt := 128) hx hb dL_does_114 (by decide) (fun z => False.elim (by first | exact absurd z (by decide) | exact absurd (by decide) z)) (fun _ => ?_)
  refine lv_aload_n hx hb dL_does_117 rfl (lv_at hl 0 rfl) ?_
  refine lv_iload_n hx hb dL_does_118 rfl (lv_at hl 2 rfl) ?_
  refine lv_iload_n hx hb dL_does_119 rfl (lv_at hl 3 rfl) ?_
  refine lv_iload hx hb dL_does_120 (lv_at hl 4 rfl) ?_
  refine r_VX X S (x3_X4_award l hst D cA ad _ F i hi rk am h1 h2 et) ob_0 rfl (cwV 3 hts gL_does_X4_award rfl rfl rfl (by decide +kernel) ⟨Nat.le_of_ble_eq_true rfl, Nat.le_of_ble_eq_true rfl⟩) rfl hl.1 rfl (Nat.le_of_ble_eq_true rfl) dL_does_122 ⟨Nat.le_of_ble_eq_true rfl, Nat.le_of_ble_eq_true rfl⟩ (fun ce q9 H locs S h1 h2 h3 => ?_)
  refine vx_catch (own := RL) (name := "java/lang/IllegalStateException") hown [⟨0, 176, 177, 51⟩, ⟨0, 176, 182, 54⟩] ⟨0, 176, 187, 56⟩ [] (htab.trans rfl) (fun z hz => by
      simp only [List.mem_cons, List.not_mem_nil, or_false] at hz
      rcases hz with rfl | rfl
      · exact Or.inr ⟨by decide, "java/lang/IndexOutOfBoundsException", hts (.classLink RL 51 "java/lang/IndexOutOfBoundsException") (by decide +kernel), hE.2.2.2.2.2.2 "java/lang/IllegalStateException" (by simp [xcl]) "java/lang/IndexOutOfBoundsException" (by simp [xcl]) (by decide)⟩
      · exact Or.inr ⟨by decide, "java/lang/IllegalArgumentException", hts (.classLink RL 54 "java/lang/IllegalArgumentException") (by decide +kernel), hE.2.2.2.2.2.2 "java/lang/IllegalStateException" (by simp [xcl]) "java/lang/IllegalArgumentException" (by simp [xcl]) (by decide)⟩) rfl (by decide) (hts (.classLink RL 56 "java/lang/IllegalStateException") (by decide +kernel)) (va_Nw.use rfl (hE.2.2.2.2.2.1 "java/lang/IllegalStateException" (by simp [xcl]))) h1 h2 h3 ?_
  refine lv_astore (lv' := [(5, .ref q9), (0, .ref (ad 0)), (1, .int 8), (2, .int (nI i)), (3, .int rk), (4, .int am)]) hx hb dL_does_187 hl (by decide) rfl (fun ls hl => ?_)
  refine lv_ldc (v := -1000000001) hx hb hown (hts (.constant RL 53 (-1000000001)) (by decide +kernel)) dL_does_189 ?_
  exact r_iret X S hr dL_does_191 (Nat.le_of_ble_eq_true rfl) (Nat.le_of_ble_eq_true rfl) rfl rfl

set_option maxHeartbeats 1000000 in
set_option maxRecDepth 100000 in
theorem w_does_pay (l : Launch) (D : va_G) (cA : Nat → ClassId) (ad : Nat → Nat) (sz : Nat) (F : FF) (i : Nat) (hi : i < 4) (am : Int32) (h1 : wi am 1 1000000 = true) (c4 : Int32) : CI l D cA ad sz yL_does wsL_does 9 161 1 6 [.ref (ad 0), .int 9, .int (nI i), .int am, .int c4] F (some (.int (balV (pyF F i am) i))) (balF (pyF F i am) i) := by
  refine CIW_of (own := RL) (cc := cL_does) (maxL := 6) (ret := (some .int)) (hh := [(0, 176, 177, 51), (0, 176, 182, 54), (0, 176, 187, 56)]) (by decide +kernel) rfl rfl (Nat.le_of_ble_eq_true rfl) ?_
  intro p e s m below meth c ls X S hr htab hl
  obtain ⟨⟨hx, hb, hml, hown, hts⟩, hE, hI, hlocks⟩ := id X
  have hl : lv_has ls 6 [(0, .ref (ad 0)), (1, .int 9), (2, .int (nI i)), (3, .int am), (4, .int c4)] := hl
  refine lv_iload_n hx hb dL_does_0 rfl (lv_at hl 1 rfl) ?_
  refine lv_if_ne (tgt := 24) hx hb dL_does_1 (by decide) (fun _ => ?_) (fun z => False.elim (by first | exact absurd z (by decide) | exact absurd (by decide) z))
  refine lv_iload_n hx hb dL_does_24 rfl (lv_at hl 1 rfl) ?_
  refine lv_iconst (v := 1) hx hb dL_does_25 (by decide) ?_
  refine lv_icmp_eq (tgt := 39) hx hb dL_does_26 (by decide) (fun z => False.elim (by first | exact absurd z (by decide) | exact absurd (by decide) z)) (fun _ => ?_)
  refine lv_iload_n hx hb dL_does_29 rfl (lv_at hl 1 rfl) ?_
  refine lv_iconst (v := 3) hx hb dL_does_30 (by decide) ?_
  refine lv_icmp_eq (tgt := 39) hx hb dL_does_31 (by decide) (fun z => False.elim (by first | exact absurd z (by decide) | exact absurd (by decide) z)) (fun _ => ?_)
  refine lv_iload_n hx hb dL_does_34 rfl (lv_at hl 1 rfl) ?_
  refine lv_iconst (v := 4) hx hb dL_does_35 (by decide) ?_
  refine lv_icmp_ne (tgt := 51) hx hb dL_does_36 (by decide) (fun _ => ?_) (fun z => False.elim (by first | exact absurd z (by decide) | exact absurd (by decide) z))
  refine lv_iload_n hx hb dL_does_51 rfl (lv_at hl 1 rfl) ?_
  refine lv_iconst (v := 2) hx hb dL_does_52 (by decide) ?_
  refine lv_icmp_ne (tgt := 65) hx hb dL_does_53 (by decide) (fun _ => ?_) (fun z => False.elim (by first | exact absurd z (by decide) | exact absurd (by decide) z))
  refine lv_iload_n hx hb dL_does_65 rfl (lv_at hl 1 rfl) ?_
  refine lv_iconst (v := 5) hx hb dL_does_66 (by decide) ?_
  refine lv_icmp_ne (tgt := 79) hx hb dL_does_67 (by decide) (fun _ => ?_) (fun z => False.elim (by first | exact absurd z (by decide) | exact absurd (by decide) z))
  refine lv_iload_n hx hb dL_does_79 rfl (lv_at hl 1 rfl) ?_
  refine lv_bipush (v := 6) hx hb dL_does_80 (by decide) ?_
  refine lv_icmp_ne (tgt := 94) hx hb dL_does_82 (by decide) (fun _ => ?_) (fun z => False.elim (by first | exact absurd z (by decide) | exact absurd (by decide) z))
  refine lv_iload_n hx hb dL_does_94 rfl (lv_at hl 1 rfl) ?_
  refine lv_bipush (v := 7) hx hb dL_does_95 (by decide) ?_
  refine lv_icmp_ne (tgt := 111) hx hb dL_does_97 (by decide) (fun _ => ?_) (fun z => False.elim (by first | exact absurd z (by decide) | exact absurd (by decide) z))
  refine lv_iload_n hx hb dL_does_111 rfl (lv_at hl 1 rfl) ?_
  refine lv_bipush (v := 8) hx hb dL_does_112 (by decide) ?_
  refine lv_icmp_ne (tgt := 128) hx hb dL_does_114 (by decide) (fun _ => ?_) (fun z => False.elim (by first | exact absurd z (by decide) | exact absurd (by decide) z))
  refine lv_iload_n hx hb dL_does_128 rfl (lv_at hl 1 rfl) ?_
  refine lv_bipush (v := 9) hx hb dL_does_129 (by decide) ?_
  refine lv_icmp_ne (tgt := 143) hx hb dL_does_131 (by decide) (fun z => False.elim (by first | exact absurd z (by decide) | exact absurd (by decide) z)) (fun _ => ?_)
  refine lv_aload_n hx hb dL_does_134 rfl (lv_at hl 0 rfl) ?_
  refine lv_iload_n hx hb dL_does_135 rfl (lv_at hl 2 rfl) ?_
  refine lv_iload_n hx hb dL_does_136 rfl (lv_at hl 3 rfl) ?_
  refine r_V0 X S (c_X4_pay l D cA ad _ F i hi am h1) ob_0 rfl (cwV 2 hts gL_does_X4_pay rfl rfl rfl (by decide +kernel) ⟨Nat.le_of_ble_eq_true rfl, Nat.le_of_ble_eq_true rfl⟩) rfl hl.1 rfl (Nat.le_of_ble_eq_true rfl) dL_does_137 ⟨Nat.zero_le _, Nat.zero_le _⟩ (fun H locs S => ?_)
  obtain ⟨F_1, eF_1⟩ : ∃ z, z = balF (pyF F i am) i := ⟨_, rfl⟩
  rw [← eF_1] at S
  refine lv_goto (tgt := 176) hx hb dL_does_140 (by decide) ?_
  exact r_iret X S hr dL_does_176 (Nat.le_of_ble_eq_true rfl) (Nat.le_of_ble_eq_true rfl) rfl (by rw [eF_1])

set_option maxHeartbeats 1000000 in
set_option maxRecDepth 100000 in
theorem x1_does_pay (l : Launch) (D : va_G) (cA : Nat → ClassId) (ad : Nat → Nat) (sz : Nat) (F : FF) (hst : l.stackTraces = false) (x am : Int32) (h : wi x 0 3 = false) (c4 : Int32) : CI l D cA ad sz yL_does wsL_does 9 161 1 6 [.ref (ad 0), .int 9, .int x, .int am, .int c4] F (some (.int (-1000000001))) F := by
  refine CIW_of (own := RL) (cc := cL_does) (maxL := 6) (ret := (some .int)) (hh := [(0, 176, 177, 51), (0, 176, 182, 54), (0, 176, 187, 56)]) (by decide +kernel) rfl rfl (Nat.le_of_ble_eq_true rfl) ?_
  intro p e s m below meth c ls X S hr htab hl
  obtain ⟨⟨hx, hb, hml, hown, hts⟩, hE, hI, hlocks⟩ := id X
  have hl : lv_has ls 6 [(0, .ref (ad 0)), (1, .int 9), (2, .int x), (3, .int am), (4, .int c4)] := hl
  refine lv_iload_n hx hb dL_does_0 rfl (lv_at hl 1 rfl) ?_
  refine lv_if_ne (tgt := 24) hx hb dL_does_1 (by decide) (fun _ => ?_) (fun z => False.elim (by first | exact absurd z (by decide) | exact absurd (by decide) z))
  refine lv_iload_n hx hb dL_does_24 rfl (lv_at hl 1 rfl) ?_
  refine lv_iconst (v := 1) hx hb dL_does_25 (by decide) ?_
  refine lv_icmp_eq (tgt := 39) hx hb dL_does_26 (by decide) (fun z => False.elim (by first | exact absurd z (by decide) | exact absurd (by decide) z)) (fun _ => ?_)
  refine lv_iload_n hx hb dL_does_29 rfl (lv_at hl 1 rfl) ?_
  refine lv_iconst (v := 3) hx hb dL_does_30 (by decide) ?_
  refine lv_icmp_eq (tgt := 39) hx hb dL_does_31 (by decide) (fun z => False.elim (by first | exact absurd z (by decide) | exact absurd (by decide) z)) (fun _ => ?_)
  refine lv_iload_n hx hb dL_does_34 rfl (lv_at hl 1 rfl) ?_
  refine lv_iconst (v := 4) hx hb dL_does_35 (by decide) ?_
  refine lv_icmp_ne (tgt := 51) hx hb dL_does_36 (by decide) (fun _ => ?_) (fun z => False.elim (by first | exact absurd z (by decide) | exact absurd (by decide) z))
  refine lv_iload_n hx hb dL_does_51 rfl (lv_at hl 1 rfl) ?_
  refine lv_iconst (v := 2) hx hb dL_does_52 (by decide) ?_
  refine lv_icmp_ne (tgt := 65) hx hb dL_does_53 (by decide) (fun _ => ?_) (fun z => False.elim (by first | exact absurd z (by decide) | exact absurd (by decide) z))
  refine lv_iload_n hx hb dL_does_65 rfl (lv_at hl 1 rfl) ?_
  refine lv_iconst (v := 5) hx hb dL_does_66 (by decide) ?_
  refine lv_icmp_ne (tgt := 79) hx hb dL_does_67 (by decide) (fun _ => ?_) (fun z => False.elim (by first | exact absurd z (by decide) | exact absurd (by decide) z))
  refine lv_iload_n hx hb dL_does_79 rfl (lv_at hl 1 rfl) ?_
  refine lv_bipush (v := 6) hx hb dL_does_80 (by decide) ?_
  refine lv_icmp_ne (tgt := 94) hx hb dL_does_82 (by decide) (fun _ => ?_) (fun z => False.elim (by first | exact absurd z (by decide) | exact absurd (by decide) z))
  refine lv_iload_n hx hb dL_does_94 rfl (lv_at hl 1 rfl) ?_
  refine lv_bipush (v := 7) hx hb dL_does_95 (by decide) ?_
  refine lv_icmp_ne (tgt := 111) hx hb dL_does_97 (by decide) (fun _ => ?_) (fun z => False.elim (by first | exact absurd z (by decide) | exact absurd (by decide) z))
  refine lv_iload_n hx hb dL_does_111 rfl (lv_at hl 1 rfl) ?_
  refine lv_bipush (v := 8) hx hb dL_does_112 (by decide) ?_
  refine lv_icmp_ne (tgt := 128) hx hb dL_does_114 (by decide) (fun _ => ?_) (fun z => False.elim (by first | exact absurd z (by decide) | exact absurd (by decide) z))
  refine lv_iload_n hx hb dL_does_128 rfl (lv_at hl 1 rfl) ?_
  refine lv_bipush (v := 9) hx hb dL_does_129 (by decide) ?_
  refine lv_icmp_ne (tgt := 143) hx hb dL_does_131 (by decide) (fun z => False.elim (by first | exact absurd z (by decide) | exact absurd (by decide) z)) (fun _ => ?_)
  refine lv_aload_n hx hb dL_does_134 rfl (lv_at hl 0 rfl) ?_
  refine lv_iload_n hx hb dL_does_135 rfl (lv_at hl 2 rfl) ?_
  refine lv_iload_n hx hb dL_does_136 rfl (lv_at hl 3 rfl) ?_
  refine r_VX X S (x1_X4_pay l hst D cA ad _ F x am h) ob_0 rfl (cwV 2 hts gL_does_X4_pay rfl rfl rfl (by decide +kernel) ⟨Nat.le_of_ble_eq_true rfl, Nat.le_of_ble_eq_true rfl⟩) rfl hl.1 rfl (Nat.le_of_ble_eq_true rfl) dL_does_137 ⟨Nat.le_of_ble_eq_true rfl, Nat.le_of_ble_eq_true rfl⟩ (fun ce q9 H locs S h1 h2 h3 => ?_)
  refine vx_catch (own := RL) (name := "java/lang/IndexOutOfBoundsException") hown [] ⟨0, 176, 177, 51⟩ [⟨0, 176, 182, 54⟩, ⟨0, 176, 187, 56⟩] (htab.trans rfl) (fun z hz => nomatch hz) rfl (by decide) (hts (.classLink RL 51 "java/lang/IndexOutOfBoundsException") (by decide +kernel)) (va_Nw.use rfl (hE.2.2.2.2.2.1 "java/lang/IndexOutOfBoundsException" (by simp [xcl]))) h1 h2 h3 ?_
  refine lv_astore (lv' := [(5, .ref q9), (0, .ref (ad 0)), (1, .int 9), (2, .int x), (3, .int am), (4, .int c4)]) hx hb dL_does_177 hl (by decide) rfl (fun ls hl => ?_)
  refine lv_ldc (v := -1000000001) hx hb hown (hts (.constant RL 53 (-1000000001)) (by decide +kernel)) dL_does_179 ?_
  exact r_iret X S hr dL_does_181 (Nat.le_of_ble_eq_true rfl) (Nat.le_of_ble_eq_true rfl) rfl rfl

set_option maxHeartbeats 1000000 in
set_option maxRecDepth 100000 in
theorem x2_does_pay (l : Launch) (D : va_G) (cA : Nat → ClassId) (ad : Nat → Nat) (sz : Nat) (F : FF) (hst : l.stackTraces = false) (i : Nat) (hi : i < 4) (am : Int32) (h : wi am 1 1000000 = false) (c4 : Int32) : CI l D cA ad sz yL_does wsL_does 9 161 1 6 [.ref (ad 0), .int 9, .int (nI i), .int am, .int c4] F (some (.int (-1000000001))) F := by
  refine CIW_of (own := RL) (cc := cL_does) (maxL := 6) (ret := (some .int)) (hh := [(0, 176, 177, 51), (0, 176, 182, 54), (0, 176, 187, 56)]) (by decide +kernel) rfl rfl (Nat.le_of_ble_eq_true rfl) ?_
  intro p e s m below meth c ls X S hr htab hl
  obtain ⟨⟨hx, hb, hml, hown, hts⟩, hE, hI, hlocks⟩ := id X
  have hl : lv_has ls 6 [(0, .ref (ad 0)), (1, .int 9), (2, .int (nI i)), (3, .int am), (4, .int c4)] := hl
  refine lv_iload_n hx hb dL_does_0 rfl (lv_at hl 1 rfl) ?_
  refine lv_if_ne (tgt := 24) hx hb dL_does_1 (by decide) (fun _ => ?_) (fun z => False.elim (by first | exact absurd z (by decide) | exact absurd (by decide) z))
  refine lv_iload_n hx hb dL_does_24 rfl (lv_at hl 1 rfl) ?_
  refine lv_iconst (v := 1) hx hb dL_does_25 (by decide) ?_
  refine lv_icmp_eq (tgt := 39) hx hb dL_does_26 (by decide) (fun z => False.elim (by first | exact absurd z (by decide) | exact absurd (by decide) z)) (fun _ => ?_)
  refine lv_iload_n hx hb dL_does_29 rfl (lv_at hl 1 rfl) ?_
  refine lv_iconst (v := 3) hx hb dL_does_30 (by decide) ?_
  refine lv_icmp_eq (tgt := 39) hx hb dL_does_31 (by decide) (fun z => False.elim (by first | exact absurd z (by decide) | exact absurd (by decide) z)) (fun _ => ?_)
  refine lv_iload_n hx hb dL_does_34 rfl (lv_at hl 1 rfl) ?_
  refine lv_iconst (v := 4) hx hb dL_does_35 (by decide) ?_
  refine lv_icmp_ne (tgt := 51) hx hb dL_does_36 (by decide) (fun _ => ?_) (fun z => False.elim (by first | exact absurd z (by decide) | exact absurd (by decide) z))
  refine lv_iload_n hx hb dL_does_51 rfl (lv_at hl 1 rfl) ?_
  refine lv_iconst (v := 2) hx hb dL_does_52 (by decide) ?_
  refine lv_icmp_ne (tgt := 65) hx hb dL_does_53 (by decide) (fun _ => ?_) (fun z => False.elim (by first | exact absurd z (by decide) | exact absurd (by decide) z))
  refine lv_iload_n hx hb dL_does_65 rfl (lv_at hl 1 rfl) ?_
  refine lv_iconst (v := 5) hx hb dL_does_66 (by decide) ?_
  refine lv_icmp_ne (tgt := 79) hx hb dL_does_67 (by decide) (fun _ => ?_) (fun z => False.elim (by first | exact absurd z (by decide) | exact absurd (by decide) z))
  refine lv_iload_n hx hb dL_does_79 rfl (lv_at hl 1 rfl) ?_
  refine lv_bipush (v := 6) hx hb dL_does_80 (by decide) ?_
  refine lv_icmp_ne (tgt := 94) hx hb dL_does_82 (by decide) (fun _ => ?_) (fun z => False.elim (by first | exact absurd z (by decide) | exact absurd (by decide) z))
  refine lv_iload_n hx hb dL_does_94 rfl (lv_at hl 1 rfl) ?_
  refine lv_bipush (v := 7) hx hb dL_does_95 (by decide) ?_
  refine lv_icmp_ne (tgt := 111) hx hb dL_does_97 (by decide) (fun _ => ?_) (fun z => False.elim (by first | exact absurd z (by decide) | exact absurd (by decide) z))
  refine lv_iload_n hx hb dL_does_111 rfl (lv_at hl 1 rfl) ?_
  refine lv_bipush (v := 8) hx hb dL_does_112 (by decide) ?_
  refine lv_icmp_ne (tgt := 128) hx hb dL_does_114 (by decide) (fun _ => ?_) (fun z => False.elim (by first | exact absurd z (by decide) | exact absurd (by decide) z))
  refine lv_iload_n hx hb dL_does_128 rfl (lv_at hl 1 rfl) ?_
  refine lv_bipush (v := 9) hx hb dL_does_129 (by decide) ?_
  refine lv_icmp_ne (tgt := 143) hx hb dL_does_131 (by decide) (fun z => False.elim (by first | exact absurd z (by decide) | exact absurd (by decide) z)) (fun _ => ?_)
  refine lv_aload_n hx hb dL_does_134 rfl (lv_at hl 0 rfl) ?_
  refine lv_iload_n hx hb dL_does_135 rfl (lv_at hl 2 rfl) ?_
  refine lv_iload_n hx hb dL_does_136 rfl (lv_at hl 3 rfl) ?_
  refine r_VX X S (x2_X4_pay l hst D cA ad _ F i hi am h) ob_0 rfl (cwV 2 hts gL_does_X4_pay rfl rfl rfl (by decide +kernel) ⟨Nat.le_of_ble_eq_true rfl, Nat.le_of_ble_eq_true rfl⟩) rfl hl.1 rfl (Nat.le_of_ble_eq_true rfl) dL_does_137 ⟨Nat.le_of_ble_eq_true rfl, Nat.le_of_ble_eq_true rfl⟩ (fun ce q9 H locs S h1 h2 h3 => ?_)
  refine vx_catch (own := RL) (name := "java/lang/IllegalArgumentException") hown [⟨0, 176, 177, 51⟩] ⟨0, 176, 182, 54⟩ [⟨0, 176, 187, 56⟩] (htab.trans rfl) (fun z hz => by rw [List.mem_singleton.mp hz]; exact Or.inr ⟨by decide, "java/lang/IndexOutOfBoundsException", hts (.classLink RL 51 "java/lang/IndexOutOfBoundsException") (by decide +kernel), hE.2.2.2.2.2.2 "java/lang/IllegalArgumentException" (by simp [xcl]) "java/lang/IndexOutOfBoundsException" (by simp [xcl]) (by decide)⟩) rfl (by decide) (hts (.classLink RL 54 "java/lang/IllegalArgumentException") (by decide +kernel)) (va_Nw.use rfl (hE.2.2.2.2.2.1 "java/lang/IllegalArgumentException" (by simp [xcl]))) h1 h2 h3 ?_
  refine lv_astore (lv' := [(5, .ref q9), (0, .ref (ad 0)), (1, .int 9), (2, .int (nI i)), (3, .int am), (4, .int c4)]) hx hb dL_does_182 hl (by decide) rfl (fun ls hl => ?_)
  refine lv_ldc (v := -1000000001) hx hb hown (hts (.constant RL 53 (-1000000001)) (by decide +kernel)) dL_does_184 ?_
  exact r_iret X S hr dL_does_186 (Nat.le_of_ble_eq_true rfl) (Nat.le_of_ble_eq_true rfl) rfl rfl

set_option maxHeartbeats 1000000 in
set_option maxRecDepth 100000 in
theorem w_does_plan (l : Launch) (D : va_G) (cA : Nat → ClassId) (ad : Nat → Nat) (sz : Nat) (F : FF) (i : Nat) (hi : i < 4) (q : Nat) (hq : q < 4) (h : ¬ balV F i ≤ 0) (c4 : Int32) : CI l D cA ad sz yL_does wsL_does 9 161 1 6 [.ref (ad 0), .int 10, .int (nI i), .int (nI (q + 1)), .int c4] F (some (.int (plS (balV F i) (q + 1)))) (plF F i (q + 1)) := by
  refine CIW_of (own := RL) (cc := cL_does) (maxL := 6) (ret := (some .int)) (hh := [(0, 176, 177, 51), (0, 176, 182, 54), (0, 176, 187, 56)]) (by decide +kernel) rfl rfl (Nat.le_of_ble_eq_true rfl) ?_
  intro p e s m below meth c ls X S hr htab hl
  obtain ⟨⟨hx, hb, hml, hown, hts⟩, hE, hI, hlocks⟩ := id X
  have hl : lv_has ls 6 [(0, .ref (ad 0)), (1, .int 10), (2, .int (nI i)), (3, .int (nI (q + 1))), (4, .int c4)] := hl
  refine lv_iload_n hx hb dL_does_0 rfl (lv_at hl 1 rfl) ?_
  refine lv_if_ne (tgt := 24) hx hb dL_does_1 (by decide) (fun _ => ?_) (fun z => False.elim (by first | exact absurd z (by decide) | exact absurd (by decide) z))
  refine lv_iload_n hx hb dL_does_24 rfl (lv_at hl 1 rfl) ?_
  refine lv_iconst (v := 1) hx hb dL_does_25 (by decide) ?_
  refine lv_icmp_eq (tgt := 39) hx hb dL_does_26 (by decide) (fun z => False.elim (by first | exact absurd z (by decide) | exact absurd (by decide) z)) (fun _ => ?_)
  refine lv_iload_n hx hb dL_does_29 rfl (lv_at hl 1 rfl) ?_
  refine lv_iconst (v := 3) hx hb dL_does_30 (by decide) ?_
  refine lv_icmp_eq (tgt := 39) hx hb dL_does_31 (by decide) (fun z => False.elim (by first | exact absurd z (by decide) | exact absurd (by decide) z)) (fun _ => ?_)
  refine lv_iload_n hx hb dL_does_34 rfl (lv_at hl 1 rfl) ?_
  refine lv_iconst (v := 4) hx hb dL_does_35 (by decide) ?_
  refine lv_icmp_ne (tgt := 51) hx hb dL_does_36 (by decide) (fun _ => ?_) (fun z => False.elim (by first | exact absurd z (by decide) | exact absurd (by decide) z))
  refine lv_iload_n hx hb dL_does_51 rfl (lv_at hl 1 rfl) ?_
  refine lv_iconst (v := 2) hx hb dL_does_52 (by decide) ?_
  refine lv_icmp_ne (tgt := 65) hx hb dL_does_53 (by decide) (fun _ => ?_) (fun z => False.elim (by first | exact absurd z (by decide) | exact absurd (by decide) z))
  refine lv_iload_n hx hb dL_does_65 rfl (lv_at hl 1 rfl) ?_
  refine lv_iconst (v := 5) hx hb dL_does_66 (by decide) ?_
  refine lv_icmp_ne (tgt := 79) hx hb dL_does_67 (by decide) (fun _ => ?_) (fun z => False.elim (by first | exact absurd z (by decide) | exact absurd (by decide) z))
  refine lv_iload_n hx hb dL_does_79 rfl (lv_at hl 1 rfl) ?_
  refine lv_bipush (v := 6) hx hb dL_does_80 (by decide) ?_
  refine lv_icmp_ne (tgt := 94) hx hb dL_does_82 (by decide) (fun _ => ?_) (fun z => False.elim (by first | exact absurd z (by decide) | exact absurd (by decide) z))
  refine lv_iload_n hx hb dL_does_94 rfl (lv_at hl 1 rfl) ?_
  refine lv_bipush (v := 7) hx hb dL_does_95 (by decide) ?_
  refine lv_icmp_ne (tgt := 111) hx hb dL_does_97 (by decide) (fun _ => ?_) (fun z => False.elim (by first | exact absurd z (by decide) | exact absurd (by decide) z))
  refine lv_iload_n hx hb dL_does_111 rfl (lv_at hl 1 rfl) ?_
  refine lv_bipush (v := 8) hx hb dL_does_112 (by decide) ?_
  refine lv_icmp_ne (tgt := 128) hx hb dL_does_114 (by decide) (fun _ => ?_) (fun z => False.elim (by first | exact absurd z (by decide) | exact absurd (by decide) z))
  refine lv_iload_n hx hb dL_does_128 rfl (lv_at hl 1 rfl) ?_
  refine lv_bipush (v := 9) hx hb dL_does_129 (by decide) ?_
  refine lv_icmp_ne (tgt := 143) hx hb dL_does_131 (by decide) (fun _ => ?_) (fun z => False.elim (by first | exact absurd z (by decide) | exact absurd (by decide) z))
  refine lv_iload_n hx hb dL_does_143 rfl (lv_at hl 1 rfl) ?_
  refine lv_bipush (v := 10) hx hb dL_does_144 (by decide) ?_
  refine lv_icmp_ne (tgt := 158) hx hb dL_does_146 (by decide) (fun z => False.elim (by first | exact absurd z (by decide) | exact absurd (by decide) z)) (fun _ => ?_)
  refine lv_aload_n hx hb dL_does_149 rfl (lv_at hl 0 rfl) ?_
  refine lv_iload_n hx hb dL_does_150 rfl (lv_at hl 2 rfl) ?_
  refine lv_iload_n hx hb dL_does_151 rfl (lv_at hl 3 rfl) ?_
  refine r_V0 X S (c_X4_plan l D cA ad _ F i hi q hq h) ob_0 rfl (cwV 2 hts gL_does_X4_plan rfl rfl rfl (by decide +kernel) ⟨Nat.le_of_ble_eq_true rfl, Nat.le_of_ble_eq_true rfl⟩) rfl hl.1 rfl (Nat.le_of_ble_eq_true rfl) dL_does_152 ⟨Nat.zero_le _, Nat.zero_le _⟩ (fun H locs S => ?_)
  obtain ⟨F_1, eF_1⟩ : ∃ z, z = plF F i (q + 1) := ⟨_, rfl⟩
  rw [← eF_1] at S
  refine lv_goto (tgt := 176) hx hb dL_does_155 (by decide) ?_
  exact r_iret X S hr dL_does_176 (Nat.le_of_ble_eq_true rfl) (Nat.le_of_ble_eq_true rfl) rfl (by rw [eF_1])

set_option maxHeartbeats 1000000 in
set_option maxRecDepth 100000 in
theorem x1_does_plan (l : Launch) (D : va_G) (cA : Nat → ClassId) (ad : Nat → Nat) (sz : Nat) (F : FF) (hst : l.stackTraces = false) (x y : Int32) (h : wi x 0 3 = false) (c4 : Int32) : CI l D cA ad sz yL_does wsL_does 9 161 1 6 [.ref (ad 0), .int 10, .int x, .int y, .int c4] F (some (.int (-1000000001))) F := by
  refine CIW_of (own := RL) (cc := cL_does) (maxL := 6) (ret := (some .int)) (hh := [(0, 176, 177, 51), (0, 176, 182, 54), (0, 176, 187, 56)]) (by decide +kernel) rfl rfl (Nat.le_of_ble_eq_true rfl) ?_
  intro p e s m below meth c ls X S hr htab hl
  obtain ⟨⟨hx, hb, hml, hown, hts⟩, hE, hI, hlocks⟩ := id X
  have hl : lv_has ls 6 [(0, .ref (ad 0)), (1, .int 10), (2, .int x), (3, .int y), (4, .int c4)] := hl
  refine lv_iload_n hx hb dL_does_0 rfl (lv_at hl 1 rfl) ?_
  refine lv_if_ne (tgt := 24) hx hb dL_does_1 (by decide) (fun _ => ?_) (fun z => False.elim (by first | exact absurd z (by decide) | exact absurd (by decide) z))
  refine lv_iload_n hx hb dL_does_24 rfl (lv_at hl 1 rfl) ?_
  refine lv_iconst (v := 1) hx hb dL_does_25 (by decide) ?_
  refine lv_icmp_eq (tgt := 39) hx hb dL_does_26 (by decide) (fun z => False.elim (by first | exact absurd z (by decide) | exact absurd (by decide) z)) (fun _ => ?_)
  refine lv_iload_n hx hb dL_does_29 rfl (lv_at hl 1 rfl) ?_
  refine lv_iconst (v := 3) hx hb dL_does_30 (by decide) ?_
  refine lv_icmp_eq (tgt := 39) hx hb dL_does_31 (by decide) (fun z => False.elim (by first | exact absurd z (by decide) | exact absurd (by decide) z)) (fun _ => ?_)
  refine lv_iload_n hx hb dL_does_34 rfl (lv_at hl 1 rfl) ?_
  refine lv_iconst (v := 4) hx hb dL_does_35 (by decide) ?_
  refine lv_icmp_ne (tgt := 51) hx hb dL_does_36 (by decide) (fun _ => ?_) (fun z => False.elim (by first | exact absurd z (by decide) | exact absurd (by decide) z))
  refine lv_iload_n hx hb dL_does_51 rfl (lv_at hl 1 rfl) ?_
  refine lv_iconst (v := 2) hx hb dL_does_52 (by decide) ?_
  refine lv_icmp_ne (tgt := 65) hx hb dL_does_53 (by decide) (fun _ => ?_) (fun z => False.elim (by first | exact absurd z (by decide) | exact absurd (by decide) z))
  refine lv_iload_n hx hb dL_does_65 rfl (lv_at hl 1 rfl) ?_
  refine lv_iconst (v := 5) hx hb dL_does_66 (by decide) ?_
  refine lv_icmp_ne (tgt := 79) hx hb dL_does_67 (by decide) (fun _ => ?_) (fun z => False.elim (by first | exact absurd z (by decide) | exact absurd (by decide) z))
  refine lv_iload_n hx hb dL_does_79 rfl (lv_at hl 1 rfl) ?_
  refine lv_bipush (v := 6) hx hb dL_does_80 (by decide) ?_
  refine lv_icmp_ne (tgt := 94) hx hb dL_does_82 (by decide) (fun _ => ?_) (fun z => False.elim (by first | exact absurd z (by decide) | exact absurd (by decide) z))
  refine lv_iload_n hx hb dL_does_94 rfl (lv_at hl 1 rfl) ?_
  refine lv_bipush (v := 7) hx hb dL_does_95 (by decide) ?_
  refine lv_icmp_ne (tgt := 111) hx hb dL_does_97 (by decide) (fun _ => ?_) (fun z => False.elim (by first | exact absurd z (by decide) | exact absurd (by decide) z))
  refine lv_iload_n hx hb dL_does_111 rfl (lv_at hl 1 rfl) ?_
  refine lv_bipush (v := 8) hx hb dL_does_112 (by decide) ?_
  refine lv_icmp_ne (tgt := 128) hx hb dL_does_114 (by decide) (fun _ => ?_) (fun z => False.elim (by first | exact absurd z (by decide) | exact absurd (by decide) z))
  refine lv_iload_n hx hb dL_does_128 rfl (lv_at hl 1 rfl) ?_
  refine lv_bipush (v := 9) hx hb dL_does_129 (by decide) ?_
  refine lv_icmp_ne (tgt := 143) hx hb dL_does_131 (by decide) (fun _ => ?_) (fun z => False.elim (by first | exact absurd z (by decide) | exact absurd (by decide) z))
  refine lv_iload_n hx hb dL_does_143 rfl (lv_at hl 1 rfl) ?_
  refine lv_bipush (v := 10) hx hb dL_does_144 (by decide) ?_
  refine lv_icmp_ne (tgt := 158) hx hb dL_does_146 (by decide) (fun z => False.elim (by first | exact absurd z (by decide) | exact absurd (by decide) z)) (fun _ => ?_)
  refine lv_aload_n hx hb dL_does_149 rfl (lv_at hl 0 rfl) ?_
  refine lv_iload_n hx hb dL_does_150 rfl (lv_at hl 2 rfl) ?_
  refine lv_iload_n hx hb dL_does_151 rfl (lv_at hl 3 rfl) ?_
  refine r_VX X S (x1_X4_plan l hst D cA ad _ F x y h) ob_0 rfl (cwV 2 hts gL_does_X4_plan rfl rfl rfl (by decide +kernel) ⟨Nat.le_of_ble_eq_true rfl, Nat.le_of_ble_eq_true rfl⟩) rfl hl.1 rfl (Nat.le_of_ble_eq_true rfl) dL_does_152 ⟨Nat.le_of_ble_eq_true rfl, Nat.le_of_ble_eq_true rfl⟩ (fun ce q9 H locs S h1 h2 h3 => ?_)
  refine vx_catch (own := RL) (name := "java/lang/IndexOutOfBoundsException") hown [] ⟨0, 176, 177, 51⟩ [⟨0, 176, 182, 54⟩, ⟨0, 176, 187, 56⟩] (htab.trans rfl) (fun z hz => nomatch hz) rfl (by decide) (hts (.classLink RL 51 "java/lang/IndexOutOfBoundsException") (by decide +kernel)) (va_Nw.use rfl (hE.2.2.2.2.2.1 "java/lang/IndexOutOfBoundsException" (by simp [xcl]))) h1 h2 h3 ?_
  refine lv_astore (lv' := [(5, .ref q9), (0, .ref (ad 0)), (1, .int 10), (2, .int x), (3, .int y), (4, .int c4)]) hx hb dL_does_177 hl (by decide) rfl (fun ls hl => ?_)
  refine lv_ldc (v := -1000000001) hx hb hown (hts (.constant RL 53 (-1000000001)) (by decide +kernel)) dL_does_179 ?_
  exact r_iret X S hr dL_does_181 (Nat.le_of_ble_eq_true rfl) (Nat.le_of_ble_eq_true rfl) rfl rfl

set_option maxHeartbeats 1000000 in
set_option maxRecDepth 100000 in
theorem x2_does_plan (l : Launch) (D : va_G) (cA : Nat → ClassId) (ad : Nat → Nat) (sz : Nat) (F : FF) (hst : l.stackTraces = false) (i : Nat) (hi : i < 4) (y : Int32) (h : wi y 1 4 = false) (c4 : Int32) : CI l D cA ad sz yL_does wsL_does 9 161 1 6 [.ref (ad 0), .int 10, .int (nI i), .int y, .int c4] F (some (.int (-1000000001))) F := by
  refine CIW_of (own := RL) (cc := cL_does) (maxL := 6) (ret := (some .int)) (hh := [(0, 176, 177, 51), (0, 176, 182, 54), (0, 176, 187, 56)]) (by decide +kernel) rfl rfl (Nat.le_of_ble_eq_true rfl) ?_
  intro p e s m below meth c ls X S hr htab hl
  obtain ⟨⟨hx, hb, hml, hown, hts⟩, hE, hI, hlocks⟩ := id X
  have hl : lv_has ls 6 [(0, .ref (ad 0)), (1, .int 10), (2, .int (nI i)), (3, .int y), (4, .int c4)] := hl
  refine lv_iload_n hx hb dL_does_0 rfl (lv_at hl 1 rfl) ?_
  refine lv_if_ne (tgt := 24) hx hb dL_does_1 (by decide) (fun _ => ?_) (fun z => False.elim (by first | exact absurd z (by decide) | exact absurd (by decide) z))
  refine lv_iload_n hx hb dL_does_24 rfl (lv_at hl 1 rfl) ?_
  refine lv_iconst (v := 1) hx hb dL_does_25 (by decide) ?_
  refine lv_icmp_eq (tgt := 39) hx hb dL_does_26 (by decide) (fun z => False.elim (by first | exact absurd z (by decide) | exact absurd (by decide) z)) (fun _ => ?_)
  refine lv_iload_n hx hb dL_does_29 rfl (lv_at hl 1 rfl) ?_
  refine lv_iconst (v := 3) hx hb dL_does_30 (by decide) ?_
  refine lv_icmp_eq (tgt := 39) hx hb dL_does_31 (by decide) (fun z => False.elim (by first | exact absurd z (by decide) | exact absurd (by decide) z)) (fun _ => ?_)
  refine lv_iload_n hx hb dL_does_34 rfl (lv_at hl 1 rfl) ?_
  refine lv_iconst (v := 4) hx hb dL_does_35 (by decide) ?_
  refine lv_icmp_ne (tgt := 51) hx hb dL_does_36 (by decide) (fun _ => ?_) (fun z => False.elim (by first | exact absurd z (by decide) | exact absurd (by decide) z))
  refine lv_iload_n hx hb dL_does_51 rfl (lv_at hl 1 rfl) ?_
  refine lv_iconst (v := 2) hx hb dL_does_52 (by decide) ?_
  refine lv_icmp_ne (tgt := 65) hx hb dL_does_53 (by decide) (fun _ => ?_) (fun z => False.elim (by first | exact absurd z (by decide) | exact absurd (by decide) z))
  refine lv_iload_n hx hb dL_does_65 rfl (lv_at hl 1 rfl) ?_
  refine lv_iconst (v := 5) hx hb dL_does_66 (by decide) ?_
  refine lv_icmp_ne (tgt := 79) hx hb dL_does_67 (by decide) (fun _ => ?_) (fun z => False.elim (by first | exact absurd z (by decide) | exact absurd (by decide) z))
  refine lv_iload_n hx hb dL_does_79 rfl (lv_at hl 1 rfl) ?_
  refine lv_bipush (v := 6) hx hb dL_does_80 (by decide) ?_
  refine lv_icmp_ne (tgt := 94) hx hb dL_does_82 (by decide) (fun _ => ?_) (fun z => False.elim (by first | exact absurd z (by decide) | exact absurd (by decide) z))
  refine lv_iload_n hx hb dL_does_94 rfl (lv_at hl 1 rfl) ?_
  refine lv_bipush (v := 7) hx hb dL_does_95 (by decide) ?_
  refine lv_icmp_ne (tgt := 111) hx hb dL_does_97 (by decide) (fun _ => ?_) (fun z => False.elim (by first | exact absurd z (by decide) | exact absurd (by decide) z))
  refine lv_iload_n hx hb dL_does_111 rfl (lv_at hl 1 rfl) ?_
  refine lv_bipush (v := 8) hx hb dL_does_112 (by decide) ?_
  refine lv_icmp_ne (tgt := 128) hx hb dL_does_114 (by decide) (fun _ => ?_) (fun z => False.elim (by first | exact absurd z (by decide) | exact absurd (by decide) z))
  refine lv_iload_n hx hb dL_does_128 rfl (lv_at hl 1 rfl) ?_
  refine lv_bipush (v := 9) hx hb dL_does_129 (by decide) ?_
  refine lv_icmp_ne (tgt := 143) hx hb dL_does_131 (by decide) (fun _ => ?_) (fun z => False.elim (by first | exact absurd z (by decide) | exact absurd (by decide) z))
  refine lv_iload_n hx hb dL_does_143 rfl (lv_at hl 1 rfl) ?_
  refine lv_bipush (v := 10) hx hb dL_does_144 (by decide) ?_
  refine lv_icmp_ne (tgt := 158) hx hb dL_does_146 (by decide) (fun z => False.elim (by first | exact absurd z (by decide) | exact absurd (by decide) z)) (fun _ => ?_)
  refine lv_aload_n hx hb dL_does_149 rfl (lv_at hl 0 rfl) ?_
  refine lv_iload_n hx hb dL_does_150 rfl (lv_at hl 2 rfl) ?_
  refine lv_iload_n hx hb dL_does_151 rfl (lv_at hl 3 rfl) ?_
  refine r_VX X S (x2_X4_plan l hst D cA ad _ F i hi y h) ob_0 rfl (cwV 2 hts gL_does_X4_plan rfl rfl rfl (by decide +kernel) ⟨Nat.le_of_ble_eq_true rfl, Nat.le_of_ble_eq_true rfl⟩) rfl hl.1 rfl (Nat.le_of_ble_eq_true rfl) dL_does_152 ⟨Nat.le_of_ble_eq_true rfl, Nat.le_of_ble_eq_true rfl⟩ (fun ce q9 H locs S h1 h2 h3 => ?_)
  refine vx_catch (own := RL) (name := "java/lang/IllegalArgumentException") hown [⟨0, 176, 177, 51⟩] ⟨0, 176, 182, 54⟩ [⟨0, 176, 187, 56⟩] (htab.trans rfl) (fun z hz => by rw [List.mem_singleton.mp hz]; exact Or.inr ⟨by decide, "java/lang/IndexOutOfBoundsException", hts (.classLink RL 51 "java/lang/IndexOutOfBoundsException") (by decide +kernel), hE.2.2.2.2.2.2 "java/lang/IllegalArgumentException" (by simp [xcl]) "java/lang/IndexOutOfBoundsException" (by simp [xcl]) (by decide)⟩) rfl (by decide) (hts (.classLink RL 54 "java/lang/IllegalArgumentException") (by decide +kernel)) (va_Nw.use rfl (hE.2.2.2.2.2.1 "java/lang/IllegalArgumentException" (by simp [xcl]))) h1 h2 h3 ?_
  refine lv_astore (lv' := [(5, .ref q9), (0, .ref (ad 0)), (1, .int 10), (2, .int (nI i)), (3, .int y), (4, .int c4)]) hx hb dL_does_182 hl (by decide) rfl (fun ls hl => ?_)
  refine lv_ldc (v := -1000000001) hx hb hown (hts (.constant RL 53 (-1000000001)) (by decide +kernel)) dL_does_184 ?_
  exact r_iret X S hr dL_does_186 (Nat.le_of_ble_eq_true rfl) (Nat.le_of_ble_eq_true rfl) rfl rfl

set_option maxHeartbeats 1000000 in
set_option maxRecDepth 100000 in
theorem x3_does_plan (l : Launch) (D : va_G) (cA : Nat → ClassId) (ad : Nat → Nat) (sz : Nat) (F : FF) (hst : l.stackTraces = false) (i : Nat) (hi : i < 4) (q : Nat) (hq : q < 4) (h : balV F i ≤ 0) (c4 : Int32) : CI l D cA ad sz yL_does wsL_does 9 161 1 6 [.ref (ad 0), .int 10, .int (nI i), .int (nI (q + 1)), .int c4] F (some (.int (-1000000001))) (balF F i) := by
  refine CIW_of (own := RL) (cc := cL_does) (maxL := 6) (ret := (some .int)) (hh := [(0, 176, 177, 51), (0, 176, 182, 54), (0, 176, 187, 56)]) (by decide +kernel) rfl rfl (Nat.le_of_ble_eq_true rfl) ?_
  intro p e s m below meth c ls X S hr htab hl
  obtain ⟨⟨hx, hb, hml, hown, hts⟩, hE, hI, hlocks⟩ := id X
  have hl : lv_has ls 6 [(0, .ref (ad 0)), (1, .int 10), (2, .int (nI i)), (3, .int (nI (q + 1))), (4, .int c4)] := hl
  refine lv_iload_n hx hb dL_does_0 rfl (lv_at hl 1 rfl) ?_
  refine lv_if_ne (tgt := 24) hx hb dL_does_1 (by decide) (fun _ => ?_) (fun z => False.elim (by first | exact absurd z (by decide) | exact absurd (by decide) z))
  refine lv_iload_n hx hb dL_does_24 rfl (lv_at hl 1 rfl) ?_
  refine lv_iconst (v := 1) hx hb dL_does_25 (by decide) ?_
  refine lv_icmp_eq (tgt := 39) hx hb dL_does_26 (by decide) (fun z => False.elim (by first | exact absurd z (by decide) | exact absurd (by decide) z)) (fun _ => ?_)
  refine lv_iload_n hx hb dL_does_29 rfl (lv_at hl 1 rfl) ?_
  refine lv_iconst (v := 3) hx hb dL_does_30 (by decide) ?_
  refine lv_icmp_eq (tgt := 39) hx hb dL_does_31 (by decide) (fun z => False.elim (by first | exact absurd z (by decide) | exact absurd (by decide) z)) (fun _ => ?_)
  refine lv_iload_n hx hb dL_does_34 rfl (lv_at hl 1 rfl) ?_
  refine lv_iconst (v := 4) hx hb dL_does_35 (by decide) ?_
  refine lv_icmp_ne (tgt := 51) hx hb dL_does_36 (by decide) (fun _ => ?_) (fun z => False.elim (by first | exact absurd z (by decide) | exact absurd (by decide) z))
  refine lv_iload_n hx hb dL_does_51 rfl (lv_at hl 1 rfl) ?_
  refine lv_iconst (v := 2) hx hb dL_does_52 (by decide) ?_
  refine lv_icmp_ne (tgt := 65) hx hb dL_does_53 (by decide) (fun _ => ?_) (fun z => False.elim (by first | exact absurd z (by decide) | exact absurd (by decide) z))
  refine lv_iload_n hx hb dL_does_65 rfl (lv_at hl 1 rfl) ?_
  refine lv_iconst (v := 5) hx hb dL_does_66 (by decide) ?_
  refine lv_icmp_ne (tgt := 79) hx hb dL_does_67 (by decide) (fun _ => ?_) (fun z => False.elim (by first | exact absurd z (by decide) | exact absurd (by decide) z))
  refine lv_iload_n hx hb dL_does_79 rfl (lv_at hl 1 rfl) ?_
  refine lv_bipush (v := 6) hx hb dL_does_80 (by decide) ?_
  refine lv_icmp_ne (tgt := 94) hx hb dL_does_82 (by decide) (fun _ => ?_) (fun z => False.elim (by first | exact absurd z (by decide) | exact absurd (by decide) z))
  refine lv_iload_n hx hb dL_does_94 rfl (lv_at hl 1 rfl) ?_
  refine lv_bipush (v := 7) hx hb dL_does_95 (by decide) ?_
  refine lv_icmp_ne (tgt := 111) hx hb dL_does_97 (by decide) (fun _ => ?_) (fun z => False.elim (by first | exact absurd z (by decide) | exact absurd (by decide) z))
  refine lv_iload_n hx hb dL_does_111 rfl (lv_at hl 1 rfl) ?_
  refine lv_bipush (v := 8) hx hb dL_does_112 (by decide) ?_
  refine lv_icmp_ne (tgt := 128) hx hb dL_does_114 (by decide) (fun _ => ?_) (fun z => False.elim (by first | exact absurd z (by decide) | exact absurd (by decide) z))
  refine lv_iload_n hx hb dL_does_128 rfl (lv_at hl 1 rfl) ?_
  refine lv_bipush (v := 9) hx hb dL_does_129 (by decide) ?_
  refine lv_icmp_ne (tgt := 143) hx hb dL_does_131 (by decide) (fun _ => ?_) (fun z => False.elim (by first | exact absurd z (by decide) | exact absurd (by decide) z))
  refine lv_iload_n hx hb dL_does_143 rfl (lv_at hl 1 rfl) ?_
  refine lv_bipush (v := 10) hx hb dL_does_144 (by decide) ?_
  refine lv_icmp_ne (tgt := 158) hx hb dL_does_146 (by decide) (fun z => False.elim (by first | exact absurd z (by decide) | exact absurd (by decide) z)) (fun _ => ?_)
  refine lv_aload_n hx hb dL_does_149 rfl (lv_at hl 0 rfl) ?_
  refine lv_iload_n hx hb dL_does_150 rfl (lv_at hl 2 rfl) ?_
  refine lv_iload_n hx hb dL_does_151 rfl (lv_at hl 3 rfl) ?_
  refine r_VX X S (x3_X4_plan l hst D cA ad _ F i hi q hq h) ob_0 rfl (cwV 2 hts gL_does_X4_plan rfl rfl rfl (by decide +kernel) ⟨Nat.le_of_ble_eq_true rfl, Nat.le_of_ble_eq_true rfl⟩) rfl hl.1 rfl (Nat.le_of_ble_eq_true rfl) dL_does_152 ⟨Nat.le_of_ble_eq_true rfl, Nat.le_of_ble_eq_true rfl⟩ (fun ce q9 H locs S h1 h2 h3 => ?_)
  refine vx_catch (own := RL) (name := "java/lang/IllegalStateException") hown [⟨0, 176, 177, 51⟩, ⟨0, 176, 182, 54⟩] ⟨0, 176, 187, 56⟩ [] (htab.trans rfl) (fun z hz => by
      simp only [List.mem_cons, List.not_mem_nil, or_false] at hz
      rcases hz with rfl | rfl
      · exact Or.inr ⟨by decide, "java/lang/IndexOutOfBoundsException", hts (.classLink RL 51 "java/lang/IndexOutOfBoundsException") (by decide +kernel), hE.2.2.2.2.2.2 "java/lang/IllegalStateException" (by simp [xcl]) "java/lang/IndexOutOfBoundsException" (by simp [xcl]) (by decide)⟩
      · exact Or.inr ⟨by decide, "java/lang/IllegalArgumentException", hts (.classLink RL 54 "java/lang/IllegalArgumentException") (by decide +kernel), hE.2.2.2.2.2.2 "java/lang/IllegalStateException" (by simp [xcl]) "java/lang/IllegalArgumentException" (by simp [xcl]) (by decide)⟩) rfl (by decide) (hts (.classLink RL 56 "java/lang/IllegalStateException") (by decide +kernel)) (va_Nw.use rfl (hE.2.2.2.2.2.1 "java/lang/IllegalStateException" (by simp [xcl]))) h1 h2 h3 ?_
  obtain ⟨F_1, eF_1⟩ : ∃ z, z = balF F i := ⟨_, rfl⟩
  rw [← eF_1] at S
  refine lv_astore (lv' := [(5, .ref q9), (0, .ref (ad 0)), (1, .int 10), (2, .int (nI i)), (3, .int (nI (q + 1))), (4, .int c4)]) hx hb dL_does_187 hl (by decide) rfl (fun ls hl => ?_)
  refine lv_ldc (v := -1000000001) hx hb hown (hts (.constant RL 53 (-1000000001)) (by decide +kernel)) dL_does_189 ?_
  exact r_iret X S hr dL_does_191 (Nat.le_of_ble_eq_true rfl) (Nat.le_of_ble_eq_true rfl) rfl eF_1

set_option maxHeartbeats 1000000 in
set_option maxRecDepth 100000 in
theorem w_does_leave (l : Launch) (D : va_G) (cA : Nat → ClassId) (ad : Nat → Nat) (sz : Nat) (F : FF) (i : Nat) (hi : i < 4) (w : Nat) (hw : w < 16) (ew : F 0 7 = nI w) (b4 c4 : Int32) : CI l D cA ad sz yL_does wsL_does 9 161 1 6 [.ref (ad 0), .int 11, .int (nI i), .int b4, .int c4] F (some (.int (leB F i w))) (leF F i w) := by
  refine CIW_of (own := RL) (cc := cL_does) (maxL := 6) (ret := (some .int)) (hh := [(0, 176, 177, 51), (0, 176, 182, 54), (0, 176, 187, 56)]) (by decide +kernel) rfl rfl (Nat.le_of_ble_eq_true rfl) ?_
  intro p e s m below meth c ls X S hr htab hl
  obtain ⟨⟨hx, hb, hml, hown, hts⟩, hE, hI, hlocks⟩ := id X
  have hl : lv_has ls 6 [(0, .ref (ad 0)), (1, .int 11), (2, .int (nI i)), (3, .int b4), (4, .int c4)] := hl
  refine lv_iload_n hx hb dL_does_0 rfl (lv_at hl 1 rfl) ?_
  refine lv_if_ne (tgt := 24) hx hb dL_does_1 (by decide) (fun _ => ?_) (fun z => False.elim (by first | exact absurd z (by decide) | exact absurd (by decide) z))
  refine lv_iload_n hx hb dL_does_24 rfl (lv_at hl 1 rfl) ?_
  refine lv_iconst (v := 1) hx hb dL_does_25 (by decide) ?_
  refine lv_icmp_eq (tgt := 39) hx hb dL_does_26 (by decide) (fun z => False.elim (by first | exact absurd z (by decide) | exact absurd (by decide) z)) (fun _ => ?_)
  refine lv_iload_n hx hb dL_does_29 rfl (lv_at hl 1 rfl) ?_
  refine lv_iconst (v := 3) hx hb dL_does_30 (by decide) ?_
  refine lv_icmp_eq (tgt := 39) hx hb dL_does_31 (by decide) (fun z => False.elim (by first | exact absurd z (by decide) | exact absurd (by decide) z)) (fun _ => ?_)
  refine lv_iload_n hx hb dL_does_34 rfl (lv_at hl 1 rfl) ?_
  refine lv_iconst (v := 4) hx hb dL_does_35 (by decide) ?_
  refine lv_icmp_ne (tgt := 51) hx hb dL_does_36 (by decide) (fun _ => ?_) (fun z => False.elim (by first | exact absurd z (by decide) | exact absurd (by decide) z))
  refine lv_iload_n hx hb dL_does_51 rfl (lv_at hl 1 rfl) ?_
  refine lv_iconst (v := 2) hx hb dL_does_52 (by decide) ?_
  refine lv_icmp_ne (tgt := 65) hx hb dL_does_53 (by decide) (fun _ => ?_) (fun z => False.elim (by first | exact absurd z (by decide) | exact absurd (by decide) z))
  refine lv_iload_n hx hb dL_does_65 rfl (lv_at hl 1 rfl) ?_
  refine lv_iconst (v := 5) hx hb dL_does_66 (by decide) ?_
  refine lv_icmp_ne (tgt := 79) hx hb dL_does_67 (by decide) (fun _ => ?_) (fun z => False.elim (by first | exact absurd z (by decide) | exact absurd (by decide) z))
  refine lv_iload_n hx hb dL_does_79 rfl (lv_at hl 1 rfl) ?_
  refine lv_bipush (v := 6) hx hb dL_does_80 (by decide) ?_
  refine lv_icmp_ne (tgt := 94) hx hb dL_does_82 (by decide) (fun _ => ?_) (fun z => False.elim (by first | exact absurd z (by decide) | exact absurd (by decide) z))
  refine lv_iload_n hx hb dL_does_94 rfl (lv_at hl 1 rfl) ?_
  refine lv_bipush (v := 7) hx hb dL_does_95 (by decide) ?_
  refine lv_icmp_ne (tgt := 111) hx hb dL_does_97 (by decide) (fun _ => ?_) (fun z => False.elim (by first | exact absurd z (by decide) | exact absurd (by decide) z))
  refine lv_iload_n hx hb dL_does_111 rfl (lv_at hl 1 rfl) ?_
  refine lv_bipush (v := 8) hx hb dL_does_112 (by decide) ?_
  refine lv_icmp_ne (tgt := 128) hx hb dL_does_114 (by decide) (fun _ => ?_) (fun z => False.elim (by first | exact absurd z (by decide) | exact absurd (by decide) z))
  refine lv_iload_n hx hb dL_does_128 rfl (lv_at hl 1 rfl) ?_
  refine lv_bipush (v := 9) hx hb dL_does_129 (by decide) ?_
  refine lv_icmp_ne (tgt := 143) hx hb dL_does_131 (by decide) (fun _ => ?_) (fun z => False.elim (by first | exact absurd z (by decide) | exact absurd (by decide) z))
  refine lv_iload_n hx hb dL_does_143 rfl (lv_at hl 1 rfl) ?_
  refine lv_bipush (v := 10) hx hb dL_does_144 (by decide) ?_
  refine lv_icmp_ne (tgt := 158) hx hb dL_does_146 (by decide) (fun _ => ?_) (fun z => False.elim (by first | exact absurd z (by decide) | exact absurd (by decide) z))
  refine lv_iload_n hx hb dL_does_158 rfl (lv_at hl 1 rfl) ?_
  refine lv_bipush (v := 11) hx hb dL_does_159 (by decide) ?_
  refine lv_icmp_ne (tgt := 172) hx hb dL_does_161 (by decide) (fun z => False.elim (by first | exact absurd z (by decide) | exact absurd (by decide) z)) (fun _ => ?_)
  refine lv_aload_n hx hb dL_does_164 rfl (lv_at hl 0 rfl) ?_
  refine lv_iload_n hx hb dL_does_165 rfl (lv_at hl 2 rfl) ?_
  refine r_V0 X S (c_X4_leave l D cA ad _ F i hi w hw ew) ob_0 rfl (cwV 1 hts gL_does_X4_leave rfl rfl rfl (by decide +kernel) ⟨Nat.le_of_ble_eq_true rfl, Nat.le_of_ble_eq_true rfl⟩) rfl hl.1 rfl (Nat.le_of_ble_eq_true rfl) dL_does_166 ⟨Nat.zero_le _, Nat.zero_le _⟩ (fun H locs S => ?_)
  obtain ⟨F_1, eF_1⟩ : ∃ z, z = leF F i w := ⟨_, rfl⟩
  rw [← eF_1] at S
  refine lv_goto (tgt := 176) hx hb dL_does_169 (by decide) ?_
  exact r_iret X S hr dL_does_176 (Nat.le_of_ble_eq_true rfl) (Nat.le_of_ble_eq_true rfl) rfl (by rw [eF_1])

set_option maxHeartbeats 1000000 in
set_option maxRecDepth 100000 in
theorem x1_does_leave (l : Launch) (D : va_G) (cA : Nat → ClassId) (ad : Nat → Nat) (sz : Nat) (F : FF) (hst : l.stackTraces = false) (x : Int32) (h : wi x 0 3 = false) (b4 c4 : Int32) : CI l D cA ad sz yL_does wsL_does 9 161 1 6 [.ref (ad 0), .int 11, .int x, .int b4, .int c4] F (some (.int (-1000000001))) F := by
  refine CIW_of (own := RL) (cc := cL_does) (maxL := 6) (ret := (some .int)) (hh := [(0, 176, 177, 51), (0, 176, 182, 54), (0, 176, 187, 56)]) (by decide +kernel) rfl rfl (Nat.le_of_ble_eq_true rfl) ?_
  intro p e s m below meth c ls X S hr htab hl
  obtain ⟨⟨hx, hb, hml, hown, hts⟩, hE, hI, hlocks⟩ := id X
  have hl : lv_has ls 6 [(0, .ref (ad 0)), (1, .int 11), (2, .int x), (3, .int b4), (4, .int c4)] := hl
  refine lv_iload_n hx hb dL_does_0 rfl (lv_at hl 1 rfl) ?_
  refine lv_if_ne (tgt := 24) hx hb dL_does_1 (by decide) (fun _ => ?_) (fun z => False.elim (by first | exact absurd z (by decide) | exact absurd (by decide) z))
  refine lv_iload_n hx hb dL_does_24 rfl (lv_at hl 1 rfl) ?_
  refine lv_iconst (v := 1) hx hb dL_does_25 (by decide) ?_
  refine lv_icmp_eq (tgt := 39) hx hb dL_does_26 (by decide) (fun z => False.elim (by first | exact absurd z (by decide) | exact absurd (by decide) z)) (fun _ => ?_)
  refine lv_iload_n hx hb dL_does_29 rfl (lv_at hl 1 rfl) ?_
  refine lv_iconst (v := 3) hx hb dL_does_30 (by decide) ?_
  refine lv_icmp_eq (tgt := 39) hx hb dL_does_31 (by decide) (fun z => False.elim (by first | exact absurd z (by decide) | exact absurd (by decide) z)) (fun _ => ?_)
  refine lv_iload_n hx hb dL_does_34 rfl (lv_at hl 1 rfl) ?_
  refine lv_iconst (v := 4) hx hb dL_does_35 (by decide) ?_
  refine lv_icmp_ne (tgt := 51) hx hb dL_does_36 (by decide) (fun _ => ?_) (fun z => False.elim (by first | exact absurd z (by decide) | exact absurd (by decide) z))
  refine lv_iload_n hx hb dL_does_51 rfl (lv_at hl 1 rfl) ?_
  refine lv_iconst (v := 2) hx hb dL_does_52 (by decide) ?_
  refine lv_icmp_ne (tgt := 65) hx hb dL_does_53 (by decide) (fun _ => ?_) (fun z => False.elim (by first | exact absurd z (by decide) | exact absurd (by decide) z))
  refine lv_iload_n hx hb dL_does_65 rfl (lv_at hl 1 rfl) ?_
  refine lv_iconst (v := 5) hx hb dL_does_66 (by decide) ?_
  refine lv_icmp_ne (tgt := 79) hx hb dL_does_67 (by decide) (fun _ => ?_) (fun z => False.elim (by first | exact absurd z (by decide) | exact absurd (by decide) z))
  refine lv_iload_n hx hb dL_does_79 rfl (lv_at hl 1 rfl) ?_
  refine lv_bipush (v := 6) hx hb dL_does_80 (by decide) ?_
  refine lv_icmp_ne (tgt := 94) hx hb dL_does_82 (by decide) (fun _ => ?_) (fun z => False.elim (by first | exact absurd z (by decide) | exact absurd (by decide) z))
  refine lv_iload_n hx hb dL_does_94 rfl (lv_at hl 1 rfl) ?_
  refine lv_bipush (v := 7) hx hb dL_does_95 (by decide) ?_
  refine lv_icmp_ne (tgt := 111) hx hb dL_does_97 (by decide) (fun _ => ?_) (fun z => False.elim (by first | exact absurd z (by decide) | exact absurd (by decide) z))
  refine lv_iload_n hx hb dL_does_111 rfl (lv_at hl 1 rfl) ?_
  refine lv_bipush (v := 8) hx hb dL_does_112 (by decide) ?_
  refine lv_icmp_ne (tgt := 128) hx hb dL_does_114 (by decide) (fun _ => ?_) (fun z => False.elim (by first | exact absurd z (by decide) | exact absurd (by decide) z))
  refine lv_iload_n hx hb dL_does_128 rfl (lv_at hl 1 rfl) ?_
  refine lv_bipush (v := 9) hx hb dL_does_129 (by decide) ?_
  refine lv_icmp_ne (tgt := 143) hx hb dL_does_131 (by decide) (fun _ => ?_) (fun z => False.elim (by first | exact absurd z (by decide) | exact absurd (by decide) z))
  refine lv_iload_n hx hb dL_does_143 rfl (lv_at hl 1 rfl) ?_
  refine lv_bipush (v := 10) hx hb dL_does_144 (by decide) ?_
  refine lv_icmp_ne (tgt := 158) hx hb dL_does_146 (by decide) (fun _ => ?_) (fun z => False.elim (by first | exact absurd z (by decide) | exact absurd (by decide) z))
  refine lv_iload_n hx hb dL_does_158 rfl (lv_at hl 1 rfl) ?_
  refine lv_bipush (v := 11) hx hb dL_does_159 (by decide) ?_
  refine lv_icmp_ne (tgt := 172) hx hb dL_does_161 (by decide) (fun z => False.elim (by first | exact absurd z (by decide) | exact absurd (by decide) z)) (fun _ => ?_)
  refine lv_aload_n hx hb dL_does_164 rfl (lv_at hl 0 rfl) ?_
  refine lv_iload_n hx hb dL_does_165 rfl (lv_at hl 2 rfl) ?_
  refine r_VX X S (x1_X4_leave l hst D cA ad _ F x h) ob_0 rfl (cwV 1 hts gL_does_X4_leave rfl rfl rfl (by decide +kernel) ⟨Nat.le_of_ble_eq_true rfl, Nat.le_of_ble_eq_true rfl⟩) rfl hl.1 rfl (Nat.le_of_ble_eq_true rfl) dL_does_166 ⟨Nat.le_of_ble_eq_true rfl, Nat.le_of_ble_eq_true rfl⟩ (fun ce q9 H locs S h1 h2 h3 => ?_)
  refine vx_catch (own := RL) (name := "java/lang/IndexOutOfBoundsException") hown [] ⟨0, 176, 177, 51⟩ [⟨0, 176, 182, 54⟩, ⟨0, 176, 187, 56⟩] (htab.trans rfl) (fun z hz => nomatch hz) rfl (by decide) (hts (.classLink RL 51 "java/lang/IndexOutOfBoundsException") (by decide +kernel)) (va_Nw.use rfl (hE.2.2.2.2.2.1 "java/lang/IndexOutOfBoundsException" (by simp [xcl]))) h1 h2 h3 ?_
  refine lv_astore (lv' := [(5, .ref q9), (0, .ref (ad 0)), (1, .int 11), (2, .int x), (3, .int b4), (4, .int c4)]) hx hb dL_does_177 hl (by decide) rfl (fun ls hl => ?_)
  refine lv_ldc (v := -1000000001) hx hb hown (hts (.constant RL 53 (-1000000001)) (by decide +kernel)) dL_does_179 ?_
  exact r_iret X S hr dL_does_181 (Nat.le_of_ble_eq_true rfl) (Nat.le_of_ble_eq_true rfl) rfl rfl

set_option maxHeartbeats 1000000 in
set_option maxRecDepth 100000 in
theorem w_does_closeWeek1 (l : Launch) (D : va_G) (cA : Nat → ClassId) (ad : Nat → Nat) (sz : Nat) (F : FF) (h : F 0 7 < 15) (w4 : Int32) (n0 : ¬ w4 = 0) (n1 : ¬ w4 = 1) (n3 : ¬ w4 = 3) (n4 : ¬ w4 = 4) (n2 : ¬ w4 = 2) (n5 : ¬ w4 = 5) (n6 : ¬ w4 = 6) (n7 : ¬ w4 = 7) (n8 : ¬ w4 = 8) (n9 : ¬ w4 = 9) (n10 : ¬ w4 = 10) (n11 : ¬ w4 = 11) (a4 b4 c4 : Int32) : CI l D cA ad sz yL_does wsL_does 9 161 1 6 [.ref (ad 0), .int w4, .int a4, .int b4, .int c4] F (some (.int (clA (cw1 F) 4 0 7))) (clA (cw1 F) 4) := by
  refine CIW_of (own := RL) (cc := cL_does) (maxL := 6) (ret := (some .int)) (hh := [(0, 176, 177, 51), (0, 176, 182, 54), (0, 176, 187, 56)]) (by decide +kernel) rfl rfl (Nat.le_of_ble_eq_true rfl) ?_
  intro p e s m below meth c ls X S hr htab hl
  obtain ⟨⟨hx, hb, hml, hown, hts⟩, hE, hI, hlocks⟩ := id X
  have hl : lv_has ls 6 [(0, .ref (ad 0)), (1, .int w4), (2, .int a4), (3, .int b4), (4, .int c4)] := hl
  refine lv_iload_n hx hb dL_does_0 rfl (lv_at hl 1 rfl) ?_
  refine lv_if_ne (tgt := 24) hx hb dL_does_1 (by decide) (fun _ => ?_) (fun z => False.elim (n0 z))
  refine lv_iload_n hx hb dL_does_24 rfl (lv_at hl 1 rfl) ?_
  refine lv_iconst (v := 1) hx hb dL_does_25 (by decide) ?_
  refine lv_icmp_eq (tgt := 39) hx hb dL_does_26 (by decide) (fun z => False.elim (n1 z)) (fun _ => ?_)
  refine lv_iload_n hx hb dL_does_29 rfl (lv_at hl 1 rfl) ?_
  refine lv_iconst (v := 3) hx hb dL_does_30 (by decide) ?_
  refine lv_icmp_eq (tgt := 39) hx hb dL_does_31 (by decide) (fun z => False.elim (n3 z)) (fun _ => ?_)
  refine lv_iload_n hx hb dL_does_34 rfl (lv_at hl 1 rfl) ?_
  refine lv_iconst (v := 4) hx hb dL_does_35 (by decide) ?_
  refine lv_icmp_ne (tgt := 51) hx hb dL_does_36 (by decide) (fun _ => ?_) (fun z => False.elim (n4 z))
  refine lv_iload_n hx hb dL_does_51 rfl (lv_at hl 1 rfl) ?_
  refine lv_iconst (v := 2) hx hb dL_does_52 (by decide) ?_
  refine lv_icmp_ne (tgt := 65) hx hb dL_does_53 (by decide) (fun _ => ?_) (fun z => False.elim (n2 z))
  refine lv_iload_n hx hb dL_does_65 rfl (lv_at hl 1 rfl) ?_
  refine lv_iconst (v := 5) hx hb dL_does_66 (by decide) ?_
  refine lv_icmp_ne (tgt := 79) hx hb dL_does_67 (by decide) (fun _ => ?_) (fun z => False.elim (n5 z))
  refine lv_iload_n hx hb dL_does_79 rfl (lv_at hl 1 rfl) ?_
  refine lv_bipush (v := 6) hx hb dL_does_80 (by decide) ?_
  refine lv_icmp_ne (tgt := 94) hx hb dL_does_82 (by decide) (fun _ => ?_) (fun z => False.elim (n6 z))
  refine lv_iload_n hx hb dL_does_94 rfl (lv_at hl 1 rfl) ?_
  refine lv_bipush (v := 7) hx hb dL_does_95 (by decide) ?_
  refine lv_icmp_ne (tgt := 111) hx hb dL_does_97 (by decide) (fun _ => ?_) (fun z => False.elim (n7 z))
  refine lv_iload_n hx hb dL_does_111 rfl (lv_at hl 1 rfl) ?_
  refine lv_bipush (v := 8) hx hb dL_does_112 (by decide) ?_
  refine lv_icmp_ne (tgt := 128) hx hb dL_does_114 (by decide) (fun _ => ?_) (fun z => False.elim (n8 z))
  refine lv_iload_n hx hb dL_does_128 rfl (lv_at hl 1 rfl) ?_
  refine lv_bipush (v := 9) hx hb dL_does_129 (by decide) ?_
  refine lv_icmp_ne (tgt := 143) hx hb dL_does_131 (by decide) (fun _ => ?_) (fun z => False.elim (n9 z))
  refine lv_iload_n hx hb dL_does_143 rfl (lv_at hl 1 rfl) ?_
  refine lv_bipush (v := 10) hx hb dL_does_144 (by decide) ?_
  refine lv_icmp_ne (tgt := 158) hx hb dL_does_146 (by decide) (fun _ => ?_) (fun z => False.elim (n10 z))
  refine lv_iload_n hx hb dL_does_158 rfl (lv_at hl 1 rfl) ?_
  refine lv_bipush (v := 11) hx hb dL_does_159 (by decide) ?_
  refine lv_icmp_ne (tgt := 172) hx hb dL_does_161 (by decide) (fun _ => ?_) (fun z => False.elim (n11 z))
  refine lv_aload_n hx hb dL_does_172 rfl (lv_at hl 0 rfl) ?_
  refine r_V0 X S (c_X4_closeWeek1 l D cA ad _ F h) ob_0 rfl (cwV 0 hts gL_does_X4_closeWeek rfl rfl rfl (by decide +kernel) ⟨Nat.le_of_ble_eq_true rfl, Nat.le_of_ble_eq_true rfl⟩) rfl hl.1 rfl (Nat.le_of_ble_eq_true rfl) dL_does_173 ⟨Nat.zero_le _, Nat.zero_le _⟩ (fun H locs S => ?_)
  obtain ⟨F_1, eF_1⟩ : ∃ z, z = clA (cw1 F) 4 := ⟨_, rfl⟩
  rw [← eF_1] at S
  exact r_iret X S hr dL_does_176 (Nat.le_of_ble_eq_true rfl) (Nat.le_of_ble_eq_true rfl) rfl (by rw [eF_1])

set_option maxHeartbeats 1000000 in
set_option maxRecDepth 100000 in
theorem w_does_closeWeek2 (l : Launch) (D : va_G) (cA : Nat → ClassId) (ad : Nat → Nat) (sz : Nat) (F : FF) (h1 : ¬ F 0 7 < 15) (h2 : F 0 8 < 9) (w4 : Int32) (n0 : ¬ w4 = 0) (n1 : ¬ w4 = 1) (n3 : ¬ w4 = 3) (n4 : ¬ w4 = 4) (n2 : ¬ w4 = 2) (n5 : ¬ w4 = 5) (n6 : ¬ w4 = 6) (n7 : ¬ w4 = 7) (n8 : ¬ w4 = 8) (n9 : ¬ w4 = 9) (n10 : ¬ w4 = 10) (n11 : ¬ w4 = 11) (a4 b4 c4 : Int32) : CI l D cA ad sz yL_does wsL_does 9 161 1 6 [.ref (ad 0), .int w4, .int a4, .int b4, .int c4] F (some (.int (clA (cw2 F) 4 0 7))) (clA (cw2 F) 4) := by
  refine CIW_of (own := RL) (cc := cL_does) (maxL := 6) (ret := (some .int)) (hh := [(0, 176, 177, 51), (0, 176, 182, 54), (0, 176, 187, 56)]) (by decide +kernel) rfl rfl (Nat.le_of_ble_eq_true rfl) ?_
  intro p e s m below meth c ls X S hr htab hl
  obtain ⟨⟨hx, hb, hml, hown, hts⟩, hE, hI, hlocks⟩ := id X
  have hl : lv_has ls 6 [(0, .ref (ad 0)), (1, .int w4), (2, .int a4), (3, .int b4), (4, .int c4)] := hl
  refine lv_iload_n hx hb dL_does_0 rfl (lv_at hl 1 rfl) ?_
  refine lv_if_ne (tgt := 24) hx hb dL_does_1 (by decide) (fun _ => ?_) (fun z => False.elim (n0 z))
  refine lv_iload_n hx hb dL_does_24 rfl (lv_at hl 1 rfl) ?_
  refine lv_iconst (v := 1) hx hb dL_does_25 (by decide) ?_
  refine lv_icmp_eq (tgt := 39) hx hb dL_does_26 (by decide) (fun z => False.elim (n1 z)) (fun _ => ?_)
  refine lv_iload_n hx hb dL_does_29 rfl (lv_at hl 1 rfl) ?_
  refine lv_iconst (v := 3) hx hb dL_does_30 (by decide) ?_
  refine lv_icmp_eq (tgt := 39) hx hb dL_does_31 (by decide) (fun z => False.elim (n3 z)) (fun _ => ?_)
  refine lv_iload_n hx hb dL_does_34 rfl (lv_at hl 1 rfl) ?_
  refine lv_iconst (v := 4) hx hb dL_does_35 (by decide) ?_
  refine lv_icmp_ne (tgt := 51) hx hb dL_does_36 (by decide) (fun _ => ?_) (fun z => False.elim (n4 z))
  refine lv_iload_n hx hb dL_does_51 rfl (lv_at hl 1 rfl) ?_
  refine lv_iconst (v := 2) hx hb dL_does_52 (by decide) ?_
  refine lv_icmp_ne (tgt := 65) hx hb dL_does_53 (by decide) (fun _ => ?_) (fun z => False.elim (n2 z))
  refine lv_iload_n hx hb dL_does_65 rfl (lv_at hl 1 rfl) ?_
  refine lv_iconst (v := 5) hx hb dL_does_66 (by decide) ?_
  refine lv_icmp_ne (tgt := 79) hx hb dL_does_67 (by decide) (fun _ => ?_) (fun z => False.elim (n5 z))
  refine lv_iload_n hx hb dL_does_79 rfl (lv_at hl 1 rfl) ?_
  refine lv_bipush (v := 6) hx hb dL_does_80 (by decide) ?_
  refine lv_icmp_ne (tgt := 94) hx hb dL_does_82 (by decide) (fun _ => ?_) (fun z => False.elim (n6 z))
  refine lv_iload_n hx hb dL_does_94 rfl (lv_at hl 1 rfl) ?_
  refine lv_bipush (v := 7) hx hb dL_does_95 (by decide) ?_
  refine lv_icmp_ne (tgt := 111) hx hb dL_does_97 (by decide) (fun _ => ?_) (fun z => False.elim (n7 z))
  refine lv_iload_n hx hb dL_does_111 rfl (lv_at hl 1 rfl) ?_
  refine lv_bipush (v := 8) hx hb dL_does_112 (by decide) ?_
  refine lv_icmp_ne (tgt := 128) hx hb dL_does_114 (by decide) (fun _ => ?_) (fun z => False.elim (n8 z))
  refine lv_iload_n hx hb dL_does_128 rfl (lv_at hl 1 rfl) ?_
  refine lv_bipush (v := 9) hx hb dL_does_129 (by decide) ?_
  refine lv_icmp_ne (tgt := 143) hx hb dL_does_131 (by decide) (fun _ => ?_) (fun z => False.elim (n9 z))
  refine lv_iload_n hx hb dL_does_143 rfl (lv_at hl 1 rfl) ?_
  refine lv_bipush (v := 10) hx hb dL_does_144 (by decide) ?_
  refine lv_icmp_ne (tgt := 158) hx hb dL_does_146 (by decide) (fun _ => ?_) (fun z => False.elim (n10 z))
  refine lv_iload_n hx hb dL_does_158 rfl (lv_at hl 1 rfl) ?_
  refine lv_bipush (v := 11) hx hb dL_does_159 (by decide) ?_
  refine lv_icmp_ne (tgt := 172) hx hb dL_does_161 (by decide) (fun _ => ?_) (fun z => False.elim (n11 z))
  refine lv_aload_n hx hb dL_does_172 rfl (lv_at hl 0 rfl) ?_
  refine r_V0 X S (c_X4_closeWeek2 l D cA ad _ F h1 h2) ob_0 rfl (cwV 0 hts gL_does_X4_closeWeek rfl rfl rfl (by decide +kernel) ⟨Nat.le_of_ble_eq_true rfl, Nat.le_of_ble_eq_true rfl⟩) rfl hl.1 rfl (Nat.le_of_ble_eq_true rfl) dL_does_173 ⟨Nat.zero_le _, Nat.zero_le _⟩ (fun H locs S => ?_)
  obtain ⟨F_1, eF_1⟩ : ∃ z, z = clA (cw2 F) 4 := ⟨_, rfl⟩
  rw [← eF_1] at S
  exact r_iret X S hr dL_does_176 (Nat.le_of_ble_eq_true rfl) (Nat.le_of_ble_eq_true rfl) rfl (by rw [eF_1])

set_option maxHeartbeats 1000000 in
set_option maxRecDepth 100000 in
theorem x1_does_closeWeek (l : Launch) (D : va_G) (cA : Nat → ClassId) (ad : Nat → Nat) (sz : Nat) (F : FF) (hst : l.stackTraces = false) (h1 : ¬ F 0 7 < 15) (h2 : ¬ F 0 8 < 9) (w4 : Int32) (n0 : ¬ w4 = 0) (n1 : ¬ w4 = 1) (n3 : ¬ w4 = 3) (n4 : ¬ w4 = 4) (n2 : ¬ w4 = 2) (n5 : ¬ w4 = 5) (n6 : ¬ w4 = 6) (n7 : ¬ w4 = 7) (n8 : ¬ w4 = 8) (n9 : ¬ w4 = 9) (n10 : ¬ w4 = 10) (n11 : ¬ w4 = 11) (a4 b4 c4 : Int32) : CI l D cA ad sz yL_does wsL_does 9 161 1 6 [.ref (ad 0), .int w4, .int a4, .int b4, .int c4] F (some (.int (-1000000001))) F := by
  refine CIW_of (own := RL) (cc := cL_does) (maxL := 6) (ret := (some .int)) (hh := [(0, 176, 177, 51), (0, 176, 182, 54), (0, 176, 187, 56)]) (by decide +kernel) rfl rfl (Nat.le_of_ble_eq_true rfl) ?_
  intro p e s m below meth c ls X S hr htab hl
  obtain ⟨⟨hx, hb, hml, hown, hts⟩, hE, hI, hlocks⟩ := id X
  have hl : lv_has ls 6 [(0, .ref (ad 0)), (1, .int w4), (2, .int a4), (3, .int b4), (4, .int c4)] := hl
  refine lv_iload_n hx hb dL_does_0 rfl (lv_at hl 1 rfl) ?_
  refine lv_if_ne (tgt := 24) hx hb dL_does_1 (by decide) (fun _ => ?_) (fun z => False.elim (n0 z))
  refine lv_iload_n hx hb dL_does_24 rfl (lv_at hl 1 rfl) ?_
  refine lv_iconst (v := 1) hx hb dL_does_25 (by decide) ?_
  refine lv_icmp_eq (tgt := 39) hx hb dL_does_26 (by decide) (fun z => False.elim (n1 z)) (fun _ => ?_)
  refine lv_iload_n hx hb dL_does_29 rfl (lv_at hl 1 rfl) ?_
  refine lv_iconst (v := 3) hx hb dL_does_30 (by decide) ?_
  refine lv_icmp_eq (tgt := 39) hx hb dL_does_31 (by decide) (fun z => False.elim (n3 z)) (fun _ => ?_)
  refine lv_iload_n hx hb dL_does_34 rfl (lv_at hl 1 rfl) ?_
  refine lv_iconst (v := 4) hx hb dL_does_35 (by decide) ?_
  refine lv_icmp_ne (tgt := 51) hx hb dL_does_36 (by decide) (fun _ => ?_) (fun z => False.elim (n4 z))
  refine lv_iload_n hx hb dL_does_51 rfl (lv_at hl 1 rfl) ?_
  refine lv_iconst (v := 2) hx hb dL_does_52 (by decide) ?_
  refine lv_icmp_ne (tgt := 65) hx hb dL_does_53 (by decide) (fun _ => ?_) (fun z => False.elim (n2 z))
  refine lv_iload_n hx hb dL_does_65 rfl (lv_at hl 1 rfl) ?_
  refine lv_iconst (v := 5) hx hb dL_does_66 (by decide) ?_
  refine lv_icmp_ne (tgt := 79) hx hb dL_does_67 (by decide) (fun _ => ?_) (fun z => False.elim (n5 z))
  refine lv_iload_n hx hb dL_does_79 rfl (lv_at hl 1 rfl) ?_
  refine lv_bipush (v := 6) hx hb dL_does_80 (by decide) ?_
  refine lv_icmp_ne (tgt := 94) hx hb dL_does_82 (by decide) (fun _ => ?_) (fun z => False.elim (n6 z))
  refine lv_iload_n hx hb dL_does_94 rfl (lv_at hl 1 rfl) ?_
  refine lv_bipush (v := 7) hx hb dL_does_95 (by decide) ?_
  refine lv_icmp_ne (tgt := 111) hx hb dL_does_97 (by decide) (fun _ => ?_) (fun z => False.elim (n7 z))
  refine lv_iload_n hx hb dL_does_111 rfl (lv_at hl 1 rfl) ?_
  refine lv_bipush (v := 8) hx hb dL_does_112 (by decide) ?_
  refine lv_icmp_ne (tgt := 128) hx hb dL_does_114 (by decide) (fun _ => ?_) (fun z => False.elim (n8 z))
  refine lv_iload_n hx hb dL_does_128 rfl (lv_at hl 1 rfl) ?_
  refine lv_bipush (v := 9) hx hb dL_does_129 (by decide) ?_
  refine lv_icmp_ne (tgt := 143) hx hb dL_does_131 (by decide) (fun _ => ?_) (fun z => False.elim (n9 z))
  refine lv_iload_n hx hb dL_does_143 rfl (lv_at hl 1 rfl) ?_
  refine lv_bipush (v := 10) hx hb dL_does_144 (by decide) ?_
  refine lv_icmp_ne (tgt := 158) hx hb dL_does_146 (by decide) (fun _ => ?_) (fun z => False.elim (n10 z))
  refine lv_iload_n hx hb dL_does_158 rfl (lv_at hl 1 rfl) ?_
  refine lv_bipush (v := 11) hx hb dL_does_159 (by decide) ?_
  refine lv_icmp_ne (tgt := 172) hx hb dL_does_161 (by decide) (fun _ => ?_) (fun z => False.elim (n11 z))
  refine lv_aload_n hx hb dL_does_172 rfl (lv_at hl 0 rfl) ?_
  refine r_VX X S (x1_X4_closeWeek l hst D cA ad _ F h1 h2) ob_0 rfl (cwV 0 hts gL_does_X4_closeWeek rfl rfl rfl (by decide +kernel) ⟨Nat.le_of_ble_eq_true rfl, Nat.le_of_ble_eq_true rfl⟩) rfl hl.1 rfl (Nat.le_of_ble_eq_true rfl) dL_does_173 ⟨Nat.le_of_ble_eq_true rfl, Nat.le_of_ble_eq_true rfl⟩ (fun ce q9 H locs S h1 h2 h3 => ?_)
  refine vx_catch (own := RL) (name := "java/lang/IllegalStateException") hown [⟨0, 176, 177, 51⟩, ⟨0, 176, 182, 54⟩] ⟨0, 176, 187, 56⟩ [] (htab.trans rfl) (fun z hz => by
      simp only [List.mem_cons, List.not_mem_nil, or_false] at hz
      rcases hz with rfl | rfl
      · exact Or.inr ⟨by decide, "java/lang/IndexOutOfBoundsException", hts (.classLink RL 51 "java/lang/IndexOutOfBoundsException") (by decide +kernel), hE.2.2.2.2.2.2 "java/lang/IllegalStateException" (by simp [xcl]) "java/lang/IndexOutOfBoundsException" (by simp [xcl]) (by decide)⟩
      · exact Or.inr ⟨by decide, "java/lang/IllegalArgumentException", hts (.classLink RL 54 "java/lang/IllegalArgumentException") (by decide +kernel), hE.2.2.2.2.2.2 "java/lang/IllegalStateException" (by simp [xcl]) "java/lang/IllegalArgumentException" (by simp [xcl]) (by decide)⟩) rfl (by decide) (hts (.classLink RL 56 "java/lang/IllegalStateException") (by decide +kernel)) (va_Nw.use rfl (hE.2.2.2.2.2.1 "java/lang/IllegalStateException" (by simp [xcl]))) h1 h2 h3 ?_
  refine lv_astore (lv' := [(5, .ref q9), (0, .ref (ad 0)), (1, .int w4), (2, .int a4), (3, .int b4), (4, .int c4)]) hx hb dL_does_187 hl (by decide) rfl (fun ls hl => ?_)
  refine lv_ldc (v := -1000000001) hx hb hown (hts (.constant RL 53 (-1000000001)) (by decide +kernel)) dL_does_189 ?_
  exact r_iret X S hr dL_does_191 (Nat.le_of_ble_eq_true rfl) (Nat.le_of_ble_eq_true rfl) rfl rfl

set_option maxHeartbeats 1000000 in
set_option maxRecDepth 100000 in
theorem w_does_setBand (l : Launch) (D : va_G) (cA : Nat → ClassId) (ad : Nat → Nat) (sz : Nat) (F : FF) (fr tt : Int32) (h1 : wi fr 1 30 = true) (h2 : wi tt fr 30 = true) (c4 : Int32) : CI l D cA ad sz yL_does wsL_does 9 161 1 6 [.ref (ad 0), .int 1, .int fr, .int tt, .int c4] F (some (.int 0)) (u2 (u2 F 0 3 fr) 0 4 tt) := by
  refine CIW_of (own := RL) (cc := cL_does) (maxL := 6) (ret := (some .int)) (hh := [(0, 176, 177, 51), (0, 176, 182, 54), (0, 176, 187, 56)]) (by decide +kernel) rfl rfl (Nat.le_of_ble_eq_true rfl) ?_
  intro p e s m below meth c ls X S hr htab hl
  obtain ⟨⟨hx, hb, hml, hown, hts⟩, hE, hI, hlocks⟩ := id X
  have hl : lv_has ls 6 [(0, .ref (ad 0)), (1, .int 1), (2, .int fr), (3, .int tt), (4, .int c4)] := hl
  refine lv_iload_n hx hb dL_does_0 rfl (lv_at hl 1 rfl) ?_
  refine lv_if_ne (tgt := 24) hx hb dL_does_1 (by decide) (fun _ => ?_) (fun z => False.elim (by first | exact absurd z (by decide) | exact absurd (by decide) z))
  refine lv_iload_n hx hb dL_does_24 rfl (lv_at hl 1 rfl) ?_
  refine lv_iconst (v := 1) hx hb dL_does_25 (by decide) ?_
  refine lv_icmp_eq (tgt := 39) hx hb dL_does_26 (by decide) (fun _ => ?_) (fun z => False.elim (by first | exact absurd z (by decide) | exact absurd (by decide) z))
  refine lv_aload_n hx hb dL_does_39 rfl (lv_at hl 0 rfl) ?_
  refine lv_iload_n hx hb dL_does_40 rfl (lv_at hl 1 rfl) ?_
  refine lv_iload_n hx hb dL_does_41 rfl (lv_at hl 2 rfl) ?_
  refine lv_iload_n hx hb dL_does_42 rfl (lv_at hl 3 rfl) ?_
  refine lv_iload hx hb dL_does_43 (lv_at hl 4 rfl) ?_
  refine r_S0 X S (w_sets_setBand l D cA ad _ F fr tt h1 h2 c4) (va_cwS 5 hts gL_does_L_sets rfl rfl rfl (by decide +kernel) ⟨Nat.le_of_ble_eq_true rfl, Nat.le_of_ble_eq_true rfl⟩) rfl hl.1 rfl (Nat.le_of_ble_eq_true rfl) dL_does_45 ⟨Nat.zero_le _, Nat.zero_le _⟩ (fun H locs S => ?_)
  obtain ⟨F_1, eF_1⟩ : ∃ z, z = u2 (u2 F 0 3 fr) 0 4 tt := ⟨_, rfl⟩
  rw [← eF_1] at S
  refine lv_goto (tgt := 176) hx hb dL_does_48 (by decide) ?_
  exact r_iret X S hr dL_does_176 (Nat.le_of_ble_eq_true rfl) (Nat.le_of_ble_eq_true rfl) rfl (by rw [eF_1])

set_option maxHeartbeats 1000000 in
set_option maxRecDepth 100000 in
theorem x1_does_setBand (l : Launch) (D : va_G) (cA : Nat → ClassId) (ad : Nat → Nat) (sz : Nat) (F : FF) (hst : l.stackTraces = false) (fr tt : Int32) (h : ¬ (wi fr 1 30 = true ∧ wi tt fr 30 = true)) (c4 : Int32) : CI l D cA ad sz yL_does wsL_does 9 161 1 6 [.ref (ad 0), .int 1, .int fr, .int tt, .int c4] F (some (.int (-1000000001))) F := by
  refine CIW_of (own := RL) (cc := cL_does) (maxL := 6) (ret := (some .int)) (hh := [(0, 176, 177, 51), (0, 176, 182, 54), (0, 176, 187, 56)]) (by decide +kernel) rfl rfl (Nat.le_of_ble_eq_true rfl) ?_
  intro p e s m below meth c ls X S hr htab hl
  obtain ⟨⟨hx, hb, hml, hown, hts⟩, hE, hI, hlocks⟩ := id X
  have hl : lv_has ls 6 [(0, .ref (ad 0)), (1, .int 1), (2, .int fr), (3, .int tt), (4, .int c4)] := hl
  refine lv_iload_n hx hb dL_does_0 rfl (lv_at hl 1 rfl) ?_
  refine lv_if_ne (tgt := 24) hx hb dL_does_1 (by decide) (fun _ => ?_) (fun z => False.elim (by first | exact absurd z (by decide) | exact absurd (by decide) z))
  refine lv_iload_n hx hb dL_does_24 rfl (lv_at hl 1 rfl) ?_
  refine lv_iconst (v := 1) hx hb dL_does_25 (by decide) ?_
  refine lv_icmp_eq (tgt := 39) hx hb dL_does_26 (by decide) (fun _ => ?_) (fun z => False.elim (by first | exact absurd z (by decide) | exact absurd (by decide) z))
  refine lv_aload_n hx hb dL_does_39 rfl (lv_at hl 0 rfl) ?_
  refine lv_iload_n hx hb dL_does_40 rfl (lv_at hl 1 rfl) ?_
  refine lv_iload_n hx hb dL_does_41 rfl (lv_at hl 2 rfl) ?_
  refine lv_iload_n hx hb dL_does_42 rfl (lv_at hl 3 rfl) ?_
  refine lv_iload hx hb dL_does_43 (lv_at hl 4 rfl) ?_
  refine r_SXt X S (x1_sets_setBand l hst D cA ad _ F fr tt h c4) (va_cwS 5 hts gL_does_L_sets rfl rfl rfl (by decide +kernel) ⟨Nat.le_of_ble_eq_true rfl, Nat.le_of_ble_eq_true rfl⟩) rfl hl.1 rfl (Nat.le_of_ble_eq_true rfl) dL_does_45 ⟨Nat.le_of_ble_eq_true rfl, Nat.le_of_ble_eq_true rfl⟩ (fun ce q9 H locs S h1 h2 h3 => ?_)
  refine vx_catch (own := RL) (name := "java/lang/IllegalArgumentException") hown [⟨0, 176, 177, 51⟩] ⟨0, 176, 182, 54⟩ [⟨0, 176, 187, 56⟩] (htab.trans rfl) (fun z hz => by rw [List.mem_singleton.mp hz]; exact Or.inr ⟨by decide, "java/lang/IndexOutOfBoundsException", hts (.classLink RL 51 "java/lang/IndexOutOfBoundsException") (by decide +kernel), hE.2.2.2.2.2.2 "java/lang/IllegalArgumentException" (by simp [xcl]) "java/lang/IndexOutOfBoundsException" (by simp [xcl]) (by decide)⟩) rfl (by decide) (hts (.classLink RL 54 "java/lang/IllegalArgumentException") (by decide +kernel)) (va_Nw.use rfl (hE.2.2.2.2.2.1 "java/lang/IllegalArgumentException" (by simp [xcl]))) h1 h2 h3 ?_
  refine lv_astore (lv' := [(5, .ref q9), (0, .ref (ad 0)), (1, .int 1), (2, .int fr), (3, .int tt), (4, .int c4)]) hx hb dL_does_182 hl (by decide) rfl (fun ls hl => ?_)
  refine lv_ldc (v := -1000000001) hx hb hown (hts (.constant RL 53 (-1000000001)) (by decide +kernel)) dL_does_184 ?_
  exact r_iret X S hr dL_does_186 (Nat.le_of_ble_eq_true rfl) (Nat.le_of_ble_eq_true rfl) rfl rfl

set_option maxHeartbeats 1000000 in
set_option maxRecDepth 100000 in
theorem w_does_setFees (l : Launch) (D : va_G) (cA : Nat → ClassId) (ad : Nat → Nat) (sz : Nat) (F : FF) (fe lm : Int32) (h1 : wi fe 0 100000 = true) (h2 : wi lm 0 1000000 = true) (c4 : Int32) : CI l D cA ad sz yL_does wsL_does 9 161 1 6 [.ref (ad 0), .int 3, .int fe, .int lm, .int c4] F (some (.int 0)) (u2 (u2 F 0 5 fe) 0 6 lm) := by
  refine CIW_of (own := RL) (cc := cL_does) (maxL := 6) (ret := (some .int)) (hh := [(0, 176, 177, 51), (0, 176, 182, 54), (0, 176, 187, 56)]) (by decide +kernel) rfl rfl (Nat.le_of_ble_eq_true rfl) ?_
  intro p e s m below meth c ls X S hr htab hl
  obtain ⟨⟨hx, hb, hml, hown, hts⟩, hE, hI, hlocks⟩ := id X
  have hl : lv_has ls 6 [(0, .ref (ad 0)), (1, .int 3), (2, .int fe), (3, .int lm), (4, .int c4)] := hl
  refine lv_iload_n hx hb dL_does_0 rfl (lv_at hl 1 rfl) ?_
  refine lv_if_ne (tgt := 24) hx hb dL_does_1 (by decide) (fun _ => ?_) (fun z => False.elim (by first | exact absurd z (by decide) | exact absurd (by decide) z))
  refine lv_iload_n hx hb dL_does_24 rfl (lv_at hl 1 rfl) ?_
  refine lv_iconst (v := 1) hx hb dL_does_25 (by decide) ?_
  refine lv_icmp_eq (tgt := 39) hx hb dL_does_26 (by decide) (fun z => False.elim (by first | exact absurd z (by decide) | exact absurd (by decide) z)) (fun _ => ?_)
  refine lv_iload_n hx hb dL_does_29 rfl (lv_at hl 1 rfl) ?_
  refine lv_iconst (v := 3) hx hb dL_does_30 (by decide) ?_
  refine lv_icmp_eq (tgt := 39) hx hb dL_does_31 (by decide) (fun _ => ?_) (fun z => False.elim (by first | exact absurd z (by decide) | exact absurd (by decide) z))
  refine lv_aload_n hx hb dL_does_39 rfl (lv_at hl 0 rfl) ?_
  refine lv_iload_n hx hb dL_does_40 rfl (lv_at hl 1 rfl) ?_
  refine lv_iload_n hx hb dL_does_41 rfl (lv_at hl 2 rfl) ?_
  refine lv_iload_n hx hb dL_does_42 rfl (lv_at hl 3 rfl) ?_
  refine lv_iload hx hb dL_does_43 (lv_at hl 4 rfl) ?_
  refine r_S0 X S (w_sets_setFees l D cA ad _ F fe lm h1 h2 c4) (va_cwS 5 hts gL_does_L_sets rfl rfl rfl (by decide +kernel) ⟨Nat.le_of_ble_eq_true rfl, Nat.le_of_ble_eq_true rfl⟩) rfl hl.1 rfl (Nat.le_of_ble_eq_true rfl) dL_does_45 ⟨Nat.zero_le _, Nat.zero_le _⟩ (fun H locs S => ?_)
  obtain ⟨F_1, eF_1⟩ : ∃ z, z = u2 (u2 F 0 5 fe) 0 6 lm := ⟨_, rfl⟩
  rw [← eF_1] at S
  refine lv_goto (tgt := 176) hx hb dL_does_48 (by decide) ?_
  exact r_iret X S hr dL_does_176 (Nat.le_of_ble_eq_true rfl) (Nat.le_of_ble_eq_true rfl) rfl (by rw [eF_1])

set_option maxHeartbeats 1000000 in
set_option maxRecDepth 100000 in
theorem x1_does_setFees (l : Launch) (D : va_G) (cA : Nat → ClassId) (ad : Nat → Nat) (sz : Nat) (F : FF) (hst : l.stackTraces = false) (fe lm : Int32) (h : ¬ (wi fe 0 100000 = true ∧ wi lm 0 1000000 = true)) (c4 : Int32) : CI l D cA ad sz yL_does wsL_does 9 161 1 6 [.ref (ad 0), .int 3, .int fe, .int lm, .int c4] F (some (.int (-1000000001))) F := by
  refine CIW_of (own := RL) (cc := cL_does) (maxL := 6) (ret := (some .int)) (hh := [(0, 176, 177, 51), (0, 176, 182, 54), (0, 176, 187, 56)]) (by decide +kernel) rfl rfl (Nat.le_of_ble_eq_true rfl) ?_
  intro p e s m below meth c ls X S hr htab hl
  obtain ⟨⟨hx, hb, hml, hown, hts⟩, hE, hI, hlocks⟩ := id X
  have hl : lv_has ls 6 [(0, .ref (ad 0)), (1, .int 3), (2, .int fe), (3, .int lm), (4, .int c4)] := hl
  refine lv_iload_n hx hb dL_does_0 rfl (lv_at hl 1 rfl) ?_
  refine lv_if_ne (tgt := 24) hx hb dL_does_1 (by decide) (fun _ => ?_) (fun z => False.elim (by first | exact absurd z (by decide) | exact absurd (by decide) z))
  refine lv_iload_n hx hb dL_does_24 rfl (lv_at hl 1 rfl) ?_
  refine lv_iconst (v := 1) hx hb dL_does_25 (by decide) ?_
  refine lv_icmp_eq (tgt := 39) hx hb dL_does_26 (by decide) (fun z => False.elim (by first | exact absurd z (by decide) | exact absurd (by decide) z)) (fun _ => ?_)
  refine lv_iload_n hx hb dL_does_29 rfl (lv_at hl 1 rfl) ?_
  refine lv_iconst (v := 3) hx hb dL_does_30 (by decide) ?_
  refine lv_icmp_eq (tgt := 39) hx hb dL_does_31 (by decide) (fun _ => ?_) (fun z => False.elim (by first | exact absurd z (by decide) | exact absurd (by decide) z))
  refine lv_aload_n hx hb dL_does_39 rfl (lv_at hl 0 rfl) ?_
  refine lv_iload_n hx hb dL_does_40 rfl (lv_at hl 1 rfl) ?_
  refine lv_iload_n hx hb dL_does_41 rfl (lv_at hl 2 rfl) ?_
  refine lv_iload_n hx hb dL_does_42 rfl (lv_at hl 3 rfl) ?_
  refine lv_iload hx hb dL_does_43 (lv_at hl 4 rfl) ?_
  refine r_SXt X S (x1_sets_setFees l hst D cA ad _ F fe lm h c4) (va_cwS 5 hts gL_does_L_sets rfl rfl rfl (by decide +kernel) ⟨Nat.le_of_ble_eq_true rfl, Nat.le_of_ble_eq_true rfl⟩) rfl hl.1 rfl (Nat.le_of_ble_eq_true rfl) dL_does_45 ⟨Nat.le_of_ble_eq_true rfl, Nat.le_of_ble_eq_true rfl⟩ (fun ce q9 H locs S h1 h2 h3 => ?_)
  refine vx_catch (own := RL) (name := "java/lang/IllegalArgumentException") hown [⟨0, 176, 177, 51⟩] ⟨0, 176, 182, 54⟩ [⟨0, 176, 187, 56⟩] (htab.trans rfl) (fun z hz => by rw [List.mem_singleton.mp hz]; exact Or.inr ⟨by decide, "java/lang/IndexOutOfBoundsException", hts (.classLink RL 51 "java/lang/IndexOutOfBoundsException") (by decide +kernel), hE.2.2.2.2.2.2 "java/lang/IllegalArgumentException" (by simp [xcl]) "java/lang/IndexOutOfBoundsException" (by simp [xcl]) (by decide)⟩) rfl (by decide) (hts (.classLink RL 54 "java/lang/IllegalArgumentException") (by decide +kernel)) (va_Nw.use rfl (hE.2.2.2.2.2.1 "java/lang/IllegalArgumentException" (by simp [xcl]))) h1 h2 h3 ?_
  refine lv_astore (lv' := [(5, .ref q9), (0, .ref (ad 0)), (1, .int 3), (2, .int fe), (3, .int lm), (4, .int c4)]) hx hb dL_does_182 hl (by decide) rfl (fun ls hl => ?_)
  refine lv_ldc (v := -1000000001) hx hb hown (hts (.constant RL 53 (-1000000001)) (by decide +kernel)) dL_does_184 ?_
  exact r_iret X S hr dL_does_186 (Nat.le_of_ble_eq_true rfl) (Nat.le_of_ble_eq_true rfl) rfl rfl

set_option maxHeartbeats 1000000 in
set_option maxRecDepth 100000 in
theorem w_does_setStudent (l : Launch) (D : va_G) (cA : Nat → ClassId) (ad : Nat → Nat) (sz : Nat) (F : FF) (b4 c4 : Int32) (hc : c4 < 0) (i : Nat) (hi : i < 4) (h1 : wi (b4 &&& 1) 0 1 = true) (h2 : wi (-1 - c4) 0 1000000 = true) : CI l D cA ad sz yL_does wsL_does 9 161 1 6 [.ref (ad 0), .int 4, .int (nI i), .int b4, .int c4] F (some (.int 0)) (u2 (u2 (u2 F (4 + 8 * i) 3 (b4 &&& 1)) (4 + 8 * i) 4 (bI (decide (b4 &&& 2 = 0)))) (4 + 8 * i) 5 (-1 - c4)) := by
  refine CIW_of (own := RL) (cc := cL_does) (maxL := 6) (ret := (some .int)) (hh := [(0, 176, 177, 51), (0, 176, 182, 54), (0, 176, 187, 56)]) (by decide +kernel) rfl rfl (Nat.le_of_ble_eq_true rfl) ?_
  intro p e s m below meth c ls X S hr htab hl
  obtain ⟨⟨hx, hb, hml, hown, hts⟩, hE, hI, hlocks⟩ := id X
  have hl : lv_has ls 6 [(0, .ref (ad 0)), (1, .int 4), (2, .int (nI i)), (3, .int b4), (4, .int c4)] := hl
  refine lv_iload_n hx hb dL_does_0 rfl (lv_at hl 1 rfl) ?_
  refine lv_if_ne (tgt := 24) hx hb dL_does_1 (by decide) (fun _ => ?_) (fun z => False.elim (by first | exact absurd z (by decide) | exact absurd (by decide) z))
  refine lv_iload_n hx hb dL_does_24 rfl (lv_at hl 1 rfl) ?_
  refine lv_iconst (v := 1) hx hb dL_does_25 (by decide) ?_
  refine lv_icmp_eq (tgt := 39) hx hb dL_does_26 (by decide) (fun z => False.elim (by first | exact absurd z (by decide) | exact absurd (by decide) z)) (fun _ => ?_)
  refine lv_iload_n hx hb dL_does_29 rfl (lv_at hl 1 rfl) ?_
  refine lv_iconst (v := 3) hx hb dL_does_30 (by decide) ?_
  refine lv_icmp_eq (tgt := 39) hx hb dL_does_31 (by decide) (fun z => False.elim (by first | exact absurd z (by decide) | exact absurd (by decide) z)) (fun _ => ?_)
  refine lv_iload_n hx hb dL_does_34 rfl (lv_at hl 1 rfl) ?_
  refine lv_iconst (v := 4) hx hb dL_does_35 (by decide) ?_
  refine lv_icmp_ne (tgt := 51) hx hb dL_does_36 (by decide) (fun z => False.elim (by first | exact absurd z (by decide) | exact absurd (by decide) z)) (fun _ => ?_)
  refine lv_aload_n hx hb dL_does_39 rfl (lv_at hl 0 rfl) ?_
  refine lv_iload_n hx hb dL_does_40 rfl (lv_at hl 1 rfl) ?_
  refine lv_iload_n hx hb dL_does_41 rfl (lv_at hl 2 rfl) ?_
  refine lv_iload_n hx hb dL_does_42 rfl (lv_at hl 3 rfl) ?_
  refine lv_iload hx hb dL_does_43 (lv_at hl 4 rfl) ?_
  refine r_S0 X S (w_sets_setStudent l D cA ad _ F b4 c4 hc i hi h1 h2) (va_cwS 5 hts gL_does_L_sets rfl rfl rfl (by decide +kernel) ⟨Nat.le_of_ble_eq_true rfl, Nat.le_of_ble_eq_true rfl⟩) rfl hl.1 rfl (Nat.le_of_ble_eq_true rfl) dL_does_45 ⟨Nat.zero_le _, Nat.zero_le _⟩ (fun H locs S => ?_)
  obtain ⟨F_1, eF_1⟩ : ∃ z, z = u2 (u2 (u2 F (4 + 8 * i) 3 (b4 &&& 1)) (4 + 8 * i) 4 (bI (decide (b4 &&& 2 = 0)))) (4 + 8 * i) 5 (-1 - c4) := ⟨_, rfl⟩
  rw [← eF_1] at S
  refine lv_goto (tgt := 176) hx hb dL_does_48 (by decide) ?_
  exact r_iret X S hr dL_does_176 (Nat.le_of_ble_eq_true rfl) (Nat.le_of_ble_eq_true rfl) rfl (by rw [eF_1])

set_option maxHeartbeats 1000000 in
set_option maxRecDepth 100000 in
theorem x1_does_setStudent (l : Launch) (D : va_G) (cA : Nat → ClassId) (ad : Nat → Nat) (sz : Nat) (F : FF) (hst : l.stackTraces = false) (b4 c4 : Int32) (hc : c4 < 0) (x : Int32) (h : wi x 0 3 = false) : CI l D cA ad sz yL_does wsL_does 9 161 1 6 [.ref (ad 0), .int 4, .int x, .int b4, .int c4] F (some (.int (-1000000001))) F := by
  refine CIW_of (own := RL) (cc := cL_does) (maxL := 6) (ret := (some .int)) (hh := [(0, 176, 177, 51), (0, 176, 182, 54), (0, 176, 187, 56)]) (by decide +kernel) rfl rfl (Nat.le_of_ble_eq_true rfl) ?_
  intro p e s m below meth c ls X S hr htab hl
  obtain ⟨⟨hx, hb, hml, hown, hts⟩, hE, hI, hlocks⟩ := id X
  have hl : lv_has ls 6 [(0, .ref (ad 0)), (1, .int 4), (2, .int x), (3, .int b4), (4, .int c4)] := hl
  refine lv_iload_n hx hb dL_does_0 rfl (lv_at hl 1 rfl) ?_
  refine lv_if_ne (tgt := 24) hx hb dL_does_1 (by decide) (fun _ => ?_) (fun z => False.elim (by first | exact absurd z (by decide) | exact absurd (by decide) z))
  refine lv_iload_n hx hb dL_does_24 rfl (lv_at hl 1 rfl) ?_
  refine lv_iconst (v := 1) hx hb dL_does_25 (by decide) ?_
  refine lv_icmp_eq (tgt := 39) hx hb dL_does_26 (by decide) (fun z => False.elim (by first | exact absurd z (by decide) | exact absurd (by decide) z)) (fun _ => ?_)
  refine lv_iload_n hx hb dL_does_29 rfl (lv_at hl 1 rfl) ?_
  refine lv_iconst (v := 3) hx hb dL_does_30 (by decide) ?_
  refine lv_icmp_eq (tgt := 39) hx hb dL_does_31 (by decide) (fun z => False.elim (by first | exact absurd z (by decide) | exact absurd (by decide) z)) (fun _ => ?_)
  refine lv_iload_n hx hb dL_does_34 rfl (lv_at hl 1 rfl) ?_
  refine lv_iconst (v := 4) hx hb dL_does_35 (by decide) ?_
  refine lv_icmp_ne (tgt := 51) hx hb dL_does_36 (by decide) (fun z => False.elim (by first | exact absurd z (by decide) | exact absurd (by decide) z)) (fun _ => ?_)
  refine lv_aload_n hx hb dL_does_39 rfl (lv_at hl 0 rfl) ?_
  refine lv_iload_n hx hb dL_does_40 rfl (lv_at hl 1 rfl) ?_
  refine lv_iload_n hx hb dL_does_41 rfl (lv_at hl 2 rfl) ?_
  refine lv_iload_n hx hb dL_does_42 rfl (lv_at hl 3 rfl) ?_
  refine lv_iload hx hb dL_does_43 (lv_at hl 4 rfl) ?_
  refine r_SXt X S (x1_sets_setStudent l hst D cA ad _ F b4 c4 hc x h) (va_cwS 5 hts gL_does_L_sets rfl rfl rfl (by decide +kernel) ⟨Nat.le_of_ble_eq_true rfl, Nat.le_of_ble_eq_true rfl⟩) rfl hl.1 rfl (Nat.le_of_ble_eq_true rfl) dL_does_45 ⟨Nat.le_of_ble_eq_true rfl, Nat.le_of_ble_eq_true rfl⟩ (fun ce q9 H locs S h1 h2 h3 => ?_)
  refine vx_catch (own := RL) (name := "java/lang/IndexOutOfBoundsException") hown [] ⟨0, 176, 177, 51⟩ [⟨0, 176, 182, 54⟩, ⟨0, 176, 187, 56⟩] (htab.trans rfl) (fun z hz => nomatch hz) rfl (by decide) (hts (.classLink RL 51 "java/lang/IndexOutOfBoundsException") (by decide +kernel)) (va_Nw.use rfl (hE.2.2.2.2.2.1 "java/lang/IndexOutOfBoundsException" (by simp [xcl]))) h1 h2 h3 ?_
  refine lv_astore (lv' := [(5, .ref q9), (0, .ref (ad 0)), (1, .int 4), (2, .int x), (3, .int b4), (4, .int c4)]) hx hb dL_does_177 hl (by decide) rfl (fun ls hl => ?_)
  refine lv_ldc (v := -1000000001) hx hb hown (hts (.constant RL 53 (-1000000001)) (by decide +kernel)) dL_does_179 ?_
  exact r_iret X S hr dL_does_181 (Nat.le_of_ble_eq_true rfl) (Nat.le_of_ble_eq_true rfl) rfl rfl

set_option maxHeartbeats 1000000 in
set_option maxRecDepth 100000 in
theorem x2_does_setStudent (l : Launch) (D : va_G) (cA : Nat → ClassId) (ad : Nat → Nat) (sz : Nat) (F : FF) (hst : l.stackTraces = false) (b4 c4 : Int32) (hc : c4 < 0) (i : Nat) (hi : i < 4) (h : ¬ (wi (b4 &&& 1) 0 1 = true ∧ wi (-1 - c4) 0 1000000 = true)) : CI l D cA ad sz yL_does wsL_does 9 161 1 6 [.ref (ad 0), .int 4, .int (nI i), .int b4, .int c4] F (some (.int (-1000000001))) F := by
  refine CIW_of (own := RL) (cc := cL_does) (maxL := 6) (ret := (some .int)) (hh := [(0, 176, 177, 51), (0, 176, 182, 54), (0, 176, 187, 56)]) (by decide +kernel) rfl rfl (Nat.le_of_ble_eq_true rfl) ?_
  intro p e s m below meth c ls X S hr htab hl
  obtain ⟨⟨hx, hb, hml, hown, hts⟩, hE, hI, hlocks⟩ := id X
  have hl : lv_has ls 6 [(0, .ref (ad 0)), (1, .int 4), (2, .int (nI i)), (3, .int b4), (4, .int c4)] := hl
  refine lv_iload_n hx hb dL_does_0 rfl (lv_at hl 1 rfl) ?_
  refine lv_if_ne (tgt := 24) hx hb dL_does_1 (by decide) (fun _ => ?_) (fun z => False.elim (by first | exact absurd z (by decide) | exact absurd (by decide) z))
  refine lv_iload_n hx hb dL_does_24 rfl (lv_at hl 1 rfl) ?_
  refine lv_iconst (v := 1) hx hb dL_does_25 (by decide) ?_
  refine lv_icmp_eq (tgt := 39) hx hb dL_does_26 (by decide) (fun z => False.elim (by first | exact absurd z (by decide) | exact absurd (by decide) z)) (fun _ => ?_)
  refine lv_iload_n hx hb dL_does_29 rfl (lv_at hl 1 rfl) ?_
  refine lv_iconst (v := 3) hx hb dL_does_30 (by decide) ?_
  refine lv_icmp_eq (tgt := 39) hx hb dL_does_31 (by decide) (fun z => False.elim (by first | exact absurd z (by decide) | exact absurd (by decide) z)) (fun _ => ?_)
  refine lv_iload_n hx hb dL_does_34 rfl (lv_at hl 1 rfl) ?_
  refine lv_iconst (v := 4) hx hb dL_does_35 (by decide) ?_
  refine lv_icmp_ne (tgt := 51) hx hb dL_does_36 (by decide) (fun z => False.elim (by first | exact absurd z (by decide) | exact absurd (by decide) z)) (fun _ => ?_)
  refine lv_aload_n hx hb dL_does_39 rfl (lv_at hl 0 rfl) ?_
  refine lv_iload_n hx hb dL_does_40 rfl (lv_at hl 1 rfl) ?_
  refine lv_iload_n hx hb dL_does_41 rfl (lv_at hl 2 rfl) ?_
  refine lv_iload_n hx hb dL_does_42 rfl (lv_at hl 3 rfl) ?_
  refine lv_iload hx hb dL_does_43 (lv_at hl 4 rfl) ?_
  refine r_SXt X S (x2_sets_setStudent l hst D cA ad _ F b4 c4 hc i hi h) (va_cwS 5 hts gL_does_L_sets rfl rfl rfl (by decide +kernel) ⟨Nat.le_of_ble_eq_true rfl, Nat.le_of_ble_eq_true rfl⟩) rfl hl.1 rfl (Nat.le_of_ble_eq_true rfl) dL_does_45 ⟨Nat.le_of_ble_eq_true rfl, Nat.le_of_ble_eq_true rfl⟩ (fun ce q9 H locs S h1 h2 h3 => ?_)
  refine vx_catch (own := RL) (name := "java/lang/IllegalArgumentException") hown [⟨0, 176, 177, 51⟩] ⟨0, 176, 182, 54⟩ [⟨0, 176, 187, 56⟩] (htab.trans rfl) (fun z hz => by rw [List.mem_singleton.mp hz]; exact Or.inr ⟨by decide, "java/lang/IndexOutOfBoundsException", hts (.classLink RL 51 "java/lang/IndexOutOfBoundsException") (by decide +kernel), hE.2.2.2.2.2.2 "java/lang/IllegalArgumentException" (by simp [xcl]) "java/lang/IndexOutOfBoundsException" (by simp [xcl]) (by decide)⟩) rfl (by decide) (hts (.classLink RL 54 "java/lang/IllegalArgumentException") (by decide +kernel)) (va_Nw.use rfl (hE.2.2.2.2.2.1 "java/lang/IllegalArgumentException" (by simp [xcl]))) h1 h2 h3 ?_
  refine lv_astore (lv' := [(5, .ref q9), (0, .ref (ad 0)), (1, .int 4), (2, .int (nI i)), (3, .int b4), (4, .int c4)]) hx hb dL_does_182 hl (by decide) rfl (fun ls hl => ?_)
  refine lv_ldc (v := -1000000001) hx hb hown (hts (.constant RL 53 (-1000000001)) (by decide +kernel)) dL_does_184 ?_
  exact r_iret X S hr dL_does_186 (Nat.le_of_ble_eq_true rfl) (Nat.le_of_ble_eq_true rfl) rfl rfl

set_option maxHeartbeats 1000000 in
set_option maxRecDepth 100000 in
theorem w_does_setSponsor (l : Launch) (D : va_G) (cA : Nat → ClassId) (ad : Nat → Nat) (sz : Nat) (F : FF) (i : Nat) (hi : i < 4) (ks lm : Int32) (h1 : wi ks 0 7 = true) (h2 : wi lm 0 1000000 = true) (hc : ¬ lm < 0) : CI l D cA ad sz yL_does wsL_does 9 161 1 6 [.ref (ad 0), .int 4, .int (nI i), .int ks, .int lm] F (some (.int 0)) (u2 (u2 F (4 + 8 * i) 8 ks) (4 + 8 * i) 9 lm) := by
  refine CIW_of (own := RL) (cc := cL_does) (maxL := 6) (ret := (some .int)) (hh := [(0, 176, 177, 51), (0, 176, 182, 54), (0, 176, 187, 56)]) (by decide +kernel) rfl rfl (Nat.le_of_ble_eq_true rfl) ?_
  intro p e s m below meth c ls X S hr htab hl
  obtain ⟨⟨hx, hb, hml, hown, hts⟩, hE, hI, hlocks⟩ := id X
  have hl : lv_has ls 6 [(0, .ref (ad 0)), (1, .int 4), (2, .int (nI i)), (3, .int ks), (4, .int lm)] := hl
  refine lv_iload_n hx hb dL_does_0 rfl (lv_at hl 1 rfl) ?_
  refine lv_if_ne (tgt := 24) hx hb dL_does_1 (by decide) (fun _ => ?_) (fun z => False.elim (by first | exact absurd z (by decide) | exact absurd (by decide) z))
  refine lv_iload_n hx hb dL_does_24 rfl (lv_at hl 1 rfl) ?_
  refine lv_iconst (v := 1) hx hb dL_does_25 (by decide) ?_
  refine lv_icmp_eq (tgt := 39) hx hb dL_does_26 (by decide) (fun z => False.elim (by first | exact absurd z (by decide) | exact absurd (by decide) z)) (fun _ => ?_)
  refine lv_iload_n hx hb dL_does_29 rfl (lv_at hl 1 rfl) ?_
  refine lv_iconst (v := 3) hx hb dL_does_30 (by decide) ?_
  refine lv_icmp_eq (tgt := 39) hx hb dL_does_31 (by decide) (fun z => False.elim (by first | exact absurd z (by decide) | exact absurd (by decide) z)) (fun _ => ?_)
  refine lv_iload_n hx hb dL_does_34 rfl (lv_at hl 1 rfl) ?_
  refine lv_iconst (v := 4) hx hb dL_does_35 (by decide) ?_
  refine lv_icmp_ne (tgt := 51) hx hb dL_does_36 (by decide) (fun z => False.elim (by first | exact absurd z (by decide) | exact absurd (by decide) z)) (fun _ => ?_)
  refine lv_aload_n hx hb dL_does_39 rfl (lv_at hl 0 rfl) ?_
  refine lv_iload_n hx hb dL_does_40 rfl (lv_at hl 1 rfl) ?_
  refine lv_iload_n hx hb dL_does_41 rfl (lv_at hl 2 rfl) ?_
  refine lv_iload_n hx hb dL_does_42 rfl (lv_at hl 3 rfl) ?_
  refine lv_iload hx hb dL_does_43 (lv_at hl 4 rfl) ?_
  refine r_S0 X S (w_sets_setSponsor l D cA ad _ F i hi ks lm h1 h2 hc) (va_cwS 5 hts gL_does_L_sets rfl rfl rfl (by decide +kernel) ⟨Nat.le_of_ble_eq_true rfl, Nat.le_of_ble_eq_true rfl⟩) rfl hl.1 rfl (Nat.le_of_ble_eq_true rfl) dL_does_45 ⟨Nat.zero_le _, Nat.zero_le _⟩ (fun H locs S => ?_)
  obtain ⟨F_1, eF_1⟩ : ∃ z, z = u2 (u2 F (4 + 8 * i) 8 ks) (4 + 8 * i) 9 lm := ⟨_, rfl⟩
  rw [← eF_1] at S
  refine lv_goto (tgt := 176) hx hb dL_does_48 (by decide) ?_
  exact r_iret X S hr dL_does_176 (Nat.le_of_ble_eq_true rfl) (Nat.le_of_ble_eq_true rfl) rfl (by rw [eF_1])

set_option maxHeartbeats 1000000 in
set_option maxRecDepth 100000 in
theorem x1_does_setSponsor (l : Launch) (D : va_G) (cA : Nat → ClassId) (ad : Nat → Nat) (sz : Nat) (F : FF) (hst : l.stackTraces = false) (x ks lm : Int32) (h : wi x 0 3 = false) (hc : ¬ lm < 0) : CI l D cA ad sz yL_does wsL_does 9 161 1 6 [.ref (ad 0), .int 4, .int x, .int ks, .int lm] F (some (.int (-1000000001))) F := by
  refine CIW_of (own := RL) (cc := cL_does) (maxL := 6) (ret := (some .int)) (hh := [(0, 176, 177, 51), (0, 176, 182, 54), (0, 176, 187, 56)]) (by decide +kernel) rfl rfl (Nat.le_of_ble_eq_true rfl) ?_
  intro p e s m below meth c ls X S hr htab hl
  obtain ⟨⟨hx, hb, hml, hown, hts⟩, hE, hI, hlocks⟩ := id X
  have hl : lv_has ls 6 [(0, .ref (ad 0)), (1, .int 4), (2, .int x), (3, .int ks), (4, .int lm)] := hl
  refine lv_iload_n hx hb dL_does_0 rfl (lv_at hl 1 rfl) ?_
  refine lv_if_ne (tgt := 24) hx hb dL_does_1 (by decide) (fun _ => ?_) (fun z => False.elim (by first | exact absurd z (by decide) | exact absurd (by decide) z))
  refine lv_iload_n hx hb dL_does_24 rfl (lv_at hl 1 rfl) ?_
  refine lv_iconst (v := 1) hx hb dL_does_25 (by decide) ?_
  refine lv_icmp_eq (tgt := 39) hx hb dL_does_26 (by decide) (fun z => False.elim (by first | exact absurd z (by decide) | exact absurd (by decide) z)) (fun _ => ?_)
  refine lv_iload_n hx hb dL_does_29 rfl (lv_at hl 1 rfl) ?_
  refine lv_iconst (v := 3) hx hb dL_does_30 (by decide) ?_
  refine lv_icmp_eq (tgt := 39) hx hb dL_does_31 (by decide) (fun z => False.elim (by first | exact absurd z (by decide) | exact absurd (by decide) z)) (fun _ => ?_)
  refine lv_iload_n hx hb dL_does_34 rfl (lv_at hl 1 rfl) ?_
  refine lv_iconst (v := 4) hx hb dL_does_35 (by decide) ?_
  refine lv_icmp_ne (tgt := 51) hx hb dL_does_36 (by decide) (fun z => False.elim (by first | exact absurd z (by decide) | exact absurd (by decide) z)) (fun _ => ?_)
  refine lv_aload_n hx hb dL_does_39 rfl (lv_at hl 0 rfl) ?_
  refine lv_iload_n hx hb dL_does_40 rfl (lv_at hl 1 rfl) ?_
  refine lv_iload_n hx hb dL_does_41 rfl (lv_at hl 2 rfl) ?_
  refine lv_iload_n hx hb dL_does_42 rfl (lv_at hl 3 rfl) ?_
  refine lv_iload hx hb dL_does_43 (lv_at hl 4 rfl) ?_
  refine r_SXt X S (x1_sets_setSponsor l hst D cA ad _ F x ks lm h hc) (va_cwS 5 hts gL_does_L_sets rfl rfl rfl (by decide +kernel) ⟨Nat.le_of_ble_eq_true rfl, Nat.le_of_ble_eq_true rfl⟩) rfl hl.1 rfl (Nat.le_of_ble_eq_true rfl) dL_does_45 ⟨Nat.le_of_ble_eq_true rfl, Nat.le_of_ble_eq_true rfl⟩ (fun ce q9 H locs S h1 h2 h3 => ?_)
  refine vx_catch (own := RL) (name := "java/lang/IndexOutOfBoundsException") hown [] ⟨0, 176, 177, 51⟩ [⟨0, 176, 182, 54⟩, ⟨0, 176, 187, 56⟩] (htab.trans rfl) (fun z hz => nomatch hz) rfl (by decide) (hts (.classLink RL 51 "java/lang/IndexOutOfBoundsException") (by decide +kernel)) (va_Nw.use rfl (hE.2.2.2.2.2.1 "java/lang/IndexOutOfBoundsException" (by simp [xcl]))) h1 h2 h3 ?_
  refine lv_astore (lv' := [(5, .ref q9), (0, .ref (ad 0)), (1, .int 4), (2, .int x), (3, .int ks), (4, .int lm)]) hx hb dL_does_177 hl (by decide) rfl (fun ls hl => ?_)
  refine lv_ldc (v := -1000000001) hx hb hown (hts (.constant RL 53 (-1000000001)) (by decide +kernel)) dL_does_179 ?_
  exact r_iret X S hr dL_does_181 (Nat.le_of_ble_eq_true rfl) (Nat.le_of_ble_eq_true rfl) rfl rfl

set_option maxHeartbeats 1000000 in
set_option maxRecDepth 100000 in
theorem x2_does_setSponsor (l : Launch) (D : va_G) (cA : Nat → ClassId) (ad : Nat → Nat) (sz : Nat) (F : FF) (hst : l.stackTraces = false) (i : Nat) (hi : i < 4) (ks lm : Int32) (h : ¬ (wi ks 0 7 = true ∧ wi lm 0 1000000 = true)) (hc : ¬ lm < 0) : CI l D cA ad sz yL_does wsL_does 9 161 1 6 [.ref (ad 0), .int 4, .int (nI i), .int ks, .int lm] F (some (.int (-1000000001))) F := by
  refine CIW_of (own := RL) (cc := cL_does) (maxL := 6) (ret := (some .int)) (hh := [(0, 176, 177, 51), (0, 176, 182, 54), (0, 176, 187, 56)]) (by decide +kernel) rfl rfl (Nat.le_of_ble_eq_true rfl) ?_
  intro p e s m below meth c ls X S hr htab hl
  obtain ⟨⟨hx, hb, hml, hown, hts⟩, hE, hI, hlocks⟩ := id X
  have hl : lv_has ls 6 [(0, .ref (ad 0)), (1, .int 4), (2, .int (nI i)), (3, .int ks), (4, .int lm)] := hl
  refine lv_iload_n hx hb dL_does_0 rfl (lv_at hl 1 rfl) ?_
  refine lv_if_ne (tgt := 24) hx hb dL_does_1 (by decide) (fun _ => ?_) (fun z => False.elim (by first | exact absurd z (by decide) | exact absurd (by decide) z))
  refine lv_iload_n hx hb dL_does_24 rfl (lv_at hl 1 rfl) ?_
  refine lv_iconst (v := 1) hx hb dL_does_25 (by decide) ?_
  refine lv_icmp_eq (tgt := 39) hx hb dL_does_26 (by decide) (fun z => False.elim (by first | exact absurd z (by decide) | exact absurd (by decide) z)) (fun _ => ?_)
  refine lv_iload_n hx hb dL_does_29 rfl (lv_at hl 1 rfl) ?_
  refine lv_iconst (v := 3) hx hb dL_does_30 (by decide) ?_
  refine lv_icmp_eq (tgt := 39) hx hb dL_does_31 (by decide) (fun z => False.elim (by first | exact absurd z (by decide) | exact absurd (by decide) z)) (fun _ => ?_)
  refine lv_iload_n hx hb dL_does_34 rfl (lv_at hl 1 rfl) ?_
  refine lv_iconst (v := 4) hx hb dL_does_35 (by decide) ?_
  refine lv_icmp_ne (tgt := 51) hx hb dL_does_36 (by decide) (fun z => False.elim (by first | exact absurd z (by decide) | exact absurd (by decide) z)) (fun _ => ?_)
  refine lv_aload_n hx hb dL_does_39 rfl (lv_at hl 0 rfl) ?_
  refine lv_iload_n hx hb dL_does_40 rfl (lv_at hl 1 rfl) ?_
  refine lv_iload_n hx hb dL_does_41 rfl (lv_at hl 2 rfl) ?_
  refine lv_iload_n hx hb dL_does_42 rfl (lv_at hl 3 rfl) ?_
  refine lv_iload hx hb dL_does_43 (lv_at hl 4 rfl) ?_
  refine r_SXt X S (x2_sets_setSponsor l hst D cA ad _ F i hi ks lm h hc) (va_cwS 5 hts gL_does_L_sets rfl rfl rfl (by decide +kernel) ⟨Nat.le_of_ble_eq_true rfl, Nat.le_of_ble_eq_true rfl⟩) rfl hl.1 rfl (Nat.le_of_ble_eq_true rfl) dL_does_45 ⟨Nat.le_of_ble_eq_true rfl, Nat.le_of_ble_eq_true rfl⟩ (fun ce q9 H locs S h1 h2 h3 => ?_)
  refine vx_catch (own := RL) (name := "java/lang/IllegalArgumentException") hown [⟨0, 176, 177, 51⟩] ⟨0, 176, 182, 54⟩ [⟨0, 176, 187, 56⟩] (htab.trans rfl) (fun z hz => by rw [List.mem_singleton.mp hz]; exact Or.inr ⟨by decide, "java/lang/IndexOutOfBoundsException", hts (.classLink RL 51 "java/lang/IndexOutOfBoundsException") (by decide +kernel), hE.2.2.2.2.2.2 "java/lang/IllegalArgumentException" (by simp [xcl]) "java/lang/IndexOutOfBoundsException" (by simp [xcl]) (by decide)⟩) rfl (by decide) (hts (.classLink RL 54 "java/lang/IllegalArgumentException") (by decide +kernel)) (va_Nw.use rfl (hE.2.2.2.2.2.1 "java/lang/IllegalArgumentException" (by simp [xcl]))) h1 h2 h3 ?_
  refine lv_astore (lv' := [(5, .ref q9), (0, .ref (ad 0)), (1, .int 4), (2, .int (nI i)), (3, .int ks), (4, .int lm)]) hx hb dL_does_182 hl (by decide) rfl (fun ls hl => ?_)
  refine lv_ldc (v := -1000000001) hx hb hown (hts (.constant RL 53 (-1000000001)) (by decide +kernel)) dL_does_184 ?_
  exact r_iret X S hr dL_does_186 (Nat.le_of_ble_eq_true rfl) (Nat.le_of_ble_eq_true rfl) rfl rfl
