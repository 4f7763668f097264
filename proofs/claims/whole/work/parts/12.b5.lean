theorem wi14 : ∀ q, q < 4 → wi (nI (q + 1)) 1 4 = true := by decide
def mzG (F : FF) (i w : Nat) : FF := mvF (th F 0) i w (tM F i)
def mzV (F : FF) (i w : Nat) : Int32 := bakI (mzG F i w 36 1) (saM (mzG F i w) i (aM (mzG F i w) i))
def mzF (F : FF) (i w : Nat) : FF := (tkA i 18 (mzG F i w, mzV F i w)).1
set_option maxHeartbeats 1000000 in
set_option maxRecDepth 100000 in
theorem c_X5_drops (l : Launch) (D : va_G) (cA : Nat → ClassId) (ad : Nat → Nat) (sz : Nat) (F : FF) (i : Nat) (hi : i < 4) (hM : OKM F i) (j : Nat) (hj : j < 8) (w : Nat) (hw : w < 16) (ew : F 36 1 = nI w) : CI l D cA ad sz yX5_drops wsX5_drops 2 44 0 0 [.ref (ad 36), .int (nI i), .int (nI j)] F (some (.int (mdK F i j w))) (mdF F i j w) := by
  refine CI_of (own := RX5) (cc := cX5_drops) (maxL := 5) (ret := (some .int)) (by decide +kernel) rfl rfl (Nat.le_of_ble_eq_true rfl) ?_
  intro p e s m below meth c ls X S hr hl
  obtain ⟨⟨hx, hb, hml, hown, hts⟩, hE, hI, hlocks⟩ := id X
  have hl : lv_has ls 5 [(0, .ref (ad 36)), (1, .int (nI i)), (2, .int (nI j))] := hl
  have hw5 : ∀ w ∈ wsX50, w.before _ s = true := fun w h => hts w ((by decide +kernel : ∀ w ∈ wsX50, w ∈ wsX5_drops) w h)
  refine lv_aload_n hx hb dX5_drops_0 rfl (lv_at hl 0 rfl) ?_
  refine lv_iload_n hx hb dX5_drops_1 rfl (lv_at hl 1 rfl) ?_
  refine lv_aload_n hx hb dX5_drops_2 rfl (lv_at hl 0 rfl) ?_
  refine lv_iload_n hx hb dX5_drops_3 rfl (lv_at hl 1 rfl) ?_
  refine r_V0 X S (c_X5_creditsOf l D cA ad _ F i hi hM) ob_M rfl (cwV 1 hts gX5_drops_X5_creditsOf rfl rfl rfl (by decide +kernel) ⟨Nat.le_of_ble_eq_true rfl, Nat.le_of_ble_eq_true rfl⟩) rfl hl.1 rfl (Nat.le_of_ble_eq_true rfl) dX5_drops_4 ⟨Nat.zero_le _, Nat.zero_le _⟩ (fun H locs S => ?_)
  refine r_V0 X S (c_X5_price l D cA ad _ F i hi hM (mcr F i (tM F i))) ob_M rfl (cwV 2 hts gX5_drops_X5_price rfl rfl rfl (by decide +kernel) ⟨Nat.le_of_ble_eq_true rfl, Nat.le_of_ble_eq_true rfl⟩) rfl hl.1 rfl (Nat.le_of_ble_eq_true rfl) dX5_drops_7 ⟨Nat.zero_le _, Nat.zero_le _⟩ (fun H locs S => ?_)
  refine lv_istore_n (lv' := [(3, .int (prM F i (mcr F i (tM F i)))), (0, .ref (ad 36)), (1, .int (nI i)), (2, .int (nI j))]) hx hb dX5_drops_10 rfl hl (by decide) rfl (fun ls hl => ?_)
  refine lv_aload_n hx hb dX5_drops_11 rfl (lv_at hl 1 rfl) ?_
  refine r_getr (q := 46) X S hw5 ob_M 16 ⟨rfl, by decide, rfl⟩ rfl (hts (.fieldLink RX5 48 "TermBillModel" "areDropped" "[Z") (by decide +kernel)) dX5_drops_12 ?_
  refine lv_bipush (v := 8) hx hb dX5_drops_15 (by decide) ?_
  refine lv_iload_n hx hb dX5_drops_17 rfl (lv_at hl 2 rfl) ?_
  refine lv_imul hx hb dX5_drops_18 ?_
  refine lv_topi (fun x_1 ex_1 => ?_)
  obtain rfl : x_1 = nI (8 * i) := ex_1.trans (nI_mul 8 i)
  refine lv_iload_n hx hb dX5_drops_19 rfl (lv_at hl 3 rfl) ?_
  refine lv_iadd hx hb dX5_drops_20 ?_
  refine lv_topi (fun x_2 ex_2 => ?_)
  obtain rfl : x_2 = nI ((8 * i) + j) := ex_2.trans (nI_add (8 * i) j)
  refine lv_iconst (v := 1) hx hb dX5_drops_21 (by decide) ?_
  refine r_zasN X S (k := 46) (n := 32) (by unfold Ar; decide) (q := (8 * i) + j) (by decide) rfl (by omega) (by decide) dX5_drops_22 (fun H locs S => ?_)
  obtain ⟨F_3, eF_3⟩ : ∃ z, z = u2 F 46 ((8 * i) + j) 1 := ⟨_, rfl⟩
  rw [← eF_3] at S
  refine lv_iload_n hx hb dX5_drops_23 rfl (lv_at hl 0 rfl) ?_
  refine lv_aload_n hx hb dX5_drops_24 rfl (lv_at hl 1 rfl) ?_
  refine lv_iload_n hx hb dX5_drops_25 rfl (lv_at hl 2 rfl) ?_
  refine lv_aload_n hx hb dX5_drops_26 rfl (lv_at hl 1 rfl) ?_
  refine lv_iload_n hx hb dX5_drops_27 rfl (lv_at hl 2 rfl) ?_
  refine r_V0 X S (c_X5_creditsOf l D cA ad _ F_3 i hi (by rw [eF_3]; exact OKM_u2 hM (by decide) (by decide) (by decide))) ob_M rfl (cwV 1 hts gX5_drops_X5_creditsOf rfl rfl rfl (by decide +kernel) ⟨Nat.le_of_ble_eq_true rfl, Nat.le_of_ble_eq_true rfl⟩) rfl hl.1 rfl (Nat.le_of_ble_eq_true rfl) dX5_drops_28 ⟨Nat.zero_le _, Nat.zero_le _⟩ (fun H locs S => ?_)
  refine r_V0 X S (c_X5_price l D cA ad _ F_3 i hi (by rw [eF_3]; exact OKM_u2 hM (by decide) (by decide) (by decide)) (mcr F_3 i (tM F_3 i))) ob_M rfl (cwV 2 hts gX5_drops_X5_price rfl rfl rfl (by decide +kernel) ⟨Nat.le_of_ble_eq_true rfl, Nat.le_of_ble_eq_true rfl⟩) rfl hl.1 rfl (Nat.le_of_ble_eq_true rfl) dX5_drops_31 ⟨Nat.zero_le _, Nat.zero_le _⟩ (fun H locs S => ?_)
  refine lv_isub hx hb dX5_drops_34 ?_
  refine lv_i2l hx hb dX5_drops_35 rfl ?_
  refine lv_aload_n hx hb dX5_drops_36 rfl (lv_at hl 1 rfl) ?_
  refine r_getr (q := 38) X S hw5 ob_M 6 ⟨rfl, by decide, rfl⟩ rfl (hts (.fieldLink RX5 20 "TermBillModel" "table" "[I") (by decide +kernel)) dX5_drops_37 ?_
  refine lv_aload_n hx hb dX5_drops_40 rfl (lv_at hl 1 rfl) ?_
  refine r_geti X S hw5 ob_M 1 ⟨rfl, by decide, rfl⟩ rfl (hts (.fieldLink RX5 133 "TermBillModel" "week" "I") (by decide +kernel)) dX5_drops_41 ?_
  rw [show F_3 36 1 = nI w from (by rw [eF_3, u2_ne _ _ (by omega), ew])] 
  refine r_ialN X S (k := 38) (n := 16) (by unfold Ar; decide) (q := w) rfl (by omega) (by decide) dX5_drops_44 ?_
  refine lv_i2l hx hb dX5_drops_45 rfl ?_
  refine lv_lmul hx hb dX5_drops_46 ?_
  refine lv_ldc2 (v := 100) hx hb hown (hts (.constantLong RX5 136 100) (by decide +kernel)) dX5_drops_47 ?_
  refine lv_ldiv hx hb dX5_drops_50 (by decide) ?_
  refine lv_l2i hx hb dX5_drops_51 rfl ?_
  refine lv_istore (lv' := [(4, .int (Int64.toInt32 (((Int32.toInt64 ((prM F i (mcr F i (tM F i))) - (prM F_3 i (mcr F_3 i (tM F_3 i))))) * (Int32.toInt64 (F_3 38 w))) / 100))), (3, .int (prM F i (mcr F i (tM F i)))), (0, .ref (ad 36)), (1, .int (nI i)), (2, .int (nI j))]) hx hb dX5_drops_52 hl (by decide) rfl (fun ls hl => ?_)
  refine lv_aload_n hx hb dX5_drops_54 rfl (lv_at hl 2 rfl) ?_
  refine r_getr (q := 47) X S hw5 ob_M 17 ⟨rfl, by decide, rfl⟩ rfl (hts (.fieldLink RX5 51 "TermBillModel" "kept" "[I") (by decide +kernel)) dX5_drops_55 ?_
  refine lv_iload_n hx hb dX5_drops_58 rfl (lv_at hl 3 rfl) ?_
  refine lv_dup2_11 hx hb dX5_drops_59 rfl rfl ?_
  refine r_ialN X S (k := 47) (n := 4) (by unfold Ar; decide) (q := i) rfl (by omega) (by decide) dX5_drops_60 ?_
  refine lv_iload hx hb dX5_drops_61 (lv_at hl 0 rfl) ?_
  refine lv_iadd hx hb dX5_drops_63 ?_
  refine r_iasN X S (k := 47) (n := 4) (by unfold Ar; decide) (q := i) rfl (by omega) (by decide) dX5_drops_64 (fun H locs S => ?_)
  obtain ⟨F_4, eF_4⟩ : ∃ z, z = u2 F_3 47 i ((F_3 47 i) + (Int64.toInt32 (((Int32.toInt64 ((prM F i (mcr F i (tM F i))) - (prM F_3 i (mcr F_3 i (tM F_3 i))))) * (Int32.toInt64 (F_3 38 w))) / 100))) := ⟨_, rfl⟩
  rw [← eF_4] at S
  refine lv_iload hx hb dX5_drops_65 (lv_at hl 0 rfl) ?_
  exact r_iret X S hr dX5_drops_67 (Nat.le_of_ble_eq_true rfl) (Nat.le_of_ble_eq_true rfl) (by unfold mdK md0; simp only [eF_3]) (by unfold mdF mdK md0; simp only [eF_4, eF_3])

set_option maxHeartbeats 1000000 in
set_option maxRecDepth 100000 in
theorem c_X5_carries (l : Launch) (D : va_G) (cA : Nat → ClassId) (ad : Nat → Nat) (sz : Nat) (F : FF) (i k : Nat) (hi : i < 4) (hk : k < 4) (hM : OKM F i) (hN : OKM F k) : CI l D cA ad sz yX5_carries wsX5_carries 6 140 0 0 [.ref (ad 36), .int (nI i), .int (nI k)] F none (caM F i k) := by
  refine CI_of (own := RX5) (cc := cX5_carries) (maxL := 6) (ret := none) (by decide +kernel) rfl rfl (Nat.le_of_ble_eq_true rfl) ?_
  intro p e s m below meth c ls X S hr hl
  obtain ⟨⟨hx, hb, hml, hown, hts⟩, hE, hI, hlocks⟩ := id X
  have hl : lv_has ls 6 [(0, .ref (ad 36)), (1, .int (nI i)), (2, .int (nI k))] := hl
  have hw5 : ∀ w ∈ wsX50, w.before _ s = true := fun w h => hts w ((by decide +kernel : ∀ w ∈ wsX50, w ∈ wsX5_carries) w h)
  refine lv_aload_n hx hb dX5_carries_0 rfl (lv_at hl 0 rfl) ?_
  refine lv_iload_n hx hb dX5_carries_1 rfl (lv_at hl 1 rfl) ?_
  refine r_V0 X S (c_X5_owedOf l D cA ad _ F i hi hM) ob_M rfl (cwV 1 hts gX5_carries_X5_owedOf rfl rfl rfl (by decide +kernel) ⟨Nat.le_of_ble_eq_true rfl, Nat.le_of_ble_eq_true rfl⟩) rfl hl.1 rfl (Nat.le_of_ble_eq_true rfl) dX5_carries_2 ⟨Nat.zero_le _, Nat.zero_le _⟩ (fun H locs S => ?_)
  refine lv_istore_n (lv' := [(3, .int (owM F i)), (0, .ref (ad 36)), (1, .int (nI i)), (2, .int (nI k))]) hx hb dX5_carries_5 rfl hl (by decide) rfl (fun ls hl => ?_)
  refine lv_aload_n hx hb dX5_carries_6 rfl (lv_at hl 1 rfl) ?_
  refine lv_iload_n hx hb dX5_carries_7 rfl (lv_at hl 3 rfl) ?_
  refine r_V0 X S (c_X5_owedOf l D cA ad _ F k hk hN) ob_M rfl (cwV 1 hts gX5_carries_X5_owedOf rfl rfl rfl (by decide +kernel) ⟨Nat.le_of_ble_eq_true rfl, Nat.le_of_ble_eq_true rfl⟩) rfl hl.1 rfl (Nat.le_of_ble_eq_true rfl) dX5_carries_8 ⟨Nat.zero_le _, Nat.zero_le _⟩ (fun H locs S => ?_)
  refine lv_ineg hx hb dX5_carries_11 ?_
  refine lv_istore (lv' := [(4, .int (-(owM F k))), (3, .int (owM F i)), (0, .ref (ad 36)), (1, .int (nI i)), (2, .int (nI k))]) hx hb dX5_carries_12 hl (by decide) rfl (fun ls hl => ?_)
  refine lv_iload_n hx hb dX5_carries_14 rfl (lv_at hl 1 rfl) ?_
  refine lv_if_le (tgt := 53) hx hb dX5_carries_15 (by decide) (fun c_1 => ?_) (fun c_1 => ?_)
  · exact r_vret X S hr dX5_carries_53 (Nat.le_of_ble_eq_true rfl) (Nat.le_of_ble_eq_true rfl) (by unfold caM; rw [if_pos c_1])
  · refine lv_iload hx hb dX5_carries_18 (lv_at hl 0 rfl) ?_
    refine lv_if_le (tgt := 53) hx hb dX5_carries_20 (by decide) (fun c_2 => ?_) (fun c_2 => ?_)
    · exact r_vret X S hr dX5_carries_53 (Nat.le_of_ble_eq_true rfl) (Nat.le_of_ble_eq_true rfl) (by unfold caM; rw [if_neg c_1, if_pos c_2])
    · refine lv_iload_n hx hb dX5_carries_23 rfl (lv_at hl 1 rfl) ?_
      refine lv_iload hx hb dX5_carries_24 (lv_at hl 0 rfl) ?_
      refine r_S0 X S (c_X5_least l D cA ad _ F (owM F i) (-(owM F k))) (va_cwS 2 hts gX5_carries_X5_least rfl rfl rfl (by decide +kernel) ⟨Nat.le_of_ble_eq_true rfl, Nat.le_of_ble_eq_true rfl⟩) rfl hl.1 rfl (Nat.le_of_ble_eq_true rfl) dX5_carries_26 ⟨Nat.zero_le _, Nat.zero_le _⟩ (fun H locs S => ?_)
      refine lv_istore (lv' := [(5, .int (mn (owM F i) (-(owM F k)))), (4, .int (-(owM F k))), (3, .int (owM F i)), (0, .ref (ad 36)), (1, .int (nI i)), (2, .int (nI k))]) hx hb dX5_carries_29 hl (by decide) rfl (fun ls hl => ?_)
      refine lv_aload_n hx hb dX5_carries_31 rfl (lv_at hl 3 rfl) ?_
      refine r_getr (q := 53) X S hw5 ob_M 23 ⟨rfl, by decide, rfl⟩ rfl (hts (.fieldLink RX5 69 "TermBillModel" "paid" "[I") (by decide +kernel)) dX5_carries_32 ?_
      refine lv_iload_n hx hb dX5_carries_35 rfl (lv_at hl 4 rfl) ?_
      refine lv_dup2_11 hx hb dX5_carries_36 rfl rfl ?_
      refine r_ialN X S (k := 53) (n := 4) (by unfold Ar; decide) (q := i) rfl (by omega) (by decide) dX5_carries_37 ?_
      refine lv_iload hx hb dX5_carries_38 (lv_at hl 0 rfl) ?_
      refine lv_iadd hx hb dX5_carries_40 ?_
      refine r_iasN X S (k := 53) (n := 4) (by unfold Ar; decide) (q := i) rfl (by omega) (by decide) dX5_carries_41 (fun H locs S => ?_)
      obtain ⟨F_3, eF_3⟩ : ∃ z, z = u2 F 53 i ((F 53 i) + (mn (owM F i) (-(owM F k)))) := ⟨_, rfl⟩
      rw [← eF_3] at S
      refine lv_aload_n hx hb dX5_carries_42 rfl (lv_at hl 3 rfl) ?_
      refine r_getr (q := 53) X S hw5 ob_M 23 ⟨rfl, by decide, rfl⟩ rfl (hts (.fieldLink RX5 69 "TermBillModel" "paid" "[I") (by decide +kernel)) dX5_carries_43 ?_
      refine lv_iload_n hx hb dX5_carries_46 rfl (lv_at hl 5 rfl) ?_
      refine lv_dup2_11 hx hb dX5_carries_47 rfl rfl ?_
      refine r_ialN X S (k := 53) (n := 4) (by unfold Ar; decide) (q := k) rfl (by omega) (by decide) dX5_carries_48 ?_
      refine lv_iload hx hb dX5_carries_49 (lv_at hl 0 rfl) ?_
      refine lv_isub hx hb dX5_carries_51 ?_
      refine r_iasN X S (k := 53) (n := 4) (by unfold Ar; decide) (q := k) rfl (by omega) (by decide) dX5_carries_52 (fun H locs S => ?_)
      obtain ⟨F_4, eF_4⟩ : ∃ z, z = u2 F_3 53 k ((F_3 53 k) - (mn (owM F i) (-(owM F k)))) := ⟨_, rfl⟩
      rw [← eF_4] at S
      exact r_vret X S hr dX5_carries_53 (Nat.le_of_ble_eq_true rfl) (Nat.le_of_ble_eq_true rfl) (by unfold caM; rw [if_neg c_1, if_neg c_2, eF_4, eF_3])

set_option maxHeartbeats 1000000 in
set_option maxRecDepth 100000 in
theorem c_X5_endsTerm (l : Launch) (D : va_G) (cA : Nat → ClassId) (ad : Nat → Nat) (sz : Nat) (F : FF) (hMM : ∀ i, i < 4 → OKM F i) : CI l D cA ad sz yX5_endsTerm wsX5_endsTerm 7 165 0 0 [.ref (ad 36)] F none (enM F) := by
  refine CI_of (own := RX5) (cc := cX5_endsTerm) (maxL := 3) (ret := none) (by decide +kernel) rfl rfl (Nat.le_of_ble_eq_true rfl) ?_
  intro p e s m below meth c ls X S hr hl
  obtain ⟨⟨hx, hb, hml, hown, hts⟩, hE, hI, hlocks⟩ := id X
  have hl : lv_has ls 3 [(0, .ref (ad 36))] := hl
  have hw5 : ∀ w ∈ wsX50, w.before _ s = true := fun w h => hts w ((by decide +kernel : ∀ w ∈ wsX50, w ∈ wsX5_endsTerm) w h)
  have loop : ∀ (q i : Nat), i + q = 4 → ∀ (kk : ∀ (H : Heap) (locs : List Loc) (ls : Array Slot), St D cA ad (etA (ecF F) 4) s.heap H locs → lv_has ls 3 [(0, .ref (ad 36)), (1, .int (nI 4))] → W p l e (RM 7 165 0 0) s m [.ref (ad 36)].toArray below meth c H locs 0 0 (MQ below (CQ D cA ad s.heap.size (enM F) none) [.ref (ad 36)].toArray s 0 0 (AA ad s.heap.size)) (F0 m 121 ls [])) (G : FF), G = etA (ecF F) i → ∀ (H : Heap) (locs : List Loc) (ls : Array Slot), St D cA ad G s.heap H locs → lv_has ls 3 [(0, .ref (ad 36)), (1, .int (nI i))] → W p l e (RM 7 165 0 0) s m [.ref (ad 36)].toArray below meth c H locs 0 0 (MQ below (CQ D cA ad s.heap.size (enM F) none) [.ref (ad 36)].toArray s 0 0 (AA ad s.heap.size)) (F0 m 31 ls []) := by
    intro q
    induction q with
    | zero =>
      intro i hi kk G eG H locs ls S hl
      obtain rfl : i = 4 := by omega
      rw [eG] at S
      refine lv_iload_n hx hb dX5_endsTerm_31 rfl (lv_at hl 1 rfl) ?_
      refine lv_iconst (v := 4) hx hb dX5_endsTerm_32 (by decide) ?_
      refine lv_icmp_ge (tgt := 121) hx hb dX5_endsTerm_33 (by decide) (fun _ => ?_) (fun z => False.elim (absurd (by decide) z))
      exact kk H locs ls S (lv_sub hl [0, 1] rfl)
    | succ q ih =>
      intro i hi9 kk G eG H locs ls S hl
      have hi : i < 4 := by omega
      have hM : OKM G i := by rw [eG]; exact OKM_etA (OKM_caM (OKM_caM (OKM_caM (OKM_caM (hMM i hi)))))
      refine lv_iload_n hx hb dX5_endsTerm_31 rfl (lv_at hl 1 rfl) ?_
      refine lv_iconst (v := 4) hx hb dX5_endsTerm_32 (by decide) ?_
      refine lv_icmp_ge (tgt := 121) hx hb dX5_endsTerm_33 (by decide) (fun z => False.elim (nI_ge (a := i) (b := 4) (by omega) (by omega) z)) (fun _ => ?_)
      refine lv_aload_n hx hb dX5_endsTerm_36 rfl (lv_at hl 0 rfl) ?_
      refine lv_iload_n hx hb dX5_endsTerm_37 rfl (lv_at hl 1 rfl) ?_
      refine r_V0 X S (c_X5_owedOf l D cA ad _ G i hi hM) ob_M rfl (cwV 1 hts gX5_endsTerm_X5_owedOf rfl rfl rfl (by decide +kernel) ⟨Nat.le_of_ble_eq_true rfl, Nat.le_of_ble_eq_true rfl⟩) rfl hl.1 rfl (Nat.le_of_ble_eq_true rfl) dX5_endsTerm_38 ⟨Nat.zero_le _, Nat.zero_le _⟩ (fun H locs S => ?_)
      refine lv_istore_n (lv' := [(2, .int (owM G i)), (0, .ref (ad 36)), (1, .int (nI i))]) hx hb dX5_endsTerm_41 rfl hl (by decide) rfl (fun ls hl => ?_)
      refine lv_aload_n hx hb dX5_endsTerm_42 rfl (lv_at hl 1 rfl) ?_
      refine r_getr (q := 44) X S hw5 ob_M 14 ⟨rfl, by decide, rfl⟩ rfl (hts (.fieldLink RX5 42 "TermBillModel" "courses" "[I") (by decide +kernel)) dX5_endsTerm_43 ?_
      refine lv_iload_n hx hb dX5_endsTerm_46 rfl (lv_at hl 2 rfl) ?_
      refine lv_iconst (v := 0) hx hb dX5_endsTerm_47 (by decide) ?_
      refine r_iasN X S (k := 44) (n := 4) (by unfold Ar; decide) (q := i) rfl (by omega) (by decide) dX5_endsTerm_48 (fun H locs S => ?_)
      obtain ⟨F_1, eF_1⟩ : ∃ z, z = u2 G 44 i 0 := ⟨_, rfl⟩
      rw [← eF_1] at S
      refine lv_aload_n hx hb dX5_endsTerm_49 rfl (lv_at hl 1 rfl) ?_
      refine r_getr (q := 50) X S hw5 ob_M 20 ⟨rfl, by decide, rfl⟩ rfl (hts (.fieldLink RX5 60 "TermBillModel" "awards" "[I") (by decide +kernel)) dX5_endsTerm_50 ?_
      refine lv_iload_n hx hb dX5_endsTerm_53 rfl (lv_at hl 2 rfl) ?_
      refine lv_iconst (v := 0) hx hb dX5_endsTerm_54 (by decide) ?_
      refine r_iasN X S (k := 50) (n := 4) (by unfold Ar; decide) (q := i) rfl (by omega) (by decide) dX5_endsTerm_55 (fun H locs S => ?_)
      obtain ⟨F_2, eF_2⟩ : ∃ z, z = u2 F_1 50 i 0 := ⟨_, rfl⟩
      rw [← eF_2] at S
      refine lv_aload_n hx hb dX5_endsTerm_56 rfl (lv_at hl 1 rfl) ?_
      refine r_getr (q := 42) X S hw5 ob_M 12 ⟨rfl, by decide, rfl⟩ rfl (hts (.fieldLink RX5 36 "TermBillModel" "sponsorKinds" "[I") (by decide +kernel)) dX5_endsTerm_57 ?_
      refine lv_iload_n hx hb dX5_endsTerm_60 rfl (lv_at hl 2 rfl) ?_
      refine lv_iconst (v := 0) hx hb dX5_endsTerm_61 (by decide) ?_
      refine r_iasN X S (k := 42) (n := 4) (by unfold Ar; decide) (q := i) rfl (by omega) (by decide) dX5_endsTerm_62 (fun H locs S => ?_)
      obtain ⟨F_3, eF_3⟩ : ∃ z, z = u2 F_2 42 i 0 := ⟨_, rfl⟩
      rw [← eF_3] at S
      refine lv_aload_n hx hb dX5_endsTerm_63 rfl (lv_at hl 1 rfl) ?_
      refine r_getr (q := 43) X S hw5 ob_M 13 ⟨rfl, by decide, rfl⟩ rfl (hts (.fieldLink RX5 39 "TermBillModel" "sponsorLimits" "[I") (by decide +kernel)) dX5_endsTerm_64 ?_
      refine lv_iload_n hx hb dX5_endsTerm_67 rfl (lv_at hl 2 rfl) ?_
      refine lv_iconst (v := 0) hx hb dX5_endsTerm_68 (by decide) ?_
      refine r_iasN X S (k := 43) (n := 4) (by unfold Ar; decide) (q := i) rfl (by omega) (by decide) dX5_endsTerm_69 (fun H locs S => ?_)
      obtain ⟨F_4, eF_4⟩ : ∃ z, z = u2 F_3 43 i 0 := ⟨_, rfl⟩
      rw [← eF_4] at S
      refine lv_aload_n hx hb dX5_endsTerm_70 rfl (lv_at hl 1 rfl) ?_
      refine r_getr (q := 47) X S hw5 ob_M 17 ⟨rfl, by decide, rfl⟩ rfl (hts (.fieldLink RX5 51 "TermBillModel" "kept" "[I") (by decide +kernel)) dX5_endsTerm_71 ?_
      refine lv_iload_n hx hb dX5_endsTerm_74 rfl (lv_at hl 2 rfl) ?_
      refine lv_iconst (v := 0) hx hb dX5_endsTerm_75 (by decide) ?_
      refine r_iasN X S (k := 47) (n := 4) (by unfold Ar; decide) (q := i) rfl (by omega) (by decide) dX5_endsTerm_76 (fun H locs S => ?_)
      obtain ⟨F_5, eF_5⟩ : ∃ z, z = u2 F_4 47 i 0 := ⟨_, rfl⟩
      rw [← eF_5] at S
      refine lv_aload_n hx hb dX5_endsTerm_77 rfl (lv_at hl 1 rfl) ?_
      refine r_getr (q := 49) X S hw5 ob_M 19 ⟨rfl, by decide, rfl⟩ rfl (hts (.fieldLink RX5 57 "TermBillModel" "housing" "[I") (by decide +kernel)) dX5_endsTerm_78 ?_
      refine lv_iload_n hx hb dX5_endsTerm_81 rfl (lv_at hl 2 rfl) ?_
      refine lv_iconst (v := 0) hx hb dX5_endsTerm_82 (by decide) ?_
      refine r_iasN X S (k := 49) (n := 4) (by unfold Ar; decide) (q := i) rfl (by omega) (by decide) dX5_endsTerm_83 (fun H locs S => ?_)
      obtain ⟨F_6, eF_6⟩ : ∃ z, z = u2 F_5 49 i 0 := ⟨_, rfl⟩
      rw [← eF_6] at S
      refine lv_aload_n hx hb dX5_endsTerm_84 rfl (lv_at hl 1 rfl) ?_
      refine r_getr (q := 48) X S hw5 ob_M 18 ⟨rfl, by decide, rfl⟩ rfl (hts (.fieldLink RX5 54 "TermBillModel" "fees" "[I") (by decide +kernel)) dX5_endsTerm_85 ?_
      refine lv_iload_n hx hb dX5_endsTerm_88 rfl (lv_at hl 2 rfl) ?_
      refine lv_iload_n hx hb dX5_endsTerm_89 rfl (lv_at hl 0 rfl) ?_
      refine lv_if_le (tgt := 97) hx hb dX5_endsTerm_90 (by decide) (fun c_7 => ?_) (fun c_7 => ?_)
      · refine lv_iconst (v := 0) hx hb dX5_endsTerm_97 (by decide) ?_
        refine r_iasN X S (k := 48) (n := 4) (by unfold Ar; decide) (q := i) rfl (by omega) (by decide) dX5_endsTerm_98 (fun H locs S => ?_)
        obtain ⟨F_8, eF_8⟩ : ∃ z, z = u2 F_6 48 i 0 := ⟨_, rfl⟩
        rw [← eF_8] at S
        refine lv_aload_n hx hb dX5_endsTerm_99 rfl (lv_at hl 1 rfl) ?_
        refine r_getr (q := 53) X S hw5 ob_M 23 ⟨rfl, by decide, rfl⟩ rfl (hts (.fieldLink RX5 69 "TermBillModel" "paid" "[I") (by decide +kernel)) dX5_endsTerm_100 ?_
        refine lv_iload_n hx hb dX5_endsTerm_103 rfl (lv_at hl 2 rfl) ?_
        refine lv_iload_n hx hb dX5_endsTerm_104 rfl (lv_at hl 0 rfl) ?_
        refine lv_if_ge (tgt := 113) hx hb dX5_endsTerm_105 (by decide) (fun c_9 => ?_) (fun c_9 => ?_)
        · refine lv_iconst (v := 0) hx hb dX5_endsTerm_113 (by decide) ?_
          refine r_iasN X S (k := 53) (n := 4) (by unfold Ar; decide) (q := i) rfl (by omega) (by decide) dX5_endsTerm_114 (fun H locs S => ?_)
          obtain ⟨F_10, eF_10⟩ : ∃ z, z = u2 F_8 53 i 0 := ⟨_, rfl⟩
          rw [← eF_10] at S
          refine lv_iinc (v := nI (i + 1)) (lv' := [(1, .int (nI (i + 1))), (2, .int (owM G i)), (0, .ref (ad 36))]) hx hb dX5_endsTerm_115 hl (k := 2) rfl (nI_add _ _) (by decide) rfl (fun ls hl => ?_)
          refine lv_goto (tgt := 31) hx hb dX5_endsTerm_118 (by decide) ?_
          exact ih (i + 1) (by omega) kk F_10 (by rw [show etA (ecF F) (i + 1) = etS (etA (ecF F) i) i from rfl, ← eG]; unfold etS et6; rw [if_pos c_7, if_pos c_9, eF_10, eF_8, eF_6, eF_5, eF_4, eF_3, eF_2, eF_1]) H locs ls S (lv_sub hl [2, 0] rfl)
        · refine lv_iload_n hx hb dX5_endsTerm_108 rfl (lv_at hl 0 rfl) ?_
          refine lv_ineg hx hb dX5_endsTerm_109 ?_
          refine lv_goto (tgt := 114) hx hb dX5_endsTerm_110 (by decide) ?_
          refine r_iasN X S (k := 53) (n := 4) (by unfold Ar; decide) (q := i) rfl (by omega) (by decide) dX5_endsTerm_114 (fun H locs S => ?_)
          obtain ⟨F_11, eF_11⟩ : ∃ z, z = u2 F_8 53 i (-(owM G i)) := ⟨_, rfl⟩
          rw [← eF_11] at S
          refine lv_iinc (v := nI (i + 1)) (lv' := [(1, .int (nI (i + 1))), (2, .int (owM G i)), (0, .ref (ad 36))]) hx hb dX5_endsTerm_115 hl (k := 2) rfl (nI_add _ _) (by decide) rfl (fun ls hl => ?_)
          refine lv_goto (tgt := 31) hx hb dX5_endsTerm_118 (by decide) ?_
          exact ih (i + 1) (by omega) kk F_11 (by rw [show etA (ecF F) (i + 1) = etS (etA (ecF F) i) i from rfl, ← eG]; unfold etS et6; rw [if_pos c_7, if_neg c_9, eF_11, eF_8, eF_6, eF_5, eF_4, eF_3, eF_2, eF_1]) H locs ls S (lv_sub hl [2, 0] rfl)
      · refine lv_iload_n hx hb dX5_endsTerm_93 rfl (lv_at hl 0 rfl) ?_
        refine lv_goto (tgt := 98) hx hb dX5_endsTerm_94 (by decide) ?_
        refine r_iasN X S (k := 48) (n := 4) (by unfold Ar; decide) (q := i) rfl (by omega) (by decide) dX5_endsTerm_98 (fun H locs S => ?_)
        obtain ⟨F_12, eF_12⟩ : ∃ z, z = u2 F_6 48 i (owM G i) := ⟨_, rfl⟩
        rw [← eF_12] at S
        refine lv_aload_n hx hb dX5_endsTerm_99 rfl (lv_at hl 1 rfl) ?_
        refine r_getr (q := 53) X S hw5 ob_M 23 ⟨rfl, by decide, rfl⟩ rfl (hts (.fieldLink RX5 69 "TermBillModel" "paid" "[I") (by decide +kernel)) dX5_endsTerm_100 ?_
        refine lv_iload_n hx hb dX5_endsTerm_103 rfl (lv_at hl 2 rfl) ?_
        refine lv_iload_n hx hb dX5_endsTerm_104 rfl (lv_at hl 0 rfl) ?_
        refine lv_if_ge (tgt := 113) hx hb dX5_endsTerm_105 (by decide) (fun c_13 => ?_) (fun c_13 => ?_)
        · refine lv_iconst (v := 0) hx hb dX5_endsTerm_113 (by decide) ?_
          refine r_iasN X S (k := 53) (n := 4) (by unfold Ar; decide) (q := i) rfl (by omega) (by decide) dX5_endsTerm_114 (fun H locs S => ?_)
          obtain ⟨F_14, eF_14⟩ : ∃ z, z = u2 F_12 53 i 0 := ⟨_, rfl⟩
          rw [← eF_14] at S
          refine lv_iinc (v := nI (i + 1)) (lv' := [(1, .int (nI (i + 1))), (2, .int (owM G i)), (0, .ref (ad 36))]) hx hb dX5_endsTerm_115 hl (k := 2) rfl (nI_add _ _) (by decide) rfl (fun ls hl => ?_)
          refine lv_goto (tgt := 31) hx hb dX5_endsTerm_118 (by decide) ?_
          exact ih (i + 1) (by omega) kk F_14 (by rw [show etA (ecF F) (i + 1) = etS (etA (ecF F) i) i from rfl, ← eG]; unfold etS et6; rw [if_neg c_7, if_pos c_13, eF_14, eF_12, eF_6, eF_5, eF_4, eF_3, eF_2, eF_1]) H locs ls S (lv_sub hl [2, 0] rfl)
        · refine lv_iload_n hx hb dX5_endsTerm_108 rfl (lv_at hl 0 rfl) ?_
          refine lv_ineg hx hb dX5_endsTerm_109 ?_
          refine lv_goto (tgt := 114) hx hb dX5_endsTerm_110 (by decide) ?_
          refine r_iasN X S (k := 53) (n := 4) (by unfold Ar; decide) (q := i) rfl (by omega) (by decide) dX5_endsTerm_114 (fun H locs S => ?_)
          obtain ⟨F_15, eF_15⟩ : ∃ z, z = u2 F_12 53 i (-(owM G i)) := ⟨_, rfl⟩
          rw [← eF_15] at S
          refine lv_iinc (v := nI (i + 1)) (lv' := [(1, .int (nI (i + 1))), (2, .int (owM G i)), (0, .ref (ad 36))]) hx hb dX5_endsTerm_115 hl (k := 2) rfl (nI_add _ _) (by decide) rfl (fun ls hl => ?_)
          refine lv_goto (tgt := 31) hx hb dX5_endsTerm_118 (by decide) ?_
          exact ih (i + 1) (by omega) kk F_15 (by rw [show etA (ecF F) (i + 1) = etS (etA (ecF F) i) i from rfl, ← eG]; unfold etS et6; rw [if_neg c_7, if_neg c_13, eF_15, eF_12, eF_6, eF_5, eF_4, eF_3, eF_2, eF_1]) H locs ls S (lv_sub hl [2, 0] rfl)
  refine lv_iconst (v := 0) hx hb dX5_endsTerm_0 (by decide) ?_
  refine lv_istore_n (lv' := [(1, .int 0), (0, .ref (ad 36))]) hx hb dX5_endsTerm_1 rfl hl (by decide) rfl (fun ls hl => ?_)
  refine lv_iload_n hx hb dX5_endsTerm_2 rfl (lv_at hl 0 rfl) ?_
  refine lv_iconst (v := 4) hx hb dX5_endsTerm_3 (by decide) ?_
  refine lv_icmp_ge (tgt := 29) hx hb dX5_endsTerm_4 (by decide) (fun z => False.elim (by first | exact absurd z (by decide) | exact absurd (by decide) z)) (fun _ => ?_)
  refine lv_aload_n hx hb dX5_endsTerm_7 rfl (lv_at hl 1 rfl) ?_
  refine lv_iload_n hx hb dX5_endsTerm_8 rfl (lv_at hl 0 rfl) ?_
  refine lv_iload_n hx hb dX5_endsTerm_9 rfl (lv_at hl 0 rfl) ?_
  refine lv_iconst (v := 1) hx hb dX5_endsTerm_10 (by decide) ?_
  refine lv_iadd hx hb dX5_endsTerm_11 ?_
  refine lv_topi (fun x_16 ex_16 => ?_)
  obtain rfl : x_16 = 1 := ex_16.trans (by decide)
  refine r_V0 X S (c_X5_carries l D cA ad _ F 0 1 (by decide) (by decide) (hMM 0 (by decide)) (hMM 1 (by decide))) ob_M rfl (cwV 2 hts gX5_endsTerm_X5_carries rfl rfl rfl (by decide +kernel) ⟨Nat.le_of_ble_eq_true rfl, Nat.le_of_ble_eq_true rfl⟩) rfl hl.1 rfl (Nat.le_of_ble_eq_true rfl) dX5_endsTerm_12 ⟨Nat.zero_le _, Nat.zero_le _⟩ (fun H locs S => ?_)
  obtain ⟨F_17, eF_17⟩ : ∃ z, z = caM F 0 1 := ⟨_, rfl⟩
  rw [← eF_17] at S
  refine lv_aload_n hx hb dX5_endsTerm_15 rfl (lv_at hl 1 rfl) ?_
  refine lv_iload_n hx hb dX5_endsTerm_16 rfl (lv_at hl 0 rfl) ?_
  refine lv_iconst (v := 1) hx hb dX5_endsTerm_17 (by decide) ?_
  refine lv_iadd hx hb dX5_endsTerm_18 ?_
  refine lv_topi (fun x_18 ex_18 => ?_)
  obtain rfl : x_18 = 1 := ex_18.trans (by decide)
  refine lv_iload_n hx hb dX5_endsTerm_19 rfl (lv_at hl 0 rfl) ?_
  refine r_V0 X S (c_X5_carries l D cA ad _ F_17 1 0 (by decide) (by decide) (by rw [eF_17]; exact OKM_caM (hMM 1 (by decide))) (by rw [eF_17]; exact OKM_caM (hMM 0 (by decide)))) ob_M rfl (cwV 2 hts gX5_endsTerm_X5_carries rfl rfl rfl (by decide +kernel) ⟨Nat.le_of_ble_eq_true rfl, Nat.le_of_ble_eq_true rfl⟩) rfl hl.1 rfl (Nat.le_of_ble_eq_true rfl) dX5_endsTerm_20 ⟨Nat.zero_le _, Nat.zero_le _⟩ (fun H locs S => ?_)
  obtain ⟨F_19, eF_19⟩ : ∃ z, z = caM F_17 1 0 := ⟨_, rfl⟩
  rw [← eF_19] at S
  refine lv_iinc (v := 2) (lv' := [(1, .int 2), (0, .ref (ad 36))]) hx hb dX5_endsTerm_23 hl (k := 0) rfl (by decide) (by decide) rfl (fun ls hl => ?_)
  refine lv_goto (tgt := 2) hx hb dX5_endsTerm_26 (by decide) ?_
  refine lv_iload_n hx hb dX5_endsTerm_2 rfl (lv_at hl 0 rfl) ?_
  refine lv_iconst (v := 4) hx hb dX5_endsTerm_3 (by decide) ?_
  refine lv_icmp_ge (tgt := 29) hx hb dX5_endsTerm_4 (by decide) (fun z => False.elim (by first | exact absurd z (by decide) | exact absurd (by decide) z)) (fun _ => ?_)
  refine lv_aload_n hx hb dX5_endsTerm_7 rfl (lv_at hl 1 rfl) ?_
  refine lv_iload_n hx hb dX5_endsTerm_8 rfl (lv_at hl 0 rfl) ?_
  refine lv_iload_n hx hb dX5_endsTerm_9 rfl (lv_at hl 0 rfl) ?_
  refine lv_iconst (v := 1) hx hb dX5_endsTerm_10 (by decide) ?_
  refine lv_iadd hx hb dX5_endsTerm_11 ?_
  refine lv_topi (fun x_20 ex_20 => ?_)
  obtain rfl : x_20 = 3 := ex_20.trans (by decide)
  refine r_V0 X S (c_X5_carries l D cA ad _ F_19 2 3 (by decide) (by decide) (by rw [eF_19]; exact OKM_caM (by rw [eF_17]; exact OKM_caM (hMM 2 (by decide)))) (by rw [eF_19]; exact OKM_caM (by rw [eF_17]; exact OKM_caM (hMM 3 (by decide))))) ob_M rfl (cwV 2 hts gX5_endsTerm_X5_carries rfl rfl rfl (by decide +kernel) ⟨Nat.le_of_ble_eq_true rfl, Nat.le_of_ble_eq_true rfl⟩) rfl hl.1 rfl (Nat.le_of_ble_eq_true rfl) dX5_endsTerm_12 ⟨Nat.zero_le _, Nat.zero_le _⟩ (fun H locs S => ?_)
  obtain ⟨F_21, eF_21⟩ : ∃ z, z = caM F_19 2 3 := ⟨_, rfl⟩
  rw [← eF_21] at S
  refine lv_aload_n hx hb dX5_endsTerm_15 rfl (lv_at hl 1 rfl) ?_
  refine lv_iload_n hx hb dX5_endsTerm_16 rfl (lv_at hl 0 rfl) ?_
  refine lv_iconst (v := 1) hx hb dX5_endsTerm_17 (by decide) ?_
  refine lv_iadd hx hb dX5_endsTerm_18 ?_
  refine lv_topi (fun x_22 ex_22 => ?_)
  obtain rfl : x_22 = 3 := ex_22.trans (by decide)
  refine lv_iload_n hx hb dX5_endsTerm_19 rfl (lv_at hl 0 rfl) ?_
  refine r_V0 X S (c_X5_carries l D cA ad _ F_21 3 2 (by decide) (by decide) (by rw [eF_21]; exact OKM_caM (by rw [eF_19]; exact OKM_caM (by rw [eF_17]; exact OKM_caM (hMM 3 (by decide))))) (by rw [eF_21]; exact OKM_caM (by rw [eF_19]; exact OKM_caM (by rw [eF_17]; exact OKM_caM (hMM 2 (by decide)))))) ob_M rfl (cwV 2 hts gX5_endsTerm_X5_carries rfl rfl rfl (by decide +kernel) ⟨Nat.le_of_ble_eq_true rfl, Nat.le_of_ble_eq_true rfl⟩) rfl hl.1 rfl (Nat.le_of_ble_eq_true rfl) dX5_endsTerm_20 ⟨Nat.zero_le _, Nat.zero_le _⟩ (fun H locs S => ?_)
  obtain ⟨F_23, eF_23⟩ : ∃ z, z = caM F_21 3 2 := ⟨_, rfl⟩
  rw [← eF_23] at S
  refine lv_iinc (v := 4) (lv' := [(1, .int 4), (0, .ref (ad 36))]) hx hb dX5_endsTerm_23 hl (k := 0) rfl (by decide) (by decide) rfl (fun ls hl => ?_)
  refine lv_goto (tgt := 2) hx hb dX5_endsTerm_26 (by decide) ?_
  refine lv_iload_n hx hb dX5_endsTerm_2 rfl (lv_at hl 0 rfl) ?_
  refine lv_iconst (v := 4) hx hb dX5_endsTerm_3 (by decide) ?_
  refine lv_icmp_ge (tgt := 29) hx hb dX5_endsTerm_4 (by decide) (fun _ => ?_) (fun z => False.elim (by first | exact absurd z (by decide) | exact absurd (by decide) z))
  refine lv_iconst (v := 0) hx hb dX5_endsTerm_29 (by decide) ?_
  refine lv_istore_n (lv' := [(1, .int 0), (0, .ref (ad 36))]) hx hb dX5_endsTerm_30 rfl hl (by decide) rfl (fun ls hl => ?_)
  refine loop 4 0 (by omega) (fun H locs ls S hl => ?_) F_23 (by show _ = ecF F; unfold ecF; rw [eF_23, eF_21, eF_19, eF_17]) _ _ ls S (by rw [nI_0]; exact (lv_sub hl [1, 0] rfl))
  obtain ⟨G9, eG9⟩ : ∃ z, z = etA (ecF F) 4 := ⟨_, rfl⟩
  rw [← eG9] at S
  refine lv_aload_n hx hb dX5_endsTerm_121 rfl (lv_at hl 0 rfl) ?_
  refine lv_iconst (v := 0) hx hb dX5_endsTerm_122 (by decide) ?_
  refine r_puti X S hw5 ob_M 1 ⟨rfl, by decide, rfl⟩ rfl (hts (.fieldLink RX5 133 "TermBillModel" "week" "I") (by decide +kernel)) tyX5 tyX5_ok nmX5 rfl rfl dX5_endsTerm_123 (fun H locs S => ?_)
  obtain ⟨F_24, eF_24⟩ : ∃ z, z = u2 G9 36 1 0 := ⟨_, rfl⟩
  rw [← eF_24] at S
  refine lv_aload_n hx hb dX5_endsTerm_126 rfl (lv_at hl 0 rfl) ?_
  refine lv_dup hx hb dX5_endsTerm_127 rfl ?_
  refine r_geti X S hw5 ob_M 2 ⟨rfl, by decide, rfl⟩ rfl (hts (.fieldLink RX5 144 "TermBillModel" "term" "I") (by decide +kernel)) dX5_endsTerm_128 ?_
  refine lv_iconst (v := 1) hx hb dX5_endsTerm_131 (by decide) ?_
  refine lv_iadd hx hb dX5_endsTerm_132 ?_
  refine r_puti X S hw5 ob_M 2 ⟨rfl, by decide, rfl⟩ rfl (hts (.fieldLink RX5 144 "TermBillModel" "term" "I") (by decide +kernel)) tyX5 tyX5_ok nmX5 rfl rfl dX5_endsTerm_133 (fun H locs S => ?_)
  obtain ⟨F_25, eF_25⟩ : ∃ z, z = u2 F_24 36 2 ((F_24 36 2) + 1) := ⟨_, rfl⟩
  rw [← eF_25] at S
  exact r_vret X S hr dX5_endsTerm_136 (Nat.le_of_ble_eq_true rfl) (Nat.le_of_ble_eq_true rfl) (by unfold enM; simp only [eF_25, eF_24, eG9])

set_option maxHeartbeats 1000000 in
set_option maxRecDepth 100000 in
theorem c_X5_falls (l : Launch) (D : va_G) (cA : Nat → ClassId) (ad : Nat → Nat) (sz : Nat) (F : FF) (i : Nat) (hi : i < 4) : CI l D cA ad sz yX5_falls wsX5_falls 1 22 0 0 [.ref (ad 36), .int (nI i)] F none (flM F i) := by
  refine CI_of (own := RX5) (cc := cX5_falls) (maxL := 4) (ret := none) (by decide +kernel) rfl rfl (Nat.le_of_ble_eq_true rfl) ?_
  intro p e s m below meth c ls X S hr hl
  obtain ⟨⟨hx, hb, hml, hown, hts⟩, hE, hI, hlocks⟩ := id X
  have hl : lv_has ls 4 [(0, .ref (ad 36)), (1, .int (nI i))] := hl
  have hw5 : ∀ w ∈ wsX50, w.before _ s = true := fun w h => hts w ((by decide +kernel : ∀ w ∈ wsX50, w ∈ wsX5_falls) w h)
  refine lv_bipush (v := 16) hx hb dX5_falls_0 (by decide) ?_
  refine lv_aload_n hx hb dX5_falls_2 rfl (lv_at hl 0 rfl) ?_
  refine r_geti X S hw5 ob_M 2 ⟨rfl, by decide, rfl⟩ rfl (hts (.fieldLink RX5 144 "TermBillModel" "term" "I") (by decide +kernel)) dX5_falls_3 ?_
  refine lv_imul hx hb dX5_falls_6 ?_
  refine lv_aload_n hx hb dX5_falls_7 rfl (lv_at hl 0 rfl) ?_
  refine r_geti X S hw5 ob_M 1 ⟨rfl, by decide, rfl⟩ rfl (hts (.fieldLink RX5 133 "TermBillModel" "week" "I") (by decide +kernel)) dX5_falls_8 ?_
  refine lv_iadd hx hb dX5_falls_11 ?_
  refine lv_aload_n hx hb dX5_falls_12 rfl (lv_at hl 0 rfl) ?_
  refine r_getr (q := 57) X S hw5 ob_M 27 ⟨rfl, by decide, rfl⟩ rfl (hts (.fieldLink RX5 81 "TermBillModel" "madeAt" "[I") (by decide +kernel)) dX5_falls_13 ?_
  refine lv_iload_n hx hb dX5_falls_16 rfl (lv_at hl 1 rfl) ?_
  refine r_ialN X S (k := 57) (n := 4) (by unfold Ar; decide) (q := i) rfl (by omega) (by decide) dX5_falls_17 ?_
  refine lv_isub hx hb dX5_falls_18 ?_
  refine lv_istore_n (lv' := [(2, .int (((16 * (F 36 2)) + (F 36 1)) - (F 57 i))), (0, .ref (ad 36)), (1, .int (nI i))]) hx hb dX5_falls_19 rfl hl (by decide) rfl (fun ls hl => ?_)
  refine lv_iload_n hx hb dX5_falls_20 rfl (lv_at hl 0 rfl) ?_
  refine lv_iconst (v := 2) hx hb dX5_falls_21 (by decide) ?_
  refine lv_idiv hx hb dX5_falls_22 (by decide) ?_
  refine lv_istore_n (lv' := [(3, .int ((((16 * (F 36 2)) + (F 36 1)) - (F 57 i)) / 2)), (2, .int (((16 * (F 36 2)) + (F 36 1)) - (F 57 i))), (0, .ref (ad 36)), (1, .int (nI i))]) hx hb dX5_falls_23 rfl hl (by decide) rfl (fun ls hl => ?_)
  refine lv_iload_n hx hb dX5_falls_24 rfl (lv_at hl 1 rfl) ?_
  refine lv_iconst (v := 2) hx hb dX5_falls_25 (by decide) ?_
  refine lv_irem hx hb dX5_falls_26 (by decide) ?_
  refine lv_if_ne (tgt := 81) hx hb dX5_falls_27 (by decide) (fun c_1 => ?_) (fun c_1 => ?_)
  · exact r_vret X S hr dX5_falls_81 (Nat.le_of_ble_eq_true rfl) (Nat.le_of_ble_eq_true rfl) (by unfold flM; rw [if_neg (by rw [show flB F i = false from (by unfold flB fwM; rw [decide_eq_false c_1]; rfl)]; decide)])
  · refine lv_iload_n hx hb dX5_falls_30 rfl (lv_at hl 0 rfl) ?_
    refine lv_iconst (v := 1) hx hb dX5_falls_31 (by decide) ?_
    refine lv_aload_n hx hb dX5_falls_32 rfl (lv_at hl 2 rfl) ?_
    refine r_getr (q := 54) X S hw5 ob_M 24 ⟨rfl, by decide, rfl⟩ rfl (hts (.fieldLink RX5 72 "TermBillModel" "planned" "[I") (by decide +kernel)) dX5_falls_33 ?_
    refine lv_iload_n hx hb dX5_falls_36 rfl (lv_at hl 3 rfl) ?_
    refine r_ialN X S (k := 54) (n := 4) (by unfold Ar; decide) (q := i) rfl (by omega) (by decide) dX5_falls_37 ?_
    refine r_S0 X S (c_X5_in l D cA ad _ F ((((16 * (F 36 2)) + (F 36 1)) - (F 57 i)) / 2) 1 (F 54 i)) (va_cwS 3 hts gX5_falls_X5_in rfl rfl rfl (by decide +kernel) ⟨Nat.le_of_ble_eq_true rfl, Nat.le_of_ble_eq_true rfl⟩) rfl hl.1 rfl (Nat.le_of_ble_eq_true rfl) dX5_falls_38 ⟨Nat.zero_le _, Nat.zero_le _⟩ (fun H locs S => ?_)
    refine lv_if_eq (tgt := 81) hx hb dX5_falls_41 (by decide) (fun c_2 => ?_) (fun c_2 => ?_)
    · have c_2 : (wi ((((16 * (F 36 2)) + (F 36 1)) - (F 57 i)) / 2) 1 (F 54 i)) = false := bI_f c_2
      exact r_vret X S hr dX5_falls_81 (Nat.le_of_ble_eq_true rfl) (Nat.le_of_ble_eq_true rfl) (by unfold flM; rw [if_neg (by rw [show flB F i = false from (by unfold flB fwM; rw [c_2, Bool.false_and, Bool.and_false])]; decide)])
    · have c_2 : (wi ((((16 * (F 36 2)) + (F 36 1)) - (F 57 i)) / 2) 1 (F 54 i)) = true := bI_t c_2
      refine lv_aload_n hx hb dX5_falls_44 rfl (lv_at hl 2 rfl) ?_
      refine r_getr (q := 58) X S hw5 ob_M 28 ⟨rfl, by decide, rfl⟩ rfl (hts (.fieldLink RX5 84 "TermBillModel" "since" "[I") (by decide +kernel)) dX5_falls_45 ?_
      refine lv_iload_n hx hb dX5_falls_48 rfl (lv_at hl 3 rfl) ?_
      refine r_ialN X S (k := 58) (n := 4) (by unfold Ar; decide) (q := i) rfl (by omega) (by decide) dX5_falls_49 ?_
      refine lv_iload_n hx hb dX5_falls_50 rfl (lv_at hl 0 rfl) ?_
      refine lv_aload_n hx hb dX5_falls_51 rfl (lv_at hl 2 rfl) ?_
      refine r_getr (q := 55) X S hw5 ob_M 25 ⟨rfl, by decide, rfl⟩ rfl (hts (.fieldLink RX5 75 "TermBillModel" "parts" "[I") (by decide +kernel)) dX5_falls_52 ?_
      refine lv_iload_n hx hb dX5_falls_55 rfl (lv_at hl 3 rfl) ?_
      refine r_ialN X S (k := 55) (n := 4) (by unfold Ar; decide) (q := i) rfl (by omega) (by decide) dX5_falls_56 ?_
      refine lv_imul hx hb dX5_falls_57 ?_
      refine lv_aload_n hx hb dX5_falls_58 rfl (lv_at hl 2 rfl) ?_
      refine r_getr (q := 56) X S hw5 ob_M 26 ⟨rfl, by decide, rfl⟩ rfl (hts (.fieldLink RX5 78 "TermBillModel" "rests" "[I") (by decide +kernel)) dX5_falls_59 ?_
      refine lv_iload_n hx hb dX5_falls_62 rfl (lv_at hl 3 rfl) ?_
      refine r_ialN X S (k := 56) (n := 4) (by unfold Ar; decide) (q := i) rfl (by omega) (by decide) dX5_falls_63 ?_
      refine lv_iadd hx hb dX5_falls_64 ?_
      refine lv_icmp_ge (tgt := 81) hx hb dX5_falls_65 (by decide) (fun c_3 => ?_) (fun c_3 => ?_)
      · exact r_vret X S hr dX5_falls_81 (Nat.le_of_ble_eq_true rfl) (Nat.le_of_ble_eq_true rfl) (by unfold flM; rw [if_neg (by rw [show flB F i = false from (by unfold flB fwM; rw [decide_eq_true c_3, Bool.not_true, Bool.and_false, Bool.and_false])]; decide)])
      · refine lv_aload_n hx hb dX5_falls_68 rfl (lv_at hl 2 rfl) ?_
        refine r_getr (q := 48) X S hw5 ob_M 18 ⟨rfl, by decide, rfl⟩ rfl (hts (.fieldLink RX5 54 "TermBillModel" "fees" "[I") (by decide +kernel)) dX5_falls_69 ?_
        refine lv_iload_n hx hb dX5_falls_72 rfl (lv_at hl 3 rfl) ?_
        refine lv_dup2_11 hx hb dX5_falls_73 rfl rfl ?_
        refine r_ialN X S (k := 48) (n := 4) (by unfold Ar; decide) (q := i) rfl (by omega) (by decide) dX5_falls_74 ?_
        refine lv_aload_n hx hb dX5_falls_75 rfl (lv_at hl 2 rfl) ?_
        refine r_geti X S hw5 ob_M 7 ⟨rfl, by decide, rfl⟩ rfl (hts (.fieldLink RX5 23 "TermBillModel" "lateFee" "I") (by decide +kernel)) dX5_falls_76 ?_
        refine lv_iadd hx hb dX5_falls_79 ?_
        refine r_iasN X S (k := 48) (n := 4) (by unfold Ar; decide) (q := i) rfl (by omega) (by decide) dX5_falls_80 (fun H locs S => ?_)
        obtain ⟨F_4, eF_4⟩ : ∃ z, z = u2 F 48 i ((F 48 i) + (F 36 7)) := ⟨_, rfl⟩
        rw [← eF_4] at S
        exact r_vret X S hr dX5_falls_81 (Nat.le_of_ble_eq_true rfl) (Nat.le_of_ble_eq_true rfl) (by unfold flM; rw [if_pos (by unfold flB fwM; rw [decide_eq_true c_1, c_2, decide_eq_false c_3]; rfl), eF_4])

set_option maxHeartbeats 1000000 in
set_option maxRecDepth 100000 in
theorem c_X5_setRate (l : Launch) (D : va_G) (cA : Nat → ClassId) (ad : Nat → Nat) (sz : Nat) (F : FF) (lv : Int32) (b : Bool) (rt : Int32) (h1 : wi lv 0 1 = true) (h2 : wi rt 0 100000 = true) : CI l D cA ad sz yX5_setRate wsX5_setRate 1 22 0 0 [.ref (ad 36), .int lv, .int (bI b), .int rt] F (some (.int (th F 0 37 (plc lv (bI b))))) (u2 (th F 0) 37 (plc lv (bI b)) rt) := by
  refine CI_of (own := RX5) (cc := cX5_setRate) (maxL := 5) (ret := (some .int)) (by decide +kernel) rfl rfl (Nat.le_of_ble_eq_true rfl) ?_
  intro p e s m below meth c ls X S hr hl
  obtain ⟨⟨hx, hb, hml, hown, hts⟩, hE, hI, hlocks⟩ := id X
  have hl : lv_has ls 5 [(0, .ref (ad 36)), (1, .int lv), (2, .int (bI b)), (3, .int rt)] := hl
  have hw5 : ∀ w ∈ wsX50, w.before _ s = true := fun w h => hts w ((by decide +kernel : ∀ w ∈ wsX50, w ∈ wsX5_setRate) w h)
  refine lv_aload_n hx hb dX5_setRate_0 rfl (lv_at hl 0 rfl) ?_
  refine lv_iload_n hx hb dX5_setRate_1 rfl (lv_at hl 1 rfl) ?_
  refine lv_iconst (v := 0) hx hb dX5_setRate_2 (by decide) ?_
  refine lv_iconst (v := 1) hx hb dX5_setRate_3 (by decide) ?_
  refine r_S0 X S (c_X5_in l D cA ad _ F lv 0 1) (va_cwS 3 hts gX5_setRate_X5_in rfl rfl rfl (by decide +kernel) ⟨Nat.le_of_ble_eq_true rfl, Nat.le_of_ble_eq_true rfl⟩) rfl hl.1 rfl (Nat.le_of_ble_eq_true rfl) dX5_setRate_4 ⟨Nat.zero_le _, Nat.zero_le _⟩ (fun H locs S => ?_)
  refine lv_if_eq (tgt := 24) hx hb dX5_setRate_7 (by decide) (fun z => False.elim (by rw [h1] at z; revert z; decide)) (fun _ => ?_)
  refine lv_iload_n hx hb dX5_setRate_10 rfl (lv_at hl 3 rfl) ?_
  refine lv_iconst (v := 0) hx hb dX5_setRate_11 (by decide) ?_
  refine lv_ldc (v := 100000) hx hb hown (hts (.constant RX5 94 100000) (by decide +kernel)) dX5_setRate_12 ?_
  refine r_S0 X S (c_X5_in l D cA ad _ F rt 0 100000) (va_cwS 3 hts gX5_setRate_X5_in rfl rfl rfl (by decide +kernel) ⟨Nat.le_of_ble_eq_true rfl, Nat.le_of_ble_eq_true rfl⟩) rfl hl.1 rfl (Nat.le_of_ble_eq_true rfl) dX5_setRate_14 ⟨Nat.zero_le _, Nat.zero_le _⟩ (fun H locs S => ?_)
  refine lv_if_eq (tgt := 24) hx hb dX5_setRate_17 (by decide) (fun z => False.elim (by rw [h2] at z; revert z; decide)) (fun _ => ?_)
  refine lv_iconst (v := 0) hx hb dX5_setRate_20 (by decide) ?_
  refine lv_goto (tgt := 25) hx hb dX5_setRate_21 (by decide) ?_
  refine r_V0 X S (c_X5_holds0 l D cA ad _ F) ob_M rfl (cwV 1 hts gX5_setRate_X5_holds rfl rfl rfl (by decide +kernel) ⟨Nat.le_of_ble_eq_true rfl, Nat.le_of_ble_eq_true rfl⟩) rfl hl.1 rfl (Nat.le_of_ble_eq_true rfl) dX5_setRate_25 ⟨Nat.zero_le _, Nat.zero_le _⟩ (fun H locs S => ?_)
  obtain ⟨F_1, eF_1⟩ : ∃ z, z = u2 F 36 0 0 := ⟨_, rfl⟩
  rw [← eF_1] at S
  refine lv_if_ne (tgt := 33) hx hb dX5_setRate_28 (by decide) (fun _ => ?_) (fun z => False.elim (by first | exact absurd z (by decide) | exact absurd (by decide) z))
  refine lv_aload_n hx hb dX5_setRate_33 rfl (lv_at hl 0 rfl) ?_
  refine r_getr (q := 37) X S hw5 ob_M 3 ⟨rfl, by decide, rfl⟩ rfl (hts (.fieldLink RX5 7 "TermBillModel" "rates" "[I") (by decide +kernel)) dX5_setRate_34 ?_
  refine lv_iload_n hx hb dX5_setRate_37 rfl (lv_at hl 1 rfl) ?_
  refine lv_iload_n hx hb dX5_setRate_38 rfl (lv_at hl 2 rfl) ?_
  refine r_S0 X S (c_X5_rateOf l D cA ad _ F_1 lv (bI b) (wi_01 h1)) (va_cwS 2 hts gX5_setRate_X5_rateOf rfl rfl rfl (by decide +kernel) ⟨Nat.le_of_ble_eq_true rfl, Nat.le_of_ble_eq_true rfl⟩) rfl hl.1 rfl (Nat.le_of_ble_eq_true rfl) dX5_setRate_39 ⟨Nat.zero_le _, Nat.zero_le _⟩ (fun H locs S => ?_)
  refine r_ialN X S (k := 37) (n := 4) (by unfold Ar; decide) (q := plc lv (bI b)) rfl (plc_lt _ _) (by decide) dX5_setRate_42 ?_
  refine lv_istore (lv' := [(4, .int (F_1 37 (plc lv (bI b)))), (0, .ref (ad 36)), (1, .int lv), (2, .int (bI b)), (3, .int rt)]) hx hb dX5_setRate_43 hl (by decide) rfl (fun ls hl => ?_)
  refine lv_aload_n hx hb dX5_setRate_45 rfl (lv_at hl 1 rfl) ?_
  refine r_getr (q := 37) X S hw5 ob_M 3 ⟨rfl, by decide, rfl⟩ rfl (hts (.fieldLink RX5 7 "TermBillModel" "rates" "[I") (by decide +kernel)) dX5_setRate_46 ?_
  refine lv_iload_n hx hb dX5_setRate_49 rfl (lv_at hl 2 rfl) ?_
  refine lv_iload_n hx hb dX5_setRate_50 rfl (lv_at hl 3 rfl) ?_
  refine r_S0 X S (c_X5_rateOf l D cA ad _ F_1 lv (bI b) (wi_01 h1)) (va_cwS 2 hts gX5_setRate_X5_rateOf rfl rfl rfl (by decide +kernel) ⟨Nat.le_of_ble_eq_true rfl, Nat.le_of_ble_eq_true rfl⟩) rfl hl.1 rfl (Nat.le_of_ble_eq_true rfl) dX5_setRate_51 ⟨Nat.zero_le _, Nat.zero_le _⟩ (fun H locs S => ?_)
  refine lv_iload_n hx hb dX5_setRate_54 rfl (lv_at hl 4 rfl) ?_
  refine r_iasN X S (k := 37) (n := 4) (by unfold Ar; decide) (q := plc lv (bI b)) rfl (plc_lt _ _) (by decide) dX5_setRate_55 (fun H locs S => ?_)
  obtain ⟨F_2, eF_2⟩ : ∃ z, z = u2 F_1 37 (plc lv (bI b)) rt := ⟨_, rfl⟩
  rw [← eF_2] at S
  refine lv_iload hx hb dX5_setRate_56 (lv_at hl 0 rfl) ?_
  exact r_iret X S hr dX5_setRate_58 (Nat.le_of_ble_eq_true rfl) (Nat.le_of_ble_eq_true rfl) (by simp only [th, eF_1]) (by simp only [th, eF_2, eF_1])

set_option maxHeartbeats 1000000 in
set_option maxRecDepth 100000 in
theorem e1_X5_setRate (l : Launch) (D : va_G) (cA : Nat → ClassId) (ad : Nat → Nat) (sz : Nat) (F : FF) (lv : Int32) (b : Bool) (rt : Int32) (h : ¬ (wi lv 0 1 = true ∧ wi rt 0 100000 = true)) : CI l D cA ad sz yX5_setRate wsX5_setRate 1 22 0 0 [.ref (ad 36), .int lv, .int (bI b), .int rt] F (some (.int 0)) (th F 1) := by
  refine CI_of (own := RX5) (cc := cX5_setRate) (maxL := 5) (ret := (some .int)) (by decide +kernel) rfl rfl (Nat.le_of_ble_eq_true rfl) ?_
  intro p e s m below meth c ls X S hr hl
  obtain ⟨⟨hx, hb, hml, hown, hts⟩, hE, hI, hlocks⟩ := id X
  have hl : lv_has ls 5 [(0, .ref (ad 36)), (1, .int lv), (2, .int (bI b)), (3, .int rt)] := hl
  refine lv_aload_n hx hb dX5_setRate_0 rfl (lv_at hl 0 rfl) ?_
  refine lv_iload_n hx hb dX5_setRate_1 rfl (lv_at hl 1 rfl) ?_
  refine lv_iconst (v := 0) hx hb dX5_setRate_2 (by decide) ?_
  refine lv_iconst (v := 1) hx hb dX5_setRate_3 (by decide) ?_
  refine r_S0 X S (c_X5_in l D cA ad _ F lv 0 1) (va_cwS 3 hts gX5_setRate_X5_in rfl rfl rfl (by decide +kernel) ⟨Nat.le_of_ble_eq_true rfl, Nat.le_of_ble_eq_true rfl⟩) rfl hl.1 rfl (Nat.le_of_ble_eq_true rfl) dX5_setRate_4 ⟨Nat.zero_le _, Nat.zero_le _⟩ (fun H locs S => ?_)
  refine lv_if_eq (tgt := 24) hx hb dX5_setRate_7 (by decide) (fun c_1 => ?_) (fun c_1 => ?_)
  · have c_1 : (wi lv 0 1) = false := bI_f c_1
    refine lv_iconst (v := 1) hx hb dX5_setRate_24 (by decide) ?_
    refine r_V0 X S (c_X5_holdsn l D cA ad _ F 1 (by decide)) ob_M rfl (cwV 1 hts gX5_setRate_X5_holds rfl rfl rfl (by decide +kernel) ⟨Nat.le_of_ble_eq_true rfl, Nat.le_of_ble_eq_true rfl⟩) rfl hl.1 rfl (Nat.le_of_ble_eq_true rfl) dX5_setRate_25 ⟨Nat.zero_le _, Nat.zero_le _⟩ (fun H locs S => ?_)
    obtain ⟨F_2, eF_2⟩ : ∃ z, z = u2 F 36 0 1 := ⟨_, rfl⟩
    rw [← eF_2] at S
    refine lv_if_ne (tgt := 33) hx hb dX5_setRate_28 (by decide) (fun z => False.elim (by first | exact absurd z (by decide) | exact absurd (by decide) z)) (fun _ => ?_)
    refine lv_iconst (v := 0) hx hb dX5_setRate_31 (by decide) ?_
    exact r_iret X S hr dX5_setRate_32 (Nat.le_of_ble_eq_true rfl) (Nat.le_of_ble_eq_true rfl) (by simp only [c_1, ↓reduceIte]) (by simp only [th, eF_2, c_1, ↓reduceIte])
  · have c_1 : (wi lv 0 1) = true := bI_t c_1
    refine lv_iload_n hx hb dX5_setRate_10 rfl (lv_at hl 3 rfl) ?_
    refine lv_iconst (v := 0) hx hb dX5_setRate_11 (by decide) ?_
    refine lv_ldc (v := 100000) hx hb hown (hts (.constant RX5 94 100000) (by decide +kernel)) dX5_setRate_12 ?_
    refine r_S0 X S (c_X5_in l D cA ad _ F rt 0 100000) (va_cwS 3 hts gX5_setRate_X5_in rfl rfl rfl (by decide +kernel) ⟨Nat.le_of_ble_eq_true rfl, Nat.le_of_ble_eq_true rfl⟩) rfl hl.1 rfl (Nat.le_of_ble_eq_true rfl) dX5_setRate_14 ⟨Nat.zero_le _, Nat.zero_le _⟩ (fun H locs S => ?_)
    refine lv_if_eq (tgt := 24) hx hb dX5_setRate_17 (by decide) (fun _ => ?_) (fun z => False.elim (h ⟨c_1, bI_t z⟩))
    refine lv_iconst (v := 1) hx hb dX5_setRate_24 (by decide) ?_
    refine r_V0 X S (c_X5_holdsn l D cA ad _ F 1 (by decide)) ob_M rfl (cwV 1 hts gX5_setRate_X5_holds rfl rfl rfl (by decide +kernel) ⟨Nat.le_of_ble_eq_true rfl, Nat.le_of_ble_eq_true rfl⟩) rfl hl.1 rfl (Nat.le_of_ble_eq_true rfl) dX5_setRate_25 ⟨Nat.zero_le _, Nat.zero_le _⟩ (fun H locs S => ?_)
    obtain ⟨F_3, eF_3⟩ : ∃ z, z = u2 F 36 0 1 := ⟨_, rfl⟩
    rw [← eF_3] at S
    refine lv_if_ne (tgt := 33) hx hb dX5_setRate_28 (by decide) (fun z => False.elim (by first | exact absurd z (by decide) | exact absurd (by decide) z)) (fun _ => ?_)
    refine lv_iconst (v := 0) hx hb dX5_setRate_31 (by decide) ?_
    exact r_iret X S hr dX5_setRate_32 (Nat.le_of_ble_eq_true rfl) (Nat.le_of_ble_eq_true rfl) (by simp only [c_1, ↓reduceIte]) (by simp only [th, eF_3, c_1, ↓reduceIte])

set_option maxHeartbeats 1000000 in
set_option maxRecDepth 100000 in
theorem c_X5_setBand (l : Launch) (D : va_G) (cA : Nat → ClassId) (ad : Nat → Nat) (sz : Nat) (F : FF) (fr tt : Int32) (h1 : wi fr 1 30 = true) (h2 : wi tt fr 30 = true) : CI l D cA ad sz yX5_setBand wsX5_setBand 1 22 0 0 [.ref (ad 36), .int fr, .int tt] F none (u2 (u2 (th F 0) 36 4 fr) 36 5 tt) := by
  refine CI_of (own := RX5) (cc := cX5_setBand) (maxL := 3) (ret := none) (by decide +kernel) rfl rfl (Nat.le_of_ble_eq_true rfl) ?_
  intro p e s m below meth c ls X S hr hl
  obtain ⟨⟨hx, hb, hml, hown, hts⟩, hE, hI, hlocks⟩ := id X
  have hl : lv_has ls 3 [(0, .ref (ad 36)), (1, .int fr), (2, .int tt)] := hl
  have hw5 : ∀ w ∈ wsX50, w.before _ s = true := fun w h => hts w ((by decide +kernel : ∀ w ∈ wsX50, w ∈ wsX5_setBand) w h)
  refine lv_aload_n hx hb dX5_setBand_0 rfl (lv_at hl 0 rfl) ?_
  refine lv_iload_n hx hb dX5_setBand_1 rfl (lv_at hl 1 rfl) ?_
  refine lv_iconst (v := 1) hx hb dX5_setBand_2 (by decide) ?_
  refine lv_bipush (v := 30) hx hb dX5_setBand_3 (by decide) ?_
  refine r_S0 X S (c_X5_in l D cA ad _ F fr 1 30) (va_cwS 3 hts gX5_setBand_X5_in rfl rfl rfl (by decide +kernel) ⟨Nat.le_of_ble_eq_true rfl, Nat.le_of_ble_eq_true rfl⟩) rfl hl.1 rfl (Nat.le_of_ble_eq_true rfl) dX5_setBand_5 ⟨Nat.zero_le _, Nat.zero_le _⟩ (fun H locs S => ?_)
  refine lv_if_eq (tgt := 25) hx hb dX5_setBand_8 (by decide) (fun z => False.elim (by rw [h1] at z; revert z; decide)) (fun _ => ?_)
  refine lv_iload_n hx hb dX5_setBand_11 rfl (lv_at hl 2 rfl) ?_
  refine lv_iload_n hx hb dX5_setBand_12 rfl (lv_at hl 1 rfl) ?_
  refine lv_bipush (v := 30) hx hb dX5_setBand_13 (by decide) ?_
  refine r_S0 X S (c_X5_in l D cA ad _ F tt fr 30) (va_cwS 3 hts gX5_setBand_X5_in rfl rfl rfl (by decide +kernel) ⟨Nat.le_of_ble_eq_true rfl, Nat.le_of_ble_eq_true rfl⟩) rfl hl.1 rfl (Nat.le_of_ble_eq_true rfl) dX5_setBand_15 ⟨Nat.zero_le _, Nat.zero_le _⟩ (fun H locs S => ?_)
  refine lv_if_eq (tgt := 25) hx hb dX5_setBand_18 (by decide) (fun z => False.elim (by rw [h2] at z; revert z; decide)) (fun _ => ?_)
  refine lv_iconst (v := 0) hx hb dX5_setBand_21 (by decide) ?_
  refine lv_goto (tgt := 26) hx hb dX5_setBand_22 (by decide) ?_
  refine r_V0 X S (c_X5_holds0 l D cA ad _ F) ob_M rfl (cwV 1 hts gX5_setBand_X5_holds rfl rfl rfl (by decide +kernel) ⟨Nat.le_of_ble_eq_true rfl, Nat.le_of_ble_eq_true rfl⟩) rfl hl.1 rfl (Nat.le_of_ble_eq_true rfl) dX5_setBand_26 ⟨Nat.zero_le _, Nat.zero_le _⟩ (fun H locs S => ?_)
  obtain ⟨F_1, eF_1⟩ : ∃ z, z = u2 F 36 0 0 := ⟨_, rfl⟩
  rw [← eF_1] at S
  refine lv_if_eq (tgt := 42) hx hb dX5_setBand_29 (by decide) (fun z => False.elim (by first | exact absurd z (by decide) | exact absurd (by decide) z)) (fun _ => ?_)
  refine lv_aload_n hx hb dX5_setBand_32 rfl (lv_at hl 0 rfl) ?_
  refine lv_iload_n hx hb dX5_setBand_33 rfl (lv_at hl 1 rfl) ?_
  refine r_puti X S hw5 ob_M 4 ⟨rfl, by decide, rfl⟩ rfl (hts (.fieldLink RX5 13 "TermBillModel" "from" "I") (by decide +kernel)) tyX5 tyX5_ok nmX5 rfl rfl dX5_setBand_34 (fun H locs S => ?_)
  obtain ⟨F_2, eF_2⟩ : ∃ z, z = u2 F_1 36 4 fr := ⟨_, rfl⟩
  rw [← eF_2] at S
  refine lv_aload_n hx hb dX5_setBand_37 rfl (lv_at hl 0 rfl) ?_
  refine lv_iload_n hx hb dX5_setBand_38 rfl (lv_at hl 2 rfl) ?_
  refine r_puti X S hw5 ob_M 5 ⟨rfl, by decide, rfl⟩ rfl (hts (.fieldLink RX5 17 "TermBillModel" "to" "I") (by decide +kernel)) tyX5 tyX5_ok nmX5 rfl rfl dX5_setBand_39 (fun H locs S => ?_)
  obtain ⟨F_3, eF_3⟩ : ∃ z, z = u2 F_2 36 5 tt := ⟨_, rfl⟩
  rw [← eF_3] at S
  exact r_vret X S hr dX5_setBand_42 (Nat.le_of_ble_eq_true rfl) (Nat.le_of_ble_eq_true rfl) (by simp only [th, eF_3, eF_2, eF_1])

set_option maxHeartbeats 1000000 in
set_option maxRecDepth 100000 in
theorem e1_X5_setBand (l : Launch) (D : va_G) (cA : Nat → ClassId) (ad : Nat → Nat) (sz : Nat) (F : FF) (fr tt : Int32) (h : ¬ (wi fr 1 30 = true ∧ wi tt fr 30 = true)) : CI l D cA ad sz yX5_setBand wsX5_setBand 1 22 0 0 [.ref (ad 36), .int fr, .int tt] F none (th F 1) := by
  refine CI_of (own := RX5) (cc := cX5_setBand) (maxL := 3) (ret := none) (by decide +kernel) rfl rfl (Nat.le_of_ble_eq_true rfl) ?_
  intro p e s m below meth c ls X S hr hl
  obtain ⟨⟨hx, hb, hml, hown, hts⟩, hE, hI, hlocks⟩ := id X
  have hl : lv_has ls 3 [(0, .ref (ad 36)), (1, .int fr), (2, .int tt)] := hl
  refine lv_aload_n hx hb dX5_setBand_0 rfl (lv_at hl 0 rfl) ?_
  refine lv_iload_n hx hb dX5_setBand_1 rfl (lv_at hl 1 rfl) ?_
  refine lv_iconst (v := 1) hx hb dX5_setBand_2 (by decide) ?_
  refine lv_bipush (v := 30) hx hb dX5_setBand_3 (by decide) ?_
  refine r_S0 X S (c_X5_in l D cA ad _ F fr 1 30) (va_cwS 3 hts gX5_setBand_X5_in rfl rfl rfl (by decide +kernel) ⟨Nat.le_of_ble_eq_true rfl, Nat.le_of_ble_eq_true rfl⟩) rfl hl.1 rfl (Nat.le_of_ble_eq_true rfl) dX5_setBand_5 ⟨Nat.zero_le _, Nat.zero_le _⟩ (fun H locs S => ?_)
  refine lv_if_eq (tgt := 25) hx hb dX5_setBand_8 (by decide) (fun c_1 => ?_) (fun c_1 => ?_)
  · have c_1 : (wi fr 1 30) = false := bI_f c_1
    refine lv_iconst (v := 1) hx hb dX5_setBand_25 (by decide) ?_
    refine r_V0 X S (c_X5_holdsn l D cA ad _ F 1 (by decide)) ob_M rfl (cwV 1 hts gX5_setBand_X5_holds rfl rfl rfl (by decide +kernel) ⟨Nat.le_of_ble_eq_true rfl, Nat.le_of_ble_eq_true rfl⟩) rfl hl.1 rfl (Nat.le_of_ble_eq_true rfl) dX5_setBand_26 ⟨Nat.zero_le _, Nat.zero_le _⟩ (fun H locs S => ?_)
    obtain ⟨F_2, eF_2⟩ : ∃ z, z = u2 F 36 0 1 := ⟨_, rfl⟩
    rw [← eF_2] at S
    refine lv_if_eq (tgt := 42) hx hb dX5_setBand_29 (by decide) (fun _ => ?_) (fun z => False.elim (by first | exact absurd z (by decide) | exact absurd (by decide) z))
    exact r_vret X S hr dX5_setBand_42 (Nat.le_of_ble_eq_true rfl) (Nat.le_of_ble_eq_true rfl) (by simp only [th, eF_2, c_1, ↓reduceIte])
  · have c_1 : (wi fr 1 30) = true := bI_t c_1
    refine lv_iload_n hx hb dX5_setBand_11 rfl (lv_at hl 2 rfl) ?_
    refine lv_iload_n hx hb dX5_setBand_12 rfl (lv_at hl 1 rfl) ?_
    refine lv_bipush (v := 30) hx hb dX5_setBand_13 (by decide) ?_
    refine r_S0 X S (c_X5_in l D cA ad _ F tt fr 30) (va_cwS 3 hts gX5_setBand_X5_in rfl rfl rfl (by decide +kernel) ⟨Nat.le_of_ble_eq_true rfl, Nat.le_of_ble_eq_true rfl⟩) rfl hl.1 rfl (Nat.le_of_ble_eq_true rfl) dX5_setBand_15 ⟨Nat.zero_le _, Nat.zero_le _⟩ (fun H locs S => ?_)
    refine lv_if_eq (tgt := 25) hx hb dX5_setBand_18 (by decide) (fun _ => ?_) (fun z => False.elim (h ⟨c_1, bI_t z⟩))
    refine lv_iconst (v := 1) hx hb dX5_setBand_25 (by decide) ?_
    refine r_V0 X S (c_X5_holdsn l D cA ad _ F 1 (by decide)) ob_M rfl (cwV 1 hts gX5_setBand_X5_holds rfl rfl rfl (by decide +kernel) ⟨Nat.le_of_ble_eq_true rfl, Nat.le_of_ble_eq_true rfl⟩) rfl hl.1 rfl (Nat.le_of_ble_eq_true rfl) dX5_setBand_26 ⟨Nat.zero_le _, Nat.zero_le _⟩ (fun H locs S => ?_)
    obtain ⟨F_3, eF_3⟩ : ∃ z, z = u2 F 36 0 1 := ⟨_, rfl⟩
    rw [← eF_3] at S
    refine lv_if_eq (tgt := 42) hx hb dX5_setBand_29 (by decide) (fun _ => ?_) (fun z => False.elim (by first | exact absurd z (by decide) | exact absurd (by decide) z))
    exact r_vret X S hr dX5_setBand_42 (Nat.le_of_ble_eq_true rfl) (Nat.le_of_ble_eq_true rfl) (by simp only [th, eF_3, c_1, ↓reduceIte])

set_option maxHeartbeats 1000000 in
set_option maxRecDepth 100000 in
theorem c_X5_setShare (l : Launch) (D : va_G) (cA : Nat → ClassId) (ad : Nat → Nat) (sz : Nat) (F : FF) (w : Nat) (hw : w < 16) (sh : Int32) (h2 : wi sh 0 100 = true) : CI l D cA ad sz yX5_setShare wsX5_setShare 1 22 0 0 [.ref (ad 36), .int (nI w), .int sh] F (some (.int (th F 0 38 w))) (u2 (th F 0) 38 w sh) := by
  refine CI_of (own := RX5) (cc := cX5_setShare) (maxL := 4) (ret := (some .int)) (by decide +kernel) rfl rfl (Nat.le_of_ble_eq_true rfl) ?_
  intro p e s m below meth c ls X S hr hl
  obtain ⟨⟨hx, hb, hml, hown, hts⟩, hE, hI, hlocks⟩ := id X
  have hl : lv_has ls 4 [(0, .ref (ad 36)), (1, .int (nI w)), (2, .int sh)] := hl
  have hw5 : ∀ w ∈ wsX50, w.before _ s = true := fun w h => hts w ((by decide +kernel : ∀ w ∈ wsX50, w ∈ wsX5_setShare) w h)
  refine lv_aload_n hx hb dX5_setShare_0 rfl (lv_at hl 0 rfl) ?_
  refine lv_iload_n hx hb dX5_setShare_1 rfl (lv_at hl 1 rfl) ?_
  refine lv_iconst (v := 0) hx hb dX5_setShare_2 (by decide) ?_
  refine lv_bipush (v := 15) hx hb dX5_setShare_3 (by decide) ?_
  refine r_S0 X S (c_X5_in l D cA ad _ F (nI w) 0 15) (va_cwS 3 hts gX5_setShare_X5_in rfl rfl rfl (by decide +kernel) ⟨Nat.le_of_ble_eq_true rfl, Nat.le_of_ble_eq_true rfl⟩) rfl hl.1 rfl (Nat.le_of_ble_eq_true rfl) dX5_setShare_5 ⟨Nat.zero_le _, Nat.zero_le _⟩ (fun H locs S => ?_)
  refine lv_if_eq (tgt := 25) hx hb dX5_setShare_8 (by decide) (fun z => False.elim (by rw [(wi16 w hw)] at z; revert z; decide)) (fun _ => ?_)
  refine lv_iload_n hx hb dX5_setShare_11 rfl (lv_at hl 2 rfl) ?_
  refine lv_iconst (v := 0) hx hb dX5_setShare_12 (by decide) ?_
  refine lv_bipush (v := 100) hx hb dX5_setShare_13 (by decide) ?_
  refine r_S0 X S (c_X5_in l D cA ad _ F sh 0 100) (va_cwS 3 hts gX5_setShare_X5_in rfl rfl rfl (by decide +kernel) ⟨Nat.le_of_ble_eq_true rfl, Nat.le_of_ble_eq_true rfl⟩) rfl hl.1 rfl (Nat.le_of_ble_eq_true rfl) dX5_setShare_15 ⟨Nat.zero_le _, Nat.zero_le _⟩ (fun H locs S => ?_)
  refine lv_if_eq (tgt := 25) hx hb dX5_setShare_18 (by decide) (fun z => False.elim (by rw [h2] at z; revert z; decide)) (fun _ => ?_)
  refine lv_iconst (v := 0) hx hb dX5_setShare_21 (by decide) ?_
  refine lv_goto (tgt := 26) hx hb dX5_setShare_22 (by decide) ?_
  refine r_V0 X S (c_X5_holds0 l D cA ad _ F) ob_M rfl (cwV 1 hts gX5_setShare_X5_holds rfl rfl rfl (by decide +kernel) ⟨Nat.le_of_ble_eq_true rfl, Nat.le_of_ble_eq_true rfl⟩) rfl hl.1 rfl (Nat.le_of_ble_eq_true rfl) dX5_setShare_26 ⟨Nat.zero_le _, Nat.zero_le _⟩ (fun H locs S => ?_)
  obtain ⟨F_1, eF_1⟩ : ∃ z, z = u2 F 36 0 0 := ⟨_, rfl⟩
  rw [← eF_1] at S
  refine lv_if_ne (tgt := 34) hx hb dX5_setShare_29 (by decide) (fun _ => ?_) (fun z => False.elim (by first | exact absurd z (by decide) | exact absurd (by decide) z))
  refine lv_aload_n hx hb dX5_setShare_34 rfl (lv_at hl 0 rfl) ?_
  refine r_getr (q := 38) X S hw5 ob_M 6 ⟨rfl, by decide, rfl⟩ rfl (hts (.fieldLink RX5 20 "TermBillModel" "table" "[I") (by decide +kernel)) dX5_setShare_35 ?_
  refine lv_iload_n hx hb dX5_setShare_38 rfl (lv_at hl 1 rfl) ?_
  refine r_ialN X S (k := 38) (n := 16) (by unfold Ar; decide) (q := w) rfl (by omega) (by decide) dX5_setShare_39 ?_
  refine lv_istore_n (lv' := [(3, .int (F_1 38 w)), (0, .ref (ad 36)), (1, .int (nI w)), (2, .int sh)]) hx hb dX5_setShare_40 rfl hl (by decide) rfl (fun ls hl => ?_)
  refine lv_aload_n hx hb dX5_setShare_41 rfl (lv_at hl 1 rfl) ?_
  refine r_getr (q := 38) X S hw5 ob_M 6 ⟨rfl, by decide, rfl⟩ rfl (hts (.fieldLink RX5 20 "TermBillModel" "table" "[I") (by decide +kernel)) dX5_setShare_42 ?_
  refine lv_iload_n hx hb dX5_setShare_45 rfl (lv_at hl 2 rfl) ?_
  refine lv_iload_n hx hb dX5_setShare_46 rfl (lv_at hl 3 rfl) ?_
  refine r_iasN X S (k := 38) (n := 16) (by unfold Ar; decide) (q := w) rfl (by omega) (by decide) dX5_setShare_47 (fun H locs S => ?_)
  obtain ⟨F_2, eF_2⟩ : ∃ z, z = u2 F_1 38 w sh := ⟨_, rfl⟩
  rw [← eF_2] at S
  refine lv_iload_n hx hb dX5_setShare_48 rfl (lv_at hl 0 rfl) ?_
  exact r_iret X S hr dX5_setShare_49 (Nat.le_of_ble_eq_true rfl) (Nat.le_of_ble_eq_true rfl) (by simp only [th, eF_1]) (by simp only [th, eF_2, eF_1])

set_option maxHeartbeats 1000000 in
set_option maxRecDepth 100000 in
theorem e1_X5_setShare (l : Launch) (D : va_G) (cA : Nat → ClassId) (ad : Nat → Nat) (sz : Nat) (F : FF) (wk sh : Int32) (h : ¬ (wi wk 0 15 = true ∧ wi sh 0 100 = true)) : CI l D cA ad sz yX5_setShare wsX5_setShare 1 22 0 0 [.ref (ad 36), .int wk, .int sh] F (some (.int 0)) (th F 1) := by
  refine CI_of (own := RX5) (cc := cX5_setShare) (maxL := 4) (ret := (some .int)) (by decide +kernel) rfl rfl (Nat.le_of_ble_eq_true rfl) ?_
  intro p e s m below meth c ls X S hr hl
  obtain ⟨⟨hx, hb, hml, hown, hts⟩, hE, hI, hlocks⟩ := id X
  have hl : lv_has ls 4 [(0, .ref (ad 36)), (1, .int wk), (2, .int sh)] := hl
  refine lv_aload_n hx hb dX5_setShare_0 rfl (lv_at hl 0 rfl) ?_
  refine lv_iload_n hx hb dX5_setShare_1 rfl (lv_at hl 1 rfl) ?_
  refine lv_iconst (v := 0) hx hb dX5_setShare_2 (by decide) ?_
  refine lv_bipush (v := 15) hx hb dX5_setShare_3 (by decide) ?_
  refine r_S0 X S (c_X5_in l D cA ad _ F wk 0 15) (va_cwS 3 hts gX5_setShare_X5_in rfl rfl rfl (by decide +kernel) ⟨Nat.le_of_ble_eq_true rfl, Nat.le_of_ble_eq_true rfl⟩) rfl hl.1 rfl (Nat.le_of_ble_eq_true rfl) dX5_setShare_5 ⟨Nat.zero_le _, Nat.zero_le _⟩ (fun H locs S => ?_)
  refine lv_if_eq (tgt := 25) hx hb dX5_setShare_8 (by decide) (fun c_1 => ?_) (fun c_1 => ?_)
  · have c_1 : (wi wk 0 15) = false := bI_f c_1
    refine lv_iconst (v := 1) hx hb dX5_setShare_25 (by decide) ?_
    refine r_V0 X S (c_X5_holdsn l D cA ad _ F 1 (by decide)) ob_M rfl (cwV 1 hts gX5_setShare_X5_holds rfl rfl rfl (by decide +kernel) ⟨Nat.le_of_ble_eq_true rfl, Nat.le_of_ble_eq_true rfl⟩) rfl hl.1 rfl (Nat.le_of_ble_eq_true rfl) dX5_setShare_26 ⟨Nat.zero_le _, Nat.zero_le _⟩ (fun H locs S => ?_)
    obtain ⟨F_2, eF_2⟩ : ∃ z, z = u2 F 36 0 1 := ⟨_, rfl⟩
    rw [← eF_2] at S
    refine lv_if_ne (tgt := 34) hx hb dX5_setShare_29 (by decide) (fun z => False.elim (by first | exact absurd z (by decide) | exact absurd (by decide) z)) (fun _ => ?_)
    refine lv_iconst (v := 0) hx hb dX5_setShare_32 (by decide) ?_
    exact r_iret X S hr dX5_setShare_33 (Nat.le_of_ble_eq_true rfl) (Nat.le_of_ble_eq_true rfl) (by simp only [c_1, ↓reduceIte]) (by simp only [th, eF_2, c_1, ↓reduceIte])
  · have c_1 : (wi wk 0 15) = true := bI_t c_1
    refine lv_iload_n hx hb dX5_setShare_11 rfl (lv_at hl 2 rfl) ?_
    refine lv_iconst (v := 0) hx hb dX5_setShare_12 (by decide) ?_
    refine lv_bipush (v := 100) hx hb dX5_setShare_13 (by decide) ?_
    refine r_S0 X S (c_X5_in l D cA ad _ F sh 0 100) (va_cwS 3 hts gX5_setShare_X5_in rfl rfl rfl (by decide +kernel) ⟨Nat.le_of_ble_eq_true rfl, Nat.le_of_ble_eq_true rfl⟩) rfl hl.1 rfl (Nat.le_of_ble_eq_true rfl) dX5_setShare_15 ⟨Nat.zero_le _, Nat.zero_le _⟩ (fun H locs S => ?_)
    refine lv_if_eq (tgt := 25) hx hb dX5_setShare_18 (by decide) (fun _ => ?_) (fun z => False.elim (h ⟨c_1, bI_t z⟩))
    refine lv_iconst (v := 1) hx hb dX5_setShare_25 (by decide) ?_
    refine r_V0 X S (c_X5_holdsn l D cA ad _ F 1 (by decide)) ob_M rfl (cwV 1 hts gX5_setShare_X5_holds rfl rfl rfl (by decide +kernel) ⟨Nat.le_of_ble_eq_true rfl, Nat.le_of_ble_eq_true rfl⟩) rfl hl.1 rfl (Nat.le_of_ble_eq_true rfl) dX5_setShare_26 ⟨Nat.zero_le _, Nat.zero_le _⟩ (fun H locs S => ?_)
    obtain ⟨F_3, eF_3⟩ : ∃ z, z = u2 F 36 0 1 := ⟨_, rfl⟩
    rw [← eF_3] at S
    refine lv_if_ne (tgt := 34) hx hb dX5_setShare_29 (by decide) (fun z => False.elim (by first | exact absurd z (by decide) | exact absurd (by decide) z)) (fun _ => ?_)
    refine lv_iconst (v := 0) hx hb dX5_setShare_32 (by decide) ?_
    exact r_iret X S hr dX5_setShare_33 (Nat.le_of_ble_eq_true rfl) (Nat.le_of_ble_eq_true rfl) (by simp only [c_1, ↓reduceIte]) (by simp only [th, eF_3, c_1, ↓reduceIte])

set_option maxHeartbeats 1000000 in
set_option maxRecDepth 100000 in
theorem c_X5_setFees (l : Launch) (D : va_G) (cA : Nat → ClassId) (ad : Nat → Nat) (sz : Nat) (F : FF) (fe lm : Int32) (h1 : wi fe 0 100000 = true) (h2 : wi lm 0 1000000 = true) : CI l D cA ad sz yX5_setFees wsX5_setFees 1 22 0 0 [.ref (ad 36), .int fe, .int lm] F none (u2 (u2 (th F 0) 36 7 fe) 36 8 lm) := by
  refine CI_of (own := RX5) (cc := cX5_setFees) (maxL := 3) (ret := none) (by decide +kernel) rfl rfl (Nat.le_of_ble_eq_true rfl) ?_
  intro p e s m below meth c ls X S hr hl
  obtain ⟨⟨hx, hb, hml, hown, hts⟩, hE, hI, hlocks⟩ := id X
  have hl : lv_has ls 3 [(0, .ref (ad 36)), (1, .int fe), (2, .int lm)] := hl
  have hw5 : ∀ w ∈ wsX50, w.before _ s = true := fun w h => hts w ((by decide +kernel : ∀ w ∈ wsX50, w ∈ wsX5_setFees) w h)
  refine lv_aload_n hx hb dX5_setFees_0 rfl (lv_at hl 0 rfl) ?_
  refine lv_iload_n hx hb dX5_setFees_1 rfl (lv_at hl 1 rfl) ?_
  refine lv_iconst (v := 0) hx hb dX5_setFees_2 (by decide) ?_
  refine lv_ldc (v := 100000) hx hb hown (hts (.constant RX5 94 100000) (by decide +kernel)) dX5_setFees_3 ?_
  refine r_S0 X S (c_X5_in l D cA ad _ F fe 0 100000) (va_cwS 3 hts gX5_setFees_X5_in rfl rfl rfl (by decide +kernel) ⟨Nat.le_of_ble_eq_true rfl, Nat.le_of_ble_eq_true rfl⟩) rfl hl.1 rfl (Nat.le_of_ble_eq_true rfl) dX5_setFees_5 ⟨Nat.zero_le _, Nat.zero_le _⟩ (fun H locs S => ?_)
  refine lv_if_eq (tgt := 25) hx hb dX5_setFees_8 (by decide) (fun z => False.elim (by rw [h1] at z; revert z; decide)) (fun _ => ?_)
  refine lv_iload_n hx hb dX5_setFees_11 rfl (lv_at hl 2 rfl) ?_
  refine lv_iconst (v := 0) hx hb dX5_setFees_12 (by decide) ?_
  refine lv_ldc (v := 1000000) hx hb hown (hts (.constant RX5 103 1000000) (by decide +kernel)) dX5_setFees_13 ?_
  refine r_S0 X S (c_X5_in l D cA ad _ F lm 0 1000000) (va_cwS 3 hts gX5_setFees_X5_in rfl rfl rfl (by decide +kernel) ⟨Nat.le_of_ble_eq_true rfl, Nat.le_of_ble_eq_true rfl⟩) rfl hl.1 rfl (Nat.le_of_ble_eq_true rfl) dX5_setFees_15 ⟨Nat.zero_le _, Nat.zero_le _⟩ (fun H locs S => ?_)
  refine lv_if_eq (tgt := 25) hx hb dX5_setFees_18 (by decide) (fun z => False.elim (by rw [h2] at z; revert z; decide)) (fun _ => ?_)
  refine lv_iconst (v := 0) hx hb dX5_setFees_21 (by decide) ?_
  refine lv_goto (tgt := 26) hx hb dX5_setFees_22 (by decide) ?_
  refine r_V0 X S (c_X5_holds0 l D cA ad _ F) ob_M rfl (cwV 1 hts gX5_setFees_X5_holds rfl rfl rfl (by decide +kernel) ⟨Nat.le_of_ble_eq_true rfl, Nat.le_of_ble_eq_true rfl⟩) rfl hl.1 rfl (Nat.le_of_ble_eq_true rfl) dX5_setFees_26 ⟨Nat.zero_le _, Nat.zero_le _⟩ (fun H locs S => ?_)
  obtain ⟨F_1, eF_1⟩ : ∃ z, z = u2 F 36 0 0 := ⟨_, rfl⟩
  rw [← eF_1] at S
  refine lv_if_eq (tgt := 42) hx hb dX5_setFees_29 (by decide) (fun z => False.elim (by first | exact absurd z (by decide) | exact absurd (by decide) z)) (fun _ => ?_)
  refine lv_aload_n hx hb dX5_setFees_32 rfl (lv_at hl 0 rfl) ?_
  refine lv_iload_n hx hb dX5_setFees_33 rfl (lv_at hl 1 rfl) ?_
  refine r_puti X S hw5 ob_M 7 ⟨rfl, by decide, rfl⟩ rfl (hts (.fieldLink RX5 23 "TermBillModel" "lateFee" "I") (by decide +kernel)) tyX5 tyX5_ok nmX5 rfl rfl dX5_setFees_34 (fun H locs S => ?_)
  obtain ⟨F_2, eF_2⟩ : ∃ z, z = u2 F_1 36 7 fe := ⟨_, rfl⟩
  rw [← eF_2] at S
  refine lv_aload_n hx hb dX5_setFees_37 rfl (lv_at hl 0 rfl) ?_
  refine lv_iload_n hx hb dX5_setFees_38 rfl (lv_at hl 2 rfl) ?_
  refine r_puti X S hw5 ob_M 8 ⟨rfl, by decide, rfl⟩ rfl (hts (.fieldLink RX5 104 "TermBillModel" "limit" "I") (by decide +kernel)) tyX5 tyX5_ok nmX5 rfl rfl dX5_setFees_39 (fun H locs S => ?_)
  obtain ⟨F_3, eF_3⟩ : ∃ z, z = u2 F_2 36 8 lm := ⟨_, rfl⟩
  rw [← eF_3] at S
  exact r_vret X S hr dX5_setFees_42 (Nat.le_of_ble_eq_true rfl) (Nat.le_of_ble_eq_true rfl) (by simp only [th, eF_3, eF_2, eF_1])

set_option maxHeartbeats 1000000 in
set_option maxRecDepth 100000 in
theorem e1_X5_setFees (l : Launch) (D : va_G) (cA : Nat → ClassId) (ad : Nat → Nat) (sz : Nat) (F : FF) (fe lm : Int32) (h : ¬ (wi fe 0 100000 = true ∧ wi lm 0 1000000 = true)) : CI l D cA ad sz yX5_setFees wsX5_setFees 1 22 0 0 [.ref (ad 36), .int fe, .int lm] F none (th F 1) := by
  refine CI_of (own := RX5) (cc := cX5_setFees) (maxL := 3) (ret := none) (by decide +kernel) rfl rfl (Nat.le_of_ble_eq_true rfl) ?_
  intro p e s m below meth c ls X S hr hl
  obtain ⟨⟨hx, hb, hml, hown, hts⟩, hE, hI, hlocks⟩ := id X
  have hl : lv_has ls 3 [(0, .ref (ad 36)), (1, .int fe), (2, .int lm)] := hl
  refine lv_aload_n hx hb dX5_setFees_0 rfl (lv_at hl 0 rfl) ?_
  refine lv_iload_n hx hb dX5_setFees_1 rfl (lv_at hl 1 rfl) ?_
  refine lv_iconst (v := 0) hx hb dX5_setFees_2 (by decide) ?_
  refine lv_ldc (v := 100000) hx hb hown (hts (.constant RX5 94 100000) (by decide +kernel)) dX5_setFees_3 ?_
  refine r_S0 X S (c_X5_in l D cA ad _ F fe 0 100000) (va_cwS 3 hts gX5_setFees_X5_in rfl rfl rfl (by decide +kernel) ⟨Nat.le_of_ble_eq_true rfl, Nat.le_of_ble_eq_true rfl⟩) rfl hl.1 rfl (Nat.le_of_ble_eq_true rfl) dX5_setFees_5 ⟨Nat.zero_le _, Nat.zero_le _⟩ (fun H locs S => ?_)
  refine lv_if_eq (tgt := 25) hx hb dX5_setFees_8 (by decide) (fun c_1 => ?_) (fun c_1 => ?_)
  · have c_1 : (wi fe 0 100000) = false := bI_f c_1
    refine lv_iconst (v := 1) hx hb dX5_setFees_25 (by decide) ?_
    refine r_V0 X S (c_X5_holdsn l D cA ad _ F 1 (by decide)) ob_M rfl (cwV 1 hts gX5_setFees_X5_holds rfl rfl rfl (by decide +kernel) ⟨Nat.le_of_ble_eq_true rfl, Nat.le_of_ble_eq_true rfl⟩) rfl hl.1 rfl (Nat.le_of_ble_eq_true rfl) dX5_setFees_26 ⟨Nat.zero_le _, Nat.zero_le _⟩ (fun H locs S => ?_)
    obtain ⟨F_2, eF_2⟩ : ∃ z, z = u2 F 36 0 1 := ⟨_, rfl⟩
    rw [← eF_2] at S
    refine lv_if_eq (tgt := 42) hx hb dX5_setFees_29 (by decide) (fun _ => ?_) (fun z => False.elim (by first | exact absurd z (by decide) | exact absurd (by decide) z))
    exact r_vret X S hr dX5_setFees_42 (Nat.le_of_ble_eq_true rfl) (Nat.le_of_ble_eq_true rfl) (by simp only [th, eF_2, c_1, ↓reduceIte])
  · have c_1 : (wi fe 0 100000) = true := bI_t c_1
    refine lv_iload_n hx hb dX5_setFees_11 rfl (lv_at hl 2 rfl) ?_
    refine lv_iconst (v := 0) hx hb dX5_setFees_12 (by decide) ?_
    refine lv_ldc (v := 1000000) hx hb hown (hts (.constant RX5 103 1000000) (by decide +kernel)) dX5_setFees_13 ?_
    refine r_S0 X S (c_X5_in l D cA ad _ F lm 0 1000000) (va_cwS 3 hts gX5_setFees_X5_in rfl rfl rfl (by decide +kernel) ⟨Nat.le_of_ble_eq_true rfl, Nat.le_of_ble_eq_true rfl⟩) rfl hl.1 rfl (Nat.le_of_ble_eq_true rfl) dX5_setFees_15 ⟨Nat.zero_le _, Nat.zero_le _⟩ (fun H locs S => ?_)
    refine lv_if_eq (tgt := 25) hx hb dX5_setFees_18 (by decide) (fun _ => ?_) (fun z => False.elim (h ⟨c_1, bI_t z⟩))
    refine lv_iconst (v := 1) hx hb dX5_setFees_25 (by decide) ?_
    refine r_V0 X S (c_X5_holdsn l D cA ad _ F 1 (by decide)) ob_M rfl (cwV 1 hts gX5_setFees_X5_holds rfl rfl rfl (by decide +kernel) ⟨Nat.le_of_ble_eq_true rfl, Nat.le_of_ble_eq_true rfl⟩) rfl hl.1 rfl (Nat.le_of_ble_eq_true rfl) dX5_setFees_26 ⟨Nat.zero_le _, Nat.zero_le _⟩ (fun H locs S => ?_)
    obtain ⟨F_3, eF_3⟩ : ∃ z, z = u2 F 36 0 1 := ⟨_, rfl⟩
    rw [← eF_3] at S
    refine lv_if_eq (tgt := 42) hx hb dX5_setFees_29 (by decide) (fun _ => ?_) (fun z => False.elim (by first | exact absurd z (by decide) | exact absurd (by decide) z))
    exact r_vret X S hr dX5_setFees_42 (Nat.le_of_ble_eq_true rfl) (Nat.le_of_ble_eq_true rfl) (by simp only [th, eF_3, c_1, ↓reduceIte])

set_option maxHeartbeats 1000000 in
set_option maxRecDepth 100000 in
theorem c_X5_setStudent (l : Launch) (D : va_G) (cA : Nat → ClassId) (ad : Nat → Nat) (sz : Nat) (F : FF) (i : Nat) (hi : i < 4) (lv : Int32) (b : Bool) (nd : Int32) (h1 : wi lv 0 1 = true) (h2 : wi nd 0 1000000 = true) : CI l D cA ad sz yX5_setStudent wsX5_setStudent 2 42 0 0 [.ref (ad 36), .int (nI i), .int lv, .int (bI b), .int nd] F none (u2 (u2 (u2 (th F 0) 39 i lv) 40 i (bI b)) 41 i nd) := by
  refine CI_of (own := RX5) (cc := cX5_setStudent) (maxL := 5) (ret := none) (by decide +kernel) rfl rfl (Nat.le_of_ble_eq_true rfl) ?_
  intro p e s m below meth c ls X S hr hl
  obtain ⟨⟨hx, hb, hml, hown, hts⟩, hE, hI, hlocks⟩ := id X
  have hl : lv_has ls 5 [(0, .ref (ad 36)), (1, .int (nI i)), (2, .int lv), (3, .int (bI b)), (4, .int nd)] := hl
  have hw5 : ∀ w ∈ wsX50, w.before _ s = true := fun w h => hts w ((by decide +kernel : ∀ w ∈ wsX50, w ∈ wsX5_setStudent) w h)
  refine lv_aload_n hx hb dX5_setStudent_0 rfl (lv_at hl 0 rfl) ?_
  refine lv_iload_n hx hb dX5_setStudent_1 rfl (lv_at hl 1 rfl) ?_
  refine r_S0 X S (c_X5_isStudent l D cA ad _ F (nI i)) (va_cwS 1 hts gX5_setStudent_X5_isStudent rfl rfl rfl (by decide +kernel) ⟨Nat.le_of_ble_eq_true rfl, Nat.le_of_ble_eq_true rfl⟩) rfl hl.1 rfl (Nat.le_of_ble_eq_true rfl) dX5_setStudent_2 ⟨Nat.zero_le _, Nat.zero_le _⟩ (fun H locs S => ?_)
  refine lv_if_ne (tgt := 12) hx hb dX5_setStudent_5 (by decide) (fun _ => ?_) (fun z => False.elim (by rw [(wi4 i hi)] at z; revert z; decide))
  refine lv_iload_n hx hb dX5_setStudent_12 rfl (lv_at hl 2 rfl) ?_
  refine lv_iconst (v := 0) hx hb dX5_setStudent_13 (by decide) ?_
  refine lv_iconst (v := 1) hx hb dX5_setStudent_14 (by decide) ?_
  refine r_S0 X S (c_X5_in l D cA ad _ F lv 0 1) (va_cwS 3 hts gX5_setStudent_X5_in rfl rfl rfl (by decide +kernel) ⟨Nat.le_of_ble_eq_true rfl, Nat.le_of_ble_eq_true rfl⟩) rfl hl.1 rfl (Nat.le_of_ble_eq_true rfl) dX5_setStudent_15 ⟨Nat.zero_le _, Nat.zero_le _⟩ (fun H locs S => ?_)
  refine lv_if_eq (tgt := 36) hx hb dX5_setStudent_18 (by decide) (fun z => False.elim (by rw [h1] at z; revert z; decide)) (fun _ => ?_)
  refine lv_iload hx hb dX5_setStudent_21 (lv_at hl 4 rfl) ?_
  refine lv_iconst (v := 0) hx hb dX5_setStudent_23 (by decide) ?_
  refine lv_ldc (v := 1000000) hx hb hown (hts (.constant RX5 103 1000000) (by decide +kernel)) dX5_setStudent_24 ?_
  refine r_S0 X S (c_X5_in l D cA ad _ F nd 0 1000000) (va_cwS 3 hts gX5_setStudent_X5_in rfl rfl rfl (by decide +kernel) ⟨Nat.le_of_ble_eq_true rfl, Nat.le_of_ble_eq_true rfl⟩) rfl hl.1 rfl (Nat.le_of_ble_eq_true rfl) dX5_setStudent_26 ⟨Nat.zero_le _, Nat.zero_le _⟩ (fun H locs S => ?_)
  refine lv_if_eq (tgt := 36) hx hb dX5_setStudent_29 (by decide) (fun z => False.elim (by rw [h2] at z; revert z; decide)) (fun _ => ?_)
  refine lv_iconst (v := 0) hx hb dX5_setStudent_32 (by decide) ?_
  refine lv_goto (tgt := 37) hx hb dX5_setStudent_33 (by decide) ?_
  refine r_V0 X S (c_X5_holds0 l D cA ad _ F) ob_M rfl (cwV 1 hts gX5_setStudent_X5_holds rfl rfl rfl (by decide +kernel) ⟨Nat.le_of_ble_eq_true rfl, Nat.le_of_ble_eq_true rfl⟩) rfl hl.1 rfl (Nat.le_of_ble_eq_true rfl) dX5_setStudent_37 ⟨Nat.zero_le _, Nat.zero_le _⟩ (fun H locs S => ?_)
  obtain ⟨F_1, eF_1⟩ : ∃ z, z = u2 F 36 0 0 := ⟨_, rfl⟩
  rw [← eF_1] at S
  refine lv_if_eq (tgt := 65) hx hb dX5_setStudent_40 (by decide) (fun z => False.elim (by first | exact absurd z (by decide) | exact absurd (by decide) z)) (fun _ => ?_)
  refine lv_aload_n hx hb dX5_setStudent_43 rfl (lv_at hl 0 rfl) ?_
  refine r_getr (q := 39) X S hw5 ob_M 9 ⟨rfl, by decide, rfl⟩ rfl (hts (.fieldLink RX5 26 "TermBillModel" "levels" "[I") (by decide +kernel)) dX5_setStudent_44 ?_
  refine lv_iload_n hx hb dX5_setStudent_47 rfl (lv_at hl 1 rfl) ?_
  refine lv_iload_n hx hb dX5_setStudent_48 rfl (lv_at hl 2 rfl) ?_
  refine r_iasN X S (k := 39) (n := 4) (by unfold Ar; decide) (q := i) rfl (by omega) (by decide) dX5_setStudent_49 (fun H locs S => ?_)
  obtain ⟨F_2, eF_2⟩ : ∃ z, z = u2 F_1 39 i lv := ⟨_, rfl⟩
  rw [← eF_2] at S
  refine lv_aload_n hx hb dX5_setStudent_50 rfl (lv_at hl 0 rfl) ?_
  refine r_getr (q := 40) X S hw5 ob_M 10 ⟨rfl, by decide, rfl⟩ rfl (hts (.fieldLink RX5 29 "TermBillModel" "areResident" "[Z") (by decide +kernel)) dX5_setStudent_51 ?_
  refine lv_iload_n hx hb dX5_setStudent_54 rfl (lv_at hl 1 rfl) ?_
  refine lv_iload_n hx hb dX5_setStudent_55 rfl (lv_at hl 3 rfl) ?_
  refine r_zasN X S (k := 40) (n := 4) (by unfold Ar; decide) (q := i) (bI_nar _) rfl (by omega) (by decide) dX5_setStudent_56 (fun H locs S => ?_)
  obtain ⟨F_3, eF_3⟩ : ∃ z, z = u2 F_2 40 i (bI b) := ⟨_, rfl⟩
  rw [← eF_3] at S
  refine lv_aload_n hx hb dX5_setStudent_57 rfl (lv_at hl 0 rfl) ?_
  refine r_getr (q := 41) X S hw5 ob_M 11 ⟨rfl, by decide, rfl⟩ rfl (hts (.fieldLink RX5 33 "TermBillModel" "needs" "[I") (by decide +kernel)) dX5_setStudent_58 ?_
  refine lv_iload_n hx hb dX5_setStudent_61 rfl (lv_at hl 1 rfl) ?_
  refine lv_iload hx hb dX5_setStudent_62 (lv_at hl 4 rfl) ?_
  refine r_iasN X S (k := 41) (n := 4) (by unfold Ar; decide) (q := i) rfl (by omega) (by decide) dX5_setStudent_64 (fun H locs S => ?_)
  obtain ⟨F_4, eF_4⟩ : ∃ z, z = u2 F_3 41 i nd := ⟨_, rfl⟩
  rw [← eF_4] at S
  exact r_vret X S hr dX5_setStudent_65 (Nat.le_of_ble_eq_true rfl) (Nat.le_of_ble_eq_true rfl) (by simp only [th, eF_4, eF_3, eF_2, eF_1])

set_option maxHeartbeats 1000000 in
set_option maxRecDepth 100000 in
theorem e1_X5_setStudent (l : Launch) (D : va_G) (cA : Nat → ClassId) (ad : Nat → Nat) (sz : Nat) (F : FF) (x lv nd : Int32) (b : Bool) (h : wi x 0 3 = false) : CI l D cA ad sz yX5_setStudent wsX5_setStudent 2 42 0 0 [.ref (ad 36), .int x, .int lv, .int (bI b), .int nd] F none (th F 1) := by
  refine CI_of (own := RX5) (cc := cX5_setStudent) (maxL := 5) (ret := none) (by decide +kernel) rfl rfl (Nat.le_of_ble_eq_true rfl) ?_
  intro p e s m below meth c ls X S hr hl
  obtain ⟨⟨hx, hb, hml, hown, hts⟩, hE, hI, hlocks⟩ := id X
  have hl : lv_has ls 5 [(0, .ref (ad 36)), (1, .int x), (2, .int lv), (3, .int (bI b)), (4, .int nd)] := hl
  refine lv_aload_n hx hb dX5_setStudent_0 rfl (lv_at hl 0 rfl) ?_
  refine lv_iload_n hx hb dX5_setStudent_1 rfl (lv_at hl 1 rfl) ?_
  refine r_S0 X S (c_X5_isStudent l D cA ad _ F x) (va_cwS 1 hts gX5_setStudent_X5_isStudent rfl rfl rfl (by decide +kernel) ⟨Nat.le_of_ble_eq_true rfl, Nat.le_of_ble_eq_true rfl⟩) rfl hl.1 rfl (Nat.le_of_ble_eq_true rfl) dX5_setStudent_2 ⟨Nat.zero_le _, Nat.zero_le _⟩ (fun H locs S => ?_)
  refine lv_if_ne (tgt := 12) hx hb dX5_setStudent_5 (by decide) (fun z => False.elim (by rw [h] at z; revert z; decide)) (fun _ => ?_)
  refine lv_iconst (v := 1) hx hb dX5_setStudent_8 (by decide) ?_
  refine lv_goto (tgt := 37) hx hb dX5_setStudent_9 (by decide) ?_
  refine r_V0 X S (c_X5_holdsn l D cA ad _ F 1 (by decide)) ob_M rfl (cwV 1 hts gX5_setStudent_X5_holds rfl rfl rfl (by decide +kernel) ⟨Nat.le_of_ble_eq_true rfl, Nat.le_of_ble_eq_true rfl⟩) rfl hl.1 rfl (Nat.le_of_ble_eq_true rfl) dX5_setStudent_37 ⟨Nat.zero_le _, Nat.zero_le _⟩ (fun H locs S => ?_)
  obtain ⟨F_1, eF_1⟩ : ∃ z, z = u2 F 36 0 1 := ⟨_, rfl⟩
  rw [← eF_1] at S
  refine lv_if_eq (tgt := 65) hx hb dX5_setStudent_40 (by decide) (fun _ => ?_) (fun z => False.elim (by first | exact absurd z (by decide) | exact absurd (by decide) z))
  exact r_vret X S hr dX5_setStudent_65 (Nat.le_of_ble_eq_true rfl) (Nat.le_of_ble_eq_true rfl) (by simp only [th, eF_1])

set_option maxHeartbeats 1000000 in
set_option maxRecDepth 100000 in
theorem e2_X5_setStudent (l : Launch) (D : va_G) (cA : Nat → ClassId) (ad : Nat → Nat) (sz : Nat) (F : FF) (i : Nat) (hi : i < 4) (lv : Int32) (b : Bool) (nd : Int32) (h : ¬ (wi lv 0 1 = true ∧ wi nd 0 1000000 = true)) : CI l D cA ad sz yX5_setStudent wsX5_setStudent 2 42 0 0 [.ref (ad 36), .int (nI i), .int lv, .int (bI b), .int nd] F none (th F 2) := by
  refine CI_of (own := RX5) (cc := cX5_setStudent) (maxL := 5) (ret := none) (by decide +kernel) rfl rfl (Nat.le_of_ble_eq_true rfl) ?_
  intro p e s m below meth c ls X S hr hl
  obtain ⟨⟨hx, hb, hml, hown, hts⟩, hE, hI, hlocks⟩ := id X
  have hl : lv_has ls 5 [(0, .ref (ad 36)), (1, .int (nI i)), (2, .int lv), (3, .int (bI b)), (4, .int nd)] := hl
  refine lv_aload_n hx hb dX5_setStudent_0 rfl (lv_at hl 0 rfl) ?_
  refine lv_iload_n hx hb dX5_setStudent_1 rfl (lv_at hl 1 rfl) ?_
  refine r_S0 X S (c_X5_isStudent l D cA ad _ F (nI i)) (va_cwS 1 hts gX5_setStudent_X5_isStudent rfl rfl rfl (by decide +kernel) ⟨Nat.le_of_ble_eq_true rfl, Nat.le_of_ble_eq_true rfl⟩) rfl hl.1 rfl (Nat.le_of_ble_eq_true rfl) dX5_setStudent_2 ⟨Nat.zero_le _, Nat.zero_le _⟩ (fun H locs S => ?_)
  refine lv_if_ne (tgt := 12) hx hb dX5_setStudent_5 (by decide) (fun _ => ?_) (fun z => False.elim (by rw [(wi4 i hi)] at z; revert z; decide))
  refine lv_iload_n hx hb dX5_setStudent_12 rfl (lv_at hl 2 rfl) ?_
  refine lv_iconst (v := 0) hx hb dX5_setStudent_13 (by decide) ?_
  refine lv_iconst (v := 1) hx hb dX5_setStudent_14 (by decide) ?_
  refine r_S0 X S (c_X5_in l D cA ad _ F lv 0 1) (va_cwS 3 hts gX5_setStudent_X5_in rfl rfl rfl (by decide +kernel) ⟨Nat.le_of_ble_eq_true rfl, Nat.le_of_ble_eq_true rfl⟩) rfl hl.1 rfl (Nat.le_of_ble_eq_true rfl) dX5_setStudent_15 ⟨Nat.zero_le _, Nat.zero_le _⟩ (fun H locs S => ?_)
  refine lv_if_eq (tgt := 36) hx hb dX5_setStudent_18 (by decide) (fun c_1 => ?_) (fun c_1 => ?_)
  · have c_1 : (wi lv 0 1) = false := bI_f c_1
    refine lv_iconst (v := 2) hx hb dX5_setStudent_36 (by decide) ?_
    refine r_V0 X S (c_X5_holdsn l D cA ad _ F 2 (by decide)) ob_M rfl (cwV 1 hts gX5_setStudent_X5_holds rfl rfl rfl (by decide +kernel) ⟨Nat.le_of_ble_eq_true rfl, Nat.le_of_ble_eq_true rfl⟩) rfl hl.1 rfl (Nat.le_of_ble_eq_true rfl) dX5_setStudent_37 ⟨Nat.zero_le _, Nat.zero_le _⟩ (fun H locs S => ?_)
    obtain ⟨F_2, eF_2⟩ : ∃ z, z = u2 F 36 0 2 := ⟨_, rfl⟩
    rw [← eF_2] at S
    refine lv_if_eq (tgt := 65) hx hb dX5_setStudent_40 (by decide) (fun _ => ?_) (fun z => False.elim (by first | exact absurd z (by decide) | exact absurd (by decide) z))
    exact r_vret X S hr dX5_setStudent_65 (Nat.le_of_ble_eq_true rfl) (Nat.le_of_ble_eq_true rfl) (by simp only [th, eF_2, c_1, ↓reduceIte])
  · have c_1 : (wi lv 0 1) = true := bI_t c_1
    refine lv_iload hx hb dX5_setStudent_21 (lv_at hl 4 rfl) ?_
    refine lv_iconst (v := 0) hx hb dX5_setStudent_23 (by decide) ?_
    refine lv_ldc (v := 1000000) hx hb hown (hts (.constant RX5 103 1000000) (by decide +kernel)) dX5_setStudent_24 ?_
    refine r_S0 X S (c_X5_in l D cA ad _ F nd 0 1000000) (va_cwS 3 hts gX5_setStudent_X5_in rfl rfl rfl (by decide +kernel) ⟨Nat.le_of_ble_eq_true rfl, Nat.le_of_ble_eq_true rfl⟩) rfl hl.1 rfl (Nat.le_of_ble_eq_true rfl) dX5_setStudent_26 ⟨Nat.zero_le _, Nat.zero_le _⟩ (fun H locs S => ?_)
    refine lv_if_eq (tgt := 36) hx hb dX5_setStudent_29 (by decide) (fun _ => ?_) (fun z => False.elim (h ⟨c_1, bI_t z⟩))
    refine lv_iconst (v := 2) hx hb dX5_setStudent_36 (by decide) ?_
    refine r_V0 X S (c_X5_holdsn l D cA ad _ F 2 (by decide)) ob_M rfl (cwV 1 hts gX5_setStudent_X5_holds rfl rfl rfl (by decide +kernel) ⟨Nat.le_of_ble_eq_true rfl, Nat.le_of_ble_eq_true rfl⟩) rfl hl.1 rfl (Nat.le_of_ble_eq_true rfl) dX5_setStudent_37 ⟨Nat.zero_le _, Nat.zero_le _⟩ (fun H locs S => ?_)
    obtain ⟨F_3, eF_3⟩ : ∃ z, z = u2 F 36 0 2 := ⟨_, rfl⟩
    rw [← eF_3] at S
    refine lv_if_eq (tgt := 65) hx hb dX5_setStudent_40 (by decide) (fun _ => ?_) (fun z => False.elim (by first | exact absurd z (by decide) | exact absurd (by decide) z))
    exact r_vret X S hr dX5_setStudent_65 (Nat.le_of_ble_eq_true rfl) (Nat.le_of_ble_eq_true rfl) (by simp only [th, eF_3, c_1, ↓reduceIte])

set_option maxHeartbeats 1000000 in
set_option maxRecDepth 100000 in
theorem c_X5_setSponsor (l : Launch) (D : va_G) (cA : Nat → ClassId) (ad : Nat → Nat) (sz : Nat) (F : FF) (i : Nat) (hi : i < 4) (ks lm : Int32) (h1 : wi ks 0 7 = true) (h2 : wi lm 0 1000000 = true) : CI l D cA ad sz yX5_setSponsor wsX5_setSponsor 2 42 0 0 [.ref (ad 36), .int (nI i), .int ks, .int lm] F none (u2 (u2 (th F 0) 42 i ks) 43 i lm) := by
  refine CI_of (own := RX5) (cc := cX5_setSponsor) (maxL := 4) (ret := none) (by decide +kernel) rfl rfl (Nat.le_of_ble_eq_true rfl) ?_
  intro p e s m below meth c ls X S hr hl
  obtain ⟨⟨hx, hb, hml, hown, hts⟩, hE, hI, hlocks⟩ := id X
  have hl : lv_has ls 4 [(0, .ref (ad 36)), (1, .int (nI i)), (2, .int ks), (3, .int lm)] := hl
  have hw5 : ∀ w ∈ wsX50, w.before _ s = true := fun w h => hts w ((by decide +kernel : ∀ w ∈ wsX50, w ∈ wsX5_setSponsor) w h)
  refine lv_aload_n hx hb dX5_setSponsor_0 rfl (lv_at hl 0 rfl) ?_
  refine lv_iload_n hx hb dX5_setSponsor_1 rfl (lv_at hl 1 rfl) ?_
  refine r_S0 X S (c_X5_isStudent l D cA ad _ F (nI i)) (va_cwS 1 hts gX5_setSponsor_X5_isStudent rfl rfl rfl (by decide +kernel) ⟨Nat.le_of_ble_eq_true rfl, Nat.le_of_ble_eq_true rfl⟩) rfl hl.1 rfl (Nat.le_of_ble_eq_true rfl) dX5_setSponsor_2 ⟨Nat.zero_le _, Nat.zero_le _⟩ (fun H locs S => ?_)
  refine lv_if_ne (tgt := 12) hx hb dX5_setSponsor_5 (by decide) (fun _ => ?_) (fun z => False.elim (by rw [(wi4 i hi)] at z; revert z; decide))
  refine lv_iload_n hx hb dX5_setSponsor_12 rfl (lv_at hl 2 rfl) ?_
  refine lv_iconst (v := 0) hx hb dX5_setSponsor_13 (by decide) ?_
  refine lv_bipush (v := 7) hx hb dX5_setSponsor_14 (by decide) ?_
  refine r_S0 X S (c_X5_in l D cA ad _ F ks 0 7) (va_cwS 3 hts gX5_setSponsor_X5_in rfl rfl rfl (by decide +kernel) ⟨Nat.le_of_ble_eq_true rfl, Nat.le_of_ble_eq_true rfl⟩) rfl hl.1 rfl (Nat.le_of_ble_eq_true rfl) dX5_setSponsor_16 ⟨Nat.zero_le _, Nat.zero_le _⟩ (fun H locs S => ?_)
  refine lv_if_eq (tgt := 36) hx hb dX5_setSponsor_19 (by decide) (fun z => False.elim (by rw [h1] at z; revert z; decide)) (fun _ => ?_)
  refine lv_iload_n hx hb dX5_setSponsor_22 rfl (lv_at hl 3 rfl) ?_
  refine lv_iconst (v := 0) hx hb dX5_setSponsor_23 (by decide) ?_
  refine lv_ldc (v := 1000000) hx hb hown (hts (.constant RX5 103 1000000) (by decide +kernel)) dX5_setSponsor_24 ?_
  refine r_S0 X S (c_X5_in l D cA ad _ F lm 0 1000000) (va_cwS 3 hts gX5_setSponsor_X5_in rfl rfl rfl (by decide +kernel) ⟨Nat.le_of_ble_eq_true rfl, Nat.le_of_ble_eq_true rfl⟩) rfl hl.1 rfl (Nat.le_of_ble_eq_true rfl) dX5_setSponsor_26 ⟨Nat.zero_le _, Nat.zero_le _⟩ (fun H locs S => ?_)
  refine lv_if_eq (tgt := 36) hx hb dX5_setSponsor_29 (by decide) (fun z => False.elim (by rw [h2] at z; revert z; decide)) (fun _ => ?_)
  refine lv_iconst (v := 0) hx hb dX5_setSponsor_32 (by decide) ?_
  refine lv_goto (tgt := 37) hx hb dX5_setSponsor_33 (by decide) ?_
  refine r_V0 X S (c_X5_holds0 l D cA ad _ F) ob_M rfl (cwV 1 hts gX5_setSponsor_X5_holds rfl rfl rfl (by decide +kernel) ⟨Nat.le_of_ble_eq_true rfl, Nat.le_of_ble_eq_true rfl⟩) rfl hl.1 rfl (Nat.le_of_ble_eq_true rfl) dX5_setSponsor_37 ⟨Nat.zero_le _, Nat.zero_le _⟩ (fun H locs S => ?_)
  obtain ⟨F_1, eF_1⟩ : ∃ z, z = u2 F 36 0 0 := ⟨_, rfl⟩
  rw [← eF_1] at S
  refine lv_if_eq (tgt := 57) hx hb dX5_setSponsor_40 (by decide) (fun z => False.elim (by first | exact absurd z (by decide) | exact absurd (by decide) z)) (fun _ => ?_)
  refine lv_aload_n hx hb dX5_setSponsor_43 rfl (lv_at hl 0 rfl) ?_
  refine r_getr (q := 42) X S hw5 ob_M 12 ⟨rfl, by decide, rfl⟩ rfl (hts (.fieldLink RX5 36 "TermBillModel" "sponsorKinds" "[I") (by decide +kernel)) dX5_setSponsor_44 ?_
  refine lv_iload_n hx hb dX5_setSponsor_47 rfl (lv_at hl 1 rfl) ?_
  refine lv_iload_n hx hb dX5_setSponsor_48 rfl (lv_at hl 2 rfl) ?_
  refine r_iasN X S (k := 42) (n := 4) (by unfold Ar; decide) (q := i) rfl (by omega) (by decide) dX5_setSponsor_49 (fun H locs S => ?_)
  obtain ⟨F_2, eF_2⟩ : ∃ z, z = u2 F_1 42 i ks := ⟨_, rfl⟩
  rw [← eF_2] at S
  refine lv_aload_n hx hb dX5_setSponsor_50 rfl (lv_at hl 0 rfl) ?_
  refine r_getr (q := 43) X S hw5 ob_M 13 ⟨rfl, by decide, rfl⟩ rfl (hts (.fieldLink RX5 39 "TermBillModel" "sponsorLimits" "[I") (by decide +kernel)) dX5_setSponsor_51 ?_
  refine lv_iload_n hx hb dX5_setSponsor_54 rfl (lv_at hl 1 rfl) ?_
  refine lv_iload_n hx hb dX5_setSponsor_55 rfl (lv_at hl 3 rfl) ?_
  refine r_iasN X S (k := 43) (n := 4) (by unfold Ar; decide) (q := i) rfl (by omega) (by decide) dX5_setSponsor_56 (fun H locs S => ?_)
  obtain ⟨F_3, eF_3⟩ : ∃ z, z = u2 F_2 43 i lm := ⟨_, rfl⟩
  rw [← eF_3] at S
  exact r_vret X S hr dX5_setSponsor_57 (Nat.le_of_ble_eq_true rfl) (Nat.le_of_ble_eq_true rfl) (by simp only [th, eF_3, eF_2, eF_1])

set_option maxHeartbeats 1000000 in
set_option maxRecDepth 100000 in
theorem e1_X5_setSponsor (l : Launch) (D : va_G) (cA : Nat → ClassId) (ad : Nat → Nat) (sz : Nat) (F : FF) (x ks lm : Int32) (h : wi x 0 3 = false) : CI l D cA ad sz yX5_setSponsor wsX5_setSponsor 2 42 0 0 [.ref (ad 36), .int x, .int ks, .int lm] F none (th F 1) := by
  refine CI_of (own := RX5) (cc := cX5_setSponsor) (maxL := 4) (ret := none) (by decide +kernel) rfl rfl (Nat.le_of_ble_eq_true rfl) ?_
  intro p e s m below meth c ls X S hr hl
  obtain ⟨⟨hx, hb, hml, hown, hts⟩, hE, hI, hlocks⟩ := id X
  have hl : lv_has ls 4 [(0, .ref (ad 36)), (1, .int x), (2, .int ks), (3, .int lm)] := hl
  refine lv_aload_n hx hb dX5_setSponsor_0 rfl (lv_at hl 0 rfl) ?_
  refine lv_iload_n hx hb dX5_setSponsor_1 rfl (lv_at hl 1 rfl) ?_
  refine r_S0 X S (c_X5_isStudent l D cA ad _ F x) (va_cwS 1 hts gX5_setSponsor_X5_isStudent rfl rfl rfl (by decide +kernel) ⟨Nat.le_of_ble_eq_true rfl, Nat.le_of_ble_eq_true rfl⟩) rfl hl.1 rfl (Nat.le_of_ble_eq_true rfl) dX5_setSponsor_2 ⟨Nat.zero_le _, Nat.zero_le _⟩ (fun H locs S => ?_)
  refine lv_if_ne (tgt := 12) hx hb dX5_setSponsor_5 (by decide) (fun z => False.elim (by rw [h] at z; revert z; decide)) (fun _ => ?_)
  refine lv_iconst (v := 1) hx hb dX5_setSponsor_8 (by decide) ?_
  refine lv_goto (tgt := 37) hx hb dX5_setSponsor_9 (by decide) ?_
  refine r_V0 X S (c_X5_holdsn l D cA ad _ F 1 (by decide)) ob_M rfl (cwV 1 hts gX5_setSponsor_X5_holds rfl rfl rfl (by decide +kernel) ⟨Nat.le_of_ble_eq_true rfl, Nat.le_of_ble_eq_true rfl⟩) rfl hl.1 rfl (Nat.le_of_ble_eq_true rfl) dX5_setSponsor_37 ⟨Nat.zero_le _, Nat.zero_le _⟩ (fun H locs S => ?_)
  obtain ⟨F_1, eF_1⟩ : ∃ z, z = u2 F 36 0 1 := ⟨_, rfl⟩
  rw [← eF_1] at S
  refine lv_if_eq (tgt := 57) hx hb dX5_setSponsor_40 (by decide) (fun _ => ?_) (fun z => False.elim (by first | exact absurd z (by decide) | exact absurd (by decide) z))
  exact r_vret X S hr dX5_setSponsor_57 (Nat.le_of_ble_eq_true rfl) (Nat.le_of_ble_eq_true rfl) (by simp only [th, eF_1])

set_option maxHeartbeats 1000000 in
set_option maxRecDepth 100000 in
theorem e2_X5_setSponsor (l : Launch) (D : va_G) (cA : Nat → ClassId) (ad : Nat → Nat) (sz : Nat) (F : FF) (i : Nat) (hi : i < 4) (ks lm : Int32) (h : ¬ (wi ks 0 7 = true ∧ wi lm 0 1000000 = true)) : CI l D cA ad sz yX5_setSponsor wsX5_setSponsor 2 42 0 0 [.ref (ad 36), .int (nI i), .int ks, .int lm] F none (th F 2) := by
  refine CI_of (own := RX5) (cc := cX5_setSponsor) (maxL := 4) (ret := none) (by decide +kernel) rfl rfl (Nat.le_of_ble_eq_true rfl) ?_
  intro p e s m below meth c ls X S hr hl
  obtain ⟨⟨hx, hb, hml, hown, hts⟩, hE, hI, hlocks⟩ := id X
  have hl : lv_has ls 4 [(0, .ref (ad 36)), (1, .int (nI i)), (2, .int ks), (3, .int lm)] := hl
  refine lv_aload_n hx hb dX5_setSponsor_0 rfl (lv_at hl 0 rfl) ?_
  refine lv_iload_n hx hb dX5_setSponsor_1 rfl (lv_at hl 1 rfl) ?_
  refine r_S0 X S (c_X5_isStudent l D cA ad _ F (nI i)) (va_cwS 1 hts gX5_setSponsor_X5_isStudent rfl rfl rfl (by decide +kernel) ⟨Nat.le_of_ble_eq_true rfl, Nat.le_of_ble_eq_true rfl⟩) rfl hl.1 rfl (Nat.le_of_ble_eq_true rfl) dX5_setSponsor_2 ⟨Nat.zero_le _, Nat.zero_le _⟩ (fun H locs S => ?_)
  refine lv_if_ne (tgt := 12) hx hb dX5_setSponsor_5 (by decide) (fun _ => ?_) (fun z => False.elim (by rw [(wi4 i hi)] at z; revert z; decide))
  refine lv_iload_n hx hb dX5_setSponsor_12 rfl (lv_at hl 2 rfl) ?_
  refine lv_iconst (v := 0) hx hb dX5_setSponsor_13 (by decide) ?_
  refine lv_bipush (v := 7) hx hb dX5_setSponsor_14 (by decide) ?_
  refine r_S0 X S (c_X5_in l D cA ad _ F ks 0 7) (va_cwS 3 hts gX5_setSponsor_X5_in rfl rfl rfl (by decide +kernel) ⟨Nat.le_of_ble_eq_true rfl, Nat.le_of_ble_eq_true rfl⟩) rfl hl.1 rfl (Nat.le_of_ble_eq_true rfl) dX5_setSponsor_16 ⟨Nat.zero_le _, Nat.zero_le _⟩ (fun H locs S => ?_)
  refine lv_if_eq (tgt := 36) hx hb dX5_setSponsor_19 (by decide) (fun c_1 => ?_) (fun c_1 => ?_)
  · have c_1 : (wi ks 0 7) = false := bI_f c_1
    refine lv_iconst (v := 2) hx hb dX5_setSponsor_36 (by decide) ?_
    refine r_V0 X S (c_X5_holdsn l D cA ad _ F 2 (by decide)) ob_M rfl (cwV 1 hts gX5_setSponsor_X5_holds rfl rfl rfl (by decide +kernel) ⟨Nat.le_of_ble_eq_true rfl, Nat.le_of_ble_eq_true rfl⟩) rfl hl.1 rfl (Nat.le_of_ble_eq_true rfl) dX5_setSponsor_37 ⟨Nat.zero_le _, Nat.zero_le _⟩ (fun H locs S => ?_)
    obtain ⟨F_2, eF_2⟩ : ∃ z, z = u2 F 36 0 2 := ⟨_, rfl⟩
    rw [← eF_2] at S
    refine lv_if_eq (tgt := 57) hx hb dX5_setSponsor_40 (by decide) (fun _ => ?_) (fun z => False.elim (by first | exact absurd z (by decide) | exact absurd (by decide) z))
    exact r_vret X S hr dX5_setSponsor_57 (Nat.le_of_ble_eq_true rfl) (Nat.le_of_ble_eq_true rfl) (by simp only [th, eF_2, c_1, ↓reduceIte])
  · have c_1 : (wi ks 0 7) = true := bI_t c_1
    refine lv_iload_n hx hb dX5_setSponsor_22 rfl (lv_at hl 3 rfl) ?_
    refine lv_iconst (v := 0) hx hb dX5_setSponsor_23 (by decide) ?_
    refine lv_ldc (v := 1000000) hx hb hown (hts (.constant RX5 103 1000000) (by decide +kernel)) dX5_setSponsor_24 ?_
    refine r_S0 X S (c_X5_in l D cA ad _ F lm 0 1000000) (va_cwS 3 hts gX5_setSponsor_X5_in rfl rfl rfl (by decide +kernel) ⟨Nat.le_of_ble_eq_true rfl, Nat.le_of_ble_eq_true rfl⟩) rfl hl.1 rfl (Nat.le_of_ble_eq_true rfl) dX5_setSponsor_26 ⟨Nat.zero_le _, Nat.zero_le _⟩ (fun H locs S => ?_)
    refine lv_if_eq (tgt := 36) hx hb dX5_setSponsor_29 (by decide) (fun _ => ?_) (fun z => False.elim (h ⟨c_1, bI_t z⟩))
    refine lv_iconst (v := 2) hx hb dX5_setSponsor_36 (by decide) ?_
    refine r_V0 X S (c_X5_holdsn l D cA ad _ F 2 (by decide)) ob_M rfl (cwV 1 hts gX5_setSponsor_X5_holds rfl rfl rfl (by decide +kernel) ⟨Nat.le_of_ble_eq_true rfl, Nat.le_of_ble_eq_true rfl⟩) rfl hl.1 rfl (Nat.le_of_ble_eq_true rfl) dX5_setSponsor_37 ⟨Nat.zero_le _, Nat.zero_le _⟩ (fun H locs S => ?_)
    obtain ⟨F_3, eF_3⟩ : ∃ z, z = u2 F 36 0 2 := ⟨_, rfl⟩
    rw [← eF_3] at S
    refine lv_if_eq (tgt := 57) hx hb dX5_setSponsor_40 (by decide) (fun _ => ?_) (fun z => False.elim (by first | exact absurd z (by decide) | exact absurd (by decide) z))
    exact r_vret X S hr dX5_setSponsor_57 (Nat.le_of_ble_eq_true rfl) (Nat.le_of_ble_eq_true rfl) (by simp only [th, eF_3, c_1, ↓reduceIte])

set_option maxHeartbeats 1000000 in
set_option maxRecDepth 100000 in
theorem c_X5_take (l : Launch) (D : va_G) (cA : Nat → ClassId) (ad : Nat → Nat) (sz : Nat) (F : FF) (i : Nat) (hi : i < 4) (hM : OKM F i) (cr : Int32) (h1 : wi cr 1 10 = true) (h : tM F i < 8) : CI l D cA ad sz yX5_take wsX5_take 2 42 0 0 [.ref (ad 36), .int (nI i), .int cr] F (some (.int (nI (tM F i)))) (mtF F i cr) := by
  refine CI_of (own := RX5) (cc := cX5_take) (maxL := 4) (ret := (some .int)) (by decide +kernel) rfl rfl (Nat.le_of_ble_eq_true rfl) ?_
  intro p e s m below meth c ls X S hr hl
  obtain ⟨⟨hx, hb, hml, hown, hts⟩, hE, hI, hlocks⟩ := id X
  have hl : lv_has ls 4 [(0, .ref (ad 36)), (1, .int (nI i)), (2, .int cr)] := hl
  have hw5 : ∀ w ∈ wsX50, w.before _ s = true := fun w h => hts w ((by decide +kernel : ∀ w ∈ wsX50, w ∈ wsX5_take) w h)
  refine lv_aload_n hx hb dX5_take_0 rfl (lv_at hl 0 rfl) ?_
  refine lv_iload_n hx hb dX5_take_1 rfl (lv_at hl 1 rfl) ?_
  refine r_S0 X S (c_X5_isStudent l D cA ad _ F (nI i)) (va_cwS 1 hts gX5_take_X5_isStudent rfl rfl rfl (by decide +kernel) ⟨Nat.le_of_ble_eq_true rfl, Nat.le_of_ble_eq_true rfl⟩) rfl hl.1 rfl (Nat.le_of_ble_eq_true rfl) dX5_take_2 ⟨Nat.zero_le _, Nat.zero_le _⟩ (fun H locs S => ?_)
  refine lv_if_ne (tgt := 12) hx hb dX5_take_5 (by decide) (fun _ => ?_) (fun z => False.elim (by rw [(wi4 i hi)] at z; revert z; decide))
  refine lv_iload_n hx hb dX5_take_12 rfl (lv_at hl 2 rfl) ?_
  refine lv_iconst (v := 1) hx hb dX5_take_13 (by decide) ?_
  refine lv_bipush (v := 10) hx hb dX5_take_14 (by decide) ?_
  refine r_S0 X S (c_X5_in l D cA ad _ F cr 1 10) (va_cwS 3 hts gX5_take_X5_in rfl rfl rfl (by decide +kernel) ⟨Nat.le_of_ble_eq_true rfl, Nat.le_of_ble_eq_true rfl⟩) rfl hl.1 rfl (Nat.le_of_ble_eq_true rfl) dX5_take_16 ⟨Nat.zero_le _, Nat.zero_le _⟩ (fun H locs S => ?_)
  refine lv_if_ne (tgt := 26) hx hb dX5_take_19 (by decide) (fun _ => ?_) (fun z => False.elim (by rw [h1] at z; revert z; decide))
  refine lv_aload_n hx hb dX5_take_26 rfl (lv_at hl 0 rfl) ?_
  refine r_getr (q := 44) X S hw5 ob_M 14 ⟨rfl, by decide, rfl⟩ rfl (hts (.fieldLink RX5 42 "TermBillModel" "courses" "[I") (by decide +kernel)) dX5_take_27 ?_
  refine lv_iload_n hx hb dX5_take_30 rfl (lv_at hl 1 rfl) ?_
  refine r_ialN X S (k := 44) (n := 4) (by unfold Ar; decide) (q := i) rfl (by omega) (by decide) dX5_take_31 ?_
  rw [show F 44 i = nI (tM F i) from (by rw [hM.2.1.2])] 
  refine lv_bipush (v := 8) hx hb dX5_take_32 (by decide) ?_
  refine lv_icmp_ne (tgt := 41) hx hb dX5_take_34 (by decide) (fun _ => ?_) (fun z => False.elim (absurd ((nI_eq (a := tM F i) (b := 8) (by omega) (by omega)).mp z) (by omega)))
  refine lv_iconst (v := 0) hx hb dX5_take_41 (by decide) ?_
  refine r_V0 X S (c_X5_holds0 l D cA ad _ F) ob_M rfl (cwV 1 hts gX5_take_X5_holds rfl rfl rfl (by decide +kernel) ⟨Nat.le_of_ble_eq_true rfl, Nat.le_of_ble_eq_true rfl⟩) rfl hl.1 rfl (Nat.le_of_ble_eq_true rfl) dX5_take_42 ⟨Nat.zero_le _, Nat.zero_le _⟩ (fun H locs S => ?_)
  obtain ⟨F_1, eF_1⟩ : ∃ z, z = u2 F 36 0 0 := ⟨_, rfl⟩
  rw [← eF_1] at S
  refine lv_if_ne (tgt := 50) hx hb dX5_take_45 (by decide) (fun _ => ?_) (fun z => False.elim (by first | exact absurd z (by decide) | exact absurd (by decide) z))
  refine lv_bipush (v := 8) hx hb dX5_take_50 (by decide) ?_
  refine lv_iload_n hx hb dX5_take_52 rfl (lv_at hl 1 rfl) ?_
  refine lv_imul hx hb dX5_take_53 ?_
  refine lv_topi (fun x_2 ex_2 => ?_)
  obtain rfl : x_2 = nI (8 * i) := ex_2.trans (nI_mul 8 i)
  refine lv_aload_n hx hb dX5_take_54 rfl (lv_at hl 0 rfl) ?_
  refine r_getr (q := 44) X S hw5 ob_M 14 ⟨rfl, by decide, rfl⟩ rfl (hts (.fieldLink RX5 42 "TermBillModel" "courses" "[I") (by decide +kernel)) dX5_take_55 ?_
  refine lv_iload_n hx hb dX5_take_58 rfl (lv_at hl 1 rfl) ?_
  refine r_ialN X S (k := 44) (n := 4) (by unfold Ar; decide) (q := i) rfl (by omega) (by decide) dX5_take_59 ?_
  rw [show F_1 44 i = nI (tM F i) from (by rw [eF_1, u2_ne _ _ (by omega), hM.2.1.2])] 
  refine lv_iadd hx hb dX5_take_60 ?_
  refine lv_topi (fun x_3 ex_3 => ?_)
  obtain rfl : x_3 = nI ((8 * i) + (tM F i)) := ex_3.trans (nI_add (8 * i) (tM F i))
  refine lv_istore_n (lv' := [(3, .int (nI ((8 * i) + (tM F i)))), (0, .ref (ad 36)), (1, .int (nI i)), (2, .int cr)]) hx hb dX5_take_61 rfl hl (by decide) rfl (fun ls hl => ?_)
  refine lv_aload_n hx hb dX5_take_62 rfl (lv_at hl 1 rfl) ?_
  refine r_getr (q := 45) X S hw5 ob_M 15 ⟨rfl, by decide, rfl⟩ rfl (hts (.fieldLink RX5 45 "TermBillModel" "credits" "[I") (by decide +kernel)) dX5_take_63 ?_
  refine lv_iload_n hx hb dX5_take_66 rfl (lv_at hl 0 rfl) ?_
  refine lv_iload_n hx hb dX5_take_67 rfl (lv_at hl 3 rfl) ?_
  refine r_iasN X S (k := 45) (n := 32) (by unfold Ar; decide) (q := (8 * i) + (tM F i)) rfl (by omega) (by decide) dX5_take_68 (fun H locs S => ?_)
  obtain ⟨F_4, eF_4⟩ : ∃ z, z = u2 F_1 45 ((8 * i) + (tM F i)) cr := ⟨_, rfl⟩
  rw [← eF_4] at S
  refine lv_aload_n hx hb dX5_take_69 rfl (lv_at hl 1 rfl) ?_
  refine r_getr (q := 46) X S hw5 ob_M 16 ⟨rfl, by decide, rfl⟩ rfl (hts (.fieldLink RX5 48 "TermBillModel" "areDropped" "[Z") (by decide +kernel)) dX5_take_70 ?_
  refine lv_iload_n hx hb dX5_take_73 rfl (lv_at hl 0 rfl) ?_
  refine lv_iconst (v := 0) hx hb dX5_take_74 (by decide) ?_
  refine r_zasN X S (k := 46) (n := 32) (by unfold Ar; decide) (q := (8 * i) + (tM F i)) (by decide) rfl (by omega) (by decide) dX5_take_75 (fun H locs S => ?_)
  obtain ⟨F_5, eF_5⟩ : ∃ z, z = u2 F_4 46 ((8 * i) + (tM F i)) 0 := ⟨_, rfl⟩
  rw [← eF_5] at S
  refine lv_aload_n hx hb dX5_take_76 rfl (lv_at hl 1 rfl) ?_
  refine r_getr (q := 44) X S hw5 ob_M 14 ⟨rfl, by decide, rfl⟩ rfl (hts (.fieldLink RX5 42 "TermBillModel" "courses" "[I") (by decide +kernel)) dX5_take_77 ?_
  refine lv_iload_n hx hb dX5_take_80 rfl (lv_at hl 2 rfl) ?_
  refine lv_dup2_11 hx hb dX5_take_81 rfl rfl ?_
  refine r_ialN X S (k := 44) (n := 4) (by unfold Ar; decide) (q := i) rfl (by omega) (by decide) dX5_take_82 ?_
  rw [show F_5 44 i = nI (tM F i) from (by rw [eF_5, u2_ne _ _ (by omega), eF_4, u2_ne _ _ (by omega), eF_1, u2_ne _ _ (by omega), hM.2.1.2])] 
  refine lv_iconst (v := 1) hx hb dX5_take_83 (by decide) ?_
  refine lv_iadd hx hb dX5_take_84 ?_
  refine lv_topi (fun x_6 ex_6 => ?_)
  obtain rfl : x_6 = nI ((tM F i) + 1) := ex_6.trans (nI_add (tM F i) 1)
  refine r_iasN X S (k := 44) (n := 4) (by unfold Ar; decide) (q := i) rfl (by omega) (by decide) dX5_take_85 (fun H locs S => ?_)
  obtain ⟨F_7, eF_7⟩ : ∃ z, z = u2 F_5 44 i (nI ((tM F i) + 1)) := ⟨_, rfl⟩
  rw [← eF_7] at S
  refine lv_aload_n hx hb dX5_take_86 rfl (lv_at hl 1 rfl) ?_
  refine r_getr (q := 44) X S hw5 ob_M 14 ⟨rfl, by decide, rfl⟩ rfl (hts (.fieldLink RX5 42 "TermBillModel" "courses" "[I") (by decide +kernel)) dX5_take_87 ?_
  refine lv_iload_n hx hb dX5_take_90 rfl (lv_at hl 2 rfl) ?_
  refine r_ialN X S (k := 44) (n := 4) (by unfold Ar; decide) (q := i) rfl (by omega) (by decide) dX5_take_91 ?_
  rw [show F_7 44 i = nI (tM F i + 1) from (by rw [eF_7, u2_eq])]
  refine lv_iconst (v := 1) hx hb dX5_take_92 (by decide) ?_
  refine lv_isub hx hb dX5_take_93 ?_
  exact r_iret X S hr dX5_take_94 (Nat.le_of_ble_eq_true rfl) (Nat.le_of_ble_eq_true rfl) (nI_pred _) (by unfold mtF; simp only [th, eF_7, eF_5, eF_4, eF_1])

set_option maxHeartbeats 1000000 in
set_option maxRecDepth 100000 in
theorem e1_X5_take (l : Launch) (D : va_G) (cA : Nat → ClassId) (ad : Nat → Nat) (sz : Nat) (F : FF) (x cr : Int32) (h : wi x 0 3 = false) : CI l D cA ad sz yX5_take wsX5_take 2 42 0 0 [.ref (ad 36), .int x, .int cr] F (some (.int 0)) (th F 1) := by
  refine CI_of (own := RX5) (cc := cX5_take) (maxL := 4) (ret := (some .int)) (by decide +kernel) rfl rfl (Nat.le_of_ble_eq_true rfl) ?_
  intro p e s m below meth c ls X S hr hl
  obtain ⟨⟨hx, hb, hml, hown, hts⟩, hE, hI, hlocks⟩ := id X
  have hl : lv_has ls 4 [(0, .ref (ad 36)), (1, .int x), (2, .int cr)] := hl
  refine lv_aload_n hx hb dX5_take_0 rfl (lv_at hl 0 rfl) ?_
  refine lv_iload_n hx hb dX5_take_1 rfl (lv_at hl 1 rfl) ?_
  refine r_S0 X S (c_X5_isStudent l D cA ad _ F x) (va_cwS 1 hts gX5_take_X5_isStudent rfl rfl rfl (by decide +kernel) ⟨Nat.le_of_ble_eq_true rfl, Nat.le_of_ble_eq_true rfl⟩) rfl hl.1 rfl (Nat.le_of_ble_eq_true rfl) dX5_take_2 ⟨Nat.zero_le _, Nat.zero_le _⟩ (fun H locs S => ?_)
  refine lv_if_ne (tgt := 12) hx hb dX5_take_5 (by decide) (fun z => False.elim (by rw [h] at z; revert z; decide)) (fun _ => ?_)
  refine lv_iconst (v := 1) hx hb dX5_take_8 (by decide) ?_
  refine lv_goto (tgt := 42) hx hb dX5_take_9 (by decide) ?_
  refine r_V0 X S (c_X5_holdsn l D cA ad _ F 1 (by decide)) ob_M rfl (cwV 1 hts gX5_take_X5_holds rfl rfl rfl (by decide +kernel) ⟨Nat.le_of_ble_eq_true rfl, Nat.le_of_ble_eq_true rfl⟩) rfl hl.1 rfl (Nat.le_of_ble_eq_true rfl) dX5_take_42 ⟨Nat.zero_le _, Nat.zero_le _⟩ (fun H locs S => ?_)
  obtain ⟨F_1, eF_1⟩ : ∃ z, z = u2 F 36 0 1 := ⟨_, rfl⟩
  rw [← eF_1] at S
  refine lv_if_ne (tgt := 50) hx hb dX5_take_45 (by decide) (fun z => False.elim (by first | exact absurd z (by decide) | exact absurd (by decide) z)) (fun _ => ?_)
  refine lv_iconst (v := 0) hx hb dX5_take_48 (by decide) ?_
  exact r_iret X S hr dX5_take_49 (Nat.le_of_ble_eq_true rfl) (Nat.le_of_ble_eq_true rfl) (by rfl) (by simp only [th, eF_1])

set_option maxHeartbeats 1000000 in
set_option maxRecDepth 100000 in
theorem e2_X5_take (l : Launch) (D : va_G) (cA : Nat → ClassId) (ad : Nat → Nat) (sz : Nat) (F : FF) (i : Nat) (hi : i < 4) (hM : OKM F i) (cr : Int32) (h : wi cr 1 10 = false) : CI l D cA ad sz yX5_take wsX5_take 2 42 0 0 [.ref (ad 36), .int (nI i), .int cr] F (some (.int 0)) (th F 2) := by
  refine CI_of (own := RX5) (cc := cX5_take) (maxL := 4) (ret := (some .int)) (by decide +kernel) rfl rfl (Nat.le_of_ble_eq_true rfl) ?_
  intro p e s m below meth c ls X S hr hl
  obtain ⟨⟨hx, hb, hml, hown, hts⟩, hE, hI, hlocks⟩ := id X
  have hl : lv_has ls 4 [(0, .ref (ad 36)), (1, .int (nI i)), (2, .int cr)] := hl
  refine lv_aload_n hx hb dX5_take_0 rfl (lv_at hl 0 rfl) ?_
  refine lv_iload_n hx hb dX5_take_1 rfl (lv_at hl 1 rfl) ?_
  refine r_S0 X S (c_X5_isStudent l D cA ad _ F (nI i)) (va_cwS 1 hts gX5_take_X5_isStudent rfl rfl rfl (by decide +kernel) ⟨Nat.le_of_ble_eq_true rfl, Nat.le_of_ble_eq_true rfl⟩) rfl hl.1 rfl (Nat.le_of_ble_eq_true rfl) dX5_take_2 ⟨Nat.zero_le _, Nat.zero_le _⟩ (fun H locs S => ?_)
  refine lv_if_ne (tgt := 12) hx hb dX5_take_5 (by decide) (fun _ => ?_) (fun z => False.elim (by rw [(wi4 i hi)] at z; revert z; decide))
  refine lv_iload_n hx hb dX5_take_12 rfl (lv_at hl 2 rfl) ?_
  refine lv_iconst (v := 1) hx hb dX5_take_13 (by decide) ?_
  refine lv_bipush (v := 10) hx hb dX5_take_14 (by decide) ?_
  refine r_S0 X S (c_X5_in l D cA ad _ F cr 1 10) (va_cwS 3 hts gX5_take_X5_in rfl rfl rfl (by decide +kernel) ⟨Nat.le_of_ble_eq_true rfl, Nat.le_of_ble_eq_true rfl⟩) rfl hl.1 rfl (Nat.le_of_ble_eq_true rfl) dX5_take_16 ⟨Nat.zero_le _, Nat.zero_le _⟩ (fun H locs S => ?_)
  refine lv_if_ne (tgt := 26) hx hb dX5_take_19 (by decide) (fun z => False.elim (by rw [h] at z; revert z; decide)) (fun _ => ?_)
  refine lv_iconst (v := 2) hx hb dX5_take_22 (by decide) ?_
  refine lv_goto (tgt := 42) hx hb dX5_take_23 (by decide) ?_
  refine r_V0 X S (c_X5_holdsn l D cA ad _ F 2 (by decide)) ob_M rfl (cwV 1 hts gX5_take_X5_holds rfl rfl rfl (by decide +kernel) ⟨Nat.le_of_ble_eq_true rfl, Nat.le_of_ble_eq_true rfl⟩) rfl hl.1 rfl (Nat.le_of_ble_eq_true rfl) dX5_take_42 ⟨Nat.zero_le _, Nat.zero_le _⟩ (fun H locs S => ?_)
  obtain ⟨F_1, eF_1⟩ : ∃ z, z = u2 F 36 0 2 := ⟨_, rfl⟩
  rw [← eF_1] at S
  refine lv_if_ne (tgt := 50) hx hb dX5_take_45 (by decide) (fun z => False.elim (by first | exact absurd z (by decide) | exact absurd (by decide) z)) (fun _ => ?_)
  refine lv_iconst (v := 0) hx hb dX5_take_48 (by decide) ?_
  exact r_iret X S hr dX5_take_49 (Nat.le_of_ble_eq_true rfl) (Nat.le_of_ble_eq_true rfl) (by rfl) (by simp only [th, eF_1])

set_option maxHeartbeats 1000000 in
set_option maxRecDepth 100000 in
theorem e3_X5_take (l : Launch) (D : va_G) (cA : Nat → ClassId) (ad : Nat → Nat) (sz : Nat) (F : FF) (i : Nat) (hi : i < 4) (hM : OKM F i) (cr : Int32) (h1 : wi cr 1 10 = true) (h : tM F i = 8) : CI l D cA ad sz yX5_take wsX5_take 2 42 0 0 [.ref (ad 36), .int (nI i), .int cr] F (some (.int 0)) (th F 3) := by
  refine CI_of (own := RX5) (cc := cX5_take) (maxL := 4) (ret := (some .int)) (by decide +kernel) rfl rfl (Nat.le_of_ble_eq_true rfl) ?_
  intro p e s m below meth c ls X S hr hl
  obtain ⟨⟨hx, hb, hml, hown, hts⟩, hE, hI, hlocks⟩ := id X
  have hl : lv_has ls 4 [(0, .ref (ad 36)), (1, .int (nI i)), (2, .int cr)] := hl
  have hw5 : ∀ w ∈ wsX50, w.before _ s = true := fun w h => hts w ((by decide +kernel : ∀ w ∈ wsX50, w ∈ wsX5_take) w h)
  refine lv_aload_n hx hb dX5_take_0 rfl (lv_at hl 0 rfl) ?_
  refine lv_iload_n hx hb dX5_take_1 rfl (lv_at hl 1 rfl) ?_
  refine r_S0 X S (c_X5_isStudent l D cA ad _ F (nI i)) (va_cwS 1 hts gX5_take_X5_isStudent rfl rfl rfl (by decide +kernel) ⟨Nat.le_of_ble_eq_true rfl, Nat.le_of_ble_eq_true rfl⟩) rfl hl.1 rfl (Nat.le_of_ble_eq_true rfl) dX5_take_2 ⟨Nat.zero_le _, Nat.zero_le _⟩ (fun H locs S => ?_)
  refine lv_if_ne (tgt := 12) hx hb dX5_take_5 (by decide) (fun _ => ?_) (fun z => False.elim (by rw [(wi4 i hi)] at z; revert z; decide))
  refine lv_iload_n hx hb dX5_take_12 rfl (lv_at hl 2 rfl) ?_
  refine lv_iconst (v := 1) hx hb dX5_take_13 (by decide) ?_
  refine lv_bipush (v := 10) hx hb dX5_take_14 (by decide) ?_
  refine r_S0 X S (c_X5_in l D cA ad _ F cr 1 10) (va_cwS 3 hts gX5_take_X5_in rfl rfl rfl (by decide +kernel) ⟨Nat.le_of_ble_eq_true rfl, Nat.le_of_ble_eq_true rfl⟩) rfl hl.1 rfl (Nat.le_of_ble_eq_true rfl) dX5_take_16 ⟨Nat.zero_le _, Nat.zero_le _⟩ (fun H locs S => ?_)
  refine lv_if_ne (tgt := 26) hx hb dX5_take_19 (by decide) (fun _ => ?_) (fun z => False.elim (by rw [h1] at z; revert z; decide))
  refine lv_aload_n hx hb dX5_take_26 rfl (lv_at hl 0 rfl) ?_
  refine r_getr (q := 44) X S hw5 ob_M 14 ⟨rfl, by decide, rfl⟩ rfl (hts (.fieldLink RX5 42 "TermBillModel" "courses" "[I") (by decide +kernel)) dX5_take_27 ?_
  refine lv_iload_n hx hb dX5_take_30 rfl (lv_at hl 1 rfl) ?_
  refine r_ialN X S (k := 44) (n := 4) (by unfold Ar; decide) (q := i) rfl (by omega) (by decide) dX5_take_31 ?_
  rw [show F 44 i = nI 8 from (by rw [hM.2.1.2, h])]
  refine lv_bipush (v := 8) hx hb dX5_take_32 (by decide) ?_
  refine lv_icmp_ne (tgt := 41) hx hb dX5_take_34 (by decide) (fun z => False.elim (z rfl)) (fun _ => ?_)
  refine lv_iconst (v := 3) hx hb dX5_take_37 (by decide) ?_
  refine lv_goto (tgt := 42) hx hb dX5_take_38 (by decide) ?_
  refine r_V0 X S (c_X5_holdsn l D cA ad _ F 3 (by decide)) ob_M rfl (cwV 1 hts gX5_take_X5_holds rfl rfl rfl (by decide +kernel) ⟨Nat.le_of_ble_eq_true rfl, Nat.le_of_ble_eq_true rfl⟩) rfl hl.1 rfl (Nat.le_of_ble_eq_true rfl) dX5_take_42 ⟨Nat.zero_le _, Nat.zero_le _⟩ (fun H locs S => ?_)
  obtain ⟨F_1, eF_1⟩ : ∃ z, z = u2 F 36 0 3 := ⟨_, rfl⟩
  rw [← eF_1] at S
  refine lv_if_ne (tgt := 50) hx hb dX5_take_45 (by decide) (fun z => False.elim (by first | exact absurd z (by decide) | exact absurd (by decide) z)) (fun _ => ?_)
  refine lv_iconst (v := 0) hx hb dX5_take_48 (by decide) ?_
  exact r_iret X S hr dX5_take_49 (Nat.le_of_ble_eq_true rfl) (Nat.le_of_ble_eq_true rfl) (by rfl) (by simp only [th, eF_1])

set_option maxHeartbeats 1000000 in
set_option maxRecDepth 100000 in
theorem c_X5_drop (l : Launch) (D : va_G) (cA : Nat → ClassId) (ad : Nat → Nat) (sz : Nat) (F : FF) (i : Nat) (hi : i < 4) (hM : OKM F i) (j : Nat) (hj : j < tM F i) (h : F 46 (8 * i + j) = 0) (w : Nat) (hw : w < 16) (ew : F 36 1 = nI w) : CI l D cA ad sz yX5_drop wsX5_drop 3 68 0 0 [.ref (ad 36), .int (nI i), .int (nI j)] F (some (.int (mdK (th F 0) i j w))) (mdF (th F 0) i j w) := by
  refine CI_of (own := RX5) (cc := cX5_drop) (maxL := 4) (ret := (some .int)) (by decide +kernel) rfl rfl (Nat.le_of_ble_eq_true rfl) ?_
  intro p e s m below meth c ls X S hr hl
  obtain ⟨⟨hx, hb, hml, hown, hts⟩, hE, hI, hlocks⟩ := id X
  have hl : lv_has ls 4 [(0, .ref (ad 36)), (1, .int (nI i)), (2, .int (nI j))] := hl
  have hw5 : ∀ w ∈ wsX50, w.before _ s = true := fun w h => hts w ((by decide +kernel : ∀ w ∈ wsX50, w ∈ wsX5_drop) w h)
  have hj8 : j < 8 := by have := hM.2.1.1; omega
  refine lv_iload_n hx hb dX5_drop_0 rfl (lv_at hl 1 rfl) ?_
  refine r_S0 X S (c_X5_isStudent l D cA ad _ F (nI i)) (va_cwS 1 hts gX5_drop_X5_isStudent rfl rfl rfl (by decide +kernel) ⟨Nat.le_of_ble_eq_true rfl, Nat.le_of_ble_eq_true rfl⟩) rfl hl.1 rfl (Nat.le_of_ble_eq_true rfl) dX5_drop_1 ⟨Nat.zero_le _, Nat.zero_le _⟩ (fun H locs S => ?_)
  refine lv_if_eq (tgt := 27) hx hb dX5_drop_4 (by decide) (fun z => False.elim (by rw [(wi4 i hi)] at z; revert z; decide)) (fun _ => ?_)
  refine lv_iload_n hx hb dX5_drop_7 rfl (lv_at hl 2 rfl) ?_
  refine lv_iconst (v := 0) hx hb dX5_drop_8 (by decide) ?_
  refine lv_aload_n hx hb dX5_drop_9 rfl (lv_at hl 0 rfl) ?_
  refine r_getr (q := 44) X S hw5 ob_M 14 ⟨rfl, by decide, rfl⟩ rfl (hts (.fieldLink RX5 42 "TermBillModel" "courses" "[I") (by decide +kernel)) dX5_drop_10 ?_
  refine lv_iload_n hx hb dX5_drop_13 rfl (lv_at hl 1 rfl) ?_
  refine r_ialN X S (k := 44) (n := 4) (by unfold Ar; decide) (q := i) rfl (by omega) (by decide) dX5_drop_14 ?_
  rw [show F 44 i = nI (tM F i) from hM.2.1.2]
  refine lv_iconst (v := 1) hx hb dX5_drop_15 (by decide) ?_
  refine lv_isub hx hb dX5_drop_16 ?_
  refine r_S0 X S (c_X5_in l D cA ad _ F (nI j) 0 ((nI (tM F i)) - 1)) (va_cwS 3 hts gX5_drop_X5_in rfl rfl rfl (by decide +kernel) ⟨Nat.le_of_ble_eq_true rfl, Nat.le_of_ble_eq_true rfl⟩) rfl hl.1 rfl (Nat.le_of_ble_eq_true rfl) dX5_drop_17 ⟨Nat.zero_le _, Nat.zero_le _⟩ (fun H locs S => ?_)
  refine lv_if_eq (tgt := 27) hx hb dX5_drop_20 (by decide) (fun z => False.elim (by rw [(wi_pred hj hM.2.1.1)] at z; revert z; decide)) (fun _ => ?_)
  refine lv_iconst (v := 1) hx hb dX5_drop_23 (by decide) ?_
  refine lv_goto (tgt := 28) hx hb dX5_drop_24 (by decide) ?_
  refine lv_istore_n (lv' := [(3, .int 1), (0, .ref (ad 36)), (1, .int (nI i)), (2, .int (nI j))]) hx hb dX5_drop_28 rfl hl (by decide) rfl (fun ls hl => ?_)
  refine lv_aload_n hx hb dX5_drop_29 rfl (lv_at hl 1 rfl) ?_
  refine lv_iload_n hx hb dX5_drop_30 rfl (lv_at hl 0 rfl) ?_
  refine lv_if_ne (tgt := 38) hx hb dX5_drop_31 (by decide) (fun _ => ?_) (fun z => False.elim (by first | exact absurd z (by decide) | exact absurd (by decide) z))
  refine lv_aload_n hx hb dX5_drop_38 rfl (lv_at hl 1 rfl) ?_
  refine r_getr (q := 46) X S hw5 ob_M 16 ⟨rfl, by decide, rfl⟩ rfl (hts (.fieldLink RX5 48 "TermBillModel" "areDropped" "[Z") (by decide +kernel)) dX5_drop_39 ?_
  refine lv_bipush (v := 8) hx hb dX5_drop_42 (by decide) ?_
  refine lv_iload_n hx hb dX5_drop_44 rfl (lv_at hl 2 rfl) ?_
  refine lv_imul hx hb dX5_drop_45 ?_
  refine lv_topi (fun x_1 ex_1 => ?_)
  obtain rfl : x_1 = nI (8 * i) := ex_1.trans (nI_mul 8 i)
  refine lv_iload_n hx hb dX5_drop_46 rfl (lv_at hl 3 rfl) ?_
  refine lv_iadd hx hb dX5_drop_47 ?_
  refine lv_topi (fun x_2 ex_2 => ?_)
  obtain rfl : x_2 = nI ((8 * i) + j) := ex_2.trans (nI_add (8 * i) j)
  refine r_zalN X S (k := 46) (n := 32) (by unfold Ar; decide) (q := (8 * i) + j) rfl (by omega) (by decide) dX5_drop_48 ?_
  refine lv_if_eq (tgt := 56) hx hb dX5_drop_49 (by decide) (fun _ => ?_) (fun z => False.elim (z h))
  refine lv_iconst (v := 0) hx hb dX5_drop_56 (by decide) ?_
  refine r_V0 X S (c_X5_holds0 l D cA ad _ F) ob_M rfl (cwV 1 hts gX5_drop_X5_holds rfl rfl rfl (by decide +kernel) ⟨Nat.le_of_ble_eq_true rfl, Nat.le_of_ble_eq_true rfl⟩) rfl hl.1 rfl (Nat.le_of_ble_eq_true rfl) dX5_drop_57 ⟨Nat.zero_le _, Nat.zero_le _⟩ (fun H locs S => ?_)
  obtain ⟨F_3, eF_3⟩ : ∃ z, z = u2 F 36 0 0 := ⟨_, rfl⟩
  rw [← eF_3] at S
  refine lv_if_ne (tgt := 65) hx hb dX5_drop_60 (by decide) (fun _ => ?_) (fun z => False.elim (by first | exact absurd z (by decide) | exact absurd (by decide) z))
  refine lv_aload_n hx hb dX5_drop_65 rfl (lv_at hl 1 rfl) ?_
  refine lv_iload_n hx hb dX5_drop_66 rfl (lv_at hl 2 rfl) ?_
  refine lv_iload_n hx hb dX5_drop_67 rfl (lv_at hl 3 rfl) ?_
  refine r_V0 X S (c_X5_drops l D cA ad _ F_3 i hi (by rw [eF_3]; exact OKM_u2 hM (by decide) (by decide) (by decide)) j (by omega) w hw (by rw [eF_3, u2_ne _ _ (by omega), ew])) ob_M rfl (cwV 2 hts gX5_drop_X5_drops rfl rfl rfl (by decide +kernel) ⟨Nat.le_of_ble_eq_true rfl, Nat.le_of_ble_eq_true rfl⟩) rfl hl.1 rfl (Nat.le_of_ble_eq_true rfl) dX5_drop_68 ⟨Nat.zero_le _, Nat.zero_le _⟩ (fun H locs S => ?_)
  obtain ⟨F_4, eF_4⟩ : ∃ z, z = mdF F_3 i j w := ⟨_, rfl⟩
  rw [← eF_4] at S
  exact r_iret X S hr dX5_drop_71 (Nat.le_of_ble_eq_true rfl) (Nat.le_of_ble_eq_true rfl) (by simp only [th, eF_3]) (by simp only [th, eF_4, eF_3])

set_option maxHeartbeats 1000000 in
set_option maxRecDepth 100000 in
theorem e1_X5_drop (l : Launch) (D : va_G) (cA : Nat → ClassId) (ad : Nat → Nat) (sz : Nat) (F : FF) (x y : Int32) (h : wi x 0 3 = false) : CI l D cA ad sz yX5_drop wsX5_drop 3 68 0 0 [.ref (ad 36), .int x, .int y] F (some (.int 0)) (th F 1) := by
  refine CI_of (own := RX5) (cc := cX5_drop) (maxL := 4) (ret := (some .int)) (by decide +kernel) rfl rfl (Nat.le_of_ble_eq_true rfl) ?_
  intro p e s m below meth c ls X S hr hl
  obtain ⟨⟨hx, hb, hml, hown, hts⟩, hE, hI, hlocks⟩ := id X
  have hl : lv_has ls 4 [(0, .ref (ad 36)), (1, .int x), (2, .int y)] := hl
  refine lv_iload_n hx hb dX5_drop_0 rfl (lv_at hl 1 rfl) ?_
  refine r_S0 X S (c_X5_isStudent l D cA ad _ F x) (va_cwS 1 hts gX5_drop_X5_isStudent rfl rfl rfl (by decide +kernel) ⟨Nat.le_of_ble_eq_true rfl, Nat.le_of_ble_eq_true rfl⟩) rfl hl.1 rfl (Nat.le_of_ble_eq_true rfl) dX5_drop_1 ⟨Nat.zero_le _, Nat.zero_le _⟩ (fun H locs S => ?_)
  refine lv_if_eq (tgt := 27) hx hb dX5_drop_4 (by decide) (fun _ => ?_) (fun z => False.elim (by rw [h] at z; revert z; decide))
  refine lv_iconst (v := 0) hx hb dX5_drop_27 (by decide) ?_
  refine lv_istore_n (lv' := [(3, .int 0), (0, .ref (ad 36)), (1, .int x), (2, .int y)]) hx hb dX5_drop_28 rfl hl (by decide) rfl (fun ls hl => ?_)
  refine lv_aload_n hx hb dX5_drop_29 rfl (lv_at hl 1 rfl) ?_
  refine lv_iload_n hx hb dX5_drop_30 rfl (lv_at hl 0 rfl) ?_
  refine lv_if_ne (tgt := 38) hx hb dX5_drop_31 (by decide) (fun z => False.elim (by first | exact absurd z (by decide) | exact absurd (by decide) z)) (fun _ => ?_)
  refine lv_iconst (v := 1) hx hb dX5_drop_34 (by decide) ?_
  refine lv_goto (tgt := 57) hx hb dX5_drop_35 (by decide) ?_
  refine r_V0 X S (c_X5_holdsn l D cA ad _ F 1 (by decide)) ob_M rfl (cwV 1 hts gX5_drop_X5_holds rfl rfl rfl (by decide +kernel) ⟨Nat.le_of_ble_eq_true rfl, Nat.le_of_ble_eq_true rfl⟩) rfl hl.1 rfl (Nat.le_of_ble_eq_true rfl) dX5_drop_57 ⟨Nat.zero_le _, Nat.zero_le _⟩ (fun H locs S => ?_)
  obtain ⟨F_1, eF_1⟩ : ∃ z, z = u2 F 36 0 1 := ⟨_, rfl⟩
  rw [← eF_1] at S
  refine lv_if_ne (tgt := 65) hx hb dX5_drop_60 (by decide) (fun z => False.elim (by first | exact absurd z (by decide) | exact absurd (by decide) z)) (fun _ => ?_)
  refine lv_iconst (v := 0) hx hb dX5_drop_63 (by decide) ?_
  exact r_iret X S hr dX5_drop_64 (Nat.le_of_ble_eq_true rfl) (Nat.le_of_ble_eq_true rfl) (by rfl) (by simp only [th, eF_1])

set_option maxHeartbeats 1000000 in
set_option maxRecDepth 100000 in
theorem e4_X5_drop (l : Launch) (D : va_G) (cA : Nat → ClassId) (ad : Nat → Nat) (sz : Nat) (F : FF) (i : Nat) (hi : i < 4) (hM : OKM F i) (y : Int32) (h : wi y 0 (nI (tM F i) - 1) = false) : CI l D cA ad sz yX5_drop wsX5_drop 3 68 0 0 [.ref (ad 36), .int (nI i), .int y] F (some (.int 0)) (th F 1) := by
  refine CI_of (own := RX5) (cc := cX5_drop) (maxL := 4) (ret := (some .int)) (by decide +kernel) rfl rfl (Nat.le_of_ble_eq_true rfl) ?_
  intro p e s m below meth c ls X S hr hl
  obtain ⟨⟨hx, hb, hml, hown, hts⟩, hE, hI, hlocks⟩ := id X
  have hl : lv_has ls 4 [(0, .ref (ad 36)), (1, .int (nI i)), (2, .int y)] := hl
  have hw5 : ∀ w ∈ wsX50, w.before _ s = true := fun w h => hts w ((by decide +kernel : ∀ w ∈ wsX50, w ∈ wsX5_drop) w h)
  refine lv_iload_n hx hb dX5_drop_0 rfl (lv_at hl 1 rfl) ?_
  refine r_S0 X S (c_X5_isStudent l D cA ad _ F (nI i)) (va_cwS 1 hts gX5_drop_X5_isStudent rfl rfl rfl (by decide +kernel) ⟨Nat.le_of_ble_eq_true rfl, Nat.le_of_ble_eq_true rfl⟩) rfl hl.1 rfl (Nat.le_of_ble_eq_true rfl) dX5_drop_1 ⟨Nat.zero_le _, Nat.zero_le _⟩ (fun H locs S => ?_)
  refine lv_if_eq (tgt := 27) hx hb dX5_drop_4 (by decide) (fun z => False.elim (by rw [(wi4 i hi)] at z; revert z; decide)) (fun _ => ?_)
  refine lv_iload_n hx hb dX5_drop_7 rfl (lv_at hl 2 rfl) ?_
  refine lv_iconst (v := 0) hx hb dX5_drop_8 (by decide) ?_
  refine lv_aload_n hx hb dX5_drop_9 rfl (lv_at hl 0 rfl) ?_
  refine r_getr (q := 44) X S hw5 ob_M 14 ⟨rfl, by decide, rfl⟩ rfl (hts (.fieldLink RX5 42 "TermBillModel" "courses" "[I") (by decide +kernel)) dX5_drop_10 ?_
  refine lv_iload_n hx hb dX5_drop_13 rfl (lv_at hl 1 rfl) ?_
  refine r_ialN X S (k := 44) (n := 4) (by unfold Ar; decide) (q := i) rfl (by omega) (by decide) dX5_drop_14 ?_
  rw [show F 44 i = nI (tM F i) from hM.2.1.2]
  refine lv_iconst (v := 1) hx hb dX5_drop_15 (by decide) ?_
  refine lv_isub hx hb dX5_drop_16 ?_
  refine r_S0 X S (c_X5_in l D cA ad _ F y 0 ((nI (tM F i)) - 1)) (va_cwS 3 hts gX5_drop_X5_in rfl rfl rfl (by decide +kernel) ⟨Nat.le_of_ble_eq_true rfl, Nat.le_of_ble_eq_true rfl⟩) rfl hl.1 rfl (Nat.le_of_ble_eq_true rfl) dX5_drop_17 ⟨Nat.zero_le _, Nat.zero_le _⟩ (fun H locs S => ?_)
  refine lv_if_eq (tgt := 27) hx hb dX5_drop_20 (by decide) (fun _ => ?_) (fun z => False.elim (by rw [h] at z; revert z; decide))
  refine lv_iconst (v := 0) hx hb dX5_drop_27 (by decide) ?_
  refine lv_istore_n (lv' := [(3, .int 0), (0, .ref (ad 36)), (1, .int (nI i)), (2, .int y)]) hx hb dX5_drop_28 rfl hl (by decide) rfl (fun ls hl => ?_)
  refine lv_aload_n hx hb dX5_drop_29 rfl (lv_at hl 1 rfl) ?_
  refine lv_iload_n hx hb dX5_drop_30 rfl (lv_at hl 0 rfl) ?_
  refine lv_if_ne (tgt := 38) hx hb dX5_drop_31 (by decide) (fun z => False.elim (by first | exact absurd z (by decide) | exact absurd (by decide) z)) (fun _ => ?_)
  refine lv_iconst (v := 1) hx hb dX5_drop_34 (by decide) ?_
  refine lv_goto (tgt := 57) hx hb dX5_drop_35 (by decide) ?_
  refine r_V0 X S (c_X5_holdsn l D cA ad _ F 1 (by decide)) ob_M rfl (cwV 1 hts gX5_drop_X5_holds rfl rfl rfl (by decide +kernel) ⟨Nat.le_of_ble_eq_true rfl, Nat.le_of_ble_eq_true rfl⟩) rfl hl.1 rfl (Nat.le_of_ble_eq_true rfl) dX5_drop_57 ⟨Nat.zero_le _, Nat.zero_le _⟩ (fun H locs S => ?_)
  obtain ⟨F_1, eF_1⟩ : ∃ z, z = u2 F 36 0 1 := ⟨_, rfl⟩
  rw [← eF_1] at S
  refine lv_if_ne (tgt := 65) hx hb dX5_drop_60 (by decide) (fun z => False.elim (by first | exact absurd z (by decide) | exact absurd (by decide) z)) (fun _ => ?_)
  refine lv_iconst (v := 0) hx hb dX5_drop_63 (by decide) ?_
  exact r_iret X S hr dX5_drop_64 (Nat.le_of_ble_eq_true rfl) (Nat.le_of_ble_eq_true rfl) (by rfl) (by simp only [th, eF_1])

set_option maxHeartbeats 1000000 in
set_option maxRecDepth 100000 in
theorem e2_X5_drop (l : Launch) (D : va_G) (cA : Nat → ClassId) (ad : Nat → Nat) (sz : Nat) (F : FF) (i : Nat) (hi : i < 4) (hM : OKM F i) (j : Nat) (hj : j < tM F i) (h : ¬ F 46 (8 * i + j) = 0) : CI l D cA ad sz yX5_drop wsX5_drop 3 68 0 0 [.ref (ad 36), .int (nI i), .int (nI j)] F (some (.int 0)) (th F 2) := by
  refine CI_of (own := RX5) (cc := cX5_drop) (maxL := 4) (ret := (some .int)) (by decide +kernel) rfl rfl (Nat.le_of_ble_eq_true rfl) ?_
  intro p e s m below meth c ls X S hr hl
  obtain ⟨⟨hx, hb, hml, hown, hts⟩, hE, hI, hlocks⟩ := id X
  have hl : lv_has ls 4 [(0, .ref (ad 36)), (1, .int (nI i)), (2, .int (nI j))] := hl
  have hw5 : ∀ w ∈ wsX50, w.before _ s = true := fun w h => hts w ((by decide +kernel : ∀ w ∈ wsX50, w ∈ wsX5_drop) w h)
  have hj8 : j < 8 := by have := hM.2.1.1; omega
  refine lv_iload_n hx hb dX5_drop_0 rfl (lv_at hl 1 rfl) ?_
  refine r_S0 X S (c_X5_isStudent l D cA ad _ F (nI i)) (va_cwS 1 hts gX5_drop_X5_isStudent rfl rfl rfl (by decide +kernel) ⟨Nat.le_of_ble_eq_true rfl, Nat.le_of_ble_eq_true rfl⟩) rfl hl.1 rfl (Nat.le_of_ble_eq_true rfl) dX5_drop_1 ⟨Nat.zero_le _, Nat.zero_le _⟩ (fun H locs S => ?_)
  refine lv_if_eq (tgt := 27) hx hb dX5_drop_4 (by decide) (fun z => False.elim (by rw [(wi4 i hi)] at z; revert z; decide)) (fun _ => ?_)
  refine lv_iload_n hx hb dX5_drop_7 rfl (lv_at hl 2 rfl) ?_
  refine lv_iconst (v := 0) hx hb dX5_drop_8 (by decide) ?_
  refine lv_aload_n hx hb dX5_drop_9 rfl (lv_at hl 0 rfl) ?_
  refine r_getr (q := 44) X S hw5 ob_M 14 ⟨rfl, by decide, rfl⟩ rfl (hts (.fieldLink RX5 42 "TermBillModel" "courses" "[I") (by decide +kernel)) dX5_drop_10 ?_
  refine lv_iload_n hx hb dX5_drop_13 rfl (lv_at hl 1 rfl) ?_
  refine r_ialN X S (k := 44) (n := 4) (by unfold Ar; decide) (q := i) rfl (by omega) (by decide) dX5_drop_14 ?_
  rw [show F 44 i = nI (tM F i) from hM.2.1.2]
  refine lv_iconst (v := 1) hx hb dX5_drop_15 (by decide) ?_
  refine lv_isub hx hb dX5_drop_16 ?_
  refine r_S0 X S (c_X5_in l D cA ad _ F (nI j) 0 ((nI (tM F i)) - 1)) (va_cwS 3 hts gX5_drop_X5_in rfl rfl rfl (by decide +kernel) ⟨Nat.le_of_ble_eq_true rfl, Nat.le_of_ble_eq_true rfl⟩) rfl hl.1 rfl (Nat.le_of_ble_eq_true rfl) dX5_drop_17 ⟨Nat.zero_le _, Nat.zero_le _⟩ (fun H locs S => ?_)
  refine lv_if_eq (tgt := 27) hx hb dX5_drop_20 (by decide) (fun z => False.elim (by rw [(wi_pred hj hM.2.1.1)] at z; revert z; decide)) (fun _ => ?_)
  refine lv_iconst (v := 1) hx hb dX5_drop_23 (by decide) ?_
  refine lv_goto (tgt := 28) hx hb dX5_drop_24 (by decide) ?_
  refine lv_istore_n (lv' := [(3, .int 1), (0, .ref (ad 36)), (1, .int (nI i)), (2, .int (nI j))]) hx hb dX5_drop_28 rfl hl (by decide) rfl (fun ls hl => ?_)
  refine lv_aload_n hx hb dX5_drop_29 rfl (lv_at hl 1 rfl) ?_
  refine lv_iload_n hx hb dX5_drop_30 rfl (lv_at hl 0 rfl) ?_
  refine lv_if_ne (tgt := 38) hx hb dX5_drop_31 (by decide) (fun _ => ?_) (fun z => False.elim (by first | exact absurd z (by decide) | exact absurd (by decide) z))
  refine lv_aload_n hx hb dX5_drop_38 rfl (lv_at hl 1 rfl) ?_
  refine r_getr (q := 46) X S hw5 ob_M 16 ⟨rfl, by decide, rfl⟩ rfl (hts (.fieldLink RX5 48 "TermBillModel" "areDropped" "[Z") (by decide +kernel)) dX5_drop_39 ?_
  refine lv_bipush (v := 8) hx hb dX5_drop_42 (by decide) ?_
  refine lv_iload_n hx hb dX5_drop_44 rfl (lv_at hl 2 rfl) ?_
  refine lv_imul hx hb dX5_drop_45 ?_
  refine lv_topi (fun x_1 ex_1 => ?_)
  obtain rfl : x_1 = nI (8 * i) := ex_1.trans (nI_mul 8 i)
  refine lv_iload_n hx hb dX5_drop_46 rfl (lv_at hl 3 rfl) ?_
  refine lv_iadd hx hb dX5_drop_47 ?_
  refine lv_topi (fun x_2 ex_2 => ?_)
  obtain rfl : x_2 = nI ((8 * i) + j) := ex_2.trans (nI_add (8 * i) j)
  refine r_zalN X S (k := 46) (n := 32) (by unfold Ar; decide) (q := (8 * i) + j) rfl (by omega) (by decide) dX5_drop_48 ?_
  refine lv_if_eq (tgt := 56) hx hb dX5_drop_49 (by decide) (fun z => False.elim (h z)) (fun _ => ?_)
  refine lv_iconst (v := 2) hx hb dX5_drop_52 (by decide) ?_
  refine lv_goto (tgt := 57) hx hb dX5_drop_53 (by decide) ?_
  refine r_V0 X S (c_X5_holdsn l D cA ad _ F 2 (by decide)) ob_M rfl (cwV 1 hts gX5_drop_X5_holds rfl rfl rfl (by decide +kernel) ⟨Nat.le_of_ble_eq_true rfl, Nat.le_of_ble_eq_true rfl⟩) rfl hl.1 rfl (Nat.le_of_ble_eq_true rfl) dX5_drop_57 ⟨Nat.zero_le _, Nat.zero_le _⟩ (fun H locs S => ?_)
  obtain ⟨F_3, eF_3⟩ : ∃ z, z = u2 F 36 0 2 := ⟨_, rfl⟩
  rw [← eF_3] at S
  refine lv_if_ne (tgt := 65) hx hb dX5_drop_60 (by decide) (fun z => False.elim (by first | exact absurd z (by decide) | exact absurd (by decide) z)) (fun _ => ?_)
  refine lv_iconst (v := 0) hx hb dX5_drop_63 (by decide) ?_
  exact r_iret X S hr dX5_drop_64 (Nat.le_of_ble_eq_true rfl) (Nat.le_of_ble_eq_true rfl) (by rfl) (by simp only [th, eF_3])

set_option maxHeartbeats 1000000 in
set_option maxRecDepth 100000 in
theorem c_X5_charge1 (l : Launch) (D : va_G) (cA : Nat → ClassId) (ad : Nat → Nat) (sz : Nat) (F : FF) (i : Nat) (hi : i < 4) (am : Int32) (h1 : wi am 1 1000000 = true) : CI l D cA ad sz yX5_charge wsX5_charge 2 42 0 0 [.ref (ad 36), .int (nI i), .int 1, .int am] F (some (.int (mcF F i am 0 48 i))) (mcF F i am 0) := by
  refine CI_of (own := RX5) (cc := cX5_charge) (maxL := 4) (ret := (some .int)) (by decide +kernel) rfl rfl (Nat.le_of_ble_eq_true rfl) ?_
  intro p e s m below meth c ls X S hr hl
  obtain ⟨⟨hx, hb, hml, hown, hts⟩, hE, hI, hlocks⟩ := id X
  have hl : lv_has ls 4 [(0, .ref (ad 36)), (1, .int (nI i)), (2, .int 1), (3, .int am)] := hl
  have hw5 : ∀ w ∈ wsX50, w.before _ s = true := fun w h => hts w ((by decide +kernel : ∀ w ∈ wsX50, w ∈ wsX5_charge) w h)
  refine lv_aload_n hx hb dX5_charge_0 rfl (lv_at hl 0 rfl) ?_
  refine lv_iload_n hx hb dX5_charge_1 rfl (lv_at hl 1 rfl) ?_
  refine r_S0 X S (c_X5_isStudent l D cA ad _ F (nI i)) (va_cwS 1 hts gX5_charge_X5_isStudent rfl rfl rfl (by decide +kernel) ⟨Nat.le_of_ble_eq_true rfl, Nat.le_of_ble_eq_true rfl⟩) rfl hl.1 rfl (Nat.le_of_ble_eq_true rfl) dX5_charge_2 ⟨Nat.zero_le _, Nat.zero_le _⟩ (fun H locs S => ?_)
  refine lv_if_ne (tgt := 12) hx hb dX5_charge_5 (by decide) (fun _ => ?_) (fun z => False.elim (by rw [(wi4 i hi)] at z; revert z; decide))
  refine lv_iload_n hx hb dX5_charge_12 rfl (lv_at hl 2 rfl) ?_
  refine lv_iconst (v := 1) hx hb dX5_charge_13 (by decide) ?_
  refine lv_iconst (v := 2) hx hb dX5_charge_14 (by decide) ?_
  refine r_S0 X S (c_X5_in l D cA ad _ F 1 1 2) (va_cwS 3 hts gX5_charge_X5_in rfl rfl rfl (by decide +kernel) ⟨Nat.le_of_ble_eq_true rfl, Nat.le_of_ble_eq_true rfl⟩) rfl hl.1 rfl (Nat.le_of_ble_eq_true rfl) dX5_charge_15 ⟨Nat.zero_le _, Nat.zero_le _⟩ (fun H locs S => ?_)
  refine lv_if_eq (tgt := 35) hx hb dX5_charge_18 (by decide) (fun z => False.elim (by rw [(show wi 1 1 2 = true by decide)] at z; revert z; decide)) (fun _ => ?_)
  refine lv_iload_n hx hb dX5_charge_21 rfl (lv_at hl 3 rfl) ?_
  refine lv_iconst (v := 1) hx hb dX5_charge_22 (by decide) ?_
  refine lv_ldc (v := 1000000) hx hb hown (hts (.constant RX5 103 1000000) (by decide +kernel)) dX5_charge_23 ?_
  refine r_S0 X S (c_X5_in l D cA ad _ F am 1 1000000) (va_cwS 3 hts gX5_charge_X5_in rfl rfl rfl (by decide +kernel) ⟨Nat.le_of_ble_eq_true rfl, Nat.le_of_ble_eq_true rfl⟩) rfl hl.1 rfl (Nat.le_of_ble_eq_true rfl) dX5_charge_25 ⟨Nat.zero_le _, Nat.zero_le _⟩ (fun H locs S => ?_)
  refine lv_if_eq (tgt := 35) hx hb dX5_charge_28 (by decide) (fun z => False.elim (by rw [h1] at z; revert z; decide)) (fun _ => ?_)
  refine lv_iconst (v := 0) hx hb dX5_charge_31 (by decide) ?_
  refine lv_goto (tgt := 36) hx hb dX5_charge_32 (by decide) ?_
  refine r_V0 X S (c_X5_holds0 l D cA ad _ F) ob_M rfl (cwV 1 hts gX5_charge_X5_holds rfl rfl rfl (by decide +kernel) ⟨Nat.le_of_ble_eq_true rfl, Nat.le_of_ble_eq_true rfl⟩) rfl hl.1 rfl (Nat.le_of_ble_eq_true rfl) dX5_charge_36 ⟨Nat.zero_le _, Nat.zero_le _⟩ (fun H locs S => ?_)
  obtain ⟨F_1, eF_1⟩ : ∃ z, z = u2 F 36 0 0 := ⟨_, rfl⟩
  rw [← eF_1] at S
  refine lv_if_ne (tgt := 44) hx hb dX5_charge_39 (by decide) (fun _ => ?_) (fun z => False.elim (by first | exact absurd z (by decide) | exact absurd (by decide) z))
  refine lv_aload_n hx hb dX5_charge_44 rfl (lv_at hl 0 rfl) ?_
  refine r_getr (q := 48) X S hw5 ob_M 18 ⟨rfl, by decide, rfl⟩ rfl (hts (.fieldLink RX5 54 "TermBillModel" "fees" "[I") (by decide +kernel)) dX5_charge_45 ?_
  refine lv_iload_n hx hb dX5_charge_48 rfl (lv_at hl 1 rfl) ?_
  refine lv_dup2_11 hx hb dX5_charge_49 rfl rfl ?_
  refine r_ialN X S (k := 48) (n := 4) (by unfold Ar; decide) (q := i) rfl (by omega) (by decide) dX5_charge_50 ?_
  refine lv_iload_n hx hb dX5_charge_51 rfl (lv_at hl 2 rfl) ?_
  refine lv_iconst (v := 1) hx hb dX5_charge_52 (by decide) ?_
  refine lv_icmp_ne (tgt := 60) hx hb dX5_charge_53 (by decide) (fun z => False.elim (by first | exact absurd z (by decide) | exact absurd (by decide) z)) (fun _ => ?_)
  refine lv_iload_n hx hb dX5_charge_56 rfl (lv_at hl 3 rfl) ?_
  refine lv_goto (tgt := 61) hx hb dX5_charge_57 (by decide) ?_
  refine lv_iadd hx hb dX5_charge_61 ?_
  refine r_iasN X S (k := 48) (n := 4) (by unfold Ar; decide) (q := i) rfl (by omega) (by decide) dX5_charge_62 (fun H locs S => ?_)
  obtain ⟨F_2, eF_2⟩ : ∃ z, z = u2 F_1 48 i ((F_1 48 i) + am) := ⟨_, rfl⟩
  rw [← eF_2] at S
  refine lv_aload_n hx hb dX5_charge_63 rfl (lv_at hl 0 rfl) ?_
  refine r_getr (q := 49) X S hw5 ob_M 19 ⟨rfl, by decide, rfl⟩ rfl (hts (.fieldLink RX5 57 "TermBillModel" "housing" "[I") (by decide +kernel)) dX5_charge_64 ?_
  refine lv_iload_n hx hb dX5_charge_67 rfl (lv_at hl 1 rfl) ?_
  refine lv_dup2_11 hx hb dX5_charge_68 rfl rfl ?_
  refine r_ialN X S (k := 49) (n := 4) (by unfold Ar; decide) (q := i) rfl (by omega) (by decide) dX5_charge_69 ?_
  refine lv_iload_n hx hb dX5_charge_70 rfl (lv_at hl 2 rfl) ?_
  refine lv_iconst (v := 2) hx hb dX5_charge_71 (by decide) ?_
  refine lv_icmp_ne (tgt := 79) hx hb dX5_charge_72 (by decide) (fun _ => ?_) (fun z => False.elim (by first | exact absurd z (by decide) | exact absurd (by decide) z))
  refine lv_iconst (v := 0) hx hb dX5_charge_79 (by decide) ?_
  refine lv_iadd hx hb dX5_charge_80 ?_
  refine r_iasN X S (k := 49) (n := 4) (by unfold Ar; decide) (q := i) rfl (by omega) (by decide) dX5_charge_81 (fun H locs S => ?_)
  obtain ⟨F_3, eF_3⟩ : ∃ z, z = u2 F_2 49 i ((F_2 49 i) + 0) := ⟨_, rfl⟩
  rw [← eF_3] at S
  refine lv_aload_n hx hb dX5_charge_82 rfl (lv_at hl 0 rfl) ?_
  refine lv_iload_n hx hb dX5_charge_83 rfl (lv_at hl 1 rfl) ?_
  refine lv_iload_n hx hb dX5_charge_84 rfl (lv_at hl 2 rfl) ?_
  refine r_V0 X S (c_X5_chargedOf1 l D cA ad _ F_3 i hi) ob_M rfl (cwV 2 hts gX5_charge_X5_chargedOf rfl rfl rfl (by decide +kernel) ⟨Nat.le_of_ble_eq_true rfl, Nat.le_of_ble_eq_true rfl⟩) rfl hl.1 rfl (Nat.le_of_ble_eq_true rfl) dX5_charge_85 ⟨Nat.zero_le _, Nat.zero_le _⟩ (fun H locs S => ?_)
  exact r_iret X S hr dX5_charge_88 (Nat.le_of_ble_eq_true rfl) (Nat.le_of_ble_eq_true rfl) (by unfold mcF; simp only [th, eF_3, eF_2, eF_1]) (by unfold mcF; simp only [th, eF_3, eF_2, eF_1])

set_option maxHeartbeats 1000000 in
set_option maxRecDepth 100000 in
theorem c_X5_charge2 (l : Launch) (D : va_G) (cA : Nat → ClassId) (ad : Nat → Nat) (sz : Nat) (F : FF) (i : Nat) (hi : i < 4) (am : Int32) (h1 : wi am 1 1000000 = true) : CI l D cA ad sz yX5_charge wsX5_charge 2 42 0 0 [.ref (ad 36), .int (nI i), .int 2, .int am] F (some (.int (mcF F i 0 am 49 i))) (mcF F i 0 am) := by
  refine CI_of (own := RX5) (cc := cX5_charge) (maxL := 4) (ret := (some .int)) (by decide +kernel) rfl rfl (Nat.le_of_ble_eq_true rfl) ?_
  intro p e s m below meth c ls X S hr hl
  obtain ⟨⟨hx, hb, hml, hown, hts⟩, hE, hI, hlocks⟩ := id X
  have hl : lv_has ls 4 [(0, .ref (ad 36)), (1, .int (nI i)), (2, .int 2), (3, .int am)] := hl
  have hw5 : ∀ w ∈ wsX50, w.before _ s = true := fun w h => hts w ((by decide +kernel : ∀ w ∈ wsX50, w ∈ wsX5_charge) w h)
  refine lv_aload_n hx hb dX5_charge_0 rfl (lv_at hl 0 rfl) ?_
  refine lv_iload_n hx hb dX5_charge_1 rfl (lv_at hl 1 rfl) ?_
  refine r_S0 X S (c_X5_isStudent l D cA ad _ F (nI i)) (va_cwS 1 hts gX5_charge_X5_isStudent rfl rfl rfl (by decide +kernel) ⟨Nat.le_of_ble_eq_true rfl, Nat.le_of_ble_eq_true rfl⟩) rfl hl.1 rfl (Nat.le_of_ble_eq_true rfl) dX5_charge_2 ⟨Nat.zero_le _, Nat.zero_le _⟩ (fun H locs S => ?_)
  refine lv_if_ne (tgt := 12) hx hb dX5_charge_5 (by decide) (fun _ => ?_) (fun z => False.elim (by rw [(wi4 i hi)] at z; revert z; decide))
  refine lv_iload_n hx hb dX5_charge_12 rfl (lv_at hl 2 rfl) ?_
  refine lv_iconst (v := 1) hx hb dX5_charge_13 (by decide) ?_
  refine lv_iconst (v := 2) hx hb dX5_charge_14 (by decide) ?_
  refine r_S0 X S (c_X5_in l D cA ad _ F 2 1 2) (va_cwS 3 hts gX5_charge_X5_in rfl rfl rfl (by decide +kernel) ⟨Nat.le_of_ble_eq_true rfl, Nat.le_of_ble_eq_true rfl⟩) rfl hl.1 rfl (Nat.le_of_ble_eq_true rfl) dX5_charge_15 ⟨Nat.zero_le _, Nat.zero_le _⟩ (fun H locs S => ?_)
  refine lv_if_eq (tgt := 35) hx hb dX5_charge_18 (by decide) (fun z => False.elim (by rw [(show wi 2 1 2 = true by decide)] at z; revert z; decide)) (fun _ => ?_)
  refine lv_iload_n hx hb dX5_charge_21 rfl (lv_at hl 3 rfl) ?_
  refine lv_iconst (v := 1) hx hb dX5_charge_22 (by decide) ?_
  refine lv_ldc (v := 1000000) hx hb hown (hts (.constant RX5 103 1000000) (by decide +kernel)) dX5_charge_23 ?_
  refine r_S0 X S (c_X5_in l D cA ad _ F am 1 1000000) (va_cwS 3 hts gX5_charge_X5_in rfl rfl rfl (by decide +kernel) ⟨Nat.le_of_ble_eq_true rfl, Nat.le_of_ble_eq_true rfl⟩) rfl hl.1 rfl (Nat.le_of_ble_eq_true rfl) dX5_charge_25 ⟨Nat.zero_le _, Nat.zero_le _⟩ (fun H locs S => ?_)
  refine lv_if_eq (tgt := 35) hx hb dX5_charge_28 (by decide) (fun z => False.elim (by rw [h1] at z; revert z; decide)) (fun _ => ?_)
  refine lv_iconst (v := 0) hx hb dX5_charge_31 (by decide) ?_
  refine lv_goto (tgt := 36) hx hb dX5_charge_32 (by decide) ?_
  refine r_V0 X S (c_X5_holds0 l D cA ad _ F) ob_M rfl (cwV 1 hts gX5_charge_X5_holds rfl rfl rfl (by decide +kernel) ⟨Nat.le_of_ble_eq_true rfl, Nat.le_of_ble_eq_true rfl⟩) rfl hl.1 rfl (Nat.le_of_ble_eq_true rfl) dX5_charge_36 ⟨Nat.zero_le _, Nat.zero_le _⟩ (fun H locs S => ?_)
  obtain ⟨F_1, eF_1⟩ : ∃ z, z = u2 F 36 0 0 := ⟨_, rfl⟩
  rw [← eF_1] at S
  refine lv_if_ne (tgt := 44) hx hb dX5_charge_39 (by decide) (fun _ => ?_) (fun z => False.elim (by first | exact absurd z (by decide) | exact absurd (by decide) z))
  refine lv_aload_n hx hb dX5_charge_44 rfl (lv_at hl 0 rfl) ?_
  refine r_getr (q := 48) X S hw5 ob_M 18 ⟨rfl, by decide, rfl⟩ rfl (hts (.fieldLink RX5 54 "TermBillModel" "fees" "[I") (by decide +kernel)) dX5_charge_45 ?_
  refine lv_iload_n hx hb dX5_charge_48 rfl (lv_at hl 1 rfl) ?_
  refine lv_dup2_11 hx hb dX5_charge_49 rfl rfl ?_
  refine r_ialN X S (k := 48) (n := 4) (by unfold Ar; decide) (q := i) rfl (by omega) (by decide) dX5_charge_50 ?_
  refine lv_iload_n hx hb dX5_charge_51 rfl (lv_at hl 2 rfl) ?_
  refine lv_iconst (v := 1) hx hb dX5_charge_52 (by decide) ?_
  refine lv_icmp_ne (tgt := 60) hx hb dX5_charge_53 (by decide) (fun _ => ?_) (fun z => False.elim (by first | exact absurd z (by decide) | exact absurd (by decide) z))
  refine lv_iconst (v := 0) hx hb dX5_charge_60 (by decide) ?_
  refine lv_iadd hx hb dX5_charge_61 ?_
  refine r_iasN X S (k := 48) (n := 4) (by unfold Ar; decide) (q := i) rfl (by omega) (by decide) dX5_charge_62 (fun H locs S => ?_)
  obtain ⟨F_2, eF_2⟩ : ∃ z, z = u2 F_1 48 i ((F_1 48 i) + 0) := ⟨_, rfl⟩
  rw [← eF_2] at S
  refine lv_aload_n hx hb dX5_charge_63 rfl (lv_at hl 0 rfl) ?_
  refine r_getr (q := 49) X S hw5 ob_M 19 ⟨rfl, by decide, rfl⟩ rfl (hts (.fieldLink RX5 57 "TermBillModel" "housing" "[I") (by decide +kernel)) dX5_charge_64 ?_
  refine lv_iload_n hx hb dX5_charge_67 rfl (lv_at hl 1 rfl) ?_
  refine lv_dup2_11 hx hb dX5_charge_68 rfl rfl ?_
  refine r_ialN X S (k := 49) (n := 4) (by unfold Ar; decide) (q := i) rfl (by omega) (by decide) dX5_charge_69 ?_
  refine lv_iload_n hx hb dX5_charge_70 rfl (lv_at hl 2 rfl) ?_
  refine lv_iconst (v := 2) hx hb dX5_charge_71 (by decide) ?_
  refine lv_icmp_ne (tgt := 79) hx hb dX5_charge_72 (by decide) (fun z => False.elim (by first | exact absurd z (by decide) | exact absurd (by decide) z)) (fun _ => ?_)
  refine lv_iload_n hx hb dX5_charge_75 rfl (lv_at hl 3 rfl) ?_
  refine lv_goto (tgt := 80) hx hb dX5_charge_76 (by decide) ?_
  refine lv_iadd hx hb dX5_charge_80 ?_
  refine r_iasN X S (k := 49) (n := 4) (by unfold Ar; decide) (q := i) rfl (by omega) (by decide) dX5_charge_81 (fun H locs S => ?_)
  obtain ⟨F_3, eF_3⟩ : ∃ z, z = u2 F_2 49 i ((F_2 49 i) + am) := ⟨_, rfl⟩
  rw [← eF_3] at S
  refine lv_aload_n hx hb dX5_charge_82 rfl (lv_at hl 0 rfl) ?_
  refine lv_iload_n hx hb dX5_charge_83 rfl (lv_at hl 1 rfl) ?_
  refine lv_iload_n hx hb dX5_charge_84 rfl (lv_at hl 2 rfl) ?_
  refine r_V0 X S (c_X5_chargedOf2 l D cA ad _ F_3 i hi) ob_M rfl (cwV 2 hts gX5_charge_X5_chargedOf rfl rfl rfl (by decide +kernel) ⟨Nat.le_of_ble_eq_true rfl, Nat.le_of_ble_eq_true rfl⟩) rfl hl.1 rfl (Nat.le_of_ble_eq_true rfl) dX5_charge_85 ⟨Nat.zero_le _, Nat.zero_le _⟩ (fun H locs S => ?_)
  exact r_iret X S hr dX5_charge_88 (Nat.le_of_ble_eq_true rfl) (Nat.le_of_ble_eq_true rfl) (by unfold mcF; simp only [th, eF_3, eF_2, eF_1]) (by unfold mcF; simp only [th, eF_3, eF_2, eF_1])

set_option maxHeartbeats 1000000 in
set_option maxRecDepth 100000 in
theorem e1_X5_charge (l : Launch) (D : va_G) (cA : Nat → ClassId) (ad : Nat → Nat) (sz : Nat) (F : FF) (x kd am : Int32) (h : wi x 0 3 = false) : CI l D cA ad sz yX5_charge wsX5_charge 2 42 0 0 [.ref (ad 36), .int x, .int kd, .int am] F (some (.int 0)) (th F 1) := by
  refine CI_of (own := RX5) (cc := cX5_charge) (maxL := 4) (ret := (some .int)) (by decide +kernel) rfl rfl (Nat.le_of_ble_eq_true rfl) ?_
  intro p e s m below meth c ls X S hr hl
  obtain ⟨⟨hx, hb, hml, hown, hts⟩, hE, hI, hlocks⟩ := id X
  have hl : lv_has ls 4 [(0, .ref (ad 36)), (1, .int x), (2, .int kd), (3, .int am)] := hl
  refine lv_aload_n hx hb dX5_charge_0 rfl (lv_at hl 0 rfl) ?_
  refine lv_iload_n hx hb dX5_charge_1 rfl (lv_at hl 1 rfl) ?_
  refine r_S0 X S (c_X5_isStudent l D cA ad _ F x) (va_cwS 1 hts gX5_charge_X5_isStudent rfl rfl rfl (by decide +kernel) ⟨Nat.le_of_ble_eq_true rfl, Nat.le_of_ble_eq_true rfl⟩) rfl hl.1 rfl (Nat.le_of_ble_eq_true rfl) dX5_charge_2 ⟨Nat.zero_le _, Nat.zero_le _⟩ (fun H locs S => ?_)
  refine lv_if_ne (tgt := 12) hx hb dX5_charge_5 (by decide) (fun z => False.elim (by rw [h] at z; revert z; decide)) (fun _ => ?_)
  refine lv_iconst (v := 1) hx hb dX5_charge_8 (by decide) ?_
  refine lv_goto (tgt := 36) hx hb dX5_charge_9 (by decide) ?_
  refine r_V0 X S (c_X5_holdsn l D cA ad _ F 1 (by decide)) ob_M rfl (cwV 1 hts gX5_charge_X5_holds rfl rfl rfl (by decide +kernel) ⟨Nat.le_of_ble_eq_true rfl, Nat.le_of_ble_eq_true rfl⟩) rfl hl.1 rfl (Nat.le_of_ble_eq_true rfl) dX5_charge_36 ⟨Nat.zero_le _, Nat.zero_le _⟩ (fun H locs S => ?_)
  obtain ⟨F_1, eF_1⟩ : ∃ z, z = u2 F 36 0 1 := ⟨_, rfl⟩
  rw [← eF_1] at S
  refine lv_if_ne (tgt := 44) hx hb dX5_charge_39 (by decide) (fun z => False.elim (by first | exact absurd z (by decide) | exact absurd (by decide) z)) (fun _ => ?_)
  refine lv_iconst (v := 0) hx hb dX5_charge_42 (by decide) ?_
  exact r_iret X S hr dX5_charge_43 (Nat.le_of_ble_eq_true rfl) (Nat.le_of_ble_eq_true rfl) (by rfl) (by simp only [th, eF_1])

set_option maxHeartbeats 1000000 in
set_option maxRecDepth 100000 in
theorem e2_X5_charge (l : Launch) (D : va_G) (cA : Nat → ClassId) (ad : Nat → Nat) (sz : Nat) (F : FF) (i : Nat) (hi : i < 4) (kd am : Int32) (h : ¬ (wi kd 1 2 = true ∧ wi am 1 1000000 = true)) : CI l D cA ad sz yX5_charge wsX5_charge 2 42 0 0 [.ref (ad 36), .int (nI i), .int kd, .int am] F (some (.int 0)) (th F 2) := by
  refine CI_of (own := RX5) (cc := cX5_charge) (maxL := 4) (ret := (some .int)) (by decide +kernel) rfl rfl (Nat.le_of_ble_eq_true rfl) ?_
  intro p e s m below meth c ls X S hr hl
  obtain ⟨⟨hx, hb, hml, hown, hts⟩, hE, hI, hlocks⟩ := id X
  have hl : lv_has ls 4 [(0, .ref (ad 36)), (1, .int (nI i)), (2, .int kd), (3, .int am)] := hl
  refine lv_aload_n hx hb dX5_charge_0 rfl (lv_at hl 0 rfl) ?_
  refine lv_iload_n hx hb dX5_charge_1 rfl (lv_at hl 1 rfl) ?_
  refine r_S0 X S (c_X5_isStudent l D cA ad _ F (nI i)) (va_cwS 1 hts gX5_charge_X5_isStudent rfl rfl rfl (by decide +kernel) ⟨Nat.le_of_ble_eq_true rfl, Nat.le_of_ble_eq_true rfl⟩) rfl hl.1 rfl (Nat.le_of_ble_eq_true rfl) dX5_charge_2 ⟨Nat.zero_le _, Nat.zero_le _⟩ (fun H locs S => ?_)
  refine lv_if_ne (tgt := 12) hx hb dX5_charge_5 (by decide) (fun _ => ?_) (fun z => False.elim (by rw [(wi4 i hi)] at z; revert z; decide))
  refine lv_iload_n hx hb dX5_charge_12 rfl (lv_at hl 2 rfl) ?_
  refine lv_iconst (v := 1) hx hb dX5_charge_13 (by decide) ?_
  refine lv_iconst (v := 2) hx hb dX5_charge_14 (by decide) ?_
  refine r_S0 X S (c_X5_in l D cA ad _ F kd 1 2) (va_cwS 3 hts gX5_charge_X5_in rfl rfl rfl (by decide +kernel) ⟨Nat.le_of_ble_eq_true rfl, Nat.le_of_ble_eq_true rfl⟩) rfl hl.1 rfl (Nat.le_of_ble_eq_true rfl) dX5_charge_15 ⟨Nat.zero_le _, Nat.zero_le _⟩ (fun H locs S => ?_)
  refine lv_if_eq (tgt := 35) hx hb dX5_charge_18 (by decide) (fun c_1 => ?_) (fun c_1 => ?_)
  · have c_1 : (wi kd 1 2) = false := bI_f c_1
    refine lv_iconst (v := 2) hx hb dX5_charge_35 (by decide) ?_
    refine r_V0 X S (c_X5_holdsn l D cA ad _ F 2 (by decide)) ob_M rfl (cwV 1 hts gX5_charge_X5_holds rfl rfl rfl (by decide +kernel) ⟨Nat.le_of_ble_eq_true rfl, Nat.le_of_ble_eq_true rfl⟩) rfl hl.1 rfl (Nat.le_of_ble_eq_true rfl) dX5_charge_36 ⟨Nat.zero_le _, Nat.zero_le _⟩ (fun H locs S => ?_)
    obtain ⟨F_2, eF_2⟩ : ∃ z, z = u2 F 36 0 2 := ⟨_, rfl⟩
    rw [← eF_2] at S
    refine lv_if_ne (tgt := 44) hx hb dX5_charge_39 (by decide) (fun z => False.elim (by first | exact absurd z (by decide) | exact absurd (by decide) z)) (fun _ => ?_)
    refine lv_iconst (v := 0) hx hb dX5_charge_42 (by decide) ?_
    exact r_iret X S hr dX5_charge_43 (Nat.le_of_ble_eq_true rfl) (Nat.le_of_ble_eq_true rfl) (by simp only [c_1, ↓reduceIte]) (by simp only [th, eF_2, c_1, ↓reduceIte])
  · have c_1 : (wi kd 1 2) = true := bI_t c_1
    refine lv_iload_n hx hb dX5_charge_21 rfl (lv_at hl 3 rfl) ?_
    refine lv_iconst (v := 1) hx hb dX5_charge_22 (by decide) ?_
    refine lv_ldc (v := 1000000) hx hb hown (hts (.constant RX5 103 1000000) (by decide +kernel)) dX5_charge_23 ?_
    refine r_S0 X S (c_X5_in l D cA ad _ F am 1 1000000) (va_cwS 3 hts gX5_charge_X5_in rfl rfl rfl (by decide +kernel) ⟨Nat.le_of_ble_eq_true rfl, Nat.le_of_ble_eq_true rfl⟩) rfl hl.1 rfl (Nat.le_of_ble_eq_true rfl) dX5_charge_25 ⟨Nat.zero_le _, Nat.zero_le _⟩ (fun H locs S => ?_)
    refine lv_if_eq (tgt := 35) hx hb dX5_charge_28 (by decide) (fun _ => ?_) (fun z => False.elim (h ⟨c_1, bI_t z⟩))
    refine lv_iconst (v := 2) hx hb dX5_charge_35 (by decide) ?_
    refine r_V0 X S (c_X5_holdsn l D cA ad _ F 2 (by decide)) ob_M rfl (cwV 1 hts gX5_charge_X5_holds rfl rfl rfl (by decide +kernel) ⟨Nat.le_of_ble_eq_true rfl, Nat.le_of_ble_eq_true rfl⟩) rfl hl.1 rfl (Nat.le_of_ble_eq_true rfl) dX5_charge_36 ⟨Nat.zero_le _, Nat.zero_le _⟩ (fun H locs S => ?_)
    obtain ⟨F_3, eF_3⟩ : ∃ z, z = u2 F 36 0 2 := ⟨_, rfl⟩
    rw [← eF_3] at S
    refine lv_if_ne (tgt := 44) hx hb dX5_charge_39 (by decide) (fun z => False.elim (by first | exact absurd z (by decide) | exact absurd (by decide) z)) (fun _ => ?_)
    refine lv_iconst (v := 0) hx hb dX5_charge_42 (by decide) ?_
    exact r_iret X S hr dX5_charge_43 (Nat.le_of_ble_eq_true rfl) (Nat.le_of_ble_eq_true rfl) (by simp only [c_1, ↓reduceIte]) (by simp only [th, eF_3, c_1, ↓reduceIte])

set_option maxHeartbeats 1000000 in
set_option maxRecDepth 100000 in
theorem c_X5_award (l : Launch) (D : va_G) (cA : Nat → ClassId) (ad : Nat → Nat) (sz : Nat) (F : FF) (i : Nat) (hi : i < 4) (hM : OKM F i) (rk am : Int32) (h1 : wi rk 0 2 = true) (h2 : wi am 1 1000000 = true) (h : aM F i < 6) : CI l D cA ad sz yX5_award wsX5_award 2 42 0 0 [.ref (ad 36), .int (nI i), .int rk, .int am] F (some (.int (nI (aM F i)))) (maF F i rk am) := by
  refine CI_of (own := RX5) (cc := cX5_award) (maxL := 5) (ret := (some .int)) (by decide +kernel) rfl rfl (Nat.le_of_ble_eq_true rfl) ?_
  intro p e s m below meth c ls X S hr hl
  obtain ⟨⟨hx, hb, hml, hown, hts⟩, hE, hI, hlocks⟩ := id X
  have hl : lv_has ls 5 [(0, .ref (ad 36)), (1, .int (nI i)), (2, .int rk), (3, .int am)] := hl
  have hw5 : ∀ w ∈ wsX50, w.before _ s = true := fun w h => hts w ((by decide +kernel : ∀ w ∈ wsX50, w ∈ wsX5_award) w h)
  refine lv_iload_n hx hb dX5_award_0 rfl (lv_at hl 2 rfl) ?_
  refine lv_iconst (v := 0) hx hb dX5_award_1 (by decide) ?_
  refine lv_iconst (v := 2) hx hb dX5_award_2 (by decide) ?_
  refine r_S0 X S (c_X5_in l D cA ad _ F rk 0 2) (va_cwS 3 hts gX5_award_X5_in rfl rfl rfl (by decide +kernel) ⟨Nat.le_of_ble_eq_true rfl, Nat.le_of_ble_eq_true rfl⟩) rfl hl.1 rfl (Nat.le_of_ble_eq_true rfl) dX5_award_3 ⟨Nat.zero_le _, Nat.zero_le _⟩ (fun H locs S => ?_)
  refine lv_if_eq (tgt := 23) hx hb dX5_award_6 (by decide) (fun z => False.elim (by rw [h1] at z; revert z; decide)) (fun _ => ?_)
  refine lv_iload_n hx hb dX5_award_9 rfl (lv_at hl 3 rfl) ?_
  refine lv_iconst (v := 1) hx hb dX5_award_10 (by decide) ?_
  refine lv_ldc (v := 1000000) hx hb hown (hts (.constant RX5 103 1000000) (by decide +kernel)) dX5_award_11 ?_
  refine r_S0 X S (c_X5_in l D cA ad _ F am 1 1000000) (va_cwS 3 hts gX5_award_X5_in rfl rfl rfl (by decide +kernel) ⟨Nat.le_of_ble_eq_true rfl, Nat.le_of_ble_eq_true rfl⟩) rfl hl.1 rfl (Nat.le_of_ble_eq_true rfl) dX5_award_13 ⟨Nat.zero_le _, Nat.zero_le _⟩ (fun H locs S => ?_)
  refine lv_if_eq (tgt := 23) hx hb dX5_award_16 (by decide) (fun z => False.elim (by rw [h2] at z; revert z; decide)) (fun _ => ?_)
  refine lv_iconst (v := 1) hx hb dX5_award_19 (by decide) ?_
  refine lv_goto (tgt := 24) hx hb dX5_award_20 (by decide) ?_
  refine lv_istore (lv' := [(4, .int 1), (0, .ref (ad 36)), (1, .int (nI i)), (2, .int rk), (3, .int am)]) hx hb dX5_award_24 hl (by decide) rfl (fun ls hl => ?_)
  refine lv_aload_n hx hb dX5_award_26 rfl (lv_at hl 1 rfl) ?_
  refine lv_iload_n hx hb dX5_award_27 rfl (lv_at hl 2 rfl) ?_
  refine r_S0 X S (c_X5_isStudent l D cA ad _ F (nI i)) (va_cwS 1 hts gX5_award_X5_isStudent rfl rfl rfl (by decide +kernel) ⟨Nat.le_of_ble_eq_true rfl, Nat.le_of_ble_eq_true rfl⟩) rfl hl.1 rfl (Nat.le_of_ble_eq_true rfl) dX5_award_28 ⟨Nat.zero_le _, Nat.zero_le _⟩ (fun H locs S => ?_)
  refine lv_if_ne (tgt := 38) hx hb dX5_award_31 (by decide) (fun _ => ?_) (fun z => False.elim (by rw [(wi4 i hi)] at z; revert z; decide))
  refine lv_iload hx hb dX5_award_38 (lv_at hl 0 rfl) ?_
  refine lv_if_ne (tgt := 47) hx hb dX5_award_40 (by decide) (fun _ => ?_) (fun z => False.elim (by first | exact absurd z (by decide) | exact absurd (by decide) z))
  refine lv_aload_n hx hb dX5_award_47 rfl (lv_at hl 1 rfl) ?_
  refine r_getr (q := 50) X S hw5 ob_M 20 ⟨rfl, by decide, rfl⟩ rfl (hts (.fieldLink RX5 60 "TermBillModel" "awards" "[I") (by decide +kernel)) dX5_award_48 ?_
  refine lv_iload_n hx hb dX5_award_51 rfl (lv_at hl 2 rfl) ?_
  refine r_ialN X S (k := 50) (n := 4) (by unfold Ar; decide) (q := i) rfl (by omega) (by decide) dX5_award_52 ?_
  rw [show F 50 i = nI (aM F i) from (by rw [hM.2.2.2])] 
  refine lv_bipush (v := 6) hx hb dX5_award_53 (by decide) ?_
  refine lv_icmp_ne (tgt := 62) hx hb dX5_award_55 (by decide) (fun _ => ?_) (fun z => False.elim (absurd ((nI_eq (a := aM F i) (b := 6) (by omega) (by omega)).mp z) (by omega)))
  refine lv_iconst (v := 0) hx hb dX5_award_62 (by decide) ?_
  refine r_V0 X S (c_X5_holds0 l D cA ad _ F) ob_M rfl (cwV 1 hts gX5_award_X5_holds rfl rfl rfl (by decide +kernel) ⟨Nat.le_of_ble_eq_true rfl, Nat.le_of_ble_eq_true rfl⟩) rfl hl.1 rfl (Nat.le_of_ble_eq_true rfl) dX5_award_63 ⟨Nat.zero_le _, Nat.zero_le _⟩ (fun H locs S => ?_)
  obtain ⟨F_1, eF_1⟩ : ∃ z, z = u2 F 36 0 0 := ⟨_, rfl⟩
  rw [← eF_1] at S
  refine lv_if_ne (tgt := 71) hx hb dX5_award_66 (by decide) (fun _ => ?_) (fun z => False.elim (by first | exact absurd z (by decide) | exact absurd (by decide) z))
  refine lv_aload_n hx hb dX5_award_71 rfl (lv_at hl 1 rfl) ?_
  refine r_getr (q := 51) X S hw5 ob_M 21 ⟨rfl, by decide, rfl⟩ rfl (hts (.fieldLink RX5 63 "TermBillModel" "ranks" "[I") (by decide +kernel)) dX5_award_72 ?_
  refine lv_bipush (v := 6) hx hb dX5_award_75 (by decide) ?_
  refine lv_iload_n hx hb dX5_award_77 rfl (lv_at hl 2 rfl) ?_
  refine lv_imul hx hb dX5_award_78 ?_
  refine lv_topi (fun x_2 ex_2 => ?_)
  obtain rfl : x_2 = nI (6 * i) := ex_2.trans (nI_mul 6 i)
  refine lv_aload_n hx hb dX5_award_79 rfl (lv_at hl 1 rfl) ?_
  refine r_getr (q := 50) X S hw5 ob_M 20 ⟨rfl, by decide, rfl⟩ rfl (hts (.fieldLink RX5 60 "TermBillModel" "awards" "[I") (by decide +kernel)) dX5_award_80 ?_
  refine lv_iload_n hx hb dX5_award_83 rfl (lv_at hl 2 rfl) ?_
  refine r_ialN X S (k := 50) (n := 4) (by unfold Ar; decide) (q := i) rfl (by omega) (by decide) dX5_award_84 ?_
  rw [show F_1 50 i = nI (aM F i) from (by rw [eF_1, u2_ne _ _ (by omega), hM.2.2.2])] 
  refine lv_iadd hx hb dX5_award_85 ?_
  refine lv_topi (fun x_3 ex_3 => ?_)
  obtain rfl : x_3 = nI ((6 * i) + (aM F i)) := ex_3.trans (nI_add (6 * i) (aM F i))
  refine lv_iload_n hx hb dX5_award_86 rfl (lv_at hl 3 rfl) ?_
  refine r_iasN X S (k := 51) (n := 24) (by unfold Ar; decide) (q := (6 * i) + (aM F i)) rfl (by omega) (by decide) dX5_award_87 (fun H locs S => ?_)
  obtain ⟨F_4, eF_4⟩ : ∃ z, z = u2 F_1 51 ((6 * i) + (aM F i)) rk := ⟨_, rfl⟩
  rw [← eF_4] at S
  refine lv_aload_n hx hb dX5_award_88 rfl (lv_at hl 1 rfl) ?_
  refine r_getr (q := 52) X S hw5 ob_M 22 ⟨rfl, by decide, rfl⟩ rfl (hts (.fieldLink RX5 66 "TermBillModel" "amounts" "[I") (by decide +kernel)) dX5_award_89 ?_
  refine lv_bipush (v := 6) hx hb dX5_award_92 (by decide) ?_
  refine lv_iload_n hx hb dX5_award_94 rfl (lv_at hl 2 rfl) ?_
  refine lv_imul hx hb dX5_award_95 ?_
  refine lv_topi (fun x_5 ex_5 => ?_)
  obtain rfl : x_5 = nI (6 * i) := ex_5.trans (nI_mul 6 i)
  refine lv_aload_n hx hb dX5_award_96 rfl (lv_at hl 1 rfl) ?_
  refine r_getr (q := 50) X S hw5 ob_M 20 ⟨rfl, by decide, rfl⟩ rfl (hts (.fieldLink RX5 60 "TermBillModel" "awards" "[I") (by decide +kernel)) dX5_award_97 ?_
  refine lv_iload_n hx hb dX5_award_100 rfl (lv_at hl 2 rfl) ?_
  refine r_ialN X S (k := 50) (n := 4) (by unfold Ar; decide) (q := i) rfl (by omega) (by decide) dX5_award_101 ?_
  rw [show F_4 50 i = nI (aM F i) from (by rw [eF_4, u2_ne _ _ (by omega), eF_1, u2_ne _ _ (by omega), hM.2.2.2])] 
  refine lv_iadd hx hb dX5_award_102 ?_
  refine lv_topi (fun x_6 ex_6 => ?_)
  obtain rfl : x_6 = nI ((6 * i) + (aM F i)) := ex_6.trans (nI_add (6 * i) (aM F i))
  refine lv_iload_n hx hb dX5_award_103 rfl (lv_at hl 4 rfl) ?_
  refine r_iasN X S (k := 52) (n := 24) (by unfold Ar; decide) (q := (6 * i) + (aM F i)) rfl (by omega) (by decide) dX5_award_104 (fun H locs S => ?_)
  obtain ⟨F_7, eF_7⟩ : ∃ z, z = u2 F_4 52 ((6 * i) + (aM F i)) am := ⟨_, rfl⟩
  rw [← eF_7] at S
  refine lv_aload_n hx hb dX5_award_105 rfl (lv_at hl 1 rfl) ?_
  refine r_getr (q := 50) X S hw5 ob_M 20 ⟨rfl, by decide, rfl⟩ rfl (hts (.fieldLink RX5 60 "TermBillModel" "awards" "[I") (by decide +kernel)) dX5_award_106 ?_
  refine lv_iload_n hx hb dX5_award_109 rfl (lv_at hl 2 rfl) ?_
  refine lv_dup2_11 hx hb dX5_award_110 rfl rfl ?_
  refine r_ialN X S (k := 50) (n := 4) (by unfold Ar; decide) (q := i) rfl (by omega) (by decide) dX5_award_111 ?_
  rw [show F_7 50 i = nI (aM F i) from (by rw [eF_7, u2_ne _ _ (by omega), eF_4, u2_ne _ _ (by omega), eF_1, u2_ne _ _ (by omega), hM.2.2.2])] 
  refine lv_iconst (v := 1) hx hb dX5_award_112 (by decide) ?_
  refine lv_iadd hx hb dX5_award_113 ?_
  refine lv_topi (fun x_8 ex_8 => ?_)
  obtain rfl : x_8 = nI ((aM F i) + 1) := ex_8.trans (nI_add (aM F i) 1)
  refine r_iasN X S (k := 50) (n := 4) (by unfold Ar; decide) (q := i) rfl (by omega) (by decide) dX5_award_114 (fun H locs S => ?_)
  obtain ⟨F_9, eF_9⟩ : ∃ z, z = u2 F_7 50 i (nI ((aM F i) + 1)) := ⟨_, rfl⟩
  rw [← eF_9] at S
  refine lv_aload_n hx hb dX5_award_115 rfl (lv_at hl 1 rfl) ?_
  refine r_getr (q := 50) X S hw5 ob_M 20 ⟨rfl, by decide, rfl⟩ rfl (hts (.fieldLink RX5 60 "TermBillModel" "awards" "[I") (by decide +kernel)) dX5_award_116 ?_
  refine lv_iload_n hx hb dX5_award_119 rfl (lv_at hl 2 rfl) ?_
  refine r_ialN X S (k := 50) (n := 4) (by unfold Ar; decide) (q := i) rfl (by omega) (by decide) dX5_award_120 ?_
  rw [show F_9 50 i = nI (aM F i + 1) from (by rw [eF_9, u2_eq])]
  refine lv_iconst (v := 1) hx hb dX5_award_121 (by decide) ?_
  refine lv_isub hx hb dX5_award_122 ?_
  exact r_iret X S hr dX5_award_123 (Nat.le_of_ble_eq_true rfl) (Nat.le_of_ble_eq_true rfl) (nI_pred _) (by unfold maF; simp only [th, eF_9, eF_7, eF_4, eF_1])

set_option maxHeartbeats 1000000 in
set_option maxRecDepth 100000 in
theorem e1_X5_award (l : Launch) (D : va_G) (cA : Nat → ClassId) (ad : Nat → Nat) (sz : Nat) (F : FF) (x rk am : Int32) (h : wi x 0 3 = false) : CI l D cA ad sz yX5_award wsX5_award 2 42 0 0 [.ref (ad 36), .int x, .int rk, .int am] F (some (.int 0)) (th F 1) := by
  refine CI_of (own := RX5) (cc := cX5_award) (maxL := 5) (ret := (some .int)) (by decide +kernel) rfl rfl (Nat.le_of_ble_eq_true rfl) ?_
  intro p e s m below meth c ls X S hr hl
  obtain ⟨⟨hx, hb, hml, hown, hts⟩, hE, hI, hlocks⟩ := id X
  have hl : lv_has ls 5 [(0, .ref (ad 36)), (1, .int x), (2, .int rk), (3, .int am)] := hl
  refine lv_iload_n hx hb dX5_award_0 rfl (lv_at hl 2 rfl) ?_
  refine lv_iconst (v := 0) hx hb dX5_award_1 (by decide) ?_
  refine lv_iconst (v := 2) hx hb dX5_award_2 (by decide) ?_
  refine r_S0 X S (c_X5_in l D cA ad _ F rk 0 2) (va_cwS 3 hts gX5_award_X5_in rfl rfl rfl (by decide +kernel) ⟨Nat.le_of_ble_eq_true rfl, Nat.le_of_ble_eq_true rfl⟩) rfl hl.1 rfl (Nat.le_of_ble_eq_true rfl) dX5_award_3 ⟨Nat.zero_le _, Nat.zero_le _⟩ (fun H locs S => ?_)
  refine lv_if_eq (tgt := 23) hx hb dX5_award_6 (by decide) (fun c_1 => ?_) (fun c_1 => ?_)
  · have c_1 : (wi rk 0 2) = false := bI_f c_1
    refine lv_iconst (v := 0) hx hb dX5_award_23 (by decide) ?_
    refine lv_istore (lv' := [(4, .int 0), (0, .ref (ad 36)), (1, .int x), (2, .int rk), (3, .int am)]) hx hb dX5_award_24 hl (by decide) rfl (fun ls hl => ?_)
    refine lv_aload_n hx hb dX5_award_26 rfl (lv_at hl 1 rfl) ?_
    refine lv_iload_n hx hb dX5_award_27 rfl (lv_at hl 2 rfl) ?_
    refine r_S0 X S (c_X5_isStudent l D cA ad _ F x) (va_cwS 1 hts gX5_award_X5_isStudent rfl rfl rfl (by decide +kernel) ⟨Nat.le_of_ble_eq_true rfl, Nat.le_of_ble_eq_true rfl⟩) rfl hl.1 rfl (Nat.le_of_ble_eq_true rfl) dX5_award_28 ⟨Nat.zero_le _, Nat.zero_le _⟩ (fun H locs S => ?_)
    refine lv_if_ne (tgt := 38) hx hb dX5_award_31 (by decide) (fun z => False.elim (by rw [h] at z; revert z; decide)) (fun _ => ?_)
    refine lv_iconst (v := 1) hx hb dX5_award_34 (by decide) ?_
    refine lv_goto (tgt := 63) hx hb dX5_award_35 (by decide) ?_
    refine r_V0 X S (c_X5_holdsn l D cA ad _ F 1 (by decide)) ob_M rfl (cwV 1 hts gX5_award_X5_holds rfl rfl rfl (by decide +kernel) ⟨Nat.le_of_ble_eq_true rfl, Nat.le_of_ble_eq_true rfl⟩) rfl hl.1 rfl (Nat.le_of_ble_eq_true rfl) dX5_award_63 ⟨Nat.zero_le _, Nat.zero_le _⟩ (fun H locs S => ?_)
    obtain ⟨F_2, eF_2⟩ : ∃ z, z = u2 F 36 0 1 := ⟨_, rfl⟩
    rw [← eF_2] at S
    refine lv_if_ne (tgt := 71) hx hb dX5_award_66 (by decide) (fun z => False.elim (by first | exact absurd z (by decide) | exact absurd (by decide) z)) (fun _ => ?_)
    refine lv_iconst (v := 0) hx hb dX5_award_69 (by decide) ?_
    exact r_iret X S hr dX5_award_70 (Nat.le_of_ble_eq_true rfl) (Nat.le_of_ble_eq_true rfl) (by simp only [c_1, ↓reduceIte]) (by simp only [th, eF_2, c_1, ↓reduceIte])
  · have c_1 : (wi rk 0 2) = true := bI_t c_1
    refine lv_iload_n hx hb dX5_award_9 rfl (lv_at hl 3 rfl) ?_
    refine lv_iconst (v := 1) hx hb dX5_award_10 (by decide) ?_
    refine lv_ldc (v := 1000000) hx hb hown (hts (.constant RX5 103 1000000) (by decide +kernel)) dX5_award_11 ?_
    refine r_S0 X S (c_X5_in l D cA ad _ F am 1 1000000) (va_cwS 3 hts gX5_award_X5_in rfl rfl rfl (by decide +kernel) ⟨Nat.le_of_ble_eq_true rfl, Nat.le_of_ble_eq_true rfl⟩) rfl hl.1 rfl (Nat.le_of_ble_eq_true rfl) dX5_award_13 ⟨Nat.zero_le _, Nat.zero_le _⟩ (fun H locs S => ?_)
    refine lv_if_eq (tgt := 23) hx hb dX5_award_16 (by decide) (fun c_3 => ?_) (fun c_3 => ?_)
    · have c_3 : (wi am 1 1000000) = false := bI_f c_3
      refine lv_iconst (v := 0) hx hb dX5_award_23 (by decide) ?_
      refine lv_istore (lv' := [(4, .int 0), (0, .ref (ad 36)), (1, .int x), (2, .int rk), (3, .int am)]) hx hb dX5_award_24 hl (by decide) rfl (fun ls hl => ?_)
      refine lv_aload_n hx hb dX5_award_26 rfl (lv_at hl 1 rfl) ?_
      refine lv_iload_n hx hb dX5_award_27 rfl (lv_at hl 2 rfl) ?_
      refine r_S0 X S (c_X5_isStudent l D cA ad _ F x) (va_cwS 1 hts gX5_award_X5_isStudent rfl rfl rfl (by decide +kernel) ⟨Nat.le_of_ble_eq_true rfl, Nat.le_of_ble_eq_true rfl⟩) rfl hl.1 rfl (Nat.le_of_ble_eq_true rfl) dX5_award_28 ⟨Nat.zero_le _, Nat.zero_le _⟩ (fun H locs S => ?_)
      refine lv_if_ne (tgt := 38) hx hb dX5_award_31 (by decide) (fun z => False.elim (by rw [h] at z; revert z; decide)) (fun _ => ?_)
      refine lv_iconst (v := 1) hx hb dX5_award_34 (by decide) ?_
      refine lv_goto (tgt := 63) hx hb dX5_award_35 (by decide) ?_
      refine r_V0 X S (c_X5_holdsn l D cA ad _ F 1 (by decide)) ob_M rfl (cwV 1 hts gX5_award_X5_holds rfl rfl rfl (by decide +kernel) ⟨Nat.le_of_ble_eq_true rfl, Nat.le_of_ble_eq_true rfl⟩) rfl hl.1 rfl (Nat.le_of_ble_eq_true rfl) dX5_award_63 ⟨Nat.zero_le _, Nat.zero_le _⟩ (fun H locs S => ?_)
      obtain ⟨F_4, eF_4⟩ : ∃ z, z = u2 F 36 0 1 := ⟨_, rfl⟩
      rw [← eF_4] at S
      refine lv_if_ne (tgt := 71) hx hb dX5_award_66 (by decide) (fun z => False.elim (by first | exact absurd z (by decide) | exact absurd (by decide) z)) (fun _ => ?_)
      refine lv_iconst (v := 0) hx hb dX5_award_69 (by decide) ?_
      exact r_iret X S hr dX5_award_70 (Nat.le_of_ble_eq_true rfl) (Nat.le_of_ble_eq_true rfl) (by simp only [c_1, c_3, ↓reduceIte]) (by simp only [th, eF_4, c_1, c_3, ↓reduceIte])
    · have c_3 : (wi am 1 1000000) = true := bI_t c_3
      refine lv_iconst (v := 1) hx hb dX5_award_19 (by decide) ?_
      refine lv_goto (tgt := 24) hx hb dX5_award_20 (by decide) ?_
      refine lv_istore (lv' := [(4, .int 1), (0, .ref (ad 36)), (1, .int x), (2, .int rk), (3, .int am)]) hx hb dX5_award_24 hl (by decide) rfl (fun ls hl => ?_)
      refine lv_aload_n hx hb dX5_award_26 rfl (lv_at hl 1 rfl) ?_
      refine lv_iload_n hx hb dX5_award_27 rfl (lv_at hl 2 rfl) ?_
      refine r_S0 X S (c_X5_isStudent l D cA ad _ F x) (va_cwS 1 hts gX5_award_X5_isStudent rfl rfl rfl (by decide +kernel) ⟨Nat.le_of_ble_eq_true rfl, Nat.le_of_ble_eq_true rfl⟩) rfl hl.1 rfl (Nat.le_of_ble_eq_true rfl) dX5_award_28 ⟨Nat.zero_le _, Nat.zero_le _⟩ (fun H locs S => ?_)
      refine lv_if_ne (tgt := 38) hx hb dX5_award_31 (by decide) (fun z => False.elim (by rw [h] at z; revert z; decide)) (fun _ => ?_)
      refine lv_iconst (v := 1) hx hb dX5_award_34 (by decide) ?_
      refine lv_goto (tgt := 63) hx hb dX5_award_35 (by decide) ?_
      refine r_V0 X S (c_X5_holdsn l D cA ad _ F 1 (by decide)) ob_M rfl (cwV 1 hts gX5_award_X5_holds rfl rfl rfl (by decide +kernel) ⟨Nat.le_of_ble_eq_true rfl, Nat.le_of_ble_eq_true rfl⟩) rfl hl.1 rfl (Nat.le_of_ble_eq_true rfl) dX5_award_63 ⟨Nat.zero_le _, Nat.zero_le _⟩ (fun H locs S => ?_)
      obtain ⟨F_5, eF_5⟩ : ∃ z, z = u2 F 36 0 1 := ⟨_, rfl⟩
      rw [← eF_5] at S
      refine lv_if_ne (tgt := 71) hx hb dX5_award_66 (by decide) (fun z => False.elim (by first | exact absurd z (by decide) | exact absurd (by decide) z)) (fun _ => ?_)
      refine lv_iconst (v := 0) hx hb dX5_award_69 (by decide) ?_
      exact r_iret X S hr dX5_award_70 (Nat.le_of_ble_eq_true rfl) (Nat.le_of_ble_eq_true rfl) (by simp only [c_1, c_3, ↓reduceIte]) (by simp only [th, eF_5, c_1, c_3, ↓reduceIte])

set_option maxHeartbeats 1000000 in
set_option maxRecDepth 100000 in
theorem e2_X5_award (l : Launch) (D : va_G) (cA : Nat → ClassId) (ad : Nat → Nat) (sz : Nat) (F : FF) (i : Nat) (hi : i < 4) (hM : OKM F i) (rk am : Int32) (h : ¬ (wi rk 0 2 = true ∧ wi am 1 1000000 = true)) : CI l D cA ad sz yX5_award wsX5_award 2 42 0 0 [.ref (ad 36), .int (nI i), .int rk, .int am] F (some (.int 0)) (th F 2) := by
  refine CI_of (own := RX5) (cc := cX5_award) (maxL := 5) (ret := (some .int)) (by decide +kernel) rfl rfl (Nat.le_of_ble_eq_true rfl) ?_
  intro p e s m below meth c ls X S hr hl
  obtain ⟨⟨hx, hb, hml, hown, hts⟩, hE, hI, hlocks⟩ := id X
  have hl : lv_has ls 5 [(0, .ref (ad 36)), (1, .int (nI i)), (2, .int rk), (3, .int am)] := hl
  refine lv_iload_n hx hb dX5_award_0 rfl (lv_at hl 2 rfl) ?_
  refine lv_iconst (v := 0) hx hb dX5_award_1 (by decide) ?_
  refine lv_iconst (v := 2) hx hb dX5_award_2 (by decide) ?_
  refine r_S0 X S (c_X5_in l D cA ad _ F rk 0 2) (va_cwS 3 hts gX5_award_X5_in rfl rfl rfl (by decide +kernel) ⟨Nat.le_of_ble_eq_true rfl, Nat.le_of_ble_eq_true rfl⟩) rfl hl.1 rfl (Nat.le_of_ble_eq_true rfl) dX5_award_3 ⟨Nat.zero_le _, Nat.zero_le _⟩ (fun H locs S => ?_)
  refine lv_if_eq (tgt := 23) hx hb dX5_award_6 (by decide) (fun c_1 => ?_) (fun c_1 => ?_)
  · have c_1 : (wi rk 0 2) = false := bI_f c_1
    refine lv_iconst (v := 0) hx hb dX5_award_23 (by decide) ?_
    refine lv_istore (lv' := [(4, .int 0), (0, .ref (ad 36)), (1, .int (nI i)), (2, .int rk), (3, .int am)]) hx hb dX5_award_24 hl (by decide) rfl (fun ls hl => ?_)
    refine lv_aload_n hx hb dX5_award_26 rfl (lv_at hl 1 rfl) ?_
    refine lv_iload_n hx hb dX5_award_27 rfl (lv_at hl 2 rfl) ?_
    refine r_S0 X S (c_X5_isStudent l D cA ad _ F (nI i)) (va_cwS 1 hts gX5_award_X5_isStudent rfl rfl rfl (by decide +kernel) ⟨Nat.le_of_ble_eq_true rfl, Nat.le_of_ble_eq_true rfl⟩) rfl hl.1 rfl (Nat.le_of_ble_eq_true rfl) dX5_award_28 ⟨Nat.zero_le _, Nat.zero_le _⟩ (fun H locs S => ?_)
    refine lv_if_ne (tgt := 38) hx hb dX5_award_31 (by decide) (fun _ => ?_) (fun z => False.elim (by rw [(wi4 i hi)] at z; revert z; decide))
    refine lv_iload hx hb dX5_award_38 (lv_at hl 0 rfl) ?_
    refine lv_if_ne (tgt := 47) hx hb dX5_award_40 (by decide) (fun z => False.elim (by first | exact absurd z (by decide) | exact absurd (by decide) z)) (fun _ => ?_)
    refine lv_iconst (v := 2) hx hb dX5_award_43 (by decide) ?_
    refine lv_goto (tgt := 63) hx hb dX5_award_44 (by decide) ?_
    refine r_V0 X S (c_X5_holdsn l D cA ad _ F 2 (by decide)) ob_M rfl (cwV 1 hts gX5_award_X5_holds rfl rfl rfl (by decide +kernel) ⟨Nat.le_of_ble_eq_true rfl, Nat.le_of_ble_eq_true rfl⟩) rfl hl.1 rfl (Nat.le_of_ble_eq_true rfl) dX5_award_63 ⟨Nat.zero_le _, Nat.zero_le _⟩ (fun H locs S => ?_)
    obtain ⟨F_2, eF_2⟩ : ∃ z, z = u2 F 36 0 2 := ⟨_, rfl⟩
    rw [← eF_2] at S
    refine lv_if_ne (tgt := 71) hx hb dX5_award_66 (by decide) (fun z => False.elim (by first | exact absurd z (by decide) | exact absurd (by decide) z)) (fun _ => ?_)
    refine lv_iconst (v := 0) hx hb dX5_award_69 (by decide) ?_
    exact r_iret X S hr dX5_award_70 (Nat.le_of_ble_eq_true rfl) (Nat.le_of_ble_eq_true rfl) (by simp only [c_1, ↓reduceIte]) (by simp only [th, eF_2, c_1, ↓reduceIte])
  · have c_1 : (wi rk 0 2) = true := bI_t c_1
    refine lv_iload_n hx hb dX5_award_9 rfl (lv_at hl 3 rfl) ?_
    refine lv_iconst (v := 1) hx hb dX5_award_10 (by decide) ?_
    refine lv_ldc (v := 1000000) hx hb hown (hts (.constant RX5 103 1000000) (by decide +kernel)) dX5_award_11 ?_
    refine r_S0 X S (c_X5_in l D cA ad _ F am 1 1000000) (va_cwS 3 hts gX5_award_X5_in rfl rfl rfl (by decide +kernel) ⟨Nat.le_of_ble_eq_true rfl, Nat.le_of_ble_eq_true rfl⟩) rfl hl.1 rfl (Nat.le_of_ble_eq_true rfl) dX5_award_13 ⟨Nat.zero_le _, Nat.zero_le _⟩ (fun H locs S => ?_)
    refine lv_if_eq (tgt := 23) hx hb dX5_award_16 (by decide) (fun _ => ?_) (fun z => False.elim (h ⟨c_1, bI_t z⟩))
    refine lv_iconst (v := 0) hx hb dX5_award_23 (by decide) ?_
    refine lv_istore (lv' := [(4, .int 0), (0, .ref (ad 36)), (1, .int (nI i)), (2, .int rk), (3, .int am)]) hx hb dX5_award_24 hl (by decide) rfl (fun ls hl => ?_)
    refine lv_aload_n hx hb dX5_award_26 rfl (lv_at hl 1 rfl) ?_
    refine lv_iload_n hx hb dX5_award_27 rfl (lv_at hl 2 rfl) ?_
    refine r_S0 X S (c_X5_isStudent l D cA ad _ F (nI i)) (va_cwS 1 hts gX5_award_X5_isStudent rfl rfl rfl (by decide +kernel) ⟨Nat.le_of_ble_eq_true rfl, Nat.le_of_ble_eq_true rfl⟩) rfl hl.1 rfl (Nat.le_of_ble_eq_true rfl) dX5_award_28 ⟨Nat.zero_le _, Nat.zero_le _⟩ (fun H locs S => ?_)
    refine lv_if_ne (tgt := 38) hx hb dX5_award_31 (by decide) (fun _ => ?_) (fun z => False.elim (by rw [(wi4 i hi)] at z; revert z; decide))
    refine lv_iload hx hb dX5_award_38 (lv_at hl 0 rfl) ?_
    refine lv_if_ne (tgt := 47) hx hb dX5_award_40 (by decide) (fun z => False.elim (by first | exact absurd z (by decide) | exact absurd (by decide) z)) (fun _ => ?_)
    refine lv_iconst (v := 2) hx hb dX5_award_43 (by decide) ?_
    refine lv_goto (tgt := 63) hx hb dX5_award_44 (by decide) ?_
    refine r_V0 X S (c_X5_holdsn l D cA ad _ F 2 (by decide)) ob_M rfl (cwV 1 hts gX5_award_X5_holds rfl rfl rfl (by decide +kernel) ⟨Nat.le_of_ble_eq_true rfl, Nat.le_of_ble_eq_true rfl⟩) rfl hl.1 rfl (Nat.le_of_ble_eq_true rfl) dX5_award_63 ⟨Nat.zero_le _, Nat.zero_le _⟩ (fun H locs S => ?_)
    obtain ⟨F_3, eF_3⟩ : ∃ z, z = u2 F 36 0 2 := ⟨_, rfl⟩
    rw [← eF_3] at S
    refine lv_if_ne (tgt := 71) hx hb dX5_award_66 (by decide) (fun z => False.elim (by first | exact absurd z (by decide) | exact absurd (by decide) z)) (fun _ => ?_)
    refine lv_iconst (v := 0) hx hb dX5_award_69 (by decide) ?_
    exact r_iret X S hr dX5_award_70 (Nat.le_of_ble_eq_true rfl) (Nat.le_of_ble_eq_true rfl) (by simp only [c_1, ↓reduceIte]) (by simp only [th, eF_3, c_1, ↓reduceIte])

set_option maxHeartbeats 1000000 in
set_option maxRecDepth 100000 in
theorem e3_X5_award (l : Launch) (D : va_G) (cA : Nat → ClassId) (ad : Nat → Nat) (sz : Nat) (F : FF) (i : Nat) (hi : i < 4) (hM : OKM F i) (rk am : Int32) (h1 : wi rk 0 2 = true) (h2 : wi am 1 1000000 = true) (h : aM F i = 6) : CI l D cA ad sz yX5_award wsX5_award 2 42 0 0 [.ref (ad 36), .int (nI i), .int rk, .int am] F (some (.int 0)) (th F 3) := by
  refine CI_of (own := RX5) (cc := cX5_award) (maxL := 5) (ret := (some .int)) (by decide +kernel) rfl rfl (Nat.le_of_ble_eq_true rfl) ?_
  intro p e s m below meth c ls X S hr hl
  obtain ⟨⟨hx, hb, hml, hown, hts⟩, hE, hI, hlocks⟩ := id X
  have hl : lv_has ls 5 [(0, .ref (ad 36)), (1, .int (nI i)), (2, .int rk), (3, .int am)] := hl
  have hw5 : ∀ w ∈ wsX50, w.before _ s = true := fun w h => hts w ((by decide +kernel : ∀ w ∈ wsX50, w ∈ wsX5_award) w h)
  refine lv_iload_n hx hb dX5_award_0 rfl (lv_at hl 2 rfl) ?_
  refine lv_iconst (v := 0) hx hb dX5_award_1 (by decide) ?_
  refine lv_iconst (v := 2) hx hb dX5_award_2 (by decide) ?_
  refine r_S0 X S (c_X5_in l D cA ad _ F rk 0 2) (va_cwS 3 hts gX5_award_X5_in rfl rfl rfl (by decide +kernel) ⟨Nat.le_of_ble_eq_true rfl, Nat.le_of_ble_eq_true rfl⟩) rfl hl.1 rfl (Nat.le_of_ble_eq_true rfl) dX5_award_3 ⟨Nat.zero_le _, Nat.zero_le _⟩ (fun H locs S => ?_)
  refine lv_if_eq (tgt := 23) hx hb dX5_award_6 (by decide) (fun z => False.elim (by rw [h1] at z; revert z; decide)) (fun _ => ?_)
  refine lv_iload_n hx hb dX5_award_9 rfl (lv_at hl 3 rfl) ?_
  refine lv_iconst (v := 1) hx hb dX5_award_10 (by decide) ?_
  refine lv_ldc (v := 1000000) hx hb hown (hts (.constant RX5 103 1000000) (by decide +kernel)) dX5_award_11 ?_
  refine r_S0 X S (c_X5_in l D cA ad _ F am 1 1000000) (va_cwS 3 hts gX5_award_X5_in rfl rfl rfl (by decide +kernel) ⟨Nat.le_of_ble_eq_true rfl, Nat.le_of_ble_eq_true rfl⟩) rfl hl.1 rfl (Nat.le_of_ble_eq_true rfl) dX5_award_13 ⟨Nat.zero_le _, Nat.zero_le _⟩ (fun H locs S => ?_)
  refine lv_if_eq (tgt := 23) hx hb dX5_award_16 (by decide) (fun z => False.elim (by rw [h2] at z; revert z; decide)) (fun _ => ?_)
  refine lv_iconst (v := 1) hx hb dX5_award_19 (by decide) ?_
  refine lv_goto (tgt := 24) hx hb dX5_award_20 (by decide) ?_
  refine lv_istore (lv' := [(4, .int 1), (0, .ref (ad 36)), (1, .int (nI i)), (2, .int rk), (3, .int am)]) hx hb dX5_award_24 hl (by decide) rfl (fun ls hl => ?_)
  refine lv_aload_n hx hb dX5_award_26 rfl (lv_at hl 1 rfl) ?_
  refine lv_iload_n hx hb dX5_award_27 rfl (lv_at hl 2 rfl) ?_
  refine r_S0 X S (c_X5_isStudent l D cA ad _ F (nI i)) (va_cwS 1 hts gX5_award_X5_isStudent rfl rfl rfl (by decide +kernel) ⟨Nat.le_of_ble_eq_true rfl, Nat.le_of_ble_eq_true rfl⟩) rfl hl.1 rfl (Nat.le_of_ble_eq_true rfl) dX5_award_28 ⟨Nat.zero_le _, Nat.zero_le _⟩ (fun H locs S => ?_)
  refine lv_if_ne (tgt := 38) hx hb dX5_award_31 (by decide) (fun _ => ?_) (fun z => False.elim (by rw [(wi4 i hi)] at z; revert z; decide))
  refine lv_iload hx hb dX5_award_38 (lv_at hl 0 rfl) ?_
  refine lv_if_ne (tgt := 47) hx hb dX5_award_40 (by decide) (fun _ => ?_) (fun z => False.elim (by first | exact absurd z (by decide) | exact absurd (by decide) z))
  refine lv_aload_n hx hb dX5_award_47 rfl (lv_at hl 1 rfl) ?_
  refine r_getr (q := 50) X S hw5 ob_M 20 ⟨rfl, by decide, rfl⟩ rfl (hts (.fieldLink RX5 60 "TermBillModel" "awards" "[I") (by decide +kernel)) dX5_award_48 ?_
  refine lv_iload_n hx hb dX5_award_51 rfl (lv_at hl 2 rfl) ?_
  refine r_ialN X S (k := 50) (n := 4) (by unfold Ar; decide) (q := i) rfl (by omega) (by decide) dX5_award_52 ?_
  rw [show F 50 i = nI 6 from (by rw [hM.2.2.2, h])]
  refine lv_bipush (v := 6) hx hb dX5_award_53 (by decide) ?_
  refine lv_icmp_ne (tgt := 62) hx hb dX5_award_55 (by decide) (fun z => False.elim (z rfl)) (fun _ => ?_)
  refine lv_iconst (v := 3) hx hb dX5_award_58 (by decide) ?_
  refine lv_goto (tgt := 63) hx hb dX5_award_59 (by decide) ?_
  refine r_V0 X S (c_X5_holdsn l D cA ad _ F 3 (by decide)) ob_M rfl (cwV 1 hts gX5_award_X5_holds rfl rfl rfl (by decide +kernel) ⟨Nat.le_of_ble_eq_true rfl, Nat.le_of_ble_eq_true rfl⟩) rfl hl.1 rfl (Nat.le_of_ble_eq_true rfl) dX5_award_63 ⟨Nat.zero_le _, Nat.zero_le _⟩ (fun H locs S => ?_)
  obtain ⟨F_1, eF_1⟩ : ∃ z, z = u2 F 36 0 3 := ⟨_, rfl⟩
  rw [← eF_1] at S
  refine lv_if_ne (tgt := 71) hx hb dX5_award_66 (by decide) (fun z => False.elim (by first | exact absurd z (by decide) | exact absurd (by decide) z)) (fun _ => ?_)
  refine lv_iconst (v := 0) hx hb dX5_award_69 (by decide) ?_
  exact r_iret X S hr dX5_award_70 (Nat.le_of_ble_eq_true rfl) (Nat.le_of_ble_eq_true rfl) (by rfl) (by simp only [th, eF_1])

set_option maxHeartbeats 1000000 in
set_option maxRecDepth 100000 in
theorem c_X5_pay (l : Launch) (D : va_G) (cA : Nat → ClassId) (ad : Nat → Nat) (sz : Nat) (F : FF) (i : Nat) (hi : i < 4) (hM : OKM F i) (am : Int32) (h1 : wi am 1 1000000 = true) : CI l D cA ad sz yX5_pay wsX5_pay 6 140 0 0 [.ref (ad 36), .int (nI i), .int am] F (some (.int (owM (mpF F i am) i))) (mpF F i am) := by
  refine CI_of (own := RX5) (cc := cX5_pay) (maxL := 3) (ret := (some .int)) (by decide +kernel) rfl rfl (Nat.le_of_ble_eq_true rfl) ?_
  intro p e s m below meth c ls X S hr hl
  obtain ⟨⟨hx, hb, hml, hown, hts⟩, hE, hI, hlocks⟩ := id X
  have hl : lv_has ls 3 [(0, .ref (ad 36)), (1, .int (nI i)), (2, .int am)] := hl
  have hw5 : ∀ w ∈ wsX50, w.before _ s = true := fun w h => hts w ((by decide +kernel : ∀ w ∈ wsX50, w ∈ wsX5_pay) w h)
  refine lv_aload_n hx hb dX5_pay_0 rfl (lv_at hl 0 rfl) ?_
  refine lv_iload_n hx hb dX5_pay_1 rfl (lv_at hl 1 rfl) ?_
  refine r_S0 X S (c_X5_isStudent l D cA ad _ F (nI i)) (va_cwS 1 hts gX5_pay_X5_isStudent rfl rfl rfl (by decide +kernel) ⟨Nat.le_of_ble_eq_true rfl, Nat.le_of_ble_eq_true rfl⟩) rfl hl.1 rfl (Nat.le_of_ble_eq_true rfl) dX5_pay_2 ⟨Nat.zero_le _, Nat.zero_le _⟩ (fun H locs S => ?_)
  refine lv_if_ne (tgt := 12) hx hb dX5_pay_5 (by decide) (fun _ => ?_) (fun z => False.elim (by rw [(wi4 i hi)] at z; revert z; decide))
  refine lv_iload_n hx hb dX5_pay_12 rfl (lv_at hl 2 rfl) ?_
  refine lv_iconst (v := 1) hx hb dX5_pay_13 (by decide) ?_
  refine lv_ldc (v := 1000000) hx hb hown (hts (.constant RX5 103 1000000) (by decide +kernel)) dX5_pay_14 ?_
  refine r_S0 X S (c_X5_in l D cA ad _ F am 1 1000000) (va_cwS 3 hts gX5_pay_X5_in rfl rfl rfl (by decide +kernel) ⟨Nat.le_of_ble_eq_true rfl, Nat.le_of_ble_eq_true rfl⟩) rfl hl.1 rfl (Nat.le_of_ble_eq_true rfl) dX5_pay_16 ⟨Nat.zero_le _, Nat.zero_le _⟩ (fun H locs S => ?_)
  refine lv_if_eq (tgt := 26) hx hb dX5_pay_19 (by decide) (fun z => False.elim (by rw [h1] at z; revert z; decide)) (fun _ => ?_)
  refine lv_iconst (v := 0) hx hb dX5_pay_22 (by decide) ?_
  refine lv_goto (tgt := 27) hx hb dX5_pay_23 (by decide) ?_
  refine r_V0 X S (c_X5_holds0 l D cA ad _ F) ob_M rfl (cwV 1 hts gX5_pay_X5_holds rfl rfl rfl (by decide +kernel) ⟨Nat.le_of_ble_eq_true rfl, Nat.le_of_ble_eq_true rfl⟩) rfl hl.1 rfl (Nat.le_of_ble_eq_true rfl) dX5_pay_27 ⟨Nat.zero_le _, Nat.zero_le _⟩ (fun H locs S => ?_)
  obtain ⟨F_1, eF_1⟩ : ∃ z, z = u2 F 36 0 0 := ⟨_, rfl⟩
  rw [← eF_1] at S
  refine lv_if_ne (tgt := 35) hx hb dX5_pay_30 (by decide) (fun _ => ?_) (fun z => False.elim (by first | exact absurd z (by decide) | exact absurd (by decide) z))
  refine lv_aload_n hx hb dX5_pay_35 rfl (lv_at hl 0 rfl) ?_
  refine r_getr (q := 53) X S hw5 ob_M 23 ⟨rfl, by decide, rfl⟩ rfl (hts (.fieldLink RX5 69 "TermBillModel" "paid" "[I") (by decide +kernel)) dX5_pay_36 ?_
  refine lv_iload_n hx hb dX5_pay_39 rfl (lv_at hl 1 rfl) ?_
  refine lv_dup2_11 hx hb dX5_pay_40 rfl rfl ?_
  refine r_ialN X S (k := 53) (n := 4) (by unfold Ar; decide) (q := i) rfl (by omega) (by decide) dX5_pay_41 ?_
  refine lv_iload_n hx hb dX5_pay_42 rfl (lv_at hl 2 rfl) ?_
  refine lv_iadd hx hb dX5_pay_43 ?_
  refine r_iasN X S (k := 53) (n := 4) (by unfold Ar; decide) (q := i) rfl (by omega) (by decide) dX5_pay_44 (fun H locs S => ?_)
  obtain ⟨F_2, eF_2⟩ : ∃ z, z = u2 F_1 53 i ((F_1 53 i) + am) := ⟨_, rfl⟩
  rw [← eF_2] at S
  refine lv_aload_n hx hb dX5_pay_45 rfl (lv_at hl 0 rfl) ?_
  refine r_getr (q := 58) X S hw5 ob_M 28 ⟨rfl, by decide, rfl⟩ rfl (hts (.fieldLink RX5 84 "TermBillModel" "since" "[I") (by decide +kernel)) dX5_pay_46 ?_
  refine lv_iload_n hx hb dX5_pay_49 rfl (lv_at hl 1 rfl) ?_
  refine lv_dup2_11 hx hb dX5_pay_50 rfl rfl ?_
  refine r_ialN X S (k := 58) (n := 4) (by unfold Ar; decide) (q := i) rfl (by omega) (by decide) dX5_pay_51 ?_
  refine lv_iload_n hx hb dX5_pay_52 rfl (lv_at hl 2 rfl) ?_
  refine lv_iadd hx hb dX5_pay_53 ?_
  refine r_iasN X S (k := 58) (n := 4) (by unfold Ar; decide) (q := i) rfl (by omega) (by decide) dX5_pay_54 (fun H locs S => ?_)
  obtain ⟨F_3, eF_3⟩ : ∃ z, z = u2 F_2 58 i ((F_2 58 i) + am) := ⟨_, rfl⟩
  rw [← eF_3] at S
  refine lv_aload_n hx hb dX5_pay_55 rfl (lv_at hl 0 rfl) ?_
  refine lv_iload_n hx hb dX5_pay_56 rfl (lv_at hl 1 rfl) ?_
  refine r_V0 X S (c_X5_owedOf l D cA ad _ F_3 i hi (by rw [eF_3]; exact OKM_u2 (by rw [eF_2]; exact OKM_u2 (by rw [eF_1]; exact OKM_u2 hM (by decide) (by decide) (by decide)) (by decide) (by decide) (by decide)) (by decide) (by decide) (by decide))) ob_M rfl (cwV 1 hts gX5_pay_X5_owedOf rfl rfl rfl (by decide +kernel) ⟨Nat.le_of_ble_eq_true rfl, Nat.le_of_ble_eq_true rfl⟩) rfl hl.1 rfl (Nat.le_of_ble_eq_true rfl) dX5_pay_57 ⟨Nat.zero_le _, Nat.zero_le _⟩ (fun H locs S => ?_)
  exact r_iret X S hr dX5_pay_60 (Nat.le_of_ble_eq_true rfl) (Nat.le_of_ble_eq_true rfl) (by unfold mpF; simp only [th, eF_3, eF_2, eF_1]) (by unfold mpF; simp only [th, eF_3, eF_2, eF_1])

set_option maxHeartbeats 1000000 in
set_option maxRecDepth 100000 in
theorem e1_X5_pay (l : Launch) (D : va_G) (cA : Nat → ClassId) (ad : Nat → Nat) (sz : Nat) (F : FF) (x am : Int32) (h : wi x 0 3 = false) : CI l D cA ad sz yX5_pay wsX5_pay 6 140 0 0 [.ref (ad 36), .int x, .int am] F (some (.int 0)) (th F 1) := by
  refine CI_of (own := RX5) (cc := cX5_pay) (maxL := 3) (ret := (some .int)) (by decide +kernel) rfl rfl (Nat.le_of_ble_eq_true rfl) ?_
  intro p e s m below meth c ls X S hr hl
  obtain ⟨⟨hx, hb, hml, hown, hts⟩, hE, hI, hlocks⟩ := id X
  have hl : lv_has ls 3 [(0, .ref (ad 36)), (1, .int x), (2, .int am)] := hl
  refine lv_aload_n hx hb dX5_pay_0 rfl (lv_at hl 0 rfl) ?_
  refine lv_iload_n hx hb dX5_pay_1 rfl (lv_at hl 1 rfl) ?_
  refine r_S0 X S (c_X5_isStudent l D cA ad _ F x) (va_cwS 1 hts gX5_pay_X5_isStudent rfl rfl rfl (by decide +kernel) ⟨Nat.le_of_ble_eq_true rfl, Nat.le_of_ble_eq_true rfl⟩) rfl hl.1 rfl (Nat.le_of_ble_eq_true rfl) dX5_pay_2 ⟨Nat.zero_le _, Nat.zero_le _⟩ (fun H locs S => ?_)
  refine lv_if_ne (tgt := 12) hx hb dX5_pay_5 (by decide) (fun z => False.elim (by rw [h] at z; revert z; decide)) (fun _ => ?_)
  refine lv_iconst (v := 1) hx hb dX5_pay_8 (by decide) ?_
  refine lv_goto (tgt := 27) hx hb dX5_pay_9 (by decide) ?_
  refine r_V0 X S (c_X5_holdsn l D cA ad _ F 1 (by decide)) ob_M rfl (cwV 1 hts gX5_pay_X5_holds rfl rfl rfl (by decide +kernel) ⟨Nat.le_of_ble_eq_true rfl, Nat.le_of_ble_eq_true rfl⟩) rfl hl.1 rfl (Nat.le_of_ble_eq_true rfl) dX5_pay_27 ⟨Nat.zero_le _, Nat.zero_le _⟩ (fun H locs S => ?_)
  obtain ⟨F_1, eF_1⟩ : ∃ z, z = u2 F 36 0 1 := ⟨_, rfl⟩
  rw [← eF_1] at S
  refine lv_if_ne (tgt := 35) hx hb dX5_pay_30 (by decide) (fun z => False.elim (by first | exact absurd z (by decide) | exact absurd (by decide) z)) (fun _ => ?_)
  refine lv_iconst (v := 0) hx hb dX5_pay_33 (by decide) ?_
  exact r_iret X S hr dX5_pay_34 (Nat.le_of_ble_eq_true rfl) (Nat.le_of_ble_eq_true rfl) (by rfl) (by simp only [th, eF_1])

set_option maxHeartbeats 1000000 in
set_option maxRecDepth 100000 in
theorem e2_X5_pay (l : Launch) (D : va_G) (cA : Nat → ClassId) (ad : Nat → Nat) (sz : Nat) (F : FF) (i : Nat) (hi : i < 4) (am : Int32) (h : wi am 1 1000000 = false) : CI l D cA ad sz yX5_pay wsX5_pay 6 140 0 0 [.ref (ad 36), .int (nI i), .int am] F (some (.int 0)) (th F 2) := by
  refine CI_of (own := RX5) (cc := cX5_pay) (maxL := 3) (ret := (some .int)) (by decide +kernel) rfl rfl (Nat.le_of_ble_eq_true rfl) ?_
  intro p e s m below meth c ls X S hr hl
  obtain ⟨⟨hx, hb, hml, hown, hts⟩, hE, hI, hlocks⟩ := id X
  have hl : lv_has ls 3 [(0, .ref (ad 36)), (1, .int (nI i)), (2, .int am)] := hl
  refine lv_aload_n hx hb dX5_pay_0 rfl (lv_at hl 0 rfl) ?_
  refine lv_iload_n hx hb dX5_pay_1 rfl (lv_at hl 1 rfl) ?_
  refine r_S0 X S (c_X5_isStudent l D cA ad _ F (nI i)) (va_cwS 1 hts gX5_pay_X5_isStudent rfl rfl rfl (by decide +kernel) ⟨Nat.le_of_ble_eq_true rfl, Nat.le_of_ble_eq_true rfl⟩) rfl hl.1 rfl (Nat.le_of_ble_eq_true rfl) dX5_pay_2 ⟨Nat.zero_le _, Nat.zero_le _⟩ (fun H locs S => ?_)
  refine lv_if_ne (tgt := 12) hx hb dX5_pay_5 (by decide) (fun _ => ?_) (fun z => False.elim (by rw [(wi4 i hi)] at z; revert z; decide))
  refine lv_iload_n hx hb dX5_pay_12 rfl (lv_at hl 2 rfl) ?_
  refine lv_iconst (v := 1) hx hb dX5_pay_13 (by decide) ?_
  refine lv_ldc (v := 1000000) hx hb hown (hts (.constant RX5 103 1000000) (by decide +kernel)) dX5_pay_14 ?_
  refine r_S0 X S (c_X5_in l D cA ad _ F am 1 1000000) (va_cwS 3 hts gX5_pay_X5_in rfl rfl rfl (by decide +kernel) ⟨Nat.le_of_ble_eq_true rfl, Nat.le_of_ble_eq_true rfl⟩) rfl hl.1 rfl (Nat.le_of_ble_eq_true rfl) dX5_pay_16 ⟨Nat.zero_le _, Nat.zero_le _⟩ (fun H locs S => ?_)
  refine lv_if_eq (tgt := 26) hx hb dX5_pay_19 (by decide) (fun _ => ?_) (fun z => False.elim (by rw [h] at z; revert z; decide))
  refine lv_iconst (v := 2) hx hb dX5_pay_26 (by decide) ?_
  refine r_V0 X S (c_X5_holdsn l D cA ad _ F 2 (by decide)) ob_M rfl (cwV 1 hts gX5_pay_X5_holds rfl rfl rfl (by decide +kernel) ⟨Nat.le_of_ble_eq_true rfl, Nat.le_of_ble_eq_true rfl⟩) rfl hl.1 rfl (Nat.le_of_ble_eq_true rfl) dX5_pay_27 ⟨Nat.zero_le _, Nat.zero_le _⟩ (fun H locs S => ?_)
  obtain ⟨F_1, eF_1⟩ : ∃ z, z = u2 F 36 0 2 := ⟨_, rfl⟩
  rw [← eF_1] at S
  refine lv_if_ne (tgt := 35) hx hb dX5_pay_30 (by decide) (fun z => False.elim (by first | exact absurd z (by decide) | exact absurd (by decide) z)) (fun _ => ?_)
  refine lv_iconst (v := 0) hx hb dX5_pay_33 (by decide) ?_
  exact r_iret X S hr dX5_pay_34 (Nat.le_of_ble_eq_true rfl) (Nat.le_of_ble_eq_true rfl) (by rfl) (by simp only [th, eF_1])

set_option maxHeartbeats 1000000 in
set_option maxRecDepth 100000 in
theorem c_X5_plan (l : Launch) (D : va_G) (cA : Nat → ClassId) (ad : Nat → Nat) (sz : Nat) (F : FF) (i : Nat) (hi : i < 4) (hM : OKM F i) (q : Nat) (hq : q < 4) (h : ¬ owM F i ≤ 0) : CI l D cA ad sz yX5_plan wsX5_plan 6 140 0 0 [.ref (ad 36), .int (nI i), .int (nI (q + 1))] F (some (.int (mlF F i (nI (q + 1)) (owM (th F 0) i) 55 i + mlF F i (nI (q + 1)) (owM (th F 0) i) 56 i))) (mlF F i (nI (q + 1)) (owM (th F 0) i)) := by
  refine CI_of (own := RX5) (cc := cX5_plan) (maxL := 4) (ret := (some .int)) (by decide +kernel) rfl rfl (Nat.le_of_ble_eq_true rfl) ?_
  intro p e s m below meth c ls X S hr hl
  obtain ⟨⟨hx, hb, hml, hown, hts⟩, hE, hI, hlocks⟩ := id X
  have hl : lv_has ls 4 [(0, .ref (ad 36)), (1, .int (nI i)), (2, .int (nI (q + 1)))] := hl
  have hw5 : ∀ w ∈ wsX50, w.before _ s = true := fun w h => hts w ((by decide +kernel : ∀ w ∈ wsX50, w ∈ wsX5_plan) w h)
  refine lv_aload_n hx hb dX5_plan_0 rfl (lv_at hl 0 rfl) ?_
  refine lv_iload_n hx hb dX5_plan_1 rfl (lv_at hl 1 rfl) ?_
  refine r_S0 X S (c_X5_isStudent l D cA ad _ F (nI i)) (va_cwS 1 hts gX5_plan_X5_isStudent rfl rfl rfl (by decide +kernel) ⟨Nat.le_of_ble_eq_true rfl, Nat.le_of_ble_eq_true rfl⟩) rfl hl.1 rfl (Nat.le_of_ble_eq_true rfl) dX5_plan_2 ⟨Nat.zero_le _, Nat.zero_le _⟩ (fun H locs S => ?_)
  refine lv_if_ne (tgt := 12) hx hb dX5_plan_5 (by decide) (fun _ => ?_) (fun z => False.elim (by rw [(wi4 i hi)] at z; revert z; decide))
  refine lv_iload_n hx hb dX5_plan_12 rfl (lv_at hl 2 rfl) ?_
  refine lv_iconst (v := 1) hx hb dX5_plan_13 (by decide) ?_
  refine lv_iconst (v := 4) hx hb dX5_plan_14 (by decide) ?_
  refine r_S0 X S (c_X5_in l D cA ad _ F (nI (q + 1)) 1 4) (va_cwS 3 hts gX5_plan_X5_in rfl rfl rfl (by decide +kernel) ⟨Nat.le_of_ble_eq_true rfl, Nat.le_of_ble_eq_true rfl⟩) rfl hl.1 rfl (Nat.le_of_ble_eq_true rfl) dX5_plan_15 ⟨Nat.zero_le _, Nat.zero_le _⟩ (fun H locs S => ?_)
  refine lv_if_ne (tgt := 25) hx hb dX5_plan_18 (by decide) (fun _ => ?_) (fun z => False.elim (by rw [(wi14 q hq)] at z; revert z; decide))
  refine lv_aload_n hx hb dX5_plan_25 rfl (lv_at hl 0 rfl) ?_
  refine lv_iload_n hx hb dX5_plan_26 rfl (lv_at hl 1 rfl) ?_
  refine r_V0 X S (c_X5_owedOf l D cA ad _ F i hi hM) ob_M rfl (cwV 1 hts gX5_plan_X5_owedOf rfl rfl rfl (by decide +kernel) ⟨Nat.le_of_ble_eq_true rfl, Nat.le_of_ble_eq_true rfl⟩) rfl hl.1 rfl (Nat.le_of_ble_eq_true rfl) dX5_plan_27 ⟨Nat.zero_le _, Nat.zero_le _⟩ (fun H locs S => ?_)
  refine lv_if_le (tgt := 37) hx hb dX5_plan_30 (by decide) (fun z => False.elim (h z)) (fun _ => ?_)
  refine lv_iconst (v := 0) hx hb dX5_plan_33 (by decide) ?_
  refine lv_goto (tgt := 38) hx hb dX5_plan_34 (by decide) ?_
  refine r_V0 X S (c_X5_holds0 l D cA ad _ F) ob_M rfl (cwV 1 hts gX5_plan_X5_holds rfl rfl rfl (by decide +kernel) ⟨Nat.le_of_ble_eq_true rfl, Nat.le_of_ble_eq_true rfl⟩) rfl hl.1 rfl (Nat.le_of_ble_eq_true rfl) dX5_plan_38 ⟨Nat.zero_le _, Nat.zero_le _⟩ (fun H locs S => ?_)
  obtain ⟨F_1, eF_1⟩ : ∃ z, z = u2 F 36 0 0 := ⟨_, rfl⟩
  rw [← eF_1] at S
  refine lv_if_ne (tgt := 46) hx hb dX5_plan_41 (by decide) (fun _ => ?_) (fun z => False.elim (by first | exact absurd z (by decide) | exact absurd (by decide) z))
  refine lv_aload_n hx hb dX5_plan_46 rfl (lv_at hl 0 rfl) ?_
  refine lv_iload_n hx hb dX5_plan_47 rfl (lv_at hl 1 rfl) ?_
  refine r_V0 X S (c_X5_owedOf l D cA ad _ F_1 i hi (by rw [eF_1]; exact OKM_u2 hM (by decide) (by decide) (by decide))) ob_M rfl (cwV 1 hts gX5_plan_X5_owedOf rfl rfl rfl (by decide +kernel) ⟨Nat.le_of_ble_eq_true rfl, Nat.le_of_ble_eq_true rfl⟩) rfl hl.1 rfl (Nat.le_of_ble_eq_true rfl) dX5_plan_48 ⟨Nat.zero_le _, Nat.zero_le _⟩ (fun H locs S => ?_)
  refine lv_istore_n (lv' := [(3, .int (owM F_1 i)), (0, .ref (ad 36)), (1, .int (nI i)), (2, .int (nI (q + 1)))]) hx hb dX5_plan_51 rfl hl (by decide) rfl (fun ls hl => ?_)
  refine lv_aload_n hx hb dX5_plan_52 rfl (lv_at hl 1 rfl) ?_
  refine r_getr (q := 54) X S hw5 ob_M 24 ⟨rfl, by decide, rfl⟩ rfl (hts (.fieldLink RX5 72 "TermBillModel" "planned" "[I") (by decide +kernel)) dX5_plan_53 ?_
  refine lv_iload_n hx hb dX5_plan_56 rfl (lv_at hl 2 rfl) ?_
  refine lv_iload_n hx hb dX5_plan_57 rfl (lv_at hl 3 rfl) ?_
  refine r_iasN X S (k := 54) (n := 4) (by unfold Ar; decide) (q := i) rfl (by omega) (by decide) dX5_plan_58 (fun H locs S => ?_)
  obtain ⟨F_2, eF_2⟩ : ∃ z, z = u2 F_1 54 i (nI (q + 1)) := ⟨_, rfl⟩
  rw [← eF_2] at S
  refine lv_aload_n hx hb dX5_plan_59 rfl (lv_at hl 1 rfl) ?_
  refine r_getr (q := 55) X S hw5 ob_M 25 ⟨rfl, by decide, rfl⟩ rfl (hts (.fieldLink RX5 75 "TermBillModel" "parts" "[I") (by decide +kernel)) dX5_plan_60 ?_
  refine lv_iload_n hx hb dX5_plan_63 rfl (lv_at hl 2 rfl) ?_
  refine lv_iload_n hx hb dX5_plan_64 rfl (lv_at hl 0 rfl) ?_
  refine lv_iload_n hx hb dX5_plan_65 rfl (lv_at hl 3 rfl) ?_
  refine lv_idiv hx hb dX5_plan_66 (nI_ne0 (by omega) (by omega)) ?_
  refine r_iasN X S (k := 55) (n := 4) (by unfold Ar; decide) (q := i) rfl (by omega) (by decide) dX5_plan_67 (fun H locs S => ?_)
  obtain ⟨F_3, eF_3⟩ : ∃ z, z = u2 F_2 55 i ((owM F_1 i) / (nI (q + 1))) := ⟨_, rfl⟩
  rw [← eF_3] at S
  refine lv_aload_n hx hb dX5_plan_68 rfl (lv_at hl 1 rfl) ?_
  refine r_getr (q := 56) X S hw5 ob_M 26 ⟨rfl, by decide, rfl⟩ rfl (hts (.fieldLink RX5 78 "TermBillModel" "rests" "[I") (by decide +kernel)) dX5_plan_69 ?_
  refine lv_iload_n hx hb dX5_plan_72 rfl (lv_at hl 2 rfl) ?_
  refine lv_iload_n hx hb dX5_plan_73 rfl (lv_at hl 0 rfl) ?_
  refine lv_iload_n hx hb dX5_plan_74 rfl (lv_at hl 3 rfl) ?_
  refine lv_irem hx hb dX5_plan_75 (nI_ne0 (by omega) (by omega)) ?_
  refine r_iasN X S (k := 56) (n := 4) (by unfold Ar; decide) (q := i) rfl (by omega) (by decide) dX5_plan_76 (fun H locs S => ?_)
  obtain ⟨F_4, eF_4⟩ : ∃ z, z = u2 F_3 56 i ((owM F_1 i) - (owM F_1 i) / (nI (q + 1)) * (nI (q + 1))) := ⟨_, rfl⟩
  rw [← eF_4] at S
  refine lv_aload_n hx hb dX5_plan_77 rfl (lv_at hl 1 rfl) ?_
  refine r_getr (q := 57) X S hw5 ob_M 27 ⟨rfl, by decide, rfl⟩ rfl (hts (.fieldLink RX5 81 "TermBillModel" "madeAt" "[I") (by decide +kernel)) dX5_plan_78 ?_
  refine lv_iload_n hx hb dX5_plan_81 rfl (lv_at hl 2 rfl) ?_
  refine lv_bipush (v := 16) hx hb dX5_plan_82 (by decide) ?_
  refine lv_aload_n hx hb dX5_plan_84 rfl (lv_at hl 1 rfl) ?_
  refine r_geti X S hw5 ob_M 2 ⟨rfl, by decide, rfl⟩ rfl (hts (.fieldLink RX5 144 "TermBillModel" "term" "I") (by decide +kernel)) dX5_plan_85 ?_
  refine lv_imul hx hb dX5_plan_88 ?_
  refine lv_aload_n hx hb dX5_plan_89 rfl (lv_at hl 1 rfl) ?_
  refine r_geti X S hw5 ob_M 1 ⟨rfl, by decide, rfl⟩ rfl (hts (.fieldLink RX5 133 "TermBillModel" "week" "I") (by decide +kernel)) dX5_plan_90 ?_
  refine lv_iadd hx hb dX5_plan_93 ?_
  refine r_iasN X S (k := 57) (n := 4) (by unfold Ar; decide) (q := i) rfl (by omega) (by decide) dX5_plan_94 (fun H locs S => ?_)
  obtain ⟨F_5, eF_5⟩ : ∃ z, z = u2 F_4 57 i ((16 * (F_4 36 2)) + (F_4 36 1)) := ⟨_, rfl⟩
  rw [← eF_5] at S
  refine lv_aload_n hx hb dX5_plan_95 rfl (lv_at hl 1 rfl) ?_
  refine r_getr (q := 58) X S hw5 ob_M 28 ⟨rfl, by decide, rfl⟩ rfl (hts (.fieldLink RX5 84 "TermBillModel" "since" "[I") (by decide +kernel)) dX5_plan_96 ?_
  refine lv_iload_n hx hb dX5_plan_99 rfl (lv_at hl 2 rfl) ?_
  refine lv_iconst (v := 0) hx hb dX5_plan_100 (by decide) ?_
  refine r_iasN X S (k := 58) (n := 4) (by unfold Ar; decide) (q := i) rfl (by omega) (by decide) dX5_plan_101 (fun H locs S => ?_)
  obtain ⟨F_6, eF_6⟩ : ∃ z, z = u2 F_5 58 i 0 := ⟨_, rfl⟩
  rw [← eF_6] at S
  refine lv_aload_n hx hb dX5_plan_102 rfl (lv_at hl 1 rfl) ?_
  refine r_getr (q := 55) X S hw5 ob_M 25 ⟨rfl, by decide, rfl⟩ rfl (hts (.fieldLink RX5 75 "TermBillModel" "parts" "[I") (by decide +kernel)) dX5_plan_103 ?_
  refine lv_iload_n hx hb dX5_plan_106 rfl (lv_at hl 2 rfl) ?_
  refine r_ialN X S (k := 55) (n := 4) (by unfold Ar; decide) (q := i) rfl (by omega) (by decide) dX5_plan_107 ?_
  refine lv_aload_n hx hb dX5_plan_108 rfl (lv_at hl 1 rfl) ?_
  refine r_getr (q := 56) X S hw5 ob_M 26 ⟨rfl, by decide, rfl⟩ rfl (hts (.fieldLink RX5 78 "TermBillModel" "rests" "[I") (by decide +kernel)) dX5_plan_109 ?_
  refine lv_iload_n hx hb dX5_plan_112 rfl (lv_at hl 2 rfl) ?_
  refine r_ialN X S (k := 56) (n := 4) (by unfold Ar; decide) (q := i) rfl (by omega) (by decide) dX5_plan_113 ?_
  refine lv_iadd hx hb dX5_plan_114 ?_
  exact r_iret X S hr dX5_plan_115 (Nat.le_of_ble_eq_true rfl) (Nat.le_of_ble_eq_true rfl) (by unfold mlF ml3; simp only [th, eF_6, eF_5, eF_4, eF_3, eF_2, eF_1]) (by unfold mlF ml3; simp only [th, eF_6, eF_5, eF_4, eF_3, eF_2, eF_1])

set_option maxHeartbeats 1000000 in
set_option maxRecDepth 100000 in
theorem e1_X5_plan (l : Launch) (D : va_G) (cA : Nat → ClassId) (ad : Nat → Nat) (sz : Nat) (F : FF) (x y : Int32) (h : wi x 0 3 = false) : CI l D cA ad sz yX5_plan wsX5_plan 6 140 0 0 [.ref (ad 36), .int x, .int y] F (some (.int 0)) (th F 1) := by
  refine CI_of (own := RX5) (cc := cX5_plan) (maxL := 4) (ret := (some .int)) (by decide +kernel) rfl rfl (Nat.le_of_ble_eq_true rfl) ?_
  intro p e s m below meth c ls X S hr hl
  obtain ⟨⟨hx, hb, hml, hown, hts⟩, hE, hI, hlocks⟩ := id X
  have hl : lv_has ls 4 [(0, .ref (ad 36)), (1, .int x), (2, .int y)] := hl
  refine lv_aload_n hx hb dX5_plan_0 rfl (lv_at hl 0 rfl) ?_
  refine lv_iload_n hx hb dX5_plan_1 rfl (lv_at hl 1 rfl) ?_
  refine r_S0 X S (c_X5_isStudent l D cA ad _ F x) (va_cwS 1 hts gX5_plan_X5_isStudent rfl rfl rfl (by decide +kernel) ⟨Nat.le_of_ble_eq_true rfl, Nat.le_of_ble_eq_true rfl⟩) rfl hl.1 rfl (Nat.le_of_ble_eq_true rfl) dX5_plan_2 ⟨Nat.zero_le _, Nat.zero_le _⟩ (fun H locs S => ?_)
  refine lv_if_ne (tgt := 12) hx hb dX5_plan_5 (by decide) (fun z => False.elim (by rw [h] at z; revert z; decide)) (fun _ => ?_)
  refine lv_iconst (v := 1) hx hb dX5_plan_8 (by decide) ?_
  refine lv_goto (tgt := 38) hx hb dX5_plan_9 (by decide) ?_
  refine r_V0 X S (c_X5_holdsn l D cA ad _ F 1 (by decide)) ob_M rfl (cwV 1 hts gX5_plan_X5_holds rfl rfl rfl (by decide +kernel) ⟨Nat.le_of_ble_eq_true rfl, Nat.le_of_ble_eq_true rfl⟩) rfl hl.1 rfl (Nat.le_of_ble_eq_true rfl) dX5_plan_38 ⟨Nat.zero_le _, Nat.zero_le _⟩ (fun H locs S => ?_)
  obtain ⟨F_1, eF_1⟩ : ∃ z, z = u2 F 36 0 1 := ⟨_, rfl⟩
  rw [← eF_1] at S
  refine lv_if_ne (tgt := 46) hx hb dX5_plan_41 (by decide) (fun z => False.elim (by first | exact absurd z (by decide) | exact absurd (by decide) z)) (fun _ => ?_)
  refine lv_iconst (v := 0) hx hb dX5_plan_44 (by decide) ?_
  exact r_iret X S hr dX5_plan_45 (Nat.le_of_ble_eq_true rfl) (Nat.le_of_ble_eq_true rfl) (by rfl) (by simp only [th, eF_1])

set_option maxHeartbeats 1000000 in
set_option maxRecDepth 100000 in
theorem e2_X5_plan (l : Launch) (D : va_G) (cA : Nat → ClassId) (ad : Nat → Nat) (sz : Nat) (F : FF) (i : Nat) (hi : i < 4) (y : Int32) (h : wi y 1 4 = false) : CI l D cA ad sz yX5_plan wsX5_plan 6 140 0 0 [.ref (ad 36), .int (nI i), .int y] F (some (.int 0)) (th F 2) := by
  refine CI_of (own := RX5) (cc := cX5_plan) (maxL := 4) (ret := (some .int)) (by decide +kernel) rfl rfl (Nat.le_of_ble_eq_true rfl) ?_
  intro p e s m below meth c ls X S hr hl
  obtain ⟨⟨hx, hb, hml, hown, hts⟩, hE, hI, hlocks⟩ := id X
  have hl : lv_has ls 4 [(0, .ref (ad 36)), (1, .int (nI i)), (2, .int y)] := hl
  refine lv_aload_n hx hb dX5_plan_0 rfl (lv_at hl 0 rfl) ?_
  refine lv_iload_n hx hb dX5_plan_1 rfl (lv_at hl 1 rfl) ?_
  refine r_S0 X S (c_X5_isStudent l D cA ad _ F (nI i)) (va_cwS 1 hts gX5_plan_X5_isStudent rfl rfl rfl (by decide +kernel) ⟨Nat.le_of_ble_eq_true rfl, Nat.le_of_ble_eq_true rfl⟩) rfl hl.1 rfl (Nat.le_of_ble_eq_true rfl) dX5_plan_2 ⟨Nat.zero_le _, Nat.zero_le _⟩ (fun H locs S => ?_)
  refine lv_if_ne (tgt := 12) hx hb dX5_plan_5 (by decide) (fun _ => ?_) (fun z => False.elim (by rw [(wi4 i hi)] at z; revert z; decide))
  refine lv_iload_n hx hb dX5_plan_12 rfl (lv_at hl 2 rfl) ?_
  refine lv_iconst (v := 1) hx hb dX5_plan_13 (by decide) ?_
  refine lv_iconst (v := 4) hx hb dX5_plan_14 (by decide) ?_
  refine r_S0 X S (c_X5_in l D cA ad _ F y 1 4) (va_cwS 3 hts gX5_plan_X5_in rfl rfl rfl (by decide +kernel) ⟨Nat.le_of_ble_eq_true rfl, Nat.le_of_ble_eq_true rfl⟩) rfl hl.1 rfl (Nat.le_of_ble_eq_true rfl) dX5_plan_15 ⟨Nat.zero_le _, Nat.zero_le _⟩ (fun H locs S => ?_)
  refine lv_if_ne (tgt := 25) hx hb dX5_plan_18 (by decide) (fun z => False.elim (by rw [h] at z; revert z; decide)) (fun _ => ?_)
  refine lv_iconst (v := 2) hx hb dX5_plan_21 (by decide) ?_
  refine lv_goto (tgt := 38) hx hb dX5_plan_22 (by decide) ?_
  refine r_V0 X S (c_X5_holdsn l D cA ad _ F 2 (by decide)) ob_M rfl (cwV 1 hts gX5_plan_X5_holds rfl rfl rfl (by decide +kernel) ⟨Nat.le_of_ble_eq_true rfl, Nat.le_of_ble_eq_true rfl⟩) rfl hl.1 rfl (Nat.le_of_ble_eq_true rfl) dX5_plan_38 ⟨Nat.zero_le _, Nat.zero_le _⟩ (fun H locs S => ?_)
  obtain ⟨F_1, eF_1⟩ : ∃ z, z = u2 F 36 0 2 := ⟨_, rfl⟩
  rw [← eF_1] at S
  refine lv_if_ne (tgt := 46) hx hb dX5_plan_41 (by decide) (fun z => False.elim (by first | exact absurd z (by decide) | exact absurd (by decide) z)) (fun _ => ?_)
  refine lv_iconst (v := 0) hx hb dX5_plan_44 (by decide) ?_
  exact r_iret X S hr dX5_plan_45 (Nat.le_of_ble_eq_true rfl) (Nat.le_of_ble_eq_true rfl) (by rfl) (by simp only [th, eF_1])

set_option maxHeartbeats 1000000 in
set_option maxRecDepth 100000 in
theorem e3_X5_plan (l : Launch) (D : va_G) (cA : Nat → ClassId) (ad : Nat → Nat) (sz : Nat) (F : FF) (i : Nat) (hi : i < 4) (hM : OKM F i) (q : Nat) (hq : q < 4) (h : owM F i ≤ 0) : CI l D cA ad sz yX5_plan wsX5_plan 6 140 0 0 [.ref (ad 36), .int (nI i), .int (nI (q + 1))] F (some (.int 0)) (th F 3) := by
  refine CI_of (own := RX5) (cc := cX5_plan) (maxL := 4) (ret := (some .int)) (by decide +kernel) rfl rfl (Nat.le_of_ble_eq_true rfl) ?_
  intro p e s m below meth c ls X S hr hl
  obtain ⟨⟨hx, hb, hml, hown, hts⟩, hE, hI, hlocks⟩ := id X
  have hl : lv_has ls 4 [(0, .ref (ad 36)), (1, .int (nI i)), (2, .int (nI (q + 1)))] := hl
  refine lv_aload_n hx hb dX5_plan_0 rfl (lv_at hl 0 rfl) ?_
  refine lv_iload_n hx hb dX5_plan_1 rfl (lv_at hl 1 rfl) ?_
  refine r_S0 X S (c_X5_isStudent l D cA ad _ F (nI i)) (va_cwS 1 hts gX5_plan_X5_isStudent rfl rfl rfl (by decide +kernel) ⟨Nat.le_of_ble_eq_true rfl, Nat.le_of_ble_eq_true rfl⟩) rfl hl.1 rfl (Nat.le_of_ble_eq_true rfl) dX5_plan_2 ⟨Nat.zero_le _, Nat.zero_le _⟩ (fun H locs S => ?_)
  refine lv_if_ne (tgt := 12) hx hb dX5_plan_5 (by decide) (fun _ => ?_) (fun z => False.elim (by rw [(wi4 i hi)] at z; revert z; decide))
  refine lv_iload_n hx hb dX5_plan_12 rfl (lv_at hl 2 rfl) ?_
  refine lv_iconst (v := 1) hx hb dX5_plan_13 (by decide) ?_
  refine lv_iconst (v := 4) hx hb dX5_plan_14 (by decide) ?_
  refine r_S0 X S (c_X5_in l D cA ad _ F (nI (q + 1)) 1 4) (va_cwS 3 hts gX5_plan_X5_in rfl rfl rfl (by decide +kernel) ⟨Nat.le_of_ble_eq_true rfl, Nat.le_of_ble_eq_true rfl⟩) rfl hl.1 rfl (Nat.le_of_ble_eq_true rfl) dX5_plan_15 ⟨Nat.zero_le _, Nat.zero_le _⟩ (fun H locs S => ?_)
  refine lv_if_ne (tgt := 25) hx hb dX5_plan_18 (by decide) (fun _ => ?_) (fun z => False.elim (by rw [(wi14 q hq)] at z; revert z; decide))
  refine lv_aload_n hx hb dX5_plan_25 rfl (lv_at hl 0 rfl) ?_
  refine lv_iload_n hx hb dX5_plan_26 rfl (lv_at hl 1 rfl) ?_
  refine r_V0 X S (c_X5_owedOf l D cA ad _ F i hi hM) ob_M rfl (cwV 1 hts gX5_plan_X5_owedOf rfl rfl rfl (by decide +kernel) ⟨Nat.le_of_ble_eq_true rfl, Nat.le_of_ble_eq_true rfl⟩) rfl hl.1 rfl (Nat.le_of_ble_eq_true rfl) dX5_plan_27 ⟨Nat.zero_le _, Nat.zero_le _⟩ (fun H locs S => ?_)
  refine lv_if_le (tgt := 37) hx hb dX5_plan_30 (by decide) (fun _ => ?_) (fun z => False.elim (z h))
  refine lv_iconst (v := 3) hx hb dX5_plan_37 (by decide) ?_
  refine r_V0 X S (c_X5_holdsn l D cA ad _ F 3 (by decide)) ob_M rfl (cwV 1 hts gX5_plan_X5_holds rfl rfl rfl (by decide +kernel) ⟨Nat.le_of_ble_eq_true rfl, Nat.le_of_ble_eq_true rfl⟩) rfl hl.1 rfl (Nat.le_of_ble_eq_true rfl) dX5_plan_38 ⟨Nat.zero_le _, Nat.zero_le _⟩ (fun H locs S => ?_)
  obtain ⟨F_1, eF_1⟩ : ∃ z, z = u2 F 36 0 3 := ⟨_, rfl⟩
  rw [← eF_1] at S
  refine lv_if_ne (tgt := 46) hx hb dX5_plan_41 (by decide) (fun z => False.elim (by first | exact absurd z (by decide) | exact absurd (by decide) z)) (fun _ => ?_)
  refine lv_iconst (v := 0) hx hb dX5_plan_44 (by decide) ?_
  exact r_iret X S hr dX5_plan_45 (Nat.le_of_ble_eq_true rfl) (Nat.le_of_ble_eq_true rfl) (by rfl) (by simp only [th, eF_1])

set_option maxHeartbeats 1000000 in
set_option maxRecDepth 100000 in
theorem c_X5_leave (l : Launch) (D : va_G) (cA : Nat → ClassId) (ad : Nat → Nat) (sz : Nat) (F : FF) (i : Nat) (hi : i < 4) (hM : OKM F i) (w : Nat) (hw : w < 16) (ew : F 36 1 = nI w) : CI l D cA ad sz yX5_leave wsX5_leave 3 68 0 0 [.ref (ad 36), .int (nI i)] F (some (.int (mzV F i w))) (mzF F i w) := by
  refine CI_of (own := RX5) (cc := cX5_leave) (maxL := 9) (ret := (some .int)) (by decide +kernel) rfl rfl (Nat.le_of_ble_eq_true rfl) ?_
  intro p e s m below meth c ls X S hr hl
  obtain ⟨⟨hx, hb, hml, hown, hts⟩, hE, hI, hlocks⟩ := id X
  have hl : lv_has ls 9 [(0, .ref (ad 36)), (1, .int (nI i))] := hl
  have hw5 : ∀ w ∈ wsX50, w.before _ s = true := fun w h => hts w ((by decide +kernel : ∀ w ∈ wsX50, w ∈ wsX5_leave) w h)
  have hM0 : OKM (th F 0) i := OKM_u2 hM (by decide) (by decide) (by decide)
  have hG : ∀ j, OKM (mvF (th F 0) i w j) i := fun j => OKM_mvF hM0 j
  have hT : ∀ j, tM (mvF (th F 0) i w j) i = tM F i := fun j => (by unfold tM; rw [mvF_row (by decide) (by decide)]; show (u2 F 36 0 0 44 i).toNatClampNeg = _; rw [u2_cell _ _ _ (by decide)])
  have loop1 : ∀ (q j : Nat), j + q = tM F i → ∀ (kk : ∀ (H : Heap) (locs : List Loc) (ls : Array Slot), St D cA ad (mvF (th F 0) i w (tM F i)) s.heap H locs → lv_has ls 9 [(0, .ref (ad 36)), (1, .int (nI i)), (2, .int (nI (tM F i)))] → W p l e (RM 3 68 0 0) s m [.ref (ad 36), .int (nI i)].toArray below meth c H locs 0 0 (MQ below (CQ D cA ad s.heap.size (mzF F i w) (some (.int (mzV F i w)))) [.ref (ad 36), .int (nI i)].toArray s 0 0 (AA ad s.heap.size)) (F0 m 60 ls [])) (G : FF), G = mvF (th F 0) i w j → ∀ (H : Heap) (locs : List Loc) (ls : Array Slot), St D cA ad G s.heap H locs → lv_has ls 9 [(0, .ref (ad 36)), (1, .int (nI i)), (2, .int (nI j))] → W p l e (RM 3 68 0 0) s m [.ref (ad 36), .int (nI i)].toArray below meth c H locs 0 0 (MQ below (CQ D cA ad s.heap.size (mzF F i w) (some (.int (mzV F i w)))) [.ref (ad 36), .int (nI i)].toArray s 0 0 (AA ad s.heap.size)) (F0 m 23 ls []) := by
    intro q
    induction q with
    | zero =>
      intro j hj kk G eG H locs ls S hl
      obtain rfl : j = tM F i := by omega
      have hMG : OKM G i := by rw [eG]; exact hG _
      refine lv_iload_n hx hb dX5_leave_23 rfl (lv_at hl 2 rfl) ?_
      refine lv_aload_n hx hb dX5_leave_24 rfl (lv_at hl 0 rfl) ?_
      refine r_getr (q := 44) X S hw5 ob_M 14 ⟨rfl, by decide, rfl⟩ rfl (hts (.fieldLink RX5 42 "TermBillModel" "courses" "[I") (by decide +kernel)) dX5_leave_25 ?_
      refine lv_iload_n hx hb dX5_leave_28 rfl (lv_at hl 1 rfl) ?_
      refine r_ialN X S (k := 44) (n := 4) (by unfold Ar; decide) (q := i) rfl (by omega) (by decide) dX5_leave_29 ?_
      rw [show G 44 i = nI (tM F i) from (by rw [hMG.2.1.2, eG, hT])]
      refine lv_icmp_ge (tgt := 60) hx hb dX5_leave_30 (by decide) (fun _ => ?_) (fun z => False.elim (z (Int32.le_refl _)))
      exact kk H locs ls (by rw [← eG]; exact S) (lv_sub hl [0, 1, 2] rfl)
    | succ q ih =>
      intro j hj kk G eG H locs ls S hl
      have hMG : OKM G i := by rw [eG]; exact hG _
      have hj8 : j < 8 := by have := hM.2.1.1; omega
      refine lv_iload_n hx hb dX5_leave_23 rfl (lv_at hl 2 rfl) ?_
      refine lv_aload_n hx hb dX5_leave_24 rfl (lv_at hl 0 rfl) ?_
      refine r_getr (q := 44) X S hw5 ob_M 14 ⟨rfl, by decide, rfl⟩ rfl (hts (.fieldLink RX5 42 "TermBillModel" "courses" "[I") (by decide +kernel)) dX5_leave_25 ?_
      refine lv_iload_n hx hb dX5_leave_28 rfl (lv_at hl 1 rfl) ?_
      refine r_ialN X S (k := 44) (n := 4) (by unfold Ar; decide) (q := i) rfl (by omega) (by decide) dX5_leave_29 ?_
      rw [show G 44 i = nI (tM F i) from (by rw [hMG.2.1.2, eG, hT])]
      refine lv_icmp_ge (tgt := 60) hx hb dX5_leave_30 (by decide) (fun z => False.elim (nI_ge (a := j) (b := tM F i) (by omega) (by have := hM.2.1.1; omega) z)) (fun _ => ?_)
      refine lv_aload_n hx hb dX5_leave_33 rfl (lv_at hl 0 rfl) ?_
      refine r_getr (q := 46) X S hw5 ob_M 16 ⟨rfl, by decide, rfl⟩ rfl (hts (.fieldLink RX5 48 "TermBillModel" "areDropped" "[Z") (by decide +kernel)) dX5_leave_34 ?_
      refine lv_bipush (v := 8) hx hb dX5_leave_37 (by decide) ?_
      refine lv_iload_n hx hb dX5_leave_39 rfl (lv_at hl 1 rfl) ?_
      refine lv_imul hx hb dX5_leave_40 ?_
      refine lv_topi (fun x_1 ex_1 => ?_)
      obtain rfl : x_1 = nI (8 * i) := ex_1.trans (nI_mul 8 i)
      refine lv_iload_n hx hb dX5_leave_41 rfl (lv_at hl 2 rfl) ?_
      refine lv_iadd hx hb dX5_leave_42 ?_
      refine lv_topi (fun x_2 ex_2 => ?_)
      obtain rfl : x_2 = nI ((8 * i) + j) := ex_2.trans (nI_add (8 * i) j)
      refine r_zalN X S (k := 46) (n := 32) (by unfold Ar; decide) (q := (8 * i) + j) rfl (by omega) (by decide) dX5_leave_43 ?_
      refine lv_if_ne (tgt := 54) hx hb dX5_leave_44 (by decide) (fun c_3 => ?_) (fun c_3 => ?_)
      · refine lv_iinc (v := nI (j + 1)) (lv' := [(2, .int (nI (j + 1))), (0, .ref (ad 36)), (1, .int (nI i))]) hx hb dX5_leave_54 hl (k := 2) rfl (nI_add _ _) (by decide) rfl (fun ls hl => ?_)
        refine lv_goto (tgt := 23) hx hb dX5_leave_57 (by decide) ?_
        exact ih (j + 1) (by omega) kk G (by rw [show mvF (th F 0) i w (j + 1) = mvS i w j (mvF (th F 0) i w j) from rfl, ← eG]; unfold mvS; rw [if_neg c_3]) H locs ls S (lv_sub hl [1, 2, 0] rfl)
      · refine lv_aload_n hx hb dX5_leave_47 rfl (lv_at hl 0 rfl) ?_
        refine lv_iload_n hx hb dX5_leave_48 rfl (lv_at hl 1 rfl) ?_
        refine lv_iload_n hx hb dX5_leave_49 rfl (lv_at hl 2 rfl) ?_
        refine r_V0 X S (c_X5_drops l D cA ad _ G i hi hMG j (by omega) w hw (by rw [eG, mvF_row (by decide) (by decide)]; show u2 F 36 0 0 36 1 = nI w; rw [u2_ne _ _ (by omega), ew])) ob_M rfl (cwV 2 hts gX5_leave_X5_drops rfl rfl rfl (by decide +kernel) ⟨Nat.le_of_ble_eq_true rfl, Nat.le_of_ble_eq_true rfl⟩) rfl hl.1 rfl (Nat.le_of_ble_eq_true rfl) dX5_leave_50 ⟨Nat.zero_le _, Nat.zero_le _⟩ (fun H locs S => ?_)
        obtain ⟨F_4, eF_4⟩ : ∃ z, z = mdF G i j w := ⟨_, rfl⟩
        rw [← eF_4] at S
        refine lv_pop hx hb dX5_leave_53 rfl ?_
        refine lv_iinc (v := nI (j + 1)) (lv' := [(2, .int (nI (j + 1))), (0, .ref (ad 36)), (1, .int (nI i))]) hx hb dX5_leave_54 hl (k := 2) rfl (nI_add _ _) (by decide) rfl (fun ls hl => ?_)
        refine lv_goto (tgt := 23) hx hb dX5_leave_57 (by decide) ?_
        exact ih (j + 1) (by omega) kk F_4 (by rw [show mvF (th F 0) i w (j + 1) = mvS i w j (mvF (th F 0) i w j) from rfl, ← eG, eF_4]; unfold mvS; rw [if_pos c_3]) H locs ls S (lv_sub hl [1, 2, 0] rfl)
  have loop2 : ∀ G : FF, OKM G i → ∀ (q n : Nat), n + q = aM G i → ∀ (kk : ∀ (H : Heap) (locs : List Loc) (ls : Array Slot), St D cA ad G s.heap H locs → lv_has ls 9 [(0, .ref (ad 36)), (1, .int (nI i)), (2, .int (saM G i (aM G i)))] → W p l e (RM 3 68 0 0) s m [.ref (ad 36), .int (nI i)].toArray below meth c H locs 0 0 (MQ below (CQ D cA ad s.heap.size (mzF F i w) (some (.int (mzV F i w)))) [.ref (ad 36), .int (nI i)].toArray s 0 0 (AA ad s.heap.size)) (F0 m 94 ls [])), ∀ (H : Heap) (locs : List Loc) (ls : Array Slot), St D cA ad G s.heap H locs → lv_has ls 9 [(0, .ref (ad 36)), (1, .int (nI i)), (2, .int (saM G i n)), (3, .int (nI n))] → W p l e (RM 3 68 0 0) s m [.ref (ad 36), .int (nI i)].toArray below meth c H locs 0 0 (MQ below (CQ D cA ad s.heap.size (mzF F i w) (some (.int (mzV F i w)))) [.ref (ad 36), .int (nI i)].toArray s 0 0 (AA ad s.heap.size)) (F0 m 64 ls []) := by
    intro G hMG q
    induction q with
    | zero =>
      intro n hn kk H locs ls S hl
      obtain rfl : n = aM G i := by omega
      refine lv_iload_n hx hb dX5_leave_64 rfl (lv_at hl 3 rfl) ?_
      refine lv_aload_n hx hb dX5_leave_65 rfl (lv_at hl 0 rfl) ?_
      refine r_getr (q := 50) X S hw5 ob_M 20 ⟨rfl, by decide, rfl⟩ rfl (hts (.fieldLink RX5 60 "TermBillModel" "awards" "[I") (by decide +kernel)) dX5_leave_66 ?_
      refine lv_iload_n hx hb dX5_leave_69 rfl (lv_at hl 1 rfl) ?_
      refine r_ialN X S (k := 50) (n := 4) (by unfold Ar; decide) (q := i) rfl (by omega) (by decide) dX5_leave_70 ?_
      rw [show G 50 i = nI (aM G i) from hMG.2.2.2]
      refine lv_icmp_ge (tgt := 94) hx hb dX5_leave_71 (by decide) (fun _ => ?_) (fun z => False.elim (z (Int32.le_refl _)))
      exact kk H locs ls S (lv_sub hl [0, 1, 2] rfl)
    | succ q ih =>
      intro n hn kk H locs ls S hl
      refine lv_iload_n hx hb dX5_leave_64 rfl (lv_at hl 3 rfl) ?_
      refine lv_aload_n hx hb dX5_leave_65 rfl (lv_at hl 0 rfl) ?_
      refine r_getr (q := 50) X S hw5 ob_M 20 ⟨rfl, by decide, rfl⟩ rfl (hts (.fieldLink RX5 60 "TermBillModel" "awards" "[I") (by decide +kernel)) dX5_leave_66 ?_
      refine lv_iload_n hx hb dX5_leave_69 rfl (lv_at hl 1 rfl) ?_
      refine r_ialN X S (k := 50) (n := 4) (by unfold Ar; decide) (q := i) rfl (by omega) (by decide) dX5_leave_70 ?_
      rw [show G 50 i = nI (aM G i) from hMG.2.2.2]
      refine lv_icmp_ge (tgt := 94) hx hb dX5_leave_71 (by decide) (fun z => False.elim (nI_ge (a := n) (b := aM G i) (by omega) (by have := hMG.2.2.1; omega) z)) (fun _ => ?_)
      refine lv_iload_n hx hb dX5_leave_74 rfl (lv_at hl 2 rfl) ?_
      refine lv_aload_n hx hb dX5_leave_75 rfl (lv_at hl 0 rfl) ?_
      refine r_getr (q := 52) X S hw5 ob_M 22 ⟨rfl, by decide, rfl⟩ rfl (hts (.fieldLink RX5 66 "TermBillModel" "amounts" "[I") (by decide +kernel)) dX5_leave_76 ?_
      refine lv_bipush (v := 6) hx hb dX5_leave_79 (by decide) ?_
      refine lv_iload_n hx hb dX5_leave_81 rfl (lv_at hl 1 rfl) ?_
      refine lv_imul hx hb dX5_leave_82 ?_
      refine lv_topi (fun x_5 ex_5 => ?_)
      obtain rfl : x_5 = nI (6 * i) := ex_5.trans (nI_mul 6 i)
      refine lv_iload_n hx hb dX5_leave_83 rfl (lv_at hl 3 rfl) ?_
      refine lv_iadd hx hb dX5_leave_84 ?_
      refine lv_topi (fun x_6 ex_6 => ?_)
      obtain rfl : x_6 = nI ((6 * i) + n) := ex_6.trans (nI_add (6 * i) n)
      refine r_ialN X S (k := 52) (n := 24) (by unfold Ar; decide) (q := (6 * i) + n) rfl (by have := hMG.2.2.1; omega) (by decide) dX5_leave_85 ?_
      refine lv_iadd hx hb dX5_leave_86 ?_
      refine lv_istore_n (lv' := [(2, .int ((saM G i n) + (G 52 ((6 * i) + n)))), (0, .ref (ad 36)), (1, .int (nI i)), (3, .int (nI n))]) hx hb dX5_leave_87 rfl hl (by decide) rfl (fun ls hl => ?_)
      refine lv_iinc (v := nI (n + 1)) (lv' := [(3, .int (nI (n + 1))), (2, .int ((saM G i n) + (G 52 ((6 * i) + n)))), (0, .ref (ad 36)), (1, .int (nI i))]) hx hb dX5_leave_88 hl (k := 3) rfl (nI_add _ _) (by decide) rfl (fun ls hl => ?_)
      refine lv_goto (tgt := 64) hx hb dX5_leave_91 (by decide) ?_
      exact ih (n + 1) (by omega) kk H locs ls S (lv_sub hl [2, 3, 1, 0] rfl)
  have loop3 : ∀ (bk : Int32) (s0 : TK), OKM s0.1 i → ∀ (kk : ∀ (H : Heap) (locs : List Loc) (ls : Array Slot), St D cA ad ((tkA i 18 s0).1) s.heap H locs → lv_has ls 9 [(0, .ref (ad 36)), (1, .int (nI i)), (3, .int bk), (4, .int ((tkA i 18 s0).2)), (5, .int (nI 18))] → W p l e (RM 3 68 0 0) s m [.ref (ad 36), .int (nI i)].toArray below meth c H locs 0 0 (MQ below (CQ D cA ad s.heap.size (mzF F i w) (some (.int (mzV F i w)))) [.ref (ad 36), .int (nI i)].toArray s 0 0 (AA ad s.heap.size)) (F0 m 222 ls [])) (d k : Nat), k + d = 18 → ∀ s9 : TK, s9 = tkA i k s0 → ∀ (H : Heap) (locs : List Loc) (ls : Array Slot), St D cA ad s9.1 s.heap H locs → lv_has ls 9 [(0, .ref (ad 36)), (1, .int (nI i)), (3, .int bk), (4, .int s9.2), (5, .int (nI k))] → W p l e (RM 3 68 0 0) s m [.ref (ad 36), .int (nI i)].toArray below meth c H locs 0 0 (MQ below (CQ D cA ad s.heap.size (mzF F i w) (some (.int (mzV F i w)))) [.ref (ad 36), .int (nI i)].toArray s 0 0 (AA ad s.heap.size)) (F0 m 125 ls []) := by
    intro bk s0 hM9 kk d
    induction d with
    | zero =>
      intro k hk s9 e9 H locs ls S hl
      obtain rfl : k = 18 := by omega
      rw [e9] at S hl
      refine lv_iload hx hb dX5_leave_125 (lv_at hl 4 rfl) ?_
      refine lv_bipush (v := 18) hx hb dX5_leave_127 (by decide) ?_
      refine lv_icmp_ge (tgt := 222) hx hb dX5_leave_129 (by decide) (fun _ => ?_) (fun z => False.elim (absurd (by decide) z))
      exact kk H locs ls S (lv_sub hl [0, 1, 2, 3, 4] rfl)
    | succ d ih =>
      intro k hk s9 e9 H locs ls S hl
      have hk9 : k < 18 := by omega
      have hMG : OKM s9.1 i := by rw [e9]; exact OKM_tkA hM9 k
      have ha := hMG.2.2.1
      refine lv_iload hx hb dX5_leave_125 (lv_at hl 4 rfl) ?_
      refine lv_bipush (v := 18) hx hb dX5_leave_127 (by decide) ?_
      refine lv_icmp_ge (tgt := 222) hx hb dX5_leave_129 (by decide) (fun z => False.elim (nI_ge (a := k) (b := 18) (by omega) (by omega) z)) (fun _ => ?_)
      refine lv_iconst (v := 2) hx hb dX5_leave_132 (by decide) ?_
      refine lv_iload hx hb dX5_leave_133 (lv_at hl 4 rfl) ?_
      refine lv_bipush (v := 6) hx hb dX5_leave_135 (by decide) ?_
      refine lv_idiv hx hb dX5_leave_137 (by decide) ?_
      rw [show (nI k) / 6 = nI (k / 6) from (nI_d6 k hk9)]
      refine lv_isub hx hb dX5_leave_138 ?_
      refine lv_istore (lv' := [(6, .int (2 - (nI (k / 6)))), (0, .ref (ad 36)), (1, .int (nI i)), (3, .int bk), (4, .int s9.2), (5, .int (nI k))]) hx hb dX5_leave_139 hl (by decide) rfl (fun ls hl => ?_)
      refine lv_bipush (v := 6) hx hb dX5_leave_141 (by decide) ?_
      refine lv_iload_n hx hb dX5_leave_143 rfl (lv_at hl 2 rfl) ?_
      refine lv_imul hx hb dX5_leave_144 ?_
      refine lv_topi (fun x_7 ex_7 => ?_)
      obtain rfl : x_7 = nI (6 * i) := ex_7.trans (nI_mul 6 i)
      refine lv_iload hx hb dX5_leave_145 (lv_at hl 5 rfl) ?_
      refine lv_bipush (v := 6) hx hb dX5_leave_147 (by decide) ?_
      refine lv_irem hx hb dX5_leave_149 (by decide) ?_
      rw [show (nI k) - (nI k) / 6 * 6 = nI (k % 6) from (nI_m6 k hk9)]
      refine lv_iadd hx hb dX5_leave_150 ?_
      refine lv_topi (fun x_8 ex_8 => ?_)
      obtain rfl : x_8 = nI ((6 * i) + (k % 6)) := ex_8.trans (nI_add (6 * i) (k % 6))
      refine lv_istore (lv' := [(7, .int (nI ((6 * i) + (k % 6)))), (6, .int (2 - (nI (k / 6)))), (0, .ref (ad 36)), (1, .int (nI i)), (3, .int bk), (4, .int s9.2), (5, .int (nI k))]) hx hb dX5_leave_151 hl (by decide) rfl (fun ls hl => ?_)
      refine lv_iload hx hb dX5_leave_153 (lv_at hl 6 rfl) ?_
      refine lv_bipush (v := 6) hx hb dX5_leave_155 (by decide) ?_
      refine lv_irem hx hb dX5_leave_157 (by decide) ?_
      rw [show (nI k) - (nI k) / 6 * 6 = nI (k % 6) from (nI_m6 k hk9)]
      refine lv_aload_n hx hb dX5_leave_158 rfl (lv_at hl 2 rfl) ?_
      refine r_getr (q := 50) X S hw5 ob_M 20 ⟨rfl, by decide, rfl⟩ rfl (hts (.fieldLink RX5 60 "TermBillModel" "awards" "[I") (by decide +kernel)) dX5_leave_159 ?_
      refine lv_iload_n hx hb dX5_leave_162 rfl (lv_at hl 3 rfl) ?_
      refine r_ialN X S (k := 50) (n := 4) (by unfold Ar; decide) (q := i) rfl (by omega) (by decide) dX5_leave_163 ?_
      rw [show s9.1 50 i = nI (aM s9.1 i) from hMG.2.2.2]
      refine lv_icmp_ge (tgt := 194) hx hb dX5_leave_164 (by decide) (fun c_9 => ?_) (fun c_9 => ?_)
      · refine lv_iconst (v := 0) hx hb dX5_leave_194 (by decide) ?_
        refine lv_istore (lv' := [(8, .int 0), (7, .int (nI ((6 * i) + (k % 6)))), (6, .int (2 - (nI (k / 6)))), (0, .ref (ad 36)), (1, .int (nI i)), (3, .int bk), (4, .int s9.2), (5, .int (nI k))]) hx hb dX5_leave_195 hl (by decide) rfl (fun ls hl => ?_)
        refine lv_aload_n hx hb dX5_leave_197 rfl (lv_at hl 3 rfl) ?_
        refine r_getr (q := 52) X S hw5 ob_M 22 ⟨rfl, by decide, rfl⟩ rfl (hts (.fieldLink RX5 66 "TermBillModel" "amounts" "[I") (by decide +kernel)) dX5_leave_198 ?_
        refine lv_iload hx hb dX5_leave_201 (lv_at hl 1 rfl) ?_
        refine lv_dup2_11 hx hb dX5_leave_203 rfl rfl ?_
        refine r_ialN X S (k := 52) (n := 24) (by unfold Ar; decide) (q := (6 * i) + (k % 6)) rfl (by omega) (by decide) dX5_leave_204 ?_
        refine lv_iload hx hb dX5_leave_205 (lv_at hl 0 rfl) ?_
        refine lv_isub hx hb dX5_leave_207 ?_
        refine r_iasN X S (k := 52) (n := 24) (by unfold Ar; decide) (q := (6 * i) + (k % 6)) rfl (by omega) (by decide) dX5_leave_208 (fun H locs S => ?_)
        obtain ⟨F_10, eF_10⟩ : ∃ z, z = u2 s9.1 52 ((6 * i) + (k % 6)) ((s9.1 52 ((6 * i) + (k % 6))) - 0) := ⟨_, rfl⟩
        rw [← eF_10] at S
        refine lv_iload hx hb dX5_leave_209 (lv_at hl 6 rfl) ?_
        refine lv_iload hx hb dX5_leave_211 (lv_at hl 0 rfl) ?_
        refine lv_isub hx hb dX5_leave_213 ?_
        refine lv_istore (lv' := [(4, .int (s9.2 - 0)), (8, .int 0), (7, .int (nI ((6 * i) + (k % 6)))), (6, .int (2 - (nI (k / 6)))), (0, .ref (ad 36)), (1, .int (nI i)), (3, .int bk), (5, .int (nI k))]) hx hb dX5_leave_214 hl (by decide) rfl (fun ls hl => ?_)
        refine lv_iinc (v := nI (k + 1)) (lv' := [(5, .int (nI (k + 1))), (4, .int (s9.2 - 0)), (8, .int 0), (7, .int (nI ((6 * i) + (k % 6)))), (6, .int (2 - (nI (k / 6)))), (0, .ref (ad 36)), (1, .int (nI i)), (3, .int bk)]) hx hb dX5_leave_216 hl (k := 7) rfl (nI_add _ _) (by decide) rfl (fun ls hl => ?_)
        refine lv_goto (tgt := 125) hx hb dX5_leave_219 (by decide) ?_
        exact ih (k + 1) (by omega) (F_10, s9.2 - 0) (by rw [show tkA i (k + 1) s0 = tkS i k (tkA i k s0) from rfl, ← e9, eF_10]; simp only [tkS, tkV, (tkI_f1 ha c_9), Bool.false_eq_true, ↓reduceIte]) H locs ls S (lv_sub hl [5, 6, 7, 1, 0] rfl)
      · refine lv_aload_n hx hb dX5_leave_167 rfl (lv_at hl 2 rfl) ?_
        refine r_getr (q := 51) X S hw5 ob_M 21 ⟨rfl, by decide, rfl⟩ rfl (hts (.fieldLink RX5 63 "TermBillModel" "ranks" "[I") (by decide +kernel)) dX5_leave_168 ?_
        refine lv_iload hx hb dX5_leave_171 (lv_at hl 0 rfl) ?_
        refine r_ialN X S (k := 51) (n := 24) (by unfold Ar; decide) (q := (6 * i) + (k % 6)) rfl (by omega) (by decide) dX5_leave_173 ?_
        refine lv_iload hx hb dX5_leave_174 (lv_at hl 1 rfl) ?_
        refine lv_icmp_ne (tgt := 194) hx hb dX5_leave_176 (by decide) (fun c_11 => ?_) (fun c_11 => ?_)
        · refine lv_iconst (v := 0) hx hb dX5_leave_194 (by decide) ?_
          refine lv_istore (lv' := [(8, .int 0), (7, .int (nI ((6 * i) + (k % 6)))), (6, .int (2 - (nI (k / 6)))), (0, .ref (ad 36)), (1, .int (nI i)), (3, .int bk), (4, .int s9.2), (5, .int (nI k))]) hx hb dX5_leave_195 hl (by decide) rfl (fun ls hl => ?_)
          refine lv_aload_n hx hb dX5_leave_197 rfl (lv_at hl 3 rfl) ?_
          refine r_getr (q := 52) X S hw5 ob_M 22 ⟨rfl, by decide, rfl⟩ rfl (hts (.fieldLink RX5 66 "TermBillModel" "amounts" "[I") (by decide +kernel)) dX5_leave_198 ?_
          refine lv_iload hx hb dX5_leave_201 (lv_at hl 1 rfl) ?_
          refine lv_dup2_11 hx hb dX5_leave_203 rfl rfl ?_
          refine r_ialN X S (k := 52) (n := 24) (by unfold Ar; decide) (q := (6 * i) + (k % 6)) rfl (by omega) (by decide) dX5_leave_204 ?_
          refine lv_iload hx hb dX5_leave_205 (lv_at hl 0 rfl) ?_
          refine lv_isub hx hb dX5_leave_207 ?_
          refine r_iasN X S (k := 52) (n := 24) (by unfold Ar; decide) (q := (6 * i) + (k % 6)) rfl (by omega) (by decide) dX5_leave_208 (fun H locs S => ?_)
          obtain ⟨F_12, eF_12⟩ : ∃ z, z = u2 s9.1 52 ((6 * i) + (k % 6)) ((s9.1 52 ((6 * i) + (k % 6))) - 0) := ⟨_, rfl⟩
          rw [← eF_12] at S
          refine lv_iload hx hb dX5_leave_209 (lv_at hl 6 rfl) ?_
          refine lv_iload hx hb dX5_leave_211 (lv_at hl 0 rfl) ?_
          refine lv_isub hx hb dX5_leave_213 ?_
          refine lv_istore (lv' := [(4, .int (s9.2 - 0)), (8, .int 0), (7, .int (nI ((6 * i) + (k % 6)))), (6, .int (2 - (nI (k / 6)))), (0, .ref (ad 36)), (1, .int (nI i)), (3, .int bk), (5, .int (nI k))]) hx hb dX5_leave_214 hl (by decide) rfl (fun ls hl => ?_)
          refine lv_iinc (v := nI (k + 1)) (lv' := [(5, .int (nI (k + 1))), (4, .int (s9.2 - 0)), (8, .int 0), (7, .int (nI ((6 * i) + (k % 6)))), (6, .int (2 - (nI (k / 6)))), (0, .ref (ad 36)), (1, .int (nI i)), (3, .int bk)]) hx hb dX5_leave_216 hl (k := 7) rfl (nI_add _ _) (by decide) rfl (fun ls hl => ?_)
          refine lv_goto (tgt := 125) hx hb dX5_leave_219 (by decide) ?_
          exact ih (k + 1) (by omega) (F_12, s9.2 - 0) (by rw [show tkA i (k + 1) s0 = tkS i k (tkA i k s0) from rfl, ← e9, eF_12]; simp only [tkS, tkV, (tkI_f2 c_11), Bool.false_eq_true, ↓reduceIte]) H locs ls S (lv_sub hl [5, 6, 7, 1, 0] rfl)
        · refine lv_aload_n hx hb dX5_leave_179 rfl (lv_at hl 2 rfl) ?_
          refine r_getr (q := 52) X S hw5 ob_M 22 ⟨rfl, by decide, rfl⟩ rfl (hts (.fieldLink RX5 66 "TermBillModel" "amounts" "[I") (by decide +kernel)) dX5_leave_180 ?_
          refine lv_iload hx hb dX5_leave_183 (lv_at hl 0 rfl) ?_
          refine r_ialN X S (k := 52) (n := 24) (by unfold Ar; decide) (q := (6 * i) + (k % 6)) rfl (by omega) (by decide) dX5_leave_185 ?_
          refine lv_iload hx hb dX5_leave_186 (lv_at hl 5 rfl) ?_
          refine r_S0 X S (c_X5_least l D cA ad _ s9.1 (s9.1 52 ((6 * i) + (k % 6))) s9.2) (va_cwS 2 hts gX5_leave_X5_least rfl rfl rfl (by decide +kernel) ⟨Nat.le_of_ble_eq_true rfl, Nat.le_of_ble_eq_true rfl⟩) rfl hl.1 rfl (Nat.le_of_ble_eq_true rfl) dX5_leave_188 ⟨Nat.zero_le _, Nat.zero_le _⟩ (fun H locs S => ?_)
          refine lv_goto (tgt := 195) hx hb dX5_leave_191 (by decide) ?_
          refine lv_istore (lv' := [(8, .int (mn (s9.1 52 ((6 * i) + (k % 6))) s9.2)), (7, .int (nI ((6 * i) + (k % 6)))), (6, .int (2 - (nI (k / 6)))), (0, .ref (ad 36)), (1, .int (nI i)), (3, .int bk), (4, .int s9.2), (5, .int (nI k))]) hx hb dX5_leave_195 hl (by decide) rfl (fun ls hl => ?_)
          refine lv_aload_n hx hb dX5_leave_197 rfl (lv_at hl 3 rfl) ?_
          refine r_getr (q := 52) X S hw5 ob_M 22 ⟨rfl, by decide, rfl⟩ rfl (hts (.fieldLink RX5 66 "TermBillModel" "amounts" "[I") (by decide +kernel)) dX5_leave_198 ?_
          refine lv_iload hx hb dX5_leave_201 (lv_at hl 1 rfl) ?_
          refine lv_dup2_11 hx hb dX5_leave_203 rfl rfl ?_
          refine r_ialN X S (k := 52) (n := 24) (by unfold Ar; decide) (q := (6 * i) + (k % 6)) rfl (by omega) (by decide) dX5_leave_204 ?_
          refine lv_iload hx hb dX5_leave_205 (lv_at hl 0 rfl) ?_
          refine lv_isub hx hb dX5_leave_207 ?_
          refine r_iasN X S (k := 52) (n := 24) (by unfold Ar; decide) (q := (6 * i) + (k % 6)) rfl (by omega) (by decide) dX5_leave_208 (fun H locs S => ?_)
          obtain ⟨F_13, eF_13⟩ : ∃ z, z = u2 s9.1 52 ((6 * i) + (k % 6)) ((s9.1 52 ((6 * i) + (k % 6))) - (mn (s9.1 52 ((6 * i) + (k % 6))) s9.2)) := ⟨_, rfl⟩
          rw [← eF_13] at S
          refine lv_iload hx hb dX5_leave_209 (lv_at hl 6 rfl) ?_
          refine lv_iload hx hb dX5_leave_211 (lv_at hl 0 rfl) ?_
          refine lv_isub hx hb dX5_leave_213 ?_
          refine lv_istore (lv' := [(4, .int (s9.2 - (mn (s9.1 52 ((6 * i) + (k % 6))) s9.2))), (8, .int (mn (s9.1 52 ((6 * i) + (k % 6))) s9.2)), (7, .int (nI ((6 * i) + (k % 6)))), (6, .int (2 - (nI (k / 6)))), (0, .ref (ad 36)), (1, .int (nI i)), (3, .int bk), (5, .int (nI k))]) hx hb dX5_leave_214 hl (by decide) rfl (fun ls hl => ?_)
          refine lv_iinc (v := nI (k + 1)) (lv' := [(5, .int (nI (k + 1))), (4, .int (s9.2 - (mn (s9.1 52 ((6 * i) + (k % 6))) s9.2))), (8, .int (mn (s9.1 52 ((6 * i) + (k % 6))) s9.2)), (7, .int (nI ((6 * i) + (k % 6)))), (6, .int (2 - (nI (k / 6)))), (0, .ref (ad 36)), (1, .int (nI i)), (3, .int bk)]) hx hb dX5_leave_216 hl (k := 7) rfl (nI_add _ _) (by decide) rfl (fun ls hl => ?_)
          refine lv_goto (tgt := 125) hx hb dX5_leave_219 (by decide) ?_
          exact ih (k + 1) (by omega) (F_13, s9.2 - (mn (s9.1 52 ((6 * i) + (k % 6))) s9.2)) (by rw [show tkA i (k + 1) s0 = tkS i k (tkA i k s0) from rfl, ← e9, eF_13]; simp only [tkS, tkV, (tkI_t ha c_9 c_11), Bool.false_eq_true, ↓reduceIte]) H locs ls S (lv_sub hl [5, 6, 7, 1, 0] rfl)
  refine lv_aload_n hx hb dX5_leave_0 rfl (lv_at hl 0 rfl) ?_
  refine lv_iload_n hx hb dX5_leave_1 rfl (lv_at hl 1 rfl) ?_
  refine r_S0 X S (c_X5_isStudent l D cA ad _ F (nI i)) (va_cwS 1 hts gX5_leave_X5_isStudent rfl rfl rfl (by decide +kernel) ⟨Nat.le_of_ble_eq_true rfl, Nat.le_of_ble_eq_true rfl⟩) rfl hl.1 rfl (Nat.le_of_ble_eq_true rfl) dX5_leave_2 ⟨Nat.zero_le _, Nat.zero_le _⟩ (fun H locs S => ?_)
  refine lv_if_eq (tgt := 12) hx hb dX5_leave_5 (by decide) (fun z => False.elim (by rw [(wi4 i hi)] at z; revert z; decide)) (fun _ => ?_)
  refine lv_iconst (v := 0) hx hb dX5_leave_8 (by decide) ?_
  refine lv_goto (tgt := 13) hx hb dX5_leave_9 (by decide) ?_
  refine r_V0 X S (c_X5_holds0 l D cA ad _ F) ob_M rfl (cwV 1 hts gX5_leave_X5_holds rfl rfl rfl (by decide +kernel) ⟨Nat.le_of_ble_eq_true rfl, Nat.le_of_ble_eq_true rfl⟩) rfl hl.1 rfl (Nat.le_of_ble_eq_true rfl) dX5_leave_13 ⟨Nat.zero_le _, Nat.zero_le _⟩ (fun H locs S => ?_)
  obtain ⟨F_14, eF_14⟩ : ∃ z, z = u2 F 36 0 0 := ⟨_, rfl⟩
  rw [← eF_14] at S
  refine lv_if_ne (tgt := 21) hx hb dX5_leave_16 (by decide) (fun _ => ?_) (fun z => False.elim (by first | exact absurd z (by decide) | exact absurd (by decide) z))
  refine lv_iconst (v := 0) hx hb dX5_leave_21 (by decide) ?_
  refine lv_istore_n (lv' := [(2, .int 0), (0, .ref (ad 36)), (1, .int (nI i))]) hx hb dX5_leave_22 rfl hl (by decide) rfl (fun ls hl => ?_)
  refine loop1 (tM F i) 0 (by omega) (fun H locs ls S hl => ?_) F_14 eF_14 _ _ ls S (by rw [nI_0]; exact (lv_sub hl [1, 2, 0] rfl))
  obtain ⟨G1, eG1⟩ : ∃ z, z = mvF (th F 0) i w (tM F i) := ⟨_, rfl⟩
  rw [← eG1] at S
  have hMG : OKM G1 i := by rw [eG1]; exact hG _
  refine lv_iconst (v := 0) hx hb dX5_leave_60 (by decide) ?_
  refine lv_istore_n (lv' := [(2, .int 0), (0, .ref (ad 36)), (1, .int (nI i))]) hx hb dX5_leave_61 rfl hl (by decide) rfl (fun ls hl => ?_)
  refine lv_iconst (v := 0) hx hb dX5_leave_62 (by decide) ?_
  refine lv_istore_n (lv' := [(3, .int 0), (2, .int 0), (0, .ref (ad 36)), (1, .int (nI i))]) hx hb dX5_leave_63 rfl hl (by decide) rfl (fun ls hl => ?_)
  refine loop2 G1 hMG (aM G1 i) 0 (by omega) (fun H locs ls S hl => ?_) _ _ ls S (by rw [nI_0]; exact (lv_sub hl [2, 3, 1, 0] rfl))
  refine lv_aload_n hx hb dX5_leave_94 rfl (lv_at hl 0 rfl) ?_
  refine r_geti X S hw5 ob_M 1 ⟨rfl, by decide, rfl⟩ rfl (hts (.fieldLink RX5 133 "TermBillModel" "week" "I") (by decide +kernel)) dX5_leave_95 ?_
  refine lv_bipush (v := 10) hx hb dX5_leave_98 (by decide) ?_
  refine lv_icmp_lt (tgt := 107) hx hb dX5_leave_100 (by decide) (fun c_15 => ?_) (fun c_15 => ?_)
  · refine lv_iload_n hx hb dX5_leave_107 rfl (lv_at hl 2 rfl) ?_
    refine lv_iload_n hx hb dX5_leave_108 rfl (lv_at hl 2 rfl) ?_
    refine lv_aload_n hx hb dX5_leave_109 rfl (lv_at hl 0 rfl) ?_
    refine r_geti X S hw5 ob_M 1 ⟨rfl, by decide, rfl⟩ rfl (hts (.fieldLink RX5 133 "TermBillModel" "week" "I") (by decide +kernel)) dX5_leave_110 ?_
    refine lv_imul hx hb dX5_leave_113 ?_
    refine lv_bipush (v := 16) hx hb dX5_leave_114 (by decide) ?_
    refine lv_idiv hx hb dX5_leave_116 (by decide) ?_
    refine lv_isub hx hb dX5_leave_117 ?_
    refine lv_istore_n (lv' := [(3, .int ((saM G1 i (aM G1 i)) - (((saM G1 i (aM G1 i)) * (G1 36 1)) / 16))), (0, .ref (ad 36)), (1, .int (nI i)), (2, .int (saM G1 i (aM G1 i)))]) hx hb dX5_leave_118 rfl hl (by decide) rfl (fun ls hl => ?_)
    refine lv_iload_n hx hb dX5_leave_119 rfl (lv_at hl 0 rfl) ?_
    refine lv_istore (lv' := [(4, .int ((saM G1 i (aM G1 i)) - (((saM G1 i (aM G1 i)) * (G1 36 1)) / 16))), (3, .int ((saM G1 i (aM G1 i)) - (((saM G1 i (aM G1 i)) * (G1 36 1)) / 16))), (0, .ref (ad 36)), (1, .int (nI i)), (2, .int (saM G1 i (aM G1 i)))]) hx hb dX5_leave_120 hl (by decide) rfl (fun ls hl => ?_)
    refine lv_iconst (v := 0) hx hb dX5_leave_122 (by decide) ?_
    refine lv_istore (lv' := [(5, .int 0), (4, .int ((saM G1 i (aM G1 i)) - (((saM G1 i (aM G1 i)) * (G1 36 1)) / 16))), (3, .int ((saM G1 i (aM G1 i)) - (((saM G1 i (aM G1 i)) * (G1 36 1)) / 16))), (0, .ref (ad 36)), (1, .int (nI i)), (2, .int (saM G1 i (aM G1 i)))]) hx hb dX5_leave_123 hl (by decide) rfl (fun ls hl => ?_)
    have ebk : (saM G1 i (aM G1 i)) - (((saM G1 i (aM G1 i)) * (G1 36 1)) / 16) = bakI (G1 36 1) (saM G1 i (aM G1 i)) := by unfold bakI; rw [if_pos c_15]
    refine loop3 (bakI (G1 36 1) (saM G1 i (aM G1 i))) (G1, bakI (G1 36 1) (saM G1 i (aM G1 i))) hMG (fun H locs ls S hl => ?_) 18 0 (by omega) (G1, bakI (G1 36 1) (saM G1 i (aM G1 i))) rfl _ _ ls S (by rw [← ebk, nI_0]; exact (lv_sub hl [3, 4, 2, 1, 0] rfl))
    obtain ⟨t9, et9⟩ : ∃ z, z = tkA i 18 (G1, bakI (G1 36 1) (saM G1 i (aM G1 i))) := ⟨_, rfl⟩
    rw [← et9] at S hl
    refine lv_iload_n hx hb dX5_leave_222 rfl (lv_at hl 2 rfl) ?_
    exact r_iret X S hr dX5_leave_223 (Nat.le_of_ble_eq_true rfl) (Nat.le_of_ble_eq_true rfl) (by rw [eG1]; rfl) (by rw [et9, eG1]; rfl)
  · refine lv_iconst (v := 0) hx hb dX5_leave_103 (by decide) ?_
    refine lv_goto (tgt := 118) hx hb dX5_leave_104 (by decide) ?_
    refine lv_istore_n (lv' := [(3, .int 0), (0, .ref (ad 36)), (1, .int (nI i)), (2, .int (saM G1 i (aM G1 i)))]) hx hb dX5_leave_118 rfl hl (by decide) rfl (fun ls hl => ?_)
    refine lv_iload_n hx hb dX5_leave_119 rfl (lv_at hl 0 rfl) ?_
    refine lv_istore (lv' := [(4, .int 0), (3, .int 0), (0, .ref (ad 36)), (1, .int (nI i)), (2, .int (saM G1 i (aM G1 i)))]) hx hb dX5_leave_120 hl (by decide) rfl (fun ls hl => ?_)
    refine lv_iconst (v := 0) hx hb dX5_leave_122 (by decide) ?_
    refine lv_istore (lv' := [(5, .int 0), (4, .int 0), (3, .int 0), (0, .ref (ad 36)), (1, .int (nI i)), (2, .int (saM G1 i (aM G1 i)))]) hx hb dX5_leave_123 hl (by decide) rfl (fun ls hl => ?_)
    have ebk : 0 = bakI (G1 36 1) (saM G1 i (aM G1 i)) := by unfold bakI; rw [if_neg c_15]
    refine loop3 (bakI (G1 36 1) (saM G1 i (aM G1 i))) (G1, bakI (G1 36 1) (saM G1 i (aM G1 i))) hMG (fun H locs ls S hl => ?_) 18 0 (by omega) (G1, bakI (G1 36 1) (saM G1 i (aM G1 i))) rfl _ _ ls S (by rw [← ebk, nI_0]; exact (lv_sub hl [3, 4, 2, 1, 0] rfl))
    obtain ⟨t9, et9⟩ : ∃ z, z = tkA i 18 (G1, bakI (G1 36 1) (saM G1 i (aM G1 i))) := ⟨_, rfl⟩
    rw [← et9] at S hl
    refine lv_iload_n hx hb dX5_leave_222 rfl (lv_at hl 2 rfl) ?_
    exact r_iret X S hr dX5_leave_223 (Nat.le_of_ble_eq_true rfl) (Nat.le_of_ble_eq_true rfl) (by rw [eG1]; rfl) (by rw [et9, eG1]; rfl)

set_option maxHeartbeats 1000000 in
set_option maxRecDepth 100000 in
theorem e1_X5_leave (l : Launch) (D : va_G) (cA : Nat → ClassId) (ad : Nat → Nat) (sz : Nat) (F : FF) (x : Int32) (h : wi x 0 3 = false) : CI l D cA ad sz yX5_leave wsX5_leave 3 68 0 0 [.ref (ad 36), .int x] F (some (.int 0)) (th F 1) := by
  refine CI_of (own := RX5) (cc := cX5_leave) (maxL := 9) (ret := (some .int)) (by decide +kernel) rfl rfl (Nat.le_of_ble_eq_true rfl) ?_
  intro p e s m below meth c ls X S hr hl
  obtain ⟨⟨hx, hb, hml, hown, hts⟩, hE, hI, hlocks⟩ := id X
  have hl : lv_has ls 9 [(0, .ref (ad 36)), (1, .int x)] := hl
  refine lv_aload_n hx hb dX5_leave_0 rfl (lv_at hl 0 rfl) ?_
  refine lv_iload_n hx hb dX5_leave_1 rfl (lv_at hl 1 rfl) ?_
  refine r_S0 X S (c_X5_isStudent l D cA ad _ F x) (va_cwS 1 hts gX5_leave_X5_isStudent rfl rfl rfl (by decide +kernel) ⟨Nat.le_of_ble_eq_true rfl, Nat.le_of_ble_eq_true rfl⟩) rfl hl.1 rfl (Nat.le_of_ble_eq_true rfl) dX5_leave_2 ⟨Nat.zero_le _, Nat.zero_le _⟩ (fun H locs S => ?_)
  refine lv_if_eq (tgt := 12) hx hb dX5_leave_5 (by decide) (fun _ => ?_) (fun z => False.elim (by rw [h] at z; revert z; decide))
  refine lv_iconst (v := 1) hx hb dX5_leave_12 (by decide) ?_
  refine r_V0 X S (c_X5_holdsn l D cA ad _ F 1 (by decide)) ob_M rfl (cwV 1 hts gX5_leave_X5_holds rfl rfl rfl (by decide +kernel) ⟨Nat.le_of_ble_eq_true rfl, Nat.le_of_ble_eq_true rfl⟩) rfl hl.1 rfl (Nat.le_of_ble_eq_true rfl) dX5_leave_13 ⟨Nat.zero_le _, Nat.zero_le _⟩ (fun H locs S => ?_)
  obtain ⟨F_1, eF_1⟩ : ∃ z, z = u2 F 36 0 1 := ⟨_, rfl⟩
  rw [← eF_1] at S
  refine lv_if_ne (tgt := 21) hx hb dX5_leave_16 (by decide) (fun z => False.elim (by first | exact absurd z (by decide) | exact absurd (by decide) z)) (fun _ => ?_)
  refine lv_iconst (v := 0) hx hb dX5_leave_19 (by decide) ?_
  exact r_iret X S hr dX5_leave_20 (Nat.le_of_ble_eq_true rfl) (Nat.le_of_ble_eq_true rfl) (by rfl) (by simp only [th, eF_1])

set_option maxHeartbeats 1000000 in
set_option maxRecDepth 100000 in
theorem c_X5_closeWeek1 (l : Launch) (D : va_G) (cA : Nat → ClassId) (ad : Nat → Nat) (sz : Nat) (F : FF) (h : ¬ F 36 1 = 15) : CI l D cA ad sz yX5_closeWeek wsX5_closeWeek 8 187 0 0 [.ref (ad 36)] F (some (.int (fl4 (mw1 F) 36 1))) (fl4 (mw1 F)) := by
  refine CI_of (own := RX5) (cc := cX5_closeWeek) (maxL := 2) (ret := (some .int)) (by decide +kernel) rfl rfl (Nat.le_of_ble_eq_true rfl) ?_
  intro p e s m below meth c ls X S hr hl
  obtain ⟨⟨hx, hb, hml, hown, hts⟩, hE, hI, hlocks⟩ := id X
  have hl : lv_has ls 2 [(0, .ref (ad 36))] := hl
  have hw5 : ∀ w ∈ wsX50, w.before _ s = true := fun w h => hts w ((by decide +kernel : ∀ w ∈ wsX50, w ∈ wsX5_closeWeek) w h)
  refine lv_aload_n hx hb dX5_closeWeek_0 rfl (lv_at hl 0 rfl) ?_
  refine lv_aload_n hx hb dX5_closeWeek_1 rfl (lv_at hl 0 rfl) ?_
  refine r_geti X S hw5 ob_M 1 ⟨rfl, by decide, rfl⟩ rfl (hts (.fieldLink RX5 133 "TermBillModel" "week" "I") (by decide +kernel)) dX5_closeWeek_2 ?_
  refine lv_bipush (v := 15) hx hb dX5_closeWeek_5 (by decide) ?_
  refine lv_icmp_ne (tgt := 23) hx hb dX5_closeWeek_7 (by decide) (fun _ => ?_) (fun z => False.elim (h z))
  refine lv_iconst (v := 0) hx hb dX5_closeWeek_23 (by decide) ?_
  refine r_V0 X S (c_X5_holds0 l D cA ad _ F) ob_M rfl (cwV 1 hts gX5_closeWeek_X5_holds rfl rfl rfl (by decide +kernel) ⟨Nat.le_of_ble_eq_true rfl, Nat.le_of_ble_eq_true rfl⟩) rfl hl.1 rfl (Nat.le_of_ble_eq_true rfl) dX5_closeWeek_24 ⟨Nat.zero_le _, Nat.zero_le _⟩ (fun H locs S => ?_)
  obtain ⟨F_1, eF_1⟩ : ∃ z, z = u2 F 36 0 0 := ⟨_, rfl⟩
  rw [← eF_1] at S
  refine lv_if_ne (tgt := 32) hx hb dX5_closeWeek_27 (by decide) (fun _ => ?_) (fun z => False.elim (by first | exact absurd z (by decide) | exact absurd (by decide) z))
  refine lv_aload_n hx hb dX5_closeWeek_32 rfl (lv_at hl 0 rfl) ?_
  refine r_geti X S hw5 ob_M 1 ⟨rfl, by decide, rfl⟩ rfl (hts (.fieldLink RX5 133 "TermBillModel" "week" "I") (by decide +kernel)) dX5_closeWeek_33 ?_
  rw [show F_1 36 1 = F 36 1 from (by rw [eF_1, u2_ne _ _ (by omega)])] 
  refine lv_bipush (v := 15) hx hb dX5_closeWeek_36 (by decide) ?_
  refine lv_icmp_ne (tgt := 48) hx hb dX5_closeWeek_38 (by decide) (fun _ => ?_) (fun z => False.elim (h z))
  refine lv_aload_n hx hb dX5_closeWeek_48 rfl (lv_at hl 0 rfl) ?_
  refine lv_dup hx hb dX5_closeWeek_49 rfl ?_
  refine r_geti X S hw5 ob_M 1 ⟨rfl, by decide, rfl⟩ rfl (hts (.fieldLink RX5 133 "TermBillModel" "week" "I") (by decide +kernel)) dX5_closeWeek_50 ?_
  rw [show F_1 36 1 = F 36 1 from (by rw [eF_1, u2_ne _ _ (by omega)])] 
  refine lv_iconst (v := 1) hx hb dX5_closeWeek_53 (by decide) ?_
  refine lv_iadd hx hb dX5_closeWeek_54 ?_
  refine r_puti X S hw5 ob_M 1 ⟨rfl, by decide, rfl⟩ rfl (hts (.fieldLink RX5 133 "TermBillModel" "week" "I") (by decide +kernel)) tyX5 tyX5_ok nmX5 rfl rfl dX5_closeWeek_55 (fun H locs S => ?_)
  obtain ⟨F_2, eF_2⟩ : ∃ z, z = u2 F_1 36 1 ((F 36 1) + 1) := ⟨_, rfl⟩
  rw [← eF_2] at S
  refine lv_iconst (v := 0) hx hb dX5_closeWeek_58 (by decide) ?_
  refine lv_istore_n (lv' := [(1, .int 0), (0, .ref (ad 36))]) hx hb dX5_closeWeek_59 rfl hl (by decide) rfl (fun ls hl => ?_)
  refine lv_iload_n hx hb dX5_closeWeek_60 rfl (lv_at hl 0 rfl) ?_
  refine lv_iconst (v := 4) hx hb dX5_closeWeek_61 (by decide) ?_
  refine lv_icmp_ge (tgt := 76) hx hb dX5_closeWeek_62 (by decide) (fun z => False.elim (by first | exact absurd z (by decide) | exact absurd (by decide) z)) (fun _ => ?_)
  refine lv_aload_n hx hb dX5_closeWeek_65 rfl (lv_at hl 1 rfl) ?_
  refine lv_iload_n hx hb dX5_closeWeek_66 rfl (lv_at hl 0 rfl) ?_
  refine r_V0 X S (c_X5_falls l D cA ad _ F_2 0 (by decide)) ob_M rfl (cwV 1 hts gX5_closeWeek_X5_falls rfl rfl rfl (by decide +kernel) ⟨Nat.le_of_ble_eq_true rfl, Nat.le_of_ble_eq_true rfl⟩) rfl hl.1 rfl (Nat.le_of_ble_eq_true rfl) dX5_closeWeek_67 ⟨Nat.zero_le _, Nat.zero_le _⟩ (fun H locs S => ?_)
  obtain ⟨F_3, eF_3⟩ : ∃ z, z = flM F_2 0 := ⟨_, rfl⟩
  rw [← eF_3] at S
  refine lv_iinc (v := 1) (lv' := [(1, .int 1), (0, .ref (ad 36))]) hx hb dX5_closeWeek_70 hl (k := 0) rfl (by decide) (by decide) rfl (fun ls hl => ?_)
  refine lv_goto (tgt := 60) hx hb dX5_closeWeek_73 (by decide) ?_
  refine lv_iload_n hx hb dX5_closeWeek_60 rfl (lv_at hl 0 rfl) ?_
  refine lv_iconst (v := 4) hx hb dX5_closeWeek_61 (by decide) ?_
  refine lv_icmp_ge (tgt := 76) hx hb dX5_closeWeek_62 (by decide) (fun z => False.elim (by first | exact absurd z (by decide) | exact absurd (by decide) z)) (fun _ => ?_)
  refine lv_aload_n hx hb dX5_closeWeek_65 rfl (lv_at hl 1 rfl) ?_
  refine lv_iload_n hx hb dX5_closeWeek_66 rfl (lv_at hl 0 rfl) ?_
  refine r_V0 X S (c_X5_falls l D cA ad _ F_3 1 (by decide)) ob_M rfl (cwV 1 hts gX5_closeWeek_X5_falls rfl rfl rfl (by decide +kernel) ⟨Nat.le_of_ble_eq_true rfl, Nat.le_of_ble_eq_true rfl⟩) rfl hl.1 rfl (Nat.le_of_ble_eq_true rfl) dX5_closeWeek_67 ⟨Nat.zero_le _, Nat.zero_le _⟩ (fun H locs S => ?_)
  obtain ⟨F_4, eF_4⟩ : ∃ z, z = flM F_3 1 := ⟨_, rfl⟩
  rw [← eF_4] at S
  refine lv_iinc (v := 2) (lv' := [(1, .int 2), (0, .ref (ad 36))]) hx hb dX5_closeWeek_70 hl (k := 0) rfl (by decide) (by decide) rfl (fun ls hl => ?_)
  refine lv_goto (tgt := 60) hx hb dX5_closeWeek_73 (by decide) ?_
  refine lv_iload_n hx hb dX5_closeWeek_60 rfl (lv_at hl 0 rfl) ?_
  refine lv_iconst (v := 4) hx hb dX5_closeWeek_61 (by decide) ?_
  refine lv_icmp_ge (tgt := 76) hx hb dX5_closeWeek_62 (by decide) (fun z => False.elim (by first | exact absurd z (by decide) | exact absurd (by decide) z)) (fun _ => ?_)
  refine lv_aload_n hx hb dX5_closeWeek_65 rfl (lv_at hl 1 rfl) ?_
  refine lv_iload_n hx hb dX5_closeWeek_66 rfl (lv_at hl 0 rfl) ?_
  refine r_V0 X S (c_X5_falls l D cA ad _ F_4 2 (by decide)) ob_M rfl (cwV 1 hts gX5_closeWeek_X5_falls rfl rfl rfl (by decide +kernel) ⟨Nat.le_of_ble_eq_true rfl, Nat.le_of_ble_eq_true rfl⟩) rfl hl.1 rfl (Nat.le_of_ble_eq_true rfl) dX5_closeWeek_67 ⟨Nat.zero_le _, Nat.zero_le _⟩ (fun H locs S => ?_)
  obtain ⟨F_5, eF_5⟩ : ∃ z, z = flM F_4 2 := ⟨_, rfl⟩
  rw [← eF_5] at S
  refine lv_iinc (v := 3) (lv' := [(1, .int 3), (0, .ref (ad 36))]) hx hb dX5_closeWeek_70 hl (k := 0) rfl (by decide) (by decide) rfl (fun ls hl => ?_)
  refine lv_goto (tgt := 60) hx hb dX5_closeWeek_73 (by decide) ?_
  refine lv_iload_n hx hb dX5_closeWeek_60 rfl (lv_at hl 0 rfl) ?_
  refine lv_iconst (v := 4) hx hb dX5_closeWeek_61 (by decide) ?_
  refine lv_icmp_ge (tgt := 76) hx hb dX5_closeWeek_62 (by decide) (fun z => False.elim (by first | exact absurd z (by decide) | exact absurd (by decide) z)) (fun _ => ?_)
  refine lv_aload_n hx hb dX5_closeWeek_65 rfl (lv_at hl 1 rfl) ?_
  refine lv_iload_n hx hb dX5_closeWeek_66 rfl (lv_at hl 0 rfl) ?_
  refine r_V0 X S (c_X5_falls l D cA ad _ F_5 3 (by decide)) ob_M rfl (cwV 1 hts gX5_closeWeek_X5_falls rfl rfl rfl (by decide +kernel) ⟨Nat.le_of_ble_eq_true rfl, Nat.le_of_ble_eq_true rfl⟩) rfl hl.1 rfl (Nat.le_of_ble_eq_true rfl) dX5_closeWeek_67 ⟨Nat.zero_le _, Nat.zero_le _⟩ (fun H locs S => ?_)
  obtain ⟨F_6, eF_6⟩ : ∃ z, z = flM F_5 3 := ⟨_, rfl⟩
  rw [← eF_6] at S
  refine lv_iinc (v := 4) (lv' := [(1, .int 4), (0, .ref (ad 36))]) hx hb dX5_closeWeek_70 hl (k := 0) rfl (by decide) (by decide) rfl (fun ls hl => ?_)
  refine lv_goto (tgt := 60) hx hb dX5_closeWeek_73 (by decide) ?_
  refine lv_iload_n hx hb dX5_closeWeek_60 rfl (lv_at hl 0 rfl) ?_
  refine lv_iconst (v := 4) hx hb dX5_closeWeek_61 (by decide) ?_
  refine lv_icmp_ge (tgt := 76) hx hb dX5_closeWeek_62 (by decide) (fun _ => ?_) (fun z => False.elim (by first | exact absurd z (by decide) | exact absurd (by decide) z))
  refine lv_aload_n hx hb dX5_closeWeek_76 rfl (lv_at hl 1 rfl) ?_
  refine r_geti X S hw5 ob_M 1 ⟨rfl, by decide, rfl⟩ rfl (hts (.fieldLink RX5 133 "TermBillModel" "week" "I") (by decide +kernel)) dX5_closeWeek_77 ?_
  exact r_iret X S hr dX5_closeWeek_80 (Nat.le_of_ble_eq_true rfl) (Nat.le_of_ble_eq_true rfl) (by unfold fl4 mw1; simp only [th, eF_6, eF_5, eF_4, eF_3, eF_2, eF_1]) (by unfold fl4 mw1; simp only [th, eF_6, eF_5, eF_4, eF_3, eF_2, eF_1])

set_option maxHeartbeats 1000000 in
set_option maxRecDepth 100000 in
theorem c_X5_closeWeek2 (l : Launch) (D : va_G) (cA : Nat → ClassId) (ad : Nat → Nat) (sz : Nat) (F : FF) (hMM : ∀ i, i < 4 → OKM F i) (h1 : F 36 1 = 15) (h2 : ¬ F 36 2 = 9) : CI l D cA ad sz yX5_closeWeek wsX5_closeWeek 8 187 0 0 [.ref (ad 36)] F (some (.int (fl4 (enM (th F 0)) 36 1))) (fl4 (enM (th F 0))) := by
  refine CI_of (own := RX5) (cc := cX5_closeWeek) (maxL := 2) (ret := (some .int)) (by decide +kernel) rfl rfl (Nat.le_of_ble_eq_true rfl) ?_
  intro p e s m below meth c ls X S hr hl
  obtain ⟨⟨hx, hb, hml, hown, hts⟩, hE, hI, hlocks⟩ := id X
  have hl : lv_has ls 2 [(0, .ref (ad 36))] := hl
  have hw5 : ∀ w ∈ wsX50, w.before _ s = true := fun w h => hts w ((by decide +kernel : ∀ w ∈ wsX50, w ∈ wsX5_closeWeek) w h)
  refine lv_aload_n hx hb dX5_closeWeek_0 rfl (lv_at hl 0 rfl) ?_
  refine lv_aload_n hx hb dX5_closeWeek_1 rfl (lv_at hl 0 rfl) ?_
  refine r_geti X S hw5 ob_M 1 ⟨rfl, by decide, rfl⟩ rfl (hts (.fieldLink RX5 133 "TermBillModel" "week" "I") (by decide +kernel)) dX5_closeWeek_2 ?_
  refine lv_bipush (v := 15) hx hb dX5_closeWeek_5 (by decide) ?_
  refine lv_icmp_ne (tgt := 23) hx hb dX5_closeWeek_7 (by decide) (fun z => False.elim (z h1)) (fun _ => ?_)
  refine lv_aload_n hx hb dX5_closeWeek_10 rfl (lv_at hl 0 rfl) ?_
  refine r_geti X S hw5 ob_M 2 ⟨rfl, by decide, rfl⟩ rfl (hts (.fieldLink RX5 144 "TermBillModel" "term" "I") (by decide +kernel)) dX5_closeWeek_11 ?_
  refine lv_bipush (v := 9) hx hb dX5_closeWeek_14 (by decide) ?_
  refine lv_icmp_ne (tgt := 23) hx hb dX5_closeWeek_16 (by decide) (fun _ => ?_) (fun z => False.elim (h2 z))
  refine lv_iconst (v := 0) hx hb dX5_closeWeek_23 (by decide) ?_
  refine r_V0 X S (c_X5_holds0 l D cA ad _ F) ob_M rfl (cwV 1 hts gX5_closeWeek_X5_holds rfl rfl rfl (by decide +kernel) ⟨Nat.le_of_ble_eq_true rfl, Nat.le_of_ble_eq_true rfl⟩) rfl hl.1 rfl (Nat.le_of_ble_eq_true rfl) dX5_closeWeek_24 ⟨Nat.zero_le _, Nat.zero_le _⟩ (fun H locs S => ?_)
  obtain ⟨F_1, eF_1⟩ : ∃ z, z = u2 F 36 0 0 := ⟨_, rfl⟩
  rw [← eF_1] at S
  refine lv_if_ne (tgt := 32) hx hb dX5_closeWeek_27 (by decide) (fun _ => ?_) (fun z => False.elim (by first | exact absurd z (by decide) | exact absurd (by decide) z))
  refine lv_aload_n hx hb dX5_closeWeek_32 rfl (lv_at hl 0 rfl) ?_
  refine r_geti X S hw5 ob_M 1 ⟨rfl, by decide, rfl⟩ rfl (hts (.fieldLink RX5 133 "TermBillModel" "week" "I") (by decide +kernel)) dX5_closeWeek_33 ?_
  rw [show F_1 36 1 = F 36 1 from (by rw [eF_1, u2_ne _ _ (by omega)])] 
  refine lv_bipush (v := 15) hx hb dX5_closeWeek_36 (by decide) ?_
  refine lv_icmp_ne (tgt := 48) hx hb dX5_closeWeek_38 (by decide) (fun z => False.elim (z h1)) (fun _ => ?_)
  refine lv_aload_n hx hb dX5_closeWeek_41 rfl (lv_at hl 0 rfl) ?_
  refine r_V0 X S (c_X5_endsTerm l D cA ad _ F_1 (fun i hi => (by rw [eF_1]; exact OKM_u2 (hMM i hi) (by decide) (by decide) (by decide)))) ob_M rfl (cwV 0 hts gX5_closeWeek_X5_endsTerm rfl rfl rfl (by decide +kernel) ⟨Nat.le_of_ble_eq_true rfl, Nat.le_of_ble_eq_true rfl⟩) rfl hl.1 rfl (Nat.le_of_ble_eq_true rfl) dX5_closeWeek_42 ⟨Nat.zero_le _, Nat.zero_le _⟩ (fun H locs S => ?_)
  obtain ⟨F_2, eF_2⟩ : ∃ z, z = enM F_1 := ⟨_, rfl⟩
  rw [← eF_2] at S
  refine lv_goto (tgt := 58) hx hb dX5_closeWeek_45 (by decide) ?_
  refine lv_iconst (v := 0) hx hb dX5_closeWeek_58 (by decide) ?_
  refine lv_istore_n (lv' := [(1, .int 0), (0, .ref (ad 36))]) hx hb dX5_closeWeek_59 rfl hl (by decide) rfl (fun ls hl => ?_)
  refine lv_iload_n hx hb dX5_closeWeek_60 rfl (lv_at hl 0 rfl) ?_
  refine lv_iconst (v := 4) hx hb dX5_closeWeek_61 (by decide) ?_
  refine lv_icmp_ge (tgt := 76) hx hb dX5_closeWeek_62 (by decide) (fun z => False.elim (by first | exact absurd z (by decide) | exact absurd (by decide) z)) (fun _ => ?_)
  refine lv_aload_n hx hb dX5_closeWeek_65 rfl (lv_at hl 1 rfl) ?_
  refine lv_iload_n hx hb dX5_closeWeek_66 rfl (lv_at hl 0 rfl) ?_
  refine r_V0 X S (c_X5_falls l D cA ad _ F_2 0 (by decide)) ob_M rfl (cwV 1 hts gX5_closeWeek_X5_falls rfl rfl rfl (by decide +kernel) ⟨Nat.le_of_ble_eq_true rfl, Nat.le_of_ble_eq_true rfl⟩) rfl hl.1 rfl (Nat.le_of_ble_eq_true rfl) dX5_closeWeek_67 ⟨Nat.zero_le _, Nat.zero_le _⟩ (fun H locs S => ?_)
  obtain ⟨F_3, eF_3⟩ : ∃ z, z = flM F_2 0 := ⟨_, rfl⟩
  rw [← eF_3] at S
  refine lv_iinc (v := 1) (lv' := [(1, .int 1), (0, .ref (ad 36))]) hx hb dX5_closeWeek_70 hl (k := 0) rfl (by decide) (by decide) rfl (fun ls hl => ?_)
  refine lv_goto (tgt := 60) hx hb dX5_closeWeek_73 (by decide) ?_
  refine lv_iload_n hx hb dX5_closeWeek_60 rfl (lv_at hl 0 rfl) ?_
  refine lv_iconst (v := 4) hx hb dX5_closeWeek_61 (by decide) ?_
  refine lv_icmp_ge (tgt := 76) hx hb dX5_closeWeek_62 (by decide) (fun z => False.elim (by first | exact absurd z (by decide) | exact absurd (by decide) z)) (fun _ => ?_)
  refine lv_aload_n hx hb dX5_closeWeek_65 rfl (lv_at hl 1 rfl) ?_
  refine lv_iload_n hx hb dX5_closeWeek_66 rfl (lv_at hl 0 rfl) ?_
  refine r_V0 X S (c_X5_falls l D cA ad _ F_3 1 (by decide)) ob_M rfl (cwV 1 hts gX5_closeWeek_X5_falls rfl rfl rfl (by decide +kernel) ⟨Nat.le_of_ble_eq_true rfl, Nat.le_of_ble_eq_true rfl⟩) rfl hl.1 rfl (Nat.le_of_ble_eq_true rfl) dX5_closeWeek_67 ⟨Nat.zero_le _, Nat.zero_le _⟩ (fun H locs S => ?_)
  obtain ⟨F_4, eF_4⟩ : ∃ z, z = flM F_3 1 := ⟨_, rfl⟩
  rw [← eF_4] at S
  refine lv_iinc (v := 2) (lv' := [(1, .int 2), (0, .ref (ad 36))]) hx hb dX5_closeWeek_70 hl (k := 0) rfl (by decide) (by decide) rfl (fun ls hl => ?_)
  refine lv_goto (tgt := 60) hx hb dX5_closeWeek_73 (by decide) ?_
  refine lv_iload_n hx hb dX5_closeWeek_60 rfl (lv_at hl 0 rfl) ?_
  refine lv_iconst (v := 4) hx hb dX5_closeWeek_61 (by decide) ?_
  refine lv_icmp_ge (tgt := 76) hx hb dX5_closeWeek_62 (by decide) (fun z => False.elim (by first | exact absurd z (by decide) | exact absurd (by decide) z)) (fun _ => ?_)
  refine lv_aload_n hx hb dX5_closeWeek_65 rfl (lv_at hl 1 rfl) ?_
  refine lv_iload_n hx hb dX5_closeWeek_66 rfl (lv_at hl 0 rfl) ?_
  refine r_V0 X S (c_X5_falls l D cA ad _ F_4 2 (by decide)) ob_M rfl (cwV 1 hts gX5_closeWeek_X5_falls rfl rfl rfl (by decide +kernel) ⟨Nat.le_of_ble_eq_true rfl, Nat.le_of_ble_eq_true rfl⟩) rfl hl.1 rfl (Nat.le_of_ble_eq_true rfl) dX5_closeWeek_67 ⟨Nat.zero_le _, Nat.zero_le _⟩ (fun H locs S => ?_)
  obtain ⟨F_5, eF_5⟩ : ∃ z, z = flM F_4 2 := ⟨_, rfl⟩
  rw [← eF_5] at S
  refine lv_iinc (v := 3) (lv' := [(1, .int 3), (0, .ref (ad 36))]) hx hb dX5_closeWeek_70 hl (k := 0) rfl (by decide) (by decide) rfl (fun ls hl => ?_)
  refine lv_goto (tgt := 60) hx hb dX5_closeWeek_73 (by decide) ?_
  refine lv_iload_n hx hb dX5_closeWeek_60 rfl (lv_at hl 0 rfl) ?_
  refine lv_iconst (v := 4) hx hb dX5_closeWeek_61 (by decide) ?_
  refine lv_icmp_ge (tgt := 76) hx hb dX5_closeWeek_62 (by decide) (fun z => False.elim (by first | exact absurd z (by decide) | exact absurd (by decide) z)) (fun _ => ?_)
  refine lv_aload_n hx hb dX5_closeWeek_65 rfl (lv_at hl 1 rfl) ?_
  refine lv_iload_n hx hb dX5_closeWeek_66 rfl (lv_at hl 0 rfl) ?_
  refine r_V0 X S (c_X5_falls l D cA ad _ F_5 3 (by decide)) ob_M rfl (cwV 1 hts gX5_closeWeek_X5_falls rfl rfl rfl (by decide +kernel) ⟨Nat.le_of_ble_eq_true rfl, Nat.le_of_ble_eq_true rfl⟩) rfl hl.1 rfl (Nat.le_of_ble_eq_true rfl) dX5_closeWeek_67 ⟨Nat.zero_le _, Nat.zero_le _⟩ (fun H locs S => ?_)
  obtain ⟨F_6, eF_6⟩ : ∃ z, z = flM F_5 3 := ⟨_, rfl⟩
  rw [← eF_6] at S
  refine lv_iinc (v := 4) (lv' := [(1, .int 4), (0, .ref (ad 36))]) hx hb dX5_closeWeek_70 hl (k := 0) rfl (by decide) (by decide) rfl (fun ls hl => ?_)
  refine lv_goto (tgt := 60) hx hb dX5_closeWeek_73 (by decide) ?_
  refine lv_iload_n hx hb dX5_closeWeek_60 rfl (lv_at hl 0 rfl) ?_
  refine lv_iconst (v := 4) hx hb dX5_closeWeek_61 (by decide) ?_
  refine lv_icmp_ge (tgt := 76) hx hb dX5_closeWeek_62 (by decide) (fun _ => ?_) (fun z => False.elim (by first | exact absurd z (by decide) | exact absurd (by decide) z))
  refine lv_aload_n hx hb dX5_closeWeek_76 rfl (lv_at hl 1 rfl) ?_
  refine r_geti X S hw5 ob_M 1 ⟨rfl, by decide, rfl⟩ rfl (hts (.fieldLink RX5 133 "TermBillModel" "week" "I") (by decide +kernel)) dX5_closeWeek_77 ?_
  exact r_iret X S hr dX5_closeWeek_80 (Nat.le_of_ble_eq_true rfl) (Nat.le_of_ble_eq_true rfl) (by unfold fl4; simp only [th, eF_6, eF_5, eF_4, eF_3, eF_2, eF_1]) (by unfold fl4; simp only [th, eF_6, eF_5, eF_4, eF_3, eF_2, eF_1])

set_option maxHeartbeats 1000000 in
set_option maxRecDepth 100000 in
theorem e1_X5_closeWeek (l : Launch) (D : va_G) (cA : Nat → ClassId) (ad : Nat → Nat) (sz : Nat) (F : FF) (h1 : F 36 1 = 15) (h2 : F 36 2 = 9) : CI l D cA ad sz yX5_closeWeek wsX5_closeWeek 8 187 0 0 [.ref (ad 36)] F (some (.int 0)) (th F 1) := by
  refine CI_of (own := RX5) (cc := cX5_closeWeek) (maxL := 2) (ret := (some .int)) (by decide +kernel) rfl rfl (Nat.le_of_ble_eq_true rfl) ?_
  intro p e s m below meth c ls X S hr hl
  obtain ⟨⟨hx, hb, hml, hown, hts⟩, hE, hI, hlocks⟩ := id X
  have hl : lv_has ls 2 [(0, .ref (ad 36))] := hl
  have hw5 : ∀ w ∈ wsX50, w.before _ s = true := fun w h => hts w ((by decide +kernel : ∀ w ∈ wsX50, w ∈ wsX5_closeWeek) w h)
  refine lv_aload_n hx hb dX5_closeWeek_0 rfl (lv_at hl 0 rfl) ?_
  refine lv_aload_n hx hb dX5_closeWeek_1 rfl (lv_at hl 0 rfl) ?_
  refine r_geti X S hw5 ob_M 1 ⟨rfl, by decide, rfl⟩ rfl (hts (.fieldLink RX5 133 "TermBillModel" "week" "I") (by decide +kernel)) dX5_closeWeek_2 ?_
  refine lv_bipush (v := 15) hx hb dX5_closeWeek_5 (by decide) ?_
  refine lv_icmp_ne (tgt := 23) hx hb dX5_closeWeek_7 (by decide) (fun z => False.elim (z h1)) (fun _ => ?_)
  refine lv_aload_n hx hb dX5_closeWeek_10 rfl (lv_at hl 0 rfl) ?_
  refine r_geti X S hw5 ob_M 2 ⟨rfl, by decide, rfl⟩ rfl (hts (.fieldLink RX5 144 "TermBillModel" "term" "I") (by decide +kernel)) dX5_closeWeek_11 ?_
  refine lv_bipush (v := 9) hx hb dX5_closeWeek_14 (by decide) ?_
  refine lv_icmp_ne (tgt := 23) hx hb dX5_closeWeek_16 (by decide) (fun z => False.elim (z h2)) (fun _ => ?_)
  refine lv_iconst (v := 1) hx hb dX5_closeWeek_19 (by decide) ?_
  refine lv_goto (tgt := 24) hx hb dX5_closeWeek_20 (by decide) ?_
  refine r_V0 X S (c_X5_holdsn l D cA ad _ F 1 (by decide)) ob_M rfl (cwV 1 hts gX5_closeWeek_X5_holds rfl rfl rfl (by decide +kernel) ⟨Nat.le_of_ble_eq_true rfl, Nat.le_of_ble_eq_true rfl⟩) rfl hl.1 rfl (Nat.le_of_ble_eq_true rfl) dX5_closeWeek_24 ⟨Nat.zero_le _, Nat.zero_le _⟩ (fun H locs S => ?_)
  obtain ⟨F_1, eF_1⟩ : ∃ z, z = u2 F 36 0 1 := ⟨_, rfl⟩
  rw [← eF_1] at S
  refine lv_if_ne (tgt := 32) hx hb dX5_closeWeek_27 (by decide) (fun z => False.elim (by first | exact absurd z (by decide) | exact absurd (by decide) z)) (fun _ => ?_)
  refine lv_iconst (v := 0) hx hb dX5_closeWeek_30 (by decide) ?_
  exact r_iret X S hr dX5_closeWeek_31 (Nat.le_of_ble_eq_true rfl) (Nat.le_of_ble_eq_true rfl) (by rfl) (by simp only [th, eF_1])

set_option maxHeartbeats 1000000 in
set_option maxRecDepth 100000 in
theorem c_X5_week (l : Launch) (D : va_G) (cA : Nat → ClassId) (ad : Nat → Nat) (sz : Nat) (F : FF) : CI l D cA ad sz yX5_week wsX5_week 0 0 0 0 [.ref (ad 36)] F (some (.int (th F 0 36 1))) (th F 0) := by
  refine CI_of (own := RX5) (cc := cX5_week) (maxL := 1) (ret := (some .int)) (by decide +kernel) rfl rfl (Nat.le_of_ble_eq_true rfl) ?_
  intro p e s m below meth c ls X S hr hl
  obtain ⟨⟨hx, hb, hml, hown, hts⟩, hE, hI, hlocks⟩ := id X
  have hl : lv_has ls 1 [(0, .ref (ad 36))] := hl
  have hw5 : ∀ w ∈ wsX50, w.before _ s = true := fun w h => hts w ((by decide +kernel : ∀ w ∈ wsX50, w ∈ wsX5_week) w h)
  refine lv_aload_n hx hb dX5_week_0 rfl (lv_at hl 0 rfl) ?_
  refine lv_iconst (v := 0) hx hb dX5_week_1 (by decide) ?_
  refine r_puti X S hw5 ob_M 0 ⟨rfl, by decide, rfl⟩ rfl (hts (.fieldLink RX5 87 "TermBillModel" "thrown" "I") (by decide +kernel)) tyX5 tyX5_ok nmX5 rfl rfl dX5_week_2 (fun H locs S => ?_)
  obtain ⟨F_1, eF_1⟩ : ∃ z, z = u2 F 36 0 0 := ⟨_, rfl⟩
  rw [← eF_1] at S
  refine lv_aload_n hx hb dX5_week_5 rfl (lv_at hl 0 rfl) ?_
  refine r_geti X S hw5 ob_M 1 ⟨rfl, by decide, rfl⟩ rfl (hts (.fieldLink RX5 133 "TermBillModel" "week" "I") (by decide +kernel)) dX5_week_6 ?_
  exact r_iret X S hr dX5_week_9 (Nat.le_of_ble_eq_true rfl) (Nat.le_of_ble_eq_true rfl) (by simp only [th, eF_1]) (by simp only [th, eF_1])

set_option maxHeartbeats 1000000 in
set_option maxRecDepth 100000 in
theorem c_X5_term (l : Launch) (D : va_G) (cA : Nat → ClassId) (ad : Nat → Nat) (sz : Nat) (F : FF) : CI l D cA ad sz yX5_term wsX5_term 0 0 0 0 [.ref (ad 36)] F (some (.int (th F 0 36 2))) (th F 0) := by
  refine CI_of (own := RX5) (cc := cX5_term) (maxL := 1) (ret := (some .int)) (by decide +kernel) rfl rfl (Nat.le_of_ble_eq_true rfl) ?_
  intro p e s m below meth c ls X S hr hl
  obtain ⟨⟨hx, hb, hml, hown, hts⟩, hE, hI, hlocks⟩ := id X
  have hl : lv_has ls 1 [(0, .ref (ad 36))] := hl
  have hw5 : ∀ w ∈ wsX50, w.before _ s = true := fun w h => hts w ((by decide +kernel : ∀ w ∈ wsX50, w ∈ wsX5_term) w h)
  refine lv_aload_n hx hb dX5_term_0 rfl (lv_at hl 0 rfl) ?_
  refine lv_iconst (v := 0) hx hb dX5_term_1 (by decide) ?_
  refine r_puti X S hw5 ob_M 0 ⟨rfl, by decide, rfl⟩ rfl (hts (.fieldLink RX5 87 "TermBillModel" "thrown" "I") (by decide +kernel)) tyX5 tyX5_ok nmX5 rfl rfl dX5_term_2 (fun H locs S => ?_)
  obtain ⟨F_1, eF_1⟩ : ∃ z, z = u2 F 36 0 0 := ⟨_, rfl⟩
  rw [← eF_1] at S
  refine lv_aload_n hx hb dX5_term_5 rfl (lv_at hl 0 rfl) ?_
  refine r_geti X S hw5 ob_M 2 ⟨rfl, by decide, rfl⟩ rfl (hts (.fieldLink RX5 144 "TermBillModel" "term" "I") (by decide +kernel)) dX5_term_6 ?_
  exact r_iret X S hr dX5_term_9 (Nat.le_of_ble_eq_true rfl) (Nat.le_of_ble_eq_true rfl) (by simp only [th, eF_1]) (by simp only [th, eF_1])

set_option maxHeartbeats 1000000 in
set_option maxRecDepth 100000 in
theorem c_X5_credits (l : Launch) (D : va_G) (cA : Nat → ClassId) (ad : Nat → Nat) (sz : Nat) (F : FF) (i : Nat) (hi : i < 4) (hM : OKM F i) : CI l D cA ad sz yX5_credits wsX5_credits 2 42 0 0 [.ref (ad 36), .int (nI i)] F (some (.int (mcr (th F 0) i (tM (th F 0) i)))) (th F 0) := by
  refine CI_of (own := RX5) (cc := cX5_credits) (maxL := 2) (ret := (some .int)) (by decide +kernel) rfl rfl (Nat.le_of_ble_eq_true rfl) ?_
  intro p e s m below meth c ls X S hr hl
  obtain ⟨⟨hx, hb, hml, hown, hts⟩, hE, hI, hlocks⟩ := id X
  have hl : lv_has ls 2 [(0, .ref (ad 36)), (1, .int (nI i))] := hl
  refine lv_aload_n hx hb dX5_credits_0 rfl (lv_at hl 0 rfl) ?_
  refine lv_iload_n hx hb dX5_credits_1 rfl (lv_at hl 1 rfl) ?_
  refine r_S0 X S (c_X5_isStudent l D cA ad _ F (nI i)) (va_cwS 1 hts gX5_credits_X5_isStudent rfl rfl rfl (by decide +kernel) ⟨Nat.le_of_ble_eq_true rfl, Nat.le_of_ble_eq_true rfl⟩) rfl hl.1 rfl (Nat.le_of_ble_eq_true rfl) dX5_credits_2 ⟨Nat.zero_le _, Nat.zero_le _⟩ (fun H locs S => ?_)
  refine lv_if_eq (tgt := 12) hx hb dX5_credits_5 (by decide) (fun z => False.elim (by rw [(wi4 i hi)] at z; revert z; decide)) (fun _ => ?_)
  refine lv_iconst (v := 0) hx hb dX5_credits_8 (by decide) ?_
  refine lv_goto (tgt := 13) hx hb dX5_credits_9 (by decide) ?_
  refine r_V0 X S (c_X5_holds0 l D cA ad _ F) ob_M rfl (cwV 1 hts gX5_credits_X5_holds rfl rfl rfl (by decide +kernel) ⟨Nat.le_of_ble_eq_true rfl, Nat.le_of_ble_eq_true rfl⟩) rfl hl.1 rfl (Nat.le_of_ble_eq_true rfl) dX5_credits_13 ⟨Nat.zero_le _, Nat.zero_le _⟩ (fun H locs S => ?_)
  obtain ⟨F_1, eF_1⟩ : ∃ z, z = u2 F 36 0 0 := ⟨_, rfl⟩
  rw [← eF_1] at S
  refine lv_if_eq (tgt := 27) hx hb dX5_credits_16 (by decide) (fun z => False.elim (by first | exact absurd z (by decide) | exact absurd (by decide) z)) (fun _ => ?_)
  refine lv_aload_n hx hb dX5_credits_19 rfl (lv_at hl 0 rfl) ?_
  refine lv_iload_n hx hb dX5_credits_20 rfl (lv_at hl 1 rfl) ?_
  refine r_V0 X S (c_X5_creditsOf l D cA ad _ F_1 i hi (by rw [eF_1]; exact OKM_u2 hM (by decide) (by decide) (by decide))) ob_M rfl (cwV 1 hts gX5_credits_X5_creditsOf rfl rfl rfl (by decide +kernel) ⟨Nat.le_of_ble_eq_true rfl, Nat.le_of_ble_eq_true rfl⟩) rfl hl.1 rfl (Nat.le_of_ble_eq_true rfl) dX5_credits_21 ⟨Nat.zero_le _, Nat.zero_le _⟩ (fun H locs S => ?_)
  refine lv_goto (tgt := 28) hx hb dX5_credits_24 (by decide) ?_
  exact r_iret X S hr dX5_credits_28 (Nat.le_of_ble_eq_true rfl) (Nat.le_of_ble_eq_true rfl) (by simp only [th, eF_1]) (by simp only [th, eF_1])

set_option maxHeartbeats 1000000 in
set_option maxRecDepth 100000 in
theorem e1_X5_credits (l : Launch) (D : va_G) (cA : Nat → ClassId) (ad : Nat → Nat) (sz : Nat) (F : FF) (x : Int32) (h : wi x 0 3 = false) : CI l D cA ad sz yX5_credits wsX5_credits 2 42 0 0 [.ref (ad 36), .int x] F (some (.int 0)) (th F 1) := by
  refine CI_of (own := RX5) (cc := cX5_credits) (maxL := 2) (ret := (some .int)) (by decide +kernel) rfl rfl (Nat.le_of_ble_eq_true rfl) ?_
  intro p e s m below meth c ls X S hr hl
  obtain ⟨⟨hx, hb, hml, hown, hts⟩, hE, hI, hlocks⟩ := id X
  have hl : lv_has ls 2 [(0, .ref (ad 36)), (1, .int x)] := hl
  refine lv_aload_n hx hb dX5_credits_0 rfl (lv_at hl 0 rfl) ?_
  refine lv_iload_n hx hb dX5_credits_1 rfl (lv_at hl 1 rfl) ?_
  refine r_S0 X S (c_X5_isStudent l D cA ad _ F x) (va_cwS 1 hts gX5_credits_X5_isStudent rfl rfl rfl (by decide +kernel) ⟨Nat.le_of_ble_eq_true rfl, Nat.le_of_ble_eq_true rfl⟩) rfl hl.1 rfl (Nat.le_of_ble_eq_true rfl) dX5_credits_2 ⟨Nat.zero_le _, Nat.zero_le _⟩ (fun H locs S => ?_)
  refine lv_if_eq (tgt := 12) hx hb dX5_credits_5 (by decide) (fun _ => ?_) (fun z => False.elim (by rw [h] at z; revert z; decide))
  refine lv_iconst (v := 1) hx hb dX5_credits_12 (by decide) ?_
  refine r_V0 X S (c_X5_holdsn l D cA ad _ F 1 (by decide)) ob_M rfl (cwV 1 hts gX5_credits_X5_holds rfl rfl rfl (by decide +kernel) ⟨Nat.le_of_ble_eq_true rfl, Nat.le_of_ble_eq_true rfl⟩) rfl hl.1 rfl (Nat.le_of_ble_eq_true rfl) dX5_credits_13 ⟨Nat.zero_le _, Nat.zero_le _⟩ (fun H locs S => ?_)
  obtain ⟨F_1, eF_1⟩ : ∃ z, z = u2 F 36 0 1 := ⟨_, rfl⟩
  rw [← eF_1] at S
  refine lv_if_eq (tgt := 27) hx hb dX5_credits_16 (by decide) (fun _ => ?_) (fun z => False.elim (by first | exact absurd z (by decide) | exact absurd (by decide) z))
  refine lv_iconst (v := 0) hx hb dX5_credits_27 (by decide) ?_
  exact r_iret X S hr dX5_credits_28 (Nat.le_of_ble_eq_true rfl) (Nat.le_of_ble_eq_true rfl) (by rfl) (by simp only [th, eF_1])

set_option maxHeartbeats 1000000 in
set_option maxRecDepth 100000 in
theorem c_X5_charged0 (l : Launch) (D : va_G) (cA : Nat → ClassId) (ad : Nat → Nat) (sz : Nat) (F : FF) (i : Nat) (hi : i < 4) (hM : OKM F i) : CI l D cA ad sz yX5_charged wsX5_charged 3 66 0 0 [.ref (ad 36), .int (nI i), .int 0] F (some (.int (tuM (th F 0) i))) (th F 0) := by
  refine CI_of (own := RX5) (cc := cX5_charged) (maxL := 3) (ret := (some .int)) (by decide +kernel) rfl rfl (Nat.le_of_ble_eq_true rfl) ?_
  intro p e s m below meth c ls X S hr hl
  obtain ⟨⟨hx, hb, hml, hown, hts⟩, hE, hI, hlocks⟩ := id X
  have hl : lv_has ls 3 [(0, .ref (ad 36)), (1, .int (nI i)), (2, .int 0)] := hl
  refine lv_aload_n hx hb dX5_charged_0 rfl (lv_at hl 0 rfl) ?_
  refine lv_iload_n hx hb dX5_charged_1 rfl (lv_at hl 1 rfl) ?_
  refine r_S0 X S (c_X5_isStudent l D cA ad _ F (nI i)) (va_cwS 1 hts gX5_charged_X5_isStudent rfl rfl rfl (by decide +kernel) ⟨Nat.le_of_ble_eq_true rfl, Nat.le_of_ble_eq_true rfl⟩) rfl hl.1 rfl (Nat.le_of_ble_eq_true rfl) dX5_charged_2 ⟨Nat.zero_le _, Nat.zero_le _⟩ (fun H locs S => ?_)
  refine lv_if_ne (tgt := 12) hx hb dX5_charged_5 (by decide) (fun _ => ?_) (fun z => False.elim (by rw [(wi4 i hi)] at z; revert z; decide))
  refine lv_iload_n hx hb dX5_charged_12 rfl (lv_at hl 2 rfl) ?_
  refine lv_iconst (v := 0) hx hb dX5_charged_13 (by decide) ?_
  refine lv_iconst (v := 2) hx hb dX5_charged_14 (by decide) ?_
  refine r_S0 X S (c_X5_in l D cA ad _ F 0 0 2) (va_cwS 3 hts gX5_charged_X5_in rfl rfl rfl (by decide +kernel) ⟨Nat.le_of_ble_eq_true rfl, Nat.le_of_ble_eq_true rfl⟩) rfl hl.1 rfl (Nat.le_of_ble_eq_true rfl) dX5_charged_15 ⟨Nat.zero_le _, Nat.zero_le _⟩ (fun H locs S => ?_)
  refine lv_if_eq (tgt := 25) hx hb dX5_charged_18 (by decide) (fun z => False.elim (by rw [(show wi 0 0 2 = true by decide)] at z; revert z; decide)) (fun _ => ?_)
  refine lv_iconst (v := 0) hx hb dX5_charged_21 (by decide) ?_
  refine lv_goto (tgt := 26) hx hb dX5_charged_22 (by decide) ?_
  refine r_V0 X S (c_X5_holds0 l D cA ad _ F) ob_M rfl (cwV 1 hts gX5_charged_X5_holds rfl rfl rfl (by decide +kernel) ⟨Nat.le_of_ble_eq_true rfl, Nat.le_of_ble_eq_true rfl⟩) rfl hl.1 rfl (Nat.le_of_ble_eq_true rfl) dX5_charged_26 ⟨Nat.zero_le _, Nat.zero_le _⟩ (fun H locs S => ?_)
  obtain ⟨F_1, eF_1⟩ : ∃ z, z = u2 F 36 0 0 := ⟨_, rfl⟩
  rw [← eF_1] at S
  refine lv_if_eq (tgt := 41) hx hb dX5_charged_29 (by decide) (fun z => False.elim (by first | exact absurd z (by decide) | exact absurd (by decide) z)) (fun _ => ?_)
  refine lv_aload_n hx hb dX5_charged_32 rfl (lv_at hl 0 rfl) ?_
  refine lv_iload_n hx hb dX5_charged_33 rfl (lv_at hl 1 rfl) ?_
  refine lv_iload_n hx hb dX5_charged_34 rfl (lv_at hl 2 rfl) ?_
  refine r_V0 X S (c_X5_chargedOf0 l D cA ad _ F_1 i hi (by rw [eF_1]; exact OKM_u2 hM (by decide) (by decide) (by decide))) ob_M rfl (cwV 2 hts gX5_charged_X5_chargedOf rfl rfl rfl (by decide +kernel) ⟨Nat.le_of_ble_eq_true rfl, Nat.le_of_ble_eq_true rfl⟩) rfl hl.1 rfl (Nat.le_of_ble_eq_true rfl) dX5_charged_35 ⟨Nat.zero_le _, Nat.zero_le _⟩ (fun H locs S => ?_)
  refine lv_goto (tgt := 42) hx hb dX5_charged_38 (by decide) ?_
  exact r_iret X S hr dX5_charged_42 (Nat.le_of_ble_eq_true rfl) (Nat.le_of_ble_eq_true rfl) (by simp only [th, eF_1]) (by simp only [th, eF_1])

set_option maxHeartbeats 1000000 in
set_option maxRecDepth 100000 in
theorem c_X5_charged1 (l : Launch) (D : va_G) (cA : Nat → ClassId) (ad : Nat → Nat) (sz : Nat) (F : FF) (i : Nat) (hi : i < 4) (hM : OKM F i) : CI l D cA ad sz yX5_charged wsX5_charged 3 66 0 0 [.ref (ad 36), .int (nI i), .int 1] F (some (.int (th F 0 48 i))) (th F 0) := by
  refine CI_of (own := RX5) (cc := cX5_charged) (maxL := 3) (ret := (some .int)) (by decide +kernel) rfl rfl (Nat.le_of_ble_eq_true rfl) ?_
  intro p e s m below meth c ls X S hr hl
  obtain ⟨⟨hx, hb, hml, hown, hts⟩, hE, hI, hlocks⟩ := id X
  have hl : lv_has ls 3 [(0, .ref (ad 36)), (1, .int (nI i)), (2, .int 1)] := hl
  refine lv_aload_n hx hb dX5_charged_0 rfl (lv_at hl 0 rfl) ?_
  refine lv_iload_n hx hb dX5_charged_1 rfl (lv_at hl 1 rfl) ?_
  refine r_S0 X S (c_X5_isStudent l D cA ad _ F (nI i)) (va_cwS 1 hts gX5_charged_X5_isStudent rfl rfl rfl (by decide +kernel) ⟨Nat.le_of_ble_eq_true rfl, Nat.le_of_ble_eq_true rfl⟩) rfl hl.1 rfl (Nat.le_of_ble_eq_true rfl) dX5_charged_2 ⟨Nat.zero_le _, Nat.zero_le _⟩ (fun H locs S => ?_)
  refine lv_if_ne (tgt := 12) hx hb dX5_charged_5 (by decide) (fun _ => ?_) (fun z => False.elim (by rw [(wi4 i hi)] at z; revert z; decide))
  refine lv_iload_n hx hb dX5_charged_12 rfl (lv_at hl 2 rfl) ?_
  refine lv_iconst (v := 0) hx hb dX5_charged_13 (by decide) ?_
  refine lv_iconst (v := 2) hx hb dX5_charged_14 (by decide) ?_
  refine r_S0 X S (c_X5_in l D cA ad _ F 1 0 2) (va_cwS 3 hts gX5_charged_X5_in rfl rfl rfl (by decide +kernel) ⟨Nat.le_of_ble_eq_true rfl, Nat.le_of_ble_eq_true rfl⟩) rfl hl.1 rfl (Nat.le_of_ble_eq_true rfl) dX5_charged_15 ⟨Nat.zero_le _, Nat.zero_le _⟩ (fun H locs S => ?_)
  refine lv_if_eq (tgt := 25) hx hb dX5_charged_18 (by decide) (fun z => False.elim (by rw [(show wi 1 0 2 = true by decide)] at z; revert z; decide)) (fun _ => ?_)
  refine lv_iconst (v := 0) hx hb dX5_charged_21 (by decide) ?_
  refine lv_goto (tgt := 26) hx hb dX5_charged_22 (by decide) ?_
  refine r_V0 X S (c_X5_holds0 l D cA ad _ F) ob_M rfl (cwV 1 hts gX5_charged_X5_holds rfl rfl rfl (by decide +kernel) ⟨Nat.le_of_ble_eq_true rfl, Nat.le_of_ble_eq_true rfl⟩) rfl hl.1 rfl (Nat.le_of_ble_eq_true rfl) dX5_charged_26 ⟨Nat.zero_le _, Nat.zero_le _⟩ (fun H locs S => ?_)
  obtain ⟨F_1, eF_1⟩ : ∃ z, z = u2 F 36 0 0 := ⟨_, rfl⟩
  rw [← eF_1] at S
  refine lv_if_eq (tgt := 41) hx hb dX5_charged_29 (by decide) (fun z => False.elim (by first | exact absurd z (by decide) | exact absurd (by decide) z)) (fun _ => ?_)
  refine lv_aload_n hx hb dX5_charged_32 rfl (lv_at hl 0 rfl) ?_
  refine lv_iload_n hx hb dX5_charged_33 rfl (lv_at hl 1 rfl) ?_
  refine lv_iload_n hx hb dX5_charged_34 rfl (lv_at hl 2 rfl) ?_
  refine r_V0 X S (c_X5_chargedOf1 l D cA ad _ F_1 i hi) ob_M rfl (cwV 2 hts gX5_charged_X5_chargedOf rfl rfl rfl (by decide +kernel) ⟨Nat.le_of_ble_eq_true rfl, Nat.le_of_ble_eq_true rfl⟩) rfl hl.1 rfl (Nat.le_of_ble_eq_true rfl) dX5_charged_35 ⟨Nat.zero_le _, Nat.zero_le _⟩ (fun H locs S => ?_)
  refine lv_goto (tgt := 42) hx hb dX5_charged_38 (by decide) ?_
  exact r_iret X S hr dX5_charged_42 (Nat.le_of_ble_eq_true rfl) (Nat.le_of_ble_eq_true rfl) (by simp only [th, eF_1]) (by simp only [th, eF_1])

set_option maxHeartbeats 1000000 in
set_option maxRecDepth 100000 in
theorem c_X5_charged2 (l : Launch) (D : va_G) (cA : Nat → ClassId) (ad : Nat → Nat) (sz : Nat) (F : FF) (i : Nat) (hi : i < 4) (hM : OKM F i) : CI l D cA ad sz yX5_charged wsX5_charged 3 66 0 0 [.ref (ad 36), .int (nI i), .int 2] F (some (.int (th F 0 49 i))) (th F 0) := by
  refine CI_of (own := RX5) (cc := cX5_charged) (maxL := 3) (ret := (some .int)) (by decide +kernel) rfl rfl (Nat.le_of_ble_eq_true rfl) ?_
  intro p e s m below meth c ls X S hr hl
  obtain ⟨⟨hx, hb, hml, hown, hts⟩, hE, hI, hlocks⟩ := id X
  have hl : lv_has ls 3 [(0, .ref (ad 36)), (1, .int (nI i)), (2, .int 2)] := hl
  refine lv_aload_n hx hb dX5_charged_0 rfl (lv_at hl 0 rfl) ?_
  refine lv_iload_n hx hb dX5_charged_1 rfl (lv_at hl 1 rfl) ?_
  refine r_S0 X S (c_X5_isStudent l D cA ad _ F (nI i)) (va_cwS 1 hts gX5_charged_X5_isStudent rfl rfl rfl (by decide +kernel) ⟨Nat.le_of_ble_eq_true rfl, Nat.le_of_ble_eq_true rfl⟩) rfl hl.1 rfl (Nat.le_of_ble_eq_true rfl) dX5_charged_2 ⟨Nat.zero_le _, Nat.zero_le _⟩ (fun H locs S => ?_)
  refine lv_if_ne (tgt := 12) hx hb dX5_charged_5 (by decide) (fun _ => ?_) (fun z => False.elim (by rw [(wi4 i hi)] at z; revert z; decide))
  refine lv_iload_n hx hb dX5_charged_12 rfl (lv_at hl 2 rfl) ?_
  refine lv_iconst (v := 0) hx hb dX5_charged_13 (by decide) ?_
  refine lv_iconst (v := 2) hx hb dX5_charged_14 (by decide) ?_
  refine r_S0 X S (c_X5_in l D cA ad _ F 2 0 2) (va_cwS 3 hts gX5_charged_X5_in rfl rfl rfl (by decide +kernel) ⟨Nat.le_of_ble_eq_true rfl, Nat.le_of_ble_eq_true rfl⟩) rfl hl.1 rfl (Nat.le_of_ble_eq_true rfl) dX5_charged_15 ⟨Nat.zero_le _, Nat.zero_le _⟩ (fun H locs S => ?_)
  refine lv_if_eq (tgt := 25) hx hb dX5_charged_18 (by decide) (fun z => False.elim (by rw [(show wi 2 0 2 = true by decide)] at z; revert z; decide)) (fun _ => ?_)
  refine lv_iconst (v := 0) hx hb dX5_charged_21 (by decide) ?_
  refine lv_goto (tgt := 26) hx hb dX5_charged_22 (by decide) ?_
  refine r_V0 X S (c_X5_holds0 l D cA ad _ F) ob_M rfl (cwV 1 hts gX5_charged_X5_holds rfl rfl rfl (by decide +kernel) ⟨Nat.le_of_ble_eq_true rfl, Nat.le_of_ble_eq_true rfl⟩) rfl hl.1 rfl (Nat.le_of_ble_eq_true rfl) dX5_charged_26 ⟨Nat.zero_le _, Nat.zero_le _⟩ (fun H locs S => ?_)
  obtain ⟨F_1, eF_1⟩ : ∃ z, z = u2 F 36 0 0 := ⟨_, rfl⟩
  rw [← eF_1] at S
  refine lv_if_eq (tgt := 41) hx hb dX5_charged_29 (by decide) (fun z => False.elim (by first | exact absurd z (by decide) | exact absurd (by decide) z)) (fun _ => ?_)
  refine lv_aload_n hx hb dX5_charged_32 rfl (lv_at hl 0 rfl) ?_
  refine lv_iload_n hx hb dX5_charged_33 rfl (lv_at hl 1 rfl) ?_
  refine lv_iload_n hx hb dX5_charged_34 rfl (lv_at hl 2 rfl) ?_
  refine r_V0 X S (c_X5_chargedOf2 l D cA ad _ F_1 i hi) ob_M rfl (cwV 2 hts gX5_charged_X5_chargedOf rfl rfl rfl (by decide +kernel) ⟨Nat.le_of_ble_eq_true rfl, Nat.le_of_ble_eq_true rfl⟩) rfl hl.1 rfl (Nat.le_of_ble_eq_true rfl) dX5_charged_35 ⟨Nat.zero_le _, Nat.zero_le _⟩ (fun H locs S => ?_)
  refine lv_goto (tgt := 42) hx hb dX5_charged_38 (by decide) ?_
  exact r_iret X S hr dX5_charged_42 (Nat.le_of_ble_eq_true rfl) (Nat.le_of_ble_eq_true rfl) (by simp only [th, eF_1]) (by simp only [th, eF_1])

set_option maxHeartbeats 1000000 in
set_option maxRecDepth 100000 in
theorem e1_X5_charged (l : Launch) (D : va_G) (cA : Nat → ClassId) (ad : Nat → Nat) (sz : Nat) (F : FF) (x kd : Int32) (h : wi x 0 3 = false) : CI l D cA ad sz yX5_charged wsX5_charged 3 66 0 0 [.ref (ad 36), .int x, .int kd] F (some (.int 0)) (th F 1) := by
  refine CI_of (own := RX5) (cc := cX5_charged) (maxL := 3) (ret := (some .int)) (by decide +kernel) rfl rfl (Nat.le_of_ble_eq_true rfl) ?_
  intro p e s m below meth c ls X S hr hl
  obtain ⟨⟨hx, hb, hml, hown, hts⟩, hE, hI, hlocks⟩ := id X
  have hl : lv_has ls 3 [(0, .ref (ad 36)), (1, .int x), (2, .int kd)] := hl
  refine lv_aload_n hx hb dX5_charged_0 rfl (lv_at hl 0 rfl) ?_
  refine lv_iload_n hx hb dX5_charged_1 rfl (lv_at hl 1 rfl) ?_
  refine r_S0 X S (c_X5_isStudent l D cA ad _ F x) (va_cwS 1 hts gX5_charged_X5_isStudent rfl rfl rfl (by decide +kernel) ⟨Nat.le_of_ble_eq_true rfl, Nat.le_of_ble_eq_true rfl⟩) rfl hl.1 rfl (Nat.le_of_ble_eq_true rfl) dX5_charged_2 ⟨Nat.zero_le _, Nat.zero_le _⟩ (fun H locs S => ?_)
  refine lv_if_ne (tgt := 12) hx hb dX5_charged_5 (by decide) (fun z => False.elim (by rw [h] at z; revert z; decide)) (fun _ => ?_)
  refine lv_iconst (v := 1) hx hb dX5_charged_8 (by decide) ?_
  refine lv_goto (tgt := 26) hx hb dX5_charged_9 (by decide) ?_
  refine r_V0 X S (c_X5_holdsn l D cA ad _ F 1 (by decide)) ob_M rfl (cwV 1 hts gX5_charged_X5_holds rfl rfl rfl (by decide +kernel) ⟨Nat.le_of_ble_eq_true rfl, Nat.le_of_ble_eq_true rfl⟩) rfl hl.1 rfl (Nat.le_of_ble_eq_true rfl) dX5_charged_26 ⟨Nat.zero_le _, Nat.zero_le _⟩ (fun H locs S => ?_)
  obtain ⟨F_1, eF_1⟩ : ∃ z, z = u2 F 36 0 1 := ⟨_, rfl⟩
  rw [← eF_1] at S
  refine lv_if_eq (tgt := 41) hx hb dX5_charged_29 (by decide) (fun _ => ?_) (fun z => False.elim (by first | exact absurd z (by decide) | exact absurd (by decide) z))
  refine lv_iconst (v := 0) hx hb dX5_charged_41 (by decide) ?_
  exact r_iret X S hr dX5_charged_42 (Nat.le_of_ble_eq_true rfl) (Nat.le_of_ble_eq_true rfl) (by rfl) (by simp only [th, eF_1])

set_option maxHeartbeats 1000000 in
set_option maxRecDepth 100000 in
theorem e2_X5_charged (l : Launch) (D : va_G) (cA : Nat → ClassId) (ad : Nat → Nat) (sz : Nat) (F : FF) (i : Nat) (hi : i < 4) (kd : Int32) (h : wi kd 0 2 = false) : CI l D cA ad sz yX5_charged wsX5_charged 3 66 0 0 [.ref (ad 36), .int (nI i), .int kd] F (some (.int 0)) (th F 2) := by
  refine CI_of (own := RX5) (cc := cX5_charged) (maxL := 3) (ret := (some .int)) (by decide +kernel) rfl rfl (Nat.le_of_ble_eq_true rfl) ?_
  intro p e s m below meth c ls X S hr hl
  obtain ⟨⟨hx, hb, hml, hown, hts⟩, hE, hI, hlocks⟩ := id X
  have hl : lv_has ls 3 [(0, .ref (ad 36)), (1, .int (nI i)), (2, .int kd)] := hl
  refine lv_aload_n hx hb dX5_charged_0 rfl (lv_at hl 0 rfl) ?_
  refine lv_iload_n hx hb dX5_charged_1 rfl (lv_at hl 1 rfl) ?_
  refine r_S0 X S (c_X5_isStudent l D cA ad _ F (nI i)) (va_cwS 1 hts gX5_charged_X5_isStudent rfl rfl rfl (by decide +kernel) ⟨Nat.le_of_ble_eq_true rfl, Nat.le_of_ble_eq_true rfl⟩) rfl hl.1 rfl (Nat.le_of_ble_eq_true rfl) dX5_charged_2 ⟨Nat.zero_le _, Nat.zero_le _⟩ (fun H locs S => ?_)
  refine lv_if_ne (tgt := 12) hx hb dX5_charged_5 (by decide) (fun _ => ?_) (fun z => False.elim (by rw [(wi4 i hi)] at z; revert z; decide))
  refine lv_iload_n hx hb dX5_charged_12 rfl (lv_at hl 2 rfl) ?_
  refine lv_iconst (v := 0) hx hb dX5_charged_13 (by decide) ?_
  refine lv_iconst (v := 2) hx hb dX5_charged_14 (by decide) ?_
  refine r_S0 X S (c_X5_in l D cA ad _ F kd 0 2) (va_cwS 3 hts gX5_charged_X5_in rfl rfl rfl (by decide +kernel) ⟨Nat.le_of_ble_eq_true rfl, Nat.le_of_ble_eq_true rfl⟩) rfl hl.1 rfl (Nat.le_of_ble_eq_true rfl) dX5_charged_15 ⟨Nat.zero_le _, Nat.zero_le _⟩ (fun H locs S => ?_)
  refine lv_if_eq (tgt := 25) hx hb dX5_charged_18 (by decide) (fun _ => ?_) (fun z => False.elim (by rw [h] at z; revert z; decide))
  refine lv_iconst (v := 2) hx hb dX5_charged_25 (by decide) ?_
  refine r_V0 X S (c_X5_holdsn l D cA ad _ F 2 (by decide)) ob_M rfl (cwV 1 hts gX5_charged_X5_holds rfl rfl rfl (by decide +kernel) ⟨Nat.le_of_ble_eq_true rfl, Nat.le_of_ble_eq_true rfl⟩) rfl hl.1 rfl (Nat.le_of_ble_eq_true rfl) dX5_charged_26 ⟨Nat.zero_le _, Nat.zero_le _⟩ (fun H locs S => ?_)
  obtain ⟨F_1, eF_1⟩ : ∃ z, z = u2 F 36 0 2 := ⟨_, rfl⟩
  rw [← eF_1] at S
  refine lv_if_eq (tgt := 41) hx hb dX5_charged_29 (by decide) (fun _ => ?_) (fun z => False.elim (by first | exact absurd z (by decide) | exact absurd (by decide) z))
  refine lv_iconst (v := 0) hx hb dX5_charged_41 (by decide) ?_
  exact r_iret X S hr dX5_charged_42 (Nat.le_of_ble_eq_true rfl) (Nat.le_of_ble_eq_true rfl) (by rfl) (by simp only [th, eF_1])

set_option maxHeartbeats 1000000 in
set_option maxRecDepth 100000 in
theorem c_X5_sponsored (l : Launch) (D : va_G) (cA : Nat → ClassId) (ad : Nat → Nat) (sz : Nat) (F : FF) (i : Nat) (hi : i < 4) (hM : OKM F i) : CI l D cA ad sz yX5_sponsored wsX5_sponsored 4 89 0 0 [.ref (ad 36), .int (nI i)] F (some (.int (spM (th F 0) i))) (th F 0) := by
  refine CI_of (own := RX5) (cc := cX5_sponsored) (maxL := 2) (ret := (some .int)) (by decide +kernel) rfl rfl (Nat.le_of_ble_eq_true rfl) ?_
  intro p e s m below meth c ls X S hr hl
  obtain ⟨⟨hx, hb, hml, hown, hts⟩, hE, hI, hlocks⟩ := id X
  have hl : lv_has ls 2 [(0, .ref (ad 36)), (1, .int (nI i))] := hl
  refine lv_aload_n hx hb dX5_sponsored_0 rfl (lv_at hl 0 rfl) ?_
  refine lv_iload_n hx hb dX5_sponsored_1 rfl (lv_at hl 1 rfl) ?_
  refine r_S0 X S (c_X5_isStudent l D cA ad _ F (nI i)) (va_cwS 1 hts gX5_sponsored_X5_isStudent rfl rfl rfl (by decide +kernel) ⟨Nat.le_of_ble_eq_true rfl, Nat.le_of_ble_eq_true rfl⟩) rfl hl.1 rfl (Nat.le_of_ble_eq_true rfl) dX5_sponsored_2 ⟨Nat.zero_le _, Nat.zero_le _⟩ (fun H locs S => ?_)
  refine lv_if_eq (tgt := 12) hx hb dX5_sponsored_5 (by decide) (fun z => False.elim (by rw [(wi4 i hi)] at z; revert z; decide)) (fun _ => ?_)
  refine lv_iconst (v := 0) hx hb dX5_sponsored_8 (by decide) ?_
  refine lv_goto (tgt := 13) hx hb dX5_sponsored_9 (by decide) ?_
  refine r_V0 X S (c_X5_holds0 l D cA ad _ F) ob_M rfl (cwV 1 hts gX5_sponsored_X5_holds rfl rfl rfl (by decide +kernel) ⟨Nat.le_of_ble_eq_true rfl, Nat.le_of_ble_eq_true rfl⟩) rfl hl.1 rfl (Nat.le_of_ble_eq_true rfl) dX5_sponsored_13 ⟨Nat.zero_le _, Nat.zero_le _⟩ (fun H locs S => ?_)
  obtain ⟨F_1, eF_1⟩ : ∃ z, z = u2 F 36 0 0 := ⟨_, rfl⟩
  rw [← eF_1] at S
  refine lv_if_eq (tgt := 27) hx hb dX5_sponsored_16 (by decide) (fun z => False.elim (by first | exact absurd z (by decide) | exact absurd (by decide) z)) (fun _ => ?_)
  refine lv_aload_n hx hb dX5_sponsored_19 rfl (lv_at hl 0 rfl) ?_
  refine lv_iload_n hx hb dX5_sponsored_20 rfl (lv_at hl 1 rfl) ?_
  refine r_V0 X S (c_X5_sponsoredOf l D cA ad _ F_1 i hi (by rw [eF_1]; exact OKM_u2 hM (by decide) (by decide) (by decide))) ob_M rfl (cwV 1 hts gX5_sponsored_X5_sponsoredOf rfl rfl rfl (by decide +kernel) ⟨Nat.le_of_ble_eq_true rfl, Nat.le_of_ble_eq_true rfl⟩) rfl hl.1 rfl (Nat.le_of_ble_eq_true rfl) dX5_sponsored_21 ⟨Nat.zero_le _, Nat.zero_le _⟩ (fun H locs S => ?_)
  refine lv_goto (tgt := 28) hx hb dX5_sponsored_24 (by decide) ?_
  exact r_iret X S hr dX5_sponsored_28 (Nat.le_of_ble_eq_true rfl) (Nat.le_of_ble_eq_true rfl) (by simp only [th, eF_1]) (by simp only [th, eF_1])

set_option maxHeartbeats 1000000 in
set_option maxRecDepth 100000 in
theorem e1_X5_sponsored (l : Launch) (D : va_G) (cA : Nat → ClassId) (ad : Nat → Nat) (sz : Nat) (F : FF) (x : Int32) (h : wi x 0 3 = false) : CI l D cA ad sz yX5_sponsored wsX5_sponsored 4 89 0 0 [.ref (ad 36), .int x] F (some (.int 0)) (th F 1) := by
  refine CI_of (own := RX5) (cc := cX5_sponsored) (maxL := 2) (ret := (some .int)) (by decide +kernel) rfl rfl (Nat.le_of_ble_eq_true rfl) ?_
  intro p e s m below meth c ls X S hr hl
  obtain ⟨⟨hx, hb, hml, hown, hts⟩, hE, hI, hlocks⟩ := id X
  have hl : lv_has ls 2 [(0, .ref (ad 36)), (1, .int x)] := hl
  refine lv_aload_n hx hb dX5_sponsored_0 rfl (lv_at hl 0 rfl) ?_
  refine lv_iload_n hx hb dX5_sponsored_1 rfl (lv_at hl 1 rfl) ?_
  refine r_S0 X S (c_X5_isStudent l D cA ad _ F x) (va_cwS 1 hts gX5_sponsored_X5_isStudent rfl rfl rfl (by decide +kernel) ⟨Nat.le_of_ble_eq_true rfl, Nat.le_of_ble_eq_true rfl⟩) rfl hl.1 rfl (Nat.le_of_ble_eq_true rfl) dX5_sponsored_2 ⟨Nat.zero_le _, Nat.zero_le _⟩ (fun H locs S => ?_)
  refine lv_if_eq (tgt := 12) hx hb dX5_sponsored_5 (by decide) (fun _ => ?_) (fun z => False.elim (by rw [h] at z; revert z; decide))
  refine lv_iconst (v := 1) hx hb dX5_sponsored_12 (by decide) ?_
  refine r_V0 X S (c_X5_holdsn l D cA ad _ F 1 (by decide)) ob_M rfl (cwV 1 hts gX5_sponsored_X5_holds rfl rfl rfl (by decide +kernel) ⟨Nat.le_of_ble_eq_true rfl, Nat.le_of_ble_eq_true rfl⟩) rfl hl.1 rfl (Nat.le_of_ble_eq_true rfl) dX5_sponsored_13 ⟨Nat.zero_le _, Nat.zero_le _⟩ (fun H locs S => ?_)
  obtain ⟨F_1, eF_1⟩ : ∃ z, z = u2 F 36 0 1 := ⟨_, rfl⟩
  rw [← eF_1] at S
  refine lv_if_eq (tgt := 27) hx hb dX5_sponsored_16 (by decide) (fun _ => ?_) (fun z => False.elim (by first | exact absurd z (by decide) | exact absurd (by decide) z))
  refine lv_iconst (v := 0) hx hb dX5_sponsored_27 (by decide) ?_
  exact r_iret X S hr dX5_sponsored_28 (Nat.le_of_ble_eq_true rfl) (Nat.le_of_ble_eq_true rfl) (by rfl) (by simp only [th, eF_1])

set_option maxHeartbeats 1000000 in
set_option maxRecDepth 100000 in
theorem c_X5_isAward (l : Launch) (D : va_G) (cA : Nat → ClassId) (ad : Nat → Nat) (sz : Nat) (F : FF) (i : Nat) (hi : i < 4) (hM : OKM F i) (j : Nat) (hj : j < aM F i) : CI l D cA ad sz yX5_isAward wsX5_isAward 2 42 0 0 [.ref (ad 36), .int (nI i), .int (nI j)] F (some (.int 1)) (u2 F 36 0 0) := by
  refine CI_of (own := RX5) (cc := cX5_isAward) (maxL := 3) (ret := (some .boolean)) (by decide +kernel) rfl rfl (Nat.le_of_ble_eq_true rfl) ?_
  intro p e s m below meth c ls X S hr hl
  obtain ⟨⟨hx, hb, hml, hown, hts⟩, hE, hI, hlocks⟩ := id X
  have hl : lv_has ls 3 [(0, .ref (ad 36)), (1, .int (nI i)), (2, .int (nI j))] := hl
  have hw5 : ∀ w ∈ wsX50, w.before _ s = true := fun w h => hts w ((by decide +kernel : ∀ w ∈ wsX50, w ∈ wsX5_isAward) w h)
  refine lv_aload_n hx hb dX5_isAward_0 rfl (lv_at hl 0 rfl) ?_
  refine lv_iload_n hx hb dX5_isAward_1 rfl (lv_at hl 1 rfl) ?_
  refine r_S0 X S (c_X5_isStudent l D cA ad _ F (nI i)) (va_cwS 1 hts gX5_isAward_X5_isStudent rfl rfl rfl (by decide +kernel) ⟨Nat.le_of_ble_eq_true rfl, Nat.le_of_ble_eq_true rfl⟩) rfl hl.1 rfl (Nat.le_of_ble_eq_true rfl) dX5_isAward_2 ⟨Nat.zero_le _, Nat.zero_le _⟩ (fun H locs S => ?_)
  refine lv_if_eq (tgt := 28) hx hb dX5_isAward_5 (by decide) (fun z => False.elim (by rw [(wi4 i hi)] at z; revert z; decide)) (fun _ => ?_)
  refine lv_iload_n hx hb dX5_isAward_8 rfl (lv_at hl 2 rfl) ?_
  refine lv_iconst (v := 0) hx hb dX5_isAward_9 (by decide) ?_
  refine lv_aload_n hx hb dX5_isAward_10 rfl (lv_at hl 0 rfl) ?_
  refine r_getr (q := 50) X S hw5 ob_M 20 ⟨rfl, by decide, rfl⟩ rfl (hts (.fieldLink RX5 60 "TermBillModel" "awards" "[I") (by decide +kernel)) dX5_isAward_11 ?_
  refine lv_iload_n hx hb dX5_isAward_14 rfl (lv_at hl 1 rfl) ?_
  refine r_ialN X S (k := 50) (n := 4) (by unfold Ar; decide) (q := i) rfl (by omega) (by decide) dX5_isAward_15 ?_
  rw [show F 50 i = nI (aM F i) from hM.2.2.2]
  refine lv_iconst (v := 1) hx hb dX5_isAward_16 (by decide) ?_
  refine lv_isub hx hb dX5_isAward_17 ?_
  refine r_S0 X S (c_X5_in l D cA ad _ F (nI j) 0 ((nI (aM F i)) - 1)) (va_cwS 3 hts gX5_isAward_X5_in rfl rfl rfl (by decide +kernel) ⟨Nat.le_of_ble_eq_true rfl, Nat.le_of_ble_eq_true rfl⟩) rfl hl.1 rfl (Nat.le_of_ble_eq_true rfl) dX5_isAward_18 ⟨Nat.zero_le _, Nat.zero_le _⟩ (fun H locs S => ?_)
  refine lv_if_eq (tgt := 28) hx hb dX5_isAward_21 (by decide) (fun z => False.elim (by rw [(wi_pred hj (by have := hM.2.2.1; omega))] at z; revert z; decide)) (fun _ => ?_)
  refine lv_iconst (v := 0) hx hb dX5_isAward_24 (by decide) ?_
  refine lv_goto (tgt := 29) hx hb dX5_isAward_25 (by decide) ?_
  refine r_V0 X S (c_X5_holds0 l D cA ad _ F) ob_M rfl (cwV 1 hts gX5_isAward_X5_holds rfl rfl rfl (by decide +kernel) ⟨Nat.le_of_ble_eq_true rfl, Nat.le_of_ble_eq_true rfl⟩) rfl hl.1 rfl (Nat.le_of_ble_eq_true rfl) dX5_isAward_29 ⟨Nat.zero_le _, Nat.zero_le _⟩ (fun H locs S => ?_)
  obtain ⟨F_1, eF_1⟩ : ∃ z, z = u2 F 36 0 0 := ⟨_, rfl⟩
  rw [← eF_1] at S
  exact r_zret X S hr rfl dX5_isAward_32 (Nat.le_of_ble_eq_true rfl) (Nat.le_of_ble_eq_true rfl) (by rfl) (by simp only [th, eF_1])

set_option maxHeartbeats 1000000 in
set_option maxRecDepth 100000 in
theorem e4_X5_isAward (l : Launch) (D : va_G) (cA : Nat → ClassId) (ad : Nat → Nat) (sz : Nat) (F : FF) (i : Nat) (hi : i < 4) (hM : OKM F i) (y : Int32) (h : wi y 0 (nI (aM F i) - 1) = false) : CI l D cA ad sz yX5_isAward wsX5_isAward 2 42 0 0 [.ref (ad 36), .int (nI i), .int y] F (some (.int 0)) (u2 F 36 0 1) := by
  refine CI_of (own := RX5) (cc := cX5_isAward) (maxL := 3) (ret := (some .boolean)) (by decide +kernel) rfl rfl (Nat.le_of_ble_eq_true rfl) ?_
  intro p e s m below meth c ls X S hr hl
  obtain ⟨⟨hx, hb, hml, hown, hts⟩, hE, hI, hlocks⟩ := id X
  have hl : lv_has ls 3 [(0, .ref (ad 36)), (1, .int (nI i)), (2, .int y)] := hl
  have hw5 : ∀ w ∈ wsX50, w.before _ s = true := fun w h => hts w ((by decide +kernel : ∀ w ∈ wsX50, w ∈ wsX5_isAward) w h)
  refine lv_aload_n hx hb dX5_isAward_0 rfl (lv_at hl 0 rfl) ?_
  refine lv_iload_n hx hb dX5_isAward_1 rfl (lv_at hl 1 rfl) ?_
  refine r_S0 X S (c_X5_isStudent l D cA ad _ F (nI i)) (va_cwS 1 hts gX5_isAward_X5_isStudent rfl rfl rfl (by decide +kernel) ⟨Nat.le_of_ble_eq_true rfl, Nat.le_of_ble_eq_true rfl⟩) rfl hl.1 rfl (Nat.le_of_ble_eq_true rfl) dX5_isAward_2 ⟨Nat.zero_le _, Nat.zero_le _⟩ (fun H locs S => ?_)
  refine lv_if_eq (tgt := 28) hx hb dX5_isAward_5 (by decide) (fun z => False.elim (by rw [(wi4 i hi)] at z; revert z; decide)) (fun _ => ?_)
  refine lv_iload_n hx hb dX5_isAward_8 rfl (lv_at hl 2 rfl) ?_
  refine lv_iconst (v := 0) hx hb dX5_isAward_9 (by decide) ?_
  refine lv_aload_n hx hb dX5_isAward_10 rfl (lv_at hl 0 rfl) ?_
  refine r_getr (q := 50) X S hw5 ob_M 20 ⟨rfl, by decide, rfl⟩ rfl (hts (.fieldLink RX5 60 "TermBillModel" "awards" "[I") (by decide +kernel)) dX5_isAward_11 ?_
  refine lv_iload_n hx hb dX5_isAward_14 rfl (lv_at hl 1 rfl) ?_
  refine r_ialN X S (k := 50) (n := 4) (by unfold Ar; decide) (q := i) rfl (by omega) (by decide) dX5_isAward_15 ?_
  rw [show F 50 i = nI (aM F i) from hM.2.2.2]
  refine lv_iconst (v := 1) hx hb dX5_isAward_16 (by decide) ?_
  refine lv_isub hx hb dX5_isAward_17 ?_
  refine r_S0 X S (c_X5_in l D cA ad _ F y 0 ((nI (aM F i)) - 1)) (va_cwS 3 hts gX5_isAward_X5_in rfl rfl rfl (by decide +kernel) ⟨Nat.le_of_ble_eq_true rfl, Nat.le_of_ble_eq_true rfl⟩) rfl hl.1 rfl (Nat.le_of_ble_eq_true rfl) dX5_isAward_18 ⟨Nat.zero_le _, Nat.zero_le _⟩ (fun H locs S => ?_)
  refine lv_if_eq (tgt := 28) hx hb dX5_isAward_21 (by decide) (fun _ => ?_) (fun z => False.elim (by rw [h] at z; revert z; decide))
  refine lv_iconst (v := 1) hx hb dX5_isAward_28 (by decide) ?_
  refine r_V0 X S (c_X5_holdsn l D cA ad _ F 1 (by decide)) ob_M rfl (cwV 1 hts gX5_isAward_X5_holds rfl rfl rfl (by decide +kernel) ⟨Nat.le_of_ble_eq_true rfl, Nat.le_of_ble_eq_true rfl⟩) rfl hl.1 rfl (Nat.le_of_ble_eq_true rfl) dX5_isAward_29 ⟨Nat.zero_le _, Nat.zero_le _⟩ (fun H locs S => ?_)
  obtain ⟨F_1, eF_1⟩ : ∃ z, z = u2 F 36 0 1 := ⟨_, rfl⟩
  rw [← eF_1] at S
  exact r_zret X S hr rfl dX5_isAward_32 (Nat.le_of_ble_eq_true rfl) (Nat.le_of_ble_eq_true rfl) (by rfl) (by simp only [th, eF_1])

set_option maxHeartbeats 1000000 in
set_option maxRecDepth 100000 in
theorem e1_X5_isAward (l : Launch) (D : va_G) (cA : Nat → ClassId) (ad : Nat → Nat) (sz : Nat) (F : FF) (x y : Int32) (h : wi x 0 3 = false) : CI l D cA ad sz yX5_isAward wsX5_isAward 2 42 0 0 [.ref (ad 36), .int x, .int y] F (some (.int 0)) (u2 F 36 0 1) := by
  refine CI_of (own := RX5) (cc := cX5_isAward) (maxL := 3) (ret := (some .boolean)) (by decide +kernel) rfl rfl (Nat.le_of_ble_eq_true rfl) ?_
  intro p e s m below meth c ls X S hr hl
  obtain ⟨⟨hx, hb, hml, hown, hts⟩, hE, hI, hlocks⟩ := id X
  have hl : lv_has ls 3 [(0, .ref (ad 36)), (1, .int x), (2, .int y)] := hl
  refine lv_aload_n hx hb dX5_isAward_0 rfl (lv_at hl 0 rfl) ?_
  refine lv_iload_n hx hb dX5_isAward_1 rfl (lv_at hl 1 rfl) ?_
  refine r_S0 X S (c_X5_isStudent l D cA ad _ F x) (va_cwS 1 hts gX5_isAward_X5_isStudent rfl rfl rfl (by decide +kernel) ⟨Nat.le_of_ble_eq_true rfl, Nat.le_of_ble_eq_true rfl⟩) rfl hl.1 rfl (Nat.le_of_ble_eq_true rfl) dX5_isAward_2 ⟨Nat.zero_le _, Nat.zero_le _⟩ (fun H locs S => ?_)
  refine lv_if_eq (tgt := 28) hx hb dX5_isAward_5 (by decide) (fun _ => ?_) (fun z => False.elim (by rw [h] at z; revert z; decide))
  refine lv_iconst (v := 1) hx hb dX5_isAward_28 (by decide) ?_
  refine r_V0 X S (c_X5_holdsn l D cA ad _ F 1 (by decide)) ob_M rfl (cwV 1 hts gX5_isAward_X5_holds rfl rfl rfl (by decide +kernel) ⟨Nat.le_of_ble_eq_true rfl, Nat.le_of_ble_eq_true rfl⟩) rfl hl.1 rfl (Nat.le_of_ble_eq_true rfl) dX5_isAward_29 ⟨Nat.zero_le _, Nat.zero_le _⟩ (fun H locs S => ?_)
  obtain ⟨F_1, eF_1⟩ : ∃ z, z = u2 F 36 0 1 := ⟨_, rfl⟩
  rw [← eF_1] at S
  exact r_zret X S hr rfl dX5_isAward_32 (Nat.le_of_ble_eq_true rfl) (Nat.le_of_ble_eq_true rfl) (by rfl) (by simp only [th, eF_1])

set_option maxHeartbeats 1000000 in
set_option maxRecDepth 100000 in
theorem c_X5_used (l : Launch) (D : va_G) (cA : Nat → ClassId) (ad : Nat → Nat) (sz : Nat) (F : FF) (i : Nat) (hi : i < 4) (hM : OKM F i) (j : Nat) (hj : j < aM F i) : CI l D cA ad sz yX5_used wsX5_used 5 119 0 0 [.ref (ad 36), .int (nI i), .int (nI j)] F (some (.int (usR (th F 0) i (nI j)))) (th F 0) := by
  refine CI_of (own := RX5) (cc := cX5_used) (maxL := 3) (ret := (some .int)) (by decide +kernel) rfl rfl (Nat.le_of_ble_eq_true rfl) ?_
  intro p e s m below meth c ls X S hr hl
  obtain ⟨⟨hx, hb, hml, hown, hts⟩, hE, hI, hlocks⟩ := id X
  have hl : lv_has ls 3 [(0, .ref (ad 36)), (1, .int (nI i)), (2, .int (nI j))] := hl
  refine lv_aload_n hx hb dX5_used_0 rfl (lv_at hl 0 rfl) ?_
  refine lv_iload_n hx hb dX5_used_1 rfl (lv_at hl 1 rfl) ?_
  refine lv_iload_n hx hb dX5_used_2 rfl (lv_at hl 2 rfl) ?_
  refine r_V0 X S (c_X5_isAward l D cA ad _ F i hi hM j hj) ob_M rfl (cwV 2 hts gX5_used_X5_isAward rfl rfl rfl (by decide +kernel) ⟨Nat.le_of_ble_eq_true rfl, Nat.le_of_ble_eq_true rfl⟩) rfl hl.1 rfl (Nat.le_of_ble_eq_true rfl) dX5_used_3 ⟨Nat.zero_le _, Nat.zero_le _⟩ (fun H locs S => ?_)
  obtain ⟨F_1, eF_1⟩ : ∃ z, z = u2 F 36 0 0 := ⟨_, rfl⟩
  rw [← eF_1] at S
  refine lv_if_eq (tgt := 18) hx hb dX5_used_6 (by decide) (fun z => False.elim (by first | exact absurd z (by decide) | exact absurd (by decide) z)) (fun _ => ?_)
  refine lv_aload_n hx hb dX5_used_9 rfl (lv_at hl 0 rfl) ?_
  refine lv_iload_n hx hb dX5_used_10 rfl (lv_at hl 1 rfl) ?_
  refine lv_iload_n hx hb dX5_used_11 rfl (lv_at hl 2 rfl) ?_
  refine r_V0 X S (c_X5_usedOf l D cA ad _ F_1 i hi (by rw [eF_1]; exact OKM_u2 hM (by decide) (by decide) (by decide)) (nI j)) ob_M rfl (cwV 2 hts gX5_used_X5_usedOf rfl rfl rfl (by decide +kernel) ⟨Nat.le_of_ble_eq_true rfl, Nat.le_of_ble_eq_true rfl⟩) rfl hl.1 rfl (Nat.le_of_ble_eq_true rfl) dX5_used_12 ⟨Nat.zero_le _, Nat.zero_le _⟩ (fun H locs S => ?_)
  refine lv_goto (tgt := 19) hx hb dX5_used_15 (by decide) ?_
  exact r_iret X S hr dX5_used_19 (Nat.le_of_ble_eq_true rfl) (Nat.le_of_ble_eq_true rfl) (by simp only [th, eF_1]) (by simp only [th, eF_1])

set_option maxHeartbeats 1000000 in
set_option maxRecDepth 100000 in
theorem e4_X5_used (l : Launch) (D : va_G) (cA : Nat → ClassId) (ad : Nat → Nat) (sz : Nat) (F : FF) (i : Nat) (hi : i < 4) (hM : OKM F i) (y : Int32) (h : wi y 0 (nI (aM F i) - 1) = false) : CI l D cA ad sz yX5_used wsX5_used 5 119 0 0 [.ref (ad 36), .int (nI i), .int y] F (some (.int 0)) (th F 1) := by
  refine CI_of (own := RX5) (cc := cX5_used) (maxL := 3) (ret := (some .int)) (by decide +kernel) rfl rfl (Nat.le_of_ble_eq_true rfl) ?_
  intro p e s m below meth c ls X S hr hl
  obtain ⟨⟨hx, hb, hml, hown, hts⟩, hE, hI, hlocks⟩ := id X
  have hl : lv_has ls 3 [(0, .ref (ad 36)), (1, .int (nI i)), (2, .int y)] := hl
  refine lv_aload_n hx hb dX5_used_0 rfl (lv_at hl 0 rfl) ?_
  refine lv_iload_n hx hb dX5_used_1 rfl (lv_at hl 1 rfl) ?_
  refine lv_iload_n hx hb dX5_used_2 rfl (lv_at hl 2 rfl) ?_
  refine r_V0 X S (e4_X5_isAward l D cA ad _ F i hi hM y h) ob_M rfl (cwV 2 hts gX5_used_X5_isAward rfl rfl rfl (by decide +kernel) ⟨Nat.le_of_ble_eq_true rfl, Nat.le_of_ble_eq_true rfl⟩) rfl hl.1 rfl (Nat.le_of_ble_eq_true rfl) dX5_used_3 ⟨Nat.zero_le _, Nat.zero_le _⟩ (fun H locs S => ?_)
  obtain ⟨F_1, eF_1⟩ : ∃ z, z = u2 F 36 0 1 := ⟨_, rfl⟩
  rw [← eF_1] at S
  refine lv_if_eq (tgt := 18) hx hb dX5_used_6 (by decide) (fun _ => ?_) (fun z => False.elim (by first | exact absurd z (by decide) | exact absurd (by decide) z))
  refine lv_iconst (v := 0) hx hb dX5_used_18 (by decide) ?_
  exact r_iret X S hr dX5_used_19 (Nat.le_of_ble_eq_true rfl) (Nat.le_of_ble_eq_true rfl) (by rfl) (by simp only [th, eF_1])

set_option maxHeartbeats 1000000 in
set_option maxRecDepth 100000 in
theorem e1_X5_used (l : Launch) (D : va_G) (cA : Nat → ClassId) (ad : Nat → Nat) (sz : Nat) (F : FF) (x y : Int32) (h : wi x 0 3 = false) : CI l D cA ad sz yX5_used wsX5_used 5 119 0 0 [.ref (ad 36), .int x, .int y] F (some (.int 0)) (th F 1) := by
  refine CI_of (own := RX5) (cc := cX5_used) (maxL := 3) (ret := (some .int)) (by decide +kernel) rfl rfl (Nat.le_of_ble_eq_true rfl) ?_
  intro p e s m below meth c ls X S hr hl
  obtain ⟨⟨hx, hb, hml, hown, hts⟩, hE, hI, hlocks⟩ := id X
  have hl : lv_has ls 3 [(0, .ref (ad 36)), (1, .int x), (2, .int y)] := hl
  refine lv_aload_n hx hb dX5_used_0 rfl (lv_at hl 0 rfl) ?_
  refine lv_iload_n hx hb dX5_used_1 rfl (lv_at hl 1 rfl) ?_
  refine lv_iload_n hx hb dX5_used_2 rfl (lv_at hl 2 rfl) ?_
  refine r_V0 X S (e1_X5_isAward l D cA ad _ F x y h) ob_M rfl (cwV 2 hts gX5_used_X5_isAward rfl rfl rfl (by decide +kernel) ⟨Nat.le_of_ble_eq_true rfl, Nat.le_of_ble_eq_true rfl⟩) rfl hl.1 rfl (Nat.le_of_ble_eq_true rfl) dX5_used_3 ⟨Nat.zero_le _, Nat.zero_le _⟩ (fun H locs S => ?_)
  obtain ⟨F_1, eF_1⟩ : ∃ z, z = u2 F 36 0 1 := ⟨_, rfl⟩
  rw [← eF_1] at S
  refine lv_if_eq (tgt := 18) hx hb dX5_used_6 (by decide) (fun _ => ?_) (fun z => False.elim (by first | exact absurd z (by decide) | exact absurd (by decide) z))
  refine lv_iconst (v := 0) hx hb dX5_used_18 (by decide) ?_
  exact r_iret X S hr dX5_used_19 (Nat.le_of_ble_eq_true rfl) (Nat.le_of_ble_eq_true rfl) (by rfl) (by simp only [th, eF_1])

set_option maxHeartbeats 1000000 in
set_option maxRecDepth 100000 in
theorem c_X5_amountOf (l : Launch) (D : va_G) (cA : Nat → ClassId) (ad : Nat → Nat) (sz : Nat) (F : FF) (i : Nat) (hi : i < 4) (hM : OKM F i) (j : Nat) (hj : j < aM F i) : CI l D cA ad sz yX5_amountOf wsX5_amountOf 3 64 0 0 [.ref (ad 36), .int (nI i), .int (nI j)] F (some (.int (th F 0 52 (6 * i + j)))) (th F 0) := by
  refine CI_of (own := RX5) (cc := cX5_amountOf) (maxL := 3) (ret := (some .int)) (by decide +kernel) rfl rfl (Nat.le_of_ble_eq_true rfl) ?_
  intro p e s m below meth c ls X S hr hl
  obtain ⟨⟨hx, hb, hml, hown, hts⟩, hE, hI, hlocks⟩ := id X
  have hl : lv_has ls 3 [(0, .ref (ad 36)), (1, .int (nI i)), (2, .int (nI j))] := hl
  have hw5 : ∀ w ∈ wsX50, w.before _ s = true := fun w h => hts w ((by decide +kernel : ∀ w ∈ wsX50, w ∈ wsX5_amountOf) w h)
  refine lv_aload_n hx hb dX5_amountOf_0 rfl (lv_at hl 0 rfl) ?_
  refine lv_iload_n hx hb dX5_amountOf_1 rfl (lv_at hl 1 rfl) ?_
  refine lv_iload_n hx hb dX5_amountOf_2 rfl (lv_at hl 2 rfl) ?_
  refine r_V0 X S (c_X5_isAward l D cA ad _ F i hi hM j hj) ob_M rfl (cwV 2 hts gX5_amountOf_X5_isAward rfl rfl rfl (by decide +kernel) ⟨Nat.le_of_ble_eq_true rfl, Nat.le_of_ble_eq_true rfl⟩) rfl hl.1 rfl (Nat.le_of_ble_eq_true rfl) dX5_amountOf_3 ⟨Nat.zero_le _, Nat.zero_le _⟩ (fun H locs S => ?_)
  obtain ⟨F_1, eF_1⟩ : ∃ z, z = u2 F 36 0 0 := ⟨_, rfl⟩
  rw [← eF_1] at S
  refine lv_if_eq (tgt := 23) hx hb dX5_amountOf_6 (by decide) (fun z => False.elim (by first | exact absurd z (by decide) | exact absurd (by decide) z)) (fun _ => ?_)
  refine lv_aload_n hx hb dX5_amountOf_9 rfl (lv_at hl 0 rfl) ?_
  refine r_getr (q := 52) X S hw5 ob_M 22 ⟨rfl, by decide, rfl⟩ rfl (hts (.fieldLink RX5 66 "TermBillModel" "amounts" "[I") (by decide +kernel)) dX5_amountOf_10 ?_
  refine lv_bipush (v := 6) hx hb dX5_amountOf_13 (by decide) ?_
  refine lv_iload_n hx hb dX5_amountOf_15 rfl (lv_at hl 1 rfl) ?_
  refine lv_imul hx hb dX5_amountOf_16 ?_
  refine lv_topi (fun x_2 ex_2 => ?_)
  obtain rfl : x_2 = nI (6 * i) := ex_2.trans (nI_mul 6 i)
  refine lv_iload_n hx hb dX5_amountOf_17 rfl (lv_at hl 2 rfl) ?_
  refine lv_iadd hx hb dX5_amountOf_18 ?_
  refine lv_topi (fun x_3 ex_3 => ?_)
  obtain rfl : x_3 = nI ((6 * i) + j) := ex_3.trans (nI_add (6 * i) j)
  refine r_ialN X S (k := 52) (n := 24) (by unfold Ar; decide) (q := (6 * i) + j) rfl (by have := hM.2.2.1; omega) (by decide) dX5_amountOf_19 ?_
  refine lv_goto (tgt := 24) hx hb dX5_amountOf_20 (by decide) ?_
  exact r_iret X S hr dX5_amountOf_24 (Nat.le_of_ble_eq_true rfl) (Nat.le_of_ble_eq_true rfl) (by simp only [th, eF_1]) (by simp only [th, eF_1])

set_option maxHeartbeats 1000000 in
set_option maxRecDepth 100000 in
theorem e4_X5_amountOf (l : Launch) (D : va_G) (cA : Nat → ClassId) (ad : Nat → Nat) (sz : Nat) (F : FF) (i : Nat) (hi : i < 4) (hM : OKM F i) (y : Int32) (h : wi y 0 (nI (aM F i) - 1) = false) : CI l D cA ad sz yX5_amountOf wsX5_amountOf 3 64 0 0 [.ref (ad 36), .int (nI i), .int y] F (some (.int 0)) (th F 1) := by
  refine CI_of (own := RX5) (cc := cX5_amountOf) (maxL := 3) (ret := (some .int)) (by decide +kernel) rfl rfl (Nat.le_of_ble_eq_true rfl) ?_
  intro p e s m below meth c ls X S hr hl
  obtain ⟨⟨hx, hb, hml, hown, hts⟩, hE, hI, hlocks⟩ := id X
  have hl : lv_has ls 3 [(0, .ref (ad 36)), (1, .int (nI i)), (2, .int y)] := hl
  refine lv_aload_n hx hb dX5_amountOf_0 rfl (lv_at hl 0 rfl) ?_
  refine lv_iload_n hx hb dX5_amountOf_1 rfl (lv_at hl 1 rfl) ?_
  refine lv_iload_n hx hb dX5_amountOf_2 rfl (lv_at hl 2 rfl) ?_
  refine r_V0 X S (e4_X5_isAward l D cA ad _ F i hi hM y h) ob_M rfl (cwV 2 hts gX5_amountOf_X5_isAward rfl rfl rfl (by decide +kernel) ⟨Nat.le_of_ble_eq_true rfl, Nat.le_of_ble_eq_true rfl⟩) rfl hl.1 rfl (Nat.le_of_ble_eq_true rfl) dX5_amountOf_3 ⟨Nat.zero_le _, Nat.zero_le _⟩ (fun H locs S => ?_)
  obtain ⟨F_1, eF_1⟩ : ∃ z, z = u2 F 36 0 1 := ⟨_, rfl⟩
  rw [← eF_1] at S
  refine lv_if_eq (tgt := 23) hx hb dX5_amountOf_6 (by decide) (fun _ => ?_) (fun z => False.elim (by first | exact absurd z (by decide) | exact absurd (by decide) z))
  refine lv_iconst (v := 0) hx hb dX5_amountOf_23 (by decide) ?_
  exact r_iret X S hr dX5_amountOf_24 (Nat.le_of_ble_eq_true rfl) (Nat.le_of_ble_eq_true rfl) (by rfl) (by simp only [th, eF_1])

set_option maxHeartbeats 1000000 in
set_option maxRecDepth 100000 in
theorem e1_X5_amountOf (l : Launch) (D : va_G) (cA : Nat → ClassId) (ad : Nat → Nat) (sz : Nat) (F : FF) (x y : Int32) (h : wi x 0 3 = false) : CI l D cA ad sz yX5_amountOf wsX5_amountOf 3 64 0 0 [.ref (ad 36), .int x, .int y] F (some (.int 0)) (th F 1) := by
  refine CI_of (own := RX5) (cc := cX5_amountOf) (maxL := 3) (ret := (some .int)) (by decide +kernel) rfl rfl (Nat.le_of_ble_eq_true rfl) ?_
  intro p e s m below meth c ls X S hr hl
  obtain ⟨⟨hx, hb, hml, hown, hts⟩, hE, hI, hlocks⟩ := id X
  have hl : lv_has ls 3 [(0, .ref (ad 36)), (1, .int x), (2, .int y)] := hl
  refine lv_aload_n hx hb dX5_amountOf_0 rfl (lv_at hl 0 rfl) ?_
  refine lv_iload_n hx hb dX5_amountOf_1 rfl (lv_at hl 1 rfl) ?_
  refine lv_iload_n hx hb dX5_amountOf_2 rfl (lv_at hl 2 rfl) ?_
  refine r_V0 X S (e1_X5_isAward l D cA ad _ F x y h) ob_M rfl (cwV 2 hts gX5_amountOf_X5_isAward rfl rfl rfl (by decide +kernel) ⟨Nat.le_of_ble_eq_true rfl, Nat.le_of_ble_eq_true rfl⟩) rfl hl.1 rfl (Nat.le_of_ble_eq_true rfl) dX5_amountOf_3 ⟨Nat.zero_le _, Nat.zero_le _⟩ (fun H locs S => ?_)
  obtain ⟨F_1, eF_1⟩ : ∃ z, z = u2 F 36 0 1 := ⟨_, rfl⟩
  rw [← eF_1] at S
  refine lv_if_eq (tgt := 23) hx hb dX5_amountOf_6 (by decide) (fun _ => ?_) (fun z => False.elim (by first | exact absurd z (by decide) | exact absurd (by decide) z))
  refine lv_iconst (v := 0) hx hb dX5_amountOf_23 (by decide) ?_
  exact r_iret X S hr dX5_amountOf_24 (Nat.le_of_ble_eq_true rfl) (Nat.le_of_ble_eq_true rfl) (by rfl) (by simp only [th, eF_1])

set_option maxHeartbeats 1000000 in
set_option maxRecDepth 100000 in
theorem c_X5_paid (l : Launch) (D : va_G) (cA : Nat → ClassId) (ad : Nat → Nat) (sz : Nat) (F : FF) (i : Nat) (hi : i < 4) : CI l D cA ad sz yX5_paid wsX5_paid 2 42 0 0 [.ref (ad 36), .int (nI i)] F (some (.int (th F 0 53 i))) (th F 0) := by
  refine CI_of (own := RX5) (cc := cX5_paid) (maxL := 2) (ret := (some .int)) (by decide +kernel) rfl rfl (Nat.le_of_ble_eq_true rfl) ?_
  intro p e s m below meth c ls X S hr hl
  obtain ⟨⟨hx, hb, hml, hown, hts⟩, hE, hI, hlocks⟩ := id X
  have hl : lv_has ls 2 [(0, .ref (ad 36)), (1, .int (nI i))] := hl
  have hw5 : ∀ w ∈ wsX50, w.before _ s = true := fun w h => hts w ((by decide +kernel : ∀ w ∈ wsX50, w ∈ wsX5_paid) w h)
  refine lv_aload_n hx hb dX5_paid_0 rfl (lv_at hl 0 rfl) ?_
  refine lv_iload_n hx hb dX5_paid_1 rfl (lv_at hl 1 rfl) ?_
  refine r_S0 X S (c_X5_isStudent l D cA ad _ F (nI i)) (va_cwS 1 hts gX5_paid_X5_isStudent rfl rfl rfl (by decide +kernel) ⟨Nat.le_of_ble_eq_true rfl, Nat.le_of_ble_eq_true rfl⟩) rfl hl.1 rfl (Nat.le_of_ble_eq_true rfl) dX5_paid_2 ⟨Nat.zero_le _, Nat.zero_le _⟩ (fun H locs S => ?_)
  refine lv_if_eq (tgt := 12) hx hb dX5_paid_5 (by decide) (fun z => False.elim (by rw [(wi4 i hi)] at z; revert z; decide)) (fun _ => ?_)
  refine lv_iconst (v := 0) hx hb dX5_paid_8 (by decide) ?_
  refine lv_goto (tgt := 13) hx hb dX5_paid_9 (by decide) ?_
  refine r_V0 X S (c_X5_holds0 l D cA ad _ F) ob_M rfl (cwV 1 hts gX5_paid_X5_holds rfl rfl rfl (by decide +kernel) ⟨Nat.le_of_ble_eq_true rfl, Nat.le_of_ble_eq_true rfl⟩) rfl hl.1 rfl (Nat.le_of_ble_eq_true rfl) dX5_paid_13 ⟨Nat.zero_le _, Nat.zero_le _⟩ (fun H locs S => ?_)
  obtain ⟨F_1, eF_1⟩ : ∃ z, z = u2 F 36 0 0 := ⟨_, rfl⟩
  rw [← eF_1] at S
  refine lv_if_eq (tgt := 28) hx hb dX5_paid_16 (by decide) (fun z => False.elim (by first | exact absurd z (by decide) | exact absurd (by decide) z)) (fun _ => ?_)
  refine lv_aload_n hx hb dX5_paid_19 rfl (lv_at hl 0 rfl) ?_
  refine r_getr (q := 53) X S hw5 ob_M 23 ⟨rfl, by decide, rfl⟩ rfl (hts (.fieldLink RX5 69 "TermBillModel" "paid" "[I") (by decide +kernel)) dX5_paid_20 ?_
  refine lv_iload_n hx hb dX5_paid_23 rfl (lv_at hl 1 rfl) ?_
  refine r_ialN X S (k := 53) (n := 4) (by unfold Ar; decide) (q := i) rfl (by omega) (by decide) dX5_paid_24 ?_
  refine lv_goto (tgt := 29) hx hb dX5_paid_25 (by decide) ?_
  exact r_iret X S hr dX5_paid_29 (Nat.le_of_ble_eq_true rfl) (Nat.le_of_ble_eq_true rfl) (by simp only [th, eF_1]) (by simp only [th, eF_1])

set_option maxHeartbeats 1000000 in
set_option maxRecDepth 100000 in
theorem e1_X5_paid (l : Launch) (D : va_G) (cA : Nat → ClassId) (ad : Nat → Nat) (sz : Nat) (F : FF) (x : Int32) (h : wi x 0 3 = false) : CI l D cA ad sz yX5_paid wsX5_paid 2 42 0 0 [.ref (ad 36), .int x] F (some (.int 0)) (th F 1) := by
  refine CI_of (own := RX5) (cc := cX5_paid) (maxL := 2) (ret := (some .int)) (by decide +kernel) rfl rfl (Nat.le_of_ble_eq_true rfl) ?_
  intro p e s m below meth c ls X S hr hl
  obtain ⟨⟨hx, hb, hml, hown, hts⟩, hE, hI, hlocks⟩ := id X
  have hl : lv_has ls 2 [(0, .ref (ad 36)), (1, .int x)] := hl
  refine lv_aload_n hx hb dX5_paid_0 rfl (lv_at hl 0 rfl) ?_
  refine lv_iload_n hx hb dX5_paid_1 rfl (lv_at hl 1 rfl) ?_
  refine r_S0 X S (c_X5_isStudent l D cA ad _ F x) (va_cwS 1 hts gX5_paid_X5_isStudent rfl rfl rfl (by decide +kernel) ⟨Nat.le_of_ble_eq_true rfl, Nat.le_of_ble_eq_true rfl⟩) rfl hl.1 rfl (Nat.le_of_ble_eq_true rfl) dX5_paid_2 ⟨Nat.zero_le _, Nat.zero_le _⟩ (fun H locs S => ?_)
  refine lv_if_eq (tgt := 12) hx hb dX5_paid_5 (by decide) (fun _ => ?_) (fun z => False.elim (by rw [h] at z; revert z; decide))
  refine lv_iconst (v := 1) hx hb dX5_paid_12 (by decide) ?_
  refine r_V0 X S (c_X5_holdsn l D cA ad _ F 1 (by decide)) ob_M rfl (cwV 1 hts gX5_paid_X5_holds rfl rfl rfl (by decide +kernel) ⟨Nat.le_of_ble_eq_true rfl, Nat.le_of_ble_eq_true rfl⟩) rfl hl.1 rfl (Nat.le_of_ble_eq_true rfl) dX5_paid_13 ⟨Nat.zero_le _, Nat.zero_le _⟩ (fun H locs S => ?_)
  obtain ⟨F_1, eF_1⟩ : ∃ z, z = u2 F 36 0 1 := ⟨_, rfl⟩
  rw [← eF_1] at S
  refine lv_if_eq (tgt := 28) hx hb dX5_paid_16 (by decide) (fun _ => ?_) (fun z => False.elim (by first | exact absurd z (by decide) | exact absurd (by decide) z))
  refine lv_iconst (v := 0) hx hb dX5_paid_28 (by decide) ?_
  exact r_iret X S hr dX5_paid_29 (Nat.le_of_ble_eq_true rfl) (Nat.le_of_ble_eq_true rfl) (by rfl) (by simp only [th, eF_1])

set_option maxHeartbeats 1000000 in
set_option maxRecDepth 100000 in
theorem c_X5_owed (l : Launch) (D : va_G) (cA : Nat → ClassId) (ad : Nat → Nat) (sz : Nat) (F : FF) (i : Nat) (hi : i < 4) (hM : OKM F i) : CI l D cA ad sz yX5_owed wsX5_owed 6 140 0 0 [.ref (ad 36), .int (nI i)] F (some (.int (owM (th F 0) i))) (th F 0) := by
  refine CI_of (own := RX5) (cc := cX5_owed) (maxL := 2) (ret := (some .int)) (by decide +kernel) rfl rfl (Nat.le_of_ble_eq_true rfl) ?_
  intro p e s m below meth c ls X S hr hl
  obtain ⟨⟨hx, hb, hml, hown, hts⟩, hE, hI, hlocks⟩ := id X
  have hl : lv_has ls 2 [(0, .ref (ad 36)), (1, .int (nI i))] := hl
  refine lv_aload_n hx hb dX5_owed_0 rfl (lv_at hl 0 rfl) ?_
  refine lv_iload_n hx hb dX5_owed_1 rfl (lv_at hl 1 rfl) ?_
  refine r_S0 X S (c_X5_isStudent l D cA ad _ F (nI i)) (va_cwS 1 hts gX5_owed_X5_isStudent rfl rfl rfl (by decide +kernel) ⟨Nat.le_of_ble_eq_true rfl, Nat.le_of_ble_eq_true rfl⟩) rfl hl.1 rfl (Nat.le_of_ble_eq_true rfl) dX5_owed_2 ⟨Nat.zero_le _, Nat.zero_le _⟩ (fun H locs S => ?_)
  refine lv_if_eq (tgt := 12) hx hb dX5_owed_5 (by decide) (fun z => False.elim (by rw [(wi4 i hi)] at z; revert z; decide)) (fun _ => ?_)
  refine lv_iconst (v := 0) hx hb dX5_owed_8 (by decide) ?_
  refine lv_goto (tgt := 13) hx hb dX5_owed_9 (by decide) ?_
  refine r_V0 X S (c_X5_holds0 l D cA ad _ F) ob_M rfl (cwV 1 hts gX5_owed_X5_holds rfl rfl rfl (by decide +kernel) ⟨Nat.le_of_ble_eq_true rfl, Nat.le_of_ble_eq_true rfl⟩) rfl hl.1 rfl (Nat.le_of_ble_eq_true rfl) dX5_owed_13 ⟨Nat.zero_le _, Nat.zero_le _⟩ (fun H locs S => ?_)
  obtain ⟨F_1, eF_1⟩ : ∃ z, z = u2 F 36 0 0 := ⟨_, rfl⟩
  rw [← eF_1] at S
  refine lv_if_eq (tgt := 27) hx hb dX5_owed_16 (by decide) (fun z => False.elim (by first | exact absurd z (by decide) | exact absurd (by decide) z)) (fun _ => ?_)
  refine lv_aload_n hx hb dX5_owed_19 rfl (lv_at hl 0 rfl) ?_
  refine lv_iload_n hx hb dX5_owed_20 rfl (lv_at hl 1 rfl) ?_
  refine r_V0 X S (c_X5_owedOf l D cA ad _ F_1 i hi (by rw [eF_1]; exact OKM_u2 hM (by decide) (by decide) (by decide))) ob_M rfl (cwV 1 hts gX5_owed_X5_owedOf rfl rfl rfl (by decide +kernel) ⟨Nat.le_of_ble_eq_true rfl, Nat.le_of_ble_eq_true rfl⟩) rfl hl.1 rfl (Nat.le_of_ble_eq_true rfl) dX5_owed_21 ⟨Nat.zero_le _, Nat.zero_le _⟩ (fun H locs S => ?_)
  refine lv_goto (tgt := 28) hx hb dX5_owed_24 (by decide) ?_
  exact r_iret X S hr dX5_owed_28 (Nat.le_of_ble_eq_true rfl) (Nat.le_of_ble_eq_true rfl) (by simp only [th, eF_1]) (by simp only [th, eF_1])

set_option maxHeartbeats 1000000 in
set_option maxRecDepth 100000 in
theorem e1_X5_owed (l : Launch) (D : va_G) (cA : Nat → ClassId) (ad : Nat → Nat) (sz : Nat) (F : FF) (x : Int32) (h : wi x 0 3 = false) : CI l D cA ad sz yX5_owed wsX5_owed 6 140 0 0 [.ref (ad 36), .int x] F (some (.int 0)) (th F 1) := by
  refine CI_of (own := RX5) (cc := cX5_owed) (maxL := 2) (ret := (some .int)) (by decide +kernel) rfl rfl (Nat.le_of_ble_eq_true rfl) ?_
  intro p e s m below meth c ls X S hr hl
  obtain ⟨⟨hx, hb, hml, hown, hts⟩, hE, hI, hlocks⟩ := id X
  have hl : lv_has ls 2 [(0, .ref (ad 36)), (1, .int x)] := hl
  refine lv_aload_n hx hb dX5_owed_0 rfl (lv_at hl 0 rfl) ?_
  refine lv_iload_n hx hb dX5_owed_1 rfl (lv_at hl 1 rfl) ?_
  refine r_S0 X S (c_X5_isStudent l D cA ad _ F x) (va_cwS 1 hts gX5_owed_X5_isStudent rfl rfl rfl (by decide +kernel) ⟨Nat.le_of_ble_eq_true rfl, Nat.le_of_ble_eq_true rfl⟩) rfl hl.1 rfl (Nat.le_of_ble_eq_true rfl) dX5_owed_2 ⟨Nat.zero_le _, Nat.zero_le _⟩ (fun H locs S => ?_)
  refine lv_if_eq (tgt := 12) hx hb dX5_owed_5 (by decide) (fun _ => ?_) (fun z => False.elim (by rw [h] at z; revert z; decide))
  refine lv_iconst (v := 1) hx hb dX5_owed_12 (by decide) ?_
  refine r_V0 X S (c_X5_holdsn l D cA ad _ F 1 (by decide)) ob_M rfl (cwV 1 hts gX5_owed_X5_holds rfl rfl rfl (by decide +kernel) ⟨Nat.le_of_ble_eq_true rfl, Nat.le_of_ble_eq_true rfl⟩) rfl hl.1 rfl (Nat.le_of_ble_eq_true rfl) dX5_owed_13 ⟨Nat.zero_le _, Nat.zero_le _⟩ (fun H locs S => ?_)
  obtain ⟨F_1, eF_1⟩ : ∃ z, z = u2 F 36 0 1 := ⟨_, rfl⟩
  rw [← eF_1] at S
  refine lv_if_eq (tgt := 27) hx hb dX5_owed_16 (by decide) (fun _ => ?_) (fun z => False.elim (by first | exact absurd z (by decide) | exact absurd (by decide) z))
  refine lv_iconst (v := 0) hx hb dX5_owed_27 (by decide) ?_
  exact r_iret X S hr dX5_owed_28 (Nat.le_of_ble_eq_true rfl) (Nat.le_of_ble_eq_true rfl) (by rfl) (by simp only [th, eF_1])

set_option maxHeartbeats 1000000 in
set_option maxRecDepth 100000 in
theorem c_X5_hasHold (l : Launch) (D : va_G) (cA : Nat → ClassId) (ad : Nat → Nat) (sz : Nat) (F : FF) (i : Nat) (hi : i < 4) (hM : OKM F i) : CI l D cA ad sz yX5_hasHold wsX5_hasHold 6 140 0 0 [.ref (ad 36), .int (nI i)] F (some (.int (bI (!decide (owM (th F 0) i ≤ th F 0 36 8))))) (th F 0) := by
  refine CI_of (own := RX5) (cc := cX5_hasHold) (maxL := 2) (ret := (some .boolean)) (by decide +kernel) rfl rfl (Nat.le_of_ble_eq_true rfl) ?_
  intro p e s m below meth c ls X S hr hl
  obtain ⟨⟨hx, hb, hml, hown, hts⟩, hE, hI, hlocks⟩ := id X
  have hl : lv_has ls 2 [(0, .ref (ad 36)), (1, .int (nI i))] := hl
  have hw5 : ∀ w ∈ wsX50, w.before _ s = true := fun w h => hts w ((by decide +kernel : ∀ w ∈ wsX50, w ∈ wsX5_hasHold) w h)
  refine lv_aload_n hx hb dX5_hasHold_0 rfl (lv_at hl 0 rfl) ?_
  refine lv_iload_n hx hb dX5_hasHold_1 rfl (lv_at hl 1 rfl) ?_
  refine r_S0 X S (c_X5_isStudent l D cA ad _ F (nI i)) (va_cwS 1 hts gX5_hasHold_X5_isStudent rfl rfl rfl (by decide +kernel) ⟨Nat.le_of_ble_eq_true rfl, Nat.le_of_ble_eq_true rfl⟩) rfl hl.1 rfl (Nat.le_of_ble_eq_true rfl) dX5_hasHold_2 ⟨Nat.zero_le _, Nat.zero_le _⟩ (fun H locs S => ?_)
  refine lv_if_eq (tgt := 12) hx hb dX5_hasHold_5 (by decide) (fun z => False.elim (by rw [(wi4 i hi)] at z; revert z; decide)) (fun _ => ?_)
  refine lv_iconst (v := 0) hx hb dX5_hasHold_8 (by decide) ?_
  refine lv_goto (tgt := 13) hx hb dX5_hasHold_9 (by decide) ?_
  refine r_V0 X S (c_X5_holds0 l D cA ad _ F) ob_M rfl (cwV 1 hts gX5_hasHold_X5_holds rfl rfl rfl (by decide +kernel) ⟨Nat.le_of_ble_eq_true rfl, Nat.le_of_ble_eq_true rfl⟩) rfl hl.1 rfl (Nat.le_of_ble_eq_true rfl) dX5_hasHold_13 ⟨Nat.zero_le _, Nat.zero_le _⟩ (fun H locs S => ?_)
  obtain ⟨F_1, eF_1⟩ : ∃ z, z = u2 F 36 0 0 := ⟨_, rfl⟩
  rw [← eF_1] at S
  refine lv_if_eq (tgt := 35) hx hb dX5_hasHold_16 (by decide) (fun z => False.elim (by first | exact absurd z (by decide) | exact absurd (by decide) z)) (fun _ => ?_)
  refine lv_aload_n hx hb dX5_hasHold_19 rfl (lv_at hl 0 rfl) ?_
  refine lv_iload_n hx hb dX5_hasHold_20 rfl (lv_at hl 1 rfl) ?_
  refine r_V0 X S (c_X5_owedOf l D cA ad _ F_1 i hi (by rw [eF_1]; exact OKM_u2 hM (by decide) (by decide) (by decide))) ob_M rfl (cwV 1 hts gX5_hasHold_X5_owedOf rfl rfl rfl (by decide +kernel) ⟨Nat.le_of_ble_eq_true rfl, Nat.le_of_ble_eq_true rfl⟩) rfl hl.1 rfl (Nat.le_of_ble_eq_true rfl) dX5_hasHold_21 ⟨Nat.zero_le _, Nat.zero_le _⟩ (fun H locs S => ?_)
  refine lv_aload_n hx hb dX5_hasHold_24 rfl (lv_at hl 0 rfl) ?_
  refine r_geti X S hw5 ob_M 8 ⟨rfl, by decide, rfl⟩ rfl (hts (.fieldLink RX5 104 "TermBillModel" "limit" "I") (by decide +kernel)) dX5_hasHold_25 ?_
  refine lv_icmp_le (tgt := 35) hx hb dX5_hasHold_28 (by decide) (fun c_2 => ?_) (fun c_2 => ?_)
  · refine lv_iconst (v := 0) hx hb dX5_hasHold_35 (by decide) ?_
    exact r_zret X S hr rfl dX5_hasHold_36 (Nat.le_of_ble_eq_true rfl) (Nat.le_of_ble_eq_true rfl) (by rw [eF_1] at c_2; simp only [c_2, decide_true, decide_false, Bool.not_true, Bool.not_false]; rfl) eF_1
  · refine lv_iconst (v := 1) hx hb dX5_hasHold_31 (by decide) ?_
    refine lv_goto (tgt := 36) hx hb dX5_hasHold_32 (by decide) ?_
    exact r_zret X S hr rfl dX5_hasHold_36 (Nat.le_of_ble_eq_true rfl) (Nat.le_of_ble_eq_true rfl) (by rw [eF_1] at c_2; simp only [c_2, decide_true, decide_false, Bool.not_true, Bool.not_false]; rfl) eF_1

set_option maxHeartbeats 1000000 in
set_option maxRecDepth 100000 in
theorem e1_X5_hasHold (l : Launch) (D : va_G) (cA : Nat → ClassId) (ad : Nat → Nat) (sz : Nat) (F : FF) (x : Int32) (h : wi x 0 3 = false) : CI l D cA ad sz yX5_hasHold wsX5_hasHold 6 140 0 0 [.ref (ad 36), .int x] F (some (.int 0)) (th F 1) := by
  refine CI_of (own := RX5) (cc := cX5_hasHold) (maxL := 2) (ret := (some .boolean)) (by decide +kernel) rfl rfl (Nat.le_of_ble_eq_true rfl) ?_
  intro p e s m below meth c ls X S hr hl
  obtain ⟨⟨hx, hb, hml, hown, hts⟩, hE, hI, hlocks⟩ := id X
  have hl : lv_has ls 2 [(0, .ref (ad 36)), (1, .int x)] := hl
  refine lv_aload_n hx hb dX5_hasHold_0 rfl (lv_at hl 0 rfl) ?_
  refine lv_iload_n hx hb dX5_hasHold_1 rfl (lv_at hl 1 rfl) ?_
  refine r_S0 X S (c_X5_isStudent l D cA ad _ F x) (va_cwS 1 hts gX5_hasHold_X5_isStudent rfl rfl rfl (by decide +kernel) ⟨Nat.le_of_ble_eq_true rfl, Nat.le_of_ble_eq_true rfl⟩) rfl hl.1 rfl (Nat.le_of_ble_eq_true rfl) dX5_hasHold_2 ⟨Nat.zero_le _, Nat.zero_le _⟩ (fun H locs S => ?_)
  refine lv_if_eq (tgt := 12) hx hb dX5_hasHold_5 (by decide) (fun _ => ?_) (fun z => False.elim (by rw [h] at z; revert z; decide))
  refine lv_iconst (v := 1) hx hb dX5_hasHold_12 (by decide) ?_
  refine r_V0 X S (c_X5_holdsn l D cA ad _ F 1 (by decide)) ob_M rfl (cwV 1 hts gX5_hasHold_X5_holds rfl rfl rfl (by decide +kernel) ⟨Nat.le_of_ble_eq_true rfl, Nat.le_of_ble_eq_true rfl⟩) rfl hl.1 rfl (Nat.le_of_ble_eq_true rfl) dX5_hasHold_13 ⟨Nat.zero_le _, Nat.zero_le _⟩ (fun H locs S => ?_)
  obtain ⟨F_1, eF_1⟩ : ∃ z, z = u2 F 36 0 1 := ⟨_, rfl⟩
  rw [← eF_1] at S
  refine lv_if_eq (tgt := 35) hx hb dX5_hasHold_16 (by decide) (fun _ => ?_) (fun z => False.elim (by first | exact absurd z (by decide) | exact absurd (by decide) z))
  refine lv_iconst (v := 0) hx hb dX5_hasHold_35 (by decide) ?_
  exact r_zret X S hr rfl dX5_hasHold_36 (Nat.le_of_ble_eq_true rfl) (Nat.le_of_ble_eq_true rfl) (by rfl) (by simp only [th, eF_1])
