set_option maxHeartbeats 1000000 in
set_option maxRecDepth 100000 in
theorem b_isOnce {l : Launch} (hst : l.stackTraces = false) {n : Nat} {M : FF} (hn : n ≤ 512) (h8 : 0 ≤ (M 36 8).toInt) {i : Nat} (hi : i < 4) {F : FF} (hF : RX n F M) (D : va_G) (cA : Nat → ClassId) (ad : Nat → Nat) (sz : Nat) : CE l D cA ad sz yL_isOnce wsL_isOnce 8 136 1 6 [.ref (ad 0), .int (nI i)] F (fun F1 : FF => RX n F1 M) := by
  refine CE_of (own := RL) (cc := cL_isOnce) (maxL := 6) (ret := (some .boolean)) (by decide +kernel) rfl rfl (Nat.le_of_ble_eq_true rfl) ?_
  intro p e s m below meth c ls X S hr hl
  obtain ⟨⟨hx, hb, hml, hown, hts⟩, hE, hI, hlocks⟩ := id X
  have hl : lv_has ls 6 [(0, .ref (ad 0)), (1, .int (nI i))] := hl
  have f1 := fa_sp hn hF hi
  have f2 := fa_cr hF hi
  have f3 : (tS (usF M i) (aM M i)).toInt ≤ (alM M i - spM M i).toInt := (fa_tot hn hF hi).2
  have f4 := fa_ow hn hF hi
  have f6 := aw_6 hF hi
  have e80 : (80 : Int32).toInt = 80 := by decide
  have eal : tuM M i + M 48 i + M 49 i = alM M i := rfl
  have loop : ∀ (q j : Nat), j + q = aM M i → ∀ F : FF, RX n F M → ∀ (H : Heap) (locs : List Loc) (ls : Array Slot), St D cA ad F s.heap H locs → lv_has ls 6 [(0, .ref (ad 0)), (1, .int (nI i)), (2, .int (tuM M i + M 48 i + M 49 i)), (3, .int (tS (usF M i) j)), (4, .int (nI j)), (5, .int 1)] → W p l e (RM 8 136 1 6) s m [.ref (ad 0), .int (nI i)].toArray below meth c H locs 0 0 (MQ below (CQE D cA ad s.heap.size (fun F1 : FF => RX n F1 M)) [.ref (ad 0), .int (nI i)].toArray s 1 6 (AA ad s.heap.size)) (F0 m 68 ls []) := by
    intro q
    induction q with
    | zero =>
      intro j hjj F hF H locs ls S hl
      obtain rfl : j = aM M i := by omega
      refine lv_aload_n hx hb dL_isOnce_68 rfl (lv_at hl 0 rfl) ?_
      refine lv_iload_n hx hb dL_isOnce_69 rfl (lv_at hl 1 rfl) ?_
      refine lv_iload hx hb dL_isOnce_70 (lv_at hl 4 rfl) ?_
      refine r_SW X S (u_none hF hi (by omega) (by omega) hst D cA ad _) (vx_cwSW 3 (hh := [(0, 6, 7, 51)]) hts gL_isOnce_L_used rfl rfl rfl (by decide +kernel) ⟨Nat.le_of_ble_eq_true rfl, Nat.le_of_ble_eq_true rfl⟩) rfl hl.1 rfl (Nat.le_of_ble_eq_true rfl) dL_isOnce_72 ⟨(show 0 + 1 ≤ 1 by omega), (show 0 + 6 ≤ 6 by omega)⟩ (fun H locs S => ?_)
      refine lv_if_lt (tgt := 123) hx hb dL_isOnce_75 (by decide) (fun _ => ?_) (fun z => False.elim (absurd (by decide) z))
      refine lv_iload hx hb dL_isOnce_123 (lv_at hl 5 rfl) ?_
      refine lv_if_eq (tgt := 189) hx hb dL_isOnce_125 (by decide) (fun z => False.elim (by first | exact absurd z (by decide) | exact absurd (by decide) z)) (fun _ => ?_)
      refine lv_iload hx hb dL_isOnce_128 (lv_at hl 4 rfl) ?_
      refine lv_bipush (v := 6) hx hb dL_isOnce_130 (by decide) ?_
      refine lv_icmp_gt (tgt := 189) hx hb dL_isOnce_132 (by decide) (fun z => False.elim (by have q := ilt.mp z; rw [iN (by omega)] at q; have e6 : (6 : Int32).toInt = 6 := (by decide); rw [e6] at q; omega)) (fun _ => ?_)
      refine lv_iload_n hx hb dL_isOnce_135 rfl (lv_at hl 3 rfl) ?_
      refine lv_iload_n hx hb dL_isOnce_136 rfl (lv_at hl 2 rfl) ?_
      refine lv_aload_n hx hb dL_isOnce_137 rfl (lv_at hl 0 rfl) ?_
      refine lv_iload_n hx hb dL_isOnce_138 rfl (lv_at hl 1 rfl) ?_
      refine r_V0 X S (a_sponsored hF hi l D cA ad _) ob_0 rfl (cwV 1 hts gL_isOnce_X4_sponsored rfl rfl rfl (by decide +kernel) ⟨Nat.le_of_ble_eq_true rfl, Nat.le_of_ble_eq_true rfl⟩) rfl hl.1 rfl (Nat.le_of_ble_eq_true rfl) dL_isOnce_139 ⟨(show (0 + 1) ≤ 1 by omega), (show (0 + 6) ≤ 6 by omega)⟩ (fun H locs S => ?_)
      refine lv_isub hx hb dL_isOnce_142 ?_
      refine lv_icmp_gt (tgt := 189) hx hb dL_isOnce_143 (by decide) (fun z => False.elim (by have q := ilt.mp z; rw [eal] at q; omega)) (fun _ => ?_)
      refine lv_aload_n hx hb dL_isOnce_146 rfl (lv_at hl 0 rfl) ?_
      refine lv_iload_n hx hb dL_isOnce_147 rfl (lv_at hl 1 rfl) ?_
      obtain ⟨F_1, c_2, r_3⟩ := a_owed (by omega) hF hi
      refine r_V0 X S (c_2 l D cA ad _) ob_0 rfl (cwV 1 hts gL_isOnce_X4_owed rfl rfl rfl (by decide +kernel) ⟨Nat.le_of_ble_eq_true rfl, Nat.le_of_ble_eq_true rfl⟩) rfl hl.1 rfl (Nat.le_of_ble_eq_true rfl) dL_isOnce_148 ⟨(show (0 + 1) ≤ 1 by omega), (show (0 + 6) ≤ 6 by omega)⟩ (fun H locs S => ?_)
      refine lv_iload_n hx hb dL_isOnce_151 rfl (lv_at hl 2 rfl) ?_
      refine lv_aload_n hx hb dL_isOnce_152 rfl (lv_at hl 0 rfl) ?_
      refine lv_iload_n hx hb dL_isOnce_153 rfl (lv_at hl 1 rfl) ?_
      refine r_V0 X S (a_sponsored r_3 hi l D cA ad _) ob_0 rfl (cwV 1 hts gL_isOnce_X4_sponsored rfl rfl rfl (by decide +kernel) ⟨Nat.le_of_ble_eq_true rfl, Nat.le_of_ble_eq_true rfl⟩) rfl hl.1 rfl (Nat.le_of_ble_eq_true rfl) dL_isOnce_154 ⟨(show (0 + 1) ≤ 1 by omega), (show (0 + 6) ≤ 6 by omega)⟩ (fun H locs S => ?_)
      refine lv_isub hx hb dL_isOnce_157 ?_
      refine lv_iload_n hx hb dL_isOnce_158 rfl (lv_at hl 3 rfl) ?_
      refine lv_isub hx hb dL_isOnce_159 ?_
      refine lv_aload_n hx hb dL_isOnce_160 rfl (lv_at hl 0 rfl) ?_
      refine lv_iload_n hx hb dL_isOnce_161 rfl (lv_at hl 1 rfl) ?_
      refine r_V0 X S (a_paid r_3 hi l D cA ad _) ob_0 rfl (cwV 1 hts gL_isOnce_X4_paid rfl rfl rfl (by decide +kernel) ⟨Nat.le_of_ble_eq_true rfl, Nat.le_of_ble_eq_true rfl⟩) rfl hl.1 rfl (Nat.le_of_ble_eq_true rfl) dL_isOnce_162 ⟨(show (0 + 1) ≤ 1 by omega), (show (0 + 6) ≤ 6 by omega)⟩ (fun H locs S => ?_)
      refine lv_isub hx hb dL_isOnce_165 ?_
      refine lv_icmp_ne (tgt := 189) hx hb dL_isOnce_166 (by decide) (fun z => False.elim (z (by rw [eal]; exact f4))) (fun _ => ?_)
      refine lv_aload_n hx hb dL_isOnce_169 rfl (lv_at hl 0 rfl) ?_
      refine lv_iload_n hx hb dL_isOnce_170 rfl (lv_at hl 1 rfl) ?_
      obtain ⟨F_4, c_5, r_6⟩ := a_hasHold (by omega) r_3 hi
      refine r_V0 X S (c_5 l D cA ad _) ob_0 rfl (cwV 1 hts gL_isOnce_X4_hasHold rfl rfl rfl (by decide +kernel) ⟨Nat.le_of_ble_eq_true rfl, Nat.le_of_ble_eq_true rfl⟩) rfl hl.1 rfl (Nat.le_of_ble_eq_true rfl) dL_isOnce_171 ⟨(show (0 + 1) ≤ 1 by omega), (show (0 + 6) ≤ 6 by omega)⟩ (fun H locs S => ?_)
      refine lv_if_eq (tgt := 185) hx hb dL_isOnce_174 (by decide) (fun c_7 => ?_) (fun c_7 => ?_)
      · have c_7 : (!decide (owM M i ≤ M 36 8)) = false := bI_f c_7
        refine lv_iconst (v := 1) hx hb dL_isOnce_185 (by decide) ?_
        refine lv_goto (tgt := 190) hx hb dL_isOnce_186 (by decide) ?_
        exact e_zret X S hr dL_isOnce_190 (show (0 + 1) ≤ 1 by omega) (show (0 + 6) ≤ 6 by omega) rfl r_6
      · have c_7 : (!decide (owM M i ≤ M 36 8)) = true := bI_t c_7
        refine lv_aload_n hx hb dL_isOnce_177 rfl (lv_at hl 0 rfl) ?_
        refine lv_iload_n hx hb dL_isOnce_178 rfl (lv_at hl 1 rfl) ?_
        obtain ⟨F_8, c_9, r_10⟩ := a_owed (by omega) r_6 hi
        refine r_V0 X S (c_9 l D cA ad _) ob_0 rfl (cwV 1 hts gL_isOnce_X4_owed rfl rfl rfl (by decide +kernel) ⟨Nat.le_of_ble_eq_true rfl, Nat.le_of_ble_eq_true rfl⟩) rfl hl.1 rfl (Nat.le_of_ble_eq_true rfl) dL_isOnce_179 ⟨(show (0 + 1) ≤ 1 by omega), (show (0 + 6) ≤ 6 by omega)⟩ (fun H locs S => ?_)
        refine lv_if_le (tgt := 189) hx hb dL_isOnce_182 (by decide) (fun z => False.elim (by have q := ile.mp z; rw [i0] at q; have a := c_7; rw [Bool.not_eq_true', decide_eq_false_iff_not, ile] at a; omega)) (fun _ => ?_)
        refine lv_iconst (v := 1) hx hb dL_isOnce_185 (by decide) ?_
        refine lv_goto (tgt := 190) hx hb dL_isOnce_186 (by decide) ?_
        exact e_zret X S hr dL_isOnce_190 (show (0 + 1) ≤ 1 by omega) (show (0 + 6) ≤ 6 by omega) rfl r_10
    | succ q ih =>
      intro j hjj F hF H locs ls S hl
      have hj : j < aM M i := by omega
      refine lv_aload_n hx hb dL_isOnce_68 rfl (lv_at hl 0 rfl) ?_
      refine lv_iload_n hx hb dL_isOnce_69 rfl (lv_at hl 1 rfl) ?_
      refine lv_iload hx hb dL_isOnce_70 (lv_at hl 4 rfl) ?_
      obtain ⟨F_11, c_12, r_13⟩ := u_used (by omega) hF hi hj
      refine r_SW0 X S (c_12 l D cA ad _) (vx_cwSW 3 (hh := [(0, 6, 7, 51)]) hts gL_isOnce_L_used rfl rfl rfl (by decide +kernel) ⟨Nat.le_of_ble_eq_true rfl, Nat.le_of_ble_eq_true rfl⟩) rfl hl.1 rfl (Nat.le_of_ble_eq_true rfl) dL_isOnce_72 ⟨(show 0 ≤ 1 by omega), (show 0 ≤ 6 by omega)⟩ (fun H locs S => ?_)
      refine lv_if_lt (tgt := 123) hx hb dL_isOnce_75 (by decide) (fun z => False.elim (by have q := ilt.mp z; rw [i0] at q; have := (fa_us hn hF hi hj).2.1; omega)) (fun _ => ?_)
      refine lv_iload hx hb dL_isOnce_78 (lv_at hl 5 rfl) ?_
      refine lv_if_eq (tgt := 123) hx hb dL_isOnce_80 (by decide) (fun z => False.elim (by first | exact absurd z (by decide) | exact absurd (by decide) z)) (fun _ => ?_)
      refine lv_iload_n hx hb dL_isOnce_83 rfl (lv_at hl 3 rfl) ?_
      refine lv_aload_n hx hb dL_isOnce_84 rfl (lv_at hl 0 rfl) ?_
      refine lv_iload_n hx hb dL_isOnce_85 rfl (lv_at hl 1 rfl) ?_
      refine lv_iload hx hb dL_isOnce_86 (lv_at hl 4 rfl) ?_
      obtain ⟨F_14, c_15, r_16⟩ := u_used (by omega) r_13 hi hj
      refine r_SW0 X S (c_15 l D cA ad _) (vx_cwSW 3 (hh := [(0, 6, 7, 51)]) hts gL_isOnce_L_used rfl rfl rfl (by decide +kernel) ⟨Nat.le_of_ble_eq_true rfl, Nat.le_of_ble_eq_true rfl⟩) rfl hl.1 rfl (Nat.le_of_ble_eq_true rfl) dL_isOnce_88 ⟨(show 0 ≤ 1 by omega), (show 0 ≤ 6 by omega)⟩ (fun H locs S => ?_)
      refine lv_iadd hx hb dL_isOnce_91 ?_
      refine lv_istore_n (lv' := [(3, .int ((tS (usF M i) j) + (usR M i (nI j)))), (0, .ref (ad 0)), (1, .int (nI i)), (2, .int (tuM M i + M 48 i + M 49 i)), (4, .int (nI j)), (5, .int 1)]) hx hb dL_isOnce_92 rfl hl (by decide) rfl (fun ls hl => ?_)
      refine lv_aload_n hx hb dL_isOnce_93 rfl (lv_at hl 1 rfl) ?_
      refine lv_iload_n hx hb dL_isOnce_94 rfl (lv_at hl 2 rfl) ?_
      refine lv_iload hx hb dL_isOnce_95 (lv_at hl 4 rfl) ?_
      obtain ⟨F_17, c_18, r_19⟩ := u_used (by omega) r_16 hi hj
      refine r_SW0 X S (c_18 l D cA ad _) (vx_cwSW 3 (hh := [(0, 6, 7, 51)]) hts gL_isOnce_L_used rfl rfl rfl (by decide +kernel) ⟨Nat.le_of_ble_eq_true rfl, Nat.le_of_ble_eq_true rfl⟩) rfl hl.1 rfl (Nat.le_of_ble_eq_true rfl) dL_isOnce_97 ⟨(show 0 ≤ 1 by omega), (show 0 ≤ 6 by omega)⟩ (fun H locs S => ?_)
      refine lv_aload_n hx hb dL_isOnce_100 rfl (lv_at hl 1 rfl) ?_
      refine lv_iload_n hx hb dL_isOnce_101 rfl (lv_at hl 2 rfl) ?_
      refine lv_iload hx hb dL_isOnce_102 (lv_at hl 4 rfl) ?_
      refine r_V0 X S (a_amountOf r_19 hi hj l D cA ad _) ob_0 rfl (cwV 2 hts gL_isOnce_X4_amountOf rfl rfl rfl (by decide +kernel) ⟨Nat.le_of_ble_eq_true rfl, Nat.le_of_ble_eq_true rfl⟩) rfl hl.1 rfl (Nat.le_of_ble_eq_true rfl) dL_isOnce_104 ⟨(show 0 ≤ 1 by omega), (show 0 ≤ 6 by omega)⟩ (fun H locs S => ?_)
      refine lv_icmp_gt (tgt := 114) hx hb dL_isOnce_107 (by decide) (fun z => False.elim (by have q := ilt.mp z; have := (fa_us hn hF hi hj).2.2; omega)) (fun _ => ?_)
      refine lv_iconst (v := 1) hx hb dL_isOnce_110 (by decide) ?_
      refine lv_goto (tgt := 115) hx hb dL_isOnce_111 (by decide) ?_
      refine lv_istore (lv' := [(5, .int 1), (3, .int ((tS (usF M i) j) + (usR M i (nI j)))), (0, .ref (ad 0)), (1, .int (nI i)), (2, .int (tuM M i + M 48 i + M 49 i)), (4, .int (nI j))]) hx hb dL_isOnce_115 hl (by decide) rfl (fun ls hl => ?_)
      refine lv_iinc (v := nI (j + 1)) (lv' := [(4, .int (nI (j + 1))), (5, .int 1), (3, .int ((tS (usF M i) j) + (usR M i (nI j)))), (0, .ref (ad 0)), (1, .int (nI i)), (2, .int (tuM M i + M 48 i + M 49 i))]) hx hb dL_isOnce_117 hl (k := 5) rfl (nI_add _ _) (by decide) rfl (fun ls hl => ?_)
      refine lv_goto (tgt := 68) hx hb dL_isOnce_120 (by decide) ?_
      exact ih (j + 1) (by omega) _ r_19 H locs ls S (lv_sub hl [3, 4, 5, 2, 0, 1] rfl)
  refine lv_aload_n hx hb dL_isOnce_0 rfl (lv_at hl 0 rfl) ?_
  refine lv_iload_n hx hb dL_isOnce_1 rfl (lv_at hl 1 rfl) ?_
  refine lv_iconst (v := 0) hx hb dL_isOnce_2 (by decide) ?_
  refine r_V0 X S (a_charged0 hF hi l D cA ad _) ob_0 rfl (cwV 2 hts gL_isOnce_X4_charged rfl rfl rfl (by decide +kernel) ⟨Nat.le_of_ble_eq_true rfl, Nat.le_of_ble_eq_true rfl⟩) rfl hl.1 rfl (Nat.le_of_ble_eq_true rfl) dL_isOnce_3 ⟨(show 0 ≤ 1 by omega), (show 0 ≤ 6 by omega)⟩ (fun H locs S => ?_)
  refine lv_aload_n hx hb dL_isOnce_6 rfl (lv_at hl 0 rfl) ?_
  refine lv_iload_n hx hb dL_isOnce_7 rfl (lv_at hl 1 rfl) ?_
  refine lv_iconst (v := 1) hx hb dL_isOnce_8 (by decide) ?_
  refine r_V0 X S (a_charged1 hF hi l D cA ad _) ob_0 rfl (cwV 2 hts gL_isOnce_X4_charged rfl rfl rfl (by decide +kernel) ⟨Nat.le_of_ble_eq_true rfl, Nat.le_of_ble_eq_true rfl⟩) rfl hl.1 rfl (Nat.le_of_ble_eq_true rfl) dL_isOnce_9 ⟨(show 0 ≤ 1 by omega), (show 0 ≤ 6 by omega)⟩ (fun H locs S => ?_)
  refine lv_iadd hx hb dL_isOnce_12 ?_
  refine lv_aload_n hx hb dL_isOnce_13 rfl (lv_at hl 0 rfl) ?_
  refine lv_iload_n hx hb dL_isOnce_14 rfl (lv_at hl 1 rfl) ?_
  refine lv_iconst (v := 2) hx hb dL_isOnce_15 (by decide) ?_
  refine r_V0 X S (a_charged2 hF hi l D cA ad _) ob_0 rfl (cwV 2 hts gL_isOnce_X4_charged rfl rfl rfl (by decide +kernel) ⟨Nat.le_of_ble_eq_true rfl, Nat.le_of_ble_eq_true rfl⟩) rfl hl.1 rfl (Nat.le_of_ble_eq_true rfl) dL_isOnce_16 ⟨(show 0 ≤ 1 by omega), (show 0 ≤ 6 by omega)⟩ (fun H locs S => ?_)
  refine lv_iadd hx hb dL_isOnce_19 ?_
  refine lv_istore_n (lv' := [(2, .int (((tuM M i) + (M 48 i)) + (M 49 i))), (0, .ref (ad 0)), (1, .int (nI i))]) hx hb dL_isOnce_20 rfl hl (by decide) rfl (fun ls hl => ?_)
  refine lv_iconst (v := 0) hx hb dL_isOnce_21 (by decide) ?_
  refine lv_istore_n (lv' := [(3, .int 0), (2, .int (((tuM M i) + (M 48 i)) + (M 49 i))), (0, .ref (ad 0)), (1, .int (nI i))]) hx hb dL_isOnce_22 rfl hl (by decide) rfl (fun ls hl => ?_)
  refine lv_iconst (v := 0) hx hb dL_isOnce_23 (by decide) ?_
  refine lv_istore (lv' := [(4, .int 0), (3, .int 0), (2, .int (((tuM M i) + (M 48 i)) + (M 49 i))), (0, .ref (ad 0)), (1, .int (nI i))]) hx hb dL_isOnce_24 hl (by decide) rfl (fun ls hl => ?_)
  refine lv_aload_n hx hb dL_isOnce_26 rfl (lv_at hl 3 rfl) ?_
  refine lv_iload_n hx hb dL_isOnce_27 rfl (lv_at hl 4 rfl) ?_
  refine r_V0 X S (a_sponsored hF hi l D cA ad _) ob_0 rfl (cwV 1 hts gL_isOnce_X4_sponsored rfl rfl rfl (by decide +kernel) ⟨Nat.le_of_ble_eq_true rfl, Nat.le_of_ble_eq_true rfl⟩) rfl hl.1 rfl (Nat.le_of_ble_eq_true rfl) dL_isOnce_28 ⟨(show 0 ≤ 1 by omega), (show 0 ≤ 6 by omega)⟩ (fun H locs S => ?_)
  refine lv_if_lt (tgt := 65) hx hb dL_isOnce_31 (by decide) (fun z => False.elim (by have q := ilt.mp z; rw [i0] at q; have := f1.1; omega)) (fun _ => ?_)
  refine lv_aload_n hx hb dL_isOnce_34 rfl (lv_at hl 3 rfl) ?_
  refine lv_iload_n hx hb dL_isOnce_35 rfl (lv_at hl 4 rfl) ?_
  refine r_V0 X S (a_sponsored hF hi l D cA ad _) ob_0 rfl (cwV 1 hts gL_isOnce_X4_sponsored rfl rfl rfl (by decide +kernel) ⟨Nat.le_of_ble_eq_true rfl, Nat.le_of_ble_eq_true rfl⟩) rfl hl.1 rfl (Nat.le_of_ble_eq_true rfl) dL_isOnce_36 ⟨(show 0 ≤ 1 by omega), (show 0 ≤ 6 by omega)⟩ (fun H locs S => ?_)
  refine lv_iload_n hx hb dL_isOnce_39 rfl (lv_at hl 2 rfl) ?_
  refine lv_icmp_gt (tgt := 65) hx hb dL_isOnce_40 (by decide) (fun z => False.elim (by have q := ilt.mp z; rw [eal] at q; have := f1.2.1; omega)) (fun _ => ?_)
  refine lv_aload_n hx hb dL_isOnce_43 rfl (lv_at hl 3 rfl) ?_
  refine lv_iload_n hx hb dL_isOnce_44 rfl (lv_at hl 4 rfl) ?_
  refine r_V0 X S (a_credits hF hi l D cA ad _) ob_0 rfl (cwV 1 hts gL_isOnce_X4_credits rfl rfl rfl (by decide +kernel) ⟨Nat.le_of_ble_eq_true rfl, Nat.le_of_ble_eq_true rfl⟩) rfl hl.1 rfl (Nat.le_of_ble_eq_true rfl) dL_isOnce_45 ⟨(show 0 ≤ 1 by omega), (show 0 ≤ 6 by omega)⟩ (fun H locs S => ?_)
  refine lv_if_lt (tgt := 65) hx hb dL_isOnce_48 (by decide) (fun z => False.elim (by have q := ilt.mp z; rw [i0] at q; have := f2.1; omega)) (fun _ => ?_)
  refine lv_aload_n hx hb dL_isOnce_51 rfl (lv_at hl 3 rfl) ?_
  refine lv_iload_n hx hb dL_isOnce_52 rfl (lv_at hl 4 rfl) ?_
  refine r_V0 X S (a_credits hF hi l D cA ad _) ob_0 rfl (cwV 1 hts gL_isOnce_X4_credits rfl rfl rfl (by decide +kernel) ⟨Nat.le_of_ble_eq_true rfl, Nat.le_of_ble_eq_true rfl⟩) rfl hl.1 rfl (Nat.le_of_ble_eq_true rfl) dL_isOnce_53 ⟨(show 0 ≤ 1 by omega), (show 0 ≤ 6 by omega)⟩ (fun H locs S => ?_)
  refine lv_bipush (v := 80) hx hb dL_isOnce_56 (by decide) ?_
  refine lv_icmp_gt (tgt := 65) hx hb dL_isOnce_58 (by decide) (fun z => False.elim (by have q := ilt.mp z; rw [e80] at q; have := f2.2; omega)) (fun _ => ?_)
  refine lv_iconst (v := 1) hx hb dL_isOnce_61 (by decide) ?_
  refine lv_goto (tgt := 66) hx hb dL_isOnce_62 (by decide) ?_
  refine lv_istore (lv' := [(5, .int 1), (4, .int 0), (3, .int 0), (2, .int (((tuM M i) + (M 48 i)) + (M 49 i))), (0, .ref (ad 0)), (1, .int (nI i))]) hx hb dL_isOnce_66 hl (by decide) rfl (fun ls hl => ?_)
  exact loop (aM M i) 0 (by omega) _ hF H locs ls S (by rw [nI_0]; exact (lv_sub hl [4, 5, 3, 2, 1, 0] rfl))

set_option maxHeartbeats 1000000 in
set_option maxRecDepth 100000 in
theorem b_areAlike {l : Launch} (hst : l.stackTraces = false) {n : Nat} {M : FF} (hn : n ≤ 512) {F G : FF} (hF : RX n F M) (hG : RX n G M) (D : va_G) (cA : Nat → ClassId) (ad bd : Nat → Nat) (sz : Nat) : CB l D cA ad bd sz yL_areAlike wsL_areAlike 8 136 16 96 [.ref (ad 0), .ref (bd 0)] F G (fun F1 G1 : FF => RX n F1 M ∧ RX n G1 M) := by
  refine CB_of (own := RL) (cc := cL_areAlike) (maxL := 4) (ret := (some .boolean)) (by decide +kernel) rfl rfl (Nat.le_of_ble_eq_true rfl) ?_
  intro p e s m below meth c ls X S hr hl
  obtain ⟨⟨hx, hb, hml, hown, hts⟩, hE, hI, hlocks⟩ := id X
  have hl : lv_has ls 4 [(0, .ref (ad 0)), (1, .ref (bd 0))] := hl
  have loop : ∀ (q k : Nat), k + q = 4 → ∀ F G : FF, RX n F M → RX n G M → ∀ (H : Heap) (locs : List Loc) (ls : Array Slot), S2 D cA ad bd F G s.heap H locs → lv_has ls 4 [(0, .ref (ad 0)), (1, .ref (bd 0)), (2, .int 1), (3, .int (nI k))] → W p l e (RM 8 136 16 96) s m [.ref (ad 0), .ref (bd 0)].toArray below meth c H locs (4 * k) (24 * k) (MQ below (CQB D cA ad bd s.heap.size (fun F1 G1 : FF => RX n F1 M ∧ RX n G1 M)) [.ref (ad 0), .ref (bd 0)].toArray s 16 96 (A2 ad bd s.heap.size)) (F0 m 30 ls []) := by
    intro q
    induction q with
    | zero =>
      intro k hk F G hF hG H locs ls S hl
      obtain rfl : k = 4 := by omega
      refine lv_iload_n hx hb dL_areAlike_30 rfl (lv_at hl 3 rfl) ?_
      refine lv_iconst (v := 4) hx hb dL_areAlike_31 (by decide) ?_
      refine lv_icmp_ge (tgt := 191) hx hb dL_areAlike_32 (by decide) (fun _ => ?_) (fun z => False.elim (absurd (Int32.le_refl _) z))
      refine lv_iload_n hx hb dL_areAlike_191 rfl (lv_at hl 2 rfl) ?_
      exact t_zret X S hr dL_areAlike_192 (show (4 * 4) ≤ 16 by omega) (show (24 * 4) ≤ 96 by omega) rfl ⟨hF, hG⟩
    | succ q ih =>
      intro k hkk F G hF hG H locs ls S hl
      have hk : k < 4 := by omega
      refine lv_iload_n hx hb dL_areAlike_30 rfl (lv_at hl 3 rfl) ?_
      refine lv_iconst (v := 4) hx hb dL_areAlike_31 (by decide) ?_
      refine lv_icmp_ge (tgt := 191) hx hb dL_areAlike_32 (by decide) (fun z => False.elim (nI_ge (a := k) (b := 4) (by omega) (by omega) z)) (fun _ => ?_)
      refine lv_iload_n hx hb dL_areAlike_35 rfl (lv_at hl 2 rfl) ?_
      refine lv_if_eq (tgt := 191) hx hb dL_areAlike_36 (by decide) (fun z => False.elim (by first | exact absurd z (by decide) | exact absurd (by decide) z)) (fun _ => ?_)
      refine lv_aload_n hx hb dL_areAlike_39 rfl (lv_at hl 0 rfl) ?_
      refine lv_iload_n hx hb dL_areAlike_40 rfl (lv_at hl 3 rfl) ?_
      refine t_V0 X S (a_credits hF hk l D cA ad _) ob_0 rfl (cwV 1 hts gL_areAlike_X4_credits rfl rfl rfl (by decide +kernel) ⟨Nat.le_of_ble_eq_true rfl, Nat.le_of_ble_eq_true rfl⟩) rfl hl.1 rfl (Nat.le_of_ble_eq_true rfl) dL_areAlike_41 ⟨(show (4 * k) ≤ 16 by omega), (show (24 * k) ≤ 96 by omega)⟩ (fun H locs S => ?_)
      refine lv_aload_n hx hb dL_areAlike_44 rfl (lv_at hl 1 rfl) ?_
      refine lv_iload_n hx hb dL_areAlike_45 rfl (lv_at hl 3 rfl) ?_
      refine u_V0 X S (a_credits hG hk l D cA bd _) ob_0 rfl (cwV 1 hts gL_areAlike_X4_credits rfl rfl rfl (by decide +kernel) ⟨Nat.le_of_ble_eq_true rfl, Nat.le_of_ble_eq_true rfl⟩) rfl hl.1 rfl (Nat.le_of_ble_eq_true rfl) dL_areAlike_46 ⟨(show (4 * k) ≤ 16 by omega), (show (24 * k) ≤ 96 by omega)⟩ (fun H locs S => ?_)
      refine lv_icmp_ne (tgt := 183) hx hb dL_areAlike_49 (by decide) (fun z => False.elim (z rfl)) (fun _ => ?_)
      refine lv_aload_n hx hb dL_areAlike_52 rfl (lv_at hl 0 rfl) ?_
      refine lv_iload_n hx hb dL_areAlike_53 rfl (lv_at hl 3 rfl) ?_
      refine lv_iconst (v := 0) hx hb dL_areAlike_54 (by decide) ?_
      refine t_V0 X S (a_charged0 hF hk l D cA ad _) ob_0 rfl (cwV 2 hts gL_areAlike_X4_charged rfl rfl rfl (by decide +kernel) ⟨Nat.le_of_ble_eq_true rfl, Nat.le_of_ble_eq_true rfl⟩) rfl hl.1 rfl (Nat.le_of_ble_eq_true rfl) dL_areAlike_55 ⟨(show (4 * k) ≤ 16 by omega), (show (24 * k) ≤ 96 by omega)⟩ (fun H locs S => ?_)
      refine lv_aload_n hx hb dL_areAlike_58 rfl (lv_at hl 1 rfl) ?_
      refine lv_iload_n hx hb dL_areAlike_59 rfl (lv_at hl 3 rfl) ?_
      refine lv_iconst (v := 0) hx hb dL_areAlike_60 (by decide) ?_
      refine u_V0 X S (a_charged0 hG hk l D cA bd _) ob_0 rfl (cwV 2 hts gL_areAlike_X4_charged rfl rfl rfl (by decide +kernel) ⟨Nat.le_of_ble_eq_true rfl, Nat.le_of_ble_eq_true rfl⟩) rfl hl.1 rfl (Nat.le_of_ble_eq_true rfl) dL_areAlike_61 ⟨(show (4 * k) ≤ 16 by omega), (show (24 * k) ≤ 96 by omega)⟩ (fun H locs S => ?_)
      refine lv_icmp_ne (tgt := 183) hx hb dL_areAlike_64 (by decide) (fun z => False.elim (z rfl)) (fun _ => ?_)
      refine lv_aload_n hx hb dL_areAlike_67 rfl (lv_at hl 0 rfl) ?_
      refine lv_iload_n hx hb dL_areAlike_68 rfl (lv_at hl 3 rfl) ?_
      refine lv_iconst (v := 1) hx hb dL_areAlike_69 (by decide) ?_
      refine t_V0 X S (a_charged1 hF hk l D cA ad _) ob_0 rfl (cwV 2 hts gL_areAlike_X4_charged rfl rfl rfl (by decide +kernel) ⟨Nat.le_of_ble_eq_true rfl, Nat.le_of_ble_eq_true rfl⟩) rfl hl.1 rfl (Nat.le_of_ble_eq_true rfl) dL_areAlike_70 ⟨(show (4 * k) ≤ 16 by omega), (show (24 * k) ≤ 96 by omega)⟩ (fun H locs S => ?_)
      refine lv_aload_n hx hb dL_areAlike_73 rfl (lv_at hl 1 rfl) ?_
      refine lv_iload_n hx hb dL_areAlike_74 rfl (lv_at hl 3 rfl) ?_
      refine lv_iconst (v := 1) hx hb dL_areAlike_75 (by decide) ?_
      refine u_V0 X S (a_charged1 hG hk l D cA bd _) ob_0 rfl (cwV 2 hts gL_areAlike_X4_charged rfl rfl rfl (by decide +kernel) ⟨Nat.le_of_ble_eq_true rfl, Nat.le_of_ble_eq_true rfl⟩) rfl hl.1 rfl (Nat.le_of_ble_eq_true rfl) dL_areAlike_76 ⟨(show (4 * k) ≤ 16 by omega), (show (24 * k) ≤ 96 by omega)⟩ (fun H locs S => ?_)
      refine lv_icmp_ne (tgt := 183) hx hb dL_areAlike_79 (by decide) (fun z => False.elim (z rfl)) (fun _ => ?_)
      refine lv_aload_n hx hb dL_areAlike_82 rfl (lv_at hl 0 rfl) ?_
      refine lv_iload_n hx hb dL_areAlike_83 rfl (lv_at hl 3 rfl) ?_
      refine lv_iconst (v := 2) hx hb dL_areAlike_84 (by decide) ?_
      refine t_V0 X S (a_charged2 hF hk l D cA ad _) ob_0 rfl (cwV 2 hts gL_areAlike_X4_charged rfl rfl rfl (by decide +kernel) ⟨Nat.le_of_ble_eq_true rfl, Nat.le_of_ble_eq_true rfl⟩) rfl hl.1 rfl (Nat.le_of_ble_eq_true rfl) dL_areAlike_85 ⟨(show (4 * k) ≤ 16 by omega), (show (24 * k) ≤ 96 by omega)⟩ (fun H locs S => ?_)
      refine lv_aload_n hx hb dL_areAlike_88 rfl (lv_at hl 1 rfl) ?_
      refine lv_iload_n hx hb dL_areAlike_89 rfl (lv_at hl 3 rfl) ?_
      refine lv_iconst (v := 2) hx hb dL_areAlike_90 (by decide) ?_
      refine u_V0 X S (a_charged2 hG hk l D cA bd _) ob_0 rfl (cwV 2 hts gL_areAlike_X4_charged rfl rfl rfl (by decide +kernel) ⟨Nat.le_of_ble_eq_true rfl, Nat.le_of_ble_eq_true rfl⟩) rfl hl.1 rfl (Nat.le_of_ble_eq_true rfl) dL_areAlike_91 ⟨(show (4 * k) ≤ 16 by omega), (show (24 * k) ≤ 96 by omega)⟩ (fun H locs S => ?_)
      refine lv_icmp_ne (tgt := 183) hx hb dL_areAlike_94 (by decide) (fun z => False.elim (z rfl)) (fun _ => ?_)
      refine lv_aload_n hx hb dL_areAlike_97 rfl (lv_at hl 0 rfl) ?_
      refine lv_iload_n hx hb dL_areAlike_98 rfl (lv_at hl 3 rfl) ?_
      refine t_V0 X S (a_sponsored hF hk l D cA ad _) ob_0 rfl (cwV 1 hts gL_areAlike_X4_sponsored rfl rfl rfl (by decide +kernel) ⟨Nat.le_of_ble_eq_true rfl, Nat.le_of_ble_eq_true rfl⟩) rfl hl.1 rfl (Nat.le_of_ble_eq_true rfl) dL_areAlike_99 ⟨(show (4 * k) ≤ 16 by omega), (show (24 * k) ≤ 96 by omega)⟩ (fun H locs S => ?_)
      refine lv_aload_n hx hb dL_areAlike_102 rfl (lv_at hl 1 rfl) ?_
      refine lv_iload_n hx hb dL_areAlike_103 rfl (lv_at hl 3 rfl) ?_
      refine u_V0 X S (a_sponsored hG hk l D cA bd _) ob_0 rfl (cwV 1 hts gL_areAlike_X4_sponsored rfl rfl rfl (by decide +kernel) ⟨Nat.le_of_ble_eq_true rfl, Nat.le_of_ble_eq_true rfl⟩) rfl hl.1 rfl (Nat.le_of_ble_eq_true rfl) dL_areAlike_104 ⟨(show (4 * k) ≤ 16 by omega), (show (24 * k) ≤ 96 by omega)⟩ (fun H locs S => ?_)
      refine lv_icmp_ne (tgt := 183) hx hb dL_areAlike_107 (by decide) (fun z => False.elim (z rfl)) (fun _ => ?_)
      refine lv_aload_n hx hb dL_areAlike_110 rfl (lv_at hl 0 rfl) ?_
      refine lv_iload_n hx hb dL_areAlike_111 rfl (lv_at hl 3 rfl) ?_
      refine t_V0 X S (a_paid hF hk l D cA ad _) ob_0 rfl (cwV 1 hts gL_areAlike_X4_paid rfl rfl rfl (by decide +kernel) ⟨Nat.le_of_ble_eq_true rfl, Nat.le_of_ble_eq_true rfl⟩) rfl hl.1 rfl (Nat.le_of_ble_eq_true rfl) dL_areAlike_112 ⟨(show (4 * k) ≤ 16 by omega), (show (24 * k) ≤ 96 by omega)⟩ (fun H locs S => ?_)
      refine lv_aload_n hx hb dL_areAlike_115 rfl (lv_at hl 1 rfl) ?_
      refine lv_iload_n hx hb dL_areAlike_116 rfl (lv_at hl 3 rfl) ?_
      refine u_V0 X S (a_paid hG hk l D cA bd _) ob_0 rfl (cwV 1 hts gL_areAlike_X4_paid rfl rfl rfl (by decide +kernel) ⟨Nat.le_of_ble_eq_true rfl, Nat.le_of_ble_eq_true rfl⟩) rfl hl.1 rfl (Nat.le_of_ble_eq_true rfl) dL_areAlike_117 ⟨(show (4 * k) ≤ 16 by omega), (show (24 * k) ≤ 96 by omega)⟩ (fun H locs S => ?_)
      refine lv_icmp_ne (tgt := 183) hx hb dL_areAlike_120 (by decide) (fun z => False.elim (z rfl)) (fun _ => ?_)
      refine lv_aload_n hx hb dL_areAlike_123 rfl (lv_at hl 0 rfl) ?_
      refine lv_iload_n hx hb dL_areAlike_124 rfl (lv_at hl 3 rfl) ?_
      obtain ⟨F_1, c_2, r_3⟩ := a_owed (by omega) hF hk
      refine t_V0 X S (c_2 l D cA ad _) ob_0 rfl (cwV 1 hts gL_areAlike_X4_owed rfl rfl rfl (by decide +kernel) ⟨Nat.le_of_ble_eq_true rfl, Nat.le_of_ble_eq_true rfl⟩) rfl hl.1 rfl (Nat.le_of_ble_eq_true rfl) dL_areAlike_125 ⟨(show (4 * k) ≤ 16 by omega), (show (24 * k) ≤ 96 by omega)⟩ (fun H locs S => ?_)
      refine lv_aload_n hx hb dL_areAlike_128 rfl (lv_at hl 1 rfl) ?_
      refine lv_iload_n hx hb dL_areAlike_129 rfl (lv_at hl 3 rfl) ?_
      obtain ⟨F_4, c_5, r_6⟩ := a_owed (by omega) hG hk
      refine u_V0 X S (c_5 l D cA bd _) ob_0 rfl (cwV 1 hts gL_areAlike_X4_owed rfl rfl rfl (by decide +kernel) ⟨Nat.le_of_ble_eq_true rfl, Nat.le_of_ble_eq_true rfl⟩) rfl hl.1 rfl (Nat.le_of_ble_eq_true rfl) dL_areAlike_130 ⟨(show (4 * k) ≤ 16 by omega), (show (24 * k) ≤ 96 by omega)⟩ (fun H locs S => ?_)
      refine lv_icmp_ne (tgt := 183) hx hb dL_areAlike_133 (by decide) (fun z => False.elim (z rfl)) (fun _ => ?_)
      refine lv_aload_n hx hb dL_areAlike_136 rfl (lv_at hl 0 rfl) ?_
      refine lv_iload_n hx hb dL_areAlike_137 rfl (lv_at hl 3 rfl) ?_
      obtain ⟨F_7, c_8, r_9⟩ := a_hasHold (by omega) r_3 hk
      refine t_V0 X S (c_8 l D cA ad _) ob_0 rfl (cwV 1 hts gL_areAlike_X4_hasHold rfl rfl rfl (by decide +kernel) ⟨Nat.le_of_ble_eq_true rfl, Nat.le_of_ble_eq_true rfl⟩) rfl hl.1 rfl (Nat.le_of_ble_eq_true rfl) dL_areAlike_138 ⟨(show (4 * k) ≤ 16 by omega), (show (24 * k) ≤ 96 by omega)⟩ (fun H locs S => ?_)
      refine lv_aload_n hx hb dL_areAlike_141 rfl (lv_at hl 1 rfl) ?_
      refine lv_iload_n hx hb dL_areAlike_142 rfl (lv_at hl 3 rfl) ?_
      obtain ⟨F_10, c_11, r_12⟩ := a_hasHold (by omega) r_6 hk
      refine u_V0 X S (c_11 l D cA bd _) ob_0 rfl (cwV 1 hts gL_areAlike_X4_hasHold rfl rfl rfl (by decide +kernel) ⟨Nat.le_of_ble_eq_true rfl, Nat.le_of_ble_eq_true rfl⟩) rfl hl.1 rfl (Nat.le_of_ble_eq_true rfl) dL_areAlike_143 ⟨(show (4 * k) ≤ 16 by omega), (show (24 * k) ≤ 96 by omega)⟩ (fun H locs S => ?_)
      refine lv_icmp_ne (tgt := 183) hx hb dL_areAlike_146 (by decide) (fun z => False.elim (z rfl)) (fun _ => ?_)
      by_cases ha0 : 0 < aM M k
      · refine lv_aload_n hx hb dL_areAlike_149 rfl (lv_at hl 0 rfl) ?_
        refine lv_iload_n hx hb dL_areAlike_150 rfl (lv_at hl 3 rfl) ?_
        refine lv_iconst (v := 0) hx hb dL_areAlike_151 (by decide) ?_
        obtain ⟨F_13, c_14, r_15⟩ := u_used (by omega) r_9 hk ha0
        refine t_SW0 X S (c_14 l D cA ad _) (vx_cwSW 3 (hh := [(0, 6, 7, 51)]) hts gL_areAlike_L_used rfl rfl rfl (by decide +kernel) ⟨Nat.le_of_ble_eq_true rfl, Nat.le_of_ble_eq_true rfl⟩) rfl hl.1 rfl (Nat.le_of_ble_eq_true rfl) dL_areAlike_152 ⟨(show (4 * k) ≤ 16 by omega), (show (24 * k) ≤ 96 by omega)⟩ (fun H locs S => ?_)
        refine lv_aload_n hx hb dL_areAlike_155 rfl (lv_at hl 1 rfl) ?_
        refine lv_iload_n hx hb dL_areAlike_156 rfl (lv_at hl 3 rfl) ?_
        refine lv_iconst (v := 0) hx hb dL_areAlike_157 (by decide) ?_
        obtain ⟨F_16, c_17, r_18⟩ := u_used (by omega) r_12 hk ha0
        refine u_SW0 X S (c_17 l D cA bd _) (vx_cwSW 3 (hh := [(0, 6, 7, 51)]) hts gL_areAlike_L_used rfl rfl rfl (by decide +kernel) ⟨Nat.le_of_ble_eq_true rfl, Nat.le_of_ble_eq_true rfl⟩) rfl hl.1 rfl (Nat.le_of_ble_eq_true rfl) dL_areAlike_158 ⟨(show (4 * k) ≤ 16 by omega), (show (24 * k) ≤ 96 by omega)⟩ (fun H locs S => ?_)
        refine lv_icmp_ne (tgt := 183) hx hb dL_areAlike_161 (by decide) (fun z => False.elim (z rfl)) (fun _ => ?_)
        by_cases ha3 : 3 < aM M k
        · refine lv_aload_n hx hb dL_areAlike_164 rfl (lv_at hl 0 rfl) ?_
          refine lv_iload_n hx hb dL_areAlike_165 rfl (lv_at hl 3 rfl) ?_
          refine lv_iconst (v := 3) hx hb dL_areAlike_166 (by decide) ?_
          obtain ⟨F_19, c_20, r_21⟩ := u_used (by omega) r_15 hk ha3
          refine t_SW0 X S (c_20 l D cA ad _) (vx_cwSW 3 (hh := [(0, 6, 7, 51)]) hts gL_areAlike_L_used rfl rfl rfl (by decide +kernel) ⟨Nat.le_of_ble_eq_true rfl, Nat.le_of_ble_eq_true rfl⟩) rfl hl.1 rfl (Nat.le_of_ble_eq_true rfl) dL_areAlike_167 ⟨(show (4 * k) ≤ 16 by omega), (show (24 * k) ≤ 96 by omega)⟩ (fun H locs S => ?_)
          refine lv_aload_n hx hb dL_areAlike_170 rfl (lv_at hl 1 rfl) ?_
          refine lv_iload_n hx hb dL_areAlike_171 rfl (lv_at hl 3 rfl) ?_
          refine lv_iconst (v := 3) hx hb dL_areAlike_172 (by decide) ?_
          obtain ⟨F_22, c_23, r_24⟩ := u_used (by omega) r_18 hk ha3
          refine u_SW0 X S (c_23 l D cA bd _) (vx_cwSW 3 (hh := [(0, 6, 7, 51)]) hts gL_areAlike_L_used rfl rfl rfl (by decide +kernel) ⟨Nat.le_of_ble_eq_true rfl, Nat.le_of_ble_eq_true rfl⟩) rfl hl.1 rfl (Nat.le_of_ble_eq_true rfl) dL_areAlike_173 ⟨(show (4 * k) ≤ 16 by omega), (show (24 * k) ≤ 96 by omega)⟩ (fun H locs S => ?_)
          refine lv_icmp_ne (tgt := 183) hx hb dL_areAlike_176 (by decide) (fun z => False.elim (z rfl)) (fun _ => ?_)
          refine lv_iconst (v := 1) hx hb dL_areAlike_179 (by decide) ?_
          refine lv_goto (tgt := 184) hx hb dL_areAlike_180 (by decide) ?_
          refine lv_istore_n (lv' := [(2, .int 1), (0, .ref (ad 0)), (1, .ref (bd 0)), (3, .int (nI k))]) hx hb dL_areAlike_184 rfl hl (by decide) rfl (fun ls hl => ?_)
          refine lv_iinc (v := nI (k + 1)) (lv' := [(3, .int (nI (k + 1))), (2, .int 1), (0, .ref (ad 0)), (1, .ref (bd 0))]) hx hb dL_areAlike_185 hl (k := 3) rfl (nI_add _ _) (by decide) rfl (fun ls hl => ?_)
          refine lv_goto (tgt := 30) hx hb dL_areAlike_188 (by decide) ?_
          exact W.widen (show (4 * k) ≤ 4 * (k + 1) by omega) (show (24 * k) ≤ 24 * (k + 1) by omega) (ih (k + 1) (by omega) _ _ r_21 r_24 H locs ls S (lv_sub hl [2, 3, 1, 0] rfl))
        · refine lv_aload_n hx hb dL_areAlike_164 rfl (lv_at hl 0 rfl) ?_
          refine lv_iload_n hx hb dL_areAlike_165 rfl (lv_at hl 3 rfl) ?_
          refine lv_iconst (v := 3) hx hb dL_areAlike_166 (by decide) ?_
          refine t_SW X S (u_none r_15 hk (j := 3) ha3 (by omega) hst D cA ad _) (vx_cwSW 3 (hh := [(0, 6, 7, 51)]) hts gL_areAlike_L_used rfl rfl rfl (by decide +kernel) ⟨Nat.le_of_ble_eq_true rfl, Nat.le_of_ble_eq_true rfl⟩) rfl hl.1 rfl (Nat.le_of_ble_eq_true rfl) dL_areAlike_167 ⟨(show (4 * k) + 1 ≤ 16 by omega), (show (24 * k) + 6 ≤ 96 by omega)⟩ (fun H locs S => ?_)
          refine lv_aload_n hx hb dL_areAlike_170 rfl (lv_at hl 1 rfl) ?_
          refine lv_iload_n hx hb dL_areAlike_171 rfl (lv_at hl 3 rfl) ?_
          refine lv_iconst (v := 3) hx hb dL_areAlike_172 (by decide) ?_
          refine u_SW X S (u_none r_18 hk (j := 3) ha3 (by omega) hst D cA bd _) (vx_cwSW 3 (hh := [(0, 6, 7, 51)]) hts gL_areAlike_L_used rfl rfl rfl (by decide +kernel) ⟨Nat.le_of_ble_eq_true rfl, Nat.le_of_ble_eq_true rfl⟩) rfl hl.1 rfl (Nat.le_of_ble_eq_true rfl) dL_areAlike_173 ⟨(show ((4 * k) + 1) + 1 ≤ 16 by omega), (show ((24 * k) + 6) + 6 ≤ 96 by omega)⟩ (fun H locs S => ?_)
          refine lv_icmp_ne (tgt := 183) hx hb dL_areAlike_176 (by decide) (fun z => False.elim (z rfl)) (fun _ => ?_)
          refine lv_iconst (v := 1) hx hb dL_areAlike_179 (by decide) ?_
          refine lv_goto (tgt := 184) hx hb dL_areAlike_180 (by decide) ?_
          refine lv_istore_n (lv' := [(2, .int 1), (0, .ref (ad 0)), (1, .ref (bd 0)), (3, .int (nI k))]) hx hb dL_areAlike_184 rfl hl (by decide) rfl (fun ls hl => ?_)
          refine lv_iinc (v := nI (k + 1)) (lv' := [(3, .int (nI (k + 1))), (2, .int 1), (0, .ref (ad 0)), (1, .ref (bd 0))]) hx hb dL_areAlike_185 hl (k := 3) rfl (nI_add _ _) (by decide) rfl (fun ls hl => ?_)
          refine lv_goto (tgt := 30) hx hb dL_areAlike_188 (by decide) ?_
          exact W.widen (show (((4 * k) + 1) + 1) ≤ 4 * (k + 1) by omega) (show (((24 * k) + 6) + 6) ≤ 24 * (k + 1) by omega) (ih (k + 1) (by omega) _ _ r_15 r_18 H locs ls S (lv_sub hl [2, 3, 1, 0] rfl))
      · refine lv_aload_n hx hb dL_areAlike_149 rfl (lv_at hl 0 rfl) ?_
        refine lv_iload_n hx hb dL_areAlike_150 rfl (lv_at hl 3 rfl) ?_
        refine lv_iconst (v := 0) hx hb dL_areAlike_151 (by decide) ?_
        refine t_SW X S (u_none r_9 hk (j := 0) ha0 (by omega) hst D cA ad _) (vx_cwSW 3 (hh := [(0, 6, 7, 51)]) hts gL_areAlike_L_used rfl rfl rfl (by decide +kernel) ⟨Nat.le_of_ble_eq_true rfl, Nat.le_of_ble_eq_true rfl⟩) rfl hl.1 rfl (Nat.le_of_ble_eq_true rfl) dL_areAlike_152 ⟨(show (4 * k) + 1 ≤ 16 by omega), (show (24 * k) + 6 ≤ 96 by omega)⟩ (fun H locs S => ?_)
        refine lv_aload_n hx hb dL_areAlike_155 rfl (lv_at hl 1 rfl) ?_
        refine lv_iload_n hx hb dL_areAlike_156 rfl (lv_at hl 3 rfl) ?_
        refine lv_iconst (v := 0) hx hb dL_areAlike_157 (by decide) ?_
        refine u_SW X S (u_none r_12 hk (j := 0) ha0 (by omega) hst D cA bd _) (vx_cwSW 3 (hh := [(0, 6, 7, 51)]) hts gL_areAlike_L_used rfl rfl rfl (by decide +kernel) ⟨Nat.le_of_ble_eq_true rfl, Nat.le_of_ble_eq_true rfl⟩) rfl hl.1 rfl (Nat.le_of_ble_eq_true rfl) dL_areAlike_158 ⟨(show ((4 * k) + 1) + 1 ≤ 16 by omega), (show ((24 * k) + 6) + 6 ≤ 96 by omega)⟩ (fun H locs S => ?_)
        refine lv_icmp_ne (tgt := 183) hx hb dL_areAlike_161 (by decide) (fun z => False.elim (z rfl)) (fun _ => ?_)
        by_cases ha3 : 3 < aM M k
        · refine lv_aload_n hx hb dL_areAlike_164 rfl (lv_at hl 0 rfl) ?_
          refine lv_iload_n hx hb dL_areAlike_165 rfl (lv_at hl 3 rfl) ?_
          refine lv_iconst (v := 3) hx hb dL_areAlike_166 (by decide) ?_
          obtain ⟨F_25, c_26, r_27⟩ := u_used (by omega) r_9 hk ha3
          refine t_SW0 X S (c_26 l D cA ad _) (vx_cwSW 3 (hh := [(0, 6, 7, 51)]) hts gL_areAlike_L_used rfl rfl rfl (by decide +kernel) ⟨Nat.le_of_ble_eq_true rfl, Nat.le_of_ble_eq_true rfl⟩) rfl hl.1 rfl (Nat.le_of_ble_eq_true rfl) dL_areAlike_167 ⟨(show (((4 * k) + 1) + 1) ≤ 16 by omega), (show (((24 * k) + 6) + 6) ≤ 96 by omega)⟩ (fun H locs S => ?_)
          refine lv_aload_n hx hb dL_areAlike_170 rfl (lv_at hl 1 rfl) ?_
          refine lv_iload_n hx hb dL_areAlike_171 rfl (lv_at hl 3 rfl) ?_
          refine lv_iconst (v := 3) hx hb dL_areAlike_172 (by decide) ?_
          obtain ⟨F_28, c_29, r_30⟩ := u_used (by omega) r_12 hk ha3
          refine u_SW0 X S (c_29 l D cA bd _) (vx_cwSW 3 (hh := [(0, 6, 7, 51)]) hts gL_areAlike_L_used rfl rfl rfl (by decide +kernel) ⟨Nat.le_of_ble_eq_true rfl, Nat.le_of_ble_eq_true rfl⟩) rfl hl.1 rfl (Nat.le_of_ble_eq_true rfl) dL_areAlike_173 ⟨(show (((4 * k) + 1) + 1) ≤ 16 by omega), (show (((24 * k) + 6) + 6) ≤ 96 by omega)⟩ (fun H locs S => ?_)
          refine lv_icmp_ne (tgt := 183) hx hb dL_areAlike_176 (by decide) (fun z => False.elim (z rfl)) (fun _ => ?_)
          refine lv_iconst (v := 1) hx hb dL_areAlike_179 (by decide) ?_
          refine lv_goto (tgt := 184) hx hb dL_areAlike_180 (by decide) ?_
          refine lv_istore_n (lv' := [(2, .int 1), (0, .ref (ad 0)), (1, .ref (bd 0)), (3, .int (nI k))]) hx hb dL_areAlike_184 rfl hl (by decide) rfl (fun ls hl => ?_)
          refine lv_iinc (v := nI (k + 1)) (lv' := [(3, .int (nI (k + 1))), (2, .int 1), (0, .ref (ad 0)), (1, .ref (bd 0))]) hx hb dL_areAlike_185 hl (k := 3) rfl (nI_add _ _) (by decide) rfl (fun ls hl => ?_)
          refine lv_goto (tgt := 30) hx hb dL_areAlike_188 (by decide) ?_
          exact W.widen (show (((4 * k) + 1) + 1) ≤ 4 * (k + 1) by omega) (show (((24 * k) + 6) + 6) ≤ 24 * (k + 1) by omega) (ih (k + 1) (by omega) _ _ r_27 r_30 H locs ls S (lv_sub hl [2, 3, 1, 0] rfl))
        · refine lv_aload_n hx hb dL_areAlike_164 rfl (lv_at hl 0 rfl) ?_
          refine lv_iload_n hx hb dL_areAlike_165 rfl (lv_at hl 3 rfl) ?_
          refine lv_iconst (v := 3) hx hb dL_areAlike_166 (by decide) ?_
          refine t_SW X S (u_none r_9 hk (j := 3) ha3 (by omega) hst D cA ad _) (vx_cwSW 3 (hh := [(0, 6, 7, 51)]) hts gL_areAlike_L_used rfl rfl rfl (by decide +kernel) ⟨Nat.le_of_ble_eq_true rfl, Nat.le_of_ble_eq_true rfl⟩) rfl hl.1 rfl (Nat.le_of_ble_eq_true rfl) dL_areAlike_167 ⟨(show (((4 * k) + 1) + 1) + 1 ≤ 16 by omega), (show (((24 * k) + 6) + 6) + 6 ≤ 96 by omega)⟩ (fun H locs S => ?_)
          refine lv_aload_n hx hb dL_areAlike_170 rfl (lv_at hl 1 rfl) ?_
          refine lv_iload_n hx hb dL_areAlike_171 rfl (lv_at hl 3 rfl) ?_
          refine lv_iconst (v := 3) hx hb dL_areAlike_172 (by decide) ?_
          refine u_SW X S (u_none r_12 hk (j := 3) ha3 (by omega) hst D cA bd _) (vx_cwSW 3 (hh := [(0, 6, 7, 51)]) hts gL_areAlike_L_used rfl rfl rfl (by decide +kernel) ⟨Nat.le_of_ble_eq_true rfl, Nat.le_of_ble_eq_true rfl⟩) rfl hl.1 rfl (Nat.le_of_ble_eq_true rfl) dL_areAlike_173 ⟨(show ((((4 * k) + 1) + 1) + 1) + 1 ≤ 16 by omega), (show ((((24 * k) + 6) + 6) + 6) + 6 ≤ 96 by omega)⟩ (fun H locs S => ?_)
          refine lv_icmp_ne (tgt := 183) hx hb dL_areAlike_176 (by decide) (fun z => False.elim (z rfl)) (fun _ => ?_)
          refine lv_iconst (v := 1) hx hb dL_areAlike_179 (by decide) ?_
          refine lv_goto (tgt := 184) hx hb dL_areAlike_180 (by decide) ?_
          refine lv_istore_n (lv' := [(2, .int 1), (0, .ref (ad 0)), (1, .ref (bd 0)), (3, .int (nI k))]) hx hb dL_areAlike_184 rfl hl (by decide) rfl (fun ls hl => ?_)
          refine lv_iinc (v := nI (k + 1)) (lv' := [(3, .int (nI (k + 1))), (2, .int 1), (0, .ref (ad 0)), (1, .ref (bd 0))]) hx hb dL_areAlike_185 hl (k := 3) rfl (nI_add _ _) (by decide) rfl (fun ls hl => ?_)
          refine lv_goto (tgt := 30) hx hb dL_areAlike_188 (by decide) ?_
          exact W.widen (show (((((4 * k) + 1) + 1) + 1) + 1) ≤ 4 * (k + 1) by omega) (show (((((24 * k) + 6) + 6) + 6) + 6) ≤ 24 * (k + 1) by omega) (ih (k + 1) (by omega) _ _ r_9 r_12 H locs ls S (lv_sub hl [2, 3, 1, 0] rfl))
  refine lv_aload_n hx hb dL_areAlike_0 rfl (lv_at hl 0 rfl) ?_
  refine t_V0 X S (a_week hF l D cA ad _) ob_0 rfl (cwV 0 hts gL_areAlike_X4_week rfl rfl rfl (by decide +kernel) ⟨Nat.le_of_ble_eq_true rfl, Nat.le_of_ble_eq_true rfl⟩) rfl hl.1 rfl (Nat.le_of_ble_eq_true rfl) dL_areAlike_1 ⟨(show 0 ≤ 16 by omega), (show 0 ≤ 96 by omega)⟩ (fun H locs S => ?_)
  refine lv_aload_n hx hb dL_areAlike_4 rfl (lv_at hl 1 rfl) ?_
  refine u_V0 X S (a_week hG l D cA bd _) ob_0 rfl (cwV 0 hts gL_areAlike_X4_week rfl rfl rfl (by decide +kernel) ⟨Nat.le_of_ble_eq_true rfl, Nat.le_of_ble_eq_true rfl⟩) rfl hl.1 rfl (Nat.le_of_ble_eq_true rfl) dL_areAlike_5 ⟨(show 0 ≤ 16 by omega), (show 0 ≤ 96 by omega)⟩ (fun H locs S => ?_)
  refine lv_icmp_ne (tgt := 26) hx hb dL_areAlike_8 (by decide) (fun z => False.elim (z rfl)) (fun _ => ?_)
  refine lv_aload_n hx hb dL_areAlike_11 rfl (lv_at hl 0 rfl) ?_
  refine t_V0 X S (a_term hF l D cA ad _) ob_0 rfl (cwV 0 hts gL_areAlike_X4_term rfl rfl rfl (by decide +kernel) ⟨Nat.le_of_ble_eq_true rfl, Nat.le_of_ble_eq_true rfl⟩) rfl hl.1 rfl (Nat.le_of_ble_eq_true rfl) dL_areAlike_12 ⟨(show 0 ≤ 16 by omega), (show 0 ≤ 96 by omega)⟩ (fun H locs S => ?_)
  refine lv_aload_n hx hb dL_areAlike_15 rfl (lv_at hl 1 rfl) ?_
  refine u_V0 X S (a_term hG l D cA bd _) ob_0 rfl (cwV 0 hts gL_areAlike_X4_term rfl rfl rfl (by decide +kernel) ⟨Nat.le_of_ble_eq_true rfl, Nat.le_of_ble_eq_true rfl⟩) rfl hl.1 rfl (Nat.le_of_ble_eq_true rfl) dL_areAlike_16 ⟨(show 0 ≤ 16 by omega), (show 0 ≤ 96 by omega)⟩ (fun H locs S => ?_)
  refine lv_icmp_ne (tgt := 26) hx hb dL_areAlike_19 (by decide) (fun z => False.elim (z rfl)) (fun _ => ?_)
  refine lv_iconst (v := 1) hx hb dL_areAlike_22 (by decide) ?_
  refine lv_goto (tgt := 27) hx hb dL_areAlike_23 (by decide) ?_
  refine lv_istore_n (lv' := [(2, .int 1), (0, .ref (ad 0)), (1, .ref (bd 0))]) hx hb dL_areAlike_27 rfl hl (by decide) rfl (fun ls hl => ?_)
  refine lv_iconst (v := 0) hx hb dL_areAlike_28 (by decide) ?_
  refine lv_istore_n (lv' := [(3, .int 0), (2, .int 1), (0, .ref (ad 0)), (1, .ref (bd 0))]) hx hb dL_areAlike_29 rfl hl (by decide) rfl (fun ls hl => ?_)
  exact loop 4 0 (by omega) _ _ hF hG H locs ls S (by rw [nI_0]; exact (lv_sub hl [2, 3, 1, 0] rfl))

theorem b_pay {n : Nat} (hn : n < 512) {F M : FF} (h : RX n F M) {i : Nat} (hi : i < 4) {am : Int32} (h1 : wi am 1 1000000 = true) : ∃ F1 : FF, (∀ (l : Launch) (D : va_G) (cA : Nat → ClassId) (ad : Nat → Nat) (sz : Nat), CI l D cA ad sz yX4_pay wsX4_pay 5 110 0 0 [.ref (ad 0), .int (nI i), .int am] F (some (.int (owM (mpF M i am) i))) F1) ∧ RX (n + 1) F1 (mpF M i am) :=
  ⟨_, fun l D cA ad sz => ciV (c_X4_pay l D cA ad sz F i hi am h1) (pm_pay hn h hi am h1).1, (pm_pay hn h hi am h1).2⟩
theorem b_charge {n : Nat} (hn : n < 512) {F M : FF} (h : RX n F M) {i : Nat} (hi : i < 4) {am : Int32} (h1 : wi am 1 1000000 = true) : ∃ F1 : FF, (∀ (l : Launch) (D : va_G) (cA : Nat → ClassId) (ad : Nat → Nat) (sz : Nat), CI l D cA ad sz yX4_charge wsX4_charge 1 22 0 0 [.ref (ad 0), .int (nI i), .int 2, .int am] F (some (.int (M 49 i + am))) F1) ∧ RX (n + 1) F1 (mcF M i 0 am) :=
  ⟨_, fun l D cA ad sz => ciV (c_X4_charge2 l D cA ad sz F i hi am h1) (by rw [(pm_charge2 hn h hi am h1).1]), (pm_charge2 hn h hi am h1).2⟩
theorem b_drop {n : Nat} {F M : FF} (h : RX n F M) {i j : Nat} (hi : i < 4) (hj : j < tM M i) (hz : M 46 (8 * i + j) = 0) {w : Nat} (hw : w < 16) (ew : M 36 1 = nI w) : ∃ F1 : FF, (∀ (l : Launch) (D : va_G) (cA : Nat → ClassId) (ad : Nat → Nat) (sz : Nat), CI l D cA ad sz yX4_drop wsX4_drop 2 48 0 0 [.ref (ad 0), .int (nI i), .int (nI j)] F (some (.int (mdK M i j w))) F1) ∧ RX (n + 1) F1 (mdF M i j w) := by
  have h8 := tk_8 h hi
  exact ⟨_, fun l D cA ad sz => ciV (c_X4_drop l D cA ad sz F i hi j (by omega) (by rw [tk_n h hi]; exact hasI_nI hj h8) (cr_p h hi hj hz) w hw (h.2.1.1.trans ew)) (pm_drop h hi hj hw).1, (pm_drop h hi hj hw).2⟩

set_option maxHeartbeats 1000000 in
set_option maxRecDepth 100000 in
theorem b_isPaidSo {l : Launch} (hst : l.stackTraces = false) {n : Nat} {M : FF} (hn : n + 2 ≤ 512) {i : Nat} (hi : i < 4) {am : Int32} (ha : wi am 1 1000000 = true) {F G : FF} (hF : RX n F M) (hG : RX n G M) (D : va_G) (cA : Nat → ClassId) (ad bd : Nat → Nat) (sz : Nat) : CB l D cA ad bd sz yL_isPaidSo wsL_isPaidSo 6 133 0 0 [.ref (ad 0), .ref (bd 0), .int (nI i), .int am] F G (fun F1 G1 : FF => RX (n + 1 + 1) F1 (mcF (mpF M i am) i 0 am) ∧ RX (n + 1 + 1) G1 (mcF (mpF M i am) i 0 am)) := by
  refine CB_of (own := RL) (cc := cL_isPaidSo) (maxL := 8) (ret := (some .boolean)) (by decide +kernel) rfl rfl (Nat.le_of_ble_eq_true rfl) ?_
  intro p e s m below meth c ls X S hr hl
  obtain ⟨⟨hx, hb, hml, hown, hts⟩, hE, hI, hlocks⟩ := id X
  have hl : lv_has ls 8 [(0, .ref (ad 0)), (1, .ref (bd 0)), (2, .int (nI i)), (3, .int am)] := hl
  obtain ⟨p1, p2⟩ := pay_ow (tk_8 hF hi) am
  have ba := wi_bt i1 i1e6 ha
  have q1 := (pm_pay (by omega) hF hi am ha).2
  have q2 := (pm_charge2 (by omega) q1 hi am ha).2
  obtain ⟨g1, g2, g3⟩ := chg_ow (by omega) q1 hi ba q2
  have wb := ow_bd (by omega) hF hi
  have es : (owM M i - am).toInt = (owM M i).toInt - am.toInt := isub (by have := ba.2; omega) (by have := ba.1; omega)
  rw [p1, es] at g1 g2
  refine lv_aload_n hx hb dL_isPaidSo_0 rfl (lv_at hl 0 rfl) ?_
  refine lv_iload_n hx hb dL_isPaidSo_1 rfl (lv_at hl 2 rfl) ?_
  obtain ⟨F_1, c_2, r_3⟩ := a_owed (by omega) hF hi
  refine t_V0 X S (c_2 l D cA ad _) ob_0 rfl (cwV 1 hts gL_isPaidSo_X4_owed rfl rfl rfl (by decide +kernel) ⟨Nat.le_of_ble_eq_true rfl, Nat.le_of_ble_eq_true rfl⟩) rfl hl.1 rfl (Nat.le_of_ble_eq_true rfl) dL_isPaidSo_2 ⟨(show 0 ≤ 0 by omega), (show 0 ≤ 0 by omega)⟩ (fun H locs S => ?_)
  refine lv_istore (lv' := [(4, .int (owM M i)), (0, .ref (ad 0)), (1, .ref (bd 0)), (2, .int (nI i)), (3, .int am)]) hx hb dL_isPaidSo_5 hl (by decide) rfl (fun ls hl => ?_)
  refine lv_aload_n hx hb dL_isPaidSo_7 rfl (lv_at hl 1 rfl) ?_
  refine lv_iload_n hx hb dL_isPaidSo_8 rfl (lv_at hl 3 rfl) ?_
  refine t_V0 X S (a_paid r_3 hi l D cA ad _) ob_0 rfl (cwV 1 hts gL_isPaidSo_X4_paid rfl rfl rfl (by decide +kernel) ⟨Nat.le_of_ble_eq_true rfl, Nat.le_of_ble_eq_true rfl⟩) rfl hl.1 rfl (Nat.le_of_ble_eq_true rfl) dL_isPaidSo_9 ⟨(show 0 ≤ 0 by omega), (show 0 ≤ 0 by omega)⟩ (fun H locs S => ?_)
  refine lv_istore (lv' := [(5, .int (M 53 i)), (4, .int (owM M i)), (0, .ref (ad 0)), (1, .ref (bd 0)), (2, .int (nI i)), (3, .int am)]) hx hb dL_isPaidSo_12 hl (by decide) rfl (fun ls hl => ?_)
  refine lv_aload_n hx hb dL_isPaidSo_14 rfl (lv_at hl 2 rfl) ?_
  refine lv_iload_n hx hb dL_isPaidSo_15 rfl (lv_at hl 4 rfl) ?_
  refine lv_iload_n hx hb dL_isPaidSo_16 rfl (lv_at hl 5 rfl) ?_
  obtain ⟨F_4, c_5, r_6⟩ := b_pay (by omega) r_3 hi ha
  refine t_V0 X S (c_5 l D cA ad _) ob_0 rfl (cwV 2 hts gL_isPaidSo_X4_pay rfl rfl rfl (by decide +kernel) ⟨Nat.le_of_ble_eq_true rfl, Nat.le_of_ble_eq_true rfl⟩) rfl hl.1 rfl (Nat.le_of_ble_eq_true rfl) dL_isPaidSo_17 ⟨(show 0 ≤ 0 by omega), (show 0 ≤ 0 by omega)⟩ (fun H locs S => ?_)
  refine lv_iload hx hb dL_isPaidSo_20 (lv_at hl 1 rfl) ?_
  refine lv_iload_n hx hb dL_isPaidSo_22 rfl (lv_at hl 5 rfl) ?_
  refine lv_isub hx hb dL_isPaidSo_23 ?_
  refine lv_icmp_ne (tgt := 56) hx hb dL_isPaidSo_24 (by decide) (fun z => False.elim (z p1)) (fun _ => ?_)
  refine lv_aload_n hx hb dL_isPaidSo_27 rfl (lv_at hl 3 rfl) ?_
  refine lv_iload_n hx hb dL_isPaidSo_28 rfl (lv_at hl 4 rfl) ?_
  refine lv_iload_n hx hb dL_isPaidSo_29 rfl (lv_at hl 5 rfl) ?_
  obtain ⟨F_7, c_8, r_9⟩ := b_pay (by omega) hG hi ha
  refine u_V0 X S (c_8 l D cA bd _) ob_0 rfl (cwV 2 hts gL_isPaidSo_X4_pay rfl rfl rfl (by decide +kernel) ⟨Nat.le_of_ble_eq_true rfl, Nat.le_of_ble_eq_true rfl⟩) rfl hl.1 rfl (Nat.le_of_ble_eq_true rfl) dL_isPaidSo_30 ⟨(show 0 ≤ 0 by omega), (show 0 ≤ 0 by omega)⟩ (fun H locs S => ?_)
  refine lv_iload hx hb dL_isPaidSo_33 (lv_at hl 1 rfl) ?_
  refine lv_iload_n hx hb dL_isPaidSo_35 rfl (lv_at hl 5 rfl) ?_
  refine lv_isub hx hb dL_isPaidSo_36 ?_
  refine lv_icmp_ne (tgt := 56) hx hb dL_isPaidSo_37 (by decide) (fun z => False.elim (z p1)) (fun _ => ?_)
  refine lv_aload_n hx hb dL_isPaidSo_40 rfl (lv_at hl 2 rfl) ?_
  refine lv_iload_n hx hb dL_isPaidSo_41 rfl (lv_at hl 4 rfl) ?_
  refine t_V0 X S (a_paid r_6 hi l D cA ad _) ob_0 rfl (cwV 1 hts gL_isPaidSo_X4_paid rfl rfl rfl (by decide +kernel) ⟨Nat.le_of_ble_eq_true rfl, Nat.le_of_ble_eq_true rfl⟩) rfl hl.1 rfl (Nat.le_of_ble_eq_true rfl) dL_isPaidSo_42 ⟨(show 0 ≤ 0 by omega), (show 0 ≤ 0 by omega)⟩ (fun H locs S => ?_)
  refine lv_iload hx hb dL_isPaidSo_45 (lv_at hl 0 rfl) ?_
  refine lv_iload_n hx hb dL_isPaidSo_47 rfl (lv_at hl 5 rfl) ?_
  refine lv_iadd hx hb dL_isPaidSo_48 ?_
  refine lv_icmp_ne (tgt := 56) hx hb dL_isPaidSo_49 (by decide) (fun z => False.elim (z p2)) (fun _ => ?_)
  refine lv_iconst (v := 1) hx hb dL_isPaidSo_52 (by decide) ?_
  refine lv_goto (tgt := 57) hx hb dL_isPaidSo_53 (by decide) ?_
  refine lv_istore (lv' := [(6, .int 1), (5, .int (M 53 i)), (4, .int (owM M i)), (0, .ref (ad 0)), (1, .ref (bd 0)), (2, .int (nI i)), (3, .int am)]) hx hb dL_isPaidSo_57 hl (by decide) rfl (fun ls hl => ?_)
  refine lv_aload_n hx hb dL_isPaidSo_59 rfl (lv_at hl 3 rfl) ?_
  refine lv_iload_n hx hb dL_isPaidSo_60 rfl (lv_at hl 5 rfl) ?_
  refine lv_iconst (v := 2) hx hb dL_isPaidSo_61 (by decide) ?_
  refine t_V0 X S (a_charged2 r_6 hi l D cA ad _) ob_0 rfl (cwV 2 hts gL_isPaidSo_X4_charged rfl rfl rfl (by decide +kernel) ⟨Nat.le_of_ble_eq_true rfl, Nat.le_of_ble_eq_true rfl⟩) rfl hl.1 rfl (Nat.le_of_ble_eq_true rfl) dL_isPaidSo_62 ⟨(show 0 ≤ 0 by omega), (show 0 ≤ 0 by omega)⟩ (fun H locs S => ?_)
  refine lv_istore (lv' := [(7, .int ((mpF M i am) 49 i)), (6, .int 1), (5, .int (M 53 i)), (4, .int (owM M i)), (0, .ref (ad 0)), (1, .ref (bd 0)), (2, .int (nI i)), (3, .int am)]) hx hb dL_isPaidSo_65 hl (by decide) rfl (fun ls hl => ?_)
  refine lv_iload hx hb dL_isPaidSo_67 (lv_at hl 1 rfl) ?_
  refine lv_if_eq (tgt := 104) hx hb dL_isPaidSo_69 (by decide) (fun z => False.elim (by first | exact absurd z (by decide) | exact absurd (by decide) z)) (fun _ => ?_)
  refine lv_aload_n hx hb dL_isPaidSo_72 rfl (lv_at hl 4 rfl) ?_
  refine lv_iload_n hx hb dL_isPaidSo_73 rfl (lv_at hl 6 rfl) ?_
  refine lv_iconst (v := 2) hx hb dL_isPaidSo_74 (by decide) ?_
  refine lv_iload_n hx hb dL_isPaidSo_75 rfl (lv_at hl 7 rfl) ?_
  obtain ⟨F_10, c_11, r_12⟩ := b_charge (by omega) r_6 hi ha
  refine t_V0 X S (c_11 l D cA ad _) ob_0 rfl (cwV 3 hts gL_isPaidSo_X4_charge rfl rfl rfl (by decide +kernel) ⟨Nat.le_of_ble_eq_true rfl, Nat.le_of_ble_eq_true rfl⟩) rfl hl.1 rfl (Nat.le_of_ble_eq_true rfl) dL_isPaidSo_76 ⟨(show 0 ≤ 0 by omega), (show 0 ≤ 0 by omega)⟩ (fun H locs S => ?_)
  refine lv_iload hx hb dL_isPaidSo_79 (lv_at hl 0 rfl) ?_
  refine lv_iload_n hx hb dL_isPaidSo_81 rfl (lv_at hl 7 rfl) ?_
  refine lv_iadd hx hb dL_isPaidSo_82 ?_
  refine lv_icmp_ne (tgt := 104) hx hb dL_isPaidSo_83 (by decide) (fun z => False.elim (z rfl)) (fun _ => ?_)
  refine lv_aload_n hx hb dL_isPaidSo_86 rfl (lv_at hl 5 rfl) ?_
  refine lv_iload_n hx hb dL_isPaidSo_87 rfl (lv_at hl 6 rfl) ?_
  refine lv_iconst (v := 2) hx hb dL_isPaidSo_88 (by decide) ?_
  refine lv_iload_n hx hb dL_isPaidSo_89 rfl (lv_at hl 7 rfl) ?_
  obtain ⟨F_13, c_14, r_15⟩ := b_charge (by omega) r_9 hi ha
  refine u_V0 X S (c_14 l D cA bd _) ob_0 rfl (cwV 3 hts gL_isPaidSo_X4_charge rfl rfl rfl (by decide +kernel) ⟨Nat.le_of_ble_eq_true rfl, Nat.le_of_ble_eq_true rfl⟩) rfl hl.1 rfl (Nat.le_of_ble_eq_true rfl) dL_isPaidSo_90 ⟨(show 0 ≤ 0 by omega), (show 0 ≤ 0 by omega)⟩ (fun H locs S => ?_)
  refine lv_iload hx hb dL_isPaidSo_93 (lv_at hl 0 rfl) ?_
  refine lv_iload_n hx hb dL_isPaidSo_95 rfl (lv_at hl 7 rfl) ?_
  refine lv_iadd hx hb dL_isPaidSo_96 ?_
  refine lv_icmp_ne (tgt := 104) hx hb dL_isPaidSo_97 (by decide) (fun z => False.elim (z rfl)) (fun _ => ?_)
  refine lv_iconst (v := 1) hx hb dL_isPaidSo_100 (by decide) ?_
  refine lv_goto (tgt := 105) hx hb dL_isPaidSo_101 (by decide) ?_
  refine lv_istore (lv' := [(6, .int 1), (7, .int ((mpF M i am) 49 i)), (5, .int (M 53 i)), (4, .int (owM M i)), (0, .ref (ad 0)), (1, .ref (bd 0)), (2, .int (nI i)), (3, .int am)]) hx hb dL_isPaidSo_105 hl (by decide) rfl (fun ls hl => ?_)
  refine lv_iload hx hb dL_isPaidSo_107 (lv_at hl 0 rfl) ?_
  refine lv_if_eq (tgt := 138) hx hb dL_isPaidSo_109 (by decide) (fun z => False.elim (by first | exact absurd z (by decide) | exact absurd (by decide) z)) (fun _ => ?_)
  refine lv_aload_n hx hb dL_isPaidSo_112 rfl (lv_at hl 4 rfl) ?_
  refine lv_iload_n hx hb dL_isPaidSo_113 rfl (lv_at hl 6 rfl) ?_
  obtain ⟨F_16, c_17, r_18⟩ := a_owed (by omega) r_12 hi
  refine t_V0 X S (c_17 l D cA ad _) ob_0 rfl (cwV 1 hts gL_isPaidSo_X4_owed rfl rfl rfl (by decide +kernel) ⟨Nat.le_of_ble_eq_true rfl, Nat.le_of_ble_eq_true rfl⟩) rfl hl.1 rfl (Nat.le_of_ble_eq_true rfl) dL_isPaidSo_114 ⟨(show 0 ≤ 0 by omega), (show 0 ≤ 0 by omega)⟩ (fun H locs S => ?_)
  refine lv_iload hx hb dL_isPaidSo_117 (lv_at hl 3 rfl) ?_
  refine lv_iload_n hx hb dL_isPaidSo_119 rfl (lv_at hl 7 rfl) ?_
  refine lv_isub hx hb dL_isPaidSo_120 ?_
  refine lv_icmp_lt (tgt := 138) hx hb dL_isPaidSo_121 (by decide) (fun z => False.elim (by have q := ilt.mp z; rw [es] at q; omega)) (fun _ => ?_)
  refine lv_aload_n hx hb dL_isPaidSo_124 rfl (lv_at hl 4 rfl) ?_
  refine lv_iload_n hx hb dL_isPaidSo_125 rfl (lv_at hl 6 rfl) ?_
  obtain ⟨F_19, c_20, r_21⟩ := a_owed (by omega) r_18 hi
  refine t_V0 X S (c_20 l D cA ad _) ob_0 rfl (cwV 1 hts gL_isPaidSo_X4_owed rfl rfl rfl (by decide +kernel) ⟨Nat.le_of_ble_eq_true rfl, Nat.le_of_ble_eq_true rfl⟩) rfl hl.1 rfl (Nat.le_of_ble_eq_true rfl) dL_isPaidSo_126 ⟨(show 0 ≤ 0 by omega), (show 0 ≤ 0 by omega)⟩ (fun H locs S => ?_)
  refine lv_iload hx hb dL_isPaidSo_129 (lv_at hl 3 rfl) ?_
  refine lv_icmp_gt (tgt := 138) hx hb dL_isPaidSo_131 (by decide) (fun z => False.elim (by have q := ilt.mp z; have := ba.1; omega)) (fun _ => ?_)
  refine lv_iconst (v := 1) hx hb dL_isPaidSo_134 (by decide) ?_
  refine lv_goto (tgt := 139) hx hb dL_isPaidSo_135 (by decide) ?_
  exact t_zret X S hr dL_isPaidSo_139 (show 0 ≤ 0 by omega) (show 0 ≤ 0 by omega) rfl ⟨r_21, r_15⟩

set_option maxHeartbeats 1000000 in
set_option maxRecDepth 100000 in
theorem b_isDroppedSox {l : Launch} (hst : l.stackTraces = false) {n : Nat} {M : FF} (hn : n + 3 ≤ 512) {i : Nat} (hi : i < 4) {cr : Int32} (hc : wi cr 1 10 = true) (ht : tM M i = 8) {F G : FF} (hF : RX n F M) (hG : RX n G M) (D : va_G) (cA : Nat → ClassId) (ad bd : Nat → Nat) (sz : Nat) : CB l D cA ad bd sz yL_isDroppedSo wsL_isDroppedSo 10 186 3 18 [.ref (ad 0), .ref (bd 0), .int (nI i), .int cr] F G (fun F1 G1 : FF => RX (n + 1 + 1 + 1) F1 M ∧ RX (n + 1 + 1 + 1) G1 M) := by
  refine CB_of (own := RL) (cc := cL_isDroppedSo) (maxL := 10) (ret := (some .boolean)) (by decide +kernel) rfl rfl (Nat.le_of_ble_eq_true rfl) ?_
  intro p e s m below meth c ls X S hr hl
  obtain ⟨⟨hx, hb, hml, hown, hts⟩, hE, hI, hlocks⟩ := id X
  have hl : lv_has ls 10 [(0, .ref (ad 0)), (1, .ref (bd 0)), (2, .int (nI i)), (3, .int cr)] := hl
  refine lv_aload_n hx hb dL_isDroppedSo_0 rfl (lv_at hl 0 rfl) ?_
  refine lv_iload_n hx hb dL_isDroppedSo_1 rfl (lv_at hl 2 rfl) ?_
  refine lv_iconst (v := 0) hx hb dL_isDroppedSo_2 (by decide) ?_
  refine t_V0 X S (a_charged0 hF hi l D cA ad _) ob_0 rfl (cwV 2 hts gL_isDroppedSo_X4_charged rfl rfl rfl (by decide +kernel) ⟨Nat.le_of_ble_eq_true rfl, Nat.le_of_ble_eq_true rfl⟩) rfl hl.1 rfl (Nat.le_of_ble_eq_true rfl) dL_isDroppedSo_3 ⟨(show 0 ≤ 3 by omega), (show 0 ≤ 18 by omega)⟩ (fun H locs S => ?_)
  refine lv_istore (lv' := [(4, .int (tuM M i)), (0, .ref (ad 0)), (1, .ref (bd 0)), (2, .int (nI i)), (3, .int cr)]) hx hb dL_isDroppedSo_6 hl (by decide) rfl (fun ls hl => ?_)
  refine lv_aload_n hx hb dL_isDroppedSo_8 rfl (lv_at hl 1 rfl) ?_
  refine lv_iload_n hx hb dL_isDroppedSo_9 rfl (lv_at hl 3 rfl) ?_
  refine t_V0 X S (a_credits hF hi l D cA ad _) ob_0 rfl (cwV 1 hts gL_isDroppedSo_X4_credits rfl rfl rfl (by decide +kernel) ⟨Nat.le_of_ble_eq_true rfl, Nat.le_of_ble_eq_true rfl⟩) rfl hl.1 rfl (Nat.le_of_ble_eq_true rfl) dL_isDroppedSo_10 ⟨(show 0 ≤ 3 by omega), (show 0 ≤ 18 by omega)⟩ (fun H locs S => ?_)
  refine lv_istore (lv' := [(5, .int (mcr M i (tM M i))), (4, .int (tuM M i)), (0, .ref (ad 0)), (1, .ref (bd 0)), (2, .int (nI i)), (3, .int cr)]) hx hb dL_isDroppedSo_13 hl (by decide) rfl (fun ls hl => ?_)
  refine lv_aload_n hx hb dL_isDroppedSo_15 rfl (lv_at hl 2 rfl) ?_
  refine lv_iconst (v := 5) hx hb dL_isDroppedSo_16 (by decide) ?_
  refine lv_iload_n hx hb dL_isDroppedSo_17 rfl (lv_at hl 4 rfl) ?_
  refine lv_iload_n hx hb dL_isDroppedSo_18 rfl (lv_at hl 5 rfl) ?_
  refine lv_iconst (v := 0) hx hb dL_isDroppedSo_19 (by decide) ?_
  obtain ⟨F_1, c_2, r_3⟩ := (do_take_full hst hi cr 0 hc ht).2.2 _ hF
  refine t_SW X S (c_2 D cA ad _) (vx_cwSW 5 (hh := [(0, 176, 177, 51), (0, 176, 182, 54), (0, 176, 187, 56)]) hts gL_isDroppedSo_L_does rfl rfl rfl (by decide +kernel) ⟨Nat.le_of_ble_eq_true rfl, Nat.le_of_ble_eq_true rfl⟩) rfl hl.1 rfl (Nat.le_of_ble_eq_true rfl) dL_isDroppedSo_20 ⟨(show 0 + 1 ≤ 3 by omega), (show 0 + 6 ≤ 18 by omega)⟩ (fun H locs S => ?_)
  refine lv_istore (lv' := [(6, .int (-1000000001)), (5, .int (mcr M i (tM M i))), (4, .int (tuM M i)), (0, .ref (ad 0)), (1, .ref (bd 0)), (2, .int (nI i)), (3, .int cr)]) hx hb dL_isDroppedSo_23 hl (by decide) rfl (fun ls hl => ?_)
  refine lv_aload_n hx hb dL_isDroppedSo_25 rfl (lv_at hl 4 rfl) ?_
  refine lv_iconst (v := 5) hx hb dL_isDroppedSo_26 (by decide) ?_
  refine lv_iload_n hx hb dL_isDroppedSo_27 rfl (lv_at hl 5 rfl) ?_
  refine lv_iload_n hx hb dL_isDroppedSo_28 rfl (lv_at hl 6 rfl) ?_
  refine lv_iconst (v := 0) hx hb dL_isDroppedSo_29 (by decide) ?_
  obtain ⟨F_4, c_5, r_6⟩ := (do_take_full hst hi cr 0 hc ht).2.2 _ hG
  refine u_SW X S (c_5 D cA bd _) (vx_cwSW 5 (hh := [(0, 176, 177, 51), (0, 176, 182, 54), (0, 176, 187, 56)]) hts gL_isDroppedSo_L_does rfl rfl rfl (by decide +kernel) ⟨Nat.le_of_ble_eq_true rfl, Nat.le_of_ble_eq_true rfl⟩) rfl hl.1 rfl (Nat.le_of_ble_eq_true rfl) dL_isDroppedSo_30 ⟨(show (0 + 1) + 1 ≤ 3 by omega), (show (0 + 6) + 6 ≤ 18 by omega)⟩ (fun H locs S => ?_)
  refine lv_iload hx hb dL_isDroppedSo_33 (lv_at hl 0 rfl) ?_
  refine lv_icmp_ne (tgt := 42) hx hb dL_isDroppedSo_35 (by decide) (fun z => False.elim (z rfl)) (fun _ => ?_)
  refine lv_iconst (v := 1) hx hb dL_isDroppedSo_38 (by decide) ?_
  refine lv_goto (tgt := 43) hx hb dL_isDroppedSo_39 (by decide) ?_
  refine lv_istore (lv' := [(7, .int 1), (6, .int (-1000000001)), (5, .int (mcr M i (tM M i))), (4, .int (tuM M i)), (0, .ref (ad 0)), (1, .ref (bd 0)), (2, .int (nI i)), (3, .int cr)]) hx hb dL_isDroppedSo_43 hl (by decide) rfl (fun ls hl => ?_)
  refine lv_iload hx hb dL_isDroppedSo_45 (lv_at hl 1 rfl) ?_
  refine lv_if_ge (tgt := 71) hx hb dL_isDroppedSo_47 (by decide) (fun z => False.elim (absurd z (by decide))) (fun _ => ?_)
  refine lv_iload hx hb dL_isDroppedSo_50 (lv_at hl 0 rfl) ?_
  refine lv_if_eq (tgt := 69) hx hb dL_isDroppedSo_52 (by decide) (fun z => False.elim (by first | exact absurd z (by decide) | exact absurd (by decide) z)) (fun _ => ?_)
  refine lv_aload_n hx hb dL_isDroppedSo_55 rfl (lv_at hl 4 rfl) ?_
  refine lv_iload_n hx hb dL_isDroppedSo_56 rfl (lv_at hl 6 rfl) ?_
  refine t_V0 X S (a_credits r_3 hi l D cA ad _) ob_0 rfl (cwV 1 hts gL_isDroppedSo_X4_credits rfl rfl rfl (by decide +kernel) ⟨Nat.le_of_ble_eq_true rfl, Nat.le_of_ble_eq_true rfl⟩) rfl hl.1 rfl (Nat.le_of_ble_eq_true rfl) dL_isDroppedSo_57 ⟨(show ((0 + 1) + 1) ≤ 3 by omega), (show ((0 + 6) + 6) ≤ 18 by omega)⟩ (fun H locs S => ?_)
  refine lv_iload hx hb dL_isDroppedSo_60 (lv_at hl 2 rfl) ?_
  refine lv_icmp_ne (tgt := 69) hx hb dL_isDroppedSo_62 (by decide) (fun z => False.elim (z rfl)) (fun _ => ?_)
  refine lv_iconst (v := 1) hx hb dL_isDroppedSo_65 (by decide) ?_
  refine lv_goto (tgt := 70) hx hb dL_isDroppedSo_66 (by decide) ?_
  exact t_zret X S hr dL_isDroppedSo_70 (show ((0 + 1) + 1) ≤ 3 by omega) (show ((0 + 6) + 6) ≤ 18 by omega) rfl ⟨RX_of (by omega) r_3 (EC_rfl _) (EM_rfl _), RX_of (by omega) r_6 (EC_rfl _) (EM_rfl _)⟩

set_option maxHeartbeats 1000000 in
set_option maxRecDepth 100000 in
theorem b_isDroppedSo {l : Launch} (hst : l.stackTraces = false) {n : Nat} {M : FF} (hn : n + 3 ≤ 512) {i : Nat} (hi : i < 4) {cr : Int32} (hc : wi cr 1 10 = true) (ht : tM M i < 8) {F G : FF} (hF : RX n F M) (hG : RX n G M) (D : va_G) (cA : Nat → ClassId) (ad bd : Nat → Nat) (sz : Nat) : CB l D cA ad bd sz yL_isDroppedSo wsL_isDroppedSo 10 186 3 18 [.ref (ad 0), .ref (bd 0), .int (nI i), .int cr] F G (fun F1 G1 : FF => RX (n + 1 + 1 + 1) F1 (mdF (mtF M i cr) i (tM M i) (wkN M)) ∧ RX (n + 1 + 1 + 1) G1 (mdF (mtF M i cr) i (tM M i) (wkN M))) := by
  refine CB_of (own := RL) (cc := cL_isDroppedSo) (maxL := 10) (ret := (some .boolean)) (by decide +kernel) rfl rfl (Nat.le_of_ble_eq_true rfl) ?_
  intro p e s m below meth c ls X S hr hl
  obtain ⟨⟨hx, hb, hml, hown, hts⟩, hE, hI, hlocks⟩ := id X
  have hl : lv_has ls 10 [(0, .ref (ad 0)), (1, .ref (bd 0)), (2, .int (nI i)), (3, .int cr)] := hl
  obtain ⟨k1, k2, k3, k4, z46, k6, k7⟩ := tk_facts (M := M) (i := i) (cr := cr) ht
  obtain ⟨d1, d2, d3, d4, d5, d6, d7, d8, z47⟩ := dp_facts (M := mtF M i cr) (i := i) (t := tM M i) (w := wkN M)
  obtain ⟨hw, ew0⟩ := wk_n hF
  have ew : mtF M i cr 36 1 = nI (wkN M) := k7.trans ew0
  have q1 := pm_take hF hi cr hc ht
  obtain ⟨g1, g2, g3, g4, g5⟩ := td_facts hF hi (wi_bt i1 i10 hc) ht q1 hw
  have ht1 : tM M i < tM (mtF M i cr) i := by omega
  have ht2 : tM M i < tM (mdF (mtF M i cr) i (tM M i) (wkN M)) i := by omega
  have ht8 : tM (mdF (mtF M i cr) i (tM M i) (wkN M)) i ≤ 8 := by omega
  refine lv_aload_n hx hb dL_isDroppedSo_0 rfl (lv_at hl 0 rfl) ?_
  refine lv_iload_n hx hb dL_isDroppedSo_1 rfl (lv_at hl 2 rfl) ?_
  refine lv_iconst (v := 0) hx hb dL_isDroppedSo_2 (by decide) ?_
  refine t_V0 X S (a_charged0 hF hi l D cA ad _) ob_0 rfl (cwV 2 hts gL_isDroppedSo_X4_charged rfl rfl rfl (by decide +kernel) ⟨Nat.le_of_ble_eq_true rfl, Nat.le_of_ble_eq_true rfl⟩) rfl hl.1 rfl (Nat.le_of_ble_eq_true rfl) dL_isDroppedSo_3 ⟨(show 0 ≤ 3 by omega), (show 0 ≤ 18 by omega)⟩ (fun H locs S => ?_)
  refine lv_istore (lv' := [(4, .int (tuM M i)), (0, .ref (ad 0)), (1, .ref (bd 0)), (2, .int (nI i)), (3, .int cr)]) hx hb dL_isDroppedSo_6 hl (by decide) rfl (fun ls hl => ?_)
  refine lv_aload_n hx hb dL_isDroppedSo_8 rfl (lv_at hl 1 rfl) ?_
  refine lv_iload_n hx hb dL_isDroppedSo_9 rfl (lv_at hl 3 rfl) ?_
  refine t_V0 X S (a_credits hF hi l D cA ad _) ob_0 rfl (cwV 1 hts gL_isDroppedSo_X4_credits rfl rfl rfl (by decide +kernel) ⟨Nat.le_of_ble_eq_true rfl, Nat.le_of_ble_eq_true rfl⟩) rfl hl.1 rfl (Nat.le_of_ble_eq_true rfl) dL_isDroppedSo_10 ⟨(show 0 ≤ 3 by omega), (show 0 ≤ 18 by omega)⟩ (fun H locs S => ?_)
  refine lv_istore (lv' := [(5, .int (mcr M i (tM M i))), (4, .int (tuM M i)), (0, .ref (ad 0)), (1, .ref (bd 0)), (2, .int (nI i)), (3, .int cr)]) hx hb dL_isDroppedSo_13 hl (by decide) rfl (fun ls hl => ?_)
  refine lv_aload_n hx hb dL_isDroppedSo_15 rfl (lv_at hl 2 rfl) ?_
  refine lv_iconst (v := 5) hx hb dL_isDroppedSo_16 (by decide) ?_
  refine lv_iload_n hx hb dL_isDroppedSo_17 rfl (lv_at hl 4 rfl) ?_
  refine lv_iload_n hx hb dL_isDroppedSo_18 rfl (lv_at hl 5 rfl) ?_
  refine lv_iconst (v := 0) hx hb dL_isDroppedSo_19 (by decide) ?_
  obtain ⟨F_1, c_2, r_3⟩ := (do_take_ok hi cr 0 hc ht).2.2 _ hF
  refine t_SW X S (c_2 D cA ad _) (vx_cwSW 5 (hh := [(0, 176, 177, 51), (0, 176, 182, 54), (0, 176, 187, 56)]) hts gL_isDroppedSo_L_does rfl rfl rfl (by decide +kernel) ⟨Nat.le_of_ble_eq_true rfl, Nat.le_of_ble_eq_true rfl⟩) rfl hl.1 rfl (Nat.le_of_ble_eq_true rfl) dL_isDroppedSo_20 ⟨(show 0 + 1 ≤ 3 by omega), (show 0 + 6 ≤ 18 by omega)⟩ (fun H locs S => ?_)
  refine lv_istore (lv' := [(6, .int (nI (tM M i))), (5, .int (mcr M i (tM M i))), (4, .int (tuM M i)), (0, .ref (ad 0)), (1, .ref (bd 0)), (2, .int (nI i)), (3, .int cr)]) hx hb dL_isDroppedSo_23 hl (by decide) rfl (fun ls hl => ?_)
  refine lv_aload_n hx hb dL_isDroppedSo_25 rfl (lv_at hl 4 rfl) ?_
  refine lv_iconst (v := 5) hx hb dL_isDroppedSo_26 (by decide) ?_
  refine lv_iload_n hx hb dL_isDroppedSo_27 rfl (lv_at hl 5 rfl) ?_
  refine lv_iload_n hx hb dL_isDroppedSo_28 rfl (lv_at hl 6 rfl) ?_
  refine lv_iconst (v := 0) hx hb dL_isDroppedSo_29 (by decide) ?_
  obtain ⟨F_4, c_5, r_6⟩ := (do_take_ok hi cr 0 hc ht).2.2 _ hG
  refine u_SW X S (c_5 D cA bd _) (vx_cwSW 5 (hh := [(0, 176, 177, 51), (0, 176, 182, 54), (0, 176, 187, 56)]) hts gL_isDroppedSo_L_does rfl rfl rfl (by decide +kernel) ⟨Nat.le_of_ble_eq_true rfl, Nat.le_of_ble_eq_true rfl⟩) rfl hl.1 rfl (Nat.le_of_ble_eq_true rfl) dL_isDroppedSo_30 ⟨(show (0 + 1) + 1 ≤ 3 by omega), (show (0 + 6) + 6 ≤ 18 by omega)⟩ (fun H locs S => ?_)
  refine lv_iload hx hb dL_isDroppedSo_33 (lv_at hl 0 rfl) ?_
  refine lv_icmp_ne (tgt := 42) hx hb dL_isDroppedSo_35 (by decide) (fun z => False.elim (z rfl)) (fun _ => ?_)
  refine lv_iconst (v := 1) hx hb dL_isDroppedSo_38 (by decide) ?_
  refine lv_goto (tgt := 43) hx hb dL_isDroppedSo_39 (by decide) ?_
  refine lv_istore (lv' := [(7, .int 1), (6, .int (nI (tM M i))), (5, .int (mcr M i (tM M i))), (4, .int (tuM M i)), (0, .ref (ad 0)), (1, .ref (bd 0)), (2, .int (nI i)), (3, .int cr)]) hx hb dL_isDroppedSo_43 hl (by decide) rfl (fun ls hl => ?_)
  refine lv_iload hx hb dL_isDroppedSo_45 (lv_at hl 1 rfl) ?_
  refine lv_if_ge (tgt := 71) hx hb dL_isDroppedSo_47 (by decide) (fun _ => ?_) (fun z => False.elim (z (nI_pos' (by omega))))
  refine lv_aload_n hx hb dL_isDroppedSo_71 rfl (lv_at hl 4 rfl) ?_
  refine lv_iload_n hx hb dL_isDroppedSo_72 rfl (lv_at hl 6 rfl) ?_
  refine lv_iconst (v := 0) hx hb dL_isDroppedSo_73 (by decide) ?_
  refine t_V0 X S (a_charged0 r_3 hi l D cA ad _) ob_0 rfl (cwV 2 hts gL_isDroppedSo_X4_charged rfl rfl rfl (by decide +kernel) ⟨Nat.le_of_ble_eq_true rfl, Nat.le_of_ble_eq_true rfl⟩) rfl hl.1 rfl (Nat.le_of_ble_eq_true rfl) dL_isDroppedSo_74 ⟨(show ((0 + 1) + 1) ≤ 3 by omega), (show ((0 + 6) + 6) ≤ 18 by omega)⟩ (fun H locs S => ?_)
  refine lv_istore (lv' := [(8, .int (tuM (mtF M i cr) i)), (7, .int 1), (6, .int (nI (tM M i))), (5, .int (mcr M i (tM M i))), (4, .int (tuM M i)), (0, .ref (ad 0)), (1, .ref (bd 0)), (2, .int (nI i)), (3, .int cr)]) hx hb dL_isDroppedSo_77 hl (by decide) rfl (fun ls hl => ?_)
  refine lv_iload hx hb dL_isDroppedSo_79 (lv_at hl 1 rfl) ?_
  refine lv_if_eq (tgt := 107) hx hb dL_isDroppedSo_81 (by decide) (fun z => False.elim (by first | exact absurd z (by decide) | exact absurd (by decide) z)) (fun _ => ?_)
  refine lv_aload_n hx hb dL_isDroppedSo_84 rfl (lv_at hl 5 rfl) ?_
  refine lv_iload_n hx hb dL_isDroppedSo_85 rfl (lv_at hl 7 rfl) ?_
  refine t_V0 X S (a_credits r_3 hi l D cA ad _) ob_0 rfl (cwV 1 hts gL_isDroppedSo_X4_credits rfl rfl rfl (by decide +kernel) ⟨Nat.le_of_ble_eq_true rfl, Nat.le_of_ble_eq_true rfl⟩) rfl hl.1 rfl (Nat.le_of_ble_eq_true rfl) dL_isDroppedSo_86 ⟨(show ((0 + 1) + 1) ≤ 3 by omega), (show ((0 + 6) + 6) ≤ 18 by omega)⟩ (fun H locs S => ?_)
  refine lv_iload hx hb dL_isDroppedSo_89 (lv_at hl 3 rfl) ?_
  refine lv_iload_n hx hb dL_isDroppedSo_91 rfl (lv_at hl 8 rfl) ?_
  refine lv_iadd hx hb dL_isDroppedSo_92 ?_
  refine lv_icmp_ne (tgt := 107) hx hb dL_isDroppedSo_93 (by decide) (fun z => False.elim (z k2)) (fun _ => ?_)
  refine lv_iload hx hb dL_isDroppedSo_96 (lv_at hl 0 rfl) ?_
  refine lv_iload hx hb dL_isDroppedSo_98 (lv_at hl 4 rfl) ?_
  refine lv_icmp_lt (tgt := 107) hx hb dL_isDroppedSo_100 (by decide) (fun z => False.elim (by have q := ilt.mp z; omega)) (fun _ => ?_)
  refine lv_iconst (v := 1) hx hb dL_isDroppedSo_103 (by decide) ?_
  refine lv_goto (tgt := 108) hx hb dL_isDroppedSo_104 (by decide) ?_
  refine lv_istore (lv' := [(7, .int 1), (8, .int (tuM (mtF M i cr) i)), (6, .int (nI (tM M i))), (5, .int (mcr M i (tM M i))), (4, .int (tuM M i)), (0, .ref (ad 0)), (1, .ref (bd 0)), (2, .int (nI i)), (3, .int cr)]) hx hb dL_isDroppedSo_108 hl (by decide) rfl (fun ls hl => ?_)
  refine lv_aload_n hx hb dL_isDroppedSo_110 rfl (lv_at hl 5 rfl) ?_
  refine lv_iload_n hx hb dL_isDroppedSo_111 rfl (lv_at hl 7 rfl) ?_
  refine lv_iload hx hb dL_isDroppedSo_112 (lv_at hl 2 rfl) ?_
  obtain ⟨F_7, c_8, r_9⟩ := b_drop r_3 hi ht1 z46 hw ew
  refine t_V0 X S (c_8 l D cA ad _) ob_0 rfl (cwV 2 hts gL_isDroppedSo_X4_drop rfl rfl rfl (by decide +kernel) ⟨Nat.le_of_ble_eq_true rfl, Nat.le_of_ble_eq_true rfl⟩) rfl hl.1 rfl (Nat.le_of_ble_eq_true rfl) dL_isDroppedSo_114 ⟨(show ((0 + 1) + 1) ≤ 3 by omega), (show ((0 + 6) + 6) ≤ 18 by omega)⟩ (fun H locs S => ?_)
  refine lv_istore (lv' := [(9, .int (mdK (mtF M i cr) i (tM M i) (wkN M))), (7, .int 1), (8, .int (tuM (mtF M i cr) i)), (6, .int (nI (tM M i))), (5, .int (mcr M i (tM M i))), (4, .int (tuM M i)), (0, .ref (ad 0)), (1, .ref (bd 0)), (2, .int (nI i)), (3, .int cr)]) hx hb dL_isDroppedSo_117 hl (by decide) rfl (fun ls hl => ?_)
  refine lv_iload hx hb dL_isDroppedSo_119 (lv_at hl 1 rfl) ?_
  refine lv_if_eq (tgt := 194) hx hb dL_isDroppedSo_121 (by decide) (fun z => False.elim (by first | exact absurd z (by decide) | exact absurd (by decide) z)) (fun _ => ?_)
  refine lv_aload_n hx hb dL_isDroppedSo_124 rfl (lv_at hl 7 rfl) ?_
  refine lv_iload_n hx hb dL_isDroppedSo_125 rfl (lv_at hl 8 rfl) ?_
  refine lv_iload hx hb dL_isDroppedSo_126 (lv_at hl 3 rfl) ?_
  obtain ⟨F_10, c_11, r_12⟩ := b_drop r_6 hi ht1 z46 hw ew
  refine u_V0 X S (c_11 l D cA bd _) ob_0 rfl (cwV 2 hts gL_isDroppedSo_X4_drop rfl rfl rfl (by decide +kernel) ⟨Nat.le_of_ble_eq_true rfl, Nat.le_of_ble_eq_true rfl⟩) rfl hl.1 rfl (Nat.le_of_ble_eq_true rfl) dL_isDroppedSo_128 ⟨(show ((0 + 1) + 1) ≤ 3 by omega), (show ((0 + 6) + 6) ≤ 18 by omega)⟩ (fun H locs S => ?_)
  refine lv_iload hx hb dL_isDroppedSo_131 (lv_at hl 0 rfl) ?_
  refine lv_icmp_ne (tgt := 194) hx hb dL_isDroppedSo_133 (by decide) (fun z => False.elim (z rfl)) (fun _ => ?_)
  refine lv_iload hx hb dL_isDroppedSo_136 (lv_at hl 0 rfl) ?_
  refine lv_if_lt (tgt := 194) hx hb dL_isDroppedSo_138 (by decide) (fun z => False.elim (by have q := ilt.mp z; rw [i0] at q; omega)) (fun _ => ?_)
  refine lv_iload hx hb dL_isDroppedSo_141 (lv_at hl 0 rfl) ?_
  refine lv_iload hx hb dL_isDroppedSo_143 (lv_at hl 2 rfl) ?_
  refine lv_iload hx hb dL_isDroppedSo_145 (lv_at hl 5 rfl) ?_
  refine lv_isub hx hb dL_isDroppedSo_147 ?_
  refine lv_icmp_gt (tgt := 194) hx hb dL_isDroppedSo_148 (by decide) (fun z => False.elim (by have q := ilt.mp z; omega)) (fun _ => ?_)
  refine lv_aload_n hx hb dL_isDroppedSo_151 rfl (lv_at hl 6 rfl) ?_
  refine lv_iload_n hx hb dL_isDroppedSo_152 rfl (lv_at hl 8 rfl) ?_
  refine lv_iconst (v := 0) hx hb dL_isDroppedSo_153 (by decide) ?_
  refine t_V0 X S (a_charged0 r_9 hi l D cA ad _) ob_0 rfl (cwV 2 hts gL_isDroppedSo_X4_charged rfl rfl rfl (by decide +kernel) ⟨Nat.le_of_ble_eq_true rfl, Nat.le_of_ble_eq_true rfl⟩) rfl hl.1 rfl (Nat.le_of_ble_eq_true rfl) dL_isDroppedSo_154 ⟨(show ((0 + 1) + 1) ≤ 3 by omega), (show ((0 + 6) + 6) ≤ 18 by omega)⟩ (fun H locs S => ?_)
  refine lv_iload hx hb dL_isDroppedSo_157 (lv_at hl 5 rfl) ?_
  refine lv_iload hx hb dL_isDroppedSo_159 (lv_at hl 0 rfl) ?_
  refine lv_iadd hx hb dL_isDroppedSo_161 ?_
  refine lv_icmp_ne (tgt := 194) hx hb dL_isDroppedSo_162 (by decide) (fun z => False.elim (z g4)) (fun _ => ?_)
  refine lv_aload_n hx hb dL_isDroppedSo_165 rfl (lv_at hl 6 rfl) ?_
  refine lv_iload_n hx hb dL_isDroppedSo_166 rfl (lv_at hl 8 rfl) ?_
  refine t_V0 X S (a_credits r_9 hi l D cA ad _) ob_0 rfl (cwV 1 hts gL_isDroppedSo_X4_credits rfl rfl rfl (by decide +kernel) ⟨Nat.le_of_ble_eq_true rfl, Nat.le_of_ble_eq_true rfl⟩) rfl hl.1 rfl (Nat.le_of_ble_eq_true rfl) dL_isDroppedSo_167 ⟨(show ((0 + 1) + 1) ≤ 3 by omega), (show ((0 + 6) + 6) ≤ 18 by omega)⟩ (fun H locs S => ?_)
  refine lv_iload hx hb dL_isDroppedSo_170 (lv_at hl 4 rfl) ?_
  refine lv_icmp_ne (tgt := 194) hx hb dL_isDroppedSo_172 (by decide) (fun z => False.elim (z g5)) (fun _ => ?_)
  refine lv_aload_n hx hb dL_isDroppedSo_175 rfl (lv_at hl 6 rfl) ?_
  refine lv_bipush (v := 6) hx hb dL_isDroppedSo_176 (by decide) ?_
  refine lv_iload_n hx hb dL_isDroppedSo_178 rfl (lv_at hl 8 rfl) ?_
  refine lv_iload hx hb dL_isDroppedSo_179 (lv_at hl 3 rfl) ?_
  refine lv_iconst (v := 0) hx hb dL_isDroppedSo_181 (by decide) ?_
  obtain ⟨F_13, c_14, r_15⟩ := (do_drop_x hst hi 0 (j := tM M i) ht2 ht8 z47).2.2 _ r_9
  refine t_SW X S (c_14 D cA ad _) (vx_cwSW 5 (hh := [(0, 176, 177, 51), (0, 176, 182, 54), (0, 176, 187, 56)]) hts gL_isDroppedSo_L_does rfl rfl rfl (by decide +kernel) ⟨Nat.le_of_ble_eq_true rfl, Nat.le_of_ble_eq_true rfl⟩) rfl hl.1 rfl (Nat.le_of_ble_eq_true rfl) dL_isDroppedSo_182 ⟨(show ((0 + 1) + 1) + 1 ≤ 3 by omega), (show ((0 + 6) + 6) + 6 ≤ 18 by omega)⟩ (fun H locs S => ?_)
  refine lv_ldc (v := -1000000001) hx hb hown (hts (.constant RL 53 (-1000000001)) (by decide +kernel)) dL_isDroppedSo_185 ?_
  refine lv_icmp_ne (tgt := 194) hx hb dL_isDroppedSo_187 (by decide) (fun z => False.elim (z rfl)) (fun _ => ?_)
  refine lv_iconst (v := 1) hx hb dL_isDroppedSo_190 (by decide) ?_
  refine lv_goto (tgt := 195) hx hb dL_isDroppedSo_191 (by decide) ?_
  exact t_zret X S hr dL_isDroppedSo_195 (show (((0 + 1) + 1) + 1) ≤ 3 by omega) (show (((0 + 6) + 6) + 6) ≤ 18 by omega) rfl ⟨r_15, RX_of (by omega) r_12 (EC_rfl _) (EM_rfl _)⟩

theorem w16_a : ∀ w, w < 15 → nI (w + 1) = nI (w + 1) - nI (w + 1) / 16 * 16 := by decide

set_option maxHeartbeats 1000000 in
set_option maxRecDepth 100000 in
theorem b_isClosedSoA {l : Launch} (hst : l.stackTraces = false) {n : Nat} {M : FF} (hn : n + 1 ≤ 512) (hw15 : wkN M < 15) {F G : FF} (hF : RX n F M) (hG : RX n G M) (D : va_G) (cA : Nat → ClassId) (ad bd : Nat → Nat) (sz : Nat) : CB l D cA ad bd sz yL_isClosedSo wsL_isClosedSo 10 186 3 18 [.ref (ad 0), .ref (bd 0)] F G (fun F1 G1 : FF => RX (n + 1) F1 (fl4 (mw1 M)) ∧ RX (n + 1) G1 (fl4 (mw1 M))) := by
  refine CB_of (own := RL) (cc := cL_isClosedSo) (maxL := 9) (ret := (some .boolean)) (by decide +kernel) rfl rfl (Nat.le_of_ble_eq_true rfl) ?_
  intro p e s m below meth c ls X S hr hl
  obtain ⟨⟨hx, hb, hml, hown, hts⟩, hE, hI, hlocks⟩ := id X
  have hl : lv_has ls 9 [(0, .ref (ad 0)), (1, .ref (bd 0))] := hl
  have dd := do_close hst (by omega) hF 12 0 0 0 (by decide) (by decide) (by decide) (by decide) (by decide) (by decide) (by decide) (by decide) (by decide) (by decide) (by decide) (by decide)
  obtain ⟨hw, ew⟩ := wk_n hF
  have et : M 36 2 = nI (tmN M) := hF.2.1.2.2.2.2.2
  have ht : tmN M < 10 := hF.2.1.2.2.2.2.1
  unfold dwK dwM at dd
  rw [if_pos hw15, if_pos hw15] at dd
  have pw := pm_week (by omega) hF hw15
  have m1 : fl4 (mw1 M) 36 1 = nI (wkN M + 1) := pw.2.2.2.2.1
  rw [m1] at dd
  have m2 : fl4 (mw1 M) 36 2 = M 36 2 := pw.2.2.2.2.2
  have ne : ¬ nI (wkN M + 1) = -1000000001 := neE (by rw [iN (by omega)]; omega)
  have w16 : nI (wkN M + 1) = M 36 1 + 1 - (M 36 1 + 1) / 16 * 16 := by rw [ew, nI_1]; exact w16_a (wkN M) hw15
  obtain ⟨g1, g2⟩ := wk_fees (by omega) hF pw.2.2.1
  refine lv_aload_n hx hb dL_isClosedSo_0 rfl (lv_at hl 0 rfl) ?_
  refine lv_iconst (v := 0) hx hb dL_isClosedSo_1 (by decide) ?_
  obtain ⟨F_1, c_2, r_3⟩ := a_owed (by omega) hF (i := 0) (by decide)
  refine t_V0 X S (c_2 l D cA ad _) ob_0 rfl (cwV 1 hts gL_isClosedSo_X4_owed rfl rfl rfl (by decide +kernel) ⟨Nat.le_of_ble_eq_true rfl, Nat.le_of_ble_eq_true rfl⟩) rfl hl.1 rfl (Nat.le_of_ble_eq_true rfl) dL_isClosedSo_2 ⟨(show 0 ≤ 3 by omega), (show 0 ≤ 18 by omega)⟩ (fun H locs S => ?_)
  refine lv_aload_n hx hb dL_isClosedSo_5 rfl (lv_at hl 0 rfl) ?_
  refine lv_iconst (v := 1) hx hb dL_isClosedSo_6 (by decide) ?_
  obtain ⟨F_4, c_5, r_6⟩ := a_owed (by omega) r_3 (i := 1) (by decide)
  refine t_V0 X S (c_5 l D cA ad _) ob_0 rfl (cwV 1 hts gL_isClosedSo_X4_owed rfl rfl rfl (by decide +kernel) ⟨Nat.le_of_ble_eq_true rfl, Nat.le_of_ble_eq_true rfl⟩) rfl hl.1 rfl (Nat.le_of_ble_eq_true rfl) dL_isClosedSo_7 ⟨(show 0 ≤ 3 by omega), (show 0 ≤ 18 by omega)⟩ (fun H locs S => ?_)
  refine lv_iadd hx hb dL_isClosedSo_10 ?_
  refine lv_istore_n (lv' := [(2, .int ((owM M 0) + (owM M 1))), (0, .ref (ad 0)), (1, .ref (bd 0))]) hx hb dL_isClosedSo_11 rfl hl (by decide) rfl (fun ls hl => ?_)
  refine lv_aload_n hx hb dL_isClosedSo_12 rfl (lv_at hl 1 rfl) ?_
  refine t_V0 X S (a_week r_6 l D cA ad _) ob_0 rfl (cwV 0 hts gL_isClosedSo_X4_week rfl rfl rfl (by decide +kernel) ⟨Nat.le_of_ble_eq_true rfl, Nat.le_of_ble_eq_true rfl⟩) rfl hl.1 rfl (Nat.le_of_ble_eq_true rfl) dL_isClosedSo_13 ⟨(show 0 ≤ 3 by omega), (show 0 ≤ 18 by omega)⟩ (fun H locs S => ?_)
  refine lv_istore_n (lv' := [(3, .int (M 36 1)), (2, .int ((owM M 0) + (owM M 1))), (0, .ref (ad 0)), (1, .ref (bd 0))]) hx hb dL_isClosedSo_16 rfl hl (by decide) rfl (fun ls hl => ?_)
  refine lv_aload_n hx hb dL_isClosedSo_17 rfl (lv_at hl 2 rfl) ?_
  refine t_V0 X S (a_term r_6 l D cA ad _) ob_0 rfl (cwV 0 hts gL_isClosedSo_X4_term rfl rfl rfl (by decide +kernel) ⟨Nat.le_of_ble_eq_true rfl, Nat.le_of_ble_eq_true rfl⟩) rfl hl.1 rfl (Nat.le_of_ble_eq_true rfl) dL_isClosedSo_18 ⟨(show 0 ≤ 3 by omega), (show 0 ≤ 18 by omega)⟩ (fun H locs S => ?_)
  refine lv_istore (lv' := [(4, .int (M 36 2)), (3, .int (M 36 1)), (2, .int ((owM M 0) + (owM M 1))), (0, .ref (ad 0)), (1, .ref (bd 0))]) hx hb dL_isClosedSo_21 hl (by decide) rfl (fun ls hl => ?_)
  refine lv_aload_n hx hb dL_isClosedSo_23 rfl (lv_at hl 3 rfl) ?_
  refine lv_iconst (v := 0) hx hb dL_isClosedSo_24 (by decide) ?_
  refine lv_iconst (v := 1) hx hb dL_isClosedSo_25 (by decide) ?_
  refine t_V0 X S (a_charged1 r_6 (i := 0) (by decide) l D cA ad _) ob_0 rfl (cwV 2 hts gL_isClosedSo_X4_charged rfl rfl rfl (by decide +kernel) ⟨Nat.le_of_ble_eq_true rfl, Nat.le_of_ble_eq_true rfl⟩) rfl hl.1 rfl (Nat.le_of_ble_eq_true rfl) dL_isClosedSo_26 ⟨(show 0 ≤ 3 by omega), (show 0 ≤ 18 by omega)⟩ (fun H locs S => ?_)
  refine lv_aload_n hx hb dL_isClosedSo_29 rfl (lv_at hl 3 rfl) ?_
  refine lv_iconst (v := 1) hx hb dL_isClosedSo_30 (by decide) ?_
  refine lv_iconst (v := 1) hx hb dL_isClosedSo_31 (by decide) ?_
  refine t_V0 X S (a_charged1 r_6 (i := 1) (by decide) l D cA ad _) ob_0 rfl (cwV 2 hts gL_isClosedSo_X4_charged rfl rfl rfl (by decide +kernel) ⟨Nat.le_of_ble_eq_true rfl, Nat.le_of_ble_eq_true rfl⟩) rfl hl.1 rfl (Nat.le_of_ble_eq_true rfl) dL_isClosedSo_32 ⟨(show 0 ≤ 3 by omega), (show 0 ≤ 18 by omega)⟩ (fun H locs S => ?_)
  refine lv_iadd hx hb dL_isClosedSo_35 ?_
  refine lv_istore (lv' := [(5, .int ((M 48 0) + (M 48 1))), (4, .int (M 36 2)), (3, .int (M 36 1)), (2, .int ((owM M 0) + (owM M 1))), (0, .ref (ad 0)), (1, .ref (bd 0))]) hx hb dL_isClosedSo_36 hl (by decide) rfl (fun ls hl => ?_)
  refine lv_aload_n hx hb dL_isClosedSo_38 rfl (lv_at hl 4 rfl) ?_
  refine lv_bipush (v := 12) hx hb dL_isClosedSo_39 (by decide) ?_
  refine lv_iconst (v := 0) hx hb dL_isClosedSo_41 (by decide) ?_
  refine lv_iconst (v := 0) hx hb dL_isClosedSo_42 (by decide) ?_
  refine lv_iconst (v := 0) hx hb dL_isClosedSo_43 (by decide) ?_
  obtain ⟨F_7, c_8, r_9⟩ := dd.2.2 _ r_6
  refine t_SW X S (c_8 D cA ad _) (vx_cwSW 5 (hh := [(0, 176, 177, 51), (0, 176, 182, 54), (0, 176, 187, 56)]) hts gL_isClosedSo_L_does rfl rfl rfl (by decide +kernel) ⟨Nat.le_of_ble_eq_true rfl, Nat.le_of_ble_eq_true rfl⟩) rfl hl.1 rfl (Nat.le_of_ble_eq_true rfl) dL_isClosedSo_44 ⟨(show 0 + 1 ≤ 3 by omega), (show 0 + 6 ≤ 18 by omega)⟩ (fun H locs S => ?_)
  refine lv_istore (lv' := [(6, .int (nI (wkN M + 1))), (5, .int ((M 48 0) + (M 48 1))), (4, .int (M 36 2)), (3, .int (M 36 1)), (2, .int ((owM M 0) + (owM M 1))), (0, .ref (ad 0)), (1, .ref (bd 0))]) hx hb dL_isClosedSo_47 hl (by decide) rfl (fun ls hl => ?_)
  refine lv_iload hx hb dL_isClosedSo_49 (lv_at hl 0 rfl) ?_
  refine lv_ldc (v := -1000000001) hx hb hown (hts (.constant RL 53 (-1000000001)) (by decide +kernel)) dL_isClosedSo_51 ?_
  refine lv_icmp_ne (tgt := 89) hx hb dL_isClosedSo_53 (by decide) (fun _ => ?_) (fun z => False.elim (ne z))
  refine lv_aload_n hx hb dL_isClosedSo_89 rfl (lv_at hl 6 rfl) ?_
  refine lv_bipush (v := 12) hx hb dL_isClosedSo_90 (by decide) ?_
  refine lv_iconst (v := 0) hx hb dL_isClosedSo_92 (by decide) ?_
  refine lv_iconst (v := 0) hx hb dL_isClosedSo_93 (by decide) ?_
  refine lv_iconst (v := 0) hx hb dL_isClosedSo_94 (by decide) ?_
  obtain ⟨F_10, c_11, r_12⟩ := dd.2.2 _ hG
  refine u_SW X S (c_11 D cA bd _) (vx_cwSW 5 (hh := [(0, 176, 177, 51), (0, 176, 182, 54), (0, 176, 187, 56)]) hts gL_isClosedSo_L_does rfl rfl rfl (by decide +kernel) ⟨Nat.le_of_ble_eq_true rfl, Nat.le_of_ble_eq_true rfl⟩) rfl hl.1 rfl (Nat.le_of_ble_eq_true rfl) dL_isClosedSo_95 ⟨(show (0 + 1) + 1 ≤ 3 by omega), (show (0 + 6) + 6 ≤ 18 by omega)⟩ (fun H locs S => ?_)
  refine lv_iload hx hb dL_isClosedSo_98 (lv_at hl 0 rfl) ?_
  refine lv_icmp_ne (tgt := 149) hx hb dL_isClosedSo_100 (by decide) (fun z => False.elim (z rfl)) (fun _ => ?_)
  refine lv_iload hx hb dL_isClosedSo_103 (lv_at hl 0 rfl) ?_
  refine lv_iload_n hx hb dL_isClosedSo_105 rfl (lv_at hl 3 rfl) ?_
  refine lv_iconst (v := 1) hx hb dL_isClosedSo_106 (by decide) ?_
  refine lv_iadd hx hb dL_isClosedSo_107 ?_
  refine lv_bipush (v := 16) hx hb dL_isClosedSo_108 (by decide) ?_
  refine lv_irem hx hb dL_isClosedSo_110 (by decide) ?_
  refine lv_icmp_ne (tgt := 149) hx hb dL_isClosedSo_111 (by decide) (fun z => False.elim (z w16)) (fun _ => ?_)
  refine lv_aload_n hx hb dL_isClosedSo_114 rfl (lv_at hl 5 rfl) ?_
  refine t_V0 X S (a_week r_9 l D cA ad _) ob_0 rfl (cwV 0 hts gL_isClosedSo_X4_week rfl rfl rfl (by decide +kernel) ⟨Nat.le_of_ble_eq_true rfl, Nat.le_of_ble_eq_true rfl⟩) rfl hl.1 rfl (Nat.le_of_ble_eq_true rfl) dL_isClosedSo_115 ⟨(show ((0 + 1) + 1) ≤ 3 by omega), (show ((0 + 6) + 6) ≤ 18 by omega)⟩ (fun H locs S => ?_)
  refine lv_iload hx hb dL_isClosedSo_118 (lv_at hl 0 rfl) ?_
  refine lv_icmp_ne (tgt := 149) hx hb dL_isClosedSo_120 (by decide) (fun z => False.elim (z m1)) (fun _ => ?_)
  refine lv_aload_n hx hb dL_isClosedSo_123 rfl (lv_at hl 5 rfl) ?_
  refine t_V0 X S (a_term r_9 l D cA ad _) ob_0 rfl (cwV 0 hts gL_isClosedSo_X4_term rfl rfl rfl (by decide +kernel) ⟨Nat.le_of_ble_eq_true rfl, Nat.le_of_ble_eq_true rfl⟩) rfl hl.1 rfl (Nat.le_of_ble_eq_true rfl) dL_isClosedSo_124 ⟨(show ((0 + 1) + 1) ≤ 3 by omega), (show ((0 + 6) + 6) ≤ 18 by omega)⟩ (fun H locs S => ?_)
  refine lv_iload_n hx hb dL_isClosedSo_127 rfl (lv_at hl 3 rfl) ?_
  refine lv_bipush (v := 15) hx hb dL_isClosedSo_128 (by decide) ?_
  refine lv_icmp_ne (tgt := 140) hx hb dL_isClosedSo_130 (by decide) (fun _ => ?_) (fun z => False.elim (absurd ((lt15 (wkN M) hw).2.mp (by rw [← ew]; exact z)) (by omega)))
  refine lv_iload hx hb dL_isClosedSo_140 (lv_at hl 2 rfl) ?_
  refine lv_icmp_ne (tgt := 149) hx hb dL_isClosedSo_142 (by decide) (fun z => False.elim (z m2)) (fun _ => ?_)
  refine lv_iconst (v := 1) hx hb dL_isClosedSo_145 (by decide) ?_
  refine lv_goto (tgt := 150) hx hb dL_isClosedSo_146 (by decide) ?_
  refine lv_istore (lv' := [(7, .int 1), (6, .int (nI (wkN M + 1))), (5, .int ((M 48 0) + (M 48 1))), (4, .int (M 36 2)), (3, .int (M 36 1)), (2, .int ((owM M 0) + (owM M 1))), (0, .ref (ad 0)), (1, .ref (bd 0))]) hx hb dL_isClosedSo_150 hl (by decide) rfl (fun ls hl => ?_)
  refine lv_iload_n hx hb dL_isClosedSo_152 rfl (lv_at hl 4 rfl) ?_
  refine lv_bipush (v := 15) hx hb dL_isClosedSo_153 (by decide) ?_
  refine lv_icmp_ge (tgt := 208) hx hb dL_isClosedSo_155 (by decide) (fun z => False.elim (by rw [ew] at z; have q := ile.mp z; rw [iN (by omega), show (15 : Int32).toInt = 15 from by decide] at q; omega)) (fun _ => ?_)
  refine lv_iload hx hb dL_isClosedSo_158 (lv_at hl 0 rfl) ?_
  refine lv_if_eq (tgt := 206) hx hb dL_isClosedSo_160 (by decide) (fun z => False.elim (by first | exact absurd z (by decide) | exact absurd (by decide) z)) (fun _ => ?_)
  refine lv_aload_n hx hb dL_isClosedSo_163 rfl (lv_at hl 6 rfl) ?_
  refine lv_iconst (v := 0) hx hb dL_isClosedSo_164 (by decide) ?_
  refine lv_iconst (v := 1) hx hb dL_isClosedSo_165 (by decide) ?_
  refine t_V0 X S (a_charged1 r_9 (i := 0) (by decide) l D cA ad _) ob_0 rfl (cwV 2 hts gL_isClosedSo_X4_charged rfl rfl rfl (by decide +kernel) ⟨Nat.le_of_ble_eq_true rfl, Nat.le_of_ble_eq_true rfl⟩) rfl hl.1 rfl (Nat.le_of_ble_eq_true rfl) dL_isClosedSo_166 ⟨(show ((0 + 1) + 1) ≤ 3 by omega), (show ((0 + 6) + 6) ≤ 18 by omega)⟩ (fun H locs S => ?_)
  refine lv_aload_n hx hb dL_isClosedSo_169 rfl (lv_at hl 6 rfl) ?_
  refine lv_iconst (v := 1) hx hb dL_isClosedSo_170 (by decide) ?_
  refine lv_iconst (v := 1) hx hb dL_isClosedSo_171 (by decide) ?_
  refine t_V0 X S (a_charged1 r_9 (i := 1) (by decide) l D cA ad _) ob_0 rfl (cwV 2 hts gL_isClosedSo_X4_charged rfl rfl rfl (by decide +kernel) ⟨Nat.le_of_ble_eq_true rfl, Nat.le_of_ble_eq_true rfl⟩) rfl hl.1 rfl (Nat.le_of_ble_eq_true rfl) dL_isClosedSo_172 ⟨(show ((0 + 1) + 1) ≤ 3 by omega), (show ((0 + 6) + 6) ≤ 18 by omega)⟩ (fun H locs S => ?_)
  refine lv_iadd hx hb dL_isClosedSo_175 ?_
  refine lv_iload hx hb dL_isClosedSo_176 (lv_at hl 2 rfl) ?_
  refine lv_icmp_lt (tgt := 206) hx hb dL_isClosedSo_178 (by decide) (fun z => False.elim (by have q := ilt.mp z; omega)) (fun _ => ?_)
  refine lv_aload_n hx hb dL_isClosedSo_181 rfl (lv_at hl 6 rfl) ?_
  refine lv_iconst (v := 0) hx hb dL_isClosedSo_182 (by decide) ?_
  refine lv_iconst (v := 1) hx hb dL_isClosedSo_183 (by decide) ?_
  refine t_V0 X S (a_charged1 r_9 (i := 0) (by decide) l D cA ad _) ob_0 rfl (cwV 2 hts gL_isClosedSo_X4_charged rfl rfl rfl (by decide +kernel) ⟨Nat.le_of_ble_eq_true rfl, Nat.le_of_ble_eq_true rfl⟩) rfl hl.1 rfl (Nat.le_of_ble_eq_true rfl) dL_isClosedSo_184 ⟨(show ((0 + 1) + 1) ≤ 3 by omega), (show ((0 + 6) + 6) ≤ 18 by omega)⟩ (fun H locs S => ?_)
  refine lv_aload_n hx hb dL_isClosedSo_187 rfl (lv_at hl 6 rfl) ?_
  refine lv_iconst (v := 1) hx hb dL_isClosedSo_188 (by decide) ?_
  refine lv_iconst (v := 1) hx hb dL_isClosedSo_189 (by decide) ?_
  refine t_V0 X S (a_charged1 r_9 (i := 1) (by decide) l D cA ad _) ob_0 rfl (cwV 2 hts gL_isClosedSo_X4_charged rfl rfl rfl (by decide +kernel) ⟨Nat.le_of_ble_eq_true rfl, Nat.le_of_ble_eq_true rfl⟩) rfl hl.1 rfl (Nat.le_of_ble_eq_true rfl) dL_isClosedSo_190 ⟨(show ((0 + 1) + 1) ≤ 3 by omega), (show ((0 + 6) + 6) ≤ 18 by omega)⟩ (fun H locs S => ?_)
  refine lv_iadd hx hb dL_isClosedSo_193 ?_
  refine lv_iload hx hb dL_isClosedSo_194 (lv_at hl 2 rfl) ?_
  refine lv_ldc (v := 200000) hx hb hown (hts (.constant RL 119 (200000)) (by decide +kernel)) dL_isClosedSo_196 ?_
  refine lv_iadd hx hb dL_isClosedSo_198 ?_
  refine lv_icmp_gt (tgt := 206) hx hb dL_isClosedSo_199 (by decide) (fun z => False.elim (by have q := ilt.mp z; omega)) (fun _ => ?_)
  refine lv_iconst (v := 1) hx hb dL_isClosedSo_202 (by decide) ?_
  refine lv_goto (tgt := 207) hx hb dL_isClosedSo_203 (by decide) ?_
  exact t_zret X S hr dL_isClosedSo_207 (show ((0 + 1) + 1) ≤ 3 by omega) (show ((0 + 6) + 6) ≤ 18 by omega) rfl ⟨r_9, r_12⟩

set_option maxHeartbeats 1000000 in
set_option maxRecDepth 100000 in
theorem b_isClosedSoB {l : Launch} (hst : l.stackTraces = false) {n : Nat} {M : FF} (hn : n + 1 ≤ 512) (hw15 : ¬ wkN M < 15) (ht9 : tmN M < 9) {F G : FF} (hF : RX n F M) (hG : RX n G M) (D : va_G) (cA : Nat → ClassId) (ad bd : Nat → Nat) (sz : Nat) : CB l D cA ad bd sz yL_isClosedSo wsL_isClosedSo 10 186 3 18 [.ref (ad 0), .ref (bd 0)] F G (fun F1 G1 : FF => RX (n + 1) F1 (fl4 (enM (th M 0))) ∧ RX (n + 1) G1 (fl4 (enM (th M 0)))) := by
  refine CB_of (own := RL) (cc := cL_isClosedSo) (maxL := 9) (ret := (some .boolean)) (by decide +kernel) rfl rfl (Nat.le_of_ble_eq_true rfl) ?_
  intro p e s m below meth c ls X S hr hl
  obtain ⟨⟨hx, hb, hml, hown, hts⟩, hE, hI, hlocks⟩ := id X
  have hl : lv_has ls 9 [(0, .ref (ad 0)), (1, .ref (bd 0))] := hl
  have dd := do_close hst (by omega) hF 12 0 0 0 (by decide) (by decide) (by decide) (by decide) (by decide) (by decide) (by decide) (by decide) (by decide) (by decide) (by decide) (by decide)
  obtain ⟨hw, ew⟩ := wk_n hF
  have et : M 36 2 = nI (tmN M) := hF.2.1.2.2.2.2.2
  have ht : tmN M < 10 := hF.2.1.2.2.2.2.1
  unfold dwK dwM at dd
  rw [if_neg hw15, if_neg hw15, if_pos ht9, if_pos ht9] at dd
  have pt := pm_term (by omega) hF hw15 ht9
  obtain ⟨m1, m2, m8, g1, g2, a0, g4, g5, g6⟩ := tm_facts (by omega) hF pt.2.2.2
  have m1 : fl4 (enM (th M 0)) 36 1 = nI 0 := m1.trans nI_0.symm
  rw [m1] at dd
  have ne : ¬ nI 0 = -1000000001 := by decide
  have e15 : M 36 1 = 15 := by rw [ew]; exact (lt15 (wkN M) hw).2.mpr (by omega)
  have w16 : nI 0 = M 36 1 + 1 - (M 36 1 + 1) / 16 * 16 := by rw [e15]; decide
  have e2 : (200000 : Int32).toInt = 200000 := by decide
  refine lv_aload_n hx hb dL_isClosedSo_0 rfl (lv_at hl 0 rfl) ?_
  refine lv_iconst (v := 0) hx hb dL_isClosedSo_1 (by decide) ?_
  obtain ⟨F_1, c_2, r_3⟩ := a_owed (by omega) hF (i := 0) (by decide)
  refine t_V0 X S (c_2 l D cA ad _) ob_0 rfl (cwV 1 hts gL_isClosedSo_X4_owed rfl rfl rfl (by decide +kernel) ⟨Nat.le_of_ble_eq_true rfl, Nat.le_of_ble_eq_true rfl⟩) rfl hl.1 rfl (Nat.le_of_ble_eq_true rfl) dL_isClosedSo_2 ⟨(show 0 ≤ 3 by omega), (show 0 ≤ 18 by omega)⟩ (fun H locs S => ?_)
  refine lv_aload_n hx hb dL_isClosedSo_5 rfl (lv_at hl 0 rfl) ?_
  refine lv_iconst (v := 1) hx hb dL_isClosedSo_6 (by decide) ?_
  obtain ⟨F_4, c_5, r_6⟩ := a_owed (by omega) r_3 (i := 1) (by decide)
  refine t_V0 X S (c_5 l D cA ad _) ob_0 rfl (cwV 1 hts gL_isClosedSo_X4_owed rfl rfl rfl (by decide +kernel) ⟨Nat.le_of_ble_eq_true rfl, Nat.le_of_ble_eq_true rfl⟩) rfl hl.1 rfl (Nat.le_of_ble_eq_true rfl) dL_isClosedSo_7 ⟨(show 0 ≤ 3 by omega), (show 0 ≤ 18 by omega)⟩ (fun H locs S => ?_)
  refine lv_iadd hx hb dL_isClosedSo_10 ?_
  refine lv_istore_n (lv' := [(2, .int ((owM M 0) + (owM M 1))), (0, .ref (ad 0)), (1, .ref (bd 0))]) hx hb dL_isClosedSo_11 rfl hl (by decide) rfl (fun ls hl => ?_)
  refine lv_aload_n hx hb dL_isClosedSo_12 rfl (lv_at hl 1 rfl) ?_
  refine t_V0 X S (a_week r_6 l D cA ad _) ob_0 rfl (cwV 0 hts gL_isClosedSo_X4_week rfl rfl rfl (by decide +kernel) ⟨Nat.le_of_ble_eq_true rfl, Nat.le_of_ble_eq_true rfl⟩) rfl hl.1 rfl (Nat.le_of_ble_eq_true rfl) dL_isClosedSo_13 ⟨(show 0 ≤ 3 by omega), (show 0 ≤ 18 by omega)⟩ (fun H locs S => ?_)
  refine lv_istore_n (lv' := [(3, .int (M 36 1)), (2, .int ((owM M 0) + (owM M 1))), (0, .ref (ad 0)), (1, .ref (bd 0))]) hx hb dL_isClosedSo_16 rfl hl (by decide) rfl (fun ls hl => ?_)
  refine lv_aload_n hx hb dL_isClosedSo_17 rfl (lv_at hl 2 rfl) ?_
  refine t_V0 X S (a_term r_6 l D cA ad _) ob_0 rfl (cwV 0 hts gL_isClosedSo_X4_term rfl rfl rfl (by decide +kernel) ⟨Nat.le_of_ble_eq_true rfl, Nat.le_of_ble_eq_true rfl⟩) rfl hl.1 rfl (Nat.le_of_ble_eq_true rfl) dL_isClosedSo_18 ⟨(show 0 ≤ 3 by omega), (show 0 ≤ 18 by omega)⟩ (fun H locs S => ?_)
  refine lv_istore (lv' := [(4, .int (M 36 2)), (3, .int (M 36 1)), (2, .int ((owM M 0) + (owM M 1))), (0, .ref (ad 0)), (1, .ref (bd 0))]) hx hb dL_isClosedSo_21 hl (by decide) rfl (fun ls hl => ?_)
  refine lv_aload_n hx hb dL_isClosedSo_23 rfl (lv_at hl 3 rfl) ?_
  refine lv_iconst (v := 0) hx hb dL_isClosedSo_24 (by decide) ?_
  refine lv_iconst (v := 1) hx hb dL_isClosedSo_25 (by decide) ?_
  refine t_V0 X S (a_charged1 r_6 (i := 0) (by decide) l D cA ad _) ob_0 rfl (cwV 2 hts gL_isClosedSo_X4_charged rfl rfl rfl (by decide +kernel) ⟨Nat.le_of_ble_eq_true rfl, Nat.le_of_ble_eq_true rfl⟩) rfl hl.1 rfl (Nat.le_of_ble_eq_true rfl) dL_isClosedSo_26 ⟨(show 0 ≤ 3 by omega), (show 0 ≤ 18 by omega)⟩ (fun H locs S => ?_)
  refine lv_aload_n hx hb dL_isClosedSo_29 rfl (lv_at hl 3 rfl) ?_
  refine lv_iconst (v := 1) hx hb dL_isClosedSo_30 (by decide) ?_
  refine lv_iconst (v := 1) hx hb dL_isClosedSo_31 (by decide) ?_
  refine t_V0 X S (a_charged1 r_6 (i := 1) (by decide) l D cA ad _) ob_0 rfl (cwV 2 hts gL_isClosedSo_X4_charged rfl rfl rfl (by decide +kernel) ⟨Nat.le_of_ble_eq_true rfl, Nat.le_of_ble_eq_true rfl⟩) rfl hl.1 rfl (Nat.le_of_ble_eq_true rfl) dL_isClosedSo_32 ⟨(show 0 ≤ 3 by omega), (show 0 ≤ 18 by omega)⟩ (fun H locs S => ?_)
  refine lv_iadd hx hb dL_isClosedSo_35 ?_
  refine lv_istore (lv' := [(5, .int ((M 48 0) + (M 48 1))), (4, .int (M 36 2)), (3, .int (M 36 1)), (2, .int ((owM M 0) + (owM M 1))), (0, .ref (ad 0)), (1, .ref (bd 0))]) hx hb dL_isClosedSo_36 hl (by decide) rfl (fun ls hl => ?_)
  refine lv_aload_n hx hb dL_isClosedSo_38 rfl (lv_at hl 4 rfl) ?_
  refine lv_bipush (v := 12) hx hb dL_isClosedSo_39 (by decide) ?_
  refine lv_iconst (v := 0) hx hb dL_isClosedSo_41 (by decide) ?_
  refine lv_iconst (v := 0) hx hb dL_isClosedSo_42 (by decide) ?_
  refine lv_iconst (v := 0) hx hb dL_isClosedSo_43 (by decide) ?_
  obtain ⟨F_7, c_8, r_9⟩ := dd.2.2 _ r_6
  refine t_SW X S (c_8 D cA ad _) (vx_cwSW 5 (hh := [(0, 176, 177, 51), (0, 176, 182, 54), (0, 176, 187, 56)]) hts gL_isClosedSo_L_does rfl rfl rfl (by decide +kernel) ⟨Nat.le_of_ble_eq_true rfl, Nat.le_of_ble_eq_true rfl⟩) rfl hl.1 rfl (Nat.le_of_ble_eq_true rfl) dL_isClosedSo_44 ⟨(show 0 + 1 ≤ 3 by omega), (show 0 + 6 ≤ 18 by omega)⟩ (fun H locs S => ?_)
  refine lv_istore (lv' := [(6, .int (nI 0)), (5, .int ((M 48 0) + (M 48 1))), (4, .int (M 36 2)), (3, .int (M 36 1)), (2, .int ((owM M 0) + (owM M 1))), (0, .ref (ad 0)), (1, .ref (bd 0))]) hx hb dL_isClosedSo_47 hl (by decide) rfl (fun ls hl => ?_)
  refine lv_iload hx hb dL_isClosedSo_49 (lv_at hl 0 rfl) ?_
  refine lv_ldc (v := -1000000001) hx hb hown (hts (.constant RL 53 (-1000000001)) (by decide +kernel)) dL_isClosedSo_51 ?_
  refine lv_icmp_ne (tgt := 89) hx hb dL_isClosedSo_53 (by decide) (fun _ => ?_) (fun z => False.elim (ne z))
  refine lv_aload_n hx hb dL_isClosedSo_89 rfl (lv_at hl 6 rfl) ?_
  refine lv_bipush (v := 12) hx hb dL_isClosedSo_90 (by decide) ?_
  refine lv_iconst (v := 0) hx hb dL_isClosedSo_92 (by decide) ?_
  refine lv_iconst (v := 0) hx hb dL_isClosedSo_93 (by decide) ?_
  refine lv_iconst (v := 0) hx hb dL_isClosedSo_94 (by decide) ?_
  obtain ⟨F_10, c_11, r_12⟩ := dd.2.2 _ hG
  refine u_SW X S (c_11 D cA bd _) (vx_cwSW 5 (hh := [(0, 176, 177, 51), (0, 176, 182, 54), (0, 176, 187, 56)]) hts gL_isClosedSo_L_does rfl rfl rfl (by decide +kernel) ⟨Nat.le_of_ble_eq_true rfl, Nat.le_of_ble_eq_true rfl⟩) rfl hl.1 rfl (Nat.le_of_ble_eq_true rfl) dL_isClosedSo_95 ⟨(show (0 + 1) + 1 ≤ 3 by omega), (show (0 + 6) + 6 ≤ 18 by omega)⟩ (fun H locs S => ?_)
  refine lv_iload hx hb dL_isClosedSo_98 (lv_at hl 0 rfl) ?_
  refine lv_icmp_ne (tgt := 149) hx hb dL_isClosedSo_100 (by decide) (fun z => False.elim (z rfl)) (fun _ => ?_)
  refine lv_iload hx hb dL_isClosedSo_103 (lv_at hl 0 rfl) ?_
  refine lv_iload_n hx hb dL_isClosedSo_105 rfl (lv_at hl 3 rfl) ?_
  refine lv_iconst (v := 1) hx hb dL_isClosedSo_106 (by decide) ?_
  refine lv_iadd hx hb dL_isClosedSo_107 ?_
  refine lv_bipush (v := 16) hx hb dL_isClosedSo_108 (by decide) ?_
  refine lv_irem hx hb dL_isClosedSo_110 (by decide) ?_
  refine lv_icmp_ne (tgt := 149) hx hb dL_isClosedSo_111 (by decide) (fun z => False.elim (z w16)) (fun _ => ?_)
  refine lv_aload_n hx hb dL_isClosedSo_114 rfl (lv_at hl 5 rfl) ?_
  refine t_V0 X S (a_week r_9 l D cA ad _) ob_0 rfl (cwV 0 hts gL_isClosedSo_X4_week rfl rfl rfl (by decide +kernel) ⟨Nat.le_of_ble_eq_true rfl, Nat.le_of_ble_eq_true rfl⟩) rfl hl.1 rfl (Nat.le_of_ble_eq_true rfl) dL_isClosedSo_115 ⟨(show ((0 + 1) + 1) ≤ 3 by omega), (show ((0 + 6) + 6) ≤ 18 by omega)⟩ (fun H locs S => ?_)
  refine lv_iload hx hb dL_isClosedSo_118 (lv_at hl 0 rfl) ?_
  refine lv_icmp_ne (tgt := 149) hx hb dL_isClosedSo_120 (by decide) (fun z => False.elim (z m1)) (fun _ => ?_)
  refine lv_aload_n hx hb dL_isClosedSo_123 rfl (lv_at hl 5 rfl) ?_
  refine t_V0 X S (a_term r_9 l D cA ad _) ob_0 rfl (cwV 0 hts gL_isClosedSo_X4_term rfl rfl rfl (by decide +kernel) ⟨Nat.le_of_ble_eq_true rfl, Nat.le_of_ble_eq_true rfl⟩) rfl hl.1 rfl (Nat.le_of_ble_eq_true rfl) dL_isClosedSo_124 ⟨(show ((0 + 1) + 1) ≤ 3 by omega), (show ((0 + 6) + 6) ≤ 18 by omega)⟩ (fun H locs S => ?_)
  refine lv_iload_n hx hb dL_isClosedSo_127 rfl (lv_at hl 3 rfl) ?_
  refine lv_bipush (v := 15) hx hb dL_isClosedSo_128 (by decide) ?_
  refine lv_icmp_ne (tgt := 140) hx hb dL_isClosedSo_130 (by decide) (fun z => False.elim (z e15)) (fun _ => ?_)
  refine lv_iload hx hb dL_isClosedSo_133 (lv_at hl 2 rfl) ?_
  refine lv_iconst (v := 1) hx hb dL_isClosedSo_135 (by decide) ?_
  refine lv_iadd hx hb dL_isClosedSo_136 ?_
  refine lv_goto (tgt := 142) hx hb dL_isClosedSo_137 (by decide) ?_
  refine lv_icmp_ne (tgt := 149) hx hb dL_isClosedSo_142 (by decide) (fun z => False.elim (z m2)) (fun _ => ?_)
  refine lv_iconst (v := 1) hx hb dL_isClosedSo_145 (by decide) ?_
  refine lv_goto (tgt := 150) hx hb dL_isClosedSo_146 (by decide) ?_
  refine lv_istore (lv' := [(7, .int 1), (6, .int (nI 0)), (5, .int ((M 48 0) + (M 48 1))), (4, .int (M 36 2)), (3, .int (M 36 1)), (2, .int ((owM M 0) + (owM M 1))), (0, .ref (ad 0)), (1, .ref (bd 0))]) hx hb dL_isClosedSo_150 hl (by decide) rfl (fun ls hl => ?_)
  refine lv_iload_n hx hb dL_isClosedSo_152 rfl (lv_at hl 4 rfl) ?_
  refine lv_bipush (v := 15) hx hb dL_isClosedSo_153 (by decide) ?_
  refine lv_icmp_ge (tgt := 208) hx hb dL_isClosedSo_155 (by decide) (fun _ => ?_) (fun z => False.elim (z (by rw [e15]; decide)))
  refine lv_aload_n hx hb dL_isClosedSo_208 rfl (lv_at hl 6 rfl) ?_
  refine lv_iconst (v := 0) hx hb dL_isClosedSo_209 (by decide) ?_
  obtain ⟨F_13, c_14, r_15⟩ := a_owed (by omega) r_9 (i := 0) (by decide)
  refine t_V0 X S (c_14 l D cA ad _) ob_0 rfl (cwV 1 hts gL_isClosedSo_X4_owed rfl rfl rfl (by decide +kernel) ⟨Nat.le_of_ble_eq_true rfl, Nat.le_of_ble_eq_true rfl⟩) rfl hl.1 rfl (Nat.le_of_ble_eq_true rfl) dL_isClosedSo_210 ⟨(show ((0 + 1) + 1) ≤ 3 by omega), (show ((0 + 6) + 6) ≤ 18 by omega)⟩ (fun H locs S => ?_)
  refine lv_aload_n hx hb dL_isClosedSo_213 rfl (lv_at hl 6 rfl) ?_
  refine lv_iconst (v := 1) hx hb dL_isClosedSo_214 (by decide) ?_
  obtain ⟨F_16, c_17, r_18⟩ := a_owed (by omega) r_15 (i := 1) (by decide)
  refine t_V0 X S (c_17 l D cA ad _) ob_0 rfl (cwV 1 hts gL_isClosedSo_X4_owed rfl rfl rfl (by decide +kernel) ⟨Nat.le_of_ble_eq_true rfl, Nat.le_of_ble_eq_true rfl⟩) rfl hl.1 rfl (Nat.le_of_ble_eq_true rfl) dL_isClosedSo_215 ⟨(show ((0 + 1) + 1) ≤ 3 by omega), (show ((0 + 6) + 6) ≤ 18 by omega)⟩ (fun H locs S => ?_)
  refine lv_iadd hx hb dL_isClosedSo_218 ?_
  refine lv_istore (lv' := [(8, .int ((owM (fl4 (enM (th M 0))) 0) + (owM (fl4 (enM (th M 0))) 1))), (7, .int 1), (6, .int (nI 0)), (5, .int ((M 48 0) + (M 48 1))), (4, .int (M 36 2)), (3, .int (M 36 1)), (2, .int ((owM M 0) + (owM M 1))), (0, .ref (ad 0)), (1, .ref (bd 0))]) hx hb dL_isClosedSo_219 hl (by decide) rfl (fun ls hl => ?_)
  refine lv_iload hx hb dL_isClosedSo_221 (lv_at hl 1 rfl) ?_
  refine lv_if_eq (tgt := 290) hx hb dL_isClosedSo_223 (by decide) (fun z => False.elim (by first | exact absurd z (by decide) | exact absurd (by decide) z)) (fun _ => ?_)
  refine lv_iload hx hb dL_isClosedSo_226 (lv_at hl 0 rfl) ?_
  refine lv_iload_n hx hb dL_isClosedSo_228 rfl (lv_at hl 6 rfl) ?_
  refine lv_icmp_lt (tgt := 290) hx hb dL_isClosedSo_229 (by decide) (fun z => False.elim (by have q := ilt.mp z; omega)) (fun _ => ?_)
  refine lv_iload hx hb dL_isClosedSo_232 (lv_at hl 0 rfl) ?_
  refine lv_iload_n hx hb dL_isClosedSo_234 rfl (lv_at hl 6 rfl) ?_
  refine lv_ldc (v := 200000) hx hb hown (hts (.constant RL 119 (200000)) (by decide +kernel)) dL_isClosedSo_235 ?_
  refine lv_iadd hx hb dL_isClosedSo_237 ?_
  refine lv_icmp_gt (tgt := 290) hx hb dL_isClosedSo_238 (by decide) (fun z => False.elim (by have q := ilt.mp z; omega)) (fun _ => ?_)
  refine lv_aload_n hx hb dL_isClosedSo_241 rfl (lv_at hl 7 rfl) ?_
  refine lv_iconst (v := 0) hx hb dL_isClosedSo_242 (by decide) ?_
  refine t_V0 X S (a_credits r_18 (i := 0) (by decide) l D cA ad _) ob_0 rfl (cwV 1 hts gL_isClosedSo_X4_credits rfl rfl rfl (by decide +kernel) ⟨Nat.le_of_ble_eq_true rfl, Nat.le_of_ble_eq_true rfl⟩) rfl hl.1 rfl (Nat.le_of_ble_eq_true rfl) dL_isClosedSo_243 ⟨(show ((0 + 1) + 1) ≤ 3 by omega), (show ((0 + 6) + 6) ≤ 18 by omega)⟩ (fun H locs S => ?_)
  refine lv_if_ne (tgt := 290) hx hb dL_isClosedSo_246 (by decide) (fun z => False.elim (z g1)) (fun _ => ?_)
  refine lv_aload_n hx hb dL_isClosedSo_249 rfl (lv_at hl 7 rfl) ?_
  refine lv_iconst (v := 1) hx hb dL_isClosedSo_250 (by decide) ?_
  refine t_V0 X S (a_sponsored r_18 (i := 1) (by decide) l D cA ad _) ob_0 rfl (cwV 1 hts gL_isClosedSo_X4_sponsored rfl rfl rfl (by decide +kernel) ⟨Nat.le_of_ble_eq_true rfl, Nat.le_of_ble_eq_true rfl⟩) rfl hl.1 rfl (Nat.le_of_ble_eq_true rfl) dL_isClosedSo_251 ⟨(show ((0 + 1) + 1) ≤ 3 by omega), (show ((0 + 6) + 6) ≤ 18 by omega)⟩ (fun H locs S => ?_)
  refine lv_if_ne (tgt := 290) hx hb dL_isClosedSo_254 (by decide) (fun z => False.elim (z g2)) (fun _ => ?_)
  refine lv_aload_n hx hb dL_isClosedSo_257 rfl (lv_at hl 7 rfl) ?_
  refine lv_iconst (v := 0) hx hb dL_isClosedSo_258 (by decide) ?_
  refine lv_iconst (v := 0) hx hb dL_isClosedSo_259 (by decide) ?_
  refine t_SW X S (u_none r_18 (i := 0) (by decide) (j := 0) (by rw [a0]; omega) (by omega) hst D cA ad _) (vx_cwSW 3 (hh := [(0, 6, 7, 51)]) hts gL_isClosedSo_L_used rfl rfl rfl (by decide +kernel) ⟨Nat.le_of_ble_eq_true rfl, Nat.le_of_ble_eq_true rfl⟩) rfl hl.1 rfl (Nat.le_of_ble_eq_true rfl) dL_isClosedSo_260 ⟨(show ((0 + 1) + 1) + 1 ≤ 3 by omega), (show ((0 + 6) + 6) + 6 ≤ 18 by omega)⟩ (fun H locs S => ?_)
  refine lv_ldc (v := -1000000001) hx hb hown (hts (.constant RL 53 (-1000000001)) (by decide +kernel)) dL_isClosedSo_263 ?_
  refine lv_icmp_ne (tgt := 290) hx hb dL_isClosedSo_265 (by decide) (fun z => False.elim (z rfl)) (fun _ => ?_)
  refine lv_aload_n hx hb dL_isClosedSo_268 rfl (lv_at hl 7 rfl) ?_
  refine lv_iconst (v := 0) hx hb dL_isClosedSo_269 (by decide) ?_
  obtain ⟨F_19, c_20, r_21⟩ := a_owed (by omega) r_18 (i := 0) (by decide)
  refine t_V0 X S (c_20 l D cA ad _) ob_0 rfl (cwV 1 hts gL_isClosedSo_X4_owed rfl rfl rfl (by decide +kernel) ⟨Nat.le_of_ble_eq_true rfl, Nat.le_of_ble_eq_true rfl⟩) rfl hl.1 rfl (Nat.le_of_ble_eq_true rfl) dL_isClosedSo_270 ⟨(show (((0 + 1) + 1) + 1) ≤ 3 by omega), (show (((0 + 6) + 6) + 6) ≤ 18 by omega)⟩ (fun H locs S => ?_)
  refine lv_ldc (v := 200000) hx hb hown (hts (.constant RL 119 (200000)) (by decide +kernel)) dL_isClosedSo_273 ?_
  refine lv_icmp_le (tgt := 286) hx hb dL_isClosedSo_275 (by decide) (fun c_22 => ?_) (fun c_22 => ?_)
  · refine lv_iconst (v := 1) hx hb dL_isClosedSo_286 (by decide) ?_
    refine lv_goto (tgt := 291) hx hb dL_isClosedSo_287 (by decide) ?_
    exact t_zret X S hr dL_isClosedSo_291 (show (((0 + 1) + 1) + 1) ≤ 3 by omega) (show (((0 + 6) + 6) + 6) ≤ 18 by omega) rfl ⟨r_21, r_12⟩
  · refine lv_aload_n hx hb dL_isClosedSo_278 rfl (lv_at hl 7 rfl) ?_
    refine lv_iconst (v := 1) hx hb dL_isClosedSo_279 (by decide) ?_
    obtain ⟨F_23, c_24, r_25⟩ := a_owed (by omega) r_21 (i := 1) (by decide)
    refine t_V0 X S (c_24 l D cA ad _) ob_0 rfl (cwV 1 hts gL_isClosedSo_X4_owed rfl rfl rfl (by decide +kernel) ⟨Nat.le_of_ble_eq_true rfl, Nat.le_of_ble_eq_true rfl⟩) rfl hl.1 rfl (Nat.le_of_ble_eq_true rfl) dL_isClosedSo_280 ⟨(show (((0 + 1) + 1) + 1) ≤ 3 by omega), (show (((0 + 6) + 6) + 6) ≤ 18 by omega)⟩ (fun H locs S => ?_)
    refine lv_if_lt (tgt := 290) hx hb dL_isClosedSo_283 (by decide) (fun z => False.elim (by have q := ilt.mp z; rw [i0] at q; have a := c_22; rw [ile, e2] at a; omega)) (fun _ => ?_)
    refine lv_iconst (v := 1) hx hb dL_isClosedSo_286 (by decide) ?_
    refine lv_goto (tgt := 291) hx hb dL_isClosedSo_287 (by decide) ?_
    exact t_zret X S hr dL_isClosedSo_291 (show (((0 + 1) + 1) + 1) ≤ 3 by omega) (show (((0 + 6) + 6) + 6) ≤ 18 by omega) rfl ⟨r_25, r_12⟩

set_option maxHeartbeats 1000000 in
set_option maxRecDepth 100000 in
theorem b_isClosedSoC {l : Launch} (hst : l.stackTraces = false) {n : Nat} {M : FF} (hn : n + 1 ≤ 512) (hw15 : ¬ wkN M < 15) (ht9 : ¬ tmN M < 9) {F G : FF} (hF : RX n F M) (hG : RX n G M) (D : va_G) (cA : Nat → ClassId) (ad bd : Nat → Nat) (sz : Nat) : CB l D cA ad bd sz yL_isClosedSo wsL_isClosedSo 10 186 3 18 [.ref (ad 0), .ref (bd 0)] F G (fun F1 G1 : FF => RX (n + 1) F1 M ∧ RX (n + 1) G1 M) := by
  refine CB_of (own := RL) (cc := cL_isClosedSo) (maxL := 9) (ret := (some .boolean)) (by decide +kernel) rfl rfl (Nat.le_of_ble_eq_true rfl) ?_
  intro p e s m below meth c ls X S hr hl
  obtain ⟨⟨hx, hb, hml, hown, hts⟩, hE, hI, hlocks⟩ := id X
  have hl : lv_has ls 9 [(0, .ref (ad 0)), (1, .ref (bd 0))] := hl
  have dd := do_close hst (by omega) hF 12 0 0 0 (by decide) (by decide) (by decide) (by decide) (by decide) (by decide) (by decide) (by decide) (by decide) (by decide) (by decide) (by decide)
  obtain ⟨hw, ew⟩ := wk_n hF
  have et : M 36 2 = nI (tmN M) := hF.2.1.2.2.2.2.2
  have ht : tmN M < 10 := hF.2.1.2.2.2.2.1
  unfold dwK dwM at dd
  rw [if_neg hw15, if_neg hw15, if_neg ht9, if_neg ht9] at dd
  refine lv_aload_n hx hb dL_isClosedSo_0 rfl (lv_at hl 0 rfl) ?_
  refine lv_iconst (v := 0) hx hb dL_isClosedSo_1 (by decide) ?_
  obtain ⟨F_1, c_2, r_3⟩ := a_owed (by omega) hF (i := 0) (by decide)
  refine t_V0 X S (c_2 l D cA ad _) ob_0 rfl (cwV 1 hts gL_isClosedSo_X4_owed rfl rfl rfl (by decide +kernel) ⟨Nat.le_of_ble_eq_true rfl, Nat.le_of_ble_eq_true rfl⟩) rfl hl.1 rfl (Nat.le_of_ble_eq_true rfl) dL_isClosedSo_2 ⟨(show 0 ≤ 3 by omega), (show 0 ≤ 18 by omega)⟩ (fun H locs S => ?_)
  refine lv_aload_n hx hb dL_isClosedSo_5 rfl (lv_at hl 0 rfl) ?_
  refine lv_iconst (v := 1) hx hb dL_isClosedSo_6 (by decide) ?_
  obtain ⟨F_4, c_5, r_6⟩ := a_owed (by omega) r_3 (i := 1) (by decide)
  refine t_V0 X S (c_5 l D cA ad _) ob_0 rfl (cwV 1 hts gL_isClosedSo_X4_owed rfl rfl rfl (by decide +kernel) ⟨Nat.le_of_ble_eq_true rfl, Nat.le_of_ble_eq_true rfl⟩) rfl hl.1 rfl (Nat.le_of_ble_eq_true rfl) dL_isClosedSo_7 ⟨(show 0 ≤ 3 by omega), (show 0 ≤ 18 by omega)⟩ (fun H locs S => ?_)
  refine lv_iadd hx hb dL_isClosedSo_10 ?_
  refine lv_istore_n (lv' := [(2, .int ((owM M 0) + (owM M 1))), (0, .ref (ad 0)), (1, .ref (bd 0))]) hx hb dL_isClosedSo_11 rfl hl (by decide) rfl (fun ls hl => ?_)
  refine lv_aload_n hx hb dL_isClosedSo_12 rfl (lv_at hl 1 rfl) ?_
  refine t_V0 X S (a_week r_6 l D cA ad _) ob_0 rfl (cwV 0 hts gL_isClosedSo_X4_week rfl rfl rfl (by decide +kernel) ⟨Nat.le_of_ble_eq_true rfl, Nat.le_of_ble_eq_true rfl⟩) rfl hl.1 rfl (Nat.le_of_ble_eq_true rfl) dL_isClosedSo_13 ⟨(show 0 ≤ 3 by omega), (show 0 ≤ 18 by omega)⟩ (fun H locs S => ?_)
  refine lv_istore_n (lv' := [(3, .int (M 36 1)), (2, .int ((owM M 0) + (owM M 1))), (0, .ref (ad 0)), (1, .ref (bd 0))]) hx hb dL_isClosedSo_16 rfl hl (by decide) rfl (fun ls hl => ?_)
  refine lv_aload_n hx hb dL_isClosedSo_17 rfl (lv_at hl 2 rfl) ?_
  refine t_V0 X S (a_term r_6 l D cA ad _) ob_0 rfl (cwV 0 hts gL_isClosedSo_X4_term rfl rfl rfl (by decide +kernel) ⟨Nat.le_of_ble_eq_true rfl, Nat.le_of_ble_eq_true rfl⟩) rfl hl.1 rfl (Nat.le_of_ble_eq_true rfl) dL_isClosedSo_18 ⟨(show 0 ≤ 3 by omega), (show 0 ≤ 18 by omega)⟩ (fun H locs S => ?_)
  refine lv_istore (lv' := [(4, .int (M 36 2)), (3, .int (M 36 1)), (2, .int ((owM M 0) + (owM M 1))), (0, .ref (ad 0)), (1, .ref (bd 0))]) hx hb dL_isClosedSo_21 hl (by decide) rfl (fun ls hl => ?_)
  refine lv_aload_n hx hb dL_isClosedSo_23 rfl (lv_at hl 3 rfl) ?_
  refine lv_iconst (v := 0) hx hb dL_isClosedSo_24 (by decide) ?_
  refine lv_iconst (v := 1) hx hb dL_isClosedSo_25 (by decide) ?_
  refine t_V0 X S (a_charged1 r_6 (i := 0) (by decide) l D cA ad _) ob_0 rfl (cwV 2 hts gL_isClosedSo_X4_charged rfl rfl rfl (by decide +kernel) ⟨Nat.le_of_ble_eq_true rfl, Nat.le_of_ble_eq_true rfl⟩) rfl hl.1 rfl (Nat.le_of_ble_eq_true rfl) dL_isClosedSo_26 ⟨(show 0 ≤ 3 by omega), (show 0 ≤ 18 by omega)⟩ (fun H locs S => ?_)
  refine lv_aload_n hx hb dL_isClosedSo_29 rfl (lv_at hl 3 rfl) ?_
  refine lv_iconst (v := 1) hx hb dL_isClosedSo_30 (by decide) ?_
  refine lv_iconst (v := 1) hx hb dL_isClosedSo_31 (by decide) ?_
  refine t_V0 X S (a_charged1 r_6 (i := 1) (by decide) l D cA ad _) ob_0 rfl (cwV 2 hts gL_isClosedSo_X4_charged rfl rfl rfl (by decide +kernel) ⟨Nat.le_of_ble_eq_true rfl, Nat.le_of_ble_eq_true rfl⟩) rfl hl.1 rfl (Nat.le_of_ble_eq_true rfl) dL_isClosedSo_32 ⟨(show 0 ≤ 3 by omega), (show 0 ≤ 18 by omega)⟩ (fun H locs S => ?_)
  refine lv_iadd hx hb dL_isClosedSo_35 ?_
  refine lv_istore (lv' := [(5, .int ((M 48 0) + (M 48 1))), (4, .int (M 36 2)), (3, .int (M 36 1)), (2, .int ((owM M 0) + (owM M 1))), (0, .ref (ad 0)), (1, .ref (bd 0))]) hx hb dL_isClosedSo_36 hl (by decide) rfl (fun ls hl => ?_)
  refine lv_aload_n hx hb dL_isClosedSo_38 rfl (lv_at hl 4 rfl) ?_
  refine lv_bipush (v := 12) hx hb dL_isClosedSo_39 (by decide) ?_
  refine lv_iconst (v := 0) hx hb dL_isClosedSo_41 (by decide) ?_
  refine lv_iconst (v := 0) hx hb dL_isClosedSo_42 (by decide) ?_
  refine lv_iconst (v := 0) hx hb dL_isClosedSo_43 (by decide) ?_
  obtain ⟨F_7, c_8, r_9⟩ := dd.2.2 _ r_6
  refine t_SW X S (c_8 D cA ad _) (vx_cwSW 5 (hh := [(0, 176, 177, 51), (0, 176, 182, 54), (0, 176, 187, 56)]) hts gL_isClosedSo_L_does rfl rfl rfl (by decide +kernel) ⟨Nat.le_of_ble_eq_true rfl, Nat.le_of_ble_eq_true rfl⟩) rfl hl.1 rfl (Nat.le_of_ble_eq_true rfl) dL_isClosedSo_44 ⟨(show 0 + 1 ≤ 3 by omega), (show 0 + 6 ≤ 18 by omega)⟩ (fun H locs S => ?_)
  refine lv_istore (lv' := [(6, .int (-1000000001)), (5, .int ((M 48 0) + (M 48 1))), (4, .int (M 36 2)), (3, .int (M 36 1)), (2, .int ((owM M 0) + (owM M 1))), (0, .ref (ad 0)), (1, .ref (bd 0))]) hx hb dL_isClosedSo_47 hl (by decide) rfl (fun ls hl => ?_)
  refine lv_iload hx hb dL_isClosedSo_49 (lv_at hl 0 rfl) ?_
  refine lv_ldc (v := -1000000001) hx hb hown (hts (.constant RL 53 (-1000000001)) (by decide +kernel)) dL_isClosedSo_51 ?_
  refine lv_icmp_ne (tgt := 89) hx hb dL_isClosedSo_53 (by decide) (fun z => False.elim (z rfl)) (fun _ => ?_)
  refine lv_aload_n hx hb dL_isClosedSo_56 rfl (lv_at hl 6 rfl) ?_
  refine lv_bipush (v := 12) hx hb dL_isClosedSo_57 (by decide) ?_
  refine lv_iconst (v := 0) hx hb dL_isClosedSo_59 (by decide) ?_
  refine lv_iconst (v := 0) hx hb dL_isClosedSo_60 (by decide) ?_
  refine lv_iconst (v := 0) hx hb dL_isClosedSo_61 (by decide) ?_
  obtain ⟨F_10, c_11, r_12⟩ := dd.2.2 _ hG
  refine u_SW X S (c_11 D cA bd _) (vx_cwSW 5 (hh := [(0, 176, 177, 51), (0, 176, 182, 54), (0, 176, 187, 56)]) hts gL_isClosedSo_L_does rfl rfl rfl (by decide +kernel) ⟨Nat.le_of_ble_eq_true rfl, Nat.le_of_ble_eq_true rfl⟩) rfl hl.1 rfl (Nat.le_of_ble_eq_true rfl) dL_isClosedSo_62 ⟨(show (0 + 1) + 1 ≤ 3 by omega), (show (0 + 6) + 6 ≤ 18 by omega)⟩ (fun H locs S => ?_)
  refine lv_iload hx hb dL_isClosedSo_65 (lv_at hl 0 rfl) ?_
  refine lv_icmp_ne (tgt := 87) hx hb dL_isClosedSo_67 (by decide) (fun z => False.elim (z rfl)) (fun _ => ?_)
  refine lv_iload_n hx hb dL_isClosedSo_70 rfl (lv_at hl 3 rfl) ?_
  refine lv_bipush (v := 15) hx hb dL_isClosedSo_71 (by decide) ?_
  refine lv_icmp_ne (tgt := 87) hx hb dL_isClosedSo_73 (by decide) (fun z => False.elim (z (by rw [ew]; exact (lt15 (wkN M) hw).2.mpr (by omega)))) (fun _ => ?_)
  refine lv_iload hx hb dL_isClosedSo_76 (lv_at hl 2 rfl) ?_
  refine lv_bipush (v := 9) hx hb dL_isClosedSo_78 (by decide) ?_
  refine lv_icmp_ne (tgt := 87) hx hb dL_isClosedSo_80 (by decide) (fun z => False.elim (z (by rw [et]; exact (lt9 (tmN M) ht).2.mpr (by omega)))) (fun _ => ?_)
  refine lv_iconst (v := 1) hx hb dL_isClosedSo_83 (by decide) ?_
  refine lv_goto (tgt := 88) hx hb dL_isClosedSo_84 (by decide) ?_
  exact t_zret X S hr dL_isClosedSo_88 (show ((0 + 1) + 1) ≤ 3 by omega) (show ((0 + 6) + 6) ≤ 18 by omega) rfl ⟨r_9, r_12⟩

theorem k_isPaidSo {l : Launch} (hst : l.stackTraces = false) {n : Nat} {M : FF} (hn : n + 2 ≤ 512) (h8 : 0 ≤ (M 36 8).toInt) {i : Nat} (hi : i < 4) {am : Int32} (ha : wi am 1 1000000 = true) {F G : FF} (hF : RX n F M) (hG : RX n G M) : ∃ M' : FF, 0 ≤ (M' 36 8).toInt ∧ ∀ (D : va_G) (cA : Nat → ClassId) (ad bd : Nat → Nat) (sz : Nat), CB l D cA ad bd sz yL_isPaidSo wsL_isPaidSo 6 133 0 0 [.ref (ad 0), .ref (bd 0), .int (nI i), .int am] F G (fun F1 G1 : FF => RX (n + 1 + 1) F1 M' ∧ RX (n + 1 + 1) G1 M') :=
  ⟨mcF (mpF M i am) i 0 am, by unfold mcF mpF; simp (disch := omega) only [u2_cell, u2_ne]; exact h8, b_isPaidSo hst hn hi ha hF hG⟩
theorem k_isDroppedSo {l : Launch} (hst : l.stackTraces = false) {n : Nat} {M : FF} (hn : n + 3 ≤ 512) (h8 : 0 ≤ (M 36 8).toInt) {i : Nat} (hi : i < 4) {cr : Int32} (hc : wi cr 1 10 = true) {F G : FF} (hF : RX n F M) (hG : RX n G M) : ∃ M' : FF, 0 ≤ (M' 36 8).toInt ∧ ∀ (D : va_G) (cA : Nat → ClassId) (ad bd : Nat → Nat) (sz : Nat), CB l D cA ad bd sz yL_isDroppedSo wsL_isDroppedSo 10 186 3 18 [.ref (ad 0), .ref (bd 0), .int (nI i), .int cr] F G (fun F1 G1 : FF => RX (n + 1 + 1 + 1) F1 M' ∧ RX (n + 1 + 1 + 1) G1 M') := by
  by_cases ht : tM M i = 8
  · exact ⟨M, h8, b_isDroppedSox hst hn hi hc ht hF hG⟩
  · have ht8 : tM M i < 8 := by have := tk_8 hF hi; omega
    exact ⟨_, by unfold mdF md0 mtF; simp (disch := omega) only [u2_cell, u2_ne]; exact h8, b_isDroppedSo hst hn hi hc ht8 hF hG⟩
theorem k_isClosedSo {l : Launch} (hst : l.stackTraces = false) {n : Nat} {M : FF} (hn : n + 1 ≤ 512) (h8 : 0 ≤ (M 36 8).toInt) {F G : FF} (hF : RX n F M) (hG : RX n G M) : ∃ M' : FF, 0 ≤ (M' 36 8).toInt ∧ ∀ (D : va_G) (cA : Nat → ClassId) (ad bd : Nat → Nat) (sz : Nat), CB l D cA ad bd sz yL_isClosedSo wsL_isClosedSo 10 186 3 18 [.ref (ad 0), .ref (bd 0)] F G (fun F1 G1 : FF => RX (n + 1) F1 M' ∧ RX (n + 1) G1 M') := by
  by_cases hw : wkN M < 15
  · exact ⟨_, by rw [fl4_row (by omega)]; unfold mw1; rw [u2_ne _ _ (by omega), show th M 0 36 8 = M 36 8 from u2_ne _ _ (by omega)]; exact h8, b_isClosedSoA hst hn hw hF hG⟩
  · by_cases ht : tmN M < 9
    · exact ⟨_, by rw [(tm_facts (by omega) hF (pm_term (by omega) hF hw ht).2.2.2).2.2.1]; exact h8, b_isClosedSoB hst hn hw ht hF hG⟩
    · exact ⟨M, h8, b_isClosedSoC hst hn hw ht hF hG⟩
