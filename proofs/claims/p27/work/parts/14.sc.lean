/-! drop -/
theorem idiv {a b : Int32} (h1 : 0 ≤ a.toInt) (h2 : 0 < b.toInt) : (a / b).toInt = a.toInt / b.toInt := by
  have q := a.toInt_lt
  have d0 : 0 ≤ a.toInt / b.toInt := Int.ediv_nonneg h1 (by omega)
  have d1 : a.toInt / b.toInt ≤ a.toInt := Int.ediv_le_self _ h1
  rw [Int32.toInt_div, Int.tdiv_eq_ediv_of_nonneg h1]
  exact Int.bmod_eq_of_le (by omega) (by omega)
theorem div_lg {D s : Int32} (hD : bt D 0 1000000) (hs : bt s 0 100) : D * s / 100 = Int64.toInt32 (Int32.toInt64 D * Int32.toInt64 s / 100) ∧ 0 ≤ (D * s / 100).toInt ∧ (D * s / 100).toInt ≤ D.toInt := by
  have m := mulB hD.1 hD.2 hs.1 hs.2
  have m2 : D.toInt * s.toInt ≤ D.toInt * 100 := Int.mul_le_mul_of_nonneg_left hs.2 hD.1
  have e0 : (100 : Int32).toInt = 100 := by decide
  have e1 : (100 : Int64).toInt = 100 := by decide
  have e2 : (D * s).toInt = D.toInt * s.toInt := imul (by omega) (by omega)
  have e3 : (D * s / 100).toInt = D.toInt * s.toInt / 100 := by rw [idiv (by rw [e2]; omega) (by rw [e0]; omega), e2, e0]
  refine ⟨?_, by omega, by omega⟩
  apply ieq
  rw [e3, Int64.toInt_toInt32, Int64.toInt_div, Int64.toInt_mul, Int32.toInt_toInt64, Int32.toInt_toInt64, e1]
  generalize D.toInt * s.toInt = x at *
  rw [Int.bmod_eq_of_le (show -(2 ^ 64 / 2 : Int) ≤ x by omega) (show x < (2 ^ 64 + 1) / 2 by omega), Int.tdiv_eq_ediv_of_nonneg m.1]
  rw [Int.bmod_eq_of_le (n := x / 100) (by omega) (by omega), Int.bmod_eq_of_le (by omega) (by omega)]
theorem dr0_row {C : FF} {i j k : Nat} (h : k ≠ 4 + 8 * i + 2) : dr0 C i j k = C k := u2_cell _ _ _ h
theorem md0_row {M : FF} {i j k : Nat} (h : k ≠ 46) : md0 M i j k = M k := u2_cell _ _ _ h
theorem R3_dr0 {C M : FF} {i j : Nat} (h : R3 C M i) (hj : j < tM M i) : R3 (dr0 C i j) (md0 M i j) i ∧ tM (md0 M i j) i = tM M i ∧ sN (dr0 C i j (4 + 8 * i + 2)) 8 = sN (C (4 + 8 * i + 2)) 8 - (C (4 + 8 * i + 2) j).toInt := by
  have cb := cr_b h
  obtain ⟨h1, h2, h3, h4, h5, h6, h7, h8⟩ := h
  have et : tM (md0 M i j) i = tM M i := tM_of (by rw [md0_row (by omega)])
  have es : sN (dr0 C i j (4 + 8 * i + 2)) 8 = sN (C (4 + 8 * i + 2)) 8 - (C (4 + 8 * i + 2) j).toInt := by
    rw [sN_up (f := C (4 + 8 * i + 2)) (g := dr0 C i j (4 + 8 * i + 2)) (p := j) (fun b hb => u2_ne _ _ (fun q => hb q.2)) 8 (by omega)]
    have : dr0 C i j (4 + 8 * i + 2) j = 0 := u2_eq _ _ _ _
    rw [this, i0]
    omega
  have m6 : ∀ b, b < 8 → md0 M i j 46 (8 * i + b) = if b = j then 1 else M 46 (8 * i + b) := fun b hb => u2_of8 _ _ _ _ _ _
  refine ⟨⟨?_, ?_, ?_, ?_, fun b hb => ?_, fun b hb hz => ?_, ?_, ?_⟩, et, es⟩
  · rw [dr0_row (by omega), md0_row (by omega)]; exact h1
  · rw [et]; exact h2
  · rw [et, md0_row (by omega)]; exact h3
  · rw [dr0_row (by omega), md0_row (by omega)]; exact h4
  · rw [et, m6 b hb, md0_row (by omega)]
    unfold dr0
    rw [u2_at]
    by_cases e : b = j
    · rw [if_pos e, if_pos e, if_neg (fun q => absurd q.2 (by decide))]
    · rw [if_neg e, if_neg e]; exact h5 b hb
  · rw [et] at hb
    rw [m6 b (by omega)] at hz
    rw [md0_row (by omega)]
    by_cases e : b = j
    · rw [if_pos e] at hz; exact absurd hz (by decide)
    · rw [if_neg e] at hz; exact h6 b hb hz
  · rw [md0_row (by omega)]; exact h7
  · rw [md0_row (by omega), et, es]
    have := (cb j (by omega)).1
    omega
theorem dr_sim {C M : FF} {i j w : Nat} (hG : RG C M) (h1 : R1 C M i) (h3 : R3 C M i) (hj : j < tM M i) (hw : w < 16) : drK C i j w = mdK M i j w ∧ R3 (drF C i j w) (mdF M i j w) i := by
  obtain ⟨d3, et, es⟩ := R3_dr0 h3 hj
  have gd : RG (dr0 C i j) (md0 M i j) := RG_of hG (fun b _ => by rw [dr0_row (by omega)]) (fun b _ => by rw [dr0_row (by omega)]) (fun b _ _ => by rw [dr0_row (by omega)]) (fun b _ => by rw [md0_row (by omega)]) (fun b _ => by rw [md0_row (by omega)]) (fun b _ _ => by rw [md0_row (by omega)])
  have r1 : R1 (dr0 C i j) (md0 M i j) i := R1_of h1 (fun b _ => by rw [dr0_row (by omega)]) (fun k _ _ => by rw [md0_row (by omega)])
  have cb := cr_b h3
  have j8 : j < 8 := by have := h3.2.1; omega
  have q1 := cr_i h3
  have q2 := cr_i d3
  have ea := cr_eq h3
  have eb := cr_eq d3
  have er := rt_eq hG h1
  have hcb := cb j j8
  have ec : dr0 C i j 0 3 = C 0 3 ∧ dr0 C i j 0 4 = C 0 4 ∧ dr0 C i j 3 w = C 3 w := ⟨by rw [dr0_row (by omega)], by rw [dr0_row (by omega)], by rw [dr0_row (by omega)]⟩
  have em : rtM (md0 M i j) i = rtM M i := by
    unfold rtM
    rw [md0_row (by omega), md0_row (by omega), md0_row (by omega)]
  have p1 := pr_i hG h1 (c := mcr M i (tM M i)) (by rw [← ea]; exact ⟨by omega, by omega⟩)
  have p2 := pr_i gd r1 (c := mcr (md0 M i j) i (tM (md0 M i j) i)) (by rw [← eb]; exact ⟨by omega, by omega⟩)
  have eP : pcl (C 0 3) (C 0 4) (tot8 (C (4 + 8 * i + 2))) (rtC C i) = prM M i (mcr M i (tM M i)) := by
    unfold prM
    rw [ea, er.1, hG.2.2.1.1, hG.2.2.1.2.1]
  have eQ : pcl (dr0 C i j 0 3) (dr0 C i j 0 4) (tot8 (dr0 C i j (4 + 8 * i + 2))) (rtC C i) = prM (md0 M i j) i (mcr (md0 M i j) i (tM (md0 M i j) i)) := by
    unfold prM
    rw [eb, em, ← er.1, gd.2.2.1.1, gd.2.2.1.2.1]
  rw [em, md0_row (show 36 ≠ 46 by omega)] at p2
  rw [← ea, q1.1] at p1
  rw [← eb, q2.1] at p2
  rw [← ea] at eP
  rw [← eb] at eQ
  obtain ⟨b1, b2, b3, b4⟩ := hG.2.2.1
  have cm := cnt_m (c := sN (C (4 + 8 * i + 2)) 8) (d := sN (dr0 C i j (4 + 8 * i + 2)) 8) b3.1 b4.1 q2.2.1 (by rw [es]; have := hcb.1; omega)
  have hD : (prM M i (tot8 (C (4 + 8 * i + 2))) - prM (md0 M i j) i (tot8 (dr0 C i j (4 + 8 * i + 2)))).toInt = (cnt (M 36 4).toInt (M 36 5).toInt (sN (C (4 + 8 * i + 2)) 8) - cnt (M 36 4).toInt (M 36 5).toInt (sN (dr0 C i j (4 + 8 * i + 2)) 8)) * (rtM M i).toInt := by
    have m1 := mulB p1.2.1 (Int.le_trans p1.2.2 q1.2.2) er.2.1 er.2.2
    have m2 := mulB p2.2.1 (Int.le_trans p2.2.2 q2.2.2) er.2.1 er.2.2
    rw [isub (by omega) (by omega), p1.1, p2.1, Int.sub_mul]
  have m3 := mulB (show 0 ≤ cnt (M 36 4).toInt (M 36 5).toInt (sN (C (4 + 8 * i + 2)) 8) - cnt (M 36 4).toInt (M 36 5).toInt (sN (dr0 C i j (4 + 8 * i + 2)) 8) by omega) (show _ ≤ (C (4 + 8 * i + 2) j).toInt by omega) er.2.1 er.2.2
  rw [← hD] at m3
  have hcb2 := hcb.2
  have hs := hG.2.1 w hw
  have dl := div_lg (D := prM M i (tot8 (C (4 + 8 * i + 2))) - prM (md0 M i j) i (tot8 (dr0 C i j (4 + 8 * i + 2)))) (s := M 38 w) ⟨m3.1, by omega⟩ hs.2
  have eK : drK C i j w = (prM M i (tot8 (C (4 + 8 * i + 2))) - prM (md0 M i j) i (tot8 (dr0 C i j (4 + 8 * i + 2)))) * M 38 w / 100 := by
    unfold drK
    rw [eP, eQ, ec.2.2, hs.1]
  have eM : mdK M i j w = Int64.toInt32 (Int32.toInt64 (prM M i (tot8 (C (4 + 8 * i + 2))) - prM (md0 M i j) i (tot8 (dr0 C i j (4 + 8 * i + 2)))) * Int32.toInt64 (M 38 w) / 100) := by
    unfold mdK
    rw [← ea, ← eb, md0_row (show 38 ≠ 46 by omega)]
  have e1 : drK C i j w = mdK M i j w := by rw [eK, eM]; exact dl.1
  refine ⟨e1, ?_⟩
  have kb : 0 ≤ (mdK M i j w).toInt ∧ (mdK M i j w).toInt ≤ (C (4 + 8 * i + 2) j).toInt * 100000 := by rw [← e1, eK]; omega
  obtain ⟨g1, g2, g3, g4, g5, g6, g7, g8⟩ := d3
  have o8 := h3.2.2.2.2.2.2.2
  have eT : tM (mdF M i j w) i = tM (md0 M i j) i := tM_of (u2_ne _ _ (by omega))
  have e47 : (md0 M i j 47 i + mdK M i j w).toInt = (md0 M i j 47 i).toInt + (mdK M i j w).toInt := iadd (by omega) (by omega)
  have e47' : mdF M i j w 47 i = md0 M i j 47 i + mdK M i j w := u2_eq _ _ _ _
  have k47 : md0 M i j 47 i = M 47 i := by rw [md0_row (by omega)]
  unfold R3
  have x0 : drF C i j w (4 + 8 * i + 1) 2 = dr0 C i j (4 + 8 * i + 1) 2 + drK C i j w := u2_eq _ _ _ _
  rw [eT, e47', e47, x0]
  have x1 : drF C i j w (4 + 8 * i + 1) 1 = dr0 C i j (4 + 8 * i + 1) 1 := u2_ne _ _ (by omega)
  have x2 : drF C i j w (4 + 8 * i + 2) = dr0 C i j (4 + 8 * i + 2) := u2_cell _ _ _ (by omega)
  have y1 : mdF M i j w 44 i = md0 M i j 44 i := u2_ne _ _ (by omega)
  have y2 : mdF M i j w 45 = md0 M i j 45 := u2_cell _ _ _ (by omega)
  have y3 : mdF M i j w 46 = md0 M i j 46 := u2_cell _ _ _ (by omega)
  rw [x1, x2, y1, y2, y3]
  refine ⟨g1, g2, g3, ?_, g5, g6, by omega, ?_⟩
  · rw [g4, e1]
  · rw [es, k47, et]
    omega
theorem drF_row {F : FF} {i j w k : Nat} (h1 : k ≠ 4 + 8 * i + 1) (h2 : k ≠ 4 + 8 * i + 2) : drF F i j w k = F k := by
  unfold drF dr0
  rw [u2_cell _ _ _ h1, u2_cell _ _ _ h2]
theorem drF_c {F : FF} {i j w b : Nat} (h : b ≠ 2) : drF F i j w (4 + 8 * i + 1) b = F (4 + 8 * i + 1) b := by
  unfold drF dr0
  rw [u2_ne _ _ (fun q => h q.2), u2_cell _ _ _ (by omega)]
theorem mdF_ne {F : FF} {i j w a b : Nat} (h1 : ¬ (a = 47 ∧ b = i)) (h2 : ¬ (a = 46 ∧ b = 8 * i + j)) : mdF F i j w a b = F a b := by
  unfold mdF md0
  rw [u2_ne _ _ h1, u2_ne _ _ h2]
theorem dr_bd {C M : FF} {i j w : Nat} (hG : RG C M) (h1 : R1 C M i) (h3 : R3 C M i) (hj : j < tM M i) (hw : w < 16) : 0 ≤ (mdK M i j w).toInt ∧ (mdK M i j w).toInt ≤ (prM M i (mcr M i (tM M i))).toInt - (prM (md0 M i j) i (mcr (md0 M i j) i (tM (md0 M i j) i))).toInt := by
  obtain ⟨d3, et, es⟩ := R3_dr0 h3 hj
  have gd : RG (dr0 C i j) (md0 M i j) := RG_of hG (fun b _ => by rw [dr0_row (by omega)]) (fun b _ => by rw [dr0_row (by omega)]) (fun b _ _ => by rw [dr0_row (by omega)]) (fun b _ => by rw [md0_row (by omega)]) (fun b _ => by rw [md0_row (by omega)]) (fun b _ _ => by rw [md0_row (by omega)])
  have r1 : R1 (dr0 C i j) (md0 M i j) i := R1_of h1 (fun b _ => by rw [dr0_row (by omega)]) (fun k _ _ => by rw [md0_row (by omega)])
  have cb := cr_b h3
  have j8 : j < 8 := by have := h3.2.1; omega
  have q1 := cr_i h3
  have q2 := cr_i d3
  have ea := cr_eq h3
  have eb := cr_eq d3
  have er := rt_eq hG h1
  have hcb := cb j j8
  have ec : dr0 C i j 0 3 = C 0 3 ∧ dr0 C i j 0 4 = C 0 4 ∧ dr0 C i j 3 w = C 3 w := ⟨by rw [dr0_row (by omega)], by rw [dr0_row (by omega)], by rw [dr0_row (by omega)]⟩
  have em : rtM (md0 M i j) i = rtM M i := by
    unfold rtM
    rw [md0_row (by omega), md0_row (by omega), md0_row (by omega)]
  have p1 := pr_i hG h1 (c := mcr M i (tM M i)) (by rw [← ea]; exact ⟨by omega, by omega⟩)
  have p2 := pr_i gd r1 (c := mcr (md0 M i j) i (tM (md0 M i j) i)) (by rw [← eb]; exact ⟨by omega, by omega⟩)
  have eP : pcl (C 0 3) (C 0 4) (tot8 (C (4 + 8 * i + 2))) (rtC C i) = prM M i (mcr M i (tM M i)) := by
    unfold prM
    rw [ea, er.1, hG.2.2.1.1, hG.2.2.1.2.1]
  have eQ : pcl (dr0 C i j 0 3) (dr0 C i j 0 4) (tot8 (dr0 C i j (4 + 8 * i + 2))) (rtC C i) = prM (md0 M i j) i (mcr (md0 M i j) i (tM (md0 M i j) i)) := by
    unfold prM
    rw [eb, em, ← er.1, gd.2.2.1.1, gd.2.2.1.2.1]
  rw [em, md0_row (show 36 ≠ 46 by omega)] at p2
  rw [← ea, q1.1] at p1
  rw [← eb, q2.1] at p2
  rw [← ea] at eP
  rw [← eb] at eQ
  obtain ⟨b1, b2, b3, b4⟩ := hG.2.2.1
  have cm := cnt_m (c := sN (C (4 + 8 * i + 2)) 8) (d := sN (dr0 C i j (4 + 8 * i + 2)) 8) b3.1 b4.1 q2.2.1 (by rw [es]; have := hcb.1; omega)
  have hD : (prM M i (tot8 (C (4 + 8 * i + 2))) - prM (md0 M i j) i (tot8 (dr0 C i j (4 + 8 * i + 2)))).toInt = (cnt (M 36 4).toInt (M 36 5).toInt (sN (C (4 + 8 * i + 2)) 8) - cnt (M 36 4).toInt (M 36 5).toInt (sN (dr0 C i j (4 + 8 * i + 2)) 8)) * (rtM M i).toInt := by
    have m1 := mulB p1.2.1 (Int.le_trans p1.2.2 q1.2.2) er.2.1 er.2.2
    have m2 := mulB p2.2.1 (Int.le_trans p2.2.2 q2.2.2) er.2.1 er.2.2
    rw [isub (by omega) (by omega), p1.1, p2.1, Int.sub_mul]
  have m3 := mulB (show 0 ≤ cnt (M 36 4).toInt (M 36 5).toInt (sN (C (4 + 8 * i + 2)) 8) - cnt (M 36 4).toInt (M 36 5).toInt (sN (dr0 C i j (4 + 8 * i + 2)) 8) by omega) (show _ ≤ (C (4 + 8 * i + 2) j).toInt by omega) er.2.1 er.2.2
  rw [← hD] at m3
  have hcb2 := hcb.2
  have hs := hG.2.1 w hw
  have dl := div_lg (D := prM M i (tot8 (C (4 + 8 * i + 2))) - prM (md0 M i j) i (tot8 (dr0 C i j (4 + 8 * i + 2)))) (s := M 38 w) ⟨m3.1, by omega⟩ hs.2
  have eK : drK C i j w = (prM M i (tot8 (C (4 + 8 * i + 2))) - prM (md0 M i j) i (tot8 (dr0 C i j (4 + 8 * i + 2)))) * M 38 w / 100 := by
    unfold drK
    rw [eP, eQ, ec.2.2, hs.1]
  have eM : mdK M i j w = Int64.toInt32 (Int32.toInt64 (prM M i (tot8 (C (4 + 8 * i + 2))) - prM (md0 M i j) i (tot8 (dr0 C i j (4 + 8 * i + 2)))) * Int32.toInt64 (M 38 w) / 100) := by
    unfold mdK
    rw [← ea, ← eb, md0_row (show 38 ≠ 46 by omega)]
  have e1 : drK C i j w = mdK M i j w := by rw [eK, eM]; exact dl.1
  have hD2 := hD
  rw [Int.sub_mul, ← p1.1, ← p2.1] at hD2
  rw [← e1, eK, ← ea, ← eb]
  exact ⟨dl.2.1, by rw [← hD2]; exact dl.2.2⟩
/-! leave -/
theorem lvS_row {F : FF} {i j w k : Nat} (h1 : k ≠ 4 + 8 * i + 1) (h2 : k ≠ 4 + 8 * i + 2) : lvS i w j F k = F k := by
  unfold lvS
  split
  · rfl
  · exact drF_row h1 h2
theorem lvS_c {F : FF} {i j w b : Nat} (h : b ≠ 2) : lvS i w j F (4 + 8 * i + 1) b = F (4 + 8 * i + 1) b := by
  unfold lvS
  split
  · rfl
  · exact drF_c h
theorem lvF_row {F : FF} {i w k : Nat} (h1 : k ≠ 4 + 8 * i + 1) (h2 : k ≠ 4 + 8 * i + 2) : ∀ j, lvF F i w j k = F k
  | 0 => rfl
  | j + 1 => (lvS_row h1 h2).trans (lvF_row h1 h2 j)
theorem lvF_c {F : FF} {i w b : Nat} (h : b ≠ 2) : ∀ j, lvF F i w j (4 + 8 * i + 1) b = F (4 + 8 * i + 1) b
  | 0 => rfl
  | j + 1 => (lvS_c h).trans (lvF_c h j)
theorem mvF_ne {F : FF} {i w a b : Nat} (h1 : ¬ (a = 47 ∧ b = i)) (h2 : ¬ (a = 46 ∧ b / 8 = i)) : ∀ j, j ≤ 8 → mvF F i w j a b = F a b
  | 0, _ => rfl
  | j + 1, hj => by
    show mvS i w j (mvF F i w j) a b = F a b
    unfold mvS
    split
    · rw [mdF_ne h1 (fun q => h2 ⟨q.1, by omega⟩)]; exact mvF_ne h1 h2 j (by omega)
    · exact mvF_ne h1 h2 j (by omega)
theorem lvq_at {C M : FF} {i w : Nat} (hG : RG C M) (h1 : R1 C M i) (h3 : R3 C M i) (hw : w < 16) : ∀ j, j ≤ tM M i → R3 (lvF C i w j) (mvF M i w j) i
  | 0, _ => h3
  | j + 1, hj => by
    have ih := lvq_at hG h1 h3 hw j (by omega)
    have et : tM (mvF M i w j) i = tM M i := tM_of (by rw [mvF_row (by omega) (by omega)])
    have gG : RG (lvF C i w j) (mvF M i w j) := RG_of hG (fun b _ => by rw [lvF_row (by omega) (by omega)]) (fun b _ => by rw [lvF_row (by omega) (by omega)]) (fun b _ _ => by rw [lvF_row (by omega) (by omega)]) (fun b _ => by rw [mvF_row (by omega) (by omega)]) (fun b _ => by rw [mvF_row (by omega) (by omega)]) (fun b _ _ => by rw [mvF_row (by omega) (by omega)])
    have g1 : R1 (lvF C i w j) (mvF M i w j) i := R1_of h1 (fun b _ => by rw [lvF_row (by omega) (by omega)]) (fun k _ _ => by rw [mvF_row (by omega) (by omega)])
    show R3 (lvS i w j (lvF C i w j)) (mvS i w j (mvF M i w j)) i
    generalize lvF C i w j = X at *
    generalize mvF M i w j = Y at *
    have h5 := ih.2.2.2.2.1 j (by have := h3.2.1; omega)
    unfold lvS mvS
    by_cases z : Y 46 (8 * i + j) = 0
    · rw [if_pos ⟨by omega, z⟩] at h5
      have b5 := (ih.2.2.2.2.2.1 j (by omega) z).1
      rw [if_neg (by rw [h5, ile, i0]; omega), if_pos z]
      exact (dr_sim gG g1 ih (by omega) hw).2
    · rw [if_neg (fun q => z q.2)] at h5
      rw [if_pos (by rw [h5]; decide), if_neg z]
      exact ih
theorem lvq_on {C M : FF} {i w : Nat} (hG : RG C M) (h1 : R1 C M i) (h3 : R3 C M i) (hw : w < 16) : ∀ d, tM M i + d ≤ 8 → R3 (lvF C i w (tM M i + d)) (mvF M i w (tM M i)) i
  | 0, _ => lvq_at hG h1 h3 hw _ (Nat.le_refl _)
  | d + 1, hd => by
    have ih := lvq_on hG h1 h3 hw d (by omega)
    have et : tM (mvF M i w (tM M i)) i = tM M i := tM_of (by rw [mvF_row (by omega) (by omega)])
    have h5 := ih.2.2.2.2.1 (tM M i + d) (by omega)
    rw [et, if_neg (fun q => absurd q.1 (by omega))] at h5
    show R3 (lvS i w (tM M i + d) (lvF C i w (tM M i + d))) (mvF M i w (tM M i)) i
    generalize lvF C i w (tM M i + d) = X at *
    unfold lvS
    rw [if_pos (by rw [h5]; decide)]
    exact ih
theorem lvq_sim {C M : FF} {i w : Nat} (hG : RG C M) (h1 : R1 C M i) (h3 : R3 C M i) (hw : w < 16) : R3 (lvF C i w 8) (mvF M i w (tM M i)) i := by
  have q := lvq_on hG h1 h3 hw (8 - tM M i) (by have := h3.2.1; omega)
  rw [Nat.add_sub_cancel' h3.2.1] at q
  exact q
theorem sa_eq {C M : FF} {i : Nat} (h : R4 C M i) : tot6 (C (4 + 8 * i + 5)) = saM M i (aM M i) ∧ bt (tot6 (C (4 + 8 * i + 5))) 0 6000000 := by
  obtain ⟨h1, h2, h3, h4, h5, h6⟩ := h
  refine ⟨?_, ?_⟩
  · rw [tS_6, saM_tS, show tS (C (4 + 8 * i + 5)) 6 = tS (C (4 + 8 * i + 5)) (aM M i + (6 - aM M i)) by rw [Nat.add_sub_cancel' h2], tS_cut _ (fun j q1 q2 => by rw [h5 j (by omega), if_neg (by omega)])]
    refine tS_congr _ (fun j hj => ?_)
    rw [h5 j (by omega), if_pos hj]
  · have q := tS_i (f := C (4 + 8 * i + 5)) (K := 1000000) 6 (fun j hj => by
      rw [h5 j hj]
      by_cases z : j < aM M i
      · rw [if_pos z]; exact h6 j z
      · rw [if_neg z]; exact ⟨by rw [i0]; omega, by rw [i0]; omega⟩) (by omega) (by omega)
    rw [tS_6]
    exact ⟨by omega, by omega⟩
theorem bak_b {w : Nat} {a : Int32} (hw : w < 16) (ha : bt a 0 6000000) : 0 ≤ (bakI (nI w) a).toInt := by
  obtain ⟨a1, a2⟩ := ha
  unfold bakI
  by_cases h : nI w < 10
  · have h2 := ilt.mp h
    rw [iN (by omega), i10] at h2
    rw [if_pos h]
    have m := mulB a1 a2 (show (0 : Int) ≤ (w : Int) by omega) (show (w : Int) ≤ 9 by omega)
    have m2 : a.toInt * (w : Int) ≤ a.toInt * 9 := Int.mul_le_mul_of_nonneg_left (by omega) a1
    have e1 : (a * nI w).toInt = a.toInt * (w : Int) := by rw [imul (by rw [iN (by omega)]; omega) (by rw [iN (by omega)]; omega), iN (by omega)]
    have e2 : (a * nI w / 16).toInt = a.toInt * (w : Int) / 16 := by rw [idiv (by rw [e1]; omega) (by rw [i16]; omega), e1, i16]
    rw [isub (by rw [e2]; omega) (by rw [e2]; omega), e2]
    omega
  · rw [if_neg h, i0]; omega
theorem toT_row {i : Nat} {r : Int32} {j a : Nat} (h : a ≠ 4 + 8 * i + 5) (s : TO) : (toT i r j s).1 a = s.1 a := by
  unfold toT
  split
  · exact u2_cell _ _ _ h
  · rfl
def toL (i : Nat) : Nat → TO → TO
  | 0, s => s
  | k + 1, s => toT i (nI (2 - k / 6)) (k % 6) (toL i k s)
theorem toL_row {i a : Nat} (h : a ≠ 4 + 8 * i + 5) (s : TO) : ∀ k, (toL i k s).1 a = s.1 a
  | 0 => rfl
  | k + 1 => (toT_row h _).trans (toL_row h s k)
theorem toL_R (i q : Nat) (s : TO) : ∀ n, n ≤ 6 → toL i (6 * q + n) s = toR i (nI (2 - q)) n (toL i (6 * q) s)
  | 0, _ => rfl
  | n + 1, h => by
    show toT i (nI (2 - (6 * q + n) / 6)) ((6 * q + n) % 6) (toL i (6 * q + n) s) = toT i (nI (2 - q)) n (toR i (nI (2 - q)) n (toL i (6 * q) s))
    rw [toL_R i q s n (by omega), show (6 * q + n) / 6 = q by omega, show (6 * q + n) % 6 = n by omega]
theorem toA_L (i : Nat) (s : TO) : toA i s = toL i 18 s := by
  have e2 := toL_R i 2 s 6 (by omega)
  have e1 := toL_R i 1 s 6 (by omega)
  have e0 := toL_R i 0 s 6 (by omega)
  have z : toL i (6 * 0) s = s := rfl
  rw [z] at e0
  unfold toA
  rw [show (2 : Int32) = nI (2 - 0) by decide, show (1 : Int32) = nI (2 - 1) by decide, show (0 : Int32) = nI (2 - 2) by decide, ← e0, ← (show 6 * 1 = 6 * 0 + 6 by decide), ← e1, ← (show 6 * 2 = 6 * 1 + 6 by decide), ← e2]
theorem tkA_ne {i a b : Nat} (h : ¬ (a = 52 ∧ b / 6 = i)) (s : TK) : ∀ k, (tkA i k s).1 a b = s.1 a b
  | 0 => rfl
  | k + 1 => by
    show (tkS i k (tkA i k s)).1 a b = s.1 a b
    unfold tkS
    show u2 _ 52 _ _ a b = s.1 a b
    rw [u2_ne _ _ (fun q => h ⟨q.1, by omega⟩)]
    exact tkA_ne h s k
theorem R4_am {C M C' M' : FF} {i j : Nat} {v : Int32} (h : R4 C M i) (hj : j < aM M i) (hv : bt v 0 1000000) (c3 : C' (4 + 8 * i + 3) 3 = C (4 + 8 * i + 3) 3) (c4 : C' (4 + 8 * i + 4) = C (4 + 8 * i + 4)) (c5 : ∀ b, C' (4 + 8 * i + 5) b = if b = j then v else C (4 + 8 * i + 5) b) (m0 : M' 50 = M 50) (m1 : M' 51 = M 51) (m2 : ∀ b, M' 52 (6 * i + b) = if b = j then v else M 52 (6 * i + b)) : R4 C' M' i := by
  obtain ⟨h1, h2, h3, h4, h5, h6⟩ := h
  have et : aM M' i = aM M i := aM_of (by rw [m0])
  unfold R4
  rw [et, c3, c4, m0, m1]
  refine ⟨h1, h2, h3, h4, fun b hb => ?_, fun b hb => ?_⟩
  · rw [c5, m2]
    by_cases e : b = j
    · rw [if_pos e, if_pos e, if_pos (by omega)]
    · rw [if_neg e, if_neg e]; exact h5 b hb
  · rw [m2]
    by_cases e : b = j
    · rw [if_pos e]; exact hv
    · rw [if_neg e]; exact h6 b hb
theorem R4_same {C M C' M' : FF} {i : Nat} (h : R4 C M i) (c : ∀ k b, (k = 3 ∨ k = 4 ∨ k = 5) → C' (4 + 8 * i + k) b = C (4 + 8 * i + k) b) (m : ∀ k b, 50 ≤ k → k ≤ 52 → M' k b = M k b) : R4 C' M' i := R4_of h (c 3 3 (by omega)) (fun b _ => c 4 b (by omega)) (fun b _ => c 5 b (by omega)) (m 50 i (by omega) (by omega)) (fun b _ => m 51 _ (by omega) (by omega)) (fun b _ => m 52 _ (by omega) (by omega))
theorem rk2 : ∀ q, q < 3 → 2 - nI q = nI (2 - q) := by decide
theorem TV_s {i k : Nat} {s : TO} {t : TK} (hk : k < 18) (e : s.2 = t.2) (hb : 0 ≤ t.2.toInt) (h4 : R4 s.1 t.1 i) : (toT i (nI (2 - k / 6)) (k % 6) s).2 = (tkS i k t).2 ∧ 0 ≤ (tkS i k t).2.toInt ∧ R4 (toT i (nI (2 - k / 6)) (k % 6) s).1 (tkS i k t).1 i := by
  have er := rk2 (k / 6) (by omega)
  have tl := t.2.toInt_lt
  by_cases hj : k % 6 < aM t.1 i
  · have e4 := (h4.2.2.2.1 _ hj).1
    have e5 : s.1 (4 + 8 * i + 5) (k % 6) = t.1 52 (6 * i + k % 6) := by rw [h4.2.2.2.2.1 _ (by omega), if_pos hj]
    have b5 := h4.2.2.2.2.2 _ hj
    by_cases hr : t.1 51 (6 * i + k % 6) = 2 - nI (k / 6)
    · have hu : tkI t.1 i k = true := by unfold tkI; rw [Bool.and_eq_true, decide_eq_true_eq, decide_eq_true_eq]; exact ⟨hj, hr⟩
      have ev : tkV i k t = toU i (k % 6) s := by unfold tkV toU; rw [if_pos hu, e5, e]
      have et : toT i (nI (2 - k / 6)) (k % 6) s = (u2 s.1 (4 + 8 * i + 5) (k % 6) (s.1 (4 + 8 * i + 5) (k % 6) - toU i (k % 6) s), s.2 - toU i (k % 6) s) := by
        unfold toT
        rw [if_pos (by rw [e4, hr, er])]
      have bu : 0 ≤ (toU i (k % 6) s).toInt ∧ (toU i (k % 6) s).toInt ≤ t.2.toInt ∧ (toU i (k % 6) s).toInt ≤ (t.1 52 (6 * i + k % 6)).toInt := by
        unfold toU
        rw [imn, e5, e]
        have := b5.1
        split <;> omega
      have b51 := b5.1
      have b52 := b5.2
      have e7 : (t.1 52 (6 * i + k % 6) - toU i (k % 6) s).toInt = (t.1 52 (6 * i + k % 6)).toInt - (toU i (k % 6) s).toInt := isub (by omega) (by omega)
      have e8 : (t.2 - toU i (k % 6) s).toInt = t.2.toInt - (toU i (k % 6) s).toInt := isub (by omega) (by omega)
      rw [et]
      unfold tkS
      rw [ev]
      generalize toU i (k % 6) s = u at *
      refine ⟨by show s.2 - u = t.2 - u; rw [e], by show 0 ≤ (t.2 - u).toInt; omega, ?_⟩
      exact R4_am (C' := u2 s.1 (4 + 8 * i + 5) (k % 6) (s.1 (4 + 8 * i + 5) (k % 6) - u)) (M' := u2 t.1 52 (6 * i + k % 6) (t.1 52 (6 * i + k % 6) - u)) (v := t.1 52 (6 * i + k % 6) - u) h4 hj ⟨by omega, by omega⟩ (u2_ne _ _ (by omega)) (u2_cell _ _ _ (by omega)) (fun b => by rw [← e5]; exact u2_at _ _ _ _ _) (u2_cell _ _ _ (by omega)) (u2_cell _ _ _ (by omega)) (fun b => u2_of6 _ _ _ _ _ _)
    · have hu : tkI t.1 i k = false := tkI_f2 hr
      have ev : tkV i k t = 0 := by unfold tkV; rw [hu, if_neg (by decide)]
      have et : toT i (nI (2 - k / 6)) (k % 6) s = s := by
        unfold toT
        rw [if_neg (by rw [e4, ← er]; exact hr)]
      rw [et]
      unfold tkS
      rw [ev]
      refine ⟨by show s.2 = t.2 - 0; rw [Int32.sub_zero, e], by show 0 ≤ (t.2 - 0).toInt; rw [Int32.sub_zero]; exact hb, ?_⟩
      refine R4_same h4 (fun _ _ _ => rfl) (fun a b q1 q2 => ?_)
      show u2 t.1 52 _ (_ - 0) a b = t.1 a b
      rw [Int32.sub_zero]
      by_cases z : a = 52 ∧ b = 6 * i + k % 6
      · rw [z.1, z.2, u2_eq]
      · rw [u2_ne _ _ z]
  · have hu : tkI t.1 i k = false := by unfold tkI; simp [hj]
    have e5 : s.1 (4 + 8 * i + 5) (k % 6) = 0 := by rw [h4.2.2.2.2.1 _ (by omega), if_neg hj]
    have ev : tkV i k t = 0 := by unfold tkV; rw [hu, if_neg (by decide)]
    have eu : toU i (k % 6) s = 0 := by unfold toU; rw [e5, e, mn_0 hb]
    have f1 : (toT i (nI (2 - k / 6)) (k % 6) s).2 = s.2 := by
      unfold toT
      split
      · show s.2 - _ = s.2
        rw [eu, Int32.sub_zero]
      · rfl
    have f2 : ∀ a b, (toT i (nI (2 - k / 6)) (k % 6) s).1 a b = s.1 a b := by
      intro a b
      unfold toT
      split
      · show u2 s.1 _ _ (_ - _) a b = s.1 a b
        rw [eu, Int32.sub_zero]
        by_cases z : a = 4 + 8 * i + 5 ∧ b = k % 6
        · rw [z.1, z.2, u2_eq]
        · rw [u2_ne _ _ z]
      · rfl
    rw [f1]
    unfold tkS
    rw [ev]
    refine ⟨by show s.2 = t.2 - 0; rw [Int32.sub_zero, e], by show 0 ≤ (t.2 - 0).toInt; rw [Int32.sub_zero]; exact hb, ?_⟩
    refine R4_same h4 (fun _ _ _ => f2 _ _) (fun a b q1 q2 => ?_)
    show u2 t.1 52 _ (_ - 0) a b = t.1 a b
    rw [Int32.sub_zero]
    by_cases z : a = 52 ∧ b = 6 * i + k % 6
    · rw [z.1, z.2, u2_eq]
    · rw [u2_ne _ _ z]
theorem TV_L {i : Nat} {s : TO} {t : TK} (e : s.2 = t.2) (hb : 0 ≤ t.2.toInt) (h4 : R4 s.1 t.1 i) : ∀ k, k ≤ 18 → (toL i k s).2 = (tkA i k t).2 ∧ 0 ≤ (tkA i k t).2.toInt ∧ R4 (toL i k s).1 (tkA i k t).1 i
  | 0, _ => ⟨e, hb, h4⟩
  | k + 1, hk => by
    obtain ⟨a1, a2, a3⟩ := TV_L e hb h4 k (by omega)
    exact TV_s (by omega) a1 a2 a3
theorem toA_row {i a : Nat} (h : a ≠ 4 + 8 * i + 5) (X : FF) (V : Int32) : (toA i (X, V)).1 a = X a := by
  rw [toA_L]
  exact toL_row h (X, V) 18
theorem leF_row {F : FF} {i w a : Nat} (h1 : a ≠ 4 + 8 * i + 1) (h2 : a ≠ 4 + 8 * i + 2) (h5 : a ≠ 4 + 8 * i + 5) : leF F i w a = F a := by
  have e := lvF_row (F := F) (w := w) h1 h2 8
  unfold leF
  generalize lvF F i w 8 = X at *
  generalize leB F i w = V
  rw [toA_row h5]
  exact e
theorem leF_c {F : FF} {i w b : Nat} (h : b ≠ 2) : leF F i w (4 + 8 * i + 1) b = F (4 + 8 * i + 1) b := by
  have e := lvF_c (F := F) (i := i) (w := w) h 8
  unfold leF
  generalize lvF F i w 8 = X at *
  generalize leB F i w = V
  rw [toA_row (by omega)]
  exact e
theorem mzF_ne {F : FF} {i w a b : Nat} (ht : tM F i ≤ 8) (h1 : ¬ (a = 47 ∧ b = i)) (h2 : ¬ (a = 46 ∧ b / 8 = i)) (h3 : ¬ (a = 52 ∧ b / 6 = i)) : mzF F i w a b = th F 0 a b := by
  unfold mzF
  rw [tkA_ne h3]
  unfold mzG
  exact mvF_ne h1 h2 _ ht
theorem le_sim {C M : FF} {i w : Nat} (hG : RG C M) (h1 : R1 C M i) (h3 : R3 C M i) (h4 : R4 C M i) (hw : w < 16) (e7 : C 0 7 = nI w) (m1 : M 36 1 = nI w) : leB C i w = bakI (mvF M i w (tM M i) 36 1) (saM (mvF M i w (tM M i)) i (aM (mvF M i w (tM M i)) i)) ∧ R3 (leF C i w) (tkA i 18 (mvF M i w (tM M i), leB C i w)).1 i ∧ R4 (leF C i w) (tkA i 18 (mvF M i w (tM M i), leB C i w)).1 i := by
  have s3 := lvq_sim hG h1 h3 hw
  have s4 : R4 (lvF C i w 8) (mvF M i w (tM M i)) i := R4_of h4 (by rw [lvF_row (by omega) (by omega)]) (fun b _ => by rw [lvF_row (by omega) (by omega)]) (fun b _ => by rw [lvF_row (by omega) (by omega)]) (by rw [mvF_row (by omega) (by omega)]) (fun b _ => by rw [mvF_row (by omega) (by omega)]) (fun b _ => by rw [mvF_row (by omega) (by omega)])
  have c7 : lvF C i w 8 0 7 = nI w := by rw [lvF_row (by omega) (by omega)]; exact e7
  have n1 : mvF M i w (tM M i) 36 1 = nI w := by rw [mvF_row (by omega) (by omega)]; exact m1
  have sa := sa_eq s4
  have eB : leB C i w = bakI (mvF M i w (tM M i) 36 1) (saM (mvF M i w (tM M i)) i (aM (mvF M i w (tM M i)) i)) := by
    unfold leB
    rw [c7, n1, sa.1]
  have hb : 0 ≤ (leB C i w).toInt := by
    unfold leB
    rw [c7]
    exact bak_b hw sa.2
  refine ⟨eB, ?_⟩
  have el : leF C i w = (toA i (lvF C i w 8, leB C i w)).1 := by unfold leF; rfl
  rw [el, toA_L]
  clear el eB c7 n1 sa
  generalize lvF C i w 8 = X at *
  generalize mvF M i w (tM M i) = Y at *
  generalize leB C i w = V at *
  have tv := TV_L (s := (X, V)) (t := (Y, V)) rfl hb s4 18 (Nat.le_refl _)
  refine ⟨?_, tv.2.2⟩
  exact R3_of s3 (by rw [toL_row (by omega)]) (by rw [toL_row (by omega)]) (fun b _ => by rw [toL_row (by omega)]) (by rw [tkA_row (by omega)]) (by rw [tkA_row (by omega)]) (fun b _ => by rw [tkA_row (by omega)]) (fun b _ => by rw [tkA_row (by omega)])
theorem tM_th (F : FF) (i : Nat) (p : Int32) : tM (th F p) i = tM F i := tM_of (u2_ne _ _ (by omega))
theorem mzV_eq {F C : FF} {i w : Nat} {V : Int32} (h : V = bakI (mvF (th F 0) i w (tM (th F 0) i) 36 1) (saM (mvF (th F 0) i w (tM (th F 0) i)) i (aM (mvF (th F 0) i w (tM (th F 0) i)) i))) : mzV F i w = V ∧ mzF F i w = (tkA i 18 (mvF (th F 0) i w (tM (th F 0) i), V)).1 := by
  have e : mzV F i w = V := by
    rw [h, tM_th]
    rfl
  refine ⟨e, ?_⟩
  unfold mzF
  rw [e, tM_th]
  rfl
theorem le_b {C M : FF} {i w : Nat} (hG : RG C M) (h1 : R1 C M i) (h3 : R3 C M i) (h4 : R4 C M i) (hw : w < 16) (e7 : C 0 7 = nI w) (m1 : M 36 1 = nI w) : 0 ≤ (leB C i w).toInt := by
  have s4 : R4 (lvF C i w 8) (mvF M i w (tM M i)) i := R4_of h4 (by rw [lvF_row (by omega) (by omega)]) (fun b _ => by rw [lvF_row (by omega) (by omega)]) (fun b _ => by rw [lvF_row (by omega) (by omega)]) (by rw [mvF_row (by omega) (by omega)]) (fun b _ => by rw [mvF_row (by omega) (by omega)]) (fun b _ => by rw [mvF_row (by omega) (by omega)])
  have c7 : lvF C i w 8 0 7 = nI w := by rw [lvF_row (by omega) (by omega)]; exact e7
  have sa := sa_eq s4
  unfold leB
  rw [c7]
  exact bak_b hw sa.2
