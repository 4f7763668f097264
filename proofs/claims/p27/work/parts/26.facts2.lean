/-! paying and charging; a course taken and dropped -/
theorem mcr_cg {M M' : FF} {i : Nat} : ∀ n, (∀ j, j < n → M' 45 (8 * i + j) = M 45 (8 * i + j) ∧ M' 46 (8 * i + j) = M 46 (8 * i + j)) → mcr M' i n = mcr M i n
  | 0, _ => rfl
  | n + 1, h => by
    show mcr M' i n + _ = mcr M i n + _
    rw [mcr_cg n (fun j hj => h j (by omega)), (h n (by omega)).1, (h n (by omega)).2]
theorem prM_c {M M' : FF} {i : Nat} (h4 : M' 36 4 = M 36 4) (h5 : M' 36 5 = M 36 5) (h7 : M' 37 = M 37) (h9 : M' 39 i = M 39 i) (h0 : M' 40 i = M 40 i) (c : Int32) : prM M' i c = prM M i c := by
  unfold prM rtM
  rw [h4, h5, h7, h9, h0]
theorem pay_ow {M : FF} {i : Nat} (ht : tM M i ≤ 8) (am : Int32) : owM (mpF M i am) i = owM M i - am ∧ mpF M i am 53 i = M 53 i + am := by
  have hA : AGm i M (mpF M i am) := by
    unfold mpF
    refine ⟨fun k q1 q2 q3 q4 => ?_, fun j hj => ⟨?_, ?_⟩, fun j hj => ⟨?_, ?_⟩, fun j hj => ?_, ?_⟩ <;> simp (disch := omega) only [u2_eq, u2_cell, u2_ne]
  have e : mpF M i am 53 i = M 53 i + am := by unfold mpF; simp (disch := omega) only [u2_eq, u2_cell, u2_ne]
  exact ⟨by rw [ow_x, ow_x, xM_c hA ht, e, sub_ad], e⟩
theorem chg_sm (a b c d x : Int32) : a + b + c + (d + x) = a + b + c + d + x := (Int32.add_assoc _ _ _).symm
theorem chg_ow {n : Nat} (hn : n < 512) {C C' M : FF} (h : RX n C M) {i : Nat} (hi : i < 4) {am : Int32} (ha : bt am 1 1000000) (h' : RX (n + 1) C' (mcF M i 0 am)) : (owM M i).toInt ≤ (owM (mcF M i 0 am) i).toInt ∧ (owM (mcF M i 0 am) i).toInt ≤ (owM M i).toInt + am.toInt ∧ mcF M i 0 am 49 i = M 49 i + am := by
  have c8 : mcF M i 0 am 48 i = M 48 i := by unfold mcF; simp (disch := omega) only [u2_eq, u2_cell, u2_ne, Int32.add_zero]
  have c9 : mcF M i 0 am 49 i = M 49 i + am := by unfold mcF; simp (disch := omega) only [u2_eq, u2_cell, u2_ne]
  have cr : ∀ k, 36 < k → k ≠ 48 → k ≠ 49 → mcF M i 0 am k = M k := fun k q1 q2 q3 => by unfold mcF; simp (disch := omega) only [u2_cell]
  have c6 : ∀ j, 1 ≤ j → mcF M i 0 am 36 j = M 36 j := fun j hj => by unfold mcF; simp (disch := omega) only [u2_cell, u2_ne]
  have s1 := fa_sp (by omega) h hi
  have s2 := fa_sp (by omega) h' hi
  have o1 := owM_i (by omega) h hi
  have o2 := owM_i (by omega) h' hi
  have hb := fa_hb h hi
  have hd := fa_nd h hi
  obtain ⟨B, P, hS, hB, hP⟩ := fa_B (n := n) (by omega) h hi
  have sm := sm_i h.1 hS (by omega)
  generalize mcF M i 0 am = N at *
  have et : tM N i = tM M i := by unfold tM; rw [cr 44 (by omega) (by omega) (by omega)]
  have eu : tuM N i = tuM M i := by
    unfold tuM
    rw [et, mcr_cg (M := M) (M' := N) _ (fun j _ => ⟨by rw [cr 45 (by omega) (by omega) (by omega)], by rw [cr 46 (by omega) (by omega) (by omega)]⟩), prM_c (M := M) (M' := N) (c6 4 (by omega)) (c6 5 (by omega)) (cr 37 (by omega) (by omega) (by omega)) (by rw [cr 39 (by omega) (by omega) (by omega)]) (by rw [cr 40 (by omega) (by omega) (by omega)]), cr 47 (by omega) (by omega) (by omega)]
  have ea : alM N i = alM M i + am := by
    unfold alM
    rw [eu, c8, c9]
    exact (Int32.add_assoc _ _ _).symm
  have em : smM N i = smM M i + (if bkM (M 42 i) 2 = 1 then am else 0) := by
    unfold smM
    rw [eu, c8, c9, cr 42 (by omega) (by omega) (by omega)]
    by_cases z : bkM (M 42 i) 2 = 1
    · rw [if_pos z, if_pos z, if_pos z]; exact chg_sm _ _ _ _ _
    · rw [if_neg z, if_neg z, if_neg z, Int32.add_zero, Int32.add_zero]
  have ha1 := ha.1
  have ha2 := ha.2
  have ai : (alM N i).toInt = (alM M i).toInt + am.toInt := by rw [ea]; exact iadd (by omega) (by omega)
  have mi : (smM M i).toInt ≤ (smM N i).toInt ∧ (smM N i).toInt ≤ (smM M i).toInt + am.toInt := by
    rw [em]
    by_cases z : bkM (M 42 i) 2 = 1
    · rw [if_pos z, iadd (by omega) (by omega)]; omega
    · rw [if_neg z, Int32.add_zero]; omega
  have pi : (spM M i).toInt ≤ (spM N i).toInt ∧ (spM N i).toInt ≤ (spM M i).toInt + am.toInt := by
    unfold spM
    rw [imn, imn, cr 43 (by omega) (by omega) (by omega)]
    split <;> split <;> omega
  have u1 : (unM M i).toInt = (alM M i).toInt - (spM M i).toInt := s1.2.2.2
  have u2' : (unM N i).toInt = (alM N i).toInt - (spM N i).toInt := s2.2.2.2
  have h50 : N 50 i = M 50 i := by rw [cr 50 (by omega) (by omega) (by omega)]
  have h51 : N 51 = M 51 := cr 51 (by omega) (by omega) (by omega)
  have h52 : N 52 = M 52 := cr 52 (by omega) (by omega) (by omega)
  have vc : ∀ un nd k, vS N i un nd k = vS M i un nd k := by
    intro un nd k
    induction k with
    | zero => rfl
    | succ k ih =>
      show vS N i un nd k + vK N i un nd k = vS M i un nd k + vK M i un nd k
      rw [ih]
      unfold vK
      rw [usK_c h50 h51 h52, usV_c h50 h51 h52]
  rw [vc, cr 41 (by omega) (by omega) (by omega), cr 53 (by omega) (by omega) (by omega)] at o2
  have lf := lf_m hb (un := unM M i) (un' := unM N i) (nd := M 41 i) (by omega) hd (by omega) 18 (by omega)
  exact ⟨by omega, by omega, c9⟩
/-- a course taken: the reference's numbers -/
theorem tk_facts {M : FF} {i : Nat} {cr : Int32} (ht : tM M i < 8) : tM (mtF M i cr) i = tM M i + 1 ∧ mcr (mtF M i cr) i (tM (mtF M i cr) i) = mcr M i (tM M i) + cr ∧ (∀ c, prM (mtF M i cr) i c = prM M i c) ∧ mtF M i cr 47 i = M 47 i ∧ mtF M i cr 46 (8 * i + tM M i) = 0 ∧ mcr (mtF M i cr) i (tM M i) = mcr M i (tM M i) ∧ mtF M i cr 36 1 = M 36 1 := by
  have e4 : tM (mtF M i cr) i = tM M i + 1 := by
    have : mtF M i cr 44 i = nI (tM M i + 1) := by unfold mtF; simp (disch := omega) only [u2_eq, u2_cell, u2_ne]
    show (mtF M i cr 44 i).toNatClampNeg = _
    rw [this, clN (by omega)]
  have a5 : mtF M i cr 45 (8 * i + tM M i) = cr := by unfold mtF; simp (disch := omega) only [u2_eq, u2_cell, u2_ne]
  have a6 : mtF M i cr 46 (8 * i + tM M i) = 0 := by unfold mtF; simp (disch := omega) only [u2_eq, u2_cell, u2_ne]
  have c : mcr (mtF M i cr) i (tM M i) = mcr M i (tM M i) := mcr_cg _ (fun j hj => by
    unfold mtF
    constructor <;> simp (disch := omega) only [u2_eq, u2_cell, u2_ne])
  refine ⟨e4, ?_, fun x => ?_, ?_, a6, c, ?_⟩
  · rw [e4]
    show mcr (mtF M i cr) i (tM M i) + (if mtF M i cr 46 (8 * i + tM M i) = 0 then mtF M i cr 45 (8 * i + tM M i) else 0) = _
    rw [a6, a5, if_pos rfl, c]
  · refine prM_c ?_ ?_ ?_ ?_ ?_ x <;> (unfold mtF; simp (disch := omega) only [u2_eq, u2_cell, u2_ne])
  · unfold mtF; simp (disch := omega) only [u2_eq, u2_cell, u2_ne]
  · unfold mtF; simp (disch := omega) only [u2_eq, u2_cell, u2_ne]
theorem dp_facts {M : FF} {i t w : Nat} : (∀ c, prM (md0 M i t) i c = prM M i c) ∧ (∀ c, prM (mdF M i t w) i c = prM M i c) ∧ tM (md0 M i t) i = tM M i ∧ tM (mdF M i t w) i = tM M i ∧ mcr (md0 M i t) i t = mcr M i t ∧ mcr (md0 M i t) i (t + 1) = mcr M i t ∧ mcr (mdF M i t w) i (t + 1) = mcr M i t ∧ mdF M i t w 47 i = M 47 i + mdK M i t w ∧ ¬ mdF M i t w 46 (8 * i + t) = 0 := by
  have z1 : ¬ (1 : Int32) = 0 := by decide
  have c0 : mcr (md0 M i t) i t = mcr M i t := mcr_cg _ (fun j hj => by
    unfold md0
    constructor <;> simp (disch := omega) only [u2_eq, u2_cell, u2_ne])
  have a0 : md0 M i t 46 (8 * i + t) = 1 := u2_eq _ _ _ _
  have c1 : mcr (md0 M i t) i (t + 1) = mcr M i t := by
    show mcr (md0 M i t) i t + (if md0 M i t 46 (8 * i + t) = 0 then md0 M i t 45 (8 * i + t) else 0) = _
    rw [a0, if_neg z1, c0, Int32.add_zero]
  refine ⟨fun c => ?_, fun c => ?_, ?_, ?_, c0, c1, ?_, ?_, ?_⟩
  · refine prM_c ?_ ?_ ?_ ?_ ?_ c <;> (unfold md0; simp (disch := omega) only [u2_eq, u2_cell, u2_ne])
  · refine prM_c ?_ ?_ ?_ ?_ ?_ c <;> (unfold mdF md0; simp (disch := omega) only [u2_eq, u2_cell, u2_ne])
  · exact tM_of (by unfold md0; simp (disch := omega) only [u2_eq, u2_cell, u2_ne])
  · exact tM_of (by unfold mdF md0; simp (disch := omega) only [u2_eq, u2_cell, u2_ne])
  · rw [← c1]
    exact mcr_cg _ (fun j hj => by
      unfold mdF
      constructor <;> simp (disch := omega) only [u2_cell])
  · show u2 (md0 M i t) 47 i (md0 M i t 47 i + mdK M i t w) 47 i = _
    rw [u2_eq, md0_row (by omega)]
  · show ¬ u2 (md0 M i t) 47 i (md0 M i t 47 i + mdK M i t w) 46 (8 * i + t) = 0
    rw [u2_cell _ _ _ (by omega), a0]
    exact z1
theorem pr_bd {n : Nat} {C M : FF} (h : RX n C M) {i : Nat} (hi : i < 4) {c : Int32} (hc : bt c 0 80) : bt (prM M i c) 0 8000000 := by
  have p := pr_i h.1 (h.2.2 i hi).1 hc
  have r := (rt_eq h.1 (h.2.2 i hi).1).2
  have m := mulB p.2.1 (Int.le_trans p.2.2 hc.2) r.1 r.2
  rw [← p.1] at m
  exact ⟨m.1, by omega⟩
theorem pr_mo {n : Nat} {C M : FF} (h : RX n C M) {i : Nat} (hi : i < 4) {c d : Int32} (hc : bt c 0 80) (hd : bt d 0 80) (hle : d.toInt ≤ c.toInt) : (prM M i d).toInt ≤ (prM M i c).toInt := by
  have p := pr_i h.1 (h.2.2 i hi).1 hc
  have q := pr_i h.1 (h.2.2 i hi).1 hd
  have r := (rt_eq h.1 (h.2.2 i hi).1).2
  obtain ⟨-, -, b1, b2⟩ := h.1.2.2.1
  have m := cnt_m (c := c.toInt) (d := d.toInt) b1.1 b2.1 hd.1 hle
  rw [p.1, q.1]
  exact Int.mul_le_mul_of_nonneg_right m.1 r.1
theorem kp_bd {n : Nat} {C M : FF} (h : RX n C M) {i : Nat} (hi : i < 4) : bt (M 47 i) 0 8000000 := by
  have h3 := (h.2.2 i hi).2.2.1
  have q := cr_i h3
  have a := h3.2.1
  have b := h3.2.2.2.2.2.2.1
  have c := h3.2.2.2.2.2.2.2
  exact ⟨b, by omega⟩
/-- what is told of a course that is taken, and dropped at once -/
theorem td_facts {n : Nat} {C C' M : FF} (h : RX n C M) {i : Nat} (hi : i < 4) {cr : Int32} (hc : bt cr 1 10) (ht : tM M i < 8) (h' : RX (n + 1) C' (mtF M i cr)) {w : Nat} (hw : w < 16) : (tuM M i).toInt ≤ (tuM (mtF M i cr) i).toInt ∧ 0 ≤ (mdK (mtF M i cr) i (tM M i) w).toInt ∧ (mdK (mtF M i cr) i (tM M i) w).toInt ≤ (tuM (mtF M i cr) i - tuM M i).toInt ∧ tuM (mdF (mtF M i cr) i (tM M i) w) i = tuM M i + mdK (mtF M i cr) i (tM M i) w ∧ mcr (mdF (mtF M i cr) i (tM M i) w) i (tM (mdF (mtF M i cr) i (tM M i) w) i) = mcr M i (tM M i) := by
  obtain ⟨a1, a2, a3, a4, a5, a6, a7⟩ := tk_facts (M := M) (i := i) (cr := cr) ht
  obtain ⟨d1, d2, d3, d4, d5, d6, d7, d8, d9⟩ := dp_facts (M := mtF M i cr) (i := i) (t := tM M i) (w := w)
  have b0 := fa_cr h hi
  have b1 := fa_cr h' hi
  have k0 := kp_bd h hi
  have p0 := pr_bd h hi b0
  have p1 := pr_bd h hi b1
  have bd := dr_bd (w := w) h'.1 (h'.2.2 i hi).1 (h'.2.2 i hi).2.2.1 (j := tM M i) (by omega) hw
  have hc1 := hc.1
  have hc2 := hc.2
  have ec : (mcr M i (tM M i) + cr).toInt = (mcr M i (tM M i)).toInt + cr.toInt := iadd (by have := b0.1; omega) (by have := b0.2; omega)
  have mo := pr_mo h hi b1 b0 (by rw [a2, ec]; omega)
  have p01 := p0.1
  have p02 := p0.2
  have p11 := p1.1
  have p12 := p1.2
  have k01 := k0.1
  have k02 := k0.2
  have t0 : tuM M i = prM M i (mcr M i (tM M i)) + M 47 i := rfl
  have t1 : tuM (mtF M i cr) i = prM M i (mcr (mtF M i cr) i (tM (mtF M i cr) i)) + M 47 i := by
    show prM (mtF M i cr) i _ + mtF M i cr 47 i = _
    rw [a3, a4]
  have i0' : (tuM M i).toInt = (prM M i (mcr M i (tM M i))).toInt + (M 47 i).toInt := by rw [t0]; exact iadd (by omega) (by omega)
  have i1' : (tuM (mtF M i cr) i).toInt = (prM M i (mcr (mtF M i cr) i (tM (mtF M i cr) i))).toInt + (M 47 i).toInt := by rw [t1]; exact iadd (by omega) (by omega)
  rw [a3, d1, d3, a3, a1, d6, a6, ← a1] at bd
  have es : (tuM (mtF M i cr) i - tuM M i).toInt = (tuM (mtF M i cr) i).toInt - (tuM M i).toInt := isub (by omega) (by omega)
  refine ⟨by omega, bd.1, by omega, ?_, ?_⟩
  · show prM (mdF (mtF M i cr) i (tM M i) w) i (mcr (mdF (mtF M i cr) i (tM M i) w) i (tM (mdF (mtF M i cr) i (tM M i) w) i)) + mdF (mtF M i cr) i (tM M i) w 47 i = _
    rw [d2, a3, d4, a1, d7, a6, d8, a4, t0, Int32.add_assoc]
  · rw [d4, a1, d7, a6]
