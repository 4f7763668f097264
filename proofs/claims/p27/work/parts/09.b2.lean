/-! what the middle methods of the landed program answer; i is the student's number -/
def rtC (F : FF) (i : Nat) : Int32 := raA F (poR (F (4 + 8 * i) 3) (F (4 + 8 * i) 4))
def tuC (F : FF) (i : Nat) : Int32 := pcl (F 0 3) (F 0 4) (tot8 (F (4 + 8 * i + 2))) (rtC F i) + F (4 + 8 * i + 1) 2
def ch1 (ks tu : Int32) : Int32 := if ks &&& 1 = 0 then 0 else 0 + tu
def ch2 (ks tu fe : Int32) : Int32 := if ks &&& 2 = 0 then ch1 ks tu else ch1 ks tu + fe
def ch3 (ks tu fe ho : Int32) : Int32 := if ks &&& 4 = 0 then ch2 ks tu fe else ch2 ks tu fe + ho
def chC (F : FF) (i : Nat) (ks : Int32) : Int32 := ch3 ks (tuC F i) (F (4 + 8 * i) 6) (F (4 + 8 * i) 7)
def spC (F : FF) (i : Nat) : Int32 := mn (chC F i (F (4 + 8 * i) 8)) (F (4 + 8 * i) 9)
def unC (F : FF) (i : Nat) : Int32 := chC F i 7 - spC F i
abbrev TC : Type := FF × Int32 × Int32
def cvU (i : Nat) (r : Int32) (j : Nat) (s : TC) : Int32 := mn (s.1 (4 + 8 * i + 5) j) (if r = 0 then mn s.2.1 s.2.2 else s.2.1)
def cvT (i : Nat) (r : Int32) (j : Nat) (s : TC) : TC := if s.1 (4 + 8 * i + 4) j = r then (u2 s.1 (4 + 8 * i + 6) j (cvU i r j s), s.2.1 - cvU i r j s, s.2.2 - (if r = 0 then cvU i r j s else 0)) else s
def cvR (i : Nat) (r : Int32) : Nat → TC → TC
  | 0, s => s
  | j + 1, s => cvT i r j (cvR i r j s)
def cvA (i : Nat) (s : TC) : TC := cvR i 2 6 (cvR i 1 6 (cvR i 0 6 s))
def balF (F : FF) (i : Nat) : FF := (cvA i (F, unC F i, F (4 + 8 * i) 5)).1
def balV (F : FF) (i : Nat) : Int32 := unC F i - (unC F i - (cvA i (F, unC F i, F (4 + 8 * i) 5)).2.1) - balF F i (4 + 8 * i) 10
abbrev TO : Type := FF × Int32
def toU (i : Nat) (j : Nat) (s : TO) : Int32 := mn (s.1 (4 + 8 * i + 5) j) s.2
def toT (i : Nat) (r : Int32) (j : Nat) (s : TO) : TO := if s.1 (4 + 8 * i + 4) j = r then (u2 s.1 (4 + 8 * i + 5) j (s.1 (4 + 8 * i + 5) j - toU i j s), s.2 - toU i j s) else s
def toR (i : Nat) (r : Int32) : Nat → TO → TO
  | 0, s => s
  | j + 1, s => toT i r j (toR i r j s)
def toA (i : Nat) (s : TO) : TO := toR i 0 6 (toR i 1 6 (toR i 2 6 s))
def bgT (F : FF) (i : Nat) (b : Int32) : FF := u2 (u2 (u2 (u2 (u2 (u2 (uF (u2 (u2 (uF F (4 + 8 * i + 2) 8 0) (4 + 8 * i + 1) 1 0) (4 + 8 * i + 1) 2 0) (4 + 8 * i + 5) 6 0) (4 + 8 * i + 3) 3 0) (4 + 8 * i) 8 0) (4 + 8 * i) 9 0) (4 + 8 * i) 7 0) (4 + 8 * i) 6 (mx b 0)) (4 + 8 * i) 10 (mx (-b) 0)
def dr0 (F : FF) (i j : Nat) : FF := u2 F (4 + 8 * i + 2) j 0
def drK (F : FF) (i j w : Nat) : Int32 := (pcl (F 0 3) (F 0 4) (tot8 (F (4 + 8 * i + 2))) (rtC F i) - pcl (dr0 F i j 0 3) (dr0 F i j 0 4) (tot8 (dr0 F i j (4 + 8 * i + 2))) (rtC F i)) * dr0 F i j 3 w / 100
def drF (F : FF) (i j w : Nat) : FF := u2 (dr0 F i j) (4 + 8 * i + 1) 2 (dr0 F i j (4 + 8 * i + 1) 2 + drK F i j w)
def enP (F : FF) (i k : Nat) : FF := bgT (bgT (balF (balF F i) k) i (balV F i - (carI (balV F i) (balV (balF F i) k) - carI (balV (balF F i) k) (balV F i)))) k (balV (balF F i) k + (carI (balV F i) (balV (balF F i) k) - carI (balV (balF F i) k) (balV F i)))
def lfC (F : FF) (i : Nat) : Bool := lateI (F 0 8 * 16 + F 0 7) (F (4 + 8 * i + 7) 0) (F (4 + 8 * i + 7) 1) (F (4 + 8 * i + 7) 2) (F (4 + 8 * i + 7) 3) (F (4 + 8 * i + 7) 4)
def clS (F : FF) (i : Nat) : FF := if lfC F i = true then u2 F (4 + 8 * i) 6 (F (4 + 8 * i) 6 + F 0 5) else F
def clA (F : FF) : Nat → FF
  | 0 => F
  | i + 1 => clS (clA F i) i
set_option maxHeartbeats 1000000 in
set_option maxRecDepth 100000 in
theorem c_X0_cover (l : Launch) (D : va_G) (cA : Nat → ClassId) (ad : Nat → Nat) (sz : Nat) (F : FF) (i : Nat) (hi : i < 4) (ch nd : Int32) : CI l D cA ad sz yX0_cover wsX0_cover 1 21 0 0 [.ref (ad (4 + 8 * i + 3)), .int ch, .int nd] F (some (.int (ch - (cvA i (F, ch, nd)).2.1))) ((cvA i (F, ch, nd)).1) := by
  refine CI_of (own := RX0) (cc := cX0_cover) (maxL := 8) (ret := (some .int)) (by decide +kernel) rfl rfl (Nat.le_of_ble_eq_true rfl) ?_
  intro p e s m below meth c ls X S hr hl
  obtain ⟨⟨hx, hb, hml, hown, hts⟩, hE, hI, hlocks⟩ := id X
  have hl : lv_has ls 8 [(0, .ref (ad (4 + 8 * i + 3))), (1, .int ch), (2, .int nd)] := hl
  have hw0 : ∀ w ∈ wsX00, w.before _ s = true := fun w h => hts w ((by decide +kernel : ∀ w ∈ wsX00, w ∈ wsX0_cover) w h)
  have inner : ∀ (c9 : Int32) (s9 : TC) (kk : ∀ (H : Heap) (locs : List Loc) (ls : Array Slot), St D cA ad ((cvR i c9 6 s9).1) s.heap H locs → lv_has ls 8 [(0, .ref (ad (4 + 8 * i + 3))), (1, .int ch), (2, .int nd), (3, .int ((cvR i c9 6 s9).2.1)), (4, .int ((cvR i c9 6 s9).2.2)), (5, .int c9), (6, .int (nI 6))] → W p l e (RM 1 21 0 0) s m [.ref (ad (4 + 8 * i + 3)), .int ch, .int nd].toArray below meth c H locs 0 0 (MQ below (CQ D cA ad s.heap.size ((cvA i (F, ch, nd)).1) (some (.int (ch - (cvA i (F, ch, nd)).2.1)))) [.ref (ad (4 + 8 * i + 3)), .int ch, .int nd].toArray s 0 0 (AA ad s.heap.size)) (F0 m 109 ls [])) (q j : Nat), j + q = 6 → ∀ s8 : TC, s8 = cvR i c9 j s9 → ∀ (H : Heap) (locs : List Loc) (ls : Array Slot), St D cA ad s8.1 s.heap H locs → lv_has ls 8 [(0, .ref (ad (4 + 8 * i + 3))), (1, .int ch), (2, .int nd), (3, .int s8.2.1), (4, .int s8.2.2), (5, .int c9), (6, .int (nI j))] → W p l e (RM 1 21 0 0) s m [.ref (ad (4 + 8 * i + 3)), .int ch, .int nd].toArray below meth c H locs 0 0 (MQ below (CQ D cA ad s.heap.size ((cvA i (F, ch, nd)).1) (some (.int (ch - (cvA i (F, ch, nd)).2.1)))) [.ref (ad (4 + 8 * i + 3)), .int ch, .int nd].toArray s 0 0 (AA ad s.heap.size)) (F0 m 17 ls []) := by
    intro c9 s9 kk q
    induction q with
    | zero =>
      intro j hj s8 e8 H locs ls S hl
      obtain rfl : j = 6 := by omega
      rw [e8] at S hl
      refine lv_iload hx hb dX0_cover_17 (lv_at hl 6 rfl) ?_
      refine lv_bipush (v := 6) hx hb dX0_cover_19 (by decide) ?_
      refine lv_icmp_ge (tgt := 109) hx hb dX0_cover_21 (by decide) (fun _ => ?_) (fun z => False.elim (absurd (by decide) z))
      exact kk H locs ls S (lv_sub hl [0, 1, 2, 3, 4, 5, 6] rfl)
    | succ q ih =>
      intro j hj s8 e8 H locs ls S hl
      refine lv_iload hx hb dX0_cover_17 (lv_at hl 6 rfl) ?_
      refine lv_bipush (v := 6) hx hb dX0_cover_19 (by decide) ?_
      refine lv_icmp_ge (tgt := 109) hx hb dX0_cover_21 (by decide) (fun z => False.elim (nI_ge (a := j) (b := 6) (by omega) (by omega) z)) (fun _ => ?_)
      refine lv_aload_n hx hb dX0_cover_24 rfl (lv_at hl 0 rfl) ?_
      refine r_getr (q := 4 + 8 * i + 4) X S hw0 (ob_A i hi) 0 ⟨rfl, by decide, rfl⟩ rfl (hts (.fieldLink RX0 9 "TermBill$Aid" "ranks" "[I") (by decide +kernel)) dX0_cover_25 ?_
      refine lv_iload hx hb dX0_cover_28 (lv_at hl 6 rfl) ?_
      refine r_ialN X S (ar_R i hi) (q := j) rfl (by omega) (by decide) dX0_cover_30 ?_
      refine lv_iload hx hb dX0_cover_31 (lv_at hl 5 rfl) ?_
      refine lv_icmp_ne (tgt := 103) hx hb dX0_cover_33 (by decide) (fun c_1 => ?_) (fun c_1 => ?_)
      · refine lv_iinc (v := nI (j + 1)) (lv' := [(6, .int (nI (j + 1))), (0, .ref (ad (4 + 8 * i + 3))), (1, .int ch), (2, .int nd), (3, .int s8.2.1), (4, .int s8.2.2), (5, .int c9)]) hx hb dX0_cover_103 hl (k := 6) rfl (nI_add _ _) (by decide) rfl (fun ls hl => ?_)
        refine lv_goto (tgt := 17) hx hb dX0_cover_106 (by decide) ?_
        exact ih (j + 1) (by omega) s8 (by rw [show cvR i c9 (j + 1) s9 = cvT i c9 j (cvR i c9 j s9) from rfl, ← e8]; simp only [cvT, cvU, c_1, ↓reduceIte]) H locs ls S (lv_sub hl [1, 2, 3, 4, 5, 6, 0] rfl)
      · refine lv_iload hx hb dX0_cover_36 (lv_at hl 5 rfl) ?_
        refine lv_if_ne (tgt := 50) hx hb dX0_cover_38 (by decide) (fun c_2 => ?_) (fun c_2 => ?_)
        · refine lv_iload_n hx hb dX0_cover_50 rfl (lv_at hl 3 rfl) ?_
          refine lv_istore (lv' := [(7, .int s8.2.1), (0, .ref (ad (4 + 8 * i + 3))), (1, .int ch), (2, .int nd), (3, .int s8.2.1), (4, .int s8.2.2), (5, .int c9), (6, .int (nI j))]) hx hb dX0_cover_51 hl (by decide) rfl (fun ls hl => ?_)
          refine lv_aload_n hx hb dX0_cover_53 rfl (lv_at hl 1 rfl) ?_
          refine r_getr (q := 4 + 8 * i + 6) X S hw0 (ob_A i hi) 2 ⟨rfl, by decide, rfl⟩ rfl (hts (.fieldLink RX0 18 "TermBill$Aid" "uses" "[I") (by decide +kernel)) dX0_cover_54 ?_
          refine lv_iload hx hb dX0_cover_57 (lv_at hl 7 rfl) ?_
          refine lv_aload_n hx hb dX0_cover_59 rfl (lv_at hl 1 rfl) ?_
          refine r_getr (q := 4 + 8 * i + 5) X S hw0 (ob_A i hi) 1 ⟨rfl, by decide, rfl⟩ rfl (hts (.fieldLink RX0 15 "TermBill$Aid" "amounts" "[I") (by decide +kernel)) dX0_cover_60 ?_
          refine lv_iload hx hb dX0_cover_63 (lv_at hl 7 rfl) ?_
          refine r_ialN X S (ar_M i hi) (q := j) rfl (by omega) (by decide) dX0_cover_65 ?_
          refine lv_iload hx hb dX0_cover_66 (lv_at hl 0 rfl) ?_
          refine r_min X hl.1 (hts (.methodLink RX0 25 Lib.Math.min.name) (by decide +kernel)) (hts (.static Lib.Math.min.name) (by decide +kernel)) (hts (.initialized "java/lang/Math") (by decide +kernel)) (hts (.code Lib.Math.min.name Lib.Math.min.code 2 (some .int)) (by decide +kernel)) (Nat.le_of_ble_eq_true rfl) (Nat.le_of_ble_eq_true rfl) (Nat.zero_le _) (Nat.zero_le _) dX0_cover_68 ?_
          refine r_iasN X S (ar_U i hi) (q := j) rfl (by omega) (by decide) dX0_cover_71 (fun H locs S => ?_)
          obtain ⟨F_3, eF_3⟩ : ∃ z, z = u2 s8.1 (4 + 8 * i + 6) j (mn (s8.1 (4 + 8 * i + 5) j) s8.2.1) := ⟨_, rfl⟩
          rw [← eF_3] at S
          refine lv_iload_n hx hb dX0_cover_72 rfl (lv_at hl 4 rfl) ?_
          refine lv_aload_n hx hb dX0_cover_73 rfl (lv_at hl 1 rfl) ?_
          refine r_getr (q := 4 + 8 * i + 6) X S hw0 (ob_A i hi) 2 ⟨rfl, by decide, rfl⟩ rfl (hts (.fieldLink RX0 18 "TermBill$Aid" "uses" "[I") (by decide +kernel)) dX0_cover_74 ?_
          refine lv_iload hx hb dX0_cover_77 (lv_at hl 7 rfl) ?_
          refine r_ialN X S (ar_U i hi) (q := j) rfl (by omega) (by decide) dX0_cover_79 ?_
          rw [show F_3 (4 + 8 * i + 6) j = mn (s8.1 (4 + 8 * i + 5) j) s8.2.1 from (by rw [eF_3, u2_eq])]
          refine lv_isub hx hb dX0_cover_80 ?_
          refine lv_istore_n (lv' := [(3, .int (s8.2.1 - (mn (s8.1 (4 + 8 * i + 5) j) s8.2.1))), (7, .int s8.2.1), (0, .ref (ad (4 + 8 * i + 3))), (1, .int ch), (2, .int nd), (4, .int s8.2.2), (5, .int c9), (6, .int (nI j))]) hx hb dX0_cover_81 rfl hl (by decide) rfl (fun ls hl => ?_)
          refine lv_iload hx hb dX0_cover_82 (lv_at hl 5 rfl) ?_
          refine lv_iload hx hb dX0_cover_84 (lv_at hl 6 rfl) ?_
          refine lv_if_ne (tgt := 99) hx hb dX0_cover_86 (by decide) (fun _ => ?_) (fun z => False.elim (c_2 z))
          refine lv_iconst (v := 0) hx hb dX0_cover_99 (by decide) ?_
          refine lv_isub hx hb dX0_cover_100 ?_
          refine lv_istore (lv' := [(4, .int (s8.2.2 - 0)), (3, .int (s8.2.1 - (mn (s8.1 (4 + 8 * i + 5) j) s8.2.1))), (7, .int s8.2.1), (0, .ref (ad (4 + 8 * i + 3))), (1, .int ch), (2, .int nd), (5, .int c9), (6, .int (nI j))]) hx hb dX0_cover_101 hl (by decide) rfl (fun ls hl => ?_)
          refine lv_iinc (v := nI (j + 1)) (lv' := [(6, .int (nI (j + 1))), (4, .int (s8.2.2 - 0)), (3, .int (s8.2.1 - (mn (s8.1 (4 + 8 * i + 5) j) s8.2.1))), (7, .int s8.2.1), (0, .ref (ad (4 + 8 * i + 3))), (1, .int ch), (2, .int nd), (5, .int c9)]) hx hb dX0_cover_103 hl (k := 7) rfl (nI_add _ _) (by decide) rfl (fun ls hl => ?_)
          refine lv_goto (tgt := 17) hx hb dX0_cover_106 (by decide) ?_
          exact ih (j + 1) (by omega) (F_3, s8.2.1 - (mn (s8.1 (4 + 8 * i + 5) j) s8.2.1), s8.2.2 - 0) (by rw [show cvR i c9 (j + 1) s9 = cvT i c9 j (cvR i c9 j s9) from rfl, ← e8]; rw [eF_3]; simp only [cvT, cvU, c_1, c_2, ↓reduceIte]) H locs ls S (lv_sub hl [4, 5, 6, 2, 1, 7, 0] rfl)
        · refine lv_iload_n hx hb dX0_cover_41 rfl (lv_at hl 3 rfl) ?_
          refine lv_iload hx hb dX0_cover_42 (lv_at hl 4 rfl) ?_
          refine r_min X hl.1 (hts (.methodLink RX0 25 Lib.Math.min.name) (by decide +kernel)) (hts (.static Lib.Math.min.name) (by decide +kernel)) (hts (.initialized "java/lang/Math") (by decide +kernel)) (hts (.code Lib.Math.min.name Lib.Math.min.code 2 (some .int)) (by decide +kernel)) (Nat.le_of_ble_eq_true rfl) (Nat.le_of_ble_eq_true rfl) (Nat.zero_le _) (Nat.zero_le _) dX0_cover_44 ?_
          refine lv_goto (tgt := 51) hx hb dX0_cover_47 (by decide) ?_
          refine lv_istore (lv' := [(7, .int (mn s8.2.1 s8.2.2)), (0, .ref (ad (4 + 8 * i + 3))), (1, .int ch), (2, .int nd), (3, .int s8.2.1), (4, .int s8.2.2), (5, .int c9), (6, .int (nI j))]) hx hb dX0_cover_51 hl (by decide) rfl (fun ls hl => ?_)
          refine lv_aload_n hx hb dX0_cover_53 rfl (lv_at hl 1 rfl) ?_
          refine r_getr (q := 4 + 8 * i + 6) X S hw0 (ob_A i hi) 2 ⟨rfl, by decide, rfl⟩ rfl (hts (.fieldLink RX0 18 "TermBill$Aid" "uses" "[I") (by decide +kernel)) dX0_cover_54 ?_
          refine lv_iload hx hb dX0_cover_57 (lv_at hl 7 rfl) ?_
          refine lv_aload_n hx hb dX0_cover_59 rfl (lv_at hl 1 rfl) ?_
          refine r_getr (q := 4 + 8 * i + 5) X S hw0 (ob_A i hi) 1 ⟨rfl, by decide, rfl⟩ rfl (hts (.fieldLink RX0 15 "TermBill$Aid" "amounts" "[I") (by decide +kernel)) dX0_cover_60 ?_
          refine lv_iload hx hb dX0_cover_63 (lv_at hl 7 rfl) ?_
          refine r_ialN X S (ar_M i hi) (q := j) rfl (by omega) (by decide) dX0_cover_65 ?_
          refine lv_iload hx hb dX0_cover_66 (lv_at hl 0 rfl) ?_
          refine r_min X hl.1 (hts (.methodLink RX0 25 Lib.Math.min.name) (by decide +kernel)) (hts (.static Lib.Math.min.name) (by decide +kernel)) (hts (.initialized "java/lang/Math") (by decide +kernel)) (hts (.code Lib.Math.min.name Lib.Math.min.code 2 (some .int)) (by decide +kernel)) (Nat.le_of_ble_eq_true rfl) (Nat.le_of_ble_eq_true rfl) (Nat.zero_le _) (Nat.zero_le _) dX0_cover_68 ?_
          refine r_iasN X S (ar_U i hi) (q := j) rfl (by omega) (by decide) dX0_cover_71 (fun H locs S => ?_)
          obtain ⟨F_4, eF_4⟩ : ∃ z, z = u2 s8.1 (4 + 8 * i + 6) j (mn (s8.1 (4 + 8 * i + 5) j) (mn s8.2.1 s8.2.2)) := ⟨_, rfl⟩
          rw [← eF_4] at S
          refine lv_iload_n hx hb dX0_cover_72 rfl (lv_at hl 4 rfl) ?_
          refine lv_aload_n hx hb dX0_cover_73 rfl (lv_at hl 1 rfl) ?_
          refine r_getr (q := 4 + 8 * i + 6) X S hw0 (ob_A i hi) 2 ⟨rfl, by decide, rfl⟩ rfl (hts (.fieldLink RX0 18 "TermBill$Aid" "uses" "[I") (by decide +kernel)) dX0_cover_74 ?_
          refine lv_iload hx hb dX0_cover_77 (lv_at hl 7 rfl) ?_
          refine r_ialN X S (ar_U i hi) (q := j) rfl (by omega) (by decide) dX0_cover_79 ?_
          rw [show F_4 (4 + 8 * i + 6) j = mn (s8.1 (4 + 8 * i + 5) j) (mn s8.2.1 s8.2.2) from (by rw [eF_4, u2_eq])]
          refine lv_isub hx hb dX0_cover_80 ?_
          refine lv_istore_n (lv' := [(3, .int (s8.2.1 - (mn (s8.1 (4 + 8 * i + 5) j) (mn s8.2.1 s8.2.2)))), (7, .int (mn s8.2.1 s8.2.2)), (0, .ref (ad (4 + 8 * i + 3))), (1, .int ch), (2, .int nd), (4, .int s8.2.2), (5, .int c9), (6, .int (nI j))]) hx hb dX0_cover_81 rfl hl (by decide) rfl (fun ls hl => ?_)
          refine lv_iload hx hb dX0_cover_82 (lv_at hl 5 rfl) ?_
          refine lv_iload hx hb dX0_cover_84 (lv_at hl 6 rfl) ?_
          refine lv_if_ne (tgt := 99) hx hb dX0_cover_86 (by decide) (fun z => False.elim (z c_2)) (fun _ => ?_)
          refine lv_aload_n hx hb dX0_cover_89 rfl (lv_at hl 2 rfl) ?_
          refine r_getr (q := 4 + 8 * i + 6) X S hw0 (ob_A i hi) 2 ⟨rfl, by decide, rfl⟩ rfl (hts (.fieldLink RX0 18 "TermBill$Aid" "uses" "[I") (by decide +kernel)) dX0_cover_90 ?_
          refine lv_iload hx hb dX0_cover_93 (lv_at hl 7 rfl) ?_
          refine r_ialN X S (ar_U i hi) (q := j) rfl (by omega) (by decide) dX0_cover_95 ?_
          rw [show F_4 (4 + 8 * i + 6) j = mn (s8.1 (4 + 8 * i + 5) j) (mn s8.2.1 s8.2.2) from (by rw [eF_4, u2_eq])]
          refine lv_goto (tgt := 100) hx hb dX0_cover_96 (by decide) ?_
          refine lv_isub hx hb dX0_cover_100 ?_
          refine lv_istore (lv' := [(4, .int (s8.2.2 - (mn (s8.1 (4 + 8 * i + 5) j) (mn s8.2.1 s8.2.2)))), (3, .int (s8.2.1 - (mn (s8.1 (4 + 8 * i + 5) j) (mn s8.2.1 s8.2.2)))), (7, .int (mn s8.2.1 s8.2.2)), (0, .ref (ad (4 + 8 * i + 3))), (1, .int ch), (2, .int nd), (5, .int c9), (6, .int (nI j))]) hx hb dX0_cover_101 hl (by decide) rfl (fun ls hl => ?_)
          refine lv_iinc (v := nI (j + 1)) (lv' := [(6, .int (nI (j + 1))), (4, .int (s8.2.2 - (mn (s8.1 (4 + 8 * i + 5) j) (mn s8.2.1 s8.2.2)))), (3, .int (s8.2.1 - (mn (s8.1 (4 + 8 * i + 5) j) (mn s8.2.1 s8.2.2)))), (7, .int (mn s8.2.1 s8.2.2)), (0, .ref (ad (4 + 8 * i + 3))), (1, .int ch), (2, .int nd), (5, .int c9)]) hx hb dX0_cover_103 hl (k := 7) rfl (nI_add _ _) (by decide) rfl (fun ls hl => ?_)
          refine lv_goto (tgt := 17) hx hb dX0_cover_106 (by decide) ?_
          exact ih (j + 1) (by omega) (F_4, s8.2.1 - (mn (s8.1 (4 + 8 * i + 5) j) (mn s8.2.1 s8.2.2)), s8.2.2 - (mn (s8.1 (4 + 8 * i + 5) j) (mn s8.2.1 s8.2.2))) (by rw [show cvR i c9 (j + 1) s9 = cvT i c9 j (cvR i c9 j s9) from rfl, ← e8]; rw [eF_4]; simp only [cvT, cvU, c_1, c_2, ↓reduceIte]) H locs ls S (lv_sub hl [4, 5, 6, 2, 1, 7, 0] rfl)
  refine lv_iload_n hx hb dX0_cover_0 rfl (lv_at hl 1 rfl) ?_
  refine lv_istore_n (lv' := [(3, .int ch), (0, .ref (ad (4 + 8 * i + 3))), (1, .int ch), (2, .int nd)]) hx hb dX0_cover_1 rfl hl (by decide) rfl (fun ls hl => ?_)
  refine lv_iload_n hx hb dX0_cover_2 rfl (lv_at hl 3 rfl) ?_
  refine lv_istore (lv' := [(4, .int nd), (3, .int ch), (0, .ref (ad (4 + 8 * i + 3))), (1, .int ch), (2, .int nd)]) hx hb dX0_cover_3 hl (by decide) rfl (fun ls hl => ?_)
  refine lv_iconst (v := 0) hx hb dX0_cover_5 (by decide) ?_
  refine lv_istore (lv' := [(5, .int 0), (4, .int nd), (3, .int ch), (0, .ref (ad (4 + 8 * i + 3))), (1, .int ch), (2, .int nd)]) hx hb dX0_cover_6 hl (by decide) rfl (fun ls hl => ?_)
  refine lv_iload hx hb dX0_cover_8 (lv_at hl 0 rfl) ?_
  refine lv_iconst (v := 2) hx hb dX0_cover_10 (by decide) ?_
  refine lv_icmp_gt (tgt := 115) hx hb dX0_cover_11 (by decide) (fun z => False.elim (by first | exact absurd z (by decide) | exact absurd (by decide) z)) (fun _ => ?_)
  refine lv_iconst (v := 0) hx hb dX0_cover_14 (by decide) ?_
  refine lv_istore (lv' := [(6, .int 0), (5, .int 0), (4, .int nd), (3, .int ch), (0, .ref (ad (4 + 8 * i + 3))), (1, .int ch), (2, .int nd)]) hx hb dX0_cover_15 hl (by decide) rfl (fun ls hl => ?_)
  refine inner 0 (F, ch, nd) (fun H locs ls S hl => ?_) 6 0 (by omega) (F, ch, nd) rfl _ _ ls S (lv_sub hl [4, 5, 6, 3, 2, 1, 0] rfl)
  obtain ⟨t1, et1⟩ : ∃ z, z = cvR i 0 6 (F, ch, nd) := ⟨_, rfl⟩
  rw [← et1] at S hl
  refine lv_iinc (v := 1) (lv' := [(5, .int 1), (0, .ref (ad (4 + 8 * i + 3))), (1, .int ch), (2, .int nd), (3, .int t1.2.1), (4, .int t1.2.2), (6, .int (nI 6))]) hx hb dX0_cover_109 hl (k := 5) rfl (by decide) (by decide) rfl (fun ls hl => ?_)
  refine lv_goto (tgt := 8) hx hb dX0_cover_112 (by decide) ?_
  refine lv_iload hx hb dX0_cover_8 (lv_at hl 0 rfl) ?_
  refine lv_iconst (v := 2) hx hb dX0_cover_10 (by decide) ?_
  refine lv_icmp_gt (tgt := 115) hx hb dX0_cover_11 (by decide) (fun z => False.elim (by first | exact absurd z (by decide) | exact absurd (by decide) z)) (fun _ => ?_)
  refine lv_iconst (v := 0) hx hb dX0_cover_14 (by decide) ?_
  refine lv_istore (lv' := [(6, .int 0), (5, .int 1), (0, .ref (ad (4 + 8 * i + 3))), (1, .int ch), (2, .int nd), (3, .int t1.2.1), (4, .int t1.2.2)]) hx hb dX0_cover_15 hl (by decide) rfl (fun ls hl => ?_)
  refine inner 1 t1 (fun H locs ls S hl => ?_) 6 0 (by omega) t1 rfl _ _ ls S (lv_sub hl [2, 3, 4, 5, 6, 1, 0] rfl)
  obtain ⟨t2, et2⟩ : ∃ z, z = cvR i 1 6 t1 := ⟨_, rfl⟩
  rw [← et2] at S hl
  refine lv_iinc (v := 2) (lv' := [(5, .int 2), (0, .ref (ad (4 + 8 * i + 3))), (1, .int ch), (2, .int nd), (3, .int t2.2.1), (4, .int t2.2.2), (6, .int (nI 6))]) hx hb dX0_cover_109 hl (k := 5) rfl (by decide) (by decide) rfl (fun ls hl => ?_)
  refine lv_goto (tgt := 8) hx hb dX0_cover_112 (by decide) ?_
  refine lv_iload hx hb dX0_cover_8 (lv_at hl 0 rfl) ?_
  refine lv_iconst (v := 2) hx hb dX0_cover_10 (by decide) ?_
  refine lv_icmp_gt (tgt := 115) hx hb dX0_cover_11 (by decide) (fun z => False.elim (by first | exact absurd z (by decide) | exact absurd (by decide) z)) (fun _ => ?_)
  refine lv_iconst (v := 0) hx hb dX0_cover_14 (by decide) ?_
  refine lv_istore (lv' := [(6, .int 0), (5, .int 2), (0, .ref (ad (4 + 8 * i + 3))), (1, .int ch), (2, .int nd), (3, .int t2.2.1), (4, .int t2.2.2)]) hx hb dX0_cover_15 hl (by decide) rfl (fun ls hl => ?_)
  refine inner 2 t2 (fun H locs ls S hl => ?_) 6 0 (by omega) t2 rfl _ _ ls S (lv_sub hl [2, 3, 4, 5, 6, 1, 0] rfl)
  obtain ⟨t3, et3⟩ : ∃ z, z = cvR i 2 6 t2 := ⟨_, rfl⟩
  rw [← et3] at S hl
  refine lv_iinc (v := 3) (lv' := [(5, .int 3), (0, .ref (ad (4 + 8 * i + 3))), (1, .int ch), (2, .int nd), (3, .int t3.2.1), (4, .int t3.2.2), (6, .int (nI 6))]) hx hb dX0_cover_109 hl (k := 5) rfl (by decide) (by decide) rfl (fun ls hl => ?_)
  refine lv_goto (tgt := 8) hx hb dX0_cover_112 (by decide) ?_
  refine lv_iload hx hb dX0_cover_8 (lv_at hl 0 rfl) ?_
  refine lv_iconst (v := 2) hx hb dX0_cover_10 (by decide) ?_
  refine lv_icmp_gt (tgt := 115) hx hb dX0_cover_11 (by decide) (fun _ => ?_) (fun z => False.elim (by first | exact absurd z (by decide) | exact absurd (by decide) z))
  refine lv_iload_n hx hb dX0_cover_115 rfl (lv_at hl 2 rfl) ?_
  refine lv_iload_n hx hb dX0_cover_116 rfl (lv_at hl 4 rfl) ?_
  refine lv_isub hx hb dX0_cover_117 ?_
  exact r_iret X S hr dX0_cover_118 (Nat.le_of_ble_eq_true rfl) (Nat.le_of_ble_eq_true rfl) (by rw [et3, et2, et1]; unfold cvA; rfl) (by rw [et3, et2, et1]; unfold cvA; rfl)

set_option maxHeartbeats 1000000 in
set_option maxRecDepth 100000 in
theorem c_X0_takeOff (l : Launch) (D : va_G) (cA : Nat → ClassId) (ad : Nat → Nat) (sz : Nat) (F : FF) (i : Nat) (hi : i < 4) (sm : Int32) : CI l D cA ad sz yX0_takeOff wsX0_takeOff 1 21 0 0 [.ref (ad (4 + 8 * i + 3)), .int sm] F none ((toA i (F, sm)).1) := by
  refine CI_of (own := RX0) (cc := cX0_takeOff) (maxL := 6) (ret := none) (by decide +kernel) rfl rfl (Nat.le_of_ble_eq_true rfl) ?_
  intro p e s m below meth c ls X S hr hl
  obtain ⟨⟨hx, hb, hml, hown, hts⟩, hE, hI, hlocks⟩ := id X
  have hl : lv_has ls 6 [(0, .ref (ad (4 + 8 * i + 3))), (1, .int sm)] := hl
  have hw0 : ∀ w ∈ wsX00, w.before _ s = true := fun w h => hts w ((by decide +kernel : ∀ w ∈ wsX00, w ∈ wsX0_takeOff) w h)
  have inner : ∀ (c9 : Int32) (s9 : TO) (kk : ∀ (H : Heap) (locs : List Loc) (ls : Array Slot), St D cA ad ((toR i c9 6 s9).1) s.heap H locs → lv_has ls 6 [(0, .ref (ad (4 + 8 * i + 3))), (1, .int sm), (2, .int ((toR i c9 6 s9).2)), (3, .int c9), (4, .int (nI 6))] → W p l e (RM 1 21 0 0) s m [.ref (ad (4 + 8 * i + 3)), .int sm].toArray below meth c H locs 0 0 (MQ below (CQ D cA ad s.heap.size ((toA i (F, sm)).1) none) [.ref (ad (4 + 8 * i + 3)), .int sm].toArray s 0 0 (AA ad s.heap.size)) (F0 m 65 ls [])) (q j : Nat), j + q = 6 → ∀ s8 : TO, s8 = toR i c9 j s9 → ∀ (H : Heap) (locs : List Loc) (ls : Array Slot), St D cA ad s8.1 s.heap H locs → lv_has ls 6 [(0, .ref (ad (4 + 8 * i + 3))), (1, .int sm), (2, .int s8.2), (3, .int c9), (4, .int (nI j))] → W p l e (RM 1 21 0 0) s m [.ref (ad (4 + 8 * i + 3)), .int sm].toArray below meth c H locs 0 0 (MQ below (CQ D cA ad s.heap.size ((toA i (F, sm)).1) none) [.ref (ad (4 + 8 * i + 3)), .int sm].toArray s 0 0 (AA ad s.heap.size)) (F0 m 11 ls []) := by
    intro c9 s9 kk q
    induction q with
    | zero =>
      intro j hj s8 e8 H locs ls S hl
      obtain rfl : j = 6 := by omega
      rw [e8] at S hl
      refine lv_iload hx hb dX0_takeOff_11 (lv_at hl 4 rfl) ?_
      refine lv_bipush (v := 6) hx hb dX0_takeOff_13 (by decide) ?_
      refine lv_icmp_ge (tgt := 65) hx hb dX0_takeOff_15 (by decide) (fun _ => ?_) (fun z => False.elim (absurd (by decide) z))
      exact kk H locs ls S (lv_sub hl [0, 1, 2, 3, 4] rfl)
    | succ q ih =>
      intro j hj s8 e8 H locs ls S hl
      refine lv_iload hx hb dX0_takeOff_11 (lv_at hl 4 rfl) ?_
      refine lv_bipush (v := 6) hx hb dX0_takeOff_13 (by decide) ?_
      refine lv_icmp_ge (tgt := 65) hx hb dX0_takeOff_15 (by decide) (fun z => False.elim (nI_ge (a := j) (b := 6) (by omega) (by omega) z)) (fun _ => ?_)
      refine lv_aload_n hx hb dX0_takeOff_18 rfl (lv_at hl 0 rfl) ?_
      refine r_getr (q := 4 + 8 * i + 4) X S hw0 (ob_A i hi) 0 ⟨rfl, by decide, rfl⟩ rfl (hts (.fieldLink RX0 9 "TermBill$Aid" "ranks" "[I") (by decide +kernel)) dX0_takeOff_19 ?_
      refine lv_iload hx hb dX0_takeOff_22 (lv_at hl 4 rfl) ?_
      refine r_ialN X S (ar_R i hi) (q := j) rfl (by omega) (by decide) dX0_takeOff_24 ?_
      refine lv_iload_n hx hb dX0_takeOff_25 rfl (lv_at hl 3 rfl) ?_
      refine lv_icmp_ne (tgt := 59) hx hb dX0_takeOff_26 (by decide) (fun c_1 => ?_) (fun c_1 => ?_)
      · refine lv_iinc (v := nI (j + 1)) (lv' := [(4, .int (nI (j + 1))), (0, .ref (ad (4 + 8 * i + 3))), (1, .int sm), (2, .int s8.2), (3, .int c9)]) hx hb dX0_takeOff_59 hl (k := 4) rfl (nI_add _ _) (by decide) rfl (fun ls hl => ?_)
        refine lv_goto (tgt := 11) hx hb dX0_takeOff_62 (by decide) ?_
        exact ih (j + 1) (by omega) s8 (by rw [show toR i c9 (j + 1) s9 = toT i c9 j (toR i c9 j s9) from rfl, ← e8]; simp only [toT, toU, c_1, ↓reduceIte]) H locs ls S (lv_sub hl [1, 2, 3, 4, 0] rfl)
      · refine lv_aload_n hx hb dX0_takeOff_29 rfl (lv_at hl 0 rfl) ?_
        refine r_getr (q := 4 + 8 * i + 5) X S hw0 (ob_A i hi) 1 ⟨rfl, by decide, rfl⟩ rfl (hts (.fieldLink RX0 15 "TermBill$Aid" "amounts" "[I") (by decide +kernel)) dX0_takeOff_30 ?_
        refine lv_iload hx hb dX0_takeOff_33 (lv_at hl 4 rfl) ?_
        refine r_ialN X S (ar_M i hi) (q := j) rfl (by omega) (by decide) dX0_takeOff_35 ?_
        refine lv_iload_n hx hb dX0_takeOff_36 rfl (lv_at hl 2 rfl) ?_
        refine r_min X hl.1 (hts (.methodLink RX0 25 Lib.Math.min.name) (by decide +kernel)) (hts (.static Lib.Math.min.name) (by decide +kernel)) (hts (.initialized "java/lang/Math") (by decide +kernel)) (hts (.code Lib.Math.min.name Lib.Math.min.code 2 (some .int)) (by decide +kernel)) (Nat.le_of_ble_eq_true rfl) (Nat.le_of_ble_eq_true rfl) (Nat.zero_le _) (Nat.zero_le _) dX0_takeOff_37 ?_
        refine lv_istore (lv' := [(5, .int (mn (s8.1 (4 + 8 * i + 5) j) s8.2)), (0, .ref (ad (4 + 8 * i + 3))), (1, .int sm), (2, .int s8.2), (3, .int c9), (4, .int (nI j))]) hx hb dX0_takeOff_40 hl (by decide) rfl (fun ls hl => ?_)
        refine lv_aload_n hx hb dX0_takeOff_42 rfl (lv_at hl 1 rfl) ?_
        refine r_getr (q := 4 + 8 * i + 5) X S hw0 (ob_A i hi) 1 ⟨rfl, by decide, rfl⟩ rfl (hts (.fieldLink RX0 15 "TermBill$Aid" "amounts" "[I") (by decide +kernel)) dX0_takeOff_43 ?_
        refine lv_iload hx hb dX0_takeOff_46 (lv_at hl 5 rfl) ?_
        refine lv_dup2_11 hx hb dX0_takeOff_48 rfl rfl ?_
        refine r_ialN X S (ar_M i hi) (q := j) rfl (by omega) (by decide) dX0_takeOff_49 ?_
        refine lv_iload hx hb dX0_takeOff_50 (lv_at hl 0 rfl) ?_
        refine lv_isub hx hb dX0_takeOff_52 ?_
        refine r_iasN X S (ar_M i hi) (q := j) rfl (by omega) (by decide) dX0_takeOff_53 (fun H locs S => ?_)
        obtain ⟨F_2, eF_2⟩ : ∃ z, z = u2 s8.1 (4 + 8 * i + 5) j ((s8.1 (4 + 8 * i + 5) j) - (mn (s8.1 (4 + 8 * i + 5) j) s8.2)) := ⟨_, rfl⟩
        rw [← eF_2] at S
        refine lv_iload_n hx hb dX0_takeOff_54 rfl (lv_at hl 3 rfl) ?_
        refine lv_iload hx hb dX0_takeOff_55 (lv_at hl 0 rfl) ?_
        refine lv_isub hx hb dX0_takeOff_57 ?_
        refine lv_istore_n (lv' := [(2, .int (s8.2 - (mn (s8.1 (4 + 8 * i + 5) j) s8.2))), (5, .int (mn (s8.1 (4 + 8 * i + 5) j) s8.2)), (0, .ref (ad (4 + 8 * i + 3))), (1, .int sm), (3, .int c9), (4, .int (nI j))]) hx hb dX0_takeOff_58 rfl hl (by decide) rfl (fun ls hl => ?_)
        refine lv_iinc (v := nI (j + 1)) (lv' := [(4, .int (nI (j + 1))), (2, .int (s8.2 - (mn (s8.1 (4 + 8 * i + 5) j) s8.2))), (5, .int (mn (s8.1 (4 + 8 * i + 5) j) s8.2)), (0, .ref (ad (4 + 8 * i + 3))), (1, .int sm), (3, .int c9)]) hx hb dX0_takeOff_59 hl (k := 5) rfl (nI_add _ _) (by decide) rfl (fun ls hl => ?_)
        refine lv_goto (tgt := 11) hx hb dX0_takeOff_62 (by decide) ?_
        exact ih (j + 1) (by omega) (F_2, s8.2 - (mn (s8.1 (4 + 8 * i + 5) j) s8.2)) (by rw [show toR i c9 (j + 1) s9 = toT i c9 j (toR i c9 j s9) from rfl, ← e8]; rw [eF_2]; simp only [toT, toU, c_1, ↓reduceIte]) H locs ls S (lv_sub hl [3, 4, 1, 5, 0] rfl)
  refine lv_iload_n hx hb dX0_takeOff_0 rfl (lv_at hl 1 rfl) ?_
  refine lv_istore_n (lv' := [(2, .int sm), (0, .ref (ad (4 + 8 * i + 3))), (1, .int sm)]) hx hb dX0_takeOff_1 rfl hl (by decide) rfl (fun ls hl => ?_)
  refine lv_iconst (v := 2) hx hb dX0_takeOff_2 (by decide) ?_
  refine lv_istore_n (lv' := [(3, .int 2), (2, .int sm), (0, .ref (ad (4 + 8 * i + 3))), (1, .int sm)]) hx hb dX0_takeOff_3 rfl hl (by decide) rfl (fun ls hl => ?_)
  refine lv_iload_n hx hb dX0_takeOff_4 rfl (lv_at hl 0 rfl) ?_
  refine lv_if_lt (tgt := 71) hx hb dX0_takeOff_5 (by decide) (fun z => False.elim (by first | exact absurd z (by decide) | exact absurd (by decide) z)) (fun _ => ?_)
  refine lv_iconst (v := 0) hx hb dX0_takeOff_8 (by decide) ?_
  refine lv_istore (lv' := [(4, .int 0), (3, .int 2), (2, .int sm), (0, .ref (ad (4 + 8 * i + 3))), (1, .int sm)]) hx hb dX0_takeOff_9 hl (by decide) rfl (fun ls hl => ?_)
  refine inner 2 (F, sm) (fun H locs ls S hl => ?_) 6 0 (by omega) (F, sm) rfl _ _ ls S (lv_sub hl [3, 4, 2, 1, 0] rfl)
  obtain ⟨t1, et1⟩ : ∃ z, z = toR i 2 6 (F, sm) := ⟨_, rfl⟩
  rw [← et1] at S hl
  refine lv_iinc (v := 1) (lv' := [(3, .int 1), (0, .ref (ad (4 + 8 * i + 3))), (1, .int sm), (2, .int t1.2), (4, .int (nI 6))]) hx hb dX0_takeOff_65 hl (k := 3) rfl (by decide) (by decide) rfl (fun ls hl => ?_)
  refine lv_goto (tgt := 4) hx hb dX0_takeOff_68 (by decide) ?_
  refine lv_iload_n hx hb dX0_takeOff_4 rfl (lv_at hl 0 rfl) ?_
  refine lv_if_lt (tgt := 71) hx hb dX0_takeOff_5 (by decide) (fun z => False.elim (by first | exact absurd z (by decide) | exact absurd (by decide) z)) (fun _ => ?_)
  refine lv_iconst (v := 0) hx hb dX0_takeOff_8 (by decide) ?_
  refine lv_istore (lv' := [(4, .int 0), (3, .int 1), (0, .ref (ad (4 + 8 * i + 3))), (1, .int sm), (2, .int t1.2)]) hx hb dX0_takeOff_9 hl (by decide) rfl (fun ls hl => ?_)
  refine inner 1 t1 (fun H locs ls S hl => ?_) 6 0 (by omega) t1 rfl _ _ ls S (lv_sub hl [2, 3, 4, 1, 0] rfl)
  obtain ⟨t2, et2⟩ : ∃ z, z = toR i 1 6 t1 := ⟨_, rfl⟩
  rw [← et2] at S hl
  refine lv_iinc (v := 0) (lv' := [(3, .int 0), (0, .ref (ad (4 + 8 * i + 3))), (1, .int sm), (2, .int t2.2), (4, .int (nI 6))]) hx hb dX0_takeOff_65 hl (k := 3) rfl (by decide) (by decide) rfl (fun ls hl => ?_)
  refine lv_goto (tgt := 4) hx hb dX0_takeOff_68 (by decide) ?_
  refine lv_iload_n hx hb dX0_takeOff_4 rfl (lv_at hl 0 rfl) ?_
  refine lv_if_lt (tgt := 71) hx hb dX0_takeOff_5 (by decide) (fun z => False.elim (by first | exact absurd z (by decide) | exact absurd (by decide) z)) (fun _ => ?_)
  refine lv_iconst (v := 0) hx hb dX0_takeOff_8 (by decide) ?_
  refine lv_istore (lv' := [(4, .int 0), (3, .int 0), (0, .ref (ad (4 + 8 * i + 3))), (1, .int sm), (2, .int t2.2)]) hx hb dX0_takeOff_9 hl (by decide) rfl (fun ls hl => ?_)
  refine inner 0 t2 (fun H locs ls S hl => ?_) 6 0 (by omega) t2 rfl _ _ ls S (lv_sub hl [2, 3, 4, 1, 0] rfl)
  obtain ⟨t3, et3⟩ : ∃ z, z = toR i 0 6 t2 := ⟨_, rfl⟩
  rw [← et3] at S hl
  refine lv_iinc (v := (-1)) (lv' := [(3, .int (-1)), (0, .ref (ad (4 + 8 * i + 3))), (1, .int sm), (2, .int t3.2), (4, .int (nI 6))]) hx hb dX0_takeOff_65 hl (k := 3) rfl (by decide) (by decide) rfl (fun ls hl => ?_)
  refine lv_goto (tgt := 4) hx hb dX0_takeOff_68 (by decide) ?_
  refine lv_iload_n hx hb dX0_takeOff_4 rfl (lv_at hl 0 rfl) ?_
  refine lv_if_lt (tgt := 71) hx hb dX0_takeOff_5 (by decide) (fun _ => ?_) (fun z => False.elim (by first | exact absurd z (by decide) | exact absurd (by decide) z))
  exact r_vret X S hr dX0_takeOff_71 (Nat.le_of_ble_eq_true rfl) (Nat.le_of_ble_eq_true rfl) (by rw [et3, et2, et1]; unfold toA; rfl)

set_option maxHeartbeats 1000000 in
set_option maxRecDepth 100000 in
theorem c_X3_beginTerm (l : Launch) (D : va_G) (cA : Nat → ClassId) (ad : Nat → Nat) (sz : Nat) (F : FF) (i : Nat) (hi : i < 4) (b : Int32) : CI l D cA ad sz yX3_beginTerm wsX3_beginTerm 2 43 0 0 [.ref (ad (4 + 8 * i)), .int b] F none (bgT F i b) := by
  refine CI_of (own := RX3) (cc := cX3_beginTerm) (maxL := 2) (ret := none) (by decide +kernel) rfl rfl (Nat.le_of_ble_eq_true rfl) ?_
  intro p e s m below meth c ls X S hr hl
  obtain ⟨⟨hx, hb, hml, hown, hts⟩, hE, hI, hlocks⟩ := id X
  have hl : lv_has ls 2 [(0, .ref (ad (4 + 8 * i))), (1, .int b)] := hl
  have hw3 : ∀ w ∈ wsX30, w.before _ s = true := fun w h => hts w ((by decide +kernel : ∀ w ∈ wsX30, w ∈ wsX3_beginTerm) w h)
  refine lv_aload_n hx hb dX3_beginTerm_0 rfl (lv_at hl 0 rfl) ?_
  refine r_getr (q := 4 + 8 * i + 1) X S hw3 (ob_S i hi) 0 ⟨rfl, by decide, rfl⟩ rfl (hts (.fieldLink RX3 10 "TermBill$Student" "courses" "LTermBill$Courses;") (by decide +kernel)) dX3_beginTerm_1 ?_
  refine r_V0 X S (c_X1_clear l D cA ad _ F i hi) (ob_C i hi) rfl (cwV 0 hts gX3_beginTerm_X1_clear rfl rfl rfl (by decide +kernel) ⟨Nat.le_of_ble_eq_true rfl, Nat.le_of_ble_eq_true rfl⟩) rfl hl.1 rfl (Nat.le_of_ble_eq_true rfl) dX3_beginTerm_4 ⟨Nat.zero_le _, Nat.zero_le _⟩ (fun H locs S => ?_)
  obtain ⟨F_1, eF_1⟩ : ∃ z, z = u2 (u2 (uF F (4 + 8 * i + 2) 8 0) (4 + 8 * i + 1) 1 0) (4 + 8 * i + 1) 2 0 := ⟨_, rfl⟩
  rw [← eF_1] at S
  refine lv_aload_n hx hb dX3_beginTerm_7 rfl (lv_at hl 0 rfl) ?_
  refine r_getr (q := 4 + 8 * i + 3) X S hw3 (ob_S i hi) 1 ⟨rfl, by decide, rfl⟩ rfl (hts (.fieldLink RX3 19 "TermBill$Student" "aid" "LTermBill$Aid;") (by decide +kernel)) dX3_beginTerm_8 ?_
  refine r_V0 X S (c_X0_clear l D cA ad _ F_1 i hi) (ob_A i hi) rfl (cwV 0 hts gX3_beginTerm_X0_clear rfl rfl rfl (by decide +kernel) ⟨Nat.le_of_ble_eq_true rfl, Nat.le_of_ble_eq_true rfl⟩) rfl hl.1 rfl (Nat.le_of_ble_eq_true rfl) dX3_beginTerm_11 ⟨Nat.zero_le _, Nat.zero_le _⟩ (fun H locs S => ?_)
  obtain ⟨F_2, eF_2⟩ : ∃ z, z = u2 (uF F_1 (4 + 8 * i + 5) 6 0) (4 + 8 * i + 3) 3 0 := ⟨_, rfl⟩
  rw [← eF_2] at S
  refine lv_aload_n hx hb dX3_beginTerm_14 rfl (lv_at hl 0 rfl) ?_
  refine lv_iconst (v := 0) hx hb dX3_beginTerm_15 (by decide) ?_
  refine r_puti X S hw3 (ob_S i hi) 8 ⟨rfl, by decide, rfl⟩ rfl (hts (.fieldLink RX3 47 "TermBill$Student" "sponsorKinds" "I") (by decide +kernel)) tyX3 tyX3_ok nmX3 rfl rfl dX3_beginTerm_16 (fun H locs S => ?_)
  obtain ⟨F_3, eF_3⟩ : ∃ z, z = u2 F_2 (4 + 8 * i) 8 0 := ⟨_, rfl⟩
  rw [← eF_3] at S
  refine lv_aload_n hx hb dX3_beginTerm_19 rfl (lv_at hl 0 rfl) ?_
  refine lv_iconst (v := 0) hx hb dX3_beginTerm_20 (by decide) ?_
  refine r_puti X S hw3 (ob_S i hi) 9 ⟨rfl, by decide, rfl⟩ rfl (hts (.fieldLink RX3 50 "TermBill$Student" "sponsorLimit" "I") (by decide +kernel)) tyX3 tyX3_ok nmX3 rfl rfl dX3_beginTerm_21 (fun H locs S => ?_)
  obtain ⟨F_4, eF_4⟩ : ∃ z, z = u2 F_3 (4 + 8 * i) 9 0 := ⟨_, rfl⟩
  rw [← eF_4] at S
  refine lv_aload_n hx hb dX3_beginTerm_24 rfl (lv_at hl 0 rfl) ?_
  refine lv_iconst (v := 0) hx hb dX3_beginTerm_25 (by decide) ?_
  refine r_puti X S hw3 (ob_S i hi) 7 ⟨rfl, by decide, rfl⟩ rfl (hts (.fieldLink RX3 44 "TermBill$Student" "housing" "I") (by decide +kernel)) tyX3 tyX3_ok nmX3 rfl rfl dX3_beginTerm_26 (fun H locs S => ?_)
  obtain ⟨F_5, eF_5⟩ : ∃ z, z = u2 F_4 (4 + 8 * i) 7 0 := ⟨_, rfl⟩
  rw [← eF_5] at S
  refine lv_aload_n hx hb dX3_beginTerm_29 rfl (lv_at hl 0 rfl) ?_
  refine lv_iload_n hx hb dX3_beginTerm_30 rfl (lv_at hl 1 rfl) ?_
  refine lv_iconst (v := 0) hx hb dX3_beginTerm_31 (by decide) ?_
  refine r_max X hl.1 (hts (.methodLink RX3 60 Lib.Math.max.name) (by decide +kernel)) (hts (.static Lib.Math.max.name) (by decide +kernel)) (hts (.initialized "java/lang/Math") (by decide +kernel)) (hts (.code Lib.Math.max.name Lib.Math.max.code 2 (some .int)) (by decide +kernel)) (Nat.le_of_ble_eq_true rfl) (Nat.le_of_ble_eq_true rfl) (Nat.zero_le _) (Nat.zero_le _) dX3_beginTerm_32 ?_
  refine r_puti X S hw3 (ob_S i hi) 6 ⟨rfl, by decide, rfl⟩ rfl (hts (.fieldLink RX3 41 "TermBill$Student" "fees" "I") (by decide +kernel)) tyX3 tyX3_ok nmX3 rfl rfl dX3_beginTerm_35 (fun H locs S => ?_)
  obtain ⟨F_6, eF_6⟩ : ∃ z, z = u2 F_5 (4 + 8 * i) 6 (mx b 0) := ⟨_, rfl⟩
  rw [← eF_6] at S
  refine lv_aload_n hx hb dX3_beginTerm_38 rfl (lv_at hl 0 rfl) ?_
  refine lv_iload_n hx hb dX3_beginTerm_39 rfl (lv_at hl 1 rfl) ?_
  refine lv_ineg hx hb dX3_beginTerm_40 ?_
  refine lv_iconst (v := 0) hx hb dX3_beginTerm_41 (by decide) ?_
  refine r_max X hl.1 (hts (.methodLink RX3 60 Lib.Math.max.name) (by decide +kernel)) (hts (.static Lib.Math.max.name) (by decide +kernel)) (hts (.initialized "java/lang/Math") (by decide +kernel)) (hts (.code Lib.Math.max.name Lib.Math.max.code 2 (some .int)) (by decide +kernel)) (Nat.le_of_ble_eq_true rfl) (Nat.le_of_ble_eq_true rfl) (Nat.zero_le _) (Nat.zero_le _) dX3_beginTerm_42 ?_
  refine r_puti X S hw3 (ob_S i hi) 10 ⟨rfl, by decide, rfl⟩ rfl (hts (.fieldLink RX3 53 "TermBill$Student" "paidSum" "I") (by decide +kernel)) tyX3 tyX3_ok nmX3 rfl rfl dX3_beginTerm_45 (fun H locs S => ?_)
  obtain ⟨F_7, eF_7⟩ : ∃ z, z = u2 F_6 (4 + 8 * i) 10 (mx (-b) 0) := ⟨_, rfl⟩
  rw [← eF_7] at S
  exact r_vret X S hr dX3_beginTerm_48 (Nat.le_of_ble_eq_true rfl) (Nat.le_of_ble_eq_true rfl) (by unfold bgT; simp only [eF_7, eF_6, eF_5, eF_4, eF_3, eF_2, eF_1])

set_option maxHeartbeats 1000000 in
set_option maxRecDepth 100000 in
theorem c_X4_chargesOf (l : Launch) (D : va_G) (cA : Nat → ClassId) (ad : Nat → Nat) (sz : Nat) (F : FF) (i : Nat) (hi : i < 4) (ks : Int32) : CI l D cA ad sz yX4_chargesOf wsX4_chargesOf 1 22 0 0 [.ref (ad 0), .ref (ad (4 + 8 * i)), .int ks] F (some (.int (chC F i ks))) F := by
  refine CI_of (own := RX4) (cc := cX4_chargesOf) (maxL := 5) (ret := (some .int)) (by decide +kernel) rfl rfl (Nat.le_of_ble_eq_true rfl) ?_
  intro p e s m below meth c ls X S hr hl
  obtain ⟨⟨hx, hb, hml, hown, hts⟩, hE, hI, hlocks⟩ := id X
  have hl : lv_has ls 5 [(0, .ref (ad 0)), (1, .ref (ad (4 + 8 * i))), (2, .int ks)] := hl
  have hw1 : ∀ w ∈ wsX10, w.before _ s = true := fun w h => hts w ((by decide +kernel : ∀ w ∈ wsX10, w ∈ wsX4_chargesOf) w h)
  have hw3 : ∀ w ∈ wsX30, w.before _ s = true := fun w h => hts w ((by decide +kernel : ∀ w ∈ wsX30, w ∈ wsX4_chargesOf) w h)
  refine lv_iconst (v := 0) hx hb dX4_chargesOf_0 (by decide) ?_
  refine lv_istore_n (lv' := [(3, .int 0), (0, .ref (ad 0)), (1, .ref (ad (4 + 8 * i))), (2, .int ks)]) hx hb dX4_chargesOf_1 rfl hl (by decide) rfl (fun ls hl => ?_)
  refine lv_iload_n hx hb dX4_chargesOf_2 rfl (lv_at hl 3 rfl) ?_
  refine lv_iconst (v := 1) hx hb dX4_chargesOf_3 (by decide) ?_
  refine lv_iand hx hb dX4_chargesOf_4 ?_
  refine lv_if_eq (tgt := 49) hx hb dX4_chargesOf_5 (by decide) (fun c_1 => ?_) (fun c_1 => ?_)
  · refine lv_iload_n hx hb dX4_chargesOf_49 rfl (lv_at hl 3 rfl) ?_
    refine lv_iconst (v := 2) hx hb dX4_chargesOf_50 (by decide) ?_
    refine lv_iand hx hb dX4_chargesOf_51 ?_
    refine lv_if_eq (tgt := 62) hx hb dX4_chargesOf_52 (by decide) (fun c_2 => ?_) (fun c_2 => ?_)
    · refine lv_iload_n hx hb dX4_chargesOf_62 rfl (lv_at hl 3 rfl) ?_
      refine lv_iconst (v := 4) hx hb dX4_chargesOf_63 (by decide) ?_
      refine lv_iand hx hb dX4_chargesOf_64 ?_
      refine lv_if_eq (tgt := 75) hx hb dX4_chargesOf_65 (by decide) (fun c_3 => ?_) (fun c_3 => ?_)
      · refine lv_iload_n hx hb dX4_chargesOf_75 rfl (lv_at hl 0 rfl) ?_
        exact r_iret X S hr dX4_chargesOf_76 (Nat.le_of_ble_eq_true rfl) (Nat.le_of_ble_eq_true rfl) (by simp only [chC, ch3, ch2, ch1, tuC, rtC, c_1, c_2, c_3, ↓reduceIte]) rfl
      · refine lv_iload_n hx hb dX4_chargesOf_68 rfl (lv_at hl 0 rfl) ?_
        refine lv_aload_n hx hb dX4_chargesOf_69 rfl (lv_at hl 2 rfl) ?_
        refine r_geti X S hw3 (ob_S i hi) 7 ⟨rfl, by decide, rfl⟩ rfl (hts (.fieldLink RX4 135 "TermBill$Student" "housing" "I") (by decide +kernel)) dX4_chargesOf_70 ?_
        refine lv_iadd hx hb dX4_chargesOf_73 ?_
        refine lv_istore_n (lv' := [(3, .int (0 + (F (4 + 8 * i) 7))), (0, .ref (ad 0)), (1, .ref (ad (4 + 8 * i))), (2, .int ks)]) hx hb dX4_chargesOf_74 rfl hl (by decide) rfl (fun ls hl => ?_)
        refine lv_iload_n hx hb dX4_chargesOf_75 rfl (lv_at hl 0 rfl) ?_
        exact r_iret X S hr dX4_chargesOf_76 (Nat.le_of_ble_eq_true rfl) (Nat.le_of_ble_eq_true rfl) (by simp only [chC, ch3, ch2, ch1, tuC, rtC, c_1, c_2, c_3, ↓reduceIte]) rfl
    · refine lv_iload_n hx hb dX4_chargesOf_55 rfl (lv_at hl 0 rfl) ?_
      refine lv_aload_n hx hb dX4_chargesOf_56 rfl (lv_at hl 2 rfl) ?_
      refine r_geti X S hw3 (ob_S i hi) 6 ⟨rfl, by decide, rfl⟩ rfl (hts (.fieldLink RX4 132 "TermBill$Student" "fees" "I") (by decide +kernel)) dX4_chargesOf_57 ?_
      refine lv_iadd hx hb dX4_chargesOf_60 ?_
      refine lv_istore_n (lv' := [(3, .int (0 + (F (4 + 8 * i) 6))), (0, .ref (ad 0)), (1, .ref (ad (4 + 8 * i))), (2, .int ks)]) hx hb dX4_chargesOf_61 rfl hl (by decide) rfl (fun ls hl => ?_)
      refine lv_iload_n hx hb dX4_chargesOf_62 rfl (lv_at hl 3 rfl) ?_
      refine lv_iconst (v := 4) hx hb dX4_chargesOf_63 (by decide) ?_
      refine lv_iand hx hb dX4_chargesOf_64 ?_
      refine lv_if_eq (tgt := 75) hx hb dX4_chargesOf_65 (by decide) (fun c_4 => ?_) (fun c_4 => ?_)
      · refine lv_iload_n hx hb dX4_chargesOf_75 rfl (lv_at hl 0 rfl) ?_
        exact r_iret X S hr dX4_chargesOf_76 (Nat.le_of_ble_eq_true rfl) (Nat.le_of_ble_eq_true rfl) (by simp only [chC, ch3, ch2, ch1, tuC, rtC, c_1, c_2, c_4, ↓reduceIte]) rfl
      · refine lv_iload_n hx hb dX4_chargesOf_68 rfl (lv_at hl 0 rfl) ?_
        refine lv_aload_n hx hb dX4_chargesOf_69 rfl (lv_at hl 2 rfl) ?_
        refine r_geti X S hw3 (ob_S i hi) 7 ⟨rfl, by decide, rfl⟩ rfl (hts (.fieldLink RX4 135 "TermBill$Student" "housing" "I") (by decide +kernel)) dX4_chargesOf_70 ?_
        refine lv_iadd hx hb dX4_chargesOf_73 ?_
        refine lv_istore_n (lv' := [(3, .int ((0 + (F (4 + 8 * i) 6)) + (F (4 + 8 * i) 7))), (0, .ref (ad 0)), (1, .ref (ad (4 + 8 * i))), (2, .int ks)]) hx hb dX4_chargesOf_74 rfl hl (by decide) rfl (fun ls hl => ?_)
        refine lv_iload_n hx hb dX4_chargesOf_75 rfl (lv_at hl 0 rfl) ?_
        exact r_iret X S hr dX4_chargesOf_76 (Nat.le_of_ble_eq_true rfl) (Nat.le_of_ble_eq_true rfl) (by simp only [chC, ch3, ch2, ch1, tuC, rtC, c_1, c_2, c_4, ↓reduceIte]) rfl
  · refine lv_aload_n hx hb dX4_chargesOf_8 rfl (lv_at hl 1 rfl) ?_
    refine lv_aload_n hx hb dX4_chargesOf_9 rfl (lv_at hl 2 rfl) ?_
    refine r_geti X S hw3 (ob_S i hi) 3 ⟨rfl, by decide, rfl⟩ rfl (hts (.fieldLink RX4 77 "TermBill$Student" "level" "I") (by decide +kernel)) dX4_chargesOf_10 ?_
    refine lv_aload_n hx hb dX4_chargesOf_13 rfl (lv_at hl 2 rfl) ?_
    refine r_geti X S hw3 (ob_S i hi) 4 ⟨rfl, by decide, rfl⟩ rfl (hts (.fieldLink RX4 80 "TermBill$Student" "isResident" "Z") (by decide +kernel)) dX4_chargesOf_14 ?_
    refine r_S0 X S (c_X4_placeOfRate l D cA ad _ F (F (4 + 8 * i) 3) (F (4 + 8 * i) 4)) (va_cwS 2 hts gX4_chargesOf_X4_placeOfRate rfl rfl rfl (by decide +kernel) ⟨Nat.le_of_ble_eq_true rfl, Nat.le_of_ble_eq_true rfl⟩) rfl hl.1 rfl (Nat.le_of_ble_eq_true rfl) dX4_chargesOf_17 ⟨Nat.zero_le _, Nat.zero_le _⟩ (fun H locs S => ?_)
    refine r_V0 X S (c_X4_rateAt l D cA ad _ F (poR (F (4 + 8 * i) 3) (F (4 + 8 * i) 4))) ob_0 rfl (cwV 1 hts gX4_chargesOf_X4_rateAt rfl rfl rfl (by decide +kernel) ⟨Nat.le_of_ble_eq_true rfl, Nat.le_of_ble_eq_true rfl⟩) rfl hl.1 rfl (Nat.le_of_ble_eq_true rfl) dX4_chargesOf_20 ⟨Nat.zero_le _, Nat.zero_le _⟩ (fun H locs S => ?_)
    refine lv_istore (lv' := [(4, .int (raA F (poR (F (4 + 8 * i) 3) (F (4 + 8 * i) 4)))), (3, .int 0), (0, .ref (ad 0)), (1, .ref (ad (4 + 8 * i))), (2, .int ks)]) hx hb dX4_chargesOf_23 hl (by decide) rfl (fun ls hl => ?_)
    refine lv_iload_n hx hb dX4_chargesOf_25 rfl (lv_at hl 1 rfl) ?_
    refine lv_aload_n hx hb dX4_chargesOf_26 rfl (lv_at hl 2 rfl) ?_
    refine lv_aload_n hx hb dX4_chargesOf_27 rfl (lv_at hl 3 rfl) ?_
    refine r_getr (q := 4 + 8 * i + 1) X S hw3 (ob_S i hi) 0 ⟨rfl, by decide, rfl⟩ rfl (hts (.fieldLink RX4 97 "TermBill$Student" "courses" "LTermBill$Courses;") (by decide +kernel)) dX4_chargesOf_28 ?_
    refine r_V0 X S (c_X1_total l D cA ad _ F i hi) (ob_C i hi) rfl (cwV 0 hts gX4_chargesOf_X1_total rfl rfl rfl (by decide +kernel) ⟨Nat.le_of_ble_eq_true rfl, Nat.le_of_ble_eq_true rfl⟩) rfl hl.1 rfl (Nat.le_of_ble_eq_true rfl) dX4_chargesOf_31 ⟨Nat.zero_le _, Nat.zero_le _⟩ (fun H locs S => ?_)
    refine lv_iload hx hb dX4_chargesOf_34 (lv_at hl 0 rfl) ?_
    refine r_V0 X S (c_X4_priceOf l D cA ad _ F (tot8 (F (4 + 8 * i + 2))) (raA F (poR (F (4 + 8 * i) 3) (F (4 + 8 * i) 4)))) ob_0 rfl (cwV 2 hts gX4_chargesOf_X4_priceOf rfl rfl rfl (by decide +kernel) ⟨Nat.le_of_ble_eq_true rfl, Nat.le_of_ble_eq_true rfl⟩) rfl hl.1 rfl (Nat.le_of_ble_eq_true rfl) dX4_chargesOf_36 ⟨Nat.zero_le _, Nat.zero_le _⟩ (fun H locs S => ?_)
    refine lv_aload_n hx hb dX4_chargesOf_39 rfl (lv_at hl 3 rfl) ?_
    refine r_getr (q := 4 + 8 * i + 1) X S hw3 (ob_S i hi) 0 ⟨rfl, by decide, rfl⟩ rfl (hts (.fieldLink RX4 97 "TermBill$Student" "courses" "LTermBill$Courses;") (by decide +kernel)) dX4_chargesOf_40 ?_
    refine r_geti X S hw1 (ob_C i hi) 2 ⟨rfl, by decide, rfl⟩ rfl (hts (.fieldLink RX4 237 "TermBill$Courses" "keptSum" "I") (by decide +kernel)) dX4_chargesOf_43 ?_
    refine lv_iadd hx hb dX4_chargesOf_46 ?_
    refine lv_iadd hx hb dX4_chargesOf_47 ?_
    refine lv_istore_n (lv' := [(3, .int (0 + ((pcl (F 0 3) (F 0 4) (tot8 (F (4 + 8 * i + 2))) (raA F (poR (F (4 + 8 * i) 3) (F (4 + 8 * i) 4)))) + (F (4 + 8 * i + 1) 2)))), (4, .int (raA F (poR (F (4 + 8 * i) 3) (F (4 + 8 * i) 4)))), (0, .ref (ad 0)), (1, .ref (ad (4 + 8 * i))), (2, .int ks)]) hx hb dX4_chargesOf_48 rfl hl (by decide) rfl (fun ls hl => ?_)
    refine lv_iload_n hx hb dX4_chargesOf_49 rfl (lv_at hl 4 rfl) ?_
    refine lv_iconst (v := 2) hx hb dX4_chargesOf_50 (by decide) ?_
    refine lv_iand hx hb dX4_chargesOf_51 ?_
    refine lv_if_eq (tgt := 62) hx hb dX4_chargesOf_52 (by decide) (fun c_5 => ?_) (fun c_5 => ?_)
    · refine lv_iload_n hx hb dX4_chargesOf_62 rfl (lv_at hl 4 rfl) ?_
      refine lv_iconst (v := 4) hx hb dX4_chargesOf_63 (by decide) ?_
      refine lv_iand hx hb dX4_chargesOf_64 ?_
      refine lv_if_eq (tgt := 75) hx hb dX4_chargesOf_65 (by decide) (fun c_6 => ?_) (fun c_6 => ?_)
      · refine lv_iload_n hx hb dX4_chargesOf_75 rfl (lv_at hl 0 rfl) ?_
        exact r_iret X S hr dX4_chargesOf_76 (Nat.le_of_ble_eq_true rfl) (Nat.le_of_ble_eq_true rfl) (by simp only [chC, ch3, ch2, ch1, tuC, rtC, c_1, c_5, c_6, ↓reduceIte]) rfl
      · refine lv_iload_n hx hb dX4_chargesOf_68 rfl (lv_at hl 0 rfl) ?_
        refine lv_aload_n hx hb dX4_chargesOf_69 rfl (lv_at hl 3 rfl) ?_
        refine r_geti X S hw3 (ob_S i hi) 7 ⟨rfl, by decide, rfl⟩ rfl (hts (.fieldLink RX4 135 "TermBill$Student" "housing" "I") (by decide +kernel)) dX4_chargesOf_70 ?_
        refine lv_iadd hx hb dX4_chargesOf_73 ?_
        refine lv_istore_n (lv' := [(3, .int ((0 + ((pcl (F 0 3) (F 0 4) (tot8 (F (4 + 8 * i + 2))) (raA F (poR (F (4 + 8 * i) 3) (F (4 + 8 * i) 4)))) + (F (4 + 8 * i + 1) 2))) + (F (4 + 8 * i) 7))), (4, .int (raA F (poR (F (4 + 8 * i) 3) (F (4 + 8 * i) 4)))), (0, .ref (ad 0)), (1, .ref (ad (4 + 8 * i))), (2, .int ks)]) hx hb dX4_chargesOf_74 rfl hl (by decide) rfl (fun ls hl => ?_)
        refine lv_iload_n hx hb dX4_chargesOf_75 rfl (lv_at hl 0 rfl) ?_
        exact r_iret X S hr dX4_chargesOf_76 (Nat.le_of_ble_eq_true rfl) (Nat.le_of_ble_eq_true rfl) (by simp only [chC, ch3, ch2, ch1, tuC, rtC, c_1, c_5, c_6, ↓reduceIte]) rfl
    · refine lv_iload_n hx hb dX4_chargesOf_55 rfl (lv_at hl 0 rfl) ?_
      refine lv_aload_n hx hb dX4_chargesOf_56 rfl (lv_at hl 3 rfl) ?_
      refine r_geti X S hw3 (ob_S i hi) 6 ⟨rfl, by decide, rfl⟩ rfl (hts (.fieldLink RX4 132 "TermBill$Student" "fees" "I") (by decide +kernel)) dX4_chargesOf_57 ?_
      refine lv_iadd hx hb dX4_chargesOf_60 ?_
      refine lv_istore_n (lv' := [(3, .int ((0 + ((pcl (F 0 3) (F 0 4) (tot8 (F (4 + 8 * i + 2))) (raA F (poR (F (4 + 8 * i) 3) (F (4 + 8 * i) 4)))) + (F (4 + 8 * i + 1) 2))) + (F (4 + 8 * i) 6))), (4, .int (raA F (poR (F (4 + 8 * i) 3) (F (4 + 8 * i) 4)))), (0, .ref (ad 0)), (1, .ref (ad (4 + 8 * i))), (2, .int ks)]) hx hb dX4_chargesOf_61 rfl hl (by decide) rfl (fun ls hl => ?_)
      refine lv_iload_n hx hb dX4_chargesOf_62 rfl (lv_at hl 4 rfl) ?_
      refine lv_iconst (v := 4) hx hb dX4_chargesOf_63 (by decide) ?_
      refine lv_iand hx hb dX4_chargesOf_64 ?_
      refine lv_if_eq (tgt := 75) hx hb dX4_chargesOf_65 (by decide) (fun c_7 => ?_) (fun c_7 => ?_)
      · refine lv_iload_n hx hb dX4_chargesOf_75 rfl (lv_at hl 0 rfl) ?_
        exact r_iret X S hr dX4_chargesOf_76 (Nat.le_of_ble_eq_true rfl) (Nat.le_of_ble_eq_true rfl) (by simp only [chC, ch3, ch2, ch1, tuC, rtC, c_1, c_5, c_7, ↓reduceIte]) rfl
      · refine lv_iload_n hx hb dX4_chargesOf_68 rfl (lv_at hl 0 rfl) ?_
        refine lv_aload_n hx hb dX4_chargesOf_69 rfl (lv_at hl 3 rfl) ?_
        refine r_geti X S hw3 (ob_S i hi) 7 ⟨rfl, by decide, rfl⟩ rfl (hts (.fieldLink RX4 135 "TermBill$Student" "housing" "I") (by decide +kernel)) dX4_chargesOf_70 ?_
        refine lv_iadd hx hb dX4_chargesOf_73 ?_
        refine lv_istore_n (lv' := [(3, .int (((0 + ((pcl (F 0 3) (F 0 4) (tot8 (F (4 + 8 * i + 2))) (raA F (poR (F (4 + 8 * i) 3) (F (4 + 8 * i) 4)))) + (F (4 + 8 * i + 1) 2))) + (F (4 + 8 * i) 6)) + (F (4 + 8 * i) 7))), (4, .int (raA F (poR (F (4 + 8 * i) 3) (F (4 + 8 * i) 4)))), (0, .ref (ad 0)), (1, .ref (ad (4 + 8 * i))), (2, .int ks)]) hx hb dX4_chargesOf_74 rfl hl (by decide) rfl (fun ls hl => ?_)
        refine lv_iload_n hx hb dX4_chargesOf_75 rfl (lv_at hl 0 rfl) ?_
        exact r_iret X S hr dX4_chargesOf_76 (Nat.le_of_ble_eq_true rfl) (Nat.le_of_ble_eq_true rfl) (by simp only [chC, ch3, ch2, ch1, tuC, rtC, c_1, c_5, c_7, ↓reduceIte]) rfl

set_option maxHeartbeats 1000000 in
set_option maxRecDepth 100000 in
theorem c_X4_sponsorPart (l : Launch) (D : va_G) (cA : Nat → ClassId) (ad : Nat → Nat) (sz : Nat) (F : FF) (i : Nat) (hi : i < 4) : CI l D cA ad sz yX4_sponsorPart wsX4_sponsorPart 2 46 0 0 [.ref (ad 0), .ref (ad (4 + 8 * i))] F (some (.int (spC F i))) F := by
  refine CI_of (own := RX4) (cc := cX4_sponsorPart) (maxL := 2) (ret := (some .int)) (by decide +kernel) rfl rfl (Nat.le_of_ble_eq_true rfl) ?_
  intro p e s m below meth c ls X S hr hl
  obtain ⟨⟨hx, hb, hml, hown, hts⟩, hE, hI, hlocks⟩ := id X
  have hl : lv_has ls 2 [(0, .ref (ad 0)), (1, .ref (ad (4 + 8 * i)))] := hl
  have hw3 : ∀ w ∈ wsX30, w.before _ s = true := fun w h => hts w ((by decide +kernel : ∀ w ∈ wsX30, w ∈ wsX4_sponsorPart) w h)
  refine lv_aload_n hx hb dX4_sponsorPart_0 rfl (lv_at hl 0 rfl) ?_
  refine lv_aload_n hx hb dX4_sponsorPart_1 rfl (lv_at hl 1 rfl) ?_
  refine lv_aload_n hx hb dX4_sponsorPart_2 rfl (lv_at hl 1 rfl) ?_
  refine r_geti X S hw3 (ob_S i hi) 8 ⟨rfl, by decide, rfl⟩ rfl (hts (.fieldLink RX4 89 "TermBill$Student" "sponsorKinds" "I") (by decide +kernel)) dX4_sponsorPart_3 ?_
  refine r_V0 X S (c_X4_chargesOf l D cA ad _ F i hi (F (4 + 8 * i) 8)) ob_0 rfl (cwV 2 hts gX4_sponsorPart_X4_chargesOf rfl rfl rfl (by decide +kernel) ⟨Nat.le_of_ble_eq_true rfl, Nat.le_of_ble_eq_true rfl⟩) rfl hl.1 rfl (Nat.le_of_ble_eq_true rfl) dX4_sponsorPart_6 ⟨Nat.zero_le _, Nat.zero_le _⟩ (fun H locs S => ?_)
  refine lv_aload_n hx hb dX4_sponsorPart_9 rfl (lv_at hl 1 rfl) ?_
  refine r_geti X S hw3 (ob_S i hi) 9 ⟨rfl, by decide, rfl⟩ rfl (hts (.fieldLink RX4 92 "TermBill$Student" "sponsorLimit" "I") (by decide +kernel)) dX4_sponsorPart_10 ?_
  refine r_min X hl.1 (hts (.methodLink RX4 240 Lib.Math.min.name) (by decide +kernel)) (hts (.static Lib.Math.min.name) (by decide +kernel)) (hts (.initialized "java/lang/Math") (by decide +kernel)) (hts (.code Lib.Math.min.name Lib.Math.min.code 2 (some .int)) (by decide +kernel)) (Nat.le_of_ble_eq_true rfl) (Nat.le_of_ble_eq_true rfl) (Nat.zero_le _) (Nat.zero_le _) dX4_sponsorPart_13 ?_
  exact r_iret X S hr dX4_sponsorPart_16 (Nat.le_of_ble_eq_true rfl) (Nat.le_of_ble_eq_true rfl) (by unfold spC; rfl) rfl

set_option maxHeartbeats 1000000 in
set_option maxRecDepth 100000 in
theorem c_X4_unsponsored (l : Launch) (D : va_G) (cA : Nat → ClassId) (ad : Nat → Nat) (sz : Nat) (F : FF) (i : Nat) (hi : i < 4) : CI l D cA ad sz yX4_unsponsored wsX4_unsponsored 3 67 0 0 [.ref (ad 0), .ref (ad (4 + 8 * i))] F (some (.int (unC F i))) F := by
  refine CI_of (own := RX4) (cc := cX4_unsponsored) (maxL := 2) (ret := (some .int)) (by decide +kernel) rfl rfl (Nat.le_of_ble_eq_true rfl) ?_
  intro p e s m below meth c ls X S hr hl
  obtain ⟨⟨hx, hb, hml, hown, hts⟩, hE, hI, hlocks⟩ := id X
  have hl : lv_has ls 2 [(0, .ref (ad 0)), (1, .ref (ad (4 + 8 * i)))] := hl
  refine lv_aload_n hx hb dX4_unsponsored_0 rfl (lv_at hl 0 rfl) ?_
  refine lv_aload_n hx hb dX4_unsponsored_1 rfl (lv_at hl 1 rfl) ?_
  refine lv_bipush (v := 7) hx hb dX4_unsponsored_2 (by decide) ?_
  refine r_V0 X S (c_X4_chargesOf l D cA ad _ F i hi 7) ob_0 rfl (cwV 2 hts gX4_unsponsored_X4_chargesOf rfl rfl rfl (by decide +kernel) ⟨Nat.le_of_ble_eq_true rfl, Nat.le_of_ble_eq_true rfl⟩) rfl hl.1 rfl (Nat.le_of_ble_eq_true rfl) dX4_unsponsored_4 ⟨Nat.zero_le _, Nat.zero_le _⟩ (fun H locs S => ?_)
  refine lv_aload_n hx hb dX4_unsponsored_7 rfl (lv_at hl 0 rfl) ?_
  refine lv_aload_n hx hb dX4_unsponsored_8 rfl (lv_at hl 1 rfl) ?_
  refine r_V0 X S (c_X4_sponsorPart l D cA ad _ F i hi) ob_0 rfl (cwV 1 hts gX4_unsponsored_X4_sponsorPart rfl rfl rfl (by decide +kernel) ⟨Nat.le_of_ble_eq_true rfl, Nat.le_of_ble_eq_true rfl⟩) rfl hl.1 rfl (Nat.le_of_ble_eq_true rfl) dX4_unsponsored_9 ⟨Nat.zero_le _, Nat.zero_le _⟩ (fun H locs S => ?_)
  refine lv_isub hx hb dX4_unsponsored_12 ?_
  exact r_iret X S hr dX4_unsponsored_13 (Nat.le_of_ble_eq_true rfl) (Nat.le_of_ble_eq_true rfl) (by unfold unC; rfl) rfl

set_option maxHeartbeats 1000000 in
set_option maxRecDepth 100000 in
theorem c_X4_balanceOf (l : Launch) (D : va_G) (cA : Nat → ClassId) (ad : Nat → Nat) (sz : Nat) (F : FF) (i : Nat) (hi : i < 4) : CI l D cA ad sz yX4_balanceOf wsX4_balanceOf 4 88 0 0 [.ref (ad 0), .ref (ad (4 + 8 * i))] F (some (.int (balV F i))) (balF F i) := by
  refine CI_of (own := RX4) (cc := cX4_balanceOf) (maxL := 3) (ret := (some .int)) (by decide +kernel) rfl rfl (Nat.le_of_ble_eq_true rfl) ?_
  intro p e s m below meth c ls X S hr hl
  obtain ⟨⟨hx, hb, hml, hown, hts⟩, hE, hI, hlocks⟩ := id X
  have hl : lv_has ls 3 [(0, .ref (ad 0)), (1, .ref (ad (4 + 8 * i)))] := hl
  have hw3 : ∀ w ∈ wsX30, w.before _ s = true := fun w h => hts w ((by decide +kernel : ∀ w ∈ wsX30, w ∈ wsX4_balanceOf) w h)
  refine lv_aload_n hx hb dX4_balanceOf_0 rfl (lv_at hl 0 rfl) ?_
  refine lv_aload_n hx hb dX4_balanceOf_1 rfl (lv_at hl 1 rfl) ?_
  refine r_V0 X S (c_X4_unsponsored l D cA ad _ F i hi) ob_0 rfl (cwV 1 hts gX4_balanceOf_X4_unsponsored rfl rfl rfl (by decide +kernel) ⟨Nat.le_of_ble_eq_true rfl, Nat.le_of_ble_eq_true rfl⟩) rfl hl.1 rfl (Nat.le_of_ble_eq_true rfl) dX4_balanceOf_2 ⟨Nat.zero_le _, Nat.zero_le _⟩ (fun H locs S => ?_)
  refine lv_istore_n (lv' := [(2, .int (unC F i)), (0, .ref (ad 0)), (1, .ref (ad (4 + 8 * i)))]) hx hb dX4_balanceOf_5 rfl hl (by decide) rfl (fun ls hl => ?_)
  refine lv_iload_n hx hb dX4_balanceOf_6 rfl (lv_at hl 0 rfl) ?_
  refine lv_aload_n hx hb dX4_balanceOf_7 rfl (lv_at hl 2 rfl) ?_
  refine r_getr (q := 4 + 8 * i + 3) X S hw3 (ob_S i hi) 1 ⟨rfl, by decide, rfl⟩ rfl (hts (.fieldLink RX4 140 "TermBill$Student" "aid" "LTermBill$Aid;") (by decide +kernel)) dX4_balanceOf_8 ?_
  refine lv_iload_n hx hb dX4_balanceOf_11 rfl (lv_at hl 0 rfl) ?_
  refine lv_aload_n hx hb dX4_balanceOf_12 rfl (lv_at hl 2 rfl) ?_
  refine r_geti X S hw3 (ob_S i hi) 5 ⟨rfl, by decide, rfl⟩ rfl (hts (.fieldLink RX4 84 "TermBill$Student" "need" "I") (by decide +kernel)) dX4_balanceOf_13 ?_
  refine r_V0 X S (c_X0_cover l D cA ad _ F i hi (unC F i) (F (4 + 8 * i) 5)) (ob_A i hi) rfl (cwV 2 hts gX4_balanceOf_X0_cover rfl rfl rfl (by decide +kernel) ⟨Nat.le_of_ble_eq_true rfl, Nat.le_of_ble_eq_true rfl⟩) rfl hl.1 rfl (Nat.le_of_ble_eq_true rfl) dX4_balanceOf_16 ⟨Nat.zero_le _, Nat.zero_le _⟩ (fun H locs S => ?_)
  obtain ⟨F_1, eF_1⟩ : ∃ z, z = (cvA i (F, unC F i, F (4 + 8 * i) 5)).1 := ⟨_, rfl⟩
  rw [← eF_1] at S
  refine lv_isub hx hb dX4_balanceOf_19 ?_
  refine lv_aload_n hx hb dX4_balanceOf_20 rfl (lv_at hl 2 rfl) ?_
  refine r_geti X S hw3 (ob_S i hi) 10 ⟨rfl, by decide, rfl⟩ rfl (hts (.fieldLink RX4 153 "TermBill$Student" "paidSum" "I") (by decide +kernel)) dX4_balanceOf_21 ?_
  refine lv_isub hx hb dX4_balanceOf_24 ?_
  exact r_iret X S hr dX4_balanceOf_25 (Nat.le_of_ble_eq_true rfl) (Nat.le_of_ble_eq_true rfl) (by unfold balV balF; simp only [eF_1]) (by unfold balF; simp only [eF_1])

set_option maxHeartbeats 1000000 in
set_option maxRecDepth 100000 in
theorem c_X4_dropCourse (l : Launch) (D : va_G) (cA : Nat → ClassId) (ad : Nat → Nat) (sz : Nat) (F : FF) (i : Nat) (hi : i < 4) (j : Nat) (hj : j < 8) (w : Nat) (hw : w < 16) (ew : F 0 7 = nI w) : CI l D cA ad sz yX4_dropCourse wsX4_dropCourse 1 22 0 0 [.ref (ad 0), .ref (ad (4 + 8 * i)), .int (nI j)] F (some (.int (drK F i j w))) (drF F i j w) := by
  refine CI_of (own := RX4) (cc := cX4_dropCourse) (maxL := 7) (ret := (some .int)) (by decide +kernel) rfl rfl (Nat.le_of_ble_eq_true rfl) ?_
  intro p e s m below meth c ls X S hr hl
  obtain ⟨⟨hx, hb, hml, hown, hts⟩, hE, hI, hlocks⟩ := id X
  have hl : lv_has ls 7 [(0, .ref (ad 0)), (1, .ref (ad (4 + 8 * i))), (2, .int (nI j))] := hl
  have hw1 : ∀ w ∈ wsX10, w.before _ s = true := fun w h => hts w ((by decide +kernel : ∀ w ∈ wsX10, w ∈ wsX4_dropCourse) w h)
  have hw3 : ∀ w ∈ wsX30, w.before _ s = true := fun w h => hts w ((by decide +kernel : ∀ w ∈ wsX30, w ∈ wsX4_dropCourse) w h)
  refine lv_aload_n hx hb dX4_dropCourse_0 rfl (lv_at hl 0 rfl) ?_
  refine lv_aload_n hx hb dX4_dropCourse_1 rfl (lv_at hl 1 rfl) ?_
  refine r_geti X S hw3 (ob_S i hi) 3 ⟨rfl, by decide, rfl⟩ rfl (hts (.fieldLink RX4 77 "TermBill$Student" "level" "I") (by decide +kernel)) dX4_dropCourse_2 ?_
  refine lv_aload_n hx hb dX4_dropCourse_5 rfl (lv_at hl 1 rfl) ?_
  refine r_geti X S hw3 (ob_S i hi) 4 ⟨rfl, by decide, rfl⟩ rfl (hts (.fieldLink RX4 80 "TermBill$Student" "isResident" "Z") (by decide +kernel)) dX4_dropCourse_6 ?_
  refine r_S0 X S (c_X4_placeOfRate l D cA ad _ F (F (4 + 8 * i) 3) (F (4 + 8 * i) 4)) (va_cwS 2 hts gX4_dropCourse_X4_placeOfRate rfl rfl rfl (by decide +kernel) ⟨Nat.le_of_ble_eq_true rfl, Nat.le_of_ble_eq_true rfl⟩) rfl hl.1 rfl (Nat.le_of_ble_eq_true rfl) dX4_dropCourse_9 ⟨Nat.zero_le _, Nat.zero_le _⟩ (fun H locs S => ?_)
  refine r_V0 X S (c_X4_rateAt l D cA ad _ F (poR (F (4 + 8 * i) 3) (F (4 + 8 * i) 4))) ob_0 rfl (cwV 1 hts gX4_dropCourse_X4_rateAt rfl rfl rfl (by decide +kernel) ⟨Nat.le_of_ble_eq_true rfl, Nat.le_of_ble_eq_true rfl⟩) rfl hl.1 rfl (Nat.le_of_ble_eq_true rfl) dX4_dropCourse_12 ⟨Nat.zero_le _, Nat.zero_le _⟩ (fun H locs S => ?_)
  refine lv_istore_n (lv' := [(3, .int (raA F (poR (F (4 + 8 * i) 3) (F (4 + 8 * i) 4)))), (0, .ref (ad 0)), (1, .ref (ad (4 + 8 * i))), (2, .int (nI j))]) hx hb dX4_dropCourse_15 rfl hl (by decide) rfl (fun ls hl => ?_)
  refine lv_aload_n hx hb dX4_dropCourse_16 rfl (lv_at hl 1 rfl) ?_
  refine lv_aload_n hx hb dX4_dropCourse_17 rfl (lv_at hl 2 rfl) ?_
  refine r_getr (q := 4 + 8 * i + 1) X S hw3 (ob_S i hi) 0 ⟨rfl, by decide, rfl⟩ rfl (hts (.fieldLink RX4 97 "TermBill$Student" "courses" "LTermBill$Courses;") (by decide +kernel)) dX4_dropCourse_18 ?_
  refine r_V0 X S (c_X1_total l D cA ad _ F i hi) (ob_C i hi) rfl (cwV 0 hts gX4_dropCourse_X1_total rfl rfl rfl (by decide +kernel) ⟨Nat.le_of_ble_eq_true rfl, Nat.le_of_ble_eq_true rfl⟩) rfl hl.1 rfl (Nat.le_of_ble_eq_true rfl) dX4_dropCourse_21 ⟨Nat.zero_le _, Nat.zero_le _⟩ (fun H locs S => ?_)
  refine lv_iload_n hx hb dX4_dropCourse_24 rfl (lv_at hl 0 rfl) ?_
  refine r_V0 X S (c_X4_priceOf l D cA ad _ F (tot8 (F (4 + 8 * i + 2))) (raA F (poR (F (4 + 8 * i) 3) (F (4 + 8 * i) 4)))) ob_0 rfl (cwV 2 hts gX4_dropCourse_X4_priceOf rfl rfl rfl (by decide +kernel) ⟨Nat.le_of_ble_eq_true rfl, Nat.le_of_ble_eq_true rfl⟩) rfl hl.1 rfl (Nat.le_of_ble_eq_true rfl) dX4_dropCourse_25 ⟨Nat.zero_le _, Nat.zero_le _⟩ (fun H locs S => ?_)
  refine lv_istore (lv' := [(4, .int (pcl (F 0 3) (F 0 4) (tot8 (F (4 + 8 * i + 2))) (raA F (poR (F (4 + 8 * i) 3) (F (4 + 8 * i) 4))))), (3, .int (raA F (poR (F (4 + 8 * i) 3) (F (4 + 8 * i) 4)))), (0, .ref (ad 0)), (1, .ref (ad (4 + 8 * i))), (2, .int (nI j))]) hx hb dX4_dropCourse_28 hl (by decide) rfl (fun ls hl => ?_)
  refine lv_aload_n hx hb dX4_dropCourse_30 rfl (lv_at hl 3 rfl) ?_
  refine r_getr (q := 4 + 8 * i + 1) X S hw3 (ob_S i hi) 0 ⟨rfl, by decide, rfl⟩ rfl (hts (.fieldLink RX4 97 "TermBill$Student" "courses" "LTermBill$Courses;") (by decide +kernel)) dX4_dropCourse_31 ?_
  refine lv_iload_n hx hb dX4_dropCourse_34 rfl (lv_at hl 4 rfl) ?_
  refine r_V0 X S (c_X1_remove l D cA ad _ F i hi j (by omega)) (ob_C i hi) rfl (cwV 1 hts gX4_dropCourse_X1_remove rfl rfl rfl (by decide +kernel) ⟨Nat.le_of_ble_eq_true rfl, Nat.le_of_ble_eq_true rfl⟩) rfl hl.1 rfl (Nat.le_of_ble_eq_true rfl) dX4_dropCourse_35 ⟨Nat.zero_le _, Nat.zero_le _⟩ (fun H locs S => ?_)
  obtain ⟨F_1, eF_1⟩ : ∃ z, z = u2 F (4 + 8 * i + 2) j 0 := ⟨_, rfl⟩
  rw [← eF_1] at S
  refine lv_aload_n hx hb dX4_dropCourse_38 rfl (lv_at hl 2 rfl) ?_
  refine lv_aload_n hx hb dX4_dropCourse_39 rfl (lv_at hl 3 rfl) ?_
  refine r_getr (q := 4 + 8 * i + 1) X S hw3 (ob_S i hi) 0 ⟨rfl, by decide, rfl⟩ rfl (hts (.fieldLink RX4 97 "TermBill$Student" "courses" "LTermBill$Courses;") (by decide +kernel)) dX4_dropCourse_40 ?_
  refine r_V0 X S (c_X1_total l D cA ad _ F_1 i hi) (ob_C i hi) rfl (cwV 0 hts gX4_dropCourse_X1_total rfl rfl rfl (by decide +kernel) ⟨Nat.le_of_ble_eq_true rfl, Nat.le_of_ble_eq_true rfl⟩) rfl hl.1 rfl (Nat.le_of_ble_eq_true rfl) dX4_dropCourse_43 ⟨Nat.zero_le _, Nat.zero_le _⟩ (fun H locs S => ?_)
  refine lv_iload_n hx hb dX4_dropCourse_46 rfl (lv_at hl 1 rfl) ?_
  refine r_V0 X S (c_X4_priceOf l D cA ad _ F_1 (tot8 (F_1 (4 + 8 * i + 2))) (raA F (poR (F (4 + 8 * i) 3) (F (4 + 8 * i) 4)))) ob_0 rfl (cwV 2 hts gX4_dropCourse_X4_priceOf rfl rfl rfl (by decide +kernel) ⟨Nat.le_of_ble_eq_true rfl, Nat.le_of_ble_eq_true rfl⟩) rfl hl.1 rfl (Nat.le_of_ble_eq_true rfl) dX4_dropCourse_47 ⟨Nat.zero_le _, Nat.zero_le _⟩ (fun H locs S => ?_)
  refine lv_istore (lv' := [(5, .int (pcl (F_1 0 3) (F_1 0 4) (tot8 (F_1 (4 + 8 * i + 2))) (raA F (poR (F (4 + 8 * i) 3) (F (4 + 8 * i) 4))))), (4, .int (pcl (F 0 3) (F 0 4) (tot8 (F (4 + 8 * i + 2))) (raA F (poR (F (4 + 8 * i) 3) (F (4 + 8 * i) 4))))), (3, .int (raA F (poR (F (4 + 8 * i) 3) (F (4 + 8 * i) 4)))), (0, .ref (ad 0)), (1, .ref (ad (4 + 8 * i))), (2, .int (nI j))]) hx hb dX4_dropCourse_50 hl (by decide) rfl (fun ls hl => ?_)
  refine lv_iload hx hb dX4_dropCourse_52 (lv_at hl 1 rfl) ?_
  refine lv_iload hx hb dX4_dropCourse_54 (lv_at hl 0 rfl) ?_
  refine lv_isub hx hb dX4_dropCourse_56 ?_
  refine lv_aload_n hx hb dX4_dropCourse_57 rfl (lv_at hl 3 rfl) ?_
  refine r_V0 X S (c_X4_shareNow l D cA ad _ F_1 w hw (by rw [eF_1, u2_ne _ _ (by omega), ew])) ob_0 rfl (cwV 0 hts gX4_dropCourse_X4_shareNow rfl rfl rfl (by decide +kernel) ⟨Nat.le_of_ble_eq_true rfl, Nat.le_of_ble_eq_true rfl⟩) rfl hl.1 rfl (Nat.le_of_ble_eq_true rfl) dX4_dropCourse_58 ⟨Nat.zero_le _, Nat.zero_le _⟩ (fun H locs S => ?_)
  refine lv_imul hx hb dX4_dropCourse_61 ?_
  refine lv_bipush (v := 100) hx hb dX4_dropCourse_62 (by decide) ?_
  refine lv_idiv hx hb dX4_dropCourse_64 (by decide) ?_
  refine lv_istore (lv' := [(6, .int ((((pcl (F 0 3) (F 0 4) (tot8 (F (4 + 8 * i + 2))) (raA F (poR (F (4 + 8 * i) 3) (F (4 + 8 * i) 4)))) - (pcl (F_1 0 3) (F_1 0 4) (tot8 (F_1 (4 + 8 * i + 2))) (raA F (poR (F (4 + 8 * i) 3) (F (4 + 8 * i) 4))))) * (F_1 3 w)) / 100)), (5, .int (pcl (F_1 0 3) (F_1 0 4) (tot8 (F_1 (4 + 8 * i + 2))) (raA F (poR (F (4 + 8 * i) 3) (F (4 + 8 * i) 4))))), (4, .int (pcl (F 0 3) (F 0 4) (tot8 (F (4 + 8 * i + 2))) (raA F (poR (F (4 + 8 * i) 3) (F (4 + 8 * i) 4))))), (3, .int (raA F (poR (F (4 + 8 * i) 3) (F (4 + 8 * i) 4)))), (0, .ref (ad 0)), (1, .ref (ad (4 + 8 * i))), (2, .int (nI j))]) hx hb dX4_dropCourse_65 hl (by decide) rfl (fun ls hl => ?_)
  refine lv_aload_n hx hb dX4_dropCourse_67 rfl (lv_at hl 5 rfl) ?_
  refine r_getr (q := 4 + 8 * i + 1) X S hw3 (ob_S i hi) 0 ⟨rfl, by decide, rfl⟩ rfl (hts (.fieldLink RX4 97 "TermBill$Student" "courses" "LTermBill$Courses;") (by decide +kernel)) dX4_dropCourse_68 ?_
  refine lv_dup hx hb dX4_dropCourse_71 rfl ?_
  refine r_geti X S hw1 (ob_C i hi) 2 ⟨rfl, by decide, rfl⟩ rfl (hts (.fieldLink RX4 237 "TermBill$Courses" "keptSum" "I") (by decide +kernel)) dX4_dropCourse_72 ?_
  refine lv_iload hx hb dX4_dropCourse_75 (lv_at hl 0 rfl) ?_
  refine lv_iadd hx hb dX4_dropCourse_77 ?_
  refine r_puti X S hw1 (ob_C i hi) 2 ⟨rfl, by decide, rfl⟩ rfl (hts (.fieldLink RX4 237 "TermBill$Courses" "keptSum" "I") (by decide +kernel)) tyX1 tyX1_ok nmX1 rfl rfl dX4_dropCourse_78 (fun H locs S => ?_)
  obtain ⟨F_2, eF_2⟩ : ∃ z, z = u2 F_1 (4 + 8 * i + 1) 2 ((F_1 (4 + 8 * i + 1) 2) + ((((pcl (F 0 3) (F 0 4) (tot8 (F (4 + 8 * i + 2))) (raA F (poR (F (4 + 8 * i) 3) (F (4 + 8 * i) 4)))) - (pcl (F_1 0 3) (F_1 0 4) (tot8 (F_1 (4 + 8 * i + 2))) (raA F (poR (F (4 + 8 * i) 3) (F (4 + 8 * i) 4))))) * (F_1 3 w)) / 100)) := ⟨_, rfl⟩
  rw [← eF_2] at S
  refine lv_iload hx hb dX4_dropCourse_81 (lv_at hl 0 rfl) ?_
  exact r_iret X S hr dX4_dropCourse_83 (Nat.le_of_ble_eq_true rfl) (Nat.le_of_ble_eq_true rfl) (by unfold drK dr0 rtC; simp only [eF_1]) (by unfold drF drK dr0 rtC; simp only [eF_2, eF_1])

set_option maxHeartbeats 1000000 in
set_option maxRecDepth 100000 in
theorem c_X4_endTerm (l : Launch) (D : va_G) (cA : Nat → ClassId) (ad : Nat → Nat) (sz : Nat) (F : FF) : CI l D cA ad sz yX4_endTerm wsX4_endTerm 5 110 0 0 [.ref (ad 0)] F none (enP (enP F 0 1) 2 3) := by
  refine CI_of (own := RX4) (cc := cX4_endTerm) (maxL := 7) (ret := none) (by decide +kernel) rfl rfl (Nat.le_of_ble_eq_true rfl) ?_
  intro p e s m below meth c ls X S hr hl
  obtain ⟨⟨hx, hb, hml, hown, hts⟩, hE, hI, hlocks⟩ := id X
  have hl : lv_has ls 7 [(0, .ref (ad 0))] := hl
  refine lv_iconst (v := 0) hx hb dX4_endTerm_0 (by decide) ?_
  refine lv_istore_n (lv' := [(1, .int 0), (0, .ref (ad 0))]) hx hb dX4_endTerm_1 rfl hl (by decide) rfl (fun ls hl => ?_)
  refine lv_iload_n hx hb dX4_endTerm_2 rfl (lv_at hl 0 rfl) ?_
  refine lv_iconst (v := 1) hx hb dX4_endTerm_3 (by decide) ?_
  refine lv_iadd hx hb dX4_endTerm_4 ?_
  refine lv_topi (fun x_1 ex_1 => ?_)
  obtain rfl : x_1 = 1 := ex_1.trans (by decide)
  refine lv_iconst (v := 4) hx hb dX4_endTerm_5 (by decide) ?_
  refine lv_icmp_ge (tgt := 78) hx hb dX4_endTerm_6 (by decide) (fun z => False.elim (by first | exact absurd z (by decide) | exact absurd (by decide) z)) (fun _ => ?_)
  refine lv_aload_n hx hb dX4_endTerm_9 rfl (lv_at hl 1 rfl) ?_
  refine lv_iload_n hx hb dX4_endTerm_10 rfl (lv_at hl 0 rfl) ?_
  refine r_V0 X S (c_X4_studentAt l D cA ad _ F 0 (by decide)) ob_0 rfl (cwV 1 hts gX4_endTerm_X4_studentAt rfl rfl rfl (by decide +kernel) ⟨Nat.le_of_ble_eq_true rfl, Nat.le_of_ble_eq_true rfl⟩) rfl hl.1 rfl (Nat.le_of_ble_eq_true rfl) dX4_endTerm_11 ⟨Nat.zero_le _, Nat.zero_le _⟩ (fun H locs S => ?_)
  refine lv_astore_n (lv' := [(2, .ref (ad (4 + 8 * 0))), (1, .int 0), (0, .ref (ad 0))]) hx hb dX4_endTerm_14 rfl hl (by decide) rfl (fun ls hl => ?_)
  refine lv_aload_n hx hb dX4_endTerm_15 rfl (lv_at hl 2 rfl) ?_
  refine lv_iload_n hx hb dX4_endTerm_16 rfl (lv_at hl 1 rfl) ?_
  refine lv_iconst (v := 1) hx hb dX4_endTerm_17 (by decide) ?_
  refine lv_iadd hx hb dX4_endTerm_18 ?_
  refine lv_topi (fun x_2 ex_2 => ?_)
  obtain rfl : x_2 = 1 := ex_2.trans (by decide)
  refine r_V0 X S (c_X4_studentAt l D cA ad _ F 1 (by decide)) ob_0 rfl (cwV 1 hts gX4_endTerm_X4_studentAt rfl rfl rfl (by decide +kernel) ⟨Nat.le_of_ble_eq_true rfl, Nat.le_of_ble_eq_true rfl⟩) rfl hl.1 rfl (Nat.le_of_ble_eq_true rfl) dX4_endTerm_19 ⟨Nat.zero_le _, Nat.zero_le _⟩ (fun H locs S => ?_)
  refine lv_astore_n (lv' := [(3, .ref (ad (4 + 8 * 1))), (2, .ref (ad (4 + 8 * 0))), (1, .int 0), (0, .ref (ad 0))]) hx hb dX4_endTerm_22 rfl hl (by decide) rfl (fun ls hl => ?_)
  refine lv_aload_n hx hb dX4_endTerm_23 rfl (lv_at hl 3 rfl) ?_
  refine lv_aload_n hx hb dX4_endTerm_24 rfl (lv_at hl 1 rfl) ?_
  refine r_V0 X S (c_X4_balanceOf l D cA ad _ F 0 (by decide)) ob_0 rfl (cwV 1 hts gX4_endTerm_X4_balanceOf rfl rfl rfl (by decide +kernel) ⟨Nat.le_of_ble_eq_true rfl, Nat.le_of_ble_eq_true rfl⟩) rfl hl.1 rfl (Nat.le_of_ble_eq_true rfl) dX4_endTerm_25 ⟨Nat.zero_le _, Nat.zero_le _⟩ (fun H locs S => ?_)
  obtain ⟨F_3, eF_3⟩ : ∃ z, z = balF F 0 := ⟨_, rfl⟩
  rw [← eF_3] at S
  refine lv_istore (lv' := [(4, .int (balV F 0)), (3, .ref (ad (4 + 8 * 1))), (2, .ref (ad (4 + 8 * 0))), (1, .int 0), (0, .ref (ad 0))]) hx hb dX4_endTerm_28 hl (by decide) rfl (fun ls hl => ?_)
  refine lv_aload_n hx hb dX4_endTerm_30 rfl (lv_at hl 4 rfl) ?_
  refine lv_aload_n hx hb dX4_endTerm_31 rfl (lv_at hl 1 rfl) ?_
  refine r_V0 X S (c_X4_balanceOf l D cA ad _ F_3 1 (by decide)) ob_0 rfl (cwV 1 hts gX4_endTerm_X4_balanceOf rfl rfl rfl (by decide +kernel) ⟨Nat.le_of_ble_eq_true rfl, Nat.le_of_ble_eq_true rfl⟩) rfl hl.1 rfl (Nat.le_of_ble_eq_true rfl) dX4_endTerm_32 ⟨Nat.zero_le _, Nat.zero_le _⟩ (fun H locs S => ?_)
  obtain ⟨F_4, eF_4⟩ : ∃ z, z = balF F_3 1 := ⟨_, rfl⟩
  rw [← eF_4] at S
  refine lv_istore (lv' := [(5, .int (balV F_3 1)), (4, .int (balV F 0)), (3, .ref (ad (4 + 8 * 1))), (2, .ref (ad (4 + 8 * 0))), (1, .int 0), (0, .ref (ad 0))]) hx hb dX4_endTerm_35 hl (by decide) rfl (fun ls hl => ?_)
  refine lv_iload hx hb dX4_endTerm_37 (lv_at hl 1 rfl) ?_
  refine lv_iload hx hb dX4_endTerm_39 (lv_at hl 0 rfl) ?_
  refine r_S0 X S (c_X4_carriedTo l D cA ad _ F_4 (balV F 0) (balV F_3 1)) (va_cwS 2 hts gX4_endTerm_X4_carriedTo rfl rfl rfl (by decide +kernel) ⟨Nat.le_of_ble_eq_true rfl, Nat.le_of_ble_eq_true rfl⟩) rfl hl.1 rfl (Nat.le_of_ble_eq_true rfl) dX4_endTerm_41 ⟨Nat.zero_le _, Nat.zero_le _⟩ (fun H locs S => ?_)
  refine lv_iload hx hb dX4_endTerm_44 (lv_at hl 0 rfl) ?_
  refine lv_iload hx hb dX4_endTerm_46 (lv_at hl 1 rfl) ?_
  refine r_S0 X S (c_X4_carriedTo l D cA ad _ F_4 (balV F_3 1) (balV F 0)) (va_cwS 2 hts gX4_endTerm_X4_carriedTo rfl rfl rfl (by decide +kernel) ⟨Nat.le_of_ble_eq_true rfl, Nat.le_of_ble_eq_true rfl⟩) rfl hl.1 rfl (Nat.le_of_ble_eq_true rfl) dX4_endTerm_48 ⟨Nat.zero_le _, Nat.zero_le _⟩ (fun H locs S => ?_)
  refine lv_isub hx hb dX4_endTerm_51 ?_
  refine lv_istore (lv' := [(6, .int ((carI (balV F 0) (balV F_3 1)) - (carI (balV F_3 1) (balV F 0)))), (5, .int (balV F_3 1)), (4, .int (balV F 0)), (3, .ref (ad (4 + 8 * 1))), (2, .ref (ad (4 + 8 * 0))), (1, .int 0), (0, .ref (ad 0))]) hx hb dX4_endTerm_52 hl (by decide) rfl (fun ls hl => ?_)
  refine lv_aload_n hx hb dX4_endTerm_54 rfl (lv_at hl 4 rfl) ?_
  refine lv_iload hx hb dX4_endTerm_55 (lv_at hl 2 rfl) ?_
  refine lv_iload hx hb dX4_endTerm_57 (lv_at hl 0 rfl) ?_
  refine lv_isub hx hb dX4_endTerm_59 ?_
  refine r_V0 X S (c_X3_beginTerm l D cA ad _ F_4 0 (by decide) ((balV F 0) - ((carI (balV F 0) (balV F_3 1)) - (carI (balV F_3 1) (balV F 0))))) (ob_S 0 (by decide)) rfl (cwV 1 hts gX4_endTerm_X3_beginTerm rfl rfl rfl (by decide +kernel) ⟨Nat.le_of_ble_eq_true rfl, Nat.le_of_ble_eq_true rfl⟩) rfl hl.1 rfl (Nat.le_of_ble_eq_true rfl) dX4_endTerm_60 ⟨Nat.zero_le _, Nat.zero_le _⟩ (fun H locs S => ?_)
  obtain ⟨F_5, eF_5⟩ : ∃ z, z = bgT F_4 0 ((balV F 0) - ((carI (balV F 0) (balV F_3 1)) - (carI (balV F_3 1) (balV F 0)))) := ⟨_, rfl⟩
  rw [← eF_5] at S
  refine lv_aload_n hx hb dX4_endTerm_63 rfl (lv_at hl 3 rfl) ?_
  refine lv_iload hx hb dX4_endTerm_64 (lv_at hl 1 rfl) ?_
  refine lv_iload hx hb dX4_endTerm_66 (lv_at hl 0 rfl) ?_
  refine lv_iadd hx hb dX4_endTerm_68 ?_
  refine r_V0 X S (c_X3_beginTerm l D cA ad _ F_5 1 (by decide) ((balV F_3 1) + ((carI (balV F 0) (balV F_3 1)) - (carI (balV F_3 1) (balV F 0))))) (ob_S 1 (by decide)) rfl (cwV 1 hts gX4_endTerm_X3_beginTerm rfl rfl rfl (by decide +kernel) ⟨Nat.le_of_ble_eq_true rfl, Nat.le_of_ble_eq_true rfl⟩) rfl hl.1 rfl (Nat.le_of_ble_eq_true rfl) dX4_endTerm_69 ⟨Nat.zero_le _, Nat.zero_le _⟩ (fun H locs S => ?_)
  obtain ⟨F_6, eF_6⟩ : ∃ z, z = bgT F_5 1 ((balV F_3 1) + ((carI (balV F 0) (balV F_3 1)) - (carI (balV F_3 1) (balV F 0)))) := ⟨_, rfl⟩
  rw [← eF_6] at S
  refine lv_iinc (v := 2) (lv' := [(1, .int 2), (6, .int ((carI (balV F 0) (balV F_3 1)) - (carI (balV F_3 1) (balV F 0)))), (5, .int (balV F_3 1)), (4, .int (balV F 0)), (3, .ref (ad (4 + 8 * 1))), (2, .ref (ad (4 + 8 * 0))), (0, .ref (ad 0))]) hx hb dX4_endTerm_72 hl (k := 5) rfl (by decide) (by decide) rfl (fun ls hl => ?_)
  refine lv_goto (tgt := 2) hx hb dX4_endTerm_75 (by decide) ?_
  refine lv_iload_n hx hb dX4_endTerm_2 rfl (lv_at hl 0 rfl) ?_
  refine lv_iconst (v := 1) hx hb dX4_endTerm_3 (by decide) ?_
  refine lv_iadd hx hb dX4_endTerm_4 ?_
  refine lv_topi (fun x_7 ex_7 => ?_)
  obtain rfl : x_7 = 3 := ex_7.trans (by decide)
  refine lv_iconst (v := 4) hx hb dX4_endTerm_5 (by decide) ?_
  refine lv_icmp_ge (tgt := 78) hx hb dX4_endTerm_6 (by decide) (fun z => False.elim (by first | exact absurd z (by decide) | exact absurd (by decide) z)) (fun _ => ?_)
  refine lv_aload_n hx hb dX4_endTerm_9 rfl (lv_at hl 6 rfl) ?_
  refine lv_iload_n hx hb dX4_endTerm_10 rfl (lv_at hl 0 rfl) ?_
  refine r_V0 X S (c_X4_studentAt l D cA ad _ F_6 2 (by decide)) ob_0 rfl (cwV 1 hts gX4_endTerm_X4_studentAt rfl rfl rfl (by decide +kernel) ⟨Nat.le_of_ble_eq_true rfl, Nat.le_of_ble_eq_true rfl⟩) rfl hl.1 rfl (Nat.le_of_ble_eq_true rfl) dX4_endTerm_11 ⟨Nat.zero_le _, Nat.zero_le _⟩ (fun H locs S => ?_)
  refine lv_astore_n (lv' := [(2, .ref (ad (4 + 8 * 2))), (1, .int 2), (6, .int ((carI (balV F 0) (balV F_3 1)) - (carI (balV F_3 1) (balV F 0)))), (5, .int (balV F_3 1)), (4, .int (balV F 0)), (3, .ref (ad (4 + 8 * 1))), (0, .ref (ad 0))]) hx hb dX4_endTerm_14 rfl hl (by decide) rfl (fun ls hl => ?_)
  refine lv_aload_n hx hb dX4_endTerm_15 rfl (lv_at hl 6 rfl) ?_
  refine lv_iload_n hx hb dX4_endTerm_16 rfl (lv_at hl 1 rfl) ?_
  refine lv_iconst (v := 1) hx hb dX4_endTerm_17 (by decide) ?_
  refine lv_iadd hx hb dX4_endTerm_18 ?_
  refine lv_topi (fun x_8 ex_8 => ?_)
  obtain rfl : x_8 = 3 := ex_8.trans (by decide)
  refine r_V0 X S (c_X4_studentAt l D cA ad _ F_6 3 (by decide)) ob_0 rfl (cwV 1 hts gX4_endTerm_X4_studentAt rfl rfl rfl (by decide +kernel) ⟨Nat.le_of_ble_eq_true rfl, Nat.le_of_ble_eq_true rfl⟩) rfl hl.1 rfl (Nat.le_of_ble_eq_true rfl) dX4_endTerm_19 ⟨Nat.zero_le _, Nat.zero_le _⟩ (fun H locs S => ?_)
  refine lv_astore_n (lv' := [(3, .ref (ad (4 + 8 * 3))), (2, .ref (ad (4 + 8 * 2))), (1, .int 2), (6, .int ((carI (balV F 0) (balV F_3 1)) - (carI (balV F_3 1) (balV F 0)))), (5, .int (balV F_3 1)), (4, .int (balV F 0)), (0, .ref (ad 0))]) hx hb dX4_endTerm_22 rfl hl (by decide) rfl (fun ls hl => ?_)
  refine lv_aload_n hx hb dX4_endTerm_23 rfl (lv_at hl 6 rfl) ?_
  refine lv_aload_n hx hb dX4_endTerm_24 rfl (lv_at hl 1 rfl) ?_
  refine r_V0 X S (c_X4_balanceOf l D cA ad _ F_6 2 (by decide)) ob_0 rfl (cwV 1 hts gX4_endTerm_X4_balanceOf rfl rfl rfl (by decide +kernel) ⟨Nat.le_of_ble_eq_true rfl, Nat.le_of_ble_eq_true rfl⟩) rfl hl.1 rfl (Nat.le_of_ble_eq_true rfl) dX4_endTerm_25 ⟨Nat.zero_le _, Nat.zero_le _⟩ (fun H locs S => ?_)
  obtain ⟨F_9, eF_9⟩ : ∃ z, z = balF F_6 2 := ⟨_, rfl⟩
  rw [← eF_9] at S
  refine lv_istore (lv' := [(4, .int (balV F_6 2)), (3, .ref (ad (4 + 8 * 3))), (2, .ref (ad (4 + 8 * 2))), (1, .int 2), (6, .int ((carI (balV F 0) (balV F_3 1)) - (carI (balV F_3 1) (balV F 0)))), (5, .int (balV F_3 1)), (0, .ref (ad 0))]) hx hb dX4_endTerm_28 hl (by decide) rfl (fun ls hl => ?_)
  refine lv_aload_n hx hb dX4_endTerm_30 rfl (lv_at hl 6 rfl) ?_
  refine lv_aload_n hx hb dX4_endTerm_31 rfl (lv_at hl 1 rfl) ?_
  refine r_V0 X S (c_X4_balanceOf l D cA ad _ F_9 3 (by decide)) ob_0 rfl (cwV 1 hts gX4_endTerm_X4_balanceOf rfl rfl rfl (by decide +kernel) ⟨Nat.le_of_ble_eq_true rfl, Nat.le_of_ble_eq_true rfl⟩) rfl hl.1 rfl (Nat.le_of_ble_eq_true rfl) dX4_endTerm_32 ⟨Nat.zero_le _, Nat.zero_le _⟩ (fun H locs S => ?_)
  obtain ⟨F_10, eF_10⟩ : ∃ z, z = balF F_9 3 := ⟨_, rfl⟩
  rw [← eF_10] at S
  refine lv_istore (lv' := [(5, .int (balV F_9 3)), (4, .int (balV F_6 2)), (3, .ref (ad (4 + 8 * 3))), (2, .ref (ad (4 + 8 * 2))), (1, .int 2), (6, .int ((carI (balV F 0) (balV F_3 1)) - (carI (balV F_3 1) (balV F 0)))), (0, .ref (ad 0))]) hx hb dX4_endTerm_35 hl (by decide) rfl (fun ls hl => ?_)
  refine lv_iload hx hb dX4_endTerm_37 (lv_at hl 1 rfl) ?_
  refine lv_iload hx hb dX4_endTerm_39 (lv_at hl 0 rfl) ?_
  refine r_S0 X S (c_X4_carriedTo l D cA ad _ F_10 (balV F_6 2) (balV F_9 3)) (va_cwS 2 hts gX4_endTerm_X4_carriedTo rfl rfl rfl (by decide +kernel) ⟨Nat.le_of_ble_eq_true rfl, Nat.le_of_ble_eq_true rfl⟩) rfl hl.1 rfl (Nat.le_of_ble_eq_true rfl) dX4_endTerm_41 ⟨Nat.zero_le _, Nat.zero_le _⟩ (fun H locs S => ?_)
  refine lv_iload hx hb dX4_endTerm_44 (lv_at hl 0 rfl) ?_
  refine lv_iload hx hb dX4_endTerm_46 (lv_at hl 1 rfl) ?_
  refine r_S0 X S (c_X4_carriedTo l D cA ad _ F_10 (balV F_9 3) (balV F_6 2)) (va_cwS 2 hts gX4_endTerm_X4_carriedTo rfl rfl rfl (by decide +kernel) ⟨Nat.le_of_ble_eq_true rfl, Nat.le_of_ble_eq_true rfl⟩) rfl hl.1 rfl (Nat.le_of_ble_eq_true rfl) dX4_endTerm_48 ⟨Nat.zero_le _, Nat.zero_le _⟩ (fun H locs S => ?_)
  refine lv_isub hx hb dX4_endTerm_51 ?_
  refine lv_istore (lv' := [(6, .int ((carI (balV F_6 2) (balV F_9 3)) - (carI (balV F_9 3) (balV F_6 2)))), (5, .int (balV F_9 3)), (4, .int (balV F_6 2)), (3, .ref (ad (4 + 8 * 3))), (2, .ref (ad (4 + 8 * 2))), (1, .int 2), (0, .ref (ad 0))]) hx hb dX4_endTerm_52 hl (by decide) rfl (fun ls hl => ?_)
  refine lv_aload_n hx hb dX4_endTerm_54 rfl (lv_at hl 4 rfl) ?_
  refine lv_iload hx hb dX4_endTerm_55 (lv_at hl 2 rfl) ?_
  refine lv_iload hx hb dX4_endTerm_57 (lv_at hl 0 rfl) ?_
  refine lv_isub hx hb dX4_endTerm_59 ?_
  refine r_V0 X S (c_X3_beginTerm l D cA ad _ F_10 2 (by decide) ((balV F_6 2) - ((carI (balV F_6 2) (balV F_9 3)) - (carI (balV F_9 3) (balV F_6 2))))) (ob_S 2 (by decide)) rfl (cwV 1 hts gX4_endTerm_X3_beginTerm rfl rfl rfl (by decide +kernel) ⟨Nat.le_of_ble_eq_true rfl, Nat.le_of_ble_eq_true rfl⟩) rfl hl.1 rfl (Nat.le_of_ble_eq_true rfl) dX4_endTerm_60 ⟨Nat.zero_le _, Nat.zero_le _⟩ (fun H locs S => ?_)
  obtain ⟨F_11, eF_11⟩ : ∃ z, z = bgT F_10 2 ((balV F_6 2) - ((carI (balV F_6 2) (balV F_9 3)) - (carI (balV F_9 3) (balV F_6 2)))) := ⟨_, rfl⟩
  rw [← eF_11] at S
  refine lv_aload_n hx hb dX4_endTerm_63 rfl (lv_at hl 3 rfl) ?_
  refine lv_iload hx hb dX4_endTerm_64 (lv_at hl 1 rfl) ?_
  refine lv_iload hx hb dX4_endTerm_66 (lv_at hl 0 rfl) ?_
  refine lv_iadd hx hb dX4_endTerm_68 ?_
  refine r_V0 X S (c_X3_beginTerm l D cA ad _ F_11 3 (by decide) ((balV F_9 3) + ((carI (balV F_6 2) (balV F_9 3)) - (carI (balV F_9 3) (balV F_6 2))))) (ob_S 3 (by decide)) rfl (cwV 1 hts gX4_endTerm_X3_beginTerm rfl rfl rfl (by decide +kernel) ⟨Nat.le_of_ble_eq_true rfl, Nat.le_of_ble_eq_true rfl⟩) rfl hl.1 rfl (Nat.le_of_ble_eq_true rfl) dX4_endTerm_69 ⟨Nat.zero_le _, Nat.zero_le _⟩ (fun H locs S => ?_)
  obtain ⟨F_12, eF_12⟩ : ∃ z, z = bgT F_11 3 ((balV F_9 3) + ((carI (balV F_6 2) (balV F_9 3)) - (carI (balV F_9 3) (balV F_6 2)))) := ⟨_, rfl⟩
  rw [← eF_12] at S
  refine lv_iinc (v := 4) (lv' := [(1, .int 4), (6, .int ((carI (balV F_6 2) (balV F_9 3)) - (carI (balV F_9 3) (balV F_6 2)))), (5, .int (balV F_9 3)), (4, .int (balV F_6 2)), (3, .ref (ad (4 + 8 * 3))), (2, .ref (ad (4 + 8 * 2))), (0, .ref (ad 0))]) hx hb dX4_endTerm_72 hl (k := 5) rfl (by decide) (by decide) rfl (fun ls hl => ?_)
  refine lv_goto (tgt := 2) hx hb dX4_endTerm_75 (by decide) ?_
  refine lv_iload_n hx hb dX4_endTerm_2 rfl (lv_at hl 0 rfl) ?_
  refine lv_iconst (v := 1) hx hb dX4_endTerm_3 (by decide) ?_
  refine lv_iadd hx hb dX4_endTerm_4 ?_
  refine lv_topi (fun x_13 ex_13 => ?_)
  obtain rfl : x_13 = 5 := ex_13.trans (by decide)
  refine lv_iconst (v := 4) hx hb dX4_endTerm_5 (by decide) ?_
  refine lv_icmp_ge (tgt := 78) hx hb dX4_endTerm_6 (by decide) (fun _ => ?_) (fun z => False.elim (by first | exact absurd z (by decide) | exact absurd (by decide) z))
  exact r_vret X S hr dX4_endTerm_78 (Nat.le_of_ble_eq_true rfl) (Nat.le_of_ble_eq_true rfl) (by unfold enP; simp only [eF_12, eF_11, eF_10, eF_9, eF_6, eF_5, eF_4, eF_3])

set_option maxHeartbeats 1000000 in
set_option maxRecDepth 100000 in
theorem c_X4_chargeLateFees (l : Launch) (D : va_G) (cA : Nat → ClassId) (ad : Nat → Nat) (sz : Nat) (F : FF) : CI l D cA ad sz yX4_chargeLateFees wsX4_chargeLateFees 1 23 0 0 [.ref (ad 0)] F none (clA F 4) := by
  refine CI_of (own := RX4) (cc := cX4_chargeLateFees) (maxL := 3) (ret := none) (by decide +kernel) rfl rfl (Nat.le_of_ble_eq_true rfl) ?_
  intro p e s m below meth c ls X S hr hl
  obtain ⟨⟨hx, hb, hml, hown, hts⟩, hE, hI, hlocks⟩ := id X
  have hl : lv_has ls 3 [(0, .ref (ad 0))] := hl
  have hw3 : ∀ w ∈ wsX30, w.before _ s = true := fun w h => hts w ((by decide +kernel : ∀ w ∈ wsX30, w ∈ wsX4_chargeLateFees) w h)
  have hw4 : ∀ w ∈ wsX40, w.before _ s = true := fun w h => hts w ((by decide +kernel : ∀ w ∈ wsX40, w ∈ wsX4_chargeLateFees) w h)
  have loop : ∀ (q i : Nat), i + q = 4 → ∀ G : FF, G = clA F i → ∀ (H : Heap) (locs : List Loc) (ls : Array Slot), St D cA ad G s.heap H locs → lv_has ls 3 [(0, .ref (ad 0)), (1, .int (nI i))] → W p l e (RM 1 23 0 0) s m [.ref (ad 0)].toArray below meth c H locs 0 0 (MQ below (CQ D cA ad s.heap.size (clA F 4) none) [.ref (ad 0)].toArray s 0 0 (AA ad s.heap.size)) (F0 m 2 ls []) := by
    intro q
    induction q with
    | zero =>
      intro i hi G eG H locs ls S hl
      obtain rfl : i = 4 := by omega
      refine lv_iload_n hx hb dX4_chargeLateFees_2 rfl (lv_at hl 1 rfl) ?_
      refine lv_iconst (v := 4) hx hb dX4_chargeLateFees_3 (by decide) ?_
      refine lv_icmp_ge (tgt := 46) hx hb dX4_chargeLateFees_4 (by decide) (fun _ => ?_) (fun z => False.elim (absurd (by decide) z))
      exact r_vret X S hr dX4_chargeLateFees_46 (Nat.le_of_ble_eq_true rfl) (Nat.le_of_ble_eq_true rfl) eG
    | succ q ih =>
      intro i hi9 G eG H locs ls S hl
      have hi : i < 4 := by omega
      refine lv_iload_n hx hb dX4_chargeLateFees_2 rfl (lv_at hl 1 rfl) ?_
      refine lv_iconst (v := 4) hx hb dX4_chargeLateFees_3 (by decide) ?_
      refine lv_icmp_ge (tgt := 46) hx hb dX4_chargeLateFees_4 (by decide) (fun z => False.elim (nI_ge (a := i) (b := 4) (by omega) (by omega) z)) (fun _ => ?_)
      refine lv_aload_n hx hb dX4_chargeLateFees_7 rfl (lv_at hl 0 rfl) ?_
      refine lv_iload_n hx hb dX4_chargeLateFees_8 rfl (lv_at hl 1 rfl) ?_
      refine r_V0 X S (c_X4_studentAt l D cA ad _ G i hi) ob_0 rfl (cwV 1 hts gX4_chargeLateFees_X4_studentAt rfl rfl rfl (by decide +kernel) ⟨Nat.le_of_ble_eq_true rfl, Nat.le_of_ble_eq_true rfl⟩) rfl hl.1 rfl (Nat.le_of_ble_eq_true rfl) dX4_chargeLateFees_9 ⟨Nat.zero_le _, Nat.zero_le _⟩ (fun H locs S => ?_)
      refine lv_astore_n (lv' := [(2, .ref (ad (4 + 8 * i))), (0, .ref (ad 0)), (1, .int (nI i))]) hx hb dX4_chargeLateFees_12 rfl hl (by decide) rfl (fun ls hl => ?_)
      refine lv_aload_n hx hb dX4_chargeLateFees_13 rfl (lv_at hl 0 rfl) ?_
      refine r_getr (q := 4 + 8 * i + 7) X S hw3 (ob_S i hi) 2 ⟨rfl, by decide, rfl⟩ rfl (hts (.fieldLink RX4 156 "TermBill$Student" "instalments" "LTermBill$Instalments;") (by decide +kernel)) dX4_chargeLateFees_14 ?_
      refine lv_aload_n hx hb dX4_chargeLateFees_17 rfl (lv_at hl 1 rfl) ?_
      refine r_V0 X S (c_X4_weekNumber l D cA ad _ G) ob_0 rfl (cwV 0 hts gX4_chargeLateFees_X4_weekNumber rfl rfl rfl (by decide +kernel) ⟨Nat.le_of_ble_eq_true rfl, Nat.le_of_ble_eq_true rfl⟩) rfl hl.1 rfl (Nat.le_of_ble_eq_true rfl) dX4_chargeLateFees_18 ⟨Nat.zero_le _, Nat.zero_le _⟩ (fun H locs S => ?_)
      refine r_V0 X S (c_X2_isLateAt l D cA ad _ G i hi (G 0 8 * 16 + G 0 7)) (ob_I i hi) rfl (cwV 1 hts gX4_chargeLateFees_X2_isLateAt rfl rfl rfl (by decide +kernel) ⟨Nat.le_of_ble_eq_true rfl, Nat.le_of_ble_eq_true rfl⟩) rfl hl.1 rfl (Nat.le_of_ble_eq_true rfl) dX4_chargeLateFees_21 ⟨Nat.zero_le _, Nat.zero_le _⟩ (fun H locs S => ?_)
      refine lv_if_eq (tgt := 40) hx hb dX4_chargeLateFees_24 (by decide) (fun c_1 => ?_) (fun c_1 => ?_)
      · have c_1 : (lateI (G 0 8 * 16 + G 0 7) (G (4 + 8 * i + 7) 0) (G (4 + 8 * i + 7) 1) (G (4 + 8 * i + 7) 2) (G (4 + 8 * i + 7) 3) (G (4 + 8 * i + 7) 4)) = false := bI_f c_1
        refine lv_iinc (v := nI (i + 1)) (lv' := [(1, .int (nI (i + 1))), (2, .ref (ad (4 + 8 * i))), (0, .ref (ad 0))]) hx hb dX4_chargeLateFees_40 hl (k := 2) rfl (nI_add _ _) (by decide) rfl (fun ls hl => ?_)
        refine lv_goto (tgt := 2) hx hb dX4_chargeLateFees_43 (by decide) ?_
        exact ih (i + 1) (by omega) G (by rw [show clA F (i + 1) = clS (clA F i) i from rfl, ← eG]; unfold clS; rw [if_neg (by rw [show lfC G i = false from c_1]; decide)]) H locs ls S (lv_sub hl [2, 0] rfl)
      · have c_1 : (lateI (G 0 8 * 16 + G 0 7) (G (4 + 8 * i + 7) 0) (G (4 + 8 * i + 7) 1) (G (4 + 8 * i + 7) 2) (G (4 + 8 * i + 7) 3) (G (4 + 8 * i + 7) 4)) = true := bI_t c_1
        refine lv_aload_n hx hb dX4_chargeLateFees_27 rfl (lv_at hl 0 rfl) ?_
        refine lv_dup hx hb dX4_chargeLateFees_28 rfl ?_
        refine r_geti X S hw3 (ob_S i hi) 6 ⟨rfl, by decide, rfl⟩ rfl (hts (.fieldLink RX4 132 "TermBill$Student" "fees" "I") (by decide +kernel)) dX4_chargeLateFees_29 ?_
        refine lv_aload_n hx hb dX4_chargeLateFees_32 rfl (lv_at hl 1 rfl) ?_
        refine r_geti X S hw4 ob_0 5 ⟨rfl, by decide, rfl⟩ rfl (hts (.fieldLink RX4 29 "TermBill" "lateFee" "I") (by decide +kernel)) dX4_chargeLateFees_33 ?_
        refine lv_iadd hx hb dX4_chargeLateFees_36 ?_
        refine r_puti X S hw3 (ob_S i hi) 6 ⟨rfl, by decide, rfl⟩ rfl (hts (.fieldLink RX4 132 "TermBill$Student" "fees" "I") (by decide +kernel)) tyX3 tyX3_ok nmX3 rfl rfl dX4_chargeLateFees_37 (fun H locs S => ?_)
        obtain ⟨F_2, eF_2⟩ : ∃ z, z = u2 G (4 + 8 * i) 6 ((G (4 + 8 * i) 6) + (G 0 5)) := ⟨_, rfl⟩
        rw [← eF_2] at S
        refine lv_iinc (v := nI (i + 1)) (lv' := [(1, .int (nI (i + 1))), (2, .ref (ad (4 + 8 * i))), (0, .ref (ad 0))]) hx hb dX4_chargeLateFees_40 hl (k := 2) rfl (nI_add _ _) (by decide) rfl (fun ls hl => ?_)
        refine lv_goto (tgt := 2) hx hb dX4_chargeLateFees_43 (by decide) ?_
        exact ih (i + 1) (by omega) F_2 (by rw [show clA F (i + 1) = clS (clA F i) i from rfl, ← eG, eF_2]; unfold clS; rw [if_pos (show lfC G i = true from c_1)]) H locs ls S (lv_sub hl [2, 0] rfl)
  refine lv_iconst (v := 0) hx hb dX4_chargeLateFees_0 (by decide) ?_
  refine lv_istore_n (lv' := [(1, .int 0), (0, .ref (ad 0))]) hx hb dX4_chargeLateFees_1 rfl hl (by decide) rfl (fun ls hl => ?_)
  exact loop 4 0 (by omega) F rfl _ _ ls S (by rw [nI_0]; exact (lv_sub hl [1, 0] rfl))
