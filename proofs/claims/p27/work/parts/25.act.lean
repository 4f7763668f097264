/-! low, used, act -/
def lowI (v n : Int32) : Int32 := (v &&& 2147483647) - (v &&& 2147483647) / n * n
def odB (v : Int32) : Bool := decide (lowI (v >>> (24 &&& 31)) 8 = 0)
def stV (v : Int32) : Int32 := if odB v = true then lowI (v >>> (6 &&& 31)) 7 - 1 else (v >>> (6 &&& 31)) &&& 3
def amV (v : Int32) : Int32 := if odB v = true then lowI (v >>> (9 &&& 31)) 1100000 else (1 : Int32) + lowI (v >>> (9 &&& 31)) (if (v >>> (21 &&& 31)) &&& 1 = 0 then 1000000 else 50000)
def whV (v : Int32) : Int32 := if 11 ≤ lowI v 36 then (if 14 ≤ lowI v 36 then (if 17 ≤ lowI v 36 then (if 20 ≤ lowI v 36 then (if 24 ≤ lowI v 36 then (if 28 ≤ lowI v 36 then 11 else 10) else 9) else 8) else 7) else 6) else 5
def bbV (v : Int32) : Int32 := if whV v = 5 then lowI (v >>> (9 &&& 31)) (if odB v = true then 13 else 10) + (if odB v = true then (0 : Int32) else 1) else if whV v = 6 then lowI (v >>> (9 &&& 31)) (if odB v = true then 10 else 5) else if whV v = 9 then amV v else if whV v = 10 then (1 : Int32) + lowI (v >>> (9 &&& 31)) (if odB v = true then 6 else 4) else lowI (v >>> (12 &&& 31)) (if odB v = true then 5 else 2) + (if whV v = 7 then (if odB v = true then (0 : Int32) else 1) else 0)
def dcQ (v : Int32) : Int32 × Int32 × Int32 × Int32 :=
  if 3 ≤ lowI v 36 then
    (if 6 ≤ lowI v 36 then
      (if 29 ≤ lowI v 36 then (12, 0, 0, 0) else (whV v, stV v, bbV v, amV v))
    else (if lowI v 36 = 3 then (3, lowI (v >>> (6 &&& 31)) 100001, lowI (v >>> (9 &&& 31)) (if odB v = true then 1100000 else 1000001), 0) else (4, stV v, lowI (v >>> (12 &&& 31)) (if odB v = true then 10 else 8), (if lowI v 36 = 4 then amV v else (-1) - amV v))))
  else (lowI v 36, (if lowI v 36 = 0 then lowI (v >>> (6 &&& 31)) (if odB v = true then 3 else 2) else if lowI v 36 = 1 then (1 : Int32) + lowI (v >>> (6 &&& 31)) (if odB v = true then 35 else 15) else lowI (v >>> (6 &&& 31)) (if odB v = true then 18 else 16)), (if lowI v 36 = 0 then (v >>> (8 &&& 31)) &&& 1 else if lowI v 36 = 1 then (15 : Int32) + lowI (v >>> (9 &&& 31)) 16 else lowI (v >>> (9 &&& 31)) (if odB v = true then 110 else 101)), lowI (v >>> (11 &&& 31)) (if odB v = true then 110000 else 100001))
theorem hD_at {l : Launch} {F F1 : FF} {k v h a b c : Int32} (hD : ∀ (D : va_G) (cA : Nat → ClassId) (ad : Nat → Nat) (sz : Nat), CI l D cA ad sz yL_does wsL_does 9 161 1 6 [.ref (ad 0), .int (dcQ v).1, .int (dcQ v).2.1, .int (dcQ v).2.2.1, .int (dcQ v).2.2.2] F (some (.int k)) F1) (e : dcQ v = (h, a, b, c)) (D : va_G) (cA : Nat → ClassId) (ad : Nat → Nat) (sz : Nat) : CI l D cA ad sz yL_does wsL_does 9 161 1 6 [.ref (ad 0), .int h, .int a, .int b, .int c] F (some (.int k)) F1 := by
  have q := hD D cA ad sz
  rw [e] at q
  exact q
set_option maxHeartbeats 1000000 in
set_option maxRecDepth 100000 in
theorem c_L_low (l : Launch) (D : va_G) (cA : Nat → ClassId) (ad : Nat → Nat) (sz : Nat) (F : FF) (v n : Int32) (hn : ¬ n = 0) : CI l D cA ad sz yL_low wsL_low 0 0 0 0 [.int v, .int n] F (some (.int (lowI v n))) F := by
  refine CI_of (own := RL) (cc := cL_low) (maxL := 2) (ret := (some .int)) (by decide +kernel) rfl rfl (Nat.le_of_ble_eq_true rfl) ?_
  intro p e s m below meth c ls X S hr hl
  obtain ⟨⟨hx, hb, hml, hown, hts⟩, hE, hI, hlocks⟩ := id X
  have hl : lv_has ls 2 [(0, .int v), (1, .int n)] := hl
  refine lv_iload_n hx hb dL_low_0 rfl (lv_at hl 0 rfl) ?_
  refine lv_ldc (v := 2147483647) hx hb hown (hts (.constant RL 7 (2147483647)) (by decide +kernel)) dL_low_1 ?_
  refine lv_iand hx hb dL_low_3 ?_
  refine lv_iload_n hx hb dL_low_4 rfl (lv_at hl 1 rfl) ?_
  refine lv_irem hx hb dL_low_5 hn ?_
  exact r_iret X S hr dL_low_6 (Nat.le_of_ble_eq_true rfl) (Nat.le_of_ble_eq_true rfl) rfl rfl

set_option maxHeartbeats 1000000 in
set_option maxRecDepth 100000 in
theorem w_L_used (l : Launch) (D : va_G) (cA : Nat → ClassId) (ad : Nat → Nat) (sz : Nat) (F : FF) (i : Nat) (hi : i < 4) (j : Nat) (hj : j < 6) (h1 : hasI (nI j) (F (4 + 8 * i + 3) 3) = true) : CI l D cA ad sz yL_used wsL_used 5 111 0 0 [.ref (ad 0), .int (nI i), .int (nI j)] F (some (.int (balF F i (4 + 8 * i + 6) j))) (balF F i) := by
  refine CIW_of (own := RL) (cc := cL_used) (maxL := 4) (ret := (some .int)) (hh := [(0, 6, 7, 51)]) (by decide +kernel) rfl rfl (Nat.le_of_ble_eq_true rfl) ?_
  intro p e s m below meth c ls X S hr htab hl
  obtain ⟨⟨hx, hb, hml, hown, hts⟩, hE, hI, hlocks⟩ := id X
  have hl : lv_has ls 4 [(0, .ref (ad 0)), (1, .int (nI i)), (2, .int (nI j))] := hl
  refine lv_aload_n hx hb dL_used_0 rfl (lv_at hl 0 rfl) ?_
  refine lv_iload_n hx hb dL_used_1 rfl (lv_at hl 1 rfl) ?_
  refine lv_iload_n hx hb dL_used_2 rfl (lv_at hl 2 rfl) ?_
  refine r_V0 X S (c_X4_used l D cA ad _ F i hi j hj h1) ob_0 rfl (cwV 2 hts gL_used_X4_used rfl rfl rfl (by decide +kernel) ⟨Nat.le_of_ble_eq_true rfl, Nat.le_of_ble_eq_true rfl⟩) rfl hl.1 rfl (Nat.le_of_ble_eq_true rfl) dL_used_3 ⟨Nat.zero_le _, Nat.zero_le _⟩ (fun H locs S => ?_)
  obtain ⟨F_1, eF_1⟩ : ∃ z, z = balF F i := ⟨_, rfl⟩
  rw [← eF_1] at S
  exact r_iret X S hr dL_used_6 (Nat.le_of_ble_eq_true rfl) (Nat.le_of_ble_eq_true rfl) rfl (by rw [eF_1])

set_option maxHeartbeats 1000000 in
set_option maxRecDepth 100000 in
theorem x4_L_used (l : Launch) (D : va_G) (cA : Nat → ClassId) (ad : Nat → Nat) (sz : Nat) (F : FF) (hst : l.stackTraces = false) (i : Nat) (hi : i < 4) (y : Int32) (h : hasI y (F (4 + 8 * i + 3) 3) = false) : CI l D cA ad sz yL_used wsL_used 7 113 1 6 [.ref (ad 0), .int (nI i), .int y] F (some (.int (-1000000001))) F := by
  refine CIW_of (own := RL) (cc := cL_used) (maxL := 4) (ret := (some .int)) (hh := [(0, 6, 7, 51)]) (by decide +kernel) rfl rfl (Nat.le_of_ble_eq_true rfl) ?_
  intro p e s m below meth c ls X S hr htab hl
  obtain ⟨⟨hx, hb, hml, hown, hts⟩, hE, hI, hlocks⟩ := id X
  have hl : lv_has ls 4 [(0, .ref (ad 0)), (1, .int (nI i)), (2, .int y)] := hl
  refine lv_aload_n hx hb dL_used_0 rfl (lv_at hl 0 rfl) ?_
  refine lv_iload_n hx hb dL_used_1 rfl (lv_at hl 1 rfl) ?_
  refine lv_iload_n hx hb dL_used_2 rfl (lv_at hl 2 rfl) ?_
  refine r_VX X S (x4_X4_used l hst D cA ad _ F i hi y h) ob_0 rfl (cwV 2 hts gL_used_X4_used rfl rfl rfl (by decide +kernel) ⟨Nat.le_of_ble_eq_true rfl, Nat.le_of_ble_eq_true rfl⟩) rfl hl.1 rfl (Nat.le_of_ble_eq_true rfl) dL_used_3 ⟨Nat.le_of_ble_eq_true rfl, Nat.le_of_ble_eq_true rfl⟩ (fun ce q9 H locs S h1 h2 h3 => ?_)
  refine vx_catch (own := RL) (name := "java/lang/IndexOutOfBoundsException") hown [] ⟨0, 6, 7, 51⟩ [] (htab.trans rfl) (fun z hz => nomatch hz) rfl (by decide) (hts (.classLink RL 51 "java/lang/IndexOutOfBoundsException") (by decide +kernel)) (va_Nw.use rfl (hE.2.2.2.2.2.1 "java/lang/IndexOutOfBoundsException" (by simp [xcl]))) h1 h2 h3 ?_
  refine lv_astore_n (lv' := [(3, .ref q9), (0, .ref (ad 0)), (1, .int (nI i)), (2, .int y)]) hx hb dL_used_7 rfl hl (by decide) rfl (fun ls hl => ?_)
  refine lv_ldc (v := -1000000001) hx hb hown (hts (.constant RL 53 (-1000000001)) (by decide +kernel)) dL_used_8 ?_
  exact r_iret X S hr dL_used_10 (Nat.le_of_ble_eq_true rfl) (Nat.le_of_ble_eq_true rfl) rfl rfl

set_option maxHeartbeats 1000000 in
set_option maxRecDepth 100000 in
theorem c_L_act (l : Launch) (D : va_G) (cA : Nat → ClassId) (ad : Nat → Nat) (sz : Nat) (F : FF) (v k : Int32) (F1 : FF) (hD : ∀ (D : va_G) (cA : Nat → ClassId) (ad : Nat → Nat) (sz : Nat), CI l D cA ad sz yL_does wsL_does 9 161 1 6 [.ref (ad 0), .int (dcQ v).1, .int (dcQ v).2.1, .int (dcQ v).2.2.1, .int (dcQ v).2.2.2] F (some (.int k)) F1) : CI l D cA ad sz yL_act wsL_act 10 186 1 6 [.ref (ad 0), .int v] F (some (.int k)) F1 := by
  refine CI_of (own := RL) (cc := cL_act) (maxL := 8) (ret := (some .int)) (by decide +kernel) rfl rfl (Nat.le_of_ble_eq_true rfl) ?_
  intro p e s m below meth c ls X S hr hl
  obtain ⟨⟨hx, hb, hml, hown, hts⟩, hE, hI, hlocks⟩ := id X
  have hl : lv_has ls 8 [(0, .ref (ad 0)), (1, .int v)] := hl
  have kk : ∀ (H : Heap) (locs : List Loc) (ls : Array Slot), St D cA ad F s.heap H locs → lv_has ls 8 [(0, .ref (ad 0)), (1, .int v), (2, .int (bI (odB v))), (3, .int (lowI v 36)), (4, .int (stV v)), (5, .int (amV v))] → W p l e (RM 10 186 1 6) s m [.ref (ad 0), .int v].toArray below meth c H locs 0 0 (MQ below (CQ D cA ad s.heap.size F1 (some (.int k))) [.ref (ad 0), .int v].toArray s 1 6 (AA ad s.heap.size)) (F0 m 94 ls []) := by
    intro H locs ls S hl
    refine lv_iload_n hx hb dL_act_94 rfl (lv_at hl 3 rfl) ?_
    refine lv_iconst (v := 3) hx hb dL_act_95 (by decide) ?_
    refine lv_icmp_ge (tgt := 247) hx hb dL_act_96 (by decide) (fun c_1 => ?_) (fun c_1 => ?_)
    · refine lv_iload_n hx hb dL_act_247 rfl (lv_at hl 3 rfl) ?_
      refine lv_bipush (v := 6) hx hb dL_act_248 (by decide) ?_
      refine lv_icmp_ge (tgt := 334) hx hb dL_act_250 (by decide) (fun c_2 => ?_) (fun c_2 => ?_)
      · refine lv_iload_n hx hb dL_act_334 rfl (lv_at hl 3 rfl) ?_
        refine lv_bipush (v := 29) hx hb dL_act_335 (by decide) ?_
        refine lv_icmp_ge (tgt := 562) hx hb dL_act_337 (by decide) (fun c_3 => ?_) (fun c_3 => ?_)
        · refine lv_aload_n hx hb dL_act_562 rfl (lv_at hl 0 rfl) ?_
          refine lv_bipush (v := 12) hx hb dL_act_563 (by decide) ?_
          refine lv_iconst (v := 0) hx hb dL_act_565 (by decide) ?_
          refine lv_iconst (v := 0) hx hb dL_act_566 (by decide) ?_
          refine lv_iconst (v := 0) hx hb dL_act_567 (by decide) ?_
          refine r_SW X S (hD_at hD (show dcQ v = ((12 : Int32), (0 : Int32), (0 : Int32), (0 : Int32)) from (by unfold dcQ; simp only [c_1, c_2, c_3, Bool.false_eq_true, ↓reduceIte])) D cA ad _) (vx_cwSW 5 (hh := [(0, 176, 177, 51), (0, 176, 182, 54), (0, 176, 187, 56)]) hts gL_act_L_does rfl rfl rfl (by decide +kernel) ⟨Nat.le_of_ble_eq_true rfl, Nat.le_of_ble_eq_true rfl⟩) rfl hl.1 rfl (Nat.le_of_ble_eq_true rfl) dL_act_568 ⟨Nat.le_of_ble_eq_true rfl, Nat.le_of_ble_eq_true rfl⟩ (fun H locs S => ?_)
          exact r_iret X S hr dL_act_571 (Nat.le_of_ble_eq_true rfl) (Nat.le_of_ble_eq_true rfl) rfl rfl
        · refine lv_iload_n hx hb dL_act_340 rfl (lv_at hl 3 rfl) ?_
          refine lv_bipush (v := 11) hx hb dL_act_341 (by decide) ?_
          refine lv_icmp_ge (tgt := 350) hx hb dL_act_343 (by decide) (fun c_4 => ?_) (fun c_4 => ?_)
          · refine lv_iload_n hx hb dL_act_350 rfl (lv_at hl 3 rfl) ?_
            refine lv_bipush (v := 14) hx hb dL_act_351 (by decide) ?_
            refine lv_icmp_ge (tgt := 361) hx hb dL_act_353 (by decide) (fun c_5 => ?_) (fun c_5 => ?_)
            · refine lv_iload_n hx hb dL_act_361 rfl (lv_at hl 3 rfl) ?_
              refine lv_bipush (v := 17) hx hb dL_act_362 (by decide) ?_
              refine lv_icmp_ge (tgt := 372) hx hb dL_act_364 (by decide) (fun c_6 => ?_) (fun c_6 => ?_)
              · refine lv_iload_n hx hb dL_act_372 rfl (lv_at hl 3 rfl) ?_
                refine lv_bipush (v := 20) hx hb dL_act_373 (by decide) ?_
                refine lv_icmp_ge (tgt := 383) hx hb dL_act_375 (by decide) (fun c_7 => ?_) (fun c_7 => ?_)
                · refine lv_iload_n hx hb dL_act_383 rfl (lv_at hl 3 rfl) ?_
                  refine lv_bipush (v := 24) hx hb dL_act_384 (by decide) ?_
                  refine lv_icmp_ge (tgt := 394) hx hb dL_act_386 (by decide) (fun c_8 => ?_) (fun c_8 => ?_)
                  · refine lv_iload_n hx hb dL_act_394 rfl (lv_at hl 3 rfl) ?_
                    refine lv_bipush (v := 28) hx hb dL_act_395 (by decide) ?_
                    refine lv_icmp_ge (tgt := 405) hx hb dL_act_397 (by decide) (fun c_9 => ?_) (fun c_9 => ?_)
                    · refine lv_bipush (v := 11) hx hb dL_act_405 (by decide) ?_
                      refine lv_istore (lv' := [(6, .int 11), (0, .ref (ad 0)), (1, .int v), (2, .int (bI (odB v))), (3, .int (lowI v 36)), (4, .int (stV v)), (5, .int (amV v))]) hx hb dL_act_407 hl (by decide) rfl (fun ls hl => ?_)
                      refine lv_iload hx hb dL_act_409 (lv_at hl 0 rfl) ?_
                      refine lv_iconst (v := 5) hx hb dL_act_411 (by decide) ?_
                      refine lv_icmp_ne (tgt := 446) hx hb dL_act_412 (by decide) (fun _ => ?_) (fun z => False.elim (by first | exact absurd z (by decide) | exact absurd (by decide) z))
                      refine lv_iload hx hb dL_act_446 (lv_at hl 0 rfl) ?_
                      refine lv_bipush (v := 6) hx hb dL_act_448 (by decide) ?_
                      refine lv_icmp_ne (tgt := 473) hx hb dL_act_450 (by decide) (fun _ => ?_) (fun z => False.elim (by first | exact absurd z (by decide) | exact absurd (by decide) z))
                      refine lv_iload hx hb dL_act_473 (lv_at hl 0 rfl) ?_
                      refine lv_bipush (v := 9) hx hb dL_act_475 (by decide) ?_
                      refine lv_icmp_ne (tgt := 485) hx hb dL_act_477 (by decide) (fun _ => ?_) (fun z => False.elim (by first | exact absurd z (by decide) | exact absurd (by decide) z))
                      refine lv_iload hx hb dL_act_485 (lv_at hl 0 rfl) ?_
                      refine lv_bipush (v := 10) hx hb dL_act_487 (by decide) ?_
                      refine lv_icmp_ne (tgt := 514) hx hb dL_act_489 (by decide) (fun _ => ?_) (fun z => False.elim (by first | exact absurd z (by decide) | exact absurd (by decide) z))
                      refine lv_iload_n hx hb dL_act_514 rfl (lv_at hl 2 rfl) ?_
                      refine lv_bipush (v := 12) hx hb dL_act_515 (by decide) ?_
                      refine lv_ishr hx hb dL_act_517 ?_
                      refine lv_iload_n hx hb dL_act_518 rfl (lv_at hl 3 rfl) ?_
                      refine lv_if_eq (tgt := 526) hx hb dL_act_519 (by decide) (fun c_10 => ?_) (fun c_10 => ?_)
                      · have c_10 : (odB v) = false := bI_f c_10
                        refine lv_iconst (v := 2) hx hb dL_act_526 (by decide) ?_
                        refine r_S0 X S (c_L_low l D cA ad _ F (v >>> (12 &&& 31)) 2 (by decide)) (va_cwS 2 hts gL_act_L_low rfl rfl rfl (by decide +kernel) ⟨Nat.le_of_ble_eq_true rfl, Nat.le_of_ble_eq_true rfl⟩) rfl hl.1 rfl (Nat.le_of_ble_eq_true rfl) dL_act_527 ⟨Nat.zero_le _, Nat.zero_le _⟩ (fun H locs S => ?_)
                        refine lv_iload hx hb dL_act_530 (lv_at hl 0 rfl) ?_
                        refine lv_bipush (v := 7) hx hb dL_act_532 (by decide) ?_
                        refine lv_icmp_ne (tgt := 545) hx hb dL_act_534 (by decide) (fun _ => ?_) (fun z => False.elim (by first | exact absurd z (by decide) | exact absurd (by decide) z))
                        refine lv_iconst (v := 0) hx hb dL_act_545 (by decide) ?_
                        refine lv_iadd hx hb dL_act_546 ?_
                        refine lv_istore (lv' := [(7, .int ((lowI (v >>> (12 &&& 31)) 2) + 0)), (6, .int 11), (0, .ref (ad 0)), (1, .int v), (2, .int (bI (odB v))), (3, .int (lowI v 36)), (4, .int (stV v)), (5, .int (amV v))]) hx hb dL_act_547 hl (by decide) rfl (fun ls hl => ?_)
                        refine lv_aload_n hx hb dL_act_549 rfl (lv_at hl 2 rfl) ?_
                        refine lv_iload hx hb dL_act_550 (lv_at hl 1 rfl) ?_
                        refine lv_iload hx hb dL_act_552 (lv_at hl 6 rfl) ?_
                        refine lv_iload hx hb dL_act_554 (lv_at hl 0 rfl) ?_
                        refine lv_iload hx hb dL_act_556 (lv_at hl 7 rfl) ?_
                        refine r_SW X S (hD_at hD (show dcQ v = ((11 : Int32), (stV v : Int32), ((lowI (v >>> (12 &&& 31)) 2) + 0 : Int32), (amV v : Int32)) from (by unfold dcQ; rw [(show bbV v = (lowI (v >>> (12 &&& 31)) 2) + 0 from by unfold bbV; rw [(show whV v = 11 from by unfold whV; simp only [c_1, c_2, c_3, c_4, c_5, c_6, c_7, c_8, c_9, c_10, ↓reduceIte])]; simp only [(show ¬ ((11 : Int32) = 5) from by decide), (show ¬ ((11 : Int32) = 6) from by decide), (show ¬ ((11 : Int32) = 9) from by decide), (show ¬ ((11 : Int32) = 10) from by decide), (show ¬ ((11 : Int32) = 7) from by decide), c_10, eq_self, Bool.false_eq_true, ↓reduceIte]), (show whV v = 11 from by unfold whV; simp only [c_1, c_2, c_3, c_4, c_5, c_6, c_7, c_8, c_9, c_10, ↓reduceIte])]; simp only [c_1, c_2, c_3, c_4, c_5, c_6, c_7, c_8, c_9, c_10, ↓reduceIte])) D cA ad _) (vx_cwSW 5 (hh := [(0, 176, 177, 51), (0, 176, 182, 54), (0, 176, 187, 56)]) hts gL_act_L_does rfl rfl rfl (by decide +kernel) ⟨Nat.le_of_ble_eq_true rfl, Nat.le_of_ble_eq_true rfl⟩) rfl hl.1 rfl (Nat.le_of_ble_eq_true rfl) dL_act_558 ⟨Nat.le_of_ble_eq_true rfl, Nat.le_of_ble_eq_true rfl⟩ (fun H locs S => ?_)
                        exact r_iret X S hr dL_act_561 (Nat.le_of_ble_eq_true rfl) (Nat.le_of_ble_eq_true rfl) rfl rfl
                      · have c_10 : (odB v) = true := bI_t c_10
                        refine lv_iconst (v := 5) hx hb dL_act_522 (by decide) ?_
                        refine lv_goto (tgt := 527) hx hb dL_act_523 (by decide) ?_
                        refine r_S0 X S (c_L_low l D cA ad _ F (v >>> (12 &&& 31)) 5 (by decide)) (va_cwS 2 hts gL_act_L_low rfl rfl rfl (by decide +kernel) ⟨Nat.le_of_ble_eq_true rfl, Nat.le_of_ble_eq_true rfl⟩) rfl hl.1 rfl (Nat.le_of_ble_eq_true rfl) dL_act_527 ⟨Nat.zero_le _, Nat.zero_le _⟩ (fun H locs S => ?_)
                        refine lv_iload hx hb dL_act_530 (lv_at hl 0 rfl) ?_
                        refine lv_bipush (v := 7) hx hb dL_act_532 (by decide) ?_
                        refine lv_icmp_ne (tgt := 545) hx hb dL_act_534 (by decide) (fun _ => ?_) (fun z => False.elim (by first | exact absurd z (by decide) | exact absurd (by decide) z))
                        refine lv_iconst (v := 0) hx hb dL_act_545 (by decide) ?_
                        refine lv_iadd hx hb dL_act_546 ?_
                        refine lv_istore (lv' := [(7, .int ((lowI (v >>> (12 &&& 31)) 5) + 0)), (6, .int 11), (0, .ref (ad 0)), (1, .int v), (2, .int (bI (odB v))), (3, .int (lowI v 36)), (4, .int (stV v)), (5, .int (amV v))]) hx hb dL_act_547 hl (by decide) rfl (fun ls hl => ?_)
                        refine lv_aload_n hx hb dL_act_549 rfl (lv_at hl 2 rfl) ?_
                        refine lv_iload hx hb dL_act_550 (lv_at hl 1 rfl) ?_
                        refine lv_iload hx hb dL_act_552 (lv_at hl 6 rfl) ?_
                        refine lv_iload hx hb dL_act_554 (lv_at hl 0 rfl) ?_
                        refine lv_iload hx hb dL_act_556 (lv_at hl 7 rfl) ?_
                        refine r_SW X S (hD_at hD (show dcQ v = ((11 : Int32), (stV v : Int32), ((lowI (v >>> (12 &&& 31)) 5) + 0 : Int32), (amV v : Int32)) from (by unfold dcQ; rw [(show bbV v = (lowI (v >>> (12 &&& 31)) 5) + 0 from by unfold bbV; rw [(show whV v = 11 from by unfold whV; simp only [c_1, c_2, c_3, c_4, c_5, c_6, c_7, c_8, c_9, c_10, ↓reduceIte])]; simp only [(show ¬ ((11 : Int32) = 5) from by decide), (show ¬ ((11 : Int32) = 6) from by decide), (show ¬ ((11 : Int32) = 9) from by decide), (show ¬ ((11 : Int32) = 10) from by decide), (show ¬ ((11 : Int32) = 7) from by decide), c_10, eq_self, Bool.false_eq_true, ↓reduceIte]), (show whV v = 11 from by unfold whV; simp only [c_1, c_2, c_3, c_4, c_5, c_6, c_7, c_8, c_9, c_10, ↓reduceIte])]; simp only [c_1, c_2, c_3, c_4, c_5, c_6, c_7, c_8, c_9, c_10, ↓reduceIte])) D cA ad _) (vx_cwSW 5 (hh := [(0, 176, 177, 51), (0, 176, 182, 54), (0, 176, 187, 56)]) hts gL_act_L_does rfl rfl rfl (by decide +kernel) ⟨Nat.le_of_ble_eq_true rfl, Nat.le_of_ble_eq_true rfl⟩) rfl hl.1 rfl (Nat.le_of_ble_eq_true rfl) dL_act_558 ⟨Nat.le_of_ble_eq_true rfl, Nat.le_of_ble_eq_true rfl⟩ (fun H locs S => ?_)
                        exact r_iret X S hr dL_act_561 (Nat.le_of_ble_eq_true rfl) (Nat.le_of_ble_eq_true rfl) rfl rfl
                    · refine lv_bipush (v := 10) hx hb dL_act_400 (by decide) ?_
                      refine lv_goto (tgt := 407) hx hb dL_act_402 (by decide) ?_
                      refine lv_istore (lv' := [(6, .int 10), (0, .ref (ad 0)), (1, .int v), (2, .int (bI (odB v))), (3, .int (lowI v 36)), (4, .int (stV v)), (5, .int (amV v))]) hx hb dL_act_407 hl (by decide) rfl (fun ls hl => ?_)
                      refine lv_iload hx hb dL_act_409 (lv_at hl 0 rfl) ?_
                      refine lv_iconst (v := 5) hx hb dL_act_411 (by decide) ?_
                      refine lv_icmp_ne (tgt := 446) hx hb dL_act_412 (by decide) (fun _ => ?_) (fun z => False.elim (by first | exact absurd z (by decide) | exact absurd (by decide) z))
                      refine lv_iload hx hb dL_act_446 (lv_at hl 0 rfl) ?_
                      refine lv_bipush (v := 6) hx hb dL_act_448 (by decide) ?_
                      refine lv_icmp_ne (tgt := 473) hx hb dL_act_450 (by decide) (fun _ => ?_) (fun z => False.elim (by first | exact absurd z (by decide) | exact absurd (by decide) z))
                      refine lv_iload hx hb dL_act_473 (lv_at hl 0 rfl) ?_
                      refine lv_bipush (v := 9) hx hb dL_act_475 (by decide) ?_
                      refine lv_icmp_ne (tgt := 485) hx hb dL_act_477 (by decide) (fun _ => ?_) (fun z => False.elim (by first | exact absurd z (by decide) | exact absurd (by decide) z))
                      refine lv_iload hx hb dL_act_485 (lv_at hl 0 rfl) ?_
                      refine lv_bipush (v := 10) hx hb dL_act_487 (by decide) ?_
                      refine lv_icmp_ne (tgt := 514) hx hb dL_act_489 (by decide) (fun z => False.elim (by first | exact absurd z (by decide) | exact absurd (by decide) z)) (fun _ => ?_)
                      refine lv_iconst (v := 1) hx hb dL_act_492 (by decide) ?_
                      refine lv_iload_n hx hb dL_act_493 rfl (lv_at hl 2 rfl) ?_
                      refine lv_bipush (v := 9) hx hb dL_act_494 (by decide) ?_
                      refine lv_ishr hx hb dL_act_496 ?_
                      refine lv_iload_n hx hb dL_act_497 rfl (lv_at hl 3 rfl) ?_
                      refine lv_if_eq (tgt := 506) hx hb dL_act_498 (by decide) (fun c_11 => ?_) (fun c_11 => ?_)
                      · have c_11 : (odB v) = false := bI_f c_11
                        refine lv_iconst (v := 4) hx hb dL_act_506 (by decide) ?_
                        refine r_S0 X S (c_L_low l D cA ad _ F (v >>> (9 &&& 31)) 4 (by decide)) (va_cwS 2 hts gL_act_L_low rfl rfl rfl (by decide +kernel) ⟨Nat.le_of_ble_eq_true rfl, Nat.le_of_ble_eq_true rfl⟩) rfl hl.1 rfl (Nat.le_of_ble_eq_true rfl) dL_act_507 ⟨Nat.zero_le _, Nat.zero_le _⟩ (fun H locs S => ?_)
                        refine lv_iadd hx hb dL_act_510 ?_
                        refine lv_goto (tgt := 547) hx hb dL_act_511 (by decide) ?_
                        refine lv_istore (lv' := [(7, .int ((1 : Int32) + (lowI (v >>> (9 &&& 31)) 4))), (6, .int 10), (0, .ref (ad 0)), (1, .int v), (2, .int (bI (odB v))), (3, .int (lowI v 36)), (4, .int (stV v)), (5, .int (amV v))]) hx hb dL_act_547 hl (by decide) rfl (fun ls hl => ?_)
                        refine lv_aload_n hx hb dL_act_549 rfl (lv_at hl 2 rfl) ?_
                        refine lv_iload hx hb dL_act_550 (lv_at hl 1 rfl) ?_
                        refine lv_iload hx hb dL_act_552 (lv_at hl 6 rfl) ?_
                        refine lv_iload hx hb dL_act_554 (lv_at hl 0 rfl) ?_
                        refine lv_iload hx hb dL_act_556 (lv_at hl 7 rfl) ?_
                        refine r_SW X S (hD_at hD (show dcQ v = ((10 : Int32), (stV v : Int32), ((1 : Int32) + (lowI (v >>> (9 &&& 31)) 4) : Int32), (amV v : Int32)) from (by unfold dcQ; rw [(show bbV v = (1 : Int32) + (lowI (v >>> (9 &&& 31)) 4) from by unfold bbV; rw [(show whV v = 10 from by unfold whV; simp only [c_1, c_2, c_3, c_4, c_5, c_6, c_7, c_8, c_9, c_11, ↓reduceIte])]; simp only [(show ¬ ((10 : Int32) = 5) from by decide), (show ¬ ((10 : Int32) = 6) from by decide), (show ¬ ((10 : Int32) = 9) from by decide), (show ¬ ((10 : Int32) = 7) from by decide), c_11, eq_self, Bool.false_eq_true, ↓reduceIte]), (show whV v = 10 from by unfold whV; simp only [c_1, c_2, c_3, c_4, c_5, c_6, c_7, c_8, c_9, c_11, ↓reduceIte])]; simp only [c_1, c_2, c_3, c_4, c_5, c_6, c_7, c_8, c_9, c_11, ↓reduceIte])) D cA ad _) (vx_cwSW 5 (hh := [(0, 176, 177, 51), (0, 176, 182, 54), (0, 176, 187, 56)]) hts gL_act_L_does rfl rfl rfl (by decide +kernel) ⟨Nat.le_of_ble_eq_true rfl, Nat.le_of_ble_eq_true rfl⟩) rfl hl.1 rfl (Nat.le_of_ble_eq_true rfl) dL_act_558 ⟨Nat.le_of_ble_eq_true rfl, Nat.le_of_ble_eq_true rfl⟩ (fun H locs S => ?_)
                        exact r_iret X S hr dL_act_561 (Nat.le_of_ble_eq_true rfl) (Nat.le_of_ble_eq_true rfl) rfl rfl
                      · have c_11 : (odB v) = true := bI_t c_11
                        refine lv_bipush (v := 6) hx hb dL_act_501 (by decide) ?_
                        refine lv_goto (tgt := 507) hx hb dL_act_503 (by decide) ?_
                        refine r_S0 X S (c_L_low l D cA ad _ F (v >>> (9 &&& 31)) 6 (by decide)) (va_cwS 2 hts gL_act_L_low rfl rfl rfl (by decide +kernel) ⟨Nat.le_of_ble_eq_true rfl, Nat.le_of_ble_eq_true rfl⟩) rfl hl.1 rfl (Nat.le_of_ble_eq_true rfl) dL_act_507 ⟨Nat.zero_le _, Nat.zero_le _⟩ (fun H locs S => ?_)
                        refine lv_iadd hx hb dL_act_510 ?_
                        refine lv_goto (tgt := 547) hx hb dL_act_511 (by decide) ?_
                        refine lv_istore (lv' := [(7, .int ((1 : Int32) + (lowI (v >>> (9 &&& 31)) 6))), (6, .int 10), (0, .ref (ad 0)), (1, .int v), (2, .int (bI (odB v))), (3, .int (lowI v 36)), (4, .int (stV v)), (5, .int (amV v))]) hx hb dL_act_547 hl (by decide) rfl (fun ls hl => ?_)
                        refine lv_aload_n hx hb dL_act_549 rfl (lv_at hl 2 rfl) ?_
                        refine lv_iload hx hb dL_act_550 (lv_at hl 1 rfl) ?_
                        refine lv_iload hx hb dL_act_552 (lv_at hl 6 rfl) ?_
                        refine lv_iload hx hb dL_act_554 (lv_at hl 0 rfl) ?_
                        refine lv_iload hx hb dL_act_556 (lv_at hl 7 rfl) ?_
                        refine r_SW X S (hD_at hD (show dcQ v = ((10 : Int32), (stV v : Int32), ((1 : Int32) + (lowI (v >>> (9 &&& 31)) 6) : Int32), (amV v : Int32)) from (by unfold dcQ; rw [(show bbV v = (1 : Int32) + (lowI (v >>> (9 &&& 31)) 6) from by unfold bbV; rw [(show whV v = 10 from by unfold whV; simp only [c_1, c_2, c_3, c_4, c_5, c_6, c_7, c_8, c_9, c_11, ↓reduceIte])]; simp only [(show ¬ ((10 : Int32) = 5) from by decide), (show ¬ ((10 : Int32) = 6) from by decide), (show ¬ ((10 : Int32) = 9) from by decide), (show ¬ ((10 : Int32) = 7) from by decide), c_11, eq_self, Bool.false_eq_true, ↓reduceIte]), (show whV v = 10 from by unfold whV; simp only [c_1, c_2, c_3, c_4, c_5, c_6, c_7, c_8, c_9, c_11, ↓reduceIte])]; simp only [c_1, c_2, c_3, c_4, c_5, c_6, c_7, c_8, c_9, c_11, ↓reduceIte])) D cA ad _) (vx_cwSW 5 (hh := [(0, 176, 177, 51), (0, 176, 182, 54), (0, 176, 187, 56)]) hts gL_act_L_does rfl rfl rfl (by decide +kernel) ⟨Nat.le_of_ble_eq_true rfl, Nat.le_of_ble_eq_true rfl⟩) rfl hl.1 rfl (Nat.le_of_ble_eq_true rfl) dL_act_558 ⟨Nat.le_of_ble_eq_true rfl, Nat.le_of_ble_eq_true rfl⟩ (fun H locs S => ?_)
                        exact r_iret X S hr dL_act_561 (Nat.le_of_ble_eq_true rfl) (Nat.le_of_ble_eq_true rfl) rfl rfl
                  · refine lv_bipush (v := 9) hx hb dL_act_389 (by decide) ?_
                    refine lv_goto (tgt := 407) hx hb dL_act_391 (by decide) ?_
                    refine lv_istore (lv' := [(6, .int 9), (0, .ref (ad 0)), (1, .int v), (2, .int (bI (odB v))), (3, .int (lowI v 36)), (4, .int (stV v)), (5, .int (amV v))]) hx hb dL_act_407 hl (by decide) rfl (fun ls hl => ?_)
                    refine lv_iload hx hb dL_act_409 (lv_at hl 0 rfl) ?_
                    refine lv_iconst (v := 5) hx hb dL_act_411 (by decide) ?_
                    refine lv_icmp_ne (tgt := 446) hx hb dL_act_412 (by decide) (fun _ => ?_) (fun z => False.elim (by first | exact absurd z (by decide) | exact absurd (by decide) z))
                    refine lv_iload hx hb dL_act_446 (lv_at hl 0 rfl) ?_
                    refine lv_bipush (v := 6) hx hb dL_act_448 (by decide) ?_
                    refine lv_icmp_ne (tgt := 473) hx hb dL_act_450 (by decide) (fun _ => ?_) (fun z => False.elim (by first | exact absurd z (by decide) | exact absurd (by decide) z))
                    refine lv_iload hx hb dL_act_473 (lv_at hl 0 rfl) ?_
                    refine lv_bipush (v := 9) hx hb dL_act_475 (by decide) ?_
                    refine lv_icmp_ne (tgt := 485) hx hb dL_act_477 (by decide) (fun z => False.elim (by first | exact absurd z (by decide) | exact absurd (by decide) z)) (fun _ => ?_)
                    refine lv_iload hx hb dL_act_480 (lv_at hl 6 rfl) ?_
                    refine lv_goto (tgt := 547) hx hb dL_act_482 (by decide) ?_
                    refine lv_istore (lv' := [(7, .int (amV v)), (6, .int 9), (0, .ref (ad 0)), (1, .int v), (2, .int (bI (odB v))), (3, .int (lowI v 36)), (4, .int (stV v)), (5, .int (amV v))]) hx hb dL_act_547 hl (by decide) rfl (fun ls hl => ?_)
                    refine lv_aload_n hx hb dL_act_549 rfl (lv_at hl 2 rfl) ?_
                    refine lv_iload hx hb dL_act_550 (lv_at hl 1 rfl) ?_
                    refine lv_iload hx hb dL_act_552 (lv_at hl 6 rfl) ?_
                    refine lv_iload hx hb dL_act_554 (lv_at hl 0 rfl) ?_
                    refine lv_iload hx hb dL_act_556 (lv_at hl 7 rfl) ?_
                    refine r_SW X S (hD_at hD (show dcQ v = ((9 : Int32), (stV v : Int32), (amV v : Int32), (amV v : Int32)) from (by unfold dcQ; rw [(show bbV v = amV v from by unfold bbV; rw [(show whV v = 9 from by unfold whV; simp only [c_1, c_2, c_3, c_4, c_5, c_6, c_7, c_8, ↓reduceIte])]; simp only [(show ¬ ((9 : Int32) = 5) from by decide), (show ¬ ((9 : Int32) = 6) from by decide), (show ¬ ((9 : Int32) = 10) from by decide), (show ¬ ((9 : Int32) = 7) from by decide), eq_self, Bool.false_eq_true, ↓reduceIte]), (show whV v = 9 from by unfold whV; simp only [c_1, c_2, c_3, c_4, c_5, c_6, c_7, c_8, ↓reduceIte])]; simp only [c_1, c_2, c_3, c_4, c_5, c_6, c_7, c_8, ↓reduceIte])) D cA ad _) (vx_cwSW 5 (hh := [(0, 176, 177, 51), (0, 176, 182, 54), (0, 176, 187, 56)]) hts gL_act_L_does rfl rfl rfl (by decide +kernel) ⟨Nat.le_of_ble_eq_true rfl, Nat.le_of_ble_eq_true rfl⟩) rfl hl.1 rfl (Nat.le_of_ble_eq_true rfl) dL_act_558 ⟨Nat.le_of_ble_eq_true rfl, Nat.le_of_ble_eq_true rfl⟩ (fun H locs S => ?_)
                    exact r_iret X S hr dL_act_561 (Nat.le_of_ble_eq_true rfl) (Nat.le_of_ble_eq_true rfl) rfl rfl
                · refine lv_bipush (v := 8) hx hb dL_act_378 (by decide) ?_
                  refine lv_goto (tgt := 407) hx hb dL_act_380 (by decide) ?_
                  refine lv_istore (lv' := [(6, .int 8), (0, .ref (ad 0)), (1, .int v), (2, .int (bI (odB v))), (3, .int (lowI v 36)), (4, .int (stV v)), (5, .int (amV v))]) hx hb dL_act_407 hl (by decide) rfl (fun ls hl => ?_)
                  refine lv_iload hx hb dL_act_409 (lv_at hl 0 rfl) ?_
                  refine lv_iconst (v := 5) hx hb dL_act_411 (by decide) ?_
                  refine lv_icmp_ne (tgt := 446) hx hb dL_act_412 (by decide) (fun _ => ?_) (fun z => False.elim (by first | exact absurd z (by decide) | exact absurd (by decide) z))
                  refine lv_iload hx hb dL_act_446 (lv_at hl 0 rfl) ?_
                  refine lv_bipush (v := 6) hx hb dL_act_448 (by decide) ?_
                  refine lv_icmp_ne (tgt := 473) hx hb dL_act_450 (by decide) (fun _ => ?_) (fun z => False.elim (by first | exact absurd z (by decide) | exact absurd (by decide) z))
                  refine lv_iload hx hb dL_act_473 (lv_at hl 0 rfl) ?_
                  refine lv_bipush (v := 9) hx hb dL_act_475 (by decide) ?_
                  refine lv_icmp_ne (tgt := 485) hx hb dL_act_477 (by decide) (fun _ => ?_) (fun z => False.elim (by first | exact absurd z (by decide) | exact absurd (by decide) z))
                  refine lv_iload hx hb dL_act_485 (lv_at hl 0 rfl) ?_
                  refine lv_bipush (v := 10) hx hb dL_act_487 (by decide) ?_
                  refine lv_icmp_ne (tgt := 514) hx hb dL_act_489 (by decide) (fun _ => ?_) (fun z => False.elim (by first | exact absurd z (by decide) | exact absurd (by decide) z))
                  refine lv_iload_n hx hb dL_act_514 rfl (lv_at hl 2 rfl) ?_
                  refine lv_bipush (v := 12) hx hb dL_act_515 (by decide) ?_
                  refine lv_ishr hx hb dL_act_517 ?_
                  refine lv_iload_n hx hb dL_act_518 rfl (lv_at hl 3 rfl) ?_
                  refine lv_if_eq (tgt := 526) hx hb dL_act_519 (by decide) (fun c_12 => ?_) (fun c_12 => ?_)
                  · have c_12 : (odB v) = false := bI_f c_12
                    refine lv_iconst (v := 2) hx hb dL_act_526 (by decide) ?_
                    refine r_S0 X S (c_L_low l D cA ad _ F (v >>> (12 &&& 31)) 2 (by decide)) (va_cwS 2 hts gL_act_L_low rfl rfl rfl (by decide +kernel) ⟨Nat.le_of_ble_eq_true rfl, Nat.le_of_ble_eq_true rfl⟩) rfl hl.1 rfl (Nat.le_of_ble_eq_true rfl) dL_act_527 ⟨Nat.zero_le _, Nat.zero_le _⟩ (fun H locs S => ?_)
                    refine lv_iload hx hb dL_act_530 (lv_at hl 0 rfl) ?_
                    refine lv_bipush (v := 7) hx hb dL_act_532 (by decide) ?_
                    refine lv_icmp_ne (tgt := 545) hx hb dL_act_534 (by decide) (fun _ => ?_) (fun z => False.elim (by first | exact absurd z (by decide) | exact absurd (by decide) z))
                    refine lv_iconst (v := 0) hx hb dL_act_545 (by decide) ?_
                    refine lv_iadd hx hb dL_act_546 ?_
                    refine lv_istore (lv' := [(7, .int ((lowI (v >>> (12 &&& 31)) 2) + 0)), (6, .int 8), (0, .ref (ad 0)), (1, .int v), (2, .int (bI (odB v))), (3, .int (lowI v 36)), (4, .int (stV v)), (5, .int (amV v))]) hx hb dL_act_547 hl (by decide) rfl (fun ls hl => ?_)
                    refine lv_aload_n hx hb dL_act_549 rfl (lv_at hl 2 rfl) ?_
                    refine lv_iload hx hb dL_act_550 (lv_at hl 1 rfl) ?_
                    refine lv_iload hx hb dL_act_552 (lv_at hl 6 rfl) ?_
                    refine lv_iload hx hb dL_act_554 (lv_at hl 0 rfl) ?_
                    refine lv_iload hx hb dL_act_556 (lv_at hl 7 rfl) ?_
                    refine r_SW X S (hD_at hD (show dcQ v = ((8 : Int32), (stV v : Int32), ((lowI (v >>> (12 &&& 31)) 2) + 0 : Int32), (amV v : Int32)) from (by unfold dcQ; rw [(show bbV v = (lowI (v >>> (12 &&& 31)) 2) + 0 from by unfold bbV; rw [(show whV v = 8 from by unfold whV; simp only [c_1, c_2, c_3, c_4, c_5, c_6, c_7, c_12, ↓reduceIte])]; simp only [(show ¬ ((8 : Int32) = 5) from by decide), (show ¬ ((8 : Int32) = 6) from by decide), (show ¬ ((8 : Int32) = 9) from by decide), (show ¬ ((8 : Int32) = 10) from by decide), (show ¬ ((8 : Int32) = 7) from by decide), c_12, eq_self, Bool.false_eq_true, ↓reduceIte]), (show whV v = 8 from by unfold whV; simp only [c_1, c_2, c_3, c_4, c_5, c_6, c_7, c_12, ↓reduceIte])]; simp only [c_1, c_2, c_3, c_4, c_5, c_6, c_7, c_12, ↓reduceIte])) D cA ad _) (vx_cwSW 5 (hh := [(0, 176, 177, 51), (0, 176, 182, 54), (0, 176, 187, 56)]) hts gL_act_L_does rfl rfl rfl (by decide +kernel) ⟨Nat.le_of_ble_eq_true rfl, Nat.le_of_ble_eq_true rfl⟩) rfl hl.1 rfl (Nat.le_of_ble_eq_true rfl) dL_act_558 ⟨Nat.le_of_ble_eq_true rfl, Nat.le_of_ble_eq_true rfl⟩ (fun H locs S => ?_)
                    exact r_iret X S hr dL_act_561 (Nat.le_of_ble_eq_true rfl) (Nat.le_of_ble_eq_true rfl) rfl rfl
                  · have c_12 : (odB v) = true := bI_t c_12
                    refine lv_iconst (v := 5) hx hb dL_act_522 (by decide) ?_
                    refine lv_goto (tgt := 527) hx hb dL_act_523 (by decide) ?_
                    refine r_S0 X S (c_L_low l D cA ad _ F (v >>> (12 &&& 31)) 5 (by decide)) (va_cwS 2 hts gL_act_L_low rfl rfl rfl (by decide +kernel) ⟨Nat.le_of_ble_eq_true rfl, Nat.le_of_ble_eq_true rfl⟩) rfl hl.1 rfl (Nat.le_of_ble_eq_true rfl) dL_act_527 ⟨Nat.zero_le _, Nat.zero_le _⟩ (fun H locs S => ?_)
                    refine lv_iload hx hb dL_act_530 (lv_at hl 0 rfl) ?_
                    refine lv_bipush (v := 7) hx hb dL_act_532 (by decide) ?_
                    refine lv_icmp_ne (tgt := 545) hx hb dL_act_534 (by decide) (fun _ => ?_) (fun z => False.elim (by first | exact absurd z (by decide) | exact absurd (by decide) z))
                    refine lv_iconst (v := 0) hx hb dL_act_545 (by decide) ?_
                    refine lv_iadd hx hb dL_act_546 ?_
                    refine lv_istore (lv' := [(7, .int ((lowI (v >>> (12 &&& 31)) 5) + 0)), (6, .int 8), (0, .ref (ad 0)), (1, .int v), (2, .int (bI (odB v))), (3, .int (lowI v 36)), (4, .int (stV v)), (5, .int (amV v))]) hx hb dL_act_547 hl (by decide) rfl (fun ls hl => ?_)
                    refine lv_aload_n hx hb dL_act_549 rfl (lv_at hl 2 rfl) ?_
                    refine lv_iload hx hb dL_act_550 (lv_at hl 1 rfl) ?_
                    refine lv_iload hx hb dL_act_552 (lv_at hl 6 rfl) ?_
                    refine lv_iload hx hb dL_act_554 (lv_at hl 0 rfl) ?_
                    refine lv_iload hx hb dL_act_556 (lv_at hl 7 rfl) ?_
                    refine r_SW X S (hD_at hD (show dcQ v = ((8 : Int32), (stV v : Int32), ((lowI (v >>> (12 &&& 31)) 5) + 0 : Int32), (amV v : Int32)) from (by unfold dcQ; rw [(show bbV v = (lowI (v >>> (12 &&& 31)) 5) + 0 from by unfold bbV; rw [(show whV v = 8 from by unfold whV; simp only [c_1, c_2, c_3, c_4, c_5, c_6, c_7, c_12, ↓reduceIte])]; simp only [(show ¬ ((8 : Int32) = 5) from by decide), (show ¬ ((8 : Int32) = 6) from by decide), (show ¬ ((8 : Int32) = 9) from by decide), (show ¬ ((8 : Int32) = 10) from by decide), (show ¬ ((8 : Int32) = 7) from by decide), c_12, eq_self, Bool.false_eq_true, ↓reduceIte]), (show whV v = 8 from by unfold whV; simp only [c_1, c_2, c_3, c_4, c_5, c_6, c_7, c_12, ↓reduceIte])]; simp only [c_1, c_2, c_3, c_4, c_5, c_6, c_7, c_12, ↓reduceIte])) D cA ad _) (vx_cwSW 5 (hh := [(0, 176, 177, 51), (0, 176, 182, 54), (0, 176, 187, 56)]) hts gL_act_L_does rfl rfl rfl (by decide +kernel) ⟨Nat.le_of_ble_eq_true rfl, Nat.le_of_ble_eq_true rfl⟩) rfl hl.1 rfl (Nat.le_of_ble_eq_true rfl) dL_act_558 ⟨Nat.le_of_ble_eq_true rfl, Nat.le_of_ble_eq_true rfl⟩ (fun H locs S => ?_)
                    exact r_iret X S hr dL_act_561 (Nat.le_of_ble_eq_true rfl) (Nat.le_of_ble_eq_true rfl) rfl rfl
              · refine lv_bipush (v := 7) hx hb dL_act_367 (by decide) ?_
                refine lv_goto (tgt := 407) hx hb dL_act_369 (by decide) ?_
                refine lv_istore (lv' := [(6, .int 7), (0, .ref (ad 0)), (1, .int v), (2, .int (bI (odB v))), (3, .int (lowI v 36)), (4, .int (stV v)), (5, .int (amV v))]) hx hb dL_act_407 hl (by decide) rfl (fun ls hl => ?_)
                refine lv_iload hx hb dL_act_409 (lv_at hl 0 rfl) ?_
                refine lv_iconst (v := 5) hx hb dL_act_411 (by decide) ?_
                refine lv_icmp_ne (tgt := 446) hx hb dL_act_412 (by decide) (fun _ => ?_) (fun z => False.elim (by first | exact absurd z (by decide) | exact absurd (by decide) z))
                refine lv_iload hx hb dL_act_446 (lv_at hl 0 rfl) ?_
                refine lv_bipush (v := 6) hx hb dL_act_448 (by decide) ?_
                refine lv_icmp_ne (tgt := 473) hx hb dL_act_450 (by decide) (fun _ => ?_) (fun z => False.elim (by first | exact absurd z (by decide) | exact absurd (by decide) z))
                refine lv_iload hx hb dL_act_473 (lv_at hl 0 rfl) ?_
                refine lv_bipush (v := 9) hx hb dL_act_475 (by decide) ?_
                refine lv_icmp_ne (tgt := 485) hx hb dL_act_477 (by decide) (fun _ => ?_) (fun z => False.elim (by first | exact absurd z (by decide) | exact absurd (by decide) z))
                refine lv_iload hx hb dL_act_485 (lv_at hl 0 rfl) ?_
                refine lv_bipush (v := 10) hx hb dL_act_487 (by decide) ?_
                refine lv_icmp_ne (tgt := 514) hx hb dL_act_489 (by decide) (fun _ => ?_) (fun z => False.elim (by first | exact absurd z (by decide) | exact absurd (by decide) z))
                refine lv_iload_n hx hb dL_act_514 rfl (lv_at hl 2 rfl) ?_
                refine lv_bipush (v := 12) hx hb dL_act_515 (by decide) ?_
                refine lv_ishr hx hb dL_act_517 ?_
                refine lv_iload_n hx hb dL_act_518 rfl (lv_at hl 3 rfl) ?_
                refine lv_if_eq (tgt := 526) hx hb dL_act_519 (by decide) (fun c_13 => ?_) (fun c_13 => ?_)
                · have c_13 : (odB v) = false := bI_f c_13
                  refine lv_iconst (v := 2) hx hb dL_act_526 (by decide) ?_
                  refine r_S0 X S (c_L_low l D cA ad _ F (v >>> (12 &&& 31)) 2 (by decide)) (va_cwS 2 hts gL_act_L_low rfl rfl rfl (by decide +kernel) ⟨Nat.le_of_ble_eq_true rfl, Nat.le_of_ble_eq_true rfl⟩) rfl hl.1 rfl (Nat.le_of_ble_eq_true rfl) dL_act_527 ⟨Nat.zero_le _, Nat.zero_le _⟩ (fun H locs S => ?_)
                  refine lv_iload hx hb dL_act_530 (lv_at hl 0 rfl) ?_
                  refine lv_bipush (v := 7) hx hb dL_act_532 (by decide) ?_
                  refine lv_icmp_ne (tgt := 545) hx hb dL_act_534 (by decide) (fun z => False.elim (by first | exact absurd z (by decide) | exact absurd (by decide) z)) (fun _ => ?_)
                  refine lv_iload_n hx hb dL_act_537 rfl (lv_at hl 3 rfl) ?_
                  refine lv_if_ne (tgt := 545) hx hb dL_act_538 (by decide) (fun z => False.elim (by rw [c_13] at z; revert z; decide)) (fun _ => ?_)
                  refine lv_iconst (v := 1) hx hb dL_act_541 (by decide) ?_
                  refine lv_goto (tgt := 546) hx hb dL_act_542 (by decide) ?_
                  refine lv_iadd hx hb dL_act_546 ?_
                  refine lv_istore (lv' := [(7, .int ((lowI (v >>> (12 &&& 31)) 2) + 1)), (6, .int 7), (0, .ref (ad 0)), (1, .int v), (2, .int (bI (odB v))), (3, .int (lowI v 36)), (4, .int (stV v)), (5, .int (amV v))]) hx hb dL_act_547 hl (by decide) rfl (fun ls hl => ?_)
                  refine lv_aload_n hx hb dL_act_549 rfl (lv_at hl 2 rfl) ?_
                  refine lv_iload hx hb dL_act_550 (lv_at hl 1 rfl) ?_
                  refine lv_iload hx hb dL_act_552 (lv_at hl 6 rfl) ?_
                  refine lv_iload hx hb dL_act_554 (lv_at hl 0 rfl) ?_
                  refine lv_iload hx hb dL_act_556 (lv_at hl 7 rfl) ?_
                  refine r_SW X S (hD_at hD (show dcQ v = ((7 : Int32), (stV v : Int32), ((lowI (v >>> (12 &&& 31)) 2) + 1 : Int32), (amV v : Int32)) from (by unfold dcQ; rw [(show bbV v = (lowI (v >>> (12 &&& 31)) 2) + 1 from by unfold bbV; rw [(show whV v = 7 from by unfold whV; simp only [c_1, c_2, c_3, c_4, c_5, c_6, c_13, ↓reduceIte])]; simp only [(show ¬ ((7 : Int32) = 5) from by decide), (show ¬ ((7 : Int32) = 6) from by decide), (show ¬ ((7 : Int32) = 9) from by decide), (show ¬ ((7 : Int32) = 10) from by decide), c_13, eq_self, Bool.false_eq_true, ↓reduceIte]), (show whV v = 7 from by unfold whV; simp only [c_1, c_2, c_3, c_4, c_5, c_6, c_13, ↓reduceIte])]; simp only [c_1, c_2, c_3, c_4, c_5, c_6, c_13, ↓reduceIte])) D cA ad _) (vx_cwSW 5 (hh := [(0, 176, 177, 51), (0, 176, 182, 54), (0, 176, 187, 56)]) hts gL_act_L_does rfl rfl rfl (by decide +kernel) ⟨Nat.le_of_ble_eq_true rfl, Nat.le_of_ble_eq_true rfl⟩) rfl hl.1 rfl (Nat.le_of_ble_eq_true rfl) dL_act_558 ⟨Nat.le_of_ble_eq_true rfl, Nat.le_of_ble_eq_true rfl⟩ (fun H locs S => ?_)
                  exact r_iret X S hr dL_act_561 (Nat.le_of_ble_eq_true rfl) (Nat.le_of_ble_eq_true rfl) rfl rfl
                · have c_13 : (odB v) = true := bI_t c_13
                  refine lv_iconst (v := 5) hx hb dL_act_522 (by decide) ?_
                  refine lv_goto (tgt := 527) hx hb dL_act_523 (by decide) ?_
                  refine r_S0 X S (c_L_low l D cA ad _ F (v >>> (12 &&& 31)) 5 (by decide)) (va_cwS 2 hts gL_act_L_low rfl rfl rfl (by decide +kernel) ⟨Nat.le_of_ble_eq_true rfl, Nat.le_of_ble_eq_true rfl⟩) rfl hl.1 rfl (Nat.le_of_ble_eq_true rfl) dL_act_527 ⟨Nat.zero_le _, Nat.zero_le _⟩ (fun H locs S => ?_)
                  refine lv_iload hx hb dL_act_530 (lv_at hl 0 rfl) ?_
                  refine lv_bipush (v := 7) hx hb dL_act_532 (by decide) ?_
                  refine lv_icmp_ne (tgt := 545) hx hb dL_act_534 (by decide) (fun z => False.elim (by first | exact absurd z (by decide) | exact absurd (by decide) z)) (fun _ => ?_)
                  refine lv_iload_n hx hb dL_act_537 rfl (lv_at hl 3 rfl) ?_
                  refine lv_if_ne (tgt := 545) hx hb dL_act_538 (by decide) (fun _ => ?_) (fun z => False.elim (by rw [c_13] at z; revert z; decide))
                  refine lv_iconst (v := 0) hx hb dL_act_545 (by decide) ?_
                  refine lv_iadd hx hb dL_act_546 ?_
                  refine lv_istore (lv' := [(7, .int ((lowI (v >>> (12 &&& 31)) 5) + 0)), (6, .int 7), (0, .ref (ad 0)), (1, .int v), (2, .int (bI (odB v))), (3, .int (lowI v 36)), (4, .int (stV v)), (5, .int (amV v))]) hx hb dL_act_547 hl (by decide) rfl (fun ls hl => ?_)
                  refine lv_aload_n hx hb dL_act_549 rfl (lv_at hl 2 rfl) ?_
                  refine lv_iload hx hb dL_act_550 (lv_at hl 1 rfl) ?_
                  refine lv_iload hx hb dL_act_552 (lv_at hl 6 rfl) ?_
                  refine lv_iload hx hb dL_act_554 (lv_at hl 0 rfl) ?_
                  refine lv_iload hx hb dL_act_556 (lv_at hl 7 rfl) ?_
                  refine r_SW X S (hD_at hD (show dcQ v = ((7 : Int32), (stV v : Int32), ((lowI (v >>> (12 &&& 31)) 5) + 0 : Int32), (amV v : Int32)) from (by unfold dcQ; rw [(show bbV v = (lowI (v >>> (12 &&& 31)) 5) + 0 from by unfold bbV; rw [(show whV v = 7 from by unfold whV; simp only [c_1, c_2, c_3, c_4, c_5, c_6, c_13, ↓reduceIte])]; simp only [(show ¬ ((7 : Int32) = 5) from by decide), (show ¬ ((7 : Int32) = 6) from by decide), (show ¬ ((7 : Int32) = 9) from by decide), (show ¬ ((7 : Int32) = 10) from by decide), c_13, eq_self, Bool.false_eq_true, ↓reduceIte]), (show whV v = 7 from by unfold whV; simp only [c_1, c_2, c_3, c_4, c_5, c_6, c_13, ↓reduceIte])]; simp only [c_1, c_2, c_3, c_4, c_5, c_6, c_13, ↓reduceIte])) D cA ad _) (vx_cwSW 5 (hh := [(0, 176, 177, 51), (0, 176, 182, 54), (0, 176, 187, 56)]) hts gL_act_L_does rfl rfl rfl (by decide +kernel) ⟨Nat.le_of_ble_eq_true rfl, Nat.le_of_ble_eq_true rfl⟩) rfl hl.1 rfl (Nat.le_of_ble_eq_true rfl) dL_act_558 ⟨Nat.le_of_ble_eq_true rfl, Nat.le_of_ble_eq_true rfl⟩ (fun H locs S => ?_)
                  exact r_iret X S hr dL_act_561 (Nat.le_of_ble_eq_true rfl) (Nat.le_of_ble_eq_true rfl) rfl rfl
            · refine lv_bipush (v := 6) hx hb dL_act_356 (by decide) ?_
              refine lv_goto (tgt := 407) hx hb dL_act_358 (by decide) ?_
              refine lv_istore (lv' := [(6, .int 6), (0, .ref (ad 0)), (1, .int v), (2, .int (bI (odB v))), (3, .int (lowI v 36)), (4, .int (stV v)), (5, .int (amV v))]) hx hb dL_act_407 hl (by decide) rfl (fun ls hl => ?_)
              refine lv_iload hx hb dL_act_409 (lv_at hl 0 rfl) ?_
              refine lv_iconst (v := 5) hx hb dL_act_411 (by decide) ?_
              refine lv_icmp_ne (tgt := 446) hx hb dL_act_412 (by decide) (fun _ => ?_) (fun z => False.elim (by first | exact absurd z (by decide) | exact absurd (by decide) z))
              refine lv_iload hx hb dL_act_446 (lv_at hl 0 rfl) ?_
              refine lv_bipush (v := 6) hx hb dL_act_448 (by decide) ?_
              refine lv_icmp_ne (tgt := 473) hx hb dL_act_450 (by decide) (fun z => False.elim (by first | exact absurd z (by decide) | exact absurd (by decide) z)) (fun _ => ?_)
              refine lv_iload_n hx hb dL_act_453 rfl (lv_at hl 2 rfl) ?_
              refine lv_bipush (v := 9) hx hb dL_act_454 (by decide) ?_
              refine lv_ishr hx hb dL_act_456 ?_
              refine lv_iload_n hx hb dL_act_457 rfl (lv_at hl 3 rfl) ?_
              refine lv_if_eq (tgt := 466) hx hb dL_act_458 (by decide) (fun c_14 => ?_) (fun c_14 => ?_)
              · have c_14 : (odB v) = false := bI_f c_14
                refine lv_iconst (v := 5) hx hb dL_act_466 (by decide) ?_
                refine r_S0 X S (c_L_low l D cA ad _ F (v >>> (9 &&& 31)) 5 (by decide)) (va_cwS 2 hts gL_act_L_low rfl rfl rfl (by decide +kernel) ⟨Nat.le_of_ble_eq_true rfl, Nat.le_of_ble_eq_true rfl⟩) rfl hl.1 rfl (Nat.le_of_ble_eq_true rfl) dL_act_467 ⟨Nat.zero_le _, Nat.zero_le _⟩ (fun H locs S => ?_)
                refine lv_goto (tgt := 547) hx hb dL_act_470 (by decide) ?_
                refine lv_istore (lv' := [(7, .int (lowI (v >>> (9 &&& 31)) 5)), (6, .int 6), (0, .ref (ad 0)), (1, .int v), (2, .int (bI (odB v))), (3, .int (lowI v 36)), (4, .int (stV v)), (5, .int (amV v))]) hx hb dL_act_547 hl (by decide) rfl (fun ls hl => ?_)
                refine lv_aload_n hx hb dL_act_549 rfl (lv_at hl 2 rfl) ?_
                refine lv_iload hx hb dL_act_550 (lv_at hl 1 rfl) ?_
                refine lv_iload hx hb dL_act_552 (lv_at hl 6 rfl) ?_
                refine lv_iload hx hb dL_act_554 (lv_at hl 0 rfl) ?_
                refine lv_iload hx hb dL_act_556 (lv_at hl 7 rfl) ?_
                refine r_SW X S (hD_at hD (show dcQ v = ((6 : Int32), (stV v : Int32), (lowI (v >>> (9 &&& 31)) 5 : Int32), (amV v : Int32)) from (by unfold dcQ; rw [(show bbV v = lowI (v >>> (9 &&& 31)) 5 from by unfold bbV; rw [(show whV v = 6 from by unfold whV; simp only [c_1, c_2, c_3, c_4, c_5, c_14, ↓reduceIte])]; simp only [(show ¬ ((6 : Int32) = 5) from by decide), (show ¬ ((6 : Int32) = 9) from by decide), (show ¬ ((6 : Int32) = 10) from by decide), (show ¬ ((6 : Int32) = 7) from by decide), c_14, eq_self, Bool.false_eq_true, ↓reduceIte]), (show whV v = 6 from by unfold whV; simp only [c_1, c_2, c_3, c_4, c_5, c_14, ↓reduceIte])]; simp only [c_1, c_2, c_3, c_4, c_5, c_14, ↓reduceIte])) D cA ad _) (vx_cwSW 5 (hh := [(0, 176, 177, 51), (0, 176, 182, 54), (0, 176, 187, 56)]) hts gL_act_L_does rfl rfl rfl (by decide +kernel) ⟨Nat.le_of_ble_eq_true rfl, Nat.le_of_ble_eq_true rfl⟩) rfl hl.1 rfl (Nat.le_of_ble_eq_true rfl) dL_act_558 ⟨Nat.le_of_ble_eq_true rfl, Nat.le_of_ble_eq_true rfl⟩ (fun H locs S => ?_)
                exact r_iret X S hr dL_act_561 (Nat.le_of_ble_eq_true rfl) (Nat.le_of_ble_eq_true rfl) rfl rfl
              · have c_14 : (odB v) = true := bI_t c_14
                refine lv_bipush (v := 10) hx hb dL_act_461 (by decide) ?_
                refine lv_goto (tgt := 467) hx hb dL_act_463 (by decide) ?_
                refine r_S0 X S (c_L_low l D cA ad _ F (v >>> (9 &&& 31)) 10 (by decide)) (va_cwS 2 hts gL_act_L_low rfl rfl rfl (by decide +kernel) ⟨Nat.le_of_ble_eq_true rfl, Nat.le_of_ble_eq_true rfl⟩) rfl hl.1 rfl (Nat.le_of_ble_eq_true rfl) dL_act_467 ⟨Nat.zero_le _, Nat.zero_le _⟩ (fun H locs S => ?_)
                refine lv_goto (tgt := 547) hx hb dL_act_470 (by decide) ?_
                refine lv_istore (lv' := [(7, .int (lowI (v >>> (9 &&& 31)) 10)), (6, .int 6), (0, .ref (ad 0)), (1, .int v), (2, .int (bI (odB v))), (3, .int (lowI v 36)), (4, .int (stV v)), (5, .int (amV v))]) hx hb dL_act_547 hl (by decide) rfl (fun ls hl => ?_)
                refine lv_aload_n hx hb dL_act_549 rfl (lv_at hl 2 rfl) ?_
                refine lv_iload hx hb dL_act_550 (lv_at hl 1 rfl) ?_
                refine lv_iload hx hb dL_act_552 (lv_at hl 6 rfl) ?_
                refine lv_iload hx hb dL_act_554 (lv_at hl 0 rfl) ?_
                refine lv_iload hx hb dL_act_556 (lv_at hl 7 rfl) ?_
                refine r_SW X S (hD_at hD (show dcQ v = ((6 : Int32), (stV v : Int32), (lowI (v >>> (9 &&& 31)) 10 : Int32), (amV v : Int32)) from (by unfold dcQ; rw [(show bbV v = lowI (v >>> (9 &&& 31)) 10 from by unfold bbV; rw [(show whV v = 6 from by unfold whV; simp only [c_1, c_2, c_3, c_4, c_5, c_14, ↓reduceIte])]; simp only [(show ¬ ((6 : Int32) = 5) from by decide), (show ¬ ((6 : Int32) = 9) from by decide), (show ¬ ((6 : Int32) = 10) from by decide), (show ¬ ((6 : Int32) = 7) from by decide), c_14, eq_self, Bool.false_eq_true, ↓reduceIte]), (show whV v = 6 from by unfold whV; simp only [c_1, c_2, c_3, c_4, c_5, c_14, ↓reduceIte])]; simp only [c_1, c_2, c_3, c_4, c_5, c_14, ↓reduceIte])) D cA ad _) (vx_cwSW 5 (hh := [(0, 176, 177, 51), (0, 176, 182, 54), (0, 176, 187, 56)]) hts gL_act_L_does rfl rfl rfl (by decide +kernel) ⟨Nat.le_of_ble_eq_true rfl, Nat.le_of_ble_eq_true rfl⟩) rfl hl.1 rfl (Nat.le_of_ble_eq_true rfl) dL_act_558 ⟨Nat.le_of_ble_eq_true rfl, Nat.le_of_ble_eq_true rfl⟩ (fun H locs S => ?_)
                exact r_iret X S hr dL_act_561 (Nat.le_of_ble_eq_true rfl) (Nat.le_of_ble_eq_true rfl) rfl rfl
          · refine lv_iconst (v := 5) hx hb dL_act_346 (by decide) ?_
            refine lv_goto (tgt := 407) hx hb dL_act_347 (by decide) ?_
            refine lv_istore (lv' := [(6, .int 5), (0, .ref (ad 0)), (1, .int v), (2, .int (bI (odB v))), (3, .int (lowI v 36)), (4, .int (stV v)), (5, .int (amV v))]) hx hb dL_act_407 hl (by decide) rfl (fun ls hl => ?_)
            refine lv_iload hx hb dL_act_409 (lv_at hl 0 rfl) ?_
            refine lv_iconst (v := 5) hx hb dL_act_411 (by decide) ?_
            refine lv_icmp_ne (tgt := 446) hx hb dL_act_412 (by decide) (fun z => False.elim (by first | exact absurd z (by decide) | exact absurd (by decide) z)) (fun _ => ?_)
            refine lv_iload_n hx hb dL_act_415 rfl (lv_at hl 2 rfl) ?_
            refine lv_bipush (v := 9) hx hb dL_act_416 (by decide) ?_
            refine lv_ishr hx hb dL_act_418 ?_
            refine lv_iload_n hx hb dL_act_419 rfl (lv_at hl 3 rfl) ?_
            refine lv_if_eq (tgt := 428) hx hb dL_act_420 (by decide) (fun c_15 => ?_) (fun c_15 => ?_)
            · have c_15 : (odB v) = false := bI_f c_15
              refine lv_bipush (v := 10) hx hb dL_act_428 (by decide) ?_
              refine r_S0 X S (c_L_low l D cA ad _ F (v >>> (9 &&& 31)) 10 (by decide)) (va_cwS 2 hts gL_act_L_low rfl rfl rfl (by decide +kernel) ⟨Nat.le_of_ble_eq_true rfl, Nat.le_of_ble_eq_true rfl⟩) rfl hl.1 rfl (Nat.le_of_ble_eq_true rfl) dL_act_430 ⟨Nat.zero_le _, Nat.zero_le _⟩ (fun H locs S => ?_)
              refine lv_iload_n hx hb dL_act_433 rfl (lv_at hl 3 rfl) ?_
              refine lv_if_eq (tgt := 441) hx hb dL_act_434 (by decide) (fun _ => ?_) (fun z => False.elim (by rw [c_15] at z; revert z; decide))
              refine lv_iconst (v := 1) hx hb dL_act_441 (by decide) ?_
              refine lv_iadd hx hb dL_act_442 ?_
              refine lv_goto (tgt := 547) hx hb dL_act_443 (by decide) ?_
              refine lv_istore (lv' := [(7, .int ((lowI (v >>> (9 &&& 31)) 10) + 1)), (6, .int 5), (0, .ref (ad 0)), (1, .int v), (2, .int (bI (odB v))), (3, .int (lowI v 36)), (4, .int (stV v)), (5, .int (amV v))]) hx hb dL_act_547 hl (by decide) rfl (fun ls hl => ?_)
              refine lv_aload_n hx hb dL_act_549 rfl (lv_at hl 2 rfl) ?_
              refine lv_iload hx hb dL_act_550 (lv_at hl 1 rfl) ?_
              refine lv_iload hx hb dL_act_552 (lv_at hl 6 rfl) ?_
              refine lv_iload hx hb dL_act_554 (lv_at hl 0 rfl) ?_
              refine lv_iload hx hb dL_act_556 (lv_at hl 7 rfl) ?_
              refine r_SW X S (hD_at hD (show dcQ v = ((5 : Int32), (stV v : Int32), ((lowI (v >>> (9 &&& 31)) 10) + 1 : Int32), (amV v : Int32)) from (by unfold dcQ; rw [(show bbV v = (lowI (v >>> (9 &&& 31)) 10) + 1 from by unfold bbV; rw [(show whV v = 5 from by unfold whV; simp only [c_1, c_2, c_3, c_4, c_15, ↓reduceIte])]; simp only [(show ¬ ((5 : Int32) = 6) from by decide), (show ¬ ((5 : Int32) = 9) from by decide), (show ¬ ((5 : Int32) = 10) from by decide), (show ¬ ((5 : Int32) = 7) from by decide), c_15, eq_self, Bool.false_eq_true, ↓reduceIte]), (show whV v = 5 from by unfold whV; simp only [c_1, c_2, c_3, c_4, c_15, ↓reduceIte])]; simp only [c_1, c_2, c_3, c_4, c_15, ↓reduceIte])) D cA ad _) (vx_cwSW 5 (hh := [(0, 176, 177, 51), (0, 176, 182, 54), (0, 176, 187, 56)]) hts gL_act_L_does rfl rfl rfl (by decide +kernel) ⟨Nat.le_of_ble_eq_true rfl, Nat.le_of_ble_eq_true rfl⟩) rfl hl.1 rfl (Nat.le_of_ble_eq_true rfl) dL_act_558 ⟨Nat.le_of_ble_eq_true rfl, Nat.le_of_ble_eq_true rfl⟩ (fun H locs S => ?_)
              exact r_iret X S hr dL_act_561 (Nat.le_of_ble_eq_true rfl) (Nat.le_of_ble_eq_true rfl) rfl rfl
            · have c_15 : (odB v) = true := bI_t c_15
              refine lv_bipush (v := 13) hx hb dL_act_423 (by decide) ?_
              refine lv_goto (tgt := 430) hx hb dL_act_425 (by decide) ?_
              refine r_S0 X S (c_L_low l D cA ad _ F (v >>> (9 &&& 31)) 13 (by decide)) (va_cwS 2 hts gL_act_L_low rfl rfl rfl (by decide +kernel) ⟨Nat.le_of_ble_eq_true rfl, Nat.le_of_ble_eq_true rfl⟩) rfl hl.1 rfl (Nat.le_of_ble_eq_true rfl) dL_act_430 ⟨Nat.zero_le _, Nat.zero_le _⟩ (fun H locs S => ?_)
              refine lv_iload_n hx hb dL_act_433 rfl (lv_at hl 3 rfl) ?_
              refine lv_if_eq (tgt := 441) hx hb dL_act_434 (by decide) (fun z => False.elim (by rw [c_15] at z; revert z; decide)) (fun _ => ?_)
              refine lv_iconst (v := 0) hx hb dL_act_437 (by decide) ?_
              refine lv_goto (tgt := 442) hx hb dL_act_438 (by decide) ?_
              refine lv_iadd hx hb dL_act_442 ?_
              refine lv_goto (tgt := 547) hx hb dL_act_443 (by decide) ?_
              refine lv_istore (lv' := [(7, .int ((lowI (v >>> (9 &&& 31)) 13) + 0)), (6, .int 5), (0, .ref (ad 0)), (1, .int v), (2, .int (bI (odB v))), (3, .int (lowI v 36)), (4, .int (stV v)), (5, .int (amV v))]) hx hb dL_act_547 hl (by decide) rfl (fun ls hl => ?_)
              refine lv_aload_n hx hb dL_act_549 rfl (lv_at hl 2 rfl) ?_
              refine lv_iload hx hb dL_act_550 (lv_at hl 1 rfl) ?_
              refine lv_iload hx hb dL_act_552 (lv_at hl 6 rfl) ?_
              refine lv_iload hx hb dL_act_554 (lv_at hl 0 rfl) ?_
              refine lv_iload hx hb dL_act_556 (lv_at hl 7 rfl) ?_
              refine r_SW X S (hD_at hD (show dcQ v = ((5 : Int32), (stV v : Int32), ((lowI (v >>> (9 &&& 31)) 13) + 0 : Int32), (amV v : Int32)) from (by unfold dcQ; rw [(show bbV v = (lowI (v >>> (9 &&& 31)) 13) + 0 from by unfold bbV; rw [(show whV v = 5 from by unfold whV; simp only [c_1, c_2, c_3, c_4, c_15, ↓reduceIte])]; simp only [(show ¬ ((5 : Int32) = 6) from by decide), (show ¬ ((5 : Int32) = 9) from by decide), (show ¬ ((5 : Int32) = 10) from by decide), (show ¬ ((5 : Int32) = 7) from by decide), c_15, eq_self, Bool.false_eq_true, ↓reduceIte]), (show whV v = 5 from by unfold whV; simp only [c_1, c_2, c_3, c_4, c_15, ↓reduceIte])]; simp only [c_1, c_2, c_3, c_4, c_15, ↓reduceIte])) D cA ad _) (vx_cwSW 5 (hh := [(0, 176, 177, 51), (0, 176, 182, 54), (0, 176, 187, 56)]) hts gL_act_L_does rfl rfl rfl (by decide +kernel) ⟨Nat.le_of_ble_eq_true rfl, Nat.le_of_ble_eq_true rfl⟩) rfl hl.1 rfl (Nat.le_of_ble_eq_true rfl) dL_act_558 ⟨Nat.le_of_ble_eq_true rfl, Nat.le_of_ble_eq_true rfl⟩ (fun H locs S => ?_)
              exact r_iret X S hr dL_act_561 (Nat.le_of_ble_eq_true rfl) (Nat.le_of_ble_eq_true rfl) rfl rfl
      · refine lv_iload_n hx hb dL_act_253 rfl (lv_at hl 3 rfl) ?_
        refine lv_iconst (v := 3) hx hb dL_act_254 (by decide) ?_
        refine lv_icmp_ne (tgt := 294) hx hb dL_act_255 (by decide) (fun c_16 => ?_) (fun c_16 => ?_)
        · refine lv_aload_n hx hb dL_act_294 rfl (lv_at hl 0 rfl) ?_
          refine lv_iconst (v := 4) hx hb dL_act_295 (by decide) ?_
          refine lv_iload hx hb dL_act_296 (lv_at hl 4 rfl) ?_
          refine lv_iload_n hx hb dL_act_298 rfl (lv_at hl 1 rfl) ?_
          refine lv_bipush (v := 12) hx hb dL_act_299 (by decide) ?_
          refine lv_ishr hx hb dL_act_301 ?_
          refine lv_iload_n hx hb dL_act_302 rfl (lv_at hl 2 rfl) ?_
          refine lv_if_eq (tgt := 311) hx hb dL_act_303 (by decide) (fun c_17 => ?_) (fun c_17 => ?_)
          · have c_17 : (odB v) = false := bI_f c_17
            refine lv_bipush (v := 8) hx hb dL_act_311 (by decide) ?_
            refine r_S0 X S (c_L_low l D cA ad _ F (v >>> (12 &&& 31)) 8 (by decide)) (va_cwS 2 hts gL_act_L_low rfl rfl rfl (by decide +kernel) ⟨Nat.le_of_ble_eq_true rfl, Nat.le_of_ble_eq_true rfl⟩) rfl hl.1 rfl (Nat.le_of_ble_eq_true rfl) dL_act_313 ⟨Nat.zero_le _, Nat.zero_le _⟩ (fun H locs S => ?_)
            refine lv_iload_n hx hb dL_act_316 rfl (lv_at hl 3 rfl) ?_
            refine lv_iconst (v := 4) hx hb dL_act_317 (by decide) ?_
            refine lv_icmp_ne (tgt := 326) hx hb dL_act_318 (by decide) (fun c_18 => ?_) (fun c_18 => ?_)
            · refine lv_iconst (v := -1) hx hb dL_act_326 (by decide) ?_
              refine lv_iload hx hb dL_act_327 (lv_at hl 5 rfl) ?_
              refine lv_isub hx hb dL_act_329 ?_
              refine r_SW X S (hD_at hD (show dcQ v = ((4 : Int32), (stV v : Int32), (lowI (v >>> (12 &&& 31)) 8 : Int32), (((-1) : Int32) - (amV v) : Int32)) from (by unfold dcQ; simp only [c_1, c_2, c_16, c_17, c_18, Bool.false_eq_true, ↓reduceIte])) D cA ad _) (vx_cwSW 5 (hh := [(0, 176, 177, 51), (0, 176, 182, 54), (0, 176, 187, 56)]) hts gL_act_L_does rfl rfl rfl (by decide +kernel) ⟨Nat.le_of_ble_eq_true rfl, Nat.le_of_ble_eq_true rfl⟩) rfl hl.1 rfl (Nat.le_of_ble_eq_true rfl) dL_act_330 ⟨Nat.le_of_ble_eq_true rfl, Nat.le_of_ble_eq_true rfl⟩ (fun H locs S => ?_)
              exact r_iret X S hr dL_act_333 (Nat.le_of_ble_eq_true rfl) (Nat.le_of_ble_eq_true rfl) rfl rfl
            · refine lv_iload hx hb dL_act_321 (lv_at hl 5 rfl) ?_
              refine lv_goto (tgt := 330) hx hb dL_act_323 (by decide) ?_
              refine r_SW X S (hD_at hD (show dcQ v = ((4 : Int32), (stV v : Int32), (lowI (v >>> (12 &&& 31)) 8 : Int32), (amV v : Int32)) from (by unfold dcQ; simp only [c_1, c_2, c_16, c_17, eq_true c_18, Bool.false_eq_true, ↓reduceIte])) D cA ad _) (vx_cwSW 5 (hh := [(0, 176, 177, 51), (0, 176, 182, 54), (0, 176, 187, 56)]) hts gL_act_L_does rfl rfl rfl (by decide +kernel) ⟨Nat.le_of_ble_eq_true rfl, Nat.le_of_ble_eq_true rfl⟩) rfl hl.1 rfl (Nat.le_of_ble_eq_true rfl) dL_act_330 ⟨Nat.le_of_ble_eq_true rfl, Nat.le_of_ble_eq_true rfl⟩ (fun H locs S => ?_)
              exact r_iret X S hr dL_act_333 (Nat.le_of_ble_eq_true rfl) (Nat.le_of_ble_eq_true rfl) rfl rfl
          · have c_17 : (odB v) = true := bI_t c_17
            refine lv_bipush (v := 10) hx hb dL_act_306 (by decide) ?_
            refine lv_goto (tgt := 313) hx hb dL_act_308 (by decide) ?_
            refine r_S0 X S (c_L_low l D cA ad _ F (v >>> (12 &&& 31)) 10 (by decide)) (va_cwS 2 hts gL_act_L_low rfl rfl rfl (by decide +kernel) ⟨Nat.le_of_ble_eq_true rfl, Nat.le_of_ble_eq_true rfl⟩) rfl hl.1 rfl (Nat.le_of_ble_eq_true rfl) dL_act_313 ⟨Nat.zero_le _, Nat.zero_le _⟩ (fun H locs S => ?_)
            refine lv_iload_n hx hb dL_act_316 rfl (lv_at hl 3 rfl) ?_
            refine lv_iconst (v := 4) hx hb dL_act_317 (by decide) ?_
            refine lv_icmp_ne (tgt := 326) hx hb dL_act_318 (by decide) (fun c_19 => ?_) (fun c_19 => ?_)
            · refine lv_iconst (v := -1) hx hb dL_act_326 (by decide) ?_
              refine lv_iload hx hb dL_act_327 (lv_at hl 5 rfl) ?_
              refine lv_isub hx hb dL_act_329 ?_
              refine r_SW X S (hD_at hD (show dcQ v = ((4 : Int32), (stV v : Int32), (lowI (v >>> (12 &&& 31)) 10 : Int32), (((-1) : Int32) - (amV v) : Int32)) from (by unfold dcQ; simp only [c_1, c_2, c_16, c_17, c_19, Bool.false_eq_true, ↓reduceIte])) D cA ad _) (vx_cwSW 5 (hh := [(0, 176, 177, 51), (0, 176, 182, 54), (0, 176, 187, 56)]) hts gL_act_L_does rfl rfl rfl (by decide +kernel) ⟨Nat.le_of_ble_eq_true rfl, Nat.le_of_ble_eq_true rfl⟩) rfl hl.1 rfl (Nat.le_of_ble_eq_true rfl) dL_act_330 ⟨Nat.le_of_ble_eq_true rfl, Nat.le_of_ble_eq_true rfl⟩ (fun H locs S => ?_)
              exact r_iret X S hr dL_act_333 (Nat.le_of_ble_eq_true rfl) (Nat.le_of_ble_eq_true rfl) rfl rfl
            · refine lv_iload hx hb dL_act_321 (lv_at hl 5 rfl) ?_
              refine lv_goto (tgt := 330) hx hb dL_act_323 (by decide) ?_
              refine r_SW X S (hD_at hD (show dcQ v = ((4 : Int32), (stV v : Int32), (lowI (v >>> (12 &&& 31)) 10 : Int32), (amV v : Int32)) from (by unfold dcQ; simp only [c_1, c_2, c_16, c_17, eq_true c_19, Bool.false_eq_true, ↓reduceIte])) D cA ad _) (vx_cwSW 5 (hh := [(0, 176, 177, 51), (0, 176, 182, 54), (0, 176, 187, 56)]) hts gL_act_L_does rfl rfl rfl (by decide +kernel) ⟨Nat.le_of_ble_eq_true rfl, Nat.le_of_ble_eq_true rfl⟩) rfl hl.1 rfl (Nat.le_of_ble_eq_true rfl) dL_act_330 ⟨Nat.le_of_ble_eq_true rfl, Nat.le_of_ble_eq_true rfl⟩ (fun H locs S => ?_)
              exact r_iret X S hr dL_act_333 (Nat.le_of_ble_eq_true rfl) (Nat.le_of_ble_eq_true rfl) rfl rfl
        · refine lv_aload_n hx hb dL_act_258 rfl (lv_at hl 0 rfl) ?_
          refine lv_iconst (v := 3) hx hb dL_act_259 (by decide) ?_
          refine lv_iload_n hx hb dL_act_260 rfl (lv_at hl 1 rfl) ?_
          refine lv_bipush (v := 6) hx hb dL_act_261 (by decide) ?_
          refine lv_ishr hx hb dL_act_263 ?_
          refine lv_ldc (v := 100001) hx hb hown (hts (.constant RL 83 (100001)) (by decide +kernel)) dL_act_264 ?_
          refine r_S0 X S (c_L_low l D cA ad _ F (v >>> (6 &&& 31)) 100001 (by decide)) (va_cwS 2 hts gL_act_L_low rfl rfl rfl (by decide +kernel) ⟨Nat.le_of_ble_eq_true rfl, Nat.le_of_ble_eq_true rfl⟩) rfl hl.1 rfl (Nat.le_of_ble_eq_true rfl) dL_act_266 ⟨Nat.zero_le _, Nat.zero_le _⟩ (fun H locs S => ?_)
          refine lv_iload_n hx hb dL_act_269 rfl (lv_at hl 1 rfl) ?_
          refine lv_bipush (v := 9) hx hb dL_act_270 (by decide) ?_
          refine lv_ishr hx hb dL_act_272 ?_
          refine lv_iload_n hx hb dL_act_273 rfl (lv_at hl 2 rfl) ?_
          refine lv_if_eq (tgt := 282) hx hb dL_act_274 (by decide) (fun c_20 => ?_) (fun c_20 => ?_)
          · have c_20 : (odB v) = false := bI_f c_20
            refine lv_ldc (v := 1000001) hx hb hown (hts (.constant RL 87 (1000001)) (by decide +kernel)) dL_act_282 ?_
            refine r_S0 X S (c_L_low l D cA ad _ F (v >>> (9 &&& 31)) 1000001 (by decide)) (va_cwS 2 hts gL_act_L_low rfl rfl rfl (by decide +kernel) ⟨Nat.le_of_ble_eq_true rfl, Nat.le_of_ble_eq_true rfl⟩) rfl hl.1 rfl (Nat.le_of_ble_eq_true rfl) dL_act_284 ⟨Nat.zero_le _, Nat.zero_le _⟩ (fun H locs S => ?_)
            refine lv_iconst (v := 0) hx hb dL_act_287 (by decide) ?_
            refine r_SW X S (hD_at hD (show dcQ v = ((3 : Int32), (lowI (v >>> (6 &&& 31)) 100001 : Int32), (lowI (v >>> (9 &&& 31)) 1000001 : Int32), (0 : Int32)) from (by unfold dcQ; simp only [c_1, c_2, eq_true c_16, c_20, Bool.false_eq_true, ↓reduceIte])) D cA ad _) (vx_cwSW 5 (hh := [(0, 176, 177, 51), (0, 176, 182, 54), (0, 176, 187, 56)]) hts gL_act_L_does rfl rfl rfl (by decide +kernel) ⟨Nat.le_of_ble_eq_true rfl, Nat.le_of_ble_eq_true rfl⟩) rfl hl.1 rfl (Nat.le_of_ble_eq_true rfl) dL_act_288 ⟨Nat.le_of_ble_eq_true rfl, Nat.le_of_ble_eq_true rfl⟩ (fun H locs S => ?_)
            refine lv_goto (tgt := 333) hx hb dL_act_291 (by decide) ?_
            exact r_iret X S hr dL_act_333 (Nat.le_of_ble_eq_true rfl) (Nat.le_of_ble_eq_true rfl) rfl rfl
          · have c_20 : (odB v) = true := bI_t c_20
            refine lv_ldc (v := 1100000) hx hb hown (hts (.constant RL 79 (1100000)) (by decide +kernel)) dL_act_277 ?_
            refine lv_goto (tgt := 284) hx hb dL_act_279 (by decide) ?_
            refine r_S0 X S (c_L_low l D cA ad _ F (v >>> (9 &&& 31)) 1100000 (by decide)) (va_cwS 2 hts gL_act_L_low rfl rfl rfl (by decide +kernel) ⟨Nat.le_of_ble_eq_true rfl, Nat.le_of_ble_eq_true rfl⟩) rfl hl.1 rfl (Nat.le_of_ble_eq_true rfl) dL_act_284 ⟨Nat.zero_le _, Nat.zero_le _⟩ (fun H locs S => ?_)
            refine lv_iconst (v := 0) hx hb dL_act_287 (by decide) ?_
            refine r_SW X S (hD_at hD (show dcQ v = ((3 : Int32), (lowI (v >>> (6 &&& 31)) 100001 : Int32), (lowI (v >>> (9 &&& 31)) 1100000 : Int32), (0 : Int32)) from (by unfold dcQ; simp only [c_1, c_2, eq_true c_16, c_20, Bool.false_eq_true, ↓reduceIte])) D cA ad _) (vx_cwSW 5 (hh := [(0, 176, 177, 51), (0, 176, 182, 54), (0, 176, 187, 56)]) hts gL_act_L_does rfl rfl rfl (by decide +kernel) ⟨Nat.le_of_ble_eq_true rfl, Nat.le_of_ble_eq_true rfl⟩) rfl hl.1 rfl (Nat.le_of_ble_eq_true rfl) dL_act_288 ⟨Nat.le_of_ble_eq_true rfl, Nat.le_of_ble_eq_true rfl⟩ (fun H locs S => ?_)
            refine lv_goto (tgt := 333) hx hb dL_act_291 (by decide) ?_
            exact r_iret X S hr dL_act_333 (Nat.le_of_ble_eq_true rfl) (Nat.le_of_ble_eq_true rfl) rfl rfl
    · refine lv_iload_n hx hb dL_act_99 rfl (lv_at hl 3 rfl) ?_
      refine lv_if_ne (tgt := 122) hx hb dL_act_100 (by decide) (fun c_21 => ?_) (fun c_21 => ?_)
      · refine lv_iload_n hx hb dL_act_122 rfl (lv_at hl 3 rfl) ?_
        refine lv_iconst (v := 1) hx hb dL_act_123 (by decide) ?_
        refine lv_icmp_ne (tgt := 150) hx hb dL_act_124 (by decide) (fun c_22 => ?_) (fun c_22 => ?_)
        · refine lv_iload_n hx hb dL_act_150 rfl (lv_at hl 1 rfl) ?_
          refine lv_bipush (v := 6) hx hb dL_act_151 (by decide) ?_
          refine lv_ishr hx hb dL_act_153 ?_
          refine lv_iload_n hx hb dL_act_154 rfl (lv_at hl 2 rfl) ?_
          refine lv_if_eq (tgt := 163) hx hb dL_act_155 (by decide) (fun c_23 => ?_) (fun c_23 => ?_)
          · have c_23 : (odB v) = false := bI_f c_23
            refine lv_bipush (v := 16) hx hb dL_act_163 (by decide) ?_
            refine r_S0 X S (c_L_low l D cA ad _ F (v >>> (6 &&& 31)) 16 (by decide)) (va_cwS 2 hts gL_act_L_low rfl rfl rfl (by decide +kernel) ⟨Nat.le_of_ble_eq_true rfl, Nat.le_of_ble_eq_true rfl⟩) rfl hl.1 rfl (Nat.le_of_ble_eq_true rfl) dL_act_165 ⟨Nat.zero_le _, Nat.zero_le _⟩ (fun H locs S => ?_)
            refine lv_istore (lv' := [(6, .int (lowI (v >>> (6 &&& 31)) 16)), (0, .ref (ad 0)), (1, .int v), (2, .int (bI (odB v))), (3, .int (lowI v 36)), (4, .int (stV v)), (5, .int (amV v))]) hx hb dL_act_168 hl (by decide) rfl (fun ls hl => ?_)
            refine lv_aload_n hx hb dL_act_170 rfl (lv_at hl 1 rfl) ?_
            refine lv_iload_n hx hb dL_act_171 rfl (lv_at hl 4 rfl) ?_
            refine lv_iload hx hb dL_act_172 (lv_at hl 0 rfl) ?_
            refine lv_iload_n hx hb dL_act_174 rfl (lv_at hl 4 rfl) ?_
            refine lv_if_ne (tgt := 187) hx hb dL_act_175 (by decide) (fun _ => ?_) (fun z => False.elim (c_21 z))
            refine lv_iload_n hx hb dL_act_187 rfl (lv_at hl 4 rfl) ?_
            refine lv_iconst (v := 1) hx hb dL_act_188 (by decide) ?_
            refine lv_icmp_ne (tgt := 207) hx hb dL_act_189 (by decide) (fun _ => ?_) (fun z => False.elim (c_22 z))
            refine lv_iload_n hx hb dL_act_207 rfl (lv_at hl 2 rfl) ?_
            refine lv_bipush (v := 9) hx hb dL_act_208 (by decide) ?_
            refine lv_ishr hx hb dL_act_210 ?_
            refine lv_iload_n hx hb dL_act_211 rfl (lv_at hl 3 rfl) ?_
            refine lv_if_eq (tgt := 220) hx hb dL_act_212 (by decide) (fun _ => ?_) (fun z => False.elim (by rw [c_23] at z; revert z; decide))
            refine lv_bipush (v := 101) hx hb dL_act_220 (by decide) ?_
            refine r_S0 X S (c_L_low l D cA ad _ F (v >>> (9 &&& 31)) 101 (by decide)) (va_cwS 2 hts gL_act_L_low rfl rfl rfl (by decide +kernel) ⟨Nat.le_of_ble_eq_true rfl, Nat.le_of_ble_eq_true rfl⟩) rfl hl.1 rfl (Nat.le_of_ble_eq_true rfl) dL_act_222 ⟨Nat.zero_le _, Nat.zero_le _⟩ (fun H locs S => ?_)
            refine lv_iload_n hx hb dL_act_225 rfl (lv_at hl 2 rfl) ?_
            refine lv_bipush (v := 11) hx hb dL_act_226 (by decide) ?_
            refine lv_ishr hx hb dL_act_228 ?_
            refine lv_iload_n hx hb dL_act_229 rfl (lv_at hl 3 rfl) ?_
            refine lv_if_eq (tgt := 238) hx hb dL_act_230 (by decide) (fun _ => ?_) (fun z => False.elim (by rw [c_23] at z; revert z; decide))
            refine lv_ldc (v := 100001) hx hb hown (hts (.constant RL 83 (100001)) (by decide +kernel)) dL_act_238 ?_
            refine r_S0 X S (c_L_low l D cA ad _ F (v >>> (11 &&& 31)) 100001 (by decide)) (va_cwS 2 hts gL_act_L_low rfl rfl rfl (by decide +kernel) ⟨Nat.le_of_ble_eq_true rfl, Nat.le_of_ble_eq_true rfl⟩) rfl hl.1 rfl (Nat.le_of_ble_eq_true rfl) dL_act_240 ⟨Nat.zero_le _, Nat.zero_le _⟩ (fun H locs S => ?_)
            refine r_SW X S (hD_at hD (show dcQ v = ((lowI v 36 : Int32), (lowI (v >>> (6 &&& 31)) 16 : Int32), (lowI (v >>> (9 &&& 31)) 101 : Int32), (lowI (v >>> (11 &&& 31)) 100001 : Int32)) from (by unfold dcQ; simp only [c_1, c_21, c_22, c_23, Bool.false_eq_true, ↓reduceIte])) D cA ad _) (vx_cwSW 5 (hh := [(0, 176, 177, 51), (0, 176, 182, 54), (0, 176, 187, 56)]) hts gL_act_L_does rfl rfl rfl (by decide +kernel) ⟨Nat.le_of_ble_eq_true rfl, Nat.le_of_ble_eq_true rfl⟩) rfl hl.1 rfl (Nat.le_of_ble_eq_true rfl) dL_act_243 ⟨Nat.le_of_ble_eq_true rfl, Nat.le_of_ble_eq_true rfl⟩ (fun H locs S => ?_)
            exact r_iret X S hr dL_act_246 (Nat.le_of_ble_eq_true rfl) (Nat.le_of_ble_eq_true rfl) rfl rfl
          · have c_23 : (odB v) = true := bI_t c_23
            refine lv_bipush (v := 18) hx hb dL_act_158 (by decide) ?_
            refine lv_goto (tgt := 165) hx hb dL_act_160 (by decide) ?_
            refine r_S0 X S (c_L_low l D cA ad _ F (v >>> (6 &&& 31)) 18 (by decide)) (va_cwS 2 hts gL_act_L_low rfl rfl rfl (by decide +kernel) ⟨Nat.le_of_ble_eq_true rfl, Nat.le_of_ble_eq_true rfl⟩) rfl hl.1 rfl (Nat.le_of_ble_eq_true rfl) dL_act_165 ⟨Nat.zero_le _, Nat.zero_le _⟩ (fun H locs S => ?_)
            refine lv_istore (lv' := [(6, .int (lowI (v >>> (6 &&& 31)) 18)), (0, .ref (ad 0)), (1, .int v), (2, .int (bI (odB v))), (3, .int (lowI v 36)), (4, .int (stV v)), (5, .int (amV v))]) hx hb dL_act_168 hl (by decide) rfl (fun ls hl => ?_)
            refine lv_aload_n hx hb dL_act_170 rfl (lv_at hl 1 rfl) ?_
            refine lv_iload_n hx hb dL_act_171 rfl (lv_at hl 4 rfl) ?_
            refine lv_iload hx hb dL_act_172 (lv_at hl 0 rfl) ?_
            refine lv_iload_n hx hb dL_act_174 rfl (lv_at hl 4 rfl) ?_
            refine lv_if_ne (tgt := 187) hx hb dL_act_175 (by decide) (fun _ => ?_) (fun z => False.elim (c_21 z))
            refine lv_iload_n hx hb dL_act_187 rfl (lv_at hl 4 rfl) ?_
            refine lv_iconst (v := 1) hx hb dL_act_188 (by decide) ?_
            refine lv_icmp_ne (tgt := 207) hx hb dL_act_189 (by decide) (fun _ => ?_) (fun z => False.elim (c_22 z))
            refine lv_iload_n hx hb dL_act_207 rfl (lv_at hl 2 rfl) ?_
            refine lv_bipush (v := 9) hx hb dL_act_208 (by decide) ?_
            refine lv_ishr hx hb dL_act_210 ?_
            refine lv_iload_n hx hb dL_act_211 rfl (lv_at hl 3 rfl) ?_
            refine lv_if_eq (tgt := 220) hx hb dL_act_212 (by decide) (fun z => False.elim (by rw [c_23] at z; revert z; decide)) (fun _ => ?_)
            refine lv_bipush (v := 110) hx hb dL_act_215 (by decide) ?_
            refine lv_goto (tgt := 222) hx hb dL_act_217 (by decide) ?_
            refine r_S0 X S (c_L_low l D cA ad _ F (v >>> (9 &&& 31)) 110 (by decide)) (va_cwS 2 hts gL_act_L_low rfl rfl rfl (by decide +kernel) ⟨Nat.le_of_ble_eq_true rfl, Nat.le_of_ble_eq_true rfl⟩) rfl hl.1 rfl (Nat.le_of_ble_eq_true rfl) dL_act_222 ⟨Nat.zero_le _, Nat.zero_le _⟩ (fun H locs S => ?_)
            refine lv_iload_n hx hb dL_act_225 rfl (lv_at hl 2 rfl) ?_
            refine lv_bipush (v := 11) hx hb dL_act_226 (by decide) ?_
            refine lv_ishr hx hb dL_act_228 ?_
            refine lv_iload_n hx hb dL_act_229 rfl (lv_at hl 3 rfl) ?_
            refine lv_if_eq (tgt := 238) hx hb dL_act_230 (by decide) (fun z => False.elim (by rw [c_23] at z; revert z; decide)) (fun _ => ?_)
            refine lv_ldc (v := 110000) hx hb hown (hts (.constant RL 82 (110000)) (by decide +kernel)) dL_act_233 ?_
            refine lv_goto (tgt := 240) hx hb dL_act_235 (by decide) ?_
            refine r_S0 X S (c_L_low l D cA ad _ F (v >>> (11 &&& 31)) 110000 (by decide)) (va_cwS 2 hts gL_act_L_low rfl rfl rfl (by decide +kernel) ⟨Nat.le_of_ble_eq_true rfl, Nat.le_of_ble_eq_true rfl⟩) rfl hl.1 rfl (Nat.le_of_ble_eq_true rfl) dL_act_240 ⟨Nat.zero_le _, Nat.zero_le _⟩ (fun H locs S => ?_)
            refine r_SW X S (hD_at hD (show dcQ v = ((lowI v 36 : Int32), (lowI (v >>> (6 &&& 31)) 18 : Int32), (lowI (v >>> (9 &&& 31)) 110 : Int32), (lowI (v >>> (11 &&& 31)) 110000 : Int32)) from (by unfold dcQ; simp only [c_1, c_21, c_22, c_23, Bool.false_eq_true, ↓reduceIte])) D cA ad _) (vx_cwSW 5 (hh := [(0, 176, 177, 51), (0, 176, 182, 54), (0, 176, 187, 56)]) hts gL_act_L_does rfl rfl rfl (by decide +kernel) ⟨Nat.le_of_ble_eq_true rfl, Nat.le_of_ble_eq_true rfl⟩) rfl hl.1 rfl (Nat.le_of_ble_eq_true rfl) dL_act_243 ⟨Nat.le_of_ble_eq_true rfl, Nat.le_of_ble_eq_true rfl⟩ (fun H locs S => ?_)
            exact r_iret X S hr dL_act_246 (Nat.le_of_ble_eq_true rfl) (Nat.le_of_ble_eq_true rfl) rfl rfl
        · refine lv_iconst (v := 1) hx hb dL_act_127 (by decide) ?_
          refine lv_iload_n hx hb dL_act_128 rfl (lv_at hl 1 rfl) ?_
          refine lv_bipush (v := 6) hx hb dL_act_129 (by decide) ?_
          refine lv_ishr hx hb dL_act_131 ?_
          refine lv_iload_n hx hb dL_act_132 rfl (lv_at hl 2 rfl) ?_
          refine lv_if_eq (tgt := 141) hx hb dL_act_133 (by decide) (fun c_24 => ?_) (fun c_24 => ?_)
          · have c_24 : (odB v) = false := bI_f c_24
            refine lv_bipush (v := 15) hx hb dL_act_141 (by decide) ?_
            refine r_S0 X S (c_L_low l D cA ad _ F (v >>> (6 &&& 31)) 15 (by decide)) (va_cwS 2 hts gL_act_L_low rfl rfl rfl (by decide +kernel) ⟨Nat.le_of_ble_eq_true rfl, Nat.le_of_ble_eq_true rfl⟩) rfl hl.1 rfl (Nat.le_of_ble_eq_true rfl) dL_act_143 ⟨Nat.zero_le _, Nat.zero_le _⟩ (fun H locs S => ?_)
            refine lv_iadd hx hb dL_act_146 ?_
            refine lv_goto (tgt := 168) hx hb dL_act_147 (by decide) ?_
            refine lv_istore (lv' := [(6, .int ((1 : Int32) + (lowI (v >>> (6 &&& 31)) 15))), (0, .ref (ad 0)), (1, .int v), (2, .int (bI (odB v))), (3, .int (lowI v 36)), (4, .int (stV v)), (5, .int (amV v))]) hx hb dL_act_168 hl (by decide) rfl (fun ls hl => ?_)
            refine lv_aload_n hx hb dL_act_170 rfl (lv_at hl 1 rfl) ?_
            refine lv_iload_n hx hb dL_act_171 rfl (lv_at hl 4 rfl) ?_
            refine lv_iload hx hb dL_act_172 (lv_at hl 0 rfl) ?_
            refine lv_iload_n hx hb dL_act_174 rfl (lv_at hl 4 rfl) ?_
            refine lv_if_ne (tgt := 187) hx hb dL_act_175 (by decide) (fun _ => ?_) (fun z => False.elim (c_21 z))
            refine lv_iload_n hx hb dL_act_187 rfl (lv_at hl 4 rfl) ?_
            refine lv_iconst (v := 1) hx hb dL_act_188 (by decide) ?_
            refine lv_icmp_ne (tgt := 207) hx hb dL_act_189 (by decide) (fun z => False.elim (z c_22)) (fun _ => ?_)
            refine lv_bipush (v := 15) hx hb dL_act_192 (by decide) ?_
            refine lv_iload_n hx hb dL_act_194 rfl (lv_at hl 2 rfl) ?_
            refine lv_bipush (v := 9) hx hb dL_act_195 (by decide) ?_
            refine lv_ishr hx hb dL_act_197 ?_
            refine lv_bipush (v := 16) hx hb dL_act_198 (by decide) ?_
            refine r_S0 X S (c_L_low l D cA ad _ F (v >>> (9 &&& 31)) 16 (by decide)) (va_cwS 2 hts gL_act_L_low rfl rfl rfl (by decide +kernel) ⟨Nat.le_of_ble_eq_true rfl, Nat.le_of_ble_eq_true rfl⟩) rfl hl.1 rfl (Nat.le_of_ble_eq_true rfl) dL_act_200 ⟨Nat.zero_le _, Nat.zero_le _⟩ (fun H locs S => ?_)
            refine lv_iadd hx hb dL_act_203 ?_
            refine lv_goto (tgt := 225) hx hb dL_act_204 (by decide) ?_
            refine lv_iload_n hx hb dL_act_225 rfl (lv_at hl 2 rfl) ?_
            refine lv_bipush (v := 11) hx hb dL_act_226 (by decide) ?_
            refine lv_ishr hx hb dL_act_228 ?_
            refine lv_iload_n hx hb dL_act_229 rfl (lv_at hl 3 rfl) ?_
            refine lv_if_eq (tgt := 238) hx hb dL_act_230 (by decide) (fun _ => ?_) (fun z => False.elim (by rw [c_24] at z; revert z; decide))
            refine lv_ldc (v := 100001) hx hb hown (hts (.constant RL 83 (100001)) (by decide +kernel)) dL_act_238 ?_
            refine r_S0 X S (c_L_low l D cA ad _ F (v >>> (11 &&& 31)) 100001 (by decide)) (va_cwS 2 hts gL_act_L_low rfl rfl rfl (by decide +kernel) ⟨Nat.le_of_ble_eq_true rfl, Nat.le_of_ble_eq_true rfl⟩) rfl hl.1 rfl (Nat.le_of_ble_eq_true rfl) dL_act_240 ⟨Nat.zero_le _, Nat.zero_le _⟩ (fun H locs S => ?_)
            refine r_SW X S (hD_at hD (show dcQ v = ((lowI v 36 : Int32), ((1 : Int32) + (lowI (v >>> (6 &&& 31)) 15) : Int32), ((15 : Int32) + (lowI (v >>> (9 &&& 31)) 16) : Int32), (lowI (v >>> (11 &&& 31)) 100001 : Int32)) from (by unfold dcQ; simp only [c_1, c_21, eq_true c_22, c_24, Bool.false_eq_true, ↓reduceIte])) D cA ad _) (vx_cwSW 5 (hh := [(0, 176, 177, 51), (0, 176, 182, 54), (0, 176, 187, 56)]) hts gL_act_L_does rfl rfl rfl (by decide +kernel) ⟨Nat.le_of_ble_eq_true rfl, Nat.le_of_ble_eq_true rfl⟩) rfl hl.1 rfl (Nat.le_of_ble_eq_true rfl) dL_act_243 ⟨Nat.le_of_ble_eq_true rfl, Nat.le_of_ble_eq_true rfl⟩ (fun H locs S => ?_)
            exact r_iret X S hr dL_act_246 (Nat.le_of_ble_eq_true rfl) (Nat.le_of_ble_eq_true rfl) rfl rfl
          · have c_24 : (odB v) = true := bI_t c_24
            refine lv_bipush (v := 35) hx hb dL_act_136 (by decide) ?_
            refine lv_goto (tgt := 143) hx hb dL_act_138 (by decide) ?_
            refine r_S0 X S (c_L_low l D cA ad _ F (v >>> (6 &&& 31)) 35 (by decide)) (va_cwS 2 hts gL_act_L_low rfl rfl rfl (by decide +kernel) ⟨Nat.le_of_ble_eq_true rfl, Nat.le_of_ble_eq_true rfl⟩) rfl hl.1 rfl (Nat.le_of_ble_eq_true rfl) dL_act_143 ⟨Nat.zero_le _, Nat.zero_le _⟩ (fun H locs S => ?_)
            refine lv_iadd hx hb dL_act_146 ?_
            refine lv_goto (tgt := 168) hx hb dL_act_147 (by decide) ?_
            refine lv_istore (lv' := [(6, .int ((1 : Int32) + (lowI (v >>> (6 &&& 31)) 35))), (0, .ref (ad 0)), (1, .int v), (2, .int (bI (odB v))), (3, .int (lowI v 36)), (4, .int (stV v)), (5, .int (amV v))]) hx hb dL_act_168 hl (by decide) rfl (fun ls hl => ?_)
            refine lv_aload_n hx hb dL_act_170 rfl (lv_at hl 1 rfl) ?_
            refine lv_iload_n hx hb dL_act_171 rfl (lv_at hl 4 rfl) ?_
            refine lv_iload hx hb dL_act_172 (lv_at hl 0 rfl) ?_
            refine lv_iload_n hx hb dL_act_174 rfl (lv_at hl 4 rfl) ?_
            refine lv_if_ne (tgt := 187) hx hb dL_act_175 (by decide) (fun _ => ?_) (fun z => False.elim (c_21 z))
            refine lv_iload_n hx hb dL_act_187 rfl (lv_at hl 4 rfl) ?_
            refine lv_iconst (v := 1) hx hb dL_act_188 (by decide) ?_
            refine lv_icmp_ne (tgt := 207) hx hb dL_act_189 (by decide) (fun z => False.elim (z c_22)) (fun _ => ?_)
            refine lv_bipush (v := 15) hx hb dL_act_192 (by decide) ?_
            refine lv_iload_n hx hb dL_act_194 rfl (lv_at hl 2 rfl) ?_
            refine lv_bipush (v := 9) hx hb dL_act_195 (by decide) ?_
            refine lv_ishr hx hb dL_act_197 ?_
            refine lv_bipush (v := 16) hx hb dL_act_198 (by decide) ?_
            refine r_S0 X S (c_L_low l D cA ad _ F (v >>> (9 &&& 31)) 16 (by decide)) (va_cwS 2 hts gL_act_L_low rfl rfl rfl (by decide +kernel) ⟨Nat.le_of_ble_eq_true rfl, Nat.le_of_ble_eq_true rfl⟩) rfl hl.1 rfl (Nat.le_of_ble_eq_true rfl) dL_act_200 ⟨Nat.zero_le _, Nat.zero_le _⟩ (fun H locs S => ?_)
            refine lv_iadd hx hb dL_act_203 ?_
            refine lv_goto (tgt := 225) hx hb dL_act_204 (by decide) ?_
            refine lv_iload_n hx hb dL_act_225 rfl (lv_at hl 2 rfl) ?_
            refine lv_bipush (v := 11) hx hb dL_act_226 (by decide) ?_
            refine lv_ishr hx hb dL_act_228 ?_
            refine lv_iload_n hx hb dL_act_229 rfl (lv_at hl 3 rfl) ?_
            refine lv_if_eq (tgt := 238) hx hb dL_act_230 (by decide) (fun z => False.elim (by rw [c_24] at z; revert z; decide)) (fun _ => ?_)
            refine lv_ldc (v := 110000) hx hb hown (hts (.constant RL 82 (110000)) (by decide +kernel)) dL_act_233 ?_
            refine lv_goto (tgt := 240) hx hb dL_act_235 (by decide) ?_
            refine r_S0 X S (c_L_low l D cA ad _ F (v >>> (11 &&& 31)) 110000 (by decide)) (va_cwS 2 hts gL_act_L_low rfl rfl rfl (by decide +kernel) ⟨Nat.le_of_ble_eq_true rfl, Nat.le_of_ble_eq_true rfl⟩) rfl hl.1 rfl (Nat.le_of_ble_eq_true rfl) dL_act_240 ⟨Nat.zero_le _, Nat.zero_le _⟩ (fun H locs S => ?_)
            refine r_SW X S (hD_at hD (show dcQ v = ((lowI v 36 : Int32), ((1 : Int32) + (lowI (v >>> (6 &&& 31)) 35) : Int32), ((15 : Int32) + (lowI (v >>> (9 &&& 31)) 16) : Int32), (lowI (v >>> (11 &&& 31)) 110000 : Int32)) from (by unfold dcQ; simp only [c_1, c_21, eq_true c_22, c_24, Bool.false_eq_true, ↓reduceIte])) D cA ad _) (vx_cwSW 5 (hh := [(0, 176, 177, 51), (0, 176, 182, 54), (0, 176, 187, 56)]) hts gL_act_L_does rfl rfl rfl (by decide +kernel) ⟨Nat.le_of_ble_eq_true rfl, Nat.le_of_ble_eq_true rfl⟩) rfl hl.1 rfl (Nat.le_of_ble_eq_true rfl) dL_act_243 ⟨Nat.le_of_ble_eq_true rfl, Nat.le_of_ble_eq_true rfl⟩ (fun H locs S => ?_)
            exact r_iret X S hr dL_act_246 (Nat.le_of_ble_eq_true rfl) (Nat.le_of_ble_eq_true rfl) rfl rfl
      · refine lv_iload_n hx hb dL_act_103 rfl (lv_at hl 1 rfl) ?_
        refine lv_bipush (v := 6) hx hb dL_act_104 (by decide) ?_
        refine lv_ishr hx hb dL_act_106 ?_
        refine lv_iload_n hx hb dL_act_107 rfl (lv_at hl 2 rfl) ?_
        refine lv_if_eq (tgt := 115) hx hb dL_act_108 (by decide) (fun c_25 => ?_) (fun c_25 => ?_)
        · have c_25 : (odB v) = false := bI_f c_25
          refine lv_iconst (v := 2) hx hb dL_act_115 (by decide) ?_
          refine r_S0 X S (c_L_low l D cA ad _ F (v >>> (6 &&& 31)) 2 (by decide)) (va_cwS 2 hts gL_act_L_low rfl rfl rfl (by decide +kernel) ⟨Nat.le_of_ble_eq_true rfl, Nat.le_of_ble_eq_true rfl⟩) rfl hl.1 rfl (Nat.le_of_ble_eq_true rfl) dL_act_116 ⟨Nat.zero_le _, Nat.zero_le _⟩ (fun H locs S => ?_)
          refine lv_goto (tgt := 168) hx hb dL_act_119 (by decide) ?_
          refine lv_istore (lv' := [(6, .int (lowI (v >>> (6 &&& 31)) 2)), (0, .ref (ad 0)), (1, .int v), (2, .int (bI (odB v))), (3, .int (lowI v 36)), (4, .int (stV v)), (5, .int (amV v))]) hx hb dL_act_168 hl (by decide) rfl (fun ls hl => ?_)
          refine lv_aload_n hx hb dL_act_170 rfl (lv_at hl 1 rfl) ?_
          refine lv_iload_n hx hb dL_act_171 rfl (lv_at hl 4 rfl) ?_
          refine lv_iload hx hb dL_act_172 (lv_at hl 0 rfl) ?_
          refine lv_iload_n hx hb dL_act_174 rfl (lv_at hl 4 rfl) ?_
          refine lv_if_ne (tgt := 187) hx hb dL_act_175 (by decide) (fun z => False.elim (z c_21)) (fun _ => ?_)
          refine lv_iload_n hx hb dL_act_178 rfl (lv_at hl 2 rfl) ?_
          refine lv_bipush (v := 8) hx hb dL_act_179 (by decide) ?_
          refine lv_ishr hx hb dL_act_181 ?_
          refine lv_iconst (v := 1) hx hb dL_act_182 (by decide) ?_
          refine lv_iand hx hb dL_act_183 ?_
          refine lv_goto (tgt := 225) hx hb dL_act_184 (by decide) ?_
          refine lv_iload_n hx hb dL_act_225 rfl (lv_at hl 2 rfl) ?_
          refine lv_bipush (v := 11) hx hb dL_act_226 (by decide) ?_
          refine lv_ishr hx hb dL_act_228 ?_
          refine lv_iload_n hx hb dL_act_229 rfl (lv_at hl 3 rfl) ?_
          refine lv_if_eq (tgt := 238) hx hb dL_act_230 (by decide) (fun _ => ?_) (fun z => False.elim (by rw [c_25] at z; revert z; decide))
          refine lv_ldc (v := 100001) hx hb hown (hts (.constant RL 83 (100001)) (by decide +kernel)) dL_act_238 ?_
          refine r_S0 X S (c_L_low l D cA ad _ F (v >>> (11 &&& 31)) 100001 (by decide)) (va_cwS 2 hts gL_act_L_low rfl rfl rfl (by decide +kernel) ⟨Nat.le_of_ble_eq_true rfl, Nat.le_of_ble_eq_true rfl⟩) rfl hl.1 rfl (Nat.le_of_ble_eq_true rfl) dL_act_240 ⟨Nat.zero_le _, Nat.zero_le _⟩ (fun H locs S => ?_)
          refine r_SW X S (hD_at hD (show dcQ v = ((lowI v 36 : Int32), (lowI (v >>> (6 &&& 31)) 2 : Int32), ((v >>> (8 &&& 31)) &&& 1 : Int32), (lowI (v >>> (11 &&& 31)) 100001 : Int32)) from (by unfold dcQ; simp only [c_1, eq_true c_21, c_25, Bool.false_eq_true, ↓reduceIte])) D cA ad _) (vx_cwSW 5 (hh := [(0, 176, 177, 51), (0, 176, 182, 54), (0, 176, 187, 56)]) hts gL_act_L_does rfl rfl rfl (by decide +kernel) ⟨Nat.le_of_ble_eq_true rfl, Nat.le_of_ble_eq_true rfl⟩) rfl hl.1 rfl (Nat.le_of_ble_eq_true rfl) dL_act_243 ⟨Nat.le_of_ble_eq_true rfl, Nat.le_of_ble_eq_true rfl⟩ (fun H locs S => ?_)
          exact r_iret X S hr dL_act_246 (Nat.le_of_ble_eq_true rfl) (Nat.le_of_ble_eq_true rfl) rfl rfl
        · have c_25 : (odB v) = true := bI_t c_25
          refine lv_iconst (v := 3) hx hb dL_act_111 (by decide) ?_
          refine lv_goto (tgt := 116) hx hb dL_act_112 (by decide) ?_
          refine r_S0 X S (c_L_low l D cA ad _ F (v >>> (6 &&& 31)) 3 (by decide)) (va_cwS 2 hts gL_act_L_low rfl rfl rfl (by decide +kernel) ⟨Nat.le_of_ble_eq_true rfl, Nat.le_of_ble_eq_true rfl⟩) rfl hl.1 rfl (Nat.le_of_ble_eq_true rfl) dL_act_116 ⟨Nat.zero_le _, Nat.zero_le _⟩ (fun H locs S => ?_)
          refine lv_goto (tgt := 168) hx hb dL_act_119 (by decide) ?_
          refine lv_istore (lv' := [(6, .int (lowI (v >>> (6 &&& 31)) 3)), (0, .ref (ad 0)), (1, .int v), (2, .int (bI (odB v))), (3, .int (lowI v 36)), (4, .int (stV v)), (5, .int (amV v))]) hx hb dL_act_168 hl (by decide) rfl (fun ls hl => ?_)
          refine lv_aload_n hx hb dL_act_170 rfl (lv_at hl 1 rfl) ?_
          refine lv_iload_n hx hb dL_act_171 rfl (lv_at hl 4 rfl) ?_
          refine lv_iload hx hb dL_act_172 (lv_at hl 0 rfl) ?_
          refine lv_iload_n hx hb dL_act_174 rfl (lv_at hl 4 rfl) ?_
          refine lv_if_ne (tgt := 187) hx hb dL_act_175 (by decide) (fun z => False.elim (z c_21)) (fun _ => ?_)
          refine lv_iload_n hx hb dL_act_178 rfl (lv_at hl 2 rfl) ?_
          refine lv_bipush (v := 8) hx hb dL_act_179 (by decide) ?_
          refine lv_ishr hx hb dL_act_181 ?_
          refine lv_iconst (v := 1) hx hb dL_act_182 (by decide) ?_
          refine lv_iand hx hb dL_act_183 ?_
          refine lv_goto (tgt := 225) hx hb dL_act_184 (by decide) ?_
          refine lv_iload_n hx hb dL_act_225 rfl (lv_at hl 2 rfl) ?_
          refine lv_bipush (v := 11) hx hb dL_act_226 (by decide) ?_
          refine lv_ishr hx hb dL_act_228 ?_
          refine lv_iload_n hx hb dL_act_229 rfl (lv_at hl 3 rfl) ?_
          refine lv_if_eq (tgt := 238) hx hb dL_act_230 (by decide) (fun z => False.elim (by rw [c_25] at z; revert z; decide)) (fun _ => ?_)
          refine lv_ldc (v := 110000) hx hb hown (hts (.constant RL 82 (110000)) (by decide +kernel)) dL_act_233 ?_
          refine lv_goto (tgt := 240) hx hb dL_act_235 (by decide) ?_
          refine r_S0 X S (c_L_low l D cA ad _ F (v >>> (11 &&& 31)) 110000 (by decide)) (va_cwS 2 hts gL_act_L_low rfl rfl rfl (by decide +kernel) ⟨Nat.le_of_ble_eq_true rfl, Nat.le_of_ble_eq_true rfl⟩) rfl hl.1 rfl (Nat.le_of_ble_eq_true rfl) dL_act_240 ⟨Nat.zero_le _, Nat.zero_le _⟩ (fun H locs S => ?_)
          refine r_SW X S (hD_at hD (show dcQ v = ((lowI v 36 : Int32), (lowI (v >>> (6 &&& 31)) 3 : Int32), ((v >>> (8 &&& 31)) &&& 1 : Int32), (lowI (v >>> (11 &&& 31)) 110000 : Int32)) from (by unfold dcQ; simp only [c_1, eq_true c_21, c_25, Bool.false_eq_true, ↓reduceIte])) D cA ad _) (vx_cwSW 5 (hh := [(0, 176, 177, 51), (0, 176, 182, 54), (0, 176, 187, 56)]) hts gL_act_L_does rfl rfl rfl (by decide +kernel) ⟨Nat.le_of_ble_eq_true rfl, Nat.le_of_ble_eq_true rfl⟩) rfl hl.1 rfl (Nat.le_of_ble_eq_true rfl) dL_act_243 ⟨Nat.le_of_ble_eq_true rfl, Nat.le_of_ble_eq_true rfl⟩ (fun H locs S => ?_)
          exact r_iret X S hr dL_act_246 (Nat.le_of_ble_eq_true rfl) (Nat.le_of_ble_eq_true rfl) rfl rfl
  refine lv_iload_n hx hb dL_act_0 rfl (lv_at hl 1 rfl) ?_
  refine lv_bipush (v := 24) hx hb dL_act_1 (by decide) ?_
  refine lv_ishr hx hb dL_act_3 ?_
  refine lv_bipush (v := 8) hx hb dL_act_4 (by decide) ?_
  refine r_S0 X S (c_L_low l D cA ad _ F (v >>> (24 &&& 31)) 8 (by decide)) (va_cwS 2 hts gL_act_L_low rfl rfl rfl (by decide +kernel) ⟨Nat.le_of_ble_eq_true rfl, Nat.le_of_ble_eq_true rfl⟩) rfl hl.1 rfl (Nat.le_of_ble_eq_true rfl) dL_act_6 ⟨Nat.zero_le _, Nat.zero_le _⟩ (fun H locs S => ?_)
  refine lv_if_ne (tgt := 16) hx hb dL_act_9 (by decide) (fun c_26 => ?_) (fun c_26 => ?_)
  · refine lv_iconst (v := 0) hx hb dL_act_16 (by decide) ?_
    refine lv_istore_n (lv' := [(2, .int 0), (0, .ref (ad 0)), (1, .int v)]) hx hb dL_act_17 rfl hl (by decide) rfl (fun ls hl => ?_)
    refine lv_iload_n hx hb dL_act_18 rfl (lv_at hl 2 rfl) ?_
    refine lv_bipush (v := 36) hx hb dL_act_19 (by decide) ?_
    refine r_S0 X S (c_L_low l D cA ad _ F v 36 (by decide)) (va_cwS 2 hts gL_act_L_low rfl rfl rfl (by decide +kernel) ⟨Nat.le_of_ble_eq_true rfl, Nat.le_of_ble_eq_true rfl⟩) rfl hl.1 rfl (Nat.le_of_ble_eq_true rfl) dL_act_21 ⟨Nat.zero_le _, Nat.zero_le _⟩ (fun H locs S => ?_)
    refine lv_istore_n (lv' := [(3, .int (lowI v 36)), (2, .int 0), (0, .ref (ad 0)), (1, .int v)]) hx hb dL_act_24 rfl hl (by decide) rfl (fun ls hl => ?_)
    refine lv_iload_n hx hb dL_act_25 rfl (lv_at hl 1 rfl) ?_
    refine lv_if_eq (tgt := 43) hx hb dL_act_26 (by decide) (fun _ => ?_) (fun z => False.elim (by first | exact absurd z (by decide) | exact absurd (by decide) z))
    refine lv_iload_n hx hb dL_act_43 rfl (lv_at hl 3 rfl) ?_
    refine lv_bipush (v := 6) hx hb dL_act_44 (by decide) ?_
    refine lv_ishr hx hb dL_act_46 ?_
    refine lv_iconst (v := 3) hx hb dL_act_47 (by decide) ?_
    refine lv_iand hx hb dL_act_48 ?_
    refine lv_istore (lv' := [(4, .int ((v >>> (6 &&& 31)) &&& 3)), (3, .int (lowI v 36)), (2, .int 0), (0, .ref (ad 0)), (1, .int v)]) hx hb dL_act_49 hl (by decide) rfl (fun ls hl => ?_)
    refine lv_iload_n hx hb dL_act_51 rfl (lv_at hl 2 rfl) ?_
    refine lv_if_eq (tgt := 67) hx hb dL_act_52 (by decide) (fun _ => ?_) (fun z => False.elim (by first | exact absurd z (by decide) | exact absurd (by decide) z))
    refine lv_iconst (v := 1) hx hb dL_act_67 (by decide) ?_
    refine lv_iload_n hx hb dL_act_68 rfl (lv_at hl 4 rfl) ?_
    refine lv_bipush (v := 9) hx hb dL_act_69 (by decide) ?_
    refine lv_ishr hx hb dL_act_71 ?_
    refine lv_iload_n hx hb dL_act_72 rfl (lv_at hl 4 rfl) ?_
    refine lv_bipush (v := 21) hx hb dL_act_73 (by decide) ?_
    refine lv_ishr hx hb dL_act_75 ?_
    refine lv_iconst (v := 1) hx hb dL_act_76 (by decide) ?_
    refine lv_iand hx hb dL_act_77 ?_
    refine lv_if_ne (tgt := 86) hx hb dL_act_78 (by decide) (fun c_27 => ?_) (fun c_27 => ?_)
    · refine lv_ldc (v := 50000) hx hb hown (hts (.constant RL 81 (50000)) (by decide +kernel)) dL_act_86 ?_
      refine r_S0 X S (c_L_low l D cA ad _ F (v >>> (9 &&& 31)) 50000 (by decide)) (va_cwS 2 hts gL_act_L_low rfl rfl rfl (by decide +kernel) ⟨Nat.le_of_ble_eq_true rfl, Nat.le_of_ble_eq_true rfl⟩) rfl hl.1 rfl (Nat.le_of_ble_eq_true rfl) dL_act_88 ⟨Nat.zero_le _, Nat.zero_le _⟩ (fun H locs S => ?_)
      refine lv_iadd hx hb dL_act_91 ?_
      refine lv_istore (lv' := [(5, .int ((1 : Int32) + (lowI (v >>> (9 &&& 31)) 50000))), (4, .int ((v >>> (6 &&& 31)) &&& 3)), (3, .int (lowI v 36)), (2, .int 0), (0, .ref (ad 0)), (1, .int v)]) hx hb dL_act_92 hl (by decide) rfl (fun ls hl => ?_)
      exact kk H locs ls S (by rw [show stV v = (v >>> (6 &&& 31)) &&& 3 from if_neg (show ¬ odB v = true from by unfold odB; rw [decide_eq_false c_26]; decide), show amV v = (1 : Int32) + (lowI (v >>> (9 &&& 31)) 50000) from (if_neg (show ¬ odB v = true from by unfold odB; rw [decide_eq_false c_26]; decide)).trans (by rw [if_neg c_27]), show odB v = false from decide_eq_false c_26]; exact (lv_sub hl [4, 5, 3, 2, 1, 0] rfl))
    · refine lv_ldc (v := 1000000) hx hb hown (hts (.constant RL 80 (1000000)) (by decide +kernel)) dL_act_81 ?_
      refine lv_goto (tgt := 88) hx hb dL_act_83 (by decide) ?_
      refine r_S0 X S (c_L_low l D cA ad _ F (v >>> (9 &&& 31)) 1000000 (by decide)) (va_cwS 2 hts gL_act_L_low rfl rfl rfl (by decide +kernel) ⟨Nat.le_of_ble_eq_true rfl, Nat.le_of_ble_eq_true rfl⟩) rfl hl.1 rfl (Nat.le_of_ble_eq_true rfl) dL_act_88 ⟨Nat.zero_le _, Nat.zero_le _⟩ (fun H locs S => ?_)
      refine lv_iadd hx hb dL_act_91 ?_
      refine lv_istore (lv' := [(5, .int ((1 : Int32) + (lowI (v >>> (9 &&& 31)) 1000000))), (4, .int ((v >>> (6 &&& 31)) &&& 3)), (3, .int (lowI v 36)), (2, .int 0), (0, .ref (ad 0)), (1, .int v)]) hx hb dL_act_92 hl (by decide) rfl (fun ls hl => ?_)
      exact kk H locs ls S (by rw [show stV v = (v >>> (6 &&& 31)) &&& 3 from if_neg (show ¬ odB v = true from by unfold odB; rw [decide_eq_false c_26]; decide), show amV v = (1 : Int32) + (lowI (v >>> (9 &&& 31)) 1000000) from (if_neg (show ¬ odB v = true from by unfold odB; rw [decide_eq_false c_26]; decide)).trans (by rw [if_pos c_27]), show odB v = false from decide_eq_false c_26]; exact (lv_sub hl [4, 5, 3, 2, 1, 0] rfl))
  · refine lv_iconst (v := 1) hx hb dL_act_12 (by decide) ?_
    refine lv_goto (tgt := 17) hx hb dL_act_13 (by decide) ?_
    refine lv_istore_n (lv' := [(2, .int 1), (0, .ref (ad 0)), (1, .int v)]) hx hb dL_act_17 rfl hl (by decide) rfl (fun ls hl => ?_)
    refine lv_iload_n hx hb dL_act_18 rfl (lv_at hl 2 rfl) ?_
    refine lv_bipush (v := 36) hx hb dL_act_19 (by decide) ?_
    refine r_S0 X S (c_L_low l D cA ad _ F v 36 (by decide)) (va_cwS 2 hts gL_act_L_low rfl rfl rfl (by decide +kernel) ⟨Nat.le_of_ble_eq_true rfl, Nat.le_of_ble_eq_true rfl⟩) rfl hl.1 rfl (Nat.le_of_ble_eq_true rfl) dL_act_21 ⟨Nat.zero_le _, Nat.zero_le _⟩ (fun H locs S => ?_)
    refine lv_istore_n (lv' := [(3, .int (lowI v 36)), (2, .int 1), (0, .ref (ad 0)), (1, .int v)]) hx hb dL_act_24 rfl hl (by decide) rfl (fun ls hl => ?_)
    refine lv_iload_n hx hb dL_act_25 rfl (lv_at hl 1 rfl) ?_
    refine lv_if_eq (tgt := 43) hx hb dL_act_26 (by decide) (fun z => False.elim (by first | exact absurd z (by decide) | exact absurd (by decide) z)) (fun _ => ?_)
    refine lv_iload_n hx hb dL_act_29 rfl (lv_at hl 3 rfl) ?_
    refine lv_bipush (v := 6) hx hb dL_act_30 (by decide) ?_
    refine lv_ishr hx hb dL_act_32 ?_
    refine lv_bipush (v := 7) hx hb dL_act_33 (by decide) ?_
    refine r_S0 X S (c_L_low l D cA ad _ F (v >>> (6 &&& 31)) 7 (by decide)) (va_cwS 2 hts gL_act_L_low rfl rfl rfl (by decide +kernel) ⟨Nat.le_of_ble_eq_true rfl, Nat.le_of_ble_eq_true rfl⟩) rfl hl.1 rfl (Nat.le_of_ble_eq_true rfl) dL_act_35 ⟨Nat.zero_le _, Nat.zero_le _⟩ (fun H locs S => ?_)
    refine lv_iconst (v := 1) hx hb dL_act_38 (by decide) ?_
    refine lv_isub hx hb dL_act_39 ?_
    refine lv_goto (tgt := 49) hx hb dL_act_40 (by decide) ?_
    refine lv_istore (lv' := [(4, .int ((lowI (v >>> (6 &&& 31)) 7) - 1)), (3, .int (lowI v 36)), (2, .int 1), (0, .ref (ad 0)), (1, .int v)]) hx hb dL_act_49 hl (by decide) rfl (fun ls hl => ?_)
    refine lv_iload_n hx hb dL_act_51 rfl (lv_at hl 2 rfl) ?_
    refine lv_if_eq (tgt := 67) hx hb dL_act_52 (by decide) (fun z => False.elim (by first | exact absurd z (by decide) | exact absurd (by decide) z)) (fun _ => ?_)
    refine lv_iload_n hx hb dL_act_55 rfl (lv_at hl 4 rfl) ?_
    refine lv_bipush (v := 9) hx hb dL_act_56 (by decide) ?_
    refine lv_ishr hx hb dL_act_58 ?_
    refine lv_ldc (v := 1100000) hx hb hown (hts (.constant RL 79 (1100000)) (by decide +kernel)) dL_act_59 ?_
    refine r_S0 X S (c_L_low l D cA ad _ F (v >>> (9 &&& 31)) 1100000 (by decide)) (va_cwS 2 hts gL_act_L_low rfl rfl rfl (by decide +kernel) ⟨Nat.le_of_ble_eq_true rfl, Nat.le_of_ble_eq_true rfl⟩) rfl hl.1 rfl (Nat.le_of_ble_eq_true rfl) dL_act_61 ⟨Nat.zero_le _, Nat.zero_le _⟩ (fun H locs S => ?_)
    refine lv_goto (tgt := 92) hx hb dL_act_64 (by decide) ?_
    refine lv_istore (lv' := [(5, .int (lowI (v >>> (9 &&& 31)) 1100000)), (4, .int ((lowI (v >>> (6 &&& 31)) 7) - 1)), (3, .int (lowI v 36)), (2, .int 1), (0, .ref (ad 0)), (1, .int v)]) hx hb dL_act_92 hl (by decide) rfl (fun ls hl => ?_)
    exact kk H locs ls S (by rw [show stV v = (lowI (v >>> (6 &&& 31)) 7) - 1 from if_pos (show odB v = true from decide_eq_true c_26), show amV v = lowI (v >>> (9 &&& 31)) 1100000 from if_pos (show odB v = true from decide_eq_true c_26), show odB v = true from decide_eq_true c_26]; exact (lv_sub hl [4, 5, 3, 2, 1, 0] rfl))
def AC (l : Launch) (n : Nat) (v : Int32) (M : FF) (k : Int32) (M' : FF) : Prop := (k = -1000000001 → M' = M) ∧ (0 ≤ (M 36 8).toInt → 0 ≤ (M' 36 8).toInt) ∧ ∀ F : FF, RX n F M → ∃ F1 : FF, (∀ (D : va_G) (cA : Nat → ClassId) (ad : Nat → Nat) (sz : Nat), CI l D cA ad sz yL_act wsL_act 10 186 1 6 [.ref (ad 0), .int v] F (some (.int k)) F1) ∧ RX (n + 1) F1 M'
theorem ac_any {l : Launch} (hst : l.stackTraces = false) {n : Nat} (hn : n < 512) {F0 M : FF} (h0 : RX n F0 M) (v : Int32) : ∃ (k : Int32) (M' : FF), AC l n v M k M' := by
  obtain ⟨k, M', h1, h8, h2⟩ := do_any hst hn h0 (dcQ v).1 (dcQ v).2.1 (dcQ v).2.2.1 (dcQ v).2.2.2
  refine ⟨k, M', h1, h8, fun F hF => ?_⟩
  obtain ⟨F1, c1, r1⟩ := h2 F hF
  exact ⟨F1, fun D cA ad sz => c_L_act l D cA ad sz F v k F1 c1, r1⟩
theorem u_used {n : Nat} (hn : n ≤ 512) {F M : FF} (h : RX n F M) {i : Nat} (hi : i < 4) {j : Nat} (hj : j < aM M i) : ∃ F1 : FF, (∀ (l : Launch) (D : va_G) (cA : Nat → ClassId) (ad : Nat → Nat) (sz : Nat), CI l D cA ad sz yL_used wsL_used 5 111 0 0 [.ref (ad 0), .int (nI i), .int (nI j)] F (some (.int (usR M i (nI j)))) F1) ∧ RX n F1 M := by
  have h6 := aw_6 h hi
  obtain ⟨r, hr, em⟩ := aw_r h hi hj
  refine ⟨balF F i, fun l D cA ad sz => ?_, pm_bal h hi⟩
  have q := w_L_used l D cA ad sz F i hi j (by omega) (by rw [aw_n h hi]; exact hasI_nI hj (by omega))
  rw [(bal_M hn hi h).2.2.1 j r hj hr em] at q
  exact q
theorem u_none {n : Nat} {F M : FF} (h : RX n F M) {i : Nat} (hi : i < 4) {j : Nat} (hj : ¬ j < aM M i) (hj2 : j < 100) {l : Launch} (hst : l.stackTraces = false) (D : va_G) (cA : Nat → ClassId) (ad : Nat → Nat) (sz : Nat) : CI l D cA ad sz yL_used wsL_used 7 113 1 6 [.ref (ad 0), .int (nI i), .int (nI j)] F (some (.int (-1000000001))) F :=
  x4_L_used l D cA ad sz F hst i hi (nI j) (by rw [aw_n h hi]; exact hasI_f2 (nI_le (by omega) (by omega)))
