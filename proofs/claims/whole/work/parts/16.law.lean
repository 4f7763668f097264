/-! the law's own rows: its script -/
section RLW
variable {p : Program} {l : Launch} {e : Env} {R : Room} {s : State} {m : MethodId} {args : Array Value} {below : List Frame} {meth : Method} {c : Code} {cc : ByteArray} {nL : Nat} {ws : List Cond} {own : String} {D : va_G} {cA : Nat → ClassId} {ad : Nat → Nat} {F : FF} {H : Heap} {locs : List Loc} {cells slots : Nat} {Q : State → Prop} {pc : Nat} {ls : Array Slot} {rest : List Value}
theorem r_sld (X : Cx p m c cc nL s args ws own D cA ad meth) (S : St D cA ad F s.heap H locs) {b L : Nat} {xs : Nat → Int32} (hX : va_X b L xs s s.heap) (hbl : b < s.heap.size) (hbA : ¬ AA ad s.heap.size b) (hL : L ≤ 2560) {i : Int32} {q : Nat} (hi : i = nI q) (hq : q < L) (hdg : decode cc pc = .ok (.iaload, 1))
    (kk : W p l e R s m args below meth c H locs cells slots Q (F0 m (pc + 1) ls (.int (xs q) :: rest))) : W p l e R s m args below meth c H locs cells slots Q (F0 m pc ls (.int i :: .ref b :: rest)) := by
  subst hi
  refine va_sld X.1.1 X.1.2.1 hX hbl hbA S.2 (vp_in_nI hq (by omega)) hdg ?_
  rw [nI_clamp (show q < 2 ^ 31 by omega)]
  exact kk
theorem r_sln (X : Cx p m c cc nL s args ws own D cA ad meth) (S : St D cA ad F s.heap H locs) {b L : Nat} {xs : Nat → Int32} (hX : va_X b L xs s s.heap) (hbl : b < s.heap.size) (hbA : ¬ AA ad s.heap.size b) (hdg : decode cc pc = .ok (.arraylength, 1))
    (kk : W p l e R s m args below meth c H locs cells slots Q (F0 m (pc + 1) ls (.int (nI L) :: rest))) : W p l e R s m args below meth c H locs cells slots Q (F0 m pc ls (.ref b :: rest)) :=
  va_slen X.1.1 X.1.2.1 hX hbl hbA S.2 hdg kk
end RLW
theorem lgc_self (x : Int64) : lg_cmp x x = 0 := by
  unfold lg_cmp
  rw [if_neg (fun h => Int64.lt_irrefl h), if_pos rfl]
set_option maxHeartbeats 2000000 in
set_option maxRecDepth 100000 in
theorem law_case0 {p : Program} {l : Launch} {e : Env} {s : State} {m : MethodId} {below : List Frame} {meth : Method} {c : Code} {D : va_G} {cA : Nat → ClassId} {ad : Nat → Nat} {b L : Nat} {xs : Nat → Int32} {Q : State → Prop} (X : Cx p m c code 7 s #[Value.ref b] wsL_law RL D cA ad meth) (hX : va_X b L xs s s.heap) (hbl : b < s.heap.size) (hbA : ¬ AA ad s.heap.size b) (hL : L ≤ 2560) (hst : l.stackTraces = false) {n : Nat} (h5 : 5 * n + 5 ≤ L) {F : FF} (hR : REL n F) {H : Heap} {locs : List Loc} {ls : Array Slot} (S : St D cA ad F s.heap H locs) (hl : lv_has ls 7 [(0, .ref b), (1, .ref (ad 0)), (2, .ref (ad 36)), (3, .ref (ad 59)), (4, .int (nI (5 * n)))]) (kk : ∀ F2 : FF, REL (n + 1) F2 → ∀ (H : Heap) (locs : List Loc) (ls : Array Slot), St D cA ad F2 s.heap H locs → lv_has ls 7 [(0, .ref b), (1, .ref (ad 0)), (2, .ref (ad 36)), (3, .ref (ad 59)), (4, .int (nI (5 * n)))] → W p l e room_1 s m #[Value.ref b] below meth c H locs (100 + n + 1) (700 + 6 * n + 6) Q (F0 m 1605 ls [])) : W p l e room_1 s m #[Value.ref b] below meth c H locs (100 + n) (700 + 6 * n) Q (F0 m 148 ls []) := by
  have hn : n < 512 := by omega
  obtain ⟨⟨hx, hb, hml, hown, hts⟩, hE, hI, hlocks⟩ := id X
  refine lv_aload_n hx hb dL_law_148 rfl (lv_at hl 1 rfl) ?_
  refine lv_aload_n hx hb dL_law_149 rfl (lv_at hl 0 rfl) ?_
  refine lv_iload hx hb dL_law_150 (lv_at hl 4 rfl) ?_
  refine lv_iconst (v := 1) hx hb dL_law_152 (by decide) ?_
  refine lv_iadd hx hb dL_law_153 ?_
  refine lv_topi (fun x_1 ex_1 => ?_)
  obtain rfl : x_1 = nI ((5 * n) + 1) := ex_1.trans (nI_add (5 * n) 1)
  refine r_sld X S hX hbl hbA hL (q := (5 * n) + 1) rfl (by omega) dL_law_154 ?_
  refine lv_aload_n hx hb dL_law_155 rfl (lv_at hl 0 rfl) ?_
  refine lv_iload hx hb dL_law_156 (lv_at hl 4 rfl) ?_
  refine lv_iconst (v := 2) hx hb dL_law_158 (by decide) ?_
  refine lv_iadd hx hb dL_law_159 ?_
  refine lv_topi (fun x_2 ex_2 => ?_)
  obtain rfl : x_2 = nI ((5 * n) + 2) := ex_2.trans (nI_add (5 * n) 2)
  refine r_sld X S hX hbl hbA hL (q := (5 * n) + 2) rfl (by omega) dL_law_160 ?_
  refine lv_if_eq (tgt := 168) hx hb dL_law_161 (by decide) (fun c_3 => ?_) (fun c_3 => ?_)
  · refine lv_iconst (v := 0) hx hb dL_law_168 (by decide) ?_
    refine lv_aload_n hx hb dL_law_169 rfl (lv_at hl 0 rfl) ?_
    refine lv_iload hx hb dL_law_170 (lv_at hl 4 rfl) ?_
    refine lv_iconst (v := 3) hx hb dL_law_172 (by decide) ?_
    refine lv_iadd hx hb dL_law_173 ?_
    refine lv_topi (fun x_4 ex_4 => ?_)
    obtain rfl : x_4 = nI ((5 * n) + 3) := ex_4.trans (nI_add (5 * n) 3)
    refine r_sld X S hX hbl hbA hL (q := (5 * n) + 3) rfl (by omega) dL_law_174 ?_
    refine lv_aload_n hx hb dL_law_175 rfl (lv_at hl 3 rfl) ?_
    obtain ⟨k, bb, F1, F2, hc, hm, ek, eo, hR2⟩ := op_setRate hst hn hR (xs ((5 * n) + 1)) false (xs ((5 * n) + 3))
    refine r_SW X S (hc D cA ad _) (vx_cwSW 5 (hh := [(0, 12, 15, 13)]) hts gL_law_L_setRate rfl rfl rfl (by decide +kernel) ⟨Nat.le_of_ble_eq_true rfl, Nat.le_of_ble_eq_true rfl⟩) rfl hl.1 rfl (Nat.le_of_ble_eq_true rfl) dL_law_176 ⟨(by show 100 + n + 1 ≤ 669044; omega), (by show 700 + 6 * n + 6 ≤ 7088973; omega)⟩ (fun H locs S => ?_)
    refine lv_istore (lv' := [(5, .int k), (0, .ref b), (1, .ref (ad 0)), (2, .ref (ad 36)), (3, .ref (ad 59)), (4, .int (nI (5 * n)))]) hx hb dL_law_179 hl (by decide) rfl (fun ls hl => ?_)
    refine lv_aload_n hx hb dL_law_181 rfl (lv_at hl 3 rfl) ?_
    refine lv_aload_n hx hb dL_law_182 rfl (lv_at hl 1 rfl) ?_
    refine lv_iload hx hb dL_law_183 (lv_at hl 5 rfl) ?_
    refine lv_iconst (v := 1) hx hb dL_law_185 (by decide) ?_
    refine lv_iadd hx hb dL_law_186 ?_
    refine lv_topi (fun x_5 ex_5 => ?_)
    obtain rfl : x_5 = nI ((5 * n) + 1) := ex_5.trans (nI_add (5 * n) 1)
    refine r_sld X S hX hbl hbA hL (q := (5 * n) + 1) rfl (by omega) dL_law_187 ?_
    refine lv_aload_n hx hb dL_law_188 rfl (lv_at hl 1 rfl) ?_
    refine lv_iload hx hb dL_law_189 (lv_at hl 5 rfl) ?_
    refine lv_iconst (v := 2) hx hb dL_law_191 (by decide) ?_
    refine lv_iadd hx hb dL_law_192 ?_
    refine lv_topi (fun x_6 ex_6 => ?_)
    obtain rfl : x_6 = nI ((5 * n) + 2) := ex_6.trans (nI_add (5 * n) 2)
    refine r_sld X S hX hbl hbA hL (q := (5 * n) + 2) rfl (by omega) dL_law_193 ?_
    refine lv_if_eq (tgt := 201) hx hb dL_law_194 (by decide) (fun _ => ?_) (fun z => False.elim (z c_3))
    refine lv_iconst (v := 0) hx hb dL_law_201 (by decide) ?_
    refine lv_aload_n hx hb dL_law_202 rfl (lv_at hl 1 rfl) ?_
    refine lv_iload hx hb dL_law_203 (lv_at hl 5 rfl) ?_
    refine lv_iconst (v := 3) hx hb dL_law_205 (by decide) ?_
    refine lv_iadd hx hb dL_law_206 ?_
    refine lv_topi (fun x_7 ex_7 => ?_)
    obtain rfl : x_7 = nI ((5 * n) + 3) := ex_7.trans (nI_add (5 * n) 3)
    refine r_sld X S hX hbl hbA hL (q := (5 * n) + 3) rfl (by omega) dL_law_207 ?_
    refine r_V0 X S (hm D cA ad _) ob_M rfl (cwV 3 hts gL_law_X5_setRate rfl rfl rfl (by decide +kernel) ⟨Nat.le_of_ble_eq_true rfl, Nat.le_of_ble_eq_true rfl⟩) rfl hl.1 rfl (Nat.le_of_ble_eq_true rfl) dL_law_208 ⟨(by show 100 + n + 1 ≤ 669044; omega), (by show 700 + 6 * n + 6 ≤ 7088973; omega)⟩ (fun H locs S => ?_)
    refine lv_istore (lv' := [(6, .int bb), (5, .int k), (0, .ref b), (1, .ref (ad 0)), (2, .ref (ad 36)), (3, .ref (ad 59)), (4, .int (nI (5 * n)))]) hx hb dL_law_211 hl (by decide) rfl (fun ls hl => ?_)
    refine lv_aload_n hx hb dL_law_213 rfl (lv_at hl 4 rfl) ?_
    refine r_V0 X S (c_X5_thrown l D cA ad _ F2) ob_M rfl (cwV 0 hts gL_law_X5_thrown rfl rfl rfl (by decide +kernel) ⟨Nat.le_of_ble_eq_true rfl, Nat.le_of_ble_eq_true rfl⟩) rfl hl.1 rfl (Nat.le_of_ble_eq_true rfl) dL_law_214 ⟨(by show 100 + n + 1 ≤ 669044; omega), (by show 700 + 6 * n + 6 ≤ 7088973; omega)⟩ (fun H locs S => ?_)
    rw [show F2 36 0 = k from ek]
    refine lv_iload hx hb dL_law_217 (lv_at hl 1 rfl) ?_
    refine lv_icmp_eq (tgt := 224) hx hb dL_law_219 (by decide) (fun _ => ?_) (fun z => False.elim (z rfl))
    refine lv_iload hx hb dL_law_224 (lv_at hl 1 rfl) ?_
    refine lv_if_ne (tgt := 241) hx hb dL_law_226 (by decide) (fun c_8 => ?_) (fun c_8 => ?_)
    · refine lv_goto (tgt := 1605) hx hb dL_law_241 (by decide) ?_
      exact kk F2 hR2 H locs ls S (lv_sub hl [2, 3, 4, 5, 6] rfl)
    · refine lv_aload_n hx hb dL_law_229 rfl (lv_at hl 5 rfl) ?_
      refine lv_iconst (v := 0) hx hb dL_law_230 (by decide) ?_
      refine r_lal X S dL_law_231 ?_
      refine lv_iload hx hb dL_law_232 (lv_at hl 0 rfl) ?_
      refine lv_i2l hx hb dL_law_234 rfl ?_
      refine W.lcmp hx hb dL_law_235 ?_
      rw [eo c_8, lgc_self]
      refine lv_if_eq (tgt := 241) hx hb dL_law_236 (by decide) (fun _ => ?_) (fun z => False.elim (by first | exact absurd z (by decide) | exact absurd (by decide) z))
      refine lv_goto (tgt := 1605) hx hb dL_law_241 (by decide) ?_
      exact kk F2 hR2 H locs ls S (lv_sub hl [2, 3, 4, 5, 6] rfl)
  · refine lv_iconst (v := 1) hx hb dL_law_164 (by decide) ?_
    refine lv_goto (tgt := 169) hx hb dL_law_165 (by decide) ?_
    refine lv_aload_n hx hb dL_law_169 rfl (lv_at hl 0 rfl) ?_
    refine lv_iload hx hb dL_law_170 (lv_at hl 4 rfl) ?_
    refine lv_iconst (v := 3) hx hb dL_law_172 (by decide) ?_
    refine lv_iadd hx hb dL_law_173 ?_
    refine lv_topi (fun x_9 ex_9 => ?_)
    obtain rfl : x_9 = nI ((5 * n) + 3) := ex_9.trans (nI_add (5 * n) 3)
    refine r_sld X S hX hbl hbA hL (q := (5 * n) + 3) rfl (by omega) dL_law_174 ?_
    refine lv_aload_n hx hb dL_law_175 rfl (lv_at hl 3 rfl) ?_
    obtain ⟨k, bb, F1, F2, hc, hm, ek, eo, hR2⟩ := op_setRate hst hn hR (xs ((5 * n) + 1)) true (xs ((5 * n) + 3))
    refine r_SW X S (hc D cA ad _) (vx_cwSW 5 (hh := [(0, 12, 15, 13)]) hts gL_law_L_setRate rfl rfl rfl (by decide +kernel) ⟨Nat.le_of_ble_eq_true rfl, Nat.le_of_ble_eq_true rfl⟩) rfl hl.1 rfl (Nat.le_of_ble_eq_true rfl) dL_law_176 ⟨(by show 100 + n + 1 ≤ 669044; omega), (by show 700 + 6 * n + 6 ≤ 7088973; omega)⟩ (fun H locs S => ?_)
    refine lv_istore (lv' := [(5, .int k), (0, .ref b), (1, .ref (ad 0)), (2, .ref (ad 36)), (3, .ref (ad 59)), (4, .int (nI (5 * n)))]) hx hb dL_law_179 hl (by decide) rfl (fun ls hl => ?_)
    refine lv_aload_n hx hb dL_law_181 rfl (lv_at hl 3 rfl) ?_
    refine lv_aload_n hx hb dL_law_182 rfl (lv_at hl 1 rfl) ?_
    refine lv_iload hx hb dL_law_183 (lv_at hl 5 rfl) ?_
    refine lv_iconst (v := 1) hx hb dL_law_185 (by decide) ?_
    refine lv_iadd hx hb dL_law_186 ?_
    refine lv_topi (fun x_10 ex_10 => ?_)
    obtain rfl : x_10 = nI ((5 * n) + 1) := ex_10.trans (nI_add (5 * n) 1)
    refine r_sld X S hX hbl hbA hL (q := (5 * n) + 1) rfl (by omega) dL_law_187 ?_
    refine lv_aload_n hx hb dL_law_188 rfl (lv_at hl 1 rfl) ?_
    refine lv_iload hx hb dL_law_189 (lv_at hl 5 rfl) ?_
    refine lv_iconst (v := 2) hx hb dL_law_191 (by decide) ?_
    refine lv_iadd hx hb dL_law_192 ?_
    refine lv_topi (fun x_11 ex_11 => ?_)
    obtain rfl : x_11 = nI ((5 * n) + 2) := ex_11.trans (nI_add (5 * n) 2)
    refine r_sld X S hX hbl hbA hL (q := (5 * n) + 2) rfl (by omega) dL_law_193 ?_
    refine lv_if_eq (tgt := 201) hx hb dL_law_194 (by decide) (fun z => False.elim (c_3 z)) (fun _ => ?_)
    refine lv_iconst (v := 1) hx hb dL_law_197 (by decide) ?_
    refine lv_goto (tgt := 202) hx hb dL_law_198 (by decide) ?_
    refine lv_aload_n hx hb dL_law_202 rfl (lv_at hl 1 rfl) ?_
    refine lv_iload hx hb dL_law_203 (lv_at hl 5 rfl) ?_
    refine lv_iconst (v := 3) hx hb dL_law_205 (by decide) ?_
    refine lv_iadd hx hb dL_law_206 ?_
    refine lv_topi (fun x_12 ex_12 => ?_)
    obtain rfl : x_12 = nI ((5 * n) + 3) := ex_12.trans (nI_add (5 * n) 3)
    refine r_sld X S hX hbl hbA hL (q := (5 * n) + 3) rfl (by omega) dL_law_207 ?_
    refine r_V0 X S (hm D cA ad _) ob_M rfl (cwV 3 hts gL_law_X5_setRate rfl rfl rfl (by decide +kernel) ⟨Nat.le_of_ble_eq_true rfl, Nat.le_of_ble_eq_true rfl⟩) rfl hl.1 rfl (Nat.le_of_ble_eq_true rfl) dL_law_208 ⟨(by show 100 + n + 1 ≤ 669044; omega), (by show 700 + 6 * n + 6 ≤ 7088973; omega)⟩ (fun H locs S => ?_)
    refine lv_istore (lv' := [(6, .int bb), (5, .int k), (0, .ref b), (1, .ref (ad 0)), (2, .ref (ad 36)), (3, .ref (ad 59)), (4, .int (nI (5 * n)))]) hx hb dL_law_211 hl (by decide) rfl (fun ls hl => ?_)
    refine lv_aload_n hx hb dL_law_213 rfl (lv_at hl 4 rfl) ?_
    refine r_V0 X S (c_X5_thrown l D cA ad _ F2) ob_M rfl (cwV 0 hts gL_law_X5_thrown rfl rfl rfl (by decide +kernel) ⟨Nat.le_of_ble_eq_true rfl, Nat.le_of_ble_eq_true rfl⟩) rfl hl.1 rfl (Nat.le_of_ble_eq_true rfl) dL_law_214 ⟨(by show 100 + n + 1 ≤ 669044; omega), (by show 700 + 6 * n + 6 ≤ 7088973; omega)⟩ (fun H locs S => ?_)
    rw [show F2 36 0 = k from ek]
    refine lv_iload hx hb dL_law_217 (lv_at hl 1 rfl) ?_
    refine lv_icmp_eq (tgt := 224) hx hb dL_law_219 (by decide) (fun _ => ?_) (fun z => False.elim (z rfl))
    refine lv_iload hx hb dL_law_224 (lv_at hl 1 rfl) ?_
    refine lv_if_ne (tgt := 241) hx hb dL_law_226 (by decide) (fun c_13 => ?_) (fun c_13 => ?_)
    · refine lv_goto (tgt := 1605) hx hb dL_law_241 (by decide) ?_
      exact kk F2 hR2 H locs ls S (lv_sub hl [2, 3, 4, 5, 6] rfl)
    · refine lv_aload_n hx hb dL_law_229 rfl (lv_at hl 5 rfl) ?_
      refine lv_iconst (v := 0) hx hb dL_law_230 (by decide) ?_
      refine r_lal X S dL_law_231 ?_
      refine lv_iload hx hb dL_law_232 (lv_at hl 0 rfl) ?_
      refine lv_i2l hx hb dL_law_234 rfl ?_
      refine W.lcmp hx hb dL_law_235 ?_
      rw [eo c_13, lgc_self]
      refine lv_if_eq (tgt := 241) hx hb dL_law_236 (by decide) (fun _ => ?_) (fun z => False.elim (by first | exact absurd z (by decide) | exact absurd (by decide) z))
      refine lv_goto (tgt := 1605) hx hb dL_law_241 (by decide) ?_
      exact kk F2 hR2 H locs ls S (lv_sub hl [2, 3, 4, 5, 6] rfl)

set_option maxHeartbeats 2000000 in
set_option maxRecDepth 100000 in
theorem law_case1 {p : Program} {l : Launch} {e : Env} {s : State} {m : MethodId} {below : List Frame} {meth : Method} {c : Code} {D : va_G} {cA : Nat → ClassId} {ad : Nat → Nat} {b L : Nat} {xs : Nat → Int32} {Q : State → Prop} (X : Cx p m c code 7 s #[Value.ref b] wsL_law RL D cA ad meth) (hX : va_X b L xs s s.heap) (hbl : b < s.heap.size) (hbA : ¬ AA ad s.heap.size b) (hL : L ≤ 2560) (hst : l.stackTraces = false) {n : Nat} (h5 : 5 * n + 5 ≤ L) {F : FF} (hR : REL n F) {H : Heap} {locs : List Loc} {ls : Array Slot} (S : St D cA ad F s.heap H locs) (hl : lv_has ls 7 [(0, .ref b), (1, .ref (ad 0)), (2, .ref (ad 36)), (3, .ref (ad 59)), (4, .int (nI (5 * n)))]) (kk : ∀ F2 : FF, REL (n + 1) F2 → ∀ (H : Heap) (locs : List Loc) (ls : Array Slot), St D cA ad F2 s.heap H locs → lv_has ls 7 [(0, .ref b), (1, .ref (ad 0)), (2, .ref (ad 36)), (3, .ref (ad 59)), (4, .int (nI (5 * n)))] → W p l e room_1 s m #[Value.ref b] below meth c H locs (100 + n + 1) (700 + 6 * n + 6) Q (F0 m 1605 ls [])) : W p l e room_1 s m #[Value.ref b] below meth c H locs (100 + n) (700 + 6 * n) Q (F0 m 244 ls []) := by
  have hn : n < 512 := by omega
  obtain ⟨⟨hx, hb, hml, hown, hts⟩, hE, hI, hlocks⟩ := id X
  refine lv_aload_n hx hb dL_law_244 rfl (lv_at hl 1 rfl) ?_
  refine lv_aload_n hx hb dL_law_245 rfl (lv_at hl 0 rfl) ?_
  refine lv_iload hx hb dL_law_246 (lv_at hl 4 rfl) ?_
  refine lv_iconst (v := 1) hx hb dL_law_248 (by decide) ?_
  refine lv_iadd hx hb dL_law_249 ?_
  refine lv_topi (fun x_1 ex_1 => ?_)
  obtain rfl : x_1 = nI ((5 * n) + 1) := ex_1.trans (nI_add (5 * n) 1)
  refine r_sld X S hX hbl hbA hL (q := (5 * n) + 1) rfl (by omega) dL_law_250 ?_
  refine lv_aload_n hx hb dL_law_251 rfl (lv_at hl 0 rfl) ?_
  refine lv_iload hx hb dL_law_252 (lv_at hl 4 rfl) ?_
  refine lv_iconst (v := 2) hx hb dL_law_254 (by decide) ?_
  refine lv_iadd hx hb dL_law_255 ?_
  refine lv_topi (fun x_2 ex_2 => ?_)
  obtain rfl : x_2 = nI ((5 * n) + 2) := ex_2.trans (nI_add (5 * n) 2)
  refine r_sld X S hX hbl hbA hL (q := (5 * n) + 2) rfl (by omega) dL_law_256 ?_
  obtain ⟨k, F1, F2, hc, hm, ek, hR2⟩ := op_setBand hst hn hR (xs ((5 * n) + 1)) (xs ((5 * n) + 2))
  refine r_SW X S (hc D cA ad _) (vx_cwSW 3 (hh := [(0, 6, 9, 13)]) hts gL_law_L_setBand rfl rfl rfl (by decide +kernel) ⟨Nat.le_of_ble_eq_true rfl, Nat.le_of_ble_eq_true rfl⟩) rfl hl.1 rfl (Nat.le_of_ble_eq_true rfl) dL_law_257 ⟨(by show 100 + n + 1 ≤ 669044; omega), (by show 700 + 6 * n + 6 ≤ 7088973; omega)⟩ (fun H locs S => ?_)
  refine lv_istore (lv' := [(5, .int k), (0, .ref b), (1, .ref (ad 0)), (2, .ref (ad 36)), (3, .ref (ad 59)), (4, .int (nI (5 * n)))]) hx hb dL_law_260 hl (by decide) rfl (fun ls hl => ?_)
  refine lv_aload_n hx hb dL_law_262 rfl (lv_at hl 3 rfl) ?_
  refine lv_aload_n hx hb dL_law_263 rfl (lv_at hl 1 rfl) ?_
  refine lv_iload hx hb dL_law_264 (lv_at hl 5 rfl) ?_
  refine lv_iconst (v := 1) hx hb dL_law_266 (by decide) ?_
  refine lv_iadd hx hb dL_law_267 ?_
  refine lv_topi (fun x_3 ex_3 => ?_)
  obtain rfl : x_3 = nI ((5 * n) + 1) := ex_3.trans (nI_add (5 * n) 1)
  refine r_sld X S hX hbl hbA hL (q := (5 * n) + 1) rfl (by omega) dL_law_268 ?_
  refine lv_aload_n hx hb dL_law_269 rfl (lv_at hl 1 rfl) ?_
  refine lv_iload hx hb dL_law_270 (lv_at hl 5 rfl) ?_
  refine lv_iconst (v := 2) hx hb dL_law_272 (by decide) ?_
  refine lv_iadd hx hb dL_law_273 ?_
  refine lv_topi (fun x_4 ex_4 => ?_)
  obtain rfl : x_4 = nI ((5 * n) + 2) := ex_4.trans (nI_add (5 * n) 2)
  refine r_sld X S hX hbl hbA hL (q := (5 * n) + 2) rfl (by omega) dL_law_274 ?_
  refine r_V0 X S (hm D cA ad _) ob_M rfl (cwV 2 hts gL_law_X5_setBand rfl rfl rfl (by decide +kernel) ⟨Nat.le_of_ble_eq_true rfl, Nat.le_of_ble_eq_true rfl⟩) rfl hl.1 rfl (Nat.le_of_ble_eq_true rfl) dL_law_275 ⟨(by show 100 + n + 1 ≤ 669044; omega), (by show 700 + 6 * n + 6 ≤ 7088973; omega)⟩ (fun H locs S => ?_)
  refine lv_aload_n hx hb dL_law_278 rfl (lv_at hl 3 rfl) ?_
  refine r_V0 X S (c_X5_thrown l D cA ad _ F2) ob_M rfl (cwV 0 hts gL_law_X5_thrown rfl rfl rfl (by decide +kernel) ⟨Nat.le_of_ble_eq_true rfl, Nat.le_of_ble_eq_true rfl⟩) rfl hl.1 rfl (Nat.le_of_ble_eq_true rfl) dL_law_279 ⟨(by show 100 + n + 1 ≤ 669044; omega), (by show 700 + 6 * n + 6 ≤ 7088973; omega)⟩ (fun H locs S => ?_)
  rw [show F2 36 0 = k from ek]
  refine lv_iload hx hb dL_law_282 (lv_at hl 0 rfl) ?_
  refine lv_icmp_eq (tgt := 289) hx hb dL_law_284 (by decide) (fun _ => ?_) (fun z => False.elim (z rfl))
  refine lv_goto (tgt := 1605) hx hb dL_law_289 (by decide) ?_
  exact kk F2 hR2 H locs ls S (lv_sub hl [1, 2, 3, 4, 5] rfl)

set_option maxHeartbeats 2000000 in
set_option maxRecDepth 100000 in
theorem law_case2 {p : Program} {l : Launch} {e : Env} {s : State} {m : MethodId} {below : List Frame} {meth : Method} {c : Code} {D : va_G} {cA : Nat → ClassId} {ad : Nat → Nat} {b L : Nat} {xs : Nat → Int32} {Q : State → Prop} (X : Cx p m c code 7 s #[Value.ref b] wsL_law RL D cA ad meth) (hX : va_X b L xs s s.heap) (hbl : b < s.heap.size) (hbA : ¬ AA ad s.heap.size b) (hL : L ≤ 2560) (hst : l.stackTraces = false) {n : Nat} (h5 : 5 * n + 5 ≤ L) {F : FF} (hR : REL n F) {H : Heap} {locs : List Loc} {ls : Array Slot} (S : St D cA ad F s.heap H locs) (hl : lv_has ls 7 [(0, .ref b), (1, .ref (ad 0)), (2, .ref (ad 36)), (3, .ref (ad 59)), (4, .int (nI (5 * n)))]) (kk : ∀ F2 : FF, REL (n + 1) F2 → ∀ (H : Heap) (locs : List Loc) (ls : Array Slot), St D cA ad F2 s.heap H locs → lv_has ls 7 [(0, .ref b), (1, .ref (ad 0)), (2, .ref (ad 36)), (3, .ref (ad 59)), (4, .int (nI (5 * n)))] → W p l e room_1 s m #[Value.ref b] below meth c H locs (100 + n + 1) (700 + 6 * n + 6) Q (F0 m 1605 ls [])) : W p l e room_1 s m #[Value.ref b] below meth c H locs (100 + n) (700 + 6 * n) Q (F0 m 292 ls []) := by
  have hn : n < 512 := by omega
  obtain ⟨⟨hx, hb, hml, hown, hts⟩, hE, hI, hlocks⟩ := id X
  refine lv_aload_n hx hb dL_law_292 rfl (lv_at hl 1 rfl) ?_
  refine lv_aload_n hx hb dL_law_293 rfl (lv_at hl 0 rfl) ?_
  refine lv_iload hx hb dL_law_294 (lv_at hl 4 rfl) ?_
  refine lv_iconst (v := 1) hx hb dL_law_296 (by decide) ?_
  refine lv_iadd hx hb dL_law_297 ?_
  refine lv_topi (fun x_1 ex_1 => ?_)
  obtain rfl : x_1 = nI ((5 * n) + 1) := ex_1.trans (nI_add (5 * n) 1)
  refine r_sld X S hX hbl hbA hL (q := (5 * n) + 1) rfl (by omega) dL_law_298 ?_
  refine lv_aload_n hx hb dL_law_299 rfl (lv_at hl 0 rfl) ?_
  refine lv_iload hx hb dL_law_300 (lv_at hl 4 rfl) ?_
  refine lv_iconst (v := 2) hx hb dL_law_302 (by decide) ?_
  refine lv_iadd hx hb dL_law_303 ?_
  refine lv_topi (fun x_2 ex_2 => ?_)
  obtain rfl : x_2 = nI ((5 * n) + 2) := ex_2.trans (nI_add (5 * n) 2)
  refine r_sld X S hX hbl hbA hL (q := (5 * n) + 2) rfl (by omega) dL_law_304 ?_
  refine lv_aload_n hx hb dL_law_305 rfl (lv_at hl 3 rfl) ?_
  obtain ⟨k, bb, F1, F2, hc, hm, ek, eo, hR2⟩ := op_setShare hst hn hR (xs ((5 * n) + 1)) (xs ((5 * n) + 2))
  refine r_SW X S (hc D cA ad _) (vx_cwSW 4 (hh := [(0, 10, 13, 13)]) hts gL_law_L_setShare rfl rfl rfl (by decide +kernel) ⟨Nat.le_of_ble_eq_true rfl, Nat.le_of_ble_eq_true rfl⟩) rfl hl.1 rfl (Nat.le_of_ble_eq_true rfl) dL_law_306 ⟨(by show 100 + n + 1 ≤ 669044; omega), (by show 700 + 6 * n + 6 ≤ 7088973; omega)⟩ (fun H locs S => ?_)
  refine lv_istore (lv' := [(5, .int k), (0, .ref b), (1, .ref (ad 0)), (2, .ref (ad 36)), (3, .ref (ad 59)), (4, .int (nI (5 * n)))]) hx hb dL_law_309 hl (by decide) rfl (fun ls hl => ?_)
  refine lv_aload_n hx hb dL_law_311 rfl (lv_at hl 3 rfl) ?_
  refine lv_aload_n hx hb dL_law_312 rfl (lv_at hl 1 rfl) ?_
  refine lv_iload hx hb dL_law_313 (lv_at hl 5 rfl) ?_
  refine lv_iconst (v := 1) hx hb dL_law_315 (by decide) ?_
  refine lv_iadd hx hb dL_law_316 ?_
  refine lv_topi (fun x_3 ex_3 => ?_)
  obtain rfl : x_3 = nI ((5 * n) + 1) := ex_3.trans (nI_add (5 * n) 1)
  refine r_sld X S hX hbl hbA hL (q := (5 * n) + 1) rfl (by omega) dL_law_317 ?_
  refine lv_aload_n hx hb dL_law_318 rfl (lv_at hl 1 rfl) ?_
  refine lv_iload hx hb dL_law_319 (lv_at hl 5 rfl) ?_
  refine lv_iconst (v := 2) hx hb dL_law_321 (by decide) ?_
  refine lv_iadd hx hb dL_law_322 ?_
  refine lv_topi (fun x_4 ex_4 => ?_)
  obtain rfl : x_4 = nI ((5 * n) + 2) := ex_4.trans (nI_add (5 * n) 2)
  refine r_sld X S hX hbl hbA hL (q := (5 * n) + 2) rfl (by omega) dL_law_323 ?_
  refine r_V0 X S (hm D cA ad _) ob_M rfl (cwV 2 hts gL_law_X5_setShare rfl rfl rfl (by decide +kernel) ⟨Nat.le_of_ble_eq_true rfl, Nat.le_of_ble_eq_true rfl⟩) rfl hl.1 rfl (Nat.le_of_ble_eq_true rfl) dL_law_324 ⟨(by show 100 + n + 1 ≤ 669044; omega), (by show 700 + 6 * n + 6 ≤ 7088973; omega)⟩ (fun H locs S => ?_)
  refine lv_istore (lv' := [(6, .int bb), (5, .int k), (0, .ref b), (1, .ref (ad 0)), (2, .ref (ad 36)), (3, .ref (ad 59)), (4, .int (nI (5 * n)))]) hx hb dL_law_327 hl (by decide) rfl (fun ls hl => ?_)
  refine lv_aload_n hx hb dL_law_329 rfl (lv_at hl 4 rfl) ?_
  refine r_V0 X S (c_X5_thrown l D cA ad _ F2) ob_M rfl (cwV 0 hts gL_law_X5_thrown rfl rfl rfl (by decide +kernel) ⟨Nat.le_of_ble_eq_true rfl, Nat.le_of_ble_eq_true rfl⟩) rfl hl.1 rfl (Nat.le_of_ble_eq_true rfl) dL_law_330 ⟨(by show 100 + n + 1 ≤ 669044; omega), (by show 700 + 6 * n + 6 ≤ 7088973; omega)⟩ (fun H locs S => ?_)
  rw [show F2 36 0 = k from ek]
  refine lv_iload hx hb dL_law_333 (lv_at hl 1 rfl) ?_
  refine lv_icmp_eq (tgt := 340) hx hb dL_law_335 (by decide) (fun _ => ?_) (fun z => False.elim (z rfl))
  refine lv_iload hx hb dL_law_340 (lv_at hl 1 rfl) ?_
  refine lv_if_ne (tgt := 357) hx hb dL_law_342 (by decide) (fun c_5 => ?_) (fun c_5 => ?_)
  · refine lv_goto (tgt := 1605) hx hb dL_law_357 (by decide) ?_
    exact kk F2 hR2 H locs ls S (lv_sub hl [2, 3, 4, 5, 6] rfl)
  · refine lv_aload_n hx hb dL_law_345 rfl (lv_at hl 5 rfl) ?_
    refine lv_iconst (v := 0) hx hb dL_law_346 (by decide) ?_
    refine r_lal X S dL_law_347 ?_
    refine lv_iload hx hb dL_law_348 (lv_at hl 0 rfl) ?_
    refine lv_i2l hx hb dL_law_350 rfl ?_
    refine W.lcmp hx hb dL_law_351 ?_
    rw [eo c_5, lgc_self]
    refine lv_if_eq (tgt := 357) hx hb dL_law_352 (by decide) (fun _ => ?_) (fun z => False.elim (by first | exact absurd z (by decide) | exact absurd (by decide) z))
    refine lv_goto (tgt := 1605) hx hb dL_law_357 (by decide) ?_
    exact kk F2 hR2 H locs ls S (lv_sub hl [2, 3, 4, 5, 6] rfl)

set_option maxHeartbeats 2000000 in
set_option maxRecDepth 100000 in
theorem law_case3 {p : Program} {l : Launch} {e : Env} {s : State} {m : MethodId} {below : List Frame} {meth : Method} {c : Code} {D : va_G} {cA : Nat → ClassId} {ad : Nat → Nat} {b L : Nat} {xs : Nat → Int32} {Q : State → Prop} (X : Cx p m c code 7 s #[Value.ref b] wsL_law RL D cA ad meth) (hX : va_X b L xs s s.heap) (hbl : b < s.heap.size) (hbA : ¬ AA ad s.heap.size b) (hL : L ≤ 2560) (hst : l.stackTraces = false) {n : Nat} (h5 : 5 * n + 5 ≤ L) {F : FF} (hR : REL n F) {H : Heap} {locs : List Loc} {ls : Array Slot} (S : St D cA ad F s.heap H locs) (hl : lv_has ls 7 [(0, .ref b), (1, .ref (ad 0)), (2, .ref (ad 36)), (3, .ref (ad 59)), (4, .int (nI (5 * n)))]) (kk : ∀ F2 : FF, REL (n + 1) F2 → ∀ (H : Heap) (locs : List Loc) (ls : Array Slot), St D cA ad F2 s.heap H locs → lv_has ls 7 [(0, .ref b), (1, .ref (ad 0)), (2, .ref (ad 36)), (3, .ref (ad 59)), (4, .int (nI (5 * n)))] → W p l e room_1 s m #[Value.ref b] below meth c H locs (100 + n + 1) (700 + 6 * n + 6) Q (F0 m 1605 ls [])) : W p l e room_1 s m #[Value.ref b] below meth c H locs (100 + n) (700 + 6 * n) Q (F0 m 360 ls []) := by
  have hn : n < 512 := by omega
  obtain ⟨⟨hx, hb, hml, hown, hts⟩, hE, hI, hlocks⟩ := id X
  refine lv_aload_n hx hb dL_law_360 rfl (lv_at hl 1 rfl) ?_
  refine lv_aload_n hx hb dL_law_361 rfl (lv_at hl 0 rfl) ?_
  refine lv_iload hx hb dL_law_362 (lv_at hl 4 rfl) ?_
  refine lv_iconst (v := 1) hx hb dL_law_364 (by decide) ?_
  refine lv_iadd hx hb dL_law_365 ?_
  refine lv_topi (fun x_1 ex_1 => ?_)
  obtain rfl : x_1 = nI ((5 * n) + 1) := ex_1.trans (nI_add (5 * n) 1)
  refine r_sld X S hX hbl hbA hL (q := (5 * n) + 1) rfl (by omega) dL_law_366 ?_
  refine lv_aload_n hx hb dL_law_367 rfl (lv_at hl 0 rfl) ?_
  refine lv_iload hx hb dL_law_368 (lv_at hl 4 rfl) ?_
  refine lv_iconst (v := 2) hx hb dL_law_370 (by decide) ?_
  refine lv_iadd hx hb dL_law_371 ?_
  refine lv_topi (fun x_2 ex_2 => ?_)
  obtain rfl : x_2 = nI ((5 * n) + 2) := ex_2.trans (nI_add (5 * n) 2)
  refine r_sld X S hX hbl hbA hL (q := (5 * n) + 2) rfl (by omega) dL_law_372 ?_
  obtain ⟨k, F1, F2, hc, hm, ek, hR2⟩ := op_setFees hst hn hR (xs ((5 * n) + 1)) (xs ((5 * n) + 2))
  refine r_SW X S (hc D cA ad _) (vx_cwSW 3 (hh := [(0, 6, 9, 13)]) hts gL_law_L_setFees rfl rfl rfl (by decide +kernel) ⟨Nat.le_of_ble_eq_true rfl, Nat.le_of_ble_eq_true rfl⟩) rfl hl.1 rfl (Nat.le_of_ble_eq_true rfl) dL_law_373 ⟨(by show 100 + n + 1 ≤ 669044; omega), (by show 700 + 6 * n + 6 ≤ 7088973; omega)⟩ (fun H locs S => ?_)
  refine lv_istore (lv' := [(5, .int k), (0, .ref b), (1, .ref (ad 0)), (2, .ref (ad 36)), (3, .ref (ad 59)), (4, .int (nI (5 * n)))]) hx hb dL_law_376 hl (by decide) rfl (fun ls hl => ?_)
  refine lv_aload_n hx hb dL_law_378 rfl (lv_at hl 3 rfl) ?_
  refine lv_aload_n hx hb dL_law_379 rfl (lv_at hl 1 rfl) ?_
  refine lv_iload hx hb dL_law_380 (lv_at hl 5 rfl) ?_
  refine lv_iconst (v := 1) hx hb dL_law_382 (by decide) ?_
  refine lv_iadd hx hb dL_law_383 ?_
  refine lv_topi (fun x_3 ex_3 => ?_)
  obtain rfl : x_3 = nI ((5 * n) + 1) := ex_3.trans (nI_add (5 * n) 1)
  refine r_sld X S hX hbl hbA hL (q := (5 * n) + 1) rfl (by omega) dL_law_384 ?_
  refine lv_aload_n hx hb dL_law_385 rfl (lv_at hl 1 rfl) ?_
  refine lv_iload hx hb dL_law_386 (lv_at hl 5 rfl) ?_
  refine lv_iconst (v := 2) hx hb dL_law_388 (by decide) ?_
  refine lv_iadd hx hb dL_law_389 ?_
  refine lv_topi (fun x_4 ex_4 => ?_)
  obtain rfl : x_4 = nI ((5 * n) + 2) := ex_4.trans (nI_add (5 * n) 2)
  refine r_sld X S hX hbl hbA hL (q := (5 * n) + 2) rfl (by omega) dL_law_390 ?_
  refine r_V0 X S (hm D cA ad _) ob_M rfl (cwV 2 hts gL_law_X5_setFees rfl rfl rfl (by decide +kernel) ⟨Nat.le_of_ble_eq_true rfl, Nat.le_of_ble_eq_true rfl⟩) rfl hl.1 rfl (Nat.le_of_ble_eq_true rfl) dL_law_391 ⟨(by show 100 + n + 1 ≤ 669044; omega), (by show 700 + 6 * n + 6 ≤ 7088973; omega)⟩ (fun H locs S => ?_)
  refine lv_aload_n hx hb dL_law_394 rfl (lv_at hl 3 rfl) ?_
  refine r_V0 X S (c_X5_thrown l D cA ad _ F2) ob_M rfl (cwV 0 hts gL_law_X5_thrown rfl rfl rfl (by decide +kernel) ⟨Nat.le_of_ble_eq_true rfl, Nat.le_of_ble_eq_true rfl⟩) rfl hl.1 rfl (Nat.le_of_ble_eq_true rfl) dL_law_395 ⟨(by show 100 + n + 1 ≤ 669044; omega), (by show 700 + 6 * n + 6 ≤ 7088973; omega)⟩ (fun H locs S => ?_)
  rw [show F2 36 0 = k from ek]
  refine lv_iload hx hb dL_law_398 (lv_at hl 0 rfl) ?_
  refine lv_icmp_eq (tgt := 405) hx hb dL_law_400 (by decide) (fun _ => ?_) (fun z => False.elim (z rfl))
  refine lv_goto (tgt := 1605) hx hb dL_law_405 (by decide) ?_
  exact kk F2 hR2 H locs ls S (lv_sub hl [1, 2, 3, 4, 5] rfl)

set_option maxHeartbeats 2000000 in
set_option maxRecDepth 100000 in
theorem law_case4 {p : Program} {l : Launch} {e : Env} {s : State} {m : MethodId} {below : List Frame} {meth : Method} {c : Code} {D : va_G} {cA : Nat → ClassId} {ad : Nat → Nat} {b L : Nat} {xs : Nat → Int32} {Q : State → Prop} (X : Cx p m c code 7 s #[Value.ref b] wsL_law RL D cA ad meth) (hX : va_X b L xs s s.heap) (hbl : b < s.heap.size) (hbA : ¬ AA ad s.heap.size b) (hL : L ≤ 2560) (hst : l.stackTraces = false) {n : Nat} (h5 : 5 * n + 5 ≤ L) {F : FF} (hR : REL n F) {H : Heap} {locs : List Loc} {ls : Array Slot} (S : St D cA ad F s.heap H locs) (hl : lv_has ls 7 [(0, .ref b), (1, .ref (ad 0)), (2, .ref (ad 36)), (3, .ref (ad 59)), (4, .int (nI (5 * n)))]) (kk : ∀ F2 : FF, REL (n + 1) F2 → ∀ (H : Heap) (locs : List Loc) (ls : Array Slot), St D cA ad F2 s.heap H locs → lv_has ls 7 [(0, .ref b), (1, .ref (ad 0)), (2, .ref (ad 36)), (3, .ref (ad 59)), (4, .int (nI (5 * n)))] → W p l e room_1 s m #[Value.ref b] below meth c H locs (100 + n + 1) (700 + 6 * n + 6) Q (F0 m 1605 ls [])) : W p l e room_1 s m #[Value.ref b] below meth c H locs (100 + n) (700 + 6 * n) Q (F0 m 408 ls []) := by
  have hn : n < 512 := by omega
  obtain ⟨⟨hx, hb, hml, hown, hts⟩, hE, hI, hlocks⟩ := id X
  refine lv_aload_n hx hb dL_law_408 rfl (lv_at hl 1 rfl) ?_
  refine lv_aload_n hx hb dL_law_409 rfl (lv_at hl 0 rfl) ?_
  refine lv_iload hx hb dL_law_410 (lv_at hl 4 rfl) ?_
  refine lv_iconst (v := 1) hx hb dL_law_412 (by decide) ?_
  refine lv_iadd hx hb dL_law_413 ?_
  refine lv_topi (fun x_1 ex_1 => ?_)
  obtain rfl : x_1 = nI ((5 * n) + 1) := ex_1.trans (nI_add (5 * n) 1)
  refine r_sld X S hX hbl hbA hL (q := (5 * n) + 1) rfl (by omega) dL_law_414 ?_
  refine lv_aload_n hx hb dL_law_415 rfl (lv_at hl 0 rfl) ?_
  refine lv_iload hx hb dL_law_416 (lv_at hl 4 rfl) ?_
  refine lv_iconst (v := 2) hx hb dL_law_418 (by decide) ?_
  refine lv_iadd hx hb dL_law_419 ?_
  refine lv_topi (fun x_2 ex_2 => ?_)
  obtain rfl : x_2 = nI ((5 * n) + 2) := ex_2.trans (nI_add (5 * n) 2)
  refine r_sld X S hX hbl hbA hL (q := (5 * n) + 2) rfl (by omega) dL_law_420 ?_
  refine lv_aload_n hx hb dL_law_421 rfl (lv_at hl 0 rfl) ?_
  refine lv_iload hx hb dL_law_422 (lv_at hl 4 rfl) ?_
  refine lv_iconst (v := 3) hx hb dL_law_424 (by decide) ?_
  refine lv_iadd hx hb dL_law_425 ?_
  refine lv_topi (fun x_3 ex_3 => ?_)
  obtain rfl : x_3 = nI ((5 * n) + 3) := ex_3.trans (nI_add (5 * n) 3)
  refine r_sld X S hX hbl hbA hL (q := (5 * n) + 3) rfl (by omega) dL_law_426 ?_
  refine lv_if_eq (tgt := 434) hx hb dL_law_427 (by decide) (fun c_4 => ?_) (fun c_4 => ?_)
  · refine lv_iconst (v := 0) hx hb dL_law_434 (by decide) ?_
    refine lv_aload_n hx hb dL_law_435 rfl (lv_at hl 0 rfl) ?_
    refine lv_iload hx hb dL_law_436 (lv_at hl 4 rfl) ?_
    refine lv_iconst (v := 4) hx hb dL_law_438 (by decide) ?_
    refine lv_iadd hx hb dL_law_439 ?_
    refine lv_topi (fun x_5 ex_5 => ?_)
    obtain rfl : x_5 = nI ((5 * n) + 4) := ex_5.trans (nI_add (5 * n) 4)
    refine r_sld X S hX hbl hbA hL (q := (5 * n) + 4) rfl (by omega) dL_law_440 ?_
    obtain ⟨k, F1, F2, hc, hm, ek, hR2⟩ := op_setStudent hst hn hR (xs ((5 * n) + 1)) (xs ((5 * n) + 2)) false (xs ((5 * n) + 4))
    refine r_SW X S (hc D cA ad _) (vx_cwSW 5 (hh := [(0, 9, 12, 30), (0, 9, 16, 13)]) hts gL_law_L_setStudent rfl rfl rfl (by decide +kernel) ⟨Nat.le_of_ble_eq_true rfl, Nat.le_of_ble_eq_true rfl⟩) rfl hl.1 rfl (Nat.le_of_ble_eq_true rfl) dL_law_441 ⟨(by show 100 + n + 1 ≤ 669044; omega), (by show 700 + 6 * n + 6 ≤ 7088973; omega)⟩ (fun H locs S => ?_)
    refine lv_istore (lv' := [(5, .int k), (0, .ref b), (1, .ref (ad 0)), (2, .ref (ad 36)), (3, .ref (ad 59)), (4, .int (nI (5 * n)))]) hx hb dL_law_444 hl (by decide) rfl (fun ls hl => ?_)
    refine lv_aload_n hx hb dL_law_446 rfl (lv_at hl 3 rfl) ?_
    refine lv_aload_n hx hb dL_law_447 rfl (lv_at hl 1 rfl) ?_
    refine lv_iload hx hb dL_law_448 (lv_at hl 5 rfl) ?_
    refine lv_iconst (v := 1) hx hb dL_law_450 (by decide) ?_
    refine lv_iadd hx hb dL_law_451 ?_
    refine lv_topi (fun x_6 ex_6 => ?_)
    obtain rfl : x_6 = nI ((5 * n) + 1) := ex_6.trans (nI_add (5 * n) 1)
    refine r_sld X S hX hbl hbA hL (q := (5 * n) + 1) rfl (by omega) dL_law_452 ?_
    refine lv_aload_n hx hb dL_law_453 rfl (lv_at hl 1 rfl) ?_
    refine lv_iload hx hb dL_law_454 (lv_at hl 5 rfl) ?_
    refine lv_iconst (v := 2) hx hb dL_law_456 (by decide) ?_
    refine lv_iadd hx hb dL_law_457 ?_
    refine lv_topi (fun x_7 ex_7 => ?_)
    obtain rfl : x_7 = nI ((5 * n) + 2) := ex_7.trans (nI_add (5 * n) 2)
    refine r_sld X S hX hbl hbA hL (q := (5 * n) + 2) rfl (by omega) dL_law_458 ?_
    refine lv_aload_n hx hb dL_law_459 rfl (lv_at hl 1 rfl) ?_
    refine lv_iload hx hb dL_law_460 (lv_at hl 5 rfl) ?_
    refine lv_iconst (v := 3) hx hb dL_law_462 (by decide) ?_
    refine lv_iadd hx hb dL_law_463 ?_
    refine lv_topi (fun x_8 ex_8 => ?_)
    obtain rfl : x_8 = nI ((5 * n) + 3) := ex_8.trans (nI_add (5 * n) 3)
    refine r_sld X S hX hbl hbA hL (q := (5 * n) + 3) rfl (by omega) dL_law_464 ?_
    refine lv_if_eq (tgt := 472) hx hb dL_law_465 (by decide) (fun _ => ?_) (fun z => False.elim (z c_4))
    refine lv_iconst (v := 0) hx hb dL_law_472 (by decide) ?_
    refine lv_aload_n hx hb dL_law_473 rfl (lv_at hl 1 rfl) ?_
    refine lv_iload hx hb dL_law_474 (lv_at hl 5 rfl) ?_
    refine lv_iconst (v := 4) hx hb dL_law_476 (by decide) ?_
    refine lv_iadd hx hb dL_law_477 ?_
    refine lv_topi (fun x_9 ex_9 => ?_)
    obtain rfl : x_9 = nI ((5 * n) + 4) := ex_9.trans (nI_add (5 * n) 4)
    refine r_sld X S hX hbl hbA hL (q := (5 * n) + 4) rfl (by omega) dL_law_478 ?_
    refine r_V0 X S (hm D cA ad _) ob_M rfl (cwV 4 hts gL_law_X5_setStudent rfl rfl rfl (by decide +kernel) ⟨Nat.le_of_ble_eq_true rfl, Nat.le_of_ble_eq_true rfl⟩) rfl hl.1 rfl (Nat.le_of_ble_eq_true rfl) dL_law_479 ⟨(by show 100 + n + 1 ≤ 669044; omega), (by show 700 + 6 * n + 6 ≤ 7088973; omega)⟩ (fun H locs S => ?_)
    refine lv_aload_n hx hb dL_law_482 rfl (lv_at hl 3 rfl) ?_
    refine r_V0 X S (c_X5_thrown l D cA ad _ F2) ob_M rfl (cwV 0 hts gL_law_X5_thrown rfl rfl rfl (by decide +kernel) ⟨Nat.le_of_ble_eq_true rfl, Nat.le_of_ble_eq_true rfl⟩) rfl hl.1 rfl (Nat.le_of_ble_eq_true rfl) dL_law_483 ⟨(by show 100 + n + 1 ≤ 669044; omega), (by show 700 + 6 * n + 6 ≤ 7088973; omega)⟩ (fun H locs S => ?_)
    rw [show F2 36 0 = k from ek]
    refine lv_iload hx hb dL_law_486 (lv_at hl 0 rfl) ?_
    refine lv_icmp_eq (tgt := 493) hx hb dL_law_488 (by decide) (fun _ => ?_) (fun z => False.elim (z rfl))
    refine lv_goto (tgt := 1605) hx hb dL_law_493 (by decide) ?_
    exact kk F2 hR2 H locs ls S (lv_sub hl [1, 2, 3, 4, 5] rfl)
  · refine lv_iconst (v := 1) hx hb dL_law_430 (by decide) ?_
    refine lv_goto (tgt := 435) hx hb dL_law_431 (by decide) ?_
    refine lv_aload_n hx hb dL_law_435 rfl (lv_at hl 0 rfl) ?_
    refine lv_iload hx hb dL_law_436 (lv_at hl 4 rfl) ?_
    refine lv_iconst (v := 4) hx hb dL_law_438 (by decide) ?_
    refine lv_iadd hx hb dL_law_439 ?_
    refine lv_topi (fun x_10 ex_10 => ?_)
    obtain rfl : x_10 = nI ((5 * n) + 4) := ex_10.trans (nI_add (5 * n) 4)
    refine r_sld X S hX hbl hbA hL (q := (5 * n) + 4) rfl (by omega) dL_law_440 ?_
    obtain ⟨k, F1, F2, hc, hm, ek, hR2⟩ := op_setStudent hst hn hR (xs ((5 * n) + 1)) (xs ((5 * n) + 2)) true (xs ((5 * n) + 4))
    refine r_SW X S (hc D cA ad _) (vx_cwSW 5 (hh := [(0, 9, 12, 30), (0, 9, 16, 13)]) hts gL_law_L_setStudent rfl rfl rfl (by decide +kernel) ⟨Nat.le_of_ble_eq_true rfl, Nat.le_of_ble_eq_true rfl⟩) rfl hl.1 rfl (Nat.le_of_ble_eq_true rfl) dL_law_441 ⟨(by show 100 + n + 1 ≤ 669044; omega), (by show 700 + 6 * n + 6 ≤ 7088973; omega)⟩ (fun H locs S => ?_)
    refine lv_istore (lv' := [(5, .int k), (0, .ref b), (1, .ref (ad 0)), (2, .ref (ad 36)), (3, .ref (ad 59)), (4, .int (nI (5 * n)))]) hx hb dL_law_444 hl (by decide) rfl (fun ls hl => ?_)
    refine lv_aload_n hx hb dL_law_446 rfl (lv_at hl 3 rfl) ?_
    refine lv_aload_n hx hb dL_law_447 rfl (lv_at hl 1 rfl) ?_
    refine lv_iload hx hb dL_law_448 (lv_at hl 5 rfl) ?_
    refine lv_iconst (v := 1) hx hb dL_law_450 (by decide) ?_
    refine lv_iadd hx hb dL_law_451 ?_
    refine lv_topi (fun x_11 ex_11 => ?_)
    obtain rfl : x_11 = nI ((5 * n) + 1) := ex_11.trans (nI_add (5 * n) 1)
    refine r_sld X S hX hbl hbA hL (q := (5 * n) + 1) rfl (by omega) dL_law_452 ?_
    refine lv_aload_n hx hb dL_law_453 rfl (lv_at hl 1 rfl) ?_
    refine lv_iload hx hb dL_law_454 (lv_at hl 5 rfl) ?_
    refine lv_iconst (v := 2) hx hb dL_law_456 (by decide) ?_
    refine lv_iadd hx hb dL_law_457 ?_
    refine lv_topi (fun x_12 ex_12 => ?_)
    obtain rfl : x_12 = nI ((5 * n) + 2) := ex_12.trans (nI_add (5 * n) 2)
    refine r_sld X S hX hbl hbA hL (q := (5 * n) + 2) rfl (by omega) dL_law_458 ?_
    refine lv_aload_n hx hb dL_law_459 rfl (lv_at hl 1 rfl) ?_
    refine lv_iload hx hb dL_law_460 (lv_at hl 5 rfl) ?_
    refine lv_iconst (v := 3) hx hb dL_law_462 (by decide) ?_
    refine lv_iadd hx hb dL_law_463 ?_
    refine lv_topi (fun x_13 ex_13 => ?_)
    obtain rfl : x_13 = nI ((5 * n) + 3) := ex_13.trans (nI_add (5 * n) 3)
    refine r_sld X S hX hbl hbA hL (q := (5 * n) + 3) rfl (by omega) dL_law_464 ?_
    refine lv_if_eq (tgt := 472) hx hb dL_law_465 (by decide) (fun z => False.elim (c_4 z)) (fun _ => ?_)
    refine lv_iconst (v := 1) hx hb dL_law_468 (by decide) ?_
    refine lv_goto (tgt := 473) hx hb dL_law_469 (by decide) ?_
    refine lv_aload_n hx hb dL_law_473 rfl (lv_at hl 1 rfl) ?_
    refine lv_iload hx hb dL_law_474 (lv_at hl 5 rfl) ?_
    refine lv_iconst (v := 4) hx hb dL_law_476 (by decide) ?_
    refine lv_iadd hx hb dL_law_477 ?_
    refine lv_topi (fun x_14 ex_14 => ?_)
    obtain rfl : x_14 = nI ((5 * n) + 4) := ex_14.trans (nI_add (5 * n) 4)
    refine r_sld X S hX hbl hbA hL (q := (5 * n) + 4) rfl (by omega) dL_law_478 ?_
    refine r_V0 X S (hm D cA ad _) ob_M rfl (cwV 4 hts gL_law_X5_setStudent rfl rfl rfl (by decide +kernel) ⟨Nat.le_of_ble_eq_true rfl, Nat.le_of_ble_eq_true rfl⟩) rfl hl.1 rfl (Nat.le_of_ble_eq_true rfl) dL_law_479 ⟨(by show 100 + n + 1 ≤ 669044; omega), (by show 700 + 6 * n + 6 ≤ 7088973; omega)⟩ (fun H locs S => ?_)
    refine lv_aload_n hx hb dL_law_482 rfl (lv_at hl 3 rfl) ?_
    refine r_V0 X S (c_X5_thrown l D cA ad _ F2) ob_M rfl (cwV 0 hts gL_law_X5_thrown rfl rfl rfl (by decide +kernel) ⟨Nat.le_of_ble_eq_true rfl, Nat.le_of_ble_eq_true rfl⟩) rfl hl.1 rfl (Nat.le_of_ble_eq_true rfl) dL_law_483 ⟨(by show 100 + n + 1 ≤ 669044; omega), (by show 700 + 6 * n + 6 ≤ 7088973; omega)⟩ (fun H locs S => ?_)
    rw [show F2 36 0 = k from ek]
    refine lv_iload hx hb dL_law_486 (lv_at hl 0 rfl) ?_
    refine lv_icmp_eq (tgt := 493) hx hb dL_law_488 (by decide) (fun _ => ?_) (fun z => False.elim (z rfl))
    refine lv_goto (tgt := 1605) hx hb dL_law_493 (by decide) ?_
    exact kk F2 hR2 H locs ls S (lv_sub hl [1, 2, 3, 4, 5] rfl)

set_option maxHeartbeats 2000000 in
set_option maxRecDepth 100000 in
theorem law_case5 {p : Program} {l : Launch} {e : Env} {s : State} {m : MethodId} {below : List Frame} {meth : Method} {c : Code} {D : va_G} {cA : Nat → ClassId} {ad : Nat → Nat} {b L : Nat} {xs : Nat → Int32} {Q : State → Prop} (X : Cx p m c code 7 s #[Value.ref b] wsL_law RL D cA ad meth) (hX : va_X b L xs s s.heap) (hbl : b < s.heap.size) (hbA : ¬ AA ad s.heap.size b) (hL : L ≤ 2560) (hst : l.stackTraces = false) {n : Nat} (h5 : 5 * n + 5 ≤ L) {F : FF} (hR : REL n F) {H : Heap} {locs : List Loc} {ls : Array Slot} (S : St D cA ad F s.heap H locs) (hl : lv_has ls 7 [(0, .ref b), (1, .ref (ad 0)), (2, .ref (ad 36)), (3, .ref (ad 59)), (4, .int (nI (5 * n)))]) (kk : ∀ F2 : FF, REL (n + 1) F2 → ∀ (H : Heap) (locs : List Loc) (ls : Array Slot), St D cA ad F2 s.heap H locs → lv_has ls 7 [(0, .ref b), (1, .ref (ad 0)), (2, .ref (ad 36)), (3, .ref (ad 59)), (4, .int (nI (5 * n)))] → W p l e room_1 s m #[Value.ref b] below meth c H locs (100 + n + 1) (700 + 6 * n + 6) Q (F0 m 1605 ls [])) : W p l e room_1 s m #[Value.ref b] below meth c H locs (100 + n) (700 + 6 * n) Q (F0 m 496 ls []) := by
  have hn : n < 512 := by omega
  obtain ⟨⟨hx, hb, hml, hown, hts⟩, hE, hI, hlocks⟩ := id X
  refine lv_aload_n hx hb dL_law_496 rfl (lv_at hl 1 rfl) ?_
  refine lv_aload_n hx hb dL_law_497 rfl (lv_at hl 0 rfl) ?_
  refine lv_iload hx hb dL_law_498 (lv_at hl 4 rfl) ?_
  refine lv_iconst (v := 1) hx hb dL_law_500 (by decide) ?_
  refine lv_iadd hx hb dL_law_501 ?_
  refine lv_topi (fun x_1 ex_1 => ?_)
  obtain rfl : x_1 = nI ((5 * n) + 1) := ex_1.trans (nI_add (5 * n) 1)
  refine r_sld X S hX hbl hbA hL (q := (5 * n) + 1) rfl (by omega) dL_law_502 ?_
  refine lv_aload_n hx hb dL_law_503 rfl (lv_at hl 0 rfl) ?_
  refine lv_iload hx hb dL_law_504 (lv_at hl 4 rfl) ?_
  refine lv_iconst (v := 2) hx hb dL_law_506 (by decide) ?_
  refine lv_iadd hx hb dL_law_507 ?_
  refine lv_topi (fun x_2 ex_2 => ?_)
  obtain rfl : x_2 = nI ((5 * n) + 2) := ex_2.trans (nI_add (5 * n) 2)
  refine r_sld X S hX hbl hbA hL (q := (5 * n) + 2) rfl (by omega) dL_law_508 ?_
  refine lv_aload_n hx hb dL_law_509 rfl (lv_at hl 0 rfl) ?_
  refine lv_iload hx hb dL_law_510 (lv_at hl 4 rfl) ?_
  refine lv_iconst (v := 3) hx hb dL_law_512 (by decide) ?_
  refine lv_iadd hx hb dL_law_513 ?_
  refine lv_topi (fun x_3 ex_3 => ?_)
  obtain rfl : x_3 = nI ((5 * n) + 3) := ex_3.trans (nI_add (5 * n) 3)
  refine r_sld X S hX hbl hbA hL (q := (5 * n) + 3) rfl (by omega) dL_law_514 ?_
  obtain ⟨k, F1, F2, hc, hm, ek, hR2⟩ := op_setSponsor hst hn hR (xs ((5 * n) + 1)) (xs ((5 * n) + 2)) (xs ((5 * n) + 3))
  refine r_SW X S (hc D cA ad _) (vx_cwSW 4 (hh := [(0, 7, 10, 30), (0, 7, 14, 13)]) hts gL_law_L_setSponsor rfl rfl rfl (by decide +kernel) ⟨Nat.le_of_ble_eq_true rfl, Nat.le_of_ble_eq_true rfl⟩) rfl hl.1 rfl (Nat.le_of_ble_eq_true rfl) dL_law_515 ⟨(by show 100 + n + 1 ≤ 669044; omega), (by show 700 + 6 * n + 6 ≤ 7088973; omega)⟩ (fun H locs S => ?_)
  refine lv_istore (lv' := [(5, .int k), (0, .ref b), (1, .ref (ad 0)), (2, .ref (ad 36)), (3, .ref (ad 59)), (4, .int (nI (5 * n)))]) hx hb dL_law_518 hl (by decide) rfl (fun ls hl => ?_)
  refine lv_aload_n hx hb dL_law_520 rfl (lv_at hl 3 rfl) ?_
  refine lv_aload_n hx hb dL_law_521 rfl (lv_at hl 1 rfl) ?_
  refine lv_iload hx hb dL_law_522 (lv_at hl 5 rfl) ?_
  refine lv_iconst (v := 1) hx hb dL_law_524 (by decide) ?_
  refine lv_iadd hx hb dL_law_525 ?_
  refine lv_topi (fun x_4 ex_4 => ?_)
  obtain rfl : x_4 = nI ((5 * n) + 1) := ex_4.trans (nI_add (5 * n) 1)
  refine r_sld X S hX hbl hbA hL (q := (5 * n) + 1) rfl (by omega) dL_law_526 ?_
  refine lv_aload_n hx hb dL_law_527 rfl (lv_at hl 1 rfl) ?_
  refine lv_iload hx hb dL_law_528 (lv_at hl 5 rfl) ?_
  refine lv_iconst (v := 2) hx hb dL_law_530 (by decide) ?_
  refine lv_iadd hx hb dL_law_531 ?_
  refine lv_topi (fun x_5 ex_5 => ?_)
  obtain rfl : x_5 = nI ((5 * n) + 2) := ex_5.trans (nI_add (5 * n) 2)
  refine r_sld X S hX hbl hbA hL (q := (5 * n) + 2) rfl (by omega) dL_law_532 ?_
  refine lv_aload_n hx hb dL_law_533 rfl (lv_at hl 1 rfl) ?_
  refine lv_iload hx hb dL_law_534 (lv_at hl 5 rfl) ?_
  refine lv_iconst (v := 3) hx hb dL_law_536 (by decide) ?_
  refine lv_iadd hx hb dL_law_537 ?_
  refine lv_topi (fun x_6 ex_6 => ?_)
  obtain rfl : x_6 = nI ((5 * n) + 3) := ex_6.trans (nI_add (5 * n) 3)
  refine r_sld X S hX hbl hbA hL (q := (5 * n) + 3) rfl (by omega) dL_law_538 ?_
  refine r_V0 X S (hm D cA ad _) ob_M rfl (cwV 3 hts gL_law_X5_setSponsor rfl rfl rfl (by decide +kernel) ⟨Nat.le_of_ble_eq_true rfl, Nat.le_of_ble_eq_true rfl⟩) rfl hl.1 rfl (Nat.le_of_ble_eq_true rfl) dL_law_539 ⟨(by show 100 + n + 1 ≤ 669044; omega), (by show 700 + 6 * n + 6 ≤ 7088973; omega)⟩ (fun H locs S => ?_)
  refine lv_aload_n hx hb dL_law_542 rfl (lv_at hl 3 rfl) ?_
  refine r_V0 X S (c_X5_thrown l D cA ad _ F2) ob_M rfl (cwV 0 hts gL_law_X5_thrown rfl rfl rfl (by decide +kernel) ⟨Nat.le_of_ble_eq_true rfl, Nat.le_of_ble_eq_true rfl⟩) rfl hl.1 rfl (Nat.le_of_ble_eq_true rfl) dL_law_543 ⟨(by show 100 + n + 1 ≤ 669044; omega), (by show 700 + 6 * n + 6 ≤ 7088973; omega)⟩ (fun H locs S => ?_)
  rw [show F2 36 0 = k from ek]
  refine lv_iload hx hb dL_law_546 (lv_at hl 0 rfl) ?_
  refine lv_icmp_eq (tgt := 553) hx hb dL_law_548 (by decide) (fun _ => ?_) (fun z => False.elim (z rfl))
  refine lv_goto (tgt := 1605) hx hb dL_law_553 (by decide) ?_
  exact kk F2 hR2 H locs ls S (lv_sub hl [1, 2, 3, 4, 5] rfl)

set_option maxHeartbeats 2000000 in
set_option maxRecDepth 100000 in
theorem law_case6 {p : Program} {l : Launch} {e : Env} {s : State} {m : MethodId} {below : List Frame} {meth : Method} {c : Code} {D : va_G} {cA : Nat → ClassId} {ad : Nat → Nat} {b L : Nat} {xs : Nat → Int32} {Q : State → Prop} (X : Cx p m c code 7 s #[Value.ref b] wsL_law RL D cA ad meth) (hX : va_X b L xs s s.heap) (hbl : b < s.heap.size) (hbA : ¬ AA ad s.heap.size b) (hL : L ≤ 2560) (hst : l.stackTraces = false) {n : Nat} (h5 : 5 * n + 5 ≤ L) {F : FF} (hR : REL n F) {H : Heap} {locs : List Loc} {ls : Array Slot} (S : St D cA ad F s.heap H locs) (hl : lv_has ls 7 [(0, .ref b), (1, .ref (ad 0)), (2, .ref (ad 36)), (3, .ref (ad 59)), (4, .int (nI (5 * n)))]) (kk : ∀ F2 : FF, REL (n + 1) F2 → ∀ (H : Heap) (locs : List Loc) (ls : Array Slot), St D cA ad F2 s.heap H locs → lv_has ls 7 [(0, .ref b), (1, .ref (ad 0)), (2, .ref (ad 36)), (3, .ref (ad 59)), (4, .int (nI (5 * n)))] → W p l e room_1 s m #[Value.ref b] below meth c H locs (100 + n + 1) (700 + 6 * n + 6) Q (F0 m 1605 ls [])) : W p l e room_1 s m #[Value.ref b] below meth c H locs (100 + n) (700 + 6 * n) Q (F0 m 556 ls []) := by
  have hn : n < 512 := by omega
  obtain ⟨⟨hx, hb, hml, hown, hts⟩, hE, hI, hlocks⟩ := id X
  refine lv_aload_n hx hb dL_law_556 rfl (lv_at hl 1 rfl) ?_
  refine lv_aload_n hx hb dL_law_557 rfl (lv_at hl 0 rfl) ?_
  refine lv_iload hx hb dL_law_558 (lv_at hl 4 rfl) ?_
  refine lv_iconst (v := 1) hx hb dL_law_560 (by decide) ?_
  refine lv_iadd hx hb dL_law_561 ?_
  refine lv_topi (fun x_1 ex_1 => ?_)
  obtain rfl : x_1 = nI ((5 * n) + 1) := ex_1.trans (nI_add (5 * n) 1)
  refine r_sld X S hX hbl hbA hL (q := (5 * n) + 1) rfl (by omega) dL_law_562 ?_
  refine lv_aload_n hx hb dL_law_563 rfl (lv_at hl 0 rfl) ?_
  refine lv_iload hx hb dL_law_564 (lv_at hl 4 rfl) ?_
  refine lv_iconst (v := 2) hx hb dL_law_566 (by decide) ?_
  refine lv_iadd hx hb dL_law_567 ?_
  refine lv_topi (fun x_2 ex_2 => ?_)
  obtain rfl : x_2 = nI ((5 * n) + 2) := ex_2.trans (nI_add (5 * n) 2)
  refine r_sld X S hX hbl hbA hL (q := (5 * n) + 2) rfl (by omega) dL_law_568 ?_
  refine lv_aload_n hx hb dL_law_569 rfl (lv_at hl 3 rfl) ?_
  obtain ⟨k, bb, F1, F2, hc, hm, ek, eo, hR2⟩ := op_take hst hn hR (xs ((5 * n) + 1)) (xs ((5 * n) + 2))
  refine r_SW X S (hc D cA ad _) (vx_cwSW 4 (hh := [(0, 10, 13, 30), (0, 10, 17, 13), (0, 10, 21, 39)]) hts gL_law_L_take rfl rfl rfl (by decide +kernel) ⟨Nat.le_of_ble_eq_true rfl, Nat.le_of_ble_eq_true rfl⟩) rfl hl.1 rfl (Nat.le_of_ble_eq_true rfl) dL_law_570 ⟨(by show 100 + n + 1 ≤ 669044; omega), (by show 700 + 6 * n + 6 ≤ 7088973; omega)⟩ (fun H locs S => ?_)
  refine lv_istore (lv' := [(5, .int k), (0, .ref b), (1, .ref (ad 0)), (2, .ref (ad 36)), (3, .ref (ad 59)), (4, .int (nI (5 * n)))]) hx hb dL_law_573 hl (by decide) rfl (fun ls hl => ?_)
  refine lv_aload_n hx hb dL_law_575 rfl (lv_at hl 3 rfl) ?_
  refine lv_aload_n hx hb dL_law_576 rfl (lv_at hl 1 rfl) ?_
  refine lv_iload hx hb dL_law_577 (lv_at hl 5 rfl) ?_
  refine lv_iconst (v := 1) hx hb dL_law_579 (by decide) ?_
  refine lv_iadd hx hb dL_law_580 ?_
  refine lv_topi (fun x_3 ex_3 => ?_)
  obtain rfl : x_3 = nI ((5 * n) + 1) := ex_3.trans (nI_add (5 * n) 1)
  refine r_sld X S hX hbl hbA hL (q := (5 * n) + 1) rfl (by omega) dL_law_581 ?_
  refine lv_aload_n hx hb dL_law_582 rfl (lv_at hl 1 rfl) ?_
  refine lv_iload hx hb dL_law_583 (lv_at hl 5 rfl) ?_
  refine lv_iconst (v := 2) hx hb dL_law_585 (by decide) ?_
  refine lv_iadd hx hb dL_law_586 ?_
  refine lv_topi (fun x_4 ex_4 => ?_)
  obtain rfl : x_4 = nI ((5 * n) + 2) := ex_4.trans (nI_add (5 * n) 2)
  refine r_sld X S hX hbl hbA hL (q := (5 * n) + 2) rfl (by omega) dL_law_587 ?_
  refine r_V0 X S (hm D cA ad _) ob_M rfl (cwV 2 hts gL_law_X5_take rfl rfl rfl (by decide +kernel) ⟨Nat.le_of_ble_eq_true rfl, Nat.le_of_ble_eq_true rfl⟩) rfl hl.1 rfl (Nat.le_of_ble_eq_true rfl) dL_law_588 ⟨(by show 100 + n + 1 ≤ 669044; omega), (by show 700 + 6 * n + 6 ≤ 7088973; omega)⟩ (fun H locs S => ?_)
  refine lv_istore (lv' := [(6, .int bb), (5, .int k), (0, .ref b), (1, .ref (ad 0)), (2, .ref (ad 36)), (3, .ref (ad 59)), (4, .int (nI (5 * n)))]) hx hb dL_law_591 hl (by decide) rfl (fun ls hl => ?_)
  refine lv_aload_n hx hb dL_law_593 rfl (lv_at hl 4 rfl) ?_
  refine r_V0 X S (c_X5_thrown l D cA ad _ F2) ob_M rfl (cwV 0 hts gL_law_X5_thrown rfl rfl rfl (by decide +kernel) ⟨Nat.le_of_ble_eq_true rfl, Nat.le_of_ble_eq_true rfl⟩) rfl hl.1 rfl (Nat.le_of_ble_eq_true rfl) dL_law_594 ⟨(by show 100 + n + 1 ≤ 669044; omega), (by show 700 + 6 * n + 6 ≤ 7088973; omega)⟩ (fun H locs S => ?_)
  rw [show F2 36 0 = k from ek]
  refine lv_iload hx hb dL_law_597 (lv_at hl 1 rfl) ?_
  refine lv_icmp_eq (tgt := 604) hx hb dL_law_599 (by decide) (fun _ => ?_) (fun z => False.elim (z rfl))
  refine lv_iload hx hb dL_law_604 (lv_at hl 1 rfl) ?_
  refine lv_if_ne (tgt := 621) hx hb dL_law_606 (by decide) (fun c_5 => ?_) (fun c_5 => ?_)
  · refine lv_goto (tgt := 1605) hx hb dL_law_621 (by decide) ?_
    exact kk F2 hR2 H locs ls S (lv_sub hl [2, 3, 4, 5, 6] rfl)
  · refine lv_aload_n hx hb dL_law_609 rfl (lv_at hl 5 rfl) ?_
    refine lv_iconst (v := 0) hx hb dL_law_610 (by decide) ?_
    refine r_lal X S dL_law_611 ?_
    refine lv_iload hx hb dL_law_612 (lv_at hl 0 rfl) ?_
    refine lv_i2l hx hb dL_law_614 rfl ?_
    refine W.lcmp hx hb dL_law_615 ?_
    rw [eo c_5, lgc_self]
    refine lv_if_eq (tgt := 621) hx hb dL_law_616 (by decide) (fun _ => ?_) (fun z => False.elim (by first | exact absurd z (by decide) | exact absurd (by decide) z))
    refine lv_goto (tgt := 1605) hx hb dL_law_621 (by decide) ?_
    exact kk F2 hR2 H locs ls S (lv_sub hl [2, 3, 4, 5, 6] rfl)

set_option maxHeartbeats 2000000 in
set_option maxRecDepth 100000 in
theorem law_case7 {p : Program} {l : Launch} {e : Env} {s : State} {m : MethodId} {below : List Frame} {meth : Method} {c : Code} {D : va_G} {cA : Nat → ClassId} {ad : Nat → Nat} {b L : Nat} {xs : Nat → Int32} {Q : State → Prop} (X : Cx p m c code 7 s #[Value.ref b] wsL_law RL D cA ad meth) (hX : va_X b L xs s s.heap) (hbl : b < s.heap.size) (hbA : ¬ AA ad s.heap.size b) (hL : L ≤ 2560) (hst : l.stackTraces = false) {n : Nat} (h5 : 5 * n + 5 ≤ L) {F : FF} (hR : REL n F) {H : Heap} {locs : List Loc} {ls : Array Slot} (S : St D cA ad F s.heap H locs) (hl : lv_has ls 7 [(0, .ref b), (1, .ref (ad 0)), (2, .ref (ad 36)), (3, .ref (ad 59)), (4, .int (nI (5 * n)))]) (kk : ∀ F2 : FF, REL (n + 1) F2 → ∀ (H : Heap) (locs : List Loc) (ls : Array Slot), St D cA ad F2 s.heap H locs → lv_has ls 7 [(0, .ref b), (1, .ref (ad 0)), (2, .ref (ad 36)), (3, .ref (ad 59)), (4, .int (nI (5 * n)))] → W p l e room_1 s m #[Value.ref b] below meth c H locs (100 + n + 1) (700 + 6 * n + 6) Q (F0 m 1605 ls [])) : W p l e room_1 s m #[Value.ref b] below meth c H locs (100 + n) (700 + 6 * n) Q (F0 m 624 ls []) := by
  have hn : n < 512 := by omega
  obtain ⟨⟨hx, hb, hml, hown, hts⟩, hE, hI, hlocks⟩ := id X
  refine lv_aload_n hx hb dL_law_624 rfl (lv_at hl 1 rfl) ?_
  refine lv_aload_n hx hb dL_law_625 rfl (lv_at hl 0 rfl) ?_
  refine lv_iload hx hb dL_law_626 (lv_at hl 4 rfl) ?_
  refine lv_iconst (v := 1) hx hb dL_law_628 (by decide) ?_
  refine lv_iadd hx hb dL_law_629 ?_
  refine lv_topi (fun x_1 ex_1 => ?_)
  obtain rfl : x_1 = nI ((5 * n) + 1) := ex_1.trans (nI_add (5 * n) 1)
  refine r_sld X S hX hbl hbA hL (q := (5 * n) + 1) rfl (by omega) dL_law_630 ?_
  refine lv_aload_n hx hb dL_law_631 rfl (lv_at hl 0 rfl) ?_
  refine lv_iload hx hb dL_law_632 (lv_at hl 4 rfl) ?_
  refine lv_iconst (v := 2) hx hb dL_law_634 (by decide) ?_
  refine lv_iadd hx hb dL_law_635 ?_
  refine lv_topi (fun x_2 ex_2 => ?_)
  obtain rfl : x_2 = nI ((5 * n) + 2) := ex_2.trans (nI_add (5 * n) 2)
  refine r_sld X S hX hbl hbA hL (q := (5 * n) + 2) rfl (by omega) dL_law_636 ?_
  refine lv_aload_n hx hb dL_law_637 rfl (lv_at hl 3 rfl) ?_
  obtain ⟨k, bb, F1, F2, hc, hm, ek, eo, hR2⟩ := op_drop hst hn hR (xs ((5 * n) + 1)) (xs ((5 * n) + 2))
  refine r_SW X S (hc D cA ad _) (vx_cwSW 4 (hh := [(0, 10, 13, 30), (0, 10, 17, 39)]) hts gL_law_L_drop rfl rfl rfl (by decide +kernel) ⟨Nat.le_of_ble_eq_true rfl, Nat.le_of_ble_eq_true rfl⟩) rfl hl.1 rfl (Nat.le_of_ble_eq_true rfl) dL_law_638 ⟨(by show 100 + n + 1 ≤ 669044; omega), (by show 700 + 6 * n + 6 ≤ 7088973; omega)⟩ (fun H locs S => ?_)
  refine lv_istore (lv' := [(5, .int k), (0, .ref b), (1, .ref (ad 0)), (2, .ref (ad 36)), (3, .ref (ad 59)), (4, .int (nI (5 * n)))]) hx hb dL_law_641 hl (by decide) rfl (fun ls hl => ?_)
  refine lv_aload_n hx hb dL_law_643 rfl (lv_at hl 3 rfl) ?_
  refine lv_aload_n hx hb dL_law_644 rfl (lv_at hl 1 rfl) ?_
  refine lv_iload hx hb dL_law_645 (lv_at hl 5 rfl) ?_
  refine lv_iconst (v := 1) hx hb dL_law_647 (by decide) ?_
  refine lv_iadd hx hb dL_law_648 ?_
  refine lv_topi (fun x_3 ex_3 => ?_)
  obtain rfl : x_3 = nI ((5 * n) + 1) := ex_3.trans (nI_add (5 * n) 1)
  refine r_sld X S hX hbl hbA hL (q := (5 * n) + 1) rfl (by omega) dL_law_649 ?_
  refine lv_aload_n hx hb dL_law_650 rfl (lv_at hl 1 rfl) ?_
  refine lv_iload hx hb dL_law_651 (lv_at hl 5 rfl) ?_
  refine lv_iconst (v := 2) hx hb dL_law_653 (by decide) ?_
  refine lv_iadd hx hb dL_law_654 ?_
  refine lv_topi (fun x_4 ex_4 => ?_)
  obtain rfl : x_4 = nI ((5 * n) + 2) := ex_4.trans (nI_add (5 * n) 2)
  refine r_sld X S hX hbl hbA hL (q := (5 * n) + 2) rfl (by omega) dL_law_655 ?_
  refine r_V0 X S (hm D cA ad _) ob_M rfl (cwV 2 hts gL_law_X5_drop rfl rfl rfl (by decide +kernel) ⟨Nat.le_of_ble_eq_true rfl, Nat.le_of_ble_eq_true rfl⟩) rfl hl.1 rfl (Nat.le_of_ble_eq_true rfl) dL_law_656 ⟨(by show 100 + n + 1 ≤ 669044; omega), (by show 700 + 6 * n + 6 ≤ 7088973; omega)⟩ (fun H locs S => ?_)
  refine lv_istore (lv' := [(6, .int bb), (5, .int k), (0, .ref b), (1, .ref (ad 0)), (2, .ref (ad 36)), (3, .ref (ad 59)), (4, .int (nI (5 * n)))]) hx hb dL_law_659 hl (by decide) rfl (fun ls hl => ?_)
  refine lv_aload_n hx hb dL_law_661 rfl (lv_at hl 4 rfl) ?_
  refine r_V0 X S (c_X5_thrown l D cA ad _ F2) ob_M rfl (cwV 0 hts gL_law_X5_thrown rfl rfl rfl (by decide +kernel) ⟨Nat.le_of_ble_eq_true rfl, Nat.le_of_ble_eq_true rfl⟩) rfl hl.1 rfl (Nat.le_of_ble_eq_true rfl) dL_law_662 ⟨(by show 100 + n + 1 ≤ 669044; omega), (by show 700 + 6 * n + 6 ≤ 7088973; omega)⟩ (fun H locs S => ?_)
  rw [show F2 36 0 = k from ek]
  refine lv_iload hx hb dL_law_665 (lv_at hl 1 rfl) ?_
  refine lv_icmp_eq (tgt := 672) hx hb dL_law_667 (by decide) (fun _ => ?_) (fun z => False.elim (z rfl))
  refine lv_iload hx hb dL_law_672 (lv_at hl 1 rfl) ?_
  refine lv_if_ne (tgt := 689) hx hb dL_law_674 (by decide) (fun c_5 => ?_) (fun c_5 => ?_)
  · refine lv_goto (tgt := 1605) hx hb dL_law_689 (by decide) ?_
    exact kk F2 hR2 H locs ls S (lv_sub hl [2, 3, 4, 5, 6] rfl)
  · refine lv_aload_n hx hb dL_law_677 rfl (lv_at hl 5 rfl) ?_
    refine lv_iconst (v := 0) hx hb dL_law_678 (by decide) ?_
    refine r_lal X S dL_law_679 ?_
    refine lv_iload hx hb dL_law_680 (lv_at hl 0 rfl) ?_
    refine lv_i2l hx hb dL_law_682 rfl ?_
    refine W.lcmp hx hb dL_law_683 ?_
    rw [eo c_5, lgc_self]
    refine lv_if_eq (tgt := 689) hx hb dL_law_684 (by decide) (fun _ => ?_) (fun z => False.elim (by first | exact absurd z (by decide) | exact absurd (by decide) z))
    refine lv_goto (tgt := 1605) hx hb dL_law_689 (by decide) ?_
    exact kk F2 hR2 H locs ls S (lv_sub hl [2, 3, 4, 5, 6] rfl)

set_option maxHeartbeats 2000000 in
set_option maxRecDepth 100000 in
theorem law_case8 {p : Program} {l : Launch} {e : Env} {s : State} {m : MethodId} {below : List Frame} {meth : Method} {c : Code} {D : va_G} {cA : Nat → ClassId} {ad : Nat → Nat} {b L : Nat} {xs : Nat → Int32} {Q : State → Prop} (X : Cx p m c code 7 s #[Value.ref b] wsL_law RL D cA ad meth) (hX : va_X b L xs s s.heap) (hbl : b < s.heap.size) (hbA : ¬ AA ad s.heap.size b) (hL : L ≤ 2560) (hst : l.stackTraces = false) {n : Nat} (h5 : 5 * n + 5 ≤ L) {F : FF} (hR : REL n F) {H : Heap} {locs : List Loc} {ls : Array Slot} (S : St D cA ad F s.heap H locs) (hl : lv_has ls 7 [(0, .ref b), (1, .ref (ad 0)), (2, .ref (ad 36)), (3, .ref (ad 59)), (4, .int (nI (5 * n)))]) (kk : ∀ F2 : FF, REL (n + 1) F2 → ∀ (H : Heap) (locs : List Loc) (ls : Array Slot), St D cA ad F2 s.heap H locs → lv_has ls 7 [(0, .ref b), (1, .ref (ad 0)), (2, .ref (ad 36)), (3, .ref (ad 59)), (4, .int (nI (5 * n)))] → W p l e room_1 s m #[Value.ref b] below meth c H locs (100 + n + 1) (700 + 6 * n + 6) Q (F0 m 1605 ls [])) : W p l e room_1 s m #[Value.ref b] below meth c H locs (100 + n) (700 + 6 * n) Q (F0 m 692 ls []) := by
  have hn : n < 512 := by omega
  obtain ⟨⟨hx, hb, hml, hown, hts⟩, hE, hI, hlocks⟩ := id X
  refine lv_aload_n hx hb dL_law_692 rfl (lv_at hl 1 rfl) ?_
  refine lv_aload_n hx hb dL_law_693 rfl (lv_at hl 0 rfl) ?_
  refine lv_iload hx hb dL_law_694 (lv_at hl 4 rfl) ?_
  refine lv_iconst (v := 1) hx hb dL_law_696 (by decide) ?_
  refine lv_iadd hx hb dL_law_697 ?_
  refine lv_topi (fun x_1 ex_1 => ?_)
  obtain rfl : x_1 = nI ((5 * n) + 1) := ex_1.trans (nI_add (5 * n) 1)
  refine r_sld X S hX hbl hbA hL (q := (5 * n) + 1) rfl (by omega) dL_law_698 ?_
  refine lv_aload_n hx hb dL_law_699 rfl (lv_at hl 0 rfl) ?_
  refine lv_iload hx hb dL_law_700 (lv_at hl 4 rfl) ?_
  refine lv_iconst (v := 2) hx hb dL_law_702 (by decide) ?_
  refine lv_iadd hx hb dL_law_703 ?_
  refine lv_topi (fun x_2 ex_2 => ?_)
  obtain rfl : x_2 = nI ((5 * n) + 2) := ex_2.trans (nI_add (5 * n) 2)
  refine r_sld X S hX hbl hbA hL (q := (5 * n) + 2) rfl (by omega) dL_law_704 ?_
  refine lv_aload_n hx hb dL_law_705 rfl (lv_at hl 0 rfl) ?_
  refine lv_iload hx hb dL_law_706 (lv_at hl 4 rfl) ?_
  refine lv_iconst (v := 3) hx hb dL_law_708 (by decide) ?_
  refine lv_iadd hx hb dL_law_709 ?_
  refine lv_topi (fun x_3 ex_3 => ?_)
  obtain rfl : x_3 = nI ((5 * n) + 3) := ex_3.trans (nI_add (5 * n) 3)
  refine r_sld X S hX hbl hbA hL (q := (5 * n) + 3) rfl (by omega) dL_law_710 ?_
  refine lv_aload_n hx hb dL_law_711 rfl (lv_at hl 3 rfl) ?_
  obtain ⟨k, bb, F1, F2, hc, hm, ek, eo, hR2⟩ := op_charge hst hn hR (xs ((5 * n) + 1)) (xs ((5 * n) + 2)) (xs ((5 * n) + 3))
  refine r_SW X S (hc D cA ad _) (vx_cwSW 5 (hh := [(0, 12, 15, 30), (0, 12, 19, 13)]) hts gL_law_L_charge rfl rfl rfl (by decide +kernel) ⟨Nat.le_of_ble_eq_true rfl, Nat.le_of_ble_eq_true rfl⟩) rfl hl.1 rfl (Nat.le_of_ble_eq_true rfl) dL_law_712 ⟨(by show 100 + n + 1 ≤ 669044; omega), (by show 700 + 6 * n + 6 ≤ 7088973; omega)⟩ (fun H locs S => ?_)
  refine lv_istore (lv' := [(5, .int k), (0, .ref b), (1, .ref (ad 0)), (2, .ref (ad 36)), (3, .ref (ad 59)), (4, .int (nI (5 * n)))]) hx hb dL_law_715 hl (by decide) rfl (fun ls hl => ?_)
  refine lv_aload_n hx hb dL_law_717 rfl (lv_at hl 3 rfl) ?_
  refine lv_aload_n hx hb dL_law_718 rfl (lv_at hl 1 rfl) ?_
  refine lv_iload hx hb dL_law_719 (lv_at hl 5 rfl) ?_
  refine lv_iconst (v := 1) hx hb dL_law_721 (by decide) ?_
  refine lv_iadd hx hb dL_law_722 ?_
  refine lv_topi (fun x_4 ex_4 => ?_)
  obtain rfl : x_4 = nI ((5 * n) + 1) := ex_4.trans (nI_add (5 * n) 1)
  refine r_sld X S hX hbl hbA hL (q := (5 * n) + 1) rfl (by omega) dL_law_723 ?_
  refine lv_aload_n hx hb dL_law_724 rfl (lv_at hl 1 rfl) ?_
  refine lv_iload hx hb dL_law_725 (lv_at hl 5 rfl) ?_
  refine lv_iconst (v := 2) hx hb dL_law_727 (by decide) ?_
  refine lv_iadd hx hb dL_law_728 ?_
  refine lv_topi (fun x_5 ex_5 => ?_)
  obtain rfl : x_5 = nI ((5 * n) + 2) := ex_5.trans (nI_add (5 * n) 2)
  refine r_sld X S hX hbl hbA hL (q := (5 * n) + 2) rfl (by omega) dL_law_729 ?_
  refine lv_aload_n hx hb dL_law_730 rfl (lv_at hl 1 rfl) ?_
  refine lv_iload hx hb dL_law_731 (lv_at hl 5 rfl) ?_
  refine lv_iconst (v := 3) hx hb dL_law_733 (by decide) ?_
  refine lv_iadd hx hb dL_law_734 ?_
  refine lv_topi (fun x_6 ex_6 => ?_)
  obtain rfl : x_6 = nI ((5 * n) + 3) := ex_6.trans (nI_add (5 * n) 3)
  refine r_sld X S hX hbl hbA hL (q := (5 * n) + 3) rfl (by omega) dL_law_735 ?_
  refine r_V0 X S (hm D cA ad _) ob_M rfl (cwV 3 hts gL_law_X5_charge rfl rfl rfl (by decide +kernel) ⟨Nat.le_of_ble_eq_true rfl, Nat.le_of_ble_eq_true rfl⟩) rfl hl.1 rfl (Nat.le_of_ble_eq_true rfl) dL_law_736 ⟨(by show 100 + n + 1 ≤ 669044; omega), (by show 700 + 6 * n + 6 ≤ 7088973; omega)⟩ (fun H locs S => ?_)
  refine lv_istore (lv' := [(6, .int bb), (5, .int k), (0, .ref b), (1, .ref (ad 0)), (2, .ref (ad 36)), (3, .ref (ad 59)), (4, .int (nI (5 * n)))]) hx hb dL_law_739 hl (by decide) rfl (fun ls hl => ?_)
  refine lv_aload_n hx hb dL_law_741 rfl (lv_at hl 4 rfl) ?_
  refine r_V0 X S (c_X5_thrown l D cA ad _ F2) ob_M rfl (cwV 0 hts gL_law_X5_thrown rfl rfl rfl (by decide +kernel) ⟨Nat.le_of_ble_eq_true rfl, Nat.le_of_ble_eq_true rfl⟩) rfl hl.1 rfl (Nat.le_of_ble_eq_true rfl) dL_law_742 ⟨(by show 100 + n + 1 ≤ 669044; omega), (by show 700 + 6 * n + 6 ≤ 7088973; omega)⟩ (fun H locs S => ?_)
  rw [show F2 36 0 = k from ek]
  refine lv_iload hx hb dL_law_745 (lv_at hl 1 rfl) ?_
  refine lv_icmp_eq (tgt := 752) hx hb dL_law_747 (by decide) (fun _ => ?_) (fun z => False.elim (z rfl))
  refine lv_iload hx hb dL_law_752 (lv_at hl 1 rfl) ?_
  refine lv_if_ne (tgt := 769) hx hb dL_law_754 (by decide) (fun c_7 => ?_) (fun c_7 => ?_)
  · refine lv_goto (tgt := 1605) hx hb dL_law_769 (by decide) ?_
    exact kk F2 hR2 H locs ls S (lv_sub hl [2, 3, 4, 5, 6] rfl)
  · refine lv_aload_n hx hb dL_law_757 rfl (lv_at hl 5 rfl) ?_
    refine lv_iconst (v := 0) hx hb dL_law_758 (by decide) ?_
    refine r_lal X S dL_law_759 ?_
    refine lv_iload hx hb dL_law_760 (lv_at hl 0 rfl) ?_
    refine lv_i2l hx hb dL_law_762 rfl ?_
    refine W.lcmp hx hb dL_law_763 ?_
    rw [eo c_7, lgc_self]
    refine lv_if_eq (tgt := 769) hx hb dL_law_764 (by decide) (fun _ => ?_) (fun z => False.elim (by first | exact absurd z (by decide) | exact absurd (by decide) z))
    refine lv_goto (tgt := 1605) hx hb dL_law_769 (by decide) ?_
    exact kk F2 hR2 H locs ls S (lv_sub hl [2, 3, 4, 5, 6] rfl)

set_option maxHeartbeats 2000000 in
set_option maxRecDepth 100000 in
theorem law_case9 {p : Program} {l : Launch} {e : Env} {s : State} {m : MethodId} {below : List Frame} {meth : Method} {c : Code} {D : va_G} {cA : Nat → ClassId} {ad : Nat → Nat} {b L : Nat} {xs : Nat → Int32} {Q : State → Prop} (X : Cx p m c code 7 s #[Value.ref b] wsL_law RL D cA ad meth) (hX : va_X b L xs s s.heap) (hbl : b < s.heap.size) (hbA : ¬ AA ad s.heap.size b) (hL : L ≤ 2560) (hst : l.stackTraces = false) {n : Nat} (h5 : 5 * n + 5 ≤ L) {F : FF} (hR : REL n F) {H : Heap} {locs : List Loc} {ls : Array Slot} (S : St D cA ad F s.heap H locs) (hl : lv_has ls 7 [(0, .ref b), (1, .ref (ad 0)), (2, .ref (ad 36)), (3, .ref (ad 59)), (4, .int (nI (5 * n)))]) (kk : ∀ F2 : FF, REL (n + 1) F2 → ∀ (H : Heap) (locs : List Loc) (ls : Array Slot), St D cA ad F2 s.heap H locs → lv_has ls 7 [(0, .ref b), (1, .ref (ad 0)), (2, .ref (ad 36)), (3, .ref (ad 59)), (4, .int (nI (5 * n)))] → W p l e room_1 s m #[Value.ref b] below meth c H locs (100 + n + 1) (700 + 6 * n + 6) Q (F0 m 1605 ls [])) : W p l e room_1 s m #[Value.ref b] below meth c H locs (100 + n) (700 + 6 * n) Q (F0 m 772 ls []) := by
  have hn : n < 512 := by omega
  obtain ⟨⟨hx, hb, hml, hown, hts⟩, hE, hI, hlocks⟩ := id X
  refine lv_aload_n hx hb dL_law_772 rfl (lv_at hl 1 rfl) ?_
  refine lv_aload_n hx hb dL_law_773 rfl (lv_at hl 0 rfl) ?_
  refine lv_iload hx hb dL_law_774 (lv_at hl 4 rfl) ?_
  refine lv_iconst (v := 1) hx hb dL_law_776 (by decide) ?_
  refine lv_iadd hx hb dL_law_777 ?_
  refine lv_topi (fun x_1 ex_1 => ?_)
  obtain rfl : x_1 = nI ((5 * n) + 1) := ex_1.trans (nI_add (5 * n) 1)
  refine r_sld X S hX hbl hbA hL (q := (5 * n) + 1) rfl (by omega) dL_law_778 ?_
  refine lv_aload_n hx hb dL_law_779 rfl (lv_at hl 0 rfl) ?_
  refine lv_iload hx hb dL_law_780 (lv_at hl 4 rfl) ?_
  refine lv_iconst (v := 2) hx hb dL_law_782 (by decide) ?_
  refine lv_iadd hx hb dL_law_783 ?_
  refine lv_topi (fun x_2 ex_2 => ?_)
  obtain rfl : x_2 = nI ((5 * n) + 2) := ex_2.trans (nI_add (5 * n) 2)
  refine r_sld X S hX hbl hbA hL (q := (5 * n) + 2) rfl (by omega) dL_law_784 ?_
  refine lv_aload_n hx hb dL_law_785 rfl (lv_at hl 0 rfl) ?_
  refine lv_iload hx hb dL_law_786 (lv_at hl 4 rfl) ?_
  refine lv_iconst (v := 3) hx hb dL_law_788 (by decide) ?_
  refine lv_iadd hx hb dL_law_789 ?_
  refine lv_topi (fun x_3 ex_3 => ?_)
  obtain rfl : x_3 = nI ((5 * n) + 3) := ex_3.trans (nI_add (5 * n) 3)
  refine r_sld X S hX hbl hbA hL (q := (5 * n) + 3) rfl (by omega) dL_law_790 ?_
  refine lv_aload_n hx hb dL_law_791 rfl (lv_at hl 3 rfl) ?_
  obtain ⟨k, bb, F1, F2, hc, hm, ek, eo, hR2⟩ := op_award hst hn hR (xs ((5 * n) + 1)) (xs ((5 * n) + 2)) (xs ((5 * n) + 3))
  refine r_SW X S (hc D cA ad _) (vx_cwSW 5 (hh := [(0, 12, 15, 30), (0, 12, 19, 13), (0, 12, 23, 39)]) hts gL_law_L_award rfl rfl rfl (by decide +kernel) ⟨Nat.le_of_ble_eq_true rfl, Nat.le_of_ble_eq_true rfl⟩) rfl hl.1 rfl (Nat.le_of_ble_eq_true rfl) dL_law_792 ⟨(by show 100 + n + 1 ≤ 669044; omega), (by show 700 + 6 * n + 6 ≤ 7088973; omega)⟩ (fun H locs S => ?_)
  refine lv_istore (lv' := [(5, .int k), (0, .ref b), (1, .ref (ad 0)), (2, .ref (ad 36)), (3, .ref (ad 59)), (4, .int (nI (5 * n)))]) hx hb dL_law_795 hl (by decide) rfl (fun ls hl => ?_)
  refine lv_aload_n hx hb dL_law_797 rfl (lv_at hl 3 rfl) ?_
  refine lv_aload_n hx hb dL_law_798 rfl (lv_at hl 1 rfl) ?_
  refine lv_iload hx hb dL_law_799 (lv_at hl 5 rfl) ?_
  refine lv_iconst (v := 1) hx hb dL_law_801 (by decide) ?_
  refine lv_iadd hx hb dL_law_802 ?_
  refine lv_topi (fun x_4 ex_4 => ?_)
  obtain rfl : x_4 = nI ((5 * n) + 1) := ex_4.trans (nI_add (5 * n) 1)
  refine r_sld X S hX hbl hbA hL (q := (5 * n) + 1) rfl (by omega) dL_law_803 ?_
  refine lv_aload_n hx hb dL_law_804 rfl (lv_at hl 1 rfl) ?_
  refine lv_iload hx hb dL_law_805 (lv_at hl 5 rfl) ?_
  refine lv_iconst (v := 2) hx hb dL_law_807 (by decide) ?_
  refine lv_iadd hx hb dL_law_808 ?_
  refine lv_topi (fun x_5 ex_5 => ?_)
  obtain rfl : x_5 = nI ((5 * n) + 2) := ex_5.trans (nI_add (5 * n) 2)
  refine r_sld X S hX hbl hbA hL (q := (5 * n) + 2) rfl (by omega) dL_law_809 ?_
  refine lv_aload_n hx hb dL_law_810 rfl (lv_at hl 1 rfl) ?_
  refine lv_iload hx hb dL_law_811 (lv_at hl 5 rfl) ?_
  refine lv_iconst (v := 3) hx hb dL_law_813 (by decide) ?_
  refine lv_iadd hx hb dL_law_814 ?_
  refine lv_topi (fun x_6 ex_6 => ?_)
  obtain rfl : x_6 = nI ((5 * n) + 3) := ex_6.trans (nI_add (5 * n) 3)
  refine r_sld X S hX hbl hbA hL (q := (5 * n) + 3) rfl (by omega) dL_law_815 ?_
  refine r_V0 X S (hm D cA ad _) ob_M rfl (cwV 3 hts gL_law_X5_award rfl rfl rfl (by decide +kernel) ⟨Nat.le_of_ble_eq_true rfl, Nat.le_of_ble_eq_true rfl⟩) rfl hl.1 rfl (Nat.le_of_ble_eq_true rfl) dL_law_816 ⟨(by show 100 + n + 1 ≤ 669044; omega), (by show 700 + 6 * n + 6 ≤ 7088973; omega)⟩ (fun H locs S => ?_)
  refine lv_istore (lv' := [(6, .int bb), (5, .int k), (0, .ref b), (1, .ref (ad 0)), (2, .ref (ad 36)), (3, .ref (ad 59)), (4, .int (nI (5 * n)))]) hx hb dL_law_819 hl (by decide) rfl (fun ls hl => ?_)
  refine lv_aload_n hx hb dL_law_821 rfl (lv_at hl 4 rfl) ?_
  refine r_V0 X S (c_X5_thrown l D cA ad _ F2) ob_M rfl (cwV 0 hts gL_law_X5_thrown rfl rfl rfl (by decide +kernel) ⟨Nat.le_of_ble_eq_true rfl, Nat.le_of_ble_eq_true rfl⟩) rfl hl.1 rfl (Nat.le_of_ble_eq_true rfl) dL_law_822 ⟨(by show 100 + n + 1 ≤ 669044; omega), (by show 700 + 6 * n + 6 ≤ 7088973; omega)⟩ (fun H locs S => ?_)
  rw [show F2 36 0 = k from ek]
  refine lv_iload hx hb dL_law_825 (lv_at hl 1 rfl) ?_
  refine lv_icmp_eq (tgt := 832) hx hb dL_law_827 (by decide) (fun _ => ?_) (fun z => False.elim (z rfl))
  refine lv_iload hx hb dL_law_832 (lv_at hl 1 rfl) ?_
  refine lv_if_ne (tgt := 849) hx hb dL_law_834 (by decide) (fun c_7 => ?_) (fun c_7 => ?_)
  · refine lv_goto (tgt := 1605) hx hb dL_law_849 (by decide) ?_
    exact kk F2 hR2 H locs ls S (lv_sub hl [2, 3, 4, 5, 6] rfl)
  · refine lv_aload_n hx hb dL_law_837 rfl (lv_at hl 5 rfl) ?_
    refine lv_iconst (v := 0) hx hb dL_law_838 (by decide) ?_
    refine r_lal X S dL_law_839 ?_
    refine lv_iload hx hb dL_law_840 (lv_at hl 0 rfl) ?_
    refine lv_i2l hx hb dL_law_842 rfl ?_
    refine W.lcmp hx hb dL_law_843 ?_
    rw [eo c_7, lgc_self]
    refine lv_if_eq (tgt := 849) hx hb dL_law_844 (by decide) (fun _ => ?_) (fun z => False.elim (by first | exact absurd z (by decide) | exact absurd (by decide) z))
    refine lv_goto (tgt := 1605) hx hb dL_law_849 (by decide) ?_
    exact kk F2 hR2 H locs ls S (lv_sub hl [2, 3, 4, 5, 6] rfl)

set_option maxHeartbeats 2000000 in
set_option maxRecDepth 100000 in
theorem law_case10 {p : Program} {l : Launch} {e : Env} {s : State} {m : MethodId} {below : List Frame} {meth : Method} {c : Code} {D : va_G} {cA : Nat → ClassId} {ad : Nat → Nat} {b L : Nat} {xs : Nat → Int32} {Q : State → Prop} (X : Cx p m c code 7 s #[Value.ref b] wsL_law RL D cA ad meth) (hX : va_X b L xs s s.heap) (hbl : b < s.heap.size) (hbA : ¬ AA ad s.heap.size b) (hL : L ≤ 2560) (hst : l.stackTraces = false) {n : Nat} (h5 : 5 * n + 5 ≤ L) {F : FF} (hR : REL n F) {H : Heap} {locs : List Loc} {ls : Array Slot} (S : St D cA ad F s.heap H locs) (hl : lv_has ls 7 [(0, .ref b), (1, .ref (ad 0)), (2, .ref (ad 36)), (3, .ref (ad 59)), (4, .int (nI (5 * n)))]) (kk : ∀ F2 : FF, REL (n + 1) F2 → ∀ (H : Heap) (locs : List Loc) (ls : Array Slot), St D cA ad F2 s.heap H locs → lv_has ls 7 [(0, .ref b), (1, .ref (ad 0)), (2, .ref (ad 36)), (3, .ref (ad 59)), (4, .int (nI (5 * n)))] → W p l e room_1 s m #[Value.ref b] below meth c H locs (100 + n + 1) (700 + 6 * n + 6) Q (F0 m 1605 ls [])) : W p l e room_1 s m #[Value.ref b] below meth c H locs (100 + n) (700 + 6 * n) Q (F0 m 852 ls []) := by
  have hn : n < 512 := by omega
  obtain ⟨⟨hx, hb, hml, hown, hts⟩, hE, hI, hlocks⟩ := id X
  refine lv_aload_n hx hb dL_law_852 rfl (lv_at hl 1 rfl) ?_
  refine lv_aload_n hx hb dL_law_853 rfl (lv_at hl 0 rfl) ?_
  refine lv_iload hx hb dL_law_854 (lv_at hl 4 rfl) ?_
  refine lv_iconst (v := 1) hx hb dL_law_856 (by decide) ?_
  refine lv_iadd hx hb dL_law_857 ?_
  refine lv_topi (fun x_1 ex_1 => ?_)
  obtain rfl : x_1 = nI ((5 * n) + 1) := ex_1.trans (nI_add (5 * n) 1)
  refine r_sld X S hX hbl hbA hL (q := (5 * n) + 1) rfl (by omega) dL_law_858 ?_
  refine lv_aload_n hx hb dL_law_859 rfl (lv_at hl 0 rfl) ?_
  refine lv_iload hx hb dL_law_860 (lv_at hl 4 rfl) ?_
  refine lv_iconst (v := 2) hx hb dL_law_862 (by decide) ?_
  refine lv_iadd hx hb dL_law_863 ?_
  refine lv_topi (fun x_2 ex_2 => ?_)
  obtain rfl : x_2 = nI ((5 * n) + 2) := ex_2.trans (nI_add (5 * n) 2)
  refine r_sld X S hX hbl hbA hL (q := (5 * n) + 2) rfl (by omega) dL_law_864 ?_
  refine lv_aload_n hx hb dL_law_865 rfl (lv_at hl 3 rfl) ?_
  obtain ⟨k, bb, F1, F2, hc, hm, ek, eo, hR2⟩ := op_pay hst hn hR (xs ((5 * n) + 1)) (xs ((5 * n) + 2))
  refine r_SW X S (hc D cA ad _) (vx_cwSW 4 (hh := [(0, 10, 13, 30), (0, 10, 17, 13)]) hts gL_law_L_pay rfl rfl rfl (by decide +kernel) ⟨Nat.le_of_ble_eq_true rfl, Nat.le_of_ble_eq_true rfl⟩) rfl hl.1 rfl (Nat.le_of_ble_eq_true rfl) dL_law_866 ⟨(by show 100 + n + 1 ≤ 669044; omega), (by show 700 + 6 * n + 6 ≤ 7088973; omega)⟩ (fun H locs S => ?_)
  refine lv_istore (lv' := [(5, .int k), (0, .ref b), (1, .ref (ad 0)), (2, .ref (ad 36)), (3, .ref (ad 59)), (4, .int (nI (5 * n)))]) hx hb dL_law_869 hl (by decide) rfl (fun ls hl => ?_)
  refine lv_aload_n hx hb dL_law_871 rfl (lv_at hl 3 rfl) ?_
  refine lv_aload_n hx hb dL_law_872 rfl (lv_at hl 1 rfl) ?_
  refine lv_iload hx hb dL_law_873 (lv_at hl 5 rfl) ?_
  refine lv_iconst (v := 1) hx hb dL_law_875 (by decide) ?_
  refine lv_iadd hx hb dL_law_876 ?_
  refine lv_topi (fun x_3 ex_3 => ?_)
  obtain rfl : x_3 = nI ((5 * n) + 1) := ex_3.trans (nI_add (5 * n) 1)
  refine r_sld X S hX hbl hbA hL (q := (5 * n) + 1) rfl (by omega) dL_law_877 ?_
  refine lv_aload_n hx hb dL_law_878 rfl (lv_at hl 1 rfl) ?_
  refine lv_iload hx hb dL_law_879 (lv_at hl 5 rfl) ?_
  refine lv_iconst (v := 2) hx hb dL_law_881 (by decide) ?_
  refine lv_iadd hx hb dL_law_882 ?_
  refine lv_topi (fun x_4 ex_4 => ?_)
  obtain rfl : x_4 = nI ((5 * n) + 2) := ex_4.trans (nI_add (5 * n) 2)
  refine r_sld X S hX hbl hbA hL (q := (5 * n) + 2) rfl (by omega) dL_law_883 ?_
  refine r_V0 X S (hm D cA ad _) ob_M rfl (cwV 2 hts gL_law_X5_pay rfl rfl rfl (by decide +kernel) ⟨Nat.le_of_ble_eq_true rfl, Nat.le_of_ble_eq_true rfl⟩) rfl hl.1 rfl (Nat.le_of_ble_eq_true rfl) dL_law_884 ⟨(by show 100 + n + 1 ≤ 669044; omega), (by show 700 + 6 * n + 6 ≤ 7088973; omega)⟩ (fun H locs S => ?_)
  refine lv_istore (lv' := [(6, .int bb), (5, .int k), (0, .ref b), (1, .ref (ad 0)), (2, .ref (ad 36)), (3, .ref (ad 59)), (4, .int (nI (5 * n)))]) hx hb dL_law_887 hl (by decide) rfl (fun ls hl => ?_)
  refine lv_aload_n hx hb dL_law_889 rfl (lv_at hl 4 rfl) ?_
  refine r_V0 X S (c_X5_thrown l D cA ad _ F2) ob_M rfl (cwV 0 hts gL_law_X5_thrown rfl rfl rfl (by decide +kernel) ⟨Nat.le_of_ble_eq_true rfl, Nat.le_of_ble_eq_true rfl⟩) rfl hl.1 rfl (Nat.le_of_ble_eq_true rfl) dL_law_890 ⟨(by show 100 + n + 1 ≤ 669044; omega), (by show 700 + 6 * n + 6 ≤ 7088973; omega)⟩ (fun H locs S => ?_)
  rw [show F2 36 0 = k from ek]
  refine lv_iload hx hb dL_law_893 (lv_at hl 1 rfl) ?_
  refine lv_icmp_eq (tgt := 900) hx hb dL_law_895 (by decide) (fun _ => ?_) (fun z => False.elim (z rfl))
  refine lv_iload hx hb dL_law_900 (lv_at hl 1 rfl) ?_
  refine lv_if_ne (tgt := 917) hx hb dL_law_902 (by decide) (fun c_5 => ?_) (fun c_5 => ?_)
  · refine lv_goto (tgt := 1605) hx hb dL_law_917 (by decide) ?_
    exact kk F2 hR2 H locs ls S (lv_sub hl [2, 3, 4, 5, 6] rfl)
  · refine lv_aload_n hx hb dL_law_905 rfl (lv_at hl 5 rfl) ?_
    refine lv_iconst (v := 0) hx hb dL_law_906 (by decide) ?_
    refine r_lal X S dL_law_907 ?_
    refine lv_iload hx hb dL_law_908 (lv_at hl 0 rfl) ?_
    refine lv_i2l hx hb dL_law_910 rfl ?_
    refine W.lcmp hx hb dL_law_911 ?_
    rw [eo c_5, lgc_self]
    refine lv_if_eq (tgt := 917) hx hb dL_law_912 (by decide) (fun _ => ?_) (fun z => False.elim (by first | exact absurd z (by decide) | exact absurd (by decide) z))
    refine lv_goto (tgt := 1605) hx hb dL_law_917 (by decide) ?_
    exact kk F2 hR2 H locs ls S (lv_sub hl [2, 3, 4, 5, 6] rfl)

set_option maxHeartbeats 2000000 in
set_option maxRecDepth 100000 in
theorem law_case11 {p : Program} {l : Launch} {e : Env} {s : State} {m : MethodId} {below : List Frame} {meth : Method} {c : Code} {D : va_G} {cA : Nat → ClassId} {ad : Nat → Nat} {b L : Nat} {xs : Nat → Int32} {Q : State → Prop} (X : Cx p m c code 7 s #[Value.ref b] wsL_law RL D cA ad meth) (hX : va_X b L xs s s.heap) (hbl : b < s.heap.size) (hbA : ¬ AA ad s.heap.size b) (hL : L ≤ 2560) (hst : l.stackTraces = false) {n : Nat} (h5 : 5 * n + 5 ≤ L) {F : FF} (hR : REL n F) {H : Heap} {locs : List Loc} {ls : Array Slot} (S : St D cA ad F s.heap H locs) (hl : lv_has ls 7 [(0, .ref b), (1, .ref (ad 0)), (2, .ref (ad 36)), (3, .ref (ad 59)), (4, .int (nI (5 * n)))]) (kk : ∀ F2 : FF, REL (n + 1) F2 → ∀ (H : Heap) (locs : List Loc) (ls : Array Slot), St D cA ad F2 s.heap H locs → lv_has ls 7 [(0, .ref b), (1, .ref (ad 0)), (2, .ref (ad 36)), (3, .ref (ad 59)), (4, .int (nI (5 * n)))] → W p l e room_1 s m #[Value.ref b] below meth c H locs (100 + n + 1) (700 + 6 * n + 6) Q (F0 m 1605 ls [])) : W p l e room_1 s m #[Value.ref b] below meth c H locs (100 + n) (700 + 6 * n) Q (F0 m 920 ls []) := by
  have hn : n < 512 := by omega
  obtain ⟨⟨hx, hb, hml, hown, hts⟩, hE, hI, hlocks⟩ := id X
  refine lv_aload_n hx hb dL_law_920 rfl (lv_at hl 1 rfl) ?_
  refine lv_aload_n hx hb dL_law_921 rfl (lv_at hl 0 rfl) ?_
  refine lv_iload hx hb dL_law_922 (lv_at hl 4 rfl) ?_
  refine lv_iconst (v := 1) hx hb dL_law_924 (by decide) ?_
  refine lv_iadd hx hb dL_law_925 ?_
  refine lv_topi (fun x_1 ex_1 => ?_)
  obtain rfl : x_1 = nI ((5 * n) + 1) := ex_1.trans (nI_add (5 * n) 1)
  refine r_sld X S hX hbl hbA hL (q := (5 * n) + 1) rfl (by omega) dL_law_926 ?_
  refine lv_aload_n hx hb dL_law_927 rfl (lv_at hl 0 rfl) ?_
  refine lv_iload hx hb dL_law_928 (lv_at hl 4 rfl) ?_
  refine lv_iconst (v := 2) hx hb dL_law_930 (by decide) ?_
  refine lv_iadd hx hb dL_law_931 ?_
  refine lv_topi (fun x_2 ex_2 => ?_)
  obtain rfl : x_2 = nI ((5 * n) + 2) := ex_2.trans (nI_add (5 * n) 2)
  refine r_sld X S hX hbl hbA hL (q := (5 * n) + 2) rfl (by omega) dL_law_932 ?_
  refine lv_aload_n hx hb dL_law_933 rfl (lv_at hl 3 rfl) ?_
  obtain ⟨k, bb, F1, F2, hc, hm, ek, eo, hR2⟩ := op_plan hst hn hR (xs ((5 * n) + 1)) (xs ((5 * n) + 2))
  refine r_SW X S (hc D cA ad _) (vx_cwSW 4 (hh := [(0, 10, 13, 30), (0, 10, 17, 13), (0, 10, 21, 39)]) hts gL_law_L_plan rfl rfl rfl (by decide +kernel) ⟨Nat.le_of_ble_eq_true rfl, Nat.le_of_ble_eq_true rfl⟩) rfl hl.1 rfl (Nat.le_of_ble_eq_true rfl) dL_law_934 ⟨(by show 100 + n + 1 ≤ 669044; omega), (by show 700 + 6 * n + 6 ≤ 7088973; omega)⟩ (fun H locs S => ?_)
  refine lv_istore (lv' := [(5, .int k), (0, .ref b), (1, .ref (ad 0)), (2, .ref (ad 36)), (3, .ref (ad 59)), (4, .int (nI (5 * n)))]) hx hb dL_law_937 hl (by decide) rfl (fun ls hl => ?_)
  refine lv_aload_n hx hb dL_law_939 rfl (lv_at hl 3 rfl) ?_
  refine lv_aload_n hx hb dL_law_940 rfl (lv_at hl 1 rfl) ?_
  refine lv_iload hx hb dL_law_941 (lv_at hl 5 rfl) ?_
  refine lv_iconst (v := 1) hx hb dL_law_943 (by decide) ?_
  refine lv_iadd hx hb dL_law_944 ?_
  refine lv_topi (fun x_3 ex_3 => ?_)
  obtain rfl : x_3 = nI ((5 * n) + 1) := ex_3.trans (nI_add (5 * n) 1)
  refine r_sld X S hX hbl hbA hL (q := (5 * n) + 1) rfl (by omega) dL_law_945 ?_
  refine lv_aload_n hx hb dL_law_946 rfl (lv_at hl 1 rfl) ?_
  refine lv_iload hx hb dL_law_947 (lv_at hl 5 rfl) ?_
  refine lv_iconst (v := 2) hx hb dL_law_949 (by decide) ?_
  refine lv_iadd hx hb dL_law_950 ?_
  refine lv_topi (fun x_4 ex_4 => ?_)
  obtain rfl : x_4 = nI ((5 * n) + 2) := ex_4.trans (nI_add (5 * n) 2)
  refine r_sld X S hX hbl hbA hL (q := (5 * n) + 2) rfl (by omega) dL_law_951 ?_
  refine r_V0 X S (hm D cA ad _) ob_M rfl (cwV 2 hts gL_law_X5_plan rfl rfl rfl (by decide +kernel) ⟨Nat.le_of_ble_eq_true rfl, Nat.le_of_ble_eq_true rfl⟩) rfl hl.1 rfl (Nat.le_of_ble_eq_true rfl) dL_law_952 ⟨(by show 100 + n + 1 ≤ 669044; omega), (by show 700 + 6 * n + 6 ≤ 7088973; omega)⟩ (fun H locs S => ?_)
  refine lv_istore (lv' := [(6, .int bb), (5, .int k), (0, .ref b), (1, .ref (ad 0)), (2, .ref (ad 36)), (3, .ref (ad 59)), (4, .int (nI (5 * n)))]) hx hb dL_law_955 hl (by decide) rfl (fun ls hl => ?_)
  refine lv_aload_n hx hb dL_law_957 rfl (lv_at hl 4 rfl) ?_
  refine r_V0 X S (c_X5_thrown l D cA ad _ F2) ob_M rfl (cwV 0 hts gL_law_X5_thrown rfl rfl rfl (by decide +kernel) ⟨Nat.le_of_ble_eq_true rfl, Nat.le_of_ble_eq_true rfl⟩) rfl hl.1 rfl (Nat.le_of_ble_eq_true rfl) dL_law_958 ⟨(by show 100 + n + 1 ≤ 669044; omega), (by show 700 + 6 * n + 6 ≤ 7088973; omega)⟩ (fun H locs S => ?_)
  rw [show F2 36 0 = k from ek]
  refine lv_iload hx hb dL_law_961 (lv_at hl 1 rfl) ?_
  refine lv_icmp_eq (tgt := 968) hx hb dL_law_963 (by decide) (fun _ => ?_) (fun z => False.elim (z rfl))
  refine lv_iload hx hb dL_law_968 (lv_at hl 1 rfl) ?_
  refine lv_if_ne (tgt := 985) hx hb dL_law_970 (by decide) (fun c_5 => ?_) (fun c_5 => ?_)
  · refine lv_goto (tgt := 1605) hx hb dL_law_985 (by decide) ?_
    exact kk F2 hR2 H locs ls S (lv_sub hl [2, 3, 4, 5, 6] rfl)
  · refine lv_aload_n hx hb dL_law_973 rfl (lv_at hl 5 rfl) ?_
    refine lv_iconst (v := 0) hx hb dL_law_974 (by decide) ?_
    refine r_lal X S dL_law_975 ?_
    refine lv_iload hx hb dL_law_976 (lv_at hl 0 rfl) ?_
    refine lv_i2l hx hb dL_law_978 rfl ?_
    refine W.lcmp hx hb dL_law_979 ?_
    rw [eo c_5, lgc_self]
    refine lv_if_eq (tgt := 985) hx hb dL_law_980 (by decide) (fun _ => ?_) (fun z => False.elim (by first | exact absurd z (by decide) | exact absurd (by decide) z))
    refine lv_goto (tgt := 1605) hx hb dL_law_985 (by decide) ?_
    exact kk F2 hR2 H locs ls S (lv_sub hl [2, 3, 4, 5, 6] rfl)

set_option maxHeartbeats 2000000 in
set_option maxRecDepth 100000 in
theorem law_case12 {p : Program} {l : Launch} {e : Env} {s : State} {m : MethodId} {below : List Frame} {meth : Method} {c : Code} {D : va_G} {cA : Nat → ClassId} {ad : Nat → Nat} {b L : Nat} {xs : Nat → Int32} {Q : State → Prop} (X : Cx p m c code 7 s #[Value.ref b] wsL_law RL D cA ad meth) (hX : va_X b L xs s s.heap) (hbl : b < s.heap.size) (hbA : ¬ AA ad s.heap.size b) (hL : L ≤ 2560) (hst : l.stackTraces = false) {n : Nat} (h5 : 5 * n + 5 ≤ L) {F : FF} (hR : REL n F) {H : Heap} {locs : List Loc} {ls : Array Slot} (S : St D cA ad F s.heap H locs) (hl : lv_has ls 7 [(0, .ref b), (1, .ref (ad 0)), (2, .ref (ad 36)), (3, .ref (ad 59)), (4, .int (nI (5 * n)))]) (kk : ∀ F2 : FF, REL (n + 1) F2 → ∀ (H : Heap) (locs : List Loc) (ls : Array Slot), St D cA ad F2 s.heap H locs → lv_has ls 7 [(0, .ref b), (1, .ref (ad 0)), (2, .ref (ad 36)), (3, .ref (ad 59)), (4, .int (nI (5 * n)))] → W p l e room_1 s m #[Value.ref b] below meth c H locs (100 + n + 1) (700 + 6 * n + 6) Q (F0 m 1605 ls [])) : W p l e room_1 s m #[Value.ref b] below meth c H locs (100 + n) (700 + 6 * n) Q (F0 m 988 ls []) := by
  have hn : n < 512 := by omega
  obtain ⟨⟨hx, hb, hml, hown, hts⟩, hE, hI, hlocks⟩ := id X
  refine lv_aload_n hx hb dL_law_988 rfl (lv_at hl 1 rfl) ?_
  refine lv_aload_n hx hb dL_law_989 rfl (lv_at hl 0 rfl) ?_
  refine lv_iload hx hb dL_law_990 (lv_at hl 4 rfl) ?_
  refine lv_iconst (v := 1) hx hb dL_law_992 (by decide) ?_
  refine lv_iadd hx hb dL_law_993 ?_
  refine lv_topi (fun x_1 ex_1 => ?_)
  obtain rfl : x_1 = nI ((5 * n) + 1) := ex_1.trans (nI_add (5 * n) 1)
  refine r_sld X S hX hbl hbA hL (q := (5 * n) + 1) rfl (by omega) dL_law_994 ?_
  refine lv_aload_n hx hb dL_law_995 rfl (lv_at hl 3 rfl) ?_
  obtain ⟨k, bb, F1, F2, hc, hm, ek, eo, hR2⟩ := op_leave hst hn hR (xs ((5 * n) + 1))
  refine r_SW X S (hc D cA ad _) (vx_cwSW 3 (hh := [(0, 9, 12, 30)]) hts gL_law_L_leave rfl rfl rfl (by decide +kernel) ⟨Nat.le_of_ble_eq_true rfl, Nat.le_of_ble_eq_true rfl⟩) rfl hl.1 rfl (Nat.le_of_ble_eq_true rfl) dL_law_996 ⟨(by show 100 + n + 1 ≤ 669044; omega), (by show 700 + 6 * n + 6 ≤ 7088973; omega)⟩ (fun H locs S => ?_)
  refine lv_istore (lv' := [(5, .int k), (0, .ref b), (1, .ref (ad 0)), (2, .ref (ad 36)), (3, .ref (ad 59)), (4, .int (nI (5 * n)))]) hx hb dL_law_999 hl (by decide) rfl (fun ls hl => ?_)
  refine lv_aload_n hx hb dL_law_1001 rfl (lv_at hl 3 rfl) ?_
  refine lv_aload_n hx hb dL_law_1002 rfl (lv_at hl 1 rfl) ?_
  refine lv_iload hx hb dL_law_1003 (lv_at hl 5 rfl) ?_
  refine lv_iconst (v := 1) hx hb dL_law_1005 (by decide) ?_
  refine lv_iadd hx hb dL_law_1006 ?_
  refine lv_topi (fun x_2 ex_2 => ?_)
  obtain rfl : x_2 = nI ((5 * n) + 1) := ex_2.trans (nI_add (5 * n) 1)
  refine r_sld X S hX hbl hbA hL (q := (5 * n) + 1) rfl (by omega) dL_law_1007 ?_
  refine r_V0 X S (hm D cA ad _) ob_M rfl (cwV 1 hts gL_law_X5_leave rfl rfl rfl (by decide +kernel) ⟨Nat.le_of_ble_eq_true rfl, Nat.le_of_ble_eq_true rfl⟩) rfl hl.1 rfl (Nat.le_of_ble_eq_true rfl) dL_law_1008 ⟨(by show 100 + n + 1 ≤ 669044; omega), (by show 700 + 6 * n + 6 ≤ 7088973; omega)⟩ (fun H locs S => ?_)
  refine lv_istore (lv' := [(6, .int bb), (5, .int k), (0, .ref b), (1, .ref (ad 0)), (2, .ref (ad 36)), (3, .ref (ad 59)), (4, .int (nI (5 * n)))]) hx hb dL_law_1011 hl (by decide) rfl (fun ls hl => ?_)
  refine lv_aload_n hx hb dL_law_1013 rfl (lv_at hl 4 rfl) ?_
  refine r_V0 X S (c_X5_thrown l D cA ad _ F2) ob_M rfl (cwV 0 hts gL_law_X5_thrown rfl rfl rfl (by decide +kernel) ⟨Nat.le_of_ble_eq_true rfl, Nat.le_of_ble_eq_true rfl⟩) rfl hl.1 rfl (Nat.le_of_ble_eq_true rfl) dL_law_1014 ⟨(by show 100 + n + 1 ≤ 669044; omega), (by show 700 + 6 * n + 6 ≤ 7088973; omega)⟩ (fun H locs S => ?_)
  rw [show F2 36 0 = k from ek]
  refine lv_iload hx hb dL_law_1017 (lv_at hl 1 rfl) ?_
  refine lv_icmp_eq (tgt := 1024) hx hb dL_law_1019 (by decide) (fun _ => ?_) (fun z => False.elim (z rfl))
  refine lv_iload hx hb dL_law_1024 (lv_at hl 1 rfl) ?_
  refine lv_if_ne (tgt := 1041) hx hb dL_law_1026 (by decide) (fun c_3 => ?_) (fun c_3 => ?_)
  · refine lv_goto (tgt := 1605) hx hb dL_law_1041 (by decide) ?_
    exact kk F2 hR2 H locs ls S (lv_sub hl [2, 3, 4, 5, 6] rfl)
  · refine lv_aload_n hx hb dL_law_1029 rfl (lv_at hl 5 rfl) ?_
    refine lv_iconst (v := 0) hx hb dL_law_1030 (by decide) ?_
    refine r_lal X S dL_law_1031 ?_
    refine lv_iload hx hb dL_law_1032 (lv_at hl 0 rfl) ?_
    refine lv_i2l hx hb dL_law_1034 rfl ?_
    refine W.lcmp hx hb dL_law_1035 ?_
    rw [eo c_3, lgc_self]
    refine lv_if_eq (tgt := 1041) hx hb dL_law_1036 (by decide) (fun _ => ?_) (fun z => False.elim (by first | exact absurd z (by decide) | exact absurd (by decide) z))
    refine lv_goto (tgt := 1605) hx hb dL_law_1041 (by decide) ?_
    exact kk F2 hR2 H locs ls S (lv_sub hl [2, 3, 4, 5, 6] rfl)

set_option maxHeartbeats 2000000 in
set_option maxRecDepth 100000 in
theorem law_case13 {p : Program} {l : Launch} {e : Env} {s : State} {m : MethodId} {below : List Frame} {meth : Method} {c : Code} {D : va_G} {cA : Nat → ClassId} {ad : Nat → Nat} {b L : Nat} {xs : Nat → Int32} {Q : State → Prop} (X : Cx p m c code 7 s #[Value.ref b] wsL_law RL D cA ad meth) (hX : va_X b L xs s s.heap) (hbl : b < s.heap.size) (hbA : ¬ AA ad s.heap.size b) (hL : L ≤ 2560) (hst : l.stackTraces = false) {n : Nat} (h5 : 5 * n + 5 ≤ L) {F : FF} (hR : REL n F) {H : Heap} {locs : List Loc} {ls : Array Slot} (S : St D cA ad F s.heap H locs) (hl : lv_has ls 7 [(0, .ref b), (1, .ref (ad 0)), (2, .ref (ad 36)), (3, .ref (ad 59)), (4, .int (nI (5 * n)))]) (kk : ∀ F2 : FF, REL (n + 1) F2 → ∀ (H : Heap) (locs : List Loc) (ls : Array Slot), St D cA ad F2 s.heap H locs → lv_has ls 7 [(0, .ref b), (1, .ref (ad 0)), (2, .ref (ad 36)), (3, .ref (ad 59)), (4, .int (nI (5 * n)))] → W p l e room_1 s m #[Value.ref b] below meth c H locs (100 + n + 1) (700 + 6 * n + 6) Q (F0 m 1605 ls [])) : W p l e room_1 s m #[Value.ref b] below meth c H locs (100 + n) (700 + 6 * n) Q (F0 m 1044 ls []) := by
  have hn : n < 512 := by omega
  obtain ⟨⟨hx, hb, hml, hown, hts⟩, hE, hI, hlocks⟩ := id X
  refine lv_aload_n hx hb dL_law_1044 rfl (lv_at hl 1 rfl) ?_
  refine lv_aload_n hx hb dL_law_1045 rfl (lv_at hl 3 rfl) ?_
  obtain ⟨k, bb, F1, F2, hc, hm, ek, eo, hR2⟩ := op_closeWeek hst hn hR
  refine r_SW X S (hc D cA ad _) (vx_cwSW 2 (hh := [(0, 8, 11, 39)]) hts gL_law_L_closeWeek rfl rfl rfl (by decide +kernel) ⟨Nat.le_of_ble_eq_true rfl, Nat.le_of_ble_eq_true rfl⟩) rfl hl.1 rfl (Nat.le_of_ble_eq_true rfl) dL_law_1046 ⟨(by show 100 + n + 1 ≤ 669044; omega), (by show 700 + 6 * n + 6 ≤ 7088973; omega)⟩ (fun H locs S => ?_)
  refine lv_istore (lv' := [(5, .int k), (0, .ref b), (1, .ref (ad 0)), (2, .ref (ad 36)), (3, .ref (ad 59)), (4, .int (nI (5 * n)))]) hx hb dL_law_1049 hl (by decide) rfl (fun ls hl => ?_)
  refine lv_aload_n hx hb dL_law_1051 rfl (lv_at hl 3 rfl) ?_
  refine r_V0 X S (hm D cA ad _) ob_M rfl (cwV 0 hts gL_law_X5_closeWeek rfl rfl rfl (by decide +kernel) ⟨Nat.le_of_ble_eq_true rfl, Nat.le_of_ble_eq_true rfl⟩) rfl hl.1 rfl (Nat.le_of_ble_eq_true rfl) dL_law_1052 ⟨(by show 100 + n + 1 ≤ 669044; omega), (by show 700 + 6 * n + 6 ≤ 7088973; omega)⟩ (fun H locs S => ?_)
  refine lv_istore (lv' := [(6, .int bb), (5, .int k), (0, .ref b), (1, .ref (ad 0)), (2, .ref (ad 36)), (3, .ref (ad 59)), (4, .int (nI (5 * n)))]) hx hb dL_law_1055 hl (by decide) rfl (fun ls hl => ?_)
  refine lv_aload_n hx hb dL_law_1057 rfl (lv_at hl 4 rfl) ?_
  refine r_V0 X S (c_X5_thrown l D cA ad _ F2) ob_M rfl (cwV 0 hts gL_law_X5_thrown rfl rfl rfl (by decide +kernel) ⟨Nat.le_of_ble_eq_true rfl, Nat.le_of_ble_eq_true rfl⟩) rfl hl.1 rfl (Nat.le_of_ble_eq_true rfl) dL_law_1058 ⟨(by show 100 + n + 1 ≤ 669044; omega), (by show 700 + 6 * n + 6 ≤ 7088973; omega)⟩ (fun H locs S => ?_)
  rw [show F2 36 0 = k from ek]
  refine lv_iload hx hb dL_law_1061 (lv_at hl 1 rfl) ?_
  refine lv_icmp_eq (tgt := 1068) hx hb dL_law_1063 (by decide) (fun _ => ?_) (fun z => False.elim (z rfl))
  refine lv_iload hx hb dL_law_1068 (lv_at hl 1 rfl) ?_
  refine lv_if_ne (tgt := 1085) hx hb dL_law_1070 (by decide) (fun c_1 => ?_) (fun c_1 => ?_)
  · refine lv_goto (tgt := 1605) hx hb dL_law_1085 (by decide) ?_
    exact kk F2 hR2 H locs ls S (lv_sub hl [2, 3, 4, 5, 6] rfl)
  · refine lv_aload_n hx hb dL_law_1073 rfl (lv_at hl 5 rfl) ?_
    refine lv_iconst (v := 0) hx hb dL_law_1074 (by decide) ?_
    refine r_lal X S dL_law_1075 ?_
    refine lv_iload hx hb dL_law_1076 (lv_at hl 0 rfl) ?_
    refine lv_i2l hx hb dL_law_1078 rfl ?_
    refine W.lcmp hx hb dL_law_1079 ?_
    rw [eo c_1, lgc_self]
    refine lv_if_eq (tgt := 1085) hx hb dL_law_1080 (by decide) (fun _ => ?_) (fun z => False.elim (by first | exact absurd z (by decide) | exact absurd (by decide) z))
    refine lv_goto (tgt := 1605) hx hb dL_law_1085 (by decide) ?_
    exact kk F2 hR2 H locs ls S (lv_sub hl [2, 3, 4, 5, 6] rfl)

set_option maxHeartbeats 2000000 in
set_option maxRecDepth 100000 in
theorem law_case14 {p : Program} {l : Launch} {e : Env} {s : State} {m : MethodId} {below : List Frame} {meth : Method} {c : Code} {D : va_G} {cA : Nat → ClassId} {ad : Nat → Nat} {b L : Nat} {xs : Nat → Int32} {Q : State → Prop} (X : Cx p m c code 7 s #[Value.ref b] wsL_law RL D cA ad meth) (hX : va_X b L xs s s.heap) (hbl : b < s.heap.size) (hbA : ¬ AA ad s.heap.size b) (hL : L ≤ 2560) (hst : l.stackTraces = false) {n : Nat} (h5 : 5 * n + 5 ≤ L) {F : FF} (hR : REL n F) {H : Heap} {locs : List Loc} {ls : Array Slot} (S : St D cA ad F s.heap H locs) (hl : lv_has ls 7 [(0, .ref b), (1, .ref (ad 0)), (2, .ref (ad 36)), (3, .ref (ad 59)), (4, .int (nI (5 * n)))]) (kk : ∀ F2 : FF, REL (n + 1) F2 → ∀ (H : Heap) (locs : List Loc) (ls : Array Slot), St D cA ad F2 s.heap H locs → lv_has ls 7 [(0, .ref b), (1, .ref (ad 0)), (2, .ref (ad 36)), (3, .ref (ad 59)), (4, .int (nI (5 * n)))] → W p l e room_1 s m #[Value.ref b] below meth c H locs (100 + n + 1) (700 + 6 * n + 6) Q (F0 m 1605 ls [])) : W p l e room_1 s m #[Value.ref b] below meth c H locs (100 + n) (700 + 6 * n) Q (F0 m 1088 ls []) := by
  have hn : n < 512 := by omega
  obtain ⟨⟨hx, hb, hml, hown, hts⟩, hE, hI, hlocks⟩ := id X
  refine lv_aload_n hx hb dL_law_1088 rfl (lv_at hl 1 rfl) ?_
  refine r_V0 X S (c_X4_week l D cA ad _ F) ob_0 rfl (cwV 0 hts gL_law_X4_week rfl rfl rfl (by decide +kernel) ⟨Nat.le_of_ble_eq_true rfl, Nat.le_of_ble_eq_true rfl⟩) rfl hl.1 rfl (Nat.le_of_ble_eq_true rfl) dL_law_1089 ⟨(by show 100 + n ≤ 669044; omega), (by show 700 + 6 * n ≤ 7088973; omega)⟩ (fun H locs S => ?_)
  refine lv_aload_n hx hb dL_law_1092 rfl (lv_at hl 2 rfl) ?_
  refine r_V0 X S (c_X5_week l D cA ad _ F) ob_M rfl (cwV 0 hts gL_law_X5_week rfl rfl rfl (by decide +kernel) ⟨Nat.le_of_ble_eq_true rfl, Nat.le_of_ble_eq_true rfl⟩) rfl hl.1 rfl (Nat.le_of_ble_eq_true rfl) dL_law_1093 ⟨(by show 100 + n ≤ 669044; omega), (by show 700 + 6 * n ≤ 7088973; omega)⟩ (fun H locs S => ?_)
  obtain ⟨F_1, eF_1⟩ : ∃ z, z = th F 0 := ⟨_, rfl⟩
  rw [← eF_1] at S
  refine lv_icmp_eq (tgt := 1605) hx hb dL_law_1096 (by decide) (fun _ => ?_) (fun z => False.elim (z (by show F 0 7 = u2 F 36 0 0 36 1; rw [u2_ne _ _ (by omega), hR.2.1.1])))
  refine W.widen (k := 100 + n + 1) (n := 700 + 6 * n + 6) (by omega) (by omega) ?_
  exact kk F_1 (by rw [eF_1]; exact REL_th hR 0) H locs ls S (lv_sub hl [0, 1, 2, 3, 4] rfl)

set_option maxHeartbeats 2000000 in
set_option maxRecDepth 100000 in
theorem law_case15 {p : Program} {l : Launch} {e : Env} {s : State} {m : MethodId} {below : List Frame} {meth : Method} {c : Code} {D : va_G} {cA : Nat → ClassId} {ad : Nat → Nat} {b L : Nat} {xs : Nat → Int32} {Q : State → Prop} (X : Cx p m c code 7 s #[Value.ref b] wsL_law RL D cA ad meth) (hX : va_X b L xs s s.heap) (hbl : b < s.heap.size) (hbA : ¬ AA ad s.heap.size b) (hL : L ≤ 2560) (hst : l.stackTraces = false) {n : Nat} (h5 : 5 * n + 5 ≤ L) {F : FF} (hR : REL n F) {H : Heap} {locs : List Loc} {ls : Array Slot} (S : St D cA ad F s.heap H locs) (hl : lv_has ls 7 [(0, .ref b), (1, .ref (ad 0)), (2, .ref (ad 36)), (3, .ref (ad 59)), (4, .int (nI (5 * n)))]) (kk : ∀ F2 : FF, REL (n + 1) F2 → ∀ (H : Heap) (locs : List Loc) (ls : Array Slot), St D cA ad F2 s.heap H locs → lv_has ls 7 [(0, .ref b), (1, .ref (ad 0)), (2, .ref (ad 36)), (3, .ref (ad 59)), (4, .int (nI (5 * n)))] → W p l e room_1 s m #[Value.ref b] below meth c H locs (100 + n + 1) (700 + 6 * n + 6) Q (F0 m 1605 ls [])) : W p l e room_1 s m #[Value.ref b] below meth c H locs (100 + n) (700 + 6 * n) Q (F0 m 1101 ls []) := by
  have hn : n < 512 := by omega
  obtain ⟨⟨hx, hb, hml, hown, hts⟩, hE, hI, hlocks⟩ := id X
  refine lv_aload_n hx hb dL_law_1101 rfl (lv_at hl 1 rfl) ?_
  refine r_V0 X S (c_X4_term l D cA ad _ F) ob_0 rfl (cwV 0 hts gL_law_X4_term rfl rfl rfl (by decide +kernel) ⟨Nat.le_of_ble_eq_true rfl, Nat.le_of_ble_eq_true rfl⟩) rfl hl.1 rfl (Nat.le_of_ble_eq_true rfl) dL_law_1102 ⟨(by show 100 + n ≤ 669044; omega), (by show 700 + 6 * n ≤ 7088973; omega)⟩ (fun H locs S => ?_)
  refine lv_aload_n hx hb dL_law_1105 rfl (lv_at hl 2 rfl) ?_
  refine r_V0 X S (c_X5_term l D cA ad _ F) ob_M rfl (cwV 0 hts gL_law_X5_term rfl rfl rfl (by decide +kernel) ⟨Nat.le_of_ble_eq_true rfl, Nat.le_of_ble_eq_true rfl⟩) rfl hl.1 rfl (Nat.le_of_ble_eq_true rfl) dL_law_1106 ⟨(by show 100 + n ≤ 669044; omega), (by show 700 + 6 * n ≤ 7088973; omega)⟩ (fun H locs S => ?_)
  obtain ⟨F_1, eF_1⟩ : ∃ z, z = th F 0 := ⟨_, rfl⟩
  rw [← eF_1] at S
  refine lv_icmp_eq (tgt := 1605) hx hb dL_law_1109 (by decide) (fun _ => ?_) (fun z => False.elim (z (by show F 0 8 = u2 F 36 0 0 36 2; rw [u2_ne _ _ (by omega), hR.2.1.2.1])))
  refine W.widen (k := 100 + n + 1) (n := 700 + 6 * n + 6) (by omega) (by omega) ?_
  exact kk F_1 (by rw [eF_1]; exact REL_th hR 0) H locs ls S (lv_sub hl [0, 1, 2, 3, 4] rfl)

set_option maxHeartbeats 2000000 in
set_option maxRecDepth 100000 in
theorem law_case16 {p : Program} {l : Launch} {e : Env} {s : State} {m : MethodId} {below : List Frame} {meth : Method} {c : Code} {D : va_G} {cA : Nat → ClassId} {ad : Nat → Nat} {b L : Nat} {xs : Nat → Int32} {Q : State → Prop} (X : Cx p m c code 7 s #[Value.ref b] wsL_law RL D cA ad meth) (hX : va_X b L xs s s.heap) (hbl : b < s.heap.size) (hbA : ¬ AA ad s.heap.size b) (hL : L ≤ 2560) (hst : l.stackTraces = false) {n : Nat} (h5 : 5 * n + 5 ≤ L) {F : FF} (hR : REL n F) {H : Heap} {locs : List Loc} {ls : Array Slot} (S : St D cA ad F s.heap H locs) (hl : lv_has ls 7 [(0, .ref b), (1, .ref (ad 0)), (2, .ref (ad 36)), (3, .ref (ad 59)), (4, .int (nI (5 * n)))]) (kk : ∀ F2 : FF, REL (n + 1) F2 → ∀ (H : Heap) (locs : List Loc) (ls : Array Slot), St D cA ad F2 s.heap H locs → lv_has ls 7 [(0, .ref b), (1, .ref (ad 0)), (2, .ref (ad 36)), (3, .ref (ad 59)), (4, .int (nI (5 * n)))] → W p l e room_1 s m #[Value.ref b] below meth c H locs (100 + n + 1) (700 + 6 * n + 6) Q (F0 m 1605 ls [])) : W p l e room_1 s m #[Value.ref b] below meth c H locs (100 + n) (700 + 6 * n) Q (F0 m 1114 ls []) := by
  have hn : n < 512 := by omega
  obtain ⟨⟨hx, hb, hml, hown, hts⟩, hE, hI, hlocks⟩ := id X
  refine lv_aload_n hx hb dL_law_1114 rfl (lv_at hl 1 rfl) ?_
  refine lv_aload_n hx hb dL_law_1115 rfl (lv_at hl 0 rfl) ?_
  refine lv_iload hx hb dL_law_1116 (lv_at hl 4 rfl) ?_
  refine lv_iconst (v := 1) hx hb dL_law_1118 (by decide) ?_
  refine lv_iadd hx hb dL_law_1119 ?_
  refine lv_topi (fun x_1 ex_1 => ?_)
  obtain rfl : x_1 = nI ((5 * n) + 1) := ex_1.trans (nI_add (5 * n) 1)
  refine r_sld X S hX hbl hbA hL (q := (5 * n) + 1) rfl (by omega) dL_law_1120 ?_
  refine lv_aload_n hx hb dL_law_1121 rfl (lv_at hl 3 rfl) ?_
  obtain ⟨k, bb, F1, F2, hc, hm, ek, eo, hR2⟩ := op_credits hst hn hR (xs ((5 * n) + 1))
  refine r_SW X S (hc D cA ad _) (vx_cwSW 3 (hh := [(0, 9, 12, 30)]) hts gL_law_L_credits rfl rfl rfl (by decide +kernel) ⟨Nat.le_of_ble_eq_true rfl, Nat.le_of_ble_eq_true rfl⟩) rfl hl.1 rfl (Nat.le_of_ble_eq_true rfl) dL_law_1122 ⟨(by show 100 + n + 1 ≤ 669044; omega), (by show 700 + 6 * n + 6 ≤ 7088973; omega)⟩ (fun H locs S => ?_)
  refine lv_istore (lv' := [(5, .int k), (0, .ref b), (1, .ref (ad 0)), (2, .ref (ad 36)), (3, .ref (ad 59)), (4, .int (nI (5 * n)))]) hx hb dL_law_1125 hl (by decide) rfl (fun ls hl => ?_)
  refine lv_aload_n hx hb dL_law_1127 rfl (lv_at hl 3 rfl) ?_
  refine lv_aload_n hx hb dL_law_1128 rfl (lv_at hl 1 rfl) ?_
  refine lv_iload hx hb dL_law_1129 (lv_at hl 5 rfl) ?_
  refine lv_iconst (v := 1) hx hb dL_law_1131 (by decide) ?_
  refine lv_iadd hx hb dL_law_1132 ?_
  refine lv_topi (fun x_2 ex_2 => ?_)
  obtain rfl : x_2 = nI ((5 * n) + 1) := ex_2.trans (nI_add (5 * n) 1)
  refine r_sld X S hX hbl hbA hL (q := (5 * n) + 1) rfl (by omega) dL_law_1133 ?_
  refine r_V0 X S (hm D cA ad _) ob_M rfl (cwV 1 hts gL_law_X5_credits rfl rfl rfl (by decide +kernel) ⟨Nat.le_of_ble_eq_true rfl, Nat.le_of_ble_eq_true rfl⟩) rfl hl.1 rfl (Nat.le_of_ble_eq_true rfl) dL_law_1134 ⟨(by show 100 + n + 1 ≤ 669044; omega), (by show 700 + 6 * n + 6 ≤ 7088973; omega)⟩ (fun H locs S => ?_)
  refine lv_istore (lv' := [(6, .int bb), (5, .int k), (0, .ref b), (1, .ref (ad 0)), (2, .ref (ad 36)), (3, .ref (ad 59)), (4, .int (nI (5 * n)))]) hx hb dL_law_1137 hl (by decide) rfl (fun ls hl => ?_)
  refine lv_aload_n hx hb dL_law_1139 rfl (lv_at hl 4 rfl) ?_
  refine r_V0 X S (c_X5_thrown l D cA ad _ F2) ob_M rfl (cwV 0 hts gL_law_X5_thrown rfl rfl rfl (by decide +kernel) ⟨Nat.le_of_ble_eq_true rfl, Nat.le_of_ble_eq_true rfl⟩) rfl hl.1 rfl (Nat.le_of_ble_eq_true rfl) dL_law_1140 ⟨(by show 100 + n + 1 ≤ 669044; omega), (by show 700 + 6 * n + 6 ≤ 7088973; omega)⟩ (fun H locs S => ?_)
  rw [show F2 36 0 = k from ek]
  refine lv_iload hx hb dL_law_1143 (lv_at hl 1 rfl) ?_
  refine lv_icmp_eq (tgt := 1150) hx hb dL_law_1145 (by decide) (fun _ => ?_) (fun z => False.elim (z rfl))
  refine lv_iload hx hb dL_law_1150 (lv_at hl 1 rfl) ?_
  refine lv_if_ne (tgt := 1167) hx hb dL_law_1152 (by decide) (fun c_3 => ?_) (fun c_3 => ?_)
  · refine lv_goto (tgt := 1605) hx hb dL_law_1167 (by decide) ?_
    exact kk F2 hR2 H locs ls S (lv_sub hl [2, 3, 4, 5, 6] rfl)
  · refine lv_aload_n hx hb dL_law_1155 rfl (lv_at hl 5 rfl) ?_
    refine lv_iconst (v := 0) hx hb dL_law_1156 (by decide) ?_
    refine r_lal X S dL_law_1157 ?_
    refine lv_iload hx hb dL_law_1158 (lv_at hl 0 rfl) ?_
    refine lv_i2l hx hb dL_law_1160 rfl ?_
    refine W.lcmp hx hb dL_law_1161 ?_
    rw [eo c_3, lgc_self]
    refine lv_if_eq (tgt := 1167) hx hb dL_law_1162 (by decide) (fun _ => ?_) (fun z => False.elim (by first | exact absurd z (by decide) | exact absurd (by decide) z))
    refine lv_goto (tgt := 1605) hx hb dL_law_1167 (by decide) ?_
    exact kk F2 hR2 H locs ls S (lv_sub hl [2, 3, 4, 5, 6] rfl)

set_option maxHeartbeats 2000000 in
set_option maxRecDepth 100000 in
theorem law_case17 {p : Program} {l : Launch} {e : Env} {s : State} {m : MethodId} {below : List Frame} {meth : Method} {c : Code} {D : va_G} {cA : Nat → ClassId} {ad : Nat → Nat} {b L : Nat} {xs : Nat → Int32} {Q : State → Prop} (X : Cx p m c code 7 s #[Value.ref b] wsL_law RL D cA ad meth) (hX : va_X b L xs s s.heap) (hbl : b < s.heap.size) (hbA : ¬ AA ad s.heap.size b) (hL : L ≤ 2560) (hst : l.stackTraces = false) {n : Nat} (h5 : 5 * n + 5 ≤ L) {F : FF} (hR : REL n F) {H : Heap} {locs : List Loc} {ls : Array Slot} (S : St D cA ad F s.heap H locs) (hl : lv_has ls 7 [(0, .ref b), (1, .ref (ad 0)), (2, .ref (ad 36)), (3, .ref (ad 59)), (4, .int (nI (5 * n)))]) (kk : ∀ F2 : FF, REL (n + 1) F2 → ∀ (H : Heap) (locs : List Loc) (ls : Array Slot), St D cA ad F2 s.heap H locs → lv_has ls 7 [(0, .ref b), (1, .ref (ad 0)), (2, .ref (ad 36)), (3, .ref (ad 59)), (4, .int (nI (5 * n)))] → W p l e room_1 s m #[Value.ref b] below meth c H locs (100 + n + 1) (700 + 6 * n + 6) Q (F0 m 1605 ls [])) : W p l e room_1 s m #[Value.ref b] below meth c H locs (100 + n) (700 + 6 * n) Q (F0 m 1170 ls []) := by
  have hn : n < 512 := by omega
  obtain ⟨⟨hx, hb, hml, hown, hts⟩, hE, hI, hlocks⟩ := id X
  refine lv_aload_n hx hb dL_law_1170 rfl (lv_at hl 1 rfl) ?_
  refine lv_aload_n hx hb dL_law_1171 rfl (lv_at hl 0 rfl) ?_
  refine lv_iload hx hb dL_law_1172 (lv_at hl 4 rfl) ?_
  refine lv_iconst (v := 1) hx hb dL_law_1174 (by decide) ?_
  refine lv_iadd hx hb dL_law_1175 ?_
  refine lv_topi (fun x_1 ex_1 => ?_)
  obtain rfl : x_1 = nI ((5 * n) + 1) := ex_1.trans (nI_add (5 * n) 1)
  refine r_sld X S hX hbl hbA hL (q := (5 * n) + 1) rfl (by omega) dL_law_1176 ?_
  refine lv_aload_n hx hb dL_law_1177 rfl (lv_at hl 0 rfl) ?_
  refine lv_iload hx hb dL_law_1178 (lv_at hl 4 rfl) ?_
  refine lv_iconst (v := 2) hx hb dL_law_1180 (by decide) ?_
  refine lv_iadd hx hb dL_law_1181 ?_
  refine lv_topi (fun x_2 ex_2 => ?_)
  obtain rfl : x_2 = nI ((5 * n) + 2) := ex_2.trans (nI_add (5 * n) 2)
  refine r_sld X S hX hbl hbA hL (q := (5 * n) + 2) rfl (by omega) dL_law_1182 ?_
  refine lv_aload_n hx hb dL_law_1183 rfl (lv_at hl 3 rfl) ?_
  obtain ⟨k, bb, F1, F2, hc, hm, ek, eo, hR2⟩ := op_charged hst hn hR (xs ((5 * n) + 1)) (xs ((5 * n) + 2))
  refine r_SW X S (hc D cA ad _) (vx_cwSW 4 (hh := [(0, 10, 13, 30), (0, 10, 17, 13)]) hts gL_law_L_charged rfl rfl rfl (by decide +kernel) ⟨Nat.le_of_ble_eq_true rfl, Nat.le_of_ble_eq_true rfl⟩) rfl hl.1 rfl (Nat.le_of_ble_eq_true rfl) dL_law_1184 ⟨(by show 100 + n + 1 ≤ 669044; omega), (by show 700 + 6 * n + 6 ≤ 7088973; omega)⟩ (fun H locs S => ?_)
  refine lv_istore (lv' := [(5, .int k), (0, .ref b), (1, .ref (ad 0)), (2, .ref (ad 36)), (3, .ref (ad 59)), (4, .int (nI (5 * n)))]) hx hb dL_law_1187 hl (by decide) rfl (fun ls hl => ?_)
  refine lv_aload_n hx hb dL_law_1189 rfl (lv_at hl 3 rfl) ?_
  refine lv_aload_n hx hb dL_law_1190 rfl (lv_at hl 1 rfl) ?_
  refine lv_iload hx hb dL_law_1191 (lv_at hl 5 rfl) ?_
  refine lv_iconst (v := 1) hx hb dL_law_1193 (by decide) ?_
  refine lv_iadd hx hb dL_law_1194 ?_
  refine lv_topi (fun x_3 ex_3 => ?_)
  obtain rfl : x_3 = nI ((5 * n) + 1) := ex_3.trans (nI_add (5 * n) 1)
  refine r_sld X S hX hbl hbA hL (q := (5 * n) + 1) rfl (by omega) dL_law_1195 ?_
  refine lv_aload_n hx hb dL_law_1196 rfl (lv_at hl 1 rfl) ?_
  refine lv_iload hx hb dL_law_1197 (lv_at hl 5 rfl) ?_
  refine lv_iconst (v := 2) hx hb dL_law_1199 (by decide) ?_
  refine lv_iadd hx hb dL_law_1200 ?_
  refine lv_topi (fun x_4 ex_4 => ?_)
  obtain rfl : x_4 = nI ((5 * n) + 2) := ex_4.trans (nI_add (5 * n) 2)
  refine r_sld X S hX hbl hbA hL (q := (5 * n) + 2) rfl (by omega) dL_law_1201 ?_
  refine r_V0 X S (hm D cA ad _) ob_M rfl (cwV 2 hts gL_law_X5_charged rfl rfl rfl (by decide +kernel) ⟨Nat.le_of_ble_eq_true rfl, Nat.le_of_ble_eq_true rfl⟩) rfl hl.1 rfl (Nat.le_of_ble_eq_true rfl) dL_law_1202 ⟨(by show 100 + n + 1 ≤ 669044; omega), (by show 700 + 6 * n + 6 ≤ 7088973; omega)⟩ (fun H locs S => ?_)
  refine lv_istore (lv' := [(6, .int bb), (5, .int k), (0, .ref b), (1, .ref (ad 0)), (2, .ref (ad 36)), (3, .ref (ad 59)), (4, .int (nI (5 * n)))]) hx hb dL_law_1205 hl (by decide) rfl (fun ls hl => ?_)
  refine lv_aload_n hx hb dL_law_1207 rfl (lv_at hl 4 rfl) ?_
  refine r_V0 X S (c_X5_thrown l D cA ad _ F2) ob_M rfl (cwV 0 hts gL_law_X5_thrown rfl rfl rfl (by decide +kernel) ⟨Nat.le_of_ble_eq_true rfl, Nat.le_of_ble_eq_true rfl⟩) rfl hl.1 rfl (Nat.le_of_ble_eq_true rfl) dL_law_1208 ⟨(by show 100 + n + 1 ≤ 669044; omega), (by show 700 + 6 * n + 6 ≤ 7088973; omega)⟩ (fun H locs S => ?_)
  rw [show F2 36 0 = k from ek]
  refine lv_iload hx hb dL_law_1211 (lv_at hl 1 rfl) ?_
  refine lv_icmp_eq (tgt := 1218) hx hb dL_law_1213 (by decide) (fun _ => ?_) (fun z => False.elim (z rfl))
  refine lv_iload hx hb dL_law_1218 (lv_at hl 1 rfl) ?_
  refine lv_if_ne (tgt := 1235) hx hb dL_law_1220 (by decide) (fun c_5 => ?_) (fun c_5 => ?_)
  · refine lv_goto (tgt := 1605) hx hb dL_law_1235 (by decide) ?_
    exact kk F2 hR2 H locs ls S (lv_sub hl [2, 3, 4, 5, 6] rfl)
  · refine lv_aload_n hx hb dL_law_1223 rfl (lv_at hl 5 rfl) ?_
    refine lv_iconst (v := 0) hx hb dL_law_1224 (by decide) ?_
    refine r_lal X S dL_law_1225 ?_
    refine lv_iload hx hb dL_law_1226 (lv_at hl 0 rfl) ?_
    refine lv_i2l hx hb dL_law_1228 rfl ?_
    refine W.lcmp hx hb dL_law_1229 ?_
    rw [eo c_5, lgc_self]
    refine lv_if_eq (tgt := 1235) hx hb dL_law_1230 (by decide) (fun _ => ?_) (fun z => False.elim (by first | exact absurd z (by decide) | exact absurd (by decide) z))
    refine lv_goto (tgt := 1605) hx hb dL_law_1235 (by decide) ?_
    exact kk F2 hR2 H locs ls S (lv_sub hl [2, 3, 4, 5, 6] rfl)

set_option maxHeartbeats 2000000 in
set_option maxRecDepth 100000 in
theorem law_case18 {p : Program} {l : Launch} {e : Env} {s : State} {m : MethodId} {below : List Frame} {meth : Method} {c : Code} {D : va_G} {cA : Nat → ClassId} {ad : Nat → Nat} {b L : Nat} {xs : Nat → Int32} {Q : State → Prop} (X : Cx p m c code 7 s #[Value.ref b] wsL_law RL D cA ad meth) (hX : va_X b L xs s s.heap) (hbl : b < s.heap.size) (hbA : ¬ AA ad s.heap.size b) (hL : L ≤ 2560) (hst : l.stackTraces = false) {n : Nat} (h5 : 5 * n + 5 ≤ L) {F : FF} (hR : REL n F) {H : Heap} {locs : List Loc} {ls : Array Slot} (S : St D cA ad F s.heap H locs) (hl : lv_has ls 7 [(0, .ref b), (1, .ref (ad 0)), (2, .ref (ad 36)), (3, .ref (ad 59)), (4, .int (nI (5 * n)))]) (kk : ∀ F2 : FF, REL (n + 1) F2 → ∀ (H : Heap) (locs : List Loc) (ls : Array Slot), St D cA ad F2 s.heap H locs → lv_has ls 7 [(0, .ref b), (1, .ref (ad 0)), (2, .ref (ad 36)), (3, .ref (ad 59)), (4, .int (nI (5 * n)))] → W p l e room_1 s m #[Value.ref b] below meth c H locs (100 + n + 1) (700 + 6 * n + 6) Q (F0 m 1605 ls [])) : W p l e room_1 s m #[Value.ref b] below meth c H locs (100 + n) (700 + 6 * n) Q (F0 m 1238 ls []) := by
  have hn : n < 512 := by omega
  obtain ⟨⟨hx, hb, hml, hown, hts⟩, hE, hI, hlocks⟩ := id X
  refine lv_aload_n hx hb dL_law_1238 rfl (lv_at hl 1 rfl) ?_
  refine lv_aload_n hx hb dL_law_1239 rfl (lv_at hl 0 rfl) ?_
  refine lv_iload hx hb dL_law_1240 (lv_at hl 4 rfl) ?_
  refine lv_iconst (v := 1) hx hb dL_law_1242 (by decide) ?_
  refine lv_iadd hx hb dL_law_1243 ?_
  refine lv_topi (fun x_1 ex_1 => ?_)
  obtain rfl : x_1 = nI ((5 * n) + 1) := ex_1.trans (nI_add (5 * n) 1)
  refine r_sld X S hX hbl hbA hL (q := (5 * n) + 1) rfl (by omega) dL_law_1244 ?_
  refine lv_aload_n hx hb dL_law_1245 rfl (lv_at hl 3 rfl) ?_
  obtain ⟨k, bb, F1, F2, hc, hm, ek, eo, hR2⟩ := op_sponsored hst hn hR (xs ((5 * n) + 1))
  refine r_SW X S (hc D cA ad _) (vx_cwSW 3 (hh := [(0, 9, 12, 30)]) hts gL_law_L_sponsored rfl rfl rfl (by decide +kernel) ⟨Nat.le_of_ble_eq_true rfl, Nat.le_of_ble_eq_true rfl⟩) rfl hl.1 rfl (Nat.le_of_ble_eq_true rfl) dL_law_1246 ⟨(by show 100 + n + 1 ≤ 669044; omega), (by show 700 + 6 * n + 6 ≤ 7088973; omega)⟩ (fun H locs S => ?_)
  refine lv_istore (lv' := [(5, .int k), (0, .ref b), (1, .ref (ad 0)), (2, .ref (ad 36)), (3, .ref (ad 59)), (4, .int (nI (5 * n)))]) hx hb dL_law_1249 hl (by decide) rfl (fun ls hl => ?_)
  refine lv_aload_n hx hb dL_law_1251 rfl (lv_at hl 3 rfl) ?_
  refine lv_aload_n hx hb dL_law_1252 rfl (lv_at hl 1 rfl) ?_
  refine lv_iload hx hb dL_law_1253 (lv_at hl 5 rfl) ?_
  refine lv_iconst (v := 1) hx hb dL_law_1255 (by decide) ?_
  refine lv_iadd hx hb dL_law_1256 ?_
  refine lv_topi (fun x_2 ex_2 => ?_)
  obtain rfl : x_2 = nI ((5 * n) + 1) := ex_2.trans (nI_add (5 * n) 1)
  refine r_sld X S hX hbl hbA hL (q := (5 * n) + 1) rfl (by omega) dL_law_1257 ?_
  refine r_V0 X S (hm D cA ad _) ob_M rfl (cwV 1 hts gL_law_X5_sponsored rfl rfl rfl (by decide +kernel) ⟨Nat.le_of_ble_eq_true rfl, Nat.le_of_ble_eq_true rfl⟩) rfl hl.1 rfl (Nat.le_of_ble_eq_true rfl) dL_law_1258 ⟨(by show 100 + n + 1 ≤ 669044; omega), (by show 700 + 6 * n + 6 ≤ 7088973; omega)⟩ (fun H locs S => ?_)
  refine lv_istore (lv' := [(6, .int bb), (5, .int k), (0, .ref b), (1, .ref (ad 0)), (2, .ref (ad 36)), (3, .ref (ad 59)), (4, .int (nI (5 * n)))]) hx hb dL_law_1261 hl (by decide) rfl (fun ls hl => ?_)
  refine lv_aload_n hx hb dL_law_1263 rfl (lv_at hl 4 rfl) ?_
  refine r_V0 X S (c_X5_thrown l D cA ad _ F2) ob_M rfl (cwV 0 hts gL_law_X5_thrown rfl rfl rfl (by decide +kernel) ⟨Nat.le_of_ble_eq_true rfl, Nat.le_of_ble_eq_true rfl⟩) rfl hl.1 rfl (Nat.le_of_ble_eq_true rfl) dL_law_1264 ⟨(by show 100 + n + 1 ≤ 669044; omega), (by show 700 + 6 * n + 6 ≤ 7088973; omega)⟩ (fun H locs S => ?_)
  rw [show F2 36 0 = k from ek]
  refine lv_iload hx hb dL_law_1267 (lv_at hl 1 rfl) ?_
  refine lv_icmp_eq (tgt := 1274) hx hb dL_law_1269 (by decide) (fun _ => ?_) (fun z => False.elim (z rfl))
  refine lv_iload hx hb dL_law_1274 (lv_at hl 1 rfl) ?_
  refine lv_if_ne (tgt := 1291) hx hb dL_law_1276 (by decide) (fun c_3 => ?_) (fun c_3 => ?_)
  · refine lv_goto (tgt := 1605) hx hb dL_law_1291 (by decide) ?_
    exact kk F2 hR2 H locs ls S (lv_sub hl [2, 3, 4, 5, 6] rfl)
  · refine lv_aload_n hx hb dL_law_1279 rfl (lv_at hl 5 rfl) ?_
    refine lv_iconst (v := 0) hx hb dL_law_1280 (by decide) ?_
    refine r_lal X S dL_law_1281 ?_
    refine lv_iload hx hb dL_law_1282 (lv_at hl 0 rfl) ?_
    refine lv_i2l hx hb dL_law_1284 rfl ?_
    refine W.lcmp hx hb dL_law_1285 ?_
    rw [eo c_3, lgc_self]
    refine lv_if_eq (tgt := 1291) hx hb dL_law_1286 (by decide) (fun _ => ?_) (fun z => False.elim (by first | exact absurd z (by decide) | exact absurd (by decide) z))
    refine lv_goto (tgt := 1605) hx hb dL_law_1291 (by decide) ?_
    exact kk F2 hR2 H locs ls S (lv_sub hl [2, 3, 4, 5, 6] rfl)

set_option maxHeartbeats 2000000 in
set_option maxRecDepth 100000 in
theorem law_case19 {p : Program} {l : Launch} {e : Env} {s : State} {m : MethodId} {below : List Frame} {meth : Method} {c : Code} {D : va_G} {cA : Nat → ClassId} {ad : Nat → Nat} {b L : Nat} {xs : Nat → Int32} {Q : State → Prop} (X : Cx p m c code 7 s #[Value.ref b] wsL_law RL D cA ad meth) (hX : va_X b L xs s s.heap) (hbl : b < s.heap.size) (hbA : ¬ AA ad s.heap.size b) (hL : L ≤ 2560) (hst : l.stackTraces = false) {n : Nat} (h5 : 5 * n + 5 ≤ L) {F : FF} (hR : REL n F) {H : Heap} {locs : List Loc} {ls : Array Slot} (S : St D cA ad F s.heap H locs) (hl : lv_has ls 7 [(0, .ref b), (1, .ref (ad 0)), (2, .ref (ad 36)), (3, .ref (ad 59)), (4, .int (nI (5 * n)))]) (kk : ∀ F2 : FF, REL (n + 1) F2 → ∀ (H : Heap) (locs : List Loc) (ls : Array Slot), St D cA ad F2 s.heap H locs → lv_has ls 7 [(0, .ref b), (1, .ref (ad 0)), (2, .ref (ad 36)), (3, .ref (ad 59)), (4, .int (nI (5 * n)))] → W p l e room_1 s m #[Value.ref b] below meth c H locs (100 + n + 1) (700 + 6 * n + 6) Q (F0 m 1605 ls [])) : W p l e room_1 s m #[Value.ref b] below meth c H locs (100 + n) (700 + 6 * n) Q (F0 m 1294 ls []) := by
  have hn : n < 512 := by omega
  obtain ⟨⟨hx, hb, hml, hown, hts⟩, hE, hI, hlocks⟩ := id X
  refine lv_aload_n hx hb dL_law_1294 rfl (lv_at hl 1 rfl) ?_
  refine lv_aload_n hx hb dL_law_1295 rfl (lv_at hl 0 rfl) ?_
  refine lv_iload hx hb dL_law_1296 (lv_at hl 4 rfl) ?_
  refine lv_iconst (v := 1) hx hb dL_law_1298 (by decide) ?_
  refine lv_iadd hx hb dL_law_1299 ?_
  refine lv_topi (fun x_1 ex_1 => ?_)
  obtain rfl : x_1 = nI ((5 * n) + 1) := ex_1.trans (nI_add (5 * n) 1)
  refine r_sld X S hX hbl hbA hL (q := (5 * n) + 1) rfl (by omega) dL_law_1300 ?_
  refine lv_aload_n hx hb dL_law_1301 rfl (lv_at hl 0 rfl) ?_
  refine lv_iload hx hb dL_law_1302 (lv_at hl 4 rfl) ?_
  refine lv_iconst (v := 2) hx hb dL_law_1304 (by decide) ?_
  refine lv_iadd hx hb dL_law_1305 ?_
  refine lv_topi (fun x_2 ex_2 => ?_)
  obtain rfl : x_2 = nI ((5 * n) + 2) := ex_2.trans (nI_add (5 * n) 2)
  refine r_sld X S hX hbl hbA hL (q := (5 * n) + 2) rfl (by omega) dL_law_1306 ?_
  refine lv_aload_n hx hb dL_law_1307 rfl (lv_at hl 3 rfl) ?_
  obtain ⟨k, bb, F1, F2, hc, hm, ek, eo, hR2⟩ := op_used hst hn hR (xs ((5 * n) + 1)) (xs ((5 * n) + 2))
  refine r_SW X S (hc D cA ad _) (vx_cwSW 4 (hh := [(0, 10, 13, 30)]) hts gL_law_L_used rfl rfl rfl (by decide +kernel) ⟨Nat.le_of_ble_eq_true rfl, Nat.le_of_ble_eq_true rfl⟩) rfl hl.1 rfl (Nat.le_of_ble_eq_true rfl) dL_law_1308 ⟨(by show 100 + n + 1 ≤ 669044; omega), (by show 700 + 6 * n + 6 ≤ 7088973; omega)⟩ (fun H locs S => ?_)
  refine lv_istore (lv' := [(5, .int k), (0, .ref b), (1, .ref (ad 0)), (2, .ref (ad 36)), (3, .ref (ad 59)), (4, .int (nI (5 * n)))]) hx hb dL_law_1311 hl (by decide) rfl (fun ls hl => ?_)
  refine lv_aload_n hx hb dL_law_1313 rfl (lv_at hl 3 rfl) ?_
  refine lv_aload_n hx hb dL_law_1314 rfl (lv_at hl 1 rfl) ?_
  refine lv_iload hx hb dL_law_1315 (lv_at hl 5 rfl) ?_
  refine lv_iconst (v := 1) hx hb dL_law_1317 (by decide) ?_
  refine lv_iadd hx hb dL_law_1318 ?_
  refine lv_topi (fun x_3 ex_3 => ?_)
  obtain rfl : x_3 = nI ((5 * n) + 1) := ex_3.trans (nI_add (5 * n) 1)
  refine r_sld X S hX hbl hbA hL (q := (5 * n) + 1) rfl (by omega) dL_law_1319 ?_
  refine lv_aload_n hx hb dL_law_1320 rfl (lv_at hl 1 rfl) ?_
  refine lv_iload hx hb dL_law_1321 (lv_at hl 5 rfl) ?_
  refine lv_iconst (v := 2) hx hb dL_law_1323 (by decide) ?_
  refine lv_iadd hx hb dL_law_1324 ?_
  refine lv_topi (fun x_4 ex_4 => ?_)
  obtain rfl : x_4 = nI ((5 * n) + 2) := ex_4.trans (nI_add (5 * n) 2)
  refine r_sld X S hX hbl hbA hL (q := (5 * n) + 2) rfl (by omega) dL_law_1325 ?_
  refine r_V0 X S (hm D cA ad _) ob_M rfl (cwV 2 hts gL_law_X5_used rfl rfl rfl (by decide +kernel) ⟨Nat.le_of_ble_eq_true rfl, Nat.le_of_ble_eq_true rfl⟩) rfl hl.1 rfl (Nat.le_of_ble_eq_true rfl) dL_law_1326 ⟨(by show 100 + n + 1 ≤ 669044; omega), (by show 700 + 6 * n + 6 ≤ 7088973; omega)⟩ (fun H locs S => ?_)
  refine lv_istore (lv' := [(6, .int bb), (5, .int k), (0, .ref b), (1, .ref (ad 0)), (2, .ref (ad 36)), (3, .ref (ad 59)), (4, .int (nI (5 * n)))]) hx hb dL_law_1329 hl (by decide) rfl (fun ls hl => ?_)
  refine lv_aload_n hx hb dL_law_1331 rfl (lv_at hl 4 rfl) ?_
  refine r_V0 X S (c_X5_thrown l D cA ad _ F2) ob_M rfl (cwV 0 hts gL_law_X5_thrown rfl rfl rfl (by decide +kernel) ⟨Nat.le_of_ble_eq_true rfl, Nat.le_of_ble_eq_true rfl⟩) rfl hl.1 rfl (Nat.le_of_ble_eq_true rfl) dL_law_1332 ⟨(by show 100 + n + 1 ≤ 669044; omega), (by show 700 + 6 * n + 6 ≤ 7088973; omega)⟩ (fun H locs S => ?_)
  rw [show F2 36 0 = k from ek]
  refine lv_iload hx hb dL_law_1335 (lv_at hl 1 rfl) ?_
  refine lv_icmp_eq (tgt := 1342) hx hb dL_law_1337 (by decide) (fun _ => ?_) (fun z => False.elim (z rfl))
  refine lv_iload hx hb dL_law_1342 (lv_at hl 1 rfl) ?_
  refine lv_if_ne (tgt := 1359) hx hb dL_law_1344 (by decide) (fun c_5 => ?_) (fun c_5 => ?_)
  · refine lv_goto (tgt := 1605) hx hb dL_law_1359 (by decide) ?_
    exact kk F2 hR2 H locs ls S (lv_sub hl [2, 3, 4, 5, 6] rfl)
  · refine lv_aload_n hx hb dL_law_1347 rfl (lv_at hl 5 rfl) ?_
    refine lv_iconst (v := 0) hx hb dL_law_1348 (by decide) ?_
    refine r_lal X S dL_law_1349 ?_
    refine lv_iload hx hb dL_law_1350 (lv_at hl 0 rfl) ?_
    refine lv_i2l hx hb dL_law_1352 rfl ?_
    refine W.lcmp hx hb dL_law_1353 ?_
    rw [eo c_5, lgc_self]
    refine lv_if_eq (tgt := 1359) hx hb dL_law_1354 (by decide) (fun _ => ?_) (fun z => False.elim (by first | exact absurd z (by decide) | exact absurd (by decide) z))
    refine lv_goto (tgt := 1605) hx hb dL_law_1359 (by decide) ?_
    exact kk F2 hR2 H locs ls S (lv_sub hl [2, 3, 4, 5, 6] rfl)

set_option maxHeartbeats 2000000 in
set_option maxRecDepth 100000 in
theorem law_case20 {p : Program} {l : Launch} {e : Env} {s : State} {m : MethodId} {below : List Frame} {meth : Method} {c : Code} {D : va_G} {cA : Nat → ClassId} {ad : Nat → Nat} {b L : Nat} {xs : Nat → Int32} {Q : State → Prop} (X : Cx p m c code 7 s #[Value.ref b] wsL_law RL D cA ad meth) (hX : va_X b L xs s s.heap) (hbl : b < s.heap.size) (hbA : ¬ AA ad s.heap.size b) (hL : L ≤ 2560) (hst : l.stackTraces = false) {n : Nat} (h5 : 5 * n + 5 ≤ L) {F : FF} (hR : REL n F) {H : Heap} {locs : List Loc} {ls : Array Slot} (S : St D cA ad F s.heap H locs) (hl : lv_has ls 7 [(0, .ref b), (1, .ref (ad 0)), (2, .ref (ad 36)), (3, .ref (ad 59)), (4, .int (nI (5 * n)))]) (kk : ∀ F2 : FF, REL (n + 1) F2 → ∀ (H : Heap) (locs : List Loc) (ls : Array Slot), St D cA ad F2 s.heap H locs → lv_has ls 7 [(0, .ref b), (1, .ref (ad 0)), (2, .ref (ad 36)), (3, .ref (ad 59)), (4, .int (nI (5 * n)))] → W p l e room_1 s m #[Value.ref b] below meth c H locs (100 + n + 1) (700 + 6 * n + 6) Q (F0 m 1605 ls [])) : W p l e room_1 s m #[Value.ref b] below meth c H locs (100 + n) (700 + 6 * n) Q (F0 m 1362 ls []) := by
  have hn : n < 512 := by omega
  obtain ⟨⟨hx, hb, hml, hown, hts⟩, hE, hI, hlocks⟩ := id X
  refine lv_aload_n hx hb dL_law_1362 rfl (lv_at hl 1 rfl) ?_
  refine lv_aload_n hx hb dL_law_1363 rfl (lv_at hl 0 rfl) ?_
  refine lv_iload hx hb dL_law_1364 (lv_at hl 4 rfl) ?_
  refine lv_iconst (v := 1) hx hb dL_law_1366 (by decide) ?_
  refine lv_iadd hx hb dL_law_1367 ?_
  refine lv_topi (fun x_1 ex_1 => ?_)
  obtain rfl : x_1 = nI ((5 * n) + 1) := ex_1.trans (nI_add (5 * n) 1)
  refine r_sld X S hX hbl hbA hL (q := (5 * n) + 1) rfl (by omega) dL_law_1368 ?_
  refine lv_aload_n hx hb dL_law_1369 rfl (lv_at hl 0 rfl) ?_
  refine lv_iload hx hb dL_law_1370 (lv_at hl 4 rfl) ?_
  refine lv_iconst (v := 2) hx hb dL_law_1372 (by decide) ?_
  refine lv_iadd hx hb dL_law_1373 ?_
  refine lv_topi (fun x_2 ex_2 => ?_)
  obtain rfl : x_2 = nI ((5 * n) + 2) := ex_2.trans (nI_add (5 * n) 2)
  refine r_sld X S hX hbl hbA hL (q := (5 * n) + 2) rfl (by omega) dL_law_1374 ?_
  refine lv_aload_n hx hb dL_law_1375 rfl (lv_at hl 3 rfl) ?_
  obtain ⟨k, bb, F1, F2, hc, hm, ek, eo, hR2⟩ := op_amountOf hst hn hR (xs ((5 * n) + 1)) (xs ((5 * n) + 2))
  refine r_SW X S (hc D cA ad _) (vx_cwSW 4 (hh := [(0, 10, 13, 30)]) hts gL_law_L_amountOf rfl rfl rfl (by decide +kernel) ⟨Nat.le_of_ble_eq_true rfl, Nat.le_of_ble_eq_true rfl⟩) rfl hl.1 rfl (Nat.le_of_ble_eq_true rfl) dL_law_1376 ⟨(by show 100 + n + 1 ≤ 669044; omega), (by show 700 + 6 * n + 6 ≤ 7088973; omega)⟩ (fun H locs S => ?_)
  refine lv_istore (lv' := [(5, .int k), (0, .ref b), (1, .ref (ad 0)), (2, .ref (ad 36)), (3, .ref (ad 59)), (4, .int (nI (5 * n)))]) hx hb dL_law_1379 hl (by decide) rfl (fun ls hl => ?_)
  refine lv_aload_n hx hb dL_law_1381 rfl (lv_at hl 3 rfl) ?_
  refine lv_aload_n hx hb dL_law_1382 rfl (lv_at hl 1 rfl) ?_
  refine lv_iload hx hb dL_law_1383 (lv_at hl 5 rfl) ?_
  refine lv_iconst (v := 1) hx hb dL_law_1385 (by decide) ?_
  refine lv_iadd hx hb dL_law_1386 ?_
  refine lv_topi (fun x_3 ex_3 => ?_)
  obtain rfl : x_3 = nI ((5 * n) + 1) := ex_3.trans (nI_add (5 * n) 1)
  refine r_sld X S hX hbl hbA hL (q := (5 * n) + 1) rfl (by omega) dL_law_1387 ?_
  refine lv_aload_n hx hb dL_law_1388 rfl (lv_at hl 1 rfl) ?_
  refine lv_iload hx hb dL_law_1389 (lv_at hl 5 rfl) ?_
  refine lv_iconst (v := 2) hx hb dL_law_1391 (by decide) ?_
  refine lv_iadd hx hb dL_law_1392 ?_
  refine lv_topi (fun x_4 ex_4 => ?_)
  obtain rfl : x_4 = nI ((5 * n) + 2) := ex_4.trans (nI_add (5 * n) 2)
  refine r_sld X S hX hbl hbA hL (q := (5 * n) + 2) rfl (by omega) dL_law_1393 ?_
  refine r_V0 X S (hm D cA ad _) ob_M rfl (cwV 2 hts gL_law_X5_amountOf rfl rfl rfl (by decide +kernel) ⟨Nat.le_of_ble_eq_true rfl, Nat.le_of_ble_eq_true rfl⟩) rfl hl.1 rfl (Nat.le_of_ble_eq_true rfl) dL_law_1394 ⟨(by show 100 + n + 1 ≤ 669044; omega), (by show 700 + 6 * n + 6 ≤ 7088973; omega)⟩ (fun H locs S => ?_)
  refine lv_istore (lv' := [(6, .int bb), (5, .int k), (0, .ref b), (1, .ref (ad 0)), (2, .ref (ad 36)), (3, .ref (ad 59)), (4, .int (nI (5 * n)))]) hx hb dL_law_1397 hl (by decide) rfl (fun ls hl => ?_)
  refine lv_aload_n hx hb dL_law_1399 rfl (lv_at hl 4 rfl) ?_
  refine r_V0 X S (c_X5_thrown l D cA ad _ F2) ob_M rfl (cwV 0 hts gL_law_X5_thrown rfl rfl rfl (by decide +kernel) ⟨Nat.le_of_ble_eq_true rfl, Nat.le_of_ble_eq_true rfl⟩) rfl hl.1 rfl (Nat.le_of_ble_eq_true rfl) dL_law_1400 ⟨(by show 100 + n + 1 ≤ 669044; omega), (by show 700 + 6 * n + 6 ≤ 7088973; omega)⟩ (fun H locs S => ?_)
  rw [show F2 36 0 = k from ek]
  refine lv_iload hx hb dL_law_1403 (lv_at hl 1 rfl) ?_
  refine lv_icmp_eq (tgt := 1410) hx hb dL_law_1405 (by decide) (fun _ => ?_) (fun z => False.elim (z rfl))
  refine lv_iload hx hb dL_law_1410 (lv_at hl 1 rfl) ?_
  refine lv_if_ne (tgt := 1427) hx hb dL_law_1412 (by decide) (fun c_5 => ?_) (fun c_5 => ?_)
  · refine lv_goto (tgt := 1605) hx hb dL_law_1427 (by decide) ?_
    exact kk F2 hR2 H locs ls S (lv_sub hl [2, 3, 4, 5, 6] rfl)
  · refine lv_aload_n hx hb dL_law_1415 rfl (lv_at hl 5 rfl) ?_
    refine lv_iconst (v := 0) hx hb dL_law_1416 (by decide) ?_
    refine r_lal X S dL_law_1417 ?_
    refine lv_iload hx hb dL_law_1418 (lv_at hl 0 rfl) ?_
    refine lv_i2l hx hb dL_law_1420 rfl ?_
    refine W.lcmp hx hb dL_law_1421 ?_
    rw [eo c_5, lgc_self]
    refine lv_if_eq (tgt := 1427) hx hb dL_law_1422 (by decide) (fun _ => ?_) (fun z => False.elim (by first | exact absurd z (by decide) | exact absurd (by decide) z))
    refine lv_goto (tgt := 1605) hx hb dL_law_1427 (by decide) ?_
    exact kk F2 hR2 H locs ls S (lv_sub hl [2, 3, 4, 5, 6] rfl)

set_option maxHeartbeats 2000000 in
set_option maxRecDepth 100000 in
theorem law_case21 {p : Program} {l : Launch} {e : Env} {s : State} {m : MethodId} {below : List Frame} {meth : Method} {c : Code} {D : va_G} {cA : Nat → ClassId} {ad : Nat → Nat} {b L : Nat} {xs : Nat → Int32} {Q : State → Prop} (X : Cx p m c code 7 s #[Value.ref b] wsL_law RL D cA ad meth) (hX : va_X b L xs s s.heap) (hbl : b < s.heap.size) (hbA : ¬ AA ad s.heap.size b) (hL : L ≤ 2560) (hst : l.stackTraces = false) {n : Nat} (h5 : 5 * n + 5 ≤ L) {F : FF} (hR : REL n F) {H : Heap} {locs : List Loc} {ls : Array Slot} (S : St D cA ad F s.heap H locs) (hl : lv_has ls 7 [(0, .ref b), (1, .ref (ad 0)), (2, .ref (ad 36)), (3, .ref (ad 59)), (4, .int (nI (5 * n)))]) (kk : ∀ F2 : FF, REL (n + 1) F2 → ∀ (H : Heap) (locs : List Loc) (ls : Array Slot), St D cA ad F2 s.heap H locs → lv_has ls 7 [(0, .ref b), (1, .ref (ad 0)), (2, .ref (ad 36)), (3, .ref (ad 59)), (4, .int (nI (5 * n)))] → W p l e room_1 s m #[Value.ref b] below meth c H locs (100 + n + 1) (700 + 6 * n + 6) Q (F0 m 1605 ls [])) : W p l e room_1 s m #[Value.ref b] below meth c H locs (100 + n) (700 + 6 * n) Q (F0 m 1430 ls []) := by
  have hn : n < 512 := by omega
  obtain ⟨⟨hx, hb, hml, hown, hts⟩, hE, hI, hlocks⟩ := id X
  refine lv_aload_n hx hb dL_law_1430 rfl (lv_at hl 1 rfl) ?_
  refine lv_aload_n hx hb dL_law_1431 rfl (lv_at hl 0 rfl) ?_
  refine lv_iload hx hb dL_law_1432 (lv_at hl 4 rfl) ?_
  refine lv_iconst (v := 1) hx hb dL_law_1434 (by decide) ?_
  refine lv_iadd hx hb dL_law_1435 ?_
  refine lv_topi (fun x_1 ex_1 => ?_)
  obtain rfl : x_1 = nI ((5 * n) + 1) := ex_1.trans (nI_add (5 * n) 1)
  refine r_sld X S hX hbl hbA hL (q := (5 * n) + 1) rfl (by omega) dL_law_1436 ?_
  refine lv_aload_n hx hb dL_law_1437 rfl (lv_at hl 3 rfl) ?_
  obtain ⟨k, bb, F1, F2, hc, hm, ek, eo, hR2⟩ := op_paid hst hn hR (xs ((5 * n) + 1))
  refine r_SW X S (hc D cA ad _) (vx_cwSW 3 (hh := [(0, 9, 12, 30)]) hts gL_law_L_paid rfl rfl rfl (by decide +kernel) ⟨Nat.le_of_ble_eq_true rfl, Nat.le_of_ble_eq_true rfl⟩) rfl hl.1 rfl (Nat.le_of_ble_eq_true rfl) dL_law_1438 ⟨(by show 100 + n + 1 ≤ 669044; omega), (by show 700 + 6 * n + 6 ≤ 7088973; omega)⟩ (fun H locs S => ?_)
  refine lv_istore (lv' := [(5, .int k), (0, .ref b), (1, .ref (ad 0)), (2, .ref (ad 36)), (3, .ref (ad 59)), (4, .int (nI (5 * n)))]) hx hb dL_law_1441 hl (by decide) rfl (fun ls hl => ?_)
  refine lv_aload_n hx hb dL_law_1443 rfl (lv_at hl 3 rfl) ?_
  refine lv_aload_n hx hb dL_law_1444 rfl (lv_at hl 1 rfl) ?_
  refine lv_iload hx hb dL_law_1445 (lv_at hl 5 rfl) ?_
  refine lv_iconst (v := 1) hx hb dL_law_1447 (by decide) ?_
  refine lv_iadd hx hb dL_law_1448 ?_
  refine lv_topi (fun x_2 ex_2 => ?_)
  obtain rfl : x_2 = nI ((5 * n) + 1) := ex_2.trans (nI_add (5 * n) 1)
  refine r_sld X S hX hbl hbA hL (q := (5 * n) + 1) rfl (by omega) dL_law_1449 ?_
  refine r_V0 X S (hm D cA ad _) ob_M rfl (cwV 1 hts gL_law_X5_paid rfl rfl rfl (by decide +kernel) ⟨Nat.le_of_ble_eq_true rfl, Nat.le_of_ble_eq_true rfl⟩) rfl hl.1 rfl (Nat.le_of_ble_eq_true rfl) dL_law_1450 ⟨(by show 100 + n + 1 ≤ 669044; omega), (by show 700 + 6 * n + 6 ≤ 7088973; omega)⟩ (fun H locs S => ?_)
  refine lv_istore (lv' := [(6, .int bb), (5, .int k), (0, .ref b), (1, .ref (ad 0)), (2, .ref (ad 36)), (3, .ref (ad 59)), (4, .int (nI (5 * n)))]) hx hb dL_law_1453 hl (by decide) rfl (fun ls hl => ?_)
  refine lv_aload_n hx hb dL_law_1455 rfl (lv_at hl 4 rfl) ?_
  refine r_V0 X S (c_X5_thrown l D cA ad _ F2) ob_M rfl (cwV 0 hts gL_law_X5_thrown rfl rfl rfl (by decide +kernel) ⟨Nat.le_of_ble_eq_true rfl, Nat.le_of_ble_eq_true rfl⟩) rfl hl.1 rfl (Nat.le_of_ble_eq_true rfl) dL_law_1456 ⟨(by show 100 + n + 1 ≤ 669044; omega), (by show 700 + 6 * n + 6 ≤ 7088973; omega)⟩ (fun H locs S => ?_)
  rw [show F2 36 0 = k from ek]
  refine lv_iload hx hb dL_law_1459 (lv_at hl 1 rfl) ?_
  refine lv_icmp_eq (tgt := 1466) hx hb dL_law_1461 (by decide) (fun _ => ?_) (fun z => False.elim (z rfl))
  refine lv_iload hx hb dL_law_1466 (lv_at hl 1 rfl) ?_
  refine lv_if_ne (tgt := 1483) hx hb dL_law_1468 (by decide) (fun c_3 => ?_) (fun c_3 => ?_)
  · refine lv_goto (tgt := 1605) hx hb dL_law_1483 (by decide) ?_
    exact kk F2 hR2 H locs ls S (lv_sub hl [2, 3, 4, 5, 6] rfl)
  · refine lv_aload_n hx hb dL_law_1471 rfl (lv_at hl 5 rfl) ?_
    refine lv_iconst (v := 0) hx hb dL_law_1472 (by decide) ?_
    refine r_lal X S dL_law_1473 ?_
    refine lv_iload hx hb dL_law_1474 (lv_at hl 0 rfl) ?_
    refine lv_i2l hx hb dL_law_1476 rfl ?_
    refine W.lcmp hx hb dL_law_1477 ?_
    rw [eo c_3, lgc_self]
    refine lv_if_eq (tgt := 1483) hx hb dL_law_1478 (by decide) (fun _ => ?_) (fun z => False.elim (by first | exact absurd z (by decide) | exact absurd (by decide) z))
    refine lv_goto (tgt := 1605) hx hb dL_law_1483 (by decide) ?_
    exact kk F2 hR2 H locs ls S (lv_sub hl [2, 3, 4, 5, 6] rfl)

set_option maxHeartbeats 2000000 in
set_option maxRecDepth 100000 in
theorem law_case22 {p : Program} {l : Launch} {e : Env} {s : State} {m : MethodId} {below : List Frame} {meth : Method} {c : Code} {D : va_G} {cA : Nat → ClassId} {ad : Nat → Nat} {b L : Nat} {xs : Nat → Int32} {Q : State → Prop} (X : Cx p m c code 7 s #[Value.ref b] wsL_law RL D cA ad meth) (hX : va_X b L xs s s.heap) (hbl : b < s.heap.size) (hbA : ¬ AA ad s.heap.size b) (hL : L ≤ 2560) (hst : l.stackTraces = false) {n : Nat} (h5 : 5 * n + 5 ≤ L) {F : FF} (hR : REL n F) {H : Heap} {locs : List Loc} {ls : Array Slot} (S : St D cA ad F s.heap H locs) (hl : lv_has ls 7 [(0, .ref b), (1, .ref (ad 0)), (2, .ref (ad 36)), (3, .ref (ad 59)), (4, .int (nI (5 * n)))]) (kk : ∀ F2 : FF, REL (n + 1) F2 → ∀ (H : Heap) (locs : List Loc) (ls : Array Slot), St D cA ad F2 s.heap H locs → lv_has ls 7 [(0, .ref b), (1, .ref (ad 0)), (2, .ref (ad 36)), (3, .ref (ad 59)), (4, .int (nI (5 * n)))] → W p l e room_1 s m #[Value.ref b] below meth c H locs (100 + n + 1) (700 + 6 * n + 6) Q (F0 m 1605 ls [])) : W p l e room_1 s m #[Value.ref b] below meth c H locs (100 + n) (700 + 6 * n) Q (F0 m 1486 ls []) := by
  have hn : n < 512 := by omega
  obtain ⟨⟨hx, hb, hml, hown, hts⟩, hE, hI, hlocks⟩ := id X
  refine lv_aload_n hx hb dL_law_1486 rfl (lv_at hl 1 rfl) ?_
  refine lv_aload_n hx hb dL_law_1487 rfl (lv_at hl 0 rfl) ?_
  refine lv_iload hx hb dL_law_1488 (lv_at hl 4 rfl) ?_
  refine lv_iconst (v := 1) hx hb dL_law_1490 (by decide) ?_
  refine lv_iadd hx hb dL_law_1491 ?_
  refine lv_topi (fun x_1 ex_1 => ?_)
  obtain rfl : x_1 = nI ((5 * n) + 1) := ex_1.trans (nI_add (5 * n) 1)
  refine r_sld X S hX hbl hbA hL (q := (5 * n) + 1) rfl (by omega) dL_law_1492 ?_
  refine lv_aload_n hx hb dL_law_1493 rfl (lv_at hl 3 rfl) ?_
  obtain ⟨k, bb, F1, F2, hc, hm, ek, eo, hR2⟩ := op_owed hst hn hR (xs ((5 * n) + 1))
  refine r_SW X S (hc D cA ad _) (vx_cwSW 3 (hh := [(0, 9, 12, 30)]) hts gL_law_L_owed rfl rfl rfl (by decide +kernel) ⟨Nat.le_of_ble_eq_true rfl, Nat.le_of_ble_eq_true rfl⟩) rfl hl.1 rfl (Nat.le_of_ble_eq_true rfl) dL_law_1494 ⟨(by show 100 + n + 1 ≤ 669044; omega), (by show 700 + 6 * n + 6 ≤ 7088973; omega)⟩ (fun H locs S => ?_)
  refine lv_istore (lv' := [(5, .int k), (0, .ref b), (1, .ref (ad 0)), (2, .ref (ad 36)), (3, .ref (ad 59)), (4, .int (nI (5 * n)))]) hx hb dL_law_1497 hl (by decide) rfl (fun ls hl => ?_)
  refine lv_aload_n hx hb dL_law_1499 rfl (lv_at hl 3 rfl) ?_
  refine lv_aload_n hx hb dL_law_1500 rfl (lv_at hl 1 rfl) ?_
  refine lv_iload hx hb dL_law_1501 (lv_at hl 5 rfl) ?_
  refine lv_iconst (v := 1) hx hb dL_law_1503 (by decide) ?_
  refine lv_iadd hx hb dL_law_1504 ?_
  refine lv_topi (fun x_2 ex_2 => ?_)
  obtain rfl : x_2 = nI ((5 * n) + 1) := ex_2.trans (nI_add (5 * n) 1)
  refine r_sld X S hX hbl hbA hL (q := (5 * n) + 1) rfl (by omega) dL_law_1505 ?_
  refine r_V0 X S (hm D cA ad _) ob_M rfl (cwV 1 hts gL_law_X5_owed rfl rfl rfl (by decide +kernel) ⟨Nat.le_of_ble_eq_true rfl, Nat.le_of_ble_eq_true rfl⟩) rfl hl.1 rfl (Nat.le_of_ble_eq_true rfl) dL_law_1506 ⟨(by show 100 + n + 1 ≤ 669044; omega), (by show 700 + 6 * n + 6 ≤ 7088973; omega)⟩ (fun H locs S => ?_)
  refine lv_istore (lv' := [(6, .int bb), (5, .int k), (0, .ref b), (1, .ref (ad 0)), (2, .ref (ad 36)), (3, .ref (ad 59)), (4, .int (nI (5 * n)))]) hx hb dL_law_1509 hl (by decide) rfl (fun ls hl => ?_)
  refine lv_aload_n hx hb dL_law_1511 rfl (lv_at hl 4 rfl) ?_
  refine r_V0 X S (c_X5_thrown l D cA ad _ F2) ob_M rfl (cwV 0 hts gL_law_X5_thrown rfl rfl rfl (by decide +kernel) ⟨Nat.le_of_ble_eq_true rfl, Nat.le_of_ble_eq_true rfl⟩) rfl hl.1 rfl (Nat.le_of_ble_eq_true rfl) dL_law_1512 ⟨(by show 100 + n + 1 ≤ 669044; omega), (by show 700 + 6 * n + 6 ≤ 7088973; omega)⟩ (fun H locs S => ?_)
  rw [show F2 36 0 = k from ek]
  refine lv_iload hx hb dL_law_1515 (lv_at hl 1 rfl) ?_
  refine lv_icmp_eq (tgt := 1522) hx hb dL_law_1517 (by decide) (fun _ => ?_) (fun z => False.elim (z rfl))
  refine lv_iload hx hb dL_law_1522 (lv_at hl 1 rfl) ?_
  refine lv_if_ne (tgt := 1539) hx hb dL_law_1524 (by decide) (fun c_3 => ?_) (fun c_3 => ?_)
  · refine lv_goto (tgt := 1605) hx hb dL_law_1539 (by decide) ?_
    exact kk F2 hR2 H locs ls S (lv_sub hl [2, 3, 4, 5, 6] rfl)
  · refine lv_aload_n hx hb dL_law_1527 rfl (lv_at hl 5 rfl) ?_
    refine lv_iconst (v := 0) hx hb dL_law_1528 (by decide) ?_
    refine r_lal X S dL_law_1529 ?_
    refine lv_iload hx hb dL_law_1530 (lv_at hl 0 rfl) ?_
    refine lv_i2l hx hb dL_law_1532 rfl ?_
    refine W.lcmp hx hb dL_law_1533 ?_
    rw [eo c_3, lgc_self]
    refine lv_if_eq (tgt := 1539) hx hb dL_law_1534 (by decide) (fun _ => ?_) (fun z => False.elim (by first | exact absurd z (by decide) | exact absurd (by decide) z))
    refine lv_goto (tgt := 1605) hx hb dL_law_1539 (by decide) ?_
    exact kk F2 hR2 H locs ls S (lv_sub hl [2, 3, 4, 5, 6] rfl)

set_option maxHeartbeats 2000000 in
set_option maxRecDepth 100000 in
theorem law_case23 {p : Program} {l : Launch} {e : Env} {s : State} {m : MethodId} {below : List Frame} {meth : Method} {c : Code} {D : va_G} {cA : Nat → ClassId} {ad : Nat → Nat} {b L : Nat} {xs : Nat → Int32} {Q : State → Prop} (X : Cx p m c code 7 s #[Value.ref b] wsL_law RL D cA ad meth) (hX : va_X b L xs s s.heap) (hbl : b < s.heap.size) (hbA : ¬ AA ad s.heap.size b) (hL : L ≤ 2560) (hst : l.stackTraces = false) {n : Nat} (h5 : 5 * n + 5 ≤ L) {F : FF} (hR : REL n F) {H : Heap} {locs : List Loc} {ls : Array Slot} (S : St D cA ad F s.heap H locs) (hl : lv_has ls 7 [(0, .ref b), (1, .ref (ad 0)), (2, .ref (ad 36)), (3, .ref (ad 59)), (4, .int (nI (5 * n)))]) (kk : ∀ F2 : FF, REL (n + 1) F2 → ∀ (H : Heap) (locs : List Loc) (ls : Array Slot), St D cA ad F2 s.heap H locs → lv_has ls 7 [(0, .ref b), (1, .ref (ad 0)), (2, .ref (ad 36)), (3, .ref (ad 59)), (4, .int (nI (5 * n)))] → W p l e room_1 s m #[Value.ref b] below meth c H locs (100 + n + 1) (700 + 6 * n + 6) Q (F0 m 1605 ls [])) : W p l e room_1 s m #[Value.ref b] below meth c H locs (100 + n) (700 + 6 * n) Q (F0 m 1542 ls []) := by
  have hn : n < 512 := by omega
  obtain ⟨⟨hx, hb, hml, hown, hts⟩, hE, hI, hlocks⟩ := id X
  refine lv_aload_n hx hb dL_law_1542 rfl (lv_at hl 1 rfl) ?_
  refine lv_aload_n hx hb dL_law_1543 rfl (lv_at hl 0 rfl) ?_
  refine lv_iload hx hb dL_law_1544 (lv_at hl 4 rfl) ?_
  refine lv_iconst (v := 1) hx hb dL_law_1546 (by decide) ?_
  refine lv_iadd hx hb dL_law_1547 ?_
  refine lv_topi (fun x_1 ex_1 => ?_)
  obtain rfl : x_1 = nI ((5 * n) + 1) := ex_1.trans (nI_add (5 * n) 1)
  refine r_sld X S hX hbl hbA hL (q := (5 * n) + 1) rfl (by omega) dL_law_1548 ?_
  refine lv_aload_n hx hb dL_law_1549 rfl (lv_at hl 3 rfl) ?_
  obtain ⟨k, bb, F1, F2, hb01, hc, hm, ek, eo, hR2⟩ := op_hasHold hst hn hR (xs ((5 * n) + 1))
  refine r_SW X S (hc D cA ad _) (vx_cwSW 3 (hh := [(0, 16, 19, 30)]) hts gL_law_L_hasHold rfl rfl rfl (by decide +kernel) ⟨Nat.le_of_ble_eq_true rfl, Nat.le_of_ble_eq_true rfl⟩) rfl hl.1 rfl (Nat.le_of_ble_eq_true rfl) dL_law_1550 ⟨(by show 100 + n + 1 ≤ 669044; omega), (by show 700 + 6 * n + 6 ≤ 7088973; omega)⟩ (fun H locs S => ?_)
  refine lv_istore (lv' := [(5, .int k), (0, .ref b), (1, .ref (ad 0)), (2, .ref (ad 36)), (3, .ref (ad 59)), (4, .int (nI (5 * n)))]) hx hb dL_law_1553 hl (by decide) rfl (fun ls hl => ?_)
  refine lv_aload_n hx hb dL_law_1555 rfl (lv_at hl 3 rfl) ?_
  refine lv_aload_n hx hb dL_law_1556 rfl (lv_at hl 1 rfl) ?_
  refine lv_iload hx hb dL_law_1557 (lv_at hl 5 rfl) ?_
  refine lv_iconst (v := 1) hx hb dL_law_1559 (by decide) ?_
  refine lv_iadd hx hb dL_law_1560 ?_
  refine lv_topi (fun x_2 ex_2 => ?_)
  obtain rfl : x_2 = nI ((5 * n) + 1) := ex_2.trans (nI_add (5 * n) 1)
  refine r_sld X S hX hbl hbA hL (q := (5 * n) + 1) rfl (by omega) dL_law_1561 ?_
  refine r_V0 X S (hm D cA ad _) ob_M rfl (cwV 1 hts gL_law_X5_hasHold rfl rfl rfl (by decide +kernel) ⟨Nat.le_of_ble_eq_true rfl, Nat.le_of_ble_eq_true rfl⟩) rfl hl.1 rfl (Nat.le_of_ble_eq_true rfl) dL_law_1562 ⟨(by show 100 + n + 1 ≤ 669044; omega), (by show 700 + 6 * n + 6 ≤ 7088973; omega)⟩ (fun H locs S => ?_)
  refine lv_istore (lv' := [(6, .int bb), (5, .int k), (0, .ref b), (1, .ref (ad 0)), (2, .ref (ad 36)), (3, .ref (ad 59)), (4, .int (nI (5 * n)))]) hx hb dL_law_1565 hl (by decide) rfl (fun ls hl => ?_)
  refine lv_aload_n hx hb dL_law_1567 rfl (lv_at hl 4 rfl) ?_
  refine r_V0 X S (c_X5_thrown l D cA ad _ F2) ob_M rfl (cwV 0 hts gL_law_X5_thrown rfl rfl rfl (by decide +kernel) ⟨Nat.le_of_ble_eq_true rfl, Nat.le_of_ble_eq_true rfl⟩) rfl hl.1 rfl (Nat.le_of_ble_eq_true rfl) dL_law_1568 ⟨(by show 100 + n + 1 ≤ 669044; omega), (by show 700 + 6 * n + 6 ≤ 7088973; omega)⟩ (fun H locs S => ?_)
  rw [show F2 36 0 = k from ek]
  refine lv_iload hx hb dL_law_1571 (lv_at hl 1 rfl) ?_
  refine lv_icmp_eq (tgt := 1578) hx hb dL_law_1573 (by decide) (fun _ => ?_) (fun z => False.elim (z rfl))
  refine lv_iload hx hb dL_law_1578 (lv_at hl 1 rfl) ?_
  refine lv_if_ne (tgt := 1602) hx hb dL_law_1580 (by decide) (fun c_3 => ?_) (fun c_3 => ?_)
  · refine lv_goto (tgt := 1605) hx hb dL_law_1602 (by decide) ?_
    exact kk F2 hR2 H locs ls S (lv_sub hl [2, 3, 4, 5, 6] rfl)
  · refine lv_aload_n hx hb dL_law_1583 rfl (lv_at hl 5 rfl) ?_
    refine lv_iconst (v := 0) hx hb dL_law_1584 (by decide) ?_
    refine r_lal X S dL_law_1585 ?_
    refine lv_iload hx hb dL_law_1586 (lv_at hl 0 rfl) ?_
    refine lv_if_eq (tgt := 1595) hx hb dL_law_1588 (by decide) (fun c_4 => ?_) (fun c_4 => ?_)
    · refine lv_lconst (v := 0) hx hb dL_law_1595 (by decide) ?_
      refine W.lcmp hx hb dL_law_1596 ?_
      rw [eo c_3, show bb = 0 from c_4, show Int32.toInt64 0 = 0 from by decide, lgc_self]
      refine lv_if_eq (tgt := 1602) hx hb dL_law_1597 (by decide) (fun _ => ?_) (fun z => False.elim (by first | exact absurd z (by decide) | exact absurd (by decide) z))
      refine lv_goto (tgt := 1605) hx hb dL_law_1602 (by decide) ?_
      exact kk F2 hR2 H locs ls S (lv_sub hl [2, 3, 4, 5, 6] rfl)
    · refine lv_lconst (v := 1) hx hb dL_law_1591 (by decide) ?_
      refine lv_goto (tgt := 1596) hx hb dL_law_1592 (by decide) ?_
      refine W.lcmp hx hb dL_law_1596 ?_
      rw [eo c_3, show bb = 1 from hb01.resolve_left c_4, show Int32.toInt64 1 = 1 from by decide, lgc_self]
      refine lv_if_eq (tgt := 1602) hx hb dL_law_1597 (by decide) (fun _ => ?_) (fun z => False.elim (by first | exact absurd z (by decide) | exact absurd (by decide) z))
      refine lv_goto (tgt := 1605) hx hb dL_law_1602 (by decide) ?_
      exact kk F2 hR2 H locs ls S (lv_sub hl [2, 3, 4, 5, 6] rfl)
