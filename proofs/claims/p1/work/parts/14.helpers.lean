set_option maxRecDepth 100000 in
set_option maxHeartbeats 4000000 in
theorem c_h_holiday (l : Launch) (hl9 : l.stackTraces = false) (D : va_G) (a1 a2 sz : Nat) (h0 h1 h2 : Nat) (g gn gb : Nat → Nat) (p1 p2 : Int32) (o : Nat) : vx_Met l yL_holiday (Cond.codeWith yL_holiday cL_holiday 5 (some .int) [(0, 10, 13, 19), (0, 10, 17, 13)] :: WS) ({ frames := 16, cells := 1, slots := 6, locals := 500 }) (va_Pc [.ref h0, .int p1, .int p2, .ref o] (pre D a1 a2 [(h0, .inr (11, [.ref h1, .ref h2, .ref (g 2), .ref (g 3), .ref (g 4), .ref (g 5), .ref (g 6), .int 0, .int 0, .int 0, .int 0])), (h1, .inr (6, [.ref (gn 0), .int 0, .ref (gn 2), .ref (gn 3), .int 0, .ref (gn 5), .int 0, .int 0])), (h2, .inr (1, [.ref h1, .ref (gb 1), .int 0]))] [] sz)) (va_Qi (S := Unit) (fun r _ => r = 1) (fun _ _ => True) (va_A [(h0, .inr (11, [.ref h1, .ref h2, .ref (g 2), .ref (g 3), .ref (g 4), .ref (g 5), .ref (g 6), .int 0, .int 0, .int 0, .int 0])), (h1, .inr (6, [.ref (gn 0), .int 0, .ref (gn 2), .ref (gn 3), .int 0, .ref (gn 5), .int 0, .int 0])), (h2, .inr (1, [.ref h1, .ref (gb 1), .int 0]))] sz)) (vx_X (fun _ : Unit => False) (fun _ _ _ => True) (va_A [(h0, .inr (11, [.ref h1, .ref h2, .ref (g 2), .ref (g 3), .ref (g 4), .ref (g 5), .ref (g 6), .int 0, .int 0, .int 0, .int 0])), (h1, .inr (6, [.ref (gn 0), .int 0, .ref (gn 2), .ref (gn 3), .int 0, .ref (gn 5), .int 0, .int 0])), (h2, .inr (1, [.ref h1, .ref (gb 1), .int 0]))] sz)) 1 6 (va_A [(h0, .inr (11, [.ref h1, .ref h2, .ref (g 2), .ref (g 3), .ref (g 4), .ref (g 5), .ref (g 6), .int 0, .int 0, .int 0, .int 0])), (h1, .inr (6, [.ref (gn 0), .int 0, .ref (gn 2), .ref (gn 3), .int 0, .ref (gn 5), .int 0, .int 0])), (h2, .inr (1, [.ref h1, .ref (gb 1), .int 0]))] sz) := by
  refine open_H (by decide +kernel) (Nat.le_of_ble_eq_true rfl) (fun A => va_Qi (S := Unit) (fun r _ => r = 1) (fun _ _ => True) A) (fun A => vx_X (fun _ : Unit => False) (fun _ _ _ => True) A) ?_
  intro p e s m below meth c A ls hG
  obtain ⟨⟨hx, hb, hr, hml, hown, hts, hlocks, hin, hP, hK, hD, hA, hE, hS, hl⟩, hno⟩ := hG
  have hown : s.vm.findClass RL = some m.cls := hown
  have hl : lv_has ls 5 [(0, .ref h0), (1, .int p1), (2, .int p2), (3, .ref o)] := hl
  refine lv_aload_n hx hb dL_holiday_0 rfl (lv_at hl 3 rfl) ?_
  refine lv_iconst (v := 0) hx hb dL_holiday_1 (by decide) ?_
  refine lv_aload_n hx hb dL_holiday_2 rfl (lv_at hl 0 rfl) ?_
  refine lv_iload_n hx hb dL_holiday_3 rfl (lv_at hl 1 rfl) ?_
  refine lv_iload_n hx hb dL_holiday_4 rfl (lv_at hl 2 rfl) ?_
  have f_1 := free_of (wc := [(h0, .inr (11, [.ref h1, .ref h2, .ref (g 2), .ref (g 3), .ref (g 4), .ref (g 5), .ref (g 6), .int 0, .int 0, .int 0, .int 0])), (h1, .inr (6, [.ref (gn 0), .int 0, .ref (gn 2), .ref (gn 3), .int 0, .ref (gn 5), .int 0, .int 0])), (h2, .inr (1, [.ref h1, .ref (gb 1), .int 0]))]) hD hS hA [0, 1, 2] rfl
  refine never (vx_runV (As := [.int p1, .int p2]) (rest := [.int 0, .ref o]) ⟨hx, hb, hml, hown, hts⟩ (c_x_holiday l hl9 D a1 a2 s.heap.size h0 h1 h2 g gn gb p1 p2) (cwV 2 hts (gV w_41 w_42 w_43 w_8 w_44) rfl rfl rfl (by decide +kernel) ⟨Nat.le_of_ble_eq_true rfl, Nat.le_of_ble_eq_true rfl⟩) (pre_V hK hP hD hS hA hE [0, 1, 2] rfl (by decide) rfl [] rfl (ci := 11) (q0 := 0) rfl rfl) rfl rfl hl.1 rfl (lv_room (Nat.le_of_ble_eq_true rfl)) dL_holiday_5 ⟨Nat.le_of_ble_eq_true rfl, Nat.le_of_ble_eq_true rfl⟩) (fun _ _ _ h => h) hS f_1 (fun q _ h => f_1 q h) (fun E ce q9 u9 t H locs ht hvm hw hB hz1 hk1 hS hce hcv hcl => ?_)
  subst hB
  refine vx_catch (own := RL) (name := "java/util/NoSuchElementException") (E := "java/util/NoSuchElementException") hown [] ⟨0, 10, 13, 19⟩ [⟨0, 10, 17, 13⟩] (by rw [hno]; rfl) (fun z hz => nomatch hz) (by decide) (by decide) (hts (.classLink RL 19 "java/util/NoSuchElementException") w_45) (va_Nw.use rfl hE.1.2.1.1) hce hcv hcl ?_
  refine W.eq (g2 := F0 m 13 ls [.ref q9]) rfl ?_
  refine lv_astore (lv' := [(4, .ref q9), (0, .ref h0), (1, .int p1), (2, .int p2), (3, .ref o)]) hx hb dL_holiday_13 hl (by decide) rfl (fun ls hl => ?_)
  refine lv_iconst (v := 1) hx hb dL_holiday_15 (by decide) ?_
  refine W.widen (k := 1) (n := 6) (Nat.le_of_ble_eq_true rfl) (Nat.le_of_ble_eq_true rfl) ?_
  refine vx_ret ?_
  exact W.iret (v := 1) hx hb hr (fun t ht hW => ⟨⟨1, (), rfl, rfl, trivial⟩, hS.F ht⟩) hS.2.2 dL_holiday_16
set_option maxRecDepth 100000 in
set_option maxHeartbeats 4000000 in
theorem c_h_bank (l : Launch) (hl9 : l.stackTraces = false) (D : va_G) (a1 a2 sz : Nat) (h0 h1 h2 : Nat) (g gn gb : Nat → Nat) (p1 : Int32) (o : Nat) : vx_Met l yL_bank (Cond.codeWith yL_bank cL_bank 4 (some .int) [(0, 9, 12, 19)] :: WS) ({ frames := 16, cells := 1, slots := 6, locals := 500 }) (va_Pc [.ref h0, .int p1, .ref o] (pre D a1 a2 [(h0, .inr (11, [.ref h1, .ref h2, .ref (g 2), .ref (g 3), .ref (g 4), .ref (g 5), .ref (g 6), .int 0, .int 0, .int 0, .int 0])), (h1, .inr (6, [.ref (gn 0), .int 0, .ref (gn 2), .ref (gn 3), .int 0, .ref (gn 5), .int 0, .int 0])), (h2, .inr (1, [.ref h1, .ref (gb 1), .int 0]))] [] sz)) (va_Qi (S := Unit) (fun r _ => r = 1) (fun _ _ => True) (va_A [(h0, .inr (11, [.ref h1, .ref h2, .ref (g 2), .ref (g 3), .ref (g 4), .ref (g 5), .ref (g 6), .int 0, .int 0, .int 0, .int 0])), (h1, .inr (6, [.ref (gn 0), .int 0, .ref (gn 2), .ref (gn 3), .int 0, .ref (gn 5), .int 0, .int 0])), (h2, .inr (1, [.ref h1, .ref (gb 1), .int 0]))] sz)) (vx_X (fun _ : Unit => False) (fun _ _ _ => True) (va_A [(h0, .inr (11, [.ref h1, .ref h2, .ref (g 2), .ref (g 3), .ref (g 4), .ref (g 5), .ref (g 6), .int 0, .int 0, .int 0, .int 0])), (h1, .inr (6, [.ref (gn 0), .int 0, .ref (gn 2), .ref (gn 3), .int 0, .ref (gn 5), .int 0, .int 0])), (h2, .inr (1, [.ref h1, .ref (gb 1), .int 0]))] sz)) 1 6 (va_A [(h0, .inr (11, [.ref h1, .ref h2, .ref (g 2), .ref (g 3), .ref (g 4), .ref (g 5), .ref (g 6), .int 0, .int 0, .int 0, .int 0])), (h1, .inr (6, [.ref (gn 0), .int 0, .ref (gn 2), .ref (gn 3), .int 0, .ref (gn 5), .int 0, .int 0])), (h2, .inr (1, [.ref h1, .ref (gb 1), .int 0]))] sz) := by
  refine open_H (by decide +kernel) (Nat.le_of_ble_eq_true rfl) (fun A => va_Qi (S := Unit) (fun r _ => r = 1) (fun _ _ => True) A) (fun A => vx_X (fun _ : Unit => False) (fun _ _ _ => True) A) ?_
  intro p e s m below meth c A ls hG
  obtain ⟨⟨hx, hb, hr, hml, hown, hts, hlocks, hin, hP, hK, hD, hA, hE, hS, hl⟩, hno⟩ := hG
  have hown : s.vm.findClass RL = some m.cls := hown
  have hl : lv_has ls 4 [(0, .ref h0), (1, .int p1), (2, .ref o)] := hl
  refine lv_aload_n hx hb dL_bank_0 rfl (lv_at hl 2 rfl) ?_
  refine lv_iconst (v := 0) hx hb dL_bank_1 (by decide) ?_
  refine lv_aload_n hx hb dL_bank_2 rfl (lv_at hl 0 rfl) ?_
  refine lv_iload_n hx hb dL_bank_3 rfl (lv_at hl 1 rfl) ?_
  have f_1 := free_of (wc := [(h0, .inr (11, [.ref h1, .ref h2, .ref (g 2), .ref (g 3), .ref (g 4), .ref (g 5), .ref (g 6), .int 0, .int 0, .int 0, .int 0])), (h1, .inr (6, [.ref (gn 0), .int 0, .ref (gn 2), .ref (gn 3), .int 0, .ref (gn 5), .int 0, .int 0])), (h2, .inr (1, [.ref h1, .ref (gb 1), .int 0]))]) hD hS hA [0, 1, 2] rfl
  refine never (vx_runV (As := [.int p1]) (rest := [.int 0, .ref o]) ⟨hx, hb, hml, hown, hts⟩ (c_x_bank l hl9 D a1 a2 s.heap.size h0 h1 h2 g gn gb p1) (cwV 1 hts (gV w_46 w_47 w_48 w_8 w_49) rfl rfl rfl (by decide +kernel) ⟨Nat.le_of_ble_eq_true rfl, Nat.le_of_ble_eq_true rfl⟩) (pre_V hK hP hD hS hA hE [0, 1, 2] rfl (by decide) rfl [] rfl (ci := 11) (q0 := 0) rfl rfl) rfl rfl hl.1 rfl (lv_room (Nat.le_of_ble_eq_true rfl)) dL_bank_4 ⟨Nat.le_of_ble_eq_true rfl, Nat.le_of_ble_eq_true rfl⟩) (fun _ _ _ h => h) hS f_1 (fun q _ h => f_1 q h) (fun E ce q9 u9 t H locs ht hvm hw hB hz1 hk1 hS hce hcv hcl => ?_)
  subst hB
  refine vx_catch (own := RL) (name := "java/util/NoSuchElementException") (E := "java/util/NoSuchElementException") hown [] ⟨0, 9, 12, 19⟩ [] (by rw [hno]; rfl) (fun z hz => nomatch hz) (by decide) (by decide) (hts (.classLink RL 19 "java/util/NoSuchElementException") w_45) (va_Nw.use rfl hE.1.2.1.1) hce hcv hcl ?_
  refine W.eq (g2 := F0 m 12 ls [.ref q9]) rfl ?_
  refine lv_astore_n (lv' := [(3, .ref q9), (0, .ref h0), (1, .int p1), (2, .ref o)]) hx hb dL_bank_12 rfl hl (by decide) rfl (fun ls hl => ?_)
  refine lv_iconst (v := 1) hx hb dL_bank_13 (by decide) ?_
  refine W.widen (k := 1) (n := 6) (Nat.le_of_ble_eq_true rfl) (Nat.le_of_ble_eq_true rfl) ?_
  refine vx_ret ?_
  exact W.iret (v := 1) hx hb hr (fun t ht hW => ⟨⟨1, (), rfl, rfl, trivial⟩, hS.F ht⟩) hS.2.2 dL_bank_14
set_option maxRecDepth 100000 in
set_option maxHeartbeats 4000000 in
theorem c_h_account (l : Launch) (hl9 : l.stackTraces = false) (D : va_G) (a1 a2 sz : Nat) (h0 h1 h2 : Nat) (g gn gb : Nat → Nat) (p1 p2 p3 p4 p5 : Int32) (o : Nat) : vx_Met l yL_account (Cond.codeWith yL_account cL_account 8 (some .int) [(0, 16, 19, 19), (0, 16, 23, 13)] :: WS) ({ frames := 16, cells := 1, slots := 6, locals := 500 }) (va_Pc [.ref h0, .int p1, .int p2, .int p3, .int p4, .int p5, .ref o] (pre D a1 a2 [(h0, .inr (11, [.ref h1, .ref h2, .ref (g 2), .ref (g 3), .ref (g 4), .ref (g 5), .ref (g 6), .int 0, .int 0, .int 0, .int 0])), (h1, .inr (6, [.ref (gn 0), .int 0, .ref (gn 2), .ref (gn 3), .int 0, .ref (gn 5), .int 0, .int 0])), (h2, .inr (1, [.ref h1, .ref (gb 1), .int 0]))] [] sz)) (va_Qi (S := Unit) (fun r _ => r = 1) (fun _ _ => True) (va_A [(h0, .inr (11, [.ref h1, .ref h2, .ref (g 2), .ref (g 3), .ref (g 4), .ref (g 5), .ref (g 6), .int 0, .int 0, .int 0, .int 0])), (h1, .inr (6, [.ref (gn 0), .int 0, .ref (gn 2), .ref (gn 3), .int 0, .ref (gn 5), .int 0, .int 0])), (h2, .inr (1, [.ref h1, .ref (gb 1), .int 0]))] sz)) (vx_X (fun _ : Unit => False) (fun _ _ _ => True) (va_A [(h0, .inr (11, [.ref h1, .ref h2, .ref (g 2), .ref (g 3), .ref (g 4), .ref (g 5), .ref (g 6), .int 0, .int 0, .int 0, .int 0])), (h1, .inr (6, [.ref (gn 0), .int 0, .ref (gn 2), .ref (gn 3), .int 0, .ref (gn 5), .int 0, .int 0])), (h2, .inr (1, [.ref h1, .ref (gb 1), .int 0]))] sz)) 1 6 (va_A [(h0, .inr (11, [.ref h1, .ref h2, .ref (g 2), .ref (g 3), .ref (g 4), .ref (g 5), .ref (g 6), .int 0, .int 0, .int 0, .int 0])), (h1, .inr (6, [.ref (gn 0), .int 0, .ref (gn 2), .ref (gn 3), .int 0, .ref (gn 5), .int 0, .int 0])), (h2, .inr (1, [.ref h1, .ref (gb 1), .int 0]))] sz) := by
  refine open_H (by decide +kernel) (Nat.le_of_ble_eq_true rfl) (fun A => va_Qi (S := Unit) (fun r _ => r = 1) (fun _ _ => True) A) (fun A => vx_X (fun _ : Unit => False) (fun _ _ _ => True) A) ?_
  intro p e s m below meth c A ls hG
  obtain ⟨⟨hx, hb, hr, hml, hown, hts, hlocks, hin, hP, hK, hD, hA, hE, hS, hl⟩, hno⟩ := hG
  have hown : s.vm.findClass RL = some m.cls := hown
  have hl : lv_has ls 8 [(0, .ref h0), (1, .int p1), (2, .int p2), (3, .int p3), (4, .int p4), (5, .int p5), (6, .ref o)] := hl
  refine lv_aload hx hb dL_account_0 (lv_at hl 6 rfl) ?_
  refine lv_iconst (v := 0) hx hb dL_account_2 (by decide) ?_
  refine lv_aload_n hx hb dL_account_3 rfl (lv_at hl 0 rfl) ?_
  refine lv_iload_n hx hb dL_account_4 rfl (lv_at hl 1 rfl) ?_
  refine lv_iload_n hx hb dL_account_5 rfl (lv_at hl 2 rfl) ?_
  refine lv_iload_n hx hb dL_account_6 rfl (lv_at hl 3 rfl) ?_
  refine lv_iload hx hb dL_account_7 (lv_at hl 4 rfl) ?_
  refine lv_iload hx hb dL_account_9 (lv_at hl 5 rfl) ?_
  have f_1 := free_of (wc := [(h0, .inr (11, [.ref h1, .ref h2, .ref (g 2), .ref (g 3), .ref (g 4), .ref (g 5), .ref (g 6), .int 0, .int 0, .int 0, .int 0])), (h1, .inr (6, [.ref (gn 0), .int 0, .ref (gn 2), .ref (gn 3), .int 0, .ref (gn 5), .int 0, .int 0])), (h2, .inr (1, [.ref h1, .ref (gb 1), .int 0]))]) hD hS hA [0, 1, 2] rfl
  refine never (vx_runV (As := [.int p1, .int p2, .int p3, .int p4, .int p5]) (rest := [.int 0, .ref o]) ⟨hx, hb, hml, hown, hts⟩ (c_x_account l hl9 D a1 a2 s.heap.size h0 h1 h2 g gn gb p1 p2 p3 p4 p5) (cwV 5 hts (gV w_50 w_51 w_52 w_8 w_53) rfl rfl rfl (by decide +kernel) ⟨Nat.le_of_ble_eq_true rfl, Nat.le_of_ble_eq_true rfl⟩) (pre_V hK hP hD hS hA hE [0, 1, 2] rfl (by decide) rfl [] rfl (ci := 11) (q0 := 0) rfl rfl) rfl rfl hl.1 rfl (lv_room (Nat.le_of_ble_eq_true rfl)) dL_account_11 ⟨Nat.le_of_ble_eq_true rfl, Nat.le_of_ble_eq_true rfl⟩) (fun _ _ _ h => h) hS f_1 (fun q _ h => f_1 q h) (fun E ce q9 u9 t H locs ht hvm hw hB hz1 hk1 hS hce hcv hcl => ?_)
  subst hB
  refine vx_catch (own := RL) (name := "java/util/NoSuchElementException") (E := "java/util/NoSuchElementException") hown [] ⟨0, 16, 19, 19⟩ [⟨0, 16, 23, 13⟩] (by rw [hno]; rfl) (fun z hz => nomatch hz) (by decide) (by decide) (hts (.classLink RL 19 "java/util/NoSuchElementException") w_45) (va_Nw.use rfl hE.1.2.1.1) hce hcv hcl ?_
  refine W.eq (g2 := F0 m 19 ls [.ref q9]) rfl ?_
  refine lv_astore (lv' := [(7, .ref q9), (0, .ref h0), (1, .int p1), (2, .int p2), (3, .int p3), (4, .int p4), (5, .int p5), (6, .ref o)]) hx hb dL_account_19 hl (by decide) rfl (fun ls hl => ?_)
  refine lv_iconst (v := 1) hx hb dL_account_21 (by decide) ?_
  refine W.widen (k := 1) (n := 6) (Nat.le_of_ble_eq_true rfl) (Nat.le_of_ble_eq_true rfl) ?_
  refine vx_ret ?_
  exact W.iret (v := 1) hx hb hr (fun t ht hW => ⟨⟨1, (), rfl, rfl, trivial⟩, hS.F ht⟩) hS.2.2 dL_account_22
set_option maxRecDepth 100000 in
set_option maxHeartbeats 4000000 in
theorem c_h_terms (l : Launch) (hl9 : l.stackTraces = false) (D : va_G) (a1 a2 sz : Nat) (h0 h1 h2 : Nat) (g gn gb : Nat → Nat) (p1 p2 p3 p4 p5 : Int32) (o : Nat) : vx_Met l yL_terms (Cond.codeWith yL_terms cL_terms 8 (some .int) [(0, 16, 19, 19), (0, 16, 23, 13)] :: WS) ({ frames := 16, cells := 1, slots := 6, locals := 500 }) (va_Pc [.ref h0, .int p1, .int p2, .int p3, .int p4, .int p5, .ref o] (pre D a1 a2 [(h0, .inr (11, [.ref h1, .ref h2, .ref (g 2), .ref (g 3), .ref (g 4), .ref (g 5), .ref (g 6), .int 0, .int 0, .int 0, .int 0])), (h1, .inr (6, [.ref (gn 0), .int 0, .ref (gn 2), .ref (gn 3), .int 0, .ref (gn 5), .int 0, .int 0])), (h2, .inr (1, [.ref h1, .ref (gb 1), .int 0]))] [] sz)) (va_Qi (S := Unit) (fun r _ => r = 1) (fun _ _ => True) (va_A [(h0, .inr (11, [.ref h1, .ref h2, .ref (g 2), .ref (g 3), .ref (g 4), .ref (g 5), .ref (g 6), .int 0, .int 0, .int 0, .int 0])), (h1, .inr (6, [.ref (gn 0), .int 0, .ref (gn 2), .ref (gn 3), .int 0, .ref (gn 5), .int 0, .int 0])), (h2, .inr (1, [.ref h1, .ref (gb 1), .int 0]))] sz)) (vx_X (fun _ : Unit => False) (fun _ _ _ => True) (va_A [(h0, .inr (11, [.ref h1, .ref h2, .ref (g 2), .ref (g 3), .ref (g 4), .ref (g 5), .ref (g 6), .int 0, .int 0, .int 0, .int 0])), (h1, .inr (6, [.ref (gn 0), .int 0, .ref (gn 2), .ref (gn 3), .int 0, .ref (gn 5), .int 0, .int 0])), (h2, .inr (1, [.ref h1, .ref (gb 1), .int 0]))] sz)) 1 6 (va_A [(h0, .inr (11, [.ref h1, .ref h2, .ref (g 2), .ref (g 3), .ref (g 4), .ref (g 5), .ref (g 6), .int 0, .int 0, .int 0, .int 0])), (h1, .inr (6, [.ref (gn 0), .int 0, .ref (gn 2), .ref (gn 3), .int 0, .ref (gn 5), .int 0, .int 0])), (h2, .inr (1, [.ref h1, .ref (gb 1), .int 0]))] sz) := by
  refine open_H (by decide +kernel) (Nat.le_of_ble_eq_true rfl) (fun A => va_Qi (S := Unit) (fun r _ => r = 1) (fun _ _ => True) A) (fun A => vx_X (fun _ : Unit => False) (fun _ _ _ => True) A) ?_
  intro p e s m below meth c A ls hG
  obtain ⟨⟨hx, hb, hr, hml, hown, hts, hlocks, hin, hP, hK, hD, hA, hE, hS, hl⟩, hno⟩ := hG
  have hown : s.vm.findClass RL = some m.cls := hown
  have hl : lv_has ls 8 [(0, .ref h0), (1, .int p1), (2, .int p2), (3, .int p3), (4, .int p4), (5, .int p5), (6, .ref o)] := hl
  refine lv_aload hx hb dL_terms_0 (lv_at hl 6 rfl) ?_
  refine lv_iconst (v := 0) hx hb dL_terms_2 (by decide) ?_
  refine lv_aload_n hx hb dL_terms_3 rfl (lv_at hl 0 rfl) ?_
  refine lv_iload_n hx hb dL_terms_4 rfl (lv_at hl 1 rfl) ?_
  refine lv_iload_n hx hb dL_terms_5 rfl (lv_at hl 2 rfl) ?_
  refine lv_iload_n hx hb dL_terms_6 rfl (lv_at hl 3 rfl) ?_
  refine lv_iload hx hb dL_terms_7 (lv_at hl 4 rfl) ?_
  refine lv_iload hx hb dL_terms_9 (lv_at hl 5 rfl) ?_
  have f_1 := free_of (wc := [(h0, .inr (11, [.ref h1, .ref h2, .ref (g 2), .ref (g 3), .ref (g 4), .ref (g 5), .ref (g 6), .int 0, .int 0, .int 0, .int 0])), (h1, .inr (6, [.ref (gn 0), .int 0, .ref (gn 2), .ref (gn 3), .int 0, .ref (gn 5), .int 0, .int 0])), (h2, .inr (1, [.ref h1, .ref (gb 1), .int 0]))]) hD hS hA [0, 1, 2] rfl
  refine never (vx_runV (As := [.int p1, .int p2, .int p3, .int p4, .int p5]) (rest := [.int 0, .ref o]) ⟨hx, hb, hml, hown, hts⟩ (c_x_terms l hl9 D a1 a2 s.heap.size h0 h1 h2 g gn gb p1 p2 p3 p4 p5) (cwV 5 hts (gV w_54 w_55 w_56 w_8 w_57) rfl rfl rfl (by decide +kernel) ⟨Nat.le_of_ble_eq_true rfl, Nat.le_of_ble_eq_true rfl⟩) (pre_V hK hP hD hS hA hE [0, 1, 2] rfl (by decide) rfl [] rfl (ci := 11) (q0 := 0) rfl rfl) rfl rfl hl.1 rfl (lv_room (Nat.le_of_ble_eq_true rfl)) dL_terms_11 ⟨Nat.le_of_ble_eq_true rfl, Nat.le_of_ble_eq_true rfl⟩) (fun _ _ _ h => h) hS f_1 (fun q _ h => f_1 q h) (fun E ce q9 u9 t H locs ht hvm hw hB hz1 hk1 hS hce hcv hcl => ?_)
  subst hB
  refine vx_catch (own := RL) (name := "java/util/NoSuchElementException") (E := "java/util/NoSuchElementException") hown [] ⟨0, 16, 19, 19⟩ [⟨0, 16, 23, 13⟩] (by rw [hno]; rfl) (fun z hz => nomatch hz) (by decide) (by decide) (hts (.classLink RL 19 "java/util/NoSuchElementException") w_45) (va_Nw.use rfl hE.1.2.1.1) hce hcv hcl ?_
  refine W.eq (g2 := F0 m 19 ls [.ref q9]) rfl ?_
  refine lv_astore (lv' := [(7, .ref q9), (0, .ref h0), (1, .int p1), (2, .int p2), (3, .int p3), (4, .int p4), (5, .int p5), (6, .ref o)]) hx hb dL_terms_19 hl (by decide) rfl (fun ls hl => ?_)
  refine lv_iconst (v := 1) hx hb dL_terms_21 (by decide) ?_
  refine W.widen (k := 1) (n := 6) (Nat.le_of_ble_eq_true rfl) (Nat.le_of_ble_eq_true rfl) ?_
  refine vx_ret ?_
  exact W.iret (v := 1) hx hb hr (fun t ht hW => ⟨⟨1, (), rfl, rfl, trivial⟩, hS.F ht⟩) hS.2.2 dL_terms_22
set_option maxRecDepth 100000 in
set_option maxHeartbeats 4000000 in
theorem c_h_limits (l : Launch) (hl9 : l.stackTraces = false) (D : va_G) (a1 a2 sz : Nat) (h0 h1 h2 : Nat) (g gn gb : Nat → Nat) (p1 p2 p3 : Int32) (o : Nat) : vx_Met l yL_limits (Cond.codeWith yL_limits cL_limits 6 (some .int) [(0, 12, 15, 19), (0, 12, 19, 13)] :: WS) ({ frames := 16, cells := 1, slots := 6, locals := 500 }) (va_Pc [.ref h0, .int p1, .int p2, .int p3, .ref o] (pre D a1 a2 [(h0, .inr (11, [.ref h1, .ref h2, .ref (g 2), .ref (g 3), .ref (g 4), .ref (g 5), .ref (g 6), .int 0, .int 0, .int 0, .int 0])), (h1, .inr (6, [.ref (gn 0), .int 0, .ref (gn 2), .ref (gn 3), .int 0, .ref (gn 5), .int 0, .int 0])), (h2, .inr (1, [.ref h1, .ref (gb 1), .int 0]))] [] sz)) (va_Qi (S := Unit) (fun r _ => r = 1) (fun _ _ => True) (va_A [(h0, .inr (11, [.ref h1, .ref h2, .ref (g 2), .ref (g 3), .ref (g 4), .ref (g 5), .ref (g 6), .int 0, .int 0, .int 0, .int 0])), (h1, .inr (6, [.ref (gn 0), .int 0, .ref (gn 2), .ref (gn 3), .int 0, .ref (gn 5), .int 0, .int 0])), (h2, .inr (1, [.ref h1, .ref (gb 1), .int 0]))] sz)) (vx_X (fun _ : Unit => False) (fun _ _ _ => True) (va_A [(h0, .inr (11, [.ref h1, .ref h2, .ref (g 2), .ref (g 3), .ref (g 4), .ref (g 5), .ref (g 6), .int 0, .int 0, .int 0, .int 0])), (h1, .inr (6, [.ref (gn 0), .int 0, .ref (gn 2), .ref (gn 3), .int 0, .ref (gn 5), .int 0, .int 0])), (h2, .inr (1, [.ref h1, .ref (gb 1), .int 0]))] sz)) 1 6 (va_A [(h0, .inr (11, [.ref h1, .ref h2, .ref (g 2), .ref (g 3), .ref (g 4), .ref (g 5), .ref (g 6), .int 0, .int 0, .int 0, .int 0])), (h1, .inr (6, [.ref (gn 0), .int 0, .ref (gn 2), .ref (gn 3), .int 0, .ref (gn 5), .int 0, .int 0])), (h2, .inr (1, [.ref h1, .ref (gb 1), .int 0]))] sz) := by
  refine open_H (by decide +kernel) (Nat.le_of_ble_eq_true rfl) (fun A => va_Qi (S := Unit) (fun r _ => r = 1) (fun _ _ => True) A) (fun A => vx_X (fun _ : Unit => False) (fun _ _ _ => True) A) ?_
  intro p e s m below meth c A ls hG
  obtain ⟨⟨hx, hb, hr, hml, hown, hts, hlocks, hin, hP, hK, hD, hA, hE, hS, hl⟩, hno⟩ := hG
  have hown : s.vm.findClass RL = some m.cls := hown
  have hl : lv_has ls 6 [(0, .ref h0), (1, .int p1), (2, .int p2), (3, .int p3), (4, .ref o)] := hl
  refine lv_aload hx hb dL_limits_0 (lv_at hl 4 rfl) ?_
  refine lv_iconst (v := 0) hx hb dL_limits_2 (by decide) ?_
  refine lv_aload_n hx hb dL_limits_3 rfl (lv_at hl 0 rfl) ?_
  refine lv_iload_n hx hb dL_limits_4 rfl (lv_at hl 1 rfl) ?_
  refine lv_iload_n hx hb dL_limits_5 rfl (lv_at hl 2 rfl) ?_
  refine lv_iload_n hx hb dL_limits_6 rfl (lv_at hl 3 rfl) ?_
  have f_1 := free_of (wc := [(h0, .inr (11, [.ref h1, .ref h2, .ref (g 2), .ref (g 3), .ref (g 4), .ref (g 5), .ref (g 6), .int 0, .int 0, .int 0, .int 0])), (h1, .inr (6, [.ref (gn 0), .int 0, .ref (gn 2), .ref (gn 3), .int 0, .ref (gn 5), .int 0, .int 0])), (h2, .inr (1, [.ref h1, .ref (gb 1), .int 0]))]) hD hS hA [0, 1, 2] rfl
  refine never (vx_runV (As := [.int p1, .int p2, .int p3]) (rest := [.int 0, .ref o]) ⟨hx, hb, hml, hown, hts⟩ (c_x_limits l hl9 D a1 a2 s.heap.size h0 h1 h2 g gn gb p1 p2 p3) (cwV 3 hts (gV w_58 w_59 w_60 w_8 w_61) rfl rfl rfl (by decide +kernel) ⟨Nat.le_of_ble_eq_true rfl, Nat.le_of_ble_eq_true rfl⟩) (pre_V hK hP hD hS hA hE [0, 1, 2] rfl (by decide) rfl [] rfl (ci := 11) (q0 := 0) rfl rfl) rfl rfl hl.1 rfl (lv_room (Nat.le_of_ble_eq_true rfl)) dL_limits_7 ⟨Nat.le_of_ble_eq_true rfl, Nat.le_of_ble_eq_true rfl⟩) (fun _ _ _ h => h) hS f_1 (fun q _ h => f_1 q h) (fun E ce q9 u9 t H locs ht hvm hw hB hz1 hk1 hS hce hcv hcl => ?_)
  subst hB
  refine vx_catch (own := RL) (name := "java/util/NoSuchElementException") (E := "java/util/NoSuchElementException") hown [] ⟨0, 12, 15, 19⟩ [⟨0, 12, 19, 13⟩] (by rw [hno]; rfl) (fun z hz => nomatch hz) (by decide) (by decide) (hts (.classLink RL 19 "java/util/NoSuchElementException") w_45) (va_Nw.use rfl hE.1.2.1.1) hce hcv hcl ?_
  refine W.eq (g2 := F0 m 15 ls [.ref q9]) rfl ?_
  refine lv_astore (lv' := [(5, .ref q9), (0, .ref h0), (1, .int p1), (2, .int p2), (3, .int p3), (4, .ref o)]) hx hb dL_limits_15 hl (by decide) rfl (fun ls hl => ?_)
  refine lv_iconst (v := 1) hx hb dL_limits_17 (by decide) ?_
  refine W.widen (k := 1) (n := 6) (Nat.le_of_ble_eq_true rfl) (Nat.le_of_ble_eq_true rfl) ?_
  refine vx_ret ?_
  exact W.iret (v := 1) hx hb hr (fun t ht hW => ⟨⟨1, (), rfl, rfl, trivial⟩, hS.F ht⟩) hS.2.2 dL_limits_18
set_option maxRecDepth 100000 in
set_option maxHeartbeats 4000000 in
theorem c_h_fund (l : Launch) (hl9 : l.stackTraces = false) (D : va_G) (a1 a2 sz : Nat) (h0 h1 h2 : Nat) (g gn gb : Nat → Nat) (p1 p2 : Int32) (o : Nat) : vx_Met l yL_fund (Cond.codeWith yL_fund cL_fund 5 (some .int) [(0, 10, 13, 19), (0, 10, 17, 13)] :: WS) ({ frames := 16, cells := 1, slots := 6, locals := 500 }) (va_Pc [.ref h0, .int p1, .int p2, .ref o] (pre D a1 a2 [(h0, .inr (11, [.ref h1, .ref h2, .ref (g 2), .ref (g 3), .ref (g 4), .ref (g 5), .ref (g 6), .int 0, .int 0, .int 0, .int 0])), (h1, .inr (6, [.ref (gn 0), .int 0, .ref (gn 2), .ref (gn 3), .int 0, .ref (gn 5), .int 0, .int 0])), (h2, .inr (1, [.ref h1, .ref (gb 1), .int 0]))] [] sz)) (va_Qi (S := Unit) (fun r _ => r = 1) (fun _ _ => True) (va_A [(h0, .inr (11, [.ref h1, .ref h2, .ref (g 2), .ref (g 3), .ref (g 4), .ref (g 5), .ref (g 6), .int 0, .int 0, .int 0, .int 0])), (h1, .inr (6, [.ref (gn 0), .int 0, .ref (gn 2), .ref (gn 3), .int 0, .ref (gn 5), .int 0, .int 0])), (h2, .inr (1, [.ref h1, .ref (gb 1), .int 0]))] sz)) (vx_X (fun _ : Unit => False) (fun _ _ _ => True) (va_A [(h0, .inr (11, [.ref h1, .ref h2, .ref (g 2), .ref (g 3), .ref (g 4), .ref (g 5), .ref (g 6), .int 0, .int 0, .int 0, .int 0])), (h1, .inr (6, [.ref (gn 0), .int 0, .ref (gn 2), .ref (gn 3), .int 0, .ref (gn 5), .int 0, .int 0])), (h2, .inr (1, [.ref h1, .ref (gb 1), .int 0]))] sz)) 1 6 (va_A [(h0, .inr (11, [.ref h1, .ref h2, .ref (g 2), .ref (g 3), .ref (g 4), .ref (g 5), .ref (g 6), .int 0, .int 0, .int 0, .int 0])), (h1, .inr (6, [.ref (gn 0), .int 0, .ref (gn 2), .ref (gn 3), .int 0, .ref (gn 5), .int 0, .int 0])), (h2, .inr (1, [.ref h1, .ref (gb 1), .int 0]))] sz) := by
  refine open_H (by decide +kernel) (Nat.le_of_ble_eq_true rfl) (fun A => va_Qi (S := Unit) (fun r _ => r = 1) (fun _ _ => True) A) (fun A => vx_X (fun _ : Unit => False) (fun _ _ _ => True) A) ?_
  intro p e s m below meth c A ls hG
  obtain ⟨⟨hx, hb, hr, hml, hown, hts, hlocks, hin, hP, hK, hD, hA, hE, hS, hl⟩, hno⟩ := hG
  have hown : s.vm.findClass RL = some m.cls := hown
  have hl : lv_has ls 5 [(0, .ref h0), (1, .int p1), (2, .int p2), (3, .ref o)] := hl
  refine lv_aload_n hx hb dL_fund_0 rfl (lv_at hl 3 rfl) ?_
  refine lv_iconst (v := 0) hx hb dL_fund_1 (by decide) ?_
  refine lv_aload_n hx hb dL_fund_2 rfl (lv_at hl 0 rfl) ?_
  refine lv_iload_n hx hb dL_fund_3 rfl (lv_at hl 1 rfl) ?_
  refine lv_iload_n hx hb dL_fund_4 rfl (lv_at hl 2 rfl) ?_
  have f_1 := free_of (wc := [(h0, .inr (11, [.ref h1, .ref h2, .ref (g 2), .ref (g 3), .ref (g 4), .ref (g 5), .ref (g 6), .int 0, .int 0, .int 0, .int 0])), (h1, .inr (6, [.ref (gn 0), .int 0, .ref (gn 2), .ref (gn 3), .int 0, .ref (gn 5), .int 0, .int 0])), (h2, .inr (1, [.ref h1, .ref (gb 1), .int 0]))]) hD hS hA [0, 1, 2] rfl
  refine never (vx_runV (As := [.int p1, .int p2]) (rest := [.int 0, .ref o]) ⟨hx, hb, hml, hown, hts⟩ (c_x_fund l hl9 D a1 a2 s.heap.size h0 h1 h2 g gn gb p1 p2) (cwV 2 hts (gV w_62 w_63 w_64 w_8 w_65) rfl rfl rfl (by decide +kernel) ⟨Nat.le_of_ble_eq_true rfl, Nat.le_of_ble_eq_true rfl⟩) (pre_V hK hP hD hS hA hE [0, 1, 2] rfl (by decide) rfl [] rfl (ci := 11) (q0 := 0) rfl rfl) rfl rfl hl.1 rfl (lv_room (Nat.le_of_ble_eq_true rfl)) dL_fund_5 ⟨Nat.le_of_ble_eq_true rfl, Nat.le_of_ble_eq_true rfl⟩) (fun _ _ _ h => h) hS f_1 (fun q _ h => f_1 q h) (fun E ce q9 u9 t H locs ht hvm hw hB hz1 hk1 hS hce hcv hcl => ?_)
  subst hB
  refine vx_catch (own := RL) (name := "java/util/NoSuchElementException") (E := "java/util/NoSuchElementException") hown [] ⟨0, 10, 13, 19⟩ [⟨0, 10, 17, 13⟩] (by rw [hno]; rfl) (fun z hz => nomatch hz) (by decide) (by decide) (hts (.classLink RL 19 "java/util/NoSuchElementException") w_45) (va_Nw.use rfl hE.1.2.1.1) hce hcv hcl ?_
  refine W.eq (g2 := F0 m 13 ls [.ref q9]) rfl ?_
  refine lv_astore (lv' := [(4, .ref q9), (0, .ref h0), (1, .int p1), (2, .int p2), (3, .ref o)]) hx hb dL_fund_13 hl (by decide) rfl (fun ls hl => ?_)
  refine lv_iconst (v := 1) hx hb dL_fund_15 (by decide) ?_
  refine W.widen (k := 1) (n := 6) (Nat.le_of_ble_eq_true rfl) (Nat.le_of_ble_eq_true rfl) ?_
  refine vx_ret ?_
  exact W.iret (v := 1) hx hb hr (fun t ht hW => ⟨⟨1, (), rfl, rfl, trivial⟩, hS.F ht⟩) hS.2.2 dL_fund_16
set_option maxRecDepth 100000 in
set_option maxHeartbeats 4000000 in
theorem c_h_draw (l : Launch) (hl9 : l.stackTraces = false) (D : va_G) (a1 a2 sz : Nat) (h0 h1 h2 : Nat) (g gn gb : Nat → Nat) (p1 p2 : Int32) (o : Nat) : vx_Met l yL_draw (Cond.codeWith yL_draw cL_draw 5 (some .int) [(0, 10, 13, 19), (0, 10, 17, 13)] :: WS) ({ frames := 16, cells := 1, slots := 6, locals := 500 }) (va_Pc [.ref h0, .int p1, .int p2, .ref o] (pre D a1 a2 [(h0, .inr (11, [.ref h1, .ref h2, .ref (g 2), .ref (g 3), .ref (g 4), .ref (g 5), .ref (g 6), .int 0, .int 0, .int 0, .int 0])), (h1, .inr (6, [.ref (gn 0), .int 0, .ref (gn 2), .ref (gn 3), .int 0, .ref (gn 5), .int 0, .int 0])), (h2, .inr (1, [.ref h1, .ref (gb 1), .int 0]))] [] sz)) (va_Qi (S := Unit) (fun r _ => r = 1) (fun _ _ => True) (va_A [(h0, .inr (11, [.ref h1, .ref h2, .ref (g 2), .ref (g 3), .ref (g 4), .ref (g 5), .ref (g 6), .int 0, .int 0, .int 0, .int 0])), (h1, .inr (6, [.ref (gn 0), .int 0, .ref (gn 2), .ref (gn 3), .int 0, .ref (gn 5), .int 0, .int 0])), (h2, .inr (1, [.ref h1, .ref (gb 1), .int 0]))] sz)) (vx_X (fun _ : Unit => False) (fun _ _ _ => True) (va_A [(h0, .inr (11, [.ref h1, .ref h2, .ref (g 2), .ref (g 3), .ref (g 4), .ref (g 5), .ref (g 6), .int 0, .int 0, .int 0, .int 0])), (h1, .inr (6, [.ref (gn 0), .int 0, .ref (gn 2), .ref (gn 3), .int 0, .ref (gn 5), .int 0, .int 0])), (h2, .inr (1, [.ref h1, .ref (gb 1), .int 0]))] sz)) 1 6 (va_A [(h0, .inr (11, [.ref h1, .ref h2, .ref (g 2), .ref (g 3), .ref (g 4), .ref (g 5), .ref (g 6), .int 0, .int 0, .int 0, .int 0])), (h1, .inr (6, [.ref (gn 0), .int 0, .ref (gn 2), .ref (gn 3), .int 0, .ref (gn 5), .int 0, .int 0])), (h2, .inr (1, [.ref h1, .ref (gb 1), .int 0]))] sz) := by
  refine open_H (by decide +kernel) (Nat.le_of_ble_eq_true rfl) (fun A => va_Qi (S := Unit) (fun r _ => r = 1) (fun _ _ => True) A) (fun A => vx_X (fun _ : Unit => False) (fun _ _ _ => True) A) ?_
  intro p e s m below meth c A ls hG
  obtain ⟨⟨hx, hb, hr, hml, hown, hts, hlocks, hin, hP, hK, hD, hA, hE, hS, hl⟩, hno⟩ := hG
  have hown : s.vm.findClass RL = some m.cls := hown
  have hl : lv_has ls 5 [(0, .ref h0), (1, .int p1), (2, .int p2), (3, .ref o)] := hl
  refine lv_aload_n hx hb dL_draw_0 rfl (lv_at hl 3 rfl) ?_
  refine lv_iconst (v := 0) hx hb dL_draw_1 (by decide) ?_
  refine lv_aload_n hx hb dL_draw_2 rfl (lv_at hl 0 rfl) ?_
  refine lv_iload_n hx hb dL_draw_3 rfl (lv_at hl 1 rfl) ?_
  refine lv_iload_n hx hb dL_draw_4 rfl (lv_at hl 2 rfl) ?_
  have f_1 := free_of (wc := [(h0, .inr (11, [.ref h1, .ref h2, .ref (g 2), .ref (g 3), .ref (g 4), .ref (g 5), .ref (g 6), .int 0, .int 0, .int 0, .int 0])), (h1, .inr (6, [.ref (gn 0), .int 0, .ref (gn 2), .ref (gn 3), .int 0, .ref (gn 5), .int 0, .int 0])), (h2, .inr (1, [.ref h1, .ref (gb 1), .int 0]))]) hD hS hA [0, 1, 2] rfl
  refine never (vx_runV (As := [.int p1, .int p2]) (rest := [.int 0, .ref o]) ⟨hx, hb, hml, hown, hts⟩ (c_x_draw l hl9 D a1 a2 s.heap.size h0 h1 h2 g gn gb p1 p2) (cwV 2 hts (gV w_66 w_67 w_68 w_8 w_69) rfl rfl rfl (by decide +kernel) ⟨Nat.le_of_ble_eq_true rfl, Nat.le_of_ble_eq_true rfl⟩) (pre_V hK hP hD hS hA hE [0, 1, 2] rfl (by decide) rfl [] rfl (ci := 11) (q0 := 0) rfl rfl) rfl rfl hl.1 rfl (lv_room (Nat.le_of_ble_eq_true rfl)) dL_draw_5 ⟨Nat.le_of_ble_eq_true rfl, Nat.le_of_ble_eq_true rfl⟩) (fun _ _ _ h => h) hS f_1 (fun q _ h => f_1 q h) (fun E ce q9 u9 t H locs ht hvm hw hB hz1 hk1 hS hce hcv hcl => ?_)
  subst hB
  refine vx_catch (own := RL) (name := "java/util/NoSuchElementException") (E := "java/util/NoSuchElementException") hown [] ⟨0, 10, 13, 19⟩ [⟨0, 10, 17, 13⟩] (by rw [hno]; rfl) (fun z hz => nomatch hz) (by decide) (by decide) (hts (.classLink RL 19 "java/util/NoSuchElementException") w_45) (va_Nw.use rfl hE.1.2.1.1) hce hcv hcl ?_
  refine W.eq (g2 := F0 m 13 ls [.ref q9]) rfl ?_
  refine lv_astore (lv' := [(4, .ref q9), (0, .ref h0), (1, .int p1), (2, .int p2), (3, .ref o)]) hx hb dL_draw_13 hl (by decide) rfl (fun ls hl => ?_)
  refine lv_iconst (v := 1) hx hb dL_draw_15 (by decide) ?_
  refine W.widen (k := 1) (n := 6) (Nat.le_of_ble_eq_true rfl) (Nat.le_of_ble_eq_true rfl) ?_
  refine vx_ret ?_
  exact W.iret (v := 1) hx hb hr (fun t ht hW => ⟨⟨1, (), rfl, rfl, trivial⟩, hS.F ht⟩) hS.2.2 dL_draw_16
set_option maxRecDepth 100000 in
set_option maxHeartbeats 4000000 in
theorem c_h_shut (l : Launch) (hl9 : l.stackTraces = false) (D : va_G) (a1 a2 sz : Nat) (h0 h1 h2 : Nat) (g gn gb : Nat → Nat) (p1 p2 : Int32) (o : Nat) : vx_Met l yL_shut (Cond.codeWith yL_shut cL_shut 5 (some .int) [(0, 17, 20, 19)] :: WS) ({ frames := 16, cells := 1, slots := 6, locals := 500 }) (va_Pc [.ref h0, .int p1, .int p2, .ref o] (pre D a1 a2 [(h0, .inr (11, [.ref h1, .ref h2, .ref (g 2), .ref (g 3), .ref (g 4), .ref (g 5), .ref (g 6), .int 0, .int 0, .int 0, .int 0])), (h1, .inr (6, [.ref (gn 0), .int 0, .ref (gn 2), .ref (gn 3), .int 0, .ref (gn 5), .int 0, .int 0])), (h2, .inr (1, [.ref h1, .ref (gb 1), .int 0]))] [] sz)) (va_Qi (S := Unit) (fun r _ => r = 1) (fun _ _ => True) (va_A [(h0, .inr (11, [.ref h1, .ref h2, .ref (g 2), .ref (g 3), .ref (g 4), .ref (g 5), .ref (g 6), .int 0, .int 0, .int 0, .int 0])), (h1, .inr (6, [.ref (gn 0), .int 0, .ref (gn 2), .ref (gn 3), .int 0, .ref (gn 5), .int 0, .int 0])), (h2, .inr (1, [.ref h1, .ref (gb 1), .int 0]))] sz)) (vx_X (fun _ : Unit => False) (fun _ _ _ => True) (va_A [(h0, .inr (11, [.ref h1, .ref h2, .ref (g 2), .ref (g 3), .ref (g 4), .ref (g 5), .ref (g 6), .int 0, .int 0, .int 0, .int 0])), (h1, .inr (6, [.ref (gn 0), .int 0, .ref (gn 2), .ref (gn 3), .int 0, .ref (gn 5), .int 0, .int 0])), (h2, .inr (1, [.ref h1, .ref (gb 1), .int 0]))] sz)) 1 6 (va_A [(h0, .inr (11, [.ref h1, .ref h2, .ref (g 2), .ref (g 3), .ref (g 4), .ref (g 5), .ref (g 6), .int 0, .int 0, .int 0, .int 0])), (h1, .inr (6, [.ref (gn 0), .int 0, .ref (gn 2), .ref (gn 3), .int 0, .ref (gn 5), .int 0, .int 0])), (h2, .inr (1, [.ref h1, .ref (gb 1), .int 0]))] sz) := by
  refine open_H (by decide +kernel) (Nat.le_of_ble_eq_true rfl) (fun A => va_Qi (S := Unit) (fun r _ => r = 1) (fun _ _ => True) A) (fun A => vx_X (fun _ : Unit => False) (fun _ _ _ => True) A) ?_
  intro p e s m below meth c A ls hG
  obtain ⟨⟨hx, hb, hr, hml, hown, hts, hlocks, hin, hP, hK, hD, hA, hE, hS, hl⟩, hno⟩ := hG
  have hown : s.vm.findClass RL = some m.cls := hown
  have hl : lv_has ls 5 [(0, .ref h0), (1, .int p1), (2, .int p2), (3, .ref o)] := hl
  refine lv_aload_n hx hb dL_shut_0 rfl (lv_at hl 3 rfl) ?_
  refine lv_iconst (v := 0) hx hb dL_shut_1 (by decide) ?_
  refine lv_aload_n hx hb dL_shut_2 rfl (lv_at hl 0 rfl) ?_
  refine lv_iload_n hx hb dL_shut_3 rfl (lv_at hl 1 rfl) ?_
  refine lv_iload_n hx hb dL_shut_4 rfl (lv_at hl 2 rfl) ?_
  have f_1 := free_of (wc := [(h0, .inr (11, [.ref h1, .ref h2, .ref (g 2), .ref (g 3), .ref (g 4), .ref (g 5), .ref (g 6), .int 0, .int 0, .int 0, .int 0])), (h1, .inr (6, [.ref (gn 0), .int 0, .ref (gn 2), .ref (gn 3), .int 0, .ref (gn 5), .int 0, .int 0])), (h2, .inr (1, [.ref h1, .ref (gb 1), .int 0]))]) hD hS hA [0, 1, 2] rfl
  refine never (vx_runV (As := [.int p1, .int p2]) (rest := [.int 0, .ref o]) ⟨hx, hb, hml, hown, hts⟩ (c_x_shut l hl9 D a1 a2 s.heap.size h0 h1 h2 g gn gb p1 p2) (cwV 2 hts (gV w_70 w_71 w_72 w_8 w_73) rfl rfl rfl (by decide +kernel) ⟨Nat.le_of_ble_eq_true rfl, Nat.le_of_ble_eq_true rfl⟩) (pre_V hK hP hD hS hA hE [0, 1, 2] rfl (by decide) rfl [] rfl (ci := 11) (q0 := 0) rfl rfl) rfl rfl hl.1 rfl (lv_room (Nat.le_of_ble_eq_true rfl)) dL_shut_5 ⟨Nat.le_of_ble_eq_true rfl, Nat.le_of_ble_eq_true rfl⟩) (fun _ _ _ h => h) hS f_1 (fun q _ h => f_1 q h) (fun E ce q9 u9 t H locs ht hvm hw hB hz1 hk1 hS hce hcv hcl => ?_)
  subst hB
  refine vx_catch (own := RL) (name := "java/util/NoSuchElementException") (E := "java/util/NoSuchElementException") hown [] ⟨0, 17, 20, 19⟩ [] (by rw [hno]; rfl) (fun z hz => nomatch hz) (by decide) (by decide) (hts (.classLink RL 19 "java/util/NoSuchElementException") w_45) (va_Nw.use rfl hE.1.2.1.1) hce hcv hcl ?_
  refine W.eq (g2 := F0 m 20 ls [.ref q9]) rfl ?_
  refine lv_astore (lv' := [(4, .ref q9), (0, .ref h0), (1, .int p1), (2, .int p2), (3, .ref o)]) hx hb dL_shut_20 hl (by decide) rfl (fun ls hl => ?_)
  refine lv_iconst (v := 1) hx hb dL_shut_22 (by decide) ?_
  refine W.widen (k := 1) (n := 6) (Nat.le_of_ble_eq_true rfl) (Nat.le_of_ble_eq_true rfl) ?_
  refine vx_ret ?_
  exact W.iret (v := 1) hx hb hr (fun t ht hW => ⟨⟨1, (), rfl, rfl, trivial⟩, hS.F ht⟩) hS.2.2 dL_shut_23
set_option maxRecDepth 100000 in
set_option maxHeartbeats 4000000 in
theorem c_h_ask (l : Launch) (hl9 : l.stackTraces = false) (D : va_G) (a1 a2 sz : Nat) (h0 h1 h2 : Nat) (g gn gb : Nat → Nat) (p1 p2 p3 p4 : Int32) (o : Nat) : vx_Met l yL_ask (Cond.codeWith yL_ask cL_ask 7 (some .int) [(0, 14, 17, 19), (0, 14, 21, 13)] :: WS) ({ frames := 16, cells := 1, slots := 6, locals := 500 }) (va_Pc [.ref h0, .int p1, .int p2, .int p3, .int p4, .ref o] (pre D a1 a2 [(h0, .inr (11, [.ref h1, .ref h2, .ref (g 2), .ref (g 3), .ref (g 4), .ref (g 5), .ref (g 6), .int 0, .int 0, .int 0, .int 0])), (h1, .inr (6, [.ref (gn 0), .int 0, .ref (gn 2), .ref (gn 3), .int 0, .ref (gn 5), .int 0, .int 0])), (h2, .inr (1, [.ref h1, .ref (gb 1), .int 0]))] [] sz)) (va_Qi (S := Unit) (fun r _ => r = 1) (fun _ _ => True) (va_A [(h0, .inr (11, [.ref h1, .ref h2, .ref (g 2), .ref (g 3), .ref (g 4), .ref (g 5), .ref (g 6), .int 0, .int 0, .int 0, .int 0])), (h1, .inr (6, [.ref (gn 0), .int 0, .ref (gn 2), .ref (gn 3), .int 0, .ref (gn 5), .int 0, .int 0])), (h2, .inr (1, [.ref h1, .ref (gb 1), .int 0]))] sz)) (vx_X (fun _ : Unit => False) (fun _ _ _ => True) (va_A [(h0, .inr (11, [.ref h1, .ref h2, .ref (g 2), .ref (g 3), .ref (g 4), .ref (g 5), .ref (g 6), .int 0, .int 0, .int 0, .int 0])), (h1, .inr (6, [.ref (gn 0), .int 0, .ref (gn 2), .ref (gn 3), .int 0, .ref (gn 5), .int 0, .int 0])), (h2, .inr (1, [.ref h1, .ref (gb 1), .int 0]))] sz)) 1 6 (va_A [(h0, .inr (11, [.ref h1, .ref h2, .ref (g 2), .ref (g 3), .ref (g 4), .ref (g 5), .ref (g 6), .int 0, .int 0, .int 0, .int 0])), (h1, .inr (6, [.ref (gn 0), .int 0, .ref (gn 2), .ref (gn 3), .int 0, .ref (gn 5), .int 0, .int 0])), (h2, .inr (1, [.ref h1, .ref (gb 1), .int 0]))] sz) := by
  refine open_H (by decide +kernel) (Nat.le_of_ble_eq_true rfl) (fun A => va_Qi (S := Unit) (fun r _ => r = 1) (fun _ _ => True) A) (fun A => vx_X (fun _ : Unit => False) (fun _ _ _ => True) A) ?_
  intro p e s m below meth c A ls hG
  obtain ⟨⟨hx, hb, hr, hml, hown, hts, hlocks, hin, hP, hK, hD, hA, hE, hS, hl⟩, hno⟩ := hG
  have hown : s.vm.findClass RL = some m.cls := hown
  have hl : lv_has ls 7 [(0, .ref h0), (1, .int p1), (2, .int p2), (3, .int p3), (4, .int p4), (5, .ref o)] := hl
  refine lv_aload hx hb dL_ask_0 (lv_at hl 5 rfl) ?_
  refine lv_iconst (v := 0) hx hb dL_ask_2 (by decide) ?_
  refine lv_aload_n hx hb dL_ask_3 rfl (lv_at hl 0 rfl) ?_
  refine lv_iload_n hx hb dL_ask_4 rfl (lv_at hl 1 rfl) ?_
  refine lv_iload_n hx hb dL_ask_5 rfl (lv_at hl 2 rfl) ?_
  refine lv_iload_n hx hb dL_ask_6 rfl (lv_at hl 3 rfl) ?_
  refine lv_iload hx hb dL_ask_7 (lv_at hl 4 rfl) ?_
  have f_1 := free_of (wc := [(h0, .inr (11, [.ref h1, .ref h2, .ref (g 2), .ref (g 3), .ref (g 4), .ref (g 5), .ref (g 6), .int 0, .int 0, .int 0, .int 0])), (h1, .inr (6, [.ref (gn 0), .int 0, .ref (gn 2), .ref (gn 3), .int 0, .ref (gn 5), .int 0, .int 0])), (h2, .inr (1, [.ref h1, .ref (gb 1), .int 0]))]) hD hS hA [0, 1, 2] rfl
  refine never (vx_runV (As := [.int p1, .int p2, .int p3, .int p4]) (rest := [.int 0, .ref o]) ⟨hx, hb, hml, hown, hts⟩ (c_x_ask l hl9 D a1 a2 s.heap.size h0 h1 h2 g gn gb p1 p2 p3 p4) (cwV 4 hts (gV w_74 w_75 w_76 w_8 w_77) rfl rfl rfl (by decide +kernel) ⟨Nat.le_of_ble_eq_true rfl, Nat.le_of_ble_eq_true rfl⟩) (pre_V hK hP hD hS hA hE [0, 1, 2] rfl (by decide) rfl [] rfl (ci := 11) (q0 := 0) rfl rfl) rfl rfl hl.1 rfl (lv_room (Nat.le_of_ble_eq_true rfl)) dL_ask_9 ⟨Nat.le_of_ble_eq_true rfl, Nat.le_of_ble_eq_true rfl⟩) (fun _ _ _ h => h) hS f_1 (fun q _ h => f_1 q h) (fun E ce q9 u9 t H locs ht hvm hw hB hz1 hk1 hS hce hcv hcl => ?_)
  subst hB
  refine vx_catch (own := RL) (name := "java/util/NoSuchElementException") (E := "java/util/NoSuchElementException") hown [] ⟨0, 14, 17, 19⟩ [⟨0, 14, 21, 13⟩] (by rw [hno]; rfl) (fun z hz => nomatch hz) (by decide) (by decide) (hts (.classLink RL 19 "java/util/NoSuchElementException") w_45) (va_Nw.use rfl hE.1.2.1.1) hce hcv hcl ?_
  refine W.eq (g2 := F0 m 17 ls [.ref q9]) rfl ?_
  refine lv_astore (lv' := [(6, .ref q9), (0, .ref h0), (1, .int p1), (2, .int p2), (3, .int p3), (4, .int p4), (5, .ref o)]) hx hb dL_ask_17 hl (by decide) rfl (fun ls hl => ?_)
  refine lv_iconst (v := 1) hx hb dL_ask_19 (by decide) ?_
  refine W.widen (k := 1) (n := 6) (Nat.le_of_ble_eq_true rfl) (Nat.le_of_ble_eq_true rfl) ?_
  refine vx_ret ?_
  exact W.iret (v := 1) hx hb hr (fun t ht hW => ⟨⟨1, (), rfl, rfl, trivial⟩, hS.F ht⟩) hS.2.2 dL_ask_20
set_option maxRecDepth 100000 in
set_option maxHeartbeats 4000000 in
theorem c_h_route (l : Launch) (hl9 : l.stackTraces = false) (D : va_G) (a1 a2 sz : Nat) (h0 h1 h2 : Nat) (g gn gb : Nat → Nat) (p1 p2 : Int32) (o : Nat) : vx_Met l yL_route (Cond.codeWith yL_route cL_route 5 (some .int) [(0, 10, 13, 19), (0, 10, 17, 13)] :: WS) ({ frames := 16, cells := 1, slots := 6, locals := 500 }) (va_Pc [.ref h0, .int p1, .int p2, .ref o] (pre D a1 a2 [(h0, .inr (11, [.ref h1, .ref h2, .ref (g 2), .ref (g 3), .ref (g 4), .ref (g 5), .ref (g 6), .int 0, .int 0, .int 0, .int 0])), (h1, .inr (6, [.ref (gn 0), .int 0, .ref (gn 2), .ref (gn 3), .int 0, .ref (gn 5), .int 0, .int 0])), (h2, .inr (1, [.ref h1, .ref (gb 1), .int 0]))] [] sz)) (va_Qi (S := Unit) (fun r _ => r = 1) (fun _ _ => True) (va_A [(h0, .inr (11, [.ref h1, .ref h2, .ref (g 2), .ref (g 3), .ref (g 4), .ref (g 5), .ref (g 6), .int 0, .int 0, .int 0, .int 0])), (h1, .inr (6, [.ref (gn 0), .int 0, .ref (gn 2), .ref (gn 3), .int 0, .ref (gn 5), .int 0, .int 0])), (h2, .inr (1, [.ref h1, .ref (gb 1), .int 0]))] sz)) (vx_X (fun _ : Unit => False) (fun _ _ _ => True) (va_A [(h0, .inr (11, [.ref h1, .ref h2, .ref (g 2), .ref (g 3), .ref (g 4), .ref (g 5), .ref (g 6), .int 0, .int 0, .int 0, .int 0])), (h1, .inr (6, [.ref (gn 0), .int 0, .ref (gn 2), .ref (gn 3), .int 0, .ref (gn 5), .int 0, .int 0])), (h2, .inr (1, [.ref h1, .ref (gb 1), .int 0]))] sz)) 1 6 (va_A [(h0, .inr (11, [.ref h1, .ref h2, .ref (g 2), .ref (g 3), .ref (g 4), .ref (g 5), .ref (g 6), .int 0, .int 0, .int 0, .int 0])), (h1, .inr (6, [.ref (gn 0), .int 0, .ref (gn 2), .ref (gn 3), .int 0, .ref (gn 5), .int 0, .int 0])), (h2, .inr (1, [.ref h1, .ref (gb 1), .int 0]))] sz) := by
  refine open_H (by decide +kernel) (Nat.le_of_ble_eq_true rfl) (fun A => va_Qi (S := Unit) (fun r _ => r = 1) (fun _ _ => True) A) (fun A => vx_X (fun _ : Unit => False) (fun _ _ _ => True) A) ?_
  intro p e s m below meth c A ls hG
  obtain ⟨⟨hx, hb, hr, hml, hown, hts, hlocks, hin, hP, hK, hD, hA, hE, hS, hl⟩, hno⟩ := hG
  have hown : s.vm.findClass RL = some m.cls := hown
  have hl : lv_has ls 5 [(0, .ref h0), (1, .int p1), (2, .int p2), (3, .ref o)] := hl
  refine lv_aload_n hx hb dL_route_0 rfl (lv_at hl 3 rfl) ?_
  refine lv_iconst (v := 0) hx hb dL_route_1 (by decide) ?_
  refine lv_aload_n hx hb dL_route_2 rfl (lv_at hl 0 rfl) ?_
  refine lv_iload_n hx hb dL_route_3 rfl (lv_at hl 1 rfl) ?_
  refine lv_iload_n hx hb dL_route_4 rfl (lv_at hl 2 rfl) ?_
  have f_1 := free_of (wc := [(h0, .inr (11, [.ref h1, .ref h2, .ref (g 2), .ref (g 3), .ref (g 4), .ref (g 5), .ref (g 6), .int 0, .int 0, .int 0, .int 0])), (h1, .inr (6, [.ref (gn 0), .int 0, .ref (gn 2), .ref (gn 3), .int 0, .ref (gn 5), .int 0, .int 0])), (h2, .inr (1, [.ref h1, .ref (gb 1), .int 0]))]) hD hS hA [0, 1, 2] rfl
  refine never (vx_runV (As := [.int p1, .int p2]) (rest := [.int 0, .ref o]) ⟨hx, hb, hml, hown, hts⟩ (c_x_route l hl9 D a1 a2 s.heap.size h0 h1 h2 g gn gb p1 p2) (cwV 2 hts (gV w_78 w_79 w_80 w_8 w_81) rfl rfl rfl (by decide +kernel) ⟨Nat.le_of_ble_eq_true rfl, Nat.le_of_ble_eq_true rfl⟩) (pre_V hK hP hD hS hA hE [0, 1, 2] rfl (by decide) rfl [] rfl (ci := 11) (q0 := 0) rfl rfl) rfl rfl hl.1 rfl (lv_room (Nat.le_of_ble_eq_true rfl)) dL_route_5 ⟨Nat.le_of_ble_eq_true rfl, Nat.le_of_ble_eq_true rfl⟩) (fun _ _ _ h => h) hS f_1 (fun q _ h => f_1 q h) (fun E ce q9 u9 t H locs ht hvm hw hB hz1 hk1 hS hce hcv hcl => ?_)
  subst hB
  refine vx_catch (own := RL) (name := "java/util/NoSuchElementException") (E := "java/util/NoSuchElementException") hown [] ⟨0, 10, 13, 19⟩ [⟨0, 10, 17, 13⟩] (by rw [hno]; rfl) (fun z hz => nomatch hz) (by decide) (by decide) (hts (.classLink RL 19 "java/util/NoSuchElementException") w_45) (va_Nw.use rfl hE.1.2.1.1) hce hcv hcl ?_
  refine W.eq (g2 := F0 m 13 ls [.ref q9]) rfl ?_
  refine lv_astore (lv' := [(4, .ref q9), (0, .ref h0), (1, .int p1), (2, .int p2), (3, .ref o)]) hx hb dL_route_13 hl (by decide) rfl (fun ls hl => ?_)
  refine lv_iconst (v := 1) hx hb dL_route_15 (by decide) ?_
  refine W.widen (k := 1) (n := 6) (Nat.le_of_ble_eq_true rfl) (Nat.le_of_ble_eq_true rfl) ?_
  refine vx_ret ?_
  exact W.iret (v := 1) hx hb hr (fun t ht hW => ⟨⟨1, (), rfl, rfl, trivial⟩, hS.F ht⟩) hS.2.2 dL_route_16
set_option maxRecDepth 100000 in
set_option maxHeartbeats 4000000 in
theorem c_h_step (l : Launch) (hl9 : l.stackTraces = false) (D : va_G) (a1 a2 sz : Nat) (h0 h1 h2 : Nat) (g gn gb : Nat → Nat) (p1 p2 p3 : Int32) (o : Nat) : vx_Met l yL_step (Cond.codeWith yL_step cL_step 6 (some .int) [(0, 12, 15, 19), (0, 12, 19, 13)] :: WS) ({ frames := 16, cells := 1, slots := 6, locals := 500 }) (va_Pc [.ref h0, .int p1, .int p2, .int p3, .ref o] (pre D a1 a2 [(h0, .inr (11, [.ref h1, .ref h2, .ref (g 2), .ref (g 3), .ref (g 4), .ref (g 5), .ref (g 6), .int 0, .int 0, .int 0, .int 0])), (h1, .inr (6, [.ref (gn 0), .int 0, .ref (gn 2), .ref (gn 3), .int 0, .ref (gn 5), .int 0, .int 0])), (h2, .inr (1, [.ref h1, .ref (gb 1), .int 0]))] [] sz)) (va_Qi (S := Unit) (fun r _ => r = 1) (fun _ _ => True) (va_A [(h0, .inr (11, [.ref h1, .ref h2, .ref (g 2), .ref (g 3), .ref (g 4), .ref (g 5), .ref (g 6), .int 0, .int 0, .int 0, .int 0])), (h1, .inr (6, [.ref (gn 0), .int 0, .ref (gn 2), .ref (gn 3), .int 0, .ref (gn 5), .int 0, .int 0])), (h2, .inr (1, [.ref h1, .ref (gb 1), .int 0]))] sz)) (vx_X (fun _ : Unit => False) (fun _ _ _ => True) (va_A [(h0, .inr (11, [.ref h1, .ref h2, .ref (g 2), .ref (g 3), .ref (g 4), .ref (g 5), .ref (g 6), .int 0, .int 0, .int 0, .int 0])), (h1, .inr (6, [.ref (gn 0), .int 0, .ref (gn 2), .ref (gn 3), .int 0, .ref (gn 5), .int 0, .int 0])), (h2, .inr (1, [.ref h1, .ref (gb 1), .int 0]))] sz)) 1 6 (va_A [(h0, .inr (11, [.ref h1, .ref h2, .ref (g 2), .ref (g 3), .ref (g 4), .ref (g 5), .ref (g 6), .int 0, .int 0, .int 0, .int 0])), (h1, .inr (6, [.ref (gn 0), .int 0, .ref (gn 2), .ref (gn 3), .int 0, .ref (gn 5), .int 0, .int 0])), (h2, .inr (1, [.ref h1, .ref (gb 1), .int 0]))] sz) := by
  refine open_H (by decide +kernel) (Nat.le_of_ble_eq_true rfl) (fun A => va_Qi (S := Unit) (fun r _ => r = 1) (fun _ _ => True) A) (fun A => vx_X (fun _ : Unit => False) (fun _ _ _ => True) A) ?_
  intro p e s m below meth c A ls hG
  obtain ⟨⟨hx, hb, hr, hml, hown, hts, hlocks, hin, hP, hK, hD, hA, hE, hS, hl⟩, hno⟩ := hG
  have hown : s.vm.findClass RL = some m.cls := hown
  have hl : lv_has ls 6 [(0, .ref h0), (1, .int p1), (2, .int p2), (3, .int p3), (4, .ref o)] := hl
  refine lv_aload hx hb dL_step_0 (lv_at hl 4 rfl) ?_
  refine lv_iconst (v := 0) hx hb dL_step_2 (by decide) ?_
  refine lv_aload_n hx hb dL_step_3 rfl (lv_at hl 0 rfl) ?_
  refine lv_iload_n hx hb dL_step_4 rfl (lv_at hl 1 rfl) ?_
  refine lv_iload_n hx hb dL_step_5 rfl (lv_at hl 2 rfl) ?_
  refine lv_iload_n hx hb dL_step_6 rfl (lv_at hl 3 rfl) ?_
  have f_1 := free_of (wc := [(h0, .inr (11, [.ref h1, .ref h2, .ref (g 2), .ref (g 3), .ref (g 4), .ref (g 5), .ref (g 6), .int 0, .int 0, .int 0, .int 0])), (h1, .inr (6, [.ref (gn 0), .int 0, .ref (gn 2), .ref (gn 3), .int 0, .ref (gn 5), .int 0, .int 0])), (h2, .inr (1, [.ref h1, .ref (gb 1), .int 0]))]) hD hS hA [0, 1, 2] rfl
  refine never (vx_runV (As := [.int p1, .int p2, .int p3]) (rest := [.int 0, .ref o]) ⟨hx, hb, hml, hown, hts⟩ (c_x_step l hl9 D a1 a2 s.heap.size h0 h1 h2 g gn gb p1 p2 p3) (cwV 3 hts (gV w_82 w_83 w_84 w_8 w_85) rfl rfl rfl (by decide +kernel) ⟨Nat.le_of_ble_eq_true rfl, Nat.le_of_ble_eq_true rfl⟩) (pre_V hK hP hD hS hA hE [0, 1, 2] rfl (by decide) rfl [] rfl (ci := 11) (q0 := 0) rfl rfl) rfl rfl hl.1 rfl (lv_room (Nat.le_of_ble_eq_true rfl)) dL_step_7 ⟨Nat.le_of_ble_eq_true rfl, Nat.le_of_ble_eq_true rfl⟩) (fun _ _ _ h => h) hS f_1 (fun q _ h => f_1 q h) (fun E ce q9 u9 t H locs ht hvm hw hB hz1 hk1 hS hce hcv hcl => ?_)
  subst hB
  refine vx_catch (own := RL) (name := "java/util/NoSuchElementException") (E := "java/util/NoSuchElementException") hown [] ⟨0, 12, 15, 19⟩ [⟨0, 12, 19, 13⟩] (by rw [hno]; rfl) (fun z hz => nomatch hz) (by decide) (by decide) (hts (.classLink RL 19 "java/util/NoSuchElementException") w_45) (va_Nw.use rfl hE.1.2.1.1) hce hcv hcl ?_
  refine W.eq (g2 := F0 m 15 ls [.ref q9]) rfl ?_
  refine lv_astore (lv' := [(5, .ref q9), (0, .ref h0), (1, .int p1), (2, .int p2), (3, .int p3), (4, .ref o)]) hx hb dL_step_15 hl (by decide) rfl (fun ls hl => ?_)
  refine lv_iconst (v := 1) hx hb dL_step_17 (by decide) ?_
  refine W.widen (k := 1) (n := 6) (Nat.le_of_ble_eq_true rfl) (Nat.le_of_ble_eq_true rfl) ?_
  refine vx_ret ?_
  exact W.iret (v := 1) hx hb hr (fun t ht hW => ⟨⟨1, (), rfl, rfl, trivial⟩, hS.F ht⟩) hS.2.2 dL_step_18
set_option maxRecDepth 100000 in
set_option maxHeartbeats 4000000 in
theorem c_h_pay (l : Launch) (hl9 : l.stackTraces = false) (D : va_G) (a1 a2 sz : Nat) (h0 h1 h2 : Nat) (g gn gb : Nat → Nat) (p1 : Int32) (o : Nat) : vx_Met l yL_pay (Cond.codeWith yL_pay cL_pay 4 (some .int) [(0, 9, 12, 19)] :: WS) ({ frames := 16, cells := 1, slots := 6, locals := 500 }) (va_Pc [.ref h0, .int p1, .ref o] (pre D a1 a2 [(h0, .inr (11, [.ref h1, .ref h2, .ref (g 2), .ref (g 3), .ref (g 4), .ref (g 5), .ref (g 6), .int 0, .int 0, .int 0, .int 0])), (h1, .inr (6, [.ref (gn 0), .int 0, .ref (gn 2), .ref (gn 3), .int 0, .ref (gn 5), .int 0, .int 0])), (h2, .inr (1, [.ref h1, .ref (gb 1), .int 0]))] [] sz)) (va_Qi (S := Unit) (fun r _ => r = 1) (fun _ _ => True) (va_A [(h0, .inr (11, [.ref h1, .ref h2, .ref (g 2), .ref (g 3), .ref (g 4), .ref (g 5), .ref (g 6), .int 0, .int 0, .int 0, .int 0])), (h1, .inr (6, [.ref (gn 0), .int 0, .ref (gn 2), .ref (gn 3), .int 0, .ref (gn 5), .int 0, .int 0])), (h2, .inr (1, [.ref h1, .ref (gb 1), .int 0]))] sz)) (vx_X (fun _ : Unit => False) (fun _ _ _ => True) (va_A [(h0, .inr (11, [.ref h1, .ref h2, .ref (g 2), .ref (g 3), .ref (g 4), .ref (g 5), .ref (g 6), .int 0, .int 0, .int 0, .int 0])), (h1, .inr (6, [.ref (gn 0), .int 0, .ref (gn 2), .ref (gn 3), .int 0, .ref (gn 5), .int 0, .int 0])), (h2, .inr (1, [.ref h1, .ref (gb 1), .int 0]))] sz)) 1 6 (va_A [(h0, .inr (11, [.ref h1, .ref h2, .ref (g 2), .ref (g 3), .ref (g 4), .ref (g 5), .ref (g 6), .int 0, .int 0, .int 0, .int 0])), (h1, .inr (6, [.ref (gn 0), .int 0, .ref (gn 2), .ref (gn 3), .int 0, .ref (gn 5), .int 0, .int 0])), (h2, .inr (1, [.ref h1, .ref (gb 1), .int 0]))] sz) := by
  refine open_H (by decide +kernel) (Nat.le_of_ble_eq_true rfl) (fun A => va_Qi (S := Unit) (fun r _ => r = 1) (fun _ _ => True) A) (fun A => vx_X (fun _ : Unit => False) (fun _ _ _ => True) A) ?_
  intro p e s m below meth c A ls hG
  obtain ⟨⟨hx, hb, hr, hml, hown, hts, hlocks, hin, hP, hK, hD, hA, hE, hS, hl⟩, hno⟩ := hG
  have hown : s.vm.findClass RL = some m.cls := hown
  have hl : lv_has ls 4 [(0, .ref h0), (1, .int p1), (2, .ref o)] := hl
  refine lv_aload_n hx hb dL_pay_0 rfl (lv_at hl 2 rfl) ?_
  refine lv_iconst (v := 0) hx hb dL_pay_1 (by decide) ?_
  refine lv_aload_n hx hb dL_pay_2 rfl (lv_at hl 0 rfl) ?_
  refine lv_iload_n hx hb dL_pay_3 rfl (lv_at hl 1 rfl) ?_
  have f_1 := free_of (wc := [(h0, .inr (11, [.ref h1, .ref h2, .ref (g 2), .ref (g 3), .ref (g 4), .ref (g 5), .ref (g 6), .int 0, .int 0, .int 0, .int 0])), (h1, .inr (6, [.ref (gn 0), .int 0, .ref (gn 2), .ref (gn 3), .int 0, .ref (gn 5), .int 0, .int 0])), (h2, .inr (1, [.ref h1, .ref (gb 1), .int 0]))]) hD hS hA [0, 1, 2] rfl
  refine never (vx_runV (As := [.int p1]) (rest := [.int 0, .ref o]) ⟨hx, hb, hml, hown, hts⟩ (c_x_pay l hl9 D a1 a2 s.heap.size h0 h1 h2 g gn gb p1) (cwV 1 hts (gV w_86 w_87 w_88 w_8 w_89) rfl rfl rfl (by decide +kernel) ⟨Nat.le_of_ble_eq_true rfl, Nat.le_of_ble_eq_true rfl⟩) (pre_V hK hP hD hS hA hE [0, 1, 2] rfl (by decide) rfl [] rfl (ci := 11) (q0 := 0) rfl rfl) rfl rfl hl.1 rfl (lv_room (Nat.le_of_ble_eq_true rfl)) dL_pay_4 ⟨Nat.le_of_ble_eq_true rfl, Nat.le_of_ble_eq_true rfl⟩) (fun _ _ _ h => h) hS f_1 (fun q _ h => f_1 q h) (fun E ce q9 u9 t H locs ht hvm hw hB hz1 hk1 hS hce hcv hcl => ?_)
  subst hB
  refine vx_catch (own := RL) (name := "java/util/NoSuchElementException") (E := "java/util/NoSuchElementException") hown [] ⟨0, 9, 12, 19⟩ [] (by rw [hno]; rfl) (fun z hz => nomatch hz) (by decide) (by decide) (hts (.classLink RL 19 "java/util/NoSuchElementException") w_45) (va_Nw.use rfl hE.1.2.1.1) hce hcv hcl ?_
  refine W.eq (g2 := F0 m 12 ls [.ref q9]) rfl ?_
  refine lv_astore_n (lv' := [(3, .ref q9), (0, .ref h0), (1, .int p1), (2, .ref o)]) hx hb dL_pay_12 rfl hl (by decide) rfl (fun ls hl => ?_)
  refine lv_iconst (v := 1) hx hb dL_pay_13 (by decide) ?_
  refine W.widen (k := 1) (n := 6) (Nat.le_of_ble_eq_true rfl) (Nat.le_of_ble_eq_true rfl) ?_
  refine vx_ret ?_
  exact W.iret (v := 1) hx hb hr (fun t ht hW => ⟨⟨1, (), rfl, rfl, trivial⟩, hS.F ht⟩) hS.2.2 dL_pay_14
set_option maxRecDepth 100000 in
set_option maxHeartbeats 4000000 in
theorem c_h_refuse (l : Launch) (hl9 : l.stackTraces = false) (D : va_G) (a1 a2 sz : Nat) (h0 h1 h2 : Nat) (g gn gb : Nat → Nat) (p1 : Int32) (o : Nat) : vx_Met l yL_refuse (Cond.codeWith yL_refuse cL_refuse 4 (some .int) [(0, 9, 12, 19)] :: WS) ({ frames := 16, cells := 1, slots := 6, locals := 500 }) (va_Pc [.ref h0, .int p1, .ref o] (pre D a1 a2 [(h0, .inr (11, [.ref h1, .ref h2, .ref (g 2), .ref (g 3), .ref (g 4), .ref (g 5), .ref (g 6), .int 0, .int 0, .int 0, .int 0])), (h1, .inr (6, [.ref (gn 0), .int 0, .ref (gn 2), .ref (gn 3), .int 0, .ref (gn 5), .int 0, .int 0])), (h2, .inr (1, [.ref h1, .ref (gb 1), .int 0]))] [] sz)) (va_Qi (S := Unit) (fun r _ => r = 1) (fun _ _ => True) (va_A [(h0, .inr (11, [.ref h1, .ref h2, .ref (g 2), .ref (g 3), .ref (g 4), .ref (g 5), .ref (g 6), .int 0, .int 0, .int 0, .int 0])), (h1, .inr (6, [.ref (gn 0), .int 0, .ref (gn 2), .ref (gn 3), .int 0, .ref (gn 5), .int 0, .int 0])), (h2, .inr (1, [.ref h1, .ref (gb 1), .int 0]))] sz)) (vx_X (fun _ : Unit => False) (fun _ _ _ => True) (va_A [(h0, .inr (11, [.ref h1, .ref h2, .ref (g 2), .ref (g 3), .ref (g 4), .ref (g 5), .ref (g 6), .int 0, .int 0, .int 0, .int 0])), (h1, .inr (6, [.ref (gn 0), .int 0, .ref (gn 2), .ref (gn 3), .int 0, .ref (gn 5), .int 0, .int 0])), (h2, .inr (1, [.ref h1, .ref (gb 1), .int 0]))] sz)) 1 6 (va_A [(h0, .inr (11, [.ref h1, .ref h2, .ref (g 2), .ref (g 3), .ref (g 4), .ref (g 5), .ref (g 6), .int 0, .int 0, .int 0, .int 0])), (h1, .inr (6, [.ref (gn 0), .int 0, .ref (gn 2), .ref (gn 3), .int 0, .ref (gn 5), .int 0, .int 0])), (h2, .inr (1, [.ref h1, .ref (gb 1), .int 0]))] sz) := by
  refine open_H (by decide +kernel) (Nat.le_of_ble_eq_true rfl) (fun A => va_Qi (S := Unit) (fun r _ => r = 1) (fun _ _ => True) A) (fun A => vx_X (fun _ : Unit => False) (fun _ _ _ => True) A) ?_
  intro p e s m below meth c A ls hG
  obtain ⟨⟨hx, hb, hr, hml, hown, hts, hlocks, hin, hP, hK, hD, hA, hE, hS, hl⟩, hno⟩ := hG
  have hown : s.vm.findClass RL = some m.cls := hown
  have hl : lv_has ls 4 [(0, .ref h0), (1, .int p1), (2, .ref o)] := hl
  refine lv_aload_n hx hb dL_refuse_0 rfl (lv_at hl 2 rfl) ?_
  refine lv_iconst (v := 0) hx hb dL_refuse_1 (by decide) ?_
  refine lv_aload_n hx hb dL_refuse_2 rfl (lv_at hl 0 rfl) ?_
  refine lv_iload_n hx hb dL_refuse_3 rfl (lv_at hl 1 rfl) ?_
  have f_1 := free_of (wc := [(h0, .inr (11, [.ref h1, .ref h2, .ref (g 2), .ref (g 3), .ref (g 4), .ref (g 5), .ref (g 6), .int 0, .int 0, .int 0, .int 0])), (h1, .inr (6, [.ref (gn 0), .int 0, .ref (gn 2), .ref (gn 3), .int 0, .ref (gn 5), .int 0, .int 0])), (h2, .inr (1, [.ref h1, .ref (gb 1), .int 0]))]) hD hS hA [0, 1, 2] rfl
  refine never (vx_runV (As := [.int p1]) (rest := [.int 0, .ref o]) ⟨hx, hb, hml, hown, hts⟩ (c_x_refuse l hl9 D a1 a2 s.heap.size h0 h1 h2 g gn gb p1) (cwV 1 hts (gV w_90 w_91 w_92 w_8 w_93) rfl rfl rfl (by decide +kernel) ⟨Nat.le_of_ble_eq_true rfl, Nat.le_of_ble_eq_true rfl⟩) (pre_V hK hP hD hS hA hE [0, 1, 2] rfl (by decide) rfl [] rfl (ci := 11) (q0 := 0) rfl rfl) rfl rfl hl.1 rfl (lv_room (Nat.le_of_ble_eq_true rfl)) dL_refuse_4 ⟨Nat.le_of_ble_eq_true rfl, Nat.le_of_ble_eq_true rfl⟩) (fun _ _ _ h => h) hS f_1 (fun q _ h => f_1 q h) (fun E ce q9 u9 t H locs ht hvm hw hB hz1 hk1 hS hce hcv hcl => ?_)
  subst hB
  refine vx_catch (own := RL) (name := "java/util/NoSuchElementException") (E := "java/util/NoSuchElementException") hown [] ⟨0, 9, 12, 19⟩ [] (by rw [hno]; rfl) (fun z hz => nomatch hz) (by decide) (by decide) (hts (.classLink RL 19 "java/util/NoSuchElementException") w_45) (va_Nw.use rfl hE.1.2.1.1) hce hcv hcl ?_
  refine W.eq (g2 := F0 m 12 ls [.ref q9]) rfl ?_
  refine lv_astore_n (lv' := [(3, .ref q9), (0, .ref h0), (1, .int p1), (2, .ref o)]) hx hb dL_refuse_12 rfl hl (by decide) rfl (fun ls hl => ?_)
  refine lv_iconst (v := 1) hx hb dL_refuse_13 (by decide) ?_
  refine W.widen (k := 1) (n := 6) (Nat.le_of_ble_eq_true rfl) (Nat.le_of_ble_eq_true rfl) ?_
  refine vx_ret ?_
  exact W.iret (v := 1) hx hb hr (fun t ht hW => ⟨⟨1, (), rfl, rfl, trivial⟩, hS.F ht⟩) hS.2.2 dL_refuse_14
set_option maxRecDepth 100000 in
set_option maxHeartbeats 4000000 in
theorem c_h_reroute (l : Launch) (hl9 : l.stackTraces = false) (D : va_G) (a1 a2 sz : Nat) (h0 h1 h2 : Nat) (g gn gb : Nat → Nat) (p1 : Int32) (o : Nat) : vx_Met l yL_reroute (Cond.codeWith yL_reroute cL_reroute 4 (some .int) [(0, 9, 12, 19)] :: WS) ({ frames := 16, cells := 1, slots := 6, locals := 500 }) (va_Pc [.ref h0, .int p1, .ref o] (pre D a1 a2 [(h0, .inr (11, [.ref h1, .ref h2, .ref (g 2), .ref (g 3), .ref (g 4), .ref (g 5), .ref (g 6), .int 0, .int 0, .int 0, .int 0])), (h1, .inr (6, [.ref (gn 0), .int 0, .ref (gn 2), .ref (gn 3), .int 0, .ref (gn 5), .int 0, .int 0])), (h2, .inr (1, [.ref h1, .ref (gb 1), .int 0]))] [] sz)) (va_Qi (S := Unit) (fun r _ => r = 1) (fun _ _ => True) (va_A [(h0, .inr (11, [.ref h1, .ref h2, .ref (g 2), .ref (g 3), .ref (g 4), .ref (g 5), .ref (g 6), .int 0, .int 0, .int 0, .int 0])), (h1, .inr (6, [.ref (gn 0), .int 0, .ref (gn 2), .ref (gn 3), .int 0, .ref (gn 5), .int 0, .int 0])), (h2, .inr (1, [.ref h1, .ref (gb 1), .int 0]))] sz)) (vx_X (fun _ : Unit => False) (fun _ _ _ => True) (va_A [(h0, .inr (11, [.ref h1, .ref h2, .ref (g 2), .ref (g 3), .ref (g 4), .ref (g 5), .ref (g 6), .int 0, .int 0, .int 0, .int 0])), (h1, .inr (6, [.ref (gn 0), .int 0, .ref (gn 2), .ref (gn 3), .int 0, .ref (gn 5), .int 0, .int 0])), (h2, .inr (1, [.ref h1, .ref (gb 1), .int 0]))] sz)) 1 6 (va_A [(h0, .inr (11, [.ref h1, .ref h2, .ref (g 2), .ref (g 3), .ref (g 4), .ref (g 5), .ref (g 6), .int 0, .int 0, .int 0, .int 0])), (h1, .inr (6, [.ref (gn 0), .int 0, .ref (gn 2), .ref (gn 3), .int 0, .ref (gn 5), .int 0, .int 0])), (h2, .inr (1, [.ref h1, .ref (gb 1), .int 0]))] sz) := by
  refine open_H (by decide +kernel) (Nat.le_of_ble_eq_true rfl) (fun A => va_Qi (S := Unit) (fun r _ => r = 1) (fun _ _ => True) A) (fun A => vx_X (fun _ : Unit => False) (fun _ _ _ => True) A) ?_
  intro p e s m below meth c A ls hG
  obtain ⟨⟨hx, hb, hr, hml, hown, hts, hlocks, hin, hP, hK, hD, hA, hE, hS, hl⟩, hno⟩ := hG
  have hown : s.vm.findClass RL = some m.cls := hown
  have hl : lv_has ls 4 [(0, .ref h0), (1, .int p1), (2, .ref o)] := hl
  refine lv_aload_n hx hb dL_reroute_0 rfl (lv_at hl 2 rfl) ?_
  refine lv_iconst (v := 0) hx hb dL_reroute_1 (by decide) ?_
  refine lv_aload_n hx hb dL_reroute_2 rfl (lv_at hl 0 rfl) ?_
  refine lv_iload_n hx hb dL_reroute_3 rfl (lv_at hl 1 rfl) ?_
  have f_1 := free_of (wc := [(h0, .inr (11, [.ref h1, .ref h2, .ref (g 2), .ref (g 3), .ref (g 4), .ref (g 5), .ref (g 6), .int 0, .int 0, .int 0, .int 0])), (h1, .inr (6, [.ref (gn 0), .int 0, .ref (gn 2), .ref (gn 3), .int 0, .ref (gn 5), .int 0, .int 0])), (h2, .inr (1, [.ref h1, .ref (gb 1), .int 0]))]) hD hS hA [0, 1, 2] rfl
  refine never (vx_runV (As := [.int p1]) (rest := [.int 0, .ref o]) ⟨hx, hb, hml, hown, hts⟩ (c_x_reroute l hl9 D a1 a2 s.heap.size h0 h1 h2 g gn gb p1) (cwV 1 hts (gV w_94 w_95 w_96 w_8 w_97) rfl rfl rfl (by decide +kernel) ⟨Nat.le_of_ble_eq_true rfl, Nat.le_of_ble_eq_true rfl⟩) (pre_V hK hP hD hS hA hE [0, 1, 2] rfl (by decide) rfl [] rfl (ci := 11) (q0 := 0) rfl rfl) rfl rfl hl.1 rfl (lv_room (Nat.le_of_ble_eq_true rfl)) dL_reroute_4 ⟨Nat.le_of_ble_eq_true rfl, Nat.le_of_ble_eq_true rfl⟩) (fun _ _ _ h => h) hS f_1 (fun q _ h => f_1 q h) (fun E ce q9 u9 t H locs ht hvm hw hB hz1 hk1 hS hce hcv hcl => ?_)
  subst hB
  refine vx_catch (own := RL) (name := "java/util/NoSuchElementException") (E := "java/util/NoSuchElementException") hown [] ⟨0, 9, 12, 19⟩ [] (by rw [hno]; rfl) (fun z hz => nomatch hz) (by decide) (by decide) (hts (.classLink RL 19 "java/util/NoSuchElementException") w_45) (va_Nw.use rfl hE.1.2.1.1) hce hcv hcl ?_
  refine W.eq (g2 := F0 m 12 ls [.ref q9]) rfl ?_
  refine lv_astore_n (lv' := [(3, .ref q9), (0, .ref h0), (1, .int p1), (2, .ref o)]) hx hb dL_reroute_12 rfl hl (by decide) rfl (fun ls hl => ?_)
  refine lv_iconst (v := 1) hx hb dL_reroute_13 (by decide) ?_
  refine W.widen (k := 1) (n := 6) (Nat.le_of_ble_eq_true rfl) (Nat.le_of_ble_eq_true rfl) ?_
  refine vx_ret ?_
  exact W.iret (v := 1) hx hb hr (fun t ht hW => ⟨⟨1, (), rfl, rfl, trivial⟩, hS.F ht⟩) hS.2.2 dL_reroute_14
set_option maxRecDepth 100000 in
set_option maxHeartbeats 4000000 in
theorem c_h_placeOf (l : Launch) (hl9 : l.stackTraces = false) (D : va_G) (a1 a2 sz : Nat) (h0 h1 h2 : Nat) (g gn gb : Nat → Nat) (p1 p2 : Int32) (o : Nat) : vx_Met l yL_placeOf (Cond.codeWith yL_placeOf cL_placeOf 5 (some .int) [(0, 10, 13, 19), (0, 10, 17, 13)] :: WS) ({ frames := 16, cells := 1, slots := 6, locals := 500 }) (va_Pc [.ref h0, .int p1, .int p2, .ref o] (pre D a1 a2 [(h0, .inr (11, [.ref h1, .ref h2, .ref (g 2), .ref (g 3), .ref (g 4), .ref (g 5), .ref (g 6), .int 0, .int 0, .int 0, .int 0])), (h1, .inr (6, [.ref (gn 0), .int 0, .ref (gn 2), .ref (gn 3), .int 0, .ref (gn 5), .int 0, .int 0])), (h2, .inr (1, [.ref h1, .ref (gb 1), .int 0]))] [] sz)) (va_Qi (S := Unit) (fun r _ => r = 1) (fun _ _ => True) (va_A [(h0, .inr (11, [.ref h1, .ref h2, .ref (g 2), .ref (g 3), .ref (g 4), .ref (g 5), .ref (g 6), .int 0, .int 0, .int 0, .int 0])), (h1, .inr (6, [.ref (gn 0), .int 0, .ref (gn 2), .ref (gn 3), .int 0, .ref (gn 5), .int 0, .int 0])), (h2, .inr (1, [.ref h1, .ref (gb 1), .int 0]))] sz)) (vx_X (fun _ : Unit => False) (fun _ _ _ => True) (va_A [(h0, .inr (11, [.ref h1, .ref h2, .ref (g 2), .ref (g 3), .ref (g 4), .ref (g 5), .ref (g 6), .int 0, .int 0, .int 0, .int 0])), (h1, .inr (6, [.ref (gn 0), .int 0, .ref (gn 2), .ref (gn 3), .int 0, .ref (gn 5), .int 0, .int 0])), (h2, .inr (1, [.ref h1, .ref (gb 1), .int 0]))] sz)) 1 6 (va_A [(h0, .inr (11, [.ref h1, .ref h2, .ref (g 2), .ref (g 3), .ref (g 4), .ref (g 5), .ref (g 6), .int 0, .int 0, .int 0, .int 0])), (h1, .inr (6, [.ref (gn 0), .int 0, .ref (gn 2), .ref (gn 3), .int 0, .ref (gn 5), .int 0, .int 0])), (h2, .inr (1, [.ref h1, .ref (gb 1), .int 0]))] sz) := by
  refine open_H (by decide +kernel) (Nat.le_of_ble_eq_true rfl) (fun A => va_Qi (S := Unit) (fun r _ => r = 1) (fun _ _ => True) A) (fun A => vx_X (fun _ : Unit => False) (fun _ _ _ => True) A) ?_
  intro p e s m below meth c A ls hG
  obtain ⟨⟨hx, hb, hr, hml, hown, hts, hlocks, hin, hP, hK, hD, hA, hE, hS, hl⟩, hno⟩ := hG
  have hown : s.vm.findClass RL = some m.cls := hown
  have hl : lv_has ls 5 [(0, .ref h0), (1, .int p1), (2, .int p2), (3, .ref o)] := hl
  refine lv_aload_n hx hb dL_placeOf_0 rfl (lv_at hl 3 rfl) ?_
  refine lv_iconst (v := 0) hx hb dL_placeOf_1 (by decide) ?_
  refine lv_aload_n hx hb dL_placeOf_2 rfl (lv_at hl 0 rfl) ?_
  refine lv_iload_n hx hb dL_placeOf_3 rfl (lv_at hl 1 rfl) ?_
  refine lv_iload_n hx hb dL_placeOf_4 rfl (lv_at hl 2 rfl) ?_
  have f_1 := free_of (wc := [(h0, .inr (11, [.ref h1, .ref h2, .ref (g 2), .ref (g 3), .ref (g 4), .ref (g 5), .ref (g 6), .int 0, .int 0, .int 0, .int 0])), (h1, .inr (6, [.ref (gn 0), .int 0, .ref (gn 2), .ref (gn 3), .int 0, .ref (gn 5), .int 0, .int 0])), (h2, .inr (1, [.ref h1, .ref (gb 1), .int 0]))]) hD hS hA [0, 1, 2] rfl
  refine never (vx_runV (As := [.int p1, .int p2]) (rest := [.int 0, .ref o]) ⟨hx, hb, hml, hown, hts⟩ (c_x_placeOf l hl9 D a1 a2 s.heap.size h0 h1 h2 g gn gb p1 p2) (cwV 2 hts (gV w_98 w_99 w_100 w_8 w_101) rfl rfl rfl (by decide +kernel) ⟨Nat.le_of_ble_eq_true rfl, Nat.le_of_ble_eq_true rfl⟩) (pre_V hK hP hD hS hA hE [0, 1, 2] rfl (by decide) rfl [] rfl (ci := 11) (q0 := 0) rfl rfl) rfl rfl hl.1 rfl (lv_room (Nat.le_of_ble_eq_true rfl)) dL_placeOf_5 ⟨Nat.le_of_ble_eq_true rfl, Nat.le_of_ble_eq_true rfl⟩) (fun _ _ _ h => h) hS f_1 (fun q _ h => f_1 q h) (fun E ce q9 u9 t H locs ht hvm hw hB hz1 hk1 hS hce hcv hcl => ?_)
  subst hB
  refine vx_catch (own := RL) (name := "java/util/NoSuchElementException") (E := "java/util/NoSuchElementException") hown [] ⟨0, 10, 13, 19⟩ [⟨0, 10, 17, 13⟩] (by rw [hno]; rfl) (fun z hz => nomatch hz) (by decide) (by decide) (hts (.classLink RL 19 "java/util/NoSuchElementException") w_45) (va_Nw.use rfl hE.1.2.1.1) hce hcv hcl ?_
  refine W.eq (g2 := F0 m 13 ls [.ref q9]) rfl ?_
  refine lv_astore (lv' := [(4, .ref q9), (0, .ref h0), (1, .int p1), (2, .int p2), (3, .ref o)]) hx hb dL_placeOf_13 hl (by decide) rfl (fun ls hl => ?_)
  refine lv_iconst (v := 1) hx hb dL_placeOf_15 (by decide) ?_
  refine W.widen (k := 1) (n := 6) (Nat.le_of_ble_eq_true rfl) (Nat.le_of_ble_eq_true rfl) ?_
  refine vx_ret ?_
  exact W.iret (v := 1) hx hb hr (fun t ht hW => ⟨⟨1, (), rfl, rfl, trivial⟩, hS.F ht⟩) hS.2.2 dL_placeOf_16
set_option maxRecDepth 100000 in
set_option maxHeartbeats 4000000 in
theorem c_h_accountOf (l : Launch) (hl9 : l.stackTraces = false) (D : va_G) (a1 a2 sz : Nat) (h0 h1 h2 : Nat) (g gn gb : Nat → Nat) (p1 p2 : Int32) (o : Nat) : vx_Met l yL_accountOf (Cond.codeWith yL_accountOf cL_accountOf 5 (some .int) [(0, 10, 13, 19), (0, 10, 17, 13)] :: WS) ({ frames := 16, cells := 1, slots := 6, locals := 500 }) (va_Pc [.ref h0, .int p1, .int p2, .ref o] (pre D a1 a2 [(h0, .inr (11, [.ref h1, .ref h2, .ref (g 2), .ref (g 3), .ref (g 4), .ref (g 5), .ref (g 6), .int 0, .int 0, .int 0, .int 0])), (h1, .inr (6, [.ref (gn 0), .int 0, .ref (gn 2), .ref (gn 3), .int 0, .ref (gn 5), .int 0, .int 0])), (h2, .inr (1, [.ref h1, .ref (gb 1), .int 0]))] [] sz)) (va_Qi (S := Unit) (fun r _ => r = 1) (fun _ _ => True) (va_A [(h0, .inr (11, [.ref h1, .ref h2, .ref (g 2), .ref (g 3), .ref (g 4), .ref (g 5), .ref (g 6), .int 0, .int 0, .int 0, .int 0])), (h1, .inr (6, [.ref (gn 0), .int 0, .ref (gn 2), .ref (gn 3), .int 0, .ref (gn 5), .int 0, .int 0])), (h2, .inr (1, [.ref h1, .ref (gb 1), .int 0]))] sz)) (vx_X (fun _ : Unit => False) (fun _ _ _ => True) (va_A [(h0, .inr (11, [.ref h1, .ref h2, .ref (g 2), .ref (g 3), .ref (g 4), .ref (g 5), .ref (g 6), .int 0, .int 0, .int 0, .int 0])), (h1, .inr (6, [.ref (gn 0), .int 0, .ref (gn 2), .ref (gn 3), .int 0, .ref (gn 5), .int 0, .int 0])), (h2, .inr (1, [.ref h1, .ref (gb 1), .int 0]))] sz)) 1 6 (va_A [(h0, .inr (11, [.ref h1, .ref h2, .ref (g 2), .ref (g 3), .ref (g 4), .ref (g 5), .ref (g 6), .int 0, .int 0, .int 0, .int 0])), (h1, .inr (6, [.ref (gn 0), .int 0, .ref (gn 2), .ref (gn 3), .int 0, .ref (gn 5), .int 0, .int 0])), (h2, .inr (1, [.ref h1, .ref (gb 1), .int 0]))] sz) := by
  refine open_H (by decide +kernel) (Nat.le_of_ble_eq_true rfl) (fun A => va_Qi (S := Unit) (fun r _ => r = 1) (fun _ _ => True) A) (fun A => vx_X (fun _ : Unit => False) (fun _ _ _ => True) A) ?_
  intro p e s m below meth c A ls hG
  obtain ⟨⟨hx, hb, hr, hml, hown, hts, hlocks, hin, hP, hK, hD, hA, hE, hS, hl⟩, hno⟩ := hG
  have hown : s.vm.findClass RL = some m.cls := hown
  have hl : lv_has ls 5 [(0, .ref h0), (1, .int p1), (2, .int p2), (3, .ref o)] := hl
  refine lv_aload_n hx hb dL_accountOf_0 rfl (lv_at hl 3 rfl) ?_
  refine lv_iconst (v := 0) hx hb dL_accountOf_1 (by decide) ?_
  refine lv_aload_n hx hb dL_accountOf_2 rfl (lv_at hl 0 rfl) ?_
  refine lv_iload_n hx hb dL_accountOf_3 rfl (lv_at hl 1 rfl) ?_
  refine lv_iload_n hx hb dL_accountOf_4 rfl (lv_at hl 2 rfl) ?_
  have f_1 := free_of (wc := [(h0, .inr (11, [.ref h1, .ref h2, .ref (g 2), .ref (g 3), .ref (g 4), .ref (g 5), .ref (g 6), .int 0, .int 0, .int 0, .int 0])), (h1, .inr (6, [.ref (gn 0), .int 0, .ref (gn 2), .ref (gn 3), .int 0, .ref (gn 5), .int 0, .int 0])), (h2, .inr (1, [.ref h1, .ref (gb 1), .int 0]))]) hD hS hA [0, 1, 2] rfl
  refine never (vx_runV (As := [.int p1, .int p2]) (rest := [.int 0, .ref o]) ⟨hx, hb, hml, hown, hts⟩ (c_x_accountOf l hl9 D a1 a2 s.heap.size h0 h1 h2 g gn gb p1 p2) (cwV 2 hts (gV w_102 w_103 w_104 w_8 w_105) rfl rfl rfl (by decide +kernel) ⟨Nat.le_of_ble_eq_true rfl, Nat.le_of_ble_eq_true rfl⟩) (pre_V hK hP hD hS hA hE [0, 1, 2] rfl (by decide) rfl [] rfl (ci := 11) (q0 := 0) rfl rfl) rfl rfl hl.1 rfl (lv_room (Nat.le_of_ble_eq_true rfl)) dL_accountOf_5 ⟨Nat.le_of_ble_eq_true rfl, Nat.le_of_ble_eq_true rfl⟩) (fun _ _ _ h => h) hS f_1 (fun q _ h => f_1 q h) (fun E ce q9 u9 t H locs ht hvm hw hB hz1 hk1 hS hce hcv hcl => ?_)
  subst hB
  refine vx_catch (own := RL) (name := "java/util/NoSuchElementException") (E := "java/util/NoSuchElementException") hown [] ⟨0, 10, 13, 19⟩ [⟨0, 10, 17, 13⟩] (by rw [hno]; rfl) (fun z hz => nomatch hz) (by decide) (by decide) (hts (.classLink RL 19 "java/util/NoSuchElementException") w_45) (va_Nw.use rfl hE.1.2.1.1) hce hcv hcl ?_
  refine W.eq (g2 := F0 m 13 ls [.ref q9]) rfl ?_
  refine lv_astore (lv' := [(4, .ref q9), (0, .ref h0), (1, .int p1), (2, .int p2), (3, .ref o)]) hx hb dL_accountOf_13 hl (by decide) rfl (fun ls hl => ?_)
  refine lv_iconst (v := 1) hx hb dL_accountOf_15 (by decide) ?_
  refine W.widen (k := 1) (n := 6) (Nat.le_of_ble_eq_true rfl) (Nat.le_of_ble_eq_true rfl) ?_
  refine vx_ret ?_
  exact W.iret (v := 1) hx hb hr (fun t ht hW => ⟨⟨1, (), rfl, rfl, trivial⟩, hS.F ht⟩) hS.2.2 dL_accountOf_16
set_option maxRecDepth 100000 in
set_option maxHeartbeats 4000000 in
theorem c_h_payment (l : Launch) (hl9 : l.stackTraces = false) (D : va_G) (a1 a2 sz : Nat) (h0 h1 h2 : Nat) (g gn gb : Nat → Nat) (p1 p2 : Int32) (o : Nat) : vx_Met l yL_payment (Cond.codeWith yL_payment cL_payment 5 (some .int) [(0, 10, 13, 19), (0, 10, 17, 13)] :: WS) ({ frames := 16, cells := 1, slots := 6, locals := 500 }) (va_Pc [.ref h0, .int p1, .int p2, .ref o] (pre D a1 a2 [(h0, .inr (11, [.ref h1, .ref h2, .ref (g 2), .ref (g 3), .ref (g 4), .ref (g 5), .ref (g 6), .int 0, .int 0, .int 0, .int 0])), (h1, .inr (6, [.ref (gn 0), .int 0, .ref (gn 2), .ref (gn 3), .int 0, .ref (gn 5), .int 0, .int 0])), (h2, .inr (1, [.ref h1, .ref (gb 1), .int 0]))] [] sz)) (va_Qi (S := Unit) (fun r _ => r = 1) (fun _ _ => True) (va_A [(h0, .inr (11, [.ref h1, .ref h2, .ref (g 2), .ref (g 3), .ref (g 4), .ref (g 5), .ref (g 6), .int 0, .int 0, .int 0, .int 0])), (h1, .inr (6, [.ref (gn 0), .int 0, .ref (gn 2), .ref (gn 3), .int 0, .ref (gn 5), .int 0, .int 0])), (h2, .inr (1, [.ref h1, .ref (gb 1), .int 0]))] sz)) (vx_X (fun _ : Unit => False) (fun _ _ _ => True) (va_A [(h0, .inr (11, [.ref h1, .ref h2, .ref (g 2), .ref (g 3), .ref (g 4), .ref (g 5), .ref (g 6), .int 0, .int 0, .int 0, .int 0])), (h1, .inr (6, [.ref (gn 0), .int 0, .ref (gn 2), .ref (gn 3), .int 0, .ref (gn 5), .int 0, .int 0])), (h2, .inr (1, [.ref h1, .ref (gb 1), .int 0]))] sz)) 1 6 (va_A [(h0, .inr (11, [.ref h1, .ref h2, .ref (g 2), .ref (g 3), .ref (g 4), .ref (g 5), .ref (g 6), .int 0, .int 0, .int 0, .int 0])), (h1, .inr (6, [.ref (gn 0), .int 0, .ref (gn 2), .ref (gn 3), .int 0, .ref (gn 5), .int 0, .int 0])), (h2, .inr (1, [.ref h1, .ref (gb 1), .int 0]))] sz) := by
  refine open_H (by decide +kernel) (Nat.le_of_ble_eq_true rfl) (fun A => va_Qi (S := Unit) (fun r _ => r = 1) (fun _ _ => True) A) (fun A => vx_X (fun _ : Unit => False) (fun _ _ _ => True) A) ?_
  intro p e s m below meth c A ls hG
  obtain ⟨⟨hx, hb, hr, hml, hown, hts, hlocks, hin, hP, hK, hD, hA, hE, hS, hl⟩, hno⟩ := hG
  have hown : s.vm.findClass RL = some m.cls := hown
  have hl : lv_has ls 5 [(0, .ref h0), (1, .int p1), (2, .int p2), (3, .ref o)] := hl
  refine lv_aload_n hx hb dL_payment_0 rfl (lv_at hl 3 rfl) ?_
  refine lv_iconst (v := 0) hx hb dL_payment_1 (by decide) ?_
  refine lv_aload_n hx hb dL_payment_2 rfl (lv_at hl 0 rfl) ?_
  refine lv_iload_n hx hb dL_payment_3 rfl (lv_at hl 1 rfl) ?_
  refine lv_iload_n hx hb dL_payment_4 rfl (lv_at hl 2 rfl) ?_
  have f_1 := free_of (wc := [(h0, .inr (11, [.ref h1, .ref h2, .ref (g 2), .ref (g 3), .ref (g 4), .ref (g 5), .ref (g 6), .int 0, .int 0, .int 0, .int 0])), (h1, .inr (6, [.ref (gn 0), .int 0, .ref (gn 2), .ref (gn 3), .int 0, .ref (gn 5), .int 0, .int 0])), (h2, .inr (1, [.ref h1, .ref (gb 1), .int 0]))]) hD hS hA [0, 1, 2] rfl
  refine never (vx_runV (As := [.int p1, .int p2]) (rest := [.int 0, .ref o]) ⟨hx, hb, hml, hown, hts⟩ (c_x_payment l hl9 D a1 a2 s.heap.size h0 h1 h2 g gn gb p1 p2) (cwV 2 hts (gV w_106 w_107 w_108 w_8 w_109) rfl rfl rfl (by decide +kernel) ⟨Nat.le_of_ble_eq_true rfl, Nat.le_of_ble_eq_true rfl⟩) (pre_V hK hP hD hS hA hE [0, 1, 2] rfl (by decide) rfl [] rfl (ci := 11) (q0 := 0) rfl rfl) rfl rfl hl.1 rfl (lv_room (Nat.le_of_ble_eq_true rfl)) dL_payment_5 ⟨Nat.le_of_ble_eq_true rfl, Nat.le_of_ble_eq_true rfl⟩) (fun _ _ _ h => h) hS f_1 (fun q _ h => f_1 q h) (fun E ce q9 u9 t H locs ht hvm hw hB hz1 hk1 hS hce hcv hcl => ?_)
  subst hB
  refine vx_catch (own := RL) (name := "java/util/NoSuchElementException") (E := "java/util/NoSuchElementException") hown [] ⟨0, 10, 13, 19⟩ [⟨0, 10, 17, 13⟩] (by rw [hno]; rfl) (fun z hz => nomatch hz) (by decide) (by decide) (hts (.classLink RL 19 "java/util/NoSuchElementException") w_45) (va_Nw.use rfl hE.1.2.1.1) hce hcv hcl ?_
  refine W.eq (g2 := F0 m 13 ls [.ref q9]) rfl ?_
  refine lv_astore (lv' := [(4, .ref q9), (0, .ref h0), (1, .int p1), (2, .int p2), (3, .ref o)]) hx hb dL_payment_13 hl (by decide) rfl (fun ls hl => ?_)
  refine lv_iconst (v := 1) hx hb dL_payment_15 (by decide) ?_
  refine W.widen (k := 1) (n := 6) (Nat.le_of_ble_eq_true rfl) (Nat.le_of_ble_eq_true rfl) ?_
  refine vx_ret ?_
  exact W.iret (v := 1) hx hb hr (fun t ht hW => ⟨⟨1, (), rfl, rfl, trivial⟩, hS.F ht⟩) hS.2.2 dL_payment_16
set_option maxRecDepth 100000 in
set_option maxHeartbeats 4000000 in
theorem c_h_leg (l : Launch) (hl9 : l.stackTraces = false) (D : va_G) (a1 a2 sz : Nat) (h0 h1 h2 : Nat) (g gn gb : Nat → Nat) (p1 p2 p3 : Int32) (o : Nat) : vx_Met l yL_leg (Cond.codeWith yL_leg cL_leg 6 (some .int) [(0, 12, 15, 19), (0, 12, 19, 13)] :: WS) ({ frames := 16, cells := 1, slots := 6, locals := 500 }) (va_Pc [.ref h0, .int p1, .int p2, .int p3, .ref o] (pre D a1 a2 [(h0, .inr (11, [.ref h1, .ref h2, .ref (g 2), .ref (g 3), .ref (g 4), .ref (g 5), .ref (g 6), .int 0, .int 0, .int 0, .int 0])), (h1, .inr (6, [.ref (gn 0), .int 0, .ref (gn 2), .ref (gn 3), .int 0, .ref (gn 5), .int 0, .int 0])), (h2, .inr (1, [.ref h1, .ref (gb 1), .int 0]))] [] sz)) (va_Qi (S := Unit) (fun r _ => r = 1) (fun _ _ => True) (va_A [(h0, .inr (11, [.ref h1, .ref h2, .ref (g 2), .ref (g 3), .ref (g 4), .ref (g 5), .ref (g 6), .int 0, .int 0, .int 0, .int 0])), (h1, .inr (6, [.ref (gn 0), .int 0, .ref (gn 2), .ref (gn 3), .int 0, .ref (gn 5), .int 0, .int 0])), (h2, .inr (1, [.ref h1, .ref (gb 1), .int 0]))] sz)) (vx_X (fun _ : Unit => False) (fun _ _ _ => True) (va_A [(h0, .inr (11, [.ref h1, .ref h2, .ref (g 2), .ref (g 3), .ref (g 4), .ref (g 5), .ref (g 6), .int 0, .int 0, .int 0, .int 0])), (h1, .inr (6, [.ref (gn 0), .int 0, .ref (gn 2), .ref (gn 3), .int 0, .ref (gn 5), .int 0, .int 0])), (h2, .inr (1, [.ref h1, .ref (gb 1), .int 0]))] sz)) 1 6 (va_A [(h0, .inr (11, [.ref h1, .ref h2, .ref (g 2), .ref (g 3), .ref (g 4), .ref (g 5), .ref (g 6), .int 0, .int 0, .int 0, .int 0])), (h1, .inr (6, [.ref (gn 0), .int 0, .ref (gn 2), .ref (gn 3), .int 0, .ref (gn 5), .int 0, .int 0])), (h2, .inr (1, [.ref h1, .ref (gb 1), .int 0]))] sz) := by
  refine open_H (by decide +kernel) (Nat.le_of_ble_eq_true rfl) (fun A => va_Qi (S := Unit) (fun r _ => r = 1) (fun _ _ => True) A) (fun A => vx_X (fun _ : Unit => False) (fun _ _ _ => True) A) ?_
  intro p e s m below meth c A ls hG
  obtain ⟨⟨hx, hb, hr, hml, hown, hts, hlocks, hin, hP, hK, hD, hA, hE, hS, hl⟩, hno⟩ := hG
  have hown : s.vm.findClass RL = some m.cls := hown
  have hl : lv_has ls 6 [(0, .ref h0), (1, .int p1), (2, .int p2), (3, .int p3), (4, .ref o)] := hl
  refine lv_aload hx hb dL_leg_0 (lv_at hl 4 rfl) ?_
  refine lv_iconst (v := 0) hx hb dL_leg_2 (by decide) ?_
  refine lv_aload_n hx hb dL_leg_3 rfl (lv_at hl 0 rfl) ?_
  refine lv_iload_n hx hb dL_leg_4 rfl (lv_at hl 1 rfl) ?_
  refine lv_iload_n hx hb dL_leg_5 rfl (lv_at hl 2 rfl) ?_
  refine lv_iload_n hx hb dL_leg_6 rfl (lv_at hl 3 rfl) ?_
  have f_1 := free_of (wc := [(h0, .inr (11, [.ref h1, .ref h2, .ref (g 2), .ref (g 3), .ref (g 4), .ref (g 5), .ref (g 6), .int 0, .int 0, .int 0, .int 0])), (h1, .inr (6, [.ref (gn 0), .int 0, .ref (gn 2), .ref (gn 3), .int 0, .ref (gn 5), .int 0, .int 0])), (h2, .inr (1, [.ref h1, .ref (gb 1), .int 0]))]) hD hS hA [0, 1, 2] rfl
  refine never (vx_runV (As := [.int p1, .int p2, .int p3]) (rest := [.int 0, .ref o]) ⟨hx, hb, hml, hown, hts⟩ (c_x_leg l hl9 D a1 a2 s.heap.size h0 h1 h2 g gn gb p1 p2 p3) (cwV 3 hts (gV w_110 w_111 w_112 w_8 w_113) rfl rfl rfl (by decide +kernel) ⟨Nat.le_of_ble_eq_true rfl, Nat.le_of_ble_eq_true rfl⟩) (pre_V hK hP hD hS hA hE [0, 1, 2] rfl (by decide) rfl [] rfl (ci := 11) (q0 := 0) rfl rfl) rfl rfl hl.1 rfl (lv_room (Nat.le_of_ble_eq_true rfl)) dL_leg_7 ⟨Nat.le_of_ble_eq_true rfl, Nat.le_of_ble_eq_true rfl⟩) (fun _ _ _ h => h) hS f_1 (fun q _ h => f_1 q h) (fun E ce q9 u9 t H locs ht hvm hw hB hz1 hk1 hS hce hcv hcl => ?_)
  subst hB
  refine vx_catch (own := RL) (name := "java/util/NoSuchElementException") (E := "java/util/NoSuchElementException") hown [] ⟨0, 12, 15, 19⟩ [⟨0, 12, 19, 13⟩] (by rw [hno]; rfl) (fun z hz => nomatch hz) (by decide) (by decide) (hts (.classLink RL 19 "java/util/NoSuchElementException") w_45) (va_Nw.use rfl hE.1.2.1.1) hce hcv hcl ?_
  refine W.eq (g2 := F0 m 15 ls [.ref q9]) rfl ?_
  refine lv_astore (lv' := [(5, .ref q9), (0, .ref h0), (1, .int p1), (2, .int p2), (3, .int p3), (4, .ref o)]) hx hb dL_leg_15 hl (by decide) rfl (fun ls hl => ?_)
  refine lv_iconst (v := 1) hx hb dL_leg_17 (by decide) ?_
  refine W.widen (k := 1) (n := 6) (Nat.le_of_ble_eq_true rfl) (Nat.le_of_ble_eq_true rfl) ?_
  refine vx_ret ?_
  exact W.iret (v := 1) hx hb hr (fun t ht hW => ⟨⟨1, (), rfl, rfl, trivial⟩, hS.F ht⟩) hS.2.2 dL_leg_18
set_option maxRecDepth 100000 in
set_option maxHeartbeats 4000000 in
theorem c_h_used (l : Launch) (hl9 : l.stackTraces = false) (D : va_G) (a1 a2 sz : Nat) (h0 h1 h2 : Nat) (g gn gb : Nat → Nat) (p1 p2 : Int32) (o : Nat) : vx_Met l yL_used (Cond.codeWith yL_used cL_used 5 (some .int) [(0, 10, 13, 19), (0, 10, 17, 13)] :: WS) ({ frames := 16, cells := 1, slots := 6, locals := 500 }) (va_Pc [.ref h0, .int p1, .int p2, .ref o] (pre D a1 a2 [(h0, .inr (11, [.ref h1, .ref h2, .ref (g 2), .ref (g 3), .ref (g 4), .ref (g 5), .ref (g 6), .int 0, .int 0, .int 0, .int 0])), (h1, .inr (6, [.ref (gn 0), .int 0, .ref (gn 2), .ref (gn 3), .int 0, .ref (gn 5), .int 0, .int 0])), (h2, .inr (1, [.ref h1, .ref (gb 1), .int 0]))] [] sz)) (va_Qi (S := Unit) (fun r _ => r = 1) (fun _ _ => True) (va_A [(h0, .inr (11, [.ref h1, .ref h2, .ref (g 2), .ref (g 3), .ref (g 4), .ref (g 5), .ref (g 6), .int 0, .int 0, .int 0, .int 0])), (h1, .inr (6, [.ref (gn 0), .int 0, .ref (gn 2), .ref (gn 3), .int 0, .ref (gn 5), .int 0, .int 0])), (h2, .inr (1, [.ref h1, .ref (gb 1), .int 0]))] sz)) (vx_X (fun _ : Unit => False) (fun _ _ _ => True) (va_A [(h0, .inr (11, [.ref h1, .ref h2, .ref (g 2), .ref (g 3), .ref (g 4), .ref (g 5), .ref (g 6), .int 0, .int 0, .int 0, .int 0])), (h1, .inr (6, [.ref (gn 0), .int 0, .ref (gn 2), .ref (gn 3), .int 0, .ref (gn 5), .int 0, .int 0])), (h2, .inr (1, [.ref h1, .ref (gb 1), .int 0]))] sz)) 1 6 (va_A [(h0, .inr (11, [.ref h1, .ref h2, .ref (g 2), .ref (g 3), .ref (g 4), .ref (g 5), .ref (g 6), .int 0, .int 0, .int 0, .int 0])), (h1, .inr (6, [.ref (gn 0), .int 0, .ref (gn 2), .ref (gn 3), .int 0, .ref (gn 5), .int 0, .int 0])), (h2, .inr (1, [.ref h1, .ref (gb 1), .int 0]))] sz) := by
  refine open_H (by decide +kernel) (Nat.le_of_ble_eq_true rfl) (fun A => va_Qi (S := Unit) (fun r _ => r = 1) (fun _ _ => True) A) (fun A => vx_X (fun _ : Unit => False) (fun _ _ _ => True) A) ?_
  intro p e s m below meth c A ls hG
  obtain ⟨⟨hx, hb, hr, hml, hown, hts, hlocks, hin, hP, hK, hD, hA, hE, hS, hl⟩, hno⟩ := hG
  have hown : s.vm.findClass RL = some m.cls := hown
  have hl : lv_has ls 5 [(0, .ref h0), (1, .int p1), (2, .int p2), (3, .ref o)] := hl
  refine lv_aload_n hx hb dL_used_0 rfl (lv_at hl 3 rfl) ?_
  refine lv_iconst (v := 0) hx hb dL_used_1 (by decide) ?_
  refine lv_aload_n hx hb dL_used_2 rfl (lv_at hl 0 rfl) ?_
  refine lv_iload_n hx hb dL_used_3 rfl (lv_at hl 1 rfl) ?_
  refine lv_iload_n hx hb dL_used_4 rfl (lv_at hl 2 rfl) ?_
  have f_1 := free_of (wc := [(h0, .inr (11, [.ref h1, .ref h2, .ref (g 2), .ref (g 3), .ref (g 4), .ref (g 5), .ref (g 6), .int 0, .int 0, .int 0, .int 0])), (h1, .inr (6, [.ref (gn 0), .int 0, .ref (gn 2), .ref (gn 3), .int 0, .ref (gn 5), .int 0, .int 0])), (h2, .inr (1, [.ref h1, .ref (gb 1), .int 0]))]) hD hS hA [0, 1, 2] rfl
  refine never (vx_runV (As := [.int p1, .int p2]) (rest := [.int 0, .ref o]) ⟨hx, hb, hml, hown, hts⟩ (c_x_used l hl9 D a1 a2 s.heap.size h0 h1 h2 g gn gb p1 p2) (cwV 2 hts (gV w_114 w_115 w_116 w_8 w_117) rfl rfl rfl (by decide +kernel) ⟨Nat.le_of_ble_eq_true rfl, Nat.le_of_ble_eq_true rfl⟩) (pre_V hK hP hD hS hA hE [0, 1, 2] rfl (by decide) rfl [] rfl (ci := 11) (q0 := 0) rfl rfl) rfl rfl hl.1 rfl (lv_room (Nat.le_of_ble_eq_true rfl)) dL_used_5 ⟨Nat.le_of_ble_eq_true rfl, Nat.le_of_ble_eq_true rfl⟩) (fun _ _ _ h => h) hS f_1 (fun q _ h => f_1 q h) (fun E ce q9 u9 t H locs ht hvm hw hB hz1 hk1 hS hce hcv hcl => ?_)
  subst hB
  refine vx_catch (own := RL) (name := "java/util/NoSuchElementException") (E := "java/util/NoSuchElementException") hown [] ⟨0, 10, 13, 19⟩ [⟨0, 10, 17, 13⟩] (by rw [hno]; rfl) (fun z hz => nomatch hz) (by decide) (by decide) (hts (.classLink RL 19 "java/util/NoSuchElementException") w_45) (va_Nw.use rfl hE.1.2.1.1) hce hcv hcl ?_
  refine W.eq (g2 := F0 m 13 ls [.ref q9]) rfl ?_
  refine lv_astore (lv' := [(4, .ref q9), (0, .ref h0), (1, .int p1), (2, .int p2), (3, .ref o)]) hx hb dL_used_13 hl (by decide) rfl (fun ls hl => ?_)
  refine lv_iconst (v := 1) hx hb dL_used_15 (by decide) ?_
  refine W.widen (k := 1) (n := 6) (Nat.le_of_ble_eq_true rfl) (Nat.le_of_ble_eq_true rfl) ?_
  refine vx_ret ?_
  exact W.iret (v := 1) hx hb hr (fun t ht hW => ⟨⟨1, (), rfl, rfl, trivial⟩, hS.F ht⟩) hS.2.2 dL_used_16
set_option maxRecDepth 100000 in
set_option maxHeartbeats 4000000 in
theorem c_h_fee (l : Launch) (hl9 : l.stackTraces = false) (D : va_G) (a1 a2 sz : Nat) (h0 h1 h2 : Nat) (g gn gb : Nat → Nat) (p1 p2 : Int32) (o : Nat) : vx_Met l yL_fee (Cond.codeWith yL_fee cL_fee 5 (some .int) [(0, 10, 13, 19), (0, 10, 17, 13)] :: WS) ({ frames := 16, cells := 1, slots := 6, locals := 500 }) (va_Pc [.ref h0, .int p1, .int p2, .ref o] (pre D a1 a2 [(h0, .inr (11, [.ref h1, .ref h2, .ref (g 2), .ref (g 3), .ref (g 4), .ref (g 5), .ref (g 6), .int 0, .int 0, .int 0, .int 0])), (h1, .inr (6, [.ref (gn 0), .int 0, .ref (gn 2), .ref (gn 3), .int 0, .ref (gn 5), .int 0, .int 0])), (h2, .inr (1, [.ref h1, .ref (gb 1), .int 0]))] [] sz)) (va_Qi (S := Unit) (fun r _ => r = 1) (fun _ _ => True) (va_A [(h0, .inr (11, [.ref h1, .ref h2, .ref (g 2), .ref (g 3), .ref (g 4), .ref (g 5), .ref (g 6), .int 0, .int 0, .int 0, .int 0])), (h1, .inr (6, [.ref (gn 0), .int 0, .ref (gn 2), .ref (gn 3), .int 0, .ref (gn 5), .int 0, .int 0])), (h2, .inr (1, [.ref h1, .ref (gb 1), .int 0]))] sz)) (vx_X (fun _ : Unit => False) (fun _ _ _ => True) (va_A [(h0, .inr (11, [.ref h1, .ref h2, .ref (g 2), .ref (g 3), .ref (g 4), .ref (g 5), .ref (g 6), .int 0, .int 0, .int 0, .int 0])), (h1, .inr (6, [.ref (gn 0), .int 0, .ref (gn 2), .ref (gn 3), .int 0, .ref (gn 5), .int 0, .int 0])), (h2, .inr (1, [.ref h1, .ref (gb 1), .int 0]))] sz)) 1 6 (va_A [(h0, .inr (11, [.ref h1, .ref h2, .ref (g 2), .ref (g 3), .ref (g 4), .ref (g 5), .ref (g 6), .int 0, .int 0, .int 0, .int 0])), (h1, .inr (6, [.ref (gn 0), .int 0, .ref (gn 2), .ref (gn 3), .int 0, .ref (gn 5), .int 0, .int 0])), (h2, .inr (1, [.ref h1, .ref (gb 1), .int 0]))] sz) := by
  refine open_H (by decide +kernel) (Nat.le_of_ble_eq_true rfl) (fun A => va_Qi (S := Unit) (fun r _ => r = 1) (fun _ _ => True) A) (fun A => vx_X (fun _ : Unit => False) (fun _ _ _ => True) A) ?_
  intro p e s m below meth c A ls hG
  obtain ⟨⟨hx, hb, hr, hml, hown, hts, hlocks, hin, hP, hK, hD, hA, hE, hS, hl⟩, hno⟩ := hG
  have hown : s.vm.findClass RL = some m.cls := hown
  have hl : lv_has ls 5 [(0, .ref h0), (1, .int p1), (2, .int p2), (3, .ref o)] := hl
  refine lv_aload_n hx hb dL_fee_0 rfl (lv_at hl 3 rfl) ?_
  refine lv_iconst (v := 0) hx hb dL_fee_1 (by decide) ?_
  refine lv_aload_n hx hb dL_fee_2 rfl (lv_at hl 0 rfl) ?_
  refine lv_iload_n hx hb dL_fee_3 rfl (lv_at hl 1 rfl) ?_
  refine lv_iload_n hx hb dL_fee_4 rfl (lv_at hl 2 rfl) ?_
  have f_1 := free_of (wc := [(h0, .inr (11, [.ref h1, .ref h2, .ref (g 2), .ref (g 3), .ref (g 4), .ref (g 5), .ref (g 6), .int 0, .int 0, .int 0, .int 0])), (h1, .inr (6, [.ref (gn 0), .int 0, .ref (gn 2), .ref (gn 3), .int 0, .ref (gn 5), .int 0, .int 0])), (h2, .inr (1, [.ref h1, .ref (gb 1), .int 0]))]) hD hS hA [0, 1, 2] rfl
  refine never (vx_runV (As := [.int p1, .int p2]) (rest := [.int 0, .ref o]) ⟨hx, hb, hml, hown, hts⟩ (c_x_fee l hl9 D a1 a2 s.heap.size h0 h1 h2 g gn gb p1 p2) (cwV 2 hts (gV w_118 w_119 w_120 w_8 w_121) rfl rfl rfl (by decide +kernel) ⟨Nat.le_of_ble_eq_true rfl, Nat.le_of_ble_eq_true rfl⟩) (pre_V hK hP hD hS hA hE [0, 1, 2] rfl (by decide) rfl [] rfl (ci := 11) (q0 := 0) rfl rfl) rfl rfl hl.1 rfl (lv_room (Nat.le_of_ble_eq_true rfl)) dL_fee_5 ⟨Nat.le_of_ble_eq_true rfl, Nat.le_of_ble_eq_true rfl⟩) (fun _ _ _ h => h) hS f_1 (fun q _ h => f_1 q h) (fun E ce q9 u9 t H locs ht hvm hw hB hz1 hk1 hS hce hcv hcl => ?_)
  subst hB
  refine vx_catch (own := RL) (name := "java/util/NoSuchElementException") (E := "java/util/NoSuchElementException") hown [] ⟨0, 10, 13, 19⟩ [⟨0, 10, 17, 13⟩] (by rw [hno]; rfl) (fun z hz => nomatch hz) (by decide) (by decide) (hts (.classLink RL 19 "java/util/NoSuchElementException") w_45) (va_Nw.use rfl hE.1.2.1.1) hce hcv hcl ?_
  refine W.eq (g2 := F0 m 13 ls [.ref q9]) rfl ?_
  refine lv_astore (lv' := [(4, .ref q9), (0, .ref h0), (1, .int p1), (2, .int p2), (3, .ref o)]) hx hb dL_fee_13 hl (by decide) rfl (fun ls hl => ?_)
  refine lv_iconst (v := 1) hx hb dL_fee_15 (by decide) ?_
  refine W.widen (k := 1) (n := 6) (Nat.le_of_ble_eq_true rfl) (Nat.le_of_ble_eq_true rfl) ?_
  refine vx_ret ?_
  exact W.iret (v := 1) hx hb hr (fun t ht hW => ⟨⟨1, (), rfl, rfl, trivial⟩, hS.F ht⟩) hS.2.2 dL_fee_16
set_option maxRecDepth 100000 in
set_option maxHeartbeats 4000000 in
theorem c_h_open (l : Launch) (hl9 : l.stackTraces = false) (D : va_G) (a1 a2 sz : Nat) (h0 h1 h2 : Nat) (g gn gb : Nat → Nat) (p1 p2 : Int32) (o : Nat) : vx_Met l yL_open (Cond.codeWith yL_open cL_open 5 (some .int) [(0, 17, 20, 19), (0, 17, 24, 13)] :: WS) ({ frames := 16, cells := 1, slots := 6, locals := 500 }) (va_Pc [.ref h0, .int p1, .int p2, .ref o] (pre D a1 a2 [(h0, .inr (11, [.ref h1, .ref h2, .ref (g 2), .ref (g 3), .ref (g 4), .ref (g 5), .ref (g 6), .int 0, .int 0, .int 0, .int 0])), (h1, .inr (6, [.ref (gn 0), .int 0, .ref (gn 2), .ref (gn 3), .int 0, .ref (gn 5), .int 0, .int 0])), (h2, .inr (1, [.ref h1, .ref (gb 1), .int 0]))] [] sz)) (va_Qi (S := Unit) (fun r _ => r = 1) (fun _ _ => True) (va_A [(h0, .inr (11, [.ref h1, .ref h2, .ref (g 2), .ref (g 3), .ref (g 4), .ref (g 5), .ref (g 6), .int 0, .int 0, .int 0, .int 0])), (h1, .inr (6, [.ref (gn 0), .int 0, .ref (gn 2), .ref (gn 3), .int 0, .ref (gn 5), .int 0, .int 0])), (h2, .inr (1, [.ref h1, .ref (gb 1), .int 0]))] sz)) (vx_X (fun _ : Unit => False) (fun _ _ _ => True) (va_A [(h0, .inr (11, [.ref h1, .ref h2, .ref (g 2), .ref (g 3), .ref (g 4), .ref (g 5), .ref (g 6), .int 0, .int 0, .int 0, .int 0])), (h1, .inr (6, [.ref (gn 0), .int 0, .ref (gn 2), .ref (gn 3), .int 0, .ref (gn 5), .int 0, .int 0])), (h2, .inr (1, [.ref h1, .ref (gb 1), .int 0]))] sz)) 1 6 (va_A [(h0, .inr (11, [.ref h1, .ref h2, .ref (g 2), .ref (g 3), .ref (g 4), .ref (g 5), .ref (g 6), .int 0, .int 0, .int 0, .int 0])), (h1, .inr (6, [.ref (gn 0), .int 0, .ref (gn 2), .ref (gn 3), .int 0, .ref (gn 5), .int 0, .int 0])), (h2, .inr (1, [.ref h1, .ref (gb 1), .int 0]))] sz) := by
  refine open_H (by decide +kernel) (Nat.le_of_ble_eq_true rfl) (fun A => va_Qi (S := Unit) (fun r _ => r = 1) (fun _ _ => True) A) (fun A => vx_X (fun _ : Unit => False) (fun _ _ _ => True) A) ?_
  intro p e s m below meth c A ls hG
  obtain ⟨⟨hx, hb, hr, hml, hown, hts, hlocks, hin, hP, hK, hD, hA, hE, hS, hl⟩, hno⟩ := hG
  have hown : s.vm.findClass RL = some m.cls := hown
  have hl : lv_has ls 5 [(0, .ref h0), (1, .int p1), (2, .int p2), (3, .ref o)] := hl
  refine lv_aload_n hx hb dL_open_0 rfl (lv_at hl 3 rfl) ?_
  refine lv_iconst (v := 0) hx hb dL_open_1 (by decide) ?_
  refine lv_aload_n hx hb dL_open_2 rfl (lv_at hl 0 rfl) ?_
  refine lv_iload_n hx hb dL_open_3 rfl (lv_at hl 1 rfl) ?_
  refine lv_iload_n hx hb dL_open_4 rfl (lv_at hl 2 rfl) ?_
  have f_1 := free_of (wc := [(h0, .inr (11, [.ref h1, .ref h2, .ref (g 2), .ref (g 3), .ref (g 4), .ref (g 5), .ref (g 6), .int 0, .int 0, .int 0, .int 0])), (h1, .inr (6, [.ref (gn 0), .int 0, .ref (gn 2), .ref (gn 3), .int 0, .ref (gn 5), .int 0, .int 0])), (h2, .inr (1, [.ref h1, .ref (gb 1), .int 0]))]) hD hS hA [0, 1, 2] rfl
  refine never (vx_runV (As := [.int p1, .int p2]) (rest := [.int 0, .ref o]) ⟨hx, hb, hml, hown, hts⟩ (c_x_open l hl9 D a1 a2 s.heap.size h0 h1 h2 g gn gb p1 p2) (cwV 2 hts (gV w_122 w_123 w_124 w_8 w_125) rfl rfl rfl (by decide +kernel) ⟨Nat.le_of_ble_eq_true rfl, Nat.le_of_ble_eq_true rfl⟩) (pre_V hK hP hD hS hA hE [0, 1, 2] rfl (by decide) rfl [] rfl (ci := 11) (q0 := 0) rfl rfl) rfl rfl hl.1 rfl (lv_room (Nat.le_of_ble_eq_true rfl)) dL_open_5 ⟨Nat.le_of_ble_eq_true rfl, Nat.le_of_ble_eq_true rfl⟩) (fun _ _ _ h => h) hS f_1 (fun q _ h => f_1 q h) (fun E ce q9 u9 t H locs ht hvm hw hB hz1 hk1 hS hce hcv hcl => ?_)
  subst hB
  refine vx_catch (own := RL) (name := "java/util/NoSuchElementException") (E := "java/util/NoSuchElementException") hown [] ⟨0, 17, 20, 19⟩ [⟨0, 17, 24, 13⟩] (by rw [hno]; rfl) (fun z hz => nomatch hz) (by decide) (by decide) (hts (.classLink RL 19 "java/util/NoSuchElementException") w_45) (va_Nw.use rfl hE.1.2.1.1) hce hcv hcl ?_
  refine W.eq (g2 := F0 m 20 ls [.ref q9]) rfl ?_
  refine lv_astore (lv' := [(4, .ref q9), (0, .ref h0), (1, .int p1), (2, .int p2), (3, .ref o)]) hx hb dL_open_20 hl (by decide) rfl (fun ls hl => ?_)
  refine lv_iconst (v := 1) hx hb dL_open_22 (by decide) ?_
  refine W.widen (k := 1) (n := 6) (Nat.le_of_ble_eq_true rfl) (Nat.le_of_ble_eq_true rfl) ?_
  refine vx_ret ?_
  exact W.iret (v := 1) hx hb hr (fun t ht hW => ⟨⟨1, (), rfl, rfl, trivial⟩, hS.F ht⟩) hS.2.2 dL_open_23
set_option maxRecDepth 100000 in
set_option maxHeartbeats 4000000 in
theorem c_h_next (l : Launch) (hl9 : l.stackTraces = false) (D : va_G) (a1 a2 sz : Nat) (h0 h1 h2 : Nat) (g gn gb : Nat → Nat) (p1 p2 : Int32) (o : Nat) : vx_Met l yL_next (Cond.codeWith yL_next cL_next 5 (some .int) [(0, 10, 13, 19), (0, 10, 17, 13)] :: WS) ({ frames := 16, cells := 1, slots := 6, locals := 500 }) (va_Pc [.ref h0, .int p1, .int p2, .ref o] (pre D a1 a2 [(h0, .inr (11, [.ref h1, .ref h2, .ref (g 2), .ref (g 3), .ref (g 4), .ref (g 5), .ref (g 6), .int 0, .int 0, .int 0, .int 0])), (h1, .inr (6, [.ref (gn 0), .int 0, .ref (gn 2), .ref (gn 3), .int 0, .ref (gn 5), .int 0, .int 0])), (h2, .inr (1, [.ref h1, .ref (gb 1), .int 0]))] [] sz)) (va_Qi (S := Unit) (fun r _ => r = 1) (fun _ _ => True) (va_A [(h0, .inr (11, [.ref h1, .ref h2, .ref (g 2), .ref (g 3), .ref (g 4), .ref (g 5), .ref (g 6), .int 0, .int 0, .int 0, .int 0])), (h1, .inr (6, [.ref (gn 0), .int 0, .ref (gn 2), .ref (gn 3), .int 0, .ref (gn 5), .int 0, .int 0])), (h2, .inr (1, [.ref h1, .ref (gb 1), .int 0]))] sz)) (vx_X (fun _ : Unit => False) (fun _ _ _ => True) (va_A [(h0, .inr (11, [.ref h1, .ref h2, .ref (g 2), .ref (g 3), .ref (g 4), .ref (g 5), .ref (g 6), .int 0, .int 0, .int 0, .int 0])), (h1, .inr (6, [.ref (gn 0), .int 0, .ref (gn 2), .ref (gn 3), .int 0, .ref (gn 5), .int 0, .int 0])), (h2, .inr (1, [.ref h1, .ref (gb 1), .int 0]))] sz)) 1 6 (va_A [(h0, .inr (11, [.ref h1, .ref h2, .ref (g 2), .ref (g 3), .ref (g 4), .ref (g 5), .ref (g 6), .int 0, .int 0, .int 0, .int 0])), (h1, .inr (6, [.ref (gn 0), .int 0, .ref (gn 2), .ref (gn 3), .int 0, .ref (gn 5), .int 0, .int 0])), (h2, .inr (1, [.ref h1, .ref (gb 1), .int 0]))] sz) := by
  refine open_H (by decide +kernel) (Nat.le_of_ble_eq_true rfl) (fun A => va_Qi (S := Unit) (fun r _ => r = 1) (fun _ _ => True) A) (fun A => vx_X (fun _ : Unit => False) (fun _ _ _ => True) A) ?_
  intro p e s m below meth c A ls hG
  obtain ⟨⟨hx, hb, hr, hml, hown, hts, hlocks, hin, hP, hK, hD, hA, hE, hS, hl⟩, hno⟩ := hG
  have hown : s.vm.findClass RL = some m.cls := hown
  have hl : lv_has ls 5 [(0, .ref h0), (1, .int p1), (2, .int p2), (3, .ref o)] := hl
  refine lv_aload_n hx hb dL_next_0 rfl (lv_at hl 3 rfl) ?_
  refine lv_iconst (v := 0) hx hb dL_next_1 (by decide) ?_
  refine lv_aload_n hx hb dL_next_2 rfl (lv_at hl 0 rfl) ?_
  refine lv_iload_n hx hb dL_next_3 rfl (lv_at hl 1 rfl) ?_
  refine lv_iload_n hx hb dL_next_4 rfl (lv_at hl 2 rfl) ?_
  have f_1 := free_of (wc := [(h0, .inr (11, [.ref h1, .ref h2, .ref (g 2), .ref (g 3), .ref (g 4), .ref (g 5), .ref (g 6), .int 0, .int 0, .int 0, .int 0])), (h1, .inr (6, [.ref (gn 0), .int 0, .ref (gn 2), .ref (gn 3), .int 0, .ref (gn 5), .int 0, .int 0])), (h2, .inr (1, [.ref h1, .ref (gb 1), .int 0]))]) hD hS hA [0, 1, 2] rfl
  refine never (vx_runV (As := [.int p1, .int p2]) (rest := [.int 0, .ref o]) ⟨hx, hb, hml, hown, hts⟩ (c_x_next l hl9 D a1 a2 s.heap.size h0 h1 h2 g gn gb p1 p2) (cwV 2 hts (gV w_126 w_127 w_128 w_8 w_129) rfl rfl rfl (by decide +kernel) ⟨Nat.le_of_ble_eq_true rfl, Nat.le_of_ble_eq_true rfl⟩) (pre_V hK hP hD hS hA hE [0, 1, 2] rfl (by decide) rfl [] rfl (ci := 11) (q0 := 0) rfl rfl) rfl rfl hl.1 rfl (lv_room (Nat.le_of_ble_eq_true rfl)) dL_next_5 ⟨Nat.le_of_ble_eq_true rfl, Nat.le_of_ble_eq_true rfl⟩) (fun _ _ _ h => h) hS f_1 (fun q _ h => f_1 q h) (fun E ce q9 u9 t H locs ht hvm hw hB hz1 hk1 hS hce hcv hcl => ?_)
  subst hB
  refine vx_catch (own := RL) (name := "java/util/NoSuchElementException") (E := "java/util/NoSuchElementException") hown [] ⟨0, 10, 13, 19⟩ [⟨0, 10, 17, 13⟩] (by rw [hno]; rfl) (fun z hz => nomatch hz) (by decide) (by decide) (hts (.classLink RL 19 "java/util/NoSuchElementException") w_45) (va_Nw.use rfl hE.1.2.1.1) hce hcv hcl ?_
  refine W.eq (g2 := F0 m 13 ls [.ref q9]) rfl ?_
  refine lv_astore (lv' := [(4, .ref q9), (0, .ref h0), (1, .int p1), (2, .int p2), (3, .ref o)]) hx hb dL_next_13 hl (by decide) rfl (fun ls hl => ?_)
  refine lv_iconst (v := 1) hx hb dL_next_15 (by decide) ?_
  refine W.widen (k := 1) (n := 6) (Nat.le_of_ble_eq_true rfl) (Nat.le_of_ble_eq_true rfl) ?_
  refine vx_ret ?_
  exact W.iret (v := 1) hx hb hr (fun t ht hW => ⟨⟨1, (), rfl, rfl, trivial⟩, hS.F ht⟩) hS.2.2 dL_next_16
set_option maxRecDepth 100000 in
set_option maxHeartbeats 4000000 in
theorem c_h_after (l : Launch) (hl9 : l.stackTraces = false) (D : va_G) (a1 a2 sz : Nat) (h0 h1 h2 : Nat) (g gn gb : Nat → Nat) (p1 p2 p3 : Int32) (o : Nat) : vx_Met l yL_after (Cond.codeWith yL_after cL_after 6 (some .int) [(0, 12, 15, 19), (0, 12, 19, 13)] :: WS) ({ frames := 16, cells := 1, slots := 6, locals := 500 }) (va_Pc [.ref h0, .int p1, .int p2, .int p3, .ref o] (pre D a1 a2 [(h0, .inr (11, [.ref h1, .ref h2, .ref (g 2), .ref (g 3), .ref (g 4), .ref (g 5), .ref (g 6), .int 0, .int 0, .int 0, .int 0])), (h1, .inr (6, [.ref (gn 0), .int 0, .ref (gn 2), .ref (gn 3), .int 0, .ref (gn 5), .int 0, .int 0])), (h2, .inr (1, [.ref h1, .ref (gb 1), .int 0]))] [] sz)) (va_Qi (S := Unit) (fun r _ => r = 1) (fun _ _ => True) (va_A [(h0, .inr (11, [.ref h1, .ref h2, .ref (g 2), .ref (g 3), .ref (g 4), .ref (g 5), .ref (g 6), .int 0, .int 0, .int 0, .int 0])), (h1, .inr (6, [.ref (gn 0), .int 0, .ref (gn 2), .ref (gn 3), .int 0, .ref (gn 5), .int 0, .int 0])), (h2, .inr (1, [.ref h1, .ref (gb 1), .int 0]))] sz)) (vx_X (fun _ : Unit => False) (fun _ _ _ => True) (va_A [(h0, .inr (11, [.ref h1, .ref h2, .ref (g 2), .ref (g 3), .ref (g 4), .ref (g 5), .ref (g 6), .int 0, .int 0, .int 0, .int 0])), (h1, .inr (6, [.ref (gn 0), .int 0, .ref (gn 2), .ref (gn 3), .int 0, .ref (gn 5), .int 0, .int 0])), (h2, .inr (1, [.ref h1, .ref (gb 1), .int 0]))] sz)) 1 6 (va_A [(h0, .inr (11, [.ref h1, .ref h2, .ref (g 2), .ref (g 3), .ref (g 4), .ref (g 5), .ref (g 6), .int 0, .int 0, .int 0, .int 0])), (h1, .inr (6, [.ref (gn 0), .int 0, .ref (gn 2), .ref (gn 3), .int 0, .ref (gn 5), .int 0, .int 0])), (h2, .inr (1, [.ref h1, .ref (gb 1), .int 0]))] sz) := by
  refine open_H (by decide +kernel) (Nat.le_of_ble_eq_true rfl) (fun A => va_Qi (S := Unit) (fun r _ => r = 1) (fun _ _ => True) A) (fun A => vx_X (fun _ : Unit => False) (fun _ _ _ => True) A) ?_
  intro p e s m below meth c A ls hG
  obtain ⟨⟨hx, hb, hr, hml, hown, hts, hlocks, hin, hP, hK, hD, hA, hE, hS, hl⟩, hno⟩ := hG
  have hown : s.vm.findClass RL = some m.cls := hown
  have hl : lv_has ls 6 [(0, .ref h0), (1, .int p1), (2, .int p2), (3, .int p3), (4, .ref o)] := hl
  refine lv_aload hx hb dL_after_0 (lv_at hl 4 rfl) ?_
  refine lv_iconst (v := 0) hx hb dL_after_2 (by decide) ?_
  refine lv_aload_n hx hb dL_after_3 rfl (lv_at hl 0 rfl) ?_
  refine lv_iload_n hx hb dL_after_4 rfl (lv_at hl 1 rfl) ?_
  refine lv_iload_n hx hb dL_after_5 rfl (lv_at hl 2 rfl) ?_
  refine lv_iload_n hx hb dL_after_6 rfl (lv_at hl 3 rfl) ?_
  have f_1 := free_of (wc := [(h0, .inr (11, [.ref h1, .ref h2, .ref (g 2), .ref (g 3), .ref (g 4), .ref (g 5), .ref (g 6), .int 0, .int 0, .int 0, .int 0])), (h1, .inr (6, [.ref (gn 0), .int 0, .ref (gn 2), .ref (gn 3), .int 0, .ref (gn 5), .int 0, .int 0])), (h2, .inr (1, [.ref h1, .ref (gb 1), .int 0]))]) hD hS hA [0, 1, 2] rfl
  refine never (vx_runV (As := [.int p1, .int p2, .int p3]) (rest := [.int 0, .ref o]) ⟨hx, hb, hml, hown, hts⟩ (c_x_after l hl9 D a1 a2 s.heap.size h0 h1 h2 g gn gb p1 p2 p3) (cwV 3 hts (gV w_130 w_131 w_132 w_8 w_133) rfl rfl rfl (by decide +kernel) ⟨Nat.le_of_ble_eq_true rfl, Nat.le_of_ble_eq_true rfl⟩) (pre_V hK hP hD hS hA hE [0, 1, 2] rfl (by decide) rfl [] rfl (ci := 11) (q0 := 0) rfl rfl) rfl rfl hl.1 rfl (lv_room (Nat.le_of_ble_eq_true rfl)) dL_after_7 ⟨Nat.le_of_ble_eq_true rfl, Nat.le_of_ble_eq_true rfl⟩) (fun _ _ _ h => h) hS f_1 (fun q _ h => f_1 q h) (fun E ce q9 u9 t H locs ht hvm hw hB hz1 hk1 hS hce hcv hcl => ?_)
  subst hB
  refine vx_catch (own := RL) (name := "java/util/NoSuchElementException") (E := "java/util/NoSuchElementException") hown [] ⟨0, 12, 15, 19⟩ [⟨0, 12, 19, 13⟩] (by rw [hno]; rfl) (fun z hz => nomatch hz) (by decide) (by decide) (hts (.classLink RL 19 "java/util/NoSuchElementException") w_45) (va_Nw.use rfl hE.1.2.1.1) hce hcv hcl ?_
  refine W.eq (g2 := F0 m 15 ls [.ref q9]) rfl ?_
  refine lv_astore (lv' := [(5, .ref q9), (0, .ref h0), (1, .int p1), (2, .int p2), (3, .int p3), (4, .ref o)]) hx hb dL_after_15 hl (by decide) rfl (fun ls hl => ?_)
  refine lv_iconst (v := 1) hx hb dL_after_17 (by decide) ?_
  refine W.widen (k := 1) (n := 6) (Nat.le_of_ble_eq_true rfl) (Nat.le_of_ble_eq_true rfl) ?_
  refine vx_ret ?_
  exact W.iret (v := 1) hx hb hr (fun t ht hW => ⟨⟨1, (), rfl, rfl, trivial⟩, hS.F ht⟩) hS.2.2 dL_after_18
set_option maxRecDepth 100000 in
set_option maxHeartbeats 4000000 in
theorem c_h_idle (l : Launch) (hl9 : l.stackTraces = false) (D : va_G) (a1 a2 sz : Nat) (h0 h1 h2 : Nat) (g gn gb : Nat → Nat) (p1 p2 : Int32) (o : Nat) : vx_Met l yL_idle (Cond.codeWith yL_idle cL_idle 5 (some .int) [(0, 10, 13, 19), (0, 10, 17, 13)] :: WS) ({ frames := 16, cells := 1, slots := 6, locals := 500 }) (va_Pc [.ref h0, .int p1, .int p2, .ref o] (pre D a1 a2 [(h0, .inr (11, [.ref h1, .ref h2, .ref (g 2), .ref (g 3), .ref (g 4), .ref (g 5), .ref (g 6), .int 0, .int 0, .int 0, .int 0])), (h1, .inr (6, [.ref (gn 0), .int 0, .ref (gn 2), .ref (gn 3), .int 0, .ref (gn 5), .int 0, .int 0])), (h2, .inr (1, [.ref h1, .ref (gb 1), .int 0]))] [] sz)) (va_Qi (S := Unit) (fun r _ => r = 1) (fun _ _ => True) (va_A [(h0, .inr (11, [.ref h1, .ref h2, .ref (g 2), .ref (g 3), .ref (g 4), .ref (g 5), .ref (g 6), .int 0, .int 0, .int 0, .int 0])), (h1, .inr (6, [.ref (gn 0), .int 0, .ref (gn 2), .ref (gn 3), .int 0, .ref (gn 5), .int 0, .int 0])), (h2, .inr (1, [.ref h1, .ref (gb 1), .int 0]))] sz)) (vx_X (fun _ : Unit => False) (fun _ _ _ => True) (va_A [(h0, .inr (11, [.ref h1, .ref h2, .ref (g 2), .ref (g 3), .ref (g 4), .ref (g 5), .ref (g 6), .int 0, .int 0, .int 0, .int 0])), (h1, .inr (6, [.ref (gn 0), .int 0, .ref (gn 2), .ref (gn 3), .int 0, .ref (gn 5), .int 0, .int 0])), (h2, .inr (1, [.ref h1, .ref (gb 1), .int 0]))] sz)) 1 6 (va_A [(h0, .inr (11, [.ref h1, .ref h2, .ref (g 2), .ref (g 3), .ref (g 4), .ref (g 5), .ref (g 6), .int 0, .int 0, .int 0, .int 0])), (h1, .inr (6, [.ref (gn 0), .int 0, .ref (gn 2), .ref (gn 3), .int 0, .ref (gn 5), .int 0, .int 0])), (h2, .inr (1, [.ref h1, .ref (gb 1), .int 0]))] sz) := by
  refine open_H (by decide +kernel) (Nat.le_of_ble_eq_true rfl) (fun A => va_Qi (S := Unit) (fun r _ => r = 1) (fun _ _ => True) A) (fun A => vx_X (fun _ : Unit => False) (fun _ _ _ => True) A) ?_
  intro p e s m below meth c A ls hG
  obtain ⟨⟨hx, hb, hr, hml, hown, hts, hlocks, hin, hP, hK, hD, hA, hE, hS, hl⟩, hno⟩ := hG
  have hown : s.vm.findClass RL = some m.cls := hown
  have hl : lv_has ls 5 [(0, .ref h0), (1, .int p1), (2, .int p2), (3, .ref o)] := hl
  refine lv_aload_n hx hb dL_idle_0 rfl (lv_at hl 3 rfl) ?_
  refine lv_iconst (v := 0) hx hb dL_idle_1 (by decide) ?_
  refine lv_aload_n hx hb dL_idle_2 rfl (lv_at hl 0 rfl) ?_
  refine lv_iload_n hx hb dL_idle_3 rfl (lv_at hl 1 rfl) ?_
  refine lv_iload_n hx hb dL_idle_4 rfl (lv_at hl 2 rfl) ?_
  have f_1 := free_of (wc := [(h0, .inr (11, [.ref h1, .ref h2, .ref (g 2), .ref (g 3), .ref (g 4), .ref (g 5), .ref (g 6), .int 0, .int 0, .int 0, .int 0])), (h1, .inr (6, [.ref (gn 0), .int 0, .ref (gn 2), .ref (gn 3), .int 0, .ref (gn 5), .int 0, .int 0])), (h2, .inr (1, [.ref h1, .ref (gb 1), .int 0]))]) hD hS hA [0, 1, 2] rfl
  refine never (vx_runV (As := [.int p1, .int p2]) (rest := [.int 0, .ref o]) ⟨hx, hb, hml, hown, hts⟩ (c_x_idle l hl9 D a1 a2 s.heap.size h0 h1 h2 g gn gb p1 p2) (cwV 2 hts (gV w_134 w_135 w_136 w_8 w_137) rfl rfl rfl (by decide +kernel) ⟨Nat.le_of_ble_eq_true rfl, Nat.le_of_ble_eq_true rfl⟩) (pre_V hK hP hD hS hA hE [0, 1, 2] rfl (by decide) rfl [] rfl (ci := 11) (q0 := 0) rfl rfl) rfl rfl hl.1 rfl (lv_room (Nat.le_of_ble_eq_true rfl)) dL_idle_5 ⟨Nat.le_of_ble_eq_true rfl, Nat.le_of_ble_eq_true rfl⟩) (fun _ _ _ h => h) hS f_1 (fun q _ h => f_1 q h) (fun E ce q9 u9 t H locs ht hvm hw hB hz1 hk1 hS hce hcv hcl => ?_)
  subst hB
  refine vx_catch (own := RL) (name := "java/util/NoSuchElementException") (E := "java/util/NoSuchElementException") hown [] ⟨0, 10, 13, 19⟩ [⟨0, 10, 17, 13⟩] (by rw [hno]; rfl) (fun z hz => nomatch hz) (by decide) (by decide) (hts (.classLink RL 19 "java/util/NoSuchElementException") w_45) (va_Nw.use rfl hE.1.2.1.1) hce hcv hcl ?_
  refine W.eq (g2 := F0 m 13 ls [.ref q9]) rfl ?_
  refine lv_astore (lv' := [(4, .ref q9), (0, .ref h0), (1, .int p1), (2, .int p2), (3, .ref o)]) hx hb dL_idle_13 hl (by decide) rfl (fun ls hl => ?_)
  refine lv_iconst (v := 1) hx hb dL_idle_15 (by decide) ?_
  refine W.widen (k := 1) (n := 6) (Nat.le_of_ble_eq_true rfl) (Nat.le_of_ble_eq_true rfl) ?_
  refine vx_ret ?_
  exact W.iret (v := 1) hx hb hr (fun t ht hW => ⟨⟨1, (), rfl, rfl, trivial⟩, hS.F ht⟩) hS.2.2 dL_idle_16
set_option maxRecDepth 100000 in
set_option maxHeartbeats 4000000 in
theorem c_h_hours (l : Launch) (hl9 : l.stackTraces = false) (D : va_G) (a1 a2 sz : Nat) (h0 h1 h2 : Nat) (g gn gb : Nat → Nat) (p1 p2 : Int32) (o : Nat) : vx_Met l yL_hours (Cond.codeWith yL_hours cL_hours 5 (some .int) [(0, 10, 13, 19), (0, 10, 17, 13)] :: WS) ({ frames := 16, cells := 1, slots := 6, locals := 500 }) (va_Pc [.ref h0, .int p1, .int p2, .ref o] (pre D a1 a2 [(h0, .inr (11, [.ref h1, .ref h2, .ref (g 2), .ref (g 3), .ref (g 4), .ref (g 5), .ref (g 6), .int 0, .int 0, .int 0, .int 0])), (h1, .inr (6, [.ref (gn 0), .int 0, .ref (gn 2), .ref (gn 3), .int 0, .ref (gn 5), .int 0, .int 0])), (h2, .inr (1, [.ref h1, .ref (gb 1), .int 0]))] [] sz)) (va_Qi (S := Unit) (fun r _ => r = 1) (fun _ _ => True) (va_A [(h0, .inr (11, [.ref h1, .ref h2, .ref (g 2), .ref (g 3), .ref (g 4), .ref (g 5), .ref (g 6), .int 0, .int 0, .int 0, .int 0])), (h1, .inr (6, [.ref (gn 0), .int 0, .ref (gn 2), .ref (gn 3), .int 0, .ref (gn 5), .int 0, .int 0])), (h2, .inr (1, [.ref h1, .ref (gb 1), .int 0]))] sz)) (vx_X (fun _ : Unit => False) (fun _ _ _ => True) (va_A [(h0, .inr (11, [.ref h1, .ref h2, .ref (g 2), .ref (g 3), .ref (g 4), .ref (g 5), .ref (g 6), .int 0, .int 0, .int 0, .int 0])), (h1, .inr (6, [.ref (gn 0), .int 0, .ref (gn 2), .ref (gn 3), .int 0, .ref (gn 5), .int 0, .int 0])), (h2, .inr (1, [.ref h1, .ref (gb 1), .int 0]))] sz)) 1 6 (va_A [(h0, .inr (11, [.ref h1, .ref h2, .ref (g 2), .ref (g 3), .ref (g 4), .ref (g 5), .ref (g 6), .int 0, .int 0, .int 0, .int 0])), (h1, .inr (6, [.ref (gn 0), .int 0, .ref (gn 2), .ref (gn 3), .int 0, .ref (gn 5), .int 0, .int 0])), (h2, .inr (1, [.ref h1, .ref (gb 1), .int 0]))] sz) := by
  refine open_H (by decide +kernel) (Nat.le_of_ble_eq_true rfl) (fun A => va_Qi (S := Unit) (fun r _ => r = 1) (fun _ _ => True) A) (fun A => vx_X (fun _ : Unit => False) (fun _ _ _ => True) A) ?_
  intro p e s m below meth c A ls hG
  obtain ⟨⟨hx, hb, hr, hml, hown, hts, hlocks, hin, hP, hK, hD, hA, hE, hS, hl⟩, hno⟩ := hG
  have hown : s.vm.findClass RL = some m.cls := hown
  have hl : lv_has ls 5 [(0, .ref h0), (1, .int p1), (2, .int p2), (3, .ref o)] := hl
  refine lv_aload_n hx hb dL_hours_0 rfl (lv_at hl 3 rfl) ?_
  refine lv_iconst (v := 0) hx hb dL_hours_1 (by decide) ?_
  refine lv_aload_n hx hb dL_hours_2 rfl (lv_at hl 0 rfl) ?_
  refine lv_iload_n hx hb dL_hours_3 rfl (lv_at hl 1 rfl) ?_
  refine lv_iload_n hx hb dL_hours_4 rfl (lv_at hl 2 rfl) ?_
  have f_1 := free_of (wc := [(h0, .inr (11, [.ref h1, .ref h2, .ref (g 2), .ref (g 3), .ref (g 4), .ref (g 5), .ref (g 6), .int 0, .int 0, .int 0, .int 0])), (h1, .inr (6, [.ref (gn 0), .int 0, .ref (gn 2), .ref (gn 3), .int 0, .ref (gn 5), .int 0, .int 0])), (h2, .inr (1, [.ref h1, .ref (gb 1), .int 0]))]) hD hS hA [0, 1, 2] rfl
  refine never (vx_runV (As := [.int p1, .int p2]) (rest := [.int 0, .ref o]) ⟨hx, hb, hml, hown, hts⟩ (c_x_hours l hl9 D a1 a2 s.heap.size h0 h1 h2 g gn gb p1 p2) (cwV 2 hts (gV w_138 w_139 w_140 w_8 w_141) rfl rfl rfl (by decide +kernel) ⟨Nat.le_of_ble_eq_true rfl, Nat.le_of_ble_eq_true rfl⟩) (pre_V hK hP hD hS hA hE [0, 1, 2] rfl (by decide) rfl [] rfl (ci := 11) (q0 := 0) rfl rfl) rfl rfl hl.1 rfl (lv_room (Nat.le_of_ble_eq_true rfl)) dL_hours_5 ⟨Nat.le_of_ble_eq_true rfl, Nat.le_of_ble_eq_true rfl⟩) (fun _ _ _ h => h) hS f_1 (fun q _ h => f_1 q h) (fun E ce q9 u9 t H locs ht hvm hw hB hz1 hk1 hS hce hcv hcl => ?_)
  subst hB
  refine vx_catch (own := RL) (name := "java/util/NoSuchElementException") (E := "java/util/NoSuchElementException") hown [] ⟨0, 10, 13, 19⟩ [⟨0, 10, 17, 13⟩] (by rw [hno]; rfl) (fun z hz => nomatch hz) (by decide) (by decide) (hts (.classLink RL 19 "java/util/NoSuchElementException") w_45) (va_Nw.use rfl hE.1.2.1.1) hce hcv hcl ?_
  refine W.eq (g2 := F0 m 13 ls [.ref q9]) rfl ?_
  refine lv_astore (lv' := [(4, .ref q9), (0, .ref h0), (1, .int p1), (2, .int p2), (3, .ref o)]) hx hb dL_hours_13 hl (by decide) rfl (fun ls hl => ?_)
  refine lv_iconst (v := 1) hx hb dL_hours_15 (by decide) ?_
  refine W.widen (k := 1) (n := 6) (Nat.le_of_ble_eq_true rfl) (Nat.le_of_ble_eq_true rfl) ?_
  refine vx_ret ?_
  exact W.iret (v := 1) hx hb hr (fun t ht hW => ⟨⟨1, (), rfl, rfl, trivial⟩, hS.F ht⟩) hS.2.2 dL_hours_16
set_option maxRecDepth 100000 in
set_option maxHeartbeats 4000000 in
theorem c_h_busiest (l : Launch) (hl9 : l.stackTraces = false) (D : va_G) (a1 a2 sz : Nat) (h0 h1 h2 : Nat) (g gn gb : Nat → Nat) (p1 p2 : Int32) (o : Nat) : vx_Met l yL_busiest (Cond.codeWith yL_busiest cL_busiest 5 (some .int) [(0, 10, 13, 19), (0, 10, 17, 13)] :: WS) ({ frames := 16, cells := 1, slots := 6, locals := 500 }) (va_Pc [.ref h0, .int p1, .int p2, .ref o] (pre D a1 a2 [(h0, .inr (11, [.ref h1, .ref h2, .ref (g 2), .ref (g 3), .ref (g 4), .ref (g 5), .ref (g 6), .int 0, .int 0, .int 0, .int 0])), (h1, .inr (6, [.ref (gn 0), .int 0, .ref (gn 2), .ref (gn 3), .int 0, .ref (gn 5), .int 0, .int 0])), (h2, .inr (1, [.ref h1, .ref (gb 1), .int 0]))] [] sz)) (va_Qi (S := Unit) (fun r _ => r = 1) (fun _ _ => True) (va_A [(h0, .inr (11, [.ref h1, .ref h2, .ref (g 2), .ref (g 3), .ref (g 4), .ref (g 5), .ref (g 6), .int 0, .int 0, .int 0, .int 0])), (h1, .inr (6, [.ref (gn 0), .int 0, .ref (gn 2), .ref (gn 3), .int 0, .ref (gn 5), .int 0, .int 0])), (h2, .inr (1, [.ref h1, .ref (gb 1), .int 0]))] sz)) (vx_X (fun _ : Unit => False) (fun _ _ _ => True) (va_A [(h0, .inr (11, [.ref h1, .ref h2, .ref (g 2), .ref (g 3), .ref (g 4), .ref (g 5), .ref (g 6), .int 0, .int 0, .int 0, .int 0])), (h1, .inr (6, [.ref (gn 0), .int 0, .ref (gn 2), .ref (gn 3), .int 0, .ref (gn 5), .int 0, .int 0])), (h2, .inr (1, [.ref h1, .ref (gb 1), .int 0]))] sz)) 1 6 (va_A [(h0, .inr (11, [.ref h1, .ref h2, .ref (g 2), .ref (g 3), .ref (g 4), .ref (g 5), .ref (g 6), .int 0, .int 0, .int 0, .int 0])), (h1, .inr (6, [.ref (gn 0), .int 0, .ref (gn 2), .ref (gn 3), .int 0, .ref (gn 5), .int 0, .int 0])), (h2, .inr (1, [.ref h1, .ref (gb 1), .int 0]))] sz) := by
  refine open_H (by decide +kernel) (Nat.le_of_ble_eq_true rfl) (fun A => va_Qi (S := Unit) (fun r _ => r = 1) (fun _ _ => True) A) (fun A => vx_X (fun _ : Unit => False) (fun _ _ _ => True) A) ?_
  intro p e s m below meth c A ls hG
  obtain ⟨⟨hx, hb, hr, hml, hown, hts, hlocks, hin, hP, hK, hD, hA, hE, hS, hl⟩, hno⟩ := hG
  have hown : s.vm.findClass RL = some m.cls := hown
  have hl : lv_has ls 5 [(0, .ref h0), (1, .int p1), (2, .int p2), (3, .ref o)] := hl
  refine lv_aload_n hx hb dL_busiest_0 rfl (lv_at hl 3 rfl) ?_
  refine lv_iconst (v := 0) hx hb dL_busiest_1 (by decide) ?_
  refine lv_aload_n hx hb dL_busiest_2 rfl (lv_at hl 0 rfl) ?_
  refine lv_iload_n hx hb dL_busiest_3 rfl (lv_at hl 1 rfl) ?_
  refine lv_iload_n hx hb dL_busiest_4 rfl (lv_at hl 2 rfl) ?_
  have f_1 := free_of (wc := [(h0, .inr (11, [.ref h1, .ref h2, .ref (g 2), .ref (g 3), .ref (g 4), .ref (g 5), .ref (g 6), .int 0, .int 0, .int 0, .int 0])), (h1, .inr (6, [.ref (gn 0), .int 0, .ref (gn 2), .ref (gn 3), .int 0, .ref (gn 5), .int 0, .int 0])), (h2, .inr (1, [.ref h1, .ref (gb 1), .int 0]))]) hD hS hA [0, 1, 2] rfl
  refine never (vx_runV (As := [.int p1, .int p2]) (rest := [.int 0, .ref o]) ⟨hx, hb, hml, hown, hts⟩ (c_x_busiest l hl9 D a1 a2 s.heap.size h0 h1 h2 g gn gb p1 p2) (cwV 2 hts (gV w_142 w_143 w_144 w_8 w_145) rfl rfl rfl (by decide +kernel) ⟨Nat.le_of_ble_eq_true rfl, Nat.le_of_ble_eq_true rfl⟩) (pre_V hK hP hD hS hA hE [0, 1, 2] rfl (by decide) rfl [] rfl (ci := 11) (q0 := 0) rfl rfl) rfl rfl hl.1 rfl (lv_room (Nat.le_of_ble_eq_true rfl)) dL_busiest_5 ⟨Nat.le_of_ble_eq_true rfl, Nat.le_of_ble_eq_true rfl⟩) (fun _ _ _ h => h) hS f_1 (fun q _ h => f_1 q h) (fun E ce q9 u9 t H locs ht hvm hw hB hz1 hk1 hS hce hcv hcl => ?_)
  subst hB
  refine vx_catch (own := RL) (name := "java/util/NoSuchElementException") (E := "java/util/NoSuchElementException") hown [] ⟨0, 10, 13, 19⟩ [⟨0, 10, 17, 13⟩] (by rw [hno]; rfl) (fun z hz => nomatch hz) (by decide) (by decide) (hts (.classLink RL 19 "java/util/NoSuchElementException") w_45) (va_Nw.use rfl hE.1.2.1.1) hce hcv hcl ?_
  refine W.eq (g2 := F0 m 13 ls [.ref q9]) rfl ?_
  refine lv_astore (lv' := [(4, .ref q9), (0, .ref h0), (1, .int p1), (2, .int p2), (3, .ref o)]) hx hb dL_busiest_13 hl (by decide) rfl (fun ls hl => ?_)
  refine lv_iconst (v := 1) hx hb dL_busiest_15 (by decide) ?_
  refine W.widen (k := 1) (n := 6) (Nat.le_of_ble_eq_true rfl) (Nat.le_of_ble_eq_true rfl) ?_
  refine vx_ret ?_
  exact W.iret (v := 1) hx hb hr (fun t ht hW => ⟨⟨1, (), rfl, rfl, trivial⟩, hS.F ht⟩) hS.2.2 dL_busiest_16
set_option maxRecDepth 100000 in
set_option maxHeartbeats 4000000 in
theorem c_h_tied (l : Launch) (hl9 : l.stackTraces = false) (D : va_G) (a1 a2 sz : Nat) (h0 h1 h2 : Nat) (g gn gb : Nat → Nat) (p1 : Int32) (o : Nat) : vx_Met l yL_tied (Cond.codeWith yL_tied cL_tied 4 (some .int) [(0, 8, 11, 19)] :: WS) ({ frames := 16, cells := 1, slots := 6, locals := 500 }) (va_Pc [.ref h0, .int p1, .ref o] (pre D a1 a2 [(h0, .inr (11, [.ref h1, .ref h2, .ref (g 2), .ref (g 3), .ref (g 4), .ref (g 5), .ref (g 6), .int 0, .int 0, .int 0, .int 0])), (h1, .inr (6, [.ref (gn 0), .int 0, .ref (gn 2), .ref (gn 3), .int 0, .ref (gn 5), .int 0, .int 0])), (h2, .inr (1, [.ref h1, .ref (gb 1), .int 0]))] [] sz)) (va_Qi (S := Unit) (fun r _ => r = 1) (fun _ _ => True) (va_A [(h0, .inr (11, [.ref h1, .ref h2, .ref (g 2), .ref (g 3), .ref (g 4), .ref (g 5), .ref (g 6), .int 0, .int 0, .int 0, .int 0])), (h1, .inr (6, [.ref (gn 0), .int 0, .ref (gn 2), .ref (gn 3), .int 0, .ref (gn 5), .int 0, .int 0])), (h2, .inr (1, [.ref h1, .ref (gb 1), .int 0]))] sz)) (vx_X (fun _ : Unit => False) (fun _ _ _ => True) (va_A [(h0, .inr (11, [.ref h1, .ref h2, .ref (g 2), .ref (g 3), .ref (g 4), .ref (g 5), .ref (g 6), .int 0, .int 0, .int 0, .int 0])), (h1, .inr (6, [.ref (gn 0), .int 0, .ref (gn 2), .ref (gn 3), .int 0, .ref (gn 5), .int 0, .int 0])), (h2, .inr (1, [.ref h1, .ref (gb 1), .int 0]))] sz)) 1 6 (va_A [(h0, .inr (11, [.ref h1, .ref h2, .ref (g 2), .ref (g 3), .ref (g 4), .ref (g 5), .ref (g 6), .int 0, .int 0, .int 0, .int 0])), (h1, .inr (6, [.ref (gn 0), .int 0, .ref (gn 2), .ref (gn 3), .int 0, .ref (gn 5), .int 0, .int 0])), (h2, .inr (1, [.ref h1, .ref (gb 1), .int 0]))] sz) := by
  refine open_H (by decide +kernel) (Nat.le_of_ble_eq_true rfl) (fun A => va_Qi (S := Unit) (fun r _ => r = 1) (fun _ _ => True) A) (fun A => vx_X (fun _ : Unit => False) (fun _ _ _ => True) A) ?_
  intro p e s m below meth c A ls hG
  obtain ⟨⟨hx, hb, hr, hml, hown, hts, hlocks, hin, hP, hK, hD, hA, hE, hS, hl⟩, hno⟩ := hG
  have hown : s.vm.findClass RL = some m.cls := hown
  have hl : lv_has ls 4 [(0, .ref h0), (1, .int p1), (2, .ref o)] := hl
  refine lv_aload_n hx hb dL_tied_0 rfl (lv_at hl 2 rfl) ?_
  refine lv_iconst (v := 0) hx hb dL_tied_1 (by decide) ?_
  refine lv_aload_n hx hb dL_tied_2 rfl (lv_at hl 0 rfl) ?_
  refine lv_iload_n hx hb dL_tied_3 rfl (lv_at hl 1 rfl) ?_
  have f_1 := free_of (wc := [(h0, .inr (11, [.ref h1, .ref h2, .ref (g 2), .ref (g 3), .ref (g 4), .ref (g 5), .ref (g 6), .int 0, .int 0, .int 0, .int 0])), (h1, .inr (6, [.ref (gn 0), .int 0, .ref (gn 2), .ref (gn 3), .int 0, .ref (gn 5), .int 0, .int 0])), (h2, .inr (1, [.ref h1, .ref (gb 1), .int 0]))]) hD hS hA [0, 1, 2] rfl
  refine never (vx_runV (As := [.int p1]) (rest := [.int 0, .ref o]) ⟨hx, hb, hml, hown, hts⟩ (c_x_tied l hl9 D a1 a2 s.heap.size h0 h1 h2 g gn gb p1) (cwV 1 hts (gV w_146 w_147 w_148 w_8 w_149) rfl rfl rfl (by decide +kernel) ⟨Nat.le_of_ble_eq_true rfl, Nat.le_of_ble_eq_true rfl⟩) (pre_V hK hP hD hS hA hE [0, 1, 2] rfl (by decide) rfl [] rfl (ci := 11) (q0 := 0) rfl rfl) rfl rfl hl.1 rfl (lv_room (Nat.le_of_ble_eq_true rfl)) dL_tied_4 ⟨Nat.le_of_ble_eq_true rfl, Nat.le_of_ble_eq_true rfl⟩) (fun _ _ _ h => h) hS f_1 (fun q _ h => f_1 q h) (fun E ce q9 u9 t H locs ht hvm hw hB hz1 hk1 hS hce hcv hcl => ?_)
  subst hB
  refine vx_catch (own := RL) (name := "java/util/NoSuchElementException") (E := "java/util/NoSuchElementException") hown [] ⟨0, 8, 11, 19⟩ [] (by rw [hno]; rfl) (fun z hz => nomatch hz) (by decide) (by decide) (hts (.classLink RL 19 "java/util/NoSuchElementException") w_45) (va_Nw.use rfl hE.1.2.1.1) hce hcv hcl ?_
  refine W.eq (g2 := F0 m 11 ls [.ref q9]) rfl ?_
  refine lv_astore_n (lv' := [(3, .ref q9), (0, .ref h0), (1, .int p1), (2, .ref o)]) hx hb dL_tied_11 rfl hl (by decide) rfl (fun ls hl => ?_)
  refine lv_iconst (v := 1) hx hb dL_tied_12 (by decide) ?_
  refine W.widen (k := 1) (n := 6) (Nat.le_of_ble_eq_true rfl) (Nat.le_of_ble_eq_true rfl) ?_
  refine vx_ret ?_
  exact W.iret (v := 1) hx hb hr (fun t ht hW => ⟨⟨1, (), rfl, rfl, trivial⟩, hS.F ht⟩) hS.2.2 dL_tied_13
set_option maxRecDepth 100000 in
set_option maxHeartbeats 4000000 in
theorem c_h_line (l : Launch) (hl9 : l.stackTraces = false) (D : va_G) (a1 a2 sz : Nat) (h0 h1 h2 : Nat) (g gn gb : Nat → Nat) (p1 p2 p3 : Int32) (o : Nat) : vx_Met l yL_line (Cond.codeWith yL_line cL_line 6 (some .int) [(0, 12, 15, 19), (0, 12, 19, 13)] :: WS) ({ frames := 16, cells := 1, slots := 6, locals := 500 }) (va_Pc [.ref h0, .int p1, .int p2, .int p3, .ref o] (pre D a1 a2 [(h0, .inr (11, [.ref h1, .ref h2, .ref (g 2), .ref (g 3), .ref (g 4), .ref (g 5), .ref (g 6), .int 0, .int 0, .int 0, .int 0])), (h1, .inr (6, [.ref (gn 0), .int 0, .ref (gn 2), .ref (gn 3), .int 0, .ref (gn 5), .int 0, .int 0])), (h2, .inr (1, [.ref h1, .ref (gb 1), .int 0]))] [] sz)) (va_Qi (S := Unit) (fun r _ => r = 1) (fun _ _ => True) (va_A [(h0, .inr (11, [.ref h1, .ref h2, .ref (g 2), .ref (g 3), .ref (g 4), .ref (g 5), .ref (g 6), .int 0, .int 0, .int 0, .int 0])), (h1, .inr (6, [.ref (gn 0), .int 0, .ref (gn 2), .ref (gn 3), .int 0, .ref (gn 5), .int 0, .int 0])), (h2, .inr (1, [.ref h1, .ref (gb 1), .int 0]))] sz)) (vx_X (fun _ : Unit => False) (fun _ _ _ => True) (va_A [(h0, .inr (11, [.ref h1, .ref h2, .ref (g 2), .ref (g 3), .ref (g 4), .ref (g 5), .ref (g 6), .int 0, .int 0, .int 0, .int 0])), (h1, .inr (6, [.ref (gn 0), .int 0, .ref (gn 2), .ref (gn 3), .int 0, .ref (gn 5), .int 0, .int 0])), (h2, .inr (1, [.ref h1, .ref (gb 1), .int 0]))] sz)) 1 6 (va_A [(h0, .inr (11, [.ref h1, .ref h2, .ref (g 2), .ref (g 3), .ref (g 4), .ref (g 5), .ref (g 6), .int 0, .int 0, .int 0, .int 0])), (h1, .inr (6, [.ref (gn 0), .int 0, .ref (gn 2), .ref (gn 3), .int 0, .ref (gn 5), .int 0, .int 0])), (h2, .inr (1, [.ref h1, .ref (gb 1), .int 0]))] sz) := by
  refine open_H (by decide +kernel) (Nat.le_of_ble_eq_true rfl) (fun A => va_Qi (S := Unit) (fun r _ => r = 1) (fun _ _ => True) A) (fun A => vx_X (fun _ : Unit => False) (fun _ _ _ => True) A) ?_
  intro p e s m below meth c A ls hG
  obtain ⟨⟨hx, hb, hr, hml, hown, hts, hlocks, hin, hP, hK, hD, hA, hE, hS, hl⟩, hno⟩ := hG
  have hown : s.vm.findClass RL = some m.cls := hown
  have hl : lv_has ls 6 [(0, .ref h0), (1, .int p1), (2, .int p2), (3, .int p3), (4, .ref o)] := hl
  refine lv_aload hx hb dL_line_0 (lv_at hl 4 rfl) ?_
  refine lv_iconst (v := 0) hx hb dL_line_2 (by decide) ?_
  refine lv_aload_n hx hb dL_line_3 rfl (lv_at hl 0 rfl) ?_
  refine lv_iload_n hx hb dL_line_4 rfl (lv_at hl 1 rfl) ?_
  refine lv_iload_n hx hb dL_line_5 rfl (lv_at hl 2 rfl) ?_
  refine lv_iload_n hx hb dL_line_6 rfl (lv_at hl 3 rfl) ?_
  have f_1 := free_of (wc := [(h0, .inr (11, [.ref h1, .ref h2, .ref (g 2), .ref (g 3), .ref (g 4), .ref (g 5), .ref (g 6), .int 0, .int 0, .int 0, .int 0])), (h1, .inr (6, [.ref (gn 0), .int 0, .ref (gn 2), .ref (gn 3), .int 0, .ref (gn 5), .int 0, .int 0])), (h2, .inr (1, [.ref h1, .ref (gb 1), .int 0]))]) hD hS hA [0, 1, 2] rfl
  refine never (vx_runV (As := [.int p1, .int p2, .int p3]) (rest := [.int 0, .ref o]) ⟨hx, hb, hml, hown, hts⟩ (c_x_line l hl9 D a1 a2 s.heap.size h0 h1 h2 g gn gb p1 p2 p3) (cwV 3 hts (gV w_150 w_151 w_152 w_8 w_153) rfl rfl rfl (by decide +kernel) ⟨Nat.le_of_ble_eq_true rfl, Nat.le_of_ble_eq_true rfl⟩) (pre_V hK hP hD hS hA hE [0, 1, 2] rfl (by decide) rfl [] rfl (ci := 11) (q0 := 0) rfl rfl) rfl rfl hl.1 rfl (lv_room (Nat.le_of_ble_eq_true rfl)) dL_line_7 ⟨Nat.le_of_ble_eq_true rfl, Nat.le_of_ble_eq_true rfl⟩) (fun _ _ _ h => h) hS f_1 (fun q _ h => f_1 q h) (fun E ce q9 u9 t H locs ht hvm hw hB hz1 hk1 hS hce hcv hcl => ?_)
  subst hB
  refine vx_catch (own := RL) (name := "java/util/NoSuchElementException") (E := "java/util/NoSuchElementException") hown [] ⟨0, 12, 15, 19⟩ [⟨0, 12, 19, 13⟩] (by rw [hno]; rfl) (fun z hz => nomatch hz) (by decide) (by decide) (hts (.classLink RL 19 "java/util/NoSuchElementException") w_45) (va_Nw.use rfl hE.1.2.1.1) hce hcv hcl ?_
  refine W.eq (g2 := F0 m 15 ls [.ref q9]) rfl ?_
  refine lv_astore (lv' := [(5, .ref q9), (0, .ref h0), (1, .int p1), (2, .int p2), (3, .int p3), (4, .ref o)]) hx hb dL_line_15 hl (by decide) rfl (fun ls hl => ?_)
  refine lv_iconst (v := 1) hx hb dL_line_17 (by decide) ?_
  refine W.widen (k := 1) (n := 6) (Nat.le_of_ble_eq_true rfl) (Nat.le_of_ble_eq_true rfl) ?_
  refine vx_ret ?_
  exact W.iret (v := 1) hx hb hr (fun t ht hW => ⟨⟨1, (), rfl, rfl, trivial⟩, hS.F ht⟩) hS.2.2 dL_line_18
set_option maxRecDepth 100000 in
set_option maxHeartbeats 4000000 in
theorem c_h_forecast (l : Launch) (hl9 : l.stackTraces = false) (D : va_G) (a1 a2 sz : Nat) (h0 h1 h2 : Nat) (g gn gb : Nat → Nat) (p1 p2 : Int32) (o : Nat) : vx_Met l yL_forecast (Cond.codeWith yL_forecast cL_forecast 5 (some .int) [(0, 10, 13, 19), (0, 10, 17, 13)] :: WS) ({ frames := 16, cells := 1, slots := 6, locals := 500 }) (va_Pc [.ref h0, .int p1, .int p2, .ref o] (pre D a1 a2 [(h0, .inr (11, [.ref h1, .ref h2, .ref (g 2), .ref (g 3), .ref (g 4), .ref (g 5), .ref (g 6), .int 0, .int 0, .int 0, .int 0])), (h1, .inr (6, [.ref (gn 0), .int 0, .ref (gn 2), .ref (gn 3), .int 0, .ref (gn 5), .int 0, .int 0])), (h2, .inr (1, [.ref h1, .ref (gb 1), .int 0]))] [] sz)) (va_Qi (S := Unit) (fun r _ => r = 1) (fun _ _ => True) (va_A [(h0, .inr (11, [.ref h1, .ref h2, .ref (g 2), .ref (g 3), .ref (g 4), .ref (g 5), .ref (g 6), .int 0, .int 0, .int 0, .int 0])), (h1, .inr (6, [.ref (gn 0), .int 0, .ref (gn 2), .ref (gn 3), .int 0, .ref (gn 5), .int 0, .int 0])), (h2, .inr (1, [.ref h1, .ref (gb 1), .int 0]))] sz)) (vx_X (fun _ : Unit => False) (fun _ _ _ => True) (va_A [(h0, .inr (11, [.ref h1, .ref h2, .ref (g 2), .ref (g 3), .ref (g 4), .ref (g 5), .ref (g 6), .int 0, .int 0, .int 0, .int 0])), (h1, .inr (6, [.ref (gn 0), .int 0, .ref (gn 2), .ref (gn 3), .int 0, .ref (gn 5), .int 0, .int 0])), (h2, .inr (1, [.ref h1, .ref (gb 1), .int 0]))] sz)) 1 6 (va_A [(h0, .inr (11, [.ref h1, .ref h2, .ref (g 2), .ref (g 3), .ref (g 4), .ref (g 5), .ref (g 6), .int 0, .int 0, .int 0, .int 0])), (h1, .inr (6, [.ref (gn 0), .int 0, .ref (gn 2), .ref (gn 3), .int 0, .ref (gn 5), .int 0, .int 0])), (h2, .inr (1, [.ref h1, .ref (gb 1), .int 0]))] sz) := by
  refine open_H (by decide +kernel) (Nat.le_of_ble_eq_true rfl) (fun A => va_Qi (S := Unit) (fun r _ => r = 1) (fun _ _ => True) A) (fun A => vx_X (fun _ : Unit => False) (fun _ _ _ => True) A) ?_
  intro p e s m below meth c A ls hG
  obtain ⟨⟨hx, hb, hr, hml, hown, hts, hlocks, hin, hP, hK, hD, hA, hE, hS, hl⟩, hno⟩ := hG
  have hown : s.vm.findClass RL = some m.cls := hown
  have hl : lv_has ls 5 [(0, .ref h0), (1, .int p1), (2, .int p2), (3, .ref o)] := hl
  refine lv_aload_n hx hb dL_forecast_0 rfl (lv_at hl 3 rfl) ?_
  refine lv_iconst (v := 0) hx hb dL_forecast_1 (by decide) ?_
  refine lv_aload_n hx hb dL_forecast_2 rfl (lv_at hl 0 rfl) ?_
  refine lv_iload_n hx hb dL_forecast_3 rfl (lv_at hl 1 rfl) ?_
  refine lv_iload_n hx hb dL_forecast_4 rfl (lv_at hl 2 rfl) ?_
  have f_1 := free_of (wc := [(h0, .inr (11, [.ref h1, .ref h2, .ref (g 2), .ref (g 3), .ref (g 4), .ref (g 5), .ref (g 6), .int 0, .int 0, .int 0, .int 0])), (h1, .inr (6, [.ref (gn 0), .int 0, .ref (gn 2), .ref (gn 3), .int 0, .ref (gn 5), .int 0, .int 0])), (h2, .inr (1, [.ref h1, .ref (gb 1), .int 0]))]) hD hS hA [0, 1, 2] rfl
  refine never (vx_runV (As := [.int p1, .int p2]) (rest := [.int 0, .ref o]) ⟨hx, hb, hml, hown, hts⟩ (c_x_forecast l hl9 D a1 a2 s.heap.size h0 h1 h2 g gn gb p1 p2) (cwV 2 hts (gV w_154 w_155 w_156 w_8 w_157) rfl rfl rfl (by decide +kernel) ⟨Nat.le_of_ble_eq_true rfl, Nat.le_of_ble_eq_true rfl⟩) (pre_V hK hP hD hS hA hE [0, 1, 2] rfl (by decide) rfl [] rfl (ci := 11) (q0 := 0) rfl rfl) rfl rfl hl.1 rfl (lv_room (Nat.le_of_ble_eq_true rfl)) dL_forecast_5 ⟨Nat.le_of_ble_eq_true rfl, Nat.le_of_ble_eq_true rfl⟩) (fun _ _ _ h => h) hS f_1 (fun q _ h => f_1 q h) (fun E ce q9 u9 t H locs ht hvm hw hB hz1 hk1 hS hce hcv hcl => ?_)
  subst hB
  refine vx_catch (own := RL) (name := "java/util/NoSuchElementException") (E := "java/util/NoSuchElementException") hown [] ⟨0, 10, 13, 19⟩ [⟨0, 10, 17, 13⟩] (by rw [hno]; rfl) (fun z hz => nomatch hz) (by decide) (by decide) (hts (.classLink RL 19 "java/util/NoSuchElementException") w_45) (va_Nw.use rfl hE.1.2.1.1) hce hcv hcl ?_
  refine W.eq (g2 := F0 m 13 ls [.ref q9]) rfl ?_
  refine lv_astore (lv' := [(4, .ref q9), (0, .ref h0), (1, .int p1), (2, .int p2), (3, .ref o)]) hx hb dL_forecast_13 hl (by decide) rfl (fun ls hl => ?_)
  refine lv_iconst (v := 1) hx hb dL_forecast_15 (by decide) ?_
  refine W.widen (k := 1) (n := 6) (Nat.le_of_ble_eq_true rfl) (Nat.le_of_ble_eq_true rfl) ?_
  refine vx_ret ?_
  exact W.iret (v := 1) hx hb hr (fun t ht hW => ⟨⟨1, (), rfl, rfl, trivial⟩, hS.F ht⟩) hS.2.2 dL_forecast_16
set_option maxRecDepth 100000 in
set_option maxHeartbeats 4000000 in
theorem c_h_lowest (l : Launch) (hl9 : l.stackTraces = false) (D : va_G) (a1 a2 sz : Nat) (h0 h1 h2 : Nat) (g gn gb : Nat → Nat) (p1 p2 : Int32) (o : Nat) : vx_Met l yL_lowest (Cond.codeWith yL_lowest cL_lowest 5 (some .int) [(0, 10, 13, 19), (0, 10, 17, 13)] :: WS) ({ frames := 16, cells := 1, slots := 6, locals := 500 }) (va_Pc [.ref h0, .int p1, .int p2, .ref o] (pre D a1 a2 [(h0, .inr (11, [.ref h1, .ref h2, .ref (g 2), .ref (g 3), .ref (g 4), .ref (g 5), .ref (g 6), .int 0, .int 0, .int 0, .int 0])), (h1, .inr (6, [.ref (gn 0), .int 0, .ref (gn 2), .ref (gn 3), .int 0, .ref (gn 5), .int 0, .int 0])), (h2, .inr (1, [.ref h1, .ref (gb 1), .int 0]))] [] sz)) (va_Qi (S := Unit) (fun r _ => r = 1) (fun _ _ => True) (va_A [(h0, .inr (11, [.ref h1, .ref h2, .ref (g 2), .ref (g 3), .ref (g 4), .ref (g 5), .ref (g 6), .int 0, .int 0, .int 0, .int 0])), (h1, .inr (6, [.ref (gn 0), .int 0, .ref (gn 2), .ref (gn 3), .int 0, .ref (gn 5), .int 0, .int 0])), (h2, .inr (1, [.ref h1, .ref (gb 1), .int 0]))] sz)) (vx_X (fun _ : Unit => False) (fun _ _ _ => True) (va_A [(h0, .inr (11, [.ref h1, .ref h2, .ref (g 2), .ref (g 3), .ref (g 4), .ref (g 5), .ref (g 6), .int 0, .int 0, .int 0, .int 0])), (h1, .inr (6, [.ref (gn 0), .int 0, .ref (gn 2), .ref (gn 3), .int 0, .ref (gn 5), .int 0, .int 0])), (h2, .inr (1, [.ref h1, .ref (gb 1), .int 0]))] sz)) 1 6 (va_A [(h0, .inr (11, [.ref h1, .ref h2, .ref (g 2), .ref (g 3), .ref (g 4), .ref (g 5), .ref (g 6), .int 0, .int 0, .int 0, .int 0])), (h1, .inr (6, [.ref (gn 0), .int 0, .ref (gn 2), .ref (gn 3), .int 0, .ref (gn 5), .int 0, .int 0])), (h2, .inr (1, [.ref h1, .ref (gb 1), .int 0]))] sz) := by
  refine open_H (by decide +kernel) (Nat.le_of_ble_eq_true rfl) (fun A => va_Qi (S := Unit) (fun r _ => r = 1) (fun _ _ => True) A) (fun A => vx_X (fun _ : Unit => False) (fun _ _ _ => True) A) ?_
  intro p e s m below meth c A ls hG
  obtain ⟨⟨hx, hb, hr, hml, hown, hts, hlocks, hin, hP, hK, hD, hA, hE, hS, hl⟩, hno⟩ := hG
  have hown : s.vm.findClass RL = some m.cls := hown
  have hl : lv_has ls 5 [(0, .ref h0), (1, .int p1), (2, .int p2), (3, .ref o)] := hl
  refine lv_aload_n hx hb dL_lowest_0 rfl (lv_at hl 3 rfl) ?_
  refine lv_iconst (v := 0) hx hb dL_lowest_1 (by decide) ?_
  refine lv_aload_n hx hb dL_lowest_2 rfl (lv_at hl 0 rfl) ?_
  refine lv_iload_n hx hb dL_lowest_3 rfl (lv_at hl 1 rfl) ?_
  refine lv_iload_n hx hb dL_lowest_4 rfl (lv_at hl 2 rfl) ?_
  have f_1 := free_of (wc := [(h0, .inr (11, [.ref h1, .ref h2, .ref (g 2), .ref (g 3), .ref (g 4), .ref (g 5), .ref (g 6), .int 0, .int 0, .int 0, .int 0])), (h1, .inr (6, [.ref (gn 0), .int 0, .ref (gn 2), .ref (gn 3), .int 0, .ref (gn 5), .int 0, .int 0])), (h2, .inr (1, [.ref h1, .ref (gb 1), .int 0]))]) hD hS hA [0, 1, 2] rfl
  refine never (vx_runV (As := [.int p1, .int p2]) (rest := [.int 0, .ref o]) ⟨hx, hb, hml, hown, hts⟩ (c_x_lowest l hl9 D a1 a2 s.heap.size h0 h1 h2 g gn gb p1 p2) (cwV 2 hts (gV w_158 w_159 w_160 w_8 w_161) rfl rfl rfl (by decide +kernel) ⟨Nat.le_of_ble_eq_true rfl, Nat.le_of_ble_eq_true rfl⟩) (pre_V hK hP hD hS hA hE [0, 1, 2] rfl (by decide) rfl [] rfl (ci := 11) (q0 := 0) rfl rfl) rfl rfl hl.1 rfl (lv_room (Nat.le_of_ble_eq_true rfl)) dL_lowest_5 ⟨Nat.le_of_ble_eq_true rfl, Nat.le_of_ble_eq_true rfl⟩) (fun _ _ _ h => h) hS f_1 (fun q _ h => f_1 q h) (fun E ce q9 u9 t H locs ht hvm hw hB hz1 hk1 hS hce hcv hcl => ?_)
  subst hB
  refine vx_catch (own := RL) (name := "java/util/NoSuchElementException") (E := "java/util/NoSuchElementException") hown [] ⟨0, 10, 13, 19⟩ [⟨0, 10, 17, 13⟩] (by rw [hno]; rfl) (fun z hz => nomatch hz) (by decide) (by decide) (hts (.classLink RL 19 "java/util/NoSuchElementException") w_45) (va_Nw.use rfl hE.1.2.1.1) hce hcv hcl ?_
  refine W.eq (g2 := F0 m 13 ls [.ref q9]) rfl ?_
  refine lv_astore (lv' := [(4, .ref q9), (0, .ref h0), (1, .int p1), (2, .int p2), (3, .ref o)]) hx hb dL_lowest_13 hl (by decide) rfl (fun ls hl => ?_)
  refine lv_iconst (v := 1) hx hb dL_lowest_15 (by decide) ?_
  refine W.widen (k := 1) (n := 6) (Nat.le_of_ble_eq_true rfl) (Nat.le_of_ble_eq_true rfl) ?_
  refine vx_ret ?_
  exact W.iret (v := 1) hx hb hr (fun t ht hW => ⟨⟨1, (), rfl, rfl, trivial⟩, hS.F ht⟩) hS.2.2 dL_lowest_16
set_option maxRecDepth 100000 in
set_option maxHeartbeats 4000000 in
theorem c_h_late (l : Launch) (hl9 : l.stackTraces = false) (D : va_G) (a1 a2 sz : Nat) (h0 h1 h2 : Nat) (g gn gb : Nat → Nat) (p1 : Int32) (o : Nat) : vx_Met l yL_late (Cond.codeWith yL_late cL_late 4 (some .int) [(0, 9, 12, 19)] :: WS) ({ frames := 16, cells := 1, slots := 6, locals := 500 }) (va_Pc [.ref h0, .int p1, .ref o] (pre D a1 a2 [(h0, .inr (11, [.ref h1, .ref h2, .ref (g 2), .ref (g 3), .ref (g 4), .ref (g 5), .ref (g 6), .int 0, .int 0, .int 0, .int 0])), (h1, .inr (6, [.ref (gn 0), .int 0, .ref (gn 2), .ref (gn 3), .int 0, .ref (gn 5), .int 0, .int 0])), (h2, .inr (1, [.ref h1, .ref (gb 1), .int 0]))] [] sz)) (va_Qi (S := Unit) (fun r _ => r = 1) (fun _ _ => True) (va_A [(h0, .inr (11, [.ref h1, .ref h2, .ref (g 2), .ref (g 3), .ref (g 4), .ref (g 5), .ref (g 6), .int 0, .int 0, .int 0, .int 0])), (h1, .inr (6, [.ref (gn 0), .int 0, .ref (gn 2), .ref (gn 3), .int 0, .ref (gn 5), .int 0, .int 0])), (h2, .inr (1, [.ref h1, .ref (gb 1), .int 0]))] sz)) (vx_X (fun _ : Unit => False) (fun _ _ _ => True) (va_A [(h0, .inr (11, [.ref h1, .ref h2, .ref (g 2), .ref (g 3), .ref (g 4), .ref (g 5), .ref (g 6), .int 0, .int 0, .int 0, .int 0])), (h1, .inr (6, [.ref (gn 0), .int 0, .ref (gn 2), .ref (gn 3), .int 0, .ref (gn 5), .int 0, .int 0])), (h2, .inr (1, [.ref h1, .ref (gb 1), .int 0]))] sz)) 1 6 (va_A [(h0, .inr (11, [.ref h1, .ref h2, .ref (g 2), .ref (g 3), .ref (g 4), .ref (g 5), .ref (g 6), .int 0, .int 0, .int 0, .int 0])), (h1, .inr (6, [.ref (gn 0), .int 0, .ref (gn 2), .ref (gn 3), .int 0, .ref (gn 5), .int 0, .int 0])), (h2, .inr (1, [.ref h1, .ref (gb 1), .int 0]))] sz) := by
  refine open_H (by decide +kernel) (Nat.le_of_ble_eq_true rfl) (fun A => va_Qi (S := Unit) (fun r _ => r = 1) (fun _ _ => True) A) (fun A => vx_X (fun _ : Unit => False) (fun _ _ _ => True) A) ?_
  intro p e s m below meth c A ls hG
  obtain ⟨⟨hx, hb, hr, hml, hown, hts, hlocks, hin, hP, hK, hD, hA, hE, hS, hl⟩, hno⟩ := hG
  have hown : s.vm.findClass RL = some m.cls := hown
  have hl : lv_has ls 4 [(0, .ref h0), (1, .int p1), (2, .ref o)] := hl
  refine lv_aload_n hx hb dL_late_0 rfl (lv_at hl 2 rfl) ?_
  refine lv_iconst (v := 0) hx hb dL_late_1 (by decide) ?_
  refine lv_aload_n hx hb dL_late_2 rfl (lv_at hl 0 rfl) ?_
  refine lv_iload_n hx hb dL_late_3 rfl (lv_at hl 1 rfl) ?_
  have f_1 := free_of (wc := [(h0, .inr (11, [.ref h1, .ref h2, .ref (g 2), .ref (g 3), .ref (g 4), .ref (g 5), .ref (g 6), .int 0, .int 0, .int 0, .int 0])), (h1, .inr (6, [.ref (gn 0), .int 0, .ref (gn 2), .ref (gn 3), .int 0, .ref (gn 5), .int 0, .int 0])), (h2, .inr (1, [.ref h1, .ref (gb 1), .int 0]))]) hD hS hA [0, 1, 2] rfl
  refine never (vx_runV (As := [.int p1]) (rest := [.int 0, .ref o]) ⟨hx, hb, hml, hown, hts⟩ (c_x_late l hl9 D a1 a2 s.heap.size h0 h1 h2 g gn gb p1) (cwV 1 hts (gV w_162 w_163 w_164 w_8 w_165) rfl rfl rfl (by decide +kernel) ⟨Nat.le_of_ble_eq_true rfl, Nat.le_of_ble_eq_true rfl⟩) (pre_V hK hP hD hS hA hE [0, 1, 2] rfl (by decide) rfl [] rfl (ci := 11) (q0 := 0) rfl rfl) rfl rfl hl.1 rfl (lv_room (Nat.le_of_ble_eq_true rfl)) dL_late_4 ⟨Nat.le_of_ble_eq_true rfl, Nat.le_of_ble_eq_true rfl⟩) (fun _ _ _ h => h) hS f_1 (fun q _ h => f_1 q h) (fun E ce q9 u9 t H locs ht hvm hw hB hz1 hk1 hS hce hcv hcl => ?_)
  subst hB
  refine vx_catch (own := RL) (name := "java/util/NoSuchElementException") (E := "java/util/NoSuchElementException") hown [] ⟨0, 9, 12, 19⟩ [] (by rw [hno]; rfl) (fun z hz => nomatch hz) (by decide) (by decide) (hts (.classLink RL 19 "java/util/NoSuchElementException") w_45) (va_Nw.use rfl hE.1.2.1.1) hce hcv hcl ?_
  refine W.eq (g2 := F0 m 12 ls [.ref q9]) rfl ?_
  refine lv_astore_n (lv' := [(3, .ref q9), (0, .ref h0), (1, .int p1), (2, .ref o)]) hx hb dL_late_12 rfl hl (by decide) rfl (fun ls hl => ?_)
  refine lv_iconst (v := 1) hx hb dL_late_13 (by decide) ?_
  refine W.widen (k := 1) (n := 6) (Nat.le_of_ble_eq_true rfl) (Nat.le_of_ble_eq_true rfl) ?_
  refine vx_ret ?_
  exact W.iret (v := 1) hx hb hr (fun t ht hW => ⟨⟨1, (), rfl, rfl, trivial⟩, hS.F ht⟩) hS.2.2 dL_late_14
set_option maxRecDepth 100000 in
set_option maxHeartbeats 4000000 in
theorem c_h_leaves (l : Launch) (hl9 : l.stackTraces = false) (D : va_G) (a1 a2 sz : Nat) (h0 h1 h2 : Nat) (g gn gb : Nat → Nat) (p1 p2 p3 : Int32) (o : Nat) : vx_Met l yL_leaves (Cond.codeWith yL_leaves cL_leaves 6 (some .int) [(0, 12, 15, 19), (0, 12, 19, 13)] :: WS) ({ frames := 16, cells := 1, slots := 6, locals := 500 }) (va_Pc [.ref h0, .int p1, .int p2, .int p3, .ref o] (pre D a1 a2 [(h0, .inr (11, [.ref h1, .ref h2, .ref (g 2), .ref (g 3), .ref (g 4), .ref (g 5), .ref (g 6), .int 0, .int 0, .int 0, .int 0])), (h1, .inr (6, [.ref (gn 0), .int 0, .ref (gn 2), .ref (gn 3), .int 0, .ref (gn 5), .int 0, .int 0])), (h2, .inr (1, [.ref h1, .ref (gb 1), .int 0]))] [] sz)) (va_Qi (S := Unit) (fun r _ => r = 1) (fun _ _ => True) (va_A [(h0, .inr (11, [.ref h1, .ref h2, .ref (g 2), .ref (g 3), .ref (g 4), .ref (g 5), .ref (g 6), .int 0, .int 0, .int 0, .int 0])), (h1, .inr (6, [.ref (gn 0), .int 0, .ref (gn 2), .ref (gn 3), .int 0, .ref (gn 5), .int 0, .int 0])), (h2, .inr (1, [.ref h1, .ref (gb 1), .int 0]))] sz)) (vx_X (fun _ : Unit => False) (fun _ _ _ => True) (va_A [(h0, .inr (11, [.ref h1, .ref h2, .ref (g 2), .ref (g 3), .ref (g 4), .ref (g 5), .ref (g 6), .int 0, .int 0, .int 0, .int 0])), (h1, .inr (6, [.ref (gn 0), .int 0, .ref (gn 2), .ref (gn 3), .int 0, .ref (gn 5), .int 0, .int 0])), (h2, .inr (1, [.ref h1, .ref (gb 1), .int 0]))] sz)) 1 6 (va_A [(h0, .inr (11, [.ref h1, .ref h2, .ref (g 2), .ref (g 3), .ref (g 4), .ref (g 5), .ref (g 6), .int 0, .int 0, .int 0, .int 0])), (h1, .inr (6, [.ref (gn 0), .int 0, .ref (gn 2), .ref (gn 3), .int 0, .ref (gn 5), .int 0, .int 0])), (h2, .inr (1, [.ref h1, .ref (gb 1), .int 0]))] sz) := by
  refine open_H (by decide +kernel) (Nat.le_of_ble_eq_true rfl) (fun A => va_Qi (S := Unit) (fun r _ => r = 1) (fun _ _ => True) A) (fun A => vx_X (fun _ : Unit => False) (fun _ _ _ => True) A) ?_
  intro p e s m below meth c A ls hG
  obtain ⟨⟨hx, hb, hr, hml, hown, hts, hlocks, hin, hP, hK, hD, hA, hE, hS, hl⟩, hno⟩ := hG
  have hown : s.vm.findClass RL = some m.cls := hown
  have hl : lv_has ls 6 [(0, .ref h0), (1, .int p1), (2, .int p2), (3, .int p3), (4, .ref o)] := hl
  refine lv_aload hx hb dL_leaves_0 (lv_at hl 4 rfl) ?_
  refine lv_iconst (v := 0) hx hb dL_leaves_2 (by decide) ?_
  refine lv_aload_n hx hb dL_leaves_3 rfl (lv_at hl 0 rfl) ?_
  refine lv_iload_n hx hb dL_leaves_4 rfl (lv_at hl 1 rfl) ?_
  refine lv_iload_n hx hb dL_leaves_5 rfl (lv_at hl 2 rfl) ?_
  refine lv_iload_n hx hb dL_leaves_6 rfl (lv_at hl 3 rfl) ?_
  have f_1 := free_of (wc := [(h0, .inr (11, [.ref h1, .ref h2, .ref (g 2), .ref (g 3), .ref (g 4), .ref (g 5), .ref (g 6), .int 0, .int 0, .int 0, .int 0])), (h1, .inr (6, [.ref (gn 0), .int 0, .ref (gn 2), .ref (gn 3), .int 0, .ref (gn 5), .int 0, .int 0])), (h2, .inr (1, [.ref h1, .ref (gb 1), .int 0]))]) hD hS hA [0, 1, 2] rfl
  refine never (vx_runV (As := [.int p1, .int p2, .int p3]) (rest := [.int 0, .ref o]) ⟨hx, hb, hml, hown, hts⟩ (c_x_leaves l hl9 D a1 a2 s.heap.size h0 h1 h2 g gn gb p1 p2 p3) (cwV 3 hts (gV w_166 w_167 w_168 w_8 w_169) rfl rfl rfl (by decide +kernel) ⟨Nat.le_of_ble_eq_true rfl, Nat.le_of_ble_eq_true rfl⟩) (pre_V hK hP hD hS hA hE [0, 1, 2] rfl (by decide) rfl [] rfl (ci := 11) (q0 := 0) rfl rfl) rfl rfl hl.1 rfl (lv_room (Nat.le_of_ble_eq_true rfl)) dL_leaves_7 ⟨Nat.le_of_ble_eq_true rfl, Nat.le_of_ble_eq_true rfl⟩) (fun _ _ _ h => h) hS f_1 (fun q _ h => f_1 q h) (fun E ce q9 u9 t H locs ht hvm hw hB hz1 hk1 hS hce hcv hcl => ?_)
  subst hB
  refine vx_catch (own := RL) (name := "java/util/NoSuchElementException") (E := "java/util/NoSuchElementException") hown [] ⟨0, 12, 15, 19⟩ [⟨0, 12, 19, 13⟩] (by rw [hno]; rfl) (fun z hz => nomatch hz) (by decide) (by decide) (hts (.classLink RL 19 "java/util/NoSuchElementException") w_45) (va_Nw.use rfl hE.1.2.1.1) hce hcv hcl ?_
  refine W.eq (g2 := F0 m 15 ls [.ref q9]) rfl ?_
  refine lv_astore (lv' := [(5, .ref q9), (0, .ref h0), (1, .int p1), (2, .int p2), (3, .int p3), (4, .ref o)]) hx hb dL_leaves_15 hl (by decide) rfl (fun ls hl => ?_)
  refine lv_iconst (v := 1) hx hb dL_leaves_17 (by decide) ?_
  refine W.widen (k := 1) (n := 6) (Nat.le_of_ble_eq_true rfl) (Nat.le_of_ble_eq_true rfl) ?_
  refine vx_ret ?_
  exact W.iret (v := 1) hx hb hr (fun t ht hW => ⟨⟨1, (), rfl, rfl, trivial⟩, hS.F ht⟩) hS.2.2 dL_leaves_18
set_option maxRecDepth 100000 in
set_option maxHeartbeats 4000000 in
theorem c_h_arrives (l : Launch) (hl9 : l.stackTraces = false) (D : va_G) (a1 a2 sz : Nat) (h0 h1 h2 : Nat) (g gn gb : Nat → Nat) (p1 p2 p3 : Int32) (o : Nat) : vx_Met l yL_arrives (Cond.codeWith yL_arrives cL_arrives 6 (some .int) [(0, 12, 15, 19), (0, 12, 19, 13)] :: WS) ({ frames := 16, cells := 1, slots := 6, locals := 500 }) (va_Pc [.ref h0, .int p1, .int p2, .int p3, .ref o] (pre D a1 a2 [(h0, .inr (11, [.ref h1, .ref h2, .ref (g 2), .ref (g 3), .ref (g 4), .ref (g 5), .ref (g 6), .int 0, .int 0, .int 0, .int 0])), (h1, .inr (6, [.ref (gn 0), .int 0, .ref (gn 2), .ref (gn 3), .int 0, .ref (gn 5), .int 0, .int 0])), (h2, .inr (1, [.ref h1, .ref (gb 1), .int 0]))] [] sz)) (va_Qi (S := Unit) (fun r _ => r = 1) (fun _ _ => True) (va_A [(h0, .inr (11, [.ref h1, .ref h2, .ref (g 2), .ref (g 3), .ref (g 4), .ref (g 5), .ref (g 6), .int 0, .int 0, .int 0, .int 0])), (h1, .inr (6, [.ref (gn 0), .int 0, .ref (gn 2), .ref (gn 3), .int 0, .ref (gn 5), .int 0, .int 0])), (h2, .inr (1, [.ref h1, .ref (gb 1), .int 0]))] sz)) (vx_X (fun _ : Unit => False) (fun _ _ _ => True) (va_A [(h0, .inr (11, [.ref h1, .ref h2, .ref (g 2), .ref (g 3), .ref (g 4), .ref (g 5), .ref (g 6), .int 0, .int 0, .int 0, .int 0])), (h1, .inr (6, [.ref (gn 0), .int 0, .ref (gn 2), .ref (gn 3), .int 0, .ref (gn 5), .int 0, .int 0])), (h2, .inr (1, [.ref h1, .ref (gb 1), .int 0]))] sz)) 1 6 (va_A [(h0, .inr (11, [.ref h1, .ref h2, .ref (g 2), .ref (g 3), .ref (g 4), .ref (g 5), .ref (g 6), .int 0, .int 0, .int 0, .int 0])), (h1, .inr (6, [.ref (gn 0), .int 0, .ref (gn 2), .ref (gn 3), .int 0, .ref (gn 5), .int 0, .int 0])), (h2, .inr (1, [.ref h1, .ref (gb 1), .int 0]))] sz) := by
  refine open_H (by decide +kernel) (Nat.le_of_ble_eq_true rfl) (fun A => va_Qi (S := Unit) (fun r _ => r = 1) (fun _ _ => True) A) (fun A => vx_X (fun _ : Unit => False) (fun _ _ _ => True) A) ?_
  intro p e s m below meth c A ls hG
  obtain ⟨⟨hx, hb, hr, hml, hown, hts, hlocks, hin, hP, hK, hD, hA, hE, hS, hl⟩, hno⟩ := hG
  have hown : s.vm.findClass RL = some m.cls := hown
  have hl : lv_has ls 6 [(0, .ref h0), (1, .int p1), (2, .int p2), (3, .int p3), (4, .ref o)] := hl
  refine lv_aload hx hb dL_arrives_0 (lv_at hl 4 rfl) ?_
  refine lv_iconst (v := 0) hx hb dL_arrives_2 (by decide) ?_
  refine lv_aload_n hx hb dL_arrives_3 rfl (lv_at hl 0 rfl) ?_
  refine lv_iload_n hx hb dL_arrives_4 rfl (lv_at hl 1 rfl) ?_
  refine lv_iload_n hx hb dL_arrives_5 rfl (lv_at hl 2 rfl) ?_
  refine lv_iload_n hx hb dL_arrives_6 rfl (lv_at hl 3 rfl) ?_
  have f_1 := free_of (wc := [(h0, .inr (11, [.ref h1, .ref h2, .ref (g 2), .ref (g 3), .ref (g 4), .ref (g 5), .ref (g 6), .int 0, .int 0, .int 0, .int 0])), (h1, .inr (6, [.ref (gn 0), .int 0, .ref (gn 2), .ref (gn 3), .int 0, .ref (gn 5), .int 0, .int 0])), (h2, .inr (1, [.ref h1, .ref (gb 1), .int 0]))]) hD hS hA [0, 1, 2] rfl
  refine never (vx_runV (As := [.int p1, .int p2, .int p3]) (rest := [.int 0, .ref o]) ⟨hx, hb, hml, hown, hts⟩ (c_x_arrives l hl9 D a1 a2 s.heap.size h0 h1 h2 g gn gb p1 p2 p3) (cwV 3 hts (gV w_170 w_171 w_172 w_8 w_173) rfl rfl rfl (by decide +kernel) ⟨Nat.le_of_ble_eq_true rfl, Nat.le_of_ble_eq_true rfl⟩) (pre_V hK hP hD hS hA hE [0, 1, 2] rfl (by decide) rfl [] rfl (ci := 11) (q0 := 0) rfl rfl) rfl rfl hl.1 rfl (lv_room (Nat.le_of_ble_eq_true rfl)) dL_arrives_7 ⟨Nat.le_of_ble_eq_true rfl, Nat.le_of_ble_eq_true rfl⟩) (fun _ _ _ h => h) hS f_1 (fun q _ h => f_1 q h) (fun E ce q9 u9 t H locs ht hvm hw hB hz1 hk1 hS hce hcv hcl => ?_)
  subst hB
  refine vx_catch (own := RL) (name := "java/util/NoSuchElementException") (E := "java/util/NoSuchElementException") hown [] ⟨0, 12, 15, 19⟩ [⟨0, 12, 19, 13⟩] (by rw [hno]; rfl) (fun z hz => nomatch hz) (by decide) (by decide) (hts (.classLink RL 19 "java/util/NoSuchElementException") w_45) (va_Nw.use rfl hE.1.2.1.1) hce hcv hcl ?_
  refine W.eq (g2 := F0 m 15 ls [.ref q9]) rfl ?_
  refine lv_astore (lv' := [(5, .ref q9), (0, .ref h0), (1, .int p1), (2, .int p2), (3, .int p3), (4, .ref o)]) hx hb dL_arrives_15 hl (by decide) rfl (fun ls hl => ?_)
  refine lv_iconst (v := 1) hx hb dL_arrives_17 (by decide) ?_
  refine W.widen (k := 1) (n := 6) (Nat.le_of_ble_eq_true rfl) (Nat.le_of_ble_eq_true rfl) ?_
  refine vx_ret ?_
  exact W.iret (v := 1) hx hb hr (fun t ht hW => ⟨⟨1, (), rfl, rfl, trivial⟩, hS.F ht⟩) hS.2.2 dL_arrives_18
set_option maxRecDepth 100000 in
set_option maxHeartbeats 4000000 in
theorem c_h_reach (l : Launch) (hl9 : l.stackTraces = false) (D : va_G) (a1 a2 sz : Nat) (h0 h1 h2 : Nat) (g gn gb : Nat → Nat) (p1 p2 p3 : Int32) (o : Nat) : vx_Met l yL_reach (Cond.codeWith yL_reach cL_reach 6 (some .int) [(0, 12, 15, 19), (0, 12, 19, 13)] :: WS) ({ frames := 16, cells := 1, slots := 6, locals := 500 }) (va_Pc [.ref h0, .int p1, .int p2, .int p3, .ref o] (pre D a1 a2 [(h0, .inr (11, [.ref h1, .ref h2, .ref (g 2), .ref (g 3), .ref (g 4), .ref (g 5), .ref (g 6), .int 0, .int 0, .int 0, .int 0])), (h1, .inr (6, [.ref (gn 0), .int 0, .ref (gn 2), .ref (gn 3), .int 0, .ref (gn 5), .int 0, .int 0])), (h2, .inr (1, [.ref h1, .ref (gb 1), .int 0]))] [] sz)) (va_Qi (S := Unit) (fun r _ => r = 1) (fun _ _ => True) (va_A [(h0, .inr (11, [.ref h1, .ref h2, .ref (g 2), .ref (g 3), .ref (g 4), .ref (g 5), .ref (g 6), .int 0, .int 0, .int 0, .int 0])), (h1, .inr (6, [.ref (gn 0), .int 0, .ref (gn 2), .ref (gn 3), .int 0, .ref (gn 5), .int 0, .int 0])), (h2, .inr (1, [.ref h1, .ref (gb 1), .int 0]))] sz)) (vx_X (fun _ : Unit => False) (fun _ _ _ => True) (va_A [(h0, .inr (11, [.ref h1, .ref h2, .ref (g 2), .ref (g 3), .ref (g 4), .ref (g 5), .ref (g 6), .int 0, .int 0, .int 0, .int 0])), (h1, .inr (6, [.ref (gn 0), .int 0, .ref (gn 2), .ref (gn 3), .int 0, .ref (gn 5), .int 0, .int 0])), (h2, .inr (1, [.ref h1, .ref (gb 1), .int 0]))] sz)) 1 6 (va_A [(h0, .inr (11, [.ref h1, .ref h2, .ref (g 2), .ref (g 3), .ref (g 4), .ref (g 5), .ref (g 6), .int 0, .int 0, .int 0, .int 0])), (h1, .inr (6, [.ref (gn 0), .int 0, .ref (gn 2), .ref (gn 3), .int 0, .ref (gn 5), .int 0, .int 0])), (h2, .inr (1, [.ref h1, .ref (gb 1), .int 0]))] sz) := by
  refine open_H (by decide +kernel) (Nat.le_of_ble_eq_true rfl) (fun A => va_Qi (S := Unit) (fun r _ => r = 1) (fun _ _ => True) A) (fun A => vx_X (fun _ : Unit => False) (fun _ _ _ => True) A) ?_
  intro p e s m below meth c A ls hG
  obtain ⟨⟨hx, hb, hr, hml, hown, hts, hlocks, hin, hP, hK, hD, hA, hE, hS, hl⟩, hno⟩ := hG
  have hown : s.vm.findClass RL = some m.cls := hown
  have hl : lv_has ls 6 [(0, .ref h0), (1, .int p1), (2, .int p2), (3, .int p3), (4, .ref o)] := hl
  refine lv_aload hx hb dL_reach_0 (lv_at hl 4 rfl) ?_
  refine lv_iconst (v := 0) hx hb dL_reach_2 (by decide) ?_
  refine lv_aload_n hx hb dL_reach_3 rfl (lv_at hl 0 rfl) ?_
  refine lv_iload_n hx hb dL_reach_4 rfl (lv_at hl 1 rfl) ?_
  refine lv_iload_n hx hb dL_reach_5 rfl (lv_at hl 2 rfl) ?_
  refine lv_iload_n hx hb dL_reach_6 rfl (lv_at hl 3 rfl) ?_
  have f_1 := free_of (wc := [(h0, .inr (11, [.ref h1, .ref h2, .ref (g 2), .ref (g 3), .ref (g 4), .ref (g 5), .ref (g 6), .int 0, .int 0, .int 0, .int 0])), (h1, .inr (6, [.ref (gn 0), .int 0, .ref (gn 2), .ref (gn 3), .int 0, .ref (gn 5), .int 0, .int 0])), (h2, .inr (1, [.ref h1, .ref (gb 1), .int 0]))]) hD hS hA [0, 1, 2] rfl
  refine never (vx_runV (As := [.int p1, .int p2, .int p3]) (rest := [.int 0, .ref o]) ⟨hx, hb, hml, hown, hts⟩ (c_x_reach l hl9 D a1 a2 s.heap.size h0 h1 h2 g gn gb p1 p2 p3) (cwV 3 hts (gV w_174 w_175 w_176 w_8 w_177) rfl rfl rfl (by decide +kernel) ⟨Nat.le_of_ble_eq_true rfl, Nat.le_of_ble_eq_true rfl⟩) (pre_V hK hP hD hS hA hE [0, 1, 2] rfl (by decide) rfl [] rfl (ci := 11) (q0 := 0) rfl rfl) rfl rfl hl.1 rfl (lv_room (Nat.le_of_ble_eq_true rfl)) dL_reach_7 ⟨Nat.le_of_ble_eq_true rfl, Nat.le_of_ble_eq_true rfl⟩) (fun _ _ _ h => h) hS f_1 (fun q _ h => f_1 q h) (fun E ce q9 u9 t H locs ht hvm hw hB hz1 hk1 hS hce hcv hcl => ?_)
  subst hB
  refine vx_catch (own := RL) (name := "java/util/NoSuchElementException") (E := "java/util/NoSuchElementException") hown [] ⟨0, 12, 15, 19⟩ [⟨0, 12, 19, 13⟩] (by rw [hno]; rfl) (fun z hz => nomatch hz) (by decide) (by decide) (hts (.classLink RL 19 "java/util/NoSuchElementException") w_45) (va_Nw.use rfl hE.1.2.1.1) hce hcv hcl ?_
  refine W.eq (g2 := F0 m 15 ls [.ref q9]) rfl ?_
  refine lv_astore (lv' := [(5, .ref q9), (0, .ref h0), (1, .int p1), (2, .int p2), (3, .int p3), (4, .ref o)]) hx hb dL_reach_15 hl (by decide) rfl (fun ls hl => ?_)
  refine lv_iconst (v := 1) hx hb dL_reach_17 (by decide) ?_
  refine W.widen (k := 1) (n := 6) (Nat.le_of_ble_eq_true rfl) (Nat.le_of_ble_eq_true rfl) ?_
  refine vx_ret ?_
  exact W.iret (v := 1) hx hb hr (fun t ht hW => ⟨⟨1, (), rfl, rfl, trivial⟩, hS.F ht⟩) hS.2.2 dL_reach_18
set_option maxRecDepth 100000 in
set_option maxHeartbeats 4000000 in
theorem c_h_cheapest (l : Launch) (hl9 : l.stackTraces = false) (D : va_G) (a1 a2 sz : Nat) (h0 h1 h2 : Nat) (g gn gb : Nat → Nat) (p1 : Int32) (o : Nat) : vx_Met l yL_cheapest (Cond.codeWith yL_cheapest cL_cheapest 4 (some .int) [(0, 9, 12, 13)] :: WS) ({ frames := 16, cells := 1, slots := 6, locals := 500 }) (va_Pc [.ref h0, .int p1, .ref o] (pre D a1 a2 [(h0, .inr (11, [.ref h1, .ref h2, .ref (g 2), .ref (g 3), .ref (g 4), .ref (g 5), .ref (g 6), .int 0, .int 0, .int 0, .int 0])), (h1, .inr (6, [.ref (gn 0), .int 0, .ref (gn 2), .ref (gn 3), .int 0, .ref (gn 5), .int 0, .int 0])), (h2, .inr (1, [.ref h1, .ref (gb 1), .int 0]))] [] sz)) (va_Qi (S := Unit) (fun r _ => r = 1) (fun _ _ => True) (va_A [(h0, .inr (11, [.ref h1, .ref h2, .ref (g 2), .ref (g 3), .ref (g 4), .ref (g 5), .ref (g 6), .int 0, .int 0, .int 0, .int 0])), (h1, .inr (6, [.ref (gn 0), .int 0, .ref (gn 2), .ref (gn 3), .int 0, .ref (gn 5), .int 0, .int 0])), (h2, .inr (1, [.ref h1, .ref (gb 1), .int 0]))] sz)) (vx_X (fun _ : Unit => False) (fun _ _ _ => True) (va_A [(h0, .inr (11, [.ref h1, .ref h2, .ref (g 2), .ref (g 3), .ref (g 4), .ref (g 5), .ref (g 6), .int 0, .int 0, .int 0, .int 0])), (h1, .inr (6, [.ref (gn 0), .int 0, .ref (gn 2), .ref (gn 3), .int 0, .ref (gn 5), .int 0, .int 0])), (h2, .inr (1, [.ref h1, .ref (gb 1), .int 0]))] sz)) 1 6 (va_A [(h0, .inr (11, [.ref h1, .ref h2, .ref (g 2), .ref (g 3), .ref (g 4), .ref (g 5), .ref (g 6), .int 0, .int 0, .int 0, .int 0])), (h1, .inr (6, [.ref (gn 0), .int 0, .ref (gn 2), .ref (gn 3), .int 0, .ref (gn 5), .int 0, .int 0])), (h2, .inr (1, [.ref h1, .ref (gb 1), .int 0]))] sz) := by
  refine open_H (by decide +kernel) (Nat.le_of_ble_eq_true rfl) (fun A => va_Qi (S := Unit) (fun r _ => r = 1) (fun _ _ => True) A) (fun A => vx_X (fun _ : Unit => False) (fun _ _ _ => True) A) ?_
  intro p e s m below meth c A ls hG
  obtain ⟨⟨hx, hb, hr, hml, hown, hts, hlocks, hin, hP, hK, hD, hA, hE, hS, hl⟩, hno⟩ := hG
  have hown : s.vm.findClass RL = some m.cls := hown
  have hl : lv_has ls 4 [(0, .ref h0), (1, .int p1), (2, .ref o)] := hl
  refine lv_aload_n hx hb dL_cheapest_0 rfl (lv_at hl 2 rfl) ?_
  refine lv_iconst (v := 0) hx hb dL_cheapest_1 (by decide) ?_
  refine lv_aload_n hx hb dL_cheapest_2 rfl (lv_at hl 0 rfl) ?_
  refine lv_iload_n hx hb dL_cheapest_3 rfl (lv_at hl 1 rfl) ?_
  have f_1 := free_of (wc := [(h0, .inr (11, [.ref h1, .ref h2, .ref (g 2), .ref (g 3), .ref (g 4), .ref (g 5), .ref (g 6), .int 0, .int 0, .int 0, .int 0])), (h1, .inr (6, [.ref (gn 0), .int 0, .ref (gn 2), .ref (gn 3), .int 0, .ref (gn 5), .int 0, .int 0])), (h2, .inr (1, [.ref h1, .ref (gb 1), .int 0]))]) hD hS hA [0, 1, 2] rfl
  refine never (vx_runV (As := [.int p1]) (rest := [.int 0, .ref o]) ⟨hx, hb, hml, hown, hts⟩ (c_x_cheapest l hl9 D a1 a2 s.heap.size h0 h1 h2 g gn gb p1) (cwV 1 hts (gV w_178 w_179 w_180 w_8 w_181) rfl rfl rfl (by decide +kernel) ⟨Nat.le_of_ble_eq_true rfl, Nat.le_of_ble_eq_true rfl⟩) (pre_V hK hP hD hS hA hE [0, 1, 2] rfl (by decide) rfl [] rfl (ci := 11) (q0 := 0) rfl rfl) rfl rfl hl.1 rfl (lv_room (Nat.le_of_ble_eq_true rfl)) dL_cheapest_4 ⟨Nat.le_of_ble_eq_true rfl, Nat.le_of_ble_eq_true rfl⟩) (fun _ _ _ h => h) hS f_1 (fun q _ h => f_1 q h) (fun E ce q9 u9 t H locs ht hvm hw hB hz1 hk1 hS hce hcv hcl => ?_)
  subst hB
  refine vx_catch (own := RL) (name := "java/lang/IllegalArgumentException") (E := "java/lang/IllegalArgumentException") hown [] ⟨0, 9, 12, 13⟩ [] (by rw [hno]; rfl) (fun z hz => nomatch hz) (by decide) (by decide) (hts (.classLink RL 13 "java/lang/IllegalArgumentException") w_182) (va_Nw.use rfl hE.1.2.1.2) hce hcv hcl ?_
  refine W.eq (g2 := F0 m 12 ls [.ref q9]) rfl ?_
  refine lv_astore_n (lv' := [(3, .ref q9), (0, .ref h0), (1, .int p1), (2, .ref o)]) hx hb dL_cheapest_12 rfl hl (by decide) rfl (fun ls hl => ?_)
  refine lv_iconst (v := 1) hx hb dL_cheapest_13 (by decide) ?_
  refine W.widen (k := 1) (n := 6) (Nat.le_of_ble_eq_true rfl) (Nat.le_of_ble_eq_true rfl) ?_
  refine vx_ret ?_
  exact W.iret (v := 1) hx hb hr (fun t ht hW => ⟨⟨1, (), rfl, rfl, trivial⟩, hS.F ht⟩) hS.2.2 dL_cheapest_14
set_option maxRecDepth 100000 in
set_option maxHeartbeats 4000000 in
theorem c_h_latest (l : Launch) (hl9 : l.stackTraces = false) (D : va_G) (a1 a2 sz : Nat) (h0 h1 h2 : Nat) (g gn gb : Nat → Nat) (p1 : Int32) (o : Nat) : vx_Met l yL_latest (Cond.codeWith yL_latest cL_latest 4 (some .int) [(0, 9, 12, 13)] :: WS) ({ frames := 16, cells := 1, slots := 6, locals := 500 }) (va_Pc [.ref h0, .int p1, .ref o] (pre D a1 a2 [(h0, .inr (11, [.ref h1, .ref h2, .ref (g 2), .ref (g 3), .ref (g 4), .ref (g 5), .ref (g 6), .int 0, .int 0, .int 0, .int 0])), (h1, .inr (6, [.ref (gn 0), .int 0, .ref (gn 2), .ref (gn 3), .int 0, .ref (gn 5), .int 0, .int 0])), (h2, .inr (1, [.ref h1, .ref (gb 1), .int 0]))] [] sz)) (va_Qi (S := Unit) (fun r _ => r = 1) (fun _ _ => True) (va_A [(h0, .inr (11, [.ref h1, .ref h2, .ref (g 2), .ref (g 3), .ref (g 4), .ref (g 5), .ref (g 6), .int 0, .int 0, .int 0, .int 0])), (h1, .inr (6, [.ref (gn 0), .int 0, .ref (gn 2), .ref (gn 3), .int 0, .ref (gn 5), .int 0, .int 0])), (h2, .inr (1, [.ref h1, .ref (gb 1), .int 0]))] sz)) (vx_X (fun _ : Unit => False) (fun _ _ _ => True) (va_A [(h0, .inr (11, [.ref h1, .ref h2, .ref (g 2), .ref (g 3), .ref (g 4), .ref (g 5), .ref (g 6), .int 0, .int 0, .int 0, .int 0])), (h1, .inr (6, [.ref (gn 0), .int 0, .ref (gn 2), .ref (gn 3), .int 0, .ref (gn 5), .int 0, .int 0])), (h2, .inr (1, [.ref h1, .ref (gb 1), .int 0]))] sz)) 1 6 (va_A [(h0, .inr (11, [.ref h1, .ref h2, .ref (g 2), .ref (g 3), .ref (g 4), .ref (g 5), .ref (g 6), .int 0, .int 0, .int 0, .int 0])), (h1, .inr (6, [.ref (gn 0), .int 0, .ref (gn 2), .ref (gn 3), .int 0, .ref (gn 5), .int 0, .int 0])), (h2, .inr (1, [.ref h1, .ref (gb 1), .int 0]))] sz) := by
  refine open_H (by decide +kernel) (Nat.le_of_ble_eq_true rfl) (fun A => va_Qi (S := Unit) (fun r _ => r = 1) (fun _ _ => True) A) (fun A => vx_X (fun _ : Unit => False) (fun _ _ _ => True) A) ?_
  intro p e s m below meth c A ls hG
  obtain ⟨⟨hx, hb, hr, hml, hown, hts, hlocks, hin, hP, hK, hD, hA, hE, hS, hl⟩, hno⟩ := hG
  have hown : s.vm.findClass RL = some m.cls := hown
  have hl : lv_has ls 4 [(0, .ref h0), (1, .int p1), (2, .ref o)] := hl
  refine lv_aload_n hx hb dL_latest_0 rfl (lv_at hl 2 rfl) ?_
  refine lv_iconst (v := 0) hx hb dL_latest_1 (by decide) ?_
  refine lv_aload_n hx hb dL_latest_2 rfl (lv_at hl 0 rfl) ?_
  refine lv_iload_n hx hb dL_latest_3 rfl (lv_at hl 1 rfl) ?_
  have f_1 := free_of (wc := [(h0, .inr (11, [.ref h1, .ref h2, .ref (g 2), .ref (g 3), .ref (g 4), .ref (g 5), .ref (g 6), .int 0, .int 0, .int 0, .int 0])), (h1, .inr (6, [.ref (gn 0), .int 0, .ref (gn 2), .ref (gn 3), .int 0, .ref (gn 5), .int 0, .int 0])), (h2, .inr (1, [.ref h1, .ref (gb 1), .int 0]))]) hD hS hA [0, 1, 2] rfl
  refine never (vx_runV (As := [.int p1]) (rest := [.int 0, .ref o]) ⟨hx, hb, hml, hown, hts⟩ (c_x_latest l hl9 D a1 a2 s.heap.size h0 h1 h2 g gn gb p1) (cwV 1 hts (gV w_183 w_184 w_185 w_8 w_186) rfl rfl rfl (by decide +kernel) ⟨Nat.le_of_ble_eq_true rfl, Nat.le_of_ble_eq_true rfl⟩) (pre_V hK hP hD hS hA hE [0, 1, 2] rfl (by decide) rfl [] rfl (ci := 11) (q0 := 0) rfl rfl) rfl rfl hl.1 rfl (lv_room (Nat.le_of_ble_eq_true rfl)) dL_latest_4 ⟨Nat.le_of_ble_eq_true rfl, Nat.le_of_ble_eq_true rfl⟩) (fun _ _ _ h => h) hS f_1 (fun q _ h => f_1 q h) (fun E ce q9 u9 t H locs ht hvm hw hB hz1 hk1 hS hce hcv hcl => ?_)
  subst hB
  refine vx_catch (own := RL) (name := "java/lang/IllegalArgumentException") (E := "java/lang/IllegalArgumentException") hown [] ⟨0, 9, 12, 13⟩ [] (by rw [hno]; rfl) (fun z hz => nomatch hz) (by decide) (by decide) (hts (.classLink RL 13 "java/lang/IllegalArgumentException") w_182) (va_Nw.use rfl hE.1.2.1.2) hce hcv hcl ?_
  refine W.eq (g2 := F0 m 12 ls [.ref q9]) rfl ?_
  refine lv_astore_n (lv' := [(3, .ref q9), (0, .ref h0), (1, .int p1), (2, .ref o)]) hx hb dL_latest_12 rfl hl (by decide) rfl (fun ls hl => ?_)
  refine lv_iconst (v := 1) hx hb dL_latest_13 (by decide) ?_
  refine W.widen (k := 1) (n := 6) (Nat.le_of_ble_eq_true rfl) (Nat.le_of_ble_eq_true rfl) ?_
  refine vx_ret ?_
  exact W.iret (v := 1) hx hb hr (fun t ht hW => ⟨⟨1, (), rfl, rfl, trivial⟩, hS.F ht⟩) hS.2.2 dL_latest_14
set_option maxRecDepth 100000 in
set_option maxHeartbeats 4000000 in
theorem c_h_most (l : Launch) (hl9 : l.stackTraces = false) (D : va_G) (a1 a2 sz : Nat) (h0 h1 h2 : Nat) (g gn gb : Nat → Nat) (p1 : Int32) (o : Nat) : vx_Met l yL_most (Cond.codeWith yL_most cL_most 4 (some .int) [(0, 9, 12, 13)] :: WS) ({ frames := 16, cells := 1, slots := 6, locals := 500 }) (va_Pc [.ref h0, .int p1, .ref o] (pre D a1 a2 [(h0, .inr (11, [.ref h1, .ref h2, .ref (g 2), .ref (g 3), .ref (g 4), .ref (g 5), .ref (g 6), .int 0, .int 0, .int 0, .int 0])), (h1, .inr (6, [.ref (gn 0), .int 0, .ref (gn 2), .ref (gn 3), .int 0, .ref (gn 5), .int 0, .int 0])), (h2, .inr (1, [.ref h1, .ref (gb 1), .int 0]))] [] sz)) (va_Qi (S := Unit) (fun r _ => r = 1) (fun _ _ => True) (va_A [(h0, .inr (11, [.ref h1, .ref h2, .ref (g 2), .ref (g 3), .ref (g 4), .ref (g 5), .ref (g 6), .int 0, .int 0, .int 0, .int 0])), (h1, .inr (6, [.ref (gn 0), .int 0, .ref (gn 2), .ref (gn 3), .int 0, .ref (gn 5), .int 0, .int 0])), (h2, .inr (1, [.ref h1, .ref (gb 1), .int 0]))] sz)) (vx_X (fun _ : Unit => False) (fun _ _ _ => True) (va_A [(h0, .inr (11, [.ref h1, .ref h2, .ref (g 2), .ref (g 3), .ref (g 4), .ref (g 5), .ref (g 6), .int 0, .int 0, .int 0, .int 0])), (h1, .inr (6, [.ref (gn 0), .int 0, .ref (gn 2), .ref (gn 3), .int 0, .ref (gn 5), .int 0, .int 0])), (h2, .inr (1, [.ref h1, .ref (gb 1), .int 0]))] sz)) 1 6 (va_A [(h0, .inr (11, [.ref h1, .ref h2, .ref (g 2), .ref (g 3), .ref (g 4), .ref (g 5), .ref (g 6), .int 0, .int 0, .int 0, .int 0])), (h1, .inr (6, [.ref (gn 0), .int 0, .ref (gn 2), .ref (gn 3), .int 0, .ref (gn 5), .int 0, .int 0])), (h2, .inr (1, [.ref h1, .ref (gb 1), .int 0]))] sz) := by
  refine open_H (by decide +kernel) (Nat.le_of_ble_eq_true rfl) (fun A => va_Qi (S := Unit) (fun r _ => r = 1) (fun _ _ => True) A) (fun A => vx_X (fun _ : Unit => False) (fun _ _ _ => True) A) ?_
  intro p e s m below meth c A ls hG
  obtain ⟨⟨hx, hb, hr, hml, hown, hts, hlocks, hin, hP, hK, hD, hA, hE, hS, hl⟩, hno⟩ := hG
  have hown : s.vm.findClass RL = some m.cls := hown
  have hl : lv_has ls 4 [(0, .ref h0), (1, .int p1), (2, .ref o)] := hl
  refine lv_aload_n hx hb dL_most_0 rfl (lv_at hl 2 rfl) ?_
  refine lv_iconst (v := 0) hx hb dL_most_1 (by decide) ?_
  refine lv_aload_n hx hb dL_most_2 rfl (lv_at hl 0 rfl) ?_
  refine lv_iload_n hx hb dL_most_3 rfl (lv_at hl 1 rfl) ?_
  have f_1 := free_of (wc := [(h0, .inr (11, [.ref h1, .ref h2, .ref (g 2), .ref (g 3), .ref (g 4), .ref (g 5), .ref (g 6), .int 0, .int 0, .int 0, .int 0])), (h1, .inr (6, [.ref (gn 0), .int 0, .ref (gn 2), .ref (gn 3), .int 0, .ref (gn 5), .int 0, .int 0])), (h2, .inr (1, [.ref h1, .ref (gb 1), .int 0]))]) hD hS hA [0, 1, 2] rfl
  refine never (vx_runV (As := [.int p1]) (rest := [.int 0, .ref o]) ⟨hx, hb, hml, hown, hts⟩ (c_x_most l hl9 D a1 a2 s.heap.size h0 h1 h2 g gn gb p1) (cwV 1 hts (gV w_187 w_188 w_189 w_8 w_190) rfl rfl rfl (by decide +kernel) ⟨Nat.le_of_ble_eq_true rfl, Nat.le_of_ble_eq_true rfl⟩) (pre_V hK hP hD hS hA hE [0, 1, 2] rfl (by decide) rfl [] rfl (ci := 11) (q0 := 0) rfl rfl) rfl rfl hl.1 rfl (lv_room (Nat.le_of_ble_eq_true rfl)) dL_most_4 ⟨Nat.le_of_ble_eq_true rfl, Nat.le_of_ble_eq_true rfl⟩) (fun _ _ _ h => h) hS f_1 (fun q _ h => f_1 q h) (fun E ce q9 u9 t H locs ht hvm hw hB hz1 hk1 hS hce hcv hcl => ?_)
  subst hB
  refine vx_catch (own := RL) (name := "java/lang/IllegalArgumentException") (E := "java/lang/IllegalArgumentException") hown [] ⟨0, 9, 12, 13⟩ [] (by rw [hno]; rfl) (fun z hz => nomatch hz) (by decide) (by decide) (hts (.classLink RL 13 "java/lang/IllegalArgumentException") w_182) (va_Nw.use rfl hE.1.2.1.2) hce hcv hcl ?_
  refine W.eq (g2 := F0 m 12 ls [.ref q9]) rfl ?_
  refine lv_astore_n (lv' := [(3, .ref q9), (0, .ref h0), (1, .int p1), (2, .ref o)]) hx hb dL_most_12 rfl hl (by decide) rfl (fun ls hl => ?_)
  refine lv_iconst (v := 1) hx hb dL_most_13 (by decide) ?_
  refine W.widen (k := 1) (n := 6) (Nat.le_of_ble_eq_true rfl) (Nat.le_of_ble_eq_true rfl) ?_
  refine vx_ret ?_
  exact W.iret (v := 1) hx hb hr (fun t ht hW => ⟨⟨1, (), rfl, rfl, trivial⟩, hS.F ht⟩) hS.2.2 dL_most_14
set_option maxRecDepth 100000 in
set_option maxHeartbeats 4000000 in
theorem c_h_bars (l : Launch) (hl9 : l.stackTraces = false) (D : va_G) (a1 a2 sz : Nat) (h0 h1 h2 : Nat) (g gn gb : Nat → Nat) (p1 : Int32) (o : Nat) : vx_Met l yL_bars (Cond.codeWith yL_bars cL_bars 4 (some .int) [(0, 9, 12, 19), (0, 9, 15, 13)] :: WS) ({ frames := 16, cells := 1, slots := 6, locals := 500 }) (va_Pc [.ref h0, .int p1, .ref o] (pre D a1 a2 [(h0, .inr (11, [.ref h1, .ref h2, .ref (g 2), .ref (g 3), .ref (g 4), .ref (g 5), .ref (g 6), .int 0, .int 0, .int 0, .int 0])), (h1, .inr (6, [.ref (gn 0), .int 0, .ref (gn 2), .ref (gn 3), .int 0, .ref (gn 5), .int 0, .int 0])), (h2, .inr (1, [.ref h1, .ref (gb 1), .int 0]))] [] sz)) (va_Qi (S := Unit) (fun r _ => r = 1) (fun _ _ => True) (va_A [(h0, .inr (11, [.ref h1, .ref h2, .ref (g 2), .ref (g 3), .ref (g 4), .ref (g 5), .ref (g 6), .int 0, .int 0, .int 0, .int 0])), (h1, .inr (6, [.ref (gn 0), .int 0, .ref (gn 2), .ref (gn 3), .int 0, .ref (gn 5), .int 0, .int 0])), (h2, .inr (1, [.ref h1, .ref (gb 1), .int 0]))] sz)) (vx_X (fun _ : Unit => False) (fun _ _ _ => True) (va_A [(h0, .inr (11, [.ref h1, .ref h2, .ref (g 2), .ref (g 3), .ref (g 4), .ref (g 5), .ref (g 6), .int 0, .int 0, .int 0, .int 0])), (h1, .inr (6, [.ref (gn 0), .int 0, .ref (gn 2), .ref (gn 3), .int 0, .ref (gn 5), .int 0, .int 0])), (h2, .inr (1, [.ref h1, .ref (gb 1), .int 0]))] sz)) 1 6 (va_A [(h0, .inr (11, [.ref h1, .ref h2, .ref (g 2), .ref (g 3), .ref (g 4), .ref (g 5), .ref (g 6), .int 0, .int 0, .int 0, .int 0])), (h1, .inr (6, [.ref (gn 0), .int 0, .ref (gn 2), .ref (gn 3), .int 0, .ref (gn 5), .int 0, .int 0])), (h2, .inr (1, [.ref h1, .ref (gb 1), .int 0]))] sz) := by
  refine open_H (by decide +kernel) (Nat.le_of_ble_eq_true rfl) (fun A => va_Qi (S := Unit) (fun r _ => r = 1) (fun _ _ => True) A) (fun A => vx_X (fun _ : Unit => False) (fun _ _ _ => True) A) ?_
  intro p e s m below meth c A ls hG
  obtain ⟨⟨hx, hb, hr, hml, hown, hts, hlocks, hin, hP, hK, hD, hA, hE, hS, hl⟩, hno⟩ := hG
  have hown : s.vm.findClass RL = some m.cls := hown
  have hl : lv_has ls 4 [(0, .ref h0), (1, .int p1), (2, .ref o)] := hl
  refine lv_aload_n hx hb dL_bars_0 rfl (lv_at hl 2 rfl) ?_
  refine lv_iconst (v := 0) hx hb dL_bars_1 (by decide) ?_
  refine lv_aload_n hx hb dL_bars_2 rfl (lv_at hl 0 rfl) ?_
  refine lv_iload_n hx hb dL_bars_3 rfl (lv_at hl 1 rfl) ?_
  have f_1 := free_of (wc := [(h0, .inr (11, [.ref h1, .ref h2, .ref (g 2), .ref (g 3), .ref (g 4), .ref (g 5), .ref (g 6), .int 0, .int 0, .int 0, .int 0])), (h1, .inr (6, [.ref (gn 0), .int 0, .ref (gn 2), .ref (gn 3), .int 0, .ref (gn 5), .int 0, .int 0])), (h2, .inr (1, [.ref h1, .ref (gb 1), .int 0]))]) hD hS hA [0, 1, 2] rfl
  refine never (vx_runV (As := [.int p1]) (rest := [.int 0, .ref o]) ⟨hx, hb, hml, hown, hts⟩ (c_x_bars l hl9 D a1 a2 s.heap.size h0 h1 h2 g gn gb p1) (cwV 1 hts (gV w_191 w_192 w_193 w_8 w_194) rfl rfl rfl (by decide +kernel) ⟨Nat.le_of_ble_eq_true rfl, Nat.le_of_ble_eq_true rfl⟩) (pre_V hK hP hD hS hA hE [0, 1, 2] rfl (by decide) rfl [] rfl (ci := 11) (q0 := 0) rfl rfl) rfl rfl hl.1 rfl (lv_room (Nat.le_of_ble_eq_true rfl)) dL_bars_4 ⟨Nat.le_of_ble_eq_true rfl, Nat.le_of_ble_eq_true rfl⟩) (fun _ _ _ h => h) hS f_1 (fun q _ h => f_1 q h) (fun E ce q9 u9 t H locs ht hvm hw hB hz1 hk1 hS hce hcv hcl => ?_)
  subst hB
  refine vx_catch (own := RL) (name := "java/util/NoSuchElementException") (E := "java/util/NoSuchElementException") hown [] ⟨0, 9, 12, 19⟩ [⟨0, 9, 15, 13⟩] (by rw [hno]; rfl) (fun z hz => nomatch hz) (by decide) (by decide) (hts (.classLink RL 19 "java/util/NoSuchElementException") w_45) (va_Nw.use rfl hE.1.2.1.1) hce hcv hcl ?_
  refine W.eq (g2 := F0 m 12 ls [.ref q9]) rfl ?_
  refine lv_astore_n (lv' := [(3, .ref q9), (0, .ref h0), (1, .int p1), (2, .ref o)]) hx hb dL_bars_12 rfl hl (by decide) rfl (fun ls hl => ?_)
  refine lv_iconst (v := 1) hx hb dL_bars_13 (by decide) ?_
  refine W.widen (k := 1) (n := 6) (Nat.le_of_ble_eq_true rfl) (Nat.le_of_ble_eq_true rfl) ?_
  refine vx_ret ?_
  exact W.iret (v := 1) hx hb hr (fun t ht hW => ⟨⟨1, (), rfl, rfl, trivial⟩, hS.F ht⟩) hS.2.2 dL_bars_14
set_option maxRecDepth 100000 in
set_option maxHeartbeats 4000000 in
theorem c_h_soonest (l : Launch) (hl9 : l.stackTraces = false) (D : va_G) (a1 a2 sz : Nat) (h0 h1 h2 : Nat) (g gn gb : Nat → Nat) (p1 : Int32) (o : Nat) : vx_Met l yL_soonest (Cond.codeWith yL_soonest cL_soonest 4 (some .int) [(0, 9, 12, 19), (0, 9, 15, 13)] :: WS) ({ frames := 16, cells := 1, slots := 6, locals := 500 }) (va_Pc [.ref h0, .int p1, .ref o] (pre D a1 a2 [(h0, .inr (11, [.ref h1, .ref h2, .ref (g 2), .ref (g 3), .ref (g 4), .ref (g 5), .ref (g 6), .int 0, .int 0, .int 0, .int 0])), (h1, .inr (6, [.ref (gn 0), .int 0, .ref (gn 2), .ref (gn 3), .int 0, .ref (gn 5), .int 0, .int 0])), (h2, .inr (1, [.ref h1, .ref (gb 1), .int 0]))] [] sz)) (va_Qi (S := Unit) (fun r _ => r = 1) (fun _ _ => True) (va_A [(h0, .inr (11, [.ref h1, .ref h2, .ref (g 2), .ref (g 3), .ref (g 4), .ref (g 5), .ref (g 6), .int 0, .int 0, .int 0, .int 0])), (h1, .inr (6, [.ref (gn 0), .int 0, .ref (gn 2), .ref (gn 3), .int 0, .ref (gn 5), .int 0, .int 0])), (h2, .inr (1, [.ref h1, .ref (gb 1), .int 0]))] sz)) (vx_X (fun _ : Unit => False) (fun _ _ _ => True) (va_A [(h0, .inr (11, [.ref h1, .ref h2, .ref (g 2), .ref (g 3), .ref (g 4), .ref (g 5), .ref (g 6), .int 0, .int 0, .int 0, .int 0])), (h1, .inr (6, [.ref (gn 0), .int 0, .ref (gn 2), .ref (gn 3), .int 0, .ref (gn 5), .int 0, .int 0])), (h2, .inr (1, [.ref h1, .ref (gb 1), .int 0]))] sz)) 1 6 (va_A [(h0, .inr (11, [.ref h1, .ref h2, .ref (g 2), .ref (g 3), .ref (g 4), .ref (g 5), .ref (g 6), .int 0, .int 0, .int 0, .int 0])), (h1, .inr (6, [.ref (gn 0), .int 0, .ref (gn 2), .ref (gn 3), .int 0, .ref (gn 5), .int 0, .int 0])), (h2, .inr (1, [.ref h1, .ref (gb 1), .int 0]))] sz) := by
  refine open_H (by decide +kernel) (Nat.le_of_ble_eq_true rfl) (fun A => va_Qi (S := Unit) (fun r _ => r = 1) (fun _ _ => True) A) (fun A => vx_X (fun _ : Unit => False) (fun _ _ _ => True) A) ?_
  intro p e s m below meth c A ls hG
  obtain ⟨⟨hx, hb, hr, hml, hown, hts, hlocks, hin, hP, hK, hD, hA, hE, hS, hl⟩, hno⟩ := hG
  have hown : s.vm.findClass RL = some m.cls := hown
  have hl : lv_has ls 4 [(0, .ref h0), (1, .int p1), (2, .ref o)] := hl
  refine lv_aload_n hx hb dL_soonest_0 rfl (lv_at hl 2 rfl) ?_
  refine lv_iconst (v := 0) hx hb dL_soonest_1 (by decide) ?_
  refine lv_aload_n hx hb dL_soonest_2 rfl (lv_at hl 0 rfl) ?_
  refine lv_iload_n hx hb dL_soonest_3 rfl (lv_at hl 1 rfl) ?_
  have f_1 := free_of (wc := [(h0, .inr (11, [.ref h1, .ref h2, .ref (g 2), .ref (g 3), .ref (g 4), .ref (g 5), .ref (g 6), .int 0, .int 0, .int 0, .int 0])), (h1, .inr (6, [.ref (gn 0), .int 0, .ref (gn 2), .ref (gn 3), .int 0, .ref (gn 5), .int 0, .int 0])), (h2, .inr (1, [.ref h1, .ref (gb 1), .int 0]))]) hD hS hA [0, 1, 2] rfl
  refine never (vx_runV (As := [.int p1]) (rest := [.int 0, .ref o]) ⟨hx, hb, hml, hown, hts⟩ (c_x_soonest l hl9 D a1 a2 s.heap.size h0 h1 h2 g gn gb p1) (cwV 1 hts (gV w_195 w_196 w_197 w_8 w_198) rfl rfl rfl (by decide +kernel) ⟨Nat.le_of_ble_eq_true rfl, Nat.le_of_ble_eq_true rfl⟩) (pre_V hK hP hD hS hA hE [0, 1, 2] rfl (by decide) rfl [] rfl (ci := 11) (q0 := 0) rfl rfl) rfl rfl hl.1 rfl (lv_room (Nat.le_of_ble_eq_true rfl)) dL_soonest_4 ⟨Nat.le_of_ble_eq_true rfl, Nat.le_of_ble_eq_true rfl⟩) (fun _ _ _ h => h) hS f_1 (fun q _ h => f_1 q h) (fun E ce q9 u9 t H locs ht hvm hw hB hz1 hk1 hS hce hcv hcl => ?_)
  subst hB
  refine vx_catch (own := RL) (name := "java/util/NoSuchElementException") (E := "java/util/NoSuchElementException") hown [] ⟨0, 9, 12, 19⟩ [⟨0, 9, 15, 13⟩] (by rw [hno]; rfl) (fun z hz => nomatch hz) (by decide) (by decide) (hts (.classLink RL 19 "java/util/NoSuchElementException") w_45) (va_Nw.use rfl hE.1.2.1.1) hce hcv hcl ?_
  refine W.eq (g2 := F0 m 12 ls [.ref q9]) rfl ?_
  refine lv_astore_n (lv' := [(3, .ref q9), (0, .ref h0), (1, .int p1), (2, .ref o)]) hx hb dL_soonest_12 rfl hl (by decide) rfl (fun ls hl => ?_)
  refine lv_iconst (v := 1) hx hb dL_soonest_13 (by decide) ?_
  refine W.widen (k := 1) (n := 6) (Nat.le_of_ble_eq_true rfl) (Nat.le_of_ble_eq_true rfl) ?_
  refine vx_ret ?_
  exact W.iret (v := 1) hx hb hr (fun t ht hW => ⟨⟨1, (), rfl, rfl, trivial⟩, hS.F ht⟩) hS.2.2 dL_soonest_14
set_option maxRecDepth 100000 in
set_option maxHeartbeats 4000000 in
theorem c_h_fewest (l : Launch) (hl9 : l.stackTraces = false) (D : va_G) (a1 a2 sz : Nat) (h0 h1 h2 : Nat) (g gn gb : Nat → Nat) (p1 : Int32) (o : Nat) : vx_Met l yL_fewest (Cond.codeWith yL_fewest cL_fewest 4 (some .int) [(0, 9, 12, 13)] :: WS) ({ frames := 16, cells := 1, slots := 6, locals := 500 }) (va_Pc [.ref h0, .int p1, .ref o] (pre D a1 a2 [(h0, .inr (11, [.ref h1, .ref h2, .ref (g 2), .ref (g 3), .ref (g 4), .ref (g 5), .ref (g 6), .int 0, .int 0, .int 0, .int 0])), (h1, .inr (6, [.ref (gn 0), .int 0, .ref (gn 2), .ref (gn 3), .int 0, .ref (gn 5), .int 0, .int 0])), (h2, .inr (1, [.ref h1, .ref (gb 1), .int 0]))] [] sz)) (va_Qi (S := Unit) (fun r _ => r = 1) (fun _ _ => True) (va_A [(h0, .inr (11, [.ref h1, .ref h2, .ref (g 2), .ref (g 3), .ref (g 4), .ref (g 5), .ref (g 6), .int 0, .int 0, .int 0, .int 0])), (h1, .inr (6, [.ref (gn 0), .int 0, .ref (gn 2), .ref (gn 3), .int 0, .ref (gn 5), .int 0, .int 0])), (h2, .inr (1, [.ref h1, .ref (gb 1), .int 0]))] sz)) (vx_X (fun _ : Unit => False) (fun _ _ _ => True) (va_A [(h0, .inr (11, [.ref h1, .ref h2, .ref (g 2), .ref (g 3), .ref (g 4), .ref (g 5), .ref (g 6), .int 0, .int 0, .int 0, .int 0])), (h1, .inr (6, [.ref (gn 0), .int 0, .ref (gn 2), .ref (gn 3), .int 0, .ref (gn 5), .int 0, .int 0])), (h2, .inr (1, [.ref h1, .ref (gb 1), .int 0]))] sz)) 1 6 (va_A [(h0, .inr (11, [.ref h1, .ref h2, .ref (g 2), .ref (g 3), .ref (g 4), .ref (g 5), .ref (g 6), .int 0, .int 0, .int 0, .int 0])), (h1, .inr (6, [.ref (gn 0), .int 0, .ref (gn 2), .ref (gn 3), .int 0, .ref (gn 5), .int 0, .int 0])), (h2, .inr (1, [.ref h1, .ref (gb 1), .int 0]))] sz) := by
  refine open_H (by decide +kernel) (Nat.le_of_ble_eq_true rfl) (fun A => va_Qi (S := Unit) (fun r _ => r = 1) (fun _ _ => True) A) (fun A => vx_X (fun _ : Unit => False) (fun _ _ _ => True) A) ?_
  intro p e s m below meth c A ls hG
  obtain ⟨⟨hx, hb, hr, hml, hown, hts, hlocks, hin, hP, hK, hD, hA, hE, hS, hl⟩, hno⟩ := hG
  have hown : s.vm.findClass RL = some m.cls := hown
  have hl : lv_has ls 4 [(0, .ref h0), (1, .int p1), (2, .ref o)] := hl
  refine lv_aload_n hx hb dL_fewest_0 rfl (lv_at hl 2 rfl) ?_
  refine lv_iconst (v := 0) hx hb dL_fewest_1 (by decide) ?_
  refine lv_aload_n hx hb dL_fewest_2 rfl (lv_at hl 0 rfl) ?_
  refine lv_iload_n hx hb dL_fewest_3 rfl (lv_at hl 1 rfl) ?_
  have f_1 := free_of (wc := [(h0, .inr (11, [.ref h1, .ref h2, .ref (g 2), .ref (g 3), .ref (g 4), .ref (g 5), .ref (g 6), .int 0, .int 0, .int 0, .int 0])), (h1, .inr (6, [.ref (gn 0), .int 0, .ref (gn 2), .ref (gn 3), .int 0, .ref (gn 5), .int 0, .int 0])), (h2, .inr (1, [.ref h1, .ref (gb 1), .int 0]))]) hD hS hA [0, 1, 2] rfl
  refine never (vx_runV (As := [.int p1]) (rest := [.int 0, .ref o]) ⟨hx, hb, hml, hown, hts⟩ (c_x_fewest l hl9 D a1 a2 s.heap.size h0 h1 h2 g gn gb p1) (cwV 1 hts (gV w_199 w_200 w_201 w_8 w_202) rfl rfl rfl (by decide +kernel) ⟨Nat.le_of_ble_eq_true rfl, Nat.le_of_ble_eq_true rfl⟩) (pre_V hK hP hD hS hA hE [0, 1, 2] rfl (by decide) rfl [] rfl (ci := 11) (q0 := 0) rfl rfl) rfl rfl hl.1 rfl (lv_room (Nat.le_of_ble_eq_true rfl)) dL_fewest_4 ⟨Nat.le_of_ble_eq_true rfl, Nat.le_of_ble_eq_true rfl⟩) (fun _ _ _ h => h) hS f_1 (fun q _ h => f_1 q h) (fun E ce q9 u9 t H locs ht hvm hw hB hz1 hk1 hS hce hcv hcl => ?_)
  subst hB
  refine vx_catch (own := RL) (name := "java/lang/IllegalArgumentException") (E := "java/lang/IllegalArgumentException") hown [] ⟨0, 9, 12, 13⟩ [] (by rw [hno]; rfl) (fun z hz => nomatch hz) (by decide) (by decide) (hts (.classLink RL 13 "java/lang/IllegalArgumentException") w_182) (va_Nw.use rfl hE.1.2.1.2) hce hcv hcl ?_
  refine W.eq (g2 := F0 m 12 ls [.ref q9]) rfl ?_
  refine lv_astore_n (lv' := [(3, .ref q9), (0, .ref h0), (1, .int p1), (2, .ref o)]) hx hb dL_fewest_12 rfl hl (by decide) rfl (fun ls hl => ?_)
  refine lv_iconst (v := 1) hx hb dL_fewest_13 (by decide) ?_
  refine W.widen (k := 1) (n := 6) (Nat.le_of_ble_eq_true rfl) (Nat.le_of_ble_eq_true rfl) ?_
  refine vx_ret ?_
  exact W.iret (v := 1) hx hb hr (fun t ht hW => ⟨⟨1, (), rfl, rfl, trivial⟩, hS.F ht⟩) hS.2.2 dL_fewest_14
set_option maxRecDepth 100000 in
set_option maxHeartbeats 4000000 in
theorem c_h_delay (l : Launch) (hl9 : l.stackTraces = false) (D : va_G) (a1 a2 sz : Nat) (h0 h1 h2 : Nat) (g gn gb : Nat → Nat) (p1 : Int32) (o : Nat) : vx_Met l yL_delay (Cond.codeWith yL_delay cL_delay 4 (some .int) [(0, 9, 12, 19), (0, 9, 15, 13)] :: WS) ({ frames := 16, cells := 1, slots := 6, locals := 500 }) (va_Pc [.ref h0, .int p1, .ref o] (pre D a1 a2 [(h0, .inr (11, [.ref h1, .ref h2, .ref (g 2), .ref (g 3), .ref (g 4), .ref (g 5), .ref (g 6), .int 0, .int 0, .int 0, .int 0])), (h1, .inr (6, [.ref (gn 0), .int 0, .ref (gn 2), .ref (gn 3), .int 0, .ref (gn 5), .int 0, .int 0])), (h2, .inr (1, [.ref h1, .ref (gb 1), .int 0]))] [] sz)) (va_Qi (S := Unit) (fun r _ => r = 1) (fun _ _ => True) (va_A [(h0, .inr (11, [.ref h1, .ref h2, .ref (g 2), .ref (g 3), .ref (g 4), .ref (g 5), .ref (g 6), .int 0, .int 0, .int 0, .int 0])), (h1, .inr (6, [.ref (gn 0), .int 0, .ref (gn 2), .ref (gn 3), .int 0, .ref (gn 5), .int 0, .int 0])), (h2, .inr (1, [.ref h1, .ref (gb 1), .int 0]))] sz)) (vx_X (fun _ : Unit => False) (fun _ _ _ => True) (va_A [(h0, .inr (11, [.ref h1, .ref h2, .ref (g 2), .ref (g 3), .ref (g 4), .ref (g 5), .ref (g 6), .int 0, .int 0, .int 0, .int 0])), (h1, .inr (6, [.ref (gn 0), .int 0, .ref (gn 2), .ref (gn 3), .int 0, .ref (gn 5), .int 0, .int 0])), (h2, .inr (1, [.ref h1, .ref (gb 1), .int 0]))] sz)) 1 6 (va_A [(h0, .inr (11, [.ref h1, .ref h2, .ref (g 2), .ref (g 3), .ref (g 4), .ref (g 5), .ref (g 6), .int 0, .int 0, .int 0, .int 0])), (h1, .inr (6, [.ref (gn 0), .int 0, .ref (gn 2), .ref (gn 3), .int 0, .ref (gn 5), .int 0, .int 0])), (h2, .inr (1, [.ref h1, .ref (gb 1), .int 0]))] sz) := by
  refine open_H (by decide +kernel) (Nat.le_of_ble_eq_true rfl) (fun A => va_Qi (S := Unit) (fun r _ => r = 1) (fun _ _ => True) A) (fun A => vx_X (fun _ : Unit => False) (fun _ _ _ => True) A) ?_
  intro p e s m below meth c A ls hG
  obtain ⟨⟨hx, hb, hr, hml, hown, hts, hlocks, hin, hP, hK, hD, hA, hE, hS, hl⟩, hno⟩ := hG
  have hown : s.vm.findClass RL = some m.cls := hown
  have hl : lv_has ls 4 [(0, .ref h0), (1, .int p1), (2, .ref o)] := hl
  refine lv_aload_n hx hb dL_delay_0 rfl (lv_at hl 2 rfl) ?_
  refine lv_iconst (v := 0) hx hb dL_delay_1 (by decide) ?_
  refine lv_aload_n hx hb dL_delay_2 rfl (lv_at hl 0 rfl) ?_
  refine lv_iload_n hx hb dL_delay_3 rfl (lv_at hl 1 rfl) ?_
  have f_1 := free_of (wc := [(h0, .inr (11, [.ref h1, .ref h2, .ref (g 2), .ref (g 3), .ref (g 4), .ref (g 5), .ref (g 6), .int 0, .int 0, .int 0, .int 0])), (h1, .inr (6, [.ref (gn 0), .int 0, .ref (gn 2), .ref (gn 3), .int 0, .ref (gn 5), .int 0, .int 0])), (h2, .inr (1, [.ref h1, .ref (gb 1), .int 0]))]) hD hS hA [0, 1, 2] rfl
  refine never (vx_runV (As := [.int p1]) (rest := [.int 0, .ref o]) ⟨hx, hb, hml, hown, hts⟩ (c_x_delay l hl9 D a1 a2 s.heap.size h0 h1 h2 g gn gb p1) (cwV 1 hts (gV w_203 w_204 w_205 w_8 w_206) rfl rfl rfl (by decide +kernel) ⟨Nat.le_of_ble_eq_true rfl, Nat.le_of_ble_eq_true rfl⟩) (pre_V hK hP hD hS hA hE [0, 1, 2] rfl (by decide) rfl [] rfl (ci := 11) (q0 := 0) rfl rfl) rfl rfl hl.1 rfl (lv_room (Nat.le_of_ble_eq_true rfl)) dL_delay_4 ⟨Nat.le_of_ble_eq_true rfl, Nat.le_of_ble_eq_true rfl⟩) (fun _ _ _ h => h) hS f_1 (fun q _ h => f_1 q h) (fun E ce q9 u9 t H locs ht hvm hw hB hz1 hk1 hS hce hcv hcl => ?_)
  subst hB
  refine vx_catch (own := RL) (name := "java/util/NoSuchElementException") (E := "java/util/NoSuchElementException") hown [] ⟨0, 9, 12, 19⟩ [⟨0, 9, 15, 13⟩] (by rw [hno]; rfl) (fun z hz => nomatch hz) (by decide) (by decide) (hts (.classLink RL 19 "java/util/NoSuchElementException") w_45) (va_Nw.use rfl hE.1.2.1.1) hce hcv hcl ?_
  refine W.eq (g2 := F0 m 12 ls [.ref q9]) rfl ?_
  refine lv_astore_n (lv' := [(3, .ref q9), (0, .ref h0), (1, .int p1), (2, .ref o)]) hx hb dL_delay_12 rfl hl (by decide) rfl (fun ls hl => ?_)
  refine lv_iconst (v := 1) hx hb dL_delay_13 (by decide) ?_
  refine W.widen (k := 1) (n := 6) (Nat.le_of_ble_eq_true rfl) (Nat.le_of_ble_eq_true rfl) ?_
  refine vx_ret ?_
  exact W.iret (v := 1) hx hb hr (fun t ht hW => ⟨⟨1, (), rfl, rfl, trivial⟩, hS.F ht⟩) hS.2.2 dL_delay_14
set_option maxRecDepth 100000 in
set_option maxHeartbeats 4000000 in
theorem c_h_bankOf (l : Launch) (hl9 : l.stackTraces = false) (D : va_G) (a1 a2 sz : Nat) (h0 h1 h2 : Nat) (g gn gb : Nat → Nat) (p1 p2 : Int32) (o : Nat) : vx_Met l yL_bankOf (Cond.codeWith yL_bankOf cL_bankOf 5 (some .int) [(0, 9, 12, 19), (0, 9, 16, 13)] :: WS) ({ frames := 16, cells := 1, slots := 6, locals := 500 }) (va_Pc [.ref h0, .int p1, .int p2, .ref o] (pre D a1 a2 [(h0, .inr (11, [.ref h1, .ref h2, .ref (g 2), .ref (g 3), .ref (g 4), .ref (g 5), .ref (g 6), .int 0, .int 0, .int 0, .int 0])), (h1, .inr (6, [.ref (gn 0), .int 0, .ref (gn 2), .ref (gn 3), .int 0, .ref (gn 5), .int 0, .int 0])), (h2, .inr (1, [.ref h1, .ref (gb 1), .int 0]))] [] sz)) (va_Qi (S := Unit) (fun r _ => r = 1) (fun _ _ => True) (va_A [(h0, .inr (11, [.ref h1, .ref h2, .ref (g 2), .ref (g 3), .ref (g 4), .ref (g 5), .ref (g 6), .int 0, .int 0, .int 0, .int 0])), (h1, .inr (6, [.ref (gn 0), .int 0, .ref (gn 2), .ref (gn 3), .int 0, .ref (gn 5), .int 0, .int 0])), (h2, .inr (1, [.ref h1, .ref (gb 1), .int 0]))] sz)) (vx_X (fun _ : Unit => False) (fun _ _ _ => True) (va_A [(h0, .inr (11, [.ref h1, .ref h2, .ref (g 2), .ref (g 3), .ref (g 4), .ref (g 5), .ref (g 6), .int 0, .int 0, .int 0, .int 0])), (h1, .inr (6, [.ref (gn 0), .int 0, .ref (gn 2), .ref (gn 3), .int 0, .ref (gn 5), .int 0, .int 0])), (h2, .inr (1, [.ref h1, .ref (gb 1), .int 0]))] sz)) 1 6 (va_A [(h0, .inr (11, [.ref h1, .ref h2, .ref (g 2), .ref (g 3), .ref (g 4), .ref (g 5), .ref (g 6), .int 0, .int 0, .int 0, .int 0])), (h1, .inr (6, [.ref (gn 0), .int 0, .ref (gn 2), .ref (gn 3), .int 0, .ref (gn 5), .int 0, .int 0])), (h2, .inr (1, [.ref h1, .ref (gb 1), .int 0]))] sz) := by
  refine open_H (by decide +kernel) (Nat.le_of_ble_eq_true rfl) (fun A => va_Qi (S := Unit) (fun r _ => r = 1) (fun _ _ => True) A) (fun A => vx_X (fun _ : Unit => False) (fun _ _ _ => True) A) ?_
  intro p e s m below meth c A ls hG
  obtain ⟨⟨hx, hb, hr, hml, hown, hts, hlocks, hin, hP, hK, hD, hA, hE, hS, hl⟩, hno⟩ := hG
  have hown : s.vm.findClass RL = some m.cls := hown
  have hl : lv_has ls 5 [(0, .ref h0), (1, .int p1), (2, .int p2), (3, .ref o)] := hl
  refine lv_aload_n hx hb dL_bankOf_0 rfl (lv_at hl 3 rfl) ?_
  refine lv_iconst (v := 0) hx hb dL_bankOf_1 (by decide) ?_
  refine lv_aload_n hx hb dL_bankOf_2 rfl (lv_at hl 0 rfl) ?_
  refine lv_iload_n hx hb dL_bankOf_3 rfl (lv_at hl 1 rfl) ?_
  refine lv_iload_n hx hb dL_bankOf_4 rfl (lv_at hl 2 rfl) ?_
  have f_1 := free_of (wc := [(h0, .inr (11, [.ref h1, .ref h2, .ref (g 2), .ref (g 3), .ref (g 4), .ref (g 5), .ref (g 6), .int 0, .int 0, .int 0, .int 0])), (h1, .inr (6, [.ref (gn 0), .int 0, .ref (gn 2), .ref (gn 3), .int 0, .ref (gn 5), .int 0, .int 0])), (h2, .inr (1, [.ref h1, .ref (gb 1), .int 0]))]) hD hS hA [0, 1, 2] rfl
  refine never (vx_runV (As := [.int p1, .int p2]) (rest := [.int 0, .ref o]) ⟨hx, hb, hml, hown, hts⟩ (c_x_bankOf l hl9 D a1 a2 s.heap.size h0 h1 h2 g gn gb p1 p2) (cwV 2 hts (gV w_207 w_208 w_209 w_8 w_210) rfl rfl rfl (by decide +kernel) ⟨Nat.le_of_ble_eq_true rfl, Nat.le_of_ble_eq_true rfl⟩) (pre_V hK hP hD hS hA hE [0, 1, 2] rfl (by decide) rfl [] rfl (ci := 11) (q0 := 0) rfl rfl) rfl rfl hl.1 rfl (lv_room (Nat.le_of_ble_eq_true rfl)) dL_bankOf_5 ⟨Nat.le_of_ble_eq_true rfl, Nat.le_of_ble_eq_true rfl⟩) (fun _ _ _ h => h) hS f_1 (fun q _ h => f_1 q h) (fun E ce q9 u9 t H locs ht hvm hw hB hz1 hk1 hS hce hcv hcl => ?_)
  subst hB
  refine vx_catch (own := RL) (name := "java/util/NoSuchElementException") (E := "java/util/NoSuchElementException") hown [] ⟨0, 9, 12, 19⟩ [⟨0, 9, 16, 13⟩] (by rw [hno]; rfl) (fun z hz => nomatch hz) (by decide) (by decide) (hts (.classLink RL 19 "java/util/NoSuchElementException") w_45) (va_Nw.use rfl hE.1.2.1.1) hce hcv hcl ?_
  refine W.eq (g2 := F0 m 12 ls [.ref q9]) rfl ?_
  refine lv_astore (lv' := [(4, .ref q9), (0, .ref h0), (1, .int p1), (2, .int p2), (3, .ref o)]) hx hb dL_bankOf_12 hl (by decide) rfl (fun ls hl => ?_)
  refine lv_iconst (v := 1) hx hb dL_bankOf_14 (by decide) ?_
  refine W.widen (k := 1) (n := 6) (Nat.le_of_ble_eq_true rfl) (Nat.le_of_ble_eq_true rfl) ?_
  refine vx_ret ?_
  exact W.iret (v := 1) hx hb hr (fun t ht hW => ⟨⟨1, (), rfl, rfl, trivial⟩, hS.F ht⟩) hS.2.2 dL_bankOf_15
set_option maxRecDepth 100000 in
set_option maxHeartbeats 4000000 in
theorem c_h_shared (l : Launch) (hl9 : l.stackTraces = false) (D : va_G) (a1 a2 sz : Nat) (h0 h1 h2 : Nat) (g gn gb : Nat → Nat) (p1 p2 : Int32) (o : Nat) : vx_Met l yL_shared (Cond.codeWith yL_shared cL_shared 5 (some .int) [(0, 9, 12, 19)] :: WS) ({ frames := 16, cells := 1, slots := 6, locals := 500 }) (va_Pc [.ref h0, .int p1, .int p2, .ref o] (pre D a1 a2 [(h0, .inr (11, [.ref h1, .ref h2, .ref (g 2), .ref (g 3), .ref (g 4), .ref (g 5), .ref (g 6), .int 0, .int 0, .int 0, .int 0])), (h1, .inr (6, [.ref (gn 0), .int 0, .ref (gn 2), .ref (gn 3), .int 0, .ref (gn 5), .int 0, .int 0])), (h2, .inr (1, [.ref h1, .ref (gb 1), .int 0]))] [] sz)) (va_Qi (S := Unit) (fun r _ => r = 1) (fun _ _ => True) (va_A [(h0, .inr (11, [.ref h1, .ref h2, .ref (g 2), .ref (g 3), .ref (g 4), .ref (g 5), .ref (g 6), .int 0, .int 0, .int 0, .int 0])), (h1, .inr (6, [.ref (gn 0), .int 0, .ref (gn 2), .ref (gn 3), .int 0, .ref (gn 5), .int 0, .int 0])), (h2, .inr (1, [.ref h1, .ref (gb 1), .int 0]))] sz)) (vx_X (fun _ : Unit => False) (fun _ _ _ => True) (va_A [(h0, .inr (11, [.ref h1, .ref h2, .ref (g 2), .ref (g 3), .ref (g 4), .ref (g 5), .ref (g 6), .int 0, .int 0, .int 0, .int 0])), (h1, .inr (6, [.ref (gn 0), .int 0, .ref (gn 2), .ref (gn 3), .int 0, .ref (gn 5), .int 0, .int 0])), (h2, .inr (1, [.ref h1, .ref (gb 1), .int 0]))] sz)) 1 6 (va_A [(h0, .inr (11, [.ref h1, .ref h2, .ref (g 2), .ref (g 3), .ref (g 4), .ref (g 5), .ref (g 6), .int 0, .int 0, .int 0, .int 0])), (h1, .inr (6, [.ref (gn 0), .int 0, .ref (gn 2), .ref (gn 3), .int 0, .ref (gn 5), .int 0, .int 0])), (h2, .inr (1, [.ref h1, .ref (gb 1), .int 0]))] sz) := by
  refine open_H (by decide +kernel) (Nat.le_of_ble_eq_true rfl) (fun A => va_Qi (S := Unit) (fun r _ => r = 1) (fun _ _ => True) A) (fun A => vx_X (fun _ : Unit => False) (fun _ _ _ => True) A) ?_
  intro p e s m below meth c A ls hG
  obtain ⟨⟨hx, hb, hr, hml, hown, hts, hlocks, hin, hP, hK, hD, hA, hE, hS, hl⟩, hno⟩ := hG
  have hown : s.vm.findClass RL = some m.cls := hown
  have hl : lv_has ls 5 [(0, .ref h0), (1, .int p1), (2, .int p2), (3, .ref o)] := hl
  refine lv_aload_n hx hb dL_shared_0 rfl (lv_at hl 3 rfl) ?_
  refine lv_iconst (v := 0) hx hb dL_shared_1 (by decide) ?_
  refine lv_aload_n hx hb dL_shared_2 rfl (lv_at hl 0 rfl) ?_
  refine lv_iload_n hx hb dL_shared_3 rfl (lv_at hl 1 rfl) ?_
  refine lv_iload_n hx hb dL_shared_4 rfl (lv_at hl 2 rfl) ?_
  have f_1 := free_of (wc := [(h0, .inr (11, [.ref h1, .ref h2, .ref (g 2), .ref (g 3), .ref (g 4), .ref (g 5), .ref (g 6), .int 0, .int 0, .int 0, .int 0])), (h1, .inr (6, [.ref (gn 0), .int 0, .ref (gn 2), .ref (gn 3), .int 0, .ref (gn 5), .int 0, .int 0])), (h2, .inr (1, [.ref h1, .ref (gb 1), .int 0]))]) hD hS hA [0, 1, 2] rfl
  refine never (vx_runV (As := [.int p1, .int p2]) (rest := [.int 0, .ref o]) ⟨hx, hb, hml, hown, hts⟩ (c_x_shared l hl9 D a1 a2 s.heap.size h0 h1 h2 g gn gb p1 p2) (cwV 2 hts (gV w_211 w_212 w_213 w_8 w_214) rfl rfl rfl (by decide +kernel) ⟨Nat.le_of_ble_eq_true rfl, Nat.le_of_ble_eq_true rfl⟩) (pre_V hK hP hD hS hA hE [0, 1, 2] rfl (by decide) rfl [] rfl (ci := 11) (q0 := 0) rfl rfl) rfl rfl hl.1 rfl (lv_room (Nat.le_of_ble_eq_true rfl)) dL_shared_5 ⟨Nat.le_of_ble_eq_true rfl, Nat.le_of_ble_eq_true rfl⟩) (fun _ _ _ h => h) hS f_1 (fun q _ h => f_1 q h) (fun E ce q9 u9 t H locs ht hvm hw hB hz1 hk1 hS hce hcv hcl => ?_)
  subst hB
  refine vx_catch (own := RL) (name := "java/util/NoSuchElementException") (E := "java/util/NoSuchElementException") hown [] ⟨0, 9, 12, 19⟩ [] (by rw [hno]; rfl) (fun z hz => nomatch hz) (by decide) (by decide) (hts (.classLink RL 19 "java/util/NoSuchElementException") w_45) (va_Nw.use rfl hE.1.2.1.1) hce hcv hcl ?_
  refine W.eq (g2 := F0 m 12 ls [.ref q9]) rfl ?_
  refine lv_astore (lv' := [(4, .ref q9), (0, .ref h0), (1, .int p1), (2, .int p2), (3, .ref o)]) hx hb dL_shared_12 hl (by decide) rfl (fun ls hl => ?_)
  refine lv_iconst (v := 1) hx hb dL_shared_14 (by decide) ?_
  refine W.widen (k := 1) (n := 6) (Nat.le_of_ble_eq_true rfl) (Nat.le_of_ble_eq_true rfl) ?_
  refine vx_ret ?_
  exact W.iret (v := 1) hx hb hr (fun t ht hW => ⟨⟨1, (), rfl, rfl, trivial⟩, hS.F ht⟩) hS.2.2 dL_shared_15
set_option maxRecDepth 100000 in
set_option maxHeartbeats 4000000 in
theorem c_h_tiedUp (l : Launch) (hl9 : l.stackTraces = false) (D : va_G) (a1 a2 sz : Nat) (h0 h1 h2 : Nat) (g gn gb : Nat → Nat) (p1 : Int32) (o : Nat) : vx_Met l yL_tiedUp (Cond.codeWith yL_tiedUp cL_tiedUp 4 (some .int) [(0, 8, 11, 19)] :: WS) ({ frames := 16, cells := 1, slots := 6, locals := 500 }) (va_Pc [.ref h0, .int p1, .ref o] (pre D a1 a2 [(h0, .inr (11, [.ref h1, .ref h2, .ref (g 2), .ref (g 3), .ref (g 4), .ref (g 5), .ref (g 6), .int 0, .int 0, .int 0, .int 0])), (h1, .inr (6, [.ref (gn 0), .int 0, .ref (gn 2), .ref (gn 3), .int 0, .ref (gn 5), .int 0, .int 0])), (h2, .inr (1, [.ref h1, .ref (gb 1), .int 0]))] [] sz)) (va_Qi (S := Unit) (fun r _ => r = 1) (fun _ _ => True) (va_A [(h0, .inr (11, [.ref h1, .ref h2, .ref (g 2), .ref (g 3), .ref (g 4), .ref (g 5), .ref (g 6), .int 0, .int 0, .int 0, .int 0])), (h1, .inr (6, [.ref (gn 0), .int 0, .ref (gn 2), .ref (gn 3), .int 0, .ref (gn 5), .int 0, .int 0])), (h2, .inr (1, [.ref h1, .ref (gb 1), .int 0]))] sz)) (vx_X (fun _ : Unit => False) (fun _ _ _ => True) (va_A [(h0, .inr (11, [.ref h1, .ref h2, .ref (g 2), .ref (g 3), .ref (g 4), .ref (g 5), .ref (g 6), .int 0, .int 0, .int 0, .int 0])), (h1, .inr (6, [.ref (gn 0), .int 0, .ref (gn 2), .ref (gn 3), .int 0, .ref (gn 5), .int 0, .int 0])), (h2, .inr (1, [.ref h1, .ref (gb 1), .int 0]))] sz)) 1 6 (va_A [(h0, .inr (11, [.ref h1, .ref h2, .ref (g 2), .ref (g 3), .ref (g 4), .ref (g 5), .ref (g 6), .int 0, .int 0, .int 0, .int 0])), (h1, .inr (6, [.ref (gn 0), .int 0, .ref (gn 2), .ref (gn 3), .int 0, .ref (gn 5), .int 0, .int 0])), (h2, .inr (1, [.ref h1, .ref (gb 1), .int 0]))] sz) := by
  refine open_H (by decide +kernel) (Nat.le_of_ble_eq_true rfl) (fun A => va_Qi (S := Unit) (fun r _ => r = 1) (fun _ _ => True) A) (fun A => vx_X (fun _ : Unit => False) (fun _ _ _ => True) A) ?_
  intro p e s m below meth c A ls hG
  obtain ⟨⟨hx, hb, hr, hml, hown, hts, hlocks, hin, hP, hK, hD, hA, hE, hS, hl⟩, hno⟩ := hG
  have hown : s.vm.findClass RL = some m.cls := hown
  have hl : lv_has ls 4 [(0, .ref h0), (1, .int p1), (2, .ref o)] := hl
  refine lv_aload_n hx hb dL_tiedUp_0 rfl (lv_at hl 2 rfl) ?_
  refine lv_iconst (v := 0) hx hb dL_tiedUp_1 (by decide) ?_
  refine lv_aload_n hx hb dL_tiedUp_2 rfl (lv_at hl 0 rfl) ?_
  refine lv_iload_n hx hb dL_tiedUp_3 rfl (lv_at hl 1 rfl) ?_
  have f_1 := free_of (wc := [(h0, .inr (11, [.ref h1, .ref h2, .ref (g 2), .ref (g 3), .ref (g 4), .ref (g 5), .ref (g 6), .int 0, .int 0, .int 0, .int 0])), (h1, .inr (6, [.ref (gn 0), .int 0, .ref (gn 2), .ref (gn 3), .int 0, .ref (gn 5), .int 0, .int 0])), (h2, .inr (1, [.ref h1, .ref (gb 1), .int 0]))]) hD hS hA [0, 1, 2] rfl
  refine never (vx_runV (As := [.int p1]) (rest := [.int 0, .ref o]) ⟨hx, hb, hml, hown, hts⟩ (c_x_tiedUp l hl9 D a1 a2 s.heap.size h0 h1 h2 g gn gb p1) (cwV 1 hts (gV w_215 w_216 w_217 w_8 w_218) rfl rfl rfl (by decide +kernel) ⟨Nat.le_of_ble_eq_true rfl, Nat.le_of_ble_eq_true rfl⟩) (pre_V hK hP hD hS hA hE [0, 1, 2] rfl (by decide) rfl [] rfl (ci := 11) (q0 := 0) rfl rfl) rfl rfl hl.1 rfl (lv_room (Nat.le_of_ble_eq_true rfl)) dL_tiedUp_4 ⟨Nat.le_of_ble_eq_true rfl, Nat.le_of_ble_eq_true rfl⟩) (fun _ _ _ h => h) hS f_1 (fun q _ h => f_1 q h) (fun E ce q9 u9 t H locs ht hvm hw hB hz1 hk1 hS hce hcv hcl => ?_)
  subst hB
  refine vx_catch (own := RL) (name := "java/util/NoSuchElementException") (E := "java/util/NoSuchElementException") hown [] ⟨0, 8, 11, 19⟩ [] (by rw [hno]; rfl) (fun z hz => nomatch hz) (by decide) (by decide) (hts (.classLink RL 19 "java/util/NoSuchElementException") w_45) (va_Nw.use rfl hE.1.2.1.1) hce hcv hcl ?_
  refine W.eq (g2 := F0 m 11 ls [.ref q9]) rfl ?_
  refine lv_astore_n (lv' := [(3, .ref q9), (0, .ref h0), (1, .int p1), (2, .ref o)]) hx hb dL_tiedUp_11 rfl hl (by decide) rfl (fun ls hl => ?_)
  refine lv_iconst (v := 1) hx hb dL_tiedUp_12 (by decide) ?_
  refine W.widen (k := 1) (n := 6) (Nat.le_of_ble_eq_true rfl) (Nat.le_of_ble_eq_true rfl) ?_
  refine vx_ret ?_
  exact W.iret (v := 1) hx hb hr (fun t ht hW => ⟨⟨1, (), rfl, rfl, trivial⟩, hS.F ht⟩) hS.2.2 dL_tiedUp_13
set_option maxRecDepth 100000 in
set_option maxHeartbeats 4000000 in
theorem c_h_days (l : Launch) (hl9 : l.stackTraces = false) (D : va_G) (a1 a2 sz : Nat) (h0 h1 h2 : Nat) (g gn gb : Nat → Nat) (p1 p2 p3 : Int32) (o : Nat) : vx_Met l yL_days (Cond.codeWith yL_days cL_days 6 (some .int) [(0, 12, 15, 19), (0, 12, 19, 13)] :: WS) ({ frames := 16, cells := 1, slots := 6, locals := 500 }) (va_Pc [.ref h0, .int p1, .int p2, .int p3, .ref o] (pre D a1 a2 [(h0, .inr (11, [.ref h1, .ref h2, .ref (g 2), .ref (g 3), .ref (g 4), .ref (g 5), .ref (g 6), .int 0, .int 0, .int 0, .int 0])), (h1, .inr (6, [.ref (gn 0), .int 0, .ref (gn 2), .ref (gn 3), .int 0, .ref (gn 5), .int 0, .int 0])), (h2, .inr (1, [.ref h1, .ref (gb 1), .int 0]))] [] sz)) (va_Qi (S := Unit) (fun r _ => r = 1) (fun _ _ => True) (va_A [(h0, .inr (11, [.ref h1, .ref h2, .ref (g 2), .ref (g 3), .ref (g 4), .ref (g 5), .ref (g 6), .int 0, .int 0, .int 0, .int 0])), (h1, .inr (6, [.ref (gn 0), .int 0, .ref (gn 2), .ref (gn 3), .int 0, .ref (gn 5), .int 0, .int 0])), (h2, .inr (1, [.ref h1, .ref (gb 1), .int 0]))] sz)) (vx_X (fun _ : Unit => False) (fun _ _ _ => True) (va_A [(h0, .inr (11, [.ref h1, .ref h2, .ref (g 2), .ref (g 3), .ref (g 4), .ref (g 5), .ref (g 6), .int 0, .int 0, .int 0, .int 0])), (h1, .inr (6, [.ref (gn 0), .int 0, .ref (gn 2), .ref (gn 3), .int 0, .ref (gn 5), .int 0, .int 0])), (h2, .inr (1, [.ref h1, .ref (gb 1), .int 0]))] sz)) 1 6 (va_A [(h0, .inr (11, [.ref h1, .ref h2, .ref (g 2), .ref (g 3), .ref (g 4), .ref (g 5), .ref (g 6), .int 0, .int 0, .int 0, .int 0])), (h1, .inr (6, [.ref (gn 0), .int 0, .ref (gn 2), .ref (gn 3), .int 0, .ref (gn 5), .int 0, .int 0])), (h2, .inr (1, [.ref h1, .ref (gb 1), .int 0]))] sz) := by
  refine open_H (by decide +kernel) (Nat.le_of_ble_eq_true rfl) (fun A => va_Qi (S := Unit) (fun r _ => r = 1) (fun _ _ => True) A) (fun A => vx_X (fun _ : Unit => False) (fun _ _ _ => True) A) ?_
  intro p e s m below meth c A ls hG
  obtain ⟨⟨hx, hb, hr, hml, hown, hts, hlocks, hin, hP, hK, hD, hA, hE, hS, hl⟩, hno⟩ := hG
  have hown : s.vm.findClass RL = some m.cls := hown
  have hl : lv_has ls 6 [(0, .ref h0), (1, .int p1), (2, .int p2), (3, .int p3), (4, .ref o)] := hl
  refine lv_aload hx hb dL_days_0 (lv_at hl 4 rfl) ?_
  refine lv_iconst (v := 0) hx hb dL_days_2 (by decide) ?_
  refine lv_aload_n hx hb dL_days_3 rfl (lv_at hl 0 rfl) ?_
  refine lv_iload_n hx hb dL_days_4 rfl (lv_at hl 1 rfl) ?_
  refine lv_iload_n hx hb dL_days_5 rfl (lv_at hl 2 rfl) ?_
  refine lv_iload_n hx hb dL_days_6 rfl (lv_at hl 3 rfl) ?_
  have f_1 := free_of (wc := [(h0, .inr (11, [.ref h1, .ref h2, .ref (g 2), .ref (g 3), .ref (g 4), .ref (g 5), .ref (g 6), .int 0, .int 0, .int 0, .int 0])), (h1, .inr (6, [.ref (gn 0), .int 0, .ref (gn 2), .ref (gn 3), .int 0, .ref (gn 5), .int 0, .int 0])), (h2, .inr (1, [.ref h1, .ref (gb 1), .int 0]))]) hD hS hA [0, 1, 2] rfl
  refine never (vx_runV (As := [.int p1, .int p2, .int p3]) (rest := [.int 0, .ref o]) ⟨hx, hb, hml, hown, hts⟩ (c_x_days l hl9 D a1 a2 s.heap.size h0 h1 h2 g gn gb p1 p2 p3) (cwV 3 hts (gV w_219 w_220 w_221 w_8 w_222) rfl rfl rfl (by decide +kernel) ⟨Nat.le_of_ble_eq_true rfl, Nat.le_of_ble_eq_true rfl⟩) (pre_V hK hP hD hS hA hE [0, 1, 2] rfl (by decide) rfl [] rfl (ci := 11) (q0 := 0) rfl rfl) rfl rfl hl.1 rfl (lv_room (Nat.le_of_ble_eq_true rfl)) dL_days_7 ⟨Nat.le_of_ble_eq_true rfl, Nat.le_of_ble_eq_true rfl⟩) (fun _ _ _ h => h) hS f_1 (fun q _ h => f_1 q h) (fun E ce q9 u9 t H locs ht hvm hw hB hz1 hk1 hS hce hcv hcl => ?_)
  subst hB
  refine vx_catch (own := RL) (name := "java/util/NoSuchElementException") (E := "java/util/NoSuchElementException") hown [] ⟨0, 12, 15, 19⟩ [⟨0, 12, 19, 13⟩] (by rw [hno]; rfl) (fun z hz => nomatch hz) (by decide) (by decide) (hts (.classLink RL 19 "java/util/NoSuchElementException") w_45) (va_Nw.use rfl hE.1.2.1.1) hce hcv hcl ?_
  refine W.eq (g2 := F0 m 15 ls [.ref q9]) rfl ?_
  refine lv_astore (lv' := [(5, .ref q9), (0, .ref h0), (1, .int p1), (2, .int p2), (3, .int p3), (4, .ref o)]) hx hb dL_days_15 hl (by decide) rfl (fun ls hl => ?_)
  refine lv_iconst (v := 1) hx hb dL_days_17 (by decide) ?_
  refine W.widen (k := 1) (n := 6) (Nat.le_of_ble_eq_true rfl) (Nat.le_of_ble_eq_true rfl) ?_
  refine vx_ret ?_
  exact W.iret (v := 1) hx hb hr (fun t ht hW => ⟨⟨1, (), rfl, rfl, trivial⟩, hS.F ht⟩) hS.2.2 dL_days_18
set_option maxRecDepth 100000 in
set_option maxHeartbeats 4000000 in
theorem c_h_due (l : Launch) (hl9 : l.stackTraces = false) (D : va_G) (a1 a2 sz : Nat) (h0 h1 h2 : Nat) (g gn gb : Nat → Nat) (p1 p2 : Int32) (o : Nat) : vx_Met l yL_due (Cond.codeWith yL_due cL_due 5 (some .int) [(0, 9, 12, 19), (0, 9, 16, 13)] :: WS) ({ frames := 16, cells := 1, slots := 6, locals := 500 }) (va_Pc [.ref h0, .int p1, .int p2, .ref o] (pre D a1 a2 [(h0, .inr (11, [.ref h1, .ref h2, .ref (g 2), .ref (g 3), .ref (g 4), .ref (g 5), .ref (g 6), .int 0, .int 0, .int 0, .int 0])), (h1, .inr (6, [.ref (gn 0), .int 0, .ref (gn 2), .ref (gn 3), .int 0, .ref (gn 5), .int 0, .int 0])), (h2, .inr (1, [.ref h1, .ref (gb 1), .int 0]))] [] sz)) (va_Qi (S := Unit) (fun r _ => r = 1) (fun _ _ => True) (va_A [(h0, .inr (11, [.ref h1, .ref h2, .ref (g 2), .ref (g 3), .ref (g 4), .ref (g 5), .ref (g 6), .int 0, .int 0, .int 0, .int 0])), (h1, .inr (6, [.ref (gn 0), .int 0, .ref (gn 2), .ref (gn 3), .int 0, .ref (gn 5), .int 0, .int 0])), (h2, .inr (1, [.ref h1, .ref (gb 1), .int 0]))] sz)) (vx_X (fun _ : Unit => False) (fun _ _ _ => True) (va_A [(h0, .inr (11, [.ref h1, .ref h2, .ref (g 2), .ref (g 3), .ref (g 4), .ref (g 5), .ref (g 6), .int 0, .int 0, .int 0, .int 0])), (h1, .inr (6, [.ref (gn 0), .int 0, .ref (gn 2), .ref (gn 3), .int 0, .ref (gn 5), .int 0, .int 0])), (h2, .inr (1, [.ref h1, .ref (gb 1), .int 0]))] sz)) 1 6 (va_A [(h0, .inr (11, [.ref h1, .ref h2, .ref (g 2), .ref (g 3), .ref (g 4), .ref (g 5), .ref (g 6), .int 0, .int 0, .int 0, .int 0])), (h1, .inr (6, [.ref (gn 0), .int 0, .ref (gn 2), .ref (gn 3), .int 0, .ref (gn 5), .int 0, .int 0])), (h2, .inr (1, [.ref h1, .ref (gb 1), .int 0]))] sz) := by
  refine open_H (by decide +kernel) (Nat.le_of_ble_eq_true rfl) (fun A => va_Qi (S := Unit) (fun r _ => r = 1) (fun _ _ => True) A) (fun A => vx_X (fun _ : Unit => False) (fun _ _ _ => True) A) ?_
  intro p e s m below meth c A ls hG
  obtain ⟨⟨hx, hb, hr, hml, hown, hts, hlocks, hin, hP, hK, hD, hA, hE, hS, hl⟩, hno⟩ := hG
  have hown : s.vm.findClass RL = some m.cls := hown
  have hl : lv_has ls 5 [(0, .ref h0), (1, .int p1), (2, .int p2), (3, .ref o)] := hl
  refine lv_aload_n hx hb dL_due_0 rfl (lv_at hl 3 rfl) ?_
  refine lv_iconst (v := 0) hx hb dL_due_1 (by decide) ?_
  refine lv_aload_n hx hb dL_due_2 rfl (lv_at hl 0 rfl) ?_
  refine lv_iload_n hx hb dL_due_3 rfl (lv_at hl 1 rfl) ?_
  refine lv_iload_n hx hb dL_due_4 rfl (lv_at hl 2 rfl) ?_
  have f_1 := free_of (wc := [(h0, .inr (11, [.ref h1, .ref h2, .ref (g 2), .ref (g 3), .ref (g 4), .ref (g 5), .ref (g 6), .int 0, .int 0, .int 0, .int 0])), (h1, .inr (6, [.ref (gn 0), .int 0, .ref (gn 2), .ref (gn 3), .int 0, .ref (gn 5), .int 0, .int 0])), (h2, .inr (1, [.ref h1, .ref (gb 1), .int 0]))]) hD hS hA [0, 1, 2] rfl
  refine never (vx_runV (As := [.int p1, .int p2]) (rest := [.int 0, .ref o]) ⟨hx, hb, hml, hown, hts⟩ (c_x_due l hl9 D a1 a2 s.heap.size h0 h1 h2 g gn gb p1 p2) (cwV 2 hts (gV w_223 w_224 w_225 w_8 w_226) rfl rfl rfl (by decide +kernel) ⟨Nat.le_of_ble_eq_true rfl, Nat.le_of_ble_eq_true rfl⟩) (pre_V hK hP hD hS hA hE [0, 1, 2] rfl (by decide) rfl [] rfl (ci := 11) (q0 := 0) rfl rfl) rfl rfl hl.1 rfl (lv_room (Nat.le_of_ble_eq_true rfl)) dL_due_5 ⟨Nat.le_of_ble_eq_true rfl, Nat.le_of_ble_eq_true rfl⟩) (fun _ _ _ h => h) hS f_1 (fun q _ h => f_1 q h) (fun E ce q9 u9 t H locs ht hvm hw hB hz1 hk1 hS hce hcv hcl => ?_)
  subst hB
  refine vx_catch (own := RL) (name := "java/util/NoSuchElementException") (E := "java/util/NoSuchElementException") hown [] ⟨0, 9, 12, 19⟩ [⟨0, 9, 16, 13⟩] (by rw [hno]; rfl) (fun z hz => nomatch hz) (by decide) (by decide) (hts (.classLink RL 19 "java/util/NoSuchElementException") w_45) (va_Nw.use rfl hE.1.2.1.1) hce hcv hcl ?_
  refine W.eq (g2 := F0 m 12 ls [.ref q9]) rfl ?_
  refine lv_astore (lv' := [(4, .ref q9), (0, .ref h0), (1, .int p1), (2, .int p2), (3, .ref o)]) hx hb dL_due_12 hl (by decide) rfl (fun ls hl => ?_)
  refine lv_iconst (v := 1) hx hb dL_due_14 (by decide) ?_
  refine W.widen (k := 1) (n := 6) (Nat.le_of_ble_eq_true rfl) (Nat.le_of_ble_eq_true rfl) ?_
  refine vx_ret ?_
  exact W.iret (v := 1) hx hb hr (fun t ht hW => ⟨⟨1, (), rfl, rfl, trivial⟩, hS.F ht⟩) hS.2.2 dL_due_15
set_option maxRecDepth 100000 in
set_option maxHeartbeats 4000000 in
theorem c_h_needs (l : Launch) (hl9 : l.stackTraces = false) (D : va_G) (a1 a2 sz : Nat) (h0 h1 h2 : Nat) (g gn gb : Nat → Nat) (p1 p2 : Int32) (o : Nat) : vx_Met l yL_needs (Cond.codeWith yL_needs cL_needs 5 (some .int) [(0, 10, 13, 19), (0, 10, 17, 13)] :: WS) ({ frames := 16, cells := 1, slots := 6, locals := 500 }) (va_Pc [.ref h0, .int p1, .int p2, .ref o] (pre D a1 a2 [(h0, .inr (11, [.ref h1, .ref h2, .ref (g 2), .ref (g 3), .ref (g 4), .ref (g 5), .ref (g 6), .int 0, .int 0, .int 0, .int 0])), (h1, .inr (6, [.ref (gn 0), .int 0, .ref (gn 2), .ref (gn 3), .int 0, .ref (gn 5), .int 0, .int 0])), (h2, .inr (1, [.ref h1, .ref (gb 1), .int 0]))] [] sz)) (va_Qi (S := Unit) (fun r _ => r = 1) (fun _ _ => True) (va_A [(h0, .inr (11, [.ref h1, .ref h2, .ref (g 2), .ref (g 3), .ref (g 4), .ref (g 5), .ref (g 6), .int 0, .int 0, .int 0, .int 0])), (h1, .inr (6, [.ref (gn 0), .int 0, .ref (gn 2), .ref (gn 3), .int 0, .ref (gn 5), .int 0, .int 0])), (h2, .inr (1, [.ref h1, .ref (gb 1), .int 0]))] sz)) (vx_X (fun _ : Unit => False) (fun _ _ _ => True) (va_A [(h0, .inr (11, [.ref h1, .ref h2, .ref (g 2), .ref (g 3), .ref (g 4), .ref (g 5), .ref (g 6), .int 0, .int 0, .int 0, .int 0])), (h1, .inr (6, [.ref (gn 0), .int 0, .ref (gn 2), .ref (gn 3), .int 0, .ref (gn 5), .int 0, .int 0])), (h2, .inr (1, [.ref h1, .ref (gb 1), .int 0]))] sz)) 1 6 (va_A [(h0, .inr (11, [.ref h1, .ref h2, .ref (g 2), .ref (g 3), .ref (g 4), .ref (g 5), .ref (g 6), .int 0, .int 0, .int 0, .int 0])), (h1, .inr (6, [.ref (gn 0), .int 0, .ref (gn 2), .ref (gn 3), .int 0, .ref (gn 5), .int 0, .int 0])), (h2, .inr (1, [.ref h1, .ref (gb 1), .int 0]))] sz) := by
  refine open_H (by decide +kernel) (Nat.le_of_ble_eq_true rfl) (fun A => va_Qi (S := Unit) (fun r _ => r = 1) (fun _ _ => True) A) (fun A => vx_X (fun _ : Unit => False) (fun _ _ _ => True) A) ?_
  intro p e s m below meth c A ls hG
  obtain ⟨⟨hx, hb, hr, hml, hown, hts, hlocks, hin, hP, hK, hD, hA, hE, hS, hl⟩, hno⟩ := hG
  have hown : s.vm.findClass RL = some m.cls := hown
  have hl : lv_has ls 5 [(0, .ref h0), (1, .int p1), (2, .int p2), (3, .ref o)] := hl
  refine lv_aload_n hx hb dL_needs_0 rfl (lv_at hl 3 rfl) ?_
  refine lv_iconst (v := 0) hx hb dL_needs_1 (by decide) ?_
  refine lv_aload_n hx hb dL_needs_2 rfl (lv_at hl 0 rfl) ?_
  refine lv_iload_n hx hb dL_needs_3 rfl (lv_at hl 1 rfl) ?_
  refine lv_iload_n hx hb dL_needs_4 rfl (lv_at hl 2 rfl) ?_
  have f_1 := free_of (wc := [(h0, .inr (11, [.ref h1, .ref h2, .ref (g 2), .ref (g 3), .ref (g 4), .ref (g 5), .ref (g 6), .int 0, .int 0, .int 0, .int 0])), (h1, .inr (6, [.ref (gn 0), .int 0, .ref (gn 2), .ref (gn 3), .int 0, .ref (gn 5), .int 0, .int 0])), (h2, .inr (1, [.ref h1, .ref (gb 1), .int 0]))]) hD hS hA [0, 1, 2] rfl
  refine never (vx_runV (As := [.int p1, .int p2]) (rest := [.int 0, .ref o]) ⟨hx, hb, hml, hown, hts⟩ (c_x_needs l hl9 D a1 a2 s.heap.size h0 h1 h2 g gn gb p1 p2) (cwV 2 hts (gV w_227 w_228 w_229 w_8 w_230) rfl rfl rfl (by decide +kernel) ⟨Nat.le_of_ble_eq_true rfl, Nat.le_of_ble_eq_true rfl⟩) (pre_V hK hP hD hS hA hE [0, 1, 2] rfl (by decide) rfl [] rfl (ci := 11) (q0 := 0) rfl rfl) rfl rfl hl.1 rfl (lv_room (Nat.le_of_ble_eq_true rfl)) dL_needs_5 ⟨Nat.le_of_ble_eq_true rfl, Nat.le_of_ble_eq_true rfl⟩) (fun _ _ _ h => h) hS f_1 (fun q _ h => f_1 q h) (fun E ce q9 u9 t H locs ht hvm hw hB hz1 hk1 hS hce hcv hcl => ?_)
  subst hB
  refine vx_catch (own := RL) (name := "java/util/NoSuchElementException") (E := "java/util/NoSuchElementException") hown [] ⟨0, 10, 13, 19⟩ [⟨0, 10, 17, 13⟩] (by rw [hno]; rfl) (fun z hz => nomatch hz) (by decide) (by decide) (hts (.classLink RL 19 "java/util/NoSuchElementException") w_45) (va_Nw.use rfl hE.1.2.1.1) hce hcv hcl ?_
  refine W.eq (g2 := F0 m 13 ls [.ref q9]) rfl ?_
  refine lv_astore (lv' := [(4, .ref q9), (0, .ref h0), (1, .int p1), (2, .int p2), (3, .ref o)]) hx hb dL_needs_13 hl (by decide) rfl (fun ls hl => ?_)
  refine lv_iconst (v := 1) hx hb dL_needs_15 (by decide) ?_
  refine W.widen (k := 1) (n := 6) (Nat.le_of_ble_eq_true rfl) (Nat.le_of_ble_eq_true rfl) ?_
  refine vx_ret ?_
  exact W.iret (v := 1) hx hb hr (fun t ht hW => ⟨⟨1, (), rfl, rfl, trivial⟩, hS.F ht⟩) hS.2.2 dL_needs_16
set_option maxRecDepth 100000 in
set_option maxHeartbeats 4000000 in
theorem c_h_without (l : Launch) (hl9 : l.stackTraces = false) (D : va_G) (a1 a2 sz : Nat) (h0 h1 h2 : Nat) (g gn gb : Nat → Nat) (p1 : Int32) (o : Nat) : vx_Met l yL_without (Cond.codeWith yL_without cL_without 4 (some .int) [(0, 9, 12, 19), (0, 9, 15, 13)] :: WS) ({ frames := 16, cells := 1, slots := 6, locals := 500 }) (va_Pc [.ref h0, .int p1, .ref o] (pre D a1 a2 [(h0, .inr (11, [.ref h1, .ref h2, .ref (g 2), .ref (g 3), .ref (g 4), .ref (g 5), .ref (g 6), .int 0, .int 0, .int 0, .int 0])), (h1, .inr (6, [.ref (gn 0), .int 0, .ref (gn 2), .ref (gn 3), .int 0, .ref (gn 5), .int 0, .int 0])), (h2, .inr (1, [.ref h1, .ref (gb 1), .int 0]))] [] sz)) (va_Qi (S := Unit) (fun r _ => r = 1) (fun _ _ => True) (va_A [(h0, .inr (11, [.ref h1, .ref h2, .ref (g 2), .ref (g 3), .ref (g 4), .ref (g 5), .ref (g 6), .int 0, .int 0, .int 0, .int 0])), (h1, .inr (6, [.ref (gn 0), .int 0, .ref (gn 2), .ref (gn 3), .int 0, .ref (gn 5), .int 0, .int 0])), (h2, .inr (1, [.ref h1, .ref (gb 1), .int 0]))] sz)) (vx_X (fun _ : Unit => False) (fun _ _ _ => True) (va_A [(h0, .inr (11, [.ref h1, .ref h2, .ref (g 2), .ref (g 3), .ref (g 4), .ref (g 5), .ref (g 6), .int 0, .int 0, .int 0, .int 0])), (h1, .inr (6, [.ref (gn 0), .int 0, .ref (gn 2), .ref (gn 3), .int 0, .ref (gn 5), .int 0, .int 0])), (h2, .inr (1, [.ref h1, .ref (gb 1), .int 0]))] sz)) 1 6 (va_A [(h0, .inr (11, [.ref h1, .ref h2, .ref (g 2), .ref (g 3), .ref (g 4), .ref (g 5), .ref (g 6), .int 0, .int 0, .int 0, .int 0])), (h1, .inr (6, [.ref (gn 0), .int 0, .ref (gn 2), .ref (gn 3), .int 0, .ref (gn 5), .int 0, .int 0])), (h2, .inr (1, [.ref h1, .ref (gb 1), .int 0]))] sz) := by
  refine open_H (by decide +kernel) (Nat.le_of_ble_eq_true rfl) (fun A => va_Qi (S := Unit) (fun r _ => r = 1) (fun _ _ => True) A) (fun A => vx_X (fun _ : Unit => False) (fun _ _ _ => True) A) ?_
  intro p e s m below meth c A ls hG
  obtain ⟨⟨hx, hb, hr, hml, hown, hts, hlocks, hin, hP, hK, hD, hA, hE, hS, hl⟩, hno⟩ := hG
  have hown : s.vm.findClass RL = some m.cls := hown
  have hl : lv_has ls 4 [(0, .ref h0), (1, .int p1), (2, .ref o)] := hl
  refine lv_aload_n hx hb dL_without_0 rfl (lv_at hl 2 rfl) ?_
  refine lv_iconst (v := 0) hx hb dL_without_1 (by decide) ?_
  refine lv_aload_n hx hb dL_without_2 rfl (lv_at hl 0 rfl) ?_
  refine lv_iload_n hx hb dL_without_3 rfl (lv_at hl 1 rfl) ?_
  have f_1 := free_of (wc := [(h0, .inr (11, [.ref h1, .ref h2, .ref (g 2), .ref (g 3), .ref (g 4), .ref (g 5), .ref (g 6), .int 0, .int 0, .int 0, .int 0])), (h1, .inr (6, [.ref (gn 0), .int 0, .ref (gn 2), .ref (gn 3), .int 0, .ref (gn 5), .int 0, .int 0])), (h2, .inr (1, [.ref h1, .ref (gb 1), .int 0]))]) hD hS hA [0, 1, 2] rfl
  refine never (vx_runV (As := [.int p1]) (rest := [.int 0, .ref o]) ⟨hx, hb, hml, hown, hts⟩ (c_x_without l hl9 D a1 a2 s.heap.size h0 h1 h2 g gn gb p1) (cwV 1 hts (gV w_231 w_232 w_233 w_8 w_234) rfl rfl rfl (by decide +kernel) ⟨Nat.le_of_ble_eq_true rfl, Nat.le_of_ble_eq_true rfl⟩) (pre_V hK hP hD hS hA hE [0, 1, 2] rfl (by decide) rfl [] rfl (ci := 11) (q0 := 0) rfl rfl) rfl rfl hl.1 rfl (lv_room (Nat.le_of_ble_eq_true rfl)) dL_without_4 ⟨Nat.le_of_ble_eq_true rfl, Nat.le_of_ble_eq_true rfl⟩) (fun _ _ _ h => h) hS f_1 (fun q _ h => f_1 q h) (fun E ce q9 u9 t H locs ht hvm hw hB hz1 hk1 hS hce hcv hcl => ?_)
  subst hB
  refine vx_catch (own := RL) (name := "java/util/NoSuchElementException") (E := "java/util/NoSuchElementException") hown [] ⟨0, 9, 12, 19⟩ [⟨0, 9, 15, 13⟩] (by rw [hno]; rfl) (fun z hz => nomatch hz) (by decide) (by decide) (hts (.classLink RL 19 "java/util/NoSuchElementException") w_45) (va_Nw.use rfl hE.1.2.1.1) hce hcv hcl ?_
  refine W.eq (g2 := F0 m 12 ls [.ref q9]) rfl ?_
  refine lv_astore_n (lv' := [(3, .ref q9), (0, .ref h0), (1, .int p1), (2, .ref o)]) hx hb dL_without_12 rfl hl (by decide) rfl (fun ls hl => ?_)
  refine lv_iconst (v := 1) hx hb dL_without_13 (by decide) ?_
  refine W.widen (k := 1) (n := 6) (Nat.le_of_ble_eq_true rfl) (Nat.le_of_ble_eq_true rfl) ?_
  refine vx_ret ?_
  exact W.iret (v := 1) hx hb hr (fun t ht hW => ⟨⟨1, (), rfl, rfl, trivial⟩, hS.F ht⟩) hS.2.2 dL_without_14
set_option maxRecDepth 100000 in
set_option maxHeartbeats 4000000 in
theorem c_h_vital (l : Launch) (hl9 : l.stackTraces = false) (D : va_G) (a1 a2 sz : Nat) (h0 h1 h2 : Nat) (g gn gb : Nat → Nat) (o : Nat) : vx_Met l yL_vital (Cond.codeWith yL_vital cL_vital 3 (some .int) [(0, 7, 10, 13)] :: WS) ({ frames := 16, cells := 1, slots := 6, locals := 500 }) (va_Pc [.ref h0, .ref o] (pre D a1 a2 [(h0, .inr (11, [.ref h1, .ref h2, .ref (g 2), .ref (g 3), .ref (g 4), .ref (g 5), .ref (g 6), .int 0, .int 0, .int 0, .int 0])), (h1, .inr (6, [.ref (gn 0), .int 0, .ref (gn 2), .ref (gn 3), .int 0, .ref (gn 5), .int 0, .int 0])), (h2, .inr (1, [.ref h1, .ref (gb 1), .int 0]))] [] sz)) (va_Qi (S := Unit) (fun r _ => r = 1) (fun _ _ => True) (va_A [(h0, .inr (11, [.ref h1, .ref h2, .ref (g 2), .ref (g 3), .ref (g 4), .ref (g 5), .ref (g 6), .int 0, .int 0, .int 0, .int 0])), (h1, .inr (6, [.ref (gn 0), .int 0, .ref (gn 2), .ref (gn 3), .int 0, .ref (gn 5), .int 0, .int 0])), (h2, .inr (1, [.ref h1, .ref (gb 1), .int 0]))] sz)) (vx_X (fun _ : Unit => False) (fun _ _ _ => True) (va_A [(h0, .inr (11, [.ref h1, .ref h2, .ref (g 2), .ref (g 3), .ref (g 4), .ref (g 5), .ref (g 6), .int 0, .int 0, .int 0, .int 0])), (h1, .inr (6, [.ref (gn 0), .int 0, .ref (gn 2), .ref (gn 3), .int 0, .ref (gn 5), .int 0, .int 0])), (h2, .inr (1, [.ref h1, .ref (gb 1), .int 0]))] sz)) 1 6 (va_A [(h0, .inr (11, [.ref h1, .ref h2, .ref (g 2), .ref (g 3), .ref (g 4), .ref (g 5), .ref (g 6), .int 0, .int 0, .int 0, .int 0])), (h1, .inr (6, [.ref (gn 0), .int 0, .ref (gn 2), .ref (gn 3), .int 0, .ref (gn 5), .int 0, .int 0])), (h2, .inr (1, [.ref h1, .ref (gb 1), .int 0]))] sz) := by
  refine open_H (by decide +kernel) (Nat.le_of_ble_eq_true rfl) (fun A => va_Qi (S := Unit) (fun r _ => r = 1) (fun _ _ => True) A) (fun A => vx_X (fun _ : Unit => False) (fun _ _ _ => True) A) ?_
  intro p e s m below meth c A ls hG
  obtain ⟨⟨hx, hb, hr, hml, hown, hts, hlocks, hin, hP, hK, hD, hA, hE, hS, hl⟩, hno⟩ := hG
  have hown : s.vm.findClass RL = some m.cls := hown
  have hl : lv_has ls 3 [(0, .ref h0), (1, .ref o)] := hl
  refine lv_aload_n hx hb dL_vital_0 rfl (lv_at hl 1 rfl) ?_
  refine lv_iconst (v := 0) hx hb dL_vital_1 (by decide) ?_
  refine lv_aload_n hx hb dL_vital_2 rfl (lv_at hl 0 rfl) ?_
  have f_1 := free_of (wc := [(h0, .inr (11, [.ref h1, .ref h2, .ref (g 2), .ref (g 3), .ref (g 4), .ref (g 5), .ref (g 6), .int 0, .int 0, .int 0, .int 0])), (h1, .inr (6, [.ref (gn 0), .int 0, .ref (gn 2), .ref (gn 3), .int 0, .ref (gn 5), .int 0, .int 0])), (h2, .inr (1, [.ref h1, .ref (gb 1), .int 0]))]) hD hS hA [0, 1, 2] rfl
  refine never (vx_runV (As := []) (rest := [.int 0, .ref o]) ⟨hx, hb, hml, hown, hts⟩ (c_x_vital l hl9 D a1 a2 s.heap.size h0 h1 h2 g gn gb) (cwV 0 hts (gV w_235 w_236 w_237 w_8 w_238) rfl rfl rfl (by decide +kernel) ⟨Nat.le_of_ble_eq_true rfl, Nat.le_of_ble_eq_true rfl⟩) (pre_V hK hP hD hS hA hE [0, 1, 2] rfl (by decide) rfl [] rfl (ci := 11) (q0 := 0) rfl rfl) rfl rfl hl.1 rfl (lv_room (Nat.le_of_ble_eq_true rfl)) dL_vital_3 ⟨Nat.le_of_ble_eq_true rfl, Nat.le_of_ble_eq_true rfl⟩) (fun _ _ _ h => h) hS f_1 (fun q _ h => f_1 q h) (fun E ce q9 u9 t H locs ht hvm hw hB hz1 hk1 hS hce hcv hcl => ?_)
  subst hB
  refine vx_catch (own := RL) (name := "java/lang/IllegalArgumentException") (E := "java/lang/IllegalArgumentException") hown [] ⟨0, 7, 10, 13⟩ [] (by rw [hno]; rfl) (fun z hz => nomatch hz) (by decide) (by decide) (hts (.classLink RL 13 "java/lang/IllegalArgumentException") w_182) (va_Nw.use rfl hE.1.2.1.2) hce hcv hcl ?_
  refine W.eq (g2 := F0 m 10 ls [.ref q9]) rfl ?_
  refine lv_astore_n (lv' := [(2, .ref q9), (0, .ref h0), (1, .ref o)]) hx hb dL_vital_10 rfl hl (by decide) rfl (fun ls hl => ?_)
  refine lv_iconst (v := 1) hx hb dL_vital_11 (by decide) ?_
  refine W.widen (k := 1) (n := 6) (Nat.le_of_ble_eq_true rfl) (Nat.le_of_ble_eq_true rfl) ?_
  refine vx_ret ?_
  exact W.iret (v := 1) hx hb hr (fun t ht hW => ⟨⟨1, (), rfl, rfl, trivial⟩, hS.F ht⟩) hS.2.2 dL_vital_12
