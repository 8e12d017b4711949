set_option maxRecDepth 100000 in
set_option maxHeartbeats 4000000 in
theorem c_new_X9 (l : Launch) (D : va_G) (a1 a2 sz : Nat) (h0 n : Nat) : Met l yX9_init (Cond.code yX9_init cX9_init 2 none :: WS) ({ frames := 12, cells := 4, slots := 192, locals := 300 }) (va_Pc [.ref h0, .ref n] (pre D a1 a2 [(h0, .inr (9, [.null, .int 0, .int 0, .int 0, .int 0, .int 0, .int 0, .int 0, .int 0, .long 0, .null, .null, .null, .null]))] [] sz)) (va_Qv (S := Unit) (fun _ => True) (fun _ _ => True) (va_A [(h0, .inr (9, [.null, .int 0, .int 0, .int 0, .int 0, .int 0, .int 0, .int 0, .int 0, .long 0, .null, .null, .null, .null]))] sz)) 4 192 (va_A [(h0, .inr (9, [.null, .int 0, .int 0, .int 0, .int 0, .int 0, .int 0, .int 0, .int 0, .long 0, .null, .null, .null, .null]))] sz) := by
  refine open_Met (by decide +kernel) (Nat.le_of_ble_eq_true rfl) (fun A => va_Qv (S := Unit) (fun _ => True) (fun _ _ => True) A) ?_
  intro p e s m below meth c A ls hG
  obtain ⟨hx, hb, hr, hml, hown, hts, hlocks, hin, hP, hK, hD, hA, hE, hS, hl⟩ := hG
  have hown : s.vm.findClass RX9 = some m.cls := hown
  have hl : lv_has ls 2 [(0, .ref h0), (1, .ref n)] := hl
  refine lv_aload_n hx hb dX9_init_0 rfl (lv_at hl 0 rfl) ?_
  refine W.objInit hx hb hown (hts (.methodLink RX9 3 objectInit) w_355) (hts (.instanceMethod objectInit) w_284) (hts (.code objectInit ⟨#[0xb1]⟩ 1 none) w_285) rfl (by rw [hml]; exact hl.1) rfl dX9_init_1 (Nat.le_of_ble_eq_true rfl) (Nat.le_of_ble_eq_true rfl) ?_
  refine W.eq (g2 := F0 m 4 ls []) rfl ?_
  refine lv_aload_n hx hb dX9_init_4 rfl (lv_at hl 0 rfl) ?_
  refine lv_bipush (v := 48) hx hb dX9_init_5 (by decide) ?_
  refine va_newa (atype := .int) (ty := .int) (a0 := (48, .inl (fun _ => 0))) hx hb (hts (.arrayClass .int) w_356) rfl hK hP hD hS hA (fun _ => rfl) (by decide) (by decide) (Nat.le_of_ble_eq_true rfl) (Nat.le_of_ble_eq_true rfl) (Nat.le_of_ble_eq_true rfl) dX9_init_7 (fun q_1 k_2 H hK hP hD hS => ?_)
  have hP : va_P D vwCl [(h0, .inr (9, [.null, .int 0, .int 0, .int 0, .int 0, .int 0, .int 0, .int 0, .int 0, .long 0, .null, .null, .null, .null])), (q_1, .inl (k_2, 48, .inl (fun _ => 0)))] H := hP
  have hD : va_D A [(h0, .inr (9, [.null, .int 0, .int 0, .int 0, .int 0, .int 0, .int 0, .int 0, .int 0, .long 0, .null, .null, .null, .null])), (q_1, .inl (k_2, 48, .inl (fun _ => 0)))] := hD
  have hK : va_K D vwCl [(k_2, .int)] s := hK
  refine va_putF (D := D) (ci := 9) (v := .ref q_1) (ty := .array .int) (C := RX9) (T := TX9) (N := 14) hx hb hts inX9 tyX9 tyX9_ok nmX9 hown hK hP hD hS 0 rfl rfl 10 (by decide) (hts (.fieldLink RX9 9 "AbroadRouter$Quest" "feeBy" "[I") w_357) (fun _ h9 => h9) rfl hin rfl (by decide +kernel) rfl rfl (Nat.le_of_ble_eq_true rfl) dX9_init_9 (fun H locs hP hD hS => ?_)
  have hP : va_P D vwCl [(h0, .inr (9, [.null, .int 0, .int 0, .int 0, .int 0, .int 0, .int 0, .int 0, .int 0, .long 0, .ref q_1, .null, .null, .null])), (q_1, .inl (k_2, 48, .inl (fun _ => 0)))] H := hP
  have hD : va_D A [(h0, .inr (9, [.null, .int 0, .int 0, .int 0, .int 0, .int 0, .int 0, .int 0, .int 0, .long 0, .ref q_1, .null, .null, .null])), (q_1, .inl (k_2, 48, .inl (fun _ => 0)))] := hD
  refine lv_aload_n hx hb dX9_init_12 rfl (lv_at hl 0 rfl) ?_
  refine lv_bipush (v := 48) hx hb dX9_init_13 (by decide) ?_
  refine va_newa (atype := .int) (ty := .int) (a0 := (48, .inl (fun _ => 0))) hx hb (hts (.arrayClass .int) w_356) rfl hK hP hD hS hA (fun _ => rfl) (by decide) (by decide) (Nat.le_of_ble_eq_true rfl) (Nat.le_of_ble_eq_true rfl) (Nat.le_of_ble_eq_true rfl) dX9_init_15 (fun q_3 k_4 H hK hP hD hS => ?_)
  have hP : va_P D vwCl [(h0, .inr (9, [.null, .int 0, .int 0, .int 0, .int 0, .int 0, .int 0, .int 0, .int 0, .long 0, .ref q_1, .null, .null, .null])), (q_1, .inl (k_2, 48, .inl (fun _ => 0))), (q_3, .inl (k_4, 48, .inl (fun _ => 0)))] H := hP
  have hD : va_D A [(h0, .inr (9, [.null, .int 0, .int 0, .int 0, .int 0, .int 0, .int 0, .int 0, .int 0, .long 0, .ref q_1, .null, .null, .null])), (q_1, .inl (k_2, 48, .inl (fun _ => 0))), (q_3, .inl (k_4, 48, .inl (fun _ => 0)))] := hD
  have hK : va_K D vwCl [(k_2, .int), (k_4, .int)] s := hK
  refine va_putF (D := D) (ci := 9) (v := .ref q_3) (ty := .array .int) (C := RX9) (T := TX9) (N := 14) hx hb hts inX9 tyX9 tyX9_ok nmX9 hown hK hP hD hS 0 rfl rfl 11 (by decide) (hts (.fieldLink RX9 15 "AbroadRouter$Quest" "knownFrom" "[I") w_358) (fun _ h9 => h9) rfl hin rfl (by decide +kernel) rfl rfl (Nat.le_of_ble_eq_true rfl) dX9_init_17 (fun H locs hP hD hS => ?_)
  have hP : va_P D vwCl [(h0, .inr (9, [.null, .int 0, .int 0, .int 0, .int 0, .int 0, .int 0, .int 0, .int 0, .long 0, .ref q_1, .ref q_3, .null, .null])), (q_1, .inl (k_2, 48, .inl (fun _ => 0))), (q_3, .inl (k_4, 48, .inl (fun _ => 0)))] H := hP
  have hD : va_D A [(h0, .inr (9, [.null, .int 0, .int 0, .int 0, .int 0, .int 0, .int 0, .int 0, .int 0, .long 0, .ref q_1, .ref q_3, .null, .null])), (q_1, .inl (k_2, 48, .inl (fun _ => 0))), (q_3, .inl (k_4, 48, .inl (fun _ => 0)))] := hD
  refine lv_aload_n hx hb dX9_init_20 rfl (lv_at hl 0 rfl) ?_
  refine lv_bipush (v := 48) hx hb dX9_init_21 (by decide) ?_
  refine va_newa (atype := .int) (ty := .int) (a0 := (48, .inl (fun _ => 0))) hx hb (hts (.arrayClass .int) w_356) rfl hK hP hD hS hA (fun _ => rfl) (by decide) (by decide) (Nat.le_of_ble_eq_true rfl) (Nat.le_of_ble_eq_true rfl) (Nat.le_of_ble_eq_true rfl) dX9_init_23 (fun q_5 k_6 H hK hP hD hS => ?_)
  have hP : va_P D vwCl [(h0, .inr (9, [.null, .int 0, .int 0, .int 0, .int 0, .int 0, .int 0, .int 0, .int 0, .long 0, .ref q_1, .ref q_3, .null, .null])), (q_1, .inl (k_2, 48, .inl (fun _ => 0))), (q_3, .inl (k_4, 48, .inl (fun _ => 0))), (q_5, .inl (k_6, 48, .inl (fun _ => 0)))] H := hP
  have hD : va_D A [(h0, .inr (9, [.null, .int 0, .int 0, .int 0, .int 0, .int 0, .int 0, .int 0, .int 0, .long 0, .ref q_1, .ref q_3, .null, .null])), (q_1, .inl (k_2, 48, .inl (fun _ => 0))), (q_3, .inl (k_4, 48, .inl (fun _ => 0))), (q_5, .inl (k_6, 48, .inl (fun _ => 0)))] := hD
  have hK : va_K D vwCl [(k_2, .int), (k_4, .int), (k_6, .int)] s := hK
  refine va_putF (D := D) (ci := 9) (v := .ref q_5) (ty := .array .int) (C := RX9) (T := TX9) (N := 14) hx hb hts inX9 tyX9 tyX9_ok nmX9 hown hK hP hD hS 0 rfl rfl 12 (by decide) (hts (.fieldLink RX9 18 "AbroadRouter$Quest" "knownLeave" "[I") w_359) (fun _ h9 => h9) rfl hin rfl (by decide +kernel) rfl rfl (Nat.le_of_ble_eq_true rfl) dX9_init_25 (fun H locs hP hD hS => ?_)
  have hP : va_P D vwCl [(h0, .inr (9, [.null, .int 0, .int 0, .int 0, .int 0, .int 0, .int 0, .int 0, .int 0, .long 0, .ref q_1, .ref q_3, .ref q_5, .null])), (q_1, .inl (k_2, 48, .inl (fun _ => 0))), (q_3, .inl (k_4, 48, .inl (fun _ => 0))), (q_5, .inl (k_6, 48, .inl (fun _ => 0)))] H := hP
  have hD : va_D A [(h0, .inr (9, [.null, .int 0, .int 0, .int 0, .int 0, .int 0, .int 0, .int 0, .int 0, .long 0, .ref q_1, .ref q_3, .ref q_5, .null])), (q_1, .inl (k_2, 48, .inl (fun _ => 0))), (q_3, .inl (k_4, 48, .inl (fun _ => 0))), (q_5, .inl (k_6, 48, .inl (fun _ => 0)))] := hD
  refine lv_aload_n hx hb dX9_init_28 rfl (lv_at hl 0 rfl) ?_
  refine lv_bipush (v := 48) hx hb dX9_init_29 (by decide) ?_
  refine va_newa (atype := .int) (ty := .int) (a0 := (48, .inl (fun _ => 0))) hx hb (hts (.arrayClass .int) w_356) rfl hK hP hD hS hA (fun _ => rfl) (by decide) (by decide) (Nat.le_of_ble_eq_true rfl) (Nat.le_of_ble_eq_true rfl) (Nat.le_of_ble_eq_true rfl) dX9_init_31 (fun q_7 k_8 H hK hP hD hS => ?_)
  have hP : va_P D vwCl [(h0, .inr (9, [.null, .int 0, .int 0, .int 0, .int 0, .int 0, .int 0, .int 0, .int 0, .long 0, .ref q_1, .ref q_3, .ref q_5, .null])), (q_1, .inl (k_2, 48, .inl (fun _ => 0))), (q_3, .inl (k_4, 48, .inl (fun _ => 0))), (q_5, .inl (k_6, 48, .inl (fun _ => 0))), (q_7, .inl (k_8, 48, .inl (fun _ => 0)))] H := hP
  have hD : va_D A [(h0, .inr (9, [.null, .int 0, .int 0, .int 0, .int 0, .int 0, .int 0, .int 0, .int 0, .long 0, .ref q_1, .ref q_3, .ref q_5, .null])), (q_1, .inl (k_2, 48, .inl (fun _ => 0))), (q_3, .inl (k_4, 48, .inl (fun _ => 0))), (q_5, .inl (k_6, 48, .inl (fun _ => 0))), (q_7, .inl (k_8, 48, .inl (fun _ => 0)))] := hD
  have hK : va_K D vwCl [(k_2, .int), (k_4, .int), (k_6, .int), (k_8, .int)] s := hK
  refine va_putF (D := D) (ci := 9) (v := .ref q_7) (ty := .array .int) (C := RX9) (T := TX9) (N := 14) hx hb hts inX9 tyX9 tyX9_ok nmX9 hown hK hP hD hS 0 rfl rfl 13 (by decide) (hts (.fieldLink RX9 21 "AbroadRouter$Quest" "knownArrive" "[I") w_360) (fun _ h9 => h9) rfl hin rfl (by decide +kernel) rfl rfl (Nat.le_of_ble_eq_true rfl) dX9_init_33 (fun H locs hP hD hS => ?_)
  have hP : va_P D vwCl [(h0, .inr (9, [.null, .int 0, .int 0, .int 0, .int 0, .int 0, .int 0, .int 0, .int 0, .long 0, .ref q_1, .ref q_3, .ref q_5, .ref q_7])), (q_1, .inl (k_2, 48, .inl (fun _ => 0))), (q_3, .inl (k_4, 48, .inl (fun _ => 0))), (q_5, .inl (k_6, 48, .inl (fun _ => 0))), (q_7, .inl (k_8, 48, .inl (fun _ => 0)))] H := hP
  have hD : va_D A [(h0, .inr (9, [.null, .int 0, .int 0, .int 0, .int 0, .int 0, .int 0, .int 0, .int 0, .long 0, .ref q_1, .ref q_3, .ref q_5, .ref q_7])), (q_1, .inl (k_2, 48, .inl (fun _ => 0))), (q_3, .inl (k_4, 48, .inl (fun _ => 0))), (q_5, .inl (k_6, 48, .inl (fun _ => 0))), (q_7, .inl (k_8, 48, .inl (fun _ => 0)))] := hD
  refine lv_aload_n hx hb dX9_init_36 rfl (lv_at hl 0 rfl) ?_
  refine lv_aload_n hx hb dX9_init_37 rfl (lv_at hl 1 rfl) ?_
  refine va_putF (D := D) (ci := 9) (v := .ref n) (ty := .object "AbroadRouter$Net") (C := RX9) (T := TX9) (N := 14) hx hb hts inX9 tyX9 tyX9_ok nmX9 hown hK hP hD hS 0 rfl rfl 0 (by decide) (hts (.fieldLink RX9 24 "AbroadRouter$Quest" "net" "LAbroadRouter$Net;") w_361) (fun _ h9 => h9) rfl hin rfl (by decide +kernel) rfl rfl (Nat.le_of_ble_eq_true rfl) dX9_init_38 (fun H locs hP hD hS => ?_)
  have hP : va_P D vwCl [(h0, .inr (9, [.ref n, .int 0, .int 0, .int 0, .int 0, .int 0, .int 0, .int 0, .int 0, .long 0, .ref q_1, .ref q_3, .ref q_5, .ref q_7])), (q_1, .inl (k_2, 48, .inl (fun _ => 0))), (q_3, .inl (k_4, 48, .inl (fun _ => 0))), (q_5, .inl (k_6, 48, .inl (fun _ => 0))), (q_7, .inl (k_8, 48, .inl (fun _ => 0)))] H := hP
  have hD : va_D A [(h0, .inr (9, [.ref n, .int 0, .int 0, .int 0, .int 0, .int 0, .int 0, .int 0, .int 0, .long 0, .ref q_1, .ref q_3, .ref q_5, .ref q_7])), (q_1, .inl (k_2, 48, .inl (fun _ => 0))), (q_3, .inl (k_4, 48, .inl (fun _ => 0))), (q_5, .inl (k_6, 48, .inl (fun _ => 0))), (q_7, .inl (k_8, 48, .inl (fun _ => 0)))] := hD
  refine W.widen (k := 4) (n := 192) (Nat.le_of_ble_eq_true rfl) (Nat.le_of_ble_eq_true rfl) ?_
  exact W.vret hx hb hr (fun t ht hW => ⟨⟨(), rfl, trivial, trivial⟩, hS.F ht⟩) hS.2.2 dX9_init_41
set_option maxRecDepth 100000 in
set_option maxHeartbeats 4000000 in
theorem c_new_X10 (l : Launch) (D : va_G) (a1 a2 sz : Nat) (h0 n : Nat) : Met l yX10_init (Cond.code yX10_init cX10_init 2 none :: WS) ({ frames := 12, cells := 14, slots := 204, locals := 300 }) (va_Pc [.ref h0, .ref n] (pre D a1 a2 [(h0, .inr (10, [.null, .null, .null]))] [] sz)) (va_Qv (S := Unit) (fun _ => True) (fun _ _ => True) (va_A [(h0, .inr (10, [.null, .null, .null]))] sz)) 14 204 (va_A [(h0, .inr (10, [.null, .null, .null]))] sz) := by
  refine open_Met (by decide +kernel) (Nat.le_of_ble_eq_true rfl) (fun A => va_Qv (S := Unit) (fun _ => True) (fun _ _ => True) A) ?_
  intro p e s m below meth c A ls hG
  obtain ⟨hx, hb, hr, hml, hown, hts, hlocks, hin, hP, hK, hD, hA, hE, hS, hl⟩ := hG
  have hown : s.vm.findClass RX10 = some m.cls := hown
  have hl : lv_has ls 2 [(0, .ref h0), (1, .ref n)] := hl
  refine lv_aload_n hx hb dX10_init_0 rfl (lv_at hl 0 rfl) ?_
  refine W.objInit hx hb hown (hts (.methodLink RX10 3 objectInit) w_362) (hts (.instanceMethod objectInit) w_284) (hts (.code objectInit ⟨#[0xb1]⟩ 1 none) w_285) rfl (by rw [hml]; exact hl.1) rfl dX10_init_1 (Nat.le_of_ble_eq_true rfl) (Nat.le_of_ble_eq_true rfl) ?_
  refine W.eq (g2 := F0 m 4 ls []) rfl ?_
  refine lv_aload_n hx hb dX10_init_4 rfl (lv_at hl 0 rfl) ?_
  refine lv_bipush (v := 6) hx hb dX10_init_5 (by decide) ?_
  refine lv_bipush (v := 16) hx hb dX10_init_7 (by decide) ?_
  refine mm_two_drop (ty := .int) (N' := 6) (K' := 16) hx hb hown (hts _ w_363) (aoA_use hE.1.2.2.2.2.2.1.1) (hts _ w_356) hP hS (by decide) (by decide) (by decide) (by decide) (Nat.le_of_ble_eq_true rfl) (Nat.le_of_ble_eq_true rfl) (Nat.le_of_ble_eq_true rfl) rfl rfl (Nat.le_of_ble_eq_true rfl) (Nat.le_of_ble_eq_true rfl) dX10_init_9 (fun q_1 H hP hS => ?_)
  refine W.widen (k := 7) (n := 102) (Nat.le_of_ble_eq_true rfl) (Nat.le_of_ble_eq_true rfl) ?_
  refine va_putF (D := D) (ci := 10) (v := .ref q_1) (ty := .array (.array .int)) (C := RX10) (T := TX10) (N := 3) hx hb hts inX10 tyX10 tyX10_ok nmX10 hown hK hP hD hS 0 rfl rfl 1 (by decide) (hts (.fieldLink RX10 11 "AbroadRouter$Sweep" "ends" "[[I") w_364) (fun _ h9 => h9) rfl hin rfl (by decide +kernel) rfl rfl (Nat.le_of_ble_eq_true rfl) dX10_init_13 (fun H locs hP hD hS => ?_)
  have hP : va_P D vwCl [(h0, .inr (10, [.null, .ref q_1, .null]))] H := hP
  have hD : va_D A [(h0, .inr (10, [.null, .ref q_1, .null]))] := hD
  refine lv_aload_n hx hb dX10_init_16 rfl (lv_at hl 0 rfl) ?_
  refine lv_bipush (v := 6) hx hb dX10_init_17 (by decide) ?_
  refine lv_bipush (v := 16) hx hb dX10_init_19 (by decide) ?_
  refine mm_two_drop (ty := .int) (N' := 6) (K' := 16) hx hb hown (hts _ w_363) (aoA_use hE.1.2.2.2.2.2.1.1) (hts _ w_356) hP hS (by decide) (by decide) (by decide) (by decide) (Nat.le_of_ble_eq_true rfl) (Nat.le_of_ble_eq_true rfl) (Nat.le_of_ble_eq_true rfl) rfl rfl (Nat.le_of_ble_eq_true rfl) (Nat.le_of_ble_eq_true rfl) dX10_init_21 (fun q_2 H hP hS => ?_)
  refine W.widen (k := 14) (n := 204) (Nat.le_of_ble_eq_true rfl) (Nat.le_of_ble_eq_true rfl) ?_
  refine va_putF (D := D) (ci := 10) (v := .ref q_2) (ty := .array (.array .int)) (C := RX10) (T := TX10) (N := 3) hx hb hts inX10 tyX10 tyX10_ok nmX10 hown hK hP hD hS 0 rfl rfl 2 (by decide) (hts (.fieldLink RX10 16 "AbroadRouter$Sweep" "starts" "[[I") w_365) (fun _ h9 => h9) rfl hin rfl (by decide +kernel) rfl rfl (Nat.le_of_ble_eq_true rfl) dX10_init_25 (fun H locs hP hD hS => ?_)
  have hP : va_P D vwCl [(h0, .inr (10, [.null, .ref q_1, .ref q_2]))] H := hP
  have hD : va_D A [(h0, .inr (10, [.null, .ref q_1, .ref q_2]))] := hD
  refine lv_aload_n hx hb dX10_init_28 rfl (lv_at hl 0 rfl) ?_
  refine lv_aload_n hx hb dX10_init_29 rfl (lv_at hl 1 rfl) ?_
  refine va_putF (D := D) (ci := 10) (v := .ref n) (ty := .object "AbroadRouter$Net") (C := RX10) (T := TX10) (N := 3) hx hb hts inX10 tyX10 tyX10_ok nmX10 hown hK hP hD hS 0 rfl rfl 0 (by decide) (hts (.fieldLink RX10 19 "AbroadRouter$Sweep" "net" "LAbroadRouter$Net;") w_366) (fun _ h9 => h9) rfl hin rfl (by decide +kernel) rfl rfl (Nat.le_of_ble_eq_true rfl) dX10_init_30 (fun H locs hP hD hS => ?_)
  have hP : va_P D vwCl [(h0, .inr (10, [.ref n, .ref q_1, .ref q_2]))] H := hP
  have hD : va_D A [(h0, .inr (10, [.ref n, .ref q_1, .ref q_2]))] := hD
  refine W.widen (k := 14) (n := 204) (Nat.le_of_ble_eq_true rfl) (Nat.le_of_ble_eq_true rfl) ?_
  exact W.vret hx hb hr (fun t ht hW => ⟨⟨(), rfl, trivial, trivial⟩, hS.F ht⟩) hS.2.2 dX10_init_33
set_option maxRecDepth 100000 in
set_option maxHeartbeats 4000000 in
theorem c_new_X2 (l : Launch) (D : va_G) (a1 a2 sz : Nat) (h0 n : Nat) : Met l yX2_init (Cond.code yX2_init cX2_init 2 none :: WS) ({ frames := 12, cells := 7, slots := 400, locals := 300 }) (va_Pc [.ref h0, .ref n] (pre D a1 a2 [(h0, .inr (2, [.null, .null, .int 0, .null, .null, .null, .null, .null, .null, .null]))] [] sz)) (va_Qv (S := Unit) (fun _ => True) (fun _ _ => True) (va_A [(h0, .inr (2, [.null, .null, .int 0, .null, .null, .null, .null, .null, .null, .null]))] sz)) 7 400 (va_A [(h0, .inr (2, [.null, .null, .int 0, .null, .null, .null, .null, .null, .null, .null]))] sz) := by
  refine open_Met (by decide +kernel) (Nat.le_of_ble_eq_true rfl) (fun A => va_Qv (S := Unit) (fun _ => True) (fun _ _ => True) A) ?_
  intro p e s m below meth c A ls hG
  obtain ⟨hx, hb, hr, hml, hown, hts, hlocks, hin, hP, hK, hD, hA, hE, hS, hl⟩ := hG
  have hown : s.vm.findClass RX2 = some m.cls := hown
  have hl : lv_has ls 2 [(0, .ref h0), (1, .ref n)] := hl
  refine lv_aload_n hx hb dX2_init_0 rfl (lv_at hl 0 rfl) ?_
  refine W.objInit hx hb hown (hts (.methodLink RX2 3 objectInit) w_367) (hts (.instanceMethod objectInit) w_284) (hts (.code objectInit ⟨#[0xb1]⟩ 1 none) w_285) rfl (by rw [hml]; exact hl.1) rfl dX2_init_1 (Nat.le_of_ble_eq_true rfl) (Nat.le_of_ble_eq_true rfl) ?_
  refine W.eq (g2 := F0 m 4 ls []) rfl ?_
  refine lv_aload_n hx hb dX2_init_4 rfl (lv_at hl 0 rfl) ?_
  refine lv_bipush (v := 64) hx hb dX2_init_5 (by decide) ?_
  refine va_newa (atype := .int) (ty := .int) (a0 := (64, .inl (fun _ => 0))) hx hb (hts (.arrayClass .int) w_356) rfl hK hP hD hS hA (fun _ => rfl) (by decide) (by decide) (Nat.le_of_ble_eq_true rfl) (Nat.le_of_ble_eq_true rfl) (Nat.le_of_ble_eq_true rfl) dX2_init_7 (fun q_1 k_2 H hK hP hD hS => ?_)
  have hP : va_P D vwCl [(h0, .inr (2, [.null, .null, .int 0, .null, .null, .null, .null, .null, .null, .null])), (q_1, .inl (k_2, 64, .inl (fun _ => 0)))] H := hP
  have hD : va_D A [(h0, .inr (2, [.null, .null, .int 0, .null, .null, .null, .null, .null, .null, .null])), (q_1, .inl (k_2, 64, .inl (fun _ => 0)))] := hD
  have hK : va_K D vwCl [(k_2, .int)] s := hK
  refine va_put (D := D) (ci := 2) (v := .ref q_1) (ty := .array .int) (C := RX2) (T := TX2) (N := 10) hx hb hts inX2 tyX2 tyX2_ok nmX2 hown hK hP hD hS 0 rfl rfl 3 (by decide) (hts (.fieldLink RX2 11 "AbroadRouter$Chains" "time" "[I") w_368) (fun _ h9 => h9) rfl (by decide +kernel) rfl rfl (Nat.le_of_ble_eq_true rfl) dX2_init_9 (fun H locs hP hD hS => ?_)
  have hP : va_P D vwCl [(h0, .inr (2, [.null, .null, .int 0, .ref q_1, .null, .null, .null, .null, .null, .null])), (q_1, .inl (k_2, 64, .inl (fun _ => 0)))] H := hP
  have hD : va_D A [(h0, .inr (2, [.null, .null, .int 0, .ref q_1, .null, .null, .null, .null, .null, .null])), (q_1, .inl (k_2, 64, .inl (fun _ => 0)))] := hD
  refine lv_aload_n hx hb dX2_init_12 rfl (lv_at hl 0 rfl) ?_
  refine lv_bipush (v := 64) hx hb dX2_init_13 (by decide) ?_
  refine va_newa (atype := .int) (ty := .int) (a0 := (64, .inl (fun _ => 0))) hx hb (hts (.arrayClass .int) w_356) rfl hK hP hD hS hA (fun _ => rfl) (by decide) (by decide) (Nat.le_of_ble_eq_true rfl) (Nat.le_of_ble_eq_true rfl) (Nat.le_of_ble_eq_true rfl) dX2_init_15 (fun q_3 k_4 H hK hP hD hS => ?_)
  have hP : va_P D vwCl [(h0, .inr (2, [.null, .null, .int 0, .ref q_1, .null, .null, .null, .null, .null, .null])), (q_1, .inl (k_2, 64, .inl (fun _ => 0))), (q_3, .inl (k_4, 64, .inl (fun _ => 0)))] H := hP
  have hD : va_D A [(h0, .inr (2, [.null, .null, .int 0, .ref q_1, .null, .null, .null, .null, .null, .null])), (q_1, .inl (k_2, 64, .inl (fun _ => 0))), (q_3, .inl (k_4, 64, .inl (fun _ => 0)))] := hD
  have hK : va_K D vwCl [(k_2, .int), (k_4, .int)] s := hK
  refine va_put (D := D) (ci := 2) (v := .ref q_3) (ty := .array .int) (C := RX2) (T := TX2) (N := 10) hx hb hts inX2 tyX2 tyX2_ok nmX2 hown hK hP hD hS 0 rfl rfl 4 (by decide) (hts (.fieldLink RX2 15 "AbroadRouter$Chains" "fees" "[I") w_369) (fun _ h9 => h9) rfl (by decide +kernel) rfl rfl (Nat.le_of_ble_eq_true rfl) dX2_init_17 (fun H locs hP hD hS => ?_)
  have hP : va_P D vwCl [(h0, .inr (2, [.null, .null, .int 0, .ref q_1, .ref q_3, .null, .null, .null, .null, .null])), (q_1, .inl (k_2, 64, .inl (fun _ => 0))), (q_3, .inl (k_4, 64, .inl (fun _ => 0)))] H := hP
  have hD : va_D A [(h0, .inr (2, [.null, .null, .int 0, .ref q_1, .ref q_3, .null, .null, .null, .null, .null])), (q_1, .inl (k_2, 64, .inl (fun _ => 0))), (q_3, .inl (k_4, 64, .inl (fun _ => 0)))] := hD
  refine lv_aload_n hx hb dX2_init_20 rfl (lv_at hl 0 rfl) ?_
  refine lv_bipush (v := 64) hx hb dX2_init_21 (by decide) ?_
  refine va_newa (atype := .int) (ty := .int) (a0 := (64, .inl (fun _ => 0))) hx hb (hts (.arrayClass .int) w_356) rfl hK hP hD hS hA (fun _ => rfl) (by decide) (by decide) (Nat.le_of_ble_eq_true rfl) (Nat.le_of_ble_eq_true rfl) (Nat.le_of_ble_eq_true rfl) dX2_init_23 (fun q_5 k_6 H hK hP hD hS => ?_)
  have hP : va_P D vwCl [(h0, .inr (2, [.null, .null, .int 0, .ref q_1, .ref q_3, .null, .null, .null, .null, .null])), (q_1, .inl (k_2, 64, .inl (fun _ => 0))), (q_3, .inl (k_4, 64, .inl (fun _ => 0))), (q_5, .inl (k_6, 64, .inl (fun _ => 0)))] H := hP
  have hD : va_D A [(h0, .inr (2, [.null, .null, .int 0, .ref q_1, .ref q_3, .null, .null, .null, .null, .null])), (q_1, .inl (k_2, 64, .inl (fun _ => 0))), (q_3, .inl (k_4, 64, .inl (fun _ => 0))), (q_5, .inl (k_6, 64, .inl (fun _ => 0)))] := hD
  have hK : va_K D vwCl [(k_2, .int), (k_4, .int), (k_6, .int)] s := hK
  refine va_put (D := D) (ci := 2) (v := .ref q_5) (ty := .array .int) (C := RX2) (T := TX2) (N := 10) hx hb hts inX2 tyX2 tyX2_ok nmX2 hown hK hP hD hS 0 rfl rfl 5 (by decide) (hts (.fieldLink RX2 18 "AbroadRouter$Chains" "parent" "[I") w_370) (fun _ h9 => h9) rfl (by decide +kernel) rfl rfl (Nat.le_of_ble_eq_true rfl) dX2_init_25 (fun H locs hP hD hS => ?_)
  have hP : va_P D vwCl [(h0, .inr (2, [.null, .null, .int 0, .ref q_1, .ref q_3, .ref q_5, .null, .null, .null, .null])), (q_1, .inl (k_2, 64, .inl (fun _ => 0))), (q_3, .inl (k_4, 64, .inl (fun _ => 0))), (q_5, .inl (k_6, 64, .inl (fun _ => 0)))] H := hP
  have hD : va_D A [(h0, .inr (2, [.null, .null, .int 0, .ref q_1, .ref q_3, .ref q_5, .null, .null, .null, .null])), (q_1, .inl (k_2, 64, .inl (fun _ => 0))), (q_3, .inl (k_4, 64, .inl (fun _ => 0))), (q_5, .inl (k_6, 64, .inl (fun _ => 0)))] := hD
  refine lv_aload_n hx hb dX2_init_28 rfl (lv_at hl 0 rfl) ?_
  refine lv_bipush (v := 64) hx hb dX2_init_29 (by decide) ?_
  refine va_newa (atype := .int) (ty := .int) (a0 := (64, .inl (fun _ => 0))) hx hb (hts (.arrayClass .int) w_356) rfl hK hP hD hS hA (fun _ => rfl) (by decide) (by decide) (Nat.le_of_ble_eq_true rfl) (Nat.le_of_ble_eq_true rfl) (Nat.le_of_ble_eq_true rfl) dX2_init_31 (fun q_7 k_8 H hK hP hD hS => ?_)
  have hP : va_P D vwCl [(h0, .inr (2, [.null, .null, .int 0, .ref q_1, .ref q_3, .ref q_5, .null, .null, .null, .null])), (q_1, .inl (k_2, 64, .inl (fun _ => 0))), (q_3, .inl (k_4, 64, .inl (fun _ => 0))), (q_5, .inl (k_6, 64, .inl (fun _ => 0))), (q_7, .inl (k_8, 64, .inl (fun _ => 0)))] H := hP
  have hD : va_D A [(h0, .inr (2, [.null, .null, .int 0, .ref q_1, .ref q_3, .ref q_5, .null, .null, .null, .null])), (q_1, .inl (k_2, 64, .inl (fun _ => 0))), (q_3, .inl (k_4, 64, .inl (fun _ => 0))), (q_5, .inl (k_6, 64, .inl (fun _ => 0))), (q_7, .inl (k_8, 64, .inl (fun _ => 0)))] := hD
  have hK : va_K D vwCl [(k_2, .int), (k_4, .int), (k_6, .int), (k_8, .int)] s := hK
  refine va_put (D := D) (ci := 2) (v := .ref q_7) (ty := .array .int) (C := RX2) (T := TX2) (N := 10) hx hb hts inX2 tyX2 tyX2_ok nmX2 hown hK hP hD hS 0 rfl rfl 6 (by decide) (hts (.fieldLink RX2 21 "AbroadRouter$Chains" "by" "[I") w_371) (fun _ h9 => h9) rfl (by decide +kernel) rfl rfl (Nat.le_of_ble_eq_true rfl) dX2_init_33 (fun H locs hP hD hS => ?_)
  have hP : va_P D vwCl [(h0, .inr (2, [.null, .null, .int 0, .ref q_1, .ref q_3, .ref q_5, .ref q_7, .null, .null, .null])), (q_1, .inl (k_2, 64, .inl (fun _ => 0))), (q_3, .inl (k_4, 64, .inl (fun _ => 0))), (q_5, .inl (k_6, 64, .inl (fun _ => 0))), (q_7, .inl (k_8, 64, .inl (fun _ => 0)))] H := hP
  have hD : va_D A [(h0, .inr (2, [.null, .null, .int 0, .ref q_1, .ref q_3, .ref q_5, .ref q_7, .null, .null, .null])), (q_1, .inl (k_2, 64, .inl (fun _ => 0))), (q_3, .inl (k_4, 64, .inl (fun _ => 0))), (q_5, .inl (k_6, 64, .inl (fun _ => 0))), (q_7, .inl (k_8, 64, .inl (fun _ => 0)))] := hD
  refine lv_aload_n hx hb dX2_init_36 rfl (lv_at hl 0 rfl) ?_
  refine lv_bipush (v := 64) hx hb dX2_init_37 (by decide) ?_
  refine va_newa (atype := .int) (ty := .int) (a0 := (64, .inl (fun _ => 0))) hx hb (hts (.arrayClass .int) w_356) rfl hK hP hD hS hA (fun _ => rfl) (by decide) (by decide) (Nat.le_of_ble_eq_true rfl) (Nat.le_of_ble_eq_true rfl) (Nat.le_of_ble_eq_true rfl) dX2_init_39 (fun q_9 k_10 H hK hP hD hS => ?_)
  have hP : va_P D vwCl [(h0, .inr (2, [.null, .null, .int 0, .ref q_1, .ref q_3, .ref q_5, .ref q_7, .null, .null, .null])), (q_1, .inl (k_2, 64, .inl (fun _ => 0))), (q_3, .inl (k_4, 64, .inl (fun _ => 0))), (q_5, .inl (k_6, 64, .inl (fun _ => 0))), (q_7, .inl (k_8, 64, .inl (fun _ => 0))), (q_9, .inl (k_10, 64, .inl (fun _ => 0)))] H := hP
  have hD : va_D A [(h0, .inr (2, [.null, .null, .int 0, .ref q_1, .ref q_3, .ref q_5, .ref q_7, .null, .null, .null])), (q_1, .inl (k_2, 64, .inl (fun _ => 0))), (q_3, .inl (k_4, 64, .inl (fun _ => 0))), (q_5, .inl (k_6, 64, .inl (fun _ => 0))), (q_7, .inl (k_8, 64, .inl (fun _ => 0))), (q_9, .inl (k_10, 64, .inl (fun _ => 0)))] := hD
  have hK : va_K D vwCl [(k_2, .int), (k_4, .int), (k_6, .int), (k_8, .int), (k_10, .int)] s := hK
  refine va_put (D := D) (ci := 2) (v := .ref q_9) (ty := .array .int) (C := RX2) (T := TX2) (N := 10) hx hb hts inX2 tyX2 tyX2_ok nmX2 hown hK hP hD hS 0 rfl rfl 7 (by decide) (hts (.fieldLink RX2 24 "AbroadRouter$Chains" "seen" "[I") w_372) (fun _ h9 => h9) rfl (by decide +kernel) rfl rfl (Nat.le_of_ble_eq_true rfl) dX2_init_41 (fun H locs hP hD hS => ?_)
  have hP : va_P D vwCl [(h0, .inr (2, [.null, .null, .int 0, .ref q_1, .ref q_3, .ref q_5, .ref q_7, .ref q_9, .null, .null])), (q_1, .inl (k_2, 64, .inl (fun _ => 0))), (q_3, .inl (k_4, 64, .inl (fun _ => 0))), (q_5, .inl (k_6, 64, .inl (fun _ => 0))), (q_7, .inl (k_8, 64, .inl (fun _ => 0))), (q_9, .inl (k_10, 64, .inl (fun _ => 0)))] H := hP
  have hD : va_D A [(h0, .inr (2, [.null, .null, .int 0, .ref q_1, .ref q_3, .ref q_5, .ref q_7, .ref q_9, .null, .null])), (q_1, .inl (k_2, 64, .inl (fun _ => 0))), (q_3, .inl (k_4, 64, .inl (fun _ => 0))), (q_5, .inl (k_6, 64, .inl (fun _ => 0))), (q_7, .inl (k_8, 64, .inl (fun _ => 0))), (q_9, .inl (k_10, 64, .inl (fun _ => 0)))] := hD
  refine lv_aload_n hx hb dX2_init_44 rfl (lv_at hl 0 rfl) ?_
  refine lv_bipush (v := 64) hx hb dX2_init_45 (by decide) ?_
  refine va_newa (atype := .int) (ty := .int) (a0 := (64, .inl (fun _ => 0))) hx hb (hts (.arrayClass .int) w_356) rfl hK hP hD hS hA (fun _ => rfl) (by decide) (by decide) (Nat.le_of_ble_eq_true rfl) (Nat.le_of_ble_eq_true rfl) (Nat.le_of_ble_eq_true rfl) dX2_init_47 (fun q_11 k_12 H hK hP hD hS => ?_)
  have hP : va_P D vwCl [(h0, .inr (2, [.null, .null, .int 0, .ref q_1, .ref q_3, .ref q_5, .ref q_7, .ref q_9, .null, .null])), (q_1, .inl (k_2, 64, .inl (fun _ => 0))), (q_3, .inl (k_4, 64, .inl (fun _ => 0))), (q_5, .inl (k_6, 64, .inl (fun _ => 0))), (q_7, .inl (k_8, 64, .inl (fun _ => 0))), (q_9, .inl (k_10, 64, .inl (fun _ => 0))), (q_11, .inl (k_12, 64, .inl (fun _ => 0)))] H := hP
  have hD : va_D A [(h0, .inr (2, [.null, .null, .int 0, .ref q_1, .ref q_3, .ref q_5, .ref q_7, .ref q_9, .null, .null])), (q_1, .inl (k_2, 64, .inl (fun _ => 0))), (q_3, .inl (k_4, 64, .inl (fun _ => 0))), (q_5, .inl (k_6, 64, .inl (fun _ => 0))), (q_7, .inl (k_8, 64, .inl (fun _ => 0))), (q_9, .inl (k_10, 64, .inl (fun _ => 0))), (q_11, .inl (k_12, 64, .inl (fun _ => 0)))] := hD
  have hK : va_K D vwCl [(k_2, .int), (k_4, .int), (k_6, .int), (k_8, .int), (k_10, .int), (k_12, .int)] s := hK
  refine va_put (D := D) (ci := 2) (v := .ref q_11) (ty := .array .int) (C := RX2) (T := TX2) (N := 10) hx hb hts inX2 tyX2 tyX2_ok nmX2 hown hK hP hD hS 0 rfl rfl 8 (by decide) (hts (.fieldLink RX2 27 "AbroadRouter$Chains" "behind" "[I") w_373) (fun _ h9 => h9) rfl (by decide +kernel) rfl rfl (Nat.le_of_ble_eq_true rfl) dX2_init_49 (fun H locs hP hD hS => ?_)
  have hP : va_P D vwCl [(h0, .inr (2, [.null, .null, .int 0, .ref q_1, .ref q_3, .ref q_5, .ref q_7, .ref q_9, .ref q_11, .null])), (q_1, .inl (k_2, 64, .inl (fun _ => 0))), (q_3, .inl (k_4, 64, .inl (fun _ => 0))), (q_5, .inl (k_6, 64, .inl (fun _ => 0))), (q_7, .inl (k_8, 64, .inl (fun _ => 0))), (q_9, .inl (k_10, 64, .inl (fun _ => 0))), (q_11, .inl (k_12, 64, .inl (fun _ => 0)))] H := hP
  have hD : va_D A [(h0, .inr (2, [.null, .null, .int 0, .ref q_1, .ref q_3, .ref q_5, .ref q_7, .ref q_9, .ref q_11, .null])), (q_1, .inl (k_2, 64, .inl (fun _ => 0))), (q_3, .inl (k_4, 64, .inl (fun _ => 0))), (q_5, .inl (k_6, 64, .inl (fun _ => 0))), (q_7, .inl (k_8, 64, .inl (fun _ => 0))), (q_9, .inl (k_10, 64, .inl (fun _ => 0))), (q_11, .inl (k_12, 64, .inl (fun _ => 0)))] := hD
  refine lv_aload_n hx hb dX2_init_52 rfl (lv_at hl 0 rfl) ?_
  refine lv_bipush (v := 16) hx hb dX2_init_53 (by decide) ?_
  refine va_newa (atype := .int) (ty := .int) (a0 := (16, .inl (fun _ => 0))) hx hb (hts (.arrayClass .int) w_356) rfl hK hP hD hS hA (fun _ => rfl) (by decide) (by decide) (Nat.le_of_ble_eq_true rfl) (Nat.le_of_ble_eq_true rfl) (Nat.le_of_ble_eq_true rfl) dX2_init_55 (fun q_13 k_14 H hK hP hD hS => ?_)
  have hP : va_P D vwCl [(h0, .inr (2, [.null, .null, .int 0, .ref q_1, .ref q_3, .ref q_5, .ref q_7, .ref q_9, .ref q_11, .null])), (q_1, .inl (k_2, 64, .inl (fun _ => 0))), (q_3, .inl (k_4, 64, .inl (fun _ => 0))), (q_5, .inl (k_6, 64, .inl (fun _ => 0))), (q_7, .inl (k_8, 64, .inl (fun _ => 0))), (q_9, .inl (k_10, 64, .inl (fun _ => 0))), (q_11, .inl (k_12, 64, .inl (fun _ => 0))), (q_13, .inl (k_14, 16, .inl (fun _ => 0)))] H := hP
  have hD : va_D A [(h0, .inr (2, [.null, .null, .int 0, .ref q_1, .ref q_3, .ref q_5, .ref q_7, .ref q_9, .ref q_11, .null])), (q_1, .inl (k_2, 64, .inl (fun _ => 0))), (q_3, .inl (k_4, 64, .inl (fun _ => 0))), (q_5, .inl (k_6, 64, .inl (fun _ => 0))), (q_7, .inl (k_8, 64, .inl (fun _ => 0))), (q_9, .inl (k_10, 64, .inl (fun _ => 0))), (q_11, .inl (k_12, 64, .inl (fun _ => 0))), (q_13, .inl (k_14, 16, .inl (fun _ => 0)))] := hD
  have hK : va_K D vwCl [(k_2, .int), (k_4, .int), (k_6, .int), (k_8, .int), (k_10, .int), (k_12, .int), (k_14, .int)] s := hK
  refine va_putF (D := D) (ci := 2) (v := .ref q_13) (ty := .array .int) (C := RX2) (T := TX2) (N := 10) hx hb hts inX2 tyX2 tyX2_ok nmX2 hown hK hP hD hS 0 rfl rfl 9 (by decide) (hts (.fieldLink RX2 30 "AbroadRouter$Chains" "front" "[I") w_374) (fun _ h9 => h9) rfl hin rfl (by decide +kernel) rfl rfl (Nat.le_of_ble_eq_true rfl) dX2_init_57 (fun H locs hP hD hS => ?_)
  have hP : va_P D vwCl [(h0, .inr (2, [.null, .null, .int 0, .ref q_1, .ref q_3, .ref q_5, .ref q_7, .ref q_9, .ref q_11, .ref q_13])), (q_1, .inl (k_2, 64, .inl (fun _ => 0))), (q_3, .inl (k_4, 64, .inl (fun _ => 0))), (q_5, .inl (k_6, 64, .inl (fun _ => 0))), (q_7, .inl (k_8, 64, .inl (fun _ => 0))), (q_9, .inl (k_10, 64, .inl (fun _ => 0))), (q_11, .inl (k_12, 64, .inl (fun _ => 0))), (q_13, .inl (k_14, 16, .inl (fun _ => 0)))] H := hP
  have hD : va_D A [(h0, .inr (2, [.null, .null, .int 0, .ref q_1, .ref q_3, .ref q_5, .ref q_7, .ref q_9, .ref q_11, .ref q_13])), (q_1, .inl (k_2, 64, .inl (fun _ => 0))), (q_3, .inl (k_4, 64, .inl (fun _ => 0))), (q_5, .inl (k_6, 64, .inl (fun _ => 0))), (q_7, .inl (k_8, 64, .inl (fun _ => 0))), (q_9, .inl (k_10, 64, .inl (fun _ => 0))), (q_11, .inl (k_12, 64, .inl (fun _ => 0))), (q_13, .inl (k_14, 16, .inl (fun _ => 0)))] := hD
  refine lv_aload_n hx hb dX2_init_60 rfl (lv_at hl 0 rfl) ?_
  refine lv_aload_n hx hb dX2_init_61 rfl (lv_at hl 1 rfl) ?_
  refine va_putF (D := D) (ci := 2) (v := .ref n) (ty := .object "AbroadRouter$Net") (C := RX2) (T := TX2) (N := 10) hx hb hts inX2 tyX2 tyX2_ok nmX2 hown hK hP hD hS 0 rfl rfl 0 (by decide) (hts (.fieldLink RX2 33 "AbroadRouter$Chains" "net" "LAbroadRouter$Net;") w_375) (fun _ h9 => h9) rfl hin rfl (by decide +kernel) rfl rfl (Nat.le_of_ble_eq_true rfl) dX2_init_62 (fun H locs hP hD hS => ?_)
  have hP : va_P D vwCl [(h0, .inr (2, [.ref n, .null, .int 0, .ref q_1, .ref q_3, .ref q_5, .ref q_7, .ref q_9, .ref q_11, .ref q_13])), (q_1, .inl (k_2, 64, .inl (fun _ => 0))), (q_3, .inl (k_4, 64, .inl (fun _ => 0))), (q_5, .inl (k_6, 64, .inl (fun _ => 0))), (q_7, .inl (k_8, 64, .inl (fun _ => 0))), (q_9, .inl (k_10, 64, .inl (fun _ => 0))), (q_11, .inl (k_12, 64, .inl (fun _ => 0))), (q_13, .inl (k_14, 16, .inl (fun _ => 0)))] H := hP
  have hD : va_D A [(h0, .inr (2, [.ref n, .null, .int 0, .ref q_1, .ref q_3, .ref q_5, .ref q_7, .ref q_9, .ref q_11, .ref q_13])), (q_1, .inl (k_2, 64, .inl (fun _ => 0))), (q_3, .inl (k_4, 64, .inl (fun _ => 0))), (q_5, .inl (k_6, 64, .inl (fun _ => 0))), (q_7, .inl (k_8, 64, .inl (fun _ => 0))), (q_9, .inl (k_10, 64, .inl (fun _ => 0))), (q_11, .inl (k_12, 64, .inl (fun _ => 0))), (q_13, .inl (k_14, 16, .inl (fun _ => 0)))] := hD
  refine W.widen (k := 7) (n := 400) (Nat.le_of_ble_eq_true rfl) (Nat.le_of_ble_eq_true rfl) ?_
  exact W.vret hx hb hr (fun t ht hW => ⟨⟨(), rfl, trivial, trivial⟩, hS.F ht⟩) hS.2.2 dX2_init_65
set_option maxRecDepth 100000 in
set_option maxHeartbeats 4000000 in
theorem c_new_X5 (l : Launch) (D : va_G) (a1 a2 sz : Nat) (h0 : Nat) : Met l yX5_init (Cond.code yX5_init cX5_init 1 none :: WS) ({ frames := 12, cells := 4, slots := 20, locals := 300 }) (va_Pc [.ref h0] (pre D a1 a2 [(h0, .inr (5, [.int 0, .null, .null, .null, .null]))] [] sz)) (va_Qv (S := Unit) (fun _ => True) (fun _ _ => True) (va_A [(h0, .inr (5, [.int 0, .null, .null, .null, .null]))] sz)) 4 20 (va_A [(h0, .inr (5, [.int 0, .null, .null, .null, .null]))] sz) := by
  refine open_Met (by decide +kernel) (Nat.le_of_ble_eq_true rfl) (fun A => va_Qv (S := Unit) (fun _ => True) (fun _ _ => True) A) ?_
  intro p e s m below meth c A ls hG
  obtain ⟨hx, hb, hr, hml, hown, hts, hlocks, hin, hP, hK, hD, hA, hE, hS, hl⟩ := hG
  have hown : s.vm.findClass RX5 = some m.cls := hown
  have hl : lv_has ls 1 [(0, .ref h0)] := hl
  refine lv_aload_n hx hb dX5_init_0 rfl (lv_at hl 0 rfl) ?_
  refine W.objInit hx hb hown (hts (.methodLink RX5 3 objectInit) w_376) (hts (.instanceMethod objectInit) w_284) (hts (.code objectInit ⟨#[0xb1]⟩ 1 none) w_285) rfl (by rw [hml]; exact hl.1) rfl dX5_init_1 (Nat.le_of_ble_eq_true rfl) (Nat.le_of_ble_eq_true rfl) ?_
  refine W.eq (g2 := F0 m 4 ls []) rfl ?_
  refine lv_aload_n hx hb dX5_init_4 rfl (lv_at hl 0 rfl) ?_
  refine lv_iconst (v := 5) hx hb dX5_init_5 (by decide) ?_
  refine va_newa (atype := .int) (ty := .int) (a0 := (5, .inl (fun _ => 0))) hx hb (hts (.arrayClass .int) w_356) rfl hK hP hD hS hA (fun _ => rfl) (by decide) (by decide) (Nat.le_of_ble_eq_true rfl) (Nat.le_of_ble_eq_true rfl) (Nat.le_of_ble_eq_true rfl) dX5_init_6 (fun q_1 k_2 H hK hP hD hS => ?_)
  have hP : va_P D vwCl [(h0, .inr (5, [.int 0, .null, .null, .null, .null])), (q_1, .inl (k_2, 5, .inl (fun _ => 0)))] H := hP
  have hD : va_D A [(h0, .inr (5, [.int 0, .null, .null, .null, .null])), (q_1, .inl (k_2, 5, .inl (fun _ => 0)))] := hD
  have hK : va_K D vwCl [(k_2, .int)] s := hK
  refine va_putF (D := D) (ci := 5) (v := .ref q_1) (ty := .array .int) (C := RX5) (T := TX5) (N := 5) hx hb hts inX5 tyX5 tyX5_ok nmX5 hown hK hP hD hS 0 rfl rfl 1 (by decide) (hts (.fieldLink RX5 9 "AbroadRouter$Legs" "by" "[I") w_377) (fun _ h9 => h9) rfl hin rfl (by decide +kernel) rfl rfl (Nat.le_of_ble_eq_true rfl) dX5_init_8 (fun H locs hP hD hS => ?_)
  have hP : va_P D vwCl [(h0, .inr (5, [.int 0, .ref q_1, .null, .null, .null])), (q_1, .inl (k_2, 5, .inl (fun _ => 0)))] H := hP
  have hD : va_D A [(h0, .inr (5, [.int 0, .ref q_1, .null, .null, .null])), (q_1, .inl (k_2, 5, .inl (fun _ => 0)))] := hD
  refine lv_aload_n hx hb dX5_init_11 rfl (lv_at hl 0 rfl) ?_
  refine lv_iconst (v := 5) hx hb dX5_init_12 (by decide) ?_
  refine va_newa (atype := .int) (ty := .int) (a0 := (5, .inl (fun _ => 0))) hx hb (hts (.arrayClass .int) w_356) rfl hK hP hD hS hA (fun _ => rfl) (by decide) (by decide) (Nat.le_of_ble_eq_true rfl) (Nat.le_of_ble_eq_true rfl) (Nat.le_of_ble_eq_true rfl) dX5_init_13 (fun q_3 k_4 H hK hP hD hS => ?_)
  have hP : va_P D vwCl [(h0, .inr (5, [.int 0, .ref q_1, .null, .null, .null])), (q_1, .inl (k_2, 5, .inl (fun _ => 0))), (q_3, .inl (k_4, 5, .inl (fun _ => 0)))] H := hP
  have hD : va_D A [(h0, .inr (5, [.int 0, .ref q_1, .null, .null, .null])), (q_1, .inl (k_2, 5, .inl (fun _ => 0))), (q_3, .inl (k_4, 5, .inl (fun _ => 0)))] := hD
  have hK : va_K D vwCl [(k_2, .int), (k_4, .int)] s := hK
  refine va_putF (D := D) (ci := 5) (v := .ref q_3) (ty := .array .int) (C := RX5) (T := TX5) (N := 5) hx hb hts inX5 tyX5 tyX5_ok nmX5 hown hK hP hD hS 0 rfl rfl 2 (by decide) (hts (.fieldLink RX5 15 "AbroadRouter$Legs" "leave" "[I") w_378) (fun _ h9 => h9) rfl hin rfl (by decide +kernel) rfl rfl (Nat.le_of_ble_eq_true rfl) dX5_init_15 (fun H locs hP hD hS => ?_)
  have hP : va_P D vwCl [(h0, .inr (5, [.int 0, .ref q_1, .ref q_3, .null, .null])), (q_1, .inl (k_2, 5, .inl (fun _ => 0))), (q_3, .inl (k_4, 5, .inl (fun _ => 0)))] H := hP
  have hD : va_D A [(h0, .inr (5, [.int 0, .ref q_1, .ref q_3, .null, .null])), (q_1, .inl (k_2, 5, .inl (fun _ => 0))), (q_3, .inl (k_4, 5, .inl (fun _ => 0)))] := hD
  refine lv_aload_n hx hb dX5_init_18 rfl (lv_at hl 0 rfl) ?_
  refine lv_iconst (v := 5) hx hb dX5_init_19 (by decide) ?_
  refine va_newa (atype := .int) (ty := .int) (a0 := (5, .inl (fun _ => 0))) hx hb (hts (.arrayClass .int) w_356) rfl hK hP hD hS hA (fun _ => rfl) (by decide) (by decide) (Nat.le_of_ble_eq_true rfl) (Nat.le_of_ble_eq_true rfl) (Nat.le_of_ble_eq_true rfl) dX5_init_20 (fun q_5 k_6 H hK hP hD hS => ?_)
  have hP : va_P D vwCl [(h0, .inr (5, [.int 0, .ref q_1, .ref q_3, .null, .null])), (q_1, .inl (k_2, 5, .inl (fun _ => 0))), (q_3, .inl (k_4, 5, .inl (fun _ => 0))), (q_5, .inl (k_6, 5, .inl (fun _ => 0)))] H := hP
  have hD : va_D A [(h0, .inr (5, [.int 0, .ref q_1, .ref q_3, .null, .null])), (q_1, .inl (k_2, 5, .inl (fun _ => 0))), (q_3, .inl (k_4, 5, .inl (fun _ => 0))), (q_5, .inl (k_6, 5, .inl (fun _ => 0)))] := hD
  have hK : va_K D vwCl [(k_2, .int), (k_4, .int), (k_6, .int)] s := hK
  refine va_putF (D := D) (ci := 5) (v := .ref q_5) (ty := .array .int) (C := RX5) (T := TX5) (N := 5) hx hb hts inX5 tyX5 tyX5_ok nmX5 hown hK hP hD hS 0 rfl rfl 3 (by decide) (hts (.fieldLink RX5 18 "AbroadRouter$Legs" "arrive" "[I") w_379) (fun _ h9 => h9) rfl hin rfl (by decide +kernel) rfl rfl (Nat.le_of_ble_eq_true rfl) dX5_init_22 (fun H locs hP hD hS => ?_)
  have hP : va_P D vwCl [(h0, .inr (5, [.int 0, .ref q_1, .ref q_3, .ref q_5, .null])), (q_1, .inl (k_2, 5, .inl (fun _ => 0))), (q_3, .inl (k_4, 5, .inl (fun _ => 0))), (q_5, .inl (k_6, 5, .inl (fun _ => 0)))] H := hP
  have hD : va_D A [(h0, .inr (5, [.int 0, .ref q_1, .ref q_3, .ref q_5, .null])), (q_1, .inl (k_2, 5, .inl (fun _ => 0))), (q_3, .inl (k_4, 5, .inl (fun _ => 0))), (q_5, .inl (k_6, 5, .inl (fun _ => 0)))] := hD
  refine lv_aload_n hx hb dX5_init_25 rfl (lv_at hl 0 rfl) ?_
  refine lv_iconst (v := 5) hx hb dX5_init_26 (by decide) ?_
  refine va_newa (atype := .int) (ty := .int) (a0 := (5, .inl (fun _ => 0))) hx hb (hts (.arrayClass .int) w_356) rfl hK hP hD hS hA (fun _ => rfl) (by decide) (by decide) (Nat.le_of_ble_eq_true rfl) (Nat.le_of_ble_eq_true rfl) (Nat.le_of_ble_eq_true rfl) dX5_init_27 (fun q_7 k_8 H hK hP hD hS => ?_)
  have hP : va_P D vwCl [(h0, .inr (5, [.int 0, .ref q_1, .ref q_3, .ref q_5, .null])), (q_1, .inl (k_2, 5, .inl (fun _ => 0))), (q_3, .inl (k_4, 5, .inl (fun _ => 0))), (q_5, .inl (k_6, 5, .inl (fun _ => 0))), (q_7, .inl (k_8, 5, .inl (fun _ => 0)))] H := hP
  have hD : va_D A [(h0, .inr (5, [.int 0, .ref q_1, .ref q_3, .ref q_5, .null])), (q_1, .inl (k_2, 5, .inl (fun _ => 0))), (q_3, .inl (k_4, 5, .inl (fun _ => 0))), (q_5, .inl (k_6, 5, .inl (fun _ => 0))), (q_7, .inl (k_8, 5, .inl (fun _ => 0)))] := hD
  have hK : va_K D vwCl [(k_2, .int), (k_4, .int), (k_6, .int), (k_8, .int)] s := hK
  refine va_putF (D := D) (ci := 5) (v := .ref q_7) (ty := .array .int) (C := RX5) (T := TX5) (N := 5) hx hb hts inX5 tyX5 tyX5_ok nmX5 hown hK hP hD hS 0 rfl rfl 4 (by decide) (hts (.fieldLink RX5 21 "AbroadRouter$Legs" "fee" "[I") w_380) (fun _ h9 => h9) rfl hin rfl (by decide +kernel) rfl rfl (Nat.le_of_ble_eq_true rfl) dX5_init_29 (fun H locs hP hD hS => ?_)
  have hP : va_P D vwCl [(h0, .inr (5, [.int 0, .ref q_1, .ref q_3, .ref q_5, .ref q_7])), (q_1, .inl (k_2, 5, .inl (fun _ => 0))), (q_3, .inl (k_4, 5, .inl (fun _ => 0))), (q_5, .inl (k_6, 5, .inl (fun _ => 0))), (q_7, .inl (k_8, 5, .inl (fun _ => 0)))] H := hP
  have hD : va_D A [(h0, .inr (5, [.int 0, .ref q_1, .ref q_3, .ref q_5, .ref q_7])), (q_1, .inl (k_2, 5, .inl (fun _ => 0))), (q_3, .inl (k_4, 5, .inl (fun _ => 0))), (q_5, .inl (k_6, 5, .inl (fun _ => 0))), (q_7, .inl (k_8, 5, .inl (fun _ => 0)))] := hD
  refine W.widen (k := 4) (n := 20) (Nat.le_of_ble_eq_true rfl) (Nat.le_of_ble_eq_true rfl) ?_
  exact W.vret hx hb hr (fun t ht hW => ⟨⟨(), rfl, trivial, trivial⟩, hS.F ht⟩) hS.2.2 dX5_init_32
set_option maxRecDepth 100000 in
set_option maxHeartbeats 4000000 in
theorem c_new_X6 (l : Launch) (D : va_G) (a1 a2 sz : Nat) (h0 : Nat) : Met l yX6_init (Cond.code yX6_init cX6_init 1 none :: WS) ({ frames := 12, cells := 4, slots := 86, locals := 300 }) (va_Pc [.ref h0] (pre D a1 a2 [(h0, .inr (6, [.null, .int 0, .null, .null, .int 0, .null, .int 0, .int 0]))] [] sz)) (va_Qv (S := (Nat → Nat) × ClassId) (fun _ => True) (fun u t => match u with | (gn, kP) => va_P D vwCl [(h0, .inr (6, [.ref (gn 0), .int 0, .ref (gn 2), .ref (gn 3), .int 0, .ref (gn 5), .int 0, .int 0])), (gn 0, .inl (kP, 6, .inr (.inr (.inr (.inr (fun _ => none))))))] t.heap ∧ va_K D vwCl [(kP, .object RX8)] t ∧ va_D (va_A [(h0, .inr (6, [.null, .int 0, .null, .null, .int 0, .null, .int 0, .int 0]))] sz) [(h0, .inr (6, [.ref (gn 0), .int 0, .ref (gn 2), .ref (gn 3), .int 0, .ref (gn 5), .int 0, .int 0])), (gn 0, .inl (kP, 6, .inr (.inr (.inr (.inr (fun _ => none))))))]) (va_A [(h0, .inr (6, [.null, .int 0, .null, .null, .int 0, .null, .int 0, .int 0]))] sz)) 4 86 (va_A [(h0, .inr (6, [.null, .int 0, .null, .null, .int 0, .null, .int 0, .int 0]))] sz) := by
  refine open_Met (by decide +kernel) (Nat.le_of_ble_eq_true rfl) (fun A => va_Qv (S := (Nat → Nat) × ClassId) (fun _ => True) (fun u t => match u with | (gn, kP) => va_P D vwCl [(h0, .inr (6, [.ref (gn 0), .int 0, .ref (gn 2), .ref (gn 3), .int 0, .ref (gn 5), .int 0, .int 0])), (gn 0, .inl (kP, 6, .inr (.inr (.inr (.inr (fun _ => none))))))] t.heap ∧ va_K D vwCl [(kP, .object RX8)] t ∧ va_D A [(h0, .inr (6, [.ref (gn 0), .int 0, .ref (gn 2), .ref (gn 3), .int 0, .ref (gn 5), .int 0, .int 0])), (gn 0, .inl (kP, 6, .inr (.inr (.inr (.inr (fun _ => none))))))]) A) ?_
  intro p e s m below meth c A ls hG
  obtain ⟨hx, hb, hr, hml, hown, hts, hlocks, hin, hP, hK, hD, hA, hE, hS, hl⟩ := hG
  have hown : s.vm.findClass RX6 = some m.cls := hown
  have hl : lv_has ls 1 [(0, .ref h0)] := hl
  refine lv_aload_n hx hb dX6_init_0 rfl (lv_at hl 0 rfl) ?_
  refine W.objInit hx hb hown (hts (.methodLink RX6 3 objectInit) w_381) (hts (.instanceMethod objectInit) w_284) (hts (.code objectInit ⟨#[0xb1]⟩ 1 none) w_285) rfl (by rw [hml]; exact hl.1) rfl dX6_init_1 (Nat.le_of_ble_eq_true rfl) (Nat.le_of_ble_eq_true rfl) ?_
  refine W.eq (g2 := F0 m 4 ls []) rfl ?_
  refine lv_aload_n hx hb dX6_init_4 rfl (lv_at hl 0 rfl) ?_
  refine lv_bipush (v := 6) hx hb dX6_init_5 (by decide) ?_
  refine va_newq (N' := 6) hx hb hown (hts (.classLink RX6 9 RX8) w_294) hE.1.2.2.2.2.1.1 hK hP hD hS hA (by decide) (by decide) (Nat.le_of_ble_eq_true rfl) (Nat.le_of_ble_eq_true rfl) (Nat.le_of_ble_eq_true rfl) dX6_init_7 (fun q_1 k_2 H hK hP hD hS => ?_)
  have hP : va_P D vwCl [(h0, .inr (6, [.null, .int 0, .null, .null, .int 0, .null, .int 0, .int 0])), (q_1, .inl (k_2, 6, .inr (.inr (.inr (.inr (fun _ => none))))))] H := hP
  have hD : va_D A [(h0, .inr (6, [.null, .int 0, .null, .null, .int 0, .null, .int 0, .int 0])), (q_1, .inl (k_2, 6, .inr (.inr (.inr (.inr (fun _ => none))))))] := hD
  have hK : va_K D vwCl [(k_2, .object RX8)] s := hK
  refine va_putF (D := D) (ci := 6) (v := .ref q_1) (ty := .array (.object "AbroadRouter$Place")) (C := RX6) (T := TX6) (N := 8) hx hb hts inX6 tyX6 tyX6_ok nmX6 hown hK hP hD hS 0 rfl rfl 0 (by decide) (hts (.fieldLink RX6 11 "AbroadRouter$Net" "places" "[LAbroadRouter$Place;") w_293) (fun _ h9 => h9) rfl hin rfl (by decide +kernel) rfl rfl (Nat.le_of_ble_eq_true rfl) dX6_init_10 (fun H locs hP hD hS => ?_)
  have hP : va_P D vwCl [(h0, .inr (6, [.ref q_1, .int 0, .null, .null, .int 0, .null, .int 0, .int 0])), (q_1, .inl (k_2, 6, .inr (.inr (.inr (.inr (fun _ => none))))))] H := hP
  have hD : va_D A [(h0, .inr (6, [.ref q_1, .int 0, .null, .null, .int 0, .null, .int 0, .int 0])), (q_1, .inl (k_2, 6, .inr (.inr (.inr (.inr (fun _ => none))))))] := hD
  refine lv_aload_n hx hb dX6_init_13 rfl (lv_at hl 0 rfl) ?_
  refine lv_bipush (v := 16) hx hb dX6_init_14 (by decide) ?_
  refine va_newa (atype := .int) (ty := .int) (a0 := (16, .inl (fun _ => 0))) hx hb (hts (.arrayClass .int) w_356) rfl hK hP hD hS hA (fun _ => rfl) (by decide) (by decide) (Nat.le_of_ble_eq_true rfl) (Nat.le_of_ble_eq_true rfl) (Nat.le_of_ble_eq_true rfl) dX6_init_16 (fun q_3 k_4 H hK hP hD hS => ?_)
  have hP : va_P D vwCl [(h0, .inr (6, [.ref q_1, .int 0, .null, .null, .int 0, .null, .int 0, .int 0])), (q_1, .inl (k_2, 6, .inr (.inr (.inr (.inr (fun _ => none)))))), (q_3, .inl (k_4, 16, .inl (fun _ => 0)))] H := hP
  have hD : va_D A [(h0, .inr (6, [.ref q_1, .int 0, .null, .null, .int 0, .null, .int 0, .int 0])), (q_1, .inl (k_2, 6, .inr (.inr (.inr (.inr (fun _ => none)))))), (q_3, .inl (k_4, 16, .inl (fun _ => 0)))] := hD
  have hK : va_K D vwCl [(k_2, .object RX8), (k_4, .int)] s := hK
  refine va_putF (D := D) (ci := 6) (v := .ref q_3) (ty := .array .int) (C := RX6) (T := TX6) (N := 8) hx hb hts inX6 tyX6 tyX6_ok nmX6 hown hK hP hD hS 0 rfl rfl 2 (by decide) (hts (.fieldLink RX6 17 "AbroadRouter$Net" "bankPlace" "[I") w_382) (fun _ h9 => h9) rfl hin rfl (by decide +kernel) rfl rfl (Nat.le_of_ble_eq_true rfl) dX6_init_18 (fun H locs hP hD hS => ?_)
  have hP : va_P D vwCl [(h0, .inr (6, [.ref q_1, .int 0, .ref q_3, .null, .int 0, .null, .int 0, .int 0])), (q_1, .inl (k_2, 6, .inr (.inr (.inr (.inr (fun _ => none)))))), (q_3, .inl (k_4, 16, .inl (fun _ => 0)))] H := hP
  have hD : va_D A [(h0, .inr (6, [.ref q_1, .int 0, .ref q_3, .null, .int 0, .null, .int 0, .int 0])), (q_1, .inl (k_2, 6, .inr (.inr (.inr (.inr (fun _ => none)))))), (q_3, .inl (k_4, 16, .inl (fun _ => 0)))] := hD
  refine lv_aload_n hx hb dX6_init_21 rfl (lv_at hl 0 rfl) ?_
  refine lv_bipush (v := 16) hx hb dX6_init_22 (by decide) ?_
  refine va_newa (atype := .long) (ty := .long) (a0 := (16, .inr (.inl (fun _ => 0)))) hx hb (hts (.arrayClass .long) w_383) rfl hK hP hD hS hA (fun _ => rfl) (by decide) (by decide) (Nat.le_of_ble_eq_true rfl) (Nat.le_of_ble_eq_true rfl) (Nat.le_of_ble_eq_true rfl) dX6_init_24 (fun q_5 k_6 H hK hP hD hS => ?_)
  have hP : va_P D vwCl [(h0, .inr (6, [.ref q_1, .int 0, .ref q_3, .null, .int 0, .null, .int 0, .int 0])), (q_1, .inl (k_2, 6, .inr (.inr (.inr (.inr (fun _ => none)))))), (q_3, .inl (k_4, 16, .inl (fun _ => 0))), (q_5, .inl (k_6, 16, .inr (.inl (fun _ => 0))))] H := hP
  have hD : va_D A [(h0, .inr (6, [.ref q_1, .int 0, .ref q_3, .null, .int 0, .null, .int 0, .int 0])), (q_1, .inl (k_2, 6, .inr (.inr (.inr (.inr (fun _ => none)))))), (q_3, .inl (k_4, 16, .inl (fun _ => 0))), (q_5, .inl (k_6, 16, .inr (.inl (fun _ => 0))))] := hD
  have hK : va_K D vwCl [(k_2, .object RX8), (k_4, .int), (k_6, .long)] s := hK
  refine va_putF (D := D) (ci := 6) (v := .ref q_5) (ty := .array .long) (C := RX6) (T := TX6) (N := 8) hx hb hts inX6 tyX6 tyX6_ok nmX6 hown hK hP hD hS 0 rfl rfl 3 (by decide) (hts (.fieldLink RX6 21 "AbroadRouter$Net" "goFrom" "[J") w_384) (fun _ h9 => h9) rfl hin rfl (by decide +kernel) rfl rfl (Nat.le_of_ble_eq_true rfl) dX6_init_26 (fun H locs hP hD hS => ?_)
  have hP : va_P D vwCl [(h0, .inr (6, [.ref q_1, .int 0, .ref q_3, .ref q_5, .int 0, .null, .int 0, .int 0])), (q_1, .inl (k_2, 6, .inr (.inr (.inr (.inr (fun _ => none)))))), (q_3, .inl (k_4, 16, .inl (fun _ => 0))), (q_5, .inl (k_6, 16, .inr (.inl (fun _ => 0))))] H := hP
  have hD : va_D A [(h0, .inr (6, [.ref q_1, .int 0, .ref q_3, .ref q_5, .int 0, .null, .int 0, .int 0])), (q_1, .inl (k_2, 6, .inr (.inr (.inr (.inr (fun _ => none)))))), (q_3, .inl (k_4, 16, .inl (fun _ => 0))), (q_5, .inl (k_6, 16, .inr (.inl (fun _ => 0))))] := hD
  refine lv_aload_n hx hb dX6_init_29 rfl (lv_at hl 0 rfl) ?_
  refine lv_bipush (v := 48) hx hb dX6_init_30 (by decide) ?_
  refine va_newq (N' := 48) hx hb hown (hts (.classLink RX6 25 RX0) w_385) hE.1.2.2.2.2.1.2.1 hK hP hD hS hA (by decide) (by decide) (Nat.le_of_ble_eq_true rfl) (Nat.le_of_ble_eq_true rfl) (Nat.le_of_ble_eq_true rfl) dX6_init_32 (fun q_7 k_8 H hK hP hD hS => ?_)
  have hP : va_P D vwCl [(h0, .inr (6, [.ref q_1, .int 0, .ref q_3, .ref q_5, .int 0, .null, .int 0, .int 0])), (q_1, .inl (k_2, 6, .inr (.inr (.inr (.inr (fun _ => none)))))), (q_3, .inl (k_4, 16, .inl (fun _ => 0))), (q_5, .inl (k_6, 16, .inr (.inl (fun _ => 0)))), (q_7, .inl (k_8, 48, .inr (.inr (.inr (.inr (fun _ => none))))))] H := hP
  have hD : va_D A [(h0, .inr (6, [.ref q_1, .int 0, .ref q_3, .ref q_5, .int 0, .null, .int 0, .int 0])), (q_1, .inl (k_2, 6, .inr (.inr (.inr (.inr (fun _ => none)))))), (q_3, .inl (k_4, 16, .inl (fun _ => 0))), (q_5, .inl (k_6, 16, .inr (.inl (fun _ => 0)))), (q_7, .inl (k_8, 48, .inr (.inr (.inr (.inr (fun _ => none))))))] := hD
  have hK : va_K D vwCl [(k_2, .object RX8), (k_4, .int), (k_6, .long), (k_8, .object RX0)] s := hK
  refine va_putF (D := D) (ci := 6) (v := .ref q_7) (ty := .array (.object "AbroadRouter$Account")) (C := RX6) (T := TX6) (N := 8) hx hb hts inX6 tyX6 tyX6_ok nmX6 hown hK hP hD hS 0 rfl rfl 5 (by decide) (hts (.fieldLink RX6 27 "AbroadRouter$Net" "accounts" "[LAbroadRouter$Account;") w_386) (fun _ h9 => h9) rfl hin rfl (by decide +kernel) rfl rfl (Nat.le_of_ble_eq_true rfl) dX6_init_35 (fun H locs hP hD hS => ?_)
  have hP : va_P D vwCl [(h0, .inr (6, [.ref q_1, .int 0, .ref q_3, .ref q_5, .int 0, .ref q_7, .int 0, .int 0])), (q_1, .inl (k_2, 6, .inr (.inr (.inr (.inr (fun _ => none)))))), (q_3, .inl (k_4, 16, .inl (fun _ => 0))), (q_5, .inl (k_6, 16, .inr (.inl (fun _ => 0)))), (q_7, .inl (k_8, 48, .inr (.inr (.inr (.inr (fun _ => none))))))] H := hP
  have hD : va_D A [(h0, .inr (6, [.ref q_1, .int 0, .ref q_3, .ref q_5, .int 0, .ref q_7, .int 0, .int 0])), (q_1, .inl (k_2, 6, .inr (.inr (.inr (.inr (fun _ => none)))))), (q_3, .inl (k_4, 16, .inl (fun _ => 0))), (q_5, .inl (k_6, 16, .inr (.inl (fun _ => 0)))), (q_7, .inl (k_8, 48, .inr (.inr (.inr (.inr (fun _ => none))))))] := hD
  have hP9 := hP.sub (ws' := [(h0, .inr (6, [.ref q_1, .int 0, .ref q_3, .ref q_5, .int 0, .ref q_7, .int 0, .int 0])), (q_1, .inl (k_2, 6, .inr (.inr (.inr (.inr (fun _ => none))))))]) [0, 1] rfl
  have hD9 := hD.sub (ws' := [(h0, .inr (6, [.ref q_1, .int 0, .ref q_3, .ref q_5, .int 0, .ref q_7, .int 0, .int 0])), (q_1, .inl (k_2, 6, .inr (.inr (.inr (.inr (fun _ => none))))))]) [0, 1] (by decide) rfl
  have hK9 := hK.sub (tys' := [(k_2, .object RX8)]) [0] rfl
  refine W.widen (k := 4) (n := 86) (Nat.le_of_ble_eq_true rfl) (Nat.le_of_ble_eq_true rfl) ?_
  exact W.vret hx hb hr (fun t ht hW => ⟨⟨((fun k => if k = 0 then q_1 else if k = 2 then q_3 else if k = 3 then q_5 else q_7), k_2), rfl, trivial, by rw [ht]; exact hP9, va_K.moved hW.alike hK9, hD9⟩, hS.F ht⟩) hS.2.2 dX6_init_38
set_option maxRecDepth 100000 in
set_option maxHeartbeats 4000000 in
theorem c_new_X1 (l : Launch) (D : va_G) (a1 a2 sz : Nat) (h0 n : Nat) : Met l yX1_init (Cond.code yX1_init cX1_init 2 none :: WS) ({ frames := 12, cells := 1, slots := 64, locals := 300 }) (va_Pc [.ref h0, .ref n] (pre D a1 a2 [(h0, .inr (1, [.null, .null, .int 0]))] [] sz)) (va_Qv (S := Nat → Nat) (fun _ => True) (fun gb t => wat D (va_A [(h0, .inr (1, [.null, .null, .int 0]))] sz) [(h0, .inr (1, [.ref n, .ref (gb 1), .int 0]))] t) (va_A [(h0, .inr (1, [.null, .null, .int 0]))] sz)) 1 64 (va_A [(h0, .inr (1, [.null, .null, .int 0]))] sz) := by
  refine open_Met (by decide +kernel) (Nat.le_of_ble_eq_true rfl) (fun A => va_Qv (S := Nat → Nat) (fun _ => True) (fun gb t => wat D A [(h0, .inr (1, [.ref n, .ref (gb 1), .int 0]))] t) A) ?_
  intro p e s m below meth c A ls hG
  obtain ⟨hx, hb, hr, hml, hown, hts, hlocks, hin, hP, hK, hD, hA, hE, hS, hl⟩ := hG
  have hown : s.vm.findClass RX1 = some m.cls := hown
  have hl : lv_has ls 2 [(0, .ref h0), (1, .ref n)] := hl
  refine lv_aload_n hx hb dX1_init_0 rfl (lv_at hl 0 rfl) ?_
  refine W.objInit hx hb hown (hts (.methodLink RX1 3 objectInit) w_387) (hts (.instanceMethod objectInit) w_284) (hts (.code objectInit ⟨#[0xb1]⟩ 1 none) w_285) rfl (by rw [hml]; exact hl.1) rfl dX1_init_1 (Nat.le_of_ble_eq_true rfl) (Nat.le_of_ble_eq_true rfl) ?_
  refine W.eq (g2 := F0 m 4 ls []) rfl ?_
  refine lv_aload_n hx hb dX1_init_4 rfl (lv_at hl 0 rfl) ?_
  refine lv_bipush (v := 64) hx hb dX1_init_5 (by decide) ?_
  refine va_newq (N' := 64) hx hb hown (hts (.classLink RX1 9 RX7) w_388) hE.1.2.2.2.2.1.2.2 hK hP hD hS hA (by decide) (by decide) (Nat.le_of_ble_eq_true rfl) (Nat.le_of_ble_eq_true rfl) (Nat.le_of_ble_eq_true rfl) dX1_init_7 (fun q_1 k_2 H hK hP hD hS => ?_)
  have hP : va_P D vwCl [(h0, .inr (1, [.null, .null, .int 0])), (q_1, .inl (k_2, 64, .inr (.inr (.inr (.inr (fun _ => none))))))] H := hP
  have hD : va_D A [(h0, .inr (1, [.null, .null, .int 0])), (q_1, .inl (k_2, 64, .inr (.inr (.inr (.inr (fun _ => none))))))] := hD
  have hK : va_K D vwCl [(k_2, .object RX7)] s := hK
  refine va_putF (D := D) (ci := 1) (v := .ref q_1) (ty := .array (.object "AbroadRouter$Payment")) (C := RX1) (T := TX1) (N := 3) hx hb hts inX1 tyX1 tyX1_ok nmX1 hown hK hP hD hS 0 rfl rfl 1 (by decide) (hts (.fieldLink RX1 11 "AbroadRouter$Book" "payments" "[LAbroadRouter$Payment;") w_389) (fun _ h9 => h9) rfl hin rfl (by decide +kernel) rfl rfl (Nat.le_of_ble_eq_true rfl) dX1_init_10 (fun H locs hP hD hS => ?_)
  have hP : va_P D vwCl [(h0, .inr (1, [.null, .ref q_1, .int 0])), (q_1, .inl (k_2, 64, .inr (.inr (.inr (.inr (fun _ => none))))))] H := hP
  have hD : va_D A [(h0, .inr (1, [.null, .ref q_1, .int 0])), (q_1, .inl (k_2, 64, .inr (.inr (.inr (.inr (fun _ => none))))))] := hD
  refine lv_aload_n hx hb dX1_init_13 rfl (lv_at hl 0 rfl) ?_
  refine lv_aload_n hx hb dX1_init_14 rfl (lv_at hl 1 rfl) ?_
  refine va_putF (D := D) (ci := 1) (v := .ref n) (ty := .object "AbroadRouter$Net") (C := RX1) (T := TX1) (N := 3) hx hb hts inX1 tyX1 tyX1_ok nmX1 hown hK hP hD hS 0 rfl rfl 0 (by decide) (hts (.fieldLink RX1 17 "AbroadRouter$Book" "net" "LAbroadRouter$Net;") w_390) (fun _ h9 => h9) rfl hin rfl (by decide +kernel) rfl rfl (Nat.le_of_ble_eq_true rfl) dX1_init_15 (fun H locs hP hD hS => ?_)
  have hP : va_P D vwCl [(h0, .inr (1, [.ref n, .ref q_1, .int 0])), (q_1, .inl (k_2, 64, .inr (.inr (.inr (.inr (fun _ => none))))))] H := hP
  have hD : va_D A [(h0, .inr (1, [.ref n, .ref q_1, .int 0])), (q_1, .inl (k_2, 64, .inr (.inr (.inr (.inr (fun _ => none))))))] := hD
  refine W.widen (k := 1) (n := 64) (Nat.le_of_ble_eq_true rfl) (Nat.le_of_ble_eq_true rfl) ?_
  exact W.vret hx hb hr (fun t ht hW => ⟨⟨(fun _ => q_1), rfl, trivial, ⟨by rw [ht]; exact hP.sub (ws' := [(h0, .inr (1, [.ref n, .ref q_1, .int 0]))]) [0] rfl, hD.sub (ws' := [(h0, .inr (1, [.ref n, .ref q_1, .int 0]))]) [0] (by decide) rfl⟩⟩, hS.F ht⟩) hS.2.2 dX1_init_18
