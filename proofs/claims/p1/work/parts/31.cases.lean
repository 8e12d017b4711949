set_option maxRecDepth 100000 in
set_option maxHeartbeats 4000000 in
theorem case_1 {p : Program} {l : Launch} (hl9 : l.stackTraces = false) {e : Env} {s : State} {m : MethodId} {below : List Frame} {meth : Method} {c : Code} {D : va_G} {a1 a2 b : Nat} {xs : Nat → Int32} {H : Heap} {locs : List Loc} {ls : Array Slot} (h0 h1 h2 : Nat) (g gn gb : Nat → Nat) (kP : ClassId) (hm hr rr : Nat) (gm : Nat → Nat) (kI kA kY : ClassId) (F : Nat → Option Nat) (o : Nat) (kL : ClassId) (hG : LawSt D a1 a2 p s m meth c b xs H locs ls h0 h1 h2 g gn gb kP hm hr rr gm kI kA kY F o kL) : W p l e room_1 s m #[Value.ref b] below meth c H locs 5338 65502 (lw_Z below #[Value.ref b] s) (F0 m 364 ls []) := by
  obtain ⟨hx, hb, hr_, hml, hown, hts, hX, hbl, hlocks, hP, hK, hD, hA, hE, hS, hF, hl⟩ := hG
  have hbA : ¬ (fun q : Nat => s.heap.size ≤ q) b := Nat.not_le.mpr hbl
  refine lv_aload_n hx hb dL_law_364 rfl (lv_at hl 3 rfl) ?_
  refine lv_aload_n hx hb dL_law_365 rfl (lv_at hl 4 rfl) ?_
  refine lv_iload hx hb dL_law_366 (lv_at hl 0 rfl) ?_
  refine lv_iconst (v := 1) hx hb dL_law_368 (by decide) ?_
  refine lv_iadd hx hb dL_law_369 ?_
  refine lv_topi (fun x_1 ex_1 => ?_)
  obtain rfl : x_1 = 1 := ex_1.trans (by decide)
  refine va_sld hx hb hX hbl hbA hS (i := 1) (by unfold vp_in; decide) dL_law_370 ?_
  refine W.eq (g2 := F0 m 371 ls [.int (xs 1), .ref h0]) rfl ?_
  refine lv_aload_n hx hb dL_law_371 rfl (lv_at hl 4 rfl) ?_
  refine lv_iload hx hb dL_law_372 (lv_at hl 0 rfl) ?_
  refine lv_iconst (v := 2) hx hb dL_law_374 (by decide) ?_
  refine lv_iadd hx hb dL_law_375 ?_
  refine lv_topi (fun x_2 ex_2 => ?_)
  obtain rfl : x_2 = 2 := ex_2.trans (by decide)
  refine va_sld hx hb hX hbl hbA hS (i := 2) (by unfold vp_in; decide) dL_law_376 ?_
  refine W.eq (g2 := F0 m 377 ls [.int (xs 2), .int (xs 1), .ref h0]) rfl ?_
  refine lv_aload_n hx hb dL_law_377 rfl (lv_at hl 1 rfl) ?_
  have f_3 := free_of (wc := [(h0, .inr (11, [.ref h1, .ref h2, .ref (g 2), .ref (g 3), .ref (g 4), .ref (g 5), .ref (g 6), .int 0, .int 0, .int 0, .int 0])), (h1, .inr (6, [.ref (gn 0), .int 0, .ref (gn 2), .ref (gn 3), .int 0, .ref (gn 5), .int 0, .int 0])), (h2, .inr (1, [.ref h1, .ref (gb 1), .int 0]))]) hD hS hA [0, 1, 2] rfl
  refine vx_calli (vx_runSX (As := [.ref h0, .int (xs 1), .int (xs 2), .ref o]) (rest := []) ⟨hx, hb, hml, hown, hts⟩ (c_h_holiday l hl9 D a1 a2 H.size h0 h1 h2 g gn gb (xs 1) (xs 2) o) (vx_cwSW 4 hts (gSW w_451 w_452 w_450 w_453) rfl rfl rfl (by decide +kernel) ⟨Nat.le_of_ble_eq_true rfl, Nat.le_of_ble_eq_true rfl⟩) (pre_S hK hP hD hS hA hE [0, 1, 2] rfl (by decide) rfl [] rfl) rfl rfl hl.1 rfl (lv_room (Nat.le_of_ble_eq_true rfl)) dL_law_378 ⟨Nat.le_of_ble_eq_true rfl, Nat.le_of_ble_eq_true rfl⟩) hS (fun q _ h => f_3 q h) f_3 (fun q _ h => f_3 q h) (fun E ce q9 u9 t H locs ht hvm hw hB hz1 hk1 hS hce hcv hcl => False.elim hw) (fun r_4 u_5 t H1 locs ht hvm h_6 hB hz1 hk1 hS => ?_)
  obtain ⟨hP, hD⟩ := join (wc := [(h0, .inr (11, [.ref h1, .ref h2, .ref (g 2), .ref (g 3), .ref (g 4), .ref (g 5), .ref (g 6), .int 0, .int 0, .int 0, .int 0])), (h1, .inr (6, [.ref (gn 0), .int 0, .ref (gn 2), .ref (gn 3), .int 0, .ref (gn 5), .int 0, .int 0])), (h2, .inr (1, [.ref h1, .ref (gb 1), .int 0]))]) (wr := [(gn 0, .inl (kP, 6, .inr (.inr (.inr (.inr (fun _ => none)))))), (hm, .inr (12, [.int 0, .ref hr, .int 0, .int 0, .int 0, .int 0, .int 0, .ref (gm 7), .ref (gm 8), .ref (gm 9), .ref (gm 10), .ref (gm 11), .ref (gm 12), .ref (gm 13), .ref (gm 14), .int 0, .ref (gm 16), .int 0, .int 0, .int 0, .ref (gm 20), .ref (gm 21), .int 0, .int 0, .int 0, .int 0, .int 0, .int 0, .ref (gm 28), .ref (gm 29)])), (hr, .inl (kI, 2, .inl (fun _ => 0))), (gm 7, .inl (kA, 6, .inr (.inr (.inr (.inr F))))), (rr, .inl (kY, 5, .inl (fun _ => 0))), (o, .inl (kL, 1, .inr (.inl (fun _ => 0))))]) (w1 := []) hP hD f_3 [0, 1, 2] [3, 4, 5, 6, 7, 8] rfl rfl (by decide) (by decide) hk1 ht wat_nil
  generalize H1 = H at hP hS ⊢
  have hP : va_P D vwCl [(gn 0, .inl (kP, 6, .inr (.inr (.inr (.inr (fun _ => none)))))), (hm, .inr (12, [.int 0, .ref hr, .int 0, .int 0, .int 0, .int 0, .int 0, .ref (gm 7), .ref (gm 8), .ref (gm 9), .ref (gm 10), .ref (gm 11), .ref (gm 12), .ref (gm 13), .ref (gm 14), .int 0, .ref (gm 16), .int 0, .int 0, .int 0, .ref (gm 20), .ref (gm 21), .int 0, .int 0, .int 0, .int 0, .int 0, .int 0, .ref (gm 28), .ref (gm 29)])), (hr, .inl (kI, 2, .inl (fun _ => 0))), (gm 7, .inl (kA, 6, .inr (.inr (.inr (.inr F))))), (rr, .inl (kY, 5, .inl (fun _ => 0))), (o, .inl (kL, 1, .inr (.inl (fun _ => 0))))] H := hP
  have hD : va_D (fun q : Nat => s.heap.size ≤ q) [(gn 0, .inl (kP, 6, .inr (.inr (.inr (.inr (fun _ => none)))))), (hm, .inr (12, [.int 0, .ref hr, .int 0, .int 0, .int 0, .int 0, .int 0, .ref (gm 7), .ref (gm 8), .ref (gm 9), .ref (gm 10), .ref (gm 11), .ref (gm 12), .ref (gm 13), .ref (gm 14), .int 0, .ref (gm 16), .int 0, .int 0, .int 0, .ref (gm 20), .ref (gm 21), .int 0, .int 0, .int 0, .int 0, .int 0, .int 0, .ref (gm 28), .ref (gm 29)])), (hr, .inl (kI, 2, .inl (fun _ => 0))), (gm 7, .inl (kA, 6, .inr (.inr (.inr (.inr F))))), (rr, .inl (kY, 5, .inl (fun _ => 0))), (o, .inl (kL, 1, .inr (.inl (fun _ => 0))))] := hD
  obtain rfl := h_6
  refine lv_istore (lv' := [(5, .int 1), (4, .int 0), (3, .ref o), (2, .ref hm), (1, .ref h0), (0, .ref b)]) hx hb dL_law_381 hl (by decide) rfl (fun ls hl => ?_)
  refine lv_aload_n hx hb dL_law_383 rfl (lv_at hl 3 rfl) ?_
  refine lv_aload_n hx hb dL_law_384 rfl (lv_at hl 5 rfl) ?_
  refine lv_iload hx hb dL_law_385 (lv_at hl 1 rfl) ?_
  refine lv_iconst (v := 1) hx hb dL_law_387 (by decide) ?_
  refine lv_iadd hx hb dL_law_388 ?_
  refine lv_topi (fun x_7 ex_7 => ?_)
  obtain rfl : x_7 = 1 := ex_7.trans (by decide)
  refine va_sld hx hb hX hbl hbA hS (i := 1) (by unfold vp_in; decide) dL_law_389 ?_
  refine W.eq (g2 := F0 m 390 ls [.int (xs 1), .ref hm]) rfl ?_
  refine lv_aload_n hx hb dL_law_390 rfl (lv_at hl 5 rfl) ?_
  refine lv_iload hx hb dL_law_391 (lv_at hl 1 rfl) ?_
  refine lv_iconst (v := 2) hx hb dL_law_393 (by decide) ?_
  refine lv_iadd hx hb dL_law_394 ?_
  refine lv_topi (fun x_8 ex_8 => ?_)
  obtain rfl : x_8 = 2 := ex_8.trans (by decide)
  refine va_sld hx hb hX hbl hbA hS (i := 2) (by unfold vp_in; decide) dL_law_395 ?_
  refine W.eq (g2 := F0 m 396 ls [.int (xs 2), .int (xs 1), .ref hm]) rfl ?_
  have f_9 := free_of (wc := [(hm, .inr (12, [.int 0, .ref hr, .int 0, .int 0, .int 0, .int 0, .int 0, .ref (gm 7), .ref (gm 8), .ref (gm 9), .ref (gm 10), .ref (gm 11), .ref (gm 12), .ref (gm 13), .ref (gm 14), .int 0, .ref (gm 16), .int 0, .int 0, .int 0, .ref (gm 20), .ref (gm 21), .int 0, .int 0, .int 0, .int 0, .int 0, .int 0, .ref (gm 28), .ref (gm 29)])), (hr, .inl (kI, 2, .inl (fun _ => 0)))]) hD hS hA [1, 2] rfl
  refine va_calli (va_runV (As := [.int (xs 1), .int (xs 2)]) (rest := []) ⟨hx, hb, hml, hown, hts⟩ (c_m_holiday l D a1 a2 H.size hm hr gm kI (xs 1) (xs 2)) (cwV 2 hts (gV w_454 w_455 w_456 w_244 w_457) rfl rfl rfl (by decide +kernel) ⟨Nat.le_of_ble_eq_true rfl, Nat.le_of_ble_eq_true rfl⟩) (pre_V hK hP hD hS hA hE [1, 2] rfl (by decide) rfl [1] rfl (ci := 12) (q0 := 1) rfl rfl) rfl rfl hl.1 rfl (lv_room (Nat.le_of_ble_eq_true rfl)) dL_law_396 ⟨Nat.le_of_ble_eq_true rfl, Nat.le_of_ble_eq_true rfl⟩) hS (fun q _ h => f_9 q h) f_9 (fun r_10 u_11 t H1 locs ht hvm h_12 hB hz1 hk1 hS => ?_)
  obtain ⟨hP, hD⟩ := join (wc := [(hm, .inr (12, [.int 0, .ref hr, .int 0, .int 0, .int 0, .int 0, .int 0, .ref (gm 7), .ref (gm 8), .ref (gm 9), .ref (gm 10), .ref (gm 11), .ref (gm 12), .ref (gm 13), .ref (gm 14), .int 0, .ref (gm 16), .int 0, .int 0, .int 0, .ref (gm 20), .ref (gm 21), .int 0, .int 0, .int 0, .int 0, .int 0, .int 0, .ref (gm 28), .ref (gm 29)])), (hr, .inl (kI, 2, .inl (fun _ => 0)))]) (wr := [(gn 0, .inl (kP, 6, .inr (.inr (.inr (.inr (fun _ => none)))))), (gm 7, .inl (kA, 6, .inr (.inr (.inr (.inr F))))), (rr, .inl (kY, 5, .inl (fun _ => 0))), (o, .inl (kL, 1, .inr (.inl (fun _ => 0))))]) (w1 := [(hm, .inr (12, u_11))]) hP hD f_9 [1, 2] [0, 3, 4, 5] rfl rfl (by decide) (by decide) hk1 ht hB
  generalize H1 = H at hP hS ⊢
  have hP : va_P D vwCl [(gn 0, .inl (kP, 6, .inr (.inr (.inr (.inr (fun _ => none)))))), (gm 7, .inl (kA, 6, .inr (.inr (.inr (.inr F))))), (rr, .inl (kY, 5, .inl (fun _ => 0))), (o, .inl (kL, 1, .inr (.inl (fun _ => 0)))), (hm, .inr (12, u_11))] H := hP
  have hD : va_D (fun q : Nat => s.heap.size ≤ q) [(gn 0, .inl (kP, 6, .inr (.inr (.inr (.inr (fun _ => none)))))), (gm 7, .inl (kA, 6, .inr (.inr (.inr (.inr F))))), (rr, .inl (kY, 5, .inl (fun _ => 0))), (o, .inl (kL, 1, .inr (.inl (fun _ => 0)))), (hm, .inr (12, u_11))] := hD
  refine lv_istore (lv' := [(6, .int r_10), (5, .int 1), (4, .int 0), (3, .ref o), (2, .ref hm), (1, .ref h0), (0, .ref b)]) hx hb dL_law_399 hl (by decide) rfl (fun ls hl => ?_)
  refine lv_aload_n hx hb dL_law_401 rfl (lv_at hl 4 rfl) ?_
  have f_13 := free_of (wc := [(hm, .inr (12, u_11))]) hD hS hA [4] rfl
  refine va_calli (va_runV (As := []) (rest := []) ⟨hx, hb, hml, hown, hts⟩ (c_thrown l D a1 a2 H.size hm u_11 1 h_12) (cwV 0 hts (gV w_458 w_459 w_460 w_244 w_461) rfl rfl rfl (by decide +kernel) ⟨Nat.le_of_ble_eq_true rfl, Nat.le_of_ble_eq_true rfl⟩) (pre_V hK hP hD hS hA hE [4] rfl (by decide) rfl [] rfl (ci := 12) (q0 := 4) rfl rfl) rfl rfl hl.1 rfl (lv_room (Nat.le_of_ble_eq_true rfl)) dL_law_402 ⟨Nat.le_of_ble_eq_true rfl, Nat.le_of_ble_eq_true rfl⟩) hS (fun q _ h => f_13 q h) f_13 (fun r_14 u_15 t H1 locs ht hvm h_16 hB hz1 hk1 hS => ?_)
  obtain ⟨hP, hD⟩ := join (wc := [(hm, .inr (12, u_11))]) (wr := [(gn 0, .inl (kP, 6, .inr (.inr (.inr (.inr (fun _ => none)))))), (gm 7, .inl (kA, 6, .inr (.inr (.inr (.inr F))))), (rr, .inl (kY, 5, .inl (fun _ => 0))), (o, .inl (kL, 1, .inr (.inl (fun _ => 0))))]) (w1 := [(hm, .inr (12, u_11))]) hP hD f_13 [4] [0, 1, 2, 3] rfl rfl (by decide) (by decide) hk1 ht hB
  generalize H1 = H at hP hS ⊢
  have hP : va_P D vwCl [(gn 0, .inl (kP, 6, .inr (.inr (.inr (.inr (fun _ => none)))))), (gm 7, .inl (kA, 6, .inr (.inr (.inr (.inr F))))), (rr, .inl (kY, 5, .inl (fun _ => 0))), (o, .inl (kL, 1, .inr (.inl (fun _ => 0)))), (hm, .inr (12, u_11))] H := hP
  have hD : va_D (fun q : Nat => s.heap.size ≤ q) [(gn 0, .inl (kP, 6, .inr (.inr (.inr (.inr (fun _ => none)))))), (gm 7, .inl (kA, 6, .inr (.inr (.inr (.inr F))))), (rr, .inl (kY, 5, .inl (fun _ => 0))), (o, .inl (kL, 1, .inr (.inl (fun _ => 0)))), (hm, .inr (12, u_11))] := hD
  obtain rfl := h_16
  refine lv_iload hx hb dL_law_405 (lv_at hl 1 rfl) ?_
  refine lv_icmp_eq (tgt := 412) hx hb dL_law_407 (by decide) (fun _ => ?_) (fun c => absurd (by decide) c)
  refine lv_iload hx hb dL_law_412 (lv_at hl 1 rfl) ?_
  refine lv_if_ne (tgt := 429) hx hb dL_law_414 (by decide) (fun _ => ?_) (fun c => absurd c (by decide))
  refine lv_goto (tgt := 3913) hx hb dL_law_429 (by decide) ?_
  exact law_tail hx hb hr_ hlocks hX hbl hS (Nat.le_of_ble_eq_true rfl) (Nat.le_of_ble_eq_true rfl) (lv_sub hl [2, 6] rfl)
set_option maxRecDepth 100000 in
set_option maxHeartbeats 4000000 in
theorem case_2 {p : Program} {l : Launch} (hl9 : l.stackTraces = false) {e : Env} {s : State} {m : MethodId} {below : List Frame} {meth : Method} {c : Code} {D : va_G} {a1 a2 b : Nat} {xs : Nat → Int32} {H : Heap} {locs : List Loc} {ls : Array Slot} (h0 h1 h2 : Nat) (g gn gb : Nat → Nat) (kP : ClassId) (hm hr rr : Nat) (gm : Nat → Nat) (kI kA kY : ClassId) (F : Nat → Option Nat) (o : Nat) (kL : ClassId) (hG : LawSt D a1 a2 p s m meth c b xs H locs ls h0 h1 h2 g gn gb kP hm hr rr gm kI kA kY F o kL) : W p l e room_1 s m #[Value.ref b] below meth c H locs 5338 65502 (lw_Z below #[Value.ref b] s) (F0 m 432 ls []) := by
  obtain ⟨hx, hb, hr_, hml, hown, hts, hX, hbl, hlocks, hP, hK, hD, hA, hE, hS, hF, hl⟩ := hG
  have hbA : ¬ (fun q : Nat => s.heap.size ≤ q) b := Nat.not_le.mpr hbl
  refine lv_aload_n hx hb dL_law_432 rfl (lv_at hl 3 rfl) ?_
  refine lv_aload_n hx hb dL_law_433 rfl (lv_at hl 4 rfl) ?_
  refine lv_iload hx hb dL_law_434 (lv_at hl 0 rfl) ?_
  refine lv_iconst (v := 1) hx hb dL_law_436 (by decide) ?_
  refine lv_iadd hx hb dL_law_437 ?_
  refine lv_topi (fun x_1 ex_1 => ?_)
  obtain rfl : x_1 = 1 := ex_1.trans (by decide)
  refine va_sld hx hb hX hbl hbA hS (i := 1) (by unfold vp_in; decide) dL_law_438 ?_
  refine W.eq (g2 := F0 m 439 ls [.int (xs 1), .ref h0]) rfl ?_
  refine lv_aload_n hx hb dL_law_439 rfl (lv_at hl 1 rfl) ?_
  have f_2 := free_of (wc := [(h0, .inr (11, [.ref h1, .ref h2, .ref (g 2), .ref (g 3), .ref (g 4), .ref (g 5), .ref (g 6), .int 0, .int 0, .int 0, .int 0])), (h1, .inr (6, [.ref (gn 0), .int 0, .ref (gn 2), .ref (gn 3), .int 0, .ref (gn 5), .int 0, .int 0])), (h2, .inr (1, [.ref h1, .ref (gb 1), .int 0]))]) hD hS hA [0, 1, 2] rfl
  refine vx_calli (vx_runSX (As := [.ref h0, .int (xs 1), .ref o]) (rest := []) ⟨hx, hb, hml, hown, hts⟩ (c_h_bank l hl9 D a1 a2 H.size h0 h1 h2 g gn gb (xs 1) o) (vx_cwSW 3 hts (gSW w_462 w_463 w_450 w_464) rfl rfl rfl (by decide +kernel) ⟨Nat.le_of_ble_eq_true rfl, Nat.le_of_ble_eq_true rfl⟩) (pre_S hK hP hD hS hA hE [0, 1, 2] rfl (by decide) rfl [] rfl) rfl rfl hl.1 rfl (lv_room (Nat.le_of_ble_eq_true rfl)) dL_law_440 ⟨Nat.le_of_ble_eq_true rfl, Nat.le_of_ble_eq_true rfl⟩) hS (fun q _ h => f_2 q h) f_2 (fun q _ h => f_2 q h) (fun E ce q9 u9 t H locs ht hvm hw hB hz1 hk1 hS hce hcv hcl => False.elim hw) (fun r_3 u_4 t H1 locs ht hvm h_5 hB hz1 hk1 hS => ?_)
  obtain ⟨hP, hD⟩ := join (wc := [(h0, .inr (11, [.ref h1, .ref h2, .ref (g 2), .ref (g 3), .ref (g 4), .ref (g 5), .ref (g 6), .int 0, .int 0, .int 0, .int 0])), (h1, .inr (6, [.ref (gn 0), .int 0, .ref (gn 2), .ref (gn 3), .int 0, .ref (gn 5), .int 0, .int 0])), (h2, .inr (1, [.ref h1, .ref (gb 1), .int 0]))]) (wr := [(gn 0, .inl (kP, 6, .inr (.inr (.inr (.inr (fun _ => none)))))), (hm, .inr (12, [.int 0, .ref hr, .int 0, .int 0, .int 0, .int 0, .int 0, .ref (gm 7), .ref (gm 8), .ref (gm 9), .ref (gm 10), .ref (gm 11), .ref (gm 12), .ref (gm 13), .ref (gm 14), .int 0, .ref (gm 16), .int 0, .int 0, .int 0, .ref (gm 20), .ref (gm 21), .int 0, .int 0, .int 0, .int 0, .int 0, .int 0, .ref (gm 28), .ref (gm 29)])), (hr, .inl (kI, 2, .inl (fun _ => 0))), (gm 7, .inl (kA, 6, .inr (.inr (.inr (.inr F))))), (rr, .inl (kY, 5, .inl (fun _ => 0))), (o, .inl (kL, 1, .inr (.inl (fun _ => 0))))]) (w1 := []) hP hD f_2 [0, 1, 2] [3, 4, 5, 6, 7, 8] rfl rfl (by decide) (by decide) hk1 ht wat_nil
  generalize H1 = H at hP hS ⊢
  have hP : va_P D vwCl [(gn 0, .inl (kP, 6, .inr (.inr (.inr (.inr (fun _ => none)))))), (hm, .inr (12, [.int 0, .ref hr, .int 0, .int 0, .int 0, .int 0, .int 0, .ref (gm 7), .ref (gm 8), .ref (gm 9), .ref (gm 10), .ref (gm 11), .ref (gm 12), .ref (gm 13), .ref (gm 14), .int 0, .ref (gm 16), .int 0, .int 0, .int 0, .ref (gm 20), .ref (gm 21), .int 0, .int 0, .int 0, .int 0, .int 0, .int 0, .ref (gm 28), .ref (gm 29)])), (hr, .inl (kI, 2, .inl (fun _ => 0))), (gm 7, .inl (kA, 6, .inr (.inr (.inr (.inr F))))), (rr, .inl (kY, 5, .inl (fun _ => 0))), (o, .inl (kL, 1, .inr (.inl (fun _ => 0))))] H := hP
  have hD : va_D (fun q : Nat => s.heap.size ≤ q) [(gn 0, .inl (kP, 6, .inr (.inr (.inr (.inr (fun _ => none)))))), (hm, .inr (12, [.int 0, .ref hr, .int 0, .int 0, .int 0, .int 0, .int 0, .ref (gm 7), .ref (gm 8), .ref (gm 9), .ref (gm 10), .ref (gm 11), .ref (gm 12), .ref (gm 13), .ref (gm 14), .int 0, .ref (gm 16), .int 0, .int 0, .int 0, .ref (gm 20), .ref (gm 21), .int 0, .int 0, .int 0, .int 0, .int 0, .int 0, .ref (gm 28), .ref (gm 29)])), (hr, .inl (kI, 2, .inl (fun _ => 0))), (gm 7, .inl (kA, 6, .inr (.inr (.inr (.inr F))))), (rr, .inl (kY, 5, .inl (fun _ => 0))), (o, .inl (kL, 1, .inr (.inl (fun _ => 0))))] := hD
  obtain rfl := h_5
  refine lv_istore (lv' := [(5, .int 1), (4, .int 0), (3, .ref o), (2, .ref hm), (1, .ref h0), (0, .ref b)]) hx hb dL_law_443 hl (by decide) rfl (fun ls hl => ?_)
  refine lv_aload_n hx hb dL_law_445 rfl (lv_at hl 3 rfl) ?_
  refine lv_aload_n hx hb dL_law_446 rfl (lv_at hl 5 rfl) ?_
  refine lv_iload hx hb dL_law_447 (lv_at hl 1 rfl) ?_
  refine lv_iconst (v := 1) hx hb dL_law_449 (by decide) ?_
  refine lv_iadd hx hb dL_law_450 ?_
  refine lv_topi (fun x_6 ex_6 => ?_)
  obtain rfl : x_6 = 1 := ex_6.trans (by decide)
  refine va_sld hx hb hX hbl hbA hS (i := 1) (by unfold vp_in; decide) dL_law_451 ?_
  refine W.eq (g2 := F0 m 452 ls [.int (xs 1), .ref hm]) rfl ?_
  have f_7 := free_of (wc := [(hm, .inr (12, [.int 0, .ref hr, .int 0, .int 0, .int 0, .int 0, .int 0, .ref (gm 7), .ref (gm 8), .ref (gm 9), .ref (gm 10), .ref (gm 11), .ref (gm 12), .ref (gm 13), .ref (gm 14), .int 0, .ref (gm 16), .int 0, .int 0, .int 0, .ref (gm 20), .ref (gm 21), .int 0, .int 0, .int 0, .int 0, .int 0, .int 0, .ref (gm 28), .ref (gm 29)])), (hr, .inl (kI, 2, .inl (fun _ => 0)))]) hD hS hA [1, 2] rfl
  refine va_calli (va_runV (As := [.int (xs 1)]) (rest := []) ⟨hx, hb, hml, hown, hts⟩ (c_m_bank l D a1 a2 H.size hm hr gm kI (xs 1)) (cwV 1 hts (gV w_465 w_466 w_467 w_244 w_468) rfl rfl rfl (by decide +kernel) ⟨Nat.le_of_ble_eq_true rfl, Nat.le_of_ble_eq_true rfl⟩) (pre_V hK hP hD hS hA hE [1, 2] rfl (by decide) rfl [1] rfl (ci := 12) (q0 := 1) rfl rfl) rfl rfl hl.1 rfl (lv_room (Nat.le_of_ble_eq_true rfl)) dL_law_452 ⟨Nat.le_of_ble_eq_true rfl, Nat.le_of_ble_eq_true rfl⟩) hS (fun q _ h => f_7 q h) f_7 (fun r_8 u_9 t H1 locs ht hvm h_10 hB hz1 hk1 hS => ?_)
  obtain ⟨hP, hD⟩ := join (wc := [(hm, .inr (12, [.int 0, .ref hr, .int 0, .int 0, .int 0, .int 0, .int 0, .ref (gm 7), .ref (gm 8), .ref (gm 9), .ref (gm 10), .ref (gm 11), .ref (gm 12), .ref (gm 13), .ref (gm 14), .int 0, .ref (gm 16), .int 0, .int 0, .int 0, .ref (gm 20), .ref (gm 21), .int 0, .int 0, .int 0, .int 0, .int 0, .int 0, .ref (gm 28), .ref (gm 29)])), (hr, .inl (kI, 2, .inl (fun _ => 0)))]) (wr := [(gn 0, .inl (kP, 6, .inr (.inr (.inr (.inr (fun _ => none)))))), (gm 7, .inl (kA, 6, .inr (.inr (.inr (.inr F))))), (rr, .inl (kY, 5, .inl (fun _ => 0))), (o, .inl (kL, 1, .inr (.inl (fun _ => 0))))]) (w1 := [(hm, .inr (12, u_9))]) hP hD f_7 [1, 2] [0, 3, 4, 5] rfl rfl (by decide) (by decide) hk1 ht hB
  generalize H1 = H at hP hS ⊢
  have hP : va_P D vwCl [(gn 0, .inl (kP, 6, .inr (.inr (.inr (.inr (fun _ => none)))))), (gm 7, .inl (kA, 6, .inr (.inr (.inr (.inr F))))), (rr, .inl (kY, 5, .inl (fun _ => 0))), (o, .inl (kL, 1, .inr (.inl (fun _ => 0)))), (hm, .inr (12, u_9))] H := hP
  have hD : va_D (fun q : Nat => s.heap.size ≤ q) [(gn 0, .inl (kP, 6, .inr (.inr (.inr (.inr (fun _ => none)))))), (gm 7, .inl (kA, 6, .inr (.inr (.inr (.inr F))))), (rr, .inl (kY, 5, .inl (fun _ => 0))), (o, .inl (kL, 1, .inr (.inl (fun _ => 0)))), (hm, .inr (12, u_9))] := hD
  refine lv_istore (lv' := [(6, .int r_8), (5, .int 1), (4, .int 0), (3, .ref o), (2, .ref hm), (1, .ref h0), (0, .ref b)]) hx hb dL_law_455 hl (by decide) rfl (fun ls hl => ?_)
  refine lv_aload_n hx hb dL_law_457 rfl (lv_at hl 4 rfl) ?_
  have f_11 := free_of (wc := [(hm, .inr (12, u_9))]) hD hS hA [4] rfl
  refine va_calli (va_runV (As := []) (rest := []) ⟨hx, hb, hml, hown, hts⟩ (c_thrown l D a1 a2 H.size hm u_9 1 h_10) (cwV 0 hts (gV w_458 w_459 w_460 w_244 w_461) rfl rfl rfl (by decide +kernel) ⟨Nat.le_of_ble_eq_true rfl, Nat.le_of_ble_eq_true rfl⟩) (pre_V hK hP hD hS hA hE [4] rfl (by decide) rfl [] rfl (ci := 12) (q0 := 4) rfl rfl) rfl rfl hl.1 rfl (lv_room (Nat.le_of_ble_eq_true rfl)) dL_law_458 ⟨Nat.le_of_ble_eq_true rfl, Nat.le_of_ble_eq_true rfl⟩) hS (fun q _ h => f_11 q h) f_11 (fun r_12 u_13 t H1 locs ht hvm h_14 hB hz1 hk1 hS => ?_)
  obtain ⟨hP, hD⟩ := join (wc := [(hm, .inr (12, u_9))]) (wr := [(gn 0, .inl (kP, 6, .inr (.inr (.inr (.inr (fun _ => none)))))), (gm 7, .inl (kA, 6, .inr (.inr (.inr (.inr F))))), (rr, .inl (kY, 5, .inl (fun _ => 0))), (o, .inl (kL, 1, .inr (.inl (fun _ => 0))))]) (w1 := [(hm, .inr (12, u_9))]) hP hD f_11 [4] [0, 1, 2, 3] rfl rfl (by decide) (by decide) hk1 ht hB
  generalize H1 = H at hP hS ⊢
  have hP : va_P D vwCl [(gn 0, .inl (kP, 6, .inr (.inr (.inr (.inr (fun _ => none)))))), (gm 7, .inl (kA, 6, .inr (.inr (.inr (.inr F))))), (rr, .inl (kY, 5, .inl (fun _ => 0))), (o, .inl (kL, 1, .inr (.inl (fun _ => 0)))), (hm, .inr (12, u_9))] H := hP
  have hD : va_D (fun q : Nat => s.heap.size ≤ q) [(gn 0, .inl (kP, 6, .inr (.inr (.inr (.inr (fun _ => none)))))), (gm 7, .inl (kA, 6, .inr (.inr (.inr (.inr F))))), (rr, .inl (kY, 5, .inl (fun _ => 0))), (o, .inl (kL, 1, .inr (.inl (fun _ => 0)))), (hm, .inr (12, u_9))] := hD
  obtain rfl := h_14
  refine lv_iload hx hb dL_law_461 (lv_at hl 1 rfl) ?_
  refine lv_icmp_eq (tgt := 468) hx hb dL_law_463 (by decide) (fun _ => ?_) (fun c => absurd (by decide) c)
  refine lv_iload hx hb dL_law_468 (lv_at hl 1 rfl) ?_
  refine lv_if_ne (tgt := 485) hx hb dL_law_470 (by decide) (fun _ => ?_) (fun c => absurd c (by decide))
  refine lv_goto (tgt := 3913) hx hb dL_law_485 (by decide) ?_
  exact law_tail hx hb hr_ hlocks hX hbl hS (Nat.le_of_ble_eq_true rfl) (Nat.le_of_ble_eq_true rfl) (lv_sub hl [2, 6] rfl)
set_option maxRecDepth 100000 in
set_option maxHeartbeats 4000000 in
theorem case_3 {p : Program} {l : Launch} (hl9 : l.stackTraces = false) {e : Env} {s : State} {m : MethodId} {below : List Frame} {meth : Method} {c : Code} {D : va_G} {a1 a2 b : Nat} {xs : Nat → Int32} {H : Heap} {locs : List Loc} {ls : Array Slot} (h0 h1 h2 : Nat) (g gn gb : Nat → Nat) (kP : ClassId) (hm hr rr : Nat) (gm : Nat → Nat) (kI kA kY : ClassId) (F : Nat → Option Nat) (o : Nat) (kL : ClassId) (hG : LawSt D a1 a2 p s m meth c b xs H locs ls h0 h1 h2 g gn gb kP hm hr rr gm kI kA kY F o kL) : W p l e room_1 s m #[Value.ref b] below meth c H locs 5338 65502 (lw_Z below #[Value.ref b] s) (F0 m 488 ls []) := by
  obtain ⟨hx, hb, hr_, hml, hown, hts, hX, hbl, hlocks, hP, hK, hD, hA, hE, hS, hF, hl⟩ := hG
  have hbA : ¬ (fun q : Nat => s.heap.size ≤ q) b := Nat.not_le.mpr hbl
  refine lv_aload_n hx hb dL_law_488 rfl (lv_at hl 3 rfl) ?_
  refine lv_aload_n hx hb dL_law_489 rfl (lv_at hl 4 rfl) ?_
  refine lv_iload hx hb dL_law_490 (lv_at hl 0 rfl) ?_
  refine lv_iconst (v := 1) hx hb dL_law_492 (by decide) ?_
  refine lv_iadd hx hb dL_law_493 ?_
  refine lv_topi (fun x_1 ex_1 => ?_)
  obtain rfl : x_1 = 1 := ex_1.trans (by decide)
  refine va_sld hx hb hX hbl hbA hS (i := 1) (by unfold vp_in; decide) dL_law_494 ?_
  refine W.eq (g2 := F0 m 495 ls [.int (xs 1), .ref h0]) rfl ?_
  refine lv_aload_n hx hb dL_law_495 rfl (lv_at hl 4 rfl) ?_
  refine lv_iload hx hb dL_law_496 (lv_at hl 0 rfl) ?_
  refine lv_iconst (v := 2) hx hb dL_law_498 (by decide) ?_
  refine lv_iadd hx hb dL_law_499 ?_
  refine lv_topi (fun x_2 ex_2 => ?_)
  obtain rfl : x_2 = 2 := ex_2.trans (by decide)
  refine va_sld hx hb hX hbl hbA hS (i := 2) (by unfold vp_in; decide) dL_law_500 ?_
  refine W.eq (g2 := F0 m 501 ls [.int (xs 2), .int (xs 1), .ref h0]) rfl ?_
  refine lv_aload_n hx hb dL_law_501 rfl (lv_at hl 4 rfl) ?_
  refine lv_iload hx hb dL_law_502 (lv_at hl 0 rfl) ?_
  refine lv_iconst (v := 3) hx hb dL_law_504 (by decide) ?_
  refine lv_iadd hx hb dL_law_505 ?_
  refine lv_topi (fun x_3 ex_3 => ?_)
  obtain rfl : x_3 = 3 := ex_3.trans (by decide)
  refine va_sld hx hb hX hbl hbA hS (i := 3) (by unfold vp_in; decide) dL_law_506 ?_
  refine W.eq (g2 := F0 m 507 ls [.int (xs 3), .int (xs 2), .int (xs 1), .ref h0]) rfl ?_
  refine lv_aload_n hx hb dL_law_507 rfl (lv_at hl 4 rfl) ?_
  refine lv_iload hx hb dL_law_508 (lv_at hl 0 rfl) ?_
  refine lv_iconst (v := 4) hx hb dL_law_510 (by decide) ?_
  refine lv_iadd hx hb dL_law_511 ?_
  refine lv_topi (fun x_4 ex_4 => ?_)
  obtain rfl : x_4 = 4 := ex_4.trans (by decide)
  refine va_sld hx hb hX hbl hbA hS (i := 4) (by unfold vp_in; decide) dL_law_512 ?_
  refine W.eq (g2 := F0 m 513 ls [.int (xs 4), .int (xs 3), .int (xs 2), .int (xs 1), .ref h0]) rfl ?_
  refine lv_aload_n hx hb dL_law_513 rfl (lv_at hl 4 rfl) ?_
  refine lv_iload hx hb dL_law_514 (lv_at hl 0 rfl) ?_
  refine lv_iconst (v := 5) hx hb dL_law_516 (by decide) ?_
  refine lv_iadd hx hb dL_law_517 ?_
  refine lv_topi (fun x_5 ex_5 => ?_)
  obtain rfl : x_5 = 5 := ex_5.trans (by decide)
  refine va_sld hx hb hX hbl hbA hS (i := 5) (by unfold vp_in; decide) dL_law_518 ?_
  refine W.eq (g2 := F0 m 519 ls [.int (xs 5), .int (xs 4), .int (xs 3), .int (xs 2), .int (xs 1), .ref h0]) rfl ?_
  refine lv_aload_n hx hb dL_law_519 rfl (lv_at hl 1 rfl) ?_
  have f_6 := free_of (wc := [(h0, .inr (11, [.ref h1, .ref h2, .ref (g 2), .ref (g 3), .ref (g 4), .ref (g 5), .ref (g 6), .int 0, .int 0, .int 0, .int 0])), (h1, .inr (6, [.ref (gn 0), .int 0, .ref (gn 2), .ref (gn 3), .int 0, .ref (gn 5), .int 0, .int 0])), (h2, .inr (1, [.ref h1, .ref (gb 1), .int 0]))]) hD hS hA [0, 1, 2] rfl
  refine vx_calli (vx_runSX (As := [.ref h0, .int (xs 1), .int (xs 2), .int (xs 3), .int (xs 4), .int (xs 5), .ref o]) (rest := []) ⟨hx, hb, hml, hown, hts⟩ (c_h_account l hl9 D a1 a2 H.size h0 h1 h2 g gn gb (xs 1) (xs 2) (xs 3) (xs 4) (xs 5) o) (vx_cwSW 7 hts (gSW w_469 w_470 w_450 w_471) rfl rfl rfl (by decide +kernel) ⟨Nat.le_of_ble_eq_true rfl, Nat.le_of_ble_eq_true rfl⟩) (pre_S hK hP hD hS hA hE [0, 1, 2] rfl (by decide) rfl [] rfl) rfl rfl hl.1 rfl (lv_room (Nat.le_of_ble_eq_true rfl)) dL_law_520 ⟨Nat.le_of_ble_eq_true rfl, Nat.le_of_ble_eq_true rfl⟩) hS (fun q _ h => f_6 q h) f_6 (fun q _ h => f_6 q h) (fun E ce q9 u9 t H locs ht hvm hw hB hz1 hk1 hS hce hcv hcl => False.elim hw) (fun r_7 u_8 t H1 locs ht hvm h_9 hB hz1 hk1 hS => ?_)
  obtain ⟨hP, hD⟩ := join (wc := [(h0, .inr (11, [.ref h1, .ref h2, .ref (g 2), .ref (g 3), .ref (g 4), .ref (g 5), .ref (g 6), .int 0, .int 0, .int 0, .int 0])), (h1, .inr (6, [.ref (gn 0), .int 0, .ref (gn 2), .ref (gn 3), .int 0, .ref (gn 5), .int 0, .int 0])), (h2, .inr (1, [.ref h1, .ref (gb 1), .int 0]))]) (wr := [(gn 0, .inl (kP, 6, .inr (.inr (.inr (.inr (fun _ => none)))))), (hm, .inr (12, [.int 0, .ref hr, .int 0, .int 0, .int 0, .int 0, .int 0, .ref (gm 7), .ref (gm 8), .ref (gm 9), .ref (gm 10), .ref (gm 11), .ref (gm 12), .ref (gm 13), .ref (gm 14), .int 0, .ref (gm 16), .int 0, .int 0, .int 0, .ref (gm 20), .ref (gm 21), .int 0, .int 0, .int 0, .int 0, .int 0, .int 0, .ref (gm 28), .ref (gm 29)])), (hr, .inl (kI, 2, .inl (fun _ => 0))), (gm 7, .inl (kA, 6, .inr (.inr (.inr (.inr F))))), (rr, .inl (kY, 5, .inl (fun _ => 0))), (o, .inl (kL, 1, .inr (.inl (fun _ => 0))))]) (w1 := []) hP hD f_6 [0, 1, 2] [3, 4, 5, 6, 7, 8] rfl rfl (by decide) (by decide) hk1 ht wat_nil
  generalize H1 = H at hP hS ⊢
  have hP : va_P D vwCl [(gn 0, .inl (kP, 6, .inr (.inr (.inr (.inr (fun _ => none)))))), (hm, .inr (12, [.int 0, .ref hr, .int 0, .int 0, .int 0, .int 0, .int 0, .ref (gm 7), .ref (gm 8), .ref (gm 9), .ref (gm 10), .ref (gm 11), .ref (gm 12), .ref (gm 13), .ref (gm 14), .int 0, .ref (gm 16), .int 0, .int 0, .int 0, .ref (gm 20), .ref (gm 21), .int 0, .int 0, .int 0, .int 0, .int 0, .int 0, .ref (gm 28), .ref (gm 29)])), (hr, .inl (kI, 2, .inl (fun _ => 0))), (gm 7, .inl (kA, 6, .inr (.inr (.inr (.inr F))))), (rr, .inl (kY, 5, .inl (fun _ => 0))), (o, .inl (kL, 1, .inr (.inl (fun _ => 0))))] H := hP
  have hD : va_D (fun q : Nat => s.heap.size ≤ q) [(gn 0, .inl (kP, 6, .inr (.inr (.inr (.inr (fun _ => none)))))), (hm, .inr (12, [.int 0, .ref hr, .int 0, .int 0, .int 0, .int 0, .int 0, .ref (gm 7), .ref (gm 8), .ref (gm 9), .ref (gm 10), .ref (gm 11), .ref (gm 12), .ref (gm 13), .ref (gm 14), .int 0, .ref (gm 16), .int 0, .int 0, .int 0, .ref (gm 20), .ref (gm 21), .int 0, .int 0, .int 0, .int 0, .int 0, .int 0, .ref (gm 28), .ref (gm 29)])), (hr, .inl (kI, 2, .inl (fun _ => 0))), (gm 7, .inl (kA, 6, .inr (.inr (.inr (.inr F))))), (rr, .inl (kY, 5, .inl (fun _ => 0))), (o, .inl (kL, 1, .inr (.inl (fun _ => 0))))] := hD
  obtain rfl := h_9
  refine lv_istore (lv' := [(5, .int 1), (4, .int 0), (3, .ref o), (2, .ref hm), (1, .ref h0), (0, .ref b)]) hx hb dL_law_523 hl (by decide) rfl (fun ls hl => ?_)
  refine lv_aload_n hx hb dL_law_525 rfl (lv_at hl 3 rfl) ?_
  refine lv_aload_n hx hb dL_law_526 rfl (lv_at hl 5 rfl) ?_
  refine lv_iload hx hb dL_law_527 (lv_at hl 1 rfl) ?_
  refine lv_iconst (v := 1) hx hb dL_law_529 (by decide) ?_
  refine lv_iadd hx hb dL_law_530 ?_
  refine lv_topi (fun x_10 ex_10 => ?_)
  obtain rfl : x_10 = 1 := ex_10.trans (by decide)
  refine va_sld hx hb hX hbl hbA hS (i := 1) (by unfold vp_in; decide) dL_law_531 ?_
  refine W.eq (g2 := F0 m 532 ls [.int (xs 1), .ref hm]) rfl ?_
  refine lv_aload_n hx hb dL_law_532 rfl (lv_at hl 5 rfl) ?_
  refine lv_iload hx hb dL_law_533 (lv_at hl 1 rfl) ?_
  refine lv_iconst (v := 2) hx hb dL_law_535 (by decide) ?_
  refine lv_iadd hx hb dL_law_536 ?_
  refine lv_topi (fun x_11 ex_11 => ?_)
  obtain rfl : x_11 = 2 := ex_11.trans (by decide)
  refine va_sld hx hb hX hbl hbA hS (i := 2) (by unfold vp_in; decide) dL_law_537 ?_
  refine W.eq (g2 := F0 m 538 ls [.int (xs 2), .int (xs 1), .ref hm]) rfl ?_
  refine lv_aload_n hx hb dL_law_538 rfl (lv_at hl 5 rfl) ?_
  refine lv_iload hx hb dL_law_539 (lv_at hl 1 rfl) ?_
  refine lv_iconst (v := 3) hx hb dL_law_541 (by decide) ?_
  refine lv_iadd hx hb dL_law_542 ?_
  refine lv_topi (fun x_12 ex_12 => ?_)
  obtain rfl : x_12 = 3 := ex_12.trans (by decide)
  refine va_sld hx hb hX hbl hbA hS (i := 3) (by unfold vp_in; decide) dL_law_543 ?_
  refine W.eq (g2 := F0 m 544 ls [.int (xs 3), .int (xs 2), .int (xs 1), .ref hm]) rfl ?_
  refine lv_aload_n hx hb dL_law_544 rfl (lv_at hl 5 rfl) ?_
  refine lv_iload hx hb dL_law_545 (lv_at hl 1 rfl) ?_
  refine lv_iconst (v := 4) hx hb dL_law_547 (by decide) ?_
  refine lv_iadd hx hb dL_law_548 ?_
  refine lv_topi (fun x_13 ex_13 => ?_)
  obtain rfl : x_13 = 4 := ex_13.trans (by decide)
  refine va_sld hx hb hX hbl hbA hS (i := 4) (by unfold vp_in; decide) dL_law_549 ?_
  refine W.eq (g2 := F0 m 550 ls [.int (xs 4), .int (xs 3), .int (xs 2), .int (xs 1), .ref hm]) rfl ?_
  refine lv_aload_n hx hb dL_law_550 rfl (lv_at hl 5 rfl) ?_
  refine lv_iload hx hb dL_law_551 (lv_at hl 1 rfl) ?_
  refine lv_iconst (v := 5) hx hb dL_law_553 (by decide) ?_
  refine lv_iadd hx hb dL_law_554 ?_
  refine lv_topi (fun x_14 ex_14 => ?_)
  obtain rfl : x_14 = 5 := ex_14.trans (by decide)
  refine va_sld hx hb hX hbl hbA hS (i := 5) (by unfold vp_in; decide) dL_law_555 ?_
  refine W.eq (g2 := F0 m 556 ls [.int (xs 5), .int (xs 4), .int (xs 3), .int (xs 2), .int (xs 1), .ref hm]) rfl ?_
  have f_15 := free_of (wc := [(hm, .inr (12, [.int 0, .ref hr, .int 0, .int 0, .int 0, .int 0, .int 0, .ref (gm 7), .ref (gm 8), .ref (gm 9), .ref (gm 10), .ref (gm 11), .ref (gm 12), .ref (gm 13), .ref (gm 14), .int 0, .ref (gm 16), .int 0, .int 0, .int 0, .ref (gm 20), .ref (gm 21), .int 0, .int 0, .int 0, .int 0, .int 0, .int 0, .ref (gm 28), .ref (gm 29)])), (hr, .inl (kI, 2, .inl (fun _ => 0)))]) hD hS hA [1, 2] rfl
  refine va_calli (va_runV (As := [.int (xs 1), .int (xs 2), .int (xs 3), .int (xs 4), .int (xs 5)]) (rest := []) ⟨hx, hb, hml, hown, hts⟩ (c_m_account l D a1 a2 H.size hm hr gm kI (xs 1) (xs 2) (xs 3) (xs 4) (xs 5)) (cwV 5 hts (gV w_472 w_473 w_474 w_244 w_475) rfl rfl rfl (by decide +kernel) ⟨Nat.le_of_ble_eq_true rfl, Nat.le_of_ble_eq_true rfl⟩) (pre_V hK hP hD hS hA hE [1, 2] rfl (by decide) rfl [1] rfl (ci := 12) (q0 := 1) rfl rfl) rfl rfl hl.1 rfl (lv_room (Nat.le_of_ble_eq_true rfl)) dL_law_556 ⟨Nat.le_of_ble_eq_true rfl, Nat.le_of_ble_eq_true rfl⟩) hS (fun q _ h => f_15 q h) f_15 (fun r_16 u_17 t H1 locs ht hvm h_18 hB hz1 hk1 hS => ?_)
  obtain ⟨hP, hD⟩ := join (wc := [(hm, .inr (12, [.int 0, .ref hr, .int 0, .int 0, .int 0, .int 0, .int 0, .ref (gm 7), .ref (gm 8), .ref (gm 9), .ref (gm 10), .ref (gm 11), .ref (gm 12), .ref (gm 13), .ref (gm 14), .int 0, .ref (gm 16), .int 0, .int 0, .int 0, .ref (gm 20), .ref (gm 21), .int 0, .int 0, .int 0, .int 0, .int 0, .int 0, .ref (gm 28), .ref (gm 29)])), (hr, .inl (kI, 2, .inl (fun _ => 0)))]) (wr := [(gn 0, .inl (kP, 6, .inr (.inr (.inr (.inr (fun _ => none)))))), (gm 7, .inl (kA, 6, .inr (.inr (.inr (.inr F))))), (rr, .inl (kY, 5, .inl (fun _ => 0))), (o, .inl (kL, 1, .inr (.inl (fun _ => 0))))]) (w1 := [(hm, .inr (12, u_17))]) hP hD f_15 [1, 2] [0, 3, 4, 5] rfl rfl (by decide) (by decide) hk1 ht hB
  generalize H1 = H at hP hS ⊢
  have hP : va_P D vwCl [(gn 0, .inl (kP, 6, .inr (.inr (.inr (.inr (fun _ => none)))))), (gm 7, .inl (kA, 6, .inr (.inr (.inr (.inr F))))), (rr, .inl (kY, 5, .inl (fun _ => 0))), (o, .inl (kL, 1, .inr (.inl (fun _ => 0)))), (hm, .inr (12, u_17))] H := hP
  have hD : va_D (fun q : Nat => s.heap.size ≤ q) [(gn 0, .inl (kP, 6, .inr (.inr (.inr (.inr (fun _ => none)))))), (gm 7, .inl (kA, 6, .inr (.inr (.inr (.inr F))))), (rr, .inl (kY, 5, .inl (fun _ => 0))), (o, .inl (kL, 1, .inr (.inl (fun _ => 0)))), (hm, .inr (12, u_17))] := hD
  refine lv_istore (lv' := [(6, .int r_16), (5, .int 1), (4, .int 0), (3, .ref o), (2, .ref hm), (1, .ref h0), (0, .ref b)]) hx hb dL_law_559 hl (by decide) rfl (fun ls hl => ?_)
  refine lv_aload_n hx hb dL_law_561 rfl (lv_at hl 4 rfl) ?_
  have f_19 := free_of (wc := [(hm, .inr (12, u_17))]) hD hS hA [4] rfl
  refine va_calli (va_runV (As := []) (rest := []) ⟨hx, hb, hml, hown, hts⟩ (c_thrown l D a1 a2 H.size hm u_17 1 h_18) (cwV 0 hts (gV w_458 w_459 w_460 w_244 w_461) rfl rfl rfl (by decide +kernel) ⟨Nat.le_of_ble_eq_true rfl, Nat.le_of_ble_eq_true rfl⟩) (pre_V hK hP hD hS hA hE [4] rfl (by decide) rfl [] rfl (ci := 12) (q0 := 4) rfl rfl) rfl rfl hl.1 rfl (lv_room (Nat.le_of_ble_eq_true rfl)) dL_law_562 ⟨Nat.le_of_ble_eq_true rfl, Nat.le_of_ble_eq_true rfl⟩) hS (fun q _ h => f_19 q h) f_19 (fun r_20 u_21 t H1 locs ht hvm h_22 hB hz1 hk1 hS => ?_)
  obtain ⟨hP, hD⟩ := join (wc := [(hm, .inr (12, u_17))]) (wr := [(gn 0, .inl (kP, 6, .inr (.inr (.inr (.inr (fun _ => none)))))), (gm 7, .inl (kA, 6, .inr (.inr (.inr (.inr F))))), (rr, .inl (kY, 5, .inl (fun _ => 0))), (o, .inl (kL, 1, .inr (.inl (fun _ => 0))))]) (w1 := [(hm, .inr (12, u_17))]) hP hD f_19 [4] [0, 1, 2, 3] rfl rfl (by decide) (by decide) hk1 ht hB
  generalize H1 = H at hP hS ⊢
  have hP : va_P D vwCl [(gn 0, .inl (kP, 6, .inr (.inr (.inr (.inr (fun _ => none)))))), (gm 7, .inl (kA, 6, .inr (.inr (.inr (.inr F))))), (rr, .inl (kY, 5, .inl (fun _ => 0))), (o, .inl (kL, 1, .inr (.inl (fun _ => 0)))), (hm, .inr (12, u_17))] H := hP
  have hD : va_D (fun q : Nat => s.heap.size ≤ q) [(gn 0, .inl (kP, 6, .inr (.inr (.inr (.inr (fun _ => none)))))), (gm 7, .inl (kA, 6, .inr (.inr (.inr (.inr F))))), (rr, .inl (kY, 5, .inl (fun _ => 0))), (o, .inl (kL, 1, .inr (.inl (fun _ => 0)))), (hm, .inr (12, u_17))] := hD
  obtain rfl := h_22
  refine lv_iload hx hb dL_law_565 (lv_at hl 1 rfl) ?_
  refine lv_icmp_eq (tgt := 572) hx hb dL_law_567 (by decide) (fun _ => ?_) (fun c => absurd (by decide) c)
  refine lv_iload hx hb dL_law_572 (lv_at hl 1 rfl) ?_
  refine lv_if_ne (tgt := 589) hx hb dL_law_574 (by decide) (fun _ => ?_) (fun c => absurd c (by decide))
  refine lv_goto (tgt := 3913) hx hb dL_law_589 (by decide) ?_
  exact law_tail hx hb hr_ hlocks hX hbl hS (Nat.le_of_ble_eq_true rfl) (Nat.le_of_ble_eq_true rfl) (lv_sub hl [2, 6] rfl)
set_option maxRecDepth 100000 in
set_option maxHeartbeats 4000000 in
theorem case_4 {p : Program} {l : Launch} (hl9 : l.stackTraces = false) {e : Env} {s : State} {m : MethodId} {below : List Frame} {meth : Method} {c : Code} {D : va_G} {a1 a2 b : Nat} {xs : Nat → Int32} {H : Heap} {locs : List Loc} {ls : Array Slot} (h0 h1 h2 : Nat) (g gn gb : Nat → Nat) (kP : ClassId) (hm hr rr : Nat) (gm : Nat → Nat) (kI kA kY : ClassId) (F : Nat → Option Nat) (o : Nat) (kL : ClassId) (hG : LawSt D a1 a2 p s m meth c b xs H locs ls h0 h1 h2 g gn gb kP hm hr rr gm kI kA kY F o kL) : W p l e room_1 s m #[Value.ref b] below meth c H locs 5338 65502 (lw_Z below #[Value.ref b] s) (F0 m 592 ls []) := by
  obtain ⟨hx, hb, hr_, hml, hown, hts, hX, hbl, hlocks, hP, hK, hD, hA, hE, hS, hF, hl⟩ := hG
  have hbA : ¬ (fun q : Nat => s.heap.size ≤ q) b := Nat.not_le.mpr hbl
  refine lv_aload_n hx hb dL_law_592 rfl (lv_at hl 3 rfl) ?_
  refine lv_aload_n hx hb dL_law_593 rfl (lv_at hl 4 rfl) ?_
  refine lv_iload hx hb dL_law_594 (lv_at hl 0 rfl) ?_
  refine lv_iconst (v := 1) hx hb dL_law_596 (by decide) ?_
  refine lv_iadd hx hb dL_law_597 ?_
  refine lv_topi (fun x_1 ex_1 => ?_)
  obtain rfl : x_1 = 1 := ex_1.trans (by decide)
  refine va_sld hx hb hX hbl hbA hS (i := 1) (by unfold vp_in; decide) dL_law_598 ?_
  refine W.eq (g2 := F0 m 599 ls [.int (xs 1), .ref h0]) rfl ?_
  refine lv_aload_n hx hb dL_law_599 rfl (lv_at hl 4 rfl) ?_
  refine lv_iload hx hb dL_law_600 (lv_at hl 0 rfl) ?_
  refine lv_iconst (v := 2) hx hb dL_law_602 (by decide) ?_
  refine lv_iadd hx hb dL_law_603 ?_
  refine lv_topi (fun x_2 ex_2 => ?_)
  obtain rfl : x_2 = 2 := ex_2.trans (by decide)
  refine va_sld hx hb hX hbl hbA hS (i := 2) (by unfold vp_in; decide) dL_law_604 ?_
  refine W.eq (g2 := F0 m 605 ls [.int (xs 2), .int (xs 1), .ref h0]) rfl ?_
  refine lv_aload_n hx hb dL_law_605 rfl (lv_at hl 4 rfl) ?_
  refine lv_iload hx hb dL_law_606 (lv_at hl 0 rfl) ?_
  refine lv_iconst (v := 3) hx hb dL_law_608 (by decide) ?_
  refine lv_iadd hx hb dL_law_609 ?_
  refine lv_topi (fun x_3 ex_3 => ?_)
  obtain rfl : x_3 = 3 := ex_3.trans (by decide)
  refine va_sld hx hb hX hbl hbA hS (i := 3) (by unfold vp_in; decide) dL_law_610 ?_
  refine W.eq (g2 := F0 m 611 ls [.int (xs 3), .int (xs 2), .int (xs 1), .ref h0]) rfl ?_
  refine lv_aload_n hx hb dL_law_611 rfl (lv_at hl 4 rfl) ?_
  refine lv_iload hx hb dL_law_612 (lv_at hl 0 rfl) ?_
  refine lv_iconst (v := 4) hx hb dL_law_614 (by decide) ?_
  refine lv_iadd hx hb dL_law_615 ?_
  refine lv_topi (fun x_4 ex_4 => ?_)
  obtain rfl : x_4 = 4 := ex_4.trans (by decide)
  refine va_sld hx hb hX hbl hbA hS (i := 4) (by unfold vp_in; decide) dL_law_616 ?_
  refine W.eq (g2 := F0 m 617 ls [.int (xs 4), .int (xs 3), .int (xs 2), .int (xs 1), .ref h0]) rfl ?_
  refine lv_aload_n hx hb dL_law_617 rfl (lv_at hl 4 rfl) ?_
  refine lv_iload hx hb dL_law_618 (lv_at hl 0 rfl) ?_
  refine lv_iconst (v := 5) hx hb dL_law_620 (by decide) ?_
  refine lv_iadd hx hb dL_law_621 ?_
  refine lv_topi (fun x_5 ex_5 => ?_)
  obtain rfl : x_5 = 5 := ex_5.trans (by decide)
  refine va_sld hx hb hX hbl hbA hS (i := 5) (by unfold vp_in; decide) dL_law_622 ?_
  refine W.eq (g2 := F0 m 623 ls [.int (xs 5), .int (xs 4), .int (xs 3), .int (xs 2), .int (xs 1), .ref h0]) rfl ?_
  refine lv_aload_n hx hb dL_law_623 rfl (lv_at hl 1 rfl) ?_
  have f_6 := free_of (wc := [(h0, .inr (11, [.ref h1, .ref h2, .ref (g 2), .ref (g 3), .ref (g 4), .ref (g 5), .ref (g 6), .int 0, .int 0, .int 0, .int 0])), (h1, .inr (6, [.ref (gn 0), .int 0, .ref (gn 2), .ref (gn 3), .int 0, .ref (gn 5), .int 0, .int 0])), (h2, .inr (1, [.ref h1, .ref (gb 1), .int 0]))]) hD hS hA [0, 1, 2] rfl
  refine vx_calli (vx_runSX (As := [.ref h0, .int (xs 1), .int (xs 2), .int (xs 3), .int (xs 4), .int (xs 5), .ref o]) (rest := []) ⟨hx, hb, hml, hown, hts⟩ (c_h_terms l hl9 D a1 a2 H.size h0 h1 h2 g gn gb (xs 1) (xs 2) (xs 3) (xs 4) (xs 5) o) (vx_cwSW 7 hts (gSW w_476 w_477 w_450 w_478) rfl rfl rfl (by decide +kernel) ⟨Nat.le_of_ble_eq_true rfl, Nat.le_of_ble_eq_true rfl⟩) (pre_S hK hP hD hS hA hE [0, 1, 2] rfl (by decide) rfl [] rfl) rfl rfl hl.1 rfl (lv_room (Nat.le_of_ble_eq_true rfl)) dL_law_624 ⟨Nat.le_of_ble_eq_true rfl, Nat.le_of_ble_eq_true rfl⟩) hS (fun q _ h => f_6 q h) f_6 (fun q _ h => f_6 q h) (fun E ce q9 u9 t H locs ht hvm hw hB hz1 hk1 hS hce hcv hcl => False.elim hw) (fun r_7 u_8 t H1 locs ht hvm h_9 hB hz1 hk1 hS => ?_)
  obtain ⟨hP, hD⟩ := join (wc := [(h0, .inr (11, [.ref h1, .ref h2, .ref (g 2), .ref (g 3), .ref (g 4), .ref (g 5), .ref (g 6), .int 0, .int 0, .int 0, .int 0])), (h1, .inr (6, [.ref (gn 0), .int 0, .ref (gn 2), .ref (gn 3), .int 0, .ref (gn 5), .int 0, .int 0])), (h2, .inr (1, [.ref h1, .ref (gb 1), .int 0]))]) (wr := [(gn 0, .inl (kP, 6, .inr (.inr (.inr (.inr (fun _ => none)))))), (hm, .inr (12, [.int 0, .ref hr, .int 0, .int 0, .int 0, .int 0, .int 0, .ref (gm 7), .ref (gm 8), .ref (gm 9), .ref (gm 10), .ref (gm 11), .ref (gm 12), .ref (gm 13), .ref (gm 14), .int 0, .ref (gm 16), .int 0, .int 0, .int 0, .ref (gm 20), .ref (gm 21), .int 0, .int 0, .int 0, .int 0, .int 0, .int 0, .ref (gm 28), .ref (gm 29)])), (hr, .inl (kI, 2, .inl (fun _ => 0))), (gm 7, .inl (kA, 6, .inr (.inr (.inr (.inr F))))), (rr, .inl (kY, 5, .inl (fun _ => 0))), (o, .inl (kL, 1, .inr (.inl (fun _ => 0))))]) (w1 := []) hP hD f_6 [0, 1, 2] [3, 4, 5, 6, 7, 8] rfl rfl (by decide) (by decide) hk1 ht wat_nil
  generalize H1 = H at hP hS ⊢
  have hP : va_P D vwCl [(gn 0, .inl (kP, 6, .inr (.inr (.inr (.inr (fun _ => none)))))), (hm, .inr (12, [.int 0, .ref hr, .int 0, .int 0, .int 0, .int 0, .int 0, .ref (gm 7), .ref (gm 8), .ref (gm 9), .ref (gm 10), .ref (gm 11), .ref (gm 12), .ref (gm 13), .ref (gm 14), .int 0, .ref (gm 16), .int 0, .int 0, .int 0, .ref (gm 20), .ref (gm 21), .int 0, .int 0, .int 0, .int 0, .int 0, .int 0, .ref (gm 28), .ref (gm 29)])), (hr, .inl (kI, 2, .inl (fun _ => 0))), (gm 7, .inl (kA, 6, .inr (.inr (.inr (.inr F))))), (rr, .inl (kY, 5, .inl (fun _ => 0))), (o, .inl (kL, 1, .inr (.inl (fun _ => 0))))] H := hP
  have hD : va_D (fun q : Nat => s.heap.size ≤ q) [(gn 0, .inl (kP, 6, .inr (.inr (.inr (.inr (fun _ => none)))))), (hm, .inr (12, [.int 0, .ref hr, .int 0, .int 0, .int 0, .int 0, .int 0, .ref (gm 7), .ref (gm 8), .ref (gm 9), .ref (gm 10), .ref (gm 11), .ref (gm 12), .ref (gm 13), .ref (gm 14), .int 0, .ref (gm 16), .int 0, .int 0, .int 0, .ref (gm 20), .ref (gm 21), .int 0, .int 0, .int 0, .int 0, .int 0, .int 0, .ref (gm 28), .ref (gm 29)])), (hr, .inl (kI, 2, .inl (fun _ => 0))), (gm 7, .inl (kA, 6, .inr (.inr (.inr (.inr F))))), (rr, .inl (kY, 5, .inl (fun _ => 0))), (o, .inl (kL, 1, .inr (.inl (fun _ => 0))))] := hD
  obtain rfl := h_9
  refine lv_istore (lv' := [(5, .int 1), (4, .int 0), (3, .ref o), (2, .ref hm), (1, .ref h0), (0, .ref b)]) hx hb dL_law_627 hl (by decide) rfl (fun ls hl => ?_)
  refine lv_aload_n hx hb dL_law_629 rfl (lv_at hl 3 rfl) ?_
  refine lv_aload_n hx hb dL_law_630 rfl (lv_at hl 5 rfl) ?_
  refine lv_iload hx hb dL_law_631 (lv_at hl 1 rfl) ?_
  refine lv_iconst (v := 1) hx hb dL_law_633 (by decide) ?_
  refine lv_iadd hx hb dL_law_634 ?_
  refine lv_topi (fun x_10 ex_10 => ?_)
  obtain rfl : x_10 = 1 := ex_10.trans (by decide)
  refine va_sld hx hb hX hbl hbA hS (i := 1) (by unfold vp_in; decide) dL_law_635 ?_
  refine W.eq (g2 := F0 m 636 ls [.int (xs 1), .ref hm]) rfl ?_
  refine lv_aload_n hx hb dL_law_636 rfl (lv_at hl 5 rfl) ?_
  refine lv_iload hx hb dL_law_637 (lv_at hl 1 rfl) ?_
  refine lv_iconst (v := 2) hx hb dL_law_639 (by decide) ?_
  refine lv_iadd hx hb dL_law_640 ?_
  refine lv_topi (fun x_11 ex_11 => ?_)
  obtain rfl : x_11 = 2 := ex_11.trans (by decide)
  refine va_sld hx hb hX hbl hbA hS (i := 2) (by unfold vp_in; decide) dL_law_641 ?_
  refine W.eq (g2 := F0 m 642 ls [.int (xs 2), .int (xs 1), .ref hm]) rfl ?_
  refine lv_aload_n hx hb dL_law_642 rfl (lv_at hl 5 rfl) ?_
  refine lv_iload hx hb dL_law_643 (lv_at hl 1 rfl) ?_
  refine lv_iconst (v := 3) hx hb dL_law_645 (by decide) ?_
  refine lv_iadd hx hb dL_law_646 ?_
  refine lv_topi (fun x_12 ex_12 => ?_)
  obtain rfl : x_12 = 3 := ex_12.trans (by decide)
  refine va_sld hx hb hX hbl hbA hS (i := 3) (by unfold vp_in; decide) dL_law_647 ?_
  refine W.eq (g2 := F0 m 648 ls [.int (xs 3), .int (xs 2), .int (xs 1), .ref hm]) rfl ?_
  refine lv_aload_n hx hb dL_law_648 rfl (lv_at hl 5 rfl) ?_
  refine lv_iload hx hb dL_law_649 (lv_at hl 1 rfl) ?_
  refine lv_iconst (v := 4) hx hb dL_law_651 (by decide) ?_
  refine lv_iadd hx hb dL_law_652 ?_
  refine lv_topi (fun x_13 ex_13 => ?_)
  obtain rfl : x_13 = 4 := ex_13.trans (by decide)
  refine va_sld hx hb hX hbl hbA hS (i := 4) (by unfold vp_in; decide) dL_law_653 ?_
  refine W.eq (g2 := F0 m 654 ls [.int (xs 4), .int (xs 3), .int (xs 2), .int (xs 1), .ref hm]) rfl ?_
  refine lv_aload_n hx hb dL_law_654 rfl (lv_at hl 5 rfl) ?_
  refine lv_iload hx hb dL_law_655 (lv_at hl 1 rfl) ?_
  refine lv_iconst (v := 5) hx hb dL_law_657 (by decide) ?_
  refine lv_iadd hx hb dL_law_658 ?_
  refine lv_topi (fun x_14 ex_14 => ?_)
  obtain rfl : x_14 = 5 := ex_14.trans (by decide)
  refine va_sld hx hb hX hbl hbA hS (i := 5) (by unfold vp_in; decide) dL_law_659 ?_
  refine W.eq (g2 := F0 m 660 ls [.int (xs 5), .int (xs 4), .int (xs 3), .int (xs 2), .int (xs 1), .ref hm]) rfl ?_
  have f_15 := free_of (wc := [(hm, .inr (12, [.int 0, .ref hr, .int 0, .int 0, .int 0, .int 0, .int 0, .ref (gm 7), .ref (gm 8), .ref (gm 9), .ref (gm 10), .ref (gm 11), .ref (gm 12), .ref (gm 13), .ref (gm 14), .int 0, .ref (gm 16), .int 0, .int 0, .int 0, .ref (gm 20), .ref (gm 21), .int 0, .int 0, .int 0, .int 0, .int 0, .int 0, .ref (gm 28), .ref (gm 29)])), (hr, .inl (kI, 2, .inl (fun _ => 0)))]) hD hS hA [1, 2] rfl
  refine va_calli (va_runV (As := [.int (xs 1), .int (xs 2), .int (xs 3), .int (xs 4), .int (xs 5)]) (rest := []) ⟨hx, hb, hml, hown, hts⟩ (c_m_terms l D a1 a2 H.size hm hr gm kI (xs 1) (xs 2) (xs 3) (xs 4) (xs 5)) (cwV 5 hts (gV w_479 w_480 w_481 w_244 w_482) rfl rfl rfl (by decide +kernel) ⟨Nat.le_of_ble_eq_true rfl, Nat.le_of_ble_eq_true rfl⟩) (pre_V hK hP hD hS hA hE [1, 2] rfl (by decide) rfl [1] rfl (ci := 12) (q0 := 1) rfl rfl) rfl rfl hl.1 rfl (lv_room (Nat.le_of_ble_eq_true rfl)) dL_law_660 ⟨Nat.le_of_ble_eq_true rfl, Nat.le_of_ble_eq_true rfl⟩) hS (fun q _ h => f_15 q h) f_15 (fun r_16 u_17 t H1 locs ht hvm h_18 hB hz1 hk1 hS => ?_)
  obtain ⟨hP, hD⟩ := join (wc := [(hm, .inr (12, [.int 0, .ref hr, .int 0, .int 0, .int 0, .int 0, .int 0, .ref (gm 7), .ref (gm 8), .ref (gm 9), .ref (gm 10), .ref (gm 11), .ref (gm 12), .ref (gm 13), .ref (gm 14), .int 0, .ref (gm 16), .int 0, .int 0, .int 0, .ref (gm 20), .ref (gm 21), .int 0, .int 0, .int 0, .int 0, .int 0, .int 0, .ref (gm 28), .ref (gm 29)])), (hr, .inl (kI, 2, .inl (fun _ => 0)))]) (wr := [(gn 0, .inl (kP, 6, .inr (.inr (.inr (.inr (fun _ => none)))))), (gm 7, .inl (kA, 6, .inr (.inr (.inr (.inr F))))), (rr, .inl (kY, 5, .inl (fun _ => 0))), (o, .inl (kL, 1, .inr (.inl (fun _ => 0))))]) (w1 := [(hm, .inr (12, u_17))]) hP hD f_15 [1, 2] [0, 3, 4, 5] rfl rfl (by decide) (by decide) hk1 ht hB
  generalize H1 = H at hP hS ⊢
  have hP : va_P D vwCl [(gn 0, .inl (kP, 6, .inr (.inr (.inr (.inr (fun _ => none)))))), (gm 7, .inl (kA, 6, .inr (.inr (.inr (.inr F))))), (rr, .inl (kY, 5, .inl (fun _ => 0))), (o, .inl (kL, 1, .inr (.inl (fun _ => 0)))), (hm, .inr (12, u_17))] H := hP
  have hD : va_D (fun q : Nat => s.heap.size ≤ q) [(gn 0, .inl (kP, 6, .inr (.inr (.inr (.inr (fun _ => none)))))), (gm 7, .inl (kA, 6, .inr (.inr (.inr (.inr F))))), (rr, .inl (kY, 5, .inl (fun _ => 0))), (o, .inl (kL, 1, .inr (.inl (fun _ => 0)))), (hm, .inr (12, u_17))] := hD
  refine lv_istore (lv' := [(6, .int r_16), (5, .int 1), (4, .int 0), (3, .ref o), (2, .ref hm), (1, .ref h0), (0, .ref b)]) hx hb dL_law_663 hl (by decide) rfl (fun ls hl => ?_)
  refine lv_aload_n hx hb dL_law_665 rfl (lv_at hl 4 rfl) ?_
  have f_19 := free_of (wc := [(hm, .inr (12, u_17))]) hD hS hA [4] rfl
  refine va_calli (va_runV (As := []) (rest := []) ⟨hx, hb, hml, hown, hts⟩ (c_thrown l D a1 a2 H.size hm u_17 1 h_18) (cwV 0 hts (gV w_458 w_459 w_460 w_244 w_461) rfl rfl rfl (by decide +kernel) ⟨Nat.le_of_ble_eq_true rfl, Nat.le_of_ble_eq_true rfl⟩) (pre_V hK hP hD hS hA hE [4] rfl (by decide) rfl [] rfl (ci := 12) (q0 := 4) rfl rfl) rfl rfl hl.1 rfl (lv_room (Nat.le_of_ble_eq_true rfl)) dL_law_666 ⟨Nat.le_of_ble_eq_true rfl, Nat.le_of_ble_eq_true rfl⟩) hS (fun q _ h => f_19 q h) f_19 (fun r_20 u_21 t H1 locs ht hvm h_22 hB hz1 hk1 hS => ?_)
  obtain ⟨hP, hD⟩ := join (wc := [(hm, .inr (12, u_17))]) (wr := [(gn 0, .inl (kP, 6, .inr (.inr (.inr (.inr (fun _ => none)))))), (gm 7, .inl (kA, 6, .inr (.inr (.inr (.inr F))))), (rr, .inl (kY, 5, .inl (fun _ => 0))), (o, .inl (kL, 1, .inr (.inl (fun _ => 0))))]) (w1 := [(hm, .inr (12, u_17))]) hP hD f_19 [4] [0, 1, 2, 3] rfl rfl (by decide) (by decide) hk1 ht hB
  generalize H1 = H at hP hS ⊢
  have hP : va_P D vwCl [(gn 0, .inl (kP, 6, .inr (.inr (.inr (.inr (fun _ => none)))))), (gm 7, .inl (kA, 6, .inr (.inr (.inr (.inr F))))), (rr, .inl (kY, 5, .inl (fun _ => 0))), (o, .inl (kL, 1, .inr (.inl (fun _ => 0)))), (hm, .inr (12, u_17))] H := hP
  have hD : va_D (fun q : Nat => s.heap.size ≤ q) [(gn 0, .inl (kP, 6, .inr (.inr (.inr (.inr (fun _ => none)))))), (gm 7, .inl (kA, 6, .inr (.inr (.inr (.inr F))))), (rr, .inl (kY, 5, .inl (fun _ => 0))), (o, .inl (kL, 1, .inr (.inl (fun _ => 0)))), (hm, .inr (12, u_17))] := hD
  obtain rfl := h_22
  refine lv_iload hx hb dL_law_669 (lv_at hl 1 rfl) ?_
  refine lv_icmp_eq (tgt := 676) hx hb dL_law_671 (by decide) (fun _ => ?_) (fun c => absurd (by decide) c)
  refine lv_iload hx hb dL_law_676 (lv_at hl 1 rfl) ?_
  refine lv_if_ne (tgt := 693) hx hb dL_law_678 (by decide) (fun _ => ?_) (fun c => absurd c (by decide))
  refine lv_goto (tgt := 3913) hx hb dL_law_693 (by decide) ?_
  exact law_tail hx hb hr_ hlocks hX hbl hS (Nat.le_of_ble_eq_true rfl) (Nat.le_of_ble_eq_true rfl) (lv_sub hl [2, 6] rfl)
set_option maxRecDepth 100000 in
set_option maxHeartbeats 4000000 in
theorem case_5 {p : Program} {l : Launch} (hl9 : l.stackTraces = false) {e : Env} {s : State} {m : MethodId} {below : List Frame} {meth : Method} {c : Code} {D : va_G} {a1 a2 b : Nat} {xs : Nat → Int32} {H : Heap} {locs : List Loc} {ls : Array Slot} (h0 h1 h2 : Nat) (g gn gb : Nat → Nat) (kP : ClassId) (hm hr rr : Nat) (gm : Nat → Nat) (kI kA kY : ClassId) (F : Nat → Option Nat) (o : Nat) (kL : ClassId) (hG : LawSt D a1 a2 p s m meth c b xs H locs ls h0 h1 h2 g gn gb kP hm hr rr gm kI kA kY F o kL) : W p l e room_1 s m #[Value.ref b] below meth c H locs 5338 65502 (lw_Z below #[Value.ref b] s) (F0 m 696 ls []) := by
  obtain ⟨hx, hb, hr_, hml, hown, hts, hX, hbl, hlocks, hP, hK, hD, hA, hE, hS, hF, hl⟩ := hG
  have hbA : ¬ (fun q : Nat => s.heap.size ≤ q) b := Nat.not_le.mpr hbl
  refine lv_aload_n hx hb dL_law_696 rfl (lv_at hl 3 rfl) ?_
  refine lv_aload_n hx hb dL_law_697 rfl (lv_at hl 4 rfl) ?_
  refine lv_iload hx hb dL_law_698 (lv_at hl 0 rfl) ?_
  refine lv_iconst (v := 1) hx hb dL_law_700 (by decide) ?_
  refine lv_iadd hx hb dL_law_701 ?_
  refine lv_topi (fun x_1 ex_1 => ?_)
  obtain rfl : x_1 = 1 := ex_1.trans (by decide)
  refine va_sld hx hb hX hbl hbA hS (i := 1) (by unfold vp_in; decide) dL_law_702 ?_
  refine W.eq (g2 := F0 m 703 ls [.int (xs 1), .ref h0]) rfl ?_
  refine lv_aload_n hx hb dL_law_703 rfl (lv_at hl 4 rfl) ?_
  refine lv_iload hx hb dL_law_704 (lv_at hl 0 rfl) ?_
  refine lv_iconst (v := 2) hx hb dL_law_706 (by decide) ?_
  refine lv_iadd hx hb dL_law_707 ?_
  refine lv_topi (fun x_2 ex_2 => ?_)
  obtain rfl : x_2 = 2 := ex_2.trans (by decide)
  refine va_sld hx hb hX hbl hbA hS (i := 2) (by unfold vp_in; decide) dL_law_708 ?_
  refine W.eq (g2 := F0 m 709 ls [.int (xs 2), .int (xs 1), .ref h0]) rfl ?_
  refine lv_aload_n hx hb dL_law_709 rfl (lv_at hl 4 rfl) ?_
  refine lv_iload hx hb dL_law_710 (lv_at hl 0 rfl) ?_
  refine lv_iconst (v := 3) hx hb dL_law_712 (by decide) ?_
  refine lv_iadd hx hb dL_law_713 ?_
  refine lv_topi (fun x_3 ex_3 => ?_)
  obtain rfl : x_3 = 3 := ex_3.trans (by decide)
  refine va_sld hx hb hX hbl hbA hS (i := 3) (by unfold vp_in; decide) dL_law_714 ?_
  refine W.eq (g2 := F0 m 715 ls [.int (xs 3), .int (xs 2), .int (xs 1), .ref h0]) rfl ?_
  refine lv_aload_n hx hb dL_law_715 rfl (lv_at hl 1 rfl) ?_
  have f_4 := free_of (wc := [(h0, .inr (11, [.ref h1, .ref h2, .ref (g 2), .ref (g 3), .ref (g 4), .ref (g 5), .ref (g 6), .int 0, .int 0, .int 0, .int 0])), (h1, .inr (6, [.ref (gn 0), .int 0, .ref (gn 2), .ref (gn 3), .int 0, .ref (gn 5), .int 0, .int 0])), (h2, .inr (1, [.ref h1, .ref (gb 1), .int 0]))]) hD hS hA [0, 1, 2] rfl
  refine vx_calli (vx_runSX (As := [.ref h0, .int (xs 1), .int (xs 2), .int (xs 3), .ref o]) (rest := []) ⟨hx, hb, hml, hown, hts⟩ (c_h_limits l hl9 D a1 a2 H.size h0 h1 h2 g gn gb (xs 1) (xs 2) (xs 3) o) (vx_cwSW 5 hts (gSW w_483 w_484 w_450 w_485) rfl rfl rfl (by decide +kernel) ⟨Nat.le_of_ble_eq_true rfl, Nat.le_of_ble_eq_true rfl⟩) (pre_S hK hP hD hS hA hE [0, 1, 2] rfl (by decide) rfl [] rfl) rfl rfl hl.1 rfl (lv_room (Nat.le_of_ble_eq_true rfl)) dL_law_716 ⟨Nat.le_of_ble_eq_true rfl, Nat.le_of_ble_eq_true rfl⟩) hS (fun q _ h => f_4 q h) f_4 (fun q _ h => f_4 q h) (fun E ce q9 u9 t H locs ht hvm hw hB hz1 hk1 hS hce hcv hcl => False.elim hw) (fun r_5 u_6 t H1 locs ht hvm h_7 hB hz1 hk1 hS => ?_)
  obtain ⟨hP, hD⟩ := join (wc := [(h0, .inr (11, [.ref h1, .ref h2, .ref (g 2), .ref (g 3), .ref (g 4), .ref (g 5), .ref (g 6), .int 0, .int 0, .int 0, .int 0])), (h1, .inr (6, [.ref (gn 0), .int 0, .ref (gn 2), .ref (gn 3), .int 0, .ref (gn 5), .int 0, .int 0])), (h2, .inr (1, [.ref h1, .ref (gb 1), .int 0]))]) (wr := [(gn 0, .inl (kP, 6, .inr (.inr (.inr (.inr (fun _ => none)))))), (hm, .inr (12, [.int 0, .ref hr, .int 0, .int 0, .int 0, .int 0, .int 0, .ref (gm 7), .ref (gm 8), .ref (gm 9), .ref (gm 10), .ref (gm 11), .ref (gm 12), .ref (gm 13), .ref (gm 14), .int 0, .ref (gm 16), .int 0, .int 0, .int 0, .ref (gm 20), .ref (gm 21), .int 0, .int 0, .int 0, .int 0, .int 0, .int 0, .ref (gm 28), .ref (gm 29)])), (hr, .inl (kI, 2, .inl (fun _ => 0))), (gm 7, .inl (kA, 6, .inr (.inr (.inr (.inr F))))), (rr, .inl (kY, 5, .inl (fun _ => 0))), (o, .inl (kL, 1, .inr (.inl (fun _ => 0))))]) (w1 := []) hP hD f_4 [0, 1, 2] [3, 4, 5, 6, 7, 8] rfl rfl (by decide) (by decide) hk1 ht wat_nil
  generalize H1 = H at hP hS ⊢
  have hP : va_P D vwCl [(gn 0, .inl (kP, 6, .inr (.inr (.inr (.inr (fun _ => none)))))), (hm, .inr (12, [.int 0, .ref hr, .int 0, .int 0, .int 0, .int 0, .int 0, .ref (gm 7), .ref (gm 8), .ref (gm 9), .ref (gm 10), .ref (gm 11), .ref (gm 12), .ref (gm 13), .ref (gm 14), .int 0, .ref (gm 16), .int 0, .int 0, .int 0, .ref (gm 20), .ref (gm 21), .int 0, .int 0, .int 0, .int 0, .int 0, .int 0, .ref (gm 28), .ref (gm 29)])), (hr, .inl (kI, 2, .inl (fun _ => 0))), (gm 7, .inl (kA, 6, .inr (.inr (.inr (.inr F))))), (rr, .inl (kY, 5, .inl (fun _ => 0))), (o, .inl (kL, 1, .inr (.inl (fun _ => 0))))] H := hP
  have hD : va_D (fun q : Nat => s.heap.size ≤ q) [(gn 0, .inl (kP, 6, .inr (.inr (.inr (.inr (fun _ => none)))))), (hm, .inr (12, [.int 0, .ref hr, .int 0, .int 0, .int 0, .int 0, .int 0, .ref (gm 7), .ref (gm 8), .ref (gm 9), .ref (gm 10), .ref (gm 11), .ref (gm 12), .ref (gm 13), .ref (gm 14), .int 0, .ref (gm 16), .int 0, .int 0, .int 0, .ref (gm 20), .ref (gm 21), .int 0, .int 0, .int 0, .int 0, .int 0, .int 0, .ref (gm 28), .ref (gm 29)])), (hr, .inl (kI, 2, .inl (fun _ => 0))), (gm 7, .inl (kA, 6, .inr (.inr (.inr (.inr F))))), (rr, .inl (kY, 5, .inl (fun _ => 0))), (o, .inl (kL, 1, .inr (.inl (fun _ => 0))))] := hD
  obtain rfl := h_7
  refine lv_istore (lv' := [(5, .int 1), (4, .int 0), (3, .ref o), (2, .ref hm), (1, .ref h0), (0, .ref b)]) hx hb dL_law_719 hl (by decide) rfl (fun ls hl => ?_)
  refine lv_aload_n hx hb dL_law_721 rfl (lv_at hl 3 rfl) ?_
  refine lv_aload_n hx hb dL_law_722 rfl (lv_at hl 5 rfl) ?_
  refine lv_iload hx hb dL_law_723 (lv_at hl 1 rfl) ?_
  refine lv_iconst (v := 1) hx hb dL_law_725 (by decide) ?_
  refine lv_iadd hx hb dL_law_726 ?_
  refine lv_topi (fun x_8 ex_8 => ?_)
  obtain rfl : x_8 = 1 := ex_8.trans (by decide)
  refine va_sld hx hb hX hbl hbA hS (i := 1) (by unfold vp_in; decide) dL_law_727 ?_
  refine W.eq (g2 := F0 m 728 ls [.int (xs 1), .ref hm]) rfl ?_
  refine lv_aload_n hx hb dL_law_728 rfl (lv_at hl 5 rfl) ?_
  refine lv_iload hx hb dL_law_729 (lv_at hl 1 rfl) ?_
  refine lv_iconst (v := 2) hx hb dL_law_731 (by decide) ?_
  refine lv_iadd hx hb dL_law_732 ?_
  refine lv_topi (fun x_9 ex_9 => ?_)
  obtain rfl : x_9 = 2 := ex_9.trans (by decide)
  refine va_sld hx hb hX hbl hbA hS (i := 2) (by unfold vp_in; decide) dL_law_733 ?_
  refine W.eq (g2 := F0 m 734 ls [.int (xs 2), .int (xs 1), .ref hm]) rfl ?_
  refine lv_aload_n hx hb dL_law_734 rfl (lv_at hl 5 rfl) ?_
  refine lv_iload hx hb dL_law_735 (lv_at hl 1 rfl) ?_
  refine lv_iconst (v := 3) hx hb dL_law_737 (by decide) ?_
  refine lv_iadd hx hb dL_law_738 ?_
  refine lv_topi (fun x_10 ex_10 => ?_)
  obtain rfl : x_10 = 3 := ex_10.trans (by decide)
  refine va_sld hx hb hX hbl hbA hS (i := 3) (by unfold vp_in; decide) dL_law_739 ?_
  refine W.eq (g2 := F0 m 740 ls [.int (xs 3), .int (xs 2), .int (xs 1), .ref hm]) rfl ?_
  have f_11 := free_of (wc := [(hm, .inr (12, [.int 0, .ref hr, .int 0, .int 0, .int 0, .int 0, .int 0, .ref (gm 7), .ref (gm 8), .ref (gm 9), .ref (gm 10), .ref (gm 11), .ref (gm 12), .ref (gm 13), .ref (gm 14), .int 0, .ref (gm 16), .int 0, .int 0, .int 0, .ref (gm 20), .ref (gm 21), .int 0, .int 0, .int 0, .int 0, .int 0, .int 0, .ref (gm 28), .ref (gm 29)])), (hr, .inl (kI, 2, .inl (fun _ => 0)))]) hD hS hA [1, 2] rfl
  refine va_calli (va_runV (As := [.int (xs 1), .int (xs 2), .int (xs 3)]) (rest := []) ⟨hx, hb, hml, hown, hts⟩ (c_m_limits l D a1 a2 H.size hm hr gm kI (xs 1) (xs 2) (xs 3)) (cwV 3 hts (gV w_486 w_487 w_488 w_244 w_489) rfl rfl rfl (by decide +kernel) ⟨Nat.le_of_ble_eq_true rfl, Nat.le_of_ble_eq_true rfl⟩) (pre_V hK hP hD hS hA hE [1, 2] rfl (by decide) rfl [1] rfl (ci := 12) (q0 := 1) rfl rfl) rfl rfl hl.1 rfl (lv_room (Nat.le_of_ble_eq_true rfl)) dL_law_740 ⟨Nat.le_of_ble_eq_true rfl, Nat.le_of_ble_eq_true rfl⟩) hS (fun q _ h => f_11 q h) f_11 (fun r_12 u_13 t H1 locs ht hvm h_14 hB hz1 hk1 hS => ?_)
  obtain ⟨hP, hD⟩ := join (wc := [(hm, .inr (12, [.int 0, .ref hr, .int 0, .int 0, .int 0, .int 0, .int 0, .ref (gm 7), .ref (gm 8), .ref (gm 9), .ref (gm 10), .ref (gm 11), .ref (gm 12), .ref (gm 13), .ref (gm 14), .int 0, .ref (gm 16), .int 0, .int 0, .int 0, .ref (gm 20), .ref (gm 21), .int 0, .int 0, .int 0, .int 0, .int 0, .int 0, .ref (gm 28), .ref (gm 29)])), (hr, .inl (kI, 2, .inl (fun _ => 0)))]) (wr := [(gn 0, .inl (kP, 6, .inr (.inr (.inr (.inr (fun _ => none)))))), (gm 7, .inl (kA, 6, .inr (.inr (.inr (.inr F))))), (rr, .inl (kY, 5, .inl (fun _ => 0))), (o, .inl (kL, 1, .inr (.inl (fun _ => 0))))]) (w1 := [(hm, .inr (12, u_13))]) hP hD f_11 [1, 2] [0, 3, 4, 5] rfl rfl (by decide) (by decide) hk1 ht hB
  generalize H1 = H at hP hS ⊢
  have hP : va_P D vwCl [(gn 0, .inl (kP, 6, .inr (.inr (.inr (.inr (fun _ => none)))))), (gm 7, .inl (kA, 6, .inr (.inr (.inr (.inr F))))), (rr, .inl (kY, 5, .inl (fun _ => 0))), (o, .inl (kL, 1, .inr (.inl (fun _ => 0)))), (hm, .inr (12, u_13))] H := hP
  have hD : va_D (fun q : Nat => s.heap.size ≤ q) [(gn 0, .inl (kP, 6, .inr (.inr (.inr (.inr (fun _ => none)))))), (gm 7, .inl (kA, 6, .inr (.inr (.inr (.inr F))))), (rr, .inl (kY, 5, .inl (fun _ => 0))), (o, .inl (kL, 1, .inr (.inl (fun _ => 0)))), (hm, .inr (12, u_13))] := hD
  refine lv_istore (lv' := [(6, .int r_12), (5, .int 1), (4, .int 0), (3, .ref o), (2, .ref hm), (1, .ref h0), (0, .ref b)]) hx hb dL_law_743 hl (by decide) rfl (fun ls hl => ?_)
  refine lv_aload_n hx hb dL_law_745 rfl (lv_at hl 4 rfl) ?_
  have f_15 := free_of (wc := [(hm, .inr (12, u_13))]) hD hS hA [4] rfl
  refine va_calli (va_runV (As := []) (rest := []) ⟨hx, hb, hml, hown, hts⟩ (c_thrown l D a1 a2 H.size hm u_13 1 h_14) (cwV 0 hts (gV w_458 w_459 w_460 w_244 w_461) rfl rfl rfl (by decide +kernel) ⟨Nat.le_of_ble_eq_true rfl, Nat.le_of_ble_eq_true rfl⟩) (pre_V hK hP hD hS hA hE [4] rfl (by decide) rfl [] rfl (ci := 12) (q0 := 4) rfl rfl) rfl rfl hl.1 rfl (lv_room (Nat.le_of_ble_eq_true rfl)) dL_law_746 ⟨Nat.le_of_ble_eq_true rfl, Nat.le_of_ble_eq_true rfl⟩) hS (fun q _ h => f_15 q h) f_15 (fun r_16 u_17 t H1 locs ht hvm h_18 hB hz1 hk1 hS => ?_)
  obtain ⟨hP, hD⟩ := join (wc := [(hm, .inr (12, u_13))]) (wr := [(gn 0, .inl (kP, 6, .inr (.inr (.inr (.inr (fun _ => none)))))), (gm 7, .inl (kA, 6, .inr (.inr (.inr (.inr F))))), (rr, .inl (kY, 5, .inl (fun _ => 0))), (o, .inl (kL, 1, .inr (.inl (fun _ => 0))))]) (w1 := [(hm, .inr (12, u_13))]) hP hD f_15 [4] [0, 1, 2, 3] rfl rfl (by decide) (by decide) hk1 ht hB
  generalize H1 = H at hP hS ⊢
  have hP : va_P D vwCl [(gn 0, .inl (kP, 6, .inr (.inr (.inr (.inr (fun _ => none)))))), (gm 7, .inl (kA, 6, .inr (.inr (.inr (.inr F))))), (rr, .inl (kY, 5, .inl (fun _ => 0))), (o, .inl (kL, 1, .inr (.inl (fun _ => 0)))), (hm, .inr (12, u_13))] H := hP
  have hD : va_D (fun q : Nat => s.heap.size ≤ q) [(gn 0, .inl (kP, 6, .inr (.inr (.inr (.inr (fun _ => none)))))), (gm 7, .inl (kA, 6, .inr (.inr (.inr (.inr F))))), (rr, .inl (kY, 5, .inl (fun _ => 0))), (o, .inl (kL, 1, .inr (.inl (fun _ => 0)))), (hm, .inr (12, u_13))] := hD
  obtain rfl := h_18
  refine lv_iload hx hb dL_law_749 (lv_at hl 1 rfl) ?_
  refine lv_icmp_eq (tgt := 756) hx hb dL_law_751 (by decide) (fun _ => ?_) (fun c => absurd (by decide) c)
  refine lv_iload hx hb dL_law_756 (lv_at hl 1 rfl) ?_
  refine lv_if_ne (tgt := 773) hx hb dL_law_758 (by decide) (fun _ => ?_) (fun c => absurd c (by decide))
  refine lv_goto (tgt := 3913) hx hb dL_law_773 (by decide) ?_
  exact law_tail hx hb hr_ hlocks hX hbl hS (Nat.le_of_ble_eq_true rfl) (Nat.le_of_ble_eq_true rfl) (lv_sub hl [2, 6] rfl)
set_option maxRecDepth 100000 in
set_option maxHeartbeats 4000000 in
theorem case_6 {p : Program} {l : Launch} (hl9 : l.stackTraces = false) {e : Env} {s : State} {m : MethodId} {below : List Frame} {meth : Method} {c : Code} {D : va_G} {a1 a2 b : Nat} {xs : Nat → Int32} {H : Heap} {locs : List Loc} {ls : Array Slot} (h0 h1 h2 : Nat) (g gn gb : Nat → Nat) (kP : ClassId) (hm hr rr : Nat) (gm : Nat → Nat) (kI kA kY : ClassId) (F : Nat → Option Nat) (o : Nat) (kL : ClassId) (hG : LawSt D a1 a2 p s m meth c b xs H locs ls h0 h1 h2 g gn gb kP hm hr rr gm kI kA kY F o kL) : W p l e room_1 s m #[Value.ref b] below meth c H locs 5338 65502 (lw_Z below #[Value.ref b] s) (F0 m 776 ls []) := by
  obtain ⟨hx, hb, hr_, hml, hown, hts, hX, hbl, hlocks, hP, hK, hD, hA, hE, hS, hF, hl⟩ := hG
  have hbA : ¬ (fun q : Nat => s.heap.size ≤ q) b := Nat.not_le.mpr hbl
  refine lv_aload_n hx hb dL_law_776 rfl (lv_at hl 3 rfl) ?_
  refine lv_aload_n hx hb dL_law_777 rfl (lv_at hl 4 rfl) ?_
  refine lv_iload hx hb dL_law_778 (lv_at hl 0 rfl) ?_
  refine lv_iconst (v := 1) hx hb dL_law_780 (by decide) ?_
  refine lv_iadd hx hb dL_law_781 ?_
  refine lv_topi (fun x_1 ex_1 => ?_)
  obtain rfl : x_1 = 1 := ex_1.trans (by decide)
  refine va_sld hx hb hX hbl hbA hS (i := 1) (by unfold vp_in; decide) dL_law_782 ?_
  refine W.eq (g2 := F0 m 783 ls [.int (xs 1), .ref h0]) rfl ?_
  refine lv_aload_n hx hb dL_law_783 rfl (lv_at hl 4 rfl) ?_
  refine lv_iload hx hb dL_law_784 (lv_at hl 0 rfl) ?_
  refine lv_iconst (v := 2) hx hb dL_law_786 (by decide) ?_
  refine lv_iadd hx hb dL_law_787 ?_
  refine lv_topi (fun x_2 ex_2 => ?_)
  obtain rfl : x_2 = 2 := ex_2.trans (by decide)
  refine va_sld hx hb hX hbl hbA hS (i := 2) (by unfold vp_in; decide) dL_law_788 ?_
  refine W.eq (g2 := F0 m 789 ls [.int (xs 2), .int (xs 1), .ref h0]) rfl ?_
  refine lv_aload_n hx hb dL_law_789 rfl (lv_at hl 1 rfl) ?_
  have f_3 := free_of (wc := [(h0, .inr (11, [.ref h1, .ref h2, .ref (g 2), .ref (g 3), .ref (g 4), .ref (g 5), .ref (g 6), .int 0, .int 0, .int 0, .int 0])), (h1, .inr (6, [.ref (gn 0), .int 0, .ref (gn 2), .ref (gn 3), .int 0, .ref (gn 5), .int 0, .int 0])), (h2, .inr (1, [.ref h1, .ref (gb 1), .int 0]))]) hD hS hA [0, 1, 2] rfl
  refine vx_calli (vx_runSX (As := [.ref h0, .int (xs 1), .int (xs 2), .ref o]) (rest := []) ⟨hx, hb, hml, hown, hts⟩ (c_h_fund l hl9 D a1 a2 H.size h0 h1 h2 g gn gb (xs 1) (xs 2) o) (vx_cwSW 4 hts (gSW w_490 w_491 w_450 w_492) rfl rfl rfl (by decide +kernel) ⟨Nat.le_of_ble_eq_true rfl, Nat.le_of_ble_eq_true rfl⟩) (pre_S hK hP hD hS hA hE [0, 1, 2] rfl (by decide) rfl [] rfl) rfl rfl hl.1 rfl (lv_room (Nat.le_of_ble_eq_true rfl)) dL_law_790 ⟨Nat.le_of_ble_eq_true rfl, Nat.le_of_ble_eq_true rfl⟩) hS (fun q _ h => f_3 q h) f_3 (fun q _ h => f_3 q h) (fun E ce q9 u9 t H locs ht hvm hw hB hz1 hk1 hS hce hcv hcl => False.elim hw) (fun r_4 u_5 t H1 locs ht hvm h_6 hB hz1 hk1 hS => ?_)
  obtain ⟨hP, hD⟩ := join (wc := [(h0, .inr (11, [.ref h1, .ref h2, .ref (g 2), .ref (g 3), .ref (g 4), .ref (g 5), .ref (g 6), .int 0, .int 0, .int 0, .int 0])), (h1, .inr (6, [.ref (gn 0), .int 0, .ref (gn 2), .ref (gn 3), .int 0, .ref (gn 5), .int 0, .int 0])), (h2, .inr (1, [.ref h1, .ref (gb 1), .int 0]))]) (wr := [(gn 0, .inl (kP, 6, .inr (.inr (.inr (.inr (fun _ => none)))))), (hm, .inr (12, [.int 0, .ref hr, .int 0, .int 0, .int 0, .int 0, .int 0, .ref (gm 7), .ref (gm 8), .ref (gm 9), .ref (gm 10), .ref (gm 11), .ref (gm 12), .ref (gm 13), .ref (gm 14), .int 0, .ref (gm 16), .int 0, .int 0, .int 0, .ref (gm 20), .ref (gm 21), .int 0, .int 0, .int 0, .int 0, .int 0, .int 0, .ref (gm 28), .ref (gm 29)])), (hr, .inl (kI, 2, .inl (fun _ => 0))), (gm 7, .inl (kA, 6, .inr (.inr (.inr (.inr F))))), (rr, .inl (kY, 5, .inl (fun _ => 0))), (o, .inl (kL, 1, .inr (.inl (fun _ => 0))))]) (w1 := []) hP hD f_3 [0, 1, 2] [3, 4, 5, 6, 7, 8] rfl rfl (by decide) (by decide) hk1 ht wat_nil
  generalize H1 = H at hP hS ⊢
  have hP : va_P D vwCl [(gn 0, .inl (kP, 6, .inr (.inr (.inr (.inr (fun _ => none)))))), (hm, .inr (12, [.int 0, .ref hr, .int 0, .int 0, .int 0, .int 0, .int 0, .ref (gm 7), .ref (gm 8), .ref (gm 9), .ref (gm 10), .ref (gm 11), .ref (gm 12), .ref (gm 13), .ref (gm 14), .int 0, .ref (gm 16), .int 0, .int 0, .int 0, .ref (gm 20), .ref (gm 21), .int 0, .int 0, .int 0, .int 0, .int 0, .int 0, .ref (gm 28), .ref (gm 29)])), (hr, .inl (kI, 2, .inl (fun _ => 0))), (gm 7, .inl (kA, 6, .inr (.inr (.inr (.inr F))))), (rr, .inl (kY, 5, .inl (fun _ => 0))), (o, .inl (kL, 1, .inr (.inl (fun _ => 0))))] H := hP
  have hD : va_D (fun q : Nat => s.heap.size ≤ q) [(gn 0, .inl (kP, 6, .inr (.inr (.inr (.inr (fun _ => none)))))), (hm, .inr (12, [.int 0, .ref hr, .int 0, .int 0, .int 0, .int 0, .int 0, .ref (gm 7), .ref (gm 8), .ref (gm 9), .ref (gm 10), .ref (gm 11), .ref (gm 12), .ref (gm 13), .ref (gm 14), .int 0, .ref (gm 16), .int 0, .int 0, .int 0, .ref (gm 20), .ref (gm 21), .int 0, .int 0, .int 0, .int 0, .int 0, .int 0, .ref (gm 28), .ref (gm 29)])), (hr, .inl (kI, 2, .inl (fun _ => 0))), (gm 7, .inl (kA, 6, .inr (.inr (.inr (.inr F))))), (rr, .inl (kY, 5, .inl (fun _ => 0))), (o, .inl (kL, 1, .inr (.inl (fun _ => 0))))] := hD
  obtain rfl := h_6
  refine lv_istore (lv' := [(5, .int 1), (4, .int 0), (3, .ref o), (2, .ref hm), (1, .ref h0), (0, .ref b)]) hx hb dL_law_793 hl (by decide) rfl (fun ls hl => ?_)
  refine lv_aload_n hx hb dL_law_795 rfl (lv_at hl 3 rfl) ?_
  refine lv_aload_n hx hb dL_law_796 rfl (lv_at hl 5 rfl) ?_
  refine lv_iload hx hb dL_law_797 (lv_at hl 1 rfl) ?_
  refine lv_iconst (v := 1) hx hb dL_law_799 (by decide) ?_
  refine lv_iadd hx hb dL_law_800 ?_
  refine lv_topi (fun x_7 ex_7 => ?_)
  obtain rfl : x_7 = 1 := ex_7.trans (by decide)
  refine va_sld hx hb hX hbl hbA hS (i := 1) (by unfold vp_in; decide) dL_law_801 ?_
  refine W.eq (g2 := F0 m 802 ls [.int (xs 1), .ref hm]) rfl ?_
  refine lv_aload_n hx hb dL_law_802 rfl (lv_at hl 5 rfl) ?_
  refine lv_iload hx hb dL_law_803 (lv_at hl 1 rfl) ?_
  refine lv_iconst (v := 2) hx hb dL_law_805 (by decide) ?_
  refine lv_iadd hx hb dL_law_806 ?_
  refine lv_topi (fun x_8 ex_8 => ?_)
  obtain rfl : x_8 = 2 := ex_8.trans (by decide)
  refine va_sld hx hb hX hbl hbA hS (i := 2) (by unfold vp_in; decide) dL_law_807 ?_
  refine W.eq (g2 := F0 m 808 ls [.int (xs 2), .int (xs 1), .ref hm]) rfl ?_
  have f_9 := free_of (wc := [(hm, .inr (12, [.int 0, .ref hr, .int 0, .int 0, .int 0, .int 0, .int 0, .ref (gm 7), .ref (gm 8), .ref (gm 9), .ref (gm 10), .ref (gm 11), .ref (gm 12), .ref (gm 13), .ref (gm 14), .int 0, .ref (gm 16), .int 0, .int 0, .int 0, .ref (gm 20), .ref (gm 21), .int 0, .int 0, .int 0, .int 0, .int 0, .int 0, .ref (gm 28), .ref (gm 29)])), (hr, .inl (kI, 2, .inl (fun _ => 0)))]) hD hS hA [1, 2] rfl
  refine va_calli (va_runV (As := [.int (xs 1), .int (xs 2)]) (rest := []) ⟨hx, hb, hml, hown, hts⟩ (c_m_fund l D a1 a2 H.size hm hr gm kI (xs 1) (xs 2)) (cwV 2 hts (gV w_493 w_494 w_495 w_244 w_496) rfl rfl rfl (by decide +kernel) ⟨Nat.le_of_ble_eq_true rfl, Nat.le_of_ble_eq_true rfl⟩) (pre_V hK hP hD hS hA hE [1, 2] rfl (by decide) rfl [1] rfl (ci := 12) (q0 := 1) rfl rfl) rfl rfl hl.1 rfl (lv_room (Nat.le_of_ble_eq_true rfl)) dL_law_808 ⟨Nat.le_of_ble_eq_true rfl, Nat.le_of_ble_eq_true rfl⟩) hS (fun q _ h => f_9 q h) f_9 (fun r_10 u_11 t H1 locs ht hvm h_12 hB hz1 hk1 hS => ?_)
  obtain ⟨hP, hD⟩ := join (wc := [(hm, .inr (12, [.int 0, .ref hr, .int 0, .int 0, .int 0, .int 0, .int 0, .ref (gm 7), .ref (gm 8), .ref (gm 9), .ref (gm 10), .ref (gm 11), .ref (gm 12), .ref (gm 13), .ref (gm 14), .int 0, .ref (gm 16), .int 0, .int 0, .int 0, .ref (gm 20), .ref (gm 21), .int 0, .int 0, .int 0, .int 0, .int 0, .int 0, .ref (gm 28), .ref (gm 29)])), (hr, .inl (kI, 2, .inl (fun _ => 0)))]) (wr := [(gn 0, .inl (kP, 6, .inr (.inr (.inr (.inr (fun _ => none)))))), (gm 7, .inl (kA, 6, .inr (.inr (.inr (.inr F))))), (rr, .inl (kY, 5, .inl (fun _ => 0))), (o, .inl (kL, 1, .inr (.inl (fun _ => 0))))]) (w1 := [(hm, .inr (12, u_11))]) hP hD f_9 [1, 2] [0, 3, 4, 5] rfl rfl (by decide) (by decide) hk1 ht hB
  generalize H1 = H at hP hS ⊢
  have hP : va_P D vwCl [(gn 0, .inl (kP, 6, .inr (.inr (.inr (.inr (fun _ => none)))))), (gm 7, .inl (kA, 6, .inr (.inr (.inr (.inr F))))), (rr, .inl (kY, 5, .inl (fun _ => 0))), (o, .inl (kL, 1, .inr (.inl (fun _ => 0)))), (hm, .inr (12, u_11))] H := hP
  have hD : va_D (fun q : Nat => s.heap.size ≤ q) [(gn 0, .inl (kP, 6, .inr (.inr (.inr (.inr (fun _ => none)))))), (gm 7, .inl (kA, 6, .inr (.inr (.inr (.inr F))))), (rr, .inl (kY, 5, .inl (fun _ => 0))), (o, .inl (kL, 1, .inr (.inl (fun _ => 0)))), (hm, .inr (12, u_11))] := hD
  refine lv_istore (lv' := [(6, .int r_10), (5, .int 1), (4, .int 0), (3, .ref o), (2, .ref hm), (1, .ref h0), (0, .ref b)]) hx hb dL_law_811 hl (by decide) rfl (fun ls hl => ?_)
  refine lv_aload_n hx hb dL_law_813 rfl (lv_at hl 4 rfl) ?_
  have f_13 := free_of (wc := [(hm, .inr (12, u_11))]) hD hS hA [4] rfl
  refine va_calli (va_runV (As := []) (rest := []) ⟨hx, hb, hml, hown, hts⟩ (c_thrown l D a1 a2 H.size hm u_11 1 h_12) (cwV 0 hts (gV w_458 w_459 w_460 w_244 w_461) rfl rfl rfl (by decide +kernel) ⟨Nat.le_of_ble_eq_true rfl, Nat.le_of_ble_eq_true rfl⟩) (pre_V hK hP hD hS hA hE [4] rfl (by decide) rfl [] rfl (ci := 12) (q0 := 4) rfl rfl) rfl rfl hl.1 rfl (lv_room (Nat.le_of_ble_eq_true rfl)) dL_law_814 ⟨Nat.le_of_ble_eq_true rfl, Nat.le_of_ble_eq_true rfl⟩) hS (fun q _ h => f_13 q h) f_13 (fun r_14 u_15 t H1 locs ht hvm h_16 hB hz1 hk1 hS => ?_)
  obtain ⟨hP, hD⟩ := join (wc := [(hm, .inr (12, u_11))]) (wr := [(gn 0, .inl (kP, 6, .inr (.inr (.inr (.inr (fun _ => none)))))), (gm 7, .inl (kA, 6, .inr (.inr (.inr (.inr F))))), (rr, .inl (kY, 5, .inl (fun _ => 0))), (o, .inl (kL, 1, .inr (.inl (fun _ => 0))))]) (w1 := [(hm, .inr (12, u_11))]) hP hD f_13 [4] [0, 1, 2, 3] rfl rfl (by decide) (by decide) hk1 ht hB
  generalize H1 = H at hP hS ⊢
  have hP : va_P D vwCl [(gn 0, .inl (kP, 6, .inr (.inr (.inr (.inr (fun _ => none)))))), (gm 7, .inl (kA, 6, .inr (.inr (.inr (.inr F))))), (rr, .inl (kY, 5, .inl (fun _ => 0))), (o, .inl (kL, 1, .inr (.inl (fun _ => 0)))), (hm, .inr (12, u_11))] H := hP
  have hD : va_D (fun q : Nat => s.heap.size ≤ q) [(gn 0, .inl (kP, 6, .inr (.inr (.inr (.inr (fun _ => none)))))), (gm 7, .inl (kA, 6, .inr (.inr (.inr (.inr F))))), (rr, .inl (kY, 5, .inl (fun _ => 0))), (o, .inl (kL, 1, .inr (.inl (fun _ => 0)))), (hm, .inr (12, u_11))] := hD
  obtain rfl := h_16
  refine lv_iload hx hb dL_law_817 (lv_at hl 1 rfl) ?_
  refine lv_icmp_eq (tgt := 824) hx hb dL_law_819 (by decide) (fun _ => ?_) (fun c => absurd (by decide) c)
  refine lv_iload hx hb dL_law_824 (lv_at hl 1 rfl) ?_
  refine lv_if_ne (tgt := 841) hx hb dL_law_826 (by decide) (fun _ => ?_) (fun c => absurd c (by decide))
  refine lv_goto (tgt := 3913) hx hb dL_law_841 (by decide) ?_
  exact law_tail hx hb hr_ hlocks hX hbl hS (Nat.le_of_ble_eq_true rfl) (Nat.le_of_ble_eq_true rfl) (lv_sub hl [2, 6] rfl)
set_option maxRecDepth 100000 in
set_option maxHeartbeats 4000000 in
theorem case_7 {p : Program} {l : Launch} (hl9 : l.stackTraces = false) {e : Env} {s : State} {m : MethodId} {below : List Frame} {meth : Method} {c : Code} {D : va_G} {a1 a2 b : Nat} {xs : Nat → Int32} {H : Heap} {locs : List Loc} {ls : Array Slot} (h0 h1 h2 : Nat) (g gn gb : Nat → Nat) (kP : ClassId) (hm hr rr : Nat) (gm : Nat → Nat) (kI kA kY : ClassId) (F : Nat → Option Nat) (o : Nat) (kL : ClassId) (hG : LawSt D a1 a2 p s m meth c b xs H locs ls h0 h1 h2 g gn gb kP hm hr rr gm kI kA kY F o kL) : W p l e room_1 s m #[Value.ref b] below meth c H locs 5338 65502 (lw_Z below #[Value.ref b] s) (F0 m 844 ls []) := by
  obtain ⟨hx, hb, hr_, hml, hown, hts, hX, hbl, hlocks, hP, hK, hD, hA, hE, hS, hF, hl⟩ := hG
  have hbA : ¬ (fun q : Nat => s.heap.size ≤ q) b := Nat.not_le.mpr hbl
  refine lv_aload_n hx hb dL_law_844 rfl (lv_at hl 3 rfl) ?_
  refine lv_aload_n hx hb dL_law_845 rfl (lv_at hl 4 rfl) ?_
  refine lv_iload hx hb dL_law_846 (lv_at hl 0 rfl) ?_
  refine lv_iconst (v := 1) hx hb dL_law_848 (by decide) ?_
  refine lv_iadd hx hb dL_law_849 ?_
  refine lv_topi (fun x_1 ex_1 => ?_)
  obtain rfl : x_1 = 1 := ex_1.trans (by decide)
  refine va_sld hx hb hX hbl hbA hS (i := 1) (by unfold vp_in; decide) dL_law_850 ?_
  refine W.eq (g2 := F0 m 851 ls [.int (xs 1), .ref h0]) rfl ?_
  refine lv_aload_n hx hb dL_law_851 rfl (lv_at hl 4 rfl) ?_
  refine lv_iload hx hb dL_law_852 (lv_at hl 0 rfl) ?_
  refine lv_iconst (v := 2) hx hb dL_law_854 (by decide) ?_
  refine lv_iadd hx hb dL_law_855 ?_
  refine lv_topi (fun x_2 ex_2 => ?_)
  obtain rfl : x_2 = 2 := ex_2.trans (by decide)
  refine va_sld hx hb hX hbl hbA hS (i := 2) (by unfold vp_in; decide) dL_law_856 ?_
  refine W.eq (g2 := F0 m 857 ls [.int (xs 2), .int (xs 1), .ref h0]) rfl ?_
  refine lv_aload_n hx hb dL_law_857 rfl (lv_at hl 1 rfl) ?_
  have f_3 := free_of (wc := [(h0, .inr (11, [.ref h1, .ref h2, .ref (g 2), .ref (g 3), .ref (g 4), .ref (g 5), .ref (g 6), .int 0, .int 0, .int 0, .int 0])), (h1, .inr (6, [.ref (gn 0), .int 0, .ref (gn 2), .ref (gn 3), .int 0, .ref (gn 5), .int 0, .int 0])), (h2, .inr (1, [.ref h1, .ref (gb 1), .int 0]))]) hD hS hA [0, 1, 2] rfl
  refine vx_calli (vx_runSX (As := [.ref h0, .int (xs 1), .int (xs 2), .ref o]) (rest := []) ⟨hx, hb, hml, hown, hts⟩ (c_h_draw l hl9 D a1 a2 H.size h0 h1 h2 g gn gb (xs 1) (xs 2) o) (vx_cwSW 4 hts (gSW w_497 w_498 w_450 w_499) rfl rfl rfl (by decide +kernel) ⟨Nat.le_of_ble_eq_true rfl, Nat.le_of_ble_eq_true rfl⟩) (pre_S hK hP hD hS hA hE [0, 1, 2] rfl (by decide) rfl [] rfl) rfl rfl hl.1 rfl (lv_room (Nat.le_of_ble_eq_true rfl)) dL_law_858 ⟨Nat.le_of_ble_eq_true rfl, Nat.le_of_ble_eq_true rfl⟩) hS (fun q _ h => f_3 q h) f_3 (fun q _ h => f_3 q h) (fun E ce q9 u9 t H locs ht hvm hw hB hz1 hk1 hS hce hcv hcl => False.elim hw) (fun r_4 u_5 t H1 locs ht hvm h_6 hB hz1 hk1 hS => ?_)
  obtain ⟨hP, hD⟩ := join (wc := [(h0, .inr (11, [.ref h1, .ref h2, .ref (g 2), .ref (g 3), .ref (g 4), .ref (g 5), .ref (g 6), .int 0, .int 0, .int 0, .int 0])), (h1, .inr (6, [.ref (gn 0), .int 0, .ref (gn 2), .ref (gn 3), .int 0, .ref (gn 5), .int 0, .int 0])), (h2, .inr (1, [.ref h1, .ref (gb 1), .int 0]))]) (wr := [(gn 0, .inl (kP, 6, .inr (.inr (.inr (.inr (fun _ => none)))))), (hm, .inr (12, [.int 0, .ref hr, .int 0, .int 0, .int 0, .int 0, .int 0, .ref (gm 7), .ref (gm 8), .ref (gm 9), .ref (gm 10), .ref (gm 11), .ref (gm 12), .ref (gm 13), .ref (gm 14), .int 0, .ref (gm 16), .int 0, .int 0, .int 0, .ref (gm 20), .ref (gm 21), .int 0, .int 0, .int 0, .int 0, .int 0, .int 0, .ref (gm 28), .ref (gm 29)])), (hr, .inl (kI, 2, .inl (fun _ => 0))), (gm 7, .inl (kA, 6, .inr (.inr (.inr (.inr F))))), (rr, .inl (kY, 5, .inl (fun _ => 0))), (o, .inl (kL, 1, .inr (.inl (fun _ => 0))))]) (w1 := []) hP hD f_3 [0, 1, 2] [3, 4, 5, 6, 7, 8] rfl rfl (by decide) (by decide) hk1 ht wat_nil
  generalize H1 = H at hP hS ⊢
  have hP : va_P D vwCl [(gn 0, .inl (kP, 6, .inr (.inr (.inr (.inr (fun _ => none)))))), (hm, .inr (12, [.int 0, .ref hr, .int 0, .int 0, .int 0, .int 0, .int 0, .ref (gm 7), .ref (gm 8), .ref (gm 9), .ref (gm 10), .ref (gm 11), .ref (gm 12), .ref (gm 13), .ref (gm 14), .int 0, .ref (gm 16), .int 0, .int 0, .int 0, .ref (gm 20), .ref (gm 21), .int 0, .int 0, .int 0, .int 0, .int 0, .int 0, .ref (gm 28), .ref (gm 29)])), (hr, .inl (kI, 2, .inl (fun _ => 0))), (gm 7, .inl (kA, 6, .inr (.inr (.inr (.inr F))))), (rr, .inl (kY, 5, .inl (fun _ => 0))), (o, .inl (kL, 1, .inr (.inl (fun _ => 0))))] H := hP
  have hD : va_D (fun q : Nat => s.heap.size ≤ q) [(gn 0, .inl (kP, 6, .inr (.inr (.inr (.inr (fun _ => none)))))), (hm, .inr (12, [.int 0, .ref hr, .int 0, .int 0, .int 0, .int 0, .int 0, .ref (gm 7), .ref (gm 8), .ref (gm 9), .ref (gm 10), .ref (gm 11), .ref (gm 12), .ref (gm 13), .ref (gm 14), .int 0, .ref (gm 16), .int 0, .int 0, .int 0, .ref (gm 20), .ref (gm 21), .int 0, .int 0, .int 0, .int 0, .int 0, .int 0, .ref (gm 28), .ref (gm 29)])), (hr, .inl (kI, 2, .inl (fun _ => 0))), (gm 7, .inl (kA, 6, .inr (.inr (.inr (.inr F))))), (rr, .inl (kY, 5, .inl (fun _ => 0))), (o, .inl (kL, 1, .inr (.inl (fun _ => 0))))] := hD
  obtain rfl := h_6
  refine lv_istore (lv' := [(5, .int 1), (4, .int 0), (3, .ref o), (2, .ref hm), (1, .ref h0), (0, .ref b)]) hx hb dL_law_861 hl (by decide) rfl (fun ls hl => ?_)
  refine lv_aload_n hx hb dL_law_863 rfl (lv_at hl 3 rfl) ?_
  refine lv_aload_n hx hb dL_law_864 rfl (lv_at hl 5 rfl) ?_
  refine lv_iload hx hb dL_law_865 (lv_at hl 1 rfl) ?_
  refine lv_iconst (v := 1) hx hb dL_law_867 (by decide) ?_
  refine lv_iadd hx hb dL_law_868 ?_
  refine lv_topi (fun x_7 ex_7 => ?_)
  obtain rfl : x_7 = 1 := ex_7.trans (by decide)
  refine va_sld hx hb hX hbl hbA hS (i := 1) (by unfold vp_in; decide) dL_law_869 ?_
  refine W.eq (g2 := F0 m 870 ls [.int (xs 1), .ref hm]) rfl ?_
  refine lv_aload_n hx hb dL_law_870 rfl (lv_at hl 5 rfl) ?_
  refine lv_iload hx hb dL_law_871 (lv_at hl 1 rfl) ?_
  refine lv_iconst (v := 2) hx hb dL_law_873 (by decide) ?_
  refine lv_iadd hx hb dL_law_874 ?_
  refine lv_topi (fun x_8 ex_8 => ?_)
  obtain rfl : x_8 = 2 := ex_8.trans (by decide)
  refine va_sld hx hb hX hbl hbA hS (i := 2) (by unfold vp_in; decide) dL_law_875 ?_
  refine W.eq (g2 := F0 m 876 ls [.int (xs 2), .int (xs 1), .ref hm]) rfl ?_
  have f_9 := free_of (wc := [(hm, .inr (12, [.int 0, .ref hr, .int 0, .int 0, .int 0, .int 0, .int 0, .ref (gm 7), .ref (gm 8), .ref (gm 9), .ref (gm 10), .ref (gm 11), .ref (gm 12), .ref (gm 13), .ref (gm 14), .int 0, .ref (gm 16), .int 0, .int 0, .int 0, .ref (gm 20), .ref (gm 21), .int 0, .int 0, .int 0, .int 0, .int 0, .int 0, .ref (gm 28), .ref (gm 29)])), (hr, .inl (kI, 2, .inl (fun _ => 0)))]) hD hS hA [1, 2] rfl
  refine va_calli (va_runV (As := [.int (xs 1), .int (xs 2)]) (rest := []) ⟨hx, hb, hml, hown, hts⟩ (c_m_draw l D a1 a2 H.size hm hr gm kI (xs 1) (xs 2)) (cwV 2 hts (gV w_500 w_501 w_502 w_244 w_503) rfl rfl rfl (by decide +kernel) ⟨Nat.le_of_ble_eq_true rfl, Nat.le_of_ble_eq_true rfl⟩) (pre_V hK hP hD hS hA hE [1, 2] rfl (by decide) rfl [1] rfl (ci := 12) (q0 := 1) rfl rfl) rfl rfl hl.1 rfl (lv_room (Nat.le_of_ble_eq_true rfl)) dL_law_876 ⟨Nat.le_of_ble_eq_true rfl, Nat.le_of_ble_eq_true rfl⟩) hS (fun q _ h => f_9 q h) f_9 (fun r_10 u_11 t H1 locs ht hvm h_12 hB hz1 hk1 hS => ?_)
  obtain ⟨hP, hD⟩ := join (wc := [(hm, .inr (12, [.int 0, .ref hr, .int 0, .int 0, .int 0, .int 0, .int 0, .ref (gm 7), .ref (gm 8), .ref (gm 9), .ref (gm 10), .ref (gm 11), .ref (gm 12), .ref (gm 13), .ref (gm 14), .int 0, .ref (gm 16), .int 0, .int 0, .int 0, .ref (gm 20), .ref (gm 21), .int 0, .int 0, .int 0, .int 0, .int 0, .int 0, .ref (gm 28), .ref (gm 29)])), (hr, .inl (kI, 2, .inl (fun _ => 0)))]) (wr := [(gn 0, .inl (kP, 6, .inr (.inr (.inr (.inr (fun _ => none)))))), (gm 7, .inl (kA, 6, .inr (.inr (.inr (.inr F))))), (rr, .inl (kY, 5, .inl (fun _ => 0))), (o, .inl (kL, 1, .inr (.inl (fun _ => 0))))]) (w1 := [(hm, .inr (12, u_11))]) hP hD f_9 [1, 2] [0, 3, 4, 5] rfl rfl (by decide) (by decide) hk1 ht hB
  generalize H1 = H at hP hS ⊢
  have hP : va_P D vwCl [(gn 0, .inl (kP, 6, .inr (.inr (.inr (.inr (fun _ => none)))))), (gm 7, .inl (kA, 6, .inr (.inr (.inr (.inr F))))), (rr, .inl (kY, 5, .inl (fun _ => 0))), (o, .inl (kL, 1, .inr (.inl (fun _ => 0)))), (hm, .inr (12, u_11))] H := hP
  have hD : va_D (fun q : Nat => s.heap.size ≤ q) [(gn 0, .inl (kP, 6, .inr (.inr (.inr (.inr (fun _ => none)))))), (gm 7, .inl (kA, 6, .inr (.inr (.inr (.inr F))))), (rr, .inl (kY, 5, .inl (fun _ => 0))), (o, .inl (kL, 1, .inr (.inl (fun _ => 0)))), (hm, .inr (12, u_11))] := hD
  refine lv_istore (lv' := [(6, .int r_10), (5, .int 1), (4, .int 0), (3, .ref o), (2, .ref hm), (1, .ref h0), (0, .ref b)]) hx hb dL_law_879 hl (by decide) rfl (fun ls hl => ?_)
  refine lv_aload_n hx hb dL_law_881 rfl (lv_at hl 4 rfl) ?_
  have f_13 := free_of (wc := [(hm, .inr (12, u_11))]) hD hS hA [4] rfl
  refine va_calli (va_runV (As := []) (rest := []) ⟨hx, hb, hml, hown, hts⟩ (c_thrown l D a1 a2 H.size hm u_11 1 h_12) (cwV 0 hts (gV w_458 w_459 w_460 w_244 w_461) rfl rfl rfl (by decide +kernel) ⟨Nat.le_of_ble_eq_true rfl, Nat.le_of_ble_eq_true rfl⟩) (pre_V hK hP hD hS hA hE [4] rfl (by decide) rfl [] rfl (ci := 12) (q0 := 4) rfl rfl) rfl rfl hl.1 rfl (lv_room (Nat.le_of_ble_eq_true rfl)) dL_law_882 ⟨Nat.le_of_ble_eq_true rfl, Nat.le_of_ble_eq_true rfl⟩) hS (fun q _ h => f_13 q h) f_13 (fun r_14 u_15 t H1 locs ht hvm h_16 hB hz1 hk1 hS => ?_)
  obtain ⟨hP, hD⟩ := join (wc := [(hm, .inr (12, u_11))]) (wr := [(gn 0, .inl (kP, 6, .inr (.inr (.inr (.inr (fun _ => none)))))), (gm 7, .inl (kA, 6, .inr (.inr (.inr (.inr F))))), (rr, .inl (kY, 5, .inl (fun _ => 0))), (o, .inl (kL, 1, .inr (.inl (fun _ => 0))))]) (w1 := [(hm, .inr (12, u_11))]) hP hD f_13 [4] [0, 1, 2, 3] rfl rfl (by decide) (by decide) hk1 ht hB
  generalize H1 = H at hP hS ⊢
  have hP : va_P D vwCl [(gn 0, .inl (kP, 6, .inr (.inr (.inr (.inr (fun _ => none)))))), (gm 7, .inl (kA, 6, .inr (.inr (.inr (.inr F))))), (rr, .inl (kY, 5, .inl (fun _ => 0))), (o, .inl (kL, 1, .inr (.inl (fun _ => 0)))), (hm, .inr (12, u_11))] H := hP
  have hD : va_D (fun q : Nat => s.heap.size ≤ q) [(gn 0, .inl (kP, 6, .inr (.inr (.inr (.inr (fun _ => none)))))), (gm 7, .inl (kA, 6, .inr (.inr (.inr (.inr F))))), (rr, .inl (kY, 5, .inl (fun _ => 0))), (o, .inl (kL, 1, .inr (.inl (fun _ => 0)))), (hm, .inr (12, u_11))] := hD
  obtain rfl := h_16
  refine lv_iload hx hb dL_law_885 (lv_at hl 1 rfl) ?_
  refine lv_icmp_eq (tgt := 892) hx hb dL_law_887 (by decide) (fun _ => ?_) (fun c => absurd (by decide) c)
  refine lv_iload hx hb dL_law_892 (lv_at hl 1 rfl) ?_
  refine lv_if_ne (tgt := 909) hx hb dL_law_894 (by decide) (fun _ => ?_) (fun c => absurd c (by decide))
  refine lv_goto (tgt := 3913) hx hb dL_law_909 (by decide) ?_
  exact law_tail hx hb hr_ hlocks hX hbl hS (Nat.le_of_ble_eq_true rfl) (Nat.le_of_ble_eq_true rfl) (lv_sub hl [2, 6] rfl)
set_option maxRecDepth 100000 in
set_option maxHeartbeats 4000000 in
theorem case_8 {p : Program} {l : Launch} (hl9 : l.stackTraces = false) {e : Env} {s : State} {m : MethodId} {below : List Frame} {meth : Method} {c : Code} {D : va_G} {a1 a2 b : Nat} {xs : Nat → Int32} {H : Heap} {locs : List Loc} {ls : Array Slot} (h0 h1 h2 : Nat) (g gn gb : Nat → Nat) (kP : ClassId) (hm hr rr : Nat) (gm : Nat → Nat) (kI kA kY : ClassId) (F : Nat → Option Nat) (o : Nat) (kL : ClassId) (hG : LawSt D a1 a2 p s m meth c b xs H locs ls h0 h1 h2 g gn gb kP hm hr rr gm kI kA kY F o kL) : W p l e room_1 s m #[Value.ref b] below meth c H locs 5338 65502 (lw_Z below #[Value.ref b] s) (F0 m 912 ls []) := by
  obtain ⟨hx, hb, hr_, hml, hown, hts, hX, hbl, hlocks, hP, hK, hD, hA, hE, hS, hF, hl⟩ := hG
  have hbA : ¬ (fun q : Nat => s.heap.size ≤ q) b := Nat.not_le.mpr hbl
  refine lv_aload_n hx hb dL_law_912 rfl (lv_at hl 3 rfl) ?_
  refine lv_aload_n hx hb dL_law_913 rfl (lv_at hl 4 rfl) ?_
  refine lv_iload hx hb dL_law_914 (lv_at hl 0 rfl) ?_
  refine lv_iconst (v := 1) hx hb dL_law_916 (by decide) ?_
  refine lv_iadd hx hb dL_law_917 ?_
  refine lv_topi (fun x_1 ex_1 => ?_)
  obtain rfl : x_1 = 1 := ex_1.trans (by decide)
  refine va_sld hx hb hX hbl hbA hS (i := 1) (by unfold vp_in; decide) dL_law_918 ?_
  refine W.eq (g2 := F0 m 919 ls [.int (xs 1), .ref h0]) rfl ?_
  refine lv_aload_n hx hb dL_law_919 rfl (lv_at hl 4 rfl) ?_
  refine lv_iload hx hb dL_law_920 (lv_at hl 0 rfl) ?_
  refine lv_iconst (v := 2) hx hb dL_law_922 (by decide) ?_
  refine lv_iadd hx hb dL_law_923 ?_
  refine lv_topi (fun x_2 ex_2 => ?_)
  obtain rfl : x_2 = 2 := ex_2.trans (by decide)
  refine va_sld hx hb hX hbl hbA hS (i := 2) (by unfold vp_in; decide) dL_law_924 ?_
  refine W.eq (g2 := F0 m 925 ls [.int (xs 2), .int (xs 1), .ref h0]) rfl ?_
  refine lv_if_eq (tgt := 932) hx hb dL_law_925 (by decide) (fun c_3 => ?_) (fun c_3 => ?_)
  · refine lv_iconst (v := 0) hx hb dL_law_932 (by decide) ?_
    refine lv_aload_n hx hb dL_law_933 rfl (lv_at hl 1 rfl) ?_
    have f_4 := free_of (wc := [(h0, .inr (11, [.ref h1, .ref h2, .ref (g 2), .ref (g 3), .ref (g 4), .ref (g 5), .ref (g 6), .int 0, .int 0, .int 0, .int 0])), (h1, .inr (6, [.ref (gn 0), .int 0, .ref (gn 2), .ref (gn 3), .int 0, .ref (gn 5), .int 0, .int 0])), (h2, .inr (1, [.ref h1, .ref (gb 1), .int 0]))]) hD hS hA [0, 1, 2] rfl
    refine vx_calli (vx_runSX (As := [.ref h0, .int (xs 1), .int 0, .ref o]) (rest := []) ⟨hx, hb, hml, hown, hts⟩ (c_h_shut l hl9 D a1 a2 H.size h0 h1 h2 g gn gb (xs 1) (0) o) (vx_cwSW 4 hts (gSW w_504 w_505 w_450 w_506) rfl rfl rfl (by decide +kernel) ⟨Nat.le_of_ble_eq_true rfl, Nat.le_of_ble_eq_true rfl⟩) (pre_S hK hP hD hS hA hE [0, 1, 2] rfl (by decide) rfl [] rfl) rfl rfl hl.1 rfl (lv_room (Nat.le_of_ble_eq_true rfl)) dL_law_934 ⟨Nat.le_of_ble_eq_true rfl, Nat.le_of_ble_eq_true rfl⟩) hS (fun q _ h => f_4 q h) f_4 (fun q _ h => f_4 q h) (fun E ce q9 u9 t H locs ht hvm hw hB hz1 hk1 hS hce hcv hcl => False.elim hw) (fun r_5 u_6 t H1 locs ht hvm h_7 hB hz1 hk1 hS => ?_)
    obtain ⟨hP, hD⟩ := join (wc := [(h0, .inr (11, [.ref h1, .ref h2, .ref (g 2), .ref (g 3), .ref (g 4), .ref (g 5), .ref (g 6), .int 0, .int 0, .int 0, .int 0])), (h1, .inr (6, [.ref (gn 0), .int 0, .ref (gn 2), .ref (gn 3), .int 0, .ref (gn 5), .int 0, .int 0])), (h2, .inr (1, [.ref h1, .ref (gb 1), .int 0]))]) (wr := [(gn 0, .inl (kP, 6, .inr (.inr (.inr (.inr (fun _ => none)))))), (hm, .inr (12, [.int 0, .ref hr, .int 0, .int 0, .int 0, .int 0, .int 0, .ref (gm 7), .ref (gm 8), .ref (gm 9), .ref (gm 10), .ref (gm 11), .ref (gm 12), .ref (gm 13), .ref (gm 14), .int 0, .ref (gm 16), .int 0, .int 0, .int 0, .ref (gm 20), .ref (gm 21), .int 0, .int 0, .int 0, .int 0, .int 0, .int 0, .ref (gm 28), .ref (gm 29)])), (hr, .inl (kI, 2, .inl (fun _ => 0))), (gm 7, .inl (kA, 6, .inr (.inr (.inr (.inr F))))), (rr, .inl (kY, 5, .inl (fun _ => 0))), (o, .inl (kL, 1, .inr (.inl (fun _ => 0))))]) (w1 := []) hP hD f_4 [0, 1, 2] [3, 4, 5, 6, 7, 8] rfl rfl (by decide) (by decide) hk1 ht wat_nil
    generalize H1 = H at hP hS ⊢
    have hP : va_P D vwCl [(gn 0, .inl (kP, 6, .inr (.inr (.inr (.inr (fun _ => none)))))), (hm, .inr (12, [.int 0, .ref hr, .int 0, .int 0, .int 0, .int 0, .int 0, .ref (gm 7), .ref (gm 8), .ref (gm 9), .ref (gm 10), .ref (gm 11), .ref (gm 12), .ref (gm 13), .ref (gm 14), .int 0, .ref (gm 16), .int 0, .int 0, .int 0, .ref (gm 20), .ref (gm 21), .int 0, .int 0, .int 0, .int 0, .int 0, .int 0, .ref (gm 28), .ref (gm 29)])), (hr, .inl (kI, 2, .inl (fun _ => 0))), (gm 7, .inl (kA, 6, .inr (.inr (.inr (.inr F))))), (rr, .inl (kY, 5, .inl (fun _ => 0))), (o, .inl (kL, 1, .inr (.inl (fun _ => 0))))] H := hP
    have hD : va_D (fun q : Nat => s.heap.size ≤ q) [(gn 0, .inl (kP, 6, .inr (.inr (.inr (.inr (fun _ => none)))))), (hm, .inr (12, [.int 0, .ref hr, .int 0, .int 0, .int 0, .int 0, .int 0, .ref (gm 7), .ref (gm 8), .ref (gm 9), .ref (gm 10), .ref (gm 11), .ref (gm 12), .ref (gm 13), .ref (gm 14), .int 0, .ref (gm 16), .int 0, .int 0, .int 0, .ref (gm 20), .ref (gm 21), .int 0, .int 0, .int 0, .int 0, .int 0, .int 0, .ref (gm 28), .ref (gm 29)])), (hr, .inl (kI, 2, .inl (fun _ => 0))), (gm 7, .inl (kA, 6, .inr (.inr (.inr (.inr F))))), (rr, .inl (kY, 5, .inl (fun _ => 0))), (o, .inl (kL, 1, .inr (.inl (fun _ => 0))))] := hD
    obtain rfl := h_7
    refine lv_istore (lv' := [(5, .int 1), (4, .int 0), (3, .ref o), (2, .ref hm), (1, .ref h0), (0, .ref b)]) hx hb dL_law_937 hl (by decide) rfl (fun ls hl => ?_)
    refine lv_aload_n hx hb dL_law_939 rfl (lv_at hl 3 rfl) ?_
    refine lv_aload_n hx hb dL_law_940 rfl (lv_at hl 5 rfl) ?_
    refine lv_iload hx hb dL_law_941 (lv_at hl 1 rfl) ?_
    refine lv_iconst (v := 1) hx hb dL_law_943 (by decide) ?_
    refine lv_iadd hx hb dL_law_944 ?_
    refine lv_topi (fun x_8 ex_8 => ?_)
    obtain rfl : x_8 = 1 := ex_8.trans (by decide)
    refine va_sld hx hb hX hbl hbA hS (i := 1) (by unfold vp_in; decide) dL_law_945 ?_
    refine W.eq (g2 := F0 m 946 ls [.int (xs 1), .ref hm]) rfl ?_
    refine lv_aload_n hx hb dL_law_946 rfl (lv_at hl 5 rfl) ?_
    refine lv_iload hx hb dL_law_947 (lv_at hl 1 rfl) ?_
    refine lv_iconst (v := 2) hx hb dL_law_949 (by decide) ?_
    refine lv_iadd hx hb dL_law_950 ?_
    refine lv_topi (fun x_9 ex_9 => ?_)
    obtain rfl : x_9 = 2 := ex_9.trans (by decide)
    refine va_sld hx hb hX hbl hbA hS (i := 2) (by unfold vp_in; decide) dL_law_951 ?_
    refine W.eq (g2 := F0 m 952 ls [.int (xs 2), .int (xs 1), .ref hm]) rfl ?_
    refine lv_if_eq (tgt := 959) hx hb dL_law_952 (by decide) (fun c_10 => ?_) (fun c_10 => ?_)
    · refine lv_iconst (v := 0) hx hb dL_law_959 (by decide) ?_
      have f_11 := free_of (wc := [(hm, .inr (12, [.int 0, .ref hr, .int 0, .int 0, .int 0, .int 0, .int 0, .ref (gm 7), .ref (gm 8), .ref (gm 9), .ref (gm 10), .ref (gm 11), .ref (gm 12), .ref (gm 13), .ref (gm 14), .int 0, .ref (gm 16), .int 0, .int 0, .int 0, .ref (gm 20), .ref (gm 21), .int 0, .int 0, .int 0, .int 0, .int 0, .int 0, .ref (gm 28), .ref (gm 29)])), (hr, .inl (kI, 2, .inl (fun _ => 0)))]) hD hS hA [1, 2] rfl
      refine va_calli (va_runV (As := [.int (xs 1), .int 0]) (rest := []) ⟨hx, hb, hml, hown, hts⟩ (c_m_shut l D a1 a2 H.size hm hr gm kI (xs 1) (0)) (cwV 2 hts (gV w_507 w_508 w_509 w_244 w_510) rfl rfl rfl (by decide +kernel) ⟨Nat.le_of_ble_eq_true rfl, Nat.le_of_ble_eq_true rfl⟩) (pre_V hK hP hD hS hA hE [1, 2] rfl (by decide) rfl [1] rfl (ci := 12) (q0 := 1) rfl rfl) rfl rfl hl.1 rfl (lv_room (Nat.le_of_ble_eq_true rfl)) dL_law_960 ⟨Nat.le_of_ble_eq_true rfl, Nat.le_of_ble_eq_true rfl⟩) hS (fun q _ h => f_11 q h) f_11 (fun r_12 u_13 t H1 locs ht hvm h_14 hB hz1 hk1 hS => ?_)
      obtain ⟨hP, hD⟩ := join (wc := [(hm, .inr (12, [.int 0, .ref hr, .int 0, .int 0, .int 0, .int 0, .int 0, .ref (gm 7), .ref (gm 8), .ref (gm 9), .ref (gm 10), .ref (gm 11), .ref (gm 12), .ref (gm 13), .ref (gm 14), .int 0, .ref (gm 16), .int 0, .int 0, .int 0, .ref (gm 20), .ref (gm 21), .int 0, .int 0, .int 0, .int 0, .int 0, .int 0, .ref (gm 28), .ref (gm 29)])), (hr, .inl (kI, 2, .inl (fun _ => 0)))]) (wr := [(gn 0, .inl (kP, 6, .inr (.inr (.inr (.inr (fun _ => none)))))), (gm 7, .inl (kA, 6, .inr (.inr (.inr (.inr F))))), (rr, .inl (kY, 5, .inl (fun _ => 0))), (o, .inl (kL, 1, .inr (.inl (fun _ => 0))))]) (w1 := [(hm, .inr (12, u_13))]) hP hD f_11 [1, 2] [0, 3, 4, 5] rfl rfl (by decide) (by decide) hk1 ht hB
      generalize H1 = H at hP hS ⊢
      have hP : va_P D vwCl [(gn 0, .inl (kP, 6, .inr (.inr (.inr (.inr (fun _ => none)))))), (gm 7, .inl (kA, 6, .inr (.inr (.inr (.inr F))))), (rr, .inl (kY, 5, .inl (fun _ => 0))), (o, .inl (kL, 1, .inr (.inl (fun _ => 0)))), (hm, .inr (12, u_13))] H := hP
      have hD : va_D (fun q : Nat => s.heap.size ≤ q) [(gn 0, .inl (kP, 6, .inr (.inr (.inr (.inr (fun _ => none)))))), (gm 7, .inl (kA, 6, .inr (.inr (.inr (.inr F))))), (rr, .inl (kY, 5, .inl (fun _ => 0))), (o, .inl (kL, 1, .inr (.inl (fun _ => 0)))), (hm, .inr (12, u_13))] := hD
      refine lv_istore (lv' := [(6, .int r_12), (5, .int 1), (4, .int 0), (3, .ref o), (2, .ref hm), (1, .ref h0), (0, .ref b)]) hx hb dL_law_963 hl (by decide) rfl (fun ls hl => ?_)
      refine lv_aload_n hx hb dL_law_965 rfl (lv_at hl 4 rfl) ?_
      have f_15 := free_of (wc := [(hm, .inr (12, u_13))]) hD hS hA [4] rfl
      refine va_calli (va_runV (As := []) (rest := []) ⟨hx, hb, hml, hown, hts⟩ (c_thrown l D a1 a2 H.size hm u_13 1 h_14) (cwV 0 hts (gV w_458 w_459 w_460 w_244 w_461) rfl rfl rfl (by decide +kernel) ⟨Nat.le_of_ble_eq_true rfl, Nat.le_of_ble_eq_true rfl⟩) (pre_V hK hP hD hS hA hE [4] rfl (by decide) rfl [] rfl (ci := 12) (q0 := 4) rfl rfl) rfl rfl hl.1 rfl (lv_room (Nat.le_of_ble_eq_true rfl)) dL_law_966 ⟨Nat.le_of_ble_eq_true rfl, Nat.le_of_ble_eq_true rfl⟩) hS (fun q _ h => f_15 q h) f_15 (fun r_16 u_17 t H1 locs ht hvm h_18 hB hz1 hk1 hS => ?_)
      obtain ⟨hP, hD⟩ := join (wc := [(hm, .inr (12, u_13))]) (wr := [(gn 0, .inl (kP, 6, .inr (.inr (.inr (.inr (fun _ => none)))))), (gm 7, .inl (kA, 6, .inr (.inr (.inr (.inr F))))), (rr, .inl (kY, 5, .inl (fun _ => 0))), (o, .inl (kL, 1, .inr (.inl (fun _ => 0))))]) (w1 := [(hm, .inr (12, u_13))]) hP hD f_15 [4] [0, 1, 2, 3] rfl rfl (by decide) (by decide) hk1 ht hB
      generalize H1 = H at hP hS ⊢
      have hP : va_P D vwCl [(gn 0, .inl (kP, 6, .inr (.inr (.inr (.inr (fun _ => none)))))), (gm 7, .inl (kA, 6, .inr (.inr (.inr (.inr F))))), (rr, .inl (kY, 5, .inl (fun _ => 0))), (o, .inl (kL, 1, .inr (.inl (fun _ => 0)))), (hm, .inr (12, u_13))] H := hP
      have hD : va_D (fun q : Nat => s.heap.size ≤ q) [(gn 0, .inl (kP, 6, .inr (.inr (.inr (.inr (fun _ => none)))))), (gm 7, .inl (kA, 6, .inr (.inr (.inr (.inr F))))), (rr, .inl (kY, 5, .inl (fun _ => 0))), (o, .inl (kL, 1, .inr (.inl (fun _ => 0)))), (hm, .inr (12, u_13))] := hD
      obtain rfl := h_18
      refine lv_iload hx hb dL_law_969 (lv_at hl 1 rfl) ?_
      refine lv_icmp_eq (tgt := 976) hx hb dL_law_971 (by decide) (fun _ => ?_) (fun c => absurd (by decide) c)
      refine lv_iload hx hb dL_law_976 (lv_at hl 1 rfl) ?_
      refine lv_if_ne (tgt := 1000) hx hb dL_law_978 (by decide) (fun _ => ?_) (fun c => absurd c (by decide))
      refine lv_goto (tgt := 3913) hx hb dL_law_1000 (by decide) ?_
      exact law_tail hx hb hr_ hlocks hX hbl hS (Nat.le_of_ble_eq_true rfl) (Nat.le_of_ble_eq_true rfl) (lv_sub hl [2, 6] rfl)
    · refine lv_iconst (v := 1) hx hb dL_law_955 (by decide) ?_
      refine lv_goto (tgt := 960) hx hb dL_law_956 (by decide) ?_
      have f_19 := free_of (wc := [(hm, .inr (12, [.int 0, .ref hr, .int 0, .int 0, .int 0, .int 0, .int 0, .ref (gm 7), .ref (gm 8), .ref (gm 9), .ref (gm 10), .ref (gm 11), .ref (gm 12), .ref (gm 13), .ref (gm 14), .int 0, .ref (gm 16), .int 0, .int 0, .int 0, .ref (gm 20), .ref (gm 21), .int 0, .int 0, .int 0, .int 0, .int 0, .int 0, .ref (gm 28), .ref (gm 29)])), (hr, .inl (kI, 2, .inl (fun _ => 0)))]) hD hS hA [1, 2] rfl
      refine va_calli (va_runV (As := [.int (xs 1), .int 1]) (rest := []) ⟨hx, hb, hml, hown, hts⟩ (c_m_shut l D a1 a2 H.size hm hr gm kI (xs 1) (1)) (cwV 2 hts (gV w_507 w_508 w_509 w_244 w_510) rfl rfl rfl (by decide +kernel) ⟨Nat.le_of_ble_eq_true rfl, Nat.le_of_ble_eq_true rfl⟩) (pre_V hK hP hD hS hA hE [1, 2] rfl (by decide) rfl [1] rfl (ci := 12) (q0 := 1) rfl rfl) rfl rfl hl.1 rfl (lv_room (Nat.le_of_ble_eq_true rfl)) dL_law_960 ⟨Nat.le_of_ble_eq_true rfl, Nat.le_of_ble_eq_true rfl⟩) hS (fun q _ h => f_19 q h) f_19 (fun r_20 u_21 t H1 locs ht hvm h_22 hB hz1 hk1 hS => ?_)
      obtain ⟨hP, hD⟩ := join (wc := [(hm, .inr (12, [.int 0, .ref hr, .int 0, .int 0, .int 0, .int 0, .int 0, .ref (gm 7), .ref (gm 8), .ref (gm 9), .ref (gm 10), .ref (gm 11), .ref (gm 12), .ref (gm 13), .ref (gm 14), .int 0, .ref (gm 16), .int 0, .int 0, .int 0, .ref (gm 20), .ref (gm 21), .int 0, .int 0, .int 0, .int 0, .int 0, .int 0, .ref (gm 28), .ref (gm 29)])), (hr, .inl (kI, 2, .inl (fun _ => 0)))]) (wr := [(gn 0, .inl (kP, 6, .inr (.inr (.inr (.inr (fun _ => none)))))), (gm 7, .inl (kA, 6, .inr (.inr (.inr (.inr F))))), (rr, .inl (kY, 5, .inl (fun _ => 0))), (o, .inl (kL, 1, .inr (.inl (fun _ => 0))))]) (w1 := [(hm, .inr (12, u_21))]) hP hD f_19 [1, 2] [0, 3, 4, 5] rfl rfl (by decide) (by decide) hk1 ht hB
      generalize H1 = H at hP hS ⊢
      have hP : va_P D vwCl [(gn 0, .inl (kP, 6, .inr (.inr (.inr (.inr (fun _ => none)))))), (gm 7, .inl (kA, 6, .inr (.inr (.inr (.inr F))))), (rr, .inl (kY, 5, .inl (fun _ => 0))), (o, .inl (kL, 1, .inr (.inl (fun _ => 0)))), (hm, .inr (12, u_21))] H := hP
      have hD : va_D (fun q : Nat => s.heap.size ≤ q) [(gn 0, .inl (kP, 6, .inr (.inr (.inr (.inr (fun _ => none)))))), (gm 7, .inl (kA, 6, .inr (.inr (.inr (.inr F))))), (rr, .inl (kY, 5, .inl (fun _ => 0))), (o, .inl (kL, 1, .inr (.inl (fun _ => 0)))), (hm, .inr (12, u_21))] := hD
      refine lv_istore (lv' := [(6, .int r_20), (5, .int 1), (4, .int 0), (3, .ref o), (2, .ref hm), (1, .ref h0), (0, .ref b)]) hx hb dL_law_963 hl (by decide) rfl (fun ls hl => ?_)
      refine lv_aload_n hx hb dL_law_965 rfl (lv_at hl 4 rfl) ?_
      have f_23 := free_of (wc := [(hm, .inr (12, u_21))]) hD hS hA [4] rfl
      refine va_calli (va_runV (As := []) (rest := []) ⟨hx, hb, hml, hown, hts⟩ (c_thrown l D a1 a2 H.size hm u_21 1 h_22) (cwV 0 hts (gV w_458 w_459 w_460 w_244 w_461) rfl rfl rfl (by decide +kernel) ⟨Nat.le_of_ble_eq_true rfl, Nat.le_of_ble_eq_true rfl⟩) (pre_V hK hP hD hS hA hE [4] rfl (by decide) rfl [] rfl (ci := 12) (q0 := 4) rfl rfl) rfl rfl hl.1 rfl (lv_room (Nat.le_of_ble_eq_true rfl)) dL_law_966 ⟨Nat.le_of_ble_eq_true rfl, Nat.le_of_ble_eq_true rfl⟩) hS (fun q _ h => f_23 q h) f_23 (fun r_24 u_25 t H1 locs ht hvm h_26 hB hz1 hk1 hS => ?_)
      obtain ⟨hP, hD⟩ := join (wc := [(hm, .inr (12, u_21))]) (wr := [(gn 0, .inl (kP, 6, .inr (.inr (.inr (.inr (fun _ => none)))))), (gm 7, .inl (kA, 6, .inr (.inr (.inr (.inr F))))), (rr, .inl (kY, 5, .inl (fun _ => 0))), (o, .inl (kL, 1, .inr (.inl (fun _ => 0))))]) (w1 := [(hm, .inr (12, u_21))]) hP hD f_23 [4] [0, 1, 2, 3] rfl rfl (by decide) (by decide) hk1 ht hB
      generalize H1 = H at hP hS ⊢
      have hP : va_P D vwCl [(gn 0, .inl (kP, 6, .inr (.inr (.inr (.inr (fun _ => none)))))), (gm 7, .inl (kA, 6, .inr (.inr (.inr (.inr F))))), (rr, .inl (kY, 5, .inl (fun _ => 0))), (o, .inl (kL, 1, .inr (.inl (fun _ => 0)))), (hm, .inr (12, u_21))] H := hP
      have hD : va_D (fun q : Nat => s.heap.size ≤ q) [(gn 0, .inl (kP, 6, .inr (.inr (.inr (.inr (fun _ => none)))))), (gm 7, .inl (kA, 6, .inr (.inr (.inr (.inr F))))), (rr, .inl (kY, 5, .inl (fun _ => 0))), (o, .inl (kL, 1, .inr (.inl (fun _ => 0)))), (hm, .inr (12, u_21))] := hD
      obtain rfl := h_26
      refine lv_iload hx hb dL_law_969 (lv_at hl 1 rfl) ?_
      refine lv_icmp_eq (tgt := 976) hx hb dL_law_971 (by decide) (fun _ => ?_) (fun c => absurd (by decide) c)
      refine lv_iload hx hb dL_law_976 (lv_at hl 1 rfl) ?_
      refine lv_if_ne (tgt := 1000) hx hb dL_law_978 (by decide) (fun _ => ?_) (fun c => absurd c (by decide))
      refine lv_goto (tgt := 3913) hx hb dL_law_1000 (by decide) ?_
      exact law_tail hx hb hr_ hlocks hX hbl hS (Nat.le_of_ble_eq_true rfl) (Nat.le_of_ble_eq_true rfl) (lv_sub hl [2, 6] rfl)
  · refine lv_iconst (v := 1) hx hb dL_law_928 (by decide) ?_
    refine lv_goto (tgt := 933) hx hb dL_law_929 (by decide) ?_
    refine lv_aload_n hx hb dL_law_933 rfl (lv_at hl 1 rfl) ?_
    have f_27 := free_of (wc := [(h0, .inr (11, [.ref h1, .ref h2, .ref (g 2), .ref (g 3), .ref (g 4), .ref (g 5), .ref (g 6), .int 0, .int 0, .int 0, .int 0])), (h1, .inr (6, [.ref (gn 0), .int 0, .ref (gn 2), .ref (gn 3), .int 0, .ref (gn 5), .int 0, .int 0])), (h2, .inr (1, [.ref h1, .ref (gb 1), .int 0]))]) hD hS hA [0, 1, 2] rfl
    refine vx_calli (vx_runSX (As := [.ref h0, .int (xs 1), .int 1, .ref o]) (rest := []) ⟨hx, hb, hml, hown, hts⟩ (c_h_shut l hl9 D a1 a2 H.size h0 h1 h2 g gn gb (xs 1) (1) o) (vx_cwSW 4 hts (gSW w_504 w_505 w_450 w_506) rfl rfl rfl (by decide +kernel) ⟨Nat.le_of_ble_eq_true rfl, Nat.le_of_ble_eq_true rfl⟩) (pre_S hK hP hD hS hA hE [0, 1, 2] rfl (by decide) rfl [] rfl) rfl rfl hl.1 rfl (lv_room (Nat.le_of_ble_eq_true rfl)) dL_law_934 ⟨Nat.le_of_ble_eq_true rfl, Nat.le_of_ble_eq_true rfl⟩) hS (fun q _ h => f_27 q h) f_27 (fun q _ h => f_27 q h) (fun E ce q9 u9 t H locs ht hvm hw hB hz1 hk1 hS hce hcv hcl => False.elim hw) (fun r_28 u_29 t H1 locs ht hvm h_30 hB hz1 hk1 hS => ?_)
    obtain ⟨hP, hD⟩ := join (wc := [(h0, .inr (11, [.ref h1, .ref h2, .ref (g 2), .ref (g 3), .ref (g 4), .ref (g 5), .ref (g 6), .int 0, .int 0, .int 0, .int 0])), (h1, .inr (6, [.ref (gn 0), .int 0, .ref (gn 2), .ref (gn 3), .int 0, .ref (gn 5), .int 0, .int 0])), (h2, .inr (1, [.ref h1, .ref (gb 1), .int 0]))]) (wr := [(gn 0, .inl (kP, 6, .inr (.inr (.inr (.inr (fun _ => none)))))), (hm, .inr (12, [.int 0, .ref hr, .int 0, .int 0, .int 0, .int 0, .int 0, .ref (gm 7), .ref (gm 8), .ref (gm 9), .ref (gm 10), .ref (gm 11), .ref (gm 12), .ref (gm 13), .ref (gm 14), .int 0, .ref (gm 16), .int 0, .int 0, .int 0, .ref (gm 20), .ref (gm 21), .int 0, .int 0, .int 0, .int 0, .int 0, .int 0, .ref (gm 28), .ref (gm 29)])), (hr, .inl (kI, 2, .inl (fun _ => 0))), (gm 7, .inl (kA, 6, .inr (.inr (.inr (.inr F))))), (rr, .inl (kY, 5, .inl (fun _ => 0))), (o, .inl (kL, 1, .inr (.inl (fun _ => 0))))]) (w1 := []) hP hD f_27 [0, 1, 2] [3, 4, 5, 6, 7, 8] rfl rfl (by decide) (by decide) hk1 ht wat_nil
    generalize H1 = H at hP hS ⊢
    have hP : va_P D vwCl [(gn 0, .inl (kP, 6, .inr (.inr (.inr (.inr (fun _ => none)))))), (hm, .inr (12, [.int 0, .ref hr, .int 0, .int 0, .int 0, .int 0, .int 0, .ref (gm 7), .ref (gm 8), .ref (gm 9), .ref (gm 10), .ref (gm 11), .ref (gm 12), .ref (gm 13), .ref (gm 14), .int 0, .ref (gm 16), .int 0, .int 0, .int 0, .ref (gm 20), .ref (gm 21), .int 0, .int 0, .int 0, .int 0, .int 0, .int 0, .ref (gm 28), .ref (gm 29)])), (hr, .inl (kI, 2, .inl (fun _ => 0))), (gm 7, .inl (kA, 6, .inr (.inr (.inr (.inr F))))), (rr, .inl (kY, 5, .inl (fun _ => 0))), (o, .inl (kL, 1, .inr (.inl (fun _ => 0))))] H := hP
    have hD : va_D (fun q : Nat => s.heap.size ≤ q) [(gn 0, .inl (kP, 6, .inr (.inr (.inr (.inr (fun _ => none)))))), (hm, .inr (12, [.int 0, .ref hr, .int 0, .int 0, .int 0, .int 0, .int 0, .ref (gm 7), .ref (gm 8), .ref (gm 9), .ref (gm 10), .ref (gm 11), .ref (gm 12), .ref (gm 13), .ref (gm 14), .int 0, .ref (gm 16), .int 0, .int 0, .int 0, .ref (gm 20), .ref (gm 21), .int 0, .int 0, .int 0, .int 0, .int 0, .int 0, .ref (gm 28), .ref (gm 29)])), (hr, .inl (kI, 2, .inl (fun _ => 0))), (gm 7, .inl (kA, 6, .inr (.inr (.inr (.inr F))))), (rr, .inl (kY, 5, .inl (fun _ => 0))), (o, .inl (kL, 1, .inr (.inl (fun _ => 0))))] := hD
    obtain rfl := h_30
    refine lv_istore (lv' := [(5, .int 1), (4, .int 0), (3, .ref o), (2, .ref hm), (1, .ref h0), (0, .ref b)]) hx hb dL_law_937 hl (by decide) rfl (fun ls hl => ?_)
    refine lv_aload_n hx hb dL_law_939 rfl (lv_at hl 3 rfl) ?_
    refine lv_aload_n hx hb dL_law_940 rfl (lv_at hl 5 rfl) ?_
    refine lv_iload hx hb dL_law_941 (lv_at hl 1 rfl) ?_
    refine lv_iconst (v := 1) hx hb dL_law_943 (by decide) ?_
    refine lv_iadd hx hb dL_law_944 ?_
    refine lv_topi (fun x_31 ex_31 => ?_)
    obtain rfl : x_31 = 1 := ex_31.trans (by decide)
    refine va_sld hx hb hX hbl hbA hS (i := 1) (by unfold vp_in; decide) dL_law_945 ?_
    refine W.eq (g2 := F0 m 946 ls [.int (xs 1), .ref hm]) rfl ?_
    refine lv_aload_n hx hb dL_law_946 rfl (lv_at hl 5 rfl) ?_
    refine lv_iload hx hb dL_law_947 (lv_at hl 1 rfl) ?_
    refine lv_iconst (v := 2) hx hb dL_law_949 (by decide) ?_
    refine lv_iadd hx hb dL_law_950 ?_
    refine lv_topi (fun x_32 ex_32 => ?_)
    obtain rfl : x_32 = 2 := ex_32.trans (by decide)
    refine va_sld hx hb hX hbl hbA hS (i := 2) (by unfold vp_in; decide) dL_law_951 ?_
    refine W.eq (g2 := F0 m 952 ls [.int (xs 2), .int (xs 1), .ref hm]) rfl ?_
    refine lv_if_eq (tgt := 959) hx hb dL_law_952 (by decide) (fun c_33 => ?_) (fun c_33 => ?_)
    · refine lv_iconst (v := 0) hx hb dL_law_959 (by decide) ?_
      have f_34 := free_of (wc := [(hm, .inr (12, [.int 0, .ref hr, .int 0, .int 0, .int 0, .int 0, .int 0, .ref (gm 7), .ref (gm 8), .ref (gm 9), .ref (gm 10), .ref (gm 11), .ref (gm 12), .ref (gm 13), .ref (gm 14), .int 0, .ref (gm 16), .int 0, .int 0, .int 0, .ref (gm 20), .ref (gm 21), .int 0, .int 0, .int 0, .int 0, .int 0, .int 0, .ref (gm 28), .ref (gm 29)])), (hr, .inl (kI, 2, .inl (fun _ => 0)))]) hD hS hA [1, 2] rfl
      refine va_calli (va_runV (As := [.int (xs 1), .int 0]) (rest := []) ⟨hx, hb, hml, hown, hts⟩ (c_m_shut l D a1 a2 H.size hm hr gm kI (xs 1) (0)) (cwV 2 hts (gV w_507 w_508 w_509 w_244 w_510) rfl rfl rfl (by decide +kernel) ⟨Nat.le_of_ble_eq_true rfl, Nat.le_of_ble_eq_true rfl⟩) (pre_V hK hP hD hS hA hE [1, 2] rfl (by decide) rfl [1] rfl (ci := 12) (q0 := 1) rfl rfl) rfl rfl hl.1 rfl (lv_room (Nat.le_of_ble_eq_true rfl)) dL_law_960 ⟨Nat.le_of_ble_eq_true rfl, Nat.le_of_ble_eq_true rfl⟩) hS (fun q _ h => f_34 q h) f_34 (fun r_35 u_36 t H1 locs ht hvm h_37 hB hz1 hk1 hS => ?_)
      obtain ⟨hP, hD⟩ := join (wc := [(hm, .inr (12, [.int 0, .ref hr, .int 0, .int 0, .int 0, .int 0, .int 0, .ref (gm 7), .ref (gm 8), .ref (gm 9), .ref (gm 10), .ref (gm 11), .ref (gm 12), .ref (gm 13), .ref (gm 14), .int 0, .ref (gm 16), .int 0, .int 0, .int 0, .ref (gm 20), .ref (gm 21), .int 0, .int 0, .int 0, .int 0, .int 0, .int 0, .ref (gm 28), .ref (gm 29)])), (hr, .inl (kI, 2, .inl (fun _ => 0)))]) (wr := [(gn 0, .inl (kP, 6, .inr (.inr (.inr (.inr (fun _ => none)))))), (gm 7, .inl (kA, 6, .inr (.inr (.inr (.inr F))))), (rr, .inl (kY, 5, .inl (fun _ => 0))), (o, .inl (kL, 1, .inr (.inl (fun _ => 0))))]) (w1 := [(hm, .inr (12, u_36))]) hP hD f_34 [1, 2] [0, 3, 4, 5] rfl rfl (by decide) (by decide) hk1 ht hB
      generalize H1 = H at hP hS ⊢
      have hP : va_P D vwCl [(gn 0, .inl (kP, 6, .inr (.inr (.inr (.inr (fun _ => none)))))), (gm 7, .inl (kA, 6, .inr (.inr (.inr (.inr F))))), (rr, .inl (kY, 5, .inl (fun _ => 0))), (o, .inl (kL, 1, .inr (.inl (fun _ => 0)))), (hm, .inr (12, u_36))] H := hP
      have hD : va_D (fun q : Nat => s.heap.size ≤ q) [(gn 0, .inl (kP, 6, .inr (.inr (.inr (.inr (fun _ => none)))))), (gm 7, .inl (kA, 6, .inr (.inr (.inr (.inr F))))), (rr, .inl (kY, 5, .inl (fun _ => 0))), (o, .inl (kL, 1, .inr (.inl (fun _ => 0)))), (hm, .inr (12, u_36))] := hD
      refine lv_istore (lv' := [(6, .int r_35), (5, .int 1), (4, .int 0), (3, .ref o), (2, .ref hm), (1, .ref h0), (0, .ref b)]) hx hb dL_law_963 hl (by decide) rfl (fun ls hl => ?_)
      refine lv_aload_n hx hb dL_law_965 rfl (lv_at hl 4 rfl) ?_
      have f_38 := free_of (wc := [(hm, .inr (12, u_36))]) hD hS hA [4] rfl
      refine va_calli (va_runV (As := []) (rest := []) ⟨hx, hb, hml, hown, hts⟩ (c_thrown l D a1 a2 H.size hm u_36 1 h_37) (cwV 0 hts (gV w_458 w_459 w_460 w_244 w_461) rfl rfl rfl (by decide +kernel) ⟨Nat.le_of_ble_eq_true rfl, Nat.le_of_ble_eq_true rfl⟩) (pre_V hK hP hD hS hA hE [4] rfl (by decide) rfl [] rfl (ci := 12) (q0 := 4) rfl rfl) rfl rfl hl.1 rfl (lv_room (Nat.le_of_ble_eq_true rfl)) dL_law_966 ⟨Nat.le_of_ble_eq_true rfl, Nat.le_of_ble_eq_true rfl⟩) hS (fun q _ h => f_38 q h) f_38 (fun r_39 u_40 t H1 locs ht hvm h_41 hB hz1 hk1 hS => ?_)
      obtain ⟨hP, hD⟩ := join (wc := [(hm, .inr (12, u_36))]) (wr := [(gn 0, .inl (kP, 6, .inr (.inr (.inr (.inr (fun _ => none)))))), (gm 7, .inl (kA, 6, .inr (.inr (.inr (.inr F))))), (rr, .inl (kY, 5, .inl (fun _ => 0))), (o, .inl (kL, 1, .inr (.inl (fun _ => 0))))]) (w1 := [(hm, .inr (12, u_36))]) hP hD f_38 [4] [0, 1, 2, 3] rfl rfl (by decide) (by decide) hk1 ht hB
      generalize H1 = H at hP hS ⊢
      have hP : va_P D vwCl [(gn 0, .inl (kP, 6, .inr (.inr (.inr (.inr (fun _ => none)))))), (gm 7, .inl (kA, 6, .inr (.inr (.inr (.inr F))))), (rr, .inl (kY, 5, .inl (fun _ => 0))), (o, .inl (kL, 1, .inr (.inl (fun _ => 0)))), (hm, .inr (12, u_36))] H := hP
      have hD : va_D (fun q : Nat => s.heap.size ≤ q) [(gn 0, .inl (kP, 6, .inr (.inr (.inr (.inr (fun _ => none)))))), (gm 7, .inl (kA, 6, .inr (.inr (.inr (.inr F))))), (rr, .inl (kY, 5, .inl (fun _ => 0))), (o, .inl (kL, 1, .inr (.inl (fun _ => 0)))), (hm, .inr (12, u_36))] := hD
      obtain rfl := h_41
      refine lv_iload hx hb dL_law_969 (lv_at hl 1 rfl) ?_
      refine lv_icmp_eq (tgt := 976) hx hb dL_law_971 (by decide) (fun _ => ?_) (fun c => absurd (by decide) c)
      refine lv_iload hx hb dL_law_976 (lv_at hl 1 rfl) ?_
      refine lv_if_ne (tgt := 1000) hx hb dL_law_978 (by decide) (fun _ => ?_) (fun c => absurd c (by decide))
      refine lv_goto (tgt := 3913) hx hb dL_law_1000 (by decide) ?_
      exact law_tail hx hb hr_ hlocks hX hbl hS (Nat.le_of_ble_eq_true rfl) (Nat.le_of_ble_eq_true rfl) (lv_sub hl [2, 6] rfl)
    · refine lv_iconst (v := 1) hx hb dL_law_955 (by decide) ?_
      refine lv_goto (tgt := 960) hx hb dL_law_956 (by decide) ?_
      have f_42 := free_of (wc := [(hm, .inr (12, [.int 0, .ref hr, .int 0, .int 0, .int 0, .int 0, .int 0, .ref (gm 7), .ref (gm 8), .ref (gm 9), .ref (gm 10), .ref (gm 11), .ref (gm 12), .ref (gm 13), .ref (gm 14), .int 0, .ref (gm 16), .int 0, .int 0, .int 0, .ref (gm 20), .ref (gm 21), .int 0, .int 0, .int 0, .int 0, .int 0, .int 0, .ref (gm 28), .ref (gm 29)])), (hr, .inl (kI, 2, .inl (fun _ => 0)))]) hD hS hA [1, 2] rfl
      refine va_calli (va_runV (As := [.int (xs 1), .int 1]) (rest := []) ⟨hx, hb, hml, hown, hts⟩ (c_m_shut l D a1 a2 H.size hm hr gm kI (xs 1) (1)) (cwV 2 hts (gV w_507 w_508 w_509 w_244 w_510) rfl rfl rfl (by decide +kernel) ⟨Nat.le_of_ble_eq_true rfl, Nat.le_of_ble_eq_true rfl⟩) (pre_V hK hP hD hS hA hE [1, 2] rfl (by decide) rfl [1] rfl (ci := 12) (q0 := 1) rfl rfl) rfl rfl hl.1 rfl (lv_room (Nat.le_of_ble_eq_true rfl)) dL_law_960 ⟨Nat.le_of_ble_eq_true rfl, Nat.le_of_ble_eq_true rfl⟩) hS (fun q _ h => f_42 q h) f_42 (fun r_43 u_44 t H1 locs ht hvm h_45 hB hz1 hk1 hS => ?_)
      obtain ⟨hP, hD⟩ := join (wc := [(hm, .inr (12, [.int 0, .ref hr, .int 0, .int 0, .int 0, .int 0, .int 0, .ref (gm 7), .ref (gm 8), .ref (gm 9), .ref (gm 10), .ref (gm 11), .ref (gm 12), .ref (gm 13), .ref (gm 14), .int 0, .ref (gm 16), .int 0, .int 0, .int 0, .ref (gm 20), .ref (gm 21), .int 0, .int 0, .int 0, .int 0, .int 0, .int 0, .ref (gm 28), .ref (gm 29)])), (hr, .inl (kI, 2, .inl (fun _ => 0)))]) (wr := [(gn 0, .inl (kP, 6, .inr (.inr (.inr (.inr (fun _ => none)))))), (gm 7, .inl (kA, 6, .inr (.inr (.inr (.inr F))))), (rr, .inl (kY, 5, .inl (fun _ => 0))), (o, .inl (kL, 1, .inr (.inl (fun _ => 0))))]) (w1 := [(hm, .inr (12, u_44))]) hP hD f_42 [1, 2] [0, 3, 4, 5] rfl rfl (by decide) (by decide) hk1 ht hB
      generalize H1 = H at hP hS ⊢
      have hP : va_P D vwCl [(gn 0, .inl (kP, 6, .inr (.inr (.inr (.inr (fun _ => none)))))), (gm 7, .inl (kA, 6, .inr (.inr (.inr (.inr F))))), (rr, .inl (kY, 5, .inl (fun _ => 0))), (o, .inl (kL, 1, .inr (.inl (fun _ => 0)))), (hm, .inr (12, u_44))] H := hP
      have hD : va_D (fun q : Nat => s.heap.size ≤ q) [(gn 0, .inl (kP, 6, .inr (.inr (.inr (.inr (fun _ => none)))))), (gm 7, .inl (kA, 6, .inr (.inr (.inr (.inr F))))), (rr, .inl (kY, 5, .inl (fun _ => 0))), (o, .inl (kL, 1, .inr (.inl (fun _ => 0)))), (hm, .inr (12, u_44))] := hD
      refine lv_istore (lv' := [(6, .int r_43), (5, .int 1), (4, .int 0), (3, .ref o), (2, .ref hm), (1, .ref h0), (0, .ref b)]) hx hb dL_law_963 hl (by decide) rfl (fun ls hl => ?_)
      refine lv_aload_n hx hb dL_law_965 rfl (lv_at hl 4 rfl) ?_
      have f_46 := free_of (wc := [(hm, .inr (12, u_44))]) hD hS hA [4] rfl
      refine va_calli (va_runV (As := []) (rest := []) ⟨hx, hb, hml, hown, hts⟩ (c_thrown l D a1 a2 H.size hm u_44 1 h_45) (cwV 0 hts (gV w_458 w_459 w_460 w_244 w_461) rfl rfl rfl (by decide +kernel) ⟨Nat.le_of_ble_eq_true rfl, Nat.le_of_ble_eq_true rfl⟩) (pre_V hK hP hD hS hA hE [4] rfl (by decide) rfl [] rfl (ci := 12) (q0 := 4) rfl rfl) rfl rfl hl.1 rfl (lv_room (Nat.le_of_ble_eq_true rfl)) dL_law_966 ⟨Nat.le_of_ble_eq_true rfl, Nat.le_of_ble_eq_true rfl⟩) hS (fun q _ h => f_46 q h) f_46 (fun r_47 u_48 t H1 locs ht hvm h_49 hB hz1 hk1 hS => ?_)
      obtain ⟨hP, hD⟩ := join (wc := [(hm, .inr (12, u_44))]) (wr := [(gn 0, .inl (kP, 6, .inr (.inr (.inr (.inr (fun _ => none)))))), (gm 7, .inl (kA, 6, .inr (.inr (.inr (.inr F))))), (rr, .inl (kY, 5, .inl (fun _ => 0))), (o, .inl (kL, 1, .inr (.inl (fun _ => 0))))]) (w1 := [(hm, .inr (12, u_44))]) hP hD f_46 [4] [0, 1, 2, 3] rfl rfl (by decide) (by decide) hk1 ht hB
      generalize H1 = H at hP hS ⊢
      have hP : va_P D vwCl [(gn 0, .inl (kP, 6, .inr (.inr (.inr (.inr (fun _ => none)))))), (gm 7, .inl (kA, 6, .inr (.inr (.inr (.inr F))))), (rr, .inl (kY, 5, .inl (fun _ => 0))), (o, .inl (kL, 1, .inr (.inl (fun _ => 0)))), (hm, .inr (12, u_44))] H := hP
      have hD : va_D (fun q : Nat => s.heap.size ≤ q) [(gn 0, .inl (kP, 6, .inr (.inr (.inr (.inr (fun _ => none)))))), (gm 7, .inl (kA, 6, .inr (.inr (.inr (.inr F))))), (rr, .inl (kY, 5, .inl (fun _ => 0))), (o, .inl (kL, 1, .inr (.inl (fun _ => 0)))), (hm, .inr (12, u_44))] := hD
      obtain rfl := h_49
      refine lv_iload hx hb dL_law_969 (lv_at hl 1 rfl) ?_
      refine lv_icmp_eq (tgt := 976) hx hb dL_law_971 (by decide) (fun _ => ?_) (fun c => absurd (by decide) c)
      refine lv_iload hx hb dL_law_976 (lv_at hl 1 rfl) ?_
      refine lv_if_ne (tgt := 1000) hx hb dL_law_978 (by decide) (fun _ => ?_) (fun c => absurd c (by decide))
      refine lv_goto (tgt := 3913) hx hb dL_law_1000 (by decide) ?_
      exact law_tail hx hb hr_ hlocks hX hbl hS (Nat.le_of_ble_eq_true rfl) (Nat.le_of_ble_eq_true rfl) (lv_sub hl [2, 6] rfl)
set_option maxRecDepth 100000 in
set_option maxHeartbeats 4000000 in
theorem case_10 {p : Program} {l : Launch} (hl9 : l.stackTraces = false) {e : Env} {s : State} {m : MethodId} {below : List Frame} {meth : Method} {c : Code} {D : va_G} {a1 a2 b : Nat} {xs : Nat → Int32} {H : Heap} {locs : List Loc} {ls : Array Slot} (h0 h1 h2 : Nat) (g gn gb : Nat → Nat) (kP : ClassId) (hm hr rr : Nat) (gm : Nat → Nat) (kI kA kY : ClassId) (F : Nat → Option Nat) (o : Nat) (kL : ClassId) (hG : LawSt D a1 a2 p s m meth c b xs H locs ls h0 h1 h2 g gn gb kP hm hr rr gm kI kA kY F o kL) : W p l e room_1 s m #[Value.ref b] below meth c H locs 5338 65502 (lw_Z below #[Value.ref b] s) (F0 m 1059 ls []) := by
  obtain ⟨hx, hb, hr_, hml, hown, hts, hX, hbl, hlocks, hP, hK, hD, hA, hE, hS, hF, hl⟩ := hG
  have hbA : ¬ (fun q : Nat => s.heap.size ≤ q) b := Nat.not_le.mpr hbl
  refine lv_aload_n hx hb dL_law_1059 rfl (lv_at hl 3 rfl) ?_
  refine lv_aload_n hx hb dL_law_1060 rfl (lv_at hl 4 rfl) ?_
  refine lv_iload hx hb dL_law_1061 (lv_at hl 0 rfl) ?_
  refine lv_iconst (v := 1) hx hb dL_law_1063 (by decide) ?_
  refine lv_iadd hx hb dL_law_1064 ?_
  refine lv_topi (fun x_1 ex_1 => ?_)
  obtain rfl : x_1 = 1 := ex_1.trans (by decide)
  refine va_sld hx hb hX hbl hbA hS (i := 1) (by unfold vp_in; decide) dL_law_1065 ?_
  refine W.eq (g2 := F0 m 1066 ls [.int (xs 1), .ref h0]) rfl ?_
  refine lv_aload_n hx hb dL_law_1066 rfl (lv_at hl 4 rfl) ?_
  refine lv_iload hx hb dL_law_1067 (lv_at hl 0 rfl) ?_
  refine lv_iconst (v := 2) hx hb dL_law_1069 (by decide) ?_
  refine lv_iadd hx hb dL_law_1070 ?_
  refine lv_topi (fun x_2 ex_2 => ?_)
  obtain rfl : x_2 = 2 := ex_2.trans (by decide)
  refine va_sld hx hb hX hbl hbA hS (i := 2) (by unfold vp_in; decide) dL_law_1071 ?_
  refine W.eq (g2 := F0 m 1072 ls [.int (xs 2), .int (xs 1), .ref h0]) rfl ?_
  refine lv_aload_n hx hb dL_law_1072 rfl (lv_at hl 4 rfl) ?_
  refine lv_iload hx hb dL_law_1073 (lv_at hl 0 rfl) ?_
  refine lv_iconst (v := 3) hx hb dL_law_1075 (by decide) ?_
  refine lv_iadd hx hb dL_law_1076 ?_
  refine lv_topi (fun x_3 ex_3 => ?_)
  obtain rfl : x_3 = 3 := ex_3.trans (by decide)
  refine va_sld hx hb hX hbl hbA hS (i := 3) (by unfold vp_in; decide) dL_law_1077 ?_
  refine W.eq (g2 := F0 m 1078 ls [.int (xs 3), .int (xs 2), .int (xs 1), .ref h0]) rfl ?_
  refine lv_aload_n hx hb dL_law_1078 rfl (lv_at hl 4 rfl) ?_
  refine lv_iload hx hb dL_law_1079 (lv_at hl 0 rfl) ?_
  refine lv_iconst (v := 4) hx hb dL_law_1081 (by decide) ?_
  refine lv_iadd hx hb dL_law_1082 ?_
  refine lv_topi (fun x_4 ex_4 => ?_)
  obtain rfl : x_4 = 4 := ex_4.trans (by decide)
  refine va_sld hx hb hX hbl hbA hS (i := 4) (by unfold vp_in; decide) dL_law_1083 ?_
  refine W.eq (g2 := F0 m 1084 ls [.int (xs 4), .int (xs 3), .int (xs 2), .int (xs 1), .ref h0]) rfl ?_
  refine lv_aload_n hx hb dL_law_1084 rfl (lv_at hl 1 rfl) ?_
  have f_5 := free_of (wc := [(h0, .inr (11, [.ref h1, .ref h2, .ref (g 2), .ref (g 3), .ref (g 4), .ref (g 5), .ref (g 6), .int 0, .int 0, .int 0, .int 0])), (h1, .inr (6, [.ref (gn 0), .int 0, .ref (gn 2), .ref (gn 3), .int 0, .ref (gn 5), .int 0, .int 0])), (h2, .inr (1, [.ref h1, .ref (gb 1), .int 0]))]) hD hS hA [0, 1, 2] rfl
  refine vx_calli (vx_runSX (As := [.ref h0, .int (xs 1), .int (xs 2), .int (xs 3), .int (xs 4), .ref o]) (rest := []) ⟨hx, hb, hml, hown, hts⟩ (c_h_ask l hl9 D a1 a2 H.size h0 h1 h2 g gn gb (xs 1) (xs 2) (xs 3) (xs 4) o) (vx_cwSW 6 hts (gSW w_511 w_512 w_450 w_513) rfl rfl rfl (by decide +kernel) ⟨Nat.le_of_ble_eq_true rfl, Nat.le_of_ble_eq_true rfl⟩) (pre_S hK hP hD hS hA hE [0, 1, 2] rfl (by decide) rfl [] rfl) rfl rfl hl.1 rfl (lv_room (Nat.le_of_ble_eq_true rfl)) dL_law_1085 ⟨Nat.le_of_ble_eq_true rfl, Nat.le_of_ble_eq_true rfl⟩) hS (fun q _ h => f_5 q h) f_5 (fun q _ h => f_5 q h) (fun E ce q9 u9 t H locs ht hvm hw hB hz1 hk1 hS hce hcv hcl => False.elim hw) (fun r_6 u_7 t H1 locs ht hvm h_8 hB hz1 hk1 hS => ?_)
  obtain ⟨hP, hD⟩ := join (wc := [(h0, .inr (11, [.ref h1, .ref h2, .ref (g 2), .ref (g 3), .ref (g 4), .ref (g 5), .ref (g 6), .int 0, .int 0, .int 0, .int 0])), (h1, .inr (6, [.ref (gn 0), .int 0, .ref (gn 2), .ref (gn 3), .int 0, .ref (gn 5), .int 0, .int 0])), (h2, .inr (1, [.ref h1, .ref (gb 1), .int 0]))]) (wr := [(gn 0, .inl (kP, 6, .inr (.inr (.inr (.inr (fun _ => none)))))), (hm, .inr (12, [.int 0, .ref hr, .int 0, .int 0, .int 0, .int 0, .int 0, .ref (gm 7), .ref (gm 8), .ref (gm 9), .ref (gm 10), .ref (gm 11), .ref (gm 12), .ref (gm 13), .ref (gm 14), .int 0, .ref (gm 16), .int 0, .int 0, .int 0, .ref (gm 20), .ref (gm 21), .int 0, .int 0, .int 0, .int 0, .int 0, .int 0, .ref (gm 28), .ref (gm 29)])), (hr, .inl (kI, 2, .inl (fun _ => 0))), (gm 7, .inl (kA, 6, .inr (.inr (.inr (.inr F))))), (rr, .inl (kY, 5, .inl (fun _ => 0))), (o, .inl (kL, 1, .inr (.inl (fun _ => 0))))]) (w1 := []) hP hD f_5 [0, 1, 2] [3, 4, 5, 6, 7, 8] rfl rfl (by decide) (by decide) hk1 ht wat_nil
  generalize H1 = H at hP hS ⊢
  have hP : va_P D vwCl [(gn 0, .inl (kP, 6, .inr (.inr (.inr (.inr (fun _ => none)))))), (hm, .inr (12, [.int 0, .ref hr, .int 0, .int 0, .int 0, .int 0, .int 0, .ref (gm 7), .ref (gm 8), .ref (gm 9), .ref (gm 10), .ref (gm 11), .ref (gm 12), .ref (gm 13), .ref (gm 14), .int 0, .ref (gm 16), .int 0, .int 0, .int 0, .ref (gm 20), .ref (gm 21), .int 0, .int 0, .int 0, .int 0, .int 0, .int 0, .ref (gm 28), .ref (gm 29)])), (hr, .inl (kI, 2, .inl (fun _ => 0))), (gm 7, .inl (kA, 6, .inr (.inr (.inr (.inr F))))), (rr, .inl (kY, 5, .inl (fun _ => 0))), (o, .inl (kL, 1, .inr (.inl (fun _ => 0))))] H := hP
  have hD : va_D (fun q : Nat => s.heap.size ≤ q) [(gn 0, .inl (kP, 6, .inr (.inr (.inr (.inr (fun _ => none)))))), (hm, .inr (12, [.int 0, .ref hr, .int 0, .int 0, .int 0, .int 0, .int 0, .ref (gm 7), .ref (gm 8), .ref (gm 9), .ref (gm 10), .ref (gm 11), .ref (gm 12), .ref (gm 13), .ref (gm 14), .int 0, .ref (gm 16), .int 0, .int 0, .int 0, .ref (gm 20), .ref (gm 21), .int 0, .int 0, .int 0, .int 0, .int 0, .int 0, .ref (gm 28), .ref (gm 29)])), (hr, .inl (kI, 2, .inl (fun _ => 0))), (gm 7, .inl (kA, 6, .inr (.inr (.inr (.inr F))))), (rr, .inl (kY, 5, .inl (fun _ => 0))), (o, .inl (kL, 1, .inr (.inl (fun _ => 0))))] := hD
  obtain rfl := h_8
  refine lv_istore (lv' := [(5, .int 1), (4, .int 0), (3, .ref o), (2, .ref hm), (1, .ref h0), (0, .ref b)]) hx hb dL_law_1088 hl (by decide) rfl (fun ls hl => ?_)
  refine lv_aload_n hx hb dL_law_1090 rfl (lv_at hl 3 rfl) ?_
  refine lv_aload_n hx hb dL_law_1091 rfl (lv_at hl 5 rfl) ?_
  refine lv_iload hx hb dL_law_1092 (lv_at hl 1 rfl) ?_
  refine lv_iconst (v := 1) hx hb dL_law_1094 (by decide) ?_
  refine lv_iadd hx hb dL_law_1095 ?_
  refine lv_topi (fun x_9 ex_9 => ?_)
  obtain rfl : x_9 = 1 := ex_9.trans (by decide)
  refine va_sld hx hb hX hbl hbA hS (i := 1) (by unfold vp_in; decide) dL_law_1096 ?_
  refine W.eq (g2 := F0 m 1097 ls [.int (xs 1), .ref hm]) rfl ?_
  refine lv_aload_n hx hb dL_law_1097 rfl (lv_at hl 5 rfl) ?_
  refine lv_iload hx hb dL_law_1098 (lv_at hl 1 rfl) ?_
  refine lv_iconst (v := 2) hx hb dL_law_1100 (by decide) ?_
  refine lv_iadd hx hb dL_law_1101 ?_
  refine lv_topi (fun x_10 ex_10 => ?_)
  obtain rfl : x_10 = 2 := ex_10.trans (by decide)
  refine va_sld hx hb hX hbl hbA hS (i := 2) (by unfold vp_in; decide) dL_law_1102 ?_
  refine W.eq (g2 := F0 m 1103 ls [.int (xs 2), .int (xs 1), .ref hm]) rfl ?_
  refine lv_aload_n hx hb dL_law_1103 rfl (lv_at hl 5 rfl) ?_
  refine lv_iload hx hb dL_law_1104 (lv_at hl 1 rfl) ?_
  refine lv_iconst (v := 3) hx hb dL_law_1106 (by decide) ?_
  refine lv_iadd hx hb dL_law_1107 ?_
  refine lv_topi (fun x_11 ex_11 => ?_)
  obtain rfl : x_11 = 3 := ex_11.trans (by decide)
  refine va_sld hx hb hX hbl hbA hS (i := 3) (by unfold vp_in; decide) dL_law_1108 ?_
  refine W.eq (g2 := F0 m 1109 ls [.int (xs 3), .int (xs 2), .int (xs 1), .ref hm]) rfl ?_
  refine lv_aload_n hx hb dL_law_1109 rfl (lv_at hl 5 rfl) ?_
  refine lv_iload hx hb dL_law_1110 (lv_at hl 1 rfl) ?_
  refine lv_iconst (v := 4) hx hb dL_law_1112 (by decide) ?_
  refine lv_iadd hx hb dL_law_1113 ?_
  refine lv_topi (fun x_12 ex_12 => ?_)
  obtain rfl : x_12 = 4 := ex_12.trans (by decide)
  refine va_sld hx hb hX hbl hbA hS (i := 4) (by unfold vp_in; decide) dL_law_1114 ?_
  refine W.eq (g2 := F0 m 1115 ls [.int (xs 4), .int (xs 3), .int (xs 2), .int (xs 1), .ref hm]) rfl ?_
  have f_13 := free_of (wc := [(hm, .inr (12, [.int 0, .ref hr, .int 0, .int 0, .int 0, .int 0, .int 0, .ref (gm 7), .ref (gm 8), .ref (gm 9), .ref (gm 10), .ref (gm 11), .ref (gm 12), .ref (gm 13), .ref (gm 14), .int 0, .ref (gm 16), .int 0, .int 0, .int 0, .ref (gm 20), .ref (gm 21), .int 0, .int 0, .int 0, .int 0, .int 0, .int 0, .ref (gm 28), .ref (gm 29)])), (hr, .inl (kI, 2, .inl (fun _ => 0)))]) hD hS hA [1, 2] rfl
  refine va_calli (va_runV (As := [.int (xs 1), .int (xs 2), .int (xs 3), .int (xs 4)]) (rest := []) ⟨hx, hb, hml, hown, hts⟩ (c_m_ask l D a1 a2 H.size hm hr gm kI (xs 1) (xs 2) (xs 3) (xs 4)) (cwV 4 hts (gV w_514 w_515 w_516 w_244 w_517) rfl rfl rfl (by decide +kernel) ⟨Nat.le_of_ble_eq_true rfl, Nat.le_of_ble_eq_true rfl⟩) (pre_V hK hP hD hS hA hE [1, 2] rfl (by decide) rfl [1] rfl (ci := 12) (q0 := 1) rfl rfl) rfl rfl hl.1 rfl (lv_room (Nat.le_of_ble_eq_true rfl)) dL_law_1115 ⟨Nat.le_of_ble_eq_true rfl, Nat.le_of_ble_eq_true rfl⟩) hS (fun q _ h => f_13 q h) f_13 (fun r_14 u_15 t H1 locs ht hvm h_16 hB hz1 hk1 hS => ?_)
  obtain ⟨hP, hD⟩ := join (wc := [(hm, .inr (12, [.int 0, .ref hr, .int 0, .int 0, .int 0, .int 0, .int 0, .ref (gm 7), .ref (gm 8), .ref (gm 9), .ref (gm 10), .ref (gm 11), .ref (gm 12), .ref (gm 13), .ref (gm 14), .int 0, .ref (gm 16), .int 0, .int 0, .int 0, .ref (gm 20), .ref (gm 21), .int 0, .int 0, .int 0, .int 0, .int 0, .int 0, .ref (gm 28), .ref (gm 29)])), (hr, .inl (kI, 2, .inl (fun _ => 0)))]) (wr := [(gn 0, .inl (kP, 6, .inr (.inr (.inr (.inr (fun _ => none)))))), (gm 7, .inl (kA, 6, .inr (.inr (.inr (.inr F))))), (rr, .inl (kY, 5, .inl (fun _ => 0))), (o, .inl (kL, 1, .inr (.inl (fun _ => 0))))]) (w1 := [(hm, .inr (12, u_15))]) hP hD f_13 [1, 2] [0, 3, 4, 5] rfl rfl (by decide) (by decide) hk1 ht hB
  generalize H1 = H at hP hS ⊢
  have hP : va_P D vwCl [(gn 0, .inl (kP, 6, .inr (.inr (.inr (.inr (fun _ => none)))))), (gm 7, .inl (kA, 6, .inr (.inr (.inr (.inr F))))), (rr, .inl (kY, 5, .inl (fun _ => 0))), (o, .inl (kL, 1, .inr (.inl (fun _ => 0)))), (hm, .inr (12, u_15))] H := hP
  have hD : va_D (fun q : Nat => s.heap.size ≤ q) [(gn 0, .inl (kP, 6, .inr (.inr (.inr (.inr (fun _ => none)))))), (gm 7, .inl (kA, 6, .inr (.inr (.inr (.inr F))))), (rr, .inl (kY, 5, .inl (fun _ => 0))), (o, .inl (kL, 1, .inr (.inl (fun _ => 0)))), (hm, .inr (12, u_15))] := hD
  refine lv_istore (lv' := [(6, .int r_14), (5, .int 1), (4, .int 0), (3, .ref o), (2, .ref hm), (1, .ref h0), (0, .ref b)]) hx hb dL_law_1118 hl (by decide) rfl (fun ls hl => ?_)
  refine lv_aload_n hx hb dL_law_1120 rfl (lv_at hl 4 rfl) ?_
  have f_17 := free_of (wc := [(hm, .inr (12, u_15))]) hD hS hA [4] rfl
  refine va_calli (va_runV (As := []) (rest := []) ⟨hx, hb, hml, hown, hts⟩ (c_thrown l D a1 a2 H.size hm u_15 1 h_16) (cwV 0 hts (gV w_458 w_459 w_460 w_244 w_461) rfl rfl rfl (by decide +kernel) ⟨Nat.le_of_ble_eq_true rfl, Nat.le_of_ble_eq_true rfl⟩) (pre_V hK hP hD hS hA hE [4] rfl (by decide) rfl [] rfl (ci := 12) (q0 := 4) rfl rfl) rfl rfl hl.1 rfl (lv_room (Nat.le_of_ble_eq_true rfl)) dL_law_1121 ⟨Nat.le_of_ble_eq_true rfl, Nat.le_of_ble_eq_true rfl⟩) hS (fun q _ h => f_17 q h) f_17 (fun r_18 u_19 t H1 locs ht hvm h_20 hB hz1 hk1 hS => ?_)
  obtain ⟨hP, hD⟩ := join (wc := [(hm, .inr (12, u_15))]) (wr := [(gn 0, .inl (kP, 6, .inr (.inr (.inr (.inr (fun _ => none)))))), (gm 7, .inl (kA, 6, .inr (.inr (.inr (.inr F))))), (rr, .inl (kY, 5, .inl (fun _ => 0))), (o, .inl (kL, 1, .inr (.inl (fun _ => 0))))]) (w1 := [(hm, .inr (12, u_15))]) hP hD f_17 [4] [0, 1, 2, 3] rfl rfl (by decide) (by decide) hk1 ht hB
  generalize H1 = H at hP hS ⊢
  have hP : va_P D vwCl [(gn 0, .inl (kP, 6, .inr (.inr (.inr (.inr (fun _ => none)))))), (gm 7, .inl (kA, 6, .inr (.inr (.inr (.inr F))))), (rr, .inl (kY, 5, .inl (fun _ => 0))), (o, .inl (kL, 1, .inr (.inl (fun _ => 0)))), (hm, .inr (12, u_15))] H := hP
  have hD : va_D (fun q : Nat => s.heap.size ≤ q) [(gn 0, .inl (kP, 6, .inr (.inr (.inr (.inr (fun _ => none)))))), (gm 7, .inl (kA, 6, .inr (.inr (.inr (.inr F))))), (rr, .inl (kY, 5, .inl (fun _ => 0))), (o, .inl (kL, 1, .inr (.inl (fun _ => 0)))), (hm, .inr (12, u_15))] := hD
  obtain rfl := h_20
  refine lv_iload hx hb dL_law_1124 (lv_at hl 1 rfl) ?_
  refine lv_icmp_eq (tgt := 1131) hx hb dL_law_1126 (by decide) (fun _ => ?_) (fun c => absurd (by decide) c)
  refine lv_iload hx hb dL_law_1131 (lv_at hl 1 rfl) ?_
  refine lv_if_ne (tgt := 1148) hx hb dL_law_1133 (by decide) (fun _ => ?_) (fun c => absurd c (by decide))
  refine lv_goto (tgt := 3913) hx hb dL_law_1148 (by decide) ?_
  exact law_tail hx hb hr_ hlocks hX hbl hS (Nat.le_of_ble_eq_true rfl) (Nat.le_of_ble_eq_true rfl) (lv_sub hl [2, 6] rfl)
set_option maxRecDepth 100000 in
set_option maxHeartbeats 4000000 in
theorem case_11 {p : Program} {l : Launch} (hl9 : l.stackTraces = false) {e : Env} {s : State} {m : MethodId} {below : List Frame} {meth : Method} {c : Code} {D : va_G} {a1 a2 b : Nat} {xs : Nat → Int32} {H : Heap} {locs : List Loc} {ls : Array Slot} (h0 h1 h2 : Nat) (g gn gb : Nat → Nat) (kP : ClassId) (hm hr rr : Nat) (gm : Nat → Nat) (kI kA kY : ClassId) (F : Nat → Option Nat) (o : Nat) (kL : ClassId) (hG : LawSt D a1 a2 p s m meth c b xs H locs ls h0 h1 h2 g gn gb kP hm hr rr gm kI kA kY F o kL) : W p l e room_1 s m #[Value.ref b] below meth c H locs 5338 65502 (lw_Z below #[Value.ref b] s) (F0 m 1151 ls []) := by
  obtain ⟨hx, hb, hr_, hml, hown, hts, hX, hbl, hlocks, hP, hK, hD, hA, hE, hS, hF, hl⟩ := hG
  have hbA : ¬ (fun q : Nat => s.heap.size ≤ q) b := Nat.not_le.mpr hbl
  refine lv_aload_n hx hb dL_law_1151 rfl (lv_at hl 3 rfl) ?_
  refine lv_aload_n hx hb dL_law_1152 rfl (lv_at hl 4 rfl) ?_
  refine lv_iload hx hb dL_law_1153 (lv_at hl 0 rfl) ?_
  refine lv_iconst (v := 1) hx hb dL_law_1155 (by decide) ?_
  refine lv_iadd hx hb dL_law_1156 ?_
  refine lv_topi (fun x_1 ex_1 => ?_)
  obtain rfl : x_1 = 1 := ex_1.trans (by decide)
  refine va_sld hx hb hX hbl hbA hS (i := 1) (by unfold vp_in; decide) dL_law_1157 ?_
  refine W.eq (g2 := F0 m 1158 ls [.int (xs 1), .ref h0]) rfl ?_
  refine lv_aload_n hx hb dL_law_1158 rfl (lv_at hl 4 rfl) ?_
  refine lv_iload hx hb dL_law_1159 (lv_at hl 0 rfl) ?_
  refine lv_iconst (v := 2) hx hb dL_law_1161 (by decide) ?_
  refine lv_iadd hx hb dL_law_1162 ?_
  refine lv_topi (fun x_2 ex_2 => ?_)
  obtain rfl : x_2 = 2 := ex_2.trans (by decide)
  refine va_sld hx hb hX hbl hbA hS (i := 2) (by unfold vp_in; decide) dL_law_1163 ?_
  refine W.eq (g2 := F0 m 1164 ls [.int (xs 2), .int (xs 1), .ref h0]) rfl ?_
  refine lv_aload_n hx hb dL_law_1164 rfl (lv_at hl 1 rfl) ?_
  have f_3 := free_of (wc := [(h0, .inr (11, [.ref h1, .ref h2, .ref (g 2), .ref (g 3), .ref (g 4), .ref (g 5), .ref (g 6), .int 0, .int 0, .int 0, .int 0])), (h1, .inr (6, [.ref (gn 0), .int 0, .ref (gn 2), .ref (gn 3), .int 0, .ref (gn 5), .int 0, .int 0])), (h2, .inr (1, [.ref h1, .ref (gb 1), .int 0]))]) hD hS hA [0, 1, 2] rfl
  refine vx_calli (vx_runSX (As := [.ref h0, .int (xs 1), .int (xs 2), .ref o]) (rest := []) ⟨hx, hb, hml, hown, hts⟩ (c_h_route l hl9 D a1 a2 H.size h0 h1 h2 g gn gb (xs 1) (xs 2) o) (vx_cwSW 4 hts (gSW w_518 w_519 w_450 w_520) rfl rfl rfl (by decide +kernel) ⟨Nat.le_of_ble_eq_true rfl, Nat.le_of_ble_eq_true rfl⟩) (pre_S hK hP hD hS hA hE [0, 1, 2] rfl (by decide) rfl [] rfl) rfl rfl hl.1 rfl (lv_room (Nat.le_of_ble_eq_true rfl)) dL_law_1165 ⟨Nat.le_of_ble_eq_true rfl, Nat.le_of_ble_eq_true rfl⟩) hS (fun q _ h => f_3 q h) f_3 (fun q _ h => f_3 q h) (fun E ce q9 u9 t H locs ht hvm hw hB hz1 hk1 hS hce hcv hcl => False.elim hw) (fun r_4 u_5 t H1 locs ht hvm h_6 hB hz1 hk1 hS => ?_)
  obtain ⟨hP, hD⟩ := join (wc := [(h0, .inr (11, [.ref h1, .ref h2, .ref (g 2), .ref (g 3), .ref (g 4), .ref (g 5), .ref (g 6), .int 0, .int 0, .int 0, .int 0])), (h1, .inr (6, [.ref (gn 0), .int 0, .ref (gn 2), .ref (gn 3), .int 0, .ref (gn 5), .int 0, .int 0])), (h2, .inr (1, [.ref h1, .ref (gb 1), .int 0]))]) (wr := [(gn 0, .inl (kP, 6, .inr (.inr (.inr (.inr (fun _ => none)))))), (hm, .inr (12, [.int 0, .ref hr, .int 0, .int 0, .int 0, .int 0, .int 0, .ref (gm 7), .ref (gm 8), .ref (gm 9), .ref (gm 10), .ref (gm 11), .ref (gm 12), .ref (gm 13), .ref (gm 14), .int 0, .ref (gm 16), .int 0, .int 0, .int 0, .ref (gm 20), .ref (gm 21), .int 0, .int 0, .int 0, .int 0, .int 0, .int 0, .ref (gm 28), .ref (gm 29)])), (hr, .inl (kI, 2, .inl (fun _ => 0))), (gm 7, .inl (kA, 6, .inr (.inr (.inr (.inr F))))), (rr, .inl (kY, 5, .inl (fun _ => 0))), (o, .inl (kL, 1, .inr (.inl (fun _ => 0))))]) (w1 := []) hP hD f_3 [0, 1, 2] [3, 4, 5, 6, 7, 8] rfl rfl (by decide) (by decide) hk1 ht wat_nil
  generalize H1 = H at hP hS ⊢
  have hP : va_P D vwCl [(gn 0, .inl (kP, 6, .inr (.inr (.inr (.inr (fun _ => none)))))), (hm, .inr (12, [.int 0, .ref hr, .int 0, .int 0, .int 0, .int 0, .int 0, .ref (gm 7), .ref (gm 8), .ref (gm 9), .ref (gm 10), .ref (gm 11), .ref (gm 12), .ref (gm 13), .ref (gm 14), .int 0, .ref (gm 16), .int 0, .int 0, .int 0, .ref (gm 20), .ref (gm 21), .int 0, .int 0, .int 0, .int 0, .int 0, .int 0, .ref (gm 28), .ref (gm 29)])), (hr, .inl (kI, 2, .inl (fun _ => 0))), (gm 7, .inl (kA, 6, .inr (.inr (.inr (.inr F))))), (rr, .inl (kY, 5, .inl (fun _ => 0))), (o, .inl (kL, 1, .inr (.inl (fun _ => 0))))] H := hP
  have hD : va_D (fun q : Nat => s.heap.size ≤ q) [(gn 0, .inl (kP, 6, .inr (.inr (.inr (.inr (fun _ => none)))))), (hm, .inr (12, [.int 0, .ref hr, .int 0, .int 0, .int 0, .int 0, .int 0, .ref (gm 7), .ref (gm 8), .ref (gm 9), .ref (gm 10), .ref (gm 11), .ref (gm 12), .ref (gm 13), .ref (gm 14), .int 0, .ref (gm 16), .int 0, .int 0, .int 0, .ref (gm 20), .ref (gm 21), .int 0, .int 0, .int 0, .int 0, .int 0, .int 0, .ref (gm 28), .ref (gm 29)])), (hr, .inl (kI, 2, .inl (fun _ => 0))), (gm 7, .inl (kA, 6, .inr (.inr (.inr (.inr F))))), (rr, .inl (kY, 5, .inl (fun _ => 0))), (o, .inl (kL, 1, .inr (.inl (fun _ => 0))))] := hD
  obtain rfl := h_6
  refine lv_istore (lv' := [(5, .int 1), (4, .int 0), (3, .ref o), (2, .ref hm), (1, .ref h0), (0, .ref b)]) hx hb dL_law_1168 hl (by decide) rfl (fun ls hl => ?_)
  refine lv_aload_n hx hb dL_law_1170 rfl (lv_at hl 3 rfl) ?_
  refine lv_aload_n hx hb dL_law_1171 rfl (lv_at hl 5 rfl) ?_
  refine lv_iload hx hb dL_law_1172 (lv_at hl 1 rfl) ?_
  refine lv_iconst (v := 1) hx hb dL_law_1174 (by decide) ?_
  refine lv_iadd hx hb dL_law_1175 ?_
  refine lv_topi (fun x_7 ex_7 => ?_)
  obtain rfl : x_7 = 1 := ex_7.trans (by decide)
  refine va_sld hx hb hX hbl hbA hS (i := 1) (by unfold vp_in; decide) dL_law_1176 ?_
  refine W.eq (g2 := F0 m 1177 ls [.int (xs 1), .ref hm]) rfl ?_
  refine lv_aload_n hx hb dL_law_1177 rfl (lv_at hl 5 rfl) ?_
  refine lv_iload hx hb dL_law_1178 (lv_at hl 1 rfl) ?_
  refine lv_iconst (v := 2) hx hb dL_law_1180 (by decide) ?_
  refine lv_iadd hx hb dL_law_1181 ?_
  refine lv_topi (fun x_8 ex_8 => ?_)
  obtain rfl : x_8 = 2 := ex_8.trans (by decide)
  refine va_sld hx hb hX hbl hbA hS (i := 2) (by unfold vp_in; decide) dL_law_1182 ?_
  refine W.eq (g2 := F0 m 1183 ls [.int (xs 2), .int (xs 1), .ref hm]) rfl ?_
  have f_9 := free_of (wc := [(hm, .inr (12, [.int 0, .ref hr, .int 0, .int 0, .int 0, .int 0, .int 0, .ref (gm 7), .ref (gm 8), .ref (gm 9), .ref (gm 10), .ref (gm 11), .ref (gm 12), .ref (gm 13), .ref (gm 14), .int 0, .ref (gm 16), .int 0, .int 0, .int 0, .ref (gm 20), .ref (gm 21), .int 0, .int 0, .int 0, .int 0, .int 0, .int 0, .ref (gm 28), .ref (gm 29)])), (hr, .inl (kI, 2, .inl (fun _ => 0)))]) hD hS hA [1, 2] rfl
  refine va_calli (va_runV (As := [.int (xs 1), .int (xs 2)]) (rest := []) ⟨hx, hb, hml, hown, hts⟩ (c_m_route l D a1 a2 H.size hm hr gm kI (xs 1) (xs 2)) (cwV 2 hts (gV w_521 w_522 w_523 w_244 w_524) rfl rfl rfl (by decide +kernel) ⟨Nat.le_of_ble_eq_true rfl, Nat.le_of_ble_eq_true rfl⟩) (pre_V hK hP hD hS hA hE [1, 2] rfl (by decide) rfl [1] rfl (ci := 12) (q0 := 1) rfl rfl) rfl rfl hl.1 rfl (lv_room (Nat.le_of_ble_eq_true rfl)) dL_law_1183 ⟨Nat.le_of_ble_eq_true rfl, Nat.le_of_ble_eq_true rfl⟩) hS (fun q _ h => f_9 q h) f_9 (fun r_10 u_11 t H1 locs ht hvm h_12 hB hz1 hk1 hS => ?_)
  obtain ⟨hP, hD⟩ := join (wc := [(hm, .inr (12, [.int 0, .ref hr, .int 0, .int 0, .int 0, .int 0, .int 0, .ref (gm 7), .ref (gm 8), .ref (gm 9), .ref (gm 10), .ref (gm 11), .ref (gm 12), .ref (gm 13), .ref (gm 14), .int 0, .ref (gm 16), .int 0, .int 0, .int 0, .ref (gm 20), .ref (gm 21), .int 0, .int 0, .int 0, .int 0, .int 0, .int 0, .ref (gm 28), .ref (gm 29)])), (hr, .inl (kI, 2, .inl (fun _ => 0)))]) (wr := [(gn 0, .inl (kP, 6, .inr (.inr (.inr (.inr (fun _ => none)))))), (gm 7, .inl (kA, 6, .inr (.inr (.inr (.inr F))))), (rr, .inl (kY, 5, .inl (fun _ => 0))), (o, .inl (kL, 1, .inr (.inl (fun _ => 0))))]) (w1 := [(hm, .inr (12, u_11))]) hP hD f_9 [1, 2] [0, 3, 4, 5] rfl rfl (by decide) (by decide) hk1 ht hB
  generalize H1 = H at hP hS ⊢
  have hP : va_P D vwCl [(gn 0, .inl (kP, 6, .inr (.inr (.inr (.inr (fun _ => none)))))), (gm 7, .inl (kA, 6, .inr (.inr (.inr (.inr F))))), (rr, .inl (kY, 5, .inl (fun _ => 0))), (o, .inl (kL, 1, .inr (.inl (fun _ => 0)))), (hm, .inr (12, u_11))] H := hP
  have hD : va_D (fun q : Nat => s.heap.size ≤ q) [(gn 0, .inl (kP, 6, .inr (.inr (.inr (.inr (fun _ => none)))))), (gm 7, .inl (kA, 6, .inr (.inr (.inr (.inr F))))), (rr, .inl (kY, 5, .inl (fun _ => 0))), (o, .inl (kL, 1, .inr (.inl (fun _ => 0)))), (hm, .inr (12, u_11))] := hD
  refine lv_istore (lv' := [(6, .int r_10), (5, .int 1), (4, .int 0), (3, .ref o), (2, .ref hm), (1, .ref h0), (0, .ref b)]) hx hb dL_law_1186 hl (by decide) rfl (fun ls hl => ?_)
  refine lv_aload_n hx hb dL_law_1188 rfl (lv_at hl 4 rfl) ?_
  have f_13 := free_of (wc := [(hm, .inr (12, u_11))]) hD hS hA [4] rfl
  refine va_calli (va_runV (As := []) (rest := []) ⟨hx, hb, hml, hown, hts⟩ (c_thrown l D a1 a2 H.size hm u_11 1 h_12) (cwV 0 hts (gV w_458 w_459 w_460 w_244 w_461) rfl rfl rfl (by decide +kernel) ⟨Nat.le_of_ble_eq_true rfl, Nat.le_of_ble_eq_true rfl⟩) (pre_V hK hP hD hS hA hE [4] rfl (by decide) rfl [] rfl (ci := 12) (q0 := 4) rfl rfl) rfl rfl hl.1 rfl (lv_room (Nat.le_of_ble_eq_true rfl)) dL_law_1189 ⟨Nat.le_of_ble_eq_true rfl, Nat.le_of_ble_eq_true rfl⟩) hS (fun q _ h => f_13 q h) f_13 (fun r_14 u_15 t H1 locs ht hvm h_16 hB hz1 hk1 hS => ?_)
  obtain ⟨hP, hD⟩ := join (wc := [(hm, .inr (12, u_11))]) (wr := [(gn 0, .inl (kP, 6, .inr (.inr (.inr (.inr (fun _ => none)))))), (gm 7, .inl (kA, 6, .inr (.inr (.inr (.inr F))))), (rr, .inl (kY, 5, .inl (fun _ => 0))), (o, .inl (kL, 1, .inr (.inl (fun _ => 0))))]) (w1 := [(hm, .inr (12, u_11))]) hP hD f_13 [4] [0, 1, 2, 3] rfl rfl (by decide) (by decide) hk1 ht hB
  generalize H1 = H at hP hS ⊢
  have hP : va_P D vwCl [(gn 0, .inl (kP, 6, .inr (.inr (.inr (.inr (fun _ => none)))))), (gm 7, .inl (kA, 6, .inr (.inr (.inr (.inr F))))), (rr, .inl (kY, 5, .inl (fun _ => 0))), (o, .inl (kL, 1, .inr (.inl (fun _ => 0)))), (hm, .inr (12, u_11))] H := hP
  have hD : va_D (fun q : Nat => s.heap.size ≤ q) [(gn 0, .inl (kP, 6, .inr (.inr (.inr (.inr (fun _ => none)))))), (gm 7, .inl (kA, 6, .inr (.inr (.inr (.inr F))))), (rr, .inl (kY, 5, .inl (fun _ => 0))), (o, .inl (kL, 1, .inr (.inl (fun _ => 0)))), (hm, .inr (12, u_11))] := hD
  obtain rfl := h_16
  refine lv_iload hx hb dL_law_1192 (lv_at hl 1 rfl) ?_
  refine lv_icmp_eq (tgt := 1199) hx hb dL_law_1194 (by decide) (fun _ => ?_) (fun c => absurd (by decide) c)
  refine lv_iload hx hb dL_law_1199 (lv_at hl 1 rfl) ?_
  refine lv_if_ne (tgt := 1216) hx hb dL_law_1201 (by decide) (fun _ => ?_) (fun c => absurd c (by decide))
  refine lv_goto (tgt := 3913) hx hb dL_law_1216 (by decide) ?_
  exact law_tail hx hb hr_ hlocks hX hbl hS (Nat.le_of_ble_eq_true rfl) (Nat.le_of_ble_eq_true rfl) (lv_sub hl [2, 6] rfl)
set_option maxRecDepth 100000 in
set_option maxHeartbeats 4000000 in
theorem case_12 {p : Program} {l : Launch} (hl9 : l.stackTraces = false) {e : Env} {s : State} {m : MethodId} {below : List Frame} {meth : Method} {c : Code} {D : va_G} {a1 a2 b : Nat} {xs : Nat → Int32} {H : Heap} {locs : List Loc} {ls : Array Slot} (h0 h1 h2 : Nat) (g gn gb : Nat → Nat) (kP : ClassId) (hm hr rr : Nat) (gm : Nat → Nat) (kI kA kY : ClassId) (F : Nat → Option Nat) (o : Nat) (kL : ClassId) (hG : LawSt D a1 a2 p s m meth c b xs H locs ls h0 h1 h2 g gn gb kP hm hr rr gm kI kA kY F o kL) : W p l e room_1 s m #[Value.ref b] below meth c H locs 5338 65502 (lw_Z below #[Value.ref b] s) (F0 m 1219 ls []) := by
  obtain ⟨hx, hb, hr_, hml, hown, hts, hX, hbl, hlocks, hP, hK, hD, hA, hE, hS, hF, hl⟩ := hG
  have hbA : ¬ (fun q : Nat => s.heap.size ≤ q) b := Nat.not_le.mpr hbl
  refine lv_aload_n hx hb dL_law_1219 rfl (lv_at hl 3 rfl) ?_
  refine lv_aload_n hx hb dL_law_1220 rfl (lv_at hl 4 rfl) ?_
  refine lv_iload hx hb dL_law_1221 (lv_at hl 0 rfl) ?_
  refine lv_iconst (v := 1) hx hb dL_law_1223 (by decide) ?_
  refine lv_iadd hx hb dL_law_1224 ?_
  refine lv_topi (fun x_1 ex_1 => ?_)
  obtain rfl : x_1 = 1 := ex_1.trans (by decide)
  refine va_sld hx hb hX hbl hbA hS (i := 1) (by unfold vp_in; decide) dL_law_1225 ?_
  refine W.eq (g2 := F0 m 1226 ls [.int (xs 1), .ref h0]) rfl ?_
  refine lv_aload_n hx hb dL_law_1226 rfl (lv_at hl 4 rfl) ?_
  refine lv_iload hx hb dL_law_1227 (lv_at hl 0 rfl) ?_
  refine lv_iconst (v := 2) hx hb dL_law_1229 (by decide) ?_
  refine lv_iadd hx hb dL_law_1230 ?_
  refine lv_topi (fun x_2 ex_2 => ?_)
  obtain rfl : x_2 = 2 := ex_2.trans (by decide)
  refine va_sld hx hb hX hbl hbA hS (i := 2) (by unfold vp_in; decide) dL_law_1231 ?_
  refine W.eq (g2 := F0 m 1232 ls [.int (xs 2), .int (xs 1), .ref h0]) rfl ?_
  refine lv_aload_n hx hb dL_law_1232 rfl (lv_at hl 4 rfl) ?_
  refine lv_iload hx hb dL_law_1233 (lv_at hl 0 rfl) ?_
  refine lv_iconst (v := 3) hx hb dL_law_1235 (by decide) ?_
  refine lv_iadd hx hb dL_law_1236 ?_
  refine lv_topi (fun x_3 ex_3 => ?_)
  obtain rfl : x_3 = 3 := ex_3.trans (by decide)
  refine va_sld hx hb hX hbl hbA hS (i := 3) (by unfold vp_in; decide) dL_law_1237 ?_
  refine W.eq (g2 := F0 m 1238 ls [.int (xs 3), .int (xs 2), .int (xs 1), .ref h0]) rfl ?_
  refine lv_aload_n hx hb dL_law_1238 rfl (lv_at hl 1 rfl) ?_
  have f_4 := free_of (wc := [(h0, .inr (11, [.ref h1, .ref h2, .ref (g 2), .ref (g 3), .ref (g 4), .ref (g 5), .ref (g 6), .int 0, .int 0, .int 0, .int 0])), (h1, .inr (6, [.ref (gn 0), .int 0, .ref (gn 2), .ref (gn 3), .int 0, .ref (gn 5), .int 0, .int 0])), (h2, .inr (1, [.ref h1, .ref (gb 1), .int 0]))]) hD hS hA [0, 1, 2] rfl
  refine vx_calli (vx_runSX (As := [.ref h0, .int (xs 1), .int (xs 2), .int (xs 3), .ref o]) (rest := []) ⟨hx, hb, hml, hown, hts⟩ (c_h_step l hl9 D a1 a2 H.size h0 h1 h2 g gn gb (xs 1) (xs 2) (xs 3) o) (vx_cwSW 5 hts (gSW w_525 w_526 w_450 w_527) rfl rfl rfl (by decide +kernel) ⟨Nat.le_of_ble_eq_true rfl, Nat.le_of_ble_eq_true rfl⟩) (pre_S hK hP hD hS hA hE [0, 1, 2] rfl (by decide) rfl [] rfl) rfl rfl hl.1 rfl (lv_room (Nat.le_of_ble_eq_true rfl)) dL_law_1239 ⟨Nat.le_of_ble_eq_true rfl, Nat.le_of_ble_eq_true rfl⟩) hS (fun q _ h => f_4 q h) f_4 (fun q _ h => f_4 q h) (fun E ce q9 u9 t H locs ht hvm hw hB hz1 hk1 hS hce hcv hcl => False.elim hw) (fun r_5 u_6 t H1 locs ht hvm h_7 hB hz1 hk1 hS => ?_)
  obtain ⟨hP, hD⟩ := join (wc := [(h0, .inr (11, [.ref h1, .ref h2, .ref (g 2), .ref (g 3), .ref (g 4), .ref (g 5), .ref (g 6), .int 0, .int 0, .int 0, .int 0])), (h1, .inr (6, [.ref (gn 0), .int 0, .ref (gn 2), .ref (gn 3), .int 0, .ref (gn 5), .int 0, .int 0])), (h2, .inr (1, [.ref h1, .ref (gb 1), .int 0]))]) (wr := [(gn 0, .inl (kP, 6, .inr (.inr (.inr (.inr (fun _ => none)))))), (hm, .inr (12, [.int 0, .ref hr, .int 0, .int 0, .int 0, .int 0, .int 0, .ref (gm 7), .ref (gm 8), .ref (gm 9), .ref (gm 10), .ref (gm 11), .ref (gm 12), .ref (gm 13), .ref (gm 14), .int 0, .ref (gm 16), .int 0, .int 0, .int 0, .ref (gm 20), .ref (gm 21), .int 0, .int 0, .int 0, .int 0, .int 0, .int 0, .ref (gm 28), .ref (gm 29)])), (hr, .inl (kI, 2, .inl (fun _ => 0))), (gm 7, .inl (kA, 6, .inr (.inr (.inr (.inr F))))), (rr, .inl (kY, 5, .inl (fun _ => 0))), (o, .inl (kL, 1, .inr (.inl (fun _ => 0))))]) (w1 := []) hP hD f_4 [0, 1, 2] [3, 4, 5, 6, 7, 8] rfl rfl (by decide) (by decide) hk1 ht wat_nil
  generalize H1 = H at hP hS ⊢
  have hP : va_P D vwCl [(gn 0, .inl (kP, 6, .inr (.inr (.inr (.inr (fun _ => none)))))), (hm, .inr (12, [.int 0, .ref hr, .int 0, .int 0, .int 0, .int 0, .int 0, .ref (gm 7), .ref (gm 8), .ref (gm 9), .ref (gm 10), .ref (gm 11), .ref (gm 12), .ref (gm 13), .ref (gm 14), .int 0, .ref (gm 16), .int 0, .int 0, .int 0, .ref (gm 20), .ref (gm 21), .int 0, .int 0, .int 0, .int 0, .int 0, .int 0, .ref (gm 28), .ref (gm 29)])), (hr, .inl (kI, 2, .inl (fun _ => 0))), (gm 7, .inl (kA, 6, .inr (.inr (.inr (.inr F))))), (rr, .inl (kY, 5, .inl (fun _ => 0))), (o, .inl (kL, 1, .inr (.inl (fun _ => 0))))] H := hP
  have hD : va_D (fun q : Nat => s.heap.size ≤ q) [(gn 0, .inl (kP, 6, .inr (.inr (.inr (.inr (fun _ => none)))))), (hm, .inr (12, [.int 0, .ref hr, .int 0, .int 0, .int 0, .int 0, .int 0, .ref (gm 7), .ref (gm 8), .ref (gm 9), .ref (gm 10), .ref (gm 11), .ref (gm 12), .ref (gm 13), .ref (gm 14), .int 0, .ref (gm 16), .int 0, .int 0, .int 0, .ref (gm 20), .ref (gm 21), .int 0, .int 0, .int 0, .int 0, .int 0, .int 0, .ref (gm 28), .ref (gm 29)])), (hr, .inl (kI, 2, .inl (fun _ => 0))), (gm 7, .inl (kA, 6, .inr (.inr (.inr (.inr F))))), (rr, .inl (kY, 5, .inl (fun _ => 0))), (o, .inl (kL, 1, .inr (.inl (fun _ => 0))))] := hD
  obtain rfl := h_7
  refine lv_istore (lv' := [(5, .int 1), (4, .int 0), (3, .ref o), (2, .ref hm), (1, .ref h0), (0, .ref b)]) hx hb dL_law_1242 hl (by decide) rfl (fun ls hl => ?_)
  refine lv_aload_n hx hb dL_law_1244 rfl (lv_at hl 3 rfl) ?_
  refine lv_aload_n hx hb dL_law_1245 rfl (lv_at hl 5 rfl) ?_
  refine lv_iload hx hb dL_law_1246 (lv_at hl 1 rfl) ?_
  refine lv_iconst (v := 1) hx hb dL_law_1248 (by decide) ?_
  refine lv_iadd hx hb dL_law_1249 ?_
  refine lv_topi (fun x_8 ex_8 => ?_)
  obtain rfl : x_8 = 1 := ex_8.trans (by decide)
  refine va_sld hx hb hX hbl hbA hS (i := 1) (by unfold vp_in; decide) dL_law_1250 ?_
  refine W.eq (g2 := F0 m 1251 ls [.int (xs 1), .ref hm]) rfl ?_
  refine lv_aload_n hx hb dL_law_1251 rfl (lv_at hl 5 rfl) ?_
  refine lv_iload hx hb dL_law_1252 (lv_at hl 1 rfl) ?_
  refine lv_iconst (v := 2) hx hb dL_law_1254 (by decide) ?_
  refine lv_iadd hx hb dL_law_1255 ?_
  refine lv_topi (fun x_9 ex_9 => ?_)
  obtain rfl : x_9 = 2 := ex_9.trans (by decide)
  refine va_sld hx hb hX hbl hbA hS (i := 2) (by unfold vp_in; decide) dL_law_1256 ?_
  refine W.eq (g2 := F0 m 1257 ls [.int (xs 2), .int (xs 1), .ref hm]) rfl ?_
  refine lv_aload_n hx hb dL_law_1257 rfl (lv_at hl 5 rfl) ?_
  refine lv_iload hx hb dL_law_1258 (lv_at hl 1 rfl) ?_
  refine lv_iconst (v := 3) hx hb dL_law_1260 (by decide) ?_
  refine lv_iadd hx hb dL_law_1261 ?_
  refine lv_topi (fun x_10 ex_10 => ?_)
  obtain rfl : x_10 = 3 := ex_10.trans (by decide)
  refine va_sld hx hb hX hbl hbA hS (i := 3) (by unfold vp_in; decide) dL_law_1262 ?_
  refine W.eq (g2 := F0 m 1263 ls [.int (xs 3), .int (xs 2), .int (xs 1), .ref hm]) rfl ?_
  have f_11 := free_of (wc := [(hm, .inr (12, [.int 0, .ref hr, .int 0, .int 0, .int 0, .int 0, .int 0, .ref (gm 7), .ref (gm 8), .ref (gm 9), .ref (gm 10), .ref (gm 11), .ref (gm 12), .ref (gm 13), .ref (gm 14), .int 0, .ref (gm 16), .int 0, .int 0, .int 0, .ref (gm 20), .ref (gm 21), .int 0, .int 0, .int 0, .int 0, .int 0, .int 0, .ref (gm 28), .ref (gm 29)])), (hr, .inl (kI, 2, .inl (fun _ => 0)))]) hD hS hA [1, 2] rfl
  refine va_calli (va_runV (As := [.int (xs 1), .int (xs 2), .int (xs 3)]) (rest := []) ⟨hx, hb, hml, hown, hts⟩ (c_m_step l D a1 a2 H.size hm hr gm kI (xs 1) (xs 2) (xs 3)) (cwV 3 hts (gV w_528 w_529 w_530 w_244 w_531) rfl rfl rfl (by decide +kernel) ⟨Nat.le_of_ble_eq_true rfl, Nat.le_of_ble_eq_true rfl⟩) (pre_V hK hP hD hS hA hE [1, 2] rfl (by decide) rfl [1] rfl (ci := 12) (q0 := 1) rfl rfl) rfl rfl hl.1 rfl (lv_room (Nat.le_of_ble_eq_true rfl)) dL_law_1263 ⟨Nat.le_of_ble_eq_true rfl, Nat.le_of_ble_eq_true rfl⟩) hS (fun q _ h => f_11 q h) f_11 (fun r_12 u_13 t H1 locs ht hvm h_14 hB hz1 hk1 hS => ?_)
  obtain ⟨hP, hD⟩ := join (wc := [(hm, .inr (12, [.int 0, .ref hr, .int 0, .int 0, .int 0, .int 0, .int 0, .ref (gm 7), .ref (gm 8), .ref (gm 9), .ref (gm 10), .ref (gm 11), .ref (gm 12), .ref (gm 13), .ref (gm 14), .int 0, .ref (gm 16), .int 0, .int 0, .int 0, .ref (gm 20), .ref (gm 21), .int 0, .int 0, .int 0, .int 0, .int 0, .int 0, .ref (gm 28), .ref (gm 29)])), (hr, .inl (kI, 2, .inl (fun _ => 0)))]) (wr := [(gn 0, .inl (kP, 6, .inr (.inr (.inr (.inr (fun _ => none)))))), (gm 7, .inl (kA, 6, .inr (.inr (.inr (.inr F))))), (rr, .inl (kY, 5, .inl (fun _ => 0))), (o, .inl (kL, 1, .inr (.inl (fun _ => 0))))]) (w1 := [(hm, .inr (12, u_13))]) hP hD f_11 [1, 2] [0, 3, 4, 5] rfl rfl (by decide) (by decide) hk1 ht hB
  generalize H1 = H at hP hS ⊢
  have hP : va_P D vwCl [(gn 0, .inl (kP, 6, .inr (.inr (.inr (.inr (fun _ => none)))))), (gm 7, .inl (kA, 6, .inr (.inr (.inr (.inr F))))), (rr, .inl (kY, 5, .inl (fun _ => 0))), (o, .inl (kL, 1, .inr (.inl (fun _ => 0)))), (hm, .inr (12, u_13))] H := hP
  have hD : va_D (fun q : Nat => s.heap.size ≤ q) [(gn 0, .inl (kP, 6, .inr (.inr (.inr (.inr (fun _ => none)))))), (gm 7, .inl (kA, 6, .inr (.inr (.inr (.inr F))))), (rr, .inl (kY, 5, .inl (fun _ => 0))), (o, .inl (kL, 1, .inr (.inl (fun _ => 0)))), (hm, .inr (12, u_13))] := hD
  refine lv_istore (lv' := [(6, .int r_12), (5, .int 1), (4, .int 0), (3, .ref o), (2, .ref hm), (1, .ref h0), (0, .ref b)]) hx hb dL_law_1266 hl (by decide) rfl (fun ls hl => ?_)
  refine lv_aload_n hx hb dL_law_1268 rfl (lv_at hl 4 rfl) ?_
  have f_15 := free_of (wc := [(hm, .inr (12, u_13))]) hD hS hA [4] rfl
  refine va_calli (va_runV (As := []) (rest := []) ⟨hx, hb, hml, hown, hts⟩ (c_thrown l D a1 a2 H.size hm u_13 1 h_14) (cwV 0 hts (gV w_458 w_459 w_460 w_244 w_461) rfl rfl rfl (by decide +kernel) ⟨Nat.le_of_ble_eq_true rfl, Nat.le_of_ble_eq_true rfl⟩) (pre_V hK hP hD hS hA hE [4] rfl (by decide) rfl [] rfl (ci := 12) (q0 := 4) rfl rfl) rfl rfl hl.1 rfl (lv_room (Nat.le_of_ble_eq_true rfl)) dL_law_1269 ⟨Nat.le_of_ble_eq_true rfl, Nat.le_of_ble_eq_true rfl⟩) hS (fun q _ h => f_15 q h) f_15 (fun r_16 u_17 t H1 locs ht hvm h_18 hB hz1 hk1 hS => ?_)
  obtain ⟨hP, hD⟩ := join (wc := [(hm, .inr (12, u_13))]) (wr := [(gn 0, .inl (kP, 6, .inr (.inr (.inr (.inr (fun _ => none)))))), (gm 7, .inl (kA, 6, .inr (.inr (.inr (.inr F))))), (rr, .inl (kY, 5, .inl (fun _ => 0))), (o, .inl (kL, 1, .inr (.inl (fun _ => 0))))]) (w1 := [(hm, .inr (12, u_13))]) hP hD f_15 [4] [0, 1, 2, 3] rfl rfl (by decide) (by decide) hk1 ht hB
  generalize H1 = H at hP hS ⊢
  have hP : va_P D vwCl [(gn 0, .inl (kP, 6, .inr (.inr (.inr (.inr (fun _ => none)))))), (gm 7, .inl (kA, 6, .inr (.inr (.inr (.inr F))))), (rr, .inl (kY, 5, .inl (fun _ => 0))), (o, .inl (kL, 1, .inr (.inl (fun _ => 0)))), (hm, .inr (12, u_13))] H := hP
  have hD : va_D (fun q : Nat => s.heap.size ≤ q) [(gn 0, .inl (kP, 6, .inr (.inr (.inr (.inr (fun _ => none)))))), (gm 7, .inl (kA, 6, .inr (.inr (.inr (.inr F))))), (rr, .inl (kY, 5, .inl (fun _ => 0))), (o, .inl (kL, 1, .inr (.inl (fun _ => 0)))), (hm, .inr (12, u_13))] := hD
  obtain rfl := h_18
  refine lv_iload hx hb dL_law_1272 (lv_at hl 1 rfl) ?_
  refine lv_icmp_eq (tgt := 1279) hx hb dL_law_1274 (by decide) (fun _ => ?_) (fun c => absurd (by decide) c)
  refine lv_iload hx hb dL_law_1279 (lv_at hl 1 rfl) ?_
  refine lv_if_ne (tgt := 1296) hx hb dL_law_1281 (by decide) (fun _ => ?_) (fun c => absurd c (by decide))
  refine lv_goto (tgt := 3913) hx hb dL_law_1296 (by decide) ?_
  exact law_tail hx hb hr_ hlocks hX hbl hS (Nat.le_of_ble_eq_true rfl) (Nat.le_of_ble_eq_true rfl) (lv_sub hl [2, 6] rfl)
set_option maxRecDepth 100000 in
set_option maxHeartbeats 4000000 in
theorem case_13 {p : Program} {l : Launch} (hl9 : l.stackTraces = false) {e : Env} {s : State} {m : MethodId} {below : List Frame} {meth : Method} {c : Code} {D : va_G} {a1 a2 b : Nat} {xs : Nat → Int32} {H : Heap} {locs : List Loc} {ls : Array Slot} (h0 h1 h2 : Nat) (g gn gb : Nat → Nat) (kP : ClassId) (hm hr rr : Nat) (gm : Nat → Nat) (kI kA kY : ClassId) (F : Nat → Option Nat) (o : Nat) (kL : ClassId) (hG : LawSt D a1 a2 p s m meth c b xs H locs ls h0 h1 h2 g gn gb kP hm hr rr gm kI kA kY F o kL) : W p l e room_1 s m #[Value.ref b] below meth c H locs 5338 65502 (lw_Z below #[Value.ref b] s) (F0 m 1299 ls []) := by
  obtain ⟨hx, hb, hr_, hml, hown, hts, hX, hbl, hlocks, hP, hK, hD, hA, hE, hS, hF, hl⟩ := hG
  have hbA : ¬ (fun q : Nat => s.heap.size ≤ q) b := Nat.not_le.mpr hbl
  refine lv_aload_n hx hb dL_law_1299 rfl (lv_at hl 3 rfl) ?_
  refine lv_aload_n hx hb dL_law_1300 rfl (lv_at hl 4 rfl) ?_
  refine lv_iload hx hb dL_law_1301 (lv_at hl 0 rfl) ?_
  refine lv_iconst (v := 1) hx hb dL_law_1303 (by decide) ?_
  refine lv_iadd hx hb dL_law_1304 ?_
  refine lv_topi (fun x_1 ex_1 => ?_)
  obtain rfl : x_1 = 1 := ex_1.trans (by decide)
  refine va_sld hx hb hX hbl hbA hS (i := 1) (by unfold vp_in; decide) dL_law_1305 ?_
  refine W.eq (g2 := F0 m 1306 ls [.int (xs 1), .ref h0]) rfl ?_
  refine lv_aload_n hx hb dL_law_1306 rfl (lv_at hl 1 rfl) ?_
  have f_2 := free_of (wc := [(h0, .inr (11, [.ref h1, .ref h2, .ref (g 2), .ref (g 3), .ref (g 4), .ref (g 5), .ref (g 6), .int 0, .int 0, .int 0, .int 0])), (h1, .inr (6, [.ref (gn 0), .int 0, .ref (gn 2), .ref (gn 3), .int 0, .ref (gn 5), .int 0, .int 0])), (h2, .inr (1, [.ref h1, .ref (gb 1), .int 0]))]) hD hS hA [0, 1, 2] rfl
  refine vx_calli (vx_runSX (As := [.ref h0, .int (xs 1), .ref o]) (rest := []) ⟨hx, hb, hml, hown, hts⟩ (c_h_pay l hl9 D a1 a2 H.size h0 h1 h2 g gn gb (xs 1) o) (vx_cwSW 3 hts (gSW w_532 w_533 w_450 w_534) rfl rfl rfl (by decide +kernel) ⟨Nat.le_of_ble_eq_true rfl, Nat.le_of_ble_eq_true rfl⟩) (pre_S hK hP hD hS hA hE [0, 1, 2] rfl (by decide) rfl [] rfl) rfl rfl hl.1 rfl (lv_room (Nat.le_of_ble_eq_true rfl)) dL_law_1307 ⟨Nat.le_of_ble_eq_true rfl, Nat.le_of_ble_eq_true rfl⟩) hS (fun q _ h => f_2 q h) f_2 (fun q _ h => f_2 q h) (fun E ce q9 u9 t H locs ht hvm hw hB hz1 hk1 hS hce hcv hcl => False.elim hw) (fun r_3 u_4 t H1 locs ht hvm h_5 hB hz1 hk1 hS => ?_)
  obtain ⟨hP, hD⟩ := join (wc := [(h0, .inr (11, [.ref h1, .ref h2, .ref (g 2), .ref (g 3), .ref (g 4), .ref (g 5), .ref (g 6), .int 0, .int 0, .int 0, .int 0])), (h1, .inr (6, [.ref (gn 0), .int 0, .ref (gn 2), .ref (gn 3), .int 0, .ref (gn 5), .int 0, .int 0])), (h2, .inr (1, [.ref h1, .ref (gb 1), .int 0]))]) (wr := [(gn 0, .inl (kP, 6, .inr (.inr (.inr (.inr (fun _ => none)))))), (hm, .inr (12, [.int 0, .ref hr, .int 0, .int 0, .int 0, .int 0, .int 0, .ref (gm 7), .ref (gm 8), .ref (gm 9), .ref (gm 10), .ref (gm 11), .ref (gm 12), .ref (gm 13), .ref (gm 14), .int 0, .ref (gm 16), .int 0, .int 0, .int 0, .ref (gm 20), .ref (gm 21), .int 0, .int 0, .int 0, .int 0, .int 0, .int 0, .ref (gm 28), .ref (gm 29)])), (hr, .inl (kI, 2, .inl (fun _ => 0))), (gm 7, .inl (kA, 6, .inr (.inr (.inr (.inr F))))), (rr, .inl (kY, 5, .inl (fun _ => 0))), (o, .inl (kL, 1, .inr (.inl (fun _ => 0))))]) (w1 := []) hP hD f_2 [0, 1, 2] [3, 4, 5, 6, 7, 8] rfl rfl (by decide) (by decide) hk1 ht wat_nil
  generalize H1 = H at hP hS ⊢
  have hP : va_P D vwCl [(gn 0, .inl (kP, 6, .inr (.inr (.inr (.inr (fun _ => none)))))), (hm, .inr (12, [.int 0, .ref hr, .int 0, .int 0, .int 0, .int 0, .int 0, .ref (gm 7), .ref (gm 8), .ref (gm 9), .ref (gm 10), .ref (gm 11), .ref (gm 12), .ref (gm 13), .ref (gm 14), .int 0, .ref (gm 16), .int 0, .int 0, .int 0, .ref (gm 20), .ref (gm 21), .int 0, .int 0, .int 0, .int 0, .int 0, .int 0, .ref (gm 28), .ref (gm 29)])), (hr, .inl (kI, 2, .inl (fun _ => 0))), (gm 7, .inl (kA, 6, .inr (.inr (.inr (.inr F))))), (rr, .inl (kY, 5, .inl (fun _ => 0))), (o, .inl (kL, 1, .inr (.inl (fun _ => 0))))] H := hP
  have hD : va_D (fun q : Nat => s.heap.size ≤ q) [(gn 0, .inl (kP, 6, .inr (.inr (.inr (.inr (fun _ => none)))))), (hm, .inr (12, [.int 0, .ref hr, .int 0, .int 0, .int 0, .int 0, .int 0, .ref (gm 7), .ref (gm 8), .ref (gm 9), .ref (gm 10), .ref (gm 11), .ref (gm 12), .ref (gm 13), .ref (gm 14), .int 0, .ref (gm 16), .int 0, .int 0, .int 0, .ref (gm 20), .ref (gm 21), .int 0, .int 0, .int 0, .int 0, .int 0, .int 0, .ref (gm 28), .ref (gm 29)])), (hr, .inl (kI, 2, .inl (fun _ => 0))), (gm 7, .inl (kA, 6, .inr (.inr (.inr (.inr F))))), (rr, .inl (kY, 5, .inl (fun _ => 0))), (o, .inl (kL, 1, .inr (.inl (fun _ => 0))))] := hD
  obtain rfl := h_5
  refine lv_istore (lv' := [(5, .int 1), (4, .int 0), (3, .ref o), (2, .ref hm), (1, .ref h0), (0, .ref b)]) hx hb dL_law_1310 hl (by decide) rfl (fun ls hl => ?_)
  refine lv_aload_n hx hb dL_law_1312 rfl (lv_at hl 3 rfl) ?_
  refine lv_aload_n hx hb dL_law_1313 rfl (lv_at hl 5 rfl) ?_
  refine lv_iload hx hb dL_law_1314 (lv_at hl 1 rfl) ?_
  refine lv_iconst (v := 1) hx hb dL_law_1316 (by decide) ?_
  refine lv_iadd hx hb dL_law_1317 ?_
  refine lv_topi (fun x_6 ex_6 => ?_)
  obtain rfl : x_6 = 1 := ex_6.trans (by decide)
  refine va_sld hx hb hX hbl hbA hS (i := 1) (by unfold vp_in; decide) dL_law_1318 ?_
  refine W.eq (g2 := F0 m 1319 ls [.int (xs 1), .ref hm]) rfl ?_
  have f_7 := free_of (wc := [(hm, .inr (12, [.int 0, .ref hr, .int 0, .int 0, .int 0, .int 0, .int 0, .ref (gm 7), .ref (gm 8), .ref (gm 9), .ref (gm 10), .ref (gm 11), .ref (gm 12), .ref (gm 13), .ref (gm 14), .int 0, .ref (gm 16), .int 0, .int 0, .int 0, .ref (gm 20), .ref (gm 21), .int 0, .int 0, .int 0, .int 0, .int 0, .int 0, .ref (gm 28), .ref (gm 29)])), (hr, .inl (kI, 2, .inl (fun _ => 0)))]) hD hS hA [1, 2] rfl
  refine va_calli (va_runV (As := [.int (xs 1)]) (rest := []) ⟨hx, hb, hml, hown, hts⟩ (c_m_pay l D a1 a2 H.size hm hr gm kI (xs 1)) (cwV 1 hts (gV w_535 w_536 w_537 w_244 w_538) rfl rfl rfl (by decide +kernel) ⟨Nat.le_of_ble_eq_true rfl, Nat.le_of_ble_eq_true rfl⟩) (pre_V hK hP hD hS hA hE [1, 2] rfl (by decide) rfl [1] rfl (ci := 12) (q0 := 1) rfl rfl) rfl rfl hl.1 rfl (lv_room (Nat.le_of_ble_eq_true rfl)) dL_law_1319 ⟨Nat.le_of_ble_eq_true rfl, Nat.le_of_ble_eq_true rfl⟩) hS (fun q _ h => f_7 q h) f_7 (fun r_8 u_9 t H1 locs ht hvm h_10 hB hz1 hk1 hS => ?_)
  obtain ⟨hP, hD⟩ := join (wc := [(hm, .inr (12, [.int 0, .ref hr, .int 0, .int 0, .int 0, .int 0, .int 0, .ref (gm 7), .ref (gm 8), .ref (gm 9), .ref (gm 10), .ref (gm 11), .ref (gm 12), .ref (gm 13), .ref (gm 14), .int 0, .ref (gm 16), .int 0, .int 0, .int 0, .ref (gm 20), .ref (gm 21), .int 0, .int 0, .int 0, .int 0, .int 0, .int 0, .ref (gm 28), .ref (gm 29)])), (hr, .inl (kI, 2, .inl (fun _ => 0)))]) (wr := [(gn 0, .inl (kP, 6, .inr (.inr (.inr (.inr (fun _ => none)))))), (gm 7, .inl (kA, 6, .inr (.inr (.inr (.inr F))))), (rr, .inl (kY, 5, .inl (fun _ => 0))), (o, .inl (kL, 1, .inr (.inl (fun _ => 0))))]) (w1 := [(hm, .inr (12, u_9))]) hP hD f_7 [1, 2] [0, 3, 4, 5] rfl rfl (by decide) (by decide) hk1 ht hB
  generalize H1 = H at hP hS ⊢
  have hP : va_P D vwCl [(gn 0, .inl (kP, 6, .inr (.inr (.inr (.inr (fun _ => none)))))), (gm 7, .inl (kA, 6, .inr (.inr (.inr (.inr F))))), (rr, .inl (kY, 5, .inl (fun _ => 0))), (o, .inl (kL, 1, .inr (.inl (fun _ => 0)))), (hm, .inr (12, u_9))] H := hP
  have hD : va_D (fun q : Nat => s.heap.size ≤ q) [(gn 0, .inl (kP, 6, .inr (.inr (.inr (.inr (fun _ => none)))))), (gm 7, .inl (kA, 6, .inr (.inr (.inr (.inr F))))), (rr, .inl (kY, 5, .inl (fun _ => 0))), (o, .inl (kL, 1, .inr (.inl (fun _ => 0)))), (hm, .inr (12, u_9))] := hD
  refine lv_istore (lv' := [(6, .int r_8), (5, .int 1), (4, .int 0), (3, .ref o), (2, .ref hm), (1, .ref h0), (0, .ref b)]) hx hb dL_law_1322 hl (by decide) rfl (fun ls hl => ?_)
  refine lv_aload_n hx hb dL_law_1324 rfl (lv_at hl 4 rfl) ?_
  have f_11 := free_of (wc := [(hm, .inr (12, u_9))]) hD hS hA [4] rfl
  refine va_calli (va_runV (As := []) (rest := []) ⟨hx, hb, hml, hown, hts⟩ (c_thrown l D a1 a2 H.size hm u_9 1 h_10) (cwV 0 hts (gV w_458 w_459 w_460 w_244 w_461) rfl rfl rfl (by decide +kernel) ⟨Nat.le_of_ble_eq_true rfl, Nat.le_of_ble_eq_true rfl⟩) (pre_V hK hP hD hS hA hE [4] rfl (by decide) rfl [] rfl (ci := 12) (q0 := 4) rfl rfl) rfl rfl hl.1 rfl (lv_room (Nat.le_of_ble_eq_true rfl)) dL_law_1325 ⟨Nat.le_of_ble_eq_true rfl, Nat.le_of_ble_eq_true rfl⟩) hS (fun q _ h => f_11 q h) f_11 (fun r_12 u_13 t H1 locs ht hvm h_14 hB hz1 hk1 hS => ?_)
  obtain ⟨hP, hD⟩ := join (wc := [(hm, .inr (12, u_9))]) (wr := [(gn 0, .inl (kP, 6, .inr (.inr (.inr (.inr (fun _ => none)))))), (gm 7, .inl (kA, 6, .inr (.inr (.inr (.inr F))))), (rr, .inl (kY, 5, .inl (fun _ => 0))), (o, .inl (kL, 1, .inr (.inl (fun _ => 0))))]) (w1 := [(hm, .inr (12, u_9))]) hP hD f_11 [4] [0, 1, 2, 3] rfl rfl (by decide) (by decide) hk1 ht hB
  generalize H1 = H at hP hS ⊢
  have hP : va_P D vwCl [(gn 0, .inl (kP, 6, .inr (.inr (.inr (.inr (fun _ => none)))))), (gm 7, .inl (kA, 6, .inr (.inr (.inr (.inr F))))), (rr, .inl (kY, 5, .inl (fun _ => 0))), (o, .inl (kL, 1, .inr (.inl (fun _ => 0)))), (hm, .inr (12, u_9))] H := hP
  have hD : va_D (fun q : Nat => s.heap.size ≤ q) [(gn 0, .inl (kP, 6, .inr (.inr (.inr (.inr (fun _ => none)))))), (gm 7, .inl (kA, 6, .inr (.inr (.inr (.inr F))))), (rr, .inl (kY, 5, .inl (fun _ => 0))), (o, .inl (kL, 1, .inr (.inl (fun _ => 0)))), (hm, .inr (12, u_9))] := hD
  obtain rfl := h_14
  refine lv_iload hx hb dL_law_1328 (lv_at hl 1 rfl) ?_
  refine lv_icmp_eq (tgt := 1335) hx hb dL_law_1330 (by decide) (fun _ => ?_) (fun c => absurd (by decide) c)
  refine lv_iload hx hb dL_law_1335 (lv_at hl 1 rfl) ?_
  refine lv_if_ne (tgt := 1352) hx hb dL_law_1337 (by decide) (fun _ => ?_) (fun c => absurd c (by decide))
  refine lv_goto (tgt := 3913) hx hb dL_law_1352 (by decide) ?_
  exact law_tail hx hb hr_ hlocks hX hbl hS (Nat.le_of_ble_eq_true rfl) (Nat.le_of_ble_eq_true rfl) (lv_sub hl [2, 6] rfl)
