set_option maxRecDepth 100000 in
set_option maxHeartbeats 4000000 in
theorem case_14 {p : Program} {l : Launch} (hl9 : l.stackTraces = false) {e : Env} {s : State} {m : MethodId} {below : List Frame} {meth : Method} {c : Code} {D : va_G} {a1 a2 b : Nat} {xs : Nat → Int32} {H : Heap} {locs : List Loc} {ls : Array Slot} (h0 h1 h2 : Nat) (g gn gb : Nat → Nat) (kP : ClassId) (hm hr rr : Nat) (gm : Nat → Nat) (kI kA kY : ClassId) (F : Nat → Option Nat) (o : Nat) (kL : ClassId) (hG : LawSt D a1 a2 p s m meth c b xs H locs ls h0 h1 h2 g gn gb kP hm hr rr gm kI kA kY F o kL) : W p l e room_1 s m #[Value.ref b] below meth c H locs 5338 65502 (lw_Z below #[Value.ref b] s) (F0 m 1355 ls []) := by
  obtain ⟨hx, hb, hr_, hml, hown, hts, hX, hbl, hlocks, hP, hK, hD, hA, hE, hS, hF, hl⟩ := hG
  have hbA : ¬ (fun q : Nat => s.heap.size ≤ q) b := Nat.not_le.mpr hbl
  refine lv_aload_n hx hb dL_law_1355 rfl (lv_at hl 3 rfl) ?_
  refine lv_aload_n hx hb dL_law_1356 rfl (lv_at hl 4 rfl) ?_
  refine lv_iload hx hb dL_law_1357 (lv_at hl 0 rfl) ?_
  refine lv_iconst (v := 1) hx hb dL_law_1359 (by decide) ?_
  refine lv_iadd hx hb dL_law_1360 ?_
  refine lv_topi (fun x_1 ex_1 => ?_)
  obtain rfl : x_1 = 1 := ex_1.trans (by decide)
  refine va_sld hx hb hX hbl hbA hS (i := 1) (by unfold vp_in; decide) dL_law_1361 ?_
  refine W.eq (g2 := F0 m 1362 ls [.int (xs 1), .ref h0]) rfl ?_
  refine lv_aload_n hx hb dL_law_1362 rfl (lv_at hl 1 rfl) ?_
  have f_2 := free_of (wc := [(h0, .inr (11, [.ref h1, .ref h2, .ref (g 2), .ref (g 3), .ref (g 4), .ref (g 5), .ref (g 6), .int 0, .int 0, .int 0, .int 0])), (h1, .inr (6, [.ref (gn 0), .int 0, .ref (gn 2), .ref (gn 3), .int 0, .ref (gn 5), .int 0, .int 0])), (h2, .inr (1, [.ref h1, .ref (gb 1), .int 0]))]) hD hS hA [0, 1, 2] rfl
  refine vx_calli (vx_runSX (As := [.ref h0, .int (xs 1), .ref o]) (rest := []) ⟨hx, hb, hml, hown, hts⟩ (c_h_refuse l hl9 D a1 a2 H.size h0 h1 h2 g gn gb (xs 1) o) (vx_cwSW 3 hts (gSW w_539 w_540 w_450 w_541) rfl rfl rfl (by decide +kernel) ⟨Nat.le_of_ble_eq_true rfl, Nat.le_of_ble_eq_true rfl⟩) (pre_S hK hP hD hS hA hE [0, 1, 2] rfl (by decide) rfl [] rfl) rfl rfl hl.1 rfl (lv_room (Nat.le_of_ble_eq_true rfl)) dL_law_1363 ⟨Nat.le_of_ble_eq_true rfl, Nat.le_of_ble_eq_true rfl⟩) hS (fun q _ h => f_2 q h) f_2 (fun q _ h => f_2 q h) (fun E ce q9 u9 t H locs ht hvm hw hB hz1 hk1 hS hce hcv hcl => False.elim hw) (fun r_3 u_4 t H1 locs ht hvm h_5 hB hz1 hk1 hS => ?_)
  obtain ⟨hP, hD⟩ := join (wc := [(h0, .inr (11, [.ref h1, .ref h2, .ref (g 2), .ref (g 3), .ref (g 4), .ref (g 5), .ref (g 6), .int 0, .int 0, .int 0, .int 0])), (h1, .inr (6, [.ref (gn 0), .int 0, .ref (gn 2), .ref (gn 3), .int 0, .ref (gn 5), .int 0, .int 0])), (h2, .inr (1, [.ref h1, .ref (gb 1), .int 0]))]) (wr := [(gn 0, .inl (kP, 6, .inr (.inr (.inr (.inr (fun _ => none)))))), (hm, .inr (12, [.int 0, .ref hr, .int 0, .int 0, .int 0, .int 0, .int 0, .ref (gm 7), .ref (gm 8), .ref (gm 9), .ref (gm 10), .ref (gm 11), .ref (gm 12), .ref (gm 13), .ref (gm 14), .int 0, .ref (gm 16), .int 0, .int 0, .int 0, .ref (gm 20), .ref (gm 21), .int 0, .int 0, .int 0, .int 0, .int 0, .int 0, .ref (gm 28), .ref (gm 29)])), (hr, .inl (kI, 2, .inl (fun _ => 0))), (gm 7, .inl (kA, 6, .inr (.inr (.inr (.inr F))))), (rr, .inl (kY, 5, .inl (fun _ => 0))), (o, .inl (kL, 1, .inr (.inl (fun _ => 0))))]) (w1 := []) hP hD f_2 [0, 1, 2] [3, 4, 5, 6, 7, 8] rfl rfl (by decide) (by decide) hk1 ht wat_nil
  generalize H1 = H at hP hS ⊢
  have hP : va_P D vwCl [(gn 0, .inl (kP, 6, .inr (.inr (.inr (.inr (fun _ => none)))))), (hm, .inr (12, [.int 0, .ref hr, .int 0, .int 0, .int 0, .int 0, .int 0, .ref (gm 7), .ref (gm 8), .ref (gm 9), .ref (gm 10), .ref (gm 11), .ref (gm 12), .ref (gm 13), .ref (gm 14), .int 0, .ref (gm 16), .int 0, .int 0, .int 0, .ref (gm 20), .ref (gm 21), .int 0, .int 0, .int 0, .int 0, .int 0, .int 0, .ref (gm 28), .ref (gm 29)])), (hr, .inl (kI, 2, .inl (fun _ => 0))), (gm 7, .inl (kA, 6, .inr (.inr (.inr (.inr F))))), (rr, .inl (kY, 5, .inl (fun _ => 0))), (o, .inl (kL, 1, .inr (.inl (fun _ => 0))))] H := hP
  have hD : va_D (fun q : Nat => s.heap.size ≤ q) [(gn 0, .inl (kP, 6, .inr (.inr (.inr (.inr (fun _ => none)))))), (hm, .inr (12, [.int 0, .ref hr, .int 0, .int 0, .int 0, .int 0, .int 0, .ref (gm 7), .ref (gm 8), .ref (gm 9), .ref (gm 10), .ref (gm 11), .ref (gm 12), .ref (gm 13), .ref (gm 14), .int 0, .ref (gm 16), .int 0, .int 0, .int 0, .ref (gm 20), .ref (gm 21), .int 0, .int 0, .int 0, .int 0, .int 0, .int 0, .ref (gm 28), .ref (gm 29)])), (hr, .inl (kI, 2, .inl (fun _ => 0))), (gm 7, .inl (kA, 6, .inr (.inr (.inr (.inr F))))), (rr, .inl (kY, 5, .inl (fun _ => 0))), (o, .inl (kL, 1, .inr (.inl (fun _ => 0))))] := hD
  obtain rfl := h_5
  refine lv_istore (lv' := [(5, .int 1), (4, .int 0), (3, .ref o), (2, .ref hm), (1, .ref h0), (0, .ref b)]) hx hb dL_law_1366 hl (by decide) rfl (fun ls hl => ?_)
  refine lv_aload_n hx hb dL_law_1368 rfl (lv_at hl 3 rfl) ?_
  refine lv_aload_n hx hb dL_law_1369 rfl (lv_at hl 5 rfl) ?_
  refine lv_iload hx hb dL_law_1370 (lv_at hl 1 rfl) ?_
  refine lv_iconst (v := 1) hx hb dL_law_1372 (by decide) ?_
  refine lv_iadd hx hb dL_law_1373 ?_
  refine lv_topi (fun x_6 ex_6 => ?_)
  obtain rfl : x_6 = 1 := ex_6.trans (by decide)
  refine va_sld hx hb hX hbl hbA hS (i := 1) (by unfold vp_in; decide) dL_law_1374 ?_
  refine W.eq (g2 := F0 m 1375 ls [.int (xs 1), .ref hm]) rfl ?_
  have f_7 := free_of (wc := [(hm, .inr (12, [.int 0, .ref hr, .int 0, .int 0, .int 0, .int 0, .int 0, .ref (gm 7), .ref (gm 8), .ref (gm 9), .ref (gm 10), .ref (gm 11), .ref (gm 12), .ref (gm 13), .ref (gm 14), .int 0, .ref (gm 16), .int 0, .int 0, .int 0, .ref (gm 20), .ref (gm 21), .int 0, .int 0, .int 0, .int 0, .int 0, .int 0, .ref (gm 28), .ref (gm 29)])), (hr, .inl (kI, 2, .inl (fun _ => 0)))]) hD hS hA [1, 2] rfl
  refine va_calli (va_runV (As := [.int (xs 1)]) (rest := []) ⟨hx, hb, hml, hown, hts⟩ (c_m_refuse l D a1 a2 H.size hm hr gm kI (xs 1)) (cwV 1 hts (gV w_542 w_543 w_544 w_244 w_545) rfl rfl rfl (by decide +kernel) ⟨Nat.le_of_ble_eq_true rfl, Nat.le_of_ble_eq_true rfl⟩) (pre_V hK hP hD hS hA hE [1, 2] rfl (by decide) rfl [1] rfl (ci := 12) (q0 := 1) rfl rfl) rfl rfl hl.1 rfl (lv_room (Nat.le_of_ble_eq_true rfl)) dL_law_1375 ⟨Nat.le_of_ble_eq_true rfl, Nat.le_of_ble_eq_true rfl⟩) hS (fun q _ h => f_7 q h) f_7 (fun r_8 u_9 t H1 locs ht hvm h_10 hB hz1 hk1 hS => ?_)
  obtain ⟨hP, hD⟩ := join (wc := [(hm, .inr (12, [.int 0, .ref hr, .int 0, .int 0, .int 0, .int 0, .int 0, .ref (gm 7), .ref (gm 8), .ref (gm 9), .ref (gm 10), .ref (gm 11), .ref (gm 12), .ref (gm 13), .ref (gm 14), .int 0, .ref (gm 16), .int 0, .int 0, .int 0, .ref (gm 20), .ref (gm 21), .int 0, .int 0, .int 0, .int 0, .int 0, .int 0, .ref (gm 28), .ref (gm 29)])), (hr, .inl (kI, 2, .inl (fun _ => 0)))]) (wr := [(gn 0, .inl (kP, 6, .inr (.inr (.inr (.inr (fun _ => none)))))), (gm 7, .inl (kA, 6, .inr (.inr (.inr (.inr F))))), (rr, .inl (kY, 5, .inl (fun _ => 0))), (o, .inl (kL, 1, .inr (.inl (fun _ => 0))))]) (w1 := [(hm, .inr (12, u_9))]) hP hD f_7 [1, 2] [0, 3, 4, 5] rfl rfl (by decide) (by decide) hk1 ht hB
  generalize H1 = H at hP hS ⊢
  have hP : va_P D vwCl [(gn 0, .inl (kP, 6, .inr (.inr (.inr (.inr (fun _ => none)))))), (gm 7, .inl (kA, 6, .inr (.inr (.inr (.inr F))))), (rr, .inl (kY, 5, .inl (fun _ => 0))), (o, .inl (kL, 1, .inr (.inl (fun _ => 0)))), (hm, .inr (12, u_9))] H := hP
  have hD : va_D (fun q : Nat => s.heap.size ≤ q) [(gn 0, .inl (kP, 6, .inr (.inr (.inr (.inr (fun _ => none)))))), (gm 7, .inl (kA, 6, .inr (.inr (.inr (.inr F))))), (rr, .inl (kY, 5, .inl (fun _ => 0))), (o, .inl (kL, 1, .inr (.inl (fun _ => 0)))), (hm, .inr (12, u_9))] := hD
  refine lv_istore (lv' := [(6, .int r_8), (5, .int 1), (4, .int 0), (3, .ref o), (2, .ref hm), (1, .ref h0), (0, .ref b)]) hx hb dL_law_1378 hl (by decide) rfl (fun ls hl => ?_)
  refine lv_aload_n hx hb dL_law_1380 rfl (lv_at hl 4 rfl) ?_
  have f_11 := free_of (wc := [(hm, .inr (12, u_9))]) hD hS hA [4] rfl
  refine va_calli (va_runV (As := []) (rest := []) ⟨hx, hb, hml, hown, hts⟩ (c_thrown l D a1 a2 H.size hm u_9 1 h_10) (cwV 0 hts (gV w_458 w_459 w_460 w_244 w_461) rfl rfl rfl (by decide +kernel) ⟨Nat.le_of_ble_eq_true rfl, Nat.le_of_ble_eq_true rfl⟩) (pre_V hK hP hD hS hA hE [4] rfl (by decide) rfl [] rfl (ci := 12) (q0 := 4) rfl rfl) rfl rfl hl.1 rfl (lv_room (Nat.le_of_ble_eq_true rfl)) dL_law_1381 ⟨Nat.le_of_ble_eq_true rfl, Nat.le_of_ble_eq_true rfl⟩) hS (fun q _ h => f_11 q h) f_11 (fun r_12 u_13 t H1 locs ht hvm h_14 hB hz1 hk1 hS => ?_)
  obtain ⟨hP, hD⟩ := join (wc := [(hm, .inr (12, u_9))]) (wr := [(gn 0, .inl (kP, 6, .inr (.inr (.inr (.inr (fun _ => none)))))), (gm 7, .inl (kA, 6, .inr (.inr (.inr (.inr F))))), (rr, .inl (kY, 5, .inl (fun _ => 0))), (o, .inl (kL, 1, .inr (.inl (fun _ => 0))))]) (w1 := [(hm, .inr (12, u_9))]) hP hD f_11 [4] [0, 1, 2, 3] rfl rfl (by decide) (by decide) hk1 ht hB
  generalize H1 = H at hP hS ⊢
  have hP : va_P D vwCl [(gn 0, .inl (kP, 6, .inr (.inr (.inr (.inr (fun _ => none)))))), (gm 7, .inl (kA, 6, .inr (.inr (.inr (.inr F))))), (rr, .inl (kY, 5, .inl (fun _ => 0))), (o, .inl (kL, 1, .inr (.inl (fun _ => 0)))), (hm, .inr (12, u_9))] H := hP
  have hD : va_D (fun q : Nat => s.heap.size ≤ q) [(gn 0, .inl (kP, 6, .inr (.inr (.inr (.inr (fun _ => none)))))), (gm 7, .inl (kA, 6, .inr (.inr (.inr (.inr F))))), (rr, .inl (kY, 5, .inl (fun _ => 0))), (o, .inl (kL, 1, .inr (.inl (fun _ => 0)))), (hm, .inr (12, u_9))] := hD
  obtain rfl := h_14
  refine lv_iload hx hb dL_law_1384 (lv_at hl 1 rfl) ?_
  refine lv_icmp_eq (tgt := 1391) hx hb dL_law_1386 (by decide) (fun _ => ?_) (fun c => absurd (by decide) c)
  refine lv_iload hx hb dL_law_1391 (lv_at hl 1 rfl) ?_
  refine lv_if_ne (tgt := 1408) hx hb dL_law_1393 (by decide) (fun _ => ?_) (fun c => absurd c (by decide))
  refine lv_goto (tgt := 3913) hx hb dL_law_1408 (by decide) ?_
  exact law_tail hx hb hr_ hlocks hX hbl hS (Nat.le_of_ble_eq_true rfl) (Nat.le_of_ble_eq_true rfl) (lv_sub hl [2, 6] rfl)
set_option maxRecDepth 100000 in
set_option maxHeartbeats 4000000 in
theorem case_15 {p : Program} {l : Launch} (hl9 : l.stackTraces = false) {e : Env} {s : State} {m : MethodId} {below : List Frame} {meth : Method} {c : Code} {D : va_G} {a1 a2 b : Nat} {xs : Nat → Int32} {H : Heap} {locs : List Loc} {ls : Array Slot} (h0 h1 h2 : Nat) (g gn gb : Nat → Nat) (kP : ClassId) (hm hr rr : Nat) (gm : Nat → Nat) (kI kA kY : ClassId) (F : Nat → Option Nat) (o : Nat) (kL : ClassId) (hG : LawSt D a1 a2 p s m meth c b xs H locs ls h0 h1 h2 g gn gb kP hm hr rr gm kI kA kY F o kL) : W p l e room_1 s m #[Value.ref b] below meth c H locs 5338 65502 (lw_Z below #[Value.ref b] s) (F0 m 1411 ls []) := by
  obtain ⟨hx, hb, hr_, hml, hown, hts, hX, hbl, hlocks, hP, hK, hD, hA, hE, hS, hF, hl⟩ := hG
  have hbA : ¬ (fun q : Nat => s.heap.size ≤ q) b := Nat.not_le.mpr hbl
  refine lv_aload_n hx hb dL_law_1411 rfl (lv_at hl 3 rfl) ?_
  refine lv_aload_n hx hb dL_law_1412 rfl (lv_at hl 4 rfl) ?_
  refine lv_iload hx hb dL_law_1413 (lv_at hl 0 rfl) ?_
  refine lv_iconst (v := 1) hx hb dL_law_1415 (by decide) ?_
  refine lv_iadd hx hb dL_law_1416 ?_
  refine lv_topi (fun x_1 ex_1 => ?_)
  obtain rfl : x_1 = 1 := ex_1.trans (by decide)
  refine va_sld hx hb hX hbl hbA hS (i := 1) (by unfold vp_in; decide) dL_law_1417 ?_
  refine W.eq (g2 := F0 m 1418 ls [.int (xs 1), .ref h0]) rfl ?_
  refine lv_aload_n hx hb dL_law_1418 rfl (lv_at hl 1 rfl) ?_
  have f_2 := free_of (wc := [(h0, .inr (11, [.ref h1, .ref h2, .ref (g 2), .ref (g 3), .ref (g 4), .ref (g 5), .ref (g 6), .int 0, .int 0, .int 0, .int 0])), (h1, .inr (6, [.ref (gn 0), .int 0, .ref (gn 2), .ref (gn 3), .int 0, .ref (gn 5), .int 0, .int 0])), (h2, .inr (1, [.ref h1, .ref (gb 1), .int 0]))]) hD hS hA [0, 1, 2] rfl
  refine vx_calli (vx_runSX (As := [.ref h0, .int (xs 1), .ref o]) (rest := []) ⟨hx, hb, hml, hown, hts⟩ (c_h_reroute l hl9 D a1 a2 H.size h0 h1 h2 g gn gb (xs 1) o) (vx_cwSW 3 hts (gSW w_546 w_547 w_450 w_548) rfl rfl rfl (by decide +kernel) ⟨Nat.le_of_ble_eq_true rfl, Nat.le_of_ble_eq_true rfl⟩) (pre_S hK hP hD hS hA hE [0, 1, 2] rfl (by decide) rfl [] rfl) rfl rfl hl.1 rfl (lv_room (Nat.le_of_ble_eq_true rfl)) dL_law_1419 ⟨Nat.le_of_ble_eq_true rfl, Nat.le_of_ble_eq_true rfl⟩) hS (fun q _ h => f_2 q h) f_2 (fun q _ h => f_2 q h) (fun E ce q9 u9 t H locs ht hvm hw hB hz1 hk1 hS hce hcv hcl => False.elim hw) (fun r_3 u_4 t H1 locs ht hvm h_5 hB hz1 hk1 hS => ?_)
  obtain ⟨hP, hD⟩ := join (wc := [(h0, .inr (11, [.ref h1, .ref h2, .ref (g 2), .ref (g 3), .ref (g 4), .ref (g 5), .ref (g 6), .int 0, .int 0, .int 0, .int 0])), (h1, .inr (6, [.ref (gn 0), .int 0, .ref (gn 2), .ref (gn 3), .int 0, .ref (gn 5), .int 0, .int 0])), (h2, .inr (1, [.ref h1, .ref (gb 1), .int 0]))]) (wr := [(gn 0, .inl (kP, 6, .inr (.inr (.inr (.inr (fun _ => none)))))), (hm, .inr (12, [.int 0, .ref hr, .int 0, .int 0, .int 0, .int 0, .int 0, .ref (gm 7), .ref (gm 8), .ref (gm 9), .ref (gm 10), .ref (gm 11), .ref (gm 12), .ref (gm 13), .ref (gm 14), .int 0, .ref (gm 16), .int 0, .int 0, .int 0, .ref (gm 20), .ref (gm 21), .int 0, .int 0, .int 0, .int 0, .int 0, .int 0, .ref (gm 28), .ref (gm 29)])), (hr, .inl (kI, 2, .inl (fun _ => 0))), (gm 7, .inl (kA, 6, .inr (.inr (.inr (.inr F))))), (rr, .inl (kY, 5, .inl (fun _ => 0))), (o, .inl (kL, 1, .inr (.inl (fun _ => 0))))]) (w1 := []) hP hD f_2 [0, 1, 2] [3, 4, 5, 6, 7, 8] rfl rfl (by decide) (by decide) hk1 ht wat_nil
  generalize H1 = H at hP hS ⊢
  have hP : va_P D vwCl [(gn 0, .inl (kP, 6, .inr (.inr (.inr (.inr (fun _ => none)))))), (hm, .inr (12, [.int 0, .ref hr, .int 0, .int 0, .int 0, .int 0, .int 0, .ref (gm 7), .ref (gm 8), .ref (gm 9), .ref (gm 10), .ref (gm 11), .ref (gm 12), .ref (gm 13), .ref (gm 14), .int 0, .ref (gm 16), .int 0, .int 0, .int 0, .ref (gm 20), .ref (gm 21), .int 0, .int 0, .int 0, .int 0, .int 0, .int 0, .ref (gm 28), .ref (gm 29)])), (hr, .inl (kI, 2, .inl (fun _ => 0))), (gm 7, .inl (kA, 6, .inr (.inr (.inr (.inr F))))), (rr, .inl (kY, 5, .inl (fun _ => 0))), (o, .inl (kL, 1, .inr (.inl (fun _ => 0))))] H := hP
  have hD : va_D (fun q : Nat => s.heap.size ≤ q) [(gn 0, .inl (kP, 6, .inr (.inr (.inr (.inr (fun _ => none)))))), (hm, .inr (12, [.int 0, .ref hr, .int 0, .int 0, .int 0, .int 0, .int 0, .ref (gm 7), .ref (gm 8), .ref (gm 9), .ref (gm 10), .ref (gm 11), .ref (gm 12), .ref (gm 13), .ref (gm 14), .int 0, .ref (gm 16), .int 0, .int 0, .int 0, .ref (gm 20), .ref (gm 21), .int 0, .int 0, .int 0, .int 0, .int 0, .int 0, .ref (gm 28), .ref (gm 29)])), (hr, .inl (kI, 2, .inl (fun _ => 0))), (gm 7, .inl (kA, 6, .inr (.inr (.inr (.inr F))))), (rr, .inl (kY, 5, .inl (fun _ => 0))), (o, .inl (kL, 1, .inr (.inl (fun _ => 0))))] := hD
  obtain rfl := h_5
  refine lv_istore (lv' := [(5, .int 1), (4, .int 0), (3, .ref o), (2, .ref hm), (1, .ref h0), (0, .ref b)]) hx hb dL_law_1422 hl (by decide) rfl (fun ls hl => ?_)
  refine lv_aload_n hx hb dL_law_1424 rfl (lv_at hl 3 rfl) ?_
  refine lv_aload_n hx hb dL_law_1425 rfl (lv_at hl 5 rfl) ?_
  refine lv_iload hx hb dL_law_1426 (lv_at hl 1 rfl) ?_
  refine lv_iconst (v := 1) hx hb dL_law_1428 (by decide) ?_
  refine lv_iadd hx hb dL_law_1429 ?_
  refine lv_topi (fun x_6 ex_6 => ?_)
  obtain rfl : x_6 = 1 := ex_6.trans (by decide)
  refine va_sld hx hb hX hbl hbA hS (i := 1) (by unfold vp_in; decide) dL_law_1430 ?_
  refine W.eq (g2 := F0 m 1431 ls [.int (xs 1), .ref hm]) rfl ?_
  have f_7 := free_of (wc := [(hm, .inr (12, [.int 0, .ref hr, .int 0, .int 0, .int 0, .int 0, .int 0, .ref (gm 7), .ref (gm 8), .ref (gm 9), .ref (gm 10), .ref (gm 11), .ref (gm 12), .ref (gm 13), .ref (gm 14), .int 0, .ref (gm 16), .int 0, .int 0, .int 0, .ref (gm 20), .ref (gm 21), .int 0, .int 0, .int 0, .int 0, .int 0, .int 0, .ref (gm 28), .ref (gm 29)])), (hr, .inl (kI, 2, .inl (fun _ => 0)))]) hD hS hA [1, 2] rfl
  refine va_calli (va_runV (As := [.int (xs 1)]) (rest := []) ⟨hx, hb, hml, hown, hts⟩ (c_m_reroute l D a1 a2 H.size hm hr gm kI (xs 1)) (cwV 1 hts (gV w_549 w_550 w_551 w_244 w_552) rfl rfl rfl (by decide +kernel) ⟨Nat.le_of_ble_eq_true rfl, Nat.le_of_ble_eq_true rfl⟩) (pre_V hK hP hD hS hA hE [1, 2] rfl (by decide) rfl [1] rfl (ci := 12) (q0 := 1) rfl rfl) rfl rfl hl.1 rfl (lv_room (Nat.le_of_ble_eq_true rfl)) dL_law_1431 ⟨Nat.le_of_ble_eq_true rfl, Nat.le_of_ble_eq_true rfl⟩) hS (fun q _ h => f_7 q h) f_7 (fun r_8 u_9 t H1 locs ht hvm h_10 hB hz1 hk1 hS => ?_)
  obtain ⟨hP, hD⟩ := join (wc := [(hm, .inr (12, [.int 0, .ref hr, .int 0, .int 0, .int 0, .int 0, .int 0, .ref (gm 7), .ref (gm 8), .ref (gm 9), .ref (gm 10), .ref (gm 11), .ref (gm 12), .ref (gm 13), .ref (gm 14), .int 0, .ref (gm 16), .int 0, .int 0, .int 0, .ref (gm 20), .ref (gm 21), .int 0, .int 0, .int 0, .int 0, .int 0, .int 0, .ref (gm 28), .ref (gm 29)])), (hr, .inl (kI, 2, .inl (fun _ => 0)))]) (wr := [(gn 0, .inl (kP, 6, .inr (.inr (.inr (.inr (fun _ => none)))))), (gm 7, .inl (kA, 6, .inr (.inr (.inr (.inr F))))), (rr, .inl (kY, 5, .inl (fun _ => 0))), (o, .inl (kL, 1, .inr (.inl (fun _ => 0))))]) (w1 := [(hm, .inr (12, u_9))]) hP hD f_7 [1, 2] [0, 3, 4, 5] rfl rfl (by decide) (by decide) hk1 ht hB
  generalize H1 = H at hP hS ⊢
  have hP : va_P D vwCl [(gn 0, .inl (kP, 6, .inr (.inr (.inr (.inr (fun _ => none)))))), (gm 7, .inl (kA, 6, .inr (.inr (.inr (.inr F))))), (rr, .inl (kY, 5, .inl (fun _ => 0))), (o, .inl (kL, 1, .inr (.inl (fun _ => 0)))), (hm, .inr (12, u_9))] H := hP
  have hD : va_D (fun q : Nat => s.heap.size ≤ q) [(gn 0, .inl (kP, 6, .inr (.inr (.inr (.inr (fun _ => none)))))), (gm 7, .inl (kA, 6, .inr (.inr (.inr (.inr F))))), (rr, .inl (kY, 5, .inl (fun _ => 0))), (o, .inl (kL, 1, .inr (.inl (fun _ => 0)))), (hm, .inr (12, u_9))] := hD
  refine lv_istore (lv' := [(6, .int r_8), (5, .int 1), (4, .int 0), (3, .ref o), (2, .ref hm), (1, .ref h0), (0, .ref b)]) hx hb dL_law_1434 hl (by decide) rfl (fun ls hl => ?_)
  refine lv_aload_n hx hb dL_law_1436 rfl (lv_at hl 4 rfl) ?_
  have f_11 := free_of (wc := [(hm, .inr (12, u_9))]) hD hS hA [4] rfl
  refine va_calli (va_runV (As := []) (rest := []) ⟨hx, hb, hml, hown, hts⟩ (c_thrown l D a1 a2 H.size hm u_9 1 h_10) (cwV 0 hts (gV w_458 w_459 w_460 w_244 w_461) rfl rfl rfl (by decide +kernel) ⟨Nat.le_of_ble_eq_true rfl, Nat.le_of_ble_eq_true rfl⟩) (pre_V hK hP hD hS hA hE [4] rfl (by decide) rfl [] rfl (ci := 12) (q0 := 4) rfl rfl) rfl rfl hl.1 rfl (lv_room (Nat.le_of_ble_eq_true rfl)) dL_law_1437 ⟨Nat.le_of_ble_eq_true rfl, Nat.le_of_ble_eq_true rfl⟩) hS (fun q _ h => f_11 q h) f_11 (fun r_12 u_13 t H1 locs ht hvm h_14 hB hz1 hk1 hS => ?_)
  obtain ⟨hP, hD⟩ := join (wc := [(hm, .inr (12, u_9))]) (wr := [(gn 0, .inl (kP, 6, .inr (.inr (.inr (.inr (fun _ => none)))))), (gm 7, .inl (kA, 6, .inr (.inr (.inr (.inr F))))), (rr, .inl (kY, 5, .inl (fun _ => 0))), (o, .inl (kL, 1, .inr (.inl (fun _ => 0))))]) (w1 := [(hm, .inr (12, u_9))]) hP hD f_11 [4] [0, 1, 2, 3] rfl rfl (by decide) (by decide) hk1 ht hB
  generalize H1 = H at hP hS ⊢
  have hP : va_P D vwCl [(gn 0, .inl (kP, 6, .inr (.inr (.inr (.inr (fun _ => none)))))), (gm 7, .inl (kA, 6, .inr (.inr (.inr (.inr F))))), (rr, .inl (kY, 5, .inl (fun _ => 0))), (o, .inl (kL, 1, .inr (.inl (fun _ => 0)))), (hm, .inr (12, u_9))] H := hP
  have hD : va_D (fun q : Nat => s.heap.size ≤ q) [(gn 0, .inl (kP, 6, .inr (.inr (.inr (.inr (fun _ => none)))))), (gm 7, .inl (kA, 6, .inr (.inr (.inr (.inr F))))), (rr, .inl (kY, 5, .inl (fun _ => 0))), (o, .inl (kL, 1, .inr (.inl (fun _ => 0)))), (hm, .inr (12, u_9))] := hD
  obtain rfl := h_14
  refine lv_iload hx hb dL_law_1440 (lv_at hl 1 rfl) ?_
  refine lv_icmp_eq (tgt := 1447) hx hb dL_law_1442 (by decide) (fun _ => ?_) (fun c => absurd (by decide) c)
  refine lv_iload hx hb dL_law_1447 (lv_at hl 1 rfl) ?_
  refine lv_if_ne (tgt := 1464) hx hb dL_law_1449 (by decide) (fun _ => ?_) (fun c => absurd c (by decide))
  refine lv_goto (tgt := 3913) hx hb dL_law_1464 (by decide) ?_
  exact law_tail hx hb hr_ hlocks hX hbl hS (Nat.le_of_ble_eq_true rfl) (Nat.le_of_ble_eq_true rfl) (lv_sub hl [2, 6] rfl)
set_option maxRecDepth 100000 in
set_option maxHeartbeats 4000000 in
theorem case_17 {p : Program} {l : Launch} (hl9 : l.stackTraces = false) {e : Env} {s : State} {m : MethodId} {below : List Frame} {meth : Method} {c : Code} {D : va_G} {a1 a2 b : Nat} {xs : Nat → Int32} {H : Heap} {locs : List Loc} {ls : Array Slot} (h0 h1 h2 : Nat) (g gn gb : Nat → Nat) (kP : ClassId) (hm hr rr : Nat) (gm : Nat → Nat) (kI kA kY : ClassId) (F : Nat → Option Nat) (o : Nat) (kL : ClassId) (hG : LawSt D a1 a2 p s m meth c b xs H locs ls h0 h1 h2 g gn gb kP hm hr rr gm kI kA kY F o kL) : W p l e room_1 s m #[Value.ref b] below meth c H locs 5338 65502 (lw_Z below #[Value.ref b] s) (F0 m 1523 ls []) := by
  obtain ⟨hx, hb, hr_, hml, hown, hts, hX, hbl, hlocks, hP, hK, hD, hA, hE, hS, hF, hl⟩ := hG
  have hbA : ¬ (fun q : Nat => s.heap.size ≤ q) b := Nat.not_le.mpr hbl
  refine lv_aload_n hx hb dL_law_1523 rfl (lv_at hl 3 rfl) ?_
  refine lv_aload_n hx hb dL_law_1524 rfl (lv_at hl 4 rfl) ?_
  refine lv_iload hx hb dL_law_1525 (lv_at hl 0 rfl) ?_
  refine lv_iconst (v := 1) hx hb dL_law_1527 (by decide) ?_
  refine lv_iadd hx hb dL_law_1528 ?_
  refine lv_topi (fun x_1 ex_1 => ?_)
  obtain rfl : x_1 = 1 := ex_1.trans (by decide)
  refine va_sld hx hb hX hbl hbA hS (i := 1) (by unfold vp_in; decide) dL_law_1529 ?_
  refine W.eq (g2 := F0 m 1530 ls [.int (xs 1), .ref h0]) rfl ?_
  refine lv_aload_n hx hb dL_law_1530 rfl (lv_at hl 4 rfl) ?_
  refine lv_iload hx hb dL_law_1531 (lv_at hl 0 rfl) ?_
  refine lv_iconst (v := 2) hx hb dL_law_1533 (by decide) ?_
  refine lv_iadd hx hb dL_law_1534 ?_
  refine lv_topi (fun x_2 ex_2 => ?_)
  obtain rfl : x_2 = 2 := ex_2.trans (by decide)
  refine va_sld hx hb hX hbl hbA hS (i := 2) (by unfold vp_in; decide) dL_law_1535 ?_
  refine W.eq (g2 := F0 m 1536 ls [.int (xs 2), .int (xs 1), .ref h0]) rfl ?_
  refine lv_aload_n hx hb dL_law_1536 rfl (lv_at hl 1 rfl) ?_
  have f_3 := free_of (wc := [(h0, .inr (11, [.ref h1, .ref h2, .ref (g 2), .ref (g 3), .ref (g 4), .ref (g 5), .ref (g 6), .int 0, .int 0, .int 0, .int 0])), (h1, .inr (6, [.ref (gn 0), .int 0, .ref (gn 2), .ref (gn 3), .int 0, .ref (gn 5), .int 0, .int 0])), (h2, .inr (1, [.ref h1, .ref (gb 1), .int 0]))]) hD hS hA [0, 1, 2] rfl
  refine vx_calli (vx_runSX (As := [.ref h0, .int (xs 1), .int (xs 2), .ref o]) (rest := []) ⟨hx, hb, hml, hown, hts⟩ (c_h_placeOf l hl9 D a1 a2 H.size h0 h1 h2 g gn gb (xs 1) (xs 2) o) (vx_cwSW 4 hts (gSW w_553 w_554 w_450 w_555) rfl rfl rfl (by decide +kernel) ⟨Nat.le_of_ble_eq_true rfl, Nat.le_of_ble_eq_true rfl⟩) (pre_S hK hP hD hS hA hE [0, 1, 2] rfl (by decide) rfl [] rfl) rfl rfl hl.1 rfl (lv_room (Nat.le_of_ble_eq_true rfl)) dL_law_1537 ⟨Nat.le_of_ble_eq_true rfl, Nat.le_of_ble_eq_true rfl⟩) hS (fun q _ h => f_3 q h) f_3 (fun q _ h => f_3 q h) (fun E ce q9 u9 t H locs ht hvm hw hB hz1 hk1 hS hce hcv hcl => False.elim hw) (fun r_4 u_5 t H1 locs ht hvm h_6 hB hz1 hk1 hS => ?_)
  obtain ⟨hP, hD⟩ := join (wc := [(h0, .inr (11, [.ref h1, .ref h2, .ref (g 2), .ref (g 3), .ref (g 4), .ref (g 5), .ref (g 6), .int 0, .int 0, .int 0, .int 0])), (h1, .inr (6, [.ref (gn 0), .int 0, .ref (gn 2), .ref (gn 3), .int 0, .ref (gn 5), .int 0, .int 0])), (h2, .inr (1, [.ref h1, .ref (gb 1), .int 0]))]) (wr := [(gn 0, .inl (kP, 6, .inr (.inr (.inr (.inr (fun _ => none)))))), (hm, .inr (12, [.int 0, .ref hr, .int 0, .int 0, .int 0, .int 0, .int 0, .ref (gm 7), .ref (gm 8), .ref (gm 9), .ref (gm 10), .ref (gm 11), .ref (gm 12), .ref (gm 13), .ref (gm 14), .int 0, .ref (gm 16), .int 0, .int 0, .int 0, .ref (gm 20), .ref (gm 21), .int 0, .int 0, .int 0, .int 0, .int 0, .int 0, .ref (gm 28), .ref (gm 29)])), (hr, .inl (kI, 2, .inl (fun _ => 0))), (gm 7, .inl (kA, 6, .inr (.inr (.inr (.inr F))))), (rr, .inl (kY, 5, .inl (fun _ => 0))), (o, .inl (kL, 1, .inr (.inl (fun _ => 0))))]) (w1 := []) hP hD f_3 [0, 1, 2] [3, 4, 5, 6, 7, 8] rfl rfl (by decide) (by decide) hk1 ht wat_nil
  generalize H1 = H at hP hS ⊢
  have hP : va_P D vwCl [(gn 0, .inl (kP, 6, .inr (.inr (.inr (.inr (fun _ => none)))))), (hm, .inr (12, [.int 0, .ref hr, .int 0, .int 0, .int 0, .int 0, .int 0, .ref (gm 7), .ref (gm 8), .ref (gm 9), .ref (gm 10), .ref (gm 11), .ref (gm 12), .ref (gm 13), .ref (gm 14), .int 0, .ref (gm 16), .int 0, .int 0, .int 0, .ref (gm 20), .ref (gm 21), .int 0, .int 0, .int 0, .int 0, .int 0, .int 0, .ref (gm 28), .ref (gm 29)])), (hr, .inl (kI, 2, .inl (fun _ => 0))), (gm 7, .inl (kA, 6, .inr (.inr (.inr (.inr F))))), (rr, .inl (kY, 5, .inl (fun _ => 0))), (o, .inl (kL, 1, .inr (.inl (fun _ => 0))))] H := hP
  have hD : va_D (fun q : Nat => s.heap.size ≤ q) [(gn 0, .inl (kP, 6, .inr (.inr (.inr (.inr (fun _ => none)))))), (hm, .inr (12, [.int 0, .ref hr, .int 0, .int 0, .int 0, .int 0, .int 0, .ref (gm 7), .ref (gm 8), .ref (gm 9), .ref (gm 10), .ref (gm 11), .ref (gm 12), .ref (gm 13), .ref (gm 14), .int 0, .ref (gm 16), .int 0, .int 0, .int 0, .ref (gm 20), .ref (gm 21), .int 0, .int 0, .int 0, .int 0, .int 0, .int 0, .ref (gm 28), .ref (gm 29)])), (hr, .inl (kI, 2, .inl (fun _ => 0))), (gm 7, .inl (kA, 6, .inr (.inr (.inr (.inr F))))), (rr, .inl (kY, 5, .inl (fun _ => 0))), (o, .inl (kL, 1, .inr (.inl (fun _ => 0))))] := hD
  obtain rfl := h_6
  refine lv_istore (lv' := [(5, .int 1), (4, .int 0), (3, .ref o), (2, .ref hm), (1, .ref h0), (0, .ref b)]) hx hb dL_law_1540 hl (by decide) rfl (fun ls hl => ?_)
  refine lv_aload_n hx hb dL_law_1542 rfl (lv_at hl 3 rfl) ?_
  refine lv_aload_n hx hb dL_law_1543 rfl (lv_at hl 5 rfl) ?_
  refine lv_iload hx hb dL_law_1544 (lv_at hl 1 rfl) ?_
  refine lv_iconst (v := 1) hx hb dL_law_1546 (by decide) ?_
  refine lv_iadd hx hb dL_law_1547 ?_
  refine lv_topi (fun x_7 ex_7 => ?_)
  obtain rfl : x_7 = 1 := ex_7.trans (by decide)
  refine va_sld hx hb hX hbl hbA hS (i := 1) (by unfold vp_in; decide) dL_law_1548 ?_
  refine W.eq (g2 := F0 m 1549 ls [.int (xs 1), .ref hm]) rfl ?_
  refine lv_aload_n hx hb dL_law_1549 rfl (lv_at hl 5 rfl) ?_
  refine lv_iload hx hb dL_law_1550 (lv_at hl 1 rfl) ?_
  refine lv_iconst (v := 2) hx hb dL_law_1552 (by decide) ?_
  refine lv_iadd hx hb dL_law_1553 ?_
  refine lv_topi (fun x_8 ex_8 => ?_)
  obtain rfl : x_8 = 2 := ex_8.trans (by decide)
  refine va_sld hx hb hX hbl hbA hS (i := 2) (by unfold vp_in; decide) dL_law_1554 ?_
  refine W.eq (g2 := F0 m 1555 ls [.int (xs 2), .int (xs 1), .ref hm]) rfl ?_
  have f_9 := free_of (wc := [(hm, .inr (12, [.int 0, .ref hr, .int 0, .int 0, .int 0, .int 0, .int 0, .ref (gm 7), .ref (gm 8), .ref (gm 9), .ref (gm 10), .ref (gm 11), .ref (gm 12), .ref (gm 13), .ref (gm 14), .int 0, .ref (gm 16), .int 0, .int 0, .int 0, .ref (gm 20), .ref (gm 21), .int 0, .int 0, .int 0, .int 0, .int 0, .int 0, .ref (gm 28), .ref (gm 29)])), (hr, .inl (kI, 2, .inl (fun _ => 0)))]) hD hS hA [1, 2] rfl
  refine va_calli (va_runV (As := [.int (xs 1), .int (xs 2)]) (rest := []) ⟨hx, hb, hml, hown, hts⟩ (c_m_placeOf l D a1 a2 H.size hm hr gm kI (xs 1) (xs 2)) (cwV 2 hts (gV w_556 w_557 w_558 w_244 w_559) rfl rfl rfl (by decide +kernel) ⟨Nat.le_of_ble_eq_true rfl, Nat.le_of_ble_eq_true rfl⟩) (pre_V hK hP hD hS hA hE [1, 2] rfl (by decide) rfl [1] rfl (ci := 12) (q0 := 1) rfl rfl) rfl rfl hl.1 rfl (lv_room (Nat.le_of_ble_eq_true rfl)) dL_law_1555 ⟨Nat.le_of_ble_eq_true rfl, Nat.le_of_ble_eq_true rfl⟩) hS (fun q _ h => f_9 q h) f_9 (fun r_10 u_11 t H1 locs ht hvm h_12 hB hz1 hk1 hS => ?_)
  obtain ⟨hP, hD⟩ := join (wc := [(hm, .inr (12, [.int 0, .ref hr, .int 0, .int 0, .int 0, .int 0, .int 0, .ref (gm 7), .ref (gm 8), .ref (gm 9), .ref (gm 10), .ref (gm 11), .ref (gm 12), .ref (gm 13), .ref (gm 14), .int 0, .ref (gm 16), .int 0, .int 0, .int 0, .ref (gm 20), .ref (gm 21), .int 0, .int 0, .int 0, .int 0, .int 0, .int 0, .ref (gm 28), .ref (gm 29)])), (hr, .inl (kI, 2, .inl (fun _ => 0)))]) (wr := [(gn 0, .inl (kP, 6, .inr (.inr (.inr (.inr (fun _ => none)))))), (gm 7, .inl (kA, 6, .inr (.inr (.inr (.inr F))))), (rr, .inl (kY, 5, .inl (fun _ => 0))), (o, .inl (kL, 1, .inr (.inl (fun _ => 0))))]) (w1 := [(hm, .inr (12, u_11))]) hP hD f_9 [1, 2] [0, 3, 4, 5] rfl rfl (by decide) (by decide) hk1 ht hB
  generalize H1 = H at hP hS ⊢
  have hP : va_P D vwCl [(gn 0, .inl (kP, 6, .inr (.inr (.inr (.inr (fun _ => none)))))), (gm 7, .inl (kA, 6, .inr (.inr (.inr (.inr F))))), (rr, .inl (kY, 5, .inl (fun _ => 0))), (o, .inl (kL, 1, .inr (.inl (fun _ => 0)))), (hm, .inr (12, u_11))] H := hP
  have hD : va_D (fun q : Nat => s.heap.size ≤ q) [(gn 0, .inl (kP, 6, .inr (.inr (.inr (.inr (fun _ => none)))))), (gm 7, .inl (kA, 6, .inr (.inr (.inr (.inr F))))), (rr, .inl (kY, 5, .inl (fun _ => 0))), (o, .inl (kL, 1, .inr (.inl (fun _ => 0)))), (hm, .inr (12, u_11))] := hD
  refine lv_istore (lv' := [(6, .int r_10), (5, .int 1), (4, .int 0), (3, .ref o), (2, .ref hm), (1, .ref h0), (0, .ref b)]) hx hb dL_law_1558 hl (by decide) rfl (fun ls hl => ?_)
  refine lv_aload_n hx hb dL_law_1560 rfl (lv_at hl 4 rfl) ?_
  have f_13 := free_of (wc := [(hm, .inr (12, u_11))]) hD hS hA [4] rfl
  refine va_calli (va_runV (As := []) (rest := []) ⟨hx, hb, hml, hown, hts⟩ (c_thrown l D a1 a2 H.size hm u_11 1 h_12) (cwV 0 hts (gV w_458 w_459 w_460 w_244 w_461) rfl rfl rfl (by decide +kernel) ⟨Nat.le_of_ble_eq_true rfl, Nat.le_of_ble_eq_true rfl⟩) (pre_V hK hP hD hS hA hE [4] rfl (by decide) rfl [] rfl (ci := 12) (q0 := 4) rfl rfl) rfl rfl hl.1 rfl (lv_room (Nat.le_of_ble_eq_true rfl)) dL_law_1561 ⟨Nat.le_of_ble_eq_true rfl, Nat.le_of_ble_eq_true rfl⟩) hS (fun q _ h => f_13 q h) f_13 (fun r_14 u_15 t H1 locs ht hvm h_16 hB hz1 hk1 hS => ?_)
  obtain ⟨hP, hD⟩ := join (wc := [(hm, .inr (12, u_11))]) (wr := [(gn 0, .inl (kP, 6, .inr (.inr (.inr (.inr (fun _ => none)))))), (gm 7, .inl (kA, 6, .inr (.inr (.inr (.inr F))))), (rr, .inl (kY, 5, .inl (fun _ => 0))), (o, .inl (kL, 1, .inr (.inl (fun _ => 0))))]) (w1 := [(hm, .inr (12, u_11))]) hP hD f_13 [4] [0, 1, 2, 3] rfl rfl (by decide) (by decide) hk1 ht hB
  generalize H1 = H at hP hS ⊢
  have hP : va_P D vwCl [(gn 0, .inl (kP, 6, .inr (.inr (.inr (.inr (fun _ => none)))))), (gm 7, .inl (kA, 6, .inr (.inr (.inr (.inr F))))), (rr, .inl (kY, 5, .inl (fun _ => 0))), (o, .inl (kL, 1, .inr (.inl (fun _ => 0)))), (hm, .inr (12, u_11))] H := hP
  have hD : va_D (fun q : Nat => s.heap.size ≤ q) [(gn 0, .inl (kP, 6, .inr (.inr (.inr (.inr (fun _ => none)))))), (gm 7, .inl (kA, 6, .inr (.inr (.inr (.inr F))))), (rr, .inl (kY, 5, .inl (fun _ => 0))), (o, .inl (kL, 1, .inr (.inl (fun _ => 0)))), (hm, .inr (12, u_11))] := hD
  obtain rfl := h_16
  refine lv_iload hx hb dL_law_1564 (lv_at hl 1 rfl) ?_
  refine lv_icmp_eq (tgt := 1571) hx hb dL_law_1566 (by decide) (fun _ => ?_) (fun c => absurd (by decide) c)
  refine lv_iload hx hb dL_law_1571 (lv_at hl 1 rfl) ?_
  refine lv_if_ne (tgt := 1588) hx hb dL_law_1573 (by decide) (fun _ => ?_) (fun c => absurd c (by decide))
  refine lv_goto (tgt := 3913) hx hb dL_law_1588 (by decide) ?_
  exact law_tail hx hb hr_ hlocks hX hbl hS (Nat.le_of_ble_eq_true rfl) (Nat.le_of_ble_eq_true rfl) (lv_sub hl [2, 6] rfl)
set_option maxRecDepth 100000 in
set_option maxHeartbeats 4000000 in
theorem case_18 {p : Program} {l : Launch} (hl9 : l.stackTraces = false) {e : Env} {s : State} {m : MethodId} {below : List Frame} {meth : Method} {c : Code} {D : va_G} {a1 a2 b : Nat} {xs : Nat → Int32} {H : Heap} {locs : List Loc} {ls : Array Slot} (h0 h1 h2 : Nat) (g gn gb : Nat → Nat) (kP : ClassId) (hm hr rr : Nat) (gm : Nat → Nat) (kI kA kY : ClassId) (F : Nat → Option Nat) (o : Nat) (kL : ClassId) (hG : LawSt D a1 a2 p s m meth c b xs H locs ls h0 h1 h2 g gn gb kP hm hr rr gm kI kA kY F o kL) : W p l e room_1 s m #[Value.ref b] below meth c H locs 5338 65502 (lw_Z below #[Value.ref b] s) (F0 m 1591 ls []) := by
  obtain ⟨hx, hb, hr_, hml, hown, hts, hX, hbl, hlocks, hP, hK, hD, hA, hE, hS, hF, hl⟩ := hG
  have hbA : ¬ (fun q : Nat => s.heap.size ≤ q) b := Nat.not_le.mpr hbl
  refine lv_aload_n hx hb dL_law_1591 rfl (lv_at hl 3 rfl) ?_
  refine lv_aload_n hx hb dL_law_1592 rfl (lv_at hl 4 rfl) ?_
  refine lv_iload hx hb dL_law_1593 (lv_at hl 0 rfl) ?_
  refine lv_iconst (v := 1) hx hb dL_law_1595 (by decide) ?_
  refine lv_iadd hx hb dL_law_1596 ?_
  refine lv_topi (fun x_1 ex_1 => ?_)
  obtain rfl : x_1 = 1 := ex_1.trans (by decide)
  refine va_sld hx hb hX hbl hbA hS (i := 1) (by unfold vp_in; decide) dL_law_1597 ?_
  refine W.eq (g2 := F0 m 1598 ls [.int (xs 1), .ref h0]) rfl ?_
  refine lv_aload_n hx hb dL_law_1598 rfl (lv_at hl 4 rfl) ?_
  refine lv_iload hx hb dL_law_1599 (lv_at hl 0 rfl) ?_
  refine lv_iconst (v := 2) hx hb dL_law_1601 (by decide) ?_
  refine lv_iadd hx hb dL_law_1602 ?_
  refine lv_topi (fun x_2 ex_2 => ?_)
  obtain rfl : x_2 = 2 := ex_2.trans (by decide)
  refine va_sld hx hb hX hbl hbA hS (i := 2) (by unfold vp_in; decide) dL_law_1603 ?_
  refine W.eq (g2 := F0 m 1604 ls [.int (xs 2), .int (xs 1), .ref h0]) rfl ?_
  refine lv_aload_n hx hb dL_law_1604 rfl (lv_at hl 1 rfl) ?_
  have f_3 := free_of (wc := [(h0, .inr (11, [.ref h1, .ref h2, .ref (g 2), .ref (g 3), .ref (g 4), .ref (g 5), .ref (g 6), .int 0, .int 0, .int 0, .int 0])), (h1, .inr (6, [.ref (gn 0), .int 0, .ref (gn 2), .ref (gn 3), .int 0, .ref (gn 5), .int 0, .int 0])), (h2, .inr (1, [.ref h1, .ref (gb 1), .int 0]))]) hD hS hA [0, 1, 2] rfl
  refine vx_calli (vx_runSX (As := [.ref h0, .int (xs 1), .int (xs 2), .ref o]) (rest := []) ⟨hx, hb, hml, hown, hts⟩ (c_h_accountOf l hl9 D a1 a2 H.size h0 h1 h2 g gn gb (xs 1) (xs 2) o) (vx_cwSW 4 hts (gSW w_560 w_561 w_450 w_562) rfl rfl rfl (by decide +kernel) ⟨Nat.le_of_ble_eq_true rfl, Nat.le_of_ble_eq_true rfl⟩) (pre_S hK hP hD hS hA hE [0, 1, 2] rfl (by decide) rfl [] rfl) rfl rfl hl.1 rfl (lv_room (Nat.le_of_ble_eq_true rfl)) dL_law_1605 ⟨Nat.le_of_ble_eq_true rfl, Nat.le_of_ble_eq_true rfl⟩) hS (fun q _ h => f_3 q h) f_3 (fun q _ h => f_3 q h) (fun E ce q9 u9 t H locs ht hvm hw hB hz1 hk1 hS hce hcv hcl => False.elim hw) (fun r_4 u_5 t H1 locs ht hvm h_6 hB hz1 hk1 hS => ?_)
  obtain ⟨hP, hD⟩ := join (wc := [(h0, .inr (11, [.ref h1, .ref h2, .ref (g 2), .ref (g 3), .ref (g 4), .ref (g 5), .ref (g 6), .int 0, .int 0, .int 0, .int 0])), (h1, .inr (6, [.ref (gn 0), .int 0, .ref (gn 2), .ref (gn 3), .int 0, .ref (gn 5), .int 0, .int 0])), (h2, .inr (1, [.ref h1, .ref (gb 1), .int 0]))]) (wr := [(gn 0, .inl (kP, 6, .inr (.inr (.inr (.inr (fun _ => none)))))), (hm, .inr (12, [.int 0, .ref hr, .int 0, .int 0, .int 0, .int 0, .int 0, .ref (gm 7), .ref (gm 8), .ref (gm 9), .ref (gm 10), .ref (gm 11), .ref (gm 12), .ref (gm 13), .ref (gm 14), .int 0, .ref (gm 16), .int 0, .int 0, .int 0, .ref (gm 20), .ref (gm 21), .int 0, .int 0, .int 0, .int 0, .int 0, .int 0, .ref (gm 28), .ref (gm 29)])), (hr, .inl (kI, 2, .inl (fun _ => 0))), (gm 7, .inl (kA, 6, .inr (.inr (.inr (.inr F))))), (rr, .inl (kY, 5, .inl (fun _ => 0))), (o, .inl (kL, 1, .inr (.inl (fun _ => 0))))]) (w1 := []) hP hD f_3 [0, 1, 2] [3, 4, 5, 6, 7, 8] rfl rfl (by decide) (by decide) hk1 ht wat_nil
  generalize H1 = H at hP hS ⊢
  have hP : va_P D vwCl [(gn 0, .inl (kP, 6, .inr (.inr (.inr (.inr (fun _ => none)))))), (hm, .inr (12, [.int 0, .ref hr, .int 0, .int 0, .int 0, .int 0, .int 0, .ref (gm 7), .ref (gm 8), .ref (gm 9), .ref (gm 10), .ref (gm 11), .ref (gm 12), .ref (gm 13), .ref (gm 14), .int 0, .ref (gm 16), .int 0, .int 0, .int 0, .ref (gm 20), .ref (gm 21), .int 0, .int 0, .int 0, .int 0, .int 0, .int 0, .ref (gm 28), .ref (gm 29)])), (hr, .inl (kI, 2, .inl (fun _ => 0))), (gm 7, .inl (kA, 6, .inr (.inr (.inr (.inr F))))), (rr, .inl (kY, 5, .inl (fun _ => 0))), (o, .inl (kL, 1, .inr (.inl (fun _ => 0))))] H := hP
  have hD : va_D (fun q : Nat => s.heap.size ≤ q) [(gn 0, .inl (kP, 6, .inr (.inr (.inr (.inr (fun _ => none)))))), (hm, .inr (12, [.int 0, .ref hr, .int 0, .int 0, .int 0, .int 0, .int 0, .ref (gm 7), .ref (gm 8), .ref (gm 9), .ref (gm 10), .ref (gm 11), .ref (gm 12), .ref (gm 13), .ref (gm 14), .int 0, .ref (gm 16), .int 0, .int 0, .int 0, .ref (gm 20), .ref (gm 21), .int 0, .int 0, .int 0, .int 0, .int 0, .int 0, .ref (gm 28), .ref (gm 29)])), (hr, .inl (kI, 2, .inl (fun _ => 0))), (gm 7, .inl (kA, 6, .inr (.inr (.inr (.inr F))))), (rr, .inl (kY, 5, .inl (fun _ => 0))), (o, .inl (kL, 1, .inr (.inl (fun _ => 0))))] := hD
  obtain rfl := h_6
  refine lv_istore (lv' := [(5, .int 1), (4, .int 0), (3, .ref o), (2, .ref hm), (1, .ref h0), (0, .ref b)]) hx hb dL_law_1608 hl (by decide) rfl (fun ls hl => ?_)
  refine lv_aload_n hx hb dL_law_1610 rfl (lv_at hl 3 rfl) ?_
  refine lv_aload_n hx hb dL_law_1611 rfl (lv_at hl 5 rfl) ?_
  refine lv_iload hx hb dL_law_1612 (lv_at hl 1 rfl) ?_
  refine lv_iconst (v := 1) hx hb dL_law_1614 (by decide) ?_
  refine lv_iadd hx hb dL_law_1615 ?_
  refine lv_topi (fun x_7 ex_7 => ?_)
  obtain rfl : x_7 = 1 := ex_7.trans (by decide)
  refine va_sld hx hb hX hbl hbA hS (i := 1) (by unfold vp_in; decide) dL_law_1616 ?_
  refine W.eq (g2 := F0 m 1617 ls [.int (xs 1), .ref hm]) rfl ?_
  refine lv_aload_n hx hb dL_law_1617 rfl (lv_at hl 5 rfl) ?_
  refine lv_iload hx hb dL_law_1618 (lv_at hl 1 rfl) ?_
  refine lv_iconst (v := 2) hx hb dL_law_1620 (by decide) ?_
  refine lv_iadd hx hb dL_law_1621 ?_
  refine lv_topi (fun x_8 ex_8 => ?_)
  obtain rfl : x_8 = 2 := ex_8.trans (by decide)
  refine va_sld hx hb hX hbl hbA hS (i := 2) (by unfold vp_in; decide) dL_law_1622 ?_
  refine W.eq (g2 := F0 m 1623 ls [.int (xs 2), .int (xs 1), .ref hm]) rfl ?_
  have f_9 := free_of (wc := [(hm, .inr (12, [.int 0, .ref hr, .int 0, .int 0, .int 0, .int 0, .int 0, .ref (gm 7), .ref (gm 8), .ref (gm 9), .ref (gm 10), .ref (gm 11), .ref (gm 12), .ref (gm 13), .ref (gm 14), .int 0, .ref (gm 16), .int 0, .int 0, .int 0, .ref (gm 20), .ref (gm 21), .int 0, .int 0, .int 0, .int 0, .int 0, .int 0, .ref (gm 28), .ref (gm 29)])), (hr, .inl (kI, 2, .inl (fun _ => 0)))]) hD hS hA [1, 2] rfl
  refine va_calli (va_runV (As := [.int (xs 1), .int (xs 2)]) (rest := []) ⟨hx, hb, hml, hown, hts⟩ (c_m_accountOf l D a1 a2 H.size hm hr gm kI (xs 1) (xs 2)) (cwV 2 hts (gV w_563 w_564 w_565 w_244 w_566) rfl rfl rfl (by decide +kernel) ⟨Nat.le_of_ble_eq_true rfl, Nat.le_of_ble_eq_true rfl⟩) (pre_V hK hP hD hS hA hE [1, 2] rfl (by decide) rfl [1] rfl (ci := 12) (q0 := 1) rfl rfl) rfl rfl hl.1 rfl (lv_room (Nat.le_of_ble_eq_true rfl)) dL_law_1623 ⟨Nat.le_of_ble_eq_true rfl, Nat.le_of_ble_eq_true rfl⟩) hS (fun q _ h => f_9 q h) f_9 (fun r_10 u_11 t H1 locs ht hvm h_12 hB hz1 hk1 hS => ?_)
  obtain ⟨hP, hD⟩ := join (wc := [(hm, .inr (12, [.int 0, .ref hr, .int 0, .int 0, .int 0, .int 0, .int 0, .ref (gm 7), .ref (gm 8), .ref (gm 9), .ref (gm 10), .ref (gm 11), .ref (gm 12), .ref (gm 13), .ref (gm 14), .int 0, .ref (gm 16), .int 0, .int 0, .int 0, .ref (gm 20), .ref (gm 21), .int 0, .int 0, .int 0, .int 0, .int 0, .int 0, .ref (gm 28), .ref (gm 29)])), (hr, .inl (kI, 2, .inl (fun _ => 0)))]) (wr := [(gn 0, .inl (kP, 6, .inr (.inr (.inr (.inr (fun _ => none)))))), (gm 7, .inl (kA, 6, .inr (.inr (.inr (.inr F))))), (rr, .inl (kY, 5, .inl (fun _ => 0))), (o, .inl (kL, 1, .inr (.inl (fun _ => 0))))]) (w1 := [(hm, .inr (12, u_11))]) hP hD f_9 [1, 2] [0, 3, 4, 5] rfl rfl (by decide) (by decide) hk1 ht hB
  generalize H1 = H at hP hS ⊢
  have hP : va_P D vwCl [(gn 0, .inl (kP, 6, .inr (.inr (.inr (.inr (fun _ => none)))))), (gm 7, .inl (kA, 6, .inr (.inr (.inr (.inr F))))), (rr, .inl (kY, 5, .inl (fun _ => 0))), (o, .inl (kL, 1, .inr (.inl (fun _ => 0)))), (hm, .inr (12, u_11))] H := hP
  have hD : va_D (fun q : Nat => s.heap.size ≤ q) [(gn 0, .inl (kP, 6, .inr (.inr (.inr (.inr (fun _ => none)))))), (gm 7, .inl (kA, 6, .inr (.inr (.inr (.inr F))))), (rr, .inl (kY, 5, .inl (fun _ => 0))), (o, .inl (kL, 1, .inr (.inl (fun _ => 0)))), (hm, .inr (12, u_11))] := hD
  refine lv_istore (lv' := [(6, .int r_10), (5, .int 1), (4, .int 0), (3, .ref o), (2, .ref hm), (1, .ref h0), (0, .ref b)]) hx hb dL_law_1626 hl (by decide) rfl (fun ls hl => ?_)
  refine lv_aload_n hx hb dL_law_1628 rfl (lv_at hl 4 rfl) ?_
  have f_13 := free_of (wc := [(hm, .inr (12, u_11))]) hD hS hA [4] rfl
  refine va_calli (va_runV (As := []) (rest := []) ⟨hx, hb, hml, hown, hts⟩ (c_thrown l D a1 a2 H.size hm u_11 1 h_12) (cwV 0 hts (gV w_458 w_459 w_460 w_244 w_461) rfl rfl rfl (by decide +kernel) ⟨Nat.le_of_ble_eq_true rfl, Nat.le_of_ble_eq_true rfl⟩) (pre_V hK hP hD hS hA hE [4] rfl (by decide) rfl [] rfl (ci := 12) (q0 := 4) rfl rfl) rfl rfl hl.1 rfl (lv_room (Nat.le_of_ble_eq_true rfl)) dL_law_1629 ⟨Nat.le_of_ble_eq_true rfl, Nat.le_of_ble_eq_true rfl⟩) hS (fun q _ h => f_13 q h) f_13 (fun r_14 u_15 t H1 locs ht hvm h_16 hB hz1 hk1 hS => ?_)
  obtain ⟨hP, hD⟩ := join (wc := [(hm, .inr (12, u_11))]) (wr := [(gn 0, .inl (kP, 6, .inr (.inr (.inr (.inr (fun _ => none)))))), (gm 7, .inl (kA, 6, .inr (.inr (.inr (.inr F))))), (rr, .inl (kY, 5, .inl (fun _ => 0))), (o, .inl (kL, 1, .inr (.inl (fun _ => 0))))]) (w1 := [(hm, .inr (12, u_11))]) hP hD f_13 [4] [0, 1, 2, 3] rfl rfl (by decide) (by decide) hk1 ht hB
  generalize H1 = H at hP hS ⊢
  have hP : va_P D vwCl [(gn 0, .inl (kP, 6, .inr (.inr (.inr (.inr (fun _ => none)))))), (gm 7, .inl (kA, 6, .inr (.inr (.inr (.inr F))))), (rr, .inl (kY, 5, .inl (fun _ => 0))), (o, .inl (kL, 1, .inr (.inl (fun _ => 0)))), (hm, .inr (12, u_11))] H := hP
  have hD : va_D (fun q : Nat => s.heap.size ≤ q) [(gn 0, .inl (kP, 6, .inr (.inr (.inr (.inr (fun _ => none)))))), (gm 7, .inl (kA, 6, .inr (.inr (.inr (.inr F))))), (rr, .inl (kY, 5, .inl (fun _ => 0))), (o, .inl (kL, 1, .inr (.inl (fun _ => 0)))), (hm, .inr (12, u_11))] := hD
  obtain rfl := h_16
  refine lv_iload hx hb dL_law_1632 (lv_at hl 1 rfl) ?_
  refine lv_icmp_eq (tgt := 1639) hx hb dL_law_1634 (by decide) (fun _ => ?_) (fun c => absurd (by decide) c)
  refine lv_iload hx hb dL_law_1639 (lv_at hl 1 rfl) ?_
  refine lv_if_ne (tgt := 1656) hx hb dL_law_1641 (by decide) (fun _ => ?_) (fun c => absurd c (by decide))
  refine lv_goto (tgt := 3913) hx hb dL_law_1656 (by decide) ?_
  exact law_tail hx hb hr_ hlocks hX hbl hS (Nat.le_of_ble_eq_true rfl) (Nat.le_of_ble_eq_true rfl) (lv_sub hl [2, 6] rfl)
set_option maxRecDepth 100000 in
set_option maxHeartbeats 4000000 in
theorem case_19 {p : Program} {l : Launch} (hl9 : l.stackTraces = false) {e : Env} {s : State} {m : MethodId} {below : List Frame} {meth : Method} {c : Code} {D : va_G} {a1 a2 b : Nat} {xs : Nat → Int32} {H : Heap} {locs : List Loc} {ls : Array Slot} (h0 h1 h2 : Nat) (g gn gb : Nat → Nat) (kP : ClassId) (hm hr rr : Nat) (gm : Nat → Nat) (kI kA kY : ClassId) (F : Nat → Option Nat) (o : Nat) (kL : ClassId) (hG : LawSt D a1 a2 p s m meth c b xs H locs ls h0 h1 h2 g gn gb kP hm hr rr gm kI kA kY F o kL) : W p l e room_1 s m #[Value.ref b] below meth c H locs 5338 65502 (lw_Z below #[Value.ref b] s) (F0 m 1659 ls []) := by
  obtain ⟨hx, hb, hr_, hml, hown, hts, hX, hbl, hlocks, hP, hK, hD, hA, hE, hS, hF, hl⟩ := hG
  have hbA : ¬ (fun q : Nat => s.heap.size ≤ q) b := Nat.not_le.mpr hbl
  refine lv_aload_n hx hb dL_law_1659 rfl (lv_at hl 3 rfl) ?_
  refine lv_aload_n hx hb dL_law_1660 rfl (lv_at hl 4 rfl) ?_
  refine lv_iload hx hb dL_law_1661 (lv_at hl 0 rfl) ?_
  refine lv_iconst (v := 1) hx hb dL_law_1663 (by decide) ?_
  refine lv_iadd hx hb dL_law_1664 ?_
  refine lv_topi (fun x_1 ex_1 => ?_)
  obtain rfl : x_1 = 1 := ex_1.trans (by decide)
  refine va_sld hx hb hX hbl hbA hS (i := 1) (by unfold vp_in; decide) dL_law_1665 ?_
  refine W.eq (g2 := F0 m 1666 ls [.int (xs 1), .ref h0]) rfl ?_
  refine lv_aload_n hx hb dL_law_1666 rfl (lv_at hl 4 rfl) ?_
  refine lv_iload hx hb dL_law_1667 (lv_at hl 0 rfl) ?_
  refine lv_iconst (v := 2) hx hb dL_law_1669 (by decide) ?_
  refine lv_iadd hx hb dL_law_1670 ?_
  refine lv_topi (fun x_2 ex_2 => ?_)
  obtain rfl : x_2 = 2 := ex_2.trans (by decide)
  refine va_sld hx hb hX hbl hbA hS (i := 2) (by unfold vp_in; decide) dL_law_1671 ?_
  refine W.eq (g2 := F0 m 1672 ls [.int (xs 2), .int (xs 1), .ref h0]) rfl ?_
  refine lv_aload_n hx hb dL_law_1672 rfl (lv_at hl 1 rfl) ?_
  have f_3 := free_of (wc := [(h0, .inr (11, [.ref h1, .ref h2, .ref (g 2), .ref (g 3), .ref (g 4), .ref (g 5), .ref (g 6), .int 0, .int 0, .int 0, .int 0])), (h1, .inr (6, [.ref (gn 0), .int 0, .ref (gn 2), .ref (gn 3), .int 0, .ref (gn 5), .int 0, .int 0])), (h2, .inr (1, [.ref h1, .ref (gb 1), .int 0]))]) hD hS hA [0, 1, 2] rfl
  refine vx_calli (vx_runSX (As := [.ref h0, .int (xs 1), .int (xs 2), .ref o]) (rest := []) ⟨hx, hb, hml, hown, hts⟩ (c_h_payment l hl9 D a1 a2 H.size h0 h1 h2 g gn gb (xs 1) (xs 2) o) (vx_cwSW 4 hts (gSW w_567 w_568 w_450 w_569) rfl rfl rfl (by decide +kernel) ⟨Nat.le_of_ble_eq_true rfl, Nat.le_of_ble_eq_true rfl⟩) (pre_S hK hP hD hS hA hE [0, 1, 2] rfl (by decide) rfl [] rfl) rfl rfl hl.1 rfl (lv_room (Nat.le_of_ble_eq_true rfl)) dL_law_1673 ⟨Nat.le_of_ble_eq_true rfl, Nat.le_of_ble_eq_true rfl⟩) hS (fun q _ h => f_3 q h) f_3 (fun q _ h => f_3 q h) (fun E ce q9 u9 t H locs ht hvm hw hB hz1 hk1 hS hce hcv hcl => False.elim hw) (fun r_4 u_5 t H1 locs ht hvm h_6 hB hz1 hk1 hS => ?_)
  obtain ⟨hP, hD⟩ := join (wc := [(h0, .inr (11, [.ref h1, .ref h2, .ref (g 2), .ref (g 3), .ref (g 4), .ref (g 5), .ref (g 6), .int 0, .int 0, .int 0, .int 0])), (h1, .inr (6, [.ref (gn 0), .int 0, .ref (gn 2), .ref (gn 3), .int 0, .ref (gn 5), .int 0, .int 0])), (h2, .inr (1, [.ref h1, .ref (gb 1), .int 0]))]) (wr := [(gn 0, .inl (kP, 6, .inr (.inr (.inr (.inr (fun _ => none)))))), (hm, .inr (12, [.int 0, .ref hr, .int 0, .int 0, .int 0, .int 0, .int 0, .ref (gm 7), .ref (gm 8), .ref (gm 9), .ref (gm 10), .ref (gm 11), .ref (gm 12), .ref (gm 13), .ref (gm 14), .int 0, .ref (gm 16), .int 0, .int 0, .int 0, .ref (gm 20), .ref (gm 21), .int 0, .int 0, .int 0, .int 0, .int 0, .int 0, .ref (gm 28), .ref (gm 29)])), (hr, .inl (kI, 2, .inl (fun _ => 0))), (gm 7, .inl (kA, 6, .inr (.inr (.inr (.inr F))))), (rr, .inl (kY, 5, .inl (fun _ => 0))), (o, .inl (kL, 1, .inr (.inl (fun _ => 0))))]) (w1 := []) hP hD f_3 [0, 1, 2] [3, 4, 5, 6, 7, 8] rfl rfl (by decide) (by decide) hk1 ht wat_nil
  generalize H1 = H at hP hS ⊢
  have hP : va_P D vwCl [(gn 0, .inl (kP, 6, .inr (.inr (.inr (.inr (fun _ => none)))))), (hm, .inr (12, [.int 0, .ref hr, .int 0, .int 0, .int 0, .int 0, .int 0, .ref (gm 7), .ref (gm 8), .ref (gm 9), .ref (gm 10), .ref (gm 11), .ref (gm 12), .ref (gm 13), .ref (gm 14), .int 0, .ref (gm 16), .int 0, .int 0, .int 0, .ref (gm 20), .ref (gm 21), .int 0, .int 0, .int 0, .int 0, .int 0, .int 0, .ref (gm 28), .ref (gm 29)])), (hr, .inl (kI, 2, .inl (fun _ => 0))), (gm 7, .inl (kA, 6, .inr (.inr (.inr (.inr F))))), (rr, .inl (kY, 5, .inl (fun _ => 0))), (o, .inl (kL, 1, .inr (.inl (fun _ => 0))))] H := hP
  have hD : va_D (fun q : Nat => s.heap.size ≤ q) [(gn 0, .inl (kP, 6, .inr (.inr (.inr (.inr (fun _ => none)))))), (hm, .inr (12, [.int 0, .ref hr, .int 0, .int 0, .int 0, .int 0, .int 0, .ref (gm 7), .ref (gm 8), .ref (gm 9), .ref (gm 10), .ref (gm 11), .ref (gm 12), .ref (gm 13), .ref (gm 14), .int 0, .ref (gm 16), .int 0, .int 0, .int 0, .ref (gm 20), .ref (gm 21), .int 0, .int 0, .int 0, .int 0, .int 0, .int 0, .ref (gm 28), .ref (gm 29)])), (hr, .inl (kI, 2, .inl (fun _ => 0))), (gm 7, .inl (kA, 6, .inr (.inr (.inr (.inr F))))), (rr, .inl (kY, 5, .inl (fun _ => 0))), (o, .inl (kL, 1, .inr (.inl (fun _ => 0))))] := hD
  obtain rfl := h_6
  refine lv_istore (lv' := [(5, .int 1), (4, .int 0), (3, .ref o), (2, .ref hm), (1, .ref h0), (0, .ref b)]) hx hb dL_law_1676 hl (by decide) rfl (fun ls hl => ?_)
  refine lv_aload_n hx hb dL_law_1678 rfl (lv_at hl 3 rfl) ?_
  refine lv_aload_n hx hb dL_law_1679 rfl (lv_at hl 5 rfl) ?_
  refine lv_iload hx hb dL_law_1680 (lv_at hl 1 rfl) ?_
  refine lv_iconst (v := 1) hx hb dL_law_1682 (by decide) ?_
  refine lv_iadd hx hb dL_law_1683 ?_
  refine lv_topi (fun x_7 ex_7 => ?_)
  obtain rfl : x_7 = 1 := ex_7.trans (by decide)
  refine va_sld hx hb hX hbl hbA hS (i := 1) (by unfold vp_in; decide) dL_law_1684 ?_
  refine W.eq (g2 := F0 m 1685 ls [.int (xs 1), .ref hm]) rfl ?_
  refine lv_aload_n hx hb dL_law_1685 rfl (lv_at hl 5 rfl) ?_
  refine lv_iload hx hb dL_law_1686 (lv_at hl 1 rfl) ?_
  refine lv_iconst (v := 2) hx hb dL_law_1688 (by decide) ?_
  refine lv_iadd hx hb dL_law_1689 ?_
  refine lv_topi (fun x_8 ex_8 => ?_)
  obtain rfl : x_8 = 2 := ex_8.trans (by decide)
  refine va_sld hx hb hX hbl hbA hS (i := 2) (by unfold vp_in; decide) dL_law_1690 ?_
  refine W.eq (g2 := F0 m 1691 ls [.int (xs 2), .int (xs 1), .ref hm]) rfl ?_
  have f_9 := free_of (wc := [(hm, .inr (12, [.int 0, .ref hr, .int 0, .int 0, .int 0, .int 0, .int 0, .ref (gm 7), .ref (gm 8), .ref (gm 9), .ref (gm 10), .ref (gm 11), .ref (gm 12), .ref (gm 13), .ref (gm 14), .int 0, .ref (gm 16), .int 0, .int 0, .int 0, .ref (gm 20), .ref (gm 21), .int 0, .int 0, .int 0, .int 0, .int 0, .int 0, .ref (gm 28), .ref (gm 29)])), (hr, .inl (kI, 2, .inl (fun _ => 0)))]) hD hS hA [1, 2] rfl
  refine va_calli (va_runV (As := [.int (xs 1), .int (xs 2)]) (rest := []) ⟨hx, hb, hml, hown, hts⟩ (c_m_payment l D a1 a2 H.size hm hr gm kI (xs 1) (xs 2)) (cwV 2 hts (gV w_570 w_571 w_572 w_244 w_573) rfl rfl rfl (by decide +kernel) ⟨Nat.le_of_ble_eq_true rfl, Nat.le_of_ble_eq_true rfl⟩) (pre_V hK hP hD hS hA hE [1, 2] rfl (by decide) rfl [1] rfl (ci := 12) (q0 := 1) rfl rfl) rfl rfl hl.1 rfl (lv_room (Nat.le_of_ble_eq_true rfl)) dL_law_1691 ⟨Nat.le_of_ble_eq_true rfl, Nat.le_of_ble_eq_true rfl⟩) hS (fun q _ h => f_9 q h) f_9 (fun r_10 u_11 t H1 locs ht hvm h_12 hB hz1 hk1 hS => ?_)
  obtain ⟨hP, hD⟩ := join (wc := [(hm, .inr (12, [.int 0, .ref hr, .int 0, .int 0, .int 0, .int 0, .int 0, .ref (gm 7), .ref (gm 8), .ref (gm 9), .ref (gm 10), .ref (gm 11), .ref (gm 12), .ref (gm 13), .ref (gm 14), .int 0, .ref (gm 16), .int 0, .int 0, .int 0, .ref (gm 20), .ref (gm 21), .int 0, .int 0, .int 0, .int 0, .int 0, .int 0, .ref (gm 28), .ref (gm 29)])), (hr, .inl (kI, 2, .inl (fun _ => 0)))]) (wr := [(gn 0, .inl (kP, 6, .inr (.inr (.inr (.inr (fun _ => none)))))), (gm 7, .inl (kA, 6, .inr (.inr (.inr (.inr F))))), (rr, .inl (kY, 5, .inl (fun _ => 0))), (o, .inl (kL, 1, .inr (.inl (fun _ => 0))))]) (w1 := [(hm, .inr (12, u_11))]) hP hD f_9 [1, 2] [0, 3, 4, 5] rfl rfl (by decide) (by decide) hk1 ht hB
  generalize H1 = H at hP hS ⊢
  have hP : va_P D vwCl [(gn 0, .inl (kP, 6, .inr (.inr (.inr (.inr (fun _ => none)))))), (gm 7, .inl (kA, 6, .inr (.inr (.inr (.inr F))))), (rr, .inl (kY, 5, .inl (fun _ => 0))), (o, .inl (kL, 1, .inr (.inl (fun _ => 0)))), (hm, .inr (12, u_11))] H := hP
  have hD : va_D (fun q : Nat => s.heap.size ≤ q) [(gn 0, .inl (kP, 6, .inr (.inr (.inr (.inr (fun _ => none)))))), (gm 7, .inl (kA, 6, .inr (.inr (.inr (.inr F))))), (rr, .inl (kY, 5, .inl (fun _ => 0))), (o, .inl (kL, 1, .inr (.inl (fun _ => 0)))), (hm, .inr (12, u_11))] := hD
  refine lv_istore (lv' := [(6, .int r_10), (5, .int 1), (4, .int 0), (3, .ref o), (2, .ref hm), (1, .ref h0), (0, .ref b)]) hx hb dL_law_1694 hl (by decide) rfl (fun ls hl => ?_)
  refine lv_aload_n hx hb dL_law_1696 rfl (lv_at hl 4 rfl) ?_
  have f_13 := free_of (wc := [(hm, .inr (12, u_11))]) hD hS hA [4] rfl
  refine va_calli (va_runV (As := []) (rest := []) ⟨hx, hb, hml, hown, hts⟩ (c_thrown l D a1 a2 H.size hm u_11 1 h_12) (cwV 0 hts (gV w_458 w_459 w_460 w_244 w_461) rfl rfl rfl (by decide +kernel) ⟨Nat.le_of_ble_eq_true rfl, Nat.le_of_ble_eq_true rfl⟩) (pre_V hK hP hD hS hA hE [4] rfl (by decide) rfl [] rfl (ci := 12) (q0 := 4) rfl rfl) rfl rfl hl.1 rfl (lv_room (Nat.le_of_ble_eq_true rfl)) dL_law_1697 ⟨Nat.le_of_ble_eq_true rfl, Nat.le_of_ble_eq_true rfl⟩) hS (fun q _ h => f_13 q h) f_13 (fun r_14 u_15 t H1 locs ht hvm h_16 hB hz1 hk1 hS => ?_)
  obtain ⟨hP, hD⟩ := join (wc := [(hm, .inr (12, u_11))]) (wr := [(gn 0, .inl (kP, 6, .inr (.inr (.inr (.inr (fun _ => none)))))), (gm 7, .inl (kA, 6, .inr (.inr (.inr (.inr F))))), (rr, .inl (kY, 5, .inl (fun _ => 0))), (o, .inl (kL, 1, .inr (.inl (fun _ => 0))))]) (w1 := [(hm, .inr (12, u_11))]) hP hD f_13 [4] [0, 1, 2, 3] rfl rfl (by decide) (by decide) hk1 ht hB
  generalize H1 = H at hP hS ⊢
  have hP : va_P D vwCl [(gn 0, .inl (kP, 6, .inr (.inr (.inr (.inr (fun _ => none)))))), (gm 7, .inl (kA, 6, .inr (.inr (.inr (.inr F))))), (rr, .inl (kY, 5, .inl (fun _ => 0))), (o, .inl (kL, 1, .inr (.inl (fun _ => 0)))), (hm, .inr (12, u_11))] H := hP
  have hD : va_D (fun q : Nat => s.heap.size ≤ q) [(gn 0, .inl (kP, 6, .inr (.inr (.inr (.inr (fun _ => none)))))), (gm 7, .inl (kA, 6, .inr (.inr (.inr (.inr F))))), (rr, .inl (kY, 5, .inl (fun _ => 0))), (o, .inl (kL, 1, .inr (.inl (fun _ => 0)))), (hm, .inr (12, u_11))] := hD
  obtain rfl := h_16
  refine lv_iload hx hb dL_law_1700 (lv_at hl 1 rfl) ?_
  refine lv_icmp_eq (tgt := 1707) hx hb dL_law_1702 (by decide) (fun _ => ?_) (fun c => absurd (by decide) c)
  refine lv_iload hx hb dL_law_1707 (lv_at hl 1 rfl) ?_
  refine lv_if_ne (tgt := 1724) hx hb dL_law_1709 (by decide) (fun _ => ?_) (fun c => absurd c (by decide))
  refine lv_goto (tgt := 3913) hx hb dL_law_1724 (by decide) ?_
  exact law_tail hx hb hr_ hlocks hX hbl hS (Nat.le_of_ble_eq_true rfl) (Nat.le_of_ble_eq_true rfl) (lv_sub hl [2, 6] rfl)
set_option maxRecDepth 100000 in
set_option maxHeartbeats 4000000 in
theorem case_20 {p : Program} {l : Launch} (hl9 : l.stackTraces = false) {e : Env} {s : State} {m : MethodId} {below : List Frame} {meth : Method} {c : Code} {D : va_G} {a1 a2 b : Nat} {xs : Nat → Int32} {H : Heap} {locs : List Loc} {ls : Array Slot} (h0 h1 h2 : Nat) (g gn gb : Nat → Nat) (kP : ClassId) (hm hr rr : Nat) (gm : Nat → Nat) (kI kA kY : ClassId) (F : Nat → Option Nat) (o : Nat) (kL : ClassId) (hG : LawSt D a1 a2 p s m meth c b xs H locs ls h0 h1 h2 g gn gb kP hm hr rr gm kI kA kY F o kL) : W p l e room_1 s m #[Value.ref b] below meth c H locs 5338 65502 (lw_Z below #[Value.ref b] s) (F0 m 1727 ls []) := by
  obtain ⟨hx, hb, hr_, hml, hown, hts, hX, hbl, hlocks, hP, hK, hD, hA, hE, hS, hF, hl⟩ := hG
  have hbA : ¬ (fun q : Nat => s.heap.size ≤ q) b := Nat.not_le.mpr hbl
  refine lv_aload_n hx hb dL_law_1727 rfl (lv_at hl 3 rfl) ?_
  refine lv_aload_n hx hb dL_law_1728 rfl (lv_at hl 4 rfl) ?_
  refine lv_iload hx hb dL_law_1729 (lv_at hl 0 rfl) ?_
  refine lv_iconst (v := 1) hx hb dL_law_1731 (by decide) ?_
  refine lv_iadd hx hb dL_law_1732 ?_
  refine lv_topi (fun x_1 ex_1 => ?_)
  obtain rfl : x_1 = 1 := ex_1.trans (by decide)
  refine va_sld hx hb hX hbl hbA hS (i := 1) (by unfold vp_in; decide) dL_law_1733 ?_
  refine W.eq (g2 := F0 m 1734 ls [.int (xs 1), .ref h0]) rfl ?_
  refine lv_aload_n hx hb dL_law_1734 rfl (lv_at hl 4 rfl) ?_
  refine lv_iload hx hb dL_law_1735 (lv_at hl 0 rfl) ?_
  refine lv_iconst (v := 2) hx hb dL_law_1737 (by decide) ?_
  refine lv_iadd hx hb dL_law_1738 ?_
  refine lv_topi (fun x_2 ex_2 => ?_)
  obtain rfl : x_2 = 2 := ex_2.trans (by decide)
  refine va_sld hx hb hX hbl hbA hS (i := 2) (by unfold vp_in; decide) dL_law_1739 ?_
  refine W.eq (g2 := F0 m 1740 ls [.int (xs 2), .int (xs 1), .ref h0]) rfl ?_
  refine lv_aload_n hx hb dL_law_1740 rfl (lv_at hl 4 rfl) ?_
  refine lv_iload hx hb dL_law_1741 (lv_at hl 0 rfl) ?_
  refine lv_iconst (v := 3) hx hb dL_law_1743 (by decide) ?_
  refine lv_iadd hx hb dL_law_1744 ?_
  refine lv_topi (fun x_3 ex_3 => ?_)
  obtain rfl : x_3 = 3 := ex_3.trans (by decide)
  refine va_sld hx hb hX hbl hbA hS (i := 3) (by unfold vp_in; decide) dL_law_1745 ?_
  refine W.eq (g2 := F0 m 1746 ls [.int (xs 3), .int (xs 2), .int (xs 1), .ref h0]) rfl ?_
  refine lv_aload_n hx hb dL_law_1746 rfl (lv_at hl 1 rfl) ?_
  have f_4 := free_of (wc := [(h0, .inr (11, [.ref h1, .ref h2, .ref (g 2), .ref (g 3), .ref (g 4), .ref (g 5), .ref (g 6), .int 0, .int 0, .int 0, .int 0])), (h1, .inr (6, [.ref (gn 0), .int 0, .ref (gn 2), .ref (gn 3), .int 0, .ref (gn 5), .int 0, .int 0])), (h2, .inr (1, [.ref h1, .ref (gb 1), .int 0]))]) hD hS hA [0, 1, 2] rfl
  refine vx_calli (vx_runSX (As := [.ref h0, .int (xs 1), .int (xs 2), .int (xs 3), .ref o]) (rest := []) ⟨hx, hb, hml, hown, hts⟩ (c_h_leg l hl9 D a1 a2 H.size h0 h1 h2 g gn gb (xs 1) (xs 2) (xs 3) o) (vx_cwSW 5 hts (gSW w_574 w_575 w_450 w_576) rfl rfl rfl (by decide +kernel) ⟨Nat.le_of_ble_eq_true rfl, Nat.le_of_ble_eq_true rfl⟩) (pre_S hK hP hD hS hA hE [0, 1, 2] rfl (by decide) rfl [] rfl) rfl rfl hl.1 rfl (lv_room (Nat.le_of_ble_eq_true rfl)) dL_law_1747 ⟨Nat.le_of_ble_eq_true rfl, Nat.le_of_ble_eq_true rfl⟩) hS (fun q _ h => f_4 q h) f_4 (fun q _ h => f_4 q h) (fun E ce q9 u9 t H locs ht hvm hw hB hz1 hk1 hS hce hcv hcl => False.elim hw) (fun r_5 u_6 t H1 locs ht hvm h_7 hB hz1 hk1 hS => ?_)
  obtain ⟨hP, hD⟩ := join (wc := [(h0, .inr (11, [.ref h1, .ref h2, .ref (g 2), .ref (g 3), .ref (g 4), .ref (g 5), .ref (g 6), .int 0, .int 0, .int 0, .int 0])), (h1, .inr (6, [.ref (gn 0), .int 0, .ref (gn 2), .ref (gn 3), .int 0, .ref (gn 5), .int 0, .int 0])), (h2, .inr (1, [.ref h1, .ref (gb 1), .int 0]))]) (wr := [(gn 0, .inl (kP, 6, .inr (.inr (.inr (.inr (fun _ => none)))))), (hm, .inr (12, [.int 0, .ref hr, .int 0, .int 0, .int 0, .int 0, .int 0, .ref (gm 7), .ref (gm 8), .ref (gm 9), .ref (gm 10), .ref (gm 11), .ref (gm 12), .ref (gm 13), .ref (gm 14), .int 0, .ref (gm 16), .int 0, .int 0, .int 0, .ref (gm 20), .ref (gm 21), .int 0, .int 0, .int 0, .int 0, .int 0, .int 0, .ref (gm 28), .ref (gm 29)])), (hr, .inl (kI, 2, .inl (fun _ => 0))), (gm 7, .inl (kA, 6, .inr (.inr (.inr (.inr F))))), (rr, .inl (kY, 5, .inl (fun _ => 0))), (o, .inl (kL, 1, .inr (.inl (fun _ => 0))))]) (w1 := []) hP hD f_4 [0, 1, 2] [3, 4, 5, 6, 7, 8] rfl rfl (by decide) (by decide) hk1 ht wat_nil
  generalize H1 = H at hP hS ⊢
  have hP : va_P D vwCl [(gn 0, .inl (kP, 6, .inr (.inr (.inr (.inr (fun _ => none)))))), (hm, .inr (12, [.int 0, .ref hr, .int 0, .int 0, .int 0, .int 0, .int 0, .ref (gm 7), .ref (gm 8), .ref (gm 9), .ref (gm 10), .ref (gm 11), .ref (gm 12), .ref (gm 13), .ref (gm 14), .int 0, .ref (gm 16), .int 0, .int 0, .int 0, .ref (gm 20), .ref (gm 21), .int 0, .int 0, .int 0, .int 0, .int 0, .int 0, .ref (gm 28), .ref (gm 29)])), (hr, .inl (kI, 2, .inl (fun _ => 0))), (gm 7, .inl (kA, 6, .inr (.inr (.inr (.inr F))))), (rr, .inl (kY, 5, .inl (fun _ => 0))), (o, .inl (kL, 1, .inr (.inl (fun _ => 0))))] H := hP
  have hD : va_D (fun q : Nat => s.heap.size ≤ q) [(gn 0, .inl (kP, 6, .inr (.inr (.inr (.inr (fun _ => none)))))), (hm, .inr (12, [.int 0, .ref hr, .int 0, .int 0, .int 0, .int 0, .int 0, .ref (gm 7), .ref (gm 8), .ref (gm 9), .ref (gm 10), .ref (gm 11), .ref (gm 12), .ref (gm 13), .ref (gm 14), .int 0, .ref (gm 16), .int 0, .int 0, .int 0, .ref (gm 20), .ref (gm 21), .int 0, .int 0, .int 0, .int 0, .int 0, .int 0, .ref (gm 28), .ref (gm 29)])), (hr, .inl (kI, 2, .inl (fun _ => 0))), (gm 7, .inl (kA, 6, .inr (.inr (.inr (.inr F))))), (rr, .inl (kY, 5, .inl (fun _ => 0))), (o, .inl (kL, 1, .inr (.inl (fun _ => 0))))] := hD
  obtain rfl := h_7
  refine lv_istore (lv' := [(5, .int 1), (4, .int 0), (3, .ref o), (2, .ref hm), (1, .ref h0), (0, .ref b)]) hx hb dL_law_1750 hl (by decide) rfl (fun ls hl => ?_)
  refine lv_aload_n hx hb dL_law_1752 rfl (lv_at hl 3 rfl) ?_
  refine lv_aload_n hx hb dL_law_1753 rfl (lv_at hl 5 rfl) ?_
  refine lv_iload hx hb dL_law_1754 (lv_at hl 1 rfl) ?_
  refine lv_iconst (v := 1) hx hb dL_law_1756 (by decide) ?_
  refine lv_iadd hx hb dL_law_1757 ?_
  refine lv_topi (fun x_8 ex_8 => ?_)
  obtain rfl : x_8 = 1 := ex_8.trans (by decide)
  refine va_sld hx hb hX hbl hbA hS (i := 1) (by unfold vp_in; decide) dL_law_1758 ?_
  refine W.eq (g2 := F0 m 1759 ls [.int (xs 1), .ref hm]) rfl ?_
  refine lv_aload_n hx hb dL_law_1759 rfl (lv_at hl 5 rfl) ?_
  refine lv_iload hx hb dL_law_1760 (lv_at hl 1 rfl) ?_
  refine lv_iconst (v := 2) hx hb dL_law_1762 (by decide) ?_
  refine lv_iadd hx hb dL_law_1763 ?_
  refine lv_topi (fun x_9 ex_9 => ?_)
  obtain rfl : x_9 = 2 := ex_9.trans (by decide)
  refine va_sld hx hb hX hbl hbA hS (i := 2) (by unfold vp_in; decide) dL_law_1764 ?_
  refine W.eq (g2 := F0 m 1765 ls [.int (xs 2), .int (xs 1), .ref hm]) rfl ?_
  refine lv_aload_n hx hb dL_law_1765 rfl (lv_at hl 5 rfl) ?_
  refine lv_iload hx hb dL_law_1766 (lv_at hl 1 rfl) ?_
  refine lv_iconst (v := 3) hx hb dL_law_1768 (by decide) ?_
  refine lv_iadd hx hb dL_law_1769 ?_
  refine lv_topi (fun x_10 ex_10 => ?_)
  obtain rfl : x_10 = 3 := ex_10.trans (by decide)
  refine va_sld hx hb hX hbl hbA hS (i := 3) (by unfold vp_in; decide) dL_law_1770 ?_
  refine W.eq (g2 := F0 m 1771 ls [.int (xs 3), .int (xs 2), .int (xs 1), .ref hm]) rfl ?_
  have f_11 := free_of (wc := [(hm, .inr (12, [.int 0, .ref hr, .int 0, .int 0, .int 0, .int 0, .int 0, .ref (gm 7), .ref (gm 8), .ref (gm 9), .ref (gm 10), .ref (gm 11), .ref (gm 12), .ref (gm 13), .ref (gm 14), .int 0, .ref (gm 16), .int 0, .int 0, .int 0, .ref (gm 20), .ref (gm 21), .int 0, .int 0, .int 0, .int 0, .int 0, .int 0, .ref (gm 28), .ref (gm 29)])), (hr, .inl (kI, 2, .inl (fun _ => 0)))]) hD hS hA [1, 2] rfl
  refine va_calli (va_runV (As := [.int (xs 1), .int (xs 2), .int (xs 3)]) (rest := []) ⟨hx, hb, hml, hown, hts⟩ (c_m_leg l D a1 a2 H.size hm hr gm kI (xs 1) (xs 2) (xs 3)) (cwV 3 hts (gV w_577 w_578 w_579 w_244 w_580) rfl rfl rfl (by decide +kernel) ⟨Nat.le_of_ble_eq_true rfl, Nat.le_of_ble_eq_true rfl⟩) (pre_V hK hP hD hS hA hE [1, 2] rfl (by decide) rfl [1] rfl (ci := 12) (q0 := 1) rfl rfl) rfl rfl hl.1 rfl (lv_room (Nat.le_of_ble_eq_true rfl)) dL_law_1771 ⟨Nat.le_of_ble_eq_true rfl, Nat.le_of_ble_eq_true rfl⟩) hS (fun q _ h => f_11 q h) f_11 (fun r_12 u_13 t H1 locs ht hvm h_14 hB hz1 hk1 hS => ?_)
  obtain ⟨hP, hD⟩ := join (wc := [(hm, .inr (12, [.int 0, .ref hr, .int 0, .int 0, .int 0, .int 0, .int 0, .ref (gm 7), .ref (gm 8), .ref (gm 9), .ref (gm 10), .ref (gm 11), .ref (gm 12), .ref (gm 13), .ref (gm 14), .int 0, .ref (gm 16), .int 0, .int 0, .int 0, .ref (gm 20), .ref (gm 21), .int 0, .int 0, .int 0, .int 0, .int 0, .int 0, .ref (gm 28), .ref (gm 29)])), (hr, .inl (kI, 2, .inl (fun _ => 0)))]) (wr := [(gn 0, .inl (kP, 6, .inr (.inr (.inr (.inr (fun _ => none)))))), (gm 7, .inl (kA, 6, .inr (.inr (.inr (.inr F))))), (rr, .inl (kY, 5, .inl (fun _ => 0))), (o, .inl (kL, 1, .inr (.inl (fun _ => 0))))]) (w1 := [(hm, .inr (12, u_13))]) hP hD f_11 [1, 2] [0, 3, 4, 5] rfl rfl (by decide) (by decide) hk1 ht hB
  generalize H1 = H at hP hS ⊢
  have hP : va_P D vwCl [(gn 0, .inl (kP, 6, .inr (.inr (.inr (.inr (fun _ => none)))))), (gm 7, .inl (kA, 6, .inr (.inr (.inr (.inr F))))), (rr, .inl (kY, 5, .inl (fun _ => 0))), (o, .inl (kL, 1, .inr (.inl (fun _ => 0)))), (hm, .inr (12, u_13))] H := hP
  have hD : va_D (fun q : Nat => s.heap.size ≤ q) [(gn 0, .inl (kP, 6, .inr (.inr (.inr (.inr (fun _ => none)))))), (gm 7, .inl (kA, 6, .inr (.inr (.inr (.inr F))))), (rr, .inl (kY, 5, .inl (fun _ => 0))), (o, .inl (kL, 1, .inr (.inl (fun _ => 0)))), (hm, .inr (12, u_13))] := hD
  refine lv_istore (lv' := [(6, .int r_12), (5, .int 1), (4, .int 0), (3, .ref o), (2, .ref hm), (1, .ref h0), (0, .ref b)]) hx hb dL_law_1774 hl (by decide) rfl (fun ls hl => ?_)
  refine lv_aload_n hx hb dL_law_1776 rfl (lv_at hl 4 rfl) ?_
  have f_15 := free_of (wc := [(hm, .inr (12, u_13))]) hD hS hA [4] rfl
  refine va_calli (va_runV (As := []) (rest := []) ⟨hx, hb, hml, hown, hts⟩ (c_thrown l D a1 a2 H.size hm u_13 1 h_14) (cwV 0 hts (gV w_458 w_459 w_460 w_244 w_461) rfl rfl rfl (by decide +kernel) ⟨Nat.le_of_ble_eq_true rfl, Nat.le_of_ble_eq_true rfl⟩) (pre_V hK hP hD hS hA hE [4] rfl (by decide) rfl [] rfl (ci := 12) (q0 := 4) rfl rfl) rfl rfl hl.1 rfl (lv_room (Nat.le_of_ble_eq_true rfl)) dL_law_1777 ⟨Nat.le_of_ble_eq_true rfl, Nat.le_of_ble_eq_true rfl⟩) hS (fun q _ h => f_15 q h) f_15 (fun r_16 u_17 t H1 locs ht hvm h_18 hB hz1 hk1 hS => ?_)
  obtain ⟨hP, hD⟩ := join (wc := [(hm, .inr (12, u_13))]) (wr := [(gn 0, .inl (kP, 6, .inr (.inr (.inr (.inr (fun _ => none)))))), (gm 7, .inl (kA, 6, .inr (.inr (.inr (.inr F))))), (rr, .inl (kY, 5, .inl (fun _ => 0))), (o, .inl (kL, 1, .inr (.inl (fun _ => 0))))]) (w1 := [(hm, .inr (12, u_13))]) hP hD f_15 [4] [0, 1, 2, 3] rfl rfl (by decide) (by decide) hk1 ht hB
  generalize H1 = H at hP hS ⊢
  have hP : va_P D vwCl [(gn 0, .inl (kP, 6, .inr (.inr (.inr (.inr (fun _ => none)))))), (gm 7, .inl (kA, 6, .inr (.inr (.inr (.inr F))))), (rr, .inl (kY, 5, .inl (fun _ => 0))), (o, .inl (kL, 1, .inr (.inl (fun _ => 0)))), (hm, .inr (12, u_13))] H := hP
  have hD : va_D (fun q : Nat => s.heap.size ≤ q) [(gn 0, .inl (kP, 6, .inr (.inr (.inr (.inr (fun _ => none)))))), (gm 7, .inl (kA, 6, .inr (.inr (.inr (.inr F))))), (rr, .inl (kY, 5, .inl (fun _ => 0))), (o, .inl (kL, 1, .inr (.inl (fun _ => 0)))), (hm, .inr (12, u_13))] := hD
  obtain rfl := h_18
  refine lv_iload hx hb dL_law_1780 (lv_at hl 1 rfl) ?_
  refine lv_icmp_eq (tgt := 1787) hx hb dL_law_1782 (by decide) (fun _ => ?_) (fun c => absurd (by decide) c)
  refine lv_iload hx hb dL_law_1787 (lv_at hl 1 rfl) ?_
  refine lv_if_ne (tgt := 1804) hx hb dL_law_1789 (by decide) (fun _ => ?_) (fun c => absurd c (by decide))
  refine lv_goto (tgt := 3913) hx hb dL_law_1804 (by decide) ?_
  exact law_tail hx hb hr_ hlocks hX hbl hS (Nat.le_of_ble_eq_true rfl) (Nat.le_of_ble_eq_true rfl) (lv_sub hl [2, 6] rfl)
set_option maxRecDepth 100000 in
set_option maxHeartbeats 4000000 in
theorem case_21 {p : Program} {l : Launch} (hl9 : l.stackTraces = false) {e : Env} {s : State} {m : MethodId} {below : List Frame} {meth : Method} {c : Code} {D : va_G} {a1 a2 b : Nat} {xs : Nat → Int32} {H : Heap} {locs : List Loc} {ls : Array Slot} (h0 h1 h2 : Nat) (g gn gb : Nat → Nat) (kP : ClassId) (hm hr rr : Nat) (gm : Nat → Nat) (kI kA kY : ClassId) (F : Nat → Option Nat) (o : Nat) (kL : ClassId) (hG : LawSt D a1 a2 p s m meth c b xs H locs ls h0 h1 h2 g gn gb kP hm hr rr gm kI kA kY F o kL) : W p l e room_1 s m #[Value.ref b] below meth c H locs 5338 65502 (lw_Z below #[Value.ref b] s) (F0 m 1807 ls []) := by
  obtain ⟨hx, hb, hr_, hml, hown, hts, hX, hbl, hlocks, hP, hK, hD, hA, hE, hS, hF, hl⟩ := hG
  have hbA : ¬ (fun q : Nat => s.heap.size ≤ q) b := Nat.not_le.mpr hbl
  refine lv_aload_n hx hb dL_law_1807 rfl (lv_at hl 3 rfl) ?_
  refine lv_aload_n hx hb dL_law_1808 rfl (lv_at hl 4 rfl) ?_
  refine lv_iload hx hb dL_law_1809 (lv_at hl 0 rfl) ?_
  refine lv_iconst (v := 1) hx hb dL_law_1811 (by decide) ?_
  refine lv_iadd hx hb dL_law_1812 ?_
  refine lv_topi (fun x_1 ex_1 => ?_)
  obtain rfl : x_1 = 1 := ex_1.trans (by decide)
  refine va_sld hx hb hX hbl hbA hS (i := 1) (by unfold vp_in; decide) dL_law_1813 ?_
  refine W.eq (g2 := F0 m 1814 ls [.int (xs 1), .ref h0]) rfl ?_
  refine lv_aload_n hx hb dL_law_1814 rfl (lv_at hl 4 rfl) ?_
  refine lv_iload hx hb dL_law_1815 (lv_at hl 0 rfl) ?_
  refine lv_iconst (v := 2) hx hb dL_law_1817 (by decide) ?_
  refine lv_iadd hx hb dL_law_1818 ?_
  refine lv_topi (fun x_2 ex_2 => ?_)
  obtain rfl : x_2 = 2 := ex_2.trans (by decide)
  refine va_sld hx hb hX hbl hbA hS (i := 2) (by unfold vp_in; decide) dL_law_1819 ?_
  refine W.eq (g2 := F0 m 1820 ls [.int (xs 2), .int (xs 1), .ref h0]) rfl ?_
  refine lv_aload_n hx hb dL_law_1820 rfl (lv_at hl 1 rfl) ?_
  have f_3 := free_of (wc := [(h0, .inr (11, [.ref h1, .ref h2, .ref (g 2), .ref (g 3), .ref (g 4), .ref (g 5), .ref (g 6), .int 0, .int 0, .int 0, .int 0])), (h1, .inr (6, [.ref (gn 0), .int 0, .ref (gn 2), .ref (gn 3), .int 0, .ref (gn 5), .int 0, .int 0])), (h2, .inr (1, [.ref h1, .ref (gb 1), .int 0]))]) hD hS hA [0, 1, 2] rfl
  refine vx_calli (vx_runSX (As := [.ref h0, .int (xs 1), .int (xs 2), .ref o]) (rest := []) ⟨hx, hb, hml, hown, hts⟩ (c_h_used l hl9 D a1 a2 H.size h0 h1 h2 g gn gb (xs 1) (xs 2) o) (vx_cwSW 4 hts (gSW w_581 w_582 w_450 w_583) rfl rfl rfl (by decide +kernel) ⟨Nat.le_of_ble_eq_true rfl, Nat.le_of_ble_eq_true rfl⟩) (pre_S hK hP hD hS hA hE [0, 1, 2] rfl (by decide) rfl [] rfl) rfl rfl hl.1 rfl (lv_room (Nat.le_of_ble_eq_true rfl)) dL_law_1821 ⟨Nat.le_of_ble_eq_true rfl, Nat.le_of_ble_eq_true rfl⟩) hS (fun q _ h => f_3 q h) f_3 (fun q _ h => f_3 q h) (fun E ce q9 u9 t H locs ht hvm hw hB hz1 hk1 hS hce hcv hcl => False.elim hw) (fun r_4 u_5 t H1 locs ht hvm h_6 hB hz1 hk1 hS => ?_)
  obtain ⟨hP, hD⟩ := join (wc := [(h0, .inr (11, [.ref h1, .ref h2, .ref (g 2), .ref (g 3), .ref (g 4), .ref (g 5), .ref (g 6), .int 0, .int 0, .int 0, .int 0])), (h1, .inr (6, [.ref (gn 0), .int 0, .ref (gn 2), .ref (gn 3), .int 0, .ref (gn 5), .int 0, .int 0])), (h2, .inr (1, [.ref h1, .ref (gb 1), .int 0]))]) (wr := [(gn 0, .inl (kP, 6, .inr (.inr (.inr (.inr (fun _ => none)))))), (hm, .inr (12, [.int 0, .ref hr, .int 0, .int 0, .int 0, .int 0, .int 0, .ref (gm 7), .ref (gm 8), .ref (gm 9), .ref (gm 10), .ref (gm 11), .ref (gm 12), .ref (gm 13), .ref (gm 14), .int 0, .ref (gm 16), .int 0, .int 0, .int 0, .ref (gm 20), .ref (gm 21), .int 0, .int 0, .int 0, .int 0, .int 0, .int 0, .ref (gm 28), .ref (gm 29)])), (hr, .inl (kI, 2, .inl (fun _ => 0))), (gm 7, .inl (kA, 6, .inr (.inr (.inr (.inr F))))), (rr, .inl (kY, 5, .inl (fun _ => 0))), (o, .inl (kL, 1, .inr (.inl (fun _ => 0))))]) (w1 := []) hP hD f_3 [0, 1, 2] [3, 4, 5, 6, 7, 8] rfl rfl (by decide) (by decide) hk1 ht wat_nil
  generalize H1 = H at hP hS ⊢
  have hP : va_P D vwCl [(gn 0, .inl (kP, 6, .inr (.inr (.inr (.inr (fun _ => none)))))), (hm, .inr (12, [.int 0, .ref hr, .int 0, .int 0, .int 0, .int 0, .int 0, .ref (gm 7), .ref (gm 8), .ref (gm 9), .ref (gm 10), .ref (gm 11), .ref (gm 12), .ref (gm 13), .ref (gm 14), .int 0, .ref (gm 16), .int 0, .int 0, .int 0, .ref (gm 20), .ref (gm 21), .int 0, .int 0, .int 0, .int 0, .int 0, .int 0, .ref (gm 28), .ref (gm 29)])), (hr, .inl (kI, 2, .inl (fun _ => 0))), (gm 7, .inl (kA, 6, .inr (.inr (.inr (.inr F))))), (rr, .inl (kY, 5, .inl (fun _ => 0))), (o, .inl (kL, 1, .inr (.inl (fun _ => 0))))] H := hP
  have hD : va_D (fun q : Nat => s.heap.size ≤ q) [(gn 0, .inl (kP, 6, .inr (.inr (.inr (.inr (fun _ => none)))))), (hm, .inr (12, [.int 0, .ref hr, .int 0, .int 0, .int 0, .int 0, .int 0, .ref (gm 7), .ref (gm 8), .ref (gm 9), .ref (gm 10), .ref (gm 11), .ref (gm 12), .ref (gm 13), .ref (gm 14), .int 0, .ref (gm 16), .int 0, .int 0, .int 0, .ref (gm 20), .ref (gm 21), .int 0, .int 0, .int 0, .int 0, .int 0, .int 0, .ref (gm 28), .ref (gm 29)])), (hr, .inl (kI, 2, .inl (fun _ => 0))), (gm 7, .inl (kA, 6, .inr (.inr (.inr (.inr F))))), (rr, .inl (kY, 5, .inl (fun _ => 0))), (o, .inl (kL, 1, .inr (.inl (fun _ => 0))))] := hD
  obtain rfl := h_6
  refine lv_istore (lv' := [(5, .int 1), (4, .int 0), (3, .ref o), (2, .ref hm), (1, .ref h0), (0, .ref b)]) hx hb dL_law_1824 hl (by decide) rfl (fun ls hl => ?_)
  refine lv_aload_n hx hb dL_law_1826 rfl (lv_at hl 3 rfl) ?_
  refine lv_aload_n hx hb dL_law_1827 rfl (lv_at hl 5 rfl) ?_
  refine lv_iload hx hb dL_law_1828 (lv_at hl 1 rfl) ?_
  refine lv_iconst (v := 1) hx hb dL_law_1830 (by decide) ?_
  refine lv_iadd hx hb dL_law_1831 ?_
  refine lv_topi (fun x_7 ex_7 => ?_)
  obtain rfl : x_7 = 1 := ex_7.trans (by decide)
  refine va_sld hx hb hX hbl hbA hS (i := 1) (by unfold vp_in; decide) dL_law_1832 ?_
  refine W.eq (g2 := F0 m 1833 ls [.int (xs 1), .ref hm]) rfl ?_
  refine lv_aload_n hx hb dL_law_1833 rfl (lv_at hl 5 rfl) ?_
  refine lv_iload hx hb dL_law_1834 (lv_at hl 1 rfl) ?_
  refine lv_iconst (v := 2) hx hb dL_law_1836 (by decide) ?_
  refine lv_iadd hx hb dL_law_1837 ?_
  refine lv_topi (fun x_8 ex_8 => ?_)
  obtain rfl : x_8 = 2 := ex_8.trans (by decide)
  refine va_sld hx hb hX hbl hbA hS (i := 2) (by unfold vp_in; decide) dL_law_1838 ?_
  refine W.eq (g2 := F0 m 1839 ls [.int (xs 2), .int (xs 1), .ref hm]) rfl ?_
  have f_9 := free_of (wc := [(hm, .inr (12, [.int 0, .ref hr, .int 0, .int 0, .int 0, .int 0, .int 0, .ref (gm 7), .ref (gm 8), .ref (gm 9), .ref (gm 10), .ref (gm 11), .ref (gm 12), .ref (gm 13), .ref (gm 14), .int 0, .ref (gm 16), .int 0, .int 0, .int 0, .ref (gm 20), .ref (gm 21), .int 0, .int 0, .int 0, .int 0, .int 0, .int 0, .ref (gm 28), .ref (gm 29)])), (hr, .inl (kI, 2, .inl (fun _ => 0)))]) hD hS hA [1, 2] rfl
  refine va_calli (va_runV (As := [.int (xs 1), .int (xs 2)]) (rest := []) ⟨hx, hb, hml, hown, hts⟩ (c_m_used l D a1 a2 H.size hm hr gm kI (xs 1) (xs 2)) (cwV 2 hts (gV w_584 w_585 w_586 w_244 w_587) rfl rfl rfl (by decide +kernel) ⟨Nat.le_of_ble_eq_true rfl, Nat.le_of_ble_eq_true rfl⟩) (pre_V hK hP hD hS hA hE [1, 2] rfl (by decide) rfl [1] rfl (ci := 12) (q0 := 1) rfl rfl) rfl rfl hl.1 rfl (lv_room (Nat.le_of_ble_eq_true rfl)) dL_law_1839 ⟨Nat.le_of_ble_eq_true rfl, Nat.le_of_ble_eq_true rfl⟩) hS (fun q _ h => f_9 q h) f_9 (fun r_10 u_11 t H1 locs ht hvm h_12 hB hz1 hk1 hS => ?_)
  obtain ⟨hP, hD⟩ := join (wc := [(hm, .inr (12, [.int 0, .ref hr, .int 0, .int 0, .int 0, .int 0, .int 0, .ref (gm 7), .ref (gm 8), .ref (gm 9), .ref (gm 10), .ref (gm 11), .ref (gm 12), .ref (gm 13), .ref (gm 14), .int 0, .ref (gm 16), .int 0, .int 0, .int 0, .ref (gm 20), .ref (gm 21), .int 0, .int 0, .int 0, .int 0, .int 0, .int 0, .ref (gm 28), .ref (gm 29)])), (hr, .inl (kI, 2, .inl (fun _ => 0)))]) (wr := [(gn 0, .inl (kP, 6, .inr (.inr (.inr (.inr (fun _ => none)))))), (gm 7, .inl (kA, 6, .inr (.inr (.inr (.inr F))))), (rr, .inl (kY, 5, .inl (fun _ => 0))), (o, .inl (kL, 1, .inr (.inl (fun _ => 0))))]) (w1 := [(hm, .inr (12, u_11))]) hP hD f_9 [1, 2] [0, 3, 4, 5] rfl rfl (by decide) (by decide) hk1 ht hB
  generalize H1 = H at hP hS ⊢
  have hP : va_P D vwCl [(gn 0, .inl (kP, 6, .inr (.inr (.inr (.inr (fun _ => none)))))), (gm 7, .inl (kA, 6, .inr (.inr (.inr (.inr F))))), (rr, .inl (kY, 5, .inl (fun _ => 0))), (o, .inl (kL, 1, .inr (.inl (fun _ => 0)))), (hm, .inr (12, u_11))] H := hP
  have hD : va_D (fun q : Nat => s.heap.size ≤ q) [(gn 0, .inl (kP, 6, .inr (.inr (.inr (.inr (fun _ => none)))))), (gm 7, .inl (kA, 6, .inr (.inr (.inr (.inr F))))), (rr, .inl (kY, 5, .inl (fun _ => 0))), (o, .inl (kL, 1, .inr (.inl (fun _ => 0)))), (hm, .inr (12, u_11))] := hD
  refine lv_istore (lv' := [(6, .int r_10), (5, .int 1), (4, .int 0), (3, .ref o), (2, .ref hm), (1, .ref h0), (0, .ref b)]) hx hb dL_law_1842 hl (by decide) rfl (fun ls hl => ?_)
  refine lv_aload_n hx hb dL_law_1844 rfl (lv_at hl 4 rfl) ?_
  have f_13 := free_of (wc := [(hm, .inr (12, u_11))]) hD hS hA [4] rfl
  refine va_calli (va_runV (As := []) (rest := []) ⟨hx, hb, hml, hown, hts⟩ (c_thrown l D a1 a2 H.size hm u_11 1 h_12) (cwV 0 hts (gV w_458 w_459 w_460 w_244 w_461) rfl rfl rfl (by decide +kernel) ⟨Nat.le_of_ble_eq_true rfl, Nat.le_of_ble_eq_true rfl⟩) (pre_V hK hP hD hS hA hE [4] rfl (by decide) rfl [] rfl (ci := 12) (q0 := 4) rfl rfl) rfl rfl hl.1 rfl (lv_room (Nat.le_of_ble_eq_true rfl)) dL_law_1845 ⟨Nat.le_of_ble_eq_true rfl, Nat.le_of_ble_eq_true rfl⟩) hS (fun q _ h => f_13 q h) f_13 (fun r_14 u_15 t H1 locs ht hvm h_16 hB hz1 hk1 hS => ?_)
  obtain ⟨hP, hD⟩ := join (wc := [(hm, .inr (12, u_11))]) (wr := [(gn 0, .inl (kP, 6, .inr (.inr (.inr (.inr (fun _ => none)))))), (gm 7, .inl (kA, 6, .inr (.inr (.inr (.inr F))))), (rr, .inl (kY, 5, .inl (fun _ => 0))), (o, .inl (kL, 1, .inr (.inl (fun _ => 0))))]) (w1 := [(hm, .inr (12, u_11))]) hP hD f_13 [4] [0, 1, 2, 3] rfl rfl (by decide) (by decide) hk1 ht hB
  generalize H1 = H at hP hS ⊢
  have hP : va_P D vwCl [(gn 0, .inl (kP, 6, .inr (.inr (.inr (.inr (fun _ => none)))))), (gm 7, .inl (kA, 6, .inr (.inr (.inr (.inr F))))), (rr, .inl (kY, 5, .inl (fun _ => 0))), (o, .inl (kL, 1, .inr (.inl (fun _ => 0)))), (hm, .inr (12, u_11))] H := hP
  have hD : va_D (fun q : Nat => s.heap.size ≤ q) [(gn 0, .inl (kP, 6, .inr (.inr (.inr (.inr (fun _ => none)))))), (gm 7, .inl (kA, 6, .inr (.inr (.inr (.inr F))))), (rr, .inl (kY, 5, .inl (fun _ => 0))), (o, .inl (kL, 1, .inr (.inl (fun _ => 0)))), (hm, .inr (12, u_11))] := hD
  obtain rfl := h_16
  refine lv_iload hx hb dL_law_1848 (lv_at hl 1 rfl) ?_
  refine lv_icmp_eq (tgt := 1855) hx hb dL_law_1850 (by decide) (fun _ => ?_) (fun c => absurd (by decide) c)
  refine lv_iload hx hb dL_law_1855 (lv_at hl 1 rfl) ?_
  refine lv_if_ne (tgt := 1872) hx hb dL_law_1857 (by decide) (fun _ => ?_) (fun c => absurd c (by decide))
  refine lv_goto (tgt := 3913) hx hb dL_law_1872 (by decide) ?_
  exact law_tail hx hb hr_ hlocks hX hbl hS (Nat.le_of_ble_eq_true rfl) (Nat.le_of_ble_eq_true rfl) (lv_sub hl [2, 6] rfl)
set_option maxRecDepth 100000 in
set_option maxHeartbeats 4000000 in
theorem case_22 {p : Program} {l : Launch} (hl9 : l.stackTraces = false) {e : Env} {s : State} {m : MethodId} {below : List Frame} {meth : Method} {c : Code} {D : va_G} {a1 a2 b : Nat} {xs : Nat → Int32} {H : Heap} {locs : List Loc} {ls : Array Slot} (h0 h1 h2 : Nat) (g gn gb : Nat → Nat) (kP : ClassId) (hm hr rr : Nat) (gm : Nat → Nat) (kI kA kY : ClassId) (F : Nat → Option Nat) (o : Nat) (kL : ClassId) (hG : LawSt D a1 a2 p s m meth c b xs H locs ls h0 h1 h2 g gn gb kP hm hr rr gm kI kA kY F o kL) : W p l e room_1 s m #[Value.ref b] below meth c H locs 5338 65502 (lw_Z below #[Value.ref b] s) (F0 m 1875 ls []) := by
  obtain ⟨hx, hb, hr_, hml, hown, hts, hX, hbl, hlocks, hP, hK, hD, hA, hE, hS, hF, hl⟩ := hG
  have hbA : ¬ (fun q : Nat => s.heap.size ≤ q) b := Nat.not_le.mpr hbl
  refine lv_aload_n hx hb dL_law_1875 rfl (lv_at hl 3 rfl) ?_
  refine lv_aload_n hx hb dL_law_1876 rfl (lv_at hl 4 rfl) ?_
  refine lv_iload hx hb dL_law_1877 (lv_at hl 0 rfl) ?_
  refine lv_iconst (v := 1) hx hb dL_law_1879 (by decide) ?_
  refine lv_iadd hx hb dL_law_1880 ?_
  refine lv_topi (fun x_1 ex_1 => ?_)
  obtain rfl : x_1 = 1 := ex_1.trans (by decide)
  refine va_sld hx hb hX hbl hbA hS (i := 1) (by unfold vp_in; decide) dL_law_1881 ?_
  refine W.eq (g2 := F0 m 1882 ls [.int (xs 1), .ref h0]) rfl ?_
  refine lv_aload_n hx hb dL_law_1882 rfl (lv_at hl 4 rfl) ?_
  refine lv_iload hx hb dL_law_1883 (lv_at hl 0 rfl) ?_
  refine lv_iconst (v := 2) hx hb dL_law_1885 (by decide) ?_
  refine lv_iadd hx hb dL_law_1886 ?_
  refine lv_topi (fun x_2 ex_2 => ?_)
  obtain rfl : x_2 = 2 := ex_2.trans (by decide)
  refine va_sld hx hb hX hbl hbA hS (i := 2) (by unfold vp_in; decide) dL_law_1887 ?_
  refine W.eq (g2 := F0 m 1888 ls [.int (xs 2), .int (xs 1), .ref h0]) rfl ?_
  refine lv_aload_n hx hb dL_law_1888 rfl (lv_at hl 1 rfl) ?_
  have f_3 := free_of (wc := [(h0, .inr (11, [.ref h1, .ref h2, .ref (g 2), .ref (g 3), .ref (g 4), .ref (g 5), .ref (g 6), .int 0, .int 0, .int 0, .int 0])), (h1, .inr (6, [.ref (gn 0), .int 0, .ref (gn 2), .ref (gn 3), .int 0, .ref (gn 5), .int 0, .int 0])), (h2, .inr (1, [.ref h1, .ref (gb 1), .int 0]))]) hD hS hA [0, 1, 2] rfl
  refine vx_calli (vx_runSX (As := [.ref h0, .int (xs 1), .int (xs 2), .ref o]) (rest := []) ⟨hx, hb, hml, hown, hts⟩ (c_h_fee l hl9 D a1 a2 H.size h0 h1 h2 g gn gb (xs 1) (xs 2) o) (vx_cwSW 4 hts (gSW w_588 w_589 w_450 w_590) rfl rfl rfl (by decide +kernel) ⟨Nat.le_of_ble_eq_true rfl, Nat.le_of_ble_eq_true rfl⟩) (pre_S hK hP hD hS hA hE [0, 1, 2] rfl (by decide) rfl [] rfl) rfl rfl hl.1 rfl (lv_room (Nat.le_of_ble_eq_true rfl)) dL_law_1889 ⟨Nat.le_of_ble_eq_true rfl, Nat.le_of_ble_eq_true rfl⟩) hS (fun q _ h => f_3 q h) f_3 (fun q _ h => f_3 q h) (fun E ce q9 u9 t H locs ht hvm hw hB hz1 hk1 hS hce hcv hcl => False.elim hw) (fun r_4 u_5 t H1 locs ht hvm h_6 hB hz1 hk1 hS => ?_)
  obtain ⟨hP, hD⟩ := join (wc := [(h0, .inr (11, [.ref h1, .ref h2, .ref (g 2), .ref (g 3), .ref (g 4), .ref (g 5), .ref (g 6), .int 0, .int 0, .int 0, .int 0])), (h1, .inr (6, [.ref (gn 0), .int 0, .ref (gn 2), .ref (gn 3), .int 0, .ref (gn 5), .int 0, .int 0])), (h2, .inr (1, [.ref h1, .ref (gb 1), .int 0]))]) (wr := [(gn 0, .inl (kP, 6, .inr (.inr (.inr (.inr (fun _ => none)))))), (hm, .inr (12, [.int 0, .ref hr, .int 0, .int 0, .int 0, .int 0, .int 0, .ref (gm 7), .ref (gm 8), .ref (gm 9), .ref (gm 10), .ref (gm 11), .ref (gm 12), .ref (gm 13), .ref (gm 14), .int 0, .ref (gm 16), .int 0, .int 0, .int 0, .ref (gm 20), .ref (gm 21), .int 0, .int 0, .int 0, .int 0, .int 0, .int 0, .ref (gm 28), .ref (gm 29)])), (hr, .inl (kI, 2, .inl (fun _ => 0))), (gm 7, .inl (kA, 6, .inr (.inr (.inr (.inr F))))), (rr, .inl (kY, 5, .inl (fun _ => 0))), (o, .inl (kL, 1, .inr (.inl (fun _ => 0))))]) (w1 := []) hP hD f_3 [0, 1, 2] [3, 4, 5, 6, 7, 8] rfl rfl (by decide) (by decide) hk1 ht wat_nil
  generalize H1 = H at hP hS ⊢
  have hP : va_P D vwCl [(gn 0, .inl (kP, 6, .inr (.inr (.inr (.inr (fun _ => none)))))), (hm, .inr (12, [.int 0, .ref hr, .int 0, .int 0, .int 0, .int 0, .int 0, .ref (gm 7), .ref (gm 8), .ref (gm 9), .ref (gm 10), .ref (gm 11), .ref (gm 12), .ref (gm 13), .ref (gm 14), .int 0, .ref (gm 16), .int 0, .int 0, .int 0, .ref (gm 20), .ref (gm 21), .int 0, .int 0, .int 0, .int 0, .int 0, .int 0, .ref (gm 28), .ref (gm 29)])), (hr, .inl (kI, 2, .inl (fun _ => 0))), (gm 7, .inl (kA, 6, .inr (.inr (.inr (.inr F))))), (rr, .inl (kY, 5, .inl (fun _ => 0))), (o, .inl (kL, 1, .inr (.inl (fun _ => 0))))] H := hP
  have hD : va_D (fun q : Nat => s.heap.size ≤ q) [(gn 0, .inl (kP, 6, .inr (.inr (.inr (.inr (fun _ => none)))))), (hm, .inr (12, [.int 0, .ref hr, .int 0, .int 0, .int 0, .int 0, .int 0, .ref (gm 7), .ref (gm 8), .ref (gm 9), .ref (gm 10), .ref (gm 11), .ref (gm 12), .ref (gm 13), .ref (gm 14), .int 0, .ref (gm 16), .int 0, .int 0, .int 0, .ref (gm 20), .ref (gm 21), .int 0, .int 0, .int 0, .int 0, .int 0, .int 0, .ref (gm 28), .ref (gm 29)])), (hr, .inl (kI, 2, .inl (fun _ => 0))), (gm 7, .inl (kA, 6, .inr (.inr (.inr (.inr F))))), (rr, .inl (kY, 5, .inl (fun _ => 0))), (o, .inl (kL, 1, .inr (.inl (fun _ => 0))))] := hD
  obtain rfl := h_6
  refine lv_istore (lv' := [(5, .int 1), (4, .int 0), (3, .ref o), (2, .ref hm), (1, .ref h0), (0, .ref b)]) hx hb dL_law_1892 hl (by decide) rfl (fun ls hl => ?_)
  refine lv_aload_n hx hb dL_law_1894 rfl (lv_at hl 3 rfl) ?_
  refine lv_aload_n hx hb dL_law_1895 rfl (lv_at hl 5 rfl) ?_
  refine lv_iload hx hb dL_law_1896 (lv_at hl 1 rfl) ?_
  refine lv_iconst (v := 1) hx hb dL_law_1898 (by decide) ?_
  refine lv_iadd hx hb dL_law_1899 ?_
  refine lv_topi (fun x_7 ex_7 => ?_)
  obtain rfl : x_7 = 1 := ex_7.trans (by decide)
  refine va_sld hx hb hX hbl hbA hS (i := 1) (by unfold vp_in; decide) dL_law_1900 ?_
  refine W.eq (g2 := F0 m 1901 ls [.int (xs 1), .ref hm]) rfl ?_
  refine lv_aload_n hx hb dL_law_1901 rfl (lv_at hl 5 rfl) ?_
  refine lv_iload hx hb dL_law_1902 (lv_at hl 1 rfl) ?_
  refine lv_iconst (v := 2) hx hb dL_law_1904 (by decide) ?_
  refine lv_iadd hx hb dL_law_1905 ?_
  refine lv_topi (fun x_8 ex_8 => ?_)
  obtain rfl : x_8 = 2 := ex_8.trans (by decide)
  refine va_sld hx hb hX hbl hbA hS (i := 2) (by unfold vp_in; decide) dL_law_1906 ?_
  refine W.eq (g2 := F0 m 1907 ls [.int (xs 2), .int (xs 1), .ref hm]) rfl ?_
  have f_9 := free_of (wc := [(hm, .inr (12, [.int 0, .ref hr, .int 0, .int 0, .int 0, .int 0, .int 0, .ref (gm 7), .ref (gm 8), .ref (gm 9), .ref (gm 10), .ref (gm 11), .ref (gm 12), .ref (gm 13), .ref (gm 14), .int 0, .ref (gm 16), .int 0, .int 0, .int 0, .ref (gm 20), .ref (gm 21), .int 0, .int 0, .int 0, .int 0, .int 0, .int 0, .ref (gm 28), .ref (gm 29)])), (hr, .inl (kI, 2, .inl (fun _ => 0)))]) hD hS hA [1, 2] rfl
  refine va_calli (va_runV (As := [.int (xs 1), .int (xs 2)]) (rest := []) ⟨hx, hb, hml, hown, hts⟩ (c_m_fee l D a1 a2 H.size hm hr gm kI (xs 1) (xs 2)) (cwV 2 hts (gV w_591 w_592 w_593 w_244 w_594) rfl rfl rfl (by decide +kernel) ⟨Nat.le_of_ble_eq_true rfl, Nat.le_of_ble_eq_true rfl⟩) (pre_V hK hP hD hS hA hE [1, 2] rfl (by decide) rfl [1] rfl (ci := 12) (q0 := 1) rfl rfl) rfl rfl hl.1 rfl (lv_room (Nat.le_of_ble_eq_true rfl)) dL_law_1907 ⟨Nat.le_of_ble_eq_true rfl, Nat.le_of_ble_eq_true rfl⟩) hS (fun q _ h => f_9 q h) f_9 (fun r_10 u_11 t H1 locs ht hvm h_12 hB hz1 hk1 hS => ?_)
  obtain ⟨hP, hD⟩ := join (wc := [(hm, .inr (12, [.int 0, .ref hr, .int 0, .int 0, .int 0, .int 0, .int 0, .ref (gm 7), .ref (gm 8), .ref (gm 9), .ref (gm 10), .ref (gm 11), .ref (gm 12), .ref (gm 13), .ref (gm 14), .int 0, .ref (gm 16), .int 0, .int 0, .int 0, .ref (gm 20), .ref (gm 21), .int 0, .int 0, .int 0, .int 0, .int 0, .int 0, .ref (gm 28), .ref (gm 29)])), (hr, .inl (kI, 2, .inl (fun _ => 0)))]) (wr := [(gn 0, .inl (kP, 6, .inr (.inr (.inr (.inr (fun _ => none)))))), (gm 7, .inl (kA, 6, .inr (.inr (.inr (.inr F))))), (rr, .inl (kY, 5, .inl (fun _ => 0))), (o, .inl (kL, 1, .inr (.inl (fun _ => 0))))]) (w1 := [(hm, .inr (12, u_11))]) hP hD f_9 [1, 2] [0, 3, 4, 5] rfl rfl (by decide) (by decide) hk1 ht hB
  generalize H1 = H at hP hS ⊢
  have hP : va_P D vwCl [(gn 0, .inl (kP, 6, .inr (.inr (.inr (.inr (fun _ => none)))))), (gm 7, .inl (kA, 6, .inr (.inr (.inr (.inr F))))), (rr, .inl (kY, 5, .inl (fun _ => 0))), (o, .inl (kL, 1, .inr (.inl (fun _ => 0)))), (hm, .inr (12, u_11))] H := hP
  have hD : va_D (fun q : Nat => s.heap.size ≤ q) [(gn 0, .inl (kP, 6, .inr (.inr (.inr (.inr (fun _ => none)))))), (gm 7, .inl (kA, 6, .inr (.inr (.inr (.inr F))))), (rr, .inl (kY, 5, .inl (fun _ => 0))), (o, .inl (kL, 1, .inr (.inl (fun _ => 0)))), (hm, .inr (12, u_11))] := hD
  refine lv_istore (lv' := [(6, .int r_10), (5, .int 1), (4, .int 0), (3, .ref o), (2, .ref hm), (1, .ref h0), (0, .ref b)]) hx hb dL_law_1910 hl (by decide) rfl (fun ls hl => ?_)
  refine lv_aload_n hx hb dL_law_1912 rfl (lv_at hl 4 rfl) ?_
  have f_13 := free_of (wc := [(hm, .inr (12, u_11))]) hD hS hA [4] rfl
  refine va_calli (va_runV (As := []) (rest := []) ⟨hx, hb, hml, hown, hts⟩ (c_thrown l D a1 a2 H.size hm u_11 1 h_12) (cwV 0 hts (gV w_458 w_459 w_460 w_244 w_461) rfl rfl rfl (by decide +kernel) ⟨Nat.le_of_ble_eq_true rfl, Nat.le_of_ble_eq_true rfl⟩) (pre_V hK hP hD hS hA hE [4] rfl (by decide) rfl [] rfl (ci := 12) (q0 := 4) rfl rfl) rfl rfl hl.1 rfl (lv_room (Nat.le_of_ble_eq_true rfl)) dL_law_1913 ⟨Nat.le_of_ble_eq_true rfl, Nat.le_of_ble_eq_true rfl⟩) hS (fun q _ h => f_13 q h) f_13 (fun r_14 u_15 t H1 locs ht hvm h_16 hB hz1 hk1 hS => ?_)
  obtain ⟨hP, hD⟩ := join (wc := [(hm, .inr (12, u_11))]) (wr := [(gn 0, .inl (kP, 6, .inr (.inr (.inr (.inr (fun _ => none)))))), (gm 7, .inl (kA, 6, .inr (.inr (.inr (.inr F))))), (rr, .inl (kY, 5, .inl (fun _ => 0))), (o, .inl (kL, 1, .inr (.inl (fun _ => 0))))]) (w1 := [(hm, .inr (12, u_11))]) hP hD f_13 [4] [0, 1, 2, 3] rfl rfl (by decide) (by decide) hk1 ht hB
  generalize H1 = H at hP hS ⊢
  have hP : va_P D vwCl [(gn 0, .inl (kP, 6, .inr (.inr (.inr (.inr (fun _ => none)))))), (gm 7, .inl (kA, 6, .inr (.inr (.inr (.inr F))))), (rr, .inl (kY, 5, .inl (fun _ => 0))), (o, .inl (kL, 1, .inr (.inl (fun _ => 0)))), (hm, .inr (12, u_11))] H := hP
  have hD : va_D (fun q : Nat => s.heap.size ≤ q) [(gn 0, .inl (kP, 6, .inr (.inr (.inr (.inr (fun _ => none)))))), (gm 7, .inl (kA, 6, .inr (.inr (.inr (.inr F))))), (rr, .inl (kY, 5, .inl (fun _ => 0))), (o, .inl (kL, 1, .inr (.inl (fun _ => 0)))), (hm, .inr (12, u_11))] := hD
  obtain rfl := h_16
  refine lv_iload hx hb dL_law_1916 (lv_at hl 1 rfl) ?_
  refine lv_icmp_eq (tgt := 1923) hx hb dL_law_1918 (by decide) (fun _ => ?_) (fun c => absurd (by decide) c)
  refine lv_iload hx hb dL_law_1923 (lv_at hl 1 rfl) ?_
  refine lv_if_ne (tgt := 1940) hx hb dL_law_1925 (by decide) (fun _ => ?_) (fun c => absurd c (by decide))
  refine lv_goto (tgt := 3913) hx hb dL_law_1940 (by decide) ?_
  exact law_tail hx hb hr_ hlocks hX hbl hS (Nat.le_of_ble_eq_true rfl) (Nat.le_of_ble_eq_true rfl) (lv_sub hl [2, 6] rfl)
set_option maxRecDepth 100000 in
set_option maxHeartbeats 4000000 in
theorem case_23 {p : Program} {l : Launch} (hl9 : l.stackTraces = false) {e : Env} {s : State} {m : MethodId} {below : List Frame} {meth : Method} {c : Code} {D : va_G} {a1 a2 b : Nat} {xs : Nat → Int32} {H : Heap} {locs : List Loc} {ls : Array Slot} (h0 h1 h2 : Nat) (g gn gb : Nat → Nat) (kP : ClassId) (hm hr rr : Nat) (gm : Nat → Nat) (kI kA kY : ClassId) (F : Nat → Option Nat) (o : Nat) (kL : ClassId) (hG : LawSt D a1 a2 p s m meth c b xs H locs ls h0 h1 h2 g gn gb kP hm hr rr gm kI kA kY F o kL) : W p l e room_1 s m #[Value.ref b] below meth c H locs 5338 65502 (lw_Z below #[Value.ref b] s) (F0 m 1943 ls []) := by
  obtain ⟨hx, hb, hr_, hml, hown, hts, hX, hbl, hlocks, hP, hK, hD, hA, hE, hS, hF, hl⟩ := hG
  have hbA : ¬ (fun q : Nat => s.heap.size ≤ q) b := Nat.not_le.mpr hbl
  refine lv_aload_n hx hb dL_law_1943 rfl (lv_at hl 3 rfl) ?_
  refine lv_aload_n hx hb dL_law_1944 rfl (lv_at hl 4 rfl) ?_
  refine lv_iload hx hb dL_law_1945 (lv_at hl 0 rfl) ?_
  refine lv_iconst (v := 1) hx hb dL_law_1947 (by decide) ?_
  refine lv_iadd hx hb dL_law_1948 ?_
  refine lv_topi (fun x_1 ex_1 => ?_)
  obtain rfl : x_1 = 1 := ex_1.trans (by decide)
  refine va_sld hx hb hX hbl hbA hS (i := 1) (by unfold vp_in; decide) dL_law_1949 ?_
  refine W.eq (g2 := F0 m 1950 ls [.int (xs 1), .ref h0]) rfl ?_
  refine lv_aload_n hx hb dL_law_1950 rfl (lv_at hl 4 rfl) ?_
  refine lv_iload hx hb dL_law_1951 (lv_at hl 0 rfl) ?_
  refine lv_iconst (v := 2) hx hb dL_law_1953 (by decide) ?_
  refine lv_iadd hx hb dL_law_1954 ?_
  refine lv_topi (fun x_2 ex_2 => ?_)
  obtain rfl : x_2 = 2 := ex_2.trans (by decide)
  refine va_sld hx hb hX hbl hbA hS (i := 2) (by unfold vp_in; decide) dL_law_1955 ?_
  refine W.eq (g2 := F0 m 1956 ls [.int (xs 2), .int (xs 1), .ref h0]) rfl ?_
  refine lv_aload_n hx hb dL_law_1956 rfl (lv_at hl 1 rfl) ?_
  have f_3 := free_of (wc := [(h0, .inr (11, [.ref h1, .ref h2, .ref (g 2), .ref (g 3), .ref (g 4), .ref (g 5), .ref (g 6), .int 0, .int 0, .int 0, .int 0])), (h1, .inr (6, [.ref (gn 0), .int 0, .ref (gn 2), .ref (gn 3), .int 0, .ref (gn 5), .int 0, .int 0])), (h2, .inr (1, [.ref h1, .ref (gb 1), .int 0]))]) hD hS hA [0, 1, 2] rfl
  refine vx_calli (vx_runSX (As := [.ref h0, .int (xs 1), .int (xs 2), .ref o]) (rest := []) ⟨hx, hb, hml, hown, hts⟩ (c_h_open l hl9 D a1 a2 H.size h0 h1 h2 g gn gb (xs 1) (xs 2) o) (vx_cwSW 4 hts (gSW w_595 w_596 w_450 w_597) rfl rfl rfl (by decide +kernel) ⟨Nat.le_of_ble_eq_true rfl, Nat.le_of_ble_eq_true rfl⟩) (pre_S hK hP hD hS hA hE [0, 1, 2] rfl (by decide) rfl [] rfl) rfl rfl hl.1 rfl (lv_room (Nat.le_of_ble_eq_true rfl)) dL_law_1957 ⟨Nat.le_of_ble_eq_true rfl, Nat.le_of_ble_eq_true rfl⟩) hS (fun q _ h => f_3 q h) f_3 (fun q _ h => f_3 q h) (fun E ce q9 u9 t H locs ht hvm hw hB hz1 hk1 hS hce hcv hcl => False.elim hw) (fun r_4 u_5 t H1 locs ht hvm h_6 hB hz1 hk1 hS => ?_)
  obtain ⟨hP, hD⟩ := join (wc := [(h0, .inr (11, [.ref h1, .ref h2, .ref (g 2), .ref (g 3), .ref (g 4), .ref (g 5), .ref (g 6), .int 0, .int 0, .int 0, .int 0])), (h1, .inr (6, [.ref (gn 0), .int 0, .ref (gn 2), .ref (gn 3), .int 0, .ref (gn 5), .int 0, .int 0])), (h2, .inr (1, [.ref h1, .ref (gb 1), .int 0]))]) (wr := [(gn 0, .inl (kP, 6, .inr (.inr (.inr (.inr (fun _ => none)))))), (hm, .inr (12, [.int 0, .ref hr, .int 0, .int 0, .int 0, .int 0, .int 0, .ref (gm 7), .ref (gm 8), .ref (gm 9), .ref (gm 10), .ref (gm 11), .ref (gm 12), .ref (gm 13), .ref (gm 14), .int 0, .ref (gm 16), .int 0, .int 0, .int 0, .ref (gm 20), .ref (gm 21), .int 0, .int 0, .int 0, .int 0, .int 0, .int 0, .ref (gm 28), .ref (gm 29)])), (hr, .inl (kI, 2, .inl (fun _ => 0))), (gm 7, .inl (kA, 6, .inr (.inr (.inr (.inr F))))), (rr, .inl (kY, 5, .inl (fun _ => 0))), (o, .inl (kL, 1, .inr (.inl (fun _ => 0))))]) (w1 := []) hP hD f_3 [0, 1, 2] [3, 4, 5, 6, 7, 8] rfl rfl (by decide) (by decide) hk1 ht wat_nil
  generalize H1 = H at hP hS ⊢
  have hP : va_P D vwCl [(gn 0, .inl (kP, 6, .inr (.inr (.inr (.inr (fun _ => none)))))), (hm, .inr (12, [.int 0, .ref hr, .int 0, .int 0, .int 0, .int 0, .int 0, .ref (gm 7), .ref (gm 8), .ref (gm 9), .ref (gm 10), .ref (gm 11), .ref (gm 12), .ref (gm 13), .ref (gm 14), .int 0, .ref (gm 16), .int 0, .int 0, .int 0, .ref (gm 20), .ref (gm 21), .int 0, .int 0, .int 0, .int 0, .int 0, .int 0, .ref (gm 28), .ref (gm 29)])), (hr, .inl (kI, 2, .inl (fun _ => 0))), (gm 7, .inl (kA, 6, .inr (.inr (.inr (.inr F))))), (rr, .inl (kY, 5, .inl (fun _ => 0))), (o, .inl (kL, 1, .inr (.inl (fun _ => 0))))] H := hP
  have hD : va_D (fun q : Nat => s.heap.size ≤ q) [(gn 0, .inl (kP, 6, .inr (.inr (.inr (.inr (fun _ => none)))))), (hm, .inr (12, [.int 0, .ref hr, .int 0, .int 0, .int 0, .int 0, .int 0, .ref (gm 7), .ref (gm 8), .ref (gm 9), .ref (gm 10), .ref (gm 11), .ref (gm 12), .ref (gm 13), .ref (gm 14), .int 0, .ref (gm 16), .int 0, .int 0, .int 0, .ref (gm 20), .ref (gm 21), .int 0, .int 0, .int 0, .int 0, .int 0, .int 0, .ref (gm 28), .ref (gm 29)])), (hr, .inl (kI, 2, .inl (fun _ => 0))), (gm 7, .inl (kA, 6, .inr (.inr (.inr (.inr F))))), (rr, .inl (kY, 5, .inl (fun _ => 0))), (o, .inl (kL, 1, .inr (.inl (fun _ => 0))))] := hD
  obtain rfl := h_6
  refine lv_istore (lv' := [(5, .int 1), (4, .int 0), (3, .ref o), (2, .ref hm), (1, .ref h0), (0, .ref b)]) hx hb dL_law_1960 hl (by decide) rfl (fun ls hl => ?_)
  refine lv_aload_n hx hb dL_law_1962 rfl (lv_at hl 3 rfl) ?_
  refine lv_aload_n hx hb dL_law_1963 rfl (lv_at hl 5 rfl) ?_
  refine lv_iload hx hb dL_law_1964 (lv_at hl 1 rfl) ?_
  refine lv_iconst (v := 1) hx hb dL_law_1966 (by decide) ?_
  refine lv_iadd hx hb dL_law_1967 ?_
  refine lv_topi (fun x_7 ex_7 => ?_)
  obtain rfl : x_7 = 1 := ex_7.trans (by decide)
  refine va_sld hx hb hX hbl hbA hS (i := 1) (by unfold vp_in; decide) dL_law_1968 ?_
  refine W.eq (g2 := F0 m 1969 ls [.int (xs 1), .ref hm]) rfl ?_
  refine lv_aload_n hx hb dL_law_1969 rfl (lv_at hl 5 rfl) ?_
  refine lv_iload hx hb dL_law_1970 (lv_at hl 1 rfl) ?_
  refine lv_iconst (v := 2) hx hb dL_law_1972 (by decide) ?_
  refine lv_iadd hx hb dL_law_1973 ?_
  refine lv_topi (fun x_8 ex_8 => ?_)
  obtain rfl : x_8 = 2 := ex_8.trans (by decide)
  refine va_sld hx hb hX hbl hbA hS (i := 2) (by unfold vp_in; decide) dL_law_1974 ?_
  refine W.eq (g2 := F0 m 1975 ls [.int (xs 2), .int (xs 1), .ref hm]) rfl ?_
  have f_9 := free_of (wc := [(hm, .inr (12, [.int 0, .ref hr, .int 0, .int 0, .int 0, .int 0, .int 0, .ref (gm 7), .ref (gm 8), .ref (gm 9), .ref (gm 10), .ref (gm 11), .ref (gm 12), .ref (gm 13), .ref (gm 14), .int 0, .ref (gm 16), .int 0, .int 0, .int 0, .ref (gm 20), .ref (gm 21), .int 0, .int 0, .int 0, .int 0, .int 0, .int 0, .ref (gm 28), .ref (gm 29)])), (hr, .inl (kI, 2, .inl (fun _ => 0)))]) hD hS hA [1, 2] rfl
  refine va_calli (va_runV (As := [.int (xs 1), .int (xs 2)]) (rest := []) ⟨hx, hb, hml, hown, hts⟩ (c_m_open l D a1 a2 H.size hm hr gm kI (xs 1) (xs 2)) (cwV 2 hts (gV w_598 w_599 w_600 w_244 w_601) rfl rfl rfl (by decide +kernel) ⟨Nat.le_of_ble_eq_true rfl, Nat.le_of_ble_eq_true rfl⟩) (pre_V hK hP hD hS hA hE [1, 2] rfl (by decide) rfl [1] rfl (ci := 12) (q0 := 1) rfl rfl) rfl rfl hl.1 rfl (lv_room (Nat.le_of_ble_eq_true rfl)) dL_law_1975 ⟨Nat.le_of_ble_eq_true rfl, Nat.le_of_ble_eq_true rfl⟩) hS (fun q _ h => f_9 q h) f_9 (fun r_10 u_11 t H1 locs ht hvm h_12 hB hz1 hk1 hS => ?_)
  obtain ⟨hP, hD⟩ := join (wc := [(hm, .inr (12, [.int 0, .ref hr, .int 0, .int 0, .int 0, .int 0, .int 0, .ref (gm 7), .ref (gm 8), .ref (gm 9), .ref (gm 10), .ref (gm 11), .ref (gm 12), .ref (gm 13), .ref (gm 14), .int 0, .ref (gm 16), .int 0, .int 0, .int 0, .ref (gm 20), .ref (gm 21), .int 0, .int 0, .int 0, .int 0, .int 0, .int 0, .ref (gm 28), .ref (gm 29)])), (hr, .inl (kI, 2, .inl (fun _ => 0)))]) (wr := [(gn 0, .inl (kP, 6, .inr (.inr (.inr (.inr (fun _ => none)))))), (gm 7, .inl (kA, 6, .inr (.inr (.inr (.inr F))))), (rr, .inl (kY, 5, .inl (fun _ => 0))), (o, .inl (kL, 1, .inr (.inl (fun _ => 0))))]) (w1 := [(hm, .inr (12, u_11))]) hP hD f_9 [1, 2] [0, 3, 4, 5] rfl rfl (by decide) (by decide) hk1 ht hB
  generalize H1 = H at hP hS ⊢
  have hP : va_P D vwCl [(gn 0, .inl (kP, 6, .inr (.inr (.inr (.inr (fun _ => none)))))), (gm 7, .inl (kA, 6, .inr (.inr (.inr (.inr F))))), (rr, .inl (kY, 5, .inl (fun _ => 0))), (o, .inl (kL, 1, .inr (.inl (fun _ => 0)))), (hm, .inr (12, u_11))] H := hP
  have hD : va_D (fun q : Nat => s.heap.size ≤ q) [(gn 0, .inl (kP, 6, .inr (.inr (.inr (.inr (fun _ => none)))))), (gm 7, .inl (kA, 6, .inr (.inr (.inr (.inr F))))), (rr, .inl (kY, 5, .inl (fun _ => 0))), (o, .inl (kL, 1, .inr (.inl (fun _ => 0)))), (hm, .inr (12, u_11))] := hD
  refine lv_istore (lv' := [(6, .int r_10), (5, .int 1), (4, .int 0), (3, .ref o), (2, .ref hm), (1, .ref h0), (0, .ref b)]) hx hb dL_law_1978 hl (by decide) rfl (fun ls hl => ?_)
  refine lv_aload_n hx hb dL_law_1980 rfl (lv_at hl 4 rfl) ?_
  have f_13 := free_of (wc := [(hm, .inr (12, u_11))]) hD hS hA [4] rfl
  refine va_calli (va_runV (As := []) (rest := []) ⟨hx, hb, hml, hown, hts⟩ (c_thrown l D a1 a2 H.size hm u_11 1 h_12) (cwV 0 hts (gV w_458 w_459 w_460 w_244 w_461) rfl rfl rfl (by decide +kernel) ⟨Nat.le_of_ble_eq_true rfl, Nat.le_of_ble_eq_true rfl⟩) (pre_V hK hP hD hS hA hE [4] rfl (by decide) rfl [] rfl (ci := 12) (q0 := 4) rfl rfl) rfl rfl hl.1 rfl (lv_room (Nat.le_of_ble_eq_true rfl)) dL_law_1981 ⟨Nat.le_of_ble_eq_true rfl, Nat.le_of_ble_eq_true rfl⟩) hS (fun q _ h => f_13 q h) f_13 (fun r_14 u_15 t H1 locs ht hvm h_16 hB hz1 hk1 hS => ?_)
  obtain ⟨hP, hD⟩ := join (wc := [(hm, .inr (12, u_11))]) (wr := [(gn 0, .inl (kP, 6, .inr (.inr (.inr (.inr (fun _ => none)))))), (gm 7, .inl (kA, 6, .inr (.inr (.inr (.inr F))))), (rr, .inl (kY, 5, .inl (fun _ => 0))), (o, .inl (kL, 1, .inr (.inl (fun _ => 0))))]) (w1 := [(hm, .inr (12, u_11))]) hP hD f_13 [4] [0, 1, 2, 3] rfl rfl (by decide) (by decide) hk1 ht hB
  generalize H1 = H at hP hS ⊢
  have hP : va_P D vwCl [(gn 0, .inl (kP, 6, .inr (.inr (.inr (.inr (fun _ => none)))))), (gm 7, .inl (kA, 6, .inr (.inr (.inr (.inr F))))), (rr, .inl (kY, 5, .inl (fun _ => 0))), (o, .inl (kL, 1, .inr (.inl (fun _ => 0)))), (hm, .inr (12, u_11))] H := hP
  have hD : va_D (fun q : Nat => s.heap.size ≤ q) [(gn 0, .inl (kP, 6, .inr (.inr (.inr (.inr (fun _ => none)))))), (gm 7, .inl (kA, 6, .inr (.inr (.inr (.inr F))))), (rr, .inl (kY, 5, .inl (fun _ => 0))), (o, .inl (kL, 1, .inr (.inl (fun _ => 0)))), (hm, .inr (12, u_11))] := hD
  obtain rfl := h_16
  refine lv_iload hx hb dL_law_1984 (lv_at hl 1 rfl) ?_
  refine lv_icmp_eq (tgt := 1991) hx hb dL_law_1986 (by decide) (fun _ => ?_) (fun c => absurd (by decide) c)
  refine lv_iload hx hb dL_law_1991 (lv_at hl 1 rfl) ?_
  refine lv_if_ne (tgt := 2015) hx hb dL_law_1993 (by decide) (fun _ => ?_) (fun c => absurd c (by decide))
  refine lv_goto (tgt := 3913) hx hb dL_law_2015 (by decide) ?_
  exact law_tail hx hb hr_ hlocks hX hbl hS (Nat.le_of_ble_eq_true rfl) (Nat.le_of_ble_eq_true rfl) (lv_sub hl [2, 6] rfl)
set_option maxRecDepth 100000 in
set_option maxHeartbeats 4000000 in
theorem case_24 {p : Program} {l : Launch} (hl9 : l.stackTraces = false) {e : Env} {s : State} {m : MethodId} {below : List Frame} {meth : Method} {c : Code} {D : va_G} {a1 a2 b : Nat} {xs : Nat → Int32} {H : Heap} {locs : List Loc} {ls : Array Slot} (h0 h1 h2 : Nat) (g gn gb : Nat → Nat) (kP : ClassId) (hm hr rr : Nat) (gm : Nat → Nat) (kI kA kY : ClassId) (F : Nat → Option Nat) (o : Nat) (kL : ClassId) (hG : LawSt D a1 a2 p s m meth c b xs H locs ls h0 h1 h2 g gn gb kP hm hr rr gm kI kA kY F o kL) : W p l e room_1 s m #[Value.ref b] below meth c H locs 5338 65502 (lw_Z below #[Value.ref b] s) (F0 m 2018 ls []) := by
  obtain ⟨hx, hb, hr_, hml, hown, hts, hX, hbl, hlocks, hP, hK, hD, hA, hE, hS, hF, hl⟩ := hG
  have hbA : ¬ (fun q : Nat => s.heap.size ≤ q) b := Nat.not_le.mpr hbl
  refine lv_aload_n hx hb dL_law_2018 rfl (lv_at hl 3 rfl) ?_
  refine lv_aload_n hx hb dL_law_2019 rfl (lv_at hl 4 rfl) ?_
  refine lv_iload hx hb dL_law_2020 (lv_at hl 0 rfl) ?_
  refine lv_iconst (v := 1) hx hb dL_law_2022 (by decide) ?_
  refine lv_iadd hx hb dL_law_2023 ?_
  refine lv_topi (fun x_1 ex_1 => ?_)
  obtain rfl : x_1 = 1 := ex_1.trans (by decide)
  refine va_sld hx hb hX hbl hbA hS (i := 1) (by unfold vp_in; decide) dL_law_2024 ?_
  refine W.eq (g2 := F0 m 2025 ls [.int (xs 1), .ref h0]) rfl ?_
  refine lv_aload_n hx hb dL_law_2025 rfl (lv_at hl 4 rfl) ?_
  refine lv_iload hx hb dL_law_2026 (lv_at hl 0 rfl) ?_
  refine lv_iconst (v := 2) hx hb dL_law_2028 (by decide) ?_
  refine lv_iadd hx hb dL_law_2029 ?_
  refine lv_topi (fun x_2 ex_2 => ?_)
  obtain rfl : x_2 = 2 := ex_2.trans (by decide)
  refine va_sld hx hb hX hbl hbA hS (i := 2) (by unfold vp_in; decide) dL_law_2030 ?_
  refine W.eq (g2 := F0 m 2031 ls [.int (xs 2), .int (xs 1), .ref h0]) rfl ?_
  refine lv_aload_n hx hb dL_law_2031 rfl (lv_at hl 1 rfl) ?_
  have f_3 := free_of (wc := [(h0, .inr (11, [.ref h1, .ref h2, .ref (g 2), .ref (g 3), .ref (g 4), .ref (g 5), .ref (g 6), .int 0, .int 0, .int 0, .int 0])), (h1, .inr (6, [.ref (gn 0), .int 0, .ref (gn 2), .ref (gn 3), .int 0, .ref (gn 5), .int 0, .int 0])), (h2, .inr (1, [.ref h1, .ref (gb 1), .int 0]))]) hD hS hA [0, 1, 2] rfl
  refine vx_calli (vx_runSX (As := [.ref h0, .int (xs 1), .int (xs 2), .ref o]) (rest := []) ⟨hx, hb, hml, hown, hts⟩ (c_h_next l hl9 D a1 a2 H.size h0 h1 h2 g gn gb (xs 1) (xs 2) o) (vx_cwSW 4 hts (gSW w_602 w_603 w_450 w_604) rfl rfl rfl (by decide +kernel) ⟨Nat.le_of_ble_eq_true rfl, Nat.le_of_ble_eq_true rfl⟩) (pre_S hK hP hD hS hA hE [0, 1, 2] rfl (by decide) rfl [] rfl) rfl rfl hl.1 rfl (lv_room (Nat.le_of_ble_eq_true rfl)) dL_law_2032 ⟨Nat.le_of_ble_eq_true rfl, Nat.le_of_ble_eq_true rfl⟩) hS (fun q _ h => f_3 q h) f_3 (fun q _ h => f_3 q h) (fun E ce q9 u9 t H locs ht hvm hw hB hz1 hk1 hS hce hcv hcl => False.elim hw) (fun r_4 u_5 t H1 locs ht hvm h_6 hB hz1 hk1 hS => ?_)
  obtain ⟨hP, hD⟩ := join (wc := [(h0, .inr (11, [.ref h1, .ref h2, .ref (g 2), .ref (g 3), .ref (g 4), .ref (g 5), .ref (g 6), .int 0, .int 0, .int 0, .int 0])), (h1, .inr (6, [.ref (gn 0), .int 0, .ref (gn 2), .ref (gn 3), .int 0, .ref (gn 5), .int 0, .int 0])), (h2, .inr (1, [.ref h1, .ref (gb 1), .int 0]))]) (wr := [(gn 0, .inl (kP, 6, .inr (.inr (.inr (.inr (fun _ => none)))))), (hm, .inr (12, [.int 0, .ref hr, .int 0, .int 0, .int 0, .int 0, .int 0, .ref (gm 7), .ref (gm 8), .ref (gm 9), .ref (gm 10), .ref (gm 11), .ref (gm 12), .ref (gm 13), .ref (gm 14), .int 0, .ref (gm 16), .int 0, .int 0, .int 0, .ref (gm 20), .ref (gm 21), .int 0, .int 0, .int 0, .int 0, .int 0, .int 0, .ref (gm 28), .ref (gm 29)])), (hr, .inl (kI, 2, .inl (fun _ => 0))), (gm 7, .inl (kA, 6, .inr (.inr (.inr (.inr F))))), (rr, .inl (kY, 5, .inl (fun _ => 0))), (o, .inl (kL, 1, .inr (.inl (fun _ => 0))))]) (w1 := []) hP hD f_3 [0, 1, 2] [3, 4, 5, 6, 7, 8] rfl rfl (by decide) (by decide) hk1 ht wat_nil
  generalize H1 = H at hP hS ⊢
  have hP : va_P D vwCl [(gn 0, .inl (kP, 6, .inr (.inr (.inr (.inr (fun _ => none)))))), (hm, .inr (12, [.int 0, .ref hr, .int 0, .int 0, .int 0, .int 0, .int 0, .ref (gm 7), .ref (gm 8), .ref (gm 9), .ref (gm 10), .ref (gm 11), .ref (gm 12), .ref (gm 13), .ref (gm 14), .int 0, .ref (gm 16), .int 0, .int 0, .int 0, .ref (gm 20), .ref (gm 21), .int 0, .int 0, .int 0, .int 0, .int 0, .int 0, .ref (gm 28), .ref (gm 29)])), (hr, .inl (kI, 2, .inl (fun _ => 0))), (gm 7, .inl (kA, 6, .inr (.inr (.inr (.inr F))))), (rr, .inl (kY, 5, .inl (fun _ => 0))), (o, .inl (kL, 1, .inr (.inl (fun _ => 0))))] H := hP
  have hD : va_D (fun q : Nat => s.heap.size ≤ q) [(gn 0, .inl (kP, 6, .inr (.inr (.inr (.inr (fun _ => none)))))), (hm, .inr (12, [.int 0, .ref hr, .int 0, .int 0, .int 0, .int 0, .int 0, .ref (gm 7), .ref (gm 8), .ref (gm 9), .ref (gm 10), .ref (gm 11), .ref (gm 12), .ref (gm 13), .ref (gm 14), .int 0, .ref (gm 16), .int 0, .int 0, .int 0, .ref (gm 20), .ref (gm 21), .int 0, .int 0, .int 0, .int 0, .int 0, .int 0, .ref (gm 28), .ref (gm 29)])), (hr, .inl (kI, 2, .inl (fun _ => 0))), (gm 7, .inl (kA, 6, .inr (.inr (.inr (.inr F))))), (rr, .inl (kY, 5, .inl (fun _ => 0))), (o, .inl (kL, 1, .inr (.inl (fun _ => 0))))] := hD
  obtain rfl := h_6
  refine lv_istore (lv' := [(5, .int 1), (4, .int 0), (3, .ref o), (2, .ref hm), (1, .ref h0), (0, .ref b)]) hx hb dL_law_2035 hl (by decide) rfl (fun ls hl => ?_)
  refine lv_aload_n hx hb dL_law_2037 rfl (lv_at hl 3 rfl) ?_
  refine lv_aload_n hx hb dL_law_2038 rfl (lv_at hl 5 rfl) ?_
  refine lv_iload hx hb dL_law_2039 (lv_at hl 1 rfl) ?_
  refine lv_iconst (v := 1) hx hb dL_law_2041 (by decide) ?_
  refine lv_iadd hx hb dL_law_2042 ?_
  refine lv_topi (fun x_7 ex_7 => ?_)
  obtain rfl : x_7 = 1 := ex_7.trans (by decide)
  refine va_sld hx hb hX hbl hbA hS (i := 1) (by unfold vp_in; decide) dL_law_2043 ?_
  refine W.eq (g2 := F0 m 2044 ls [.int (xs 1), .ref hm]) rfl ?_
  refine lv_aload_n hx hb dL_law_2044 rfl (lv_at hl 5 rfl) ?_
  refine lv_iload hx hb dL_law_2045 (lv_at hl 1 rfl) ?_
  refine lv_iconst (v := 2) hx hb dL_law_2047 (by decide) ?_
  refine lv_iadd hx hb dL_law_2048 ?_
  refine lv_topi (fun x_8 ex_8 => ?_)
  obtain rfl : x_8 = 2 := ex_8.trans (by decide)
  refine va_sld hx hb hX hbl hbA hS (i := 2) (by unfold vp_in; decide) dL_law_2049 ?_
  refine W.eq (g2 := F0 m 2050 ls [.int (xs 2), .int (xs 1), .ref hm]) rfl ?_
  have f_9 := free_of (wc := [(hm, .inr (12, [.int 0, .ref hr, .int 0, .int 0, .int 0, .int 0, .int 0, .ref (gm 7), .ref (gm 8), .ref (gm 9), .ref (gm 10), .ref (gm 11), .ref (gm 12), .ref (gm 13), .ref (gm 14), .int 0, .ref (gm 16), .int 0, .int 0, .int 0, .ref (gm 20), .ref (gm 21), .int 0, .int 0, .int 0, .int 0, .int 0, .int 0, .ref (gm 28), .ref (gm 29)])), (hr, .inl (kI, 2, .inl (fun _ => 0)))]) hD hS hA [1, 2] rfl
  refine va_calli (va_runV (As := [.int (xs 1), .int (xs 2)]) (rest := []) ⟨hx, hb, hml, hown, hts⟩ (c_m_next l D a1 a2 H.size hm hr gm kI (xs 1) (xs 2)) (cwV 2 hts (gV w_605 w_606 w_607 w_244 w_608) rfl rfl rfl (by decide +kernel) ⟨Nat.le_of_ble_eq_true rfl, Nat.le_of_ble_eq_true rfl⟩) (pre_V hK hP hD hS hA hE [1, 2] rfl (by decide) rfl [1] rfl (ci := 12) (q0 := 1) rfl rfl) rfl rfl hl.1 rfl (lv_room (Nat.le_of_ble_eq_true rfl)) dL_law_2050 ⟨Nat.le_of_ble_eq_true rfl, Nat.le_of_ble_eq_true rfl⟩) hS (fun q _ h => f_9 q h) f_9 (fun r_10 u_11 t H1 locs ht hvm h_12 hB hz1 hk1 hS => ?_)
  obtain ⟨hP, hD⟩ := join (wc := [(hm, .inr (12, [.int 0, .ref hr, .int 0, .int 0, .int 0, .int 0, .int 0, .ref (gm 7), .ref (gm 8), .ref (gm 9), .ref (gm 10), .ref (gm 11), .ref (gm 12), .ref (gm 13), .ref (gm 14), .int 0, .ref (gm 16), .int 0, .int 0, .int 0, .ref (gm 20), .ref (gm 21), .int 0, .int 0, .int 0, .int 0, .int 0, .int 0, .ref (gm 28), .ref (gm 29)])), (hr, .inl (kI, 2, .inl (fun _ => 0)))]) (wr := [(gn 0, .inl (kP, 6, .inr (.inr (.inr (.inr (fun _ => none)))))), (gm 7, .inl (kA, 6, .inr (.inr (.inr (.inr F))))), (rr, .inl (kY, 5, .inl (fun _ => 0))), (o, .inl (kL, 1, .inr (.inl (fun _ => 0))))]) (w1 := [(hm, .inr (12, u_11))]) hP hD f_9 [1, 2] [0, 3, 4, 5] rfl rfl (by decide) (by decide) hk1 ht hB
  generalize H1 = H at hP hS ⊢
  have hP : va_P D vwCl [(gn 0, .inl (kP, 6, .inr (.inr (.inr (.inr (fun _ => none)))))), (gm 7, .inl (kA, 6, .inr (.inr (.inr (.inr F))))), (rr, .inl (kY, 5, .inl (fun _ => 0))), (o, .inl (kL, 1, .inr (.inl (fun _ => 0)))), (hm, .inr (12, u_11))] H := hP
  have hD : va_D (fun q : Nat => s.heap.size ≤ q) [(gn 0, .inl (kP, 6, .inr (.inr (.inr (.inr (fun _ => none)))))), (gm 7, .inl (kA, 6, .inr (.inr (.inr (.inr F))))), (rr, .inl (kY, 5, .inl (fun _ => 0))), (o, .inl (kL, 1, .inr (.inl (fun _ => 0)))), (hm, .inr (12, u_11))] := hD
  refine lv_istore (lv' := [(6, .int r_10), (5, .int 1), (4, .int 0), (3, .ref o), (2, .ref hm), (1, .ref h0), (0, .ref b)]) hx hb dL_law_2053 hl (by decide) rfl (fun ls hl => ?_)
  refine lv_aload_n hx hb dL_law_2055 rfl (lv_at hl 4 rfl) ?_
  have f_13 := free_of (wc := [(hm, .inr (12, u_11))]) hD hS hA [4] rfl
  refine va_calli (va_runV (As := []) (rest := []) ⟨hx, hb, hml, hown, hts⟩ (c_thrown l D a1 a2 H.size hm u_11 1 h_12) (cwV 0 hts (gV w_458 w_459 w_460 w_244 w_461) rfl rfl rfl (by decide +kernel) ⟨Nat.le_of_ble_eq_true rfl, Nat.le_of_ble_eq_true rfl⟩) (pre_V hK hP hD hS hA hE [4] rfl (by decide) rfl [] rfl (ci := 12) (q0 := 4) rfl rfl) rfl rfl hl.1 rfl (lv_room (Nat.le_of_ble_eq_true rfl)) dL_law_2056 ⟨Nat.le_of_ble_eq_true rfl, Nat.le_of_ble_eq_true rfl⟩) hS (fun q _ h => f_13 q h) f_13 (fun r_14 u_15 t H1 locs ht hvm h_16 hB hz1 hk1 hS => ?_)
  obtain ⟨hP, hD⟩ := join (wc := [(hm, .inr (12, u_11))]) (wr := [(gn 0, .inl (kP, 6, .inr (.inr (.inr (.inr (fun _ => none)))))), (gm 7, .inl (kA, 6, .inr (.inr (.inr (.inr F))))), (rr, .inl (kY, 5, .inl (fun _ => 0))), (o, .inl (kL, 1, .inr (.inl (fun _ => 0))))]) (w1 := [(hm, .inr (12, u_11))]) hP hD f_13 [4] [0, 1, 2, 3] rfl rfl (by decide) (by decide) hk1 ht hB
  generalize H1 = H at hP hS ⊢
  have hP : va_P D vwCl [(gn 0, .inl (kP, 6, .inr (.inr (.inr (.inr (fun _ => none)))))), (gm 7, .inl (kA, 6, .inr (.inr (.inr (.inr F))))), (rr, .inl (kY, 5, .inl (fun _ => 0))), (o, .inl (kL, 1, .inr (.inl (fun _ => 0)))), (hm, .inr (12, u_11))] H := hP
  have hD : va_D (fun q : Nat => s.heap.size ≤ q) [(gn 0, .inl (kP, 6, .inr (.inr (.inr (.inr (fun _ => none)))))), (gm 7, .inl (kA, 6, .inr (.inr (.inr (.inr F))))), (rr, .inl (kY, 5, .inl (fun _ => 0))), (o, .inl (kL, 1, .inr (.inl (fun _ => 0)))), (hm, .inr (12, u_11))] := hD
  obtain rfl := h_16
  refine lv_iload hx hb dL_law_2059 (lv_at hl 1 rfl) ?_
  refine lv_icmp_eq (tgt := 2066) hx hb dL_law_2061 (by decide) (fun _ => ?_) (fun c => absurd (by decide) c)
  refine lv_iload hx hb dL_law_2066 (lv_at hl 1 rfl) ?_
  refine lv_if_ne (tgt := 2083) hx hb dL_law_2068 (by decide) (fun _ => ?_) (fun c => absurd c (by decide))
  refine lv_goto (tgt := 3913) hx hb dL_law_2083 (by decide) ?_
  exact law_tail hx hb hr_ hlocks hX hbl hS (Nat.le_of_ble_eq_true rfl) (Nat.le_of_ble_eq_true rfl) (lv_sub hl [2, 6] rfl)
set_option maxRecDepth 100000 in
set_option maxHeartbeats 4000000 in
theorem case_25 {p : Program} {l : Launch} (hl9 : l.stackTraces = false) {e : Env} {s : State} {m : MethodId} {below : List Frame} {meth : Method} {c : Code} {D : va_G} {a1 a2 b : Nat} {xs : Nat → Int32} {H : Heap} {locs : List Loc} {ls : Array Slot} (h0 h1 h2 : Nat) (g gn gb : Nat → Nat) (kP : ClassId) (hm hr rr : Nat) (gm : Nat → Nat) (kI kA kY : ClassId) (F : Nat → Option Nat) (o : Nat) (kL : ClassId) (hG : LawSt D a1 a2 p s m meth c b xs H locs ls h0 h1 h2 g gn gb kP hm hr rr gm kI kA kY F o kL) : W p l e room_1 s m #[Value.ref b] below meth c H locs 5338 65502 (lw_Z below #[Value.ref b] s) (F0 m 2086 ls []) := by
  obtain ⟨hx, hb, hr_, hml, hown, hts, hX, hbl, hlocks, hP, hK, hD, hA, hE, hS, hF, hl⟩ := hG
  have hbA : ¬ (fun q : Nat => s.heap.size ≤ q) b := Nat.not_le.mpr hbl
  refine lv_aload_n hx hb dL_law_2086 rfl (lv_at hl 3 rfl) ?_
  refine lv_aload_n hx hb dL_law_2087 rfl (lv_at hl 4 rfl) ?_
  refine lv_iload hx hb dL_law_2088 (lv_at hl 0 rfl) ?_
  refine lv_iconst (v := 1) hx hb dL_law_2090 (by decide) ?_
  refine lv_iadd hx hb dL_law_2091 ?_
  refine lv_topi (fun x_1 ex_1 => ?_)
  obtain rfl : x_1 = 1 := ex_1.trans (by decide)
  refine va_sld hx hb hX hbl hbA hS (i := 1) (by unfold vp_in; decide) dL_law_2092 ?_
  refine W.eq (g2 := F0 m 2093 ls [.int (xs 1), .ref h0]) rfl ?_
  refine lv_aload_n hx hb dL_law_2093 rfl (lv_at hl 4 rfl) ?_
  refine lv_iload hx hb dL_law_2094 (lv_at hl 0 rfl) ?_
  refine lv_iconst (v := 2) hx hb dL_law_2096 (by decide) ?_
  refine lv_iadd hx hb dL_law_2097 ?_
  refine lv_topi (fun x_2 ex_2 => ?_)
  obtain rfl : x_2 = 2 := ex_2.trans (by decide)
  refine va_sld hx hb hX hbl hbA hS (i := 2) (by unfold vp_in; decide) dL_law_2098 ?_
  refine W.eq (g2 := F0 m 2099 ls [.int (xs 2), .int (xs 1), .ref h0]) rfl ?_
  refine lv_aload_n hx hb dL_law_2099 rfl (lv_at hl 4 rfl) ?_
  refine lv_iload hx hb dL_law_2100 (lv_at hl 0 rfl) ?_
  refine lv_iconst (v := 3) hx hb dL_law_2102 (by decide) ?_
  refine lv_iadd hx hb dL_law_2103 ?_
  refine lv_topi (fun x_3 ex_3 => ?_)
  obtain rfl : x_3 = 3 := ex_3.trans (by decide)
  refine va_sld hx hb hX hbl hbA hS (i := 3) (by unfold vp_in; decide) dL_law_2104 ?_
  refine W.eq (g2 := F0 m 2105 ls [.int (xs 3), .int (xs 2), .int (xs 1), .ref h0]) rfl ?_
  refine lv_aload_n hx hb dL_law_2105 rfl (lv_at hl 1 rfl) ?_
  have f_4 := free_of (wc := [(h0, .inr (11, [.ref h1, .ref h2, .ref (g 2), .ref (g 3), .ref (g 4), .ref (g 5), .ref (g 6), .int 0, .int 0, .int 0, .int 0])), (h1, .inr (6, [.ref (gn 0), .int 0, .ref (gn 2), .ref (gn 3), .int 0, .ref (gn 5), .int 0, .int 0])), (h2, .inr (1, [.ref h1, .ref (gb 1), .int 0]))]) hD hS hA [0, 1, 2] rfl
  refine vx_calli (vx_runSX (As := [.ref h0, .int (xs 1), .int (xs 2), .int (xs 3), .ref o]) (rest := []) ⟨hx, hb, hml, hown, hts⟩ (c_h_after l hl9 D a1 a2 H.size h0 h1 h2 g gn gb (xs 1) (xs 2) (xs 3) o) (vx_cwSW 5 hts (gSW w_609 w_610 w_450 w_611) rfl rfl rfl (by decide +kernel) ⟨Nat.le_of_ble_eq_true rfl, Nat.le_of_ble_eq_true rfl⟩) (pre_S hK hP hD hS hA hE [0, 1, 2] rfl (by decide) rfl [] rfl) rfl rfl hl.1 rfl (lv_room (Nat.le_of_ble_eq_true rfl)) dL_law_2106 ⟨Nat.le_of_ble_eq_true rfl, Nat.le_of_ble_eq_true rfl⟩) hS (fun q _ h => f_4 q h) f_4 (fun q _ h => f_4 q h) (fun E ce q9 u9 t H locs ht hvm hw hB hz1 hk1 hS hce hcv hcl => False.elim hw) (fun r_5 u_6 t H1 locs ht hvm h_7 hB hz1 hk1 hS => ?_)
  obtain ⟨hP, hD⟩ := join (wc := [(h0, .inr (11, [.ref h1, .ref h2, .ref (g 2), .ref (g 3), .ref (g 4), .ref (g 5), .ref (g 6), .int 0, .int 0, .int 0, .int 0])), (h1, .inr (6, [.ref (gn 0), .int 0, .ref (gn 2), .ref (gn 3), .int 0, .ref (gn 5), .int 0, .int 0])), (h2, .inr (1, [.ref h1, .ref (gb 1), .int 0]))]) (wr := [(gn 0, .inl (kP, 6, .inr (.inr (.inr (.inr (fun _ => none)))))), (hm, .inr (12, [.int 0, .ref hr, .int 0, .int 0, .int 0, .int 0, .int 0, .ref (gm 7), .ref (gm 8), .ref (gm 9), .ref (gm 10), .ref (gm 11), .ref (gm 12), .ref (gm 13), .ref (gm 14), .int 0, .ref (gm 16), .int 0, .int 0, .int 0, .ref (gm 20), .ref (gm 21), .int 0, .int 0, .int 0, .int 0, .int 0, .int 0, .ref (gm 28), .ref (gm 29)])), (hr, .inl (kI, 2, .inl (fun _ => 0))), (gm 7, .inl (kA, 6, .inr (.inr (.inr (.inr F))))), (rr, .inl (kY, 5, .inl (fun _ => 0))), (o, .inl (kL, 1, .inr (.inl (fun _ => 0))))]) (w1 := []) hP hD f_4 [0, 1, 2] [3, 4, 5, 6, 7, 8] rfl rfl (by decide) (by decide) hk1 ht wat_nil
  generalize H1 = H at hP hS ⊢
  have hP : va_P D vwCl [(gn 0, .inl (kP, 6, .inr (.inr (.inr (.inr (fun _ => none)))))), (hm, .inr (12, [.int 0, .ref hr, .int 0, .int 0, .int 0, .int 0, .int 0, .ref (gm 7), .ref (gm 8), .ref (gm 9), .ref (gm 10), .ref (gm 11), .ref (gm 12), .ref (gm 13), .ref (gm 14), .int 0, .ref (gm 16), .int 0, .int 0, .int 0, .ref (gm 20), .ref (gm 21), .int 0, .int 0, .int 0, .int 0, .int 0, .int 0, .ref (gm 28), .ref (gm 29)])), (hr, .inl (kI, 2, .inl (fun _ => 0))), (gm 7, .inl (kA, 6, .inr (.inr (.inr (.inr F))))), (rr, .inl (kY, 5, .inl (fun _ => 0))), (o, .inl (kL, 1, .inr (.inl (fun _ => 0))))] H := hP
  have hD : va_D (fun q : Nat => s.heap.size ≤ q) [(gn 0, .inl (kP, 6, .inr (.inr (.inr (.inr (fun _ => none)))))), (hm, .inr (12, [.int 0, .ref hr, .int 0, .int 0, .int 0, .int 0, .int 0, .ref (gm 7), .ref (gm 8), .ref (gm 9), .ref (gm 10), .ref (gm 11), .ref (gm 12), .ref (gm 13), .ref (gm 14), .int 0, .ref (gm 16), .int 0, .int 0, .int 0, .ref (gm 20), .ref (gm 21), .int 0, .int 0, .int 0, .int 0, .int 0, .int 0, .ref (gm 28), .ref (gm 29)])), (hr, .inl (kI, 2, .inl (fun _ => 0))), (gm 7, .inl (kA, 6, .inr (.inr (.inr (.inr F))))), (rr, .inl (kY, 5, .inl (fun _ => 0))), (o, .inl (kL, 1, .inr (.inl (fun _ => 0))))] := hD
  obtain rfl := h_7
  refine lv_istore (lv' := [(5, .int 1), (4, .int 0), (3, .ref o), (2, .ref hm), (1, .ref h0), (0, .ref b)]) hx hb dL_law_2109 hl (by decide) rfl (fun ls hl => ?_)
  refine lv_aload_n hx hb dL_law_2111 rfl (lv_at hl 3 rfl) ?_
  refine lv_aload_n hx hb dL_law_2112 rfl (lv_at hl 5 rfl) ?_
  refine lv_iload hx hb dL_law_2113 (lv_at hl 1 rfl) ?_
  refine lv_iconst (v := 1) hx hb dL_law_2115 (by decide) ?_
  refine lv_iadd hx hb dL_law_2116 ?_
  refine lv_topi (fun x_8 ex_8 => ?_)
  obtain rfl : x_8 = 1 := ex_8.trans (by decide)
  refine va_sld hx hb hX hbl hbA hS (i := 1) (by unfold vp_in; decide) dL_law_2117 ?_
  refine W.eq (g2 := F0 m 2118 ls [.int (xs 1), .ref hm]) rfl ?_
  refine lv_aload_n hx hb dL_law_2118 rfl (lv_at hl 5 rfl) ?_
  refine lv_iload hx hb dL_law_2119 (lv_at hl 1 rfl) ?_
  refine lv_iconst (v := 2) hx hb dL_law_2121 (by decide) ?_
  refine lv_iadd hx hb dL_law_2122 ?_
  refine lv_topi (fun x_9 ex_9 => ?_)
  obtain rfl : x_9 = 2 := ex_9.trans (by decide)
  refine va_sld hx hb hX hbl hbA hS (i := 2) (by unfold vp_in; decide) dL_law_2123 ?_
  refine W.eq (g2 := F0 m 2124 ls [.int (xs 2), .int (xs 1), .ref hm]) rfl ?_
  refine lv_aload_n hx hb dL_law_2124 rfl (lv_at hl 5 rfl) ?_
  refine lv_iload hx hb dL_law_2125 (lv_at hl 1 rfl) ?_
  refine lv_iconst (v := 3) hx hb dL_law_2127 (by decide) ?_
  refine lv_iadd hx hb dL_law_2128 ?_
  refine lv_topi (fun x_10 ex_10 => ?_)
  obtain rfl : x_10 = 3 := ex_10.trans (by decide)
  refine va_sld hx hb hX hbl hbA hS (i := 3) (by unfold vp_in; decide) dL_law_2129 ?_
  refine W.eq (g2 := F0 m 2130 ls [.int (xs 3), .int (xs 2), .int (xs 1), .ref hm]) rfl ?_
  have f_11 := free_of (wc := [(hm, .inr (12, [.int 0, .ref hr, .int 0, .int 0, .int 0, .int 0, .int 0, .ref (gm 7), .ref (gm 8), .ref (gm 9), .ref (gm 10), .ref (gm 11), .ref (gm 12), .ref (gm 13), .ref (gm 14), .int 0, .ref (gm 16), .int 0, .int 0, .int 0, .ref (gm 20), .ref (gm 21), .int 0, .int 0, .int 0, .int 0, .int 0, .int 0, .ref (gm 28), .ref (gm 29)])), (hr, .inl (kI, 2, .inl (fun _ => 0)))]) hD hS hA [1, 2] rfl
  refine va_calli (va_runV (As := [.int (xs 1), .int (xs 2), .int (xs 3)]) (rest := []) ⟨hx, hb, hml, hown, hts⟩ (c_m_after l D a1 a2 H.size hm hr gm kI (xs 1) (xs 2) (xs 3)) (cwV 3 hts (gV w_612 w_613 w_614 w_244 w_615) rfl rfl rfl (by decide +kernel) ⟨Nat.le_of_ble_eq_true rfl, Nat.le_of_ble_eq_true rfl⟩) (pre_V hK hP hD hS hA hE [1, 2] rfl (by decide) rfl [1] rfl (ci := 12) (q0 := 1) rfl rfl) rfl rfl hl.1 rfl (lv_room (Nat.le_of_ble_eq_true rfl)) dL_law_2130 ⟨Nat.le_of_ble_eq_true rfl, Nat.le_of_ble_eq_true rfl⟩) hS (fun q _ h => f_11 q h) f_11 (fun r_12 u_13 t H1 locs ht hvm h_14 hB hz1 hk1 hS => ?_)
  obtain ⟨hP, hD⟩ := join (wc := [(hm, .inr (12, [.int 0, .ref hr, .int 0, .int 0, .int 0, .int 0, .int 0, .ref (gm 7), .ref (gm 8), .ref (gm 9), .ref (gm 10), .ref (gm 11), .ref (gm 12), .ref (gm 13), .ref (gm 14), .int 0, .ref (gm 16), .int 0, .int 0, .int 0, .ref (gm 20), .ref (gm 21), .int 0, .int 0, .int 0, .int 0, .int 0, .int 0, .ref (gm 28), .ref (gm 29)])), (hr, .inl (kI, 2, .inl (fun _ => 0)))]) (wr := [(gn 0, .inl (kP, 6, .inr (.inr (.inr (.inr (fun _ => none)))))), (gm 7, .inl (kA, 6, .inr (.inr (.inr (.inr F))))), (rr, .inl (kY, 5, .inl (fun _ => 0))), (o, .inl (kL, 1, .inr (.inl (fun _ => 0))))]) (w1 := [(hm, .inr (12, u_13))]) hP hD f_11 [1, 2] [0, 3, 4, 5] rfl rfl (by decide) (by decide) hk1 ht hB
  generalize H1 = H at hP hS ⊢
  have hP : va_P D vwCl [(gn 0, .inl (kP, 6, .inr (.inr (.inr (.inr (fun _ => none)))))), (gm 7, .inl (kA, 6, .inr (.inr (.inr (.inr F))))), (rr, .inl (kY, 5, .inl (fun _ => 0))), (o, .inl (kL, 1, .inr (.inl (fun _ => 0)))), (hm, .inr (12, u_13))] H := hP
  have hD : va_D (fun q : Nat => s.heap.size ≤ q) [(gn 0, .inl (kP, 6, .inr (.inr (.inr (.inr (fun _ => none)))))), (gm 7, .inl (kA, 6, .inr (.inr (.inr (.inr F))))), (rr, .inl (kY, 5, .inl (fun _ => 0))), (o, .inl (kL, 1, .inr (.inl (fun _ => 0)))), (hm, .inr (12, u_13))] := hD
  refine lv_istore (lv' := [(6, .int r_12), (5, .int 1), (4, .int 0), (3, .ref o), (2, .ref hm), (1, .ref h0), (0, .ref b)]) hx hb dL_law_2133 hl (by decide) rfl (fun ls hl => ?_)
  refine lv_aload_n hx hb dL_law_2135 rfl (lv_at hl 4 rfl) ?_
  have f_15 := free_of (wc := [(hm, .inr (12, u_13))]) hD hS hA [4] rfl
  refine va_calli (va_runV (As := []) (rest := []) ⟨hx, hb, hml, hown, hts⟩ (c_thrown l D a1 a2 H.size hm u_13 1 h_14) (cwV 0 hts (gV w_458 w_459 w_460 w_244 w_461) rfl rfl rfl (by decide +kernel) ⟨Nat.le_of_ble_eq_true rfl, Nat.le_of_ble_eq_true rfl⟩) (pre_V hK hP hD hS hA hE [4] rfl (by decide) rfl [] rfl (ci := 12) (q0 := 4) rfl rfl) rfl rfl hl.1 rfl (lv_room (Nat.le_of_ble_eq_true rfl)) dL_law_2136 ⟨Nat.le_of_ble_eq_true rfl, Nat.le_of_ble_eq_true rfl⟩) hS (fun q _ h => f_15 q h) f_15 (fun r_16 u_17 t H1 locs ht hvm h_18 hB hz1 hk1 hS => ?_)
  obtain ⟨hP, hD⟩ := join (wc := [(hm, .inr (12, u_13))]) (wr := [(gn 0, .inl (kP, 6, .inr (.inr (.inr (.inr (fun _ => none)))))), (gm 7, .inl (kA, 6, .inr (.inr (.inr (.inr F))))), (rr, .inl (kY, 5, .inl (fun _ => 0))), (o, .inl (kL, 1, .inr (.inl (fun _ => 0))))]) (w1 := [(hm, .inr (12, u_13))]) hP hD f_15 [4] [0, 1, 2, 3] rfl rfl (by decide) (by decide) hk1 ht hB
  generalize H1 = H at hP hS ⊢
  have hP : va_P D vwCl [(gn 0, .inl (kP, 6, .inr (.inr (.inr (.inr (fun _ => none)))))), (gm 7, .inl (kA, 6, .inr (.inr (.inr (.inr F))))), (rr, .inl (kY, 5, .inl (fun _ => 0))), (o, .inl (kL, 1, .inr (.inl (fun _ => 0)))), (hm, .inr (12, u_13))] H := hP
  have hD : va_D (fun q : Nat => s.heap.size ≤ q) [(gn 0, .inl (kP, 6, .inr (.inr (.inr (.inr (fun _ => none)))))), (gm 7, .inl (kA, 6, .inr (.inr (.inr (.inr F))))), (rr, .inl (kY, 5, .inl (fun _ => 0))), (o, .inl (kL, 1, .inr (.inl (fun _ => 0)))), (hm, .inr (12, u_13))] := hD
  obtain rfl := h_18
  refine lv_iload hx hb dL_law_2139 (lv_at hl 1 rfl) ?_
  refine lv_icmp_eq (tgt := 2146) hx hb dL_law_2141 (by decide) (fun _ => ?_) (fun c => absurd (by decide) c)
  refine lv_iload hx hb dL_law_2146 (lv_at hl 1 rfl) ?_
  refine lv_if_ne (tgt := 2163) hx hb dL_law_2148 (by decide) (fun _ => ?_) (fun c => absurd c (by decide))
  refine lv_goto (tgt := 3913) hx hb dL_law_2163 (by decide) ?_
  exact law_tail hx hb hr_ hlocks hX hbl hS (Nat.le_of_ble_eq_true rfl) (Nat.le_of_ble_eq_true rfl) (lv_sub hl [2, 6] rfl)
set_option maxRecDepth 100000 in
set_option maxHeartbeats 4000000 in
theorem case_26 {p : Program} {l : Launch} (hl9 : l.stackTraces = false) {e : Env} {s : State} {m : MethodId} {below : List Frame} {meth : Method} {c : Code} {D : va_G} {a1 a2 b : Nat} {xs : Nat → Int32} {H : Heap} {locs : List Loc} {ls : Array Slot} (h0 h1 h2 : Nat) (g gn gb : Nat → Nat) (kP : ClassId) (hm hr rr : Nat) (gm : Nat → Nat) (kI kA kY : ClassId) (F : Nat → Option Nat) (o : Nat) (kL : ClassId) (hG : LawSt D a1 a2 p s m meth c b xs H locs ls h0 h1 h2 g gn gb kP hm hr rr gm kI kA kY F o kL) : W p l e room_1 s m #[Value.ref b] below meth c H locs 5338 65502 (lw_Z below #[Value.ref b] s) (F0 m 2166 ls []) := by
  obtain ⟨hx, hb, hr_, hml, hown, hts, hX, hbl, hlocks, hP, hK, hD, hA, hE, hS, hF, hl⟩ := hG
  have hbA : ¬ (fun q : Nat => s.heap.size ≤ q) b := Nat.not_le.mpr hbl
  refine lv_aload_n hx hb dL_law_2166 rfl (lv_at hl 3 rfl) ?_
  refine lv_aload_n hx hb dL_law_2167 rfl (lv_at hl 4 rfl) ?_
  refine lv_iload hx hb dL_law_2168 (lv_at hl 0 rfl) ?_
  refine lv_iconst (v := 1) hx hb dL_law_2170 (by decide) ?_
  refine lv_iadd hx hb dL_law_2171 ?_
  refine lv_topi (fun x_1 ex_1 => ?_)
  obtain rfl : x_1 = 1 := ex_1.trans (by decide)
  refine va_sld hx hb hX hbl hbA hS (i := 1) (by unfold vp_in; decide) dL_law_2172 ?_
  refine W.eq (g2 := F0 m 2173 ls [.int (xs 1), .ref h0]) rfl ?_
  refine lv_aload_n hx hb dL_law_2173 rfl (lv_at hl 4 rfl) ?_
  refine lv_iload hx hb dL_law_2174 (lv_at hl 0 rfl) ?_
  refine lv_iconst (v := 2) hx hb dL_law_2176 (by decide) ?_
  refine lv_iadd hx hb dL_law_2177 ?_
  refine lv_topi (fun x_2 ex_2 => ?_)
  obtain rfl : x_2 = 2 := ex_2.trans (by decide)
  refine va_sld hx hb hX hbl hbA hS (i := 2) (by unfold vp_in; decide) dL_law_2178 ?_
  refine W.eq (g2 := F0 m 2179 ls [.int (xs 2), .int (xs 1), .ref h0]) rfl ?_
  refine lv_aload_n hx hb dL_law_2179 rfl (lv_at hl 1 rfl) ?_
  have f_3 := free_of (wc := [(h0, .inr (11, [.ref h1, .ref h2, .ref (g 2), .ref (g 3), .ref (g 4), .ref (g 5), .ref (g 6), .int 0, .int 0, .int 0, .int 0])), (h1, .inr (6, [.ref (gn 0), .int 0, .ref (gn 2), .ref (gn 3), .int 0, .ref (gn 5), .int 0, .int 0])), (h2, .inr (1, [.ref h1, .ref (gb 1), .int 0]))]) hD hS hA [0, 1, 2] rfl
  refine vx_calli (vx_runSX (As := [.ref h0, .int (xs 1), .int (xs 2), .ref o]) (rest := []) ⟨hx, hb, hml, hown, hts⟩ (c_h_idle l hl9 D a1 a2 H.size h0 h1 h2 g gn gb (xs 1) (xs 2) o) (vx_cwSW 4 hts (gSW w_616 w_617 w_450 w_618) rfl rfl rfl (by decide +kernel) ⟨Nat.le_of_ble_eq_true rfl, Nat.le_of_ble_eq_true rfl⟩) (pre_S hK hP hD hS hA hE [0, 1, 2] rfl (by decide) rfl [] rfl) rfl rfl hl.1 rfl (lv_room (Nat.le_of_ble_eq_true rfl)) dL_law_2180 ⟨Nat.le_of_ble_eq_true rfl, Nat.le_of_ble_eq_true rfl⟩) hS (fun q _ h => f_3 q h) f_3 (fun q _ h => f_3 q h) (fun E ce q9 u9 t H locs ht hvm hw hB hz1 hk1 hS hce hcv hcl => False.elim hw) (fun r_4 u_5 t H1 locs ht hvm h_6 hB hz1 hk1 hS => ?_)
  obtain ⟨hP, hD⟩ := join (wc := [(h0, .inr (11, [.ref h1, .ref h2, .ref (g 2), .ref (g 3), .ref (g 4), .ref (g 5), .ref (g 6), .int 0, .int 0, .int 0, .int 0])), (h1, .inr (6, [.ref (gn 0), .int 0, .ref (gn 2), .ref (gn 3), .int 0, .ref (gn 5), .int 0, .int 0])), (h2, .inr (1, [.ref h1, .ref (gb 1), .int 0]))]) (wr := [(gn 0, .inl (kP, 6, .inr (.inr (.inr (.inr (fun _ => none)))))), (hm, .inr (12, [.int 0, .ref hr, .int 0, .int 0, .int 0, .int 0, .int 0, .ref (gm 7), .ref (gm 8), .ref (gm 9), .ref (gm 10), .ref (gm 11), .ref (gm 12), .ref (gm 13), .ref (gm 14), .int 0, .ref (gm 16), .int 0, .int 0, .int 0, .ref (gm 20), .ref (gm 21), .int 0, .int 0, .int 0, .int 0, .int 0, .int 0, .ref (gm 28), .ref (gm 29)])), (hr, .inl (kI, 2, .inl (fun _ => 0))), (gm 7, .inl (kA, 6, .inr (.inr (.inr (.inr F))))), (rr, .inl (kY, 5, .inl (fun _ => 0))), (o, .inl (kL, 1, .inr (.inl (fun _ => 0))))]) (w1 := []) hP hD f_3 [0, 1, 2] [3, 4, 5, 6, 7, 8] rfl rfl (by decide) (by decide) hk1 ht wat_nil
  generalize H1 = H at hP hS ⊢
  have hP : va_P D vwCl [(gn 0, .inl (kP, 6, .inr (.inr (.inr (.inr (fun _ => none)))))), (hm, .inr (12, [.int 0, .ref hr, .int 0, .int 0, .int 0, .int 0, .int 0, .ref (gm 7), .ref (gm 8), .ref (gm 9), .ref (gm 10), .ref (gm 11), .ref (gm 12), .ref (gm 13), .ref (gm 14), .int 0, .ref (gm 16), .int 0, .int 0, .int 0, .ref (gm 20), .ref (gm 21), .int 0, .int 0, .int 0, .int 0, .int 0, .int 0, .ref (gm 28), .ref (gm 29)])), (hr, .inl (kI, 2, .inl (fun _ => 0))), (gm 7, .inl (kA, 6, .inr (.inr (.inr (.inr F))))), (rr, .inl (kY, 5, .inl (fun _ => 0))), (o, .inl (kL, 1, .inr (.inl (fun _ => 0))))] H := hP
  have hD : va_D (fun q : Nat => s.heap.size ≤ q) [(gn 0, .inl (kP, 6, .inr (.inr (.inr (.inr (fun _ => none)))))), (hm, .inr (12, [.int 0, .ref hr, .int 0, .int 0, .int 0, .int 0, .int 0, .ref (gm 7), .ref (gm 8), .ref (gm 9), .ref (gm 10), .ref (gm 11), .ref (gm 12), .ref (gm 13), .ref (gm 14), .int 0, .ref (gm 16), .int 0, .int 0, .int 0, .ref (gm 20), .ref (gm 21), .int 0, .int 0, .int 0, .int 0, .int 0, .int 0, .ref (gm 28), .ref (gm 29)])), (hr, .inl (kI, 2, .inl (fun _ => 0))), (gm 7, .inl (kA, 6, .inr (.inr (.inr (.inr F))))), (rr, .inl (kY, 5, .inl (fun _ => 0))), (o, .inl (kL, 1, .inr (.inl (fun _ => 0))))] := hD
  obtain rfl := h_6
  refine lv_istore (lv' := [(5, .int 1), (4, .int 0), (3, .ref o), (2, .ref hm), (1, .ref h0), (0, .ref b)]) hx hb dL_law_2183 hl (by decide) rfl (fun ls hl => ?_)
  refine lv_aload_n hx hb dL_law_2185 rfl (lv_at hl 3 rfl) ?_
  refine lv_aload_n hx hb dL_law_2186 rfl (lv_at hl 5 rfl) ?_
  refine lv_iload hx hb dL_law_2187 (lv_at hl 1 rfl) ?_
  refine lv_iconst (v := 1) hx hb dL_law_2189 (by decide) ?_
  refine lv_iadd hx hb dL_law_2190 ?_
  refine lv_topi (fun x_7 ex_7 => ?_)
  obtain rfl : x_7 = 1 := ex_7.trans (by decide)
  refine va_sld hx hb hX hbl hbA hS (i := 1) (by unfold vp_in; decide) dL_law_2191 ?_
  refine W.eq (g2 := F0 m 2192 ls [.int (xs 1), .ref hm]) rfl ?_
  refine lv_aload_n hx hb dL_law_2192 rfl (lv_at hl 5 rfl) ?_
  refine lv_iload hx hb dL_law_2193 (lv_at hl 1 rfl) ?_
  refine lv_iconst (v := 2) hx hb dL_law_2195 (by decide) ?_
  refine lv_iadd hx hb dL_law_2196 ?_
  refine lv_topi (fun x_8 ex_8 => ?_)
  obtain rfl : x_8 = 2 := ex_8.trans (by decide)
  refine va_sld hx hb hX hbl hbA hS (i := 2) (by unfold vp_in; decide) dL_law_2197 ?_
  refine W.eq (g2 := F0 m 2198 ls [.int (xs 2), .int (xs 1), .ref hm]) rfl ?_
  have f_9 := free_of (wc := [(hm, .inr (12, [.int 0, .ref hr, .int 0, .int 0, .int 0, .int 0, .int 0, .ref (gm 7), .ref (gm 8), .ref (gm 9), .ref (gm 10), .ref (gm 11), .ref (gm 12), .ref (gm 13), .ref (gm 14), .int 0, .ref (gm 16), .int 0, .int 0, .int 0, .ref (gm 20), .ref (gm 21), .int 0, .int 0, .int 0, .int 0, .int 0, .int 0, .ref (gm 28), .ref (gm 29)])), (hr, .inl (kI, 2, .inl (fun _ => 0)))]) hD hS hA [1, 2] rfl
  refine va_calli (va_runV (As := [.int (xs 1), .int (xs 2)]) (rest := []) ⟨hx, hb, hml, hown, hts⟩ (c_m_idle l D a1 a2 H.size hm hr gm kI (xs 1) (xs 2)) (cwV 2 hts (gV w_619 w_620 w_621 w_244 w_622) rfl rfl rfl (by decide +kernel) ⟨Nat.le_of_ble_eq_true rfl, Nat.le_of_ble_eq_true rfl⟩) (pre_V hK hP hD hS hA hE [1, 2] rfl (by decide) rfl [1] rfl (ci := 12) (q0 := 1) rfl rfl) rfl rfl hl.1 rfl (lv_room (Nat.le_of_ble_eq_true rfl)) dL_law_2198 ⟨Nat.le_of_ble_eq_true rfl, Nat.le_of_ble_eq_true rfl⟩) hS (fun q _ h => f_9 q h) f_9 (fun r_10 u_11 t H1 locs ht hvm h_12 hB hz1 hk1 hS => ?_)
  obtain ⟨hP, hD⟩ := join (wc := [(hm, .inr (12, [.int 0, .ref hr, .int 0, .int 0, .int 0, .int 0, .int 0, .ref (gm 7), .ref (gm 8), .ref (gm 9), .ref (gm 10), .ref (gm 11), .ref (gm 12), .ref (gm 13), .ref (gm 14), .int 0, .ref (gm 16), .int 0, .int 0, .int 0, .ref (gm 20), .ref (gm 21), .int 0, .int 0, .int 0, .int 0, .int 0, .int 0, .ref (gm 28), .ref (gm 29)])), (hr, .inl (kI, 2, .inl (fun _ => 0)))]) (wr := [(gn 0, .inl (kP, 6, .inr (.inr (.inr (.inr (fun _ => none)))))), (gm 7, .inl (kA, 6, .inr (.inr (.inr (.inr F))))), (rr, .inl (kY, 5, .inl (fun _ => 0))), (o, .inl (kL, 1, .inr (.inl (fun _ => 0))))]) (w1 := [(hm, .inr (12, u_11))]) hP hD f_9 [1, 2] [0, 3, 4, 5] rfl rfl (by decide) (by decide) hk1 ht hB
  generalize H1 = H at hP hS ⊢
  have hP : va_P D vwCl [(gn 0, .inl (kP, 6, .inr (.inr (.inr (.inr (fun _ => none)))))), (gm 7, .inl (kA, 6, .inr (.inr (.inr (.inr F))))), (rr, .inl (kY, 5, .inl (fun _ => 0))), (o, .inl (kL, 1, .inr (.inl (fun _ => 0)))), (hm, .inr (12, u_11))] H := hP
  have hD : va_D (fun q : Nat => s.heap.size ≤ q) [(gn 0, .inl (kP, 6, .inr (.inr (.inr (.inr (fun _ => none)))))), (gm 7, .inl (kA, 6, .inr (.inr (.inr (.inr F))))), (rr, .inl (kY, 5, .inl (fun _ => 0))), (o, .inl (kL, 1, .inr (.inl (fun _ => 0)))), (hm, .inr (12, u_11))] := hD
  refine lv_istore (lv' := [(6, .int r_10), (5, .int 1), (4, .int 0), (3, .ref o), (2, .ref hm), (1, .ref h0), (0, .ref b)]) hx hb dL_law_2201 hl (by decide) rfl (fun ls hl => ?_)
  refine lv_aload_n hx hb dL_law_2203 rfl (lv_at hl 4 rfl) ?_
  have f_13 := free_of (wc := [(hm, .inr (12, u_11))]) hD hS hA [4] rfl
  refine va_calli (va_runV (As := []) (rest := []) ⟨hx, hb, hml, hown, hts⟩ (c_thrown l D a1 a2 H.size hm u_11 1 h_12) (cwV 0 hts (gV w_458 w_459 w_460 w_244 w_461) rfl rfl rfl (by decide +kernel) ⟨Nat.le_of_ble_eq_true rfl, Nat.le_of_ble_eq_true rfl⟩) (pre_V hK hP hD hS hA hE [4] rfl (by decide) rfl [] rfl (ci := 12) (q0 := 4) rfl rfl) rfl rfl hl.1 rfl (lv_room (Nat.le_of_ble_eq_true rfl)) dL_law_2204 ⟨Nat.le_of_ble_eq_true rfl, Nat.le_of_ble_eq_true rfl⟩) hS (fun q _ h => f_13 q h) f_13 (fun r_14 u_15 t H1 locs ht hvm h_16 hB hz1 hk1 hS => ?_)
  obtain ⟨hP, hD⟩ := join (wc := [(hm, .inr (12, u_11))]) (wr := [(gn 0, .inl (kP, 6, .inr (.inr (.inr (.inr (fun _ => none)))))), (gm 7, .inl (kA, 6, .inr (.inr (.inr (.inr F))))), (rr, .inl (kY, 5, .inl (fun _ => 0))), (o, .inl (kL, 1, .inr (.inl (fun _ => 0))))]) (w1 := [(hm, .inr (12, u_11))]) hP hD f_13 [4] [0, 1, 2, 3] rfl rfl (by decide) (by decide) hk1 ht hB
  generalize H1 = H at hP hS ⊢
  have hP : va_P D vwCl [(gn 0, .inl (kP, 6, .inr (.inr (.inr (.inr (fun _ => none)))))), (gm 7, .inl (kA, 6, .inr (.inr (.inr (.inr F))))), (rr, .inl (kY, 5, .inl (fun _ => 0))), (o, .inl (kL, 1, .inr (.inl (fun _ => 0)))), (hm, .inr (12, u_11))] H := hP
  have hD : va_D (fun q : Nat => s.heap.size ≤ q) [(gn 0, .inl (kP, 6, .inr (.inr (.inr (.inr (fun _ => none)))))), (gm 7, .inl (kA, 6, .inr (.inr (.inr (.inr F))))), (rr, .inl (kY, 5, .inl (fun _ => 0))), (o, .inl (kL, 1, .inr (.inl (fun _ => 0)))), (hm, .inr (12, u_11))] := hD
  obtain rfl := h_16
  refine lv_iload hx hb dL_law_2207 (lv_at hl 1 rfl) ?_
  refine lv_icmp_eq (tgt := 2214) hx hb dL_law_2209 (by decide) (fun _ => ?_) (fun c => absurd (by decide) c)
  refine lv_iload hx hb dL_law_2214 (lv_at hl 1 rfl) ?_
  refine lv_if_ne (tgt := 2231) hx hb dL_law_2216 (by decide) (fun _ => ?_) (fun c => absurd c (by decide))
  refine lv_goto (tgt := 3913) hx hb dL_law_2231 (by decide) ?_
  exact law_tail hx hb hr_ hlocks hX hbl hS (Nat.le_of_ble_eq_true rfl) (Nat.le_of_ble_eq_true rfl) (lv_sub hl [2, 6] rfl)
set_option maxRecDepth 100000 in
set_option maxHeartbeats 4000000 in
theorem case_27 {p : Program} {l : Launch} (hl9 : l.stackTraces = false) {e : Env} {s : State} {m : MethodId} {below : List Frame} {meth : Method} {c : Code} {D : va_G} {a1 a2 b : Nat} {xs : Nat → Int32} {H : Heap} {locs : List Loc} {ls : Array Slot} (h0 h1 h2 : Nat) (g gn gb : Nat → Nat) (kP : ClassId) (hm hr rr : Nat) (gm : Nat → Nat) (kI kA kY : ClassId) (F : Nat → Option Nat) (o : Nat) (kL : ClassId) (hG : LawSt D a1 a2 p s m meth c b xs H locs ls h0 h1 h2 g gn gb kP hm hr rr gm kI kA kY F o kL) : W p l e room_1 s m #[Value.ref b] below meth c H locs 5338 65502 (lw_Z below #[Value.ref b] s) (F0 m 2234 ls []) := by
  obtain ⟨hx, hb, hr_, hml, hown, hts, hX, hbl, hlocks, hP, hK, hD, hA, hE, hS, hF, hl⟩ := hG
  have hbA : ¬ (fun q : Nat => s.heap.size ≤ q) b := Nat.not_le.mpr hbl
  refine lv_aload_n hx hb dL_law_2234 rfl (lv_at hl 3 rfl) ?_
  refine lv_aload_n hx hb dL_law_2235 rfl (lv_at hl 4 rfl) ?_
  refine lv_iload hx hb dL_law_2236 (lv_at hl 0 rfl) ?_
  refine lv_iconst (v := 1) hx hb dL_law_2238 (by decide) ?_
  refine lv_iadd hx hb dL_law_2239 ?_
  refine lv_topi (fun x_1 ex_1 => ?_)
  obtain rfl : x_1 = 1 := ex_1.trans (by decide)
  refine va_sld hx hb hX hbl hbA hS (i := 1) (by unfold vp_in; decide) dL_law_2240 ?_
  refine W.eq (g2 := F0 m 2241 ls [.int (xs 1), .ref h0]) rfl ?_
  refine lv_aload_n hx hb dL_law_2241 rfl (lv_at hl 4 rfl) ?_
  refine lv_iload hx hb dL_law_2242 (lv_at hl 0 rfl) ?_
  refine lv_iconst (v := 2) hx hb dL_law_2244 (by decide) ?_
  refine lv_iadd hx hb dL_law_2245 ?_
  refine lv_topi (fun x_2 ex_2 => ?_)
  obtain rfl : x_2 = 2 := ex_2.trans (by decide)
  refine va_sld hx hb hX hbl hbA hS (i := 2) (by unfold vp_in; decide) dL_law_2246 ?_
  refine W.eq (g2 := F0 m 2247 ls [.int (xs 2), .int (xs 1), .ref h0]) rfl ?_
  refine lv_aload_n hx hb dL_law_2247 rfl (lv_at hl 1 rfl) ?_
  have f_3 := free_of (wc := [(h0, .inr (11, [.ref h1, .ref h2, .ref (g 2), .ref (g 3), .ref (g 4), .ref (g 5), .ref (g 6), .int 0, .int 0, .int 0, .int 0])), (h1, .inr (6, [.ref (gn 0), .int 0, .ref (gn 2), .ref (gn 3), .int 0, .ref (gn 5), .int 0, .int 0])), (h2, .inr (1, [.ref h1, .ref (gb 1), .int 0]))]) hD hS hA [0, 1, 2] rfl
  refine vx_calli (vx_runSX (As := [.ref h0, .int (xs 1), .int (xs 2), .ref o]) (rest := []) ⟨hx, hb, hml, hown, hts⟩ (c_h_hours l hl9 D a1 a2 H.size h0 h1 h2 g gn gb (xs 1) (xs 2) o) (vx_cwSW 4 hts (gSW w_623 w_624 w_450 w_625) rfl rfl rfl (by decide +kernel) ⟨Nat.le_of_ble_eq_true rfl, Nat.le_of_ble_eq_true rfl⟩) (pre_S hK hP hD hS hA hE [0, 1, 2] rfl (by decide) rfl [] rfl) rfl rfl hl.1 rfl (lv_room (Nat.le_of_ble_eq_true rfl)) dL_law_2248 ⟨Nat.le_of_ble_eq_true rfl, Nat.le_of_ble_eq_true rfl⟩) hS (fun q _ h => f_3 q h) f_3 (fun q _ h => f_3 q h) (fun E ce q9 u9 t H locs ht hvm hw hB hz1 hk1 hS hce hcv hcl => False.elim hw) (fun r_4 u_5 t H1 locs ht hvm h_6 hB hz1 hk1 hS => ?_)
  obtain ⟨hP, hD⟩ := join (wc := [(h0, .inr (11, [.ref h1, .ref h2, .ref (g 2), .ref (g 3), .ref (g 4), .ref (g 5), .ref (g 6), .int 0, .int 0, .int 0, .int 0])), (h1, .inr (6, [.ref (gn 0), .int 0, .ref (gn 2), .ref (gn 3), .int 0, .ref (gn 5), .int 0, .int 0])), (h2, .inr (1, [.ref h1, .ref (gb 1), .int 0]))]) (wr := [(gn 0, .inl (kP, 6, .inr (.inr (.inr (.inr (fun _ => none)))))), (hm, .inr (12, [.int 0, .ref hr, .int 0, .int 0, .int 0, .int 0, .int 0, .ref (gm 7), .ref (gm 8), .ref (gm 9), .ref (gm 10), .ref (gm 11), .ref (gm 12), .ref (gm 13), .ref (gm 14), .int 0, .ref (gm 16), .int 0, .int 0, .int 0, .ref (gm 20), .ref (gm 21), .int 0, .int 0, .int 0, .int 0, .int 0, .int 0, .ref (gm 28), .ref (gm 29)])), (hr, .inl (kI, 2, .inl (fun _ => 0))), (gm 7, .inl (kA, 6, .inr (.inr (.inr (.inr F))))), (rr, .inl (kY, 5, .inl (fun _ => 0))), (o, .inl (kL, 1, .inr (.inl (fun _ => 0))))]) (w1 := []) hP hD f_3 [0, 1, 2] [3, 4, 5, 6, 7, 8] rfl rfl (by decide) (by decide) hk1 ht wat_nil
  generalize H1 = H at hP hS ⊢
  have hP : va_P D vwCl [(gn 0, .inl (kP, 6, .inr (.inr (.inr (.inr (fun _ => none)))))), (hm, .inr (12, [.int 0, .ref hr, .int 0, .int 0, .int 0, .int 0, .int 0, .ref (gm 7), .ref (gm 8), .ref (gm 9), .ref (gm 10), .ref (gm 11), .ref (gm 12), .ref (gm 13), .ref (gm 14), .int 0, .ref (gm 16), .int 0, .int 0, .int 0, .ref (gm 20), .ref (gm 21), .int 0, .int 0, .int 0, .int 0, .int 0, .int 0, .ref (gm 28), .ref (gm 29)])), (hr, .inl (kI, 2, .inl (fun _ => 0))), (gm 7, .inl (kA, 6, .inr (.inr (.inr (.inr F))))), (rr, .inl (kY, 5, .inl (fun _ => 0))), (o, .inl (kL, 1, .inr (.inl (fun _ => 0))))] H := hP
  have hD : va_D (fun q : Nat => s.heap.size ≤ q) [(gn 0, .inl (kP, 6, .inr (.inr (.inr (.inr (fun _ => none)))))), (hm, .inr (12, [.int 0, .ref hr, .int 0, .int 0, .int 0, .int 0, .int 0, .ref (gm 7), .ref (gm 8), .ref (gm 9), .ref (gm 10), .ref (gm 11), .ref (gm 12), .ref (gm 13), .ref (gm 14), .int 0, .ref (gm 16), .int 0, .int 0, .int 0, .ref (gm 20), .ref (gm 21), .int 0, .int 0, .int 0, .int 0, .int 0, .int 0, .ref (gm 28), .ref (gm 29)])), (hr, .inl (kI, 2, .inl (fun _ => 0))), (gm 7, .inl (kA, 6, .inr (.inr (.inr (.inr F))))), (rr, .inl (kY, 5, .inl (fun _ => 0))), (o, .inl (kL, 1, .inr (.inl (fun _ => 0))))] := hD
  obtain rfl := h_6
  refine lv_istore (lv' := [(5, .int 1), (4, .int 0), (3, .ref o), (2, .ref hm), (1, .ref h0), (0, .ref b)]) hx hb dL_law_2251 hl (by decide) rfl (fun ls hl => ?_)
  refine lv_aload_n hx hb dL_law_2253 rfl (lv_at hl 3 rfl) ?_
  refine lv_aload_n hx hb dL_law_2254 rfl (lv_at hl 5 rfl) ?_
  refine lv_iload hx hb dL_law_2255 (lv_at hl 1 rfl) ?_
  refine lv_iconst (v := 1) hx hb dL_law_2257 (by decide) ?_
  refine lv_iadd hx hb dL_law_2258 ?_
  refine lv_topi (fun x_7 ex_7 => ?_)
  obtain rfl : x_7 = 1 := ex_7.trans (by decide)
  refine va_sld hx hb hX hbl hbA hS (i := 1) (by unfold vp_in; decide) dL_law_2259 ?_
  refine W.eq (g2 := F0 m 2260 ls [.int (xs 1), .ref hm]) rfl ?_
  refine lv_aload_n hx hb dL_law_2260 rfl (lv_at hl 5 rfl) ?_
  refine lv_iload hx hb dL_law_2261 (lv_at hl 1 rfl) ?_
  refine lv_iconst (v := 2) hx hb dL_law_2263 (by decide) ?_
  refine lv_iadd hx hb dL_law_2264 ?_
  refine lv_topi (fun x_8 ex_8 => ?_)
  obtain rfl : x_8 = 2 := ex_8.trans (by decide)
  refine va_sld hx hb hX hbl hbA hS (i := 2) (by unfold vp_in; decide) dL_law_2265 ?_
  refine W.eq (g2 := F0 m 2266 ls [.int (xs 2), .int (xs 1), .ref hm]) rfl ?_
  have f_9 := free_of (wc := [(hm, .inr (12, [.int 0, .ref hr, .int 0, .int 0, .int 0, .int 0, .int 0, .ref (gm 7), .ref (gm 8), .ref (gm 9), .ref (gm 10), .ref (gm 11), .ref (gm 12), .ref (gm 13), .ref (gm 14), .int 0, .ref (gm 16), .int 0, .int 0, .int 0, .ref (gm 20), .ref (gm 21), .int 0, .int 0, .int 0, .int 0, .int 0, .int 0, .ref (gm 28), .ref (gm 29)])), (hr, .inl (kI, 2, .inl (fun _ => 0)))]) hD hS hA [1, 2] rfl
  refine va_calli (va_runV (As := [.int (xs 1), .int (xs 2)]) (rest := []) ⟨hx, hb, hml, hown, hts⟩ (c_m_hours l D a1 a2 H.size hm hr gm kI (xs 1) (xs 2)) (cwV 2 hts (gV w_626 w_627 w_628 w_244 w_629) rfl rfl rfl (by decide +kernel) ⟨Nat.le_of_ble_eq_true rfl, Nat.le_of_ble_eq_true rfl⟩) (pre_V hK hP hD hS hA hE [1, 2] rfl (by decide) rfl [1] rfl (ci := 12) (q0 := 1) rfl rfl) rfl rfl hl.1 rfl (lv_room (Nat.le_of_ble_eq_true rfl)) dL_law_2266 ⟨Nat.le_of_ble_eq_true rfl, Nat.le_of_ble_eq_true rfl⟩) hS (fun q _ h => f_9 q h) f_9 (fun r_10 u_11 t H1 locs ht hvm h_12 hB hz1 hk1 hS => ?_)
  obtain ⟨hP, hD⟩ := join (wc := [(hm, .inr (12, [.int 0, .ref hr, .int 0, .int 0, .int 0, .int 0, .int 0, .ref (gm 7), .ref (gm 8), .ref (gm 9), .ref (gm 10), .ref (gm 11), .ref (gm 12), .ref (gm 13), .ref (gm 14), .int 0, .ref (gm 16), .int 0, .int 0, .int 0, .ref (gm 20), .ref (gm 21), .int 0, .int 0, .int 0, .int 0, .int 0, .int 0, .ref (gm 28), .ref (gm 29)])), (hr, .inl (kI, 2, .inl (fun _ => 0)))]) (wr := [(gn 0, .inl (kP, 6, .inr (.inr (.inr (.inr (fun _ => none)))))), (gm 7, .inl (kA, 6, .inr (.inr (.inr (.inr F))))), (rr, .inl (kY, 5, .inl (fun _ => 0))), (o, .inl (kL, 1, .inr (.inl (fun _ => 0))))]) (w1 := [(hm, .inr (12, u_11))]) hP hD f_9 [1, 2] [0, 3, 4, 5] rfl rfl (by decide) (by decide) hk1 ht hB
  generalize H1 = H at hP hS ⊢
  have hP : va_P D vwCl [(gn 0, .inl (kP, 6, .inr (.inr (.inr (.inr (fun _ => none)))))), (gm 7, .inl (kA, 6, .inr (.inr (.inr (.inr F))))), (rr, .inl (kY, 5, .inl (fun _ => 0))), (o, .inl (kL, 1, .inr (.inl (fun _ => 0)))), (hm, .inr (12, u_11))] H := hP
  have hD : va_D (fun q : Nat => s.heap.size ≤ q) [(gn 0, .inl (kP, 6, .inr (.inr (.inr (.inr (fun _ => none)))))), (gm 7, .inl (kA, 6, .inr (.inr (.inr (.inr F))))), (rr, .inl (kY, 5, .inl (fun _ => 0))), (o, .inl (kL, 1, .inr (.inl (fun _ => 0)))), (hm, .inr (12, u_11))] := hD
  refine lv_istore (lv' := [(6, .int r_10), (5, .int 1), (4, .int 0), (3, .ref o), (2, .ref hm), (1, .ref h0), (0, .ref b)]) hx hb dL_law_2269 hl (by decide) rfl (fun ls hl => ?_)
  refine lv_aload_n hx hb dL_law_2271 rfl (lv_at hl 4 rfl) ?_
  have f_13 := free_of (wc := [(hm, .inr (12, u_11))]) hD hS hA [4] rfl
  refine va_calli (va_runV (As := []) (rest := []) ⟨hx, hb, hml, hown, hts⟩ (c_thrown l D a1 a2 H.size hm u_11 1 h_12) (cwV 0 hts (gV w_458 w_459 w_460 w_244 w_461) rfl rfl rfl (by decide +kernel) ⟨Nat.le_of_ble_eq_true rfl, Nat.le_of_ble_eq_true rfl⟩) (pre_V hK hP hD hS hA hE [4] rfl (by decide) rfl [] rfl (ci := 12) (q0 := 4) rfl rfl) rfl rfl hl.1 rfl (lv_room (Nat.le_of_ble_eq_true rfl)) dL_law_2272 ⟨Nat.le_of_ble_eq_true rfl, Nat.le_of_ble_eq_true rfl⟩) hS (fun q _ h => f_13 q h) f_13 (fun r_14 u_15 t H1 locs ht hvm h_16 hB hz1 hk1 hS => ?_)
  obtain ⟨hP, hD⟩ := join (wc := [(hm, .inr (12, u_11))]) (wr := [(gn 0, .inl (kP, 6, .inr (.inr (.inr (.inr (fun _ => none)))))), (gm 7, .inl (kA, 6, .inr (.inr (.inr (.inr F))))), (rr, .inl (kY, 5, .inl (fun _ => 0))), (o, .inl (kL, 1, .inr (.inl (fun _ => 0))))]) (w1 := [(hm, .inr (12, u_11))]) hP hD f_13 [4] [0, 1, 2, 3] rfl rfl (by decide) (by decide) hk1 ht hB
  generalize H1 = H at hP hS ⊢
  have hP : va_P D vwCl [(gn 0, .inl (kP, 6, .inr (.inr (.inr (.inr (fun _ => none)))))), (gm 7, .inl (kA, 6, .inr (.inr (.inr (.inr F))))), (rr, .inl (kY, 5, .inl (fun _ => 0))), (o, .inl (kL, 1, .inr (.inl (fun _ => 0)))), (hm, .inr (12, u_11))] H := hP
  have hD : va_D (fun q : Nat => s.heap.size ≤ q) [(gn 0, .inl (kP, 6, .inr (.inr (.inr (.inr (fun _ => none)))))), (gm 7, .inl (kA, 6, .inr (.inr (.inr (.inr F))))), (rr, .inl (kY, 5, .inl (fun _ => 0))), (o, .inl (kL, 1, .inr (.inl (fun _ => 0)))), (hm, .inr (12, u_11))] := hD
  obtain rfl := h_16
  refine lv_iload hx hb dL_law_2275 (lv_at hl 1 rfl) ?_
  refine lv_icmp_eq (tgt := 2282) hx hb dL_law_2277 (by decide) (fun _ => ?_) (fun c => absurd (by decide) c)
  refine lv_iload hx hb dL_law_2282 (lv_at hl 1 rfl) ?_
  refine lv_if_ne (tgt := 2299) hx hb dL_law_2284 (by decide) (fun _ => ?_) (fun c => absurd c (by decide))
  refine lv_goto (tgt := 3913) hx hb dL_law_2299 (by decide) ?_
  exact law_tail hx hb hr_ hlocks hX hbl hS (Nat.le_of_ble_eq_true rfl) (Nat.le_of_ble_eq_true rfl) (lv_sub hl [2, 6] rfl)
