set_option maxRecDepth 100000 in
set_option maxHeartbeats 4000000 in
theorem case_28 {p : Program} {l : Launch} (hl9 : l.stackTraces = false) {e : Env} {s : State} {m : MethodId} {below : List Frame} {meth : Method} {c : Code} {D : va_G} {a1 a2 b : Nat} {xs : Nat → Int32} {H : Heap} {locs : List Loc} {ls : Array Slot} (h0 h1 h2 : Nat) (g gn gb : Nat → Nat) (kP : ClassId) (hm hr rr : Nat) (gm : Nat → Nat) (kI kA kY : ClassId) (F : Nat → Option Nat) (o : Nat) (kL : ClassId) (hG : LawSt D a1 a2 p s m meth c b xs H locs ls h0 h1 h2 g gn gb kP hm hr rr gm kI kA kY F o kL) : W p l e room_1 s m #[Value.ref b] below meth c H locs 5338 65502 (lw_Z below #[Value.ref b] s) (F0 m 2302 ls []) := by
  obtain ⟨hx, hb, hr_, hml, hown, hts, hX, hbl, hlocks, hP, hK, hD, hA, hE, hS, hF, hl⟩ := hG
  have hbA : ¬ (fun q : Nat => s.heap.size ≤ q) b := Nat.not_le.mpr hbl
  refine lv_aload_n hx hb dL_law_2302 rfl (lv_at hl 3 rfl) ?_
  refine lv_aload_n hx hb dL_law_2303 rfl (lv_at hl 4 rfl) ?_
  refine lv_iload hx hb dL_law_2304 (lv_at hl 0 rfl) ?_
  refine lv_iconst (v := 1) hx hb dL_law_2306 (by decide) ?_
  refine lv_iadd hx hb dL_law_2307 ?_
  refine lv_topi (fun x_1 ex_1 => ?_)
  obtain rfl : x_1 = 1 := ex_1.trans (by decide)
  refine va_sld hx hb hX hbl hbA hS (i := 1) (by unfold vp_in; decide) dL_law_2308 ?_
  refine W.eq (g2 := F0 m 2309 ls [.int (xs 1), .ref h0]) rfl ?_
  refine lv_aload_n hx hb dL_law_2309 rfl (lv_at hl 4 rfl) ?_
  refine lv_iload hx hb dL_law_2310 (lv_at hl 0 rfl) ?_
  refine lv_iconst (v := 2) hx hb dL_law_2312 (by decide) ?_
  refine lv_iadd hx hb dL_law_2313 ?_
  refine lv_topi (fun x_2 ex_2 => ?_)
  obtain rfl : x_2 = 2 := ex_2.trans (by decide)
  refine va_sld hx hb hX hbl hbA hS (i := 2) (by unfold vp_in; decide) dL_law_2314 ?_
  refine W.eq (g2 := F0 m 2315 ls [.int (xs 2), .int (xs 1), .ref h0]) rfl ?_
  refine lv_aload_n hx hb dL_law_2315 rfl (lv_at hl 1 rfl) ?_
  have f_3 := free_of (wc := [(h0, .inr (11, [.ref h1, .ref h2, .ref (g 2), .ref (g 3), .ref (g 4), .ref (g 5), .ref (g 6), .int 0, .int 0, .int 0, .int 0])), (h1, .inr (6, [.ref (gn 0), .int 0, .ref (gn 2), .ref (gn 3), .int 0, .ref (gn 5), .int 0, .int 0])), (h2, .inr (1, [.ref h1, .ref (gb 1), .int 0]))]) hD hS hA [0, 1, 2] rfl
  refine vx_calli (vx_runSX (As := [.ref h0, .int (xs 1), .int (xs 2), .ref o]) (rest := []) ⟨hx, hb, hml, hown, hts⟩ (c_h_busiest l hl9 D a1 a2 H.size h0 h1 h2 g gn gb (xs 1) (xs 2) o) (vx_cwSW 4 hts (gSW w_630 w_631 w_450 w_632) rfl rfl rfl (by decide +kernel) ⟨Nat.le_of_ble_eq_true rfl, Nat.le_of_ble_eq_true rfl⟩) (pre_S hK hP hD hS hA hE [0, 1, 2] rfl (by decide) rfl [] rfl) rfl rfl hl.1 rfl (lv_room (Nat.le_of_ble_eq_true rfl)) dL_law_2316 ⟨Nat.le_of_ble_eq_true rfl, Nat.le_of_ble_eq_true rfl⟩) hS (fun q _ h => f_3 q h) f_3 (fun q _ h => f_3 q h) (fun E ce q9 u9 t H locs ht hvm hw hB hz1 hk1 hS hce hcv hcl => False.elim hw) (fun r_4 u_5 t H1 locs ht hvm h_6 hB hz1 hk1 hS => ?_)
  obtain ⟨hP, hD⟩ := join (wc := [(h0, .inr (11, [.ref h1, .ref h2, .ref (g 2), .ref (g 3), .ref (g 4), .ref (g 5), .ref (g 6), .int 0, .int 0, .int 0, .int 0])), (h1, .inr (6, [.ref (gn 0), .int 0, .ref (gn 2), .ref (gn 3), .int 0, .ref (gn 5), .int 0, .int 0])), (h2, .inr (1, [.ref h1, .ref (gb 1), .int 0]))]) (wr := [(gn 0, .inl (kP, 6, .inr (.inr (.inr (.inr (fun _ => none)))))), (hm, .inr (12, [.int 0, .ref hr, .int 0, .int 0, .int 0, .int 0, .int 0, .ref (gm 7), .ref (gm 8), .ref (gm 9), .ref (gm 10), .ref (gm 11), .ref (gm 12), .ref (gm 13), .ref (gm 14), .int 0, .ref (gm 16), .int 0, .int 0, .int 0, .ref (gm 20), .ref (gm 21), .int 0, .int 0, .int 0, .int 0, .int 0, .int 0, .ref (gm 28), .ref (gm 29)])), (hr, .inl (kI, 2, .inl (fun _ => 0))), (gm 7, .inl (kA, 6, .inr (.inr (.inr (.inr F))))), (rr, .inl (kY, 5, .inl (fun _ => 0))), (o, .inl (kL, 1, .inr (.inl (fun _ => 0))))]) (w1 := []) hP hD f_3 [0, 1, 2] [3, 4, 5, 6, 7, 8] rfl rfl (by decide) (by decide) hk1 ht wat_nil
  generalize H1 = H at hP hS ⊢
  have hP : va_P D vwCl [(gn 0, .inl (kP, 6, .inr (.inr (.inr (.inr (fun _ => none)))))), (hm, .inr (12, [.int 0, .ref hr, .int 0, .int 0, .int 0, .int 0, .int 0, .ref (gm 7), .ref (gm 8), .ref (gm 9), .ref (gm 10), .ref (gm 11), .ref (gm 12), .ref (gm 13), .ref (gm 14), .int 0, .ref (gm 16), .int 0, .int 0, .int 0, .ref (gm 20), .ref (gm 21), .int 0, .int 0, .int 0, .int 0, .int 0, .int 0, .ref (gm 28), .ref (gm 29)])), (hr, .inl (kI, 2, .inl (fun _ => 0))), (gm 7, .inl (kA, 6, .inr (.inr (.inr (.inr F))))), (rr, .inl (kY, 5, .inl (fun _ => 0))), (o, .inl (kL, 1, .inr (.inl (fun _ => 0))))] H := hP
  have hD : va_D (fun q : Nat => s.heap.size ≤ q) [(gn 0, .inl (kP, 6, .inr (.inr (.inr (.inr (fun _ => none)))))), (hm, .inr (12, [.int 0, .ref hr, .int 0, .int 0, .int 0, .int 0, .int 0, .ref (gm 7), .ref (gm 8), .ref (gm 9), .ref (gm 10), .ref (gm 11), .ref (gm 12), .ref (gm 13), .ref (gm 14), .int 0, .ref (gm 16), .int 0, .int 0, .int 0, .ref (gm 20), .ref (gm 21), .int 0, .int 0, .int 0, .int 0, .int 0, .int 0, .ref (gm 28), .ref (gm 29)])), (hr, .inl (kI, 2, .inl (fun _ => 0))), (gm 7, .inl (kA, 6, .inr (.inr (.inr (.inr F))))), (rr, .inl (kY, 5, .inl (fun _ => 0))), (o, .inl (kL, 1, .inr (.inl (fun _ => 0))))] := hD
  obtain rfl := h_6
  refine lv_istore (lv' := [(5, .int 1), (4, .int 0), (3, .ref o), (2, .ref hm), (1, .ref h0), (0, .ref b)]) hx hb dL_law_2319 hl (by decide) rfl (fun ls hl => ?_)
  refine lv_aload_n hx hb dL_law_2321 rfl (lv_at hl 3 rfl) ?_
  refine lv_aload_n hx hb dL_law_2322 rfl (lv_at hl 5 rfl) ?_
  refine lv_iload hx hb dL_law_2323 (lv_at hl 1 rfl) ?_
  refine lv_iconst (v := 1) hx hb dL_law_2325 (by decide) ?_
  refine lv_iadd hx hb dL_law_2326 ?_
  refine lv_topi (fun x_7 ex_7 => ?_)
  obtain rfl : x_7 = 1 := ex_7.trans (by decide)
  refine va_sld hx hb hX hbl hbA hS (i := 1) (by unfold vp_in; decide) dL_law_2327 ?_
  refine W.eq (g2 := F0 m 2328 ls [.int (xs 1), .ref hm]) rfl ?_
  refine lv_aload_n hx hb dL_law_2328 rfl (lv_at hl 5 rfl) ?_
  refine lv_iload hx hb dL_law_2329 (lv_at hl 1 rfl) ?_
  refine lv_iconst (v := 2) hx hb dL_law_2331 (by decide) ?_
  refine lv_iadd hx hb dL_law_2332 ?_
  refine lv_topi (fun x_8 ex_8 => ?_)
  obtain rfl : x_8 = 2 := ex_8.trans (by decide)
  refine va_sld hx hb hX hbl hbA hS (i := 2) (by unfold vp_in; decide) dL_law_2333 ?_
  refine W.eq (g2 := F0 m 2334 ls [.int (xs 2), .int (xs 1), .ref hm]) rfl ?_
  have f_9 := free_of (wc := [(hm, .inr (12, [.int 0, .ref hr, .int 0, .int 0, .int 0, .int 0, .int 0, .ref (gm 7), .ref (gm 8), .ref (gm 9), .ref (gm 10), .ref (gm 11), .ref (gm 12), .ref (gm 13), .ref (gm 14), .int 0, .ref (gm 16), .int 0, .int 0, .int 0, .ref (gm 20), .ref (gm 21), .int 0, .int 0, .int 0, .int 0, .int 0, .int 0, .ref (gm 28), .ref (gm 29)])), (hr, .inl (kI, 2, .inl (fun _ => 0)))]) hD hS hA [1, 2] rfl
  refine va_calli (va_runV (As := [.int (xs 1), .int (xs 2)]) (rest := []) ⟨hx, hb, hml, hown, hts⟩ (c_m_busiest l D a1 a2 H.size hm hr gm kI (xs 1) (xs 2)) (cwV 2 hts (gV w_633 w_634 w_635 w_244 w_636) rfl rfl rfl (by decide +kernel) ⟨Nat.le_of_ble_eq_true rfl, Nat.le_of_ble_eq_true rfl⟩) (pre_V hK hP hD hS hA hE [1, 2] rfl (by decide) rfl [1] rfl (ci := 12) (q0 := 1) rfl rfl) rfl rfl hl.1 rfl (lv_room (Nat.le_of_ble_eq_true rfl)) dL_law_2334 ⟨Nat.le_of_ble_eq_true rfl, Nat.le_of_ble_eq_true rfl⟩) hS (fun q _ h => f_9 q h) f_9 (fun r_10 u_11 t H1 locs ht hvm h_12 hB hz1 hk1 hS => ?_)
  obtain ⟨hP, hD⟩ := join (wc := [(hm, .inr (12, [.int 0, .ref hr, .int 0, .int 0, .int 0, .int 0, .int 0, .ref (gm 7), .ref (gm 8), .ref (gm 9), .ref (gm 10), .ref (gm 11), .ref (gm 12), .ref (gm 13), .ref (gm 14), .int 0, .ref (gm 16), .int 0, .int 0, .int 0, .ref (gm 20), .ref (gm 21), .int 0, .int 0, .int 0, .int 0, .int 0, .int 0, .ref (gm 28), .ref (gm 29)])), (hr, .inl (kI, 2, .inl (fun _ => 0)))]) (wr := [(gn 0, .inl (kP, 6, .inr (.inr (.inr (.inr (fun _ => none)))))), (gm 7, .inl (kA, 6, .inr (.inr (.inr (.inr F))))), (rr, .inl (kY, 5, .inl (fun _ => 0))), (o, .inl (kL, 1, .inr (.inl (fun _ => 0))))]) (w1 := [(hm, .inr (12, u_11))]) hP hD f_9 [1, 2] [0, 3, 4, 5] rfl rfl (by decide) (by decide) hk1 ht hB
  generalize H1 = H at hP hS ⊢
  have hP : va_P D vwCl [(gn 0, .inl (kP, 6, .inr (.inr (.inr (.inr (fun _ => none)))))), (gm 7, .inl (kA, 6, .inr (.inr (.inr (.inr F))))), (rr, .inl (kY, 5, .inl (fun _ => 0))), (o, .inl (kL, 1, .inr (.inl (fun _ => 0)))), (hm, .inr (12, u_11))] H := hP
  have hD : va_D (fun q : Nat => s.heap.size ≤ q) [(gn 0, .inl (kP, 6, .inr (.inr (.inr (.inr (fun _ => none)))))), (gm 7, .inl (kA, 6, .inr (.inr (.inr (.inr F))))), (rr, .inl (kY, 5, .inl (fun _ => 0))), (o, .inl (kL, 1, .inr (.inl (fun _ => 0)))), (hm, .inr (12, u_11))] := hD
  refine lv_istore (lv' := [(6, .int r_10), (5, .int 1), (4, .int 0), (3, .ref o), (2, .ref hm), (1, .ref h0), (0, .ref b)]) hx hb dL_law_2337 hl (by decide) rfl (fun ls hl => ?_)
  refine lv_aload_n hx hb dL_law_2339 rfl (lv_at hl 4 rfl) ?_
  have f_13 := free_of (wc := [(hm, .inr (12, u_11))]) hD hS hA [4] rfl
  refine va_calli (va_runV (As := []) (rest := []) ⟨hx, hb, hml, hown, hts⟩ (c_thrown l D a1 a2 H.size hm u_11 1 h_12) (cwV 0 hts (gV w_458 w_459 w_460 w_244 w_461) rfl rfl rfl (by decide +kernel) ⟨Nat.le_of_ble_eq_true rfl, Nat.le_of_ble_eq_true rfl⟩) (pre_V hK hP hD hS hA hE [4] rfl (by decide) rfl [] rfl (ci := 12) (q0 := 4) rfl rfl) rfl rfl hl.1 rfl (lv_room (Nat.le_of_ble_eq_true rfl)) dL_law_2340 ⟨Nat.le_of_ble_eq_true rfl, Nat.le_of_ble_eq_true rfl⟩) hS (fun q _ h => f_13 q h) f_13 (fun r_14 u_15 t H1 locs ht hvm h_16 hB hz1 hk1 hS => ?_)
  obtain ⟨hP, hD⟩ := join (wc := [(hm, .inr (12, u_11))]) (wr := [(gn 0, .inl (kP, 6, .inr (.inr (.inr (.inr (fun _ => none)))))), (gm 7, .inl (kA, 6, .inr (.inr (.inr (.inr F))))), (rr, .inl (kY, 5, .inl (fun _ => 0))), (o, .inl (kL, 1, .inr (.inl (fun _ => 0))))]) (w1 := [(hm, .inr (12, u_11))]) hP hD f_13 [4] [0, 1, 2, 3] rfl rfl (by decide) (by decide) hk1 ht hB
  generalize H1 = H at hP hS ⊢
  have hP : va_P D vwCl [(gn 0, .inl (kP, 6, .inr (.inr (.inr (.inr (fun _ => none)))))), (gm 7, .inl (kA, 6, .inr (.inr (.inr (.inr F))))), (rr, .inl (kY, 5, .inl (fun _ => 0))), (o, .inl (kL, 1, .inr (.inl (fun _ => 0)))), (hm, .inr (12, u_11))] H := hP
  have hD : va_D (fun q : Nat => s.heap.size ≤ q) [(gn 0, .inl (kP, 6, .inr (.inr (.inr (.inr (fun _ => none)))))), (gm 7, .inl (kA, 6, .inr (.inr (.inr (.inr F))))), (rr, .inl (kY, 5, .inl (fun _ => 0))), (o, .inl (kL, 1, .inr (.inl (fun _ => 0)))), (hm, .inr (12, u_11))] := hD
  obtain rfl := h_16
  refine lv_iload hx hb dL_law_2343 (lv_at hl 1 rfl) ?_
  refine lv_icmp_eq (tgt := 2350) hx hb dL_law_2345 (by decide) (fun _ => ?_) (fun c => absurd (by decide) c)
  refine lv_iload hx hb dL_law_2350 (lv_at hl 1 rfl) ?_
  refine lv_if_ne (tgt := 2367) hx hb dL_law_2352 (by decide) (fun _ => ?_) (fun c => absurd c (by decide))
  refine lv_goto (tgt := 3913) hx hb dL_law_2367 (by decide) ?_
  exact law_tail hx hb hr_ hlocks hX hbl hS (Nat.le_of_ble_eq_true rfl) (Nat.le_of_ble_eq_true rfl) (lv_sub hl [2, 6] rfl)
set_option maxRecDepth 100000 in
set_option maxHeartbeats 4000000 in
theorem case_29 {p : Program} {l : Launch} (hl9 : l.stackTraces = false) {e : Env} {s : State} {m : MethodId} {below : List Frame} {meth : Method} {c : Code} {D : va_G} {a1 a2 b : Nat} {xs : Nat → Int32} {H : Heap} {locs : List Loc} {ls : Array Slot} (h0 h1 h2 : Nat) (g gn gb : Nat → Nat) (kP : ClassId) (hm hr rr : Nat) (gm : Nat → Nat) (kI kA kY : ClassId) (F : Nat → Option Nat) (o : Nat) (kL : ClassId) (hG : LawSt D a1 a2 p s m meth c b xs H locs ls h0 h1 h2 g gn gb kP hm hr rr gm kI kA kY F o kL) : W p l e room_1 s m #[Value.ref b] below meth c H locs 5338 65502 (lw_Z below #[Value.ref b] s) (F0 m 2370 ls []) := by
  obtain ⟨hx, hb, hr_, hml, hown, hts, hX, hbl, hlocks, hP, hK, hD, hA, hE, hS, hF, hl⟩ := hG
  have hbA : ¬ (fun q : Nat => s.heap.size ≤ q) b := Nat.not_le.mpr hbl
  refine lv_aload_n hx hb dL_law_2370 rfl (lv_at hl 3 rfl) ?_
  refine lv_aload_n hx hb dL_law_2371 rfl (lv_at hl 4 rfl) ?_
  refine lv_iload hx hb dL_law_2372 (lv_at hl 0 rfl) ?_
  refine lv_iconst (v := 1) hx hb dL_law_2374 (by decide) ?_
  refine lv_iadd hx hb dL_law_2375 ?_
  refine lv_topi (fun x_1 ex_1 => ?_)
  obtain rfl : x_1 = 1 := ex_1.trans (by decide)
  refine va_sld hx hb hX hbl hbA hS (i := 1) (by unfold vp_in; decide) dL_law_2376 ?_
  refine W.eq (g2 := F0 m 2377 ls [.int (xs 1), .ref h0]) rfl ?_
  refine lv_aload_n hx hb dL_law_2377 rfl (lv_at hl 1 rfl) ?_
  have f_2 := free_of (wc := [(h0, .inr (11, [.ref h1, .ref h2, .ref (g 2), .ref (g 3), .ref (g 4), .ref (g 5), .ref (g 6), .int 0, .int 0, .int 0, .int 0])), (h1, .inr (6, [.ref (gn 0), .int 0, .ref (gn 2), .ref (gn 3), .int 0, .ref (gn 5), .int 0, .int 0])), (h2, .inr (1, [.ref h1, .ref (gb 1), .int 0]))]) hD hS hA [0, 1, 2] rfl
  refine vx_calli (vx_runSX (As := [.ref h0, .int (xs 1), .ref o]) (rest := []) ⟨hx, hb, hml, hown, hts⟩ (c_h_tied l hl9 D a1 a2 H.size h0 h1 h2 g gn gb (xs 1) o) (vx_cwSW 3 hts (gSW w_637 w_638 w_450 w_639) rfl rfl rfl (by decide +kernel) ⟨Nat.le_of_ble_eq_true rfl, Nat.le_of_ble_eq_true rfl⟩) (pre_S hK hP hD hS hA hE [0, 1, 2] rfl (by decide) rfl [] rfl) rfl rfl hl.1 rfl (lv_room (Nat.le_of_ble_eq_true rfl)) dL_law_2378 ⟨Nat.le_of_ble_eq_true rfl, Nat.le_of_ble_eq_true rfl⟩) hS (fun q _ h => f_2 q h) f_2 (fun q _ h => f_2 q h) (fun E ce q9 u9 t H locs ht hvm hw hB hz1 hk1 hS hce hcv hcl => False.elim hw) (fun r_3 u_4 t H1 locs ht hvm h_5 hB hz1 hk1 hS => ?_)
  obtain ⟨hP, hD⟩ := join (wc := [(h0, .inr (11, [.ref h1, .ref h2, .ref (g 2), .ref (g 3), .ref (g 4), .ref (g 5), .ref (g 6), .int 0, .int 0, .int 0, .int 0])), (h1, .inr (6, [.ref (gn 0), .int 0, .ref (gn 2), .ref (gn 3), .int 0, .ref (gn 5), .int 0, .int 0])), (h2, .inr (1, [.ref h1, .ref (gb 1), .int 0]))]) (wr := [(gn 0, .inl (kP, 6, .inr (.inr (.inr (.inr (fun _ => none)))))), (hm, .inr (12, [.int 0, .ref hr, .int 0, .int 0, .int 0, .int 0, .int 0, .ref (gm 7), .ref (gm 8), .ref (gm 9), .ref (gm 10), .ref (gm 11), .ref (gm 12), .ref (gm 13), .ref (gm 14), .int 0, .ref (gm 16), .int 0, .int 0, .int 0, .ref (gm 20), .ref (gm 21), .int 0, .int 0, .int 0, .int 0, .int 0, .int 0, .ref (gm 28), .ref (gm 29)])), (hr, .inl (kI, 2, .inl (fun _ => 0))), (gm 7, .inl (kA, 6, .inr (.inr (.inr (.inr F))))), (rr, .inl (kY, 5, .inl (fun _ => 0))), (o, .inl (kL, 1, .inr (.inl (fun _ => 0))))]) (w1 := []) hP hD f_2 [0, 1, 2] [3, 4, 5, 6, 7, 8] rfl rfl (by decide) (by decide) hk1 ht wat_nil
  generalize H1 = H at hP hS ⊢
  have hP : va_P D vwCl [(gn 0, .inl (kP, 6, .inr (.inr (.inr (.inr (fun _ => none)))))), (hm, .inr (12, [.int 0, .ref hr, .int 0, .int 0, .int 0, .int 0, .int 0, .ref (gm 7), .ref (gm 8), .ref (gm 9), .ref (gm 10), .ref (gm 11), .ref (gm 12), .ref (gm 13), .ref (gm 14), .int 0, .ref (gm 16), .int 0, .int 0, .int 0, .ref (gm 20), .ref (gm 21), .int 0, .int 0, .int 0, .int 0, .int 0, .int 0, .ref (gm 28), .ref (gm 29)])), (hr, .inl (kI, 2, .inl (fun _ => 0))), (gm 7, .inl (kA, 6, .inr (.inr (.inr (.inr F))))), (rr, .inl (kY, 5, .inl (fun _ => 0))), (o, .inl (kL, 1, .inr (.inl (fun _ => 0))))] H := hP
  have hD : va_D (fun q : Nat => s.heap.size ≤ q) [(gn 0, .inl (kP, 6, .inr (.inr (.inr (.inr (fun _ => none)))))), (hm, .inr (12, [.int 0, .ref hr, .int 0, .int 0, .int 0, .int 0, .int 0, .ref (gm 7), .ref (gm 8), .ref (gm 9), .ref (gm 10), .ref (gm 11), .ref (gm 12), .ref (gm 13), .ref (gm 14), .int 0, .ref (gm 16), .int 0, .int 0, .int 0, .ref (gm 20), .ref (gm 21), .int 0, .int 0, .int 0, .int 0, .int 0, .int 0, .ref (gm 28), .ref (gm 29)])), (hr, .inl (kI, 2, .inl (fun _ => 0))), (gm 7, .inl (kA, 6, .inr (.inr (.inr (.inr F))))), (rr, .inl (kY, 5, .inl (fun _ => 0))), (o, .inl (kL, 1, .inr (.inl (fun _ => 0))))] := hD
  obtain rfl := h_5
  refine lv_istore (lv' := [(5, .int 1), (4, .int 0), (3, .ref o), (2, .ref hm), (1, .ref h0), (0, .ref b)]) hx hb dL_law_2381 hl (by decide) rfl (fun ls hl => ?_)
  refine lv_aload_n hx hb dL_law_2383 rfl (lv_at hl 3 rfl) ?_
  refine lv_aload_n hx hb dL_law_2384 rfl (lv_at hl 5 rfl) ?_
  refine lv_iload hx hb dL_law_2385 (lv_at hl 1 rfl) ?_
  refine lv_iconst (v := 1) hx hb dL_law_2387 (by decide) ?_
  refine lv_iadd hx hb dL_law_2388 ?_
  refine lv_topi (fun x_6 ex_6 => ?_)
  obtain rfl : x_6 = 1 := ex_6.trans (by decide)
  refine va_sld hx hb hX hbl hbA hS (i := 1) (by unfold vp_in; decide) dL_law_2389 ?_
  refine W.eq (g2 := F0 m 2390 ls [.int (xs 1), .ref hm]) rfl ?_
  have f_7 := free_of (wc := [(hm, .inr (12, [.int 0, .ref hr, .int 0, .int 0, .int 0, .int 0, .int 0, .ref (gm 7), .ref (gm 8), .ref (gm 9), .ref (gm 10), .ref (gm 11), .ref (gm 12), .ref (gm 13), .ref (gm 14), .int 0, .ref (gm 16), .int 0, .int 0, .int 0, .ref (gm 20), .ref (gm 21), .int 0, .int 0, .int 0, .int 0, .int 0, .int 0, .ref (gm 28), .ref (gm 29)])), (hr, .inl (kI, 2, .inl (fun _ => 0)))]) hD hS hA [1, 2] rfl
  refine va_calll (va_runV (As := [.int (xs 1)]) (rest := []) ⟨hx, hb, hml, hown, hts⟩ (c_m_tied l D a1 a2 H.size hm hr gm kI (xs 1)) (cwV 1 hts (gV w_640 w_641 w_642 w_244 w_643) rfl rfl rfl (by decide +kernel) ⟨Nat.le_of_ble_eq_true rfl, Nat.le_of_ble_eq_true rfl⟩) (pre_V hK hP hD hS hA hE [1, 2] rfl (by decide) rfl [1] rfl (ci := 12) (q0 := 1) rfl rfl) rfl rfl hl.1 rfl (lv_room (Nat.le_of_ble_eq_true rfl)) dL_law_2390 ⟨Nat.le_of_ble_eq_true rfl, Nat.le_of_ble_eq_true rfl⟩) hS (fun q _ h => f_7 q h) f_7 (fun r_8 u_9 t H1 locs ht hvm h_10 hB hz1 hk1 hS => ?_)
  obtain ⟨hP, hD⟩ := join (wc := [(hm, .inr (12, [.int 0, .ref hr, .int 0, .int 0, .int 0, .int 0, .int 0, .ref (gm 7), .ref (gm 8), .ref (gm 9), .ref (gm 10), .ref (gm 11), .ref (gm 12), .ref (gm 13), .ref (gm 14), .int 0, .ref (gm 16), .int 0, .int 0, .int 0, .ref (gm 20), .ref (gm 21), .int 0, .int 0, .int 0, .int 0, .int 0, .int 0, .ref (gm 28), .ref (gm 29)])), (hr, .inl (kI, 2, .inl (fun _ => 0)))]) (wr := [(gn 0, .inl (kP, 6, .inr (.inr (.inr (.inr (fun _ => none)))))), (gm 7, .inl (kA, 6, .inr (.inr (.inr (.inr F))))), (rr, .inl (kY, 5, .inl (fun _ => 0))), (o, .inl (kL, 1, .inr (.inl (fun _ => 0))))]) (w1 := [(hm, .inr (12, u_9))]) hP hD f_7 [1, 2] [0, 3, 4, 5] rfl rfl (by decide) (by decide) hk1 ht hB
  generalize H1 = H at hP hS ⊢
  have hP : va_P D vwCl [(gn 0, .inl (kP, 6, .inr (.inr (.inr (.inr (fun _ => none)))))), (gm 7, .inl (kA, 6, .inr (.inr (.inr (.inr F))))), (rr, .inl (kY, 5, .inl (fun _ => 0))), (o, .inl (kL, 1, .inr (.inl (fun _ => 0)))), (hm, .inr (12, u_9))] H := hP
  have hD : va_D (fun q : Nat => s.heap.size ≤ q) [(gn 0, .inl (kP, 6, .inr (.inr (.inr (.inr (fun _ => none)))))), (gm 7, .inl (kA, 6, .inr (.inr (.inr (.inr F))))), (rr, .inl (kY, 5, .inl (fun _ => 0))), (o, .inl (kL, 1, .inr (.inl (fun _ => 0)))), (hm, .inr (12, u_9))] := hD
  refine lv_lstore (lv' := [(6, .long r_8), (5, .int 1), (4, .int 0), (3, .ref o), (2, .ref hm), (1, .ref h0), (0, .ref b)]) hx hb dL_law_2393 hl (by decide) rfl (fun ls hl => ?_)
  refine lv_aload_n hx hb dL_law_2395 rfl (lv_at hl 4 rfl) ?_
  have f_11 := free_of (wc := [(hm, .inr (12, u_9))]) hD hS hA [4] rfl
  refine va_calli (va_runV (As := []) (rest := []) ⟨hx, hb, hml, hown, hts⟩ (c_thrown l D a1 a2 H.size hm u_9 1 h_10) (cwV 0 hts (gV w_458 w_459 w_460 w_244 w_461) rfl rfl rfl (by decide +kernel) ⟨Nat.le_of_ble_eq_true rfl, Nat.le_of_ble_eq_true rfl⟩) (pre_V hK hP hD hS hA hE [4] rfl (by decide) rfl [] rfl (ci := 12) (q0 := 4) rfl rfl) rfl rfl hl.1 rfl (lv_room (Nat.le_of_ble_eq_true rfl)) dL_law_2396 ⟨Nat.le_of_ble_eq_true rfl, Nat.le_of_ble_eq_true rfl⟩) hS (fun q _ h => f_11 q h) f_11 (fun r_12 u_13 t H1 locs ht hvm h_14 hB hz1 hk1 hS => ?_)
  obtain ⟨hP, hD⟩ := join (wc := [(hm, .inr (12, u_9))]) (wr := [(gn 0, .inl (kP, 6, .inr (.inr (.inr (.inr (fun _ => none)))))), (gm 7, .inl (kA, 6, .inr (.inr (.inr (.inr F))))), (rr, .inl (kY, 5, .inl (fun _ => 0))), (o, .inl (kL, 1, .inr (.inl (fun _ => 0))))]) (w1 := [(hm, .inr (12, u_9))]) hP hD f_11 [4] [0, 1, 2, 3] rfl rfl (by decide) (by decide) hk1 ht hB
  generalize H1 = H at hP hS ⊢
  have hP : va_P D vwCl [(gn 0, .inl (kP, 6, .inr (.inr (.inr (.inr (fun _ => none)))))), (gm 7, .inl (kA, 6, .inr (.inr (.inr (.inr F))))), (rr, .inl (kY, 5, .inl (fun _ => 0))), (o, .inl (kL, 1, .inr (.inl (fun _ => 0)))), (hm, .inr (12, u_9))] H := hP
  have hD : va_D (fun q : Nat => s.heap.size ≤ q) [(gn 0, .inl (kP, 6, .inr (.inr (.inr (.inr (fun _ => none)))))), (gm 7, .inl (kA, 6, .inr (.inr (.inr (.inr F))))), (rr, .inl (kY, 5, .inl (fun _ => 0))), (o, .inl (kL, 1, .inr (.inl (fun _ => 0)))), (hm, .inr (12, u_9))] := hD
  obtain rfl := h_14
  refine lv_iload hx hb dL_law_2399 (lv_at hl 1 rfl) ?_
  refine lv_icmp_eq (tgt := 2406) hx hb dL_law_2401 (by decide) (fun _ => ?_) (fun c => absurd (by decide) c)
  refine lv_iload hx hb dL_law_2406 (lv_at hl 1 rfl) ?_
  refine lv_if_ne (tgt := 2422) hx hb dL_law_2408 (by decide) (fun _ => ?_) (fun c => absurd c (by decide))
  refine lv_goto (tgt := 3913) hx hb dL_law_2422 (by decide) ?_
  exact law_tail hx hb hr_ hlocks hX hbl hS (Nat.le_of_ble_eq_true rfl) (Nat.le_of_ble_eq_true rfl) (lv_sub hl [2, 6] rfl)
set_option maxRecDepth 100000 in
set_option maxHeartbeats 4000000 in
theorem case_30 {p : Program} {l : Launch} (hl9 : l.stackTraces = false) {e : Env} {s : State} {m : MethodId} {below : List Frame} {meth : Method} {c : Code} {D : va_G} {a1 a2 b : Nat} {xs : Nat → Int32} {H : Heap} {locs : List Loc} {ls : Array Slot} (h0 h1 h2 : Nat) (g gn gb : Nat → Nat) (kP : ClassId) (hm hr rr : Nat) (gm : Nat → Nat) (kI kA kY : ClassId) (F : Nat → Option Nat) (o : Nat) (kL : ClassId) (hG : LawSt D a1 a2 p s m meth c b xs H locs ls h0 h1 h2 g gn gb kP hm hr rr gm kI kA kY F o kL) : W p l e room_1 s m #[Value.ref b] below meth c H locs 5338 65502 (lw_Z below #[Value.ref b] s) (F0 m 2425 ls []) := by
  obtain ⟨hx, hb, hr_, hml, hown, hts, hX, hbl, hlocks, hP, hK, hD, hA, hE, hS, hF, hl⟩ := hG
  have hbA : ¬ (fun q : Nat => s.heap.size ≤ q) b := Nat.not_le.mpr hbl
  refine lv_aload_n hx hb dL_law_2425 rfl (lv_at hl 3 rfl) ?_
  refine lv_aload_n hx hb dL_law_2426 rfl (lv_at hl 4 rfl) ?_
  refine lv_iload hx hb dL_law_2427 (lv_at hl 0 rfl) ?_
  refine lv_iconst (v := 1) hx hb dL_law_2429 (by decide) ?_
  refine lv_iadd hx hb dL_law_2430 ?_
  refine lv_topi (fun x_1 ex_1 => ?_)
  obtain rfl : x_1 = 1 := ex_1.trans (by decide)
  refine va_sld hx hb hX hbl hbA hS (i := 1) (by unfold vp_in; decide) dL_law_2431 ?_
  refine W.eq (g2 := F0 m 2432 ls [.int (xs 1), .ref h0]) rfl ?_
  refine lv_aload_n hx hb dL_law_2432 rfl (lv_at hl 4 rfl) ?_
  refine lv_iload hx hb dL_law_2433 (lv_at hl 0 rfl) ?_
  refine lv_iconst (v := 2) hx hb dL_law_2435 (by decide) ?_
  refine lv_iadd hx hb dL_law_2436 ?_
  refine lv_topi (fun x_2 ex_2 => ?_)
  obtain rfl : x_2 = 2 := ex_2.trans (by decide)
  refine va_sld hx hb hX hbl hbA hS (i := 2) (by unfold vp_in; decide) dL_law_2437 ?_
  refine W.eq (g2 := F0 m 2438 ls [.int (xs 2), .int (xs 1), .ref h0]) rfl ?_
  refine lv_aload_n hx hb dL_law_2438 rfl (lv_at hl 4 rfl) ?_
  refine lv_iload hx hb dL_law_2439 (lv_at hl 0 rfl) ?_
  refine lv_iconst (v := 3) hx hb dL_law_2441 (by decide) ?_
  refine lv_iadd hx hb dL_law_2442 ?_
  refine lv_topi (fun x_3 ex_3 => ?_)
  obtain rfl : x_3 = 3 := ex_3.trans (by decide)
  refine va_sld hx hb hX hbl hbA hS (i := 3) (by unfold vp_in; decide) dL_law_2443 ?_
  refine W.eq (g2 := F0 m 2444 ls [.int (xs 3), .int (xs 2), .int (xs 1), .ref h0]) rfl ?_
  refine lv_aload_n hx hb dL_law_2444 rfl (lv_at hl 1 rfl) ?_
  have f_4 := free_of (wc := [(h0, .inr (11, [.ref h1, .ref h2, .ref (g 2), .ref (g 3), .ref (g 4), .ref (g 5), .ref (g 6), .int 0, .int 0, .int 0, .int 0])), (h1, .inr (6, [.ref (gn 0), .int 0, .ref (gn 2), .ref (gn 3), .int 0, .ref (gn 5), .int 0, .int 0])), (h2, .inr (1, [.ref h1, .ref (gb 1), .int 0]))]) hD hS hA [0, 1, 2] rfl
  refine vx_calli (vx_runSX (As := [.ref h0, .int (xs 1), .int (xs 2), .int (xs 3), .ref o]) (rest := []) ⟨hx, hb, hml, hown, hts⟩ (c_h_line l hl9 D a1 a2 H.size h0 h1 h2 g gn gb (xs 1) (xs 2) (xs 3) o) (vx_cwSW 5 hts (gSW w_644 w_645 w_450 w_646) rfl rfl rfl (by decide +kernel) ⟨Nat.le_of_ble_eq_true rfl, Nat.le_of_ble_eq_true rfl⟩) (pre_S hK hP hD hS hA hE [0, 1, 2] rfl (by decide) rfl [] rfl) rfl rfl hl.1 rfl (lv_room (Nat.le_of_ble_eq_true rfl)) dL_law_2445 ⟨Nat.le_of_ble_eq_true rfl, Nat.le_of_ble_eq_true rfl⟩) hS (fun q _ h => f_4 q h) f_4 (fun q _ h => f_4 q h) (fun E ce q9 u9 t H locs ht hvm hw hB hz1 hk1 hS hce hcv hcl => False.elim hw) (fun r_5 u_6 t H1 locs ht hvm h_7 hB hz1 hk1 hS => ?_)
  obtain ⟨hP, hD⟩ := join (wc := [(h0, .inr (11, [.ref h1, .ref h2, .ref (g 2), .ref (g 3), .ref (g 4), .ref (g 5), .ref (g 6), .int 0, .int 0, .int 0, .int 0])), (h1, .inr (6, [.ref (gn 0), .int 0, .ref (gn 2), .ref (gn 3), .int 0, .ref (gn 5), .int 0, .int 0])), (h2, .inr (1, [.ref h1, .ref (gb 1), .int 0]))]) (wr := [(gn 0, .inl (kP, 6, .inr (.inr (.inr (.inr (fun _ => none)))))), (hm, .inr (12, [.int 0, .ref hr, .int 0, .int 0, .int 0, .int 0, .int 0, .ref (gm 7), .ref (gm 8), .ref (gm 9), .ref (gm 10), .ref (gm 11), .ref (gm 12), .ref (gm 13), .ref (gm 14), .int 0, .ref (gm 16), .int 0, .int 0, .int 0, .ref (gm 20), .ref (gm 21), .int 0, .int 0, .int 0, .int 0, .int 0, .int 0, .ref (gm 28), .ref (gm 29)])), (hr, .inl (kI, 2, .inl (fun _ => 0))), (gm 7, .inl (kA, 6, .inr (.inr (.inr (.inr F))))), (rr, .inl (kY, 5, .inl (fun _ => 0))), (o, .inl (kL, 1, .inr (.inl (fun _ => 0))))]) (w1 := []) hP hD f_4 [0, 1, 2] [3, 4, 5, 6, 7, 8] rfl rfl (by decide) (by decide) hk1 ht wat_nil
  generalize H1 = H at hP hS ⊢
  have hP : va_P D vwCl [(gn 0, .inl (kP, 6, .inr (.inr (.inr (.inr (fun _ => none)))))), (hm, .inr (12, [.int 0, .ref hr, .int 0, .int 0, .int 0, .int 0, .int 0, .ref (gm 7), .ref (gm 8), .ref (gm 9), .ref (gm 10), .ref (gm 11), .ref (gm 12), .ref (gm 13), .ref (gm 14), .int 0, .ref (gm 16), .int 0, .int 0, .int 0, .ref (gm 20), .ref (gm 21), .int 0, .int 0, .int 0, .int 0, .int 0, .int 0, .ref (gm 28), .ref (gm 29)])), (hr, .inl (kI, 2, .inl (fun _ => 0))), (gm 7, .inl (kA, 6, .inr (.inr (.inr (.inr F))))), (rr, .inl (kY, 5, .inl (fun _ => 0))), (o, .inl (kL, 1, .inr (.inl (fun _ => 0))))] H := hP
  have hD : va_D (fun q : Nat => s.heap.size ≤ q) [(gn 0, .inl (kP, 6, .inr (.inr (.inr (.inr (fun _ => none)))))), (hm, .inr (12, [.int 0, .ref hr, .int 0, .int 0, .int 0, .int 0, .int 0, .ref (gm 7), .ref (gm 8), .ref (gm 9), .ref (gm 10), .ref (gm 11), .ref (gm 12), .ref (gm 13), .ref (gm 14), .int 0, .ref (gm 16), .int 0, .int 0, .int 0, .ref (gm 20), .ref (gm 21), .int 0, .int 0, .int 0, .int 0, .int 0, .int 0, .ref (gm 28), .ref (gm 29)])), (hr, .inl (kI, 2, .inl (fun _ => 0))), (gm 7, .inl (kA, 6, .inr (.inr (.inr (.inr F))))), (rr, .inl (kY, 5, .inl (fun _ => 0))), (o, .inl (kL, 1, .inr (.inl (fun _ => 0))))] := hD
  obtain rfl := h_7
  refine lv_istore (lv' := [(5, .int 1), (4, .int 0), (3, .ref o), (2, .ref hm), (1, .ref h0), (0, .ref b)]) hx hb dL_law_2448 hl (by decide) rfl (fun ls hl => ?_)
  refine lv_aload_n hx hb dL_law_2450 rfl (lv_at hl 3 rfl) ?_
  refine lv_aload_n hx hb dL_law_2451 rfl (lv_at hl 5 rfl) ?_
  refine lv_iload hx hb dL_law_2452 (lv_at hl 1 rfl) ?_
  refine lv_iconst (v := 1) hx hb dL_law_2454 (by decide) ?_
  refine lv_iadd hx hb dL_law_2455 ?_
  refine lv_topi (fun x_8 ex_8 => ?_)
  obtain rfl : x_8 = 1 := ex_8.trans (by decide)
  refine va_sld hx hb hX hbl hbA hS (i := 1) (by unfold vp_in; decide) dL_law_2456 ?_
  refine W.eq (g2 := F0 m 2457 ls [.int (xs 1), .ref hm]) rfl ?_
  refine lv_aload_n hx hb dL_law_2457 rfl (lv_at hl 5 rfl) ?_
  refine lv_iload hx hb dL_law_2458 (lv_at hl 1 rfl) ?_
  refine lv_iconst (v := 2) hx hb dL_law_2460 (by decide) ?_
  refine lv_iadd hx hb dL_law_2461 ?_
  refine lv_topi (fun x_9 ex_9 => ?_)
  obtain rfl : x_9 = 2 := ex_9.trans (by decide)
  refine va_sld hx hb hX hbl hbA hS (i := 2) (by unfold vp_in; decide) dL_law_2462 ?_
  refine W.eq (g2 := F0 m 2463 ls [.int (xs 2), .int (xs 1), .ref hm]) rfl ?_
  refine lv_aload_n hx hb dL_law_2463 rfl (lv_at hl 5 rfl) ?_
  refine lv_iload hx hb dL_law_2464 (lv_at hl 1 rfl) ?_
  refine lv_iconst (v := 3) hx hb dL_law_2466 (by decide) ?_
  refine lv_iadd hx hb dL_law_2467 ?_
  refine lv_topi (fun x_10 ex_10 => ?_)
  obtain rfl : x_10 = 3 := ex_10.trans (by decide)
  refine va_sld hx hb hX hbl hbA hS (i := 3) (by unfold vp_in; decide) dL_law_2468 ?_
  refine W.eq (g2 := F0 m 2469 ls [.int (xs 3), .int (xs 2), .int (xs 1), .ref hm]) rfl ?_
  have f_11 := free_of (wc := [(hm, .inr (12, [.int 0, .ref hr, .int 0, .int 0, .int 0, .int 0, .int 0, .ref (gm 7), .ref (gm 8), .ref (gm 9), .ref (gm 10), .ref (gm 11), .ref (gm 12), .ref (gm 13), .ref (gm 14), .int 0, .ref (gm 16), .int 0, .int 0, .int 0, .ref (gm 20), .ref (gm 21), .int 0, .int 0, .int 0, .int 0, .int 0, .int 0, .ref (gm 28), .ref (gm 29)])), (hr, .inl (kI, 2, .inl (fun _ => 0)))]) hD hS hA [1, 2] rfl
  refine va_calli (va_runV (As := [.int (xs 1), .int (xs 2), .int (xs 3)]) (rest := []) ⟨hx, hb, hml, hown, hts⟩ (c_m_line l D a1 a2 H.size hm hr gm kI (xs 1) (xs 2) (xs 3)) (cwV 3 hts (gV w_647 w_648 w_649 w_244 w_650) rfl rfl rfl (by decide +kernel) ⟨Nat.le_of_ble_eq_true rfl, Nat.le_of_ble_eq_true rfl⟩) (pre_V hK hP hD hS hA hE [1, 2] rfl (by decide) rfl [1] rfl (ci := 12) (q0 := 1) rfl rfl) rfl rfl hl.1 rfl (lv_room (Nat.le_of_ble_eq_true rfl)) dL_law_2469 ⟨Nat.le_of_ble_eq_true rfl, Nat.le_of_ble_eq_true rfl⟩) hS (fun q _ h => f_11 q h) f_11 (fun r_12 u_13 t H1 locs ht hvm h_14 hB hz1 hk1 hS => ?_)
  obtain ⟨hP, hD⟩ := join (wc := [(hm, .inr (12, [.int 0, .ref hr, .int 0, .int 0, .int 0, .int 0, .int 0, .ref (gm 7), .ref (gm 8), .ref (gm 9), .ref (gm 10), .ref (gm 11), .ref (gm 12), .ref (gm 13), .ref (gm 14), .int 0, .ref (gm 16), .int 0, .int 0, .int 0, .ref (gm 20), .ref (gm 21), .int 0, .int 0, .int 0, .int 0, .int 0, .int 0, .ref (gm 28), .ref (gm 29)])), (hr, .inl (kI, 2, .inl (fun _ => 0)))]) (wr := [(gn 0, .inl (kP, 6, .inr (.inr (.inr (.inr (fun _ => none)))))), (gm 7, .inl (kA, 6, .inr (.inr (.inr (.inr F))))), (rr, .inl (kY, 5, .inl (fun _ => 0))), (o, .inl (kL, 1, .inr (.inl (fun _ => 0))))]) (w1 := [(hm, .inr (12, u_13))]) hP hD f_11 [1, 2] [0, 3, 4, 5] rfl rfl (by decide) (by decide) hk1 ht hB
  generalize H1 = H at hP hS ⊢
  have hP : va_P D vwCl [(gn 0, .inl (kP, 6, .inr (.inr (.inr (.inr (fun _ => none)))))), (gm 7, .inl (kA, 6, .inr (.inr (.inr (.inr F))))), (rr, .inl (kY, 5, .inl (fun _ => 0))), (o, .inl (kL, 1, .inr (.inl (fun _ => 0)))), (hm, .inr (12, u_13))] H := hP
  have hD : va_D (fun q : Nat => s.heap.size ≤ q) [(gn 0, .inl (kP, 6, .inr (.inr (.inr (.inr (fun _ => none)))))), (gm 7, .inl (kA, 6, .inr (.inr (.inr (.inr F))))), (rr, .inl (kY, 5, .inl (fun _ => 0))), (o, .inl (kL, 1, .inr (.inl (fun _ => 0)))), (hm, .inr (12, u_13))] := hD
  refine lv_istore (lv' := [(6, .int r_12), (5, .int 1), (4, .int 0), (3, .ref o), (2, .ref hm), (1, .ref h0), (0, .ref b)]) hx hb dL_law_2472 hl (by decide) rfl (fun ls hl => ?_)
  refine lv_aload_n hx hb dL_law_2474 rfl (lv_at hl 4 rfl) ?_
  have f_15 := free_of (wc := [(hm, .inr (12, u_13))]) hD hS hA [4] rfl
  refine va_calli (va_runV (As := []) (rest := []) ⟨hx, hb, hml, hown, hts⟩ (c_thrown l D a1 a2 H.size hm u_13 1 h_14) (cwV 0 hts (gV w_458 w_459 w_460 w_244 w_461) rfl rfl rfl (by decide +kernel) ⟨Nat.le_of_ble_eq_true rfl, Nat.le_of_ble_eq_true rfl⟩) (pre_V hK hP hD hS hA hE [4] rfl (by decide) rfl [] rfl (ci := 12) (q0 := 4) rfl rfl) rfl rfl hl.1 rfl (lv_room (Nat.le_of_ble_eq_true rfl)) dL_law_2475 ⟨Nat.le_of_ble_eq_true rfl, Nat.le_of_ble_eq_true rfl⟩) hS (fun q _ h => f_15 q h) f_15 (fun r_16 u_17 t H1 locs ht hvm h_18 hB hz1 hk1 hS => ?_)
  obtain ⟨hP, hD⟩ := join (wc := [(hm, .inr (12, u_13))]) (wr := [(gn 0, .inl (kP, 6, .inr (.inr (.inr (.inr (fun _ => none)))))), (gm 7, .inl (kA, 6, .inr (.inr (.inr (.inr F))))), (rr, .inl (kY, 5, .inl (fun _ => 0))), (o, .inl (kL, 1, .inr (.inl (fun _ => 0))))]) (w1 := [(hm, .inr (12, u_13))]) hP hD f_15 [4] [0, 1, 2, 3] rfl rfl (by decide) (by decide) hk1 ht hB
  generalize H1 = H at hP hS ⊢
  have hP : va_P D vwCl [(gn 0, .inl (kP, 6, .inr (.inr (.inr (.inr (fun _ => none)))))), (gm 7, .inl (kA, 6, .inr (.inr (.inr (.inr F))))), (rr, .inl (kY, 5, .inl (fun _ => 0))), (o, .inl (kL, 1, .inr (.inl (fun _ => 0)))), (hm, .inr (12, u_13))] H := hP
  have hD : va_D (fun q : Nat => s.heap.size ≤ q) [(gn 0, .inl (kP, 6, .inr (.inr (.inr (.inr (fun _ => none)))))), (gm 7, .inl (kA, 6, .inr (.inr (.inr (.inr F))))), (rr, .inl (kY, 5, .inl (fun _ => 0))), (o, .inl (kL, 1, .inr (.inl (fun _ => 0)))), (hm, .inr (12, u_13))] := hD
  obtain rfl := h_18
  refine lv_iload hx hb dL_law_2478 (lv_at hl 1 rfl) ?_
  refine lv_icmp_eq (tgt := 2485) hx hb dL_law_2480 (by decide) (fun _ => ?_) (fun c => absurd (by decide) c)
  refine lv_iload hx hb dL_law_2485 (lv_at hl 1 rfl) ?_
  refine lv_if_ne (tgt := 2502) hx hb dL_law_2487 (by decide) (fun _ => ?_) (fun c => absurd c (by decide))
  refine lv_goto (tgt := 3913) hx hb dL_law_2502 (by decide) ?_
  exact law_tail hx hb hr_ hlocks hX hbl hS (Nat.le_of_ble_eq_true rfl) (Nat.le_of_ble_eq_true rfl) (lv_sub hl [2, 6] rfl)
set_option maxRecDepth 100000 in
set_option maxHeartbeats 4000000 in
theorem case_31 {p : Program} {l : Launch} (hl9 : l.stackTraces = false) {e : Env} {s : State} {m : MethodId} {below : List Frame} {meth : Method} {c : Code} {D : va_G} {a1 a2 b : Nat} {xs : Nat → Int32} {H : Heap} {locs : List Loc} {ls : Array Slot} (h0 h1 h2 : Nat) (g gn gb : Nat → Nat) (kP : ClassId) (hm hr rr : Nat) (gm : Nat → Nat) (kI kA kY : ClassId) (F : Nat → Option Nat) (o : Nat) (kL : ClassId) (hG : LawSt D a1 a2 p s m meth c b xs H locs ls h0 h1 h2 g gn gb kP hm hr rr gm kI kA kY F o kL) : W p l e room_1 s m #[Value.ref b] below meth c H locs 5338 65502 (lw_Z below #[Value.ref b] s) (F0 m 2505 ls []) := by
  obtain ⟨hx, hb, hr_, hml, hown, hts, hX, hbl, hlocks, hP, hK, hD, hA, hE, hS, hF, hl⟩ := hG
  have hbA : ¬ (fun q : Nat => s.heap.size ≤ q) b := Nat.not_le.mpr hbl
  refine lv_aload_n hx hb dL_law_2505 rfl (lv_at hl 3 rfl) ?_
  refine lv_aload_n hx hb dL_law_2506 rfl (lv_at hl 4 rfl) ?_
  refine lv_iload hx hb dL_law_2507 (lv_at hl 0 rfl) ?_
  refine lv_iconst (v := 1) hx hb dL_law_2509 (by decide) ?_
  refine lv_iadd hx hb dL_law_2510 ?_
  refine lv_topi (fun x_1 ex_1 => ?_)
  obtain rfl : x_1 = 1 := ex_1.trans (by decide)
  refine va_sld hx hb hX hbl hbA hS (i := 1) (by unfold vp_in; decide) dL_law_2511 ?_
  refine W.eq (g2 := F0 m 2512 ls [.int (xs 1), .ref h0]) rfl ?_
  refine lv_aload_n hx hb dL_law_2512 rfl (lv_at hl 4 rfl) ?_
  refine lv_iload hx hb dL_law_2513 (lv_at hl 0 rfl) ?_
  refine lv_iconst (v := 2) hx hb dL_law_2515 (by decide) ?_
  refine lv_iadd hx hb dL_law_2516 ?_
  refine lv_topi (fun x_2 ex_2 => ?_)
  obtain rfl : x_2 = 2 := ex_2.trans (by decide)
  refine va_sld hx hb hX hbl hbA hS (i := 2) (by unfold vp_in; decide) dL_law_2517 ?_
  refine W.eq (g2 := F0 m 2518 ls [.int (xs 2), .int (xs 1), .ref h0]) rfl ?_
  refine lv_aload_n hx hb dL_law_2518 rfl (lv_at hl 1 rfl) ?_
  have f_3 := free_of (wc := [(h0, .inr (11, [.ref h1, .ref h2, .ref (g 2), .ref (g 3), .ref (g 4), .ref (g 5), .ref (g 6), .int 0, .int 0, .int 0, .int 0])), (h1, .inr (6, [.ref (gn 0), .int 0, .ref (gn 2), .ref (gn 3), .int 0, .ref (gn 5), .int 0, .int 0])), (h2, .inr (1, [.ref h1, .ref (gb 1), .int 0]))]) hD hS hA [0, 1, 2] rfl
  refine vx_calli (vx_runSX (As := [.ref h0, .int (xs 1), .int (xs 2), .ref o]) (rest := []) ⟨hx, hb, hml, hown, hts⟩ (c_h_forecast l hl9 D a1 a2 H.size h0 h1 h2 g gn gb (xs 1) (xs 2) o) (vx_cwSW 4 hts (gSW w_651 w_652 w_450 w_653) rfl rfl rfl (by decide +kernel) ⟨Nat.le_of_ble_eq_true rfl, Nat.le_of_ble_eq_true rfl⟩) (pre_S hK hP hD hS hA hE [0, 1, 2] rfl (by decide) rfl [] rfl) rfl rfl hl.1 rfl (lv_room (Nat.le_of_ble_eq_true rfl)) dL_law_2519 ⟨Nat.le_of_ble_eq_true rfl, Nat.le_of_ble_eq_true rfl⟩) hS (fun q _ h => f_3 q h) f_3 (fun q _ h => f_3 q h) (fun E ce q9 u9 t H locs ht hvm hw hB hz1 hk1 hS hce hcv hcl => False.elim hw) (fun r_4 u_5 t H1 locs ht hvm h_6 hB hz1 hk1 hS => ?_)
  obtain ⟨hP, hD⟩ := join (wc := [(h0, .inr (11, [.ref h1, .ref h2, .ref (g 2), .ref (g 3), .ref (g 4), .ref (g 5), .ref (g 6), .int 0, .int 0, .int 0, .int 0])), (h1, .inr (6, [.ref (gn 0), .int 0, .ref (gn 2), .ref (gn 3), .int 0, .ref (gn 5), .int 0, .int 0])), (h2, .inr (1, [.ref h1, .ref (gb 1), .int 0]))]) (wr := [(gn 0, .inl (kP, 6, .inr (.inr (.inr (.inr (fun _ => none)))))), (hm, .inr (12, [.int 0, .ref hr, .int 0, .int 0, .int 0, .int 0, .int 0, .ref (gm 7), .ref (gm 8), .ref (gm 9), .ref (gm 10), .ref (gm 11), .ref (gm 12), .ref (gm 13), .ref (gm 14), .int 0, .ref (gm 16), .int 0, .int 0, .int 0, .ref (gm 20), .ref (gm 21), .int 0, .int 0, .int 0, .int 0, .int 0, .int 0, .ref (gm 28), .ref (gm 29)])), (hr, .inl (kI, 2, .inl (fun _ => 0))), (gm 7, .inl (kA, 6, .inr (.inr (.inr (.inr F))))), (rr, .inl (kY, 5, .inl (fun _ => 0))), (o, .inl (kL, 1, .inr (.inl (fun _ => 0))))]) (w1 := []) hP hD f_3 [0, 1, 2] [3, 4, 5, 6, 7, 8] rfl rfl (by decide) (by decide) hk1 ht wat_nil
  generalize H1 = H at hP hS ⊢
  have hP : va_P D vwCl [(gn 0, .inl (kP, 6, .inr (.inr (.inr (.inr (fun _ => none)))))), (hm, .inr (12, [.int 0, .ref hr, .int 0, .int 0, .int 0, .int 0, .int 0, .ref (gm 7), .ref (gm 8), .ref (gm 9), .ref (gm 10), .ref (gm 11), .ref (gm 12), .ref (gm 13), .ref (gm 14), .int 0, .ref (gm 16), .int 0, .int 0, .int 0, .ref (gm 20), .ref (gm 21), .int 0, .int 0, .int 0, .int 0, .int 0, .int 0, .ref (gm 28), .ref (gm 29)])), (hr, .inl (kI, 2, .inl (fun _ => 0))), (gm 7, .inl (kA, 6, .inr (.inr (.inr (.inr F))))), (rr, .inl (kY, 5, .inl (fun _ => 0))), (o, .inl (kL, 1, .inr (.inl (fun _ => 0))))] H := hP
  have hD : va_D (fun q : Nat => s.heap.size ≤ q) [(gn 0, .inl (kP, 6, .inr (.inr (.inr (.inr (fun _ => none)))))), (hm, .inr (12, [.int 0, .ref hr, .int 0, .int 0, .int 0, .int 0, .int 0, .ref (gm 7), .ref (gm 8), .ref (gm 9), .ref (gm 10), .ref (gm 11), .ref (gm 12), .ref (gm 13), .ref (gm 14), .int 0, .ref (gm 16), .int 0, .int 0, .int 0, .ref (gm 20), .ref (gm 21), .int 0, .int 0, .int 0, .int 0, .int 0, .int 0, .ref (gm 28), .ref (gm 29)])), (hr, .inl (kI, 2, .inl (fun _ => 0))), (gm 7, .inl (kA, 6, .inr (.inr (.inr (.inr F))))), (rr, .inl (kY, 5, .inl (fun _ => 0))), (o, .inl (kL, 1, .inr (.inl (fun _ => 0))))] := hD
  obtain rfl := h_6
  refine lv_istore (lv' := [(5, .int 1), (4, .int 0), (3, .ref o), (2, .ref hm), (1, .ref h0), (0, .ref b)]) hx hb dL_law_2522 hl (by decide) rfl (fun ls hl => ?_)
  refine lv_aload_n hx hb dL_law_2524 rfl (lv_at hl 3 rfl) ?_
  refine lv_aload_n hx hb dL_law_2525 rfl (lv_at hl 5 rfl) ?_
  refine lv_iload hx hb dL_law_2526 (lv_at hl 1 rfl) ?_
  refine lv_iconst (v := 1) hx hb dL_law_2528 (by decide) ?_
  refine lv_iadd hx hb dL_law_2529 ?_
  refine lv_topi (fun x_7 ex_7 => ?_)
  obtain rfl : x_7 = 1 := ex_7.trans (by decide)
  refine va_sld hx hb hX hbl hbA hS (i := 1) (by unfold vp_in; decide) dL_law_2530 ?_
  refine W.eq (g2 := F0 m 2531 ls [.int (xs 1), .ref hm]) rfl ?_
  refine lv_aload_n hx hb dL_law_2531 rfl (lv_at hl 5 rfl) ?_
  refine lv_iload hx hb dL_law_2532 (lv_at hl 1 rfl) ?_
  refine lv_iconst (v := 2) hx hb dL_law_2534 (by decide) ?_
  refine lv_iadd hx hb dL_law_2535 ?_
  refine lv_topi (fun x_8 ex_8 => ?_)
  obtain rfl : x_8 = 2 := ex_8.trans (by decide)
  refine va_sld hx hb hX hbl hbA hS (i := 2) (by unfold vp_in; decide) dL_law_2536 ?_
  refine W.eq (g2 := F0 m 2537 ls [.int (xs 2), .int (xs 1), .ref hm]) rfl ?_
  have f_9 := free_of (wc := [(hm, .inr (12, [.int 0, .ref hr, .int 0, .int 0, .int 0, .int 0, .int 0, .ref (gm 7), .ref (gm 8), .ref (gm 9), .ref (gm 10), .ref (gm 11), .ref (gm 12), .ref (gm 13), .ref (gm 14), .int 0, .ref (gm 16), .int 0, .int 0, .int 0, .ref (gm 20), .ref (gm 21), .int 0, .int 0, .int 0, .int 0, .int 0, .int 0, .ref (gm 28), .ref (gm 29)])), (hr, .inl (kI, 2, .inl (fun _ => 0)))]) hD hS hA [1, 2] rfl
  refine va_calli (va_runV (As := [.int (xs 1), .int (xs 2)]) (rest := []) ⟨hx, hb, hml, hown, hts⟩ (c_m_forecast l D a1 a2 H.size hm hr gm kI (xs 1) (xs 2)) (cwV 2 hts (gV w_654 w_655 w_656 w_244 w_657) rfl rfl rfl (by decide +kernel) ⟨Nat.le_of_ble_eq_true rfl, Nat.le_of_ble_eq_true rfl⟩) (pre_V hK hP hD hS hA hE [1, 2] rfl (by decide) rfl [1] rfl (ci := 12) (q0 := 1) rfl rfl) rfl rfl hl.1 rfl (lv_room (Nat.le_of_ble_eq_true rfl)) dL_law_2537 ⟨Nat.le_of_ble_eq_true rfl, Nat.le_of_ble_eq_true rfl⟩) hS (fun q _ h => f_9 q h) f_9 (fun r_10 u_11 t H1 locs ht hvm h_12 hB hz1 hk1 hS => ?_)
  obtain ⟨hP, hD⟩ := join (wc := [(hm, .inr (12, [.int 0, .ref hr, .int 0, .int 0, .int 0, .int 0, .int 0, .ref (gm 7), .ref (gm 8), .ref (gm 9), .ref (gm 10), .ref (gm 11), .ref (gm 12), .ref (gm 13), .ref (gm 14), .int 0, .ref (gm 16), .int 0, .int 0, .int 0, .ref (gm 20), .ref (gm 21), .int 0, .int 0, .int 0, .int 0, .int 0, .int 0, .ref (gm 28), .ref (gm 29)])), (hr, .inl (kI, 2, .inl (fun _ => 0)))]) (wr := [(gn 0, .inl (kP, 6, .inr (.inr (.inr (.inr (fun _ => none)))))), (gm 7, .inl (kA, 6, .inr (.inr (.inr (.inr F))))), (rr, .inl (kY, 5, .inl (fun _ => 0))), (o, .inl (kL, 1, .inr (.inl (fun _ => 0))))]) (w1 := [(hm, .inr (12, u_11))]) hP hD f_9 [1, 2] [0, 3, 4, 5] rfl rfl (by decide) (by decide) hk1 ht hB
  generalize H1 = H at hP hS ⊢
  have hP : va_P D vwCl [(gn 0, .inl (kP, 6, .inr (.inr (.inr (.inr (fun _ => none)))))), (gm 7, .inl (kA, 6, .inr (.inr (.inr (.inr F))))), (rr, .inl (kY, 5, .inl (fun _ => 0))), (o, .inl (kL, 1, .inr (.inl (fun _ => 0)))), (hm, .inr (12, u_11))] H := hP
  have hD : va_D (fun q : Nat => s.heap.size ≤ q) [(gn 0, .inl (kP, 6, .inr (.inr (.inr (.inr (fun _ => none)))))), (gm 7, .inl (kA, 6, .inr (.inr (.inr (.inr F))))), (rr, .inl (kY, 5, .inl (fun _ => 0))), (o, .inl (kL, 1, .inr (.inl (fun _ => 0)))), (hm, .inr (12, u_11))] := hD
  refine lv_istore (lv' := [(6, .int r_10), (5, .int 1), (4, .int 0), (3, .ref o), (2, .ref hm), (1, .ref h0), (0, .ref b)]) hx hb dL_law_2540 hl (by decide) rfl (fun ls hl => ?_)
  refine lv_aload_n hx hb dL_law_2542 rfl (lv_at hl 4 rfl) ?_
  have f_13 := free_of (wc := [(hm, .inr (12, u_11))]) hD hS hA [4] rfl
  refine va_calli (va_runV (As := []) (rest := []) ⟨hx, hb, hml, hown, hts⟩ (c_thrown l D a1 a2 H.size hm u_11 1 h_12) (cwV 0 hts (gV w_458 w_459 w_460 w_244 w_461) rfl rfl rfl (by decide +kernel) ⟨Nat.le_of_ble_eq_true rfl, Nat.le_of_ble_eq_true rfl⟩) (pre_V hK hP hD hS hA hE [4] rfl (by decide) rfl [] rfl (ci := 12) (q0 := 4) rfl rfl) rfl rfl hl.1 rfl (lv_room (Nat.le_of_ble_eq_true rfl)) dL_law_2543 ⟨Nat.le_of_ble_eq_true rfl, Nat.le_of_ble_eq_true rfl⟩) hS (fun q _ h => f_13 q h) f_13 (fun r_14 u_15 t H1 locs ht hvm h_16 hB hz1 hk1 hS => ?_)
  obtain ⟨hP, hD⟩ := join (wc := [(hm, .inr (12, u_11))]) (wr := [(gn 0, .inl (kP, 6, .inr (.inr (.inr (.inr (fun _ => none)))))), (gm 7, .inl (kA, 6, .inr (.inr (.inr (.inr F))))), (rr, .inl (kY, 5, .inl (fun _ => 0))), (o, .inl (kL, 1, .inr (.inl (fun _ => 0))))]) (w1 := [(hm, .inr (12, u_11))]) hP hD f_13 [4] [0, 1, 2, 3] rfl rfl (by decide) (by decide) hk1 ht hB
  generalize H1 = H at hP hS ⊢
  have hP : va_P D vwCl [(gn 0, .inl (kP, 6, .inr (.inr (.inr (.inr (fun _ => none)))))), (gm 7, .inl (kA, 6, .inr (.inr (.inr (.inr F))))), (rr, .inl (kY, 5, .inl (fun _ => 0))), (o, .inl (kL, 1, .inr (.inl (fun _ => 0)))), (hm, .inr (12, u_11))] H := hP
  have hD : va_D (fun q : Nat => s.heap.size ≤ q) [(gn 0, .inl (kP, 6, .inr (.inr (.inr (.inr (fun _ => none)))))), (gm 7, .inl (kA, 6, .inr (.inr (.inr (.inr F))))), (rr, .inl (kY, 5, .inl (fun _ => 0))), (o, .inl (kL, 1, .inr (.inl (fun _ => 0)))), (hm, .inr (12, u_11))] := hD
  obtain rfl := h_16
  refine lv_iload hx hb dL_law_2546 (lv_at hl 1 rfl) ?_
  refine lv_icmp_eq (tgt := 2553) hx hb dL_law_2548 (by decide) (fun _ => ?_) (fun c => absurd (by decide) c)
  refine lv_iload hx hb dL_law_2553 (lv_at hl 1 rfl) ?_
  refine lv_if_ne (tgt := 2570) hx hb dL_law_2555 (by decide) (fun _ => ?_) (fun c => absurd c (by decide))
  refine lv_goto (tgt := 3913) hx hb dL_law_2570 (by decide) ?_
  exact law_tail hx hb hr_ hlocks hX hbl hS (Nat.le_of_ble_eq_true rfl) (Nat.le_of_ble_eq_true rfl) (lv_sub hl [2, 6] rfl)
set_option maxRecDepth 100000 in
set_option maxHeartbeats 4000000 in
theorem case_32 {p : Program} {l : Launch} (hl9 : l.stackTraces = false) {e : Env} {s : State} {m : MethodId} {below : List Frame} {meth : Method} {c : Code} {D : va_G} {a1 a2 b : Nat} {xs : Nat → Int32} {H : Heap} {locs : List Loc} {ls : Array Slot} (h0 h1 h2 : Nat) (g gn gb : Nat → Nat) (kP : ClassId) (hm hr rr : Nat) (gm : Nat → Nat) (kI kA kY : ClassId) (F : Nat → Option Nat) (o : Nat) (kL : ClassId) (hG : LawSt D a1 a2 p s m meth c b xs H locs ls h0 h1 h2 g gn gb kP hm hr rr gm kI kA kY F o kL) : W p l e room_1 s m #[Value.ref b] below meth c H locs 5338 65502 (lw_Z below #[Value.ref b] s) (F0 m 2573 ls []) := by
  obtain ⟨hx, hb, hr_, hml, hown, hts, hX, hbl, hlocks, hP, hK, hD, hA, hE, hS, hF, hl⟩ := hG
  have hbA : ¬ (fun q : Nat => s.heap.size ≤ q) b := Nat.not_le.mpr hbl
  refine lv_aload_n hx hb dL_law_2573 rfl (lv_at hl 3 rfl) ?_
  refine lv_aload_n hx hb dL_law_2574 rfl (lv_at hl 4 rfl) ?_
  refine lv_iload hx hb dL_law_2575 (lv_at hl 0 rfl) ?_
  refine lv_iconst (v := 1) hx hb dL_law_2577 (by decide) ?_
  refine lv_iadd hx hb dL_law_2578 ?_
  refine lv_topi (fun x_1 ex_1 => ?_)
  obtain rfl : x_1 = 1 := ex_1.trans (by decide)
  refine va_sld hx hb hX hbl hbA hS (i := 1) (by unfold vp_in; decide) dL_law_2579 ?_
  refine W.eq (g2 := F0 m 2580 ls [.int (xs 1), .ref h0]) rfl ?_
  refine lv_aload_n hx hb dL_law_2580 rfl (lv_at hl 4 rfl) ?_
  refine lv_iload hx hb dL_law_2581 (lv_at hl 0 rfl) ?_
  refine lv_iconst (v := 2) hx hb dL_law_2583 (by decide) ?_
  refine lv_iadd hx hb dL_law_2584 ?_
  refine lv_topi (fun x_2 ex_2 => ?_)
  obtain rfl : x_2 = 2 := ex_2.trans (by decide)
  refine va_sld hx hb hX hbl hbA hS (i := 2) (by unfold vp_in; decide) dL_law_2585 ?_
  refine W.eq (g2 := F0 m 2586 ls [.int (xs 2), .int (xs 1), .ref h0]) rfl ?_
  refine lv_aload_n hx hb dL_law_2586 rfl (lv_at hl 1 rfl) ?_
  have f_3 := free_of (wc := [(h0, .inr (11, [.ref h1, .ref h2, .ref (g 2), .ref (g 3), .ref (g 4), .ref (g 5), .ref (g 6), .int 0, .int 0, .int 0, .int 0])), (h1, .inr (6, [.ref (gn 0), .int 0, .ref (gn 2), .ref (gn 3), .int 0, .ref (gn 5), .int 0, .int 0])), (h2, .inr (1, [.ref h1, .ref (gb 1), .int 0]))]) hD hS hA [0, 1, 2] rfl
  refine vx_calli (vx_runSX (As := [.ref h0, .int (xs 1), .int (xs 2), .ref o]) (rest := []) ⟨hx, hb, hml, hown, hts⟩ (c_h_lowest l hl9 D a1 a2 H.size h0 h1 h2 g gn gb (xs 1) (xs 2) o) (vx_cwSW 4 hts (gSW w_658 w_659 w_450 w_660) rfl rfl rfl (by decide +kernel) ⟨Nat.le_of_ble_eq_true rfl, Nat.le_of_ble_eq_true rfl⟩) (pre_S hK hP hD hS hA hE [0, 1, 2] rfl (by decide) rfl [] rfl) rfl rfl hl.1 rfl (lv_room (Nat.le_of_ble_eq_true rfl)) dL_law_2587 ⟨Nat.le_of_ble_eq_true rfl, Nat.le_of_ble_eq_true rfl⟩) hS (fun q _ h => f_3 q h) f_3 (fun q _ h => f_3 q h) (fun E ce q9 u9 t H locs ht hvm hw hB hz1 hk1 hS hce hcv hcl => False.elim hw) (fun r_4 u_5 t H1 locs ht hvm h_6 hB hz1 hk1 hS => ?_)
  obtain ⟨hP, hD⟩ := join (wc := [(h0, .inr (11, [.ref h1, .ref h2, .ref (g 2), .ref (g 3), .ref (g 4), .ref (g 5), .ref (g 6), .int 0, .int 0, .int 0, .int 0])), (h1, .inr (6, [.ref (gn 0), .int 0, .ref (gn 2), .ref (gn 3), .int 0, .ref (gn 5), .int 0, .int 0])), (h2, .inr (1, [.ref h1, .ref (gb 1), .int 0]))]) (wr := [(gn 0, .inl (kP, 6, .inr (.inr (.inr (.inr (fun _ => none)))))), (hm, .inr (12, [.int 0, .ref hr, .int 0, .int 0, .int 0, .int 0, .int 0, .ref (gm 7), .ref (gm 8), .ref (gm 9), .ref (gm 10), .ref (gm 11), .ref (gm 12), .ref (gm 13), .ref (gm 14), .int 0, .ref (gm 16), .int 0, .int 0, .int 0, .ref (gm 20), .ref (gm 21), .int 0, .int 0, .int 0, .int 0, .int 0, .int 0, .ref (gm 28), .ref (gm 29)])), (hr, .inl (kI, 2, .inl (fun _ => 0))), (gm 7, .inl (kA, 6, .inr (.inr (.inr (.inr F))))), (rr, .inl (kY, 5, .inl (fun _ => 0))), (o, .inl (kL, 1, .inr (.inl (fun _ => 0))))]) (w1 := []) hP hD f_3 [0, 1, 2] [3, 4, 5, 6, 7, 8] rfl rfl (by decide) (by decide) hk1 ht wat_nil
  generalize H1 = H at hP hS ⊢
  have hP : va_P D vwCl [(gn 0, .inl (kP, 6, .inr (.inr (.inr (.inr (fun _ => none)))))), (hm, .inr (12, [.int 0, .ref hr, .int 0, .int 0, .int 0, .int 0, .int 0, .ref (gm 7), .ref (gm 8), .ref (gm 9), .ref (gm 10), .ref (gm 11), .ref (gm 12), .ref (gm 13), .ref (gm 14), .int 0, .ref (gm 16), .int 0, .int 0, .int 0, .ref (gm 20), .ref (gm 21), .int 0, .int 0, .int 0, .int 0, .int 0, .int 0, .ref (gm 28), .ref (gm 29)])), (hr, .inl (kI, 2, .inl (fun _ => 0))), (gm 7, .inl (kA, 6, .inr (.inr (.inr (.inr F))))), (rr, .inl (kY, 5, .inl (fun _ => 0))), (o, .inl (kL, 1, .inr (.inl (fun _ => 0))))] H := hP
  have hD : va_D (fun q : Nat => s.heap.size ≤ q) [(gn 0, .inl (kP, 6, .inr (.inr (.inr (.inr (fun _ => none)))))), (hm, .inr (12, [.int 0, .ref hr, .int 0, .int 0, .int 0, .int 0, .int 0, .ref (gm 7), .ref (gm 8), .ref (gm 9), .ref (gm 10), .ref (gm 11), .ref (gm 12), .ref (gm 13), .ref (gm 14), .int 0, .ref (gm 16), .int 0, .int 0, .int 0, .ref (gm 20), .ref (gm 21), .int 0, .int 0, .int 0, .int 0, .int 0, .int 0, .ref (gm 28), .ref (gm 29)])), (hr, .inl (kI, 2, .inl (fun _ => 0))), (gm 7, .inl (kA, 6, .inr (.inr (.inr (.inr F))))), (rr, .inl (kY, 5, .inl (fun _ => 0))), (o, .inl (kL, 1, .inr (.inl (fun _ => 0))))] := hD
  obtain rfl := h_6
  refine lv_istore (lv' := [(5, .int 1), (4, .int 0), (3, .ref o), (2, .ref hm), (1, .ref h0), (0, .ref b)]) hx hb dL_law_2590 hl (by decide) rfl (fun ls hl => ?_)
  refine lv_aload_n hx hb dL_law_2592 rfl (lv_at hl 3 rfl) ?_
  refine lv_aload_n hx hb dL_law_2593 rfl (lv_at hl 5 rfl) ?_
  refine lv_iload hx hb dL_law_2594 (lv_at hl 1 rfl) ?_
  refine lv_iconst (v := 1) hx hb dL_law_2596 (by decide) ?_
  refine lv_iadd hx hb dL_law_2597 ?_
  refine lv_topi (fun x_7 ex_7 => ?_)
  obtain rfl : x_7 = 1 := ex_7.trans (by decide)
  refine va_sld hx hb hX hbl hbA hS (i := 1) (by unfold vp_in; decide) dL_law_2598 ?_
  refine W.eq (g2 := F0 m 2599 ls [.int (xs 1), .ref hm]) rfl ?_
  refine lv_aload_n hx hb dL_law_2599 rfl (lv_at hl 5 rfl) ?_
  refine lv_iload hx hb dL_law_2600 (lv_at hl 1 rfl) ?_
  refine lv_iconst (v := 2) hx hb dL_law_2602 (by decide) ?_
  refine lv_iadd hx hb dL_law_2603 ?_
  refine lv_topi (fun x_8 ex_8 => ?_)
  obtain rfl : x_8 = 2 := ex_8.trans (by decide)
  refine va_sld hx hb hX hbl hbA hS (i := 2) (by unfold vp_in; decide) dL_law_2604 ?_
  refine W.eq (g2 := F0 m 2605 ls [.int (xs 2), .int (xs 1), .ref hm]) rfl ?_
  have f_9 := free_of (wc := [(hm, .inr (12, [.int 0, .ref hr, .int 0, .int 0, .int 0, .int 0, .int 0, .ref (gm 7), .ref (gm 8), .ref (gm 9), .ref (gm 10), .ref (gm 11), .ref (gm 12), .ref (gm 13), .ref (gm 14), .int 0, .ref (gm 16), .int 0, .int 0, .int 0, .ref (gm 20), .ref (gm 21), .int 0, .int 0, .int 0, .int 0, .int 0, .int 0, .ref (gm 28), .ref (gm 29)])), (hr, .inl (kI, 2, .inl (fun _ => 0)))]) hD hS hA [1, 2] rfl
  refine va_calli (va_runV (As := [.int (xs 1), .int (xs 2)]) (rest := []) ⟨hx, hb, hml, hown, hts⟩ (c_m_lowest l D a1 a2 H.size hm hr gm kI (xs 1) (xs 2)) (cwV 2 hts (gV w_661 w_662 w_663 w_244 w_664) rfl rfl rfl (by decide +kernel) ⟨Nat.le_of_ble_eq_true rfl, Nat.le_of_ble_eq_true rfl⟩) (pre_V hK hP hD hS hA hE [1, 2] rfl (by decide) rfl [1] rfl (ci := 12) (q0 := 1) rfl rfl) rfl rfl hl.1 rfl (lv_room (Nat.le_of_ble_eq_true rfl)) dL_law_2605 ⟨Nat.le_of_ble_eq_true rfl, Nat.le_of_ble_eq_true rfl⟩) hS (fun q _ h => f_9 q h) f_9 (fun r_10 u_11 t H1 locs ht hvm h_12 hB hz1 hk1 hS => ?_)
  obtain ⟨hP, hD⟩ := join (wc := [(hm, .inr (12, [.int 0, .ref hr, .int 0, .int 0, .int 0, .int 0, .int 0, .ref (gm 7), .ref (gm 8), .ref (gm 9), .ref (gm 10), .ref (gm 11), .ref (gm 12), .ref (gm 13), .ref (gm 14), .int 0, .ref (gm 16), .int 0, .int 0, .int 0, .ref (gm 20), .ref (gm 21), .int 0, .int 0, .int 0, .int 0, .int 0, .int 0, .ref (gm 28), .ref (gm 29)])), (hr, .inl (kI, 2, .inl (fun _ => 0)))]) (wr := [(gn 0, .inl (kP, 6, .inr (.inr (.inr (.inr (fun _ => none)))))), (gm 7, .inl (kA, 6, .inr (.inr (.inr (.inr F))))), (rr, .inl (kY, 5, .inl (fun _ => 0))), (o, .inl (kL, 1, .inr (.inl (fun _ => 0))))]) (w1 := [(hm, .inr (12, u_11))]) hP hD f_9 [1, 2] [0, 3, 4, 5] rfl rfl (by decide) (by decide) hk1 ht hB
  generalize H1 = H at hP hS ⊢
  have hP : va_P D vwCl [(gn 0, .inl (kP, 6, .inr (.inr (.inr (.inr (fun _ => none)))))), (gm 7, .inl (kA, 6, .inr (.inr (.inr (.inr F))))), (rr, .inl (kY, 5, .inl (fun _ => 0))), (o, .inl (kL, 1, .inr (.inl (fun _ => 0)))), (hm, .inr (12, u_11))] H := hP
  have hD : va_D (fun q : Nat => s.heap.size ≤ q) [(gn 0, .inl (kP, 6, .inr (.inr (.inr (.inr (fun _ => none)))))), (gm 7, .inl (kA, 6, .inr (.inr (.inr (.inr F))))), (rr, .inl (kY, 5, .inl (fun _ => 0))), (o, .inl (kL, 1, .inr (.inl (fun _ => 0)))), (hm, .inr (12, u_11))] := hD
  refine lv_istore (lv' := [(6, .int r_10), (5, .int 1), (4, .int 0), (3, .ref o), (2, .ref hm), (1, .ref h0), (0, .ref b)]) hx hb dL_law_2608 hl (by decide) rfl (fun ls hl => ?_)
  refine lv_aload_n hx hb dL_law_2610 rfl (lv_at hl 4 rfl) ?_
  have f_13 := free_of (wc := [(hm, .inr (12, u_11))]) hD hS hA [4] rfl
  refine va_calli (va_runV (As := []) (rest := []) ⟨hx, hb, hml, hown, hts⟩ (c_thrown l D a1 a2 H.size hm u_11 1 h_12) (cwV 0 hts (gV w_458 w_459 w_460 w_244 w_461) rfl rfl rfl (by decide +kernel) ⟨Nat.le_of_ble_eq_true rfl, Nat.le_of_ble_eq_true rfl⟩) (pre_V hK hP hD hS hA hE [4] rfl (by decide) rfl [] rfl (ci := 12) (q0 := 4) rfl rfl) rfl rfl hl.1 rfl (lv_room (Nat.le_of_ble_eq_true rfl)) dL_law_2611 ⟨Nat.le_of_ble_eq_true rfl, Nat.le_of_ble_eq_true rfl⟩) hS (fun q _ h => f_13 q h) f_13 (fun r_14 u_15 t H1 locs ht hvm h_16 hB hz1 hk1 hS => ?_)
  obtain ⟨hP, hD⟩ := join (wc := [(hm, .inr (12, u_11))]) (wr := [(gn 0, .inl (kP, 6, .inr (.inr (.inr (.inr (fun _ => none)))))), (gm 7, .inl (kA, 6, .inr (.inr (.inr (.inr F))))), (rr, .inl (kY, 5, .inl (fun _ => 0))), (o, .inl (kL, 1, .inr (.inl (fun _ => 0))))]) (w1 := [(hm, .inr (12, u_11))]) hP hD f_13 [4] [0, 1, 2, 3] rfl rfl (by decide) (by decide) hk1 ht hB
  generalize H1 = H at hP hS ⊢
  have hP : va_P D vwCl [(gn 0, .inl (kP, 6, .inr (.inr (.inr (.inr (fun _ => none)))))), (gm 7, .inl (kA, 6, .inr (.inr (.inr (.inr F))))), (rr, .inl (kY, 5, .inl (fun _ => 0))), (o, .inl (kL, 1, .inr (.inl (fun _ => 0)))), (hm, .inr (12, u_11))] H := hP
  have hD : va_D (fun q : Nat => s.heap.size ≤ q) [(gn 0, .inl (kP, 6, .inr (.inr (.inr (.inr (fun _ => none)))))), (gm 7, .inl (kA, 6, .inr (.inr (.inr (.inr F))))), (rr, .inl (kY, 5, .inl (fun _ => 0))), (o, .inl (kL, 1, .inr (.inl (fun _ => 0)))), (hm, .inr (12, u_11))] := hD
  obtain rfl := h_16
  refine lv_iload hx hb dL_law_2614 (lv_at hl 1 rfl) ?_
  refine lv_icmp_eq (tgt := 2621) hx hb dL_law_2616 (by decide) (fun _ => ?_) (fun c => absurd (by decide) c)
  refine lv_iload hx hb dL_law_2621 (lv_at hl 1 rfl) ?_
  refine lv_if_ne (tgt := 2638) hx hb dL_law_2623 (by decide) (fun _ => ?_) (fun c => absurd c (by decide))
  refine lv_goto (tgt := 3913) hx hb dL_law_2638 (by decide) ?_
  exact law_tail hx hb hr_ hlocks hX hbl hS (Nat.le_of_ble_eq_true rfl) (Nat.le_of_ble_eq_true rfl) (lv_sub hl [2, 6] rfl)
set_option maxRecDepth 100000 in
set_option maxHeartbeats 4000000 in
theorem case_33 {p : Program} {l : Launch} (hl9 : l.stackTraces = false) {e : Env} {s : State} {m : MethodId} {below : List Frame} {meth : Method} {c : Code} {D : va_G} {a1 a2 b : Nat} {xs : Nat → Int32} {H : Heap} {locs : List Loc} {ls : Array Slot} (h0 h1 h2 : Nat) (g gn gb : Nat → Nat) (kP : ClassId) (hm hr rr : Nat) (gm : Nat → Nat) (kI kA kY : ClassId) (F : Nat → Option Nat) (o : Nat) (kL : ClassId) (hG : LawSt D a1 a2 p s m meth c b xs H locs ls h0 h1 h2 g gn gb kP hm hr rr gm kI kA kY F o kL) : W p l e room_1 s m #[Value.ref b] below meth c H locs 5338 65502 (lw_Z below #[Value.ref b] s) (F0 m 2641 ls []) := by
  obtain ⟨hx, hb, hr_, hml, hown, hts, hX, hbl, hlocks, hP, hK, hD, hA, hE, hS, hF, hl⟩ := hG
  have hbA : ¬ (fun q : Nat => s.heap.size ≤ q) b := Nat.not_le.mpr hbl
  refine lv_aload_n hx hb dL_law_2641 rfl (lv_at hl 3 rfl) ?_
  refine lv_aload_n hx hb dL_law_2642 rfl (lv_at hl 4 rfl) ?_
  refine lv_iload hx hb dL_law_2643 (lv_at hl 0 rfl) ?_
  refine lv_iconst (v := 1) hx hb dL_law_2645 (by decide) ?_
  refine lv_iadd hx hb dL_law_2646 ?_
  refine lv_topi (fun x_1 ex_1 => ?_)
  obtain rfl : x_1 = 1 := ex_1.trans (by decide)
  refine va_sld hx hb hX hbl hbA hS (i := 1) (by unfold vp_in; decide) dL_law_2647 ?_
  refine W.eq (g2 := F0 m 2648 ls [.int (xs 1), .ref h0]) rfl ?_
  refine lv_aload_n hx hb dL_law_2648 rfl (lv_at hl 1 rfl) ?_
  have f_2 := free_of (wc := [(h0, .inr (11, [.ref h1, .ref h2, .ref (g 2), .ref (g 3), .ref (g 4), .ref (g 5), .ref (g 6), .int 0, .int 0, .int 0, .int 0])), (h1, .inr (6, [.ref (gn 0), .int 0, .ref (gn 2), .ref (gn 3), .int 0, .ref (gn 5), .int 0, .int 0])), (h2, .inr (1, [.ref h1, .ref (gb 1), .int 0]))]) hD hS hA [0, 1, 2] rfl
  refine vx_calli (vx_runSX (As := [.ref h0, .int (xs 1), .ref o]) (rest := []) ⟨hx, hb, hml, hown, hts⟩ (c_h_late l hl9 D a1 a2 H.size h0 h1 h2 g gn gb (xs 1) o) (vx_cwSW 3 hts (gSW w_665 w_666 w_450 w_667) rfl rfl rfl (by decide +kernel) ⟨Nat.le_of_ble_eq_true rfl, Nat.le_of_ble_eq_true rfl⟩) (pre_S hK hP hD hS hA hE [0, 1, 2] rfl (by decide) rfl [] rfl) rfl rfl hl.1 rfl (lv_room (Nat.le_of_ble_eq_true rfl)) dL_law_2649 ⟨Nat.le_of_ble_eq_true rfl, Nat.le_of_ble_eq_true rfl⟩) hS (fun q _ h => f_2 q h) f_2 (fun q _ h => f_2 q h) (fun E ce q9 u9 t H locs ht hvm hw hB hz1 hk1 hS hce hcv hcl => False.elim hw) (fun r_3 u_4 t H1 locs ht hvm h_5 hB hz1 hk1 hS => ?_)
  obtain ⟨hP, hD⟩ := join (wc := [(h0, .inr (11, [.ref h1, .ref h2, .ref (g 2), .ref (g 3), .ref (g 4), .ref (g 5), .ref (g 6), .int 0, .int 0, .int 0, .int 0])), (h1, .inr (6, [.ref (gn 0), .int 0, .ref (gn 2), .ref (gn 3), .int 0, .ref (gn 5), .int 0, .int 0])), (h2, .inr (1, [.ref h1, .ref (gb 1), .int 0]))]) (wr := [(gn 0, .inl (kP, 6, .inr (.inr (.inr (.inr (fun _ => none)))))), (hm, .inr (12, [.int 0, .ref hr, .int 0, .int 0, .int 0, .int 0, .int 0, .ref (gm 7), .ref (gm 8), .ref (gm 9), .ref (gm 10), .ref (gm 11), .ref (gm 12), .ref (gm 13), .ref (gm 14), .int 0, .ref (gm 16), .int 0, .int 0, .int 0, .ref (gm 20), .ref (gm 21), .int 0, .int 0, .int 0, .int 0, .int 0, .int 0, .ref (gm 28), .ref (gm 29)])), (hr, .inl (kI, 2, .inl (fun _ => 0))), (gm 7, .inl (kA, 6, .inr (.inr (.inr (.inr F))))), (rr, .inl (kY, 5, .inl (fun _ => 0))), (o, .inl (kL, 1, .inr (.inl (fun _ => 0))))]) (w1 := []) hP hD f_2 [0, 1, 2] [3, 4, 5, 6, 7, 8] rfl rfl (by decide) (by decide) hk1 ht wat_nil
  generalize H1 = H at hP hS ⊢
  have hP : va_P D vwCl [(gn 0, .inl (kP, 6, .inr (.inr (.inr (.inr (fun _ => none)))))), (hm, .inr (12, [.int 0, .ref hr, .int 0, .int 0, .int 0, .int 0, .int 0, .ref (gm 7), .ref (gm 8), .ref (gm 9), .ref (gm 10), .ref (gm 11), .ref (gm 12), .ref (gm 13), .ref (gm 14), .int 0, .ref (gm 16), .int 0, .int 0, .int 0, .ref (gm 20), .ref (gm 21), .int 0, .int 0, .int 0, .int 0, .int 0, .int 0, .ref (gm 28), .ref (gm 29)])), (hr, .inl (kI, 2, .inl (fun _ => 0))), (gm 7, .inl (kA, 6, .inr (.inr (.inr (.inr F))))), (rr, .inl (kY, 5, .inl (fun _ => 0))), (o, .inl (kL, 1, .inr (.inl (fun _ => 0))))] H := hP
  have hD : va_D (fun q : Nat => s.heap.size ≤ q) [(gn 0, .inl (kP, 6, .inr (.inr (.inr (.inr (fun _ => none)))))), (hm, .inr (12, [.int 0, .ref hr, .int 0, .int 0, .int 0, .int 0, .int 0, .ref (gm 7), .ref (gm 8), .ref (gm 9), .ref (gm 10), .ref (gm 11), .ref (gm 12), .ref (gm 13), .ref (gm 14), .int 0, .ref (gm 16), .int 0, .int 0, .int 0, .ref (gm 20), .ref (gm 21), .int 0, .int 0, .int 0, .int 0, .int 0, .int 0, .ref (gm 28), .ref (gm 29)])), (hr, .inl (kI, 2, .inl (fun _ => 0))), (gm 7, .inl (kA, 6, .inr (.inr (.inr (.inr F))))), (rr, .inl (kY, 5, .inl (fun _ => 0))), (o, .inl (kL, 1, .inr (.inl (fun _ => 0))))] := hD
  obtain rfl := h_5
  refine lv_istore (lv' := [(5, .int 1), (4, .int 0), (3, .ref o), (2, .ref hm), (1, .ref h0), (0, .ref b)]) hx hb dL_law_2652 hl (by decide) rfl (fun ls hl => ?_)
  refine lv_aload_n hx hb dL_law_2654 rfl (lv_at hl 3 rfl) ?_
  refine lv_aload_n hx hb dL_law_2655 rfl (lv_at hl 5 rfl) ?_
  refine lv_iload hx hb dL_law_2656 (lv_at hl 1 rfl) ?_
  refine lv_iconst (v := 1) hx hb dL_law_2658 (by decide) ?_
  refine lv_iadd hx hb dL_law_2659 ?_
  refine lv_topi (fun x_6 ex_6 => ?_)
  obtain rfl : x_6 = 1 := ex_6.trans (by decide)
  refine va_sld hx hb hX hbl hbA hS (i := 1) (by unfold vp_in; decide) dL_law_2660 ?_
  refine W.eq (g2 := F0 m 2661 ls [.int (xs 1), .ref hm]) rfl ?_
  have f_7 := free_of (wc := [(hm, .inr (12, [.int 0, .ref hr, .int 0, .int 0, .int 0, .int 0, .int 0, .ref (gm 7), .ref (gm 8), .ref (gm 9), .ref (gm 10), .ref (gm 11), .ref (gm 12), .ref (gm 13), .ref (gm 14), .int 0, .ref (gm 16), .int 0, .int 0, .int 0, .ref (gm 20), .ref (gm 21), .int 0, .int 0, .int 0, .int 0, .int 0, .int 0, .ref (gm 28), .ref (gm 29)])), (hr, .inl (kI, 2, .inl (fun _ => 0)))]) hD hS hA [1, 2] rfl
  refine va_calli (va_runV (As := [.int (xs 1)]) (rest := []) ⟨hx, hb, hml, hown, hts⟩ (c_m_late l D a1 a2 H.size hm hr gm kI (xs 1)) (cwV 1 hts (gV w_668 w_669 w_670 w_244 w_671) rfl rfl rfl (by decide +kernel) ⟨Nat.le_of_ble_eq_true rfl, Nat.le_of_ble_eq_true rfl⟩) (pre_V hK hP hD hS hA hE [1, 2] rfl (by decide) rfl [1] rfl (ci := 12) (q0 := 1) rfl rfl) rfl rfl hl.1 rfl (lv_room (Nat.le_of_ble_eq_true rfl)) dL_law_2661 ⟨Nat.le_of_ble_eq_true rfl, Nat.le_of_ble_eq_true rfl⟩) hS (fun q _ h => f_7 q h) f_7 (fun r_8 u_9 t H1 locs ht hvm h_10 hB hz1 hk1 hS => ?_)
  obtain ⟨hP, hD⟩ := join (wc := [(hm, .inr (12, [.int 0, .ref hr, .int 0, .int 0, .int 0, .int 0, .int 0, .ref (gm 7), .ref (gm 8), .ref (gm 9), .ref (gm 10), .ref (gm 11), .ref (gm 12), .ref (gm 13), .ref (gm 14), .int 0, .ref (gm 16), .int 0, .int 0, .int 0, .ref (gm 20), .ref (gm 21), .int 0, .int 0, .int 0, .int 0, .int 0, .int 0, .ref (gm 28), .ref (gm 29)])), (hr, .inl (kI, 2, .inl (fun _ => 0)))]) (wr := [(gn 0, .inl (kP, 6, .inr (.inr (.inr (.inr (fun _ => none)))))), (gm 7, .inl (kA, 6, .inr (.inr (.inr (.inr F))))), (rr, .inl (kY, 5, .inl (fun _ => 0))), (o, .inl (kL, 1, .inr (.inl (fun _ => 0))))]) (w1 := [(hm, .inr (12, u_9))]) hP hD f_7 [1, 2] [0, 3, 4, 5] rfl rfl (by decide) (by decide) hk1 ht hB
  generalize H1 = H at hP hS ⊢
  have hP : va_P D vwCl [(gn 0, .inl (kP, 6, .inr (.inr (.inr (.inr (fun _ => none)))))), (gm 7, .inl (kA, 6, .inr (.inr (.inr (.inr F))))), (rr, .inl (kY, 5, .inl (fun _ => 0))), (o, .inl (kL, 1, .inr (.inl (fun _ => 0)))), (hm, .inr (12, u_9))] H := hP
  have hD : va_D (fun q : Nat => s.heap.size ≤ q) [(gn 0, .inl (kP, 6, .inr (.inr (.inr (.inr (fun _ => none)))))), (gm 7, .inl (kA, 6, .inr (.inr (.inr (.inr F))))), (rr, .inl (kY, 5, .inl (fun _ => 0))), (o, .inl (kL, 1, .inr (.inl (fun _ => 0)))), (hm, .inr (12, u_9))] := hD
  refine lv_istore (lv' := [(6, .int r_8), (5, .int 1), (4, .int 0), (3, .ref o), (2, .ref hm), (1, .ref h0), (0, .ref b)]) hx hb dL_law_2664 hl (by decide) rfl (fun ls hl => ?_)
  refine lv_aload_n hx hb dL_law_2666 rfl (lv_at hl 4 rfl) ?_
  have f_11 := free_of (wc := [(hm, .inr (12, u_9))]) hD hS hA [4] rfl
  refine va_calli (va_runV (As := []) (rest := []) ⟨hx, hb, hml, hown, hts⟩ (c_thrown l D a1 a2 H.size hm u_9 1 h_10) (cwV 0 hts (gV w_458 w_459 w_460 w_244 w_461) rfl rfl rfl (by decide +kernel) ⟨Nat.le_of_ble_eq_true rfl, Nat.le_of_ble_eq_true rfl⟩) (pre_V hK hP hD hS hA hE [4] rfl (by decide) rfl [] rfl (ci := 12) (q0 := 4) rfl rfl) rfl rfl hl.1 rfl (lv_room (Nat.le_of_ble_eq_true rfl)) dL_law_2667 ⟨Nat.le_of_ble_eq_true rfl, Nat.le_of_ble_eq_true rfl⟩) hS (fun q _ h => f_11 q h) f_11 (fun r_12 u_13 t H1 locs ht hvm h_14 hB hz1 hk1 hS => ?_)
  obtain ⟨hP, hD⟩ := join (wc := [(hm, .inr (12, u_9))]) (wr := [(gn 0, .inl (kP, 6, .inr (.inr (.inr (.inr (fun _ => none)))))), (gm 7, .inl (kA, 6, .inr (.inr (.inr (.inr F))))), (rr, .inl (kY, 5, .inl (fun _ => 0))), (o, .inl (kL, 1, .inr (.inl (fun _ => 0))))]) (w1 := [(hm, .inr (12, u_9))]) hP hD f_11 [4] [0, 1, 2, 3] rfl rfl (by decide) (by decide) hk1 ht hB
  generalize H1 = H at hP hS ⊢
  have hP : va_P D vwCl [(gn 0, .inl (kP, 6, .inr (.inr (.inr (.inr (fun _ => none)))))), (gm 7, .inl (kA, 6, .inr (.inr (.inr (.inr F))))), (rr, .inl (kY, 5, .inl (fun _ => 0))), (o, .inl (kL, 1, .inr (.inl (fun _ => 0)))), (hm, .inr (12, u_9))] H := hP
  have hD : va_D (fun q : Nat => s.heap.size ≤ q) [(gn 0, .inl (kP, 6, .inr (.inr (.inr (.inr (fun _ => none)))))), (gm 7, .inl (kA, 6, .inr (.inr (.inr (.inr F))))), (rr, .inl (kY, 5, .inl (fun _ => 0))), (o, .inl (kL, 1, .inr (.inl (fun _ => 0)))), (hm, .inr (12, u_9))] := hD
  obtain rfl := h_14
  refine lv_iload hx hb dL_law_2670 (lv_at hl 1 rfl) ?_
  refine lv_icmp_eq (tgt := 2677) hx hb dL_law_2672 (by decide) (fun _ => ?_) (fun c => absurd (by decide) c)
  refine lv_iload hx hb dL_law_2677 (lv_at hl 1 rfl) ?_
  refine lv_if_ne (tgt := 2694) hx hb dL_law_2679 (by decide) (fun _ => ?_) (fun c => absurd c (by decide))
  refine lv_goto (tgt := 3913) hx hb dL_law_2694 (by decide) ?_
  exact law_tail hx hb hr_ hlocks hX hbl hS (Nat.le_of_ble_eq_true rfl) (Nat.le_of_ble_eq_true rfl) (lv_sub hl [2, 6] rfl)
set_option maxRecDepth 100000 in
set_option maxHeartbeats 4000000 in
theorem case_34 {p : Program} {l : Launch} (hl9 : l.stackTraces = false) {e : Env} {s : State} {m : MethodId} {below : List Frame} {meth : Method} {c : Code} {D : va_G} {a1 a2 b : Nat} {xs : Nat → Int32} {H : Heap} {locs : List Loc} {ls : Array Slot} (h0 h1 h2 : Nat) (g gn gb : Nat → Nat) (kP : ClassId) (hm hr rr : Nat) (gm : Nat → Nat) (kI kA kY : ClassId) (F : Nat → Option Nat) (o : Nat) (kL : ClassId) (hG : LawSt D a1 a2 p s m meth c b xs H locs ls h0 h1 h2 g gn gb kP hm hr rr gm kI kA kY F o kL) : W p l e room_1 s m #[Value.ref b] below meth c H locs 5338 65502 (lw_Z below #[Value.ref b] s) (F0 m 2697 ls []) := by
  obtain ⟨hx, hb, hr_, hml, hown, hts, hX, hbl, hlocks, hP, hK, hD, hA, hE, hS, hF, hl⟩ := hG
  have hbA : ¬ (fun q : Nat => s.heap.size ≤ q) b := Nat.not_le.mpr hbl
  refine lv_aload_n hx hb dL_law_2697 rfl (lv_at hl 3 rfl) ?_
  refine lv_aload_n hx hb dL_law_2698 rfl (lv_at hl 4 rfl) ?_
  refine lv_iload hx hb dL_law_2699 (lv_at hl 0 rfl) ?_
  refine lv_iconst (v := 1) hx hb dL_law_2701 (by decide) ?_
  refine lv_iadd hx hb dL_law_2702 ?_
  refine lv_topi (fun x_1 ex_1 => ?_)
  obtain rfl : x_1 = 1 := ex_1.trans (by decide)
  refine va_sld hx hb hX hbl hbA hS (i := 1) (by unfold vp_in; decide) dL_law_2703 ?_
  refine W.eq (g2 := F0 m 2704 ls [.int (xs 1), .ref h0]) rfl ?_
  refine lv_aload_n hx hb dL_law_2704 rfl (lv_at hl 4 rfl) ?_
  refine lv_iload hx hb dL_law_2705 (lv_at hl 0 rfl) ?_
  refine lv_iconst (v := 2) hx hb dL_law_2707 (by decide) ?_
  refine lv_iadd hx hb dL_law_2708 ?_
  refine lv_topi (fun x_2 ex_2 => ?_)
  obtain rfl : x_2 = 2 := ex_2.trans (by decide)
  refine va_sld hx hb hX hbl hbA hS (i := 2) (by unfold vp_in; decide) dL_law_2709 ?_
  refine W.eq (g2 := F0 m 2710 ls [.int (xs 2), .int (xs 1), .ref h0]) rfl ?_
  refine lv_aload_n hx hb dL_law_2710 rfl (lv_at hl 4 rfl) ?_
  refine lv_iload hx hb dL_law_2711 (lv_at hl 0 rfl) ?_
  refine lv_iconst (v := 3) hx hb dL_law_2713 (by decide) ?_
  refine lv_iadd hx hb dL_law_2714 ?_
  refine lv_topi (fun x_3 ex_3 => ?_)
  obtain rfl : x_3 = 3 := ex_3.trans (by decide)
  refine va_sld hx hb hX hbl hbA hS (i := 3) (by unfold vp_in; decide) dL_law_2715 ?_
  refine W.eq (g2 := F0 m 2716 ls [.int (xs 3), .int (xs 2), .int (xs 1), .ref h0]) rfl ?_
  refine lv_aload_n hx hb dL_law_2716 rfl (lv_at hl 1 rfl) ?_
  have f_4 := free_of (wc := [(h0, .inr (11, [.ref h1, .ref h2, .ref (g 2), .ref (g 3), .ref (g 4), .ref (g 5), .ref (g 6), .int 0, .int 0, .int 0, .int 0])), (h1, .inr (6, [.ref (gn 0), .int 0, .ref (gn 2), .ref (gn 3), .int 0, .ref (gn 5), .int 0, .int 0])), (h2, .inr (1, [.ref h1, .ref (gb 1), .int 0]))]) hD hS hA [0, 1, 2] rfl
  refine vx_calli (vx_runSX (As := [.ref h0, .int (xs 1), .int (xs 2), .int (xs 3), .ref o]) (rest := []) ⟨hx, hb, hml, hown, hts⟩ (c_h_leaves l hl9 D a1 a2 H.size h0 h1 h2 g gn gb (xs 1) (xs 2) (xs 3) o) (vx_cwSW 5 hts (gSW w_672 w_673 w_450 w_674) rfl rfl rfl (by decide +kernel) ⟨Nat.le_of_ble_eq_true rfl, Nat.le_of_ble_eq_true rfl⟩) (pre_S hK hP hD hS hA hE [0, 1, 2] rfl (by decide) rfl [] rfl) rfl rfl hl.1 rfl (lv_room (Nat.le_of_ble_eq_true rfl)) dL_law_2717 ⟨Nat.le_of_ble_eq_true rfl, Nat.le_of_ble_eq_true rfl⟩) hS (fun q _ h => f_4 q h) f_4 (fun q _ h => f_4 q h) (fun E ce q9 u9 t H locs ht hvm hw hB hz1 hk1 hS hce hcv hcl => False.elim hw) (fun r_5 u_6 t H1 locs ht hvm h_7 hB hz1 hk1 hS => ?_)
  obtain ⟨hP, hD⟩ := join (wc := [(h0, .inr (11, [.ref h1, .ref h2, .ref (g 2), .ref (g 3), .ref (g 4), .ref (g 5), .ref (g 6), .int 0, .int 0, .int 0, .int 0])), (h1, .inr (6, [.ref (gn 0), .int 0, .ref (gn 2), .ref (gn 3), .int 0, .ref (gn 5), .int 0, .int 0])), (h2, .inr (1, [.ref h1, .ref (gb 1), .int 0]))]) (wr := [(gn 0, .inl (kP, 6, .inr (.inr (.inr (.inr (fun _ => none)))))), (hm, .inr (12, [.int 0, .ref hr, .int 0, .int 0, .int 0, .int 0, .int 0, .ref (gm 7), .ref (gm 8), .ref (gm 9), .ref (gm 10), .ref (gm 11), .ref (gm 12), .ref (gm 13), .ref (gm 14), .int 0, .ref (gm 16), .int 0, .int 0, .int 0, .ref (gm 20), .ref (gm 21), .int 0, .int 0, .int 0, .int 0, .int 0, .int 0, .ref (gm 28), .ref (gm 29)])), (hr, .inl (kI, 2, .inl (fun _ => 0))), (gm 7, .inl (kA, 6, .inr (.inr (.inr (.inr F))))), (rr, .inl (kY, 5, .inl (fun _ => 0))), (o, .inl (kL, 1, .inr (.inl (fun _ => 0))))]) (w1 := []) hP hD f_4 [0, 1, 2] [3, 4, 5, 6, 7, 8] rfl rfl (by decide) (by decide) hk1 ht wat_nil
  generalize H1 = H at hP hS ⊢
  have hP : va_P D vwCl [(gn 0, .inl (kP, 6, .inr (.inr (.inr (.inr (fun _ => none)))))), (hm, .inr (12, [.int 0, .ref hr, .int 0, .int 0, .int 0, .int 0, .int 0, .ref (gm 7), .ref (gm 8), .ref (gm 9), .ref (gm 10), .ref (gm 11), .ref (gm 12), .ref (gm 13), .ref (gm 14), .int 0, .ref (gm 16), .int 0, .int 0, .int 0, .ref (gm 20), .ref (gm 21), .int 0, .int 0, .int 0, .int 0, .int 0, .int 0, .ref (gm 28), .ref (gm 29)])), (hr, .inl (kI, 2, .inl (fun _ => 0))), (gm 7, .inl (kA, 6, .inr (.inr (.inr (.inr F))))), (rr, .inl (kY, 5, .inl (fun _ => 0))), (o, .inl (kL, 1, .inr (.inl (fun _ => 0))))] H := hP
  have hD : va_D (fun q : Nat => s.heap.size ≤ q) [(gn 0, .inl (kP, 6, .inr (.inr (.inr (.inr (fun _ => none)))))), (hm, .inr (12, [.int 0, .ref hr, .int 0, .int 0, .int 0, .int 0, .int 0, .ref (gm 7), .ref (gm 8), .ref (gm 9), .ref (gm 10), .ref (gm 11), .ref (gm 12), .ref (gm 13), .ref (gm 14), .int 0, .ref (gm 16), .int 0, .int 0, .int 0, .ref (gm 20), .ref (gm 21), .int 0, .int 0, .int 0, .int 0, .int 0, .int 0, .ref (gm 28), .ref (gm 29)])), (hr, .inl (kI, 2, .inl (fun _ => 0))), (gm 7, .inl (kA, 6, .inr (.inr (.inr (.inr F))))), (rr, .inl (kY, 5, .inl (fun _ => 0))), (o, .inl (kL, 1, .inr (.inl (fun _ => 0))))] := hD
  obtain rfl := h_7
  refine lv_istore (lv' := [(5, .int 1), (4, .int 0), (3, .ref o), (2, .ref hm), (1, .ref h0), (0, .ref b)]) hx hb dL_law_2720 hl (by decide) rfl (fun ls hl => ?_)
  refine lv_aload_n hx hb dL_law_2722 rfl (lv_at hl 3 rfl) ?_
  refine lv_aload_n hx hb dL_law_2723 rfl (lv_at hl 5 rfl) ?_
  refine lv_iload hx hb dL_law_2724 (lv_at hl 1 rfl) ?_
  refine lv_iconst (v := 1) hx hb dL_law_2726 (by decide) ?_
  refine lv_iadd hx hb dL_law_2727 ?_
  refine lv_topi (fun x_8 ex_8 => ?_)
  obtain rfl : x_8 = 1 := ex_8.trans (by decide)
  refine va_sld hx hb hX hbl hbA hS (i := 1) (by unfold vp_in; decide) dL_law_2728 ?_
  refine W.eq (g2 := F0 m 2729 ls [.int (xs 1), .ref hm]) rfl ?_
  refine lv_aload_n hx hb dL_law_2729 rfl (lv_at hl 5 rfl) ?_
  refine lv_iload hx hb dL_law_2730 (lv_at hl 1 rfl) ?_
  refine lv_iconst (v := 2) hx hb dL_law_2732 (by decide) ?_
  refine lv_iadd hx hb dL_law_2733 ?_
  refine lv_topi (fun x_9 ex_9 => ?_)
  obtain rfl : x_9 = 2 := ex_9.trans (by decide)
  refine va_sld hx hb hX hbl hbA hS (i := 2) (by unfold vp_in; decide) dL_law_2734 ?_
  refine W.eq (g2 := F0 m 2735 ls [.int (xs 2), .int (xs 1), .ref hm]) rfl ?_
  refine lv_aload_n hx hb dL_law_2735 rfl (lv_at hl 5 rfl) ?_
  refine lv_iload hx hb dL_law_2736 (lv_at hl 1 rfl) ?_
  refine lv_iconst (v := 3) hx hb dL_law_2738 (by decide) ?_
  refine lv_iadd hx hb dL_law_2739 ?_
  refine lv_topi (fun x_10 ex_10 => ?_)
  obtain rfl : x_10 = 3 := ex_10.trans (by decide)
  refine va_sld hx hb hX hbl hbA hS (i := 3) (by unfold vp_in; decide) dL_law_2740 ?_
  refine W.eq (g2 := F0 m 2741 ls [.int (xs 3), .int (xs 2), .int (xs 1), .ref hm]) rfl ?_
  have f_11 := free_of (wc := [(hm, .inr (12, [.int 0, .ref hr, .int 0, .int 0, .int 0, .int 0, .int 0, .ref (gm 7), .ref (gm 8), .ref (gm 9), .ref (gm 10), .ref (gm 11), .ref (gm 12), .ref (gm 13), .ref (gm 14), .int 0, .ref (gm 16), .int 0, .int 0, .int 0, .ref (gm 20), .ref (gm 21), .int 0, .int 0, .int 0, .int 0, .int 0, .int 0, .ref (gm 28), .ref (gm 29)])), (hr, .inl (kI, 2, .inl (fun _ => 0)))]) hD hS hA [1, 2] rfl
  refine va_calli (va_runV (As := [.int (xs 1), .int (xs 2), .int (xs 3)]) (rest := []) ⟨hx, hb, hml, hown, hts⟩ (c_m_leaves l D a1 a2 H.size hm hr gm kI (xs 1) (xs 2) (xs 3)) (cwV 3 hts (gV w_675 w_676 w_677 w_244 w_678) rfl rfl rfl (by decide +kernel) ⟨Nat.le_of_ble_eq_true rfl, Nat.le_of_ble_eq_true rfl⟩) (pre_V hK hP hD hS hA hE [1, 2] rfl (by decide) rfl [1] rfl (ci := 12) (q0 := 1) rfl rfl) rfl rfl hl.1 rfl (lv_room (Nat.le_of_ble_eq_true rfl)) dL_law_2741 ⟨Nat.le_of_ble_eq_true rfl, Nat.le_of_ble_eq_true rfl⟩) hS (fun q _ h => f_11 q h) f_11 (fun r_12 u_13 t H1 locs ht hvm h_14 hB hz1 hk1 hS => ?_)
  obtain ⟨hP, hD⟩ := join (wc := [(hm, .inr (12, [.int 0, .ref hr, .int 0, .int 0, .int 0, .int 0, .int 0, .ref (gm 7), .ref (gm 8), .ref (gm 9), .ref (gm 10), .ref (gm 11), .ref (gm 12), .ref (gm 13), .ref (gm 14), .int 0, .ref (gm 16), .int 0, .int 0, .int 0, .ref (gm 20), .ref (gm 21), .int 0, .int 0, .int 0, .int 0, .int 0, .int 0, .ref (gm 28), .ref (gm 29)])), (hr, .inl (kI, 2, .inl (fun _ => 0)))]) (wr := [(gn 0, .inl (kP, 6, .inr (.inr (.inr (.inr (fun _ => none)))))), (gm 7, .inl (kA, 6, .inr (.inr (.inr (.inr F))))), (rr, .inl (kY, 5, .inl (fun _ => 0))), (o, .inl (kL, 1, .inr (.inl (fun _ => 0))))]) (w1 := [(hm, .inr (12, u_13))]) hP hD f_11 [1, 2] [0, 3, 4, 5] rfl rfl (by decide) (by decide) hk1 ht hB
  generalize H1 = H at hP hS ⊢
  have hP : va_P D vwCl [(gn 0, .inl (kP, 6, .inr (.inr (.inr (.inr (fun _ => none)))))), (gm 7, .inl (kA, 6, .inr (.inr (.inr (.inr F))))), (rr, .inl (kY, 5, .inl (fun _ => 0))), (o, .inl (kL, 1, .inr (.inl (fun _ => 0)))), (hm, .inr (12, u_13))] H := hP
  have hD : va_D (fun q : Nat => s.heap.size ≤ q) [(gn 0, .inl (kP, 6, .inr (.inr (.inr (.inr (fun _ => none)))))), (gm 7, .inl (kA, 6, .inr (.inr (.inr (.inr F))))), (rr, .inl (kY, 5, .inl (fun _ => 0))), (o, .inl (kL, 1, .inr (.inl (fun _ => 0)))), (hm, .inr (12, u_13))] := hD
  refine lv_istore (lv' := [(6, .int r_12), (5, .int 1), (4, .int 0), (3, .ref o), (2, .ref hm), (1, .ref h0), (0, .ref b)]) hx hb dL_law_2744 hl (by decide) rfl (fun ls hl => ?_)
  refine lv_aload_n hx hb dL_law_2746 rfl (lv_at hl 4 rfl) ?_
  have f_15 := free_of (wc := [(hm, .inr (12, u_13))]) hD hS hA [4] rfl
  refine va_calli (va_runV (As := []) (rest := []) ⟨hx, hb, hml, hown, hts⟩ (c_thrown l D a1 a2 H.size hm u_13 1 h_14) (cwV 0 hts (gV w_458 w_459 w_460 w_244 w_461) rfl rfl rfl (by decide +kernel) ⟨Nat.le_of_ble_eq_true rfl, Nat.le_of_ble_eq_true rfl⟩) (pre_V hK hP hD hS hA hE [4] rfl (by decide) rfl [] rfl (ci := 12) (q0 := 4) rfl rfl) rfl rfl hl.1 rfl (lv_room (Nat.le_of_ble_eq_true rfl)) dL_law_2747 ⟨Nat.le_of_ble_eq_true rfl, Nat.le_of_ble_eq_true rfl⟩) hS (fun q _ h => f_15 q h) f_15 (fun r_16 u_17 t H1 locs ht hvm h_18 hB hz1 hk1 hS => ?_)
  obtain ⟨hP, hD⟩ := join (wc := [(hm, .inr (12, u_13))]) (wr := [(gn 0, .inl (kP, 6, .inr (.inr (.inr (.inr (fun _ => none)))))), (gm 7, .inl (kA, 6, .inr (.inr (.inr (.inr F))))), (rr, .inl (kY, 5, .inl (fun _ => 0))), (o, .inl (kL, 1, .inr (.inl (fun _ => 0))))]) (w1 := [(hm, .inr (12, u_13))]) hP hD f_15 [4] [0, 1, 2, 3] rfl rfl (by decide) (by decide) hk1 ht hB
  generalize H1 = H at hP hS ⊢
  have hP : va_P D vwCl [(gn 0, .inl (kP, 6, .inr (.inr (.inr (.inr (fun _ => none)))))), (gm 7, .inl (kA, 6, .inr (.inr (.inr (.inr F))))), (rr, .inl (kY, 5, .inl (fun _ => 0))), (o, .inl (kL, 1, .inr (.inl (fun _ => 0)))), (hm, .inr (12, u_13))] H := hP
  have hD : va_D (fun q : Nat => s.heap.size ≤ q) [(gn 0, .inl (kP, 6, .inr (.inr (.inr (.inr (fun _ => none)))))), (gm 7, .inl (kA, 6, .inr (.inr (.inr (.inr F))))), (rr, .inl (kY, 5, .inl (fun _ => 0))), (o, .inl (kL, 1, .inr (.inl (fun _ => 0)))), (hm, .inr (12, u_13))] := hD
  obtain rfl := h_18
  refine lv_iload hx hb dL_law_2750 (lv_at hl 1 rfl) ?_
  refine lv_icmp_eq (tgt := 2757) hx hb dL_law_2752 (by decide) (fun _ => ?_) (fun c => absurd (by decide) c)
  refine lv_iload hx hb dL_law_2757 (lv_at hl 1 rfl) ?_
  refine lv_if_ne (tgt := 2774) hx hb dL_law_2759 (by decide) (fun _ => ?_) (fun c => absurd c (by decide))
  refine lv_goto (tgt := 3913) hx hb dL_law_2774 (by decide) ?_
  exact law_tail hx hb hr_ hlocks hX hbl hS (Nat.le_of_ble_eq_true rfl) (Nat.le_of_ble_eq_true rfl) (lv_sub hl [2, 6] rfl)
set_option maxRecDepth 100000 in
set_option maxHeartbeats 4000000 in
theorem case_35 {p : Program} {l : Launch} (hl9 : l.stackTraces = false) {e : Env} {s : State} {m : MethodId} {below : List Frame} {meth : Method} {c : Code} {D : va_G} {a1 a2 b : Nat} {xs : Nat → Int32} {H : Heap} {locs : List Loc} {ls : Array Slot} (h0 h1 h2 : Nat) (g gn gb : Nat → Nat) (kP : ClassId) (hm hr rr : Nat) (gm : Nat → Nat) (kI kA kY : ClassId) (F : Nat → Option Nat) (o : Nat) (kL : ClassId) (hG : LawSt D a1 a2 p s m meth c b xs H locs ls h0 h1 h2 g gn gb kP hm hr rr gm kI kA kY F o kL) : W p l e room_1 s m #[Value.ref b] below meth c H locs 5338 65502 (lw_Z below #[Value.ref b] s) (F0 m 2777 ls []) := by
  obtain ⟨hx, hb, hr_, hml, hown, hts, hX, hbl, hlocks, hP, hK, hD, hA, hE, hS, hF, hl⟩ := hG
  have hbA : ¬ (fun q : Nat => s.heap.size ≤ q) b := Nat.not_le.mpr hbl
  refine lv_aload_n hx hb dL_law_2777 rfl (lv_at hl 3 rfl) ?_
  refine lv_aload_n hx hb dL_law_2778 rfl (lv_at hl 4 rfl) ?_
  refine lv_iload hx hb dL_law_2779 (lv_at hl 0 rfl) ?_
  refine lv_iconst (v := 1) hx hb dL_law_2781 (by decide) ?_
  refine lv_iadd hx hb dL_law_2782 ?_
  refine lv_topi (fun x_1 ex_1 => ?_)
  obtain rfl : x_1 = 1 := ex_1.trans (by decide)
  refine va_sld hx hb hX hbl hbA hS (i := 1) (by unfold vp_in; decide) dL_law_2783 ?_
  refine W.eq (g2 := F0 m 2784 ls [.int (xs 1), .ref h0]) rfl ?_
  refine lv_aload_n hx hb dL_law_2784 rfl (lv_at hl 4 rfl) ?_
  refine lv_iload hx hb dL_law_2785 (lv_at hl 0 rfl) ?_
  refine lv_iconst (v := 2) hx hb dL_law_2787 (by decide) ?_
  refine lv_iadd hx hb dL_law_2788 ?_
  refine lv_topi (fun x_2 ex_2 => ?_)
  obtain rfl : x_2 = 2 := ex_2.trans (by decide)
  refine va_sld hx hb hX hbl hbA hS (i := 2) (by unfold vp_in; decide) dL_law_2789 ?_
  refine W.eq (g2 := F0 m 2790 ls [.int (xs 2), .int (xs 1), .ref h0]) rfl ?_
  refine lv_aload_n hx hb dL_law_2790 rfl (lv_at hl 4 rfl) ?_
  refine lv_iload hx hb dL_law_2791 (lv_at hl 0 rfl) ?_
  refine lv_iconst (v := 3) hx hb dL_law_2793 (by decide) ?_
  refine lv_iadd hx hb dL_law_2794 ?_
  refine lv_topi (fun x_3 ex_3 => ?_)
  obtain rfl : x_3 = 3 := ex_3.trans (by decide)
  refine va_sld hx hb hX hbl hbA hS (i := 3) (by unfold vp_in; decide) dL_law_2795 ?_
  refine W.eq (g2 := F0 m 2796 ls [.int (xs 3), .int (xs 2), .int (xs 1), .ref h0]) rfl ?_
  refine lv_aload_n hx hb dL_law_2796 rfl (lv_at hl 1 rfl) ?_
  have f_4 := free_of (wc := [(h0, .inr (11, [.ref h1, .ref h2, .ref (g 2), .ref (g 3), .ref (g 4), .ref (g 5), .ref (g 6), .int 0, .int 0, .int 0, .int 0])), (h1, .inr (6, [.ref (gn 0), .int 0, .ref (gn 2), .ref (gn 3), .int 0, .ref (gn 5), .int 0, .int 0])), (h2, .inr (1, [.ref h1, .ref (gb 1), .int 0]))]) hD hS hA [0, 1, 2] rfl
  refine vx_calli (vx_runSX (As := [.ref h0, .int (xs 1), .int (xs 2), .int (xs 3), .ref o]) (rest := []) ⟨hx, hb, hml, hown, hts⟩ (c_h_arrives l hl9 D a1 a2 H.size h0 h1 h2 g gn gb (xs 1) (xs 2) (xs 3) o) (vx_cwSW 5 hts (gSW w_679 w_680 w_450 w_681) rfl rfl rfl (by decide +kernel) ⟨Nat.le_of_ble_eq_true rfl, Nat.le_of_ble_eq_true rfl⟩) (pre_S hK hP hD hS hA hE [0, 1, 2] rfl (by decide) rfl [] rfl) rfl rfl hl.1 rfl (lv_room (Nat.le_of_ble_eq_true rfl)) dL_law_2797 ⟨Nat.le_of_ble_eq_true rfl, Nat.le_of_ble_eq_true rfl⟩) hS (fun q _ h => f_4 q h) f_4 (fun q _ h => f_4 q h) (fun E ce q9 u9 t H locs ht hvm hw hB hz1 hk1 hS hce hcv hcl => False.elim hw) (fun r_5 u_6 t H1 locs ht hvm h_7 hB hz1 hk1 hS => ?_)
  obtain ⟨hP, hD⟩ := join (wc := [(h0, .inr (11, [.ref h1, .ref h2, .ref (g 2), .ref (g 3), .ref (g 4), .ref (g 5), .ref (g 6), .int 0, .int 0, .int 0, .int 0])), (h1, .inr (6, [.ref (gn 0), .int 0, .ref (gn 2), .ref (gn 3), .int 0, .ref (gn 5), .int 0, .int 0])), (h2, .inr (1, [.ref h1, .ref (gb 1), .int 0]))]) (wr := [(gn 0, .inl (kP, 6, .inr (.inr (.inr (.inr (fun _ => none)))))), (hm, .inr (12, [.int 0, .ref hr, .int 0, .int 0, .int 0, .int 0, .int 0, .ref (gm 7), .ref (gm 8), .ref (gm 9), .ref (gm 10), .ref (gm 11), .ref (gm 12), .ref (gm 13), .ref (gm 14), .int 0, .ref (gm 16), .int 0, .int 0, .int 0, .ref (gm 20), .ref (gm 21), .int 0, .int 0, .int 0, .int 0, .int 0, .int 0, .ref (gm 28), .ref (gm 29)])), (hr, .inl (kI, 2, .inl (fun _ => 0))), (gm 7, .inl (kA, 6, .inr (.inr (.inr (.inr F))))), (rr, .inl (kY, 5, .inl (fun _ => 0))), (o, .inl (kL, 1, .inr (.inl (fun _ => 0))))]) (w1 := []) hP hD f_4 [0, 1, 2] [3, 4, 5, 6, 7, 8] rfl rfl (by decide) (by decide) hk1 ht wat_nil
  generalize H1 = H at hP hS ⊢
  have hP : va_P D vwCl [(gn 0, .inl (kP, 6, .inr (.inr (.inr (.inr (fun _ => none)))))), (hm, .inr (12, [.int 0, .ref hr, .int 0, .int 0, .int 0, .int 0, .int 0, .ref (gm 7), .ref (gm 8), .ref (gm 9), .ref (gm 10), .ref (gm 11), .ref (gm 12), .ref (gm 13), .ref (gm 14), .int 0, .ref (gm 16), .int 0, .int 0, .int 0, .ref (gm 20), .ref (gm 21), .int 0, .int 0, .int 0, .int 0, .int 0, .int 0, .ref (gm 28), .ref (gm 29)])), (hr, .inl (kI, 2, .inl (fun _ => 0))), (gm 7, .inl (kA, 6, .inr (.inr (.inr (.inr F))))), (rr, .inl (kY, 5, .inl (fun _ => 0))), (o, .inl (kL, 1, .inr (.inl (fun _ => 0))))] H := hP
  have hD : va_D (fun q : Nat => s.heap.size ≤ q) [(gn 0, .inl (kP, 6, .inr (.inr (.inr (.inr (fun _ => none)))))), (hm, .inr (12, [.int 0, .ref hr, .int 0, .int 0, .int 0, .int 0, .int 0, .ref (gm 7), .ref (gm 8), .ref (gm 9), .ref (gm 10), .ref (gm 11), .ref (gm 12), .ref (gm 13), .ref (gm 14), .int 0, .ref (gm 16), .int 0, .int 0, .int 0, .ref (gm 20), .ref (gm 21), .int 0, .int 0, .int 0, .int 0, .int 0, .int 0, .ref (gm 28), .ref (gm 29)])), (hr, .inl (kI, 2, .inl (fun _ => 0))), (gm 7, .inl (kA, 6, .inr (.inr (.inr (.inr F))))), (rr, .inl (kY, 5, .inl (fun _ => 0))), (o, .inl (kL, 1, .inr (.inl (fun _ => 0))))] := hD
  obtain rfl := h_7
  refine lv_istore (lv' := [(5, .int 1), (4, .int 0), (3, .ref o), (2, .ref hm), (1, .ref h0), (0, .ref b)]) hx hb dL_law_2800 hl (by decide) rfl (fun ls hl => ?_)
  refine lv_aload_n hx hb dL_law_2802 rfl (lv_at hl 3 rfl) ?_
  refine lv_aload_n hx hb dL_law_2803 rfl (lv_at hl 5 rfl) ?_
  refine lv_iload hx hb dL_law_2804 (lv_at hl 1 rfl) ?_
  refine lv_iconst (v := 1) hx hb dL_law_2806 (by decide) ?_
  refine lv_iadd hx hb dL_law_2807 ?_
  refine lv_topi (fun x_8 ex_8 => ?_)
  obtain rfl : x_8 = 1 := ex_8.trans (by decide)
  refine va_sld hx hb hX hbl hbA hS (i := 1) (by unfold vp_in; decide) dL_law_2808 ?_
  refine W.eq (g2 := F0 m 2809 ls [.int (xs 1), .ref hm]) rfl ?_
  refine lv_aload_n hx hb dL_law_2809 rfl (lv_at hl 5 rfl) ?_
  refine lv_iload hx hb dL_law_2810 (lv_at hl 1 rfl) ?_
  refine lv_iconst (v := 2) hx hb dL_law_2812 (by decide) ?_
  refine lv_iadd hx hb dL_law_2813 ?_
  refine lv_topi (fun x_9 ex_9 => ?_)
  obtain rfl : x_9 = 2 := ex_9.trans (by decide)
  refine va_sld hx hb hX hbl hbA hS (i := 2) (by unfold vp_in; decide) dL_law_2814 ?_
  refine W.eq (g2 := F0 m 2815 ls [.int (xs 2), .int (xs 1), .ref hm]) rfl ?_
  refine lv_aload_n hx hb dL_law_2815 rfl (lv_at hl 5 rfl) ?_
  refine lv_iload hx hb dL_law_2816 (lv_at hl 1 rfl) ?_
  refine lv_iconst (v := 3) hx hb dL_law_2818 (by decide) ?_
  refine lv_iadd hx hb dL_law_2819 ?_
  refine lv_topi (fun x_10 ex_10 => ?_)
  obtain rfl : x_10 = 3 := ex_10.trans (by decide)
  refine va_sld hx hb hX hbl hbA hS (i := 3) (by unfold vp_in; decide) dL_law_2820 ?_
  refine W.eq (g2 := F0 m 2821 ls [.int (xs 3), .int (xs 2), .int (xs 1), .ref hm]) rfl ?_
  have f_11 := free_of (wc := [(hm, .inr (12, [.int 0, .ref hr, .int 0, .int 0, .int 0, .int 0, .int 0, .ref (gm 7), .ref (gm 8), .ref (gm 9), .ref (gm 10), .ref (gm 11), .ref (gm 12), .ref (gm 13), .ref (gm 14), .int 0, .ref (gm 16), .int 0, .int 0, .int 0, .ref (gm 20), .ref (gm 21), .int 0, .int 0, .int 0, .int 0, .int 0, .int 0, .ref (gm 28), .ref (gm 29)])), (hr, .inl (kI, 2, .inl (fun _ => 0)))]) hD hS hA [1, 2] rfl
  refine va_calli (va_runV (As := [.int (xs 1), .int (xs 2), .int (xs 3)]) (rest := []) ⟨hx, hb, hml, hown, hts⟩ (c_m_arrives l D a1 a2 H.size hm hr gm kI (xs 1) (xs 2) (xs 3)) (cwV 3 hts (gV w_682 w_683 w_684 w_244 w_685) rfl rfl rfl (by decide +kernel) ⟨Nat.le_of_ble_eq_true rfl, Nat.le_of_ble_eq_true rfl⟩) (pre_V hK hP hD hS hA hE [1, 2] rfl (by decide) rfl [1] rfl (ci := 12) (q0 := 1) rfl rfl) rfl rfl hl.1 rfl (lv_room (Nat.le_of_ble_eq_true rfl)) dL_law_2821 ⟨Nat.le_of_ble_eq_true rfl, Nat.le_of_ble_eq_true rfl⟩) hS (fun q _ h => f_11 q h) f_11 (fun r_12 u_13 t H1 locs ht hvm h_14 hB hz1 hk1 hS => ?_)
  obtain ⟨hP, hD⟩ := join (wc := [(hm, .inr (12, [.int 0, .ref hr, .int 0, .int 0, .int 0, .int 0, .int 0, .ref (gm 7), .ref (gm 8), .ref (gm 9), .ref (gm 10), .ref (gm 11), .ref (gm 12), .ref (gm 13), .ref (gm 14), .int 0, .ref (gm 16), .int 0, .int 0, .int 0, .ref (gm 20), .ref (gm 21), .int 0, .int 0, .int 0, .int 0, .int 0, .int 0, .ref (gm 28), .ref (gm 29)])), (hr, .inl (kI, 2, .inl (fun _ => 0)))]) (wr := [(gn 0, .inl (kP, 6, .inr (.inr (.inr (.inr (fun _ => none)))))), (gm 7, .inl (kA, 6, .inr (.inr (.inr (.inr F))))), (rr, .inl (kY, 5, .inl (fun _ => 0))), (o, .inl (kL, 1, .inr (.inl (fun _ => 0))))]) (w1 := [(hm, .inr (12, u_13))]) hP hD f_11 [1, 2] [0, 3, 4, 5] rfl rfl (by decide) (by decide) hk1 ht hB
  generalize H1 = H at hP hS ⊢
  have hP : va_P D vwCl [(gn 0, .inl (kP, 6, .inr (.inr (.inr (.inr (fun _ => none)))))), (gm 7, .inl (kA, 6, .inr (.inr (.inr (.inr F))))), (rr, .inl (kY, 5, .inl (fun _ => 0))), (o, .inl (kL, 1, .inr (.inl (fun _ => 0)))), (hm, .inr (12, u_13))] H := hP
  have hD : va_D (fun q : Nat => s.heap.size ≤ q) [(gn 0, .inl (kP, 6, .inr (.inr (.inr (.inr (fun _ => none)))))), (gm 7, .inl (kA, 6, .inr (.inr (.inr (.inr F))))), (rr, .inl (kY, 5, .inl (fun _ => 0))), (o, .inl (kL, 1, .inr (.inl (fun _ => 0)))), (hm, .inr (12, u_13))] := hD
  refine lv_istore (lv' := [(6, .int r_12), (5, .int 1), (4, .int 0), (3, .ref o), (2, .ref hm), (1, .ref h0), (0, .ref b)]) hx hb dL_law_2824 hl (by decide) rfl (fun ls hl => ?_)
  refine lv_aload_n hx hb dL_law_2826 rfl (lv_at hl 4 rfl) ?_
  have f_15 := free_of (wc := [(hm, .inr (12, u_13))]) hD hS hA [4] rfl
  refine va_calli (va_runV (As := []) (rest := []) ⟨hx, hb, hml, hown, hts⟩ (c_thrown l D a1 a2 H.size hm u_13 1 h_14) (cwV 0 hts (gV w_458 w_459 w_460 w_244 w_461) rfl rfl rfl (by decide +kernel) ⟨Nat.le_of_ble_eq_true rfl, Nat.le_of_ble_eq_true rfl⟩) (pre_V hK hP hD hS hA hE [4] rfl (by decide) rfl [] rfl (ci := 12) (q0 := 4) rfl rfl) rfl rfl hl.1 rfl (lv_room (Nat.le_of_ble_eq_true rfl)) dL_law_2827 ⟨Nat.le_of_ble_eq_true rfl, Nat.le_of_ble_eq_true rfl⟩) hS (fun q _ h => f_15 q h) f_15 (fun r_16 u_17 t H1 locs ht hvm h_18 hB hz1 hk1 hS => ?_)
  obtain ⟨hP, hD⟩ := join (wc := [(hm, .inr (12, u_13))]) (wr := [(gn 0, .inl (kP, 6, .inr (.inr (.inr (.inr (fun _ => none)))))), (gm 7, .inl (kA, 6, .inr (.inr (.inr (.inr F))))), (rr, .inl (kY, 5, .inl (fun _ => 0))), (o, .inl (kL, 1, .inr (.inl (fun _ => 0))))]) (w1 := [(hm, .inr (12, u_13))]) hP hD f_15 [4] [0, 1, 2, 3] rfl rfl (by decide) (by decide) hk1 ht hB
  generalize H1 = H at hP hS ⊢
  have hP : va_P D vwCl [(gn 0, .inl (kP, 6, .inr (.inr (.inr (.inr (fun _ => none)))))), (gm 7, .inl (kA, 6, .inr (.inr (.inr (.inr F))))), (rr, .inl (kY, 5, .inl (fun _ => 0))), (o, .inl (kL, 1, .inr (.inl (fun _ => 0)))), (hm, .inr (12, u_13))] H := hP
  have hD : va_D (fun q : Nat => s.heap.size ≤ q) [(gn 0, .inl (kP, 6, .inr (.inr (.inr (.inr (fun _ => none)))))), (gm 7, .inl (kA, 6, .inr (.inr (.inr (.inr F))))), (rr, .inl (kY, 5, .inl (fun _ => 0))), (o, .inl (kL, 1, .inr (.inl (fun _ => 0)))), (hm, .inr (12, u_13))] := hD
  obtain rfl := h_18
  refine lv_iload hx hb dL_law_2830 (lv_at hl 1 rfl) ?_
  refine lv_icmp_eq (tgt := 2837) hx hb dL_law_2832 (by decide) (fun _ => ?_) (fun c => absurd (by decide) c)
  refine lv_iload hx hb dL_law_2837 (lv_at hl 1 rfl) ?_
  refine lv_if_ne (tgt := 2854) hx hb dL_law_2839 (by decide) (fun _ => ?_) (fun c => absurd c (by decide))
  refine lv_goto (tgt := 3913) hx hb dL_law_2854 (by decide) ?_
  exact law_tail hx hb hr_ hlocks hX hbl hS (Nat.le_of_ble_eq_true rfl) (Nat.le_of_ble_eq_true rfl) (lv_sub hl [2, 6] rfl)
set_option maxRecDepth 100000 in
set_option maxHeartbeats 4000000 in
theorem case_36 {p : Program} {l : Launch} (hl9 : l.stackTraces = false) {e : Env} {s : State} {m : MethodId} {below : List Frame} {meth : Method} {c : Code} {D : va_G} {a1 a2 b : Nat} {xs : Nat → Int32} {H : Heap} {locs : List Loc} {ls : Array Slot} (h0 h1 h2 : Nat) (g gn gb : Nat → Nat) (kP : ClassId) (hm hr rr : Nat) (gm : Nat → Nat) (kI kA kY : ClassId) (F : Nat → Option Nat) (o : Nat) (kL : ClassId) (hG : LawSt D a1 a2 p s m meth c b xs H locs ls h0 h1 h2 g gn gb kP hm hr rr gm kI kA kY F o kL) : W p l e room_1 s m #[Value.ref b] below meth c H locs 5338 65502 (lw_Z below #[Value.ref b] s) (F0 m 2857 ls []) := by
  obtain ⟨hx, hb, hr_, hml, hown, hts, hX, hbl, hlocks, hP, hK, hD, hA, hE, hS, hF, hl⟩ := hG
  have hbA : ¬ (fun q : Nat => s.heap.size ≤ q) b := Nat.not_le.mpr hbl
  refine lv_aload_n hx hb dL_law_2857 rfl (lv_at hl 3 rfl) ?_
  refine lv_aload_n hx hb dL_law_2858 rfl (lv_at hl 4 rfl) ?_
  refine lv_iload hx hb dL_law_2859 (lv_at hl 0 rfl) ?_
  refine lv_iconst (v := 1) hx hb dL_law_2861 (by decide) ?_
  refine lv_iadd hx hb dL_law_2862 ?_
  refine lv_topi (fun x_1 ex_1 => ?_)
  obtain rfl : x_1 = 1 := ex_1.trans (by decide)
  refine va_sld hx hb hX hbl hbA hS (i := 1) (by unfold vp_in; decide) dL_law_2863 ?_
  refine W.eq (g2 := F0 m 2864 ls [.int (xs 1), .ref h0]) rfl ?_
  refine lv_aload_n hx hb dL_law_2864 rfl (lv_at hl 4 rfl) ?_
  refine lv_iload hx hb dL_law_2865 (lv_at hl 0 rfl) ?_
  refine lv_iconst (v := 2) hx hb dL_law_2867 (by decide) ?_
  refine lv_iadd hx hb dL_law_2868 ?_
  refine lv_topi (fun x_2 ex_2 => ?_)
  obtain rfl : x_2 = 2 := ex_2.trans (by decide)
  refine va_sld hx hb hX hbl hbA hS (i := 2) (by unfold vp_in; decide) dL_law_2869 ?_
  refine W.eq (g2 := F0 m 2870 ls [.int (xs 2), .int (xs 1), .ref h0]) rfl ?_
  refine lv_aload_n hx hb dL_law_2870 rfl (lv_at hl 4 rfl) ?_
  refine lv_iload hx hb dL_law_2871 (lv_at hl 0 rfl) ?_
  refine lv_iconst (v := 3) hx hb dL_law_2873 (by decide) ?_
  refine lv_iadd hx hb dL_law_2874 ?_
  refine lv_topi (fun x_3 ex_3 => ?_)
  obtain rfl : x_3 = 3 := ex_3.trans (by decide)
  refine va_sld hx hb hX hbl hbA hS (i := 3) (by unfold vp_in; decide) dL_law_2875 ?_
  refine W.eq (g2 := F0 m 2876 ls [.int (xs 3), .int (xs 2), .int (xs 1), .ref h0]) rfl ?_
  refine lv_aload_n hx hb dL_law_2876 rfl (lv_at hl 1 rfl) ?_
  have f_4 := free_of (wc := [(h0, .inr (11, [.ref h1, .ref h2, .ref (g 2), .ref (g 3), .ref (g 4), .ref (g 5), .ref (g 6), .int 0, .int 0, .int 0, .int 0])), (h1, .inr (6, [.ref (gn 0), .int 0, .ref (gn 2), .ref (gn 3), .int 0, .ref (gn 5), .int 0, .int 0])), (h2, .inr (1, [.ref h1, .ref (gb 1), .int 0]))]) hD hS hA [0, 1, 2] rfl
  refine vx_calli (vx_runSX (As := [.ref h0, .int (xs 1), .int (xs 2), .int (xs 3), .ref o]) (rest := []) ⟨hx, hb, hml, hown, hts⟩ (c_h_reach l hl9 D a1 a2 H.size h0 h1 h2 g gn gb (xs 1) (xs 2) (xs 3) o) (vx_cwSW 5 hts (gSW w_686 w_687 w_450 w_688) rfl rfl rfl (by decide +kernel) ⟨Nat.le_of_ble_eq_true rfl, Nat.le_of_ble_eq_true rfl⟩) (pre_S hK hP hD hS hA hE [0, 1, 2] rfl (by decide) rfl [] rfl) rfl rfl hl.1 rfl (lv_room (Nat.le_of_ble_eq_true rfl)) dL_law_2877 ⟨Nat.le_of_ble_eq_true rfl, Nat.le_of_ble_eq_true rfl⟩) hS (fun q _ h => f_4 q h) f_4 (fun q _ h => f_4 q h) (fun E ce q9 u9 t H locs ht hvm hw hB hz1 hk1 hS hce hcv hcl => False.elim hw) (fun r_5 u_6 t H1 locs ht hvm h_7 hB hz1 hk1 hS => ?_)
  obtain ⟨hP, hD⟩ := join (wc := [(h0, .inr (11, [.ref h1, .ref h2, .ref (g 2), .ref (g 3), .ref (g 4), .ref (g 5), .ref (g 6), .int 0, .int 0, .int 0, .int 0])), (h1, .inr (6, [.ref (gn 0), .int 0, .ref (gn 2), .ref (gn 3), .int 0, .ref (gn 5), .int 0, .int 0])), (h2, .inr (1, [.ref h1, .ref (gb 1), .int 0]))]) (wr := [(gn 0, .inl (kP, 6, .inr (.inr (.inr (.inr (fun _ => none)))))), (hm, .inr (12, [.int 0, .ref hr, .int 0, .int 0, .int 0, .int 0, .int 0, .ref (gm 7), .ref (gm 8), .ref (gm 9), .ref (gm 10), .ref (gm 11), .ref (gm 12), .ref (gm 13), .ref (gm 14), .int 0, .ref (gm 16), .int 0, .int 0, .int 0, .ref (gm 20), .ref (gm 21), .int 0, .int 0, .int 0, .int 0, .int 0, .int 0, .ref (gm 28), .ref (gm 29)])), (hr, .inl (kI, 2, .inl (fun _ => 0))), (gm 7, .inl (kA, 6, .inr (.inr (.inr (.inr F))))), (rr, .inl (kY, 5, .inl (fun _ => 0))), (o, .inl (kL, 1, .inr (.inl (fun _ => 0))))]) (w1 := []) hP hD f_4 [0, 1, 2] [3, 4, 5, 6, 7, 8] rfl rfl (by decide) (by decide) hk1 ht wat_nil
  generalize H1 = H at hP hS ⊢
  have hP : va_P D vwCl [(gn 0, .inl (kP, 6, .inr (.inr (.inr (.inr (fun _ => none)))))), (hm, .inr (12, [.int 0, .ref hr, .int 0, .int 0, .int 0, .int 0, .int 0, .ref (gm 7), .ref (gm 8), .ref (gm 9), .ref (gm 10), .ref (gm 11), .ref (gm 12), .ref (gm 13), .ref (gm 14), .int 0, .ref (gm 16), .int 0, .int 0, .int 0, .ref (gm 20), .ref (gm 21), .int 0, .int 0, .int 0, .int 0, .int 0, .int 0, .ref (gm 28), .ref (gm 29)])), (hr, .inl (kI, 2, .inl (fun _ => 0))), (gm 7, .inl (kA, 6, .inr (.inr (.inr (.inr F))))), (rr, .inl (kY, 5, .inl (fun _ => 0))), (o, .inl (kL, 1, .inr (.inl (fun _ => 0))))] H := hP
  have hD : va_D (fun q : Nat => s.heap.size ≤ q) [(gn 0, .inl (kP, 6, .inr (.inr (.inr (.inr (fun _ => none)))))), (hm, .inr (12, [.int 0, .ref hr, .int 0, .int 0, .int 0, .int 0, .int 0, .ref (gm 7), .ref (gm 8), .ref (gm 9), .ref (gm 10), .ref (gm 11), .ref (gm 12), .ref (gm 13), .ref (gm 14), .int 0, .ref (gm 16), .int 0, .int 0, .int 0, .ref (gm 20), .ref (gm 21), .int 0, .int 0, .int 0, .int 0, .int 0, .int 0, .ref (gm 28), .ref (gm 29)])), (hr, .inl (kI, 2, .inl (fun _ => 0))), (gm 7, .inl (kA, 6, .inr (.inr (.inr (.inr F))))), (rr, .inl (kY, 5, .inl (fun _ => 0))), (o, .inl (kL, 1, .inr (.inl (fun _ => 0))))] := hD
  obtain rfl := h_7
  refine lv_istore (lv' := [(5, .int 1), (4, .int 0), (3, .ref o), (2, .ref hm), (1, .ref h0), (0, .ref b)]) hx hb dL_law_2880 hl (by decide) rfl (fun ls hl => ?_)
  refine lv_aload_n hx hb dL_law_2882 rfl (lv_at hl 3 rfl) ?_
  refine lv_aload_n hx hb dL_law_2883 rfl (lv_at hl 5 rfl) ?_
  refine lv_iload hx hb dL_law_2884 (lv_at hl 1 rfl) ?_
  refine lv_iconst (v := 1) hx hb dL_law_2886 (by decide) ?_
  refine lv_iadd hx hb dL_law_2887 ?_
  refine lv_topi (fun x_8 ex_8 => ?_)
  obtain rfl : x_8 = 1 := ex_8.trans (by decide)
  refine va_sld hx hb hX hbl hbA hS (i := 1) (by unfold vp_in; decide) dL_law_2888 ?_
  refine W.eq (g2 := F0 m 2889 ls [.int (xs 1), .ref hm]) rfl ?_
  refine lv_aload_n hx hb dL_law_2889 rfl (lv_at hl 5 rfl) ?_
  refine lv_iload hx hb dL_law_2890 (lv_at hl 1 rfl) ?_
  refine lv_iconst (v := 2) hx hb dL_law_2892 (by decide) ?_
  refine lv_iadd hx hb dL_law_2893 ?_
  refine lv_topi (fun x_9 ex_9 => ?_)
  obtain rfl : x_9 = 2 := ex_9.trans (by decide)
  refine va_sld hx hb hX hbl hbA hS (i := 2) (by unfold vp_in; decide) dL_law_2894 ?_
  refine W.eq (g2 := F0 m 2895 ls [.int (xs 2), .int (xs 1), .ref hm]) rfl ?_
  refine lv_aload_n hx hb dL_law_2895 rfl (lv_at hl 5 rfl) ?_
  refine lv_iload hx hb dL_law_2896 (lv_at hl 1 rfl) ?_
  refine lv_iconst (v := 3) hx hb dL_law_2898 (by decide) ?_
  refine lv_iadd hx hb dL_law_2899 ?_
  refine lv_topi (fun x_10 ex_10 => ?_)
  obtain rfl : x_10 = 3 := ex_10.trans (by decide)
  refine va_sld hx hb hX hbl hbA hS (i := 3) (by unfold vp_in; decide) dL_law_2900 ?_
  refine W.eq (g2 := F0 m 2901 ls [.int (xs 3), .int (xs 2), .int (xs 1), .ref hm]) rfl ?_
  have f_11 := free_of (wc := [(hm, .inr (12, [.int 0, .ref hr, .int 0, .int 0, .int 0, .int 0, .int 0, .ref (gm 7), .ref (gm 8), .ref (gm 9), .ref (gm 10), .ref (gm 11), .ref (gm 12), .ref (gm 13), .ref (gm 14), .int 0, .ref (gm 16), .int 0, .int 0, .int 0, .ref (gm 20), .ref (gm 21), .int 0, .int 0, .int 0, .int 0, .int 0, .int 0, .ref (gm 28), .ref (gm 29)])), (hr, .inl (kI, 2, .inl (fun _ => 0)))]) hD hS hA [1, 2] rfl
  refine va_calli (va_runV (As := [.int (xs 1), .int (xs 2), .int (xs 3)]) (rest := []) ⟨hx, hb, hml, hown, hts⟩ (c_m_reach l D a1 a2 H.size hm hr gm kI (xs 1) (xs 2) (xs 3)) (cwV 3 hts (gV w_689 w_690 w_691 w_244 w_692) rfl rfl rfl (by decide +kernel) ⟨Nat.le_of_ble_eq_true rfl, Nat.le_of_ble_eq_true rfl⟩) (pre_V hK hP hD hS hA hE [1, 2] rfl (by decide) rfl [1] rfl (ci := 12) (q0 := 1) rfl rfl) rfl rfl hl.1 rfl (lv_room (Nat.le_of_ble_eq_true rfl)) dL_law_2901 ⟨Nat.le_of_ble_eq_true rfl, Nat.le_of_ble_eq_true rfl⟩) hS (fun q _ h => f_11 q h) f_11 (fun r_12 u_13 t H1 locs ht hvm h_14 hB hz1 hk1 hS => ?_)
  obtain ⟨hP, hD⟩ := join (wc := [(hm, .inr (12, [.int 0, .ref hr, .int 0, .int 0, .int 0, .int 0, .int 0, .ref (gm 7), .ref (gm 8), .ref (gm 9), .ref (gm 10), .ref (gm 11), .ref (gm 12), .ref (gm 13), .ref (gm 14), .int 0, .ref (gm 16), .int 0, .int 0, .int 0, .ref (gm 20), .ref (gm 21), .int 0, .int 0, .int 0, .int 0, .int 0, .int 0, .ref (gm 28), .ref (gm 29)])), (hr, .inl (kI, 2, .inl (fun _ => 0)))]) (wr := [(gn 0, .inl (kP, 6, .inr (.inr (.inr (.inr (fun _ => none)))))), (gm 7, .inl (kA, 6, .inr (.inr (.inr (.inr F))))), (rr, .inl (kY, 5, .inl (fun _ => 0))), (o, .inl (kL, 1, .inr (.inl (fun _ => 0))))]) (w1 := [(hm, .inr (12, u_13))]) hP hD f_11 [1, 2] [0, 3, 4, 5] rfl rfl (by decide) (by decide) hk1 ht hB
  generalize H1 = H at hP hS ⊢
  have hP : va_P D vwCl [(gn 0, .inl (kP, 6, .inr (.inr (.inr (.inr (fun _ => none)))))), (gm 7, .inl (kA, 6, .inr (.inr (.inr (.inr F))))), (rr, .inl (kY, 5, .inl (fun _ => 0))), (o, .inl (kL, 1, .inr (.inl (fun _ => 0)))), (hm, .inr (12, u_13))] H := hP
  have hD : va_D (fun q : Nat => s.heap.size ≤ q) [(gn 0, .inl (kP, 6, .inr (.inr (.inr (.inr (fun _ => none)))))), (gm 7, .inl (kA, 6, .inr (.inr (.inr (.inr F))))), (rr, .inl (kY, 5, .inl (fun _ => 0))), (o, .inl (kL, 1, .inr (.inl (fun _ => 0)))), (hm, .inr (12, u_13))] := hD
  refine lv_istore (lv' := [(6, .int r_12), (5, .int 1), (4, .int 0), (3, .ref o), (2, .ref hm), (1, .ref h0), (0, .ref b)]) hx hb dL_law_2904 hl (by decide) rfl (fun ls hl => ?_)
  refine lv_aload_n hx hb dL_law_2906 rfl (lv_at hl 4 rfl) ?_
  have f_15 := free_of (wc := [(hm, .inr (12, u_13))]) hD hS hA [4] rfl
  refine va_calli (va_runV (As := []) (rest := []) ⟨hx, hb, hml, hown, hts⟩ (c_thrown l D a1 a2 H.size hm u_13 1 h_14) (cwV 0 hts (gV w_458 w_459 w_460 w_244 w_461) rfl rfl rfl (by decide +kernel) ⟨Nat.le_of_ble_eq_true rfl, Nat.le_of_ble_eq_true rfl⟩) (pre_V hK hP hD hS hA hE [4] rfl (by decide) rfl [] rfl (ci := 12) (q0 := 4) rfl rfl) rfl rfl hl.1 rfl (lv_room (Nat.le_of_ble_eq_true rfl)) dL_law_2907 ⟨Nat.le_of_ble_eq_true rfl, Nat.le_of_ble_eq_true rfl⟩) hS (fun q _ h => f_15 q h) f_15 (fun r_16 u_17 t H1 locs ht hvm h_18 hB hz1 hk1 hS => ?_)
  obtain ⟨hP, hD⟩ := join (wc := [(hm, .inr (12, u_13))]) (wr := [(gn 0, .inl (kP, 6, .inr (.inr (.inr (.inr (fun _ => none)))))), (gm 7, .inl (kA, 6, .inr (.inr (.inr (.inr F))))), (rr, .inl (kY, 5, .inl (fun _ => 0))), (o, .inl (kL, 1, .inr (.inl (fun _ => 0))))]) (w1 := [(hm, .inr (12, u_13))]) hP hD f_15 [4] [0, 1, 2, 3] rfl rfl (by decide) (by decide) hk1 ht hB
  generalize H1 = H at hP hS ⊢
  have hP : va_P D vwCl [(gn 0, .inl (kP, 6, .inr (.inr (.inr (.inr (fun _ => none)))))), (gm 7, .inl (kA, 6, .inr (.inr (.inr (.inr F))))), (rr, .inl (kY, 5, .inl (fun _ => 0))), (o, .inl (kL, 1, .inr (.inl (fun _ => 0)))), (hm, .inr (12, u_13))] H := hP
  have hD : va_D (fun q : Nat => s.heap.size ≤ q) [(gn 0, .inl (kP, 6, .inr (.inr (.inr (.inr (fun _ => none)))))), (gm 7, .inl (kA, 6, .inr (.inr (.inr (.inr F))))), (rr, .inl (kY, 5, .inl (fun _ => 0))), (o, .inl (kL, 1, .inr (.inl (fun _ => 0)))), (hm, .inr (12, u_13))] := hD
  obtain rfl := h_18
  refine lv_iload hx hb dL_law_2910 (lv_at hl 1 rfl) ?_
  refine lv_icmp_eq (tgt := 2917) hx hb dL_law_2912 (by decide) (fun _ => ?_) (fun c => absurd (by decide) c)
  refine lv_iload hx hb dL_law_2917 (lv_at hl 1 rfl) ?_
  refine lv_if_ne (tgt := 2934) hx hb dL_law_2919 (by decide) (fun _ => ?_) (fun c => absurd c (by decide))
  refine lv_goto (tgt := 3913) hx hb dL_law_2934 (by decide) ?_
  exact law_tail hx hb hr_ hlocks hX hbl hS (Nat.le_of_ble_eq_true rfl) (Nat.le_of_ble_eq_true rfl) (lv_sub hl [2, 6] rfl)
set_option maxRecDepth 100000 in
set_option maxHeartbeats 4000000 in
theorem case_37 {p : Program} {l : Launch} (hl9 : l.stackTraces = false) {e : Env} {s : State} {m : MethodId} {below : List Frame} {meth : Method} {c : Code} {D : va_G} {a1 a2 b : Nat} {xs : Nat → Int32} {H : Heap} {locs : List Loc} {ls : Array Slot} (h0 h1 h2 : Nat) (g gn gb : Nat → Nat) (kP : ClassId) (hm hr rr : Nat) (gm : Nat → Nat) (kI kA kY : ClassId) (F : Nat → Option Nat) (o : Nat) (kL : ClassId) (hG : LawSt D a1 a2 p s m meth c b xs H locs ls h0 h1 h2 g gn gb kP hm hr rr gm kI kA kY F o kL) : W p l e room_1 s m #[Value.ref b] below meth c H locs 5338 65502 (lw_Z below #[Value.ref b] s) (F0 m 2937 ls []) := by
  obtain ⟨hx, hb, hr_, hml, hown, hts, hX, hbl, hlocks, hP, hK, hD, hA, hE, hS, hF, hl⟩ := hG
  have hbA : ¬ (fun q : Nat => s.heap.size ≤ q) b := Nat.not_le.mpr hbl
  refine lv_aload_n hx hb dL_law_2937 rfl (lv_at hl 3 rfl) ?_
  refine lv_aload_n hx hb dL_law_2938 rfl (lv_at hl 4 rfl) ?_
  refine lv_iload hx hb dL_law_2939 (lv_at hl 0 rfl) ?_
  refine lv_iconst (v := 1) hx hb dL_law_2941 (by decide) ?_
  refine lv_iadd hx hb dL_law_2942 ?_
  refine lv_topi (fun x_1 ex_1 => ?_)
  obtain rfl : x_1 = 1 := ex_1.trans (by decide)
  refine va_sld hx hb hX hbl hbA hS (i := 1) (by unfold vp_in; decide) dL_law_2943 ?_
  refine W.eq (g2 := F0 m 2944 ls [.int (xs 1), .ref h0]) rfl ?_
  refine lv_aload_n hx hb dL_law_2944 rfl (lv_at hl 1 rfl) ?_
  have f_2 := free_of (wc := [(h0, .inr (11, [.ref h1, .ref h2, .ref (g 2), .ref (g 3), .ref (g 4), .ref (g 5), .ref (g 6), .int 0, .int 0, .int 0, .int 0])), (h1, .inr (6, [.ref (gn 0), .int 0, .ref (gn 2), .ref (gn 3), .int 0, .ref (gn 5), .int 0, .int 0])), (h2, .inr (1, [.ref h1, .ref (gb 1), .int 0]))]) hD hS hA [0, 1, 2] rfl
  refine vx_calli (vx_runSX (As := [.ref h0, .int (xs 1), .ref o]) (rest := []) ⟨hx, hb, hml, hown, hts⟩ (c_h_cheapest l hl9 D a1 a2 H.size h0 h1 h2 g gn gb (xs 1) o) (vx_cwSW 3 hts (gSW w_693 w_694 w_450 w_695) rfl rfl rfl (by decide +kernel) ⟨Nat.le_of_ble_eq_true rfl, Nat.le_of_ble_eq_true rfl⟩) (pre_S hK hP hD hS hA hE [0, 1, 2] rfl (by decide) rfl [] rfl) rfl rfl hl.1 rfl (lv_room (Nat.le_of_ble_eq_true rfl)) dL_law_2945 ⟨Nat.le_of_ble_eq_true rfl, Nat.le_of_ble_eq_true rfl⟩) hS (fun q _ h => f_2 q h) f_2 (fun q _ h => f_2 q h) (fun E ce q9 u9 t H locs ht hvm hw hB hz1 hk1 hS hce hcv hcl => False.elim hw) (fun r_3 u_4 t H1 locs ht hvm h_5 hB hz1 hk1 hS => ?_)
  obtain ⟨hP, hD⟩ := join (wc := [(h0, .inr (11, [.ref h1, .ref h2, .ref (g 2), .ref (g 3), .ref (g 4), .ref (g 5), .ref (g 6), .int 0, .int 0, .int 0, .int 0])), (h1, .inr (6, [.ref (gn 0), .int 0, .ref (gn 2), .ref (gn 3), .int 0, .ref (gn 5), .int 0, .int 0])), (h2, .inr (1, [.ref h1, .ref (gb 1), .int 0]))]) (wr := [(gn 0, .inl (kP, 6, .inr (.inr (.inr (.inr (fun _ => none)))))), (hm, .inr (12, [.int 0, .ref hr, .int 0, .int 0, .int 0, .int 0, .int 0, .ref (gm 7), .ref (gm 8), .ref (gm 9), .ref (gm 10), .ref (gm 11), .ref (gm 12), .ref (gm 13), .ref (gm 14), .int 0, .ref (gm 16), .int 0, .int 0, .int 0, .ref (gm 20), .ref (gm 21), .int 0, .int 0, .int 0, .int 0, .int 0, .int 0, .ref (gm 28), .ref (gm 29)])), (hr, .inl (kI, 2, .inl (fun _ => 0))), (gm 7, .inl (kA, 6, .inr (.inr (.inr (.inr F))))), (rr, .inl (kY, 5, .inl (fun _ => 0))), (o, .inl (kL, 1, .inr (.inl (fun _ => 0))))]) (w1 := []) hP hD f_2 [0, 1, 2] [3, 4, 5, 6, 7, 8] rfl rfl (by decide) (by decide) hk1 ht wat_nil
  generalize H1 = H at hP hS ⊢
  have hP : va_P D vwCl [(gn 0, .inl (kP, 6, .inr (.inr (.inr (.inr (fun _ => none)))))), (hm, .inr (12, [.int 0, .ref hr, .int 0, .int 0, .int 0, .int 0, .int 0, .ref (gm 7), .ref (gm 8), .ref (gm 9), .ref (gm 10), .ref (gm 11), .ref (gm 12), .ref (gm 13), .ref (gm 14), .int 0, .ref (gm 16), .int 0, .int 0, .int 0, .ref (gm 20), .ref (gm 21), .int 0, .int 0, .int 0, .int 0, .int 0, .int 0, .ref (gm 28), .ref (gm 29)])), (hr, .inl (kI, 2, .inl (fun _ => 0))), (gm 7, .inl (kA, 6, .inr (.inr (.inr (.inr F))))), (rr, .inl (kY, 5, .inl (fun _ => 0))), (o, .inl (kL, 1, .inr (.inl (fun _ => 0))))] H := hP
  have hD : va_D (fun q : Nat => s.heap.size ≤ q) [(gn 0, .inl (kP, 6, .inr (.inr (.inr (.inr (fun _ => none)))))), (hm, .inr (12, [.int 0, .ref hr, .int 0, .int 0, .int 0, .int 0, .int 0, .ref (gm 7), .ref (gm 8), .ref (gm 9), .ref (gm 10), .ref (gm 11), .ref (gm 12), .ref (gm 13), .ref (gm 14), .int 0, .ref (gm 16), .int 0, .int 0, .int 0, .ref (gm 20), .ref (gm 21), .int 0, .int 0, .int 0, .int 0, .int 0, .int 0, .ref (gm 28), .ref (gm 29)])), (hr, .inl (kI, 2, .inl (fun _ => 0))), (gm 7, .inl (kA, 6, .inr (.inr (.inr (.inr F))))), (rr, .inl (kY, 5, .inl (fun _ => 0))), (o, .inl (kL, 1, .inr (.inl (fun _ => 0))))] := hD
  obtain rfl := h_5
  refine lv_istore (lv' := [(5, .int 1), (4, .int 0), (3, .ref o), (2, .ref hm), (1, .ref h0), (0, .ref b)]) hx hb dL_law_2948 hl (by decide) rfl (fun ls hl => ?_)
  refine lv_aload_n hx hb dL_law_2950 rfl (lv_at hl 3 rfl) ?_
  refine lv_aload_n hx hb dL_law_2951 rfl (lv_at hl 5 rfl) ?_
  refine lv_iload hx hb dL_law_2952 (lv_at hl 1 rfl) ?_
  refine lv_iconst (v := 1) hx hb dL_law_2954 (by decide) ?_
  refine lv_iadd hx hb dL_law_2955 ?_
  refine lv_topi (fun x_6 ex_6 => ?_)
  obtain rfl : x_6 = 1 := ex_6.trans (by decide)
  refine va_sld hx hb hX hbl hbA hS (i := 1) (by unfold vp_in; decide) dL_law_2956 ?_
  refine W.eq (g2 := F0 m 2957 ls [.int (xs 1), .ref hm]) rfl ?_
  have f_7 := free_of (wc := [(hm, .inr (12, [.int 0, .ref hr, .int 0, .int 0, .int 0, .int 0, .int 0, .ref (gm 7), .ref (gm 8), .ref (gm 9), .ref (gm 10), .ref (gm 11), .ref (gm 12), .ref (gm 13), .ref (gm 14), .int 0, .ref (gm 16), .int 0, .int 0, .int 0, .ref (gm 20), .ref (gm 21), .int 0, .int 0, .int 0, .int 0, .int 0, .int 0, .ref (gm 28), .ref (gm 29)])), (hr, .inl (kI, 2, .inl (fun _ => 0)))]) hD hS hA [1, 2] rfl
  refine va_calli (va_runV (As := [.int (xs 1)]) (rest := []) ⟨hx, hb, hml, hown, hts⟩ (c_m_cheapest l D a1 a2 H.size hm hr gm kI (xs 1)) (cwV 1 hts (gV w_696 w_697 w_698 w_244 w_699) rfl rfl rfl (by decide +kernel) ⟨Nat.le_of_ble_eq_true rfl, Nat.le_of_ble_eq_true rfl⟩) (pre_V hK hP hD hS hA hE [1, 2] rfl (by decide) rfl [1] rfl (ci := 12) (q0 := 1) rfl rfl) rfl rfl hl.1 rfl (lv_room (Nat.le_of_ble_eq_true rfl)) dL_law_2957 ⟨Nat.le_of_ble_eq_true rfl, Nat.le_of_ble_eq_true rfl⟩) hS (fun q _ h => f_7 q h) f_7 (fun r_8 u_9 t H1 locs ht hvm h_10 hB hz1 hk1 hS => ?_)
  obtain ⟨hP, hD⟩ := join (wc := [(hm, .inr (12, [.int 0, .ref hr, .int 0, .int 0, .int 0, .int 0, .int 0, .ref (gm 7), .ref (gm 8), .ref (gm 9), .ref (gm 10), .ref (gm 11), .ref (gm 12), .ref (gm 13), .ref (gm 14), .int 0, .ref (gm 16), .int 0, .int 0, .int 0, .ref (gm 20), .ref (gm 21), .int 0, .int 0, .int 0, .int 0, .int 0, .int 0, .ref (gm 28), .ref (gm 29)])), (hr, .inl (kI, 2, .inl (fun _ => 0)))]) (wr := [(gn 0, .inl (kP, 6, .inr (.inr (.inr (.inr (fun _ => none)))))), (gm 7, .inl (kA, 6, .inr (.inr (.inr (.inr F))))), (rr, .inl (kY, 5, .inl (fun _ => 0))), (o, .inl (kL, 1, .inr (.inl (fun _ => 0))))]) (w1 := [(hm, .inr (12, u_9))]) hP hD f_7 [1, 2] [0, 3, 4, 5] rfl rfl (by decide) (by decide) hk1 ht hB
  generalize H1 = H at hP hS ⊢
  have hP : va_P D vwCl [(gn 0, .inl (kP, 6, .inr (.inr (.inr (.inr (fun _ => none)))))), (gm 7, .inl (kA, 6, .inr (.inr (.inr (.inr F))))), (rr, .inl (kY, 5, .inl (fun _ => 0))), (o, .inl (kL, 1, .inr (.inl (fun _ => 0)))), (hm, .inr (12, u_9))] H := hP
  have hD : va_D (fun q : Nat => s.heap.size ≤ q) [(gn 0, .inl (kP, 6, .inr (.inr (.inr (.inr (fun _ => none)))))), (gm 7, .inl (kA, 6, .inr (.inr (.inr (.inr F))))), (rr, .inl (kY, 5, .inl (fun _ => 0))), (o, .inl (kL, 1, .inr (.inl (fun _ => 0)))), (hm, .inr (12, u_9))] := hD
  refine lv_istore (lv' := [(6, .int r_8), (5, .int 1), (4, .int 0), (3, .ref o), (2, .ref hm), (1, .ref h0), (0, .ref b)]) hx hb dL_law_2960 hl (by decide) rfl (fun ls hl => ?_)
  refine lv_aload_n hx hb dL_law_2962 rfl (lv_at hl 4 rfl) ?_
  have f_11 := free_of (wc := [(hm, .inr (12, u_9))]) hD hS hA [4] rfl
  refine va_calli (va_runV (As := []) (rest := []) ⟨hx, hb, hml, hown, hts⟩ (c_thrown l D a1 a2 H.size hm u_9 1 h_10) (cwV 0 hts (gV w_458 w_459 w_460 w_244 w_461) rfl rfl rfl (by decide +kernel) ⟨Nat.le_of_ble_eq_true rfl, Nat.le_of_ble_eq_true rfl⟩) (pre_V hK hP hD hS hA hE [4] rfl (by decide) rfl [] rfl (ci := 12) (q0 := 4) rfl rfl) rfl rfl hl.1 rfl (lv_room (Nat.le_of_ble_eq_true rfl)) dL_law_2963 ⟨Nat.le_of_ble_eq_true rfl, Nat.le_of_ble_eq_true rfl⟩) hS (fun q _ h => f_11 q h) f_11 (fun r_12 u_13 t H1 locs ht hvm h_14 hB hz1 hk1 hS => ?_)
  obtain ⟨hP, hD⟩ := join (wc := [(hm, .inr (12, u_9))]) (wr := [(gn 0, .inl (kP, 6, .inr (.inr (.inr (.inr (fun _ => none)))))), (gm 7, .inl (kA, 6, .inr (.inr (.inr (.inr F))))), (rr, .inl (kY, 5, .inl (fun _ => 0))), (o, .inl (kL, 1, .inr (.inl (fun _ => 0))))]) (w1 := [(hm, .inr (12, u_9))]) hP hD f_11 [4] [0, 1, 2, 3] rfl rfl (by decide) (by decide) hk1 ht hB
  generalize H1 = H at hP hS ⊢
  have hP : va_P D vwCl [(gn 0, .inl (kP, 6, .inr (.inr (.inr (.inr (fun _ => none)))))), (gm 7, .inl (kA, 6, .inr (.inr (.inr (.inr F))))), (rr, .inl (kY, 5, .inl (fun _ => 0))), (o, .inl (kL, 1, .inr (.inl (fun _ => 0)))), (hm, .inr (12, u_9))] H := hP
  have hD : va_D (fun q : Nat => s.heap.size ≤ q) [(gn 0, .inl (kP, 6, .inr (.inr (.inr (.inr (fun _ => none)))))), (gm 7, .inl (kA, 6, .inr (.inr (.inr (.inr F))))), (rr, .inl (kY, 5, .inl (fun _ => 0))), (o, .inl (kL, 1, .inr (.inl (fun _ => 0)))), (hm, .inr (12, u_9))] := hD
  obtain rfl := h_14
  refine lv_iload hx hb dL_law_2966 (lv_at hl 1 rfl) ?_
  refine lv_icmp_eq (tgt := 2973) hx hb dL_law_2968 (by decide) (fun _ => ?_) (fun c => absurd (by decide) c)
  refine lv_iload hx hb dL_law_2973 (lv_at hl 1 rfl) ?_
  refine lv_if_ne (tgt := 2990) hx hb dL_law_2975 (by decide) (fun _ => ?_) (fun c => absurd c (by decide))
  refine lv_goto (tgt := 3913) hx hb dL_law_2990 (by decide) ?_
  exact law_tail hx hb hr_ hlocks hX hbl hS (Nat.le_of_ble_eq_true rfl) (Nat.le_of_ble_eq_true rfl) (lv_sub hl [2, 6] rfl)
set_option maxRecDepth 100000 in
set_option maxHeartbeats 4000000 in
theorem case_38 {p : Program} {l : Launch} (hl9 : l.stackTraces = false) {e : Env} {s : State} {m : MethodId} {below : List Frame} {meth : Method} {c : Code} {D : va_G} {a1 a2 b : Nat} {xs : Nat → Int32} {H : Heap} {locs : List Loc} {ls : Array Slot} (h0 h1 h2 : Nat) (g gn gb : Nat → Nat) (kP : ClassId) (hm hr rr : Nat) (gm : Nat → Nat) (kI kA kY : ClassId) (F : Nat → Option Nat) (o : Nat) (kL : ClassId) (hG : LawSt D a1 a2 p s m meth c b xs H locs ls h0 h1 h2 g gn gb kP hm hr rr gm kI kA kY F o kL) : W p l e room_1 s m #[Value.ref b] below meth c H locs 5338 65502 (lw_Z below #[Value.ref b] s) (F0 m 2993 ls []) := by
  obtain ⟨hx, hb, hr_, hml, hown, hts, hX, hbl, hlocks, hP, hK, hD, hA, hE, hS, hF, hl⟩ := hG
  have hbA : ¬ (fun q : Nat => s.heap.size ≤ q) b := Nat.not_le.mpr hbl
  refine lv_aload_n hx hb dL_law_2993 rfl (lv_at hl 3 rfl) ?_
  refine lv_aload_n hx hb dL_law_2994 rfl (lv_at hl 4 rfl) ?_
  refine lv_iload hx hb dL_law_2995 (lv_at hl 0 rfl) ?_
  refine lv_iconst (v := 1) hx hb dL_law_2997 (by decide) ?_
  refine lv_iadd hx hb dL_law_2998 ?_
  refine lv_topi (fun x_1 ex_1 => ?_)
  obtain rfl : x_1 = 1 := ex_1.trans (by decide)
  refine va_sld hx hb hX hbl hbA hS (i := 1) (by unfold vp_in; decide) dL_law_2999 ?_
  refine W.eq (g2 := F0 m 3000 ls [.int (xs 1), .ref h0]) rfl ?_
  refine lv_aload_n hx hb dL_law_3000 rfl (lv_at hl 1 rfl) ?_
  have f_2 := free_of (wc := [(h0, .inr (11, [.ref h1, .ref h2, .ref (g 2), .ref (g 3), .ref (g 4), .ref (g 5), .ref (g 6), .int 0, .int 0, .int 0, .int 0])), (h1, .inr (6, [.ref (gn 0), .int 0, .ref (gn 2), .ref (gn 3), .int 0, .ref (gn 5), .int 0, .int 0])), (h2, .inr (1, [.ref h1, .ref (gb 1), .int 0]))]) hD hS hA [0, 1, 2] rfl
  refine vx_calli (vx_runSX (As := [.ref h0, .int (xs 1), .ref o]) (rest := []) ⟨hx, hb, hml, hown, hts⟩ (c_h_latest l hl9 D a1 a2 H.size h0 h1 h2 g gn gb (xs 1) o) (vx_cwSW 3 hts (gSW w_700 w_701 w_450 w_702) rfl rfl rfl (by decide +kernel) ⟨Nat.le_of_ble_eq_true rfl, Nat.le_of_ble_eq_true rfl⟩) (pre_S hK hP hD hS hA hE [0, 1, 2] rfl (by decide) rfl [] rfl) rfl rfl hl.1 rfl (lv_room (Nat.le_of_ble_eq_true rfl)) dL_law_3001 ⟨Nat.le_of_ble_eq_true rfl, Nat.le_of_ble_eq_true rfl⟩) hS (fun q _ h => f_2 q h) f_2 (fun q _ h => f_2 q h) (fun E ce q9 u9 t H locs ht hvm hw hB hz1 hk1 hS hce hcv hcl => False.elim hw) (fun r_3 u_4 t H1 locs ht hvm h_5 hB hz1 hk1 hS => ?_)
  obtain ⟨hP, hD⟩ := join (wc := [(h0, .inr (11, [.ref h1, .ref h2, .ref (g 2), .ref (g 3), .ref (g 4), .ref (g 5), .ref (g 6), .int 0, .int 0, .int 0, .int 0])), (h1, .inr (6, [.ref (gn 0), .int 0, .ref (gn 2), .ref (gn 3), .int 0, .ref (gn 5), .int 0, .int 0])), (h2, .inr (1, [.ref h1, .ref (gb 1), .int 0]))]) (wr := [(gn 0, .inl (kP, 6, .inr (.inr (.inr (.inr (fun _ => none)))))), (hm, .inr (12, [.int 0, .ref hr, .int 0, .int 0, .int 0, .int 0, .int 0, .ref (gm 7), .ref (gm 8), .ref (gm 9), .ref (gm 10), .ref (gm 11), .ref (gm 12), .ref (gm 13), .ref (gm 14), .int 0, .ref (gm 16), .int 0, .int 0, .int 0, .ref (gm 20), .ref (gm 21), .int 0, .int 0, .int 0, .int 0, .int 0, .int 0, .ref (gm 28), .ref (gm 29)])), (hr, .inl (kI, 2, .inl (fun _ => 0))), (gm 7, .inl (kA, 6, .inr (.inr (.inr (.inr F))))), (rr, .inl (kY, 5, .inl (fun _ => 0))), (o, .inl (kL, 1, .inr (.inl (fun _ => 0))))]) (w1 := []) hP hD f_2 [0, 1, 2] [3, 4, 5, 6, 7, 8] rfl rfl (by decide) (by decide) hk1 ht wat_nil
  generalize H1 = H at hP hS ⊢
  have hP : va_P D vwCl [(gn 0, .inl (kP, 6, .inr (.inr (.inr (.inr (fun _ => none)))))), (hm, .inr (12, [.int 0, .ref hr, .int 0, .int 0, .int 0, .int 0, .int 0, .ref (gm 7), .ref (gm 8), .ref (gm 9), .ref (gm 10), .ref (gm 11), .ref (gm 12), .ref (gm 13), .ref (gm 14), .int 0, .ref (gm 16), .int 0, .int 0, .int 0, .ref (gm 20), .ref (gm 21), .int 0, .int 0, .int 0, .int 0, .int 0, .int 0, .ref (gm 28), .ref (gm 29)])), (hr, .inl (kI, 2, .inl (fun _ => 0))), (gm 7, .inl (kA, 6, .inr (.inr (.inr (.inr F))))), (rr, .inl (kY, 5, .inl (fun _ => 0))), (o, .inl (kL, 1, .inr (.inl (fun _ => 0))))] H := hP
  have hD : va_D (fun q : Nat => s.heap.size ≤ q) [(gn 0, .inl (kP, 6, .inr (.inr (.inr (.inr (fun _ => none)))))), (hm, .inr (12, [.int 0, .ref hr, .int 0, .int 0, .int 0, .int 0, .int 0, .ref (gm 7), .ref (gm 8), .ref (gm 9), .ref (gm 10), .ref (gm 11), .ref (gm 12), .ref (gm 13), .ref (gm 14), .int 0, .ref (gm 16), .int 0, .int 0, .int 0, .ref (gm 20), .ref (gm 21), .int 0, .int 0, .int 0, .int 0, .int 0, .int 0, .ref (gm 28), .ref (gm 29)])), (hr, .inl (kI, 2, .inl (fun _ => 0))), (gm 7, .inl (kA, 6, .inr (.inr (.inr (.inr F))))), (rr, .inl (kY, 5, .inl (fun _ => 0))), (o, .inl (kL, 1, .inr (.inl (fun _ => 0))))] := hD
  obtain rfl := h_5
  refine lv_istore (lv' := [(5, .int 1), (4, .int 0), (3, .ref o), (2, .ref hm), (1, .ref h0), (0, .ref b)]) hx hb dL_law_3004 hl (by decide) rfl (fun ls hl => ?_)
  refine lv_aload_n hx hb dL_law_3006 rfl (lv_at hl 3 rfl) ?_
  refine lv_aload_n hx hb dL_law_3007 rfl (lv_at hl 5 rfl) ?_
  refine lv_iload hx hb dL_law_3008 (lv_at hl 1 rfl) ?_
  refine lv_iconst (v := 1) hx hb dL_law_3010 (by decide) ?_
  refine lv_iadd hx hb dL_law_3011 ?_
  refine lv_topi (fun x_6 ex_6 => ?_)
  obtain rfl : x_6 = 1 := ex_6.trans (by decide)
  refine va_sld hx hb hX hbl hbA hS (i := 1) (by unfold vp_in; decide) dL_law_3012 ?_
  refine W.eq (g2 := F0 m 3013 ls [.int (xs 1), .ref hm]) rfl ?_
  have f_7 := free_of (wc := [(hm, .inr (12, [.int 0, .ref hr, .int 0, .int 0, .int 0, .int 0, .int 0, .ref (gm 7), .ref (gm 8), .ref (gm 9), .ref (gm 10), .ref (gm 11), .ref (gm 12), .ref (gm 13), .ref (gm 14), .int 0, .ref (gm 16), .int 0, .int 0, .int 0, .ref (gm 20), .ref (gm 21), .int 0, .int 0, .int 0, .int 0, .int 0, .int 0, .ref (gm 28), .ref (gm 29)])), (hr, .inl (kI, 2, .inl (fun _ => 0)))]) hD hS hA [1, 2] rfl
  refine va_calli (va_runV (As := [.int (xs 1)]) (rest := []) ⟨hx, hb, hml, hown, hts⟩ (c_m_latest l D a1 a2 H.size hm hr gm kI (xs 1)) (cwV 1 hts (gV w_703 w_704 w_705 w_244 w_706) rfl rfl rfl (by decide +kernel) ⟨Nat.le_of_ble_eq_true rfl, Nat.le_of_ble_eq_true rfl⟩) (pre_V hK hP hD hS hA hE [1, 2] rfl (by decide) rfl [1] rfl (ci := 12) (q0 := 1) rfl rfl) rfl rfl hl.1 rfl (lv_room (Nat.le_of_ble_eq_true rfl)) dL_law_3013 ⟨Nat.le_of_ble_eq_true rfl, Nat.le_of_ble_eq_true rfl⟩) hS (fun q _ h => f_7 q h) f_7 (fun r_8 u_9 t H1 locs ht hvm h_10 hB hz1 hk1 hS => ?_)
  obtain ⟨hP, hD⟩ := join (wc := [(hm, .inr (12, [.int 0, .ref hr, .int 0, .int 0, .int 0, .int 0, .int 0, .ref (gm 7), .ref (gm 8), .ref (gm 9), .ref (gm 10), .ref (gm 11), .ref (gm 12), .ref (gm 13), .ref (gm 14), .int 0, .ref (gm 16), .int 0, .int 0, .int 0, .ref (gm 20), .ref (gm 21), .int 0, .int 0, .int 0, .int 0, .int 0, .int 0, .ref (gm 28), .ref (gm 29)])), (hr, .inl (kI, 2, .inl (fun _ => 0)))]) (wr := [(gn 0, .inl (kP, 6, .inr (.inr (.inr (.inr (fun _ => none)))))), (gm 7, .inl (kA, 6, .inr (.inr (.inr (.inr F))))), (rr, .inl (kY, 5, .inl (fun _ => 0))), (o, .inl (kL, 1, .inr (.inl (fun _ => 0))))]) (w1 := [(hm, .inr (12, u_9))]) hP hD f_7 [1, 2] [0, 3, 4, 5] rfl rfl (by decide) (by decide) hk1 ht hB
  generalize H1 = H at hP hS ⊢
  have hP : va_P D vwCl [(gn 0, .inl (kP, 6, .inr (.inr (.inr (.inr (fun _ => none)))))), (gm 7, .inl (kA, 6, .inr (.inr (.inr (.inr F))))), (rr, .inl (kY, 5, .inl (fun _ => 0))), (o, .inl (kL, 1, .inr (.inl (fun _ => 0)))), (hm, .inr (12, u_9))] H := hP
  have hD : va_D (fun q : Nat => s.heap.size ≤ q) [(gn 0, .inl (kP, 6, .inr (.inr (.inr (.inr (fun _ => none)))))), (gm 7, .inl (kA, 6, .inr (.inr (.inr (.inr F))))), (rr, .inl (kY, 5, .inl (fun _ => 0))), (o, .inl (kL, 1, .inr (.inl (fun _ => 0)))), (hm, .inr (12, u_9))] := hD
  refine lv_istore (lv' := [(6, .int r_8), (5, .int 1), (4, .int 0), (3, .ref o), (2, .ref hm), (1, .ref h0), (0, .ref b)]) hx hb dL_law_3016 hl (by decide) rfl (fun ls hl => ?_)
  refine lv_aload_n hx hb dL_law_3018 rfl (lv_at hl 4 rfl) ?_
  have f_11 := free_of (wc := [(hm, .inr (12, u_9))]) hD hS hA [4] rfl
  refine va_calli (va_runV (As := []) (rest := []) ⟨hx, hb, hml, hown, hts⟩ (c_thrown l D a1 a2 H.size hm u_9 1 h_10) (cwV 0 hts (gV w_458 w_459 w_460 w_244 w_461) rfl rfl rfl (by decide +kernel) ⟨Nat.le_of_ble_eq_true rfl, Nat.le_of_ble_eq_true rfl⟩) (pre_V hK hP hD hS hA hE [4] rfl (by decide) rfl [] rfl (ci := 12) (q0 := 4) rfl rfl) rfl rfl hl.1 rfl (lv_room (Nat.le_of_ble_eq_true rfl)) dL_law_3019 ⟨Nat.le_of_ble_eq_true rfl, Nat.le_of_ble_eq_true rfl⟩) hS (fun q _ h => f_11 q h) f_11 (fun r_12 u_13 t H1 locs ht hvm h_14 hB hz1 hk1 hS => ?_)
  obtain ⟨hP, hD⟩ := join (wc := [(hm, .inr (12, u_9))]) (wr := [(gn 0, .inl (kP, 6, .inr (.inr (.inr (.inr (fun _ => none)))))), (gm 7, .inl (kA, 6, .inr (.inr (.inr (.inr F))))), (rr, .inl (kY, 5, .inl (fun _ => 0))), (o, .inl (kL, 1, .inr (.inl (fun _ => 0))))]) (w1 := [(hm, .inr (12, u_9))]) hP hD f_11 [4] [0, 1, 2, 3] rfl rfl (by decide) (by decide) hk1 ht hB
  generalize H1 = H at hP hS ⊢
  have hP : va_P D vwCl [(gn 0, .inl (kP, 6, .inr (.inr (.inr (.inr (fun _ => none)))))), (gm 7, .inl (kA, 6, .inr (.inr (.inr (.inr F))))), (rr, .inl (kY, 5, .inl (fun _ => 0))), (o, .inl (kL, 1, .inr (.inl (fun _ => 0)))), (hm, .inr (12, u_9))] H := hP
  have hD : va_D (fun q : Nat => s.heap.size ≤ q) [(gn 0, .inl (kP, 6, .inr (.inr (.inr (.inr (fun _ => none)))))), (gm 7, .inl (kA, 6, .inr (.inr (.inr (.inr F))))), (rr, .inl (kY, 5, .inl (fun _ => 0))), (o, .inl (kL, 1, .inr (.inl (fun _ => 0)))), (hm, .inr (12, u_9))] := hD
  obtain rfl := h_14
  refine lv_iload hx hb dL_law_3022 (lv_at hl 1 rfl) ?_
  refine lv_icmp_eq (tgt := 3029) hx hb dL_law_3024 (by decide) (fun _ => ?_) (fun c => absurd (by decide) c)
  refine lv_iload hx hb dL_law_3029 (lv_at hl 1 rfl) ?_
  refine lv_if_ne (tgt := 3046) hx hb dL_law_3031 (by decide) (fun _ => ?_) (fun c => absurd c (by decide))
  refine lv_goto (tgt := 3913) hx hb dL_law_3046 (by decide) ?_
  exact law_tail hx hb hr_ hlocks hX hbl hS (Nat.le_of_ble_eq_true rfl) (Nat.le_of_ble_eq_true rfl) (lv_sub hl [2, 6] rfl)
set_option maxRecDepth 100000 in
set_option maxHeartbeats 4000000 in
theorem case_39 {p : Program} {l : Launch} (hl9 : l.stackTraces = false) {e : Env} {s : State} {m : MethodId} {below : List Frame} {meth : Method} {c : Code} {D : va_G} {a1 a2 b : Nat} {xs : Nat → Int32} {H : Heap} {locs : List Loc} {ls : Array Slot} (h0 h1 h2 : Nat) (g gn gb : Nat → Nat) (kP : ClassId) (hm hr rr : Nat) (gm : Nat → Nat) (kI kA kY : ClassId) (F : Nat → Option Nat) (o : Nat) (kL : ClassId) (hG : LawSt D a1 a2 p s m meth c b xs H locs ls h0 h1 h2 g gn gb kP hm hr rr gm kI kA kY F o kL) : W p l e room_1 s m #[Value.ref b] below meth c H locs 5338 65502 (lw_Z below #[Value.ref b] s) (F0 m 3049 ls []) := by
  obtain ⟨hx, hb, hr_, hml, hown, hts, hX, hbl, hlocks, hP, hK, hD, hA, hE, hS, hF, hl⟩ := hG
  have hbA : ¬ (fun q : Nat => s.heap.size ≤ q) b := Nat.not_le.mpr hbl
  refine lv_aload_n hx hb dL_law_3049 rfl (lv_at hl 3 rfl) ?_
  refine lv_aload_n hx hb dL_law_3050 rfl (lv_at hl 4 rfl) ?_
  refine lv_iload hx hb dL_law_3051 (lv_at hl 0 rfl) ?_
  refine lv_iconst (v := 1) hx hb dL_law_3053 (by decide) ?_
  refine lv_iadd hx hb dL_law_3054 ?_
  refine lv_topi (fun x_1 ex_1 => ?_)
  obtain rfl : x_1 = 1 := ex_1.trans (by decide)
  refine va_sld hx hb hX hbl hbA hS (i := 1) (by unfold vp_in; decide) dL_law_3055 ?_
  refine W.eq (g2 := F0 m 3056 ls [.int (xs 1), .ref h0]) rfl ?_
  refine lv_aload_n hx hb dL_law_3056 rfl (lv_at hl 1 rfl) ?_
  have f_2 := free_of (wc := [(h0, .inr (11, [.ref h1, .ref h2, .ref (g 2), .ref (g 3), .ref (g 4), .ref (g 5), .ref (g 6), .int 0, .int 0, .int 0, .int 0])), (h1, .inr (6, [.ref (gn 0), .int 0, .ref (gn 2), .ref (gn 3), .int 0, .ref (gn 5), .int 0, .int 0])), (h2, .inr (1, [.ref h1, .ref (gb 1), .int 0]))]) hD hS hA [0, 1, 2] rfl
  refine vx_calli (vx_runSX (As := [.ref h0, .int (xs 1), .ref o]) (rest := []) ⟨hx, hb, hml, hown, hts⟩ (c_h_most l hl9 D a1 a2 H.size h0 h1 h2 g gn gb (xs 1) o) (vx_cwSW 3 hts (gSW w_707 w_708 w_450 w_709) rfl rfl rfl (by decide +kernel) ⟨Nat.le_of_ble_eq_true rfl, Nat.le_of_ble_eq_true rfl⟩) (pre_S hK hP hD hS hA hE [0, 1, 2] rfl (by decide) rfl [] rfl) rfl rfl hl.1 rfl (lv_room (Nat.le_of_ble_eq_true rfl)) dL_law_3057 ⟨Nat.le_of_ble_eq_true rfl, Nat.le_of_ble_eq_true rfl⟩) hS (fun q _ h => f_2 q h) f_2 (fun q _ h => f_2 q h) (fun E ce q9 u9 t H locs ht hvm hw hB hz1 hk1 hS hce hcv hcl => False.elim hw) (fun r_3 u_4 t H1 locs ht hvm h_5 hB hz1 hk1 hS => ?_)
  obtain ⟨hP, hD⟩ := join (wc := [(h0, .inr (11, [.ref h1, .ref h2, .ref (g 2), .ref (g 3), .ref (g 4), .ref (g 5), .ref (g 6), .int 0, .int 0, .int 0, .int 0])), (h1, .inr (6, [.ref (gn 0), .int 0, .ref (gn 2), .ref (gn 3), .int 0, .ref (gn 5), .int 0, .int 0])), (h2, .inr (1, [.ref h1, .ref (gb 1), .int 0]))]) (wr := [(gn 0, .inl (kP, 6, .inr (.inr (.inr (.inr (fun _ => none)))))), (hm, .inr (12, [.int 0, .ref hr, .int 0, .int 0, .int 0, .int 0, .int 0, .ref (gm 7), .ref (gm 8), .ref (gm 9), .ref (gm 10), .ref (gm 11), .ref (gm 12), .ref (gm 13), .ref (gm 14), .int 0, .ref (gm 16), .int 0, .int 0, .int 0, .ref (gm 20), .ref (gm 21), .int 0, .int 0, .int 0, .int 0, .int 0, .int 0, .ref (gm 28), .ref (gm 29)])), (hr, .inl (kI, 2, .inl (fun _ => 0))), (gm 7, .inl (kA, 6, .inr (.inr (.inr (.inr F))))), (rr, .inl (kY, 5, .inl (fun _ => 0))), (o, .inl (kL, 1, .inr (.inl (fun _ => 0))))]) (w1 := []) hP hD f_2 [0, 1, 2] [3, 4, 5, 6, 7, 8] rfl rfl (by decide) (by decide) hk1 ht wat_nil
  generalize H1 = H at hP hS ⊢
  have hP : va_P D vwCl [(gn 0, .inl (kP, 6, .inr (.inr (.inr (.inr (fun _ => none)))))), (hm, .inr (12, [.int 0, .ref hr, .int 0, .int 0, .int 0, .int 0, .int 0, .ref (gm 7), .ref (gm 8), .ref (gm 9), .ref (gm 10), .ref (gm 11), .ref (gm 12), .ref (gm 13), .ref (gm 14), .int 0, .ref (gm 16), .int 0, .int 0, .int 0, .ref (gm 20), .ref (gm 21), .int 0, .int 0, .int 0, .int 0, .int 0, .int 0, .ref (gm 28), .ref (gm 29)])), (hr, .inl (kI, 2, .inl (fun _ => 0))), (gm 7, .inl (kA, 6, .inr (.inr (.inr (.inr F))))), (rr, .inl (kY, 5, .inl (fun _ => 0))), (o, .inl (kL, 1, .inr (.inl (fun _ => 0))))] H := hP
  have hD : va_D (fun q : Nat => s.heap.size ≤ q) [(gn 0, .inl (kP, 6, .inr (.inr (.inr (.inr (fun _ => none)))))), (hm, .inr (12, [.int 0, .ref hr, .int 0, .int 0, .int 0, .int 0, .int 0, .ref (gm 7), .ref (gm 8), .ref (gm 9), .ref (gm 10), .ref (gm 11), .ref (gm 12), .ref (gm 13), .ref (gm 14), .int 0, .ref (gm 16), .int 0, .int 0, .int 0, .ref (gm 20), .ref (gm 21), .int 0, .int 0, .int 0, .int 0, .int 0, .int 0, .ref (gm 28), .ref (gm 29)])), (hr, .inl (kI, 2, .inl (fun _ => 0))), (gm 7, .inl (kA, 6, .inr (.inr (.inr (.inr F))))), (rr, .inl (kY, 5, .inl (fun _ => 0))), (o, .inl (kL, 1, .inr (.inl (fun _ => 0))))] := hD
  obtain rfl := h_5
  refine lv_istore (lv' := [(5, .int 1), (4, .int 0), (3, .ref o), (2, .ref hm), (1, .ref h0), (0, .ref b)]) hx hb dL_law_3060 hl (by decide) rfl (fun ls hl => ?_)
  refine lv_aload_n hx hb dL_law_3062 rfl (lv_at hl 3 rfl) ?_
  refine lv_aload_n hx hb dL_law_3063 rfl (lv_at hl 5 rfl) ?_
  refine lv_iload hx hb dL_law_3064 (lv_at hl 1 rfl) ?_
  refine lv_iconst (v := 1) hx hb dL_law_3066 (by decide) ?_
  refine lv_iadd hx hb dL_law_3067 ?_
  refine lv_topi (fun x_6 ex_6 => ?_)
  obtain rfl : x_6 = 1 := ex_6.trans (by decide)
  refine va_sld hx hb hX hbl hbA hS (i := 1) (by unfold vp_in; decide) dL_law_3068 ?_
  refine W.eq (g2 := F0 m 3069 ls [.int (xs 1), .ref hm]) rfl ?_
  have f_7 := free_of (wc := [(hm, .inr (12, [.int 0, .ref hr, .int 0, .int 0, .int 0, .int 0, .int 0, .ref (gm 7), .ref (gm 8), .ref (gm 9), .ref (gm 10), .ref (gm 11), .ref (gm 12), .ref (gm 13), .ref (gm 14), .int 0, .ref (gm 16), .int 0, .int 0, .int 0, .ref (gm 20), .ref (gm 21), .int 0, .int 0, .int 0, .int 0, .int 0, .int 0, .ref (gm 28), .ref (gm 29)])), (hr, .inl (kI, 2, .inl (fun _ => 0)))]) hD hS hA [1, 2] rfl
  refine va_calli (va_runV (As := [.int (xs 1)]) (rest := []) ⟨hx, hb, hml, hown, hts⟩ (c_m_most l D a1 a2 H.size hm hr gm kI (xs 1)) (cwV 1 hts (gV w_710 w_711 w_712 w_244 w_713) rfl rfl rfl (by decide +kernel) ⟨Nat.le_of_ble_eq_true rfl, Nat.le_of_ble_eq_true rfl⟩) (pre_V hK hP hD hS hA hE [1, 2] rfl (by decide) rfl [1] rfl (ci := 12) (q0 := 1) rfl rfl) rfl rfl hl.1 rfl (lv_room (Nat.le_of_ble_eq_true rfl)) dL_law_3069 ⟨Nat.le_of_ble_eq_true rfl, Nat.le_of_ble_eq_true rfl⟩) hS (fun q _ h => f_7 q h) f_7 (fun r_8 u_9 t H1 locs ht hvm h_10 hB hz1 hk1 hS => ?_)
  obtain ⟨hP, hD⟩ := join (wc := [(hm, .inr (12, [.int 0, .ref hr, .int 0, .int 0, .int 0, .int 0, .int 0, .ref (gm 7), .ref (gm 8), .ref (gm 9), .ref (gm 10), .ref (gm 11), .ref (gm 12), .ref (gm 13), .ref (gm 14), .int 0, .ref (gm 16), .int 0, .int 0, .int 0, .ref (gm 20), .ref (gm 21), .int 0, .int 0, .int 0, .int 0, .int 0, .int 0, .ref (gm 28), .ref (gm 29)])), (hr, .inl (kI, 2, .inl (fun _ => 0)))]) (wr := [(gn 0, .inl (kP, 6, .inr (.inr (.inr (.inr (fun _ => none)))))), (gm 7, .inl (kA, 6, .inr (.inr (.inr (.inr F))))), (rr, .inl (kY, 5, .inl (fun _ => 0))), (o, .inl (kL, 1, .inr (.inl (fun _ => 0))))]) (w1 := [(hm, .inr (12, u_9))]) hP hD f_7 [1, 2] [0, 3, 4, 5] rfl rfl (by decide) (by decide) hk1 ht hB
  generalize H1 = H at hP hS ⊢
  have hP : va_P D vwCl [(gn 0, .inl (kP, 6, .inr (.inr (.inr (.inr (fun _ => none)))))), (gm 7, .inl (kA, 6, .inr (.inr (.inr (.inr F))))), (rr, .inl (kY, 5, .inl (fun _ => 0))), (o, .inl (kL, 1, .inr (.inl (fun _ => 0)))), (hm, .inr (12, u_9))] H := hP
  have hD : va_D (fun q : Nat => s.heap.size ≤ q) [(gn 0, .inl (kP, 6, .inr (.inr (.inr (.inr (fun _ => none)))))), (gm 7, .inl (kA, 6, .inr (.inr (.inr (.inr F))))), (rr, .inl (kY, 5, .inl (fun _ => 0))), (o, .inl (kL, 1, .inr (.inl (fun _ => 0)))), (hm, .inr (12, u_9))] := hD
  refine lv_istore (lv' := [(6, .int r_8), (5, .int 1), (4, .int 0), (3, .ref o), (2, .ref hm), (1, .ref h0), (0, .ref b)]) hx hb dL_law_3072 hl (by decide) rfl (fun ls hl => ?_)
  refine lv_aload_n hx hb dL_law_3074 rfl (lv_at hl 4 rfl) ?_
  have f_11 := free_of (wc := [(hm, .inr (12, u_9))]) hD hS hA [4] rfl
  refine va_calli (va_runV (As := []) (rest := []) ⟨hx, hb, hml, hown, hts⟩ (c_thrown l D a1 a2 H.size hm u_9 1 h_10) (cwV 0 hts (gV w_458 w_459 w_460 w_244 w_461) rfl rfl rfl (by decide +kernel) ⟨Nat.le_of_ble_eq_true rfl, Nat.le_of_ble_eq_true rfl⟩) (pre_V hK hP hD hS hA hE [4] rfl (by decide) rfl [] rfl (ci := 12) (q0 := 4) rfl rfl) rfl rfl hl.1 rfl (lv_room (Nat.le_of_ble_eq_true rfl)) dL_law_3075 ⟨Nat.le_of_ble_eq_true rfl, Nat.le_of_ble_eq_true rfl⟩) hS (fun q _ h => f_11 q h) f_11 (fun r_12 u_13 t H1 locs ht hvm h_14 hB hz1 hk1 hS => ?_)
  obtain ⟨hP, hD⟩ := join (wc := [(hm, .inr (12, u_9))]) (wr := [(gn 0, .inl (kP, 6, .inr (.inr (.inr (.inr (fun _ => none)))))), (gm 7, .inl (kA, 6, .inr (.inr (.inr (.inr F))))), (rr, .inl (kY, 5, .inl (fun _ => 0))), (o, .inl (kL, 1, .inr (.inl (fun _ => 0))))]) (w1 := [(hm, .inr (12, u_9))]) hP hD f_11 [4] [0, 1, 2, 3] rfl rfl (by decide) (by decide) hk1 ht hB
  generalize H1 = H at hP hS ⊢
  have hP : va_P D vwCl [(gn 0, .inl (kP, 6, .inr (.inr (.inr (.inr (fun _ => none)))))), (gm 7, .inl (kA, 6, .inr (.inr (.inr (.inr F))))), (rr, .inl (kY, 5, .inl (fun _ => 0))), (o, .inl (kL, 1, .inr (.inl (fun _ => 0)))), (hm, .inr (12, u_9))] H := hP
  have hD : va_D (fun q : Nat => s.heap.size ≤ q) [(gn 0, .inl (kP, 6, .inr (.inr (.inr (.inr (fun _ => none)))))), (gm 7, .inl (kA, 6, .inr (.inr (.inr (.inr F))))), (rr, .inl (kY, 5, .inl (fun _ => 0))), (o, .inl (kL, 1, .inr (.inl (fun _ => 0)))), (hm, .inr (12, u_9))] := hD
  obtain rfl := h_14
  refine lv_iload hx hb dL_law_3078 (lv_at hl 1 rfl) ?_
  refine lv_icmp_eq (tgt := 3085) hx hb dL_law_3080 (by decide) (fun _ => ?_) (fun c => absurd (by decide) c)
  refine lv_iload hx hb dL_law_3085 (lv_at hl 1 rfl) ?_
  refine lv_if_ne (tgt := 3102) hx hb dL_law_3087 (by decide) (fun _ => ?_) (fun c => absurd c (by decide))
  refine lv_goto (tgt := 3913) hx hb dL_law_3102 (by decide) ?_
  exact law_tail hx hb hr_ hlocks hX hbl hS (Nat.le_of_ble_eq_true rfl) (Nat.le_of_ble_eq_true rfl) (lv_sub hl [2, 6] rfl)
set_option maxRecDepth 100000 in
set_option maxHeartbeats 4000000 in
theorem case_40 {p : Program} {l : Launch} (hl9 : l.stackTraces = false) {e : Env} {s : State} {m : MethodId} {below : List Frame} {meth : Method} {c : Code} {D : va_G} {a1 a2 b : Nat} {xs : Nat → Int32} {H : Heap} {locs : List Loc} {ls : Array Slot} (h0 h1 h2 : Nat) (g gn gb : Nat → Nat) (kP : ClassId) (hm hr rr : Nat) (gm : Nat → Nat) (kI kA kY : ClassId) (F : Nat → Option Nat) (o : Nat) (kL : ClassId) (hG : LawSt D a1 a2 p s m meth c b xs H locs ls h0 h1 h2 g gn gb kP hm hr rr gm kI kA kY F o kL) : W p l e room_1 s m #[Value.ref b] below meth c H locs 5338 65502 (lw_Z below #[Value.ref b] s) (F0 m 3105 ls []) := by
  obtain ⟨hx, hb, hr_, hml, hown, hts, hX, hbl, hlocks, hP, hK, hD, hA, hE, hS, hF, hl⟩ := hG
  have hbA : ¬ (fun q : Nat => s.heap.size ≤ q) b := Nat.not_le.mpr hbl
  refine lv_aload_n hx hb dL_law_3105 rfl (lv_at hl 3 rfl) ?_
  refine lv_aload_n hx hb dL_law_3106 rfl (lv_at hl 4 rfl) ?_
  refine lv_iload hx hb dL_law_3107 (lv_at hl 0 rfl) ?_
  refine lv_iconst (v := 1) hx hb dL_law_3109 (by decide) ?_
  refine lv_iadd hx hb dL_law_3110 ?_
  refine lv_topi (fun x_1 ex_1 => ?_)
  obtain rfl : x_1 = 1 := ex_1.trans (by decide)
  refine va_sld hx hb hX hbl hbA hS (i := 1) (by unfold vp_in; decide) dL_law_3111 ?_
  refine W.eq (g2 := F0 m 3112 ls [.int (xs 1), .ref h0]) rfl ?_
  refine lv_aload_n hx hb dL_law_3112 rfl (lv_at hl 1 rfl) ?_
  have f_2 := free_of (wc := [(h0, .inr (11, [.ref h1, .ref h2, .ref (g 2), .ref (g 3), .ref (g 4), .ref (g 5), .ref (g 6), .int 0, .int 0, .int 0, .int 0])), (h1, .inr (6, [.ref (gn 0), .int 0, .ref (gn 2), .ref (gn 3), .int 0, .ref (gn 5), .int 0, .int 0])), (h2, .inr (1, [.ref h1, .ref (gb 1), .int 0]))]) hD hS hA [0, 1, 2] rfl
  refine vx_calli (vx_runSX (As := [.ref h0, .int (xs 1), .ref o]) (rest := []) ⟨hx, hb, hml, hown, hts⟩ (c_h_bars l hl9 D a1 a2 H.size h0 h1 h2 g gn gb (xs 1) o) (vx_cwSW 3 hts (gSW w_714 w_715 w_450 w_716) rfl rfl rfl (by decide +kernel) ⟨Nat.le_of_ble_eq_true rfl, Nat.le_of_ble_eq_true rfl⟩) (pre_S hK hP hD hS hA hE [0, 1, 2] rfl (by decide) rfl [] rfl) rfl rfl hl.1 rfl (lv_room (Nat.le_of_ble_eq_true rfl)) dL_law_3113 ⟨Nat.le_of_ble_eq_true rfl, Nat.le_of_ble_eq_true rfl⟩) hS (fun q _ h => f_2 q h) f_2 (fun q _ h => f_2 q h) (fun E ce q9 u9 t H locs ht hvm hw hB hz1 hk1 hS hce hcv hcl => False.elim hw) (fun r_3 u_4 t H1 locs ht hvm h_5 hB hz1 hk1 hS => ?_)
  obtain ⟨hP, hD⟩ := join (wc := [(h0, .inr (11, [.ref h1, .ref h2, .ref (g 2), .ref (g 3), .ref (g 4), .ref (g 5), .ref (g 6), .int 0, .int 0, .int 0, .int 0])), (h1, .inr (6, [.ref (gn 0), .int 0, .ref (gn 2), .ref (gn 3), .int 0, .ref (gn 5), .int 0, .int 0])), (h2, .inr (1, [.ref h1, .ref (gb 1), .int 0]))]) (wr := [(gn 0, .inl (kP, 6, .inr (.inr (.inr (.inr (fun _ => none)))))), (hm, .inr (12, [.int 0, .ref hr, .int 0, .int 0, .int 0, .int 0, .int 0, .ref (gm 7), .ref (gm 8), .ref (gm 9), .ref (gm 10), .ref (gm 11), .ref (gm 12), .ref (gm 13), .ref (gm 14), .int 0, .ref (gm 16), .int 0, .int 0, .int 0, .ref (gm 20), .ref (gm 21), .int 0, .int 0, .int 0, .int 0, .int 0, .int 0, .ref (gm 28), .ref (gm 29)])), (hr, .inl (kI, 2, .inl (fun _ => 0))), (gm 7, .inl (kA, 6, .inr (.inr (.inr (.inr F))))), (rr, .inl (kY, 5, .inl (fun _ => 0))), (o, .inl (kL, 1, .inr (.inl (fun _ => 0))))]) (w1 := []) hP hD f_2 [0, 1, 2] [3, 4, 5, 6, 7, 8] rfl rfl (by decide) (by decide) hk1 ht wat_nil
  generalize H1 = H at hP hS ⊢
  have hP : va_P D vwCl [(gn 0, .inl (kP, 6, .inr (.inr (.inr (.inr (fun _ => none)))))), (hm, .inr (12, [.int 0, .ref hr, .int 0, .int 0, .int 0, .int 0, .int 0, .ref (gm 7), .ref (gm 8), .ref (gm 9), .ref (gm 10), .ref (gm 11), .ref (gm 12), .ref (gm 13), .ref (gm 14), .int 0, .ref (gm 16), .int 0, .int 0, .int 0, .ref (gm 20), .ref (gm 21), .int 0, .int 0, .int 0, .int 0, .int 0, .int 0, .ref (gm 28), .ref (gm 29)])), (hr, .inl (kI, 2, .inl (fun _ => 0))), (gm 7, .inl (kA, 6, .inr (.inr (.inr (.inr F))))), (rr, .inl (kY, 5, .inl (fun _ => 0))), (o, .inl (kL, 1, .inr (.inl (fun _ => 0))))] H := hP
  have hD : va_D (fun q : Nat => s.heap.size ≤ q) [(gn 0, .inl (kP, 6, .inr (.inr (.inr (.inr (fun _ => none)))))), (hm, .inr (12, [.int 0, .ref hr, .int 0, .int 0, .int 0, .int 0, .int 0, .ref (gm 7), .ref (gm 8), .ref (gm 9), .ref (gm 10), .ref (gm 11), .ref (gm 12), .ref (gm 13), .ref (gm 14), .int 0, .ref (gm 16), .int 0, .int 0, .int 0, .ref (gm 20), .ref (gm 21), .int 0, .int 0, .int 0, .int 0, .int 0, .int 0, .ref (gm 28), .ref (gm 29)])), (hr, .inl (kI, 2, .inl (fun _ => 0))), (gm 7, .inl (kA, 6, .inr (.inr (.inr (.inr F))))), (rr, .inl (kY, 5, .inl (fun _ => 0))), (o, .inl (kL, 1, .inr (.inl (fun _ => 0))))] := hD
  obtain rfl := h_5
  refine lv_istore (lv' := [(5, .int 1), (4, .int 0), (3, .ref o), (2, .ref hm), (1, .ref h0), (0, .ref b)]) hx hb dL_law_3116 hl (by decide) rfl (fun ls hl => ?_)
  refine lv_aload_n hx hb dL_law_3118 rfl (lv_at hl 3 rfl) ?_
  refine lv_aload_n hx hb dL_law_3119 rfl (lv_at hl 5 rfl) ?_
  refine lv_iload hx hb dL_law_3120 (lv_at hl 1 rfl) ?_
  refine lv_iconst (v := 1) hx hb dL_law_3122 (by decide) ?_
  refine lv_iadd hx hb dL_law_3123 ?_
  refine lv_topi (fun x_6 ex_6 => ?_)
  obtain rfl : x_6 = 1 := ex_6.trans (by decide)
  refine va_sld hx hb hX hbl hbA hS (i := 1) (by unfold vp_in; decide) dL_law_3124 ?_
  refine W.eq (g2 := F0 m 3125 ls [.int (xs 1), .ref hm]) rfl ?_
  have f_7 := free_of (wc := [(hm, .inr (12, [.int 0, .ref hr, .int 0, .int 0, .int 0, .int 0, .int 0, .ref (gm 7), .ref (gm 8), .ref (gm 9), .ref (gm 10), .ref (gm 11), .ref (gm 12), .ref (gm 13), .ref (gm 14), .int 0, .ref (gm 16), .int 0, .int 0, .int 0, .ref (gm 20), .ref (gm 21), .int 0, .int 0, .int 0, .int 0, .int 0, .int 0, .ref (gm 28), .ref (gm 29)])), (hr, .inl (kI, 2, .inl (fun _ => 0)))]) hD hS hA [1, 2] rfl
  refine va_calli (va_runV (As := [.int (xs 1)]) (rest := []) ⟨hx, hb, hml, hown, hts⟩ (c_m_bars l D a1 a2 H.size hm hr gm kI (xs 1)) (cwV 1 hts (gV w_717 w_718 w_719 w_244 w_720) rfl rfl rfl (by decide +kernel) ⟨Nat.le_of_ble_eq_true rfl, Nat.le_of_ble_eq_true rfl⟩) (pre_V hK hP hD hS hA hE [1, 2] rfl (by decide) rfl [1] rfl (ci := 12) (q0 := 1) rfl rfl) rfl rfl hl.1 rfl (lv_room (Nat.le_of_ble_eq_true rfl)) dL_law_3125 ⟨Nat.le_of_ble_eq_true rfl, Nat.le_of_ble_eq_true rfl⟩) hS (fun q _ h => f_7 q h) f_7 (fun r_8 u_9 t H1 locs ht hvm h_10 hB hz1 hk1 hS => ?_)
  obtain ⟨hP, hD⟩ := join (wc := [(hm, .inr (12, [.int 0, .ref hr, .int 0, .int 0, .int 0, .int 0, .int 0, .ref (gm 7), .ref (gm 8), .ref (gm 9), .ref (gm 10), .ref (gm 11), .ref (gm 12), .ref (gm 13), .ref (gm 14), .int 0, .ref (gm 16), .int 0, .int 0, .int 0, .ref (gm 20), .ref (gm 21), .int 0, .int 0, .int 0, .int 0, .int 0, .int 0, .ref (gm 28), .ref (gm 29)])), (hr, .inl (kI, 2, .inl (fun _ => 0)))]) (wr := [(gn 0, .inl (kP, 6, .inr (.inr (.inr (.inr (fun _ => none)))))), (gm 7, .inl (kA, 6, .inr (.inr (.inr (.inr F))))), (rr, .inl (kY, 5, .inl (fun _ => 0))), (o, .inl (kL, 1, .inr (.inl (fun _ => 0))))]) (w1 := [(hm, .inr (12, u_9))]) hP hD f_7 [1, 2] [0, 3, 4, 5] rfl rfl (by decide) (by decide) hk1 ht hB
  generalize H1 = H at hP hS ⊢
  have hP : va_P D vwCl [(gn 0, .inl (kP, 6, .inr (.inr (.inr (.inr (fun _ => none)))))), (gm 7, .inl (kA, 6, .inr (.inr (.inr (.inr F))))), (rr, .inl (kY, 5, .inl (fun _ => 0))), (o, .inl (kL, 1, .inr (.inl (fun _ => 0)))), (hm, .inr (12, u_9))] H := hP
  have hD : va_D (fun q : Nat => s.heap.size ≤ q) [(gn 0, .inl (kP, 6, .inr (.inr (.inr (.inr (fun _ => none)))))), (gm 7, .inl (kA, 6, .inr (.inr (.inr (.inr F))))), (rr, .inl (kY, 5, .inl (fun _ => 0))), (o, .inl (kL, 1, .inr (.inl (fun _ => 0)))), (hm, .inr (12, u_9))] := hD
  refine lv_istore (lv' := [(6, .int r_8), (5, .int 1), (4, .int 0), (3, .ref o), (2, .ref hm), (1, .ref h0), (0, .ref b)]) hx hb dL_law_3128 hl (by decide) rfl (fun ls hl => ?_)
  refine lv_aload_n hx hb dL_law_3130 rfl (lv_at hl 4 rfl) ?_
  have f_11 := free_of (wc := [(hm, .inr (12, u_9))]) hD hS hA [4] rfl
  refine va_calli (va_runV (As := []) (rest := []) ⟨hx, hb, hml, hown, hts⟩ (c_thrown l D a1 a2 H.size hm u_9 1 h_10) (cwV 0 hts (gV w_458 w_459 w_460 w_244 w_461) rfl rfl rfl (by decide +kernel) ⟨Nat.le_of_ble_eq_true rfl, Nat.le_of_ble_eq_true rfl⟩) (pre_V hK hP hD hS hA hE [4] rfl (by decide) rfl [] rfl (ci := 12) (q0 := 4) rfl rfl) rfl rfl hl.1 rfl (lv_room (Nat.le_of_ble_eq_true rfl)) dL_law_3131 ⟨Nat.le_of_ble_eq_true rfl, Nat.le_of_ble_eq_true rfl⟩) hS (fun q _ h => f_11 q h) f_11 (fun r_12 u_13 t H1 locs ht hvm h_14 hB hz1 hk1 hS => ?_)
  obtain ⟨hP, hD⟩ := join (wc := [(hm, .inr (12, u_9))]) (wr := [(gn 0, .inl (kP, 6, .inr (.inr (.inr (.inr (fun _ => none)))))), (gm 7, .inl (kA, 6, .inr (.inr (.inr (.inr F))))), (rr, .inl (kY, 5, .inl (fun _ => 0))), (o, .inl (kL, 1, .inr (.inl (fun _ => 0))))]) (w1 := [(hm, .inr (12, u_9))]) hP hD f_11 [4] [0, 1, 2, 3] rfl rfl (by decide) (by decide) hk1 ht hB
  generalize H1 = H at hP hS ⊢
  have hP : va_P D vwCl [(gn 0, .inl (kP, 6, .inr (.inr (.inr (.inr (fun _ => none)))))), (gm 7, .inl (kA, 6, .inr (.inr (.inr (.inr F))))), (rr, .inl (kY, 5, .inl (fun _ => 0))), (o, .inl (kL, 1, .inr (.inl (fun _ => 0)))), (hm, .inr (12, u_9))] H := hP
  have hD : va_D (fun q : Nat => s.heap.size ≤ q) [(gn 0, .inl (kP, 6, .inr (.inr (.inr (.inr (fun _ => none)))))), (gm 7, .inl (kA, 6, .inr (.inr (.inr (.inr F))))), (rr, .inl (kY, 5, .inl (fun _ => 0))), (o, .inl (kL, 1, .inr (.inl (fun _ => 0)))), (hm, .inr (12, u_9))] := hD
  obtain rfl := h_14
  refine lv_iload hx hb dL_law_3134 (lv_at hl 1 rfl) ?_
  refine lv_icmp_eq (tgt := 3141) hx hb dL_law_3136 (by decide) (fun _ => ?_) (fun c => absurd (by decide) c)
  refine lv_iload hx hb dL_law_3141 (lv_at hl 1 rfl) ?_
  refine lv_if_ne (tgt := 3158) hx hb dL_law_3143 (by decide) (fun _ => ?_) (fun c => absurd c (by decide))
  refine lv_goto (tgt := 3913) hx hb dL_law_3158 (by decide) ?_
  exact law_tail hx hb hr_ hlocks hX hbl hS (Nat.le_of_ble_eq_true rfl) (Nat.le_of_ble_eq_true rfl) (lv_sub hl [2, 6] rfl)
set_option maxRecDepth 100000 in
set_option maxHeartbeats 4000000 in
theorem case_41 {p : Program} {l : Launch} (hl9 : l.stackTraces = false) {e : Env} {s : State} {m : MethodId} {below : List Frame} {meth : Method} {c : Code} {D : va_G} {a1 a2 b : Nat} {xs : Nat → Int32} {H : Heap} {locs : List Loc} {ls : Array Slot} (h0 h1 h2 : Nat) (g gn gb : Nat → Nat) (kP : ClassId) (hm hr rr : Nat) (gm : Nat → Nat) (kI kA kY : ClassId) (F : Nat → Option Nat) (o : Nat) (kL : ClassId) (hG : LawSt D a1 a2 p s m meth c b xs H locs ls h0 h1 h2 g gn gb kP hm hr rr gm kI kA kY F o kL) : W p l e room_1 s m #[Value.ref b] below meth c H locs 5338 65502 (lw_Z below #[Value.ref b] s) (F0 m 3161 ls []) := by
  obtain ⟨hx, hb, hr_, hml, hown, hts, hX, hbl, hlocks, hP, hK, hD, hA, hE, hS, hF, hl⟩ := hG
  have hbA : ¬ (fun q : Nat => s.heap.size ≤ q) b := Nat.not_le.mpr hbl
  refine lv_aload_n hx hb dL_law_3161 rfl (lv_at hl 3 rfl) ?_
  refine lv_aload_n hx hb dL_law_3162 rfl (lv_at hl 4 rfl) ?_
  refine lv_iload hx hb dL_law_3163 (lv_at hl 0 rfl) ?_
  refine lv_iconst (v := 1) hx hb dL_law_3165 (by decide) ?_
  refine lv_iadd hx hb dL_law_3166 ?_
  refine lv_topi (fun x_1 ex_1 => ?_)
  obtain rfl : x_1 = 1 := ex_1.trans (by decide)
  refine va_sld hx hb hX hbl hbA hS (i := 1) (by unfold vp_in; decide) dL_law_3167 ?_
  refine W.eq (g2 := F0 m 3168 ls [.int (xs 1), .ref h0]) rfl ?_
  refine lv_aload_n hx hb dL_law_3168 rfl (lv_at hl 1 rfl) ?_
  have f_2 := free_of (wc := [(h0, .inr (11, [.ref h1, .ref h2, .ref (g 2), .ref (g 3), .ref (g 4), .ref (g 5), .ref (g 6), .int 0, .int 0, .int 0, .int 0])), (h1, .inr (6, [.ref (gn 0), .int 0, .ref (gn 2), .ref (gn 3), .int 0, .ref (gn 5), .int 0, .int 0])), (h2, .inr (1, [.ref h1, .ref (gb 1), .int 0]))]) hD hS hA [0, 1, 2] rfl
  refine vx_calli (vx_runSX (As := [.ref h0, .int (xs 1), .ref o]) (rest := []) ⟨hx, hb, hml, hown, hts⟩ (c_h_soonest l hl9 D a1 a2 H.size h0 h1 h2 g gn gb (xs 1) o) (vx_cwSW 3 hts (gSW w_721 w_722 w_450 w_723) rfl rfl rfl (by decide +kernel) ⟨Nat.le_of_ble_eq_true rfl, Nat.le_of_ble_eq_true rfl⟩) (pre_S hK hP hD hS hA hE [0, 1, 2] rfl (by decide) rfl [] rfl) rfl rfl hl.1 rfl (lv_room (Nat.le_of_ble_eq_true rfl)) dL_law_3169 ⟨Nat.le_of_ble_eq_true rfl, Nat.le_of_ble_eq_true rfl⟩) hS (fun q _ h => f_2 q h) f_2 (fun q _ h => f_2 q h) (fun E ce q9 u9 t H locs ht hvm hw hB hz1 hk1 hS hce hcv hcl => False.elim hw) (fun r_3 u_4 t H1 locs ht hvm h_5 hB hz1 hk1 hS => ?_)
  obtain ⟨hP, hD⟩ := join (wc := [(h0, .inr (11, [.ref h1, .ref h2, .ref (g 2), .ref (g 3), .ref (g 4), .ref (g 5), .ref (g 6), .int 0, .int 0, .int 0, .int 0])), (h1, .inr (6, [.ref (gn 0), .int 0, .ref (gn 2), .ref (gn 3), .int 0, .ref (gn 5), .int 0, .int 0])), (h2, .inr (1, [.ref h1, .ref (gb 1), .int 0]))]) (wr := [(gn 0, .inl (kP, 6, .inr (.inr (.inr (.inr (fun _ => none)))))), (hm, .inr (12, [.int 0, .ref hr, .int 0, .int 0, .int 0, .int 0, .int 0, .ref (gm 7), .ref (gm 8), .ref (gm 9), .ref (gm 10), .ref (gm 11), .ref (gm 12), .ref (gm 13), .ref (gm 14), .int 0, .ref (gm 16), .int 0, .int 0, .int 0, .ref (gm 20), .ref (gm 21), .int 0, .int 0, .int 0, .int 0, .int 0, .int 0, .ref (gm 28), .ref (gm 29)])), (hr, .inl (kI, 2, .inl (fun _ => 0))), (gm 7, .inl (kA, 6, .inr (.inr (.inr (.inr F))))), (rr, .inl (kY, 5, .inl (fun _ => 0))), (o, .inl (kL, 1, .inr (.inl (fun _ => 0))))]) (w1 := []) hP hD f_2 [0, 1, 2] [3, 4, 5, 6, 7, 8] rfl rfl (by decide) (by decide) hk1 ht wat_nil
  generalize H1 = H at hP hS ⊢
  have hP : va_P D vwCl [(gn 0, .inl (kP, 6, .inr (.inr (.inr (.inr (fun _ => none)))))), (hm, .inr (12, [.int 0, .ref hr, .int 0, .int 0, .int 0, .int 0, .int 0, .ref (gm 7), .ref (gm 8), .ref (gm 9), .ref (gm 10), .ref (gm 11), .ref (gm 12), .ref (gm 13), .ref (gm 14), .int 0, .ref (gm 16), .int 0, .int 0, .int 0, .ref (gm 20), .ref (gm 21), .int 0, .int 0, .int 0, .int 0, .int 0, .int 0, .ref (gm 28), .ref (gm 29)])), (hr, .inl (kI, 2, .inl (fun _ => 0))), (gm 7, .inl (kA, 6, .inr (.inr (.inr (.inr F))))), (rr, .inl (kY, 5, .inl (fun _ => 0))), (o, .inl (kL, 1, .inr (.inl (fun _ => 0))))] H := hP
  have hD : va_D (fun q : Nat => s.heap.size ≤ q) [(gn 0, .inl (kP, 6, .inr (.inr (.inr (.inr (fun _ => none)))))), (hm, .inr (12, [.int 0, .ref hr, .int 0, .int 0, .int 0, .int 0, .int 0, .ref (gm 7), .ref (gm 8), .ref (gm 9), .ref (gm 10), .ref (gm 11), .ref (gm 12), .ref (gm 13), .ref (gm 14), .int 0, .ref (gm 16), .int 0, .int 0, .int 0, .ref (gm 20), .ref (gm 21), .int 0, .int 0, .int 0, .int 0, .int 0, .int 0, .ref (gm 28), .ref (gm 29)])), (hr, .inl (kI, 2, .inl (fun _ => 0))), (gm 7, .inl (kA, 6, .inr (.inr (.inr (.inr F))))), (rr, .inl (kY, 5, .inl (fun _ => 0))), (o, .inl (kL, 1, .inr (.inl (fun _ => 0))))] := hD
  obtain rfl := h_5
  refine lv_istore (lv' := [(5, .int 1), (4, .int 0), (3, .ref o), (2, .ref hm), (1, .ref h0), (0, .ref b)]) hx hb dL_law_3172 hl (by decide) rfl (fun ls hl => ?_)
  refine lv_aload_n hx hb dL_law_3174 rfl (lv_at hl 3 rfl) ?_
  refine lv_aload_n hx hb dL_law_3175 rfl (lv_at hl 5 rfl) ?_
  refine lv_iload hx hb dL_law_3176 (lv_at hl 1 rfl) ?_
  refine lv_iconst (v := 1) hx hb dL_law_3178 (by decide) ?_
  refine lv_iadd hx hb dL_law_3179 ?_
  refine lv_topi (fun x_6 ex_6 => ?_)
  obtain rfl : x_6 = 1 := ex_6.trans (by decide)
  refine va_sld hx hb hX hbl hbA hS (i := 1) (by unfold vp_in; decide) dL_law_3180 ?_
  refine W.eq (g2 := F0 m 3181 ls [.int (xs 1), .ref hm]) rfl ?_
  have f_7 := free_of (wc := [(hm, .inr (12, [.int 0, .ref hr, .int 0, .int 0, .int 0, .int 0, .int 0, .ref (gm 7), .ref (gm 8), .ref (gm 9), .ref (gm 10), .ref (gm 11), .ref (gm 12), .ref (gm 13), .ref (gm 14), .int 0, .ref (gm 16), .int 0, .int 0, .int 0, .ref (gm 20), .ref (gm 21), .int 0, .int 0, .int 0, .int 0, .int 0, .int 0, .ref (gm 28), .ref (gm 29)])), (hr, .inl (kI, 2, .inl (fun _ => 0)))]) hD hS hA [1, 2] rfl
  refine va_calli (va_runV (As := [.int (xs 1)]) (rest := []) ⟨hx, hb, hml, hown, hts⟩ (c_m_soonest l D a1 a2 H.size hm hr gm kI (xs 1)) (cwV 1 hts (gV w_724 w_725 w_726 w_244 w_727) rfl rfl rfl (by decide +kernel) ⟨Nat.le_of_ble_eq_true rfl, Nat.le_of_ble_eq_true rfl⟩) (pre_V hK hP hD hS hA hE [1, 2] rfl (by decide) rfl [1] rfl (ci := 12) (q0 := 1) rfl rfl) rfl rfl hl.1 rfl (lv_room (Nat.le_of_ble_eq_true rfl)) dL_law_3181 ⟨Nat.le_of_ble_eq_true rfl, Nat.le_of_ble_eq_true rfl⟩) hS (fun q _ h => f_7 q h) f_7 (fun r_8 u_9 t H1 locs ht hvm h_10 hB hz1 hk1 hS => ?_)
  obtain ⟨hP, hD⟩ := join (wc := [(hm, .inr (12, [.int 0, .ref hr, .int 0, .int 0, .int 0, .int 0, .int 0, .ref (gm 7), .ref (gm 8), .ref (gm 9), .ref (gm 10), .ref (gm 11), .ref (gm 12), .ref (gm 13), .ref (gm 14), .int 0, .ref (gm 16), .int 0, .int 0, .int 0, .ref (gm 20), .ref (gm 21), .int 0, .int 0, .int 0, .int 0, .int 0, .int 0, .ref (gm 28), .ref (gm 29)])), (hr, .inl (kI, 2, .inl (fun _ => 0)))]) (wr := [(gn 0, .inl (kP, 6, .inr (.inr (.inr (.inr (fun _ => none)))))), (gm 7, .inl (kA, 6, .inr (.inr (.inr (.inr F))))), (rr, .inl (kY, 5, .inl (fun _ => 0))), (o, .inl (kL, 1, .inr (.inl (fun _ => 0))))]) (w1 := [(hm, .inr (12, u_9))]) hP hD f_7 [1, 2] [0, 3, 4, 5] rfl rfl (by decide) (by decide) hk1 ht hB
  generalize H1 = H at hP hS ⊢
  have hP : va_P D vwCl [(gn 0, .inl (kP, 6, .inr (.inr (.inr (.inr (fun _ => none)))))), (gm 7, .inl (kA, 6, .inr (.inr (.inr (.inr F))))), (rr, .inl (kY, 5, .inl (fun _ => 0))), (o, .inl (kL, 1, .inr (.inl (fun _ => 0)))), (hm, .inr (12, u_9))] H := hP
  have hD : va_D (fun q : Nat => s.heap.size ≤ q) [(gn 0, .inl (kP, 6, .inr (.inr (.inr (.inr (fun _ => none)))))), (gm 7, .inl (kA, 6, .inr (.inr (.inr (.inr F))))), (rr, .inl (kY, 5, .inl (fun _ => 0))), (o, .inl (kL, 1, .inr (.inl (fun _ => 0)))), (hm, .inr (12, u_9))] := hD
  refine lv_istore (lv' := [(6, .int r_8), (5, .int 1), (4, .int 0), (3, .ref o), (2, .ref hm), (1, .ref h0), (0, .ref b)]) hx hb dL_law_3184 hl (by decide) rfl (fun ls hl => ?_)
  refine lv_aload_n hx hb dL_law_3186 rfl (lv_at hl 4 rfl) ?_
  have f_11 := free_of (wc := [(hm, .inr (12, u_9))]) hD hS hA [4] rfl
  refine va_calli (va_runV (As := []) (rest := []) ⟨hx, hb, hml, hown, hts⟩ (c_thrown l D a1 a2 H.size hm u_9 1 h_10) (cwV 0 hts (gV w_458 w_459 w_460 w_244 w_461) rfl rfl rfl (by decide +kernel) ⟨Nat.le_of_ble_eq_true rfl, Nat.le_of_ble_eq_true rfl⟩) (pre_V hK hP hD hS hA hE [4] rfl (by decide) rfl [] rfl (ci := 12) (q0 := 4) rfl rfl) rfl rfl hl.1 rfl (lv_room (Nat.le_of_ble_eq_true rfl)) dL_law_3187 ⟨Nat.le_of_ble_eq_true rfl, Nat.le_of_ble_eq_true rfl⟩) hS (fun q _ h => f_11 q h) f_11 (fun r_12 u_13 t H1 locs ht hvm h_14 hB hz1 hk1 hS => ?_)
  obtain ⟨hP, hD⟩ := join (wc := [(hm, .inr (12, u_9))]) (wr := [(gn 0, .inl (kP, 6, .inr (.inr (.inr (.inr (fun _ => none)))))), (gm 7, .inl (kA, 6, .inr (.inr (.inr (.inr F))))), (rr, .inl (kY, 5, .inl (fun _ => 0))), (o, .inl (kL, 1, .inr (.inl (fun _ => 0))))]) (w1 := [(hm, .inr (12, u_9))]) hP hD f_11 [4] [0, 1, 2, 3] rfl rfl (by decide) (by decide) hk1 ht hB
  generalize H1 = H at hP hS ⊢
  have hP : va_P D vwCl [(gn 0, .inl (kP, 6, .inr (.inr (.inr (.inr (fun _ => none)))))), (gm 7, .inl (kA, 6, .inr (.inr (.inr (.inr F))))), (rr, .inl (kY, 5, .inl (fun _ => 0))), (o, .inl (kL, 1, .inr (.inl (fun _ => 0)))), (hm, .inr (12, u_9))] H := hP
  have hD : va_D (fun q : Nat => s.heap.size ≤ q) [(gn 0, .inl (kP, 6, .inr (.inr (.inr (.inr (fun _ => none)))))), (gm 7, .inl (kA, 6, .inr (.inr (.inr (.inr F))))), (rr, .inl (kY, 5, .inl (fun _ => 0))), (o, .inl (kL, 1, .inr (.inl (fun _ => 0)))), (hm, .inr (12, u_9))] := hD
  obtain rfl := h_14
  refine lv_iload hx hb dL_law_3190 (lv_at hl 1 rfl) ?_
  refine lv_icmp_eq (tgt := 3197) hx hb dL_law_3192 (by decide) (fun _ => ?_) (fun c => absurd (by decide) c)
  refine lv_iload hx hb dL_law_3197 (lv_at hl 1 rfl) ?_
  refine lv_if_ne (tgt := 3214) hx hb dL_law_3199 (by decide) (fun _ => ?_) (fun c => absurd c (by decide))
  refine lv_goto (tgt := 3913) hx hb dL_law_3214 (by decide) ?_
  exact law_tail hx hb hr_ hlocks hX hbl hS (Nat.le_of_ble_eq_true rfl) (Nat.le_of_ble_eq_true rfl) (lv_sub hl [2, 6] rfl)
