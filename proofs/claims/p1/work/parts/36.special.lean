set_option maxRecDepth 100000 in
set_option maxHeartbeats 4000000 in
theorem case_0_no {p : Program} {l : Launch} (hl9 : l.stackTraces = false) {e : Env} {s : State} {m : MethodId} {below : List Frame} {meth : Method} {c : Code} {D : va_G} {a1 a2 b : Nat} {xs : Nat → Int32} {H : Heap} {locs : List Loc} {ls : Array Slot} (h0 h1 h2 : Nat) (g gn gb : Nat → Nat) (kP : ClassId) (hm hr rr : Nat) (gm : Nat → Nat) (kI kA kY : ClassId) (F : Nat → Option Nat) (o : Nat) (kL : ClassId) (hv : ¬ (((-720 ≤ xs 1 ∧ xs 1 ≤ 840) ∧ (0 ≤ xs 2 ∧ xs 2 ≤ 126)) ∧ ((0 ≤ xs 3 ∧ xs 3 ≤ 1438) ∧ (xs 3 + 1 ≤ xs 4 ∧ xs 4 ≤ 1439)))) (hG : LawSt D a1 a2 p s m meth c b xs H locs ls h0 h1 h2 g gn gb kP hm hr rr gm kI kA kY F o kL) : W p l e room_1 s m #[Value.ref b] below meth c H locs 5338 65502 (lw_Z below #[Value.ref b] s) (F0 m 272 ls []) := by
  obtain ⟨hx, hb, hr_, hml, hown, hts, hX, hbl, hlocks, hP, hK, hD, hA, hE, hS, hF, hl⟩ := hG
  have hbA : ¬ (fun q : Nat => s.heap.size ≤ q) b := Nat.not_le.mpr hbl
  refine lv_aload_n hx hb dL_law_272 rfl (lv_at hl 3 rfl) ?_
  refine lv_aload_n hx hb dL_law_273 rfl (lv_at hl 4 rfl) ?_
  refine lv_iload hx hb dL_law_274 (lv_at hl 0 rfl) ?_
  refine lv_iconst (v := 1) hx hb dL_law_276 (by decide) ?_
  refine lv_iadd hx hb dL_law_277 ?_
  refine lv_topi (fun x_1 ex_1 => ?_)
  obtain rfl : x_1 = 1 := ex_1.trans (by decide)
  refine va_sld hx hb hX hbl hbA hS (i := 1) (by unfold vp_in; decide) dL_law_278 ?_
  refine W.eq (g2 := F0 m 279 ls [.int (xs 1), .ref h0]) rfl ?_
  refine lv_aload_n hx hb dL_law_279 rfl (lv_at hl 4 rfl) ?_
  refine lv_iload hx hb dL_law_280 (lv_at hl 0 rfl) ?_
  refine lv_iconst (v := 2) hx hb dL_law_282 (by decide) ?_
  refine lv_iadd hx hb dL_law_283 ?_
  refine lv_topi (fun x_2 ex_2 => ?_)
  obtain rfl : x_2 = 2 := ex_2.trans (by decide)
  refine va_sld hx hb hX hbl hbA hS (i := 2) (by unfold vp_in; decide) dL_law_284 ?_
  refine W.eq (g2 := F0 m 285 ls [.int (xs 2), .int (xs 1), .ref h0]) rfl ?_
  refine lv_aload_n hx hb dL_law_285 rfl (lv_at hl 4 rfl) ?_
  refine lv_iload hx hb dL_law_286 (lv_at hl 0 rfl) ?_
  refine lv_iconst (v := 3) hx hb dL_law_288 (by decide) ?_
  refine lv_iadd hx hb dL_law_289 ?_
  refine lv_topi (fun x_3 ex_3 => ?_)
  obtain rfl : x_3 = 3 := ex_3.trans (by decide)
  refine va_sld hx hb hX hbl hbA hS (i := 3) (by unfold vp_in; decide) dL_law_290 ?_
  refine W.eq (g2 := F0 m 291 ls [.int (xs 3), .int (xs 2), .int (xs 1), .ref h0]) rfl ?_
  refine lv_aload_n hx hb dL_law_291 rfl (lv_at hl 4 rfl) ?_
  refine lv_iload hx hb dL_law_292 (lv_at hl 0 rfl) ?_
  refine lv_iconst (v := 4) hx hb dL_law_294 (by decide) ?_
  refine lv_iadd hx hb dL_law_295 ?_
  refine lv_topi (fun x_4 ex_4 => ?_)
  obtain rfl : x_4 = 4 := ex_4.trans (by decide)
  refine va_sld hx hb hX hbl hbA hS (i := 4) (by unfold vp_in; decide) dL_law_296 ?_
  refine W.eq (g2 := F0 m 297 ls [.int (xs 4), .int (xs 3), .int (xs 2), .int (xs 1), .ref h0]) rfl ?_
  refine lv_aload_n hx hb dL_law_297 rfl (lv_at hl 1 rfl) ?_
  have f_5 := free_of (wc := [(h0, .inr (11, [.ref h1, .ref h2, .ref (g 2), .ref (g 3), .ref (g 4), .ref (g 5), .ref (g 6), .int 0, .int 0, .int 0, .int 0])), (h1, .inr (6, [.ref (gn 0), .int 0, .ref (gn 2), .ref (gn 3), .int 0, .ref (gn 5), .int 0, .int 0])), (h2, .inr (1, [.ref h1, .ref (gb 1), .int 0]))]) hD hS hA [0, 1, 2] rfl
  refine vx_calli (vx_runSX (As := [.ref h0, .int (xs 1), .int (xs 2), .int (xs 3), .int (xs 4), .ref o]) (rest := []) ⟨hx, hb, hml, hown, hts⟩ (c_h_place l hl9 D a1 a2 H.size h0 h1 h2 g gn gb (xs 1) (xs 2) (xs 3) (xs 4) hv o) (vx_cwSW 6 hts (gSW w_798 w_799 w_450 w_800) rfl rfl rfl (by decide +kernel) ⟨Nat.le_of_ble_eq_true rfl, Nat.le_of_ble_eq_true rfl⟩) (pre_S hK hP hD hS hA hE [0, 1, 2] rfl (by decide) rfl [] rfl) rfl rfl hl.1 rfl (lv_room (Nat.le_of_ble_eq_true rfl)) dL_law_298 ⟨Nat.le_of_ble_eq_true rfl, Nat.le_of_ble_eq_true rfl⟩) hS (fun q _ h => f_5 q h) f_5 (fun q _ h => f_5 q h) (fun E ce q9 u9 t H locs ht hvm hw hB hz1 hk1 hS hce hcv hcl => False.elim hw) (fun r_6 u_7 t H1 locs ht hvm h_8 hB hz1 hk1 hS => ?_)
  obtain ⟨hP, hD⟩ := join (wc := [(h0, .inr (11, [.ref h1, .ref h2, .ref (g 2), .ref (g 3), .ref (g 4), .ref (g 5), .ref (g 6), .int 0, .int 0, .int 0, .int 0])), (h1, .inr (6, [.ref (gn 0), .int 0, .ref (gn 2), .ref (gn 3), .int 0, .ref (gn 5), .int 0, .int 0])), (h2, .inr (1, [.ref h1, .ref (gb 1), .int 0]))]) (wr := [(gn 0, .inl (kP, 6, .inr (.inr (.inr (.inr (fun _ => none)))))), (hm, .inr (12, [.int 0, .ref hr, .int 0, .int 0, .int 0, .int 0, .int 0, .ref (gm 7), .ref (gm 8), .ref (gm 9), .ref (gm 10), .ref (gm 11), .ref (gm 12), .ref (gm 13), .ref (gm 14), .int 0, .ref (gm 16), .int 0, .int 0, .int 0, .ref (gm 20), .ref (gm 21), .int 0, .int 0, .int 0, .int 0, .int 0, .int 0, .ref (gm 28), .ref (gm 29)])), (hr, .inl (kI, 2, .inl (fun _ => 0))), (gm 7, .inl (kA, 6, .inr (.inr (.inr (.inr F))))), (rr, .inl (kY, 5, .inl (fun _ => 0))), (o, .inl (kL, 1, .inr (.inl (fun _ => 0))))]) (w1 := []) hP hD f_5 [0, 1, 2] [3, 4, 5, 6, 7, 8] rfl rfl (by decide) (by decide) hk1 ht wat_nil
  generalize H1 = H at hP hS ⊢
  have hP : va_P D vwCl [(gn 0, .inl (kP, 6, .inr (.inr (.inr (.inr (fun _ => none)))))), (hm, .inr (12, [.int 0, .ref hr, .int 0, .int 0, .int 0, .int 0, .int 0, .ref (gm 7), .ref (gm 8), .ref (gm 9), .ref (gm 10), .ref (gm 11), .ref (gm 12), .ref (gm 13), .ref (gm 14), .int 0, .ref (gm 16), .int 0, .int 0, .int 0, .ref (gm 20), .ref (gm 21), .int 0, .int 0, .int 0, .int 0, .int 0, .int 0, .ref (gm 28), .ref (gm 29)])), (hr, .inl (kI, 2, .inl (fun _ => 0))), (gm 7, .inl (kA, 6, .inr (.inr (.inr (.inr F))))), (rr, .inl (kY, 5, .inl (fun _ => 0))), (o, .inl (kL, 1, .inr (.inl (fun _ => 0))))] H := hP
  have hD : va_D (fun q : Nat => s.heap.size ≤ q) [(gn 0, .inl (kP, 6, .inr (.inr (.inr (.inr (fun _ => none)))))), (hm, .inr (12, [.int 0, .ref hr, .int 0, .int 0, .int 0, .int 0, .int 0, .ref (gm 7), .ref (gm 8), .ref (gm 9), .ref (gm 10), .ref (gm 11), .ref (gm 12), .ref (gm 13), .ref (gm 14), .int 0, .ref (gm 16), .int 0, .int 0, .int 0, .ref (gm 20), .ref (gm 21), .int 0, .int 0, .int 0, .int 0, .int 0, .int 0, .ref (gm 28), .ref (gm 29)])), (hr, .inl (kI, 2, .inl (fun _ => 0))), (gm 7, .inl (kA, 6, .inr (.inr (.inr (.inr F))))), (rr, .inl (kY, 5, .inl (fun _ => 0))), (o, .inl (kL, 1, .inr (.inl (fun _ => 0))))] := hD
  obtain rfl := h_8
  refine lv_istore (lv' := [(5, .int 1), (4, .int 0), (3, .ref o), (2, .ref hm), (1, .ref h0), (0, .ref b)]) hx hb dL_law_301 hl (by decide) rfl (fun ls hl => ?_)
  refine lv_aload_n hx hb dL_law_303 rfl (lv_at hl 3 rfl) ?_
  refine lv_aload_n hx hb dL_law_304 rfl (lv_at hl 5 rfl) ?_
  refine lv_iload hx hb dL_law_305 (lv_at hl 1 rfl) ?_
  refine lv_iconst (v := 1) hx hb dL_law_307 (by decide) ?_
  refine lv_iadd hx hb dL_law_308 ?_
  refine lv_topi (fun x_9 ex_9 => ?_)
  obtain rfl : x_9 = 1 := ex_9.trans (by decide)
  refine va_sld hx hb hX hbl hbA hS (i := 1) (by unfold vp_in; decide) dL_law_309 ?_
  refine W.eq (g2 := F0 m 310 ls [.int (xs 1), .ref hm]) rfl ?_
  refine lv_aload_n hx hb dL_law_310 rfl (lv_at hl 5 rfl) ?_
  refine lv_iload hx hb dL_law_311 (lv_at hl 1 rfl) ?_
  refine lv_iconst (v := 2) hx hb dL_law_313 (by decide) ?_
  refine lv_iadd hx hb dL_law_314 ?_
  refine lv_topi (fun x_10 ex_10 => ?_)
  obtain rfl : x_10 = 2 := ex_10.trans (by decide)
  refine va_sld hx hb hX hbl hbA hS (i := 2) (by unfold vp_in; decide) dL_law_315 ?_
  refine W.eq (g2 := F0 m 316 ls [.int (xs 2), .int (xs 1), .ref hm]) rfl ?_
  refine lv_aload_n hx hb dL_law_316 rfl (lv_at hl 5 rfl) ?_
  refine lv_iload hx hb dL_law_317 (lv_at hl 1 rfl) ?_
  refine lv_iconst (v := 3) hx hb dL_law_319 (by decide) ?_
  refine lv_iadd hx hb dL_law_320 ?_
  refine lv_topi (fun x_11 ex_11 => ?_)
  obtain rfl : x_11 = 3 := ex_11.trans (by decide)
  refine va_sld hx hb hX hbl hbA hS (i := 3) (by unfold vp_in; decide) dL_law_321 ?_
  refine W.eq (g2 := F0 m 322 ls [.int (xs 3), .int (xs 2), .int (xs 1), .ref hm]) rfl ?_
  refine lv_aload_n hx hb dL_law_322 rfl (lv_at hl 5 rfl) ?_
  refine lv_iload hx hb dL_law_323 (lv_at hl 1 rfl) ?_
  refine lv_iconst (v := 4) hx hb dL_law_325 (by decide) ?_
  refine lv_iadd hx hb dL_law_326 ?_
  refine lv_topi (fun x_12 ex_12 => ?_)
  obtain rfl : x_12 = 4 := ex_12.trans (by decide)
  refine va_sld hx hb hX hbl hbA hS (i := 4) (by unfold vp_in; decide) dL_law_327 ?_
  refine W.eq (g2 := F0 m 328 ls [.int (xs 4), .int (xs 3), .int (xs 2), .int (xs 1), .ref hm]) rfl ?_
  have f_13 := free_of (wc := [(hm, .inr (12, [.int 0, .ref hr, .int 0, .int 0, .int 0, .int 0, .int 0, .ref (gm 7), .ref (gm 8), .ref (gm 9), .ref (gm 10), .ref (gm 11), .ref (gm 12), .ref (gm 13), .ref (gm 14), .int 0, .ref (gm 16), .int 0, .int 0, .int 0, .ref (gm 20), .ref (gm 21), .int 0, .int 0, .int 0, .int 0, .int 0, .int 0, .ref (gm 28), .ref (gm 29)])), (hr, .inl (kI, 2, .inl (fun _ => 0)))]) hD hS hA [1, 2] rfl
  refine va_calli (va_runV (As := [.int (xs 1), .int (xs 2), .int (xs 3), .int (xs 4)]) (rest := []) ⟨hx, hb, hml, hown, hts⟩ (c_m_place l D a1 a2 H.size hm hr gm kI (xs 1) (xs 2) (xs 3) (xs 4) hv) (cwV 4 hts (gV w_801 w_802 w_803 w_244 w_804) rfl rfl rfl (by decide +kernel) ⟨Nat.le_of_ble_eq_true rfl, Nat.le_of_ble_eq_true rfl⟩) (pre_V hK hP hD hS hA hE [1, 2] rfl (by decide) rfl [1] rfl (ci := 12) (q0 := 1) rfl rfl) rfl rfl hl.1 rfl (lv_room (Nat.le_of_ble_eq_true rfl)) dL_law_328 ⟨Nat.le_of_ble_eq_true rfl, Nat.le_of_ble_eq_true rfl⟩) hS (fun q _ h => f_13 q h) f_13 (fun r_14 u_15 t H1 locs ht hvm h_16 hB hz1 hk1 hS => ?_)
  obtain ⟨hP, hD⟩ := join (wc := [(hm, .inr (12, [.int 0, .ref hr, .int 0, .int 0, .int 0, .int 0, .int 0, .ref (gm 7), .ref (gm 8), .ref (gm 9), .ref (gm 10), .ref (gm 11), .ref (gm 12), .ref (gm 13), .ref (gm 14), .int 0, .ref (gm 16), .int 0, .int 0, .int 0, .ref (gm 20), .ref (gm 21), .int 0, .int 0, .int 0, .int 0, .int 0, .int 0, .ref (gm 28), .ref (gm 29)])), (hr, .inl (kI, 2, .inl (fun _ => 0)))]) (wr := [(gn 0, .inl (kP, 6, .inr (.inr (.inr (.inr (fun _ => none)))))), (gm 7, .inl (kA, 6, .inr (.inr (.inr (.inr F))))), (rr, .inl (kY, 5, .inl (fun _ => 0))), (o, .inl (kL, 1, .inr (.inl (fun _ => 0))))]) (w1 := [(hm, .inr (12, u_15))]) hP hD f_13 [1, 2] [0, 3, 4, 5] rfl rfl (by decide) (by decide) hk1 ht hB
  generalize H1 = H at hP hS ⊢
  have hP : va_P D vwCl [(gn 0, .inl (kP, 6, .inr (.inr (.inr (.inr (fun _ => none)))))), (gm 7, .inl (kA, 6, .inr (.inr (.inr (.inr F))))), (rr, .inl (kY, 5, .inl (fun _ => 0))), (o, .inl (kL, 1, .inr (.inl (fun _ => 0)))), (hm, .inr (12, u_15))] H := hP
  have hD : va_D (fun q : Nat => s.heap.size ≤ q) [(gn 0, .inl (kP, 6, .inr (.inr (.inr (.inr (fun _ => none)))))), (gm 7, .inl (kA, 6, .inr (.inr (.inr (.inr F))))), (rr, .inl (kY, 5, .inl (fun _ => 0))), (o, .inl (kL, 1, .inr (.inl (fun _ => 0)))), (hm, .inr (12, u_15))] := hD
  obtain ⟨rfl, h_16⟩ := h_16
  refine lv_istore (lv' := [(6, .int 0), (5, .int 1), (4, .int 0), (3, .ref o), (2, .ref hm), (1, .ref h0), (0, .ref b)]) hx hb dL_law_331 hl (by decide) rfl (fun ls hl => ?_)
  refine lv_aload_n hx hb dL_law_333 rfl (lv_at hl 4 rfl) ?_
  have f_17 := free_of (wc := [(hm, .inr (12, u_15))]) hD hS hA [4] rfl
  refine va_calli (va_runV (As := []) (rest := []) ⟨hx, hb, hml, hown, hts⟩ (c_thrown l D a1 a2 H.size hm u_15 1 h_16) (cwV 0 hts (gV w_458 w_459 w_460 w_244 w_461) rfl rfl rfl (by decide +kernel) ⟨Nat.le_of_ble_eq_true rfl, Nat.le_of_ble_eq_true rfl⟩) (pre_V hK hP hD hS hA hE [4] rfl (by decide) rfl [] rfl (ci := 12) (q0 := 4) rfl rfl) rfl rfl hl.1 rfl (lv_room (Nat.le_of_ble_eq_true rfl)) dL_law_334 ⟨Nat.le_of_ble_eq_true rfl, Nat.le_of_ble_eq_true rfl⟩) hS (fun q _ h => f_17 q h) f_17 (fun r_18 u_19 t H1 locs ht hvm h_20 hB hz1 hk1 hS => ?_)
  obtain ⟨hP, hD⟩ := join (wc := [(hm, .inr (12, u_15))]) (wr := [(gn 0, .inl (kP, 6, .inr (.inr (.inr (.inr (fun _ => none)))))), (gm 7, .inl (kA, 6, .inr (.inr (.inr (.inr F))))), (rr, .inl (kY, 5, .inl (fun _ => 0))), (o, .inl (kL, 1, .inr (.inl (fun _ => 0))))]) (w1 := [(hm, .inr (12, u_15))]) hP hD f_17 [4] [0, 1, 2, 3] rfl rfl (by decide) (by decide) hk1 ht hB
  generalize H1 = H at hP hS ⊢
  have hP : va_P D vwCl [(gn 0, .inl (kP, 6, .inr (.inr (.inr (.inr (fun _ => none)))))), (gm 7, .inl (kA, 6, .inr (.inr (.inr (.inr F))))), (rr, .inl (kY, 5, .inl (fun _ => 0))), (o, .inl (kL, 1, .inr (.inl (fun _ => 0)))), (hm, .inr (12, u_15))] H := hP
  have hD : va_D (fun q : Nat => s.heap.size ≤ q) [(gn 0, .inl (kP, 6, .inr (.inr (.inr (.inr (fun _ => none)))))), (gm 7, .inl (kA, 6, .inr (.inr (.inr (.inr F))))), (rr, .inl (kY, 5, .inl (fun _ => 0))), (o, .inl (kL, 1, .inr (.inl (fun _ => 0)))), (hm, .inr (12, u_15))] := hD
  obtain rfl := h_20
  refine lv_iload hx hb dL_law_337 (lv_at hl 1 rfl) ?_
  refine lv_icmp_eq (tgt := 344) hx hb dL_law_339 (by decide) (fun _ => ?_) (fun c => absurd (by decide) c)
  refine lv_iload hx hb dL_law_344 (lv_at hl 1 rfl) ?_
  refine lv_if_ne (tgt := 361) hx hb dL_law_346 (by decide) (fun _ => ?_) (fun c => absurd c (by decide))
  refine lv_goto (tgt := 3913) hx hb dL_law_361 (by decide) ?_
  exact law_tail hx hb hr_ hlocks hX hbl hS (Nat.le_of_ble_eq_true rfl) (Nat.le_of_ble_eq_true rfl) (lv_sub hl [2, 6] rfl)
set_option maxRecDepth 100000 in
set_option maxHeartbeats 4000000 in
theorem case_0_ok {p : Program} {l : Launch} (hl9 : l.stackTraces = false) {e : Env} {s : State} {m : MethodId} {below : List Frame} {meth : Method} {c : Code} {D : va_G} {a1 a2 b : Nat} {xs : Nat → Int32} {H : Heap} {locs : List Loc} {ls : Array Slot} (h0 h1 h2 : Nat) (g gn gb : Nat → Nat) (kP : ClassId) (hm hr rr : Nat) (gm : Nat → Nat) (kI kA kY : ClassId) (F : Nat → Option Nat) (o : Nat) (kL : ClassId) (hv : ((-720 ≤ xs 1 ∧ xs 1 ≤ 840) ∧ (0 ≤ xs 2 ∧ xs 2 ≤ 126)) ∧ ((0 ≤ xs 3 ∧ xs 3 ≤ 1438) ∧ (xs 3 + 1 ≤ xs 4 ∧ xs 4 ≤ 1439))) (hG : LawSt D a1 a2 p s m meth c b xs H locs ls h0 h1 h2 g gn gb kP hm hr rr gm kI kA kY F o kL) : W p l e room_1 s m #[Value.ref b] below meth c H locs 5338 65502 (lw_Z below #[Value.ref b] s) (F0 m 272 ls []) := by
  obtain ⟨hx, hb, hr_, hml, hown, hts, hX, hbl, hlocks, hP, hK, hD, hA, hE, hS, hF, hl⟩ := hG
  have hbA : ¬ (fun q : Nat => s.heap.size ≤ q) b := Nat.not_le.mpr hbl
  refine lv_aload_n hx hb dL_law_272 rfl (lv_at hl 3 rfl) ?_
  refine lv_aload_n hx hb dL_law_273 rfl (lv_at hl 4 rfl) ?_
  refine lv_iload hx hb dL_law_274 (lv_at hl 0 rfl) ?_
  refine lv_iconst (v := 1) hx hb dL_law_276 (by decide) ?_
  refine lv_iadd hx hb dL_law_277 ?_
  refine lv_topi (fun x_1 ex_1 => ?_)
  obtain rfl : x_1 = 1 := ex_1.trans (by decide)
  refine va_sld hx hb hX hbl hbA hS (i := 1) (by unfold vp_in; decide) dL_law_278 ?_
  refine W.eq (g2 := F0 m 279 ls [.int (xs 1), .ref h0]) rfl ?_
  refine lv_aload_n hx hb dL_law_279 rfl (lv_at hl 4 rfl) ?_
  refine lv_iload hx hb dL_law_280 (lv_at hl 0 rfl) ?_
  refine lv_iconst (v := 2) hx hb dL_law_282 (by decide) ?_
  refine lv_iadd hx hb dL_law_283 ?_
  refine lv_topi (fun x_2 ex_2 => ?_)
  obtain rfl : x_2 = 2 := ex_2.trans (by decide)
  refine va_sld hx hb hX hbl hbA hS (i := 2) (by unfold vp_in; decide) dL_law_284 ?_
  refine W.eq (g2 := F0 m 285 ls [.int (xs 2), .int (xs 1), .ref h0]) rfl ?_
  refine lv_aload_n hx hb dL_law_285 rfl (lv_at hl 4 rfl) ?_
  refine lv_iload hx hb dL_law_286 (lv_at hl 0 rfl) ?_
  refine lv_iconst (v := 3) hx hb dL_law_288 (by decide) ?_
  refine lv_iadd hx hb dL_law_289 ?_
  refine lv_topi (fun x_3 ex_3 => ?_)
  obtain rfl : x_3 = 3 := ex_3.trans (by decide)
  refine va_sld hx hb hX hbl hbA hS (i := 3) (by unfold vp_in; decide) dL_law_290 ?_
  refine W.eq (g2 := F0 m 291 ls [.int (xs 3), .int (xs 2), .int (xs 1), .ref h0]) rfl ?_
  refine lv_aload_n hx hb dL_law_291 rfl (lv_at hl 4 rfl) ?_
  refine lv_iload hx hb dL_law_292 (lv_at hl 0 rfl) ?_
  refine lv_iconst (v := 4) hx hb dL_law_294 (by decide) ?_
  refine lv_iadd hx hb dL_law_295 ?_
  refine lv_topi (fun x_4 ex_4 => ?_)
  obtain rfl : x_4 = 4 := ex_4.trans (by decide)
  refine va_sld hx hb hX hbl hbA hS (i := 4) (by unfold vp_in; decide) dL_law_296 ?_
  refine W.eq (g2 := F0 m 297 ls [.int (xs 4), .int (xs 3), .int (xs 2), .int (xs 1), .ref h0]) rfl ?_
  refine lv_aload_n hx hb dL_law_297 rfl (lv_at hl 1 rfl) ?_
  have f_5 := free_of (wc := [(h0, .inr (11, [.ref h1, .ref h2, .ref (g 2), .ref (g 3), .ref (g 4), .ref (g 5), .ref (g 6), .int 0, .int 0, .int 0, .int 0])), (h1, .inr (6, [.ref (gn 0), .int 0, .ref (gn 2), .ref (gn 3), .int 0, .ref (gn 5), .int 0, .int 0])), (h2, .inr (1, [.ref h1, .ref (gb 1), .int 0])), (gn 0, .inl (kP, 6, .inr (.inr (.inr (.inr (fun _ => none)))))), (o, .inl (kL, 1, .inr (.inl (fun _ => 0))))]) hD hS hA [0, 1, 2, 3, 8] rfl
  refine vx_calli (vx_runSX (As := [.ref h0, .int (xs 1), .int (xs 2), .int (xs 3), .int (xs 4), .ref o]) (rest := []) ⟨hx, hb, hml, hown, hts⟩ (c_h_place_ok l hl9 D a1 a2 H.size h0 h1 h2 g gn gb kP (xs 1) (xs 2) (xs 3) (xs 4) hv o kL) (vx_cwSW 6 hts (gSW w_798 w_799 w_450 w_800) rfl rfl rfl (by decide +kernel) ⟨Nat.le_of_ble_eq_true rfl, Nat.le_of_ble_eq_true rfl⟩) (pre_S hK hP hD hS hA hE [0, 1, 2, 3, 8] rfl (by decide) rfl [0, 4] rfl) rfl rfl hl.1 rfl (lv_room (Nat.le_of_ble_eq_true rfl)) dL_law_298 ⟨Nat.le_of_ble_eq_true rfl, Nat.le_of_ble_eq_true rfl⟩) hS (fun q _ h => f_5 q h) f_5 (fun q _ h => f_5 q h) (fun E ce q9 u9 t H locs ht hvm hw hB hz1 hk1 hS hce hcv hcl => False.elim hw) (fun r_6 u_7 t H1 locs ht hvm h_8 hB hz1 hk1 hS => ?_)
  obtain ⟨hP, hD⟩ := join (wc := [(h0, .inr (11, [.ref h1, .ref h2, .ref (g 2), .ref (g 3), .ref (g 4), .ref (g 5), .ref (g 6), .int 0, .int 0, .int 0, .int 0])), (h1, .inr (6, [.ref (gn 0), .int 0, .ref (gn 2), .ref (gn 3), .int 0, .ref (gn 5), .int 0, .int 0])), (h2, .inr (1, [.ref h1, .ref (gb 1), .int 0])), (gn 0, .inl (kP, 6, .inr (.inr (.inr (.inr (fun _ => none)))))), (o, .inl (kL, 1, .inr (.inl (fun _ => 0))))]) (wr := [(hm, .inr (12, [.int 0, .ref hr, .int 0, .int 0, .int 0, .int 0, .int 0, .ref (gm 7), .ref (gm 8), .ref (gm 9), .ref (gm 10), .ref (gm 11), .ref (gm 12), .ref (gm 13), .ref (gm 14), .int 0, .ref (gm 16), .int 0, .int 0, .int 0, .ref (gm 20), .ref (gm 21), .int 0, .int 0, .int 0, .int 0, .int 0, .int 0, .ref (gm 28), .ref (gm 29)])), (hr, .inl (kI, 2, .inl (fun _ => 0))), (gm 7, .inl (kA, 6, .inr (.inr (.inr (.inr F))))), (rr, .inl (kY, 5, .inl (fun _ => 0)))]) (w1 := [(o, .inl (kL, 1, .inr (.inl (vp_updL (fun _ => 0) 0 0))))]) hP hD f_5 [0, 1, 2, 3, 8] [4, 5, 6, 7] rfl rfl (by decide) (by decide) hk1 ht hB
  generalize H1 = H at hP hS ⊢
  have hP : va_P D vwCl [(hm, .inr (12, [.int 0, .ref hr, .int 0, .int 0, .int 0, .int 0, .int 0, .ref (gm 7), .ref (gm 8), .ref (gm 9), .ref (gm 10), .ref (gm 11), .ref (gm 12), .ref (gm 13), .ref (gm 14), .int 0, .ref (gm 16), .int 0, .int 0, .int 0, .ref (gm 20), .ref (gm 21), .int 0, .int 0, .int 0, .int 0, .int 0, .int 0, .ref (gm 28), .ref (gm 29)])), (hr, .inl (kI, 2, .inl (fun _ => 0))), (gm 7, .inl (kA, 6, .inr (.inr (.inr (.inr F))))), (rr, .inl (kY, 5, .inl (fun _ => 0))), (o, .inl (kL, 1, .inr (.inl (vp_updL (fun _ => 0) 0 0))))] H := hP
  have hD : va_D (fun q : Nat => s.heap.size ≤ q) [(hm, .inr (12, [.int 0, .ref hr, .int 0, .int 0, .int 0, .int 0, .int 0, .ref (gm 7), .ref (gm 8), .ref (gm 9), .ref (gm 10), .ref (gm 11), .ref (gm 12), .ref (gm 13), .ref (gm 14), .int 0, .ref (gm 16), .int 0, .int 0, .int 0, .ref (gm 20), .ref (gm 21), .int 0, .int 0, .int 0, .int 0, .int 0, .int 0, .ref (gm 28), .ref (gm 29)])), (hr, .inl (kI, 2, .inl (fun _ => 0))), (gm 7, .inl (kA, 6, .inr (.inr (.inr (.inr F))))), (rr, .inl (kY, 5, .inl (fun _ => 0))), (o, .inl (kL, 1, .inr (.inl (vp_updL (fun _ => 0) 0 0))))] := hD
  obtain rfl := h_8
  refine lv_istore (lv' := [(5, .int 0), (4, .int 0), (3, .ref o), (2, .ref hm), (1, .ref h0), (0, .ref b)]) hx hb dL_law_301 hl (by decide) rfl (fun ls hl => ?_)
  refine lv_aload_n hx hb dL_law_303 rfl (lv_at hl 3 rfl) ?_
  refine lv_aload_n hx hb dL_law_304 rfl (lv_at hl 5 rfl) ?_
  refine lv_iload hx hb dL_law_305 (lv_at hl 1 rfl) ?_
  refine lv_iconst (v := 1) hx hb dL_law_307 (by decide) ?_
  refine lv_iadd hx hb dL_law_308 ?_
  refine lv_topi (fun x_9 ex_9 => ?_)
  obtain rfl : x_9 = 1 := ex_9.trans (by decide)
  refine va_sld hx hb hX hbl hbA hS (i := 1) (by unfold vp_in; decide) dL_law_309 ?_
  refine W.eq (g2 := F0 m 310 ls [.int (xs 1), .ref hm]) rfl ?_
  refine lv_aload_n hx hb dL_law_310 rfl (lv_at hl 5 rfl) ?_
  refine lv_iload hx hb dL_law_311 (lv_at hl 1 rfl) ?_
  refine lv_iconst (v := 2) hx hb dL_law_313 (by decide) ?_
  refine lv_iadd hx hb dL_law_314 ?_
  refine lv_topi (fun x_10 ex_10 => ?_)
  obtain rfl : x_10 = 2 := ex_10.trans (by decide)
  refine va_sld hx hb hX hbl hbA hS (i := 2) (by unfold vp_in; decide) dL_law_315 ?_
  refine W.eq (g2 := F0 m 316 ls [.int (xs 2), .int (xs 1), .ref hm]) rfl ?_
  refine lv_aload_n hx hb dL_law_316 rfl (lv_at hl 5 rfl) ?_
  refine lv_iload hx hb dL_law_317 (lv_at hl 1 rfl) ?_
  refine lv_iconst (v := 3) hx hb dL_law_319 (by decide) ?_
  refine lv_iadd hx hb dL_law_320 ?_
  refine lv_topi (fun x_11 ex_11 => ?_)
  obtain rfl : x_11 = 3 := ex_11.trans (by decide)
  refine va_sld hx hb hX hbl hbA hS (i := 3) (by unfold vp_in; decide) dL_law_321 ?_
  refine W.eq (g2 := F0 m 322 ls [.int (xs 3), .int (xs 2), .int (xs 1), .ref hm]) rfl ?_
  refine lv_aload_n hx hb dL_law_322 rfl (lv_at hl 5 rfl) ?_
  refine lv_iload hx hb dL_law_323 (lv_at hl 1 rfl) ?_
  refine lv_iconst (v := 4) hx hb dL_law_325 (by decide) ?_
  refine lv_iadd hx hb dL_law_326 ?_
  refine lv_topi (fun x_12 ex_12 => ?_)
  obtain rfl : x_12 = 4 := ex_12.trans (by decide)
  refine va_sld hx hb hX hbl hbA hS (i := 4) (by unfold vp_in; decide) dL_law_327 ?_
  refine W.eq (g2 := F0 m 328 ls [.int (xs 4), .int (xs 3), .int (xs 2), .int (xs 1), .ref hm]) rfl ?_
  have f_13 := free_of (wc := [(hm, .inr (12, [.int 0, .ref hr, .int 0, .int 0, .int 0, .int 0, .int 0, .ref (gm 7), .ref (gm 8), .ref (gm 9), .ref (gm 10), .ref (gm 11), .ref (gm 12), .ref (gm 13), .ref (gm 14), .int 0, .ref (gm 16), .int 0, .int 0, .int 0, .ref (gm 20), .ref (gm 21), .int 0, .int 0, .int 0, .int 0, .int 0, .int 0, .ref (gm 28), .ref (gm 29)])), (hr, .inl (kI, 2, .inl (fun _ => 0))), (gm 7, .inl (kA, 6, .inr (.inr (.inr (.inr F))))), (rr, .inl (kY, 5, .inl (fun _ => 0)))]) hD hS hA [0, 1, 2, 3] rfl
  refine va_calli (va_runV (As := [.int (xs 1), .int (xs 2), .int (xs 3), .int (xs 4)]) (rest := []) ⟨hx, hb, hml, hown, hts⟩ (c_m_place_ok l D a1 a2 H.size hm hr gm kI kA kY F rr hF (xs 1) (xs 2) (xs 3) (xs 4) hv) (cwV 4 hts (gV w_801 w_802 w_803 w_244 w_804) rfl rfl rfl (by decide +kernel) ⟨Nat.le_of_ble_eq_true rfl, Nat.le_of_ble_eq_true rfl⟩) (pre_V hK hP hD hS hA hE [0, 1, 2, 3] rfl (by decide) rfl [1, 2, 3] rfl (ci := 12) (q0 := 0) rfl rfl) rfl rfl hl.1 rfl (lv_room (Nat.le_of_ble_eq_true rfl)) dL_law_328 ⟨Nat.le_of_ble_eq_true rfl, Nat.le_of_ble_eq_true rfl⟩) hS (fun q _ h => f_13 q h) f_13 (fun r_14 u_15 t H1 locs ht hvm h_16 hB hz1 hk1 hS => ?_)
  obtain ⟨hP, hD⟩ := join (wc := [(hm, .inr (12, [.int 0, .ref hr, .int 0, .int 0, .int 0, .int 0, .int 0, .ref (gm 7), .ref (gm 8), .ref (gm 9), .ref (gm 10), .ref (gm 11), .ref (gm 12), .ref (gm 13), .ref (gm 14), .int 0, .ref (gm 16), .int 0, .int 0, .int 0, .ref (gm 20), .ref (gm 21), .int 0, .int 0, .int 0, .int 0, .int 0, .int 0, .ref (gm 28), .ref (gm 29)])), (hr, .inl (kI, 2, .inl (fun _ => 0))), (gm 7, .inl (kA, 6, .inr (.inr (.inr (.inr F))))), (rr, .inl (kY, 5, .inl (fun _ => 0)))]) (wr := [(o, .inl (kL, 1, .inr (.inl (vp_updL (fun _ => 0) 0 0))))]) (w1 := [(hm, .inr (12, u_15))]) hP hD f_13 [0, 1, 2, 3] [4] rfl rfl (by decide) (by decide) hk1 ht hB
  generalize H1 = H at hP hS ⊢
  have hP : va_P D vwCl [(o, .inl (kL, 1, .inr (.inl (vp_updL (fun _ => 0) 0 0)))), (hm, .inr (12, u_15))] H := hP
  have hD : va_D (fun q : Nat => s.heap.size ≤ q) [(o, .inl (kL, 1, .inr (.inl (vp_updL (fun _ => 0) 0 0)))), (hm, .inr (12, u_15))] := hD
  obtain ⟨rfl, h_16⟩ := h_16
  refine lv_istore (lv' := [(6, .int 0), (5, .int 0), (4, .int 0), (3, .ref o), (2, .ref hm), (1, .ref h0), (0, .ref b)]) hx hb dL_law_331 hl (by decide) rfl (fun ls hl => ?_)
  refine lv_aload_n hx hb dL_law_333 rfl (lv_at hl 4 rfl) ?_
  have f_17 := free_of (wc := [(hm, .inr (12, u_15))]) hD hS hA [1] rfl
  refine va_calli (va_runV (As := []) (rest := []) ⟨hx, hb, hml, hown, hts⟩ (c_thrown l D a1 a2 H.size hm u_15 0 h_16) (cwV 0 hts (gV w_458 w_459 w_460 w_244 w_461) rfl rfl rfl (by decide +kernel) ⟨Nat.le_of_ble_eq_true rfl, Nat.le_of_ble_eq_true rfl⟩) (pre_V hK hP hD hS hA hE [1] rfl (by decide) rfl [] rfl (ci := 12) (q0 := 1) rfl rfl) rfl rfl hl.1 rfl (lv_room (Nat.le_of_ble_eq_true rfl)) dL_law_334 ⟨Nat.le_of_ble_eq_true rfl, Nat.le_of_ble_eq_true rfl⟩) hS (fun q _ h => f_17 q h) f_17 (fun r_18 u_19 t H1 locs ht hvm h_20 hB hz1 hk1 hS => ?_)
  obtain ⟨hP, hD⟩ := join (wc := [(hm, .inr (12, u_15))]) (wr := [(o, .inl (kL, 1, .inr (.inl (vp_updL (fun _ => 0) 0 0))))]) (w1 := [(hm, .inr (12, u_15))]) hP hD f_17 [1] [0] rfl rfl (by decide) (by decide) hk1 ht hB
  generalize H1 = H at hP hS ⊢
  have hP : va_P D vwCl [(o, .inl (kL, 1, .inr (.inl (vp_updL (fun _ => 0) 0 0)))), (hm, .inr (12, u_15))] H := hP
  have hD : va_D (fun q : Nat => s.heap.size ≤ q) [(o, .inl (kL, 1, .inr (.inl (vp_updL (fun _ => 0) 0 0)))), (hm, .inr (12, u_15))] := hD
  obtain rfl := h_20
  refine lv_iload hx hb dL_law_337 (lv_at hl 1 rfl) ?_
  refine lv_icmp_eq (tgt := 344) hx hb dL_law_339 (by decide) (fun _ => ?_) (fun c => absurd (by decide) c)
  refine lv_iload hx hb dL_law_344 (lv_at hl 1 rfl) ?_
  refine lv_if_ne (tgt := 361) hx hb dL_law_346 (by decide) (fun c => absurd (by decide) c) (fun _ => ?_)
  refine lv_aload_n hx hb dL_law_349 rfl (lv_at hl 3 rfl) ?_
  refine lv_iconst (v := 0) hx hb dL_law_350 (by decide) ?_
  refine va_lald hx hb hK hP 0 4 rfl rfl (by unfold vp_in; decide) dL_law_351 ?_
  refine W.eq (g2 := F0 m 352 ls [.long 0]) rfl ?_
  refine lv_iload hx hb dL_law_352 (lv_at hl 0 rfl) ?_
  refine lv_i2l (v := 0) hx hb dL_law_354 (by decide) ?_
  refine W.lcmp hx hb dL_law_355 ?_
  refine W.eq (g2 := F0 m 356 ls [.int 0]) rfl ?_
  refine lv_if_eq (tgt := 361) hx hb dL_law_356 (by decide) (fun _ => ?_) (fun c => absurd (by decide) c)
  refine lv_goto (tgt := 3913) hx hb dL_law_361 (by decide) ?_
  exact law_tail hx hb hr_ hlocks hX hbl hS (Nat.le_of_ble_eq_true rfl) (Nat.le_of_ble_eq_true rfl) (lv_sub hl [2, 6] rfl)
set_option maxRecDepth 100000 in
set_option maxHeartbeats 4000000 in
theorem case_9_no {p : Program} {l : Launch} (hl9 : l.stackTraces = false) {e : Env} {s : State} {m : MethodId} {below : List Frame} {meth : Method} {c : Code} {D : va_G} {a1 a2 b : Nat} {xs : Nat → Int32} {H : Heap} {locs : List Loc} {ls : Array Slot} (h0 h1 h2 : Nat) (g gn gb : Nat → Nat) (kP : ClassId) (hm hr rr : Nat) (gm : Nat → Nat) (kI kA kY : ClassId) (F : Nat → Option Nat) (o : Nat) (kL : ClassId) (hv : ¬ (1 ≤ xs 1 ∧ xs 1 ≤ 20160)) (hG : LawSt D a1 a2 p s m meth c b xs H locs ls h0 h1 h2 g gn gb kP hm hr rr gm kI kA kY F o kL) : W p l e room_1 s m #[Value.ref b] below meth c H locs 5338 65502 (lw_Z below #[Value.ref b] s) (F0 m 1003 ls []) := by
  obtain ⟨hx, hb, hr_, hml, hown, hts, hX, hbl, hlocks, hP, hK, hD, hA, hE, hS, hF, hl⟩ := hG
  have hbA : ¬ (fun q : Nat => s.heap.size ≤ q) b := Nat.not_le.mpr hbl
  refine lv_aload_n hx hb dL_law_1003 rfl (lv_at hl 3 rfl) ?_
  refine lv_aload_n hx hb dL_law_1004 rfl (lv_at hl 4 rfl) ?_
  refine lv_iload hx hb dL_law_1005 (lv_at hl 0 rfl) ?_
  refine lv_iconst (v := 1) hx hb dL_law_1007 (by decide) ?_
  refine lv_iadd hx hb dL_law_1008 ?_
  refine lv_topi (fun x_1 ex_1 => ?_)
  obtain rfl : x_1 = 1 := ex_1.trans (by decide)
  refine va_sld hx hb hX hbl hbA hS (i := 1) (by unfold vp_in; decide) dL_law_1009 ?_
  refine W.eq (g2 := F0 m 1010 ls [.int (xs 1), .ref h0]) rfl ?_
  refine lv_aload_n hx hb dL_law_1010 rfl (lv_at hl 1 rfl) ?_
  have f_2 := free_of (wc := [(h0, .inr (11, [.ref h1, .ref h2, .ref (g 2), .ref (g 3), .ref (g 4), .ref (g 5), .ref (g 6), .int 0, .int 0, .int 0, .int 0])), (h1, .inr (6, [.ref (gn 0), .int 0, .ref (gn 2), .ref (gn 3), .int 0, .ref (gn 5), .int 0, .int 0])), (h2, .inr (1, [.ref h1, .ref (gb 1), .int 0]))]) hD hS hA [0, 1, 2] rfl
  refine vx_calli (vx_runSX (As := [.ref h0, .int (xs 1), .ref o]) (rest := []) ⟨hx, hb, hml, hown, hts⟩ (c_h_go l hl9 D a1 a2 H.size h0 h1 h2 g gn gb (xs 1) hv o) (vx_cwSW 3 hts (gSW w_805 w_806 w_450 w_807) rfl rfl rfl (by decide +kernel) ⟨Nat.le_of_ble_eq_true rfl, Nat.le_of_ble_eq_true rfl⟩) (pre_S hK hP hD hS hA hE [0, 1, 2] rfl (by decide) rfl [] rfl) rfl rfl hl.1 rfl (lv_room (Nat.le_of_ble_eq_true rfl)) dL_law_1011 ⟨Nat.le_of_ble_eq_true rfl, Nat.le_of_ble_eq_true rfl⟩) hS (fun q _ h => f_2 q h) f_2 (fun q _ h => f_2 q h) (fun E ce q9 u9 t H locs ht hvm hw hB hz1 hk1 hS hce hcv hcl => False.elim hw) (fun r_3 u_4 t H1 locs ht hvm h_5 hB hz1 hk1 hS => ?_)
  obtain ⟨hP, hD⟩ := join (wc := [(h0, .inr (11, [.ref h1, .ref h2, .ref (g 2), .ref (g 3), .ref (g 4), .ref (g 5), .ref (g 6), .int 0, .int 0, .int 0, .int 0])), (h1, .inr (6, [.ref (gn 0), .int 0, .ref (gn 2), .ref (gn 3), .int 0, .ref (gn 5), .int 0, .int 0])), (h2, .inr (1, [.ref h1, .ref (gb 1), .int 0]))]) (wr := [(gn 0, .inl (kP, 6, .inr (.inr (.inr (.inr (fun _ => none)))))), (hm, .inr (12, [.int 0, .ref hr, .int 0, .int 0, .int 0, .int 0, .int 0, .ref (gm 7), .ref (gm 8), .ref (gm 9), .ref (gm 10), .ref (gm 11), .ref (gm 12), .ref (gm 13), .ref (gm 14), .int 0, .ref (gm 16), .int 0, .int 0, .int 0, .ref (gm 20), .ref (gm 21), .int 0, .int 0, .int 0, .int 0, .int 0, .int 0, .ref (gm 28), .ref (gm 29)])), (hr, .inl (kI, 2, .inl (fun _ => 0))), (gm 7, .inl (kA, 6, .inr (.inr (.inr (.inr F))))), (rr, .inl (kY, 5, .inl (fun _ => 0))), (o, .inl (kL, 1, .inr (.inl (fun _ => 0))))]) (w1 := []) hP hD f_2 [0, 1, 2] [3, 4, 5, 6, 7, 8] rfl rfl (by decide) (by decide) hk1 ht wat_nil
  generalize H1 = H at hP hS ⊢
  have hP : va_P D vwCl [(gn 0, .inl (kP, 6, .inr (.inr (.inr (.inr (fun _ => none)))))), (hm, .inr (12, [.int 0, .ref hr, .int 0, .int 0, .int 0, .int 0, .int 0, .ref (gm 7), .ref (gm 8), .ref (gm 9), .ref (gm 10), .ref (gm 11), .ref (gm 12), .ref (gm 13), .ref (gm 14), .int 0, .ref (gm 16), .int 0, .int 0, .int 0, .ref (gm 20), .ref (gm 21), .int 0, .int 0, .int 0, .int 0, .int 0, .int 0, .ref (gm 28), .ref (gm 29)])), (hr, .inl (kI, 2, .inl (fun _ => 0))), (gm 7, .inl (kA, 6, .inr (.inr (.inr (.inr F))))), (rr, .inl (kY, 5, .inl (fun _ => 0))), (o, .inl (kL, 1, .inr (.inl (fun _ => 0))))] H := hP
  have hD : va_D (fun q : Nat => s.heap.size ≤ q) [(gn 0, .inl (kP, 6, .inr (.inr (.inr (.inr (fun _ => none)))))), (hm, .inr (12, [.int 0, .ref hr, .int 0, .int 0, .int 0, .int 0, .int 0, .ref (gm 7), .ref (gm 8), .ref (gm 9), .ref (gm 10), .ref (gm 11), .ref (gm 12), .ref (gm 13), .ref (gm 14), .int 0, .ref (gm 16), .int 0, .int 0, .int 0, .ref (gm 20), .ref (gm 21), .int 0, .int 0, .int 0, .int 0, .int 0, .int 0, .ref (gm 28), .ref (gm 29)])), (hr, .inl (kI, 2, .inl (fun _ => 0))), (gm 7, .inl (kA, 6, .inr (.inr (.inr (.inr F))))), (rr, .inl (kY, 5, .inl (fun _ => 0))), (o, .inl (kL, 1, .inr (.inl (fun _ => 0))))] := hD
  obtain rfl := h_5
  refine lv_istore (lv' := [(5, .int 1), (4, .int 0), (3, .ref o), (2, .ref hm), (1, .ref h0), (0, .ref b)]) hx hb dL_law_1014 hl (by decide) rfl (fun ls hl => ?_)
  refine lv_aload_n hx hb dL_law_1016 rfl (lv_at hl 3 rfl) ?_
  refine lv_aload_n hx hb dL_law_1017 rfl (lv_at hl 5 rfl) ?_
  refine lv_iload hx hb dL_law_1018 (lv_at hl 1 rfl) ?_
  refine lv_iconst (v := 1) hx hb dL_law_1020 (by decide) ?_
  refine lv_iadd hx hb dL_law_1021 ?_
  refine lv_topi (fun x_6 ex_6 => ?_)
  obtain rfl : x_6 = 1 := ex_6.trans (by decide)
  refine va_sld hx hb hX hbl hbA hS (i := 1) (by unfold vp_in; decide) dL_law_1022 ?_
  refine W.eq (g2 := F0 m 1023 ls [.int (xs 1), .ref hm]) rfl ?_
  have f_7 := free_of (wc := [(hm, .inr (12, [.int 0, .ref hr, .int 0, .int 0, .int 0, .int 0, .int 0, .ref (gm 7), .ref (gm 8), .ref (gm 9), .ref (gm 10), .ref (gm 11), .ref (gm 12), .ref (gm 13), .ref (gm 14), .int 0, .ref (gm 16), .int 0, .int 0, .int 0, .ref (gm 20), .ref (gm 21), .int 0, .int 0, .int 0, .int 0, .int 0, .int 0, .ref (gm 28), .ref (gm 29)])), (hr, .inl (kI, 2, .inl (fun _ => 0)))]) hD hS hA [1, 2] rfl
  refine va_calli (va_runV (As := [.int (xs 1)]) (rest := []) ⟨hx, hb, hml, hown, hts⟩ (c_m_go l D a1 a2 H.size hm hr gm kI (xs 1) hv) (cwV 1 hts (gV w_808 w_809 w_810 w_244 w_811) rfl rfl rfl (by decide +kernel) ⟨Nat.le_of_ble_eq_true rfl, Nat.le_of_ble_eq_true rfl⟩) (pre_V hK hP hD hS hA hE [1, 2] rfl (by decide) rfl [1] rfl (ci := 12) (q0 := 1) rfl rfl) rfl rfl hl.1 rfl (lv_room (Nat.le_of_ble_eq_true rfl)) dL_law_1023 ⟨Nat.le_of_ble_eq_true rfl, Nat.le_of_ble_eq_true rfl⟩) hS (fun q _ h => f_7 q h) f_7 (fun r_8 u_9 t H1 locs ht hvm h_10 hB hz1 hk1 hS => ?_)
  obtain ⟨hP, hD⟩ := join (wc := [(hm, .inr (12, [.int 0, .ref hr, .int 0, .int 0, .int 0, .int 0, .int 0, .ref (gm 7), .ref (gm 8), .ref (gm 9), .ref (gm 10), .ref (gm 11), .ref (gm 12), .ref (gm 13), .ref (gm 14), .int 0, .ref (gm 16), .int 0, .int 0, .int 0, .ref (gm 20), .ref (gm 21), .int 0, .int 0, .int 0, .int 0, .int 0, .int 0, .ref (gm 28), .ref (gm 29)])), (hr, .inl (kI, 2, .inl (fun _ => 0)))]) (wr := [(gn 0, .inl (kP, 6, .inr (.inr (.inr (.inr (fun _ => none)))))), (gm 7, .inl (kA, 6, .inr (.inr (.inr (.inr F))))), (rr, .inl (kY, 5, .inl (fun _ => 0))), (o, .inl (kL, 1, .inr (.inl (fun _ => 0))))]) (w1 := [(hm, .inr (12, u_9))]) hP hD f_7 [1, 2] [0, 3, 4, 5] rfl rfl (by decide) (by decide) hk1 ht hB
  generalize H1 = H at hP hS ⊢
  have hP : va_P D vwCl [(gn 0, .inl (kP, 6, .inr (.inr (.inr (.inr (fun _ => none)))))), (gm 7, .inl (kA, 6, .inr (.inr (.inr (.inr F))))), (rr, .inl (kY, 5, .inl (fun _ => 0))), (o, .inl (kL, 1, .inr (.inl (fun _ => 0)))), (hm, .inr (12, u_9))] H := hP
  have hD : va_D (fun q : Nat => s.heap.size ≤ q) [(gn 0, .inl (kP, 6, .inr (.inr (.inr (.inr (fun _ => none)))))), (gm 7, .inl (kA, 6, .inr (.inr (.inr (.inr F))))), (rr, .inl (kY, 5, .inl (fun _ => 0))), (o, .inl (kL, 1, .inr (.inl (fun _ => 0)))), (hm, .inr (12, u_9))] := hD
  obtain ⟨rfl, h_10⟩ := h_10
  refine lv_istore (lv' := [(6, .int 0), (5, .int 1), (4, .int 0), (3, .ref o), (2, .ref hm), (1, .ref h0), (0, .ref b)]) hx hb dL_law_1026 hl (by decide) rfl (fun ls hl => ?_)
  refine lv_aload_n hx hb dL_law_1028 rfl (lv_at hl 4 rfl) ?_
  have f_11 := free_of (wc := [(hm, .inr (12, u_9))]) hD hS hA [4] rfl
  refine va_calli (va_runV (As := []) (rest := []) ⟨hx, hb, hml, hown, hts⟩ (c_thrown l D a1 a2 H.size hm u_9 1 h_10) (cwV 0 hts (gV w_458 w_459 w_460 w_244 w_461) rfl rfl rfl (by decide +kernel) ⟨Nat.le_of_ble_eq_true rfl, Nat.le_of_ble_eq_true rfl⟩) (pre_V hK hP hD hS hA hE [4] rfl (by decide) rfl [] rfl (ci := 12) (q0 := 4) rfl rfl) rfl rfl hl.1 rfl (lv_room (Nat.le_of_ble_eq_true rfl)) dL_law_1029 ⟨Nat.le_of_ble_eq_true rfl, Nat.le_of_ble_eq_true rfl⟩) hS (fun q _ h => f_11 q h) f_11 (fun r_12 u_13 t H1 locs ht hvm h_14 hB hz1 hk1 hS => ?_)
  obtain ⟨hP, hD⟩ := join (wc := [(hm, .inr (12, u_9))]) (wr := [(gn 0, .inl (kP, 6, .inr (.inr (.inr (.inr (fun _ => none)))))), (gm 7, .inl (kA, 6, .inr (.inr (.inr (.inr F))))), (rr, .inl (kY, 5, .inl (fun _ => 0))), (o, .inl (kL, 1, .inr (.inl (fun _ => 0))))]) (w1 := [(hm, .inr (12, u_9))]) hP hD f_11 [4] [0, 1, 2, 3] rfl rfl (by decide) (by decide) hk1 ht hB
  generalize H1 = H at hP hS ⊢
  have hP : va_P D vwCl [(gn 0, .inl (kP, 6, .inr (.inr (.inr (.inr (fun _ => none)))))), (gm 7, .inl (kA, 6, .inr (.inr (.inr (.inr F))))), (rr, .inl (kY, 5, .inl (fun _ => 0))), (o, .inl (kL, 1, .inr (.inl (fun _ => 0)))), (hm, .inr (12, u_9))] H := hP
  have hD : va_D (fun q : Nat => s.heap.size ≤ q) [(gn 0, .inl (kP, 6, .inr (.inr (.inr (.inr (fun _ => none)))))), (gm 7, .inl (kA, 6, .inr (.inr (.inr (.inr F))))), (rr, .inl (kY, 5, .inl (fun _ => 0))), (o, .inl (kL, 1, .inr (.inl (fun _ => 0)))), (hm, .inr (12, u_9))] := hD
  obtain rfl := h_14
  refine lv_iload hx hb dL_law_1032 (lv_at hl 1 rfl) ?_
  refine lv_icmp_eq (tgt := 1039) hx hb dL_law_1034 (by decide) (fun _ => ?_) (fun c => absurd (by decide) c)
  refine lv_iload hx hb dL_law_1039 (lv_at hl 1 rfl) ?_
  refine lv_if_ne (tgt := 1056) hx hb dL_law_1041 (by decide) (fun _ => ?_) (fun c => absurd c (by decide))
  refine lv_goto (tgt := 3913) hx hb dL_law_1056 (by decide) ?_
  exact law_tail hx hb hr_ hlocks hX hbl hS (Nat.le_of_ble_eq_true rfl) (Nat.le_of_ble_eq_true rfl) (lv_sub hl [2, 6] rfl)
set_option maxRecDepth 100000 in
set_option maxHeartbeats 4000000 in
theorem case_9_ok {p : Program} {l : Launch} (hl9 : l.stackTraces = false) {e : Env} {s : State} {m : MethodId} {below : List Frame} {meth : Method} {c : Code} {D : va_G} {a1 a2 b : Nat} {xs : Nat → Int32} {H : Heap} {locs : List Loc} {ls : Array Slot} (h0 h1 h2 : Nat) (g gn gb : Nat → Nat) (kP : ClassId) (hm hr rr : Nat) (gm : Nat → Nat) (kI kA kY : ClassId) (F : Nat → Option Nat) (o : Nat) (kL : ClassId) (hv : 1 ≤ xs 1 ∧ xs 1 ≤ 20160) (hG : LawSt D a1 a2 p s m meth c b xs H locs ls h0 h1 h2 g gn gb kP hm hr rr gm kI kA kY F o kL) : W p l e room_1 s m #[Value.ref b] below meth c H locs 5338 65502 (lw_Z below #[Value.ref b] s) (F0 m 1003 ls []) := by
  obtain ⟨hx, hb, hr_, hml, hown, hts, hX, hbl, hlocks, hP, hK, hD, hA, hE, hS, hF, hl⟩ := hG
  have hbA : ¬ (fun q : Nat => s.heap.size ≤ q) b := Nat.not_le.mpr hbl
  refine lv_aload_n hx hb dL_law_1003 rfl (lv_at hl 3 rfl) ?_
  refine lv_aload_n hx hb dL_law_1004 rfl (lv_at hl 4 rfl) ?_
  refine lv_iload hx hb dL_law_1005 (lv_at hl 0 rfl) ?_
  refine lv_iconst (v := 1) hx hb dL_law_1007 (by decide) ?_
  refine lv_iadd hx hb dL_law_1008 ?_
  refine lv_topi (fun x_1 ex_1 => ?_)
  obtain rfl : x_1 = 1 := ex_1.trans (by decide)
  refine va_sld hx hb hX hbl hbA hS (i := 1) (by unfold vp_in; decide) dL_law_1009 ?_
  refine W.eq (g2 := F0 m 1010 ls [.int (xs 1), .ref h0]) rfl ?_
  refine lv_aload_n hx hb dL_law_1010 rfl (lv_at hl 1 rfl) ?_
  have f_2 := free_of (wc := [(h0, .inr (11, [.ref h1, .ref h2, .ref (g 2), .ref (g 3), .ref (g 4), .ref (g 5), .ref (g 6), .int 0, .int 0, .int 0, .int 0])), (h1, .inr (6, [.ref (gn 0), .int 0, .ref (gn 2), .ref (gn 3), .int 0, .ref (gn 5), .int 0, .int 0])), (h2, .inr (1, [.ref h1, .ref (gb 1), .int 0])), (o, .inl (kL, 1, .inr (.inl (fun _ => 0))))]) hD hS hA [0, 1, 2, 8] rfl
  refine vx_calli (vx_runSX (As := [.ref h0, .int (xs 1), .ref o]) (rest := []) ⟨hx, hb, hml, hown, hts⟩ (c_h_go_ok l hl9 D a1 a2 H.size h0 h1 h2 g gn gb (xs 1) hv o kL) (vx_cwSW 3 hts (gSW w_805 w_806 w_450 w_807) rfl rfl rfl (by decide +kernel) ⟨Nat.le_of_ble_eq_true rfl, Nat.le_of_ble_eq_true rfl⟩) (pre_S hK hP hD hS hA hE [0, 1, 2, 8] rfl (by decide) rfl [4] rfl) rfl rfl hl.1 rfl (lv_room (Nat.le_of_ble_eq_true rfl)) dL_law_1011 ⟨Nat.le_of_ble_eq_true rfl, Nat.le_of_ble_eq_true rfl⟩) hS (fun q _ h => f_2 q h) f_2 (fun q _ h => f_2 q h) (fun E ce q9 u9 t H locs ht hvm hw hB hz1 hk1 hS hce hcv hcl => False.elim hw) (fun r_3 u_4 t H1 locs ht hvm h_5 hB hz1 hk1 hS => ?_)
  obtain ⟨hP, hD⟩ := join (wc := [(h0, .inr (11, [.ref h1, .ref h2, .ref (g 2), .ref (g 3), .ref (g 4), .ref (g 5), .ref (g 6), .int 0, .int 0, .int 0, .int 0])), (h1, .inr (6, [.ref (gn 0), .int 0, .ref (gn 2), .ref (gn 3), .int 0, .ref (gn 5), .int 0, .int 0])), (h2, .inr (1, [.ref h1, .ref (gb 1), .int 0])), (o, .inl (kL, 1, .inr (.inl (fun _ => 0))))]) (wr := [(gn 0, .inl (kP, 6, .inr (.inr (.inr (.inr (fun _ => none)))))), (hm, .inr (12, [.int 0, .ref hr, .int 0, .int 0, .int 0, .int 0, .int 0, .ref (gm 7), .ref (gm 8), .ref (gm 9), .ref (gm 10), .ref (gm 11), .ref (gm 12), .ref (gm 13), .ref (gm 14), .int 0, .ref (gm 16), .int 0, .int 0, .int 0, .ref (gm 20), .ref (gm 21), .int 0, .int 0, .int 0, .int 0, .int 0, .int 0, .ref (gm 28), .ref (gm 29)])), (hr, .inl (kI, 2, .inl (fun _ => 0))), (gm 7, .inl (kA, 6, .inr (.inr (.inr (.inr F))))), (rr, .inl (kY, 5, .inl (fun _ => 0)))]) (w1 := [(o, .inl (kL, 1, .inr (.inl (vp_updL (fun _ => 0) 0 0))))]) hP hD f_2 [0, 1, 2, 8] [3, 4, 5, 6, 7] rfl rfl (by decide) (by decide) hk1 ht hB
  generalize H1 = H at hP hS ⊢
  have hP : va_P D vwCl [(gn 0, .inl (kP, 6, .inr (.inr (.inr (.inr (fun _ => none)))))), (hm, .inr (12, [.int 0, .ref hr, .int 0, .int 0, .int 0, .int 0, .int 0, .ref (gm 7), .ref (gm 8), .ref (gm 9), .ref (gm 10), .ref (gm 11), .ref (gm 12), .ref (gm 13), .ref (gm 14), .int 0, .ref (gm 16), .int 0, .int 0, .int 0, .ref (gm 20), .ref (gm 21), .int 0, .int 0, .int 0, .int 0, .int 0, .int 0, .ref (gm 28), .ref (gm 29)])), (hr, .inl (kI, 2, .inl (fun _ => 0))), (gm 7, .inl (kA, 6, .inr (.inr (.inr (.inr F))))), (rr, .inl (kY, 5, .inl (fun _ => 0))), (o, .inl (kL, 1, .inr (.inl (vp_updL (fun _ => 0) 0 0))))] H := hP
  have hD : va_D (fun q : Nat => s.heap.size ≤ q) [(gn 0, .inl (kP, 6, .inr (.inr (.inr (.inr (fun _ => none)))))), (hm, .inr (12, [.int 0, .ref hr, .int 0, .int 0, .int 0, .int 0, .int 0, .ref (gm 7), .ref (gm 8), .ref (gm 9), .ref (gm 10), .ref (gm 11), .ref (gm 12), .ref (gm 13), .ref (gm 14), .int 0, .ref (gm 16), .int 0, .int 0, .int 0, .ref (gm 20), .ref (gm 21), .int 0, .int 0, .int 0, .int 0, .int 0, .int 0, .ref (gm 28), .ref (gm 29)])), (hr, .inl (kI, 2, .inl (fun _ => 0))), (gm 7, .inl (kA, 6, .inr (.inr (.inr (.inr F))))), (rr, .inl (kY, 5, .inl (fun _ => 0))), (o, .inl (kL, 1, .inr (.inl (vp_updL (fun _ => 0) 0 0))))] := hD
  obtain rfl := h_5
  refine lv_istore (lv' := [(5, .int 0), (4, .int 0), (3, .ref o), (2, .ref hm), (1, .ref h0), (0, .ref b)]) hx hb dL_law_1014 hl (by decide) rfl (fun ls hl => ?_)
  refine lv_aload_n hx hb dL_law_1016 rfl (lv_at hl 3 rfl) ?_
  refine lv_aload_n hx hb dL_law_1017 rfl (lv_at hl 5 rfl) ?_
  refine lv_iload hx hb dL_law_1018 (lv_at hl 1 rfl) ?_
  refine lv_iconst (v := 1) hx hb dL_law_1020 (by decide) ?_
  refine lv_iadd hx hb dL_law_1021 ?_
  refine lv_topi (fun x_6 ex_6 => ?_)
  obtain rfl : x_6 = 1 := ex_6.trans (by decide)
  refine va_sld hx hb hX hbl hbA hS (i := 1) (by unfold vp_in; decide) dL_law_1022 ?_
  refine W.eq (g2 := F0 m 1023 ls [.int (xs 1), .ref hm]) rfl ?_
  have f_7 := free_of (wc := [(hm, .inr (12, [.int 0, .ref hr, .int 0, .int 0, .int 0, .int 0, .int 0, .ref (gm 7), .ref (gm 8), .ref (gm 9), .ref (gm 10), .ref (gm 11), .ref (gm 12), .ref (gm 13), .ref (gm 14), .int 0, .ref (gm 16), .int 0, .int 0, .int 0, .ref (gm 20), .ref (gm 21), .int 0, .int 0, .int 0, .int 0, .int 0, .int 0, .ref (gm 28), .ref (gm 29)])), (hr, .inl (kI, 2, .inl (fun _ => 0)))]) hD hS hA [1, 2] rfl
  refine va_calli (va_runV (As := [.int (xs 1)]) (rest := []) ⟨hx, hb, hml, hown, hts⟩ (c_m_go_ok l D a1 a2 H.size hm hr gm kI (xs 1) hv) (cwV 1 hts (gV w_808 w_809 w_810 w_244 w_811) rfl rfl rfl (by decide +kernel) ⟨Nat.le_of_ble_eq_true rfl, Nat.le_of_ble_eq_true rfl⟩) (pre_V hK hP hD hS hA hE [1, 2] rfl (by decide) rfl [1] rfl (ci := 12) (q0 := 1) rfl rfl) rfl rfl hl.1 rfl (lv_room (Nat.le_of_ble_eq_true rfl)) dL_law_1023 ⟨Nat.le_of_ble_eq_true rfl, Nat.le_of_ble_eq_true rfl⟩) hS (fun q _ h => f_7 q h) f_7 (fun r_8 u_9 t H1 locs ht hvm h_10 hB hz1 hk1 hS => ?_)
  obtain ⟨hP, hD⟩ := join (wc := [(hm, .inr (12, [.int 0, .ref hr, .int 0, .int 0, .int 0, .int 0, .int 0, .ref (gm 7), .ref (gm 8), .ref (gm 9), .ref (gm 10), .ref (gm 11), .ref (gm 12), .ref (gm 13), .ref (gm 14), .int 0, .ref (gm 16), .int 0, .int 0, .int 0, .ref (gm 20), .ref (gm 21), .int 0, .int 0, .int 0, .int 0, .int 0, .int 0, .ref (gm 28), .ref (gm 29)])), (hr, .inl (kI, 2, .inl (fun _ => 0)))]) (wr := [(gn 0, .inl (kP, 6, .inr (.inr (.inr (.inr (fun _ => none)))))), (gm 7, .inl (kA, 6, .inr (.inr (.inr (.inr F))))), (rr, .inl (kY, 5, .inl (fun _ => 0))), (o, .inl (kL, 1, .inr (.inl (vp_updL (fun _ => 0) 0 0))))]) (w1 := [(hm, .inr (12, u_9))]) hP hD f_7 [1, 2] [0, 3, 4, 5] rfl rfl (by decide) (by decide) hk1 ht hB
  generalize H1 = H at hP hS ⊢
  have hP : va_P D vwCl [(gn 0, .inl (kP, 6, .inr (.inr (.inr (.inr (fun _ => none)))))), (gm 7, .inl (kA, 6, .inr (.inr (.inr (.inr F))))), (rr, .inl (kY, 5, .inl (fun _ => 0))), (o, .inl (kL, 1, .inr (.inl (vp_updL (fun _ => 0) 0 0)))), (hm, .inr (12, u_9))] H := hP
  have hD : va_D (fun q : Nat => s.heap.size ≤ q) [(gn 0, .inl (kP, 6, .inr (.inr (.inr (.inr (fun _ => none)))))), (gm 7, .inl (kA, 6, .inr (.inr (.inr (.inr F))))), (rr, .inl (kY, 5, .inl (fun _ => 0))), (o, .inl (kL, 1, .inr (.inl (vp_updL (fun _ => 0) 0 0)))), (hm, .inr (12, u_9))] := hD
  obtain ⟨rfl, h_10⟩ := h_10
  refine lv_istore (lv' := [(6, .int 0), (5, .int 0), (4, .int 0), (3, .ref o), (2, .ref hm), (1, .ref h0), (0, .ref b)]) hx hb dL_law_1026 hl (by decide) rfl (fun ls hl => ?_)
  refine lv_aload_n hx hb dL_law_1028 rfl (lv_at hl 4 rfl) ?_
  have f_11 := free_of (wc := [(hm, .inr (12, u_9))]) hD hS hA [4] rfl
  refine va_calli (va_runV (As := []) (rest := []) ⟨hx, hb, hml, hown, hts⟩ (c_thrown l D a1 a2 H.size hm u_9 0 h_10) (cwV 0 hts (gV w_458 w_459 w_460 w_244 w_461) rfl rfl rfl (by decide +kernel) ⟨Nat.le_of_ble_eq_true rfl, Nat.le_of_ble_eq_true rfl⟩) (pre_V hK hP hD hS hA hE [4] rfl (by decide) rfl [] rfl (ci := 12) (q0 := 4) rfl rfl) rfl rfl hl.1 rfl (lv_room (Nat.le_of_ble_eq_true rfl)) dL_law_1029 ⟨Nat.le_of_ble_eq_true rfl, Nat.le_of_ble_eq_true rfl⟩) hS (fun q _ h => f_11 q h) f_11 (fun r_12 u_13 t H1 locs ht hvm h_14 hB hz1 hk1 hS => ?_)
  obtain ⟨hP, hD⟩ := join (wc := [(hm, .inr (12, u_9))]) (wr := [(gn 0, .inl (kP, 6, .inr (.inr (.inr (.inr (fun _ => none)))))), (gm 7, .inl (kA, 6, .inr (.inr (.inr (.inr F))))), (rr, .inl (kY, 5, .inl (fun _ => 0))), (o, .inl (kL, 1, .inr (.inl (vp_updL (fun _ => 0) 0 0))))]) (w1 := [(hm, .inr (12, u_9))]) hP hD f_11 [4] [0, 1, 2, 3] rfl rfl (by decide) (by decide) hk1 ht hB
  generalize H1 = H at hP hS ⊢
  have hP : va_P D vwCl [(gn 0, .inl (kP, 6, .inr (.inr (.inr (.inr (fun _ => none)))))), (gm 7, .inl (kA, 6, .inr (.inr (.inr (.inr F))))), (rr, .inl (kY, 5, .inl (fun _ => 0))), (o, .inl (kL, 1, .inr (.inl (vp_updL (fun _ => 0) 0 0)))), (hm, .inr (12, u_9))] H := hP
  have hD : va_D (fun q : Nat => s.heap.size ≤ q) [(gn 0, .inl (kP, 6, .inr (.inr (.inr (.inr (fun _ => none)))))), (gm 7, .inl (kA, 6, .inr (.inr (.inr (.inr F))))), (rr, .inl (kY, 5, .inl (fun _ => 0))), (o, .inl (kL, 1, .inr (.inl (vp_updL (fun _ => 0) 0 0)))), (hm, .inr (12, u_9))] := hD
  obtain rfl := h_14
  refine lv_iload hx hb dL_law_1032 (lv_at hl 1 rfl) ?_
  refine lv_icmp_eq (tgt := 1039) hx hb dL_law_1034 (by decide) (fun _ => ?_) (fun c => absurd (by decide) c)
  refine lv_iload hx hb dL_law_1039 (lv_at hl 1 rfl) ?_
  refine lv_if_ne (tgt := 1056) hx hb dL_law_1041 (by decide) (fun c => absurd (by decide) c) (fun _ => ?_)
  refine lv_aload_n hx hb dL_law_1044 rfl (lv_at hl 3 rfl) ?_
  refine lv_iconst (v := 0) hx hb dL_law_1045 (by decide) ?_
  refine va_lald hx hb hK hP 3 4 rfl rfl (by unfold vp_in; decide) dL_law_1046 ?_
  refine W.eq (g2 := F0 m 1047 ls [.long 0]) rfl ?_
  refine lv_iload hx hb dL_law_1047 (lv_at hl 0 rfl) ?_
  refine lv_i2l (v := 0) hx hb dL_law_1049 (by decide) ?_
  refine W.lcmp hx hb dL_law_1050 ?_
  refine W.eq (g2 := F0 m 1051 ls [.int 0]) rfl ?_
  refine lv_if_eq (tgt := 1056) hx hb dL_law_1051 (by decide) (fun _ => ?_) (fun c => absurd (by decide) c)
  refine lv_goto (tgt := 3913) hx hb dL_law_1056 (by decide) ?_
  exact law_tail hx hb hr_ hlocks hX hbl hS (Nat.le_of_ble_eq_true rfl) (Nat.le_of_ble_eq_true rfl) (lv_sub hl [2, 6] rfl)
set_option maxRecDepth 100000 in
set_option maxHeartbeats 4000000 in
theorem case_16_no {p : Program} {l : Launch} (hl9 : l.stackTraces = false) {e : Env} {s : State} {m : MethodId} {below : List Frame} {meth : Method} {c : Code} {D : va_G} {a1 a2 b : Nat} {xs : Nat → Int32} {H : Heap} {locs : List Loc} {ls : Array Slot} (h0 h1 h2 : Nat) (g gn gb : Nat → Nat) (kP : ClassId) (hm hr rr : Nat) (gm : Nat → Nat) (kI kA kY : ClassId) (F : Nat → Option Nat) (o : Nat) (kL : ClassId) (hv : ¬ (0 ≤ xs 1 ∧ xs 1 ≤ 9)) (hG : LawSt D a1 a2 p s m meth c b xs H locs ls h0 h1 h2 g gn gb kP hm hr rr gm kI kA kY F o kL) : W p l e room_1 s m #[Value.ref b] below meth c H locs 5338 65502 (lw_Z below #[Value.ref b] s) (F0 m 1467 ls []) := by
  obtain ⟨hx, hb, hr_, hml, hown, hts, hX, hbl, hlocks, hP, hK, hD, hA, hE, hS, hF, hl⟩ := hG
  have hbA : ¬ (fun q : Nat => s.heap.size ≤ q) b := Nat.not_le.mpr hbl
  refine lv_aload_n hx hb dL_law_1467 rfl (lv_at hl 3 rfl) ?_
  refine lv_aload_n hx hb dL_law_1468 rfl (lv_at hl 4 rfl) ?_
  refine lv_iload hx hb dL_law_1469 (lv_at hl 0 rfl) ?_
  refine lv_iconst (v := 1) hx hb dL_law_1471 (by decide) ?_
  refine lv_iadd hx hb dL_law_1472 ?_
  refine lv_topi (fun x_1 ex_1 => ?_)
  obtain rfl : x_1 = 1 := ex_1.trans (by decide)
  refine va_sld hx hb hX hbl hbA hS (i := 1) (by unfold vp_in; decide) dL_law_1473 ?_
  refine W.eq (g2 := F0 m 1474 ls [.int (xs 1), .ref h0]) rfl ?_
  refine lv_aload_n hx hb dL_law_1474 rfl (lv_at hl 1 rfl) ?_
  have f_2 := free_of (wc := [(h0, .inr (11, [.ref h1, .ref h2, .ref (g 2), .ref (g 3), .ref (g 4), .ref (g 5), .ref (g 6), .int 0, .int 0, .int 0, .int 0])), (h1, .inr (6, [.ref (gn 0), .int 0, .ref (gn 2), .ref (gn 3), .int 0, .ref (gn 5), .int 0, .int 0])), (h2, .inr (1, [.ref h1, .ref (gb 1), .int 0]))]) hD hS hA [0, 1, 2] rfl
  refine vx_calli (vx_runSX (As := [.ref h0, .int (xs 1), .ref o]) (rest := []) ⟨hx, hb, hml, hown, hts⟩ (c_h_told l hl9 D a1 a2 H.size h0 h1 h2 g gn gb (xs 1) hv o) (vx_cwSW 3 hts (gSW w_812 w_813 w_450 w_814) rfl rfl rfl (by decide +kernel) ⟨Nat.le_of_ble_eq_true rfl, Nat.le_of_ble_eq_true rfl⟩) (pre_S hK hP hD hS hA hE [0, 1, 2] rfl (by decide) rfl [] rfl) rfl rfl hl.1 rfl (lv_room (Nat.le_of_ble_eq_true rfl)) dL_law_1475 ⟨Nat.le_of_ble_eq_true rfl, Nat.le_of_ble_eq_true rfl⟩) hS (fun q _ h => f_2 q h) f_2 (fun q _ h => f_2 q h) (fun E ce q9 u9 t H locs ht hvm hw hB hz1 hk1 hS hce hcv hcl => False.elim hw) (fun r_3 u_4 t H1 locs ht hvm h_5 hB hz1 hk1 hS => ?_)
  obtain ⟨hP, hD⟩ := join (wc := [(h0, .inr (11, [.ref h1, .ref h2, .ref (g 2), .ref (g 3), .ref (g 4), .ref (g 5), .ref (g 6), .int 0, .int 0, .int 0, .int 0])), (h1, .inr (6, [.ref (gn 0), .int 0, .ref (gn 2), .ref (gn 3), .int 0, .ref (gn 5), .int 0, .int 0])), (h2, .inr (1, [.ref h1, .ref (gb 1), .int 0]))]) (wr := [(gn 0, .inl (kP, 6, .inr (.inr (.inr (.inr (fun _ => none)))))), (hm, .inr (12, [.int 0, .ref hr, .int 0, .int 0, .int 0, .int 0, .int 0, .ref (gm 7), .ref (gm 8), .ref (gm 9), .ref (gm 10), .ref (gm 11), .ref (gm 12), .ref (gm 13), .ref (gm 14), .int 0, .ref (gm 16), .int 0, .int 0, .int 0, .ref (gm 20), .ref (gm 21), .int 0, .int 0, .int 0, .int 0, .int 0, .int 0, .ref (gm 28), .ref (gm 29)])), (hr, .inl (kI, 2, .inl (fun _ => 0))), (gm 7, .inl (kA, 6, .inr (.inr (.inr (.inr F))))), (rr, .inl (kY, 5, .inl (fun _ => 0))), (o, .inl (kL, 1, .inr (.inl (fun _ => 0))))]) (w1 := []) hP hD f_2 [0, 1, 2] [3, 4, 5, 6, 7, 8] rfl rfl (by decide) (by decide) hk1 ht wat_nil
  generalize H1 = H at hP hS ⊢
  have hP : va_P D vwCl [(gn 0, .inl (kP, 6, .inr (.inr (.inr (.inr (fun _ => none)))))), (hm, .inr (12, [.int 0, .ref hr, .int 0, .int 0, .int 0, .int 0, .int 0, .ref (gm 7), .ref (gm 8), .ref (gm 9), .ref (gm 10), .ref (gm 11), .ref (gm 12), .ref (gm 13), .ref (gm 14), .int 0, .ref (gm 16), .int 0, .int 0, .int 0, .ref (gm 20), .ref (gm 21), .int 0, .int 0, .int 0, .int 0, .int 0, .int 0, .ref (gm 28), .ref (gm 29)])), (hr, .inl (kI, 2, .inl (fun _ => 0))), (gm 7, .inl (kA, 6, .inr (.inr (.inr (.inr F))))), (rr, .inl (kY, 5, .inl (fun _ => 0))), (o, .inl (kL, 1, .inr (.inl (fun _ => 0))))] H := hP
  have hD : va_D (fun q : Nat => s.heap.size ≤ q) [(gn 0, .inl (kP, 6, .inr (.inr (.inr (.inr (fun _ => none)))))), (hm, .inr (12, [.int 0, .ref hr, .int 0, .int 0, .int 0, .int 0, .int 0, .ref (gm 7), .ref (gm 8), .ref (gm 9), .ref (gm 10), .ref (gm 11), .ref (gm 12), .ref (gm 13), .ref (gm 14), .int 0, .ref (gm 16), .int 0, .int 0, .int 0, .ref (gm 20), .ref (gm 21), .int 0, .int 0, .int 0, .int 0, .int 0, .int 0, .ref (gm 28), .ref (gm 29)])), (hr, .inl (kI, 2, .inl (fun _ => 0))), (gm 7, .inl (kA, 6, .inr (.inr (.inr (.inr F))))), (rr, .inl (kY, 5, .inl (fun _ => 0))), (o, .inl (kL, 1, .inr (.inl (fun _ => 0))))] := hD
  obtain rfl := h_5
  refine lv_istore (lv' := [(5, .int 1), (4, .int 0), (3, .ref o), (2, .ref hm), (1, .ref h0), (0, .ref b)]) hx hb dL_law_1478 hl (by decide) rfl (fun ls hl => ?_)
  refine lv_aload_n hx hb dL_law_1480 rfl (lv_at hl 3 rfl) ?_
  refine lv_aload_n hx hb dL_law_1481 rfl (lv_at hl 5 rfl) ?_
  refine lv_iload hx hb dL_law_1482 (lv_at hl 1 rfl) ?_
  refine lv_iconst (v := 1) hx hb dL_law_1484 (by decide) ?_
  refine lv_iadd hx hb dL_law_1485 ?_
  refine lv_topi (fun x_6 ex_6 => ?_)
  obtain rfl : x_6 = 1 := ex_6.trans (by decide)
  refine va_sld hx hb hX hbl hbA hS (i := 1) (by unfold vp_in; decide) dL_law_1486 ?_
  refine W.eq (g2 := F0 m 1487 ls [.int (xs 1), .ref hm]) rfl ?_
  have f_7 := free_of (wc := [(hm, .inr (12, [.int 0, .ref hr, .int 0, .int 0, .int 0, .int 0, .int 0, .ref (gm 7), .ref (gm 8), .ref (gm 9), .ref (gm 10), .ref (gm 11), .ref (gm 12), .ref (gm 13), .ref (gm 14), .int 0, .ref (gm 16), .int 0, .int 0, .int 0, .ref (gm 20), .ref (gm 21), .int 0, .int 0, .int 0, .int 0, .int 0, .int 0, .ref (gm 28), .ref (gm 29)])), (hr, .inl (kI, 2, .inl (fun _ => 0)))]) hD hS hA [1, 2] rfl
  refine va_calli (va_runV (As := [.int (xs 1)]) (rest := []) ⟨hx, hb, hml, hown, hts⟩ (c_m_told l D a1 a2 H.size hm hr gm kI (xs 1) hv) (cwV 1 hts (gV w_815 w_816 w_817 w_244 w_818) rfl rfl rfl (by decide +kernel) ⟨Nat.le_of_ble_eq_true rfl, Nat.le_of_ble_eq_true rfl⟩) (pre_V hK hP hD hS hA hE [1, 2] rfl (by decide) rfl [1] rfl (ci := 12) (q0 := 1) rfl rfl) rfl rfl hl.1 rfl (lv_room (Nat.le_of_ble_eq_true rfl)) dL_law_1487 ⟨Nat.le_of_ble_eq_true rfl, Nat.le_of_ble_eq_true rfl⟩) hS (fun q _ h => f_7 q h) f_7 (fun r_8 u_9 t H1 locs ht hvm h_10 hB hz1 hk1 hS => ?_)
  obtain ⟨hP, hD⟩ := join (wc := [(hm, .inr (12, [.int 0, .ref hr, .int 0, .int 0, .int 0, .int 0, .int 0, .ref (gm 7), .ref (gm 8), .ref (gm 9), .ref (gm 10), .ref (gm 11), .ref (gm 12), .ref (gm 13), .ref (gm 14), .int 0, .ref (gm 16), .int 0, .int 0, .int 0, .ref (gm 20), .ref (gm 21), .int 0, .int 0, .int 0, .int 0, .int 0, .int 0, .ref (gm 28), .ref (gm 29)])), (hr, .inl (kI, 2, .inl (fun _ => 0)))]) (wr := [(gn 0, .inl (kP, 6, .inr (.inr (.inr (.inr (fun _ => none)))))), (gm 7, .inl (kA, 6, .inr (.inr (.inr (.inr F))))), (rr, .inl (kY, 5, .inl (fun _ => 0))), (o, .inl (kL, 1, .inr (.inl (fun _ => 0))))]) (w1 := [(hm, .inr (12, u_9))]) hP hD f_7 [1, 2] [0, 3, 4, 5] rfl rfl (by decide) (by decide) hk1 ht hB
  generalize H1 = H at hP hS ⊢
  have hP : va_P D vwCl [(gn 0, .inl (kP, 6, .inr (.inr (.inr (.inr (fun _ => none)))))), (gm 7, .inl (kA, 6, .inr (.inr (.inr (.inr F))))), (rr, .inl (kY, 5, .inl (fun _ => 0))), (o, .inl (kL, 1, .inr (.inl (fun _ => 0)))), (hm, .inr (12, u_9))] H := hP
  have hD : va_D (fun q : Nat => s.heap.size ≤ q) [(gn 0, .inl (kP, 6, .inr (.inr (.inr (.inr (fun _ => none)))))), (gm 7, .inl (kA, 6, .inr (.inr (.inr (.inr F))))), (rr, .inl (kY, 5, .inl (fun _ => 0))), (o, .inl (kL, 1, .inr (.inl (fun _ => 0)))), (hm, .inr (12, u_9))] := hD
  obtain ⟨rfl, h_10⟩ := h_10
  refine lv_istore (lv' := [(6, .int 0), (5, .int 1), (4, .int 0), (3, .ref o), (2, .ref hm), (1, .ref h0), (0, .ref b)]) hx hb dL_law_1490 hl (by decide) rfl (fun ls hl => ?_)
  refine lv_aload_n hx hb dL_law_1492 rfl (lv_at hl 4 rfl) ?_
  have f_11 := free_of (wc := [(hm, .inr (12, u_9))]) hD hS hA [4] rfl
  refine va_calli (va_runV (As := []) (rest := []) ⟨hx, hb, hml, hown, hts⟩ (c_thrown l D a1 a2 H.size hm u_9 1 h_10) (cwV 0 hts (gV w_458 w_459 w_460 w_244 w_461) rfl rfl rfl (by decide +kernel) ⟨Nat.le_of_ble_eq_true rfl, Nat.le_of_ble_eq_true rfl⟩) (pre_V hK hP hD hS hA hE [4] rfl (by decide) rfl [] rfl (ci := 12) (q0 := 4) rfl rfl) rfl rfl hl.1 rfl (lv_room (Nat.le_of_ble_eq_true rfl)) dL_law_1493 ⟨Nat.le_of_ble_eq_true rfl, Nat.le_of_ble_eq_true rfl⟩) hS (fun q _ h => f_11 q h) f_11 (fun r_12 u_13 t H1 locs ht hvm h_14 hB hz1 hk1 hS => ?_)
  obtain ⟨hP, hD⟩ := join (wc := [(hm, .inr (12, u_9))]) (wr := [(gn 0, .inl (kP, 6, .inr (.inr (.inr (.inr (fun _ => none)))))), (gm 7, .inl (kA, 6, .inr (.inr (.inr (.inr F))))), (rr, .inl (kY, 5, .inl (fun _ => 0))), (o, .inl (kL, 1, .inr (.inl (fun _ => 0))))]) (w1 := [(hm, .inr (12, u_9))]) hP hD f_11 [4] [0, 1, 2, 3] rfl rfl (by decide) (by decide) hk1 ht hB
  generalize H1 = H at hP hS ⊢
  have hP : va_P D vwCl [(gn 0, .inl (kP, 6, .inr (.inr (.inr (.inr (fun _ => none)))))), (gm 7, .inl (kA, 6, .inr (.inr (.inr (.inr F))))), (rr, .inl (kY, 5, .inl (fun _ => 0))), (o, .inl (kL, 1, .inr (.inl (fun _ => 0)))), (hm, .inr (12, u_9))] H := hP
  have hD : va_D (fun q : Nat => s.heap.size ≤ q) [(gn 0, .inl (kP, 6, .inr (.inr (.inr (.inr (fun _ => none)))))), (gm 7, .inl (kA, 6, .inr (.inr (.inr (.inr F))))), (rr, .inl (kY, 5, .inl (fun _ => 0))), (o, .inl (kL, 1, .inr (.inl (fun _ => 0)))), (hm, .inr (12, u_9))] := hD
  obtain rfl := h_14
  refine lv_iload hx hb dL_law_1496 (lv_at hl 1 rfl) ?_
  refine lv_icmp_eq (tgt := 1503) hx hb dL_law_1498 (by decide) (fun _ => ?_) (fun c => absurd (by decide) c)
  refine lv_iload hx hb dL_law_1503 (lv_at hl 1 rfl) ?_
  refine lv_if_ne (tgt := 1520) hx hb dL_law_1505 (by decide) (fun _ => ?_) (fun c => absurd c (by decide))
  refine lv_goto (tgt := 3913) hx hb dL_law_1520 (by decide) ?_
  exact law_tail hx hb hr_ hlocks hX hbl hS (Nat.le_of_ble_eq_true rfl) (Nat.le_of_ble_eq_true rfl) (lv_sub hl [2, 6] rfl)
set_option maxRecDepth 100000 in
set_option maxHeartbeats 4000000 in
theorem case_48_no {p : Program} {l : Launch} (hl9 : l.stackTraces = false) {e : Env} {s : State} {m : MethodId} {below : List Frame} {meth : Method} {c : Code} {D : va_G} {a1 a2 b : Nat} {xs : Nat → Int32} {H : Heap} {locs : List Loc} {ls : Array Slot} (h0 h1 h2 : Nat) (g gn gb : Nat → Nat) (kP : ClassId) (hm hr rr : Nat) (gm : Nat → Nat) (kI kA kY : ClassId) (F : Nat → Option Nat) (o : Nat) (kL : ClassId) (hv : ¬ (0 ≤ xs 1 ∧ xs 1 ≤ 575999)) (hG : LawSt D a1 a2 p s m meth c b xs H locs ls h0 h1 h2 g gn gb kP hm hr rr gm kI kA kY F o kL) : W p l e room_1 s m #[Value.ref b] below meth c H locs 5338 65502 (lw_Z below #[Value.ref b] s) (F0 m 3598 ls []) := by
  obtain ⟨hx, hb, hr_, hml, hown, hts, hX, hbl, hlocks, hP, hK, hD, hA, hE, hS, hF, hl⟩ := hG
  have hbA : ¬ (fun q : Nat => s.heap.size ≤ q) b := Nat.not_le.mpr hbl
  refine lv_aload_n hx hb dL_law_3598 rfl (lv_at hl 3 rfl) ?_
  refine lv_aload_n hx hb dL_law_3599 rfl (lv_at hl 4 rfl) ?_
  refine lv_iload hx hb dL_law_3600 (lv_at hl 0 rfl) ?_
  refine lv_iconst (v := 1) hx hb dL_law_3602 (by decide) ?_
  refine lv_iadd hx hb dL_law_3603 ?_
  refine lv_topi (fun x_1 ex_1 => ?_)
  obtain rfl : x_1 = 1 := ex_1.trans (by decide)
  refine va_sld hx hb hX hbl hbA hS (i := 1) (by unfold vp_in; decide) dL_law_3604 ?_
  refine W.eq (g2 := F0 m 3605 ls [.int (xs 1), .ref h0]) rfl ?_
  refine lv_aload_n hx hb dL_law_3605 rfl (lv_at hl 1 rfl) ?_
  have f_2 := free_of (wc := [(h0, .inr (11, [.ref h1, .ref h2, .ref (g 2), .ref (g 3), .ref (g 4), .ref (g 5), .ref (g 6), .int 0, .int 0, .int 0, .int 0])), (h1, .inr (6, [.ref (gn 0), .int 0, .ref (gn 2), .ref (gn 3), .int 0, .ref (gn 5), .int 0, .int 0])), (h2, .inr (1, [.ref h1, .ref (gb 1), .int 0]))]) hD hS hA [0, 1, 2] rfl
  refine vx_calli (vx_runSX (As := [.ref h0, .int (xs 1), .ref o]) (rest := []) ⟨hx, hb, hml, hown, hts⟩ (c_h_until l hl9 D a1 a2 H.size h0 h1 h2 g gn gb (xs 1) hv o) (vx_cwSW 3 hts (gSW w_819 w_820 w_450 w_821) rfl rfl rfl (by decide +kernel) ⟨Nat.le_of_ble_eq_true rfl, Nat.le_of_ble_eq_true rfl⟩) (pre_S hK hP hD hS hA hE [0, 1, 2] rfl (by decide) rfl [] rfl) rfl rfl hl.1 rfl (lv_room (Nat.le_of_ble_eq_true rfl)) dL_law_3606 ⟨Nat.le_of_ble_eq_true rfl, Nat.le_of_ble_eq_true rfl⟩) hS (fun q _ h => f_2 q h) f_2 (fun q _ h => f_2 q h) (fun E ce q9 u9 t H locs ht hvm hw hB hz1 hk1 hS hce hcv hcl => False.elim hw) (fun r_3 u_4 t H1 locs ht hvm h_5 hB hz1 hk1 hS => ?_)
  obtain ⟨hP, hD⟩ := join (wc := [(h0, .inr (11, [.ref h1, .ref h2, .ref (g 2), .ref (g 3), .ref (g 4), .ref (g 5), .ref (g 6), .int 0, .int 0, .int 0, .int 0])), (h1, .inr (6, [.ref (gn 0), .int 0, .ref (gn 2), .ref (gn 3), .int 0, .ref (gn 5), .int 0, .int 0])), (h2, .inr (1, [.ref h1, .ref (gb 1), .int 0]))]) (wr := [(gn 0, .inl (kP, 6, .inr (.inr (.inr (.inr (fun _ => none)))))), (hm, .inr (12, [.int 0, .ref hr, .int 0, .int 0, .int 0, .int 0, .int 0, .ref (gm 7), .ref (gm 8), .ref (gm 9), .ref (gm 10), .ref (gm 11), .ref (gm 12), .ref (gm 13), .ref (gm 14), .int 0, .ref (gm 16), .int 0, .int 0, .int 0, .ref (gm 20), .ref (gm 21), .int 0, .int 0, .int 0, .int 0, .int 0, .int 0, .ref (gm 28), .ref (gm 29)])), (hr, .inl (kI, 2, .inl (fun _ => 0))), (gm 7, .inl (kA, 6, .inr (.inr (.inr (.inr F))))), (rr, .inl (kY, 5, .inl (fun _ => 0))), (o, .inl (kL, 1, .inr (.inl (fun _ => 0))))]) (w1 := []) hP hD f_2 [0, 1, 2] [3, 4, 5, 6, 7, 8] rfl rfl (by decide) (by decide) hk1 ht wat_nil
  generalize H1 = H at hP hS ⊢
  have hP : va_P D vwCl [(gn 0, .inl (kP, 6, .inr (.inr (.inr (.inr (fun _ => none)))))), (hm, .inr (12, [.int 0, .ref hr, .int 0, .int 0, .int 0, .int 0, .int 0, .ref (gm 7), .ref (gm 8), .ref (gm 9), .ref (gm 10), .ref (gm 11), .ref (gm 12), .ref (gm 13), .ref (gm 14), .int 0, .ref (gm 16), .int 0, .int 0, .int 0, .ref (gm 20), .ref (gm 21), .int 0, .int 0, .int 0, .int 0, .int 0, .int 0, .ref (gm 28), .ref (gm 29)])), (hr, .inl (kI, 2, .inl (fun _ => 0))), (gm 7, .inl (kA, 6, .inr (.inr (.inr (.inr F))))), (rr, .inl (kY, 5, .inl (fun _ => 0))), (o, .inl (kL, 1, .inr (.inl (fun _ => 0))))] H := hP
  have hD : va_D (fun q : Nat => s.heap.size ≤ q) [(gn 0, .inl (kP, 6, .inr (.inr (.inr (.inr (fun _ => none)))))), (hm, .inr (12, [.int 0, .ref hr, .int 0, .int 0, .int 0, .int 0, .int 0, .ref (gm 7), .ref (gm 8), .ref (gm 9), .ref (gm 10), .ref (gm 11), .ref (gm 12), .ref (gm 13), .ref (gm 14), .int 0, .ref (gm 16), .int 0, .int 0, .int 0, .ref (gm 20), .ref (gm 21), .int 0, .int 0, .int 0, .int 0, .int 0, .int 0, .ref (gm 28), .ref (gm 29)])), (hr, .inl (kI, 2, .inl (fun _ => 0))), (gm 7, .inl (kA, 6, .inr (.inr (.inr (.inr F))))), (rr, .inl (kY, 5, .inl (fun _ => 0))), (o, .inl (kL, 1, .inr (.inl (fun _ => 0))))] := hD
  obtain rfl := h_5
  refine lv_istore (lv' := [(5, .int 1), (4, .int 0), (3, .ref o), (2, .ref hm), (1, .ref h0), (0, .ref b)]) hx hb dL_law_3609 hl (by decide) rfl (fun ls hl => ?_)
  refine lv_aload_n hx hb dL_law_3611 rfl (lv_at hl 3 rfl) ?_
  refine lv_aload_n hx hb dL_law_3612 rfl (lv_at hl 5 rfl) ?_
  refine lv_iload hx hb dL_law_3613 (lv_at hl 1 rfl) ?_
  refine lv_iconst (v := 1) hx hb dL_law_3615 (by decide) ?_
  refine lv_iadd hx hb dL_law_3616 ?_
  refine lv_topi (fun x_6 ex_6 => ?_)
  obtain rfl : x_6 = 1 := ex_6.trans (by decide)
  refine va_sld hx hb hX hbl hbA hS (i := 1) (by unfold vp_in; decide) dL_law_3617 ?_
  refine W.eq (g2 := F0 m 3618 ls [.int (xs 1), .ref hm]) rfl ?_
  have f_7 := free_of (wc := [(hm, .inr (12, [.int 0, .ref hr, .int 0, .int 0, .int 0, .int 0, .int 0, .ref (gm 7), .ref (gm 8), .ref (gm 9), .ref (gm 10), .ref (gm 11), .ref (gm 12), .ref (gm 13), .ref (gm 14), .int 0, .ref (gm 16), .int 0, .int 0, .int 0, .ref (gm 20), .ref (gm 21), .int 0, .int 0, .int 0, .int 0, .int 0, .int 0, .ref (gm 28), .ref (gm 29)])), (hr, .inl (kI, 2, .inl (fun _ => 0)))]) hD hS hA [1, 2] rfl
  refine va_calli (va_runV (As := [.int (xs 1)]) (rest := []) ⟨hx, hb, hml, hown, hts⟩ (c_m_until l D a1 a2 H.size hm hr gm kI (xs 1) hv) (cwV 1 hts (gV w_822 w_823 w_824 w_244 w_825) rfl rfl rfl (by decide +kernel) ⟨Nat.le_of_ble_eq_true rfl, Nat.le_of_ble_eq_true rfl⟩) (pre_V hK hP hD hS hA hE [1, 2] rfl (by decide) rfl [1] rfl (ci := 12) (q0 := 1) rfl rfl) rfl rfl hl.1 rfl (lv_room (Nat.le_of_ble_eq_true rfl)) dL_law_3618 ⟨Nat.le_of_ble_eq_true rfl, Nat.le_of_ble_eq_true rfl⟩) hS (fun q _ h => f_7 q h) f_7 (fun r_8 u_9 t H1 locs ht hvm h_10 hB hz1 hk1 hS => ?_)
  obtain ⟨hP, hD⟩ := join (wc := [(hm, .inr (12, [.int 0, .ref hr, .int 0, .int 0, .int 0, .int 0, .int 0, .ref (gm 7), .ref (gm 8), .ref (gm 9), .ref (gm 10), .ref (gm 11), .ref (gm 12), .ref (gm 13), .ref (gm 14), .int 0, .ref (gm 16), .int 0, .int 0, .int 0, .ref (gm 20), .ref (gm 21), .int 0, .int 0, .int 0, .int 0, .int 0, .int 0, .ref (gm 28), .ref (gm 29)])), (hr, .inl (kI, 2, .inl (fun _ => 0)))]) (wr := [(gn 0, .inl (kP, 6, .inr (.inr (.inr (.inr (fun _ => none)))))), (gm 7, .inl (kA, 6, .inr (.inr (.inr (.inr F))))), (rr, .inl (kY, 5, .inl (fun _ => 0))), (o, .inl (kL, 1, .inr (.inl (fun _ => 0))))]) (w1 := [(hm, .inr (12, u_9))]) hP hD f_7 [1, 2] [0, 3, 4, 5] rfl rfl (by decide) (by decide) hk1 ht hB
  generalize H1 = H at hP hS ⊢
  have hP : va_P D vwCl [(gn 0, .inl (kP, 6, .inr (.inr (.inr (.inr (fun _ => none)))))), (gm 7, .inl (kA, 6, .inr (.inr (.inr (.inr F))))), (rr, .inl (kY, 5, .inl (fun _ => 0))), (o, .inl (kL, 1, .inr (.inl (fun _ => 0)))), (hm, .inr (12, u_9))] H := hP
  have hD : va_D (fun q : Nat => s.heap.size ≤ q) [(gn 0, .inl (kP, 6, .inr (.inr (.inr (.inr (fun _ => none)))))), (gm 7, .inl (kA, 6, .inr (.inr (.inr (.inr F))))), (rr, .inl (kY, 5, .inl (fun _ => 0))), (o, .inl (kL, 1, .inr (.inl (fun _ => 0)))), (hm, .inr (12, u_9))] := hD
  obtain ⟨rfl, h_10⟩ := h_10
  refine lv_istore (lv' := [(6, .int 0), (5, .int 1), (4, .int 0), (3, .ref o), (2, .ref hm), (1, .ref h0), (0, .ref b)]) hx hb dL_law_3621 hl (by decide) rfl (fun ls hl => ?_)
  refine lv_aload_n hx hb dL_law_3623 rfl (lv_at hl 4 rfl) ?_
  have f_11 := free_of (wc := [(hm, .inr (12, u_9))]) hD hS hA [4] rfl
  refine va_calli (va_runV (As := []) (rest := []) ⟨hx, hb, hml, hown, hts⟩ (c_thrown l D a1 a2 H.size hm u_9 1 h_10) (cwV 0 hts (gV w_458 w_459 w_460 w_244 w_461) rfl rfl rfl (by decide +kernel) ⟨Nat.le_of_ble_eq_true rfl, Nat.le_of_ble_eq_true rfl⟩) (pre_V hK hP hD hS hA hE [4] rfl (by decide) rfl [] rfl (ci := 12) (q0 := 4) rfl rfl) rfl rfl hl.1 rfl (lv_room (Nat.le_of_ble_eq_true rfl)) dL_law_3624 ⟨Nat.le_of_ble_eq_true rfl, Nat.le_of_ble_eq_true rfl⟩) hS (fun q _ h => f_11 q h) f_11 (fun r_12 u_13 t H1 locs ht hvm h_14 hB hz1 hk1 hS => ?_)
  obtain ⟨hP, hD⟩ := join (wc := [(hm, .inr (12, u_9))]) (wr := [(gn 0, .inl (kP, 6, .inr (.inr (.inr (.inr (fun _ => none)))))), (gm 7, .inl (kA, 6, .inr (.inr (.inr (.inr F))))), (rr, .inl (kY, 5, .inl (fun _ => 0))), (o, .inl (kL, 1, .inr (.inl (fun _ => 0))))]) (w1 := [(hm, .inr (12, u_9))]) hP hD f_11 [4] [0, 1, 2, 3] rfl rfl (by decide) (by decide) hk1 ht hB
  generalize H1 = H at hP hS ⊢
  have hP : va_P D vwCl [(gn 0, .inl (kP, 6, .inr (.inr (.inr (.inr (fun _ => none)))))), (gm 7, .inl (kA, 6, .inr (.inr (.inr (.inr F))))), (rr, .inl (kY, 5, .inl (fun _ => 0))), (o, .inl (kL, 1, .inr (.inl (fun _ => 0)))), (hm, .inr (12, u_9))] H := hP
  have hD : va_D (fun q : Nat => s.heap.size ≤ q) [(gn 0, .inl (kP, 6, .inr (.inr (.inr (.inr (fun _ => none)))))), (gm 7, .inl (kA, 6, .inr (.inr (.inr (.inr F))))), (rr, .inl (kY, 5, .inl (fun _ => 0))), (o, .inl (kL, 1, .inr (.inl (fun _ => 0)))), (hm, .inr (12, u_9))] := hD
  obtain rfl := h_14
  refine lv_iload hx hb dL_law_3627 (lv_at hl 1 rfl) ?_
  refine lv_icmp_eq (tgt := 3634) hx hb dL_law_3629 (by decide) (fun _ => ?_) (fun c => absurd (by decide) c)
  refine lv_iload hx hb dL_law_3634 (lv_at hl 1 rfl) ?_
  refine lv_if_ne (tgt := 3651) hx hb dL_law_3636 (by decide) (fun _ => ?_) (fun c => absurd c (by decide))
  refine lv_goto (tgt := 3913) hx hb dL_law_3651 (by decide) ?_
  exact law_tail hx hb hr_ hlocks hX hbl hS (Nat.le_of_ble_eq_true rfl) (Nat.le_of_ble_eq_true rfl) (lv_sub hl [2, 6] rfl)
set_option maxRecDepth 100000 in
set_option maxHeartbeats 4000000 in
theorem case_48_ok {p : Program} {l : Launch} (hl9 : l.stackTraces = false) {e : Env} {s : State} {m : MethodId} {below : List Frame} {meth : Method} {c : Code} {D : va_G} {a1 a2 b : Nat} {xs : Nat → Int32} {H : Heap} {locs : List Loc} {ls : Array Slot} (h0 h1 h2 : Nat) (g gn gb : Nat → Nat) (kP : ClassId) (hm hr rr : Nat) (gm : Nat → Nat) (kI kA kY : ClassId) (F : Nat → Option Nat) (o : Nat) (kL : ClassId) (hv : 0 ≤ xs 1 ∧ xs 1 ≤ 575999) (hG : LawSt D a1 a2 p s m meth c b xs H locs ls h0 h1 h2 g gn gb kP hm hr rr gm kI kA kY F o kL) : W p l e room_1 s m #[Value.ref b] below meth c H locs 5338 65502 (lw_Z below #[Value.ref b] s) (F0 m 3598 ls []) := by
  obtain ⟨hx, hb, hr_, hml, hown, hts, hX, hbl, hlocks, hP, hK, hD, hA, hE, hS, hF, hl⟩ := hG
  have hbA : ¬ (fun q : Nat => s.heap.size ≤ q) b := Nat.not_le.mpr hbl
  refine lv_aload_n hx hb dL_law_3598 rfl (lv_at hl 3 rfl) ?_
  refine lv_aload_n hx hb dL_law_3599 rfl (lv_at hl 4 rfl) ?_
  refine lv_iload hx hb dL_law_3600 (lv_at hl 0 rfl) ?_
  refine lv_iconst (v := 1) hx hb dL_law_3602 (by decide) ?_
  refine lv_iadd hx hb dL_law_3603 ?_
  refine lv_topi (fun x_1 ex_1 => ?_)
  obtain rfl : x_1 = 1 := ex_1.trans (by decide)
  refine va_sld hx hb hX hbl hbA hS (i := 1) (by unfold vp_in; decide) dL_law_3604 ?_
  refine W.eq (g2 := F0 m 3605 ls [.int (xs 1), .ref h0]) rfl ?_
  refine lv_aload_n hx hb dL_law_3605 rfl (lv_at hl 1 rfl) ?_
  have f_2 := free_of (wc := [(h0, .inr (11, [.ref h1, .ref h2, .ref (g 2), .ref (g 3), .ref (g 4), .ref (g 5), .ref (g 6), .int 0, .int 0, .int 0, .int 0])), (h1, .inr (6, [.ref (gn 0), .int 0, .ref (gn 2), .ref (gn 3), .int 0, .ref (gn 5), .int 0, .int 0])), (h2, .inr (1, [.ref h1, .ref (gb 1), .int 0])), (o, .inl (kL, 1, .inr (.inl (fun _ => 0))))]) hD hS hA [0, 1, 2, 8] rfl
  refine vx_calli (vx_runSX (As := [.ref h0, .int (xs 1), .ref o]) (rest := []) ⟨hx, hb, hml, hown, hts⟩ (c_h_until_ok l hl9 D a1 a2 H.size h0 h1 h2 g gn gb (xs 1) hv o kL) (vx_cwSW 3 hts (gSW w_819 w_820 w_450 w_821) rfl rfl rfl (by decide +kernel) ⟨Nat.le_of_ble_eq_true rfl, Nat.le_of_ble_eq_true rfl⟩) (pre_S hK hP hD hS hA hE [0, 1, 2, 8] rfl (by decide) rfl [4] rfl) rfl rfl hl.1 rfl (lv_room (Nat.le_of_ble_eq_true rfl)) dL_law_3606 ⟨Nat.le_of_ble_eq_true rfl, Nat.le_of_ble_eq_true rfl⟩) hS (fun q _ h => f_2 q h) f_2 (fun q _ h => f_2 q h) (fun E ce q9 u9 t H locs ht hvm hw hB hz1 hk1 hS hce hcv hcl => False.elim hw) (fun r_3 u_4 t H1 locs ht hvm h_5 hB hz1 hk1 hS => ?_)
  obtain ⟨hP, hD⟩ := join (wc := [(h0, .inr (11, [.ref h1, .ref h2, .ref (g 2), .ref (g 3), .ref (g 4), .ref (g 5), .ref (g 6), .int 0, .int 0, .int 0, .int 0])), (h1, .inr (6, [.ref (gn 0), .int 0, .ref (gn 2), .ref (gn 3), .int 0, .ref (gn 5), .int 0, .int 0])), (h2, .inr (1, [.ref h1, .ref (gb 1), .int 0])), (o, .inl (kL, 1, .inr (.inl (fun _ => 0))))]) (wr := [(gn 0, .inl (kP, 6, .inr (.inr (.inr (.inr (fun _ => none)))))), (hm, .inr (12, [.int 0, .ref hr, .int 0, .int 0, .int 0, .int 0, .int 0, .ref (gm 7), .ref (gm 8), .ref (gm 9), .ref (gm 10), .ref (gm 11), .ref (gm 12), .ref (gm 13), .ref (gm 14), .int 0, .ref (gm 16), .int 0, .int 0, .int 0, .ref (gm 20), .ref (gm 21), .int 0, .int 0, .int 0, .int 0, .int 0, .int 0, .ref (gm 28), .ref (gm 29)])), (hr, .inl (kI, 2, .inl (fun _ => 0))), (gm 7, .inl (kA, 6, .inr (.inr (.inr (.inr F))))), (rr, .inl (kY, 5, .inl (fun _ => 0)))]) (w1 := [(o, .inl (kL, 1, .inr (.inl (vp_updL (fun _ => 0) 0 0))))]) hP hD f_2 [0, 1, 2, 8] [3, 4, 5, 6, 7] rfl rfl (by decide) (by decide) hk1 ht hB
  generalize H1 = H at hP hS ⊢
  have hP : va_P D vwCl [(gn 0, .inl (kP, 6, .inr (.inr (.inr (.inr (fun _ => none)))))), (hm, .inr (12, [.int 0, .ref hr, .int 0, .int 0, .int 0, .int 0, .int 0, .ref (gm 7), .ref (gm 8), .ref (gm 9), .ref (gm 10), .ref (gm 11), .ref (gm 12), .ref (gm 13), .ref (gm 14), .int 0, .ref (gm 16), .int 0, .int 0, .int 0, .ref (gm 20), .ref (gm 21), .int 0, .int 0, .int 0, .int 0, .int 0, .int 0, .ref (gm 28), .ref (gm 29)])), (hr, .inl (kI, 2, .inl (fun _ => 0))), (gm 7, .inl (kA, 6, .inr (.inr (.inr (.inr F))))), (rr, .inl (kY, 5, .inl (fun _ => 0))), (o, .inl (kL, 1, .inr (.inl (vp_updL (fun _ => 0) 0 0))))] H := hP
  have hD : va_D (fun q : Nat => s.heap.size ≤ q) [(gn 0, .inl (kP, 6, .inr (.inr (.inr (.inr (fun _ => none)))))), (hm, .inr (12, [.int 0, .ref hr, .int 0, .int 0, .int 0, .int 0, .int 0, .ref (gm 7), .ref (gm 8), .ref (gm 9), .ref (gm 10), .ref (gm 11), .ref (gm 12), .ref (gm 13), .ref (gm 14), .int 0, .ref (gm 16), .int 0, .int 0, .int 0, .ref (gm 20), .ref (gm 21), .int 0, .int 0, .int 0, .int 0, .int 0, .int 0, .ref (gm 28), .ref (gm 29)])), (hr, .inl (kI, 2, .inl (fun _ => 0))), (gm 7, .inl (kA, 6, .inr (.inr (.inr (.inr F))))), (rr, .inl (kY, 5, .inl (fun _ => 0))), (o, .inl (kL, 1, .inr (.inl (vp_updL (fun _ => 0) 0 0))))] := hD
  obtain rfl := h_5
  refine lv_istore (lv' := [(5, .int 0), (4, .int 0), (3, .ref o), (2, .ref hm), (1, .ref h0), (0, .ref b)]) hx hb dL_law_3609 hl (by decide) rfl (fun ls hl => ?_)
  refine lv_aload_n hx hb dL_law_3611 rfl (lv_at hl 3 rfl) ?_
  refine lv_aload_n hx hb dL_law_3612 rfl (lv_at hl 5 rfl) ?_
  refine lv_iload hx hb dL_law_3613 (lv_at hl 1 rfl) ?_
  refine lv_iconst (v := 1) hx hb dL_law_3615 (by decide) ?_
  refine lv_iadd hx hb dL_law_3616 ?_
  refine lv_topi (fun x_6 ex_6 => ?_)
  obtain rfl : x_6 = 1 := ex_6.trans (by decide)
  refine va_sld hx hb hX hbl hbA hS (i := 1) (by unfold vp_in; decide) dL_law_3617 ?_
  refine W.eq (g2 := F0 m 3618 ls [.int (xs 1), .ref hm]) rfl ?_
  have f_7 := free_of (wc := [(hm, .inr (12, [.int 0, .ref hr, .int 0, .int 0, .int 0, .int 0, .int 0, .ref (gm 7), .ref (gm 8), .ref (gm 9), .ref (gm 10), .ref (gm 11), .ref (gm 12), .ref (gm 13), .ref (gm 14), .int 0, .ref (gm 16), .int 0, .int 0, .int 0, .ref (gm 20), .ref (gm 21), .int 0, .int 0, .int 0, .int 0, .int 0, .int 0, .ref (gm 28), .ref (gm 29)])), (hr, .inl (kI, 2, .inl (fun _ => 0)))]) hD hS hA [1, 2] rfl
  refine va_calli (va_runV (As := [.int (xs 1)]) (rest := []) ⟨hx, hb, hml, hown, hts⟩ (c_m_until_ok l D a1 a2 H.size hm hr gm kI (xs 1) hv) (cwV 1 hts (gV w_822 w_823 w_824 w_244 w_825) rfl rfl rfl (by decide +kernel) ⟨Nat.le_of_ble_eq_true rfl, Nat.le_of_ble_eq_true rfl⟩) (pre_V hK hP hD hS hA hE [1, 2] rfl (by decide) rfl [1] rfl (ci := 12) (q0 := 1) rfl rfl) rfl rfl hl.1 rfl (lv_room (Nat.le_of_ble_eq_true rfl)) dL_law_3618 ⟨Nat.le_of_ble_eq_true rfl, Nat.le_of_ble_eq_true rfl⟩) hS (fun q _ h => f_7 q h) f_7 (fun r_8 u_9 t H1 locs ht hvm h_10 hB hz1 hk1 hS => ?_)
  obtain ⟨hP, hD⟩ := join (wc := [(hm, .inr (12, [.int 0, .ref hr, .int 0, .int 0, .int 0, .int 0, .int 0, .ref (gm 7), .ref (gm 8), .ref (gm 9), .ref (gm 10), .ref (gm 11), .ref (gm 12), .ref (gm 13), .ref (gm 14), .int 0, .ref (gm 16), .int 0, .int 0, .int 0, .ref (gm 20), .ref (gm 21), .int 0, .int 0, .int 0, .int 0, .int 0, .int 0, .ref (gm 28), .ref (gm 29)])), (hr, .inl (kI, 2, .inl (fun _ => 0)))]) (wr := [(gn 0, .inl (kP, 6, .inr (.inr (.inr (.inr (fun _ => none)))))), (gm 7, .inl (kA, 6, .inr (.inr (.inr (.inr F))))), (rr, .inl (kY, 5, .inl (fun _ => 0))), (o, .inl (kL, 1, .inr (.inl (vp_updL (fun _ => 0) 0 0))))]) (w1 := [(hm, .inr (12, u_9))]) hP hD f_7 [1, 2] [0, 3, 4, 5] rfl rfl (by decide) (by decide) hk1 ht hB
  generalize H1 = H at hP hS ⊢
  have hP : va_P D vwCl [(gn 0, .inl (kP, 6, .inr (.inr (.inr (.inr (fun _ => none)))))), (gm 7, .inl (kA, 6, .inr (.inr (.inr (.inr F))))), (rr, .inl (kY, 5, .inl (fun _ => 0))), (o, .inl (kL, 1, .inr (.inl (vp_updL (fun _ => 0) 0 0)))), (hm, .inr (12, u_9))] H := hP
  have hD : va_D (fun q : Nat => s.heap.size ≤ q) [(gn 0, .inl (kP, 6, .inr (.inr (.inr (.inr (fun _ => none)))))), (gm 7, .inl (kA, 6, .inr (.inr (.inr (.inr F))))), (rr, .inl (kY, 5, .inl (fun _ => 0))), (o, .inl (kL, 1, .inr (.inl (vp_updL (fun _ => 0) 0 0)))), (hm, .inr (12, u_9))] := hD
  obtain ⟨rfl, h_10⟩ := h_10
  refine lv_istore (lv' := [(6, .int 0), (5, .int 0), (4, .int 0), (3, .ref o), (2, .ref hm), (1, .ref h0), (0, .ref b)]) hx hb dL_law_3621 hl (by decide) rfl (fun ls hl => ?_)
  refine lv_aload_n hx hb dL_law_3623 rfl (lv_at hl 4 rfl) ?_
  have f_11 := free_of (wc := [(hm, .inr (12, u_9))]) hD hS hA [4] rfl
  refine va_calli (va_runV (As := []) (rest := []) ⟨hx, hb, hml, hown, hts⟩ (c_thrown l D a1 a2 H.size hm u_9 0 h_10) (cwV 0 hts (gV w_458 w_459 w_460 w_244 w_461) rfl rfl rfl (by decide +kernel) ⟨Nat.le_of_ble_eq_true rfl, Nat.le_of_ble_eq_true rfl⟩) (pre_V hK hP hD hS hA hE [4] rfl (by decide) rfl [] rfl (ci := 12) (q0 := 4) rfl rfl) rfl rfl hl.1 rfl (lv_room (Nat.le_of_ble_eq_true rfl)) dL_law_3624 ⟨Nat.le_of_ble_eq_true rfl, Nat.le_of_ble_eq_true rfl⟩) hS (fun q _ h => f_11 q h) f_11 (fun r_12 u_13 t H1 locs ht hvm h_14 hB hz1 hk1 hS => ?_)
  obtain ⟨hP, hD⟩ := join (wc := [(hm, .inr (12, u_9))]) (wr := [(gn 0, .inl (kP, 6, .inr (.inr (.inr (.inr (fun _ => none)))))), (gm 7, .inl (kA, 6, .inr (.inr (.inr (.inr F))))), (rr, .inl (kY, 5, .inl (fun _ => 0))), (o, .inl (kL, 1, .inr (.inl (vp_updL (fun _ => 0) 0 0))))]) (w1 := [(hm, .inr (12, u_9))]) hP hD f_11 [4] [0, 1, 2, 3] rfl rfl (by decide) (by decide) hk1 ht hB
  generalize H1 = H at hP hS ⊢
  have hP : va_P D vwCl [(gn 0, .inl (kP, 6, .inr (.inr (.inr (.inr (fun _ => none)))))), (gm 7, .inl (kA, 6, .inr (.inr (.inr (.inr F))))), (rr, .inl (kY, 5, .inl (fun _ => 0))), (o, .inl (kL, 1, .inr (.inl (vp_updL (fun _ => 0) 0 0)))), (hm, .inr (12, u_9))] H := hP
  have hD : va_D (fun q : Nat => s.heap.size ≤ q) [(gn 0, .inl (kP, 6, .inr (.inr (.inr (.inr (fun _ => none)))))), (gm 7, .inl (kA, 6, .inr (.inr (.inr (.inr F))))), (rr, .inl (kY, 5, .inl (fun _ => 0))), (o, .inl (kL, 1, .inr (.inl (vp_updL (fun _ => 0) 0 0)))), (hm, .inr (12, u_9))] := hD
  obtain rfl := h_14
  refine lv_iload hx hb dL_law_3627 (lv_at hl 1 rfl) ?_
  refine lv_icmp_eq (tgt := 3634) hx hb dL_law_3629 (by decide) (fun _ => ?_) (fun c => absurd (by decide) c)
  refine lv_iload hx hb dL_law_3634 (lv_at hl 1 rfl) ?_
  refine lv_if_ne (tgt := 3651) hx hb dL_law_3636 (by decide) (fun c => absurd (by decide) c) (fun _ => ?_)
  refine lv_aload_n hx hb dL_law_3639 rfl (lv_at hl 3 rfl) ?_
  refine lv_iconst (v := 0) hx hb dL_law_3640 (by decide) ?_
  refine va_lald hx hb hK hP 3 4 rfl rfl (by unfold vp_in; decide) dL_law_3641 ?_
  refine W.eq (g2 := F0 m 3642 ls [.long 0]) rfl ?_
  refine lv_iload hx hb dL_law_3642 (lv_at hl 0 rfl) ?_
  refine lv_i2l (v := 0) hx hb dL_law_3644 (by decide) ?_
  refine W.lcmp hx hb dL_law_3645 ?_
  refine W.eq (g2 := F0 m 3646 ls [.int 0]) rfl ?_
  refine lv_if_eq (tgt := 3651) hx hb dL_law_3646 (by decide) (fun _ => ?_) (fun c => absurd (by decide) c)
  refine lv_goto (tgt := 3913) hx hb dL_law_3651 (by decide) ?_
  exact law_tail hx hb hr_ hlocks hX hbl hS (Nat.le_of_ble_eq_true rfl) (Nat.le_of_ble_eq_true rfl) (lv_sub hl [2, 6] rfl)
set_option maxRecDepth 100000 in
set_option maxHeartbeats 4000000 in
theorem case_16_0 {p : Program} {l : Launch} (hl9 : l.stackTraces = false) {e : Env} {s : State} {m : MethodId} {below : List Frame} {meth : Method} {c : Code} {D : va_G} {a1 a2 b : Nat} {xs : Nat → Int32} {H : Heap} {locs : List Loc} {ls : Array Slot} (h0 h1 h2 : Nat) (g gn gb : Nat → Nat) (kP : ClassId) (hm hr rr : Nat) (gm : Nat → Nat) (kI kA kY : ClassId) (F : Nat → Option Nat) (o : Nat) (kL : ClassId) (hv : xs 1 = 0) (hG : LawSt D a1 a2 p s m meth c b xs H locs ls h0 h1 h2 g gn gb kP hm hr rr gm kI kA kY F o kL) : W p l e room_1 s m #[Value.ref b] below meth c H locs 5338 65502 (lw_Z below #[Value.ref b] s) (F0 m 1467 ls []) := by
  obtain ⟨hx, hb, hr_, hml, hown, hts, hX, hbl, hlocks, hP, hK, hD, hA, hE, hS, hF, hl⟩ := hG
  have hbA : ¬ (fun q : Nat => s.heap.size ≤ q) b := Nat.not_le.mpr hbl
  refine lv_aload_n hx hb dL_law_1467 rfl (lv_at hl 3 rfl) ?_
  refine lv_aload_n hx hb dL_law_1468 rfl (lv_at hl 4 rfl) ?_
  refine lv_iload hx hb dL_law_1469 (lv_at hl 0 rfl) ?_
  refine lv_iconst (v := 1) hx hb dL_law_1471 (by decide) ?_
  refine lv_iadd hx hb dL_law_1472 ?_
  refine lv_topi (fun x_1 ex_1 => ?_)
  obtain rfl : x_1 = 1 := ex_1.trans (by decide)
  refine va_sld hx hb hX hbl hbA hS (i := 1) (by unfold vp_in; decide) dL_law_1473 ?_
  refine W.eq (g2 := F0 m 1474 ls [.int (xs 1), .ref h0]) rfl ?_
  refine W.eq (g2 := F0 m 1474 ls [.int 0, .ref h0]) (by rw [hv]) ?_
  refine lv_aload_n hx hb dL_law_1474 rfl (lv_at hl 1 rfl) ?_
  have f_2 := free_of (wc := [(h0, .inr (11, [.ref h1, .ref h2, .ref (g 2), .ref (g 3), .ref (g 4), .ref (g 5), .ref (g 6), .int 0, .int 0, .int 0, .int 0])), (h1, .inr (6, [.ref (gn 0), .int 0, .ref (gn 2), .ref (gn 3), .int 0, .ref (gn 5), .int 0, .int 0])), (h2, .inr (1, [.ref h1, .ref (gb 1), .int 0])), (o, .inl (kL, 1, .inr (.inl (fun _ => 0))))]) hD hS hA [0, 1, 2, 8] rfl
  refine vx_calli (vx_runSX (As := [.ref h0, .int 0, .ref o]) (rest := []) ⟨hx, hb, hml, hown, hts⟩ (c_h_told_0 l hl9 D a1 a2 H.size h0 h1 h2 g gn gb o kL) (vx_cwSW 3 hts (gSW w_812 w_813 w_450 w_814) rfl rfl rfl (by decide +kernel) ⟨Nat.le_of_ble_eq_true rfl, Nat.le_of_ble_eq_true rfl⟩) (pre_S hK hP hD hS hA hE [0, 1, 2, 8] rfl (by decide) rfl [4] rfl) rfl rfl hl.1 rfl (lv_room (Nat.le_of_ble_eq_true rfl)) dL_law_1475 ⟨Nat.le_of_ble_eq_true rfl, Nat.le_of_ble_eq_true rfl⟩) hS (fun q _ h => f_2 q h) f_2 (fun q _ h => f_2 q h) (fun E ce q9 u9 t H locs ht hvm hw hB hz1 hk1 hS hce hcv hcl => False.elim hw) (fun r_3 u_4 t H1 locs ht hvm h_5 hB hz1 hk1 hS => ?_)
  obtain ⟨hP, hD⟩ := join (wc := [(h0, .inr (11, [.ref h1, .ref h2, .ref (g 2), .ref (g 3), .ref (g 4), .ref (g 5), .ref (g 6), .int 0, .int 0, .int 0, .int 0])), (h1, .inr (6, [.ref (gn 0), .int 0, .ref (gn 2), .ref (gn 3), .int 0, .ref (gn 5), .int 0, .int 0])), (h2, .inr (1, [.ref h1, .ref (gb 1), .int 0])), (o, .inl (kL, 1, .inr (.inl (fun _ => 0))))]) (wr := [(gn 0, .inl (kP, 6, .inr (.inr (.inr (.inr (fun _ => none)))))), (hm, .inr (12, [.int 0, .ref hr, .int 0, .int 0, .int 0, .int 0, .int 0, .ref (gm 7), .ref (gm 8), .ref (gm 9), .ref (gm 10), .ref (gm 11), .ref (gm 12), .ref (gm 13), .ref (gm 14), .int 0, .ref (gm 16), .int 0, .int 0, .int 0, .ref (gm 20), .ref (gm 21), .int 0, .int 0, .int 0, .int 0, .int 0, .int 0, .ref (gm 28), .ref (gm 29)])), (hr, .inl (kI, 2, .inl (fun _ => 0))), (gm 7, .inl (kA, 6, .inr (.inr (.inr (.inr F))))), (rr, .inl (kY, 5, .inl (fun _ => 0)))]) (w1 := [(o, .inl (kL, 1, .inr (.inl (vp_updL (fun _ => 0) 0 0))))]) hP hD f_2 [0, 1, 2, 8] [3, 4, 5, 6, 7] rfl rfl (by decide) (by decide) hk1 ht hB
  generalize H1 = H at hP hS ⊢
  have hP : va_P D vwCl [(gn 0, .inl (kP, 6, .inr (.inr (.inr (.inr (fun _ => none)))))), (hm, .inr (12, [.int 0, .ref hr, .int 0, .int 0, .int 0, .int 0, .int 0, .ref (gm 7), .ref (gm 8), .ref (gm 9), .ref (gm 10), .ref (gm 11), .ref (gm 12), .ref (gm 13), .ref (gm 14), .int 0, .ref (gm 16), .int 0, .int 0, .int 0, .ref (gm 20), .ref (gm 21), .int 0, .int 0, .int 0, .int 0, .int 0, .int 0, .ref (gm 28), .ref (gm 29)])), (hr, .inl (kI, 2, .inl (fun _ => 0))), (gm 7, .inl (kA, 6, .inr (.inr (.inr (.inr F))))), (rr, .inl (kY, 5, .inl (fun _ => 0))), (o, .inl (kL, 1, .inr (.inl (vp_updL (fun _ => 0) 0 0))))] H := hP
  have hD : va_D (fun q : Nat => s.heap.size ≤ q) [(gn 0, .inl (kP, 6, .inr (.inr (.inr (.inr (fun _ => none)))))), (hm, .inr (12, [.int 0, .ref hr, .int 0, .int 0, .int 0, .int 0, .int 0, .ref (gm 7), .ref (gm 8), .ref (gm 9), .ref (gm 10), .ref (gm 11), .ref (gm 12), .ref (gm 13), .ref (gm 14), .int 0, .ref (gm 16), .int 0, .int 0, .int 0, .ref (gm 20), .ref (gm 21), .int 0, .int 0, .int 0, .int 0, .int 0, .int 0, .ref (gm 28), .ref (gm 29)])), (hr, .inl (kI, 2, .inl (fun _ => 0))), (gm 7, .inl (kA, 6, .inr (.inr (.inr (.inr F))))), (rr, .inl (kY, 5, .inl (fun _ => 0))), (o, .inl (kL, 1, .inr (.inl (vp_updL (fun _ => 0) 0 0))))] := hD
  obtain rfl := h_5
  refine lv_istore (lv' := [(5, .int 0), (4, .int 0), (3, .ref o), (2, .ref hm), (1, .ref h0), (0, .ref b)]) hx hb dL_law_1478 hl (by decide) rfl (fun ls hl => ?_)
  refine lv_aload_n hx hb dL_law_1480 rfl (lv_at hl 3 rfl) ?_
  refine lv_aload_n hx hb dL_law_1481 rfl (lv_at hl 5 rfl) ?_
  refine lv_iload hx hb dL_law_1482 (lv_at hl 1 rfl) ?_
  refine lv_iconst (v := 1) hx hb dL_law_1484 (by decide) ?_
  refine lv_iadd hx hb dL_law_1485 ?_
  refine lv_topi (fun x_6 ex_6 => ?_)
  obtain rfl : x_6 = 1 := ex_6.trans (by decide)
  refine va_sld hx hb hX hbl hbA hS (i := 1) (by unfold vp_in; decide) dL_law_1486 ?_
  refine W.eq (g2 := F0 m 1487 ls [.int (xs 1), .ref hm]) rfl ?_
  refine W.eq (g2 := F0 m 1487 ls [.int 0, .ref hm]) (by rw [hv]) ?_
  have f_7 := free_of (wc := [(hm, .inr (12, [.int 0, .ref hr, .int 0, .int 0, .int 0, .int 0, .int 0, .ref (gm 7), .ref (gm 8), .ref (gm 9), .ref (gm 10), .ref (gm 11), .ref (gm 12), .ref (gm 13), .ref (gm 14), .int 0, .ref (gm 16), .int 0, .int 0, .int 0, .ref (gm 20), .ref (gm 21), .int 0, .int 0, .int 0, .int 0, .int 0, .int 0, .ref (gm 28), .ref (gm 29)])), (hr, .inl (kI, 2, .inl (fun _ => 0)))]) hD hS hA [1, 2] rfl
  refine va_calli (va_runV (As := [.int 0]) (rest := []) ⟨hx, hb, hml, hown, hts⟩ (c_m_told_0 l D a1 a2 H.size hm hr gm kI) (cwV 1 hts (gV w_815 w_816 w_817 w_244 w_818) rfl rfl rfl (by decide +kernel) ⟨Nat.le_of_ble_eq_true rfl, Nat.le_of_ble_eq_true rfl⟩) (pre_V hK hP hD hS hA hE [1, 2] rfl (by decide) rfl [1] rfl (ci := 12) (q0 := 1) rfl rfl) rfl rfl hl.1 rfl (lv_room (Nat.le_of_ble_eq_true rfl)) dL_law_1487 ⟨Nat.le_of_ble_eq_true rfl, Nat.le_of_ble_eq_true rfl⟩) hS (fun q _ h => f_7 q h) f_7 (fun r_8 u_9 t H1 locs ht hvm h_10 hB hz1 hk1 hS => ?_)
  obtain ⟨hP, hD⟩ := join (wc := [(hm, .inr (12, [.int 0, .ref hr, .int 0, .int 0, .int 0, .int 0, .int 0, .ref (gm 7), .ref (gm 8), .ref (gm 9), .ref (gm 10), .ref (gm 11), .ref (gm 12), .ref (gm 13), .ref (gm 14), .int 0, .ref (gm 16), .int 0, .int 0, .int 0, .ref (gm 20), .ref (gm 21), .int 0, .int 0, .int 0, .int 0, .int 0, .int 0, .ref (gm 28), .ref (gm 29)])), (hr, .inl (kI, 2, .inl (fun _ => 0)))]) (wr := [(gn 0, .inl (kP, 6, .inr (.inr (.inr (.inr (fun _ => none)))))), (gm 7, .inl (kA, 6, .inr (.inr (.inr (.inr F))))), (rr, .inl (kY, 5, .inl (fun _ => 0))), (o, .inl (kL, 1, .inr (.inl (vp_updL (fun _ => 0) 0 0))))]) (w1 := [(hm, .inr (12, u_9))]) hP hD f_7 [1, 2] [0, 3, 4, 5] rfl rfl (by decide) (by decide) hk1 ht hB
  generalize H1 = H at hP hS ⊢
  have hP : va_P D vwCl [(gn 0, .inl (kP, 6, .inr (.inr (.inr (.inr (fun _ => none)))))), (gm 7, .inl (kA, 6, .inr (.inr (.inr (.inr F))))), (rr, .inl (kY, 5, .inl (fun _ => 0))), (o, .inl (kL, 1, .inr (.inl (vp_updL (fun _ => 0) 0 0)))), (hm, .inr (12, u_9))] H := hP
  have hD : va_D (fun q : Nat => s.heap.size ≤ q) [(gn 0, .inl (kP, 6, .inr (.inr (.inr (.inr (fun _ => none)))))), (gm 7, .inl (kA, 6, .inr (.inr (.inr (.inr F))))), (rr, .inl (kY, 5, .inl (fun _ => 0))), (o, .inl (kL, 1, .inr (.inl (vp_updL (fun _ => 0) 0 0)))), (hm, .inr (12, u_9))] := hD
  obtain ⟨rfl, h_10⟩ := h_10
  refine lv_istore (lv' := [(6, .int 0), (5, .int 0), (4, .int 0), (3, .ref o), (2, .ref hm), (1, .ref h0), (0, .ref b)]) hx hb dL_law_1490 hl (by decide) rfl (fun ls hl => ?_)
  refine lv_aload_n hx hb dL_law_1492 rfl (lv_at hl 4 rfl) ?_
  have f_11 := free_of (wc := [(hm, .inr (12, u_9))]) hD hS hA [4] rfl
  refine va_calli (va_runV (As := []) (rest := []) ⟨hx, hb, hml, hown, hts⟩ (c_thrown l D a1 a2 H.size hm u_9 0 h_10) (cwV 0 hts (gV w_458 w_459 w_460 w_244 w_461) rfl rfl rfl (by decide +kernel) ⟨Nat.le_of_ble_eq_true rfl, Nat.le_of_ble_eq_true rfl⟩) (pre_V hK hP hD hS hA hE [4] rfl (by decide) rfl [] rfl (ci := 12) (q0 := 4) rfl rfl) rfl rfl hl.1 rfl (lv_room (Nat.le_of_ble_eq_true rfl)) dL_law_1493 ⟨Nat.le_of_ble_eq_true rfl, Nat.le_of_ble_eq_true rfl⟩) hS (fun q _ h => f_11 q h) f_11 (fun r_12 u_13 t H1 locs ht hvm h_14 hB hz1 hk1 hS => ?_)
  obtain ⟨hP, hD⟩ := join (wc := [(hm, .inr (12, u_9))]) (wr := [(gn 0, .inl (kP, 6, .inr (.inr (.inr (.inr (fun _ => none)))))), (gm 7, .inl (kA, 6, .inr (.inr (.inr (.inr F))))), (rr, .inl (kY, 5, .inl (fun _ => 0))), (o, .inl (kL, 1, .inr (.inl (vp_updL (fun _ => 0) 0 0))))]) (w1 := [(hm, .inr (12, u_9))]) hP hD f_11 [4] [0, 1, 2, 3] rfl rfl (by decide) (by decide) hk1 ht hB
  generalize H1 = H at hP hS ⊢
  have hP : va_P D vwCl [(gn 0, .inl (kP, 6, .inr (.inr (.inr (.inr (fun _ => none)))))), (gm 7, .inl (kA, 6, .inr (.inr (.inr (.inr F))))), (rr, .inl (kY, 5, .inl (fun _ => 0))), (o, .inl (kL, 1, .inr (.inl (vp_updL (fun _ => 0) 0 0)))), (hm, .inr (12, u_9))] H := hP
  have hD : va_D (fun q : Nat => s.heap.size ≤ q) [(gn 0, .inl (kP, 6, .inr (.inr (.inr (.inr (fun _ => none)))))), (gm 7, .inl (kA, 6, .inr (.inr (.inr (.inr F))))), (rr, .inl (kY, 5, .inl (fun _ => 0))), (o, .inl (kL, 1, .inr (.inl (vp_updL (fun _ => 0) 0 0)))), (hm, .inr (12, u_9))] := hD
  obtain rfl := h_14
  refine lv_iload hx hb dL_law_1496 (lv_at hl 1 rfl) ?_
  refine lv_icmp_eq (tgt := 1503) hx hb dL_law_1498 (by decide) (fun _ => ?_) (fun c => absurd (by decide) c)
  refine lv_iload hx hb dL_law_1503 (lv_at hl 1 rfl) ?_
  refine lv_if_ne (tgt := 1520) hx hb dL_law_1505 (by decide) (fun c => absurd (by decide) c) (fun _ => ?_)
  refine lv_aload_n hx hb dL_law_1508 rfl (lv_at hl 3 rfl) ?_
  refine lv_iconst (v := 0) hx hb dL_law_1509 (by decide) ?_
  refine va_lald hx hb hK hP 3 4 rfl rfl (by unfold vp_in; decide) dL_law_1510 ?_
  refine W.eq (g2 := F0 m 1511 ls [.long 0]) rfl ?_
  refine lv_iload hx hb dL_law_1511 (lv_at hl 0 rfl) ?_
  refine lv_i2l (v := 0) hx hb dL_law_1513 (by decide) ?_
  refine W.lcmp hx hb dL_law_1514 ?_
  refine W.eq (g2 := F0 m 1515 ls [.int 0]) rfl ?_
  refine lv_if_eq (tgt := 1520) hx hb dL_law_1515 (by decide) (fun _ => ?_) (fun c => absurd (by decide) c)
  refine lv_goto (tgt := 3913) hx hb dL_law_1520 (by decide) ?_
  exact law_tail hx hb hr_ hlocks hX hbl hS (Nat.le_of_ble_eq_true rfl) (Nat.le_of_ble_eq_true rfl) (lv_sub hl [2, 6] rfl)
set_option maxRecDepth 100000 in
set_option maxHeartbeats 4000000 in
theorem case_16_1 {p : Program} {l : Launch} (hl9 : l.stackTraces = false) {e : Env} {s : State} {m : MethodId} {below : List Frame} {meth : Method} {c : Code} {D : va_G} {a1 a2 b : Nat} {xs : Nat → Int32} {H : Heap} {locs : List Loc} {ls : Array Slot} (h0 h1 h2 : Nat) (g gn gb : Nat → Nat) (kP : ClassId) (hm hr rr : Nat) (gm : Nat → Nat) (kI kA kY : ClassId) (F : Nat → Option Nat) (o : Nat) (kL : ClassId) (hv : xs 1 = 1) (hG : LawSt D a1 a2 p s m meth c b xs H locs ls h0 h1 h2 g gn gb kP hm hr rr gm kI kA kY F o kL) : W p l e room_1 s m #[Value.ref b] below meth c H locs 5338 65502 (lw_Z below #[Value.ref b] s) (F0 m 1467 ls []) := by
  obtain ⟨hx, hb, hr_, hml, hown, hts, hX, hbl, hlocks, hP, hK, hD, hA, hE, hS, hF, hl⟩ := hG
  have hbA : ¬ (fun q : Nat => s.heap.size ≤ q) b := Nat.not_le.mpr hbl
  refine lv_aload_n hx hb dL_law_1467 rfl (lv_at hl 3 rfl) ?_
  refine lv_aload_n hx hb dL_law_1468 rfl (lv_at hl 4 rfl) ?_
  refine lv_iload hx hb dL_law_1469 (lv_at hl 0 rfl) ?_
  refine lv_iconst (v := 1) hx hb dL_law_1471 (by decide) ?_
  refine lv_iadd hx hb dL_law_1472 ?_
  refine lv_topi (fun x_1 ex_1 => ?_)
  obtain rfl : x_1 = 1 := ex_1.trans (by decide)
  refine va_sld hx hb hX hbl hbA hS (i := 1) (by unfold vp_in; decide) dL_law_1473 ?_
  refine W.eq (g2 := F0 m 1474 ls [.int (xs 1), .ref h0]) rfl ?_
  refine W.eq (g2 := F0 m 1474 ls [.int 1, .ref h0]) (by rw [hv]) ?_
  refine lv_aload_n hx hb dL_law_1474 rfl (lv_at hl 1 rfl) ?_
  have f_2 := free_of (wc := [(h0, .inr (11, [.ref h1, .ref h2, .ref (g 2), .ref (g 3), .ref (g 4), .ref (g 5), .ref (g 6), .int 0, .int 0, .int 0, .int 0])), (h1, .inr (6, [.ref (gn 0), .int 0, .ref (gn 2), .ref (gn 3), .int 0, .ref (gn 5), .int 0, .int 0])), (h2, .inr (1, [.ref h1, .ref (gb 1), .int 0])), (o, .inl (kL, 1, .inr (.inl (fun _ => 0))))]) hD hS hA [0, 1, 2, 8] rfl
  refine vx_calli (vx_runSX (As := [.ref h0, .int 1, .ref o]) (rest := []) ⟨hx, hb, hml, hown, hts⟩ (c_h_told_1 l hl9 D a1 a2 H.size h0 h1 h2 g gn gb o kL) (vx_cwSW 3 hts (gSW w_812 w_813 w_450 w_814) rfl rfl rfl (by decide +kernel) ⟨Nat.le_of_ble_eq_true rfl, Nat.le_of_ble_eq_true rfl⟩) (pre_S hK hP hD hS hA hE [0, 1, 2, 8] rfl (by decide) rfl [4] rfl) rfl rfl hl.1 rfl (lv_room (Nat.le_of_ble_eq_true rfl)) dL_law_1475 ⟨Nat.le_of_ble_eq_true rfl, Nat.le_of_ble_eq_true rfl⟩) hS (fun q _ h => f_2 q h) f_2 (fun q _ h => f_2 q h) (fun E ce q9 u9 t H locs ht hvm hw hB hz1 hk1 hS hce hcv hcl => False.elim hw) (fun r_3 u_4 t H1 locs ht hvm h_5 hB hz1 hk1 hS => ?_)
  obtain ⟨hP, hD⟩ := join (wc := [(h0, .inr (11, [.ref h1, .ref h2, .ref (g 2), .ref (g 3), .ref (g 4), .ref (g 5), .ref (g 6), .int 0, .int 0, .int 0, .int 0])), (h1, .inr (6, [.ref (gn 0), .int 0, .ref (gn 2), .ref (gn 3), .int 0, .ref (gn 5), .int 0, .int 0])), (h2, .inr (1, [.ref h1, .ref (gb 1), .int 0])), (o, .inl (kL, 1, .inr (.inl (fun _ => 0))))]) (wr := [(gn 0, .inl (kP, 6, .inr (.inr (.inr (.inr (fun _ => none)))))), (hm, .inr (12, [.int 0, .ref hr, .int 0, .int 0, .int 0, .int 0, .int 0, .ref (gm 7), .ref (gm 8), .ref (gm 9), .ref (gm 10), .ref (gm 11), .ref (gm 12), .ref (gm 13), .ref (gm 14), .int 0, .ref (gm 16), .int 0, .int 0, .int 0, .ref (gm 20), .ref (gm 21), .int 0, .int 0, .int 0, .int 0, .int 0, .int 0, .ref (gm 28), .ref (gm 29)])), (hr, .inl (kI, 2, .inl (fun _ => 0))), (gm 7, .inl (kA, 6, .inr (.inr (.inr (.inr F))))), (rr, .inl (kY, 5, .inl (fun _ => 0)))]) (w1 := [(o, .inl (kL, 1, .inr (.inl (vp_updL (fun _ => 0) 0 0))))]) hP hD f_2 [0, 1, 2, 8] [3, 4, 5, 6, 7] rfl rfl (by decide) (by decide) hk1 ht hB
  generalize H1 = H at hP hS ⊢
  have hP : va_P D vwCl [(gn 0, .inl (kP, 6, .inr (.inr (.inr (.inr (fun _ => none)))))), (hm, .inr (12, [.int 0, .ref hr, .int 0, .int 0, .int 0, .int 0, .int 0, .ref (gm 7), .ref (gm 8), .ref (gm 9), .ref (gm 10), .ref (gm 11), .ref (gm 12), .ref (gm 13), .ref (gm 14), .int 0, .ref (gm 16), .int 0, .int 0, .int 0, .ref (gm 20), .ref (gm 21), .int 0, .int 0, .int 0, .int 0, .int 0, .int 0, .ref (gm 28), .ref (gm 29)])), (hr, .inl (kI, 2, .inl (fun _ => 0))), (gm 7, .inl (kA, 6, .inr (.inr (.inr (.inr F))))), (rr, .inl (kY, 5, .inl (fun _ => 0))), (o, .inl (kL, 1, .inr (.inl (vp_updL (fun _ => 0) 0 0))))] H := hP
  have hD : va_D (fun q : Nat => s.heap.size ≤ q) [(gn 0, .inl (kP, 6, .inr (.inr (.inr (.inr (fun _ => none)))))), (hm, .inr (12, [.int 0, .ref hr, .int 0, .int 0, .int 0, .int 0, .int 0, .ref (gm 7), .ref (gm 8), .ref (gm 9), .ref (gm 10), .ref (gm 11), .ref (gm 12), .ref (gm 13), .ref (gm 14), .int 0, .ref (gm 16), .int 0, .int 0, .int 0, .ref (gm 20), .ref (gm 21), .int 0, .int 0, .int 0, .int 0, .int 0, .int 0, .ref (gm 28), .ref (gm 29)])), (hr, .inl (kI, 2, .inl (fun _ => 0))), (gm 7, .inl (kA, 6, .inr (.inr (.inr (.inr F))))), (rr, .inl (kY, 5, .inl (fun _ => 0))), (o, .inl (kL, 1, .inr (.inl (vp_updL (fun _ => 0) 0 0))))] := hD
  obtain rfl := h_5
  refine lv_istore (lv' := [(5, .int 0), (4, .int 0), (3, .ref o), (2, .ref hm), (1, .ref h0), (0, .ref b)]) hx hb dL_law_1478 hl (by decide) rfl (fun ls hl => ?_)
  refine lv_aload_n hx hb dL_law_1480 rfl (lv_at hl 3 rfl) ?_
  refine lv_aload_n hx hb dL_law_1481 rfl (lv_at hl 5 rfl) ?_
  refine lv_iload hx hb dL_law_1482 (lv_at hl 1 rfl) ?_
  refine lv_iconst (v := 1) hx hb dL_law_1484 (by decide) ?_
  refine lv_iadd hx hb dL_law_1485 ?_
  refine lv_topi (fun x_6 ex_6 => ?_)
  obtain rfl : x_6 = 1 := ex_6.trans (by decide)
  refine va_sld hx hb hX hbl hbA hS (i := 1) (by unfold vp_in; decide) dL_law_1486 ?_
  refine W.eq (g2 := F0 m 1487 ls [.int (xs 1), .ref hm]) rfl ?_
  refine W.eq (g2 := F0 m 1487 ls [.int 1, .ref hm]) (by rw [hv]) ?_
  have f_7 := free_of (wc := [(hm, .inr (12, [.int 0, .ref hr, .int 0, .int 0, .int 0, .int 0, .int 0, .ref (gm 7), .ref (gm 8), .ref (gm 9), .ref (gm 10), .ref (gm 11), .ref (gm 12), .ref (gm 13), .ref (gm 14), .int 0, .ref (gm 16), .int 0, .int 0, .int 0, .ref (gm 20), .ref (gm 21), .int 0, .int 0, .int 0, .int 0, .int 0, .int 0, .ref (gm 28), .ref (gm 29)])), (hr, .inl (kI, 2, .inl (fun _ => 0)))]) hD hS hA [1, 2] rfl
  refine va_calli (va_runV (As := [.int 1]) (rest := []) ⟨hx, hb, hml, hown, hts⟩ (c_m_told_1 l D a1 a2 H.size hm hr gm kI) (cwV 1 hts (gV w_815 w_816 w_817 w_244 w_818) rfl rfl rfl (by decide +kernel) ⟨Nat.le_of_ble_eq_true rfl, Nat.le_of_ble_eq_true rfl⟩) (pre_V hK hP hD hS hA hE [1, 2] rfl (by decide) rfl [1] rfl (ci := 12) (q0 := 1) rfl rfl) rfl rfl hl.1 rfl (lv_room (Nat.le_of_ble_eq_true rfl)) dL_law_1487 ⟨Nat.le_of_ble_eq_true rfl, Nat.le_of_ble_eq_true rfl⟩) hS (fun q _ h => f_7 q h) f_7 (fun r_8 u_9 t H1 locs ht hvm h_10 hB hz1 hk1 hS => ?_)
  obtain ⟨hP, hD⟩ := join (wc := [(hm, .inr (12, [.int 0, .ref hr, .int 0, .int 0, .int 0, .int 0, .int 0, .ref (gm 7), .ref (gm 8), .ref (gm 9), .ref (gm 10), .ref (gm 11), .ref (gm 12), .ref (gm 13), .ref (gm 14), .int 0, .ref (gm 16), .int 0, .int 0, .int 0, .ref (gm 20), .ref (gm 21), .int 0, .int 0, .int 0, .int 0, .int 0, .int 0, .ref (gm 28), .ref (gm 29)])), (hr, .inl (kI, 2, .inl (fun _ => 0)))]) (wr := [(gn 0, .inl (kP, 6, .inr (.inr (.inr (.inr (fun _ => none)))))), (gm 7, .inl (kA, 6, .inr (.inr (.inr (.inr F))))), (rr, .inl (kY, 5, .inl (fun _ => 0))), (o, .inl (kL, 1, .inr (.inl (vp_updL (fun _ => 0) 0 0))))]) (w1 := [(hm, .inr (12, u_9))]) hP hD f_7 [1, 2] [0, 3, 4, 5] rfl rfl (by decide) (by decide) hk1 ht hB
  generalize H1 = H at hP hS ⊢
  have hP : va_P D vwCl [(gn 0, .inl (kP, 6, .inr (.inr (.inr (.inr (fun _ => none)))))), (gm 7, .inl (kA, 6, .inr (.inr (.inr (.inr F))))), (rr, .inl (kY, 5, .inl (fun _ => 0))), (o, .inl (kL, 1, .inr (.inl (vp_updL (fun _ => 0) 0 0)))), (hm, .inr (12, u_9))] H := hP
  have hD : va_D (fun q : Nat => s.heap.size ≤ q) [(gn 0, .inl (kP, 6, .inr (.inr (.inr (.inr (fun _ => none)))))), (gm 7, .inl (kA, 6, .inr (.inr (.inr (.inr F))))), (rr, .inl (kY, 5, .inl (fun _ => 0))), (o, .inl (kL, 1, .inr (.inl (vp_updL (fun _ => 0) 0 0)))), (hm, .inr (12, u_9))] := hD
  obtain ⟨rfl, h_10⟩ := h_10
  refine lv_istore (lv' := [(6, .int 0), (5, .int 0), (4, .int 0), (3, .ref o), (2, .ref hm), (1, .ref h0), (0, .ref b)]) hx hb dL_law_1490 hl (by decide) rfl (fun ls hl => ?_)
  refine lv_aload_n hx hb dL_law_1492 rfl (lv_at hl 4 rfl) ?_
  have f_11 := free_of (wc := [(hm, .inr (12, u_9))]) hD hS hA [4] rfl
  refine va_calli (va_runV (As := []) (rest := []) ⟨hx, hb, hml, hown, hts⟩ (c_thrown l D a1 a2 H.size hm u_9 0 h_10) (cwV 0 hts (gV w_458 w_459 w_460 w_244 w_461) rfl rfl rfl (by decide +kernel) ⟨Nat.le_of_ble_eq_true rfl, Nat.le_of_ble_eq_true rfl⟩) (pre_V hK hP hD hS hA hE [4] rfl (by decide) rfl [] rfl (ci := 12) (q0 := 4) rfl rfl) rfl rfl hl.1 rfl (lv_room (Nat.le_of_ble_eq_true rfl)) dL_law_1493 ⟨Nat.le_of_ble_eq_true rfl, Nat.le_of_ble_eq_true rfl⟩) hS (fun q _ h => f_11 q h) f_11 (fun r_12 u_13 t H1 locs ht hvm h_14 hB hz1 hk1 hS => ?_)
  obtain ⟨hP, hD⟩ := join (wc := [(hm, .inr (12, u_9))]) (wr := [(gn 0, .inl (kP, 6, .inr (.inr (.inr (.inr (fun _ => none)))))), (gm 7, .inl (kA, 6, .inr (.inr (.inr (.inr F))))), (rr, .inl (kY, 5, .inl (fun _ => 0))), (o, .inl (kL, 1, .inr (.inl (vp_updL (fun _ => 0) 0 0))))]) (w1 := [(hm, .inr (12, u_9))]) hP hD f_11 [4] [0, 1, 2, 3] rfl rfl (by decide) (by decide) hk1 ht hB
  generalize H1 = H at hP hS ⊢
  have hP : va_P D vwCl [(gn 0, .inl (kP, 6, .inr (.inr (.inr (.inr (fun _ => none)))))), (gm 7, .inl (kA, 6, .inr (.inr (.inr (.inr F))))), (rr, .inl (kY, 5, .inl (fun _ => 0))), (o, .inl (kL, 1, .inr (.inl (vp_updL (fun _ => 0) 0 0)))), (hm, .inr (12, u_9))] H := hP
  have hD : va_D (fun q : Nat => s.heap.size ≤ q) [(gn 0, .inl (kP, 6, .inr (.inr (.inr (.inr (fun _ => none)))))), (gm 7, .inl (kA, 6, .inr (.inr (.inr (.inr F))))), (rr, .inl (kY, 5, .inl (fun _ => 0))), (o, .inl (kL, 1, .inr (.inl (vp_updL (fun _ => 0) 0 0)))), (hm, .inr (12, u_9))] := hD
  obtain rfl := h_14
  refine lv_iload hx hb dL_law_1496 (lv_at hl 1 rfl) ?_
  refine lv_icmp_eq (tgt := 1503) hx hb dL_law_1498 (by decide) (fun _ => ?_) (fun c => absurd (by decide) c)
  refine lv_iload hx hb dL_law_1503 (lv_at hl 1 rfl) ?_
  refine lv_if_ne (tgt := 1520) hx hb dL_law_1505 (by decide) (fun c => absurd (by decide) c) (fun _ => ?_)
  refine lv_aload_n hx hb dL_law_1508 rfl (lv_at hl 3 rfl) ?_
  refine lv_iconst (v := 0) hx hb dL_law_1509 (by decide) ?_
  refine va_lald hx hb hK hP 3 4 rfl rfl (by unfold vp_in; decide) dL_law_1510 ?_
  refine W.eq (g2 := F0 m 1511 ls [.long 0]) rfl ?_
  refine lv_iload hx hb dL_law_1511 (lv_at hl 0 rfl) ?_
  refine lv_i2l (v := 0) hx hb dL_law_1513 (by decide) ?_
  refine W.lcmp hx hb dL_law_1514 ?_
  refine W.eq (g2 := F0 m 1515 ls [.int 0]) rfl ?_
  refine lv_if_eq (tgt := 1520) hx hb dL_law_1515 (by decide) (fun _ => ?_) (fun c => absurd (by decide) c)
  refine lv_goto (tgt := 3913) hx hb dL_law_1520 (by decide) ?_
  exact law_tail hx hb hr_ hlocks hX hbl hS (Nat.le_of_ble_eq_true rfl) (Nat.le_of_ble_eq_true rfl) (lv_sub hl [2, 6] rfl)
set_option maxRecDepth 100000 in
set_option maxHeartbeats 4000000 in
theorem case_16_2 {p : Program} {l : Launch} (hl9 : l.stackTraces = false) {e : Env} {s : State} {m : MethodId} {below : List Frame} {meth : Method} {c : Code} {D : va_G} {a1 a2 b : Nat} {xs : Nat → Int32} {H : Heap} {locs : List Loc} {ls : Array Slot} (h0 h1 h2 : Nat) (g gn gb : Nat → Nat) (kP : ClassId) (hm hr rr : Nat) (gm : Nat → Nat) (kI kA kY : ClassId) (F : Nat → Option Nat) (o : Nat) (kL : ClassId) (hv : xs 1 = 2) (hG : LawSt D a1 a2 p s m meth c b xs H locs ls h0 h1 h2 g gn gb kP hm hr rr gm kI kA kY F o kL) : W p l e room_1 s m #[Value.ref b] below meth c H locs 5338 65502 (lw_Z below #[Value.ref b] s) (F0 m 1467 ls []) := by
  obtain ⟨hx, hb, hr_, hml, hown, hts, hX, hbl, hlocks, hP, hK, hD, hA, hE, hS, hF, hl⟩ := hG
  have hbA : ¬ (fun q : Nat => s.heap.size ≤ q) b := Nat.not_le.mpr hbl
  refine lv_aload_n hx hb dL_law_1467 rfl (lv_at hl 3 rfl) ?_
  refine lv_aload_n hx hb dL_law_1468 rfl (lv_at hl 4 rfl) ?_
  refine lv_iload hx hb dL_law_1469 (lv_at hl 0 rfl) ?_
  refine lv_iconst (v := 1) hx hb dL_law_1471 (by decide) ?_
  refine lv_iadd hx hb dL_law_1472 ?_
  refine lv_topi (fun x_1 ex_1 => ?_)
  obtain rfl : x_1 = 1 := ex_1.trans (by decide)
  refine va_sld hx hb hX hbl hbA hS (i := 1) (by unfold vp_in; decide) dL_law_1473 ?_
  refine W.eq (g2 := F0 m 1474 ls [.int (xs 1), .ref h0]) rfl ?_
  refine W.eq (g2 := F0 m 1474 ls [.int 2, .ref h0]) (by rw [hv]) ?_
  refine lv_aload_n hx hb dL_law_1474 rfl (lv_at hl 1 rfl) ?_
  have f_2 := free_of (wc := [(h0, .inr (11, [.ref h1, .ref h2, .ref (g 2), .ref (g 3), .ref (g 4), .ref (g 5), .ref (g 6), .int 0, .int 0, .int 0, .int 0])), (h1, .inr (6, [.ref (gn 0), .int 0, .ref (gn 2), .ref (gn 3), .int 0, .ref (gn 5), .int 0, .int 0])), (h2, .inr (1, [.ref h1, .ref (gb 1), .int 0])), (o, .inl (kL, 1, .inr (.inl (fun _ => 0))))]) hD hS hA [0, 1, 2, 8] rfl
  refine vx_calli (vx_runSX (As := [.ref h0, .int 2, .ref o]) (rest := []) ⟨hx, hb, hml, hown, hts⟩ (c_h_told_2 l hl9 D a1 a2 H.size h0 h1 h2 g gn gb o kL) (vx_cwSW 3 hts (gSW w_812 w_813 w_450 w_814) rfl rfl rfl (by decide +kernel) ⟨Nat.le_of_ble_eq_true rfl, Nat.le_of_ble_eq_true rfl⟩) (pre_S hK hP hD hS hA hE [0, 1, 2, 8] rfl (by decide) rfl [4] rfl) rfl rfl hl.1 rfl (lv_room (Nat.le_of_ble_eq_true rfl)) dL_law_1475 ⟨Nat.le_of_ble_eq_true rfl, Nat.le_of_ble_eq_true rfl⟩) hS (fun q _ h => f_2 q h) f_2 (fun q _ h => f_2 q h) (fun E ce q9 u9 t H locs ht hvm hw hB hz1 hk1 hS hce hcv hcl => False.elim hw) (fun r_3 u_4 t H1 locs ht hvm h_5 hB hz1 hk1 hS => ?_)
  obtain ⟨hP, hD⟩ := join (wc := [(h0, .inr (11, [.ref h1, .ref h2, .ref (g 2), .ref (g 3), .ref (g 4), .ref (g 5), .ref (g 6), .int 0, .int 0, .int 0, .int 0])), (h1, .inr (6, [.ref (gn 0), .int 0, .ref (gn 2), .ref (gn 3), .int 0, .ref (gn 5), .int 0, .int 0])), (h2, .inr (1, [.ref h1, .ref (gb 1), .int 0])), (o, .inl (kL, 1, .inr (.inl (fun _ => 0))))]) (wr := [(gn 0, .inl (kP, 6, .inr (.inr (.inr (.inr (fun _ => none)))))), (hm, .inr (12, [.int 0, .ref hr, .int 0, .int 0, .int 0, .int 0, .int 0, .ref (gm 7), .ref (gm 8), .ref (gm 9), .ref (gm 10), .ref (gm 11), .ref (gm 12), .ref (gm 13), .ref (gm 14), .int 0, .ref (gm 16), .int 0, .int 0, .int 0, .ref (gm 20), .ref (gm 21), .int 0, .int 0, .int 0, .int 0, .int 0, .int 0, .ref (gm 28), .ref (gm 29)])), (hr, .inl (kI, 2, .inl (fun _ => 0))), (gm 7, .inl (kA, 6, .inr (.inr (.inr (.inr F))))), (rr, .inl (kY, 5, .inl (fun _ => 0)))]) (w1 := [(o, .inl (kL, 1, .inr (.inl (vp_updL (fun _ => 0) 0 0))))]) hP hD f_2 [0, 1, 2, 8] [3, 4, 5, 6, 7] rfl rfl (by decide) (by decide) hk1 ht hB
  generalize H1 = H at hP hS ⊢
  have hP : va_P D vwCl [(gn 0, .inl (kP, 6, .inr (.inr (.inr (.inr (fun _ => none)))))), (hm, .inr (12, [.int 0, .ref hr, .int 0, .int 0, .int 0, .int 0, .int 0, .ref (gm 7), .ref (gm 8), .ref (gm 9), .ref (gm 10), .ref (gm 11), .ref (gm 12), .ref (gm 13), .ref (gm 14), .int 0, .ref (gm 16), .int 0, .int 0, .int 0, .ref (gm 20), .ref (gm 21), .int 0, .int 0, .int 0, .int 0, .int 0, .int 0, .ref (gm 28), .ref (gm 29)])), (hr, .inl (kI, 2, .inl (fun _ => 0))), (gm 7, .inl (kA, 6, .inr (.inr (.inr (.inr F))))), (rr, .inl (kY, 5, .inl (fun _ => 0))), (o, .inl (kL, 1, .inr (.inl (vp_updL (fun _ => 0) 0 0))))] H := hP
  have hD : va_D (fun q : Nat => s.heap.size ≤ q) [(gn 0, .inl (kP, 6, .inr (.inr (.inr (.inr (fun _ => none)))))), (hm, .inr (12, [.int 0, .ref hr, .int 0, .int 0, .int 0, .int 0, .int 0, .ref (gm 7), .ref (gm 8), .ref (gm 9), .ref (gm 10), .ref (gm 11), .ref (gm 12), .ref (gm 13), .ref (gm 14), .int 0, .ref (gm 16), .int 0, .int 0, .int 0, .ref (gm 20), .ref (gm 21), .int 0, .int 0, .int 0, .int 0, .int 0, .int 0, .ref (gm 28), .ref (gm 29)])), (hr, .inl (kI, 2, .inl (fun _ => 0))), (gm 7, .inl (kA, 6, .inr (.inr (.inr (.inr F))))), (rr, .inl (kY, 5, .inl (fun _ => 0))), (o, .inl (kL, 1, .inr (.inl (vp_updL (fun _ => 0) 0 0))))] := hD
  obtain rfl := h_5
  refine lv_istore (lv' := [(5, .int 0), (4, .int 0), (3, .ref o), (2, .ref hm), (1, .ref h0), (0, .ref b)]) hx hb dL_law_1478 hl (by decide) rfl (fun ls hl => ?_)
  refine lv_aload_n hx hb dL_law_1480 rfl (lv_at hl 3 rfl) ?_
  refine lv_aload_n hx hb dL_law_1481 rfl (lv_at hl 5 rfl) ?_
  refine lv_iload hx hb dL_law_1482 (lv_at hl 1 rfl) ?_
  refine lv_iconst (v := 1) hx hb dL_law_1484 (by decide) ?_
  refine lv_iadd hx hb dL_law_1485 ?_
  refine lv_topi (fun x_6 ex_6 => ?_)
  obtain rfl : x_6 = 1 := ex_6.trans (by decide)
  refine va_sld hx hb hX hbl hbA hS (i := 1) (by unfold vp_in; decide) dL_law_1486 ?_
  refine W.eq (g2 := F0 m 1487 ls [.int (xs 1), .ref hm]) rfl ?_
  refine W.eq (g2 := F0 m 1487 ls [.int 2, .ref hm]) (by rw [hv]) ?_
  have f_7 := free_of (wc := [(hm, .inr (12, [.int 0, .ref hr, .int 0, .int 0, .int 0, .int 0, .int 0, .ref (gm 7), .ref (gm 8), .ref (gm 9), .ref (gm 10), .ref (gm 11), .ref (gm 12), .ref (gm 13), .ref (gm 14), .int 0, .ref (gm 16), .int 0, .int 0, .int 0, .ref (gm 20), .ref (gm 21), .int 0, .int 0, .int 0, .int 0, .int 0, .int 0, .ref (gm 28), .ref (gm 29)])), (hr, .inl (kI, 2, .inl (fun _ => 0)))]) hD hS hA [1, 2] rfl
  refine va_calli (va_runV (As := [.int 2]) (rest := []) ⟨hx, hb, hml, hown, hts⟩ (c_m_told_2 l D a1 a2 H.size hm hr gm kI) (cwV 1 hts (gV w_815 w_816 w_817 w_244 w_818) rfl rfl rfl (by decide +kernel) ⟨Nat.le_of_ble_eq_true rfl, Nat.le_of_ble_eq_true rfl⟩) (pre_V hK hP hD hS hA hE [1, 2] rfl (by decide) rfl [1] rfl (ci := 12) (q0 := 1) rfl rfl) rfl rfl hl.1 rfl (lv_room (Nat.le_of_ble_eq_true rfl)) dL_law_1487 ⟨Nat.le_of_ble_eq_true rfl, Nat.le_of_ble_eq_true rfl⟩) hS (fun q _ h => f_7 q h) f_7 (fun r_8 u_9 t H1 locs ht hvm h_10 hB hz1 hk1 hS => ?_)
  obtain ⟨hP, hD⟩ := join (wc := [(hm, .inr (12, [.int 0, .ref hr, .int 0, .int 0, .int 0, .int 0, .int 0, .ref (gm 7), .ref (gm 8), .ref (gm 9), .ref (gm 10), .ref (gm 11), .ref (gm 12), .ref (gm 13), .ref (gm 14), .int 0, .ref (gm 16), .int 0, .int 0, .int 0, .ref (gm 20), .ref (gm 21), .int 0, .int 0, .int 0, .int 0, .int 0, .int 0, .ref (gm 28), .ref (gm 29)])), (hr, .inl (kI, 2, .inl (fun _ => 0)))]) (wr := [(gn 0, .inl (kP, 6, .inr (.inr (.inr (.inr (fun _ => none)))))), (gm 7, .inl (kA, 6, .inr (.inr (.inr (.inr F))))), (rr, .inl (kY, 5, .inl (fun _ => 0))), (o, .inl (kL, 1, .inr (.inl (vp_updL (fun _ => 0) 0 0))))]) (w1 := [(hm, .inr (12, u_9))]) hP hD f_7 [1, 2] [0, 3, 4, 5] rfl rfl (by decide) (by decide) hk1 ht hB
  generalize H1 = H at hP hS ⊢
  have hP : va_P D vwCl [(gn 0, .inl (kP, 6, .inr (.inr (.inr (.inr (fun _ => none)))))), (gm 7, .inl (kA, 6, .inr (.inr (.inr (.inr F))))), (rr, .inl (kY, 5, .inl (fun _ => 0))), (o, .inl (kL, 1, .inr (.inl (vp_updL (fun _ => 0) 0 0)))), (hm, .inr (12, u_9))] H := hP
  have hD : va_D (fun q : Nat => s.heap.size ≤ q) [(gn 0, .inl (kP, 6, .inr (.inr (.inr (.inr (fun _ => none)))))), (gm 7, .inl (kA, 6, .inr (.inr (.inr (.inr F))))), (rr, .inl (kY, 5, .inl (fun _ => 0))), (o, .inl (kL, 1, .inr (.inl (vp_updL (fun _ => 0) 0 0)))), (hm, .inr (12, u_9))] := hD
  obtain ⟨rfl, h_10⟩ := h_10
  refine lv_istore (lv' := [(6, .int 0), (5, .int 0), (4, .int 0), (3, .ref o), (2, .ref hm), (1, .ref h0), (0, .ref b)]) hx hb dL_law_1490 hl (by decide) rfl (fun ls hl => ?_)
  refine lv_aload_n hx hb dL_law_1492 rfl (lv_at hl 4 rfl) ?_
  have f_11 := free_of (wc := [(hm, .inr (12, u_9))]) hD hS hA [4] rfl
  refine va_calli (va_runV (As := []) (rest := []) ⟨hx, hb, hml, hown, hts⟩ (c_thrown l D a1 a2 H.size hm u_9 0 h_10) (cwV 0 hts (gV w_458 w_459 w_460 w_244 w_461) rfl rfl rfl (by decide +kernel) ⟨Nat.le_of_ble_eq_true rfl, Nat.le_of_ble_eq_true rfl⟩) (pre_V hK hP hD hS hA hE [4] rfl (by decide) rfl [] rfl (ci := 12) (q0 := 4) rfl rfl) rfl rfl hl.1 rfl (lv_room (Nat.le_of_ble_eq_true rfl)) dL_law_1493 ⟨Nat.le_of_ble_eq_true rfl, Nat.le_of_ble_eq_true rfl⟩) hS (fun q _ h => f_11 q h) f_11 (fun r_12 u_13 t H1 locs ht hvm h_14 hB hz1 hk1 hS => ?_)
  obtain ⟨hP, hD⟩ := join (wc := [(hm, .inr (12, u_9))]) (wr := [(gn 0, .inl (kP, 6, .inr (.inr (.inr (.inr (fun _ => none)))))), (gm 7, .inl (kA, 6, .inr (.inr (.inr (.inr F))))), (rr, .inl (kY, 5, .inl (fun _ => 0))), (o, .inl (kL, 1, .inr (.inl (vp_updL (fun _ => 0) 0 0))))]) (w1 := [(hm, .inr (12, u_9))]) hP hD f_11 [4] [0, 1, 2, 3] rfl rfl (by decide) (by decide) hk1 ht hB
  generalize H1 = H at hP hS ⊢
  have hP : va_P D vwCl [(gn 0, .inl (kP, 6, .inr (.inr (.inr (.inr (fun _ => none)))))), (gm 7, .inl (kA, 6, .inr (.inr (.inr (.inr F))))), (rr, .inl (kY, 5, .inl (fun _ => 0))), (o, .inl (kL, 1, .inr (.inl (vp_updL (fun _ => 0) 0 0)))), (hm, .inr (12, u_9))] H := hP
  have hD : va_D (fun q : Nat => s.heap.size ≤ q) [(gn 0, .inl (kP, 6, .inr (.inr (.inr (.inr (fun _ => none)))))), (gm 7, .inl (kA, 6, .inr (.inr (.inr (.inr F))))), (rr, .inl (kY, 5, .inl (fun _ => 0))), (o, .inl (kL, 1, .inr (.inl (vp_updL (fun _ => 0) 0 0)))), (hm, .inr (12, u_9))] := hD
  obtain rfl := h_14
  refine lv_iload hx hb dL_law_1496 (lv_at hl 1 rfl) ?_
  refine lv_icmp_eq (tgt := 1503) hx hb dL_law_1498 (by decide) (fun _ => ?_) (fun c => absurd (by decide) c)
  refine lv_iload hx hb dL_law_1503 (lv_at hl 1 rfl) ?_
  refine lv_if_ne (tgt := 1520) hx hb dL_law_1505 (by decide) (fun c => absurd (by decide) c) (fun _ => ?_)
  refine lv_aload_n hx hb dL_law_1508 rfl (lv_at hl 3 rfl) ?_
  refine lv_iconst (v := 0) hx hb dL_law_1509 (by decide) ?_
  refine va_lald hx hb hK hP 3 4 rfl rfl (by unfold vp_in; decide) dL_law_1510 ?_
  refine W.eq (g2 := F0 m 1511 ls [.long 0]) rfl ?_
  refine lv_iload hx hb dL_law_1511 (lv_at hl 0 rfl) ?_
  refine lv_i2l (v := 0) hx hb dL_law_1513 (by decide) ?_
  refine W.lcmp hx hb dL_law_1514 ?_
  refine W.eq (g2 := F0 m 1515 ls [.int 0]) rfl ?_
  refine lv_if_eq (tgt := 1520) hx hb dL_law_1515 (by decide) (fun _ => ?_) (fun c => absurd (by decide) c)
  refine lv_goto (tgt := 3913) hx hb dL_law_1520 (by decide) ?_
  exact law_tail hx hb hr_ hlocks hX hbl hS (Nat.le_of_ble_eq_true rfl) (Nat.le_of_ble_eq_true rfl) (lv_sub hl [2, 6] rfl)
set_option maxRecDepth 100000 in
set_option maxHeartbeats 4000000 in
theorem case_16_3 {p : Program} {l : Launch} (hl9 : l.stackTraces = false) {e : Env} {s : State} {m : MethodId} {below : List Frame} {meth : Method} {c : Code} {D : va_G} {a1 a2 b : Nat} {xs : Nat → Int32} {H : Heap} {locs : List Loc} {ls : Array Slot} (h0 h1 h2 : Nat) (g gn gb : Nat → Nat) (kP : ClassId) (hm hr rr : Nat) (gm : Nat → Nat) (kI kA kY : ClassId) (F : Nat → Option Nat) (o : Nat) (kL : ClassId) (hv : xs 1 = 3) (hG : LawSt D a1 a2 p s m meth c b xs H locs ls h0 h1 h2 g gn gb kP hm hr rr gm kI kA kY F o kL) : W p l e room_1 s m #[Value.ref b] below meth c H locs 5338 65502 (lw_Z below #[Value.ref b] s) (F0 m 1467 ls []) := by
  obtain ⟨hx, hb, hr_, hml, hown, hts, hX, hbl, hlocks, hP, hK, hD, hA, hE, hS, hF, hl⟩ := hG
  have hbA : ¬ (fun q : Nat => s.heap.size ≤ q) b := Nat.not_le.mpr hbl
  refine lv_aload_n hx hb dL_law_1467 rfl (lv_at hl 3 rfl) ?_
  refine lv_aload_n hx hb dL_law_1468 rfl (lv_at hl 4 rfl) ?_
  refine lv_iload hx hb dL_law_1469 (lv_at hl 0 rfl) ?_
  refine lv_iconst (v := 1) hx hb dL_law_1471 (by decide) ?_
  refine lv_iadd hx hb dL_law_1472 ?_
  refine lv_topi (fun x_1 ex_1 => ?_)
  obtain rfl : x_1 = 1 := ex_1.trans (by decide)
  refine va_sld hx hb hX hbl hbA hS (i := 1) (by unfold vp_in; decide) dL_law_1473 ?_
  refine W.eq (g2 := F0 m 1474 ls [.int (xs 1), .ref h0]) rfl ?_
  refine W.eq (g2 := F0 m 1474 ls [.int 3, .ref h0]) (by rw [hv]) ?_
  refine lv_aload_n hx hb dL_law_1474 rfl (lv_at hl 1 rfl) ?_
  have f_2 := free_of (wc := [(h0, .inr (11, [.ref h1, .ref h2, .ref (g 2), .ref (g 3), .ref (g 4), .ref (g 5), .ref (g 6), .int 0, .int 0, .int 0, .int 0])), (h1, .inr (6, [.ref (gn 0), .int 0, .ref (gn 2), .ref (gn 3), .int 0, .ref (gn 5), .int 0, .int 0])), (h2, .inr (1, [.ref h1, .ref (gb 1), .int 0])), (o, .inl (kL, 1, .inr (.inl (fun _ => 0))))]) hD hS hA [0, 1, 2, 8] rfl
  refine vx_calli (vx_runSX (As := [.ref h0, .int 3, .ref o]) (rest := []) ⟨hx, hb, hml, hown, hts⟩ (c_h_told_3 l hl9 D a1 a2 H.size h0 h1 h2 g gn gb o kL) (vx_cwSW 3 hts (gSW w_812 w_813 w_450 w_814) rfl rfl rfl (by decide +kernel) ⟨Nat.le_of_ble_eq_true rfl, Nat.le_of_ble_eq_true rfl⟩) (pre_S hK hP hD hS hA hE [0, 1, 2, 8] rfl (by decide) rfl [4] rfl) rfl rfl hl.1 rfl (lv_room (Nat.le_of_ble_eq_true rfl)) dL_law_1475 ⟨Nat.le_of_ble_eq_true rfl, Nat.le_of_ble_eq_true rfl⟩) hS (fun q _ h => f_2 q h) f_2 (fun q _ h => f_2 q h) (fun E ce q9 u9 t H locs ht hvm hw hB hz1 hk1 hS hce hcv hcl => False.elim hw) (fun r_3 u_4 t H1 locs ht hvm h_5 hB hz1 hk1 hS => ?_)
  obtain ⟨hP, hD⟩ := join (wc := [(h0, .inr (11, [.ref h1, .ref h2, .ref (g 2), .ref (g 3), .ref (g 4), .ref (g 5), .ref (g 6), .int 0, .int 0, .int 0, .int 0])), (h1, .inr (6, [.ref (gn 0), .int 0, .ref (gn 2), .ref (gn 3), .int 0, .ref (gn 5), .int 0, .int 0])), (h2, .inr (1, [.ref h1, .ref (gb 1), .int 0])), (o, .inl (kL, 1, .inr (.inl (fun _ => 0))))]) (wr := [(gn 0, .inl (kP, 6, .inr (.inr (.inr (.inr (fun _ => none)))))), (hm, .inr (12, [.int 0, .ref hr, .int 0, .int 0, .int 0, .int 0, .int 0, .ref (gm 7), .ref (gm 8), .ref (gm 9), .ref (gm 10), .ref (gm 11), .ref (gm 12), .ref (gm 13), .ref (gm 14), .int 0, .ref (gm 16), .int 0, .int 0, .int 0, .ref (gm 20), .ref (gm 21), .int 0, .int 0, .int 0, .int 0, .int 0, .int 0, .ref (gm 28), .ref (gm 29)])), (hr, .inl (kI, 2, .inl (fun _ => 0))), (gm 7, .inl (kA, 6, .inr (.inr (.inr (.inr F))))), (rr, .inl (kY, 5, .inl (fun _ => 0)))]) (w1 := [(o, .inl (kL, 1, .inr (.inl (vp_updL (fun _ => 0) 0 0))))]) hP hD f_2 [0, 1, 2, 8] [3, 4, 5, 6, 7] rfl rfl (by decide) (by decide) hk1 ht hB
  generalize H1 = H at hP hS ⊢
  have hP : va_P D vwCl [(gn 0, .inl (kP, 6, .inr (.inr (.inr (.inr (fun _ => none)))))), (hm, .inr (12, [.int 0, .ref hr, .int 0, .int 0, .int 0, .int 0, .int 0, .ref (gm 7), .ref (gm 8), .ref (gm 9), .ref (gm 10), .ref (gm 11), .ref (gm 12), .ref (gm 13), .ref (gm 14), .int 0, .ref (gm 16), .int 0, .int 0, .int 0, .ref (gm 20), .ref (gm 21), .int 0, .int 0, .int 0, .int 0, .int 0, .int 0, .ref (gm 28), .ref (gm 29)])), (hr, .inl (kI, 2, .inl (fun _ => 0))), (gm 7, .inl (kA, 6, .inr (.inr (.inr (.inr F))))), (rr, .inl (kY, 5, .inl (fun _ => 0))), (o, .inl (kL, 1, .inr (.inl (vp_updL (fun _ => 0) 0 0))))] H := hP
  have hD : va_D (fun q : Nat => s.heap.size ≤ q) [(gn 0, .inl (kP, 6, .inr (.inr (.inr (.inr (fun _ => none)))))), (hm, .inr (12, [.int 0, .ref hr, .int 0, .int 0, .int 0, .int 0, .int 0, .ref (gm 7), .ref (gm 8), .ref (gm 9), .ref (gm 10), .ref (gm 11), .ref (gm 12), .ref (gm 13), .ref (gm 14), .int 0, .ref (gm 16), .int 0, .int 0, .int 0, .ref (gm 20), .ref (gm 21), .int 0, .int 0, .int 0, .int 0, .int 0, .int 0, .ref (gm 28), .ref (gm 29)])), (hr, .inl (kI, 2, .inl (fun _ => 0))), (gm 7, .inl (kA, 6, .inr (.inr (.inr (.inr F))))), (rr, .inl (kY, 5, .inl (fun _ => 0))), (o, .inl (kL, 1, .inr (.inl (vp_updL (fun _ => 0) 0 0))))] := hD
  obtain rfl := h_5
  refine lv_istore (lv' := [(5, .int 0), (4, .int 0), (3, .ref o), (2, .ref hm), (1, .ref h0), (0, .ref b)]) hx hb dL_law_1478 hl (by decide) rfl (fun ls hl => ?_)
  refine lv_aload_n hx hb dL_law_1480 rfl (lv_at hl 3 rfl) ?_
  refine lv_aload_n hx hb dL_law_1481 rfl (lv_at hl 5 rfl) ?_
  refine lv_iload hx hb dL_law_1482 (lv_at hl 1 rfl) ?_
  refine lv_iconst (v := 1) hx hb dL_law_1484 (by decide) ?_
  refine lv_iadd hx hb dL_law_1485 ?_
  refine lv_topi (fun x_6 ex_6 => ?_)
  obtain rfl : x_6 = 1 := ex_6.trans (by decide)
  refine va_sld hx hb hX hbl hbA hS (i := 1) (by unfold vp_in; decide) dL_law_1486 ?_
  refine W.eq (g2 := F0 m 1487 ls [.int (xs 1), .ref hm]) rfl ?_
  refine W.eq (g2 := F0 m 1487 ls [.int 3, .ref hm]) (by rw [hv]) ?_
  have f_7 := free_of (wc := [(hm, .inr (12, [.int 0, .ref hr, .int 0, .int 0, .int 0, .int 0, .int 0, .ref (gm 7), .ref (gm 8), .ref (gm 9), .ref (gm 10), .ref (gm 11), .ref (gm 12), .ref (gm 13), .ref (gm 14), .int 0, .ref (gm 16), .int 0, .int 0, .int 0, .ref (gm 20), .ref (gm 21), .int 0, .int 0, .int 0, .int 0, .int 0, .int 0, .ref (gm 28), .ref (gm 29)])), (hr, .inl (kI, 2, .inl (fun _ => 0)))]) hD hS hA [1, 2] rfl
  refine va_calli (va_runV (As := [.int 3]) (rest := []) ⟨hx, hb, hml, hown, hts⟩ (c_m_told_3 l D a1 a2 H.size hm hr gm kI) (cwV 1 hts (gV w_815 w_816 w_817 w_244 w_818) rfl rfl rfl (by decide +kernel) ⟨Nat.le_of_ble_eq_true rfl, Nat.le_of_ble_eq_true rfl⟩) (pre_V hK hP hD hS hA hE [1, 2] rfl (by decide) rfl [1] rfl (ci := 12) (q0 := 1) rfl rfl) rfl rfl hl.1 rfl (lv_room (Nat.le_of_ble_eq_true rfl)) dL_law_1487 ⟨Nat.le_of_ble_eq_true rfl, Nat.le_of_ble_eq_true rfl⟩) hS (fun q _ h => f_7 q h) f_7 (fun r_8 u_9 t H1 locs ht hvm h_10 hB hz1 hk1 hS => ?_)
  obtain ⟨hP, hD⟩ := join (wc := [(hm, .inr (12, [.int 0, .ref hr, .int 0, .int 0, .int 0, .int 0, .int 0, .ref (gm 7), .ref (gm 8), .ref (gm 9), .ref (gm 10), .ref (gm 11), .ref (gm 12), .ref (gm 13), .ref (gm 14), .int 0, .ref (gm 16), .int 0, .int 0, .int 0, .ref (gm 20), .ref (gm 21), .int 0, .int 0, .int 0, .int 0, .int 0, .int 0, .ref (gm 28), .ref (gm 29)])), (hr, .inl (kI, 2, .inl (fun _ => 0)))]) (wr := [(gn 0, .inl (kP, 6, .inr (.inr (.inr (.inr (fun _ => none)))))), (gm 7, .inl (kA, 6, .inr (.inr (.inr (.inr F))))), (rr, .inl (kY, 5, .inl (fun _ => 0))), (o, .inl (kL, 1, .inr (.inl (vp_updL (fun _ => 0) 0 0))))]) (w1 := [(hm, .inr (12, u_9))]) hP hD f_7 [1, 2] [0, 3, 4, 5] rfl rfl (by decide) (by decide) hk1 ht hB
  generalize H1 = H at hP hS ⊢
  have hP : va_P D vwCl [(gn 0, .inl (kP, 6, .inr (.inr (.inr (.inr (fun _ => none)))))), (gm 7, .inl (kA, 6, .inr (.inr (.inr (.inr F))))), (rr, .inl (kY, 5, .inl (fun _ => 0))), (o, .inl (kL, 1, .inr (.inl (vp_updL (fun _ => 0) 0 0)))), (hm, .inr (12, u_9))] H := hP
  have hD : va_D (fun q : Nat => s.heap.size ≤ q) [(gn 0, .inl (kP, 6, .inr (.inr (.inr (.inr (fun _ => none)))))), (gm 7, .inl (kA, 6, .inr (.inr (.inr (.inr F))))), (rr, .inl (kY, 5, .inl (fun _ => 0))), (o, .inl (kL, 1, .inr (.inl (vp_updL (fun _ => 0) 0 0)))), (hm, .inr (12, u_9))] := hD
  obtain ⟨rfl, h_10⟩ := h_10
  refine lv_istore (lv' := [(6, .int 0), (5, .int 0), (4, .int 0), (3, .ref o), (2, .ref hm), (1, .ref h0), (0, .ref b)]) hx hb dL_law_1490 hl (by decide) rfl (fun ls hl => ?_)
  refine lv_aload_n hx hb dL_law_1492 rfl (lv_at hl 4 rfl) ?_
  have f_11 := free_of (wc := [(hm, .inr (12, u_9))]) hD hS hA [4] rfl
  refine va_calli (va_runV (As := []) (rest := []) ⟨hx, hb, hml, hown, hts⟩ (c_thrown l D a1 a2 H.size hm u_9 0 h_10) (cwV 0 hts (gV w_458 w_459 w_460 w_244 w_461) rfl rfl rfl (by decide +kernel) ⟨Nat.le_of_ble_eq_true rfl, Nat.le_of_ble_eq_true rfl⟩) (pre_V hK hP hD hS hA hE [4] rfl (by decide) rfl [] rfl (ci := 12) (q0 := 4) rfl rfl) rfl rfl hl.1 rfl (lv_room (Nat.le_of_ble_eq_true rfl)) dL_law_1493 ⟨Nat.le_of_ble_eq_true rfl, Nat.le_of_ble_eq_true rfl⟩) hS (fun q _ h => f_11 q h) f_11 (fun r_12 u_13 t H1 locs ht hvm h_14 hB hz1 hk1 hS => ?_)
  obtain ⟨hP, hD⟩ := join (wc := [(hm, .inr (12, u_9))]) (wr := [(gn 0, .inl (kP, 6, .inr (.inr (.inr (.inr (fun _ => none)))))), (gm 7, .inl (kA, 6, .inr (.inr (.inr (.inr F))))), (rr, .inl (kY, 5, .inl (fun _ => 0))), (o, .inl (kL, 1, .inr (.inl (vp_updL (fun _ => 0) 0 0))))]) (w1 := [(hm, .inr (12, u_9))]) hP hD f_11 [4] [0, 1, 2, 3] rfl rfl (by decide) (by decide) hk1 ht hB
  generalize H1 = H at hP hS ⊢
  have hP : va_P D vwCl [(gn 0, .inl (kP, 6, .inr (.inr (.inr (.inr (fun _ => none)))))), (gm 7, .inl (kA, 6, .inr (.inr (.inr (.inr F))))), (rr, .inl (kY, 5, .inl (fun _ => 0))), (o, .inl (kL, 1, .inr (.inl (vp_updL (fun _ => 0) 0 0)))), (hm, .inr (12, u_9))] H := hP
  have hD : va_D (fun q : Nat => s.heap.size ≤ q) [(gn 0, .inl (kP, 6, .inr (.inr (.inr (.inr (fun _ => none)))))), (gm 7, .inl (kA, 6, .inr (.inr (.inr (.inr F))))), (rr, .inl (kY, 5, .inl (fun _ => 0))), (o, .inl (kL, 1, .inr (.inl (vp_updL (fun _ => 0) 0 0)))), (hm, .inr (12, u_9))] := hD
  obtain rfl := h_14
  refine lv_iload hx hb dL_law_1496 (lv_at hl 1 rfl) ?_
  refine lv_icmp_eq (tgt := 1503) hx hb dL_law_1498 (by decide) (fun _ => ?_) (fun c => absurd (by decide) c)
  refine lv_iload hx hb dL_law_1503 (lv_at hl 1 rfl) ?_
  refine lv_if_ne (tgt := 1520) hx hb dL_law_1505 (by decide) (fun c => absurd (by decide) c) (fun _ => ?_)
  refine lv_aload_n hx hb dL_law_1508 rfl (lv_at hl 3 rfl) ?_
  refine lv_iconst (v := 0) hx hb dL_law_1509 (by decide) ?_
  refine va_lald hx hb hK hP 3 4 rfl rfl (by unfold vp_in; decide) dL_law_1510 ?_
  refine W.eq (g2 := F0 m 1511 ls [.long 0]) rfl ?_
  refine lv_iload hx hb dL_law_1511 (lv_at hl 0 rfl) ?_
  refine lv_i2l (v := 0) hx hb dL_law_1513 (by decide) ?_
  refine W.lcmp hx hb dL_law_1514 ?_
  refine W.eq (g2 := F0 m 1515 ls [.int 0]) rfl ?_
  refine lv_if_eq (tgt := 1520) hx hb dL_law_1515 (by decide) (fun _ => ?_) (fun c => absurd (by decide) c)
  refine lv_goto (tgt := 3913) hx hb dL_law_1520 (by decide) ?_
  exact law_tail hx hb hr_ hlocks hX hbl hS (Nat.le_of_ble_eq_true rfl) (Nat.le_of_ble_eq_true rfl) (lv_sub hl [2, 6] rfl)
set_option maxRecDepth 100000 in
set_option maxHeartbeats 4000000 in
theorem case_16_4 {p : Program} {l : Launch} (hl9 : l.stackTraces = false) {e : Env} {s : State} {m : MethodId} {below : List Frame} {meth : Method} {c : Code} {D : va_G} {a1 a2 b : Nat} {xs : Nat → Int32} {H : Heap} {locs : List Loc} {ls : Array Slot} (h0 h1 h2 : Nat) (g gn gb : Nat → Nat) (kP : ClassId) (hm hr rr : Nat) (gm : Nat → Nat) (kI kA kY : ClassId) (F : Nat → Option Nat) (o : Nat) (kL : ClassId) (hv : xs 1 = 4) (hG : LawSt D a1 a2 p s m meth c b xs H locs ls h0 h1 h2 g gn gb kP hm hr rr gm kI kA kY F o kL) : W p l e room_1 s m #[Value.ref b] below meth c H locs 5338 65502 (lw_Z below #[Value.ref b] s) (F0 m 1467 ls []) := by
  obtain ⟨hx, hb, hr_, hml, hown, hts, hX, hbl, hlocks, hP, hK, hD, hA, hE, hS, hF, hl⟩ := hG
  have hbA : ¬ (fun q : Nat => s.heap.size ≤ q) b := Nat.not_le.mpr hbl
  refine lv_aload_n hx hb dL_law_1467 rfl (lv_at hl 3 rfl) ?_
  refine lv_aload_n hx hb dL_law_1468 rfl (lv_at hl 4 rfl) ?_
  refine lv_iload hx hb dL_law_1469 (lv_at hl 0 rfl) ?_
  refine lv_iconst (v := 1) hx hb dL_law_1471 (by decide) ?_
  refine lv_iadd hx hb dL_law_1472 ?_
  refine lv_topi (fun x_1 ex_1 => ?_)
  obtain rfl : x_1 = 1 := ex_1.trans (by decide)
  refine va_sld hx hb hX hbl hbA hS (i := 1) (by unfold vp_in; decide) dL_law_1473 ?_
  refine W.eq (g2 := F0 m 1474 ls [.int (xs 1), .ref h0]) rfl ?_
  refine W.eq (g2 := F0 m 1474 ls [.int 4, .ref h0]) (by rw [hv]) ?_
  refine lv_aload_n hx hb dL_law_1474 rfl (lv_at hl 1 rfl) ?_
  have f_2 := free_of (wc := [(h0, .inr (11, [.ref h1, .ref h2, .ref (g 2), .ref (g 3), .ref (g 4), .ref (g 5), .ref (g 6), .int 0, .int 0, .int 0, .int 0])), (h1, .inr (6, [.ref (gn 0), .int 0, .ref (gn 2), .ref (gn 3), .int 0, .ref (gn 5), .int 0, .int 0])), (h2, .inr (1, [.ref h1, .ref (gb 1), .int 0])), (o, .inl (kL, 1, .inr (.inl (fun _ => 0))))]) hD hS hA [0, 1, 2, 8] rfl
  refine vx_calli (vx_runSX (As := [.ref h0, .int 4, .ref o]) (rest := []) ⟨hx, hb, hml, hown, hts⟩ (c_h_told_4 l hl9 D a1 a2 H.size h0 h1 h2 g gn gb o kL) (vx_cwSW 3 hts (gSW w_812 w_813 w_450 w_814) rfl rfl rfl (by decide +kernel) ⟨Nat.le_of_ble_eq_true rfl, Nat.le_of_ble_eq_true rfl⟩) (pre_S hK hP hD hS hA hE [0, 1, 2, 8] rfl (by decide) rfl [4] rfl) rfl rfl hl.1 rfl (lv_room (Nat.le_of_ble_eq_true rfl)) dL_law_1475 ⟨Nat.le_of_ble_eq_true rfl, Nat.le_of_ble_eq_true rfl⟩) hS (fun q _ h => f_2 q h) f_2 (fun q _ h => f_2 q h) (fun E ce q9 u9 t H locs ht hvm hw hB hz1 hk1 hS hce hcv hcl => False.elim hw) (fun r_3 u_4 t H1 locs ht hvm h_5 hB hz1 hk1 hS => ?_)
  obtain ⟨hP, hD⟩ := join (wc := [(h0, .inr (11, [.ref h1, .ref h2, .ref (g 2), .ref (g 3), .ref (g 4), .ref (g 5), .ref (g 6), .int 0, .int 0, .int 0, .int 0])), (h1, .inr (6, [.ref (gn 0), .int 0, .ref (gn 2), .ref (gn 3), .int 0, .ref (gn 5), .int 0, .int 0])), (h2, .inr (1, [.ref h1, .ref (gb 1), .int 0])), (o, .inl (kL, 1, .inr (.inl (fun _ => 0))))]) (wr := [(gn 0, .inl (kP, 6, .inr (.inr (.inr (.inr (fun _ => none)))))), (hm, .inr (12, [.int 0, .ref hr, .int 0, .int 0, .int 0, .int 0, .int 0, .ref (gm 7), .ref (gm 8), .ref (gm 9), .ref (gm 10), .ref (gm 11), .ref (gm 12), .ref (gm 13), .ref (gm 14), .int 0, .ref (gm 16), .int 0, .int 0, .int 0, .ref (gm 20), .ref (gm 21), .int 0, .int 0, .int 0, .int 0, .int 0, .int 0, .ref (gm 28), .ref (gm 29)])), (hr, .inl (kI, 2, .inl (fun _ => 0))), (gm 7, .inl (kA, 6, .inr (.inr (.inr (.inr F))))), (rr, .inl (kY, 5, .inl (fun _ => 0)))]) (w1 := [(o, .inl (kL, 1, .inr (.inl (vp_updL (fun _ => 0) 0 0))))]) hP hD f_2 [0, 1, 2, 8] [3, 4, 5, 6, 7] rfl rfl (by decide) (by decide) hk1 ht hB
  generalize H1 = H at hP hS ⊢
  have hP : va_P D vwCl [(gn 0, .inl (kP, 6, .inr (.inr (.inr (.inr (fun _ => none)))))), (hm, .inr (12, [.int 0, .ref hr, .int 0, .int 0, .int 0, .int 0, .int 0, .ref (gm 7), .ref (gm 8), .ref (gm 9), .ref (gm 10), .ref (gm 11), .ref (gm 12), .ref (gm 13), .ref (gm 14), .int 0, .ref (gm 16), .int 0, .int 0, .int 0, .ref (gm 20), .ref (gm 21), .int 0, .int 0, .int 0, .int 0, .int 0, .int 0, .ref (gm 28), .ref (gm 29)])), (hr, .inl (kI, 2, .inl (fun _ => 0))), (gm 7, .inl (kA, 6, .inr (.inr (.inr (.inr F))))), (rr, .inl (kY, 5, .inl (fun _ => 0))), (o, .inl (kL, 1, .inr (.inl (vp_updL (fun _ => 0) 0 0))))] H := hP
  have hD : va_D (fun q : Nat => s.heap.size ≤ q) [(gn 0, .inl (kP, 6, .inr (.inr (.inr (.inr (fun _ => none)))))), (hm, .inr (12, [.int 0, .ref hr, .int 0, .int 0, .int 0, .int 0, .int 0, .ref (gm 7), .ref (gm 8), .ref (gm 9), .ref (gm 10), .ref (gm 11), .ref (gm 12), .ref (gm 13), .ref (gm 14), .int 0, .ref (gm 16), .int 0, .int 0, .int 0, .ref (gm 20), .ref (gm 21), .int 0, .int 0, .int 0, .int 0, .int 0, .int 0, .ref (gm 28), .ref (gm 29)])), (hr, .inl (kI, 2, .inl (fun _ => 0))), (gm 7, .inl (kA, 6, .inr (.inr (.inr (.inr F))))), (rr, .inl (kY, 5, .inl (fun _ => 0))), (o, .inl (kL, 1, .inr (.inl (vp_updL (fun _ => 0) 0 0))))] := hD
  obtain rfl := h_5
  refine lv_istore (lv' := [(5, .int 0), (4, .int 0), (3, .ref o), (2, .ref hm), (1, .ref h0), (0, .ref b)]) hx hb dL_law_1478 hl (by decide) rfl (fun ls hl => ?_)
  refine lv_aload_n hx hb dL_law_1480 rfl (lv_at hl 3 rfl) ?_
  refine lv_aload_n hx hb dL_law_1481 rfl (lv_at hl 5 rfl) ?_
  refine lv_iload hx hb dL_law_1482 (lv_at hl 1 rfl) ?_
  refine lv_iconst (v := 1) hx hb dL_law_1484 (by decide) ?_
  refine lv_iadd hx hb dL_law_1485 ?_
  refine lv_topi (fun x_6 ex_6 => ?_)
  obtain rfl : x_6 = 1 := ex_6.trans (by decide)
  refine va_sld hx hb hX hbl hbA hS (i := 1) (by unfold vp_in; decide) dL_law_1486 ?_
  refine W.eq (g2 := F0 m 1487 ls [.int (xs 1), .ref hm]) rfl ?_
  refine W.eq (g2 := F0 m 1487 ls [.int 4, .ref hm]) (by rw [hv]) ?_
  have f_7 := free_of (wc := [(hm, .inr (12, [.int 0, .ref hr, .int 0, .int 0, .int 0, .int 0, .int 0, .ref (gm 7), .ref (gm 8), .ref (gm 9), .ref (gm 10), .ref (gm 11), .ref (gm 12), .ref (gm 13), .ref (gm 14), .int 0, .ref (gm 16), .int 0, .int 0, .int 0, .ref (gm 20), .ref (gm 21), .int 0, .int 0, .int 0, .int 0, .int 0, .int 0, .ref (gm 28), .ref (gm 29)])), (hr, .inl (kI, 2, .inl (fun _ => 0)))]) hD hS hA [1, 2] rfl
  refine va_calli (va_runV (As := [.int 4]) (rest := []) ⟨hx, hb, hml, hown, hts⟩ (c_m_told_4 l D a1 a2 H.size hm hr gm kI) (cwV 1 hts (gV w_815 w_816 w_817 w_244 w_818) rfl rfl rfl (by decide +kernel) ⟨Nat.le_of_ble_eq_true rfl, Nat.le_of_ble_eq_true rfl⟩) (pre_V hK hP hD hS hA hE [1, 2] rfl (by decide) rfl [1] rfl (ci := 12) (q0 := 1) rfl rfl) rfl rfl hl.1 rfl (lv_room (Nat.le_of_ble_eq_true rfl)) dL_law_1487 ⟨Nat.le_of_ble_eq_true rfl, Nat.le_of_ble_eq_true rfl⟩) hS (fun q _ h => f_7 q h) f_7 (fun r_8 u_9 t H1 locs ht hvm h_10 hB hz1 hk1 hS => ?_)
  obtain ⟨hP, hD⟩ := join (wc := [(hm, .inr (12, [.int 0, .ref hr, .int 0, .int 0, .int 0, .int 0, .int 0, .ref (gm 7), .ref (gm 8), .ref (gm 9), .ref (gm 10), .ref (gm 11), .ref (gm 12), .ref (gm 13), .ref (gm 14), .int 0, .ref (gm 16), .int 0, .int 0, .int 0, .ref (gm 20), .ref (gm 21), .int 0, .int 0, .int 0, .int 0, .int 0, .int 0, .ref (gm 28), .ref (gm 29)])), (hr, .inl (kI, 2, .inl (fun _ => 0)))]) (wr := [(gn 0, .inl (kP, 6, .inr (.inr (.inr (.inr (fun _ => none)))))), (gm 7, .inl (kA, 6, .inr (.inr (.inr (.inr F))))), (rr, .inl (kY, 5, .inl (fun _ => 0))), (o, .inl (kL, 1, .inr (.inl (vp_updL (fun _ => 0) 0 0))))]) (w1 := [(hm, .inr (12, u_9))]) hP hD f_7 [1, 2] [0, 3, 4, 5] rfl rfl (by decide) (by decide) hk1 ht hB
  generalize H1 = H at hP hS ⊢
  have hP : va_P D vwCl [(gn 0, .inl (kP, 6, .inr (.inr (.inr (.inr (fun _ => none)))))), (gm 7, .inl (kA, 6, .inr (.inr (.inr (.inr F))))), (rr, .inl (kY, 5, .inl (fun _ => 0))), (o, .inl (kL, 1, .inr (.inl (vp_updL (fun _ => 0) 0 0)))), (hm, .inr (12, u_9))] H := hP
  have hD : va_D (fun q : Nat => s.heap.size ≤ q) [(gn 0, .inl (kP, 6, .inr (.inr (.inr (.inr (fun _ => none)))))), (gm 7, .inl (kA, 6, .inr (.inr (.inr (.inr F))))), (rr, .inl (kY, 5, .inl (fun _ => 0))), (o, .inl (kL, 1, .inr (.inl (vp_updL (fun _ => 0) 0 0)))), (hm, .inr (12, u_9))] := hD
  obtain ⟨rfl, h_10⟩ := h_10
  refine lv_istore (lv' := [(6, .int 0), (5, .int 0), (4, .int 0), (3, .ref o), (2, .ref hm), (1, .ref h0), (0, .ref b)]) hx hb dL_law_1490 hl (by decide) rfl (fun ls hl => ?_)
  refine lv_aload_n hx hb dL_law_1492 rfl (lv_at hl 4 rfl) ?_
  have f_11 := free_of (wc := [(hm, .inr (12, u_9))]) hD hS hA [4] rfl
  refine va_calli (va_runV (As := []) (rest := []) ⟨hx, hb, hml, hown, hts⟩ (c_thrown l D a1 a2 H.size hm u_9 0 h_10) (cwV 0 hts (gV w_458 w_459 w_460 w_244 w_461) rfl rfl rfl (by decide +kernel) ⟨Nat.le_of_ble_eq_true rfl, Nat.le_of_ble_eq_true rfl⟩) (pre_V hK hP hD hS hA hE [4] rfl (by decide) rfl [] rfl (ci := 12) (q0 := 4) rfl rfl) rfl rfl hl.1 rfl (lv_room (Nat.le_of_ble_eq_true rfl)) dL_law_1493 ⟨Nat.le_of_ble_eq_true rfl, Nat.le_of_ble_eq_true rfl⟩) hS (fun q _ h => f_11 q h) f_11 (fun r_12 u_13 t H1 locs ht hvm h_14 hB hz1 hk1 hS => ?_)
  obtain ⟨hP, hD⟩ := join (wc := [(hm, .inr (12, u_9))]) (wr := [(gn 0, .inl (kP, 6, .inr (.inr (.inr (.inr (fun _ => none)))))), (gm 7, .inl (kA, 6, .inr (.inr (.inr (.inr F))))), (rr, .inl (kY, 5, .inl (fun _ => 0))), (o, .inl (kL, 1, .inr (.inl (vp_updL (fun _ => 0) 0 0))))]) (w1 := [(hm, .inr (12, u_9))]) hP hD f_11 [4] [0, 1, 2, 3] rfl rfl (by decide) (by decide) hk1 ht hB
  generalize H1 = H at hP hS ⊢
  have hP : va_P D vwCl [(gn 0, .inl (kP, 6, .inr (.inr (.inr (.inr (fun _ => none)))))), (gm 7, .inl (kA, 6, .inr (.inr (.inr (.inr F))))), (rr, .inl (kY, 5, .inl (fun _ => 0))), (o, .inl (kL, 1, .inr (.inl (vp_updL (fun _ => 0) 0 0)))), (hm, .inr (12, u_9))] H := hP
  have hD : va_D (fun q : Nat => s.heap.size ≤ q) [(gn 0, .inl (kP, 6, .inr (.inr (.inr (.inr (fun _ => none)))))), (gm 7, .inl (kA, 6, .inr (.inr (.inr (.inr F))))), (rr, .inl (kY, 5, .inl (fun _ => 0))), (o, .inl (kL, 1, .inr (.inl (vp_updL (fun _ => 0) 0 0)))), (hm, .inr (12, u_9))] := hD
  obtain rfl := h_14
  refine lv_iload hx hb dL_law_1496 (lv_at hl 1 rfl) ?_
  refine lv_icmp_eq (tgt := 1503) hx hb dL_law_1498 (by decide) (fun _ => ?_) (fun c => absurd (by decide) c)
  refine lv_iload hx hb dL_law_1503 (lv_at hl 1 rfl) ?_
  refine lv_if_ne (tgt := 1520) hx hb dL_law_1505 (by decide) (fun c => absurd (by decide) c) (fun _ => ?_)
  refine lv_aload_n hx hb dL_law_1508 rfl (lv_at hl 3 rfl) ?_
  refine lv_iconst (v := 0) hx hb dL_law_1509 (by decide) ?_
  refine va_lald hx hb hK hP 3 4 rfl rfl (by unfold vp_in; decide) dL_law_1510 ?_
  refine W.eq (g2 := F0 m 1511 ls [.long 0]) rfl ?_
  refine lv_iload hx hb dL_law_1511 (lv_at hl 0 rfl) ?_
  refine lv_i2l (v := 0) hx hb dL_law_1513 (by decide) ?_
  refine W.lcmp hx hb dL_law_1514 ?_
  refine W.eq (g2 := F0 m 1515 ls [.int 0]) rfl ?_
  refine lv_if_eq (tgt := 1520) hx hb dL_law_1515 (by decide) (fun _ => ?_) (fun c => absurd (by decide) c)
  refine lv_goto (tgt := 3913) hx hb dL_law_1520 (by decide) ?_
  exact law_tail hx hb hr_ hlocks hX hbl hS (Nat.le_of_ble_eq_true rfl) (Nat.le_of_ble_eq_true rfl) (lv_sub hl [2, 6] rfl)
set_option maxRecDepth 100000 in
set_option maxHeartbeats 4000000 in
theorem case_16_5 {p : Program} {l : Launch} (hl9 : l.stackTraces = false) {e : Env} {s : State} {m : MethodId} {below : List Frame} {meth : Method} {c : Code} {D : va_G} {a1 a2 b : Nat} {xs : Nat → Int32} {H : Heap} {locs : List Loc} {ls : Array Slot} (h0 h1 h2 : Nat) (g gn gb : Nat → Nat) (kP : ClassId) (hm hr rr : Nat) (gm : Nat → Nat) (kI kA kY : ClassId) (F : Nat → Option Nat) (o : Nat) (kL : ClassId) (hv : xs 1 = 5) (hG : LawSt D a1 a2 p s m meth c b xs H locs ls h0 h1 h2 g gn gb kP hm hr rr gm kI kA kY F o kL) : W p l e room_1 s m #[Value.ref b] below meth c H locs 5338 65502 (lw_Z below #[Value.ref b] s) (F0 m 1467 ls []) := by
  obtain ⟨hx, hb, hr_, hml, hown, hts, hX, hbl, hlocks, hP, hK, hD, hA, hE, hS, hF, hl⟩ := hG
  have hbA : ¬ (fun q : Nat => s.heap.size ≤ q) b := Nat.not_le.mpr hbl
  refine lv_aload_n hx hb dL_law_1467 rfl (lv_at hl 3 rfl) ?_
  refine lv_aload_n hx hb dL_law_1468 rfl (lv_at hl 4 rfl) ?_
  refine lv_iload hx hb dL_law_1469 (lv_at hl 0 rfl) ?_
  refine lv_iconst (v := 1) hx hb dL_law_1471 (by decide) ?_
  refine lv_iadd hx hb dL_law_1472 ?_
  refine lv_topi (fun x_1 ex_1 => ?_)
  obtain rfl : x_1 = 1 := ex_1.trans (by decide)
  refine va_sld hx hb hX hbl hbA hS (i := 1) (by unfold vp_in; decide) dL_law_1473 ?_
  refine W.eq (g2 := F0 m 1474 ls [.int (xs 1), .ref h0]) rfl ?_
  refine W.eq (g2 := F0 m 1474 ls [.int 5, .ref h0]) (by rw [hv]) ?_
  refine lv_aload_n hx hb dL_law_1474 rfl (lv_at hl 1 rfl) ?_
  have f_2 := free_of (wc := [(h0, .inr (11, [.ref h1, .ref h2, .ref (g 2), .ref (g 3), .ref (g 4), .ref (g 5), .ref (g 6), .int 0, .int 0, .int 0, .int 0])), (h1, .inr (6, [.ref (gn 0), .int 0, .ref (gn 2), .ref (gn 3), .int 0, .ref (gn 5), .int 0, .int 0])), (h2, .inr (1, [.ref h1, .ref (gb 1), .int 0])), (o, .inl (kL, 1, .inr (.inl (fun _ => 0))))]) hD hS hA [0, 1, 2, 8] rfl
  refine vx_calli (vx_runSX (As := [.ref h0, .int 5, .ref o]) (rest := []) ⟨hx, hb, hml, hown, hts⟩ (c_h_told_5 l hl9 D a1 a2 H.size h0 h1 h2 g gn gb o kL) (vx_cwSW 3 hts (gSW w_812 w_813 w_450 w_814) rfl rfl rfl (by decide +kernel) ⟨Nat.le_of_ble_eq_true rfl, Nat.le_of_ble_eq_true rfl⟩) (pre_S hK hP hD hS hA hE [0, 1, 2, 8] rfl (by decide) rfl [4] rfl) rfl rfl hl.1 rfl (lv_room (Nat.le_of_ble_eq_true rfl)) dL_law_1475 ⟨Nat.le_of_ble_eq_true rfl, Nat.le_of_ble_eq_true rfl⟩) hS (fun q _ h => f_2 q h) f_2 (fun q _ h => f_2 q h) (fun E ce q9 u9 t H locs ht hvm hw hB hz1 hk1 hS hce hcv hcl => False.elim hw) (fun r_3 u_4 t H1 locs ht hvm h_5 hB hz1 hk1 hS => ?_)
  obtain ⟨hP, hD⟩ := join (wc := [(h0, .inr (11, [.ref h1, .ref h2, .ref (g 2), .ref (g 3), .ref (g 4), .ref (g 5), .ref (g 6), .int 0, .int 0, .int 0, .int 0])), (h1, .inr (6, [.ref (gn 0), .int 0, .ref (gn 2), .ref (gn 3), .int 0, .ref (gn 5), .int 0, .int 0])), (h2, .inr (1, [.ref h1, .ref (gb 1), .int 0])), (o, .inl (kL, 1, .inr (.inl (fun _ => 0))))]) (wr := [(gn 0, .inl (kP, 6, .inr (.inr (.inr (.inr (fun _ => none)))))), (hm, .inr (12, [.int 0, .ref hr, .int 0, .int 0, .int 0, .int 0, .int 0, .ref (gm 7), .ref (gm 8), .ref (gm 9), .ref (gm 10), .ref (gm 11), .ref (gm 12), .ref (gm 13), .ref (gm 14), .int 0, .ref (gm 16), .int 0, .int 0, .int 0, .ref (gm 20), .ref (gm 21), .int 0, .int 0, .int 0, .int 0, .int 0, .int 0, .ref (gm 28), .ref (gm 29)])), (hr, .inl (kI, 2, .inl (fun _ => 0))), (gm 7, .inl (kA, 6, .inr (.inr (.inr (.inr F))))), (rr, .inl (kY, 5, .inl (fun _ => 0)))]) (w1 := [(o, .inl (kL, 1, .inr (.inl (vp_updL (fun _ => 0) 0 0))))]) hP hD f_2 [0, 1, 2, 8] [3, 4, 5, 6, 7] rfl rfl (by decide) (by decide) hk1 ht hB
  generalize H1 = H at hP hS ⊢
  have hP : va_P D vwCl [(gn 0, .inl (kP, 6, .inr (.inr (.inr (.inr (fun _ => none)))))), (hm, .inr (12, [.int 0, .ref hr, .int 0, .int 0, .int 0, .int 0, .int 0, .ref (gm 7), .ref (gm 8), .ref (gm 9), .ref (gm 10), .ref (gm 11), .ref (gm 12), .ref (gm 13), .ref (gm 14), .int 0, .ref (gm 16), .int 0, .int 0, .int 0, .ref (gm 20), .ref (gm 21), .int 0, .int 0, .int 0, .int 0, .int 0, .int 0, .ref (gm 28), .ref (gm 29)])), (hr, .inl (kI, 2, .inl (fun _ => 0))), (gm 7, .inl (kA, 6, .inr (.inr (.inr (.inr F))))), (rr, .inl (kY, 5, .inl (fun _ => 0))), (o, .inl (kL, 1, .inr (.inl (vp_updL (fun _ => 0) 0 0))))] H := hP
  have hD : va_D (fun q : Nat => s.heap.size ≤ q) [(gn 0, .inl (kP, 6, .inr (.inr (.inr (.inr (fun _ => none)))))), (hm, .inr (12, [.int 0, .ref hr, .int 0, .int 0, .int 0, .int 0, .int 0, .ref (gm 7), .ref (gm 8), .ref (gm 9), .ref (gm 10), .ref (gm 11), .ref (gm 12), .ref (gm 13), .ref (gm 14), .int 0, .ref (gm 16), .int 0, .int 0, .int 0, .ref (gm 20), .ref (gm 21), .int 0, .int 0, .int 0, .int 0, .int 0, .int 0, .ref (gm 28), .ref (gm 29)])), (hr, .inl (kI, 2, .inl (fun _ => 0))), (gm 7, .inl (kA, 6, .inr (.inr (.inr (.inr F))))), (rr, .inl (kY, 5, .inl (fun _ => 0))), (o, .inl (kL, 1, .inr (.inl (vp_updL (fun _ => 0) 0 0))))] := hD
  obtain rfl := h_5
  refine lv_istore (lv' := [(5, .int 0), (4, .int 0), (3, .ref o), (2, .ref hm), (1, .ref h0), (0, .ref b)]) hx hb dL_law_1478 hl (by decide) rfl (fun ls hl => ?_)
  refine lv_aload_n hx hb dL_law_1480 rfl (lv_at hl 3 rfl) ?_
  refine lv_aload_n hx hb dL_law_1481 rfl (lv_at hl 5 rfl) ?_
  refine lv_iload hx hb dL_law_1482 (lv_at hl 1 rfl) ?_
  refine lv_iconst (v := 1) hx hb dL_law_1484 (by decide) ?_
  refine lv_iadd hx hb dL_law_1485 ?_
  refine lv_topi (fun x_6 ex_6 => ?_)
  obtain rfl : x_6 = 1 := ex_6.trans (by decide)
  refine va_sld hx hb hX hbl hbA hS (i := 1) (by unfold vp_in; decide) dL_law_1486 ?_
  refine W.eq (g2 := F0 m 1487 ls [.int (xs 1), .ref hm]) rfl ?_
  refine W.eq (g2 := F0 m 1487 ls [.int 5, .ref hm]) (by rw [hv]) ?_
  have f_7 := free_of (wc := [(hm, .inr (12, [.int 0, .ref hr, .int 0, .int 0, .int 0, .int 0, .int 0, .ref (gm 7), .ref (gm 8), .ref (gm 9), .ref (gm 10), .ref (gm 11), .ref (gm 12), .ref (gm 13), .ref (gm 14), .int 0, .ref (gm 16), .int 0, .int 0, .int 0, .ref (gm 20), .ref (gm 21), .int 0, .int 0, .int 0, .int 0, .int 0, .int 0, .ref (gm 28), .ref (gm 29)])), (hr, .inl (kI, 2, .inl (fun _ => 0)))]) hD hS hA [1, 2] rfl
  refine va_calli (va_runV (As := [.int 5]) (rest := []) ⟨hx, hb, hml, hown, hts⟩ (c_m_told_5 l D a1 a2 H.size hm hr gm kI) (cwV 1 hts (gV w_815 w_816 w_817 w_244 w_818) rfl rfl rfl (by decide +kernel) ⟨Nat.le_of_ble_eq_true rfl, Nat.le_of_ble_eq_true rfl⟩) (pre_V hK hP hD hS hA hE [1, 2] rfl (by decide) rfl [1] rfl (ci := 12) (q0 := 1) rfl rfl) rfl rfl hl.1 rfl (lv_room (Nat.le_of_ble_eq_true rfl)) dL_law_1487 ⟨Nat.le_of_ble_eq_true rfl, Nat.le_of_ble_eq_true rfl⟩) hS (fun q _ h => f_7 q h) f_7 (fun r_8 u_9 t H1 locs ht hvm h_10 hB hz1 hk1 hS => ?_)
  obtain ⟨hP, hD⟩ := join (wc := [(hm, .inr (12, [.int 0, .ref hr, .int 0, .int 0, .int 0, .int 0, .int 0, .ref (gm 7), .ref (gm 8), .ref (gm 9), .ref (gm 10), .ref (gm 11), .ref (gm 12), .ref (gm 13), .ref (gm 14), .int 0, .ref (gm 16), .int 0, .int 0, .int 0, .ref (gm 20), .ref (gm 21), .int 0, .int 0, .int 0, .int 0, .int 0, .int 0, .ref (gm 28), .ref (gm 29)])), (hr, .inl (kI, 2, .inl (fun _ => 0)))]) (wr := [(gn 0, .inl (kP, 6, .inr (.inr (.inr (.inr (fun _ => none)))))), (gm 7, .inl (kA, 6, .inr (.inr (.inr (.inr F))))), (rr, .inl (kY, 5, .inl (fun _ => 0))), (o, .inl (kL, 1, .inr (.inl (vp_updL (fun _ => 0) 0 0))))]) (w1 := [(hm, .inr (12, u_9))]) hP hD f_7 [1, 2] [0, 3, 4, 5] rfl rfl (by decide) (by decide) hk1 ht hB
  generalize H1 = H at hP hS ⊢
  have hP : va_P D vwCl [(gn 0, .inl (kP, 6, .inr (.inr (.inr (.inr (fun _ => none)))))), (gm 7, .inl (kA, 6, .inr (.inr (.inr (.inr F))))), (rr, .inl (kY, 5, .inl (fun _ => 0))), (o, .inl (kL, 1, .inr (.inl (vp_updL (fun _ => 0) 0 0)))), (hm, .inr (12, u_9))] H := hP
  have hD : va_D (fun q : Nat => s.heap.size ≤ q) [(gn 0, .inl (kP, 6, .inr (.inr (.inr (.inr (fun _ => none)))))), (gm 7, .inl (kA, 6, .inr (.inr (.inr (.inr F))))), (rr, .inl (kY, 5, .inl (fun _ => 0))), (o, .inl (kL, 1, .inr (.inl (vp_updL (fun _ => 0) 0 0)))), (hm, .inr (12, u_9))] := hD
  obtain ⟨rfl, h_10⟩ := h_10
  refine lv_istore (lv' := [(6, .int 0), (5, .int 0), (4, .int 0), (3, .ref o), (2, .ref hm), (1, .ref h0), (0, .ref b)]) hx hb dL_law_1490 hl (by decide) rfl (fun ls hl => ?_)
  refine lv_aload_n hx hb dL_law_1492 rfl (lv_at hl 4 rfl) ?_
  have f_11 := free_of (wc := [(hm, .inr (12, u_9))]) hD hS hA [4] rfl
  refine va_calli (va_runV (As := []) (rest := []) ⟨hx, hb, hml, hown, hts⟩ (c_thrown l D a1 a2 H.size hm u_9 0 h_10) (cwV 0 hts (gV w_458 w_459 w_460 w_244 w_461) rfl rfl rfl (by decide +kernel) ⟨Nat.le_of_ble_eq_true rfl, Nat.le_of_ble_eq_true rfl⟩) (pre_V hK hP hD hS hA hE [4] rfl (by decide) rfl [] rfl (ci := 12) (q0 := 4) rfl rfl) rfl rfl hl.1 rfl (lv_room (Nat.le_of_ble_eq_true rfl)) dL_law_1493 ⟨Nat.le_of_ble_eq_true rfl, Nat.le_of_ble_eq_true rfl⟩) hS (fun q _ h => f_11 q h) f_11 (fun r_12 u_13 t H1 locs ht hvm h_14 hB hz1 hk1 hS => ?_)
  obtain ⟨hP, hD⟩ := join (wc := [(hm, .inr (12, u_9))]) (wr := [(gn 0, .inl (kP, 6, .inr (.inr (.inr (.inr (fun _ => none)))))), (gm 7, .inl (kA, 6, .inr (.inr (.inr (.inr F))))), (rr, .inl (kY, 5, .inl (fun _ => 0))), (o, .inl (kL, 1, .inr (.inl (vp_updL (fun _ => 0) 0 0))))]) (w1 := [(hm, .inr (12, u_9))]) hP hD f_11 [4] [0, 1, 2, 3] rfl rfl (by decide) (by decide) hk1 ht hB
  generalize H1 = H at hP hS ⊢
  have hP : va_P D vwCl [(gn 0, .inl (kP, 6, .inr (.inr (.inr (.inr (fun _ => none)))))), (gm 7, .inl (kA, 6, .inr (.inr (.inr (.inr F))))), (rr, .inl (kY, 5, .inl (fun _ => 0))), (o, .inl (kL, 1, .inr (.inl (vp_updL (fun _ => 0) 0 0)))), (hm, .inr (12, u_9))] H := hP
  have hD : va_D (fun q : Nat => s.heap.size ≤ q) [(gn 0, .inl (kP, 6, .inr (.inr (.inr (.inr (fun _ => none)))))), (gm 7, .inl (kA, 6, .inr (.inr (.inr (.inr F))))), (rr, .inl (kY, 5, .inl (fun _ => 0))), (o, .inl (kL, 1, .inr (.inl (vp_updL (fun _ => 0) 0 0)))), (hm, .inr (12, u_9))] := hD
  obtain rfl := h_14
  refine lv_iload hx hb dL_law_1496 (lv_at hl 1 rfl) ?_
  refine lv_icmp_eq (tgt := 1503) hx hb dL_law_1498 (by decide) (fun _ => ?_) (fun c => absurd (by decide) c)
  refine lv_iload hx hb dL_law_1503 (lv_at hl 1 rfl) ?_
  refine lv_if_ne (tgt := 1520) hx hb dL_law_1505 (by decide) (fun c => absurd (by decide) c) (fun _ => ?_)
  refine lv_aload_n hx hb dL_law_1508 rfl (lv_at hl 3 rfl) ?_
  refine lv_iconst (v := 0) hx hb dL_law_1509 (by decide) ?_
  refine va_lald hx hb hK hP 3 4 rfl rfl (by unfold vp_in; decide) dL_law_1510 ?_
  refine W.eq (g2 := F0 m 1511 ls [.long 0]) rfl ?_
  refine lv_iload hx hb dL_law_1511 (lv_at hl 0 rfl) ?_
  refine lv_i2l (v := 0) hx hb dL_law_1513 (by decide) ?_
  refine W.lcmp hx hb dL_law_1514 ?_
  refine W.eq (g2 := F0 m 1515 ls [.int 0]) rfl ?_
  refine lv_if_eq (tgt := 1520) hx hb dL_law_1515 (by decide) (fun _ => ?_) (fun c => absurd (by decide) c)
  refine lv_goto (tgt := 3913) hx hb dL_law_1520 (by decide) ?_
  exact law_tail hx hb hr_ hlocks hX hbl hS (Nat.le_of_ble_eq_true rfl) (Nat.le_of_ble_eq_true rfl) (lv_sub hl [2, 6] rfl)
set_option maxRecDepth 100000 in
set_option maxHeartbeats 4000000 in
theorem case_16_6 {p : Program} {l : Launch} (hl9 : l.stackTraces = false) {e : Env} {s : State} {m : MethodId} {below : List Frame} {meth : Method} {c : Code} {D : va_G} {a1 a2 b : Nat} {xs : Nat → Int32} {H : Heap} {locs : List Loc} {ls : Array Slot} (h0 h1 h2 : Nat) (g gn gb : Nat → Nat) (kP : ClassId) (hm hr rr : Nat) (gm : Nat → Nat) (kI kA kY : ClassId) (F : Nat → Option Nat) (o : Nat) (kL : ClassId) (hv : xs 1 = 6) (hG : LawSt D a1 a2 p s m meth c b xs H locs ls h0 h1 h2 g gn gb kP hm hr rr gm kI kA kY F o kL) : W p l e room_1 s m #[Value.ref b] below meth c H locs 5338 65502 (lw_Z below #[Value.ref b] s) (F0 m 1467 ls []) := by
  obtain ⟨hx, hb, hr_, hml, hown, hts, hX, hbl, hlocks, hP, hK, hD, hA, hE, hS, hF, hl⟩ := hG
  have hbA : ¬ (fun q : Nat => s.heap.size ≤ q) b := Nat.not_le.mpr hbl
  refine lv_aload_n hx hb dL_law_1467 rfl (lv_at hl 3 rfl) ?_
  refine lv_aload_n hx hb dL_law_1468 rfl (lv_at hl 4 rfl) ?_
  refine lv_iload hx hb dL_law_1469 (lv_at hl 0 rfl) ?_
  refine lv_iconst (v := 1) hx hb dL_law_1471 (by decide) ?_
  refine lv_iadd hx hb dL_law_1472 ?_
  refine lv_topi (fun x_1 ex_1 => ?_)
  obtain rfl : x_1 = 1 := ex_1.trans (by decide)
  refine va_sld hx hb hX hbl hbA hS (i := 1) (by unfold vp_in; decide) dL_law_1473 ?_
  refine W.eq (g2 := F0 m 1474 ls [.int (xs 1), .ref h0]) rfl ?_
  refine W.eq (g2 := F0 m 1474 ls [.int 6, .ref h0]) (by rw [hv]) ?_
  refine lv_aload_n hx hb dL_law_1474 rfl (lv_at hl 1 rfl) ?_
  have f_2 := free_of (wc := [(h0, .inr (11, [.ref h1, .ref h2, .ref (g 2), .ref (g 3), .ref (g 4), .ref (g 5), .ref (g 6), .int 0, .int 0, .int 0, .int 0])), (h1, .inr (6, [.ref (gn 0), .int 0, .ref (gn 2), .ref (gn 3), .int 0, .ref (gn 5), .int 0, .int 0])), (h2, .inr (1, [.ref h1, .ref (gb 1), .int 0])), (o, .inl (kL, 1, .inr (.inl (fun _ => 0))))]) hD hS hA [0, 1, 2, 8] rfl
  refine vx_calli (vx_runSX (As := [.ref h0, .int 6, .ref o]) (rest := []) ⟨hx, hb, hml, hown, hts⟩ (c_h_told_6 l hl9 D a1 a2 H.size h0 h1 h2 g gn gb o kL) (vx_cwSW 3 hts (gSW w_812 w_813 w_450 w_814) rfl rfl rfl (by decide +kernel) ⟨Nat.le_of_ble_eq_true rfl, Nat.le_of_ble_eq_true rfl⟩) (pre_S hK hP hD hS hA hE [0, 1, 2, 8] rfl (by decide) rfl [4] rfl) rfl rfl hl.1 rfl (lv_room (Nat.le_of_ble_eq_true rfl)) dL_law_1475 ⟨Nat.le_of_ble_eq_true rfl, Nat.le_of_ble_eq_true rfl⟩) hS (fun q _ h => f_2 q h) f_2 (fun q _ h => f_2 q h) (fun E ce q9 u9 t H locs ht hvm hw hB hz1 hk1 hS hce hcv hcl => False.elim hw) (fun r_3 u_4 t H1 locs ht hvm h_5 hB hz1 hk1 hS => ?_)
  obtain ⟨hP, hD⟩ := join (wc := [(h0, .inr (11, [.ref h1, .ref h2, .ref (g 2), .ref (g 3), .ref (g 4), .ref (g 5), .ref (g 6), .int 0, .int 0, .int 0, .int 0])), (h1, .inr (6, [.ref (gn 0), .int 0, .ref (gn 2), .ref (gn 3), .int 0, .ref (gn 5), .int 0, .int 0])), (h2, .inr (1, [.ref h1, .ref (gb 1), .int 0])), (o, .inl (kL, 1, .inr (.inl (fun _ => 0))))]) (wr := [(gn 0, .inl (kP, 6, .inr (.inr (.inr (.inr (fun _ => none)))))), (hm, .inr (12, [.int 0, .ref hr, .int 0, .int 0, .int 0, .int 0, .int 0, .ref (gm 7), .ref (gm 8), .ref (gm 9), .ref (gm 10), .ref (gm 11), .ref (gm 12), .ref (gm 13), .ref (gm 14), .int 0, .ref (gm 16), .int 0, .int 0, .int 0, .ref (gm 20), .ref (gm 21), .int 0, .int 0, .int 0, .int 0, .int 0, .int 0, .ref (gm 28), .ref (gm 29)])), (hr, .inl (kI, 2, .inl (fun _ => 0))), (gm 7, .inl (kA, 6, .inr (.inr (.inr (.inr F))))), (rr, .inl (kY, 5, .inl (fun _ => 0)))]) (w1 := [(o, .inl (kL, 1, .inr (.inl (vp_updL (fun _ => 0) 0 0))))]) hP hD f_2 [0, 1, 2, 8] [3, 4, 5, 6, 7] rfl rfl (by decide) (by decide) hk1 ht hB
  generalize H1 = H at hP hS ⊢
  have hP : va_P D vwCl [(gn 0, .inl (kP, 6, .inr (.inr (.inr (.inr (fun _ => none)))))), (hm, .inr (12, [.int 0, .ref hr, .int 0, .int 0, .int 0, .int 0, .int 0, .ref (gm 7), .ref (gm 8), .ref (gm 9), .ref (gm 10), .ref (gm 11), .ref (gm 12), .ref (gm 13), .ref (gm 14), .int 0, .ref (gm 16), .int 0, .int 0, .int 0, .ref (gm 20), .ref (gm 21), .int 0, .int 0, .int 0, .int 0, .int 0, .int 0, .ref (gm 28), .ref (gm 29)])), (hr, .inl (kI, 2, .inl (fun _ => 0))), (gm 7, .inl (kA, 6, .inr (.inr (.inr (.inr F))))), (rr, .inl (kY, 5, .inl (fun _ => 0))), (o, .inl (kL, 1, .inr (.inl (vp_updL (fun _ => 0) 0 0))))] H := hP
  have hD : va_D (fun q : Nat => s.heap.size ≤ q) [(gn 0, .inl (kP, 6, .inr (.inr (.inr (.inr (fun _ => none)))))), (hm, .inr (12, [.int 0, .ref hr, .int 0, .int 0, .int 0, .int 0, .int 0, .ref (gm 7), .ref (gm 8), .ref (gm 9), .ref (gm 10), .ref (gm 11), .ref (gm 12), .ref (gm 13), .ref (gm 14), .int 0, .ref (gm 16), .int 0, .int 0, .int 0, .ref (gm 20), .ref (gm 21), .int 0, .int 0, .int 0, .int 0, .int 0, .int 0, .ref (gm 28), .ref (gm 29)])), (hr, .inl (kI, 2, .inl (fun _ => 0))), (gm 7, .inl (kA, 6, .inr (.inr (.inr (.inr F))))), (rr, .inl (kY, 5, .inl (fun _ => 0))), (o, .inl (kL, 1, .inr (.inl (vp_updL (fun _ => 0) 0 0))))] := hD
  obtain rfl := h_5
  refine lv_istore (lv' := [(5, .int 0), (4, .int 0), (3, .ref o), (2, .ref hm), (1, .ref h0), (0, .ref b)]) hx hb dL_law_1478 hl (by decide) rfl (fun ls hl => ?_)
  refine lv_aload_n hx hb dL_law_1480 rfl (lv_at hl 3 rfl) ?_
  refine lv_aload_n hx hb dL_law_1481 rfl (lv_at hl 5 rfl) ?_
  refine lv_iload hx hb dL_law_1482 (lv_at hl 1 rfl) ?_
  refine lv_iconst (v := 1) hx hb dL_law_1484 (by decide) ?_
  refine lv_iadd hx hb dL_law_1485 ?_
  refine lv_topi (fun x_6 ex_6 => ?_)
  obtain rfl : x_6 = 1 := ex_6.trans (by decide)
  refine va_sld hx hb hX hbl hbA hS (i := 1) (by unfold vp_in; decide) dL_law_1486 ?_
  refine W.eq (g2 := F0 m 1487 ls [.int (xs 1), .ref hm]) rfl ?_
  refine W.eq (g2 := F0 m 1487 ls [.int 6, .ref hm]) (by rw [hv]) ?_
  have f_7 := free_of (wc := [(hm, .inr (12, [.int 0, .ref hr, .int 0, .int 0, .int 0, .int 0, .int 0, .ref (gm 7), .ref (gm 8), .ref (gm 9), .ref (gm 10), .ref (gm 11), .ref (gm 12), .ref (gm 13), .ref (gm 14), .int 0, .ref (gm 16), .int 0, .int 0, .int 0, .ref (gm 20), .ref (gm 21), .int 0, .int 0, .int 0, .int 0, .int 0, .int 0, .ref (gm 28), .ref (gm 29)])), (hr, .inl (kI, 2, .inl (fun _ => 0)))]) hD hS hA [1, 2] rfl
  refine va_calli (va_runV (As := [.int 6]) (rest := []) ⟨hx, hb, hml, hown, hts⟩ (c_m_told_6 l D a1 a2 H.size hm hr gm kI) (cwV 1 hts (gV w_815 w_816 w_817 w_244 w_818) rfl rfl rfl (by decide +kernel) ⟨Nat.le_of_ble_eq_true rfl, Nat.le_of_ble_eq_true rfl⟩) (pre_V hK hP hD hS hA hE [1, 2] rfl (by decide) rfl [1] rfl (ci := 12) (q0 := 1) rfl rfl) rfl rfl hl.1 rfl (lv_room (Nat.le_of_ble_eq_true rfl)) dL_law_1487 ⟨Nat.le_of_ble_eq_true rfl, Nat.le_of_ble_eq_true rfl⟩) hS (fun q _ h => f_7 q h) f_7 (fun r_8 u_9 t H1 locs ht hvm h_10 hB hz1 hk1 hS => ?_)
  obtain ⟨hP, hD⟩ := join (wc := [(hm, .inr (12, [.int 0, .ref hr, .int 0, .int 0, .int 0, .int 0, .int 0, .ref (gm 7), .ref (gm 8), .ref (gm 9), .ref (gm 10), .ref (gm 11), .ref (gm 12), .ref (gm 13), .ref (gm 14), .int 0, .ref (gm 16), .int 0, .int 0, .int 0, .ref (gm 20), .ref (gm 21), .int 0, .int 0, .int 0, .int 0, .int 0, .int 0, .ref (gm 28), .ref (gm 29)])), (hr, .inl (kI, 2, .inl (fun _ => 0)))]) (wr := [(gn 0, .inl (kP, 6, .inr (.inr (.inr (.inr (fun _ => none)))))), (gm 7, .inl (kA, 6, .inr (.inr (.inr (.inr F))))), (rr, .inl (kY, 5, .inl (fun _ => 0))), (o, .inl (kL, 1, .inr (.inl (vp_updL (fun _ => 0) 0 0))))]) (w1 := [(hm, .inr (12, u_9))]) hP hD f_7 [1, 2] [0, 3, 4, 5] rfl rfl (by decide) (by decide) hk1 ht hB
  generalize H1 = H at hP hS ⊢
  have hP : va_P D vwCl [(gn 0, .inl (kP, 6, .inr (.inr (.inr (.inr (fun _ => none)))))), (gm 7, .inl (kA, 6, .inr (.inr (.inr (.inr F))))), (rr, .inl (kY, 5, .inl (fun _ => 0))), (o, .inl (kL, 1, .inr (.inl (vp_updL (fun _ => 0) 0 0)))), (hm, .inr (12, u_9))] H := hP
  have hD : va_D (fun q : Nat => s.heap.size ≤ q) [(gn 0, .inl (kP, 6, .inr (.inr (.inr (.inr (fun _ => none)))))), (gm 7, .inl (kA, 6, .inr (.inr (.inr (.inr F))))), (rr, .inl (kY, 5, .inl (fun _ => 0))), (o, .inl (kL, 1, .inr (.inl (vp_updL (fun _ => 0) 0 0)))), (hm, .inr (12, u_9))] := hD
  obtain ⟨rfl, h_10⟩ := h_10
  refine lv_istore (lv' := [(6, .int 0), (5, .int 0), (4, .int 0), (3, .ref o), (2, .ref hm), (1, .ref h0), (0, .ref b)]) hx hb dL_law_1490 hl (by decide) rfl (fun ls hl => ?_)
  refine lv_aload_n hx hb dL_law_1492 rfl (lv_at hl 4 rfl) ?_
  have f_11 := free_of (wc := [(hm, .inr (12, u_9))]) hD hS hA [4] rfl
  refine va_calli (va_runV (As := []) (rest := []) ⟨hx, hb, hml, hown, hts⟩ (c_thrown l D a1 a2 H.size hm u_9 0 h_10) (cwV 0 hts (gV w_458 w_459 w_460 w_244 w_461) rfl rfl rfl (by decide +kernel) ⟨Nat.le_of_ble_eq_true rfl, Nat.le_of_ble_eq_true rfl⟩) (pre_V hK hP hD hS hA hE [4] rfl (by decide) rfl [] rfl (ci := 12) (q0 := 4) rfl rfl) rfl rfl hl.1 rfl (lv_room (Nat.le_of_ble_eq_true rfl)) dL_law_1493 ⟨Nat.le_of_ble_eq_true rfl, Nat.le_of_ble_eq_true rfl⟩) hS (fun q _ h => f_11 q h) f_11 (fun r_12 u_13 t H1 locs ht hvm h_14 hB hz1 hk1 hS => ?_)
  obtain ⟨hP, hD⟩ := join (wc := [(hm, .inr (12, u_9))]) (wr := [(gn 0, .inl (kP, 6, .inr (.inr (.inr (.inr (fun _ => none)))))), (gm 7, .inl (kA, 6, .inr (.inr (.inr (.inr F))))), (rr, .inl (kY, 5, .inl (fun _ => 0))), (o, .inl (kL, 1, .inr (.inl (vp_updL (fun _ => 0) 0 0))))]) (w1 := [(hm, .inr (12, u_9))]) hP hD f_11 [4] [0, 1, 2, 3] rfl rfl (by decide) (by decide) hk1 ht hB
  generalize H1 = H at hP hS ⊢
  have hP : va_P D vwCl [(gn 0, .inl (kP, 6, .inr (.inr (.inr (.inr (fun _ => none)))))), (gm 7, .inl (kA, 6, .inr (.inr (.inr (.inr F))))), (rr, .inl (kY, 5, .inl (fun _ => 0))), (o, .inl (kL, 1, .inr (.inl (vp_updL (fun _ => 0) 0 0)))), (hm, .inr (12, u_9))] H := hP
  have hD : va_D (fun q : Nat => s.heap.size ≤ q) [(gn 0, .inl (kP, 6, .inr (.inr (.inr (.inr (fun _ => none)))))), (gm 7, .inl (kA, 6, .inr (.inr (.inr (.inr F))))), (rr, .inl (kY, 5, .inl (fun _ => 0))), (o, .inl (kL, 1, .inr (.inl (vp_updL (fun _ => 0) 0 0)))), (hm, .inr (12, u_9))] := hD
  obtain rfl := h_14
  refine lv_iload hx hb dL_law_1496 (lv_at hl 1 rfl) ?_
  refine lv_icmp_eq (tgt := 1503) hx hb dL_law_1498 (by decide) (fun _ => ?_) (fun c => absurd (by decide) c)
  refine lv_iload hx hb dL_law_1503 (lv_at hl 1 rfl) ?_
  refine lv_if_ne (tgt := 1520) hx hb dL_law_1505 (by decide) (fun c => absurd (by decide) c) (fun _ => ?_)
  refine lv_aload_n hx hb dL_law_1508 rfl (lv_at hl 3 rfl) ?_
  refine lv_iconst (v := 0) hx hb dL_law_1509 (by decide) ?_
  refine va_lald hx hb hK hP 3 4 rfl rfl (by unfold vp_in; decide) dL_law_1510 ?_
  refine W.eq (g2 := F0 m 1511 ls [.long 0]) rfl ?_
  refine lv_iload hx hb dL_law_1511 (lv_at hl 0 rfl) ?_
  refine lv_i2l (v := 0) hx hb dL_law_1513 (by decide) ?_
  refine W.lcmp hx hb dL_law_1514 ?_
  refine W.eq (g2 := F0 m 1515 ls [.int 0]) rfl ?_
  refine lv_if_eq (tgt := 1520) hx hb dL_law_1515 (by decide) (fun _ => ?_) (fun c => absurd (by decide) c)
  refine lv_goto (tgt := 3913) hx hb dL_law_1520 (by decide) ?_
  exact law_tail hx hb hr_ hlocks hX hbl hS (Nat.le_of_ble_eq_true rfl) (Nat.le_of_ble_eq_true rfl) (lv_sub hl [2, 6] rfl)
set_option maxRecDepth 100000 in
set_option maxHeartbeats 4000000 in
theorem case_16_7 {p : Program} {l : Launch} (hl9 : l.stackTraces = false) {e : Env} {s : State} {m : MethodId} {below : List Frame} {meth : Method} {c : Code} {D : va_G} {a1 a2 b : Nat} {xs : Nat → Int32} {H : Heap} {locs : List Loc} {ls : Array Slot} (h0 h1 h2 : Nat) (g gn gb : Nat → Nat) (kP : ClassId) (hm hr rr : Nat) (gm : Nat → Nat) (kI kA kY : ClassId) (F : Nat → Option Nat) (o : Nat) (kL : ClassId) (hv : xs 1 = 7) (hG : LawSt D a1 a2 p s m meth c b xs H locs ls h0 h1 h2 g gn gb kP hm hr rr gm kI kA kY F o kL) : W p l e room_1 s m #[Value.ref b] below meth c H locs 5338 65502 (lw_Z below #[Value.ref b] s) (F0 m 1467 ls []) := by
  obtain ⟨hx, hb, hr_, hml, hown, hts, hX, hbl, hlocks, hP, hK, hD, hA, hE, hS, hF, hl⟩ := hG
  have hbA : ¬ (fun q : Nat => s.heap.size ≤ q) b := Nat.not_le.mpr hbl
  refine lv_aload_n hx hb dL_law_1467 rfl (lv_at hl 3 rfl) ?_
  refine lv_aload_n hx hb dL_law_1468 rfl (lv_at hl 4 rfl) ?_
  refine lv_iload hx hb dL_law_1469 (lv_at hl 0 rfl) ?_
  refine lv_iconst (v := 1) hx hb dL_law_1471 (by decide) ?_
  refine lv_iadd hx hb dL_law_1472 ?_
  refine lv_topi (fun x_1 ex_1 => ?_)
  obtain rfl : x_1 = 1 := ex_1.trans (by decide)
  refine va_sld hx hb hX hbl hbA hS (i := 1) (by unfold vp_in; decide) dL_law_1473 ?_
  refine W.eq (g2 := F0 m 1474 ls [.int (xs 1), .ref h0]) rfl ?_
  refine W.eq (g2 := F0 m 1474 ls [.int 7, .ref h0]) (by rw [hv]) ?_
  refine lv_aload_n hx hb dL_law_1474 rfl (lv_at hl 1 rfl) ?_
  have f_2 := free_of (wc := [(h0, .inr (11, [.ref h1, .ref h2, .ref (g 2), .ref (g 3), .ref (g 4), .ref (g 5), .ref (g 6), .int 0, .int 0, .int 0, .int 0])), (h1, .inr (6, [.ref (gn 0), .int 0, .ref (gn 2), .ref (gn 3), .int 0, .ref (gn 5), .int 0, .int 0])), (h2, .inr (1, [.ref h1, .ref (gb 1), .int 0])), (o, .inl (kL, 1, .inr (.inl (fun _ => 0))))]) hD hS hA [0, 1, 2, 8] rfl
  refine vx_calli (vx_runSX (As := [.ref h0, .int 7, .ref o]) (rest := []) ⟨hx, hb, hml, hown, hts⟩ (c_h_told_7 l hl9 D a1 a2 H.size h0 h1 h2 g gn gb o kL) (vx_cwSW 3 hts (gSW w_812 w_813 w_450 w_814) rfl rfl rfl (by decide +kernel) ⟨Nat.le_of_ble_eq_true rfl, Nat.le_of_ble_eq_true rfl⟩) (pre_S hK hP hD hS hA hE [0, 1, 2, 8] rfl (by decide) rfl [4] rfl) rfl rfl hl.1 rfl (lv_room (Nat.le_of_ble_eq_true rfl)) dL_law_1475 ⟨Nat.le_of_ble_eq_true rfl, Nat.le_of_ble_eq_true rfl⟩) hS (fun q _ h => f_2 q h) f_2 (fun q _ h => f_2 q h) (fun E ce q9 u9 t H locs ht hvm hw hB hz1 hk1 hS hce hcv hcl => False.elim hw) (fun r_3 u_4 t H1 locs ht hvm h_5 hB hz1 hk1 hS => ?_)
  obtain ⟨hP, hD⟩ := join (wc := [(h0, .inr (11, [.ref h1, .ref h2, .ref (g 2), .ref (g 3), .ref (g 4), .ref (g 5), .ref (g 6), .int 0, .int 0, .int 0, .int 0])), (h1, .inr (6, [.ref (gn 0), .int 0, .ref (gn 2), .ref (gn 3), .int 0, .ref (gn 5), .int 0, .int 0])), (h2, .inr (1, [.ref h1, .ref (gb 1), .int 0])), (o, .inl (kL, 1, .inr (.inl (fun _ => 0))))]) (wr := [(gn 0, .inl (kP, 6, .inr (.inr (.inr (.inr (fun _ => none)))))), (hm, .inr (12, [.int 0, .ref hr, .int 0, .int 0, .int 0, .int 0, .int 0, .ref (gm 7), .ref (gm 8), .ref (gm 9), .ref (gm 10), .ref (gm 11), .ref (gm 12), .ref (gm 13), .ref (gm 14), .int 0, .ref (gm 16), .int 0, .int 0, .int 0, .ref (gm 20), .ref (gm 21), .int 0, .int 0, .int 0, .int 0, .int 0, .int 0, .ref (gm 28), .ref (gm 29)])), (hr, .inl (kI, 2, .inl (fun _ => 0))), (gm 7, .inl (kA, 6, .inr (.inr (.inr (.inr F))))), (rr, .inl (kY, 5, .inl (fun _ => 0)))]) (w1 := [(o, .inl (kL, 1, .inr (.inl (vp_updL (fun _ => 0) 0 0))))]) hP hD f_2 [0, 1, 2, 8] [3, 4, 5, 6, 7] rfl rfl (by decide) (by decide) hk1 ht hB
  generalize H1 = H at hP hS ⊢
  have hP : va_P D vwCl [(gn 0, .inl (kP, 6, .inr (.inr (.inr (.inr (fun _ => none)))))), (hm, .inr (12, [.int 0, .ref hr, .int 0, .int 0, .int 0, .int 0, .int 0, .ref (gm 7), .ref (gm 8), .ref (gm 9), .ref (gm 10), .ref (gm 11), .ref (gm 12), .ref (gm 13), .ref (gm 14), .int 0, .ref (gm 16), .int 0, .int 0, .int 0, .ref (gm 20), .ref (gm 21), .int 0, .int 0, .int 0, .int 0, .int 0, .int 0, .ref (gm 28), .ref (gm 29)])), (hr, .inl (kI, 2, .inl (fun _ => 0))), (gm 7, .inl (kA, 6, .inr (.inr (.inr (.inr F))))), (rr, .inl (kY, 5, .inl (fun _ => 0))), (o, .inl (kL, 1, .inr (.inl (vp_updL (fun _ => 0) 0 0))))] H := hP
  have hD : va_D (fun q : Nat => s.heap.size ≤ q) [(gn 0, .inl (kP, 6, .inr (.inr (.inr (.inr (fun _ => none)))))), (hm, .inr (12, [.int 0, .ref hr, .int 0, .int 0, .int 0, .int 0, .int 0, .ref (gm 7), .ref (gm 8), .ref (gm 9), .ref (gm 10), .ref (gm 11), .ref (gm 12), .ref (gm 13), .ref (gm 14), .int 0, .ref (gm 16), .int 0, .int 0, .int 0, .ref (gm 20), .ref (gm 21), .int 0, .int 0, .int 0, .int 0, .int 0, .int 0, .ref (gm 28), .ref (gm 29)])), (hr, .inl (kI, 2, .inl (fun _ => 0))), (gm 7, .inl (kA, 6, .inr (.inr (.inr (.inr F))))), (rr, .inl (kY, 5, .inl (fun _ => 0))), (o, .inl (kL, 1, .inr (.inl (vp_updL (fun _ => 0) 0 0))))] := hD
  obtain rfl := h_5
  refine lv_istore (lv' := [(5, .int 0), (4, .int 0), (3, .ref o), (2, .ref hm), (1, .ref h0), (0, .ref b)]) hx hb dL_law_1478 hl (by decide) rfl (fun ls hl => ?_)
  refine lv_aload_n hx hb dL_law_1480 rfl (lv_at hl 3 rfl) ?_
  refine lv_aload_n hx hb dL_law_1481 rfl (lv_at hl 5 rfl) ?_
  refine lv_iload hx hb dL_law_1482 (lv_at hl 1 rfl) ?_
  refine lv_iconst (v := 1) hx hb dL_law_1484 (by decide) ?_
  refine lv_iadd hx hb dL_law_1485 ?_
  refine lv_topi (fun x_6 ex_6 => ?_)
  obtain rfl : x_6 = 1 := ex_6.trans (by decide)
  refine va_sld hx hb hX hbl hbA hS (i := 1) (by unfold vp_in; decide) dL_law_1486 ?_
  refine W.eq (g2 := F0 m 1487 ls [.int (xs 1), .ref hm]) rfl ?_
  refine W.eq (g2 := F0 m 1487 ls [.int 7, .ref hm]) (by rw [hv]) ?_
  have f_7 := free_of (wc := [(hm, .inr (12, [.int 0, .ref hr, .int 0, .int 0, .int 0, .int 0, .int 0, .ref (gm 7), .ref (gm 8), .ref (gm 9), .ref (gm 10), .ref (gm 11), .ref (gm 12), .ref (gm 13), .ref (gm 14), .int 0, .ref (gm 16), .int 0, .int 0, .int 0, .ref (gm 20), .ref (gm 21), .int 0, .int 0, .int 0, .int 0, .int 0, .int 0, .ref (gm 28), .ref (gm 29)])), (hr, .inl (kI, 2, .inl (fun _ => 0)))]) hD hS hA [1, 2] rfl
  refine va_calli (va_runV (As := [.int 7]) (rest := []) ⟨hx, hb, hml, hown, hts⟩ (c_m_told_7 l D a1 a2 H.size hm hr gm kI) (cwV 1 hts (gV w_815 w_816 w_817 w_244 w_818) rfl rfl rfl (by decide +kernel) ⟨Nat.le_of_ble_eq_true rfl, Nat.le_of_ble_eq_true rfl⟩) (pre_V hK hP hD hS hA hE [1, 2] rfl (by decide) rfl [1] rfl (ci := 12) (q0 := 1) rfl rfl) rfl rfl hl.1 rfl (lv_room (Nat.le_of_ble_eq_true rfl)) dL_law_1487 ⟨Nat.le_of_ble_eq_true rfl, Nat.le_of_ble_eq_true rfl⟩) hS (fun q _ h => f_7 q h) f_7 (fun r_8 u_9 t H1 locs ht hvm h_10 hB hz1 hk1 hS => ?_)
  obtain ⟨hP, hD⟩ := join (wc := [(hm, .inr (12, [.int 0, .ref hr, .int 0, .int 0, .int 0, .int 0, .int 0, .ref (gm 7), .ref (gm 8), .ref (gm 9), .ref (gm 10), .ref (gm 11), .ref (gm 12), .ref (gm 13), .ref (gm 14), .int 0, .ref (gm 16), .int 0, .int 0, .int 0, .ref (gm 20), .ref (gm 21), .int 0, .int 0, .int 0, .int 0, .int 0, .int 0, .ref (gm 28), .ref (gm 29)])), (hr, .inl (kI, 2, .inl (fun _ => 0)))]) (wr := [(gn 0, .inl (kP, 6, .inr (.inr (.inr (.inr (fun _ => none)))))), (gm 7, .inl (kA, 6, .inr (.inr (.inr (.inr F))))), (rr, .inl (kY, 5, .inl (fun _ => 0))), (o, .inl (kL, 1, .inr (.inl (vp_updL (fun _ => 0) 0 0))))]) (w1 := [(hm, .inr (12, u_9))]) hP hD f_7 [1, 2] [0, 3, 4, 5] rfl rfl (by decide) (by decide) hk1 ht hB
  generalize H1 = H at hP hS ⊢
  have hP : va_P D vwCl [(gn 0, .inl (kP, 6, .inr (.inr (.inr (.inr (fun _ => none)))))), (gm 7, .inl (kA, 6, .inr (.inr (.inr (.inr F))))), (rr, .inl (kY, 5, .inl (fun _ => 0))), (o, .inl (kL, 1, .inr (.inl (vp_updL (fun _ => 0) 0 0)))), (hm, .inr (12, u_9))] H := hP
  have hD : va_D (fun q : Nat => s.heap.size ≤ q) [(gn 0, .inl (kP, 6, .inr (.inr (.inr (.inr (fun _ => none)))))), (gm 7, .inl (kA, 6, .inr (.inr (.inr (.inr F))))), (rr, .inl (kY, 5, .inl (fun _ => 0))), (o, .inl (kL, 1, .inr (.inl (vp_updL (fun _ => 0) 0 0)))), (hm, .inr (12, u_9))] := hD
  obtain ⟨rfl, h_10⟩ := h_10
  refine lv_istore (lv' := [(6, .int 0), (5, .int 0), (4, .int 0), (3, .ref o), (2, .ref hm), (1, .ref h0), (0, .ref b)]) hx hb dL_law_1490 hl (by decide) rfl (fun ls hl => ?_)
  refine lv_aload_n hx hb dL_law_1492 rfl (lv_at hl 4 rfl) ?_
  have f_11 := free_of (wc := [(hm, .inr (12, u_9))]) hD hS hA [4] rfl
  refine va_calli (va_runV (As := []) (rest := []) ⟨hx, hb, hml, hown, hts⟩ (c_thrown l D a1 a2 H.size hm u_9 0 h_10) (cwV 0 hts (gV w_458 w_459 w_460 w_244 w_461) rfl rfl rfl (by decide +kernel) ⟨Nat.le_of_ble_eq_true rfl, Nat.le_of_ble_eq_true rfl⟩) (pre_V hK hP hD hS hA hE [4] rfl (by decide) rfl [] rfl (ci := 12) (q0 := 4) rfl rfl) rfl rfl hl.1 rfl (lv_room (Nat.le_of_ble_eq_true rfl)) dL_law_1493 ⟨Nat.le_of_ble_eq_true rfl, Nat.le_of_ble_eq_true rfl⟩) hS (fun q _ h => f_11 q h) f_11 (fun r_12 u_13 t H1 locs ht hvm h_14 hB hz1 hk1 hS => ?_)
  obtain ⟨hP, hD⟩ := join (wc := [(hm, .inr (12, u_9))]) (wr := [(gn 0, .inl (kP, 6, .inr (.inr (.inr (.inr (fun _ => none)))))), (gm 7, .inl (kA, 6, .inr (.inr (.inr (.inr F))))), (rr, .inl (kY, 5, .inl (fun _ => 0))), (o, .inl (kL, 1, .inr (.inl (vp_updL (fun _ => 0) 0 0))))]) (w1 := [(hm, .inr (12, u_9))]) hP hD f_11 [4] [0, 1, 2, 3] rfl rfl (by decide) (by decide) hk1 ht hB
  generalize H1 = H at hP hS ⊢
  have hP : va_P D vwCl [(gn 0, .inl (kP, 6, .inr (.inr (.inr (.inr (fun _ => none)))))), (gm 7, .inl (kA, 6, .inr (.inr (.inr (.inr F))))), (rr, .inl (kY, 5, .inl (fun _ => 0))), (o, .inl (kL, 1, .inr (.inl (vp_updL (fun _ => 0) 0 0)))), (hm, .inr (12, u_9))] H := hP
  have hD : va_D (fun q : Nat => s.heap.size ≤ q) [(gn 0, .inl (kP, 6, .inr (.inr (.inr (.inr (fun _ => none)))))), (gm 7, .inl (kA, 6, .inr (.inr (.inr (.inr F))))), (rr, .inl (kY, 5, .inl (fun _ => 0))), (o, .inl (kL, 1, .inr (.inl (vp_updL (fun _ => 0) 0 0)))), (hm, .inr (12, u_9))] := hD
  obtain rfl := h_14
  refine lv_iload hx hb dL_law_1496 (lv_at hl 1 rfl) ?_
  refine lv_icmp_eq (tgt := 1503) hx hb dL_law_1498 (by decide) (fun _ => ?_) (fun c => absurd (by decide) c)
  refine lv_iload hx hb dL_law_1503 (lv_at hl 1 rfl) ?_
  refine lv_if_ne (tgt := 1520) hx hb dL_law_1505 (by decide) (fun c => absurd (by decide) c) (fun _ => ?_)
  refine lv_aload_n hx hb dL_law_1508 rfl (lv_at hl 3 rfl) ?_
  refine lv_iconst (v := 0) hx hb dL_law_1509 (by decide) ?_
  refine va_lald hx hb hK hP 3 4 rfl rfl (by unfold vp_in; decide) dL_law_1510 ?_
  refine W.eq (g2 := F0 m 1511 ls [.long 0]) rfl ?_
  refine lv_iload hx hb dL_law_1511 (lv_at hl 0 rfl) ?_
  refine lv_i2l (v := 0) hx hb dL_law_1513 (by decide) ?_
  refine W.lcmp hx hb dL_law_1514 ?_
  refine W.eq (g2 := F0 m 1515 ls [.int 0]) rfl ?_
  refine lv_if_eq (tgt := 1520) hx hb dL_law_1515 (by decide) (fun _ => ?_) (fun c => absurd (by decide) c)
  refine lv_goto (tgt := 3913) hx hb dL_law_1520 (by decide) ?_
  exact law_tail hx hb hr_ hlocks hX hbl hS (Nat.le_of_ble_eq_true rfl) (Nat.le_of_ble_eq_true rfl) (lv_sub hl [2, 6] rfl)
set_option maxRecDepth 100000 in
set_option maxHeartbeats 4000000 in
theorem case_16_8 {p : Program} {l : Launch} (hl9 : l.stackTraces = false) {e : Env} {s : State} {m : MethodId} {below : List Frame} {meth : Method} {c : Code} {D : va_G} {a1 a2 b : Nat} {xs : Nat → Int32} {H : Heap} {locs : List Loc} {ls : Array Slot} (h0 h1 h2 : Nat) (g gn gb : Nat → Nat) (kP : ClassId) (hm hr rr : Nat) (gm : Nat → Nat) (kI kA kY : ClassId) (F : Nat → Option Nat) (o : Nat) (kL : ClassId) (hv : xs 1 = 8) (hG : LawSt D a1 a2 p s m meth c b xs H locs ls h0 h1 h2 g gn gb kP hm hr rr gm kI kA kY F o kL) : W p l e room_1 s m #[Value.ref b] below meth c H locs 5338 65502 (lw_Z below #[Value.ref b] s) (F0 m 1467 ls []) := by
  obtain ⟨hx, hb, hr_, hml, hown, hts, hX, hbl, hlocks, hP, hK, hD, hA, hE, hS, hF, hl⟩ := hG
  have hbA : ¬ (fun q : Nat => s.heap.size ≤ q) b := Nat.not_le.mpr hbl
  refine lv_aload_n hx hb dL_law_1467 rfl (lv_at hl 3 rfl) ?_
  refine lv_aload_n hx hb dL_law_1468 rfl (lv_at hl 4 rfl) ?_
  refine lv_iload hx hb dL_law_1469 (lv_at hl 0 rfl) ?_
  refine lv_iconst (v := 1) hx hb dL_law_1471 (by decide) ?_
  refine lv_iadd hx hb dL_law_1472 ?_
  refine lv_topi (fun x_1 ex_1 => ?_)
  obtain rfl : x_1 = 1 := ex_1.trans (by decide)
  refine va_sld hx hb hX hbl hbA hS (i := 1) (by unfold vp_in; decide) dL_law_1473 ?_
  refine W.eq (g2 := F0 m 1474 ls [.int (xs 1), .ref h0]) rfl ?_
  refine W.eq (g2 := F0 m 1474 ls [.int 8, .ref h0]) (by rw [hv]) ?_
  refine lv_aload_n hx hb dL_law_1474 rfl (lv_at hl 1 rfl) ?_
  have f_2 := free_of (wc := [(h0, .inr (11, [.ref h1, .ref h2, .ref (g 2), .ref (g 3), .ref (g 4), .ref (g 5), .ref (g 6), .int 0, .int 0, .int 0, .int 0])), (h1, .inr (6, [.ref (gn 0), .int 0, .ref (gn 2), .ref (gn 3), .int 0, .ref (gn 5), .int 0, .int 0])), (h2, .inr (1, [.ref h1, .ref (gb 1), .int 0])), (o, .inl (kL, 1, .inr (.inl (fun _ => 0))))]) hD hS hA [0, 1, 2, 8] rfl
  refine vx_calli (vx_runSX (As := [.ref h0, .int 8, .ref o]) (rest := []) ⟨hx, hb, hml, hown, hts⟩ (c_h_told_8 l hl9 D a1 a2 H.size h0 h1 h2 g gn gb o kL) (vx_cwSW 3 hts (gSW w_812 w_813 w_450 w_814) rfl rfl rfl (by decide +kernel) ⟨Nat.le_of_ble_eq_true rfl, Nat.le_of_ble_eq_true rfl⟩) (pre_S hK hP hD hS hA hE [0, 1, 2, 8] rfl (by decide) rfl [4] rfl) rfl rfl hl.1 rfl (lv_room (Nat.le_of_ble_eq_true rfl)) dL_law_1475 ⟨Nat.le_of_ble_eq_true rfl, Nat.le_of_ble_eq_true rfl⟩) hS (fun q _ h => f_2 q h) f_2 (fun q _ h => f_2 q h) (fun E ce q9 u9 t H locs ht hvm hw hB hz1 hk1 hS hce hcv hcl => False.elim hw) (fun r_3 u_4 t H1 locs ht hvm h_5 hB hz1 hk1 hS => ?_)
  obtain ⟨hP, hD⟩ := join (wc := [(h0, .inr (11, [.ref h1, .ref h2, .ref (g 2), .ref (g 3), .ref (g 4), .ref (g 5), .ref (g 6), .int 0, .int 0, .int 0, .int 0])), (h1, .inr (6, [.ref (gn 0), .int 0, .ref (gn 2), .ref (gn 3), .int 0, .ref (gn 5), .int 0, .int 0])), (h2, .inr (1, [.ref h1, .ref (gb 1), .int 0])), (o, .inl (kL, 1, .inr (.inl (fun _ => 0))))]) (wr := [(gn 0, .inl (kP, 6, .inr (.inr (.inr (.inr (fun _ => none)))))), (hm, .inr (12, [.int 0, .ref hr, .int 0, .int 0, .int 0, .int 0, .int 0, .ref (gm 7), .ref (gm 8), .ref (gm 9), .ref (gm 10), .ref (gm 11), .ref (gm 12), .ref (gm 13), .ref (gm 14), .int 0, .ref (gm 16), .int 0, .int 0, .int 0, .ref (gm 20), .ref (gm 21), .int 0, .int 0, .int 0, .int 0, .int 0, .int 0, .ref (gm 28), .ref (gm 29)])), (hr, .inl (kI, 2, .inl (fun _ => 0))), (gm 7, .inl (kA, 6, .inr (.inr (.inr (.inr F))))), (rr, .inl (kY, 5, .inl (fun _ => 0)))]) (w1 := [(o, .inl (kL, 1, .inr (.inl (vp_updL (fun _ => 0) 0 0))))]) hP hD f_2 [0, 1, 2, 8] [3, 4, 5, 6, 7] rfl rfl (by decide) (by decide) hk1 ht hB
  generalize H1 = H at hP hS ⊢
  have hP : va_P D vwCl [(gn 0, .inl (kP, 6, .inr (.inr (.inr (.inr (fun _ => none)))))), (hm, .inr (12, [.int 0, .ref hr, .int 0, .int 0, .int 0, .int 0, .int 0, .ref (gm 7), .ref (gm 8), .ref (gm 9), .ref (gm 10), .ref (gm 11), .ref (gm 12), .ref (gm 13), .ref (gm 14), .int 0, .ref (gm 16), .int 0, .int 0, .int 0, .ref (gm 20), .ref (gm 21), .int 0, .int 0, .int 0, .int 0, .int 0, .int 0, .ref (gm 28), .ref (gm 29)])), (hr, .inl (kI, 2, .inl (fun _ => 0))), (gm 7, .inl (kA, 6, .inr (.inr (.inr (.inr F))))), (rr, .inl (kY, 5, .inl (fun _ => 0))), (o, .inl (kL, 1, .inr (.inl (vp_updL (fun _ => 0) 0 0))))] H := hP
  have hD : va_D (fun q : Nat => s.heap.size ≤ q) [(gn 0, .inl (kP, 6, .inr (.inr (.inr (.inr (fun _ => none)))))), (hm, .inr (12, [.int 0, .ref hr, .int 0, .int 0, .int 0, .int 0, .int 0, .ref (gm 7), .ref (gm 8), .ref (gm 9), .ref (gm 10), .ref (gm 11), .ref (gm 12), .ref (gm 13), .ref (gm 14), .int 0, .ref (gm 16), .int 0, .int 0, .int 0, .ref (gm 20), .ref (gm 21), .int 0, .int 0, .int 0, .int 0, .int 0, .int 0, .ref (gm 28), .ref (gm 29)])), (hr, .inl (kI, 2, .inl (fun _ => 0))), (gm 7, .inl (kA, 6, .inr (.inr (.inr (.inr F))))), (rr, .inl (kY, 5, .inl (fun _ => 0))), (o, .inl (kL, 1, .inr (.inl (vp_updL (fun _ => 0) 0 0))))] := hD
  obtain rfl := h_5
  refine lv_istore (lv' := [(5, .int 0), (4, .int 0), (3, .ref o), (2, .ref hm), (1, .ref h0), (0, .ref b)]) hx hb dL_law_1478 hl (by decide) rfl (fun ls hl => ?_)
  refine lv_aload_n hx hb dL_law_1480 rfl (lv_at hl 3 rfl) ?_
  refine lv_aload_n hx hb dL_law_1481 rfl (lv_at hl 5 rfl) ?_
  refine lv_iload hx hb dL_law_1482 (lv_at hl 1 rfl) ?_
  refine lv_iconst (v := 1) hx hb dL_law_1484 (by decide) ?_
  refine lv_iadd hx hb dL_law_1485 ?_
  refine lv_topi (fun x_6 ex_6 => ?_)
  obtain rfl : x_6 = 1 := ex_6.trans (by decide)
  refine va_sld hx hb hX hbl hbA hS (i := 1) (by unfold vp_in; decide) dL_law_1486 ?_
  refine W.eq (g2 := F0 m 1487 ls [.int (xs 1), .ref hm]) rfl ?_
  refine W.eq (g2 := F0 m 1487 ls [.int 8, .ref hm]) (by rw [hv]) ?_
  have f_7 := free_of (wc := [(hm, .inr (12, [.int 0, .ref hr, .int 0, .int 0, .int 0, .int 0, .int 0, .ref (gm 7), .ref (gm 8), .ref (gm 9), .ref (gm 10), .ref (gm 11), .ref (gm 12), .ref (gm 13), .ref (gm 14), .int 0, .ref (gm 16), .int 0, .int 0, .int 0, .ref (gm 20), .ref (gm 21), .int 0, .int 0, .int 0, .int 0, .int 0, .int 0, .ref (gm 28), .ref (gm 29)])), (hr, .inl (kI, 2, .inl (fun _ => 0)))]) hD hS hA [1, 2] rfl
  refine va_calli (va_runV (As := [.int 8]) (rest := []) ⟨hx, hb, hml, hown, hts⟩ (c_m_told_8 l D a1 a2 H.size hm hr gm kI) (cwV 1 hts (gV w_815 w_816 w_817 w_244 w_818) rfl rfl rfl (by decide +kernel) ⟨Nat.le_of_ble_eq_true rfl, Nat.le_of_ble_eq_true rfl⟩) (pre_V hK hP hD hS hA hE [1, 2] rfl (by decide) rfl [1] rfl (ci := 12) (q0 := 1) rfl rfl) rfl rfl hl.1 rfl (lv_room (Nat.le_of_ble_eq_true rfl)) dL_law_1487 ⟨Nat.le_of_ble_eq_true rfl, Nat.le_of_ble_eq_true rfl⟩) hS (fun q _ h => f_7 q h) f_7 (fun r_8 u_9 t H1 locs ht hvm h_10 hB hz1 hk1 hS => ?_)
  obtain ⟨hP, hD⟩ := join (wc := [(hm, .inr (12, [.int 0, .ref hr, .int 0, .int 0, .int 0, .int 0, .int 0, .ref (gm 7), .ref (gm 8), .ref (gm 9), .ref (gm 10), .ref (gm 11), .ref (gm 12), .ref (gm 13), .ref (gm 14), .int 0, .ref (gm 16), .int 0, .int 0, .int 0, .ref (gm 20), .ref (gm 21), .int 0, .int 0, .int 0, .int 0, .int 0, .int 0, .ref (gm 28), .ref (gm 29)])), (hr, .inl (kI, 2, .inl (fun _ => 0)))]) (wr := [(gn 0, .inl (kP, 6, .inr (.inr (.inr (.inr (fun _ => none)))))), (gm 7, .inl (kA, 6, .inr (.inr (.inr (.inr F))))), (rr, .inl (kY, 5, .inl (fun _ => 0))), (o, .inl (kL, 1, .inr (.inl (vp_updL (fun _ => 0) 0 0))))]) (w1 := [(hm, .inr (12, u_9))]) hP hD f_7 [1, 2] [0, 3, 4, 5] rfl rfl (by decide) (by decide) hk1 ht hB
  generalize H1 = H at hP hS ⊢
  have hP : va_P D vwCl [(gn 0, .inl (kP, 6, .inr (.inr (.inr (.inr (fun _ => none)))))), (gm 7, .inl (kA, 6, .inr (.inr (.inr (.inr F))))), (rr, .inl (kY, 5, .inl (fun _ => 0))), (o, .inl (kL, 1, .inr (.inl (vp_updL (fun _ => 0) 0 0)))), (hm, .inr (12, u_9))] H := hP
  have hD : va_D (fun q : Nat => s.heap.size ≤ q) [(gn 0, .inl (kP, 6, .inr (.inr (.inr (.inr (fun _ => none)))))), (gm 7, .inl (kA, 6, .inr (.inr (.inr (.inr F))))), (rr, .inl (kY, 5, .inl (fun _ => 0))), (o, .inl (kL, 1, .inr (.inl (vp_updL (fun _ => 0) 0 0)))), (hm, .inr (12, u_9))] := hD
  obtain ⟨rfl, h_10⟩ := h_10
  refine lv_istore (lv' := [(6, .int 0), (5, .int 0), (4, .int 0), (3, .ref o), (2, .ref hm), (1, .ref h0), (0, .ref b)]) hx hb dL_law_1490 hl (by decide) rfl (fun ls hl => ?_)
  refine lv_aload_n hx hb dL_law_1492 rfl (lv_at hl 4 rfl) ?_
  have f_11 := free_of (wc := [(hm, .inr (12, u_9))]) hD hS hA [4] rfl
  refine va_calli (va_runV (As := []) (rest := []) ⟨hx, hb, hml, hown, hts⟩ (c_thrown l D a1 a2 H.size hm u_9 0 h_10) (cwV 0 hts (gV w_458 w_459 w_460 w_244 w_461) rfl rfl rfl (by decide +kernel) ⟨Nat.le_of_ble_eq_true rfl, Nat.le_of_ble_eq_true rfl⟩) (pre_V hK hP hD hS hA hE [4] rfl (by decide) rfl [] rfl (ci := 12) (q0 := 4) rfl rfl) rfl rfl hl.1 rfl (lv_room (Nat.le_of_ble_eq_true rfl)) dL_law_1493 ⟨Nat.le_of_ble_eq_true rfl, Nat.le_of_ble_eq_true rfl⟩) hS (fun q _ h => f_11 q h) f_11 (fun r_12 u_13 t H1 locs ht hvm h_14 hB hz1 hk1 hS => ?_)
  obtain ⟨hP, hD⟩ := join (wc := [(hm, .inr (12, u_9))]) (wr := [(gn 0, .inl (kP, 6, .inr (.inr (.inr (.inr (fun _ => none)))))), (gm 7, .inl (kA, 6, .inr (.inr (.inr (.inr F))))), (rr, .inl (kY, 5, .inl (fun _ => 0))), (o, .inl (kL, 1, .inr (.inl (vp_updL (fun _ => 0) 0 0))))]) (w1 := [(hm, .inr (12, u_9))]) hP hD f_11 [4] [0, 1, 2, 3] rfl rfl (by decide) (by decide) hk1 ht hB
  generalize H1 = H at hP hS ⊢
  have hP : va_P D vwCl [(gn 0, .inl (kP, 6, .inr (.inr (.inr (.inr (fun _ => none)))))), (gm 7, .inl (kA, 6, .inr (.inr (.inr (.inr F))))), (rr, .inl (kY, 5, .inl (fun _ => 0))), (o, .inl (kL, 1, .inr (.inl (vp_updL (fun _ => 0) 0 0)))), (hm, .inr (12, u_9))] H := hP
  have hD : va_D (fun q : Nat => s.heap.size ≤ q) [(gn 0, .inl (kP, 6, .inr (.inr (.inr (.inr (fun _ => none)))))), (gm 7, .inl (kA, 6, .inr (.inr (.inr (.inr F))))), (rr, .inl (kY, 5, .inl (fun _ => 0))), (o, .inl (kL, 1, .inr (.inl (vp_updL (fun _ => 0) 0 0)))), (hm, .inr (12, u_9))] := hD
  obtain rfl := h_14
  refine lv_iload hx hb dL_law_1496 (lv_at hl 1 rfl) ?_
  refine lv_icmp_eq (tgt := 1503) hx hb dL_law_1498 (by decide) (fun _ => ?_) (fun c => absurd (by decide) c)
  refine lv_iload hx hb dL_law_1503 (lv_at hl 1 rfl) ?_
  refine lv_if_ne (tgt := 1520) hx hb dL_law_1505 (by decide) (fun c => absurd (by decide) c) (fun _ => ?_)
  refine lv_aload_n hx hb dL_law_1508 rfl (lv_at hl 3 rfl) ?_
  refine lv_iconst (v := 0) hx hb dL_law_1509 (by decide) ?_
  refine va_lald hx hb hK hP 3 4 rfl rfl (by unfold vp_in; decide) dL_law_1510 ?_
  refine W.eq (g2 := F0 m 1511 ls [.long 0]) rfl ?_
  refine lv_iload hx hb dL_law_1511 (lv_at hl 0 rfl) ?_
  refine lv_i2l (v := 0) hx hb dL_law_1513 (by decide) ?_
  refine W.lcmp hx hb dL_law_1514 ?_
  refine W.eq (g2 := F0 m 1515 ls [.int 0]) rfl ?_
  refine lv_if_eq (tgt := 1520) hx hb dL_law_1515 (by decide) (fun _ => ?_) (fun c => absurd (by decide) c)
  refine lv_goto (tgt := 3913) hx hb dL_law_1520 (by decide) ?_
  exact law_tail hx hb hr_ hlocks hX hbl hS (Nat.le_of_ble_eq_true rfl) (Nat.le_of_ble_eq_true rfl) (lv_sub hl [2, 6] rfl)
set_option maxRecDepth 100000 in
set_option maxHeartbeats 4000000 in
theorem case_16_9 {p : Program} {l : Launch} (hl9 : l.stackTraces = false) {e : Env} {s : State} {m : MethodId} {below : List Frame} {meth : Method} {c : Code} {D : va_G} {a1 a2 b : Nat} {xs : Nat → Int32} {H : Heap} {locs : List Loc} {ls : Array Slot} (h0 h1 h2 : Nat) (g gn gb : Nat → Nat) (kP : ClassId) (hm hr rr : Nat) (gm : Nat → Nat) (kI kA kY : ClassId) (F : Nat → Option Nat) (o : Nat) (kL : ClassId) (hv : xs 1 = 9) (hG : LawSt D a1 a2 p s m meth c b xs H locs ls h0 h1 h2 g gn gb kP hm hr rr gm kI kA kY F o kL) : W p l e room_1 s m #[Value.ref b] below meth c H locs 5338 65502 (lw_Z below #[Value.ref b] s) (F0 m 1467 ls []) := by
  obtain ⟨hx, hb, hr_, hml, hown, hts, hX, hbl, hlocks, hP, hK, hD, hA, hE, hS, hF, hl⟩ := hG
  have hbA : ¬ (fun q : Nat => s.heap.size ≤ q) b := Nat.not_le.mpr hbl
  refine lv_aload_n hx hb dL_law_1467 rfl (lv_at hl 3 rfl) ?_
  refine lv_aload_n hx hb dL_law_1468 rfl (lv_at hl 4 rfl) ?_
  refine lv_iload hx hb dL_law_1469 (lv_at hl 0 rfl) ?_
  refine lv_iconst (v := 1) hx hb dL_law_1471 (by decide) ?_
  refine lv_iadd hx hb dL_law_1472 ?_
  refine lv_topi (fun x_1 ex_1 => ?_)
  obtain rfl : x_1 = 1 := ex_1.trans (by decide)
  refine va_sld hx hb hX hbl hbA hS (i := 1) (by unfold vp_in; decide) dL_law_1473 ?_
  refine W.eq (g2 := F0 m 1474 ls [.int (xs 1), .ref h0]) rfl ?_
  refine W.eq (g2 := F0 m 1474 ls [.int 9, .ref h0]) (by rw [hv]) ?_
  refine lv_aload_n hx hb dL_law_1474 rfl (lv_at hl 1 rfl) ?_
  have f_2 := free_of (wc := [(h0, .inr (11, [.ref h1, .ref h2, .ref (g 2), .ref (g 3), .ref (g 4), .ref (g 5), .ref (g 6), .int 0, .int 0, .int 0, .int 0])), (h1, .inr (6, [.ref (gn 0), .int 0, .ref (gn 2), .ref (gn 3), .int 0, .ref (gn 5), .int 0, .int 0])), (h2, .inr (1, [.ref h1, .ref (gb 1), .int 0])), (o, .inl (kL, 1, .inr (.inl (fun _ => 0))))]) hD hS hA [0, 1, 2, 8] rfl
  refine vx_calli (vx_runSX (As := [.ref h0, .int 9, .ref o]) (rest := []) ⟨hx, hb, hml, hown, hts⟩ (c_h_told_9 l hl9 D a1 a2 H.size h0 h1 h2 g gn gb o kL) (vx_cwSW 3 hts (gSW w_812 w_813 w_450 w_814) rfl rfl rfl (by decide +kernel) ⟨Nat.le_of_ble_eq_true rfl, Nat.le_of_ble_eq_true rfl⟩) (pre_S hK hP hD hS hA hE [0, 1, 2, 8] rfl (by decide) rfl [4] rfl) rfl rfl hl.1 rfl (lv_room (Nat.le_of_ble_eq_true rfl)) dL_law_1475 ⟨Nat.le_of_ble_eq_true rfl, Nat.le_of_ble_eq_true rfl⟩) hS (fun q _ h => f_2 q h) f_2 (fun q _ h => f_2 q h) (fun E ce q9 u9 t H locs ht hvm hw hB hz1 hk1 hS hce hcv hcl => False.elim hw) (fun r_3 u_4 t H1 locs ht hvm h_5 hB hz1 hk1 hS => ?_)
  obtain ⟨hP, hD⟩ := join (wc := [(h0, .inr (11, [.ref h1, .ref h2, .ref (g 2), .ref (g 3), .ref (g 4), .ref (g 5), .ref (g 6), .int 0, .int 0, .int 0, .int 0])), (h1, .inr (6, [.ref (gn 0), .int 0, .ref (gn 2), .ref (gn 3), .int 0, .ref (gn 5), .int 0, .int 0])), (h2, .inr (1, [.ref h1, .ref (gb 1), .int 0])), (o, .inl (kL, 1, .inr (.inl (fun _ => 0))))]) (wr := [(gn 0, .inl (kP, 6, .inr (.inr (.inr (.inr (fun _ => none)))))), (hm, .inr (12, [.int 0, .ref hr, .int 0, .int 0, .int 0, .int 0, .int 0, .ref (gm 7), .ref (gm 8), .ref (gm 9), .ref (gm 10), .ref (gm 11), .ref (gm 12), .ref (gm 13), .ref (gm 14), .int 0, .ref (gm 16), .int 0, .int 0, .int 0, .ref (gm 20), .ref (gm 21), .int 0, .int 0, .int 0, .int 0, .int 0, .int 0, .ref (gm 28), .ref (gm 29)])), (hr, .inl (kI, 2, .inl (fun _ => 0))), (gm 7, .inl (kA, 6, .inr (.inr (.inr (.inr F))))), (rr, .inl (kY, 5, .inl (fun _ => 0)))]) (w1 := [(o, .inl (kL, 1, .inr (.inl (vp_updL (fun _ => 0) 0 (-1)))))]) hP hD f_2 [0, 1, 2, 8] [3, 4, 5, 6, 7] rfl rfl (by decide) (by decide) hk1 ht hB
  generalize H1 = H at hP hS ⊢
  have hP : va_P D vwCl [(gn 0, .inl (kP, 6, .inr (.inr (.inr (.inr (fun _ => none)))))), (hm, .inr (12, [.int 0, .ref hr, .int 0, .int 0, .int 0, .int 0, .int 0, .ref (gm 7), .ref (gm 8), .ref (gm 9), .ref (gm 10), .ref (gm 11), .ref (gm 12), .ref (gm 13), .ref (gm 14), .int 0, .ref (gm 16), .int 0, .int 0, .int 0, .ref (gm 20), .ref (gm 21), .int 0, .int 0, .int 0, .int 0, .int 0, .int 0, .ref (gm 28), .ref (gm 29)])), (hr, .inl (kI, 2, .inl (fun _ => 0))), (gm 7, .inl (kA, 6, .inr (.inr (.inr (.inr F))))), (rr, .inl (kY, 5, .inl (fun _ => 0))), (o, .inl (kL, 1, .inr (.inl (vp_updL (fun _ => 0) 0 (-1)))))] H := hP
  have hD : va_D (fun q : Nat => s.heap.size ≤ q) [(gn 0, .inl (kP, 6, .inr (.inr (.inr (.inr (fun _ => none)))))), (hm, .inr (12, [.int 0, .ref hr, .int 0, .int 0, .int 0, .int 0, .int 0, .ref (gm 7), .ref (gm 8), .ref (gm 9), .ref (gm 10), .ref (gm 11), .ref (gm 12), .ref (gm 13), .ref (gm 14), .int 0, .ref (gm 16), .int 0, .int 0, .int 0, .ref (gm 20), .ref (gm 21), .int 0, .int 0, .int 0, .int 0, .int 0, .int 0, .ref (gm 28), .ref (gm 29)])), (hr, .inl (kI, 2, .inl (fun _ => 0))), (gm 7, .inl (kA, 6, .inr (.inr (.inr (.inr F))))), (rr, .inl (kY, 5, .inl (fun _ => 0))), (o, .inl (kL, 1, .inr (.inl (vp_updL (fun _ => 0) 0 (-1)))))] := hD
  obtain rfl := h_5
  refine lv_istore (lv' := [(5, .int 0), (4, .int 0), (3, .ref o), (2, .ref hm), (1, .ref h0), (0, .ref b)]) hx hb dL_law_1478 hl (by decide) rfl (fun ls hl => ?_)
  refine lv_aload_n hx hb dL_law_1480 rfl (lv_at hl 3 rfl) ?_
  refine lv_aload_n hx hb dL_law_1481 rfl (lv_at hl 5 rfl) ?_
  refine lv_iload hx hb dL_law_1482 (lv_at hl 1 rfl) ?_
  refine lv_iconst (v := 1) hx hb dL_law_1484 (by decide) ?_
  refine lv_iadd hx hb dL_law_1485 ?_
  refine lv_topi (fun x_6 ex_6 => ?_)
  obtain rfl : x_6 = 1 := ex_6.trans (by decide)
  refine va_sld hx hb hX hbl hbA hS (i := 1) (by unfold vp_in; decide) dL_law_1486 ?_
  refine W.eq (g2 := F0 m 1487 ls [.int (xs 1), .ref hm]) rfl ?_
  refine W.eq (g2 := F0 m 1487 ls [.int 9, .ref hm]) (by rw [hv]) ?_
  have f_7 := free_of (wc := [(hm, .inr (12, [.int 0, .ref hr, .int 0, .int 0, .int 0, .int 0, .int 0, .ref (gm 7), .ref (gm 8), .ref (gm 9), .ref (gm 10), .ref (gm 11), .ref (gm 12), .ref (gm 13), .ref (gm 14), .int 0, .ref (gm 16), .int 0, .int 0, .int 0, .ref (gm 20), .ref (gm 21), .int 0, .int 0, .int 0, .int 0, .int 0, .int 0, .ref (gm 28), .ref (gm 29)])), (hr, .inl (kI, 2, .inl (fun _ => 0)))]) hD hS hA [1, 2] rfl
  refine va_calli (va_runV (As := [.int 9]) (rest := []) ⟨hx, hb, hml, hown, hts⟩ (c_m_told_9 l D a1 a2 H.size hm hr gm kI) (cwV 1 hts (gV w_815 w_816 w_817 w_244 w_818) rfl rfl rfl (by decide +kernel) ⟨Nat.le_of_ble_eq_true rfl, Nat.le_of_ble_eq_true rfl⟩) (pre_V hK hP hD hS hA hE [1, 2] rfl (by decide) rfl [1] rfl (ci := 12) (q0 := 1) rfl rfl) rfl rfl hl.1 rfl (lv_room (Nat.le_of_ble_eq_true rfl)) dL_law_1487 ⟨Nat.le_of_ble_eq_true rfl, Nat.le_of_ble_eq_true rfl⟩) hS (fun q _ h => f_7 q h) f_7 (fun r_8 u_9 t H1 locs ht hvm h_10 hB hz1 hk1 hS => ?_)
  obtain ⟨hP, hD⟩ := join (wc := [(hm, .inr (12, [.int 0, .ref hr, .int 0, .int 0, .int 0, .int 0, .int 0, .ref (gm 7), .ref (gm 8), .ref (gm 9), .ref (gm 10), .ref (gm 11), .ref (gm 12), .ref (gm 13), .ref (gm 14), .int 0, .ref (gm 16), .int 0, .int 0, .int 0, .ref (gm 20), .ref (gm 21), .int 0, .int 0, .int 0, .int 0, .int 0, .int 0, .ref (gm 28), .ref (gm 29)])), (hr, .inl (kI, 2, .inl (fun _ => 0)))]) (wr := [(gn 0, .inl (kP, 6, .inr (.inr (.inr (.inr (fun _ => none)))))), (gm 7, .inl (kA, 6, .inr (.inr (.inr (.inr F))))), (rr, .inl (kY, 5, .inl (fun _ => 0))), (o, .inl (kL, 1, .inr (.inl (vp_updL (fun _ => 0) 0 (-1)))))]) (w1 := [(hm, .inr (12, u_9))]) hP hD f_7 [1, 2] [0, 3, 4, 5] rfl rfl (by decide) (by decide) hk1 ht hB
  generalize H1 = H at hP hS ⊢
  have hP : va_P D vwCl [(gn 0, .inl (kP, 6, .inr (.inr (.inr (.inr (fun _ => none)))))), (gm 7, .inl (kA, 6, .inr (.inr (.inr (.inr F))))), (rr, .inl (kY, 5, .inl (fun _ => 0))), (o, .inl (kL, 1, .inr (.inl (vp_updL (fun _ => 0) 0 (-1))))), (hm, .inr (12, u_9))] H := hP
  have hD : va_D (fun q : Nat => s.heap.size ≤ q) [(gn 0, .inl (kP, 6, .inr (.inr (.inr (.inr (fun _ => none)))))), (gm 7, .inl (kA, 6, .inr (.inr (.inr (.inr F))))), (rr, .inl (kY, 5, .inl (fun _ => 0))), (o, .inl (kL, 1, .inr (.inl (vp_updL (fun _ => 0) 0 (-1))))), (hm, .inr (12, u_9))] := hD
  obtain ⟨rfl, h_10⟩ := h_10
  refine lv_istore (lv' := [(6, .int (-1)), (5, .int 0), (4, .int 0), (3, .ref o), (2, .ref hm), (1, .ref h0), (0, .ref b)]) hx hb dL_law_1490 hl (by decide) rfl (fun ls hl => ?_)
  refine lv_aload_n hx hb dL_law_1492 rfl (lv_at hl 4 rfl) ?_
  have f_11 := free_of (wc := [(hm, .inr (12, u_9))]) hD hS hA [4] rfl
  refine va_calli (va_runV (As := []) (rest := []) ⟨hx, hb, hml, hown, hts⟩ (c_thrown l D a1 a2 H.size hm u_9 0 h_10) (cwV 0 hts (gV w_458 w_459 w_460 w_244 w_461) rfl rfl rfl (by decide +kernel) ⟨Nat.le_of_ble_eq_true rfl, Nat.le_of_ble_eq_true rfl⟩) (pre_V hK hP hD hS hA hE [4] rfl (by decide) rfl [] rfl (ci := 12) (q0 := 4) rfl rfl) rfl rfl hl.1 rfl (lv_room (Nat.le_of_ble_eq_true rfl)) dL_law_1493 ⟨Nat.le_of_ble_eq_true rfl, Nat.le_of_ble_eq_true rfl⟩) hS (fun q _ h => f_11 q h) f_11 (fun r_12 u_13 t H1 locs ht hvm h_14 hB hz1 hk1 hS => ?_)
  obtain ⟨hP, hD⟩ := join (wc := [(hm, .inr (12, u_9))]) (wr := [(gn 0, .inl (kP, 6, .inr (.inr (.inr (.inr (fun _ => none)))))), (gm 7, .inl (kA, 6, .inr (.inr (.inr (.inr F))))), (rr, .inl (kY, 5, .inl (fun _ => 0))), (o, .inl (kL, 1, .inr (.inl (vp_updL (fun _ => 0) 0 (-1)))))]) (w1 := [(hm, .inr (12, u_9))]) hP hD f_11 [4] [0, 1, 2, 3] rfl rfl (by decide) (by decide) hk1 ht hB
  generalize H1 = H at hP hS ⊢
  have hP : va_P D vwCl [(gn 0, .inl (kP, 6, .inr (.inr (.inr (.inr (fun _ => none)))))), (gm 7, .inl (kA, 6, .inr (.inr (.inr (.inr F))))), (rr, .inl (kY, 5, .inl (fun _ => 0))), (o, .inl (kL, 1, .inr (.inl (vp_updL (fun _ => 0) 0 (-1))))), (hm, .inr (12, u_9))] H := hP
  have hD : va_D (fun q : Nat => s.heap.size ≤ q) [(gn 0, .inl (kP, 6, .inr (.inr (.inr (.inr (fun _ => none)))))), (gm 7, .inl (kA, 6, .inr (.inr (.inr (.inr F))))), (rr, .inl (kY, 5, .inl (fun _ => 0))), (o, .inl (kL, 1, .inr (.inl (vp_updL (fun _ => 0) 0 (-1))))), (hm, .inr (12, u_9))] := hD
  obtain rfl := h_14
  refine lv_iload hx hb dL_law_1496 (lv_at hl 1 rfl) ?_
  refine lv_icmp_eq (tgt := 1503) hx hb dL_law_1498 (by decide) (fun _ => ?_) (fun c => absurd (by decide) c)
  refine lv_iload hx hb dL_law_1503 (lv_at hl 1 rfl) ?_
  refine lv_if_ne (tgt := 1520) hx hb dL_law_1505 (by decide) (fun c => absurd (by decide) c) (fun _ => ?_)
  refine lv_aload_n hx hb dL_law_1508 rfl (lv_at hl 3 rfl) ?_
  refine lv_iconst (v := 0) hx hb dL_law_1509 (by decide) ?_
  refine va_lald hx hb hK hP 3 4 rfl rfl (by unfold vp_in; decide) dL_law_1510 ?_
  refine W.eq (g2 := F0 m 1511 ls [.long (-1)]) rfl ?_
  refine lv_iload hx hb dL_law_1511 (lv_at hl 0 rfl) ?_
  refine lv_i2l (v := -1) hx hb dL_law_1513 (by decide) ?_
  refine W.lcmp hx hb dL_law_1514 ?_
  refine W.eq (g2 := F0 m 1515 ls [.int 0]) rfl ?_
  refine lv_if_eq (tgt := 1520) hx hb dL_law_1515 (by decide) (fun _ => ?_) (fun c => absurd (by decide) c)
  refine lv_goto (tgt := 3913) hx hb dL_law_1520 (by decide) ?_
  exact law_tail hx hb hr_ hlocks hX hbl hS (Nat.le_of_ble_eq_true rfl) (Nat.le_of_ble_eq_true rfl) (lv_sub hl [2, 6] rfl)
set_option maxRecDepth 100000 in
set_option maxHeartbeats 4000000 in
theorem case_53_0 {p : Program} {l : Launch} (hl9 : l.stackTraces = false) {e : Env} {s : State} {m : MethodId} {below : List Frame} {meth : Method} {c : Code} {D : va_G} {a1 a2 b : Nat} {xs : Nat → Int32} {H : Heap} {locs : List Loc} {ls : Array Slot} (h0 h1 h2 : Nat) (g gn gb : Nat → Nat) (kP : ClassId) (hm hr rr : Nat) (gm : Nat → Nat) (kI kA kY : ClassId) (F : Nat → Option Nat) (o : Nat) (kL : ClassId) (hv : xs 1 = 0) (hG : LawSt D a1 a2 p s m meth c b xs H locs ls h0 h1 h2 g gn gb kP hm hr rr gm kI kA kY F o kL) : W p l e room_1 s m #[Value.ref b] below meth c H locs 5338 65502 (lw_Z below #[Value.ref b] s) (F0 m 3888 ls []) := by
  obtain ⟨hx, hb, hr_, hml, hown, hts, hX, hbl, hlocks, hP, hK, hD, hA, hE, hS, hF, hl⟩ := hG
  have hbA : ¬ (fun q : Nat => s.heap.size ≤ q) b := Nat.not_le.mpr hbl
  refine lv_aload_n hx hb dL_law_3888 rfl (lv_at hl 3 rfl) ?_
  refine lv_aload_n hx hb dL_law_3889 rfl (lv_at hl 4 rfl) ?_
  refine lv_iload hx hb dL_law_3890 (lv_at hl 0 rfl) ?_
  refine lv_iconst (v := 1) hx hb dL_law_3892 (by decide) ?_
  refine lv_iadd hx hb dL_law_3893 ?_
  refine lv_topi (fun x_1 ex_1 => ?_)
  obtain rfl : x_1 = 1 := ex_1.trans (by decide)
  refine va_sld hx hb hX hbl hbA hS (i := 1) (by unfold vp_in; decide) dL_law_3894 ?_
  refine W.eq (g2 := F0 m 3895 ls [.int (xs 1), .ref h0]) rfl ?_
  refine W.eq (g2 := F0 m 3895 ls [.int 0, .ref h0]) (by rw [hv]) ?_
  have f_2 := free_of (wc := [(h0, .inr (11, [.ref h1, .ref h2, .ref (g 2), .ref (g 3), .ref (g 4), .ref (g 5), .ref (g 6), .int 0, .int 0, .int 0, .int 0])), (h1, .inr (6, [.ref (gn 0), .int 0, .ref (gn 2), .ref (gn 3), .int 0, .ref (gn 5), .int 0, .int 0])), (h2, .inr (1, [.ref h1, .ref (gb 1), .int 0]))]) hD hS hA [0, 1, 2] rfl
  refine va_calli (va_runV (As := [.int 0]) (rest := []) ⟨hx, hb, hml, hown, hts⟩ (c_x_status_0 l D a1 a2 H.size h0 h1 h2 g gn gb) (cwV 1 hts (gV w_826 w_827 w_828 w_8 w_829) rfl rfl rfl (by decide +kernel) ⟨Nat.le_of_ble_eq_true rfl, Nat.le_of_ble_eq_true rfl⟩) (pre_V hK hP hD hS hA hE [0, 1, 2] rfl (by decide) rfl [] rfl (ci := 11) (q0 := 0) rfl rfl) rfl rfl hl.1 rfl (lv_room (Nat.le_of_ble_eq_true rfl)) dL_law_3895 ⟨Nat.le_of_ble_eq_true rfl, Nat.le_of_ble_eq_true rfl⟩) hS (fun q _ h => f_2 q h) f_2 (fun r_3 u_4 t H1 locs ht hvm h_5 hB hz1 hk1 hS => ?_)
  obtain ⟨hP, hD⟩ := join (wc := [(h0, .inr (11, [.ref h1, .ref h2, .ref (g 2), .ref (g 3), .ref (g 4), .ref (g 5), .ref (g 6), .int 0, .int 0, .int 0, .int 0])), (h1, .inr (6, [.ref (gn 0), .int 0, .ref (gn 2), .ref (gn 3), .int 0, .ref (gn 5), .int 0, .int 0])), (h2, .inr (1, [.ref h1, .ref (gb 1), .int 0]))]) (wr := [(gn 0, .inl (kP, 6, .inr (.inr (.inr (.inr (fun _ => none)))))), (hm, .inr (12, [.int 0, .ref hr, .int 0, .int 0, .int 0, .int 0, .int 0, .ref (gm 7), .ref (gm 8), .ref (gm 9), .ref (gm 10), .ref (gm 11), .ref (gm 12), .ref (gm 13), .ref (gm 14), .int 0, .ref (gm 16), .int 0, .int 0, .int 0, .ref (gm 20), .ref (gm 21), .int 0, .int 0, .int 0, .int 0, .int 0, .int 0, .ref (gm 28), .ref (gm 29)])), (hr, .inl (kI, 2, .inl (fun _ => 0))), (gm 7, .inl (kA, 6, .inr (.inr (.inr (.inr F))))), (rr, .inl (kY, 5, .inl (fun _ => 0))), (o, .inl (kL, 1, .inr (.inl (fun _ => 0))))]) (w1 := []) hP hD f_2 [0, 1, 2] [3, 4, 5, 6, 7, 8] rfl rfl (by decide) (by decide) hk1 ht wat_nil
  generalize H1 = H at hP hS ⊢
  have hP : va_P D vwCl [(gn 0, .inl (kP, 6, .inr (.inr (.inr (.inr (fun _ => none)))))), (hm, .inr (12, [.int 0, .ref hr, .int 0, .int 0, .int 0, .int 0, .int 0, .ref (gm 7), .ref (gm 8), .ref (gm 9), .ref (gm 10), .ref (gm 11), .ref (gm 12), .ref (gm 13), .ref (gm 14), .int 0, .ref (gm 16), .int 0, .int 0, .int 0, .ref (gm 20), .ref (gm 21), .int 0, .int 0, .int 0, .int 0, .int 0, .int 0, .ref (gm 28), .ref (gm 29)])), (hr, .inl (kI, 2, .inl (fun _ => 0))), (gm 7, .inl (kA, 6, .inr (.inr (.inr (.inr F))))), (rr, .inl (kY, 5, .inl (fun _ => 0))), (o, .inl (kL, 1, .inr (.inl (fun _ => 0))))] H := hP
  have hD : va_D (fun q : Nat => s.heap.size ≤ q) [(gn 0, .inl (kP, 6, .inr (.inr (.inr (.inr (fun _ => none)))))), (hm, .inr (12, [.int 0, .ref hr, .int 0, .int 0, .int 0, .int 0, .int 0, .ref (gm 7), .ref (gm 8), .ref (gm 9), .ref (gm 10), .ref (gm 11), .ref (gm 12), .ref (gm 13), .ref (gm 14), .int 0, .ref (gm 16), .int 0, .int 0, .int 0, .ref (gm 20), .ref (gm 21), .int 0, .int 0, .int 0, .int 0, .int 0, .int 0, .ref (gm 28), .ref (gm 29)])), (hr, .inl (kI, 2, .inl (fun _ => 0))), (gm 7, .inl (kA, 6, .inr (.inr (.inr (.inr F))))), (rr, .inl (kY, 5, .inl (fun _ => 0))), (o, .inl (kL, 1, .inr (.inl (fun _ => 0))))] := hD
  obtain rfl := h_5
  refine lv_aload_n hx hb dL_law_3898 rfl (lv_at hl 2 rfl) ?_
  refine lv_aload_n hx hb dL_law_3899 rfl (lv_at hl 4 rfl) ?_
  refine lv_iload hx hb dL_law_3900 (lv_at hl 0 rfl) ?_
  refine lv_iconst (v := 1) hx hb dL_law_3902 (by decide) ?_
  refine lv_iadd hx hb dL_law_3903 ?_
  refine lv_topi (fun x_6 ex_6 => ?_)
  obtain rfl : x_6 = 1 := ex_6.trans (by decide)
  refine va_sld hx hb hX hbl hbA hS (i := 1) (by unfold vp_in; decide) dL_law_3904 ?_
  refine W.eq (g2 := F0 m 3905 ls [.int (xs 1), .ref hm, .int 0]) rfl ?_
  refine W.eq (g2 := F0 m 3905 ls [.int 0, .ref hm, .int 0]) (by rw [hv]) ?_
  have f_7 := free_of (wc := [(hm, .inr (12, [.int 0, .ref hr, .int 0, .int 0, .int 0, .int 0, .int 0, .ref (gm 7), .ref (gm 8), .ref (gm 9), .ref (gm 10), .ref (gm 11), .ref (gm 12), .ref (gm 13), .ref (gm 14), .int 0, .ref (gm 16), .int 0, .int 0, .int 0, .ref (gm 20), .ref (gm 21), .int 0, .int 0, .int 0, .int 0, .int 0, .int 0, .ref (gm 28), .ref (gm 29)])), (hr, .inl (kI, 2, .inl (fun _ => 0)))]) hD hS hA [1, 2] rfl
  refine va_calli (va_runV (As := [.int 0]) (rest := [.int 0]) ⟨hx, hb, hml, hown, hts⟩ (c_m_status_0 l D a1 a2 H.size hm hr gm kI) (cwV 1 hts (gV w_830 w_831 w_832 w_244 w_833) rfl rfl rfl (by decide +kernel) ⟨Nat.le_of_ble_eq_true rfl, Nat.le_of_ble_eq_true rfl⟩) (pre_V hK hP hD hS hA hE [1, 2] rfl (by decide) rfl [1] rfl (ci := 12) (q0 := 1) rfl rfl) rfl rfl hl.1 rfl (lv_room (Nat.le_of_ble_eq_true rfl)) dL_law_3905 ⟨Nat.le_of_ble_eq_true rfl, Nat.le_of_ble_eq_true rfl⟩) hS (fun q _ h => f_7 q h) f_7 (fun r_8 u_9 t H1 locs ht hvm h_10 hB hz1 hk1 hS => ?_)
  obtain ⟨hP, hD⟩ := join (wc := [(hm, .inr (12, [.int 0, .ref hr, .int 0, .int 0, .int 0, .int 0, .int 0, .ref (gm 7), .ref (gm 8), .ref (gm 9), .ref (gm 10), .ref (gm 11), .ref (gm 12), .ref (gm 13), .ref (gm 14), .int 0, .ref (gm 16), .int 0, .int 0, .int 0, .ref (gm 20), .ref (gm 21), .int 0, .int 0, .int 0, .int 0, .int 0, .int 0, .ref (gm 28), .ref (gm 29)])), (hr, .inl (kI, 2, .inl (fun _ => 0)))]) (wr := [(gn 0, .inl (kP, 6, .inr (.inr (.inr (.inr (fun _ => none)))))), (gm 7, .inl (kA, 6, .inr (.inr (.inr (.inr F))))), (rr, .inl (kY, 5, .inl (fun _ => 0))), (o, .inl (kL, 1, .inr (.inl (fun _ => 0))))]) (w1 := [(hm, .inr (12, u_9))]) hP hD f_7 [1, 2] [0, 3, 4, 5] rfl rfl (by decide) (by decide) hk1 ht hB
  generalize H1 = H at hP hS ⊢
  have hP : va_P D vwCl [(gn 0, .inl (kP, 6, .inr (.inr (.inr (.inr (fun _ => none)))))), (gm 7, .inl (kA, 6, .inr (.inr (.inr (.inr F))))), (rr, .inl (kY, 5, .inl (fun _ => 0))), (o, .inl (kL, 1, .inr (.inl (fun _ => 0)))), (hm, .inr (12, u_9))] H := hP
  have hD : va_D (fun q : Nat => s.heap.size ≤ q) [(gn 0, .inl (kP, 6, .inr (.inr (.inr (.inr (fun _ => none)))))), (gm 7, .inl (kA, 6, .inr (.inr (.inr (.inr F))))), (rr, .inl (kY, 5, .inl (fun _ => 0))), (o, .inl (kL, 1, .inr (.inl (fun _ => 0)))), (hm, .inr (12, u_9))] := hD
  obtain ⟨rfl, h_10⟩ := h_10
  refine lv_icmp_eq (tgt := 3913) hx hb dL_law_3908 (by decide) (fun _ => ?_) (fun c => absurd (by decide) c)
  exact law_tail hx hb hr_ hlocks hX hbl hS (Nat.le_of_ble_eq_true rfl) (Nat.le_of_ble_eq_true rfl) (lv_sub hl [0, 4] rfl)
set_option maxRecDepth 100000 in
set_option maxHeartbeats 4000000 in
theorem case_53_1 {p : Program} {l : Launch} (hl9 : l.stackTraces = false) {e : Env} {s : State} {m : MethodId} {below : List Frame} {meth : Method} {c : Code} {D : va_G} {a1 a2 b : Nat} {xs : Nat → Int32} {H : Heap} {locs : List Loc} {ls : Array Slot} (h0 h1 h2 : Nat) (g gn gb : Nat → Nat) (kP : ClassId) (hm hr rr : Nat) (gm : Nat → Nat) (kI kA kY : ClassId) (F : Nat → Option Nat) (o : Nat) (kL : ClassId) (hv : xs 1 = 1) (hG : LawSt D a1 a2 p s m meth c b xs H locs ls h0 h1 h2 g gn gb kP hm hr rr gm kI kA kY F o kL) : W p l e room_1 s m #[Value.ref b] below meth c H locs 5338 65502 (lw_Z below #[Value.ref b] s) (F0 m 3888 ls []) := by
  obtain ⟨hx, hb, hr_, hml, hown, hts, hX, hbl, hlocks, hP, hK, hD, hA, hE, hS, hF, hl⟩ := hG
  have hbA : ¬ (fun q : Nat => s.heap.size ≤ q) b := Nat.not_le.mpr hbl
  refine lv_aload_n hx hb dL_law_3888 rfl (lv_at hl 3 rfl) ?_
  refine lv_aload_n hx hb dL_law_3889 rfl (lv_at hl 4 rfl) ?_
  refine lv_iload hx hb dL_law_3890 (lv_at hl 0 rfl) ?_
  refine lv_iconst (v := 1) hx hb dL_law_3892 (by decide) ?_
  refine lv_iadd hx hb dL_law_3893 ?_
  refine lv_topi (fun x_1 ex_1 => ?_)
  obtain rfl : x_1 = 1 := ex_1.trans (by decide)
  refine va_sld hx hb hX hbl hbA hS (i := 1) (by unfold vp_in; decide) dL_law_3894 ?_
  refine W.eq (g2 := F0 m 3895 ls [.int (xs 1), .ref h0]) rfl ?_
  refine W.eq (g2 := F0 m 3895 ls [.int 1, .ref h0]) (by rw [hv]) ?_
  have f_2 := free_of (wc := [(h0, .inr (11, [.ref h1, .ref h2, .ref (g 2), .ref (g 3), .ref (g 4), .ref (g 5), .ref (g 6), .int 0, .int 0, .int 0, .int 0])), (h1, .inr (6, [.ref (gn 0), .int 0, .ref (gn 2), .ref (gn 3), .int 0, .ref (gn 5), .int 0, .int 0])), (h2, .inr (1, [.ref h1, .ref (gb 1), .int 0]))]) hD hS hA [0, 1, 2] rfl
  refine va_calli (va_runV (As := [.int 1]) (rest := []) ⟨hx, hb, hml, hown, hts⟩ (c_x_status_1 l D a1 a2 H.size h0 h1 h2 g gn gb) (cwV 1 hts (gV w_826 w_827 w_828 w_8 w_829) rfl rfl rfl (by decide +kernel) ⟨Nat.le_of_ble_eq_true rfl, Nat.le_of_ble_eq_true rfl⟩) (pre_V hK hP hD hS hA hE [0, 1, 2] rfl (by decide) rfl [] rfl (ci := 11) (q0 := 0) rfl rfl) rfl rfl hl.1 rfl (lv_room (Nat.le_of_ble_eq_true rfl)) dL_law_3895 ⟨Nat.le_of_ble_eq_true rfl, Nat.le_of_ble_eq_true rfl⟩) hS (fun q _ h => f_2 q h) f_2 (fun r_3 u_4 t H1 locs ht hvm h_5 hB hz1 hk1 hS => ?_)
  obtain ⟨hP, hD⟩ := join (wc := [(h0, .inr (11, [.ref h1, .ref h2, .ref (g 2), .ref (g 3), .ref (g 4), .ref (g 5), .ref (g 6), .int 0, .int 0, .int 0, .int 0])), (h1, .inr (6, [.ref (gn 0), .int 0, .ref (gn 2), .ref (gn 3), .int 0, .ref (gn 5), .int 0, .int 0])), (h2, .inr (1, [.ref h1, .ref (gb 1), .int 0]))]) (wr := [(gn 0, .inl (kP, 6, .inr (.inr (.inr (.inr (fun _ => none)))))), (hm, .inr (12, [.int 0, .ref hr, .int 0, .int 0, .int 0, .int 0, .int 0, .ref (gm 7), .ref (gm 8), .ref (gm 9), .ref (gm 10), .ref (gm 11), .ref (gm 12), .ref (gm 13), .ref (gm 14), .int 0, .ref (gm 16), .int 0, .int 0, .int 0, .ref (gm 20), .ref (gm 21), .int 0, .int 0, .int 0, .int 0, .int 0, .int 0, .ref (gm 28), .ref (gm 29)])), (hr, .inl (kI, 2, .inl (fun _ => 0))), (gm 7, .inl (kA, 6, .inr (.inr (.inr (.inr F))))), (rr, .inl (kY, 5, .inl (fun _ => 0))), (o, .inl (kL, 1, .inr (.inl (fun _ => 0))))]) (w1 := []) hP hD f_2 [0, 1, 2] [3, 4, 5, 6, 7, 8] rfl rfl (by decide) (by decide) hk1 ht wat_nil
  generalize H1 = H at hP hS ⊢
  have hP : va_P D vwCl [(gn 0, .inl (kP, 6, .inr (.inr (.inr (.inr (fun _ => none)))))), (hm, .inr (12, [.int 0, .ref hr, .int 0, .int 0, .int 0, .int 0, .int 0, .ref (gm 7), .ref (gm 8), .ref (gm 9), .ref (gm 10), .ref (gm 11), .ref (gm 12), .ref (gm 13), .ref (gm 14), .int 0, .ref (gm 16), .int 0, .int 0, .int 0, .ref (gm 20), .ref (gm 21), .int 0, .int 0, .int 0, .int 0, .int 0, .int 0, .ref (gm 28), .ref (gm 29)])), (hr, .inl (kI, 2, .inl (fun _ => 0))), (gm 7, .inl (kA, 6, .inr (.inr (.inr (.inr F))))), (rr, .inl (kY, 5, .inl (fun _ => 0))), (o, .inl (kL, 1, .inr (.inl (fun _ => 0))))] H := hP
  have hD : va_D (fun q : Nat => s.heap.size ≤ q) [(gn 0, .inl (kP, 6, .inr (.inr (.inr (.inr (fun _ => none)))))), (hm, .inr (12, [.int 0, .ref hr, .int 0, .int 0, .int 0, .int 0, .int 0, .ref (gm 7), .ref (gm 8), .ref (gm 9), .ref (gm 10), .ref (gm 11), .ref (gm 12), .ref (gm 13), .ref (gm 14), .int 0, .ref (gm 16), .int 0, .int 0, .int 0, .ref (gm 20), .ref (gm 21), .int 0, .int 0, .int 0, .int 0, .int 0, .int 0, .ref (gm 28), .ref (gm 29)])), (hr, .inl (kI, 2, .inl (fun _ => 0))), (gm 7, .inl (kA, 6, .inr (.inr (.inr (.inr F))))), (rr, .inl (kY, 5, .inl (fun _ => 0))), (o, .inl (kL, 1, .inr (.inl (fun _ => 0))))] := hD
  obtain rfl := h_5
  refine lv_aload_n hx hb dL_law_3898 rfl (lv_at hl 2 rfl) ?_
  refine lv_aload_n hx hb dL_law_3899 rfl (lv_at hl 4 rfl) ?_
  refine lv_iload hx hb dL_law_3900 (lv_at hl 0 rfl) ?_
  refine lv_iconst (v := 1) hx hb dL_law_3902 (by decide) ?_
  refine lv_iadd hx hb dL_law_3903 ?_
  refine lv_topi (fun x_6 ex_6 => ?_)
  obtain rfl : x_6 = 1 := ex_6.trans (by decide)
  refine va_sld hx hb hX hbl hbA hS (i := 1) (by unfold vp_in; decide) dL_law_3904 ?_
  refine W.eq (g2 := F0 m 3905 ls [.int (xs 1), .ref hm, .int 0]) rfl ?_
  refine W.eq (g2 := F0 m 3905 ls [.int 1, .ref hm, .int 0]) (by rw [hv]) ?_
  have f_7 := free_of (wc := [(hm, .inr (12, [.int 0, .ref hr, .int 0, .int 0, .int 0, .int 0, .int 0, .ref (gm 7), .ref (gm 8), .ref (gm 9), .ref (gm 10), .ref (gm 11), .ref (gm 12), .ref (gm 13), .ref (gm 14), .int 0, .ref (gm 16), .int 0, .int 0, .int 0, .ref (gm 20), .ref (gm 21), .int 0, .int 0, .int 0, .int 0, .int 0, .int 0, .ref (gm 28), .ref (gm 29)])), (hr, .inl (kI, 2, .inl (fun _ => 0)))]) hD hS hA [1, 2] rfl
  refine va_calli (va_runV (As := [.int 1]) (rest := [.int 0]) ⟨hx, hb, hml, hown, hts⟩ (c_m_status_1 l D a1 a2 H.size hm hr gm kI) (cwV 1 hts (gV w_830 w_831 w_832 w_244 w_833) rfl rfl rfl (by decide +kernel) ⟨Nat.le_of_ble_eq_true rfl, Nat.le_of_ble_eq_true rfl⟩) (pre_V hK hP hD hS hA hE [1, 2] rfl (by decide) rfl [1] rfl (ci := 12) (q0 := 1) rfl rfl) rfl rfl hl.1 rfl (lv_room (Nat.le_of_ble_eq_true rfl)) dL_law_3905 ⟨Nat.le_of_ble_eq_true rfl, Nat.le_of_ble_eq_true rfl⟩) hS (fun q _ h => f_7 q h) f_7 (fun r_8 u_9 t H1 locs ht hvm h_10 hB hz1 hk1 hS => ?_)
  obtain ⟨hP, hD⟩ := join (wc := [(hm, .inr (12, [.int 0, .ref hr, .int 0, .int 0, .int 0, .int 0, .int 0, .ref (gm 7), .ref (gm 8), .ref (gm 9), .ref (gm 10), .ref (gm 11), .ref (gm 12), .ref (gm 13), .ref (gm 14), .int 0, .ref (gm 16), .int 0, .int 0, .int 0, .ref (gm 20), .ref (gm 21), .int 0, .int 0, .int 0, .int 0, .int 0, .int 0, .ref (gm 28), .ref (gm 29)])), (hr, .inl (kI, 2, .inl (fun _ => 0)))]) (wr := [(gn 0, .inl (kP, 6, .inr (.inr (.inr (.inr (fun _ => none)))))), (gm 7, .inl (kA, 6, .inr (.inr (.inr (.inr F))))), (rr, .inl (kY, 5, .inl (fun _ => 0))), (o, .inl (kL, 1, .inr (.inl (fun _ => 0))))]) (w1 := [(hm, .inr (12, u_9))]) hP hD f_7 [1, 2] [0, 3, 4, 5] rfl rfl (by decide) (by decide) hk1 ht hB
  generalize H1 = H at hP hS ⊢
  have hP : va_P D vwCl [(gn 0, .inl (kP, 6, .inr (.inr (.inr (.inr (fun _ => none)))))), (gm 7, .inl (kA, 6, .inr (.inr (.inr (.inr F))))), (rr, .inl (kY, 5, .inl (fun _ => 0))), (o, .inl (kL, 1, .inr (.inl (fun _ => 0)))), (hm, .inr (12, u_9))] H := hP
  have hD : va_D (fun q : Nat => s.heap.size ≤ q) [(gn 0, .inl (kP, 6, .inr (.inr (.inr (.inr (fun _ => none)))))), (gm 7, .inl (kA, 6, .inr (.inr (.inr (.inr F))))), (rr, .inl (kY, 5, .inl (fun _ => 0))), (o, .inl (kL, 1, .inr (.inl (fun _ => 0)))), (hm, .inr (12, u_9))] := hD
  obtain ⟨rfl, h_10⟩ := h_10
  refine lv_icmp_eq (tgt := 3913) hx hb dL_law_3908 (by decide) (fun _ => ?_) (fun c => absurd (by decide) c)
  exact law_tail hx hb hr_ hlocks hX hbl hS (Nat.le_of_ble_eq_true rfl) (Nat.le_of_ble_eq_true rfl) (lv_sub hl [0, 4] rfl)
set_option maxRecDepth 100000 in
set_option maxHeartbeats 4000000 in
theorem case_53_e {p : Program} {l : Launch} (hl9 : l.stackTraces = false) {e : Env} {s : State} {m : MethodId} {below : List Frame} {meth : Method} {c : Code} {D : va_G} {a1 a2 b : Nat} {xs : Nat → Int32} {H : Heap} {locs : List Loc} {ls : Array Slot} (h0 h1 h2 : Nat) (g gn gb : Nat → Nat) (kP : ClassId) (hm hr rr : Nat) (gm : Nat → Nat) (kI kA kY : ClassId) (F : Nat → Option Nat) (o : Nat) (kL : ClassId) (hv0 : ¬ xs 1 = 0) (hv1 : ¬ xs 1 = 1) (hG : LawSt D a1 a2 p s m meth c b xs H locs ls h0 h1 h2 g gn gb kP hm hr rr gm kI kA kY F o kL) : W p l e room_1 s m #[Value.ref b] below meth c H locs 5338 65502 (lw_Z below #[Value.ref b] s) (F0 m 3888 ls []) := by
  obtain ⟨hx, hb, hr_, hml, hown, hts, hX, hbl, hlocks, hP, hK, hD, hA, hE, hS, hF, hl⟩ := hG
  have hbA : ¬ (fun q : Nat => s.heap.size ≤ q) b := Nat.not_le.mpr hbl
  refine lv_aload_n hx hb dL_law_3888 rfl (lv_at hl 3 rfl) ?_
  refine lv_aload_n hx hb dL_law_3889 rfl (lv_at hl 4 rfl) ?_
  refine lv_iload hx hb dL_law_3890 (lv_at hl 0 rfl) ?_
  refine lv_iconst (v := 1) hx hb dL_law_3892 (by decide) ?_
  refine lv_iadd hx hb dL_law_3893 ?_
  refine lv_topi (fun x_1 ex_1 => ?_)
  obtain rfl : x_1 = 1 := ex_1.trans (by decide)
  refine va_sld hx hb hX hbl hbA hS (i := 1) (by unfold vp_in; decide) dL_law_3894 ?_
  refine W.eq (g2 := F0 m 3895 ls [.int (xs 1), .ref h0]) rfl ?_
  have f_2 := free_of (wc := [(h0, .inr (11, [.ref h1, .ref h2, .ref (g 2), .ref (g 3), .ref (g 4), .ref (g 5), .ref (g 6), .int 0, .int 0, .int 0, .int 0])), (h1, .inr (6, [.ref (gn 0), .int 0, .ref (gn 2), .ref (gn 3), .int 0, .ref (gn 5), .int 0, .int 0])), (h2, .inr (1, [.ref h1, .ref (gb 1), .int 0]))]) hD hS hA [0, 1, 2] rfl
  refine va_calli (va_runV (As := [.int (xs 1)]) (rest := []) ⟨hx, hb, hml, hown, hts⟩ (c_x_status_e l D a1 a2 H.size h0 h1 h2 g gn gb (xs 1) hv0 hv1) (cwV 1 hts (gV w_826 w_827 w_828 w_8 w_829) rfl rfl rfl (by decide +kernel) ⟨Nat.le_of_ble_eq_true rfl, Nat.le_of_ble_eq_true rfl⟩) (pre_V hK hP hD hS hA hE [0, 1, 2] rfl (by decide) rfl [] rfl (ci := 11) (q0 := 0) rfl rfl) rfl rfl hl.1 rfl (lv_room (Nat.le_of_ble_eq_true rfl)) dL_law_3895 ⟨Nat.le_of_ble_eq_true rfl, Nat.le_of_ble_eq_true rfl⟩) hS (fun q _ h => f_2 q h) f_2 (fun r_3 u_4 t H1 locs ht hvm h_5 hB hz1 hk1 hS => ?_)
  obtain ⟨hP, hD⟩ := join (wc := [(h0, .inr (11, [.ref h1, .ref h2, .ref (g 2), .ref (g 3), .ref (g 4), .ref (g 5), .ref (g 6), .int 0, .int 0, .int 0, .int 0])), (h1, .inr (6, [.ref (gn 0), .int 0, .ref (gn 2), .ref (gn 3), .int 0, .ref (gn 5), .int 0, .int 0])), (h2, .inr (1, [.ref h1, .ref (gb 1), .int 0]))]) (wr := [(gn 0, .inl (kP, 6, .inr (.inr (.inr (.inr (fun _ => none)))))), (hm, .inr (12, [.int 0, .ref hr, .int 0, .int 0, .int 0, .int 0, .int 0, .ref (gm 7), .ref (gm 8), .ref (gm 9), .ref (gm 10), .ref (gm 11), .ref (gm 12), .ref (gm 13), .ref (gm 14), .int 0, .ref (gm 16), .int 0, .int 0, .int 0, .ref (gm 20), .ref (gm 21), .int 0, .int 0, .int 0, .int 0, .int 0, .int 0, .ref (gm 28), .ref (gm 29)])), (hr, .inl (kI, 2, .inl (fun _ => 0))), (gm 7, .inl (kA, 6, .inr (.inr (.inr (.inr F))))), (rr, .inl (kY, 5, .inl (fun _ => 0))), (o, .inl (kL, 1, .inr (.inl (fun _ => 0))))]) (w1 := []) hP hD f_2 [0, 1, 2] [3, 4, 5, 6, 7, 8] rfl rfl (by decide) (by decide) hk1 ht wat_nil
  generalize H1 = H at hP hS ⊢
  have hP : va_P D vwCl [(gn 0, .inl (kP, 6, .inr (.inr (.inr (.inr (fun _ => none)))))), (hm, .inr (12, [.int 0, .ref hr, .int 0, .int 0, .int 0, .int 0, .int 0, .ref (gm 7), .ref (gm 8), .ref (gm 9), .ref (gm 10), .ref (gm 11), .ref (gm 12), .ref (gm 13), .ref (gm 14), .int 0, .ref (gm 16), .int 0, .int 0, .int 0, .ref (gm 20), .ref (gm 21), .int 0, .int 0, .int 0, .int 0, .int 0, .int 0, .ref (gm 28), .ref (gm 29)])), (hr, .inl (kI, 2, .inl (fun _ => 0))), (gm 7, .inl (kA, 6, .inr (.inr (.inr (.inr F))))), (rr, .inl (kY, 5, .inl (fun _ => 0))), (o, .inl (kL, 1, .inr (.inl (fun _ => 0))))] H := hP
  have hD : va_D (fun q : Nat => s.heap.size ≤ q) [(gn 0, .inl (kP, 6, .inr (.inr (.inr (.inr (fun _ => none)))))), (hm, .inr (12, [.int 0, .ref hr, .int 0, .int 0, .int 0, .int 0, .int 0, .ref (gm 7), .ref (gm 8), .ref (gm 9), .ref (gm 10), .ref (gm 11), .ref (gm 12), .ref (gm 13), .ref (gm 14), .int 0, .ref (gm 16), .int 0, .int 0, .int 0, .ref (gm 20), .ref (gm 21), .int 0, .int 0, .int 0, .int 0, .int 0, .int 0, .ref (gm 28), .ref (gm 29)])), (hr, .inl (kI, 2, .inl (fun _ => 0))), (gm 7, .inl (kA, 6, .inr (.inr (.inr (.inr F))))), (rr, .inl (kY, 5, .inl (fun _ => 0))), (o, .inl (kL, 1, .inr (.inl (fun _ => 0))))] := hD
  obtain rfl := h_5
  refine lv_aload_n hx hb dL_law_3898 rfl (lv_at hl 2 rfl) ?_
  refine lv_aload_n hx hb dL_law_3899 rfl (lv_at hl 4 rfl) ?_
  refine lv_iload hx hb dL_law_3900 (lv_at hl 0 rfl) ?_
  refine lv_iconst (v := 1) hx hb dL_law_3902 (by decide) ?_
  refine lv_iadd hx hb dL_law_3903 ?_
  refine lv_topi (fun x_6 ex_6 => ?_)
  obtain rfl : x_6 = 1 := ex_6.trans (by decide)
  refine va_sld hx hb hX hbl hbA hS (i := 1) (by unfold vp_in; decide) dL_law_3904 ?_
  refine W.eq (g2 := F0 m 3905 ls [.int (xs 1), .ref hm, .int (-1)]) rfl ?_
  have f_7 := free_of (wc := [(hm, .inr (12, [.int 0, .ref hr, .int 0, .int 0, .int 0, .int 0, .int 0, .ref (gm 7), .ref (gm 8), .ref (gm 9), .ref (gm 10), .ref (gm 11), .ref (gm 12), .ref (gm 13), .ref (gm 14), .int 0, .ref (gm 16), .int 0, .int 0, .int 0, .ref (gm 20), .ref (gm 21), .int 0, .int 0, .int 0, .int 0, .int 0, .int 0, .ref (gm 28), .ref (gm 29)])), (hr, .inl (kI, 2, .inl (fun _ => 0)))]) hD hS hA [1, 2] rfl
  refine va_calli (va_runV (As := [.int (xs 1)]) (rest := [.int (-1)]) ⟨hx, hb, hml, hown, hts⟩ (c_m_status_e l D a1 a2 H.size hm hr gm kI (xs 1) hv0 hv1) (cwV 1 hts (gV w_830 w_831 w_832 w_244 w_833) rfl rfl rfl (by decide +kernel) ⟨Nat.le_of_ble_eq_true rfl, Nat.le_of_ble_eq_true rfl⟩) (pre_V hK hP hD hS hA hE [1, 2] rfl (by decide) rfl [1] rfl (ci := 12) (q0 := 1) rfl rfl) rfl rfl hl.1 rfl (lv_room (Nat.le_of_ble_eq_true rfl)) dL_law_3905 ⟨Nat.le_of_ble_eq_true rfl, Nat.le_of_ble_eq_true rfl⟩) hS (fun q _ h => f_7 q h) f_7 (fun r_8 u_9 t H1 locs ht hvm h_10 hB hz1 hk1 hS => ?_)
  obtain ⟨hP, hD⟩ := join (wc := [(hm, .inr (12, [.int 0, .ref hr, .int 0, .int 0, .int 0, .int 0, .int 0, .ref (gm 7), .ref (gm 8), .ref (gm 9), .ref (gm 10), .ref (gm 11), .ref (gm 12), .ref (gm 13), .ref (gm 14), .int 0, .ref (gm 16), .int 0, .int 0, .int 0, .ref (gm 20), .ref (gm 21), .int 0, .int 0, .int 0, .int 0, .int 0, .int 0, .ref (gm 28), .ref (gm 29)])), (hr, .inl (kI, 2, .inl (fun _ => 0)))]) (wr := [(gn 0, .inl (kP, 6, .inr (.inr (.inr (.inr (fun _ => none)))))), (gm 7, .inl (kA, 6, .inr (.inr (.inr (.inr F))))), (rr, .inl (kY, 5, .inl (fun _ => 0))), (o, .inl (kL, 1, .inr (.inl (fun _ => 0))))]) (w1 := [(hm, .inr (12, u_9))]) hP hD f_7 [1, 2] [0, 3, 4, 5] rfl rfl (by decide) (by decide) hk1 ht hB
  generalize H1 = H at hP hS ⊢
  have hP : va_P D vwCl [(gn 0, .inl (kP, 6, .inr (.inr (.inr (.inr (fun _ => none)))))), (gm 7, .inl (kA, 6, .inr (.inr (.inr (.inr F))))), (rr, .inl (kY, 5, .inl (fun _ => 0))), (o, .inl (kL, 1, .inr (.inl (fun _ => 0)))), (hm, .inr (12, u_9))] H := hP
  have hD : va_D (fun q : Nat => s.heap.size ≤ q) [(gn 0, .inl (kP, 6, .inr (.inr (.inr (.inr (fun _ => none)))))), (gm 7, .inl (kA, 6, .inr (.inr (.inr (.inr F))))), (rr, .inl (kY, 5, .inl (fun _ => 0))), (o, .inl (kL, 1, .inr (.inl (fun _ => 0)))), (hm, .inr (12, u_9))] := hD
  obtain ⟨rfl, h_10⟩ := h_10
  refine lv_icmp_eq (tgt := 3913) hx hb dL_law_3908 (by decide) (fun _ => ?_) (fun c => absurd (by decide) c)
  exact law_tail hx hb hr_ hlocks hX hbl hS (Nat.le_of_ble_eq_true rfl) (Nat.le_of_ble_eq_true rfl) (lv_sub hl [0, 4] rfl)
