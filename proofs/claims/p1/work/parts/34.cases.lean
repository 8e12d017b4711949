set_option maxRecDepth 100000 in
set_option maxHeartbeats 4000000 in
theorem case_42 {p : Program} {l : Launch} (hl9 : l.stackTraces = false) {e : Env} {s : State} {m : MethodId} {below : List Frame} {meth : Method} {c : Code} {D : va_G} {a1 a2 b : Nat} {xs : Nat → Int32} {H : Heap} {locs : List Loc} {ls : Array Slot} (h0 h1 h2 : Nat) (g gn gb : Nat → Nat) (kP : ClassId) (hm hr rr : Nat) (gm : Nat → Nat) (kI kA kY : ClassId) (F : Nat → Option Nat) (o : Nat) (kL : ClassId) (hG : LawSt D a1 a2 p s m meth c b xs H locs ls h0 h1 h2 g gn gb kP hm hr rr gm kI kA kY F o kL) : W p l e room_1 s m #[Value.ref b] below meth c H locs 5338 65502 (lw_Z below #[Value.ref b] s) (F0 m 3217 ls []) := by
  obtain ⟨hx, hb, hr_, hml, hown, hts, hX, hbl, hlocks, hP, hK, hD, hA, hE, hS, hF, hl⟩ := hG
  have hbA : ¬ (fun q : Nat => s.heap.size ≤ q) b := Nat.not_le.mpr hbl
  refine lv_aload_n hx hb dL_law_3217 rfl (lv_at hl 3 rfl) ?_
  refine lv_aload_n hx hb dL_law_3218 rfl (lv_at hl 4 rfl) ?_
  refine lv_iload hx hb dL_law_3219 (lv_at hl 0 rfl) ?_
  refine lv_iconst (v := 1) hx hb dL_law_3221 (by decide) ?_
  refine lv_iadd hx hb dL_law_3222 ?_
  refine lv_topi (fun x_1 ex_1 => ?_)
  obtain rfl : x_1 = 1 := ex_1.trans (by decide)
  refine va_sld hx hb hX hbl hbA hS (i := 1) (by unfold vp_in; decide) dL_law_3223 ?_
  refine W.eq (g2 := F0 m 3224 ls [.int (xs 1), .ref h0]) rfl ?_
  refine lv_aload_n hx hb dL_law_3224 rfl (lv_at hl 1 rfl) ?_
  have f_2 := free_of (wc := [(h0, .inr (11, [.ref h1, .ref h2, .ref (g 2), .ref (g 3), .ref (g 4), .ref (g 5), .ref (g 6), .int 0, .int 0, .int 0, .int 0])), (h1, .inr (6, [.ref (gn 0), .int 0, .ref (gn 2), .ref (gn 3), .int 0, .ref (gn 5), .int 0, .int 0])), (h2, .inr (1, [.ref h1, .ref (gb 1), .int 0]))]) hD hS hA [0, 1, 2] rfl
  refine vx_calli (vx_runSX (As := [.ref h0, .int (xs 1), .ref o]) (rest := []) ⟨hx, hb, hml, hown, hts⟩ (c_h_fewest l hl9 D a1 a2 H.size h0 h1 h2 g gn gb (xs 1) o) (vx_cwSW 3 hts (gSW w_728 w_729 w_450 w_730) rfl rfl rfl (by decide +kernel) ⟨Nat.le_of_ble_eq_true rfl, Nat.le_of_ble_eq_true rfl⟩) (pre_S hK hP hD hS hA hE [0, 1, 2] rfl (by decide) rfl [] rfl) rfl rfl hl.1 rfl (lv_room (Nat.le_of_ble_eq_true rfl)) dL_law_3225 ⟨Nat.le_of_ble_eq_true rfl, Nat.le_of_ble_eq_true rfl⟩) hS (fun q _ h => f_2 q h) f_2 (fun q _ h => f_2 q h) (fun E ce q9 u9 t H locs ht hvm hw hB hz1 hk1 hS hce hcv hcl => False.elim hw) (fun r_3 u_4 t H1 locs ht hvm h_5 hB hz1 hk1 hS => ?_)
  obtain ⟨hP, hD⟩ := join (wc := [(h0, .inr (11, [.ref h1, .ref h2, .ref (g 2), .ref (g 3), .ref (g 4), .ref (g 5), .ref (g 6), .int 0, .int 0, .int 0, .int 0])), (h1, .inr (6, [.ref (gn 0), .int 0, .ref (gn 2), .ref (gn 3), .int 0, .ref (gn 5), .int 0, .int 0])), (h2, .inr (1, [.ref h1, .ref (gb 1), .int 0]))]) (wr := [(gn 0, .inl (kP, 6, .inr (.inr (.inr (.inr (fun _ => none)))))), (hm, .inr (12, [.int 0, .ref hr, .int 0, .int 0, .int 0, .int 0, .int 0, .ref (gm 7), .ref (gm 8), .ref (gm 9), .ref (gm 10), .ref (gm 11), .ref (gm 12), .ref (gm 13), .ref (gm 14), .int 0, .ref (gm 16), .int 0, .int 0, .int 0, .ref (gm 20), .ref (gm 21), .int 0, .int 0, .int 0, .int 0, .int 0, .int 0, .ref (gm 28), .ref (gm 29)])), (hr, .inl (kI, 2, .inl (fun _ => 0))), (gm 7, .inl (kA, 6, .inr (.inr (.inr (.inr F))))), (rr, .inl (kY, 5, .inl (fun _ => 0))), (o, .inl (kL, 1, .inr (.inl (fun _ => 0))))]) (w1 := []) hP hD f_2 [0, 1, 2] [3, 4, 5, 6, 7, 8] rfl rfl (by decide) (by decide) hk1 ht wat_nil
  generalize H1 = H at hP hS ⊢
  have hP : va_P D vwCl [(gn 0, .inl (kP, 6, .inr (.inr (.inr (.inr (fun _ => none)))))), (hm, .inr (12, [.int 0, .ref hr, .int 0, .int 0, .int 0, .int 0, .int 0, .ref (gm 7), .ref (gm 8), .ref (gm 9), .ref (gm 10), .ref (gm 11), .ref (gm 12), .ref (gm 13), .ref (gm 14), .int 0, .ref (gm 16), .int 0, .int 0, .int 0, .ref (gm 20), .ref (gm 21), .int 0, .int 0, .int 0, .int 0, .int 0, .int 0, .ref (gm 28), .ref (gm 29)])), (hr, .inl (kI, 2, .inl (fun _ => 0))), (gm 7, .inl (kA, 6, .inr (.inr (.inr (.inr F))))), (rr, .inl (kY, 5, .inl (fun _ => 0))), (o, .inl (kL, 1, .inr (.inl (fun _ => 0))))] H := hP
  have hD : va_D (fun q : Nat => s.heap.size ≤ q) [(gn 0, .inl (kP, 6, .inr (.inr (.inr (.inr (fun _ => none)))))), (hm, .inr (12, [.int 0, .ref hr, .int 0, .int 0, .int 0, .int 0, .int 0, .ref (gm 7), .ref (gm 8), .ref (gm 9), .ref (gm 10), .ref (gm 11), .ref (gm 12), .ref (gm 13), .ref (gm 14), .int 0, .ref (gm 16), .int 0, .int 0, .int 0, .ref (gm 20), .ref (gm 21), .int 0, .int 0, .int 0, .int 0, .int 0, .int 0, .ref (gm 28), .ref (gm 29)])), (hr, .inl (kI, 2, .inl (fun _ => 0))), (gm 7, .inl (kA, 6, .inr (.inr (.inr (.inr F))))), (rr, .inl (kY, 5, .inl (fun _ => 0))), (o, .inl (kL, 1, .inr (.inl (fun _ => 0))))] := hD
  obtain rfl := h_5
  refine lv_istore (lv' := [(5, .int 1), (4, .int 0), (3, .ref o), (2, .ref hm), (1, .ref h0), (0, .ref b)]) hx hb dL_law_3228 hl (by decide) rfl (fun ls hl => ?_)
  refine lv_aload_n hx hb dL_law_3230 rfl (lv_at hl 3 rfl) ?_
  refine lv_aload_n hx hb dL_law_3231 rfl (lv_at hl 5 rfl) ?_
  refine lv_iload hx hb dL_law_3232 (lv_at hl 1 rfl) ?_
  refine lv_iconst (v := 1) hx hb dL_law_3234 (by decide) ?_
  refine lv_iadd hx hb dL_law_3235 ?_
  refine lv_topi (fun x_6 ex_6 => ?_)
  obtain rfl : x_6 = 1 := ex_6.trans (by decide)
  refine va_sld hx hb hX hbl hbA hS (i := 1) (by unfold vp_in; decide) dL_law_3236 ?_
  refine W.eq (g2 := F0 m 3237 ls [.int (xs 1), .ref hm]) rfl ?_
  have f_7 := free_of (wc := [(hm, .inr (12, [.int 0, .ref hr, .int 0, .int 0, .int 0, .int 0, .int 0, .ref (gm 7), .ref (gm 8), .ref (gm 9), .ref (gm 10), .ref (gm 11), .ref (gm 12), .ref (gm 13), .ref (gm 14), .int 0, .ref (gm 16), .int 0, .int 0, .int 0, .ref (gm 20), .ref (gm 21), .int 0, .int 0, .int 0, .int 0, .int 0, .int 0, .ref (gm 28), .ref (gm 29)])), (hr, .inl (kI, 2, .inl (fun _ => 0)))]) hD hS hA [1, 2] rfl
  refine va_calli (va_runV (As := [.int (xs 1)]) (rest := []) ⟨hx, hb, hml, hown, hts⟩ (c_m_fewest l D a1 a2 H.size hm hr gm kI (xs 1)) (cwV 1 hts (gV w_731 w_732 w_733 w_244 w_734) rfl rfl rfl (by decide +kernel) ⟨Nat.le_of_ble_eq_true rfl, Nat.le_of_ble_eq_true rfl⟩) (pre_V hK hP hD hS hA hE [1, 2] rfl (by decide) rfl [1] rfl (ci := 12) (q0 := 1) rfl rfl) rfl rfl hl.1 rfl (lv_room (Nat.le_of_ble_eq_true rfl)) dL_law_3237 ⟨Nat.le_of_ble_eq_true rfl, Nat.le_of_ble_eq_true rfl⟩) hS (fun q _ h => f_7 q h) f_7 (fun r_8 u_9 t H1 locs ht hvm h_10 hB hz1 hk1 hS => ?_)
  obtain ⟨hP, hD⟩ := join (wc := [(hm, .inr (12, [.int 0, .ref hr, .int 0, .int 0, .int 0, .int 0, .int 0, .ref (gm 7), .ref (gm 8), .ref (gm 9), .ref (gm 10), .ref (gm 11), .ref (gm 12), .ref (gm 13), .ref (gm 14), .int 0, .ref (gm 16), .int 0, .int 0, .int 0, .ref (gm 20), .ref (gm 21), .int 0, .int 0, .int 0, .int 0, .int 0, .int 0, .ref (gm 28), .ref (gm 29)])), (hr, .inl (kI, 2, .inl (fun _ => 0)))]) (wr := [(gn 0, .inl (kP, 6, .inr (.inr (.inr (.inr (fun _ => none)))))), (gm 7, .inl (kA, 6, .inr (.inr (.inr (.inr F))))), (rr, .inl (kY, 5, .inl (fun _ => 0))), (o, .inl (kL, 1, .inr (.inl (fun _ => 0))))]) (w1 := [(hm, .inr (12, u_9))]) hP hD f_7 [1, 2] [0, 3, 4, 5] rfl rfl (by decide) (by decide) hk1 ht hB
  generalize H1 = H at hP hS ⊢
  have hP : va_P D vwCl [(gn 0, .inl (kP, 6, .inr (.inr (.inr (.inr (fun _ => none)))))), (gm 7, .inl (kA, 6, .inr (.inr (.inr (.inr F))))), (rr, .inl (kY, 5, .inl (fun _ => 0))), (o, .inl (kL, 1, .inr (.inl (fun _ => 0)))), (hm, .inr (12, u_9))] H := hP
  have hD : va_D (fun q : Nat => s.heap.size ≤ q) [(gn 0, .inl (kP, 6, .inr (.inr (.inr (.inr (fun _ => none)))))), (gm 7, .inl (kA, 6, .inr (.inr (.inr (.inr F))))), (rr, .inl (kY, 5, .inl (fun _ => 0))), (o, .inl (kL, 1, .inr (.inl (fun _ => 0)))), (hm, .inr (12, u_9))] := hD
  refine lv_istore (lv' := [(6, .int r_8), (5, .int 1), (4, .int 0), (3, .ref o), (2, .ref hm), (1, .ref h0), (0, .ref b)]) hx hb dL_law_3240 hl (by decide) rfl (fun ls hl => ?_)
  refine lv_aload_n hx hb dL_law_3242 rfl (lv_at hl 4 rfl) ?_
  have f_11 := free_of (wc := [(hm, .inr (12, u_9))]) hD hS hA [4] rfl
  refine va_calli (va_runV (As := []) (rest := []) ⟨hx, hb, hml, hown, hts⟩ (c_thrown l D a1 a2 H.size hm u_9 1 h_10) (cwV 0 hts (gV w_458 w_459 w_460 w_244 w_461) rfl rfl rfl (by decide +kernel) ⟨Nat.le_of_ble_eq_true rfl, Nat.le_of_ble_eq_true rfl⟩) (pre_V hK hP hD hS hA hE [4] rfl (by decide) rfl [] rfl (ci := 12) (q0 := 4) rfl rfl) rfl rfl hl.1 rfl (lv_room (Nat.le_of_ble_eq_true rfl)) dL_law_3243 ⟨Nat.le_of_ble_eq_true rfl, Nat.le_of_ble_eq_true rfl⟩) hS (fun q _ h => f_11 q h) f_11 (fun r_12 u_13 t H1 locs ht hvm h_14 hB hz1 hk1 hS => ?_)
  obtain ⟨hP, hD⟩ := join (wc := [(hm, .inr (12, u_9))]) (wr := [(gn 0, .inl (kP, 6, .inr (.inr (.inr (.inr (fun _ => none)))))), (gm 7, .inl (kA, 6, .inr (.inr (.inr (.inr F))))), (rr, .inl (kY, 5, .inl (fun _ => 0))), (o, .inl (kL, 1, .inr (.inl (fun _ => 0))))]) (w1 := [(hm, .inr (12, u_9))]) hP hD f_11 [4] [0, 1, 2, 3] rfl rfl (by decide) (by decide) hk1 ht hB
  generalize H1 = H at hP hS ⊢
  have hP : va_P D vwCl [(gn 0, .inl (kP, 6, .inr (.inr (.inr (.inr (fun _ => none)))))), (gm 7, .inl (kA, 6, .inr (.inr (.inr (.inr F))))), (rr, .inl (kY, 5, .inl (fun _ => 0))), (o, .inl (kL, 1, .inr (.inl (fun _ => 0)))), (hm, .inr (12, u_9))] H := hP
  have hD : va_D (fun q : Nat => s.heap.size ≤ q) [(gn 0, .inl (kP, 6, .inr (.inr (.inr (.inr (fun _ => none)))))), (gm 7, .inl (kA, 6, .inr (.inr (.inr (.inr F))))), (rr, .inl (kY, 5, .inl (fun _ => 0))), (o, .inl (kL, 1, .inr (.inl (fun _ => 0)))), (hm, .inr (12, u_9))] := hD
  obtain rfl := h_14
  refine lv_iload hx hb dL_law_3246 (lv_at hl 1 rfl) ?_
  refine lv_icmp_eq (tgt := 3253) hx hb dL_law_3248 (by decide) (fun _ => ?_) (fun c => absurd (by decide) c)
  refine lv_iload hx hb dL_law_3253 (lv_at hl 1 rfl) ?_
  refine lv_if_ne (tgt := 3270) hx hb dL_law_3255 (by decide) (fun _ => ?_) (fun c => absurd c (by decide))
  refine lv_goto (tgt := 3913) hx hb dL_law_3270 (by decide) ?_
  exact law_tail hx hb hr_ hlocks hX hbl hS (Nat.le_of_ble_eq_true rfl) (Nat.le_of_ble_eq_true rfl) (lv_sub hl [2, 6] rfl)
set_option maxRecDepth 100000 in
set_option maxHeartbeats 4000000 in
theorem case_43 {p : Program} {l : Launch} (hl9 : l.stackTraces = false) {e : Env} {s : State} {m : MethodId} {below : List Frame} {meth : Method} {c : Code} {D : va_G} {a1 a2 b : Nat} {xs : Nat → Int32} {H : Heap} {locs : List Loc} {ls : Array Slot} (h0 h1 h2 : Nat) (g gn gb : Nat → Nat) (kP : ClassId) (hm hr rr : Nat) (gm : Nat → Nat) (kI kA kY : ClassId) (F : Nat → Option Nat) (o : Nat) (kL : ClassId) (hG : LawSt D a1 a2 p s m meth c b xs H locs ls h0 h1 h2 g gn gb kP hm hr rr gm kI kA kY F o kL) : W p l e room_1 s m #[Value.ref b] below meth c H locs 5338 65502 (lw_Z below #[Value.ref b] s) (F0 m 3273 ls []) := by
  obtain ⟨hx, hb, hr_, hml, hown, hts, hX, hbl, hlocks, hP, hK, hD, hA, hE, hS, hF, hl⟩ := hG
  have hbA : ¬ (fun q : Nat => s.heap.size ≤ q) b := Nat.not_le.mpr hbl
  refine lv_aload_n hx hb dL_law_3273 rfl (lv_at hl 3 rfl) ?_
  refine lv_aload_n hx hb dL_law_3274 rfl (lv_at hl 4 rfl) ?_
  refine lv_iload hx hb dL_law_3275 (lv_at hl 0 rfl) ?_
  refine lv_iconst (v := 1) hx hb dL_law_3277 (by decide) ?_
  refine lv_iadd hx hb dL_law_3278 ?_
  refine lv_topi (fun x_1 ex_1 => ?_)
  obtain rfl : x_1 = 1 := ex_1.trans (by decide)
  refine va_sld hx hb hX hbl hbA hS (i := 1) (by unfold vp_in; decide) dL_law_3279 ?_
  refine W.eq (g2 := F0 m 3280 ls [.int (xs 1), .ref h0]) rfl ?_
  refine lv_aload_n hx hb dL_law_3280 rfl (lv_at hl 1 rfl) ?_
  have f_2 := free_of (wc := [(h0, .inr (11, [.ref h1, .ref h2, .ref (g 2), .ref (g 3), .ref (g 4), .ref (g 5), .ref (g 6), .int 0, .int 0, .int 0, .int 0])), (h1, .inr (6, [.ref (gn 0), .int 0, .ref (gn 2), .ref (gn 3), .int 0, .ref (gn 5), .int 0, .int 0])), (h2, .inr (1, [.ref h1, .ref (gb 1), .int 0]))]) hD hS hA [0, 1, 2] rfl
  refine vx_calli (vx_runSX (As := [.ref h0, .int (xs 1), .ref o]) (rest := []) ⟨hx, hb, hml, hown, hts⟩ (c_h_delay l hl9 D a1 a2 H.size h0 h1 h2 g gn gb (xs 1) o) (vx_cwSW 3 hts (gSW w_735 w_736 w_450 w_737) rfl rfl rfl (by decide +kernel) ⟨Nat.le_of_ble_eq_true rfl, Nat.le_of_ble_eq_true rfl⟩) (pre_S hK hP hD hS hA hE [0, 1, 2] rfl (by decide) rfl [] rfl) rfl rfl hl.1 rfl (lv_room (Nat.le_of_ble_eq_true rfl)) dL_law_3281 ⟨Nat.le_of_ble_eq_true rfl, Nat.le_of_ble_eq_true rfl⟩) hS (fun q _ h => f_2 q h) f_2 (fun q _ h => f_2 q h) (fun E ce q9 u9 t H locs ht hvm hw hB hz1 hk1 hS hce hcv hcl => False.elim hw) (fun r_3 u_4 t H1 locs ht hvm h_5 hB hz1 hk1 hS => ?_)
  obtain ⟨hP, hD⟩ := join (wc := [(h0, .inr (11, [.ref h1, .ref h2, .ref (g 2), .ref (g 3), .ref (g 4), .ref (g 5), .ref (g 6), .int 0, .int 0, .int 0, .int 0])), (h1, .inr (6, [.ref (gn 0), .int 0, .ref (gn 2), .ref (gn 3), .int 0, .ref (gn 5), .int 0, .int 0])), (h2, .inr (1, [.ref h1, .ref (gb 1), .int 0]))]) (wr := [(gn 0, .inl (kP, 6, .inr (.inr (.inr (.inr (fun _ => none)))))), (hm, .inr (12, [.int 0, .ref hr, .int 0, .int 0, .int 0, .int 0, .int 0, .ref (gm 7), .ref (gm 8), .ref (gm 9), .ref (gm 10), .ref (gm 11), .ref (gm 12), .ref (gm 13), .ref (gm 14), .int 0, .ref (gm 16), .int 0, .int 0, .int 0, .ref (gm 20), .ref (gm 21), .int 0, .int 0, .int 0, .int 0, .int 0, .int 0, .ref (gm 28), .ref (gm 29)])), (hr, .inl (kI, 2, .inl (fun _ => 0))), (gm 7, .inl (kA, 6, .inr (.inr (.inr (.inr F))))), (rr, .inl (kY, 5, .inl (fun _ => 0))), (o, .inl (kL, 1, .inr (.inl (fun _ => 0))))]) (w1 := []) hP hD f_2 [0, 1, 2] [3, 4, 5, 6, 7, 8] rfl rfl (by decide) (by decide) hk1 ht wat_nil
  generalize H1 = H at hP hS ⊢
  have hP : va_P D vwCl [(gn 0, .inl (kP, 6, .inr (.inr (.inr (.inr (fun _ => none)))))), (hm, .inr (12, [.int 0, .ref hr, .int 0, .int 0, .int 0, .int 0, .int 0, .ref (gm 7), .ref (gm 8), .ref (gm 9), .ref (gm 10), .ref (gm 11), .ref (gm 12), .ref (gm 13), .ref (gm 14), .int 0, .ref (gm 16), .int 0, .int 0, .int 0, .ref (gm 20), .ref (gm 21), .int 0, .int 0, .int 0, .int 0, .int 0, .int 0, .ref (gm 28), .ref (gm 29)])), (hr, .inl (kI, 2, .inl (fun _ => 0))), (gm 7, .inl (kA, 6, .inr (.inr (.inr (.inr F))))), (rr, .inl (kY, 5, .inl (fun _ => 0))), (o, .inl (kL, 1, .inr (.inl (fun _ => 0))))] H := hP
  have hD : va_D (fun q : Nat => s.heap.size ≤ q) [(gn 0, .inl (kP, 6, .inr (.inr (.inr (.inr (fun _ => none)))))), (hm, .inr (12, [.int 0, .ref hr, .int 0, .int 0, .int 0, .int 0, .int 0, .ref (gm 7), .ref (gm 8), .ref (gm 9), .ref (gm 10), .ref (gm 11), .ref (gm 12), .ref (gm 13), .ref (gm 14), .int 0, .ref (gm 16), .int 0, .int 0, .int 0, .ref (gm 20), .ref (gm 21), .int 0, .int 0, .int 0, .int 0, .int 0, .int 0, .ref (gm 28), .ref (gm 29)])), (hr, .inl (kI, 2, .inl (fun _ => 0))), (gm 7, .inl (kA, 6, .inr (.inr (.inr (.inr F))))), (rr, .inl (kY, 5, .inl (fun _ => 0))), (o, .inl (kL, 1, .inr (.inl (fun _ => 0))))] := hD
  obtain rfl := h_5
  refine lv_istore (lv' := [(5, .int 1), (4, .int 0), (3, .ref o), (2, .ref hm), (1, .ref h0), (0, .ref b)]) hx hb dL_law_3284 hl (by decide) rfl (fun ls hl => ?_)
  refine lv_aload_n hx hb dL_law_3286 rfl (lv_at hl 3 rfl) ?_
  refine lv_aload_n hx hb dL_law_3287 rfl (lv_at hl 5 rfl) ?_
  refine lv_iload hx hb dL_law_3288 (lv_at hl 1 rfl) ?_
  refine lv_iconst (v := 1) hx hb dL_law_3290 (by decide) ?_
  refine lv_iadd hx hb dL_law_3291 ?_
  refine lv_topi (fun x_6 ex_6 => ?_)
  obtain rfl : x_6 = 1 := ex_6.trans (by decide)
  refine va_sld hx hb hX hbl hbA hS (i := 1) (by unfold vp_in; decide) dL_law_3292 ?_
  refine W.eq (g2 := F0 m 3293 ls [.int (xs 1), .ref hm]) rfl ?_
  have f_7 := free_of (wc := [(hm, .inr (12, [.int 0, .ref hr, .int 0, .int 0, .int 0, .int 0, .int 0, .ref (gm 7), .ref (gm 8), .ref (gm 9), .ref (gm 10), .ref (gm 11), .ref (gm 12), .ref (gm 13), .ref (gm 14), .int 0, .ref (gm 16), .int 0, .int 0, .int 0, .ref (gm 20), .ref (gm 21), .int 0, .int 0, .int 0, .int 0, .int 0, .int 0, .ref (gm 28), .ref (gm 29)])), (hr, .inl (kI, 2, .inl (fun _ => 0)))]) hD hS hA [1, 2] rfl
  refine va_calli (va_runV (As := [.int (xs 1)]) (rest := []) ⟨hx, hb, hml, hown, hts⟩ (c_m_delay l D a1 a2 H.size hm hr gm kI (xs 1)) (cwV 1 hts (gV w_738 w_739 w_740 w_244 w_741) rfl rfl rfl (by decide +kernel) ⟨Nat.le_of_ble_eq_true rfl, Nat.le_of_ble_eq_true rfl⟩) (pre_V hK hP hD hS hA hE [1, 2] rfl (by decide) rfl [1] rfl (ci := 12) (q0 := 1) rfl rfl) rfl rfl hl.1 rfl (lv_room (Nat.le_of_ble_eq_true rfl)) dL_law_3293 ⟨Nat.le_of_ble_eq_true rfl, Nat.le_of_ble_eq_true rfl⟩) hS (fun q _ h => f_7 q h) f_7 (fun r_8 u_9 t H1 locs ht hvm h_10 hB hz1 hk1 hS => ?_)
  obtain ⟨hP, hD⟩ := join (wc := [(hm, .inr (12, [.int 0, .ref hr, .int 0, .int 0, .int 0, .int 0, .int 0, .ref (gm 7), .ref (gm 8), .ref (gm 9), .ref (gm 10), .ref (gm 11), .ref (gm 12), .ref (gm 13), .ref (gm 14), .int 0, .ref (gm 16), .int 0, .int 0, .int 0, .ref (gm 20), .ref (gm 21), .int 0, .int 0, .int 0, .int 0, .int 0, .int 0, .ref (gm 28), .ref (gm 29)])), (hr, .inl (kI, 2, .inl (fun _ => 0)))]) (wr := [(gn 0, .inl (kP, 6, .inr (.inr (.inr (.inr (fun _ => none)))))), (gm 7, .inl (kA, 6, .inr (.inr (.inr (.inr F))))), (rr, .inl (kY, 5, .inl (fun _ => 0))), (o, .inl (kL, 1, .inr (.inl (fun _ => 0))))]) (w1 := [(hm, .inr (12, u_9))]) hP hD f_7 [1, 2] [0, 3, 4, 5] rfl rfl (by decide) (by decide) hk1 ht hB
  generalize H1 = H at hP hS ⊢
  have hP : va_P D vwCl [(gn 0, .inl (kP, 6, .inr (.inr (.inr (.inr (fun _ => none)))))), (gm 7, .inl (kA, 6, .inr (.inr (.inr (.inr F))))), (rr, .inl (kY, 5, .inl (fun _ => 0))), (o, .inl (kL, 1, .inr (.inl (fun _ => 0)))), (hm, .inr (12, u_9))] H := hP
  have hD : va_D (fun q : Nat => s.heap.size ≤ q) [(gn 0, .inl (kP, 6, .inr (.inr (.inr (.inr (fun _ => none)))))), (gm 7, .inl (kA, 6, .inr (.inr (.inr (.inr F))))), (rr, .inl (kY, 5, .inl (fun _ => 0))), (o, .inl (kL, 1, .inr (.inl (fun _ => 0)))), (hm, .inr (12, u_9))] := hD
  refine lv_istore (lv' := [(6, .int r_8), (5, .int 1), (4, .int 0), (3, .ref o), (2, .ref hm), (1, .ref h0), (0, .ref b)]) hx hb dL_law_3296 hl (by decide) rfl (fun ls hl => ?_)
  refine lv_aload_n hx hb dL_law_3298 rfl (lv_at hl 4 rfl) ?_
  have f_11 := free_of (wc := [(hm, .inr (12, u_9))]) hD hS hA [4] rfl
  refine va_calli (va_runV (As := []) (rest := []) ⟨hx, hb, hml, hown, hts⟩ (c_thrown l D a1 a2 H.size hm u_9 1 h_10) (cwV 0 hts (gV w_458 w_459 w_460 w_244 w_461) rfl rfl rfl (by decide +kernel) ⟨Nat.le_of_ble_eq_true rfl, Nat.le_of_ble_eq_true rfl⟩) (pre_V hK hP hD hS hA hE [4] rfl (by decide) rfl [] rfl (ci := 12) (q0 := 4) rfl rfl) rfl rfl hl.1 rfl (lv_room (Nat.le_of_ble_eq_true rfl)) dL_law_3299 ⟨Nat.le_of_ble_eq_true rfl, Nat.le_of_ble_eq_true rfl⟩) hS (fun q _ h => f_11 q h) f_11 (fun r_12 u_13 t H1 locs ht hvm h_14 hB hz1 hk1 hS => ?_)
  obtain ⟨hP, hD⟩ := join (wc := [(hm, .inr (12, u_9))]) (wr := [(gn 0, .inl (kP, 6, .inr (.inr (.inr (.inr (fun _ => none)))))), (gm 7, .inl (kA, 6, .inr (.inr (.inr (.inr F))))), (rr, .inl (kY, 5, .inl (fun _ => 0))), (o, .inl (kL, 1, .inr (.inl (fun _ => 0))))]) (w1 := [(hm, .inr (12, u_9))]) hP hD f_11 [4] [0, 1, 2, 3] rfl rfl (by decide) (by decide) hk1 ht hB
  generalize H1 = H at hP hS ⊢
  have hP : va_P D vwCl [(gn 0, .inl (kP, 6, .inr (.inr (.inr (.inr (fun _ => none)))))), (gm 7, .inl (kA, 6, .inr (.inr (.inr (.inr F))))), (rr, .inl (kY, 5, .inl (fun _ => 0))), (o, .inl (kL, 1, .inr (.inl (fun _ => 0)))), (hm, .inr (12, u_9))] H := hP
  have hD : va_D (fun q : Nat => s.heap.size ≤ q) [(gn 0, .inl (kP, 6, .inr (.inr (.inr (.inr (fun _ => none)))))), (gm 7, .inl (kA, 6, .inr (.inr (.inr (.inr F))))), (rr, .inl (kY, 5, .inl (fun _ => 0))), (o, .inl (kL, 1, .inr (.inl (fun _ => 0)))), (hm, .inr (12, u_9))] := hD
  obtain rfl := h_14
  refine lv_iload hx hb dL_law_3302 (lv_at hl 1 rfl) ?_
  refine lv_icmp_eq (tgt := 3309) hx hb dL_law_3304 (by decide) (fun _ => ?_) (fun c => absurd (by decide) c)
  refine lv_iload hx hb dL_law_3309 (lv_at hl 1 rfl) ?_
  refine lv_if_ne (tgt := 3326) hx hb dL_law_3311 (by decide) (fun _ => ?_) (fun c => absurd c (by decide))
  refine lv_goto (tgt := 3913) hx hb dL_law_3326 (by decide) ?_
  exact law_tail hx hb hr_ hlocks hX hbl hS (Nat.le_of_ble_eq_true rfl) (Nat.le_of_ble_eq_true rfl) (lv_sub hl [2, 6] rfl)
set_option maxRecDepth 100000 in
set_option maxHeartbeats 4000000 in
theorem case_44 {p : Program} {l : Launch} (hl9 : l.stackTraces = false) {e : Env} {s : State} {m : MethodId} {below : List Frame} {meth : Method} {c : Code} {D : va_G} {a1 a2 b : Nat} {xs : Nat → Int32} {H : Heap} {locs : List Loc} {ls : Array Slot} (h0 h1 h2 : Nat) (g gn gb : Nat → Nat) (kP : ClassId) (hm hr rr : Nat) (gm : Nat → Nat) (kI kA kY : ClassId) (F : Nat → Option Nat) (o : Nat) (kL : ClassId) (hG : LawSt D a1 a2 p s m meth c b xs H locs ls h0 h1 h2 g gn gb kP hm hr rr gm kI kA kY F o kL) : W p l e room_1 s m #[Value.ref b] below meth c H locs 5338 65502 (lw_Z below #[Value.ref b] s) (F0 m 3329 ls []) := by
  obtain ⟨hx, hb, hr_, hml, hown, hts, hX, hbl, hlocks, hP, hK, hD, hA, hE, hS, hF, hl⟩ := hG
  have hbA : ¬ (fun q : Nat => s.heap.size ≤ q) b := Nat.not_le.mpr hbl
  refine lv_aload_n hx hb dL_law_3329 rfl (lv_at hl 3 rfl) ?_
  refine lv_aload_n hx hb dL_law_3330 rfl (lv_at hl 4 rfl) ?_
  refine lv_iload hx hb dL_law_3331 (lv_at hl 0 rfl) ?_
  refine lv_iconst (v := 1) hx hb dL_law_3333 (by decide) ?_
  refine lv_iadd hx hb dL_law_3334 ?_
  refine lv_topi (fun x_1 ex_1 => ?_)
  obtain rfl : x_1 = 1 := ex_1.trans (by decide)
  refine va_sld hx hb hX hbl hbA hS (i := 1) (by unfold vp_in; decide) dL_law_3335 ?_
  refine W.eq (g2 := F0 m 3336 ls [.int (xs 1), .ref h0]) rfl ?_
  refine lv_aload_n hx hb dL_law_3336 rfl (lv_at hl 4 rfl) ?_
  refine lv_iload hx hb dL_law_3337 (lv_at hl 0 rfl) ?_
  refine lv_iconst (v := 2) hx hb dL_law_3339 (by decide) ?_
  refine lv_iadd hx hb dL_law_3340 ?_
  refine lv_topi (fun x_2 ex_2 => ?_)
  obtain rfl : x_2 = 2 := ex_2.trans (by decide)
  refine va_sld hx hb hX hbl hbA hS (i := 2) (by unfold vp_in; decide) dL_law_3341 ?_
  refine W.eq (g2 := F0 m 3342 ls [.int (xs 2), .int (xs 1), .ref h0]) rfl ?_
  refine lv_aload_n hx hb dL_law_3342 rfl (lv_at hl 1 rfl) ?_
  have f_3 := free_of (wc := [(h0, .inr (11, [.ref h1, .ref h2, .ref (g 2), .ref (g 3), .ref (g 4), .ref (g 5), .ref (g 6), .int 0, .int 0, .int 0, .int 0])), (h1, .inr (6, [.ref (gn 0), .int 0, .ref (gn 2), .ref (gn 3), .int 0, .ref (gn 5), .int 0, .int 0])), (h2, .inr (1, [.ref h1, .ref (gb 1), .int 0]))]) hD hS hA [0, 1, 2] rfl
  refine vx_calli (vx_runSX (As := [.ref h0, .int (xs 1), .int (xs 2), .ref o]) (rest := []) ⟨hx, hb, hml, hown, hts⟩ (c_h_bankOf l hl9 D a1 a2 H.size h0 h1 h2 g gn gb (xs 1) (xs 2) o) (vx_cwSW 4 hts (gSW w_742 w_743 w_450 w_744) rfl rfl rfl (by decide +kernel) ⟨Nat.le_of_ble_eq_true rfl, Nat.le_of_ble_eq_true rfl⟩) (pre_S hK hP hD hS hA hE [0, 1, 2] rfl (by decide) rfl [] rfl) rfl rfl hl.1 rfl (lv_room (Nat.le_of_ble_eq_true rfl)) dL_law_3343 ⟨Nat.le_of_ble_eq_true rfl, Nat.le_of_ble_eq_true rfl⟩) hS (fun q _ h => f_3 q h) f_3 (fun q _ h => f_3 q h) (fun E ce q9 u9 t H locs ht hvm hw hB hz1 hk1 hS hce hcv hcl => False.elim hw) (fun r_4 u_5 t H1 locs ht hvm h_6 hB hz1 hk1 hS => ?_)
  obtain ⟨hP, hD⟩ := join (wc := [(h0, .inr (11, [.ref h1, .ref h2, .ref (g 2), .ref (g 3), .ref (g 4), .ref (g 5), .ref (g 6), .int 0, .int 0, .int 0, .int 0])), (h1, .inr (6, [.ref (gn 0), .int 0, .ref (gn 2), .ref (gn 3), .int 0, .ref (gn 5), .int 0, .int 0])), (h2, .inr (1, [.ref h1, .ref (gb 1), .int 0]))]) (wr := [(gn 0, .inl (kP, 6, .inr (.inr (.inr (.inr (fun _ => none)))))), (hm, .inr (12, [.int 0, .ref hr, .int 0, .int 0, .int 0, .int 0, .int 0, .ref (gm 7), .ref (gm 8), .ref (gm 9), .ref (gm 10), .ref (gm 11), .ref (gm 12), .ref (gm 13), .ref (gm 14), .int 0, .ref (gm 16), .int 0, .int 0, .int 0, .ref (gm 20), .ref (gm 21), .int 0, .int 0, .int 0, .int 0, .int 0, .int 0, .ref (gm 28), .ref (gm 29)])), (hr, .inl (kI, 2, .inl (fun _ => 0))), (gm 7, .inl (kA, 6, .inr (.inr (.inr (.inr F))))), (rr, .inl (kY, 5, .inl (fun _ => 0))), (o, .inl (kL, 1, .inr (.inl (fun _ => 0))))]) (w1 := []) hP hD f_3 [0, 1, 2] [3, 4, 5, 6, 7, 8] rfl rfl (by decide) (by decide) hk1 ht wat_nil
  generalize H1 = H at hP hS ⊢
  have hP : va_P D vwCl [(gn 0, .inl (kP, 6, .inr (.inr (.inr (.inr (fun _ => none)))))), (hm, .inr (12, [.int 0, .ref hr, .int 0, .int 0, .int 0, .int 0, .int 0, .ref (gm 7), .ref (gm 8), .ref (gm 9), .ref (gm 10), .ref (gm 11), .ref (gm 12), .ref (gm 13), .ref (gm 14), .int 0, .ref (gm 16), .int 0, .int 0, .int 0, .ref (gm 20), .ref (gm 21), .int 0, .int 0, .int 0, .int 0, .int 0, .int 0, .ref (gm 28), .ref (gm 29)])), (hr, .inl (kI, 2, .inl (fun _ => 0))), (gm 7, .inl (kA, 6, .inr (.inr (.inr (.inr F))))), (rr, .inl (kY, 5, .inl (fun _ => 0))), (o, .inl (kL, 1, .inr (.inl (fun _ => 0))))] H := hP
  have hD : va_D (fun q : Nat => s.heap.size ≤ q) [(gn 0, .inl (kP, 6, .inr (.inr (.inr (.inr (fun _ => none)))))), (hm, .inr (12, [.int 0, .ref hr, .int 0, .int 0, .int 0, .int 0, .int 0, .ref (gm 7), .ref (gm 8), .ref (gm 9), .ref (gm 10), .ref (gm 11), .ref (gm 12), .ref (gm 13), .ref (gm 14), .int 0, .ref (gm 16), .int 0, .int 0, .int 0, .ref (gm 20), .ref (gm 21), .int 0, .int 0, .int 0, .int 0, .int 0, .int 0, .ref (gm 28), .ref (gm 29)])), (hr, .inl (kI, 2, .inl (fun _ => 0))), (gm 7, .inl (kA, 6, .inr (.inr (.inr (.inr F))))), (rr, .inl (kY, 5, .inl (fun _ => 0))), (o, .inl (kL, 1, .inr (.inl (fun _ => 0))))] := hD
  obtain rfl := h_6
  refine lv_istore (lv' := [(5, .int 1), (4, .int 0), (3, .ref o), (2, .ref hm), (1, .ref h0), (0, .ref b)]) hx hb dL_law_3346 hl (by decide) rfl (fun ls hl => ?_)
  refine lv_aload_n hx hb dL_law_3348 rfl (lv_at hl 3 rfl) ?_
  refine lv_aload_n hx hb dL_law_3349 rfl (lv_at hl 5 rfl) ?_
  refine lv_iload hx hb dL_law_3350 (lv_at hl 1 rfl) ?_
  refine lv_iconst (v := 1) hx hb dL_law_3352 (by decide) ?_
  refine lv_iadd hx hb dL_law_3353 ?_
  refine lv_topi (fun x_7 ex_7 => ?_)
  obtain rfl : x_7 = 1 := ex_7.trans (by decide)
  refine va_sld hx hb hX hbl hbA hS (i := 1) (by unfold vp_in; decide) dL_law_3354 ?_
  refine W.eq (g2 := F0 m 3355 ls [.int (xs 1), .ref hm]) rfl ?_
  refine lv_aload_n hx hb dL_law_3355 rfl (lv_at hl 5 rfl) ?_
  refine lv_iload hx hb dL_law_3356 (lv_at hl 1 rfl) ?_
  refine lv_iconst (v := 2) hx hb dL_law_3358 (by decide) ?_
  refine lv_iadd hx hb dL_law_3359 ?_
  refine lv_topi (fun x_8 ex_8 => ?_)
  obtain rfl : x_8 = 2 := ex_8.trans (by decide)
  refine va_sld hx hb hX hbl hbA hS (i := 2) (by unfold vp_in; decide) dL_law_3360 ?_
  refine W.eq (g2 := F0 m 3361 ls [.int (xs 2), .int (xs 1), .ref hm]) rfl ?_
  have f_9 := free_of (wc := [(hm, .inr (12, [.int 0, .ref hr, .int 0, .int 0, .int 0, .int 0, .int 0, .ref (gm 7), .ref (gm 8), .ref (gm 9), .ref (gm 10), .ref (gm 11), .ref (gm 12), .ref (gm 13), .ref (gm 14), .int 0, .ref (gm 16), .int 0, .int 0, .int 0, .ref (gm 20), .ref (gm 21), .int 0, .int 0, .int 0, .int 0, .int 0, .int 0, .ref (gm 28), .ref (gm 29)])), (hr, .inl (kI, 2, .inl (fun _ => 0)))]) hD hS hA [1, 2] rfl
  refine va_calll (va_runV (As := [.int (xs 1), .int (xs 2)]) (rest := []) ⟨hx, hb, hml, hown, hts⟩ (c_m_bankOf l D a1 a2 H.size hm hr gm kI (xs 1) (xs 2)) (cwV 2 hts (gV w_745 w_746 w_747 w_244 w_748) rfl rfl rfl (by decide +kernel) ⟨Nat.le_of_ble_eq_true rfl, Nat.le_of_ble_eq_true rfl⟩) (pre_V hK hP hD hS hA hE [1, 2] rfl (by decide) rfl [1] rfl (ci := 12) (q0 := 1) rfl rfl) rfl rfl hl.1 rfl (lv_room (Nat.le_of_ble_eq_true rfl)) dL_law_3361 ⟨Nat.le_of_ble_eq_true rfl, Nat.le_of_ble_eq_true rfl⟩) hS (fun q _ h => f_9 q h) f_9 (fun r_10 u_11 t H1 locs ht hvm h_12 hB hz1 hk1 hS => ?_)
  obtain ⟨hP, hD⟩ := join (wc := [(hm, .inr (12, [.int 0, .ref hr, .int 0, .int 0, .int 0, .int 0, .int 0, .ref (gm 7), .ref (gm 8), .ref (gm 9), .ref (gm 10), .ref (gm 11), .ref (gm 12), .ref (gm 13), .ref (gm 14), .int 0, .ref (gm 16), .int 0, .int 0, .int 0, .ref (gm 20), .ref (gm 21), .int 0, .int 0, .int 0, .int 0, .int 0, .int 0, .ref (gm 28), .ref (gm 29)])), (hr, .inl (kI, 2, .inl (fun _ => 0)))]) (wr := [(gn 0, .inl (kP, 6, .inr (.inr (.inr (.inr (fun _ => none)))))), (gm 7, .inl (kA, 6, .inr (.inr (.inr (.inr F))))), (rr, .inl (kY, 5, .inl (fun _ => 0))), (o, .inl (kL, 1, .inr (.inl (fun _ => 0))))]) (w1 := [(hm, .inr (12, u_11))]) hP hD f_9 [1, 2] [0, 3, 4, 5] rfl rfl (by decide) (by decide) hk1 ht hB
  generalize H1 = H at hP hS ⊢
  have hP : va_P D vwCl [(gn 0, .inl (kP, 6, .inr (.inr (.inr (.inr (fun _ => none)))))), (gm 7, .inl (kA, 6, .inr (.inr (.inr (.inr F))))), (rr, .inl (kY, 5, .inl (fun _ => 0))), (o, .inl (kL, 1, .inr (.inl (fun _ => 0)))), (hm, .inr (12, u_11))] H := hP
  have hD : va_D (fun q : Nat => s.heap.size ≤ q) [(gn 0, .inl (kP, 6, .inr (.inr (.inr (.inr (fun _ => none)))))), (gm 7, .inl (kA, 6, .inr (.inr (.inr (.inr F))))), (rr, .inl (kY, 5, .inl (fun _ => 0))), (o, .inl (kL, 1, .inr (.inl (fun _ => 0)))), (hm, .inr (12, u_11))] := hD
  refine lv_lstore (lv' := [(6, .long r_10), (5, .int 1), (4, .int 0), (3, .ref o), (2, .ref hm), (1, .ref h0), (0, .ref b)]) hx hb dL_law_3364 hl (by decide) rfl (fun ls hl => ?_)
  refine lv_aload_n hx hb dL_law_3366 rfl (lv_at hl 4 rfl) ?_
  have f_13 := free_of (wc := [(hm, .inr (12, u_11))]) hD hS hA [4] rfl
  refine va_calli (va_runV (As := []) (rest := []) ⟨hx, hb, hml, hown, hts⟩ (c_thrown l D a1 a2 H.size hm u_11 1 h_12) (cwV 0 hts (gV w_458 w_459 w_460 w_244 w_461) rfl rfl rfl (by decide +kernel) ⟨Nat.le_of_ble_eq_true rfl, Nat.le_of_ble_eq_true rfl⟩) (pre_V hK hP hD hS hA hE [4] rfl (by decide) rfl [] rfl (ci := 12) (q0 := 4) rfl rfl) rfl rfl hl.1 rfl (lv_room (Nat.le_of_ble_eq_true rfl)) dL_law_3367 ⟨Nat.le_of_ble_eq_true rfl, Nat.le_of_ble_eq_true rfl⟩) hS (fun q _ h => f_13 q h) f_13 (fun r_14 u_15 t H1 locs ht hvm h_16 hB hz1 hk1 hS => ?_)
  obtain ⟨hP, hD⟩ := join (wc := [(hm, .inr (12, u_11))]) (wr := [(gn 0, .inl (kP, 6, .inr (.inr (.inr (.inr (fun _ => none)))))), (gm 7, .inl (kA, 6, .inr (.inr (.inr (.inr F))))), (rr, .inl (kY, 5, .inl (fun _ => 0))), (o, .inl (kL, 1, .inr (.inl (fun _ => 0))))]) (w1 := [(hm, .inr (12, u_11))]) hP hD f_13 [4] [0, 1, 2, 3] rfl rfl (by decide) (by decide) hk1 ht hB
  generalize H1 = H at hP hS ⊢
  have hP : va_P D vwCl [(gn 0, .inl (kP, 6, .inr (.inr (.inr (.inr (fun _ => none)))))), (gm 7, .inl (kA, 6, .inr (.inr (.inr (.inr F))))), (rr, .inl (kY, 5, .inl (fun _ => 0))), (o, .inl (kL, 1, .inr (.inl (fun _ => 0)))), (hm, .inr (12, u_11))] H := hP
  have hD : va_D (fun q : Nat => s.heap.size ≤ q) [(gn 0, .inl (kP, 6, .inr (.inr (.inr (.inr (fun _ => none)))))), (gm 7, .inl (kA, 6, .inr (.inr (.inr (.inr F))))), (rr, .inl (kY, 5, .inl (fun _ => 0))), (o, .inl (kL, 1, .inr (.inl (fun _ => 0)))), (hm, .inr (12, u_11))] := hD
  obtain rfl := h_16
  refine lv_iload hx hb dL_law_3370 (lv_at hl 1 rfl) ?_
  refine lv_icmp_eq (tgt := 3377) hx hb dL_law_3372 (by decide) (fun _ => ?_) (fun c => absurd (by decide) c)
  refine lv_iload hx hb dL_law_3377 (lv_at hl 1 rfl) ?_
  refine lv_if_ne (tgt := 3393) hx hb dL_law_3379 (by decide) (fun _ => ?_) (fun c => absurd c (by decide))
  refine lv_goto (tgt := 3913) hx hb dL_law_3393 (by decide) ?_
  exact law_tail hx hb hr_ hlocks hX hbl hS (Nat.le_of_ble_eq_true rfl) (Nat.le_of_ble_eq_true rfl) (lv_sub hl [2, 6] rfl)
set_option maxRecDepth 100000 in
set_option maxHeartbeats 4000000 in
theorem case_45 {p : Program} {l : Launch} (hl9 : l.stackTraces = false) {e : Env} {s : State} {m : MethodId} {below : List Frame} {meth : Method} {c : Code} {D : va_G} {a1 a2 b : Nat} {xs : Nat → Int32} {H : Heap} {locs : List Loc} {ls : Array Slot} (h0 h1 h2 : Nat) (g gn gb : Nat → Nat) (kP : ClassId) (hm hr rr : Nat) (gm : Nat → Nat) (kI kA kY : ClassId) (F : Nat → Option Nat) (o : Nat) (kL : ClassId) (hG : LawSt D a1 a2 p s m meth c b xs H locs ls h0 h1 h2 g gn gb kP hm hr rr gm kI kA kY F o kL) : W p l e room_1 s m #[Value.ref b] below meth c H locs 5338 65502 (lw_Z below #[Value.ref b] s) (F0 m 3396 ls []) := by
  obtain ⟨hx, hb, hr_, hml, hown, hts, hX, hbl, hlocks, hP, hK, hD, hA, hE, hS, hF, hl⟩ := hG
  have hbA : ¬ (fun q : Nat => s.heap.size ≤ q) b := Nat.not_le.mpr hbl
  refine lv_aload_n hx hb dL_law_3396 rfl (lv_at hl 3 rfl) ?_
  refine lv_aload_n hx hb dL_law_3397 rfl (lv_at hl 4 rfl) ?_
  refine lv_iload hx hb dL_law_3398 (lv_at hl 0 rfl) ?_
  refine lv_iconst (v := 1) hx hb dL_law_3400 (by decide) ?_
  refine lv_iadd hx hb dL_law_3401 ?_
  refine lv_topi (fun x_1 ex_1 => ?_)
  obtain rfl : x_1 = 1 := ex_1.trans (by decide)
  refine va_sld hx hb hX hbl hbA hS (i := 1) (by unfold vp_in; decide) dL_law_3402 ?_
  refine W.eq (g2 := F0 m 3403 ls [.int (xs 1), .ref h0]) rfl ?_
  refine lv_aload_n hx hb dL_law_3403 rfl (lv_at hl 4 rfl) ?_
  refine lv_iload hx hb dL_law_3404 (lv_at hl 0 rfl) ?_
  refine lv_iconst (v := 2) hx hb dL_law_3406 (by decide) ?_
  refine lv_iadd hx hb dL_law_3407 ?_
  refine lv_topi (fun x_2 ex_2 => ?_)
  obtain rfl : x_2 = 2 := ex_2.trans (by decide)
  refine va_sld hx hb hX hbl hbA hS (i := 2) (by unfold vp_in; decide) dL_law_3408 ?_
  refine W.eq (g2 := F0 m 3409 ls [.int (xs 2), .int (xs 1), .ref h0]) rfl ?_
  refine lv_aload_n hx hb dL_law_3409 rfl (lv_at hl 1 rfl) ?_
  have f_3 := free_of (wc := [(h0, .inr (11, [.ref h1, .ref h2, .ref (g 2), .ref (g 3), .ref (g 4), .ref (g 5), .ref (g 6), .int 0, .int 0, .int 0, .int 0])), (h1, .inr (6, [.ref (gn 0), .int 0, .ref (gn 2), .ref (gn 3), .int 0, .ref (gn 5), .int 0, .int 0])), (h2, .inr (1, [.ref h1, .ref (gb 1), .int 0]))]) hD hS hA [0, 1, 2] rfl
  refine vx_calli (vx_runSX (As := [.ref h0, .int (xs 1), .int (xs 2), .ref o]) (rest := []) ⟨hx, hb, hml, hown, hts⟩ (c_h_shared l hl9 D a1 a2 H.size h0 h1 h2 g gn gb (xs 1) (xs 2) o) (vx_cwSW 4 hts (gSW w_749 w_750 w_450 w_751) rfl rfl rfl (by decide +kernel) ⟨Nat.le_of_ble_eq_true rfl, Nat.le_of_ble_eq_true rfl⟩) (pre_S hK hP hD hS hA hE [0, 1, 2] rfl (by decide) rfl [] rfl) rfl rfl hl.1 rfl (lv_room (Nat.le_of_ble_eq_true rfl)) dL_law_3410 ⟨Nat.le_of_ble_eq_true rfl, Nat.le_of_ble_eq_true rfl⟩) hS (fun q _ h => f_3 q h) f_3 (fun q _ h => f_3 q h) (fun E ce q9 u9 t H locs ht hvm hw hB hz1 hk1 hS hce hcv hcl => False.elim hw) (fun r_4 u_5 t H1 locs ht hvm h_6 hB hz1 hk1 hS => ?_)
  obtain ⟨hP, hD⟩ := join (wc := [(h0, .inr (11, [.ref h1, .ref h2, .ref (g 2), .ref (g 3), .ref (g 4), .ref (g 5), .ref (g 6), .int 0, .int 0, .int 0, .int 0])), (h1, .inr (6, [.ref (gn 0), .int 0, .ref (gn 2), .ref (gn 3), .int 0, .ref (gn 5), .int 0, .int 0])), (h2, .inr (1, [.ref h1, .ref (gb 1), .int 0]))]) (wr := [(gn 0, .inl (kP, 6, .inr (.inr (.inr (.inr (fun _ => none)))))), (hm, .inr (12, [.int 0, .ref hr, .int 0, .int 0, .int 0, .int 0, .int 0, .ref (gm 7), .ref (gm 8), .ref (gm 9), .ref (gm 10), .ref (gm 11), .ref (gm 12), .ref (gm 13), .ref (gm 14), .int 0, .ref (gm 16), .int 0, .int 0, .int 0, .ref (gm 20), .ref (gm 21), .int 0, .int 0, .int 0, .int 0, .int 0, .int 0, .ref (gm 28), .ref (gm 29)])), (hr, .inl (kI, 2, .inl (fun _ => 0))), (gm 7, .inl (kA, 6, .inr (.inr (.inr (.inr F))))), (rr, .inl (kY, 5, .inl (fun _ => 0))), (o, .inl (kL, 1, .inr (.inl (fun _ => 0))))]) (w1 := []) hP hD f_3 [0, 1, 2] [3, 4, 5, 6, 7, 8] rfl rfl (by decide) (by decide) hk1 ht wat_nil
  generalize H1 = H at hP hS ⊢
  have hP : va_P D vwCl [(gn 0, .inl (kP, 6, .inr (.inr (.inr (.inr (fun _ => none)))))), (hm, .inr (12, [.int 0, .ref hr, .int 0, .int 0, .int 0, .int 0, .int 0, .ref (gm 7), .ref (gm 8), .ref (gm 9), .ref (gm 10), .ref (gm 11), .ref (gm 12), .ref (gm 13), .ref (gm 14), .int 0, .ref (gm 16), .int 0, .int 0, .int 0, .ref (gm 20), .ref (gm 21), .int 0, .int 0, .int 0, .int 0, .int 0, .int 0, .ref (gm 28), .ref (gm 29)])), (hr, .inl (kI, 2, .inl (fun _ => 0))), (gm 7, .inl (kA, 6, .inr (.inr (.inr (.inr F))))), (rr, .inl (kY, 5, .inl (fun _ => 0))), (o, .inl (kL, 1, .inr (.inl (fun _ => 0))))] H := hP
  have hD : va_D (fun q : Nat => s.heap.size ≤ q) [(gn 0, .inl (kP, 6, .inr (.inr (.inr (.inr (fun _ => none)))))), (hm, .inr (12, [.int 0, .ref hr, .int 0, .int 0, .int 0, .int 0, .int 0, .ref (gm 7), .ref (gm 8), .ref (gm 9), .ref (gm 10), .ref (gm 11), .ref (gm 12), .ref (gm 13), .ref (gm 14), .int 0, .ref (gm 16), .int 0, .int 0, .int 0, .ref (gm 20), .ref (gm 21), .int 0, .int 0, .int 0, .int 0, .int 0, .int 0, .ref (gm 28), .ref (gm 29)])), (hr, .inl (kI, 2, .inl (fun _ => 0))), (gm 7, .inl (kA, 6, .inr (.inr (.inr (.inr F))))), (rr, .inl (kY, 5, .inl (fun _ => 0))), (o, .inl (kL, 1, .inr (.inl (fun _ => 0))))] := hD
  obtain rfl := h_6
  refine lv_istore (lv' := [(5, .int 1), (4, .int 0), (3, .ref o), (2, .ref hm), (1, .ref h0), (0, .ref b)]) hx hb dL_law_3413 hl (by decide) rfl (fun ls hl => ?_)
  refine lv_aload_n hx hb dL_law_3415 rfl (lv_at hl 3 rfl) ?_
  refine lv_aload_n hx hb dL_law_3416 rfl (lv_at hl 5 rfl) ?_
  refine lv_iload hx hb dL_law_3417 (lv_at hl 1 rfl) ?_
  refine lv_iconst (v := 1) hx hb dL_law_3419 (by decide) ?_
  refine lv_iadd hx hb dL_law_3420 ?_
  refine lv_topi (fun x_7 ex_7 => ?_)
  obtain rfl : x_7 = 1 := ex_7.trans (by decide)
  refine va_sld hx hb hX hbl hbA hS (i := 1) (by unfold vp_in; decide) dL_law_3421 ?_
  refine W.eq (g2 := F0 m 3422 ls [.int (xs 1), .ref hm]) rfl ?_
  refine lv_aload_n hx hb dL_law_3422 rfl (lv_at hl 5 rfl) ?_
  refine lv_iload hx hb dL_law_3423 (lv_at hl 1 rfl) ?_
  refine lv_iconst (v := 2) hx hb dL_law_3425 (by decide) ?_
  refine lv_iadd hx hb dL_law_3426 ?_
  refine lv_topi (fun x_8 ex_8 => ?_)
  obtain rfl : x_8 = 2 := ex_8.trans (by decide)
  refine va_sld hx hb hX hbl hbA hS (i := 2) (by unfold vp_in; decide) dL_law_3427 ?_
  refine W.eq (g2 := F0 m 3428 ls [.int (xs 2), .int (xs 1), .ref hm]) rfl ?_
  have f_9 := free_of (wc := [(hm, .inr (12, [.int 0, .ref hr, .int 0, .int 0, .int 0, .int 0, .int 0, .ref (gm 7), .ref (gm 8), .ref (gm 9), .ref (gm 10), .ref (gm 11), .ref (gm 12), .ref (gm 13), .ref (gm 14), .int 0, .ref (gm 16), .int 0, .int 0, .int 0, .ref (gm 20), .ref (gm 21), .int 0, .int 0, .int 0, .int 0, .int 0, .int 0, .ref (gm 28), .ref (gm 29)])), (hr, .inl (kI, 2, .inl (fun _ => 0)))]) hD hS hA [1, 2] rfl
  refine va_calll (va_runV (As := [.int (xs 1), .int (xs 2)]) (rest := []) ⟨hx, hb, hml, hown, hts⟩ (c_m_shared l D a1 a2 H.size hm hr gm kI (xs 1) (xs 2)) (cwV 2 hts (gV w_752 w_753 w_754 w_244 w_755) rfl rfl rfl (by decide +kernel) ⟨Nat.le_of_ble_eq_true rfl, Nat.le_of_ble_eq_true rfl⟩) (pre_V hK hP hD hS hA hE [1, 2] rfl (by decide) rfl [1] rfl (ci := 12) (q0 := 1) rfl rfl) rfl rfl hl.1 rfl (lv_room (Nat.le_of_ble_eq_true rfl)) dL_law_3428 ⟨Nat.le_of_ble_eq_true rfl, Nat.le_of_ble_eq_true rfl⟩) hS (fun q _ h => f_9 q h) f_9 (fun r_10 u_11 t H1 locs ht hvm h_12 hB hz1 hk1 hS => ?_)
  obtain ⟨hP, hD⟩ := join (wc := [(hm, .inr (12, [.int 0, .ref hr, .int 0, .int 0, .int 0, .int 0, .int 0, .ref (gm 7), .ref (gm 8), .ref (gm 9), .ref (gm 10), .ref (gm 11), .ref (gm 12), .ref (gm 13), .ref (gm 14), .int 0, .ref (gm 16), .int 0, .int 0, .int 0, .ref (gm 20), .ref (gm 21), .int 0, .int 0, .int 0, .int 0, .int 0, .int 0, .ref (gm 28), .ref (gm 29)])), (hr, .inl (kI, 2, .inl (fun _ => 0)))]) (wr := [(gn 0, .inl (kP, 6, .inr (.inr (.inr (.inr (fun _ => none)))))), (gm 7, .inl (kA, 6, .inr (.inr (.inr (.inr F))))), (rr, .inl (kY, 5, .inl (fun _ => 0))), (o, .inl (kL, 1, .inr (.inl (fun _ => 0))))]) (w1 := [(hm, .inr (12, u_11))]) hP hD f_9 [1, 2] [0, 3, 4, 5] rfl rfl (by decide) (by decide) hk1 ht hB
  generalize H1 = H at hP hS ⊢
  have hP : va_P D vwCl [(gn 0, .inl (kP, 6, .inr (.inr (.inr (.inr (fun _ => none)))))), (gm 7, .inl (kA, 6, .inr (.inr (.inr (.inr F))))), (rr, .inl (kY, 5, .inl (fun _ => 0))), (o, .inl (kL, 1, .inr (.inl (fun _ => 0)))), (hm, .inr (12, u_11))] H := hP
  have hD : va_D (fun q : Nat => s.heap.size ≤ q) [(gn 0, .inl (kP, 6, .inr (.inr (.inr (.inr (fun _ => none)))))), (gm 7, .inl (kA, 6, .inr (.inr (.inr (.inr F))))), (rr, .inl (kY, 5, .inl (fun _ => 0))), (o, .inl (kL, 1, .inr (.inl (fun _ => 0)))), (hm, .inr (12, u_11))] := hD
  refine lv_lstore (lv' := [(6, .long r_10), (5, .int 1), (4, .int 0), (3, .ref o), (2, .ref hm), (1, .ref h0), (0, .ref b)]) hx hb dL_law_3431 hl (by decide) rfl (fun ls hl => ?_)
  refine lv_aload_n hx hb dL_law_3433 rfl (lv_at hl 4 rfl) ?_
  have f_13 := free_of (wc := [(hm, .inr (12, u_11))]) hD hS hA [4] rfl
  refine va_calli (va_runV (As := []) (rest := []) ⟨hx, hb, hml, hown, hts⟩ (c_thrown l D a1 a2 H.size hm u_11 1 h_12) (cwV 0 hts (gV w_458 w_459 w_460 w_244 w_461) rfl rfl rfl (by decide +kernel) ⟨Nat.le_of_ble_eq_true rfl, Nat.le_of_ble_eq_true rfl⟩) (pre_V hK hP hD hS hA hE [4] rfl (by decide) rfl [] rfl (ci := 12) (q0 := 4) rfl rfl) rfl rfl hl.1 rfl (lv_room (Nat.le_of_ble_eq_true rfl)) dL_law_3434 ⟨Nat.le_of_ble_eq_true rfl, Nat.le_of_ble_eq_true rfl⟩) hS (fun q _ h => f_13 q h) f_13 (fun r_14 u_15 t H1 locs ht hvm h_16 hB hz1 hk1 hS => ?_)
  obtain ⟨hP, hD⟩ := join (wc := [(hm, .inr (12, u_11))]) (wr := [(gn 0, .inl (kP, 6, .inr (.inr (.inr (.inr (fun _ => none)))))), (gm 7, .inl (kA, 6, .inr (.inr (.inr (.inr F))))), (rr, .inl (kY, 5, .inl (fun _ => 0))), (o, .inl (kL, 1, .inr (.inl (fun _ => 0))))]) (w1 := [(hm, .inr (12, u_11))]) hP hD f_13 [4] [0, 1, 2, 3] rfl rfl (by decide) (by decide) hk1 ht hB
  generalize H1 = H at hP hS ⊢
  have hP : va_P D vwCl [(gn 0, .inl (kP, 6, .inr (.inr (.inr (.inr (fun _ => none)))))), (gm 7, .inl (kA, 6, .inr (.inr (.inr (.inr F))))), (rr, .inl (kY, 5, .inl (fun _ => 0))), (o, .inl (kL, 1, .inr (.inl (fun _ => 0)))), (hm, .inr (12, u_11))] H := hP
  have hD : va_D (fun q : Nat => s.heap.size ≤ q) [(gn 0, .inl (kP, 6, .inr (.inr (.inr (.inr (fun _ => none)))))), (gm 7, .inl (kA, 6, .inr (.inr (.inr (.inr F))))), (rr, .inl (kY, 5, .inl (fun _ => 0))), (o, .inl (kL, 1, .inr (.inl (fun _ => 0)))), (hm, .inr (12, u_11))] := hD
  obtain rfl := h_16
  refine lv_iload hx hb dL_law_3437 (lv_at hl 1 rfl) ?_
  refine lv_icmp_eq (tgt := 3444) hx hb dL_law_3439 (by decide) (fun _ => ?_) (fun c => absurd (by decide) c)
  refine lv_iload hx hb dL_law_3444 (lv_at hl 1 rfl) ?_
  refine lv_if_ne (tgt := 3460) hx hb dL_law_3446 (by decide) (fun _ => ?_) (fun c => absurd c (by decide))
  refine lv_goto (tgt := 3913) hx hb dL_law_3460 (by decide) ?_
  exact law_tail hx hb hr_ hlocks hX hbl hS (Nat.le_of_ble_eq_true rfl) (Nat.le_of_ble_eq_true rfl) (lv_sub hl [2, 6] rfl)
set_option maxRecDepth 100000 in
set_option maxHeartbeats 4000000 in
theorem case_46 {p : Program} {l : Launch} (hl9 : l.stackTraces = false) {e : Env} {s : State} {m : MethodId} {below : List Frame} {meth : Method} {c : Code} {D : va_G} {a1 a2 b : Nat} {xs : Nat → Int32} {H : Heap} {locs : List Loc} {ls : Array Slot} (h0 h1 h2 : Nat) (g gn gb : Nat → Nat) (kP : ClassId) (hm hr rr : Nat) (gm : Nat → Nat) (kI kA kY : ClassId) (F : Nat → Option Nat) (o : Nat) (kL : ClassId) (hG : LawSt D a1 a2 p s m meth c b xs H locs ls h0 h1 h2 g gn gb kP hm hr rr gm kI kA kY F o kL) : W p l e room_1 s m #[Value.ref b] below meth c H locs 5338 65502 (lw_Z below #[Value.ref b] s) (F0 m 3463 ls []) := by
  obtain ⟨hx, hb, hr_, hml, hown, hts, hX, hbl, hlocks, hP, hK, hD, hA, hE, hS, hF, hl⟩ := hG
  have hbA : ¬ (fun q : Nat => s.heap.size ≤ q) b := Nat.not_le.mpr hbl
  refine lv_aload_n hx hb dL_law_3463 rfl (lv_at hl 3 rfl) ?_
  refine lv_aload_n hx hb dL_law_3464 rfl (lv_at hl 4 rfl) ?_
  refine lv_iload hx hb dL_law_3465 (lv_at hl 0 rfl) ?_
  refine lv_iconst (v := 1) hx hb dL_law_3467 (by decide) ?_
  refine lv_iadd hx hb dL_law_3468 ?_
  refine lv_topi (fun x_1 ex_1 => ?_)
  obtain rfl : x_1 = 1 := ex_1.trans (by decide)
  refine va_sld hx hb hX hbl hbA hS (i := 1) (by unfold vp_in; decide) dL_law_3469 ?_
  refine W.eq (g2 := F0 m 3470 ls [.int (xs 1), .ref h0]) rfl ?_
  refine lv_aload_n hx hb dL_law_3470 rfl (lv_at hl 1 rfl) ?_
  have f_2 := free_of (wc := [(h0, .inr (11, [.ref h1, .ref h2, .ref (g 2), .ref (g 3), .ref (g 4), .ref (g 5), .ref (g 6), .int 0, .int 0, .int 0, .int 0])), (h1, .inr (6, [.ref (gn 0), .int 0, .ref (gn 2), .ref (gn 3), .int 0, .ref (gn 5), .int 0, .int 0])), (h2, .inr (1, [.ref h1, .ref (gb 1), .int 0]))]) hD hS hA [0, 1, 2] rfl
  refine vx_calli (vx_runSX (As := [.ref h0, .int (xs 1), .ref o]) (rest := []) ⟨hx, hb, hml, hown, hts⟩ (c_h_tiedUp l hl9 D a1 a2 H.size h0 h1 h2 g gn gb (xs 1) o) (vx_cwSW 3 hts (gSW w_756 w_757 w_450 w_758) rfl rfl rfl (by decide +kernel) ⟨Nat.le_of_ble_eq_true rfl, Nat.le_of_ble_eq_true rfl⟩) (pre_S hK hP hD hS hA hE [0, 1, 2] rfl (by decide) rfl [] rfl) rfl rfl hl.1 rfl (lv_room (Nat.le_of_ble_eq_true rfl)) dL_law_3471 ⟨Nat.le_of_ble_eq_true rfl, Nat.le_of_ble_eq_true rfl⟩) hS (fun q _ h => f_2 q h) f_2 (fun q _ h => f_2 q h) (fun E ce q9 u9 t H locs ht hvm hw hB hz1 hk1 hS hce hcv hcl => False.elim hw) (fun r_3 u_4 t H1 locs ht hvm h_5 hB hz1 hk1 hS => ?_)
  obtain ⟨hP, hD⟩ := join (wc := [(h0, .inr (11, [.ref h1, .ref h2, .ref (g 2), .ref (g 3), .ref (g 4), .ref (g 5), .ref (g 6), .int 0, .int 0, .int 0, .int 0])), (h1, .inr (6, [.ref (gn 0), .int 0, .ref (gn 2), .ref (gn 3), .int 0, .ref (gn 5), .int 0, .int 0])), (h2, .inr (1, [.ref h1, .ref (gb 1), .int 0]))]) (wr := [(gn 0, .inl (kP, 6, .inr (.inr (.inr (.inr (fun _ => none)))))), (hm, .inr (12, [.int 0, .ref hr, .int 0, .int 0, .int 0, .int 0, .int 0, .ref (gm 7), .ref (gm 8), .ref (gm 9), .ref (gm 10), .ref (gm 11), .ref (gm 12), .ref (gm 13), .ref (gm 14), .int 0, .ref (gm 16), .int 0, .int 0, .int 0, .ref (gm 20), .ref (gm 21), .int 0, .int 0, .int 0, .int 0, .int 0, .int 0, .ref (gm 28), .ref (gm 29)])), (hr, .inl (kI, 2, .inl (fun _ => 0))), (gm 7, .inl (kA, 6, .inr (.inr (.inr (.inr F))))), (rr, .inl (kY, 5, .inl (fun _ => 0))), (o, .inl (kL, 1, .inr (.inl (fun _ => 0))))]) (w1 := []) hP hD f_2 [0, 1, 2] [3, 4, 5, 6, 7, 8] rfl rfl (by decide) (by decide) hk1 ht wat_nil
  generalize H1 = H at hP hS ⊢
  have hP : va_P D vwCl [(gn 0, .inl (kP, 6, .inr (.inr (.inr (.inr (fun _ => none)))))), (hm, .inr (12, [.int 0, .ref hr, .int 0, .int 0, .int 0, .int 0, .int 0, .ref (gm 7), .ref (gm 8), .ref (gm 9), .ref (gm 10), .ref (gm 11), .ref (gm 12), .ref (gm 13), .ref (gm 14), .int 0, .ref (gm 16), .int 0, .int 0, .int 0, .ref (gm 20), .ref (gm 21), .int 0, .int 0, .int 0, .int 0, .int 0, .int 0, .ref (gm 28), .ref (gm 29)])), (hr, .inl (kI, 2, .inl (fun _ => 0))), (gm 7, .inl (kA, 6, .inr (.inr (.inr (.inr F))))), (rr, .inl (kY, 5, .inl (fun _ => 0))), (o, .inl (kL, 1, .inr (.inl (fun _ => 0))))] H := hP
  have hD : va_D (fun q : Nat => s.heap.size ≤ q) [(gn 0, .inl (kP, 6, .inr (.inr (.inr (.inr (fun _ => none)))))), (hm, .inr (12, [.int 0, .ref hr, .int 0, .int 0, .int 0, .int 0, .int 0, .ref (gm 7), .ref (gm 8), .ref (gm 9), .ref (gm 10), .ref (gm 11), .ref (gm 12), .ref (gm 13), .ref (gm 14), .int 0, .ref (gm 16), .int 0, .int 0, .int 0, .ref (gm 20), .ref (gm 21), .int 0, .int 0, .int 0, .int 0, .int 0, .int 0, .ref (gm 28), .ref (gm 29)])), (hr, .inl (kI, 2, .inl (fun _ => 0))), (gm 7, .inl (kA, 6, .inr (.inr (.inr (.inr F))))), (rr, .inl (kY, 5, .inl (fun _ => 0))), (o, .inl (kL, 1, .inr (.inl (fun _ => 0))))] := hD
  obtain rfl := h_5
  refine lv_istore (lv' := [(5, .int 1), (4, .int 0), (3, .ref o), (2, .ref hm), (1, .ref h0), (0, .ref b)]) hx hb dL_law_3474 hl (by decide) rfl (fun ls hl => ?_)
  refine lv_aload_n hx hb dL_law_3476 rfl (lv_at hl 3 rfl) ?_
  refine lv_aload_n hx hb dL_law_3477 rfl (lv_at hl 5 rfl) ?_
  refine lv_iload hx hb dL_law_3478 (lv_at hl 1 rfl) ?_
  refine lv_iconst (v := 1) hx hb dL_law_3480 (by decide) ?_
  refine lv_iadd hx hb dL_law_3481 ?_
  refine lv_topi (fun x_6 ex_6 => ?_)
  obtain rfl : x_6 = 1 := ex_6.trans (by decide)
  refine va_sld hx hb hX hbl hbA hS (i := 1) (by unfold vp_in; decide) dL_law_3482 ?_
  refine W.eq (g2 := F0 m 3483 ls [.int (xs 1), .ref hm]) rfl ?_
  have f_7 := free_of (wc := [(hm, .inr (12, [.int 0, .ref hr, .int 0, .int 0, .int 0, .int 0, .int 0, .ref (gm 7), .ref (gm 8), .ref (gm 9), .ref (gm 10), .ref (gm 11), .ref (gm 12), .ref (gm 13), .ref (gm 14), .int 0, .ref (gm 16), .int 0, .int 0, .int 0, .ref (gm 20), .ref (gm 21), .int 0, .int 0, .int 0, .int 0, .int 0, .int 0, .ref (gm 28), .ref (gm 29)])), (hr, .inl (kI, 2, .inl (fun _ => 0)))]) hD hS hA [1, 2] rfl
  refine va_calll (va_runV (As := [.int (xs 1)]) (rest := []) ⟨hx, hb, hml, hown, hts⟩ (c_m_tiedUp l D a1 a2 H.size hm hr gm kI (xs 1)) (cwV 1 hts (gV w_759 w_760 w_761 w_244 w_762) rfl rfl rfl (by decide +kernel) ⟨Nat.le_of_ble_eq_true rfl, Nat.le_of_ble_eq_true rfl⟩) (pre_V hK hP hD hS hA hE [1, 2] rfl (by decide) rfl [1] rfl (ci := 12) (q0 := 1) rfl rfl) rfl rfl hl.1 rfl (lv_room (Nat.le_of_ble_eq_true rfl)) dL_law_3483 ⟨Nat.le_of_ble_eq_true rfl, Nat.le_of_ble_eq_true rfl⟩) hS (fun q _ h => f_7 q h) f_7 (fun r_8 u_9 t H1 locs ht hvm h_10 hB hz1 hk1 hS => ?_)
  obtain ⟨hP, hD⟩ := join (wc := [(hm, .inr (12, [.int 0, .ref hr, .int 0, .int 0, .int 0, .int 0, .int 0, .ref (gm 7), .ref (gm 8), .ref (gm 9), .ref (gm 10), .ref (gm 11), .ref (gm 12), .ref (gm 13), .ref (gm 14), .int 0, .ref (gm 16), .int 0, .int 0, .int 0, .ref (gm 20), .ref (gm 21), .int 0, .int 0, .int 0, .int 0, .int 0, .int 0, .ref (gm 28), .ref (gm 29)])), (hr, .inl (kI, 2, .inl (fun _ => 0)))]) (wr := [(gn 0, .inl (kP, 6, .inr (.inr (.inr (.inr (fun _ => none)))))), (gm 7, .inl (kA, 6, .inr (.inr (.inr (.inr F))))), (rr, .inl (kY, 5, .inl (fun _ => 0))), (o, .inl (kL, 1, .inr (.inl (fun _ => 0))))]) (w1 := [(hm, .inr (12, u_9))]) hP hD f_7 [1, 2] [0, 3, 4, 5] rfl rfl (by decide) (by decide) hk1 ht hB
  generalize H1 = H at hP hS ⊢
  have hP : va_P D vwCl [(gn 0, .inl (kP, 6, .inr (.inr (.inr (.inr (fun _ => none)))))), (gm 7, .inl (kA, 6, .inr (.inr (.inr (.inr F))))), (rr, .inl (kY, 5, .inl (fun _ => 0))), (o, .inl (kL, 1, .inr (.inl (fun _ => 0)))), (hm, .inr (12, u_9))] H := hP
  have hD : va_D (fun q : Nat => s.heap.size ≤ q) [(gn 0, .inl (kP, 6, .inr (.inr (.inr (.inr (fun _ => none)))))), (gm 7, .inl (kA, 6, .inr (.inr (.inr (.inr F))))), (rr, .inl (kY, 5, .inl (fun _ => 0))), (o, .inl (kL, 1, .inr (.inl (fun _ => 0)))), (hm, .inr (12, u_9))] := hD
  refine lv_lstore (lv' := [(6, .long r_8), (5, .int 1), (4, .int 0), (3, .ref o), (2, .ref hm), (1, .ref h0), (0, .ref b)]) hx hb dL_law_3486 hl (by decide) rfl (fun ls hl => ?_)
  refine lv_aload_n hx hb dL_law_3488 rfl (lv_at hl 4 rfl) ?_
  have f_11 := free_of (wc := [(hm, .inr (12, u_9))]) hD hS hA [4] rfl
  refine va_calli (va_runV (As := []) (rest := []) ⟨hx, hb, hml, hown, hts⟩ (c_thrown l D a1 a2 H.size hm u_9 1 h_10) (cwV 0 hts (gV w_458 w_459 w_460 w_244 w_461) rfl rfl rfl (by decide +kernel) ⟨Nat.le_of_ble_eq_true rfl, Nat.le_of_ble_eq_true rfl⟩) (pre_V hK hP hD hS hA hE [4] rfl (by decide) rfl [] rfl (ci := 12) (q0 := 4) rfl rfl) rfl rfl hl.1 rfl (lv_room (Nat.le_of_ble_eq_true rfl)) dL_law_3489 ⟨Nat.le_of_ble_eq_true rfl, Nat.le_of_ble_eq_true rfl⟩) hS (fun q _ h => f_11 q h) f_11 (fun r_12 u_13 t H1 locs ht hvm h_14 hB hz1 hk1 hS => ?_)
  obtain ⟨hP, hD⟩ := join (wc := [(hm, .inr (12, u_9))]) (wr := [(gn 0, .inl (kP, 6, .inr (.inr (.inr (.inr (fun _ => none)))))), (gm 7, .inl (kA, 6, .inr (.inr (.inr (.inr F))))), (rr, .inl (kY, 5, .inl (fun _ => 0))), (o, .inl (kL, 1, .inr (.inl (fun _ => 0))))]) (w1 := [(hm, .inr (12, u_9))]) hP hD f_11 [4] [0, 1, 2, 3] rfl rfl (by decide) (by decide) hk1 ht hB
  generalize H1 = H at hP hS ⊢
  have hP : va_P D vwCl [(gn 0, .inl (kP, 6, .inr (.inr (.inr (.inr (fun _ => none)))))), (gm 7, .inl (kA, 6, .inr (.inr (.inr (.inr F))))), (rr, .inl (kY, 5, .inl (fun _ => 0))), (o, .inl (kL, 1, .inr (.inl (fun _ => 0)))), (hm, .inr (12, u_9))] H := hP
  have hD : va_D (fun q : Nat => s.heap.size ≤ q) [(gn 0, .inl (kP, 6, .inr (.inr (.inr (.inr (fun _ => none)))))), (gm 7, .inl (kA, 6, .inr (.inr (.inr (.inr F))))), (rr, .inl (kY, 5, .inl (fun _ => 0))), (o, .inl (kL, 1, .inr (.inl (fun _ => 0)))), (hm, .inr (12, u_9))] := hD
  obtain rfl := h_14
  refine lv_iload hx hb dL_law_3492 (lv_at hl 1 rfl) ?_
  refine lv_icmp_eq (tgt := 3499) hx hb dL_law_3494 (by decide) (fun _ => ?_) (fun c => absurd (by decide) c)
  refine lv_iload hx hb dL_law_3499 (lv_at hl 1 rfl) ?_
  refine lv_if_ne (tgt := 3515) hx hb dL_law_3501 (by decide) (fun _ => ?_) (fun c => absurd c (by decide))
  refine lv_goto (tgt := 3913) hx hb dL_law_3515 (by decide) ?_
  exact law_tail hx hb hr_ hlocks hX hbl hS (Nat.le_of_ble_eq_true rfl) (Nat.le_of_ble_eq_true rfl) (lv_sub hl [2, 6] rfl)
set_option maxRecDepth 100000 in
set_option maxHeartbeats 4000000 in
theorem case_47 {p : Program} {l : Launch} (hl9 : l.stackTraces = false) {e : Env} {s : State} {m : MethodId} {below : List Frame} {meth : Method} {c : Code} {D : va_G} {a1 a2 b : Nat} {xs : Nat → Int32} {H : Heap} {locs : List Loc} {ls : Array Slot} (h0 h1 h2 : Nat) (g gn gb : Nat → Nat) (kP : ClassId) (hm hr rr : Nat) (gm : Nat → Nat) (kI kA kY : ClassId) (F : Nat → Option Nat) (o : Nat) (kL : ClassId) (hG : LawSt D a1 a2 p s m meth c b xs H locs ls h0 h1 h2 g gn gb kP hm hr rr gm kI kA kY F o kL) : W p l e room_1 s m #[Value.ref b] below meth c H locs 5338 65502 (lw_Z below #[Value.ref b] s) (F0 m 3518 ls []) := by
  obtain ⟨hx, hb, hr_, hml, hown, hts, hX, hbl, hlocks, hP, hK, hD, hA, hE, hS, hF, hl⟩ := hG
  have hbA : ¬ (fun q : Nat => s.heap.size ≤ q) b := Nat.not_le.mpr hbl
  refine lv_aload_n hx hb dL_law_3518 rfl (lv_at hl 3 rfl) ?_
  refine lv_aload_n hx hb dL_law_3519 rfl (lv_at hl 4 rfl) ?_
  refine lv_iload hx hb dL_law_3520 (lv_at hl 0 rfl) ?_
  refine lv_iconst (v := 1) hx hb dL_law_3522 (by decide) ?_
  refine lv_iadd hx hb dL_law_3523 ?_
  refine lv_topi (fun x_1 ex_1 => ?_)
  obtain rfl : x_1 = 1 := ex_1.trans (by decide)
  refine va_sld hx hb hX hbl hbA hS (i := 1) (by unfold vp_in; decide) dL_law_3524 ?_
  refine W.eq (g2 := F0 m 3525 ls [.int (xs 1), .ref h0]) rfl ?_
  refine lv_aload_n hx hb dL_law_3525 rfl (lv_at hl 4 rfl) ?_
  refine lv_iload hx hb dL_law_3526 (lv_at hl 0 rfl) ?_
  refine lv_iconst (v := 2) hx hb dL_law_3528 (by decide) ?_
  refine lv_iadd hx hb dL_law_3529 ?_
  refine lv_topi (fun x_2 ex_2 => ?_)
  obtain rfl : x_2 = 2 := ex_2.trans (by decide)
  refine va_sld hx hb hX hbl hbA hS (i := 2) (by unfold vp_in; decide) dL_law_3530 ?_
  refine W.eq (g2 := F0 m 3531 ls [.int (xs 2), .int (xs 1), .ref h0]) rfl ?_
  refine lv_aload_n hx hb dL_law_3531 rfl (lv_at hl 4 rfl) ?_
  refine lv_iload hx hb dL_law_3532 (lv_at hl 0 rfl) ?_
  refine lv_iconst (v := 3) hx hb dL_law_3534 (by decide) ?_
  refine lv_iadd hx hb dL_law_3535 ?_
  refine lv_topi (fun x_3 ex_3 => ?_)
  obtain rfl : x_3 = 3 := ex_3.trans (by decide)
  refine va_sld hx hb hX hbl hbA hS (i := 3) (by unfold vp_in; decide) dL_law_3536 ?_
  refine W.eq (g2 := F0 m 3537 ls [.int (xs 3), .int (xs 2), .int (xs 1), .ref h0]) rfl ?_
  refine lv_aload_n hx hb dL_law_3537 rfl (lv_at hl 1 rfl) ?_
  have f_4 := free_of (wc := [(h0, .inr (11, [.ref h1, .ref h2, .ref (g 2), .ref (g 3), .ref (g 4), .ref (g 5), .ref (g 6), .int 0, .int 0, .int 0, .int 0])), (h1, .inr (6, [.ref (gn 0), .int 0, .ref (gn 2), .ref (gn 3), .int 0, .ref (gn 5), .int 0, .int 0])), (h2, .inr (1, [.ref h1, .ref (gb 1), .int 0]))]) hD hS hA [0, 1, 2] rfl
  refine vx_calli (vx_runSX (As := [.ref h0, .int (xs 1), .int (xs 2), .int (xs 3), .ref o]) (rest := []) ⟨hx, hb, hml, hown, hts⟩ (c_h_days l hl9 D a1 a2 H.size h0 h1 h2 g gn gb (xs 1) (xs 2) (xs 3) o) (vx_cwSW 5 hts (gSW w_763 w_764 w_450 w_765) rfl rfl rfl (by decide +kernel) ⟨Nat.le_of_ble_eq_true rfl, Nat.le_of_ble_eq_true rfl⟩) (pre_S hK hP hD hS hA hE [0, 1, 2] rfl (by decide) rfl [] rfl) rfl rfl hl.1 rfl (lv_room (Nat.le_of_ble_eq_true rfl)) dL_law_3538 ⟨Nat.le_of_ble_eq_true rfl, Nat.le_of_ble_eq_true rfl⟩) hS (fun q _ h => f_4 q h) f_4 (fun q _ h => f_4 q h) (fun E ce q9 u9 t H locs ht hvm hw hB hz1 hk1 hS hce hcv hcl => False.elim hw) (fun r_5 u_6 t H1 locs ht hvm h_7 hB hz1 hk1 hS => ?_)
  obtain ⟨hP, hD⟩ := join (wc := [(h0, .inr (11, [.ref h1, .ref h2, .ref (g 2), .ref (g 3), .ref (g 4), .ref (g 5), .ref (g 6), .int 0, .int 0, .int 0, .int 0])), (h1, .inr (6, [.ref (gn 0), .int 0, .ref (gn 2), .ref (gn 3), .int 0, .ref (gn 5), .int 0, .int 0])), (h2, .inr (1, [.ref h1, .ref (gb 1), .int 0]))]) (wr := [(gn 0, .inl (kP, 6, .inr (.inr (.inr (.inr (fun _ => none)))))), (hm, .inr (12, [.int 0, .ref hr, .int 0, .int 0, .int 0, .int 0, .int 0, .ref (gm 7), .ref (gm 8), .ref (gm 9), .ref (gm 10), .ref (gm 11), .ref (gm 12), .ref (gm 13), .ref (gm 14), .int 0, .ref (gm 16), .int 0, .int 0, .int 0, .ref (gm 20), .ref (gm 21), .int 0, .int 0, .int 0, .int 0, .int 0, .int 0, .ref (gm 28), .ref (gm 29)])), (hr, .inl (kI, 2, .inl (fun _ => 0))), (gm 7, .inl (kA, 6, .inr (.inr (.inr (.inr F))))), (rr, .inl (kY, 5, .inl (fun _ => 0))), (o, .inl (kL, 1, .inr (.inl (fun _ => 0))))]) (w1 := []) hP hD f_4 [0, 1, 2] [3, 4, 5, 6, 7, 8] rfl rfl (by decide) (by decide) hk1 ht wat_nil
  generalize H1 = H at hP hS ⊢
  have hP : va_P D vwCl [(gn 0, .inl (kP, 6, .inr (.inr (.inr (.inr (fun _ => none)))))), (hm, .inr (12, [.int 0, .ref hr, .int 0, .int 0, .int 0, .int 0, .int 0, .ref (gm 7), .ref (gm 8), .ref (gm 9), .ref (gm 10), .ref (gm 11), .ref (gm 12), .ref (gm 13), .ref (gm 14), .int 0, .ref (gm 16), .int 0, .int 0, .int 0, .ref (gm 20), .ref (gm 21), .int 0, .int 0, .int 0, .int 0, .int 0, .int 0, .ref (gm 28), .ref (gm 29)])), (hr, .inl (kI, 2, .inl (fun _ => 0))), (gm 7, .inl (kA, 6, .inr (.inr (.inr (.inr F))))), (rr, .inl (kY, 5, .inl (fun _ => 0))), (o, .inl (kL, 1, .inr (.inl (fun _ => 0))))] H := hP
  have hD : va_D (fun q : Nat => s.heap.size ≤ q) [(gn 0, .inl (kP, 6, .inr (.inr (.inr (.inr (fun _ => none)))))), (hm, .inr (12, [.int 0, .ref hr, .int 0, .int 0, .int 0, .int 0, .int 0, .ref (gm 7), .ref (gm 8), .ref (gm 9), .ref (gm 10), .ref (gm 11), .ref (gm 12), .ref (gm 13), .ref (gm 14), .int 0, .ref (gm 16), .int 0, .int 0, .int 0, .ref (gm 20), .ref (gm 21), .int 0, .int 0, .int 0, .int 0, .int 0, .int 0, .ref (gm 28), .ref (gm 29)])), (hr, .inl (kI, 2, .inl (fun _ => 0))), (gm 7, .inl (kA, 6, .inr (.inr (.inr (.inr F))))), (rr, .inl (kY, 5, .inl (fun _ => 0))), (o, .inl (kL, 1, .inr (.inl (fun _ => 0))))] := hD
  obtain rfl := h_7
  refine lv_istore (lv' := [(5, .int 1), (4, .int 0), (3, .ref o), (2, .ref hm), (1, .ref h0), (0, .ref b)]) hx hb dL_law_3541 hl (by decide) rfl (fun ls hl => ?_)
  refine lv_aload_n hx hb dL_law_3543 rfl (lv_at hl 3 rfl) ?_
  refine lv_aload_n hx hb dL_law_3544 rfl (lv_at hl 5 rfl) ?_
  refine lv_iload hx hb dL_law_3545 (lv_at hl 1 rfl) ?_
  refine lv_iconst (v := 1) hx hb dL_law_3547 (by decide) ?_
  refine lv_iadd hx hb dL_law_3548 ?_
  refine lv_topi (fun x_8 ex_8 => ?_)
  obtain rfl : x_8 = 1 := ex_8.trans (by decide)
  refine va_sld hx hb hX hbl hbA hS (i := 1) (by unfold vp_in; decide) dL_law_3549 ?_
  refine W.eq (g2 := F0 m 3550 ls [.int (xs 1), .ref hm]) rfl ?_
  refine lv_aload_n hx hb dL_law_3550 rfl (lv_at hl 5 rfl) ?_
  refine lv_iload hx hb dL_law_3551 (lv_at hl 1 rfl) ?_
  refine lv_iconst (v := 2) hx hb dL_law_3553 (by decide) ?_
  refine lv_iadd hx hb dL_law_3554 ?_
  refine lv_topi (fun x_9 ex_9 => ?_)
  obtain rfl : x_9 = 2 := ex_9.trans (by decide)
  refine va_sld hx hb hX hbl hbA hS (i := 2) (by unfold vp_in; decide) dL_law_3555 ?_
  refine W.eq (g2 := F0 m 3556 ls [.int (xs 2), .int (xs 1), .ref hm]) rfl ?_
  refine lv_aload_n hx hb dL_law_3556 rfl (lv_at hl 5 rfl) ?_
  refine lv_iload hx hb dL_law_3557 (lv_at hl 1 rfl) ?_
  refine lv_iconst (v := 3) hx hb dL_law_3559 (by decide) ?_
  refine lv_iadd hx hb dL_law_3560 ?_
  refine lv_topi (fun x_10 ex_10 => ?_)
  obtain rfl : x_10 = 3 := ex_10.trans (by decide)
  refine va_sld hx hb hX hbl hbA hS (i := 3) (by unfold vp_in; decide) dL_law_3561 ?_
  refine W.eq (g2 := F0 m 3562 ls [.int (xs 3), .int (xs 2), .int (xs 1), .ref hm]) rfl ?_
  have f_11 := free_of (wc := [(hm, .inr (12, [.int 0, .ref hr, .int 0, .int 0, .int 0, .int 0, .int 0, .ref (gm 7), .ref (gm 8), .ref (gm 9), .ref (gm 10), .ref (gm 11), .ref (gm 12), .ref (gm 13), .ref (gm 14), .int 0, .ref (gm 16), .int 0, .int 0, .int 0, .ref (gm 20), .ref (gm 21), .int 0, .int 0, .int 0, .int 0, .int 0, .int 0, .ref (gm 28), .ref (gm 29)])), (hr, .inl (kI, 2, .inl (fun _ => 0)))]) hD hS hA [1, 2] rfl
  refine va_calli (va_runV (As := [.int (xs 1), .int (xs 2), .int (xs 3)]) (rest := []) ⟨hx, hb, hml, hown, hts⟩ (c_m_days l D a1 a2 H.size hm hr gm kI (xs 1) (xs 2) (xs 3)) (cwV 3 hts (gV w_766 w_767 w_768 w_244 w_769) rfl rfl rfl (by decide +kernel) ⟨Nat.le_of_ble_eq_true rfl, Nat.le_of_ble_eq_true rfl⟩) (pre_V hK hP hD hS hA hE [1, 2] rfl (by decide) rfl [1] rfl (ci := 12) (q0 := 1) rfl rfl) rfl rfl hl.1 rfl (lv_room (Nat.le_of_ble_eq_true rfl)) dL_law_3562 ⟨Nat.le_of_ble_eq_true rfl, Nat.le_of_ble_eq_true rfl⟩) hS (fun q _ h => f_11 q h) f_11 (fun r_12 u_13 t H1 locs ht hvm h_14 hB hz1 hk1 hS => ?_)
  obtain ⟨hP, hD⟩ := join (wc := [(hm, .inr (12, [.int 0, .ref hr, .int 0, .int 0, .int 0, .int 0, .int 0, .ref (gm 7), .ref (gm 8), .ref (gm 9), .ref (gm 10), .ref (gm 11), .ref (gm 12), .ref (gm 13), .ref (gm 14), .int 0, .ref (gm 16), .int 0, .int 0, .int 0, .ref (gm 20), .ref (gm 21), .int 0, .int 0, .int 0, .int 0, .int 0, .int 0, .ref (gm 28), .ref (gm 29)])), (hr, .inl (kI, 2, .inl (fun _ => 0)))]) (wr := [(gn 0, .inl (kP, 6, .inr (.inr (.inr (.inr (fun _ => none)))))), (gm 7, .inl (kA, 6, .inr (.inr (.inr (.inr F))))), (rr, .inl (kY, 5, .inl (fun _ => 0))), (o, .inl (kL, 1, .inr (.inl (fun _ => 0))))]) (w1 := [(hm, .inr (12, u_13))]) hP hD f_11 [1, 2] [0, 3, 4, 5] rfl rfl (by decide) (by decide) hk1 ht hB
  generalize H1 = H at hP hS ⊢
  have hP : va_P D vwCl [(gn 0, .inl (kP, 6, .inr (.inr (.inr (.inr (fun _ => none)))))), (gm 7, .inl (kA, 6, .inr (.inr (.inr (.inr F))))), (rr, .inl (kY, 5, .inl (fun _ => 0))), (o, .inl (kL, 1, .inr (.inl (fun _ => 0)))), (hm, .inr (12, u_13))] H := hP
  have hD : va_D (fun q : Nat => s.heap.size ≤ q) [(gn 0, .inl (kP, 6, .inr (.inr (.inr (.inr (fun _ => none)))))), (gm 7, .inl (kA, 6, .inr (.inr (.inr (.inr F))))), (rr, .inl (kY, 5, .inl (fun _ => 0))), (o, .inl (kL, 1, .inr (.inl (fun _ => 0)))), (hm, .inr (12, u_13))] := hD
  refine lv_istore (lv' := [(6, .int r_12), (5, .int 1), (4, .int 0), (3, .ref o), (2, .ref hm), (1, .ref h0), (0, .ref b)]) hx hb dL_law_3565 hl (by decide) rfl (fun ls hl => ?_)
  refine lv_aload_n hx hb dL_law_3567 rfl (lv_at hl 4 rfl) ?_
  have f_15 := free_of (wc := [(hm, .inr (12, u_13))]) hD hS hA [4] rfl
  refine va_calli (va_runV (As := []) (rest := []) ⟨hx, hb, hml, hown, hts⟩ (c_thrown l D a1 a2 H.size hm u_13 1 h_14) (cwV 0 hts (gV w_458 w_459 w_460 w_244 w_461) rfl rfl rfl (by decide +kernel) ⟨Nat.le_of_ble_eq_true rfl, Nat.le_of_ble_eq_true rfl⟩) (pre_V hK hP hD hS hA hE [4] rfl (by decide) rfl [] rfl (ci := 12) (q0 := 4) rfl rfl) rfl rfl hl.1 rfl (lv_room (Nat.le_of_ble_eq_true rfl)) dL_law_3568 ⟨Nat.le_of_ble_eq_true rfl, Nat.le_of_ble_eq_true rfl⟩) hS (fun q _ h => f_15 q h) f_15 (fun r_16 u_17 t H1 locs ht hvm h_18 hB hz1 hk1 hS => ?_)
  obtain ⟨hP, hD⟩ := join (wc := [(hm, .inr (12, u_13))]) (wr := [(gn 0, .inl (kP, 6, .inr (.inr (.inr (.inr (fun _ => none)))))), (gm 7, .inl (kA, 6, .inr (.inr (.inr (.inr F))))), (rr, .inl (kY, 5, .inl (fun _ => 0))), (o, .inl (kL, 1, .inr (.inl (fun _ => 0))))]) (w1 := [(hm, .inr (12, u_13))]) hP hD f_15 [4] [0, 1, 2, 3] rfl rfl (by decide) (by decide) hk1 ht hB
  generalize H1 = H at hP hS ⊢
  have hP : va_P D vwCl [(gn 0, .inl (kP, 6, .inr (.inr (.inr (.inr (fun _ => none)))))), (gm 7, .inl (kA, 6, .inr (.inr (.inr (.inr F))))), (rr, .inl (kY, 5, .inl (fun _ => 0))), (o, .inl (kL, 1, .inr (.inl (fun _ => 0)))), (hm, .inr (12, u_13))] H := hP
  have hD : va_D (fun q : Nat => s.heap.size ≤ q) [(gn 0, .inl (kP, 6, .inr (.inr (.inr (.inr (fun _ => none)))))), (gm 7, .inl (kA, 6, .inr (.inr (.inr (.inr F))))), (rr, .inl (kY, 5, .inl (fun _ => 0))), (o, .inl (kL, 1, .inr (.inl (fun _ => 0)))), (hm, .inr (12, u_13))] := hD
  obtain rfl := h_18
  refine lv_iload hx hb dL_law_3571 (lv_at hl 1 rfl) ?_
  refine lv_icmp_eq (tgt := 3578) hx hb dL_law_3573 (by decide) (fun _ => ?_) (fun c => absurd (by decide) c)
  refine lv_iload hx hb dL_law_3578 (lv_at hl 1 rfl) ?_
  refine lv_if_ne (tgt := 3595) hx hb dL_law_3580 (by decide) (fun _ => ?_) (fun c => absurd c (by decide))
  refine lv_goto (tgt := 3913) hx hb dL_law_3595 (by decide) ?_
  exact law_tail hx hb hr_ hlocks hX hbl hS (Nat.le_of_ble_eq_true rfl) (Nat.le_of_ble_eq_true rfl) (lv_sub hl [2, 6] rfl)
set_option maxRecDepth 100000 in
set_option maxHeartbeats 4000000 in
theorem case_49 {p : Program} {l : Launch} (hl9 : l.stackTraces = false) {e : Env} {s : State} {m : MethodId} {below : List Frame} {meth : Method} {c : Code} {D : va_G} {a1 a2 b : Nat} {xs : Nat → Int32} {H : Heap} {locs : List Loc} {ls : Array Slot} (h0 h1 h2 : Nat) (g gn gb : Nat → Nat) (kP : ClassId) (hm hr rr : Nat) (gm : Nat → Nat) (kI kA kY : ClassId) (F : Nat → Option Nat) (o : Nat) (kL : ClassId) (hG : LawSt D a1 a2 p s m meth c b xs H locs ls h0 h1 h2 g gn gb kP hm hr rr gm kI kA kY F o kL) : W p l e room_1 s m #[Value.ref b] below meth c H locs 5338 65502 (lw_Z below #[Value.ref b] s) (F0 m 3654 ls []) := by
  obtain ⟨hx, hb, hr_, hml, hown, hts, hX, hbl, hlocks, hP, hK, hD, hA, hE, hS, hF, hl⟩ := hG
  have hbA : ¬ (fun q : Nat => s.heap.size ≤ q) b := Nat.not_le.mpr hbl
  refine lv_aload_n hx hb dL_law_3654 rfl (lv_at hl 3 rfl) ?_
  refine lv_aload_n hx hb dL_law_3655 rfl (lv_at hl 4 rfl) ?_
  refine lv_iload hx hb dL_law_3656 (lv_at hl 0 rfl) ?_
  refine lv_iconst (v := 1) hx hb dL_law_3658 (by decide) ?_
  refine lv_iadd hx hb dL_law_3659 ?_
  refine lv_topi (fun x_1 ex_1 => ?_)
  obtain rfl : x_1 = 1 := ex_1.trans (by decide)
  refine va_sld hx hb hX hbl hbA hS (i := 1) (by unfold vp_in; decide) dL_law_3660 ?_
  refine W.eq (g2 := F0 m 3661 ls [.int (xs 1), .ref h0]) rfl ?_
  refine lv_aload_n hx hb dL_law_3661 rfl (lv_at hl 4 rfl) ?_
  refine lv_iload hx hb dL_law_3662 (lv_at hl 0 rfl) ?_
  refine lv_iconst (v := 2) hx hb dL_law_3664 (by decide) ?_
  refine lv_iadd hx hb dL_law_3665 ?_
  refine lv_topi (fun x_2 ex_2 => ?_)
  obtain rfl : x_2 = 2 := ex_2.trans (by decide)
  refine va_sld hx hb hX hbl hbA hS (i := 2) (by unfold vp_in; decide) dL_law_3666 ?_
  refine W.eq (g2 := F0 m 3667 ls [.int (xs 2), .int (xs 1), .ref h0]) rfl ?_
  refine lv_aload_n hx hb dL_law_3667 rfl (lv_at hl 1 rfl) ?_
  have f_3 := free_of (wc := [(h0, .inr (11, [.ref h1, .ref h2, .ref (g 2), .ref (g 3), .ref (g 4), .ref (g 5), .ref (g 6), .int 0, .int 0, .int 0, .int 0])), (h1, .inr (6, [.ref (gn 0), .int 0, .ref (gn 2), .ref (gn 3), .int 0, .ref (gn 5), .int 0, .int 0])), (h2, .inr (1, [.ref h1, .ref (gb 1), .int 0]))]) hD hS hA [0, 1, 2] rfl
  refine vx_calli (vx_runSX (As := [.ref h0, .int (xs 1), .int (xs 2), .ref o]) (rest := []) ⟨hx, hb, hml, hown, hts⟩ (c_h_due l hl9 D a1 a2 H.size h0 h1 h2 g gn gb (xs 1) (xs 2) o) (vx_cwSW 4 hts (gSW w_770 w_771 w_450 w_772) rfl rfl rfl (by decide +kernel) ⟨Nat.le_of_ble_eq_true rfl, Nat.le_of_ble_eq_true rfl⟩) (pre_S hK hP hD hS hA hE [0, 1, 2] rfl (by decide) rfl [] rfl) rfl rfl hl.1 rfl (lv_room (Nat.le_of_ble_eq_true rfl)) dL_law_3668 ⟨Nat.le_of_ble_eq_true rfl, Nat.le_of_ble_eq_true rfl⟩) hS (fun q _ h => f_3 q h) f_3 (fun q _ h => f_3 q h) (fun E ce q9 u9 t H locs ht hvm hw hB hz1 hk1 hS hce hcv hcl => False.elim hw) (fun r_4 u_5 t H1 locs ht hvm h_6 hB hz1 hk1 hS => ?_)
  obtain ⟨hP, hD⟩ := join (wc := [(h0, .inr (11, [.ref h1, .ref h2, .ref (g 2), .ref (g 3), .ref (g 4), .ref (g 5), .ref (g 6), .int 0, .int 0, .int 0, .int 0])), (h1, .inr (6, [.ref (gn 0), .int 0, .ref (gn 2), .ref (gn 3), .int 0, .ref (gn 5), .int 0, .int 0])), (h2, .inr (1, [.ref h1, .ref (gb 1), .int 0]))]) (wr := [(gn 0, .inl (kP, 6, .inr (.inr (.inr (.inr (fun _ => none)))))), (hm, .inr (12, [.int 0, .ref hr, .int 0, .int 0, .int 0, .int 0, .int 0, .ref (gm 7), .ref (gm 8), .ref (gm 9), .ref (gm 10), .ref (gm 11), .ref (gm 12), .ref (gm 13), .ref (gm 14), .int 0, .ref (gm 16), .int 0, .int 0, .int 0, .ref (gm 20), .ref (gm 21), .int 0, .int 0, .int 0, .int 0, .int 0, .int 0, .ref (gm 28), .ref (gm 29)])), (hr, .inl (kI, 2, .inl (fun _ => 0))), (gm 7, .inl (kA, 6, .inr (.inr (.inr (.inr F))))), (rr, .inl (kY, 5, .inl (fun _ => 0))), (o, .inl (kL, 1, .inr (.inl (fun _ => 0))))]) (w1 := []) hP hD f_3 [0, 1, 2] [3, 4, 5, 6, 7, 8] rfl rfl (by decide) (by decide) hk1 ht wat_nil
  generalize H1 = H at hP hS ⊢
  have hP : va_P D vwCl [(gn 0, .inl (kP, 6, .inr (.inr (.inr (.inr (fun _ => none)))))), (hm, .inr (12, [.int 0, .ref hr, .int 0, .int 0, .int 0, .int 0, .int 0, .ref (gm 7), .ref (gm 8), .ref (gm 9), .ref (gm 10), .ref (gm 11), .ref (gm 12), .ref (gm 13), .ref (gm 14), .int 0, .ref (gm 16), .int 0, .int 0, .int 0, .ref (gm 20), .ref (gm 21), .int 0, .int 0, .int 0, .int 0, .int 0, .int 0, .ref (gm 28), .ref (gm 29)])), (hr, .inl (kI, 2, .inl (fun _ => 0))), (gm 7, .inl (kA, 6, .inr (.inr (.inr (.inr F))))), (rr, .inl (kY, 5, .inl (fun _ => 0))), (o, .inl (kL, 1, .inr (.inl (fun _ => 0))))] H := hP
  have hD : va_D (fun q : Nat => s.heap.size ≤ q) [(gn 0, .inl (kP, 6, .inr (.inr (.inr (.inr (fun _ => none)))))), (hm, .inr (12, [.int 0, .ref hr, .int 0, .int 0, .int 0, .int 0, .int 0, .ref (gm 7), .ref (gm 8), .ref (gm 9), .ref (gm 10), .ref (gm 11), .ref (gm 12), .ref (gm 13), .ref (gm 14), .int 0, .ref (gm 16), .int 0, .int 0, .int 0, .ref (gm 20), .ref (gm 21), .int 0, .int 0, .int 0, .int 0, .int 0, .int 0, .ref (gm 28), .ref (gm 29)])), (hr, .inl (kI, 2, .inl (fun _ => 0))), (gm 7, .inl (kA, 6, .inr (.inr (.inr (.inr F))))), (rr, .inl (kY, 5, .inl (fun _ => 0))), (o, .inl (kL, 1, .inr (.inl (fun _ => 0))))] := hD
  obtain rfl := h_6
  refine lv_istore (lv' := [(5, .int 1), (4, .int 0), (3, .ref o), (2, .ref hm), (1, .ref h0), (0, .ref b)]) hx hb dL_law_3671 hl (by decide) rfl (fun ls hl => ?_)
  refine lv_aload_n hx hb dL_law_3673 rfl (lv_at hl 3 rfl) ?_
  refine lv_aload_n hx hb dL_law_3674 rfl (lv_at hl 5 rfl) ?_
  refine lv_iload hx hb dL_law_3675 (lv_at hl 1 rfl) ?_
  refine lv_iconst (v := 1) hx hb dL_law_3677 (by decide) ?_
  refine lv_iadd hx hb dL_law_3678 ?_
  refine lv_topi (fun x_7 ex_7 => ?_)
  obtain rfl : x_7 = 1 := ex_7.trans (by decide)
  refine va_sld hx hb hX hbl hbA hS (i := 1) (by unfold vp_in; decide) dL_law_3679 ?_
  refine W.eq (g2 := F0 m 3680 ls [.int (xs 1), .ref hm]) rfl ?_
  refine lv_aload_n hx hb dL_law_3680 rfl (lv_at hl 5 rfl) ?_
  refine lv_iload hx hb dL_law_3681 (lv_at hl 1 rfl) ?_
  refine lv_iconst (v := 2) hx hb dL_law_3683 (by decide) ?_
  refine lv_iadd hx hb dL_law_3684 ?_
  refine lv_topi (fun x_8 ex_8 => ?_)
  obtain rfl : x_8 = 2 := ex_8.trans (by decide)
  refine va_sld hx hb hX hbl hbA hS (i := 2) (by unfold vp_in; decide) dL_law_3685 ?_
  refine W.eq (g2 := F0 m 3686 ls [.int (xs 2), .int (xs 1), .ref hm]) rfl ?_
  have f_9 := free_of (wc := [(hm, .inr (12, [.int 0, .ref hr, .int 0, .int 0, .int 0, .int 0, .int 0, .ref (gm 7), .ref (gm 8), .ref (gm 9), .ref (gm 10), .ref (gm 11), .ref (gm 12), .ref (gm 13), .ref (gm 14), .int 0, .ref (gm 16), .int 0, .int 0, .int 0, .ref (gm 20), .ref (gm 21), .int 0, .int 0, .int 0, .int 0, .int 0, .int 0, .ref (gm 28), .ref (gm 29)])), (hr, .inl (kI, 2, .inl (fun _ => 0)))]) hD hS hA [1, 2] rfl
  refine va_calll (va_runV (As := [.int (xs 1), .int (xs 2)]) (rest := []) ⟨hx, hb, hml, hown, hts⟩ (c_m_due l D a1 a2 H.size hm hr gm kI (xs 1) (xs 2)) (cwV 2 hts (gV w_773 w_774 w_775 w_244 w_776) rfl rfl rfl (by decide +kernel) ⟨Nat.le_of_ble_eq_true rfl, Nat.le_of_ble_eq_true rfl⟩) (pre_V hK hP hD hS hA hE [1, 2] rfl (by decide) rfl [1] rfl (ci := 12) (q0 := 1) rfl rfl) rfl rfl hl.1 rfl (lv_room (Nat.le_of_ble_eq_true rfl)) dL_law_3686 ⟨Nat.le_of_ble_eq_true rfl, Nat.le_of_ble_eq_true rfl⟩) hS (fun q _ h => f_9 q h) f_9 (fun r_10 u_11 t H1 locs ht hvm h_12 hB hz1 hk1 hS => ?_)
  obtain ⟨hP, hD⟩ := join (wc := [(hm, .inr (12, [.int 0, .ref hr, .int 0, .int 0, .int 0, .int 0, .int 0, .ref (gm 7), .ref (gm 8), .ref (gm 9), .ref (gm 10), .ref (gm 11), .ref (gm 12), .ref (gm 13), .ref (gm 14), .int 0, .ref (gm 16), .int 0, .int 0, .int 0, .ref (gm 20), .ref (gm 21), .int 0, .int 0, .int 0, .int 0, .int 0, .int 0, .ref (gm 28), .ref (gm 29)])), (hr, .inl (kI, 2, .inl (fun _ => 0)))]) (wr := [(gn 0, .inl (kP, 6, .inr (.inr (.inr (.inr (fun _ => none)))))), (gm 7, .inl (kA, 6, .inr (.inr (.inr (.inr F))))), (rr, .inl (kY, 5, .inl (fun _ => 0))), (o, .inl (kL, 1, .inr (.inl (fun _ => 0))))]) (w1 := [(hm, .inr (12, u_11))]) hP hD f_9 [1, 2] [0, 3, 4, 5] rfl rfl (by decide) (by decide) hk1 ht hB
  generalize H1 = H at hP hS ⊢
  have hP : va_P D vwCl [(gn 0, .inl (kP, 6, .inr (.inr (.inr (.inr (fun _ => none)))))), (gm 7, .inl (kA, 6, .inr (.inr (.inr (.inr F))))), (rr, .inl (kY, 5, .inl (fun _ => 0))), (o, .inl (kL, 1, .inr (.inl (fun _ => 0)))), (hm, .inr (12, u_11))] H := hP
  have hD : va_D (fun q : Nat => s.heap.size ≤ q) [(gn 0, .inl (kP, 6, .inr (.inr (.inr (.inr (fun _ => none)))))), (gm 7, .inl (kA, 6, .inr (.inr (.inr (.inr F))))), (rr, .inl (kY, 5, .inl (fun _ => 0))), (o, .inl (kL, 1, .inr (.inl (fun _ => 0)))), (hm, .inr (12, u_11))] := hD
  refine lv_lstore (lv' := [(6, .long r_10), (5, .int 1), (4, .int 0), (3, .ref o), (2, .ref hm), (1, .ref h0), (0, .ref b)]) hx hb dL_law_3689 hl (by decide) rfl (fun ls hl => ?_)
  refine lv_aload_n hx hb dL_law_3691 rfl (lv_at hl 4 rfl) ?_
  have f_13 := free_of (wc := [(hm, .inr (12, u_11))]) hD hS hA [4] rfl
  refine va_calli (va_runV (As := []) (rest := []) ⟨hx, hb, hml, hown, hts⟩ (c_thrown l D a1 a2 H.size hm u_11 1 h_12) (cwV 0 hts (gV w_458 w_459 w_460 w_244 w_461) rfl rfl rfl (by decide +kernel) ⟨Nat.le_of_ble_eq_true rfl, Nat.le_of_ble_eq_true rfl⟩) (pre_V hK hP hD hS hA hE [4] rfl (by decide) rfl [] rfl (ci := 12) (q0 := 4) rfl rfl) rfl rfl hl.1 rfl (lv_room (Nat.le_of_ble_eq_true rfl)) dL_law_3692 ⟨Nat.le_of_ble_eq_true rfl, Nat.le_of_ble_eq_true rfl⟩) hS (fun q _ h => f_13 q h) f_13 (fun r_14 u_15 t H1 locs ht hvm h_16 hB hz1 hk1 hS => ?_)
  obtain ⟨hP, hD⟩ := join (wc := [(hm, .inr (12, u_11))]) (wr := [(gn 0, .inl (kP, 6, .inr (.inr (.inr (.inr (fun _ => none)))))), (gm 7, .inl (kA, 6, .inr (.inr (.inr (.inr F))))), (rr, .inl (kY, 5, .inl (fun _ => 0))), (o, .inl (kL, 1, .inr (.inl (fun _ => 0))))]) (w1 := [(hm, .inr (12, u_11))]) hP hD f_13 [4] [0, 1, 2, 3] rfl rfl (by decide) (by decide) hk1 ht hB
  generalize H1 = H at hP hS ⊢
  have hP : va_P D vwCl [(gn 0, .inl (kP, 6, .inr (.inr (.inr (.inr (fun _ => none)))))), (gm 7, .inl (kA, 6, .inr (.inr (.inr (.inr F))))), (rr, .inl (kY, 5, .inl (fun _ => 0))), (o, .inl (kL, 1, .inr (.inl (fun _ => 0)))), (hm, .inr (12, u_11))] H := hP
  have hD : va_D (fun q : Nat => s.heap.size ≤ q) [(gn 0, .inl (kP, 6, .inr (.inr (.inr (.inr (fun _ => none)))))), (gm 7, .inl (kA, 6, .inr (.inr (.inr (.inr F))))), (rr, .inl (kY, 5, .inl (fun _ => 0))), (o, .inl (kL, 1, .inr (.inl (fun _ => 0)))), (hm, .inr (12, u_11))] := hD
  obtain rfl := h_16
  refine lv_iload hx hb dL_law_3695 (lv_at hl 1 rfl) ?_
  refine lv_icmp_eq (tgt := 3702) hx hb dL_law_3697 (by decide) (fun _ => ?_) (fun c => absurd (by decide) c)
  refine lv_iload hx hb dL_law_3702 (lv_at hl 1 rfl) ?_
  refine lv_if_ne (tgt := 3718) hx hb dL_law_3704 (by decide) (fun _ => ?_) (fun c => absurd c (by decide))
  refine lv_goto (tgt := 3913) hx hb dL_law_3718 (by decide) ?_
  exact law_tail hx hb hr_ hlocks hX hbl hS (Nat.le_of_ble_eq_true rfl) (Nat.le_of_ble_eq_true rfl) (lv_sub hl [2, 6] rfl)
set_option maxRecDepth 100000 in
set_option maxHeartbeats 4000000 in
theorem case_50 {p : Program} {l : Launch} (hl9 : l.stackTraces = false) {e : Env} {s : State} {m : MethodId} {below : List Frame} {meth : Method} {c : Code} {D : va_G} {a1 a2 b : Nat} {xs : Nat → Int32} {H : Heap} {locs : List Loc} {ls : Array Slot} (h0 h1 h2 : Nat) (g gn gb : Nat → Nat) (kP : ClassId) (hm hr rr : Nat) (gm : Nat → Nat) (kI kA kY : ClassId) (F : Nat → Option Nat) (o : Nat) (kL : ClassId) (hG : LawSt D a1 a2 p s m meth c b xs H locs ls h0 h1 h2 g gn gb kP hm hr rr gm kI kA kY F o kL) : W p l e room_1 s m #[Value.ref b] below meth c H locs 5338 65502 (lw_Z below #[Value.ref b] s) (F0 m 3721 ls []) := by
  obtain ⟨hx, hb, hr_, hml, hown, hts, hX, hbl, hlocks, hP, hK, hD, hA, hE, hS, hF, hl⟩ := hG
  have hbA : ¬ (fun q : Nat => s.heap.size ≤ q) b := Nat.not_le.mpr hbl
  refine lv_aload_n hx hb dL_law_3721 rfl (lv_at hl 3 rfl) ?_
  refine lv_aload_n hx hb dL_law_3722 rfl (lv_at hl 4 rfl) ?_
  refine lv_iload hx hb dL_law_3723 (lv_at hl 0 rfl) ?_
  refine lv_iconst (v := 1) hx hb dL_law_3725 (by decide) ?_
  refine lv_iadd hx hb dL_law_3726 ?_
  refine lv_topi (fun x_1 ex_1 => ?_)
  obtain rfl : x_1 = 1 := ex_1.trans (by decide)
  refine va_sld hx hb hX hbl hbA hS (i := 1) (by unfold vp_in; decide) dL_law_3727 ?_
  refine W.eq (g2 := F0 m 3728 ls [.int (xs 1), .ref h0]) rfl ?_
  refine lv_aload_n hx hb dL_law_3728 rfl (lv_at hl 4 rfl) ?_
  refine lv_iload hx hb dL_law_3729 (lv_at hl 0 rfl) ?_
  refine lv_iconst (v := 2) hx hb dL_law_3731 (by decide) ?_
  refine lv_iadd hx hb dL_law_3732 ?_
  refine lv_topi (fun x_2 ex_2 => ?_)
  obtain rfl : x_2 = 2 := ex_2.trans (by decide)
  refine va_sld hx hb hX hbl hbA hS (i := 2) (by unfold vp_in; decide) dL_law_3733 ?_
  refine W.eq (g2 := F0 m 3734 ls [.int (xs 2), .int (xs 1), .ref h0]) rfl ?_
  refine lv_aload_n hx hb dL_law_3734 rfl (lv_at hl 1 rfl) ?_
  have f_3 := free_of (wc := [(h0, .inr (11, [.ref h1, .ref h2, .ref (g 2), .ref (g 3), .ref (g 4), .ref (g 5), .ref (g 6), .int 0, .int 0, .int 0, .int 0])), (h1, .inr (6, [.ref (gn 0), .int 0, .ref (gn 2), .ref (gn 3), .int 0, .ref (gn 5), .int 0, .int 0])), (h2, .inr (1, [.ref h1, .ref (gb 1), .int 0]))]) hD hS hA [0, 1, 2] rfl
  refine vx_calli (vx_runSX (As := [.ref h0, .int (xs 1), .int (xs 2), .ref o]) (rest := []) ⟨hx, hb, hml, hown, hts⟩ (c_h_needs l hl9 D a1 a2 H.size h0 h1 h2 g gn gb (xs 1) (xs 2) o) (vx_cwSW 4 hts (gSW w_777 w_778 w_450 w_779) rfl rfl rfl (by decide +kernel) ⟨Nat.le_of_ble_eq_true rfl, Nat.le_of_ble_eq_true rfl⟩) (pre_S hK hP hD hS hA hE [0, 1, 2] rfl (by decide) rfl [] rfl) rfl rfl hl.1 rfl (lv_room (Nat.le_of_ble_eq_true rfl)) dL_law_3735 ⟨Nat.le_of_ble_eq_true rfl, Nat.le_of_ble_eq_true rfl⟩) hS (fun q _ h => f_3 q h) f_3 (fun q _ h => f_3 q h) (fun E ce q9 u9 t H locs ht hvm hw hB hz1 hk1 hS hce hcv hcl => False.elim hw) (fun r_4 u_5 t H1 locs ht hvm h_6 hB hz1 hk1 hS => ?_)
  obtain ⟨hP, hD⟩ := join (wc := [(h0, .inr (11, [.ref h1, .ref h2, .ref (g 2), .ref (g 3), .ref (g 4), .ref (g 5), .ref (g 6), .int 0, .int 0, .int 0, .int 0])), (h1, .inr (6, [.ref (gn 0), .int 0, .ref (gn 2), .ref (gn 3), .int 0, .ref (gn 5), .int 0, .int 0])), (h2, .inr (1, [.ref h1, .ref (gb 1), .int 0]))]) (wr := [(gn 0, .inl (kP, 6, .inr (.inr (.inr (.inr (fun _ => none)))))), (hm, .inr (12, [.int 0, .ref hr, .int 0, .int 0, .int 0, .int 0, .int 0, .ref (gm 7), .ref (gm 8), .ref (gm 9), .ref (gm 10), .ref (gm 11), .ref (gm 12), .ref (gm 13), .ref (gm 14), .int 0, .ref (gm 16), .int 0, .int 0, .int 0, .ref (gm 20), .ref (gm 21), .int 0, .int 0, .int 0, .int 0, .int 0, .int 0, .ref (gm 28), .ref (gm 29)])), (hr, .inl (kI, 2, .inl (fun _ => 0))), (gm 7, .inl (kA, 6, .inr (.inr (.inr (.inr F))))), (rr, .inl (kY, 5, .inl (fun _ => 0))), (o, .inl (kL, 1, .inr (.inl (fun _ => 0))))]) (w1 := []) hP hD f_3 [0, 1, 2] [3, 4, 5, 6, 7, 8] rfl rfl (by decide) (by decide) hk1 ht wat_nil
  generalize H1 = H at hP hS ⊢
  have hP : va_P D vwCl [(gn 0, .inl (kP, 6, .inr (.inr (.inr (.inr (fun _ => none)))))), (hm, .inr (12, [.int 0, .ref hr, .int 0, .int 0, .int 0, .int 0, .int 0, .ref (gm 7), .ref (gm 8), .ref (gm 9), .ref (gm 10), .ref (gm 11), .ref (gm 12), .ref (gm 13), .ref (gm 14), .int 0, .ref (gm 16), .int 0, .int 0, .int 0, .ref (gm 20), .ref (gm 21), .int 0, .int 0, .int 0, .int 0, .int 0, .int 0, .ref (gm 28), .ref (gm 29)])), (hr, .inl (kI, 2, .inl (fun _ => 0))), (gm 7, .inl (kA, 6, .inr (.inr (.inr (.inr F))))), (rr, .inl (kY, 5, .inl (fun _ => 0))), (o, .inl (kL, 1, .inr (.inl (fun _ => 0))))] H := hP
  have hD : va_D (fun q : Nat => s.heap.size ≤ q) [(gn 0, .inl (kP, 6, .inr (.inr (.inr (.inr (fun _ => none)))))), (hm, .inr (12, [.int 0, .ref hr, .int 0, .int 0, .int 0, .int 0, .int 0, .ref (gm 7), .ref (gm 8), .ref (gm 9), .ref (gm 10), .ref (gm 11), .ref (gm 12), .ref (gm 13), .ref (gm 14), .int 0, .ref (gm 16), .int 0, .int 0, .int 0, .ref (gm 20), .ref (gm 21), .int 0, .int 0, .int 0, .int 0, .int 0, .int 0, .ref (gm 28), .ref (gm 29)])), (hr, .inl (kI, 2, .inl (fun _ => 0))), (gm 7, .inl (kA, 6, .inr (.inr (.inr (.inr F))))), (rr, .inl (kY, 5, .inl (fun _ => 0))), (o, .inl (kL, 1, .inr (.inl (fun _ => 0))))] := hD
  obtain rfl := h_6
  refine lv_istore (lv' := [(5, .int 1), (4, .int 0), (3, .ref o), (2, .ref hm), (1, .ref h0), (0, .ref b)]) hx hb dL_law_3738 hl (by decide) rfl (fun ls hl => ?_)
  refine lv_aload_n hx hb dL_law_3740 rfl (lv_at hl 3 rfl) ?_
  refine lv_aload_n hx hb dL_law_3741 rfl (lv_at hl 5 rfl) ?_
  refine lv_iload hx hb dL_law_3742 (lv_at hl 1 rfl) ?_
  refine lv_iconst (v := 1) hx hb dL_law_3744 (by decide) ?_
  refine lv_iadd hx hb dL_law_3745 ?_
  refine lv_topi (fun x_7 ex_7 => ?_)
  obtain rfl : x_7 = 1 := ex_7.trans (by decide)
  refine va_sld hx hb hX hbl hbA hS (i := 1) (by unfold vp_in; decide) dL_law_3746 ?_
  refine W.eq (g2 := F0 m 3747 ls [.int (xs 1), .ref hm]) rfl ?_
  refine lv_aload_n hx hb dL_law_3747 rfl (lv_at hl 5 rfl) ?_
  refine lv_iload hx hb dL_law_3748 (lv_at hl 1 rfl) ?_
  refine lv_iconst (v := 2) hx hb dL_law_3750 (by decide) ?_
  refine lv_iadd hx hb dL_law_3751 ?_
  refine lv_topi (fun x_8 ex_8 => ?_)
  obtain rfl : x_8 = 2 := ex_8.trans (by decide)
  refine va_sld hx hb hX hbl hbA hS (i := 2) (by unfold vp_in; decide) dL_law_3752 ?_
  refine W.eq (g2 := F0 m 3753 ls [.int (xs 2), .int (xs 1), .ref hm]) rfl ?_
  have f_9 := free_of (wc := [(hm, .inr (12, [.int 0, .ref hr, .int 0, .int 0, .int 0, .int 0, .int 0, .ref (gm 7), .ref (gm 8), .ref (gm 9), .ref (gm 10), .ref (gm 11), .ref (gm 12), .ref (gm 13), .ref (gm 14), .int 0, .ref (gm 16), .int 0, .int 0, .int 0, .ref (gm 20), .ref (gm 21), .int 0, .int 0, .int 0, .int 0, .int 0, .int 0, .ref (gm 28), .ref (gm 29)])), (hr, .inl (kI, 2, .inl (fun _ => 0)))]) hD hS hA [1, 2] rfl
  refine va_calli (va_runV (As := [.int (xs 1), .int (xs 2)]) (rest := []) ⟨hx, hb, hml, hown, hts⟩ (c_m_needs l D a1 a2 H.size hm hr gm kI (xs 1) (xs 2)) (cwV 2 hts (gV w_780 w_781 w_782 w_244 w_783) rfl rfl rfl (by decide +kernel) ⟨Nat.le_of_ble_eq_true rfl, Nat.le_of_ble_eq_true rfl⟩) (pre_V hK hP hD hS hA hE [1, 2] rfl (by decide) rfl [1] rfl (ci := 12) (q0 := 1) rfl rfl) rfl rfl hl.1 rfl (lv_room (Nat.le_of_ble_eq_true rfl)) dL_law_3753 ⟨Nat.le_of_ble_eq_true rfl, Nat.le_of_ble_eq_true rfl⟩) hS (fun q _ h => f_9 q h) f_9 (fun r_10 u_11 t H1 locs ht hvm h_12 hB hz1 hk1 hS => ?_)
  obtain ⟨hP, hD⟩ := join (wc := [(hm, .inr (12, [.int 0, .ref hr, .int 0, .int 0, .int 0, .int 0, .int 0, .ref (gm 7), .ref (gm 8), .ref (gm 9), .ref (gm 10), .ref (gm 11), .ref (gm 12), .ref (gm 13), .ref (gm 14), .int 0, .ref (gm 16), .int 0, .int 0, .int 0, .ref (gm 20), .ref (gm 21), .int 0, .int 0, .int 0, .int 0, .int 0, .int 0, .ref (gm 28), .ref (gm 29)])), (hr, .inl (kI, 2, .inl (fun _ => 0)))]) (wr := [(gn 0, .inl (kP, 6, .inr (.inr (.inr (.inr (fun _ => none)))))), (gm 7, .inl (kA, 6, .inr (.inr (.inr (.inr F))))), (rr, .inl (kY, 5, .inl (fun _ => 0))), (o, .inl (kL, 1, .inr (.inl (fun _ => 0))))]) (w1 := [(hm, .inr (12, u_11))]) hP hD f_9 [1, 2] [0, 3, 4, 5] rfl rfl (by decide) (by decide) hk1 ht hB
  generalize H1 = H at hP hS ⊢
  have hP : va_P D vwCl [(gn 0, .inl (kP, 6, .inr (.inr (.inr (.inr (fun _ => none)))))), (gm 7, .inl (kA, 6, .inr (.inr (.inr (.inr F))))), (rr, .inl (kY, 5, .inl (fun _ => 0))), (o, .inl (kL, 1, .inr (.inl (fun _ => 0)))), (hm, .inr (12, u_11))] H := hP
  have hD : va_D (fun q : Nat => s.heap.size ≤ q) [(gn 0, .inl (kP, 6, .inr (.inr (.inr (.inr (fun _ => none)))))), (gm 7, .inl (kA, 6, .inr (.inr (.inr (.inr F))))), (rr, .inl (kY, 5, .inl (fun _ => 0))), (o, .inl (kL, 1, .inr (.inl (fun _ => 0)))), (hm, .inr (12, u_11))] := hD
  refine lv_istore (lv' := [(6, .int r_10), (5, .int 1), (4, .int 0), (3, .ref o), (2, .ref hm), (1, .ref h0), (0, .ref b)]) hx hb dL_law_3756 hl (by decide) rfl (fun ls hl => ?_)
  refine lv_aload_n hx hb dL_law_3758 rfl (lv_at hl 4 rfl) ?_
  have f_13 := free_of (wc := [(hm, .inr (12, u_11))]) hD hS hA [4] rfl
  refine va_calli (va_runV (As := []) (rest := []) ⟨hx, hb, hml, hown, hts⟩ (c_thrown l D a1 a2 H.size hm u_11 1 h_12) (cwV 0 hts (gV w_458 w_459 w_460 w_244 w_461) rfl rfl rfl (by decide +kernel) ⟨Nat.le_of_ble_eq_true rfl, Nat.le_of_ble_eq_true rfl⟩) (pre_V hK hP hD hS hA hE [4] rfl (by decide) rfl [] rfl (ci := 12) (q0 := 4) rfl rfl) rfl rfl hl.1 rfl (lv_room (Nat.le_of_ble_eq_true rfl)) dL_law_3759 ⟨Nat.le_of_ble_eq_true rfl, Nat.le_of_ble_eq_true rfl⟩) hS (fun q _ h => f_13 q h) f_13 (fun r_14 u_15 t H1 locs ht hvm h_16 hB hz1 hk1 hS => ?_)
  obtain ⟨hP, hD⟩ := join (wc := [(hm, .inr (12, u_11))]) (wr := [(gn 0, .inl (kP, 6, .inr (.inr (.inr (.inr (fun _ => none)))))), (gm 7, .inl (kA, 6, .inr (.inr (.inr (.inr F))))), (rr, .inl (kY, 5, .inl (fun _ => 0))), (o, .inl (kL, 1, .inr (.inl (fun _ => 0))))]) (w1 := [(hm, .inr (12, u_11))]) hP hD f_13 [4] [0, 1, 2, 3] rfl rfl (by decide) (by decide) hk1 ht hB
  generalize H1 = H at hP hS ⊢
  have hP : va_P D vwCl [(gn 0, .inl (kP, 6, .inr (.inr (.inr (.inr (fun _ => none)))))), (gm 7, .inl (kA, 6, .inr (.inr (.inr (.inr F))))), (rr, .inl (kY, 5, .inl (fun _ => 0))), (o, .inl (kL, 1, .inr (.inl (fun _ => 0)))), (hm, .inr (12, u_11))] H := hP
  have hD : va_D (fun q : Nat => s.heap.size ≤ q) [(gn 0, .inl (kP, 6, .inr (.inr (.inr (.inr (fun _ => none)))))), (gm 7, .inl (kA, 6, .inr (.inr (.inr (.inr F))))), (rr, .inl (kY, 5, .inl (fun _ => 0))), (o, .inl (kL, 1, .inr (.inl (fun _ => 0)))), (hm, .inr (12, u_11))] := hD
  obtain rfl := h_16
  refine lv_iload hx hb dL_law_3762 (lv_at hl 1 rfl) ?_
  refine lv_icmp_eq (tgt := 3769) hx hb dL_law_3764 (by decide) (fun _ => ?_) (fun c => absurd (by decide) c)
  refine lv_iload hx hb dL_law_3769 (lv_at hl 1 rfl) ?_
  refine lv_if_ne (tgt := 3786) hx hb dL_law_3771 (by decide) (fun _ => ?_) (fun c => absurd c (by decide))
  refine lv_goto (tgt := 3913) hx hb dL_law_3786 (by decide) ?_
  exact law_tail hx hb hr_ hlocks hX hbl hS (Nat.le_of_ble_eq_true rfl) (Nat.le_of_ble_eq_true rfl) (lv_sub hl [2, 6] rfl)
set_option maxRecDepth 100000 in
set_option maxHeartbeats 4000000 in
theorem case_51 {p : Program} {l : Launch} (hl9 : l.stackTraces = false) {e : Env} {s : State} {m : MethodId} {below : List Frame} {meth : Method} {c : Code} {D : va_G} {a1 a2 b : Nat} {xs : Nat → Int32} {H : Heap} {locs : List Loc} {ls : Array Slot} (h0 h1 h2 : Nat) (g gn gb : Nat → Nat) (kP : ClassId) (hm hr rr : Nat) (gm : Nat → Nat) (kI kA kY : ClassId) (F : Nat → Option Nat) (o : Nat) (kL : ClassId) (hG : LawSt D a1 a2 p s m meth c b xs H locs ls h0 h1 h2 g gn gb kP hm hr rr gm kI kA kY F o kL) : W p l e room_1 s m #[Value.ref b] below meth c H locs 5338 65502 (lw_Z below #[Value.ref b] s) (F0 m 3789 ls []) := by
  obtain ⟨hx, hb, hr_, hml, hown, hts, hX, hbl, hlocks, hP, hK, hD, hA, hE, hS, hF, hl⟩ := hG
  have hbA : ¬ (fun q : Nat => s.heap.size ≤ q) b := Nat.not_le.mpr hbl
  refine lv_aload_n hx hb dL_law_3789 rfl (lv_at hl 3 rfl) ?_
  refine lv_aload_n hx hb dL_law_3790 rfl (lv_at hl 4 rfl) ?_
  refine lv_iload hx hb dL_law_3791 (lv_at hl 0 rfl) ?_
  refine lv_iconst (v := 1) hx hb dL_law_3793 (by decide) ?_
  refine lv_iadd hx hb dL_law_3794 ?_
  refine lv_topi (fun x_1 ex_1 => ?_)
  obtain rfl : x_1 = 1 := ex_1.trans (by decide)
  refine va_sld hx hb hX hbl hbA hS (i := 1) (by unfold vp_in; decide) dL_law_3795 ?_
  refine W.eq (g2 := F0 m 3796 ls [.int (xs 1), .ref h0]) rfl ?_
  refine lv_aload_n hx hb dL_law_3796 rfl (lv_at hl 1 rfl) ?_
  have f_2 := free_of (wc := [(h0, .inr (11, [.ref h1, .ref h2, .ref (g 2), .ref (g 3), .ref (g 4), .ref (g 5), .ref (g 6), .int 0, .int 0, .int 0, .int 0])), (h1, .inr (6, [.ref (gn 0), .int 0, .ref (gn 2), .ref (gn 3), .int 0, .ref (gn 5), .int 0, .int 0])), (h2, .inr (1, [.ref h1, .ref (gb 1), .int 0]))]) hD hS hA [0, 1, 2] rfl
  refine vx_calli (vx_runSX (As := [.ref h0, .int (xs 1), .ref o]) (rest := []) ⟨hx, hb, hml, hown, hts⟩ (c_h_without l hl9 D a1 a2 H.size h0 h1 h2 g gn gb (xs 1) o) (vx_cwSW 3 hts (gSW w_784 w_785 w_450 w_786) rfl rfl rfl (by decide +kernel) ⟨Nat.le_of_ble_eq_true rfl, Nat.le_of_ble_eq_true rfl⟩) (pre_S hK hP hD hS hA hE [0, 1, 2] rfl (by decide) rfl [] rfl) rfl rfl hl.1 rfl (lv_room (Nat.le_of_ble_eq_true rfl)) dL_law_3797 ⟨Nat.le_of_ble_eq_true rfl, Nat.le_of_ble_eq_true rfl⟩) hS (fun q _ h => f_2 q h) f_2 (fun q _ h => f_2 q h) (fun E ce q9 u9 t H locs ht hvm hw hB hz1 hk1 hS hce hcv hcl => False.elim hw) (fun r_3 u_4 t H1 locs ht hvm h_5 hB hz1 hk1 hS => ?_)
  obtain ⟨hP, hD⟩ := join (wc := [(h0, .inr (11, [.ref h1, .ref h2, .ref (g 2), .ref (g 3), .ref (g 4), .ref (g 5), .ref (g 6), .int 0, .int 0, .int 0, .int 0])), (h1, .inr (6, [.ref (gn 0), .int 0, .ref (gn 2), .ref (gn 3), .int 0, .ref (gn 5), .int 0, .int 0])), (h2, .inr (1, [.ref h1, .ref (gb 1), .int 0]))]) (wr := [(gn 0, .inl (kP, 6, .inr (.inr (.inr (.inr (fun _ => none)))))), (hm, .inr (12, [.int 0, .ref hr, .int 0, .int 0, .int 0, .int 0, .int 0, .ref (gm 7), .ref (gm 8), .ref (gm 9), .ref (gm 10), .ref (gm 11), .ref (gm 12), .ref (gm 13), .ref (gm 14), .int 0, .ref (gm 16), .int 0, .int 0, .int 0, .ref (gm 20), .ref (gm 21), .int 0, .int 0, .int 0, .int 0, .int 0, .int 0, .ref (gm 28), .ref (gm 29)])), (hr, .inl (kI, 2, .inl (fun _ => 0))), (gm 7, .inl (kA, 6, .inr (.inr (.inr (.inr F))))), (rr, .inl (kY, 5, .inl (fun _ => 0))), (o, .inl (kL, 1, .inr (.inl (fun _ => 0))))]) (w1 := []) hP hD f_2 [0, 1, 2] [3, 4, 5, 6, 7, 8] rfl rfl (by decide) (by decide) hk1 ht wat_nil
  generalize H1 = H at hP hS ⊢
  have hP : va_P D vwCl [(gn 0, .inl (kP, 6, .inr (.inr (.inr (.inr (fun _ => none)))))), (hm, .inr (12, [.int 0, .ref hr, .int 0, .int 0, .int 0, .int 0, .int 0, .ref (gm 7), .ref (gm 8), .ref (gm 9), .ref (gm 10), .ref (gm 11), .ref (gm 12), .ref (gm 13), .ref (gm 14), .int 0, .ref (gm 16), .int 0, .int 0, .int 0, .ref (gm 20), .ref (gm 21), .int 0, .int 0, .int 0, .int 0, .int 0, .int 0, .ref (gm 28), .ref (gm 29)])), (hr, .inl (kI, 2, .inl (fun _ => 0))), (gm 7, .inl (kA, 6, .inr (.inr (.inr (.inr F))))), (rr, .inl (kY, 5, .inl (fun _ => 0))), (o, .inl (kL, 1, .inr (.inl (fun _ => 0))))] H := hP
  have hD : va_D (fun q : Nat => s.heap.size ≤ q) [(gn 0, .inl (kP, 6, .inr (.inr (.inr (.inr (fun _ => none)))))), (hm, .inr (12, [.int 0, .ref hr, .int 0, .int 0, .int 0, .int 0, .int 0, .ref (gm 7), .ref (gm 8), .ref (gm 9), .ref (gm 10), .ref (gm 11), .ref (gm 12), .ref (gm 13), .ref (gm 14), .int 0, .ref (gm 16), .int 0, .int 0, .int 0, .ref (gm 20), .ref (gm 21), .int 0, .int 0, .int 0, .int 0, .int 0, .int 0, .ref (gm 28), .ref (gm 29)])), (hr, .inl (kI, 2, .inl (fun _ => 0))), (gm 7, .inl (kA, 6, .inr (.inr (.inr (.inr F))))), (rr, .inl (kY, 5, .inl (fun _ => 0))), (o, .inl (kL, 1, .inr (.inl (fun _ => 0))))] := hD
  obtain rfl := h_5
  refine lv_istore (lv' := [(5, .int 1), (4, .int 0), (3, .ref o), (2, .ref hm), (1, .ref h0), (0, .ref b)]) hx hb dL_law_3800 hl (by decide) rfl (fun ls hl => ?_)
  refine lv_aload_n hx hb dL_law_3802 rfl (lv_at hl 3 rfl) ?_
  refine lv_aload_n hx hb dL_law_3803 rfl (lv_at hl 5 rfl) ?_
  refine lv_iload hx hb dL_law_3804 (lv_at hl 1 rfl) ?_
  refine lv_iconst (v := 1) hx hb dL_law_3806 (by decide) ?_
  refine lv_iadd hx hb dL_law_3807 ?_
  refine lv_topi (fun x_6 ex_6 => ?_)
  obtain rfl : x_6 = 1 := ex_6.trans (by decide)
  refine va_sld hx hb hX hbl hbA hS (i := 1) (by unfold vp_in; decide) dL_law_3808 ?_
  refine W.eq (g2 := F0 m 3809 ls [.int (xs 1), .ref hm]) rfl ?_
  have f_7 := free_of (wc := [(hm, .inr (12, [.int 0, .ref hr, .int 0, .int 0, .int 0, .int 0, .int 0, .ref (gm 7), .ref (gm 8), .ref (gm 9), .ref (gm 10), .ref (gm 11), .ref (gm 12), .ref (gm 13), .ref (gm 14), .int 0, .ref (gm 16), .int 0, .int 0, .int 0, .ref (gm 20), .ref (gm 21), .int 0, .int 0, .int 0, .int 0, .int 0, .int 0, .ref (gm 28), .ref (gm 29)])), (hr, .inl (kI, 2, .inl (fun _ => 0)))]) hD hS hA [1, 2] rfl
  refine va_calli (va_runV (As := [.int (xs 1)]) (rest := []) ⟨hx, hb, hml, hown, hts⟩ (c_m_without l D a1 a2 H.size hm hr gm kI (xs 1)) (cwV 1 hts (gV w_787 w_788 w_789 w_244 w_790) rfl rfl rfl (by decide +kernel) ⟨Nat.le_of_ble_eq_true rfl, Nat.le_of_ble_eq_true rfl⟩) (pre_V hK hP hD hS hA hE [1, 2] rfl (by decide) rfl [1] rfl (ci := 12) (q0 := 1) rfl rfl) rfl rfl hl.1 rfl (lv_room (Nat.le_of_ble_eq_true rfl)) dL_law_3809 ⟨Nat.le_of_ble_eq_true rfl, Nat.le_of_ble_eq_true rfl⟩) hS (fun q _ h => f_7 q h) f_7 (fun r_8 u_9 t H1 locs ht hvm h_10 hB hz1 hk1 hS => ?_)
  obtain ⟨hP, hD⟩ := join (wc := [(hm, .inr (12, [.int 0, .ref hr, .int 0, .int 0, .int 0, .int 0, .int 0, .ref (gm 7), .ref (gm 8), .ref (gm 9), .ref (gm 10), .ref (gm 11), .ref (gm 12), .ref (gm 13), .ref (gm 14), .int 0, .ref (gm 16), .int 0, .int 0, .int 0, .ref (gm 20), .ref (gm 21), .int 0, .int 0, .int 0, .int 0, .int 0, .int 0, .ref (gm 28), .ref (gm 29)])), (hr, .inl (kI, 2, .inl (fun _ => 0)))]) (wr := [(gn 0, .inl (kP, 6, .inr (.inr (.inr (.inr (fun _ => none)))))), (gm 7, .inl (kA, 6, .inr (.inr (.inr (.inr F))))), (rr, .inl (kY, 5, .inl (fun _ => 0))), (o, .inl (kL, 1, .inr (.inl (fun _ => 0))))]) (w1 := [(hm, .inr (12, u_9))]) hP hD f_7 [1, 2] [0, 3, 4, 5] rfl rfl (by decide) (by decide) hk1 ht hB
  generalize H1 = H at hP hS ⊢
  have hP : va_P D vwCl [(gn 0, .inl (kP, 6, .inr (.inr (.inr (.inr (fun _ => none)))))), (gm 7, .inl (kA, 6, .inr (.inr (.inr (.inr F))))), (rr, .inl (kY, 5, .inl (fun _ => 0))), (o, .inl (kL, 1, .inr (.inl (fun _ => 0)))), (hm, .inr (12, u_9))] H := hP
  have hD : va_D (fun q : Nat => s.heap.size ≤ q) [(gn 0, .inl (kP, 6, .inr (.inr (.inr (.inr (fun _ => none)))))), (gm 7, .inl (kA, 6, .inr (.inr (.inr (.inr F))))), (rr, .inl (kY, 5, .inl (fun _ => 0))), (o, .inl (kL, 1, .inr (.inl (fun _ => 0)))), (hm, .inr (12, u_9))] := hD
  refine lv_istore (lv' := [(6, .int r_8), (5, .int 1), (4, .int 0), (3, .ref o), (2, .ref hm), (1, .ref h0), (0, .ref b)]) hx hb dL_law_3812 hl (by decide) rfl (fun ls hl => ?_)
  refine lv_aload_n hx hb dL_law_3814 rfl (lv_at hl 4 rfl) ?_
  have f_11 := free_of (wc := [(hm, .inr (12, u_9))]) hD hS hA [4] rfl
  refine va_calli (va_runV (As := []) (rest := []) ⟨hx, hb, hml, hown, hts⟩ (c_thrown l D a1 a2 H.size hm u_9 1 h_10) (cwV 0 hts (gV w_458 w_459 w_460 w_244 w_461) rfl rfl rfl (by decide +kernel) ⟨Nat.le_of_ble_eq_true rfl, Nat.le_of_ble_eq_true rfl⟩) (pre_V hK hP hD hS hA hE [4] rfl (by decide) rfl [] rfl (ci := 12) (q0 := 4) rfl rfl) rfl rfl hl.1 rfl (lv_room (Nat.le_of_ble_eq_true rfl)) dL_law_3815 ⟨Nat.le_of_ble_eq_true rfl, Nat.le_of_ble_eq_true rfl⟩) hS (fun q _ h => f_11 q h) f_11 (fun r_12 u_13 t H1 locs ht hvm h_14 hB hz1 hk1 hS => ?_)
  obtain ⟨hP, hD⟩ := join (wc := [(hm, .inr (12, u_9))]) (wr := [(gn 0, .inl (kP, 6, .inr (.inr (.inr (.inr (fun _ => none)))))), (gm 7, .inl (kA, 6, .inr (.inr (.inr (.inr F))))), (rr, .inl (kY, 5, .inl (fun _ => 0))), (o, .inl (kL, 1, .inr (.inl (fun _ => 0))))]) (w1 := [(hm, .inr (12, u_9))]) hP hD f_11 [4] [0, 1, 2, 3] rfl rfl (by decide) (by decide) hk1 ht hB
  generalize H1 = H at hP hS ⊢
  have hP : va_P D vwCl [(gn 0, .inl (kP, 6, .inr (.inr (.inr (.inr (fun _ => none)))))), (gm 7, .inl (kA, 6, .inr (.inr (.inr (.inr F))))), (rr, .inl (kY, 5, .inl (fun _ => 0))), (o, .inl (kL, 1, .inr (.inl (fun _ => 0)))), (hm, .inr (12, u_9))] H := hP
  have hD : va_D (fun q : Nat => s.heap.size ≤ q) [(gn 0, .inl (kP, 6, .inr (.inr (.inr (.inr (fun _ => none)))))), (gm 7, .inl (kA, 6, .inr (.inr (.inr (.inr F))))), (rr, .inl (kY, 5, .inl (fun _ => 0))), (o, .inl (kL, 1, .inr (.inl (fun _ => 0)))), (hm, .inr (12, u_9))] := hD
  obtain rfl := h_14
  refine lv_iload hx hb dL_law_3818 (lv_at hl 1 rfl) ?_
  refine lv_icmp_eq (tgt := 3825) hx hb dL_law_3820 (by decide) (fun _ => ?_) (fun c => absurd (by decide) c)
  refine lv_iload hx hb dL_law_3825 (lv_at hl 1 rfl) ?_
  refine lv_if_ne (tgt := 3842) hx hb dL_law_3827 (by decide) (fun _ => ?_) (fun c => absurd c (by decide))
  refine lv_goto (tgt := 3913) hx hb dL_law_3842 (by decide) ?_
  exact law_tail hx hb hr_ hlocks hX hbl hS (Nat.le_of_ble_eq_true rfl) (Nat.le_of_ble_eq_true rfl) (lv_sub hl [2, 6] rfl)
set_option maxRecDepth 100000 in
set_option maxHeartbeats 4000000 in
theorem case_52 {p : Program} {l : Launch} (hl9 : l.stackTraces = false) {e : Env} {s : State} {m : MethodId} {below : List Frame} {meth : Method} {c : Code} {D : va_G} {a1 a2 b : Nat} {xs : Nat → Int32} {H : Heap} {locs : List Loc} {ls : Array Slot} (h0 h1 h2 : Nat) (g gn gb : Nat → Nat) (kP : ClassId) (hm hr rr : Nat) (gm : Nat → Nat) (kI kA kY : ClassId) (F : Nat → Option Nat) (o : Nat) (kL : ClassId) (hG : LawSt D a1 a2 p s m meth c b xs H locs ls h0 h1 h2 g gn gb kP hm hr rr gm kI kA kY F o kL) : W p l e room_1 s m #[Value.ref b] below meth c H locs 5338 65502 (lw_Z below #[Value.ref b] s) (F0 m 3845 ls []) := by
  obtain ⟨hx, hb, hr_, hml, hown, hts, hX, hbl, hlocks, hP, hK, hD, hA, hE, hS, hF, hl⟩ := hG
  have hbA : ¬ (fun q : Nat => s.heap.size ≤ q) b := Nat.not_le.mpr hbl
  refine lv_aload_n hx hb dL_law_3845 rfl (lv_at hl 3 rfl) ?_
  refine lv_aload_n hx hb dL_law_3846 rfl (lv_at hl 1 rfl) ?_
  have f_1 := free_of (wc := [(h0, .inr (11, [.ref h1, .ref h2, .ref (g 2), .ref (g 3), .ref (g 4), .ref (g 5), .ref (g 6), .int 0, .int 0, .int 0, .int 0])), (h1, .inr (6, [.ref (gn 0), .int 0, .ref (gn 2), .ref (gn 3), .int 0, .ref (gn 5), .int 0, .int 0])), (h2, .inr (1, [.ref h1, .ref (gb 1), .int 0]))]) hD hS hA [0, 1, 2] rfl
  refine vx_calli (vx_runSX (As := [.ref h0, .ref o]) (rest := []) ⟨hx, hb, hml, hown, hts⟩ (c_h_vital l hl9 D a1 a2 H.size h0 h1 h2 g gn gb o) (vx_cwSW 2 hts (gSW w_791 w_792 w_450 w_793) rfl rfl rfl (by decide +kernel) ⟨Nat.le_of_ble_eq_true rfl, Nat.le_of_ble_eq_true rfl⟩) (pre_S hK hP hD hS hA hE [0, 1, 2] rfl (by decide) rfl [] rfl) rfl rfl hl.1 rfl (lv_room (Nat.le_of_ble_eq_true rfl)) dL_law_3847 ⟨Nat.le_of_ble_eq_true rfl, Nat.le_of_ble_eq_true rfl⟩) hS (fun q _ h => f_1 q h) f_1 (fun q _ h => f_1 q h) (fun E ce q9 u9 t H locs ht hvm hw hB hz1 hk1 hS hce hcv hcl => False.elim hw) (fun r_2 u_3 t H1 locs ht hvm h_4 hB hz1 hk1 hS => ?_)
  obtain ⟨hP, hD⟩ := join (wc := [(h0, .inr (11, [.ref h1, .ref h2, .ref (g 2), .ref (g 3), .ref (g 4), .ref (g 5), .ref (g 6), .int 0, .int 0, .int 0, .int 0])), (h1, .inr (6, [.ref (gn 0), .int 0, .ref (gn 2), .ref (gn 3), .int 0, .ref (gn 5), .int 0, .int 0])), (h2, .inr (1, [.ref h1, .ref (gb 1), .int 0]))]) (wr := [(gn 0, .inl (kP, 6, .inr (.inr (.inr (.inr (fun _ => none)))))), (hm, .inr (12, [.int 0, .ref hr, .int 0, .int 0, .int 0, .int 0, .int 0, .ref (gm 7), .ref (gm 8), .ref (gm 9), .ref (gm 10), .ref (gm 11), .ref (gm 12), .ref (gm 13), .ref (gm 14), .int 0, .ref (gm 16), .int 0, .int 0, .int 0, .ref (gm 20), .ref (gm 21), .int 0, .int 0, .int 0, .int 0, .int 0, .int 0, .ref (gm 28), .ref (gm 29)])), (hr, .inl (kI, 2, .inl (fun _ => 0))), (gm 7, .inl (kA, 6, .inr (.inr (.inr (.inr F))))), (rr, .inl (kY, 5, .inl (fun _ => 0))), (o, .inl (kL, 1, .inr (.inl (fun _ => 0))))]) (w1 := []) hP hD f_1 [0, 1, 2] [3, 4, 5, 6, 7, 8] rfl rfl (by decide) (by decide) hk1 ht wat_nil
  generalize H1 = H at hP hS ⊢
  have hP : va_P D vwCl [(gn 0, .inl (kP, 6, .inr (.inr (.inr (.inr (fun _ => none)))))), (hm, .inr (12, [.int 0, .ref hr, .int 0, .int 0, .int 0, .int 0, .int 0, .ref (gm 7), .ref (gm 8), .ref (gm 9), .ref (gm 10), .ref (gm 11), .ref (gm 12), .ref (gm 13), .ref (gm 14), .int 0, .ref (gm 16), .int 0, .int 0, .int 0, .ref (gm 20), .ref (gm 21), .int 0, .int 0, .int 0, .int 0, .int 0, .int 0, .ref (gm 28), .ref (gm 29)])), (hr, .inl (kI, 2, .inl (fun _ => 0))), (gm 7, .inl (kA, 6, .inr (.inr (.inr (.inr F))))), (rr, .inl (kY, 5, .inl (fun _ => 0))), (o, .inl (kL, 1, .inr (.inl (fun _ => 0))))] H := hP
  have hD : va_D (fun q : Nat => s.heap.size ≤ q) [(gn 0, .inl (kP, 6, .inr (.inr (.inr (.inr (fun _ => none)))))), (hm, .inr (12, [.int 0, .ref hr, .int 0, .int 0, .int 0, .int 0, .int 0, .ref (gm 7), .ref (gm 8), .ref (gm 9), .ref (gm 10), .ref (gm 11), .ref (gm 12), .ref (gm 13), .ref (gm 14), .int 0, .ref (gm 16), .int 0, .int 0, .int 0, .ref (gm 20), .ref (gm 21), .int 0, .int 0, .int 0, .int 0, .int 0, .int 0, .ref (gm 28), .ref (gm 29)])), (hr, .inl (kI, 2, .inl (fun _ => 0))), (gm 7, .inl (kA, 6, .inr (.inr (.inr (.inr F))))), (rr, .inl (kY, 5, .inl (fun _ => 0))), (o, .inl (kL, 1, .inr (.inl (fun _ => 0))))] := hD
  obtain rfl := h_4
  refine lv_istore (lv' := [(5, .int 1), (4, .int 0), (3, .ref o), (2, .ref hm), (1, .ref h0), (0, .ref b)]) hx hb dL_law_3850 hl (by decide) rfl (fun ls hl => ?_)
  refine lv_aload_n hx hb dL_law_3852 rfl (lv_at hl 3 rfl) ?_
  have f_5 := free_of (wc := [(hm, .inr (12, [.int 0, .ref hr, .int 0, .int 0, .int 0, .int 0, .int 0, .ref (gm 7), .ref (gm 8), .ref (gm 9), .ref (gm 10), .ref (gm 11), .ref (gm 12), .ref (gm 13), .ref (gm 14), .int 0, .ref (gm 16), .int 0, .int 0, .int 0, .ref (gm 20), .ref (gm 21), .int 0, .int 0, .int 0, .int 0, .int 0, .int 0, .ref (gm 28), .ref (gm 29)])), (hr, .inl (kI, 2, .inl (fun _ => 0)))]) hD hS hA [1, 2] rfl
  refine va_calll (va_runV (As := []) (rest := []) ⟨hx, hb, hml, hown, hts⟩ (c_m_vital l D a1 a2 H.size hm hr gm kI) (cwV 0 hts (gV w_794 w_795 w_796 w_244 w_797) rfl rfl rfl (by decide +kernel) ⟨Nat.le_of_ble_eq_true rfl, Nat.le_of_ble_eq_true rfl⟩) (pre_V hK hP hD hS hA hE [1, 2] rfl (by decide) rfl [1] rfl (ci := 12) (q0 := 1) rfl rfl) rfl rfl hl.1 rfl (lv_room (Nat.le_of_ble_eq_true rfl)) dL_law_3853 ⟨Nat.le_of_ble_eq_true rfl, Nat.le_of_ble_eq_true rfl⟩) hS (fun q _ h => f_5 q h) f_5 (fun r_6 u_7 t H1 locs ht hvm h_8 hB hz1 hk1 hS => ?_)
  obtain ⟨hP, hD⟩ := join (wc := [(hm, .inr (12, [.int 0, .ref hr, .int 0, .int 0, .int 0, .int 0, .int 0, .ref (gm 7), .ref (gm 8), .ref (gm 9), .ref (gm 10), .ref (gm 11), .ref (gm 12), .ref (gm 13), .ref (gm 14), .int 0, .ref (gm 16), .int 0, .int 0, .int 0, .ref (gm 20), .ref (gm 21), .int 0, .int 0, .int 0, .int 0, .int 0, .int 0, .ref (gm 28), .ref (gm 29)])), (hr, .inl (kI, 2, .inl (fun _ => 0)))]) (wr := [(gn 0, .inl (kP, 6, .inr (.inr (.inr (.inr (fun _ => none)))))), (gm 7, .inl (kA, 6, .inr (.inr (.inr (.inr F))))), (rr, .inl (kY, 5, .inl (fun _ => 0))), (o, .inl (kL, 1, .inr (.inl (fun _ => 0))))]) (w1 := [(hm, .inr (12, u_7))]) hP hD f_5 [1, 2] [0, 3, 4, 5] rfl rfl (by decide) (by decide) hk1 ht hB
  generalize H1 = H at hP hS ⊢
  have hP : va_P D vwCl [(gn 0, .inl (kP, 6, .inr (.inr (.inr (.inr (fun _ => none)))))), (gm 7, .inl (kA, 6, .inr (.inr (.inr (.inr F))))), (rr, .inl (kY, 5, .inl (fun _ => 0))), (o, .inl (kL, 1, .inr (.inl (fun _ => 0)))), (hm, .inr (12, u_7))] H := hP
  have hD : va_D (fun q : Nat => s.heap.size ≤ q) [(gn 0, .inl (kP, 6, .inr (.inr (.inr (.inr (fun _ => none)))))), (gm 7, .inl (kA, 6, .inr (.inr (.inr (.inr F))))), (rr, .inl (kY, 5, .inl (fun _ => 0))), (o, .inl (kL, 1, .inr (.inl (fun _ => 0)))), (hm, .inr (12, u_7))] := hD
  refine lv_lstore (lv' := [(6, .long r_6), (5, .int 1), (4, .int 0), (3, .ref o), (2, .ref hm), (1, .ref h0), (0, .ref b)]) hx hb dL_law_3856 hl (by decide) rfl (fun ls hl => ?_)
  refine lv_aload_n hx hb dL_law_3858 rfl (lv_at hl 4 rfl) ?_
  have f_9 := free_of (wc := [(hm, .inr (12, u_7))]) hD hS hA [4] rfl
  refine va_calli (va_runV (As := []) (rest := []) ⟨hx, hb, hml, hown, hts⟩ (c_thrown l D a1 a2 H.size hm u_7 1 h_8) (cwV 0 hts (gV w_458 w_459 w_460 w_244 w_461) rfl rfl rfl (by decide +kernel) ⟨Nat.le_of_ble_eq_true rfl, Nat.le_of_ble_eq_true rfl⟩) (pre_V hK hP hD hS hA hE [4] rfl (by decide) rfl [] rfl (ci := 12) (q0 := 4) rfl rfl) rfl rfl hl.1 rfl (lv_room (Nat.le_of_ble_eq_true rfl)) dL_law_3859 ⟨Nat.le_of_ble_eq_true rfl, Nat.le_of_ble_eq_true rfl⟩) hS (fun q _ h => f_9 q h) f_9 (fun r_10 u_11 t H1 locs ht hvm h_12 hB hz1 hk1 hS => ?_)
  obtain ⟨hP, hD⟩ := join (wc := [(hm, .inr (12, u_7))]) (wr := [(gn 0, .inl (kP, 6, .inr (.inr (.inr (.inr (fun _ => none)))))), (gm 7, .inl (kA, 6, .inr (.inr (.inr (.inr F))))), (rr, .inl (kY, 5, .inl (fun _ => 0))), (o, .inl (kL, 1, .inr (.inl (fun _ => 0))))]) (w1 := [(hm, .inr (12, u_7))]) hP hD f_9 [4] [0, 1, 2, 3] rfl rfl (by decide) (by decide) hk1 ht hB
  generalize H1 = H at hP hS ⊢
  have hP : va_P D vwCl [(gn 0, .inl (kP, 6, .inr (.inr (.inr (.inr (fun _ => none)))))), (gm 7, .inl (kA, 6, .inr (.inr (.inr (.inr F))))), (rr, .inl (kY, 5, .inl (fun _ => 0))), (o, .inl (kL, 1, .inr (.inl (fun _ => 0)))), (hm, .inr (12, u_7))] H := hP
  have hD : va_D (fun q : Nat => s.heap.size ≤ q) [(gn 0, .inl (kP, 6, .inr (.inr (.inr (.inr (fun _ => none)))))), (gm 7, .inl (kA, 6, .inr (.inr (.inr (.inr F))))), (rr, .inl (kY, 5, .inl (fun _ => 0))), (o, .inl (kL, 1, .inr (.inl (fun _ => 0)))), (hm, .inr (12, u_7))] := hD
  obtain rfl := h_12
  refine lv_iload hx hb dL_law_3862 (lv_at hl 1 rfl) ?_
  refine lv_icmp_eq (tgt := 3869) hx hb dL_law_3864 (by decide) (fun _ => ?_) (fun c => absurd (by decide) c)
  refine lv_iload hx hb dL_law_3869 (lv_at hl 1 rfl) ?_
  refine lv_if_ne (tgt := 3885) hx hb dL_law_3871 (by decide) (fun _ => ?_) (fun c => absurd c (by decide))
  refine lv_goto (tgt := 3913) hx hb dL_law_3885 (by decide) ?_
  exact law_tail hx hb hr_ hlocks hX hbl hS (Nat.le_of_ble_eq_true rfl) (Nat.le_of_ble_eq_true rfl) (lv_sub hl [2, 6] rfl)
