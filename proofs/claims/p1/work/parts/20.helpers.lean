set_option maxRecDepth 100000 in
set_option maxHeartbeats 4000000 in
theorem c_h_place_ok (l : Launch) (hl9 : l.stackTraces = false) (D : va_G) (a1 a2 sz : Nat) (h0 h1 h2 : Nat) (g gn gb : Nat → Nat) (kP : ClassId) (p1 p2 p3 p4 : Int32) (hv : ((-720 ≤ p1 ∧ p1 ≤ 840) ∧ (0 ≤ p2 ∧ p2 ≤ 126)) ∧ ((0 ≤ p3 ∧ p3 ≤ 1438) ∧ (p3 + 1 ≤ p4 ∧ p4 ≤ 1439))) (o : Nat) (kL : ClassId) : vx_Met l yL_place (Cond.codeWith yL_place cL_place 7 (some .int) [(0, 14, 17, 13)] :: WS) ({ frames := 16, cells := 2, slots := 606, locals := 500 }) (va_Pc [.ref h0, .int p1, .int p2, .int p3, .int p4, .ref o] (pre D a1 a2 [(h0, .inr (11, [.ref h1, .ref h2, .ref (g 2), .ref (g 3), .ref (g 4), .ref (g 5), .ref (g 6), .int 0, .int 0, .int 0, .int 0])), (h1, .inr (6, [.ref (gn 0), .int 0, .ref (gn 2), .ref (gn 3), .int 0, .ref (gn 5), .int 0, .int 0])), (h2, .inr (1, [.ref h1, .ref (gb 1), .int 0])), (gn 0, .inl (kP, 6, .inr (.inr (.inr (.inr (fun _ => none)))))), (o, .inl (kL, 1, .inr (.inl (fun _ => 0))))] [(kP, .object RX8), (kL, .long)] sz)) (va_Qi (S := Unit) (fun r _ => r = 0) (fun _ t => wat D (va_A [(h0, .inr (11, [.ref h1, .ref h2, .ref (g 2), .ref (g 3), .ref (g 4), .ref (g 5), .ref (g 6), .int 0, .int 0, .int 0, .int 0])), (h1, .inr (6, [.ref (gn 0), .int 0, .ref (gn 2), .ref (gn 3), .int 0, .ref (gn 5), .int 0, .int 0])), (h2, .inr (1, [.ref h1, .ref (gb 1), .int 0])), (gn 0, .inl (kP, 6, .inr (.inr (.inr (.inr (fun _ => none)))))), (o, .inl (kL, 1, .inr (.inl (fun _ => 0))))] sz) [(o, .inl (kL, 1, .inr (.inl (vp_updL (fun _ => 0) 0 0))))] t) (va_A [(h0, .inr (11, [.ref h1, .ref h2, .ref (g 2), .ref (g 3), .ref (g 4), .ref (g 5), .ref (g 6), .int 0, .int 0, .int 0, .int 0])), (h1, .inr (6, [.ref (gn 0), .int 0, .ref (gn 2), .ref (gn 3), .int 0, .ref (gn 5), .int 0, .int 0])), (h2, .inr (1, [.ref h1, .ref (gb 1), .int 0])), (gn 0, .inl (kP, 6, .inr (.inr (.inr (.inr (fun _ => none)))))), (o, .inl (kL, 1, .inr (.inl (fun _ => 0))))] sz)) (vx_X (fun _ : Unit => False) (fun _ _ _ => True) (va_A [(h0, .inr (11, [.ref h1, .ref h2, .ref (g 2), .ref (g 3), .ref (g 4), .ref (g 5), .ref (g 6), .int 0, .int 0, .int 0, .int 0])), (h1, .inr (6, [.ref (gn 0), .int 0, .ref (gn 2), .ref (gn 3), .int 0, .ref (gn 5), .int 0, .int 0])), (h2, .inr (1, [.ref h1, .ref (gb 1), .int 0])), (gn 0, .inl (kP, 6, .inr (.inr (.inr (.inr (fun _ => none)))))), (o, .inl (kL, 1, .inr (.inl (fun _ => 0))))] sz)) 2 606 (va_A [(h0, .inr (11, [.ref h1, .ref h2, .ref (g 2), .ref (g 3), .ref (g 4), .ref (g 5), .ref (g 6), .int 0, .int 0, .int 0, .int 0])), (h1, .inr (6, [.ref (gn 0), .int 0, .ref (gn 2), .ref (gn 3), .int 0, .ref (gn 5), .int 0, .int 0])), (h2, .inr (1, [.ref h1, .ref (gb 1), .int 0])), (gn 0, .inl (kP, 6, .inr (.inr (.inr (.inr (fun _ => none)))))), (o, .inl (kL, 1, .inr (.inl (fun _ => 0))))] sz) := by
  refine open_H (by decide +kernel) (Nat.le_of_ble_eq_true rfl) (fun A => va_Qi (S := Unit) (fun r _ => r = 0) (fun _ t => wat D A [(o, .inl (kL, 1, .inr (.inl (vp_updL (fun _ => 0) 0 0))))] t) A) (fun A => vx_X (fun _ : Unit => False) (fun _ _ _ => True) A) ?_
  intro p e s m below meth c A ls hG
  obtain ⟨⟨hx, hb, hr, hml, hown, hts, hlocks, hin, hP, hK, hD, hA, hE, hS, hl⟩, hno⟩ := hG
  have hown : s.vm.findClass RL = some m.cls := hown
  have hl : lv_has ls 7 [(0, .ref h0), (1, .int p1), (2, .int p2), (3, .int p3), (4, .int p4), (5, .ref o)] := hl
  refine lv_aload hx hb dL_place_0 (lv_at hl 5 rfl) ?_
  refine lv_iconst (v := 0) hx hb dL_place_2 (by decide) ?_
  refine lv_aload_n hx hb dL_place_3 rfl (lv_at hl 0 rfl) ?_
  refine lv_iload_n hx hb dL_place_4 rfl (lv_at hl 1 rfl) ?_
  refine lv_iload_n hx hb dL_place_5 rfl (lv_at hl 2 rfl) ?_
  refine lv_iload_n hx hb dL_place_6 rfl (lv_at hl 3 rfl) ?_
  refine lv_iload hx hb dL_place_7 (lv_at hl 4 rfl) ?_
  have f_1 := free_of (wc := [(h0, .inr (11, [.ref h1, .ref h2, .ref (g 2), .ref (g 3), .ref (g 4), .ref (g 5), .ref (g 6), .int 0, .int 0, .int 0, .int 0])), (h1, .inr (6, [.ref (gn 0), .int 0, .ref (gn 2), .ref (gn 3), .int 0, .ref (gn 5), .int 0, .int 0])), (h2, .inr (1, [.ref h1, .ref (gb 1), .int 0])), (gn 0, .inl (kP, 6, .inr (.inr (.inr (.inr (fun _ => none))))))]) hD hS hA [0, 1, 2, 3] rfl
  refine va_calli (va_runV (As := [.int p1, .int p2, .int p3, .int p4]) (rest := [.int 0, .ref o]) ⟨hx, hb, hml, hown, hts⟩ (c_x_place_ok l D a1 a2 s.heap.size h0 h1 h2 g gn gb kP p1 p2 p3 p4 hv) (cwV 4 hts (gV w_339 w_340 w_341 w_8 w_342) rfl rfl rfl (by decide +kernel) ⟨Nat.le_of_ble_eq_true rfl, Nat.le_of_ble_eq_true rfl⟩) (pre_V hK hP hD hS hA hE [0, 1, 2, 3] rfl (by decide) rfl [0] rfl (ci := 11) (q0 := 0) rfl rfl) rfl rfl hl.1 rfl (lv_room (Nat.le_of_ble_eq_true rfl)) dL_place_9 ⟨Nat.le_of_ble_eq_true rfl, Nat.le_of_ble_eq_true rfl⟩) hS (fun q _ h => f_1 q h) f_1 (fun r_2 u_3 t H1 locs ht hvm h_4 hB hz1 hk1 hS => ?_)
  obtain ⟨hP, hD⟩ := join (wc := [(h0, .inr (11, [.ref h1, .ref h2, .ref (g 2), .ref (g 3), .ref (g 4), .ref (g 5), .ref (g 6), .int 0, .int 0, .int 0, .int 0])), (h1, .inr (6, [.ref (gn 0), .int 0, .ref (gn 2), .ref (gn 3), .int 0, .ref (gn 5), .int 0, .int 0])), (h2, .inr (1, [.ref h1, .ref (gb 1), .int 0])), (gn 0, .inl (kP, 6, .inr (.inr (.inr (.inr (fun _ => none))))))]) (wr := [(o, .inl (kL, 1, .inr (.inl (fun _ => 0))))]) (w1 := []) hP hD f_1 [0, 1, 2, 3] [4] rfl rfl (by decide) (by decide) hk1 ht wat_nil
  generalize H1 = H at hP hS ⊢
  have hP : va_P D vwCl [(o, .inl (kL, 1, .inr (.inl (fun _ => 0))))] H := hP
  have hD : va_D A [(o, .inl (kL, 1, .inr (.inl (fun _ => 0))))] := hD
  obtain rfl := h_4
  refine lv_i2l (v := 0) hx hb dL_place_12 (by decide) ?_
  refine va_last hx hb hK hP hD hS 0 1 rfl rfl (by unfold vp_in; decide) dL_place_13 (fun H locs hP hD hS => ?_)
  have hP : va_P D vwCl [(o, .inl (kL, 1, .inr (.inl (vp_updL (fun _ => 0) 0 0))))] H := hP
  have hD : va_D A [(o, .inl (kL, 1, .inr (.inl (vp_updL (fun _ => 0) 0 0))))] := hD
  refine lv_goto (tgt := 21) hx hb dL_place_14 (by decide) ?_
  refine lv_iconst (v := 0) hx hb dL_place_21 (by decide) ?_
  refine W.widen (k := 2) (n := 606) (Nat.le_of_ble_eq_true rfl) (Nat.le_of_ble_eq_true rfl) ?_
  refine vx_ret ?_
  exact W.iret (v := 0) hx hb hr (fun t ht hW => ⟨⟨0, (), rfl, rfl, ⟨by rw [ht]; exact hP.sub (ws' := [(o, .inl (kL, 1, .inr (.inl (vp_updL (fun _ => 0) 0 0))))]) [0] rfl, hD.sub (ws' := [(o, .inl (kL, 1, .inr (.inl (vp_updL (fun _ => 0) 0 0))))]) [0] (by decide) rfl⟩⟩, hS.F ht⟩) hS.2.2 dL_place_22
set_option maxRecDepth 100000 in
set_option maxHeartbeats 4000000 in
theorem c_h_go_ok (l : Launch) (hl9 : l.stackTraces = false) (D : va_G) (a1 a2 sz : Nat) (h0 h1 h2 : Nat) (g gn gb : Nat → Nat) (p1 : Int32) (hv : 1 ≤ p1 ∧ p1 ≤ 20160) (o : Nat) (kL : ClassId) : vx_Met l yL_go (Cond.codeWith yL_go cL_go 4 (some .int) [(0, 9, 12, 13)] :: WS) ({ frames := 16, cells := 0, slots := 0, locals := 500 }) (va_Pc [.ref h0, .int p1, .ref o] (pre D a1 a2 [(h0, .inr (11, [.ref h1, .ref h2, .ref (g 2), .ref (g 3), .ref (g 4), .ref (g 5), .ref (g 6), .int 0, .int 0, .int 0, .int 0])), (h1, .inr (6, [.ref (gn 0), .int 0, .ref (gn 2), .ref (gn 3), .int 0, .ref (gn 5), .int 0, .int 0])), (h2, .inr (1, [.ref h1, .ref (gb 1), .int 0])), (o, .inl (kL, 1, .inr (.inl (fun _ => 0))))] [(kL, .long)] sz)) (va_Qi (S := Unit) (fun r _ => r = 0) (fun _ t => wat D (va_A [(h0, .inr (11, [.ref h1, .ref h2, .ref (g 2), .ref (g 3), .ref (g 4), .ref (g 5), .ref (g 6), .int 0, .int 0, .int 0, .int 0])), (h1, .inr (6, [.ref (gn 0), .int 0, .ref (gn 2), .ref (gn 3), .int 0, .ref (gn 5), .int 0, .int 0])), (h2, .inr (1, [.ref h1, .ref (gb 1), .int 0])), (o, .inl (kL, 1, .inr (.inl (fun _ => 0))))] sz) [(o, .inl (kL, 1, .inr (.inl (vp_updL (fun _ => 0) 0 0))))] t) (va_A [(h0, .inr (11, [.ref h1, .ref h2, .ref (g 2), .ref (g 3), .ref (g 4), .ref (g 5), .ref (g 6), .int 0, .int 0, .int 0, .int 0])), (h1, .inr (6, [.ref (gn 0), .int 0, .ref (gn 2), .ref (gn 3), .int 0, .ref (gn 5), .int 0, .int 0])), (h2, .inr (1, [.ref h1, .ref (gb 1), .int 0])), (o, .inl (kL, 1, .inr (.inl (fun _ => 0))))] sz)) (vx_X (fun _ : Unit => False) (fun _ _ _ => True) (va_A [(h0, .inr (11, [.ref h1, .ref h2, .ref (g 2), .ref (g 3), .ref (g 4), .ref (g 5), .ref (g 6), .int 0, .int 0, .int 0, .int 0])), (h1, .inr (6, [.ref (gn 0), .int 0, .ref (gn 2), .ref (gn 3), .int 0, .ref (gn 5), .int 0, .int 0])), (h2, .inr (1, [.ref h1, .ref (gb 1), .int 0])), (o, .inl (kL, 1, .inr (.inl (fun _ => 0))))] sz)) 0 0 (va_A [(h0, .inr (11, [.ref h1, .ref h2, .ref (g 2), .ref (g 3), .ref (g 4), .ref (g 5), .ref (g 6), .int 0, .int 0, .int 0, .int 0])), (h1, .inr (6, [.ref (gn 0), .int 0, .ref (gn 2), .ref (gn 3), .int 0, .ref (gn 5), .int 0, .int 0])), (h2, .inr (1, [.ref h1, .ref (gb 1), .int 0])), (o, .inl (kL, 1, .inr (.inl (fun _ => 0))))] sz) := by
  refine open_H (by decide +kernel) (Nat.le_of_ble_eq_true rfl) (fun A => va_Qi (S := Unit) (fun r _ => r = 0) (fun _ t => wat D A [(o, .inl (kL, 1, .inr (.inl (vp_updL (fun _ => 0) 0 0))))] t) A) (fun A => vx_X (fun _ : Unit => False) (fun _ _ _ => True) A) ?_
  intro p e s m below meth c A ls hG
  obtain ⟨⟨hx, hb, hr, hml, hown, hts, hlocks, hin, hP, hK, hD, hA, hE, hS, hl⟩, hno⟩ := hG
  have hown : s.vm.findClass RL = some m.cls := hown
  have hl : lv_has ls 4 [(0, .ref h0), (1, .int p1), (2, .ref o)] := hl
  refine lv_aload_n hx hb dL_go_0 rfl (lv_at hl 2 rfl) ?_
  refine lv_iconst (v := 0) hx hb dL_go_1 (by decide) ?_
  refine lv_aload_n hx hb dL_go_2 rfl (lv_at hl 0 rfl) ?_
  refine lv_iload_n hx hb dL_go_3 rfl (lv_at hl 1 rfl) ?_
  have f_1 := free_of (wc := [(h0, .inr (11, [.ref h1, .ref h2, .ref (g 2), .ref (g 3), .ref (g 4), .ref (g 5), .ref (g 6), .int 0, .int 0, .int 0, .int 0])), (h1, .inr (6, [.ref (gn 0), .int 0, .ref (gn 2), .ref (gn 3), .int 0, .ref (gn 5), .int 0, .int 0])), (h2, .inr (1, [.ref h1, .ref (gb 1), .int 0]))]) hD hS hA [0, 1, 2] rfl
  refine va_calli (va_runV (As := [.int p1]) (rest := [.int 0, .ref o]) ⟨hx, hb, hml, hown, hts⟩ (c_x_go_ok l D a1 a2 s.heap.size h0 h1 h2 g gn gb p1 hv) (cwV 1 hts (gV w_343 w_344 w_345 w_8 w_346) rfl rfl rfl (by decide +kernel) ⟨Nat.le_of_ble_eq_true rfl, Nat.le_of_ble_eq_true rfl⟩) (pre_V hK hP hD hS hA hE [0, 1, 2] rfl (by decide) rfl [] rfl (ci := 11) (q0 := 0) rfl rfl) rfl rfl hl.1 rfl (lv_room (Nat.le_of_ble_eq_true rfl)) dL_go_4 ⟨Nat.le_of_ble_eq_true rfl, Nat.le_of_ble_eq_true rfl⟩) hS (fun q _ h => f_1 q h) f_1 (fun r_2 u_3 t H1 locs ht hvm h_4 hB hz1 hk1 hS => ?_)
  obtain ⟨hP, hD⟩ := join (wc := [(h0, .inr (11, [.ref h1, .ref h2, .ref (g 2), .ref (g 3), .ref (g 4), .ref (g 5), .ref (g 6), .int 0, .int 0, .int 0, .int 0])), (h1, .inr (6, [.ref (gn 0), .int 0, .ref (gn 2), .ref (gn 3), .int 0, .ref (gn 5), .int 0, .int 0])), (h2, .inr (1, [.ref h1, .ref (gb 1), .int 0]))]) (wr := [(o, .inl (kL, 1, .inr (.inl (fun _ => 0))))]) (w1 := []) hP hD f_1 [0, 1, 2] [3] rfl rfl (by decide) (by decide) hk1 ht wat_nil
  generalize H1 = H at hP hS ⊢
  have hP : va_P D vwCl [(o, .inl (kL, 1, .inr (.inl (fun _ => 0))))] H := hP
  have hD : va_D A [(o, .inl (kL, 1, .inr (.inl (fun _ => 0))))] := hD
  obtain rfl := h_4
  refine lv_i2l (v := 0) hx hb dL_go_7 (by decide) ?_
  refine va_last hx hb hK hP hD hS 0 0 rfl rfl (by unfold vp_in; decide) dL_go_8 (fun H locs hP hD hS => ?_)
  have hP : va_P D vwCl [(o, .inl (kL, 1, .inr (.inl (vp_updL (fun _ => 0) 0 0))))] H := hP
  have hD : va_D A [(o, .inl (kL, 1, .inr (.inl (vp_updL (fun _ => 0) 0 0))))] := hD
  refine lv_goto (tgt := 15) hx hb dL_go_9 (by decide) ?_
  refine lv_iconst (v := 0) hx hb dL_go_15 (by decide) ?_
  refine W.widen (k := 0) (n := 0) (Nat.le_of_ble_eq_true rfl) (Nat.le_of_ble_eq_true rfl) ?_
  refine vx_ret ?_
  exact W.iret (v := 0) hx hb hr (fun t ht hW => ⟨⟨0, (), rfl, rfl, ⟨by rw [ht]; exact hP.sub (ws' := [(o, .inl (kL, 1, .inr (.inl (vp_updL (fun _ => 0) 0 0))))]) [0] rfl, hD.sub (ws' := [(o, .inl (kL, 1, .inr (.inl (vp_updL (fun _ => 0) 0 0))))]) [0] (by decide) rfl⟩⟩, hS.F ht⟩) hS.2.2 dL_go_16
set_option maxRecDepth 100000 in
set_option maxHeartbeats 4000000 in
theorem c_h_until_ok (l : Launch) (hl9 : l.stackTraces = false) (D : va_G) (a1 a2 sz : Nat) (h0 h1 h2 : Nat) (g gn gb : Nat → Nat) (p1 : Int32) (hv : 0 ≤ p1 ∧ p1 ≤ 575999) (o : Nat) (kL : ClassId) : vx_Met l yL_until (Cond.codeWith yL_until cL_until 4 (some .int) [(0, 9, 12, 13)] :: WS) ({ frames := 16, cells := 0, slots := 0, locals := 500 }) (va_Pc [.ref h0, .int p1, .ref o] (pre D a1 a2 [(h0, .inr (11, [.ref h1, .ref h2, .ref (g 2), .ref (g 3), .ref (g 4), .ref (g 5), .ref (g 6), .int 0, .int 0, .int 0, .int 0])), (h1, .inr (6, [.ref (gn 0), .int 0, .ref (gn 2), .ref (gn 3), .int 0, .ref (gn 5), .int 0, .int 0])), (h2, .inr (1, [.ref h1, .ref (gb 1), .int 0])), (o, .inl (kL, 1, .inr (.inl (fun _ => 0))))] [(kL, .long)] sz)) (va_Qi (S := Unit) (fun r _ => r = 0) (fun _ t => wat D (va_A [(h0, .inr (11, [.ref h1, .ref h2, .ref (g 2), .ref (g 3), .ref (g 4), .ref (g 5), .ref (g 6), .int 0, .int 0, .int 0, .int 0])), (h1, .inr (6, [.ref (gn 0), .int 0, .ref (gn 2), .ref (gn 3), .int 0, .ref (gn 5), .int 0, .int 0])), (h2, .inr (1, [.ref h1, .ref (gb 1), .int 0])), (o, .inl (kL, 1, .inr (.inl (fun _ => 0))))] sz) [(o, .inl (kL, 1, .inr (.inl (vp_updL (fun _ => 0) 0 0))))] t) (va_A [(h0, .inr (11, [.ref h1, .ref h2, .ref (g 2), .ref (g 3), .ref (g 4), .ref (g 5), .ref (g 6), .int 0, .int 0, .int 0, .int 0])), (h1, .inr (6, [.ref (gn 0), .int 0, .ref (gn 2), .ref (gn 3), .int 0, .ref (gn 5), .int 0, .int 0])), (h2, .inr (1, [.ref h1, .ref (gb 1), .int 0])), (o, .inl (kL, 1, .inr (.inl (fun _ => 0))))] sz)) (vx_X (fun _ : Unit => False) (fun _ _ _ => True) (va_A [(h0, .inr (11, [.ref h1, .ref h2, .ref (g 2), .ref (g 3), .ref (g 4), .ref (g 5), .ref (g 6), .int 0, .int 0, .int 0, .int 0])), (h1, .inr (6, [.ref (gn 0), .int 0, .ref (gn 2), .ref (gn 3), .int 0, .ref (gn 5), .int 0, .int 0])), (h2, .inr (1, [.ref h1, .ref (gb 1), .int 0])), (o, .inl (kL, 1, .inr (.inl (fun _ => 0))))] sz)) 0 0 (va_A [(h0, .inr (11, [.ref h1, .ref h2, .ref (g 2), .ref (g 3), .ref (g 4), .ref (g 5), .ref (g 6), .int 0, .int 0, .int 0, .int 0])), (h1, .inr (6, [.ref (gn 0), .int 0, .ref (gn 2), .ref (gn 3), .int 0, .ref (gn 5), .int 0, .int 0])), (h2, .inr (1, [.ref h1, .ref (gb 1), .int 0])), (o, .inl (kL, 1, .inr (.inl (fun _ => 0))))] sz) := by
  refine open_H (by decide +kernel) (Nat.le_of_ble_eq_true rfl) (fun A => va_Qi (S := Unit) (fun r _ => r = 0) (fun _ t => wat D A [(o, .inl (kL, 1, .inr (.inl (vp_updL (fun _ => 0) 0 0))))] t) A) (fun A => vx_X (fun _ : Unit => False) (fun _ _ _ => True) A) ?_
  intro p e s m below meth c A ls hG
  obtain ⟨⟨hx, hb, hr, hml, hown, hts, hlocks, hin, hP, hK, hD, hA, hE, hS, hl⟩, hno⟩ := hG
  have hown : s.vm.findClass RL = some m.cls := hown
  have hl : lv_has ls 4 [(0, .ref h0), (1, .int p1), (2, .ref o)] := hl
  refine lv_aload_n hx hb dL_until_0 rfl (lv_at hl 2 rfl) ?_
  refine lv_iconst (v := 0) hx hb dL_until_1 (by decide) ?_
  refine lv_aload_n hx hb dL_until_2 rfl (lv_at hl 0 rfl) ?_
  refine lv_iload_n hx hb dL_until_3 rfl (lv_at hl 1 rfl) ?_
  have f_1 := free_of (wc := [(h0, .inr (11, [.ref h1, .ref h2, .ref (g 2), .ref (g 3), .ref (g 4), .ref (g 5), .ref (g 6), .int 0, .int 0, .int 0, .int 0])), (h1, .inr (6, [.ref (gn 0), .int 0, .ref (gn 2), .ref (gn 3), .int 0, .ref (gn 5), .int 0, .int 0])), (h2, .inr (1, [.ref h1, .ref (gb 1), .int 0]))]) hD hS hA [0, 1, 2] rfl
  refine va_calli (va_runV (As := [.int p1]) (rest := [.int 0, .ref o]) ⟨hx, hb, hml, hown, hts⟩ (c_x_until_ok l D a1 a2 s.heap.size h0 h1 h2 g gn gb p1 hv) (cwV 1 hts (gV w_347 w_348 w_349 w_8 w_350) rfl rfl rfl (by decide +kernel) ⟨Nat.le_of_ble_eq_true rfl, Nat.le_of_ble_eq_true rfl⟩) (pre_V hK hP hD hS hA hE [0, 1, 2] rfl (by decide) rfl [] rfl (ci := 11) (q0 := 0) rfl rfl) rfl rfl hl.1 rfl (lv_room (Nat.le_of_ble_eq_true rfl)) dL_until_4 ⟨Nat.le_of_ble_eq_true rfl, Nat.le_of_ble_eq_true rfl⟩) hS (fun q _ h => f_1 q h) f_1 (fun r_2 u_3 t H1 locs ht hvm h_4 hB hz1 hk1 hS => ?_)
  obtain ⟨hP, hD⟩ := join (wc := [(h0, .inr (11, [.ref h1, .ref h2, .ref (g 2), .ref (g 3), .ref (g 4), .ref (g 5), .ref (g 6), .int 0, .int 0, .int 0, .int 0])), (h1, .inr (6, [.ref (gn 0), .int 0, .ref (gn 2), .ref (gn 3), .int 0, .ref (gn 5), .int 0, .int 0])), (h2, .inr (1, [.ref h1, .ref (gb 1), .int 0]))]) (wr := [(o, .inl (kL, 1, .inr (.inl (fun _ => 0))))]) (w1 := []) hP hD f_1 [0, 1, 2] [3] rfl rfl (by decide) (by decide) hk1 ht wat_nil
  generalize H1 = H at hP hS ⊢
  have hP : va_P D vwCl [(o, .inl (kL, 1, .inr (.inl (fun _ => 0))))] H := hP
  have hD : va_D A [(o, .inl (kL, 1, .inr (.inl (fun _ => 0))))] := hD
  obtain rfl := h_4
  refine lv_i2l (v := 0) hx hb dL_until_7 (by decide) ?_
  refine va_last hx hb hK hP hD hS 0 0 rfl rfl (by unfold vp_in; decide) dL_until_8 (fun H locs hP hD hS => ?_)
  have hP : va_P D vwCl [(o, .inl (kL, 1, .inr (.inl (vp_updL (fun _ => 0) 0 0))))] H := hP
  have hD : va_D A [(o, .inl (kL, 1, .inr (.inl (vp_updL (fun _ => 0) 0 0))))] := hD
  refine lv_goto (tgt := 15) hx hb dL_until_9 (by decide) ?_
  refine lv_iconst (v := 0) hx hb dL_until_15 (by decide) ?_
  refine W.widen (k := 0) (n := 0) (Nat.le_of_ble_eq_true rfl) (Nat.le_of_ble_eq_true rfl) ?_
  refine vx_ret ?_
  exact W.iret (v := 0) hx hb hr (fun t ht hW => ⟨⟨0, (), rfl, rfl, ⟨by rw [ht]; exact hP.sub (ws' := [(o, .inl (kL, 1, .inr (.inl (vp_updL (fun _ => 0) 0 0))))]) [0] rfl, hD.sub (ws' := [(o, .inl (kL, 1, .inr (.inl (vp_updL (fun _ => 0) 0 0))))]) [0] (by decide) rfl⟩⟩, hS.F ht⟩) hS.2.2 dL_until_16
set_option maxRecDepth 100000 in
set_option maxHeartbeats 4000000 in
theorem c_h_told_0 (l : Launch) (hl9 : l.stackTraces = false) (D : va_G) (a1 a2 sz : Nat) (h0 h1 h2 : Nat) (g gn gb : Nat → Nat) (o : Nat) (kL : ClassId) : vx_Met l yL_told (Cond.codeWith yL_told cL_told 4 (some .int) [(0, 9, 12, 13)] :: WS) ({ frames := 16, cells := 0, slots := 0, locals := 500 }) (va_Pc [.ref h0, .int 0, .ref o] (pre D a1 a2 [(h0, .inr (11, [.ref h1, .ref h2, .ref (g 2), .ref (g 3), .ref (g 4), .ref (g 5), .ref (g 6), .int 0, .int 0, .int 0, .int 0])), (h1, .inr (6, [.ref (gn 0), .int 0, .ref (gn 2), .ref (gn 3), .int 0, .ref (gn 5), .int 0, .int 0])), (h2, .inr (1, [.ref h1, .ref (gb 1), .int 0])), (o, .inl (kL, 1, .inr (.inl (fun _ => 0))))] [(kL, .long)] sz)) (va_Qi (S := Unit) (fun r _ => r = 0) (fun _ t => wat D (va_A [(h0, .inr (11, [.ref h1, .ref h2, .ref (g 2), .ref (g 3), .ref (g 4), .ref (g 5), .ref (g 6), .int 0, .int 0, .int 0, .int 0])), (h1, .inr (6, [.ref (gn 0), .int 0, .ref (gn 2), .ref (gn 3), .int 0, .ref (gn 5), .int 0, .int 0])), (h2, .inr (1, [.ref h1, .ref (gb 1), .int 0])), (o, .inl (kL, 1, .inr (.inl (fun _ => 0))))] sz) [(o, .inl (kL, 1, .inr (.inl (vp_updL (fun _ => 0) 0 0))))] t) (va_A [(h0, .inr (11, [.ref h1, .ref h2, .ref (g 2), .ref (g 3), .ref (g 4), .ref (g 5), .ref (g 6), .int 0, .int 0, .int 0, .int 0])), (h1, .inr (6, [.ref (gn 0), .int 0, .ref (gn 2), .ref (gn 3), .int 0, .ref (gn 5), .int 0, .int 0])), (h2, .inr (1, [.ref h1, .ref (gb 1), .int 0])), (o, .inl (kL, 1, .inr (.inl (fun _ => 0))))] sz)) (vx_X (fun _ : Unit => False) (fun _ _ _ => True) (va_A [(h0, .inr (11, [.ref h1, .ref h2, .ref (g 2), .ref (g 3), .ref (g 4), .ref (g 5), .ref (g 6), .int 0, .int 0, .int 0, .int 0])), (h1, .inr (6, [.ref (gn 0), .int 0, .ref (gn 2), .ref (gn 3), .int 0, .ref (gn 5), .int 0, .int 0])), (h2, .inr (1, [.ref h1, .ref (gb 1), .int 0])), (o, .inl (kL, 1, .inr (.inl (fun _ => 0))))] sz)) 0 0 (va_A [(h0, .inr (11, [.ref h1, .ref h2, .ref (g 2), .ref (g 3), .ref (g 4), .ref (g 5), .ref (g 6), .int 0, .int 0, .int 0, .int 0])), (h1, .inr (6, [.ref (gn 0), .int 0, .ref (gn 2), .ref (gn 3), .int 0, .ref (gn 5), .int 0, .int 0])), (h2, .inr (1, [.ref h1, .ref (gb 1), .int 0])), (o, .inl (kL, 1, .inr (.inl (fun _ => 0))))] sz) := by
  refine open_H (by decide +kernel) (Nat.le_of_ble_eq_true rfl) (fun A => va_Qi (S := Unit) (fun r _ => r = 0) (fun _ t => wat D A [(o, .inl (kL, 1, .inr (.inl (vp_updL (fun _ => 0) 0 0))))] t) A) (fun A => vx_X (fun _ : Unit => False) (fun _ _ _ => True) A) ?_
  intro p e s m below meth c A ls hG
  obtain ⟨⟨hx, hb, hr, hml, hown, hts, hlocks, hin, hP, hK, hD, hA, hE, hS, hl⟩, hno⟩ := hG
  have hown : s.vm.findClass RL = some m.cls := hown
  have hl : lv_has ls 4 [(0, .ref h0), (1, .int 0), (2, .ref o)] := hl
  refine lv_aload_n hx hb dL_told_0 rfl (lv_at hl 2 rfl) ?_
  refine lv_iconst (v := 0) hx hb dL_told_1 (by decide) ?_
  refine lv_aload_n hx hb dL_told_2 rfl (lv_at hl 0 rfl) ?_
  refine lv_iload_n hx hb dL_told_3 rfl (lv_at hl 1 rfl) ?_
  have f_1 := free_of (wc := [(h0, .inr (11, [.ref h1, .ref h2, .ref (g 2), .ref (g 3), .ref (g 4), .ref (g 5), .ref (g 6), .int 0, .int 0, .int 0, .int 0])), (h1, .inr (6, [.ref (gn 0), .int 0, .ref (gn 2), .ref (gn 3), .int 0, .ref (gn 5), .int 0, .int 0])), (h2, .inr (1, [.ref h1, .ref (gb 1), .int 0]))]) hD hS hA [0, 1, 2] rfl
  refine va_calli (va_runV (As := [.int 0]) (rest := [.int 0, .ref o]) ⟨hx, hb, hml, hown, hts⟩ (c_x_told_0 l D a1 a2 s.heap.size h0 h1 h2 g gn gb) (cwV 1 hts (gV w_351 w_352 w_353 w_8 w_354) rfl rfl rfl (by decide +kernel) ⟨Nat.le_of_ble_eq_true rfl, Nat.le_of_ble_eq_true rfl⟩) (pre_V hK hP hD hS hA hE [0, 1, 2] rfl (by decide) rfl [] rfl (ci := 11) (q0 := 0) rfl rfl) rfl rfl hl.1 rfl (lv_room (Nat.le_of_ble_eq_true rfl)) dL_told_4 ⟨Nat.le_of_ble_eq_true rfl, Nat.le_of_ble_eq_true rfl⟩) hS (fun q _ h => f_1 q h) f_1 (fun r_2 u_3 t H1 locs ht hvm h_4 hB hz1 hk1 hS => ?_)
  obtain ⟨hP, hD⟩ := join (wc := [(h0, .inr (11, [.ref h1, .ref h2, .ref (g 2), .ref (g 3), .ref (g 4), .ref (g 5), .ref (g 6), .int 0, .int 0, .int 0, .int 0])), (h1, .inr (6, [.ref (gn 0), .int 0, .ref (gn 2), .ref (gn 3), .int 0, .ref (gn 5), .int 0, .int 0])), (h2, .inr (1, [.ref h1, .ref (gb 1), .int 0]))]) (wr := [(o, .inl (kL, 1, .inr (.inl (fun _ => 0))))]) (w1 := []) hP hD f_1 [0, 1, 2] [3] rfl rfl (by decide) (by decide) hk1 ht wat_nil
  generalize H1 = H at hP hS ⊢
  have hP : va_P D vwCl [(o, .inl (kL, 1, .inr (.inl (fun _ => 0))))] H := hP
  have hD : va_D A [(o, .inl (kL, 1, .inr (.inl (fun _ => 0))))] := hD
  obtain rfl := h_4
  refine lv_i2l (v := 0) hx hb dL_told_7 (by decide) ?_
  refine va_last hx hb hK hP hD hS 0 0 rfl rfl (by unfold vp_in; decide) dL_told_8 (fun H locs hP hD hS => ?_)
  have hP : va_P D vwCl [(o, .inl (kL, 1, .inr (.inl (vp_updL (fun _ => 0) 0 0))))] H := hP
  have hD : va_D A [(o, .inl (kL, 1, .inr (.inl (vp_updL (fun _ => 0) 0 0))))] := hD
  refine lv_goto (tgt := 15) hx hb dL_told_9 (by decide) ?_
  refine lv_iconst (v := 0) hx hb dL_told_15 (by decide) ?_
  refine W.widen (k := 0) (n := 0) (Nat.le_of_ble_eq_true rfl) (Nat.le_of_ble_eq_true rfl) ?_
  refine vx_ret ?_
  exact W.iret (v := 0) hx hb hr (fun t ht hW => ⟨⟨0, (), rfl, rfl, ⟨by rw [ht]; exact hP.sub (ws' := [(o, .inl (kL, 1, .inr (.inl (vp_updL (fun _ => 0) 0 0))))]) [0] rfl, hD.sub (ws' := [(o, .inl (kL, 1, .inr (.inl (vp_updL (fun _ => 0) 0 0))))]) [0] (by decide) rfl⟩⟩, hS.F ht⟩) hS.2.2 dL_told_16
set_option maxRecDepth 100000 in
set_option maxHeartbeats 4000000 in
theorem c_h_told_1 (l : Launch) (hl9 : l.stackTraces = false) (D : va_G) (a1 a2 sz : Nat) (h0 h1 h2 : Nat) (g gn gb : Nat → Nat) (o : Nat) (kL : ClassId) : vx_Met l yL_told (Cond.codeWith yL_told cL_told 4 (some .int) [(0, 9, 12, 13)] :: WS) ({ frames := 16, cells := 0, slots := 0, locals := 500 }) (va_Pc [.ref h0, .int 1, .ref o] (pre D a1 a2 [(h0, .inr (11, [.ref h1, .ref h2, .ref (g 2), .ref (g 3), .ref (g 4), .ref (g 5), .ref (g 6), .int 0, .int 0, .int 0, .int 0])), (h1, .inr (6, [.ref (gn 0), .int 0, .ref (gn 2), .ref (gn 3), .int 0, .ref (gn 5), .int 0, .int 0])), (h2, .inr (1, [.ref h1, .ref (gb 1), .int 0])), (o, .inl (kL, 1, .inr (.inl (fun _ => 0))))] [(kL, .long)] sz)) (va_Qi (S := Unit) (fun r _ => r = 0) (fun _ t => wat D (va_A [(h0, .inr (11, [.ref h1, .ref h2, .ref (g 2), .ref (g 3), .ref (g 4), .ref (g 5), .ref (g 6), .int 0, .int 0, .int 0, .int 0])), (h1, .inr (6, [.ref (gn 0), .int 0, .ref (gn 2), .ref (gn 3), .int 0, .ref (gn 5), .int 0, .int 0])), (h2, .inr (1, [.ref h1, .ref (gb 1), .int 0])), (o, .inl (kL, 1, .inr (.inl (fun _ => 0))))] sz) [(o, .inl (kL, 1, .inr (.inl (vp_updL (fun _ => 0) 0 0))))] t) (va_A [(h0, .inr (11, [.ref h1, .ref h2, .ref (g 2), .ref (g 3), .ref (g 4), .ref (g 5), .ref (g 6), .int 0, .int 0, .int 0, .int 0])), (h1, .inr (6, [.ref (gn 0), .int 0, .ref (gn 2), .ref (gn 3), .int 0, .ref (gn 5), .int 0, .int 0])), (h2, .inr (1, [.ref h1, .ref (gb 1), .int 0])), (o, .inl (kL, 1, .inr (.inl (fun _ => 0))))] sz)) (vx_X (fun _ : Unit => False) (fun _ _ _ => True) (va_A [(h0, .inr (11, [.ref h1, .ref h2, .ref (g 2), .ref (g 3), .ref (g 4), .ref (g 5), .ref (g 6), .int 0, .int 0, .int 0, .int 0])), (h1, .inr (6, [.ref (gn 0), .int 0, .ref (gn 2), .ref (gn 3), .int 0, .ref (gn 5), .int 0, .int 0])), (h2, .inr (1, [.ref h1, .ref (gb 1), .int 0])), (o, .inl (kL, 1, .inr (.inl (fun _ => 0))))] sz)) 0 0 (va_A [(h0, .inr (11, [.ref h1, .ref h2, .ref (g 2), .ref (g 3), .ref (g 4), .ref (g 5), .ref (g 6), .int 0, .int 0, .int 0, .int 0])), (h1, .inr (6, [.ref (gn 0), .int 0, .ref (gn 2), .ref (gn 3), .int 0, .ref (gn 5), .int 0, .int 0])), (h2, .inr (1, [.ref h1, .ref (gb 1), .int 0])), (o, .inl (kL, 1, .inr (.inl (fun _ => 0))))] sz) := by
  refine open_H (by decide +kernel) (Nat.le_of_ble_eq_true rfl) (fun A => va_Qi (S := Unit) (fun r _ => r = 0) (fun _ t => wat D A [(o, .inl (kL, 1, .inr (.inl (vp_updL (fun _ => 0) 0 0))))] t) A) (fun A => vx_X (fun _ : Unit => False) (fun _ _ _ => True) A) ?_
  intro p e s m below meth c A ls hG
  obtain ⟨⟨hx, hb, hr, hml, hown, hts, hlocks, hin, hP, hK, hD, hA, hE, hS, hl⟩, hno⟩ := hG
  have hown : s.vm.findClass RL = some m.cls := hown
  have hl : lv_has ls 4 [(0, .ref h0), (1, .int 1), (2, .ref o)] := hl
  refine lv_aload_n hx hb dL_told_0 rfl (lv_at hl 2 rfl) ?_
  refine lv_iconst (v := 0) hx hb dL_told_1 (by decide) ?_
  refine lv_aload_n hx hb dL_told_2 rfl (lv_at hl 0 rfl) ?_
  refine lv_iload_n hx hb dL_told_3 rfl (lv_at hl 1 rfl) ?_
  have f_1 := free_of (wc := [(h0, .inr (11, [.ref h1, .ref h2, .ref (g 2), .ref (g 3), .ref (g 4), .ref (g 5), .ref (g 6), .int 0, .int 0, .int 0, .int 0])), (h1, .inr (6, [.ref (gn 0), .int 0, .ref (gn 2), .ref (gn 3), .int 0, .ref (gn 5), .int 0, .int 0])), (h2, .inr (1, [.ref h1, .ref (gb 1), .int 0]))]) hD hS hA [0, 1, 2] rfl
  refine va_calli (va_runV (As := [.int 1]) (rest := [.int 0, .ref o]) ⟨hx, hb, hml, hown, hts⟩ (c_x_told_1 l D a1 a2 s.heap.size h0 h1 h2 g gn gb) (cwV 1 hts (gV w_351 w_352 w_353 w_8 w_354) rfl rfl rfl (by decide +kernel) ⟨Nat.le_of_ble_eq_true rfl, Nat.le_of_ble_eq_true rfl⟩) (pre_V hK hP hD hS hA hE [0, 1, 2] rfl (by decide) rfl [] rfl (ci := 11) (q0 := 0) rfl rfl) rfl rfl hl.1 rfl (lv_room (Nat.le_of_ble_eq_true rfl)) dL_told_4 ⟨Nat.le_of_ble_eq_true rfl, Nat.le_of_ble_eq_true rfl⟩) hS (fun q _ h => f_1 q h) f_1 (fun r_2 u_3 t H1 locs ht hvm h_4 hB hz1 hk1 hS => ?_)
  obtain ⟨hP, hD⟩ := join (wc := [(h0, .inr (11, [.ref h1, .ref h2, .ref (g 2), .ref (g 3), .ref (g 4), .ref (g 5), .ref (g 6), .int 0, .int 0, .int 0, .int 0])), (h1, .inr (6, [.ref (gn 0), .int 0, .ref (gn 2), .ref (gn 3), .int 0, .ref (gn 5), .int 0, .int 0])), (h2, .inr (1, [.ref h1, .ref (gb 1), .int 0]))]) (wr := [(o, .inl (kL, 1, .inr (.inl (fun _ => 0))))]) (w1 := []) hP hD f_1 [0, 1, 2] [3] rfl rfl (by decide) (by decide) hk1 ht wat_nil
  generalize H1 = H at hP hS ⊢
  have hP : va_P D vwCl [(o, .inl (kL, 1, .inr (.inl (fun _ => 0))))] H := hP
  have hD : va_D A [(o, .inl (kL, 1, .inr (.inl (fun _ => 0))))] := hD
  obtain rfl := h_4
  refine lv_i2l (v := 0) hx hb dL_told_7 (by decide) ?_
  refine va_last hx hb hK hP hD hS 0 0 rfl rfl (by unfold vp_in; decide) dL_told_8 (fun H locs hP hD hS => ?_)
  have hP : va_P D vwCl [(o, .inl (kL, 1, .inr (.inl (vp_updL (fun _ => 0) 0 0))))] H := hP
  have hD : va_D A [(o, .inl (kL, 1, .inr (.inl (vp_updL (fun _ => 0) 0 0))))] := hD
  refine lv_goto (tgt := 15) hx hb dL_told_9 (by decide) ?_
  refine lv_iconst (v := 0) hx hb dL_told_15 (by decide) ?_
  refine W.widen (k := 0) (n := 0) (Nat.le_of_ble_eq_true rfl) (Nat.le_of_ble_eq_true rfl) ?_
  refine vx_ret ?_
  exact W.iret (v := 0) hx hb hr (fun t ht hW => ⟨⟨0, (), rfl, rfl, ⟨by rw [ht]; exact hP.sub (ws' := [(o, .inl (kL, 1, .inr (.inl (vp_updL (fun _ => 0) 0 0))))]) [0] rfl, hD.sub (ws' := [(o, .inl (kL, 1, .inr (.inl (vp_updL (fun _ => 0) 0 0))))]) [0] (by decide) rfl⟩⟩, hS.F ht⟩) hS.2.2 dL_told_16
set_option maxRecDepth 100000 in
set_option maxHeartbeats 4000000 in
theorem c_h_told_2 (l : Launch) (hl9 : l.stackTraces = false) (D : va_G) (a1 a2 sz : Nat) (h0 h1 h2 : Nat) (g gn gb : Nat → Nat) (o : Nat) (kL : ClassId) : vx_Met l yL_told (Cond.codeWith yL_told cL_told 4 (some .int) [(0, 9, 12, 13)] :: WS) ({ frames := 16, cells := 0, slots := 0, locals := 500 }) (va_Pc [.ref h0, .int 2, .ref o] (pre D a1 a2 [(h0, .inr (11, [.ref h1, .ref h2, .ref (g 2), .ref (g 3), .ref (g 4), .ref (g 5), .ref (g 6), .int 0, .int 0, .int 0, .int 0])), (h1, .inr (6, [.ref (gn 0), .int 0, .ref (gn 2), .ref (gn 3), .int 0, .ref (gn 5), .int 0, .int 0])), (h2, .inr (1, [.ref h1, .ref (gb 1), .int 0])), (o, .inl (kL, 1, .inr (.inl (fun _ => 0))))] [(kL, .long)] sz)) (va_Qi (S := Unit) (fun r _ => r = 0) (fun _ t => wat D (va_A [(h0, .inr (11, [.ref h1, .ref h2, .ref (g 2), .ref (g 3), .ref (g 4), .ref (g 5), .ref (g 6), .int 0, .int 0, .int 0, .int 0])), (h1, .inr (6, [.ref (gn 0), .int 0, .ref (gn 2), .ref (gn 3), .int 0, .ref (gn 5), .int 0, .int 0])), (h2, .inr (1, [.ref h1, .ref (gb 1), .int 0])), (o, .inl (kL, 1, .inr (.inl (fun _ => 0))))] sz) [(o, .inl (kL, 1, .inr (.inl (vp_updL (fun _ => 0) 0 0))))] t) (va_A [(h0, .inr (11, [.ref h1, .ref h2, .ref (g 2), .ref (g 3), .ref (g 4), .ref (g 5), .ref (g 6), .int 0, .int 0, .int 0, .int 0])), (h1, .inr (6, [.ref (gn 0), .int 0, .ref (gn 2), .ref (gn 3), .int 0, .ref (gn 5), .int 0, .int 0])), (h2, .inr (1, [.ref h1, .ref (gb 1), .int 0])), (o, .inl (kL, 1, .inr (.inl (fun _ => 0))))] sz)) (vx_X (fun _ : Unit => False) (fun _ _ _ => True) (va_A [(h0, .inr (11, [.ref h1, .ref h2, .ref (g 2), .ref (g 3), .ref (g 4), .ref (g 5), .ref (g 6), .int 0, .int 0, .int 0, .int 0])), (h1, .inr (6, [.ref (gn 0), .int 0, .ref (gn 2), .ref (gn 3), .int 0, .ref (gn 5), .int 0, .int 0])), (h2, .inr (1, [.ref h1, .ref (gb 1), .int 0])), (o, .inl (kL, 1, .inr (.inl (fun _ => 0))))] sz)) 0 0 (va_A [(h0, .inr (11, [.ref h1, .ref h2, .ref (g 2), .ref (g 3), .ref (g 4), .ref (g 5), .ref (g 6), .int 0, .int 0, .int 0, .int 0])), (h1, .inr (6, [.ref (gn 0), .int 0, .ref (gn 2), .ref (gn 3), .int 0, .ref (gn 5), .int 0, .int 0])), (h2, .inr (1, [.ref h1, .ref (gb 1), .int 0])), (o, .inl (kL, 1, .inr (.inl (fun _ => 0))))] sz) := by
  refine open_H (by decide +kernel) (Nat.le_of_ble_eq_true rfl) (fun A => va_Qi (S := Unit) (fun r _ => r = 0) (fun _ t => wat D A [(o, .inl (kL, 1, .inr (.inl (vp_updL (fun _ => 0) 0 0))))] t) A) (fun A => vx_X (fun _ : Unit => False) (fun _ _ _ => True) A) ?_
  intro p e s m below meth c A ls hG
  obtain ⟨⟨hx, hb, hr, hml, hown, hts, hlocks, hin, hP, hK, hD, hA, hE, hS, hl⟩, hno⟩ := hG
  have hown : s.vm.findClass RL = some m.cls := hown
  have hl : lv_has ls 4 [(0, .ref h0), (1, .int 2), (2, .ref o)] := hl
  refine lv_aload_n hx hb dL_told_0 rfl (lv_at hl 2 rfl) ?_
  refine lv_iconst (v := 0) hx hb dL_told_1 (by decide) ?_
  refine lv_aload_n hx hb dL_told_2 rfl (lv_at hl 0 rfl) ?_
  refine lv_iload_n hx hb dL_told_3 rfl (lv_at hl 1 rfl) ?_
  have f_1 := free_of (wc := [(h0, .inr (11, [.ref h1, .ref h2, .ref (g 2), .ref (g 3), .ref (g 4), .ref (g 5), .ref (g 6), .int 0, .int 0, .int 0, .int 0])), (h1, .inr (6, [.ref (gn 0), .int 0, .ref (gn 2), .ref (gn 3), .int 0, .ref (gn 5), .int 0, .int 0])), (h2, .inr (1, [.ref h1, .ref (gb 1), .int 0]))]) hD hS hA [0, 1, 2] rfl
  refine va_calli (va_runV (As := [.int 2]) (rest := [.int 0, .ref o]) ⟨hx, hb, hml, hown, hts⟩ (c_x_told_2 l D a1 a2 s.heap.size h0 h1 h2 g gn gb) (cwV 1 hts (gV w_351 w_352 w_353 w_8 w_354) rfl rfl rfl (by decide +kernel) ⟨Nat.le_of_ble_eq_true rfl, Nat.le_of_ble_eq_true rfl⟩) (pre_V hK hP hD hS hA hE [0, 1, 2] rfl (by decide) rfl [] rfl (ci := 11) (q0 := 0) rfl rfl) rfl rfl hl.1 rfl (lv_room (Nat.le_of_ble_eq_true rfl)) dL_told_4 ⟨Nat.le_of_ble_eq_true rfl, Nat.le_of_ble_eq_true rfl⟩) hS (fun q _ h => f_1 q h) f_1 (fun r_2 u_3 t H1 locs ht hvm h_4 hB hz1 hk1 hS => ?_)
  obtain ⟨hP, hD⟩ := join (wc := [(h0, .inr (11, [.ref h1, .ref h2, .ref (g 2), .ref (g 3), .ref (g 4), .ref (g 5), .ref (g 6), .int 0, .int 0, .int 0, .int 0])), (h1, .inr (6, [.ref (gn 0), .int 0, .ref (gn 2), .ref (gn 3), .int 0, .ref (gn 5), .int 0, .int 0])), (h2, .inr (1, [.ref h1, .ref (gb 1), .int 0]))]) (wr := [(o, .inl (kL, 1, .inr (.inl (fun _ => 0))))]) (w1 := []) hP hD f_1 [0, 1, 2] [3] rfl rfl (by decide) (by decide) hk1 ht wat_nil
  generalize H1 = H at hP hS ⊢
  have hP : va_P D vwCl [(o, .inl (kL, 1, .inr (.inl (fun _ => 0))))] H := hP
  have hD : va_D A [(o, .inl (kL, 1, .inr (.inl (fun _ => 0))))] := hD
  obtain rfl := h_4
  refine lv_i2l (v := 0) hx hb dL_told_7 (by decide) ?_
  refine va_last hx hb hK hP hD hS 0 0 rfl rfl (by unfold vp_in; decide) dL_told_8 (fun H locs hP hD hS => ?_)
  have hP : va_P D vwCl [(o, .inl (kL, 1, .inr (.inl (vp_updL (fun _ => 0) 0 0))))] H := hP
  have hD : va_D A [(o, .inl (kL, 1, .inr (.inl (vp_updL (fun _ => 0) 0 0))))] := hD
  refine lv_goto (tgt := 15) hx hb dL_told_9 (by decide) ?_
  refine lv_iconst (v := 0) hx hb dL_told_15 (by decide) ?_
  refine W.widen (k := 0) (n := 0) (Nat.le_of_ble_eq_true rfl) (Nat.le_of_ble_eq_true rfl) ?_
  refine vx_ret ?_
  exact W.iret (v := 0) hx hb hr (fun t ht hW => ⟨⟨0, (), rfl, rfl, ⟨by rw [ht]; exact hP.sub (ws' := [(o, .inl (kL, 1, .inr (.inl (vp_updL (fun _ => 0) 0 0))))]) [0] rfl, hD.sub (ws' := [(o, .inl (kL, 1, .inr (.inl (vp_updL (fun _ => 0) 0 0))))]) [0] (by decide) rfl⟩⟩, hS.F ht⟩) hS.2.2 dL_told_16
set_option maxRecDepth 100000 in
set_option maxHeartbeats 4000000 in
theorem c_h_told_3 (l : Launch) (hl9 : l.stackTraces = false) (D : va_G) (a1 a2 sz : Nat) (h0 h1 h2 : Nat) (g gn gb : Nat → Nat) (o : Nat) (kL : ClassId) : vx_Met l yL_told (Cond.codeWith yL_told cL_told 4 (some .int) [(0, 9, 12, 13)] :: WS) ({ frames := 16, cells := 0, slots := 0, locals := 500 }) (va_Pc [.ref h0, .int 3, .ref o] (pre D a1 a2 [(h0, .inr (11, [.ref h1, .ref h2, .ref (g 2), .ref (g 3), .ref (g 4), .ref (g 5), .ref (g 6), .int 0, .int 0, .int 0, .int 0])), (h1, .inr (6, [.ref (gn 0), .int 0, .ref (gn 2), .ref (gn 3), .int 0, .ref (gn 5), .int 0, .int 0])), (h2, .inr (1, [.ref h1, .ref (gb 1), .int 0])), (o, .inl (kL, 1, .inr (.inl (fun _ => 0))))] [(kL, .long)] sz)) (va_Qi (S := Unit) (fun r _ => r = 0) (fun _ t => wat D (va_A [(h0, .inr (11, [.ref h1, .ref h2, .ref (g 2), .ref (g 3), .ref (g 4), .ref (g 5), .ref (g 6), .int 0, .int 0, .int 0, .int 0])), (h1, .inr (6, [.ref (gn 0), .int 0, .ref (gn 2), .ref (gn 3), .int 0, .ref (gn 5), .int 0, .int 0])), (h2, .inr (1, [.ref h1, .ref (gb 1), .int 0])), (o, .inl (kL, 1, .inr (.inl (fun _ => 0))))] sz) [(o, .inl (kL, 1, .inr (.inl (vp_updL (fun _ => 0) 0 0))))] t) (va_A [(h0, .inr (11, [.ref h1, .ref h2, .ref (g 2), .ref (g 3), .ref (g 4), .ref (g 5), .ref (g 6), .int 0, .int 0, .int 0, .int 0])), (h1, .inr (6, [.ref (gn 0), .int 0, .ref (gn 2), .ref (gn 3), .int 0, .ref (gn 5), .int 0, .int 0])), (h2, .inr (1, [.ref h1, .ref (gb 1), .int 0])), (o, .inl (kL, 1, .inr (.inl (fun _ => 0))))] sz)) (vx_X (fun _ : Unit => False) (fun _ _ _ => True) (va_A [(h0, .inr (11, [.ref h1, .ref h2, .ref (g 2), .ref (g 3), .ref (g 4), .ref (g 5), .ref (g 6), .int 0, .int 0, .int 0, .int 0])), (h1, .inr (6, [.ref (gn 0), .int 0, .ref (gn 2), .ref (gn 3), .int 0, .ref (gn 5), .int 0, .int 0])), (h2, .inr (1, [.ref h1, .ref (gb 1), .int 0])), (o, .inl (kL, 1, .inr (.inl (fun _ => 0))))] sz)) 0 0 (va_A [(h0, .inr (11, [.ref h1, .ref h2, .ref (g 2), .ref (g 3), .ref (g 4), .ref (g 5), .ref (g 6), .int 0, .int 0, .int 0, .int 0])), (h1, .inr (6, [.ref (gn 0), .int 0, .ref (gn 2), .ref (gn 3), .int 0, .ref (gn 5), .int 0, .int 0])), (h2, .inr (1, [.ref h1, .ref (gb 1), .int 0])), (o, .inl (kL, 1, .inr (.inl (fun _ => 0))))] sz) := by
  refine open_H (by decide +kernel) (Nat.le_of_ble_eq_true rfl) (fun A => va_Qi (S := Unit) (fun r _ => r = 0) (fun _ t => wat D A [(o, .inl (kL, 1, .inr (.inl (vp_updL (fun _ => 0) 0 0))))] t) A) (fun A => vx_X (fun _ : Unit => False) (fun _ _ _ => True) A) ?_
  intro p e s m below meth c A ls hG
  obtain ⟨⟨hx, hb, hr, hml, hown, hts, hlocks, hin, hP, hK, hD, hA, hE, hS, hl⟩, hno⟩ := hG
  have hown : s.vm.findClass RL = some m.cls := hown
  have hl : lv_has ls 4 [(0, .ref h0), (1, .int 3), (2, .ref o)] := hl
  refine lv_aload_n hx hb dL_told_0 rfl (lv_at hl 2 rfl) ?_
  refine lv_iconst (v := 0) hx hb dL_told_1 (by decide) ?_
  refine lv_aload_n hx hb dL_told_2 rfl (lv_at hl 0 rfl) ?_
  refine lv_iload_n hx hb dL_told_3 rfl (lv_at hl 1 rfl) ?_
  have f_1 := free_of (wc := [(h0, .inr (11, [.ref h1, .ref h2, .ref (g 2), .ref (g 3), .ref (g 4), .ref (g 5), .ref (g 6), .int 0, .int 0, .int 0, .int 0])), (h1, .inr (6, [.ref (gn 0), .int 0, .ref (gn 2), .ref (gn 3), .int 0, .ref (gn 5), .int 0, .int 0])), (h2, .inr (1, [.ref h1, .ref (gb 1), .int 0]))]) hD hS hA [0, 1, 2] rfl
  refine va_calli (va_runV (As := [.int 3]) (rest := [.int 0, .ref o]) ⟨hx, hb, hml, hown, hts⟩ (c_x_told_3 l D a1 a2 s.heap.size h0 h1 h2 g gn gb) (cwV 1 hts (gV w_351 w_352 w_353 w_8 w_354) rfl rfl rfl (by decide +kernel) ⟨Nat.le_of_ble_eq_true rfl, Nat.le_of_ble_eq_true rfl⟩) (pre_V hK hP hD hS hA hE [0, 1, 2] rfl (by decide) rfl [] rfl (ci := 11) (q0 := 0) rfl rfl) rfl rfl hl.1 rfl (lv_room (Nat.le_of_ble_eq_true rfl)) dL_told_4 ⟨Nat.le_of_ble_eq_true rfl, Nat.le_of_ble_eq_true rfl⟩) hS (fun q _ h => f_1 q h) f_1 (fun r_2 u_3 t H1 locs ht hvm h_4 hB hz1 hk1 hS => ?_)
  obtain ⟨hP, hD⟩ := join (wc := [(h0, .inr (11, [.ref h1, .ref h2, .ref (g 2), .ref (g 3), .ref (g 4), .ref (g 5), .ref (g 6), .int 0, .int 0, .int 0, .int 0])), (h1, .inr (6, [.ref (gn 0), .int 0, .ref (gn 2), .ref (gn 3), .int 0, .ref (gn 5), .int 0, .int 0])), (h2, .inr (1, [.ref h1, .ref (gb 1), .int 0]))]) (wr := [(o, .inl (kL, 1, .inr (.inl (fun _ => 0))))]) (w1 := []) hP hD f_1 [0, 1, 2] [3] rfl rfl (by decide) (by decide) hk1 ht wat_nil
  generalize H1 = H at hP hS ⊢
  have hP : va_P D vwCl [(o, .inl (kL, 1, .inr (.inl (fun _ => 0))))] H := hP
  have hD : va_D A [(o, .inl (kL, 1, .inr (.inl (fun _ => 0))))] := hD
  obtain rfl := h_4
  refine lv_i2l (v := 0) hx hb dL_told_7 (by decide) ?_
  refine va_last hx hb hK hP hD hS 0 0 rfl rfl (by unfold vp_in; decide) dL_told_8 (fun H locs hP hD hS => ?_)
  have hP : va_P D vwCl [(o, .inl (kL, 1, .inr (.inl (vp_updL (fun _ => 0) 0 0))))] H := hP
  have hD : va_D A [(o, .inl (kL, 1, .inr (.inl (vp_updL (fun _ => 0) 0 0))))] := hD
  refine lv_goto (tgt := 15) hx hb dL_told_9 (by decide) ?_
  refine lv_iconst (v := 0) hx hb dL_told_15 (by decide) ?_
  refine W.widen (k := 0) (n := 0) (Nat.le_of_ble_eq_true rfl) (Nat.le_of_ble_eq_true rfl) ?_
  refine vx_ret ?_
  exact W.iret (v := 0) hx hb hr (fun t ht hW => ⟨⟨0, (), rfl, rfl, ⟨by rw [ht]; exact hP.sub (ws' := [(o, .inl (kL, 1, .inr (.inl (vp_updL (fun _ => 0) 0 0))))]) [0] rfl, hD.sub (ws' := [(o, .inl (kL, 1, .inr (.inl (vp_updL (fun _ => 0) 0 0))))]) [0] (by decide) rfl⟩⟩, hS.F ht⟩) hS.2.2 dL_told_16
set_option maxRecDepth 100000 in
set_option maxHeartbeats 4000000 in
theorem c_h_told_4 (l : Launch) (hl9 : l.stackTraces = false) (D : va_G) (a1 a2 sz : Nat) (h0 h1 h2 : Nat) (g gn gb : Nat → Nat) (o : Nat) (kL : ClassId) : vx_Met l yL_told (Cond.codeWith yL_told cL_told 4 (some .int) [(0, 9, 12, 13)] :: WS) ({ frames := 16, cells := 0, slots := 0, locals := 500 }) (va_Pc [.ref h0, .int 4, .ref o] (pre D a1 a2 [(h0, .inr (11, [.ref h1, .ref h2, .ref (g 2), .ref (g 3), .ref (g 4), .ref (g 5), .ref (g 6), .int 0, .int 0, .int 0, .int 0])), (h1, .inr (6, [.ref (gn 0), .int 0, .ref (gn 2), .ref (gn 3), .int 0, .ref (gn 5), .int 0, .int 0])), (h2, .inr (1, [.ref h1, .ref (gb 1), .int 0])), (o, .inl (kL, 1, .inr (.inl (fun _ => 0))))] [(kL, .long)] sz)) (va_Qi (S := Unit) (fun r _ => r = 0) (fun _ t => wat D (va_A [(h0, .inr (11, [.ref h1, .ref h2, .ref (g 2), .ref (g 3), .ref (g 4), .ref (g 5), .ref (g 6), .int 0, .int 0, .int 0, .int 0])), (h1, .inr (6, [.ref (gn 0), .int 0, .ref (gn 2), .ref (gn 3), .int 0, .ref (gn 5), .int 0, .int 0])), (h2, .inr (1, [.ref h1, .ref (gb 1), .int 0])), (o, .inl (kL, 1, .inr (.inl (fun _ => 0))))] sz) [(o, .inl (kL, 1, .inr (.inl (vp_updL (fun _ => 0) 0 0))))] t) (va_A [(h0, .inr (11, [.ref h1, .ref h2, .ref (g 2), .ref (g 3), .ref (g 4), .ref (g 5), .ref (g 6), .int 0, .int 0, .int 0, .int 0])), (h1, .inr (6, [.ref (gn 0), .int 0, .ref (gn 2), .ref (gn 3), .int 0, .ref (gn 5), .int 0, .int 0])), (h2, .inr (1, [.ref h1, .ref (gb 1), .int 0])), (o, .inl (kL, 1, .inr (.inl (fun _ => 0))))] sz)) (vx_X (fun _ : Unit => False) (fun _ _ _ => True) (va_A [(h0, .inr (11, [.ref h1, .ref h2, .ref (g 2), .ref (g 3), .ref (g 4), .ref (g 5), .ref (g 6), .int 0, .int 0, .int 0, .int 0])), (h1, .inr (6, [.ref (gn 0), .int 0, .ref (gn 2), .ref (gn 3), .int 0, .ref (gn 5), .int 0, .int 0])), (h2, .inr (1, [.ref h1, .ref (gb 1), .int 0])), (o, .inl (kL, 1, .inr (.inl (fun _ => 0))))] sz)) 0 0 (va_A [(h0, .inr (11, [.ref h1, .ref h2, .ref (g 2), .ref (g 3), .ref (g 4), .ref (g 5), .ref (g 6), .int 0, .int 0, .int 0, .int 0])), (h1, .inr (6, [.ref (gn 0), .int 0, .ref (gn 2), .ref (gn 3), .int 0, .ref (gn 5), .int 0, .int 0])), (h2, .inr (1, [.ref h1, .ref (gb 1), .int 0])), (o, .inl (kL, 1, .inr (.inl (fun _ => 0))))] sz) := by
  refine open_H (by decide +kernel) (Nat.le_of_ble_eq_true rfl) (fun A => va_Qi (S := Unit) (fun r _ => r = 0) (fun _ t => wat D A [(o, .inl (kL, 1, .inr (.inl (vp_updL (fun _ => 0) 0 0))))] t) A) (fun A => vx_X (fun _ : Unit => False) (fun _ _ _ => True) A) ?_
  intro p e s m below meth c A ls hG
  obtain ⟨⟨hx, hb, hr, hml, hown, hts, hlocks, hin, hP, hK, hD, hA, hE, hS, hl⟩, hno⟩ := hG
  have hown : s.vm.findClass RL = some m.cls := hown
  have hl : lv_has ls 4 [(0, .ref h0), (1, .int 4), (2, .ref o)] := hl
  refine lv_aload_n hx hb dL_told_0 rfl (lv_at hl 2 rfl) ?_
  refine lv_iconst (v := 0) hx hb dL_told_1 (by decide) ?_
  refine lv_aload_n hx hb dL_told_2 rfl (lv_at hl 0 rfl) ?_
  refine lv_iload_n hx hb dL_told_3 rfl (lv_at hl 1 rfl) ?_
  have f_1 := free_of (wc := [(h0, .inr (11, [.ref h1, .ref h2, .ref (g 2), .ref (g 3), .ref (g 4), .ref (g 5), .ref (g 6), .int 0, .int 0, .int 0, .int 0])), (h1, .inr (6, [.ref (gn 0), .int 0, .ref (gn 2), .ref (gn 3), .int 0, .ref (gn 5), .int 0, .int 0])), (h2, .inr (1, [.ref h1, .ref (gb 1), .int 0]))]) hD hS hA [0, 1, 2] rfl
  refine va_calli (va_runV (As := [.int 4]) (rest := [.int 0, .ref o]) ⟨hx, hb, hml, hown, hts⟩ (c_x_told_4 l D a1 a2 s.heap.size h0 h1 h2 g gn gb) (cwV 1 hts (gV w_351 w_352 w_353 w_8 w_354) rfl rfl rfl (by decide +kernel) ⟨Nat.le_of_ble_eq_true rfl, Nat.le_of_ble_eq_true rfl⟩) (pre_V hK hP hD hS hA hE [0, 1, 2] rfl (by decide) rfl [] rfl (ci := 11) (q0 := 0) rfl rfl) rfl rfl hl.1 rfl (lv_room (Nat.le_of_ble_eq_true rfl)) dL_told_4 ⟨Nat.le_of_ble_eq_true rfl, Nat.le_of_ble_eq_true rfl⟩) hS (fun q _ h => f_1 q h) f_1 (fun r_2 u_3 t H1 locs ht hvm h_4 hB hz1 hk1 hS => ?_)
  obtain ⟨hP, hD⟩ := join (wc := [(h0, .inr (11, [.ref h1, .ref h2, .ref (g 2), .ref (g 3), .ref (g 4), .ref (g 5), .ref (g 6), .int 0, .int 0, .int 0, .int 0])), (h1, .inr (6, [.ref (gn 0), .int 0, .ref (gn 2), .ref (gn 3), .int 0, .ref (gn 5), .int 0, .int 0])), (h2, .inr (1, [.ref h1, .ref (gb 1), .int 0]))]) (wr := [(o, .inl (kL, 1, .inr (.inl (fun _ => 0))))]) (w1 := []) hP hD f_1 [0, 1, 2] [3] rfl rfl (by decide) (by decide) hk1 ht wat_nil
  generalize H1 = H at hP hS ⊢
  have hP : va_P D vwCl [(o, .inl (kL, 1, .inr (.inl (fun _ => 0))))] H := hP
  have hD : va_D A [(o, .inl (kL, 1, .inr (.inl (fun _ => 0))))] := hD
  obtain rfl := h_4
  refine lv_i2l (v := 0) hx hb dL_told_7 (by decide) ?_
  refine va_last hx hb hK hP hD hS 0 0 rfl rfl (by unfold vp_in; decide) dL_told_8 (fun H locs hP hD hS => ?_)
  have hP : va_P D vwCl [(o, .inl (kL, 1, .inr (.inl (vp_updL (fun _ => 0) 0 0))))] H := hP
  have hD : va_D A [(o, .inl (kL, 1, .inr (.inl (vp_updL (fun _ => 0) 0 0))))] := hD
  refine lv_goto (tgt := 15) hx hb dL_told_9 (by decide) ?_
  refine lv_iconst (v := 0) hx hb dL_told_15 (by decide) ?_
  refine W.widen (k := 0) (n := 0) (Nat.le_of_ble_eq_true rfl) (Nat.le_of_ble_eq_true rfl) ?_
  refine vx_ret ?_
  exact W.iret (v := 0) hx hb hr (fun t ht hW => ⟨⟨0, (), rfl, rfl, ⟨by rw [ht]; exact hP.sub (ws' := [(o, .inl (kL, 1, .inr (.inl (vp_updL (fun _ => 0) 0 0))))]) [0] rfl, hD.sub (ws' := [(o, .inl (kL, 1, .inr (.inl (vp_updL (fun _ => 0) 0 0))))]) [0] (by decide) rfl⟩⟩, hS.F ht⟩) hS.2.2 dL_told_16
set_option maxRecDepth 100000 in
set_option maxHeartbeats 4000000 in
theorem c_h_told_5 (l : Launch) (hl9 : l.stackTraces = false) (D : va_G) (a1 a2 sz : Nat) (h0 h1 h2 : Nat) (g gn gb : Nat → Nat) (o : Nat) (kL : ClassId) : vx_Met l yL_told (Cond.codeWith yL_told cL_told 4 (some .int) [(0, 9, 12, 13)] :: WS) ({ frames := 16, cells := 0, slots := 0, locals := 500 }) (va_Pc [.ref h0, .int 5, .ref o] (pre D a1 a2 [(h0, .inr (11, [.ref h1, .ref h2, .ref (g 2), .ref (g 3), .ref (g 4), .ref (g 5), .ref (g 6), .int 0, .int 0, .int 0, .int 0])), (h1, .inr (6, [.ref (gn 0), .int 0, .ref (gn 2), .ref (gn 3), .int 0, .ref (gn 5), .int 0, .int 0])), (h2, .inr (1, [.ref h1, .ref (gb 1), .int 0])), (o, .inl (kL, 1, .inr (.inl (fun _ => 0))))] [(kL, .long)] sz)) (va_Qi (S := Unit) (fun r _ => r = 0) (fun _ t => wat D (va_A [(h0, .inr (11, [.ref h1, .ref h2, .ref (g 2), .ref (g 3), .ref (g 4), .ref (g 5), .ref (g 6), .int 0, .int 0, .int 0, .int 0])), (h1, .inr (6, [.ref (gn 0), .int 0, .ref (gn 2), .ref (gn 3), .int 0, .ref (gn 5), .int 0, .int 0])), (h2, .inr (1, [.ref h1, .ref (gb 1), .int 0])), (o, .inl (kL, 1, .inr (.inl (fun _ => 0))))] sz) [(o, .inl (kL, 1, .inr (.inl (vp_updL (fun _ => 0) 0 0))))] t) (va_A [(h0, .inr (11, [.ref h1, .ref h2, .ref (g 2), .ref (g 3), .ref (g 4), .ref (g 5), .ref (g 6), .int 0, .int 0, .int 0, .int 0])), (h1, .inr (6, [.ref (gn 0), .int 0, .ref (gn 2), .ref (gn 3), .int 0, .ref (gn 5), .int 0, .int 0])), (h2, .inr (1, [.ref h1, .ref (gb 1), .int 0])), (o, .inl (kL, 1, .inr (.inl (fun _ => 0))))] sz)) (vx_X (fun _ : Unit => False) (fun _ _ _ => True) (va_A [(h0, .inr (11, [.ref h1, .ref h2, .ref (g 2), .ref (g 3), .ref (g 4), .ref (g 5), .ref (g 6), .int 0, .int 0, .int 0, .int 0])), (h1, .inr (6, [.ref (gn 0), .int 0, .ref (gn 2), .ref (gn 3), .int 0, .ref (gn 5), .int 0, .int 0])), (h2, .inr (1, [.ref h1, .ref (gb 1), .int 0])), (o, .inl (kL, 1, .inr (.inl (fun _ => 0))))] sz)) 0 0 (va_A [(h0, .inr (11, [.ref h1, .ref h2, .ref (g 2), .ref (g 3), .ref (g 4), .ref (g 5), .ref (g 6), .int 0, .int 0, .int 0, .int 0])), (h1, .inr (6, [.ref (gn 0), .int 0, .ref (gn 2), .ref (gn 3), .int 0, .ref (gn 5), .int 0, .int 0])), (h2, .inr (1, [.ref h1, .ref (gb 1), .int 0])), (o, .inl (kL, 1, .inr (.inl (fun _ => 0))))] sz) := by
  refine open_H (by decide +kernel) (Nat.le_of_ble_eq_true rfl) (fun A => va_Qi (S := Unit) (fun r _ => r = 0) (fun _ t => wat D A [(o, .inl (kL, 1, .inr (.inl (vp_updL (fun _ => 0) 0 0))))] t) A) (fun A => vx_X (fun _ : Unit => False) (fun _ _ _ => True) A) ?_
  intro p e s m below meth c A ls hG
  obtain ⟨⟨hx, hb, hr, hml, hown, hts, hlocks, hin, hP, hK, hD, hA, hE, hS, hl⟩, hno⟩ := hG
  have hown : s.vm.findClass RL = some m.cls := hown
  have hl : lv_has ls 4 [(0, .ref h0), (1, .int 5), (2, .ref o)] := hl
  refine lv_aload_n hx hb dL_told_0 rfl (lv_at hl 2 rfl) ?_
  refine lv_iconst (v := 0) hx hb dL_told_1 (by decide) ?_
  refine lv_aload_n hx hb dL_told_2 rfl (lv_at hl 0 rfl) ?_
  refine lv_iload_n hx hb dL_told_3 rfl (lv_at hl 1 rfl) ?_
  have f_1 := free_of (wc := [(h0, .inr (11, [.ref h1, .ref h2, .ref (g 2), .ref (g 3), .ref (g 4), .ref (g 5), .ref (g 6), .int 0, .int 0, .int 0, .int 0])), (h1, .inr (6, [.ref (gn 0), .int 0, .ref (gn 2), .ref (gn 3), .int 0, .ref (gn 5), .int 0, .int 0])), (h2, .inr (1, [.ref h1, .ref (gb 1), .int 0]))]) hD hS hA [0, 1, 2] rfl
  refine va_calli (va_runV (As := [.int 5]) (rest := [.int 0, .ref o]) ⟨hx, hb, hml, hown, hts⟩ (c_x_told_5 l D a1 a2 s.heap.size h0 h1 h2 g gn gb) (cwV 1 hts (gV w_351 w_352 w_353 w_8 w_354) rfl rfl rfl (by decide +kernel) ⟨Nat.le_of_ble_eq_true rfl, Nat.le_of_ble_eq_true rfl⟩) (pre_V hK hP hD hS hA hE [0, 1, 2] rfl (by decide) rfl [] rfl (ci := 11) (q0 := 0) rfl rfl) rfl rfl hl.1 rfl (lv_room (Nat.le_of_ble_eq_true rfl)) dL_told_4 ⟨Nat.le_of_ble_eq_true rfl, Nat.le_of_ble_eq_true rfl⟩) hS (fun q _ h => f_1 q h) f_1 (fun r_2 u_3 t H1 locs ht hvm h_4 hB hz1 hk1 hS => ?_)
  obtain ⟨hP, hD⟩ := join (wc := [(h0, .inr (11, [.ref h1, .ref h2, .ref (g 2), .ref (g 3), .ref (g 4), .ref (g 5), .ref (g 6), .int 0, .int 0, .int 0, .int 0])), (h1, .inr (6, [.ref (gn 0), .int 0, .ref (gn 2), .ref (gn 3), .int 0, .ref (gn 5), .int 0, .int 0])), (h2, .inr (1, [.ref h1, .ref (gb 1), .int 0]))]) (wr := [(o, .inl (kL, 1, .inr (.inl (fun _ => 0))))]) (w1 := []) hP hD f_1 [0, 1, 2] [3] rfl rfl (by decide) (by decide) hk1 ht wat_nil
  generalize H1 = H at hP hS ⊢
  have hP : va_P D vwCl [(o, .inl (kL, 1, .inr (.inl (fun _ => 0))))] H := hP
  have hD : va_D A [(o, .inl (kL, 1, .inr (.inl (fun _ => 0))))] := hD
  obtain rfl := h_4
  refine lv_i2l (v := 0) hx hb dL_told_7 (by decide) ?_
  refine va_last hx hb hK hP hD hS 0 0 rfl rfl (by unfold vp_in; decide) dL_told_8 (fun H locs hP hD hS => ?_)
  have hP : va_P D vwCl [(o, .inl (kL, 1, .inr (.inl (vp_updL (fun _ => 0) 0 0))))] H := hP
  have hD : va_D A [(o, .inl (kL, 1, .inr (.inl (vp_updL (fun _ => 0) 0 0))))] := hD
  refine lv_goto (tgt := 15) hx hb dL_told_9 (by decide) ?_
  refine lv_iconst (v := 0) hx hb dL_told_15 (by decide) ?_
  refine W.widen (k := 0) (n := 0) (Nat.le_of_ble_eq_true rfl) (Nat.le_of_ble_eq_true rfl) ?_
  refine vx_ret ?_
  exact W.iret (v := 0) hx hb hr (fun t ht hW => ⟨⟨0, (), rfl, rfl, ⟨by rw [ht]; exact hP.sub (ws' := [(o, .inl (kL, 1, .inr (.inl (vp_updL (fun _ => 0) 0 0))))]) [0] rfl, hD.sub (ws' := [(o, .inl (kL, 1, .inr (.inl (vp_updL (fun _ => 0) 0 0))))]) [0] (by decide) rfl⟩⟩, hS.F ht⟩) hS.2.2 dL_told_16
set_option maxRecDepth 100000 in
set_option maxHeartbeats 4000000 in
theorem c_h_told_6 (l : Launch) (hl9 : l.stackTraces = false) (D : va_G) (a1 a2 sz : Nat) (h0 h1 h2 : Nat) (g gn gb : Nat → Nat) (o : Nat) (kL : ClassId) : vx_Met l yL_told (Cond.codeWith yL_told cL_told 4 (some .int) [(0, 9, 12, 13)] :: WS) ({ frames := 16, cells := 0, slots := 0, locals := 500 }) (va_Pc [.ref h0, .int 6, .ref o] (pre D a1 a2 [(h0, .inr (11, [.ref h1, .ref h2, .ref (g 2), .ref (g 3), .ref (g 4), .ref (g 5), .ref (g 6), .int 0, .int 0, .int 0, .int 0])), (h1, .inr (6, [.ref (gn 0), .int 0, .ref (gn 2), .ref (gn 3), .int 0, .ref (gn 5), .int 0, .int 0])), (h2, .inr (1, [.ref h1, .ref (gb 1), .int 0])), (o, .inl (kL, 1, .inr (.inl (fun _ => 0))))] [(kL, .long)] sz)) (va_Qi (S := Unit) (fun r _ => r = 0) (fun _ t => wat D (va_A [(h0, .inr (11, [.ref h1, .ref h2, .ref (g 2), .ref (g 3), .ref (g 4), .ref (g 5), .ref (g 6), .int 0, .int 0, .int 0, .int 0])), (h1, .inr (6, [.ref (gn 0), .int 0, .ref (gn 2), .ref (gn 3), .int 0, .ref (gn 5), .int 0, .int 0])), (h2, .inr (1, [.ref h1, .ref (gb 1), .int 0])), (o, .inl (kL, 1, .inr (.inl (fun _ => 0))))] sz) [(o, .inl (kL, 1, .inr (.inl (vp_updL (fun _ => 0) 0 0))))] t) (va_A [(h0, .inr (11, [.ref h1, .ref h2, .ref (g 2), .ref (g 3), .ref (g 4), .ref (g 5), .ref (g 6), .int 0, .int 0, .int 0, .int 0])), (h1, .inr (6, [.ref (gn 0), .int 0, .ref (gn 2), .ref (gn 3), .int 0, .ref (gn 5), .int 0, .int 0])), (h2, .inr (1, [.ref h1, .ref (gb 1), .int 0])), (o, .inl (kL, 1, .inr (.inl (fun _ => 0))))] sz)) (vx_X (fun _ : Unit => False) (fun _ _ _ => True) (va_A [(h0, .inr (11, [.ref h1, .ref h2, .ref (g 2), .ref (g 3), .ref (g 4), .ref (g 5), .ref (g 6), .int 0, .int 0, .int 0, .int 0])), (h1, .inr (6, [.ref (gn 0), .int 0, .ref (gn 2), .ref (gn 3), .int 0, .ref (gn 5), .int 0, .int 0])), (h2, .inr (1, [.ref h1, .ref (gb 1), .int 0])), (o, .inl (kL, 1, .inr (.inl (fun _ => 0))))] sz)) 0 0 (va_A [(h0, .inr (11, [.ref h1, .ref h2, .ref (g 2), .ref (g 3), .ref (g 4), .ref (g 5), .ref (g 6), .int 0, .int 0, .int 0, .int 0])), (h1, .inr (6, [.ref (gn 0), .int 0, .ref (gn 2), .ref (gn 3), .int 0, .ref (gn 5), .int 0, .int 0])), (h2, .inr (1, [.ref h1, .ref (gb 1), .int 0])), (o, .inl (kL, 1, .inr (.inl (fun _ => 0))))] sz) := by
  refine open_H (by decide +kernel) (Nat.le_of_ble_eq_true rfl) (fun A => va_Qi (S := Unit) (fun r _ => r = 0) (fun _ t => wat D A [(o, .inl (kL, 1, .inr (.inl (vp_updL (fun _ => 0) 0 0))))] t) A) (fun A => vx_X (fun _ : Unit => False) (fun _ _ _ => True) A) ?_
  intro p e s m below meth c A ls hG
  obtain ⟨⟨hx, hb, hr, hml, hown, hts, hlocks, hin, hP, hK, hD, hA, hE, hS, hl⟩, hno⟩ := hG
  have hown : s.vm.findClass RL = some m.cls := hown
  have hl : lv_has ls 4 [(0, .ref h0), (1, .int 6), (2, .ref o)] := hl
  refine lv_aload_n hx hb dL_told_0 rfl (lv_at hl 2 rfl) ?_
  refine lv_iconst (v := 0) hx hb dL_told_1 (by decide) ?_
  refine lv_aload_n hx hb dL_told_2 rfl (lv_at hl 0 rfl) ?_
  refine lv_iload_n hx hb dL_told_3 rfl (lv_at hl 1 rfl) ?_
  have f_1 := free_of (wc := [(h0, .inr (11, [.ref h1, .ref h2, .ref (g 2), .ref (g 3), .ref (g 4), .ref (g 5), .ref (g 6), .int 0, .int 0, .int 0, .int 0])), (h1, .inr (6, [.ref (gn 0), .int 0, .ref (gn 2), .ref (gn 3), .int 0, .ref (gn 5), .int 0, .int 0])), (h2, .inr (1, [.ref h1, .ref (gb 1), .int 0]))]) hD hS hA [0, 1, 2] rfl
  refine va_calli (va_runV (As := [.int 6]) (rest := [.int 0, .ref o]) ⟨hx, hb, hml, hown, hts⟩ (c_x_told_6 l D a1 a2 s.heap.size h0 h1 h2 g gn gb) (cwV 1 hts (gV w_351 w_352 w_353 w_8 w_354) rfl rfl rfl (by decide +kernel) ⟨Nat.le_of_ble_eq_true rfl, Nat.le_of_ble_eq_true rfl⟩) (pre_V hK hP hD hS hA hE [0, 1, 2] rfl (by decide) rfl [] rfl (ci := 11) (q0 := 0) rfl rfl) rfl rfl hl.1 rfl (lv_room (Nat.le_of_ble_eq_true rfl)) dL_told_4 ⟨Nat.le_of_ble_eq_true rfl, Nat.le_of_ble_eq_true rfl⟩) hS (fun q _ h => f_1 q h) f_1 (fun r_2 u_3 t H1 locs ht hvm h_4 hB hz1 hk1 hS => ?_)
  obtain ⟨hP, hD⟩ := join (wc := [(h0, .inr (11, [.ref h1, .ref h2, .ref (g 2), .ref (g 3), .ref (g 4), .ref (g 5), .ref (g 6), .int 0, .int 0, .int 0, .int 0])), (h1, .inr (6, [.ref (gn 0), .int 0, .ref (gn 2), .ref (gn 3), .int 0, .ref (gn 5), .int 0, .int 0])), (h2, .inr (1, [.ref h1, .ref (gb 1), .int 0]))]) (wr := [(o, .inl (kL, 1, .inr (.inl (fun _ => 0))))]) (w1 := []) hP hD f_1 [0, 1, 2] [3] rfl rfl (by decide) (by decide) hk1 ht wat_nil
  generalize H1 = H at hP hS ⊢
  have hP : va_P D vwCl [(o, .inl (kL, 1, .inr (.inl (fun _ => 0))))] H := hP
  have hD : va_D A [(o, .inl (kL, 1, .inr (.inl (fun _ => 0))))] := hD
  obtain rfl := h_4
  refine lv_i2l (v := 0) hx hb dL_told_7 (by decide) ?_
  refine va_last hx hb hK hP hD hS 0 0 rfl rfl (by unfold vp_in; decide) dL_told_8 (fun H locs hP hD hS => ?_)
  have hP : va_P D vwCl [(o, .inl (kL, 1, .inr (.inl (vp_updL (fun _ => 0) 0 0))))] H := hP
  have hD : va_D A [(o, .inl (kL, 1, .inr (.inl (vp_updL (fun _ => 0) 0 0))))] := hD
  refine lv_goto (tgt := 15) hx hb dL_told_9 (by decide) ?_
  refine lv_iconst (v := 0) hx hb dL_told_15 (by decide) ?_
  refine W.widen (k := 0) (n := 0) (Nat.le_of_ble_eq_true rfl) (Nat.le_of_ble_eq_true rfl) ?_
  refine vx_ret ?_
  exact W.iret (v := 0) hx hb hr (fun t ht hW => ⟨⟨0, (), rfl, rfl, ⟨by rw [ht]; exact hP.sub (ws' := [(o, .inl (kL, 1, .inr (.inl (vp_updL (fun _ => 0) 0 0))))]) [0] rfl, hD.sub (ws' := [(o, .inl (kL, 1, .inr (.inl (vp_updL (fun _ => 0) 0 0))))]) [0] (by decide) rfl⟩⟩, hS.F ht⟩) hS.2.2 dL_told_16
set_option maxRecDepth 100000 in
set_option maxHeartbeats 4000000 in
theorem c_h_told_7 (l : Launch) (hl9 : l.stackTraces = false) (D : va_G) (a1 a2 sz : Nat) (h0 h1 h2 : Nat) (g gn gb : Nat → Nat) (o : Nat) (kL : ClassId) : vx_Met l yL_told (Cond.codeWith yL_told cL_told 4 (some .int) [(0, 9, 12, 13)] :: WS) ({ frames := 16, cells := 0, slots := 0, locals := 500 }) (va_Pc [.ref h0, .int 7, .ref o] (pre D a1 a2 [(h0, .inr (11, [.ref h1, .ref h2, .ref (g 2), .ref (g 3), .ref (g 4), .ref (g 5), .ref (g 6), .int 0, .int 0, .int 0, .int 0])), (h1, .inr (6, [.ref (gn 0), .int 0, .ref (gn 2), .ref (gn 3), .int 0, .ref (gn 5), .int 0, .int 0])), (h2, .inr (1, [.ref h1, .ref (gb 1), .int 0])), (o, .inl (kL, 1, .inr (.inl (fun _ => 0))))] [(kL, .long)] sz)) (va_Qi (S := Unit) (fun r _ => r = 0) (fun _ t => wat D (va_A [(h0, .inr (11, [.ref h1, .ref h2, .ref (g 2), .ref (g 3), .ref (g 4), .ref (g 5), .ref (g 6), .int 0, .int 0, .int 0, .int 0])), (h1, .inr (6, [.ref (gn 0), .int 0, .ref (gn 2), .ref (gn 3), .int 0, .ref (gn 5), .int 0, .int 0])), (h2, .inr (1, [.ref h1, .ref (gb 1), .int 0])), (o, .inl (kL, 1, .inr (.inl (fun _ => 0))))] sz) [(o, .inl (kL, 1, .inr (.inl (vp_updL (fun _ => 0) 0 0))))] t) (va_A [(h0, .inr (11, [.ref h1, .ref h2, .ref (g 2), .ref (g 3), .ref (g 4), .ref (g 5), .ref (g 6), .int 0, .int 0, .int 0, .int 0])), (h1, .inr (6, [.ref (gn 0), .int 0, .ref (gn 2), .ref (gn 3), .int 0, .ref (gn 5), .int 0, .int 0])), (h2, .inr (1, [.ref h1, .ref (gb 1), .int 0])), (o, .inl (kL, 1, .inr (.inl (fun _ => 0))))] sz)) (vx_X (fun _ : Unit => False) (fun _ _ _ => True) (va_A [(h0, .inr (11, [.ref h1, .ref h2, .ref (g 2), .ref (g 3), .ref (g 4), .ref (g 5), .ref (g 6), .int 0, .int 0, .int 0, .int 0])), (h1, .inr (6, [.ref (gn 0), .int 0, .ref (gn 2), .ref (gn 3), .int 0, .ref (gn 5), .int 0, .int 0])), (h2, .inr (1, [.ref h1, .ref (gb 1), .int 0])), (o, .inl (kL, 1, .inr (.inl (fun _ => 0))))] sz)) 0 0 (va_A [(h0, .inr (11, [.ref h1, .ref h2, .ref (g 2), .ref (g 3), .ref (g 4), .ref (g 5), .ref (g 6), .int 0, .int 0, .int 0, .int 0])), (h1, .inr (6, [.ref (gn 0), .int 0, .ref (gn 2), .ref (gn 3), .int 0, .ref (gn 5), .int 0, .int 0])), (h2, .inr (1, [.ref h1, .ref (gb 1), .int 0])), (o, .inl (kL, 1, .inr (.inl (fun _ => 0))))] sz) := by
  refine open_H (by decide +kernel) (Nat.le_of_ble_eq_true rfl) (fun A => va_Qi (S := Unit) (fun r _ => r = 0) (fun _ t => wat D A [(o, .inl (kL, 1, .inr (.inl (vp_updL (fun _ => 0) 0 0))))] t) A) (fun A => vx_X (fun _ : Unit => False) (fun _ _ _ => True) A) ?_
  intro p e s m below meth c A ls hG
  obtain ⟨⟨hx, hb, hr, hml, hown, hts, hlocks, hin, hP, hK, hD, hA, hE, hS, hl⟩, hno⟩ := hG
  have hown : s.vm.findClass RL = some m.cls := hown
  have hl : lv_has ls 4 [(0, .ref h0), (1, .int 7), (2, .ref o)] := hl
  refine lv_aload_n hx hb dL_told_0 rfl (lv_at hl 2 rfl) ?_
  refine lv_iconst (v := 0) hx hb dL_told_1 (by decide) ?_
  refine lv_aload_n hx hb dL_told_2 rfl (lv_at hl 0 rfl) ?_
  refine lv_iload_n hx hb dL_told_3 rfl (lv_at hl 1 rfl) ?_
  have f_1 := free_of (wc := [(h0, .inr (11, [.ref h1, .ref h2, .ref (g 2), .ref (g 3), .ref (g 4), .ref (g 5), .ref (g 6), .int 0, .int 0, .int 0, .int 0])), (h1, .inr (6, [.ref (gn 0), .int 0, .ref (gn 2), .ref (gn 3), .int 0, .ref (gn 5), .int 0, .int 0])), (h2, .inr (1, [.ref h1, .ref (gb 1), .int 0]))]) hD hS hA [0, 1, 2] rfl
  refine va_calli (va_runV (As := [.int 7]) (rest := [.int 0, .ref o]) ⟨hx, hb, hml, hown, hts⟩ (c_x_told_7 l D a1 a2 s.heap.size h0 h1 h2 g gn gb) (cwV 1 hts (gV w_351 w_352 w_353 w_8 w_354) rfl rfl rfl (by decide +kernel) ⟨Nat.le_of_ble_eq_true rfl, Nat.le_of_ble_eq_true rfl⟩) (pre_V hK hP hD hS hA hE [0, 1, 2] rfl (by decide) rfl [] rfl (ci := 11) (q0 := 0) rfl rfl) rfl rfl hl.1 rfl (lv_room (Nat.le_of_ble_eq_true rfl)) dL_told_4 ⟨Nat.le_of_ble_eq_true rfl, Nat.le_of_ble_eq_true rfl⟩) hS (fun q _ h => f_1 q h) f_1 (fun r_2 u_3 t H1 locs ht hvm h_4 hB hz1 hk1 hS => ?_)
  obtain ⟨hP, hD⟩ := join (wc := [(h0, .inr (11, [.ref h1, .ref h2, .ref (g 2), .ref (g 3), .ref (g 4), .ref (g 5), .ref (g 6), .int 0, .int 0, .int 0, .int 0])), (h1, .inr (6, [.ref (gn 0), .int 0, .ref (gn 2), .ref (gn 3), .int 0, .ref (gn 5), .int 0, .int 0])), (h2, .inr (1, [.ref h1, .ref (gb 1), .int 0]))]) (wr := [(o, .inl (kL, 1, .inr (.inl (fun _ => 0))))]) (w1 := []) hP hD f_1 [0, 1, 2] [3] rfl rfl (by decide) (by decide) hk1 ht wat_nil
  generalize H1 = H at hP hS ⊢
  have hP : va_P D vwCl [(o, .inl (kL, 1, .inr (.inl (fun _ => 0))))] H := hP
  have hD : va_D A [(o, .inl (kL, 1, .inr (.inl (fun _ => 0))))] := hD
  obtain rfl := h_4
  refine lv_i2l (v := 0) hx hb dL_told_7 (by decide) ?_
  refine va_last hx hb hK hP hD hS 0 0 rfl rfl (by unfold vp_in; decide) dL_told_8 (fun H locs hP hD hS => ?_)
  have hP : va_P D vwCl [(o, .inl (kL, 1, .inr (.inl (vp_updL (fun _ => 0) 0 0))))] H := hP
  have hD : va_D A [(o, .inl (kL, 1, .inr (.inl (vp_updL (fun _ => 0) 0 0))))] := hD
  refine lv_goto (tgt := 15) hx hb dL_told_9 (by decide) ?_
  refine lv_iconst (v := 0) hx hb dL_told_15 (by decide) ?_
  refine W.widen (k := 0) (n := 0) (Nat.le_of_ble_eq_true rfl) (Nat.le_of_ble_eq_true rfl) ?_
  refine vx_ret ?_
  exact W.iret (v := 0) hx hb hr (fun t ht hW => ⟨⟨0, (), rfl, rfl, ⟨by rw [ht]; exact hP.sub (ws' := [(o, .inl (kL, 1, .inr (.inl (vp_updL (fun _ => 0) 0 0))))]) [0] rfl, hD.sub (ws' := [(o, .inl (kL, 1, .inr (.inl (vp_updL (fun _ => 0) 0 0))))]) [0] (by decide) rfl⟩⟩, hS.F ht⟩) hS.2.2 dL_told_16
set_option maxRecDepth 100000 in
set_option maxHeartbeats 4000000 in
theorem c_h_told_8 (l : Launch) (hl9 : l.stackTraces = false) (D : va_G) (a1 a2 sz : Nat) (h0 h1 h2 : Nat) (g gn gb : Nat → Nat) (o : Nat) (kL : ClassId) : vx_Met l yL_told (Cond.codeWith yL_told cL_told 4 (some .int) [(0, 9, 12, 13)] :: WS) ({ frames := 16, cells := 0, slots := 0, locals := 500 }) (va_Pc [.ref h0, .int 8, .ref o] (pre D a1 a2 [(h0, .inr (11, [.ref h1, .ref h2, .ref (g 2), .ref (g 3), .ref (g 4), .ref (g 5), .ref (g 6), .int 0, .int 0, .int 0, .int 0])), (h1, .inr (6, [.ref (gn 0), .int 0, .ref (gn 2), .ref (gn 3), .int 0, .ref (gn 5), .int 0, .int 0])), (h2, .inr (1, [.ref h1, .ref (gb 1), .int 0])), (o, .inl (kL, 1, .inr (.inl (fun _ => 0))))] [(kL, .long)] sz)) (va_Qi (S := Unit) (fun r _ => r = 0) (fun _ t => wat D (va_A [(h0, .inr (11, [.ref h1, .ref h2, .ref (g 2), .ref (g 3), .ref (g 4), .ref (g 5), .ref (g 6), .int 0, .int 0, .int 0, .int 0])), (h1, .inr (6, [.ref (gn 0), .int 0, .ref (gn 2), .ref (gn 3), .int 0, .ref (gn 5), .int 0, .int 0])), (h2, .inr (1, [.ref h1, .ref (gb 1), .int 0])), (o, .inl (kL, 1, .inr (.inl (fun _ => 0))))] sz) [(o, .inl (kL, 1, .inr (.inl (vp_updL (fun _ => 0) 0 0))))] t) (va_A [(h0, .inr (11, [.ref h1, .ref h2, .ref (g 2), .ref (g 3), .ref (g 4), .ref (g 5), .ref (g 6), .int 0, .int 0, .int 0, .int 0])), (h1, .inr (6, [.ref (gn 0), .int 0, .ref (gn 2), .ref (gn 3), .int 0, .ref (gn 5), .int 0, .int 0])), (h2, .inr (1, [.ref h1, .ref (gb 1), .int 0])), (o, .inl (kL, 1, .inr (.inl (fun _ => 0))))] sz)) (vx_X (fun _ : Unit => False) (fun _ _ _ => True) (va_A [(h0, .inr (11, [.ref h1, .ref h2, .ref (g 2), .ref (g 3), .ref (g 4), .ref (g 5), .ref (g 6), .int 0, .int 0, .int 0, .int 0])), (h1, .inr (6, [.ref (gn 0), .int 0, .ref (gn 2), .ref (gn 3), .int 0, .ref (gn 5), .int 0, .int 0])), (h2, .inr (1, [.ref h1, .ref (gb 1), .int 0])), (o, .inl (kL, 1, .inr (.inl (fun _ => 0))))] sz)) 0 0 (va_A [(h0, .inr (11, [.ref h1, .ref h2, .ref (g 2), .ref (g 3), .ref (g 4), .ref (g 5), .ref (g 6), .int 0, .int 0, .int 0, .int 0])), (h1, .inr (6, [.ref (gn 0), .int 0, .ref (gn 2), .ref (gn 3), .int 0, .ref (gn 5), .int 0, .int 0])), (h2, .inr (1, [.ref h1, .ref (gb 1), .int 0])), (o, .inl (kL, 1, .inr (.inl (fun _ => 0))))] sz) := by
  refine open_H (by decide +kernel) (Nat.le_of_ble_eq_true rfl) (fun A => va_Qi (S := Unit) (fun r _ => r = 0) (fun _ t => wat D A [(o, .inl (kL, 1, .inr (.inl (vp_updL (fun _ => 0) 0 0))))] t) A) (fun A => vx_X (fun _ : Unit => False) (fun _ _ _ => True) A) ?_
  intro p e s m below meth c A ls hG
  obtain ⟨⟨hx, hb, hr, hml, hown, hts, hlocks, hin, hP, hK, hD, hA, hE, hS, hl⟩, hno⟩ := hG
  have hown : s.vm.findClass RL = some m.cls := hown
  have hl : lv_has ls 4 [(0, .ref h0), (1, .int 8), (2, .ref o)] := hl
  refine lv_aload_n hx hb dL_told_0 rfl (lv_at hl 2 rfl) ?_
  refine lv_iconst (v := 0) hx hb dL_told_1 (by decide) ?_
  refine lv_aload_n hx hb dL_told_2 rfl (lv_at hl 0 rfl) ?_
  refine lv_iload_n hx hb dL_told_3 rfl (lv_at hl 1 rfl) ?_
  have f_1 := free_of (wc := [(h0, .inr (11, [.ref h1, .ref h2, .ref (g 2), .ref (g 3), .ref (g 4), .ref (g 5), .ref (g 6), .int 0, .int 0, .int 0, .int 0])), (h1, .inr (6, [.ref (gn 0), .int 0, .ref (gn 2), .ref (gn 3), .int 0, .ref (gn 5), .int 0, .int 0])), (h2, .inr (1, [.ref h1, .ref (gb 1), .int 0]))]) hD hS hA [0, 1, 2] rfl
  refine va_calli (va_runV (As := [.int 8]) (rest := [.int 0, .ref o]) ⟨hx, hb, hml, hown, hts⟩ (c_x_told_8 l D a1 a2 s.heap.size h0 h1 h2 g gn gb) (cwV 1 hts (gV w_351 w_352 w_353 w_8 w_354) rfl rfl rfl (by decide +kernel) ⟨Nat.le_of_ble_eq_true rfl, Nat.le_of_ble_eq_true rfl⟩) (pre_V hK hP hD hS hA hE [0, 1, 2] rfl (by decide) rfl [] rfl (ci := 11) (q0 := 0) rfl rfl) rfl rfl hl.1 rfl (lv_room (Nat.le_of_ble_eq_true rfl)) dL_told_4 ⟨Nat.le_of_ble_eq_true rfl, Nat.le_of_ble_eq_true rfl⟩) hS (fun q _ h => f_1 q h) f_1 (fun r_2 u_3 t H1 locs ht hvm h_4 hB hz1 hk1 hS => ?_)
  obtain ⟨hP, hD⟩ := join (wc := [(h0, .inr (11, [.ref h1, .ref h2, .ref (g 2), .ref (g 3), .ref (g 4), .ref (g 5), .ref (g 6), .int 0, .int 0, .int 0, .int 0])), (h1, .inr (6, [.ref (gn 0), .int 0, .ref (gn 2), .ref (gn 3), .int 0, .ref (gn 5), .int 0, .int 0])), (h2, .inr (1, [.ref h1, .ref (gb 1), .int 0]))]) (wr := [(o, .inl (kL, 1, .inr (.inl (fun _ => 0))))]) (w1 := []) hP hD f_1 [0, 1, 2] [3] rfl rfl (by decide) (by decide) hk1 ht wat_nil
  generalize H1 = H at hP hS ⊢
  have hP : va_P D vwCl [(o, .inl (kL, 1, .inr (.inl (fun _ => 0))))] H := hP
  have hD : va_D A [(o, .inl (kL, 1, .inr (.inl (fun _ => 0))))] := hD
  obtain rfl := h_4
  refine lv_i2l (v := 0) hx hb dL_told_7 (by decide) ?_
  refine va_last hx hb hK hP hD hS 0 0 rfl rfl (by unfold vp_in; decide) dL_told_8 (fun H locs hP hD hS => ?_)
  have hP : va_P D vwCl [(o, .inl (kL, 1, .inr (.inl (vp_updL (fun _ => 0) 0 0))))] H := hP
  have hD : va_D A [(o, .inl (kL, 1, .inr (.inl (vp_updL (fun _ => 0) 0 0))))] := hD
  refine lv_goto (tgt := 15) hx hb dL_told_9 (by decide) ?_
  refine lv_iconst (v := 0) hx hb dL_told_15 (by decide) ?_
  refine W.widen (k := 0) (n := 0) (Nat.le_of_ble_eq_true rfl) (Nat.le_of_ble_eq_true rfl) ?_
  refine vx_ret ?_
  exact W.iret (v := 0) hx hb hr (fun t ht hW => ⟨⟨0, (), rfl, rfl, ⟨by rw [ht]; exact hP.sub (ws' := [(o, .inl (kL, 1, .inr (.inl (vp_updL (fun _ => 0) 0 0))))]) [0] rfl, hD.sub (ws' := [(o, .inl (kL, 1, .inr (.inl (vp_updL (fun _ => 0) 0 0))))]) [0] (by decide) rfl⟩⟩, hS.F ht⟩) hS.2.2 dL_told_16
set_option maxRecDepth 100000 in
set_option maxHeartbeats 4000000 in
theorem c_h_told_9 (l : Launch) (hl9 : l.stackTraces = false) (D : va_G) (a1 a2 sz : Nat) (h0 h1 h2 : Nat) (g gn gb : Nat → Nat) (o : Nat) (kL : ClassId) : vx_Met l yL_told (Cond.codeWith yL_told cL_told 4 (some .int) [(0, 9, 12, 13)] :: WS) ({ frames := 16, cells := 0, slots := 0, locals := 500 }) (va_Pc [.ref h0, .int 9, .ref o] (pre D a1 a2 [(h0, .inr (11, [.ref h1, .ref h2, .ref (g 2), .ref (g 3), .ref (g 4), .ref (g 5), .ref (g 6), .int 0, .int 0, .int 0, .int 0])), (h1, .inr (6, [.ref (gn 0), .int 0, .ref (gn 2), .ref (gn 3), .int 0, .ref (gn 5), .int 0, .int 0])), (h2, .inr (1, [.ref h1, .ref (gb 1), .int 0])), (o, .inl (kL, 1, .inr (.inl (fun _ => 0))))] [(kL, .long)] sz)) (va_Qi (S := Unit) (fun r _ => r = 0) (fun _ t => wat D (va_A [(h0, .inr (11, [.ref h1, .ref h2, .ref (g 2), .ref (g 3), .ref (g 4), .ref (g 5), .ref (g 6), .int 0, .int 0, .int 0, .int 0])), (h1, .inr (6, [.ref (gn 0), .int 0, .ref (gn 2), .ref (gn 3), .int 0, .ref (gn 5), .int 0, .int 0])), (h2, .inr (1, [.ref h1, .ref (gb 1), .int 0])), (o, .inl (kL, 1, .inr (.inl (fun _ => 0))))] sz) [(o, .inl (kL, 1, .inr (.inl (vp_updL (fun _ => 0) 0 (-1)))))] t) (va_A [(h0, .inr (11, [.ref h1, .ref h2, .ref (g 2), .ref (g 3), .ref (g 4), .ref (g 5), .ref (g 6), .int 0, .int 0, .int 0, .int 0])), (h1, .inr (6, [.ref (gn 0), .int 0, .ref (gn 2), .ref (gn 3), .int 0, .ref (gn 5), .int 0, .int 0])), (h2, .inr (1, [.ref h1, .ref (gb 1), .int 0])), (o, .inl (kL, 1, .inr (.inl (fun _ => 0))))] sz)) (vx_X (fun _ : Unit => False) (fun _ _ _ => True) (va_A [(h0, .inr (11, [.ref h1, .ref h2, .ref (g 2), .ref (g 3), .ref (g 4), .ref (g 5), .ref (g 6), .int 0, .int 0, .int 0, .int 0])), (h1, .inr (6, [.ref (gn 0), .int 0, .ref (gn 2), .ref (gn 3), .int 0, .ref (gn 5), .int 0, .int 0])), (h2, .inr (1, [.ref h1, .ref (gb 1), .int 0])), (o, .inl (kL, 1, .inr (.inl (fun _ => 0))))] sz)) 0 0 (va_A [(h0, .inr (11, [.ref h1, .ref h2, .ref (g 2), .ref (g 3), .ref (g 4), .ref (g 5), .ref (g 6), .int 0, .int 0, .int 0, .int 0])), (h1, .inr (6, [.ref (gn 0), .int 0, .ref (gn 2), .ref (gn 3), .int 0, .ref (gn 5), .int 0, .int 0])), (h2, .inr (1, [.ref h1, .ref (gb 1), .int 0])), (o, .inl (kL, 1, .inr (.inl (fun _ => 0))))] sz) := by
  refine open_H (by decide +kernel) (Nat.le_of_ble_eq_true rfl) (fun A => va_Qi (S := Unit) (fun r _ => r = 0) (fun _ t => wat D A [(o, .inl (kL, 1, .inr (.inl (vp_updL (fun _ => 0) 0 (-1)))))] t) A) (fun A => vx_X (fun _ : Unit => False) (fun _ _ _ => True) A) ?_
  intro p e s m below meth c A ls hG
  obtain ⟨⟨hx, hb, hr, hml, hown, hts, hlocks, hin, hP, hK, hD, hA, hE, hS, hl⟩, hno⟩ := hG
  have hown : s.vm.findClass RL = some m.cls := hown
  have hl : lv_has ls 4 [(0, .ref h0), (1, .int 9), (2, .ref o)] := hl
  refine lv_aload_n hx hb dL_told_0 rfl (lv_at hl 2 rfl) ?_
  refine lv_iconst (v := 0) hx hb dL_told_1 (by decide) ?_
  refine lv_aload_n hx hb dL_told_2 rfl (lv_at hl 0 rfl) ?_
  refine lv_iload_n hx hb dL_told_3 rfl (lv_at hl 1 rfl) ?_
  have f_1 := free_of (wc := [(h0, .inr (11, [.ref h1, .ref h2, .ref (g 2), .ref (g 3), .ref (g 4), .ref (g 5), .ref (g 6), .int 0, .int 0, .int 0, .int 0])), (h1, .inr (6, [.ref (gn 0), .int 0, .ref (gn 2), .ref (gn 3), .int 0, .ref (gn 5), .int 0, .int 0])), (h2, .inr (1, [.ref h1, .ref (gb 1), .int 0]))]) hD hS hA [0, 1, 2] rfl
  refine va_calli (va_runV (As := [.int 9]) (rest := [.int 0, .ref o]) ⟨hx, hb, hml, hown, hts⟩ (c_x_told_9 l D a1 a2 s.heap.size h0 h1 h2 g gn gb) (cwV 1 hts (gV w_351 w_352 w_353 w_8 w_354) rfl rfl rfl (by decide +kernel) ⟨Nat.le_of_ble_eq_true rfl, Nat.le_of_ble_eq_true rfl⟩) (pre_V hK hP hD hS hA hE [0, 1, 2] rfl (by decide) rfl [] rfl (ci := 11) (q0 := 0) rfl rfl) rfl rfl hl.1 rfl (lv_room (Nat.le_of_ble_eq_true rfl)) dL_told_4 ⟨Nat.le_of_ble_eq_true rfl, Nat.le_of_ble_eq_true rfl⟩) hS (fun q _ h => f_1 q h) f_1 (fun r_2 u_3 t H1 locs ht hvm h_4 hB hz1 hk1 hS => ?_)
  obtain ⟨hP, hD⟩ := join (wc := [(h0, .inr (11, [.ref h1, .ref h2, .ref (g 2), .ref (g 3), .ref (g 4), .ref (g 5), .ref (g 6), .int 0, .int 0, .int 0, .int 0])), (h1, .inr (6, [.ref (gn 0), .int 0, .ref (gn 2), .ref (gn 3), .int 0, .ref (gn 5), .int 0, .int 0])), (h2, .inr (1, [.ref h1, .ref (gb 1), .int 0]))]) (wr := [(o, .inl (kL, 1, .inr (.inl (fun _ => 0))))]) (w1 := []) hP hD f_1 [0, 1, 2] [3] rfl rfl (by decide) (by decide) hk1 ht wat_nil
  generalize H1 = H at hP hS ⊢
  have hP : va_P D vwCl [(o, .inl (kL, 1, .inr (.inl (fun _ => 0))))] H := hP
  have hD : va_D A [(o, .inl (kL, 1, .inr (.inl (fun _ => 0))))] := hD
  obtain rfl := h_4
  refine lv_i2l (v := -1) hx hb dL_told_7 (by decide) ?_
  refine va_last hx hb hK hP hD hS 0 0 rfl rfl (by unfold vp_in; decide) dL_told_8 (fun H locs hP hD hS => ?_)
  have hP : va_P D vwCl [(o, .inl (kL, 1, .inr (.inl (vp_updL (fun _ => 0) 0 (-1)))))] H := hP
  have hD : va_D A [(o, .inl (kL, 1, .inr (.inl (vp_updL (fun _ => 0) 0 (-1)))))] := hD
  refine lv_goto (tgt := 15) hx hb dL_told_9 (by decide) ?_
  refine lv_iconst (v := 0) hx hb dL_told_15 (by decide) ?_
  refine W.widen (k := 0) (n := 0) (Nat.le_of_ble_eq_true rfl) (Nat.le_of_ble_eq_true rfl) ?_
  refine vx_ret ?_
  exact W.iret (v := 0) hx hb hr (fun t ht hW => ⟨⟨0, (), rfl, rfl, ⟨by rw [ht]; exact hP.sub (ws' := [(o, .inl (kL, 1, .inr (.inl (vp_updL (fun _ => 0) 0 (-1)))))]) [0] rfl, hD.sub (ws' := [(o, .inl (kL, 1, .inr (.inl (vp_updL (fun _ => 0) 0 (-1)))))]) [0] (by decide) rfl⟩⟩, hS.F ht⟩) hS.2.2 dL_told_16
set_option maxRecDepth 100000 in
set_option maxHeartbeats 4000000 in
theorem c_h_place (l : Launch) (hl9 : l.stackTraces = false) (D : va_G) (a1 a2 sz : Nat) (h0 h1 h2 : Nat) (g gn gb : Nat → Nat) (p1 p2 p3 p4 : Int32) (hv : ¬ (((-720 ≤ p1 ∧ p1 ≤ 840) ∧ (0 ≤ p2 ∧ p2 ≤ 126)) ∧ ((0 ≤ p3 ∧ p3 ≤ 1438) ∧ (p3 + 1 ≤ p4 ∧ p4 ≤ 1439)))) (o : Nat) : vx_Met l yL_place (Cond.codeWith yL_place cL_place 7 (some .int) [(0, 14, 17, 13)] :: WS) ({ frames := 16, cells := 1, slots := 6, locals := 500 }) (va_Pc [.ref h0, .int p1, .int p2, .int p3, .int p4, .ref o] (pre D a1 a2 [(h0, .inr (11, [.ref h1, .ref h2, .ref (g 2), .ref (g 3), .ref (g 4), .ref (g 5), .ref (g 6), .int 0, .int 0, .int 0, .int 0])), (h1, .inr (6, [.ref (gn 0), .int 0, .ref (gn 2), .ref (gn 3), .int 0, .ref (gn 5), .int 0, .int 0])), (h2, .inr (1, [.ref h1, .ref (gb 1), .int 0]))] [] sz)) (va_Qi (S := Unit) (fun r _ => r = 1) (fun _ _ => True) (va_A [(h0, .inr (11, [.ref h1, .ref h2, .ref (g 2), .ref (g 3), .ref (g 4), .ref (g 5), .ref (g 6), .int 0, .int 0, .int 0, .int 0])), (h1, .inr (6, [.ref (gn 0), .int 0, .ref (gn 2), .ref (gn 3), .int 0, .ref (gn 5), .int 0, .int 0])), (h2, .inr (1, [.ref h1, .ref (gb 1), .int 0]))] sz)) (vx_X (fun _ : Unit => False) (fun _ _ _ => True) (va_A [(h0, .inr (11, [.ref h1, .ref h2, .ref (g 2), .ref (g 3), .ref (g 4), .ref (g 5), .ref (g 6), .int 0, .int 0, .int 0, .int 0])), (h1, .inr (6, [.ref (gn 0), .int 0, .ref (gn 2), .ref (gn 3), .int 0, .ref (gn 5), .int 0, .int 0])), (h2, .inr (1, [.ref h1, .ref (gb 1), .int 0]))] sz)) 1 6 (va_A [(h0, .inr (11, [.ref h1, .ref h2, .ref (g 2), .ref (g 3), .ref (g 4), .ref (g 5), .ref (g 6), .int 0, .int 0, .int 0, .int 0])), (h1, .inr (6, [.ref (gn 0), .int 0, .ref (gn 2), .ref (gn 3), .int 0, .ref (gn 5), .int 0, .int 0])), (h2, .inr (1, [.ref h1, .ref (gb 1), .int 0]))] sz) := by
  refine open_H (by decide +kernel) (Nat.le_of_ble_eq_true rfl) (fun A => va_Qi (S := Unit) (fun r _ => r = 1) (fun _ _ => True) A) (fun A => vx_X (fun _ : Unit => False) (fun _ _ _ => True) A) ?_
  intro p e s m below meth c A ls hG
  obtain ⟨⟨hx, hb, hr, hml, hown, hts, hlocks, hin, hP, hK, hD, hA, hE, hS, hl⟩, hno⟩ := hG
  have hown : s.vm.findClass RL = some m.cls := hown
  have hl : lv_has ls 7 [(0, .ref h0), (1, .int p1), (2, .int p2), (3, .int p3), (4, .int p4), (5, .ref o)] := hl
  refine lv_aload hx hb dL_place_0 (lv_at hl 5 rfl) ?_
  refine lv_iconst (v := 0) hx hb dL_place_2 (by decide) ?_
  refine lv_aload_n hx hb dL_place_3 rfl (lv_at hl 0 rfl) ?_
  refine lv_iload_n hx hb dL_place_4 rfl (lv_at hl 1 rfl) ?_
  refine lv_iload_n hx hb dL_place_5 rfl (lv_at hl 2 rfl) ?_
  refine lv_iload_n hx hb dL_place_6 rfl (lv_at hl 3 rfl) ?_
  refine lv_iload hx hb dL_place_7 (lv_at hl 4 rfl) ?_
  have f_1 := free_of (wc := [(h0, .inr (11, [.ref h1, .ref h2, .ref (g 2), .ref (g 3), .ref (g 4), .ref (g 5), .ref (g 6), .int 0, .int 0, .int 0, .int 0])), (h1, .inr (6, [.ref (gn 0), .int 0, .ref (gn 2), .ref (gn 3), .int 0, .ref (gn 5), .int 0, .int 0])), (h2, .inr (1, [.ref h1, .ref (gb 1), .int 0]))]) hD hS hA [0, 1, 2] rfl
  refine never (vx_runV (As := [.int p1, .int p2, .int p3, .int p4]) (rest := [.int 0, .ref o]) ⟨hx, hb, hml, hown, hts⟩ (c_x_place l hl9 D a1 a2 s.heap.size h0 h1 h2 g gn gb p1 p2 p3 p4 hv) (cwV 4 hts (gV w_339 w_340 w_341 w_8 w_342) rfl rfl rfl (by decide +kernel) ⟨Nat.le_of_ble_eq_true rfl, Nat.le_of_ble_eq_true rfl⟩) (pre_V hK hP hD hS hA hE [0, 1, 2] rfl (by decide) rfl [] rfl (ci := 11) (q0 := 0) rfl rfl) rfl rfl hl.1 rfl (lv_room (Nat.le_of_ble_eq_true rfl)) dL_place_9 ⟨Nat.le_of_ble_eq_true rfl, Nat.le_of_ble_eq_true rfl⟩) (fun _ _ _ h => h) hS f_1 (fun q _ h => f_1 q h) (fun E ce q9 u9 t H locs ht hvm hw hB hz1 hk1 hS hce hcv hcl => ?_)
  subst hB
  refine vx_catch (own := RL) (name := "java/lang/IllegalArgumentException") (E := "java/lang/IllegalArgumentException") hown [] ⟨0, 14, 17, 13⟩ [] (by rw [hno]; rfl) (fun z hz => nomatch hz) (by decide) (by decide) (hts (.classLink RL 13 "java/lang/IllegalArgumentException") w_182) (va_Nw.use rfl hE.1.2.1.2) hce hcv hcl ?_
  refine W.eq (g2 := F0 m 17 ls [.ref q9]) rfl ?_
  refine lv_astore (lv' := [(6, .ref q9), (0, .ref h0), (1, .int p1), (2, .int p2), (3, .int p3), (4, .int p4), (5, .ref o)]) hx hb dL_place_17 hl (by decide) rfl (fun ls hl => ?_)
  refine lv_iconst (v := 1) hx hb dL_place_19 (by decide) ?_
  refine W.widen (k := 1) (n := 6) (Nat.le_of_ble_eq_true rfl) (Nat.le_of_ble_eq_true rfl) ?_
  refine vx_ret ?_
  exact W.iret (v := 1) hx hb hr (fun t ht hW => ⟨⟨1, (), rfl, rfl, trivial⟩, hS.F ht⟩) hS.2.2 dL_place_20
set_option maxRecDepth 100000 in
set_option maxHeartbeats 4000000 in
theorem c_h_go (l : Launch) (hl9 : l.stackTraces = false) (D : va_G) (a1 a2 sz : Nat) (h0 h1 h2 : Nat) (g gn gb : Nat → Nat) (p1 : Int32) (hv : ¬ (1 ≤ p1 ∧ p1 ≤ 20160)) (o : Nat) : vx_Met l yL_go (Cond.codeWith yL_go cL_go 4 (some .int) [(0, 9, 12, 13)] :: WS) ({ frames := 16, cells := 1, slots := 6, locals := 500 }) (va_Pc [.ref h0, .int p1, .ref o] (pre D a1 a2 [(h0, .inr (11, [.ref h1, .ref h2, .ref (g 2), .ref (g 3), .ref (g 4), .ref (g 5), .ref (g 6), .int 0, .int 0, .int 0, .int 0])), (h1, .inr (6, [.ref (gn 0), .int 0, .ref (gn 2), .ref (gn 3), .int 0, .ref (gn 5), .int 0, .int 0])), (h2, .inr (1, [.ref h1, .ref (gb 1), .int 0]))] [] sz)) (va_Qi (S := Unit) (fun r _ => r = 1) (fun _ _ => True) (va_A [(h0, .inr (11, [.ref h1, .ref h2, .ref (g 2), .ref (g 3), .ref (g 4), .ref (g 5), .ref (g 6), .int 0, .int 0, .int 0, .int 0])), (h1, .inr (6, [.ref (gn 0), .int 0, .ref (gn 2), .ref (gn 3), .int 0, .ref (gn 5), .int 0, .int 0])), (h2, .inr (1, [.ref h1, .ref (gb 1), .int 0]))] sz)) (vx_X (fun _ : Unit => False) (fun _ _ _ => True) (va_A [(h0, .inr (11, [.ref h1, .ref h2, .ref (g 2), .ref (g 3), .ref (g 4), .ref (g 5), .ref (g 6), .int 0, .int 0, .int 0, .int 0])), (h1, .inr (6, [.ref (gn 0), .int 0, .ref (gn 2), .ref (gn 3), .int 0, .ref (gn 5), .int 0, .int 0])), (h2, .inr (1, [.ref h1, .ref (gb 1), .int 0]))] sz)) 1 6 (va_A [(h0, .inr (11, [.ref h1, .ref h2, .ref (g 2), .ref (g 3), .ref (g 4), .ref (g 5), .ref (g 6), .int 0, .int 0, .int 0, .int 0])), (h1, .inr (6, [.ref (gn 0), .int 0, .ref (gn 2), .ref (gn 3), .int 0, .ref (gn 5), .int 0, .int 0])), (h2, .inr (1, [.ref h1, .ref (gb 1), .int 0]))] sz) := by
  refine open_H (by decide +kernel) (Nat.le_of_ble_eq_true rfl) (fun A => va_Qi (S := Unit) (fun r _ => r = 1) (fun _ _ => True) A) (fun A => vx_X (fun _ : Unit => False) (fun _ _ _ => True) A) ?_
  intro p e s m below meth c A ls hG
  obtain ⟨⟨hx, hb, hr, hml, hown, hts, hlocks, hin, hP, hK, hD, hA, hE, hS, hl⟩, hno⟩ := hG
  have hown : s.vm.findClass RL = some m.cls := hown
  have hl : lv_has ls 4 [(0, .ref h0), (1, .int p1), (2, .ref o)] := hl
  refine lv_aload_n hx hb dL_go_0 rfl (lv_at hl 2 rfl) ?_
  refine lv_iconst (v := 0) hx hb dL_go_1 (by decide) ?_
  refine lv_aload_n hx hb dL_go_2 rfl (lv_at hl 0 rfl) ?_
  refine lv_iload_n hx hb dL_go_3 rfl (lv_at hl 1 rfl) ?_
  have f_1 := free_of (wc := [(h0, .inr (11, [.ref h1, .ref h2, .ref (g 2), .ref (g 3), .ref (g 4), .ref (g 5), .ref (g 6), .int 0, .int 0, .int 0, .int 0])), (h1, .inr (6, [.ref (gn 0), .int 0, .ref (gn 2), .ref (gn 3), .int 0, .ref (gn 5), .int 0, .int 0])), (h2, .inr (1, [.ref h1, .ref (gb 1), .int 0]))]) hD hS hA [0, 1, 2] rfl
  refine never (vx_runV (As := [.int p1]) (rest := [.int 0, .ref o]) ⟨hx, hb, hml, hown, hts⟩ (c_x_go l hl9 D a1 a2 s.heap.size h0 h1 h2 g gn gb p1 hv) (cwV 1 hts (gV w_343 w_344 w_345 w_8 w_346) rfl rfl rfl (by decide +kernel) ⟨Nat.le_of_ble_eq_true rfl, Nat.le_of_ble_eq_true rfl⟩) (pre_V hK hP hD hS hA hE [0, 1, 2] rfl (by decide) rfl [] rfl (ci := 11) (q0 := 0) rfl rfl) rfl rfl hl.1 rfl (lv_room (Nat.le_of_ble_eq_true rfl)) dL_go_4 ⟨Nat.le_of_ble_eq_true rfl, Nat.le_of_ble_eq_true rfl⟩) (fun _ _ _ h => h) hS f_1 (fun q _ h => f_1 q h) (fun E ce q9 u9 t H locs ht hvm hw hB hz1 hk1 hS hce hcv hcl => ?_)
  subst hB
  refine vx_catch (own := RL) (name := "java/lang/IllegalArgumentException") (E := "java/lang/IllegalArgumentException") hown [] ⟨0, 9, 12, 13⟩ [] (by rw [hno]; rfl) (fun z hz => nomatch hz) (by decide) (by decide) (hts (.classLink RL 13 "java/lang/IllegalArgumentException") w_182) (va_Nw.use rfl hE.1.2.1.2) hce hcv hcl ?_
  refine W.eq (g2 := F0 m 12 ls [.ref q9]) rfl ?_
  refine lv_astore_n (lv' := [(3, .ref q9), (0, .ref h0), (1, .int p1), (2, .ref o)]) hx hb dL_go_12 rfl hl (by decide) rfl (fun ls hl => ?_)
  refine lv_iconst (v := 1) hx hb dL_go_13 (by decide) ?_
  refine W.widen (k := 1) (n := 6) (Nat.le_of_ble_eq_true rfl) (Nat.le_of_ble_eq_true rfl) ?_
  refine vx_ret ?_
  exact W.iret (v := 1) hx hb hr (fun t ht hW => ⟨⟨1, (), rfl, rfl, trivial⟩, hS.F ht⟩) hS.2.2 dL_go_14
set_option maxRecDepth 100000 in
set_option maxHeartbeats 4000000 in
theorem c_h_told (l : Launch) (hl9 : l.stackTraces = false) (D : va_G) (a1 a2 sz : Nat) (h0 h1 h2 : Nat) (g gn gb : Nat → Nat) (p1 : Int32) (hv : ¬ (0 ≤ p1 ∧ p1 ≤ 9)) (o : Nat) : vx_Met l yL_told (Cond.codeWith yL_told cL_told 4 (some .int) [(0, 9, 12, 13)] :: WS) ({ frames := 16, cells := 1, slots := 6, locals := 500 }) (va_Pc [.ref h0, .int p1, .ref o] (pre D a1 a2 [(h0, .inr (11, [.ref h1, .ref h2, .ref (g 2), .ref (g 3), .ref (g 4), .ref (g 5), .ref (g 6), .int 0, .int 0, .int 0, .int 0])), (h1, .inr (6, [.ref (gn 0), .int 0, .ref (gn 2), .ref (gn 3), .int 0, .ref (gn 5), .int 0, .int 0])), (h2, .inr (1, [.ref h1, .ref (gb 1), .int 0]))] [] sz)) (va_Qi (S := Unit) (fun r _ => r = 1) (fun _ _ => True) (va_A [(h0, .inr (11, [.ref h1, .ref h2, .ref (g 2), .ref (g 3), .ref (g 4), .ref (g 5), .ref (g 6), .int 0, .int 0, .int 0, .int 0])), (h1, .inr (6, [.ref (gn 0), .int 0, .ref (gn 2), .ref (gn 3), .int 0, .ref (gn 5), .int 0, .int 0])), (h2, .inr (1, [.ref h1, .ref (gb 1), .int 0]))] sz)) (vx_X (fun _ : Unit => False) (fun _ _ _ => True) (va_A [(h0, .inr (11, [.ref h1, .ref h2, .ref (g 2), .ref (g 3), .ref (g 4), .ref (g 5), .ref (g 6), .int 0, .int 0, .int 0, .int 0])), (h1, .inr (6, [.ref (gn 0), .int 0, .ref (gn 2), .ref (gn 3), .int 0, .ref (gn 5), .int 0, .int 0])), (h2, .inr (1, [.ref h1, .ref (gb 1), .int 0]))] sz)) 1 6 (va_A [(h0, .inr (11, [.ref h1, .ref h2, .ref (g 2), .ref (g 3), .ref (g 4), .ref (g 5), .ref (g 6), .int 0, .int 0, .int 0, .int 0])), (h1, .inr (6, [.ref (gn 0), .int 0, .ref (gn 2), .ref (gn 3), .int 0, .ref (gn 5), .int 0, .int 0])), (h2, .inr (1, [.ref h1, .ref (gb 1), .int 0]))] sz) := by
  refine open_H (by decide +kernel) (Nat.le_of_ble_eq_true rfl) (fun A => va_Qi (S := Unit) (fun r _ => r = 1) (fun _ _ => True) A) (fun A => vx_X (fun _ : Unit => False) (fun _ _ _ => True) A) ?_
  intro p e s m below meth c A ls hG
  obtain ⟨⟨hx, hb, hr, hml, hown, hts, hlocks, hin, hP, hK, hD, hA, hE, hS, hl⟩, hno⟩ := hG
  have hown : s.vm.findClass RL = some m.cls := hown
  have hl : lv_has ls 4 [(0, .ref h0), (1, .int p1), (2, .ref o)] := hl
  refine lv_aload_n hx hb dL_told_0 rfl (lv_at hl 2 rfl) ?_
  refine lv_iconst (v := 0) hx hb dL_told_1 (by decide) ?_
  refine lv_aload_n hx hb dL_told_2 rfl (lv_at hl 0 rfl) ?_
  refine lv_iload_n hx hb dL_told_3 rfl (lv_at hl 1 rfl) ?_
  have f_1 := free_of (wc := [(h0, .inr (11, [.ref h1, .ref h2, .ref (g 2), .ref (g 3), .ref (g 4), .ref (g 5), .ref (g 6), .int 0, .int 0, .int 0, .int 0])), (h1, .inr (6, [.ref (gn 0), .int 0, .ref (gn 2), .ref (gn 3), .int 0, .ref (gn 5), .int 0, .int 0])), (h2, .inr (1, [.ref h1, .ref (gb 1), .int 0]))]) hD hS hA [0, 1, 2] rfl
  refine never (vx_runV (As := [.int p1]) (rest := [.int 0, .ref o]) ⟨hx, hb, hml, hown, hts⟩ (c_x_told l hl9 D a1 a2 s.heap.size h0 h1 h2 g gn gb p1 hv) (cwV 1 hts (gV w_351 w_352 w_353 w_8 w_354) rfl rfl rfl (by decide +kernel) ⟨Nat.le_of_ble_eq_true rfl, Nat.le_of_ble_eq_true rfl⟩) (pre_V hK hP hD hS hA hE [0, 1, 2] rfl (by decide) rfl [] rfl (ci := 11) (q0 := 0) rfl rfl) rfl rfl hl.1 rfl (lv_room (Nat.le_of_ble_eq_true rfl)) dL_told_4 ⟨Nat.le_of_ble_eq_true rfl, Nat.le_of_ble_eq_true rfl⟩) (fun _ _ _ h => h) hS f_1 (fun q _ h => f_1 q h) (fun E ce q9 u9 t H locs ht hvm hw hB hz1 hk1 hS hce hcv hcl => ?_)
  subst hB
  refine vx_catch (own := RL) (name := "java/lang/IllegalArgumentException") (E := "java/lang/IllegalArgumentException") hown [] ⟨0, 9, 12, 13⟩ [] (by rw [hno]; rfl) (fun z hz => nomatch hz) (by decide) (by decide) (hts (.classLink RL 13 "java/lang/IllegalArgumentException") w_182) (va_Nw.use rfl hE.1.2.1.2) hce hcv hcl ?_
  refine W.eq (g2 := F0 m 12 ls [.ref q9]) rfl ?_
  refine lv_astore_n (lv' := [(3, .ref q9), (0, .ref h0), (1, .int p1), (2, .ref o)]) hx hb dL_told_12 rfl hl (by decide) rfl (fun ls hl => ?_)
  refine lv_iconst (v := 1) hx hb dL_told_13 (by decide) ?_
  refine W.widen (k := 1) (n := 6) (Nat.le_of_ble_eq_true rfl) (Nat.le_of_ble_eq_true rfl) ?_
  refine vx_ret ?_
  exact W.iret (v := 1) hx hb hr (fun t ht hW => ⟨⟨1, (), rfl, rfl, trivial⟩, hS.F ht⟩) hS.2.2 dL_told_14
set_option maxRecDepth 100000 in
set_option maxHeartbeats 4000000 in
theorem c_h_until (l : Launch) (hl9 : l.stackTraces = false) (D : va_G) (a1 a2 sz : Nat) (h0 h1 h2 : Nat) (g gn gb : Nat → Nat) (p1 : Int32) (hv : ¬ (0 ≤ p1 ∧ p1 ≤ 575999)) (o : Nat) : vx_Met l yL_until (Cond.codeWith yL_until cL_until 4 (some .int) [(0, 9, 12, 13)] :: WS) ({ frames := 16, cells := 1, slots := 6, locals := 500 }) (va_Pc [.ref h0, .int p1, .ref o] (pre D a1 a2 [(h0, .inr (11, [.ref h1, .ref h2, .ref (g 2), .ref (g 3), .ref (g 4), .ref (g 5), .ref (g 6), .int 0, .int 0, .int 0, .int 0])), (h1, .inr (6, [.ref (gn 0), .int 0, .ref (gn 2), .ref (gn 3), .int 0, .ref (gn 5), .int 0, .int 0])), (h2, .inr (1, [.ref h1, .ref (gb 1), .int 0]))] [] sz)) (va_Qi (S := Unit) (fun r _ => r = 1) (fun _ _ => True) (va_A [(h0, .inr (11, [.ref h1, .ref h2, .ref (g 2), .ref (g 3), .ref (g 4), .ref (g 5), .ref (g 6), .int 0, .int 0, .int 0, .int 0])), (h1, .inr (6, [.ref (gn 0), .int 0, .ref (gn 2), .ref (gn 3), .int 0, .ref (gn 5), .int 0, .int 0])), (h2, .inr (1, [.ref h1, .ref (gb 1), .int 0]))] sz)) (vx_X (fun _ : Unit => False) (fun _ _ _ => True) (va_A [(h0, .inr (11, [.ref h1, .ref h2, .ref (g 2), .ref (g 3), .ref (g 4), .ref (g 5), .ref (g 6), .int 0, .int 0, .int 0, .int 0])), (h1, .inr (6, [.ref (gn 0), .int 0, .ref (gn 2), .ref (gn 3), .int 0, .ref (gn 5), .int 0, .int 0])), (h2, .inr (1, [.ref h1, .ref (gb 1), .int 0]))] sz)) 1 6 (va_A [(h0, .inr (11, [.ref h1, .ref h2, .ref (g 2), .ref (g 3), .ref (g 4), .ref (g 5), .ref (g 6), .int 0, .int 0, .int 0, .int 0])), (h1, .inr (6, [.ref (gn 0), .int 0, .ref (gn 2), .ref (gn 3), .int 0, .ref (gn 5), .int 0, .int 0])), (h2, .inr (1, [.ref h1, .ref (gb 1), .int 0]))] sz) := by
  refine open_H (by decide +kernel) (Nat.le_of_ble_eq_true rfl) (fun A => va_Qi (S := Unit) (fun r _ => r = 1) (fun _ _ => True) A) (fun A => vx_X (fun _ : Unit => False) (fun _ _ _ => True) A) ?_
  intro p e s m below meth c A ls hG
  obtain ⟨⟨hx, hb, hr, hml, hown, hts, hlocks, hin, hP, hK, hD, hA, hE, hS, hl⟩, hno⟩ := hG
  have hown : s.vm.findClass RL = some m.cls := hown
  have hl : lv_has ls 4 [(0, .ref h0), (1, .int p1), (2, .ref o)] := hl
  refine lv_aload_n hx hb dL_until_0 rfl (lv_at hl 2 rfl) ?_
  refine lv_iconst (v := 0) hx hb dL_until_1 (by decide) ?_
  refine lv_aload_n hx hb dL_until_2 rfl (lv_at hl 0 rfl) ?_
  refine lv_iload_n hx hb dL_until_3 rfl (lv_at hl 1 rfl) ?_
  have f_1 := free_of (wc := [(h0, .inr (11, [.ref h1, .ref h2, .ref (g 2), .ref (g 3), .ref (g 4), .ref (g 5), .ref (g 6), .int 0, .int 0, .int 0, .int 0])), (h1, .inr (6, [.ref (gn 0), .int 0, .ref (gn 2), .ref (gn 3), .int 0, .ref (gn 5), .int 0, .int 0])), (h2, .inr (1, [.ref h1, .ref (gb 1), .int 0]))]) hD hS hA [0, 1, 2] rfl
  refine never (vx_runV (As := [.int p1]) (rest := [.int 0, .ref o]) ⟨hx, hb, hml, hown, hts⟩ (c_x_until l hl9 D a1 a2 s.heap.size h0 h1 h2 g gn gb p1 hv) (cwV 1 hts (gV w_347 w_348 w_349 w_8 w_350) rfl rfl rfl (by decide +kernel) ⟨Nat.le_of_ble_eq_true rfl, Nat.le_of_ble_eq_true rfl⟩) (pre_V hK hP hD hS hA hE [0, 1, 2] rfl (by decide) rfl [] rfl (ci := 11) (q0 := 0) rfl rfl) rfl rfl hl.1 rfl (lv_room (Nat.le_of_ble_eq_true rfl)) dL_until_4 ⟨Nat.le_of_ble_eq_true rfl, Nat.le_of_ble_eq_true rfl⟩) (fun _ _ _ h => h) hS f_1 (fun q _ h => f_1 q h) (fun E ce q9 u9 t H locs ht hvm hw hB hz1 hk1 hS hce hcv hcl => ?_)
  subst hB
  refine vx_catch (own := RL) (name := "java/lang/IllegalArgumentException") (E := "java/lang/IllegalArgumentException") hown [] ⟨0, 9, 12, 13⟩ [] (by rw [hno]; rfl) (fun z hz => nomatch hz) (by decide) (by decide) (hts (.classLink RL 13 "java/lang/IllegalArgumentException") w_182) (va_Nw.use rfl hE.1.2.1.2) hce hcv hcl ?_
  refine W.eq (g2 := F0 m 12 ls [.ref q9]) rfl ?_
  refine lv_astore_n (lv' := [(3, .ref q9), (0, .ref h0), (1, .int p1), (2, .ref o)]) hx hb dL_until_12 rfl hl (by decide) rfl (fun ls hl => ?_)
  refine lv_iconst (v := 1) hx hb dL_until_13 (by decide) ?_
  refine W.widen (k := 1) (n := 6) (Nat.le_of_ble_eq_true rfl) (Nat.le_of_ble_eq_true rfl) ?_
  refine vx_ret ?_
  exact W.iret (v := 1) hx hb hr (fun t ht hW => ⟨⟨1, (), rfl, rfl, trivial⟩, hS.F ht⟩) hS.2.2 dL_until_14
