set_option maxRecDepth 100000 in
set_option maxHeartbeats 4000000 in
theorem c_mustExist (l : Launch) (hl9 : l.stackTraces = false) (D : va_G) (a1 a2 sz : Nat) (h0 h1 h2 : Nat) (g gn gb : Nat → Nat) : vx_Met l yX11_mustExist (Cond.code yX11_mustExist cX11_mustExist 2 none :: WS) ({ frames := 10, cells := 1, slots := 6, locals := 200 }) (va_Pc [.ref h0, .int 0] (pre D a1 a2 [(h0, .inr (11, [.ref h1, .ref h2, .ref (g 2), .ref (g 3), .ref (g 4), .ref (g 5), .ref (g 6), .int 0, .int 0, .int 0, .int 0]))] [] sz)) (fun _ _ _ _ => False) (thr "java/util/NoSuchElementException" (va_A [(h0, .inr (11, [.ref h1, .ref h2, .ref (g 2), .ref (g 3), .ref (g 4), .ref (g 5), .ref (g 6), .int 0, .int 0, .int 0, .int 0]))] sz)) 1 6 (va_A [(h0, .inr (11, [.ref h1, .ref h2, .ref (g 2), .ref (g 3), .ref (g 4), .ref (g 5), .ref (g 6), .int 0, .int 0, .int 0, .int 0]))] sz) := by
  refine open_vx (by decide +kernel) (Nat.le_of_ble_eq_true rfl) (fun A => fun _ _ _ _ => False) (fun A => thr "java/util/NoSuchElementException" A) ?_
  intro p e s m below meth c A ls hG
  obtain ⟨⟨hx, hb, hr, hml, hown, hts, hlocks, hin, hP, hK, hD, hA, hE, hS, hl⟩, hno⟩ := hG
  have hown : s.vm.findClass RX11 = some m.cls := hown
  have hl : lv_has ls 2 [(0, .ref h0), (1, .int 0)] := hl
  refine lv_iload_n hx hb dX11_mustExist_0 rfl (lv_at hl 1 rfl) ?_
  refine lv_if_ne (tgt := 25) hx hb dX11_mustExist_1 (by decide) (fun c => absurd (by decide) c) (fun _ => ?_)
  refine lv_aload_n hx hb dX11_mustExist_4 rfl (lv_at hl 0 rfl) ?_
  refine lv_dup hx hb dX11_mustExist_5 rfl ?_
  refine va_get (D := D) (ci := 11) (v := .int 0) (C := RX11) (T := TX11) (N := 11) hx hb hts inX11 hown hK hP 0 rfl rfl 9 (by decide) (hts (.fieldLink RX11 436 "AbroadRouter" "missed" "I") w_0) (fun _ h9 => h9) rfl dX11_mustExist_6 ?_
  refine lv_iconst (v := 1) hx hb dX11_mustExist_9 (by decide) ?_
  refine lv_iadd hx hb dX11_mustExist_10 ?_
  refine lv_topi (fun x_1 ex_1 => ?_)
  obtain rfl : x_1 = 1 := ex_1.trans (by decide)
  refine va_put (D := D) (ci := 11) (v := .int 1) (ty := .int) (C := RX11) (T := TX11) (N := 11) hx hb hts inX11 tyX11 tyX11_ok nmX11 hown hK hP hD hS 0 rfl rfl 9 (by decide) (hts (.fieldLink RX11 436 "AbroadRouter" "missed" "I") w_0) (fun _ h9 => h9) rfl (by decide +kernel) rfl rfl (Nat.le_of_ble_eq_true rfl) dX11_mustExist_11 (fun H locs hP hD hS => ?_)
  have hP : va_P D vwCl [(h0, .inr (11, [.ref h1, .ref h2, .ref (g 2), .ref (g 3), .ref (g 4), .ref (g 5), .ref (g 6), .int 0, .int 0, .int 1, .int 0]))] H := hP
  have hD : va_D A [(h0, .inr (11, [.ref h1, .ref h2, .ref (g 2), .ref (g 3), .ref (g 4), .ref (g 5), .ref (g 6), .int 0, .int 0, .int 1, .int 0]))] := hD
  exact tx_throw (own := RX11) (cls := "java/util/NoSuchElementException") (Y0 := "java/lang/RuntimeException") (r0 := ["java/lang/Exception"]) (ix := 13) (rx := prog_31_method_4_code) hx hb hl9 (by decide +kernel) (by decide +kernel) (by decide +kernel) (by decide +kernel) hown (by decide +kernel) (by decide +kernel) (hts (.classLink RX11 442 "java/util/NoSuchElementException") w_1) (hts (.initialized "java/util/NoSuchElementException") w_2) hE.1.1.1 (vx_hat (L := tx_at RX11 446 "java/util/NoSuchElementException" 13 prog_31_method_4_code ["java/lang/RuntimeException", "java/lang/Exception"]) (B := [.castable "java/util/NoSuchElementException" "java/util/NoSuchElementException", .declares ⟨"java/lang/RuntimeException", "<init>", "(Ljava/lang/String;)V"⟩, .declares ⟨"java/lang/Exception", "<init>", "(Ljava/lang/String;)V"⟩, .declares ⟨"java/lang/Throwable", "<init>", "(Ljava/lang/String;)V"⟩]) (fun w hw => hts w (at_N w hw)) (by decide +kernel) (vx_c (va_Nw.use rfl hE.1.2.1.1) (vx_c (va_Nw.use rfl hE.1.2.2.1.1) (vx_c (va_Nw.use rfl hE.1.2.2.1.2.1) (vx_c (va_Nw.use rfl hE.1.2.2.1.2.2) vx_n))))) (by decide +kernel) hE.2.1 hE.2.2 hS (hl.1.trans hml.symm) dX11_mustExist_14 dX11_mustExist_17 dX11_mustExist_18 dX11_mustExist_21 dX11_mustExist_24 (fun x hx => (hno x hx).elim) (Nat.le_of_ble_eq_true rfl) (Nat.le_of_ble_eq_true rfl) (Nat.le_of_ble_eq_true rfl) (Nat.le_of_ble_eq_true rfl) hlocks (fun t ha hsz hk => ⟨(), trivial, rfl, Nat.le_trans hS.1 hsz, fun q h1 h2 => (hk q (Nat.lt_of_lt_of_le h1 hS.1)).trans (hS.2.1 q h1 h2)⟩) hS.2.2 (Nat.le_of_ble_eq_true rfl) (Nat.le_of_ble_eq_true rfl)
set_option maxRecDepth 100000 in
set_option maxHeartbeats 4000000 in
theorem c_mustFit0 (l : Launch) (hl9 : l.stackTraces = false) (D : va_G) (a1 a2 sz : Nat) (h0 h1 h2 : Nat) (g gn gb : Nat → Nat) : vx_Met l yX11_mustFit (Cond.code yX11_mustFit cX11_mustFit 2 none :: WS) ({ frames := 10, cells := 1, slots := 6, locals := 200 }) (va_Pc [.ref h0, .int 0] (pre D a1 a2 [(h0, .inr (11, [.ref h1, .ref h2, .ref (g 2), .ref (g 3), .ref (g 4), .ref (g 5), .ref (g 6), .int 0, .int 0, .int 0, .int 0]))] [] sz)) (fun _ _ _ _ => False) (thr "java/lang/IllegalArgumentException" (va_A [(h0, .inr (11, [.ref h1, .ref h2, .ref (g 2), .ref (g 3), .ref (g 4), .ref (g 5), .ref (g 6), .int 0, .int 0, .int 0, .int 0]))] sz)) 1 6 (va_A [(h0, .inr (11, [.ref h1, .ref h2, .ref (g 2), .ref (g 3), .ref (g 4), .ref (g 5), .ref (g 6), .int 0, .int 0, .int 0, .int 0]))] sz) := by
  refine open_vx (by decide +kernel) (Nat.le_of_ble_eq_true rfl) (fun A => fun _ _ _ _ => False) (fun A => thr "java/lang/IllegalArgumentException" A) ?_
  intro p e s m below meth c A ls hG
  obtain ⟨⟨hx, hb, hr, hml, hown, hts, hlocks, hin, hP, hK, hD, hA, hE, hS, hl⟩, hno⟩ := hG
  have hown : s.vm.findClass RX11 = some m.cls := hown
  have hl : lv_has ls 2 [(0, .ref h0), (1, .int 0)] := hl
  refine lv_iload_n hx hb dX11_mustFit_0 rfl (lv_at hl 1 rfl) ?_
  refine lv_if_ne (tgt := 25) hx hb dX11_mustFit_1 (by decide) (fun c => absurd (by decide) c) (fun _ => ?_)
  refine lv_aload_n hx hb dX11_mustFit_4 rfl (lv_at hl 0 rfl) ?_
  refine lv_dup hx hb dX11_mustFit_5 rfl ?_
  refine va_get (D := D) (ci := 11) (v := .int 0) (C := RX11) (T := TX11) (N := 11) hx hb hts inX11 hown hK hP 0 rfl rfl 10 (by decide) (hts (.fieldLink RX11 439 "AbroadRouter" "misfits" "I") w_3) (fun _ h9 => h9) rfl dX11_mustFit_6 ?_
  refine lv_iconst (v := 1) hx hb dX11_mustFit_9 (by decide) ?_
  refine lv_iadd hx hb dX11_mustFit_10 ?_
  refine lv_topi (fun x_1 ex_1 => ?_)
  obtain rfl : x_1 = 1 := ex_1.trans (by decide)
  refine va_put (D := D) (ci := 11) (v := .int 1) (ty := .int) (C := RX11) (T := TX11) (N := 11) hx hb hts inX11 tyX11 tyX11_ok nmX11 hown hK hP hD hS 0 rfl rfl 10 (by decide) (hts (.fieldLink RX11 439 "AbroadRouter" "misfits" "I") w_3) (fun _ h9 => h9) rfl (by decide +kernel) rfl rfl (Nat.le_of_ble_eq_true rfl) dX11_mustFit_11 (fun H locs hP hD hS => ?_)
  have hP : va_P D vwCl [(h0, .inr (11, [.ref h1, .ref h2, .ref (g 2), .ref (g 3), .ref (g 4), .ref (g 5), .ref (g 6), .int 0, .int 0, .int 0, .int 1]))] H := hP
  have hD : va_D A [(h0, .inr (11, [.ref h1, .ref h2, .ref (g 2), .ref (g 3), .ref (g 4), .ref (g 5), .ref (g 6), .int 0, .int 0, .int 0, .int 1]))] := hD
  exact vx_throwSW (own := RX11) (cls := "java/lang/IllegalArgumentException") (names := ["java/lang/RuntimeException", "java/lang/Exception"]) hx hb hl9 hown (by decide +kernel) (by decide +kernel) (hts (.classLink RX11 449 "java/lang/IllegalArgumentException") w_4) (hts (.initialized "java/lang/IllegalArgumentException") w_5) hE.1.1.2 (vx_hat (L := vx_atS RX11 453 "java/lang/IllegalArgumentException" ["java/lang/RuntimeException", "java/lang/Exception"]) (B := [.castable "java/lang/IllegalArgumentException" "java/lang/IllegalArgumentException", .declares ⟨"java/lang/RuntimeException", "<init>", "(Ljava/lang/String;)V"⟩, .declares ⟨"java/lang/Exception", "<init>", "(Ljava/lang/String;)V"⟩, .declares ⟨"java/lang/Throwable", "<init>", "(Ljava/lang/String;)V"⟩]) (fun w hw => hts w (at_I w hw)) (by decide +kernel) (vx_c (va_Nw.use rfl hE.1.2.1.2) (vx_c (va_Nw.use rfl hE.1.2.2.1.1) (vx_c (va_Nw.use rfl hE.1.2.2.1.2.1) (vx_c (va_Nw.use rfl hE.1.2.2.1.2.2) vx_n))))) (by decide +kernel) hE.2.1 hE.2.2 hS (hl.1.trans hml.symm) dX11_mustFit_14 dX11_mustFit_17 dX11_mustFit_18 dX11_mustFit_21 dX11_mustFit_24 (fun x hx => (hno x hx).elim) (Nat.le_of_ble_eq_true rfl) (Nat.le_of_ble_eq_true rfl) (Nat.le_of_ble_eq_true rfl) (Nat.le_of_ble_eq_true rfl) hlocks (fun t ha hsz hk => ⟨(), trivial, rfl, Nat.le_trans hS.1 hsz, fun q h1 h2 => (hk q (Nat.lt_of_lt_of_le h1 hS.1)).trans (hS.2.1 q h1 h2)⟩) hS.2.2 (Nat.le_of_ble_eq_true rfl) (Nat.le_of_ble_eq_true rfl)
set_option maxRecDepth 100000 in
set_option maxHeartbeats 4000000 in
theorem c_mustFit1 (l : Launch) (D : va_G) (a1 a2 sz : Nat) (h0 : Nat) : Met l yX11_mustFit (Cond.code yX11_mustFit cX11_mustFit 2 none :: WS) ({ frames := 10, cells := 0, slots := 0, locals := 200 }) (va_Pc [.ref h0, .int 1] (pre D a1 a2 [] [] sz)) (va_Qv (S := Unit) (fun _ => True) (fun _ _ => True) (va_A [] sz)) 0 0 (va_A [] sz) := by
  refine open_Met (by decide +kernel) (Nat.le_of_ble_eq_true rfl) (fun A => va_Qv (S := Unit) (fun _ => True) (fun _ _ => True) A) ?_
  intro p e s m below meth c A ls hG
  obtain ⟨hx, hb, hr, hml, hown, hts, hlocks, hin, hP, hK, hD, hA, hE, hS, hl⟩ := hG
  have hown : s.vm.findClass RX11 = some m.cls := hown
  have hl : lv_has ls 2 [(0, .ref h0), (1, .int 1)] := hl
  refine lv_iload_n hx hb dX11_mustFit_0 rfl (lv_at hl 1 rfl) ?_
  refine lv_if_ne (tgt := 25) hx hb dX11_mustFit_1 (by decide) (fun _ => ?_) (fun c => absurd c (by decide))
  refine W.widen (k := 0) (n := 0) (Nat.le_of_ble_eq_true rfl) (Nat.le_of_ble_eq_true rfl) ?_
  exact W.vret hx hb hr (fun t ht hW => ⟨⟨(), rfl, trivial, trivial⟩, hS.F ht⟩) hS.2.2 dX11_mustFit_25
