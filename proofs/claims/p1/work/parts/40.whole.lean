theorem len_lt {L : Nat} (h : L < 6) : Int32.ofNat L - 6 < 0 := by
  rcases (show L = 0 ∨ L = 1 ∨ L = 2 ∨ L = 3 ∨ L = 4 ∨ L = 5 by omega) with rfl | rfl | rfl | rfl | rfl | rfl <;> decide
theorem lw_env {s : State} {b : Nat} (hts0 : ∀ w ∈ lw_tbl, w.before #[Value.ref b] s = true) (hgv : (Jvm.Cond.and given_1 narrow_1).before #[Value.ref b] s = true) : ∃ a1 a2 : Nat, xe a1 a2 (fun q : Nat => s.heap.size ≤ q) s s.heap := by
  have hfl := flat_of_before _ hgv
  have hnA : ∀ a : Nat, a < s.heap.size → ¬ (fun q : Nat => s.heap.size ≤ q) a := fun a h => Nat.not_le.mpr h
  obtain ⟨a1, -, -, -, ha1, -⟩ := Cond.exactly_spec (args := #[Value.ref b]) (first := s) (o := none) (s := s) (idx := []) (t := .string RX11 444) (cls := "java/lang/String") (hfl (.exactly (.string RX11 444) "java/lang/String") (by decide +kernel))
  obtain ⟨a2, -, -, -, ha2, -⟩ := Cond.exactly_spec (args := #[Value.ref b]) (first := s) (o := none) (s := s) (idx := []) (t := .string RX11 451) (cls := "java/lang/String") (hfl (.exactly (.string RX11 451) "java/lang/String") (by decide +kernel))
  refine ⟨a1, a2, ⟨⟨vk_R.of (hts0 (.stringRef RX11 444 "no such thing") (List.mem_of_getElem? (i := 538) (by decide +kernel))) ha1, vk_R.of (hts0 (.stringRef RX11 451 "another argument") (List.mem_of_getElem? (i := 450) (by decide +kernel))) ha2⟩, ⟨va_Nw.of rfl (hts0 (.castable xN xN) (List.mem_of_getElem? (i := 531) (by decide +kernel))), va_Nw.of rfl (hts0 (.castable xI xI) (List.mem_of_getElem? (i := 412) (by decide +kernel)))⟩, ⟨va_Nw.of rfl (hts0 (.declares ⟨"java/lang/RuntimeException", "<init>", "(Ljava/lang/String;)V"⟩) (List.mem_of_getElem? (i := 414) (by decide +kernel))), va_Nw.of rfl (hts0 (.declares ⟨"java/lang/Exception", "<init>", "(Ljava/lang/String;)V"⟩) (List.mem_of_getElem? (i := 416) (by decide +kernel))), va_Nw.of rfl (hts0 (.declares ⟨"java/lang/Throwable", "<init>", "(Ljava/lang/String;)V"⟩) (List.mem_of_getElem? (i := 418) (by decide +kernel)))⟩, ⟨va_Nc.of (hfl (.not (.castable xI xN)) (by decide +kernel)), va_Nc.of (hfl (.not (.castable xN xI)) (by decide +kernel))⟩, ⟨va_AO.of (hts0 (.arrayOver (.object RX8)) (List.mem_of_getElem? (i := 121) (by decide +kernel))), va_AO.of (hts0 (.arrayOver (.object RX0)) (List.mem_of_getElem? (i := 123) (by decide +kernel))), va_AO.of (hts0 (.arrayOver (.object RX7)) (List.mem_of_getElem? (i := 172) (by decide +kernel)))⟩, ⟨aoA_of (hts0 (.arrayOver (.array .int)) (List.mem_of_getElem? (i := 265) (by decide +kernel))), aoA_of (hts0 (.arrayOver (.array (.array .int))) (List.mem_of_getElem? (i := 1538) (by decide +kernel)))⟩, va_Nw.of rfl (hts0 (.methodLinkNest RX11 9 yX6_init RX11) (List.mem_of_getElem? (i := 116) (by decide +kernel))), va_Nw.of rfl (hts0 (.methodLinkNest RX11 51 yX5_init RX11) (List.mem_of_getElem? (i := 318) (by decide +kernel)))⟩, ?_, ?_⟩
  · exact vx_Zqof (hts0 (.laysStatic Bundle.tN "UNASSIGNED_STACK" Bundle.steD) (List.mem_of_getElem? (i := 437) (by decide +kernel))) (hts0 (.initialized Bundle.tN) (List.mem_of_getElem? (i := 90) (by decide +kernel))) (hfl (.isRef (.static Bundle.tN "UNASSIGNED_STACK" Bundle.steD)) (by decide +kernel)) hnA
  · exact vx_Zqof (hts0 (.laysStatic Bundle.tN "SUPPRESSED_SENTINEL" Bundle.listD) (List.mem_of_getElem? (i := 439) (by decide +kernel))) (hts0 (.initialized Bundle.tN) (List.mem_of_getElem? (i := 90) (by decide +kernel))) (hfl (.isRef (.static Bundle.tN "SUPPRESSED_SENTINEL" Bundle.listD)) (by decide +kernel)) hnA
theorem lw_known {s : State} {b : Nat} (hts : ∀ w ∈ WS, w.before #[Value.ref b] s = true) : ∃ D : va_G, ∀ (k : Nat) (q : vw_C), vwCl[k]? = some q → u_Kn s q.1 q.2.1 q.2.2 (D.1 k) (D.2 k) := by
  obtain ⟨c0, i0, h0⟩ := u_known (C := RX0) (T := TX0) (N := 17) (n := 17) hts inX0 (hts (.instantiable RX0 17) w_444)
  obtain ⟨c1, i1, h1⟩ := u_known (C := RX1) (T := TX1) (N := 3) (n := 3) hts inX1 (hts (.instantiable RX1 3) w_397)
  obtain ⟨c2, i2, h2⟩ := u_known (C := RX2) (T := TX2) (N := 10) (n := 10) hts inX2 (hts (.instantiable RX2 10) w_417)
  obtain ⟨c3, i3, h3⟩ := u_known (C := RX3) (T := TX3) (N := 4) (n := 4) hts inX3 (hts (.instantiable RX3 4) w_445)
  obtain ⟨c4, i4, h4⟩ := u_known (C := RX4) (T := TX4) (N := 2) (n := 2) hts inX4 (hts (.instantiable RX4 2) w_446)
  obtain ⟨c5, i5, h5⟩ := u_known (C := RX5) (T := TX5) (N := 5) (n := 5) hts inX5 (hts (.instantiable RX5 5) w_424)
  obtain ⟨c6, i6, h6⟩ := u_known (C := RX6) (T := TX6) (N := 8) (n := 8) hts inX6 (hts (.instantiable RX6 8) w_393)
  obtain ⟨c7, i7, h7⟩ := u_known (C := RX7) (T := TX7) (N := 11) (n := 11) hts inX7 (hts (.instantiable RX7 11) w_447)
  obtain ⟨c8, i8, h8⟩ := u_known (C := RX8) (T := TX8) (N := 6) (n := 6) hts inX8 (hts (.instantiable RX8 6) w_295)
  obtain ⟨c9, i9, h9⟩ := u_known (C := RX9) (T := TX9) (N := 14) (n := 14) hts inX9 (hts (.instantiable RX9 14) w_402)
  obtain ⟨c10, i10, h10⟩ := u_known (C := RX10) (T := TX10) (N := 3) (n := 3) hts inX10 (hts (.instantiable RX10 3) w_410)
  obtain ⟨c11, i11, h11⟩ := u_known (C := RX11) (T := TX11) (N := 11) (n := 11) hts inX11 (hts (.instantiable RX11 11) w_448)
  obtain ⟨c12, i12, h12⟩ := u_known (C := RX12) (T := TX12) (N := 30) (n := 30) hts inX12 (hts (.instantiable RX12 30) w_449)
  refine ⟨(fun k => match k with | 0 => c0 | 1 => c1 | 2 => c2 | 3 => c3 | 4 => c4 | 5 => c5 | 6 => c6 | 7 => c7 | 8 => c8 | 9 => c9 | 10 => c10 | 11 => c11 | _ => c12, fun k => match k with | 0 => i0 | 1 => i1 | 2 => i2 | 3 => i3 | 4 => i4 | 5 => i5 | 6 => i6 | 7 => i7 | 8 => i8 | 9 => i9 | 10 => i10 | 11 => i11 | _ => i12), ?_⟩
  intro k q hq
  match k, hq with
  | 0, hq => cases hq; exact h0
  | 1, hq => cases hq; exact h1
  | 2, hq => cases hq; exact h2
  | 3, hq => cases hq; exact h3
  | 4, hq => cases hq; exact h4
  | 5, hq => cases hq; exact h5
  | 6, hq => cases hq; exact h6
  | 7, hq => cases hq; exact h7
  | 8, hq => cases hq; exact h8
  | 9, hq => cases hq; exact h9
  | 10, hq => cases hq; exact h10
  | 11, hq => cases hq; exact h11
  | 12, hq => cases hq; exact h12
  | k + 13, hq => simp [vwCl] at hq
set_option maxRecDepth 100000 in
set_option maxHeartbeats 8000000 in
theorem whole_start {p : Program} {e : Env} {s : State} {m : MethodId} {below : List Frame} {meth : Method} {c : Code} (l : Launch) (hflags : l.flags = flags0) {b L : Nat} {xs : Nat → Int32} (hL : L ≤ 6) (C0 : lw_At p s m meth c b L xs) : W p l e room_1 s m #[Value.ref b] below meth c s.heap [] 0 0 (lw_Z below #[Value.ref b] s) (entryFrame m ([Value.ref b] : List Value).toArray 8) := by
  obtain ⟨hx, hb, hr_, hml, hown0, hts0, hX, hbl, hlocks, hgv⟩ := id C0
  have hb : c.code = cL_law := hb
  have hown : s.vm.findClass RL = some m.cls := hown0
  have hl9 : l.stackTraces = false := by
    show (!l.flags.contains noTraceFlag) = false
    rw [hflags]
    decide +kernel
  have hts : ∀ w ∈ WS, w.before #[Value.ref b] s = true := fun w h => hts0 w (WS_in w h)
  have hA : ∀ q : Nat, s.heap.size ≤ q → (fun q : Nat => s.heap.size ≤ q) q := fun _ h => h
  have hbA : ¬ (fun q : Nat => s.heap.size ≤ q) b := Nat.not_le.mpr hbl
  obtain ⟨D, hKc⟩ := lw_known hts
  obtain ⟨a1, a2, hE⟩ := lw_env hts0 hgv
  have hS : va_S (fun q : Nat => s.heap.size ≤ q) s.heap s.heap [] := va_S.rf
  have hK : va_K D vwCl [] s := ⟨hKc, fun k q h => by simp at h⟩
  have hP : va_P D vwCl [] s.heap := fun k q h => by simp at h
  have hD : va_D (fun q : Nat => s.heap.size ≤ q) [] := ⟨fun i j p q h => by simp at h, fun k q h => by simp at h⟩
  have hl := lv_entry ([.ref b]) (n := 8) (Nat.le_of_ble_eq_true rfl)
  rw [lg_entry_eq]
  generalize (lg_sl ([.ref b]) ++ List.replicate (8 - (lg_sl ([.ref b])).length) Slot.unset).toArray = ls at hl ⊢
  have hl : lv_has ls 8 [(0, .ref b)] := hl
  refine va_new (ci := 11) (fs := [.null, .null, .null, .null, .null, .null, .null, .int 0, .int 0, .int 0, .int 0]) (C := RX11) (T := TX11) (N := 11) hx hb hts inX11 tyX11 tyX11_ok hown (hts (.classLink RL 8 RX11) w_834) (hts (.instantiable RX11 11) w_448) (hts (.initialized RX11) w_8) hK hP hD hS hA rfl (by decide) (Nat.le_of_ble_eq_true rfl) (Nat.le_of_ble_eq_true rfl) dL_law_0 (fun q_1 H hP hD hS => ?_)
  have hP : va_P D vwCl [(q_1, .inr (11, [.null, .null, .null, .null, .null, .null, .null, .int 0, .int 0, .int 0, .int 0]))] H := hP
  have hD : va_D (fun q : Nat => s.heap.size ≤ q) [(q_1, .inr (11, [.null, .null, .null, .null, .null, .null, .null, .int 0, .int 0, .int 0, .int 0]))] := hD
  refine lv_dup hx hb dL_law_3 rfl ?_
  have f_2 := free_of (wc := [(q_1, .inr (11, [.null, .null, .null, .null, .null, .null, .null, .int 0, .int 0, .int 0, .int 0]))]) hD hS hA [0] rfl
  refine va_callv (va_runI (As := []) (rest := [.ref q_1]) ⟨hx, hb, hml, hown, hts⟩ (c_new_X11 l D a1 a2 H.size q_1) (cwI 0 hts (gI w_836) rfl rfl rfl (hts _ w_8) (hts _ w_837) (hts _ w_835) rfl (by decide +kernel) ⟨Nat.le_of_ble_eq_true rfl, Nat.le_of_ble_eq_true rfl⟩) (pre_S hK hP hD hS hA hE [0] rfl (by decide) rfl [] rfl) rfl rfl hl.1 rfl (lv_room (Nat.le_of_ble_eq_true rfl)) dL_law_4 ⟨Nat.le_of_ble_eq_true rfl, Nat.le_of_ble_eq_true rfl⟩) hS (fun q _ h => f_2 q h) f_2 (fun u_4 t H1 locs ht hvm h_5 hB hz1 hk1 hS => ?_)
  obtain ⟨h1, h2, g, gn, gb, kP⟩ := u_4
  obtain ⟨hP1, hK1, hD1⟩ := hB
  obtain ⟨hP, hD⟩ := join (wc := [(q_1, .inr (11, [.null, .null, .null, .null, .null, .null, .null, .int 0, .int 0, .int 0, .int 0]))]) (wr := []) (w1 := [(q_1, .inr (11, [.ref h1, .ref h2, .ref (g 2), .ref (g 3), .ref (g 4), .ref (g 5), .ref (g 6), .int 0, .int 0, .int 0, .int 0])), (h1, .inr (6, [.ref (gn 0), .int 0, .ref (gn 2), .ref (gn 3), .int 0, .ref (gn 5), .int 0, .int 0])), (h2, .inr (1, [.ref h1, .ref (gb 1), .int 0])), (gn 0, .inl (kP, 6, .inr (.inr (.inr (.inr (fun _ => none))))))]) hP hD f_2 [0] [] rfl rfl (by decide) (by decide) hk1 ht ⟨hP1, hD1⟩
  generalize H1 = H at hP hS ⊢
  have hP : va_P D vwCl [(q_1, .inr (11, [.ref h1, .ref h2, .ref (g 2), .ref (g 3), .ref (g 4), .ref (g 5), .ref (g 6), .int 0, .int 0, .int 0, .int 0])), (h1, .inr (6, [.ref (gn 0), .int 0, .ref (gn 2), .ref (gn 3), .int 0, .ref (gn 5), .int 0, .int 0])), (h2, .inr (1, [.ref h1, .ref (gb 1), .int 0])), (gn 0, .inl (kP, 6, .inr (.inr (.inr (.inr (fun _ => none))))))] H := hP
  have hD : va_D (fun q : Nat => s.heap.size ≤ q) [(q_1, .inr (11, [.ref h1, .ref h2, .ref (g 2), .ref (g 3), .ref (g 4), .ref (g 5), .ref (g 6), .int 0, .int 0, .int 0, .int 0])), (h1, .inr (6, [.ref (gn 0), .int 0, .ref (gn 2), .ref (gn 3), .int 0, .ref (gn 5), .int 0, .int 0])), (h2, .inr (1, [.ref h1, .ref (gb 1), .int 0])), (gn 0, .inl (kP, 6, .inr (.inr (.inr (.inr (fun _ => none))))))] := hD
  have hK := hK.app (va_K.moved hvm.symm hK1)
  have hK : va_K D vwCl [(kP, .object RX8)] s := hK
  refine lv_astore_n (lv' := [(1, .ref q_1), (0, .ref b)]) hx hb dL_law_7 rfl hl (by decide) rfl (fun ls hl => ?_)
  refine va_new (ci := 12) (fs := [.int 0, .null, .int 0, .int 0, .int 0, .int 0, .int 0, .null, .null, .null, .null, .null, .null, .null, .null, .int 0, .null, .int 0, .int 0, .int 0, .null, .null, .int 0, .int 0, .int 0, .int 0, .int 0, .int 0, .null, .null]) (C := RX12) (T := TX12) (N := 30) hx hb hts inX12 tyX12 tyX12_ok hown (hts (.classLink RL 183 RX12) w_838) (hts (.instantiable RX12 30) w_449) (hts (.initialized RX12) w_244) hK hP hD hS hA rfl (by decide) (Nat.le_of_ble_eq_true rfl) (Nat.le_of_ble_eq_true rfl) dL_law_8 (fun q_6 H hP hD hS => ?_)
  have hP : va_P D vwCl [(q_1, .inr (11, [.ref h1, .ref h2, .ref (g 2), .ref (g 3), .ref (g 4), .ref (g 5), .ref (g 6), .int 0, .int 0, .int 0, .int 0])), (h1, .inr (6, [.ref (gn 0), .int 0, .ref (gn 2), .ref (gn 3), .int 0, .ref (gn 5), .int 0, .int 0])), (h2, .inr (1, [.ref h1, .ref (gb 1), .int 0])), (gn 0, .inl (kP, 6, .inr (.inr (.inr (.inr (fun _ => none)))))), (q_6, .inr (12, [.int 0, .null, .int 0, .int 0, .int 0, .int 0, .int 0, .null, .null, .null, .null, .null, .null, .null, .null, .int 0, .null, .int 0, .int 0, .int 0, .null, .null, .int 0, .int 0, .int 0, .int 0, .int 0, .int 0, .null, .null]))] H := hP
  have hD : va_D (fun q : Nat => s.heap.size ≤ q) [(q_1, .inr (11, [.ref h1, .ref h2, .ref (g 2), .ref (g 3), .ref (g 4), .ref (g 5), .ref (g 6), .int 0, .int 0, .int 0, .int 0])), (h1, .inr (6, [.ref (gn 0), .int 0, .ref (gn 2), .ref (gn 3), .int 0, .ref (gn 5), .int 0, .int 0])), (h2, .inr (1, [.ref h1, .ref (gb 1), .int 0])), (gn 0, .inl (kP, 6, .inr (.inr (.inr (.inr (fun _ => none)))))), (q_6, .inr (12, [.int 0, .null, .int 0, .int 0, .int 0, .int 0, .int 0, .null, .null, .null, .null, .null, .null, .null, .null, .int 0, .null, .int 0, .int 0, .int 0, .null, .null, .int 0, .int 0, .int 0, .int 0, .int 0, .int 0, .null, .null]))] := hD
  refine lv_dup hx hb dL_law_11 rfl ?_
  have f_7 := free_of (wc := [(q_6, .inr (12, [.int 0, .null, .int 0, .int 0, .int 0, .int 0, .int 0, .null, .null, .null, .null, .null, .null, .null, .null, .int 0, .null, .int 0, .int 0, .int 0, .null, .null, .int 0, .int 0, .int 0, .int 0, .int 0, .int 0, .null, .null]))]) hD hS hA [4] rfl
  refine va_callv (va_runI (As := []) (rest := [.ref q_6]) ⟨hx, hb, hml, hown, hts⟩ (c_new_X12 l D a1 a2 H.size q_6) (cwI 0 hts (gI w_840) rfl rfl rfl (hts _ w_244) (hts _ w_841) (hts _ w_839) rfl (by decide +kernel) ⟨Nat.le_of_ble_eq_true rfl, Nat.le_of_ble_eq_true rfl⟩) (pre_S hK hP hD hS hA hE [4] rfl (by decide) rfl [] rfl) rfl rfl hl.1 rfl (lv_room (Nat.le_of_ble_eq_true rfl)) dL_law_12 ⟨Nat.le_of_ble_eq_true rfl, Nat.le_of_ble_eq_true rfl⟩) hS (fun q _ h => f_7 q h) f_7 (fun u_9 t H1 locs ht hvm h_10 hB hz1 hk1 hS => ?_)
  obtain ⟨hr, rr, gm, kI, kA, kY, F⟩ := u_9
  obtain ⟨hP1, hK1, hD1⟩ := hB
  obtain ⟨hP, hD⟩ := join (wc := [(q_6, .inr (12, [.int 0, .null, .int 0, .int 0, .int 0, .int 0, .int 0, .null, .null, .null, .null, .null, .null, .null, .null, .int 0, .null, .int 0, .int 0, .int 0, .null, .null, .int 0, .int 0, .int 0, .int 0, .int 0, .int 0, .null, .null]))]) (wr := [(q_1, .inr (11, [.ref h1, .ref h2, .ref (g 2), .ref (g 3), .ref (g 4), .ref (g 5), .ref (g 6), .int 0, .int 0, .int 0, .int 0])), (h1, .inr (6, [.ref (gn 0), .int 0, .ref (gn 2), .ref (gn 3), .int 0, .ref (gn 5), .int 0, .int 0])), (h2, .inr (1, [.ref h1, .ref (gb 1), .int 0])), (gn 0, .inl (kP, 6, .inr (.inr (.inr (.inr (fun _ => none))))))]) (w1 := [(q_6, .inr (12, [.int 0, .ref hr, .int 0, .int 0, .int 0, .int 0, .int 0, .ref (gm 7), .ref (gm 8), .ref (gm 9), .ref (gm 10), .ref (gm 11), .ref (gm 12), .ref (gm 13), .ref (gm 14), .int 0, .ref (gm 16), .int 0, .int 0, .int 0, .ref (gm 20), .ref (gm 21), .int 0, .int 0, .int 0, .int 0, .int 0, .int 0, .ref (gm 28), .ref (gm 29)])), (hr, .inl (kI, 2, .inl (fun _ => 0))), (gm 7, .inl (kA, 6, .inr (.inr (.inr (.inr F))))), (rr, .inl (kY, 5, .inl (fun _ => 0)))]) hP hD f_7 [4] [0, 1, 2, 3] rfl rfl (by decide) (by decide) hk1 ht ⟨hP1, hD1⟩
  generalize H1 = H at hP hS ⊢
  have hP : va_P D vwCl [(q_1, .inr (11, [.ref h1, .ref h2, .ref (g 2), .ref (g 3), .ref (g 4), .ref (g 5), .ref (g 6), .int 0, .int 0, .int 0, .int 0])), (h1, .inr (6, [.ref (gn 0), .int 0, .ref (gn 2), .ref (gn 3), .int 0, .ref (gn 5), .int 0, .int 0])), (h2, .inr (1, [.ref h1, .ref (gb 1), .int 0])), (gn 0, .inl (kP, 6, .inr (.inr (.inr (.inr (fun _ => none)))))), (q_6, .inr (12, [.int 0, .ref hr, .int 0, .int 0, .int 0, .int 0, .int 0, .ref (gm 7), .ref (gm 8), .ref (gm 9), .ref (gm 10), .ref (gm 11), .ref (gm 12), .ref (gm 13), .ref (gm 14), .int 0, .ref (gm 16), .int 0, .int 0, .int 0, .ref (gm 20), .ref (gm 21), .int 0, .int 0, .int 0, .int 0, .int 0, .int 0, .ref (gm 28), .ref (gm 29)])), (hr, .inl (kI, 2, .inl (fun _ => 0))), (gm 7, .inl (kA, 6, .inr (.inr (.inr (.inr F))))), (rr, .inl (kY, 5, .inl (fun _ => 0)))] H := hP
  have hD : va_D (fun q : Nat => s.heap.size ≤ q) [(q_1, .inr (11, [.ref h1, .ref h2, .ref (g 2), .ref (g 3), .ref (g 4), .ref (g 5), .ref (g 6), .int 0, .int 0, .int 0, .int 0])), (h1, .inr (6, [.ref (gn 0), .int 0, .ref (gn 2), .ref (gn 3), .int 0, .ref (gn 5), .int 0, .int 0])), (h2, .inr (1, [.ref h1, .ref (gb 1), .int 0])), (gn 0, .inl (kP, 6, .inr (.inr (.inr (.inr (fun _ => none)))))), (q_6, .inr (12, [.int 0, .ref hr, .int 0, .int 0, .int 0, .int 0, .int 0, .ref (gm 7), .ref (gm 8), .ref (gm 9), .ref (gm 10), .ref (gm 11), .ref (gm 12), .ref (gm 13), .ref (gm 14), .int 0, .ref (gm 16), .int 0, .int 0, .int 0, .ref (gm 20), .ref (gm 21), .int 0, .int 0, .int 0, .int 0, .int 0, .int 0, .ref (gm 28), .ref (gm 29)])), (hr, .inl (kI, 2, .inl (fun _ => 0))), (gm 7, .inl (kA, 6, .inr (.inr (.inr (.inr F))))), (rr, .inl (kY, 5, .inl (fun _ => 0)))] := hD
  have hK := hK.app (va_K.moved hvm.symm hK1)
  have hK : va_K D vwCl [(kP, .object RX8), (kI, .int), (kA, .array .int), (kY, .int)] s := hK
  refine lv_astore_n (lv' := [(2, .ref q_6), (1, .ref q_1), (0, .ref b)]) hx hb dL_law_15 rfl hl (by decide) rfl (fun ls hl => ?_)
  refine lv_iconst (v := 1) hx hb dL_law_16 (by decide) ?_
  refine va_newa (atype := .long) (ty := .long) (a0 := (1, .inr (.inl (fun _ => 0)))) hx hb (hts (.arrayClass .long) w_383) rfl hK hP hD hS hA (fun _ => rfl) (by decide) (by decide) (Nat.le_of_ble_eq_true rfl) (Nat.le_of_ble_eq_true rfl) (Nat.le_of_ble_eq_true rfl) dL_law_17 (fun q_11 k_12 H hK hP hD hS => ?_)
  have hP : va_P D vwCl [(q_1, .inr (11, [.ref h1, .ref h2, .ref (g 2), .ref (g 3), .ref (g 4), .ref (g 5), .ref (g 6), .int 0, .int 0, .int 0, .int 0])), (h1, .inr (6, [.ref (gn 0), .int 0, .ref (gn 2), .ref (gn 3), .int 0, .ref (gn 5), .int 0, .int 0])), (h2, .inr (1, [.ref h1, .ref (gb 1), .int 0])), (gn 0, .inl (kP, 6, .inr (.inr (.inr (.inr (fun _ => none)))))), (q_6, .inr (12, [.int 0, .ref hr, .int 0, .int 0, .int 0, .int 0, .int 0, .ref (gm 7), .ref (gm 8), .ref (gm 9), .ref (gm 10), .ref (gm 11), .ref (gm 12), .ref (gm 13), .ref (gm 14), .int 0, .ref (gm 16), .int 0, .int 0, .int 0, .ref (gm 20), .ref (gm 21), .int 0, .int 0, .int 0, .int 0, .int 0, .int 0, .ref (gm 28), .ref (gm 29)])), (hr, .inl (kI, 2, .inl (fun _ => 0))), (gm 7, .inl (kA, 6, .inr (.inr (.inr (.inr F))))), (rr, .inl (kY, 5, .inl (fun _ => 0))), (q_11, .inl (k_12, 1, .inr (.inl (fun _ => 0))))] H := hP
  have hD : va_D (fun q : Nat => s.heap.size ≤ q) [(q_1, .inr (11, [.ref h1, .ref h2, .ref (g 2), .ref (g 3), .ref (g 4), .ref (g 5), .ref (g 6), .int 0, .int 0, .int 0, .int 0])), (h1, .inr (6, [.ref (gn 0), .int 0, .ref (gn 2), .ref (gn 3), .int 0, .ref (gn 5), .int 0, .int 0])), (h2, .inr (1, [.ref h1, .ref (gb 1), .int 0])), (gn 0, .inl (kP, 6, .inr (.inr (.inr (.inr (fun _ => none)))))), (q_6, .inr (12, [.int 0, .ref hr, .int 0, .int 0, .int 0, .int 0, .int 0, .ref (gm 7), .ref (gm 8), .ref (gm 9), .ref (gm 10), .ref (gm 11), .ref (gm 12), .ref (gm 13), .ref (gm 14), .int 0, .ref (gm 16), .int 0, .int 0, .int 0, .ref (gm 20), .ref (gm 21), .int 0, .int 0, .int 0, .int 0, .int 0, .int 0, .ref (gm 28), .ref (gm 29)])), (hr, .inl (kI, 2, .inl (fun _ => 0))), (gm 7, .inl (kA, 6, .inr (.inr (.inr (.inr F))))), (rr, .inl (kY, 5, .inl (fun _ => 0))), (q_11, .inl (k_12, 1, .inr (.inl (fun _ => 0))))] := hD
  have hK : va_K D vwCl [(kP, .object RX8), (kI, .int), (kA, .array .int), (kY, .int), (k_12, .long)] s := hK
  refine lv_astore_n (lv' := [(3, .ref q_11), (2, .ref q_6), (1, .ref q_1), (0, .ref b)]) hx hb dL_law_19 rfl hl (by decide) rfl (fun ls hl => ?_)
  refine lv_iconst (v := 0) hx hb dL_law_20 (by decide) ?_
  refine lv_istore (lv' := [(4, .int 0), (3, .ref q_11), (2, .ref q_6), (1, .ref q_1), (0, .ref b)]) hx hb dL_law_21 hl (by decide) rfl (fun ls hl => ?_)
  refine W.widen (k := 5338) (n := 65502) (Nat.le_of_ble_eq_true rfl) (Nat.le_of_ble_eq_true rfl) ?_
  refine lv_iload hx hb dL_law_23 (lv_at hl 0 rfl) ?_
  refine lv_aload_n hx hb dL_law_25 rfl (lv_at hl 4 rfl) ?_
  refine va_slen hx hb hX hbl hbA hS dL_law_26 ?_
  refine lv_bipush (v := 6) hx hb dL_law_27 (by decide) ?_
  refine lv_isub hx hb dL_law_29 ?_
  refine lv_topi (fun x1 e1 => ?_)
  rcases Nat.lt_or_ge L 6 with hlt | hge
  · refine lv_icmp_gt (tgt := 3919) hx hb dL_law_30 (by decide) (fun _ => ?_) (fun c => absurd (by rw [e1]; exact len_lt hlt) c)
    refine lv_iconst (v := 1) hx hb dL_law_3919 (by decide) ?_
    refine va_forget (fun q hq => hS.2.2 q hq) ?_
    refine W.widen (k := 600002) (n := 7302232) (Nat.le_of_ble_eq_true rfl) (Nat.le_of_ble_eq_true rfl) ?_
    exact lw_ret hx hb hr_ hlocks dL_law_3920
  obtain rfl : L = 6 := by omega
  obtain rfl : x1 = 0 := e1.trans (by decide)
  refine lv_icmp_gt (tgt := 3919) hx hb dL_law_30 (by decide) (fun c => absurd c (by decide)) (fun _ => ?_)
  refine lv_aload_n hx hb dL_law_33 rfl (lv_at hl 4 rfl) ?_
  refine lv_iload hx hb dL_law_34 (lv_at hl 0 rfl) ?_
  refine va_sld hx hb hX hbl hbA hS (i := 0) (by unfold vp_in; decide) dL_law_36 ?_
  refine lv_bipush (v := 63) hx hb dL_law_37 (by decide) ?_
  refine lv_iand hx hb dL_law_39 ?_
  refine lv_topi (fun x2 e2 => ?_)
  obtain ⟨j, hj, ej⟩ := pk_andE (xs ((0 : Int32).toNatClampNeg)) (m := 63) 6 (by decide)
  obtain rfl : x2 = nI j := e2.trans ej
  have hG : LawSt D a1 a2 p s m meth c b xs H locs ls q_1 h1 h2 g gn gb kP q_6 hr rr gm kI kA kY F q_11 k_12 := ⟨hx, hb, hr_, hml, hown, hts, hX, hbl, hlocks, hP.sub (ws' := [(q_1, .inr (11, [.ref h1, .ref h2, .ref (g 2), .ref (g 3), .ref (g 4), .ref (g 5), .ref (g 6), .int 0, .int 0, .int 0, .int 0])), (h1, .inr (6, [.ref (gn 0), .int 0, .ref (gn 2), .ref (gn 3), .int 0, .ref (gn 5), .int 0, .int 0])), (h2, .inr (1, [.ref h1, .ref (gb 1), .int 0])), (gn 0, .inl (kP, 6, .inr (.inr (.inr (.inr (fun _ => none)))))), (q_6, .inr (12, [.int 0, .ref hr, .int 0, .int 0, .int 0, .int 0, .int 0, .ref (gm 7), .ref (gm 8), .ref (gm 9), .ref (gm 10), .ref (gm 11), .ref (gm 12), .ref (gm 13), .ref (gm 14), .int 0, .ref (gm 16), .int 0, .int 0, .int 0, .ref (gm 20), .ref (gm 21), .int 0, .int 0, .int 0, .int 0, .int 0, .int 0, .ref (gm 28), .ref (gm 29)])), (hr, .inl (kI, 2, .inl (fun _ => 0))), (gm 7, .inl (kA, 6, .inr (.inr (.inr (.inr F))))), (rr, .inl (kY, 5, .inl (fun _ => 0))), (q_11, .inl (k_12, 1, .inr (.inl (fun _ => 0))))]) [0, 1, 2, 3, 4, 5, 6, 7, 8] rfl, hK.sub (tys' := [(kP, .object RX8), (kI, .int), (kA, .array .int), (kY, .int), (k_12, .long)]) [0, 1, 2, 3, 4] rfl, hD.sub (ws' := [(q_1, .inr (11, [.ref h1, .ref h2, .ref (g 2), .ref (g 3), .ref (g 4), .ref (g 5), .ref (g 6), .int 0, .int 0, .int 0, .int 0])), (h1, .inr (6, [.ref (gn 0), .int 0, .ref (gn 2), .ref (gn 3), .int 0, .ref (gn 5), .int 0, .int 0])), (h2, .inr (1, [.ref h1, .ref (gb 1), .int 0])), (gn 0, .inl (kP, 6, .inr (.inr (.inr (.inr (fun _ => none)))))), (q_6, .inr (12, [.int 0, .ref hr, .int 0, .int 0, .int 0, .int 0, .int 0, .ref (gm 7), .ref (gm 8), .ref (gm 9), .ref (gm 10), .ref (gm 11), .ref (gm 12), .ref (gm 13), .ref (gm 14), .int 0, .ref (gm 16), .int 0, .int 0, .int 0, .ref (gm 20), .ref (gm 21), .int 0, .int 0, .int 0, .int 0, .int 0, .int 0, .ref (gm 28), .ref (gm 29)])), (hr, .inl (kI, 2, .inl (fun _ => 0))), (gm 7, .inl (kA, 6, .inr (.inr (.inr (.inr F))))), (rr, .inl (kY, 5, .inl (fun _ => 0))), (q_11, .inl (k_12, 1, .inr (.inl (fun _ => 0))))]) [0, 1, 2, 3, 4, 5, 6, 7, 8] (by decide) rfl, hA, hE, hS, h_10, lv_sub hl [0, 1, 2, 3, 4] rfl⟩
  by_cases j0 : j = 0
  · subst j0
    refine lv_tableIn (off := 232) (tgt := 272) hx hb dL_law_40 (by decide) (by decide) (by decide +kernel) (by decide) ?_
    by_cases hv : ((-720 ≤ xs 1 ∧ xs 1 ≤ 840) ∧ (0 ≤ xs 2 ∧ xs 2 ≤ 126)) ∧ ((0 ≤ xs 3 ∧ xs 3 ≤ 1438) ∧ (xs 3 + 1 ≤ xs 4 ∧ xs 4 ≤ 1439))
    · exact case_0_ok hl9 q_1 h1 h2 g gn gb kP q_6 hr rr gm kI kA kY F q_11 k_12 hv hG
    · exact case_0_no hl9 q_1 h1 h2 g gn gb kP q_6 hr rr gm kI kA kY F q_11 k_12 hv hG
  by_cases j1 : j = 1
  · subst j1
    refine lv_tableIn (off := 324) (tgt := 364) hx hb dL_law_40 (by decide) (by decide) (by decide +kernel) (by decide) ?_
    exact case_1 hl9 q_1 h1 h2 g gn gb kP q_6 hr rr gm kI kA kY F q_11 k_12 hG
  by_cases j2 : j = 2
  · subst j2
    refine lv_tableIn (off := 392) (tgt := 432) hx hb dL_law_40 (by decide) (by decide) (by decide +kernel) (by decide) ?_
    exact case_2 hl9 q_1 h1 h2 g gn gb kP q_6 hr rr gm kI kA kY F q_11 k_12 hG
  by_cases j3 : j = 3
  · subst j3
    refine lv_tableIn (off := 448) (tgt := 488) hx hb dL_law_40 (by decide) (by decide) (by decide +kernel) (by decide) ?_
    exact case_3 hl9 q_1 h1 h2 g gn gb kP q_6 hr rr gm kI kA kY F q_11 k_12 hG
  by_cases j4 : j = 4
  · subst j4
    refine lv_tableIn (off := 552) (tgt := 592) hx hb dL_law_40 (by decide) (by decide) (by decide +kernel) (by decide) ?_
    exact case_4 hl9 q_1 h1 h2 g gn gb kP q_6 hr rr gm kI kA kY F q_11 k_12 hG
  by_cases j5 : j = 5
  · subst j5
    refine lv_tableIn (off := 656) (tgt := 696) hx hb dL_law_40 (by decide) (by decide) (by decide +kernel) (by decide) ?_
    exact case_5 hl9 q_1 h1 h2 g gn gb kP q_6 hr rr gm kI kA kY F q_11 k_12 hG
  by_cases j6 : j = 6
  · subst j6
    refine lv_tableIn (off := 736) (tgt := 776) hx hb dL_law_40 (by decide) (by decide) (by decide +kernel) (by decide) ?_
    exact case_6 hl9 q_1 h1 h2 g gn gb kP q_6 hr rr gm kI kA kY F q_11 k_12 hG
  by_cases j7 : j = 7
  · subst j7
    refine lv_tableIn (off := 804) (tgt := 844) hx hb dL_law_40 (by decide) (by decide) (by decide +kernel) (by decide) ?_
    exact case_7 hl9 q_1 h1 h2 g gn gb kP q_6 hr rr gm kI kA kY F q_11 k_12 hG
  by_cases j8 : j = 8
  · subst j8
    refine lv_tableIn (off := 872) (tgt := 912) hx hb dL_law_40 (by decide) (by decide) (by decide +kernel) (by decide) ?_
    exact case_8 hl9 q_1 h1 h2 g gn gb kP q_6 hr rr gm kI kA kY F q_11 k_12 hG
  by_cases j9 : j = 9
  · subst j9
    refine lv_tableIn (off := 963) (tgt := 1003) hx hb dL_law_40 (by decide) (by decide) (by decide +kernel) (by decide) ?_
    by_cases hv : 1 ≤ xs 1 ∧ xs 1 ≤ 20160
    · exact case_9_ok hl9 q_1 h1 h2 g gn gb kP q_6 hr rr gm kI kA kY F q_11 k_12 hv hG
    · exact case_9_no hl9 q_1 h1 h2 g gn gb kP q_6 hr rr gm kI kA kY F q_11 k_12 hv hG
  by_cases j10 : j = 10
  · subst j10
    refine lv_tableIn (off := 1019) (tgt := 1059) hx hb dL_law_40 (by decide) (by decide) (by decide +kernel) (by decide) ?_
    exact case_10 hl9 q_1 h1 h2 g gn gb kP q_6 hr rr gm kI kA kY F q_11 k_12 hG
  by_cases j11 : j = 11
  · subst j11
    refine lv_tableIn (off := 1111) (tgt := 1151) hx hb dL_law_40 (by decide) (by decide) (by decide +kernel) (by decide) ?_
    exact case_11 hl9 q_1 h1 h2 g gn gb kP q_6 hr rr gm kI kA kY F q_11 k_12 hG
  by_cases j12 : j = 12
  · subst j12
    refine lv_tableIn (off := 1179) (tgt := 1219) hx hb dL_law_40 (by decide) (by decide) (by decide +kernel) (by decide) ?_
    exact case_12 hl9 q_1 h1 h2 g gn gb kP q_6 hr rr gm kI kA kY F q_11 k_12 hG
  by_cases j13 : j = 13
  · subst j13
    refine lv_tableIn (off := 1259) (tgt := 1299) hx hb dL_law_40 (by decide) (by decide) (by decide +kernel) (by decide) ?_
    exact case_13 hl9 q_1 h1 h2 g gn gb kP q_6 hr rr gm kI kA kY F q_11 k_12 hG
  by_cases j14 : j = 14
  · subst j14
    refine lv_tableIn (off := 1315) (tgt := 1355) hx hb dL_law_40 (by decide) (by decide) (by decide +kernel) (by decide) ?_
    exact case_14 hl9 q_1 h1 h2 g gn gb kP q_6 hr rr gm kI kA kY F q_11 k_12 hG
  by_cases j15 : j = 15
  · subst j15
    refine lv_tableIn (off := 1371) (tgt := 1411) hx hb dL_law_40 (by decide) (by decide) (by decide +kernel) (by decide) ?_
    exact case_15 hl9 q_1 h1 h2 g gn gb kP q_6 hr rr gm kI kA kY F q_11 k_12 hG
  by_cases j16 : j = 16
  · subst j16
    refine lv_tableIn (off := 1427) (tgt := 1467) hx hb dL_law_40 (by decide) (by decide) (by decide +kernel) (by decide) ?_
    by_cases hv : 0 ≤ xs 1 ∧ xs 1 ≤ 9
    · rcases nine hv with h | h | h | h | h | h | h | h | h | h
      · exact case_16_0 hl9 q_1 h1 h2 g gn gb kP q_6 hr rr gm kI kA kY F q_11 k_12 h hG
      · exact case_16_1 hl9 q_1 h1 h2 g gn gb kP q_6 hr rr gm kI kA kY F q_11 k_12 h hG
      · exact case_16_2 hl9 q_1 h1 h2 g gn gb kP q_6 hr rr gm kI kA kY F q_11 k_12 h hG
      · exact case_16_3 hl9 q_1 h1 h2 g gn gb kP q_6 hr rr gm kI kA kY F q_11 k_12 h hG
      · exact case_16_4 hl9 q_1 h1 h2 g gn gb kP q_6 hr rr gm kI kA kY F q_11 k_12 h hG
      · exact case_16_5 hl9 q_1 h1 h2 g gn gb kP q_6 hr rr gm kI kA kY F q_11 k_12 h hG
      · exact case_16_6 hl9 q_1 h1 h2 g gn gb kP q_6 hr rr gm kI kA kY F q_11 k_12 h hG
      · exact case_16_7 hl9 q_1 h1 h2 g gn gb kP q_6 hr rr gm kI kA kY F q_11 k_12 h hG
      · exact case_16_8 hl9 q_1 h1 h2 g gn gb kP q_6 hr rr gm kI kA kY F q_11 k_12 h hG
      · exact case_16_9 hl9 q_1 h1 h2 g gn gb kP q_6 hr rr gm kI kA kY F q_11 k_12 h hG
    · exact case_16_no hl9 q_1 h1 h2 g gn gb kP q_6 hr rr gm kI kA kY F q_11 k_12 hv hG
  by_cases j17 : j = 17
  · subst j17
    refine lv_tableIn (off := 1483) (tgt := 1523) hx hb dL_law_40 (by decide) (by decide) (by decide +kernel) (by decide) ?_
    exact case_17 hl9 q_1 h1 h2 g gn gb kP q_6 hr rr gm kI kA kY F q_11 k_12 hG
  by_cases j18 : j = 18
  · subst j18
    refine lv_tableIn (off := 1551) (tgt := 1591) hx hb dL_law_40 (by decide) (by decide) (by decide +kernel) (by decide) ?_
    exact case_18 hl9 q_1 h1 h2 g gn gb kP q_6 hr rr gm kI kA kY F q_11 k_12 hG
  by_cases j19 : j = 19
  · subst j19
    refine lv_tableIn (off := 1619) (tgt := 1659) hx hb dL_law_40 (by decide) (by decide) (by decide +kernel) (by decide) ?_
    exact case_19 hl9 q_1 h1 h2 g gn gb kP q_6 hr rr gm kI kA kY F q_11 k_12 hG
  by_cases j20 : j = 20
  · subst j20
    refine lv_tableIn (off := 1687) (tgt := 1727) hx hb dL_law_40 (by decide) (by decide) (by decide +kernel) (by decide) ?_
    exact case_20 hl9 q_1 h1 h2 g gn gb kP q_6 hr rr gm kI kA kY F q_11 k_12 hG
  by_cases j21 : j = 21
  · subst j21
    refine lv_tableIn (off := 1767) (tgt := 1807) hx hb dL_law_40 (by decide) (by decide) (by decide +kernel) (by decide) ?_
    exact case_21 hl9 q_1 h1 h2 g gn gb kP q_6 hr rr gm kI kA kY F q_11 k_12 hG
  by_cases j22 : j = 22
  · subst j22
    refine lv_tableIn (off := 1835) (tgt := 1875) hx hb dL_law_40 (by decide) (by decide) (by decide +kernel) (by decide) ?_
    exact case_22 hl9 q_1 h1 h2 g gn gb kP q_6 hr rr gm kI kA kY F q_11 k_12 hG
  by_cases j23 : j = 23
  · subst j23
    refine lv_tableIn (off := 1903) (tgt := 1943) hx hb dL_law_40 (by decide) (by decide) (by decide +kernel) (by decide) ?_
    exact case_23 hl9 q_1 h1 h2 g gn gb kP q_6 hr rr gm kI kA kY F q_11 k_12 hG
  by_cases j24 : j = 24
  · subst j24
    refine lv_tableIn (off := 1978) (tgt := 2018) hx hb dL_law_40 (by decide) (by decide) (by decide +kernel) (by decide) ?_
    exact case_24 hl9 q_1 h1 h2 g gn gb kP q_6 hr rr gm kI kA kY F q_11 k_12 hG
  by_cases j25 : j = 25
  · subst j25
    refine lv_tableIn (off := 2046) (tgt := 2086) hx hb dL_law_40 (by decide) (by decide) (by decide +kernel) (by decide) ?_
    exact case_25 hl9 q_1 h1 h2 g gn gb kP q_6 hr rr gm kI kA kY F q_11 k_12 hG
  by_cases j26 : j = 26
  · subst j26
    refine lv_tableIn (off := 2126) (tgt := 2166) hx hb dL_law_40 (by decide) (by decide) (by decide +kernel) (by decide) ?_
    exact case_26 hl9 q_1 h1 h2 g gn gb kP q_6 hr rr gm kI kA kY F q_11 k_12 hG
  by_cases j27 : j = 27
  · subst j27
    refine lv_tableIn (off := 2194) (tgt := 2234) hx hb dL_law_40 (by decide) (by decide) (by decide +kernel) (by decide) ?_
    exact case_27 hl9 q_1 h1 h2 g gn gb kP q_6 hr rr gm kI kA kY F q_11 k_12 hG
  by_cases j28 : j = 28
  · subst j28
    refine lv_tableIn (off := 2262) (tgt := 2302) hx hb dL_law_40 (by decide) (by decide) (by decide +kernel) (by decide) ?_
    exact case_28 hl9 q_1 h1 h2 g gn gb kP q_6 hr rr gm kI kA kY F q_11 k_12 hG
  by_cases j29 : j = 29
  · subst j29
    refine lv_tableIn (off := 2330) (tgt := 2370) hx hb dL_law_40 (by decide) (by decide) (by decide +kernel) (by decide) ?_
    exact case_29 hl9 q_1 h1 h2 g gn gb kP q_6 hr rr gm kI kA kY F q_11 k_12 hG
  by_cases j30 : j = 30
  · subst j30
    refine lv_tableIn (off := 2385) (tgt := 2425) hx hb dL_law_40 (by decide) (by decide) (by decide +kernel) (by decide) ?_
    exact case_30 hl9 q_1 h1 h2 g gn gb kP q_6 hr rr gm kI kA kY F q_11 k_12 hG
  by_cases j31 : j = 31
  · subst j31
    refine lv_tableIn (off := 2465) (tgt := 2505) hx hb dL_law_40 (by decide) (by decide) (by decide +kernel) (by decide) ?_
    exact case_31 hl9 q_1 h1 h2 g gn gb kP q_6 hr rr gm kI kA kY F q_11 k_12 hG
  by_cases j32 : j = 32
  · subst j32
    refine lv_tableIn (off := 2533) (tgt := 2573) hx hb dL_law_40 (by decide) (by decide) (by decide +kernel) (by decide) ?_
    exact case_32 hl9 q_1 h1 h2 g gn gb kP q_6 hr rr gm kI kA kY F q_11 k_12 hG
  by_cases j33 : j = 33
  · subst j33
    refine lv_tableIn (off := 2601) (tgt := 2641) hx hb dL_law_40 (by decide) (by decide) (by decide +kernel) (by decide) ?_
    exact case_33 hl9 q_1 h1 h2 g gn gb kP q_6 hr rr gm kI kA kY F q_11 k_12 hG
  by_cases j34 : j = 34
  · subst j34
    refine lv_tableIn (off := 2657) (tgt := 2697) hx hb dL_law_40 (by decide) (by decide) (by decide +kernel) (by decide) ?_
    exact case_34 hl9 q_1 h1 h2 g gn gb kP q_6 hr rr gm kI kA kY F q_11 k_12 hG
  by_cases j35 : j = 35
  · subst j35
    refine lv_tableIn (off := 2737) (tgt := 2777) hx hb dL_law_40 (by decide) (by decide) (by decide +kernel) (by decide) ?_
    exact case_35 hl9 q_1 h1 h2 g gn gb kP q_6 hr rr gm kI kA kY F q_11 k_12 hG
  by_cases j36 : j = 36
  · subst j36
    refine lv_tableIn (off := 2817) (tgt := 2857) hx hb dL_law_40 (by decide) (by decide) (by decide +kernel) (by decide) ?_
    exact case_36 hl9 q_1 h1 h2 g gn gb kP q_6 hr rr gm kI kA kY F q_11 k_12 hG
  by_cases j37 : j = 37
  · subst j37
    refine lv_tableIn (off := 2897) (tgt := 2937) hx hb dL_law_40 (by decide) (by decide) (by decide +kernel) (by decide) ?_
    exact case_37 hl9 q_1 h1 h2 g gn gb kP q_6 hr rr gm kI kA kY F q_11 k_12 hG
  by_cases j38 : j = 38
  · subst j38
    refine lv_tableIn (off := 2953) (tgt := 2993) hx hb dL_law_40 (by decide) (by decide) (by decide +kernel) (by decide) ?_
    exact case_38 hl9 q_1 h1 h2 g gn gb kP q_6 hr rr gm kI kA kY F q_11 k_12 hG
  by_cases j39 : j = 39
  · subst j39
    refine lv_tableIn (off := 3009) (tgt := 3049) hx hb dL_law_40 (by decide) (by decide) (by decide +kernel) (by decide) ?_
    exact case_39 hl9 q_1 h1 h2 g gn gb kP q_6 hr rr gm kI kA kY F q_11 k_12 hG
  by_cases j40 : j = 40
  · subst j40
    refine lv_tableIn (off := 3065) (tgt := 3105) hx hb dL_law_40 (by decide) (by decide) (by decide +kernel) (by decide) ?_
    exact case_40 hl9 q_1 h1 h2 g gn gb kP q_6 hr rr gm kI kA kY F q_11 k_12 hG
  by_cases j41 : j = 41
  · subst j41
    refine lv_tableIn (off := 3121) (tgt := 3161) hx hb dL_law_40 (by decide) (by decide) (by decide +kernel) (by decide) ?_
    exact case_41 hl9 q_1 h1 h2 g gn gb kP q_6 hr rr gm kI kA kY F q_11 k_12 hG
  by_cases j42 : j = 42
  · subst j42
    refine lv_tableIn (off := 3177) (tgt := 3217) hx hb dL_law_40 (by decide) (by decide) (by decide +kernel) (by decide) ?_
    exact case_42 hl9 q_1 h1 h2 g gn gb kP q_6 hr rr gm kI kA kY F q_11 k_12 hG
  by_cases j43 : j = 43
  · subst j43
    refine lv_tableIn (off := 3233) (tgt := 3273) hx hb dL_law_40 (by decide) (by decide) (by decide +kernel) (by decide) ?_
    exact case_43 hl9 q_1 h1 h2 g gn gb kP q_6 hr rr gm kI kA kY F q_11 k_12 hG
  by_cases j44 : j = 44
  · subst j44
    refine lv_tableIn (off := 3289) (tgt := 3329) hx hb dL_law_40 (by decide) (by decide) (by decide +kernel) (by decide) ?_
    exact case_44 hl9 q_1 h1 h2 g gn gb kP q_6 hr rr gm kI kA kY F q_11 k_12 hG
  by_cases j45 : j = 45
  · subst j45
    refine lv_tableIn (off := 3356) (tgt := 3396) hx hb dL_law_40 (by decide) (by decide) (by decide +kernel) (by decide) ?_
    exact case_45 hl9 q_1 h1 h2 g gn gb kP q_6 hr rr gm kI kA kY F q_11 k_12 hG
  by_cases j46 : j = 46
  · subst j46
    refine lv_tableIn (off := 3423) (tgt := 3463) hx hb dL_law_40 (by decide) (by decide) (by decide +kernel) (by decide) ?_
    exact case_46 hl9 q_1 h1 h2 g gn gb kP q_6 hr rr gm kI kA kY F q_11 k_12 hG
  by_cases j47 : j = 47
  · subst j47
    refine lv_tableIn (off := 3478) (tgt := 3518) hx hb dL_law_40 (by decide) (by decide) (by decide +kernel) (by decide) ?_
    exact case_47 hl9 q_1 h1 h2 g gn gb kP q_6 hr rr gm kI kA kY F q_11 k_12 hG
  by_cases j48 : j = 48
  · subst j48
    refine lv_tableIn (off := 3558) (tgt := 3598) hx hb dL_law_40 (by decide) (by decide) (by decide +kernel) (by decide) ?_
    by_cases hv : 0 ≤ xs 1 ∧ xs 1 ≤ 575999
    · exact case_48_ok hl9 q_1 h1 h2 g gn gb kP q_6 hr rr gm kI kA kY F q_11 k_12 hv hG
    · exact case_48_no hl9 q_1 h1 h2 g gn gb kP q_6 hr rr gm kI kA kY F q_11 k_12 hv hG
  by_cases j49 : j = 49
  · subst j49
    refine lv_tableIn (off := 3614) (tgt := 3654) hx hb dL_law_40 (by decide) (by decide) (by decide +kernel) (by decide) ?_
    exact case_49 hl9 q_1 h1 h2 g gn gb kP q_6 hr rr gm kI kA kY F q_11 k_12 hG
  by_cases j50 : j = 50
  · subst j50
    refine lv_tableIn (off := 3681) (tgt := 3721) hx hb dL_law_40 (by decide) (by decide) (by decide +kernel) (by decide) ?_
    exact case_50 hl9 q_1 h1 h2 g gn gb kP q_6 hr rr gm kI kA kY F q_11 k_12 hG
  by_cases j51 : j = 51
  · subst j51
    refine lv_tableIn (off := 3749) (tgt := 3789) hx hb dL_law_40 (by decide) (by decide) (by decide +kernel) (by decide) ?_
    exact case_51 hl9 q_1 h1 h2 g gn gb kP q_6 hr rr gm kI kA kY F q_11 k_12 hG
  by_cases j52 : j = 52
  · subst j52
    refine lv_tableIn (off := 3805) (tgt := 3845) hx hb dL_law_40 (by decide) (by decide) (by decide +kernel) (by decide) ?_
    exact case_52 hl9 q_1 h1 h2 g gn gb kP q_6 hr rr gm kI kA kY F q_11 k_12 hG
  by_cases j53 : j = 53
  · subst j53
    refine lv_tableIn (off := 3848) (tgt := 3888) hx hb dL_law_40 (by decide) (by decide) (by decide +kernel) (by decide) ?_
    by_cases hv0 : xs 1 = 0
    · exact case_53_0 hl9 q_1 h1 h2 g gn gb kP q_6 hr rr gm kI kA kY F q_11 k_12 hv0 hG
    by_cases hv1 : xs 1 = 1
    · exact case_53_1 hl9 q_1 h1 h2 g gn gb kP q_6 hr rr gm kI kA kY F q_11 k_12 hv1 hG
    exact case_53_e hl9 q_1 h1 h2 g gn gb kP q_6 hr rr gm kI kA kY F q_11 k_12 hv0 hv1 hG
  have h54 : 54 ≤ j := by omega
  refine lv_tableOut (tgt := 3913) hx hb dL_law_40 (Or.inr (by rw [nI_toInt (by omega)]; omega)) (by decide) ?_
  exact law_tail hx hb hr_ hlocks hX hbl hS (Nat.le_of_ble_eq_true rfl) (Nat.le_of_ble_eq_true rfl) (lv_sub hl [0, 4] rfl)
