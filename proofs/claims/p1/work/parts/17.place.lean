set_option maxRecDepth 100000 in
set_option maxHeartbeats 4000000 in
theorem c_Place (l : Launch) (D : va_G) (a1 a2 sz : Nat) (h0 : Nat) (p1 p2 p3 p4 : Int32) : Met l yX8_init (Cond.code yX8_init cX8_init 7 none :: WS) ({ frames := 10, cells := 1, slots := 600, locals := 200 }) (va_Pc [.ref h0, .int p1, .int p2, .int p3, .int p4] (pre D a1 a2 [(h0, .inr (8, [.int 0, .int 0, .int 0, .int 0, .int 0, .null]))] [] sz)) (va_Qv (S := List Value) (fun _ => True) (fun fs t => wat D (va_A [(h0, .inr (8, [.int 0, .int 0, .int 0, .int 0, .int 0, .null]))] sz) [(h0, .inr (8, fs))] t) (va_A [(h0, .inr (8, [.int 0, .int 0, .int 0, .int 0, .int 0, .null]))] sz)) 1 600 (va_A [(h0, .inr (8, [.int 0, .int 0, .int 0, .int 0, .int 0, .null]))] sz) := by
  refine open_Met (by decide +kernel) (Nat.le_of_ble_eq_true rfl) (fun A => va_Qv (S := List Value) (fun _ => True) (fun fs t => wat D A [(h0, .inr (8, fs))] t) A) ?_
  intro p e s m below meth c A ls hG
  obtain ⟨hx, hb, hr, hml, hown, hts, hlocks, hin, hP, hK, hD, hA, hE, hS, hl⟩ := hG
  have hown : s.vm.findClass RX8 = some m.cls := hown
  have hl : lv_has ls 7 [(0, .ref h0), (1, .int p1), (2, .int p2), (3, .int p3), (4, .int p4)] := hl
  refine lv_aload_n hx hb dX8_init_0 rfl (lv_at hl 0 rfl) ?_
  refine W.objInit hx hb hown (hts (.methodLink RX8 3 objectInit) w_283) (hts (.instanceMethod objectInit) w_284) (hts (.code objectInit ⟨#[0xb1]⟩ 1 none) w_285) rfl (by rw [hml]; exact hl.1) rfl dX8_init_1 (Nat.le_of_ble_eq_true rfl) (Nat.le_of_ble_eq_true rfl) ?_
  refine W.eq (g2 := F0 m 4 ls []) rfl ?_
  refine lv_aload_n hx hb dX8_init_4 rfl (lv_at hl 0 rfl) ?_
  refine lv_iload_n hx hb dX8_init_5 rfl (lv_at hl 1 rfl) ?_
  refine va_putF (D := D) (ci := 8) (v := .int p1) (ty := .int) (C := RX8) (T := TX8) (N := 6) hx hb hts inX8 tyX8 tyX8_ok nmX8 hown hK hP hD hS 0 rfl rfl 0 (by decide) (hts (.fieldLink RX8 9 "AbroadRouter$Place" "offset" "I") w_286) (fun _ h9 => h9) rfl hin rfl (by decide +kernel) rfl rfl (Nat.le_of_ble_eq_true rfl) dX8_init_6 (fun H locs hP hD hS => ?_)
  have hP : va_P D vwCl [(h0, .inr (8, [.int p1, .int 0, .int 0, .int 0, .int 0, .null]))] H := hP
  have hD : va_D A [(h0, .inr (8, [.int p1, .int 0, .int 0, .int 0, .int 0, .null]))] := hD
  refine lv_aload_n hx hb dX8_init_9 rfl (lv_at hl 0 rfl) ?_
  refine lv_iload_n hx hb dX8_init_10 rfl (lv_at hl 2 rfl) ?_
  refine va_putF (D := D) (ci := 8) (v := .int p2) (ty := .int) (C := RX8) (T := TX8) (N := 6) hx hb hts inX8 tyX8 tyX8_ok nmX8 hown hK hP hD hS 0 rfl rfl 1 (by decide) (hts (.fieldLink RX8 15 "AbroadRouter$Place" "off" "I") w_287) (fun _ h9 => h9) rfl hin rfl (by decide +kernel) rfl rfl (Nat.le_of_ble_eq_true rfl) dX8_init_11 (fun H locs hP hD hS => ?_)
  have hP : va_P D vwCl [(h0, .inr (8, [.int p1, .int p2, .int 0, .int 0, .int 0, .null]))] H := hP
  have hD : va_D A [(h0, .inr (8, [.int p1, .int p2, .int 0, .int 0, .int 0, .null]))] := hD
  refine lv_aload_n hx hb dX8_init_14 rfl (lv_at hl 0 rfl) ?_
  refine lv_iload_n hx hb dX8_init_15 rfl (lv_at hl 3 rfl) ?_
  refine va_putF (D := D) (ci := 8) (v := .int p3) (ty := .int) (C := RX8) (T := TX8) (N := 6) hx hb hts inX8 tyX8 tyX8_ok nmX8 hown hK hP hD hS 0 rfl rfl 2 (by decide) (hts (.fieldLink RX8 18 "AbroadRouter$Place" "opens" "I") w_288) (fun _ h9 => h9) rfl hin rfl (by decide +kernel) rfl rfl (Nat.le_of_ble_eq_true rfl) dX8_init_16 (fun H locs hP hD hS => ?_)
  have hP : va_P D vwCl [(h0, .inr (8, [.int p1, .int p2, .int p3, .int 0, .int 0, .null]))] H := hP
  have hD : va_D A [(h0, .inr (8, [.int p1, .int p2, .int p3, .int 0, .int 0, .null]))] := hD
  refine lv_aload_n hx hb dX8_init_19 rfl (lv_at hl 0 rfl) ?_
  refine lv_iload hx hb dX8_init_20 (lv_at hl 4 rfl) ?_
  refine va_putF (D := D) (ci := 8) (v := .int p4) (ty := .int) (C := RX8) (T := TX8) (N := 6) hx hb hts inX8 tyX8 tyX8_ok nmX8 hown hK hP hD hS 0 rfl rfl 3 (by decide) (hts (.fieldLink RX8 21 "AbroadRouter$Place" "shuts" "I") w_289) (fun _ h9 => h9) rfl hin rfl (by decide +kernel) rfl rfl (Nat.le_of_ble_eq_true rfl) dX8_init_22 (fun H locs hP hD hS => ?_)
  have hP : va_P D vwCl [(h0, .inr (8, [.int p1, .int p2, .int p3, .int p4, .int 0, .null]))] H := hP
  have hD : va_D A [(h0, .inr (8, [.int p1, .int p2, .int p3, .int p4, .int 0, .null]))] := hD
  refine lv_aload_n hx hb dX8_init_25 rfl (lv_at hl 0 rfl) ?_
  refine lv_sipush (v := 600) hx hb dX8_init_26 (by decide) ?_
  refine va_newa (atype := .boolean) (ty := .boolean) (a0 := (600, .inl (fun _ => 0))) hx hb (hts (.arrayClass .boolean) w_290) rfl hK hP hD hS hA (fun _ => rfl) (by decide) (by decide) (Nat.le_of_ble_eq_true rfl) (Nat.le_of_ble_eq_true rfl) (Nat.le_of_ble_eq_true rfl) dX8_init_29 (fun q_1 k_2 H hK hP hD hS => ?_)
  have hP : va_P D vwCl [(h0, .inr (8, [.int p1, .int p2, .int p3, .int p4, .int 0, .null])), (q_1, .inl (k_2, 600, .inl (fun _ => 0)))] H := hP
  have hD : va_D A [(h0, .inr (8, [.int p1, .int p2, .int p3, .int p4, .int 0, .null])), (q_1, .inl (k_2, 600, .inl (fun _ => 0)))] := hD
  have hK : va_K D vwCl [(k_2, .boolean)] s := hK
  refine va_putF (D := D) (ci := 8) (v := .ref q_1) (ty := .array .boolean) (C := RX8) (T := TX8) (N := 6) hx hb hts inX8 tyX8 tyX8_ok nmX8 hown hK hP hD hS 0 rfl rfl 5 (by decide) (hts (.fieldLink RX8 24 "AbroadRouter$Place" "works" "[Z") w_291) (fun _ h9 => h9) rfl hin rfl (by decide +kernel) rfl rfl (Nat.le_of_ble_eq_true rfl) dX8_init_31 (fun H locs hP hD hS => ?_)
  have hP : va_P D vwCl [(h0, .inr (8, [.int p1, .int p2, .int p3, .int p4, .int 0, .ref q_1])), (q_1, .inl (k_2, 600, .inl (fun _ => 0)))] H := hP
  have hD : va_D A [(h0, .inr (8, [.int p1, .int p2, .int p3, .int p4, .int 0, .ref q_1])), (q_1, .inl (k_2, 600, .inl (fun _ => 0)))] := hD
  refine lv_iconst (v := 0) hx hb dX8_init_34 (by decide) ?_
  refine lv_istore (lv' := [(5, .int 0), (0, .ref h0), (1, .int p1), (2, .int p2), (3, .int p3), (4, .int p4)]) hx hb dX8_init_35 hl (by decide) rfl (fun ls hl => ?_)
  refine W.widen (k := 1) (n := 600) (Nat.le_of_ble_eq_true rfl) (Nat.le_of_ble_eq_true rfl) ?_
  have loop : ∀ (n i : Nat), i ≤ 600 → 600 < i + n → ∀ (f : Nat → Int32) (H : Heap) (locs : List Loc), va_P D vwCl [(h0, .inr (8, [.int p1, .int p2, .int p3, .int p4, .int 0, .ref q_1])), (q_1, .inl (k_2, 600, .inl f))] H → va_D A [(h0, .inr (8, [.int p1, .int p2, .int p3, .int p4, .int 0, .ref q_1])), (q_1, .inl (k_2, 600, .inl f))] → va_S A s.heap H locs → ∀ ls : Array Slot, lv_has ls 7 [(5, .int (nI i)), (0, .ref h0), (2, .int p2)] → W p l e ({ frames := 10, cells := 1, slots := 600, locals := 200 }) s m (([.ref h0, .int p1, .int p2, .int p3, .int p4] : List Value).toArray) below meth c H locs 1 600 (MQ below (va_Qv (S := List Value) (fun _ => True) (fun fs t => wat D A [(h0, .inr (8, fs))] t) A) (([.ref h0, .int p1, .int p2, .int p3, .int p4] : List Value).toArray) s 1 600 A) (F0 m 37 ls []) := by
    intro n
    induction n with
    | zero => intro i h1 h2; exact absurd h2 (by omega)
    | succ n ih =>
      intro i hi hn f H locs hP hD hS ls hl
      refine lv_iload hx hb dX8_init_37 (lv_at hl 0 rfl) ?_
      refine lv_aload_n hx hb dX8_init_39 rfl (lv_at hl 1 rfl) ?_
      refine va_get (D := D) (ci := 8) (v := .ref q_1) (C := RX8) (T := TX8) (N := 6) hx hb hts inX8 hown hK hP 0 rfl rfl 5 (by decide) (hts (.fieldLink RX8 24 "AbroadRouter$Place" "works" "[Z") w_291) (fun _ h9 => h9) rfl dX8_init_40 ?_
      refine va_alen hx hb hK hP 1 0 rfl rfl (v := nI 600) rfl dX8_init_43 ?_
      refine lv_icmp_ge (tgt := 86) hx hb dX8_init_44 (by decide) (fun c1 => ?_) (fun c1 => ?_)
      · exact W.vret hx hb hr (fun t ht hW => ⟨⟨[.int p1, .int p2, .int p3, .int p4, .int 0, .ref q_1], rfl, trivial, by rw [ht]; exact hP.sub [0] rfl, hD.sub [0] (by decide) rfl⟩, hS.F ht⟩) hS.2.2 dX8_init_86
      · have hlt : i < 600 := by
          rcases Nat.lt_or_ge i 600 with h | h
          · exact h
          · exact absurd (nI_le h (by omega)) c1
        refine lv_iload hx hb dX8_init_47 (lv_at hl 0 rfl) ?_
        refine lv_iconst (v := -1) hx hb dX8_init_49 (by decide) ?_
        refine lv_iadd hx hb dX8_init_50 ?_
        refine lv_topi (fun x1 _ => ?_)
        refine lv_bipush (v := 7) hx hb dX8_init_51 (by decide) ?_
        refine lv_iadd hx hb dX8_init_53 ?_
        refine lv_topi (fun x2 _ => ?_)
        refine lv_bipush (v := 7) hx hb dX8_init_54 (by decide) ?_
        refine lv_irem hx hb dX8_init_56 (by decide) ?_
        refine lv_topi (fun x3 _ => ?_)
        refine lv_istore (lv' := [(6, .int x3), (5, .int (nI i)), (0, .ref h0), (2, .int p2)]) hx hb dX8_init_57 hl (by decide) rfl (fun ls hl => ?_)
        refine lv_aload_n hx hb dX8_init_59 rfl (lv_at hl 2 rfl) ?_
        refine va_get (D := D) (ci := 8) (v := .ref q_1) (C := RX8) (T := TX8) (N := 6) hx hb hts inX8 hown hK hP 0 rfl rfl 5 (by decide) (hts (.fieldLink RX8 24 "AbroadRouter$Place" "works" "[Z") w_291) (fun _ h9 => h9) rfl dX8_init_60 ?_
        refine lv_iload hx hb dX8_init_63 (lv_at hl 1 rfl) ?_
        refine lv_iload_n hx hb dX8_init_65 rfl (lv_at hl 3 rfl) ?_
        refine lv_iload hx hb dX8_init_66 (lv_at hl 0 rfl) ?_
        refine lv_ishr hx hb dX8_init_68 ?_
        refine lv_topi (fun x4 _ => ?_)
        refine lv_iconst (v := 1) hx hb dX8_init_69 (by decide) ?_
        refine lv_iand hx hb dX8_init_70 ?_
        refine lv_topi (fun x5 _ => ?_)
        refine lv_if_ne (tgt := 78) hx hb dX8_init_71 (by decide) (fun c2 => ?_) (fun c2 => ?_)
        · refine lv_iconst (v := 0) hx hb dX8_init_78 (by decide) ?_
          refine va_zast hx hb hK hP hD hS 1 0 rfl rfl (vp_in_nI hlt (by omega)) dX8_init_79 (fun H locs hP hD hS => ?_)
          refine lv_iinc (v := nI (i + 1)) (lv' := [(5, .int (nI (i + 1))), (6, .int x3), (0, .ref h0), (2, .int p2)]) hx hb dX8_init_80 hl (k := 1) rfl (nI_1 i) (by decide) rfl (fun ls hl => ?_)
          refine lv_goto (tgt := 37) hx hb dX8_init_83 (by decide) ?_
          exact ih (i + 1) hlt (by omega) _ H locs hP hD hS ls (lv_sub hl [0, 2, 3] rfl)
        · refine lv_iconst (v := 1) hx hb dX8_init_74 (by decide) ?_
          refine lv_goto (tgt := 79) hx hb dX8_init_75 (by decide) ?_
          refine va_zast hx hb hK hP hD hS 1 0 rfl rfl (vp_in_nI hlt (by omega)) dX8_init_79 (fun H locs hP hD hS => ?_)
          refine lv_iinc (v := nI (i + 1)) (lv' := [(5, .int (nI (i + 1))), (6, .int x3), (0, .ref h0), (2, .int p2)]) hx hb dX8_init_80 hl (k := 1) rfl (nI_1 i) (by decide) rfl (fun ls hl => ?_)
          refine lv_goto (tgt := 37) hx hb dX8_init_83 (by decide) ?_
          exact ih (i + 1) hlt (by omega) _ H locs hP hD hS ls (lv_sub hl [0, 2, 3] rfl)
  exact loop 601 0 (Nat.zero_le _) (by omega) _ H locs hP hD hS ls (lv_sub hl [0, 1, 3] rfl)
set_option maxRecDepth 100000 in
set_option maxHeartbeats 4000000 in
theorem c_addPlace (l : Launch) (D : va_G) (a1 a2 sz : Nat) (h1 : Nat) (gn : Nat → Nat) (kP : ClassId) (p1 p2 p3 p4 : Int32) : Met l yX6_addPlace (Cond.code yX6_addPlace cX6_addPlace 5 (some .int) :: WS) ({ frames := 12, cells := 2, slots := 606, locals := 300 }) (va_Pc [.ref h1, .int p1, .int p2, .int p3, .int p4] (pre D a1 a2 [(h1, .inr (6, [.ref (gn 0), .int 0, .ref (gn 2), .ref (gn 3), .int 0, .ref (gn 5), .int 0, .int 0])), (gn 0, .inl (kP, 6, .inr (.inr (.inr (.inr (fun _ => none))))))] [(kP, .object RX8)] sz)) (va_Qi (S := Unit) (fun r _ => r = 0) (fun _ _ => True) (va_A [(h1, .inr (6, [.ref (gn 0), .int 0, .ref (gn 2), .ref (gn 3), .int 0, .ref (gn 5), .int 0, .int 0])), (gn 0, .inl (kP, 6, .inr (.inr (.inr (.inr (fun _ => none))))))] sz)) 2 606 (va_A [(h1, .inr (6, [.ref (gn 0), .int 0, .ref (gn 2), .ref (gn 3), .int 0, .ref (gn 5), .int 0, .int 0])), (gn 0, .inl (kP, 6, .inr (.inr (.inr (.inr (fun _ => none))))))] sz) := by
  refine open_Met (by decide +kernel) (Nat.le_of_ble_eq_true rfl) (fun A => va_Qi (S := Unit) (fun r _ => r = 0) (fun _ _ => True) A) ?_
  intro p e s m below meth c A ls hG
  obtain ⟨hx, hb, hr, hml, hown, hts, hlocks, hin, hP, hK, hD, hA, hE, hS, hl⟩ := hG
  have hown : s.vm.findClass RX6 = some m.cls := hown
  have hl : lv_has ls 5 [(0, .ref h1), (1, .int p1), (2, .int p2), (3, .int p3), (4, .int p4)] := hl
  refine lv_aload_n hx hb dX6_addPlace_0 rfl (lv_at hl 0 rfl) ?_
  refine va_get (D := D) (ci := 6) (v := .int 0) (C := RX6) (T := TX6) (N := 8) hx hb hts inX6 hown hK hP 0 rfl rfl 1 (by decide) (hts (.fieldLink RX6 31 "AbroadRouter$Net" "placeCount" "I") w_292) (fun _ h9 => h9) rfl dX6_addPlace_1 ?_
  refine lv_bipush (v := 6) hx hb dX6_addPlace_4 (by decide) ?_
  refine lv_icmp_lt (tgt := 11) hx hb dX6_addPlace_6 (by decide) (fun _ => ?_) (fun c => absurd (by decide) c)
  refine lv_aload_n hx hb dX6_addPlace_11 rfl (lv_at hl 0 rfl) ?_
  refine va_get (D := D) (ci := 6) (v := .ref (gn 0)) (C := RX6) (T := TX6) (N := 8) hx hb hts inX6 hown hK hP 0 rfl rfl 0 (by decide) (hts (.fieldLink RX6 11 "AbroadRouter$Net" "places" "[LAbroadRouter$Place;") w_293) (fun _ h9 => h9) rfl dX6_addPlace_12 ?_
  refine lv_aload_n hx hb dX6_addPlace_15 rfl (lv_at hl 0 rfl) ?_
  refine va_get (D := D) (ci := 6) (v := .int 0) (C := RX6) (T := TX6) (N := 8) hx hb hts inX6 hown hK hP 0 rfl rfl 1 (by decide) (hts (.fieldLink RX6 31 "AbroadRouter$Net" "placeCount" "I") w_292) (fun _ h9 => h9) rfl dX6_addPlace_16 ?_
  refine va_new (ci := 8) (fs := [.int 0, .int 0, .int 0, .int 0, .int 0, .null]) (C := RX8) (T := TX8) (N := 6) hx hb hts inX8 tyX8 tyX8_ok hown (hts (.classLink RX6 9 RX8) w_294) (hts (.instantiable RX8 6) w_295) (hts (.initialized RX8) w_296) hK hP hD hS hA rfl (by decide) (Nat.le_of_ble_eq_true rfl) (Nat.le_of_ble_eq_true rfl) dX6_addPlace_19 (fun q_1 H hP hD hS => ?_)
  have hP : va_P D vwCl [(h1, .inr (6, [.ref (gn 0), .int 0, .ref (gn 2), .ref (gn 3), .int 0, .ref (gn 5), .int 0, .int 0])), (gn 0, .inl (kP, 6, .inr (.inr (.inr (.inr (fun _ => none)))))), (q_1, .inr (8, [.int 0, .int 0, .int 0, .int 0, .int 0, .null]))] H := hP
  have hD : va_D A [(h1, .inr (6, [.ref (gn 0), .int 0, .ref (gn 2), .ref (gn 3), .int 0, .ref (gn 5), .int 0, .int 0])), (gn 0, .inl (kP, 6, .inr (.inr (.inr (.inr (fun _ => none)))))), (q_1, .inr (8, [.int 0, .int 0, .int 0, .int 0, .int 0, .null]))] := hD
  refine lv_dup hx hb dX6_addPlace_22 rfl ?_
  refine lv_iload_n hx hb dX6_addPlace_23 rfl (lv_at hl 1 rfl) ?_
  refine lv_iload_n hx hb dX6_addPlace_24 rfl (lv_at hl 2 rfl) ?_
  refine lv_iload_n hx hb dX6_addPlace_25 rfl (lv_at hl 3 rfl) ?_
  refine lv_iload hx hb dX6_addPlace_26 (lv_at hl 4 rfl) ?_
  have f_2 := free_of (wc := [(q_1, .inr (8, [.int 0, .int 0, .int 0, .int 0, .int 0, .null]))]) hD hS hA [2] rfl
  refine va_callv (va_runI (As := [.int p1, .int p2, .int p3, .int p4]) (rest := [.ref q_1, .int 0, .ref (gn 0)]) ⟨hx, hb, hml, hown, hts⟩ (c_Place l D a1 a2 H.size q_1 p1 p2 p3 p4) (cwI 4 hts (gI w_298) rfl rfl rfl (hts _ w_296) (hts _ w_299) (hts _ w_297) rfl (by decide +kernel) ⟨Nat.le_of_ble_eq_true rfl, Nat.le_of_ble_eq_true rfl⟩) (pre_S hK hP hD hS hA hE [2] rfl (by decide) rfl [] rfl) rfl rfl hl.1 rfl (lv_room (Nat.le_of_ble_eq_true rfl)) dX6_addPlace_28 ⟨Nat.le_of_ble_eq_true rfl, Nat.le_of_ble_eq_true rfl⟩) hS (fun q _ h => f_2 q h) f_2 (fun u_4 t H1 locs ht hvm h_5 hB hz1 hk1 hS => ?_)
  obtain ⟨hP, hD⟩ := join (wc := [(q_1, .inr (8, [.int 0, .int 0, .int 0, .int 0, .int 0, .null]))]) (wr := [(h1, .inr (6, [.ref (gn 0), .int 0, .ref (gn 2), .ref (gn 3), .int 0, .ref (gn 5), .int 0, .int 0])), (gn 0, .inl (kP, 6, .inr (.inr (.inr (.inr (fun _ => none))))))]) (w1 := [(q_1, .inr (8, u_4))]) hP hD f_2 [2] [0, 1] rfl rfl (by decide) (by decide) hk1 ht hB
  generalize H1 = H at hP hS ⊢
  have hP : va_P D vwCl [(h1, .inr (6, [.ref (gn 0), .int 0, .ref (gn 2), .ref (gn 3), .int 0, .ref (gn 5), .int 0, .int 0])), (gn 0, .inl (kP, 6, .inr (.inr (.inr (.inr (fun _ => none)))))), (q_1, .inr (8, u_4))] H := hP
  have hD : va_D A [(h1, .inr (6, [.ref (gn 0), .int 0, .ref (gn 2), .ref (gn 3), .int 0, .ref (gn 5), .int 0, .int 0])), (gn 0, .inl (kP, 6, .inr (.inr (.inr (.inr (fun _ => none)))))), (q_1, .inr (8, u_4))] := hD
  refine va_astq hx hb hK hP hD hS 1 0 2 8 rfl rfl rfl rfl (by unfold vp_in; decide) dX6_addPlace_31 (fun H locs hP hD hS => ?_)
  have hP : va_P D vwCl [(h1, .inr (6, [.ref (gn 0), .int 0, .ref (gn 2), .ref (gn 3), .int 0, .ref (gn 5), .int 0, .int 0])), (gn 0, .inl (kP, 6, .inr (.inr (.inr (.inr (va_up (fun _ => none) 0 (some q_1))))))), (q_1, .inr (8, u_4))] H := hP
  have hD : va_D A [(h1, .inr (6, [.ref (gn 0), .int 0, .ref (gn 2), .ref (gn 3), .int 0, .ref (gn 5), .int 0, .int 0])), (gn 0, .inl (kP, 6, .inr (.inr (.inr (.inr (va_up (fun _ => none) 0 (some q_1))))))), (q_1, .inr (8, u_4))] := hD
  refine lv_aload_n hx hb dX6_addPlace_32 rfl (lv_at hl 0 rfl) ?_
  refine lv_dup hx hb dX6_addPlace_33 rfl ?_
  refine va_get (D := D) (ci := 6) (v := .int 0) (C := RX6) (T := TX6) (N := 8) hx hb hts inX6 hown hK hP 0 rfl rfl 1 (by decide) (hts (.fieldLink RX6 31 "AbroadRouter$Net" "placeCount" "I") w_292) (fun _ h9 => h9) rfl dX6_addPlace_34 ?_
  refine lv_iconst (v := 1) hx hb dX6_addPlace_37 (by decide) ?_
  refine lv_iadd hx hb dX6_addPlace_38 ?_
  refine lv_topi (fun x_6 ex_6 => ?_)
  obtain rfl : x_6 = 1 := ex_6.trans (by decide)
  refine va_put (D := D) (ci := 6) (v := .int 1) (ty := .int) (C := RX6) (T := TX6) (N := 8) hx hb hts inX6 tyX6 tyX6_ok nmX6 hown hK hP hD hS 0 rfl rfl 1 (by decide) (hts (.fieldLink RX6 31 "AbroadRouter$Net" "placeCount" "I") w_292) (fun _ h9 => h9) rfl (by decide +kernel) rfl rfl (Nat.le_of_ble_eq_true rfl) dX6_addPlace_39 (fun H locs hP hD hS => ?_)
  have hP : va_P D vwCl [(h1, .inr (6, [.ref (gn 0), .int 1, .ref (gn 2), .ref (gn 3), .int 0, .ref (gn 5), .int 0, .int 0])), (gn 0, .inl (kP, 6, .inr (.inr (.inr (.inr (va_up (fun _ => none) 0 (some q_1))))))), (q_1, .inr (8, u_4))] H := hP
  have hD : va_D A [(h1, .inr (6, [.ref (gn 0), .int 1, .ref (gn 2), .ref (gn 3), .int 0, .ref (gn 5), .int 0, .int 0])), (gn 0, .inl (kP, 6, .inr (.inr (.inr (.inr (va_up (fun _ => none) 0 (some q_1))))))), (q_1, .inr (8, u_4))] := hD
  refine lv_aload_n hx hb dX6_addPlace_42 rfl (lv_at hl 0 rfl) ?_
  refine va_get (D := D) (ci := 6) (v := .int 1) (C := RX6) (T := TX6) (N := 8) hx hb hts inX6 hown hK hP 0 rfl rfl 1 (by decide) (hts (.fieldLink RX6 31 "AbroadRouter$Net" "placeCount" "I") w_292) (fun _ h9 => h9) rfl dX6_addPlace_43 ?_
  refine lv_iconst (v := 1) hx hb dX6_addPlace_46 (by decide) ?_
  refine lv_isub hx hb dX6_addPlace_47 ?_
  refine lv_topi (fun x_7 ex_7 => ?_)
  obtain rfl : x_7 = 0 := ex_7.trans (by decide)
  refine W.widen (k := 2) (n := 606) (Nat.le_of_ble_eq_true rfl) (Nat.le_of_ble_eq_true rfl) ?_
  exact W.iret (v := 0) hx hb hr (fun t ht hW => ⟨⟨0, (), rfl, rfl, trivial⟩, hS.F ht⟩) hS.2.2 dX6_addPlace_48
set_option maxRecDepth 100000 in
set_option maxHeartbeats 4000000 in
theorem c_x_place_ok (l : Launch) (D : va_G) (a1 a2 sz : Nat) (h0 h1 h2 : Nat) (g gn gb : Nat → Nat) (kP : ClassId) (p1 p2 p3 p4 : Int32) (hv : ((-720 ≤ p1 ∧ p1 ≤ 840) ∧ (0 ≤ p2 ∧ p2 ≤ 126)) ∧ ((0 ≤ p3 ∧ p3 ≤ 1438) ∧ (p3 + 1 ≤ p4 ∧ p4 ≤ 1439))) : Met l yX11_place (Cond.code yX11_place cX11_place 5 (some .int) :: WS) ({ frames := 14, cells := 2, slots := 606, locals := 400 }) (va_Pc [.ref h0, .int p1, .int p2, .int p3, .int p4] (pre D a1 a2 [(h0, .inr (11, [.ref h1, .ref h2, .ref (g 2), .ref (g 3), .ref (g 4), .ref (g 5), .ref (g 6), .int 0, .int 0, .int 0, .int 0])), (h1, .inr (6, [.ref (gn 0), .int 0, .ref (gn 2), .ref (gn 3), .int 0, .ref (gn 5), .int 0, .int 0])), (h2, .inr (1, [.ref h1, .ref (gb 1), .int 0])), (gn 0, .inl (kP, 6, .inr (.inr (.inr (.inr (fun _ => none))))))] [(kP, .object RX8)] sz)) (va_Qi (S := Unit) (fun r _ => r = 0) (fun _ _ => True) (va_A [(h0, .inr (11, [.ref h1, .ref h2, .ref (g 2), .ref (g 3), .ref (g 4), .ref (g 5), .ref (g 6), .int 0, .int 0, .int 0, .int 0])), (h1, .inr (6, [.ref (gn 0), .int 0, .ref (gn 2), .ref (gn 3), .int 0, .ref (gn 5), .int 0, .int 0])), (h2, .inr (1, [.ref h1, .ref (gb 1), .int 0])), (gn 0, .inl (kP, 6, .inr (.inr (.inr (.inr (fun _ => none))))))] sz)) 2 606 (va_A [(h0, .inr (11, [.ref h1, .ref h2, .ref (g 2), .ref (g 3), .ref (g 4), .ref (g 5), .ref (g 6), .int 0, .int 0, .int 0, .int 0])), (h1, .inr (6, [.ref (gn 0), .int 0, .ref (gn 2), .ref (gn 3), .int 0, .ref (gn 5), .int 0, .int 0])), (h2, .inr (1, [.ref h1, .ref (gb 1), .int 0])), (gn 0, .inl (kP, 6, .inr (.inr (.inr (.inr (fun _ => none))))))] sz) := by
  refine open_Met (by decide +kernel) (Nat.le_of_ble_eq_true rfl) (fun A => va_Qi (S := Unit) (fun r _ => r = 0) (fun _ _ => True) A) ?_
  intro p e s m below meth c A ls hG
  obtain ⟨hx, hb, hr, hml, hown, hts, hlocks, hin, hP, hK, hD, hA, hE, hS, hl⟩ := hG
  have hown : s.vm.findClass RX11 = some m.cls := hown
  have hl : lv_has ls 5 [(0, .ref h0), (1, .int p1), (2, .int p2), (3, .int p3), (4, .int p4)] := hl
  refine lv_aload_n hx hb dX11_place_0 rfl (lv_at hl 0 rfl) ?_
  refine lv_iload_n hx hb dX11_place_1 rfl (lv_at hl 1 rfl) ?_
  refine lv_sipush (v := -720) hx hb dX11_place_2 (by decide) ?_
  refine lv_sipush (v := 840) hx hb dX11_place_5 (by decide) ?_
  have f_1 := free_of (wc := []) hD hS hA [] rfl
  refine va_calli (va_runS (As := [.int p1, .int (-720), .int 840]) (rest := [.ref h0]) ⟨hx, hb, hml, hown, hts⟩ (c_within_t l D a1 a2 s.heap.size (p1) (-720) (840) (hv.1.1)) (va_cwS 3 hts (gS w_9 w_10 w_8 w_11) rfl rfl rfl (by decide +kernel) ⟨Nat.le_of_ble_eq_true rfl, Nat.le_of_ble_eq_true rfl⟩) (pre_S hK hP hD hS hA hE [] rfl (by decide) rfl [] rfl) rfl rfl hl.1 rfl (lv_room (Nat.le_of_ble_eq_true rfl)) dX11_place_8 ⟨Nat.le_of_ble_eq_true rfl, Nat.le_of_ble_eq_true rfl⟩) hS (fun q _ h => f_1 q h) f_1 (fun r_2 u_3 t H1 locs ht hvm h_4 hB hz1 hk1 hS => ?_)
  obtain ⟨hP, hD⟩ := join (wc := []) (wr := [(h0, .inr (11, [.ref h1, .ref h2, .ref (g 2), .ref (g 3), .ref (g 4), .ref (g 5), .ref (g 6), .int 0, .int 0, .int 0, .int 0])), (h1, .inr (6, [.ref (gn 0), .int 0, .ref (gn 2), .ref (gn 3), .int 0, .ref (gn 5), .int 0, .int 0])), (h2, .inr (1, [.ref h1, .ref (gb 1), .int 0])), (gn 0, .inl (kP, 6, .inr (.inr (.inr (.inr (fun _ => none))))))]) (w1 := []) hP hD f_1 [] [0, 1, 2, 3] rfl rfl (by decide) (by decide) hk1 ht wat_nil
  generalize H1 = H at hP hS ⊢
  have hP : va_P D vwCl [(h0, .inr (11, [.ref h1, .ref h2, .ref (g 2), .ref (g 3), .ref (g 4), .ref (g 5), .ref (g 6), .int 0, .int 0, .int 0, .int 0])), (h1, .inr (6, [.ref (gn 0), .int 0, .ref (gn 2), .ref (gn 3), .int 0, .ref (gn 5), .int 0, .int 0])), (h2, .inr (1, [.ref h1, .ref (gb 1), .int 0])), (gn 0, .inl (kP, 6, .inr (.inr (.inr (.inr (fun _ => none))))))] H := hP
  have hD : va_D A [(h0, .inr (11, [.ref h1, .ref h2, .ref (g 2), .ref (g 3), .ref (g 4), .ref (g 5), .ref (g 6), .int 0, .int 0, .int 0, .int 0])), (h1, .inr (6, [.ref (gn 0), .int 0, .ref (gn 2), .ref (gn 3), .int 0, .ref (gn 5), .int 0, .int 0])), (h2, .inr (1, [.ref h1, .ref (gb 1), .int 0])), (gn 0, .inl (kP, 6, .inr (.inr (.inr (.inr (fun _ => none))))))] := hD
  obtain rfl := h_4
  refine lv_if_eq (tgt := 28) hx hb dX11_place_11 (by decide) (fun c => absurd c (by decide)) (fun _ => ?_)
  refine lv_iload_n hx hb dX11_place_14 rfl (lv_at hl 2 rfl) ?_
  refine lv_iconst (v := 0) hx hb dX11_place_15 (by decide) ?_
  refine lv_bipush (v := 126) hx hb dX11_place_16 (by decide) ?_
  have f_5 := free_of (wc := []) hD hS hA [] rfl
  refine va_calli (va_runS (As := [.int p2, .int 0, .int 126]) (rest := [.ref h0]) ⟨hx, hb, hml, hown, hts⟩ (c_within_t l D a1 a2 H.size (p2) (0) (126) (hv.1.2)) (va_cwS 3 hts (gS w_9 w_10 w_8 w_11) rfl rfl rfl (by decide +kernel) ⟨Nat.le_of_ble_eq_true rfl, Nat.le_of_ble_eq_true rfl⟩) (pre_S hK hP hD hS hA hE [] rfl (by decide) rfl [] rfl) rfl rfl hl.1 rfl (lv_room (Nat.le_of_ble_eq_true rfl)) dX11_place_18 ⟨Nat.le_of_ble_eq_true rfl, Nat.le_of_ble_eq_true rfl⟩) hS (fun q _ h => f_5 q h) f_5 (fun r_6 u_7 t H1 locs ht hvm h_8 hB hz1 hk1 hS => ?_)
  obtain ⟨hP, hD⟩ := join (wc := []) (wr := [(h0, .inr (11, [.ref h1, .ref h2, .ref (g 2), .ref (g 3), .ref (g 4), .ref (g 5), .ref (g 6), .int 0, .int 0, .int 0, .int 0])), (h1, .inr (6, [.ref (gn 0), .int 0, .ref (gn 2), .ref (gn 3), .int 0, .ref (gn 5), .int 0, .int 0])), (h2, .inr (1, [.ref h1, .ref (gb 1), .int 0])), (gn 0, .inl (kP, 6, .inr (.inr (.inr (.inr (fun _ => none))))))]) (w1 := []) hP hD f_5 [] [0, 1, 2, 3] rfl rfl (by decide) (by decide) hk1 ht wat_nil
  generalize H1 = H at hP hS ⊢
  have hP : va_P D vwCl [(h0, .inr (11, [.ref h1, .ref h2, .ref (g 2), .ref (g 3), .ref (g 4), .ref (g 5), .ref (g 6), .int 0, .int 0, .int 0, .int 0])), (h1, .inr (6, [.ref (gn 0), .int 0, .ref (gn 2), .ref (gn 3), .int 0, .ref (gn 5), .int 0, .int 0])), (h2, .inr (1, [.ref h1, .ref (gb 1), .int 0])), (gn 0, .inl (kP, 6, .inr (.inr (.inr (.inr (fun _ => none))))))] H := hP
  have hD : va_D A [(h0, .inr (11, [.ref h1, .ref h2, .ref (g 2), .ref (g 3), .ref (g 4), .ref (g 5), .ref (g 6), .int 0, .int 0, .int 0, .int 0])), (h1, .inr (6, [.ref (gn 0), .int 0, .ref (gn 2), .ref (gn 3), .int 0, .ref (gn 5), .int 0, .int 0])), (h2, .inr (1, [.ref h1, .ref (gb 1), .int 0])), (gn 0, .inl (kP, 6, .inr (.inr (.inr (.inr (fun _ => none))))))] := hD
  obtain rfl := h_8
  refine lv_if_eq (tgt := 28) hx hb dX11_place_21 (by decide) (fun c => absurd c (by decide)) (fun _ => ?_)
  refine lv_iconst (v := 1) hx hb dX11_place_24 (by decide) ?_
  refine lv_goto (tgt := 29) hx hb dX11_place_25 (by decide) ?_
  have f_9 := free_of (wc := []) hD hS hA [] rfl
  refine va_callv (va_runV (As := [.int 1]) (rest := []) ⟨hx, hb, hml, hown, hts⟩ (c_mustFit1 l D a1 a2 H.size h0) (cwV 1 hts (gV w_37 w_38 w_39 w_8 w_40) rfl rfl rfl (by decide +kernel) ⟨Nat.le_of_ble_eq_true rfl, Nat.le_of_ble_eq_true rfl⟩) (pre_V hK hP hD hS hA hE [] rfl (by decide) rfl [] rfl (ci := 11) (q0 := 0) rfl rfl) rfl rfl hl.1 rfl (lv_room (Nat.le_of_ble_eq_true rfl)) dX11_place_29 ⟨Nat.le_of_ble_eq_true rfl, Nat.le_of_ble_eq_true rfl⟩) hS (fun q _ h => f_9 q h) f_9 (fun u_11 t H1 locs ht hvm h_12 hB hz1 hk1 hS => ?_)
  obtain ⟨hP, hD⟩ := join (wc := []) (wr := [(h0, .inr (11, [.ref h1, .ref h2, .ref (g 2), .ref (g 3), .ref (g 4), .ref (g 5), .ref (g 6), .int 0, .int 0, .int 0, .int 0])), (h1, .inr (6, [.ref (gn 0), .int 0, .ref (gn 2), .ref (gn 3), .int 0, .ref (gn 5), .int 0, .int 0])), (h2, .inr (1, [.ref h1, .ref (gb 1), .int 0])), (gn 0, .inl (kP, 6, .inr (.inr (.inr (.inr (fun _ => none))))))]) (w1 := []) hP hD f_9 [] [0, 1, 2, 3] rfl rfl (by decide) (by decide) hk1 ht wat_nil
  generalize H1 = H at hP hS ⊢
  have hP : va_P D vwCl [(h0, .inr (11, [.ref h1, .ref h2, .ref (g 2), .ref (g 3), .ref (g 4), .ref (g 5), .ref (g 6), .int 0, .int 0, .int 0, .int 0])), (h1, .inr (6, [.ref (gn 0), .int 0, .ref (gn 2), .ref (gn 3), .int 0, .ref (gn 5), .int 0, .int 0])), (h2, .inr (1, [.ref h1, .ref (gb 1), .int 0])), (gn 0, .inl (kP, 6, .inr (.inr (.inr (.inr (fun _ => none))))))] H := hP
  have hD : va_D A [(h0, .inr (11, [.ref h1, .ref h2, .ref (g 2), .ref (g 3), .ref (g 4), .ref (g 5), .ref (g 6), .int 0, .int 0, .int 0, .int 0])), (h1, .inr (6, [.ref (gn 0), .int 0, .ref (gn 2), .ref (gn 3), .int 0, .ref (gn 5), .int 0, .int 0])), (h2, .inr (1, [.ref h1, .ref (gb 1), .int 0])), (gn 0, .inl (kP, 6, .inr (.inr (.inr (.inr (fun _ => none))))))] := hD
  refine lv_aload_n hx hb dX11_place_32 rfl (lv_at hl 0 rfl) ?_
  refine lv_iload_n hx hb dX11_place_33 rfl (lv_at hl 3 rfl) ?_
  refine lv_iconst (v := 0) hx hb dX11_place_34 (by decide) ?_
  refine lv_sipush (v := 1438) hx hb dX11_place_35 (by decide) ?_
  have f_13 := free_of (wc := []) hD hS hA [] rfl
  refine va_calli (va_runS (As := [.int p3, .int 0, .int 1438]) (rest := [.ref h0]) ⟨hx, hb, hml, hown, hts⟩ (c_within_t l D a1 a2 H.size (p3) (0) (1438) (hv.2.1)) (va_cwS 3 hts (gS w_9 w_10 w_8 w_11) rfl rfl rfl (by decide +kernel) ⟨Nat.le_of_ble_eq_true rfl, Nat.le_of_ble_eq_true rfl⟩) (pre_S hK hP hD hS hA hE [] rfl (by decide) rfl [] rfl) rfl rfl hl.1 rfl (lv_room (Nat.le_of_ble_eq_true rfl)) dX11_place_38 ⟨Nat.le_of_ble_eq_true rfl, Nat.le_of_ble_eq_true rfl⟩) hS (fun q _ h => f_13 q h) f_13 (fun r_14 u_15 t H1 locs ht hvm h_16 hB hz1 hk1 hS => ?_)
  obtain ⟨hP, hD⟩ := join (wc := []) (wr := [(h0, .inr (11, [.ref h1, .ref h2, .ref (g 2), .ref (g 3), .ref (g 4), .ref (g 5), .ref (g 6), .int 0, .int 0, .int 0, .int 0])), (h1, .inr (6, [.ref (gn 0), .int 0, .ref (gn 2), .ref (gn 3), .int 0, .ref (gn 5), .int 0, .int 0])), (h2, .inr (1, [.ref h1, .ref (gb 1), .int 0])), (gn 0, .inl (kP, 6, .inr (.inr (.inr (.inr (fun _ => none))))))]) (w1 := []) hP hD f_13 [] [0, 1, 2, 3] rfl rfl (by decide) (by decide) hk1 ht wat_nil
  generalize H1 = H at hP hS ⊢
  have hP : va_P D vwCl [(h0, .inr (11, [.ref h1, .ref h2, .ref (g 2), .ref (g 3), .ref (g 4), .ref (g 5), .ref (g 6), .int 0, .int 0, .int 0, .int 0])), (h1, .inr (6, [.ref (gn 0), .int 0, .ref (gn 2), .ref (gn 3), .int 0, .ref (gn 5), .int 0, .int 0])), (h2, .inr (1, [.ref h1, .ref (gb 1), .int 0])), (gn 0, .inl (kP, 6, .inr (.inr (.inr (.inr (fun _ => none))))))] H := hP
  have hD : va_D A [(h0, .inr (11, [.ref h1, .ref h2, .ref (g 2), .ref (g 3), .ref (g 4), .ref (g 5), .ref (g 6), .int 0, .int 0, .int 0, .int 0])), (h1, .inr (6, [.ref (gn 0), .int 0, .ref (gn 2), .ref (gn 3), .int 0, .ref (gn 5), .int 0, .int 0])), (h2, .inr (1, [.ref h1, .ref (gb 1), .int 0])), (gn 0, .inl (kP, 6, .inr (.inr (.inr (.inr (fun _ => none))))))] := hD
  obtain rfl := h_16
  refine lv_if_eq (tgt := 62) hx hb dX11_place_41 (by decide) (fun c => absurd c (by decide)) (fun _ => ?_)
  refine lv_iload hx hb dX11_place_44 (lv_at hl 4 rfl) ?_
  refine lv_iload_n hx hb dX11_place_46 rfl (lv_at hl 3 rfl) ?_
  refine lv_iconst (v := 1) hx hb dX11_place_47 (by decide) ?_
  refine lv_iadd hx hb dX11_place_48 ?_
  refine lv_topi (fun x_17 ex_17 => ?_)
  refine lv_sipush (v := 1439) hx hb dX11_place_49 (by decide) ?_
  have f_18 := free_of (wc := []) hD hS hA [] rfl
  refine va_calli (va_runS (As := [.int p4, .int x_17, .int 1439]) (rest := [.ref h0]) ⟨hx, hb, hml, hown, hts⟩ (c_within_t l D a1 a2 H.size (p4) (x_17) (1439) (by rw [ex_17]; exact hv.2.2)) (va_cwS 3 hts (gS w_9 w_10 w_8 w_11) rfl rfl rfl (by decide +kernel) ⟨Nat.le_of_ble_eq_true rfl, Nat.le_of_ble_eq_true rfl⟩) (pre_S hK hP hD hS hA hE [] rfl (by decide) rfl [] rfl) rfl rfl hl.1 rfl (lv_room (Nat.le_of_ble_eq_true rfl)) dX11_place_52 ⟨Nat.le_of_ble_eq_true rfl, Nat.le_of_ble_eq_true rfl⟩) hS (fun q _ h => f_18 q h) f_18 (fun r_19 u_20 t H1 locs ht hvm h_21 hB hz1 hk1 hS => ?_)
  obtain ⟨hP, hD⟩ := join (wc := []) (wr := [(h0, .inr (11, [.ref h1, .ref h2, .ref (g 2), .ref (g 3), .ref (g 4), .ref (g 5), .ref (g 6), .int 0, .int 0, .int 0, .int 0])), (h1, .inr (6, [.ref (gn 0), .int 0, .ref (gn 2), .ref (gn 3), .int 0, .ref (gn 5), .int 0, .int 0])), (h2, .inr (1, [.ref h1, .ref (gb 1), .int 0])), (gn 0, .inl (kP, 6, .inr (.inr (.inr (.inr (fun _ => none))))))]) (w1 := []) hP hD f_18 [] [0, 1, 2, 3] rfl rfl (by decide) (by decide) hk1 ht wat_nil
  generalize H1 = H at hP hS ⊢
  have hP : va_P D vwCl [(h0, .inr (11, [.ref h1, .ref h2, .ref (g 2), .ref (g 3), .ref (g 4), .ref (g 5), .ref (g 6), .int 0, .int 0, .int 0, .int 0])), (h1, .inr (6, [.ref (gn 0), .int 0, .ref (gn 2), .ref (gn 3), .int 0, .ref (gn 5), .int 0, .int 0])), (h2, .inr (1, [.ref h1, .ref (gb 1), .int 0])), (gn 0, .inl (kP, 6, .inr (.inr (.inr (.inr (fun _ => none))))))] H := hP
  have hD : va_D A [(h0, .inr (11, [.ref h1, .ref h2, .ref (g 2), .ref (g 3), .ref (g 4), .ref (g 5), .ref (g 6), .int 0, .int 0, .int 0, .int 0])), (h1, .inr (6, [.ref (gn 0), .int 0, .ref (gn 2), .ref (gn 3), .int 0, .ref (gn 5), .int 0, .int 0])), (h2, .inr (1, [.ref h1, .ref (gb 1), .int 0])), (gn 0, .inl (kP, 6, .inr (.inr (.inr (.inr (fun _ => none))))))] := hD
  obtain rfl := h_21
  refine lv_if_eq (tgt := 62) hx hb dX11_place_55 (by decide) (fun c => absurd c (by decide)) (fun _ => ?_)
  refine lv_iconst (v := 1) hx hb dX11_place_58 (by decide) ?_
  refine lv_goto (tgt := 63) hx hb dX11_place_59 (by decide) ?_
  have f_22 := free_of (wc := []) hD hS hA [] rfl
  refine va_callv (va_runV (As := [.int 1]) (rest := []) ⟨hx, hb, hml, hown, hts⟩ (c_mustFit1 l D a1 a2 H.size h0) (cwV 1 hts (gV w_37 w_38 w_39 w_8 w_40) rfl rfl rfl (by decide +kernel) ⟨Nat.le_of_ble_eq_true rfl, Nat.le_of_ble_eq_true rfl⟩) (pre_V hK hP hD hS hA hE [] rfl (by decide) rfl [] rfl (ci := 11) (q0 := 0) rfl rfl) rfl rfl hl.1 rfl (lv_room (Nat.le_of_ble_eq_true rfl)) dX11_place_63 ⟨Nat.le_of_ble_eq_true rfl, Nat.le_of_ble_eq_true rfl⟩) hS (fun q _ h => f_22 q h) f_22 (fun u_24 t H1 locs ht hvm h_25 hB hz1 hk1 hS => ?_)
  obtain ⟨hP, hD⟩ := join (wc := []) (wr := [(h0, .inr (11, [.ref h1, .ref h2, .ref (g 2), .ref (g 3), .ref (g 4), .ref (g 5), .ref (g 6), .int 0, .int 0, .int 0, .int 0])), (h1, .inr (6, [.ref (gn 0), .int 0, .ref (gn 2), .ref (gn 3), .int 0, .ref (gn 5), .int 0, .int 0])), (h2, .inr (1, [.ref h1, .ref (gb 1), .int 0])), (gn 0, .inl (kP, 6, .inr (.inr (.inr (.inr (fun _ => none))))))]) (w1 := []) hP hD f_22 [] [0, 1, 2, 3] rfl rfl (by decide) (by decide) hk1 ht wat_nil
  generalize H1 = H at hP hS ⊢
  have hP : va_P D vwCl [(h0, .inr (11, [.ref h1, .ref h2, .ref (g 2), .ref (g 3), .ref (g 4), .ref (g 5), .ref (g 6), .int 0, .int 0, .int 0, .int 0])), (h1, .inr (6, [.ref (gn 0), .int 0, .ref (gn 2), .ref (gn 3), .int 0, .ref (gn 5), .int 0, .int 0])), (h2, .inr (1, [.ref h1, .ref (gb 1), .int 0])), (gn 0, .inl (kP, 6, .inr (.inr (.inr (.inr (fun _ => none))))))] H := hP
  have hD : va_D A [(h0, .inr (11, [.ref h1, .ref h2, .ref (g 2), .ref (g 3), .ref (g 4), .ref (g 5), .ref (g 6), .int 0, .int 0, .int 0, .int 0])), (h1, .inr (6, [.ref (gn 0), .int 0, .ref (gn 2), .ref (gn 3), .int 0, .ref (gn 5), .int 0, .int 0])), (h2, .inr (1, [.ref h1, .ref (gb 1), .int 0])), (gn 0, .inl (kP, 6, .inr (.inr (.inr (.inr (fun _ => none))))))] := hD
  refine lv_aload_n hx hb dX11_place_66 rfl (lv_at hl 0 rfl) ?_
  refine va_get (D := D) (ci := 11) (v := .ref h1) (C := RX11) (T := TX11) (N := 11) hx hb hts inX11 hown hK hP 0 rfl rfl 0 (by decide) (hts (.fieldLink RX11 10 "AbroadRouter" "net" "LAbroadRouter$Net;") w_6) (fun _ h9 => h9) rfl dX11_place_67 ?_
  refine lv_iload_n hx hb dX11_place_70 rfl (lv_at hl 1 rfl) ?_
  refine lv_iload_n hx hb dX11_place_71 rfl (lv_at hl 2 rfl) ?_
  refine lv_iload_n hx hb dX11_place_72 rfl (lv_at hl 3 rfl) ?_
  refine lv_iload hx hb dX11_place_73 (lv_at hl 4 rfl) ?_
  have f_26 := free_of (wc := [(h1, .inr (6, [.ref (gn 0), .int 0, .ref (gn 2), .ref (gn 3), .int 0, .ref (gn 5), .int 0, .int 0])), (gn 0, .inl (kP, 6, .inr (.inr (.inr (.inr (fun _ => none))))))]) hD hS hA [1, 3] rfl
  refine va_calli (va_runV (As := [.int p1, .int p2, .int p3, .int p4]) (rest := []) ⟨hx, hb, hml, hown, hts⟩ (c_addPlace l D a1 a2 H.size h1 gn kP p1 p2 p3 p4) (cwV 4 hts (gV w_301 w_302 w_303 w_300 w_304) rfl rfl rfl (by decide +kernel) ⟨Nat.le_of_ble_eq_true rfl, Nat.le_of_ble_eq_true rfl⟩) (pre_V hK hP hD hS hA hE [1, 3] rfl (by decide) rfl [0] rfl (ci := 6) (q0 := 1) rfl rfl) rfl rfl hl.1 rfl (lv_room (Nat.le_of_ble_eq_true rfl)) dX11_place_75 ⟨Nat.le_of_ble_eq_true rfl, Nat.le_of_ble_eq_true rfl⟩) hS (fun q _ h => f_26 q h) f_26 (fun r_27 u_28 t H1 locs ht hvm h_29 hB hz1 hk1 hS => ?_)
  obtain ⟨hP, hD⟩ := join (wc := [(h1, .inr (6, [.ref (gn 0), .int 0, .ref (gn 2), .ref (gn 3), .int 0, .ref (gn 5), .int 0, .int 0])), (gn 0, .inl (kP, 6, .inr (.inr (.inr (.inr (fun _ => none))))))]) (wr := [(h0, .inr (11, [.ref h1, .ref h2, .ref (g 2), .ref (g 3), .ref (g 4), .ref (g 5), .ref (g 6), .int 0, .int 0, .int 0, .int 0])), (h2, .inr (1, [.ref h1, .ref (gb 1), .int 0]))]) (w1 := []) hP hD f_26 [1, 3] [0, 2] rfl rfl (by decide) (by decide) hk1 ht wat_nil
  generalize H1 = H at hP hS ⊢
  have hP : va_P D vwCl [(h0, .inr (11, [.ref h1, .ref h2, .ref (g 2), .ref (g 3), .ref (g 4), .ref (g 5), .ref (g 6), .int 0, .int 0, .int 0, .int 0])), (h2, .inr (1, [.ref h1, .ref (gb 1), .int 0]))] H := hP
  have hD : va_D A [(h0, .inr (11, [.ref h1, .ref h2, .ref (g 2), .ref (g 3), .ref (g 4), .ref (g 5), .ref (g 6), .int 0, .int 0, .int 0, .int 0])), (h2, .inr (1, [.ref h1, .ref (gb 1), .int 0]))] := hD
  obtain rfl := h_29
  refine W.widen (k := 2) (n := 606) (Nat.le_of_ble_eq_true rfl) (Nat.le_of_ble_eq_true rfl) ?_
  exact W.iret (v := 0) hx hb hr (fun t ht hW => ⟨⟨0, (), rfl, rfl, trivial⟩, hS.F ht⟩) hS.2.2 dX11_place_78
set_option maxRecDepth 100000 in
set_option maxHeartbeats 4000000 in
theorem c_x_place (l : Launch) (hl9 : l.stackTraces = false) (D : va_G) (a1 a2 sz : Nat) (h0 h1 h2 : Nat) (g gn gb : Nat → Nat) (p1 p2 p3 p4 : Int32) (hv : ¬ (((-720 ≤ p1 ∧ p1 ≤ 840) ∧ (0 ≤ p2 ∧ p2 ≤ 126)) ∧ ((0 ≤ p3 ∧ p3 ≤ 1438) ∧ (p3 + 1 ≤ p4 ∧ p4 ≤ 1439)))) : vx_Met l yX11_place (Cond.code yX11_place cX11_place 5 (some .int) :: WS) ({ frames := 14, cells := 1, slots := 6, locals := 400 }) (va_Pc [.ref h0, .int p1, .int p2, .int p3, .int p4] (pre D a1 a2 [(h0, .inr (11, [.ref h1, .ref h2, .ref (g 2), .ref (g 3), .ref (g 4), .ref (g 5), .ref (g 6), .int 0, .int 0, .int 0, .int 0])), (h1, .inr (6, [.ref (gn 0), .int 0, .ref (gn 2), .ref (gn 3), .int 0, .ref (gn 5), .int 0, .int 0])), (h2, .inr (1, [.ref h1, .ref (gb 1), .int 0]))] [] sz)) (fun _ _ _ _ => False) (thr "java/lang/IllegalArgumentException" (va_A [(h0, .inr (11, [.ref h1, .ref h2, .ref (g 2), .ref (g 3), .ref (g 4), .ref (g 5), .ref (g 6), .int 0, .int 0, .int 0, .int 0])), (h1, .inr (6, [.ref (gn 0), .int 0, .ref (gn 2), .ref (gn 3), .int 0, .ref (gn 5), .int 0, .int 0])), (h2, .inr (1, [.ref h1, .ref (gb 1), .int 0]))] sz)) 1 6 (va_A [(h0, .inr (11, [.ref h1, .ref h2, .ref (g 2), .ref (g 3), .ref (g 4), .ref (g 5), .ref (g 6), .int 0, .int 0, .int 0, .int 0])), (h1, .inr (6, [.ref (gn 0), .int 0, .ref (gn 2), .ref (gn 3), .int 0, .ref (gn 5), .int 0, .int 0])), (h2, .inr (1, [.ref h1, .ref (gb 1), .int 0]))] sz) := by
  refine open_vx (by decide +kernel) (Nat.le_of_ble_eq_true rfl) (fun A => fun _ _ _ _ => False) (fun A => thr "java/lang/IllegalArgumentException" A) ?_
  intro p e s m below meth c A ls hG
  obtain ⟨⟨hx, hb, hr, hml, hown, hts, hlocks, hin, hP, hK, hD, hA, hE, hS, hl⟩, hno⟩ := hG
  have hown : s.vm.findClass RX11 = some m.cls := hown
  have hl : lv_has ls 5 [(0, .ref h0), (1, .int p1), (2, .int p2), (3, .int p3), (4, .int p4)] := hl
  refine lv_aload_n hx hb dX11_place_0 rfl (lv_at hl 0 rfl) ?_
  refine lv_iload_n hx hb dX11_place_1 rfl (lv_at hl 1 rfl) ?_
  refine lv_sipush (v := -720) hx hb dX11_place_2 (by decide) ?_
  refine lv_sipush (v := 840) hx hb dX11_place_5 (by decide) ?_
  by_cases hc_1 : -720 ≤ p1 ∧ p1 ≤ 840
  · have f_2 := free_of (wc := []) hD hS hA [] rfl
    refine va_calli (va_runS (As := [.int p1, .int (-720), .int 840]) (rest := [.ref h0]) ⟨hx, hb, hml, hown, hts⟩ (c_within_t l D a1 a2 s.heap.size (p1) (-720) (840) hc_1) (va_cwS 3 hts (gS w_9 w_10 w_8 w_11) rfl rfl rfl (by decide +kernel) ⟨Nat.le_of_ble_eq_true rfl, Nat.le_of_ble_eq_true rfl⟩) (pre_S hK hP hD hS hA hE [] rfl (by decide) rfl [] rfl) rfl rfl hl.1 rfl (lv_room (Nat.le_of_ble_eq_true rfl)) dX11_place_8 ⟨Nat.le_of_ble_eq_true rfl, Nat.le_of_ble_eq_true rfl⟩) hS (fun q _ h => f_2 q h) f_2 (fun r_3 u_4 t H1 locs ht hvm h_5 hB hz1 hk1 hS => ?_)
    obtain ⟨hP, hD⟩ := join (wc := []) (wr := [(h0, .inr (11, [.ref h1, .ref h2, .ref (g 2), .ref (g 3), .ref (g 4), .ref (g 5), .ref (g 6), .int 0, .int 0, .int 0, .int 0])), (h1, .inr (6, [.ref (gn 0), .int 0, .ref (gn 2), .ref (gn 3), .int 0, .ref (gn 5), .int 0, .int 0])), (h2, .inr (1, [.ref h1, .ref (gb 1), .int 0]))]) (w1 := []) hP hD f_2 [] [0, 1, 2] rfl rfl (by decide) (by decide) hk1 ht wat_nil
    generalize H1 = H at hP hS ⊢
    have hP : va_P D vwCl [(h0, .inr (11, [.ref h1, .ref h2, .ref (g 2), .ref (g 3), .ref (g 4), .ref (g 5), .ref (g 6), .int 0, .int 0, .int 0, .int 0])), (h1, .inr (6, [.ref (gn 0), .int 0, .ref (gn 2), .ref (gn 3), .int 0, .ref (gn 5), .int 0, .int 0])), (h2, .inr (1, [.ref h1, .ref (gb 1), .int 0]))] H := hP
    have hD : va_D A [(h0, .inr (11, [.ref h1, .ref h2, .ref (g 2), .ref (g 3), .ref (g 4), .ref (g 5), .ref (g 6), .int 0, .int 0, .int 0, .int 0])), (h1, .inr (6, [.ref (gn 0), .int 0, .ref (gn 2), .ref (gn 3), .int 0, .ref (gn 5), .int 0, .int 0])), (h2, .inr (1, [.ref h1, .ref (gb 1), .int 0]))] := hD
    obtain rfl := h_5
    refine lv_if_eq (tgt := 28) hx hb dX11_place_11 (by decide) (fun c => absurd c (by decide)) (fun _ => ?_)
    refine lv_iload_n hx hb dX11_place_14 rfl (lv_at hl 2 rfl) ?_
    refine lv_iconst (v := 0) hx hb dX11_place_15 (by decide) ?_
    refine lv_bipush (v := 126) hx hb dX11_place_16 (by decide) ?_
    by_cases hc_6 : 0 ≤ p2 ∧ p2 ≤ 126
    · have f_7 := free_of (wc := []) hD hS hA [] rfl
      refine va_calli (va_runS (As := [.int p2, .int 0, .int 126]) (rest := [.ref h0]) ⟨hx, hb, hml, hown, hts⟩ (c_within_t l D a1 a2 H.size (p2) (0) (126) hc_6) (va_cwS 3 hts (gS w_9 w_10 w_8 w_11) rfl rfl rfl (by decide +kernel) ⟨Nat.le_of_ble_eq_true rfl, Nat.le_of_ble_eq_true rfl⟩) (pre_S hK hP hD hS hA hE [] rfl (by decide) rfl [] rfl) rfl rfl hl.1 rfl (lv_room (Nat.le_of_ble_eq_true rfl)) dX11_place_18 ⟨Nat.le_of_ble_eq_true rfl, Nat.le_of_ble_eq_true rfl⟩) hS (fun q _ h => f_7 q h) f_7 (fun r_8 u_9 t H1 locs ht hvm h_10 hB hz1 hk1 hS => ?_)
      obtain ⟨hP, hD⟩ := join (wc := []) (wr := [(h0, .inr (11, [.ref h1, .ref h2, .ref (g 2), .ref (g 3), .ref (g 4), .ref (g 5), .ref (g 6), .int 0, .int 0, .int 0, .int 0])), (h1, .inr (6, [.ref (gn 0), .int 0, .ref (gn 2), .ref (gn 3), .int 0, .ref (gn 5), .int 0, .int 0])), (h2, .inr (1, [.ref h1, .ref (gb 1), .int 0]))]) (w1 := []) hP hD f_7 [] [0, 1, 2] rfl rfl (by decide) (by decide) hk1 ht wat_nil
      generalize H1 = H at hP hS ⊢
      have hP : va_P D vwCl [(h0, .inr (11, [.ref h1, .ref h2, .ref (g 2), .ref (g 3), .ref (g 4), .ref (g 5), .ref (g 6), .int 0, .int 0, .int 0, .int 0])), (h1, .inr (6, [.ref (gn 0), .int 0, .ref (gn 2), .ref (gn 3), .int 0, .ref (gn 5), .int 0, .int 0])), (h2, .inr (1, [.ref h1, .ref (gb 1), .int 0]))] H := hP
      have hD : va_D A [(h0, .inr (11, [.ref h1, .ref h2, .ref (g 2), .ref (g 3), .ref (g 4), .ref (g 5), .ref (g 6), .int 0, .int 0, .int 0, .int 0])), (h1, .inr (6, [.ref (gn 0), .int 0, .ref (gn 2), .ref (gn 3), .int 0, .ref (gn 5), .int 0, .int 0])), (h2, .inr (1, [.ref h1, .ref (gb 1), .int 0]))] := hD
      obtain rfl := h_10
      refine lv_if_eq (tgt := 28) hx hb dX11_place_21 (by decide) (fun c => absurd c (by decide)) (fun _ => ?_)
      refine lv_iconst (v := 1) hx hb dX11_place_24 (by decide) ?_
      refine lv_goto (tgt := 29) hx hb dX11_place_25 (by decide) ?_
      have f_11 := free_of (wc := []) hD hS hA [] rfl
      refine va_callv (va_runV (As := [.int 1]) (rest := []) ⟨hx, hb, hml, hown, hts⟩ (c_mustFit1 l D a1 a2 H.size h0) (cwV 1 hts (gV w_37 w_38 w_39 w_8 w_40) rfl rfl rfl (by decide +kernel) ⟨Nat.le_of_ble_eq_true rfl, Nat.le_of_ble_eq_true rfl⟩) (pre_V hK hP hD hS hA hE [] rfl (by decide) rfl [] rfl (ci := 11) (q0 := 0) rfl rfl) rfl rfl hl.1 rfl (lv_room (Nat.le_of_ble_eq_true rfl)) dX11_place_29 ⟨Nat.le_of_ble_eq_true rfl, Nat.le_of_ble_eq_true rfl⟩) hS (fun q _ h => f_11 q h) f_11 (fun u_13 t H1 locs ht hvm h_14 hB hz1 hk1 hS => ?_)
      obtain ⟨hP, hD⟩ := join (wc := []) (wr := [(h0, .inr (11, [.ref h1, .ref h2, .ref (g 2), .ref (g 3), .ref (g 4), .ref (g 5), .ref (g 6), .int 0, .int 0, .int 0, .int 0])), (h1, .inr (6, [.ref (gn 0), .int 0, .ref (gn 2), .ref (gn 3), .int 0, .ref (gn 5), .int 0, .int 0])), (h2, .inr (1, [.ref h1, .ref (gb 1), .int 0]))]) (w1 := []) hP hD f_11 [] [0, 1, 2] rfl rfl (by decide) (by decide) hk1 ht wat_nil
      generalize H1 = H at hP hS ⊢
      have hP : va_P D vwCl [(h0, .inr (11, [.ref h1, .ref h2, .ref (g 2), .ref (g 3), .ref (g 4), .ref (g 5), .ref (g 6), .int 0, .int 0, .int 0, .int 0])), (h1, .inr (6, [.ref (gn 0), .int 0, .ref (gn 2), .ref (gn 3), .int 0, .ref (gn 5), .int 0, .int 0])), (h2, .inr (1, [.ref h1, .ref (gb 1), .int 0]))] H := hP
      have hD : va_D A [(h0, .inr (11, [.ref h1, .ref h2, .ref (g 2), .ref (g 3), .ref (g 4), .ref (g 5), .ref (g 6), .int 0, .int 0, .int 0, .int 0])), (h1, .inr (6, [.ref (gn 0), .int 0, .ref (gn 2), .ref (gn 3), .int 0, .ref (gn 5), .int 0, .int 0])), (h2, .inr (1, [.ref h1, .ref (gb 1), .int 0]))] := hD
      refine lv_aload_n hx hb dX11_place_32 rfl (lv_at hl 0 rfl) ?_
      refine lv_iload_n hx hb dX11_place_33 rfl (lv_at hl 3 rfl) ?_
      refine lv_iconst (v := 0) hx hb dX11_place_34 (by decide) ?_
      refine lv_sipush (v := 1438) hx hb dX11_place_35 (by decide) ?_
      by_cases hc_15 : 0 ≤ p3 ∧ p3 ≤ 1438
      · have f_16 := free_of (wc := []) hD hS hA [] rfl
        refine va_calli (va_runS (As := [.int p3, .int 0, .int 1438]) (rest := [.ref h0]) ⟨hx, hb, hml, hown, hts⟩ (c_within_t l D a1 a2 H.size (p3) (0) (1438) hc_15) (va_cwS 3 hts (gS w_9 w_10 w_8 w_11) rfl rfl rfl (by decide +kernel) ⟨Nat.le_of_ble_eq_true rfl, Nat.le_of_ble_eq_true rfl⟩) (pre_S hK hP hD hS hA hE [] rfl (by decide) rfl [] rfl) rfl rfl hl.1 rfl (lv_room (Nat.le_of_ble_eq_true rfl)) dX11_place_38 ⟨Nat.le_of_ble_eq_true rfl, Nat.le_of_ble_eq_true rfl⟩) hS (fun q _ h => f_16 q h) f_16 (fun r_17 u_18 t H1 locs ht hvm h_19 hB hz1 hk1 hS => ?_)
        obtain ⟨hP, hD⟩ := join (wc := []) (wr := [(h0, .inr (11, [.ref h1, .ref h2, .ref (g 2), .ref (g 3), .ref (g 4), .ref (g 5), .ref (g 6), .int 0, .int 0, .int 0, .int 0])), (h1, .inr (6, [.ref (gn 0), .int 0, .ref (gn 2), .ref (gn 3), .int 0, .ref (gn 5), .int 0, .int 0])), (h2, .inr (1, [.ref h1, .ref (gb 1), .int 0]))]) (w1 := []) hP hD f_16 [] [0, 1, 2] rfl rfl (by decide) (by decide) hk1 ht wat_nil
        generalize H1 = H at hP hS ⊢
        have hP : va_P D vwCl [(h0, .inr (11, [.ref h1, .ref h2, .ref (g 2), .ref (g 3), .ref (g 4), .ref (g 5), .ref (g 6), .int 0, .int 0, .int 0, .int 0])), (h1, .inr (6, [.ref (gn 0), .int 0, .ref (gn 2), .ref (gn 3), .int 0, .ref (gn 5), .int 0, .int 0])), (h2, .inr (1, [.ref h1, .ref (gb 1), .int 0]))] H := hP
        have hD : va_D A [(h0, .inr (11, [.ref h1, .ref h2, .ref (g 2), .ref (g 3), .ref (g 4), .ref (g 5), .ref (g 6), .int 0, .int 0, .int 0, .int 0])), (h1, .inr (6, [.ref (gn 0), .int 0, .ref (gn 2), .ref (gn 3), .int 0, .ref (gn 5), .int 0, .int 0])), (h2, .inr (1, [.ref h1, .ref (gb 1), .int 0]))] := hD
        obtain rfl := h_19
        refine lv_if_eq (tgt := 62) hx hb dX11_place_41 (by decide) (fun c => absurd c (by decide)) (fun _ => ?_)
        refine lv_iload hx hb dX11_place_44 (lv_at hl 4 rfl) ?_
        refine lv_iload_n hx hb dX11_place_46 rfl (lv_at hl 3 rfl) ?_
        refine lv_iconst (v := 1) hx hb dX11_place_47 (by decide) ?_
        refine lv_iadd hx hb dX11_place_48 ?_
        refine lv_topi (fun x_20 ex_20 => ?_)
        refine lv_sipush (v := 1439) hx hb dX11_place_49 (by decide) ?_
        by_cases hc_21 : x_20 ≤ p4 ∧ p4 ≤ 1439
        · have f_22 := free_of (wc := []) hD hS hA [] rfl
          refine va_calli (va_runS (As := [.int p4, .int x_20, .int 1439]) (rest := [.ref h0]) ⟨hx, hb, hml, hown, hts⟩ (c_within_t l D a1 a2 H.size (p4) (x_20) (1439) hc_21) (va_cwS 3 hts (gS w_9 w_10 w_8 w_11) rfl rfl rfl (by decide +kernel) ⟨Nat.le_of_ble_eq_true rfl, Nat.le_of_ble_eq_true rfl⟩) (pre_S hK hP hD hS hA hE [] rfl (by decide) rfl [] rfl) rfl rfl hl.1 rfl (lv_room (Nat.le_of_ble_eq_true rfl)) dX11_place_52 ⟨Nat.le_of_ble_eq_true rfl, Nat.le_of_ble_eq_true rfl⟩) hS (fun q _ h => f_22 q h) f_22 (fun r_23 u_24 t H1 locs ht hvm h_25 hB hz1 hk1 hS => ?_)
          obtain ⟨hP, hD⟩ := join (wc := []) (wr := [(h0, .inr (11, [.ref h1, .ref h2, .ref (g 2), .ref (g 3), .ref (g 4), .ref (g 5), .ref (g 6), .int 0, .int 0, .int 0, .int 0])), (h1, .inr (6, [.ref (gn 0), .int 0, .ref (gn 2), .ref (gn 3), .int 0, .ref (gn 5), .int 0, .int 0])), (h2, .inr (1, [.ref h1, .ref (gb 1), .int 0]))]) (w1 := []) hP hD f_22 [] [0, 1, 2] rfl rfl (by decide) (by decide) hk1 ht wat_nil
          generalize H1 = H at hP hS ⊢
          have hP : va_P D vwCl [(h0, .inr (11, [.ref h1, .ref h2, .ref (g 2), .ref (g 3), .ref (g 4), .ref (g 5), .ref (g 6), .int 0, .int 0, .int 0, .int 0])), (h1, .inr (6, [.ref (gn 0), .int 0, .ref (gn 2), .ref (gn 3), .int 0, .ref (gn 5), .int 0, .int 0])), (h2, .inr (1, [.ref h1, .ref (gb 1), .int 0]))] H := hP
          have hD : va_D A [(h0, .inr (11, [.ref h1, .ref h2, .ref (g 2), .ref (g 3), .ref (g 4), .ref (g 5), .ref (g 6), .int 0, .int 0, .int 0, .int 0])), (h1, .inr (6, [.ref (gn 0), .int 0, .ref (gn 2), .ref (gn 3), .int 0, .ref (gn 5), .int 0, .int 0])), (h2, .inr (1, [.ref h1, .ref (gb 1), .int 0]))] := hD
          obtain rfl := h_25
          refine lv_if_eq (tgt := 62) hx hb dX11_place_55 (by decide) (fun c => absurd c (by decide)) (fun _ => ?_)
          exact absurd ⟨⟨hc_1, hc_6⟩, hc_15, by rw [← ex_20]; exact hc_21⟩ hv
        · have f_26 := free_of (wc := []) hD hS hA [] rfl
          refine va_calli (va_runS (As := [.int p4, .int x_20, .int 1439]) (rest := [.ref h0]) ⟨hx, hb, hml, hown, hts⟩ (c_within_f l D a1 a2 H.size (p4) (x_20) (1439) hc_21) (va_cwS 3 hts (gS w_9 w_10 w_8 w_11) rfl rfl rfl (by decide +kernel) ⟨Nat.le_of_ble_eq_true rfl, Nat.le_of_ble_eq_true rfl⟩) (pre_S hK hP hD hS hA hE [] rfl (by decide) rfl [] rfl) rfl rfl hl.1 rfl (lv_room (Nat.le_of_ble_eq_true rfl)) dX11_place_52 ⟨Nat.le_of_ble_eq_true rfl, Nat.le_of_ble_eq_true rfl⟩) hS (fun q _ h => f_26 q h) f_26 (fun r_27 u_28 t H1 locs ht hvm h_29 hB hz1 hk1 hS => ?_)
          obtain ⟨hP, hD⟩ := join (wc := []) (wr := [(h0, .inr (11, [.ref h1, .ref h2, .ref (g 2), .ref (g 3), .ref (g 4), .ref (g 5), .ref (g 6), .int 0, .int 0, .int 0, .int 0])), (h1, .inr (6, [.ref (gn 0), .int 0, .ref (gn 2), .ref (gn 3), .int 0, .ref (gn 5), .int 0, .int 0])), (h2, .inr (1, [.ref h1, .ref (gb 1), .int 0]))]) (w1 := []) hP hD f_26 [] [0, 1, 2] rfl rfl (by decide) (by decide) hk1 ht wat_nil
          generalize H1 = H at hP hS ⊢
          have hP : va_P D vwCl [(h0, .inr (11, [.ref h1, .ref h2, .ref (g 2), .ref (g 3), .ref (g 4), .ref (g 5), .ref (g 6), .int 0, .int 0, .int 0, .int 0])), (h1, .inr (6, [.ref (gn 0), .int 0, .ref (gn 2), .ref (gn 3), .int 0, .ref (gn 5), .int 0, .int 0])), (h2, .inr (1, [.ref h1, .ref (gb 1), .int 0]))] H := hP
          have hD : va_D A [(h0, .inr (11, [.ref h1, .ref h2, .ref (g 2), .ref (g 3), .ref (g 4), .ref (g 5), .ref (g 6), .int 0, .int 0, .int 0, .int 0])), (h1, .inr (6, [.ref (gn 0), .int 0, .ref (gn 2), .ref (gn 3), .int 0, .ref (gn 5), .int 0, .int 0])), (h2, .inr (1, [.ref h1, .ref (gb 1), .int 0]))] := hD
          obtain rfl := h_29
          refine lv_if_eq (tgt := 62) hx hb dX11_place_55 (by decide) (fun _ => ?_) (fun c => absurd (by decide) c)
          refine lv_iconst (v := 0) hx hb dX11_place_62 (by decide) ?_
          have f_30 := free_of (wc := [(h0, .inr (11, [.ref h1, .ref h2, .ref (g 2), .ref (g 3), .ref (g 4), .ref (g 5), .ref (g 6), .int 0, .int 0, .int 0, .int 0]))]) hD hS hA [0] rfl
          refine never (vx_runV (As := [.int 0]) (rest := []) ⟨hx, hb, hml, hown, hts⟩ (c_mustFit0 l hl9 D a1 a2 H.size h0 h1 h2 g gn gb) (cwV 1 hts (gV w_37 w_38 w_39 w_8 w_40) rfl rfl rfl (by decide +kernel) ⟨Nat.le_of_ble_eq_true rfl, Nat.le_of_ble_eq_true rfl⟩) (pre_V hK hP hD hS hA hE [0] rfl (by decide) rfl [] rfl (ci := 11) (q0 := 0) rfl rfl) rfl rfl hl.1 rfl (lv_room (Nat.le_of_ble_eq_true rfl)) dX11_place_63 ⟨Nat.le_of_ble_eq_true rfl, Nat.le_of_ble_eq_true rfl⟩) (fun _ _ _ h => h) hS f_30 (fun q _ h => f_30 q h) (fun E ce q9 u9 t H locs ht hvm hw hB hz1 hk1 hS hce hcv hcl => ?_)
          subst hB
          exact vx_out (fun x hx => (hno x hx).elim) hlocks hce hcv hcl (fun t ht hvm => ⟨(), trivial, rfl, hS.F ht⟩) hS.2.2 (Nat.le_of_ble_eq_true rfl) (Nat.le_of_ble_eq_true rfl)
      · have f_34 := free_of (wc := []) hD hS hA [] rfl
        refine va_calli (va_runS (As := [.int p3, .int 0, .int 1438]) (rest := [.ref h0]) ⟨hx, hb, hml, hown, hts⟩ (c_within_f l D a1 a2 H.size (p3) (0) (1438) hc_15) (va_cwS 3 hts (gS w_9 w_10 w_8 w_11) rfl rfl rfl (by decide +kernel) ⟨Nat.le_of_ble_eq_true rfl, Nat.le_of_ble_eq_true rfl⟩) (pre_S hK hP hD hS hA hE [] rfl (by decide) rfl [] rfl) rfl rfl hl.1 rfl (lv_room (Nat.le_of_ble_eq_true rfl)) dX11_place_38 ⟨Nat.le_of_ble_eq_true rfl, Nat.le_of_ble_eq_true rfl⟩) hS (fun q _ h => f_34 q h) f_34 (fun r_35 u_36 t H1 locs ht hvm h_37 hB hz1 hk1 hS => ?_)
        obtain ⟨hP, hD⟩ := join (wc := []) (wr := [(h0, .inr (11, [.ref h1, .ref h2, .ref (g 2), .ref (g 3), .ref (g 4), .ref (g 5), .ref (g 6), .int 0, .int 0, .int 0, .int 0])), (h1, .inr (6, [.ref (gn 0), .int 0, .ref (gn 2), .ref (gn 3), .int 0, .ref (gn 5), .int 0, .int 0])), (h2, .inr (1, [.ref h1, .ref (gb 1), .int 0]))]) (w1 := []) hP hD f_34 [] [0, 1, 2] rfl rfl (by decide) (by decide) hk1 ht wat_nil
        generalize H1 = H at hP hS ⊢
        have hP : va_P D vwCl [(h0, .inr (11, [.ref h1, .ref h2, .ref (g 2), .ref (g 3), .ref (g 4), .ref (g 5), .ref (g 6), .int 0, .int 0, .int 0, .int 0])), (h1, .inr (6, [.ref (gn 0), .int 0, .ref (gn 2), .ref (gn 3), .int 0, .ref (gn 5), .int 0, .int 0])), (h2, .inr (1, [.ref h1, .ref (gb 1), .int 0]))] H := hP
        have hD : va_D A [(h0, .inr (11, [.ref h1, .ref h2, .ref (g 2), .ref (g 3), .ref (g 4), .ref (g 5), .ref (g 6), .int 0, .int 0, .int 0, .int 0])), (h1, .inr (6, [.ref (gn 0), .int 0, .ref (gn 2), .ref (gn 3), .int 0, .ref (gn 5), .int 0, .int 0])), (h2, .inr (1, [.ref h1, .ref (gb 1), .int 0]))] := hD
        obtain rfl := h_37
        refine lv_if_eq (tgt := 62) hx hb dX11_place_41 (by decide) (fun _ => ?_) (fun c => absurd (by decide) c)
        refine lv_iconst (v := 0) hx hb dX11_place_62 (by decide) ?_
        have f_38 := free_of (wc := [(h0, .inr (11, [.ref h1, .ref h2, .ref (g 2), .ref (g 3), .ref (g 4), .ref (g 5), .ref (g 6), .int 0, .int 0, .int 0, .int 0]))]) hD hS hA [0] rfl
        refine never (vx_runV (As := [.int 0]) (rest := []) ⟨hx, hb, hml, hown, hts⟩ (c_mustFit0 l hl9 D a1 a2 H.size h0 h1 h2 g gn gb) (cwV 1 hts (gV w_37 w_38 w_39 w_8 w_40) rfl rfl rfl (by decide +kernel) ⟨Nat.le_of_ble_eq_true rfl, Nat.le_of_ble_eq_true rfl⟩) (pre_V hK hP hD hS hA hE [0] rfl (by decide) rfl [] rfl (ci := 11) (q0 := 0) rfl rfl) rfl rfl hl.1 rfl (lv_room (Nat.le_of_ble_eq_true rfl)) dX11_place_63 ⟨Nat.le_of_ble_eq_true rfl, Nat.le_of_ble_eq_true rfl⟩) (fun _ _ _ h => h) hS f_38 (fun q _ h => f_38 q h) (fun E ce q9 u9 t H locs ht hvm hw hB hz1 hk1 hS hce hcv hcl => ?_)
        subst hB
        exact vx_out (fun x hx => (hno x hx).elim) hlocks hce hcv hcl (fun t ht hvm => ⟨(), trivial, rfl, hS.F ht⟩) hS.2.2 (Nat.le_of_ble_eq_true rfl) (Nat.le_of_ble_eq_true rfl)
    · have f_42 := free_of (wc := []) hD hS hA [] rfl
      refine va_calli (va_runS (As := [.int p2, .int 0, .int 126]) (rest := [.ref h0]) ⟨hx, hb, hml, hown, hts⟩ (c_within_f l D a1 a2 H.size (p2) (0) (126) hc_6) (va_cwS 3 hts (gS w_9 w_10 w_8 w_11) rfl rfl rfl (by decide +kernel) ⟨Nat.le_of_ble_eq_true rfl, Nat.le_of_ble_eq_true rfl⟩) (pre_S hK hP hD hS hA hE [] rfl (by decide) rfl [] rfl) rfl rfl hl.1 rfl (lv_room (Nat.le_of_ble_eq_true rfl)) dX11_place_18 ⟨Nat.le_of_ble_eq_true rfl, Nat.le_of_ble_eq_true rfl⟩) hS (fun q _ h => f_42 q h) f_42 (fun r_43 u_44 t H1 locs ht hvm h_45 hB hz1 hk1 hS => ?_)
      obtain ⟨hP, hD⟩ := join (wc := []) (wr := [(h0, .inr (11, [.ref h1, .ref h2, .ref (g 2), .ref (g 3), .ref (g 4), .ref (g 5), .ref (g 6), .int 0, .int 0, .int 0, .int 0])), (h1, .inr (6, [.ref (gn 0), .int 0, .ref (gn 2), .ref (gn 3), .int 0, .ref (gn 5), .int 0, .int 0])), (h2, .inr (1, [.ref h1, .ref (gb 1), .int 0]))]) (w1 := []) hP hD f_42 [] [0, 1, 2] rfl rfl (by decide) (by decide) hk1 ht wat_nil
      generalize H1 = H at hP hS ⊢
      have hP : va_P D vwCl [(h0, .inr (11, [.ref h1, .ref h2, .ref (g 2), .ref (g 3), .ref (g 4), .ref (g 5), .ref (g 6), .int 0, .int 0, .int 0, .int 0])), (h1, .inr (6, [.ref (gn 0), .int 0, .ref (gn 2), .ref (gn 3), .int 0, .ref (gn 5), .int 0, .int 0])), (h2, .inr (1, [.ref h1, .ref (gb 1), .int 0]))] H := hP
      have hD : va_D A [(h0, .inr (11, [.ref h1, .ref h2, .ref (g 2), .ref (g 3), .ref (g 4), .ref (g 5), .ref (g 6), .int 0, .int 0, .int 0, .int 0])), (h1, .inr (6, [.ref (gn 0), .int 0, .ref (gn 2), .ref (gn 3), .int 0, .ref (gn 5), .int 0, .int 0])), (h2, .inr (1, [.ref h1, .ref (gb 1), .int 0]))] := hD
      obtain rfl := h_45
      refine lv_if_eq (tgt := 28) hx hb dX11_place_21 (by decide) (fun _ => ?_) (fun c => absurd (by decide) c)
      refine lv_iconst (v := 0) hx hb dX11_place_28 (by decide) ?_
      have f_46 := free_of (wc := [(h0, .inr (11, [.ref h1, .ref h2, .ref (g 2), .ref (g 3), .ref (g 4), .ref (g 5), .ref (g 6), .int 0, .int 0, .int 0, .int 0]))]) hD hS hA [0] rfl
      refine never (vx_runV (As := [.int 0]) (rest := []) ⟨hx, hb, hml, hown, hts⟩ (c_mustFit0 l hl9 D a1 a2 H.size h0 h1 h2 g gn gb) (cwV 1 hts (gV w_37 w_38 w_39 w_8 w_40) rfl rfl rfl (by decide +kernel) ⟨Nat.le_of_ble_eq_true rfl, Nat.le_of_ble_eq_true rfl⟩) (pre_V hK hP hD hS hA hE [0] rfl (by decide) rfl [] rfl (ci := 11) (q0 := 0) rfl rfl) rfl rfl hl.1 rfl (lv_room (Nat.le_of_ble_eq_true rfl)) dX11_place_29 ⟨Nat.le_of_ble_eq_true rfl, Nat.le_of_ble_eq_true rfl⟩) (fun _ _ _ h => h) hS f_46 (fun q _ h => f_46 q h) (fun E ce q9 u9 t H locs ht hvm hw hB hz1 hk1 hS hce hcv hcl => ?_)
      subst hB
      exact vx_out (fun x hx => (hno x hx).elim) hlocks hce hcv hcl (fun t ht hvm => ⟨(), trivial, rfl, hS.F ht⟩) hS.2.2 (Nat.le_of_ble_eq_true rfl) (Nat.le_of_ble_eq_true rfl)
  · have f_50 := free_of (wc := []) hD hS hA [] rfl
    refine va_calli (va_runS (As := [.int p1, .int (-720), .int 840]) (rest := [.ref h0]) ⟨hx, hb, hml, hown, hts⟩ (c_within_f l D a1 a2 s.heap.size (p1) (-720) (840) hc_1) (va_cwS 3 hts (gS w_9 w_10 w_8 w_11) rfl rfl rfl (by decide +kernel) ⟨Nat.le_of_ble_eq_true rfl, Nat.le_of_ble_eq_true rfl⟩) (pre_S hK hP hD hS hA hE [] rfl (by decide) rfl [] rfl) rfl rfl hl.1 rfl (lv_room (Nat.le_of_ble_eq_true rfl)) dX11_place_8 ⟨Nat.le_of_ble_eq_true rfl, Nat.le_of_ble_eq_true rfl⟩) hS (fun q _ h => f_50 q h) f_50 (fun r_51 u_52 t H1 locs ht hvm h_53 hB hz1 hk1 hS => ?_)
    obtain ⟨hP, hD⟩ := join (wc := []) (wr := [(h0, .inr (11, [.ref h1, .ref h2, .ref (g 2), .ref (g 3), .ref (g 4), .ref (g 5), .ref (g 6), .int 0, .int 0, .int 0, .int 0])), (h1, .inr (6, [.ref (gn 0), .int 0, .ref (gn 2), .ref (gn 3), .int 0, .ref (gn 5), .int 0, .int 0])), (h2, .inr (1, [.ref h1, .ref (gb 1), .int 0]))]) (w1 := []) hP hD f_50 [] [0, 1, 2] rfl rfl (by decide) (by decide) hk1 ht wat_nil
    generalize H1 = H at hP hS ⊢
    have hP : va_P D vwCl [(h0, .inr (11, [.ref h1, .ref h2, .ref (g 2), .ref (g 3), .ref (g 4), .ref (g 5), .ref (g 6), .int 0, .int 0, .int 0, .int 0])), (h1, .inr (6, [.ref (gn 0), .int 0, .ref (gn 2), .ref (gn 3), .int 0, .ref (gn 5), .int 0, .int 0])), (h2, .inr (1, [.ref h1, .ref (gb 1), .int 0]))] H := hP
    have hD : va_D A [(h0, .inr (11, [.ref h1, .ref h2, .ref (g 2), .ref (g 3), .ref (g 4), .ref (g 5), .ref (g 6), .int 0, .int 0, .int 0, .int 0])), (h1, .inr (6, [.ref (gn 0), .int 0, .ref (gn 2), .ref (gn 3), .int 0, .ref (gn 5), .int 0, .int 0])), (h2, .inr (1, [.ref h1, .ref (gb 1), .int 0]))] := hD
    obtain rfl := h_53
    refine lv_if_eq (tgt := 28) hx hb dX11_place_11 (by decide) (fun _ => ?_) (fun c => absurd (by decide) c)
    refine lv_iconst (v := 0) hx hb dX11_place_28 (by decide) ?_
    have f_54 := free_of (wc := [(h0, .inr (11, [.ref h1, .ref h2, .ref (g 2), .ref (g 3), .ref (g 4), .ref (g 5), .ref (g 6), .int 0, .int 0, .int 0, .int 0]))]) hD hS hA [0] rfl
    refine never (vx_runV (As := [.int 0]) (rest := []) ⟨hx, hb, hml, hown, hts⟩ (c_mustFit0 l hl9 D a1 a2 H.size h0 h1 h2 g gn gb) (cwV 1 hts (gV w_37 w_38 w_39 w_8 w_40) rfl rfl rfl (by decide +kernel) ⟨Nat.le_of_ble_eq_true rfl, Nat.le_of_ble_eq_true rfl⟩) (pre_V hK hP hD hS hA hE [0] rfl (by decide) rfl [] rfl (ci := 11) (q0 := 0) rfl rfl) rfl rfl hl.1 rfl (lv_room (Nat.le_of_ble_eq_true rfl)) dX11_place_29 ⟨Nat.le_of_ble_eq_true rfl, Nat.le_of_ble_eq_true rfl⟩) (fun _ _ _ h => h) hS f_54 (fun q _ h => f_54 q h) (fun E ce q9 u9 t H locs ht hvm hw hB hz1 hk1 hS hce hcv hcl => ?_)
    subst hB
    exact vx_out (fun x hx => (hno x hx).elim) hlocks hce hcv hcl (fun t ht hvm => ⟨(), trivial, rfl, hS.F ht⟩) hS.2.2 (Nat.le_of_ble_eq_true rfl) (Nat.le_of_ble_eq_true rfl)
