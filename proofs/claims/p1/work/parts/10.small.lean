set_option maxRecDepth 100000 in
set_option maxHeartbeats 4000000 in
theorem c_within_t (l : Launch) (D : va_G) (a1 a2 sz : Nat) (v lo hi : Int32) (hv : lo ≤ v ∧ v ≤ hi) : Met l yX11_within (Cond.code yX11_within cX11_within 3 (some .boolean) :: WS) ({ frames := 10, cells := 0, slots := 0, locals := 200 }) (va_Pc [.int v, .int lo, .int hi] (pre D a1 a2 [] [] sz)) (va_Qi (S := Unit) (fun r _ => r = 1) (fun _ _ => True) (va_A [] sz)) 0 0 (va_A [] sz) := by
  refine open_Met (by decide +kernel) (Nat.le_of_ble_eq_true rfl) (fun A => va_Qi (S := Unit) (fun r _ => r = 1) (fun _ _ => True) A) ?_
  intro p e s m below meth c A ls hG
  obtain ⟨hx, hb, hr, hml, hown, hts, hlocks, hin, hP, hK, hD, hA, hE, hS, hl⟩ := hG
  have hown : s.vm.findClass RX11 = some m.cls := hown
  have hl : lv_has ls 3 [(0, .int v), (1, .int lo), (2, .int hi)] := hl
  refine lv_iload_n hx hb dX11_within_0 rfl (lv_at hl 0 rfl) ?_
  refine lv_iload_n hx hb dX11_within_1 rfl (lv_at hl 1 rfl) ?_
  refine lv_icmp_lt (tgt := 14) hx hb dX11_within_2 (by decide) (fun c_1 => ?_) (fun c_1 => ?_)
  · refine lv_iconst (v := 0) hx hb dX11_within_14 (by decide) ?_
    exact absurd hv.1 (Int32.not_le.mpr c_1)
  · refine lv_iload_n hx hb dX11_within_5 rfl (lv_at hl 0 rfl) ?_
    refine lv_iload_n hx hb dX11_within_6 rfl (lv_at hl 2 rfl) ?_
    refine lv_icmp_gt (tgt := 14) hx hb dX11_within_7 (by decide) (fun c_2 => ?_) (fun c_2 => ?_)
    · refine lv_iconst (v := 0) hx hb dX11_within_14 (by decide) ?_
      exact absurd hv.2 (Int32.not_le.mpr c_2)
    · refine lv_iconst (v := 1) hx hb dX11_within_10 (by decide) ?_
      refine lv_goto (tgt := 15) hx hb dX11_within_11 (by decide) ?_
      refine W.widen (k := 0) (n := 0) (Nat.le_of_ble_eq_true rfl) (Nat.le_of_ble_eq_true rfl) ?_
      exact W.zret (v := 1) hx hb hr rfl (fun t ht hW => ⟨⟨1, (), rfl, rfl, trivial⟩, hS.F ht⟩) hS.2.2 dX11_within_15
set_option maxRecDepth 100000 in
set_option maxHeartbeats 4000000 in
theorem c_within_f (l : Launch) (D : va_G) (a1 a2 sz : Nat) (v lo hi : Int32) (hv : ¬ (lo ≤ v ∧ v ≤ hi)) : Met l yX11_within (Cond.code yX11_within cX11_within 3 (some .boolean) :: WS) ({ frames := 10, cells := 0, slots := 0, locals := 200 }) (va_Pc [.int v, .int lo, .int hi] (pre D a1 a2 [] [] sz)) (va_Qi (S := Unit) (fun r _ => r = 0) (fun _ _ => True) (va_A [] sz)) 0 0 (va_A [] sz) := by
  refine open_Met (by decide +kernel) (Nat.le_of_ble_eq_true rfl) (fun A => va_Qi (S := Unit) (fun r _ => r = 0) (fun _ _ => True) A) ?_
  intro p e s m below meth c A ls hG
  obtain ⟨hx, hb, hr, hml, hown, hts, hlocks, hin, hP, hK, hD, hA, hE, hS, hl⟩ := hG
  have hown : s.vm.findClass RX11 = some m.cls := hown
  have hl : lv_has ls 3 [(0, .int v), (1, .int lo), (2, .int hi)] := hl
  refine lv_iload_n hx hb dX11_within_0 rfl (lv_at hl 0 rfl) ?_
  refine lv_iload_n hx hb dX11_within_1 rfl (lv_at hl 1 rfl) ?_
  refine lv_icmp_lt (tgt := 14) hx hb dX11_within_2 (by decide) (fun c_1 => ?_) (fun c_1 => ?_)
  · refine lv_iconst (v := 0) hx hb dX11_within_14 (by decide) ?_
    refine W.widen (k := 0) (n := 0) (Nat.le_of_ble_eq_true rfl) (Nat.le_of_ble_eq_true rfl) ?_
    exact W.zret (v := 0) hx hb hr rfl (fun t ht hW => ⟨⟨0, (), rfl, rfl, trivial⟩, hS.F ht⟩) hS.2.2 dX11_within_15
  · refine lv_iload_n hx hb dX11_within_5 rfl (lv_at hl 0 rfl) ?_
    refine lv_iload_n hx hb dX11_within_6 rfl (lv_at hl 2 rfl) ?_
    refine lv_icmp_gt (tgt := 14) hx hb dX11_within_7 (by decide) (fun c_2 => ?_) (fun c_2 => ?_)
    · refine lv_iconst (v := 0) hx hb dX11_within_14 (by decide) ?_
      refine W.widen (k := 0) (n := 0) (Nat.le_of_ble_eq_true rfl) (Nat.le_of_ble_eq_true rfl) ?_
      exact W.zret (v := 0) hx hb hr rfl (fun t ht hW => ⟨⟨0, (), rfl, rfl, trivial⟩, hS.F ht⟩) hS.2.2 dX11_within_15
    · refine lv_iconst (v := 1) hx hb dX11_within_10 (by decide) ?_
      refine lv_goto (tgt := 15) hx hb dX11_within_11 (by decide) ?_
      exact absurd ⟨Int32.not_lt.mp c_1, Int32.not_lt.mp c_2⟩ hv
set_option maxRecDepth 100000 in
set_option maxHeartbeats 4000000 in
theorem c_in_t (l : Launch) (D : va_G) (a1 a2 sz : Nat) (v lo hi : Int32) (hv : lo ≤ v ∧ v ≤ hi) : Met l yX12_in (Cond.code yX12_in cX12_in 3 (some .boolean) :: WS) ({ frames := 10, cells := 0, slots := 0, locals := 200 }) (va_Pc [.int v, .int lo, .int hi] (pre D a1 a2 [] [] sz)) (va_Qi (S := Unit) (fun r _ => r = 1) (fun _ _ => True) (va_A [] sz)) 0 0 (va_A [] sz) := by
  refine open_Met (by decide +kernel) (Nat.le_of_ble_eq_true rfl) (fun A => va_Qi (S := Unit) (fun r _ => r = 1) (fun _ _ => True) A) ?_
  intro p e s m below meth c A ls hG
  obtain ⟨hx, hb, hr, hml, hown, hts, hlocks, hin, hP, hK, hD, hA, hE, hS, hl⟩ := hG
  have hown : s.vm.findClass RX12 = some m.cls := hown
  have hl : lv_has ls 3 [(0, .int v), (1, .int lo), (2, .int hi)] := hl
  refine lv_iload_n hx hb dX12_in_0 rfl (lv_at hl 0 rfl) ?_
  refine lv_iload_n hx hb dX12_in_1 rfl (lv_at hl 1 rfl) ?_
  refine lv_icmp_lt (tgt := 14) hx hb dX12_in_2 (by decide) (fun c_1 => ?_) (fun c_1 => ?_)
  · refine lv_iconst (v := 0) hx hb dX12_in_14 (by decide) ?_
    exact absurd hv.1 (Int32.not_le.mpr c_1)
  · refine lv_iload_n hx hb dX12_in_5 rfl (lv_at hl 0 rfl) ?_
    refine lv_iload_n hx hb dX12_in_6 rfl (lv_at hl 2 rfl) ?_
    refine lv_icmp_gt (tgt := 14) hx hb dX12_in_7 (by decide) (fun c_2 => ?_) (fun c_2 => ?_)
    · refine lv_iconst (v := 0) hx hb dX12_in_14 (by decide) ?_
      exact absurd hv.2 (Int32.not_le.mpr c_2)
    · refine lv_iconst (v := 1) hx hb dX12_in_10 (by decide) ?_
      refine lv_goto (tgt := 15) hx hb dX12_in_11 (by decide) ?_
      refine W.widen (k := 0) (n := 0) (Nat.le_of_ble_eq_true rfl) (Nat.le_of_ble_eq_true rfl) ?_
      exact W.zret (v := 1) hx hb hr rfl (fun t ht hW => ⟨⟨1, (), rfl, rfl, trivial⟩, hS.F ht⟩) hS.2.2 dX12_in_15
set_option maxRecDepth 100000 in
set_option maxHeartbeats 4000000 in
theorem c_in_f (l : Launch) (D : va_G) (a1 a2 sz : Nat) (v lo hi : Int32) (hv : ¬ (lo ≤ v ∧ v ≤ hi)) : Met l yX12_in (Cond.code yX12_in cX12_in 3 (some .boolean) :: WS) ({ frames := 10, cells := 0, slots := 0, locals := 200 }) (va_Pc [.int v, .int lo, .int hi] (pre D a1 a2 [] [] sz)) (va_Qi (S := Unit) (fun r _ => r = 0) (fun _ _ => True) (va_A [] sz)) 0 0 (va_A [] sz) := by
  refine open_Met (by decide +kernel) (Nat.le_of_ble_eq_true rfl) (fun A => va_Qi (S := Unit) (fun r _ => r = 0) (fun _ _ => True) A) ?_
  intro p e s m below meth c A ls hG
  obtain ⟨hx, hb, hr, hml, hown, hts, hlocks, hin, hP, hK, hD, hA, hE, hS, hl⟩ := hG
  have hown : s.vm.findClass RX12 = some m.cls := hown
  have hl : lv_has ls 3 [(0, .int v), (1, .int lo), (2, .int hi)] := hl
  refine lv_iload_n hx hb dX12_in_0 rfl (lv_at hl 0 rfl) ?_
  refine lv_iload_n hx hb dX12_in_1 rfl (lv_at hl 1 rfl) ?_
  refine lv_icmp_lt (tgt := 14) hx hb dX12_in_2 (by decide) (fun c_1 => ?_) (fun c_1 => ?_)
  · refine lv_iconst (v := 0) hx hb dX12_in_14 (by decide) ?_
    refine W.widen (k := 0) (n := 0) (Nat.le_of_ble_eq_true rfl) (Nat.le_of_ble_eq_true rfl) ?_
    exact W.zret (v := 0) hx hb hr rfl (fun t ht hW => ⟨⟨0, (), rfl, rfl, trivial⟩, hS.F ht⟩) hS.2.2 dX12_in_15
  · refine lv_iload_n hx hb dX12_in_5 rfl (lv_at hl 0 rfl) ?_
    refine lv_iload_n hx hb dX12_in_6 rfl (lv_at hl 2 rfl) ?_
    refine lv_icmp_gt (tgt := 14) hx hb dX12_in_7 (by decide) (fun c_2 => ?_) (fun c_2 => ?_)
    · refine lv_iconst (v := 0) hx hb dX12_in_14 (by decide) ?_
      refine W.widen (k := 0) (n := 0) (Nat.le_of_ble_eq_true rfl) (Nat.le_of_ble_eq_true rfl) ?_
      exact W.zret (v := 0) hx hb hr rfl (fun t ht hW => ⟨⟨0, (), rfl, rfl, trivial⟩, hS.F ht⟩) hS.2.2 dX12_in_15
    · refine lv_iconst (v := 1) hx hb dX12_in_10 (by decide) ?_
      refine lv_goto (tgt := 15) hx hb dX12_in_11 (by decide) ?_
      exact absurd ⟨Int32.not_lt.mp c_1, Int32.not_lt.mp c_2⟩ hv
