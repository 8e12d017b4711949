/-! all words that the walks ask for, in one list -/
def WS_0 : List Cond := [Cond.fieldLink RX11 436 "AbroadRouter" "missed" "I", Cond.classLink RX11 442 "java/util/NoSuchElementException", Cond.initialized "java/util/NoSuchElementException", Cond.fieldLink RX11 439 "AbroadRouter" "misfits" "I", Cond.classLink RX11 449 "java/lang/IllegalArgumentException", Cond.initialized "java/lang/IllegalArgumentException"]
def WS0 : List Cond := WS_0 ++ (wsX110)
def WS : List Cond := WS0 ++ ((tx_at RX11 446 "java/util/NoSuchElementException" 13 prog_31_method_4_code ["java/lang/RuntimeException", "java/lang/Exception"]).filter goodWord ++ (vx_atS RX11 453 "java/lang/IllegalArgumentException" ["java/lang/RuntimeException", "java/lang/Exception"]).filter goodWord)
set_option maxRecDepth 20000 in
theorem WS0_in : GoodIn lw_tbl WS0 := goodIn_p WS0 [] (by decide +kernel) (by decide +kernel)
theorem WS_xN : ∀ w ∈ (tx_at RX11 446 "java/util/NoSuchElementException" 13 prog_31_method_4_code ["java/lang/RuntimeException", "java/lang/Exception"]).filter goodWord, w ∈ lw_tbl := by decide +kernel
theorem WS_xI : ∀ w ∈ (vx_atS RX11 453 "java/lang/IllegalArgumentException" ["java/lang/RuntimeException", "java/lang/Exception"]).filter goodWord, w ∈ lw_tbl := by decide +kernel
theorem WS_in : ∀ w ∈ WS, w ∈ lw_tbl := fun w h => (List.mem_append.mp h).elim (fun h => (WS0_in w h).1) (fun h => (List.mem_append.mp h).elim (WS_xN w) (WS_xI w))
theorem WS_good : ∀ w ∈ WS, (w.onTables && w.keeps) = true ∨ ∃ ty, w = .arrayClass ty := fun w h => (List.mem_append.mp h).elim (fun h => (WS0_in w h).2) (fun h => (List.mem_append.mp h).elim (fun h => good_of_word (List.mem_filter.mp h).2) (fun h => good_of_word (List.mem_filter.mp h).2))
theorem at_N : ∀ w ∈ (tx_at RX11 446 "java/util/NoSuchElementException" 13 prog_31_method_4_code ["java/lang/RuntimeException", "java/lang/Exception"]).filter goodWord, w ∈ WS := fun _ h => List.mem_append_right _ (List.mem_append_left _ h)
theorem at_I : ∀ w ∈ (vx_atS RX11 453 "java/lang/IllegalArgumentException" ["java/lang/RuntimeException", "java/lang/Exception"]).filter goodWord, w ∈ WS := fun _ h => List.mem_append_right _ (List.mem_append_right _ h)
theorem WS_c0 {w : Cond} (h : w ∈ WS_0) : w ∈ WS := List.mem_append_left _ (List.mem_append_left _ (h))
theorem inX11 : ∀ w ∈ wsX110, w ∈ WS := fun _ h => List.mem_append_left _ (List.mem_append_right _ (h))
theorem w_0 : Cond.fieldLink RX11 436 "AbroadRouter" "missed" "I" ∈ WS := WS_c0 (List.mem_of_getElem? (i := 0) rfl)
theorem w_1 : Cond.classLink RX11 442 "java/util/NoSuchElementException" ∈ WS := WS_c0 (List.mem_of_getElem? (i := 1) rfl)
theorem w_2 : Cond.initialized "java/util/NoSuchElementException" ∈ WS := WS_c0 (List.mem_of_getElem? (i := 2) rfl)
theorem w_3 : Cond.fieldLink RX11 439 "AbroadRouter" "misfits" "I" ∈ WS := WS_c0 (List.mem_of_getElem? (i := 3) rfl)
theorem w_4 : Cond.classLink RX11 449 "java/lang/IllegalArgumentException" ∈ WS := WS_c0 (List.mem_of_getElem? (i := 4) rfl)
theorem w_5 : Cond.initialized "java/lang/IllegalArgumentException" ∈ WS := WS_c0 (List.mem_of_getElem? (i := 5) rfl)
