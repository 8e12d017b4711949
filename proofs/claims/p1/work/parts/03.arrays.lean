/-! ARRAYS OF ARRAYS of any depth: multianewarray, what it makes lies behind all that was there. (The rows follow the library's proof for two dimensions, one dimension at a time.) -/
section MMA
/-- T' is T with C new cells of S slots together behind what was there -/
def mm_Ext (T T' : State) (C S : Nat) : Prop :=
  T'.heap.size = T.heap.size + C ∧ T'.slotsUsed = T.slotsUsed + S ∧ T'.vm = T.vm ∧ (∀ a : Nat, a < T.heap.size → T'.heap[a]? = T.heap[a]?) ∧
  ∀ (p : Program) (l : Launch) (e : Env) (R : Room) (s : State) (m : MethodId) (args : Array Value) (below : List Frame) (meth : Method) (c : Code) (locs : List Loc) (cells slots : Nat),
    Stand p l e R s m args below meth c T locs cells slots → Stand p l e R s m args below meth c T' locs (cells + C) (slots + S)
theorem mm_push (T : State) (cell : Cell) : mm_Ext T (T.pushCell cell) 1 cell.slots.size :=
  ⟨by simp, by simp, rfl, fun a h => State.heap_pushCell_of_lt _ _ h, fun _ _ _ _ _ _ _ _ _ _ _ _ _ X => X.pushed cell⟩
theorem mm_trans {T T1 T2 : State} {C S C2 S2 : Nat} (h : mm_Ext T T1 C S) (k : mm_Ext T1 T2 C2 S2) : mm_Ext T T2 (C + C2) (S + S2) := by
  obtain ⟨a1, a2, a3, a4, a5⟩ := h
  obtain ⟨b1, b2, b3, b4, b5⟩ := k
  refine ⟨by omega, by omega, b3.trans a3, fun a h => (b4 a (by omega)).trans (a4 a h), fun p l e R s m args below meth c locs cells slots X => ?_⟩
  have Y := b5 p l e R s m args below meth c _ _ _ (a5 p l e R s m args below meth c _ _ _ X)
  rw [Nat.add_assoc, Nat.add_assoc] at Y
  exact Y
theorem mm_store {T T1 : State} {C S : Nat} (h : mm_Ext T T1 C S) {a : Nat} {cell : Cell} (ha : T.heap.size ≤ a) (hc : T1.heap[a]? = some cell) (i : Nat) (v : Value) : mm_Ext T (T1.setCell a (cell.setSlot i v)) C S := by
  obtain ⟨a1, a2, a3, a4, a5⟩ := h
  refine ⟨by simp [a1], a2, a3, fun b hb => ?_, fun p l e R s m args below meth c locs cells slots X => ?_⟩
  · rw [State.heap_setCell_other (show a ≠ b by omega)]
    exact a4 b hb
  · have Y := (a5 p l e R s m args below meth c _ _ _ X).stored hc i v
    exact Stand.forget Y (fun y hy => by
      rw [List.mem_singleton.mp hy]
      exact Nat.le_trans X.same.2.1 ha)
theorem mm_refFits {t : FieldType} (h : t.isReference = true) (v : Value) (hv : v = .null ∨ ∃ a, v = .ref a) : fits t v = true := by
  rcases hv with rfl | ⟨a, rfl⟩ <;> cases t <;> simp [FieldType.isReference] at h <;> rfl
section
variable {E : CtlPost} {e : Env} {d : Bool} {acts : List Action}
theorem mm_newArray {s : State} {c comp : ClassId} {k : Class} {type : FieldType} {len : Nat} {init : Value} (hk : s.vm.classes[c]? = some k) (hkind : k.kind = .array comp type)
    (hlimit : ¬ len > e.platform.arrayLengthLimit) (hheap : ¬ len * componentBytes type > e.platform.maxHeapBytes) (hfit : fits type init = true) (hdef : init.isDefault = true) {Q : Addr → Pre}
    (h1 : s.heap.size < e.platform.maxCells) (h2 : s.slotsUsed + len ≤ e.platform.maxSlots)
    (hq : Q s.heap.size d acts (s.pushCell { cls := c, slots := Array.replicate len init, vm := .none })) :
    wp (Jvm.newArray c len init) Q E e d acts s := by
  have hfits : ∀ i v, (Array.replicate len init)[i]? = some v → s.fitsSlot c .none i v = true := by
    intro i v hv
    simp only [Array.getElem?_replicate] at hv
    split at hv
    · cases hv; simp [State.fitsSlot, State.slotType?, hk, hkind, hfit]
    · cases hv
  have hda : allocActs (Array.replicate len init) s.heap.size acts = acts := by
    have hall : ((Array.replicate len init).all (·.isDefault)) = true := by
      rw [Array.all_replicate]; split <;> simp [hdef]
    unfold allocActs; rw [if_pos hall]
  simp only [Jvm.newArray, Jvm.arrayFits, wp_bind', W.ask, W.ite, hlimit, if_false, wp_pure', W.theClass, hk, hkind, hheap, W.alloc, W.stop, Option.some.injEq, exists_eq_left', Array.size_replicate, hda]
  rw [if_neg (by omega)]
  exact ⟨h1, h2, hfits, hq⟩
/-- the innermost dimension -/
theorem mm_make1 (f : JFrame) {T : State} {comp cc : ClassId} {kc : Class} {type : FieldType} {m : Int32} (hkc : T.vm.classes[comp]? = some kc) (hkindc : kc.kind = .array cc type) (hm : ¬ m < 0)
    (hl2 : ¬ m.toNatClampNeg > e.platform.arrayLengthLimit) (hh2 : ¬ m.toNatClampNeg * componentBytes type > e.platform.maxHeapBytes)
    (hdf : fits type (defaultValue type) = true) (hdd : (defaultValue type).isDefault = true)
    (h1 : T.heap.size < e.platform.maxCells) (h2 : T.slotsUsed + m.toNatClampNeg ≤ e.platform.maxSlots)
    {Q : Addr → Pre} (hq : ∀ d' acts', Q T.heap.size d' acts' ((T.pushCell (arrV comp m.toNatClampNeg (fun _ => defaultValue type))).setTop f)) :
    wp (multianewarray.make comp [m]) Q E e d acts (T.setTop f) := by
  rw [multianewarray.make]
  simp only [wp_bind', W.ite, hm, if_false, wp_pure', W.theClass, State.vm_setTop, hkc, hkindc, Option.some.injEq, exists_eq_left']
  refine mm_newArray (s := T.setTop f) hkc hkindc hl2 hh2 hdf hdd h1 h2 ?_
  rw [arrV_new]
  exact hq _ _
/-- one dimension more -/
theorem mm_makeS (f : JFrame) {c comp : ClassId} {k : Class} {t0 : FieldType} {n r0 : Int32} {rs : List Int32} {vm0 : Vm} {C S : Nat} {Inn : State → Nat → Prop}
    (hneg : ((r0 :: rs).find? (· < 0)) = none) (hk : vm0.classes[c]? = some k) (hkind : k.kind = .array comp t0) (href : t0.isReference = true) (hn : ¬ n < 0)
    (hl1 : ¬ n.toNatClampNeg > e.platform.arrayLengthLimit) (hh1 : ¬ n.toNatClampNeg * componentBytes t0 > e.platform.maxHeapBytes)
    (hst : ∀ (T T' : State) (C S a : Nat), mm_Ext T T' C S → a < T.heap.size → Inn T a → Inn T' a) (hst2 : ∀ (T : State) (a b : Nat) (cell : Cell), b ≠ a → Inn T a → Inn (T.setCell b cell) a) (hC : 1 ≤ C)
    (inner : ∀ (T : State) (d : Bool) (acts : List Action) (Q : Addr → Pre), T.vm = vm0 → T.heap.size + C ≤ e.platform.maxCells → T.slotsUsed + S ≤ e.platform.maxSlots →
      (∀ T' d' acts', mm_Ext T T' C S → Inn T' T.heap.size → Q T.heap.size d' acts' (T'.setTop f)) → wp (multianewarray.make comp (r0 :: rs)) Q E e d acts (T.setTop f))
    {T : State} (hvm : T.vm = vm0) (hc : T.heap.size + (1 + n.toNatClampNeg * C) ≤ e.platform.maxCells) (hs : T.slotsUsed + (n.toNatClampNeg + n.toNatClampNeg * S) ≤ e.platform.maxSlots)
    {Q : Addr → Pre} (hq : ∀ (T' : State) (d' : Bool) (acts' : List Action) (F : Nat → Option Nat), mm_Ext T T' (1 + n.toNatClampNeg * C) (n.toNatClampNeg + n.toNatClampNeg * S) →
      T'.heap[T.heap.size]? = some (arrV c n.toNatClampNeg (fun j => va_rf (F j))) → (∀ j, j < n.toNatClampNeg → ∃ r, F j = some r ∧ T.heap.size < r ∧ Inn T' r) → Q T.heap.size d' acts' (T'.setTop f)) :
    wp (multianewarray.make c (n :: r0 :: rs)) Q E e d acts (T.setTop f) := by
  subst hvm
  rw [multianewarray.make]
  simp only [wp_bind', W.ite, hn, if_false, wp_pure', W.theClass, State.vm_setTop, hk, hkind, Option.some.injEq, exists_eq_left']
  refine mm_newArray (s := T.setTop f) hk hkind hl1 hh1 (mm_refFits href _ (Or.inl rfl)) rfl (by show T.heap.size < _; omega) (by show T.slotsUsed + _ ≤ _; omega) ?_
  simp only [hneg]
  rw [ite_self, wp_bind', Std.Legacy.Range.forIn_eq_forIn_range']
  have hsz : ([:n.toNatClampNeg] : Std.Legacy.Range).size = n.toNatClampNeg := by simp [Std.Legacy.Range.size]
  rw [hsz]
  show wp (forIn (List.range' 0 n.toNatClampNeg 1) PUnit.unit _) _ E e d acts _
  refine wp_forIn_inv (fun rest s' => ∃ i, i ≤ n.toNatClampNeg ∧ rest = List.range' i (n.toNatClampNeg - i) ∧ ∃ (T1 : State) (F : Nat → Option Nat), s' = T1.setTop f ∧ mm_Ext T T1 (1 + i * C) (n.toNatClampNeg + i * S) ∧
      T1.heap[T.heap.size]? = some (arrV c n.toNatClampNeg (fun j => va_rf (F j))) ∧ ∀ j, j < i → ∃ r, F j = some r ∧ T.heap.size < r ∧ r < T1.heap.size ∧ Inn T1 r) _ _ ?_ ?_ ?_
  · refine ⟨0, Nat.zero_le _, rfl, T.pushCell { cls := c, slots := Array.replicate n.toNatClampNeg .null, vm := .none }, fun _ => none, rfl, ?_, ?_, fun j h => absurd h (Nat.not_lt_zero _)⟩
    · have h := mm_push T { cls := c, slots := Array.replicate n.toNatClampNeg .null, vm := .none }
      simpa using h
    · rw [State.heap_pushCell_size, arrV_new]
      rfl
  · rintro x rest s' d' acts' Q' ⟨i, hi, hl, T1, F, rfl, hE, hO, hR⟩ hnext
    have hlt : i < n.toNatClampNeg := by
      rcases Nat.lt_or_ge i n.toNatClampNeg with h | h
      · exact h
      · rw [show n.toNatClampNeg - i = 0 from by omega] at hl; simp at hl
    obtain ⟨rfl, hrest⟩ : x = i ∧ rest = List.range' (i + 1) (n.toNatClampNeg - (i + 1)) := by
      rw [show n.toNatClampNeg - i = (n.toNatClampNeg - (i + 1)) + 1 from by omega, List.range'_succ] at hl
      exact ⟨(List.cons.inj hl).1, (List.cons.inj hl).2⟩
    have hm1 : x * C + C ≤ n.toNatClampNeg * C := by
      have := Nat.mul_le_mul_right C (show x + 1 ≤ n.toNatClampNeg from hlt)
      rw [Nat.succ_mul] at this; exact this
    have hm2 : x * S + S ≤ n.toNatClampNeg * S := by
      have := Nat.mul_le_mul_right S (show x + 1 ≤ n.toNatClampNeg from hlt)
      rw [Nat.succ_mul] at this; exact this
    obtain ⟨e1, e2, e3, e4, -⟩ := id hE
    simp only [wp_bind']
    refine inner T1 d' acts' _ e3 (by omega) (by omega) (fun T2 d2 acts2 hE2 hI2 => ?_)
    obtain ⟨g1, g2, g3, g4, -⟩ := id hE2
    have hO2 : T2.heap[T.heap.size]? = some (arrV c n.toNatClampNeg (fun j => va_rf (F j))) := (g4 _ (by omega)).trans hO
    simp only [wp_bind', W.writeLoc, wp_pure']
    refine ⟨_, hO2, by simp [arrV], by rw [arrV_size]; exact hlt, ?_, hnext _ _ _ ⟨x + 1, hlt, hrest, T2.setCell T.heap.size ((arrV c n.toNatClampNeg (fun j => va_rf (F j))).setSlot x (.ref T1.heap.size)), fun j => if j = x then some T1.heap.size else F j, rfl, ?_, ?_, ?_⟩⟩
    · show T2.fitsSlot c .none x (.ref T1.heap.size) = true
      simp [State.fitsSlot, State.slotType?, g3, e3, hk, hkind, mm_refFits href _ (Or.inr ⟨_, rfl⟩)]
    · have h := mm_store (mm_trans hE hE2) (Nat.le_refl _) hO2 x (.ref T1.heap.size)
      rw [show 1 + (x + 1) * C = 1 + x * C + C by rw [Nat.succ_mul]; omega, show n.toNatClampNeg + (x + 1) * S = n.toNatClampNeg + x * S + S by rw [Nat.succ_mul]; omega]
      exact h
    · rw [State.heap_setCell_self hO2, arrV_store]
      refine congrArg (fun z => some (arrV c n.toNatClampNeg z)) (funext fun j => ?_)
      by_cases hj : j = x
      · simp [updV, hj, va_rf]
      · simp [updV, hj]
    · intro j hj
      by_cases hjx : j = x
      · refine ⟨T1.heap.size, by simp [hjx], by omega, by simp [g1]; omega, hst2 _ _ _ _ (by omega) hI2⟩
      · obtain ⟨r, h1, h2, h3, h4⟩ := hR j (by omega)
        exact ⟨r, by simp [hjx, h1], h2, by simp [g1]; omega, hst2 _ _ _ _ (by omega) (hst _ _ _ _ _ hE2 h3 h4)⟩
  · rintro s' d' acts' ⟨i, hi, hl, T1, F, rfl, hE, hO, hR⟩
    have hiN : i = n.toNatClampNeg := by
      rcases Nat.lt_or_ge i n.toNatClampNeg with h | h
      · rw [show n.toNatClampNeg - i = (n.toNatClampNeg - (i + 1)) + 1 from by omega, List.range'_succ] at hl; cases hl
      · omega
    subst hiN
    simp only [wp_pure']
    exact hq T1 _ _ F hE hO (fun j hj => by
      obtain ⟨r, h1, h2, -, h4⟩ := hR j hj
      exact ⟨r, h1, h2, h4⟩)
end
end MMA
