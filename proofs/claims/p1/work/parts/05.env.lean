/-! what every contract here takes as given of the machine: the two texts, the exceptions' classes, the array classes, the private constructors; a world's start; what is left behind a call -/
section ENV
abbrev xN : String := "java/util/NoSuchElementException"
abbrev xI : String := "java/lang/IllegalArgumentException"
def aoA (t : FieldType) (U : State) : Prop := (Cond.arrayOver (.array t)).before #[] U = true
theorem aoA_use {t : FieldType} {A : Array Value} {U : State} (h : aoA t U) : (Cond.arrayOver (.array t)).before A U = true := h
theorem aoA_of {t : FieldType} {A : Array Value} {U : State} (h : (Cond.arrayOver (.array t)).before A U = true) : aoA t U := h
theorem aoA_moved {t : FieldType} {u U : State} (hvm : u.vm.Alike U.vm) (h : aoA t u) : aoA t U := by
  obtain ⟨comp, c, k, h1, h2, h3, h4, h5⟩ := arrayOverA_spec h
  obtain ⟨k', hk', he⟩ := hvm.2.2 _ _ h3
  have hi : (U.vm.classes.findIdx? fun (x : Class) => match x.kind with | .array component _ => component == comp | _ => false) = some c := by
    have e1 := va_idx_bare U.vm comp
    have e2 := va_idx_bare u.vm comp
    have eb : U.vm.bare = u.vm.bare := by first | exact hvm.bare_eq | exact hvm.bare_eq.symm
    rw [eb] at e1
    exact e1.symm.trans (e2.trans h2)
  have hkind : k'.kind = .array comp (.array t) := by rw [he]; exact h4
  have f1 : U.vm.findClass (FieldType.array t).toString = some comp := by rw [hvm.findClass]; exact h1
  have f2 : U.vm.findClass ("[" ++ (FieldType.array t).toString) = some c := by rw [hvm.findClass]; exact h5
  unfold aoA Cond.before Cond.holds
  simp only [Cond.value]
  rw [f1, Option.bind_some]
  refine (congrArg (fun o : Option Nat => (o.bind (fun c => (U.vm.classes[c]?).map fun (k : Class) => match k.kind with | .array _ ty => decide (ty = FieldType.array t) && decide (U.vm.findClass ("[" ++ (FieldType.array t).toString) = some c) | _ => false) == some true)) hi).trans ?_
  simp [hk', hkind, f2]
/-- of the tables alone -/
def xv (a1 a2 : Nat) (U : State) : Prop :=
  (vk_R RX11 444 "no such thing" a1 U ∧ vk_R RX11 451 "another argument" a2 U) ∧ (va_Nw (.castable xN xN) U ∧ va_Nw (.castable xI xI) U) ∧
  (va_Nw (.declares ⟨"java/lang/RuntimeException", "<init>", "(Ljava/lang/String;)V"⟩) U ∧ va_Nw (.declares ⟨"java/lang/Exception", "<init>", "(Ljava/lang/String;)V"⟩) U ∧ va_Nw (.declares ⟨"java/lang/Throwable", "<init>", "(Ljava/lang/String;)V"⟩) U) ∧
  (va_Nc xI xN U ∧ va_Nc xN xI U) ∧ (va_AO RX8 U ∧ va_AO RX0 U ∧ va_AO RX7 U) ∧ (aoA .int U ∧ aoA (.array .int) U) ∧
  (va_Nw (.methodLinkNest RX11 9 yX6_init RX11) U ∧ va_Nw (.methodLinkNest RX11 51 yX5_init RX11) U)
theorem xv_warm {a1 a2 : Nat} {s U : State} (hW : s.WarmedH U.vm) (h : xv a1 a2 s) : xv a1 a2 U := by
  obtain ⟨⟨h1, h2⟩, ⟨h3, h4⟩, ⟨h5, h6, h7⟩, ⟨h8, h9⟩, ⟨h10, h11, h12⟩, ⟨h13, h14⟩, h15, h16⟩ := h
  exact ⟨⟨h1.warm hW, h2.warm hW⟩, ⟨h3.warmC hW, h4.warmC hW⟩, ⟨h5.warmD hW, h6.warmD hW, h7.warmD hW⟩, ⟨h8.moved hW.alike, h9.moved hW.alike⟩, ⟨h10.moved hW.alike, h11.moved hW.alike, h12.moved hW.alike⟩, ⟨aoA_moved hW.alike h13, aoA_moved hW.alike h14⟩, h15.warmM hW, h16.warmM hW⟩
/-- and of the heap: the two statics that a Throwable's making reads, outside A -/
def xe (a1 a2 : Nat) (A : Nat → Prop) (U : State) (H : Heap) : Prop := xv a1 a2 U ∧ vx_Zq Bundle.tN "UNASSIGNED_STACK" Bundle.steD A U H ∧ vx_Zq Bundle.tN "SUPPRESSED_SENTINEL" Bundle.listD A U H
theorem xe_warm {a1 a2 : Nat} {A : Nat → Prop} {H : Heap} {s U : State} (hW : s.WarmedH U.vm) (h : xe a1 a2 A s H) : xe a1 a2 A U H := ⟨xv_warm hW h.1, h.2.1.moved hW.alike, h.2.2.moved hW.alike⟩
theorem xe_kept {a1 a2 : Nat} {A : Nat → Prop} {H H1 : Heap} {s : State} (h : xe a1 a2 A s H) (hq : ∀ a : Nat, a < H.size → ¬ A a → H1[a]? = H[a]?) : xe a1 a2 A s H1 := ⟨h.1, h.2.1.kept hq, h.2.2.kept hq⟩
theorem xe_narrow {a1 a2 : Nat} {A B : Nat → Prop} {H : Heap} {s : State} (h : xe a1 a2 A s H) (hAB : ∀ q, B q → A q) : xe a1 a2 B s H := ⟨h.1, h.2.1.narrow hAB, h.2.2.narrow hAB⟩
/-- a method's start: its world ws, its array classes tys -/
def pre (D : va_G) (a1 a2 : Nat) (ws : va_W) (tys : List (ClassId × FieldType)) (sz : Nat) (U : State) : Prop := U.heap.size = sz ∧ va_P D vwCl ws U.heap ∧ va_K D vwCl tys U ∧ va_D (fun _ => True) ws ∧ xe a1 a2 (va_A ws sz) U U.heap
theorem pre_blind {D : va_G} {a1 a2 : Nat} {ws : va_W} {tys : List (ClassId × FieldType)} {sz : Nat} {av : List Value} : FrameBlind (va_Pc av (pre D a1 a2 ws tys sz)) := fun a U g mk q => by
  obtain ⟨q0, q1, qP, qK, qD, qE⟩ := q
  exact ⟨q0, q1, qP, va_K.moved (u := U) (U := U.calling g mk a) (Vm.Alike.refl U.vm) qK, qD, xe_warm (s := U) (U := U.calling g mk a) (State.WarmedH.refl U) qE⟩
section
variable {D : va_G} {a1 a2 : Nat} {s : State} {H : Heap} {A : Nat → Prop} {ws wc wr w1 : va_W} {tys tyc : List (ClassId × FieldType)} {locs : List Loc}
theorem pre_of (hK : va_K D vwCl tys s) (hP : va_P D vwCl ws H) (hD : va_D A ws) (hS : va_S A s.heap H locs) (hA : ∀ q, s.heap.size ≤ q → A q) (hE : xe a1 a2 A s s.heap) (isC : List Nat) (hC : isC.map (fun i => ws[i]?) = wc.map some) (hn : va_nd isC = true) (hC2 : isC.filterMap (fun i => ws[i]?) = wc) (isT : List Nat) (hT : isT.filterMap (fun i => tys[i]?) = tyc) :
    ∀ U : State, U.heap = H → s.WarmedH U.vm → pre D a1 a2 wc tyc H.size U := fun U hU hW => by
  have hF := va_free (wc := wc) hD hS hA isC hC
  refine ⟨by rw [hU], by rw [hU]; exact hP.sub isC hC2, va_K.moved hW.alike (hK.sub isT hT), (hD.sub isC hn hC).weaken (fun _ _ _ _ => trivial), ?_⟩
  rw [hU]
  exact xe_warm hW (xe_narrow (xe_kept hE hS.2.1) hF)
theorem pre_S (hK : va_K D vwCl tys s) (hP : va_P D vwCl ws H) (hD : va_D A ws) (hS : va_S A s.heap H locs) (hA : ∀ q, s.heap.size ≤ q → A q) (hE : xe a1 a2 A s s.heap) {As : List Value} (isC : List Nat) (hC : isC.map (fun i => ws[i]?) = wc.map some) (hn : va_nd isC = true) (hC2 : isC.filterMap (fun i => ws[i]?) = wc) (isT : List Nat) (hT : isT.filterMap (fun i => tys[i]?) = tyc) :
    PreS s H (va_Pc As (pre D a1 a2 wc tyc H.size)) As := ⟨pre_blind, fun U hU hW => ⟨rfl, pre_of hK hP hD hS hA hE isC hC hn hC2 isT hT U hU hW⟩⟩
theorem pre_V (hK : va_K D vwCl tys s) (hP : va_P D vwCl ws H) (hD : va_D A ws) (hS : va_S A s.heap H locs) (hA : ∀ q, s.heap.size ≤ q → A q) (hE : xe a1 a2 A s s.heap) {b : Nat} {As : List Value} (isC : List Nat) (hC : isC.map (fun i => ws[i]?) = wc.map some) (hn : va_nd isC = true) (hC2 : isC.filterMap (fun i => ws[i]?) = wc) (isT : List Nat) (hT : isT.filterMap (fun i => tys[i]?) = tyc)
    {ci q0 : Nat} {q : vw_C} {fs : List Value} (hc : vwCl[ci]? = some q) (he : ws[q0]? = some (b, .inr (ci, fs))) : PreV s H q.1 b (va_Pc (.ref b :: As) (pre D a1 a2 wc tyc H.size)) As :=
  ⟨pre_blind, va_recv hK hP hc he, fun U hU hW => ⟨rfl, pre_of hK hP hD hS hA hE isC hC hn hC2 isT hT U hU hW⟩⟩
/-- the cells behind a method -/
def wat (D : va_G) (A : Nat → Prop) (ws : va_W) (t : State) : Prop := va_P D vwCl ws t.heap ∧ va_D A ws
theorem wat_nil {D : va_G} {A : Nat → Prop} {t : State} : wat D A [] t := ⟨fun k q h => by simp at h, fun i j p q h => by simp at h, fun k q h => by simp at h⟩
/-- behind a call: what came back beside the rest -/
theorem join {H1 : Heap} {t : State} (hP : va_P D vwCl ws H) (hD : va_D A ws) (hF : ∀ q, va_A wc H.size q → A q) (isC isR : List Nat) (hC : isC.map (fun i => ws[i]?) = wc.map some) (hR : isR.map (fun i => ws[i]?) = wr.map some) (hn : va_nd isR = true) (hdis : ∀ i ∈ isR, i ∉ isC)
    (hk : ∀ q : Nat, q < H.size → ¬ va_A wc H.size q → H1[q]? = H[q]?) (ht : t.heap = H1) (hB : wat D (va_A wc H.size) w1 t) : va_P D vwCl (wr ++ w1) H1 ∧ va_D A (wr ++ w1) := by
  obtain ⟨hP1, hD1⟩ := hB
  rw [ht] at hP1
  exact va_join hP hD isC isR hC hR hn hdis hk hF hP1 hD1
theorem free_of (hD : va_D A ws) (hS : va_S A s.heap H locs) (hA : ∀ q, s.heap.size ≤ q → A q) (isC : List Nat) (hC : isC.map (fun i => ws[i]?) = wc.map some) : ∀ q, va_A wc H.size q → A q := va_free (wc := wc) hD hS hA isC hC
end
/-- a throw of E; the world behind it isn't told -/
def thr (E : String) (A : Nat → Prop) : String → State → State → Prop := vx_X (fun _ : Unit => True) (fun E' _ _ => E' = E) A
theorem nope {v : Int32} (h : 0 ≤ v ∧ v ≤ -1) : False := by
  obtain ⟨h1, h2⟩ := h
  have h3 := Int32.le_trans h1 h2
  exact absurd h3 (by decide)
end ENV
