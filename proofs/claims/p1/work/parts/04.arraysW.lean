/-! multianewarray as a row of the walk; aaload of a row -/
section MMW
/-- one instruction, where the state behind it is known by its properties alone -/
theorem mm_instr {tb : Tables} [Ours tb] {e : Env} {below : List Frame} {s : State} {f : JFrame} {c : Code} {P : State → Prop} (h : At s f.method c below)
    (hw : match decode c.code f.pc with
      | .ok (i, len) => wpRun (tb.exec i)
          (fun _ s₁ _ => ∀ acts, ∃ t, Steps tb e below (afterInstr e len (.ok () s₁ acts)).1 t ∧ P t)
          (fun x s₁ _ => ∀ acts, ∃ t, Steps tb e below (afterInstr e len (.ctl x s₁ acts)).1 t ∧ P t) e (s.setTop f)
      | .error _ => False) :
    ∃ t, Steps tb e below (s.setTop f) t ∧ P t := by
  rcases hd : decode c.code f.pc with x | ⟨i, len⟩
  · rw [hd] at hw; exact hw.elim
  · rw [hd] at hw
    have go : (∃ t, Steps tb e below (stepThread tb e (s.setTop f)).1 t ∧ P t) → ∃ t, Steps tb e below (s.setTop f) t ∧ P t := fun ⟨t, h1, h2⟩ =>
      ⟨t, Steps.head ⟨h.running, by rw [State.curStatus?_setTop]; exact h.runnable, by rw [State.alone_setTop]; exact h.alone⟩ (h.within f) h1, h2⟩
    refine go ?_
    rw [stepThread_java (State.frames_setTop' f h.top) h.plain h.code hd]
    have hw := (wpRun_iff_run _ _ _ _ _).mp hw
    cases hr : (tb.exec i).run e (s.setTop f) with
    | ok a s₁ acts => rw [hr] at hw; exact hw acts
    | ctl x s₁ acts => rw [hr] at hw; cases x <;> first | exact hw acts | exact hw.elim
variable {p : Program} {l : Launch} {e : Env} {R : Room} {s : State} {m : MethodId} {args : Array Value} {below : List Frame} {meth : Method} {c : Code} {H : Heap} {locs : List Loc} {cells slots : Nat} {Q : State → Prop}
variable {cc : ByteArray} {pc : Nat} {ls : Array Slot} {rest : List Value} {D : va_G} {cl : List vw_C} {A : Nat → Prop} {a : Nat} {tys : List (ClassId × FieldType)} {ws : va_W} {H0 : Heap}
/-- new int[n][k]: the outer array, its rows behind it -/
theorem mm_two (hexec : p.tables.exec = Jvm.exec) (hb : c.code = cc) {own : String} {index : Nat} {ty : FieldType} (hown : s.vm.findClass own = some m.cls) (hclink : (Cond.classLink own index ("[" ++ (FieldType.array ty).toString)).before args s = true)
    (hover : (Cond.arrayOver (.array ty)).before args s = true) (harr : (Cond.arrayClass ty).before args s = true) {n k : Int32} {N' K' : Nat} (hn : ¬ n < 0) (hk : ¬ k < 0) (hN : n.toNatClampNeg = N') (hM : k.toNatClampNeg = K')
    (hb1 : N' * 4 ≤ 536870912) (hb2 : K' * componentBytes ty ≤ 536870912) (hb3 : K' ≤ 536870912) (hdf : fits ty (defaultValue ty) = true) (hdd : (defaultValue ty).isDefault = true)
    (hcells : cells + (1 + N' * 1) ≤ R.cells) (hslots : slots + (N' + N' * K') ≤ R.slots) (hdg : decode cc pc = .ok (.multianewarray index 2, 4))
    (kk : ∀ (F : Nat → Option Nat) (cA cy : ClassId) (H1 : Heap), ArrOfT s cA (.array ty) → s.vm.findClass ("[" ++ (FieldType.array ty).toString) = some cA → ArrOfT s cy ty → s.vm.findClass (FieldType.array ty).toString = some cy →
      H.size ≤ H1.size → (∀ q : Nat, q < H.size → H1[q]? = H[q]?) → H1[H.size]? = some (arrV cA N' (fun j => va_rf (F j))) → (∀ j, j < N' → ∃ r, F j = some r ∧ H.size < r ∧ H1[r]? = some (arrV cy K' (fun _ => defaultValue ty))) →
      W p l e R s m args below meth c H1 locs (cells + (1 + N' * 1)) (slots + (N' + N' * K')) Q (F0 m (pc + 4) ls (.ref H.size :: rest))) : W p l e R s m args below meth c H locs cells slots Q (F0 m pc ls (.int k :: .int n :: rest)) := by
  subst hN; subst hM; subst hb
  intro T hT X
  subst hT
  have hpl : e.platform.magicAccessors = ({} : Platform).magicAccessors := by rw [X.admits.platform]
  obtain ⟨comp, cA, kA, hcomp, -, hkA, hkindA, hnameA⟩ := arrayOverA_spec hover
  obtain ⟨comp', kC, cc', hcomp', hkC, hkindC⟩ := Cond.arrayClass_spec harr
  have ecomp : comp' = comp := Option.some.inj (hcomp'.symm.trans hcomp)
  subst ecomp
  obtain ⟨c0, hfc0, hcl⟩ := Cond.classLink_spec hown hclink e.platform hpl
  cases hnameA.symm.trans hfc0
  obtain ⟨hg₁, hwarm₁, hready₁⟩ := State.classEntry (e := e) X.warmed hcl
  generalize T.vm.noted m.cls index (.cls cA) = vm₁ at hg₁ hwarm₁ hready₁
  have hal : s.vm.Alike vm₁ := hwarm₁.alike
  obtain ⟨kA₁, hkA₁, heA⟩ := hal.2.2 _ _ hkA
  obtain ⟨kC₁, hkC₁, heC⟩ := hal.2.2 _ _ hkC
  have hkindA₁ : kA₁.kind = .array comp' (.array ty) := by rw [heA]; exact hkindA
  have hkindC₁ : kC₁.kind = .array cc' ty := by rw [heC]; exact hkindC
  have X₁ := X.noted hwarm₁
  obtain ⟨hr1, hr2⟩ := X.roomAbove hcells hslots
  have hl1 : ¬ n.toNatClampNeg > e.platform.arrayLengthLimit := by rw [Launch.admits_arrayLengthLimit X.admits]; omega
  have hh1 : ¬ n.toNatClampNeg * componentBytes (.array ty) > e.platform.maxHeapBytes := by
    rw [Launch.admits_maxHeapBytes X.admits]; show ¬ n.toNatClampNeg * 4 > 536870912; omega
  have hl2 : ¬ k.toNatClampNeg > e.platform.arrayLengthLimit := by rw [Launch.admits_arrayLengthLimit X.admits]; omega
  have hh2 : ¬ k.toNatClampNeg * componentBytes ty > e.platform.maxHeapBytes := by rw [Launch.admits_maxHeapBytes X.admits]; omega
  refine mm_instr (c := c) (f := F0 m pc ls (.int k :: .int n :: rest)) (by simpa using X.here) ?_
  simp [jvm, wpRun, exec, X.here.top, hexec, hdg, F0]
  simp only [multianewarray.sem, wp_bind', W.resolveClassAt_links (State.method?_setTop (F0 m pc ls (.int k :: .int n :: rest)) X.here.top) hg₁]
  rw [W.popN, if_neg (by decide)]
  refine ⟨F0 m pc ls (.int k :: .int n :: rest), State.topJava?_setTop' (s := T.setVm vm₁) _ X.here.top, [.int n, .int k], rest, rfl, rfl, ?_⟩
  simp only [List.mapM_cons, List.mapM_nil, wp_bind', wp_pure']
  have eS : ((T.setTop (F0 m pc ls (.int k :: .int n :: rest))).setVm vm₁).setTop { F0 m pc ls (.int k :: .int n :: rest) with stack := rest } = (T.setVm vm₁).setTop (F0 m pc ls rest) := by
    show ((T.setVm vm₁).setTop _).setTop _ = _
    rw [State.setTop_setTop]
  rw [eS]
  refine mm_makeS (F0 m pc ls rest) (vm0 := vm₁) (C := 1) (S := k.toNatClampNeg) (Inn := fun U a => U.heap[a]? = some (arrV comp' k.toNatClampNeg (fun _ => defaultValue ty))) (by simp [hk]) hkA₁ hkindA₁ rfl hn hl1 hh1
    (fun T T' C S a h hlt hI => (h.2.2.2.1 a hlt).trans hI) (fun T a b cell hne hI => (State.heap_setCell_other hne).trans hI) (Nat.le_refl _)
    (fun T2 d acts Q hv h1 h2 hq => mm_make1 (F0 m pc ls rest) (by rw [hv]; exact hkC₁) hkindC₁ hk hl2 hh2 hdf hdd (by omega) h2 (fun d' acts' => hq _ d' acts' (by
      have h := mm_push T2 (arrV comp' k.toNatClampNeg (fun _ => defaultValue ty))
      rw [arrV_size] at h
      exact h) (State.heap_pushCell_size _ _)))
    rfl (by show T.heap.size + _ ≤ _; omega) (by show T.slotsUsed + _ ≤ _; omega) (fun T' d' acts' F hE hO hR => ?_)
  have XF := hE.2.2.2.2 p l e R s m args below meth c locs cells slots X₁
  simp only [wp_bind', W.mark, W.pushRef, State.topJava?_setTop' _ XF.here.top, Option.some.injEq, exists_eq_left', State.setTop_setTop, State.heap_setTop]
  intro acts
  obtain ⟨t, a1, b1⟩ := kk F cA comp' T'.heap (fun N9 z9 => ⟨(fun q hq => by cases hq), kA, hkA, comp', hkindA⟩) hnameA (fun N9 z9 => ⟨(fun q hq => by cases hq), kC, hkC, cc', hkindC⟩) hcomp (by rw [hE.1]; exact Nat.le_add_right _ _) hE.2.2.2.1 hO hR T' rfl XF
  refine ⟨t, ?_, b1⟩
  simp [jvm, XF.here.top]
  exact a1
/-- new T[n][k][j]: nothing is said of what it makes -/
theorem mm_three (hexec : p.tables.exec = Jvm.exec) (hb : c.code = cc) {own : String} {index : Nat} {ty : FieldType} (hown : s.vm.findClass own = some m.cls) (hclink : (Cond.classLink own index ("[" ++ (FieldType.array (.array ty)).toString)).before args s = true)
    (hover3 : (Cond.arrayOver (.array (.array ty))).before args s = true) (hover : (Cond.arrayOver (.array ty)).before args s = true) (harr : (Cond.arrayClass ty).before args s = true) {n k j : Int32} {N' K' J' : Nat} (hn : ¬ n < 0) (hk : ¬ k < 0) (hj : ¬ j < 0) (hN : n.toNatClampNeg = N') (hM : k.toNatClampNeg = K') (hJ : j.toNatClampNeg = J')
    (hb1 : N' * 4 ≤ 536870912) (hbk : K' * 4 ≤ 536870912) (hb2 : J' * componentBytes ty ≤ 536870912) (hb3 : J' ≤ 536870912) (hdf : fits ty (defaultValue ty) = true) (hdd : (defaultValue ty).isDefault = true)
    (hcells : cells + (1 + N' * (1 + K' * 1)) ≤ R.cells) (hslots : slots + (N' + N' * (K' + K' * J')) ≤ R.slots) (hdg : decode cc pc = .ok (.multianewarray index 3, 4))
    (kk : ∀ H1 : Heap, H.size ≤ H1.size → (∀ q : Nat, q < H.size → H1[q]? = H[q]?) →
      W p l e R s m args below meth c H1 locs (cells + (1 + N' * (1 + K' * 1))) (slots + (N' + N' * (K' + K' * J'))) Q (F0 m (pc + 4) ls (.ref H.size :: rest))) : W p l e R s m args below meth c H locs cells slots Q (F0 m pc ls (.int j :: .int k :: .int n :: rest)) := by
  subst hN; subst hM; subst hJ; subst hb
  intro T hT X
  subst hT
  have hpl : e.platform.magicAccessors = ({} : Platform).magicAccessors := by rw [X.admits.platform]
  obtain ⟨compB, cA, kA, hcompB, -, hkA, hkindA, hnameA⟩ := arrayOverA_spec hover3
  obtain ⟨comp, cB, kB, hcomp, -, hkB, hkindB, hnameB⟩ := arrayOverA_spec hover
  have eB : compB = cB := Option.some.inj (hcompB.symm.trans (show s.vm.findClass (FieldType.array (.array ty)).toString = some cB from hnameB))
  subst eB
  obtain ⟨comp', kC, cc', hcomp', hkC, hkindC⟩ := Cond.arrayClass_spec harr
  have ecomp : comp' = comp := Option.some.inj (hcomp'.symm.trans hcomp)
  subst ecomp
  obtain ⟨c0, hfc0, hcl⟩ := Cond.classLink_spec hown hclink e.platform hpl
  cases hnameA.symm.trans hfc0
  obtain ⟨hg₁, hwarm₁, hready₁⟩ := State.classEntry (e := e) X.warmed hcl
  generalize T.vm.noted m.cls index (.cls cA) = vm₁ at hg₁ hwarm₁ hready₁
  have hal : s.vm.Alike vm₁ := hwarm₁.alike
  obtain ⟨kA₁, hkA₁, heA⟩ := hal.2.2 _ _ hkA
  obtain ⟨kB₁, hkB₁, heB⟩ := hal.2.2 _ _ hkB
  obtain ⟨kC₁, hkC₁, heC⟩ := hal.2.2 _ _ hkC
  have hkindA₁ : kA₁.kind = .array compB (.array (.array ty)) := by rw [heA]; exact hkindA
  have hkindB₁ : kB₁.kind = .array comp' (.array ty) := by rw [heB]; exact hkindB
  have hkindC₁ : kC₁.kind = .array cc' ty := by rw [heC]; exact hkindC
  have X₁ := X.noted hwarm₁
  obtain ⟨hr1, hr2⟩ := X.roomAbove hcells hslots
  have hl1 : ¬ n.toNatClampNeg > e.platform.arrayLengthLimit := by rw [Launch.admits_arrayLengthLimit X.admits]; omega
  have hh1 : ¬ n.toNatClampNeg * componentBytes (.array (.array ty)) > e.platform.maxHeapBytes := by
    rw [Launch.admits_maxHeapBytes X.admits]; show ¬ n.toNatClampNeg * 4 > 536870912; omega
  have hlk : ¬ k.toNatClampNeg > e.platform.arrayLengthLimit := by rw [Launch.admits_arrayLengthLimit X.admits]; omega
  have hhk : ¬ k.toNatClampNeg * componentBytes (.array ty) > e.platform.maxHeapBytes := by
    rw [Launch.admits_maxHeapBytes X.admits]; show ¬ k.toNatClampNeg * 4 > 536870912; omega
  have hl2 : ¬ j.toNatClampNeg > e.platform.arrayLengthLimit := by rw [Launch.admits_arrayLengthLimit X.admits]; omega
  have hh2 : ¬ j.toNatClampNeg * componentBytes ty > e.platform.maxHeapBytes := by rw [Launch.admits_maxHeapBytes X.admits]; omega
  refine mm_instr (c := c) (f := F0 m pc ls (.int j :: .int k :: .int n :: rest)) (by simpa using X.here) ?_
  simp [jvm, wpRun, exec, X.here.top, hexec, hdg, F0]
  simp only [multianewarray.sem, wp_bind', W.resolveClassAt_links (State.method?_setTop (F0 m pc ls (.int j :: .int k :: .int n :: rest)) X.here.top) hg₁]
  rw [W.popN, if_neg (by decide)]
  refine ⟨F0 m pc ls (.int j :: .int k :: .int n :: rest), State.topJava?_setTop' (s := T.setVm vm₁) _ X.here.top, [.int n, .int k, .int j], rest, rfl, rfl, ?_⟩
  simp only [List.mapM_cons, List.mapM_nil, wp_bind', wp_pure']
  have eS : ((T.setTop (F0 m pc ls (.int j :: .int k :: .int n :: rest))).setVm vm₁).setTop { F0 m pc ls (.int j :: .int k :: .int n :: rest) with stack := rest } = (T.setVm vm₁).setTop (F0 m pc ls rest) := by
    show ((T.setVm vm₁).setTop _).setTop _ = _
    rw [State.setTop_setTop]
  rw [eS]
  refine mm_makeS (F0 m pc ls rest) (vm0 := vm₁) (C := 1 + k.toNatClampNeg * 1) (S := k.toNatClampNeg + k.toNatClampNeg * j.toNatClampNeg) (Inn := fun _ _ => True) (by simp [hk, hj]) hkA₁ hkindA₁ rfl hn hl1 hh1
    (fun _ _ _ _ _ _ _ _ => trivial) (fun _ _ _ _ _ _ => trivial) (by omega)
    (fun T2 d acts Q hv h1 h2 hq => mm_makeS (F0 m pc ls rest) (vm0 := vm₁) (C := 1) (S := j.toNatClampNeg) (Inn := fun _ _ => True) (by simp [hj]) hkB₁ hkindB₁ rfl hk hlk hhk
      (fun _ _ _ _ _ _ _ _ => trivial) (fun _ _ _ _ _ _ => trivial) (Nat.le_refl _)
      (fun T3 d acts Q hv h1 h2 hq => mm_make1 (F0 m pc ls rest) (by rw [hv]; exact hkC₁) hkindC₁ hj hl2 hh2 hdf hdd (by omega) h2 (fun d' acts' => hq _ d' acts' (by
        have h := mm_push T3 (arrV comp' j.toNatClampNeg (fun _ => defaultValue ty))
        rw [arrV_size] at h
        exact h) trivial))
      hv h1 h2 (fun T' d' acts' F hE _ _ => hq T' d' acts' hE trivial))
    rfl (by show T.heap.size + _ ≤ _; omega) (by show T.slotsUsed + _ ≤ _; omega) (fun T' d' acts' F hE hO hR => ?_)
  have XF := hE.2.2.2.2 p l e R s m args below meth c locs cells slots X₁
  simp only [wp_bind', W.mark, W.pushRef, State.topJava?_setTop' _ XF.here.top, Option.some.injEq, exists_eq_left', State.setTop_setTop, State.heap_setTop]
  intro acts
  obtain ⟨t, a1, b1⟩ := kk T'.heap (by rw [hE.1]; exact Nat.le_add_right _ _) hE.2.2.2.1 T' rfl XF
  refine ⟨t, ?_, b1⟩
  simp [jvm, XF.here.top]
  exact a1
/-- the worlds' rows: new T[n][k], nothing kept of it -/
theorem mm_two_drop (hexec : p.tables.exec = Jvm.exec) (hb : c.code = cc) {own : String} {index : Nat} {ty : FieldType} (hown : s.vm.findClass own = some m.cls) (hclink : (Cond.classLink own index ("[" ++ (FieldType.array ty).toString)).before args s = true)
    (hover : (Cond.arrayOver (.array ty)).before args s = true) (harr : (Cond.arrayClass ty).before args s = true) (hP : va_P D cl ws H) (hS : va_S A H0 H locs) {n k : Int32} {N' K' : Nat} (hn : ¬ n < 0) (hk : ¬ k < 0) (hN : n.toNatClampNeg = N') (hM : k.toNatClampNeg = K')
    (hb1 : N' * 4 ≤ 536870912) (hb2 : K' * componentBytes ty ≤ 536870912) (hb3 : K' ≤ 536870912) (hdf : fits ty (defaultValue ty) = true) (hdd : (defaultValue ty).isDefault = true)
    (hcells : cells + (1 + N' * 1) ≤ R.cells) (hslots : slots + (N' + N' * K') ≤ R.slots) (hdg : decode cc pc = .ok (.multianewarray index 2, 4))
    (kk : ∀ (q : Nat) (H1 : Heap), va_P D cl ws H1 → va_S A H0 H1 locs → W p l e R s m args below meth c H1 locs (cells + (1 + N' * 1)) (slots + (N' + N' * K')) Q (F0 m (pc + 4) ls (.ref q :: rest))) : W p l e R s m args below meth c H locs cells slots Q (F0 m pc ls (.int k :: .int n :: rest)) :=
  mm_two hexec hb hown hclink hover harr hn hk hN hM hb1 hb2 hb3 hdf hdd hcells hslots hdg (fun F cA cy H1 _ _ _ _ hz ho _ _ => kk H.size H1 (hP.kept (fun k q hq => ho q.1 (hP k q hq).lt)) ⟨Nat.le_trans hS.1 hz, fun q h1 h2 => (ho q (Nat.lt_of_lt_of_le h1 hS.1)).trans (hS.2.1 q h1 h2), hS.2.2⟩)
theorem mm_three_drop (hexec : p.tables.exec = Jvm.exec) (hb : c.code = cc) {own : String} {index : Nat} {ty : FieldType} (hown : s.vm.findClass own = some m.cls) (hclink : (Cond.classLink own index ("[" ++ (FieldType.array (.array ty)).toString)).before args s = true)
    (hover3 : (Cond.arrayOver (.array (.array ty))).before args s = true) (hover : (Cond.arrayOver (.array ty)).before args s = true) (harr : (Cond.arrayClass ty).before args s = true) (hP : va_P D cl ws H) (hS : va_S A H0 H locs) {n k j : Int32} {N' K' J' : Nat} (hn : ¬ n < 0) (hk : ¬ k < 0) (hj : ¬ j < 0) (hN : n.toNatClampNeg = N') (hM : k.toNatClampNeg = K') (hJ : j.toNatClampNeg = J')
    (hb1 : N' * 4 ≤ 536870912) (hbk : K' * 4 ≤ 536870912) (hb2 : J' * componentBytes ty ≤ 536870912) (hb3 : J' ≤ 536870912) (hdf : fits ty (defaultValue ty) = true) (hdd : (defaultValue ty).isDefault = true)
    (hcells : cells + (1 + N' * (1 + K' * 1)) ≤ R.cells) (hslots : slots + (N' + N' * (K' + K' * J')) ≤ R.slots) (hdg : decode cc pc = .ok (.multianewarray index 3, 4))
    (kk : ∀ (q : Nat) (H1 : Heap), va_P D cl ws H1 → va_S A H0 H1 locs →
      W p l e R s m args below meth c H1 locs (cells + (1 + N' * (1 + K' * 1))) (slots + (N' + N' * (K' + K' * J'))) Q (F0 m (pc + 4) ls (.ref q :: rest))) : W p l e R s m args below meth c H locs cells slots Q (F0 m pc ls (.int j :: .int k :: .int n :: rest)) :=
  mm_three hexec hb hown hclink hover3 hover harr hn hk hj hN hM hJ hb1 hbk hb2 hb3 hdf hdd hcells hslots hdg (fun H1 hz ho => kk H.size H1 (hP.kept (fun k q hq => ho q.1 (hP k q hq).lt)) ⟨Nat.le_trans hS.1 hz, fun q h1 h2 => (ho q (Nat.lt_of_lt_of_le h1 hS.1)).trans (hS.2.1 q h1 h2), hS.2.2⟩)
/-- new int[n][k], its outer array and its row 0 kept -/
theorem mm_two_keep (hexec : p.tables.exec = Jvm.exec) (hb : c.code = cc) {own : String} {index : Nat} (hown : s.vm.findClass own = some m.cls) (hclink : (Cond.classLink own index ("[" ++ (FieldType.array .int).toString)).before args s = true)
    (hover : (Cond.arrayOver (.array .int)).before args s = true) (harr : (Cond.arrayClass .int).before args s = true) (hK : va_K D cl tys s) (hP : va_P D cl ws H) (hD : va_D A ws) (hS : va_S A H0 H locs) (hA : ∀ q, H0.size ≤ q → A q) {n k : Int32} {N' K' : Nat} (h0 : 0 < N') (hn : ¬ n < 0) (hk : ¬ k < 0) (hN : n.toNatClampNeg = N') (hM : k.toNatClampNeg = K')
    (hb1 : N' * 4 ≤ 536870912) (hb2 : K' * 4 ≤ 536870912) (hb3 : K' ≤ 536870912)
    (hcells : cells + (1 + N' * 1) ≤ R.cells) (hslots : slots + (N' + N' * K') ≤ R.slots) (hdg : decode cc pc = .ok (.multianewarray index 2, 4))
    (kk : ∀ (q r : Nat) (F : Nat → Option Nat) (cA cy : ClassId) (H1 : Heap), F 0 = some r → va_K D cl (tys ++ [(cA, .array .int), (cy, .int)]) s → va_P D cl (ws ++ [(q, .inl (cA, N', .inr (.inr (.inr (.inr F))))), (r, .inl (cy, K', .inl (fun _ => 0)))]) H1 → va_D A (ws ++ [(q, .inl (cA, N', .inr (.inr (.inr (.inr F))))), (r, .inl (cy, K', .inl (fun _ => 0)))]) → va_S A H0 H1 locs →
      W p l e R s m args below meth c H1 locs (cells + (1 + N' * 1)) (slots + (N' + N' * K')) Q (F0 m (pc + 4) ls (.ref q :: rest))) : W p l e R s m args below meth c H locs cells slots Q (F0 m pc ls (.int k :: .int n :: rest)) := by
  refine mm_two hexec hb hown hclink hover harr hn hk hN hM hb1 hb2 hb3 rfl rfl hcells hslots hdg (fun F cA cy H1 a1 a2 a3 a4 hz ho hO hR => ?_)
  obtain ⟨r, hr, hlt, hrow⟩ := hR 0 h0
  have hP0 : va_P D cl ws H1 := hP.kept (fun k q hq => ho q.1 (hP k q hq).lt)
  refine kk H.size r F cA cy H1 hr ⟨hK.1, fun k9 x hx => ?_⟩ (hP0.app (fun k9 x hx => ?_)) ⟨?_, ?_⟩ ⟨Nat.le_trans hS.1 hz, fun q h1 h2 => (ho q (Nat.lt_of_lt_of_le h1 hS.1)).trans (hS.2.1 q h1 h2), hS.2.2⟩
  · by_cases hl : k9 < tys.length
    · rw [List.getElem?_append_left hl] at hx
      exact hK.2 k9 x hx
    · rw [List.getElem?_append_right (by omega)] at hx
      match hq : k9 - tys.length, hx with
      | 0, hx => cases hx; exact ⟨a1, a2⟩
      | 1, hx => cases hx; exact ⟨a3, a4⟩
      | k + 2, hx => simp at hx
  · match k9, hx with
    | 0, hx => cases hx; exact hO
    | 1, hx => cases hx; exact hrow
    | k + 2, hx => simp at hx
  · intro i j x y hi hj hxy
    have hlt1 : ∀ (k9 : Nat) (x : Nat × va_E), ws[k9]? = some x → x.1 < H.size := fun k9 x hx => (hP k9 x hx).lt
    have hnew : ∀ (k9 : Nat) (x : Nat × va_E), ([(H.size, .inl (cA, N', .inr (.inr (.inr (.inr F))))), (r, .inl (cy, K', .inl (fun _ => 0)))] : va_W)[k9]? = some x → (k9 = 0 ∧ x.1 = H.size) ∨ (k9 = 1 ∧ x.1 = r) := fun k9 x hx => by
      match k9, hx with
      | 0, hx => cases hx; exact Or.inl ⟨rfl, rfl⟩
      | 1, hx => cases hx; exact Or.inr ⟨rfl, rfl⟩
      | k + 2, hx => simp at hx
    by_cases h1 : i < ws.length <;> by_cases h2 : j < ws.length
    · rw [List.getElem?_append_left h1] at hi
      rw [List.getElem?_append_left h2] at hj
      exact hD.1 i j x y hi hj hxy
    · rw [List.getElem?_append_left h1] at hi
      rw [List.getElem?_append_right (by omega)] at hj
      have := hlt1 _ _ hi
      have := hnew _ _ hj
      omega
    · rw [List.getElem?_append_right (by omega)] at hi
      rw [List.getElem?_append_left h2] at hj
      have := hlt1 _ _ hj
      have := hnew _ _ hi
      omega
    · rw [List.getElem?_append_right (by omega)] at hi hj
      have := hnew _ _ hi
      have := hnew _ _ hj
      omega
  · intro k9 x hx
    by_cases h1 : k9 < ws.length
    · rw [List.getElem?_append_left h1] at hx
      exact hD.2 k9 x hx
    · rw [List.getElem?_append_right (by omega)] at hx
      match hq : k9 - ws.length, hx with
      | 0, hx => cases hx; exact hA _ hS.1
      | 1, hx => cases hx; exact hA _ (Nat.le_trans hS.1 (Nat.le_of_lt hlt))
      | k + 2, hx => simp at hx
/-- aaload of an array of arrays -/
theorem mm_ald (hexec : p.tables.exec = Jvm.exec) (hb : c.code = cc) (hK : va_K D cl tys s) (hP : va_P D cl ws H) (q0 t0 : Nat) {cA : ClassId} {ty : FieldType} {n : Nat} {f : Nat → Option Nat} (ha : ws[q0]? = some (a, .inl (cA, n, .inr (.inr (.inr (.inr f)))))) (ht : tys[t0]? = some (cA, .array ty)) {i : Int32} (hin : vp_in i n) {r : Nat} (hr : f i.toNatClampNeg = some r) (hdg : decode cc pc = .ok (.aaload, 1))
    (kk : W p l e R s m args below meth c H locs cells slots Q (F0 m (pc + 1) ls (.ref r :: rest))) : W p l e R s m args below meth c H locs cells slots Q (F0 m pc ls (.int i :: .ref a :: rest)) := by
  have hlt : i.toNatClampNeg < n := Nat.not_le.mp fun q => hin (Or.inr q)
  exact W.aald (v := .ref r) (ty := .array ty) hexec hb (hP q0 _ ha) ((hK.2 t0 _ ht).1 n (fun j => va_rf (f j))) rfl (fun q => by cases q) (by show ¬ (i < 0 ∨ (arrV _ _ _).slots.size ≤ _); rw [arrV_size]; exact hin) (by show (arrV _ _ _).slots[_]? = _; rw [arrV_read _ _ hlt, hr]; rfl) rfl rfl hdg kk
end MMW
