/-! the words among one another; the heads of contracts -/
section OPEN
theorem gI {y : MethodName} {cc : ByteArray} {n : Nat} {ret : Option FieldType} (h5 : Cond.code y cc n ret ∈ WS) : GoodIn WS (Cond.code y cc n ret :: WS) := fun w h => (List.mem_cons.mp h).elim (fun e => by rw [e]; exact ⟨h5, WS_good _ h5⟩) (fun h => ⟨h, WS_good _ h⟩)
theorem gIW {y : MethodName} {cc : ByteArray} {n : Nat} {ret : Option FieldType} {hh : List (Nat × Nat × Nat × Nat)} (h5 : Cond.codeWith y cc n ret hh ∈ WS) : GoodIn WS (Cond.codeWith y cc n ret hh :: WS) := fun w h => (List.mem_cons.mp h).elim (fun e => by rw [e]; exact ⟨h5, WS_good _ h5⟩) (fun h => ⟨h, WS_good _ h⟩)
theorem gc {w : Cond} {a b : List Cond} (h : w ∈ WS) (k : GoodIn WS (a ++ b)) : GoodIn WS ((w :: a) ++ b) := fun v hv => (List.mem_cons.mp hv).elim (fun e => by rw [e]; exact ⟨h, WS_good _ h⟩) (k v)
theorem gV {own C : String} {idx : Nat} {y : MethodName} {cc : ByteArray} {n : Nat} {ret : Option FieldType} (h1 : Cond.methodLink own idx y ∈ WS) (h2 : Cond.instanceMethod y ∈ WS) (h3 : Cond.selects C y y ∈ WS) (h4 : Cond.initialized C ∈ WS) (h5 : Cond.code y cc n ret ∈ WS) : GoodIn WS (wsV own idx C y (Cond.code y cc n ret :: WS)) := by
  unfold wsV
  exact gc h1 (gc h2 (gc h3 (gc h4 (gI h5))))
theorem gS {own : String} {idx : Nat} {y : MethodName} {cc : ByteArray} {n : Nat} {ret : Option FieldType} (h1 : Cond.methodLink own idx y ∈ WS) (h2 : Cond.static y ∈ WS) (h4 : Cond.initialized y.cls ∈ WS) (h5 : Cond.code y cc n ret ∈ WS) : GoodIn WS (va_wsS own idx y (Cond.code y cc n ret :: WS)) := by
  unfold va_wsS
  exact gc h1 (gc h2 (gc h4 (gI h5)))
theorem gSW {own : String} {idx : Nat} {y : MethodName} {cc : ByteArray} {n : Nat} {ret : Option FieldType} {hh : List (Nat × Nat × Nat × Nat)} (h1 : Cond.methodLink own idx y ∈ WS) (h2 : Cond.static y ∈ WS) (h4 : Cond.initialized y.cls ∈ WS) (h5 : Cond.codeWith y cc n ret hh ∈ WS) : GoodIn WS (va_wsS own idx y (Cond.codeWith y cc n ret hh :: WS)) := by
  unfold va_wsS
  exact gc h1 (gc h2 (gc h4 (gIW h5)))
def Given (p : Program) (y : MethodName) (cc : ByteArray) (nL : Nat) (ret : Option FieldType) (D : va_G) (a1 a2 : Nat) (ws : va_W) (tys : List (ClassId × FieldType)) (av : List Value) (s : State) (m : MethodId) (meth : Method) (c : Code) (A : Nat → Prop) (ls : Array Slot) : Prop :=
  p.tables.exec = Jvm.exec ∧ c.code = cc ∧ meth.sig.returnType = ret ∧ c.maxLocals = nL ∧ s.vm.findClass y.cls = some m.cls ∧ (∀ w ∈ WS, w.before av.toArray s = true) ∧ meth.locks = false ∧ meth.name = y.name ∧ va_P D vwCl ws s.heap ∧ va_K D vwCl tys s ∧ va_D A ws ∧ (∀ q, s.heap.size ≤ q → A q) ∧ xe a1 a2 A s s.heap ∧ va_S A s.heap s.heap [] ∧ lv_has ls nL (lv_args 0 av)
variable {l : Launch} {y : MethodName} {cc : ByteArray} {nL : Nat} {ret : Option FieldType} {rm : Room} {D : va_G} {a1 a2 : Nat} {ws : va_W} {tys : List (ClassId × FieldType)} {sz mc ms : Nat} {av : List Value} {hh : List (Nat × Nat × Nat × Nat)}
theorem given_of {p : Program} {S : Spec} {e : Env} {s s₁ : State} {m : MethodId} {args : Array Value} {below : List Frame} {meth : Method} {c : Code} (Bd : BodyLoose p l y S cc nL ret e s m args below meth c s₁) (hml : c.maxLocals = nL) (hts : ∀ w ∈ WS, w.before args s = true) (hv : va_Pc av (pre D a1 a2 ws tys sz) args s) (hn : (lg_sl av).length ≤ nL) :
    args = av.toArray ∧ s.heap.size = sz ∧ Given p y cc nL ret D a1 a2 ws tys av s m meth c (va_A ws sz) (lg_sl av ++ List.replicate (nL - (lg_sl av).length) Slot.unset).toArray := by
  obtain ⟨rfl, hsz, hP, hK, hD0, hE⟩ := hv
  subst hsz
  exact ⟨rfl, rfl, Bd.exec, Bd.bytes, Bd.returns, hml, findClass_of_methodNamed Bd.named, hts, Bd.notSynchronized, (name_of_methodNamed Bd.named Bd.method).1, hP, hK, hD0.self, fun q h => Or.inr h, hE, va_S.rf, lv_entry av hn⟩
theorem open_Met (hy : plainName y.cls = true) (hn : (lg_sl av).length ≤ nL) (Q : (Nat → Prop) → Array Value → State → Outcome → State → Prop)
    (body : ∀ p e s m below meth c A ls, Given p y cc nL ret D a1 a2 ws tys av s m meth c A ls → W p l e rm s m av.toArray below meth c s.heap [] 0 0 (MQ below (Q A) av.toArray s mc ms A) (F0 m 0 ls [])) :
    Met l y (Cond.code y cc nL ret :: WS) rm (va_Pc av (pre D a1 a2 ws tys sz)) (Q (va_A ws sz)) mc ms (va_A ws sz) := by
  refine Met.ofW (cc := cc) (maxL := nL) (ret := ret) hy rfl ?_
  intro p e s m args below meth c s₁ Bd hml hv
  have hts : ∀ w ∈ WS, w.before args s = true := fun w h => atoms_spec (ws := Cond.code y cc nL ret :: WS) Bd.pre w (List.mem_cons_of_mem _ h)
  obtain ⟨rfl, hsz, hG⟩ := given_of Bd hml hts hv hn
  rw [lg_entry_eq]
  exact body p e s m below meth c _ _ hG
theorem open_vx (hy : plainName y.cls = true) (hn : (lg_sl av).length ≤ nL) (Q : (Nat → Prop) → Array Value → State → Outcome → State → Prop) (X : (Nat → Prop) → String → State → State → Prop)
    (body : ∀ p e s m below meth c A ls, Given p y cc nL ret D a1 a2 ws tys av s m meth c A ls ∧ (∀ x ∈ c.exceptionTable.toList, False) → W p l e rm s m av.toArray below meth c s.heap [] 0 0 (vx_MQ below (Q A) (X A) av.toArray s mc ms A) (F0 m 0 ls [])) :
    vx_Met l y (Cond.code y cc nL ret :: WS) rm (va_Pc av (pre D a1 a2 ws tys sz)) (Q (va_A ws sz)) (X (va_A ws sz)) mc ms (va_A ws sz) := by
  refine vx_ofW (cc := cc) (maxL := nL) (ret := ret) hy rfl ?_
  intro p e s m args below meth c s₁ Bd hml hno hv
  have hts : ∀ w ∈ WS, w.before args s = true := fun w h => atoms_spec (ws := Cond.code y cc nL ret :: WS) Bd.pre w (List.mem_cons_of_mem _ h)
  obtain ⟨rfl, hsz, hG⟩ := given_of Bd hml hts hv hn
  rw [lg_entry_eq]
  exact body p e s m below meth c _ _ ⟨hG, hno⟩
theorem open_H (hy : plainName y.cls = true) (hn : (lg_sl av).length ≤ nL) (Q : (Nat → Prop) → Array Value → State → Outcome → State → Prop) (X : (Nat → Prop) → String → State → State → Prop)
    (body : ∀ p e s m below meth c A ls, Given p y cc nL ret D a1 a2 ws tys av s m meth c A ls ∧ c.exceptionTable.toList = tableOf hh → W p l e rm s m av.toArray below meth c s.heap [] 0 0 (vx_MQ below (Q A) (X A) av.toArray s mc ms A) (F0 m 0 ls [])) :
    vx_Met l y (Cond.codeWith y cc nL ret hh :: WS) rm (va_Pc av (pre D a1 a2 ws tys sz)) (Q (va_A ws sz)) (X (va_A ws sz)) mc ms (va_A ws sz) := by
  refine vx_ofWH (cc := cc) (maxL := nL) (ret := ret) hy rfl ?_
  intro p e s m args below meth c s₁ Bd hml hv
  have hts : ∀ w ∈ WS, w.before args s = true := fun w h => atoms_spec (ws := Cond.codeWith y cc nL ret hh :: WS) Bd.pre w (List.mem_cons_of_mem _ h)
  have hTab := vx_table (x := y) Bd (atoms_spec (ws := Cond.codeWith y cc nL ret hh :: WS) Bd.pre _ List.mem_cons_self)
  obtain ⟨rfl, hsz, hG⟩ := given_of Bd hml hts hv hn
  rw [lg_entry_eq]
  exact body p e s m below meth c _ _ ⟨hG, hTab⟩
/-- a call that always throws -/
theorem never {p : Program} {l : Launch} {e : Env} {R : Room} {s : State} {m : MethodId} {args : Array Value} {below : List Frame} {meth : Method} {c : Code} {H : Heap} {locs : List Loc} {cells slots : Nat} {Q : State → Prop} {mc ms : Nat} {free : Addr → Prop} {A0 : Nat → Prop} {H0 : Heap} {pc : Nat} {ls : Array Slot} {st0 rest : List Value} {Qa : State → Outcome → State → Prop}
    {SX : Type} {px : SX → Prop} {BX : String → SX → State → Prop} {AX : Nat → Prop} (hr : vx_Run p l e R s m args below meth c H locs cells slots mc ms (F0 m pc ls st0) rest Qa (vx_X px BX AX) free) (hQ : ∀ st o t, Qa st o t → False) (hS : va_S A0 H0 H locs) (hf : ∀ q, free q → A0 q) (hAX : ∀ q, q < H.size → AX q → A0 q)
    (kx : ∀ (E : String) (ce : Cell) (q9 : Addr) (u : SX) (t : State) (H1 : Heap) (locs1 : List Loc), t.heap = H1 → s.vm.Alike t.vm → px u → BX E u t → H.size ≤ H1.size → (∀ q : Nat, q < H.size → ¬ AX q → H1[q]? = H[q]?) → va_S A0 H0 H1 locs1 → H1[q9]? = some ce → ce.vm = .none → s.vm.findClass E = some ce.cls → vx_W p l e R s m args below meth c H1 locs1 (cells + mc) (slots + ms) Q (F0 m pc ls rest) q9) : W p l e R s m args below meth c H locs cells slots Q (F0 m pc ls st0) := by
  intro T hT X
  rcases hr T hT X with ⟨v, st₀, t, T', L, h0, X', hL, e1, e2, hq, st⟩ | ⟨q, st₀, t, T', L, E, ce, h0, X', hL, e1, e2, ⟨u, hp, hb, hF⟩, hce, hcv, hcl, st⟩
  · exact (hQ _ _ _ hq).elim
  · obtain ⟨k1, k2, k3⟩ := vx_keep h0 e1 hS hAX hf hL hF
    obtain ⟨t2, a1, b1⟩ := kx E ce q u t T'.heap (locs ++ L) e1.symm (by rw [← e2]; exact X'.warmed.alike) hp hb k1 k2 k3 (by rw [e1]; exact hce) hcv hcl T' rfl X'
    exact ⟨t2, st.trans a1, b1⟩
/-- the reference's first field: what it refused by -/
def thk (k : Int32) (fs : List Value) : Prop := fs[0]? = some (.int k)
end OPEN
