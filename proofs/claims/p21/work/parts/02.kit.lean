/-! OWN KIT: what the tables say that isn't a good word; contracts that read (z1), contracts that write (z2); rows with the result named -/
def gs_W : List Cond := [.methodLinkNest RX0 39 yX5_isFund "UnitContracts", .methodLinkNest RX0 53 yX5_moneyFor "UnitContracts", .methodLinkNest RX0 67 yX5_unitsFor "UnitContracts", .methodLinkNest RX3 19 yX5_isFund "UnitContracts"]
def gs_C : List (String × String) := [("UnitContracts$PremiumOrder", "UnitContracts$Order"), ("UnitContracts$SwitchOrder", "UnitContracts$Order"), ("UnitContracts$PremiumOrder", "java/lang/Object"), ("UnitContracts$SwitchOrder", "java/lang/Object"), ("UnitContracts$Contract", "java/lang/Object"), ("java/lang/IllegalArgumentException", "java/lang/IllegalArgumentException"), ("java/lang/IllegalStateException", "java/lang/IllegalStateException"), ("java/lang/IndexOutOfBoundsException", "java/lang/IndexOutOfBoundsException")]
def gs_N : List (String × String) := []
def gs_S : List (Nat × String) := [(32, "a price is out of range"), (43, "no day is left"), (50, "days is out of range"), (52, "so many days are not left"), (177, "there is no such fund"), (179, "the day is out of range"), (70, "premium is out of range"), (73, "sum is out of range"), (75, "rate is out of range"), (80, "there are 10 contracts"), (185, "there is no such contract"), (181, "the contract has lapsed"), (107, "both funds are the same"), (109, "percent is out of range")]
def gs_D : List MethodName := [⟨"java/lang/RuntimeException", "<init>", "(Ljava/lang/String;)V"⟩, ⟨"java/lang/Exception", "<init>", "(Ljava/lang/String;)V"⟩, ⟨"java/lang/Throwable", "<init>", "(Ljava/lang/String;)V"⟩, ⟨"UnitContracts$Order", "carryOut", "(LUnitContracts$Prices;)V"⟩, ⟨"java/lang/Object", "getClass", "()Ljava/lang/Class;"⟩]
def GS (U : State) : Prop := (∀ w ∈ gs_W, va_Nw w U) ∧ (∀ q ∈ gs_C, va_Nw (.castable q.1 q.2) U) ∧ (∀ q ∈ gs_N, va_Nc q.1 q.2 U) ∧ (∀ q ∈ gs_S, ∃ a, vk_R RX5 q.1 q.2 a U) ∧ (∀ y ∈ gs_D, va_Nw (.declares y) U) ∧ (∃ mi, va_Mi "[Ljava/lang/Object;" mi U) ∧ va_AO "java/lang/Object" U
theorem gs_Wt : ∀ w ∈ gs_W, w.onTables = true := by
  intro w hw
  simp only [gs_W, List.mem_cons, List.not_mem_nil, or_false] at hw
  rcases hw with rfl | rfl | rfl | rfl <;> rfl
theorem GS.same {u U : State} (h : u.vm = U.vm) (G : GS u) : GS U := by
  have hal : u.vm.Alike U.vm := by rw [h]; exact Vm.Alike.refl U.vm
  obtain ⟨g1, g2, g3, g4, g5, ⟨mi, g6⟩, g7⟩ := G
  exact ⟨fun w hw => va_Nw.same (gs_Wt w hw) h (g1 w hw), fun q hq => va_Nw.same rfl h (g2 q hq), fun q hq => va_Nc.moved hal (g3 q hq), fun q hq => (g4 q hq).elim fun a ha => ⟨a, vk_R.same h.symm ha⟩, fun y hy => va_Nw.same rfl h (g5 y hy), ⟨mi, va_Mi.moved hal g6⟩, va_AO.moved hal g7⟩
theorem GS.warm {s U : State} (hW : s.WarmedH U.vm) (G : GS s) : GS U := by
  obtain ⟨g1, g2, g3, g4, g5, ⟨mi, g6⟩, g7⟩ := G
  refine ⟨fun w hw => ?_, fun q hq => va_Nw.warmC hW (g2 q hq), fun q hq => va_Nc.moved hW.alike (g3 q hq), fun q hq => (g4 q hq).elim fun a ha => ⟨a, vk_R.warm hW ha⟩, fun y hy => va_Nw.warmD hW (g5 y hy), ⟨mi, va_Mi.moved hW.alike g6⟩, va_AO.moved hW.alike g7⟩
  have h1 := g1 w hw
  simp only [gs_W, List.mem_cons, List.not_mem_nil, or_false] at hw
  rcases hw with rfl | rfl | rfl | rfl <;> exact va_Nw.warmM hW h1
theorem GS.calling {U : State} (G : GS U) (g : JFrame) (mk : MethodId) (a : Array Value) : GS (U.calling g mk a) := GS.same (u := U) rfl G
/-- what the heap holds beside the worlds: ArrayList's empty row, Throwable's two statics -/
def HS (A : Nat → Prop) (em : Nat) (U : State) (H : Heap) : Prop := va_Z "java/util/ArrayList" "DEFAULTCAPACITY_EMPTY_ELEMENTDATA" "[Ljava/lang/Object;" (.ref em) A U H ∧ va_T (.object "java/lang/Object") em 0 (fun _ => .null) A U H ∧ vx_Zq Bundle.tN "UNASSIGNED_STACK" Bundle.steD A U H ∧ vx_Zq Bundle.tN "SUPPRESSED_SENTINEL" Bundle.listD A U H
theorem HS.moved {A : Nat → Prop} {em : Nat} {u U : State} {H : Heap} (h : u.vm.Alike U.vm) (G : HS A em u H) : HS A em U H := ⟨va_Z.moved h G.1, va_T.moved h G.2.1, vx_Zq.moved h G.2.2.1, vx_Zq.moved h G.2.2.2⟩
theorem HS.kept {A : Nat → Prop} {em : Nat} {U : State} {H H1 : Heap} (G : HS A em U H) (hq : ∀ a : Nat, a < H.size → ¬ A a → H1[a]? = H[a]?) : HS A em U H1 := ⟨va_Z.kept G.1 hq, va_T.kept G.2.1 hq, vx_Zq.kept G.2.2.1 hq, vx_Zq.kept G.2.2.2 hq⟩
theorem HS.narrow {A B : Nat → Prop} {em : Nat} {U : State} {H : Heap} (G : HS A em U H) (hAB : ∀ q, B q → A q) : HS B em U H := ⟨va_Z.narrow G.1 hAB, va_T.narrow G.2.1 hAB, vx_Zq.narrow G.2.2.1 hAB, vx_Zq.narrow G.2.2.2 hAB⟩
theorem HS.na {A : Nat → Prop} {em : Nat} {U : State} {H : Heap} (G : HS A em U H) : ¬ A em := G.2.1.choose_spec.2.2.2.2.2.2
/-- a premise of the state and its heap, that asks the tables for no more than they keep -/
def XM (X : State → Heap → Prop) : Prop := ∀ (u U : State) (H : Heap), u.vm.Alike U.vm → X u H → X U H
theorem XM.t : XM (fun _ _ => True) := fun _ _ _ _ _ => trivial
theorem XM.and {X Y : State → Heap → Prop} (hX : XM X) (hY : XM Y) : XM (fun U H => X U H ∧ Y U H) := fun u U H h q => ⟨hX u U H h q.1, hY u U H h q.2⟩
theorem XM.hs {A : Nat → Prop} {em : Nat} : XM (HS A em) := fun _ _ _ h q => q.moved h
theorem any_moved {E : String} {u U : State} {H : Heap} {a : Nat} (h : u.vm.Alike U.vm) (G : va_Any E u H a) : va_Any E U H a := by
  obtain ⟨ce, h1, h2, ⟨kC, h3⟩, h4⟩ := G
  obtain ⟨k', hk', -⟩ := h.2.2 _ _ h3
  exact ⟨ce, h1, h2, ⟨k', hk'⟩, fun comp hc => by rw [h.assignable]; exact h4 comp (by rw [← h.findClass]; exact hc)⟩
theorem any_kept {E : String} {U : State} {H H1 : Heap} {a : Nat} (G : va_Any E U H a) (h : H1[a]? = H[a]?) : va_Any E U H1 a := by
  obtain ⟨ce, h1, h2⟩ := G
  exact ⟨ce, by rw [h]; exact h1, h2⟩
theorem any_lt {E : String} {U : State} {H : Heap} {a : Nat} (G : va_Any E U H a) : a < H.size := by
  obtain ⟨ce, h1, -⟩ := G
  exact (Array.getElem?_eq_some_iff.mp h1).1
/-- the things that a list holds: none of them is among the cells A -/
def EL (A : Nat → Prop) (f : Nat → Option Nat) (n : Nat) (U : State) (H : Heap) : Prop := ∀ i : Nat, i < n → ∀ y : Nat, f i = some y → ¬ A y ∧ va_Any "java/lang/Object" U H y
def EV (A : Nat → Prop) (v : Nat) (U : State) (H : Heap) : Prop := ¬ A v ∧ va_Any "java/lang/Object" U H v
theorem XM.el {A : Nat → Prop} {f : Nat → Option Nat} {n : Nat} : XM (EL A f n) := fun _ _ _ h q i hi y hy => ⟨(q i hi y hy).1, any_moved h (q i hi y hy).2⟩
theorem XM.ev {A : Nat → Prop} {v : Nat} : XM (EV A v) := fun _ _ _ h q => ⟨q.1, any_moved h q.2⟩
theorem EV.at {A : Nat → Prop} {v : Nat} {s : State} {H : Heap} {locs : List Loc} (h : EV A v s s.heap) (hS : va_S A s.heap H locs) : va_Any "java/lang/Object" s H v := any_kept h.2 (hS.2.1 v (any_lt h.2) h.1)
theorem EL.at {A : Nat → Prop} {f : Nat → Option Nat} {n : Nat} {s : State} {H : Heap} {locs : List Loc} (h : EL A f n s s.heap) (hS : va_S A s.heap H locs) : ∀ i : Nat, i < n → ∀ y : Nat, f i = some y → va_Any "java/lang/Object" s H y := fun i hi y hy => any_kept (h i hi y hy).2 (hS.2.1 y (any_lt (h i hi y hy).2) (h i hi y hy).1)
theorem cA_eq {D : va_G} {tys : List (ClassId × FieldType)} {s : State} (hK : va_K D vwCl tys s) (i j : Nat) {c1 c2 : ClassId} {ty : FieldType} (h1 : tys[i]? = some (c1, ty)) (h2 : tys[j]? = some (c2, ty)) : c1 = c2 := by
  have a1 := (hK.2 i _ h1).2
  have a2 := (hK.2 j _ h2).2
  cases ty with
  | object C =>
    obtain ⟨_, _, _, _, _, e1⟩ := a1
    obtain ⟨_, _, _, _, _, e2⟩ := a2
    exact Option.some.inj (e1.symm.trans e2)
  | _ => exact Option.some.inj ((show _ = some c1 from a1).symm.trans (show _ = some c2 from a2))
section ZP
variable {D : va_G} {wd : va_W} {tys : List (ClassId × FieldType)} {av : List Value} {s : State} {H : Heap} {sz : Nat}
def z0 (av : List Value) : Array Value → State → Prop := va_Pc av (fun _ => True)
theorem z0_S : PreS s H (z0 av) av := ⟨fun _ _ _ _ q => q, fun _ _ _ => ⟨rfl, trivial⟩⟩
def z1 (D : va_G) (wd : va_W) (tys : List (ClassId × FieldType)) (av : List Value) : Array Value → State → Prop := va_Pc av (fun U => va_P D vwCl wd U.heap ∧ va_K D vwCl tys U ∧ GS U)
theorem z1_blind : FrameBlind (z1 D wd tys av) := fun a U g mk q => by
  obtain ⟨q0, qP, qK, qG⟩ := q
  exact ⟨q0, qP, va_K.moved (u := U) (U := U.calling g mk a) (Vm.Alike.refl U.vm) qK, qG.calling g mk a⟩
theorem z1_S (hP : va_P D vwCl wd H) (hK : va_K D vwCl tys s) (hG : GS s) : PreS s H (z1 D wd tys av) av :=
  ⟨z1_blind, fun U hU hW => ⟨rfl, by rw [hU]; exact hP, va_K.moved hW.alike hK, hG.warm hW⟩⟩
theorem z1_V {b : Nat} {C : String} (hr : ∃ cell : Cell, H[b]? = some cell ∧ cell.vm.isStatics = false ∧ s.vm.findClass C = some cell.cls) (hP : va_P D vwCl wd H) (hK : va_K D vwCl tys s) (hG : GS s) : PreV s H C b (z1 D wd tys (.ref b :: av)) av :=
  ⟨z1_blind, hr, fun U hU hW => ⟨rfl, by rw [hU]; exact hP, va_K.moved hW.alike hK, hG.warm hW⟩⟩
def z2 (D : va_G) (wd : va_W) (tys : List (ClassId × FieldType)) (sz : Nat) (av : List Value) : Array Value → State → Prop := va_Pc av (fun U => U.heap.size = sz ∧ va_P D vwCl wd U.heap ∧ va_K D vwCl tys U ∧ va_D (fun _ => True) wd ∧ GS U)
theorem z2_blind : FrameBlind (z2 D wd tys sz av) := fun a U g mk q => by
  obtain ⟨q0, q1, qP, qK, qD, qG⟩ := q
  exact ⟨q0, q1, qP, va_K.moved (u := U) (U := U.calling g mk a) (Vm.Alike.refl U.vm) qK, qD, qG.calling g mk a⟩
theorem z2_S {A : Nat → Prop} (hP : va_P D vwCl wd H) (hK : va_K D vwCl tys s) (hD : va_D A wd) (hG : GS s) : PreS s H (z2 D wd tys H.size av) av :=
  ⟨z2_blind, fun U hU hW => ⟨rfl, by rw [hU], by rw [hU]; exact hP, va_K.moved hW.alike hK, hD.weaken (fun _ _ _ _ => trivial), hG.warm hW⟩⟩
theorem z2_V {A : Nat → Prop} {b : Nat} {C : String} (hr : ∃ cell : Cell, H[b]? = some cell ∧ cell.vm.isStatics = false ∧ s.vm.findClass C = some cell.cls) (hP : va_P D vwCl wd H) (hK : va_K D vwCl tys s) (hD : va_D A wd) (hG : GS s) : PreV s H C b (z2 D wd tys H.size (.ref b :: av)) av :=
  ⟨z2_blind, hr, fun U hU hW => ⟨rfl, by rw [hU], by rw [hU]; exact hP, va_K.moved hW.alike hK, hD.weaken (fun _ _ _ _ => trivial), hG.warm hW⟩⟩
/-- a contract's start with a premise of its own (X) beside the world -/
def zq (D : va_G) (wd : va_W) (tys : List (ClassId × FieldType)) (sz : Nat) (av : List Value) (X : State → Heap → Prop) : Array Value → State → Prop := va_Pc av (fun U => U.heap.size = sz ∧ va_P D vwCl wd U.heap ∧ va_K D vwCl tys U ∧ va_D (fun _ => True) wd ∧ GS U ∧ X U U.heap)
theorem zq_blind {X : State → Heap → Prop} (hX : XM X) : FrameBlind (zq D wd tys sz av X) := fun a U g mk q => by
  obtain ⟨q0, q1, qP, qK, qD, qG, qX⟩ := q
  exact ⟨q0, q1, qP, va_K.moved (u := U) (U := U.calling g mk a) (Vm.Alike.refl U.vm) qK, qD, qG.calling g mk a, hX U (U.calling g mk a) _ (Vm.Alike.refl U.vm) qX⟩
theorem zq_S {A : Nat → Prop} {X : State → Heap → Prop} (hX : XM X) (hP : va_P D vwCl wd H) (hK : va_K D vwCl tys s) (hD : va_D A wd) (hG : GS s) (hx : X s H) : PreS s H (zq D wd tys H.size av X) av :=
  ⟨zq_blind hX, fun U hU hW => ⟨rfl, by rw [hU], by rw [hU]; exact hP, va_K.moved hW.alike hK, hD.weaken (fun _ _ _ _ => trivial), hG.warm hW, by rw [hU]; exact hX s U H hW.alike hx⟩⟩
theorem zq_V {A : Nat → Prop} {b : Nat} {C : String} {X : State → Heap → Prop} (hX : XM X) (hr : ∃ cell : Cell, H[b]? = some cell ∧ cell.vm.isStatics = false ∧ s.vm.findClass C = some cell.cls) (hP : va_P D vwCl wd H) (hK : va_K D vwCl tys s) (hD : va_D A wd) (hG : GS s) (hx : X s H) : PreV s H C b (zq D wd tys H.size (.ref b :: av) X) av :=
  ⟨zq_blind hX, hr, fun U hU hW => ⟨rfl, by rw [hU], by rw [hU]; exact hP, va_K.moved hW.alike hK, hD.weaken (fun _ _ _ _ => trivial), hG.warm hW, by rw [hU]; exact hX s U H hW.alike hx⟩⟩
/-- the world behind a method that writes -/
def zB (D : va_G) (tys : List (ClassId × FieldType)) (wf : va_W) (A : Nat → Prop) : Unit → State → Prop := fun _ t => va_P D vwCl wf t.heap ∧ va_K D vwCl tys t ∧ va_D A wf
end ZP
section ZM
variable {l : Launch} {y : MethodName} {ws ws' : List Cond} {rm : Room} {Qc : Array Value → State → Outcome → State → Prop} {mc ms : Nat} {free : Addr → Prop} {cc : ByteArray} {maxL : Nat} {ret : Option FieldType} {D : va_G} {wd : va_W} {tys : List (ClassId × FieldType)} {av : List Value} {sz : Nat}
theorem zm0 (hy : plainName y.cls = true) (hw : ws = Cond.code y cc maxL ret :: ws') (hn : (lg_sl av).length ≤ maxL)
    (body : ∀ (p : Program) (e : Env) (s : State) (m : MethodId) (below : List Frame) (meth : Method) (c : Code) (ls : Array Slot), p.tables.exec = Jvm.exec → c.code = cc → c.maxLocals = maxL → meth.sig.returnType = ret → meth.locks = false → s.vm.findClass y.cls = some m.cls → (∀ w ∈ ws, w.before av.toArray s = true) → lv_has ls maxL (lv_args 0 av) →
      W p l e rm s m av.toArray below meth c s.heap [] 0 0 (MQ below Qc av.toArray s mc ms free) (F0 m 0 ls [])) : Met l y ws rm (z0 av) Qc mc ms free := by
  refine Met.ofW (cc := cc) (maxL := maxL) (ret := ret) hy hw ?_
  intro p e s m args below meth c s₁ B hml hv
  obtain ⟨rfl, -⟩ := hv
  rw [lg_entry_eq]
  exact body p e s m below meth c _ B.exec B.bytes hml B.returns B.notSynchronized (findClass_of_methodNamed B.named) (atoms_spec (ws := ws) B.pre) (lv_entry av hn)
theorem zm1 (hy : plainName y.cls = true) (hw : ws = Cond.code y cc maxL ret :: ws') (hn : (lg_sl av).length ≤ maxL)
    (body : ∀ (p : Program) (e : Env) (s : State) (m : MethodId) (below : List Frame) (meth : Method) (c : Code) (ls : Array Slot), p.tables.exec = Jvm.exec → c.code = cc → c.maxLocals = maxL → meth.sig.returnType = ret → meth.locks = false → s.vm.findClass y.cls = some m.cls → (∀ w ∈ ws, w.before av.toArray s = true) → va_P D vwCl wd s.heap → va_K D vwCl tys s → GS s → lv_has ls maxL (lv_args 0 av) →
      W p l e rm s m av.toArray below meth c s.heap [] 0 0 (MQ below Qc av.toArray s mc ms free) (F0 m 0 ls [])) : Met l y ws rm (z1 D wd tys av) Qc mc ms free := by
  refine Met.ofW (cc := cc) (maxL := maxL) (ret := ret) hy hw ?_
  intro p e s m args below meth c s₁ B hml hv
  obtain ⟨rfl, hP, hK, hG⟩ := hv
  rw [lg_entry_eq]
  exact body p e s m below meth c _ B.exec B.bytes hml B.returns B.notSynchronized (findClass_of_methodNamed B.named) (atoms_spec (ws := ws) B.pre) hP hK hG (lv_entry av hn)
theorem zm2 (hy : plainName y.cls = true) (hw : ws = Cond.code y cc maxL ret :: ws') (hn : (lg_sl av).length ≤ maxL)
    (body : ∀ (p : Program) (e : Env) (s : State) (m : MethodId) (below : List Frame) (meth : Method) (c : Code) (ls : Array Slot) (A : Nat → Prop), A = va_A wd sz → s.heap.size = sz → (meth.name = y.name) → p.tables.exec = Jvm.exec → c.code = cc → c.maxLocals = maxL → meth.sig.returnType = ret → meth.locks = false → s.vm.findClass y.cls = some m.cls → (∀ w ∈ ws, w.before av.toArray s = true) → va_P D vwCl wd s.heap → va_K D vwCl tys s → GS s → va_D A wd → (∀ q : Nat, s.heap.size ≤ q → A q) → va_S A s.heap s.heap [] → lv_has ls maxL (lv_args 0 av) →
      W p l e rm s m av.toArray below meth c s.heap [] 0 0 (MQ below Qc av.toArray s mc ms free) (F0 m 0 ls [])) : Met l y ws rm (z2 D wd tys sz av) Qc mc ms free := by
  refine Met.ofW (cc := cc) (maxL := maxL) (ret := ret) hy hw ?_
  intro p e s m args below meth c s₁ B hml hv
  obtain ⟨rfl, hsz, hP, hK, hD, hG⟩ := hv
  rw [lg_entry_eq]
  exact body p e s m below meth c _ _ rfl hsz (name_of_methodNamed B.named B.method).1 B.exec B.bytes hml B.returns B.notSynchronized (findClass_of_methodNamed B.named) (atoms_spec (ws := ws) B.pre) hP hK hG hD.self (fun q h => Or.inr (by rw [← hsz]; exact h)) va_S.rf (lv_entry av hn)
theorem zmq {X : State → Heap → Prop} (hy : plainName y.cls = true) (hw : ws = Cond.code y cc maxL ret :: ws') (hn : (lg_sl av).length ≤ maxL)
    (body : ∀ (p : Program) (e : Env) (s : State) (m : MethodId) (below : List Frame) (meth : Method) (c : Code) (ls : Array Slot) (A : Nat → Prop), A = va_A wd sz → s.heap.size = sz → (meth.name = y.name) → p.tables.exec = Jvm.exec → c.code = cc → c.maxLocals = maxL → meth.sig.returnType = ret → meth.locks = false → s.vm.findClass y.cls = some m.cls → (∀ w ∈ ws, w.before av.toArray s = true) → va_P D vwCl wd s.heap → va_K D vwCl tys s → GS s → va_D A wd → (∀ q : Nat, s.heap.size ≤ q → A q) → va_S A s.heap s.heap [] → X s s.heap → lv_has ls maxL (lv_args 0 av) →
      W p l e rm s m av.toArray below meth c s.heap [] 0 0 (MQ below Qc av.toArray s mc ms free) (F0 m 0 ls [])) : Met l y ws rm (zq D wd tys sz av X) Qc mc ms free := by
  refine Met.ofW (cc := cc) (maxL := maxL) (ret := ret) hy hw ?_
  intro p e s m args below meth c s₁ B hml hv
  obtain ⟨rfl, hsz, hP, hK, hD, hG, hX⟩ := hv
  rw [lg_entry_eq]
  exact body p e s m below meth c _ _ rfl hsz (name_of_methodNamed B.named B.method).1 B.exec B.bytes hml B.returns B.notSynchronized (findClass_of_methodNamed B.named) (atoms_spec (ws := ws) B.pre) hP hK hG hD.self (fun q h => Or.inr (by rw [← hsz]; exact h)) va_S.rf hX (lv_entry av hn)
end ZM
section ZR
variable {p : Program} {l : Launch} {e : Env} {R : Room} {s : State} {m : MethodId} {args : Array Value} {below : List Frame} {meth : Method} {c : Code} {cc : ByteArray} {H H0 : Heap} {locs : List Loc} {cells slots mc ms : Nat} {Q : State → Prop} {pc : Nat} {ls : Array Slot} {rest : List Value} {D : va_G} {wd : va_W} {tys : List (ClassId × FieldType)} {a : Nat} {A : Nat → Prop} {free : Addr → Prop}
/-- a value of two roads, one walk behind them -/
theorem zj {T : Type} {fr : T → JFrame} {g : JFrame} (v : T) (k1 : ∀ z : T, z = v → W p l e R s m args below meth c H locs cells slots Q (fr z)) (k2 : (∀ z : T, z = v → W p l e R s m args below meth c H locs cells slots Q (fr z)) → W p l e R s m args below meth c H locs cells slots Q g) : W p l e R s m args below meth c H locs cells slots Q g := k2 k1
theorem zx_iadd (hx : p.tables.exec = Jvm.exec) (hb : c.code = cc) {x y v : Int32} (hdg : decode cc pc = .ok (.iadd, 1)) (h : x + y = v) (k : W p l e R s m args below meth c H locs cells slots Q (F0 m (pc + 1) ls (.int v :: rest))) : W p l e R s m args below meth c H locs cells slots Q (F0 m pc ls (.int y :: .int x :: rest)) := by subst h; exact lv_iadd hx hb hdg k
theorem zx_isub (hx : p.tables.exec = Jvm.exec) (hb : c.code = cc) {x y v : Int32} (hdg : decode cc pc = .ok (.isub, 1)) (h : x - y = v) (k : W p l e R s m args below meth c H locs cells slots Q (F0 m (pc + 1) ls (.int v :: rest))) : W p l e R s m args below meth c H locs cells slots Q (F0 m pc ls (.int y :: .int x :: rest)) := by subst h; exact lv_isub hx hb hdg k
theorem zx_imul (hx : p.tables.exec = Jvm.exec) (hb : c.code = cc) {x y v : Int32} (hdg : decode cc pc = .ok (.imul, 1)) (h : x * y = v) (k : W p l e R s m args below meth c H locs cells slots Q (F0 m (pc + 1) ls (.int v :: rest))) : W p l e R s m args below meth c H locs cells slots Q (F0 m pc ls (.int y :: .int x :: rest)) := by subst h; exact lv_imul hx hb hdg k
theorem zx_idiv (hx : p.tables.exec = Jvm.exec) (hb : c.code = cc) {x y v : Int32} (hdg : decode cc pc = .ok (.idiv, 1)) (hne : ¬ y = 0) (h : x / y = v) (k : W p l e R s m args below meth c H locs cells slots Q (F0 m (pc + 1) ls (.int v :: rest))) : W p l e R s m args below meth c H locs cells slots Q (F0 m pc ls (.int y :: .int x :: rest)) := by subst h; exact lv_idiv hx hb hdg hne k
theorem zx_iand (hx : p.tables.exec = Jvm.exec) (hb : c.code = cc) {x y v : Int32} (hdg : decode cc pc = .ok (.iand, 1)) (h : x &&& y = v) (k : W p l e R s m args below meth c H locs cells slots Q (F0 m (pc + 1) ls (.int v :: rest))) : W p l e R s m args below meth c H locs cells slots Q (F0 m pc ls (.int y :: .int x :: rest)) := by subst h; exact lv_iand hx hb hdg k
theorem zx_ladd (hx : p.tables.exec = Jvm.exec) (hb : c.code = cc) {x y v : Int64} (hdg : decode cc pc = .ok (.ladd, 1)) (h : x + y = v) (k : W p l e R s m args below meth c H locs cells slots Q (F0 m (pc + 1) ls (.long v :: rest))) : W p l e R s m args below meth c H locs cells slots Q (F0 m pc ls (.long y :: .long x :: rest)) := by subst h; exact lv_ladd hx hb hdg k
theorem zx_lsub (hx : p.tables.exec = Jvm.exec) (hb : c.code = cc) {x y v : Int64} (hdg : decode cc pc = .ok (.lsub, 1)) (h : x - y = v) (k : W p l e R s m args below meth c H locs cells slots Q (F0 m (pc + 1) ls (.long v :: rest))) : W p l e R s m args below meth c H locs cells slots Q (F0 m pc ls (.long y :: .long x :: rest)) := by subst h; exact lv_lsub hx hb hdg k
theorem zx_lmul (hx : p.tables.exec = Jvm.exec) (hb : c.code = cc) {x y v : Int64} (hdg : decode cc pc = .ok (.lmul, 1)) (h : x * y = v) (k : W p l e R s m args below meth c H locs cells slots Q (F0 m (pc + 1) ls (.long v :: rest))) : W p l e R s m args below meth c H locs cells slots Q (F0 m pc ls (.long y :: .long x :: rest)) := by subst h; exact lv_lmul hx hb hdg k
theorem zx_ldiv (hx : p.tables.exec = Jvm.exec) (hb : c.code = cc) {x y v : Int64} (hdg : decode cc pc = .ok (.ldiv, 1)) (hne : ¬ y = 0) (h : x / y = v) (k : W p l e R s m args below meth c H locs cells slots Q (F0 m (pc + 1) ls (.long v :: rest))) : W p l e R s m args below meth c H locs cells slots Q (F0 m pc ls (.long y :: .long x :: rest)) := by subst h; exact lv_ldiv hx hb hdg hne k
theorem zx_lcmp_le (hx : p.tables.exec = Jvm.exec) (hb : c.code = cc) {x y : Int64} {off : Int} {tgt : Nat} (d1 : decode cc pc = .ok (.lcmp, 1)) (d2 : decode cc (pc + 1) = .ok (.ifCond .le off, 3)) (ht : ((pc + 1 : Nat) : Int) + off = (tgt : Int))
    (kt : x ≤ y → W p l e R s m args below meth c H locs cells slots Q (F0 m tgt ls rest)) (kf : ¬ x ≤ y → W p l e R s m args below meth c H locs cells slots Q (F0 m (pc + 1 + 3) ls rest)) : W p l e R s m args below meth c H locs cells slots Q (F0 m pc ls (.long y :: .long x :: rest)) :=
  W.lcmp hx hb d1 (lv_if_le hx hb d2 ht (fun h => kt ((lg_cmp_le x y).mp h)) (fun h => kf (fun q => h ((lg_cmp_le x y).mpr q))))
theorem zx_lcmp_lt (hx : p.tables.exec = Jvm.exec) (hb : c.code = cc) {x y : Int64} {off : Int} {tgt : Nat} (d1 : decode cc pc = .ok (.lcmp, 1)) (d2 : decode cc (pc + 1) = .ok (.ifCond .lt off, 3)) (ht : ((pc + 1 : Nat) : Int) + off = (tgt : Int))
    (kt : x < y → W p l e R s m args below meth c H locs cells slots Q (F0 m tgt ls rest)) (kf : ¬ x < y → W p l e R s m args below meth c H locs cells slots Q (F0 m (pc + 1 + 3) ls rest)) : W p l e R s m args below meth c H locs cells slots Q (F0 m pc ls (.long y :: .long x :: rest)) :=
  W.lcmp hx hb d1 (lv_if_lt hx hb d2 ht (fun h => kt ((lg_cmp_lt x y).mp h)) (fun h => kf (fun q => h ((lg_cmp_lt x y).mpr q))))
theorem zx_lcmp_ge (hx : p.tables.exec = Jvm.exec) (hb : c.code = cc) {x y : Int64} {off : Int} {tgt : Nat} (d1 : decode cc pc = .ok (.lcmp, 1)) (d2 : decode cc (pc + 1) = .ok (.ifCond .ge off, 3)) (ht : ((pc + 1 : Nat) : Int) + off = (tgt : Int))
    (kt : y ≤ x → W p l e R s m args below meth c H locs cells slots Q (F0 m tgt ls rest)) (kf : ¬ y ≤ x → W p l e R s m args below meth c H locs cells slots Q (F0 m (pc + 1 + 3) ls rest)) : W p l e R s m args below meth c H locs cells slots Q (F0 m pc ls (.long y :: .long x :: rest)) :=
  W.lcmp hx hb d1 (lv_if_ge hx hb d2 ht (fun h => kt ((lg_cmp_ge x y).mp h)) (fun h => kf (fun q => h ((lg_cmp_ge x y).mpr q))))
theorem zx_lcmp_eq (hx : p.tables.exec = Jvm.exec) (hb : c.code = cc) {x y : Int64} {off : Int} {tgt : Nat} (d1 : decode cc pc = .ok (.lcmp, 1)) (d2 : decode cc (pc + 1) = .ok (.ifCond .eq off, 3)) (ht : ((pc + 1 : Nat) : Int) + off = (tgt : Int))
    (kt : x = y → W p l e R s m args below meth c H locs cells slots Q (F0 m tgt ls rest)) (kf : ¬ x = y → W p l e R s m args below meth c H locs cells slots Q (F0 m (pc + 1 + 3) ls rest)) : W p l e R s m args below meth c H locs cells slots Q (F0 m pc ls (.long y :: .long x :: rest)) :=
  W.lcmp hx hb d1 (lv_if_eq hx hb d2 ht (fun h => kt ((lg_cmp_eq x y).mp h)) (fun h => kf (fun q => h ((lg_cmp_eq x y).mpr q))))
theorem zx_lald (hx : p.tables.exec = Jvm.exec) (hb : c.code = cc) (hK : va_K D vwCl tys s) (hP : va_P D vwCl wd H) (q0 t0 : Nat) {cA : ClassId} {n : Nat} {f : Nat → Int64} (ha : wd[q0]? = some (a, .inl (cA, n, .inr (.inl f)))) (ht : tys[t0]? = some (cA, .long)) {k : Nat} {v : Int64} (hv : f k = v) (hk : k < n) (hn : n < 2 ^ 31) (hdg : decode cc pc = .ok (.laload, 1))
    (kk : W p l e R s m args below meth c H locs cells slots Q (F0 m (pc + 1) ls (.long v :: rest))) : W p l e R s m args below meth c H locs cells slots Q (F0 m pc ls (.int (nI k) :: .ref a :: rest)) :=
  va_lald hx hb hK hP q0 t0 ha ht (vp_in_nI hk hn) hdg (by rw [nI_clamp (Nat.lt_trans hk hn)]; rw [hv]; exact kk)
theorem zx_iald (hx : p.tables.exec = Jvm.exec) (hb : c.code = cc) (hK : va_K D vwCl tys s) (hP : va_P D vwCl wd H) (q0 t0 : Nat) {cA : ClassId} {n : Nat} {f : Nat → Int32} (ha : wd[q0]? = some (a, .inl (cA, n, .inl f))) (ht : tys[t0]? = some (cA, .int)) {k : Nat} {v : Int32} (hv : f k = v) (hk : k < n) (hn : n < 2 ^ 31) (hdg : decode cc pc = .ok (.iaload, 1))
    (kk : W p l e R s m args below meth c H locs cells slots Q (F0 m (pc + 1) ls (.int v :: rest))) : W p l e R s m args below meth c H locs cells slots Q (F0 m pc ls (.int (nI k) :: .ref a :: rest)) :=
  va_iald hx hb hK hP q0 t0 ha ht (vp_in_nI hk hn) hdg (by rw [nI_clamp (Nat.lt_trans hk hn)]; rw [hv]; exact kk)
theorem zx_zald (hx : p.tables.exec = Jvm.exec) (hb : c.code = cc) (hK : va_K D vwCl tys s) (hP : va_P D vwCl wd H) (q0 t0 : Nat) {cA : ClassId} {n : Nat} {f : Nat → Int32} (ha : wd[q0]? = some (a, .inl (cA, n, .inl f))) (ht : tys[t0]? = some (cA, .boolean)) {k : Nat} {v : Int32} (hv : f k = v) (hk : k < n) (hn : n < 2 ^ 31) (hdg : decode cc pc = .ok (.baload, 1))
    (kk : W p l e R s m args below meth c H locs cells slots Q (F0 m (pc + 1) ls (.int v :: rest))) : W p l e R s m args below meth c H locs cells slots Q (F0 m pc ls (.int (nI k) :: .ref a :: rest)) :=
  va_zald hx hb hK hP q0 t0 ha ht (vp_in_nI hk hn) hdg (by rw [nI_clamp (Nat.lt_trans hk hn)]; rw [hv]; exact kk)
theorem zx_last (hx : p.tables.exec = Jvm.exec) (hb : c.code = cc) (hK : va_K D vwCl tys s) (hP : va_P D vwCl wd H) (hD : va_D A wd) (hS : va_S A H0 H locs) (q0 t0 : Nat) {cA : ClassId} {n : Nat} {f : Nat → Int64} (ha : wd[q0]? = some (a, .inl (cA, n, .inr (.inl f)))) (ht : tys[t0]? = some (cA, .long)) {k : Nat} {x : Int64} (hk : k < n) (hn : n < 2 ^ 31) (hdg : decode cc pc = .ok (.lastore, 1))
    (kk : ∀ (H1 : Heap) (locs1 : List Loc), va_P D vwCl (wd.set q0 (a, .inl (cA, n, .inr (.inl (vp_updL f k x))))) H1 → va_D A (wd.set q0 (a, .inl (cA, n, .inr (.inl (vp_updL f k x))))) → va_S A H0 H1 locs1 → W p l e R s m args below meth c H1 locs1 cells slots Q (F0 m (pc + 1) ls rest)) : W p l e R s m args below meth c H locs cells slots Q (F0 m pc ls (.long x :: .int (nI k) :: .ref a :: rest)) :=
  va_last hx hb hK hP hD hS q0 t0 ha ht (vp_in_nI hk hn) hdg (by rw [nI_clamp (Nat.lt_trans hk hn)]; exact kk)
theorem zx_iast (hx : p.tables.exec = Jvm.exec) (hb : c.code = cc) (hK : va_K D vwCl tys s) (hP : va_P D vwCl wd H) (hD : va_D A wd) (hS : va_S A H0 H locs) (q0 t0 : Nat) {cA : ClassId} {n : Nat} {f : Nat → Int32} (ha : wd[q0]? = some (a, .inl (cA, n, .inl f))) (ht : tys[t0]? = some (cA, .int)) {k : Nat} {x : Int32} (hk : k < n) (hn : n < 2 ^ 31) (hdg : decode cc pc = .ok (.iastore, 1))
    (kk : ∀ (H1 : Heap) (locs1 : List Loc), va_P D vwCl (wd.set q0 (a, .inl (cA, n, .inl (upd f k x)))) H1 → va_D A (wd.set q0 (a, .inl (cA, n, .inl (upd f k x)))) → va_S A H0 H1 locs1 → W p l e R s m args below meth c H1 locs1 cells slots Q (F0 m (pc + 1) ls rest)) : W p l e R s m args below meth c H locs cells slots Q (F0 m pc ls (.int x :: .int (nI k) :: .ref a :: rest)) :=
  va_iast hx hb hK hP hD hS q0 t0 ha ht (vp_in_nI hk hn) hdg (by rw [nI_clamp (Nat.lt_trans hk hn)]; exact kk)
theorem zx_zast (hx : p.tables.exec = Jvm.exec) (hb : c.code = cc) (hK : va_K D vwCl tys s) (hP : va_P D vwCl wd H) (hD : va_D A wd) (hS : va_S A H0 H locs) (q0 t0 : Nat) {cA : ClassId} {n : Nat} {f : Nat → Int32} (ha : wd[q0]? = some (a, .inl (cA, n, .inl f))) (ht : tys[t0]? = some (cA, .boolean)) {k : Nat} {x : Int32} (hk : k < n) (hn : n < 2 ^ 31) (hnar : vp_nar .boolean x = x) (hdg : decode cc pc = .ok (.bastore, 1))
    (kk : ∀ (H1 : Heap) (locs1 : List Loc), va_P D vwCl (wd.set q0 (a, .inl (cA, n, .inl (upd f k x)))) H1 → va_D A (wd.set q0 (a, .inl (cA, n, .inl (upd f k x)))) → va_S A H0 H1 locs1 → W p l e R s m args below meth c H1 locs1 cells slots Q (F0 m (pc + 1) ls rest)) : W p l e R s m args below meth c H locs cells slots Q (F0 m pc ls (.int x :: .int (nI k) :: .ref a :: rest)) :=
  va_zast hx hb hK hP hD hS q0 t0 ha ht (vp_in_nI hk hn) hdg (by rw [nI_clamp (Nat.lt_trans hk hn), hnar]; exact kk)
/-- an int array of numbers -/
def nIf (g : Nat → Nat) : Nat → Int32 := fun j => nI (g j)
theorem nIf_up (g : Nat → Nat) (k v : Nat) : upd (nIf g) k (nI v) = nIf (va_up g k v) := by
  funext j
  unfold upd nIf va_up
  by_cases h : j = k
  · rw [if_pos h, if_pos h]
  · rw [if_neg h, if_neg h]
theorem nIf_0 : (fun _ : Nat => (0 : Int32)) = nIf (fun _ => 0) := rfl
theorem up_same {α : Type} {f : Nat → α} {k : Nat} {v : α} : va_up f k v k = v := if_pos rfl
theorem updL_same {f : Nat → Int64} {k : Nat} {v : Int64} : vp_updL f k v k = v := if_pos rfl
theorem upd_same {f : Nat → Int32} {k : Nat} {v : Int32} : upd f k v k = v := if_pos rfl
theorem up_ne {α : Type} {f : Nat → α} {k j : Nat} {v : α} (h : j ≠ k) : va_up f k v j = f j := if_neg h
theorem updL_ne {f : Nat → Int64} {k j : Nat} {v : Int64} (h : j ≠ k) : vp_updL f k v j = f j := if_neg h
theorem upd_ne {f : Nat → Int32} {k j : Nat} {v : Int32} (h : j ≠ k) : upd f k v j = f j := if_neg h
theorem zx_nast (hx : p.tables.exec = Jvm.exec) (hb : c.code = cc) (hK : va_K D vwCl tys s) (hP : va_P D vwCl wd H) (hD : va_D A wd) (hS : va_S A H0 H locs) (q0 t0 : Nat) {cA : ClassId} {n : Nat} {g : Nat → Nat} (ha : wd[q0]? = some (a, .inl (cA, n, .inl (nIf g)))) (ht : tys[t0]? = some (cA, .int)) {k v : Nat} (hk : k < n) (hn : n < 2 ^ 31) (hdg : decode cc pc = .ok (.iastore, 1))
    (kk : ∀ (H1 : Heap) (locs1 : List Loc), va_P D vwCl (wd.set q0 (a, .inl (cA, n, .inl (nIf (va_up g k v))))) H1 → va_D A (wd.set q0 (a, .inl (cA, n, .inl (nIf (va_up g k v))))) → va_S A H0 H1 locs1 → W p l e R s m args below meth c H1 locs1 cells slots Q (F0 m (pc + 1) ls rest)) : W p l e R s m args below meth c H locs cells slots Q (F0 m pc ls (.int (nI v) :: .int (nI k) :: .ref a :: rest)) :=
  zx_iast hx hb hK hP hD hS q0 t0 ha ht hk hn hdg (by rw [nIf_up]; exact kk)
/-- a run that isn't asked for its tables -/
theorem zrun {g : JFrame} {Qa : State → Outcome → State → Prop} (h : va_Run p l e R s m args below meth c H locs cells slots mc ms g rest Qa free) : CallRun p l e R s m args below meth c H locs cells slots mc ms g rest Qa free := fun T hT X => by
  obtain ⟨v, st₀, t, T', L, a1, a2, a3, a4, -, a6, a7⟩ := h T hT X
  exact ⟨v, st₀, t, T', L, a1, a2, a3, a4, a6, a7⟩
/-- behind a call of a method that writes: its cells as they are now, the others as they were -/
theorem zcallv {S0 : List Value} {wc wr w1 : va_W} {tysc : List (ClassId × FieldType)} {ar : Array Value} (hr : va_Run p l e R s m args below meth c H locs cells slots mc ms (F0 m pc ls S0) rest (va_Qv (fun _ : Unit => True) (zB D tysc w1 (va_A wc H.size)) (va_A wc H.size) ar) (va_A wc H.size)) (hP : va_P D vwCl wd H) (hD : va_D A wd) (hS : va_S A H0 H locs) (hA : ∀ q : Nat, H0.size ≤ q → A q)
    (isC isR : List Nat) (hC : isC.map (fun i => wd[i]?) = wc.map some) (hR : isR.map (fun i => wd[i]?) = wr.map some) (hn : va_nd isR = true) (hdis : ∀ i ∈ isR, i ∉ isC)
    (kk : ∀ (H1 : Heap) (locs1 : List Loc), va_P D vwCl (wr ++ w1) H1 → va_D A (wr ++ w1) → va_S A H0 H1 locs1 → W p l e R s m args below meth c H1 locs1 (cells + mc) (slots + ms) Q (F0 m (pc + 3) ls rest)) : W p l e R s m args below meth c H locs cells slots Q (F0 m pc ls S0) := by
  have hF := va_free (wc := wc) hD hS hA isC hC
  refine va_callv hr hS (fun q _ h => hF q h) hF (fun u t H1 locs1 ht hvm hw hB hz1 hk1 hS1 => ?_)
  obtain ⟨hP1, hK1, hD1⟩ := hB
  rw [ht] at hP1
  obtain ⟨hP2, hD2⟩ := va_join (wr := wr) (w1 := w1) hP hD isC isR hC hR hn hdis hk1 hF hP1 hD1
  exact kk H1 locs1 hP2 hD2 hS1
theorem zcalli {S0 : List Value} {wc wr w1 : va_W} {tysc : List (ClassId × FieldType)} {ar : Array Value} {v : Int32} (hr : va_Run p l e R s m args below meth c H locs cells slots mc ms (F0 m pc ls S0) rest (va_Qi (fun (r : Int32) (_ : Unit) => r = v) (zB D tysc w1 (va_A wc H.size)) (va_A wc H.size) ar) (va_A wc H.size)) (hP : va_P D vwCl wd H) (hD : va_D A wd) (hS : va_S A H0 H locs) (hA : ∀ q : Nat, H0.size ≤ q → A q)
    (isC isR : List Nat) (hC : isC.map (fun i => wd[i]?) = wc.map some) (hR : isR.map (fun i => wd[i]?) = wr.map some) (hn : va_nd isR = true) (hdis : ∀ i ∈ isR, i ∉ isC)
    (kk : ∀ (H1 : Heap) (locs1 : List Loc), va_P D vwCl (wr ++ w1) H1 → va_D A (wr ++ w1) → va_S A H0 H1 locs1 → W p l e R s m args below meth c H1 locs1 (cells + mc) (slots + ms) Q (F0 m (pc + 3) ls (.int v :: rest))) : W p l e R s m args below meth c H locs cells slots Q (F0 m pc ls S0) := by
  have hF := va_free (wc := wc) hD hS hA isC hC
  refine va_calli hr hS (fun q _ h => hF q h) hF (fun r u t H1 locs1 ht hvm hw hB hz1 hk1 hS1 => ?_)
  obtain ⟨hP1, hK1, hD1⟩ := hB
  rw [ht] at hP1
  obtain ⟨hP2, hD2⟩ := va_join (wr := wr) (w1 := w1) hP hD isC isR hC hR hn hdis hk1 hF hP1 hD1
  rw [hw]
  exact kk H1 locs1 hP2 hD2 hS1
theorem zcalll {S0 : List Value} {wc wr w1 : va_W} {tysc : List (ClassId × FieldType)} {ar : Array Value} {v : Int64} (hr : va_Run p l e R s m args below meth c H locs cells slots mc ms (F0 m pc ls S0) rest (va_Ql (fun (r : Int64) (_ : Unit) => r = v) (zB D tysc w1 (va_A wc H.size)) (va_A wc H.size) ar) (va_A wc H.size)) (hP : va_P D vwCl wd H) (hD : va_D A wd) (hS : va_S A H0 H locs) (hA : ∀ q : Nat, H0.size ≤ q → A q)
    (isC isR : List Nat) (hC : isC.map (fun i => wd[i]?) = wc.map some) (hR : isR.map (fun i => wd[i]?) = wr.map some) (hn : va_nd isR = true) (hdis : ∀ i ∈ isR, i ∉ isC)
    (kk : ∀ (H1 : Heap) (locs1 : List Loc), va_P D vwCl (wr ++ w1) H1 → va_D A (wr ++ w1) → va_S A H0 H1 locs1 → W p l e R s m args below meth c H1 locs1 (cells + mc) (slots + ms) Q (F0 m (pc + 3) ls (.long v :: rest))) : W p l e R s m args below meth c H locs cells slots Q (F0 m pc ls S0) := by
  have hF := va_free (wc := wc) hD hS hA isC hC
  refine va_calll hr hS (fun q _ h => hF q h) hF (fun r u t H1 locs1 ht hvm hw hB hz1 hk1 hS1 => ?_)
  obtain ⟨hP1, hK1, hD1⟩ := hB
  rw [ht] at hP1
  obtain ⟨hP2, hD2⟩ := va_join (wr := wr) (w1 := w1) hP hD isC isR hC hR hn hdis hk1 hF hP1 hD1
  rw [hw]
  exact kk H1 locs1 hP2 hD2 hS1
/-- ends of methods that write -/
theorem zretv {wf : va_W} (hx : p.tables.exec = Jvm.exec) (hb : c.code = cc) (hr : meth.sig.returnType = none) (hlocks : meth.locks = false) (hP : va_P D vwCl wf H) (hK : va_K D vwCl tys s) (hD : va_D A wf) (hS : va_S A s.heap H locs) (hdg : decode cc pc = .ok (.return_, 1)) (hc : cells ≤ mc) (hs : slots ≤ ms) : W p l e R s m args below meth c H locs cells slots (MQ below (va_Qv (fun _ : Unit => True) (zB D tys wf A) A) args s mc ms A) (F0 m pc ls []) := by
  refine W.widen hc hs ?_
  exact W.vret hx hb hr (fun t ht hW => ⟨⟨(), rfl, trivial, by rw [ht]; exact hP, va_K.moved hW.alike hK, hD⟩, hS.F ht⟩) hS.2.2 hdg hlocks
theorem zreti {wf : va_W} {v w : Int32} (hx : p.tables.exec = Jvm.exec) (hb : c.code = cc) (hr : meth.sig.returnType = some .int) (hlocks : meth.locks = false) (hP : va_P D vwCl wf H) (hK : va_K D vwCl tys s) (hD : va_D A wf) (hS : va_S A s.heap H locs) (hdg : decode cc pc = .ok (.ireturn, 1)) (hc : cells ≤ mc) (hs : slots ≤ ms) (hv : v = w) : W p l e R s m args below meth c H locs cells slots (MQ below (va_Qi (fun (r : Int32) (_ : Unit) => r = w) (zB D tys wf A) A) args s mc ms A) (F0 m pc ls [.int v]) := by
  refine W.widen hc hs ?_
  exact W.iret hx hb hr (fun t ht hW => ⟨⟨v, (), rfl, hv, by rw [ht]; exact hP, va_K.moved hW.alike hK, hD⟩, hS.F ht⟩) hS.2.2 hdg hlocks
theorem zretz {wf : va_W} {v w : Int32} (hx : p.tables.exec = Jvm.exec) (hb : c.code = cc) (hr : meth.sig.returnType = some .boolean) (hlocks : meth.locks = false) (hP : va_P D vwCl wf H) (hK : va_K D vwCl tys s) (hD : va_D A wf) (hS : va_S A s.heap H locs) (hdg : decode cc pc = .ok (.ireturn, 1)) (hc : cells ≤ mc) (hs : slots ≤ ms) (hn : narrow .boolean (.int v) = .int v) (hv : v = w) : W p l e R s m args below meth c H locs cells slots (MQ below (va_Qi (fun (r : Int32) (_ : Unit) => r = w) (zB D tys wf A) A) args s mc ms A) (F0 m pc ls [.int v]) := by
  refine W.widen hc hs ?_
  exact W.zret hx hb hr hn (fun t ht hW => ⟨⟨v, (), rfl, hv, by rw [ht]; exact hP, va_K.moved hW.alike hK, hD⟩, hS.F ht⟩) hS.2.2 hdg hlocks
theorem zretl {wf : va_W} {v w : Int64} (hx : p.tables.exec = Jvm.exec) (hb : c.code = cc) (hr : meth.sig.returnType = some .long) (hlocks : meth.locks = false) (hP : va_P D vwCl wf H) (hK : va_K D vwCl tys s) (hD : va_D A wf) (hS : va_S A s.heap H locs) (hdg : decode cc pc = .ok (.lreturn, 1)) (hc : cells ≤ mc) (hs : slots ≤ ms) (hv : v = w) : W p l e R s m args below meth c H locs cells slots (MQ below (va_Ql (fun (r : Int64) (_ : Unit) => r = w) (zB D tys wf A) A) args s mc ms A) (F0 m pc ls [.long v]) := by
  refine W.widen hc hs ?_
  exact W.lret hx hb hr (fun t ht hW => ⟨⟨v, (), rfl, hv, by rw [ht]; exact hP, va_K.moved hW.alike hK, hD⟩, hS.F ht⟩) hS.2.2 hdg hlocks
/-- ends of methods that read -/
theorem zreti1 {v w : Int32} (hx : p.tables.exec = Jvm.exec) (hb : c.code = cc) (hr : meth.sig.returnType = some .int) (hlocks : meth.locks = false) (hdg : decode cc pc = .ok (.ireturn, 1)) (hv : v = w) : W p l e R s m args below meth c s.heap [] 0 0 (MQ below (vp_Si (fun r => r = w)) args s 0 0 (fun _ => False)) (F0 m pc ls [.int v]) :=
  W.iret hx hb hr (fun t ht _ => ⟨v, rfl, hv, ht⟩) (fun _ h => nomatch h) hdg hlocks
theorem zretz1 {v w : Int32} (hx : p.tables.exec = Jvm.exec) (hb : c.code = cc) (hr : meth.sig.returnType = some .boolean) (hlocks : meth.locks = false) (hdg : decode cc pc = .ok (.ireturn, 1)) (hn : narrow .boolean (.int v) = .int v) (hv : v = w) : W p l e R s m args below meth c s.heap [] 0 0 (MQ below (vp_Si (fun r => r = w)) args s 0 0 (fun _ => False)) (F0 m pc ls [.int v]) :=
  W.zret hx hb hr hn (fun t ht _ => ⟨v, rfl, hv, ht⟩) (fun _ h => nomatch h) hdg hlocks
theorem zretl1 {v w : Int64} (hx : p.tables.exec = Jvm.exec) (hb : c.code = cc) (hr : meth.sig.returnType = some .long) (hlocks : meth.locks = false) (hdg : decode cc pc = .ok (.lreturn, 1)) (hv : v = w) : W p l e R s m args below meth c s.heap [] 0 0 (MQ below (vp_Sl (fun r => r = w)) args s 0 0 (fun _ => False)) (F0 m pc ls [.long v]) :=
  W.lret hx hb hr (fun t ht _ => ⟨v, rfl, hv, ht⟩) (fun _ h => nomatch h) hdg hlocks
theorem zretr1 {v : Nat} {rt : FieldType} (hx : p.tables.exec = Jvm.exec) (hb : c.code = cc) (hr : meth.sig.returnType = some rt) (hrt : (∃ n, rt = .object n) ∨ ∃ t, rt = .array t) (hlocks : meth.locks = false) (hdg : decode cc pc = .ok (.areturn, 1)) : W p l e R s m args below meth c s.heap [] 0 0 (MQ below (va_Sq (fun r => r = some v)) args s 0 0 (fun _ => False)) (F0 m pc ls [.ref v]) :=
  W.aret hx hb hr hrt (Or.inr ⟨v, rfl⟩) (fun t ht _ => ⟨some v, rfl, rfl, ht⟩) (fun _ h => nomatch h) hdg hlocks
/-- the end of a method whose world behind it is told by a word of its own -/
theorem zretB {BB : State → Prop} (hx : p.tables.exec = Jvm.exec) (hb : c.code = cc) (hr : meth.sig.returnType = none) (hlocks : meth.locks = false) (hB : ∀ t : State, t.heap = H → s.vm.Alike t.vm → BB t) (hS : va_S A s.heap H locs) (hdg : decode cc pc = .ok (.return_, 1)) (hc : cells ≤ mc) (hs : slots ≤ ms) : W p l e R s m args below meth c H locs cells slots (MQ below (va_Qv (fun _ : Unit => True) (fun _ t => BB t) A) args s mc ms A) (F0 m pc ls []) := by
  refine W.widen hc hs ?_
  exact W.vret hx hb hr (fun t ht hW => ⟨⟨(), rfl, trivial, hB t ht hW.alike⟩, hS.F ht⟩) hS.2.2 hdg hlocks
theorem zretBz {BB : State → Prop} {v w : Int32} (hx : p.tables.exec = Jvm.exec) (hb : c.code = cc) (hr : meth.sig.returnType = some .boolean) (hlocks : meth.locks = false) (hB : ∀ t : State, t.heap = H → s.vm.Alike t.vm → BB t) (hS : va_S A s.heap H locs) (hdg : decode cc pc = .ok (.ireturn, 1)) (hc : cells ≤ mc) (hs : slots ≤ ms) (hn : narrow .boolean (.int v) = .int v) (hv : v = w) : W p l e R s m args below meth c H locs cells slots (MQ below (va_Qi (fun (r : Int32) (_ : Unit) => r = w) (fun _ t => BB t) A) args s mc ms A) (F0 m pc ls [.int v]) := by
  refine W.widen hc hs ?_
  exact W.zret hx hb hr hn (fun t ht hW => ⟨⟨v, (), rfl, hv, hB t ht hW.alike⟩, hS.F ht⟩) hS.2.2 hdg hlocks
theorem zretBi {BB : State → Prop} {v w : Int32} (hx : p.tables.exec = Jvm.exec) (hb : c.code = cc) (hr : meth.sig.returnType = some .int) (hlocks : meth.locks = false) (hB : ∀ t : State, t.heap = H → s.vm.Alike t.vm → BB t) (hS : va_S A s.heap H locs) (hdg : decode cc pc = .ok (.ireturn, 1)) (hc : cells ≤ mc) (hs : slots ≤ ms) (hv : v = w) : W p l e R s m args below meth c H locs cells slots (MQ below (va_Qi (fun (r : Int32) (_ : Unit) => r = w) (fun _ t => BB t) A) args s mc ms A) (F0 m pc ls [.int v]) := by
  refine W.widen hc hs ?_
  exact W.iret hx hb hr (fun t ht hW => ⟨⟨v, (), rfl, hv, hB t ht hW.alike⟩, hS.F ht⟩) hS.2.2 hdg hlocks
/-- a method that gives a reference and writes -/
theorem zretBr {BB : Nat → State → Prop} {v : Nat} {rt : FieldType} (hx : p.tables.exec = Jvm.exec) (hb : c.code = cc) (hr : meth.sig.returnType = some rt) (hrt : (∃ n, rt = .object n) ∨ ∃ t, rt = .array t) (hlocks : meth.locks = false) (hB : ∀ t : State, t.heap = H → s.vm.Alike t.vm → BB v t) (hS : va_S A s.heap H locs) (hdg : decode cc pc = .ok (.areturn, 1)) (hc : cells ≤ mc) (hs : slots ≤ ms) : W p l e R s m args below meth c H locs cells slots (MQ below (va_Qr (fun _ : Unit => True) (fun _ a t => BB a t) A) args s mc ms A) (F0 m pc ls [.ref v]) := by
  refine W.widen hc hs ?_
  exact W.aret hx hb hr hrt (Or.inr ⟨v, rfl⟩) (fun t ht hW => ⟨⟨(), v, rfl, trivial, hB t ht hW.alike⟩, hS.F ht⟩) hS.2.2 hdg hlocks
theorem zx_qald (hx : p.tables.exec = Jvm.exec) (hb : c.code = cc) (hK : va_K D vwCl tys s) (hP : va_P D vwCl wd H) (q0 t0 : Nat) {cA : ClassId} {C : String} {n : Nat} {f : Nat → Option Nat} (ha : wd[q0]? = some (a, .inl (cA, n, .inr (.inr (.inr (.inr f)))))) (ht : tys[t0]? = some (cA, .object C)) {k v : Nat} (hv : f k = some v) (hk : k < n) (hn : n < 2 ^ 31) (hdg : decode cc pc = .ok (.aaload, 1))
    (kk : W p l e R s m args below meth c H locs cells slots Q (F0 m (pc + 1) ls (.ref v :: rest))) : W p l e R s m args below meth c H locs cells slots Q (F0 m pc ls (.int (nI k) :: .ref a :: rest)) :=
  va_aldq hx hb hK hP q0 t0 ha ht (vp_in_nI hk hn) hdg (by rw [nI_clamp (Nat.lt_trans hk hn), hv]; exact kk)
theorem zx_qastN (hx : p.tables.exec = Jvm.exec) (hb : c.code = cc) (hK : va_K D vwCl tys s) (hP : va_P D vwCl wd H) (hD : va_D A wd) (hS : va_S A H0 H locs) (q0 t0 : Nat) {cA : ClassId} {C : String} {n : Nat} {f : Nat → Option Nat} (ha : wd[q0]? = some (a, .inl (cA, n, .inr (.inr (.inr (.inr f)))))) (ht : tys[t0]? = some (cA, .object C)) {k : Nat} (hk : k < n) (hn : n < 2 ^ 31) (hdg : decode cc pc = .ok (.aastore, 1))
    (kk : ∀ (H1 : Heap) (locs1 : List Loc), va_P D vwCl (wd.set q0 (a, .inl (cA, n, .inr (.inr (.inr (.inr (va_up f k none))))))) H1 → va_D A (wd.set q0 (a, .inl (cA, n, .inr (.inr (.inr (.inr (va_up f k none))))))) → va_S A H0 H1 locs1 → W p l e R s m args below meth c H1 locs1 cells slots Q (F0 m (pc + 1) ls rest)) : W p l e R s m args below meth c H locs cells slots Q (F0 m pc ls (.null :: .int (nI k) :: .ref a :: rest)) :=
  va_astqN hx hb hK hP hD hS q0 t0 ha ht (vp_in_nI hk hn) hdg (by rw [nI_clamp (Nat.lt_trans hk hn)]; exact kk)
theorem zx_qast (hx : p.tables.exec = Jvm.exec) (hb : c.code = cc) (hK : va_K D vwCl tys s) (hP : va_P D vwCl wd H) (hD : va_D A wd) (hS : va_S A H0 H locs) (q0 t0 : Nat) {E : String} {cA : ClassId} {n v : Nat} {f : Nat → Option Nat} (ha : wd[q0]? = some (a, .inl (cA, n, .inr (.inr (.inr (.inr f)))))) (ht : tys[t0]? = some (cA, .object E)) (hr : va_Any E s H v) {k : Nat} (hk : k < n) (hn : n < 2 ^ 31) (hdg : decode cc pc = .ok (.aastore, 1))
    (kk : ∀ (H1 : Heap) (locs1 : List Loc), va_P D vwCl (wd.set q0 (a, .inl (cA, n, .inr (.inr (.inr (.inr (va_up f k (some v)))))))) H1 → va_D A (wd.set q0 (a, .inl (cA, n, .inr (.inr (.inr (.inr (va_up f k (some v)))))))) → va_S A H0 H1 locs1 → W p l e R s m args below meth c H1 locs1 cells slots Q (F0 m (pc + 1) ls rest)) : W p l e R s m args below meth c H locs cells slots Q (F0 m pc ls (.ref v :: .int (nI k) :: .ref a :: rest)) :=
  va_astqM hx hb hK hP hD hS q0 t0 ha ht hr (vp_in_nI hk hn) hdg (by rw [nI_clamp (Nat.lt_trans hk hn)]; exact kk)
end ZR
