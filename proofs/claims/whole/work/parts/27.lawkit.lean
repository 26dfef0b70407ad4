/-! THE LAW'S HELPERS: bodies with an exception table -/
section ZW
variable {l : Launch} {y : MethodName} {ws ws' : List Cond} {rm : Room} {Qc : Array Value → State → Outcome → State → Prop} {mc ms em : Nat} {free : Addr → Prop} {cc : ByteArray} {maxL : Nat} {ret : Option FieldType} {hh : List (Nat × Nat × Nat × Nat)} {D : va_G} {wd : va_W} {tys : List (ClassId × FieldType)} {av : List Value} {sz : Nat}
theorem zw_of {Pc : Array Value → State → Prop} (hy : plainName y.cls = true) (hw : ws = Cond.codeWith y cc maxL ret hh :: ws')
    (body : ∀ p e s m args below meth c s₁, BodyLoose p l y (headSpec ws rm) cc maxL ret e s m args below meth c s₁ → c.maxLocals = maxL → c.exceptionTable.toList = tableOf hh → Pc args s →
      W p l e (headSpec ws rm).room s m args below meth c s.heap [] 0 0 (MQ below Qc args s mc ms free) (entryFrame m args maxL)) : Met l y ws rm Pc Qc mc ms free := by
  refine MetFree.of_bodyS (code := cc) (maxLocals := maxL) (ret := ret) hy ?_ ?_
  · intro args s m h hn
    obtain ⟨m9, meth, c, hn9, h1, h2, h3, h4, -, h5, h6, -⟩ := Cond.codeWith_spec (atoms_spec (ws := ws) h _ (by rw [hw]; exact List.mem_cons_self))
    cases hn.symm.trans hn9
    exact ⟨meth, c, h1, h2, h3, h4, h5, h6⟩
  · intro p e s m args below meth c s₁ B hml hP _
    have hh0 : s₁.heap = s.heap := by rw [B.state]; rfl
    have ht := vx_table (x := y) B (atoms_spec (ws := ws) B.pre _ (by rw [hw]; exact List.mem_cons_self))
    obtain ⟨t, a1, o, b1, b2, b3⟩ := body p e s m args below meth c s₁ B hml ht hP s₁ hh0 (Stand.of_body B)
    exact ⟨t, o, a1, b1, b2, b3⟩
theorem zwb (hy : plainName y.cls = true) (hw : ws = Cond.codeWith y cc maxL ret hh :: ws') (hn : (lg_sl av).length ≤ maxL)
    (body : ∀ (p : Program) (e : Env) (s : State) (m : MethodId) (below : List Frame) (meth : Method) (c : Code) (ls : Array Slot), c.exceptionTable.toList = tableOf hh → p.tables.exec = Jvm.exec → c.code = cc → c.maxLocals = maxL → meth.sig.returnType = ret → meth.locks = false → s.vm.findClass y.cls = some m.cls → (∀ w ∈ ws, w.before av.toArray s = true) → va_P D vwCl wd s.heap → va_K D vwCl tys s → GS s → HS NA em s s.heap → lv_has ls maxL (lv_args 0 av) →
      W p l e rm s m av.toArray below meth c s.heap [] 0 0 (MQ below Qc av.toArray s mc ms free) (F0 m 0 ls [])) : Met l y ws rm (zt D wd tys em av) Qc mc ms free := by
  refine zw_of (cc := cc) (maxL := maxL) (ret := ret) hy hw ?_
  intro p e s m args below meth c s₁ B hml ht hv
  obtain ⟨rfl, hP, hK, hG, hH⟩ := hv
  rw [lg_entry_eq]
  exact body p e s m below meth c _ ht B.exec B.bytes hml B.returns B.notSynchronized (findClass_of_methodNamed B.named) (atoms_spec (ws := ws) B.pre) hP hK hG hH (lv_entry av hn)
theorem zm2W (hy : plainName y.cls = true) (hw : ws = Cond.codeWith y cc maxL ret hh :: ws') (hn : (lg_sl av).length ≤ maxL)
    (body : ∀ (p : Program) (e : Env) (s : State) (m : MethodId) (below : List Frame) (meth : Method) (c : Code) (ls : Array Slot) (A : Nat → Prop), A = va_A wd sz → s.heap.size = sz → (meth.name = y.name) → p.tables.exec = Jvm.exec → c.code = cc → c.maxLocals = maxL → meth.sig.returnType = ret → meth.locks = false → s.vm.findClass y.cls = some m.cls → (∀ w ∈ ws, w.before av.toArray s = true) → va_P D vwCl wd s.heap → va_K D vwCl tys s → GS s → va_D A wd → (∀ q : Nat, s.heap.size ≤ q → A q) → va_S A s.heap s.heap [] → lv_has ls maxL (lv_args 0 av) →
      W p l e rm s m av.toArray below meth c s.heap [] 0 0 (MQ below Qc av.toArray s mc ms free) (F0 m 0 ls [])) : Met l y ws rm (z2 D wd tys sz av) Qc mc ms free := by
  refine zw_of (cc := cc) (maxL := maxL) (ret := ret) hy hw ?_
  intro p e s m args below meth c s₁ B hml ht hv
  obtain ⟨rfl, hsz, hP, hK, hD, hG⟩ := hv
  rw [lg_entry_eq]
  exact body p e s m below meth c _ _ rfl hsz (name_of_methodNamed B.named B.method).1 B.exec B.bytes hml B.returns B.notSynchronized (findClass_of_methodNamed B.named) (atoms_spec (ws := ws) B.pre) hP hK hG hD.self (fun q h => Or.inr (by rw [← hsz]; exact h)) va_S.rf (lv_entry av hn)
theorem zmqW {X : State → Heap → Prop} (hy : plainName y.cls = true) (hw : ws = Cond.codeWith y cc maxL ret hh :: ws') (hn : (lg_sl av).length ≤ maxL)
    (body : ∀ (p : Program) (e : Env) (s : State) (m : MethodId) (below : List Frame) (meth : Method) (c : Code) (ls : Array Slot) (A : Nat → Prop), A = va_A wd sz → s.heap.size = sz → (meth.name = y.name) → p.tables.exec = Jvm.exec → c.code = cc → c.maxLocals = maxL → meth.sig.returnType = ret → meth.locks = false → s.vm.findClass y.cls = some m.cls → (∀ w ∈ ws, w.before av.toArray s = true) → va_P D vwCl wd s.heap → va_K D vwCl tys s → GS s → va_D A wd → (∀ q : Nat, s.heap.size ≤ q → A q) → va_S A s.heap s.heap [] → X s s.heap → lv_has ls maxL (lv_args 0 av) →
      W p l e rm s m av.toArray below meth c s.heap [] 0 0 (MQ below Qc av.toArray s mc ms free) (F0 m 0 ls [])) : Met l y ws rm (zq D wd tys sz av X) Qc mc ms free := by
  refine zw_of (cc := cc) (maxL := maxL) (ret := ret) hy hw ?_
  intro p e s m args below meth c s₁ B hml ht hv
  obtain ⟨rfl, hsz, hP, hK, hD, hG, hX⟩ := hv
  rw [lg_entry_eq]
  exact body p e s m below meth c _ _ rfl hsz (name_of_methodNamed B.named B.method).1 B.exec B.bytes hml B.returns B.notSynchronized (findClass_of_methodNamed B.named) (atoms_spec (ws := ws) B.pre) hP hK hG hD.self (fun q h => Or.inr (by rw [← hsz]; exact h)) va_S.rf hX (lv_entry av hn)
end ZW
section ZCAT
variable {p : Program} {l : Launch} {e : Env} {R : Room} {s : State} {m : MethodId} {args : Array Value} {below : List Frame} {meth : Method} {c : Code} {H H0 : Heap} {locs : List Loc} {cells slots mc ms mc1 ms1 : Nat} {pc : Nat} {ls : Array Slot} {rest : List Value} {Q : State → Prop} {D : va_G} {wd pl : va_W} {A : Nat → Prop} {free : Addr → Prop}
/-- a callee throws E: the handler takes it -/
theorem zcat {E own name : String} {S0 : List Value} {ar : Array Value} (pre : List ExceptionTableEntry) (x : ExceptionTableEntry) (suf : List ExceptionTableEntry) (hr : vx_Run p l e R s m args below meth c s.heap [] cells slots mc1 ms1 (F0 m pc ls S0) rest (Qf ar) (XE E) NA) (hown : s.vm.findClass own = some m.cls) (hsplit : c.exceptionTable.toList = pre ++ x :: suf)
    (hpass : ∀ z ∈ pre, covers z pc = false ∨ (z.catchType ≠ 0 ∧ ∃ nm : String, (Cond.classLink own z.catchType nm).before args s = true ∧ va_Nc E nm s)) (hx : covers x pc = true) (h0 : x.catchType ≠ 0) (hlink : (Cond.classLink own x.catchType name).before args s = true) (hcast : (Cond.castable E name).before args s = true)
    (kk : ∀ (H1 : Heap) (locs1 : List Loc) (q : Nat), va_S NA s.heap H1 locs1 → W p l e R s m args below meth c H1 locs1 (cells + mc1) (slots + ms1) Q (F0 m x.handlerPc ls [.ref q])) : W p l e R s m args below meth c s.heap [] cells slots Q (F0 m pc ls S0) := by
  refine vx_callv (A0 := NA) (A1 := fun _ => False) (AX := fun _ => False) (H0 := s.heap) (hr := hr) va_S.rf (fun _ _ h => h) (fun _ h => h) (fun _ _ h => h) (fun E' ce q9 u t H1 locs1 ht hvm hpx hB hz hk hS hcell hv hcl => ?_) (fun u t H1 locs1 ht hvm hw hB hz1 hk1 hS1 => hw.elim)
  subst hB
  exact vx_catch hown pre x suf hsplit hpass hx h0 hlink hcast hcell hv hcl (kk H1 locs1 q9 hS)
/-- a call that changes nothing but what is new -/
theorem zcallk {S0 : List Value} {v : Int32} {ar : Array Value} (hr : va_Run p l e R s m args below meth c H locs cells slots mc ms (F0 m pc ls S0) rest (va_Qi (fun (r : Int32) (_ : Unit) => r = v) (fun _ _ => True) NA ar) NA) (hP : va_P D vwCl wd H) (hD : va_D A wd) (hS : va_S A H0 H locs)
    (kk : ∀ (H1 : Heap) (locs1 : List Loc), va_P D vwCl wd H1 → va_D A wd → va_S A H0 H1 locs1 → W p l e R s m args below meth c H1 locs1 (cells + mc) (slots + ms) Q (F0 m (pc + 3) ls (.int v :: rest))) : W p l e R s m args below meth c H locs cells slots Q (F0 m pc ls S0) := by
  refine va_calli hr hS (fun q _ h => h.elim) (fun q h => h.elim) (fun r u t H1 locs1 ht hvm hw hB hz1 hk1 hS1 => ?_)
  subst hw
  exact kk H1 locs1 (hP.kept (fun k q hk => hk1 q.1 (vx_lt hP hk) (fun h => h))) hD hS1
theorem zcalliQ {S0 : List Value} {wc wr w1 : va_W} {tysc : List (ClassId × FieldType)} {ar : Array Value} {v : Int32} (hr : va_Run p l e R s m args below meth c H locs cells slots mc ms (F0 m pc ls S0) rest (va_Qi (fun (r : Int32) (_ : Unit) => r = v) (zB D tysc w1 (va_A wc H.size)) (va_A wc H.size) ar) (va_A wc H.size)) (hP : va_P D vwCl (wd ++ pl) H) (hD : va_D A (wd ++ pl)) (hS : va_S A H0 H locs) (hF : ∀ q, va_A wc H.size q → A q)
    (isC isR : List Nat) (hC : isC.map (fun i => wd[i]?) = wc.map some) (hR : isR.map (fun i => wd[i]?) = wr.map some) (hn : va_nd isR = true) (hdis : ∀ i ∈ isR, i ∉ isC)
    (kk : ∀ (H1 : Heap) (locs1 : List Loc), va_P D vwCl ((wr ++ w1) ++ pl) H1 → va_D A ((wr ++ w1) ++ pl) → va_S A H0 H1 locs1 → W p l e R s m args below meth c H1 locs1 (cells + mc) (slots + ms) Q (F0 m (pc + 3) ls (.int v :: rest))) : W p l e R s m args below meth c H locs cells slots Q (F0 m pc ls S0) := by
  refine va_calli hr hS (fun q _ h => hF q h) hF (fun r u t H1 locs1 ht hvm hw hB hz1 hk1 hS1 => ?_)
  obtain ⟨hP1, hK1, hD1⟩ := hB
  rw [ht] at hP1
  obtain ⟨hP2, hD2⟩ := va_joinQ (wr := wr) (w1 := w1) hP hD isC isR hC hR hn hdis hk1 hF hP1 hD1
  rw [hw]
  exact kk H1 locs1 hP2 hD2 hS1
/-- a call that has the whole front of the world -/
theorem lp_front {w1 C9 R9 : va_W} {H1 : Heap} (hP : va_P D vwCl (C9 ++ R9) H) (hD : va_D A (C9 ++ R9)) (hF : ∀ q, va_A C9 H.size q → A q) (hk : ∀ q : Nat, q < H.size → ¬ va_A C9 H.size q → H1[q]? = H[q]?) (hP1 : va_P D vwCl w1 H1) (hD1 : va_D (va_A C9 H.size) w1) : va_P D vwCl (w1 ++ R9) H1 ∧ va_D A (w1 ++ R9) := by
  have hn := (lp_Dn.mp hD).1
  rw [List.map_append] at hn
  have hd := (List.nodup_append.mp hn).2.2
  have hout : ∀ q ∈ R9, q.1 < H.size ∧ ¬ va_A C9 H.size q.1 := by
    intro q hq
    obtain ⟨k, hk9⟩ := List.mem_iff_getElem?.mp (List.mem_append_right C9 hq)
    have hlt := vx_lt hP hk9
    refine ⟨hlt, fun h => ?_⟩
    rcases h with ⟨j, e9, hj⟩ | h
    · exact hd q.1 (List.mem_map.mpr ⟨(q.1, e9), List.mem_of_getElem? hj, rfl⟩) q.1 (List.mem_map.mpr ⟨q, hq, rfl⟩) rfl
    · omega
  refine ⟨va_P.app hP1 (fun k q hk9 => ?_), lp_Dn.mpr ⟨?_, ?_⟩⟩
  · have hq : q ∈ R9 := List.mem_of_getElem? hk9
    obtain ⟨j, hj⟩ := List.mem_iff_getElem?.mp (List.mem_append_right C9 hq)
    exact (hP j q hj).kept (hk q.1 (hout q hq).1 (hout q hq).2)
  · rw [List.map_append]
    refine List.nodup_append.mpr ⟨(lp_Dn.mp hD1).1, (List.nodup_append.mp hn).2.1, fun a ha b hb e => ?_⟩
    obtain ⟨q, hq, rfl⟩ := List.mem_map.mp ha
    obtain ⟨q2, hq2, rfl⟩ := List.mem_map.mp hb
    rw [← e] at hb
    exact (hout q2 hq2).2 (e ▸ (lp_Dn.mp hD1).2 q hq)
  · intro q hq
    rcases List.mem_append.mp hq with h | h
    · exact hF _ ((lp_Dn.mp hD1).2 q h)
    · exact (lp_Dn.mp hD).2 q (List.mem_append_right _ h)
end ZCAT
theorem lp_F2 {A : Nat → Prop} {C9 R9 : va_W} {H0 H : Heap} {locs : List Loc} (hD : va_D A (C9 ++ R9)) (hS : va_S A H0 H locs) (hA : ∀ q : Nat, H0.size ≤ q → A q) : ∀ q, va_A C9 H.size q → A q := by
  intro q h
  rcases h with ⟨k, e, hk⟩ | h
  · exact (lp_Dn.mp hD).2 (q, e) (List.mem_append_left _ (List.mem_of_getElem? hk))
  · exact hA q (Nat.le_trans hS.1 h)
theorem lp_Dl {A : Nat → Prop} {C9 R9 : va_W} (hD : va_D A (C9 ++ R9)) : va_D A C9 := by
  rw [lp_Dn] at hD ⊢
  rw [List.map_append] at hD
  exact ⟨(List.nodup_append.mp hD.1).1, fun q hq => hD.2 q (List.mem_append_left _ hq)⟩
theorem lp_Pl {D : va_G} {cl : List vw_C} {C9 R9 : va_W} {H : Heap} (hP : va_P D cl (C9 ++ R9) H) : va_P D cl C9 H := lp_P hP (fun _ hq => List.mem_append_left _ hq)
