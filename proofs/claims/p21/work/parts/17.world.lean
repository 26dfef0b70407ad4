/-! THE SYSTEM'S WORLD: a few cells by name, and a pool; throwing methods -/
theorem lp_P {D : va_G} {cl : List vw_C} {w1 w2 : va_W} {H : Heap} (h : va_P D cl w1 H) (hs : ∀ q ∈ w2, q ∈ w1) : va_P D cl w2 H := by
  intro k q hk
  obtain ⟨j, hj⟩ := List.mem_iff_getElem?.mp (hs q (List.mem_iff_getElem?.mpr ⟨k, hk⟩))
  exact h j q hj
theorem lp_Dn {A : Nat → Prop} {ws : va_W} : va_D A ws ↔ (ws.map (·.1)).Nodup ∧ ∀ q ∈ ws, A q.1 := by
  have hiff : (ws.map (·.1)).Nodup ↔ ∀ (i j : Nat) (hi : i < ws.length) (hj : j < ws.length), i < j → ws[i].1 ≠ ws[j].1 := by
    rw [List.nodup_iff_pairwise_ne, List.pairwise_map, List.pairwise_iff_getElem]
  constructor
  · intro h
    refine ⟨hiff.mpr (fun i j hi hj hij he => ?_), fun q hq => ?_⟩
    · have e := h.1 i j _ _ (List.getElem?_eq_getElem hi) (List.getElem?_eq_getElem hj) he
      omega
    · obtain ⟨k, hk⟩ := List.mem_iff_getElem?.mp hq
      exact h.2 k q hk
  · intro h
    refine ⟨fun i j p q hi hj e => ?_, fun k q hk => h.2 q (List.mem_iff_getElem?.mpr ⟨k, hk⟩)⟩
    obtain ⟨hil, hi2⟩ := List.getElem?_eq_some_iff.mp hi
    obtain ⟨hjl, hj2⟩ := List.getElem?_eq_some_iff.mp hj
    subst hi2; subst hj2
    rcases Nat.lt_trichotomy i j with c | c | c
    · exact absurd e (hiff.mp h.1 i j hil hjl c)
    · exact c
    · exact absurd e.symm (hiff.mp h.1 j i hjl hil c)
theorem lp_D {A : Nat → Prop} {w1 w2 : va_W} (h : va_D A w1) (hp : w1.Perm w2) : va_D A w2 := by
  rw [lp_Dn] at h ⊢
  exact ⟨(hp.map _).nodup_iff.mp h.1, fun q hq => h.2 q (hp.mem_iff.mpr hq)⟩
theorem lp_foc {D : va_G} {cl : List vw_C} {A : Nat → Prop} {X : va_W} {L : List Nat} {f : Nat → va_E} {a : Nat} {e : va_E} {H : Heap} (hP : va_P D cl (X ++ va_pl L f) H) (hD : va_D A (X ++ va_pl L f)) (ha : a ∈ L) (he : f a = e) : va_P D cl ((X ++ [(a, e)]) ++ va_pl (L.erase a) f) H ∧ va_D A ((X ++ [(a, e)]) ++ va_pl (L.erase a) f) := by
  have h1 : (va_pl L f).Perm ((a, e) :: va_pl (L.erase a) f) := by
    unfold va_pl
    rw [← he]
    exact (List.perm_cons_erase ha).map (fun a => (a, f a))
  have h2 : (X ++ va_pl L f).Perm ((X ++ [(a, e)]) ++ va_pl (L.erase a) f) := by
    rw [List.append_assoc]
    exact List.Perm.append_left X h1
  exact ⟨lp_P hP (fun q hq => h2.mem_iff.mpr hq), lp_D hD h2⟩
theorem lp_unf {D : va_G} {cl : List vw_C} {A : Nat → Prop} {X : va_W} {L : List Nat} {f : Nat → va_E} {a : Nat} {e : va_E} {H : Heap} (hP : va_P D cl ((X ++ [(a, e)]) ++ va_pl L f) H) (hD : va_D A ((X ++ [(a, e)]) ++ va_pl L f)) : va_P D cl (X ++ va_pl (a :: L) (va_up f a e)) H ∧ va_D A (X ++ va_pl (a :: L) (va_up f a e)) := by
  have hn : a ∉ L := by
    intro hm
    have h := (lp_Dn.mp hD).1
    rw [List.map_append, List.map_append] at h
    exact (List.nodup_append.mp h).2.2 a (by simp) a (by unfold va_pl; rw [List.map_map]; exact List.mem_map.mpr ⟨a, hm, rfl⟩) rfl
  have h1 : va_pl (a :: L) (va_up f a e) = (a, e) :: va_pl L f := by
    unfold va_pl
    rw [List.map_cons, up_same]
    congr 1
    refine List.map_congr_left (fun b hb => ?_)
    rw [up_ne (fun q => hn (by rw [← q]; exact hb))]
  have h2 : (X ++ [(a, e)]) ++ va_pl L f = X ++ va_pl (a :: L) (va_up f a e) := by
    rw [h1, List.append_assoc]; rfl
  rw [h2] at hP hD
  exact ⟨hP, hD⟩
theorem lp_get {D : va_G} {cl : List vw_C} {X : va_W} {L : List Nat} {f : Nat → va_E} {a : Nat} {e : va_E} {H : Heap} (hP : va_P D cl (X ++ va_pl L f) H) (ha : a ∈ L) (he : f a = e) : (a, e) ∈ X ++ va_pl L f := by
  refine List.mem_append_right _ ?_
  unfold va_pl
  exact List.mem_map.mpr ⟨a, ha, by rw [he]⟩
theorem lp_nx {D : va_G} {cl : List vw_C} {A : Nat → Prop} {X : va_W} {L : List Nat} {f : Nat → va_E} (hD : va_D A (X ++ va_pl L f)) {q : Nat × va_E} (hq : q ∈ X) : q.1 ∉ L := by
  intro hm
  have h := (lp_Dn.mp hD).1
  rw [List.map_append] at h
  exact (List.nodup_append.mp h).2.2 q.1 (List.mem_map.mpr ⟨q, hq, rfl⟩) q.1 (by unfold va_pl; rw [List.map_map]; exact List.mem_map.mpr ⟨q.1, hm, rfl⟩) rfl
section ZQ
variable {p : Program} {l : Launch} {e : Env} {R : Room} {s : State} {m : MethodId} {args : Array Value} {below : List Frame} {meth : Method} {c : Code} {cc : ByteArray} {H H0 : Heap} {locs : List Loc} {cells slots mc ms : Nat} {Q : State → Prop} {pc : Nat} {ls : Array Slot} {rest : List Value} {D : va_G} {wd pl : va_W} {tys : List (ClassId × FieldType)} {a : Nat} {A : Nat → Prop} {free : Addr → Prop}
theorem zcallvQ {S0 : List Value} {wc wr w1 : va_W} {tysc : List (ClassId × FieldType)} {ar : Array Value} (hr : va_Run p l e R s m args below meth c H locs cells slots mc ms (F0 m pc ls S0) rest (va_Qv (fun _ : Unit => True) (zB D tysc w1 (va_A wc H.size)) (va_A wc H.size) ar) (va_A wc H.size)) (hP : va_P D vwCl (wd ++ pl) H) (hD : va_D A (wd ++ pl)) (hS : va_S A H0 H locs) (hF : ∀ q, va_A wc H.size q → A q)
    (isC isR : List Nat) (hC : isC.map (fun i => wd[i]?) = wc.map some) (hR : isR.map (fun i => wd[i]?) = wr.map some) (hn : va_nd isR = true) (hdis : ∀ i ∈ isR, i ∉ isC)
    (kk : ∀ (H1 : Heap) (locs1 : List Loc), va_P D vwCl ((wr ++ w1) ++ pl) H1 → va_D A ((wr ++ w1) ++ pl) → va_S A H0 H1 locs1 → W p l e R s m args below meth c H1 locs1 (cells + mc) (slots + ms) Q (F0 m (pc + 3) ls rest)) : W p l e R s m args below meth c H locs cells slots Q (F0 m pc ls S0) := by
  refine va_callv hr hS (fun q _ h => hF q h) hF (fun u t H1 locs1 ht hvm hw hB hz1 hk1 hS1 => ?_)
  obtain ⟨hP1, hK1, hD1⟩ := hB
  rw [ht] at hP1
  obtain ⟨hP2, hD2⟩ := va_joinQ (wr := wr) (w1 := w1) hP hD isC isR hC hR hn hdis hk1 hF hP1 hD1
  exact kk H1 locs1 hP2 hD2 hS1
theorem zcalllQ {S0 : List Value} {wc wr w1 : va_W} {tysc : List (ClassId × FieldType)} {ar : Array Value} {v : Int64} (hr : va_Run p l e R s m args below meth c H locs cells slots mc ms (F0 m pc ls S0) rest (va_Ql (fun (r : Int64) (_ : Unit) => r = v) (zB D tysc w1 (va_A wc H.size)) (va_A wc H.size) ar) (va_A wc H.size)) (hP : va_P D vwCl (wd ++ pl) H) (hD : va_D A (wd ++ pl)) (hS : va_S A H0 H locs) (hF : ∀ q, va_A wc H.size q → A q)
    (isC isR : List Nat) (hC : isC.map (fun i => wd[i]?) = wc.map some) (hR : isR.map (fun i => wd[i]?) = wr.map some) (hn : va_nd isR = true) (hdis : ∀ i ∈ isR, i ∉ isC)
    (kk : ∀ (H1 : Heap) (locs1 : List Loc), va_P D vwCl ((wr ++ w1) ++ pl) H1 → va_D A ((wr ++ w1) ++ pl) → va_S A H0 H1 locs1 → W p l e R s m args below meth c H1 locs1 (cells + mc) (slots + ms) Q (F0 m (pc + 3) ls (.long v :: rest))) : W p l e R s m args below meth c H locs cells slots Q (F0 m pc ls S0) := by
  refine va_calll hr hS (fun q _ h => hF q h) hF (fun r u t H1 locs1 ht hvm hw hB hz1 hk1 hS1 => ?_)
  obtain ⟨hP1, hK1, hD1⟩ := hB
  rw [ht] at hP1
  obtain ⟨hP2, hD2⟩ := va_joinQ (wr := wr) (w1 := w1) hP hD isC isR hC hR hn hdis hk1 hF hP1 hD1
  rw [hw]
  exact kk H1 locs1 hP2 hD2 hS1
end ZQ
/-! throws: a method that, so begun, throws E and has changed nothing -/
def Qf : Array Value → State → Outcome → State → Prop := va_Qv (fun _ : Unit => False) (fun _ _ => True) (fun _ => False)
def XE (E : String) : String → State → State → Prop := vx_X (fun _ : Unit => True) (fun E' _ _ => E' = E) (fun _ => False)
def NA : Nat → Prop := fun _ => False
section ZT
variable {l : Launch} {y : MethodName} {ws ws' : List Cond} {rm : Room} {Qc : Array Value → State → Outcome → State → Prop} {XC : String → State → State → Prop} {mc ms em : Nat} {free : Addr → Prop} {cc : ByteArray} {maxL : Nat} {ret : Option FieldType} {D : va_G} {wd : va_W} {tys : List (ClassId × FieldType)} {av : List Value} {s : State} {H : Heap}
def zt (D : va_G) (wd : va_W) (tys : List (ClassId × FieldType)) (em : Nat) (av : List Value) : Array Value → State → Prop := va_Pc av (fun U => va_P D vwCl wd U.heap ∧ va_K D vwCl tys U ∧ GS U ∧ HS NA em U U.heap)
theorem zt_blind : FrameBlind (zt D wd tys em av) := fun a U g mk q => by
  obtain ⟨q0, qP, qK, qG, qH⟩ := q
  exact ⟨q0, qP, va_K.moved (u := U) (U := U.calling g mk a) (Vm.Alike.refl U.vm) qK, qG.calling g mk a, HS.moved (u := U) (U := U.calling g mk a) (Vm.Alike.refl U.vm) qH⟩
theorem zt_S (hP : va_P D vwCl wd H) (hK : va_K D vwCl tys s) (hG : GS s) (hH : HS NA em s H) : PreS s H (zt D wd tys em av) av :=
  ⟨zt_blind, fun U hU hW => ⟨rfl, by rw [hU]; exact hP, va_K.moved hW.alike hK, hG.warm hW, by rw [hU]; exact hH.moved hW.alike⟩⟩
theorem zt_V {b : Nat} {C : String} (hr : ∃ cell : Cell, H[b]? = some cell ∧ cell.vm.isStatics = false ∧ s.vm.findClass C = some cell.cls) (hP : va_P D vwCl wd H) (hK : va_K D vwCl tys s) (hG : GS s) (hH : HS NA em s H) : PreV s H C b (zt D wd tys em (.ref b :: av)) av :=
  ⟨zt_blind, hr, fun U hU hW => ⟨rfl, by rw [hU]; exact hP, va_K.moved hW.alike hK, hG.warm hW, by rw [hU]; exact hH.moved hW.alike⟩⟩
theorem zmt (hy : plainName y.cls = true) (hw : ws = Cond.code y cc maxL ret :: ws') (hn : (lg_sl av).length ≤ maxL)
    (body : ∀ (p : Program) (e : Env) (s : State) (m : MethodId) (below : List Frame) (meth : Method) (c : Code) (ls : Array Slot), (∀ x ∈ c.exceptionTable.toList, False) → p.tables.exec = Jvm.exec → c.code = cc → c.maxLocals = maxL → meth.sig.returnType = ret → meth.locks = false → s.vm.findClass y.cls = some m.cls → (∀ w ∈ ws, w.before av.toArray s = true) → va_P D vwCl wd s.heap → va_K D vwCl tys s → GS s → HS NA em s s.heap → lv_has ls maxL (lv_args 0 av) →
      W p l e rm s m av.toArray below meth c s.heap [] 0 0 (vx_MQ below Qc XC av.toArray s mc ms free) (F0 m 0 ls [])) : vx_Met l y ws rm (zt D wd tys em av) Qc XC mc ms free := by
  refine vx_ofW (cc := cc) (maxL := maxL) (ret := ret) hy hw ?_
  intro p e s m args below meth c s₁ B hml hno hv
  obtain ⟨rfl, hP, hK, hG, hH⟩ := hv
  rw [lg_entry_eq]
  exact body p e s m below meth c _ hno B.exec B.bytes hml B.returns B.notSynchronized (findClass_of_methodNamed B.named) (atoms_spec (ws := ws) B.pre) hP hK hG hH (lv_entry av hn)
end ZT
section ZTR
variable {p : Program} {l : Launch} {e : Env} {R : Room} {s : State} {m : MethodId} {args : Array Value} {below : List Frame} {meth : Method} {c : Code} {cc : ByteArray} {locs : List Loc} {cells slots mc ms mc1 ms1 em : Nat} {pc : Nat} {ls : Array Slot} {rest : List Value}
/-- a callee throws: so does the caller -/
theorem zthru {E : String} {S0 : List Value} {ar : Array Value} {Qc : Array Value → State → Outcome → State → Prop} (hr : vx_Run p l e R s m args below meth c s.heap [] cells slots mc1 ms1 (F0 m pc ls S0) rest (Qf ar) (XE E) NA) (hno : ∀ x ∈ c.exceptionTable.toList, False) (hlocks : meth.locks = false) (hc : cells + mc1 ≤ mc) (hs : slots + ms1 ≤ ms) : W p l e R s m args below meth c s.heap [] cells slots (vx_MQ below Qc (XE E) args s mc ms NA) (F0 m pc ls S0) := by
  refine vx_callv (A0 := NA) (A1 := fun _ => False) (AX := fun _ => False) (H0 := s.heap) (hr := hr) va_S.rf (fun _ _ h => h) (fun _ h => h) (fun _ _ h => h) (fun E' ce q9 u t H1 locs1 ht hvm hpx hB hz hk hS hcell hv hcl => ?_) (fun u t H1 locs1 ht hvm hw hB hz1 hk1 hS1 => hw.elim)
  subst hB
  refine vx_out (fun x hx => (hno x hx).elim) hlocks hcell hv hcl (fun t2 ht2 hv2 => ⟨(), trivial, rfl, ⟨by rw [ht2]; exact hz, fun q hq _ => by rw [ht2]; exact hk q hq (fun h => h)⟩⟩) hS.2.2 hc hs
/-- throw new E("..") in UnitContracts -/
theorem zthrow {E text : String} {ik is ic : Nat} {Qc : Array Value → State → Outcome → State → Prop} (hl : l.stackTraces = false) (hx : p.tables.exec = Jvm.exec) (hb : c.code = cc) (hown : s.vm.findClass RX5 = some m.cls) (hfit : Bundle.fit E = true) (hk : (Cond.classLink RX5 ik E).before args s = true) (hini : (Cond.initialized E).before args s = true) (hG : GS s) (hstr : (is, text) ∈ gs_S)
    (hat : ∀ w ∈ (vx_atS RX5 ic E ["java/lang/RuntimeException", "java/lang/Exception"]).filter goodWord, w.before args s = true) (hB : ∀ w ∈ (vx_atS RX5 ic E ["java/lang/RuntimeException", "java/lang/Exception"]).filter (fun w => !goodWord w), w ∈ [Cond.castable E E, Cond.declares ⟨"java/lang/RuntimeException", "<init>", "(Ljava/lang/String;)V"⟩, Cond.declares ⟨"java/lang/Exception", "<init>", "(Ljava/lang/String;)V"⟩, Cond.declares ⟨"java/lang/Throwable", "<init>", "(Ljava/lang/String;)V"⟩]) (hE : (E, E) ∈ gs_C)
    (hgood : ∀ w ∈ Cond.classLink RX5 ik E :: Cond.initialized E :: vx_atS RX5 ic E ["java/lang/RuntimeException", "java/lang/Exception"], vx_ot w = true) (hH : HS NA em s s.heap) (hsize : ls.size = c.maxLocals)
    (d0 : decode cc pc = .ok (.new ik, 3)) (d3 : decode cc (pc + 3) = .ok (.dup, 1)) (d4 : decode cc (pc + 4) = .ok (.ldc is, 2)) (d6 : decode cc (pc + 6) = .ok (.invokespecial ic, 3)) (d9 : decode cc (pc + 9) = .ok (.athrow, 1))
    (hno : ∀ x ∈ c.exceptionTable.toList, False) (hRf : 5 < R.frames) (hRl : (rest.map fun v => v.category).sum + (13 * 3 + 43) ≤ R.locals) (hRc : cells + 1 ≤ R.cells) (hRs : slots + 6 ≤ R.slots) (hlocks : meth.locks = false) (hc : cells + 1 ≤ mc) (hs : slots + 6 ≤ ms) :
    W p l e R s m args below meth c s.heap [] cells slots (vx_MQ below Qc (XE E) args s mc ms NA) (F0 m pc ls rest) := by
  obtain ⟨sa, hsa⟩ := hG.2.2.2.1 _ hstr
  refine vx_throwS (A := NA) (text := text) (names := ["java/lang/RuntimeException", "java/lang/Exception"]) hx hb hl hown hfit (by decide +kernel) hk hini hsa (vx_hat hat hB ?_) hgood hH.2.2.1 hH.2.2.2 va_S.rf hsize d0 d3 d4 d6 d9 (fun x hx => (hno x hx).elim) hRf hRl hRc hRs hlocks (fun t hv hz hk2 => ⟨(), trivial, rfl, hz, fun q hq _ => hk2 q hq⟩) (fun _ h => nomatch h) hc hs
  exact vx_c (va_Nw.use rfl (hG.2.1 _ hE)) (vx_c (va_Nw.use rfl (hG.2.2.2.2.1 _ (by decide +kernel))) (vx_c (va_Nw.use rfl (hG.2.2.2.2.1 _ (by decide +kernel))) (vx_c (va_Nw.use rfl (hG.2.2.2.2.1 _ (by decide +kernel))) vx_n)))
end ZTR
