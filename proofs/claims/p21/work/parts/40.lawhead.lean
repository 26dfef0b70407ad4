/-! THE LAW: what holds at its start -/
theorem gs_Wm : ∀ w ∈ gs_W, w ∈ lw_tbl := by decide +kernel
theorem gs_Cm : ∀ q ∈ gs_C, Cond.castable q.1 q.2 ∈ lw_tbl := by decide +kernel
theorem gs_Sm : ∀ q ∈ gs_S, Cond.exactly (.string RX5 q.1) "java/lang/String" ∈ flatC (Jvm.Cond.and given_1 narrow_1) := by decide +kernel
theorem gs_Sw : ∀ q ∈ gs_S, Cond.stringRef RX5 q.1 q.2 ∈ lw_tbl := by decide +kernel
theorem gs_Dm : ∀ y ∈ gs_D, Cond.declares y ∈ lw_tbl := by decide +kernel
theorem gs_start {s : State} {b : Nat} (hts : ∀ w ∈ lw_tbl, w.before #[Value.ref b] s = true) (hgv : (Jvm.Cond.and given_1 narrow_1).before #[Value.ref b] s = true) : GS s := by
  have hf := flat_of_before _ hgv
  refine ⟨fun w hw => va_Nw.of (gs_Wt w hw) (hts w (gs_Wm w hw)), fun q hq => va_Nw.of rfl (hts _ (gs_Cm q hq)), fun q hq => absurd hq List.not_mem_nil, fun q hq => ?_, fun y hy => va_Nw.of rfl (hts _ (gs_Dm y hy)), va_Mi.of (hf (.isRef (.mirror "[Ljava/lang/Object;")) (by decide +kernel)), va_AO.of (hts (.arrayOver (.object "java/lang/Object")) (by decide +kernel))⟩
  obtain ⟨a, c, cell, k, q1, -⟩ := Cond.exactly_spec (args := #[Value.ref b]) (first := s) (o := none) (s := s) (idx := []) (t := .string RX5 q.1) (cls := "java/lang/String") (hf _ (gs_Sm q hq))
  exact ⟨a, vk_R.of (hts _ (gs_Sw q hq)) q1⟩
theorem hs_start {s : State} {b : Nat} (hts : ∀ w ∈ lw_tbl, w.before #[Value.ref b] s = true) (hgv : (Jvm.Cond.and given_1 narrow_1).before #[Value.ref b] s = true) : ∃ em : Nat, HS (fun q => s.heap.size ≤ q) em s s.heap := by
  have hf := flat_of_before _ hgv
  have hA : ∀ a : Nat, a < s.heap.size → ¬ (fun q : Nat => s.heap.size ≤ q) a := fun a h => Nat.not_le.mpr h
  obtain ⟨em, he, hT⟩ := va_Tof (tm := .static "java/util/ArrayList" "DEFAULTCAPACITY_EMPTY_ELEMENTDATA" "[Ljava/lang/Object;") (ty := .object "java/lang/Object") (N := 0) (f := fun _ => .null) (by decide) (hf (.arrayOf (.static "java/util/ArrayList" "DEFAULTCAPACITY_EMPTY_ELEMENTDATA" "[Ljava/lang/Object;") (.object "java/lang/Object")) (by decide +kernel)) (va_eqt (hf (.eq (.length (.static "java/util/ArrayList" "DEFAULTCAPACITY_EMPTY_ELEMENTDATA" "[Ljava/lang/Object;")) (.int 0)) (by decide +kernel))) (fun j hj => absurd hj (Nat.not_lt_zero j)) hA
  exact ⟨em, va_Zref (hts (.laysStatic "java/util/ArrayList" "DEFAULTCAPACITY_EMPTY_ELEMENTDATA" "[Ljava/lang/Object;") (by decide +kernel)) (hts (.initialized "java/util/ArrayList") (by decide +kernel)) he hA, hT,
    vx_Zqof (hts (.laysStatic Bundle.tN "UNASSIGNED_STACK" Bundle.steD) (by decide +kernel)) (hts (.initialized Bundle.tN) (by decide +kernel)) (hf (.isRef (.static Bundle.tN "UNASSIGNED_STACK" Bundle.steD)) (by decide +kernel)) hA,
    vx_Zqof (hts (.laysStatic Bundle.tN "SUPPRESSED_SENTINEL" Bundle.listD) (by decide +kernel)) (hts (.initialized Bundle.tN) (by decide +kernel)) (hf (.isRef (.static Bundle.tN "SUPPRESSED_SENTINEL" Bundle.listD)) (by decide +kernel)) hA⟩
theorem cO_start {s : State} {b : Nat} (hts : ∀ w ∈ lw_tbl, w.before #[Value.ref b] s = true) : ∃ cO : ClassId, ArrOfT s cO (.object "java/lang/Object") ∧ va_RA s cO (.object "java/lang/Object") := by
  obtain ⟨comp, cO, kO, h1, -, h2, h3, h4⟩ := Cond.arrayOver_spec (hts (.arrayOver (.object "java/lang/Object")) (by decide +kernel))
  exact ⟨cO, fun N z => ⟨fun k h => (by cases h), kO, h2, comp, h3⟩, kO, comp, h2, h3, h1, h4⟩
theorem cJ_start {s : State} {b : Nat} (hts : ∀ w ∈ lw_tbl, w.before #[Value.ref b] s = true) : ∃ cJ : ClassId, ArrOfT s cJ .long ∧ va_RA s cJ .long := by
  obtain ⟨cA, kA, comp, h1, h2, h3⟩ := Cond.arrayClass_spec (hts (.arrayClass .long) (by decide +kernel))
  exact ⟨cA, fun n z => ⟨fun k h => (by cases h), kA, h2, comp, h3⟩, h1⟩
theorem kn_start {s : State} {b : Nat} (hts : ∀ w ∈ lw_tbl, w.before #[Value.ref b] s = true) : ∃ D : va_G, va_K D vwCl [] s := by
  obtain ⟨c0, i0, h0⟩ := u_known (C := RJx4a65c) (T := TJx4a65c) (N := 3) (n := 3) hts (by decide +kernel) (hts (.instantiable RJx4a65c 3) (by decide +kernel))
  obtain ⟨c1, i1, h1⟩ := u_known (C := RX0) (T := TX0) (N := 8) (n := 8) hts (by decide +kernel) (hts (.instantiable RX0 8) (by decide +kernel))
  obtain ⟨c2, i2, h2⟩ := u_known (C := RX2) (T := TX2) (N := 1) (n := 1) hts (by decide +kernel) (hts (.instantiable RX2 1) (by decide +kernel))
  obtain ⟨c3, i3, h3⟩ := u_known (C := RX3) (T := TX3) (N := 2) (n := 2) hts (by decide +kernel) (hts (.instantiable RX3 2) (by decide +kernel))
  obtain ⟨c4, i4, h4⟩ := u_known (C := RX4) (T := TX4) (N := 4) (n := 4) hts (by decide +kernel) (hts (.instantiable RX4 4) (by decide +kernel))
  obtain ⟨c5, i5, h5⟩ := u_known (C := RX5) (T := TX5) (N := 5) (n := 5) hts (by decide +kernel) (hts (.instantiable RX5 5) (by decide +kernel))
  refine ⟨(fun k => if k = 0 then c0 else if k = 1 then c1 else if k = 2 then c2 else if k = 3 then c3 else if k = 4 then c4 else c5, fun k => if k = 0 then i0 else if k = 1 then i1 else if k = 2 then i2 else if k = 3 then i3 else if k = 4 then i4 else i5), ?_, fun k q h => by simp at h⟩
  intro k q hq
  match k, hq with
  | 0, hq => cases hq; exact h0
  | 1, hq => cases hq; exact h1
  | 2, hq => cases hq; exact h2
  | 3, hq => cases hq; exact h3
  | 4, hq => cases hq; exact h4
  | 5, hq => cases hq; exact h5
  | k + 6, hq => simp at hq
set_option maxHeartbeats 4000000 in
set_option maxRecDepth 100000 in
/-- the law's head: a new object and the row c; what they show at first -/
theorem law_head {p : Program} {l : Launch} {e : Env} {s : State} {m : MethodId} {below : List Frame} {meth : Method} {c : Code} {Q : State → Prop} {A : Nat → Prop} {H : Heap} {locs : List Loc} {ls : Array Slot} (D : va_G) (em b : Nat) (hx : p.tables.exec = Jvm.exec) (hb : c.code = code) (hml : c.maxLocals = 6) (hown : s.vm.findClass RL = some m.cls) (hts : ∀ w ∈ wsL_law, w.before #[Value.ref b] s = true) (hG : GS s) (hHS : HS A em s s.heap) (hK : va_K D vwCl [] s) (hA : ∀ q : Nat, s.heap.size ≤ q → A q)
    (hP : va_P D vwCl [] H) (hD : va_D A []) (hS : va_S A s.heap H locs) (hl : lv_has ls 6 [(0, .ref b)])
    (kk : ∀ (x pr bd mk os cc : Nat) (cI : ClassId) (H : Heap) (locs : List Loc) (ls : Array Slot), va_K D vwCl [(cI, .int)] s → va_P D vwCl [(x, .inr (5, [.ref pr, .ref mk, .ref os, .long 0, .long 0])), (pr, .inr (3, [.ref bd, .int (nI 0)])), (bd, .inl (cI, 6003, .inl (upd (upd (upd (fun _ => 0) 0 (nI 1000)) 1 (nI 1000)) 2 (nI 1000)))), (mk, .inr (0, [.int (nI 0), .ref em, .int (nI 0)])), (os, .inr (0, [.int (nI 0), .ref em, .int (nI 0)])), (cc, .inl (cI, 30, .inl (nIf (va_up (va_up (va_up (fun _ => 0) 3 1000) 4 1000) 5 1000))))] H → va_D A [(x, .inr (5, [.ref pr, .ref mk, .ref os, .long 0, .long 0])), (pr, .inr (3, [.ref bd, .int (nI 0)])), (bd, .inl (cI, 6003, .inl (upd (upd (upd (fun _ => 0) 0 (nI 1000)) 1 (nI 1000)) 2 (nI 1000)))), (mk, .inr (0, [.int (nI 0), .ref em, .int (nI 0)])), (os, .inr (0, [.int (nI 0), .ref em, .int (nI 0)])), (cc, .inl (cI, 30, .inl (nIf (va_up (va_up (va_up (fun _ => 0) 3 1000) 4 1000) 5 1000))))] → va_S A s.heap H locs → lv_has ls 6 [(0, .ref b), (1, .ref x), (2, .ref cc), (3, .int (nI 1))] → W p l e room_1 s m #[Value.ref b] below meth c H locs 6 6046 Q (F0 m 81 ls [])) :
    W p l e room_1 s m #[Value.ref b] below meth c H locs 0 0 Q (F0 m 0 ls []) := by
  have i_RX5 : ∀ w ∈ u_ws RX5 TX5 5, w ∈ wsL_law := by decide +kernel
  have k_1 := hts (.classLink RL 11 RX5) (List.mem_of_getElem? (i := 0) rfl)
  have k_2 := hts (.instantiable RX5 5) (List.mem_of_getElem? (i := 1) rfl)
  have k_3 := hts (.initialized RX5) (List.mem_of_getElem? (i := 2) rfl)
  have k_4 := hts (.methodLink RL 95 yX5_init) (List.mem_of_getElem? (i := 4) rfl)
  have k_5 := hts (.instanceMethod yX5_init) (List.mem_of_getElem? (i := 5) rfl)
  have k_6 := hts (.arrayClass .int) (List.mem_of_getElem? (i := 3) rfl)
  refine va_new (D := D) (ci := 5) (fs := [.null, .null, .null, .long 0, .long 0]) (C := RX5) (T := TX5) (N := 5) hx hb hts i_RX5 tyX5 tyX5_ok hown k_1 k_2 k_3 hK hP hD hS hA rfl (fun j hj => by rcases (show j = 0 ∨ j = 1 ∨ j = 2 ∨ j = 3 ∨ j = 4 by omega) with rfl | rfl | rfl | rfl | rfl <;> rfl) (Nat.le_of_ble_eq_true rfl) (Nat.le_of_ble_eq_true rfl) dL_law_0 (fun q_1 H hP hD hS => ?_)
  have hP : va_P D vwCl [(q_1, .inr (5, [.null, .null, .null, .long 0, .long 0]))] H := hP
  have hD : va_D A [(q_1, .inr (5, [.null, .null, .null, .long 0, .long 0]))] := hD
  refine W.widen (k := 1) (n := 5) (by decide) (by decide) ?_
  refine lv_dup hx hb dL_law_3 rfl ?_
  have hF_8 := va_free (wc := [(q_1, .inr (5, [.null, .null, .null, .long 0, .long 0]))]) hD hS hA [0] rfl
  refine va_callv (va_runI (As := []) (rest := [.ref q_1]) ⟨hx, hb, hml, hown, hts⟩ (m_X5_init l D q_1 em _) (cwI 0 hts gL_law_X5_init rfl rfl rfl k_3 k_4 k_5 rfl (by decide +kernel) ⟨Nat.le_of_ble_eq_true rfl, Nat.le_of_ble_eq_true rfl⟩) (zq_S XM.hs (hP.sub (ws' := [(q_1, .inr (5, [.null, .null, .null, .long 0, .long 0]))]) [0] rfl) (hK.sub (tys' := []) [] rfl) (hD.sub (ws' := [(q_1, .inr (5, [.null, .null, .null, .long 0, .long 0]))]) [0] (by decide) rfl) hG (hHS.go hS (va_free (wc := [(q_1, .inr (5, [.null, .null, .null, .long 0, .long 0]))]) hD hS hA [0] rfl))) rfl rfl hl.1 rfl (lv_room (Nat.le_of_ble_eq_true rfl)) dL_law_4 ⟨Nat.le_of_ble_eq_true rfl, Nat.le_of_ble_eq_true rfl⟩) hS (fun q _ h => hF_8 q h) hF_8 (fun u t1 H locs ht1 hvm hw hB hz1 hk1 hS => ?_)
  obtain ⟨pr__2, bd__3, mk__4, os__5, cI__6, hP1, hK1, hD1⟩ := hB
  rw [ht1] at hP1
  have hK1 := va_K.moved hvm.symm hK1
  obtain ⟨hP, hD⟩ := va_join (wr := []) (w1 := [(q_1, .inr (5, [.ref pr__2, .ref mk__4, .ref os__5, .long 0, .long 0])), (pr__2, .inr (3, [.ref bd__3, .int (nI 0)])), (bd__3, .inl (cI__6, 6003, .inl (upd (upd (upd (fun _ => 0) 0 (nI 1000)) 1 (nI 1000)) 2 (nI 1000)))), (mk__4, .inr (0, [.int (nI 0), .ref em, .int (nI 0)])), (os__5, .inr (0, [.int (nI 0), .ref em, .int (nI 0)]))]) hP hD [0] [] rfl rfl (by decide) (by decide) hk1 hF_8 hP1 hD1
  have hK := hK.app hK1
  have hK := hK.sub (tys' := [(cI__6, .int)]) [0] rfl
  have hP : va_P D vwCl [(q_1, .inr (5, [.ref pr__2, .ref mk__4, .ref os__5, .long 0, .long 0])), (pr__2, .inr (3, [.ref bd__3, .int (nI 0)])), (bd__3, .inl (cI__6, 6003, .inl (upd (upd (upd (fun _ => 0) 0 (nI 1000)) 1 (nI 1000)) 2 (nI 1000)))), (mk__4, .inr (0, [.int (nI 0), .ref em, .int (nI 0)])), (os__5, .inr (0, [.int (nI 0), .ref em, .int (nI 0)]))] H := hP
  have hD : va_D A [(q_1, .inr (5, [.ref pr__2, .ref mk__4, .ref os__5, .long 0, .long 0])), (pr__2, .inr (3, [.ref bd__3, .int (nI 0)])), (bd__3, .inl (cI__6, 6003, .inl (upd (upd (upd (fun _ => 0) 0 (nI 1000)) 1 (nI 1000)) 2 (nI 1000)))), (mk__4, .inr (0, [.int (nI 0), .ref em, .int (nI 0)])), (os__5, .inr (0, [.int (nI 0), .ref em, .int (nI 0)]))] := hD
  refine W.widen (k := 5) (n := 6016) (by decide) (by decide) ?_
  refine lv_astore_n (lv' := [(1, .ref q_1), (0, .ref b)]) hx hb dL_law_7 rfl hl (by decide) rfl (fun ls hl => ?_)
  refine lv_bipush (v := nI 30) hx hb dL_law_8 (by decide) ?_
  refine va_newa (atype := .int) (ty := .int) (N' := 30) (a0 := (30, .inl (nIf (fun _ => 0)))) hx hb k_6 rfl hK hP hD hS hA (fun _ => rfl) (by decide) (by decide) (by decide) (Nat.le_of_ble_eq_true rfl) (Nat.le_of_ble_eq_true rfl) dL_law_10 (fun q_9 cN_10 H hK hP hD hS => ?_)
  obtain rfl : cI__6 = cN_10 := cA_eq hK 0 1 rfl rfl
  have hK := hK.sub (tys' := [(cI__6, .int)]) [0] rfl
  have hP : va_P D vwCl [(q_1, .inr (5, [.ref pr__2, .ref mk__4, .ref os__5, .long 0, .long 0])), (pr__2, .inr (3, [.ref bd__3, .int (nI 0)])), (bd__3, .inl (cI__6, 6003, .inl (upd (upd (upd (fun _ => 0) 0 (nI 1000)) 1 (nI 1000)) 2 (nI 1000)))), (mk__4, .inr (0, [.int (nI 0), .ref em, .int (nI 0)])), (os__5, .inr (0, [.int (nI 0), .ref em, .int (nI 0)])), (q_9, .inl (cI__6, 30, .inl (nIf (fun _ => 0))))] H := hP
  have hD : va_D A [(q_1, .inr (5, [.ref pr__2, .ref mk__4, .ref os__5, .long 0, .long 0])), (pr__2, .inr (3, [.ref bd__3, .int (nI 0)])), (bd__3, .inl (cI__6, 6003, .inl (upd (upd (upd (fun _ => 0) 0 (nI 1000)) 1 (nI 1000)) 2 (nI 1000)))), (mk__4, .inr (0, [.int (nI 0), .ref em, .int (nI 0)])), (os__5, .inr (0, [.int (nI 0), .ref em, .int (nI 0)])), (q_9, .inl (cI__6, 30, .inl (nIf (fun _ => 0))))] := hD
  refine W.widen (k := 6) (n := 6046) (by decide) (by decide) ?_
  refine lv_astore_n (lv' := [(2, .ref q_9), (1, .ref q_1), (0, .ref b)]) hx hb dL_law_12 rfl hl (by decide) rfl (fun ls hl => ?_)
  refine lv_aload_n hx hb dL_law_13 rfl (lv_at hl 0 rfl) ?_
  refine lv_iconst (v := nI 3) hx hb dL_law_14 (by decide) ?_
  refine lv_sipush (v := nI 1000) hx hb dL_law_15 (by decide) ?_
  refine zx_nast (D := D) hx hb hK hP hD hS 5 0 rfl rfl (by decide) (by decide) dL_law_18 (fun H locs hP hD hS => ?_)
  have hP : va_P D vwCl [(q_1, .inr (5, [.ref pr__2, .ref mk__4, .ref os__5, .long 0, .long 0])), (pr__2, .inr (3, [.ref bd__3, .int (nI 0)])), (bd__3, .inl (cI__6, 6003, .inl (upd (upd (upd (fun _ => 0) 0 (nI 1000)) 1 (nI 1000)) 2 (nI 1000)))), (mk__4, .inr (0, [.int (nI 0), .ref em, .int (nI 0)])), (os__5, .inr (0, [.int (nI 0), .ref em, .int (nI 0)])), (q_9, .inl (cI__6, 30, .inl (nIf (va_up (fun _ => 0) 3 1000))))] H := hP
  have hD : va_D A [(q_1, .inr (5, [.ref pr__2, .ref mk__4, .ref os__5, .long 0, .long 0])), (pr__2, .inr (3, [.ref bd__3, .int (nI 0)])), (bd__3, .inl (cI__6, 6003, .inl (upd (upd (upd (fun _ => 0) 0 (nI 1000)) 1 (nI 1000)) 2 (nI 1000)))), (mk__4, .inr (0, [.int (nI 0), .ref em, .int (nI 0)])), (os__5, .inr (0, [.int (nI 0), .ref em, .int (nI 0)])), (q_9, .inl (cI__6, 30, .inl (nIf (va_up (fun _ => 0) 3 1000))))] := hD
  refine lv_aload_n hx hb dL_law_19 rfl (lv_at hl 0 rfl) ?_
  refine lv_iconst (v := nI 4) hx hb dL_law_20 (by decide) ?_
  refine lv_sipush (v := nI 1000) hx hb dL_law_21 (by decide) ?_
  refine zx_nast (D := D) hx hb hK hP hD hS 5 0 rfl rfl (by decide) (by decide) dL_law_24 (fun H locs hP hD hS => ?_)
  have hP : va_P D vwCl [(q_1, .inr (5, [.ref pr__2, .ref mk__4, .ref os__5, .long 0, .long 0])), (pr__2, .inr (3, [.ref bd__3, .int (nI 0)])), (bd__3, .inl (cI__6, 6003, .inl (upd (upd (upd (fun _ => 0) 0 (nI 1000)) 1 (nI 1000)) 2 (nI 1000)))), (mk__4, .inr (0, [.int (nI 0), .ref em, .int (nI 0)])), (os__5, .inr (0, [.int (nI 0), .ref em, .int (nI 0)])), (q_9, .inl (cI__6, 30, .inl (nIf (va_up (va_up (fun _ => 0) 3 1000) 4 1000))))] H := hP
  have hD : va_D A [(q_1, .inr (5, [.ref pr__2, .ref mk__4, .ref os__5, .long 0, .long 0])), (pr__2, .inr (3, [.ref bd__3, .int (nI 0)])), (bd__3, .inl (cI__6, 6003, .inl (upd (upd (upd (fun _ => 0) 0 (nI 1000)) 1 (nI 1000)) 2 (nI 1000)))), (mk__4, .inr (0, [.int (nI 0), .ref em, .int (nI 0)])), (os__5, .inr (0, [.int (nI 0), .ref em, .int (nI 0)])), (q_9, .inl (cI__6, 30, .inl (nIf (va_up (va_up (fun _ => 0) 3 1000) 4 1000))))] := hD
  refine lv_aload_n hx hb dL_law_25 rfl (lv_at hl 0 rfl) ?_
  refine lv_iconst (v := nI 5) hx hb dL_law_26 (by decide) ?_
  refine lv_sipush (v := nI 1000) hx hb dL_law_27 (by decide) ?_
  refine zx_nast (D := D) hx hb hK hP hD hS 5 0 rfl rfl (by decide) (by decide) dL_law_30 (fun H locs hP hD hS => ?_)
  have hP : va_P D vwCl [(q_1, .inr (5, [.ref pr__2, .ref mk__4, .ref os__5, .long 0, .long 0])), (pr__2, .inr (3, [.ref bd__3, .int (nI 0)])), (bd__3, .inl (cI__6, 6003, .inl (upd (upd (upd (fun _ => 0) 0 (nI 1000)) 1 (nI 1000)) 2 (nI 1000)))), (mk__4, .inr (0, [.int (nI 0), .ref em, .int (nI 0)])), (os__5, .inr (0, [.int (nI 0), .ref em, .int (nI 0)])), (q_9, .inl (cI__6, 30, .inl (nIf (va_up (va_up (va_up (fun _ => 0) 3 1000) 4 1000) 5 1000))))] H := hP
  have hD : va_D A [(q_1, .inr (5, [.ref pr__2, .ref mk__4, .ref os__5, .long 0, .long 0])), (pr__2, .inr (3, [.ref bd__3, .int (nI 0)])), (bd__3, .inl (cI__6, 6003, .inl (upd (upd (upd (fun _ => 0) 0 (nI 1000)) 1 (nI 1000)) 2 (nI 1000)))), (mk__4, .inr (0, [.int (nI 0), .ref em, .int (nI 0)])), (os__5, .inr (0, [.int (nI 0), .ref em, .int (nI 0)])), (q_9, .inl (cI__6, 30, .inl (nIf (va_up (va_up (va_up (fun _ => 0) 3 1000) 4 1000) 5 1000))))] := hD
  refine lv_aload_n hx hb dL_law_31 rfl (lv_at hl 1 rfl) ?_
  refine vp_callSi (W.runV (As := []) (rest := []) ⟨hx, hb, hml, hown, hts⟩ (m_X5_today_ok l D q_1 pr__2 mk__4 os__5 0 0 bd__3 0) (cwV 0 hts gL_law_X5_today rfl rfl rfl (by decide +kernel) ⟨Nat.le_of_ble_eq_true rfl, Nat.le_of_ble_eq_true rfl⟩) (z1_V (va_recv hK hP (ci := 5) (q0 := 0) rfl rfl) (hP.sub (ws' := [(q_1, .inr (5, [.ref pr__2, .ref mk__4, .ref os__5, .long 0, .long 0])), (pr__2, .inr (3, [.ref bd__3, .int (nI 0)]))]) [0, 1] rfl) (hK.sub (tys' := []) [] rfl) hG) rfl rfl hl.1 rfl (lv_room (Nat.le_of_ble_eq_true rfl)) dL_law_32 ⟨Nat.le_of_ble_eq_true rfl, Nat.le_of_ble_eq_true rfl⟩) (fun r_11 e_r_11 => ?_)
  replace e_r_11 := e_r_11.symm; subst e_r_11
  refine lv_if_ne (tgt := 79) hx hb dL_law_35 (by decide) (fun h9 => absurd (by decide) h9) (fun _ => ?_)
  refine lv_aload_n hx hb dL_law_38 rfl (lv_at hl 1 rfl) ?_
  refine vp_callSi (W.runV (As := []) (rest := []) ⟨hx, hb, hml, hown, hts⟩ (m_X5_contracts_ok l D q_1 pr__2 mk__4 os__5 0 0 (nI 0) em 0) (cwV 0 hts gL_law_X5_contracts rfl rfl rfl (by decide +kernel) ⟨Nat.le_of_ble_eq_true rfl, Nat.le_of_ble_eq_true rfl⟩) (z1_V (va_recv hK hP (ci := 5) (q0 := 0) rfl rfl) (hP.sub (ws' := [(q_1, .inr (5, [.ref pr__2, .ref mk__4, .ref os__5, .long 0, .long 0])), (mk__4, .inr (0, [.int (nI 0), .ref em, .int (nI 0)]))]) [0, 3] rfl) (hK.sub (tys' := []) [] rfl) hG) rfl rfl hl.1 rfl (lv_room (Nat.le_of_ble_eq_true rfl)) dL_law_39 ⟨Nat.le_of_ble_eq_true rfl, Nat.le_of_ble_eq_true rfl⟩) (fun r_12 e_r_12 => ?_)
  replace e_r_12 := e_r_12.symm; subst e_r_12
  refine lv_if_ne (tgt := 79) hx hb dL_law_42 (by decide) (fun h9 => absurd (by decide) h9) (fun _ => ?_)
  refine lv_aload_n hx hb dL_law_45 rfl (lv_at hl 1 rfl) ?_
  refine vp_callSl (W.runV (As := []) (rest := []) ⟨hx, hb, hml, hown, hts⟩ (m_X5_charged_ok l D q_1 pr__2 mk__4 os__5 0 0) (cwV 0 hts gL_law_X5_charged rfl rfl rfl (by decide +kernel) ⟨Nat.le_of_ble_eq_true rfl, Nat.le_of_ble_eq_true rfl⟩) (z1_V (va_recv hK hP (ci := 5) (q0 := 0) rfl rfl) (hP.sub (ws' := [(q_1, .inr (5, [.ref pr__2, .ref mk__4, .ref os__5, .long 0, .long 0]))]) [0] rfl) (hK.sub (tys' := []) [] rfl) hG) rfl rfl hl.1 rfl (lv_room (Nat.le_of_ble_eq_true rfl)) dL_law_46 ⟨Nat.le_of_ble_eq_true rfl, Nat.le_of_ble_eq_true rfl⟩) (fun r_13 e_r_13 => ?_)
  replace e_r_13 := e_r_13.symm; subst e_r_13
  refine lv_lconst (v := 0) hx hb dL_law_49 (by decide) ?_
  refine zx_lcmp_ne (tgt := 79) hx hb dL_law_50 dL_law_51 (by decide) (fun h9 => absurd rfl h9) (fun _ => ?_)
  refine lv_aload_n hx hb dL_law_54 rfl (lv_at hl 1 rfl) ?_
  refine vp_callSl (W.runV (As := []) (rest := []) ⟨hx, hb, hml, hown, hts⟩ (m_X5_madeGood_ok l D q_1 pr__2 mk__4 os__5 0 0) (cwV 0 hts gL_law_X5_madeGood rfl rfl rfl (by decide +kernel) ⟨Nat.le_of_ble_eq_true rfl, Nat.le_of_ble_eq_true rfl⟩) (z1_V (va_recv hK hP (ci := 5) (q0 := 0) rfl rfl) (hP.sub (ws' := [(q_1, .inr (5, [.ref pr__2, .ref mk__4, .ref os__5, .long 0, .long 0]))]) [0] rfl) (hK.sub (tys' := []) [] rfl) hG) rfl rfl hl.1 rfl (lv_room (Nat.le_of_ble_eq_true rfl)) dL_law_55 ⟨Nat.le_of_ble_eq_true rfl, Nat.le_of_ble_eq_true rfl⟩) (fun r_14 e_r_14 => ?_)
  replace e_r_14 := e_r_14.symm; subst e_r_14
  refine lv_lconst (v := 0) hx hb dL_law_58 (by decide) ?_
  refine zx_lcmp_ne (tgt := 79) hx hb dL_law_59 dL_law_60 (by decide) (fun h9 => absurd rfl h9) (fun _ => ?_)
  refine lv_aload_n hx hb dL_law_63 rfl (lv_at hl 1 rfl) ?_
  refine lv_iconst (v := nI 2) hx hb dL_law_64 (by decide) ?_
  refine lv_iconst (v := nI 0) hx hb dL_law_65 (by decide) ?_
  refine vp_callSi (W.runV (As := [.int (nI 2), .int (nI 0)]) (rest := []) ⟨hx, hb, hml, hown, hts⟩ (m_X5_offer_ok l D q_1 pr__2 mk__4 os__5 0 0 bd__3 0 cI__6 (upd (upd (upd (fun _ => 0) 0 (nI 1000)) 1 (nI 1000)) 2 (nI 1000)) 2 0 (by first | omega | assumption) (by first | omega | assumption) (by first | omega | assumption)) (cwV 2 hts gL_law_X5_offer rfl rfl rfl (by decide +kernel) ⟨Nat.le_of_ble_eq_true rfl, Nat.le_of_ble_eq_true rfl⟩) (z1_V (va_recv hK hP (ci := 5) (q0 := 0) rfl rfl) (hP.sub (ws' := [(q_1, .inr (5, [.ref pr__2, .ref mk__4, .ref os__5, .long 0, .long 0])), (pr__2, .inr (3, [.ref bd__3, .int (nI 0)])), (bd__3, .inl (cI__6, 6003, .inl (upd (upd (upd (fun _ => 0) 0 (nI 1000)) 1 (nI 1000)) 2 (nI 1000))))]) [0, 1, 2] rfl) (hK.sub (tys' := [(cI__6, .int)]) [0] rfl) hG) rfl rfl hl.1 rfl (lv_room (Nat.le_of_ble_eq_true rfl)) dL_law_66 ⟨Nat.le_of_ble_eq_true rfl, Nat.le_of_ble_eq_true rfl⟩) (fun r_15 e_r_15 => ?_)
  have e_r_15 : r_15 = nI 1050 := e_r_15.trans ((by decide +kernel))
  replace e_r_15 := e_r_15.symm; subst e_r_15
  refine lv_sipush (v := nI 1050) hx hb dL_law_69 (by decide) ?_
  refine lv_icmp_ne (tgt := 79) hx hb dL_law_72 (by decide) (fun h9 => absurd (by decide) h9) (fun _ => ?_)
  refine lv_iconst (v := nI 1) hx hb dL_law_75 (by decide) ?_
  refine lv_goto (tgt := 80) hx hb dL_law_76 (by decide) ?_
  refine lv_istore_n (lv' := [(3, .int (nI 1)), (2, .ref q_9), (1, .ref q_1), (0, .ref b)]) hx hb dL_law_80 rfl hl (by decide) rfl (fun ls hl => ?_)
  have hP := hP.sub (ws' := [(q_1, .inr (5, [.ref pr__2, .ref mk__4, .ref os__5, .long 0, .long 0])), (pr__2, .inr (3, [.ref bd__3, .int (nI 0)])), (bd__3, .inl (cI__6, 6003, .inl (upd (upd (upd (fun _ => 0) 0 (nI 1000)) 1 (nI 1000)) 2 (nI 1000)))), (mk__4, .inr (0, [.int (nI 0), .ref em, .int (nI 0)])), (os__5, .inr (0, [.int (nI 0), .ref em, .int (nI 0)])), (q_9, .inl (cI__6, 30, .inl (nIf (va_up (va_up (va_up (fun _ => 0) 3 1000) 4 1000) 5 1000))))]) [0, 1, 2, 3, 4, 5] rfl
  have hD := hD.sub (ws' := [(q_1, .inr (5, [.ref pr__2, .ref mk__4, .ref os__5, .long 0, .long 0])), (pr__2, .inr (3, [.ref bd__3, .int (nI 0)])), (bd__3, .inl (cI__6, 6003, .inl (upd (upd (upd (fun _ => 0) 0 (nI 1000)) 1 (nI 1000)) 2 (nI 1000)))), (mk__4, .inr (0, [.int (nI 0), .ref em, .int (nI 0)])), (os__5, .inr (0, [.int (nI 0), .ref em, .int (nI 0)])), (q_9, .inl (cI__6, 30, .inl (nIf (va_up (va_up (va_up (fun _ => 0) 3 1000) 4 1000) 5 1000))))]) [0, 1, 2, 3, 4, 5] (by decide) rfl
  have hK := hK.sub (tys' := [(cI__6, .int)]) [0] rfl
  exact kk q_1 pr__2 bd__3 mk__4 os__5 q_9 cI__6 H locs ls hK hP hD hS (lv_sub hl [3, 2, 1, 0] rfl)
