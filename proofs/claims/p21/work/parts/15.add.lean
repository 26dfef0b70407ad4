set_option maxHeartbeats 4000000 in
set_option maxRecDepth 100000 in
/-- grow(1) of an empty list -/
theorem m_Jx4a65c_grow1_e (l : Launch) (D : va_G) (li : Nat) (mc : Int32) (em : Nat)  (sz : Nat)  : Met l yJx4a65c_grow_92f84 wsJx4a65c_grow_92f84 ({ frames := 1, cells := 1, slots := 800, locals := 32 }) (zq D [(li, .inr (0, [.int mc, .ref em, .int (nI 0)]))] [] sz [.ref li, .int (nI 1)] (fun U H => HS (va_A [(li, .inr (0, [.int mc, .ref em, .int (nI 0)]))] sz) em U H)) (va_Qr (fun _ : Unit => True) (fun _ (q : Nat) t9 => ∃ (cO : ClassId), va_P D vwCl [(li, .inr (0, [.int mc, .ref q, .int (nI 0)])), (q, .inl (cO, 10, .inr (.inr (.inr (.inr (fun _ => none))))))] t9.heap ∧ va_K D vwCl [(cO, .object "java/lang/Object")] t9 ∧ va_D (va_A [(li, .inr (0, [.int mc, .ref em, .int (nI 0)]))] sz) [(li, .inr (0, [.int mc, .ref q, .int (nI 0)])), (q, .inl (cO, 10, .inr (.inr (.inr (.inr (fun _ => none))))))]) (va_A [(li, .inr (0, [.int mc, .ref em, .int (nI 0)]))] sz)) 1 800 (va_A [(li, .inr (0, [.int mc, .ref em, .int (nI 0)]))] sz) := by
  refine zmq (cc := cJx4a65c_grow_92f84) (maxL := 4) (ret := (some (.array (.object "java/lang/Object")))) (by decide) rfl (Nat.le_of_ble_eq_true rfl) ?_
  intro p e s m below meth c ls A hAe hsz hin hx hb hml hr hlocks hown hts hP hK hG hD hA hS hX hl
  subst hsz
  rw [← hAe] at hX
  have hHS := hX
  have hl : lv_has ls 4 [(0, .ref li), (1, .int (nI 1))] := hl
  have k_0 := hts (.fieldLink RJx4a65c 9 "java/util/ArrayList" "elementData" "[Ljava/lang/Object;") (List.mem_of_getElem? (i := 1) rfl)
  have i_RJx4a65c : ∀ w ∈ u_ws RJx4a65c TJx4a65c 3, w ∈ wsJx4a65c_grow_92f84 := by decide +kernel
  have k_2 := hts (.fieldLink RJx4a65c 39 "java/util/ArrayList" "DEFAULTCAPACITY_EMPTY_ELEMENTDATA" "[Ljava/lang/Object;") (List.mem_of_getElem? (i := 2) rfl)
  have k_3 := hts (.methodLink RJx4a65c 79 Lib.Math.max.name) (List.mem_of_getElem? (i := 3) rfl)
  have k_4 := hts (.static Lib.Math.max.name) (List.mem_of_getElem? (i := 4) rfl)
  have k_5 := hts (.initialized "java/lang/Math") (List.mem_of_getElem? (i := 5) rfl)
  have k_6 := hts (.code Lib.Math.max.name Lib.Math.max.code 2 (some .int)) (List.mem_of_getElem? (i := 6) rfl)
  have k_7 := hts (.classLink RJx4a65c 7 "java/lang/Object") (List.mem_of_getElem? (i := 7) rfl)
  refine lv_aload_n hx hb dJx4a65c_grow_92f84_0 rfl (lv_at hl 0 rfl) ?_
  refine va_get (D := D) (ci := 0) (v := .ref em) (C := RJx4a65c) (T := TJx4a65c) (N := 3) hx hb hts i_RJx4a65c hown hK hP 0 rfl rfl 1 (by decide) k_0 (fun _ h9 => h9) rfl dJx4a65c_grow_92f84_1 ?_
  refine va_tlen hx hb hHS.2.1 hS (v := nI 0) rfl dJx4a65c_grow_92f84_4 ?_
  refine lv_istore_n (lv' := [(2, .int (nI 0)), (0, .ref li), (1, .int (nI 1))]) hx hb dJx4a65c_grow_92f84_5 rfl hl (by decide) rfl (fun ls hl => ?_)
  refine lv_iload_n hx hb dJx4a65c_grow_92f84_6 rfl (lv_at hl 0 rfl) ?_
  refine lv_if_gt (tgt := 20) hx hb dJx4a65c_grow_92f84_7 (by decide) (fun h9 => absurd h9 (by decide)) (fun _ => ?_)
  refine lv_aload_n hx hb dJx4a65c_grow_92f84_10 rfl (lv_at hl 1 rfl) ?_
  refine va_get (D := D) (ci := 0) (v := .ref em) (C := RJx4a65c) (T := TJx4a65c) (N := 3) hx hb hts i_RJx4a65c hown hK hP 0 rfl rfl 1 (by decide) k_0 (fun _ h9 => h9) rfl dJx4a65c_grow_92f84_11 ?_
  refine va_gets hx hb hHS.1 hS hown k_2 (fun _ h9 => h9) dJx4a65c_grow_92f84_14 ?_
  refine lv_acmp_eq (rx := some em) (ry := some em) (tgt := 45) hx hb dJx4a65c_grow_92f84_17 (by decide) (fun _ => ?_) (fun h9 => absurd rfl h9)
  refine lv_aload_n hx hb dJx4a65c_grow_92f84_45 rfl (lv_at hl 1 rfl) ?_
  refine lv_bipush (v := nI 10) hx hb dJx4a65c_grow_92f84_46 (by decide) ?_
  refine lv_iload_n hx hb dJx4a65c_grow_92f84_48 rfl (lv_at hl 2 rfl) ?_
  refine va_mmax hx hb (hml.trans hl.1.symm) hown k_3 k_4 k_5 k_6 (Nat.le_of_ble_eq_true rfl) (Nat.le_of_ble_eq_true rfl) (by omega) (by omega) dJx4a65c_grow_92f84_49 ?_
  refine lv_topi (fun z_49 ez_49 => ?_)
  have ez_49 : z_49 = nI 10 := ez_49.trans (by decide)
  subst ez_49
  refine va_newq (C := "java/lang/Object") (N' := 10) hx hb hown k_7 hG.2.2.2.2.2.2 hK hP hD hS hA (nI_pos (by omega)) (nI_clamp (by omega)) (by omega) (Nat.le_of_ble_eq_true rfl) (Nat.le_of_ble_eq_true rfl) dJx4a65c_grow_92f84_52 (fun q_1 cN_2 H hK hP hD hS => ?_)
  have hK : va_K D vwCl [(cN_2, .object "java/lang/Object")] s := hK
  have hP : va_P D vwCl [(li, .inr (0, [.int mc, .ref em, .int (nI 0)])), (q_1, .inl (cN_2, 10, .inr (.inr (.inr (.inr (fun _ => none))))))] H := hP
  have hD : va_D A [(li, .inr (0, [.int mc, .ref em, .int (nI 0)])), (q_1, .inl (cN_2, 10, .inr (.inr (.inr (.inr (fun _ => none))))))] := hD
  refine W.widen (k := 1) (n := 10) (by decide) (by decide) ?_
  refine lv_dup_x1 hx hb dJx4a65c_grow_92f84_55 rfl rfl ?_
  refine va_put (D := D) (ci := 0) (v := .ref q_1) (ty := .array (.object "java/lang/Object")) (C := RJx4a65c) (T := TJx4a65c) (N := 3) hx hb hts i_RJx4a65c tyJx4a65c tyJx4a65c_ok nmJx4a65c hown hK hP hD hS 0 rfl rfl 1 (by decide) k_0 (fun _ h9 => h9) rfl (by decide +kernel) rfl rfl (Nat.le_of_ble_eq_true rfl) dJx4a65c_grow_92f84_56 (fun H locs hP hD hS => ?_)
  have hP : va_P D vwCl [(li, .inr (0, [.int mc, .ref q_1, .int (nI 0)])), (q_1, .inl (cN_2, 10, .inr (.inr (.inr (.inr (fun _ => none))))))] H := hP
  have hD : va_D A [(li, .inr (0, [.int mc, .ref q_1, .int (nI 0)])), (q_1, .inl (cN_2, 10, .inr (.inr (.inr (.inr (fun _ => none))))))] := hD
  subst hAe
  exact zretBr hx hb hr (Or.inr ⟨_, rfl⟩) hlocks (fun t9 ht hv => ⟨cN_2, by rw [ht]; exact (hP.sub (ws' := [(li, .inr (0, [.int mc, .ref q_1, .int (nI 0)])), (q_1, .inl (cN_2, 10, .inr (.inr (.inr (.inr (fun _ => none))))))]) [0, 1] rfl), va_K.moved hv (hK.sub [0] rfl), (hD.sub (ws' := [(li, .inr (0, [.int mc, .ref q_1, .int (nI 0)])), (q_1, .inl (cN_2, 10, .inr (.inr (.inr (.inr (fun _ => none))))))]) [0, 1] (by decide) rfl)⟩) hS dJx4a65c_grow_92f84_59 (Nat.le_of_ble_eq_true rfl) (Nat.le_of_ble_eq_true rfl)

set_option maxHeartbeats 4000000 in
set_option maxRecDepth 100000 in
/-- grow() of an empty list -/
theorem m_Jx4a65c_grow0_e (l : Launch) (D : va_G) (li : Nat) (mc : Int32) (em : Nat)  (sz : Nat)  : Met l yJx4a65c_grow_d5877 wsJx4a65c_grow_d5877 ({ frames := 2, cells := 1, slots := 800, locals := 55 }) (zq D [(li, .inr (0, [.int mc, .ref em, .int (nI 0)]))] [] sz [.ref li] (fun U H => HS (va_A [(li, .inr (0, [.int mc, .ref em, .int (nI 0)]))] sz) em U H)) (va_Qr (fun _ : Unit => True) (fun _ (q : Nat) t9 => ∃ (cO : ClassId), va_P D vwCl [(li, .inr (0, [.int mc, .ref q, .int (nI 0)])), (q, .inl (cO, 10, .inr (.inr (.inr (.inr (fun _ => none))))))] t9.heap ∧ va_K D vwCl [(cO, .object "java/lang/Object")] t9 ∧ va_D (va_A [(li, .inr (0, [.int mc, .ref em, .int (nI 0)]))] sz) [(li, .inr (0, [.int mc, .ref q, .int (nI 0)])), (q, .inl (cO, 10, .inr (.inr (.inr (.inr (fun _ => none))))))]) (va_A [(li, .inr (0, [.int mc, .ref em, .int (nI 0)]))] sz)) 1 800 (va_A [(li, .inr (0, [.int mc, .ref em, .int (nI 0)]))] sz) := by
  refine zmq (cc := cJx4a65c_grow_d5877) (maxL := 1) (ret := (some (.array (.object "java/lang/Object")))) (by decide) rfl (Nat.le_of_ble_eq_true rfl) ?_
  intro p e s m below meth c ls A hAe hsz hin hx hb hml hr hlocks hown hts hP hK hG hD hA hS hX hl
  subst hsz
  rw [← hAe] at hX
  have hHS := hX
  have hl : lv_has ls 1 [(0, .ref li)] := hl
  have k_0 := hts (.fieldLink RJx4a65c 48 "java/util/ArrayList" "size" "I") (List.mem_of_getElem? (i := 1) rfl)
  have i_RJx4a65c : ∀ w ∈ u_ws RJx4a65c TJx4a65c 3, w ∈ wsJx4a65c_grow_d5877 := by decide +kernel
  refine lv_aload_n hx hb dJx4a65c_grow_d5877_0 rfl (lv_at hl 0 rfl) ?_
  refine lv_aload_n hx hb dJx4a65c_grow_d5877_1 rfl (lv_at hl 0 rfl) ?_
  refine va_get (D := D) (ci := 0) (v := .int (nI 0)) (C := RJx4a65c) (T := TJx4a65c) (N := 3) hx hb hts i_RJx4a65c hown hK hP 0 rfl rfl 2 (by decide) k_0 (fun _ h9 => h9) rfl dJx4a65c_grow_d5877_2 ?_
  refine lv_iconst (v := nI 1) hx hb dJx4a65c_grow_d5877_5 (by decide) ?_
  refine zx_iadd (v := nI 1) hx hb dJx4a65c_grow_d5877_6 (by decide) ?_
  have hF_3 := va_free (wc := [(li, .inr (0, [.int mc, .ref em, .int (nI 0)]))]) hD hS hA [0] rfl
  refine va_callr (va_runV (As := [.int (nI 1)]) (rest := []) ⟨hx, hb, hml, hown, hts⟩ (m_Jx4a65c_grow1_e l D li mc em _) (cwV 1 hts gJx4a65c_grow_d5877_Jx4a65c_grow_92f84 rfl rfl rfl (by decide +kernel) ⟨Nat.le_of_ble_eq_true rfl, Nat.le_of_ble_eq_true rfl⟩) (zq_V XM.hs (va_recv hK hP (ci := 0) (q0 := 0) rfl rfl) (hP.sub (ws' := [(li, .inr (0, [.int mc, .ref em, .int (nI 0)]))]) [0] rfl) (hK.sub (tys' := []) [] rfl) (hD.sub (ws' := [(li, .inr (0, [.int mc, .ref em, .int (nI 0)]))]) [0] (by decide) rfl) hG (hHS.go hS (va_free (wc := [(li, .inr (0, [.int mc, .ref em, .int (nI 0)]))]) hD hS hA [0] rfl))) rfl rfl hl.1 rfl (lv_room (Nat.le_of_ble_eq_true rfl)) dJx4a65c_grow_d5877_7 ⟨Nat.le_of_ble_eq_true rfl, Nat.le_of_ble_eq_true rfl⟩) hS (fun q _ h => hF_3 q h) hF_3 (fun u q__1 t1 H locs ht1 hvm hw hB hz1 hk1 hS => ?_)
  obtain ⟨cO__2, hP1, hK1, hD1⟩ := hB
  rw [ht1] at hP1
  have hK1 := va_K.moved hvm.symm hK1
  obtain ⟨hP, hD⟩ := va_join (wr := []) (w1 := [(li, .inr (0, [.int mc, .ref q__1, .int (nI 0)])), (q__1, .inl (cO__2, 10, .inr (.inr (.inr (.inr (fun _ => none))))))]) hP hD [0] [] rfl rfl (by decide) (by decide) hk1 hF_3 hP1 hD1
  have hK := hK.app hK1
  have hK := hK.sub (tys' := [(cO__2, .object "java/lang/Object")]) [0] rfl
  have hP : va_P D vwCl [(li, .inr (0, [.int mc, .ref q__1, .int (nI 0)])), (q__1, .inl (cO__2, 10, .inr (.inr (.inr (.inr (fun _ => none))))))] H := hP
  have hD : va_D A [(li, .inr (0, [.int mc, .ref q__1, .int (nI 0)])), (q__1, .inl (cO__2, 10, .inr (.inr (.inr (.inr (fun _ => none))))))] := hD
  refine W.widen (k := 1) (n := 800) (by decide) (by decide) ?_
  subst hAe
  exact zretBr hx hb hr (Or.inr ⟨_, rfl⟩) hlocks (fun t9 ht hv => ⟨cO__2, by rw [ht]; exact (hP.sub (ws' := [(li, .inr (0, [.int mc, .ref q__1, .int (nI 0)])), (q__1, .inl (cO__2, 10, .inr (.inr (.inr (.inr (fun _ => none))))))]) [0, 1] rfl), va_K.moved hv (hK.sub [0] rfl), (hD.sub (ws' := [(li, .inr (0, [.int mc, .ref q__1, .int (nI 0)])), (q__1, .inl (cO__2, 10, .inr (.inr (.inr (.inr (fun _ => none))))))]) [0, 1] (by decide) rfl)⟩) hS dJx4a65c_grow_d5877_10 (Nat.le_of_ble_eq_true rfl) (Nat.le_of_ble_eq_true rfl)

set_option maxHeartbeats 4000000 in
set_option maxRecDepth 100000 in
/-- grow() of a full row -/
theorem m_Jx4a65c_grow0_f (l : Launch) (D : va_G) (li : Nat) (mc : Int32) (ed n : Nat) (cO : ClassId) (fr : Nat → Option Nat) (h2 : 2 ≤ n) (hn : n ≤ 512) (sz : Nat)  : Met l yJx4a65c_grow_d5877 wsJx4a65c_grow_d5877 ({ frames := 4, cells := 1, slots := 800, locals := 127 }) (zq D [(li, .inr (0, [.int mc, .ref ed, .int (nI n)])), (ed, .inl (cO, n, .inr (.inr (.inr (.inr fr)))))] [(cO, .object "java/lang/Object")] sz [.ref li] (fun U H => EL (va_A [(li, .inr (0, [.int mc, .ref ed, .int (nI n)])), (ed, .inl (cO, n, .inr (.inr (.inr (.inr fr)))))] sz) fr n U H)) (va_Qr (fun _ : Unit => True) (fun _ (q : Nat) t9 => va_P D vwCl [(li, .inr (0, [.int mc, .ref q, .int (nI n)])), (ed, .inl (cO, n, .inr (.inr (.inr (.inr fr))))), (q, .inl (cO, (n + n / 2), .inr (.inr (.inr (.inr (va_cpy fr (fun _ => none) 0 0 n))))))] t9.heap ∧ va_K D vwCl [(cO, .object "java/lang/Object")] t9 ∧ va_D (va_A [(li, .inr (0, [.int mc, .ref ed, .int (nI n)])), (ed, .inl (cO, n, .inr (.inr (.inr (.inr fr)))))] sz) [(li, .inr (0, [.int mc, .ref q, .int (nI n)])), (ed, .inl (cO, n, .inr (.inr (.inr (.inr fr))))), (q, .inl (cO, (n + n / 2), .inr (.inr (.inr (.inr (va_cpy fr (fun _ => none) 0 0 n))))))]) (va_A [(li, .inr (0, [.int mc, .ref ed, .int (nI n)])), (ed, .inl (cO, n, .inr (.inr (.inr (.inr fr)))))] sz)) 1 800 (va_A [(li, .inr (0, [.int mc, .ref ed, .int (nI n)])), (ed, .inl (cO, n, .inr (.inr (.inr (.inr fr)))))] sz) := by
  refine zmq (cc := cJx4a65c_grow_d5877) (maxL := 1) (ret := (some (.array (.object "java/lang/Object")))) (by decide) rfl (Nat.le_of_ble_eq_true rfl) ?_
  intro p e s m below meth c ls A hAe hsz hin hx hb hml hr hlocks hown hts hP hK hG hD hA hS hX hl
  subst hsz
  rw [← hAe] at hX
  have hl : lv_has ls 1 [(0, .ref li)] := hl
  have k_0 := hts (.fieldLink RJx4a65c 48 "java/util/ArrayList" "size" "I") (List.mem_of_getElem? (i := 1) rfl)
  have i_RJx4a65c : ∀ w ∈ u_ws RJx4a65c TJx4a65c 3, w ∈ wsJx4a65c_grow_d5877 := by decide +kernel
  refine lv_aload_n hx hb dJx4a65c_grow_d5877_0 rfl (lv_at hl 0 rfl) ?_
  refine lv_aload_n hx hb dJx4a65c_grow_d5877_1 rfl (lv_at hl 0 rfl) ?_
  refine va_get (D := D) (ci := 0) (v := .int (nI n)) (C := RJx4a65c) (T := TJx4a65c) (N := 3) hx hb hts i_RJx4a65c hown hK hP 0 rfl rfl 2 (by decide) k_0 (fun _ h9 => h9) rfl dJx4a65c_grow_d5877_2 ?_
  refine lv_iconst (v := nI 1) hx hb dJx4a65c_grow_d5877_5 (by decide) ?_
  refine zx_iadd (v := nI (n + 1)) hx hb dJx4a65c_grow_d5877_6 (nI_add _ _) ?_
  have hF_2 := va_free (wc := [(li, .inr (0, [.int mc, .ref ed, .int (nI n)])), (ed, .inl (cO, n, .inr (.inr (.inr (.inr fr)))))]) hD hS hA [0, 1] rfl
  refine va_callr (va_runV (As := [.int (nI (n + 1))]) (rest := []) ⟨hx, hb, hml, hown, hts⟩ (m_Jx4a65c_grow_92f84 l D li mc ed n cO fr (by first | omega | assumption) (by first | omega | assumption) _) (cwV 1 hts gJx4a65c_grow_d5877_Jx4a65c_grow_92f84 rfl rfl rfl (by decide +kernel) ⟨Nat.le_of_ble_eq_true rfl, Nat.le_of_ble_eq_true rfl⟩) (zq_V XM.el (va_recv hK hP (ci := 0) (q0 := 0) rfl rfl) (hP.sub (ws' := [(li, .inr (0, [.int mc, .ref ed, .int (nI n)])), (ed, .inl (cO, n, .inr (.inr (.inr (.inr fr)))))]) [0, 1] rfl) (hK.sub (tys' := [(cO, .object "java/lang/Object")]) [0] rfl) (hD.sub (ws' := [(li, .inr (0, [.int mc, .ref ed, .int (nI n)])), (ed, .inl (cO, n, .inr (.inr (.inr (.inr fr)))))]) [0, 1] (by decide) rfl) hG (hX.go hS (va_free (wc := [(li, .inr (0, [.int mc, .ref ed, .int (nI n)])), (ed, .inl (cO, n, .inr (.inr (.inr (.inr fr)))))]) hD hS hA [0, 1] rfl))) rfl rfl hl.1 rfl (lv_room (Nat.le_of_ble_eq_true rfl)) dJx4a65c_grow_d5877_7 ⟨Nat.le_of_ble_eq_true rfl, Nat.le_of_ble_eq_true rfl⟩) hS (fun q _ h => hF_2 q h) hF_2 (fun u q__1 t1 H locs ht1 hvm hw hB hz1 hk1 hS => ?_)
  obtain ⟨hP1, hK1, hD1⟩ := hB
  rw [ht1] at hP1
  have hK1 := va_K.moved hvm.symm hK1
  obtain ⟨hP, hD⟩ := va_join (wr := []) (w1 := [(li, .inr (0, [.int mc, .ref q__1, .int (nI n)])), (ed, .inl (cO, n, .inr (.inr (.inr (.inr fr))))), (q__1, .inl (cO, (n + n / 2), .inr (.inr (.inr (.inr (va_cpy fr (fun _ => none) 0 0 n))))))]) hP hD [0, 1] [] rfl rfl (by decide) (by decide) hk1 hF_2 hP1 hD1
  have hP : va_P D vwCl [(li, .inr (0, [.int mc, .ref q__1, .int (nI n)])), (ed, .inl (cO, n, .inr (.inr (.inr (.inr fr))))), (q__1, .inl (cO, (n + n / 2), .inr (.inr (.inr (.inr (va_cpy fr (fun _ => none) 0 0 n))))))] H := hP
  have hD : va_D A [(li, .inr (0, [.int mc, .ref q__1, .int (nI n)])), (ed, .inl (cO, n, .inr (.inr (.inr (.inr fr))))), (q__1, .inl (cO, (n + n / 2), .inr (.inr (.inr (.inr (va_cpy fr (fun _ => none) 0 0 n))))))] := hD
  refine W.widen (k := 1) (n := 800) (by decide) (by decide) ?_
  subst hAe
  exact zretBr hx hb hr (Or.inr ⟨_, rfl⟩) hlocks (fun t9 ht hv => ⟨by rw [ht]; exact (hP.sub (ws' := [(li, .inr (0, [.int mc, .ref q__1, .int (nI n)])), (ed, .inl (cO, n, .inr (.inr (.inr (.inr fr))))), (q__1, .inl (cO, (n + n / 2), .inr (.inr (.inr (.inr (va_cpy fr (fun _ => none) 0 0 n))))))]) [0, 1, 2] rfl), va_K.moved hv (hK.sub [0] rfl), (hD.sub (ws' := [(li, .inr (0, [.int mc, .ref q__1, .int (nI n)])), (ed, .inl (cO, n, .inr (.inr (.inr (.inr fr))))), (q__1, .inl (cO, (n + n / 2), .inr (.inr (.inr (.inr (va_cpy fr (fun _ => none) 0 0 n))))))]) [0, 1, 2] (by decide) rfl)⟩) hS dJx4a65c_grow_d5877_10 (Nat.le_of_ble_eq_true rfl) (Nat.le_of_ble_eq_true rfl)

set_option maxHeartbeats 4000000 in
set_option maxRecDepth 100000 in
/-- add(e, row, 0) of an empty list -/
theorem m_Jx4a65c_add3_e (l : Launch) (D : va_G) (li : Nat) (mc : Int32) (em : Nat) (v : Nat)  (sz : Nat)  : Met l yJx4a65c_add_72be8 wsJx4a65c_add_72be8 ({ frames := 3, cells := 1, slots := 800, locals := 75 }) (zq D [(li, .inr (0, [.int mc, .ref em, .int (nI 0)]))] [] sz [.ref li, .ref v, .ref em, .int (nI 0)] (fun U H => HS (va_A [(li, .inr (0, [.int mc, .ref em, .int (nI 0)]))] sz) em U H ∧ EV (va_A [(li, .inr (0, [.int mc, .ref em, .int (nI 0)]))] sz) v U H)) (va_Qv (fun _ : Unit => True) (fun _ t9 => ∃ (q : Nat) (cO : ClassId), va_P D vwCl [(li, .inr (0, [.int mc, .ref q, .int (nI 1)])), (q, .inl (cO, 10, .inr (.inr (.inr (.inr (va_up (fun _ => none) 0 (some v)))))))] t9.heap ∧ va_K D vwCl [(cO, .object "java/lang/Object")] t9 ∧ va_D (va_A [(li, .inr (0, [.int mc, .ref em, .int (nI 0)]))] sz) [(li, .inr (0, [.int mc, .ref q, .int (nI 1)])), (q, .inl (cO, 10, .inr (.inr (.inr (.inr (va_up (fun _ => none) 0 (some v)))))))]) (va_A [(li, .inr (0, [.int mc, .ref em, .int (nI 0)]))] sz)) 1 800 (va_A [(li, .inr (0, [.int mc, .ref em, .int (nI 0)]))] sz) := by
  refine zmq (cc := cJx4a65c_add_72be8) (maxL := 4) (ret := none) (by decide) rfl (Nat.le_of_ble_eq_true rfl) ?_
  intro p e s m below meth c ls A hAe hsz hin hx hb hml hr hlocks hown hts hP hK hG hD hA hS hX hl
  subst hsz
  rw [← hAe] at hX
  obtain ⟨hHS, hEV⟩ := hX
  have hl : lv_has ls 4 [(0, .ref li), (1, .ref v), (2, .ref em), (3, .int (nI 0))] := hl
  have k_0 := hts (.fieldLink RJx4a65c 48 "java/util/ArrayList" "size" "I") (List.mem_of_getElem? (i := 1) rfl)
  have i_RJx4a65c : ∀ w ∈ u_ws RJx4a65c TJx4a65c 3, w ∈ wsJx4a65c_add_72be8 := by decide +kernel
  refine lv_iload_n hx hb dJx4a65c_add_72be8_0 rfl (lv_at hl 3 rfl) ?_
  refine lv_aload_n hx hb dJx4a65c_add_72be8_1 rfl (lv_at hl 2 rfl) ?_
  refine va_tlen hx hb hHS.2.1 hS (v := nI 0) rfl dJx4a65c_add_72be8_2 ?_
  refine lv_icmp_ne (tgt := 11) hx hb dJx4a65c_add_72be8_3 (by decide) (fun h9 => absurd (by decide) h9) (fun _ => ?_)
  refine lv_aload_n hx hb dJx4a65c_add_72be8_6 rfl (lv_at hl 0 rfl) ?_
  have hF_3 := va_free (wc := [(li, .inr (0, [.int mc, .ref em, .int (nI 0)]))]) hD hS hA [0] rfl
  refine va_callr (va_runV (As := []) (rest := []) ⟨hx, hb, hml, hown, hts⟩ (m_Jx4a65c_grow0_e l D li mc em _) (cwV 0 hts gJx4a65c_add_72be8_Jx4a65c_grow_d5877 rfl rfl rfl (by decide +kernel) ⟨Nat.le_of_ble_eq_true rfl, Nat.le_of_ble_eq_true rfl⟩) (zq_V XM.hs (va_recv hK hP (ci := 0) (q0 := 0) rfl rfl) (hP.sub (ws' := [(li, .inr (0, [.int mc, .ref em, .int (nI 0)]))]) [0] rfl) (hK.sub (tys' := []) [] rfl) (hD.sub (ws' := [(li, .inr (0, [.int mc, .ref em, .int (nI 0)]))]) [0] (by decide) rfl) hG (hHS.go hS (va_free (wc := [(li, .inr (0, [.int mc, .ref em, .int (nI 0)]))]) hD hS hA [0] rfl))) rfl rfl hl.1 rfl (lv_room (Nat.le_of_ble_eq_true rfl)) dJx4a65c_add_72be8_7 ⟨Nat.le_of_ble_eq_true rfl, Nat.le_of_ble_eq_true rfl⟩) hS (fun q _ h => hF_3 q h) hF_3 (fun u q__1 t1 H locs ht1 hvm hw hB hz1 hk1 hS => ?_)
  obtain ⟨cO__2, hP1, hK1, hD1⟩ := hB
  rw [ht1] at hP1
  have hK1 := va_K.moved hvm.symm hK1
  obtain ⟨hP, hD⟩ := va_join (wr := []) (w1 := [(li, .inr (0, [.int mc, .ref q__1, .int (nI 0)])), (q__1, .inl (cO__2, 10, .inr (.inr (.inr (.inr (fun _ => none))))))]) hP hD [0] [] rfl rfl (by decide) (by decide) hk1 hF_3 hP1 hD1
  have hK := hK.app hK1
  have hK := hK.sub (tys' := [(cO__2, .object "java/lang/Object")]) [0] rfl
  have hP : va_P D vwCl [(li, .inr (0, [.int mc, .ref q__1, .int (nI 0)])), (q__1, .inl (cO__2, 10, .inr (.inr (.inr (.inr (fun _ => none))))))] H := hP
  have hD : va_D A [(li, .inr (0, [.int mc, .ref q__1, .int (nI 0)])), (q__1, .inl (cO__2, 10, .inr (.inr (.inr (.inr (fun _ => none))))))] := hD
  refine W.widen (k := 1) (n := 800) (by decide) (by decide) ?_
  refine lv_astore_n (lv' := [(2, .ref q__1), (0, .ref li), (1, .ref v), (3, .int (nI 0))]) hx hb dJx4a65c_add_72be8_10 rfl hl (by decide) rfl (fun ls hl => ?_)
  refine lv_aload_n hx hb dJx4a65c_add_72be8_11 rfl (lv_at hl 0 rfl) ?_
  refine lv_iload_n hx hb dJx4a65c_add_72be8_12 rfl (lv_at hl 3 rfl) ?_
  refine lv_aload_n hx hb dJx4a65c_add_72be8_13 rfl (lv_at hl 2 rfl) ?_
  refine zx_qast (D := D) hx hb hK hP hD hS 1 0 rfl rfl (hEV.at hS) (by omega) (by omega) dJx4a65c_add_72be8_14 (fun H locs hP hD hS => ?_)
  have hP : va_P D vwCl [(li, .inr (0, [.int mc, .ref q__1, .int (nI 0)])), (q__1, .inl (cO__2, 10, .inr (.inr (.inr (.inr (va_up (fun _ => none) 0 (some v)))))))] H := hP
  have hD : va_D A [(li, .inr (0, [.int mc, .ref q__1, .int (nI 0)])), (q__1, .inl (cO__2, 10, .inr (.inr (.inr (.inr (va_up (fun _ => none) 0 (some v)))))))] := hD
  refine lv_aload_n hx hb dJx4a65c_add_72be8_15 rfl (lv_at hl 1 rfl) ?_
  refine lv_iload_n hx hb dJx4a65c_add_72be8_16 rfl (lv_at hl 3 rfl) ?_
  refine lv_iconst (v := nI 1) hx hb dJx4a65c_add_72be8_17 (by decide) ?_
  refine zx_iadd (v := nI 1) hx hb dJx4a65c_add_72be8_18 (by decide) ?_
  refine va_put (D := D) (ci := 0) (v := .int (nI 1)) (ty := .int) (C := RJx4a65c) (T := TJx4a65c) (N := 3) hx hb hts i_RJx4a65c tyJx4a65c tyJx4a65c_ok nmJx4a65c hown hK hP hD hS 0 rfl rfl 2 (by decide) k_0 (fun _ h9 => h9) rfl (by decide +kernel) rfl rfl (Nat.le_of_ble_eq_true rfl) dJx4a65c_add_72be8_19 (fun H locs hP hD hS => ?_)
  have hP : va_P D vwCl [(li, .inr (0, [.int mc, .ref q__1, .int (nI 1)])), (q__1, .inl (cO__2, 10, .inr (.inr (.inr (.inr (va_up (fun _ => none) 0 (some v)))))))] H := hP
  have hD : va_D A [(li, .inr (0, [.int mc, .ref q__1, .int (nI 1)])), (q__1, .inl (cO__2, 10, .inr (.inr (.inr (.inr (va_up (fun _ => none) 0 (some v)))))))] := hD
  subst hAe
  exact zretB hx hb hr hlocks (fun t9 ht hv => ⟨q__1, cO__2, by rw [ht]; exact (hP.sub (ws' := [(li, .inr (0, [.int mc, .ref q__1, .int (nI 1)])), (q__1, .inl (cO__2, 10, .inr (.inr (.inr (.inr (va_up (fun _ => none) 0 (some v)))))))]) [0, 1] rfl), va_K.moved hv (hK.sub [0] rfl), (hD.sub (ws' := [(li, .inr (0, [.int mc, .ref q__1, .int (nI 1)])), (q__1, .inl (cO__2, 10, .inr (.inr (.inr (.inr (va_up (fun _ => none) 0 (some v)))))))]) [0, 1] (by decide) rfl)⟩) hS dJx4a65c_add_72be8_22 (Nat.le_of_ble_eq_true rfl) (Nat.le_of_ble_eq_true rfl)

set_option maxHeartbeats 4000000 in
set_option maxRecDepth 100000 in
/-- add(e, row, size) of a full row -/
theorem m_Jx4a65c_add3_f (l : Launch) (D : va_G) (li : Nat) (mc : Int32) (ed n : Nat) (cO : ClassId) (fr : Nat → Option Nat) (v : Nat) (h2 : 2 ≤ n) (hn : n ≤ 512) (sz : Nat)  : Met l yJx4a65c_add_72be8 wsJx4a65c_add_72be8 ({ frames := 5, cells := 1, slots := 800, locals := 147 }) (zq D [(li, .inr (0, [.int mc, .ref ed, .int (nI n)])), (ed, .inl (cO, n, .inr (.inr (.inr (.inr fr)))))] [(cO, .object "java/lang/Object")] sz [.ref li, .ref v, .ref ed, .int (nI n)] (fun U H => EL (va_A [(li, .inr (0, [.int mc, .ref ed, .int (nI n)])), (ed, .inl (cO, n, .inr (.inr (.inr (.inr fr)))))] sz) fr n U H ∧ EV (va_A [(li, .inr (0, [.int mc, .ref ed, .int (nI n)])), (ed, .inl (cO, n, .inr (.inr (.inr (.inr fr)))))] sz) v U H)) (va_Qv (fun _ : Unit => True) (fun _ t9 => ∃ (q : Nat), va_P D vwCl [(li, .inr (0, [.int mc, .ref q, .int (nI (n + 1))])), (ed, .inl (cO, n, .inr (.inr (.inr (.inr fr))))), (q, .inl (cO, (n + n / 2), .inr (.inr (.inr (.inr (va_up (va_cpy fr (fun _ => none) 0 0 n) n (some v)))))))] t9.heap ∧ va_K D vwCl [(cO, .object "java/lang/Object")] t9 ∧ va_D (va_A [(li, .inr (0, [.int mc, .ref ed, .int (nI n)])), (ed, .inl (cO, n, .inr (.inr (.inr (.inr fr)))))] sz) [(li, .inr (0, [.int mc, .ref q, .int (nI (n + 1))])), (ed, .inl (cO, n, .inr (.inr (.inr (.inr fr))))), (q, .inl (cO, (n + n / 2), .inr (.inr (.inr (.inr (va_up (va_cpy fr (fun _ => none) 0 0 n) n (some v)))))))]) (va_A [(li, .inr (0, [.int mc, .ref ed, .int (nI n)])), (ed, .inl (cO, n, .inr (.inr (.inr (.inr fr)))))] sz)) 1 800 (va_A [(li, .inr (0, [.int mc, .ref ed, .int (nI n)])), (ed, .inl (cO, n, .inr (.inr (.inr (.inr fr)))))] sz) := by
  refine zmq (cc := cJx4a65c_add_72be8) (maxL := 4) (ret := none) (by decide) rfl (Nat.le_of_ble_eq_true rfl) ?_
  intro p e s m below meth c ls A hAe hsz hin hx hb hml hr hlocks hown hts hP hK hG hD hA hS hX hl
  subst hsz
  rw [← hAe] at hX
  obtain ⟨hEL, hEV⟩ := hX
  have hl : lv_has ls 4 [(0, .ref li), (1, .ref v), (2, .ref ed), (3, .int (nI n))] := hl
  have k_0 := hts (.fieldLink RJx4a65c 48 "java/util/ArrayList" "size" "I") (List.mem_of_getElem? (i := 1) rfl)
  have i_RJx4a65c : ∀ w ∈ u_ws RJx4a65c TJx4a65c 3, w ∈ wsJx4a65c_add_72be8 := by decide +kernel
  refine lv_iload_n hx hb dJx4a65c_add_72be8_0 rfl (lv_at hl 3 rfl) ?_
  refine lv_aload_n hx hb dJx4a65c_add_72be8_1 rfl (lv_at hl 2 rfl) ?_
  refine va_alen (D := D) (cl := vwCl) hx hb hK hP 1 0 rfl rfl (v := nI n) rfl dJx4a65c_add_72be8_2 ?_
  refine lv_icmp_ne (tgt := 11) hx hb dJx4a65c_add_72be8_3 (by decide) (fun h9 => absurd ((nI_eq (a := n) (b := n) (by omega) (by omega)).mpr (by omega)) h9) (fun _ => ?_)
  refine lv_aload_n hx hb dJx4a65c_add_72be8_6 rfl (lv_at hl 0 rfl) ?_
  have hF_2 := va_free (wc := [(li, .inr (0, [.int mc, .ref ed, .int (nI n)])), (ed, .inl (cO, n, .inr (.inr (.inr (.inr fr)))))]) hD hS hA [0, 1] rfl
  refine va_callr (va_runV (As := []) (rest := []) ⟨hx, hb, hml, hown, hts⟩ (m_Jx4a65c_grow0_f l D li mc ed n cO fr (by first | omega | assumption) (by first | omega | assumption) _) (cwV 0 hts gJx4a65c_add_72be8_Jx4a65c_grow_d5877 rfl rfl rfl (by decide +kernel) ⟨Nat.le_of_ble_eq_true rfl, Nat.le_of_ble_eq_true rfl⟩) (zq_V XM.el (va_recv hK hP (ci := 0) (q0 := 0) rfl rfl) (hP.sub (ws' := [(li, .inr (0, [.int mc, .ref ed, .int (nI n)])), (ed, .inl (cO, n, .inr (.inr (.inr (.inr fr)))))]) [0, 1] rfl) (hK.sub (tys' := [(cO, .object "java/lang/Object")]) [0] rfl) (hD.sub (ws' := [(li, .inr (0, [.int mc, .ref ed, .int (nI n)])), (ed, .inl (cO, n, .inr (.inr (.inr (.inr fr)))))]) [0, 1] (by decide) rfl) hG (hEL.go hS (va_free (wc := [(li, .inr (0, [.int mc, .ref ed, .int (nI n)])), (ed, .inl (cO, n, .inr (.inr (.inr (.inr fr)))))]) hD hS hA [0, 1] rfl))) rfl rfl hl.1 rfl (lv_room (Nat.le_of_ble_eq_true rfl)) dJx4a65c_add_72be8_7 ⟨Nat.le_of_ble_eq_true rfl, Nat.le_of_ble_eq_true rfl⟩) hS (fun q _ h => hF_2 q h) hF_2 (fun u q__1 t1 H locs ht1 hvm hw hB hz1 hk1 hS => ?_)
  obtain ⟨hP1, hK1, hD1⟩ := hB
  rw [ht1] at hP1
  have hK1 := va_K.moved hvm.symm hK1
  obtain ⟨hP, hD⟩ := va_join (wr := []) (w1 := [(li, .inr (0, [.int mc, .ref q__1, .int (nI n)])), (ed, .inl (cO, n, .inr (.inr (.inr (.inr fr))))), (q__1, .inl (cO, (n + n / 2), .inr (.inr (.inr (.inr (va_cpy fr (fun _ => none) 0 0 n))))))]) hP hD [0, 1] [] rfl rfl (by decide) (by decide) hk1 hF_2 hP1 hD1
  have hP : va_P D vwCl [(li, .inr (0, [.int mc, .ref q__1, .int (nI n)])), (ed, .inl (cO, n, .inr (.inr (.inr (.inr fr))))), (q__1, .inl (cO, (n + n / 2), .inr (.inr (.inr (.inr (va_cpy fr (fun _ => none) 0 0 n))))))] H := hP
  have hD : va_D A [(li, .inr (0, [.int mc, .ref q__1, .int (nI n)])), (ed, .inl (cO, n, .inr (.inr (.inr (.inr fr))))), (q__1, .inl (cO, (n + n / 2), .inr (.inr (.inr (.inr (va_cpy fr (fun _ => none) 0 0 n))))))] := hD
  refine W.widen (k := 1) (n := 800) (by decide) (by decide) ?_
  refine lv_astore_n (lv' := [(2, .ref q__1), (0, .ref li), (1, .ref v), (3, .int (nI n))]) hx hb dJx4a65c_add_72be8_10 rfl hl (by decide) rfl (fun ls hl => ?_)
  refine lv_aload_n hx hb dJx4a65c_add_72be8_11 rfl (lv_at hl 0 rfl) ?_
  refine lv_iload_n hx hb dJx4a65c_add_72be8_12 rfl (lv_at hl 3 rfl) ?_
  refine lv_aload_n hx hb dJx4a65c_add_72be8_13 rfl (lv_at hl 2 rfl) ?_
  refine zx_qast (D := D) hx hb hK hP hD hS 2 0 rfl rfl (hEV.at hS) (by omega) (by omega) dJx4a65c_add_72be8_14 (fun H locs hP hD hS => ?_)
  have hP : va_P D vwCl [(li, .inr (0, [.int mc, .ref q__1, .int (nI n)])), (ed, .inl (cO, n, .inr (.inr (.inr (.inr fr))))), (q__1, .inl (cO, (n + n / 2), .inr (.inr (.inr (.inr (va_up (va_cpy fr (fun _ => none) 0 0 n) n (some v)))))))] H := hP
  have hD : va_D A [(li, .inr (0, [.int mc, .ref q__1, .int (nI n)])), (ed, .inl (cO, n, .inr (.inr (.inr (.inr fr))))), (q__1, .inl (cO, (n + n / 2), .inr (.inr (.inr (.inr (va_up (va_cpy fr (fun _ => none) 0 0 n) n (some v)))))))] := hD
  refine lv_aload_n hx hb dJx4a65c_add_72be8_15 rfl (lv_at hl 1 rfl) ?_
  refine lv_iload_n hx hb dJx4a65c_add_72be8_16 rfl (lv_at hl 3 rfl) ?_
  refine lv_iconst (v := nI 1) hx hb dJx4a65c_add_72be8_17 (by decide) ?_
  refine zx_iadd (v := nI (n + 1)) hx hb dJx4a65c_add_72be8_18 (nI_add _ _) ?_
  refine va_put (D := D) (ci := 0) (v := .int (nI (n + 1))) (ty := .int) (C := RJx4a65c) (T := TJx4a65c) (N := 3) hx hb hts i_RJx4a65c tyJx4a65c tyJx4a65c_ok nmJx4a65c hown hK hP hD hS 0 rfl rfl 2 (by decide) k_0 (fun _ h9 => h9) rfl (by decide +kernel) rfl rfl (Nat.le_of_ble_eq_true rfl) dJx4a65c_add_72be8_19 (fun H locs hP hD hS => ?_)
  have hP : va_P D vwCl [(li, .inr (0, [.int mc, .ref q__1, .int (nI (n + 1))])), (ed, .inl (cO, n, .inr (.inr (.inr (.inr fr))))), (q__1, .inl (cO, (n + n / 2), .inr (.inr (.inr (.inr (va_up (va_cpy fr (fun _ => none) 0 0 n) n (some v)))))))] H := hP
  have hD : va_D A [(li, .inr (0, [.int mc, .ref q__1, .int (nI (n + 1))])), (ed, .inl (cO, n, .inr (.inr (.inr (.inr fr))))), (q__1, .inl (cO, (n + n / 2), .inr (.inr (.inr (.inr (va_up (va_cpy fr (fun _ => none) 0 0 n) n (some v)))))))] := hD
  subst hAe
  exact zretB hx hb hr hlocks (fun t9 ht hv => ⟨q__1, by rw [ht]; exact (hP.sub (ws' := [(li, .inr (0, [.int mc, .ref q__1, .int (nI (n + 1))])), (ed, .inl (cO, n, .inr (.inr (.inr (.inr fr))))), (q__1, .inl (cO, (n + n / 2), .inr (.inr (.inr (.inr (va_up (va_cpy fr (fun _ => none) 0 0 n) n (some v)))))))]) [0, 1, 2] rfl), va_K.moved hv (hK.sub [0] rfl), (hD.sub (ws' := [(li, .inr (0, [.int mc, .ref q__1, .int (nI (n + 1))])), (ed, .inl (cO, n, .inr (.inr (.inr (.inr fr))))), (q__1, .inl (cO, (n + n / 2), .inr (.inr (.inr (.inr (va_up (va_cpy fr (fun _ => none) 0 0 n) n (some v)))))))]) [0, 1, 2] (by decide) rfl)⟩) hS dJx4a65c_add_72be8_22 (Nat.le_of_ble_eq_true rfl) (Nat.le_of_ble_eq_true rfl)

set_option maxHeartbeats 4000000 in
set_option maxRecDepth 100000 in
/-- add(e, row, size) where room is -/
theorem m_Jx4a65c_add3_r (l : Launch) (D : va_G) (li : Nat) (mc : Int32) (ed cap n : Nat) (cO : ClassId) (fr : Nat → Option Nat) (v : Nat) (h2 : n < cap) (h3 : cap ≤ 800) (sz : Nat)  : Met l yJx4a65c_add_72be8 wsJx4a65c_add_72be8 ({ frames := 0, cells := 0, slots := 0, locals := 0 }) (zq D [(li, .inr (0, [.int mc, .ref ed, .int (nI n)])), (ed, .inl (cO, cap, .inr (.inr (.inr (.inr fr)))))] [(cO, .object "java/lang/Object")] sz [.ref li, .ref v, .ref ed, .int (nI n)] (fun U H => EV (va_A [(li, .inr (0, [.int mc, .ref ed, .int (nI n)])), (ed, .inl (cO, cap, .inr (.inr (.inr (.inr fr)))))] sz) v U H)) (va_Qv (fun _ : Unit => True) (fun _ t9 => va_P D vwCl [(li, .inr (0, [.int mc, .ref ed, .int (nI (n + 1))])), (ed, .inl (cO, cap, .inr (.inr (.inr (.inr (va_up fr n (some v)))))))] t9.heap ∧ va_K D vwCl [(cO, .object "java/lang/Object")] t9 ∧ va_D (va_A [(li, .inr (0, [.int mc, .ref ed, .int (nI n)])), (ed, .inl (cO, cap, .inr (.inr (.inr (.inr fr)))))] sz) [(li, .inr (0, [.int mc, .ref ed, .int (nI (n + 1))])), (ed, .inl (cO, cap, .inr (.inr (.inr (.inr (va_up fr n (some v)))))))]) (va_A [(li, .inr (0, [.int mc, .ref ed, .int (nI n)])), (ed, .inl (cO, cap, .inr (.inr (.inr (.inr fr)))))] sz)) 0 0 (va_A [(li, .inr (0, [.int mc, .ref ed, .int (nI n)])), (ed, .inl (cO, cap, .inr (.inr (.inr (.inr fr)))))] sz) := by
  refine zmq (cc := cJx4a65c_add_72be8) (maxL := 4) (ret := none) (by decide) rfl (Nat.le_of_ble_eq_true rfl) ?_
  intro p e s m below meth c ls A hAe hsz hin hx hb hml hr hlocks hown hts hP hK hG hD hA hS hX hl
  subst hsz
  rw [← hAe] at hX
  have hEV := hX
  have hl : lv_has ls 4 [(0, .ref li), (1, .ref v), (2, .ref ed), (3, .int (nI n))] := hl
  have k_0 := hts (.fieldLink RJx4a65c 48 "java/util/ArrayList" "size" "I") (List.mem_of_getElem? (i := 1) rfl)
  have i_RJx4a65c : ∀ w ∈ u_ws RJx4a65c TJx4a65c 3, w ∈ wsJx4a65c_add_72be8 := by decide +kernel
  refine lv_iload_n hx hb dJx4a65c_add_72be8_0 rfl (lv_at hl 3 rfl) ?_
  refine lv_aload_n hx hb dJx4a65c_add_72be8_1 rfl (lv_at hl 2 rfl) ?_
  refine va_alen (D := D) (cl := vwCl) hx hb hK hP 1 0 rfl rfl (v := nI cap) rfl dJx4a65c_add_72be8_2 ?_
  refine lv_icmp_ne (tgt := 11) hx hb dJx4a65c_add_72be8_3 (by decide) (fun _ => ?_) (fun h9 => absurd h9 (fun h8 => absurd ((nI_eq (a := n) (b := cap) (by omega) (by omega)).mp h8) (by omega)))
  refine lv_aload_n hx hb dJx4a65c_add_72be8_11 rfl (lv_at hl 2 rfl) ?_
  refine lv_iload_n hx hb dJx4a65c_add_72be8_12 rfl (lv_at hl 3 rfl) ?_
  refine lv_aload_n hx hb dJx4a65c_add_72be8_13 rfl (lv_at hl 1 rfl) ?_
  refine zx_qast (D := D) hx hb hK hP hD hS 1 0 rfl rfl (hEV.at hS) (by omega) (by omega) dJx4a65c_add_72be8_14 (fun H locs hP hD hS => ?_)
  have hP : va_P D vwCl [(li, .inr (0, [.int mc, .ref ed, .int (nI n)])), (ed, .inl (cO, cap, .inr (.inr (.inr (.inr (va_up fr n (some v)))))))] H := hP
  have hD : va_D A [(li, .inr (0, [.int mc, .ref ed, .int (nI n)])), (ed, .inl (cO, cap, .inr (.inr (.inr (.inr (va_up fr n (some v)))))))] := hD
  refine lv_aload_n hx hb dJx4a65c_add_72be8_15 rfl (lv_at hl 0 rfl) ?_
  refine lv_iload_n hx hb dJx4a65c_add_72be8_16 rfl (lv_at hl 3 rfl) ?_
  refine lv_iconst (v := nI 1) hx hb dJx4a65c_add_72be8_17 (by decide) ?_
  refine zx_iadd (v := nI (n + 1)) hx hb dJx4a65c_add_72be8_18 (nI_add _ _) ?_
  refine va_put (D := D) (ci := 0) (v := .int (nI (n + 1))) (ty := .int) (C := RJx4a65c) (T := TJx4a65c) (N := 3) hx hb hts i_RJx4a65c tyJx4a65c tyJx4a65c_ok nmJx4a65c hown hK hP hD hS 0 rfl rfl 2 (by decide) k_0 (fun _ h9 => h9) rfl (by decide +kernel) rfl rfl (Nat.le_of_ble_eq_true rfl) dJx4a65c_add_72be8_19 (fun H locs hP hD hS => ?_)
  have hP : va_P D vwCl [(li, .inr (0, [.int mc, .ref ed, .int (nI (n + 1))])), (ed, .inl (cO, cap, .inr (.inr (.inr (.inr (va_up fr n (some v)))))))] H := hP
  have hD : va_D A [(li, .inr (0, [.int mc, .ref ed, .int (nI (n + 1))])), (ed, .inl (cO, cap, .inr (.inr (.inr (.inr (va_up fr n (some v)))))))] := hD
  subst hAe
  exact zretB hx hb hr hlocks (fun t9 ht hv => ⟨by rw [ht]; exact (hP.sub (ws' := [(li, .inr (0, [.int mc, .ref ed, .int (nI (n + 1))])), (ed, .inl (cO, cap, .inr (.inr (.inr (.inr (va_up fr n (some v)))))))]) [0, 1] rfl), va_K.moved hv (hK.sub [0] rfl), (hD.sub (ws' := [(li, .inr (0, [.int mc, .ref ed, .int (nI (n + 1))])), (ed, .inl (cO, cap, .inr (.inr (.inr (.inr (va_up fr n (some v)))))))]) [0, 1] (by decide) rfl)⟩) hS dJx4a65c_add_72be8_22 (Nat.le_of_ble_eq_true rfl) (Nat.le_of_ble_eq_true rfl)

set_option maxHeartbeats 4000000 in
set_option maxRecDepth 100000 in
/-- add(e) of an empty list -/
theorem m_Jx4a65c_add_e (l : Launch) (D : va_G) (li : Nat) (mc : Int32) (em : Nat) (v : Nat)  (sz : Nat)  : Met l yJx4a65c_add_9ea2d wsJx4a65c_add_9ea2d ({ frames := 4, cells := 1, slots := 800, locals := 98 }) (zq D [(li, .inr (0, [.int mc, .ref em, .int (nI 0)]))] [] sz [.ref li, .ref v] (fun U H => HS (va_A [(li, .inr (0, [.int mc, .ref em, .int (nI 0)]))] sz) em U H ∧ EV (va_A [(li, .inr (0, [.int mc, .ref em, .int (nI 0)]))] sz) v U H)) (va_Qi (fun (r : Int32) (_ : Unit) => r = nI 1) (fun _ t9 => ∃ (q : Nat) (cO : ClassId), va_P D vwCl [(li, .inr (0, [.int (mc + nI 1), .ref q, .int (nI 1)])), (q, .inl (cO, 10, .inr (.inr (.inr (.inr (va_up (fun _ => none) 0 (some v)))))))] t9.heap ∧ va_K D vwCl [(cO, .object "java/lang/Object")] t9 ∧ va_D (va_A [(li, .inr (0, [.int mc, .ref em, .int (nI 0)]))] sz) [(li, .inr (0, [.int (mc + nI 1), .ref q, .int (nI 1)])), (q, .inl (cO, 10, .inr (.inr (.inr (.inr (va_up (fun _ => none) 0 (some v)))))))]) (va_A [(li, .inr (0, [.int mc, .ref em, .int (nI 0)]))] sz)) 1 800 (va_A [(li, .inr (0, [.int mc, .ref em, .int (nI 0)]))] sz) := by
  refine zmq (cc := cJx4a65c_add_9ea2d) (maxL := 2) (ret := (some .boolean)) (by decide) rfl (Nat.le_of_ble_eq_true rfl) ?_
  intro p e s m below meth c ls A hAe hsz hin hx hb hml hr hlocks hown hts hP hK hG hD hA hS hX hl
  subst hsz
  rw [← hAe] at hX
  obtain ⟨hHS, hEV⟩ := hX
  have hl : lv_has ls 2 [(0, .ref li), (1, .ref v)] := hl
  have k_0 := hts (.fieldLink RJx4a65c 63 "java/util/ArrayList" "modCount" "I") (List.mem_of_getElem? (i := 1) rfl)
  have i_RJx4a65c : ∀ w ∈ u_ws RJx4a65c TJx4a65c 3, w ∈ wsJx4a65c_add_9ea2d := by decide +kernel
  have k_2 := hts (.sameField "java/util/ArrayList" "java/util/AbstractList" "modCount" "I") (List.mem_of_getElem? (i := 2) rfl)
  have k_3 := hts (.fieldLink RJx4a65c 9 "java/util/ArrayList" "elementData" "[Ljava/lang/Object;") (List.mem_of_getElem? (i := 3) rfl)
  have k_4 := hts (.fieldLink RJx4a65c 48 "java/util/ArrayList" "size" "I") (List.mem_of_getElem? (i := 4) rfl)
  refine lv_aload_n hx hb dJx4a65c_add_9ea2d_0 rfl (lv_at hl 0 rfl) ?_
  refine lv_dup hx hb dJx4a65c_add_9ea2d_1 rfl ?_
  refine va_get (D := D) (ci := 0) (v := .int mc) (C := RJx4a65c) (T := TJx4a65c) (N := 3) hx hb hts i_RJx4a65c hown hK hP 0 rfl rfl 0 (by decide) k_0 (fun x h9 => u_same k_2 x h9) rfl dJx4a65c_add_9ea2d_2 ?_
  refine lv_iconst (v := nI 1) hx hb dJx4a65c_add_9ea2d_5 (by decide) ?_
  refine zx_iadd (v := mc + (nI 1)) hx hb dJx4a65c_add_9ea2d_6 (rfl) ?_
  refine va_put (D := D) (ci := 0) (v := .int (mc + (nI 1))) (ty := .int) (C := RJx4a65c) (T := TJx4a65c) (N := 3) hx hb hts i_RJx4a65c tyJx4a65c tyJx4a65c_ok nmJx4a65c hown hK hP hD hS 0 rfl rfl 0 (by decide) k_0 (fun x h9 => u_same k_2 x h9) rfl (by decide +kernel) rfl rfl (Nat.le_of_ble_eq_true rfl) dJx4a65c_add_9ea2d_7 (fun H locs hP hD hS => ?_)
  have hP : va_P D vwCl [(li, .inr (0, [.int (mc + (nI 1)), .ref em, .int (nI 0)]))] H := hP
  have hD : va_D A [(li, .inr (0, [.int (mc + (nI 1)), .ref em, .int (nI 0)]))] := hD
  refine lv_aload_n hx hb dJx4a65c_add_9ea2d_10 rfl (lv_at hl 0 rfl) ?_
  refine lv_aload_n hx hb dJx4a65c_add_9ea2d_11 rfl (lv_at hl 1 rfl) ?_
  refine lv_aload_n hx hb dJx4a65c_add_9ea2d_12 rfl (lv_at hl 0 rfl) ?_
  refine va_get (D := D) (ci := 0) (v := .ref em) (C := RJx4a65c) (T := TJx4a65c) (N := 3) hx hb hts i_RJx4a65c hown hK hP 0 rfl rfl 1 (by decide) k_3 (fun _ h9 => h9) rfl dJx4a65c_add_9ea2d_13 ?_
  refine lv_aload_n hx hb dJx4a65c_add_9ea2d_16 rfl (lv_at hl 0 rfl) ?_
  refine va_get (D := D) (ci := 0) (v := .int (nI 0)) (C := RJx4a65c) (T := TJx4a65c) (N := 3) hx hb hts i_RJx4a65c hown hK hP 0 rfl rfl 2 (by decide) k_4 (fun _ h9 => h9) rfl dJx4a65c_add_9ea2d_17 ?_
  have hF_4 := va_free (wc := [(li, .inr (0, [.int (mc + (nI 1)), .ref em, .int (nI 0)]))]) hD hS hA [0] rfl
  refine va_callv (va_runV (As := [.ref v, .ref em, .int (nI 0)]) (rest := []) ⟨hx, hb, hml, hown, hts⟩ (m_Jx4a65c_add3_e l D li (mc + (nI 1)) em v _) (cwV 3 hts gJx4a65c_add_9ea2d_Jx4a65c_add_72be8 rfl rfl rfl (by decide +kernel) ⟨Nat.le_of_ble_eq_true rfl, Nat.le_of_ble_eq_true rfl⟩) (zq_V (XM.and XM.hs XM.ev) (va_recv hK hP (ci := 0) (q0 := 0) rfl rfl) (hP.sub (ws' := [(li, .inr (0, [.int (mc + (nI 1)), .ref em, .int (nI 0)]))]) [0] rfl) (hK.sub (tys' := []) [] rfl) (hD.sub (ws' := [(li, .inr (0, [.int (mc + (nI 1)), .ref em, .int (nI 0)]))]) [0] (by decide) rfl) hG ⟨hHS.go hS (va_free (wc := [(li, .inr (0, [.int (mc + (nI 1)), .ref em, .int (nI 0)]))]) hD hS hA [0] rfl), hEV.go hS (va_free (wc := [(li, .inr (0, [.int (mc + (nI 1)), .ref em, .int (nI 0)]))]) hD hS hA [0] rfl)⟩) rfl rfl hl.1 rfl (lv_room (Nat.le_of_ble_eq_true rfl)) dJx4a65c_add_9ea2d_20 ⟨Nat.le_of_ble_eq_true rfl, Nat.le_of_ble_eq_true rfl⟩) hS (fun q _ h => hF_4 q h) hF_4 (fun u t1 H locs ht1 hvm hw hB hz1 hk1 hS => ?_)
  obtain ⟨q__1, cO__2, hP1, hK1, hD1⟩ := hB
  rw [ht1] at hP1
  have hK1 := va_K.moved hvm.symm hK1
  obtain ⟨hP, hD⟩ := va_join (wr := []) (w1 := [(li, .inr (0, [.int (mc + (nI 1)), .ref q__1, .int (nI 1)])), (q__1, .inl (cO__2, 10, .inr (.inr (.inr (.inr (va_up (fun _ => none) 0 (some v)))))))]) hP hD [0] [] rfl rfl (by decide) (by decide) hk1 hF_4 hP1 hD1
  have hK := hK.app hK1
  have hK := hK.sub (tys' := [(cO__2, .object "java/lang/Object")]) [0] rfl
  have hP : va_P D vwCl [(li, .inr (0, [.int (mc + (nI 1)), .ref q__1, .int (nI 1)])), (q__1, .inl (cO__2, 10, .inr (.inr (.inr (.inr (va_up (fun _ => none) 0 (some v)))))))] H := hP
  have hD : va_D A [(li, .inr (0, [.int (mc + (nI 1)), .ref q__1, .int (nI 1)])), (q__1, .inl (cO__2, 10, .inr (.inr (.inr (.inr (va_up (fun _ => none) 0 (some v)))))))] := hD
  refine W.widen (k := 1) (n := 800) (by decide) (by decide) ?_
  refine lv_iconst (v := nI 1) hx hb dJx4a65c_add_9ea2d_23 (by decide) ?_
  subst hAe
  exact zretBz hx hb hr hlocks (fun t9 ht hv => ⟨q__1, cO__2, by rw [ht]; exact (hP.sub (ws' := [(li, .inr (0, [.int (mc + nI 1), .ref q__1, .int (nI 1)])), (q__1, .inl (cO__2, 10, .inr (.inr (.inr (.inr (va_up (fun _ => none) 0 (some v)))))))]) [0, 1] rfl), va_K.moved hv (hK.sub [0] rfl), (hD.sub (ws' := [(li, .inr (0, [.int (mc + nI 1), .ref q__1, .int (nI 1)])), (q__1, .inl (cO__2, 10, .inr (.inr (.inr (.inr (va_up (fun _ => none) 0 (some v)))))))]) [0, 1] (by decide) rfl)⟩) hS dJx4a65c_add_9ea2d_24 (Nat.le_of_ble_eq_true rfl) (Nat.le_of_ble_eq_true rfl) rfl (rfl)

set_option maxHeartbeats 4000000 in
set_option maxRecDepth 100000 in
/-- add(e) of a full row -/
theorem m_Jx4a65c_add_f (l : Launch) (D : va_G) (li : Nat) (mc : Int32) (ed n : Nat) (cO : ClassId) (fr : Nat → Option Nat) (v : Nat) (h2 : 2 ≤ n) (hn : n ≤ 512) (sz : Nat)  : Met l yJx4a65c_add_9ea2d wsJx4a65c_add_9ea2d ({ frames := 6, cells := 1, slots := 800, locals := 170 }) (zq D [(li, .inr (0, [.int mc, .ref ed, .int (nI n)])), (ed, .inl (cO, n, .inr (.inr (.inr (.inr fr)))))] [(cO, .object "java/lang/Object")] sz [.ref li, .ref v] (fun U H => EL (va_A [(li, .inr (0, [.int mc, .ref ed, .int (nI n)])), (ed, .inl (cO, n, .inr (.inr (.inr (.inr fr)))))] sz) fr n U H ∧ EV (va_A [(li, .inr (0, [.int mc, .ref ed, .int (nI n)])), (ed, .inl (cO, n, .inr (.inr (.inr (.inr fr)))))] sz) v U H)) (va_Qi (fun (r : Int32) (_ : Unit) => r = nI 1) (fun _ t9 => ∃ (q : Nat), va_P D vwCl [(li, .inr (0, [.int (mc + nI 1), .ref q, .int (nI (n + 1))])), (ed, .inl (cO, n, .inr (.inr (.inr (.inr fr))))), (q, .inl (cO, (n + n / 2), .inr (.inr (.inr (.inr (va_up (va_cpy fr (fun _ => none) 0 0 n) n (some v)))))))] t9.heap ∧ va_K D vwCl [(cO, .object "java/lang/Object")] t9 ∧ va_D (va_A [(li, .inr (0, [.int mc, .ref ed, .int (nI n)])), (ed, .inl (cO, n, .inr (.inr (.inr (.inr fr)))))] sz) [(li, .inr (0, [.int (mc + nI 1), .ref q, .int (nI (n + 1))])), (ed, .inl (cO, n, .inr (.inr (.inr (.inr fr))))), (q, .inl (cO, (n + n / 2), .inr (.inr (.inr (.inr (va_up (va_cpy fr (fun _ => none) 0 0 n) n (some v)))))))]) (va_A [(li, .inr (0, [.int mc, .ref ed, .int (nI n)])), (ed, .inl (cO, n, .inr (.inr (.inr (.inr fr)))))] sz)) 1 800 (va_A [(li, .inr (0, [.int mc, .ref ed, .int (nI n)])), (ed, .inl (cO, n, .inr (.inr (.inr (.inr fr)))))] sz) := by
  refine zmq (cc := cJx4a65c_add_9ea2d) (maxL := 2) (ret := (some .boolean)) (by decide) rfl (Nat.le_of_ble_eq_true rfl) ?_
  intro p e s m below meth c ls A hAe hsz hin hx hb hml hr hlocks hown hts hP hK hG hD hA hS hX hl
  subst hsz
  rw [← hAe] at hX
  obtain ⟨hEL, hEV⟩ := hX
  have hl : lv_has ls 2 [(0, .ref li), (1, .ref v)] := hl
  have k_0 := hts (.fieldLink RJx4a65c 63 "java/util/ArrayList" "modCount" "I") (List.mem_of_getElem? (i := 1) rfl)
  have i_RJx4a65c : ∀ w ∈ u_ws RJx4a65c TJx4a65c 3, w ∈ wsJx4a65c_add_9ea2d := by decide +kernel
  have k_2 := hts (.sameField "java/util/ArrayList" "java/util/AbstractList" "modCount" "I") (List.mem_of_getElem? (i := 2) rfl)
  have k_3 := hts (.fieldLink RJx4a65c 9 "java/util/ArrayList" "elementData" "[Ljava/lang/Object;") (List.mem_of_getElem? (i := 3) rfl)
  have k_4 := hts (.fieldLink RJx4a65c 48 "java/util/ArrayList" "size" "I") (List.mem_of_getElem? (i := 4) rfl)
  refine lv_aload_n hx hb dJx4a65c_add_9ea2d_0 rfl (lv_at hl 0 rfl) ?_
  refine lv_dup hx hb dJx4a65c_add_9ea2d_1 rfl ?_
  refine va_get (D := D) (ci := 0) (v := .int mc) (C := RJx4a65c) (T := TJx4a65c) (N := 3) hx hb hts i_RJx4a65c hown hK hP 0 rfl rfl 0 (by decide) k_0 (fun x h9 => u_same k_2 x h9) rfl dJx4a65c_add_9ea2d_2 ?_
  refine lv_iconst (v := nI 1) hx hb dJx4a65c_add_9ea2d_5 (by decide) ?_
  refine zx_iadd (v := mc + (nI 1)) hx hb dJx4a65c_add_9ea2d_6 (rfl) ?_
  refine va_put (D := D) (ci := 0) (v := .int (mc + (nI 1))) (ty := .int) (C := RJx4a65c) (T := TJx4a65c) (N := 3) hx hb hts i_RJx4a65c tyJx4a65c tyJx4a65c_ok nmJx4a65c hown hK hP hD hS 0 rfl rfl 0 (by decide) k_0 (fun x h9 => u_same k_2 x h9) rfl (by decide +kernel) rfl rfl (Nat.le_of_ble_eq_true rfl) dJx4a65c_add_9ea2d_7 (fun H locs hP hD hS => ?_)
  have hP : va_P D vwCl [(li, .inr (0, [.int (mc + (nI 1)), .ref ed, .int (nI n)])), (ed, .inl (cO, n, .inr (.inr (.inr (.inr fr)))))] H := hP
  have hD : va_D A [(li, .inr (0, [.int (mc + (nI 1)), .ref ed, .int (nI n)])), (ed, .inl (cO, n, .inr (.inr (.inr (.inr fr)))))] := hD
  refine lv_aload_n hx hb dJx4a65c_add_9ea2d_10 rfl (lv_at hl 0 rfl) ?_
  refine lv_aload_n hx hb dJx4a65c_add_9ea2d_11 rfl (lv_at hl 1 rfl) ?_
  refine lv_aload_n hx hb dJx4a65c_add_9ea2d_12 rfl (lv_at hl 0 rfl) ?_
  refine va_get (D := D) (ci := 0) (v := .ref ed) (C := RJx4a65c) (T := TJx4a65c) (N := 3) hx hb hts i_RJx4a65c hown hK hP 0 rfl rfl 1 (by decide) k_3 (fun _ h9 => h9) rfl dJx4a65c_add_9ea2d_13 ?_
  refine lv_aload_n hx hb dJx4a65c_add_9ea2d_16 rfl (lv_at hl 0 rfl) ?_
  refine va_get (D := D) (ci := 0) (v := .int (nI n)) (C := RJx4a65c) (T := TJx4a65c) (N := 3) hx hb hts i_RJx4a65c hown hK hP 0 rfl rfl 2 (by decide) k_4 (fun _ h9 => h9) rfl dJx4a65c_add_9ea2d_17 ?_
  have hF_3 := va_free (wc := [(li, .inr (0, [.int (mc + (nI 1)), .ref ed, .int (nI n)])), (ed, .inl (cO, n, .inr (.inr (.inr (.inr fr)))))]) hD hS hA [0, 1] rfl
  refine va_callv (va_runV (As := [.ref v, .ref ed, .int (nI n)]) (rest := []) ⟨hx, hb, hml, hown, hts⟩ (m_Jx4a65c_add3_f l D li (mc + (nI 1)) ed n cO fr v (by first | omega | assumption) (by first | omega | assumption) _) (cwV 3 hts gJx4a65c_add_9ea2d_Jx4a65c_add_72be8 rfl rfl rfl (by decide +kernel) ⟨Nat.le_of_ble_eq_true rfl, Nat.le_of_ble_eq_true rfl⟩) (zq_V (XM.and XM.el XM.ev) (va_recv hK hP (ci := 0) (q0 := 0) rfl rfl) (hP.sub (ws' := [(li, .inr (0, [.int (mc + (nI 1)), .ref ed, .int (nI n)])), (ed, .inl (cO, n, .inr (.inr (.inr (.inr fr)))))]) [0, 1] rfl) (hK.sub (tys' := [(cO, .object "java/lang/Object")]) [0] rfl) (hD.sub (ws' := [(li, .inr (0, [.int (mc + (nI 1)), .ref ed, .int (nI n)])), (ed, .inl (cO, n, .inr (.inr (.inr (.inr fr)))))]) [0, 1] (by decide) rfl) hG ⟨hEL.go hS (va_free (wc := [(li, .inr (0, [.int (mc + (nI 1)), .ref ed, .int (nI n)])), (ed, .inl (cO, n, .inr (.inr (.inr (.inr fr)))))]) hD hS hA [0, 1] rfl), hEV.go hS (va_free (wc := [(li, .inr (0, [.int (mc + (nI 1)), .ref ed, .int (nI n)])), (ed, .inl (cO, n, .inr (.inr (.inr (.inr fr)))))]) hD hS hA [0, 1] rfl)⟩) rfl rfl hl.1 rfl (lv_room (Nat.le_of_ble_eq_true rfl)) dJx4a65c_add_9ea2d_20 ⟨Nat.le_of_ble_eq_true rfl, Nat.le_of_ble_eq_true rfl⟩) hS (fun q _ h => hF_3 q h) hF_3 (fun u t1 H locs ht1 hvm hw hB hz1 hk1 hS => ?_)
  obtain ⟨q__1, hP1, hK1, hD1⟩ := hB
  rw [ht1] at hP1
  have hK1 := va_K.moved hvm.symm hK1
  obtain ⟨hP, hD⟩ := va_join (wr := []) (w1 := [(li, .inr (0, [.int (mc + (nI 1)), .ref q__1, .int (nI (n + 1))])), (ed, .inl (cO, n, .inr (.inr (.inr (.inr fr))))), (q__1, .inl (cO, (n + n / 2), .inr (.inr (.inr (.inr (va_up (va_cpy fr (fun _ => none) 0 0 n) n (some v)))))))]) hP hD [0, 1] [] rfl rfl (by decide) (by decide) hk1 hF_3 hP1 hD1
  have hP : va_P D vwCl [(li, .inr (0, [.int (mc + (nI 1)), .ref q__1, .int (nI (n + 1))])), (ed, .inl (cO, n, .inr (.inr (.inr (.inr fr))))), (q__1, .inl (cO, (n + n / 2), .inr (.inr (.inr (.inr (va_up (va_cpy fr (fun _ => none) 0 0 n) n (some v)))))))] H := hP
  have hD : va_D A [(li, .inr (0, [.int (mc + (nI 1)), .ref q__1, .int (nI (n + 1))])), (ed, .inl (cO, n, .inr (.inr (.inr (.inr fr))))), (q__1, .inl (cO, (n + n / 2), .inr (.inr (.inr (.inr (va_up (va_cpy fr (fun _ => none) 0 0 n) n (some v)))))))] := hD
  refine W.widen (k := 1) (n := 800) (by decide) (by decide) ?_
  refine lv_iconst (v := nI 1) hx hb dJx4a65c_add_9ea2d_23 (by decide) ?_
  subst hAe
  exact zretBz hx hb hr hlocks (fun t9 ht hv => ⟨q__1, by rw [ht]; exact (hP.sub (ws' := [(li, .inr (0, [.int (mc + nI 1), .ref q__1, .int (nI (n + 1))])), (ed, .inl (cO, n, .inr (.inr (.inr (.inr fr))))), (q__1, .inl (cO, (n + n / 2), .inr (.inr (.inr (.inr (va_up (va_cpy fr (fun _ => none) 0 0 n) n (some v)))))))]) [0, 1, 2] rfl), va_K.moved hv (hK.sub [0] rfl), (hD.sub (ws' := [(li, .inr (0, [.int (mc + nI 1), .ref q__1, .int (nI (n + 1))])), (ed, .inl (cO, n, .inr (.inr (.inr (.inr fr))))), (q__1, .inl (cO, (n + n / 2), .inr (.inr (.inr (.inr (va_up (va_cpy fr (fun _ => none) 0 0 n) n (some v)))))))]) [0, 1, 2] (by decide) rfl)⟩) hS dJx4a65c_add_9ea2d_24 (Nat.le_of_ble_eq_true rfl) (Nat.le_of_ble_eq_true rfl) rfl (rfl)

set_option maxHeartbeats 4000000 in
set_option maxRecDepth 100000 in
/-- add(e) where room is -/
theorem m_Jx4a65c_add_r (l : Launch) (D : va_G) (li : Nat) (mc : Int32) (ed cap n : Nat) (cO : ClassId) (fr : Nat → Option Nat) (v : Nat) (h2 : n < cap) (h3 : cap ≤ 800) (sz : Nat)  : Met l yJx4a65c_add_9ea2d wsJx4a65c_add_9ea2d ({ frames := 1, cells := 0, slots := 0, locals := 23 }) (zq D [(li, .inr (0, [.int mc, .ref ed, .int (nI n)])), (ed, .inl (cO, cap, .inr (.inr (.inr (.inr fr)))))] [(cO, .object "java/lang/Object")] sz [.ref li, .ref v] (fun U H => EV (va_A [(li, .inr (0, [.int mc, .ref ed, .int (nI n)])), (ed, .inl (cO, cap, .inr (.inr (.inr (.inr fr)))))] sz) v U H)) (va_Qi (fun (r : Int32) (_ : Unit) => r = nI 1) (fun _ t9 => va_P D vwCl [(li, .inr (0, [.int (mc + nI 1), .ref ed, .int (nI (n + 1))])), (ed, .inl (cO, cap, .inr (.inr (.inr (.inr (va_up fr n (some v)))))))] t9.heap ∧ va_K D vwCl [(cO, .object "java/lang/Object")] t9 ∧ va_D (va_A [(li, .inr (0, [.int mc, .ref ed, .int (nI n)])), (ed, .inl (cO, cap, .inr (.inr (.inr (.inr fr)))))] sz) [(li, .inr (0, [.int (mc + nI 1), .ref ed, .int (nI (n + 1))])), (ed, .inl (cO, cap, .inr (.inr (.inr (.inr (va_up fr n (some v)))))))]) (va_A [(li, .inr (0, [.int mc, .ref ed, .int (nI n)])), (ed, .inl (cO, cap, .inr (.inr (.inr (.inr fr)))))] sz)) 0 0 (va_A [(li, .inr (0, [.int mc, .ref ed, .int (nI n)])), (ed, .inl (cO, cap, .inr (.inr (.inr (.inr fr)))))] sz) := by
  refine zmq (cc := cJx4a65c_add_9ea2d) (maxL := 2) (ret := (some .boolean)) (by decide) rfl (Nat.le_of_ble_eq_true rfl) ?_
  intro p e s m below meth c ls A hAe hsz hin hx hb hml hr hlocks hown hts hP hK hG hD hA hS hX hl
  subst hsz
  rw [← hAe] at hX
  have hEV := hX
  have hl : lv_has ls 2 [(0, .ref li), (1, .ref v)] := hl
  have k_0 := hts (.fieldLink RJx4a65c 63 "java/util/ArrayList" "modCount" "I") (List.mem_of_getElem? (i := 1) rfl)
  have i_RJx4a65c : ∀ w ∈ u_ws RJx4a65c TJx4a65c 3, w ∈ wsJx4a65c_add_9ea2d := by decide +kernel
  have k_2 := hts (.sameField "java/util/ArrayList" "java/util/AbstractList" "modCount" "I") (List.mem_of_getElem? (i := 2) rfl)
  have k_3 := hts (.fieldLink RJx4a65c 9 "java/util/ArrayList" "elementData" "[Ljava/lang/Object;") (List.mem_of_getElem? (i := 3) rfl)
  have k_4 := hts (.fieldLink RJx4a65c 48 "java/util/ArrayList" "size" "I") (List.mem_of_getElem? (i := 4) rfl)
  refine lv_aload_n hx hb dJx4a65c_add_9ea2d_0 rfl (lv_at hl 0 rfl) ?_
  refine lv_dup hx hb dJx4a65c_add_9ea2d_1 rfl ?_
  refine va_get (D := D) (ci := 0) (v := .int mc) (C := RJx4a65c) (T := TJx4a65c) (N := 3) hx hb hts i_RJx4a65c hown hK hP 0 rfl rfl 0 (by decide) k_0 (fun x h9 => u_same k_2 x h9) rfl dJx4a65c_add_9ea2d_2 ?_
  refine lv_iconst (v := nI 1) hx hb dJx4a65c_add_9ea2d_5 (by decide) ?_
  refine zx_iadd (v := mc + (nI 1)) hx hb dJx4a65c_add_9ea2d_6 (rfl) ?_
  refine va_put (D := D) (ci := 0) (v := .int (mc + (nI 1))) (ty := .int) (C := RJx4a65c) (T := TJx4a65c) (N := 3) hx hb hts i_RJx4a65c tyJx4a65c tyJx4a65c_ok nmJx4a65c hown hK hP hD hS 0 rfl rfl 0 (by decide) k_0 (fun x h9 => u_same k_2 x h9) rfl (by decide +kernel) rfl rfl (Nat.le_of_ble_eq_true rfl) dJx4a65c_add_9ea2d_7 (fun H locs hP hD hS => ?_)
  have hP : va_P D vwCl [(li, .inr (0, [.int (mc + (nI 1)), .ref ed, .int (nI n)])), (ed, .inl (cO, cap, .inr (.inr (.inr (.inr fr)))))] H := hP
  have hD : va_D A [(li, .inr (0, [.int (mc + (nI 1)), .ref ed, .int (nI n)])), (ed, .inl (cO, cap, .inr (.inr (.inr (.inr fr)))))] := hD
  refine lv_aload_n hx hb dJx4a65c_add_9ea2d_10 rfl (lv_at hl 0 rfl) ?_
  refine lv_aload_n hx hb dJx4a65c_add_9ea2d_11 rfl (lv_at hl 1 rfl) ?_
  refine lv_aload_n hx hb dJx4a65c_add_9ea2d_12 rfl (lv_at hl 0 rfl) ?_
  refine va_get (D := D) (ci := 0) (v := .ref ed) (C := RJx4a65c) (T := TJx4a65c) (N := 3) hx hb hts i_RJx4a65c hown hK hP 0 rfl rfl 1 (by decide) k_3 (fun _ h9 => h9) rfl dJx4a65c_add_9ea2d_13 ?_
  refine lv_aload_n hx hb dJx4a65c_add_9ea2d_16 rfl (lv_at hl 0 rfl) ?_
  refine va_get (D := D) (ci := 0) (v := .int (nI n)) (C := RJx4a65c) (T := TJx4a65c) (N := 3) hx hb hts i_RJx4a65c hown hK hP 0 rfl rfl 2 (by decide) k_4 (fun _ h9 => h9) rfl dJx4a65c_add_9ea2d_17 ?_
  have hF_2 := va_free (wc := [(li, .inr (0, [.int (mc + (nI 1)), .ref ed, .int (nI n)])), (ed, .inl (cO, cap, .inr (.inr (.inr (.inr fr)))))]) hD hS hA [0, 1] rfl
  refine va_callv (va_runV (As := [.ref v, .ref ed, .int (nI n)]) (rest := []) ⟨hx, hb, hml, hown, hts⟩ (m_Jx4a65c_add3_r l D li (mc + (nI 1)) ed cap n cO fr v (by first | omega | assumption) (by first | omega | assumption) _) (cwV 3 hts gJx4a65c_add_9ea2d_Jx4a65c_add_72be8 rfl rfl rfl (by decide +kernel) ⟨Nat.le_of_ble_eq_true rfl, Nat.le_of_ble_eq_true rfl⟩) (zq_V XM.ev (va_recv hK hP (ci := 0) (q0 := 0) rfl rfl) (hP.sub (ws' := [(li, .inr (0, [.int (mc + (nI 1)), .ref ed, .int (nI n)])), (ed, .inl (cO, cap, .inr (.inr (.inr (.inr fr)))))]) [0, 1] rfl) (hK.sub (tys' := [(cO, .object "java/lang/Object")]) [0] rfl) (hD.sub (ws' := [(li, .inr (0, [.int (mc + (nI 1)), .ref ed, .int (nI n)])), (ed, .inl (cO, cap, .inr (.inr (.inr (.inr fr)))))]) [0, 1] (by decide) rfl) hG (hEV.go hS (va_free (wc := [(li, .inr (0, [.int (mc + (nI 1)), .ref ed, .int (nI n)])), (ed, .inl (cO, cap, .inr (.inr (.inr (.inr fr)))))]) hD hS hA [0, 1] rfl))) rfl rfl hl.1 rfl (lv_room (Nat.le_of_ble_eq_true rfl)) dJx4a65c_add_9ea2d_20 ⟨Nat.le_of_ble_eq_true rfl, Nat.le_of_ble_eq_true rfl⟩) hS (fun q _ h => hF_2 q h) hF_2 (fun u t1 H locs ht1 hvm hw hB hz1 hk1 hS => ?_)
  obtain ⟨hP1, hK1, hD1⟩ := hB
  rw [ht1] at hP1
  have hK1 := va_K.moved hvm.symm hK1
  obtain ⟨hP, hD⟩ := va_join (wr := []) (w1 := [(li, .inr (0, [.int (mc + (nI 1)), .ref ed, .int (nI (n + 1))])), (ed, .inl (cO, cap, .inr (.inr (.inr (.inr (va_up fr n (some v)))))))]) hP hD [0, 1] [] rfl rfl (by decide) (by decide) hk1 hF_2 hP1 hD1
  have hP : va_P D vwCl [(li, .inr (0, [.int (mc + (nI 1)), .ref ed, .int (nI (n + 1))])), (ed, .inl (cO, cap, .inr (.inr (.inr (.inr (va_up fr n (some v)))))))] H := hP
  have hD : va_D A [(li, .inr (0, [.int (mc + (nI 1)), .ref ed, .int (nI (n + 1))])), (ed, .inl (cO, cap, .inr (.inr (.inr (.inr (va_up fr n (some v)))))))] := hD
  refine lv_iconst (v := nI 1) hx hb dJx4a65c_add_9ea2d_23 (by decide) ?_
  subst hAe
  exact zretBz hx hb hr hlocks (fun t9 ht hv => ⟨by rw [ht]; exact (hP.sub (ws' := [(li, .inr (0, [.int (mc + nI 1), .ref ed, .int (nI (n + 1))])), (ed, .inl (cO, cap, .inr (.inr (.inr (.inr (va_up fr n (some v)))))))]) [0, 1] rfl), va_K.moved hv (hK.sub [0] rfl), (hD.sub (ws' := [(li, .inr (0, [.int (mc + nI 1), .ref ed, .int (nI (n + 1))])), (ed, .inl (cO, cap, .inr (.inr (.inr (.inr (va_up fr n (some v)))))))]) [0, 1] (by decide) rfl)⟩) hS dJx4a65c_add_9ea2d_24 (Nat.le_of_ble_eq_true rfl) (Nat.le_of_ble_eq_true rfl) rfl (rfl)
