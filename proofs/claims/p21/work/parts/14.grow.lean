set_option maxHeartbeats 4000000 in
set_option maxRecDepth 100000 in
/-- newLength(n, 1, n / 2) -/
theorem m_J8_newLength_cabcc (l : Launch) (n : Nat) (h2 : 2 ≤ n) (hn : n ≤ 40000) : Met l yJ8_newLength_cabcc wsJ8_newLength_cabcc ({ frames := 1, cells := 0, slots := 0, locals := 32 }) (z0 [.int (nI n), .int (nI 1), .int (nI (n / 2))]) (vp_Si (fun r => r = nI (n + n / 2))) 0 0 (fun _ => False) := by
  refine zm0 (cc := cJ8_newLength_cabcc) (maxL := 4) (ret := (some .int)) (by decide) rfl (Nat.le_of_ble_eq_true rfl) ?_
  intro p e s m below meth c ls hx hb hml hr hlocks hown hts hl
  have hl : lv_has ls 4 [(0, .int (nI n)), (1, .int (nI 1)), (2, .int (nI (n / 2)))] := hl
  have k_0 := hts (.methodLink RJ8 194 Lib.Math.max.name) (List.mem_of_getElem? (i := 1) rfl)
  have k_1 := hts (.static Lib.Math.max.name) (List.mem_of_getElem? (i := 2) rfl)
  have k_2 := hts (.initialized "java/lang/Math") (List.mem_of_getElem? (i := 3) rfl)
  have k_3 := hts (.code Lib.Math.max.name Lib.Math.max.code 2 (some .int)) (List.mem_of_getElem? (i := 4) rfl)
  have k_4 := hts (.constant RJ8 200 (2147483639)) (List.mem_of_getElem? (i := 5) rfl)
  refine lv_iload_n hx hb dJ8_newLength_cabcc_0 rfl (lv_at hl 0 rfl) ?_
  refine lv_iload_n hx hb dJ8_newLength_cabcc_1 rfl (lv_at hl 1 rfl) ?_
  refine lv_iload_n hx hb dJ8_newLength_cabcc_2 rfl (lv_at hl 2 rfl) ?_
  refine va_mmax hx hb (hml.trans hl.1.symm) hown k_0 k_1 k_2 k_3 (Nat.le_of_ble_eq_true rfl) (Nat.le_of_ble_eq_true rfl) (by omega) (by omega) dJ8_newLength_cabcc_3 ?_
  refine lv_topi (fun z_3 ez_3 => ?_)
  refine zx_iadd (v := nI (n + n / 2)) hx hb dJ8_newLength_cabcc_6 (by rw [ez_3]; exact a_len h2 hn) ?_
  refine lv_istore_n (lv' := [(3, .int (nI (n + n / 2))), (0, .int (nI n)), (1, .int (nI 1)), (2, .int (nI (n / 2)))]) hx hb dJ8_newLength_cabcc_7 rfl hl (by decide) rfl (fun ls hl => ?_)
  refine lv_iconst (v := nI 0) hx hb dJ8_newLength_cabcc_8 (by decide) ?_
  refine lv_iload_n hx hb dJ8_newLength_cabcc_9 rfl (lv_at hl 0 rfl) ?_
  refine lv_icmp_ge (tgt := 21) hx hb dJ8_newLength_cabcc_10 (by decide) (fun h9 => absurd h9 (fun h8 => absurd ((nI_leI (a := n + n / 2) (b := 0) (by omega) (by omega)).mp h8) (by omega))) (fun _ => ?_)
  refine lv_iload_n hx hb dJ8_newLength_cabcc_13 rfl (lv_at hl 0 rfl) ?_
  refine lv_ldc (v := nI 2147483639) hx hb hown k_4 dJ8_newLength_cabcc_14 ?_
  refine lv_icmp_gt (tgt := 21) hx hb dJ8_newLength_cabcc_16 (by decide) (fun h9 => absurd h9 (nI_nlt (by omega) (by decide))) (fun _ => ?_)
  refine lv_iload_n hx hb dJ8_newLength_cabcc_19 rfl (lv_at hl 0 rfl) ?_
  exact zreti1 hx hb hr hlocks dJ8_newLength_cabcc_20 (by first | rfl | (subst_vars; rfl))

set_option maxHeartbeats 4000000 in
set_option maxRecDepth 100000 in
/-- Arrays.copyOf(a, len, class) -/
theorem m_J7_copyOf_6403c (l : Launch) (D : va_G) (ed cap : Nat) (cO : ClassId) (fr : Nat → Option Nat) (ln mi : Nat) (h3 : cap ≤ ln) (h4 : ln ≤ 800) (sz : Nat)  : Met l yJ7_copyOf_6403c wsJ7_copyOf_6403c ({ frames := 1, cells := 1, slots := 800, locals := 60 }) (zq D [(ed, .inl (cO, cap, .inr (.inr (.inr (.inr fr)))))] [(cO, .object "java/lang/Object")] sz [.ref ed, .int (nI ln), .ref mi] (fun U H => EL (va_A [(ed, .inl (cO, cap, .inr (.inr (.inr (.inr fr)))))] sz) fr cap U H ∧ va_Mi "[Ljava/lang/Object;" mi U)) (va_Qr (fun _ : Unit => True) (fun _ (q : Nat) t9 => va_P D vwCl [(ed, .inl (cO, cap, .inr (.inr (.inr (.inr fr))))), (q, .inl (cO, ln, .inr (.inr (.inr (.inr (va_cpy fr (fun _ => none) 0 0 cap))))))] t9.heap ∧ va_K D vwCl [(cO, .object "java/lang/Object")] t9 ∧ va_D (va_A [(ed, .inl (cO, cap, .inr (.inr (.inr (.inr fr)))))] sz) [(ed, .inl (cO, cap, .inr (.inr (.inr (.inr fr))))), (q, .inl (cO, ln, .inr (.inr (.inr (.inr (va_cpy fr (fun _ => none) 0 0 cap))))))]) (va_A [(ed, .inl (cO, cap, .inr (.inr (.inr (.inr fr)))))] sz)) 1 800 (va_A [(ed, .inl (cO, cap, .inr (.inr (.inr (.inr fr)))))] sz) := by
  refine zmq (cc := cJ7_copyOf_6403c) (maxL := 4) (ret := (some (.array (.object "java/lang/Object")))) (by decide) rfl (Nat.le_of_ble_eq_true rfl) ?_
  intro p e s m below meth c ls A hAe hsz hin hx hb hml hr hlocks hown hts hP hK hG hD hA hS hX hl
  subst hsz
  rw [← hAe] at hX
  have hl : lv_has ls 4 [(0, .ref ed), (1, .int (nI ln)), (2, .ref mi)] := hl
  have k_0 := hts (.classLink RJ7 110 "[Ljava/lang/Object;") (List.mem_of_getElem? (i := 1) rfl)
  have k_1 := hts (.classLink RJ7 2 "java/lang/Object") (List.mem_of_getElem? (i := 2) rfl)
  have k_2 := hts (.methodLink RJ7 304 Lib.Math.min.name) (List.mem_of_getElem? (i := 3) rfl)
  have k_3 := hts (.static Lib.Math.min.name) (List.mem_of_getElem? (i := 4) rfl)
  have k_4 := hts (.initialized "java/lang/Math") (List.mem_of_getElem? (i := 5) rfl)
  have k_5 := hts (.code Lib.Math.min.name Lib.Math.min.code 2 (some .int)) (List.mem_of_getElem? (i := 6) rfl)
  have k_6 := hts (.methodLink RJ7 150 arraycopyName) (List.mem_of_getElem? (i := 7) rfl)
  have k_7 := hts (.native arraycopyName) (List.mem_of_getElem? (i := 8) rfl)
  have k_8 := hts (.static arraycopyName) (List.mem_of_getElem? (i := 9) rfl)
  have k_9 := hts (.initialized "java/lang/System") (List.mem_of_getElem? (i := 10) rfl)
  refine lv_aload_n hx hb dJ7_copyOf_6403c_0 rfl (lv_at hl 2 rfl) ?_
  refine va_ldcM hx hb hown k_0 hX.2 dJ7_copyOf_6403c_1 ?_
  refine lv_acmp_ne (rx := some mi) (ry := some mi) (tgt := 13) hx hb dJ7_copyOf_6403c_3 (by decide) (fun h9 => absurd rfl h9) (fun _ => ?_)
  refine lv_iload_n hx hb dJ7_copyOf_6403c_6 rfl (lv_at hl 1 rfl) ?_
  refine va_newq (C := "java/lang/Object") (N' := ln) hx hb hown k_1 hG.2.2.2.2.2.2 hK hP hD hS hA (nI_pos (by omega)) (nI_clamp (by omega)) (by omega) (Nat.le_of_ble_eq_true rfl) (by show 0 + ln ≤ 800; omega) dJ7_copyOf_6403c_7 (fun q_1 cN_2 H hK hP hD hS => ?_)
  obtain rfl : cO = cN_2 := cA_eq hK 0 1 rfl rfl
  have hK := hK.sub (tys' := [(cO, .object "java/lang/Object")]) [0] rfl
  have hP : va_P D vwCl [(ed, .inl (cO, cap, .inr (.inr (.inr (.inr fr))))), (q_1, .inl (cO, ln, .inr (.inr (.inr (.inr (fun _ => none))))))] H := hP
  have hD : va_D A [(ed, .inl (cO, cap, .inr (.inr (.inr (.inr fr))))), (q_1, .inl (cO, ln, .inr (.inr (.inr (.inr (fun _ => none))))))] := hD
  refine W.widen (k := 1) (n := 800) (by decide) (by show 0 + ln ≤ _; omega) ?_
  refine lv_goto (tgt := 24) hx hb dJ7_copyOf_6403c_10 (by decide) ?_
  refine lv_astore_n (lv' := [(3, .ref q_1), (0, .ref ed), (1, .int (nI ln)), (2, .ref mi)]) hx hb dJ7_copyOf_6403c_24 rfl hl (by decide) rfl (fun ls hl => ?_)
  refine lv_aload_n hx hb dJ7_copyOf_6403c_25 rfl (lv_at hl 1 rfl) ?_
  refine lv_iconst (v := nI 0) hx hb dJ7_copyOf_6403c_26 (by decide) ?_
  refine lv_aload_n hx hb dJ7_copyOf_6403c_27 rfl (lv_at hl 0 rfl) ?_
  refine lv_iconst (v := nI 0) hx hb dJ7_copyOf_6403c_28 (by decide) ?_
  refine lv_aload_n hx hb dJ7_copyOf_6403c_29 rfl (lv_at hl 1 rfl) ?_
  refine va_alen (D := D) (cl := vwCl) hx hb hK hP 0 0 rfl rfl (v := nI cap) rfl dJ7_copyOf_6403c_30 ?_
  refine lv_iload_n hx hb dJ7_copyOf_6403c_31 rfl (lv_at hl 2 rfl) ?_
  refine va_mmin hx hb (hml.trans hl.1.symm) hown k_2 k_3 k_4 k_5 (Nat.le_of_ble_eq_true rfl) (Nat.le_of_ble_eq_true rfl) (by show 1 ≤ _; exact Nat.le_of_ble_eq_true rfl) (by show _ ≤ _; exact Nat.le_of_ble_eq_true rfl) dJ7_copyOf_6403c_32 ?_
  refine lv_topi (fun z_32 ez_32 => ?_)
  have ez_32 : z_32 = nI cap := ez_32.trans (if_neg (nI_nlt (by omega) (by omega)))
  subst ez_32
  refine va_copyM (D := D) hx hb (hml.trans hl.1.symm) hown k_6 k_7 k_8 k_9 hK hP hD hS 0 1 0 0 rfl rfl rfl rfl (nI_pos (by decide)) (nI_pos (by decide)) (nI_pos (by omega)) (by rw [nI_clamp (n := 0) (by decide), nI_clamp (n := cap) (by omega)]; omega) (by rw [nI_clamp (n := 0) (by decide), nI_clamp (n := cap) (by omega)]; omega) (by rw [nI_clamp (n := 0) (by decide), nI_clamp (n := cap) (by omega)]; intro i hi y hy; exact hX.1.at hS i hi y (by rw [Nat.zero_add] at hy; exact hy)) (Nat.le_of_ble_eq_true rfl) (Nat.le_of_ble_eq_true rfl) dJ7_copyOf_6403c_35 (fun H locs hP hD hS => ?_)
  rw [nI_clamp (n := 0) (by decide), nI_clamp (n := cap) (by omega)] at hP hD
  have hP : va_P D vwCl [(ed, .inl (cO, cap, .inr (.inr (.inr (.inr fr))))), (q_1, .inl (cO, ln, .inr (.inr (.inr (.inr (va_cpy fr (fun _ => none) 0 0 cap))))))] H := hP
  have hD : va_D A [(ed, .inl (cO, cap, .inr (.inr (.inr (.inr fr))))), (q_1, .inl (cO, ln, .inr (.inr (.inr (.inr (va_cpy fr (fun _ => none) 0 0 cap))))))] := hD
  refine lv_aload_n hx hb dJ7_copyOf_6403c_38 rfl (lv_at hl 0 rfl) ?_
  subst hAe
  exact zretBr hx hb hr (Or.inr ⟨_, rfl⟩) hlocks (fun t9 ht hv => ⟨by rw [ht]; exact (hP.sub (ws' := [(ed, .inl (cO, cap, .inr (.inr (.inr (.inr fr))))), (q_1, .inl (cO, ln, .inr (.inr (.inr (.inr (va_cpy fr (fun _ => none) 0 0 cap))))))]) [0, 1] rfl), va_K.moved hv (hK.sub [0] rfl), (hD.sub (ws' := [(ed, .inl (cO, cap, .inr (.inr (.inr (.inr fr))))), (q_1, .inl (cO, ln, .inr (.inr (.inr (.inr (va_cpy fr (fun _ => none) 0 0 cap))))))]) [0, 1] (by decide) rfl)⟩) hS dJ7_copyOf_6403c_39 (Nat.le_of_ble_eq_true rfl) (Nat.le_of_ble_eq_true rfl)

set_option maxHeartbeats 4000000 in
set_option maxRecDepth 100000 in
/-- Arrays.copyOf(a, len) -/
theorem m_J7_copyOf_1904c (l : Launch) (D : va_G) (ed cap : Nat) (cO : ClassId) (fr : Nat → Option Nat) (ln : Nat) (h3 : cap ≤ ln) (h4 : ln ≤ 800) (sz : Nat)  : Met l yJ7_copyOf_1904c wsJ7_copyOf_1904c ({ frames := 2, cells := 1, slots := 800, locals := 83 }) (zq D [(ed, .inl (cO, cap, .inr (.inr (.inr (.inr fr)))))] [(cO, .object "java/lang/Object")] sz [.ref ed, .int (nI ln)] (fun U H => EL (va_A [(ed, .inl (cO, cap, .inr (.inr (.inr (.inr fr)))))] sz) fr cap U H)) (va_Qr (fun _ : Unit => True) (fun _ (q : Nat) t9 => va_P D vwCl [(ed, .inl (cO, cap, .inr (.inr (.inr (.inr fr))))), (q, .inl (cO, ln, .inr (.inr (.inr (.inr (va_cpy fr (fun _ => none) 0 0 cap))))))] t9.heap ∧ va_K D vwCl [(cO, .object "java/lang/Object")] t9 ∧ va_D (va_A [(ed, .inl (cO, cap, .inr (.inr (.inr (.inr fr)))))] sz) [(ed, .inl (cO, cap, .inr (.inr (.inr (.inr fr))))), (q, .inl (cO, ln, .inr (.inr (.inr (.inr (va_cpy fr (fun _ => none) 0 0 cap))))))]) (va_A [(ed, .inl (cO, cap, .inr (.inr (.inr (.inr fr)))))] sz)) 1 800 (va_A [(ed, .inl (cO, cap, .inr (.inr (.inr (.inr fr)))))] sz) := by
  refine zmq (cc := cJ7_copyOf_1904c) (maxL := 2) (ret := (some (.array (.object "java/lang/Object")))) (by decide) rfl (Nat.le_of_ble_eq_true rfl) ?_
  intro p e s m below meth c ls A hAe hsz hin hx hb hml hr hlocks hown hts hP hK hG hD hA hS hX hl
  subst hsz
  rw [← hAe] at hX
  have hl : lv_has ls 2 [(0, .ref ed), (1, .int (nI ln))] := hl
  have k_0 := hts (.methodLink RJ7 86 ⟨"java/lang/Object", "getClass", "()Ljava/lang/Class;"⟩) (List.mem_of_getElem? (i := 1) rfl)
  have k_1 := hts (.selects "[Ljava/lang/Object;" ⟨"java/lang/Object", "getClass", "()Ljava/lang/Class;"⟩ ⟨"java/lang/Object", "getClass", "()Ljava/lang/Class;"⟩) (List.mem_of_getElem? (i := 2) rfl)
  have k_2 := hts (.instanceMethod ⟨"java/lang/Object", "getClass", "()Ljava/lang/Class;"⟩) (List.mem_of_getElem? (i := 3) rfl)
  have k_3 := hts (.native ⟨"java/lang/Object", "getClass", "()Ljava/lang/Class;"⟩) (List.mem_of_getElem? (i := 4) rfl)
  refine lv_aload_n hx hb dJ7_copyOf_1904c_0 rfl (lv_at hl 0 rfl) ?_
  refine lv_iload_n hx hb dJ7_copyOf_1904c_1 rfl (lv_at hl 1 rfl) ?_
  refine lv_aload_n hx hb dJ7_copyOf_1904c_2 rfl (lv_at hl 0 rfl) ?_
  obtain ⟨mi, hmi⟩ := hG.2.2.2.2.2.1
  refine va_getC (C := "[Ljava/lang/Object;") hx hb (hml.trans hl.1.symm) hown k_0 (va_Nw.use rfl (hG.2.2.2.2.1 _ (by decide +kernel))) k_1 k_2 k_3 hmi (arr_recv hK hP 0 0 rfl rfl) (Nat.le_of_ble_eq_true rfl) (Nat.le_of_ble_eq_true rfl) dJ7_copyOf_1904c_3 ?_
  have hF_2 := va_free (wc := [(ed, .inl (cO, cap, .inr (.inr (.inr (.inr fr)))))]) hD hS hA [0] rfl
  refine va_callr (va_runS (As := [.ref ed, .int (nI ln), .ref mi]) (rest := []) ⟨hx, hb, hml, hown, hts⟩ (m_J7_copyOf_6403c l D ed cap cO fr ln mi (by first | omega | assumption) (by first | omega | assumption) _) (va_cwS 3 hts gJ7_copyOf_1904c_J7_copyOf_6403c rfl rfl rfl (by decide +kernel) ⟨Nat.le_of_ble_eq_true rfl, Nat.le_of_ble_eq_true rfl⟩) (zq_S (XM.and XM.el (fun _ _ _ h q => va_Mi.moved h q)) (hP.sub (ws' := [(ed, .inl (cO, cap, .inr (.inr (.inr (.inr fr)))))]) [0] rfl) (hK.sub (tys' := [(cO, .object "java/lang/Object")]) [0] rfl) (hD.sub (ws' := [(ed, .inl (cO, cap, .inr (.inr (.inr (.inr fr)))))]) [0] (by decide) rfl) hG ⟨hX.go hS (va_free (wc := [(ed, .inl (cO, cap, .inr (.inr (.inr (.inr fr)))))]) hD hS hA [0] rfl), hmi⟩) rfl rfl hl.1 rfl (lv_room (Nat.le_of_ble_eq_true rfl)) dJ7_copyOf_1904c_6 ⟨Nat.le_of_ble_eq_true rfl, Nat.le_of_ble_eq_true rfl⟩) hS (fun q _ h => hF_2 q h) hF_2 (fun u q__1 t1 H locs ht1 hvm hw hB hz1 hk1 hS => ?_)
  obtain ⟨hP1, hK1, hD1⟩ := hB
  rw [ht1] at hP1
  have hK1 := va_K.moved hvm.symm hK1
  obtain ⟨hP, hD⟩ := va_join (wr := []) (w1 := [(ed, .inl (cO, cap, .inr (.inr (.inr (.inr fr))))), (q__1, .inl (cO, ln, .inr (.inr (.inr (.inr (va_cpy fr (fun _ => none) 0 0 cap))))))]) hP hD [0] [] rfl rfl (by decide) (by decide) hk1 hF_2 hP1 hD1
  have hP : va_P D vwCl [(ed, .inl (cO, cap, .inr (.inr (.inr (.inr fr))))), (q__1, .inl (cO, ln, .inr (.inr (.inr (.inr (va_cpy fr (fun _ => none) 0 0 cap))))))] H := hP
  have hD : va_D A [(ed, .inl (cO, cap, .inr (.inr (.inr (.inr fr))))), (q__1, .inl (cO, ln, .inr (.inr (.inr (.inr (va_cpy fr (fun _ => none) 0 0 cap))))))] := hD
  refine W.widen (k := 1) (n := 800) (by decide) (by decide) ?_
  subst hAe
  exact zretBr hx hb hr (Or.inr ⟨_, rfl⟩) hlocks (fun t9 ht hv => ⟨by rw [ht]; exact (hP.sub (ws' := [(ed, .inl (cO, cap, .inr (.inr (.inr (.inr fr))))), (q__1, .inl (cO, ln, .inr (.inr (.inr (.inr (va_cpy fr (fun _ => none) 0 0 cap))))))]) [0, 1] rfl), va_K.moved hv (hK.sub [0] rfl), (hD.sub (ws' := [(ed, .inl (cO, cap, .inr (.inr (.inr (.inr fr))))), (q__1, .inl (cO, ln, .inr (.inr (.inr (.inr (va_cpy fr (fun _ => none) 0 0 cap))))))]) [0, 1] (by decide) rfl)⟩) hS dJ7_copyOf_1904c_9 (Nat.le_of_ble_eq_true rfl) (Nat.le_of_ble_eq_true rfl)

set_option maxHeartbeats 4000000 in
set_option maxRecDepth 100000 in
/-- grow(n + 1) of a full row -/
theorem m_Jx4a65c_grow_92f84 (l : Launch) (D : va_G) (li : Nat) (mc : Int32) (ed n : Nat) (cO : ClassId) (fr : Nat → Option Nat) (h2 : 2 ≤ n) (hn : n ≤ 512) (sz : Nat)  : Met l yJx4a65c_grow_92f84 wsJx4a65c_grow_92f84 ({ frames := 3, cells := 1, slots := 800, locals := 104 }) (zq D [(li, .inr (0, [.int mc, .ref ed, .int (nI n)])), (ed, .inl (cO, n, .inr (.inr (.inr (.inr fr)))))] [(cO, .object "java/lang/Object")] sz [.ref li, .int (nI (n + 1))] (fun U H => EL (va_A [(li, .inr (0, [.int mc, .ref ed, .int (nI n)])), (ed, .inl (cO, n, .inr (.inr (.inr (.inr fr)))))] sz) fr n U H)) (va_Qr (fun _ : Unit => True) (fun _ (q : Nat) t9 => va_P D vwCl [(li, .inr (0, [.int mc, .ref q, .int (nI n)])), (ed, .inl (cO, n, .inr (.inr (.inr (.inr fr))))), (q, .inl (cO, (n + n / 2), .inr (.inr (.inr (.inr (va_cpy fr (fun _ => none) 0 0 n))))))] t9.heap ∧ va_K D vwCl [(cO, .object "java/lang/Object")] t9 ∧ va_D (va_A [(li, .inr (0, [.int mc, .ref ed, .int (nI n)])), (ed, .inl (cO, n, .inr (.inr (.inr (.inr fr)))))] sz) [(li, .inr (0, [.int mc, .ref q, .int (nI n)])), (ed, .inl (cO, n, .inr (.inr (.inr (.inr fr))))), (q, .inl (cO, (n + n / 2), .inr (.inr (.inr (.inr (va_cpy fr (fun _ => none) 0 0 n))))))]) (va_A [(li, .inr (0, [.int mc, .ref ed, .int (nI n)])), (ed, .inl (cO, n, .inr (.inr (.inr (.inr fr)))))] sz)) 1 800 (va_A [(li, .inr (0, [.int mc, .ref ed, .int (nI n)])), (ed, .inl (cO, n, .inr (.inr (.inr (.inr fr)))))] sz) := by
  refine zmq (cc := cJx4a65c_grow_92f84) (maxL := 4) (ret := (some (.array (.object "java/lang/Object")))) (by decide) rfl (Nat.le_of_ble_eq_true rfl) ?_
  intro p e s m below meth c ls A hAe hsz hin hx hb hml hr hlocks hown hts hP hK hG hD hA hS hX hl
  subst hsz
  rw [← hAe] at hX
  have hl : lv_has ls 4 [(0, .ref li), (1, .int (nI (n + 1)))] := hl
  have k_0 := hts (.fieldLink RJx4a65c 9 "java/util/ArrayList" "elementData" "[Ljava/lang/Object;") (List.mem_of_getElem? (i := 1) rfl)
  have i_RJx4a65c : ∀ w ∈ u_ws RJx4a65c TJx4a65c 3, w ∈ wsJx4a65c_grow_92f84 := by decide +kernel
  refine lv_aload_n hx hb dJx4a65c_grow_92f84_0 rfl (lv_at hl 0 rfl) ?_
  refine va_get (D := D) (ci := 0) (v := .ref ed) (C := RJx4a65c) (T := TJx4a65c) (N := 3) hx hb hts i_RJx4a65c hown hK hP 0 rfl rfl 1 (by decide) k_0 (fun _ h9 => h9) rfl dJx4a65c_grow_92f84_1 ?_
  refine va_alen (D := D) (cl := vwCl) hx hb hK hP 1 0 rfl rfl (v := nI n) rfl dJx4a65c_grow_92f84_4 ?_
  refine lv_istore_n (lv' := [(2, .int (nI n)), (0, .ref li), (1, .int (nI (n + 1)))]) hx hb dJx4a65c_grow_92f84_5 rfl hl (by decide) rfl (fun ls hl => ?_)
  refine lv_iload_n hx hb dJx4a65c_grow_92f84_6 rfl (lv_at hl 0 rfl) ?_
  refine lv_if_gt (tgt := 20) hx hb dJx4a65c_grow_92f84_7 (by decide) (fun _ => ?_) (fun h9 => absurd ((nI_ltI (a := 0) (b := n) (by omega) (by omega)).mpr (by omega)) h9)
  refine lv_iload_n hx hb dJx4a65c_grow_92f84_20 rfl (lv_at hl 0 rfl) ?_
  refine lv_iload_n hx hb dJx4a65c_grow_92f84_21 rfl (lv_at hl 2 rfl) ?_
  refine lv_iload_n hx hb dJx4a65c_grow_92f84_22 rfl (lv_at hl 0 rfl) ?_
  refine zx_isub (v := nI 1) hx hb dJx4a65c_grow_92f84_23 ((pk_sub (by omega)).trans (congrArg nI (by omega))) ?_
  refine lv_iload_n hx hb dJx4a65c_grow_92f84_24 rfl (lv_at hl 0 rfl) ?_
  refine lv_iconst (v := nI 1) hx hb dJx4a65c_grow_92f84_25 (by decide) ?_
  refine lv_ishr hx hb dJx4a65c_grow_92f84_26 ?_
  refine lv_topi (fun z_26 ez_26 => ?_)
  have ez_26 : z_26 = nI (n / 2) := ez_26.trans (a_shr (by omega))
  subst ez_26
  refine vp_callSi (W.runS (As := [.int (nI n), .int (nI 1), .int (nI (n / 2))]) (rest := []) ⟨hx, hb, hml, hown, hts⟩ (m_J8_newLength_cabcc l n (by first | omega | assumption) (by first | omega | assumption)) (va_cwS 3 hts gJx4a65c_grow_92f84_J8_newLength_cabcc rfl rfl rfl (by decide +kernel) ⟨Nat.le_of_ble_eq_true rfl, Nat.le_of_ble_eq_true rfl⟩) z0_S rfl rfl hl.1 rfl (lv_room (Nat.le_of_ble_eq_true rfl)) dJx4a65c_grow_92f84_27 ⟨Nat.le_of_ble_eq_true rfl, Nat.le_of_ble_eq_true rfl⟩) (fun r_1 e_r_1 => ?_)
  replace e_r_1 := e_r_1.symm; subst e_r_1
  refine lv_istore_n (lv' := [(3, .int (nI (n + n / 2))), (2, .int (nI n)), (0, .ref li), (1, .int (nI (n + 1)))]) hx hb dJx4a65c_grow_92f84_30 rfl hl (by decide) rfl (fun ls hl => ?_)
  refine lv_aload_n hx hb dJx4a65c_grow_92f84_31 rfl (lv_at hl 2 rfl) ?_
  refine lv_aload_n hx hb dJx4a65c_grow_92f84_32 rfl (lv_at hl 2 rfl) ?_
  refine va_get (D := D) (ci := 0) (v := .ref ed) (C := RJx4a65c) (T := TJx4a65c) (N := 3) hx hb hts i_RJx4a65c hown hK hP 0 rfl rfl 1 (by decide) k_0 (fun _ h9 => h9) rfl dJx4a65c_grow_92f84_33 ?_
  refine lv_iload_n hx hb dJx4a65c_grow_92f84_36 rfl (lv_at hl 0 rfl) ?_
  have hF_3 := va_free (wc := [(ed, .inl (cO, n, .inr (.inr (.inr (.inr fr)))))]) hD hS hA [1] rfl
  refine va_callr (va_runS (As := [.ref ed, .int (nI (n + n / 2))]) (rest := [.ref li]) ⟨hx, hb, hml, hown, hts⟩ (m_J7_copyOf_1904c l D ed n cO fr (n + n / 2) (by omega) (by omega) _) (va_cwS 2 hts gJx4a65c_grow_92f84_J7_copyOf_1904c rfl rfl rfl (by decide +kernel) ⟨Nat.le_of_ble_eq_true rfl, Nat.le_of_ble_eq_true rfl⟩) (zq_S XM.el (hP.sub (ws' := [(ed, .inl (cO, n, .inr (.inr (.inr (.inr fr)))))]) [1] rfl) (hK.sub (tys' := [(cO, .object "java/lang/Object")]) [0] rfl) (hD.sub (ws' := [(ed, .inl (cO, n, .inr (.inr (.inr (.inr fr)))))]) [1] (by decide) rfl) hG (hX.go hS (va_free (wc := [(ed, .inl (cO, n, .inr (.inr (.inr (.inr fr)))))]) hD hS hA [1] rfl))) rfl rfl hl.1 rfl (lv_room (Nat.le_of_ble_eq_true rfl)) dJx4a65c_grow_92f84_37 ⟨Nat.le_of_ble_eq_true rfl, Nat.le_of_ble_eq_true rfl⟩) hS (fun q _ h => hF_3 q h) hF_3 (fun u q__2 t1 H locs ht1 hvm hw hB hz1 hk1 hS => ?_)
  obtain ⟨hP1, hK1, hD1⟩ := hB
  rw [ht1] at hP1
  have hK1 := va_K.moved hvm.symm hK1
  obtain ⟨hP, hD⟩ := va_join (wr := [(li, .inr (0, [.int mc, .ref ed, .int (nI n)]))]) (w1 := [(ed, .inl (cO, n, .inr (.inr (.inr (.inr fr))))), (q__2, .inl (cO, (n + n / 2), .inr (.inr (.inr (.inr (va_cpy fr (fun _ => none) 0 0 n))))))]) hP hD [1] [0] rfl rfl (by decide) (by decide) hk1 hF_3 hP1 hD1
  have hP : va_P D vwCl [(li, .inr (0, [.int mc, .ref ed, .int (nI n)])), (ed, .inl (cO, n, .inr (.inr (.inr (.inr fr))))), (q__2, .inl (cO, (n + n / 2), .inr (.inr (.inr (.inr (va_cpy fr (fun _ => none) 0 0 n))))))] H := hP
  have hD : va_D A [(li, .inr (0, [.int mc, .ref ed, .int (nI n)])), (ed, .inl (cO, n, .inr (.inr (.inr (.inr fr))))), (q__2, .inl (cO, (n + n / 2), .inr (.inr (.inr (.inr (va_cpy fr (fun _ => none) 0 0 n))))))] := hD
  refine W.widen (k := 1) (n := 800) (by decide) (by decide) ?_
  refine lv_dup_x1 hx hb dJx4a65c_grow_92f84_40 rfl rfl ?_
  refine va_put (D := D) (ci := 0) (v := .ref q__2) (ty := .array (.object "java/lang/Object")) (C := RJx4a65c) (T := TJx4a65c) (N := 3) hx hb hts i_RJx4a65c tyJx4a65c tyJx4a65c_ok nmJx4a65c hown hK hP hD hS 0 rfl rfl 1 (by decide) k_0 (fun _ h9 => h9) rfl (by decide +kernel) rfl rfl (Nat.le_of_ble_eq_true rfl) dJx4a65c_grow_92f84_41 (fun H locs hP hD hS => ?_)
  have hP : va_P D vwCl [(li, .inr (0, [.int mc, .ref q__2, .int (nI n)])), (ed, .inl (cO, n, .inr (.inr (.inr (.inr fr))))), (q__2, .inl (cO, (n + n / 2), .inr (.inr (.inr (.inr (va_cpy fr (fun _ => none) 0 0 n))))))] H := hP
  have hD : va_D A [(li, .inr (0, [.int mc, .ref q__2, .int (nI n)])), (ed, .inl (cO, n, .inr (.inr (.inr (.inr fr))))), (q__2, .inl (cO, (n + n / 2), .inr (.inr (.inr (.inr (va_cpy fr (fun _ => none) 0 0 n))))))] := hD
  subst hAe
  exact zretBr hx hb hr (Or.inr ⟨_, rfl⟩) hlocks (fun t9 ht hv => ⟨by rw [ht]; exact (hP.sub (ws' := [(li, .inr (0, [.int mc, .ref q__2, .int (nI n)])), (ed, .inl (cO, n, .inr (.inr (.inr (.inr fr))))), (q__2, .inl (cO, (n + n / 2), .inr (.inr (.inr (.inr (va_cpy fr (fun _ => none) 0 0 n))))))]) [0, 1, 2] rfl), va_K.moved hv (hK.sub [0] rfl), (hD.sub (ws' := [(li, .inr (0, [.int mc, .ref q__2, .int (nI n)])), (ed, .inl (cO, n, .inr (.inr (.inr (.inr fr))))), (q__2, .inl (cO, (n + n / 2), .inr (.inr (.inr (.inr (va_cpy fr (fun _ => none) 0 0 n))))))]) [0, 1, 2] (by decide) rfl)⟩) hS dJx4a65c_grow_92f84_44 (Nat.le_of_ble_eq_true rfl) (Nat.le_of_ble_eq_true rfl)
