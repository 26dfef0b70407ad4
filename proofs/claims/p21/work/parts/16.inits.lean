set_option maxHeartbeats 4000000 in
set_option maxRecDepth 100000 in
/-- Order() -/
theorem m_X1_init (l : Launch) (od : Nat)  : Met l yX1_init wsX1_init ({ frames := 1, cells := 0, slots := 0, locals := 20 }) (z0 [.ref od]) (va_Sv (fun _ => True)) 0 0 (fun _ => False) := by
  refine zm0 (cc := cX1_init) (maxL := 1) (ret := none) (by decide) rfl (Nat.le_of_ble_eq_true rfl) ?_
  intro p e s m below meth c ls hx hb hml hr hlocks hown hts hl
  have hl : lv_has ls 1 [(0, .ref od)] := hl
  have k_0 := hts (.methodLink RX1 1 objectInit) (List.mem_of_getElem? (i := 1) rfl)
  have k_1 := hts (.instanceMethod objectInit) (List.mem_of_getElem? (i := 2) rfl)
  have k_2 := hts (.code objectInit ⟨#[0xb1]⟩ 1 none) (List.mem_of_getElem? (i := 3) rfl)
  refine lv_aload_n hx hb dX1_init_0 rfl (lv_at hl 0 rfl) ?_
  refine W.objInit hx hb hown k_0 k_1 k_2 rfl (by rw [hml]; exact hl.1) rfl dX1_init_1 (Nat.le_of_ble_eq_true rfl) (Nat.le_of_ble_eq_true rfl) ?_
  refine W.eq (g2 := F0 m 4 ls []) rfl ?_
  exact W.vret hx hb hr (fun t ht _ => ⟨rfl, trivial, ht⟩) (fun _ h => nomatch h) dX1_init_4 hlocks

set_option maxHeartbeats 4000000 in
set_option maxRecDepth 100000 in
/-- AbstractCollection() -/
theorem m_Jxa1e45_init_da8c8 (l : Launch) (od : Nat)  : Met l yJxa1e45_init_da8c8 wsJxa1e45_init_da8c8 ({ frames := 1, cells := 0, slots := 0, locals := 20 }) (z0 [.ref od]) (va_Sv (fun _ => True)) 0 0 (fun _ => False) := by
  refine zm0 (cc := cJxa1e45_init_da8c8) (maxL := 1) (ret := none) (by decide) rfl (Nat.le_of_ble_eq_true rfl) ?_
  intro p e s m below meth c ls hx hb hml hr hlocks hown hts hl
  have hl : lv_has ls 1 [(0, .ref od)] := hl
  have k_0 := hts (.methodLink RJxa1e45 1 objectInit) (List.mem_of_getElem? (i := 1) rfl)
  have k_1 := hts (.instanceMethod objectInit) (List.mem_of_getElem? (i := 2) rfl)
  have k_2 := hts (.code objectInit ⟨#[0xb1]⟩ 1 none) (List.mem_of_getElem? (i := 3) rfl)
  refine lv_aload_n hx hb dJxa1e45_init_da8c8_0 rfl (lv_at hl 0 rfl) ?_
  refine W.objInit hx hb hown k_0 k_1 k_2 rfl (by rw [hml]; exact hl.1) rfl dJxa1e45_init_da8c8_1 (Nat.le_of_ble_eq_true rfl) (Nat.le_of_ble_eq_true rfl) ?_
  refine W.eq (g2 := F0 m 4 ls []) rfl ?_
  exact W.vret hx hb hr (fun t ht _ => ⟨rfl, trivial, ht⟩) (fun _ h => nomatch h) dJxa1e45_init_da8c8_4 hlocks

set_option maxHeartbeats 4000000 in
set_option maxRecDepth 100000 in
/-- Contract(premium, sum, rate, fund) -/
theorem m_X0_init (l : Launch) (D : va_G) (co : Nat) (pm sm rt : Int32) (fu : Nat)  (sz : Nat)  : Met l yX0_init wsX0_init ({ frames := 1, cells := 1, slots := 3, locals := 20 }) (zq D [(co, .inr (1, [.int (nI 0), .int (nI 0), .int (nI 0), .int (nI 0), .null, .long 0, .int (nI 0), .int (nI 0)]))] [] sz [.ref co, .int pm, .int sm, .int rt, .int (nI fu)] (fun U H => True)) (va_Qv (fun _ : Unit => True) (fun _ t9 => ∃ (ac : Nat) (cJ : ClassId), va_P D vwCl [(co, .inr (1, [.int pm, .int sm, .int rt, .int (nI fu), .ref ac, .long 0, .int (nI 0), .int (nI 1)])), (ac, .inl (cJ, 3, .inr (.inl (fun _ => 0))))] t9.heap ∧ va_K D vwCl [(cJ, .long)] t9 ∧ va_D (va_A [(co, .inr (1, [.int (nI 0), .int (nI 0), .int (nI 0), .int (nI 0), .null, .long 0, .int (nI 0), .int (nI 0)]))] sz) [(co, .inr (1, [.int pm, .int sm, .int rt, .int (nI fu), .ref ac, .long 0, .int (nI 0), .int (nI 1)])), (ac, .inl (cJ, 3, .inr (.inl (fun _ => 0))))]) (va_A [(co, .inr (1, [.int (nI 0), .int (nI 0), .int (nI 0), .int (nI 0), .null, .long 0, .int (nI 0), .int (nI 0)]))] sz)) 1 3 (va_A [(co, .inr (1, [.int (nI 0), .int (nI 0), .int (nI 0), .int (nI 0), .null, .long 0, .int (nI 0), .int (nI 0)]))] sz) := by
  refine zmq (cc := cX0_init) (maxL := 5) (ret := none) (by decide) rfl (Nat.le_of_ble_eq_true rfl) ?_
  intro p e s m below meth c ls A hAe hsz hin hx hb hml hr hlocks hown hts hP hK hG hD hA hS hX hl
  subst hsz
  skip
  have hl : lv_has ls 5 [(0, .ref co), (1, .int pm), (2, .int sm), (3, .int rt), (4, .int (nI fu))] := hl
  have k_0 := hts (.methodLink RX0 3 objectInit) (List.mem_of_getElem? (i := 1) rfl)
  have k_1 := hts (.instanceMethod objectInit) (List.mem_of_getElem? (i := 2) rfl)
  have k_2 := hts (.code objectInit ⟨#[0xb1]⟩ 1 none) (List.mem_of_getElem? (i := 3) rfl)
  have k_3 := hts (.arrayClass .long) (List.mem_of_getElem? (i := 4) rfl)
  have k_4 := hts (.fieldLink RX0 9 "UnitContracts$Contract" "accumulation" "[J") (List.mem_of_getElem? (i := 5) rfl)
  have i_RX0 : ∀ w ∈ u_ws RX0 TX0 8, w ∈ wsX0_init := by decide +kernel
  have k_6 := hts (.fieldLink RX0 15 "UnitContracts$Contract" "alive" "Z") (List.mem_of_getElem? (i := 6) rfl)
  have k_7 := hts (.fieldLink RX0 19 "UnitContracts$Contract" "premium" "I") (List.mem_of_getElem? (i := 7) rfl)
  have k_8 := hts (.fieldLink RX0 23 "UnitContracts$Contract" "sum" "I") (List.mem_of_getElem? (i := 8) rfl)
  have k_9 := hts (.fieldLink RX0 26 "UnitContracts$Contract" "rate" "I") (List.mem_of_getElem? (i := 9) rfl)
  have k_10 := hts (.fieldLink RX0 29 "UnitContracts$Contract" "fund" "I") (List.mem_of_getElem? (i := 10) rfl)
  refine lv_aload_n hx hb dX0_init_0 rfl (lv_at hl 0 rfl) ?_
  refine W.objInit hx hb hown k_0 k_1 k_2 rfl (by rw [hml]; exact hl.1) rfl dX0_init_1 (Nat.le_of_ble_eq_true rfl) (Nat.le_of_ble_eq_true rfl) ?_
  refine W.eq (g2 := F0 m 4 ls []) rfl ?_
  refine lv_aload_n hx hb dX0_init_4 rfl (lv_at hl 0 rfl) ?_
  refine lv_iconst (v := nI 3) hx hb dX0_init_5 (by decide) ?_
  refine va_newa (atype := .long) (ty := .long) (N' := 3) (a0 := (3, .inr (.inl (fun _ => 0)))) hx hb k_3 rfl hK hP hD hS hA (fun _ => rfl) (by decide) (by decide) (by decide) (Nat.le_of_ble_eq_true rfl) (Nat.le_of_ble_eq_true rfl) dX0_init_6 (fun q_1 cN_2 H hK hP hD hS => ?_)
  have hK : va_K D vwCl [(cN_2, .long)] s := hK
  have hP : va_P D vwCl [(co, .inr (1, [.int (nI 0), .int (nI 0), .int (nI 0), .int (nI 0), .null, .long 0, .int (nI 0), .int (nI 0)])), (q_1, .inl (cN_2, 3, .inr (.inl (fun _ => 0))))] H := hP
  have hD : va_D A [(co, .inr (1, [.int (nI 0), .int (nI 0), .int (nI 0), .int (nI 0), .null, .long 0, .int (nI 0), .int (nI 0)])), (q_1, .inl (cN_2, 3, .inr (.inl (fun _ => 0))))] := hD
  refine W.widen (k := 1) (n := 3) (by decide) (by decide) ?_
  refine va_putF (D := D) (ci := 1) (v := .ref q_1) (ty := .array .long) (C := RX0) (T := TX0) (N := 8) hx hb hts i_RX0 tyX0 tyX0_ok nmX0 hown hK hP hD hS 0 rfl rfl 4 (by decide) k_4 (fun _ h9 => h9) rfl hin rfl (by decide +kernel) rfl rfl (Nat.le_of_ble_eq_true rfl) dX0_init_8 (fun H locs hP hD hS => ?_)
  have hP : va_P D vwCl [(co, .inr (1, [.int (nI 0), .int (nI 0), .int (nI 0), .int (nI 0), .ref q_1, .long 0, .int (nI 0), .int (nI 0)])), (q_1, .inl (cN_2, 3, .inr (.inl (fun _ => 0))))] H := hP
  have hD : va_D A [(co, .inr (1, [.int (nI 0), .int (nI 0), .int (nI 0), .int (nI 0), .ref q_1, .long 0, .int (nI 0), .int (nI 0)])), (q_1, .inl (cN_2, 3, .inr (.inl (fun _ => 0))))] := hD
  refine lv_aload_n hx hb dX0_init_11 rfl (lv_at hl 0 rfl) ?_
  refine lv_iconst (v := nI 1) hx hb dX0_init_12 (by decide) ?_
  refine va_put (D := D) (ci := 1) (v := .int (nI 1)) (ty := .boolean) (C := RX0) (T := TX0) (N := 8) hx hb hts i_RX0 tyX0 tyX0_ok nmX0 hown hK hP hD hS 0 rfl rfl 7 (by decide) k_6 (fun _ h9 => h9) rfl (by decide +kernel) rfl rfl (Nat.le_of_ble_eq_true rfl) dX0_init_13 (fun H locs hP hD hS => ?_)
  have hP : va_P D vwCl [(co, .inr (1, [.int (nI 0), .int (nI 0), .int (nI 0), .int (nI 0), .ref q_1, .long 0, .int (nI 0), .int (nI 1)])), (q_1, .inl (cN_2, 3, .inr (.inl (fun _ => 0))))] H := hP
  have hD : va_D A [(co, .inr (1, [.int (nI 0), .int (nI 0), .int (nI 0), .int (nI 0), .ref q_1, .long 0, .int (nI 0), .int (nI 1)])), (q_1, .inl (cN_2, 3, .inr (.inl (fun _ => 0))))] := hD
  refine lv_aload_n hx hb dX0_init_16 rfl (lv_at hl 0 rfl) ?_
  refine lv_iload_n hx hb dX0_init_17 rfl (lv_at hl 1 rfl) ?_
  refine va_putF (D := D) (ci := 1) (v := .int pm) (ty := .int) (C := RX0) (T := TX0) (N := 8) hx hb hts i_RX0 tyX0 tyX0_ok nmX0 hown hK hP hD hS 0 rfl rfl 0 (by decide) k_7 (fun _ h9 => h9) rfl hin rfl (by decide +kernel) rfl rfl (Nat.le_of_ble_eq_true rfl) dX0_init_18 (fun H locs hP hD hS => ?_)
  have hP : va_P D vwCl [(co, .inr (1, [.int pm, .int (nI 0), .int (nI 0), .int (nI 0), .ref q_1, .long 0, .int (nI 0), .int (nI 1)])), (q_1, .inl (cN_2, 3, .inr (.inl (fun _ => 0))))] H := hP
  have hD : va_D A [(co, .inr (1, [.int pm, .int (nI 0), .int (nI 0), .int (nI 0), .ref q_1, .long 0, .int (nI 0), .int (nI 1)])), (q_1, .inl (cN_2, 3, .inr (.inl (fun _ => 0))))] := hD
  refine lv_aload_n hx hb dX0_init_21 rfl (lv_at hl 0 rfl) ?_
  refine lv_iload_n hx hb dX0_init_22 rfl (lv_at hl 2 rfl) ?_
  refine va_putF (D := D) (ci := 1) (v := .int sm) (ty := .int) (C := RX0) (T := TX0) (N := 8) hx hb hts i_RX0 tyX0 tyX0_ok nmX0 hown hK hP hD hS 0 rfl rfl 1 (by decide) k_8 (fun _ h9 => h9) rfl hin rfl (by decide +kernel) rfl rfl (Nat.le_of_ble_eq_true rfl) dX0_init_23 (fun H locs hP hD hS => ?_)
  have hP : va_P D vwCl [(co, .inr (1, [.int pm, .int sm, .int (nI 0), .int (nI 0), .ref q_1, .long 0, .int (nI 0), .int (nI 1)])), (q_1, .inl (cN_2, 3, .inr (.inl (fun _ => 0))))] H := hP
  have hD : va_D A [(co, .inr (1, [.int pm, .int sm, .int (nI 0), .int (nI 0), .ref q_1, .long 0, .int (nI 0), .int (nI 1)])), (q_1, .inl (cN_2, 3, .inr (.inl (fun _ => 0))))] := hD
  refine lv_aload_n hx hb dX0_init_26 rfl (lv_at hl 0 rfl) ?_
  refine lv_iload_n hx hb dX0_init_27 rfl (lv_at hl 3 rfl) ?_
  refine va_putF (D := D) (ci := 1) (v := .int rt) (ty := .int) (C := RX0) (T := TX0) (N := 8) hx hb hts i_RX0 tyX0 tyX0_ok nmX0 hown hK hP hD hS 0 rfl rfl 2 (by decide) k_9 (fun _ h9 => h9) rfl hin rfl (by decide +kernel) rfl rfl (Nat.le_of_ble_eq_true rfl) dX0_init_28 (fun H locs hP hD hS => ?_)
  have hP : va_P D vwCl [(co, .inr (1, [.int pm, .int sm, .int rt, .int (nI 0), .ref q_1, .long 0, .int (nI 0), .int (nI 1)])), (q_1, .inl (cN_2, 3, .inr (.inl (fun _ => 0))))] H := hP
  have hD : va_D A [(co, .inr (1, [.int pm, .int sm, .int rt, .int (nI 0), .ref q_1, .long 0, .int (nI 0), .int (nI 1)])), (q_1, .inl (cN_2, 3, .inr (.inl (fun _ => 0))))] := hD
  refine lv_aload_n hx hb dX0_init_31 rfl (lv_at hl 0 rfl) ?_
  refine lv_iload hx hb dX0_init_32 (lv_at hl 4 rfl) ?_
  refine va_putF (D := D) (ci := 1) (v := .int (nI fu)) (ty := .int) (C := RX0) (T := TX0) (N := 8) hx hb hts i_RX0 tyX0 tyX0_ok nmX0 hown hK hP hD hS 0 rfl rfl 3 (by decide) k_10 (fun _ h9 => h9) rfl hin rfl (by decide +kernel) rfl rfl (Nat.le_of_ble_eq_true rfl) dX0_init_34 (fun H locs hP hD hS => ?_)
  have hP : va_P D vwCl [(co, .inr (1, [.int pm, .int sm, .int rt, .int (nI fu), .ref q_1, .long 0, .int (nI 0), .int (nI 1)])), (q_1, .inl (cN_2, 3, .inr (.inl (fun _ => 0))))] H := hP
  have hD : va_D A [(co, .inr (1, [.int pm, .int sm, .int rt, .int (nI fu), .ref q_1, .long 0, .int (nI 0), .int (nI 1)])), (q_1, .inl (cN_2, 3, .inr (.inl (fun _ => 0))))] := hD
  subst hAe
  exact zretB hx hb hr hlocks (fun t9 ht hv => ⟨q_1, cN_2, by rw [ht]; exact (hP.sub (ws' := [(co, .inr (1, [.int pm, .int sm, .int rt, .int (nI fu), .ref q_1, .long 0, .int (nI 0), .int (nI 1)])), (q_1, .inl (cN_2, 3, .inr (.inl (fun _ => 0))))]) [0, 1] rfl), va_K.moved hv (hK.sub [0] rfl), (hD.sub (ws' := [(co, .inr (1, [.int pm, .int sm, .int rt, .int (nI fu), .ref q_1, .long 0, .int (nI 0), .int (nI 1)])), (q_1, .inl (cN_2, 3, .inr (.inl (fun _ => 0))))]) [0, 1] (by decide) rfl)⟩) hS dX0_init_37 (Nat.le_of_ble_eq_true rfl) (Nat.le_of_ble_eq_true rfl)

set_option maxHeartbeats 4000000 in
set_option maxRecDepth 100000 in
/-- PremiumOrder(contract) -/
theorem m_X2_init (l : Launch) (D : va_G) (od co : Nat)  (sz : Nat)  : Met l yX2_init wsX2_init ({ frames := 2, cells := 0, slots := 0, locals := 40 }) (z2 D [(od, .inr (2, [.null]))] [] sz [.ref od, .ref co]) (va_Qv (fun _ : Unit => True) (zB D [] [(od, .inr (2, [.ref co]))] (va_A [(od, .inr (2, [.null]))] sz)) (va_A [(od, .inr (2, [.null]))] sz)) 0 0 (va_A [(od, .inr (2, [.null]))] sz) := by
  refine zm2 (cc := cX2_init) (maxL := 2) (ret := none) (by decide) rfl (Nat.le_of_ble_eq_true rfl) ?_
  intro p e s m below meth c ls A hAe hsz hin hx hb hml hr hlocks hown hts hP hK hG hD hA hS hl
  subst hsz
  have hl : lv_has ls 2 [(0, .ref od), (1, .ref co)] := hl
  have k_0 := hts (.initialized RX1) (List.mem_of_getElem? (i := 4) rfl)
  have k_1 := hts (.methodLink RX2 1 yX1_init) (List.mem_of_getElem? (i := 2) rfl)
  have k_2 := hts (.instanceMethod yX1_init) (List.mem_of_getElem? (i := 3) rfl)
  have k_3 := hts (.fieldLink RX2 7 "UnitContracts$PremiumOrder" "contract" "LUnitContracts$Contract;") (List.mem_of_getElem? (i := 1) rfl)
  have i_RX2 : ∀ w ∈ u_ws RX2 TX2 1, w ∈ wsX2_init := by decide +kernel
  refine lv_aload_n hx hb dX2_init_0 rfl (lv_at hl 0 rfl) ?_
  refine va_csv (W.runI (As := []) (rest := []) ⟨hx, hb, hml, hown, hts⟩ (m_X1_init l od) (cwI 0 hts gX2_init_X1_init rfl rfl rfl k_0 k_1 k_2 rfl (by decide +kernel) ⟨Nat.le_of_ble_eq_true rfl, Nat.le_of_ble_eq_true rfl⟩) z0_S rfl rfl hl.1 rfl (lv_room (Nat.le_of_ble_eq_true rfl)) dX2_init_1 ⟨Nat.le_of_ble_eq_true rfl, Nat.le_of_ble_eq_true rfl⟩) (fun _ => ?_)
  refine lv_aload_n hx hb dX2_init_4 rfl (lv_at hl 0 rfl) ?_
  refine lv_aload_n hx hb dX2_init_5 rfl (lv_at hl 1 rfl) ?_
  refine va_putF (D := D) (ci := 2) (v := .ref co) (ty := .object "UnitContracts$Contract") (C := RX2) (T := TX2) (N := 1) hx hb hts i_RX2 tyX2 tyX2_ok nmX2 hown hK hP hD hS 0 rfl rfl 0 (by decide) k_3 (fun _ h9 => h9) rfl hin rfl (by decide +kernel) rfl rfl (Nat.le_of_ble_eq_true rfl) dX2_init_6 (fun H locs hP hD hS => ?_)
  have hP : va_P D vwCl [(od, .inr (2, [.ref co]))] H := hP
  have hD : va_D A [(od, .inr (2, [.ref co]))] := hD
  subst hAe
  exact zretv (D := D) (wf := [(od, .inr (2, [.ref co]))]) hx hb hr hlocks (hP.sub [0] rfl) hK (hD.sub [0] (by decide) rfl) hS dX2_init_9 (Nat.le_of_ble_eq_true rfl) (Nat.le_of_ble_eq_true rfl)

set_option maxHeartbeats 4000000 in
set_option maxRecDepth 100000 in
/-- SwitchOrder(contract, from, to, percent) -/
theorem m_X4_init (l : Launch) (D : va_G) (od co fr tt : Nat) (pct : Int32)  (sz : Nat)  : Met l yX4_init wsX4_init ({ frames := 2, cells := 0, slots := 0, locals := 40 }) (z2 D [(od, .inr (4, [.null, .int (nI 0), .int (nI 0), .int (nI 0)]))] [] sz [.ref od, .ref co, .int (nI fr), .int (nI tt), .int pct]) (va_Qv (fun _ : Unit => True) (zB D [] [(od, .inr (4, [.ref co, .int (nI fr), .int (nI tt), .int pct]))] (va_A [(od, .inr (4, [.null, .int (nI 0), .int (nI 0), .int (nI 0)]))] sz)) (va_A [(od, .inr (4, [.null, .int (nI 0), .int (nI 0), .int (nI 0)]))] sz)) 0 0 (va_A [(od, .inr (4, [.null, .int (nI 0), .int (nI 0), .int (nI 0)]))] sz) := by
  refine zm2 (cc := cX4_init) (maxL := 5) (ret := none) (by decide) rfl (Nat.le_of_ble_eq_true rfl) ?_
  intro p e s m below meth c ls A hAe hsz hin hx hb hml hr hlocks hown hts hP hK hG hD hA hS hl
  subst hsz
  have hl : lv_has ls 5 [(0, .ref od), (1, .ref co), (2, .int (nI fr)), (3, .int (nI tt)), (4, .int pct)] := hl
  have k_0 := hts (.initialized RX1) (List.mem_of_getElem? (i := 7) rfl)
  have k_1 := hts (.methodLink RX4 1 yX1_init) (List.mem_of_getElem? (i := 5) rfl)
  have k_2 := hts (.instanceMethod yX1_init) (List.mem_of_getElem? (i := 6) rfl)
  have k_3 := hts (.fieldLink RX4 7 "UnitContracts$SwitchOrder" "contract" "LUnitContracts$Contract;") (List.mem_of_getElem? (i := 1) rfl)
  have i_RX4 : ∀ w ∈ u_ws RX4 TX4 4, w ∈ wsX4_init := by decide +kernel
  have k_5 := hts (.fieldLink RX4 13 "UnitContracts$SwitchOrder" "from" "I") (List.mem_of_getElem? (i := 2) rfl)
  have k_6 := hts (.fieldLink RX4 17 "UnitContracts$SwitchOrder" "to" "I") (List.mem_of_getElem? (i := 3) rfl)
  have k_7 := hts (.fieldLink RX4 20 "UnitContracts$SwitchOrder" "percent" "I") (List.mem_of_getElem? (i := 4) rfl)
  refine lv_aload_n hx hb dX4_init_0 rfl (lv_at hl 0 rfl) ?_
  refine va_csv (W.runI (As := []) (rest := []) ⟨hx, hb, hml, hown, hts⟩ (m_X1_init l od) (cwI 0 hts gX4_init_X1_init rfl rfl rfl k_0 k_1 k_2 rfl (by decide +kernel) ⟨Nat.le_of_ble_eq_true rfl, Nat.le_of_ble_eq_true rfl⟩) z0_S rfl rfl hl.1 rfl (lv_room (Nat.le_of_ble_eq_true rfl)) dX4_init_1 ⟨Nat.le_of_ble_eq_true rfl, Nat.le_of_ble_eq_true rfl⟩) (fun _ => ?_)
  refine lv_aload_n hx hb dX4_init_4 rfl (lv_at hl 0 rfl) ?_
  refine lv_aload_n hx hb dX4_init_5 rfl (lv_at hl 1 rfl) ?_
  refine va_putF (D := D) (ci := 4) (v := .ref co) (ty := .object "UnitContracts$Contract") (C := RX4) (T := TX4) (N := 4) hx hb hts i_RX4 tyX4 tyX4_ok nmX4 hown hK hP hD hS 0 rfl rfl 0 (by decide) k_3 (fun _ h9 => h9) rfl hin rfl (by decide +kernel) rfl rfl (Nat.le_of_ble_eq_true rfl) dX4_init_6 (fun H locs hP hD hS => ?_)
  have hP : va_P D vwCl [(od, .inr (4, [.ref co, .int (nI 0), .int (nI 0), .int (nI 0)]))] H := hP
  have hD : va_D A [(od, .inr (4, [.ref co, .int (nI 0), .int (nI 0), .int (nI 0)]))] := hD
  refine lv_aload_n hx hb dX4_init_9 rfl (lv_at hl 0 rfl) ?_
  refine lv_iload_n hx hb dX4_init_10 rfl (lv_at hl 2 rfl) ?_
  refine va_putF (D := D) (ci := 4) (v := .int (nI fr)) (ty := .int) (C := RX4) (T := TX4) (N := 4) hx hb hts i_RX4 tyX4 tyX4_ok nmX4 hown hK hP hD hS 0 rfl rfl 1 (by decide) k_5 (fun _ h9 => h9) rfl hin rfl (by decide +kernel) rfl rfl (Nat.le_of_ble_eq_true rfl) dX4_init_11 (fun H locs hP hD hS => ?_)
  have hP : va_P D vwCl [(od, .inr (4, [.ref co, .int (nI fr), .int (nI 0), .int (nI 0)]))] H := hP
  have hD : va_D A [(od, .inr (4, [.ref co, .int (nI fr), .int (nI 0), .int (nI 0)]))] := hD
  refine lv_aload_n hx hb dX4_init_14 rfl (lv_at hl 0 rfl) ?_
  refine lv_iload_n hx hb dX4_init_15 rfl (lv_at hl 3 rfl) ?_
  refine va_putF (D := D) (ci := 4) (v := .int (nI tt)) (ty := .int) (C := RX4) (T := TX4) (N := 4) hx hb hts i_RX4 tyX4 tyX4_ok nmX4 hown hK hP hD hS 0 rfl rfl 2 (by decide) k_6 (fun _ h9 => h9) rfl hin rfl (by decide +kernel) rfl rfl (Nat.le_of_ble_eq_true rfl) dX4_init_16 (fun H locs hP hD hS => ?_)
  have hP : va_P D vwCl [(od, .inr (4, [.ref co, .int (nI fr), .int (nI tt), .int (nI 0)]))] H := hP
  have hD : va_D A [(od, .inr (4, [.ref co, .int (nI fr), .int (nI tt), .int (nI 0)]))] := hD
  refine lv_aload_n hx hb dX4_init_19 rfl (lv_at hl 0 rfl) ?_
  refine lv_iload hx hb dX4_init_20 (lv_at hl 4 rfl) ?_
  refine va_putF (D := D) (ci := 4) (v := .int pct) (ty := .int) (C := RX4) (T := TX4) (N := 4) hx hb hts i_RX4 tyX4 tyX4_ok nmX4 hown hK hP hD hS 0 rfl rfl 3 (by decide) k_7 (fun _ h9 => h9) rfl hin rfl (by decide +kernel) rfl rfl (Nat.le_of_ble_eq_true rfl) dX4_init_22 (fun H locs hP hD hS => ?_)
  have hP : va_P D vwCl [(od, .inr (4, [.ref co, .int (nI fr), .int (nI tt), .int pct]))] H := hP
  have hD : va_D A [(od, .inr (4, [.ref co, .int (nI fr), .int (nI tt), .int pct]))] := hD
  subst hAe
  exact zretv (D := D) (wf := [(od, .inr (4, [.ref co, .int (nI fr), .int (nI tt), .int pct]))]) hx hb hr hlocks (hP.sub [0] rfl) hK (hD.sub [0] (by decide) rfl) hS dX4_init_25 (Nat.le_of_ble_eq_true rfl) (Nat.le_of_ble_eq_true rfl)

set_option maxHeartbeats 4000000 in
set_option maxRecDepth 100000 in
/-- Prices() -/
theorem m_X3_init (l : Launch) (D : va_G) (pr : Nat)  (sz : Nat)  : Met l yX3_init wsX3_init ({ frames := 1, cells := 1, slots := 6003, locals := 20 }) (zq D [(pr, .inr (3, [.null, .int (nI 0)]))] [] sz [.ref pr] (fun U H => True)) (va_Qv (fun _ : Unit => True) (fun _ t9 => ∃ (bd : Nat) (cI : ClassId), va_P D vwCl [(pr, .inr (3, [.ref bd, .int (nI 0)])), (bd, .inl (cI, 6003, .inl (upd (upd (upd (fun _ => 0) 0 (nI 1000)) 1 (nI 1000)) 2 (nI 1000))))] t9.heap ∧ va_K D vwCl [(cI, .int)] t9 ∧ va_D (va_A [(pr, .inr (3, [.null, .int (nI 0)]))] sz) [(pr, .inr (3, [.ref bd, .int (nI 0)])), (bd, .inl (cI, 6003, .inl (upd (upd (upd (fun _ => 0) 0 (nI 1000)) 1 (nI 1000)) 2 (nI 1000))))]) (va_A [(pr, .inr (3, [.null, .int (nI 0)]))] sz)) 1 6003 (va_A [(pr, .inr (3, [.null, .int (nI 0)]))] sz) := by
  refine zmq (cc := cX3_init) (maxL := 2) (ret := none) (by decide) rfl (Nat.le_of_ble_eq_true rfl) ?_
  intro p e s m below meth c ls A hAe hsz hin hx hb hml hr hlocks hown hts hP hK hG hD hA hS hX hl
  subst hsz
  skip
  have hl : lv_has ls 2 [(0, .ref pr)] := hl
  have k_0 := hts (.methodLink RX3 3 objectInit) (List.mem_of_getElem? (i := 1) rfl)
  have k_1 := hts (.instanceMethod objectInit) (List.mem_of_getElem? (i := 2) rfl)
  have k_2 := hts (.code objectInit ⟨#[0xb1]⟩ 1 none) (List.mem_of_getElem? (i := 3) rfl)
  have k_3 := hts (.arrayClass .int) (List.mem_of_getElem? (i := 4) rfl)
  have k_4 := hts (.fieldLink RX3 9 "UnitContracts$Prices" "bids" "[I") (List.mem_of_getElem? (i := 5) rfl)
  have i_RX3 : ∀ w ∈ u_ws RX3 TX3 2, w ∈ wsX3_init := by decide +kernel
  refine lv_aload_n hx hb dX3_init_0 rfl (lv_at hl 0 rfl) ?_
  refine W.objInit hx hb hown k_0 k_1 k_2 rfl (by rw [hml]; exact hl.1) rfl dX3_init_1 (Nat.le_of_ble_eq_true rfl) (Nat.le_of_ble_eq_true rfl) ?_
  refine W.eq (g2 := F0 m 4 ls []) rfl ?_
  refine lv_aload_n hx hb dX3_init_4 rfl (lv_at hl 0 rfl) ?_
  refine lv_sipush (v := nI 6003) hx hb dX3_init_5 (by decide) ?_
  refine va_newa (atype := .int) (ty := .int) (N' := 6003) (a0 := (6003, .inl (fun _ => 0))) hx hb k_3 rfl hK hP hD hS hA (fun _ => rfl) (by decide) (by decide) (by decide) (Nat.le_of_ble_eq_true rfl) (Nat.le_of_ble_eq_true rfl) dX3_init_8 (fun q_1 cN_2 H hK hP hD hS => ?_)
  have hK : va_K D vwCl [(cN_2, .int)] s := hK
  have hP : va_P D vwCl [(pr, .inr (3, [.null, .int (nI 0)])), (q_1, .inl (cN_2, 6003, .inl (fun _ => 0)))] H := hP
  have hD : va_D A [(pr, .inr (3, [.null, .int (nI 0)])), (q_1, .inl (cN_2, 6003, .inl (fun _ => 0)))] := hD
  refine W.widen (k := 1) (n := 6003) (by decide) (by decide) ?_
  refine va_putF (D := D) (ci := 3) (v := .ref q_1) (ty := .array .int) (C := RX3) (T := TX3) (N := 2) hx hb hts i_RX3 tyX3 tyX3_ok nmX3 hown hK hP hD hS 0 rfl rfl 0 (by decide) k_4 (fun _ h9 => h9) rfl hin rfl (by decide +kernel) rfl rfl (Nat.le_of_ble_eq_true rfl) dX3_init_10 (fun H locs hP hD hS => ?_)
  have hP : va_P D vwCl [(pr, .inr (3, [.ref q_1, .int (nI 0)])), (q_1, .inl (cN_2, 6003, .inl (fun _ => 0)))] H := hP
  have hD : va_D A [(pr, .inr (3, [.ref q_1, .int (nI 0)])), (q_1, .inl (cN_2, 6003, .inl (fun _ => 0)))] := hD
  refine lv_iconst (v := nI 0) hx hb dX3_init_13 (by decide) ?_
  refine lv_istore_n (lv' := [(1, .int (nI 0)), (0, .ref pr)]) hx hb dX3_init_14 rfl hl (by decide) rfl (fun ls hl => ?_)
  refine lv_iload_n hx hb dX3_init_15 rfl (lv_at hl 0 rfl) ?_
  refine lv_iconst (v := nI 3) hx hb dX3_init_16 (by decide) ?_
  refine lv_icmp_ge (tgt := 35) hx hb dX3_init_17 (by decide) (fun h9 => absurd h9 (by decide)) (fun _ => ?_)
  refine lv_aload_n hx hb dX3_init_20 rfl (lv_at hl 1 rfl) ?_
  refine va_get (D := D) (ci := 3) (v := .ref q_1) (C := RX3) (T := TX3) (N := 2) hx hb hts i_RX3 hown hK hP 0 rfl rfl 0 (by decide) k_4 (fun _ h9 => h9) rfl dX3_init_21 ?_
  refine lv_iload_n hx hb dX3_init_24 rfl (lv_at hl 0 rfl) ?_
  refine lv_sipush (v := nI 1000) hx hb dX3_init_25 (by decide) ?_
  refine zx_iast (D := D) hx hb hK hP hD hS 1 0 rfl rfl (by decide) (by decide) dX3_init_28 (fun H locs hP hD hS => ?_)
  have hP : va_P D vwCl [(pr, .inr (3, [.ref q_1, .int (nI 0)])), (q_1, .inl (cN_2, 6003, .inl (upd (fun _ => 0) 0 (nI 1000))))] H := hP
  have hD : va_D A [(pr, .inr (3, [.ref q_1, .int (nI 0)])), (q_1, .inl (cN_2, 6003, .inl (upd (fun _ => 0) 0 (nI 1000))))] := hD
  refine lv_iinc (v := nI 1) (lv' := [(1, .int (nI 1)), (0, .ref pr)]) hx hb dX3_init_29 hl (k := 0) rfl (by decide) (by decide) rfl (fun ls hl => ?_)
  refine lv_goto (tgt := 15) hx hb dX3_init_32 (by decide) ?_
  refine lv_iload_n hx hb dX3_init_15 rfl (lv_at hl 0 rfl) ?_
  refine lv_iconst (v := nI 3) hx hb dX3_init_16 (by decide) ?_
  refine lv_icmp_ge (tgt := 35) hx hb dX3_init_17 (by decide) (fun h9 => absurd h9 (by decide)) (fun _ => ?_)
  refine lv_aload_n hx hb dX3_init_20 rfl (lv_at hl 1 rfl) ?_
  refine va_get (D := D) (ci := 3) (v := .ref q_1) (C := RX3) (T := TX3) (N := 2) hx hb hts i_RX3 hown hK hP 0 rfl rfl 0 (by decide) k_4 (fun _ h9 => h9) rfl dX3_init_21 ?_
  refine lv_iload_n hx hb dX3_init_24 rfl (lv_at hl 0 rfl) ?_
  refine lv_sipush (v := nI 1000) hx hb dX3_init_25 (by decide) ?_
  refine zx_iast (D := D) hx hb hK hP hD hS 1 0 rfl rfl (by decide) (by decide) dX3_init_28 (fun H locs hP hD hS => ?_)
  have hP : va_P D vwCl [(pr, .inr (3, [.ref q_1, .int (nI 0)])), (q_1, .inl (cN_2, 6003, .inl (upd (upd (fun _ => 0) 0 (nI 1000)) 1 (nI 1000))))] H := hP
  have hD : va_D A [(pr, .inr (3, [.ref q_1, .int (nI 0)])), (q_1, .inl (cN_2, 6003, .inl (upd (upd (fun _ => 0) 0 (nI 1000)) 1 (nI 1000))))] := hD
  refine lv_iinc (v := nI 2) (lv' := [(1, .int (nI 2)), (0, .ref pr)]) hx hb dX3_init_29 hl (k := 0) rfl (by decide) (by decide) rfl (fun ls hl => ?_)
  refine lv_goto (tgt := 15) hx hb dX3_init_32 (by decide) ?_
  refine lv_iload_n hx hb dX3_init_15 rfl (lv_at hl 0 rfl) ?_
  refine lv_iconst (v := nI 3) hx hb dX3_init_16 (by decide) ?_
  refine lv_icmp_ge (tgt := 35) hx hb dX3_init_17 (by decide) (fun h9 => absurd h9 (by decide)) (fun _ => ?_)
  refine lv_aload_n hx hb dX3_init_20 rfl (lv_at hl 1 rfl) ?_
  refine va_get (D := D) (ci := 3) (v := .ref q_1) (C := RX3) (T := TX3) (N := 2) hx hb hts i_RX3 hown hK hP 0 rfl rfl 0 (by decide) k_4 (fun _ h9 => h9) rfl dX3_init_21 ?_
  refine lv_iload_n hx hb dX3_init_24 rfl (lv_at hl 0 rfl) ?_
  refine lv_sipush (v := nI 1000) hx hb dX3_init_25 (by decide) ?_
  refine zx_iast (D := D) hx hb hK hP hD hS 1 0 rfl rfl (by decide) (by decide) dX3_init_28 (fun H locs hP hD hS => ?_)
  have hP : va_P D vwCl [(pr, .inr (3, [.ref q_1, .int (nI 0)])), (q_1, .inl (cN_2, 6003, .inl (upd (upd (upd (fun _ => 0) 0 (nI 1000)) 1 (nI 1000)) 2 (nI 1000))))] H := hP
  have hD : va_D A [(pr, .inr (3, [.ref q_1, .int (nI 0)])), (q_1, .inl (cN_2, 6003, .inl (upd (upd (upd (fun _ => 0) 0 (nI 1000)) 1 (nI 1000)) 2 (nI 1000))))] := hD
  refine lv_iinc (v := nI 3) (lv' := [(1, .int (nI 3)), (0, .ref pr)]) hx hb dX3_init_29 hl (k := 0) rfl (by decide) (by decide) rfl (fun ls hl => ?_)
  refine lv_goto (tgt := 15) hx hb dX3_init_32 (by decide) ?_
  refine lv_iload_n hx hb dX3_init_15 rfl (lv_at hl 0 rfl) ?_
  refine lv_iconst (v := nI 3) hx hb dX3_init_16 (by decide) ?_
  refine lv_icmp_ge (tgt := 35) hx hb dX3_init_17 (by decide) (fun _ => ?_) (fun h9 => absurd (by decide) h9)
  subst hAe
  exact zretB hx hb hr hlocks (fun t9 ht hv => ⟨q_1, cN_2, by rw [ht]; exact (hP.sub (ws' := [(pr, .inr (3, [.ref q_1, .int (nI 0)])), (q_1, .inl (cN_2, 6003, .inl (upd (upd (upd (fun _ => 0) 0 (nI 1000)) 1 (nI 1000)) 2 (nI 1000))))]) [0, 1] rfl), va_K.moved hv (hK.sub [0] rfl), (hD.sub (ws' := [(pr, .inr (3, [.ref q_1, .int (nI 0)])), (q_1, .inl (cN_2, 6003, .inl (upd (upd (upd (fun _ => 0) 0 (nI 1000)) 1 (nI 1000)) 2 (nI 1000))))]) [0, 1] (by decide) rfl)⟩) hS dX3_init_35 (Nat.le_of_ble_eq_true rfl) (Nat.le_of_ble_eq_true rfl)

set_option maxHeartbeats 4000000 in
set_option maxRecDepth 100000 in
/-- AbstractList() -/
theorem m_Jxc12de_init_da8c8 (l : Launch) (D : va_G) (li : Nat)  (sz : Nat)  : Met l yJxc12de_init_da8c8 wsJxc12de_init_da8c8 ({ frames := 2, cells := 0, slots := 0, locals := 40 }) (z2 D [(li, .inr (0, [.int (nI 0), .null, .int (nI 0)]))] [] sz [.ref li]) (va_Qv (fun _ : Unit => True) (zB D [] [(li, .inr (0, [.int (nI 0), .null, .int (nI 0)]))] (va_A [(li, .inr (0, [.int (nI 0), .null, .int (nI 0)]))] sz)) (va_A [(li, .inr (0, [.int (nI 0), .null, .int (nI 0)]))] sz)) 0 0 (va_A [(li, .inr (0, [.int (nI 0), .null, .int (nI 0)]))] sz) := by
  refine zm2 (cc := cJxc12de_init_da8c8) (maxL := 1) (ret := none) (by decide) rfl (Nat.le_of_ble_eq_true rfl) ?_
  intro p e s m below meth c ls A hAe hsz hin hx hb hml hr hlocks hown hts hP hK hG hD hA hS hl
  subst hsz
  have hl : lv_has ls 1 [(0, .ref li)] := hl
  have k_0 := hts (.initialized RJxa1e45) (List.mem_of_getElem? (i := 4) rfl)
  have k_1 := hts (.methodLink RJxc12de 1 yJxa1e45_init_da8c8) (List.mem_of_getElem? (i := 2) rfl)
  have k_2 := hts (.instanceMethod yJxa1e45_init_da8c8) (List.mem_of_getElem? (i := 3) rfl)
  have k_3 := hts (.fieldLink RJxc12de 7 "java/util/AbstractList" "modCount" "I") (List.mem_of_getElem? (i := 1) rfl)
  have i_RJx4a65c : ∀ w ∈ u_ws RJx4a65c TJx4a65c 3, w ∈ wsJxc12de_init_da8c8 := by decide +kernel
  refine lv_aload_n hx hb dJxc12de_init_da8c8_0 rfl (lv_at hl 0 rfl) ?_
  refine va_csv (W.runI (As := []) (rest := []) ⟨hx, hb, hml, hown, hts⟩ (m_Jxa1e45_init_da8c8 l li) (cwI 0 hts gJxc12de_init_da8c8_Jxa1e45_init_da8c8 rfl rfl rfl k_0 k_1 k_2 rfl (by decide +kernel) ⟨Nat.le_of_ble_eq_true rfl, Nat.le_of_ble_eq_true rfl⟩) z0_S rfl rfl hl.1 rfl (lv_room (Nat.le_of_ble_eq_true rfl)) dJxc12de_init_da8c8_1 ⟨Nat.le_of_ble_eq_true rfl, Nat.le_of_ble_eq_true rfl⟩) (fun _ => ?_)
  refine lv_aload_n hx hb dJxc12de_init_da8c8_4 rfl (lv_at hl 0 rfl) ?_
  refine lv_iconst (v := nI 0) hx hb dJxc12de_init_da8c8_5 (by decide) ?_
  refine va_put (D := D) (ci := 0) (v := .int (nI 0)) (ty := .int) (C := RJx4a65c) (T := TJx4a65c) (N := 3) hx hb hts i_RJx4a65c tyJx4a65c tyJx4a65c_ok nmJx4a65c hown hK hP hD hS 0 rfl rfl 0 (by decide) k_3 (fun _ h9 => h9) rfl (by decide +kernel) rfl rfl (Nat.le_of_ble_eq_true rfl) dJxc12de_init_da8c8_6 (fun H locs hP hD hS => ?_)
  have hP : va_P D vwCl [(li, .inr (0, [.int (nI 0), .null, .int (nI 0)]))] H := hP
  have hD : va_D A [(li, .inr (0, [.int (nI 0), .null, .int (nI 0)]))] := hD
  subst hAe
  exact zretv (D := D) (wf := [(li, .inr (0, [.int (nI 0), .null, .int (nI 0)]))]) hx hb hr hlocks (hP.sub [0] rfl) hK (hD.sub [0] (by decide) rfl) hS dJxc12de_init_da8c8_9 (Nat.le_of_ble_eq_true rfl) (Nat.le_of_ble_eq_true rfl)

set_option maxHeartbeats 4000000 in
set_option maxRecDepth 100000 in
/-- ArrayList() -/
theorem m_Jx4a65c_init_da8c8 (l : Launch) (D : va_G) (li em : Nat)  (sz : Nat)  : Met l yJx4a65c_init_da8c8 wsJx4a65c_init_da8c8 ({ frames := 3, cells := 0, slots := 0, locals := 60 }) (zq D [(li, .inr (0, [.int (nI 0), .null, .int (nI 0)]))] [] sz [.ref li] (fun U H => HS (va_A [(li, .inr (0, [.int (nI 0), .null, .int (nI 0)]))] sz) em U H)) (va_Qv (fun _ : Unit => True) (fun _ t9 => va_P D vwCl [(li, .inr (0, [.int (nI 0), .ref em, .int (nI 0)]))] t9.heap ∧ va_K D vwCl [] t9 ∧ va_D (va_A [(li, .inr (0, [.int (nI 0), .null, .int (nI 0)]))] sz) [(li, .inr (0, [.int (nI 0), .ref em, .int (nI 0)]))]) (va_A [(li, .inr (0, [.int (nI 0), .null, .int (nI 0)]))] sz)) 0 0 (va_A [(li, .inr (0, [.int (nI 0), .null, .int (nI 0)]))] sz) := by
  refine zmq (cc := cJx4a65c_init_da8c8) (maxL := 1) (ret := none) (by decide) rfl (Nat.le_of_ble_eq_true rfl) ?_
  intro p e s m below meth c ls A hAe hsz hin hx hb hml hr hlocks hown hts hP hK hG hD hA hS hX hl
  subst hsz
  rw [← hAe] at hX
  have hHS := hX
  have hl : lv_has ls 1 [(0, .ref li)] := hl
  have k_0 := hts (.initialized RJxc12de) (List.mem_of_getElem? (i := 5) rfl)
  have k_1 := hts (.methodLink RJx4a65c 1 yJxc12de_init_da8c8) (List.mem_of_getElem? (i := 3) rfl)
  have k_2 := hts (.instanceMethod yJxc12de_init_da8c8) (List.mem_of_getElem? (i := 4) rfl)
  have k_3 := hts (.fieldLink RJx4a65c 39 "java/util/ArrayList" "DEFAULTCAPACITY_EMPTY_ELEMENTDATA" "[Ljava/lang/Object;") (List.mem_of_getElem? (i := 1) rfl)
  have k_4 := hts (.fieldLink RJx4a65c 9 "java/util/ArrayList" "elementData" "[Ljava/lang/Object;") (List.mem_of_getElem? (i := 2) rfl)
  have i_RJx4a65c : ∀ w ∈ u_ws RJx4a65c TJx4a65c 3, w ∈ wsJx4a65c_init_da8c8 := by decide +kernel
  refine lv_aload_n hx hb dJx4a65c_init_da8c8_0 rfl (lv_at hl 0 rfl) ?_
  refine zcallv (wr := []) (va_runI (As := []) (rest := []) ⟨hx, hb, hml, hown, hts⟩ (m_Jxc12de_init_da8c8 l D li _) (cwI 0 hts gJx4a65c_init_da8c8_Jxc12de_init_da8c8 rfl rfl rfl k_0 k_1 k_2 rfl (by decide +kernel) ⟨Nat.le_of_ble_eq_true rfl, Nat.le_of_ble_eq_true rfl⟩) (z2_S (hP.sub (ws' := [(li, .inr (0, [.int (nI 0), .null, .int (nI 0)]))]) [0] rfl) (hK.sub (tys' := []) [] rfl) (hD.sub (ws' := [(li, .inr (0, [.int (nI 0), .null, .int (nI 0)]))]) [0] (by decide) rfl) hG) rfl rfl hl.1 rfl (lv_room (Nat.le_of_ble_eq_true rfl)) dJx4a65c_init_da8c8_1 ⟨Nat.le_of_ble_eq_true rfl, Nat.le_of_ble_eq_true rfl⟩) hP hD hS hA [0] [] rfl rfl (by decide) (by decide) (fun H locs hP hD hS => ?_)
  have hP : va_P D vwCl [(li, .inr (0, [.int (nI 0), .null, .int (nI 0)]))] H := hP
  have hD : va_D A [(li, .inr (0, [.int (nI 0), .null, .int (nI 0)]))] := hD
  refine lv_aload_n hx hb dJx4a65c_init_da8c8_4 rfl (lv_at hl 0 rfl) ?_
  refine va_gets hx hb hHS.1 hS hown k_3 (fun _ h9 => h9) dJx4a65c_init_da8c8_5 ?_
  refine va_put (D := D) (ci := 0) (v := .ref em) (ty := .array (.object "java/lang/Object")) (C := RJx4a65c) (T := TJx4a65c) (N := 3) hx hb hts i_RJx4a65c tyJx4a65c tyJx4a65c_ok nmJx4a65c hown hK hP hD hS 0 rfl rfl 1 (by decide) k_4 (fun _ h9 => h9) rfl (by decide +kernel) rfl rfl (Nat.le_of_ble_eq_true rfl) dJx4a65c_init_da8c8_8 (fun H locs hP hD hS => ?_)
  have hP : va_P D vwCl [(li, .inr (0, [.int (nI 0), .ref em, .int (nI 0)]))] H := hP
  have hD : va_D A [(li, .inr (0, [.int (nI 0), .ref em, .int (nI 0)]))] := hD
  subst hAe
  exact zretB hx hb hr hlocks (fun t9 ht hv => ⟨by rw [ht]; exact (hP.sub (ws' := [(li, .inr (0, [.int (nI 0), .ref em, .int (nI 0)]))]) [0] rfl), va_K.moved hv (hK.sub [] rfl), (hD.sub (ws' := [(li, .inr (0, [.int (nI 0), .ref em, .int (nI 0)]))]) [0] (by decide) rfl)⟩) hS dJx4a65c_init_da8c8_11 (Nat.le_of_ble_eq_true rfl) (Nat.le_of_ble_eq_true rfl)

set_option maxHeartbeats 4000000 in
set_option maxRecDepth 100000 in
/-- UnitContracts() -/
theorem m_X5_init (l : Launch) (D : va_G) (x em : Nat)  (sz : Nat)  : Met l yX5_init wsX5_init ({ frames := 4, cells := 4, slots := 6011, locals := 80 }) (zq D [(x, .inr (5, [.null, .null, .null, .long 0, .long 0]))] [] sz [.ref x] (fun U H => HS (va_A [(x, .inr (5, [.null, .null, .null, .long 0, .long 0]))] sz) em U H)) (va_Qv (fun _ : Unit => True) (fun _ t9 => ∃ (pr : Nat) (bd : Nat) (mk : Nat) (os : Nat) (cI : ClassId), va_P D vwCl [(x, .inr (5, [.ref pr, .ref mk, .ref os, .long 0, .long 0])), (pr, .inr (3, [.ref bd, .int (nI 0)])), (bd, .inl (cI, 6003, .inl (upd (upd (upd (fun _ => 0) 0 (nI 1000)) 1 (nI 1000)) 2 (nI 1000)))), (mk, .inr (0, [.int (nI 0), .ref em, .int (nI 0)])), (os, .inr (0, [.int (nI 0), .ref em, .int (nI 0)]))] t9.heap ∧ va_K D vwCl [(cI, .int)] t9 ∧ va_D (va_A [(x, .inr (5, [.null, .null, .null, .long 0, .long 0]))] sz) [(x, .inr (5, [.ref pr, .ref mk, .ref os, .long 0, .long 0])), (pr, .inr (3, [.ref bd, .int (nI 0)])), (bd, .inl (cI, 6003, .inl (upd (upd (upd (fun _ => 0) 0 (nI 1000)) 1 (nI 1000)) 2 (nI 1000)))), (mk, .inr (0, [.int (nI 0), .ref em, .int (nI 0)])), (os, .inr (0, [.int (nI 0), .ref em, .int (nI 0)]))]) (va_A [(x, .inr (5, [.null, .null, .null, .long 0, .long 0]))] sz)) 4 6011 (va_A [(x, .inr (5, [.null, .null, .null, .long 0, .long 0]))] sz) := by
  refine zmq (cc := cX5_init) (maxL := 1) (ret := none) (by decide) rfl (Nat.le_of_ble_eq_true rfl) ?_
  intro p e s m below meth c ls A hAe hsz hin hx hb hml hr hlocks hown hts hP hK hG hD hA hS hX hl
  subst hsz
  rw [← hAe] at hX
  have hHS := hX
  have hl : lv_has ls 1 [(0, .ref x)] := hl
  have k_0 := hts (.methodLink RX5 1 objectInit) (List.mem_of_getElem? (i := 1) rfl)
  have k_1 := hts (.instanceMethod objectInit) (List.mem_of_getElem? (i := 2) rfl)
  have k_2 := hts (.code objectInit ⟨#[0xb1]⟩ 1 none) (List.mem_of_getElem? (i := 3) rfl)
  have i_RX3 : ∀ w ∈ u_ws RX3 TX3 2, w ∈ wsX5_init := by decide +kernel
  have k_4 := hts (.classLink RX5 7 RX3) (List.mem_of_getElem? (i := 4) rfl)
  have k_5 := hts (.instantiable RX3 2) (List.mem_of_getElem? (i := 5) rfl)
  have k_6 := hts (.initialized RX3) (List.mem_of_getElem? (i := 6) rfl)
  have k_7 := hts (.methodLink RX5 9 yX3_init) (List.mem_of_getElem? (i := 13) rfl)
  have k_8 := hts (.instanceMethod yX3_init) (List.mem_of_getElem? (i := 14) rfl)
  have k_9 := hts (.fieldLink RX5 10 "UnitContracts" "prices" "LUnitContracts$Prices;") (List.mem_of_getElem? (i := 7) rfl)
  have i_RX5 : ∀ w ∈ u_ws RX5 TX5 5, w ∈ wsX5_init := by decide +kernel
  have i_RJx4a65c : ∀ w ∈ u_ws RJx4a65c TJx4a65c 3, w ∈ wsX5_init := by decide +kernel
  have k_12 := hts (.classLink RX5 16 RJx4a65c) (List.mem_of_getElem? (i := 8) rfl)
  have k_13 := hts (.instantiable RJx4a65c 3) (List.mem_of_getElem? (i := 9) rfl)
  have k_14 := hts (.initialized RJx4a65c) (List.mem_of_getElem? (i := 10) rfl)
  have k_15 := hts (.methodLink RX5 18 yJx4a65c_init_da8c8) (List.mem_of_getElem? (i := 19) rfl)
  have k_16 := hts (.instanceMethod yJx4a65c_init_da8c8) (List.mem_of_getElem? (i := 20) rfl)
  have k_17 := hts (.fieldLink RX5 19 "UnitContracts" "made" "Ljava/util/ArrayList;") (List.mem_of_getElem? (i := 11) rfl)
  have k_18 := hts (.fieldLink RX5 23 "UnitContracts" "orders" "Ljava/util/ArrayList;") (List.mem_of_getElem? (i := 12) rfl)
  refine lv_aload_n hx hb dX5_init_0 rfl (lv_at hl 0 rfl) ?_
  refine W.objInit hx hb hown k_0 k_1 k_2 rfl (by rw [hml]; exact hl.1) rfl dX5_init_1 (Nat.le_of_ble_eq_true rfl) (Nat.le_of_ble_eq_true rfl) ?_
  refine W.eq (g2 := F0 m 4 ls []) rfl ?_
  refine lv_aload_n hx hb dX5_init_4 rfl (lv_at hl 0 rfl) ?_
  refine va_new (D := D) (ci := 3) (fs := [.null, .int (nI 0)]) (C := RX3) (T := TX3) (N := 2) hx hb hts i_RX3 tyX3 tyX3_ok hown k_4 k_5 k_6 hK hP hD hS hA rfl (fun j hj => by rcases (show j = 0 ∨ j = 1 by omega) with rfl | rfl <;> rfl) (Nat.le_of_ble_eq_true rfl) (Nat.le_of_ble_eq_true rfl) dX5_init_5 (fun q_1 H hP hD hS => ?_)
  have hP : va_P D vwCl [(x, .inr (5, [.null, .null, .null, .long 0, .long 0])), (q_1, .inr (3, [.null, .int (nI 0)]))] H := hP
  have hD : va_D A [(x, .inr (5, [.null, .null, .null, .long 0, .long 0])), (q_1, .inr (3, [.null, .int (nI 0)]))] := hD
  refine W.widen (k := 1) (n := 2) (by decide) (by decide) ?_
  refine lv_dup hx hb dX5_init_8 rfl ?_
  have hF_5 := va_free (wc := [(q_1, .inr (3, [.null, .int (nI 0)]))]) hD hS hA [1] rfl
  refine va_callv (va_runI (As := []) (rest := [.ref q_1, .ref x]) ⟨hx, hb, hml, hown, hts⟩ (m_X3_init l D q_1 _) (cwI 0 hts gX5_init_X3_init rfl rfl rfl k_6 k_7 k_8 rfl (by decide +kernel) ⟨Nat.le_of_ble_eq_true rfl, Nat.le_of_ble_eq_true rfl⟩) (zq_S XM.t (hP.sub (ws' := [(q_1, .inr (3, [.null, .int (nI 0)]))]) [1] rfl) (hK.sub (tys' := []) [] rfl) (hD.sub (ws' := [(q_1, .inr (3, [.null, .int (nI 0)]))]) [1] (by decide) rfl) hG trivial) rfl rfl hl.1 rfl (lv_room (Nat.le_of_ble_eq_true rfl)) dX5_init_9 ⟨Nat.le_of_ble_eq_true rfl, Nat.le_of_ble_eq_true rfl⟩) hS (fun q _ h => hF_5 q h) hF_5 (fun u t1 H locs ht1 hvm hw hB hz1 hk1 hS => ?_)
  obtain ⟨bd__2, cI__3, hP1, hK1, hD1⟩ := hB
  rw [ht1] at hP1
  have hK1 := va_K.moved hvm.symm hK1
  obtain ⟨hP, hD⟩ := va_join (wr := [(x, .inr (5, [.null, .null, .null, .long 0, .long 0]))]) (w1 := [(q_1, .inr (3, [.ref bd__2, .int (nI 0)])), (bd__2, .inl (cI__3, 6003, .inl (upd (upd (upd (fun _ => 0) 0 (nI 1000)) 1 (nI 1000)) 2 (nI 1000))))]) hP hD [1] [0] rfl rfl (by decide) (by decide) hk1 hF_5 hP1 hD1
  have hK := hK.app hK1
  have hK := hK.sub (tys' := [(cI__3, .int)]) [0] rfl
  have hP : va_P D vwCl [(x, .inr (5, [.null, .null, .null, .long 0, .long 0])), (q_1, .inr (3, [.ref bd__2, .int (nI 0)])), (bd__2, .inl (cI__3, 6003, .inl (upd (upd (upd (fun _ => 0) 0 (nI 1000)) 1 (nI 1000)) 2 (nI 1000))))] H := hP
  have hD : va_D A [(x, .inr (5, [.null, .null, .null, .long 0, .long 0])), (q_1, .inr (3, [.ref bd__2, .int (nI 0)])), (bd__2, .inl (cI__3, 6003, .inl (upd (upd (upd (fun _ => 0) 0 (nI 1000)) 1 (nI 1000)) 2 (nI 1000))))] := hD
  refine W.widen (k := 2) (n := 6005) (by decide) (by decide) ?_
  refine va_putF (D := D) (ci := 5) (v := .ref q_1) (ty := .object "UnitContracts$Prices") (C := RX5) (T := TX5) (N := 5) hx hb hts i_RX5 tyX5 tyX5_ok nmX5 hown hK hP hD hS 0 rfl rfl 0 (by decide) k_9 (fun _ h9 => h9) rfl hin rfl (by decide +kernel) rfl rfl (Nat.le_of_ble_eq_true rfl) dX5_init_12 (fun H locs hP hD hS => ?_)
  have hP : va_P D vwCl [(x, .inr (5, [.ref q_1, .null, .null, .long 0, .long 0])), (q_1, .inr (3, [.ref bd__2, .int (nI 0)])), (bd__2, .inl (cI__3, 6003, .inl (upd (upd (upd (fun _ => 0) 0 (nI 1000)) 1 (nI 1000)) 2 (nI 1000))))] H := hP
  have hD : va_D A [(x, .inr (5, [.ref q_1, .null, .null, .long 0, .long 0])), (q_1, .inr (3, [.ref bd__2, .int (nI 0)])), (bd__2, .inl (cI__3, 6003, .inl (upd (upd (upd (fun _ => 0) 0 (nI 1000)) 1 (nI 1000)) 2 (nI 1000))))] := hD
  refine lv_aload_n hx hb dX5_init_15 rfl (lv_at hl 0 rfl) ?_
  refine va_new (D := D) (ci := 0) (fs := [.int (nI 0), .null, .int (nI 0)]) (C := RJx4a65c) (T := TJx4a65c) (N := 3) hx hb hts i_RJx4a65c tyJx4a65c tyJx4a65c_ok hown k_12 k_13 k_14 hK hP hD hS hA rfl (fun j hj => by rcases (show j = 0 ∨ j = 1 ∨ j = 2 by omega) with rfl | rfl | rfl <;> rfl) (Nat.le_of_ble_eq_true rfl) (Nat.le_of_ble_eq_true rfl) dX5_init_16 (fun q_6 H hP hD hS => ?_)
  have hP : va_P D vwCl [(x, .inr (5, [.ref q_1, .null, .null, .long 0, .long 0])), (q_1, .inr (3, [.ref bd__2, .int (nI 0)])), (bd__2, .inl (cI__3, 6003, .inl (upd (upd (upd (fun _ => 0) 0 (nI 1000)) 1 (nI 1000)) 2 (nI 1000)))), (q_6, .inr (0, [.int (nI 0), .null, .int (nI 0)]))] H := hP
  have hD : va_D A [(x, .inr (5, [.ref q_1, .null, .null, .long 0, .long 0])), (q_1, .inr (3, [.ref bd__2, .int (nI 0)])), (bd__2, .inl (cI__3, 6003, .inl (upd (upd (upd (fun _ => 0) 0 (nI 1000)) 1 (nI 1000)) 2 (nI 1000)))), (q_6, .inr (0, [.int (nI 0), .null, .int (nI 0)]))] := hD
  refine W.widen (k := 3) (n := 6008) (by decide) (by decide) ?_
  refine lv_dup hx hb dX5_init_19 rfl ?_
  have hF_8 := va_free (wc := [(q_6, .inr (0, [.int (nI 0), .null, .int (nI 0)]))]) hD hS hA [3] rfl
  refine va_callv (va_runI (As := []) (rest := [.ref q_6, .ref x]) ⟨hx, hb, hml, hown, hts⟩ (m_Jx4a65c_init_da8c8 l D q_6 em _) (cwI 0 hts gX5_init_Jx4a65c_init_da8c8 rfl rfl rfl k_14 k_15 k_16 rfl (by decide +kernel) ⟨Nat.le_of_ble_eq_true rfl, Nat.le_of_ble_eq_true rfl⟩) (zq_S XM.hs (hP.sub (ws' := [(q_6, .inr (0, [.int (nI 0), .null, .int (nI 0)]))]) [3] rfl) (hK.sub (tys' := []) [] rfl) (hD.sub (ws' := [(q_6, .inr (0, [.int (nI 0), .null, .int (nI 0)]))]) [3] (by decide) rfl) hG (hHS.go hS (va_free (wc := [(q_6, .inr (0, [.int (nI 0), .null, .int (nI 0)]))]) hD hS hA [3] rfl))) rfl rfl hl.1 rfl (lv_room (Nat.le_of_ble_eq_true rfl)) dX5_init_20 ⟨Nat.le_of_ble_eq_true rfl, Nat.le_of_ble_eq_true rfl⟩) hS (fun q _ h => hF_8 q h) hF_8 (fun u t1 H locs ht1 hvm hw hB hz1 hk1 hS => ?_)
  obtain ⟨hP1, hK1, hD1⟩ := hB
  rw [ht1] at hP1
  have hK1 := va_K.moved hvm.symm hK1
  obtain ⟨hP, hD⟩ := va_join (wr := [(x, .inr (5, [.ref q_1, .null, .null, .long 0, .long 0])), (q_1, .inr (3, [.ref bd__2, .int (nI 0)])), (bd__2, .inl (cI__3, 6003, .inl (upd (upd (upd (fun _ => 0) 0 (nI 1000)) 1 (nI 1000)) 2 (nI 1000))))]) (w1 := [(q_6, .inr (0, [.int (nI 0), .ref em, .int (nI 0)]))]) hP hD [3] [0, 1, 2] rfl rfl (by decide) (by decide) hk1 hF_8 hP1 hD1
  have hP : va_P D vwCl [(x, .inr (5, [.ref q_1, .null, .null, .long 0, .long 0])), (q_1, .inr (3, [.ref bd__2, .int (nI 0)])), (bd__2, .inl (cI__3, 6003, .inl (upd (upd (upd (fun _ => 0) 0 (nI 1000)) 1 (nI 1000)) 2 (nI 1000)))), (q_6, .inr (0, [.int (nI 0), .ref em, .int (nI 0)]))] H := hP
  have hD : va_D A [(x, .inr (5, [.ref q_1, .null, .null, .long 0, .long 0])), (q_1, .inr (3, [.ref bd__2, .int (nI 0)])), (bd__2, .inl (cI__3, 6003, .inl (upd (upd (upd (fun _ => 0) 0 (nI 1000)) 1 (nI 1000)) 2 (nI 1000)))), (q_6, .inr (0, [.int (nI 0), .ref em, .int (nI 0)]))] := hD
  refine va_putF (D := D) (ci := 5) (v := .ref q_6) (ty := .object "java/util/ArrayList") (C := RX5) (T := TX5) (N := 5) hx hb hts i_RX5 tyX5 tyX5_ok nmX5 hown hK hP hD hS 0 rfl rfl 1 (by decide) k_17 (fun _ h9 => h9) rfl hin rfl (by decide +kernel) rfl rfl (Nat.le_of_ble_eq_true rfl) dX5_init_23 (fun H locs hP hD hS => ?_)
  have hP : va_P D vwCl [(x, .inr (5, [.ref q_1, .ref q_6, .null, .long 0, .long 0])), (q_1, .inr (3, [.ref bd__2, .int (nI 0)])), (bd__2, .inl (cI__3, 6003, .inl (upd (upd (upd (fun _ => 0) 0 (nI 1000)) 1 (nI 1000)) 2 (nI 1000)))), (q_6, .inr (0, [.int (nI 0), .ref em, .int (nI 0)]))] H := hP
  have hD : va_D A [(x, .inr (5, [.ref q_1, .ref q_6, .null, .long 0, .long 0])), (q_1, .inr (3, [.ref bd__2, .int (nI 0)])), (bd__2, .inl (cI__3, 6003, .inl (upd (upd (upd (fun _ => 0) 0 (nI 1000)) 1 (nI 1000)) 2 (nI 1000)))), (q_6, .inr (0, [.int (nI 0), .ref em, .int (nI 0)]))] := hD
  refine lv_aload_n hx hb dX5_init_26 rfl (lv_at hl 0 rfl) ?_
  refine va_new (D := D) (ci := 0) (fs := [.int (nI 0), .null, .int (nI 0)]) (C := RJx4a65c) (T := TJx4a65c) (N := 3) hx hb hts i_RJx4a65c tyJx4a65c tyJx4a65c_ok hown k_12 k_13 k_14 hK hP hD hS hA rfl (fun j hj => by rcases (show j = 0 ∨ j = 1 ∨ j = 2 by omega) with rfl | rfl | rfl <;> rfl) (Nat.le_of_ble_eq_true rfl) (Nat.le_of_ble_eq_true rfl) dX5_init_27 (fun q_9 H hP hD hS => ?_)
  have hP : va_P D vwCl [(x, .inr (5, [.ref q_1, .ref q_6, .null, .long 0, .long 0])), (q_1, .inr (3, [.ref bd__2, .int (nI 0)])), (bd__2, .inl (cI__3, 6003, .inl (upd (upd (upd (fun _ => 0) 0 (nI 1000)) 1 (nI 1000)) 2 (nI 1000)))), (q_6, .inr (0, [.int (nI 0), .ref em, .int (nI 0)])), (q_9, .inr (0, [.int (nI 0), .null, .int (nI 0)]))] H := hP
  have hD : va_D A [(x, .inr (5, [.ref q_1, .ref q_6, .null, .long 0, .long 0])), (q_1, .inr (3, [.ref bd__2, .int (nI 0)])), (bd__2, .inl (cI__3, 6003, .inl (upd (upd (upd (fun _ => 0) 0 (nI 1000)) 1 (nI 1000)) 2 (nI 1000)))), (q_6, .inr (0, [.int (nI 0), .ref em, .int (nI 0)])), (q_9, .inr (0, [.int (nI 0), .null, .int (nI 0)]))] := hD
  refine W.widen (k := 4) (n := 6011) (by decide) (by decide) ?_
  refine lv_dup hx hb dX5_init_30 rfl ?_
  have hF_11 := va_free (wc := [(q_9, .inr (0, [.int (nI 0), .null, .int (nI 0)]))]) hD hS hA [4] rfl
  refine va_callv (va_runI (As := []) (rest := [.ref q_9, .ref x]) ⟨hx, hb, hml, hown, hts⟩ (m_Jx4a65c_init_da8c8 l D q_9 em _) (cwI 0 hts gX5_init_Jx4a65c_init_da8c8 rfl rfl rfl k_14 k_15 k_16 rfl (by decide +kernel) ⟨Nat.le_of_ble_eq_true rfl, Nat.le_of_ble_eq_true rfl⟩) (zq_S XM.hs (hP.sub (ws' := [(q_9, .inr (0, [.int (nI 0), .null, .int (nI 0)]))]) [4] rfl) (hK.sub (tys' := []) [] rfl) (hD.sub (ws' := [(q_9, .inr (0, [.int (nI 0), .null, .int (nI 0)]))]) [4] (by decide) rfl) hG (hHS.go hS (va_free (wc := [(q_9, .inr (0, [.int (nI 0), .null, .int (nI 0)]))]) hD hS hA [4] rfl))) rfl rfl hl.1 rfl (lv_room (Nat.le_of_ble_eq_true rfl)) dX5_init_31 ⟨Nat.le_of_ble_eq_true rfl, Nat.le_of_ble_eq_true rfl⟩) hS (fun q _ h => hF_11 q h) hF_11 (fun u t1 H locs ht1 hvm hw hB hz1 hk1 hS => ?_)
  obtain ⟨hP1, hK1, hD1⟩ := hB
  rw [ht1] at hP1
  have hK1 := va_K.moved hvm.symm hK1
  obtain ⟨hP, hD⟩ := va_join (wr := [(x, .inr (5, [.ref q_1, .ref q_6, .null, .long 0, .long 0])), (q_1, .inr (3, [.ref bd__2, .int (nI 0)])), (bd__2, .inl (cI__3, 6003, .inl (upd (upd (upd (fun _ => 0) 0 (nI 1000)) 1 (nI 1000)) 2 (nI 1000)))), (q_6, .inr (0, [.int (nI 0), .ref em, .int (nI 0)]))]) (w1 := [(q_9, .inr (0, [.int (nI 0), .ref em, .int (nI 0)]))]) hP hD [4] [0, 1, 2, 3] rfl rfl (by decide) (by decide) hk1 hF_11 hP1 hD1
  have hP : va_P D vwCl [(x, .inr (5, [.ref q_1, .ref q_6, .null, .long 0, .long 0])), (q_1, .inr (3, [.ref bd__2, .int (nI 0)])), (bd__2, .inl (cI__3, 6003, .inl (upd (upd (upd (fun _ => 0) 0 (nI 1000)) 1 (nI 1000)) 2 (nI 1000)))), (q_6, .inr (0, [.int (nI 0), .ref em, .int (nI 0)])), (q_9, .inr (0, [.int (nI 0), .ref em, .int (nI 0)]))] H := hP
  have hD : va_D A [(x, .inr (5, [.ref q_1, .ref q_6, .null, .long 0, .long 0])), (q_1, .inr (3, [.ref bd__2, .int (nI 0)])), (bd__2, .inl (cI__3, 6003, .inl (upd (upd (upd (fun _ => 0) 0 (nI 1000)) 1 (nI 1000)) 2 (nI 1000)))), (q_6, .inr (0, [.int (nI 0), .ref em, .int (nI 0)])), (q_9, .inr (0, [.int (nI 0), .ref em, .int (nI 0)]))] := hD
  refine va_putF (D := D) (ci := 5) (v := .ref q_9) (ty := .object "java/util/ArrayList") (C := RX5) (T := TX5) (N := 5) hx hb hts i_RX5 tyX5 tyX5_ok nmX5 hown hK hP hD hS 0 rfl rfl 2 (by decide) k_18 (fun _ h9 => h9) rfl hin rfl (by decide +kernel) rfl rfl (Nat.le_of_ble_eq_true rfl) dX5_init_34 (fun H locs hP hD hS => ?_)
  have hP : va_P D vwCl [(x, .inr (5, [.ref q_1, .ref q_6, .ref q_9, .long 0, .long 0])), (q_1, .inr (3, [.ref bd__2, .int (nI 0)])), (bd__2, .inl (cI__3, 6003, .inl (upd (upd (upd (fun _ => 0) 0 (nI 1000)) 1 (nI 1000)) 2 (nI 1000)))), (q_6, .inr (0, [.int (nI 0), .ref em, .int (nI 0)])), (q_9, .inr (0, [.int (nI 0), .ref em, .int (nI 0)]))] H := hP
  have hD : va_D A [(x, .inr (5, [.ref q_1, .ref q_6, .ref q_9, .long 0, .long 0])), (q_1, .inr (3, [.ref bd__2, .int (nI 0)])), (bd__2, .inl (cI__3, 6003, .inl (upd (upd (upd (fun _ => 0) 0 (nI 1000)) 1 (nI 1000)) 2 (nI 1000)))), (q_6, .inr (0, [.int (nI 0), .ref em, .int (nI 0)])), (q_9, .inr (0, [.int (nI 0), .ref em, .int (nI 0)]))] := hD
  subst hAe
  exact zretB hx hb hr hlocks (fun t9 ht hv => ⟨q_1, bd__2, q_6, q_9, cI__3, by rw [ht]; exact (hP.sub (ws' := [(x, .inr (5, [.ref q_1, .ref q_6, .ref q_9, .long 0, .long 0])), (q_1, .inr (3, [.ref bd__2, .int (nI 0)])), (bd__2, .inl (cI__3, 6003, .inl (upd (upd (upd (fun _ => 0) 0 (nI 1000)) 1 (nI 1000)) 2 (nI 1000)))), (q_6, .inr (0, [.int (nI 0), .ref em, .int (nI 0)])), (q_9, .inr (0, [.int (nI 0), .ref em, .int (nI 0)]))]) [0, 1, 2, 3, 4] rfl), va_K.moved hv (hK.sub [0] rfl), (hD.sub (ws' := [(x, .inr (5, [.ref q_1, .ref q_6, .ref q_9, .long 0, .long 0])), (q_1, .inr (3, [.ref bd__2, .int (nI 0)])), (bd__2, .inl (cI__3, 6003, .inl (upd (upd (upd (fun _ => 0) 0 (nI 1000)) 1 (nI 1000)) 2 (nI 1000)))), (q_6, .inr (0, [.int (nI 0), .ref em, .int (nI 0)])), (q_9, .inr (0, [.int (nI 0), .ref em, .int (nI 0)]))]) [0, 1, 2, 3, 4] (by decide) rfl)⟩) hS dX5_init_37 (Nat.le_of_ble_eq_true rfl) (Nat.le_of_ble_eq_true rfl)
