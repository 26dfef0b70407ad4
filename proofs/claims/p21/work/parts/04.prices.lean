set_option maxHeartbeats 4000000 in
set_option maxRecDepth 100000 in
/-- latestDay() -/
theorem m_X3_latestDay (l : Launch) (D : va_G) (pr bd t : Nat)  : Met l yX3_latestDay wsX3_latestDay ({ frames := 0, cells := 0, slots := 0, locals := 0 }) (z1 D [(pr, .inr (3, [.ref bd, .int (nI t)]))] [] [.ref pr]) (vp_Si (fun r => r = nI t)) 0 0 (fun _ => False) := by
  refine zm1 (cc := cX3_latestDay) (maxL := 1) (ret := (some .int)) (by decide) rfl (Nat.le_of_ble_eq_true rfl) ?_
  intro p e s m below meth c ls hx hb hml hr hlocks hown hts hP hK hG hl
  have hl : lv_has ls 1 [(0, .ref pr)] := hl
  have k_0 := hts (.fieldLink RX3 15 "UnitContracts$Prices" "latest" "I") (List.mem_of_getElem? (i := 1) rfl)
  have i_RX3 : ∀ w ∈ u_ws RX3 TX3 2, w ∈ wsX3_latestDay := by decide +kernel
  refine lv_aload_n hx hb dX3_latestDay_0 rfl (lv_at hl 0 rfl) ?_
  refine va_get (D := D) (ci := 3) (v := .int (nI t)) (C := RX3) (T := TX3) (N := 2) hx hb hts i_RX3 hown hK hP 0 rfl rfl 1 (by decide) k_0 (fun _ h9 => h9) rfl dX3_latestDay_1 ?_
  exact zreti1 hx hb hr hlocks dX3_latestDay_4 (by first | rfl | (subst_vars; rfl))

set_option maxHeartbeats 4000000 in
set_option maxRecDepth 100000 in
/-- bidOn(fund, day) -/
theorem m_X3_bidOn (l : Launch) (D : va_G) (pr bd : Nat) (cI : ClassId) (t : Nat) (bf : Nat → Int32) (q dd : Nat) (hq : q < 3) (hd : dd ≤ 2000) : Met l yX3_bidOn wsX3_bidOn ({ frames := 1, cells := 0, slots := 0, locals := 20 }) (z1 D [(pr, .inr (3, [.ref bd, .int (nI t)])), (bd, .inl (cI, 6003, .inl bf))] [(cI, .int)] [.ref pr, .int (nI q), .int (nI dd)]) (vp_Si (fun r => r = bf (dd * 3 + q))) 0 0 (fun _ => False) := by
  refine zm1 (cc := cX3_bidOn) (maxL := 3) (ret := (some .int)) (by decide) rfl (Nat.le_of_ble_eq_true rfl) ?_
  intro p e s m below meth c ls hx hb hml hr hlocks hown hts hP hK hG hl
  have hl : lv_has ls 3 [(0, .ref pr), (1, .int (nI q)), (2, .int (nI dd))] := hl
  have k_0 := hts (.initialized RX5) (List.mem_of_getElem? (i := 3) rfl)
  have k_1 := hts (.static yX5_isFund) (List.mem_of_getElem? (i := 2) rfl)
  have k_2 := hts (.fieldLink RX3 9 "UnitContracts$Prices" "bids" "[I") (List.mem_of_getElem? (i := 1) rfl)
  have i_RX3 : ∀ w ∈ u_ws RX3 TX3 2, w ∈ wsX3_bidOn := by decide +kernel
  refine lv_iload_n hx hb dX3_bidOn_0 rfl (lv_at hl 1 rfl) ?_
  refine vp_callSi (zrun <| va_runSN (As := [.int (nI q)]) (rest := []) ⟨hx, hb, hml, hown, hts⟩ (m_X5_isFund l (nI q)) ⟨va_cnB (host := "UnitContracts") 1 hts gX3_bidOn_X5_isFund_n19 rfl rfl rfl (hG.1 _ (by decide +kernel)) k_0 (by decide +kernel) ⟨Nat.le_of_ble_eq_true rfl, Nat.le_of_ble_eq_true rfl⟩, k_1, trivial⟩ z0_S rfl rfl hl.1 rfl (lv_room (Nat.le_of_ble_eq_true rfl)) dX3_bidOn_1 ⟨Nat.le_of_ble_eq_true rfl, Nat.le_of_ble_eq_true rfl⟩) (fun r_1 e_r_1 => ?_)
  have e_r_1 : r_1 = nI 1 := e_r_1.trans (k_isFund_n (by omega))
  replace e_r_1 := e_r_1.symm; subst e_r_1
  refine lv_if_eq (tgt := 31) hx hb dX3_bidOn_4 (by decide) (fun h9 => absurd h9 (by decide)) (fun _ => ?_)
  refine lv_iload_n hx hb dX3_bidOn_7 rfl (lv_at hl 2 rfl) ?_
  refine lv_if_lt (tgt := 31) hx hb dX3_bidOn_8 (by decide) (fun h9 => absurd h9 (fun h8 => absurd ((nI_ltI (a := dd) (b := 0) (by omega) (by omega)).mp h8) (by omega))) (fun _ => ?_)
  refine lv_iload_n hx hb dX3_bidOn_11 rfl (lv_at hl 2 rfl) ?_
  refine lv_sipush (v := nI 2000) hx hb dX3_bidOn_12 (by decide) ?_
  refine lv_icmp_gt (tgt := 31) hx hb dX3_bidOn_15 (by decide) (fun h9 => absurd h9 (fun h8 => absurd ((nI_ltI (a := 2000) (b := dd) (by omega) (by omega)).mp h8) (by omega))) (fun _ => ?_)
  refine lv_aload_n hx hb dX3_bidOn_18 rfl (lv_at hl 0 rfl) ?_
  refine va_get (D := D) (ci := 3) (v := .ref bd) (C := RX3) (T := TX3) (N := 2) hx hb hts i_RX3 hown hK hP 0 rfl rfl 0 (by decide) k_2 (fun _ h9 => h9) rfl dX3_bidOn_19 ?_
  refine lv_iload_n hx hb dX3_bidOn_22 rfl (lv_at hl 2 rfl) ?_
  refine lv_iconst (v := nI 3) hx hb dX3_bidOn_23 (by decide) ?_
  refine zx_imul (v := nI (dd * 3)) hx hb dX3_bidOn_24 (pk_mul _ _) ?_
  refine lv_iload_n hx hb dX3_bidOn_25 rfl (lv_at hl 1 rfl) ?_
  refine zx_iadd (v := nI ((dd * 3) + q)) hx hb dX3_bidOn_26 (nI_add _ _) ?_
  refine zx_iald (D := D) hx hb hK hP 1 0 rfl rfl (v := bf ((dd * 3) + q)) (rfl) (by omega) (by first | decide | omega) dX3_bidOn_27 ?_
  refine lv_goto (tgt := 32) hx hb dX3_bidOn_28 (by decide) ?_
  exact zreti1 hx hb hr hlocks dX3_bidOn_32 (by first | rfl | (subst_vars; rfl))

set_option maxHeartbeats 4000000 in
set_option maxRecDepth 100000 in
/-- bidNow(fund) -/
theorem m_X3_bidNow (l : Launch) (D : va_G) (pr bd : Nat) (cI : ClassId) (t : Nat) (bf : Nat → Int32) (q : Nat) (hq : q < 3) (ht : t ≤ 2000) : Met l yX3_bidNow wsX3_bidNow ({ frames := 2, cells := 0, slots := 0, locals := 42 }) (z1 D [(pr, .inr (3, [.ref bd, .int (nI t)])), (bd, .inl (cI, 6003, .inl bf))] [(cI, .int)] [.ref pr, .int (nI q)]) (vp_Si (fun r => r = bf (t * 3 + q))) 0 0 (fun _ => False) := by
  refine zm1 (cc := cX3_bidNow) (maxL := 2) (ret := (some .int)) (by decide) rfl (Nat.le_of_ble_eq_true rfl) ?_
  intro p e s m below meth c ls hx hb hml hr hlocks hown hts hP hK hG hl
  have hl : lv_has ls 2 [(0, .ref pr), (1, .int (nI q))] := hl
  have k_0 := hts (.fieldLink RX3 15 "UnitContracts$Prices" "latest" "I") (List.mem_of_getElem? (i := 1) rfl)
  have i_RX3 : ∀ w ∈ u_ws RX3 TX3 2, w ∈ wsX3_bidNow := by decide +kernel
  refine lv_aload_n hx hb dX3_bidNow_0 rfl (lv_at hl 0 rfl) ?_
  refine lv_iload_n hx hb dX3_bidNow_1 rfl (lv_at hl 1 rfl) ?_
  refine lv_aload_n hx hb dX3_bidNow_2 rfl (lv_at hl 0 rfl) ?_
  refine va_get (D := D) (ci := 3) (v := .int (nI t)) (C := RX3) (T := TX3) (N := 2) hx hb hts i_RX3 hown hK hP 0 rfl rfl 1 (by decide) k_0 (fun _ h9 => h9) rfl dX3_bidNow_3 ?_
  refine vp_callSi (W.runV (As := [.int (nI q), .int (nI t)]) (rest := []) ⟨hx, hb, hml, hown, hts⟩ (m_X3_bidOn l D pr bd cI t bf q t (by first | omega | assumption) (by first | omega | assumption)) (cwV 2 hts gX3_bidNow_X3_bidOn rfl rfl rfl (by decide +kernel) ⟨Nat.le_of_ble_eq_true rfl, Nat.le_of_ble_eq_true rfl⟩) (z1_V (va_recv hK hP (ci := 3) (q0 := 0) rfl rfl) (hP.sub (ws' := [(pr, .inr (3, [.ref bd, .int (nI t)])), (bd, .inl (cI, 6003, .inl bf))]) [0, 1] rfl) (hK.sub (tys' := [(cI, .int)]) [0] rfl) hG) rfl rfl hl.1 rfl (lv_room (Nat.le_of_ble_eq_true rfl)) dX3_bidNow_6 ⟨Nat.le_of_ble_eq_true rfl, Nat.le_of_ble_eq_true rfl⟩) (fun r_1 e_r_1 => ?_)
  replace e_r_1 := e_r_1.symm; subst e_r_1
  exact zreti1 hx hb hr hlocks dX3_bidNow_9 (by first | rfl | (subst_vars; rfl))

set_option maxHeartbeats 4000000 in
set_option maxRecDepth 100000 in
/-- offerOn(fund, day) -/
theorem m_X3_offerOn (l : Launch) (D : va_G) (pr bd : Nat) (cI : ClassId) (t : Nat) (bf : Nat → Int32) (q dd : Nat) (hq : q < 3) (hd : dd ≤ 2000) : Met l yX3_offerOn wsX3_offerOn ({ frames := 2, cells := 0, slots := 0, locals := 42 }) (z1 D [(pr, .inr (3, [.ref bd, .int (nI t)])), (bd, .inl (cI, 6003, .inl bf))] [(cI, .int)] [.ref pr, .int (nI q), .int (nI dd)]) (vp_Si (fun r => r = k_off (bf (dd * 3 + q)))) 0 0 (fun _ => False) := by
  refine zm1 (cc := cX3_offerOn) (maxL := 3) (ret := (some .int)) (by decide) rfl (Nat.le_of_ble_eq_true rfl) ?_
  intro p e s m below meth c ls hx hb hml hr hlocks hown hts hP hK hG hl
  have hl : lv_has ls 3 [(0, .ref pr), (1, .int (nI q)), (2, .int (nI dd))] := hl
  refine lv_aload_n hx hb dX3_offerOn_0 rfl (lv_at hl 0 rfl) ?_
  refine lv_iload_n hx hb dX3_offerOn_1 rfl (lv_at hl 1 rfl) ?_
  refine lv_iload_n hx hb dX3_offerOn_2 rfl (lv_at hl 2 rfl) ?_
  refine vp_callSi (W.runV (As := [.int (nI q), .int (nI dd)]) (rest := []) ⟨hx, hb, hml, hown, hts⟩ (m_X3_bidOn l D pr bd cI t bf q dd (by first | omega | assumption) (by first | omega | assumption)) (cwV 2 hts gX3_offerOn_X3_bidOn rfl rfl rfl (by decide +kernel) ⟨Nat.le_of_ble_eq_true rfl, Nat.le_of_ble_eq_true rfl⟩) (z1_V (va_recv hK hP (ci := 3) (q0 := 0) rfl rfl) (hP.sub (ws' := [(pr, .inr (3, [.ref bd, .int (nI t)])), (bd, .inl (cI, 6003, .inl bf))]) [0, 1] rfl) (hK.sub (tys' := [(cI, .int)]) [0] rfl) hG) rfl rfl hl.1 rfl (lv_room (Nat.le_of_ble_eq_true rfl)) dX3_offerOn_3 ⟨Nat.le_of_ble_eq_true rfl, Nat.le_of_ble_eq_true rfl⟩) (fun r_1 e_r_1 => ?_)
  replace e_r_1 := e_r_1.symm; subst e_r_1
  refine lv_bipush (v := nI 105) hx hb dX3_offerOn_6 (by decide) ?_
  refine zx_imul (v := (bf (dd * 3 + q)) * (nI 105)) hx hb dX3_offerOn_8 (rfl) ?_
  refine lv_bipush (v := nI 100) hx hb dX3_offerOn_9 (by decide) ?_
  refine zx_idiv (v := ((bf (dd * 3 + q)) * (nI 105)) / (nI 100)) hx hb dX3_offerOn_11 (by decide) (rfl) ?_
  exact zreti1 hx hb hr hlocks dX3_offerOn_12 (by first | rfl | (subst_vars; rfl))

set_option maxHeartbeats 4000000 in
set_option maxRecDepth 100000 in
/-- offerNow(fund) -/
theorem m_X3_offerNow (l : Launch) (D : va_G) (pr bd : Nat) (cI : ClassId) (t : Nat) (bf : Nat → Int32) (q : Nat) (hq : q < 3) (ht : t ≤ 2000) : Met l yX3_offerNow wsX3_offerNow ({ frames := 3, cells := 0, slots := 0, locals := 64 }) (z1 D [(pr, .inr (3, [.ref bd, .int (nI t)])), (bd, .inl (cI, 6003, .inl bf))] [(cI, .int)] [.ref pr, .int (nI q)]) (vp_Si (fun r => r = k_off (bf (t * 3 + q)))) 0 0 (fun _ => False) := by
  refine zm1 (cc := cX3_offerNow) (maxL := 2) (ret := (some .int)) (by decide) rfl (Nat.le_of_ble_eq_true rfl) ?_
  intro p e s m below meth c ls hx hb hml hr hlocks hown hts hP hK hG hl
  have hl : lv_has ls 2 [(0, .ref pr), (1, .int (nI q))] := hl
  have k_0 := hts (.fieldLink RX3 15 "UnitContracts$Prices" "latest" "I") (List.mem_of_getElem? (i := 1) rfl)
  have i_RX3 : ∀ w ∈ u_ws RX3 TX3 2, w ∈ wsX3_offerNow := by decide +kernel
  refine lv_aload_n hx hb dX3_offerNow_0 rfl (lv_at hl 0 rfl) ?_
  refine lv_iload_n hx hb dX3_offerNow_1 rfl (lv_at hl 1 rfl) ?_
  refine lv_aload_n hx hb dX3_offerNow_2 rfl (lv_at hl 0 rfl) ?_
  refine va_get (D := D) (ci := 3) (v := .int (nI t)) (C := RX3) (T := TX3) (N := 2) hx hb hts i_RX3 hown hK hP 0 rfl rfl 1 (by decide) k_0 (fun _ h9 => h9) rfl dX3_offerNow_3 ?_
  refine vp_callSi (W.runV (As := [.int (nI q), .int (nI t)]) (rest := []) ⟨hx, hb, hml, hown, hts⟩ (m_X3_offerOn l D pr bd cI t bf q t (by first | omega | assumption) (by first | omega | assumption)) (cwV 2 hts gX3_offerNow_X3_offerOn rfl rfl rfl (by decide +kernel) ⟨Nat.le_of_ble_eq_true rfl, Nat.le_of_ble_eq_true rfl⟩) (z1_V (va_recv hK hP (ci := 3) (q0 := 0) rfl rfl) (hP.sub (ws' := [(pr, .inr (3, [.ref bd, .int (nI t)])), (bd, .inl (cI, 6003, .inl bf))]) [0, 1] rfl) (hK.sub (tys' := [(cI, .int)]) [0] rfl) hG) rfl rfl hl.1 rfl (lv_room (Nat.le_of_ble_eq_true rfl)) dX3_offerNow_6 ⟨Nat.le_of_ble_eq_true rfl, Nat.le_of_ble_eq_true rfl⟩) (fun r_1 e_r_1 => ?_)
  replace e_r_1 := e_r_1.symm; subst e_r_1
  exact zreti1 hx hb hr hlocks dX3_offerNow_9 (by first | rfl | (subst_vars; rfl))

set_option maxHeartbeats 4000000 in
set_option maxRecDepth 100000 in
/-- addDay(p0, p1, p2) -/
theorem m_X3_addDay (l : Launch) (D : va_G) (pr bd : Nat) (cI : ClassId) (t : Nat) (bf : Nat → Int32) (p0 p1 p2 : Int32) (ht : t < 2000) (sz : Nat)  : Met l yX3_addDay wsX3_addDay ({ frames := 0, cells := 0, slots := 0, locals := 0 }) (z2 D [(pr, .inr (3, [.ref bd, .int (nI t)])), (bd, .inl (cI, 6003, .inl bf))] [(cI, .int)] sz [.ref pr, .int p0, .int p1, .int p2]) (va_Qv (fun _ : Unit => True) (zB D [(cI, .int)] [(pr, .inr (3, [.ref bd, .int (nI (t + 1))])), (bd, .inl (cI, 6003, .inl (upd (upd (upd bf ((t + 1) * 3) p0) ((t + 1) * 3 + 1) p1) ((t + 1) * 3 + 2) p2)))] (va_A [(pr, .inr (3, [.ref bd, .int (nI t)])), (bd, .inl (cI, 6003, .inl bf))] sz)) (va_A [(pr, .inr (3, [.ref bd, .int (nI t)])), (bd, .inl (cI, 6003, .inl bf))] sz)) 0 0 (va_A [(pr, .inr (3, [.ref bd, .int (nI t)])), (bd, .inl (cI, 6003, .inl bf))] sz) := by
  refine zm2 (cc := cX3_addDay) (maxL := 4) (ret := none) (by decide) rfl (Nat.le_of_ble_eq_true rfl) ?_
  intro p e s m below meth c ls A hAe hsz hin hx hb hml hr hlocks hown hts hP hK hG hD hA hS hl
  subst hsz
  have hl : lv_has ls 4 [(0, .ref pr), (1, .int p0), (2, .int p1), (3, .int p2)] := hl
  have k_0 := hts (.fieldLink RX3 15 "UnitContracts$Prices" "latest" "I") (List.mem_of_getElem? (i := 1) rfl)
  have i_RX3 : ∀ w ∈ u_ws RX3 TX3 2, w ∈ wsX3_addDay := by decide +kernel
  have k_2 := hts (.fieldLink RX3 9 "UnitContracts$Prices" "bids" "[I") (List.mem_of_getElem? (i := 2) rfl)
  refine lv_aload_n hx hb dX3_addDay_0 rfl (lv_at hl 0 rfl) ?_
  refine va_get (D := D) (ci := 3) (v := .int (nI t)) (C := RX3) (T := TX3) (N := 2) hx hb hts i_RX3 hown hK hP 0 rfl rfl 1 (by decide) k_0 (fun _ h9 => h9) rfl dX3_addDay_1 ?_
  refine lv_if_lt (tgt := 67) hx hb dX3_addDay_4 (by decide) (fun h9 => absurd h9 (fun h8 => absurd ((nI_ltI (a := t) (b := 0) (by omega) (by omega)).mp h8) (by omega))) (fun _ => ?_)
  refine lv_aload_n hx hb dX3_addDay_7 rfl (lv_at hl 0 rfl) ?_
  refine va_get (D := D) (ci := 3) (v := .int (nI t)) (C := RX3) (T := TX3) (N := 2) hx hb hts i_RX3 hown hK hP 0 rfl rfl 1 (by decide) k_0 (fun _ h9 => h9) rfl dX3_addDay_8 ?_
  refine lv_sipush (v := nI 2000) hx hb dX3_addDay_11 (by decide) ?_
  refine lv_icmp_ge (tgt := 67) hx hb dX3_addDay_14 (by decide) (fun h9 => absurd h9 (fun h8 => absurd ((nI_leI (a := 2000) (b := t) (by omega) (by omega)).mp h8) (by omega))) (fun _ => ?_)
  refine lv_aload_n hx hb dX3_addDay_17 rfl (lv_at hl 0 rfl) ?_
  refine lv_dup hx hb dX3_addDay_18 rfl ?_
  refine va_get (D := D) (ci := 3) (v := .int (nI t)) (C := RX3) (T := TX3) (N := 2) hx hb hts i_RX3 hown hK hP 0 rfl rfl 1 (by decide) k_0 (fun _ h9 => h9) rfl dX3_addDay_19 ?_
  refine lv_iconst (v := nI 1) hx hb dX3_addDay_22 (by decide) ?_
  refine zx_iadd (v := nI (t + 1)) hx hb dX3_addDay_23 (nI_add _ _) ?_
  refine va_put (D := D) (ci := 3) (v := .int (nI (t + 1))) (ty := .int) (C := RX3) (T := TX3) (N := 2) hx hb hts i_RX3 tyX3 tyX3_ok nmX3 hown hK hP hD hS 0 rfl rfl 1 (by decide) k_0 (fun _ h9 => h9) rfl (by decide +kernel) rfl rfl (Nat.le_of_ble_eq_true rfl) dX3_addDay_24 (fun H locs hP hD hS => ?_)
  have hP : va_P D vwCl [(pr, .inr (3, [.ref bd, .int (nI (t + 1))])), (bd, .inl (cI, 6003, .inl bf))] H := hP
  have hD : va_D A [(pr, .inr (3, [.ref bd, .int (nI (t + 1))])), (bd, .inl (cI, 6003, .inl bf))] := hD
  refine lv_aload_n hx hb dX3_addDay_27 rfl (lv_at hl 0 rfl) ?_
  refine va_get (D := D) (ci := 3) (v := .ref bd) (C := RX3) (T := TX3) (N := 2) hx hb hts i_RX3 hown hK hP 0 rfl rfl 0 (by decide) k_2 (fun _ h9 => h9) rfl dX3_addDay_28 ?_
  refine lv_aload_n hx hb dX3_addDay_31 rfl (lv_at hl 0 rfl) ?_
  refine va_get (D := D) (ci := 3) (v := .int (nI (t + 1))) (C := RX3) (T := TX3) (N := 2) hx hb hts i_RX3 hown hK hP 0 rfl rfl 1 (by decide) k_0 (fun _ h9 => h9) rfl dX3_addDay_32 ?_
  refine lv_iconst (v := nI 3) hx hb dX3_addDay_35 (by decide) ?_
  refine zx_imul (v := nI ((t + 1) * 3)) hx hb dX3_addDay_36 (pk_mul _ _) ?_
  refine lv_iload_n hx hb dX3_addDay_37 rfl (lv_at hl 1 rfl) ?_
  refine zx_iast (D := D) hx hb hK hP hD hS 1 0 rfl rfl (by omega) (by decide) dX3_addDay_38 (fun H locs hP hD hS => ?_)
  have hP : va_P D vwCl [(pr, .inr (3, [.ref bd, .int (nI (t + 1))])), (bd, .inl (cI, 6003, .inl (upd bf ((t + 1) * 3) p0)))] H := hP
  have hD : va_D A [(pr, .inr (3, [.ref bd, .int (nI (t + 1))])), (bd, .inl (cI, 6003, .inl (upd bf ((t + 1) * 3) p0)))] := hD
  refine lv_aload_n hx hb dX3_addDay_39 rfl (lv_at hl 0 rfl) ?_
  refine va_get (D := D) (ci := 3) (v := .ref bd) (C := RX3) (T := TX3) (N := 2) hx hb hts i_RX3 hown hK hP 0 rfl rfl 0 (by decide) k_2 (fun _ h9 => h9) rfl dX3_addDay_40 ?_
  refine lv_aload_n hx hb dX3_addDay_43 rfl (lv_at hl 0 rfl) ?_
  refine va_get (D := D) (ci := 3) (v := .int (nI (t + 1))) (C := RX3) (T := TX3) (N := 2) hx hb hts i_RX3 hown hK hP 0 rfl rfl 1 (by decide) k_0 (fun _ h9 => h9) rfl dX3_addDay_44 ?_
  refine lv_iconst (v := nI 3) hx hb dX3_addDay_47 (by decide) ?_
  refine zx_imul (v := nI ((t + 1) * 3)) hx hb dX3_addDay_48 (pk_mul _ _) ?_
  refine lv_iconst (v := nI 1) hx hb dX3_addDay_49 (by decide) ?_
  refine zx_iadd (v := nI (((t + 1) * 3) + 1)) hx hb dX3_addDay_50 (nI_add _ _) ?_
  refine lv_iload_n hx hb dX3_addDay_51 rfl (lv_at hl 2 rfl) ?_
  refine zx_iast (D := D) hx hb hK hP hD hS 1 0 rfl rfl (by omega) (by decide) dX3_addDay_52 (fun H locs hP hD hS => ?_)
  have hP : va_P D vwCl [(pr, .inr (3, [.ref bd, .int (nI (t + 1))])), (bd, .inl (cI, 6003, .inl (upd (upd bf ((t + 1) * 3) p0) (((t + 1) * 3) + 1) p1)))] H := hP
  have hD : va_D A [(pr, .inr (3, [.ref bd, .int (nI (t + 1))])), (bd, .inl (cI, 6003, .inl (upd (upd bf ((t + 1) * 3) p0) (((t + 1) * 3) + 1) p1)))] := hD
  refine lv_aload_n hx hb dX3_addDay_53 rfl (lv_at hl 0 rfl) ?_
  refine va_get (D := D) (ci := 3) (v := .ref bd) (C := RX3) (T := TX3) (N := 2) hx hb hts i_RX3 hown hK hP 0 rfl rfl 0 (by decide) k_2 (fun _ h9 => h9) rfl dX3_addDay_54 ?_
  refine lv_aload_n hx hb dX3_addDay_57 rfl (lv_at hl 0 rfl) ?_
  refine va_get (D := D) (ci := 3) (v := .int (nI (t + 1))) (C := RX3) (T := TX3) (N := 2) hx hb hts i_RX3 hown hK hP 0 rfl rfl 1 (by decide) k_0 (fun _ h9 => h9) rfl dX3_addDay_58 ?_
  refine lv_iconst (v := nI 3) hx hb dX3_addDay_61 (by decide) ?_
  refine zx_imul (v := nI ((t + 1) * 3)) hx hb dX3_addDay_62 (pk_mul _ _) ?_
  refine lv_iconst (v := nI 2) hx hb dX3_addDay_63 (by decide) ?_
  refine zx_iadd (v := nI (((t + 1) * 3) + 2)) hx hb dX3_addDay_64 (nI_add _ _) ?_
  refine lv_iload_n hx hb dX3_addDay_65 rfl (lv_at hl 3 rfl) ?_
  refine zx_iast (D := D) hx hb hK hP hD hS 1 0 rfl rfl (by omega) (by decide) dX3_addDay_66 (fun H locs hP hD hS => ?_)
  have hP : va_P D vwCl [(pr, .inr (3, [.ref bd, .int (nI (t + 1))])), (bd, .inl (cI, 6003, .inl (upd (upd (upd bf ((t + 1) * 3) p0) (((t + 1) * 3) + 1) p1) (((t + 1) * 3) + 2) p2)))] H := hP
  have hD : va_D A [(pr, .inr (3, [.ref bd, .int (nI (t + 1))])), (bd, .inl (cI, 6003, .inl (upd (upd (upd bf ((t + 1) * 3) p0) (((t + 1) * 3) + 1) p1) (((t + 1) * 3) + 2) p2)))] := hD
  subst hAe
  exact zretv (D := D) (wf := [(pr, .inr (3, [.ref bd, .int (nI (t + 1))])), (bd, .inl (cI, 6003, .inl (upd (upd (upd bf ((t + 1) * 3) p0) ((t + 1) * 3 + 1) p1) ((t + 1) * 3 + 2) p2)))]) hx hb hr hlocks (hP.sub [0, 1] rfl) hK (hD.sub [0, 1] (by decide) rfl) hS dX3_addDay_67 (Nat.le_of_ble_eq_true rfl) (Nat.le_of_ble_eq_true rfl)
