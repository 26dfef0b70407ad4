set_option maxHeartbeats 4000000 in
set_option maxRecDepth 100000 in
/-- premiumMoney() -/
theorem m_X0_premiumMoney (l : Launch) (D : va_G) (co ac : Nat) (cJ : ClassId) (pm sm rt : Int32) (fu : Nat) (ini : Int64) (np : Nat) (al : Int32) (acc : Nat → Int64)  : Met l yX0_premiumMoney wsX0_premiumMoney ({ frames := 0, cells := 0, slots := 0, locals := 0 }) (z1 D [(co, .inr (1, [.int pm, .int sm, .int rt, .int (nI fu), .ref ac, .long ini, .int (nI np), .int al])), (ac, .inl (cJ, 3, .inr (.inl acc)))] [(cJ, .long)] [.ref co]) (vp_Si (fun r => r = pm)) 0 0 (fun _ => False) := by
  refine zm1 (cc := cX0_premiumMoney) (maxL := 1) (ret := (some .int)) (by decide) rfl (Nat.le_of_ble_eq_true rfl) ?_
  intro p e s m below meth c ls hx hb hml hr hlocks hown hts hP hK hG hl
  have hl : lv_has ls 1 [(0, .ref co)] := hl
  have k_0 := hts (.fieldLink RX0 19 "UnitContracts$Contract" "premium" "I") (List.mem_of_getElem? (i := 1) rfl)
  have i_RX0 : ∀ w ∈ u_ws RX0 TX0 8, w ∈ wsX0_premiumMoney := by decide +kernel
  refine lv_aload_n hx hb dX0_premiumMoney_0 rfl (lv_at hl 0 rfl) ?_
  refine va_get (D := D) (ci := 1) (v := .int pm) (C := RX0) (T := TX0) (N := 8) hx hb hts i_RX0 hown hK hP 0 rfl rfl 0 (by decide) k_0 (fun _ h9 => h9) rfl dX0_premiumMoney_1 ?_
  exact zreti1 hx hb hr hlocks dX0_premiumMoney_4 (by first | rfl | (subst_vars; rfl))

set_option maxHeartbeats 4000000 in
set_option maxRecDepth 100000 in
/-- premiumFund() -/
theorem m_X0_premiumFund (l : Launch) (D : va_G) (co ac : Nat) (cJ : ClassId) (pm sm rt : Int32) (fu : Nat) (ini : Int64) (np : Nat) (al : Int32) (acc : Nat → Int64)  : Met l yX0_premiumFund wsX0_premiumFund ({ frames := 0, cells := 0, slots := 0, locals := 0 }) (z1 D [(co, .inr (1, [.int pm, .int sm, .int rt, .int (nI fu), .ref ac, .long ini, .int (nI np), .int al])), (ac, .inl (cJ, 3, .inr (.inl acc)))] [(cJ, .long)] [.ref co]) (vp_Si (fun r => r = nI fu)) 0 0 (fun _ => False) := by
  refine zm1 (cc := cX0_premiumFund) (maxL := 1) (ret := (some .int)) (by decide) rfl (Nat.le_of_ble_eq_true rfl) ?_
  intro p e s m below meth c ls hx hb hml hr hlocks hown hts hP hK hG hl
  have hl : lv_has ls 1 [(0, .ref co)] := hl
  have k_0 := hts (.fieldLink RX0 29 "UnitContracts$Contract" "fund" "I") (List.mem_of_getElem? (i := 1) rfl)
  have i_RX0 : ∀ w ∈ u_ws RX0 TX0 8, w ∈ wsX0_premiumFund := by decide +kernel
  refine lv_aload_n hx hb dX0_premiumFund_0 rfl (lv_at hl 0 rfl) ?_
  refine va_get (D := D) (ci := 1) (v := .int (nI fu)) (C := RX0) (T := TX0) (N := 8) hx hb hts i_RX0 hown hK hP 0 rfl rfl 3 (by decide) k_0 (fun _ h9 => h9) rfl dX0_premiumFund_1 ?_
  exact zreti1 hx hb hr hlocks dX0_premiumFund_4 (by first | rfl | (subst_vars; rfl))

set_option maxHeartbeats 4000000 in
set_option maxRecDepth 100000 in
/-- premiumsMade() -/
theorem m_X0_premiumsMade (l : Launch) (D : va_G) (co ac : Nat) (cJ : ClassId) (pm sm rt : Int32) (fu : Nat) (ini : Int64) (np : Nat) (al : Int32) (acc : Nat → Int64)  : Met l yX0_premiumsMade wsX0_premiumsMade ({ frames := 0, cells := 0, slots := 0, locals := 0 }) (z1 D [(co, .inr (1, [.int pm, .int sm, .int rt, .int (nI fu), .ref ac, .long ini, .int (nI np), .int al])), (ac, .inl (cJ, 3, .inr (.inl acc)))] [(cJ, .long)] [.ref co]) (vp_Si (fun r => r = nI np)) 0 0 (fun _ => False) := by
  refine zm1 (cc := cX0_premiumsMade) (maxL := 1) (ret := (some .int)) (by decide) rfl (Nat.le_of_ble_eq_true rfl) ?_
  intro p e s m below meth c ls hx hb hml hr hlocks hown hts hP hK hG hl
  have hl : lv_has ls 1 [(0, .ref co)] := hl
  have k_0 := hts (.fieldLink RX0 32 "UnitContracts$Contract" "premiums" "I") (List.mem_of_getElem? (i := 1) rfl)
  have i_RX0 : ∀ w ∈ u_ws RX0 TX0 8, w ∈ wsX0_premiumsMade := by decide +kernel
  refine lv_aload_n hx hb dX0_premiumsMade_0 rfl (lv_at hl 0 rfl) ?_
  refine va_get (D := D) (ci := 1) (v := .int (nI np)) (C := RX0) (T := TX0) (N := 8) hx hb hts i_RX0 hown hK hP 0 rfl rfl 6 (by decide) k_0 (fun _ h9 => h9) rfl dX0_premiumsMade_1 ?_
  exact zreti1 hx hb hr hlocks dX0_premiumsMade_4 (by first | rfl | (subst_vars; rfl))

set_option maxHeartbeats 4000000 in
set_option maxRecDepth 100000 in
/-- initialLeft() -/
theorem m_X0_initialLeft (l : Launch) (D : va_G) (co ac : Nat) (cJ : ClassId) (pm sm rt : Int32) (fu : Nat) (ini : Int64) (np : Nat) (al : Int32) (acc : Nat → Int64)  : Met l yX0_initialLeft wsX0_initialLeft ({ frames := 0, cells := 0, slots := 0, locals := 0 }) (z1 D [(co, .inr (1, [.int pm, .int sm, .int rt, .int (nI fu), .ref ac, .long ini, .int (nI np), .int al])), (ac, .inl (cJ, 3, .inr (.inl acc)))] [(cJ, .long)] [.ref co]) (vp_Sl (fun r => r = ini)) 0 0 (fun _ => False) := by
  refine zm1 (cc := cX0_initialLeft) (maxL := 1) (ret := (some .long)) (by decide) rfl (Nat.le_of_ble_eq_true rfl) ?_
  intro p e s m below meth c ls hx hb hml hr hlocks hown hts hP hK hG hl
  have hl : lv_has ls 1 [(0, .ref co)] := hl
  have k_0 := hts (.fieldLink RX0 35 "UnitContracts$Contract" "initialUnits" "J") (List.mem_of_getElem? (i := 1) rfl)
  have i_RX0 : ∀ w ∈ u_ws RX0 TX0 8, w ∈ wsX0_initialLeft := by decide +kernel
  refine lv_aload_n hx hb dX0_initialLeft_0 rfl (lv_at hl 0 rfl) ?_
  refine va_get (D := D) (ci := 1) (v := .long ini) (C := RX0) (T := TX0) (N := 8) hx hb hts i_RX0 hown hK hP 0 rfl rfl 5 (by decide) k_0 (fun _ h9 => h9) rfl dX0_initialLeft_1 ?_
  exact zretl1 hx hb hr hlocks dX0_initialLeft_4 (by first | rfl | (subst_vars; rfl))

set_option maxHeartbeats 4000000 in
set_option maxRecDepth 100000 in
/-- isAlive() -/
theorem m_X0_isAlive (l : Launch) (D : va_G) (co ac : Nat) (cJ : ClassId) (pm sm rt : Int32) (fu : Nat) (ini : Int64) (np : Nat) (al : Int32) (acc : Nat → Int64) (hal : narrow .boolean (.int al) = .int al) : Met l yX0_isAlive wsX0_isAlive ({ frames := 0, cells := 0, slots := 0, locals := 0 }) (z1 D [(co, .inr (1, [.int pm, .int sm, .int rt, .int (nI fu), .ref ac, .long ini, .int (nI np), .int al])), (ac, .inl (cJ, 3, .inr (.inl acc)))] [(cJ, .long)] [.ref co]) (vp_Si (fun r => r = al)) 0 0 (fun _ => False) := by
  refine zm1 (cc := cX0_isAlive) (maxL := 1) (ret := (some .boolean)) (by decide) rfl (Nat.le_of_ble_eq_true rfl) ?_
  intro p e s m below meth c ls hx hb hml hr hlocks hown hts hP hK hG hl
  have hl : lv_has ls 1 [(0, .ref co)] := hl
  have k_0 := hts (.fieldLink RX0 15 "UnitContracts$Contract" "alive" "Z") (List.mem_of_getElem? (i := 1) rfl)
  have i_RX0 : ∀ w ∈ u_ws RX0 TX0 8, w ∈ wsX0_isAlive := by decide +kernel
  refine lv_aload_n hx hb dX0_isAlive_0 rfl (lv_at hl 0 rfl) ?_
  refine va_get (D := D) (ci := 1) (v := .int al) (C := RX0) (T := TX0) (N := 8) hx hb hts i_RX0 hown hK hP 0 rfl rfl 7 (by decide) k_0 (fun _ h9 => h9) rfl dX0_isAlive_1 ?_
  exact zretz1 hx hb hr hlocks dX0_isAlive_4 hal (by first | rfl | (subst_vars; rfl))

set_option maxHeartbeats 4000000 in
set_option maxRecDepth 100000 in
/-- accumulatedIn(fund) -/
theorem m_X0_accumulatedIn (l : Launch) (D : va_G) (co ac : Nat) (cJ : ClassId) (pm sm rt : Int32) (fu : Nat) (ini : Int64) (np : Nat) (al : Int32) (acc : Nat → Int64) (q : Nat) (hq : q < 3) : Met l yX0_accumulatedIn wsX0_accumulatedIn ({ frames := 1, cells := 0, slots := 0, locals := 20 }) (z1 D [(co, .inr (1, [.int pm, .int sm, .int rt, .int (nI fu), .ref ac, .long ini, .int (nI np), .int al])), (ac, .inl (cJ, 3, .inr (.inl acc)))] [(cJ, .long)] [.ref co, .int (nI q)]) (vp_Sl (fun r => r = acc q)) 0 0 (fun _ => False) := by
  refine zm1 (cc := cX0_accumulatedIn) (maxL := 2) (ret := (some .long)) (by decide) rfl (Nat.le_of_ble_eq_true rfl) ?_
  intro p e s m below meth c ls hx hb hml hr hlocks hown hts hP hK hG hl
  have hl : lv_has ls 2 [(0, .ref co), (1, .int (nI q))] := hl
  have k_0 := hts (.initialized RX5) (List.mem_of_getElem? (i := 3) rfl)
  have k_1 := hts (.static yX5_isFund) (List.mem_of_getElem? (i := 2) rfl)
  have k_2 := hts (.fieldLink RX0 9 "UnitContracts$Contract" "accumulation" "[J") (List.mem_of_getElem? (i := 1) rfl)
  have i_RX0 : ∀ w ∈ u_ws RX0 TX0 8, w ∈ wsX0_accumulatedIn := by decide +kernel
  refine lv_iload_n hx hb dX0_accumulatedIn_0 rfl (lv_at hl 1 rfl) ?_
  refine vp_callSi (zrun <| va_runSN (As := [.int (nI q)]) (rest := []) ⟨hx, hb, hml, hown, hts⟩ (m_X5_isFund l (nI q)) ⟨va_cnB (host := "UnitContracts") 1 hts gX0_accumulatedIn_X5_isFund_n39 rfl rfl rfl (hG.1 _ (by decide +kernel)) k_0 (by decide +kernel) ⟨Nat.le_of_ble_eq_true rfl, Nat.le_of_ble_eq_true rfl⟩, k_1, trivial⟩ z0_S rfl rfl hl.1 rfl (lv_room (Nat.le_of_ble_eq_true rfl)) dX0_accumulatedIn_1 ⟨Nat.le_of_ble_eq_true rfl, Nat.le_of_ble_eq_true rfl⟩) (fun r_1 e_r_1 => ?_)
  have e_r_1 : r_1 = nI 1 := e_r_1.trans (k_isFund_n (by omega))
  replace e_r_1 := e_r_1.symm; subst e_r_1
  refine lv_if_eq (tgt := 16) hx hb dX0_accumulatedIn_4 (by decide) (fun h9 => absurd h9 (by decide)) (fun _ => ?_)
  refine lv_aload_n hx hb dX0_accumulatedIn_7 rfl (lv_at hl 0 rfl) ?_
  refine va_get (D := D) (ci := 1) (v := .ref ac) (C := RX0) (T := TX0) (N := 8) hx hb hts i_RX0 hown hK hP 0 rfl rfl 4 (by decide) k_2 (fun _ h9 => h9) rfl dX0_accumulatedIn_8 ?_
  refine lv_iload_n hx hb dX0_accumulatedIn_11 rfl (lv_at hl 1 rfl) ?_
  refine zx_lald (D := D) hx hb hK hP 1 0 rfl rfl (v := acc q) (rfl) (by omega) (by first | decide | omega) dX0_accumulatedIn_12 ?_
  refine lv_goto (tgt := 17) hx hb dX0_accumulatedIn_13 (by decide) ?_
  exact zretl1 hx hb hr hlocks dX0_accumulatedIn_17 (by first | rfl | (subst_vars; rfl))

set_option maxHeartbeats 4000000 in
set_option maxRecDepth 100000 in
/-- allUnitsIn(fund) -/
theorem m_X0_allUnitsIn (l : Launch) (D : va_G) (co ac : Nat) (cJ : ClassId) (pm sm rt : Int32) (fu : Nat) (ini : Int64) (np : Nat) (al : Int32) (acc : Nat → Int64) (q : Nat) (hq : q < 3) (hfu : fu < 3) : Met l yX0_allUnitsIn wsX0_allUnitsIn ({ frames := 2, cells := 0, slots := 0, locals := 41 }) (z1 D [(co, .inr (1, [.int pm, .int sm, .int rt, .int (nI fu), .ref ac, .long ini, .int (nI np), .int al])), (ac, .inl (cJ, 3, .inr (.inl acc)))] [(cJ, .long)] [.ref co, .int (nI q)]) (vp_Sl (fun r => r = acc q + k_ini q fu ini)) 0 0 (fun _ => False) := by
  refine zm1 (cc := cX0_allUnitsIn) (maxL := 2) (ret := (some .long)) (by decide) rfl (Nat.le_of_ble_eq_true rfl) ?_
  intro p e s m below meth c ls hx hb hml hr hlocks hown hts hP hK hG hl
  have hl : lv_has ls 2 [(0, .ref co), (1, .int (nI q))] := hl
  have k_0 := hts (.fieldLink RX0 29 "UnitContracts$Contract" "fund" "I") (List.mem_of_getElem? (i := 1) rfl)
  have i_RX0 : ∀ w ∈ u_ws RX0 TX0 8, w ∈ wsX0_allUnitsIn := by decide +kernel
  have k_2 := hts (.fieldLink RX0 35 "UnitContracts$Contract" "initialUnits" "J") (List.mem_of_getElem? (i := 2) rfl)
  refine lv_aload_n hx hb dX0_allUnitsIn_0 rfl (lv_at hl 0 rfl) ?_
  refine lv_iload_n hx hb dX0_allUnitsIn_1 rfl (lv_at hl 1 rfl) ?_
  refine vp_callSl (W.runV (As := [.int (nI q)]) (rest := []) ⟨hx, hb, hml, hown, hts⟩ (m_X0_accumulatedIn l D co ac cJ pm sm rt fu ini np al acc q (by first | omega | assumption)) (cwV 1 hts gX0_allUnitsIn_X0_accumulatedIn rfl rfl rfl (by decide +kernel) ⟨Nat.le_of_ble_eq_true rfl, Nat.le_of_ble_eq_true rfl⟩) (z1_V (va_recv hK hP (ci := 1) (q0 := 0) rfl rfl) (hP.sub (ws' := [(co, .inr (1, [.int pm, .int sm, .int rt, .int (nI fu), .ref ac, .long ini, .int (nI np), .int al])), (ac, .inl (cJ, 3, .inr (.inl acc)))]) [0, 1] rfl) (hK.sub (tys' := [(cJ, .long)]) [0] rfl) hG) rfl rfl hl.1 rfl (lv_room (Nat.le_of_ble_eq_true rfl)) dX0_allUnitsIn_2 ⟨Nat.le_of_ble_eq_true rfl, Nat.le_of_ble_eq_true rfl⟩) (fun r_1 e_r_1 => ?_)
  replace e_r_1 := e_r_1.symm; subst e_r_1
  refine lv_iload_n hx hb dX0_allUnitsIn_5 rfl (lv_at hl 1 rfl) ?_
  refine lv_aload_n hx hb dX0_allUnitsIn_6 rfl (lv_at hl 0 rfl) ?_
  refine va_get (D := D) (ci := 1) (v := .int (nI fu)) (C := RX0) (T := TX0) (N := 8) hx hb hts i_RX0 hown hK hP 0 rfl rfl 3 (by decide) k_0 (fun _ h9 => h9) rfl dX0_allUnitsIn_7 ?_
  refine zj (T := Int64) (fr := fun z => F0 m 21 ls (.long z :: [.long (acc q)])) (if (nI q) = (nI fu) then ini else 0) (fun z_2 e_z_2 => ?_) (fun j_z_2 => ?_)
  · skip
    refine zx_ladd (v := (acc q) + z_2) hx hb dX0_allUnitsIn_21 (rfl) ?_
    exact zretl1 hx hb hr hlocks dX0_allUnitsIn_22 (by subst_vars; rw [k_iniL (by omega) (by omega)])
  · refine lv_icmp_ne (tgt := 20) hx hb dX0_allUnitsIn_10 (by decide) (fun c_10 => ?_) (fun c_10 => ?_)
    · skip
      refine lv_lconst (v := 0) hx hb dX0_allUnitsIn_20 (by decide) ?_
      exact j_z_2 _ (by rw [if_neg c_10])
    · skip
      refine lv_aload_n hx hb dX0_allUnitsIn_13 rfl (lv_at hl 0 rfl) ?_
      refine va_get (D := D) (ci := 1) (v := .long ini) (C := RX0) (T := TX0) (N := 8) hx hb hts i_RX0 hown hK hP 0 rfl rfl 5 (by decide) k_2 (fun _ h9 => h9) rfl dX0_allUnitsIn_14 ?_
      refine lv_goto (tgt := 21) hx hb dX0_allUnitsIn_17 (by decide) ?_
      exact j_z_2 _ (by rw [if_pos c_10])

set_option maxHeartbeats 4000000 in
set_option maxRecDepth 100000 in
/-- worthAt(prices) -/
theorem m_X0_worthAt (l : Launch) (D : va_G) (co ac : Nat) (cJ : ClassId) (pm sm rt : Int32) (fu : Nat) (ini : Int64) (np : Nat) (al : Int32) (acc : Nat → Int64) (pr bd : Nat) (cI : ClassId) (t : Nat) (bf : Nat → Int32) (hfu : fu < 3) (ht : t ≤ 2000) : Met l yX0_worthAt wsX0_worthAt ({ frames := 3, cells := 0, slots := 0, locals := 63 }) (z1 D [(co, .inr (1, [.int pm, .int sm, .int rt, .int (nI fu), .ref ac, .long ini, .int (nI np), .int al])), (ac, .inl (cJ, 3, .inr (.inl acc))), (pr, .inr (3, [.ref bd, .int (nI t)])), (bd, .inl (cI, 6003, .inl bf))] [(cJ, .long), (cI, .int)] [.ref co, .ref pr]) (vp_Sl (fun r => r = k_worth ini (bf (t * 3 + fu)) (bf (t * 3 + 0)) (bf (t * 3 + 1)) (bf (t * 3 + 2)) (acc 0) (acc 1) (acc 2))) 0 0 (fun _ => False) := by
  refine zm1 (cc := cX0_worthAt) (maxL := 5) (ret := (some .long)) (by decide) rfl (Nat.le_of_ble_eq_true rfl) ?_
  intro p e s m below meth c ls hx hb hml hr hlocks hown hts hP hK hG hl
  have hl : lv_has ls 5 [(0, .ref co), (1, .ref pr)] := hl
  have k_0 := hts (.fieldLink RX0 35 "UnitContracts$Contract" "initialUnits" "J") (List.mem_of_getElem? (i := 1) rfl)
  have i_RX0 : ∀ w ∈ u_ws RX0 TX0 8, w ∈ wsX0_worthAt := by decide +kernel
  have k_2 := hts (.fieldLink RX0 29 "UnitContracts$Contract" "fund" "I") (List.mem_of_getElem? (i := 2) rfl)
  have k_3 := hts (.initialized RX5) (List.mem_of_getElem? (i := 16) rfl)
  have k_4 := hts (.static yX5_moneyFor) (List.mem_of_getElem? (i := 18) rfl)
  have k_5 := hts (.fieldLink RX0 9 "UnitContracts$Contract" "accumulation" "[J") (List.mem_of_getElem? (i := 3) rfl)
  refine lv_aload_n hx hb dX0_worthAt_0 rfl (lv_at hl 0 rfl) ?_
  refine va_get (D := D) (ci := 1) (v := .long ini) (C := RX0) (T := TX0) (N := 8) hx hb hts i_RX0 hown hK hP 0 rfl rfl 5 (by decide) k_0 (fun _ h9 => h9) rfl dX0_worthAt_1 ?_
  refine lv_aload_n hx hb dX0_worthAt_4 rfl (lv_at hl 1 rfl) ?_
  refine lv_aload_n hx hb dX0_worthAt_5 rfl (lv_at hl 0 rfl) ?_
  refine va_get (D := D) (ci := 1) (v := .int (nI fu)) (C := RX0) (T := TX0) (N := 8) hx hb hts i_RX0 hown hK hP 0 rfl rfl 3 (by decide) k_2 (fun _ h9 => h9) rfl dX0_worthAt_6 ?_
  refine vp_callSi (W.runV (As := [.int (nI fu)]) (rest := [.long ini]) ⟨hx, hb, hml, hown, hts⟩ (m_X3_bidNow l D pr bd cI t bf fu (by first | omega | assumption) (by first | omega | assumption)) (cwV 1 hts gX0_worthAt_X3_bidNow rfl rfl rfl (by decide +kernel) ⟨Nat.le_of_ble_eq_true rfl, Nat.le_of_ble_eq_true rfl⟩) (z1_V (va_recv hK hP (ci := 3) (q0 := 2) rfl rfl) (hP.sub (ws' := [(pr, .inr (3, [.ref bd, .int (nI t)])), (bd, .inl (cI, 6003, .inl bf))]) [2, 3] rfl) (hK.sub (tys' := [(cI, .int)]) [1] rfl) hG) rfl rfl hl.1 rfl (lv_room (Nat.le_of_ble_eq_true rfl)) dX0_worthAt_9 ⟨Nat.le_of_ble_eq_true rfl, Nat.le_of_ble_eq_true rfl⟩) (fun r_1 e_r_1 => ?_)
  replace e_r_1 := e_r_1.symm; subst e_r_1
  refine lv_i2l (v := (bf (t * 3 + fu)).toInt64) hx hb dX0_worthAt_12 (rfl) ?_
  refine vp_callSl (zrun <| va_runSN (As := [.long ini, .long ((bf (t * 3 + fu)).toInt64)]) (rest := []) ⟨hx, hb, hml, hown, hts⟩ (m_X5_moneyFor l ini ((bf (t * 3 + fu)).toInt64)) ⟨va_cnB (host := "UnitContracts") 2 hts gX0_worthAt_X5_moneyFor_n53 rfl rfl rfl (hG.1 _ (by decide +kernel)) k_3 (by decide +kernel) ⟨Nat.le_of_ble_eq_true rfl, Nat.le_of_ble_eq_true rfl⟩, k_4, trivial⟩ z0_S rfl rfl hl.1 rfl (lv_room (Nat.le_of_ble_eq_true rfl)) dX0_worthAt_13 ⟨Nat.le_of_ble_eq_true rfl, Nat.le_of_ble_eq_true rfl⟩) (fun r_2 e_r_2 => ?_)
  replace e_r_2 := e_r_2.symm; subst e_r_2
  refine lv_lstore_n (lv' := [(2, .long (k_mon ini ((bf (t * 3 + fu)).toInt64))), (0, .ref co), (1, .ref pr)]) hx hb dX0_worthAt_16 rfl hl (by decide) rfl (fun ls hl => ?_)
  refine lv_iconst (v := nI 0) hx hb dX0_worthAt_17 (by decide) ?_
  refine lv_istore (lv' := [(4, .int (nI 0)), (2, .long (k_mon ini ((bf (t * 3 + fu)).toInt64))), (0, .ref co), (1, .ref pr)]) hx hb dX0_worthAt_18 hl (by decide) rfl (fun ls hl => ?_)
  refine lv_iload hx hb dX0_worthAt_20 (lv_at hl 0 rfl) ?_
  refine lv_aload_n hx hb dX0_worthAt_22 rfl (lv_at hl 2 rfl) ?_
  refine va_get (D := D) (ci := 1) (v := .ref ac) (C := RX0) (T := TX0) (N := 8) hx hb hts i_RX0 hown hK hP 0 rfl rfl 4 (by decide) k_5 (fun _ h9 => h9) rfl dX0_worthAt_23 ?_
  refine va_alen (D := D) (cl := vwCl) hx hb hK hP 1 0 rfl rfl (v := nI 3) rfl dX0_worthAt_26 ?_
  refine lv_icmp_ge (tgt := 56) hx hb dX0_worthAt_27 (by decide) (fun h9 => absurd h9 (by decide)) (fun _ => ?_)
  refine lv_lload_n hx hb dX0_worthAt_30 rfl (lv_at hl 1 rfl) ?_
  refine lv_aload_n hx hb dX0_worthAt_31 rfl (lv_at hl 2 rfl) ?_
  refine va_get (D := D) (ci := 1) (v := .ref ac) (C := RX0) (T := TX0) (N := 8) hx hb hts i_RX0 hown hK hP 0 rfl rfl 4 (by decide) k_5 (fun _ h9 => h9) rfl dX0_worthAt_32 ?_
  refine lv_iload hx hb dX0_worthAt_35 (lv_at hl 0 rfl) ?_
  refine zx_lald (D := D) hx hb hK hP 1 0 rfl rfl (v := acc 0) (rfl) (by decide) (by first | decide | omega) dX0_worthAt_37 ?_
  refine lv_aload_n hx hb dX0_worthAt_38 rfl (lv_at hl 3 rfl) ?_
  refine lv_iload hx hb dX0_worthAt_39 (lv_at hl 0 rfl) ?_
  refine vp_callSi (W.runV (As := [.int (nI 0)]) (rest := [.long (acc 0), .long (k_mon ini ((bf (t * 3 + fu)).toInt64))]) ⟨hx, hb, hml, hown, hts⟩ (m_X3_bidNow l D pr bd cI t bf 0 (by first | omega | assumption) (by first | omega | assumption)) (cwV 1 hts gX0_worthAt_X3_bidNow rfl rfl rfl (by decide +kernel) ⟨Nat.le_of_ble_eq_true rfl, Nat.le_of_ble_eq_true rfl⟩) (z1_V (va_recv hK hP (ci := 3) (q0 := 2) rfl rfl) (hP.sub (ws' := [(pr, .inr (3, [.ref bd, .int (nI t)])), (bd, .inl (cI, 6003, .inl bf))]) [2, 3] rfl) (hK.sub (tys' := [(cI, .int)]) [1] rfl) hG) rfl rfl hl.1 rfl (lv_room (Nat.le_of_ble_eq_true rfl)) dX0_worthAt_41 ⟨Nat.le_of_ble_eq_true rfl, Nat.le_of_ble_eq_true rfl⟩) (fun r_3 e_r_3 => ?_)
  replace e_r_3 := e_r_3.symm; subst e_r_3
  refine lv_i2l (v := (bf (t * 3 + 0)).toInt64) hx hb dX0_worthAt_44 (rfl) ?_
  refine vp_callSl (zrun <| va_runSN (As := [.long (acc 0), .long ((bf (t * 3 + 0)).toInt64)]) (rest := [.long (k_mon ini ((bf (t * 3 + fu)).toInt64))]) ⟨hx, hb, hml, hown, hts⟩ (m_X5_moneyFor l (acc 0) ((bf (t * 3 + 0)).toInt64)) ⟨va_cnB (host := "UnitContracts") 2 hts gX0_worthAt_X5_moneyFor_n53 rfl rfl rfl (hG.1 _ (by decide +kernel)) k_3 (by decide +kernel) ⟨Nat.le_of_ble_eq_true rfl, Nat.le_of_ble_eq_true rfl⟩, k_4, trivial⟩ z0_S rfl rfl hl.1 rfl (lv_room (Nat.le_of_ble_eq_true rfl)) dX0_worthAt_45 ⟨Nat.le_of_ble_eq_true rfl, Nat.le_of_ble_eq_true rfl⟩) (fun r_4 e_r_4 => ?_)
  replace e_r_4 := e_r_4.symm; subst e_r_4
  refine zx_ladd (v := (k_mon ini ((bf (t * 3 + fu)).toInt64)) + (k_mon (acc 0) ((bf (t * 3 + 0)).toInt64))) hx hb dX0_worthAt_48 (rfl) ?_
  refine lv_lstore_n (lv' := [(2, .long ((k_mon ini ((bf (t * 3 + fu)).toInt64)) + (k_mon (acc 0) ((bf (t * 3 + 0)).toInt64)))), (4, .int (nI 0)), (0, .ref co), (1, .ref pr)]) hx hb dX0_worthAt_49 rfl hl (by decide) rfl (fun ls hl => ?_)
  refine lv_iinc (v := nI 1) (lv' := [(4, .int (nI 1)), (2, .long ((k_mon ini ((bf (t * 3 + fu)).toInt64)) + (k_mon (acc 0) ((bf (t * 3 + 0)).toInt64)))), (0, .ref co), (1, .ref pr)]) hx hb dX0_worthAt_50 hl (k := 1) rfl (by decide) (by decide) rfl (fun ls hl => ?_)
  refine lv_goto (tgt := 20) hx hb dX0_worthAt_53 (by decide) ?_
  refine lv_iload hx hb dX0_worthAt_20 (lv_at hl 0 rfl) ?_
  refine lv_aload_n hx hb dX0_worthAt_22 rfl (lv_at hl 2 rfl) ?_
  refine va_get (D := D) (ci := 1) (v := .ref ac) (C := RX0) (T := TX0) (N := 8) hx hb hts i_RX0 hown hK hP 0 rfl rfl 4 (by decide) k_5 (fun _ h9 => h9) rfl dX0_worthAt_23 ?_
  refine va_alen (D := D) (cl := vwCl) hx hb hK hP 1 0 rfl rfl (v := nI 3) rfl dX0_worthAt_26 ?_
  refine lv_icmp_ge (tgt := 56) hx hb dX0_worthAt_27 (by decide) (fun h9 => absurd h9 (by decide)) (fun _ => ?_)
  refine lv_lload_n hx hb dX0_worthAt_30 rfl (lv_at hl 1 rfl) ?_
  refine lv_aload_n hx hb dX0_worthAt_31 rfl (lv_at hl 2 rfl) ?_
  refine va_get (D := D) (ci := 1) (v := .ref ac) (C := RX0) (T := TX0) (N := 8) hx hb hts i_RX0 hown hK hP 0 rfl rfl 4 (by decide) k_5 (fun _ h9 => h9) rfl dX0_worthAt_32 ?_
  refine lv_iload hx hb dX0_worthAt_35 (lv_at hl 0 rfl) ?_
  refine zx_lald (D := D) hx hb hK hP 1 0 rfl rfl (v := acc 1) (rfl) (by decide) (by first | decide | omega) dX0_worthAt_37 ?_
  refine lv_aload_n hx hb dX0_worthAt_38 rfl (lv_at hl 3 rfl) ?_
  refine lv_iload hx hb dX0_worthAt_39 (lv_at hl 0 rfl) ?_
  refine vp_callSi (W.runV (As := [.int (nI 1)]) (rest := [.long (acc 1), .long ((k_mon ini ((bf (t * 3 + fu)).toInt64)) + (k_mon (acc 0) ((bf (t * 3 + 0)).toInt64)))]) ⟨hx, hb, hml, hown, hts⟩ (m_X3_bidNow l D pr bd cI t bf 1 (by first | omega | assumption) (by first | omega | assumption)) (cwV 1 hts gX0_worthAt_X3_bidNow rfl rfl rfl (by decide +kernel) ⟨Nat.le_of_ble_eq_true rfl, Nat.le_of_ble_eq_true rfl⟩) (z1_V (va_recv hK hP (ci := 3) (q0 := 2) rfl rfl) (hP.sub (ws' := [(pr, .inr (3, [.ref bd, .int (nI t)])), (bd, .inl (cI, 6003, .inl bf))]) [2, 3] rfl) (hK.sub (tys' := [(cI, .int)]) [1] rfl) hG) rfl rfl hl.1 rfl (lv_room (Nat.le_of_ble_eq_true rfl)) dX0_worthAt_41 ⟨Nat.le_of_ble_eq_true rfl, Nat.le_of_ble_eq_true rfl⟩) (fun r_5 e_r_5 => ?_)
  replace e_r_5 := e_r_5.symm; subst e_r_5
  refine lv_i2l (v := (bf (t * 3 + 1)).toInt64) hx hb dX0_worthAt_44 (rfl) ?_
  refine vp_callSl (zrun <| va_runSN (As := [.long (acc 1), .long ((bf (t * 3 + 1)).toInt64)]) (rest := [.long ((k_mon ini ((bf (t * 3 + fu)).toInt64)) + (k_mon (acc 0) ((bf (t * 3 + 0)).toInt64)))]) ⟨hx, hb, hml, hown, hts⟩ (m_X5_moneyFor l (acc 1) ((bf (t * 3 + 1)).toInt64)) ⟨va_cnB (host := "UnitContracts") 2 hts gX0_worthAt_X5_moneyFor_n53 rfl rfl rfl (hG.1 _ (by decide +kernel)) k_3 (by decide +kernel) ⟨Nat.le_of_ble_eq_true rfl, Nat.le_of_ble_eq_true rfl⟩, k_4, trivial⟩ z0_S rfl rfl hl.1 rfl (lv_room (Nat.le_of_ble_eq_true rfl)) dX0_worthAt_45 ⟨Nat.le_of_ble_eq_true rfl, Nat.le_of_ble_eq_true rfl⟩) (fun r_6 e_r_6 => ?_)
  replace e_r_6 := e_r_6.symm; subst e_r_6
  refine zx_ladd (v := ((k_mon ini ((bf (t * 3 + fu)).toInt64)) + (k_mon (acc 0) ((bf (t * 3 + 0)).toInt64))) + (k_mon (acc 1) ((bf (t * 3 + 1)).toInt64))) hx hb dX0_worthAt_48 (rfl) ?_
  refine lv_lstore_n (lv' := [(2, .long (((k_mon ini ((bf (t * 3 + fu)).toInt64)) + (k_mon (acc 0) ((bf (t * 3 + 0)).toInt64))) + (k_mon (acc 1) ((bf (t * 3 + 1)).toInt64)))), (4, .int (nI 1)), (0, .ref co), (1, .ref pr)]) hx hb dX0_worthAt_49 rfl hl (by decide) rfl (fun ls hl => ?_)
  refine lv_iinc (v := nI 2) (lv' := [(4, .int (nI 2)), (2, .long (((k_mon ini ((bf (t * 3 + fu)).toInt64)) + (k_mon (acc 0) ((bf (t * 3 + 0)).toInt64))) + (k_mon (acc 1) ((bf (t * 3 + 1)).toInt64)))), (0, .ref co), (1, .ref pr)]) hx hb dX0_worthAt_50 hl (k := 1) rfl (by decide) (by decide) rfl (fun ls hl => ?_)
  refine lv_goto (tgt := 20) hx hb dX0_worthAt_53 (by decide) ?_
  refine lv_iload hx hb dX0_worthAt_20 (lv_at hl 0 rfl) ?_
  refine lv_aload_n hx hb dX0_worthAt_22 rfl (lv_at hl 2 rfl) ?_
  refine va_get (D := D) (ci := 1) (v := .ref ac) (C := RX0) (T := TX0) (N := 8) hx hb hts i_RX0 hown hK hP 0 rfl rfl 4 (by decide) k_5 (fun _ h9 => h9) rfl dX0_worthAt_23 ?_
  refine va_alen (D := D) (cl := vwCl) hx hb hK hP 1 0 rfl rfl (v := nI 3) rfl dX0_worthAt_26 ?_
  refine lv_icmp_ge (tgt := 56) hx hb dX0_worthAt_27 (by decide) (fun h9 => absurd h9 (by decide)) (fun _ => ?_)
  refine lv_lload_n hx hb dX0_worthAt_30 rfl (lv_at hl 1 rfl) ?_
  refine lv_aload_n hx hb dX0_worthAt_31 rfl (lv_at hl 2 rfl) ?_
  refine va_get (D := D) (ci := 1) (v := .ref ac) (C := RX0) (T := TX0) (N := 8) hx hb hts i_RX0 hown hK hP 0 rfl rfl 4 (by decide) k_5 (fun _ h9 => h9) rfl dX0_worthAt_32 ?_
  refine lv_iload hx hb dX0_worthAt_35 (lv_at hl 0 rfl) ?_
  refine zx_lald (D := D) hx hb hK hP 1 0 rfl rfl (v := acc 2) (rfl) (by decide) (by first | decide | omega) dX0_worthAt_37 ?_
  refine lv_aload_n hx hb dX0_worthAt_38 rfl (lv_at hl 3 rfl) ?_
  refine lv_iload hx hb dX0_worthAt_39 (lv_at hl 0 rfl) ?_
  refine vp_callSi (W.runV (As := [.int (nI 2)]) (rest := [.long (acc 2), .long (((k_mon ini ((bf (t * 3 + fu)).toInt64)) + (k_mon (acc 0) ((bf (t * 3 + 0)).toInt64))) + (k_mon (acc 1) ((bf (t * 3 + 1)).toInt64)))]) ⟨hx, hb, hml, hown, hts⟩ (m_X3_bidNow l D pr bd cI t bf 2 (by first | omega | assumption) (by first | omega | assumption)) (cwV 1 hts gX0_worthAt_X3_bidNow rfl rfl rfl (by decide +kernel) ⟨Nat.le_of_ble_eq_true rfl, Nat.le_of_ble_eq_true rfl⟩) (z1_V (va_recv hK hP (ci := 3) (q0 := 2) rfl rfl) (hP.sub (ws' := [(pr, .inr (3, [.ref bd, .int (nI t)])), (bd, .inl (cI, 6003, .inl bf))]) [2, 3] rfl) (hK.sub (tys' := [(cI, .int)]) [1] rfl) hG) rfl rfl hl.1 rfl (lv_room (Nat.le_of_ble_eq_true rfl)) dX0_worthAt_41 ⟨Nat.le_of_ble_eq_true rfl, Nat.le_of_ble_eq_true rfl⟩) (fun r_7 e_r_7 => ?_)
  replace e_r_7 := e_r_7.symm; subst e_r_7
  refine lv_i2l (v := (bf (t * 3 + 2)).toInt64) hx hb dX0_worthAt_44 (rfl) ?_
  refine vp_callSl (zrun <| va_runSN (As := [.long (acc 2), .long ((bf (t * 3 + 2)).toInt64)]) (rest := [.long (((k_mon ini ((bf (t * 3 + fu)).toInt64)) + (k_mon (acc 0) ((bf (t * 3 + 0)).toInt64))) + (k_mon (acc 1) ((bf (t * 3 + 1)).toInt64)))]) ⟨hx, hb, hml, hown, hts⟩ (m_X5_moneyFor l (acc 2) ((bf (t * 3 + 2)).toInt64)) ⟨va_cnB (host := "UnitContracts") 2 hts gX0_worthAt_X5_moneyFor_n53 rfl rfl rfl (hG.1 _ (by decide +kernel)) k_3 (by decide +kernel) ⟨Nat.le_of_ble_eq_true rfl, Nat.le_of_ble_eq_true rfl⟩, k_4, trivial⟩ z0_S rfl rfl hl.1 rfl (lv_room (Nat.le_of_ble_eq_true rfl)) dX0_worthAt_45 ⟨Nat.le_of_ble_eq_true rfl, Nat.le_of_ble_eq_true rfl⟩) (fun r_8 e_r_8 => ?_)
  replace e_r_8 := e_r_8.symm; subst e_r_8
  refine zx_ladd (v := (((k_mon ini ((bf (t * 3 + fu)).toInt64)) + (k_mon (acc 0) ((bf (t * 3 + 0)).toInt64))) + (k_mon (acc 1) ((bf (t * 3 + 1)).toInt64))) + (k_mon (acc 2) ((bf (t * 3 + 2)).toInt64))) hx hb dX0_worthAt_48 (rfl) ?_
  refine lv_lstore_n (lv' := [(2, .long ((((k_mon ini ((bf (t * 3 + fu)).toInt64)) + (k_mon (acc 0) ((bf (t * 3 + 0)).toInt64))) + (k_mon (acc 1) ((bf (t * 3 + 1)).toInt64))) + (k_mon (acc 2) ((bf (t * 3 + 2)).toInt64)))), (4, .int (nI 2)), (0, .ref co), (1, .ref pr)]) hx hb dX0_worthAt_49 rfl hl (by decide) rfl (fun ls hl => ?_)
  refine lv_iinc (v := nI 3) (lv' := [(4, .int (nI 3)), (2, .long ((((k_mon ini ((bf (t * 3 + fu)).toInt64)) + (k_mon (acc 0) ((bf (t * 3 + 0)).toInt64))) + (k_mon (acc 1) ((bf (t * 3 + 1)).toInt64))) + (k_mon (acc 2) ((bf (t * 3 + 2)).toInt64)))), (0, .ref co), (1, .ref pr)]) hx hb dX0_worthAt_50 hl (k := 1) rfl (by decide) (by decide) rfl (fun ls hl => ?_)
  refine lv_goto (tgt := 20) hx hb dX0_worthAt_53 (by decide) ?_
  refine lv_iload hx hb dX0_worthAt_20 (lv_at hl 0 rfl) ?_
  refine lv_aload_n hx hb dX0_worthAt_22 rfl (lv_at hl 2 rfl) ?_
  refine va_get (D := D) (ci := 1) (v := .ref ac) (C := RX0) (T := TX0) (N := 8) hx hb hts i_RX0 hown hK hP 0 rfl rfl 4 (by decide) k_5 (fun _ h9 => h9) rfl dX0_worthAt_23 ?_
  refine va_alen (D := D) (cl := vwCl) hx hb hK hP 1 0 rfl rfl (v := nI 3) rfl dX0_worthAt_26 ?_
  refine lv_icmp_ge (tgt := 56) hx hb dX0_worthAt_27 (by decide) (fun _ => ?_) (fun h9 => absurd (by decide) h9)
  refine lv_lload_n hx hb dX0_worthAt_56 rfl (lv_at hl 1 rfl) ?_
  exact zretl1 hx hb hr hlocks dX0_worthAt_57 (by first | rfl | (subst_vars; rfl))

set_option maxHeartbeats 4000000 in
set_option maxRecDepth 100000 in
/-- addUnits(fund, more) -/
theorem m_X0_addUnits (l : Launch) (D : va_G) (co ac : Nat) (cJ : ClassId) (pm sm rt : Int32) (fu : Nat) (ini : Int64) (np : Nat) (al : Int32) (acc : Nat → Int64) (q : Nat) (more : Int64) (hq : q < 3) (sz : Nat)  : Met l yX0_addUnits wsX0_addUnits ({ frames := 1, cells := 0, slots := 0, locals := 32 }) (z2 D [(co, .inr (1, [.int pm, .int sm, .int rt, .int (nI fu), .ref ac, .long ini, .int (nI np), .int al])), (ac, .inl (cJ, 3, .inr (.inl acc)))] [(cJ, .long)] sz [.ref co, .int (nI q), .long more]) (va_Qv (fun _ : Unit => True) (zB D [(cJ, .long)] [(co, .inr (1, [.int pm, .int sm, .int rt, .int (nI fu), .ref ac, .long ini, .int (nI np), .int al])), (ac, .inl (cJ, 3, .inr (.inl (vp_updL acc q (k_add (acc q) more)))))] (va_A [(co, .inr (1, [.int pm, .int sm, .int rt, .int (nI fu), .ref ac, .long ini, .int (nI np), .int al])), (ac, .inl (cJ, 3, .inr (.inl acc)))] sz)) (va_A [(co, .inr (1, [.int pm, .int sm, .int rt, .int (nI fu), .ref ac, .long ini, .int (nI np), .int al])), (ac, .inl (cJ, 3, .inr (.inl acc)))] sz)) 0 0 (va_A [(co, .inr (1, [.int pm, .int sm, .int rt, .int (nI fu), .ref ac, .long ini, .int (nI np), .int al])), (ac, .inl (cJ, 3, .inr (.inl acc)))] sz) := by
  refine zm2 (cc := cX0_addUnits) (maxL := 4) (ret := none) (by decide) rfl (Nat.le_of_ble_eq_true rfl) ?_
  intro p e s m below meth c ls A hAe hsz hin hx hb hml hr hlocks hown hts hP hK hG hD hA hS hl
  subst hsz
  have hl : lv_has ls 4 [(0, .ref co), (1, .int (nI q)), (2, .long more)] := hl
  have k_0 := hts (.initialized RX5) (List.mem_of_getElem? (i := 8) rfl)
  have k_1 := hts (.static yX5_isFund) (List.mem_of_getElem? (i := 7) rfl)
  have k_2 := hts (.fieldLink RX0 9 "UnitContracts$Contract" "accumulation" "[J") (List.mem_of_getElem? (i := 1) rfl)
  have i_RX0 : ∀ w ∈ u_ws RX0 TX0 8, w ∈ wsX0_addUnits := by decide +kernel
  have k_4 := hts (.constantLong RX0 57 (1000000000000)) (List.mem_of_getElem? (i := 2) rfl)
  have k_5 := hts (.methodLink RX0 59 Lib.MathLoose.min_long.x) (List.mem_of_getElem? (i := 3) rfl)
  have k_6 := hts (.static Lib.MathLoose.min_long.x) (List.mem_of_getElem? (i := 4) rfl)
  have k_7 := hts (.initialized "java/lang/Math") (List.mem_of_getElem? (i := 5) rfl)
  have k_8 := hts (.code Lib.MathLoose.min_long.x Lib.MathLoose.min_long.code 4 (some .long)) (List.mem_of_getElem? (i := 6) rfl)
  refine lv_iload_n hx hb dX0_addUnits_0 rfl (lv_at hl 1 rfl) ?_
  refine vp_callSi (zrun <| va_runSN (As := [.int (nI q)]) (rest := []) ⟨hx, hb, hml, hown, hts⟩ (m_X5_isFund l (nI q)) ⟨va_cnB (host := "UnitContracts") 1 hts gX0_addUnits_X5_isFund_n39 rfl rfl rfl (hG.1 _ (by decide +kernel)) k_0 (by decide +kernel) ⟨Nat.le_of_ble_eq_true rfl, Nat.le_of_ble_eq_true rfl⟩, k_1, trivial⟩ z0_S rfl rfl hl.1 rfl (lv_room (Nat.le_of_ble_eq_true rfl)) dX0_addUnits_1 ⟨Nat.le_of_ble_eq_true rfl, Nat.le_of_ble_eq_true rfl⟩) (fun r_1 e_r_1 => ?_)
  have e_r_1 : r_1 = nI 1 := e_r_1.trans (k_isFund_n (by omega))
  replace e_r_1 := e_r_1.symm; subst e_r_1
  refine lv_if_eq (tgt := 27) hx hb dX0_addUnits_4 (by decide) (fun h9 => absurd h9 (by decide)) (fun _ => ?_)
  refine lv_aload_n hx hb dX0_addUnits_7 rfl (lv_at hl 0 rfl) ?_
  refine va_get (D := D) (ci := 1) (v := .ref ac) (C := RX0) (T := TX0) (N := 8) hx hb hts i_RX0 hown hK hP 0 rfl rfl 4 (by decide) k_2 (fun _ h9 => h9) rfl dX0_addUnits_8 ?_
  refine lv_iload_n hx hb dX0_addUnits_11 rfl (lv_at hl 1 rfl) ?_
  refine lv_ldc2 (v := 1000000000000) hx hb hown k_4 dX0_addUnits_12 ?_
  refine lv_aload_n hx hb dX0_addUnits_15 rfl (lv_at hl 0 rfl) ?_
  refine va_get (D := D) (ci := 1) (v := .ref ac) (C := RX0) (T := TX0) (N := 8) hx hb hts i_RX0 hown hK hP 0 rfl rfl 4 (by decide) k_2 (fun _ h9 => h9) rfl dX0_addUnits_16 ?_
  refine lv_iload_n hx hb dX0_addUnits_19 rfl (lv_at hl 1 rfl) ?_
  refine zx_lald (D := D) hx hb hK hP 1 0 rfl rfl (v := acc q) (rfl) (by omega) (by first | decide | omega) dX0_addUnits_20 ?_
  refine lv_lload_n hx hb dX0_addUnits_21 rfl (lv_at hl 2 rfl) ?_
  refine zx_ladd (v := (acc q) + more) hx hb dX0_addUnits_22 (rfl) ?_
  refine va_mmin_long hx hb (hml.trans hl.1.symm) hown k_5 k_6 k_7 k_8 (Nat.le_of_ble_eq_true rfl) (Nat.le_of_ble_eq_true rfl) (Nat.le_of_ble_eq_true rfl) (Nat.le_of_ble_eq_true rfl) dX0_addUnits_23 ?_
  refine zx_last (D := D) hx hb hK hP hD hS 1 0 rfl rfl (by omega) (by decide) dX0_addUnits_26 (fun H locs hP hD hS => ?_)
  have hP : va_P D vwCl [(co, .inr (1, [.int pm, .int sm, .int rt, .int (nI fu), .ref ac, .long ini, .int (nI np), .int al])), (ac, .inl (cJ, 3, .inr (.inl (vp_updL acc q (if ((acc q) + more) < 1000000000000 then (acc q) + more else 1000000000000)))))] H := hP
  have hD : va_D A [(co, .inr (1, [.int pm, .int sm, .int rt, .int (nI fu), .ref ac, .long ini, .int (nI np), .int al])), (ac, .inl (cJ, 3, .inr (.inl (vp_updL acc q (if ((acc q) + more) < 1000000000000 then (acc q) + more else 1000000000000)))))] := hD
  subst hAe
  exact zretv (D := D) (wf := [(co, .inr (1, [.int pm, .int sm, .int rt, .int (nI fu), .ref ac, .long ini, .int (nI np), .int al])), (ac, .inl (cJ, 3, .inr (.inl (vp_updL acc q (k_add (acc q) more)))))]) hx hb hr hlocks (hP.sub [0, 1] rfl) hK (hD.sub [0, 1] (by decide) rfl) hS dX0_addUnits_27 (Nat.le_of_ble_eq_true rfl) (Nat.le_of_ble_eq_true rfl)

set_option maxHeartbeats 4000000 in
set_option maxRecDepth 100000 in
/-- buyPremium(prices) -/
theorem m_X0_buyPremium (l : Launch) (D : va_G) (co ac : Nat) (cJ : ClassId) (pm sm rt : Int32) (fu : Nat) (ini : Int64) (np : Nat) (al : Int32) (acc : Nat → Int64) (pr bd : Nat) (cI : ClassId) (t : Nat) (bf : Nat → Int32) (hfu : fu < 3) (ht : t ≤ 2000) (hnp : np < 1000000) (sz : Nat)  : Met l yX0_buyPremium wsX0_buyPremium ({ frames := 4, cells := 0, slots := 0, locals := 85 }) (z2 D [(co, .inr (1, [.int pm, .int sm, .int rt, .int (nI fu), .ref ac, .long ini, .int (nI np), .int al])), (ac, .inl (cJ, 3, .inr (.inl acc))), (pr, .inr (3, [.ref bd, .int (nI t)])), (bd, .inl (cI, 6003, .inl bf))] [(cJ, .long), (cI, .int)] sz [.ref co, .ref pr]) (va_Qv (fun _ : Unit => True) (zB D [(cJ, .long), (cI, .int)] [(co, .inr (1, [.int pm, .int sm, .int rt, .int (nI fu), .ref ac, .long (if 12 ≤ np then ini else ini + k_prem pm (bf (t * 3 + fu))), .int (nI (np + 1)), .int al])), (ac, .inl (cJ, 3, .inr (.inl (if 12 ≤ np then vp_updL acc fu (k_add (acc fu) (k_prem pm (bf (t * 3 + fu)))) else acc)))), (pr, .inr (3, [.ref bd, .int (nI t)])), (bd, .inl (cI, 6003, .inl bf))] (va_A [(co, .inr (1, [.int pm, .int sm, .int rt, .int (nI fu), .ref ac, .long ini, .int (nI np), .int al])), (ac, .inl (cJ, 3, .inr (.inl acc))), (pr, .inr (3, [.ref bd, .int (nI t)])), (bd, .inl (cI, 6003, .inl bf))] sz)) (va_A [(co, .inr (1, [.int pm, .int sm, .int rt, .int (nI fu), .ref ac, .long ini, .int (nI np), .int al])), (ac, .inl (cJ, 3, .inr (.inl acc))), (pr, .inr (3, [.ref bd, .int (nI t)])), (bd, .inl (cI, 6003, .inl bf))] sz)) 0 0 (va_A [(co, .inr (1, [.int pm, .int sm, .int rt, .int (nI fu), .ref ac, .long ini, .int (nI np), .int al])), (ac, .inl (cJ, 3, .inr (.inl acc))), (pr, .inr (3, [.ref bd, .int (nI t)])), (bd, .inl (cI, 6003, .inl bf))] sz) := by
  refine zm2 (cc := cX0_buyPremium) (maxL := 4) (ret := none) (by decide) rfl (Nat.le_of_ble_eq_true rfl) ?_
  intro p e s m below meth c ls A hAe hsz hin hx hb hml hr hlocks hown hts hP hK hG hD hA hS hl
  subst hsz
  have hl : lv_has ls 4 [(0, .ref co), (1, .ref pr)] := hl
  have k_0 := hts (.fieldLink RX0 19 "UnitContracts$Contract" "premium" "I") (List.mem_of_getElem? (i := 1) rfl)
  have i_RX0 : ∀ w ∈ u_ws RX0 TX0 8, w ∈ wsX0_buyPremium := by decide +kernel
  have k_2 := hts (.fieldLink RX0 29 "UnitContracts$Contract" "fund" "I") (List.mem_of_getElem? (i := 2) rfl)
  have k_3 := hts (.initialized RX5) (List.mem_of_getElem? (i := 21) rfl)
  have k_4 := hts (.static yX5_unitsFor) (List.mem_of_getElem? (i := 23) rfl)
  have k_5 := hts (.fieldLink RX0 32 "UnitContracts$Contract" "premiums" "I") (List.mem_of_getElem? (i := 3) rfl)
  have k_6 := hts (.fieldLink RX0 35 "UnitContracts$Contract" "initialUnits" "J") (List.mem_of_getElem? (i := 4) rfl)
  refine lv_aload_n hx hb dX0_buyPremium_0 rfl (lv_at hl 0 rfl) ?_
  refine va_get (D := D) (ci := 1) (v := .int pm) (C := RX0) (T := TX0) (N := 8) hx hb hts i_RX0 hown hK hP 0 rfl rfl 0 (by decide) k_0 (fun _ h9 => h9) rfl dX0_buyPremium_1 ?_
  refine lv_i2l (v := pm.toInt64) hx hb dX0_buyPremium_4 (rfl) ?_
  refine lv_aload_n hx hb dX0_buyPremium_5 rfl (lv_at hl 1 rfl) ?_
  refine lv_aload_n hx hb dX0_buyPremium_6 rfl (lv_at hl 0 rfl) ?_
  refine va_get (D := D) (ci := 1) (v := .int (nI fu)) (C := RX0) (T := TX0) (N := 8) hx hb hts i_RX0 hown hK hP 0 rfl rfl 3 (by decide) k_2 (fun _ h9 => h9) rfl dX0_buyPremium_7 ?_
  refine vp_callSi (W.runV (As := [.int (nI fu)]) (rest := [.long pm.toInt64]) ⟨hx, hb, hml, hown, hts⟩ (m_X3_offerNow l D pr bd cI t bf fu (by first | omega | assumption) (by first | omega | assumption)) (cwV 1 hts gX0_buyPremium_X3_offerNow rfl rfl rfl (by decide +kernel) ⟨Nat.le_of_ble_eq_true rfl, Nat.le_of_ble_eq_true rfl⟩) (z1_V (va_recv hK hP (ci := 3) (q0 := 2) rfl rfl) (hP.sub (ws' := [(pr, .inr (3, [.ref bd, .int (nI t)])), (bd, .inl (cI, 6003, .inl bf))]) [2, 3] rfl) (hK.sub (tys' := [(cI, .int)]) [1] rfl) hG) rfl rfl hl.1 rfl (lv_room (Nat.le_of_ble_eq_true rfl)) dX0_buyPremium_10 ⟨Nat.le_of_ble_eq_true rfl, Nat.le_of_ble_eq_true rfl⟩) (fun r_1 e_r_1 => ?_)
  replace e_r_1 := e_r_1.symm; subst e_r_1
  refine lv_i2l (v := (k_off (bf (t * 3 + fu))).toInt64) hx hb dX0_buyPremium_13 (rfl) ?_
  refine vp_callSl (zrun <| va_runSN (As := [.long pm.toInt64, .long ((k_off (bf (t * 3 + fu))).toInt64)]) (rest := []) ⟨hx, hb, hml, hown, hts⟩ (m_X5_unitsFor l pm.toInt64 ((k_off (bf (t * 3 + fu))).toInt64)) ⟨va_cnB (host := "UnitContracts") 2 hts gX0_buyPremium_X5_unitsFor_n67 rfl rfl rfl (hG.1 _ (by decide +kernel)) k_3 (by decide +kernel) ⟨Nat.le_of_ble_eq_true rfl, Nat.le_of_ble_eq_true rfl⟩, k_4, trivial⟩ z0_S rfl rfl hl.1 rfl (lv_room (Nat.le_of_ble_eq_true rfl)) dX0_buyPremium_14 ⟨Nat.le_of_ble_eq_true rfl, Nat.le_of_ble_eq_true rfl⟩) (fun r_2 e_r_2 => ?_)
  replace e_r_2 := e_r_2.symm; subst e_r_2
  refine lv_lstore_n (lv' := [(2, .long (k_uns pm.toInt64 ((k_off (bf (t * 3 + fu))).toInt64))), (0, .ref co), (1, .ref pr)]) hx hb dX0_buyPremium_17 rfl hl (by decide) rfl (fun ls hl => ?_)
  refine lv_aload_n hx hb dX0_buyPremium_18 rfl (lv_at hl 1 rfl) ?_
  refine va_get (D := D) (ci := 1) (v := .int (nI np)) (C := RX0) (T := TX0) (N := 8) hx hb hts i_RX0 hown hK hP 0 rfl rfl 6 (by decide) k_5 (fun _ h9 => h9) rfl dX0_buyPremium_19 ?_
  refine lv_bipush (v := nI 12) hx hb dX0_buyPremium_22 (by decide) ?_
  refine lv_icmp_ge (tgt := 40) hx hb dX0_buyPremium_24 (by decide) (fun c_24 => ?_) (fun c_24 => ?_)
  · skip
    have n_24 : 12 ≤ np := (nI_leI (a := 12) (b := np) (by omega) (by omega)).mp c_24
    refine lv_aload_n hx hb dX0_buyPremium_40 rfl (lv_at hl 1 rfl) ?_
    refine lv_aload_n hx hb dX0_buyPremium_41 rfl (lv_at hl 1 rfl) ?_
    refine va_get (D := D) (ci := 1) (v := .int (nI fu)) (C := RX0) (T := TX0) (N := 8) hx hb hts i_RX0 hown hK hP 0 rfl rfl 3 (by decide) k_2 (fun _ h9 => h9) rfl dX0_buyPremium_42 ?_
    refine lv_lload_n hx hb dX0_buyPremium_45 rfl (lv_at hl 0 rfl) ?_
    refine zcallv (wr := [(pr, .inr (3, [.ref bd, .int (nI t)])), (bd, .inl (cI, 6003, .inl bf))]) (va_runV (As := [.int (nI fu), .long (k_uns pm.toInt64 ((k_off (bf (t * 3 + fu))).toInt64))]) (rest := []) ⟨hx, hb, hml, hown, hts⟩ (m_X0_addUnits l D co ac cJ pm sm rt fu ini np al acc fu (k_uns pm.toInt64 ((k_off (bf (t * 3 + fu))).toInt64)) (by first | omega | assumption) _) (cwV 2 hts gX0_buyPremium_X0_addUnits rfl rfl rfl (by decide +kernel) ⟨Nat.le_of_ble_eq_true rfl, Nat.le_of_ble_eq_true rfl⟩) (z2_V (va_recv hK hP (ci := 1) (q0 := 0) rfl rfl) (hP.sub (ws' := [(co, .inr (1, [.int pm, .int sm, .int rt, .int (nI fu), .ref ac, .long ini, .int (nI np), .int al])), (ac, .inl (cJ, 3, .inr (.inl acc)))]) [0, 1] rfl) (hK.sub (tys' := [(cJ, .long)]) [0] rfl) (hD.sub (ws' := [(co, .inr (1, [.int pm, .int sm, .int rt, .int (nI fu), .ref ac, .long ini, .int (nI np), .int al])), (ac, .inl (cJ, 3, .inr (.inl acc)))]) [0, 1] (by decide) rfl) hG) rfl rfl hl.1 rfl (lv_room (Nat.le_of_ble_eq_true rfl)) dX0_buyPremium_46 ⟨Nat.le_of_ble_eq_true rfl, Nat.le_of_ble_eq_true rfl⟩) hP hD hS hA [0, 1] [2, 3] rfl rfl (by decide) (by decide) (fun H locs hP hD hS => ?_)
    have hP : va_P D vwCl [(pr, .inr (3, [.ref bd, .int (nI t)])), (bd, .inl (cI, 6003, .inl bf)), (co, .inr (1, [.int pm, .int sm, .int rt, .int (nI fu), .ref ac, .long ini, .int (nI np), .int al])), (ac, .inl (cJ, 3, .inr (.inl (vp_updL acc fu (k_add (acc fu) (k_uns pm.toInt64 ((k_off (bf (t * 3 + fu))).toInt64)))))))] H := hP
    have hD : va_D A [(pr, .inr (3, [.ref bd, .int (nI t)])), (bd, .inl (cI, 6003, .inl bf)), (co, .inr (1, [.int pm, .int sm, .int rt, .int (nI fu), .ref ac, .long ini, .int (nI np), .int al])), (ac, .inl (cJ, 3, .inr (.inl (vp_updL acc fu (k_add (acc fu) (k_uns pm.toInt64 ((k_off (bf (t * 3 + fu))).toInt64)))))))] := hD
    refine lv_aload_n hx hb dX0_buyPremium_49 rfl (lv_at hl 1 rfl) ?_
    refine lv_dup hx hb dX0_buyPremium_50 rfl ?_
    refine va_get (D := D) (ci := 1) (v := .int (nI np)) (C := RX0) (T := TX0) (N := 8) hx hb hts i_RX0 hown hK hP 2 rfl rfl 6 (by decide) k_5 (fun _ h9 => h9) rfl dX0_buyPremium_51 ?_
    refine lv_iconst (v := nI 1) hx hb dX0_buyPremium_54 (by decide) ?_
    refine zx_iadd (v := nI (np + 1)) hx hb dX0_buyPremium_55 (nI_add _ _) ?_
    refine va_put (D := D) (ci := 1) (v := .int (nI (np + 1))) (ty := .int) (C := RX0) (T := TX0) (N := 8) hx hb hts i_RX0 tyX0 tyX0_ok nmX0 hown hK hP hD hS 2 rfl rfl 6 (by decide) k_5 (fun _ h9 => h9) rfl (by decide +kernel) rfl rfl (Nat.le_of_ble_eq_true rfl) dX0_buyPremium_56 (fun H locs hP hD hS => ?_)
    have hP : va_P D vwCl [(pr, .inr (3, [.ref bd, .int (nI t)])), (bd, .inl (cI, 6003, .inl bf)), (co, .inr (1, [.int pm, .int sm, .int rt, .int (nI fu), .ref ac, .long ini, .int (nI (np + 1)), .int al])), (ac, .inl (cJ, 3, .inr (.inl (vp_updL acc fu (k_add (acc fu) (k_uns pm.toInt64 ((k_off (bf (t * 3 + fu))).toInt64)))))))] H := hP
    have hD : va_D A [(pr, .inr (3, [.ref bd, .int (nI t)])), (bd, .inl (cI, 6003, .inl bf)), (co, .inr (1, [.int pm, .int sm, .int rt, .int (nI fu), .ref ac, .long ini, .int (nI (np + 1)), .int al])), (ac, .inl (cJ, 3, .inr (.inl (vp_updL acc fu (k_add (acc fu) (k_uns pm.toInt64 ((k_off (bf (t * 3 + fu))).toInt64)))))))] := hD
    have hw9 : ([(co, .inr (1, [.int pm, .int sm, .int rt, .int (nI fu), .ref ac, .long ini, .int (nI (np + 1)), .int al])), (ac, .inl (cJ, 3, .inr (.inl (vp_updL acc fu (k_add (acc fu) (k_uns pm.toInt64 ((k_off (bf (t * 3 + fu))).toInt64))))))), (pr, .inr (3, [.ref bd, .int (nI t)])), (bd, .inl (cI, 6003, .inl bf))] : va_W) = [(co, .inr (1, [.int pm, .int sm, .int rt, .int (nI fu), .ref ac, .long (if 12 ≤ np then ini else ini + k_prem pm (bf (t * 3 + fu))), .int (nI (np + 1)), .int al])), (ac, .inl (cJ, 3, .inr (.inl (if 12 ≤ np then vp_updL acc fu (k_add (acc fu) (k_prem pm (bf (t * 3 + fu)))) else acc)))), (pr, .inr (3, [.ref bd, .int (nI t)])), (bd, .inl (cI, 6003, .inl bf))] := (by first | (simp only [if_pos n_24] <;> rfl) | (simp only [if_neg n_24] <;> rfl))
    have hP := hP.sub (ws' := [(co, .inr (1, [.int pm, .int sm, .int rt, .int (nI fu), .ref ac, .long ini, .int (nI (np + 1)), .int al])), (ac, .inl (cJ, 3, .inr (.inl (vp_updL acc fu (k_add (acc fu) (k_uns pm.toInt64 ((k_off (bf (t * 3 + fu))).toInt64))))))), (pr, .inr (3, [.ref bd, .int (nI t)])), (bd, .inl (cI, 6003, .inl bf))]) [2, 3, 0, 1] rfl
    have hD := hD.sub (ws' := [(co, .inr (1, [.int pm, .int sm, .int rt, .int (nI fu), .ref ac, .long ini, .int (nI (np + 1)), .int al])), (ac, .inl (cJ, 3, .inr (.inl (vp_updL acc fu (k_add (acc fu) (k_uns pm.toInt64 ((k_off (bf (t * 3 + fu))).toInt64))))))), (pr, .inr (3, [.ref bd, .int (nI t)])), (bd, .inl (cI, 6003, .inl bf))]) [2, 3, 0, 1] (by decide) rfl
    rw [hw9] at hP hD
    subst hAe
    exact zretv (D := D) (wf := [(co, .inr (1, [.int pm, .int sm, .int rt, .int (nI fu), .ref ac, .long (if 12 ≤ np then ini else ini + k_prem pm (bf (t * 3 + fu))), .int (nI (np + 1)), .int al])), (ac, .inl (cJ, 3, .inr (.inl (if 12 ≤ np then vp_updL acc fu (k_add (acc fu) (k_prem pm (bf (t * 3 + fu)))) else acc)))), (pr, .inr (3, [.ref bd, .int (nI t)])), (bd, .inl (cI, 6003, .inl bf))]) hx hb hr hlocks hP hK hD hS dX0_buyPremium_59 (Nat.le_of_ble_eq_true rfl) (Nat.le_of_ble_eq_true rfl)
  · skip
    have n_24 : ¬ 12 ≤ np := fun h8 => c_24 ((nI_leI (a := 12) (b := np) (by omega) (by omega)).mpr h8)
    refine lv_aload_n hx hb dX0_buyPremium_27 rfl (lv_at hl 1 rfl) ?_
    refine lv_dup hx hb dX0_buyPremium_28 rfl ?_
    refine va_get (D := D) (ci := 1) (v := .long ini) (C := RX0) (T := TX0) (N := 8) hx hb hts i_RX0 hown hK hP 0 rfl rfl 5 (by decide) k_6 (fun _ h9 => h9) rfl dX0_buyPremium_29 ?_
    refine lv_lload_n hx hb dX0_buyPremium_32 rfl (lv_at hl 0 rfl) ?_
    refine zx_ladd (v := ini + (k_uns pm.toInt64 ((k_off (bf (t * 3 + fu))).toInt64))) hx hb dX0_buyPremium_33 (rfl) ?_
    refine va_put (D := D) (ci := 1) (v := .long (ini + (k_uns pm.toInt64 ((k_off (bf (t * 3 + fu))).toInt64)))) (ty := .long) (C := RX0) (T := TX0) (N := 8) hx hb hts i_RX0 tyX0 tyX0_ok nmX0 hown hK hP hD hS 0 rfl rfl 5 (by decide) k_6 (fun _ h9 => h9) rfl (by decide +kernel) rfl rfl (Nat.le_of_ble_eq_true rfl) dX0_buyPremium_34 (fun H locs hP hD hS => ?_)
    have hP : va_P D vwCl [(co, .inr (1, [.int pm, .int sm, .int rt, .int (nI fu), .ref ac, .long (ini + (k_uns pm.toInt64 ((k_off (bf (t * 3 + fu))).toInt64))), .int (nI np), .int al])), (ac, .inl (cJ, 3, .inr (.inl acc))), (pr, .inr (3, [.ref bd, .int (nI t)])), (bd, .inl (cI, 6003, .inl bf))] H := hP
    have hD : va_D A [(co, .inr (1, [.int pm, .int sm, .int rt, .int (nI fu), .ref ac, .long (ini + (k_uns pm.toInt64 ((k_off (bf (t * 3 + fu))).toInt64))), .int (nI np), .int al])), (ac, .inl (cJ, 3, .inr (.inl acc))), (pr, .inr (3, [.ref bd, .int (nI t)])), (bd, .inl (cI, 6003, .inl bf))] := hD
    refine lv_goto (tgt := 49) hx hb dX0_buyPremium_37 (by decide) ?_
    refine lv_aload_n hx hb dX0_buyPremium_49 rfl (lv_at hl 1 rfl) ?_
    refine lv_dup hx hb dX0_buyPremium_50 rfl ?_
    refine va_get (D := D) (ci := 1) (v := .int (nI np)) (C := RX0) (T := TX0) (N := 8) hx hb hts i_RX0 hown hK hP 0 rfl rfl 6 (by decide) k_5 (fun _ h9 => h9) rfl dX0_buyPremium_51 ?_
    refine lv_iconst (v := nI 1) hx hb dX0_buyPremium_54 (by decide) ?_
    refine zx_iadd (v := nI (np + 1)) hx hb dX0_buyPremium_55 (nI_add _ _) ?_
    refine va_put (D := D) (ci := 1) (v := .int (nI (np + 1))) (ty := .int) (C := RX0) (T := TX0) (N := 8) hx hb hts i_RX0 tyX0 tyX0_ok nmX0 hown hK hP hD hS 0 rfl rfl 6 (by decide) k_5 (fun _ h9 => h9) rfl (by decide +kernel) rfl rfl (Nat.le_of_ble_eq_true rfl) dX0_buyPremium_56 (fun H locs hP hD hS => ?_)
    have hP : va_P D vwCl [(co, .inr (1, [.int pm, .int sm, .int rt, .int (nI fu), .ref ac, .long (ini + (k_uns pm.toInt64 ((k_off (bf (t * 3 + fu))).toInt64))), .int (nI (np + 1)), .int al])), (ac, .inl (cJ, 3, .inr (.inl acc))), (pr, .inr (3, [.ref bd, .int (nI t)])), (bd, .inl (cI, 6003, .inl bf))] H := hP
    have hD : va_D A [(co, .inr (1, [.int pm, .int sm, .int rt, .int (nI fu), .ref ac, .long (ini + (k_uns pm.toInt64 ((k_off (bf (t * 3 + fu))).toInt64))), .int (nI (np + 1)), .int al])), (ac, .inl (cJ, 3, .inr (.inl acc))), (pr, .inr (3, [.ref bd, .int (nI t)])), (bd, .inl (cI, 6003, .inl bf))] := hD
    have hw9 : ([(co, .inr (1, [.int pm, .int sm, .int rt, .int (nI fu), .ref ac, .long (ini + (k_uns pm.toInt64 ((k_off (bf (t * 3 + fu))).toInt64))), .int (nI (np + 1)), .int al])), (ac, .inl (cJ, 3, .inr (.inl acc))), (pr, .inr (3, [.ref bd, .int (nI t)])), (bd, .inl (cI, 6003, .inl bf))] : va_W) = [(co, .inr (1, [.int pm, .int sm, .int rt, .int (nI fu), .ref ac, .long (if 12 ≤ np then ini else ini + k_prem pm (bf (t * 3 + fu))), .int (nI (np + 1)), .int al])), (ac, .inl (cJ, 3, .inr (.inl (if 12 ≤ np then vp_updL acc fu (k_add (acc fu) (k_prem pm (bf (t * 3 + fu)))) else acc)))), (pr, .inr (3, [.ref bd, .int (nI t)])), (bd, .inl (cI, 6003, .inl bf))] := (by first | (simp only [if_pos n_24] <;> rfl) | (simp only [if_neg n_24] <;> rfl))
    have hP := hP.sub (ws' := [(co, .inr (1, [.int pm, .int sm, .int rt, .int (nI fu), .ref ac, .long (ini + (k_uns pm.toInt64 ((k_off (bf (t * 3 + fu))).toInt64))), .int (nI (np + 1)), .int al])), (ac, .inl (cJ, 3, .inr (.inl acc))), (pr, .inr (3, [.ref bd, .int (nI t)])), (bd, .inl (cI, 6003, .inl bf))]) [0, 1, 2, 3] rfl
    have hD := hD.sub (ws' := [(co, .inr (1, [.int pm, .int sm, .int rt, .int (nI fu), .ref ac, .long (ini + (k_uns pm.toInt64 ((k_off (bf (t * 3 + fu))).toInt64))), .int (nI (np + 1)), .int al])), (ac, .inl (cJ, 3, .inr (.inl acc))), (pr, .inr (3, [.ref bd, .int (nI t)])), (bd, .inl (cI, 6003, .inl bf))]) [0, 1, 2, 3] (by decide) rfl
    rw [hw9] at hP hD
    subst hAe
    exact zretv (D := D) (wf := [(co, .inr (1, [.int pm, .int sm, .int rt, .int (nI fu), .ref ac, .long (if 12 ≤ np then ini else ini + k_prem pm (bf (t * 3 + fu))), .int (nI (np + 1)), .int al])), (ac, .inl (cJ, 3, .inr (.inl (if 12 ≤ np then vp_updL acc fu (k_add (acc fu) (k_prem pm (bf (t * 3 + fu)))) else acc)))), (pr, .inr (3, [.ref bd, .int (nI t)])), (bd, .inl (cI, 6003, .inl bf))]) hx hb hr hlocks hP hK hD hS dX0_buyPremium_59 (Nat.le_of_ble_eq_true rfl) (Nat.le_of_ble_eq_true rfl)

set_option maxHeartbeats 4000000 in
set_option maxRecDepth 100000 in
/-- switchUnits(prices, from, to, percent) -/
theorem m_X0_switchUnits (l : Launch) (D : va_G) (co ac : Nat) (cJ : ClassId) (pm sm rt : Int32) (fu : Nat) (ini : Int64) (np : Nat) (al : Int32) (acc : Nat → Int64) (pr bd : Nat) (cI : ClassId) (t : Nat) (bf : Nat → Int32) (fr tt : Nat) (pct : Int32) (hfr : fr < 3) (htt : tt < 3) (ht : t ≤ 2000) (sz : Nat)  : Met l yX0_switchUnits wsX0_switchUnits ({ frames := 3, cells := 0, slots := 0, locals := 63 }) (z2 D [(co, .inr (1, [.int pm, .int sm, .int rt, .int (nI fu), .ref ac, .long ini, .int (nI np), .int al])), (ac, .inl (cJ, 3, .inr (.inl acc))), (pr, .inr (3, [.ref bd, .int (nI t)])), (bd, .inl (cI, 6003, .inl bf))] [(cJ, .long), (cI, .int)] sz [.ref co, .ref pr, .int (nI fr), .int (nI tt), .int pct]) (va_Qv (fun _ : Unit => True) (zB D [(cJ, .long), (cI, .int)] [(co, .inr (1, [.int pm, .int sm, .int rt, .int (nI fu), .ref ac, .long ini, .int (nI np), .int al])), (ac, .inl (cJ, 3, .inr (.inl (k_switch acc fr tt pct (bf (t * 3 + fr)) (bf (t * 3 + tt)))))), (pr, .inr (3, [.ref bd, .int (nI t)])), (bd, .inl (cI, 6003, .inl bf))] (va_A [(co, .inr (1, [.int pm, .int sm, .int rt, .int (nI fu), .ref ac, .long ini, .int (nI np), .int al])), (ac, .inl (cJ, 3, .inr (.inl acc))), (pr, .inr (3, [.ref bd, .int (nI t)])), (bd, .inl (cI, 6003, .inl bf))] sz)) (va_A [(co, .inr (1, [.int pm, .int sm, .int rt, .int (nI fu), .ref ac, .long ini, .int (nI np), .int al])), (ac, .inl (cJ, 3, .inr (.inl acc))), (pr, .inr (3, [.ref bd, .int (nI t)])), (bd, .inl (cI, 6003, .inl bf))] sz)) 0 0 (va_A [(co, .inr (1, [.int pm, .int sm, .int rt, .int (nI fu), .ref ac, .long ini, .int (nI np), .int al])), (ac, .inl (cJ, 3, .inr (.inl acc))), (pr, .inr (3, [.ref bd, .int (nI t)])), (bd, .inl (cI, 6003, .inl bf))] sz) := by
  refine zm2 (cc := cX0_switchUnits) (maxL := 7) (ret := none) (by decide) rfl (Nat.le_of_ble_eq_true rfl) ?_
  intro p e s m below meth c ls A hAe hsz hin hx hb hml hr hlocks hown hts hP hK hG hD hA hS hl
  subst hsz
  have hl : lv_has ls 7 [(0, .ref co), (1, .ref pr), (2, .int (nI fr)), (3, .int (nI tt)), (4, .int pct)] := hl
  have k_0 := hts (.initialized RX5) (List.mem_of_getElem? (i := 4) rfl)
  have k_1 := hts (.static yX5_isFund) (List.mem_of_getElem? (i := 3) rfl)
  have k_2 := hts (.fieldLink RX0 9 "UnitContracts$Contract" "accumulation" "[J") (List.mem_of_getElem? (i := 1) rfl)
  have i_RX0 : ∀ w ∈ u_ws RX0 TX0 8, w ∈ wsX0_switchUnits := by decide +kernel
  have k_4 := hts (.constantLong RX0 74 (100)) (List.mem_of_getElem? (i := 2) rfl)
  have k_5 := hts (.static yX5_moneyFor) (List.mem_of_getElem? (i := 17) rfl)
  have k_6 := hts (.static yX5_unitsFor) (List.mem_of_getElem? (i := 20) rfl)
  refine lv_iload_n hx hb dX0_switchUnits_0 rfl (lv_at hl 2 rfl) ?_
  refine vp_callSi (zrun <| va_runSN (As := [.int (nI fr)]) (rest := []) ⟨hx, hb, hml, hown, hts⟩ (m_X5_isFund l (nI fr)) ⟨va_cnB (host := "UnitContracts") 1 hts gX0_switchUnits_X5_isFund_n39 rfl rfl rfl (hG.1 _ (by decide +kernel)) k_0 (by decide +kernel) ⟨Nat.le_of_ble_eq_true rfl, Nat.le_of_ble_eq_true rfl⟩, k_1, trivial⟩ z0_S rfl rfl hl.1 rfl (lv_room (Nat.le_of_ble_eq_true rfl)) dX0_switchUnits_1 ⟨Nat.le_of_ble_eq_true rfl, Nat.le_of_ble_eq_true rfl⟩) (fun r_1 e_r_1 => ?_)
  have e_r_1 : r_1 = nI 1 := e_r_1.trans (k_isFund_n (by omega))
  replace e_r_1 := e_r_1.symm; subst e_r_1
  refine lv_if_eq (tgt := 59) hx hb dX0_switchUnits_4 (by decide) (fun h9 => absurd h9 (by decide)) (fun _ => ?_)
  refine lv_aload_n hx hb dX0_switchUnits_7 rfl (lv_at hl 0 rfl) ?_
  refine va_get (D := D) (ci := 1) (v := .ref ac) (C := RX0) (T := TX0) (N := 8) hx hb hts i_RX0 hown hK hP 0 rfl rfl 4 (by decide) k_2 (fun _ h9 => h9) rfl dX0_switchUnits_8 ?_
  refine lv_iload_n hx hb dX0_switchUnits_11 rfl (lv_at hl 2 rfl) ?_
  refine zx_lald (D := D) hx hb hK hP 1 0 rfl rfl (v := acc fr) (rfl) (by omega) (by first | decide | omega) dX0_switchUnits_12 ?_
  refine lv_iload hx hb dX0_switchUnits_13 (lv_at hl 4 rfl) ?_
  refine lv_i2l (v := pct.toInt64) hx hb dX0_switchUnits_15 (rfl) ?_
  refine zx_lmul (v := (acc fr) * pct.toInt64) hx hb dX0_switchUnits_16 (rfl) ?_
  refine lv_ldc2 (v := 100) hx hb hown k_4 dX0_switchUnits_17 ?_
  refine zx_ldiv (v := ((acc fr) * pct.toInt64) / 100) hx hb dX0_switchUnits_20 (by decide) (rfl) ?_
  refine lv_lstore (lv' := [(5, .long (((acc fr) * pct.toInt64) / 100)), (0, .ref co), (1, .ref pr), (2, .int (nI fr)), (3, .int (nI tt)), (4, .int pct)]) hx hb dX0_switchUnits_21 hl (by decide) rfl (fun ls hl => ?_)
  refine lv_aload_n hx hb dX0_switchUnits_23 rfl (lv_at hl 1 rfl) ?_
  refine va_get (D := D) (ci := 1) (v := .ref ac) (C := RX0) (T := TX0) (N := 8) hx hb hts i_RX0 hown hK hP 0 rfl rfl 4 (by decide) k_2 (fun _ h9 => h9) rfl dX0_switchUnits_24 ?_
  refine lv_iload_n hx hb dX0_switchUnits_27 rfl (lv_at hl 3 rfl) ?_
  refine lv_dup2_11 hx hb dX0_switchUnits_28 rfl rfl ?_
  refine zx_lald (D := D) hx hb hK hP 1 0 rfl rfl (v := acc fr) (rfl) (by omega) (by first | decide | omega) dX0_switchUnits_29 ?_
  refine lv_lload hx hb dX0_switchUnits_30 (lv_at hl 0 rfl) ?_
  refine zx_lsub (v := (acc fr) - (((acc fr) * pct.toInt64) / 100)) hx hb dX0_switchUnits_32 (rfl) ?_
  refine zx_last (D := D) hx hb hK hP hD hS 1 0 rfl rfl (by omega) (by decide) dX0_switchUnits_33 (fun H locs hP hD hS => ?_)
  have hP : va_P D vwCl [(co, .inr (1, [.int pm, .int sm, .int rt, .int (nI fu), .ref ac, .long ini, .int (nI np), .int al])), (ac, .inl (cJ, 3, .inr (.inl (vp_updL acc fr ((acc fr) - (((acc fr) * pct.toInt64) / 100)))))), (pr, .inr (3, [.ref bd, .int (nI t)])), (bd, .inl (cI, 6003, .inl bf))] H := hP
  have hD : va_D A [(co, .inr (1, [.int pm, .int sm, .int rt, .int (nI fu), .ref ac, .long ini, .int (nI np), .int al])), (ac, .inl (cJ, 3, .inr (.inl (vp_updL acc fr ((acc fr) - (((acc fr) * pct.toInt64) / 100)))))), (pr, .inr (3, [.ref bd, .int (nI t)])), (bd, .inl (cI, 6003, .inl bf))] := hD
  refine lv_aload_n hx hb dX0_switchUnits_34 rfl (lv_at hl 1 rfl) ?_
  refine lv_iload_n hx hb dX0_switchUnits_35 rfl (lv_at hl 4 rfl) ?_
  refine lv_lload hx hb dX0_switchUnits_36 (lv_at hl 0 rfl) ?_
  refine lv_aload_n hx hb dX0_switchUnits_38 rfl (lv_at hl 2 rfl) ?_
  refine lv_iload_n hx hb dX0_switchUnits_39 rfl (lv_at hl 3 rfl) ?_
  refine vp_callSi (W.runV (As := [.int (nI fr)]) (rest := [.long (((acc fr) * pct.toInt64) / 100), .int (nI tt), .ref co]) ⟨hx, hb, hml, hown, hts⟩ (m_X3_bidNow l D pr bd cI t bf fr (by first | omega | assumption) (by first | omega | assumption)) (cwV 1 hts gX0_switchUnits_X3_bidNow rfl rfl rfl (by decide +kernel) ⟨Nat.le_of_ble_eq_true rfl, Nat.le_of_ble_eq_true rfl⟩) (z1_V (va_recv hK hP (ci := 3) (q0 := 2) rfl rfl) (hP.sub (ws' := [(pr, .inr (3, [.ref bd, .int (nI t)])), (bd, .inl (cI, 6003, .inl bf))]) [2, 3] rfl) (hK.sub (tys' := [(cI, .int)]) [1] rfl) hG) rfl rfl hl.1 rfl (lv_room (Nat.le_of_ble_eq_true rfl)) dX0_switchUnits_40 ⟨Nat.le_of_ble_eq_true rfl, Nat.le_of_ble_eq_true rfl⟩) (fun r_2 e_r_2 => ?_)
  replace e_r_2 := e_r_2.symm; subst e_r_2
  refine lv_i2l (v := (bf (t * 3 + fr)).toInt64) hx hb dX0_switchUnits_43 (rfl) ?_
  refine vp_callSl (zrun <| va_runSN (As := [.long (((acc fr) * pct.toInt64) / 100), .long ((bf (t * 3 + fr)).toInt64)]) (rest := [.int (nI tt), .ref co]) ⟨hx, hb, hml, hown, hts⟩ (m_X5_moneyFor l (((acc fr) * pct.toInt64) / 100) ((bf (t * 3 + fr)).toInt64)) ⟨va_cnB (host := "UnitContracts") 2 hts gX0_switchUnits_X5_moneyFor_n53 rfl rfl rfl (hG.1 _ (by decide +kernel)) k_0 (by decide +kernel) ⟨Nat.le_of_ble_eq_true rfl, Nat.le_of_ble_eq_true rfl⟩, k_5, trivial⟩ z0_S rfl rfl hl.1 rfl (lv_room (Nat.le_of_ble_eq_true rfl)) dX0_switchUnits_44 ⟨Nat.le_of_ble_eq_true rfl, Nat.le_of_ble_eq_true rfl⟩) (fun r_3 e_r_3 => ?_)
  replace e_r_3 := e_r_3.symm; subst e_r_3
  refine lv_aload_n hx hb dX0_switchUnits_47 rfl (lv_at hl 2 rfl) ?_
  refine lv_iload_n hx hb dX0_switchUnits_48 rfl (lv_at hl 4 rfl) ?_
  refine vp_callSi (W.runV (As := [.int (nI tt)]) (rest := [.long (k_mon (((acc fr) * pct.toInt64) / 100) ((bf (t * 3 + fr)).toInt64)), .int (nI tt), .ref co]) ⟨hx, hb, hml, hown, hts⟩ (m_X3_bidNow l D pr bd cI t bf tt (by first | omega | assumption) (by first | omega | assumption)) (cwV 1 hts gX0_switchUnits_X3_bidNow rfl rfl rfl (by decide +kernel) ⟨Nat.le_of_ble_eq_true rfl, Nat.le_of_ble_eq_true rfl⟩) (z1_V (va_recv hK hP (ci := 3) (q0 := 2) rfl rfl) (hP.sub (ws' := [(pr, .inr (3, [.ref bd, .int (nI t)])), (bd, .inl (cI, 6003, .inl bf))]) [2, 3] rfl) (hK.sub (tys' := [(cI, .int)]) [1] rfl) hG) rfl rfl hl.1 rfl (lv_room (Nat.le_of_ble_eq_true rfl)) dX0_switchUnits_49 ⟨Nat.le_of_ble_eq_true rfl, Nat.le_of_ble_eq_true rfl⟩) (fun r_4 e_r_4 => ?_)
  replace e_r_4 := e_r_4.symm; subst e_r_4
  refine lv_i2l (v := (bf (t * 3 + tt)).toInt64) hx hb dX0_switchUnits_52 (rfl) ?_
  refine vp_callSl (zrun <| va_runSN (As := [.long (k_mon (((acc fr) * pct.toInt64) / 100) ((bf (t * 3 + fr)).toInt64)), .long ((bf (t * 3 + tt)).toInt64)]) (rest := [.int (nI tt), .ref co]) ⟨hx, hb, hml, hown, hts⟩ (m_X5_unitsFor l (k_mon (((acc fr) * pct.toInt64) / 100) ((bf (t * 3 + fr)).toInt64)) ((bf (t * 3 + tt)).toInt64)) ⟨va_cnB (host := "UnitContracts") 2 hts gX0_switchUnits_X5_unitsFor_n67 rfl rfl rfl (hG.1 _ (by decide +kernel)) k_0 (by decide +kernel) ⟨Nat.le_of_ble_eq_true rfl, Nat.le_of_ble_eq_true rfl⟩, k_6, trivial⟩ z0_S rfl rfl hl.1 rfl (lv_room (Nat.le_of_ble_eq_true rfl)) dX0_switchUnits_53 ⟨Nat.le_of_ble_eq_true rfl, Nat.le_of_ble_eq_true rfl⟩) (fun r_5 e_r_5 => ?_)
  replace e_r_5 := e_r_5.symm; subst e_r_5
  refine zcallv (wr := [(pr, .inr (3, [.ref bd, .int (nI t)])), (bd, .inl (cI, 6003, .inl bf))]) (va_runV (As := [.int (nI tt), .long (k_uns (k_mon (((acc fr) * pct.toInt64) / 100) ((bf (t * 3 + fr)).toInt64)) ((bf (t * 3 + tt)).toInt64))]) (rest := []) ⟨hx, hb, hml, hown, hts⟩ (m_X0_addUnits l D co ac cJ pm sm rt fu ini np al (vp_updL acc fr ((acc fr) - (((acc fr) * pct.toInt64) / 100))) tt (k_uns (k_mon (((acc fr) * pct.toInt64) / 100) ((bf (t * 3 + fr)).toInt64)) ((bf (t * 3 + tt)).toInt64)) (by first | omega | assumption) _) (cwV 2 hts gX0_switchUnits_X0_addUnits rfl rfl rfl (by decide +kernel) ⟨Nat.le_of_ble_eq_true rfl, Nat.le_of_ble_eq_true rfl⟩) (z2_V (va_recv hK hP (ci := 1) (q0 := 0) rfl rfl) (hP.sub (ws' := [(co, .inr (1, [.int pm, .int sm, .int rt, .int (nI fu), .ref ac, .long ini, .int (nI np), .int al])), (ac, .inl (cJ, 3, .inr (.inl (vp_updL acc fr ((acc fr) - (((acc fr) * pct.toInt64) / 100))))))]) [0, 1] rfl) (hK.sub (tys' := [(cJ, .long)]) [0] rfl) (hD.sub (ws' := [(co, .inr (1, [.int pm, .int sm, .int rt, .int (nI fu), .ref ac, .long ini, .int (nI np), .int al])), (ac, .inl (cJ, 3, .inr (.inl (vp_updL acc fr ((acc fr) - (((acc fr) * pct.toInt64) / 100))))))]) [0, 1] (by decide) rfl) hG) rfl rfl hl.1 rfl (lv_room (Nat.le_of_ble_eq_true rfl)) dX0_switchUnits_56 ⟨Nat.le_of_ble_eq_true rfl, Nat.le_of_ble_eq_true rfl⟩) hP hD hS hA [0, 1] [2, 3] rfl rfl (by decide) (by decide) (fun H locs hP hD hS => ?_)
  have hP : va_P D vwCl [(pr, .inr (3, [.ref bd, .int (nI t)])), (bd, .inl (cI, 6003, .inl bf)), (co, .inr (1, [.int pm, .int sm, .int rt, .int (nI fu), .ref ac, .long ini, .int (nI np), .int al])), (ac, .inl (cJ, 3, .inr (.inl (vp_updL (vp_updL acc fr ((acc fr) - (((acc fr) * pct.toInt64) / 100))) tt (k_add ((vp_updL acc fr ((acc fr) - (((acc fr) * pct.toInt64) / 100))) tt) (k_uns (k_mon (((acc fr) * pct.toInt64) / 100) ((bf (t * 3 + fr)).toInt64)) ((bf (t * 3 + tt)).toInt64)))))))] H := hP
  have hD : va_D A [(pr, .inr (3, [.ref bd, .int (nI t)])), (bd, .inl (cI, 6003, .inl bf)), (co, .inr (1, [.int pm, .int sm, .int rt, .int (nI fu), .ref ac, .long ini, .int (nI np), .int al])), (ac, .inl (cJ, 3, .inr (.inl (vp_updL (vp_updL acc fr ((acc fr) - (((acc fr) * pct.toInt64) / 100))) tt (k_add ((vp_updL acc fr ((acc fr) - (((acc fr) * pct.toInt64) / 100))) tt) (k_uns (k_mon (((acc fr) * pct.toInt64) / 100) ((bf (t * 3 + fr)).toInt64)) ((bf (t * 3 + tt)).toInt64)))))))] := hD
  subst hAe
  exact zretv (D := D) (wf := [(co, .inr (1, [.int pm, .int sm, .int rt, .int (nI fu), .ref ac, .long ini, .int (nI np), .int al])), (ac, .inl (cJ, 3, .inr (.inl (k_switch acc fr tt pct (bf (t * 3 + fr)) (bf (t * 3 + tt)))))), (pr, .inr (3, [.ref bd, .int (nI t)])), (bd, .inl (cI, 6003, .inl bf))]) hx hb hr hlocks (hP.sub [2, 3, 0, 1] rfl) hK (hD.sub [2, 3, 0, 1] (by decide) rfl) hS dX0_switchUnits_59 (Nat.le_of_ble_eq_true rfl) (Nat.le_of_ble_eq_true rfl)

set_option maxHeartbeats 4000000 in
set_option maxRecDepth 100000 in
/-- ageInitial(day) -/
theorem m_X0_ageInitial (l : Launch) (D : va_G) (co ac : Nat) (cJ : ClassId) (pm sm rt : Int32) (fu : Nat) (ini : Int64) (np : Nat) (al : Int32) (acc : Nat → Int64) (dd : Nat) (hfu : fu < 3) (hdd : dd ≤ 2000) (sz : Nat)  : Met l yX0_ageInitial wsX0_ageInitial ({ frames := 2, cells := 0, slots := 0, locals := 55 }) (z2 D [(co, .inr (1, [.int pm, .int sm, .int rt, .int (nI fu), .ref ac, .long ini, .int (nI np), .int al])), (ac, .inl (cJ, 3, .inr (.inl acc)))] [(cJ, .long)] sz [.ref co, .int (nI dd)]) (va_Qv (fun _ : Unit => True) (zB D [(cJ, .long)] [(co, .inr (1, [.int pm, .int sm, .int rt, .int (nI fu), .ref ac, .long (if dd < 720 then ini * 99 / 100 else 0), .int (nI np), .int al])), (ac, .inl (cJ, 3, .inr (.inl (if dd < 720 then acc else vp_updL acc fu (k_add (acc fu) (ini * 99 / 100 * 9 / 10))))))] (va_A [(co, .inr (1, [.int pm, .int sm, .int rt, .int (nI fu), .ref ac, .long ini, .int (nI np), .int al])), (ac, .inl (cJ, 3, .inr (.inl acc)))] sz)) (va_A [(co, .inr (1, [.int pm, .int sm, .int rt, .int (nI fu), .ref ac, .long ini, .int (nI np), .int al])), (ac, .inl (cJ, 3, .inr (.inl acc)))] sz)) 0 0 (va_A [(co, .inr (1, [.int pm, .int sm, .int rt, .int (nI fu), .ref ac, .long ini, .int (nI np), .int al])), (ac, .inl (cJ, 3, .inr (.inl acc)))] sz) := by
  refine zm2 (cc := cX0_ageInitial) (maxL := 2) (ret := none) (by decide) rfl (Nat.le_of_ble_eq_true rfl) ?_
  intro p e s m below meth c ls A hAe hsz hin hx hb hml hr hlocks hown hts hP hK hG hD hA hS hl
  subst hsz
  have hl : lv_has ls 2 [(0, .ref co), (1, .int (nI dd))] := hl
  have k_0 := hts (.fieldLink RX0 35 "UnitContracts$Contract" "initialUnits" "J") (List.mem_of_getElem? (i := 1) rfl)
  have i_RX0 : ∀ w ∈ u_ws RX0 TX0 8, w ∈ wsX0_ageInitial := by decide +kernel
  have k_2 := hts (.constantLong RX0 76 (99)) (List.mem_of_getElem? (i := 2) rfl)
  have k_3 := hts (.constantLong RX0 74 (100)) (List.mem_of_getElem? (i := 3) rfl)
  have k_4 := hts (.fieldLink RX0 29 "UnitContracts$Contract" "fund" "I") (List.mem_of_getElem? (i := 4) rfl)
  have k_5 := hts (.constantLong RX0 78 (9)) (List.mem_of_getElem? (i := 5) rfl)
  have k_6 := hts (.constantLong RX0 80 (10)) (List.mem_of_getElem? (i := 6) rfl)
  refine lv_aload_n hx hb dX0_ageInitial_0 rfl (lv_at hl 0 rfl) ?_
  refine lv_aload_n hx hb dX0_ageInitial_1 rfl (lv_at hl 0 rfl) ?_
  refine va_get (D := D) (ci := 1) (v := .long ini) (C := RX0) (T := TX0) (N := 8) hx hb hts i_RX0 hown hK hP 0 rfl rfl 5 (by decide) k_0 (fun _ h9 => h9) rfl dX0_ageInitial_2 ?_
  refine lv_ldc2 (v := 99) hx hb hown k_2 dX0_ageInitial_5 ?_
  refine zx_lmul (v := ini * 99) hx hb dX0_ageInitial_8 (rfl) ?_
  refine lv_ldc2 (v := 100) hx hb hown k_3 dX0_ageInitial_9 ?_
  refine zx_ldiv (v := (ini * 99) / 100) hx hb dX0_ageInitial_12 (by decide) (rfl) ?_
  refine va_put (D := D) (ci := 1) (v := .long ((ini * 99) / 100)) (ty := .long) (C := RX0) (T := TX0) (N := 8) hx hb hts i_RX0 tyX0 tyX0_ok nmX0 hown hK hP hD hS 0 rfl rfl 5 (by decide) k_0 (fun _ h9 => h9) rfl (by decide +kernel) rfl rfl (Nat.le_of_ble_eq_true rfl) dX0_ageInitial_13 (fun H locs hP hD hS => ?_)
  have hP : va_P D vwCl [(co, .inr (1, [.int pm, .int sm, .int rt, .int (nI fu), .ref ac, .long ((ini * 99) / 100), .int (nI np), .int al])), (ac, .inl (cJ, 3, .inr (.inl acc)))] H := hP
  have hD : va_D A [(co, .inr (1, [.int pm, .int sm, .int rt, .int (nI fu), .ref ac, .long ((ini * 99) / 100), .int (nI np), .int al])), (ac, .inl (cJ, 3, .inr (.inl acc)))] := hD
  refine lv_iload_n hx hb dX0_ageInitial_16 rfl (lv_at hl 1 rfl) ?_
  refine lv_sipush (v := nI 720) hx hb dX0_ageInitial_17 (by decide) ?_
  refine lv_icmp_lt (tgt := 48) hx hb dX0_ageInitial_20 (by decide) (fun c_20 => ?_) (fun c_20 => ?_)
  · skip
    have n_20 : dd < 720 := (nI_ltI (a := dd) (b := 720) (by omega) (by omega)).mp c_20
    have hw9 : ([(co, .inr (1, [.int pm, .int sm, .int rt, .int (nI fu), .ref ac, .long ((ini * 99) / 100), .int (nI np), .int al])), (ac, .inl (cJ, 3, .inr (.inl acc)))] : va_W) = [(co, .inr (1, [.int pm, .int sm, .int rt, .int (nI fu), .ref ac, .long (if dd < 720 then ini * 99 / 100 else 0), .int (nI np), .int al])), (ac, .inl (cJ, 3, .inr (.inl (if dd < 720 then acc else vp_updL acc fu (k_add (acc fu) (ini * 99 / 100 * 9 / 10))))))] := (by first | (simp only [if_pos n_20] <;> rfl) | (simp only [if_neg n_20] <;> rfl))
    have hP := hP.sub (ws' := [(co, .inr (1, [.int pm, .int sm, .int rt, .int (nI fu), .ref ac, .long ((ini * 99) / 100), .int (nI np), .int al])), (ac, .inl (cJ, 3, .inr (.inl acc)))]) [0, 1] rfl
    have hD := hD.sub (ws' := [(co, .inr (1, [.int pm, .int sm, .int rt, .int (nI fu), .ref ac, .long ((ini * 99) / 100), .int (nI np), .int al])), (ac, .inl (cJ, 3, .inr (.inl acc)))]) [0, 1] (by decide) rfl
    rw [hw9] at hP hD
    subst hAe
    exact zretv (D := D) (wf := [(co, .inr (1, [.int pm, .int sm, .int rt, .int (nI fu), .ref ac, .long (if dd < 720 then ini * 99 / 100 else 0), .int (nI np), .int al])), (ac, .inl (cJ, 3, .inr (.inl (if dd < 720 then acc else vp_updL acc fu (k_add (acc fu) (ini * 99 / 100 * 9 / 10))))))]) hx hb hr hlocks hP hK hD hS dX0_ageInitial_48 (Nat.le_of_ble_eq_true rfl) (Nat.le_of_ble_eq_true rfl)
  · skip
    have n_20 : ¬ dd < 720 := fun h8 => c_20 ((nI_ltI (a := dd) (b := 720) (by omega) (by omega)).mpr h8)
    refine lv_aload_n hx hb dX0_ageInitial_23 rfl (lv_at hl 0 rfl) ?_
    refine lv_aload_n hx hb dX0_ageInitial_24 rfl (lv_at hl 0 rfl) ?_
    refine va_get (D := D) (ci := 1) (v := .int (nI fu)) (C := RX0) (T := TX0) (N := 8) hx hb hts i_RX0 hown hK hP 0 rfl rfl 3 (by decide) k_4 (fun _ h9 => h9) rfl dX0_ageInitial_25 ?_
    refine lv_aload_n hx hb dX0_ageInitial_28 rfl (lv_at hl 0 rfl) ?_
    refine va_get (D := D) (ci := 1) (v := .long ((ini * 99) / 100)) (C := RX0) (T := TX0) (N := 8) hx hb hts i_RX0 hown hK hP 0 rfl rfl 5 (by decide) k_0 (fun _ h9 => h9) rfl dX0_ageInitial_29 ?_
    refine lv_ldc2 (v := 9) hx hb hown k_5 dX0_ageInitial_32 ?_
    refine zx_lmul (v := ((ini * 99) / 100) * 9) hx hb dX0_ageInitial_35 (rfl) ?_
    refine lv_ldc2 (v := 10) hx hb hown k_6 dX0_ageInitial_36 ?_
    refine zx_ldiv (v := (((ini * 99) / 100) * 9) / 10) hx hb dX0_ageInitial_39 (by decide) (rfl) ?_
    refine zcallv (wr := []) (va_runV (As := [.int (nI fu), .long ((((ini * 99) / 100) * 9) / 10)]) (rest := []) ⟨hx, hb, hml, hown, hts⟩ (m_X0_addUnits l D co ac cJ pm sm rt fu ((ini * 99) / 100) np al acc fu ((((ini * 99) / 100) * 9) / 10) (by first | omega | assumption) _) (cwV 2 hts gX0_ageInitial_X0_addUnits rfl rfl rfl (by decide +kernel) ⟨Nat.le_of_ble_eq_true rfl, Nat.le_of_ble_eq_true rfl⟩) (z2_V (va_recv hK hP (ci := 1) (q0 := 0) rfl rfl) (hP.sub (ws' := [(co, .inr (1, [.int pm, .int sm, .int rt, .int (nI fu), .ref ac, .long ((ini * 99) / 100), .int (nI np), .int al])), (ac, .inl (cJ, 3, .inr (.inl acc)))]) [0, 1] rfl) (hK.sub (tys' := [(cJ, .long)]) [0] rfl) (hD.sub (ws' := [(co, .inr (1, [.int pm, .int sm, .int rt, .int (nI fu), .ref ac, .long ((ini * 99) / 100), .int (nI np), .int al])), (ac, .inl (cJ, 3, .inr (.inl acc)))]) [0, 1] (by decide) rfl) hG) rfl rfl hl.1 rfl (lv_room (Nat.le_of_ble_eq_true rfl)) dX0_ageInitial_40 ⟨Nat.le_of_ble_eq_true rfl, Nat.le_of_ble_eq_true rfl⟩) hP hD hS hA [0, 1] [] rfl rfl (by decide) (by decide) (fun H locs hP hD hS => ?_)
    have hP : va_P D vwCl [(co, .inr (1, [.int pm, .int sm, .int rt, .int (nI fu), .ref ac, .long ((ini * 99) / 100), .int (nI np), .int al])), (ac, .inl (cJ, 3, .inr (.inl (vp_updL acc fu (k_add (acc fu) ((((ini * 99) / 100) * 9) / 10))))))] H := hP
    have hD : va_D A [(co, .inr (1, [.int pm, .int sm, .int rt, .int (nI fu), .ref ac, .long ((ini * 99) / 100), .int (nI np), .int al])), (ac, .inl (cJ, 3, .inr (.inl (vp_updL acc fu (k_add (acc fu) ((((ini * 99) / 100) * 9) / 10))))))] := hD
    refine lv_aload_n hx hb dX0_ageInitial_43 rfl (lv_at hl 0 rfl) ?_
    refine lv_lconst (v := 0) hx hb dX0_ageInitial_44 (by decide) ?_
    refine va_put (D := D) (ci := 1) (v := .long 0) (ty := .long) (C := RX0) (T := TX0) (N := 8) hx hb hts i_RX0 tyX0 tyX0_ok nmX0 hown hK hP hD hS 0 rfl rfl 5 (by decide) k_0 (fun _ h9 => h9) rfl (by decide +kernel) rfl rfl (Nat.le_of_ble_eq_true rfl) dX0_ageInitial_45 (fun H locs hP hD hS => ?_)
    have hP : va_P D vwCl [(co, .inr (1, [.int pm, .int sm, .int rt, .int (nI fu), .ref ac, .long 0, .int (nI np), .int al])), (ac, .inl (cJ, 3, .inr (.inl (vp_updL acc fu (k_add (acc fu) ((((ini * 99) / 100) * 9) / 10))))))] H := hP
    have hD : va_D A [(co, .inr (1, [.int pm, .int sm, .int rt, .int (nI fu), .ref ac, .long 0, .int (nI np), .int al])), (ac, .inl (cJ, 3, .inr (.inl (vp_updL acc fu (k_add (acc fu) ((((ini * 99) / 100) * 9) / 10))))))] := hD
    have hw9 : ([(co, .inr (1, [.int pm, .int sm, .int rt, .int (nI fu), .ref ac, .long 0, .int (nI np), .int al])), (ac, .inl (cJ, 3, .inr (.inl (vp_updL acc fu (k_add (acc fu) ((((ini * 99) / 100) * 9) / 10))))))] : va_W) = [(co, .inr (1, [.int pm, .int sm, .int rt, .int (nI fu), .ref ac, .long (if dd < 720 then ini * 99 / 100 else 0), .int (nI np), .int al])), (ac, .inl (cJ, 3, .inr (.inl (if dd < 720 then acc else vp_updL acc fu (k_add (acc fu) (ini * 99 / 100 * 9 / 10))))))] := (by first | (simp only [if_pos n_20] <;> rfl) | (simp only [if_neg n_20] <;> rfl))
    have hP := hP.sub (ws' := [(co, .inr (1, [.int pm, .int sm, .int rt, .int (nI fu), .ref ac, .long 0, .int (nI np), .int al])), (ac, .inl (cJ, 3, .inr (.inl (vp_updL acc fu (k_add (acc fu) ((((ini * 99) / 100) * 9) / 10))))))]) [0, 1] rfl
    have hD := hD.sub (ws' := [(co, .inr (1, [.int pm, .int sm, .int rt, .int (nI fu), .ref ac, .long 0, .int (nI np), .int al])), (ac, .inl (cJ, 3, .inr (.inl (vp_updL acc fu (k_add (acc fu) ((((ini * 99) / 100) * 9) / 10))))))]) [0, 1] (by decide) rfl
    rw [hw9] at hP hD
    subst hAe
    exact zretv (D := D) (wf := [(co, .inr (1, [.int pm, .int sm, .int rt, .int (nI fu), .ref ac, .long (if dd < 720 then ini * 99 / 100 else 0), .int (nI np), .int al])), (ac, .inl (cJ, 3, .inr (.inl (if dd < 720 then acc else vp_updL acc fu (k_add (acc fu) (ini * 99 / 100 * 9 / 10))))))]) hx hb hr hlocks hP hK hD hS dX0_ageInitial_48 (Nat.le_of_ble_eq_true rfl) (Nat.le_of_ble_eq_true rfl)

set_option maxHeartbeats 4000000 in
set_option maxRecDepth 100000 in
/-- sellFor(rest, fund, price) -/
theorem m_X0_sellFor (l : Launch) (D : va_G) (co ac : Nat) (cJ : ClassId) (pm sm rt : Int32) (fu : Nat) (ini : Int64) (np : Nat) (al : Int32) (acc : Nat → Int64) (rs : Int64) (q : Nat) (pp : Int64) (hq : q < 3) (hpp : ¬ pp < 1) (sz : Nat)  : Met l yX0_sellFor wsX0_sellFor ({ frames := 1, cells := 0, slots := 0, locals := 32 }) (z2 D [(co, .inr (1, [.int pm, .int sm, .int rt, .int (nI fu), .ref ac, .long ini, .int (nI np), .int al])), (ac, .inl (cJ, 3, .inr (.inl acc)))] [(cJ, .long)] sz [.ref co, .long rs, .int (nI q), .long pp]) (va_Ql (fun (r : Int64) (_ : Unit) => r = k_got rs pp (acc q)) (zB D [(cJ, .long)] [(co, .inr (1, [.int pm, .int sm, .int rt, .int (nI fu), .ref ac, .long ini, .int (nI np), .int al])), (ac, .inl (cJ, 3, .inr (.inl (k_sell acc q rs pp))))] (va_A [(co, .inr (1, [.int pm, .int sm, .int rt, .int (nI fu), .ref ac, .long ini, .int (nI np), .int al])), (ac, .inl (cJ, 3, .inr (.inl acc)))] sz)) (va_A [(co, .inr (1, [.int pm, .int sm, .int rt, .int (nI fu), .ref ac, .long ini, .int (nI np), .int al])), (ac, .inl (cJ, 3, .inr (.inl acc)))] sz)) 0 0 (va_A [(co, .inr (1, [.int pm, .int sm, .int rt, .int (nI fu), .ref ac, .long ini, .int (nI np), .int al])), (ac, .inl (cJ, 3, .inr (.inl acc)))] sz) := by
  refine zm2 (cc := cX0_sellFor) (maxL := 10) (ret := (some .long)) (by decide) rfl (Nat.le_of_ble_eq_true rfl) ?_
  intro p e s m below meth c ls A hAe hsz hin hx hb hml hr hlocks hown hts hP hK hG hD hA hS hl
  subst hsz
  have hl : lv_has ls 10 [(0, .ref co), (1, .long rs), (3, .int (nI q)), (4, .long pp)] := hl
  have k_0 := hts (.initialized RX5) (List.mem_of_getElem? (i := 8) rfl)
  have k_1 := hts (.static yX5_isFund) (List.mem_of_getElem? (i := 7) rfl)
  have k_2 := hts (.constantLong RX0 100 (1000)) (List.mem_of_getElem? (i := 1) rfl)
  have k_3 := hts (.fieldLink RX0 9 "UnitContracts$Contract" "accumulation" "[J") (List.mem_of_getElem? (i := 2) rfl)
  have i_RX0 : ∀ w ∈ u_ws RX0 TX0 8, w ∈ wsX0_sellFor := by decide +kernel
  have k_5 := hts (.methodLink RX0 59 Lib.MathLoose.min_long.x) (List.mem_of_getElem? (i := 3) rfl)
  have k_6 := hts (.static Lib.MathLoose.min_long.x) (List.mem_of_getElem? (i := 4) rfl)
  have k_7 := hts (.initialized "java/lang/Math") (List.mem_of_getElem? (i := 5) rfl)
  have k_8 := hts (.code Lib.MathLoose.min_long.x Lib.MathLoose.min_long.code 4 (some .long)) (List.mem_of_getElem? (i := 6) rfl)
  have k_9 := hts (.static yX5_moneyFor) (List.mem_of_getElem? (i := 10) rfl)
  refine lv_lload hx hb dX0_sellFor_0 (lv_at hl 3 rfl) ?_
  refine lv_lconst (v := 1) hx hb dX0_sellFor_2 (by decide) ?_
  refine zx_lcmp_lt (tgt := 14) hx hb dX0_sellFor_3 dX0_sellFor_4 (by decide) (fun h9 => absurd h9 hpp) (fun _ => ?_)
  refine lv_iload_n hx hb dX0_sellFor_7 rfl (lv_at hl 2 rfl) ?_
  refine vp_callSi (zrun <| va_runSN (As := [.int (nI q)]) (rest := []) ⟨hx, hb, hml, hown, hts⟩ (m_X5_isFund l (nI q)) ⟨va_cnB (host := "UnitContracts") 1 hts gX0_sellFor_X5_isFund_n39 rfl rfl rfl (hG.1 _ (by decide +kernel)) k_0 (by decide +kernel) ⟨Nat.le_of_ble_eq_true rfl, Nat.le_of_ble_eq_true rfl⟩, k_1, trivial⟩ z0_S rfl rfl hl.1 rfl (lv_room (Nat.le_of_ble_eq_true rfl)) dX0_sellFor_8 ⟨Nat.le_of_ble_eq_true rfl, Nat.le_of_ble_eq_true rfl⟩) (fun r_1 e_r_1 => ?_)
  have e_r_1 : r_1 = nI 1 := e_r_1.trans (k_isFund_n (by omega))
  replace e_r_1 := e_r_1.symm; subst e_r_1
  refine lv_if_ne (tgt := 16) hx hb dX0_sellFor_11 (by decide) (fun _ => ?_) (fun h9 => absurd h9 (by decide))
  refine lv_lload_n hx hb dX0_sellFor_16 rfl (lv_at hl 1 rfl) ?_
  refine lv_ldc2 (v := 1000) hx hb hown k_2 dX0_sellFor_17 ?_
  refine zx_lmul (v := rs * 1000) hx hb dX0_sellFor_20 (rfl) ?_
  refine lv_lload hx hb dX0_sellFor_21 (lv_at hl 3 rfl) ?_
  refine zx_ladd (v := (rs * 1000) + pp) hx hb dX0_sellFor_23 (rfl) ?_
  refine lv_lconst (v := 1) hx hb dX0_sellFor_24 (by decide) ?_
  refine zx_lsub (v := ((rs * 1000) + pp) - 1) hx hb dX0_sellFor_25 (rfl) ?_
  refine lv_lload hx hb dX0_sellFor_26 (lv_at hl 3 rfl) ?_
  refine zx_ldiv (v := (((rs * 1000) + pp) - 1) / pp) hx hb dX0_sellFor_28 (k_ne2 hpp) (rfl) ?_
  refine lv_lstore (lv' := [(6, .long ((((rs * 1000) + pp) - 1) / pp)), (0, .ref co), (1, .long rs), (3, .int (nI q)), (4, .long pp)]) hx hb dX0_sellFor_29 hl (by decide) rfl (fun ls hl => ?_)
  refine lv_lload hx hb dX0_sellFor_31 (lv_at hl 0 rfl) ?_
  refine lv_aload_n hx hb dX0_sellFor_33 rfl (lv_at hl 1 rfl) ?_
  refine va_get (D := D) (ci := 1) (v := .ref ac) (C := RX0) (T := TX0) (N := 8) hx hb hts i_RX0 hown hK hP 0 rfl rfl 4 (by decide) k_3 (fun _ h9 => h9) rfl dX0_sellFor_34 ?_
  refine lv_iload_n hx hb dX0_sellFor_37 rfl (lv_at hl 3 rfl) ?_
  refine zx_lald (D := D) hx hb hK hP 1 0 rfl rfl (v := acc q) (rfl) (by omega) (by first | decide | omega) dX0_sellFor_38 ?_
  refine va_mmin_long hx hb (hml.trans hl.1.symm) hown k_5 k_6 k_7 k_8 (Nat.le_of_ble_eq_true rfl) (Nat.le_of_ble_eq_true rfl) (Nat.le_of_ble_eq_true rfl) (Nat.le_of_ble_eq_true rfl) dX0_sellFor_39 ?_
  refine lv_lstore (lv' := [(8, .long (if (acc q) < ((((rs * 1000) + pp) - 1) / pp) then acc q else (((rs * 1000) + pp) - 1) / pp)), (6, .long ((((rs * 1000) + pp) - 1) / pp)), (0, .ref co), (1, .long rs), (3, .int (nI q)), (4, .long pp)]) hx hb dX0_sellFor_42 hl (by decide) rfl (fun ls hl => ?_)
  refine lv_aload_n hx hb dX0_sellFor_44 rfl (lv_at hl 2 rfl) ?_
  refine va_get (D := D) (ci := 1) (v := .ref ac) (C := RX0) (T := TX0) (N := 8) hx hb hts i_RX0 hown hK hP 0 rfl rfl 4 (by decide) k_3 (fun _ h9 => h9) rfl dX0_sellFor_45 ?_
  refine lv_iload_n hx hb dX0_sellFor_48 rfl (lv_at hl 4 rfl) ?_
  refine lv_dup2_11 hx hb dX0_sellFor_49 rfl rfl ?_
  refine zx_lald (D := D) hx hb hK hP 1 0 rfl rfl (v := acc q) (rfl) (by omega) (by first | decide | omega) dX0_sellFor_50 ?_
  refine lv_lload hx hb dX0_sellFor_51 (lv_at hl 0 rfl) ?_
  refine zx_lsub (v := (acc q) - (if (acc q) < ((((rs * 1000) + pp) - 1) / pp) then acc q else (((rs * 1000) + pp) - 1) / pp)) hx hb dX0_sellFor_53 (rfl) ?_
  refine zx_last (D := D) hx hb hK hP hD hS 1 0 rfl rfl (by omega) (by decide) dX0_sellFor_54 (fun H locs hP hD hS => ?_)
  have hP : va_P D vwCl [(co, .inr (1, [.int pm, .int sm, .int rt, .int (nI fu), .ref ac, .long ini, .int (nI np), .int al])), (ac, .inl (cJ, 3, .inr (.inl (vp_updL acc q ((acc q) - (if (acc q) < ((((rs * 1000) + pp) - 1) / pp) then acc q else (((rs * 1000) + pp) - 1) / pp))))))] H := hP
  have hD : va_D A [(co, .inr (1, [.int pm, .int sm, .int rt, .int (nI fu), .ref ac, .long ini, .int (nI np), .int al])), (ac, .inl (cJ, 3, .inr (.inl (vp_updL acc q ((acc q) - (if (acc q) < ((((rs * 1000) + pp) - 1) / pp) then acc q else (((rs * 1000) + pp) - 1) / pp))))))] := hD
  refine lv_lload_n hx hb dX0_sellFor_55 rfl (lv_at hl 3 rfl) ?_
  refine lv_lload hx hb dX0_sellFor_56 (lv_at hl 0 rfl) ?_
  refine lv_lload hx hb dX0_sellFor_58 (lv_at hl 5 rfl) ?_
  refine vp_callSl (zrun <| va_runSN (As := [.long (if (acc q) < ((((rs * 1000) + pp) - 1) / pp) then acc q else (((rs * 1000) + pp) - 1) / pp), .long pp]) (rest := [.long rs]) ⟨hx, hb, hml, hown, hts⟩ (m_X5_moneyFor l (if (acc q) < ((((rs * 1000) + pp) - 1) / pp) then acc q else (((rs * 1000) + pp) - 1) / pp) pp) ⟨va_cnB (host := "UnitContracts") 2 hts gX0_sellFor_X5_moneyFor_n53 rfl rfl rfl (hG.1 _ (by decide +kernel)) k_0 (by decide +kernel) ⟨Nat.le_of_ble_eq_true rfl, Nat.le_of_ble_eq_true rfl⟩, k_9, trivial⟩ z0_S rfl rfl hl.1 rfl (lv_room (Nat.le_of_ble_eq_true rfl)) dX0_sellFor_60 ⟨Nat.le_of_ble_eq_true rfl, Nat.le_of_ble_eq_true rfl⟩) (fun r_2 e_r_2 => ?_)
  replace e_r_2 := e_r_2.symm; subst e_r_2
  refine va_mmin_long hx hb (hml.trans hl.1.symm) hown k_5 k_6 k_7 k_8 (Nat.le_of_ble_eq_true rfl) (Nat.le_of_ble_eq_true rfl) (Nat.le_of_ble_eq_true rfl) (Nat.le_of_ble_eq_true rfl) dX0_sellFor_63 ?_
  subst hAe
  exact zretl (D := D) (wf := [(co, .inr (1, [.int pm, .int sm, .int rt, .int (nI fu), .ref ac, .long ini, .int (nI np), .int al])), (ac, .inl (cJ, 3, .inr (.inl (k_sell acc q rs pp))))]) hx hb hr hlocks (hP.sub [0, 1] rfl) hK (hD.sub [0, 1] (by decide) rfl) hS dX0_sellFor_66 (Nat.le_of_ble_eq_true rfl) (Nat.le_of_ble_eq_true rfl) (by first | rfl | (subst_vars; rfl))

set_option maxHeartbeats 4000000 in
set_option maxRecDepth 100000 in
/-- lapse() -/
theorem m_X0_lapse (l : Launch) (D : va_G) (co ac : Nat) (cJ : ClassId) (pm sm rt : Int32) (fu : Nat) (ini : Int64) (np : Nat) (al : Int32) (acc : Nat → Int64)  (sz : Nat)  : Met l yX0_lapse wsX0_lapse ({ frames := 0, cells := 0, slots := 0, locals := 0 }) (z2 D [(co, .inr (1, [.int pm, .int sm, .int rt, .int (nI fu), .ref ac, .long ini, .int (nI np), .int al])), (ac, .inl (cJ, 3, .inr (.inl acc)))] [(cJ, .long)] sz [.ref co]) (va_Qv (fun _ : Unit => True) (zB D [(cJ, .long)] [(co, .inr (1, [.int pm, .int sm, .int rt, .int (nI fu), .ref ac, .long 0, .int (nI np), .int (nI 0)])), (ac, .inl (cJ, 3, .inr (.inl (k_zero acc))))] (va_A [(co, .inr (1, [.int pm, .int sm, .int rt, .int (nI fu), .ref ac, .long ini, .int (nI np), .int al])), (ac, .inl (cJ, 3, .inr (.inl acc)))] sz)) (va_A [(co, .inr (1, [.int pm, .int sm, .int rt, .int (nI fu), .ref ac, .long ini, .int (nI np), .int al])), (ac, .inl (cJ, 3, .inr (.inl acc)))] sz)) 0 0 (va_A [(co, .inr (1, [.int pm, .int sm, .int rt, .int (nI fu), .ref ac, .long ini, .int (nI np), .int al])), (ac, .inl (cJ, 3, .inr (.inl acc)))] sz) := by
  refine zm2 (cc := cX0_lapse) (maxL := 2) (ret := none) (by decide) rfl (Nat.le_of_ble_eq_true rfl) ?_
  intro p e s m below meth c ls A hAe hsz hin hx hb hml hr hlocks hown hts hP hK hG hD hA hS hl
  subst hsz
  have hl : lv_has ls 2 [(0, .ref co)] := hl
  have k_0 := hts (.fieldLink RX0 15 "UnitContracts$Contract" "alive" "Z") (List.mem_of_getElem? (i := 1) rfl)
  have i_RX0 : ∀ w ∈ u_ws RX0 TX0 8, w ∈ wsX0_lapse := by decide +kernel
  have k_2 := hts (.fieldLink RX0 35 "UnitContracts$Contract" "initialUnits" "J") (List.mem_of_getElem? (i := 2) rfl)
  have k_3 := hts (.fieldLink RX0 9 "UnitContracts$Contract" "accumulation" "[J") (List.mem_of_getElem? (i := 3) rfl)
  refine lv_aload_n hx hb dX0_lapse_0 rfl (lv_at hl 0 rfl) ?_
  refine lv_iconst (v := nI 0) hx hb dX0_lapse_1 (by decide) ?_
  refine va_put (D := D) (ci := 1) (v := .int (nI 0)) (ty := .boolean) (C := RX0) (T := TX0) (N := 8) hx hb hts i_RX0 tyX0 tyX0_ok nmX0 hown hK hP hD hS 0 rfl rfl 7 (by decide) k_0 (fun _ h9 => h9) rfl (by decide +kernel) rfl rfl (Nat.le_of_ble_eq_true rfl) dX0_lapse_2 (fun H locs hP hD hS => ?_)
  have hP : va_P D vwCl [(co, .inr (1, [.int pm, .int sm, .int rt, .int (nI fu), .ref ac, .long ini, .int (nI np), .int (nI 0)])), (ac, .inl (cJ, 3, .inr (.inl acc)))] H := hP
  have hD : va_D A [(co, .inr (1, [.int pm, .int sm, .int rt, .int (nI fu), .ref ac, .long ini, .int (nI np), .int (nI 0)])), (ac, .inl (cJ, 3, .inr (.inl acc)))] := hD
  refine lv_aload_n hx hb dX0_lapse_5 rfl (lv_at hl 0 rfl) ?_
  refine lv_lconst (v := 0) hx hb dX0_lapse_6 (by decide) ?_
  refine va_put (D := D) (ci := 1) (v := .long 0) (ty := .long) (C := RX0) (T := TX0) (N := 8) hx hb hts i_RX0 tyX0 tyX0_ok nmX0 hown hK hP hD hS 0 rfl rfl 5 (by decide) k_2 (fun _ h9 => h9) rfl (by decide +kernel) rfl rfl (Nat.le_of_ble_eq_true rfl) dX0_lapse_7 (fun H locs hP hD hS => ?_)
  have hP : va_P D vwCl [(co, .inr (1, [.int pm, .int sm, .int rt, .int (nI fu), .ref ac, .long 0, .int (nI np), .int (nI 0)])), (ac, .inl (cJ, 3, .inr (.inl acc)))] H := hP
  have hD : va_D A [(co, .inr (1, [.int pm, .int sm, .int rt, .int (nI fu), .ref ac, .long 0, .int (nI np), .int (nI 0)])), (ac, .inl (cJ, 3, .inr (.inl acc)))] := hD
  refine lv_iconst (v := nI 0) hx hb dX0_lapse_10 (by decide) ?_
  refine lv_istore_n (lv' := [(1, .int (nI 0)), (0, .ref co)]) hx hb dX0_lapse_11 rfl hl (by decide) rfl (fun ls hl => ?_)
  refine lv_iload_n hx hb dX0_lapse_12 rfl (lv_at hl 0 rfl) ?_
  refine lv_aload_n hx hb dX0_lapse_13 rfl (lv_at hl 1 rfl) ?_
  refine va_get (D := D) (ci := 1) (v := .ref ac) (C := RX0) (T := TX0) (N := 8) hx hb hts i_RX0 hown hK hP 0 rfl rfl 4 (by decide) k_3 (fun _ h9 => h9) rfl dX0_lapse_14 ?_
  refine va_alen (D := D) (cl := vwCl) hx hb hK hP 1 0 rfl rfl (v := nI 3) rfl dX0_lapse_17 ?_
  refine lv_icmp_ge (tgt := 34) hx hb dX0_lapse_18 (by decide) (fun h9 => absurd h9 (by decide)) (fun _ => ?_)
  refine lv_aload_n hx hb dX0_lapse_21 rfl (lv_at hl 1 rfl) ?_
  refine va_get (D := D) (ci := 1) (v := .ref ac) (C := RX0) (T := TX0) (N := 8) hx hb hts i_RX0 hown hK hP 0 rfl rfl 4 (by decide) k_3 (fun _ h9 => h9) rfl dX0_lapse_22 ?_
  refine lv_iload_n hx hb dX0_lapse_25 rfl (lv_at hl 0 rfl) ?_
  refine lv_lconst (v := 0) hx hb dX0_lapse_26 (by decide) ?_
  refine zx_last (D := D) hx hb hK hP hD hS 1 0 rfl rfl (by decide) (by decide) dX0_lapse_27 (fun H locs hP hD hS => ?_)
  have hP : va_P D vwCl [(co, .inr (1, [.int pm, .int sm, .int rt, .int (nI fu), .ref ac, .long 0, .int (nI np), .int (nI 0)])), (ac, .inl (cJ, 3, .inr (.inl (vp_updL acc 0 0))))] H := hP
  have hD : va_D A [(co, .inr (1, [.int pm, .int sm, .int rt, .int (nI fu), .ref ac, .long 0, .int (nI np), .int (nI 0)])), (ac, .inl (cJ, 3, .inr (.inl (vp_updL acc 0 0))))] := hD
  refine lv_iinc (v := nI 1) (lv' := [(1, .int (nI 1)), (0, .ref co)]) hx hb dX0_lapse_28 hl (k := 0) rfl (by decide) (by decide) rfl (fun ls hl => ?_)
  refine lv_goto (tgt := 12) hx hb dX0_lapse_31 (by decide) ?_
  refine lv_iload_n hx hb dX0_lapse_12 rfl (lv_at hl 0 rfl) ?_
  refine lv_aload_n hx hb dX0_lapse_13 rfl (lv_at hl 1 rfl) ?_
  refine va_get (D := D) (ci := 1) (v := .ref ac) (C := RX0) (T := TX0) (N := 8) hx hb hts i_RX0 hown hK hP 0 rfl rfl 4 (by decide) k_3 (fun _ h9 => h9) rfl dX0_lapse_14 ?_
  refine va_alen (D := D) (cl := vwCl) hx hb hK hP 1 0 rfl rfl (v := nI 3) rfl dX0_lapse_17 ?_
  refine lv_icmp_ge (tgt := 34) hx hb dX0_lapse_18 (by decide) (fun h9 => absurd h9 (by decide)) (fun _ => ?_)
  refine lv_aload_n hx hb dX0_lapse_21 rfl (lv_at hl 1 rfl) ?_
  refine va_get (D := D) (ci := 1) (v := .ref ac) (C := RX0) (T := TX0) (N := 8) hx hb hts i_RX0 hown hK hP 0 rfl rfl 4 (by decide) k_3 (fun _ h9 => h9) rfl dX0_lapse_22 ?_
  refine lv_iload_n hx hb dX0_lapse_25 rfl (lv_at hl 0 rfl) ?_
  refine lv_lconst (v := 0) hx hb dX0_lapse_26 (by decide) ?_
  refine zx_last (D := D) hx hb hK hP hD hS 1 0 rfl rfl (by decide) (by decide) dX0_lapse_27 (fun H locs hP hD hS => ?_)
  have hP : va_P D vwCl [(co, .inr (1, [.int pm, .int sm, .int rt, .int (nI fu), .ref ac, .long 0, .int (nI np), .int (nI 0)])), (ac, .inl (cJ, 3, .inr (.inl (vp_updL (vp_updL acc 0 0) 1 0))))] H := hP
  have hD : va_D A [(co, .inr (1, [.int pm, .int sm, .int rt, .int (nI fu), .ref ac, .long 0, .int (nI np), .int (nI 0)])), (ac, .inl (cJ, 3, .inr (.inl (vp_updL (vp_updL acc 0 0) 1 0))))] := hD
  refine lv_iinc (v := nI 2) (lv' := [(1, .int (nI 2)), (0, .ref co)]) hx hb dX0_lapse_28 hl (k := 0) rfl (by decide) (by decide) rfl (fun ls hl => ?_)
  refine lv_goto (tgt := 12) hx hb dX0_lapse_31 (by decide) ?_
  refine lv_iload_n hx hb dX0_lapse_12 rfl (lv_at hl 0 rfl) ?_
  refine lv_aload_n hx hb dX0_lapse_13 rfl (lv_at hl 1 rfl) ?_
  refine va_get (D := D) (ci := 1) (v := .ref ac) (C := RX0) (T := TX0) (N := 8) hx hb hts i_RX0 hown hK hP 0 rfl rfl 4 (by decide) k_3 (fun _ h9 => h9) rfl dX0_lapse_14 ?_
  refine va_alen (D := D) (cl := vwCl) hx hb hK hP 1 0 rfl rfl (v := nI 3) rfl dX0_lapse_17 ?_
  refine lv_icmp_ge (tgt := 34) hx hb dX0_lapse_18 (by decide) (fun h9 => absurd h9 (by decide)) (fun _ => ?_)
  refine lv_aload_n hx hb dX0_lapse_21 rfl (lv_at hl 1 rfl) ?_
  refine va_get (D := D) (ci := 1) (v := .ref ac) (C := RX0) (T := TX0) (N := 8) hx hb hts i_RX0 hown hK hP 0 rfl rfl 4 (by decide) k_3 (fun _ h9 => h9) rfl dX0_lapse_22 ?_
  refine lv_iload_n hx hb dX0_lapse_25 rfl (lv_at hl 0 rfl) ?_
  refine lv_lconst (v := 0) hx hb dX0_lapse_26 (by decide) ?_
  refine zx_last (D := D) hx hb hK hP hD hS 1 0 rfl rfl (by decide) (by decide) dX0_lapse_27 (fun H locs hP hD hS => ?_)
  have hP : va_P D vwCl [(co, .inr (1, [.int pm, .int sm, .int rt, .int (nI fu), .ref ac, .long 0, .int (nI np), .int (nI 0)])), (ac, .inl (cJ, 3, .inr (.inl (vp_updL (vp_updL (vp_updL acc 0 0) 1 0) 2 0))))] H := hP
  have hD : va_D A [(co, .inr (1, [.int pm, .int sm, .int rt, .int (nI fu), .ref ac, .long 0, .int (nI np), .int (nI 0)])), (ac, .inl (cJ, 3, .inr (.inl (vp_updL (vp_updL (vp_updL acc 0 0) 1 0) 2 0))))] := hD
  refine lv_iinc (v := nI 3) (lv' := [(1, .int (nI 3)), (0, .ref co)]) hx hb dX0_lapse_28 hl (k := 0) rfl (by decide) (by decide) rfl (fun ls hl => ?_)
  refine lv_goto (tgt := 12) hx hb dX0_lapse_31 (by decide) ?_
  refine lv_iload_n hx hb dX0_lapse_12 rfl (lv_at hl 0 rfl) ?_
  refine lv_aload_n hx hb dX0_lapse_13 rfl (lv_at hl 1 rfl) ?_
  refine va_get (D := D) (ci := 1) (v := .ref ac) (C := RX0) (T := TX0) (N := 8) hx hb hts i_RX0 hown hK hP 0 rfl rfl 4 (by decide) k_3 (fun _ h9 => h9) rfl dX0_lapse_14 ?_
  refine va_alen (D := D) (cl := vwCl) hx hb hK hP 1 0 rfl rfl (v := nI 3) rfl dX0_lapse_17 ?_
  refine lv_icmp_ge (tgt := 34) hx hb dX0_lapse_18 (by decide) (fun _ => ?_) (fun h9 => absurd (by decide) h9)
  subst hAe
  exact zretv (D := D) (wf := [(co, .inr (1, [.int pm, .int sm, .int rt, .int (nI fu), .ref ac, .long 0, .int (nI np), .int (nI 0)])), (ac, .inl (cJ, 3, .inr (.inl (k_zero acc))))]) hx hb hr hlocks (hP.sub [0, 1] rfl) hK (hD.sub [0, 1] (by decide) rfl) hS dX0_lapse_34 (Nat.le_of_ble_eq_true rfl) (Nat.le_of_ble_eq_true rfl)

set_option maxHeartbeats 4000000 in
set_option maxRecDepth 100000 in
/-- takeCharge(prices) -/
theorem m_X0_takeCharge (l : Launch) (D : va_G) (co ac : Nat) (cJ : ClassId) (pm sm rt : Int32) (fu : Nat) (ini : Int64) (np : Nat) (al : Int32) (acc : Nat → Int64) (pr bd : Nat) (cI : ClassId) (t : Nat) (bf : Nat → Int32) (hfu : fu < 3) (ht : t ≤ 2000) (ho0 : ¬ (bf (t * 3 + 0)).toInt64 < 1) (ho1 : ¬ (bf (t * 3 + 1)).toInt64 < 1) (ho2 : ¬ (bf (t * 3 + 2)).toInt64 < 1) (sz : Nat)  : Met l yX0_takeCharge wsX0_takeCharge ({ frames := 4, cells := 0, slots := 0, locals := 87 }) (z2 D [(co, .inr (1, [.int pm, .int sm, .int rt, .int (nI fu), .ref ac, .long ini, .int (nI np), .int al])), (ac, .inl (cJ, 3, .inr (.inl acc))), (pr, .inr (3, [.ref bd, .int (nI t)])), (bd, .inl (cI, 6003, .inl bf))] [(cJ, .long), (cI, .int)] sz [.ref co, .ref pr]) (va_Ql (fun (r : Int64) (_ : Unit) => r = (k_c0 sm rt ini (bf (t * 3 + fu)) (bf (t * 3 + 0)) (bf (t * 3 + 1)) (bf (t * 3 + 2)) acc) - (k_c3 (k_c0 sm rt ini (bf (t * 3 + fu)) (bf (t * 3 + 0)) (bf (t * 3 + 1)) (bf (t * 3 + 2)) acc) (bf (t * 3 + 0)) (bf (t * 3 + 1)) (bf (t * 3 + 2)) acc)) (zB D [(cJ, .long), (cI, .int)] [(co, .inr (1, [.int pm, .int sm, .int rt, .int (nI fu), .ref ac, .long (if k_c3 (k_c0 sm rt ini (bf (t * 3 + fu)) (bf (t * 3 + 0)) (bf (t * 3 + 1)) (bf (t * 3 + 2)) acc) (bf (t * 3 + 0)) (bf (t * 3 + 1)) (bf (t * 3 + 2)) acc ≤ 0 then ini else 0), .int (nI np), .int (if k_c3 (k_c0 sm rt ini (bf (t * 3 + fu)) (bf (t * 3 + 0)) (bf (t * 3 + 1)) (bf (t * 3 + 2)) acc) (bf (t * 3 + 0)) (bf (t * 3 + 1)) (bf (t * 3 + 2)) acc ≤ 0 then al else nI 0)])), (ac, .inl (cJ, 3, .inr (.inl (if k_c3 (k_c0 sm rt ini (bf (t * 3 + fu)) (bf (t * 3 + 0)) (bf (t * 3 + 1)) (bf (t * 3 + 2)) acc) (bf (t * 3 + 0)) (bf (t * 3 + 1)) (bf (t * 3 + 2)) acc ≤ 0 then k_a3 (k_c0 sm rt ini (bf (t * 3 + fu)) (bf (t * 3 + 0)) (bf (t * 3 + 1)) (bf (t * 3 + 2)) acc) (bf (t * 3 + 0)) (bf (t * 3 + 1)) (bf (t * 3 + 2)) acc else k_zero (k_a3 (k_c0 sm rt ini (bf (t * 3 + fu)) (bf (t * 3 + 0)) (bf (t * 3 + 1)) (bf (t * 3 + 2)) acc) (bf (t * 3 + 0)) (bf (t * 3 + 1)) (bf (t * 3 + 2)) acc))))), (pr, .inr (3, [.ref bd, .int (nI t)])), (bd, .inl (cI, 6003, .inl bf))] (va_A [(co, .inr (1, [.int pm, .int sm, .int rt, .int (nI fu), .ref ac, .long ini, .int (nI np), .int al])), (ac, .inl (cJ, 3, .inr (.inl acc))), (pr, .inr (3, [.ref bd, .int (nI t)])), (bd, .inl (cI, 6003, .inl bf))] sz)) (va_A [(co, .inr (1, [.int pm, .int sm, .int rt, .int (nI fu), .ref ac, .long ini, .int (nI np), .int al])), (ac, .inl (cJ, 3, .inr (.inl acc))), (pr, .inr (3, [.ref bd, .int (nI t)])), (bd, .inl (cI, 6003, .inl bf))] sz)) 0 0 (va_A [(co, .inr (1, [.int pm, .int sm, .int rt, .int (nI fu), .ref ac, .long ini, .int (nI np), .int al])), (ac, .inl (cJ, 3, .inr (.inl acc))), (pr, .inr (3, [.ref bd, .int (nI t)])), (bd, .inl (cI, 6003, .inl bf))] sz) := by
  refine zm2 (cc := cX0_takeCharge) (maxL := 9) (ret := (some .long)) (by decide) rfl (Nat.le_of_ble_eq_true rfl) ?_
  intro p e s m below meth c ls A hAe hsz hin hx hb hml hr hlocks hown hts hP hK hG hD hA hS hl
  subst hsz
  have hl : lv_has ls 9 [(0, .ref co), (1, .ref pr)] := hl
  have k_0 := hts (.fieldLink RX0 23 "UnitContracts$Contract" "sum" "I") (List.mem_of_getElem? (i := 1) rfl)
  have i_RX0 : ∀ w ∈ u_ws RX0 TX0 8, w ∈ wsX0_takeCharge := by decide +kernel
  have k_2 := hts (.methodLink RX0 86 Lib.MathLoose.max_long.x) (List.mem_of_getElem? (i := 2) rfl)
  have k_3 := hts (.static Lib.MathLoose.max_long.x) (List.mem_of_getElem? (i := 3) rfl)
  have k_4 := hts (.initialized "java/lang/Math") (List.mem_of_getElem? (i := 4) rfl)
  have k_5 := hts (.code Lib.MathLoose.max_long.x Lib.MathLoose.max_long.code 4 (some .long)) (List.mem_of_getElem? (i := 5) rfl)
  have k_6 := hts (.constantLong RX0 89 (200)) (List.mem_of_getElem? (i := 6) rfl)
  have k_7 := hts (.fieldLink RX0 26 "UnitContracts$Contract" "rate" "I") (List.mem_of_getElem? (i := 7) rfl)
  have k_8 := hts (.constantLong RX0 91 (100000)) (List.mem_of_getElem? (i := 8) rfl)
  refine lv_lconst (v := 0) hx hb dX0_takeCharge_0 (by decide) ?_
  refine lv_aload_n hx hb dX0_takeCharge_1 rfl (lv_at hl 0 rfl) ?_
  refine va_get (D := D) (ci := 1) (v := .int sm) (C := RX0) (T := TX0) (N := 8) hx hb hts i_RX0 hown hK hP 0 rfl rfl 1 (by decide) k_0 (fun _ h9 => h9) rfl dX0_takeCharge_2 ?_
  refine lv_i2l (v := sm.toInt64) hx hb dX0_takeCharge_5 (rfl) ?_
  refine lv_aload_n hx hb dX0_takeCharge_6 rfl (lv_at hl 0 rfl) ?_
  refine lv_aload_n hx hb dX0_takeCharge_7 rfl (lv_at hl 1 rfl) ?_
  refine vp_callSl (W.runV (As := [.ref pr]) (rest := [.long sm.toInt64, .long 0]) ⟨hx, hb, hml, hown, hts⟩ (m_X0_worthAt l D co ac cJ pm sm rt fu ini np al acc pr bd cI t bf (by first | omega | assumption) (by first | omega | assumption)) (cwV 1 hts gX0_takeCharge_X0_worthAt rfl rfl rfl (by decide +kernel) ⟨Nat.le_of_ble_eq_true rfl, Nat.le_of_ble_eq_true rfl⟩) (z1_V (va_recv hK hP (ci := 1) (q0 := 0) rfl rfl) (hP.sub (ws' := [(co, .inr (1, [.int pm, .int sm, .int rt, .int (nI fu), .ref ac, .long ini, .int (nI np), .int al])), (ac, .inl (cJ, 3, .inr (.inl acc))), (pr, .inr (3, [.ref bd, .int (nI t)])), (bd, .inl (cI, 6003, .inl bf))]) [0, 1, 2, 3] rfl) (hK.sub (tys' := [(cJ, .long), (cI, .int)]) [0, 1] rfl) hG) rfl rfl hl.1 rfl (lv_room (Nat.le_of_ble_eq_true rfl)) dX0_takeCharge_8 ⟨Nat.le_of_ble_eq_true rfl, Nat.le_of_ble_eq_true rfl⟩) (fun r_1 e_r_1 => ?_)
  replace e_r_1 := e_r_1.symm; subst e_r_1
  refine zx_lsub (v := sm.toInt64 - (k_worth ini (bf (t * 3 + fu)) (bf (t * 3 + 0)) (bf (t * 3 + 1)) (bf (t * 3 + 2)) (acc 0) (acc 1) (acc 2))) hx hb dX0_takeCharge_11 (rfl) ?_
  refine va_mmax_long hx hb (hml.trans hl.1.symm) hown k_2 k_3 k_4 k_5 (Nat.le_of_ble_eq_true rfl) (Nat.le_of_ble_eq_true rfl) (Nat.le_of_ble_eq_true rfl) (Nat.le_of_ble_eq_true rfl) dX0_takeCharge_12 ?_
  refine lv_lstore_n (lv' := [(2, .long (if (sm.toInt64 - (k_worth ini (bf (t * 3 + fu)) (bf (t * 3 + 0)) (bf (t * 3 + 1)) (bf (t * 3 + 2)) (acc 0) (acc 1) (acc 2))) < 0 then 0 else sm.toInt64 - (k_worth ini (bf (t * 3 + fu)) (bf (t * 3 + 0)) (bf (t * 3 + 1)) (bf (t * 3 + 2)) (acc 0) (acc 1) (acc 2)))), (0, .ref co), (1, .ref pr)]) hx hb dX0_takeCharge_15 rfl hl (by decide) rfl (fun ls hl => ?_)
  refine lv_ldc2 (v := 200) hx hb hown k_6 dX0_takeCharge_16 ?_
  refine lv_lload_n hx hb dX0_takeCharge_19 rfl (lv_at hl 0 rfl) ?_
  refine lv_aload_n hx hb dX0_takeCharge_20 rfl (lv_at hl 1 rfl) ?_
  refine va_get (D := D) (ci := 1) (v := .int rt) (C := RX0) (T := TX0) (N := 8) hx hb hts i_RX0 hown hK hP 0 rfl rfl 2 (by decide) k_7 (fun _ h9 => h9) rfl dX0_takeCharge_21 ?_
  refine lv_i2l (v := rt.toInt64) hx hb dX0_takeCharge_24 (rfl) ?_
  refine zx_lmul (v := (if (sm.toInt64 - (k_worth ini (bf (t * 3 + fu)) (bf (t * 3 + 0)) (bf (t * 3 + 1)) (bf (t * 3 + 2)) (acc 0) (acc 1) (acc 2))) < 0 then 0 else sm.toInt64 - (k_worth ini (bf (t * 3 + fu)) (bf (t * 3 + 0)) (bf (t * 3 + 1)) (bf (t * 3 + 2)) (acc 0) (acc 1) (acc 2))) * rt.toInt64) hx hb dX0_takeCharge_25 (rfl) ?_
  refine lv_ldc2 (v := 100000) hx hb hown k_8 dX0_takeCharge_26 ?_
  refine zx_ldiv (v := ((if (sm.toInt64 - (k_worth ini (bf (t * 3 + fu)) (bf (t * 3 + 0)) (bf (t * 3 + 1)) (bf (t * 3 + 2)) (acc 0) (acc 1) (acc 2))) < 0 then 0 else sm.toInt64 - (k_worth ini (bf (t * 3 + fu)) (bf (t * 3 + 0)) (bf (t * 3 + 1)) (bf (t * 3 + 2)) (acc 0) (acc 1) (acc 2))) * rt.toInt64) / 100000) hx hb dX0_takeCharge_29 (by decide) (rfl) ?_
  refine zx_ladd (v := 200 + (((if (sm.toInt64 - (k_worth ini (bf (t * 3 + fu)) (bf (t * 3 + 0)) (bf (t * 3 + 1)) (bf (t * 3 + 2)) (acc 0) (acc 1) (acc 2))) < 0 then 0 else sm.toInt64 - (k_worth ini (bf (t * 3 + fu)) (bf (t * 3 + 0)) (bf (t * 3 + 1)) (bf (t * 3 + 2)) (acc 0) (acc 1) (acc 2))) * rt.toInt64) / 100000)) hx hb dX0_takeCharge_30 (rfl) ?_
  refine lv_topl (fun v_2 e_v_2 => ?_)
  refine lv_lstore (lv' := [(4, .long v_2), (2, .long (if (sm.toInt64 - (k_worth ini (bf (t * 3 + fu)) (bf (t * 3 + 0)) (bf (t * 3 + 1)) (bf (t * 3 + 2)) (acc 0) (acc 1) (acc 2))) < 0 then 0 else sm.toInt64 - (k_worth ini (bf (t * 3 + fu)) (bf (t * 3 + 0)) (bf (t * 3 + 1)) (bf (t * 3 + 2)) (acc 0) (acc 1) (acc 2)))), (0, .ref co), (1, .ref pr)]) hx hb dX0_takeCharge_31 hl (by decide) rfl (fun ls hl => ?_)
  refine lv_lload hx hb dX0_takeCharge_33 (lv_at hl 0 rfl) ?_
  refine lv_lstore (lv' := [(6, .long v_2), (4, .long v_2), (2, .long (if (sm.toInt64 - (k_worth ini (bf (t * 3 + fu)) (bf (t * 3 + 0)) (bf (t * 3 + 1)) (bf (t * 3 + 2)) (acc 0) (acc 1) (acc 2))) < 0 then 0 else sm.toInt64 - (k_worth ini (bf (t * 3 + fu)) (bf (t * 3 + 0)) (bf (t * 3 + 1)) (bf (t * 3 + 2)) (acc 0) (acc 1) (acc 2)))), (0, .ref co), (1, .ref pr)]) hx hb dX0_takeCharge_35 hl (by decide) rfl (fun ls hl => ?_)
  refine lv_iconst (v := nI 0) hx hb dX0_takeCharge_37 (by decide) ?_
  refine lv_istore (lv' := [(8, .int (nI 0)), (6, .long v_2), (4, .long v_2), (2, .long (if (sm.toInt64 - (k_worth ini (bf (t * 3 + fu)) (bf (t * 3 + 0)) (bf (t * 3 + 1)) (bf (t * 3 + 2)) (acc 0) (acc 1) (acc 2))) < 0 then 0 else sm.toInt64 - (k_worth ini (bf (t * 3 + fu)) (bf (t * 3 + 0)) (bf (t * 3 + 1)) (bf (t * 3 + 2)) (acc 0) (acc 1) (acc 2)))), (0, .ref co), (1, .ref pr)]) hx hb dX0_takeCharge_38 hl (by decide) rfl (fun ls hl => ?_)
  refine lv_iload hx hb dX0_takeCharge_40 (lv_at hl 0 rfl) ?_
  refine lv_iconst (v := nI 3) hx hb dX0_takeCharge_42 (by decide) ?_
  refine lv_icmp_ge (tgt := 72) hx hb dX0_takeCharge_43 (by decide) (fun h9 => absurd h9 (by decide)) (fun _ => ?_)
  refine lv_lload hx hb dX0_takeCharge_46 (lv_at hl 1 rfl) ?_
  refine lv_aload_n hx hb dX0_takeCharge_48 rfl (lv_at hl 4 rfl) ?_
  refine lv_lload hx hb dX0_takeCharge_49 (lv_at hl 1 rfl) ?_
  refine lv_iload hx hb dX0_takeCharge_51 (lv_at hl 0 rfl) ?_
  refine lv_aload_n hx hb dX0_takeCharge_53 rfl (lv_at hl 5 rfl) ?_
  refine lv_iload hx hb dX0_takeCharge_54 (lv_at hl 0 rfl) ?_
  refine vp_callSi (W.runV (As := [.int (nI 0)]) (rest := [.int (nI 0), .long v_2, .ref co, .long v_2]) ⟨hx, hb, hml, hown, hts⟩ (m_X3_bidNow l D pr bd cI t bf 0 (by first | omega | assumption) (by first | omega | assumption)) (cwV 1 hts gX0_takeCharge_X3_bidNow rfl rfl rfl (by decide +kernel) ⟨Nat.le_of_ble_eq_true rfl, Nat.le_of_ble_eq_true rfl⟩) (z1_V (va_recv hK hP (ci := 3) (q0 := 2) rfl rfl) (hP.sub (ws' := [(pr, .inr (3, [.ref bd, .int (nI t)])), (bd, .inl (cI, 6003, .inl bf))]) [2, 3] rfl) (hK.sub (tys' := [(cI, .int)]) [1] rfl) hG) rfl rfl hl.1 rfl (lv_room (Nat.le_of_ble_eq_true rfl)) dX0_takeCharge_56 ⟨Nat.le_of_ble_eq_true rfl, Nat.le_of_ble_eq_true rfl⟩) (fun r_3 e_r_3 => ?_)
  replace e_r_3 := e_r_3.symm; subst e_r_3
  refine lv_i2l (v := (bf (t * 3 + 0)).toInt64) hx hb dX0_takeCharge_59 (rfl) ?_
  refine zcalll (wr := [(pr, .inr (3, [.ref bd, .int (nI t)])), (bd, .inl (cI, 6003, .inl bf))]) (va_runV (As := [.long v_2, .int (nI 0), .long ((bf (t * 3 + 0)).toInt64)]) (rest := [.long v_2]) ⟨hx, hb, hml, hown, hts⟩ (m_X0_sellFor l D co ac cJ pm sm rt fu ini np al acc v_2 0 ((bf (t * 3 + 0)).toInt64) (by first | omega | assumption) (by first | omega | assumption) _) (cwV 3 hts gX0_takeCharge_X0_sellFor rfl rfl rfl (by decide +kernel) ⟨Nat.le_of_ble_eq_true rfl, Nat.le_of_ble_eq_true rfl⟩) (z2_V (va_recv hK hP (ci := 1) (q0 := 0) rfl rfl) (hP.sub (ws' := [(co, .inr (1, [.int pm, .int sm, .int rt, .int (nI fu), .ref ac, .long ini, .int (nI np), .int al])), (ac, .inl (cJ, 3, .inr (.inl acc)))]) [0, 1] rfl) (hK.sub (tys' := [(cJ, .long)]) [0] rfl) (hD.sub (ws' := [(co, .inr (1, [.int pm, .int sm, .int rt, .int (nI fu), .ref ac, .long ini, .int (nI np), .int al])), (ac, .inl (cJ, 3, .inr (.inl acc)))]) [0, 1] (by decide) rfl) hG) rfl rfl hl.1 rfl (lv_room (Nat.le_of_ble_eq_true rfl)) dX0_takeCharge_60 ⟨Nat.le_of_ble_eq_true rfl, Nat.le_of_ble_eq_true rfl⟩) hP hD hS hA [0, 1] [2, 3] rfl rfl (by decide) (by decide) (fun H locs hP hD hS => ?_)
  have hP : va_P D vwCl [(pr, .inr (3, [.ref bd, .int (nI t)])), (bd, .inl (cI, 6003, .inl bf)), (co, .inr (1, [.int pm, .int sm, .int rt, .int (nI fu), .ref ac, .long ini, .int (nI np), .int al])), (ac, .inl (cJ, 3, .inr (.inl (k_sell acc 0 v_2 ((bf (t * 3 + 0)).toInt64)))))] H := hP
  have hD : va_D A [(pr, .inr (3, [.ref bd, .int (nI t)])), (bd, .inl (cI, 6003, .inl bf)), (co, .inr (1, [.int pm, .int sm, .int rt, .int (nI fu), .ref ac, .long ini, .int (nI np), .int al])), (ac, .inl (cJ, 3, .inr (.inl (k_sell acc 0 v_2 ((bf (t * 3 + 0)).toInt64)))))] := hD
  refine zx_lsub (v := v_2 - (k_got v_2 ((bf (t * 3 + 0)).toInt64) (acc 0))) hx hb dX0_takeCharge_63 (rfl) ?_
  refine lv_topl (fun v_4 e_v_4 => ?_)
  refine lv_lstore (lv' := [(6, .long v_4), (8, .int (nI 0)), (4, .long v_2), (2, .long (if (sm.toInt64 - (k_worth ini (bf (t * 3 + fu)) (bf (t * 3 + 0)) (bf (t * 3 + 1)) (bf (t * 3 + 2)) (acc 0) (acc 1) (acc 2))) < 0 then 0 else sm.toInt64 - (k_worth ini (bf (t * 3 + fu)) (bf (t * 3 + 0)) (bf (t * 3 + 1)) (bf (t * 3 + 2)) (acc 0) (acc 1) (acc 2)))), (0, .ref co), (1, .ref pr)]) hx hb dX0_takeCharge_64 hl (by decide) rfl (fun ls hl => ?_)
  refine lv_iinc (v := nI 1) (lv' := [(8, .int (nI 1)), (6, .long v_4), (4, .long v_2), (2, .long (if (sm.toInt64 - (k_worth ini (bf (t * 3 + fu)) (bf (t * 3 + 0)) (bf (t * 3 + 1)) (bf (t * 3 + 2)) (acc 0) (acc 1) (acc 2))) < 0 then 0 else sm.toInt64 - (k_worth ini (bf (t * 3 + fu)) (bf (t * 3 + 0)) (bf (t * 3 + 1)) (bf (t * 3 + 2)) (acc 0) (acc 1) (acc 2)))), (0, .ref co), (1, .ref pr)]) hx hb dX0_takeCharge_66 hl (k := 1) rfl (by decide) (by decide) rfl (fun ls hl => ?_)
  refine lv_goto (tgt := 40) hx hb dX0_takeCharge_69 (by decide) ?_
  refine lv_iload hx hb dX0_takeCharge_40 (lv_at hl 0 rfl) ?_
  refine lv_iconst (v := nI 3) hx hb dX0_takeCharge_42 (by decide) ?_
  refine lv_icmp_ge (tgt := 72) hx hb dX0_takeCharge_43 (by decide) (fun h9 => absurd h9 (by decide)) (fun _ => ?_)
  refine lv_lload hx hb dX0_takeCharge_46 (lv_at hl 1 rfl) ?_
  refine lv_aload_n hx hb dX0_takeCharge_48 rfl (lv_at hl 4 rfl) ?_
  refine lv_lload hx hb dX0_takeCharge_49 (lv_at hl 1 rfl) ?_
  refine lv_iload hx hb dX0_takeCharge_51 (lv_at hl 0 rfl) ?_
  refine lv_aload_n hx hb dX0_takeCharge_53 rfl (lv_at hl 5 rfl) ?_
  refine lv_iload hx hb dX0_takeCharge_54 (lv_at hl 0 rfl) ?_
  refine vp_callSi (W.runV (As := [.int (nI 1)]) (rest := [.int (nI 1), .long v_4, .ref co, .long v_4]) ⟨hx, hb, hml, hown, hts⟩ (m_X3_bidNow l D pr bd cI t bf 1 (by first | omega | assumption) (by first | omega | assumption)) (cwV 1 hts gX0_takeCharge_X3_bidNow rfl rfl rfl (by decide +kernel) ⟨Nat.le_of_ble_eq_true rfl, Nat.le_of_ble_eq_true rfl⟩) (z1_V (va_recv hK hP (ci := 3) (q0 := 0) rfl rfl) (hP.sub (ws' := [(pr, .inr (3, [.ref bd, .int (nI t)])), (bd, .inl (cI, 6003, .inl bf))]) [0, 1] rfl) (hK.sub (tys' := [(cI, .int)]) [1] rfl) hG) rfl rfl hl.1 rfl (lv_room (Nat.le_of_ble_eq_true rfl)) dX0_takeCharge_56 ⟨Nat.le_of_ble_eq_true rfl, Nat.le_of_ble_eq_true rfl⟩) (fun r_5 e_r_5 => ?_)
  replace e_r_5 := e_r_5.symm; subst e_r_5
  refine lv_i2l (v := (bf (t * 3 + 1)).toInt64) hx hb dX0_takeCharge_59 (rfl) ?_
  refine zcalll (wr := [(pr, .inr (3, [.ref bd, .int (nI t)])), (bd, .inl (cI, 6003, .inl bf))]) (va_runV (As := [.long v_4, .int (nI 1), .long ((bf (t * 3 + 1)).toInt64)]) (rest := [.long v_4]) ⟨hx, hb, hml, hown, hts⟩ (m_X0_sellFor l D co ac cJ pm sm rt fu ini np al (k_sell acc 0 v_2 ((bf (t * 3 + 0)).toInt64)) v_4 1 ((bf (t * 3 + 1)).toInt64) (by first | omega | assumption) (by first | omega | assumption) _) (cwV 3 hts gX0_takeCharge_X0_sellFor rfl rfl rfl (by decide +kernel) ⟨Nat.le_of_ble_eq_true rfl, Nat.le_of_ble_eq_true rfl⟩) (z2_V (va_recv hK hP (ci := 1) (q0 := 2) rfl rfl) (hP.sub (ws' := [(co, .inr (1, [.int pm, .int sm, .int rt, .int (nI fu), .ref ac, .long ini, .int (nI np), .int al])), (ac, .inl (cJ, 3, .inr (.inl (k_sell acc 0 v_2 ((bf (t * 3 + 0)).toInt64)))))]) [2, 3] rfl) (hK.sub (tys' := [(cJ, .long)]) [0] rfl) (hD.sub (ws' := [(co, .inr (1, [.int pm, .int sm, .int rt, .int (nI fu), .ref ac, .long ini, .int (nI np), .int al])), (ac, .inl (cJ, 3, .inr (.inl (k_sell acc 0 v_2 ((bf (t * 3 + 0)).toInt64)))))]) [2, 3] (by decide) rfl) hG) rfl rfl hl.1 rfl (lv_room (Nat.le_of_ble_eq_true rfl)) dX0_takeCharge_60 ⟨Nat.le_of_ble_eq_true rfl, Nat.le_of_ble_eq_true rfl⟩) hP hD hS hA [2, 3] [0, 1] rfl rfl (by decide) (by decide) (fun H locs hP hD hS => ?_)
  have hP : va_P D vwCl [(pr, .inr (3, [.ref bd, .int (nI t)])), (bd, .inl (cI, 6003, .inl bf)), (co, .inr (1, [.int pm, .int sm, .int rt, .int (nI fu), .ref ac, .long ini, .int (nI np), .int al])), (ac, .inl (cJ, 3, .inr (.inl (k_sell (k_sell acc 0 v_2 ((bf (t * 3 + 0)).toInt64)) 1 v_4 ((bf (t * 3 + 1)).toInt64)))))] H := hP
  have hD : va_D A [(pr, .inr (3, [.ref bd, .int (nI t)])), (bd, .inl (cI, 6003, .inl bf)), (co, .inr (1, [.int pm, .int sm, .int rt, .int (nI fu), .ref ac, .long ini, .int (nI np), .int al])), (ac, .inl (cJ, 3, .inr (.inl (k_sell (k_sell acc 0 v_2 ((bf (t * 3 + 0)).toInt64)) 1 v_4 ((bf (t * 3 + 1)).toInt64)))))] := hD
  refine zx_lsub (v := v_4 - (k_got v_4 ((bf (t * 3 + 1)).toInt64) ((k_sell acc 0 v_2 ((bf (t * 3 + 0)).toInt64)) 1))) hx hb dX0_takeCharge_63 (rfl) ?_
  refine lv_topl (fun v_6 e_v_6 => ?_)
  refine lv_lstore (lv' := [(6, .long v_6), (8, .int (nI 1)), (4, .long v_2), (2, .long (if (sm.toInt64 - (k_worth ini (bf (t * 3 + fu)) (bf (t * 3 + 0)) (bf (t * 3 + 1)) (bf (t * 3 + 2)) (acc 0) (acc 1) (acc 2))) < 0 then 0 else sm.toInt64 - (k_worth ini (bf (t * 3 + fu)) (bf (t * 3 + 0)) (bf (t * 3 + 1)) (bf (t * 3 + 2)) (acc 0) (acc 1) (acc 2)))), (0, .ref co), (1, .ref pr)]) hx hb dX0_takeCharge_64 hl (by decide) rfl (fun ls hl => ?_)
  refine lv_iinc (v := nI 2) (lv' := [(8, .int (nI 2)), (6, .long v_6), (4, .long v_2), (2, .long (if (sm.toInt64 - (k_worth ini (bf (t * 3 + fu)) (bf (t * 3 + 0)) (bf (t * 3 + 1)) (bf (t * 3 + 2)) (acc 0) (acc 1) (acc 2))) < 0 then 0 else sm.toInt64 - (k_worth ini (bf (t * 3 + fu)) (bf (t * 3 + 0)) (bf (t * 3 + 1)) (bf (t * 3 + 2)) (acc 0) (acc 1) (acc 2)))), (0, .ref co), (1, .ref pr)]) hx hb dX0_takeCharge_66 hl (k := 1) rfl (by decide) (by decide) rfl (fun ls hl => ?_)
  refine lv_goto (tgt := 40) hx hb dX0_takeCharge_69 (by decide) ?_
  refine lv_iload hx hb dX0_takeCharge_40 (lv_at hl 0 rfl) ?_
  refine lv_iconst (v := nI 3) hx hb dX0_takeCharge_42 (by decide) ?_
  refine lv_icmp_ge (tgt := 72) hx hb dX0_takeCharge_43 (by decide) (fun h9 => absurd h9 (by decide)) (fun _ => ?_)
  refine lv_lload hx hb dX0_takeCharge_46 (lv_at hl 1 rfl) ?_
  refine lv_aload_n hx hb dX0_takeCharge_48 rfl (lv_at hl 4 rfl) ?_
  refine lv_lload hx hb dX0_takeCharge_49 (lv_at hl 1 rfl) ?_
  refine lv_iload hx hb dX0_takeCharge_51 (lv_at hl 0 rfl) ?_
  refine lv_aload_n hx hb dX0_takeCharge_53 rfl (lv_at hl 5 rfl) ?_
  refine lv_iload hx hb dX0_takeCharge_54 (lv_at hl 0 rfl) ?_
  refine vp_callSi (W.runV (As := [.int (nI 2)]) (rest := [.int (nI 2), .long v_6, .ref co, .long v_6]) ⟨hx, hb, hml, hown, hts⟩ (m_X3_bidNow l D pr bd cI t bf 2 (by first | omega | assumption) (by first | omega | assumption)) (cwV 1 hts gX0_takeCharge_X3_bidNow rfl rfl rfl (by decide +kernel) ⟨Nat.le_of_ble_eq_true rfl, Nat.le_of_ble_eq_true rfl⟩) (z1_V (va_recv hK hP (ci := 3) (q0 := 0) rfl rfl) (hP.sub (ws' := [(pr, .inr (3, [.ref bd, .int (nI t)])), (bd, .inl (cI, 6003, .inl bf))]) [0, 1] rfl) (hK.sub (tys' := [(cI, .int)]) [1] rfl) hG) rfl rfl hl.1 rfl (lv_room (Nat.le_of_ble_eq_true rfl)) dX0_takeCharge_56 ⟨Nat.le_of_ble_eq_true rfl, Nat.le_of_ble_eq_true rfl⟩) (fun r_7 e_r_7 => ?_)
  replace e_r_7 := e_r_7.symm; subst e_r_7
  refine lv_i2l (v := (bf (t * 3 + 2)).toInt64) hx hb dX0_takeCharge_59 (rfl) ?_
  refine zcalll (wr := [(pr, .inr (3, [.ref bd, .int (nI t)])), (bd, .inl (cI, 6003, .inl bf))]) (va_runV (As := [.long v_6, .int (nI 2), .long ((bf (t * 3 + 2)).toInt64)]) (rest := [.long v_6]) ⟨hx, hb, hml, hown, hts⟩ (m_X0_sellFor l D co ac cJ pm sm rt fu ini np al (k_sell (k_sell acc 0 v_2 ((bf (t * 3 + 0)).toInt64)) 1 v_4 ((bf (t * 3 + 1)).toInt64)) v_6 2 ((bf (t * 3 + 2)).toInt64) (by first | omega | assumption) (by first | omega | assumption) _) (cwV 3 hts gX0_takeCharge_X0_sellFor rfl rfl rfl (by decide +kernel) ⟨Nat.le_of_ble_eq_true rfl, Nat.le_of_ble_eq_true rfl⟩) (z2_V (va_recv hK hP (ci := 1) (q0 := 2) rfl rfl) (hP.sub (ws' := [(co, .inr (1, [.int pm, .int sm, .int rt, .int (nI fu), .ref ac, .long ini, .int (nI np), .int al])), (ac, .inl (cJ, 3, .inr (.inl (k_sell (k_sell acc 0 v_2 ((bf (t * 3 + 0)).toInt64)) 1 v_4 ((bf (t * 3 + 1)).toInt64)))))]) [2, 3] rfl) (hK.sub (tys' := [(cJ, .long)]) [0] rfl) (hD.sub (ws' := [(co, .inr (1, [.int pm, .int sm, .int rt, .int (nI fu), .ref ac, .long ini, .int (nI np), .int al])), (ac, .inl (cJ, 3, .inr (.inl (k_sell (k_sell acc 0 v_2 ((bf (t * 3 + 0)).toInt64)) 1 v_4 ((bf (t * 3 + 1)).toInt64)))))]) [2, 3] (by decide) rfl) hG) rfl rfl hl.1 rfl (lv_room (Nat.le_of_ble_eq_true rfl)) dX0_takeCharge_60 ⟨Nat.le_of_ble_eq_true rfl, Nat.le_of_ble_eq_true rfl⟩) hP hD hS hA [2, 3] [0, 1] rfl rfl (by decide) (by decide) (fun H locs hP hD hS => ?_)
  have hP : va_P D vwCl [(pr, .inr (3, [.ref bd, .int (nI t)])), (bd, .inl (cI, 6003, .inl bf)), (co, .inr (1, [.int pm, .int sm, .int rt, .int (nI fu), .ref ac, .long ini, .int (nI np), .int al])), (ac, .inl (cJ, 3, .inr (.inl (k_sell (k_sell (k_sell acc 0 v_2 ((bf (t * 3 + 0)).toInt64)) 1 v_4 ((bf (t * 3 + 1)).toInt64)) 2 v_6 ((bf (t * 3 + 2)).toInt64)))))] H := hP
  have hD : va_D A [(pr, .inr (3, [.ref bd, .int (nI t)])), (bd, .inl (cI, 6003, .inl bf)), (co, .inr (1, [.int pm, .int sm, .int rt, .int (nI fu), .ref ac, .long ini, .int (nI np), .int al])), (ac, .inl (cJ, 3, .inr (.inl (k_sell (k_sell (k_sell acc 0 v_2 ((bf (t * 3 + 0)).toInt64)) 1 v_4 ((bf (t * 3 + 1)).toInt64)) 2 v_6 ((bf (t * 3 + 2)).toInt64)))))] := hD
  refine zx_lsub (v := v_6 - (k_got v_6 ((bf (t * 3 + 2)).toInt64) ((k_sell (k_sell acc 0 v_2 ((bf (t * 3 + 0)).toInt64)) 1 v_4 ((bf (t * 3 + 1)).toInt64)) 2))) hx hb dX0_takeCharge_63 (rfl) ?_
  refine lv_topl (fun v_8 e_v_8 => ?_)
  refine lv_lstore (lv' := [(6, .long v_8), (8, .int (nI 2)), (4, .long v_2), (2, .long (if (sm.toInt64 - (k_worth ini (bf (t * 3 + fu)) (bf (t * 3 + 0)) (bf (t * 3 + 1)) (bf (t * 3 + 2)) (acc 0) (acc 1) (acc 2))) < 0 then 0 else sm.toInt64 - (k_worth ini (bf (t * 3 + fu)) (bf (t * 3 + 0)) (bf (t * 3 + 1)) (bf (t * 3 + 2)) (acc 0) (acc 1) (acc 2)))), (0, .ref co), (1, .ref pr)]) hx hb dX0_takeCharge_64 hl (by decide) rfl (fun ls hl => ?_)
  refine lv_iinc (v := nI 3) (lv' := [(8, .int (nI 3)), (6, .long v_8), (4, .long v_2), (2, .long (if (sm.toInt64 - (k_worth ini (bf (t * 3 + fu)) (bf (t * 3 + 0)) (bf (t * 3 + 1)) (bf (t * 3 + 2)) (acc 0) (acc 1) (acc 2))) < 0 then 0 else sm.toInt64 - (k_worth ini (bf (t * 3 + fu)) (bf (t * 3 + 0)) (bf (t * 3 + 1)) (bf (t * 3 + 2)) (acc 0) (acc 1) (acc 2)))), (0, .ref co), (1, .ref pr)]) hx hb dX0_takeCharge_66 hl (k := 1) rfl (by decide) (by decide) rfl (fun ls hl => ?_)
  refine lv_goto (tgt := 40) hx hb dX0_takeCharge_69 (by decide) ?_
  refine lv_iload hx hb dX0_takeCharge_40 (lv_at hl 0 rfl) ?_
  refine lv_iconst (v := nI 3) hx hb dX0_takeCharge_42 (by decide) ?_
  refine lv_icmp_ge (tgt := 72) hx hb dX0_takeCharge_43 (by decide) (fun _ => ?_) (fun h9 => absurd (by decide) h9)
  have e2 : v_2 = k_c0 sm rt ini (bf (t * 3 + fu)) (bf (t * 3 + 0)) (bf (t * 3 + 1)) (bf (t * 3 + 2)) acc := e_v_2
  have e4 : v_4 = k_c1 v_2 (bf (t * 3 + 0)) acc := e_v_4
  have e6 : v_6 = k_c2 v_2 (bf (t * 3 + 0)) (bf (t * 3 + 1)) acc := by rw [e_v_6, e4]; rfl
  have e8 : v_8 = k_c3 v_2 (bf (t * 3 + 0)) (bf (t * 3 + 1)) (bf (t * 3 + 2)) acc := by rw [e_v_8, e6, e4]; rfl
  have ea : k_sell (k_sell (k_sell acc 0 v_2 (bf (t * 3 + 0)).toInt64) 1 v_4 (bf (t * 3 + 1)).toInt64) 2 v_6 (bf (t * 3 + 2)).toInt64 = k_a3 v_2 (bf (t * 3 + 0)) (bf (t * 3 + 1)) (bf (t * 3 + 2)) acc := by rw [e6, e4]; rfl
  refine lv_lload hx hb dX0_takeCharge_72 (lv_at hl 1 rfl) ?_
  refine lv_lconst (v := 0) hx hb dX0_takeCharge_74 (by decide) ?_
  refine zx_lcmp_le (tgt := 83) hx hb dX0_takeCharge_75 dX0_takeCharge_76 (by decide) (fun c_75 => ?_) (fun c_75 => ?_)
  · skip
    refine lv_lload hx hb dX0_takeCharge_83 (lv_at hl 2 rfl) ?_
    refine lv_lload hx hb dX0_takeCharge_85 (lv_at hl 1 rfl) ?_
    refine zx_lsub (v := v_2 - v_8) hx hb dX0_takeCharge_87 (rfl) ?_
    have hw9 : ([(co, .inr (1, [.int pm, .int sm, .int rt, .int (nI fu), .ref ac, .long ini, .int (nI np), .int al])), (ac, .inl (cJ, 3, .inr (.inl (k_sell (k_sell (k_sell acc 0 v_2 ((bf (t * 3 + 0)).toInt64)) 1 v_4 ((bf (t * 3 + 1)).toInt64)) 2 v_6 ((bf (t * 3 + 2)).toInt64))))), (pr, .inr (3, [.ref bd, .int (nI t)])), (bd, .inl (cI, 6003, .inl bf))] : va_W) = [(co, .inr (1, [.int pm, .int sm, .int rt, .int (nI fu), .ref ac, .long (if k_c3 (k_c0 sm rt ini (bf (t * 3 + fu)) (bf (t * 3 + 0)) (bf (t * 3 + 1)) (bf (t * 3 + 2)) acc) (bf (t * 3 + 0)) (bf (t * 3 + 1)) (bf (t * 3 + 2)) acc ≤ 0 then ini else 0), .int (nI np), .int (if k_c3 (k_c0 sm rt ini (bf (t * 3 + fu)) (bf (t * 3 + 0)) (bf (t * 3 + 1)) (bf (t * 3 + 2)) acc) (bf (t * 3 + 0)) (bf (t * 3 + 1)) (bf (t * 3 + 2)) acc ≤ 0 then al else nI 0)])), (ac, .inl (cJ, 3, .inr (.inl (if k_c3 (k_c0 sm rt ini (bf (t * 3 + fu)) (bf (t * 3 + 0)) (bf (t * 3 + 1)) (bf (t * 3 + 2)) acc) (bf (t * 3 + 0)) (bf (t * 3 + 1)) (bf (t * 3 + 2)) acc ≤ 0 then k_a3 (k_c0 sm rt ini (bf (t * 3 + fu)) (bf (t * 3 + 0)) (bf (t * 3 + 1)) (bf (t * 3 + 2)) acc) (bf (t * 3 + 0)) (bf (t * 3 + 1)) (bf (t * 3 + 2)) acc else k_zero (k_a3 (k_c0 sm rt ini (bf (t * 3 + fu)) (bf (t * 3 + 0)) (bf (t * 3 + 1)) (bf (t * 3 + 2)) acc) (bf (t * 3 + 0)) (bf (t * 3 + 1)) (bf (t * 3 + 2)) acc))))), (pr, .inr (3, [.ref bd, .int (nI t)])), (bd, .inl (cI, 6003, .inl bf))] := (by rw [ea, ← e2, ← e8]; first | (simp only [if_pos c_75] <;> rfl) | (simp only [if_neg c_75] <;> rfl))
    have hP := hP.sub (ws' := [(co, .inr (1, [.int pm, .int sm, .int rt, .int (nI fu), .ref ac, .long ini, .int (nI np), .int al])), (ac, .inl (cJ, 3, .inr (.inl (k_sell (k_sell (k_sell acc 0 v_2 ((bf (t * 3 + 0)).toInt64)) 1 v_4 ((bf (t * 3 + 1)).toInt64)) 2 v_6 ((bf (t * 3 + 2)).toInt64))))), (pr, .inr (3, [.ref bd, .int (nI t)])), (bd, .inl (cI, 6003, .inl bf))]) [2, 3, 0, 1] rfl
    have hD := hD.sub (ws' := [(co, .inr (1, [.int pm, .int sm, .int rt, .int (nI fu), .ref ac, .long ini, .int (nI np), .int al])), (ac, .inl (cJ, 3, .inr (.inl (k_sell (k_sell (k_sell acc 0 v_2 ((bf (t * 3 + 0)).toInt64)) 1 v_4 ((bf (t * 3 + 1)).toInt64)) 2 v_6 ((bf (t * 3 + 2)).toInt64))))), (pr, .inr (3, [.ref bd, .int (nI t)])), (bd, .inl (cI, 6003, .inl bf))]) [2, 3, 0, 1] (by decide) rfl
    rw [hw9] at hP hD
    subst hAe
    exact zretl (D := D) (wf := [(co, .inr (1, [.int pm, .int sm, .int rt, .int (nI fu), .ref ac, .long (if k_c3 (k_c0 sm rt ini (bf (t * 3 + fu)) (bf (t * 3 + 0)) (bf (t * 3 + 1)) (bf (t * 3 + 2)) acc) (bf (t * 3 + 0)) (bf (t * 3 + 1)) (bf (t * 3 + 2)) acc ≤ 0 then ini else 0), .int (nI np), .int (if k_c3 (k_c0 sm rt ini (bf (t * 3 + fu)) (bf (t * 3 + 0)) (bf (t * 3 + 1)) (bf (t * 3 + 2)) acc) (bf (t * 3 + 0)) (bf (t * 3 + 1)) (bf (t * 3 + 2)) acc ≤ 0 then al else nI 0)])), (ac, .inl (cJ, 3, .inr (.inl (if k_c3 (k_c0 sm rt ini (bf (t * 3 + fu)) (bf (t * 3 + 0)) (bf (t * 3 + 1)) (bf (t * 3 + 2)) acc) (bf (t * 3 + 0)) (bf (t * 3 + 1)) (bf (t * 3 + 2)) acc ≤ 0 then k_a3 (k_c0 sm rt ini (bf (t * 3 + fu)) (bf (t * 3 + 0)) (bf (t * 3 + 1)) (bf (t * 3 + 2)) acc) (bf (t * 3 + 0)) (bf (t * 3 + 1)) (bf (t * 3 + 2)) acc else k_zero (k_a3 (k_c0 sm rt ini (bf (t * 3 + fu)) (bf (t * 3 + 0)) (bf (t * 3 + 1)) (bf (t * 3 + 2)) acc) (bf (t * 3 + 0)) (bf (t * 3 + 1)) (bf (t * 3 + 2)) acc))))), (pr, .inr (3, [.ref bd, .int (nI t)])), (bd, .inl (cI, 6003, .inl bf))]) hx hb hr hlocks hP hK hD hS dX0_takeCharge_88 (Nat.le_of_ble_eq_true rfl) (Nat.le_of_ble_eq_true rfl) (by rw [← e2, ← e8])
  · skip
    refine lv_aload_n hx hb dX0_takeCharge_79 rfl (lv_at hl 4 rfl) ?_
    refine zcallv (wr := [(pr, .inr (3, [.ref bd, .int (nI t)])), (bd, .inl (cI, 6003, .inl bf))]) (va_runV (As := []) (rest := []) ⟨hx, hb, hml, hown, hts⟩ (m_X0_lapse l D co ac cJ pm sm rt fu ini np al (k_sell (k_sell (k_sell acc 0 v_2 ((bf (t * 3 + 0)).toInt64)) 1 v_4 ((bf (t * 3 + 1)).toInt64)) 2 v_6 ((bf (t * 3 + 2)).toInt64)) _) (cwV 0 hts gX0_takeCharge_X0_lapse rfl rfl rfl (by decide +kernel) ⟨Nat.le_of_ble_eq_true rfl, Nat.le_of_ble_eq_true rfl⟩) (z2_V (va_recv hK hP (ci := 1) (q0 := 2) rfl rfl) (hP.sub (ws' := [(co, .inr (1, [.int pm, .int sm, .int rt, .int (nI fu), .ref ac, .long ini, .int (nI np), .int al])), (ac, .inl (cJ, 3, .inr (.inl (k_sell (k_sell (k_sell acc 0 v_2 ((bf (t * 3 + 0)).toInt64)) 1 v_4 ((bf (t * 3 + 1)).toInt64)) 2 v_6 ((bf (t * 3 + 2)).toInt64)))))]) [2, 3] rfl) (hK.sub (tys' := [(cJ, .long)]) [0] rfl) (hD.sub (ws' := [(co, .inr (1, [.int pm, .int sm, .int rt, .int (nI fu), .ref ac, .long ini, .int (nI np), .int al])), (ac, .inl (cJ, 3, .inr (.inl (k_sell (k_sell (k_sell acc 0 v_2 ((bf (t * 3 + 0)).toInt64)) 1 v_4 ((bf (t * 3 + 1)).toInt64)) 2 v_6 ((bf (t * 3 + 2)).toInt64)))))]) [2, 3] (by decide) rfl) hG) rfl rfl hl.1 rfl (lv_room (Nat.le_of_ble_eq_true rfl)) dX0_takeCharge_80 ⟨Nat.le_of_ble_eq_true rfl, Nat.le_of_ble_eq_true rfl⟩) hP hD hS hA [2, 3] [0, 1] rfl rfl (by decide) (by decide) (fun H locs hP hD hS => ?_)
    have hP : va_P D vwCl [(pr, .inr (3, [.ref bd, .int (nI t)])), (bd, .inl (cI, 6003, .inl bf)), (co, .inr (1, [.int pm, .int sm, .int rt, .int (nI fu), .ref ac, .long 0, .int (nI np), .int (nI 0)])), (ac, .inl (cJ, 3, .inr (.inl (k_zero (k_sell (k_sell (k_sell acc 0 v_2 ((bf (t * 3 + 0)).toInt64)) 1 v_4 ((bf (t * 3 + 1)).toInt64)) 2 v_6 ((bf (t * 3 + 2)).toInt64))))))] H := hP
    have hD : va_D A [(pr, .inr (3, [.ref bd, .int (nI t)])), (bd, .inl (cI, 6003, .inl bf)), (co, .inr (1, [.int pm, .int sm, .int rt, .int (nI fu), .ref ac, .long 0, .int (nI np), .int (nI 0)])), (ac, .inl (cJ, 3, .inr (.inl (k_zero (k_sell (k_sell (k_sell acc 0 v_2 ((bf (t * 3 + 0)).toInt64)) 1 v_4 ((bf (t * 3 + 1)).toInt64)) 2 v_6 ((bf (t * 3 + 2)).toInt64))))))] := hD
    refine lv_lload hx hb dX0_takeCharge_83 (lv_at hl 2 rfl) ?_
    refine lv_lload hx hb dX0_takeCharge_85 (lv_at hl 1 rfl) ?_
    refine zx_lsub (v := v_2 - v_8) hx hb dX0_takeCharge_87 (rfl) ?_
    have hw9 : ([(co, .inr (1, [.int pm, .int sm, .int rt, .int (nI fu), .ref ac, .long 0, .int (nI np), .int (nI 0)])), (ac, .inl (cJ, 3, .inr (.inl (k_zero (k_sell (k_sell (k_sell acc 0 v_2 ((bf (t * 3 + 0)).toInt64)) 1 v_4 ((bf (t * 3 + 1)).toInt64)) 2 v_6 ((bf (t * 3 + 2)).toInt64)))))), (pr, .inr (3, [.ref bd, .int (nI t)])), (bd, .inl (cI, 6003, .inl bf))] : va_W) = [(co, .inr (1, [.int pm, .int sm, .int rt, .int (nI fu), .ref ac, .long (if k_c3 (k_c0 sm rt ini (bf (t * 3 + fu)) (bf (t * 3 + 0)) (bf (t * 3 + 1)) (bf (t * 3 + 2)) acc) (bf (t * 3 + 0)) (bf (t * 3 + 1)) (bf (t * 3 + 2)) acc ≤ 0 then ini else 0), .int (nI np), .int (if k_c3 (k_c0 sm rt ini (bf (t * 3 + fu)) (bf (t * 3 + 0)) (bf (t * 3 + 1)) (bf (t * 3 + 2)) acc) (bf (t * 3 + 0)) (bf (t * 3 + 1)) (bf (t * 3 + 2)) acc ≤ 0 then al else nI 0)])), (ac, .inl (cJ, 3, .inr (.inl (if k_c3 (k_c0 sm rt ini (bf (t * 3 + fu)) (bf (t * 3 + 0)) (bf (t * 3 + 1)) (bf (t * 3 + 2)) acc) (bf (t * 3 + 0)) (bf (t * 3 + 1)) (bf (t * 3 + 2)) acc ≤ 0 then k_a3 (k_c0 sm rt ini (bf (t * 3 + fu)) (bf (t * 3 + 0)) (bf (t * 3 + 1)) (bf (t * 3 + 2)) acc) (bf (t * 3 + 0)) (bf (t * 3 + 1)) (bf (t * 3 + 2)) acc else k_zero (k_a3 (k_c0 sm rt ini (bf (t * 3 + fu)) (bf (t * 3 + 0)) (bf (t * 3 + 1)) (bf (t * 3 + 2)) acc) (bf (t * 3 + 0)) (bf (t * 3 + 1)) (bf (t * 3 + 2)) acc))))), (pr, .inr (3, [.ref bd, .int (nI t)])), (bd, .inl (cI, 6003, .inl bf))] := (by rw [ea, ← e2, ← e8]; first | (simp only [if_pos c_75] <;> rfl) | (simp only [if_neg c_75] <;> rfl))
    have hP := hP.sub (ws' := [(co, .inr (1, [.int pm, .int sm, .int rt, .int (nI fu), .ref ac, .long 0, .int (nI np), .int (nI 0)])), (ac, .inl (cJ, 3, .inr (.inl (k_zero (k_sell (k_sell (k_sell acc 0 v_2 ((bf (t * 3 + 0)).toInt64)) 1 v_4 ((bf (t * 3 + 1)).toInt64)) 2 v_6 ((bf (t * 3 + 2)).toInt64)))))), (pr, .inr (3, [.ref bd, .int (nI t)])), (bd, .inl (cI, 6003, .inl bf))]) [2, 3, 0, 1] rfl
    have hD := hD.sub (ws' := [(co, .inr (1, [.int pm, .int sm, .int rt, .int (nI fu), .ref ac, .long 0, .int (nI np), .int (nI 0)])), (ac, .inl (cJ, 3, .inr (.inl (k_zero (k_sell (k_sell (k_sell acc 0 v_2 ((bf (t * 3 + 0)).toInt64)) 1 v_4 ((bf (t * 3 + 1)).toInt64)) 2 v_6 ((bf (t * 3 + 2)).toInt64)))))), (pr, .inr (3, [.ref bd, .int (nI t)])), (bd, .inl (cI, 6003, .inl bf))]) [2, 3, 0, 1] (by decide) rfl
    rw [hw9] at hP hD
    subst hAe
    exact zretl (D := D) (wf := [(co, .inr (1, [.int pm, .int sm, .int rt, .int (nI fu), .ref ac, .long (if k_c3 (k_c0 sm rt ini (bf (t * 3 + fu)) (bf (t * 3 + 0)) (bf (t * 3 + 1)) (bf (t * 3 + 2)) acc) (bf (t * 3 + 0)) (bf (t * 3 + 1)) (bf (t * 3 + 2)) acc ≤ 0 then ini else 0), .int (nI np), .int (if k_c3 (k_c0 sm rt ini (bf (t * 3 + fu)) (bf (t * 3 + 0)) (bf (t * 3 + 1)) (bf (t * 3 + 2)) acc) (bf (t * 3 + 0)) (bf (t * 3 + 1)) (bf (t * 3 + 2)) acc ≤ 0 then al else nI 0)])), (ac, .inl (cJ, 3, .inr (.inl (if k_c3 (k_c0 sm rt ini (bf (t * 3 + fu)) (bf (t * 3 + 0)) (bf (t * 3 + 1)) (bf (t * 3 + 2)) acc) (bf (t * 3 + 0)) (bf (t * 3 + 1)) (bf (t * 3 + 2)) acc ≤ 0 then k_a3 (k_c0 sm rt ini (bf (t * 3 + fu)) (bf (t * 3 + 0)) (bf (t * 3 + 1)) (bf (t * 3 + 2)) acc) (bf (t * 3 + 0)) (bf (t * 3 + 1)) (bf (t * 3 + 2)) acc else k_zero (k_a3 (k_c0 sm rt ini (bf (t * 3 + fu)) (bf (t * 3 + 0)) (bf (t * 3 + 1)) (bf (t * 3 + 2)) acc) (bf (t * 3 + 0)) (bf (t * 3 + 1)) (bf (t * 3 + 2)) acc))))), (pr, .inr (3, [.ref bd, .int (nI t)])), (bd, .inl (cI, 6003, .inl bf))]) hx hb hr hlocks hP hK hD hS dX0_takeCharge_88 (Nat.le_of_ble_eq_true rfl) (Nat.le_of_ble_eq_true rfl) (by rw [← e2, ← e8])
