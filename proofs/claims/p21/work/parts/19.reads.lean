set_option maxHeartbeats 4000000 in
set_option maxRecDepth 100000 in
/-- today: ok -/
theorem m_X5_today_ok (l : Launch) (D : va_G) (x pr mk os : Nat) (ch gd : Int64) (bd : Nat) (t : Nat)  : Met l yX5_today wsX5_today ({ frames := 1, cells := 0, slots := 0, locals := 20 }) (z1 D [(x, .inr (5, [.ref pr, .ref mk, .ref os, .long ch, .long gd])), (pr, .inr (3, [.ref bd, .int (nI t)]))] [] [.ref x]) (vp_Si (fun r => r = nI t)) 0 0 (fun _ => False) := by
  refine zm1 (cc := cX5_today) (maxL := 1) (ret := (some .int)) (by decide) rfl (Nat.le_of_ble_eq_true rfl) ?_
  intro p e s m below meth c ls hx hb hml hr hlocks hown hts hP hK hG hl
  have hl : lv_has ls 1 [(0, .ref x)] := hl
  have k_0 := hts (.fieldLink RX5 10 "UnitContracts" "prices" "LUnitContracts$Prices;") (List.mem_of_getElem? (i := 1) rfl)
  have i_RX5 : ∀ w ∈ u_ws RX5 TX5 5, w ∈ wsX5_today := by decide +kernel
  refine lv_aload_n hx hb dX5_today_0 rfl (lv_at hl 0 rfl) ?_
  refine va_get (D := D) (ci := 5) (v := .ref pr) (C := RX5) (T := TX5) (N := 5) hx hb hts i_RX5 hown hK hP 0 rfl rfl 0 (by decide) k_0 (fun _ h9 => h9) rfl dX5_today_1 ?_
  refine vp_callSi (W.runV (As := []) (rest := []) ⟨hx, hb, hml, hown, hts⟩ (m_X3_latestDay l D pr bd t) (cwV 0 hts gX5_today_X3_latestDay rfl rfl rfl (by decide +kernel) ⟨Nat.le_of_ble_eq_true rfl, Nat.le_of_ble_eq_true rfl⟩) (z1_V (va_recv hK hP (ci := 3) (q0 := 1) rfl rfl) (hP.sub (ws' := [(pr, .inr (3, [.ref bd, .int (nI t)]))]) [1] rfl) (hK.sub (tys' := []) [] rfl) hG) rfl rfl hl.1 rfl (lv_room (Nat.le_of_ble_eq_true rfl)) dX5_today_4 ⟨Nat.le_of_ble_eq_true rfl, Nat.le_of_ble_eq_true rfl⟩) (fun r_1 e_r_1 => ?_)
  replace e_r_1 := e_r_1.symm; subst e_r_1
  exact zreti1 hx hb hr hlocks dX5_today_7 (by first | rfl | (subst_vars; rfl))

set_option maxHeartbeats 4000000 in
set_option maxRecDepth 100000 in
/-- contracts: ok -/
theorem m_X5_contracts_ok (l : Launch) (D : va_G) (x pr mk os : Nat) (ch gd : Int64) (mm : Int32) (em1 n : Nat)  : Met l yX5_contracts wsX5_contracts ({ frames := 1, cells := 0, slots := 0, locals := 20 }) (z1 D [(x, .inr (5, [.ref pr, .ref mk, .ref os, .long ch, .long gd])), (mk, .inr (0, [.int mm, .ref em1, .int (nI n)]))] [] [.ref x]) (vp_Si (fun r => r = nI n)) 0 0 (fun _ => False) := by
  refine zm1 (cc := cX5_contracts) (maxL := 1) (ret := (some .int)) (by decide) rfl (Nat.le_of_ble_eq_true rfl) ?_
  intro p e s m below meth c ls hx hb hml hr hlocks hown hts hP hK hG hl
  have hl : lv_has ls 1 [(0, .ref x)] := hl
  have k_0 := hts (.fieldLink RX5 19 "UnitContracts" "made" "Ljava/util/ArrayList;") (List.mem_of_getElem? (i := 1) rfl)
  have i_RX5 : ∀ w ∈ u_ws RX5 TX5 5, w ∈ wsX5_contracts := by decide +kernel
  refine lv_aload_n hx hb dX5_contracts_0 rfl (lv_at hl 0 rfl) ?_
  refine va_get (D := D) (ci := 5) (v := .ref mk) (C := RX5) (T := TX5) (N := 5) hx hb hts i_RX5 hown hK hP 0 rfl rfl 1 (by decide) k_0 (fun _ h9 => h9) rfl dX5_contracts_1 ?_
  refine vp_callSi (W.runV (As := []) (rest := []) ⟨hx, hb, hml, hown, hts⟩ (m_Jx4a65c_size_8abf5 l D mk mm em1 n) (cwV 0 hts gX5_contracts_Jx4a65c_size_8abf5 rfl rfl rfl (by decide +kernel) ⟨Nat.le_of_ble_eq_true rfl, Nat.le_of_ble_eq_true rfl⟩) (z1_V (va_recv hK hP (ci := 0) (q0 := 1) rfl rfl) (hP.sub (ws' := [(mk, .inr (0, [.int mm, .ref em1, .int (nI n)]))]) [1] rfl) (hK.sub (tys' := []) [] rfl) hG) rfl rfl hl.1 rfl (lv_room (Nat.le_of_ble_eq_true rfl)) dX5_contracts_4 ⟨Nat.le_of_ble_eq_true rfl, Nat.le_of_ble_eq_true rfl⟩) (fun r_1 e_r_1 => ?_)
  replace e_r_1 := e_r_1.symm; subst e_r_1
  exact zreti1 hx hb hr hlocks dX5_contracts_7 (by first | rfl | (subst_vars; rfl))

set_option maxHeartbeats 4000000 in
set_option maxRecDepth 100000 in
/-- waiting: ok -/
theorem m_X5_waiting_ok (l : Launch) (D : va_G) (x pr mk os : Nat) (ch gd : Int64) (om : Int32) (em2 k : Nat)  : Met l yX5_waiting wsX5_waiting ({ frames := 1, cells := 0, slots := 0, locals := 20 }) (z1 D [(x, .inr (5, [.ref pr, .ref mk, .ref os, .long ch, .long gd])), (os, .inr (0, [.int om, .ref em2, .int (nI k)]))] [] [.ref x]) (vp_Si (fun r => r = nI k)) 0 0 (fun _ => False) := by
  refine zm1 (cc := cX5_waiting) (maxL := 1) (ret := (some .int)) (by decide) rfl (Nat.le_of_ble_eq_true rfl) ?_
  intro p e s m below meth c ls hx hb hml hr hlocks hown hts hP hK hG hl
  have hl : lv_has ls 1 [(0, .ref x)] := hl
  have k_0 := hts (.fieldLink RX5 23 "UnitContracts" "orders" "Ljava/util/ArrayList;") (List.mem_of_getElem? (i := 1) rfl)
  have i_RX5 : ∀ w ∈ u_ws RX5 TX5 5, w ∈ wsX5_waiting := by decide +kernel
  refine lv_aload_n hx hb dX5_waiting_0 rfl (lv_at hl 0 rfl) ?_
  refine va_get (D := D) (ci := 5) (v := .ref os) (C := RX5) (T := TX5) (N := 5) hx hb hts i_RX5 hown hK hP 0 rfl rfl 2 (by decide) k_0 (fun _ h9 => h9) rfl dX5_waiting_1 ?_
  refine vp_callSi (W.runV (As := []) (rest := []) ⟨hx, hb, hml, hown, hts⟩ (m_Jx4a65c_size_8abf5 l D os om em2 k) (cwV 0 hts gX5_waiting_Jx4a65c_size_8abf5 rfl rfl rfl (by decide +kernel) ⟨Nat.le_of_ble_eq_true rfl, Nat.le_of_ble_eq_true rfl⟩) (z1_V (va_recv hK hP (ci := 0) (q0 := 1) rfl rfl) (hP.sub (ws' := [(os, .inr (0, [.int om, .ref em2, .int (nI k)]))]) [1] rfl) (hK.sub (tys' := []) [] rfl) hG) rfl rfl hl.1 rfl (lv_room (Nat.le_of_ble_eq_true rfl)) dX5_waiting_4 ⟨Nat.le_of_ble_eq_true rfl, Nat.le_of_ble_eq_true rfl⟩) (fun r_1 e_r_1 => ?_)
  replace e_r_1 := e_r_1.symm; subst e_r_1
  exact zreti1 hx hb hr hlocks dX5_waiting_7 (by first | rfl | (subst_vars; rfl))

set_option maxHeartbeats 4000000 in
set_option maxRecDepth 100000 in
/-- charged: ok -/
theorem m_X5_charged_ok (l : Launch) (D : va_G) (x pr mk os : Nat) (ch gd : Int64)  : Met l yX5_charged wsX5_charged ({ frames := 0, cells := 0, slots := 0, locals := 0 }) (z1 D [(x, .inr (5, [.ref pr, .ref mk, .ref os, .long ch, .long gd]))] [] [.ref x]) (vp_Sl (fun r => r = ch)) 0 0 (fun _ => False) := by
  refine zm1 (cc := cX5_charged) (maxL := 1) (ret := (some .long)) (by decide) rfl (Nat.le_of_ble_eq_true rfl) ?_
  intro p e s m below meth c ls hx hb hml hr hlocks hown hts hP hK hG hl
  have hl : lv_has ls 1 [(0, .ref x)] := hl
  have k_0 := hts (.fieldLink RX5 171 "UnitContracts" "chargedMoney" "J") (List.mem_of_getElem? (i := 1) rfl)
  have i_RX5 : ∀ w ∈ u_ws RX5 TX5 5, w ∈ wsX5_charged := by decide +kernel
  refine lv_aload_n hx hb dX5_charged_0 rfl (lv_at hl 0 rfl) ?_
  refine va_get (D := D) (ci := 5) (v := .long ch) (C := RX5) (T := TX5) (N := 5) hx hb hts i_RX5 hown hK hP 0 rfl rfl 3 (by decide) k_0 (fun _ h9 => h9) rfl dX5_charged_1 ?_
  exact zretl1 hx hb hr hlocks dX5_charged_4 (by first | rfl | (subst_vars; rfl))

set_option maxHeartbeats 4000000 in
set_option maxRecDepth 100000 in
/-- madeGood: ok -/
theorem m_X5_madeGood_ok (l : Launch) (D : va_G) (x pr mk os : Nat) (ch gd : Int64)  : Met l yX5_madeGood wsX5_madeGood ({ frames := 0, cells := 0, slots := 0, locals := 0 }) (z1 D [(x, .inr (5, [.ref pr, .ref mk, .ref os, .long ch, .long gd]))] [] [.ref x]) (vp_Sl (fun r => r = gd)) 0 0 (fun _ => False) := by
  refine zm1 (cc := cX5_madeGood) (maxL := 1) (ret := (some .long)) (by decide) rfl (Nat.le_of_ble_eq_true rfl) ?_
  intro p e s m below meth c ls hx hb hml hr hlocks hown hts hP hK hG hl
  have hl : lv_has ls 1 [(0, .ref x)] := hl
  have k_0 := hts (.fieldLink RX5 136 "UnitContracts" "goodMoney" "J") (List.mem_of_getElem? (i := 1) rfl)
  have i_RX5 : ∀ w ∈ u_ws RX5 TX5 5, w ∈ wsX5_madeGood := by decide +kernel
  refine lv_aload_n hx hb dX5_madeGood_0 rfl (lv_at hl 0 rfl) ?_
  refine va_get (D := D) (ci := 5) (v := .long gd) (C := RX5) (T := TX5) (N := 5) hx hb hts i_RX5 hown hK hP 0 rfl rfl 4 (by decide) k_0 (fun _ h9 => h9) rfl dX5_madeGood_1 ?_
  exact zretl1 hx hb hr hlocks dX5_madeGood_4 (by first | rfl | (subst_vars; rfl))

set_option maxHeartbeats 4000000 in
set_option maxRecDepth 100000 in
/-- offer: ok -/
theorem m_X5_offer_ok (l : Launch) (D : va_G) (x pr mk os : Nat) (ch gd : Int64) (bd : Nat) (t : Nat) (cI : ClassId) (bf : Nat → Int32) (q dd : Nat) (hq : q < 3) (hd : dd ≤ t) (ht : t ≤ 2000) : Met l yX5_offer wsX5_offer ({ frames := 3, cells := 0, slots := 0, locals := 64 }) (z1 D [(x, .inr (5, [.ref pr, .ref mk, .ref os, .long ch, .long gd])), (pr, .inr (3, [.ref bd, .int (nI t)])), (bd, .inl (cI, 6003, .inl bf))] [(cI, .int)] [.ref x, .int (nI q), .int (nI dd)]) (vp_Si (fun r => r = k_off (bf (dd * 3 + q)))) 0 0 (fun _ => False) := by
  refine zm1 (cc := cX5_offer) (maxL := 3) (ret := (some .int)) (by decide) rfl (Nat.le_of_ble_eq_true rfl) ?_
  intro p e s m below meth c ls hx hb hml hr hlocks hown hts hP hK hG hl
  have hl : lv_has ls 3 [(0, .ref x), (1, .int (nI q)), (2, .int (nI dd))] := hl
  have k_0 := hts (.fieldLink RX5 10 "UnitContracts" "prices" "LUnitContracts$Prices;") (List.mem_of_getElem? (i := 1) rfl)
  have i_RX5 : ∀ w ∈ u_ws RX5 TX5 5, w ∈ wsX5_offer := by decide +kernel
  refine lv_iload_n hx hb dX5_offer_0 rfl (lv_at hl 1 rfl) ?_
  refine va_csv (W.runS (As := [.int (nI q)]) (rest := []) ⟨hx, hb, hml, hown, hts⟩ (m_X5_requireFund_ok l q (by first | omega | assumption)) (va_cwS 1 hts gX5_offer_X5_requireFund rfl rfl rfl (by decide +kernel) ⟨Nat.le_of_ble_eq_true rfl, Nat.le_of_ble_eq_true rfl⟩) z0_S rfl rfl hl.1 rfl (lv_room (Nat.le_of_ble_eq_true rfl)) dX5_offer_1 ⟨Nat.le_of_ble_eq_true rfl, Nat.le_of_ble_eq_true rfl⟩) (fun _ => ?_)
  refine lv_aload_n hx hb dX5_offer_4 rfl (lv_at hl 0 rfl) ?_
  refine lv_iload_n hx hb dX5_offer_5 rfl (lv_at hl 2 rfl) ?_
  refine va_csv (W.runV (As := [.int (nI dd)]) (rest := []) ⟨hx, hb, hml, hown, hts⟩ (m_X5_requireDay_ok l D x pr mk os ch gd bd t dd (by first | omega | assumption) (by first | omega | assumption)) (cwV 1 hts gX5_offer_X5_requireDay rfl rfl rfl (by decide +kernel) ⟨Nat.le_of_ble_eq_true rfl, Nat.le_of_ble_eq_true rfl⟩) (z1_V (va_recv hK hP (ci := 5) (q0 := 0) rfl rfl) (hP.sub (ws' := [(x, .inr (5, [.ref pr, .ref mk, .ref os, .long ch, .long gd])), (pr, .inr (3, [.ref bd, .int (nI t)]))]) [0, 1] rfl) (hK.sub (tys' := []) [] rfl) hG) rfl rfl hl.1 rfl (lv_room (Nat.le_of_ble_eq_true rfl)) dX5_offer_6 ⟨Nat.le_of_ble_eq_true rfl, Nat.le_of_ble_eq_true rfl⟩) (fun _ => ?_)
  refine lv_aload_n hx hb dX5_offer_9 rfl (lv_at hl 0 rfl) ?_
  refine va_get (D := D) (ci := 5) (v := .ref pr) (C := RX5) (T := TX5) (N := 5) hx hb hts i_RX5 hown hK hP 0 rfl rfl 0 (by decide) k_0 (fun _ h9 => h9) rfl dX5_offer_10 ?_
  refine lv_iload_n hx hb dX5_offer_13 rfl (lv_at hl 1 rfl) ?_
  refine lv_iload_n hx hb dX5_offer_14 rfl (lv_at hl 2 rfl) ?_
  refine vp_callSi (W.runV (As := [.int (nI q), .int (nI dd)]) (rest := []) ⟨hx, hb, hml, hown, hts⟩ (m_X3_offerOn l D pr bd cI t bf q dd (by first | omega | assumption) (by first | omega | assumption)) (cwV 2 hts gX5_offer_X3_offerOn rfl rfl rfl (by decide +kernel) ⟨Nat.le_of_ble_eq_true rfl, Nat.le_of_ble_eq_true rfl⟩) (z1_V (va_recv hK hP (ci := 3) (q0 := 1) rfl rfl) (hP.sub (ws' := [(pr, .inr (3, [.ref bd, .int (nI t)])), (bd, .inl (cI, 6003, .inl bf))]) [1, 2] rfl) (hK.sub (tys' := [(cI, .int)]) [0] rfl) hG) rfl rfl hl.1 rfl (lv_room (Nat.le_of_ble_eq_true rfl)) dX5_offer_15 ⟨Nat.le_of_ble_eq_true rfl, Nat.le_of_ble_eq_true rfl⟩) (fun r_1 e_r_1 => ?_)
  replace e_r_1 := e_r_1.symm; subst e_r_1
  exact zreti1 hx hb hr hlocks dX5_offer_18 (by first | rfl | (subst_vars; rfl))

set_option maxHeartbeats 4000000 in
set_option maxRecDepth 100000 in
/-- isInForce: ok -/
theorem m_X5_isInForce_ok (l : Launch) (D : va_G) (x pr mk os : Nat) (ch gd : Int64) (mm : Int32) (em1 n : Nat) (cap : Nat) (cO : ClassId) (fl : Nat → Option Nat) (co ac : Nat) (cJ : ClassId) (pm sm rt : Int32) (fu : Nat) (ini : Int64) (np : Nat) (al : Int32) (acc : Nat → Int64) (kc : Nat) (hkc : kc < n) (hn : n ≤ cap) (hcap : cap ≤ 800) (hfl : fl kc = some co) (hal : narrow .boolean (.int al) = .int al) : Met l yX5_isInForce wsX5_isInForce ({ frames := 4, cells := 0, slots := 0, locals := 85 }) (z1 D [(x, .inr (5, [.ref pr, .ref mk, .ref os, .long ch, .long gd])), (mk, .inr (0, [.int mm, .ref em1, .int (nI n)])), (em1, .inl (cO, cap, .inr (.inr (.inr (.inr fl))))), (co, .inr (1, [.int pm, .int sm, .int rt, .int (nI fu), .ref ac, .long ini, .int (nI np), .int al])), (ac, .inl (cJ, 3, .inr (.inl acc)))] [(cO, .object "java/lang/Object"), (cJ, .long)] [.ref x, .int (nI kc)]) (vp_Si (fun r => r = al)) 0 0 (fun _ => False) := by
  refine zm1 (cc := cX5_isInForce) (maxL := 2) (ret := (some .boolean)) (by decide) rfl (Nat.le_of_ble_eq_true rfl) ?_
  intro p e s m below meth c ls hx hb hml hr hlocks hown hts hP hK hG hl
  have hl : lv_has ls 2 [(0, .ref x), (1, .int (nI kc))] := hl
  refine lv_aload_n hx hb dX5_isInForce_0 rfl (lv_at hl 0 rfl) ?_
  refine lv_iload_n hx hb dX5_isInForce_1 rfl (lv_at hl 1 rfl) ?_
  refine va_csq (W.runV (As := [.int (nI kc)]) (rest := []) ⟨hx, hb, hml, hown, hts⟩ (m_X5_find_ok l D x pr mk os ch gd mm em1 n cap cO fl co ac cJ pm sm rt fu ini np al acc kc (by first | omega | assumption) (by first | omega | assumption) (by first | omega | assumption) (by first | omega | assumption)) (cwV 1 hts gX5_isInForce_X5_find rfl rfl rfl (by decide +kernel) ⟨Nat.le_of_ble_eq_true rfl, Nat.le_of_ble_eq_true rfl⟩) (z1_V (va_recv hK hP (ci := 5) (q0 := 0) rfl rfl) (hP.sub (ws' := [(x, .inr (5, [.ref pr, .ref mk, .ref os, .long ch, .long gd])), (mk, .inr (0, [.int mm, .ref em1, .int (nI n)])), (em1, .inl (cO, cap, .inr (.inr (.inr (.inr fl))))), (co, .inr (1, [.int pm, .int sm, .int rt, .int (nI fu), .ref ac, .long ini, .int (nI np), .int al])), (ac, .inl (cJ, 3, .inr (.inl acc)))]) [0, 1, 2, 3, 4] rfl) (hK.sub (tys' := [(cO, .object "java/lang/Object"), (cJ, .long)]) [0, 1] rfl) hG) rfl rfl hl.1 rfl (lv_room (Nat.le_of_ble_eq_true rfl)) dX5_isInForce_2 ⟨Nat.le_of_ble_eq_true rfl, Nat.le_of_ble_eq_true rfl⟩) (fun r_1 e_r_1 => ?_)
  replace e_r_1 := e_r_1.symm; subst e_r_1
  refine W.eq (g2 := F0 m 5 ls [.ref co]) rfl ?_
  refine vp_callSi (W.runV (As := []) (rest := []) ⟨hx, hb, hml, hown, hts⟩ (m_X0_isAlive l D co ac cJ pm sm rt fu ini np al acc (by first | omega | assumption)) (cwV 0 hts gX5_isInForce_X0_isAlive rfl rfl rfl (by decide +kernel) ⟨Nat.le_of_ble_eq_true rfl, Nat.le_of_ble_eq_true rfl⟩) (z1_V (va_recv hK hP (ci := 1) (q0 := 3) rfl rfl) (hP.sub (ws' := [(co, .inr (1, [.int pm, .int sm, .int rt, .int (nI fu), .ref ac, .long ini, .int (nI np), .int al])), (ac, .inl (cJ, 3, .inr (.inl acc)))]) [3, 4] rfl) (hK.sub (tys' := [(cJ, .long)]) [1] rfl) hG) rfl rfl hl.1 rfl (lv_room (Nat.le_of_ble_eq_true rfl)) dX5_isInForce_5 ⟨Nat.le_of_ble_eq_true rfl, Nat.le_of_ble_eq_true rfl⟩) (fun r_2 e_r_2 => ?_)
  replace e_r_2 := e_r_2.symm; subst e_r_2
  exact zretz1 hx hb hr hlocks dX5_isInForce_8 hal (by first | rfl | (subst_vars; rfl))

set_option maxHeartbeats 4000000 in
set_option maxRecDepth 100000 in
/-- initial: ok -/
theorem m_X5_initial_ok (l : Launch) (D : va_G) (x pr mk os : Nat) (ch gd : Int64) (mm : Int32) (em1 n : Nat) (cap : Nat) (cO : ClassId) (fl : Nat → Option Nat) (co ac : Nat) (cJ : ClassId) (pm sm rt : Int32) (fu : Nat) (ini : Int64) (np : Nat) (al : Int32) (acc : Nat → Int64) (kc : Nat) (hkc : kc < n) (hn : n ≤ cap) (hcap : cap ≤ 800) (hfl : fl kc = some co) : Met l yX5_initial wsX5_initial ({ frames := 4, cells := 0, slots := 0, locals := 85 }) (z1 D [(x, .inr (5, [.ref pr, .ref mk, .ref os, .long ch, .long gd])), (mk, .inr (0, [.int mm, .ref em1, .int (nI n)])), (em1, .inl (cO, cap, .inr (.inr (.inr (.inr fl))))), (co, .inr (1, [.int pm, .int sm, .int rt, .int (nI fu), .ref ac, .long ini, .int (nI np), .int al])), (ac, .inl (cJ, 3, .inr (.inl acc)))] [(cO, .object "java/lang/Object"), (cJ, .long)] [.ref x, .int (nI kc)]) (vp_Sl (fun r => r = ini)) 0 0 (fun _ => False) := by
  refine zm1 (cc := cX5_initial) (maxL := 2) (ret := (some .long)) (by decide) rfl (Nat.le_of_ble_eq_true rfl) ?_
  intro p e s m below meth c ls hx hb hml hr hlocks hown hts hP hK hG hl
  have hl : lv_has ls 2 [(0, .ref x), (1, .int (nI kc))] := hl
  refine lv_aload_n hx hb dX5_initial_0 rfl (lv_at hl 0 rfl) ?_
  refine lv_iload_n hx hb dX5_initial_1 rfl (lv_at hl 1 rfl) ?_
  refine va_csq (W.runV (As := [.int (nI kc)]) (rest := []) ⟨hx, hb, hml, hown, hts⟩ (m_X5_find_ok l D x pr mk os ch gd mm em1 n cap cO fl co ac cJ pm sm rt fu ini np al acc kc (by first | omega | assumption) (by first | omega | assumption) (by first | omega | assumption) (by first | omega | assumption)) (cwV 1 hts gX5_initial_X5_find rfl rfl rfl (by decide +kernel) ⟨Nat.le_of_ble_eq_true rfl, Nat.le_of_ble_eq_true rfl⟩) (z1_V (va_recv hK hP (ci := 5) (q0 := 0) rfl rfl) (hP.sub (ws' := [(x, .inr (5, [.ref pr, .ref mk, .ref os, .long ch, .long gd])), (mk, .inr (0, [.int mm, .ref em1, .int (nI n)])), (em1, .inl (cO, cap, .inr (.inr (.inr (.inr fl))))), (co, .inr (1, [.int pm, .int sm, .int rt, .int (nI fu), .ref ac, .long ini, .int (nI np), .int al])), (ac, .inl (cJ, 3, .inr (.inl acc)))]) [0, 1, 2, 3, 4] rfl) (hK.sub (tys' := [(cO, .object "java/lang/Object"), (cJ, .long)]) [0, 1] rfl) hG) rfl rfl hl.1 rfl (lv_room (Nat.le_of_ble_eq_true rfl)) dX5_initial_2 ⟨Nat.le_of_ble_eq_true rfl, Nat.le_of_ble_eq_true rfl⟩) (fun r_1 e_r_1 => ?_)
  replace e_r_1 := e_r_1.symm; subst e_r_1
  refine W.eq (g2 := F0 m 5 ls [.ref co]) rfl ?_
  refine vp_callSl (W.runV (As := []) (rest := []) ⟨hx, hb, hml, hown, hts⟩ (m_X0_initialLeft l D co ac cJ pm sm rt fu ini np al acc) (cwV 0 hts gX5_initial_X0_initialLeft rfl rfl rfl (by decide +kernel) ⟨Nat.le_of_ble_eq_true rfl, Nat.le_of_ble_eq_true rfl⟩) (z1_V (va_recv hK hP (ci := 1) (q0 := 3) rfl rfl) (hP.sub (ws' := [(co, .inr (1, [.int pm, .int sm, .int rt, .int (nI fu), .ref ac, .long ini, .int (nI np), .int al])), (ac, .inl (cJ, 3, .inr (.inl acc)))]) [3, 4] rfl) (hK.sub (tys' := [(cJ, .long)]) [1] rfl) hG) rfl rfl hl.1 rfl (lv_room (Nat.le_of_ble_eq_true rfl)) dX5_initial_5 ⟨Nat.le_of_ble_eq_true rfl, Nat.le_of_ble_eq_true rfl⟩) (fun r_2 e_r_2 => ?_)
  replace e_r_2 := e_r_2.symm; subst e_r_2
  exact zretl1 hx hb hr hlocks dX5_initial_8 (by first | rfl | (subst_vars; rfl))

set_option maxHeartbeats 4000000 in
set_option maxRecDepth 100000 in
/-- paid: ok -/
theorem m_X5_paid_ok (l : Launch) (D : va_G) (x pr mk os : Nat) (ch gd : Int64) (mm : Int32) (em1 n : Nat) (cap : Nat) (cO : ClassId) (fl : Nat → Option Nat) (co ac : Nat) (cJ : ClassId) (pm sm rt : Int32) (fu : Nat) (ini : Int64) (np : Nat) (al : Int32) (acc : Nat → Int64) (kc : Nat) (hkc : kc < n) (hn : n ≤ cap) (hcap : cap ≤ 800) (hfl : fl kc = some co) : Met l yX5_paid wsX5_paid ({ frames := 4, cells := 0, slots := 0, locals := 85 }) (z1 D [(x, .inr (5, [.ref pr, .ref mk, .ref os, .long ch, .long gd])), (mk, .inr (0, [.int mm, .ref em1, .int (nI n)])), (em1, .inl (cO, cap, .inr (.inr (.inr (.inr fl))))), (co, .inr (1, [.int pm, .int sm, .int rt, .int (nI fu), .ref ac, .long ini, .int (nI np), .int al])), (ac, .inl (cJ, 3, .inr (.inl acc)))] [(cO, .object "java/lang/Object"), (cJ, .long)] [.ref x, .int (nI kc)]) (vp_Si (fun r => r = nI np)) 0 0 (fun _ => False) := by
  refine zm1 (cc := cX5_paid) (maxL := 2) (ret := (some .int)) (by decide) rfl (Nat.le_of_ble_eq_true rfl) ?_
  intro p e s m below meth c ls hx hb hml hr hlocks hown hts hP hK hG hl
  have hl : lv_has ls 2 [(0, .ref x), (1, .int (nI kc))] := hl
  refine lv_aload_n hx hb dX5_paid_0 rfl (lv_at hl 0 rfl) ?_
  refine lv_iload_n hx hb dX5_paid_1 rfl (lv_at hl 1 rfl) ?_
  refine va_csq (W.runV (As := [.int (nI kc)]) (rest := []) ⟨hx, hb, hml, hown, hts⟩ (m_X5_find_ok l D x pr mk os ch gd mm em1 n cap cO fl co ac cJ pm sm rt fu ini np al acc kc (by first | omega | assumption) (by first | omega | assumption) (by first | omega | assumption) (by first | omega | assumption)) (cwV 1 hts gX5_paid_X5_find rfl rfl rfl (by decide +kernel) ⟨Nat.le_of_ble_eq_true rfl, Nat.le_of_ble_eq_true rfl⟩) (z1_V (va_recv hK hP (ci := 5) (q0 := 0) rfl rfl) (hP.sub (ws' := [(x, .inr (5, [.ref pr, .ref mk, .ref os, .long ch, .long gd])), (mk, .inr (0, [.int mm, .ref em1, .int (nI n)])), (em1, .inl (cO, cap, .inr (.inr (.inr (.inr fl))))), (co, .inr (1, [.int pm, .int sm, .int rt, .int (nI fu), .ref ac, .long ini, .int (nI np), .int al])), (ac, .inl (cJ, 3, .inr (.inl acc)))]) [0, 1, 2, 3, 4] rfl) (hK.sub (tys' := [(cO, .object "java/lang/Object"), (cJ, .long)]) [0, 1] rfl) hG) rfl rfl hl.1 rfl (lv_room (Nat.le_of_ble_eq_true rfl)) dX5_paid_2 ⟨Nat.le_of_ble_eq_true rfl, Nat.le_of_ble_eq_true rfl⟩) (fun r_1 e_r_1 => ?_)
  replace e_r_1 := e_r_1.symm; subst e_r_1
  refine W.eq (g2 := F0 m 5 ls [.ref co]) rfl ?_
  refine vp_callSi (W.runV (As := []) (rest := []) ⟨hx, hb, hml, hown, hts⟩ (m_X0_premiumsMade l D co ac cJ pm sm rt fu ini np al acc) (cwV 0 hts gX5_paid_X0_premiumsMade rfl rfl rfl (by decide +kernel) ⟨Nat.le_of_ble_eq_true rfl, Nat.le_of_ble_eq_true rfl⟩) (z1_V (va_recv hK hP (ci := 1) (q0 := 3) rfl rfl) (hP.sub (ws' := [(co, .inr (1, [.int pm, .int sm, .int rt, .int (nI fu), .ref ac, .long ini, .int (nI np), .int al])), (ac, .inl (cJ, 3, .inr (.inl acc)))]) [3, 4] rfl) (hK.sub (tys' := [(cJ, .long)]) [1] rfl) hG) rfl rfl hl.1 rfl (lv_room (Nat.le_of_ble_eq_true rfl)) dX5_paid_5 ⟨Nat.le_of_ble_eq_true rfl, Nat.le_of_ble_eq_true rfl⟩) (fun r_2 e_r_2 => ?_)
  replace e_r_2 := e_r_2.symm; subst e_r_2
  exact zreti1 hx hb hr hlocks dX5_paid_8 (by first | rfl | (subst_vars; rfl))

set_option maxHeartbeats 4000000 in
set_option maxRecDepth 100000 in
/-- units: ok -/
theorem m_X5_units_ok (l : Launch) (D : va_G) (x pr mk os : Nat) (ch gd : Int64) (mm : Int32) (em1 n : Nat) (cap : Nat) (cO : ClassId) (fl : Nat → Option Nat) (co ac : Nat) (cJ : ClassId) (pm sm rt : Int32) (fu : Nat) (ini : Int64) (np : Nat) (al : Int32) (acc : Nat → Int64) (kc : Nat) (q : Nat) (hkc : kc < n) (hn : n ≤ cap) (hcap : cap ≤ 800) (hfl : fl kc = some co) (hq : q < 3) : Met l yX5_units wsX5_units ({ frames := 4, cells := 0, slots := 0, locals := 85 }) (z1 D [(x, .inr (5, [.ref pr, .ref mk, .ref os, .long ch, .long gd])), (mk, .inr (0, [.int mm, .ref em1, .int (nI n)])), (em1, .inl (cO, cap, .inr (.inr (.inr (.inr fl))))), (co, .inr (1, [.int pm, .int sm, .int rt, .int (nI fu), .ref ac, .long ini, .int (nI np), .int al])), (ac, .inl (cJ, 3, .inr (.inl acc)))] [(cO, .object "java/lang/Object"), (cJ, .long)] [.ref x, .int (nI kc), .int (nI q)]) (vp_Sl (fun r => r = acc q)) 0 0 (fun _ => False) := by
  refine zm1 (cc := cX5_units) (maxL := 4) (ret := (some .long)) (by decide) rfl (Nat.le_of_ble_eq_true rfl) ?_
  intro p e s m below meth c ls hx hb hml hr hlocks hown hts hP hK hG hl
  have hl : lv_has ls 4 [(0, .ref x), (1, .int (nI kc)), (2, .int (nI q))] := hl
  refine lv_aload_n hx hb dX5_units_0 rfl (lv_at hl 0 rfl) ?_
  refine lv_iload_n hx hb dX5_units_1 rfl (lv_at hl 1 rfl) ?_
  refine va_csq (W.runV (As := [.int (nI kc)]) (rest := []) ⟨hx, hb, hml, hown, hts⟩ (m_X5_find_ok l D x pr mk os ch gd mm em1 n cap cO fl co ac cJ pm sm rt fu ini np al acc kc (by first | omega | assumption) (by first | omega | assumption) (by first | omega | assumption) (by first | omega | assumption)) (cwV 1 hts gX5_units_X5_find rfl rfl rfl (by decide +kernel) ⟨Nat.le_of_ble_eq_true rfl, Nat.le_of_ble_eq_true rfl⟩) (z1_V (va_recv hK hP (ci := 5) (q0 := 0) rfl rfl) (hP.sub (ws' := [(x, .inr (5, [.ref pr, .ref mk, .ref os, .long ch, .long gd])), (mk, .inr (0, [.int mm, .ref em1, .int (nI n)])), (em1, .inl (cO, cap, .inr (.inr (.inr (.inr fl))))), (co, .inr (1, [.int pm, .int sm, .int rt, .int (nI fu), .ref ac, .long ini, .int (nI np), .int al])), (ac, .inl (cJ, 3, .inr (.inl acc)))]) [0, 1, 2, 3, 4] rfl) (hK.sub (tys' := [(cO, .object "java/lang/Object"), (cJ, .long)]) [0, 1] rfl) hG) rfl rfl hl.1 rfl (lv_room (Nat.le_of_ble_eq_true rfl)) dX5_units_2 ⟨Nat.le_of_ble_eq_true rfl, Nat.le_of_ble_eq_true rfl⟩) (fun r_1 e_r_1 => ?_)
  replace e_r_1 := e_r_1.symm; subst e_r_1
  refine W.eq (g2 := F0 m 5 ls [.ref co]) rfl ?_
  refine lv_astore_n (lv' := [(3, .ref co), (0, .ref x), (1, .int (nI kc)), (2, .int (nI q))]) hx hb dX5_units_5 rfl hl (by decide) rfl (fun ls hl => ?_)
  refine lv_iload_n hx hb dX5_units_6 rfl (lv_at hl 3 rfl) ?_
  refine va_csv (W.runS (As := [.int (nI q)]) (rest := []) ⟨hx, hb, hml, hown, hts⟩ (m_X5_requireFund_ok l q (by first | omega | assumption)) (va_cwS 1 hts gX5_units_X5_requireFund rfl rfl rfl (by decide +kernel) ⟨Nat.le_of_ble_eq_true rfl, Nat.le_of_ble_eq_true rfl⟩) z0_S rfl rfl hl.1 rfl (lv_room (Nat.le_of_ble_eq_true rfl)) dX5_units_7 ⟨Nat.le_of_ble_eq_true rfl, Nat.le_of_ble_eq_true rfl⟩) (fun _ => ?_)
  refine lv_aload_n hx hb dX5_units_10 rfl (lv_at hl 0 rfl) ?_
  refine lv_iload_n hx hb dX5_units_11 rfl (lv_at hl 3 rfl) ?_
  refine vp_callSl (W.runV (As := [.int (nI q)]) (rest := []) ⟨hx, hb, hml, hown, hts⟩ (m_X0_accumulatedIn l D co ac cJ pm sm rt fu ini np al acc q (by first | omega | assumption)) (cwV 1 hts gX5_units_X0_accumulatedIn rfl rfl rfl (by decide +kernel) ⟨Nat.le_of_ble_eq_true rfl, Nat.le_of_ble_eq_true rfl⟩) (z1_V (va_recv hK hP (ci := 1) (q0 := 3) rfl rfl) (hP.sub (ws' := [(co, .inr (1, [.int pm, .int sm, .int rt, .int (nI fu), .ref ac, .long ini, .int (nI np), .int al])), (ac, .inl (cJ, 3, .inr (.inl acc)))]) [3, 4] rfl) (hK.sub (tys' := [(cJ, .long)]) [1] rfl) hG) rfl rfl hl.1 rfl (lv_room (Nat.le_of_ble_eq_true rfl)) dX5_units_12 ⟨Nat.le_of_ble_eq_true rfl, Nat.le_of_ble_eq_true rfl⟩) (fun r_2 e_r_2 => ?_)
  replace e_r_2 := e_r_2.symm; subst e_r_2
  exact zretl1 hx hb hr hlocks dX5_units_15 (by first | rfl | (subst_vars; rfl))

set_option maxHeartbeats 4000000 in
set_option maxRecDepth 100000 in
/-- worth: ok -/
theorem m_X5_worth_ok (l : Launch) (D : va_G) (x pr mk os : Nat) (ch gd : Int64) (mm : Int32) (em1 n : Nat) (cap : Nat) (cO : ClassId) (fl : Nat → Option Nat) (co ac : Nat) (cJ : ClassId) (pm sm rt : Int32) (fu : Nat) (ini : Int64) (np : Nat) (al : Int32) (acc : Nat → Int64) (kc : Nat) (bd : Nat) (t : Nat) (cI : ClassId) (bf : Nat → Int32) (hkc : kc < n) (hn : n ≤ cap) (hcap : cap ≤ 800) (hfl : fl kc = some co) (hfu : fu < 3) (ht : t ≤ 2000) : Met l yX5_worth wsX5_worth ({ frames := 4, cells := 0, slots := 0, locals := 87 }) (z1 D [(x, .inr (5, [.ref pr, .ref mk, .ref os, .long ch, .long gd])), (mk, .inr (0, [.int mm, .ref em1, .int (nI n)])), (em1, .inl (cO, cap, .inr (.inr (.inr (.inr fl))))), (co, .inr (1, [.int pm, .int sm, .int rt, .int (nI fu), .ref ac, .long ini, .int (nI np), .int al])), (ac, .inl (cJ, 3, .inr (.inl acc))), (pr, .inr (3, [.ref bd, .int (nI t)])), (bd, .inl (cI, 6003, .inl bf))] [(cO, .object "java/lang/Object"), (cJ, .long), (cI, .int)] [.ref x, .int (nI kc)]) (vp_Sl (fun r => r = k_worth ini (bf (t * 3 + fu)) (bf (t * 3 + 0)) (bf (t * 3 + 1)) (bf (t * 3 + 2)) (acc 0) (acc 1) (acc 2))) 0 0 (fun _ => False) := by
  refine zm1 (cc := cX5_worth) (maxL := 2) (ret := (some .long)) (by decide) rfl (Nat.le_of_ble_eq_true rfl) ?_
  intro p e s m below meth c ls hx hb hml hr hlocks hown hts hP hK hG hl
  have hl : lv_has ls 2 [(0, .ref x), (1, .int (nI kc))] := hl
  have k_0 := hts (.fieldLink RX5 10 "UnitContracts" "prices" "LUnitContracts$Prices;") (List.mem_of_getElem? (i := 1) rfl)
  have i_RX5 : ∀ w ∈ u_ws RX5 TX5 5, w ∈ wsX5_worth := by decide +kernel
  refine lv_aload_n hx hb dX5_worth_0 rfl (lv_at hl 0 rfl) ?_
  refine lv_iload_n hx hb dX5_worth_1 rfl (lv_at hl 1 rfl) ?_
  refine va_csq (W.runV (As := [.int (nI kc)]) (rest := []) ⟨hx, hb, hml, hown, hts⟩ (m_X5_find_ok l D x pr mk os ch gd mm em1 n cap cO fl co ac cJ pm sm rt fu ini np al acc kc (by first | omega | assumption) (by first | omega | assumption) (by first | omega | assumption) (by first | omega | assumption)) (cwV 1 hts gX5_worth_X5_find rfl rfl rfl (by decide +kernel) ⟨Nat.le_of_ble_eq_true rfl, Nat.le_of_ble_eq_true rfl⟩) (z1_V (va_recv hK hP (ci := 5) (q0 := 0) rfl rfl) (hP.sub (ws' := [(x, .inr (5, [.ref pr, .ref mk, .ref os, .long ch, .long gd])), (mk, .inr (0, [.int mm, .ref em1, .int (nI n)])), (em1, .inl (cO, cap, .inr (.inr (.inr (.inr fl))))), (co, .inr (1, [.int pm, .int sm, .int rt, .int (nI fu), .ref ac, .long ini, .int (nI np), .int al])), (ac, .inl (cJ, 3, .inr (.inl acc)))]) [0, 1, 2, 3, 4] rfl) (hK.sub (tys' := [(cO, .object "java/lang/Object"), (cJ, .long)]) [0, 1] rfl) hG) rfl rfl hl.1 rfl (lv_room (Nat.le_of_ble_eq_true rfl)) dX5_worth_2 ⟨Nat.le_of_ble_eq_true rfl, Nat.le_of_ble_eq_true rfl⟩) (fun r_1 e_r_1 => ?_)
  replace e_r_1 := e_r_1.symm; subst e_r_1
  refine W.eq (g2 := F0 m 5 ls [.ref co]) rfl ?_
  refine lv_aload_n hx hb dX5_worth_5 rfl (lv_at hl 0 rfl) ?_
  refine va_get (D := D) (ci := 5) (v := .ref pr) (C := RX5) (T := TX5) (N := 5) hx hb hts i_RX5 hown hK hP 0 rfl rfl 0 (by decide) k_0 (fun _ h9 => h9) rfl dX5_worth_6 ?_
  refine vp_callSl (W.runV (As := [.ref pr]) (rest := []) ⟨hx, hb, hml, hown, hts⟩ (m_X0_worthAt l D co ac cJ pm sm rt fu ini np al acc pr bd cI t bf (by first | omega | assumption) (by first | omega | assumption)) (cwV 1 hts gX5_worth_X0_worthAt rfl rfl rfl (by decide +kernel) ⟨Nat.le_of_ble_eq_true rfl, Nat.le_of_ble_eq_true rfl⟩) (z1_V (va_recv hK hP (ci := 1) (q0 := 3) rfl rfl) (hP.sub (ws' := [(co, .inr (1, [.int pm, .int sm, .int rt, .int (nI fu), .ref ac, .long ini, .int (nI np), .int al])), (ac, .inl (cJ, 3, .inr (.inl acc))), (pr, .inr (3, [.ref bd, .int (nI t)])), (bd, .inl (cI, 6003, .inl bf))]) [3, 4, 5, 6] rfl) (hK.sub (tys' := [(cJ, .long), (cI, .int)]) [1, 2] rfl) hG) rfl rfl hl.1 rfl (lv_room (Nat.le_of_ble_eq_true rfl)) dX5_worth_9 ⟨Nat.le_of_ble_eq_true rfl, Nat.le_of_ble_eq_true rfl⟩) (fun r_2 e_r_2 => ?_)
  replace e_r_2 := e_r_2.symm; subst e_r_2
  exact zretl1 hx hb hr hlocks dX5_worth_12 (by first | rfl | (subst_vars; rfl))
