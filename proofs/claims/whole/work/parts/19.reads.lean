set_option maxHeartbeats 4000000 in
set_option maxRecDepth 100000 in
/-- tell: b0 -/
theorem m_X5_tell_b0 (l : Launch) (hnt : l.stackTraces = false) (D : va_G) (x : Nat) (p0 p1 p2 : Int32) (em : Nat) (h0 : k_isBid p0 = nI 0) : vx_Met l yX5_tell wsX5_tell ({ frames := 6, cells := 1, slots := 6, locals := 92 }) (zt D [] [] em [.ref x, .int p0, .int p1, .int p2]) Qf (XE "java/lang/IllegalArgumentException") 1 6 NA := by
  refine zmt (cc := cX5_tell) (maxL := 4) (ret := (some .int)) (by decide) rfl (Nat.le_of_ble_eq_true rfl) ?_
  intro p e s m below meth c ls hno hx hb hml hr hlocks hown hts hP hK hG hH hl
  have hl : lv_has ls 4 [(0, .ref x), (1, .int p0), (2, .int p1), (3, .int p2)] := hl
  have k_0 := hts (.classLink RX5 30 "java/lang/IllegalArgumentException") (List.mem_of_getElem? (i := 1) rfl)
  have k_1 := hts (.initialized "java/lang/IllegalArgumentException") (List.mem_of_getElem? (i := 2) rfl)
  refine lv_iload_n hx hb dX5_tell_0 rfl (lv_at hl 1 rfl) ?_
  refine vp_callSi (W.runS (As := [.int p0]) (rest := []) ⟨hx, hb, hml, hown, hts⟩ (m_X5_isBid l p0) (va_cwS 1 hts gX5_tell_X5_isBid rfl rfl rfl (by decide +kernel) ⟨Nat.le_of_ble_eq_true rfl, Nat.le_of_ble_eq_true rfl⟩) z0_S rfl rfl hl.1 rfl (lv_room (Nat.le_of_ble_eq_true rfl)) dX5_tell_1 ⟨Nat.le_of_ble_eq_true rfl, Nat.le_of_ble_eq_true rfl⟩) (fun r_1 e_r_1 => ?_)
  have e_r_1 : r_1 = nI 0 := e_r_1.trans (h0)
  replace e_r_1 := e_r_1.symm; subst e_r_1
  refine lv_if_eq (tgt := 21) hx hb dX5_tell_4 (by decide) (fun _ => ?_) (fun h9 => absurd (by decide) h9)
  exact zthrow (E := "java/lang/IllegalArgumentException") (text := "a price is out of range") hnt hx hb hown (by decide +kernel) k_0 k_1 hG (by decide +kernel) (fun w h => hts w (List.mem_cons_of_mem _ (List.mem_append_left _ (List.mem_append_right _ h)))) zB_34 (by decide +kernel) zG_34 hH (hl.1.trans hml.symm) dX5_tell_21 dX5_tell_24 dX5_tell_25 dX5_tell_27 dX5_tell_30 hno (Nat.le_of_ble_eq_true rfl) (Nat.le_of_ble_eq_true rfl) (Nat.le_of_ble_eq_true rfl) (Nat.le_of_ble_eq_true rfl) hlocks (Nat.le_of_ble_eq_true rfl) (Nat.le_of_ble_eq_true rfl)

set_option maxHeartbeats 4000000 in
set_option maxRecDepth 100000 in
/-- tell: b1 -/
theorem m_X5_tell_b1 (l : Launch) (hnt : l.stackTraces = false) (D : va_G) (x : Nat) (p0 p1 p2 : Int32) (em : Nat) (h0 : k_isBid p0 = nI 1) (h1 : k_isBid p1 = nI 0) : vx_Met l yX5_tell wsX5_tell ({ frames := 6, cells := 1, slots := 6, locals := 92 }) (zt D [] [] em [.ref x, .int p0, .int p1, .int p2]) Qf (XE "java/lang/IllegalArgumentException") 1 6 NA := by
  refine zmt (cc := cX5_tell) (maxL := 4) (ret := (some .int)) (by decide) rfl (Nat.le_of_ble_eq_true rfl) ?_
  intro p e s m below meth c ls hno hx hb hml hr hlocks hown hts hP hK hG hH hl
  have hl : lv_has ls 4 [(0, .ref x), (1, .int p0), (2, .int p1), (3, .int p2)] := hl
  have k_0 := hts (.classLink RX5 30 "java/lang/IllegalArgumentException") (List.mem_of_getElem? (i := 1) rfl)
  have k_1 := hts (.initialized "java/lang/IllegalArgumentException") (List.mem_of_getElem? (i := 2) rfl)
  refine lv_iload_n hx hb dX5_tell_0 rfl (lv_at hl 1 rfl) ?_
  refine vp_callSi (W.runS (As := [.int p0]) (rest := []) ⟨hx, hb, hml, hown, hts⟩ (m_X5_isBid l p0) (va_cwS 1 hts gX5_tell_X5_isBid rfl rfl rfl (by decide +kernel) ⟨Nat.le_of_ble_eq_true rfl, Nat.le_of_ble_eq_true rfl⟩) z0_S rfl rfl hl.1 rfl (lv_room (Nat.le_of_ble_eq_true rfl)) dX5_tell_1 ⟨Nat.le_of_ble_eq_true rfl, Nat.le_of_ble_eq_true rfl⟩) (fun r_1 e_r_1 => ?_)
  have e_r_1 : r_1 = nI 1 := e_r_1.trans (h0)
  replace e_r_1 := e_r_1.symm; subst e_r_1
  refine lv_if_eq (tgt := 21) hx hb dX5_tell_4 (by decide) (fun h9 => absurd h9 (by decide)) (fun _ => ?_)
  refine lv_iload_n hx hb dX5_tell_7 rfl (lv_at hl 2 rfl) ?_
  refine vp_callSi (W.runS (As := [.int p1]) (rest := []) ⟨hx, hb, hml, hown, hts⟩ (m_X5_isBid l p1) (va_cwS 1 hts gX5_tell_X5_isBid rfl rfl rfl (by decide +kernel) ⟨Nat.le_of_ble_eq_true rfl, Nat.le_of_ble_eq_true rfl⟩) z0_S rfl rfl hl.1 rfl (lv_room (Nat.le_of_ble_eq_true rfl)) dX5_tell_8 ⟨Nat.le_of_ble_eq_true rfl, Nat.le_of_ble_eq_true rfl⟩) (fun r_2 e_r_2 => ?_)
  have e_r_2 : r_2 = nI 0 := e_r_2.trans (h1)
  replace e_r_2 := e_r_2.symm; subst e_r_2
  refine lv_if_eq (tgt := 21) hx hb dX5_tell_11 (by decide) (fun _ => ?_) (fun h9 => absurd (by decide) h9)
  exact zthrow (E := "java/lang/IllegalArgumentException") (text := "a price is out of range") hnt hx hb hown (by decide +kernel) k_0 k_1 hG (by decide +kernel) (fun w h => hts w (List.mem_cons_of_mem _ (List.mem_append_left _ (List.mem_append_right _ h)))) zB_34 (by decide +kernel) zG_34 hH (hl.1.trans hml.symm) dX5_tell_21 dX5_tell_24 dX5_tell_25 dX5_tell_27 dX5_tell_30 hno (Nat.le_of_ble_eq_true rfl) (Nat.le_of_ble_eq_true rfl) (Nat.le_of_ble_eq_true rfl) (Nat.le_of_ble_eq_true rfl) hlocks (Nat.le_of_ble_eq_true rfl) (Nat.le_of_ble_eq_true rfl)

set_option maxHeartbeats 4000000 in
set_option maxRecDepth 100000 in
/-- tell: b2 -/
theorem m_X5_tell_b2 (l : Launch) (hnt : l.stackTraces = false) (D : va_G) (x : Nat) (p0 p1 p2 : Int32) (em : Nat) (h0 : k_isBid p0 = nI 1) (h1 : k_isBid p1 = nI 1) (h2 : k_isBid p2 = nI 0) : vx_Met l yX5_tell wsX5_tell ({ frames := 6, cells := 1, slots := 6, locals := 92 }) (zt D [] [] em [.ref x, .int p0, .int p1, .int p2]) Qf (XE "java/lang/IllegalArgumentException") 1 6 NA := by
  refine zmt (cc := cX5_tell) (maxL := 4) (ret := (some .int)) (by decide) rfl (Nat.le_of_ble_eq_true rfl) ?_
  intro p e s m below meth c ls hno hx hb hml hr hlocks hown hts hP hK hG hH hl
  have hl : lv_has ls 4 [(0, .ref x), (1, .int p0), (2, .int p1), (3, .int p2)] := hl
  have k_0 := hts (.classLink RX5 30 "java/lang/IllegalArgumentException") (List.mem_of_getElem? (i := 1) rfl)
  have k_1 := hts (.initialized "java/lang/IllegalArgumentException") (List.mem_of_getElem? (i := 2) rfl)
  refine lv_iload_n hx hb dX5_tell_0 rfl (lv_at hl 1 rfl) ?_
  refine vp_callSi (W.runS (As := [.int p0]) (rest := []) ⟨hx, hb, hml, hown, hts⟩ (m_X5_isBid l p0) (va_cwS 1 hts gX5_tell_X5_isBid rfl rfl rfl (by decide +kernel) ⟨Nat.le_of_ble_eq_true rfl, Nat.le_of_ble_eq_true rfl⟩) z0_S rfl rfl hl.1 rfl (lv_room (Nat.le_of_ble_eq_true rfl)) dX5_tell_1 ⟨Nat.le_of_ble_eq_true rfl, Nat.le_of_ble_eq_true rfl⟩) (fun r_1 e_r_1 => ?_)
  have e_r_1 : r_1 = nI 1 := e_r_1.trans (h0)
  replace e_r_1 := e_r_1.symm; subst e_r_1
  refine lv_if_eq (tgt := 21) hx hb dX5_tell_4 (by decide) (fun h9 => absurd h9 (by decide)) (fun _ => ?_)
  refine lv_iload_n hx hb dX5_tell_7 rfl (lv_at hl 2 rfl) ?_
  refine vp_callSi (W.runS (As := [.int p1]) (rest := []) ⟨hx, hb, hml, hown, hts⟩ (m_X5_isBid l p1) (va_cwS 1 hts gX5_tell_X5_isBid rfl rfl rfl (by decide +kernel) ⟨Nat.le_of_ble_eq_true rfl, Nat.le_of_ble_eq_true rfl⟩) z0_S rfl rfl hl.1 rfl (lv_room (Nat.le_of_ble_eq_true rfl)) dX5_tell_8 ⟨Nat.le_of_ble_eq_true rfl, Nat.le_of_ble_eq_true rfl⟩) (fun r_2 e_r_2 => ?_)
  have e_r_2 : r_2 = nI 1 := e_r_2.trans (h1)
  replace e_r_2 := e_r_2.symm; subst e_r_2
  refine lv_if_eq (tgt := 21) hx hb dX5_tell_11 (by decide) (fun h9 => absurd h9 (by decide)) (fun _ => ?_)
  refine lv_iload_n hx hb dX5_tell_14 rfl (lv_at hl 3 rfl) ?_
  refine vp_callSi (W.runS (As := [.int p2]) (rest := []) ⟨hx, hb, hml, hown, hts⟩ (m_X5_isBid l p2) (va_cwS 1 hts gX5_tell_X5_isBid rfl rfl rfl (by decide +kernel) ⟨Nat.le_of_ble_eq_true rfl, Nat.le_of_ble_eq_true rfl⟩) z0_S rfl rfl hl.1 rfl (lv_room (Nat.le_of_ble_eq_true rfl)) dX5_tell_15 ⟨Nat.le_of_ble_eq_true rfl, Nat.le_of_ble_eq_true rfl⟩) (fun r_3 e_r_3 => ?_)
  have e_r_3 : r_3 = nI 0 := e_r_3.trans (h2)
  replace e_r_3 := e_r_3.symm; subst e_r_3
  refine lv_if_ne (tgt := 31) hx hb dX5_tell_18 (by decide) (fun h9 => absurd (by decide) h9) (fun _ => ?_)
  exact zthrow (E := "java/lang/IllegalArgumentException") (text := "a price is out of range") hnt hx hb hown (by decide +kernel) k_0 k_1 hG (by decide +kernel) (fun w h => hts w (List.mem_cons_of_mem _ (List.mem_append_left _ (List.mem_append_right _ h)))) zB_34 (by decide +kernel) zG_34 hH (hl.1.trans hml.symm) dX5_tell_21 dX5_tell_24 dX5_tell_25 dX5_tell_27 dX5_tell_30 hno (Nat.le_of_ble_eq_true rfl) (Nat.le_of_ble_eq_true rfl) (Nat.le_of_ble_eq_true rfl) (Nat.le_of_ble_eq_true rfl) hlocks (Nat.le_of_ble_eq_true rfl) (Nat.le_of_ble_eq_true rfl)

set_option maxHeartbeats 4000000 in
set_option maxRecDepth 100000 in
/-- tell: full -/
theorem m_X5_tell_full (l : Launch) (hnt : l.stackTraces = false) (D : va_G) (x pr mk os : Nat) (ch gd : Int64) (bd : Nat) (t : Nat) (p0 p1 p2 : Int32) (em : Nat) (h0 : k_isBid p0 = nI 1) (h1 : k_isBid p1 = nI 1) (h2 : k_isBid p2 = nI 1) (ht : t = 2000) : vx_Met l yX5_tell wsX5_tell ({ frames := 6, cells := 1, slots := 6, locals := 92 }) (zt D [(x, .inr (5, [.ref pr, .ref mk, .ref os, .long ch, .long gd])), (pr, .inr (3, [.ref bd, .int (nI t)]))] [] em [.ref x, .int p0, .int p1, .int p2]) Qf (XE "java/lang/IllegalStateException") 1 6 NA := by
  refine zmt (cc := cX5_tell) (maxL := 4) (ret := (some .int)) (by decide) rfl (Nat.le_of_ble_eq_true rfl) ?_
  intro p e s m below meth c ls hno hx hb hml hr hlocks hown hts hP hK hG hH hl
  have hl : lv_has ls 4 [(0, .ref x), (1, .int p0), (2, .int p1), (3, .int p2)] := hl
  have k_0 := hts (.fieldLink RX5 10 "UnitContracts" "prices" "LUnitContracts$Prices;") (List.mem_of_getElem? (i := 5) rfl)
  have i_RX5 : ∀ w ∈ u_ws RX5 TX5 5, w ∈ wsX5_tell := by decide +kernel
  have k_2 := hts (.classLink RX5 41 "java/lang/IllegalStateException") (List.mem_of_getElem? (i := 3) rfl)
  have k_3 := hts (.initialized "java/lang/IllegalStateException") (List.mem_of_getElem? (i := 4) rfl)
  refine lv_iload_n hx hb dX5_tell_0 rfl (lv_at hl 1 rfl) ?_
  refine vp_callSi (W.runS (As := [.int p0]) (rest := []) ⟨hx, hb, hml, hown, hts⟩ (m_X5_isBid l p0) (va_cwS 1 hts gX5_tell_X5_isBid rfl rfl rfl (by decide +kernel) ⟨Nat.le_of_ble_eq_true rfl, Nat.le_of_ble_eq_true rfl⟩) z0_S rfl rfl hl.1 rfl (lv_room (Nat.le_of_ble_eq_true rfl)) dX5_tell_1 ⟨Nat.le_of_ble_eq_true rfl, Nat.le_of_ble_eq_true rfl⟩) (fun r_1 e_r_1 => ?_)
  have e_r_1 : r_1 = nI 1 := e_r_1.trans (h0)
  replace e_r_1 := e_r_1.symm; subst e_r_1
  refine lv_if_eq (tgt := 21) hx hb dX5_tell_4 (by decide) (fun h9 => absurd h9 (by decide)) (fun _ => ?_)
  refine lv_iload_n hx hb dX5_tell_7 rfl (lv_at hl 2 rfl) ?_
  refine vp_callSi (W.runS (As := [.int p1]) (rest := []) ⟨hx, hb, hml, hown, hts⟩ (m_X5_isBid l p1) (va_cwS 1 hts gX5_tell_X5_isBid rfl rfl rfl (by decide +kernel) ⟨Nat.le_of_ble_eq_true rfl, Nat.le_of_ble_eq_true rfl⟩) z0_S rfl rfl hl.1 rfl (lv_room (Nat.le_of_ble_eq_true rfl)) dX5_tell_8 ⟨Nat.le_of_ble_eq_true rfl, Nat.le_of_ble_eq_true rfl⟩) (fun r_2 e_r_2 => ?_)
  have e_r_2 : r_2 = nI 1 := e_r_2.trans (h1)
  replace e_r_2 := e_r_2.symm; subst e_r_2
  refine lv_if_eq (tgt := 21) hx hb dX5_tell_11 (by decide) (fun h9 => absurd h9 (by decide)) (fun _ => ?_)
  refine lv_iload_n hx hb dX5_tell_14 rfl (lv_at hl 3 rfl) ?_
  refine vp_callSi (W.runS (As := [.int p2]) (rest := []) ⟨hx, hb, hml, hown, hts⟩ (m_X5_isBid l p2) (va_cwS 1 hts gX5_tell_X5_isBid rfl rfl rfl (by decide +kernel) ⟨Nat.le_of_ble_eq_true rfl, Nat.le_of_ble_eq_true rfl⟩) z0_S rfl rfl hl.1 rfl (lv_room (Nat.le_of_ble_eq_true rfl)) dX5_tell_15 ⟨Nat.le_of_ble_eq_true rfl, Nat.le_of_ble_eq_true rfl⟩) (fun r_3 e_r_3 => ?_)
  have e_r_3 : r_3 = nI 1 := e_r_3.trans (h2)
  replace e_r_3 := e_r_3.symm; subst e_r_3
  refine lv_if_ne (tgt := 31) hx hb dX5_tell_18 (by decide) (fun _ => ?_) (fun h9 => absurd h9 (by decide))
  refine lv_aload_n hx hb dX5_tell_31 rfl (lv_at hl 0 rfl) ?_
  refine va_get (D := D) (ci := 5) (v := .ref pr) (C := RX5) (T := TX5) (N := 5) hx hb hts i_RX5 hown hK hP 0 rfl rfl 0 (by decide) k_0 (fun _ h9 => h9) rfl dX5_tell_32 ?_
  refine vp_callSi (W.runV (As := []) (rest := []) ⟨hx, hb, hml, hown, hts⟩ (m_X3_latestDay l D pr bd t) (cwV 0 hts gX5_tell_X3_latestDay rfl rfl rfl (by decide +kernel) ⟨Nat.le_of_ble_eq_true rfl, Nat.le_of_ble_eq_true rfl⟩) (z1_V (va_recv hK hP (ci := 3) (q0 := 1) rfl rfl) (hP.sub (ws' := [(pr, .inr (3, [.ref bd, .int (nI t)]))]) [1] rfl) (hK.sub (tys' := []) [] rfl) hG) rfl rfl hl.1 rfl (lv_room (Nat.le_of_ble_eq_true rfl)) dX5_tell_35 ⟨Nat.le_of_ble_eq_true rfl, Nat.le_of_ble_eq_true rfl⟩) (fun r_4 e_r_4 => ?_)
  replace e_r_4 := e_r_4.symm; subst e_r_4
  refine lv_sipush (v := nI 2000) hx hb dX5_tell_38 (by decide) ?_
  refine lv_icmp_lt (tgt := 54) hx hb dX5_tell_41 (by decide) (fun h9 => absurd h9 (fun h8 => absurd ((nI_ltI (a := t) (b := 2000) (by omega) (by omega)).mp h8) (by omega))) (fun _ => ?_)
  exact zthrow (E := "java/lang/IllegalStateException") (text := "no day is left") hnt hx hb hown (by decide +kernel) k_2 k_3 hG (by decide +kernel) (fun w h => hts w (List.mem_cons_of_mem _ (List.mem_append_right _ h))) zB_45 (by decide +kernel) zG_45 hH (hl.1.trans hml.symm) dX5_tell_44 dX5_tell_47 dX5_tell_48 dX5_tell_50 dX5_tell_53 hno (Nat.le_of_ble_eq_true rfl) (Nat.le_of_ble_eq_true rfl) (Nat.le_of_ble_eq_true rfl) (Nat.le_of_ble_eq_true rfl) hlocks (Nat.le_of_ble_eq_true rfl) (Nat.le_of_ble_eq_true rfl)

set_option maxHeartbeats 4000000 in
set_option maxRecDepth 100000 in
/-- pass: b -/
theorem m_X5_pass_b (l : Launch) (hnt : l.stackTraces = false) (D : va_G) (x : Nat) (z : Int32) (em : Nat) (h0 : k_isIn z (nI 1) (nI 400) = nI 0) : vx_Met l yX5_pass wsX5_pass ({ frames := 6, cells := 1, slots := 6, locals := 92 }) (zt D [] [] em [.ref x, .int z]) Qf (XE "java/lang/IllegalArgumentException") 1 6 NA := by
  refine zmt (cc := cX5_pass) (maxL := 4) (ret := (some .int)) (by decide) rfl (Nat.le_of_ble_eq_true rfl) ?_
  intro p e s m below meth c ls hno hx hb hml hr hlocks hown hts hP hK hG hH hl
  have hl : lv_has ls 4 [(0, .ref x), (1, .int z)] := hl
  have k_0 := hts (.classLink RX5 30 "java/lang/IllegalArgumentException") (List.mem_of_getElem? (i := 1) rfl)
  have k_1 := hts (.initialized "java/lang/IllegalArgumentException") (List.mem_of_getElem? (i := 2) rfl)
  refine lv_iload_n hx hb dX5_pass_0 rfl (lv_at hl 1 rfl) ?_
  refine lv_iconst (v := nI 1) hx hb dX5_pass_1 (by decide) ?_
  refine lv_icmp_lt (tgt := 12) hx hb dX5_pass_2 (by decide) (fun c_2 => ?_) (fun c_2 => ?_)
  · skip
    exact zthrow (E := "java/lang/IllegalArgumentException") (text := "days is out of range") hnt hx hb hown (by decide +kernel) k_0 k_1 hG (by decide +kernel) (fun w h => hts w (List.mem_cons_of_mem _ (List.mem_append_left _ (List.mem_append_right _ h)))) zB_34 (by decide +kernel) zG_34 hH (hl.1.trans hml.symm) dX5_pass_12 dX5_pass_15 dX5_pass_16 dX5_pass_18 dX5_pass_21 hno (Nat.le_of_ble_eq_true rfl) (Nat.le_of_ble_eq_true rfl) (Nat.le_of_ble_eq_true rfl) (Nat.le_of_ble_eq_true rfl) hlocks (Nat.le_of_ble_eq_true rfl) (Nat.le_of_ble_eq_true rfl)
  · skip
    refine lv_iload_n hx hb dX5_pass_5 rfl (lv_at hl 1 rfl) ?_
    refine lv_sipush (v := nI 400) hx hb dX5_pass_6 (by decide) ?_
    refine lv_icmp_le (tgt := 22) hx hb dX5_pass_9 (by decide) (fun h9 => absurd h9 (Int32.not_le.mpr (k_isIn_hi h0 c_2))) (fun _ => ?_)
    exact zthrow (E := "java/lang/IllegalArgumentException") (text := "days is out of range") hnt hx hb hown (by decide +kernel) k_0 k_1 hG (by decide +kernel) (fun w h => hts w (List.mem_cons_of_mem _ (List.mem_append_left _ (List.mem_append_right _ h)))) zB_34 (by decide +kernel) zG_34 hH (hl.1.trans hml.symm) dX5_pass_12 dX5_pass_15 dX5_pass_16 dX5_pass_18 dX5_pass_21 hno (Nat.le_of_ble_eq_true rfl) (Nat.le_of_ble_eq_true rfl) (Nat.le_of_ble_eq_true rfl) (Nat.le_of_ble_eq_true rfl) hlocks (Nat.le_of_ble_eq_true rfl) (Nat.le_of_ble_eq_true rfl)

set_option maxHeartbeats 4000000 in
set_option maxRecDepth 100000 in
/-- pass: full -/
theorem m_X5_pass_full (l : Launch) (hnt : l.stackTraces = false) (D : va_G) (x pr mk os : Nat) (ch gd : Int64) (bd : Nat) (t : Nat) (dd : Nat) (em : Nat) (hd1 : 1 ≤ dd) (hd2 : dd ≤ 400) (ht : t + dd > 2000) (ht2 : t ≤ 2000) : vx_Met l yX5_pass wsX5_pass ({ frames := 6, cells := 1, slots := 6, locals := 92 }) (zt D [(x, .inr (5, [.ref pr, .ref mk, .ref os, .long ch, .long gd])), (pr, .inr (3, [.ref bd, .int (nI t)]))] [] em [.ref x, .int (nI dd)]) Qf (XE "java/lang/IllegalStateException") 1 6 NA := by
  refine zmt (cc := cX5_pass) (maxL := 4) (ret := (some .int)) (by decide) rfl (Nat.le_of_ble_eq_true rfl) ?_
  intro p e s m below meth c ls hno hx hb hml hr hlocks hown hts hP hK hG hH hl
  have hl : lv_has ls 4 [(0, .ref x), (1, .int (nI dd))] := hl
  have k_0 := hts (.fieldLink RX5 10 "UnitContracts" "prices" "LUnitContracts$Prices;") (List.mem_of_getElem? (i := 5) rfl)
  have i_RX5 : ∀ w ∈ u_ws RX5 TX5 5, w ∈ wsX5_pass := by decide +kernel
  have k_2 := hts (.classLink RX5 41 "java/lang/IllegalStateException") (List.mem_of_getElem? (i := 3) rfl)
  have k_3 := hts (.initialized "java/lang/IllegalStateException") (List.mem_of_getElem? (i := 4) rfl)
  refine lv_iload_n hx hb dX5_pass_0 rfl (lv_at hl 1 rfl) ?_
  refine lv_iconst (v := nI 1) hx hb dX5_pass_1 (by decide) ?_
  refine lv_icmp_lt (tgt := 12) hx hb dX5_pass_2 (by decide) (fun h9 => absurd h9 (fun h8 => absurd ((nI_ltI (a := dd) (b := 1) (by omega) (by omega)).mp h8) (by omega))) (fun _ => ?_)
  refine lv_iload_n hx hb dX5_pass_5 rfl (lv_at hl 1 rfl) ?_
  refine lv_sipush (v := nI 400) hx hb dX5_pass_6 (by decide) ?_
  refine lv_icmp_le (tgt := 22) hx hb dX5_pass_9 (by decide) (fun _ => ?_) (fun h9 => absurd ((nI_leI (a := dd) (b := 400) (by omega) (by omega)).mpr (by omega)) h9)
  refine lv_aload_n hx hb dX5_pass_22 rfl (lv_at hl 0 rfl) ?_
  refine va_get (D := D) (ci := 5) (v := .ref pr) (C := RX5) (T := TX5) (N := 5) hx hb hts i_RX5 hown hK hP 0 rfl rfl 0 (by decide) k_0 (fun _ h9 => h9) rfl dX5_pass_23 ?_
  refine vp_callSi (W.runV (As := []) (rest := []) ⟨hx, hb, hml, hown, hts⟩ (m_X3_latestDay l D pr bd t) (cwV 0 hts gX5_pass_X3_latestDay rfl rfl rfl (by decide +kernel) ⟨Nat.le_of_ble_eq_true rfl, Nat.le_of_ble_eq_true rfl⟩) (z1_V (va_recv hK hP (ci := 3) (q0 := 1) rfl rfl) (hP.sub (ws' := [(pr, .inr (3, [.ref bd, .int (nI t)]))]) [1] rfl) (hK.sub (tys' := []) [] rfl) hG) rfl rfl hl.1 rfl (lv_room (Nat.le_of_ble_eq_true rfl)) dX5_pass_26 ⟨Nat.le_of_ble_eq_true rfl, Nat.le_of_ble_eq_true rfl⟩) (fun r_1 e_r_1 => ?_)
  replace e_r_1 := e_r_1.symm; subst e_r_1
  refine lv_iload_n hx hb dX5_pass_29 rfl (lv_at hl 1 rfl) ?_
  refine zx_iadd (v := nI (t + dd)) hx hb dX5_pass_30 (nI_add _ _) ?_
  refine lv_sipush (v := nI 2000) hx hb dX5_pass_31 (by decide) ?_
  refine lv_icmp_le (tgt := 47) hx hb dX5_pass_34 (by decide) (fun h9 => absurd h9 (fun h8 => absurd ((nI_leI (a := t + dd) (b := 2000) (by omega) (by omega)).mp h8) (by omega))) (fun _ => ?_)
  exact zthrow (E := "java/lang/IllegalStateException") (text := "so many days are not left") hnt hx hb hown (by decide +kernel) k_2 k_3 hG (by decide +kernel) (fun w h => hts w (List.mem_cons_of_mem _ (List.mem_append_right _ h))) zB_45 (by decide +kernel) zG_45 hH (hl.1.trans hml.symm) dX5_pass_37 dX5_pass_40 dX5_pass_41 dX5_pass_43 dX5_pass_46 hno (Nat.le_of_ble_eq_true rfl) (Nat.le_of_ble_eq_true rfl) (Nat.le_of_ble_eq_true rfl) (Nat.le_of_ble_eq_true rfl) hlocks (Nat.le_of_ble_eq_true rfl) (Nat.le_of_ble_eq_true rfl)

set_option maxHeartbeats 4000000 in
set_option maxRecDepth 100000 in
/-- today: ok -/
theorem m_X5_today_ok (l : Launch) (D : va_G) (x pr mk os : Nat) (ch gd : Int64) (bd : Nat) (t : Nat)  : Met l yX5_today wsX5_today ({ frames := 1, cells := 0, slots := 0, locals := 20 }) (z1 D [(x, .inr (5, [.ref pr, .ref mk, .ref os, .long ch, .long gd])), (pr, .inr (3, [.ref bd, .int (nI t)]))] [] [.ref x]) (vp_Si (fun r => r = nI t)) 0 0 (fun _ => False) := by
  refine zm1 (cc := cX5_today) (maxL := 1) (ret := (some .int)) (by decide) rfl (Nat.le_of_ble_eq_true rfl) ?_
  intro p e s m below meth c ls hx hb hml hr hlocks hown hts hP hK hG hl
  have hl : lv_has ls 1 [(0, .ref x)] := hl
  have k_0 := hts (.fieldLink RX5 10 "UnitContracts" "prices" "LUnitContracts$Prices;") (List.mem_of_getElem? (i := 1) rfl)
  have i_RX5 : ∀ w ∈ u_ws RX5 TX5 5, w ∈ wsX5_today := by decide +kernel
  refine lv_aload_n hx hb dX5_today_0 rfl (lv_at hl 0 rfl) ?_
  refine va_get (D := D) (ci := 5) (v := .ref pr) (C := RX5) (T := TX5) (N := 5) hx hb hts i_RX5 hown hK hP 0 rfl rfl 0 (by decide) k_0 (fun _ h9 => h9) rfl dX5_today_1 ?_
  refine vp_callSi (W.runV (As := []) (rest := []) ⟨hx, hb, hml, hown, hts⟩ (m_X3_latestDay l D pr bd t) (cwV 0 hts gX5_today_X3_latestDay rfl rfl rfl (by decide +kernel) ⟨Nat.le_of_ble_eq_true rfl, Nat.le_of_ble_eq_true rfl⟩) (z1_V (va_recv hK hP (ci := 3) (q0 := 1) rfl rfl) (hP.sub (ws' := [(pr, .inr (3, [.ref bd, .int (nI t)]))]) [1] rfl) (hK.sub (tys' := []) [] rfl) hG) rfl rfl hl.1 rfl (lv_room (Nat.le_of_ble_eq_true rfl)) dX5_today_4 ⟨Nat.le_of_ble_eq_true rfl, Nat.le_of_ble_eq_true rfl⟩) (fun r_1 e_r_1 => ?_)
  replace e_r_1 := e_r_1.symm; subst e_r_1
  exact zreti1 hx hb hr hlocks dX5_today_7 (by first | rfl | (subst_vars; rfl))

set_option maxHeartbeats 4000000 in
set_option maxRecDepth 100000 in
/-- contracts: ok -/
theorem m_X5_contracts_ok (l : Launch) (D : va_G) (x pr mk os : Nat) (ch gd : Int64) (mm : Int32) (em1 n : Nat)  : Met l yX5_contracts wsX5_contracts ({ frames := 1, cells := 0, slots := 0, locals := 20 }) (z1 D [(x, .inr (5, [.ref pr, .ref mk, .ref os, .long ch, .long gd])), (mk, .inr (0, [.int mm, .ref em1, .int (nI n)]))] [] [.ref x]) (vp_Si (fun r => r = nI n)) 0 0 (fun _ => False) := by
  refine zm1 (cc := cX5_contracts) (maxL := 1) (ret := (some .int)) (by decide) rfl (Nat.le_of_ble_eq_true rfl) ?_
  intro p e s m below meth c ls hx hb hml hr hlocks hown hts hP hK hG hl
  have hl : lv_has ls 1 [(0, .ref x)] := hl
  have k_0 := hts (.fieldLink RX5 19 "UnitContracts" "made" "Ljava/util/ArrayList;") (List.mem_of_getElem? (i := 1) rfl)
  have i_RX5 : ∀ w ∈ u_ws RX5 TX5 5, w ∈ wsX5_contracts := by decide +kernel
  refine lv_aload_n hx hb dX5_contracts_0 rfl (lv_at hl 0 rfl) ?_
  refine va_get (D := D) (ci := 5) (v := .ref mk) (C := RX5) (T := TX5) (N := 5) hx hb hts i_RX5 hown hK hP 0 rfl rfl 1 (by decide) k_0 (fun _ h9 => h9) rfl dX5_contracts_1 ?_
  refine vp_callSi (W.runV (As := []) (rest := []) ⟨hx, hb, hml, hown, hts⟩ (m_Jx4a65c_size_8abf5 l D mk mm em1 n) (cwV 0 hts gX5_contracts_Jx4a65c_size_8abf5 rfl rfl rfl (by decide +kernel) ⟨Nat.le_of_ble_eq_true rfl, Nat.le_of_ble_eq_true rfl⟩) (z1_V (va_recv hK hP (ci := 0) (q0 := 1) rfl rfl) (hP.sub (ws' := [(mk, .inr (0, [.int mm, .ref em1, .int (nI n)]))]) [1] rfl) (hK.sub (tys' := []) [] rfl) hG) rfl rfl hl.1 rfl (lv_room (Nat.le_of_ble_eq_true rfl)) dX5_contracts_4 ⟨Nat.le_of_ble_eq_true rfl, Nat.le_of_ble_eq_true rfl⟩) (fun r_1 e_r_1 => ?_)
  replace e_r_1 := e_r_1.symm; subst e_r_1
  exact zreti1 hx hb hr hlocks dX5_contracts_7 (by first | rfl | (subst_vars; rfl))

set_option maxHeartbeats 4000000 in
set_option maxRecDepth 100000 in
/-- waiting: ok -/
theorem m_X5_waiting_ok (l : Launch) (D : va_G) (x pr mk os : Nat) (ch gd : Int64) (om : Int32) (em2 k : Nat)  : Met l yX5_waiting wsX5_waiting ({ frames := 1, cells := 0, slots := 0, locals := 20 }) (z1 D [(x, .inr (5, [.ref pr, .ref mk, .ref os, .long ch, .long gd])), (os, .inr (0, [.int om, .ref em2, .int (nI k)]))] [] [.ref x]) (vp_Si (fun r => r = nI k)) 0 0 (fun _ => False) := by
  refine zm1 (cc := cX5_waiting) (maxL := 1) (ret := (some .int)) (by decide) rfl (Nat.le_of_ble_eq_true rfl) ?_
  intro p e s m below meth c ls hx hb hml hr hlocks hown hts hP hK hG hl
  have hl : lv_has ls 1 [(0, .ref x)] := hl
  have k_0 := hts (.fieldLink RX5 23 "UnitContracts" "orders" "Ljava/util/ArrayList;") (List.mem_of_getElem? (i := 1) rfl)
  have i_RX5 : ∀ w ∈ u_ws RX5 TX5 5, w ∈ wsX5_waiting := by decide +kernel
  refine lv_aload_n hx hb dX5_waiting_0 rfl (lv_at hl 0 rfl) ?_
  refine va_get (D := D) (ci := 5) (v := .ref os) (C := RX5) (T := TX5) (N := 5) hx hb hts i_RX5 hown hK hP 0 rfl rfl 2 (by decide) k_0 (fun _ h9 => h9) rfl dX5_waiting_1 ?_
  refine vp_callSi (W.runV (As := []) (rest := []) ⟨hx, hb, hml, hown, hts⟩ (m_Jx4a65c_size_8abf5 l D os om em2 k) (cwV 0 hts gX5_waiting_Jx4a65c_size_8abf5 rfl rfl rfl (by decide +kernel) ⟨Nat.le_of_ble_eq_true rfl, Nat.le_of_ble_eq_true rfl⟩) (z1_V (va_recv hK hP (ci := 0) (q0 := 1) rfl rfl) (hP.sub (ws' := [(os, .inr (0, [.int om, .ref em2, .int (nI k)]))]) [1] rfl) (hK.sub (tys' := []) [] rfl) hG) rfl rfl hl.1 rfl (lv_room (Nat.le_of_ble_eq_true rfl)) dX5_waiting_4 ⟨Nat.le_of_ble_eq_true rfl, Nat.le_of_ble_eq_true rfl⟩) (fun r_1 e_r_1 => ?_)
  replace e_r_1 := e_r_1.symm; subst e_r_1
  exact zreti1 hx hb hr hlocks dX5_waiting_7 (by first | rfl | (subst_vars; rfl))

set_option maxHeartbeats 4000000 in
set_option maxRecDepth 100000 in
/-- charged: ok -/
theorem m_X5_charged_ok (l : Launch) (D : va_G) (x pr mk os : Nat) (ch gd : Int64)  : Met l yX5_charged wsX5_charged ({ frames := 0, cells := 0, slots := 0, locals := 0 }) (z1 D [(x, .inr (5, [.ref pr, .ref mk, .ref os, .long ch, .long gd]))] [] [.ref x]) (vp_Sl (fun r => r = ch)) 0 0 (fun _ => False) := by
  refine zm1 (cc := cX5_charged) (maxL := 1) (ret := (some .long)) (by decide) rfl (Nat.le_of_ble_eq_true rfl) ?_
  intro p e s m below meth c ls hx hb hml hr hlocks hown hts hP hK hG hl
  have hl : lv_has ls 1 [(0, .ref x)] := hl
  have k_0 := hts (.fieldLink RX5 171 "UnitContracts" "chargedMoney" "J") (List.mem_of_getElem? (i := 1) rfl)
  have i_RX5 : ∀ w ∈ u_ws RX5 TX5 5, w ∈ wsX5_charged := by decide +kernel
  refine lv_aload_n hx hb dX5_charged_0 rfl (lv_at hl 0 rfl) ?_
  refine va_get (D := D) (ci := 5) (v := .long ch) (C := RX5) (T := TX5) (N := 5) hx hb hts i_RX5 hown hK hP 0 rfl rfl 3 (by decide) k_0 (fun _ h9 => h9) rfl dX5_charged_1 ?_
  exact zretl1 hx hb hr hlocks dX5_charged_4 (by first | rfl | (subst_vars; rfl))

set_option maxHeartbeats 4000000 in
set_option maxRecDepth 100000 in
/-- madeGood: ok -/
theorem m_X5_madeGood_ok (l : Launch) (D : va_G) (x pr mk os : Nat) (ch gd : Int64)  : Met l yX5_madeGood wsX5_madeGood ({ frames := 0, cells := 0, slots := 0, locals := 0 }) (z1 D [(x, .inr (5, [.ref pr, .ref mk, .ref os, .long ch, .long gd]))] [] [.ref x]) (vp_Sl (fun r => r = gd)) 0 0 (fun _ => False) := by
  refine zm1 (cc := cX5_madeGood) (maxL := 1) (ret := (some .long)) (by decide) rfl (Nat.le_of_ble_eq_true rfl) ?_
  intro p e s m below meth c ls hx hb hml hr hlocks hown hts hP hK hG hl
  have hl : lv_has ls 1 [(0, .ref x)] := hl
  have k_0 := hts (.fieldLink RX5 136 "UnitContracts" "goodMoney" "J") (List.mem_of_getElem? (i := 1) rfl)
  have i_RX5 : ∀ w ∈ u_ws RX5 TX5 5, w ∈ wsX5_madeGood := by decide +kernel
  refine lv_aload_n hx hb dX5_madeGood_0 rfl (lv_at hl 0 rfl) ?_
  refine va_get (D := D) (ci := 5) (v := .long gd) (C := RX5) (T := TX5) (N := 5) hx hb hts i_RX5 hown hK hP 0 rfl rfl 4 (by decide) k_0 (fun _ h9 => h9) rfl dX5_madeGood_1 ?_
  exact zretl1 hx hb hr hlocks dX5_madeGood_4 (by first | rfl | (subst_vars; rfl))

set_option maxHeartbeats 4000000 in
set_option maxRecDepth 100000 in
/-- offer: ok -/
theorem m_X5_offer_ok (l : Launch) (D : va_G) (x pr mk os : Nat) (ch gd : Int64) (bd : Nat) (t : Nat) (cI : ClassId) (bf : Nat → Int32) (q dd : Nat) (hq : q < 3) (hd : dd ≤ t) (ht : t ≤ 2000) : Met l yX5_offer wsX5_offer ({ frames := 3, cells := 0, slots := 0, locals := 64 }) (z1 D [(x, .inr (5, [.ref pr, .ref mk, .ref os, .long ch, .long gd])), (pr, .inr (3, [.ref bd, .int (nI t)])), (bd, .inl (cI, 6003, .inl bf))] [(cI, .int)] [.ref x, .int (nI q), .int (nI dd)]) (vp_Si (fun r => r = k_off (bf (dd * 3 + q)))) 0 0 (fun _ => False) := by
  refine zm1 (cc := cX5_offer) (maxL := 3) (ret := (some .int)) (by decide) rfl (Nat.le_of_ble_eq_true rfl) ?_
  intro p e s m below meth c ls hx hb hml hr hlocks hown hts hP hK hG hl
  have hl : lv_has ls 3 [(0, .ref x), (1, .int (nI q)), (2, .int (nI dd))] := hl
  have k_0 := hts (.fieldLink RX5 10 "UnitContracts" "prices" "LUnitContracts$Prices;") (List.mem_of_getElem? (i := 1) rfl)
  have i_RX5 : ∀ w ∈ u_ws RX5 TX5 5, w ∈ wsX5_offer := by decide +kernel
  refine lv_iload_n hx hb dX5_offer_0 rfl (lv_at hl 1 rfl) ?_
  refine va_csv (W.runS (As := [.int (nI q)]) (rest := []) ⟨hx, hb, hml, hown, hts⟩ (m_X5_requireFund_ok l q (by first | omega | assumption)) (va_cwS 1 hts gX5_offer_X5_requireFund rfl rfl rfl (by decide +kernel) ⟨Nat.le_of_ble_eq_true rfl, Nat.le_of_ble_eq_true rfl⟩) z0_S rfl rfl hl.1 rfl (lv_room (Nat.le_of_ble_eq_true rfl)) dX5_offer_1 ⟨Nat.le_of_ble_eq_true rfl, Nat.le_of_ble_eq_true rfl⟩) (fun _ => ?_)
  refine lv_aload_n hx hb dX5_offer_4 rfl (lv_at hl 0 rfl) ?_
  refine lv_iload_n hx hb dX5_offer_5 rfl (lv_at hl 2 rfl) ?_
  refine va_csv (W.runV (As := [.int (nI dd)]) (rest := []) ⟨hx, hb, hml, hown, hts⟩ (m_X5_requireDay_ok l D x pr mk os ch gd bd t dd (by first | omega | assumption) (by first | omega | assumption)) (cwV 1 hts gX5_offer_X5_requireDay rfl rfl rfl (by decide +kernel) ⟨Nat.le_of_ble_eq_true rfl, Nat.le_of_ble_eq_true rfl⟩) (z1_V (va_recv hK hP (ci := 5) (q0 := 0) rfl rfl) (hP.sub (ws' := [(x, .inr (5, [.ref pr, .ref mk, .ref os, .long ch, .long gd])), (pr, .inr (3, [.ref bd, .int (nI t)]))]) [0, 1] rfl) (hK.sub (tys' := []) [] rfl) hG) rfl rfl hl.1 rfl (lv_room (Nat.le_of_ble_eq_true rfl)) dX5_offer_6 ⟨Nat.le_of_ble_eq_true rfl, Nat.le_of_ble_eq_true rfl⟩) (fun _ => ?_)
  refine lv_aload_n hx hb dX5_offer_9 rfl (lv_at hl 0 rfl) ?_
  refine va_get (D := D) (ci := 5) (v := .ref pr) (C := RX5) (T := TX5) (N := 5) hx hb hts i_RX5 hown hK hP 0 rfl rfl 0 (by decide) k_0 (fun _ h9 => h9) rfl dX5_offer_10 ?_
  refine lv_iload_n hx hb dX5_offer_13 rfl (lv_at hl 1 rfl) ?_
  refine lv_iload_n hx hb dX5_offer_14 rfl (lv_at hl 2 rfl) ?_
  refine vp_callSi (W.runV (As := [.int (nI q), .int (nI dd)]) (rest := []) ⟨hx, hb, hml, hown, hts⟩ (m_X3_offerOn l D pr bd cI t bf q dd (by first | omega | assumption) (by first | omega | assumption)) (cwV 2 hts gX5_offer_X3_offerOn rfl rfl rfl (by decide +kernel) ⟨Nat.le_of_ble_eq_true rfl, Nat.le_of_ble_eq_true rfl⟩) (z1_V (va_recv hK hP (ci := 3) (q0 := 1) rfl rfl) (hP.sub (ws' := [(pr, .inr (3, [.ref bd, .int (nI t)])), (bd, .inl (cI, 6003, .inl bf))]) [1, 2] rfl) (hK.sub (tys' := [(cI, .int)]) [0] rfl) hG) rfl rfl hl.1 rfl (lv_room (Nat.le_of_ble_eq_true rfl)) dX5_offer_15 ⟨Nat.le_of_ble_eq_true rfl, Nat.le_of_ble_eq_true rfl⟩) (fun r_1 e_r_1 => ?_)
  replace e_r_1 := e_r_1.symm; subst e_r_1
  exact zreti1 hx hb hr hlocks dX5_offer_18 (by first | rfl | (subst_vars; rfl))

set_option maxHeartbeats 4000000 in
set_option maxRecDepth 100000 in
/-- offer: b0 -/
theorem m_X5_offer_b0 (l : Launch) (hnt : l.stackTraces = false) (D : va_G) (x : Nat) (z y : Int32) (em : Nat) (h0 : k_isFund z = nI 0) : vx_Met l yX5_offer wsX5_offer ({ frames := 7, cells := 1, slots := 6, locals := 112 }) (zt D [] [] em [.ref x, .int z, .int y]) Qf (XE "java/lang/IllegalArgumentException") 1 6 NA := by
  refine zmt (cc := cX5_offer) (maxL := 3) (ret := (some .int)) (by decide) rfl (Nat.le_of_ble_eq_true rfl) ?_
  intro p e s m below meth c ls hno hx hb hml hr hlocks hown hts hP hK hG hH hl
  have hl : lv_has ls 3 [(0, .ref x), (1, .int z), (2, .int y)] := hl
  refine lv_iload_n hx hb dX5_offer_0 rfl (lv_at hl 1 rfl) ?_
  exact zthru (vx_runS (As := [.int z]) (rest := []) ⟨hx, hb, hml, hown, hts⟩ (m_X5_requireFund_b l hnt D z em (by first | omega | assumption)) (va_cwS 1 hts gX5_offer_X5_requireFund rfl rfl rfl (by decide +kernel) ⟨Nat.le_of_ble_eq_true rfl, Nat.le_of_ble_eq_true rfl⟩) (zt_S (hP.sub (ws' := []) [] rfl) (hK.sub (tys' := []) [] rfl) hG hH) rfl rfl hl.1 rfl (lv_room (Nat.le_of_ble_eq_true rfl)) dX5_offer_1 ⟨Nat.le_of_ble_eq_true rfl, Nat.le_of_ble_eq_true rfl⟩) hno hlocks (Nat.le_of_ble_eq_true rfl) (Nat.le_of_ble_eq_true rfl)

set_option maxHeartbeats 4000000 in
set_option maxRecDepth 100000 in
/-- offer: b1 -/
theorem m_X5_offer_b1 (l : Launch) (hnt : l.stackTraces = false) (D : va_G) (x pr mk os : Nat) (ch gd : Int64) (bd : Nat) (t : Nat) (q : Nat) (y : Int32) (em : Nat) (hq : q < 3) (h1 : k_isIn y (nI 0) (nI t) = nI 0) : vx_Met l yX5_offer wsX5_offer ({ frames := 7, cells := 1, slots := 6, locals := 113 }) (zt D [(x, .inr (5, [.ref pr, .ref mk, .ref os, .long ch, .long gd])), (pr, .inr (3, [.ref bd, .int (nI t)]))] [] em [.ref x, .int (nI q), .int y]) Qf (XE "java/lang/IllegalArgumentException") 1 6 NA := by
  refine zmt (cc := cX5_offer) (maxL := 3) (ret := (some .int)) (by decide) rfl (Nat.le_of_ble_eq_true rfl) ?_
  intro p e s m below meth c ls hno hx hb hml hr hlocks hown hts hP hK hG hH hl
  have hl : lv_has ls 3 [(0, .ref x), (1, .int (nI q)), (2, .int y)] := hl
  refine lv_iload_n hx hb dX5_offer_0 rfl (lv_at hl 1 rfl) ?_
  refine va_csv (W.runS (As := [.int (nI q)]) (rest := []) ⟨hx, hb, hml, hown, hts⟩ (m_X5_requireFund_ok l q (by first | omega | assumption)) (va_cwS 1 hts gX5_offer_X5_requireFund rfl rfl rfl (by decide +kernel) ⟨Nat.le_of_ble_eq_true rfl, Nat.le_of_ble_eq_true rfl⟩) z0_S rfl rfl hl.1 rfl (lv_room (Nat.le_of_ble_eq_true rfl)) dX5_offer_1 ⟨Nat.le_of_ble_eq_true rfl, Nat.le_of_ble_eq_true rfl⟩) (fun _ => ?_)
  refine lv_aload_n hx hb dX5_offer_4 rfl (lv_at hl 0 rfl) ?_
  refine lv_iload_n hx hb dX5_offer_5 rfl (lv_at hl 2 rfl) ?_
  exact zthru (vx_runV (As := [.int y]) (rest := []) ⟨hx, hb, hml, hown, hts⟩ (m_X5_requireDay_b l hnt D x pr mk os ch gd bd t y em (by first | omega | assumption)) (cwV 1 hts gX5_offer_X5_requireDay rfl rfl rfl (by decide +kernel) ⟨Nat.le_of_ble_eq_true rfl, Nat.le_of_ble_eq_true rfl⟩) (zt_V (va_recv hK hP (ci := 5) (q0 := 0) rfl rfl) (hP.sub (ws' := [(x, .inr (5, [.ref pr, .ref mk, .ref os, .long ch, .long gd])), (pr, .inr (3, [.ref bd, .int (nI t)]))]) [0, 1] rfl) (hK.sub (tys' := []) [] rfl) hG hH) rfl rfl hl.1 rfl (lv_room (Nat.le_of_ble_eq_true rfl)) dX5_offer_6 ⟨Nat.le_of_ble_eq_true rfl, Nat.le_of_ble_eq_true rfl⟩) hno hlocks (Nat.le_of_ble_eq_true rfl) (Nat.le_of_ble_eq_true rfl)

set_option maxHeartbeats 4000000 in
set_option maxRecDepth 100000 in
/-- make: b0 -/
theorem m_X5_make_b0 (l : Launch) (hnt : l.stackTraces = false) (D : va_G) (x : Nat) (pm sm rt z : Int32) (em : Nat) (h0 : k_isIn pm (nI 100) (nI 100000) = nI 0) : vx_Met l yX5_make wsX5_make ({ frames := 6, cells := 1, slots := 6, locals := 92 }) (zt D [] [] em [.ref x, .int pm, .int sm, .int rt, .int z]) Qf (XE "java/lang/IllegalArgumentException") 1 6 NA := by
  refine zmt (cc := cX5_make) (maxL := 5) (ret := (some .int)) (by decide) rfl (Nat.le_of_ble_eq_true rfl) ?_
  intro p e s m below meth c ls hno hx hb hml hr hlocks hown hts hP hK hG hH hl
  have hl : lv_has ls 5 [(0, .ref x), (1, .int pm), (2, .int sm), (3, .int rt), (4, .int z)] := hl
  have k_0 := hts (.classLink RX5 30 "java/lang/IllegalArgumentException") (List.mem_of_getElem? (i := 1) rfl)
  have k_1 := hts (.initialized "java/lang/IllegalArgumentException") (List.mem_of_getElem? (i := 2) rfl)
  have k_2 := hts (.constant RX5 69 (100000)) (List.mem_of_getElem? (i := 5) rfl)
  refine lv_iload_n hx hb dX5_make_0 rfl (lv_at hl 1 rfl) ?_
  refine lv_bipush (v := nI 100) hx hb dX5_make_1 (by decide) ?_
  refine lv_icmp_lt (tgt := 12) hx hb dX5_make_3 (by decide) (fun c_3 => ?_) (fun c_3 => ?_)
  · skip
    exact zthrow (E := "java/lang/IllegalArgumentException") (text := "premium is out of range") hnt hx hb hown (by decide +kernel) k_0 k_1 hG (by decide +kernel) (fun w h => hts w (List.mem_cons_of_mem _ (List.mem_append_left _ (List.mem_append_right _ h)))) zB_34 (by decide +kernel) zG_34 hH (hl.1.trans hml.symm) dX5_make_12 dX5_make_15 dX5_make_16 dX5_make_18 dX5_make_21 hno (Nat.le_of_ble_eq_true rfl) (Nat.le_of_ble_eq_true rfl) (Nat.le_of_ble_eq_true rfl) (Nat.le_of_ble_eq_true rfl) hlocks (Nat.le_of_ble_eq_true rfl) (Nat.le_of_ble_eq_true rfl)
  · skip
    refine lv_iload_n hx hb dX5_make_6 rfl (lv_at hl 1 rfl) ?_
    refine lv_ldc (v := nI 100000) hx hb hown k_2 dX5_make_7 ?_
    refine lv_icmp_le (tgt := 22) hx hb dX5_make_9 (by decide) (fun h9 => absurd h9 (Int32.not_le.mpr (k_isIn_hi h0 c_3))) (fun _ => ?_)
    exact zthrow (E := "java/lang/IllegalArgumentException") (text := "premium is out of range") hnt hx hb hown (by decide +kernel) k_0 k_1 hG (by decide +kernel) (fun w h => hts w (List.mem_cons_of_mem _ (List.mem_append_left _ (List.mem_append_right _ h)))) zB_34 (by decide +kernel) zG_34 hH (hl.1.trans hml.symm) dX5_make_12 dX5_make_15 dX5_make_16 dX5_make_18 dX5_make_21 hno (Nat.le_of_ble_eq_true rfl) (Nat.le_of_ble_eq_true rfl) (Nat.le_of_ble_eq_true rfl) (Nat.le_of_ble_eq_true rfl) hlocks (Nat.le_of_ble_eq_true rfl) (Nat.le_of_ble_eq_true rfl)

set_option maxHeartbeats 4000000 in
set_option maxRecDepth 100000 in
/-- make: b1 -/
theorem m_X5_make_b1 (l : Launch) (hnt : l.stackTraces = false) (D : va_G) (x : Nat) (pm sm rt z : Int32) (em : Nat) (h0 : k_isIn pm (nI 100) (nI 100000) = nI 1) (h1 : k_isIn sm (nI 0) (nI 1000000) = nI 0) : vx_Met l yX5_make wsX5_make ({ frames := 6, cells := 1, slots := 6, locals := 92 }) (zt D [] [] em [.ref x, .int pm, .int sm, .int rt, .int z]) Qf (XE "java/lang/IllegalArgumentException") 1 6 NA := by
  refine zmt (cc := cX5_make) (maxL := 5) (ret := (some .int)) (by decide) rfl (Nat.le_of_ble_eq_true rfl) ?_
  intro p e s m below meth c ls hno hx hb hml hr hlocks hown hts hP hK hG hH hl
  have hl : lv_has ls 5 [(0, .ref x), (1, .int pm), (2, .int sm), (3, .int rt), (4, .int z)] := hl
  have k_0 := hts (.constant RX5 69 (100000)) (List.mem_of_getElem? (i := 5) rfl)
  have k_1 := hts (.classLink RX5 30 "java/lang/IllegalArgumentException") (List.mem_of_getElem? (i := 1) rfl)
  have k_2 := hts (.initialized "java/lang/IllegalArgumentException") (List.mem_of_getElem? (i := 2) rfl)
  have k_3 := hts (.constant RX5 72 (1000000)) (List.mem_of_getElem? (i := 6) rfl)
  refine lv_iload_n hx hb dX5_make_0 rfl (lv_at hl 1 rfl) ?_
  refine lv_bipush (v := nI 100) hx hb dX5_make_1 (by decide) ?_
  refine lv_icmp_lt (tgt := 12) hx hb dX5_make_3 (by decide) (fun h9 => absurd h9 (k_isIn_1 h0).1) (fun _ => ?_)
  refine lv_iload_n hx hb dX5_make_6 rfl (lv_at hl 1 rfl) ?_
  refine lv_ldc (v := nI 100000) hx hb hown k_0 dX5_make_7 ?_
  refine lv_icmp_le (tgt := 22) hx hb dX5_make_9 (by decide) (fun _ => ?_) (fun h9 => absurd (Int32.not_lt.mp (k_isIn_1 h0).2) h9)
  refine lv_iload_n hx hb dX5_make_22 rfl (lv_at hl 2 rfl) ?_
  refine lv_if_lt (tgt := 32) hx hb dX5_make_23 (by decide) (fun c_23 => ?_) (fun c_23 => ?_)
  · skip
    exact zthrow (E := "java/lang/IllegalArgumentException") (text := "sum is out of range") hnt hx hb hown (by decide +kernel) k_1 k_2 hG (by decide +kernel) (fun w h => hts w (List.mem_cons_of_mem _ (List.mem_append_left _ (List.mem_append_right _ h)))) zB_34 (by decide +kernel) zG_34 hH (hl.1.trans hml.symm) dX5_make_32 dX5_make_35 dX5_make_36 dX5_make_38 dX5_make_41 hno (Nat.le_of_ble_eq_true rfl) (Nat.le_of_ble_eq_true rfl) (Nat.le_of_ble_eq_true rfl) (Nat.le_of_ble_eq_true rfl) hlocks (Nat.le_of_ble_eq_true rfl) (Nat.le_of_ble_eq_true rfl)
  · skip
    refine lv_iload_n hx hb dX5_make_26 rfl (lv_at hl 2 rfl) ?_
    refine lv_ldc (v := nI 1000000) hx hb hown k_3 dX5_make_27 ?_
    refine lv_icmp_le (tgt := 42) hx hb dX5_make_29 (by decide) (fun h9 => absurd h9 (Int32.not_le.mpr (k_isIn_hi h1 c_23))) (fun _ => ?_)
    exact zthrow (E := "java/lang/IllegalArgumentException") (text := "sum is out of range") hnt hx hb hown (by decide +kernel) k_1 k_2 hG (by decide +kernel) (fun w h => hts w (List.mem_cons_of_mem _ (List.mem_append_left _ (List.mem_append_right _ h)))) zB_34 (by decide +kernel) zG_34 hH (hl.1.trans hml.symm) dX5_make_32 dX5_make_35 dX5_make_36 dX5_make_38 dX5_make_41 hno (Nat.le_of_ble_eq_true rfl) (Nat.le_of_ble_eq_true rfl) (Nat.le_of_ble_eq_true rfl) (Nat.le_of_ble_eq_true rfl) hlocks (Nat.le_of_ble_eq_true rfl) (Nat.le_of_ble_eq_true rfl)

set_option maxHeartbeats 4000000 in
set_option maxRecDepth 100000 in
/-- make: b2 -/
theorem m_X5_make_b2 (l : Launch) (hnt : l.stackTraces = false) (D : va_G) (x : Nat) (pm sm rt z : Int32) (em : Nat) (h0 : k_isIn pm (nI 100) (nI 100000) = nI 1) (h1 : k_isIn sm (nI 0) (nI 1000000) = nI 1) (h2 : k_isIn rt (nI 0) (nI 1000) = nI 0) : vx_Met l yX5_make wsX5_make ({ frames := 6, cells := 1, slots := 6, locals := 92 }) (zt D [] [] em [.ref x, .int pm, .int sm, .int rt, .int z]) Qf (XE "java/lang/IllegalArgumentException") 1 6 NA := by
  refine zmt (cc := cX5_make) (maxL := 5) (ret := (some .int)) (by decide) rfl (Nat.le_of_ble_eq_true rfl) ?_
  intro p e s m below meth c ls hno hx hb hml hr hlocks hown hts hP hK hG hH hl
  have hl : lv_has ls 5 [(0, .ref x), (1, .int pm), (2, .int sm), (3, .int rt), (4, .int z)] := hl
  have k_0 := hts (.constant RX5 69 (100000)) (List.mem_of_getElem? (i := 5) rfl)
  have k_1 := hts (.constant RX5 72 (1000000)) (List.mem_of_getElem? (i := 6) rfl)
  have k_2 := hts (.classLink RX5 30 "java/lang/IllegalArgumentException") (List.mem_of_getElem? (i := 1) rfl)
  have k_3 := hts (.initialized "java/lang/IllegalArgumentException") (List.mem_of_getElem? (i := 2) rfl)
  refine lv_iload_n hx hb dX5_make_0 rfl (lv_at hl 1 rfl) ?_
  refine lv_bipush (v := nI 100) hx hb dX5_make_1 (by decide) ?_
  refine lv_icmp_lt (tgt := 12) hx hb dX5_make_3 (by decide) (fun h9 => absurd h9 (k_isIn_1 h0).1) (fun _ => ?_)
  refine lv_iload_n hx hb dX5_make_6 rfl (lv_at hl 1 rfl) ?_
  refine lv_ldc (v := nI 100000) hx hb hown k_0 dX5_make_7 ?_
  refine lv_icmp_le (tgt := 22) hx hb dX5_make_9 (by decide) (fun _ => ?_) (fun h9 => absurd (Int32.not_lt.mp (k_isIn_1 h0).2) h9)
  refine lv_iload_n hx hb dX5_make_22 rfl (lv_at hl 2 rfl) ?_
  refine lv_if_lt (tgt := 32) hx hb dX5_make_23 (by decide) (fun h9 => absurd h9 (k_isIn_1 h1).1) (fun _ => ?_)
  refine lv_iload_n hx hb dX5_make_26 rfl (lv_at hl 2 rfl) ?_
  refine lv_ldc (v := nI 1000000) hx hb hown k_1 dX5_make_27 ?_
  refine lv_icmp_le (tgt := 42) hx hb dX5_make_29 (by decide) (fun _ => ?_) (fun h9 => absurd (Int32.not_lt.mp (k_isIn_1 h1).2) h9)
  refine lv_iload_n hx hb dX5_make_42 rfl (lv_at hl 3 rfl) ?_
  refine lv_if_lt (tgt := 53) hx hb dX5_make_43 (by decide) (fun c_43 => ?_) (fun c_43 => ?_)
  · skip
    exact zthrow (E := "java/lang/IllegalArgumentException") (text := "rate is out of range") hnt hx hb hown (by decide +kernel) k_2 k_3 hG (by decide +kernel) (fun w h => hts w (List.mem_cons_of_mem _ (List.mem_append_left _ (List.mem_append_right _ h)))) zB_34 (by decide +kernel) zG_34 hH (hl.1.trans hml.symm) dX5_make_53 dX5_make_56 dX5_make_57 dX5_make_59 dX5_make_62 hno (Nat.le_of_ble_eq_true rfl) (Nat.le_of_ble_eq_true rfl) (Nat.le_of_ble_eq_true rfl) (Nat.le_of_ble_eq_true rfl) hlocks (Nat.le_of_ble_eq_true rfl) (Nat.le_of_ble_eq_true rfl)
  · skip
    refine lv_iload_n hx hb dX5_make_46 rfl (lv_at hl 3 rfl) ?_
    refine lv_sipush (v := nI 1000) hx hb dX5_make_47 (by decide) ?_
    refine lv_icmp_le (tgt := 63) hx hb dX5_make_50 (by decide) (fun h9 => absurd h9 (Int32.not_le.mpr (k_isIn_hi h2 c_43))) (fun _ => ?_)
    exact zthrow (E := "java/lang/IllegalArgumentException") (text := "rate is out of range") hnt hx hb hown (by decide +kernel) k_2 k_3 hG (by decide +kernel) (fun w h => hts w (List.mem_cons_of_mem _ (List.mem_append_left _ (List.mem_append_right _ h)))) zB_34 (by decide +kernel) zG_34 hH (hl.1.trans hml.symm) dX5_make_53 dX5_make_56 dX5_make_57 dX5_make_59 dX5_make_62 hno (Nat.le_of_ble_eq_true rfl) (Nat.le_of_ble_eq_true rfl) (Nat.le_of_ble_eq_true rfl) (Nat.le_of_ble_eq_true rfl) hlocks (Nat.le_of_ble_eq_true rfl) (Nat.le_of_ble_eq_true rfl)

set_option maxHeartbeats 4000000 in
set_option maxRecDepth 100000 in
/-- make: b3 -/
theorem m_X5_make_b3 (l : Launch) (hnt : l.stackTraces = false) (D : va_G) (x : Nat) (pm sm rt z : Int32) (em : Nat) (h0 : k_isIn pm (nI 100) (nI 100000) = nI 1) (h1 : k_isIn sm (nI 0) (nI 1000000) = nI 1) (h2 : k_isIn rt (nI 0) (nI 1000) = nI 1) (h3 : k_isFund z = nI 0) : vx_Met l yX5_make wsX5_make ({ frames := 7, cells := 1, slots := 6, locals := 112 }) (zt D [] [] em [.ref x, .int pm, .int sm, .int rt, .int z]) Qf (XE "java/lang/IllegalArgumentException") 1 6 NA := by
  refine zmt (cc := cX5_make) (maxL := 5) (ret := (some .int)) (by decide) rfl (Nat.le_of_ble_eq_true rfl) ?_
  intro p e s m below meth c ls hno hx hb hml hr hlocks hown hts hP hK hG hH hl
  have hl : lv_has ls 5 [(0, .ref x), (1, .int pm), (2, .int sm), (3, .int rt), (4, .int z)] := hl
  have k_0 := hts (.constant RX5 69 (100000)) (List.mem_of_getElem? (i := 5) rfl)
  have k_1 := hts (.constant RX5 72 (1000000)) (List.mem_of_getElem? (i := 6) rfl)
  refine lv_iload_n hx hb dX5_make_0 rfl (lv_at hl 1 rfl) ?_
  refine lv_bipush (v := nI 100) hx hb dX5_make_1 (by decide) ?_
  refine lv_icmp_lt (tgt := 12) hx hb dX5_make_3 (by decide) (fun h9 => absurd h9 (k_isIn_1 h0).1) (fun _ => ?_)
  refine lv_iload_n hx hb dX5_make_6 rfl (lv_at hl 1 rfl) ?_
  refine lv_ldc (v := nI 100000) hx hb hown k_0 dX5_make_7 ?_
  refine lv_icmp_le (tgt := 22) hx hb dX5_make_9 (by decide) (fun _ => ?_) (fun h9 => absurd (Int32.not_lt.mp (k_isIn_1 h0).2) h9)
  refine lv_iload_n hx hb dX5_make_22 rfl (lv_at hl 2 rfl) ?_
  refine lv_if_lt (tgt := 32) hx hb dX5_make_23 (by decide) (fun h9 => absurd h9 (k_isIn_1 h1).1) (fun _ => ?_)
  refine lv_iload_n hx hb dX5_make_26 rfl (lv_at hl 2 rfl) ?_
  refine lv_ldc (v := nI 1000000) hx hb hown k_1 dX5_make_27 ?_
  refine lv_icmp_le (tgt := 42) hx hb dX5_make_29 (by decide) (fun _ => ?_) (fun h9 => absurd (Int32.not_lt.mp (k_isIn_1 h1).2) h9)
  refine lv_iload_n hx hb dX5_make_42 rfl (lv_at hl 3 rfl) ?_
  refine lv_if_lt (tgt := 53) hx hb dX5_make_43 (by decide) (fun h9 => absurd h9 (k_isIn_1 h2).1) (fun _ => ?_)
  refine lv_iload_n hx hb dX5_make_46 rfl (lv_at hl 3 rfl) ?_
  refine lv_sipush (v := nI 1000) hx hb dX5_make_47 (by decide) ?_
  refine lv_icmp_le (tgt := 63) hx hb dX5_make_50 (by decide) (fun _ => ?_) (fun h9 => absurd (Int32.not_lt.mp (k_isIn_1 h2).2) h9)
  refine lv_iload hx hb dX5_make_63 (lv_at hl 4 rfl) ?_
  exact zthru (vx_runS (As := [.int z]) (rest := []) ⟨hx, hb, hml, hown, hts⟩ (m_X5_requireFund_b l hnt D z em (by first | omega | assumption)) (va_cwS 1 hts gX5_make_X5_requireFund rfl rfl rfl (by decide +kernel) ⟨Nat.le_of_ble_eq_true rfl, Nat.le_of_ble_eq_true rfl⟩) (zt_S (hP.sub (ws' := []) [] rfl) (hK.sub (tys' := []) [] rfl) hG hH) rfl rfl hl.1 rfl (lv_room (Nat.le_of_ble_eq_true rfl)) dX5_make_65 ⟨Nat.le_of_ble_eq_true rfl, Nat.le_of_ble_eq_true rfl⟩) hno hlocks (Nat.le_of_ble_eq_true rfl) (Nat.le_of_ble_eq_true rfl)

set_option maxHeartbeats 4000000 in
set_option maxRecDepth 100000 in
/-- make: full -/
theorem m_X5_make_full (l : Launch) (hnt : l.stackTraces = false) (D : va_G) (x pr mk os : Nat) (ch gd : Int64) (mm : Int32) (em1 n : Nat) (pm sm rt : Int32) (q : Nat) (em : Nat) (h0 : k_isIn pm (nI 100) (nI 100000) = nI 1) (h1 : k_isIn sm (nI 0) (nI 1000000) = nI 1) (h2 : k_isIn rt (nI 0) (nI 1000) = nI 1) (hq : q < 3) (hn : n = 10) : vx_Met l yX5_make wsX5_make ({ frames := 6, cells := 1, slots := 6, locals := 92 }) (zt D [(x, .inr (5, [.ref pr, .ref mk, .ref os, .long ch, .long gd])), (mk, .inr (0, [.int mm, .ref em1, .int (nI n)]))] [] em [.ref x, .int pm, .int sm, .int rt, .int (nI q)]) Qf (XE "java/lang/IllegalStateException") 1 6 NA := by
  refine zmt (cc := cX5_make) (maxL := 5) (ret := (some .int)) (by decide) rfl (Nat.le_of_ble_eq_true rfl) ?_
  intro p e s m below meth c ls hno hx hb hml hr hlocks hown hts hP hK hG hH hl
  have hl : lv_has ls 5 [(0, .ref x), (1, .int pm), (2, .int sm), (3, .int rt), (4, .int (nI q))] := hl
  have k_0 := hts (.constant RX5 69 (100000)) (List.mem_of_getElem? (i := 5) rfl)
  have k_1 := hts (.constant RX5 72 (1000000)) (List.mem_of_getElem? (i := 6) rfl)
  have k_2 := hts (.fieldLink RX5 19 "UnitContracts" "made" "Ljava/util/ArrayList;") (List.mem_of_getElem? (i := 7) rfl)
  have i_RX5 : ∀ w ∈ u_ws RX5 TX5 5, w ∈ wsX5_make := by decide +kernel
  have k_4 := hts (.classLink RX5 41 "java/lang/IllegalStateException") (List.mem_of_getElem? (i := 3) rfl)
  have k_5 := hts (.initialized "java/lang/IllegalStateException") (List.mem_of_getElem? (i := 4) rfl)
  refine lv_iload_n hx hb dX5_make_0 rfl (lv_at hl 1 rfl) ?_
  refine lv_bipush (v := nI 100) hx hb dX5_make_1 (by decide) ?_
  refine lv_icmp_lt (tgt := 12) hx hb dX5_make_3 (by decide) (fun h9 => absurd h9 (k_isIn_1 h0).1) (fun _ => ?_)
  refine lv_iload_n hx hb dX5_make_6 rfl (lv_at hl 1 rfl) ?_
  refine lv_ldc (v := nI 100000) hx hb hown k_0 dX5_make_7 ?_
  refine lv_icmp_le (tgt := 22) hx hb dX5_make_9 (by decide) (fun _ => ?_) (fun h9 => absurd (Int32.not_lt.mp (k_isIn_1 h0).2) h9)
  refine lv_iload_n hx hb dX5_make_22 rfl (lv_at hl 2 rfl) ?_
  refine lv_if_lt (tgt := 32) hx hb dX5_make_23 (by decide) (fun h9 => absurd h9 (k_isIn_1 h1).1) (fun _ => ?_)
  refine lv_iload_n hx hb dX5_make_26 rfl (lv_at hl 2 rfl) ?_
  refine lv_ldc (v := nI 1000000) hx hb hown k_1 dX5_make_27 ?_
  refine lv_icmp_le (tgt := 42) hx hb dX5_make_29 (by decide) (fun _ => ?_) (fun h9 => absurd (Int32.not_lt.mp (k_isIn_1 h1).2) h9)
  refine lv_iload_n hx hb dX5_make_42 rfl (lv_at hl 3 rfl) ?_
  refine lv_if_lt (tgt := 53) hx hb dX5_make_43 (by decide) (fun h9 => absurd h9 (k_isIn_1 h2).1) (fun _ => ?_)
  refine lv_iload_n hx hb dX5_make_46 rfl (lv_at hl 3 rfl) ?_
  refine lv_sipush (v := nI 1000) hx hb dX5_make_47 (by decide) ?_
  refine lv_icmp_le (tgt := 63) hx hb dX5_make_50 (by decide) (fun _ => ?_) (fun h9 => absurd (Int32.not_lt.mp (k_isIn_1 h2).2) h9)
  refine lv_iload hx hb dX5_make_63 (lv_at hl 4 rfl) ?_
  refine va_csv (W.runS (As := [.int (nI q)]) (rest := []) ⟨hx, hb, hml, hown, hts⟩ (m_X5_requireFund_ok l q (by first | omega | assumption)) (va_cwS 1 hts gX5_make_X5_requireFund rfl rfl rfl (by decide +kernel) ⟨Nat.le_of_ble_eq_true rfl, Nat.le_of_ble_eq_true rfl⟩) z0_S rfl rfl hl.1 rfl (lv_room (Nat.le_of_ble_eq_true rfl)) dX5_make_65 ⟨Nat.le_of_ble_eq_true rfl, Nat.le_of_ble_eq_true rfl⟩) (fun _ => ?_)
  refine lv_aload_n hx hb dX5_make_68 rfl (lv_at hl 0 rfl) ?_
  refine va_get (D := D) (ci := 5) (v := .ref mk) (C := RX5) (T := TX5) (N := 5) hx hb hts i_RX5 hown hK hP 0 rfl rfl 1 (by decide) k_2 (fun _ h9 => h9) rfl dX5_make_69 ?_
  refine vp_callSi (W.runV (As := []) (rest := []) ⟨hx, hb, hml, hown, hts⟩ (m_Jx4a65c_size_8abf5 l D mk mm em1 n) (cwV 0 hts gX5_make_Jx4a65c_size_8abf5 rfl rfl rfl (by decide +kernel) ⟨Nat.le_of_ble_eq_true rfl, Nat.le_of_ble_eq_true rfl⟩) (z1_V (va_recv hK hP (ci := 0) (q0 := 1) rfl rfl) (hP.sub (ws' := [(mk, .inr (0, [.int mm, .ref em1, .int (nI n)]))]) [1] rfl) (hK.sub (tys' := []) [] rfl) hG) rfl rfl hl.1 rfl (lv_room (Nat.le_of_ble_eq_true rfl)) dX5_make_72 ⟨Nat.le_of_ble_eq_true rfl, Nat.le_of_ble_eq_true rfl⟩) (fun r_1 e_r_1 => ?_)
  replace e_r_1 := e_r_1.symm; subst e_r_1
  refine lv_bipush (v := nI 10) hx hb dX5_make_75 (by decide) ?_
  refine lv_icmp_lt (tgt := 90) hx hb dX5_make_77 (by decide) (fun h9 => absurd h9 (fun h8 => absurd ((nI_ltI (a := n) (b := 10) (by omega) (by omega)).mp h8) (by omega))) (fun _ => ?_)
  exact zthrow (E := "java/lang/IllegalStateException") (text := "there are 10 contracts") hnt hx hb hown (by decide +kernel) k_4 k_5 hG (by decide +kernel) (fun w h => hts w (List.mem_cons_of_mem _ (List.mem_append_right _ h))) zB_45 (by decide +kernel) zG_45 hH (hl.1.trans hml.symm) dX5_make_80 dX5_make_83 dX5_make_84 dX5_make_86 dX5_make_89 hno (Nat.le_of_ble_eq_true rfl) (Nat.le_of_ble_eq_true rfl) (Nat.le_of_ble_eq_true rfl) (Nat.le_of_ble_eq_true rfl) hlocks (Nat.le_of_ble_eq_true rfl) (Nat.le_of_ble_eq_true rfl)

set_option maxHeartbeats 4000000 in
set_option maxRecDepth 100000 in
/-- pay: b -/
theorem m_X5_pay_b (l : Launch) (hnt : l.stackTraces = false) (D : va_G) (x pr mk os : Nat) (ch gd : Int64) (mm : Int32) (em1 n : Nat) (z : Int32) (em : Nat) (h0 : k_isIn z (nI 0) (nI n - nI 1) = nI 0) (hn : n ≤ 10) : vx_Met l yX5_pay wsX5_pay ({ frames := 7, cells := 1, slots := 6, locals := 113 }) (zt D [(x, .inr (5, [.ref pr, .ref mk, .ref os, .long ch, .long gd])), (mk, .inr (0, [.int mm, .ref em1, .int (nI n)]))] [] em [.ref x, .int z]) Qf (XE "java/lang/IndexOutOfBoundsException") 1 6 NA := by
  refine zmt (cc := cX5_pay) (maxL := 3) (ret := (some .int)) (by decide) rfl (Nat.le_of_ble_eq_true rfl) ?_
  intro p e s m below meth c ls hno hx hb hml hr hlocks hown hts hP hK hG hH hl
  have hl : lv_has ls 3 [(0, .ref x), (1, .int z)] := hl
  refine lv_aload_n hx hb dX5_pay_0 rfl (lv_at hl 0 rfl) ?_
  refine lv_iload_n hx hb dX5_pay_1 rfl (lv_at hl 1 rfl) ?_
  exact zthru (vx_runV (As := [.int z]) (rest := []) ⟨hx, hb, hml, hown, hts⟩ (m_X5_find_b l hnt D x pr mk os ch gd mm em1 n z em (by first | omega | assumption) (by first | omega | assumption)) (cwV 1 hts gX5_pay_X5_find rfl rfl rfl (by decide +kernel) ⟨Nat.le_of_ble_eq_true rfl, Nat.le_of_ble_eq_true rfl⟩) (zt_V (va_recv hK hP (ci := 5) (q0 := 0) rfl rfl) (hP.sub (ws' := [(x, .inr (5, [.ref pr, .ref mk, .ref os, .long ch, .long gd])), (mk, .inr (0, [.int mm, .ref em1, .int (nI n)]))]) [0, 1] rfl) (hK.sub (tys' := []) [] rfl) hG hH) rfl rfl hl.1 rfl (lv_room (Nat.le_of_ble_eq_true rfl)) dX5_pay_2 ⟨Nat.le_of_ble_eq_true rfl, Nat.le_of_ble_eq_true rfl⟩) hno hlocks (Nat.le_of_ble_eq_true rfl) (Nat.le_of_ble_eq_true rfl)

set_option maxHeartbeats 4000000 in
set_option maxRecDepth 100000 in
/-- isInForce: b -/
theorem m_X5_isInForce_b (l : Launch) (hnt : l.stackTraces = false) (D : va_G) (x pr mk os : Nat) (ch gd : Int64) (mm : Int32) (em1 n : Nat) (z : Int32) (em : Nat) (h0 : k_isIn z (nI 0) (nI n - nI 1) = nI 0) (hn : n ≤ 10) : vx_Met l yX5_isInForce wsX5_isInForce ({ frames := 7, cells := 1, slots := 6, locals := 113 }) (zt D [(x, .inr (5, [.ref pr, .ref mk, .ref os, .long ch, .long gd])), (mk, .inr (0, [.int mm, .ref em1, .int (nI n)]))] [] em [.ref x, .int z]) Qf (XE "java/lang/IndexOutOfBoundsException") 1 6 NA := by
  refine zmt (cc := cX5_isInForce) (maxL := 2) (ret := (some .boolean)) (by decide) rfl (Nat.le_of_ble_eq_true rfl) ?_
  intro p e s m below meth c ls hno hx hb hml hr hlocks hown hts hP hK hG hH hl
  have hl : lv_has ls 2 [(0, .ref x), (1, .int z)] := hl
  refine lv_aload_n hx hb dX5_isInForce_0 rfl (lv_at hl 0 rfl) ?_
  refine lv_iload_n hx hb dX5_isInForce_1 rfl (lv_at hl 1 rfl) ?_
  exact zthru (vx_runV (As := [.int z]) (rest := []) ⟨hx, hb, hml, hown, hts⟩ (m_X5_find_b l hnt D x pr mk os ch gd mm em1 n z em (by first | omega | assumption) (by first | omega | assumption)) (cwV 1 hts gX5_isInForce_X5_find rfl rfl rfl (by decide +kernel) ⟨Nat.le_of_ble_eq_true rfl, Nat.le_of_ble_eq_true rfl⟩) (zt_V (va_recv hK hP (ci := 5) (q0 := 0) rfl rfl) (hP.sub (ws' := [(x, .inr (5, [.ref pr, .ref mk, .ref os, .long ch, .long gd])), (mk, .inr (0, [.int mm, .ref em1, .int (nI n)]))]) [0, 1] rfl) (hK.sub (tys' := []) [] rfl) hG hH) rfl rfl hl.1 rfl (lv_room (Nat.le_of_ble_eq_true rfl)) dX5_isInForce_2 ⟨Nat.le_of_ble_eq_true rfl, Nat.le_of_ble_eq_true rfl⟩) hno hlocks (Nat.le_of_ble_eq_true rfl) (Nat.le_of_ble_eq_true rfl)

set_option maxHeartbeats 4000000 in
set_option maxRecDepth 100000 in
/-- initial: b -/
theorem m_X5_initial_b (l : Launch) (hnt : l.stackTraces = false) (D : va_G) (x pr mk os : Nat) (ch gd : Int64) (mm : Int32) (em1 n : Nat) (z : Int32) (em : Nat) (h0 : k_isIn z (nI 0) (nI n - nI 1) = nI 0) (hn : n ≤ 10) : vx_Met l yX5_initial wsX5_initial ({ frames := 7, cells := 1, slots := 6, locals := 113 }) (zt D [(x, .inr (5, [.ref pr, .ref mk, .ref os, .long ch, .long gd])), (mk, .inr (0, [.int mm, .ref em1, .int (nI n)]))] [] em [.ref x, .int z]) Qf (XE "java/lang/IndexOutOfBoundsException") 1 6 NA := by
  refine zmt (cc := cX5_initial) (maxL := 2) (ret := (some .long)) (by decide) rfl (Nat.le_of_ble_eq_true rfl) ?_
  intro p e s m below meth c ls hno hx hb hml hr hlocks hown hts hP hK hG hH hl
  have hl : lv_has ls 2 [(0, .ref x), (1, .int z)] := hl
  refine lv_aload_n hx hb dX5_initial_0 rfl (lv_at hl 0 rfl) ?_
  refine lv_iload_n hx hb dX5_initial_1 rfl (lv_at hl 1 rfl) ?_
  exact zthru (vx_runV (As := [.int z]) (rest := []) ⟨hx, hb, hml, hown, hts⟩ (m_X5_find_b l hnt D x pr mk os ch gd mm em1 n z em (by first | omega | assumption) (by first | omega | assumption)) (cwV 1 hts gX5_initial_X5_find rfl rfl rfl (by decide +kernel) ⟨Nat.le_of_ble_eq_true rfl, Nat.le_of_ble_eq_true rfl⟩) (zt_V (va_recv hK hP (ci := 5) (q0 := 0) rfl rfl) (hP.sub (ws' := [(x, .inr (5, [.ref pr, .ref mk, .ref os, .long ch, .long gd])), (mk, .inr (0, [.int mm, .ref em1, .int (nI n)]))]) [0, 1] rfl) (hK.sub (tys' := []) [] rfl) hG hH) rfl rfl hl.1 rfl (lv_room (Nat.le_of_ble_eq_true rfl)) dX5_initial_2 ⟨Nat.le_of_ble_eq_true rfl, Nat.le_of_ble_eq_true rfl⟩) hno hlocks (Nat.le_of_ble_eq_true rfl) (Nat.le_of_ble_eq_true rfl)

set_option maxHeartbeats 4000000 in
set_option maxRecDepth 100000 in
/-- worth: b -/
theorem m_X5_worth_b (l : Launch) (hnt : l.stackTraces = false) (D : va_G) (x pr mk os : Nat) (ch gd : Int64) (mm : Int32) (em1 n : Nat) (z : Int32) (em : Nat) (h0 : k_isIn z (nI 0) (nI n - nI 1) = nI 0) (hn : n ≤ 10) : vx_Met l yX5_worth wsX5_worth ({ frames := 7, cells := 1, slots := 6, locals := 113 }) (zt D [(x, .inr (5, [.ref pr, .ref mk, .ref os, .long ch, .long gd])), (mk, .inr (0, [.int mm, .ref em1, .int (nI n)]))] [] em [.ref x, .int z]) Qf (XE "java/lang/IndexOutOfBoundsException") 1 6 NA := by
  refine zmt (cc := cX5_worth) (maxL := 2) (ret := (some .long)) (by decide) rfl (Nat.le_of_ble_eq_true rfl) ?_
  intro p e s m below meth c ls hno hx hb hml hr hlocks hown hts hP hK hG hH hl
  have hl : lv_has ls 2 [(0, .ref x), (1, .int z)] := hl
  refine lv_aload_n hx hb dX5_worth_0 rfl (lv_at hl 0 rfl) ?_
  refine lv_iload_n hx hb dX5_worth_1 rfl (lv_at hl 1 rfl) ?_
  exact zthru (vx_runV (As := [.int z]) (rest := []) ⟨hx, hb, hml, hown, hts⟩ (m_X5_find_b l hnt D x pr mk os ch gd mm em1 n z em (by first | omega | assumption) (by first | omega | assumption)) (cwV 1 hts gX5_worth_X5_find rfl rfl rfl (by decide +kernel) ⟨Nat.le_of_ble_eq_true rfl, Nat.le_of_ble_eq_true rfl⟩) (zt_V (va_recv hK hP (ci := 5) (q0 := 0) rfl rfl) (hP.sub (ws' := [(x, .inr (5, [.ref pr, .ref mk, .ref os, .long ch, .long gd])), (mk, .inr (0, [.int mm, .ref em1, .int (nI n)]))]) [0, 1] rfl) (hK.sub (tys' := []) [] rfl) hG hH) rfl rfl hl.1 rfl (lv_room (Nat.le_of_ble_eq_true rfl)) dX5_worth_2 ⟨Nat.le_of_ble_eq_true rfl, Nat.le_of_ble_eq_true rfl⟩) hno hlocks (Nat.le_of_ble_eq_true rfl) (Nat.le_of_ble_eq_true rfl)

set_option maxHeartbeats 4000000 in
set_option maxRecDepth 100000 in
/-- paid: b -/
theorem m_X5_paid_b (l : Launch) (hnt : l.stackTraces = false) (D : va_G) (x pr mk os : Nat) (ch gd : Int64) (mm : Int32) (em1 n : Nat) (z : Int32) (em : Nat) (h0 : k_isIn z (nI 0) (nI n - nI 1) = nI 0) (hn : n ≤ 10) : vx_Met l yX5_paid wsX5_paid ({ frames := 7, cells := 1, slots := 6, locals := 113 }) (zt D [(x, .inr (5, [.ref pr, .ref mk, .ref os, .long ch, .long gd])), (mk, .inr (0, [.int mm, .ref em1, .int (nI n)]))] [] em [.ref x, .int z]) Qf (XE "java/lang/IndexOutOfBoundsException") 1 6 NA := by
  refine zmt (cc := cX5_paid) (maxL := 2) (ret := (some .int)) (by decide) rfl (Nat.le_of_ble_eq_true rfl) ?_
  intro p e s m below meth c ls hno hx hb hml hr hlocks hown hts hP hK hG hH hl
  have hl : lv_has ls 2 [(0, .ref x), (1, .int z)] := hl
  refine lv_aload_n hx hb dX5_paid_0 rfl (lv_at hl 0 rfl) ?_
  refine lv_iload_n hx hb dX5_paid_1 rfl (lv_at hl 1 rfl) ?_
  exact zthru (vx_runV (As := [.int z]) (rest := []) ⟨hx, hb, hml, hown, hts⟩ (m_X5_find_b l hnt D x pr mk os ch gd mm em1 n z em (by first | omega | assumption) (by first | omega | assumption)) (cwV 1 hts gX5_paid_X5_find rfl rfl rfl (by decide +kernel) ⟨Nat.le_of_ble_eq_true rfl, Nat.le_of_ble_eq_true rfl⟩) (zt_V (va_recv hK hP (ci := 5) (q0 := 0) rfl rfl) (hP.sub (ws' := [(x, .inr (5, [.ref pr, .ref mk, .ref os, .long ch, .long gd])), (mk, .inr (0, [.int mm, .ref em1, .int (nI n)]))]) [0, 1] rfl) (hK.sub (tys' := []) [] rfl) hG hH) rfl rfl hl.1 rfl (lv_room (Nat.le_of_ble_eq_true rfl)) dX5_paid_2 ⟨Nat.le_of_ble_eq_true rfl, Nat.le_of_ble_eq_true rfl⟩) hno hlocks (Nat.le_of_ble_eq_true rfl) (Nat.le_of_ble_eq_true rfl)

set_option maxHeartbeats 4000000 in
set_option maxRecDepth 100000 in
/-- units: b -/
theorem m_X5_units_b (l : Launch) (hnt : l.stackTraces = false) (D : va_G) (x pr mk os : Nat) (ch gd : Int64) (mm : Int32) (em1 n : Nat) (z : Int32) (y : Int32) (em : Nat) (h0 : k_isIn z (nI 0) (nI n - nI 1) = nI 0) (hn : n ≤ 10) : vx_Met l yX5_units wsX5_units ({ frames := 7, cells := 1, slots := 6, locals := 113 }) (zt D [(x, .inr (5, [.ref pr, .ref mk, .ref os, .long ch, .long gd])), (mk, .inr (0, [.int mm, .ref em1, .int (nI n)]))] [] em [.ref x, .int z, .int y]) Qf (XE "java/lang/IndexOutOfBoundsException") 1 6 NA := by
  refine zmt (cc := cX5_units) (maxL := 4) (ret := (some .long)) (by decide) rfl (Nat.le_of_ble_eq_true rfl) ?_
  intro p e s m below meth c ls hno hx hb hml hr hlocks hown hts hP hK hG hH hl
  have hl : lv_has ls 4 [(0, .ref x), (1, .int z), (2, .int y)] := hl
  refine lv_aload_n hx hb dX5_units_0 rfl (lv_at hl 0 rfl) ?_
  refine lv_iload_n hx hb dX5_units_1 rfl (lv_at hl 1 rfl) ?_
  exact zthru (vx_runV (As := [.int z]) (rest := []) ⟨hx, hb, hml, hown, hts⟩ (m_X5_find_b l hnt D x pr mk os ch gd mm em1 n z em (by first | omega | assumption) (by first | omega | assumption)) (cwV 1 hts gX5_units_X5_find rfl rfl rfl (by decide +kernel) ⟨Nat.le_of_ble_eq_true rfl, Nat.le_of_ble_eq_true rfl⟩) (zt_V (va_recv hK hP (ci := 5) (q0 := 0) rfl rfl) (hP.sub (ws' := [(x, .inr (5, [.ref pr, .ref mk, .ref os, .long ch, .long gd])), (mk, .inr (0, [.int mm, .ref em1, .int (nI n)]))]) [0, 1] rfl) (hK.sub (tys' := []) [] rfl) hG hH) rfl rfl hl.1 rfl (lv_room (Nat.le_of_ble_eq_true rfl)) dX5_units_2 ⟨Nat.le_of_ble_eq_true rfl, Nat.le_of_ble_eq_true rfl⟩) hno hlocks (Nat.le_of_ble_eq_true rfl) (Nat.le_of_ble_eq_true rfl)

set_option maxHeartbeats 4000000 in
set_option maxRecDepth 100000 in
/-- backdate: b -/
theorem m_X5_backdate_b (l : Launch) (hnt : l.stackTraces = false) (D : va_G) (x pr mk os : Nat) (ch gd : Int64) (mm : Int32) (em1 n : Nat) (z : Int32) (y : Int32) (em : Nat) (h0 : k_isIn z (nI 0) (nI n - nI 1) = nI 0) (hn : n ≤ 10) : vx_Met l yX5_backdate wsX5_backdate ({ frames := 7, cells := 1, slots := 6, locals := 113 }) (zt D [(x, .inr (5, [.ref pr, .ref mk, .ref os, .long ch, .long gd])), (mk, .inr (0, [.int mm, .ref em1, .int (nI n)]))] [] em [.ref x, .int z, .int y]) Qf (XE "java/lang/IndexOutOfBoundsException") 1 6 NA := by
  refine zmt (cc := cX5_backdate) (maxL := 9) (ret := (some .int)) (by decide) rfl (Nat.le_of_ble_eq_true rfl) ?_
  intro p e s m below meth c ls hno hx hb hml hr hlocks hown hts hP hK hG hH hl
  have hl : lv_has ls 9 [(0, .ref x), (1, .int z), (2, .int y)] := hl
  refine lv_aload_n hx hb dX5_backdate_0 rfl (lv_at hl 0 rfl) ?_
  refine lv_iload_n hx hb dX5_backdate_1 rfl (lv_at hl 1 rfl) ?_
  exact zthru (vx_runV (As := [.int z]) (rest := []) ⟨hx, hb, hml, hown, hts⟩ (m_X5_find_b l hnt D x pr mk os ch gd mm em1 n z em (by first | omega | assumption) (by first | omega | assumption)) (cwV 1 hts gX5_backdate_X5_find rfl rfl rfl (by decide +kernel) ⟨Nat.le_of_ble_eq_true rfl, Nat.le_of_ble_eq_true rfl⟩) (zt_V (va_recv hK hP (ci := 5) (q0 := 0) rfl rfl) (hP.sub (ws' := [(x, .inr (5, [.ref pr, .ref mk, .ref os, .long ch, .long gd])), (mk, .inr (0, [.int mm, .ref em1, .int (nI n)]))]) [0, 1] rfl) (hK.sub (tys' := []) [] rfl) hG hH) rfl rfl hl.1 rfl (lv_room (Nat.le_of_ble_eq_true rfl)) dX5_backdate_2 ⟨Nat.le_of_ble_eq_true rfl, Nat.le_of_ble_eq_true rfl⟩) hno hlocks (Nat.le_of_ble_eq_true rfl) (Nat.le_of_ble_eq_true rfl)

set_option maxHeartbeats 4000000 in
set_option maxRecDepth 100000 in
/-- change: b -/
theorem m_X5_change_b (l : Launch) (hnt : l.stackTraces = false) (D : va_G) (x pr mk os : Nat) (ch gd : Int64) (mm : Int32) (em1 n : Nat) (z : Int32) (y v pct : Int32) (em : Nat) (h0 : k_isIn z (nI 0) (nI n - nI 1) = nI 0) (hn : n ≤ 10) : vx_Met l yX5_change wsX5_change ({ frames := 7, cells := 1, slots := 6, locals := 113 }) (zt D [(x, .inr (5, [.ref pr, .ref mk, .ref os, .long ch, .long gd])), (mk, .inr (0, [.int mm, .ref em1, .int (nI n)]))] [] em [.ref x, .int z, .int y, .int v, .int pct]) Qf (XE "java/lang/IndexOutOfBoundsException") 1 6 NA := by
  refine zmt (cc := cX5_change) (maxL := 6) (ret := (some .int)) (by decide) rfl (Nat.le_of_ble_eq_true rfl) ?_
  intro p e s m below meth c ls hno hx hb hml hr hlocks hown hts hP hK hG hH hl
  have hl : lv_has ls 6 [(0, .ref x), (1, .int z), (2, .int y), (3, .int v), (4, .int pct)] := hl
  refine lv_aload_n hx hb dX5_change_0 rfl (lv_at hl 0 rfl) ?_
  refine lv_iload_n hx hb dX5_change_1 rfl (lv_at hl 1 rfl) ?_
  exact zthru (vx_runV (As := [.int z]) (rest := []) ⟨hx, hb, hml, hown, hts⟩ (m_X5_find_b l hnt D x pr mk os ch gd mm em1 n z em (by first | omega | assumption) (by first | omega | assumption)) (cwV 1 hts gX5_change_X5_find rfl rfl rfl (by decide +kernel) ⟨Nat.le_of_ble_eq_true rfl, Nat.le_of_ble_eq_true rfl⟩) (zt_V (va_recv hK hP (ci := 5) (q0 := 0) rfl rfl) (hP.sub (ws' := [(x, .inr (5, [.ref pr, .ref mk, .ref os, .long ch, .long gd])), (mk, .inr (0, [.int mm, .ref em1, .int (nI n)]))]) [0, 1] rfl) (hK.sub (tys' := []) [] rfl) hG hH) rfl rfl hl.1 rfl (lv_room (Nat.le_of_ble_eq_true rfl)) dX5_change_2 ⟨Nat.le_of_ble_eq_true rfl, Nat.le_of_ble_eq_true rfl⟩) hno hlocks (Nat.le_of_ble_eq_true rfl) (Nat.le_of_ble_eq_true rfl)

set_option maxHeartbeats 4000000 in
set_option maxRecDepth 100000 in
/-- pay: off -/
theorem m_X5_pay_off (l : Launch) (hnt : l.stackTraces = false) (D : va_G) (x pr mk os : Nat) (ch gd : Int64) (mm : Int32) (em1 n : Nat) (cap : Nat) (cO : ClassId) (fl : Nat → Option Nat) (co ac : Nat) (cJ : ClassId) (pm sm rt : Int32) (fu : Nat) (ini : Int64) (np : Nat) (al : Int32) (acc : Nat → Int64) (kc : Nat) (em : Nat) (hkc : kc < n) (hn : n ≤ cap) (hcap : cap ≤ 800) (hfl : fl kc = some co) (hal : al = nI 0) : vx_Met l yX5_pay wsX5_pay ({ frames := 7, cells := 1, slots := 6, locals := 112 }) (zt D [(x, .inr (5, [.ref pr, .ref mk, .ref os, .long ch, .long gd])), (mk, .inr (0, [.int mm, .ref em1, .int (nI n)])), (em1, .inl (cO, cap, .inr (.inr (.inr (.inr fl))))), (co, .inr (1, [.int pm, .int sm, .int rt, .int (nI fu), .ref ac, .long ini, .int (nI np), .int al])), (ac, .inl (cJ, 3, .inr (.inl acc)))] [(cO, .object "java/lang/Object"), (cJ, .long)] em [.ref x, .int (nI kc)]) Qf (XE "java/lang/IllegalStateException") 1 6 NA := by
  refine zmt (cc := cX5_pay) (maxL := 3) (ret := (some .int)) (by decide) rfl (Nat.le_of_ble_eq_true rfl) ?_
  intro p e s m below meth c ls hno hx hb hml hr hlocks hown hts hP hK hG hH hl
  have hl : lv_has ls 3 [(0, .ref x), (1, .int (nI kc))] := hl
  refine lv_aload_n hx hb dX5_pay_0 rfl (lv_at hl 0 rfl) ?_
  refine lv_iload_n hx hb dX5_pay_1 rfl (lv_at hl 1 rfl) ?_
  refine va_csq (W.runV (As := [.int (nI kc)]) (rest := []) ⟨hx, hb, hml, hown, hts⟩ (m_X5_find_ok l D x pr mk os ch gd mm em1 n cap cO fl co ac cJ pm sm rt fu ini np al acc kc (by first | omega | assumption) (by first | omega | assumption) (by first | omega | assumption) (by first | omega | assumption)) (cwV 1 hts gX5_pay_X5_find rfl rfl rfl (by decide +kernel) ⟨Nat.le_of_ble_eq_true rfl, Nat.le_of_ble_eq_true rfl⟩) (z1_V (va_recv hK hP (ci := 5) (q0 := 0) rfl rfl) (hP.sub (ws' := [(x, .inr (5, [.ref pr, .ref mk, .ref os, .long ch, .long gd])), (mk, .inr (0, [.int mm, .ref em1, .int (nI n)])), (em1, .inl (cO, cap, .inr (.inr (.inr (.inr fl))))), (co, .inr (1, [.int pm, .int sm, .int rt, .int (nI fu), .ref ac, .long ini, .int (nI np), .int al])), (ac, .inl (cJ, 3, .inr (.inl acc)))]) [0, 1, 2, 3, 4] rfl) (hK.sub (tys' := [(cO, .object "java/lang/Object"), (cJ, .long)]) [0, 1] rfl) hG) rfl rfl hl.1 rfl (lv_room (Nat.le_of_ble_eq_true rfl)) dX5_pay_2 ⟨Nat.le_of_ble_eq_true rfl, Nat.le_of_ble_eq_true rfl⟩) (fun r_1 e_r_1 => ?_)
  replace e_r_1 := e_r_1.symm; subst e_r_1
  refine W.eq (g2 := F0 m 5 ls [.ref co]) rfl ?_
  refine lv_astore_n (lv' := [(2, .ref co), (0, .ref x), (1, .int (nI kc))]) hx hb dX5_pay_5 rfl hl (by decide) rfl (fun ls hl => ?_)
  refine lv_aload_n hx hb dX5_pay_6 rfl (lv_at hl 0 rfl) ?_
  exact zthru (vx_runS (As := [.ref co]) (rest := []) ⟨hx, hb, hml, hown, hts⟩ (m_X5_requireInForce_b l hnt D co ac cJ pm sm rt fu ini np al acc em (by first | omega | assumption)) (va_cwS 1 hts gX5_pay_X5_requireInForce rfl rfl rfl (by decide +kernel) ⟨Nat.le_of_ble_eq_true rfl, Nat.le_of_ble_eq_true rfl⟩) (zt_S (hP.sub (ws' := [(co, .inr (1, [.int pm, .int sm, .int rt, .int (nI fu), .ref ac, .long ini, .int (nI np), .int al])), (ac, .inl (cJ, 3, .inr (.inl acc)))]) [3, 4] rfl) (hK.sub (tys' := [(cJ, .long)]) [1] rfl) hG hH) rfl rfl hl.1 rfl (lv_room (Nat.le_of_ble_eq_true rfl)) dX5_pay_7 ⟨Nat.le_of_ble_eq_true rfl, Nat.le_of_ble_eq_true rfl⟩) hno hlocks (Nat.le_of_ble_eq_true rfl) (Nat.le_of_ble_eq_true rfl)

set_option maxHeartbeats 4000000 in
set_option maxRecDepth 100000 in
/-- change: b0 -/
theorem m_X5_change_b0 (l : Launch) (hnt : l.stackTraces = false) (D : va_G) (x pr mk os : Nat) (ch gd : Int64) (mm : Int32) (em1 n : Nat) (cap : Nat) (cO : ClassId) (fl : Nat → Option Nat) (co ac : Nat) (cJ : ClassId) (pm sm rt : Int32) (fu : Nat) (ini : Int64) (np : Nat) (al : Int32) (acc : Nat → Int64) (kc : Nat) (z y pct : Int32) (em : Nat) (hkc : kc < n) (hn : n ≤ cap) (hcap : cap ≤ 800) (hfl : fl kc = some co) (h1 : k_isFund z = nI 0) : vx_Met l yX5_change wsX5_change ({ frames := 7, cells := 1, slots := 6, locals := 112 }) (zt D [(x, .inr (5, [.ref pr, .ref mk, .ref os, .long ch, .long gd])), (mk, .inr (0, [.int mm, .ref em1, .int (nI n)])), (em1, .inl (cO, cap, .inr (.inr (.inr (.inr fl))))), (co, .inr (1, [.int pm, .int sm, .int rt, .int (nI fu), .ref ac, .long ini, .int (nI np), .int al])), (ac, .inl (cJ, 3, .inr (.inl acc)))] [(cO, .object "java/lang/Object"), (cJ, .long)] em [.ref x, .int (nI kc), .int z, .int y, .int pct]) Qf (XE "java/lang/IllegalArgumentException") 1 6 NA := by
  refine zmt (cc := cX5_change) (maxL := 6) (ret := (some .int)) (by decide) rfl (Nat.le_of_ble_eq_true rfl) ?_
  intro p e s m below meth c ls hno hx hb hml hr hlocks hown hts hP hK hG hH hl
  have hl : lv_has ls 6 [(0, .ref x), (1, .int (nI kc)), (2, .int z), (3, .int y), (4, .int pct)] := hl
  refine lv_aload_n hx hb dX5_change_0 rfl (lv_at hl 0 rfl) ?_
  refine lv_iload_n hx hb dX5_change_1 rfl (lv_at hl 1 rfl) ?_
  refine va_csq (W.runV (As := [.int (nI kc)]) (rest := []) ⟨hx, hb, hml, hown, hts⟩ (m_X5_find_ok l D x pr mk os ch gd mm em1 n cap cO fl co ac cJ pm sm rt fu ini np al acc kc (by first | omega | assumption) (by first | omega | assumption) (by first | omega | assumption) (by first | omega | assumption)) (cwV 1 hts gX5_change_X5_find rfl rfl rfl (by decide +kernel) ⟨Nat.le_of_ble_eq_true rfl, Nat.le_of_ble_eq_true rfl⟩) (z1_V (va_recv hK hP (ci := 5) (q0 := 0) rfl rfl) (hP.sub (ws' := [(x, .inr (5, [.ref pr, .ref mk, .ref os, .long ch, .long gd])), (mk, .inr (0, [.int mm, .ref em1, .int (nI n)])), (em1, .inl (cO, cap, .inr (.inr (.inr (.inr fl))))), (co, .inr (1, [.int pm, .int sm, .int rt, .int (nI fu), .ref ac, .long ini, .int (nI np), .int al])), (ac, .inl (cJ, 3, .inr (.inl acc)))]) [0, 1, 2, 3, 4] rfl) (hK.sub (tys' := [(cO, .object "java/lang/Object"), (cJ, .long)]) [0, 1] rfl) hG) rfl rfl hl.1 rfl (lv_room (Nat.le_of_ble_eq_true rfl)) dX5_change_2 ⟨Nat.le_of_ble_eq_true rfl, Nat.le_of_ble_eq_true rfl⟩) (fun r_1 e_r_1 => ?_)
  replace e_r_1 := e_r_1.symm; subst e_r_1
  refine W.eq (g2 := F0 m 5 ls [.ref co]) rfl ?_
  refine lv_astore (lv' := [(5, .ref co), (0, .ref x), (1, .int (nI kc)), (2, .int z), (3, .int y), (4, .int pct)]) hx hb dX5_change_5 hl (by decide) rfl (fun ls hl => ?_)
  refine lv_iload_n hx hb dX5_change_7 rfl (lv_at hl 3 rfl) ?_
  exact zthru (vx_runS (As := [.int z]) (rest := []) ⟨hx, hb, hml, hown, hts⟩ (m_X5_requireFund_b l hnt D z em (by first | omega | assumption)) (va_cwS 1 hts gX5_change_X5_requireFund rfl rfl rfl (by decide +kernel) ⟨Nat.le_of_ble_eq_true rfl, Nat.le_of_ble_eq_true rfl⟩) (zt_S (hP.sub (ws' := []) [] rfl) (hK.sub (tys' := []) [] rfl) hG hH) rfl rfl hl.1 rfl (lv_room (Nat.le_of_ble_eq_true rfl)) dX5_change_8 ⟨Nat.le_of_ble_eq_true rfl, Nat.le_of_ble_eq_true rfl⟩) hno hlocks (Nat.le_of_ble_eq_true rfl) (Nat.le_of_ble_eq_true rfl)

set_option maxHeartbeats 4000000 in
set_option maxRecDepth 100000 in
/-- change: b1 -/
theorem m_X5_change_b1 (l : Launch) (hnt : l.stackTraces = false) (D : va_G) (x pr mk os : Nat) (ch gd : Int64) (mm : Int32) (em1 n : Nat) (cap : Nat) (cO : ClassId) (fl : Nat → Option Nat) (co ac : Nat) (cJ : ClassId) (pm sm rt : Int32) (fu : Nat) (ini : Int64) (np : Nat) (al : Int32) (acc : Nat → Int64) (kc : Nat) (fr2 : Nat) (y pct : Int32) (em : Nat) (hkc : kc < n) (hn : n ≤ cap) (hcap : cap ≤ 800) (hfl : fl kc = some co) (hf : fr2 < 3) (h1 : k_isFund y = nI 0) : vx_Met l yX5_change wsX5_change ({ frames := 7, cells := 1, slots := 6, locals := 112 }) (zt D [(x, .inr (5, [.ref pr, .ref mk, .ref os, .long ch, .long gd])), (mk, .inr (0, [.int mm, .ref em1, .int (nI n)])), (em1, .inl (cO, cap, .inr (.inr (.inr (.inr fl))))), (co, .inr (1, [.int pm, .int sm, .int rt, .int (nI fu), .ref ac, .long ini, .int (nI np), .int al])), (ac, .inl (cJ, 3, .inr (.inl acc)))] [(cO, .object "java/lang/Object"), (cJ, .long)] em [.ref x, .int (nI kc), .int (nI fr2), .int y, .int pct]) Qf (XE "java/lang/IllegalArgumentException") 1 6 NA := by
  refine zmt (cc := cX5_change) (maxL := 6) (ret := (some .int)) (by decide) rfl (Nat.le_of_ble_eq_true rfl) ?_
  intro p e s m below meth c ls hno hx hb hml hr hlocks hown hts hP hK hG hH hl
  have hl : lv_has ls 6 [(0, .ref x), (1, .int (nI kc)), (2, .int (nI fr2)), (3, .int y), (4, .int pct)] := hl
  refine lv_aload_n hx hb dX5_change_0 rfl (lv_at hl 0 rfl) ?_
  refine lv_iload_n hx hb dX5_change_1 rfl (lv_at hl 1 rfl) ?_
  refine va_csq (W.runV (As := [.int (nI kc)]) (rest := []) ⟨hx, hb, hml, hown, hts⟩ (m_X5_find_ok l D x pr mk os ch gd mm em1 n cap cO fl co ac cJ pm sm rt fu ini np al acc kc (by first | omega | assumption) (by first | omega | assumption) (by first | omega | assumption) (by first | omega | assumption)) (cwV 1 hts gX5_change_X5_find rfl rfl rfl (by decide +kernel) ⟨Nat.le_of_ble_eq_true rfl, Nat.le_of_ble_eq_true rfl⟩) (z1_V (va_recv hK hP (ci := 5) (q0 := 0) rfl rfl) (hP.sub (ws' := [(x, .inr (5, [.ref pr, .ref mk, .ref os, .long ch, .long gd])), (mk, .inr (0, [.int mm, .ref em1, .int (nI n)])), (em1, .inl (cO, cap, .inr (.inr (.inr (.inr fl))))), (co, .inr (1, [.int pm, .int sm, .int rt, .int (nI fu), .ref ac, .long ini, .int (nI np), .int al])), (ac, .inl (cJ, 3, .inr (.inl acc)))]) [0, 1, 2, 3, 4] rfl) (hK.sub (tys' := [(cO, .object "java/lang/Object"), (cJ, .long)]) [0, 1] rfl) hG) rfl rfl hl.1 rfl (lv_room (Nat.le_of_ble_eq_true rfl)) dX5_change_2 ⟨Nat.le_of_ble_eq_true rfl, Nat.le_of_ble_eq_true rfl⟩) (fun r_1 e_r_1 => ?_)
  replace e_r_1 := e_r_1.symm; subst e_r_1
  refine W.eq (g2 := F0 m 5 ls [.ref co]) rfl ?_
  refine lv_astore (lv' := [(5, .ref co), (0, .ref x), (1, .int (nI kc)), (2, .int (nI fr2)), (3, .int y), (4, .int pct)]) hx hb dX5_change_5 hl (by decide) rfl (fun ls hl => ?_)
  refine lv_iload_n hx hb dX5_change_7 rfl (lv_at hl 3 rfl) ?_
  refine va_csv (W.runS (As := [.int (nI fr2)]) (rest := []) ⟨hx, hb, hml, hown, hts⟩ (m_X5_requireFund_ok l fr2 (by first | omega | assumption)) (va_cwS 1 hts gX5_change_X5_requireFund rfl rfl rfl (by decide +kernel) ⟨Nat.le_of_ble_eq_true rfl, Nat.le_of_ble_eq_true rfl⟩) z0_S rfl rfl hl.1 rfl (lv_room (Nat.le_of_ble_eq_true rfl)) dX5_change_8 ⟨Nat.le_of_ble_eq_true rfl, Nat.le_of_ble_eq_true rfl⟩) (fun _ => ?_)
  refine lv_iload_n hx hb dX5_change_11 rfl (lv_at hl 4 rfl) ?_
  exact zthru (vx_runS (As := [.int y]) (rest := []) ⟨hx, hb, hml, hown, hts⟩ (m_X5_requireFund_b l hnt D y em (by first | omega | assumption)) (va_cwS 1 hts gX5_change_X5_requireFund rfl rfl rfl (by decide +kernel) ⟨Nat.le_of_ble_eq_true rfl, Nat.le_of_ble_eq_true rfl⟩) (zt_S (hP.sub (ws' := []) [] rfl) (hK.sub (tys' := []) [] rfl) hG hH) rfl rfl hl.1 rfl (lv_room (Nat.le_of_ble_eq_true rfl)) dX5_change_12 ⟨Nat.le_of_ble_eq_true rfl, Nat.le_of_ble_eq_true rfl⟩) hno hlocks (Nat.le_of_ble_eq_true rfl) (Nat.le_of_ble_eq_true rfl)

set_option maxHeartbeats 4000000 in
set_option maxRecDepth 100000 in
/-- change: b2 -/
theorem m_X5_change_b2 (l : Launch) (hnt : l.stackTraces = false) (D : va_G) (x pr mk os : Nat) (ch gd : Int64) (mm : Int32) (em1 n : Nat) (cap : Nat) (cO : ClassId) (fl : Nat → Option Nat) (co ac : Nat) (cJ : ClassId) (pm sm rt : Int32) (fu : Nat) (ini : Int64) (np : Nat) (al : Int32) (acc : Nat → Int64) (kc : Nat) (fr2 : Nat) (pct : Int32) (em : Nat) (hkc : kc < n) (hn : n ≤ cap) (hcap : cap ≤ 800) (hfl : fl kc = some co) (hf : fr2 < 3) : vx_Met l yX5_change wsX5_change ({ frames := 6, cells := 1, slots := 6, locals := 92 }) (zt D [(x, .inr (5, [.ref pr, .ref mk, .ref os, .long ch, .long gd])), (mk, .inr (0, [.int mm, .ref em1, .int (nI n)])), (em1, .inl (cO, cap, .inr (.inr (.inr (.inr fl))))), (co, .inr (1, [.int pm, .int sm, .int rt, .int (nI fu), .ref ac, .long ini, .int (nI np), .int al])), (ac, .inl (cJ, 3, .inr (.inl acc)))] [(cO, .object "java/lang/Object"), (cJ, .long)] em [.ref x, .int (nI kc), .int (nI fr2), .int (nI fr2), .int pct]) Qf (XE "java/lang/IllegalArgumentException") 1 6 NA := by
  refine zmt (cc := cX5_change) (maxL := 6) (ret := (some .int)) (by decide) rfl (Nat.le_of_ble_eq_true rfl) ?_
  intro p e s m below meth c ls hno hx hb hml hr hlocks hown hts hP hK hG hH hl
  have hl : lv_has ls 6 [(0, .ref x), (1, .int (nI kc)), (2, .int (nI fr2)), (3, .int (nI fr2)), (4, .int pct)] := hl
  have k_0 := hts (.classLink RX5 30 "java/lang/IllegalArgumentException") (List.mem_of_getElem? (i := 1) rfl)
  have k_1 := hts (.initialized "java/lang/IllegalArgumentException") (List.mem_of_getElem? (i := 2) rfl)
  refine lv_aload_n hx hb dX5_change_0 rfl (lv_at hl 0 rfl) ?_
  refine lv_iload_n hx hb dX5_change_1 rfl (lv_at hl 1 rfl) ?_
  refine va_csq (W.runV (As := [.int (nI kc)]) (rest := []) ⟨hx, hb, hml, hown, hts⟩ (m_X5_find_ok l D x pr mk os ch gd mm em1 n cap cO fl co ac cJ pm sm rt fu ini np al acc kc (by first | omega | assumption) (by first | omega | assumption) (by first | omega | assumption) (by first | omega | assumption)) (cwV 1 hts gX5_change_X5_find rfl rfl rfl (by decide +kernel) ⟨Nat.le_of_ble_eq_true rfl, Nat.le_of_ble_eq_true rfl⟩) (z1_V (va_recv hK hP (ci := 5) (q0 := 0) rfl rfl) (hP.sub (ws' := [(x, .inr (5, [.ref pr, .ref mk, .ref os, .long ch, .long gd])), (mk, .inr (0, [.int mm, .ref em1, .int (nI n)])), (em1, .inl (cO, cap, .inr (.inr (.inr (.inr fl))))), (co, .inr (1, [.int pm, .int sm, .int rt, .int (nI fu), .ref ac, .long ini, .int (nI np), .int al])), (ac, .inl (cJ, 3, .inr (.inl acc)))]) [0, 1, 2, 3, 4] rfl) (hK.sub (tys' := [(cO, .object "java/lang/Object"), (cJ, .long)]) [0, 1] rfl) hG) rfl rfl hl.1 rfl (lv_room (Nat.le_of_ble_eq_true rfl)) dX5_change_2 ⟨Nat.le_of_ble_eq_true rfl, Nat.le_of_ble_eq_true rfl⟩) (fun r_1 e_r_1 => ?_)
  replace e_r_1 := e_r_1.symm; subst e_r_1
  refine W.eq (g2 := F0 m 5 ls [.ref co]) rfl ?_
  refine lv_astore (lv' := [(5, .ref co), (0, .ref x), (1, .int (nI kc)), (2, .int (nI fr2)), (3, .int (nI fr2)), (4, .int pct)]) hx hb dX5_change_5 hl (by decide) rfl (fun ls hl => ?_)
  refine lv_iload_n hx hb dX5_change_7 rfl (lv_at hl 3 rfl) ?_
  refine va_csv (W.runS (As := [.int (nI fr2)]) (rest := []) ⟨hx, hb, hml, hown, hts⟩ (m_X5_requireFund_ok l fr2 (by first | omega | assumption)) (va_cwS 1 hts gX5_change_X5_requireFund rfl rfl rfl (by decide +kernel) ⟨Nat.le_of_ble_eq_true rfl, Nat.le_of_ble_eq_true rfl⟩) z0_S rfl rfl hl.1 rfl (lv_room (Nat.le_of_ble_eq_true rfl)) dX5_change_8 ⟨Nat.le_of_ble_eq_true rfl, Nat.le_of_ble_eq_true rfl⟩) (fun _ => ?_)
  refine lv_iload_n hx hb dX5_change_11 rfl (lv_at hl 4 rfl) ?_
  refine va_csv (W.runS (As := [.int (nI fr2)]) (rest := []) ⟨hx, hb, hml, hown, hts⟩ (m_X5_requireFund_ok l fr2 (by first | omega | assumption)) (va_cwS 1 hts gX5_change_X5_requireFund rfl rfl rfl (by decide +kernel) ⟨Nat.le_of_ble_eq_true rfl, Nat.le_of_ble_eq_true rfl⟩) z0_S rfl rfl hl.1 rfl (lv_room (Nat.le_of_ble_eq_true rfl)) dX5_change_12 ⟨Nat.le_of_ble_eq_true rfl, Nat.le_of_ble_eq_true rfl⟩) (fun _ => ?_)
  refine lv_iload_n hx hb dX5_change_15 rfl (lv_at hl 3 rfl) ?_
  refine lv_iload_n hx hb dX5_change_16 rfl (lv_at hl 4 rfl) ?_
  refine lv_icmp_ne (tgt := 30) hx hb dX5_change_17 (by decide) (fun h9 => absurd ((nI_eq (a := fr2) (b := fr2) (by omega) (by omega)).mpr (by omega)) h9) (fun _ => ?_)
  exact zthrow (E := "java/lang/IllegalArgumentException") (text := "both funds are the same") hnt hx hb hown (by decide +kernel) k_0 k_1 hG (by decide +kernel) (fun w h => hts w (List.mem_cons_of_mem _ (List.mem_append_left _ (List.mem_append_left _ (List.mem_append_right _ h))))) zB_34 (by decide +kernel) zG_34 hH (hl.1.trans hml.symm) dX5_change_20 dX5_change_23 dX5_change_24 dX5_change_26 dX5_change_29 hno (Nat.le_of_ble_eq_true rfl) (Nat.le_of_ble_eq_true rfl) (Nat.le_of_ble_eq_true rfl) (Nat.le_of_ble_eq_true rfl) hlocks (Nat.le_of_ble_eq_true rfl) (Nat.le_of_ble_eq_true rfl)

set_option maxHeartbeats 4000000 in
set_option maxRecDepth 100000 in
/-- change: b3 -/
theorem m_X5_change_b3 (l : Launch) (hnt : l.stackTraces = false) (D : va_G) (x pr mk os : Nat) (ch gd : Int64) (mm : Int32) (em1 n : Nat) (cap : Nat) (cO : ClassId) (fl : Nat → Option Nat) (co ac : Nat) (cJ : ClassId) (pm sm rt : Int32) (fu : Nat) (ini : Int64) (np : Nat) (al : Int32) (acc : Nat → Int64) (kc : Nat) (fr2 tt : Nat) (pct : Int32) (em : Nat) (hkc : kc < n) (hn : n ≤ cap) (hcap : cap ≤ 800) (hfl : fl kc = some co) (hf : fr2 < 3) (hg : tt < 3) (hne : fr2 ≠ tt) (h4 : k_isIn pct (nI 1) (nI 100) = nI 0) : vx_Met l yX5_change wsX5_change ({ frames := 6, cells := 1, slots := 6, locals := 92 }) (zt D [(x, .inr (5, [.ref pr, .ref mk, .ref os, .long ch, .long gd])), (mk, .inr (0, [.int mm, .ref em1, .int (nI n)])), (em1, .inl (cO, cap, .inr (.inr (.inr (.inr fl))))), (co, .inr (1, [.int pm, .int sm, .int rt, .int (nI fu), .ref ac, .long ini, .int (nI np), .int al])), (ac, .inl (cJ, 3, .inr (.inl acc)))] [(cO, .object "java/lang/Object"), (cJ, .long)] em [.ref x, .int (nI kc), .int (nI fr2), .int (nI tt), .int pct]) Qf (XE "java/lang/IllegalArgumentException") 1 6 NA := by
  refine zmt (cc := cX5_change) (maxL := 6) (ret := (some .int)) (by decide) rfl (Nat.le_of_ble_eq_true rfl) ?_
  intro p e s m below meth c ls hno hx hb hml hr hlocks hown hts hP hK hG hH hl
  have hl : lv_has ls 6 [(0, .ref x), (1, .int (nI kc)), (2, .int (nI fr2)), (3, .int (nI tt)), (4, .int pct)] := hl
  have k_0 := hts (.classLink RX5 30 "java/lang/IllegalArgumentException") (List.mem_of_getElem? (i := 1) rfl)
  have k_1 := hts (.initialized "java/lang/IllegalArgumentException") (List.mem_of_getElem? (i := 2) rfl)
  refine lv_aload_n hx hb dX5_change_0 rfl (lv_at hl 0 rfl) ?_
  refine lv_iload_n hx hb dX5_change_1 rfl (lv_at hl 1 rfl) ?_
  refine va_csq (W.runV (As := [.int (nI kc)]) (rest := []) ⟨hx, hb, hml, hown, hts⟩ (m_X5_find_ok l D x pr mk os ch gd mm em1 n cap cO fl co ac cJ pm sm rt fu ini np al acc kc (by first | omega | assumption) (by first | omega | assumption) (by first | omega | assumption) (by first | omega | assumption)) (cwV 1 hts gX5_change_X5_find rfl rfl rfl (by decide +kernel) ⟨Nat.le_of_ble_eq_true rfl, Nat.le_of_ble_eq_true rfl⟩) (z1_V (va_recv hK hP (ci := 5) (q0 := 0) rfl rfl) (hP.sub (ws' := [(x, .inr (5, [.ref pr, .ref mk, .ref os, .long ch, .long gd])), (mk, .inr (0, [.int mm, .ref em1, .int (nI n)])), (em1, .inl (cO, cap, .inr (.inr (.inr (.inr fl))))), (co, .inr (1, [.int pm, .int sm, .int rt, .int (nI fu), .ref ac, .long ini, .int (nI np), .int al])), (ac, .inl (cJ, 3, .inr (.inl acc)))]) [0, 1, 2, 3, 4] rfl) (hK.sub (tys' := [(cO, .object "java/lang/Object"), (cJ, .long)]) [0, 1] rfl) hG) rfl rfl hl.1 rfl (lv_room (Nat.le_of_ble_eq_true rfl)) dX5_change_2 ⟨Nat.le_of_ble_eq_true rfl, Nat.le_of_ble_eq_true rfl⟩) (fun r_1 e_r_1 => ?_)
  replace e_r_1 := e_r_1.symm; subst e_r_1
  refine W.eq (g2 := F0 m 5 ls [.ref co]) rfl ?_
  refine lv_astore (lv' := [(5, .ref co), (0, .ref x), (1, .int (nI kc)), (2, .int (nI fr2)), (3, .int (nI tt)), (4, .int pct)]) hx hb dX5_change_5 hl (by decide) rfl (fun ls hl => ?_)
  refine lv_iload_n hx hb dX5_change_7 rfl (lv_at hl 3 rfl) ?_
  refine va_csv (W.runS (As := [.int (nI fr2)]) (rest := []) ⟨hx, hb, hml, hown, hts⟩ (m_X5_requireFund_ok l fr2 (by first | omega | assumption)) (va_cwS 1 hts gX5_change_X5_requireFund rfl rfl rfl (by decide +kernel) ⟨Nat.le_of_ble_eq_true rfl, Nat.le_of_ble_eq_true rfl⟩) z0_S rfl rfl hl.1 rfl (lv_room (Nat.le_of_ble_eq_true rfl)) dX5_change_8 ⟨Nat.le_of_ble_eq_true rfl, Nat.le_of_ble_eq_true rfl⟩) (fun _ => ?_)
  refine lv_iload_n hx hb dX5_change_11 rfl (lv_at hl 4 rfl) ?_
  refine va_csv (W.runS (As := [.int (nI tt)]) (rest := []) ⟨hx, hb, hml, hown, hts⟩ (m_X5_requireFund_ok l tt (by first | omega | assumption)) (va_cwS 1 hts gX5_change_X5_requireFund rfl rfl rfl (by decide +kernel) ⟨Nat.le_of_ble_eq_true rfl, Nat.le_of_ble_eq_true rfl⟩) z0_S rfl rfl hl.1 rfl (lv_room (Nat.le_of_ble_eq_true rfl)) dX5_change_12 ⟨Nat.le_of_ble_eq_true rfl, Nat.le_of_ble_eq_true rfl⟩) (fun _ => ?_)
  refine lv_iload_n hx hb dX5_change_15 rfl (lv_at hl 3 rfl) ?_
  refine lv_iload_n hx hb dX5_change_16 rfl (lv_at hl 4 rfl) ?_
  refine lv_icmp_ne (tgt := 30) hx hb dX5_change_17 (by decide) (fun _ => ?_) (fun h9 => absurd h9 (fun h8 => absurd ((nI_eq (a := fr2) (b := tt) (by omega) (by omega)).mp h8) (by omega)))
  refine lv_iload hx hb dX5_change_30 (lv_at hl 5 rfl) ?_
  refine lv_iconst (v := nI 1) hx hb dX5_change_32 (by decide) ?_
  refine lv_icmp_lt (tgt := 43) hx hb dX5_change_33 (by decide) (fun c_33 => ?_) (fun c_33 => ?_)
  · skip
    exact zthrow (E := "java/lang/IllegalArgumentException") (text := "percent is out of range") hnt hx hb hown (by decide +kernel) k_0 k_1 hG (by decide +kernel) (fun w h => hts w (List.mem_cons_of_mem _ (List.mem_append_left _ (List.mem_append_left _ (List.mem_append_right _ h))))) zB_34 (by decide +kernel) zG_34 hH (hl.1.trans hml.symm) dX5_change_43 dX5_change_46 dX5_change_47 dX5_change_49 dX5_change_52 hno (Nat.le_of_ble_eq_true rfl) (Nat.le_of_ble_eq_true rfl) (Nat.le_of_ble_eq_true rfl) (Nat.le_of_ble_eq_true rfl) hlocks (Nat.le_of_ble_eq_true rfl) (Nat.le_of_ble_eq_true rfl)
  · skip
    refine lv_iload hx hb dX5_change_36 (lv_at hl 5 rfl) ?_
    refine lv_bipush (v := nI 100) hx hb dX5_change_38 (by decide) ?_
    refine lv_icmp_le (tgt := 53) hx hb dX5_change_40 (by decide) (fun h9 => absurd h9 (Int32.not_le.mpr (k_isIn_hi h4 c_33))) (fun _ => ?_)
    exact zthrow (E := "java/lang/IllegalArgumentException") (text := "percent is out of range") hnt hx hb hown (by decide +kernel) k_0 k_1 hG (by decide +kernel) (fun w h => hts w (List.mem_cons_of_mem _ (List.mem_append_left _ (List.mem_append_left _ (List.mem_append_right _ h))))) zB_34 (by decide +kernel) zG_34 hH (hl.1.trans hml.symm) dX5_change_43 dX5_change_46 dX5_change_47 dX5_change_49 dX5_change_52 hno (Nat.le_of_ble_eq_true rfl) (Nat.le_of_ble_eq_true rfl) (Nat.le_of_ble_eq_true rfl) (Nat.le_of_ble_eq_true rfl) hlocks (Nat.le_of_ble_eq_true rfl) (Nat.le_of_ble_eq_true rfl)

set_option maxHeartbeats 4000000 in
set_option maxRecDepth 100000 in
/-- change: off -/
theorem m_X5_change_off (l : Launch) (hnt : l.stackTraces = false) (D : va_G) (x pr mk os : Nat) (ch gd : Int64) (mm : Int32) (em1 n : Nat) (cap : Nat) (cO : ClassId) (fl : Nat → Option Nat) (co ac : Nat) (cJ : ClassId) (pm sm rt : Int32) (fu : Nat) (ini : Int64) (np : Nat) (al : Int32) (acc : Nat → Int64) (kc : Nat) (fr2 tt : Nat) (pct : Int32) (em : Nat) (hkc : kc < n) (hn : n ≤ cap) (hcap : cap ≤ 800) (hfl : fl kc = some co) (hf : fr2 < 3) (hg : tt < 3) (hne : fr2 ≠ tt) (h4 : k_isIn pct (nI 1) (nI 100) = nI 1) (hal : al = nI 0) : vx_Met l yX5_change wsX5_change ({ frames := 7, cells := 1, slots := 6, locals := 112 }) (zt D [(x, .inr (5, [.ref pr, .ref mk, .ref os, .long ch, .long gd])), (mk, .inr (0, [.int mm, .ref em1, .int (nI n)])), (em1, .inl (cO, cap, .inr (.inr (.inr (.inr fl))))), (co, .inr (1, [.int pm, .int sm, .int rt, .int (nI fu), .ref ac, .long ini, .int (nI np), .int al])), (ac, .inl (cJ, 3, .inr (.inl acc)))] [(cO, .object "java/lang/Object"), (cJ, .long)] em [.ref x, .int (nI kc), .int (nI fr2), .int (nI tt), .int pct]) Qf (XE "java/lang/IllegalStateException") 1 6 NA := by
  refine zmt (cc := cX5_change) (maxL := 6) (ret := (some .int)) (by decide) rfl (Nat.le_of_ble_eq_true rfl) ?_
  intro p e s m below meth c ls hno hx hb hml hr hlocks hown hts hP hK hG hH hl
  have hl : lv_has ls 6 [(0, .ref x), (1, .int (nI kc)), (2, .int (nI fr2)), (3, .int (nI tt)), (4, .int pct)] := hl
  refine lv_aload_n hx hb dX5_change_0 rfl (lv_at hl 0 rfl) ?_
  refine lv_iload_n hx hb dX5_change_1 rfl (lv_at hl 1 rfl) ?_
  refine va_csq (W.runV (As := [.int (nI kc)]) (rest := []) ⟨hx, hb, hml, hown, hts⟩ (m_X5_find_ok l D x pr mk os ch gd mm em1 n cap cO fl co ac cJ pm sm rt fu ini np al acc kc (by first | omega | assumption) (by first | omega | assumption) (by first | omega | assumption) (by first | omega | assumption)) (cwV 1 hts gX5_change_X5_find rfl rfl rfl (by decide +kernel) ⟨Nat.le_of_ble_eq_true rfl, Nat.le_of_ble_eq_true rfl⟩) (z1_V (va_recv hK hP (ci := 5) (q0 := 0) rfl rfl) (hP.sub (ws' := [(x, .inr (5, [.ref pr, .ref mk, .ref os, .long ch, .long gd])), (mk, .inr (0, [.int mm, .ref em1, .int (nI n)])), (em1, .inl (cO, cap, .inr (.inr (.inr (.inr fl))))), (co, .inr (1, [.int pm, .int sm, .int rt, .int (nI fu), .ref ac, .long ini, .int (nI np), .int al])), (ac, .inl (cJ, 3, .inr (.inl acc)))]) [0, 1, 2, 3, 4] rfl) (hK.sub (tys' := [(cO, .object "java/lang/Object"), (cJ, .long)]) [0, 1] rfl) hG) rfl rfl hl.1 rfl (lv_room (Nat.le_of_ble_eq_true rfl)) dX5_change_2 ⟨Nat.le_of_ble_eq_true rfl, Nat.le_of_ble_eq_true rfl⟩) (fun r_1 e_r_1 => ?_)
  replace e_r_1 := e_r_1.symm; subst e_r_1
  refine W.eq (g2 := F0 m 5 ls [.ref co]) rfl ?_
  refine lv_astore (lv' := [(5, .ref co), (0, .ref x), (1, .int (nI kc)), (2, .int (nI fr2)), (3, .int (nI tt)), (4, .int pct)]) hx hb dX5_change_5 hl (by decide) rfl (fun ls hl => ?_)
  refine lv_iload_n hx hb dX5_change_7 rfl (lv_at hl 3 rfl) ?_
  refine va_csv (W.runS (As := [.int (nI fr2)]) (rest := []) ⟨hx, hb, hml, hown, hts⟩ (m_X5_requireFund_ok l fr2 (by first | omega | assumption)) (va_cwS 1 hts gX5_change_X5_requireFund rfl rfl rfl (by decide +kernel) ⟨Nat.le_of_ble_eq_true rfl, Nat.le_of_ble_eq_true rfl⟩) z0_S rfl rfl hl.1 rfl (lv_room (Nat.le_of_ble_eq_true rfl)) dX5_change_8 ⟨Nat.le_of_ble_eq_true rfl, Nat.le_of_ble_eq_true rfl⟩) (fun _ => ?_)
  refine lv_iload_n hx hb dX5_change_11 rfl (lv_at hl 4 rfl) ?_
  refine va_csv (W.runS (As := [.int (nI tt)]) (rest := []) ⟨hx, hb, hml, hown, hts⟩ (m_X5_requireFund_ok l tt (by first | omega | assumption)) (va_cwS 1 hts gX5_change_X5_requireFund rfl rfl rfl (by decide +kernel) ⟨Nat.le_of_ble_eq_true rfl, Nat.le_of_ble_eq_true rfl⟩) z0_S rfl rfl hl.1 rfl (lv_room (Nat.le_of_ble_eq_true rfl)) dX5_change_12 ⟨Nat.le_of_ble_eq_true rfl, Nat.le_of_ble_eq_true rfl⟩) (fun _ => ?_)
  refine lv_iload_n hx hb dX5_change_15 rfl (lv_at hl 3 rfl) ?_
  refine lv_iload_n hx hb dX5_change_16 rfl (lv_at hl 4 rfl) ?_
  refine lv_icmp_ne (tgt := 30) hx hb dX5_change_17 (by decide) (fun _ => ?_) (fun h9 => absurd h9 (fun h8 => absurd ((nI_eq (a := fr2) (b := tt) (by omega) (by omega)).mp h8) (by omega)))
  refine lv_iload hx hb dX5_change_30 (lv_at hl 5 rfl) ?_
  refine lv_iconst (v := nI 1) hx hb dX5_change_32 (by decide) ?_
  refine lv_icmp_lt (tgt := 43) hx hb dX5_change_33 (by decide) (fun h9 => absurd h9 (k_isIn_1 h4).1) (fun _ => ?_)
  refine lv_iload hx hb dX5_change_36 (lv_at hl 5 rfl) ?_
  refine lv_bipush (v := nI 100) hx hb dX5_change_38 (by decide) ?_
  refine lv_icmp_le (tgt := 53) hx hb dX5_change_40 (by decide) (fun _ => ?_) (fun h9 => absurd (Int32.not_lt.mp (k_isIn_1 h4).2) h9)
  refine lv_aload hx hb dX5_change_53 (lv_at hl 0 rfl) ?_
  exact zthru (vx_runS (As := [.ref co]) (rest := []) ⟨hx, hb, hml, hown, hts⟩ (m_X5_requireInForce_b l hnt D co ac cJ pm sm rt fu ini np al acc em (by first | omega | assumption)) (va_cwS 1 hts gX5_change_X5_requireInForce rfl rfl rfl (by decide +kernel) ⟨Nat.le_of_ble_eq_true rfl, Nat.le_of_ble_eq_true rfl⟩) (zt_S (hP.sub (ws' := [(co, .inr (1, [.int pm, .int sm, .int rt, .int (nI fu), .ref ac, .long ini, .int (nI np), .int al])), (ac, .inl (cJ, 3, .inr (.inl acc)))]) [3, 4] rfl) (hK.sub (tys' := [(cJ, .long)]) [1] rfl) hG hH) rfl rfl hl.1 rfl (lv_room (Nat.le_of_ble_eq_true rfl)) dX5_change_55 ⟨Nat.le_of_ble_eq_true rfl, Nat.le_of_ble_eq_true rfl⟩) hno hlocks (Nat.le_of_ble_eq_true rfl) (Nat.le_of_ble_eq_true rfl)

set_option maxHeartbeats 4000000 in
set_option maxRecDepth 100000 in
/-- backdate: b0 -/
theorem m_X5_backdate_b0 (l : Launch) (hnt : l.stackTraces = false) (D : va_G) (x pr mk os : Nat) (ch gd : Int64) (mm : Int32) (em1 n : Nat) (cap : Nat) (cO : ClassId) (fl : Nat → Option Nat) (co ac : Nat) (cJ : ClassId) (pm sm rt : Int32) (fu : Nat) (ini : Int64) (np : Nat) (al : Int32) (acc : Nat → Int64) (kc : Nat) (bd : Nat) (t : Nat) (y : Int32) (em : Nat) (hkc : kc < n) (hn : n ≤ cap) (hcap : cap ≤ 800) (hfl : fl kc = some co) (h1 : k_isIn y (nI 0) (nI t) = nI 0) : vx_Met l yX5_backdate wsX5_backdate ({ frames := 7, cells := 1, slots := 6, locals := 113 }) (zt D [(x, .inr (5, [.ref pr, .ref mk, .ref os, .long ch, .long gd])), (mk, .inr (0, [.int mm, .ref em1, .int (nI n)])), (em1, .inl (cO, cap, .inr (.inr (.inr (.inr fl))))), (co, .inr (1, [.int pm, .int sm, .int rt, .int (nI fu), .ref ac, .long ini, .int (nI np), .int al])), (ac, .inl (cJ, 3, .inr (.inl acc))), (pr, .inr (3, [.ref bd, .int (nI t)]))] [(cO, .object "java/lang/Object"), (cJ, .long)] em [.ref x, .int (nI kc), .int y]) Qf (XE "java/lang/IllegalArgumentException") 1 6 NA := by
  refine zmt (cc := cX5_backdate) (maxL := 9) (ret := (some .int)) (by decide) rfl (Nat.le_of_ble_eq_true rfl) ?_
  intro p e s m below meth c ls hno hx hb hml hr hlocks hown hts hP hK hG hH hl
  have hl : lv_has ls 9 [(0, .ref x), (1, .int (nI kc)), (2, .int y)] := hl
  refine lv_aload_n hx hb dX5_backdate_0 rfl (lv_at hl 0 rfl) ?_
  refine lv_iload_n hx hb dX5_backdate_1 rfl (lv_at hl 1 rfl) ?_
  refine va_csq (W.runV (As := [.int (nI kc)]) (rest := []) ⟨hx, hb, hml, hown, hts⟩ (m_X5_find_ok l D x pr mk os ch gd mm em1 n cap cO fl co ac cJ pm sm rt fu ini np al acc kc (by first | omega | assumption) (by first | omega | assumption) (by first | omega | assumption) (by first | omega | assumption)) (cwV 1 hts gX5_backdate_X5_find rfl rfl rfl (by decide +kernel) ⟨Nat.le_of_ble_eq_true rfl, Nat.le_of_ble_eq_true rfl⟩) (z1_V (va_recv hK hP (ci := 5) (q0 := 0) rfl rfl) (hP.sub (ws' := [(x, .inr (5, [.ref pr, .ref mk, .ref os, .long ch, .long gd])), (mk, .inr (0, [.int mm, .ref em1, .int (nI n)])), (em1, .inl (cO, cap, .inr (.inr (.inr (.inr fl))))), (co, .inr (1, [.int pm, .int sm, .int rt, .int (nI fu), .ref ac, .long ini, .int (nI np), .int al])), (ac, .inl (cJ, 3, .inr (.inl acc)))]) [0, 1, 2, 3, 4] rfl) (hK.sub (tys' := [(cO, .object "java/lang/Object"), (cJ, .long)]) [0, 1] rfl) hG) rfl rfl hl.1 rfl (lv_room (Nat.le_of_ble_eq_true rfl)) dX5_backdate_2 ⟨Nat.le_of_ble_eq_true rfl, Nat.le_of_ble_eq_true rfl⟩) (fun r_1 e_r_1 => ?_)
  replace e_r_1 := e_r_1.symm; subst e_r_1
  refine W.eq (g2 := F0 m 5 ls [.ref co]) rfl ?_
  refine lv_astore_n (lv' := [(3, .ref co), (0, .ref x), (1, .int (nI kc)), (2, .int y)]) hx hb dX5_backdate_5 rfl hl (by decide) rfl (fun ls hl => ?_)
  refine lv_aload_n hx hb dX5_backdate_6 rfl (lv_at hl 1 rfl) ?_
  refine lv_iload_n hx hb dX5_backdate_7 rfl (lv_at hl 3 rfl) ?_
  exact zthru (vx_runV (As := [.int y]) (rest := []) ⟨hx, hb, hml, hown, hts⟩ (m_X5_requireDay_b l hnt D x pr mk os ch gd bd t y em (by first | omega | assumption)) (cwV 1 hts gX5_backdate_X5_requireDay rfl rfl rfl (by decide +kernel) ⟨Nat.le_of_ble_eq_true rfl, Nat.le_of_ble_eq_true rfl⟩) (zt_V (va_recv hK hP (ci := 5) (q0 := 0) rfl rfl) (hP.sub (ws' := [(x, .inr (5, [.ref pr, .ref mk, .ref os, .long ch, .long gd])), (pr, .inr (3, [.ref bd, .int (nI t)]))]) [0, 5] rfl) (hK.sub (tys' := []) [] rfl) hG hH) rfl rfl hl.1 rfl (lv_room (Nat.le_of_ble_eq_true rfl)) dX5_backdate_8 ⟨Nat.le_of_ble_eq_true rfl, Nat.le_of_ble_eq_true rfl⟩) hno hlocks (Nat.le_of_ble_eq_true rfl) (Nat.le_of_ble_eq_true rfl)

set_option maxHeartbeats 4000000 in
set_option maxRecDepth 100000 in
/-- backdate: off -/
theorem m_X5_backdate_off (l : Launch) (hnt : l.stackTraces = false) (D : va_G) (x pr mk os : Nat) (ch gd : Int64) (mm : Int32) (em1 n : Nat) (cap : Nat) (cO : ClassId) (fl : Nat → Option Nat) (co ac : Nat) (cJ : ClassId) (pm sm rt : Int32) (fu : Nat) (ini : Int64) (np : Nat) (al : Int32) (acc : Nat → Int64) (kc : Nat) (bd : Nat) (t : Nat) (dd : Nat) (em : Nat) (hkc : kc < n) (hn : n ≤ cap) (hcap : cap ≤ 800) (hfl : fl kc = some co) (hd : dd ≤ t) (ht : t ≤ 2000) (hal : al = nI 0) : vx_Met l yX5_backdate wsX5_backdate ({ frames := 7, cells := 1, slots := 6, locals := 112 }) (zt D [(x, .inr (5, [.ref pr, .ref mk, .ref os, .long ch, .long gd])), (mk, .inr (0, [.int mm, .ref em1, .int (nI n)])), (em1, .inl (cO, cap, .inr (.inr (.inr (.inr fl))))), (co, .inr (1, [.int pm, .int sm, .int rt, .int (nI fu), .ref ac, .long ini, .int (nI np), .int al])), (ac, .inl (cJ, 3, .inr (.inl acc))), (pr, .inr (3, [.ref bd, .int (nI t)]))] [(cO, .object "java/lang/Object"), (cJ, .long)] em [.ref x, .int (nI kc), .int (nI dd)]) Qf (XE "java/lang/IllegalStateException") 1 6 NA := by
  refine zmt (cc := cX5_backdate) (maxL := 9) (ret := (some .int)) (by decide) rfl (Nat.le_of_ble_eq_true rfl) ?_
  intro p e s m below meth c ls hno hx hb hml hr hlocks hown hts hP hK hG hH hl
  have hl : lv_has ls 9 [(0, .ref x), (1, .int (nI kc)), (2, .int (nI dd))] := hl
  refine lv_aload_n hx hb dX5_backdate_0 rfl (lv_at hl 0 rfl) ?_
  refine lv_iload_n hx hb dX5_backdate_1 rfl (lv_at hl 1 rfl) ?_
  refine va_csq (W.runV (As := [.int (nI kc)]) (rest := []) ⟨hx, hb, hml, hown, hts⟩ (m_X5_find_ok l D x pr mk os ch gd mm em1 n cap cO fl co ac cJ pm sm rt fu ini np al acc kc (by first | omega | assumption) (by first | omega | assumption) (by first | omega | assumption) (by first | omega | assumption)) (cwV 1 hts gX5_backdate_X5_find rfl rfl rfl (by decide +kernel) ⟨Nat.le_of_ble_eq_true rfl, Nat.le_of_ble_eq_true rfl⟩) (z1_V (va_recv hK hP (ci := 5) (q0 := 0) rfl rfl) (hP.sub (ws' := [(x, .inr (5, [.ref pr, .ref mk, .ref os, .long ch, .long gd])), (mk, .inr (0, [.int mm, .ref em1, .int (nI n)])), (em1, .inl (cO, cap, .inr (.inr (.inr (.inr fl))))), (co, .inr (1, [.int pm, .int sm, .int rt, .int (nI fu), .ref ac, .long ini, .int (nI np), .int al])), (ac, .inl (cJ, 3, .inr (.inl acc)))]) [0, 1, 2, 3, 4] rfl) (hK.sub (tys' := [(cO, .object "java/lang/Object"), (cJ, .long)]) [0, 1] rfl) hG) rfl rfl hl.1 rfl (lv_room (Nat.le_of_ble_eq_true rfl)) dX5_backdate_2 ⟨Nat.le_of_ble_eq_true rfl, Nat.le_of_ble_eq_true rfl⟩) (fun r_1 e_r_1 => ?_)
  replace e_r_1 := e_r_1.symm; subst e_r_1
  refine W.eq (g2 := F0 m 5 ls [.ref co]) rfl ?_
  refine lv_astore_n (lv' := [(3, .ref co), (0, .ref x), (1, .int (nI kc)), (2, .int (nI dd))]) hx hb dX5_backdate_5 rfl hl (by decide) rfl (fun ls hl => ?_)
  refine lv_aload_n hx hb dX5_backdate_6 rfl (lv_at hl 1 rfl) ?_
  refine lv_iload_n hx hb dX5_backdate_7 rfl (lv_at hl 3 rfl) ?_
  refine va_csv (W.runV (As := [.int (nI dd)]) (rest := []) ⟨hx, hb, hml, hown, hts⟩ (m_X5_requireDay_ok l D x pr mk os ch gd bd t dd (by first | omega | assumption) (by first | omega | assumption)) (cwV 1 hts gX5_backdate_X5_requireDay rfl rfl rfl (by decide +kernel) ⟨Nat.le_of_ble_eq_true rfl, Nat.le_of_ble_eq_true rfl⟩) (z1_V (va_recv hK hP (ci := 5) (q0 := 0) rfl rfl) (hP.sub (ws' := [(x, .inr (5, [.ref pr, .ref mk, .ref os, .long ch, .long gd])), (pr, .inr (3, [.ref bd, .int (nI t)]))]) [0, 5] rfl) (hK.sub (tys' := []) [] rfl) hG) rfl rfl hl.1 rfl (lv_room (Nat.le_of_ble_eq_true rfl)) dX5_backdate_8 ⟨Nat.le_of_ble_eq_true rfl, Nat.le_of_ble_eq_true rfl⟩) (fun _ => ?_)
  refine lv_aload_n hx hb dX5_backdate_11 rfl (lv_at hl 0 rfl) ?_
  exact zthru (vx_runS (As := [.ref co]) (rest := []) ⟨hx, hb, hml, hown, hts⟩ (m_X5_requireInForce_b l hnt D co ac cJ pm sm rt fu ini np al acc em (by first | omega | assumption)) (va_cwS 1 hts gX5_backdate_X5_requireInForce rfl rfl rfl (by decide +kernel) ⟨Nat.le_of_ble_eq_true rfl, Nat.le_of_ble_eq_true rfl⟩) (zt_S (hP.sub (ws' := [(co, .inr (1, [.int pm, .int sm, .int rt, .int (nI fu), .ref ac, .long ini, .int (nI np), .int al])), (ac, .inl (cJ, 3, .inr (.inl acc)))]) [3, 4] rfl) (hK.sub (tys' := [(cJ, .long)]) [1] rfl) hG hH) rfl rfl hl.1 rfl (lv_room (Nat.le_of_ble_eq_true rfl)) dX5_backdate_12 ⟨Nat.le_of_ble_eq_true rfl, Nat.le_of_ble_eq_true rfl⟩) hno hlocks (Nat.le_of_ble_eq_true rfl) (Nat.le_of_ble_eq_true rfl)

set_option maxHeartbeats 4000000 in
set_option maxRecDepth 100000 in
/-- units: b0 -/
theorem m_X5_units_b0 (l : Launch) (hnt : l.stackTraces = false) (D : va_G) (x pr mk os : Nat) (ch gd : Int64) (mm : Int32) (em1 n : Nat) (cap : Nat) (cO : ClassId) (fl : Nat → Option Nat) (co ac : Nat) (cJ : ClassId) (pm sm rt : Int32) (fu : Nat) (ini : Int64) (np : Nat) (al : Int32) (acc : Nat → Int64) (kc : Nat) (z : Int32) (em : Nat) (hkc : kc < n) (hn : n ≤ cap) (hcap : cap ≤ 800) (hfl : fl kc = some co) (h1 : k_isFund z = nI 0) : vx_Met l yX5_units wsX5_units ({ frames := 7, cells := 1, slots := 6, locals := 112 }) (zt D [(x, .inr (5, [.ref pr, .ref mk, .ref os, .long ch, .long gd])), (mk, .inr (0, [.int mm, .ref em1, .int (nI n)])), (em1, .inl (cO, cap, .inr (.inr (.inr (.inr fl))))), (co, .inr (1, [.int pm, .int sm, .int rt, .int (nI fu), .ref ac, .long ini, .int (nI np), .int al])), (ac, .inl (cJ, 3, .inr (.inl acc)))] [(cO, .object "java/lang/Object"), (cJ, .long)] em [.ref x, .int (nI kc), .int z]) Qf (XE "java/lang/IllegalArgumentException") 1 6 NA := by
  refine zmt (cc := cX5_units) (maxL := 4) (ret := (some .long)) (by decide) rfl (Nat.le_of_ble_eq_true rfl) ?_
  intro p e s m below meth c ls hno hx hb hml hr hlocks hown hts hP hK hG hH hl
  have hl : lv_has ls 4 [(0, .ref x), (1, .int (nI kc)), (2, .int z)] := hl
  refine lv_aload_n hx hb dX5_units_0 rfl (lv_at hl 0 rfl) ?_
  refine lv_iload_n hx hb dX5_units_1 rfl (lv_at hl 1 rfl) ?_
  refine va_csq (W.runV (As := [.int (nI kc)]) (rest := []) ⟨hx, hb, hml, hown, hts⟩ (m_X5_find_ok l D x pr mk os ch gd mm em1 n cap cO fl co ac cJ pm sm rt fu ini np al acc kc (by first | omega | assumption) (by first | omega | assumption) (by first | omega | assumption) (by first | omega | assumption)) (cwV 1 hts gX5_units_X5_find rfl rfl rfl (by decide +kernel) ⟨Nat.le_of_ble_eq_true rfl, Nat.le_of_ble_eq_true rfl⟩) (z1_V (va_recv hK hP (ci := 5) (q0 := 0) rfl rfl) (hP.sub (ws' := [(x, .inr (5, [.ref pr, .ref mk, .ref os, .long ch, .long gd])), (mk, .inr (0, [.int mm, .ref em1, .int (nI n)])), (em1, .inl (cO, cap, .inr (.inr (.inr (.inr fl))))), (co, .inr (1, [.int pm, .int sm, .int rt, .int (nI fu), .ref ac, .long ini, .int (nI np), .int al])), (ac, .inl (cJ, 3, .inr (.inl acc)))]) [0, 1, 2, 3, 4] rfl) (hK.sub (tys' := [(cO, .object "java/lang/Object"), (cJ, .long)]) [0, 1] rfl) hG) rfl rfl hl.1 rfl (lv_room (Nat.le_of_ble_eq_true rfl)) dX5_units_2 ⟨Nat.le_of_ble_eq_true rfl, Nat.le_of_ble_eq_true rfl⟩) (fun r_1 e_r_1 => ?_)
  replace e_r_1 := e_r_1.symm; subst e_r_1
  refine W.eq (g2 := F0 m 5 ls [.ref co]) rfl ?_
  refine lv_astore_n (lv' := [(3, .ref co), (0, .ref x), (1, .int (nI kc)), (2, .int z)]) hx hb dX5_units_5 rfl hl (by decide) rfl (fun ls hl => ?_)
  refine lv_iload_n hx hb dX5_units_6 rfl (lv_at hl 3 rfl) ?_
  exact zthru (vx_runS (As := [.int z]) (rest := []) ⟨hx, hb, hml, hown, hts⟩ (m_X5_requireFund_b l hnt D z em (by first | omega | assumption)) (va_cwS 1 hts gX5_units_X5_requireFund rfl rfl rfl (by decide +kernel) ⟨Nat.le_of_ble_eq_true rfl, Nat.le_of_ble_eq_true rfl⟩) (zt_S (hP.sub (ws' := []) [] rfl) (hK.sub (tys' := []) [] rfl) hG hH) rfl rfl hl.1 rfl (lv_room (Nat.le_of_ble_eq_true rfl)) dX5_units_7 ⟨Nat.le_of_ble_eq_true rfl, Nat.le_of_ble_eq_true rfl⟩) hno hlocks (Nat.le_of_ble_eq_true rfl) (Nat.le_of_ble_eq_true rfl)

set_option maxHeartbeats 4000000 in
set_option maxRecDepth 100000 in
/-- fundUnits: b -/
theorem m_X5_fundUnits_b (l : Launch) (hnt : l.stackTraces = false) (D : va_G) (x : Nat) (z : Int32) (em : Nat) (h1 : k_isFund z = nI 0) : vx_Met l yX5_fundUnits wsX5_fundUnits ({ frames := 7, cells := 1, slots := 6, locals := 112 }) (zt D [] [] em [.ref x, .int z]) Qf (XE "java/lang/IllegalArgumentException") 1 6 NA := by
  refine zmt (cc := cX5_fundUnits) (maxL := 5) (ret := (some .long)) (by decide) rfl (Nat.le_of_ble_eq_true rfl) ?_
  intro p e s m below meth c ls hno hx hb hml hr hlocks hown hts hP hK hG hH hl
  have hl : lv_has ls 5 [(0, .ref x), (1, .int z)] := hl
  refine lv_iload_n hx hb dX5_fundUnits_0 rfl (lv_at hl 1 rfl) ?_
  exact zthru (vx_runS (As := [.int z]) (rest := []) ⟨hx, hb, hml, hown, hts⟩ (m_X5_requireFund_b l hnt D z em (by first | omega | assumption)) (va_cwS 1 hts gX5_fundUnits_X5_requireFund rfl rfl rfl (by decide +kernel) ⟨Nat.le_of_ble_eq_true rfl, Nat.le_of_ble_eq_true rfl⟩) (zt_S (hP.sub (ws' := []) [] rfl) (hK.sub (tys' := []) [] rfl) hG hH) rfl rfl hl.1 rfl (lv_room (Nat.le_of_ble_eq_true rfl)) dX5_fundUnits_1 ⟨Nat.le_of_ble_eq_true rfl, Nat.le_of_ble_eq_true rfl⟩) hno hlocks (Nat.le_of_ble_eq_true rfl) (Nat.le_of_ble_eq_true rfl)

set_option maxHeartbeats 4000000 in
set_option maxRecDepth 100000 in
/-- isInForce: ok -/
theorem m_X5_isInForce_ok (l : Launch) (D : va_G) (x pr mk os : Nat) (ch gd : Int64) (mm : Int32) (em1 n : Nat) (cap : Nat) (cO : ClassId) (fl : Nat → Option Nat) (co ac : Nat) (cJ : ClassId) (pm sm rt : Int32) (fu : Nat) (ini : Int64) (np : Nat) (al : Int32) (acc : Nat → Int64) (kc : Nat) (hkc : kc < n) (hn : n ≤ cap) (hcap : cap ≤ 800) (hfl : fl kc = some co) (hal : narrow .boolean (.int al) = .int al) : Met l yX5_isInForce wsX5_isInForce ({ frames := 4, cells := 0, slots := 0, locals := 85 }) (z1 D [(x, .inr (5, [.ref pr, .ref mk, .ref os, .long ch, .long gd])), (mk, .inr (0, [.int mm, .ref em1, .int (nI n)])), (em1, .inl (cO, cap, .inr (.inr (.inr (.inr fl))))), (co, .inr (1, [.int pm, .int sm, .int rt, .int (nI fu), .ref ac, .long ini, .int (nI np), .int al])), (ac, .inl (cJ, 3, .inr (.inl acc)))] [(cO, .object "java/lang/Object"), (cJ, .long)] [.ref x, .int (nI kc)]) (vp_Si (fun r => r = al)) 0 0 (fun _ => False) := by
  refine zm1 (cc := cX5_isInForce) (maxL := 2) (ret := (some .boolean)) (by decide) rfl (Nat.le_of_ble_eq_true rfl) ?_
  intro p e s m below meth c ls hx hb hml hr hlocks hown hts hP hK hG hl
  have hl : lv_has ls 2 [(0, .ref x), (1, .int (nI kc))] := hl
  refine lv_aload_n hx hb dX5_isInForce_0 rfl (lv_at hl 0 rfl) ?_
  refine lv_iload_n hx hb dX5_isInForce_1 rfl (lv_at hl 1 rfl) ?_
  refine va_csq (W.runV (As := [.int (nI kc)]) (rest := []) ⟨hx, hb, hml, hown, hts⟩ (m_X5_find_ok l D x pr mk os ch gd mm em1 n cap cO fl co ac cJ pm sm rt fu ini np al acc kc (by first | omega | assumption) (by first | omega | assumption) (by first | omega | assumption) (by first | omega | assumption)) (cwV 1 hts gX5_isInForce_X5_find rfl rfl rfl (by decide +kernel) ⟨Nat.le_of_ble_eq_true rfl, Nat.le_of_ble_eq_true rfl⟩) (z1_V (va_recv hK hP (ci := 5) (q0 := 0) rfl rfl) (hP.sub (ws' := [(x, .inr (5, [.ref pr, .ref mk, .ref os, .long ch, .long gd])), (mk, .inr (0, [.int mm, .ref em1, .int (nI n)])), (em1, .inl (cO, cap, .inr (.inr (.inr (.inr fl))))), (co, .inr (1, [.int pm, .int sm, .int rt, .int (nI fu), .ref ac, .long ini, .int (nI np), .int al])), (ac, .inl (cJ, 3, .inr (.inl acc)))]) [0, 1, 2, 3, 4] rfl) (hK.sub (tys' := [(cO, .object "java/lang/Object"), (cJ, .long)]) [0, 1] rfl) hG) rfl rfl hl.1 rfl (lv_room (Nat.le_of_ble_eq_true rfl)) dX5_isInForce_2 ⟨Nat.le_of_ble_eq_true rfl, Nat.le_of_ble_eq_true rfl⟩) (fun r_1 e_r_1 => ?_)
  replace e_r_1 := e_r_1.symm; subst e_r_1
  refine W.eq (g2 := F0 m 5 ls [.ref co]) rfl ?_
  refine vp_callSi (W.runV (As := []) (rest := []) ⟨hx, hb, hml, hown, hts⟩ (m_X0_isAlive l D co ac cJ pm sm rt fu ini np al acc (by first | omega | assumption)) (cwV 0 hts gX5_isInForce_X0_isAlive rfl rfl rfl (by decide +kernel) ⟨Nat.le_of_ble_eq_true rfl, Nat.le_of_ble_eq_true rfl⟩) (z1_V (va_recv hK hP (ci := 1) (q0 := 3) rfl rfl) (hP.sub (ws' := [(co, .inr (1, [.int pm, .int sm, .int rt, .int (nI fu), .ref ac, .long ini, .int (nI np), .int al])), (ac, .inl (cJ, 3, .inr (.inl acc)))]) [3, 4] rfl) (hK.sub (tys' := [(cJ, .long)]) [1] rfl) hG) rfl rfl hl.1 rfl (lv_room (Nat.le_of_ble_eq_true rfl)) dX5_isInForce_5 ⟨Nat.le_of_ble_eq_true rfl, Nat.le_of_ble_eq_true rfl⟩) (fun r_2 e_r_2 => ?_)
  replace e_r_2 := e_r_2.symm; subst e_r_2
  exact zretz1 hx hb hr hlocks dX5_isInForce_8 hal (by first | rfl | (subst_vars; rfl))

set_option maxHeartbeats 4000000 in
set_option maxRecDepth 100000 in
/-- initial: ok -/
theorem m_X5_initial_ok (l : Launch) (D : va_G) (x pr mk os : Nat) (ch gd : Int64) (mm : Int32) (em1 n : Nat) (cap : Nat) (cO : ClassId) (fl : Nat → Option Nat) (co ac : Nat) (cJ : ClassId) (pm sm rt : Int32) (fu : Nat) (ini : Int64) (np : Nat) (al : Int32) (acc : Nat → Int64) (kc : Nat) (hkc : kc < n) (hn : n ≤ cap) (hcap : cap ≤ 800) (hfl : fl kc = some co) : Met l yX5_initial wsX5_initial ({ frames := 4, cells := 0, slots := 0, locals := 85 }) (z1 D [(x, .inr (5, [.ref pr, .ref mk, .ref os, .long ch, .long gd])), (mk, .inr (0, [.int mm, .ref em1, .int (nI n)])), (em1, .inl (cO, cap, .inr (.inr (.inr (.inr fl))))), (co, .inr (1, [.int pm, .int sm, .int rt, .int (nI fu), .ref ac, .long ini, .int (nI np), .int al])), (ac, .inl (cJ, 3, .inr (.inl acc)))] [(cO, .object "java/lang/Object"), (cJ, .long)] [.ref x, .int (nI kc)]) (vp_Sl (fun r => r = ini)) 0 0 (fun _ => False) := by
  refine zm1 (cc := cX5_initial) (maxL := 2) (ret := (some .long)) (by decide) rfl (Nat.le_of_ble_eq_true rfl) ?_
  intro p e s m below meth c ls hx hb hml hr hlocks hown hts hP hK hG hl
  have hl : lv_has ls 2 [(0, .ref x), (1, .int (nI kc))] := hl
  refine lv_aload_n hx hb dX5_initial_0 rfl (lv_at hl 0 rfl) ?_
  refine lv_iload_n hx hb dX5_initial_1 rfl (lv_at hl 1 rfl) ?_
  refine va_csq (W.runV (As := [.int (nI kc)]) (rest := []) ⟨hx, hb, hml, hown, hts⟩ (m_X5_find_ok l D x pr mk os ch gd mm em1 n cap cO fl co ac cJ pm sm rt fu ini np al acc kc (by first | omega | assumption) (by first | omega | assumption) (by first | omega | assumption) (by first | omega | assumption)) (cwV 1 hts gX5_initial_X5_find rfl rfl rfl (by decide +kernel) ⟨Nat.le_of_ble_eq_true rfl, Nat.le_of_ble_eq_true rfl⟩) (z1_V (va_recv hK hP (ci := 5) (q0 := 0) rfl rfl) (hP.sub (ws' := [(x, .inr (5, [.ref pr, .ref mk, .ref os, .long ch, .long gd])), (mk, .inr (0, [.int mm, .ref em1, .int (nI n)])), (em1, .inl (cO, cap, .inr (.inr (.inr (.inr fl))))), (co, .inr (1, [.int pm, .int sm, .int rt, .int (nI fu), .ref ac, .long ini, .int (nI np), .int al])), (ac, .inl (cJ, 3, .inr (.inl acc)))]) [0, 1, 2, 3, 4] rfl) (hK.sub (tys' := [(cO, .object "java/lang/Object"), (cJ, .long)]) [0, 1] rfl) hG) rfl rfl hl.1 rfl (lv_room (Nat.le_of_ble_eq_true rfl)) dX5_initial_2 ⟨Nat.le_of_ble_eq_true rfl, Nat.le_of_ble_eq_true rfl⟩) (fun r_1 e_r_1 => ?_)
  replace e_r_1 := e_r_1.symm; subst e_r_1
  refine W.eq (g2 := F0 m 5 ls [.ref co]) rfl ?_
  refine vp_callSl (W.runV (As := []) (rest := []) ⟨hx, hb, hml, hown, hts⟩ (m_X0_initialLeft l D co ac cJ pm sm rt fu ini np al acc) (cwV 0 hts gX5_initial_X0_initialLeft rfl rfl rfl (by decide +kernel) ⟨Nat.le_of_ble_eq_true rfl, Nat.le_of_ble_eq_true rfl⟩) (z1_V (va_recv hK hP (ci := 1) (q0 := 3) rfl rfl) (hP.sub (ws' := [(co, .inr (1, [.int pm, .int sm, .int rt, .int (nI fu), .ref ac, .long ini, .int (nI np), .int al])), (ac, .inl (cJ, 3, .inr (.inl acc)))]) [3, 4] rfl) (hK.sub (tys' := [(cJ, .long)]) [1] rfl) hG) rfl rfl hl.1 rfl (lv_room (Nat.le_of_ble_eq_true rfl)) dX5_initial_5 ⟨Nat.le_of_ble_eq_true rfl, Nat.le_of_ble_eq_true rfl⟩) (fun r_2 e_r_2 => ?_)
  replace e_r_2 := e_r_2.symm; subst e_r_2
  exact zretl1 hx hb hr hlocks dX5_initial_8 (by first | rfl | (subst_vars; rfl))

set_option maxHeartbeats 4000000 in
set_option maxRecDepth 100000 in
/-- paid: ok -/
theorem m_X5_paid_ok (l : Launch) (D : va_G) (x pr mk os : Nat) (ch gd : Int64) (mm : Int32) (em1 n : Nat) (cap : Nat) (cO : ClassId) (fl : Nat → Option Nat) (co ac : Nat) (cJ : ClassId) (pm sm rt : Int32) (fu : Nat) (ini : Int64) (np : Nat) (al : Int32) (acc : Nat → Int64) (kc : Nat) (hkc : kc < n) (hn : n ≤ cap) (hcap : cap ≤ 800) (hfl : fl kc = some co) : Met l yX5_paid wsX5_paid ({ frames := 4, cells := 0, slots := 0, locals := 85 }) (z1 D [(x, .inr (5, [.ref pr, .ref mk, .ref os, .long ch, .long gd])), (mk, .inr (0, [.int mm, .ref em1, .int (nI n)])), (em1, .inl (cO, cap, .inr (.inr (.inr (.inr fl))))), (co, .inr (1, [.int pm, .int sm, .int rt, .int (nI fu), .ref ac, .long ini, .int (nI np), .int al])), (ac, .inl (cJ, 3, .inr (.inl acc)))] [(cO, .object "java/lang/Object"), (cJ, .long)] [.ref x, .int (nI kc)]) (vp_Si (fun r => r = nI np)) 0 0 (fun _ => False) := by
  refine zm1 (cc := cX5_paid) (maxL := 2) (ret := (some .int)) (by decide) rfl (Nat.le_of_ble_eq_true rfl) ?_
  intro p e s m below meth c ls hx hb hml hr hlocks hown hts hP hK hG hl
  have hl : lv_has ls 2 [(0, .ref x), (1, .int (nI kc))] := hl
  refine lv_aload_n hx hb dX5_paid_0 rfl (lv_at hl 0 rfl) ?_
  refine lv_iload_n hx hb dX5_paid_1 rfl (lv_at hl 1 rfl) ?_
  refine va_csq (W.runV (As := [.int (nI kc)]) (rest := []) ⟨hx, hb, hml, hown, hts⟩ (m_X5_find_ok l D x pr mk os ch gd mm em1 n cap cO fl co ac cJ pm sm rt fu ini np al acc kc (by first | omega | assumption) (by first | omega | assumption) (by first | omega | assumption) (by first | omega | assumption)) (cwV 1 hts gX5_paid_X5_find rfl rfl rfl (by decide +kernel) ⟨Nat.le_of_ble_eq_true rfl, Nat.le_of_ble_eq_true rfl⟩) (z1_V (va_recv hK hP (ci := 5) (q0 := 0) rfl rfl) (hP.sub (ws' := [(x, .inr (5, [.ref pr, .ref mk, .ref os, .long ch, .long gd])), (mk, .inr (0, [.int mm, .ref em1, .int (nI n)])), (em1, .inl (cO, cap, .inr (.inr (.inr (.inr fl))))), (co, .inr (1, [.int pm, .int sm, .int rt, .int (nI fu), .ref ac, .long ini, .int (nI np), .int al])), (ac, .inl (cJ, 3, .inr (.inl acc)))]) [0, 1, 2, 3, 4] rfl) (hK.sub (tys' := [(cO, .object "java/lang/Object"), (cJ, .long)]) [0, 1] rfl) hG) rfl rfl hl.1 rfl (lv_room (Nat.le_of_ble_eq_true rfl)) dX5_paid_2 ⟨Nat.le_of_ble_eq_true rfl, Nat.le_of_ble_eq_true rfl⟩) (fun r_1 e_r_1 => ?_)
  replace e_r_1 := e_r_1.symm; subst e_r_1
  refine W.eq (g2 := F0 m 5 ls [.ref co]) rfl ?_
  refine vp_callSi (W.runV (As := []) (rest := []) ⟨hx, hb, hml, hown, hts⟩ (m_X0_premiumsMade l D co ac cJ pm sm rt fu ini np al acc) (cwV 0 hts gX5_paid_X0_premiumsMade rfl rfl rfl (by decide +kernel) ⟨Nat.le_of_ble_eq_true rfl, Nat.le_of_ble_eq_true rfl⟩) (z1_V (va_recv hK hP (ci := 1) (q0 := 3) rfl rfl) (hP.sub (ws' := [(co, .inr (1, [.int pm, .int sm, .int rt, .int (nI fu), .ref ac, .long ini, .int (nI np), .int al])), (ac, .inl (cJ, 3, .inr (.inl acc)))]) [3, 4] rfl) (hK.sub (tys' := [(cJ, .long)]) [1] rfl) hG) rfl rfl hl.1 rfl (lv_room (Nat.le_of_ble_eq_true rfl)) dX5_paid_5 ⟨Nat.le_of_ble_eq_true rfl, Nat.le_of_ble_eq_true rfl⟩) (fun r_2 e_r_2 => ?_)
  replace e_r_2 := e_r_2.symm; subst e_r_2
  exact zreti1 hx hb hr hlocks dX5_paid_8 (by first | rfl | (subst_vars; rfl))

set_option maxHeartbeats 4000000 in
set_option maxRecDepth 100000 in
/-- units: ok -/
theorem m_X5_units_ok (l : Launch) (D : va_G) (x pr mk os : Nat) (ch gd : Int64) (mm : Int32) (em1 n : Nat) (cap : Nat) (cO : ClassId) (fl : Nat → Option Nat) (co ac : Nat) (cJ : ClassId) (pm sm rt : Int32) (fu : Nat) (ini : Int64) (np : Nat) (al : Int32) (acc : Nat → Int64) (kc : Nat) (q : Nat) (hkc : kc < n) (hn : n ≤ cap) (hcap : cap ≤ 800) (hfl : fl kc = some co) (hq : q < 3) : Met l yX5_units wsX5_units ({ frames := 4, cells := 0, slots := 0, locals := 85 }) (z1 D [(x, .inr (5, [.ref pr, .ref mk, .ref os, .long ch, .long gd])), (mk, .inr (0, [.int mm, .ref em1, .int (nI n)])), (em1, .inl (cO, cap, .inr (.inr (.inr (.inr fl))))), (co, .inr (1, [.int pm, .int sm, .int rt, .int (nI fu), .ref ac, .long ini, .int (nI np), .int al])), (ac, .inl (cJ, 3, .inr (.inl acc)))] [(cO, .object "java/lang/Object"), (cJ, .long)] [.ref x, .int (nI kc), .int (nI q)]) (vp_Sl (fun r => r = acc q)) 0 0 (fun _ => False) := by
  refine zm1 (cc := cX5_units) (maxL := 4) (ret := (some .long)) (by decide) rfl (Nat.le_of_ble_eq_true rfl) ?_
  intro p e s m below meth c ls hx hb hml hr hlocks hown hts hP hK hG hl
  have hl : lv_has ls 4 [(0, .ref x), (1, .int (nI kc)), (2, .int (nI q))] := hl
  refine lv_aload_n hx hb dX5_units_0 rfl (lv_at hl 0 rfl) ?_
  refine lv_iload_n hx hb dX5_units_1 rfl (lv_at hl 1 rfl) ?_
  refine va_csq (W.runV (As := [.int (nI kc)]) (rest := []) ⟨hx, hb, hml, hown, hts⟩ (m_X5_find_ok l D x pr mk os ch gd mm em1 n cap cO fl co ac cJ pm sm rt fu ini np al acc kc (by first | omega | assumption) (by first | omega | assumption) (by first | omega | assumption) (by first | omega | assumption)) (cwV 1 hts gX5_units_X5_find rfl rfl rfl (by decide +kernel) ⟨Nat.le_of_ble_eq_true rfl, Nat.le_of_ble_eq_true rfl⟩) (z1_V (va_recv hK hP (ci := 5) (q0 := 0) rfl rfl) (hP.sub (ws' := [(x, .inr (5, [.ref pr, .ref mk, .ref os, .long ch, .long gd])), (mk, .inr (0, [.int mm, .ref em1, .int (nI n)])), (em1, .inl (cO, cap, .inr (.inr (.inr (.inr fl))))), (co, .inr (1, [.int pm, .int sm, .int rt, .int (nI fu), .ref ac, .long ini, .int (nI np), .int al])), (ac, .inl (cJ, 3, .inr (.inl acc)))]) [0, 1, 2, 3, 4] rfl) (hK.sub (tys' := [(cO, .object "java/lang/Object"), (cJ, .long)]) [0, 1] rfl) hG) rfl rfl hl.1 rfl (lv_room (Nat.le_of_ble_eq_true rfl)) dX5_units_2 ⟨Nat.le_of_ble_eq_true rfl, Nat.le_of_ble_eq_true rfl⟩) (fun r_1 e_r_1 => ?_)
  replace e_r_1 := e_r_1.symm; subst e_r_1
  refine W.eq (g2 := F0 m 5 ls [.ref co]) rfl ?_
  refine lv_astore_n (lv' := [(3, .ref co), (0, .ref x), (1, .int (nI kc)), (2, .int (nI q))]) hx hb dX5_units_5 rfl hl (by decide) rfl (fun ls hl => ?_)
  refine lv_iload_n hx hb dX5_units_6 rfl (lv_at hl 3 rfl) ?_
  refine va_csv (W.runS (As := [.int (nI q)]) (rest := []) ⟨hx, hb, hml, hown, hts⟩ (m_X5_requireFund_ok l q (by first | omega | assumption)) (va_cwS 1 hts gX5_units_X5_requireFund rfl rfl rfl (by decide +kernel) ⟨Nat.le_of_ble_eq_true rfl, Nat.le_of_ble_eq_true rfl⟩) z0_S rfl rfl hl.1 rfl (lv_room (Nat.le_of_ble_eq_true rfl)) dX5_units_7 ⟨Nat.le_of_ble_eq_true rfl, Nat.le_of_ble_eq_true rfl⟩) (fun _ => ?_)
  refine lv_aload_n hx hb dX5_units_10 rfl (lv_at hl 0 rfl) ?_
  refine lv_iload_n hx hb dX5_units_11 rfl (lv_at hl 3 rfl) ?_
  refine vp_callSl (W.runV (As := [.int (nI q)]) (rest := []) ⟨hx, hb, hml, hown, hts⟩ (m_X0_accumulatedIn l D co ac cJ pm sm rt fu ini np al acc q (by first | omega | assumption)) (cwV 1 hts gX5_units_X0_accumulatedIn rfl rfl rfl (by decide +kernel) ⟨Nat.le_of_ble_eq_true rfl, Nat.le_of_ble_eq_true rfl⟩) (z1_V (va_recv hK hP (ci := 1) (q0 := 3) rfl rfl) (hP.sub (ws' := [(co, .inr (1, [.int pm, .int sm, .int rt, .int (nI fu), .ref ac, .long ini, .int (nI np), .int al])), (ac, .inl (cJ, 3, .inr (.inl acc)))]) [3, 4] rfl) (hK.sub (tys' := [(cJ, .long)]) [1] rfl) hG) rfl rfl hl.1 rfl (lv_room (Nat.le_of_ble_eq_true rfl)) dX5_units_12 ⟨Nat.le_of_ble_eq_true rfl, Nat.le_of_ble_eq_true rfl⟩) (fun r_2 e_r_2 => ?_)
  replace e_r_2 := e_r_2.symm; subst e_r_2
  exact zretl1 hx hb hr hlocks dX5_units_15 (by first | rfl | (subst_vars; rfl))

set_option maxHeartbeats 4000000 in
set_option maxRecDepth 100000 in
/-- worth: ok -/
theorem m_X5_worth_ok (l : Launch) (D : va_G) (x pr mk os : Nat) (ch gd : Int64) (mm : Int32) (em1 n : Nat) (cap : Nat) (cO : ClassId) (fl : Nat → Option Nat) (co ac : Nat) (cJ : ClassId) (pm sm rt : Int32) (fu : Nat) (ini : Int64) (np : Nat) (al : Int32) (acc : Nat → Int64) (kc : Nat) (bd : Nat) (t : Nat) (cI : ClassId) (bf : Nat → Int32) (hkc : kc < n) (hn : n ≤ cap) (hcap : cap ≤ 800) (hfl : fl kc = some co) (hfu : fu < 3) (ht : t ≤ 2000) : Met l yX5_worth wsX5_worth ({ frames := 4, cells := 0, slots := 0, locals := 87 }) (z1 D [(x, .inr (5, [.ref pr, .ref mk, .ref os, .long ch, .long gd])), (mk, .inr (0, [.int mm, .ref em1, .int (nI n)])), (em1, .inl (cO, cap, .inr (.inr (.inr (.inr fl))))), (co, .inr (1, [.int pm, .int sm, .int rt, .int (nI fu), .ref ac, .long ini, .int (nI np), .int al])), (ac, .inl (cJ, 3, .inr (.inl acc))), (pr, .inr (3, [.ref bd, .int (nI t)])), (bd, .inl (cI, 6003, .inl bf))] [(cO, .object "java/lang/Object"), (cJ, .long), (cI, .int)] [.ref x, .int (nI kc)]) (vp_Sl (fun r => r = k_worth ini (bf (t * 3 + fu)) (bf (t * 3 + 0)) (bf (t * 3 + 1)) (bf (t * 3 + 2)) (acc 0) (acc 1) (acc 2))) 0 0 (fun _ => False) := by
  refine zm1 (cc := cX5_worth) (maxL := 2) (ret := (some .long)) (by decide) rfl (Nat.le_of_ble_eq_true rfl) ?_
  intro p e s m below meth c ls hx hb hml hr hlocks hown hts hP hK hG hl
  have hl : lv_has ls 2 [(0, .ref x), (1, .int (nI kc))] := hl
  have k_0 := hts (.fieldLink RX5 10 "UnitContracts" "prices" "LUnitContracts$Prices;") (List.mem_of_getElem? (i := 1) rfl)
  have i_RX5 : ∀ w ∈ u_ws RX5 TX5 5, w ∈ wsX5_worth := by decide +kernel
  refine lv_aload_n hx hb dX5_worth_0 rfl (lv_at hl 0 rfl) ?_
  refine lv_iload_n hx hb dX5_worth_1 rfl (lv_at hl 1 rfl) ?_
  refine va_csq (W.runV (As := [.int (nI kc)]) (rest := []) ⟨hx, hb, hml, hown, hts⟩ (m_X5_find_ok l D x pr mk os ch gd mm em1 n cap cO fl co ac cJ pm sm rt fu ini np al acc kc (by first | omega | assumption) (by first | omega | assumption) (by first | omega | assumption) (by first | omega | assumption)) (cwV 1 hts gX5_worth_X5_find rfl rfl rfl (by decide +kernel) ⟨Nat.le_of_ble_eq_true rfl, Nat.le_of_ble_eq_true rfl⟩) (z1_V (va_recv hK hP (ci := 5) (q0 := 0) rfl rfl) (hP.sub (ws' := [(x, .inr (5, [.ref pr, .ref mk, .ref os, .long ch, .long gd])), (mk, .inr (0, [.int mm, .ref em1, .int (nI n)])), (em1, .inl (cO, cap, .inr (.inr (.inr (.inr fl))))), (co, .inr (1, [.int pm, .int sm, .int rt, .int (nI fu), .ref ac, .long ini, .int (nI np), .int al])), (ac, .inl (cJ, 3, .inr (.inl acc)))]) [0, 1, 2, 3, 4] rfl) (hK.sub (tys' := [(cO, .object "java/lang/Object"), (cJ, .long)]) [0, 1] rfl) hG) rfl rfl hl.1 rfl (lv_room (Nat.le_of_ble_eq_true rfl)) dX5_worth_2 ⟨Nat.le_of_ble_eq_true rfl, Nat.le_of_ble_eq_true rfl⟩) (fun r_1 e_r_1 => ?_)
  replace e_r_1 := e_r_1.symm; subst e_r_1
  refine W.eq (g2 := F0 m 5 ls [.ref co]) rfl ?_
  refine lv_aload_n hx hb dX5_worth_5 rfl (lv_at hl 0 rfl) ?_
  refine va_get (D := D) (ci := 5) (v := .ref pr) (C := RX5) (T := TX5) (N := 5) hx hb hts i_RX5 hown hK hP 0 rfl rfl 0 (by decide) k_0 (fun _ h9 => h9) rfl dX5_worth_6 ?_
  refine vp_callSl (W.runV (As := [.ref pr]) (rest := []) ⟨hx, hb, hml, hown, hts⟩ (m_X0_worthAt l D co ac cJ pm sm rt fu ini np al acc pr bd cI t bf (by first | omega | assumption) (by first | omega | assumption)) (cwV 1 hts gX5_worth_X0_worthAt rfl rfl rfl (by decide +kernel) ⟨Nat.le_of_ble_eq_true rfl, Nat.le_of_ble_eq_true rfl⟩) (z1_V (va_recv hK hP (ci := 1) (q0 := 3) rfl rfl) (hP.sub (ws' := [(co, .inr (1, [.int pm, .int sm, .int rt, .int (nI fu), .ref ac, .long ini, .int (nI np), .int al])), (ac, .inl (cJ, 3, .inr (.inl acc))), (pr, .inr (3, [.ref bd, .int (nI t)])), (bd, .inl (cI, 6003, .inl bf))]) [3, 4, 5, 6] rfl) (hK.sub (tys' := [(cJ, .long), (cI, .int)]) [1, 2] rfl) hG) rfl rfl hl.1 rfl (lv_room (Nat.le_of_ble_eq_true rfl)) dX5_worth_9 ⟨Nat.le_of_ble_eq_true rfl, Nat.le_of_ble_eq_true rfl⟩) (fun r_2 e_r_2 => ?_)
  replace e_r_2 := e_r_2.symm; subst e_r_2
  exact zretl1 hx hb hr hlocks dX5_worth_12 (by first | rfl | (subst_vars; rfl))
