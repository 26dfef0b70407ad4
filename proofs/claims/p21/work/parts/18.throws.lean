/-! READS AND THROWS of UnitContracts -/
theorem k_isIn_hi {x lo hi : Int32} (h : k_isIn x lo hi = nI 0) (h1 : ¬ x < lo) : hi < x := by
  unfold k_isIn at h
  rw [if_neg h1] at h
  split at h
  · assumption
  · exact absurd h (by decide)
theorem k_ix_hi {n : Nat} {x : Int32} (hn : n ≤ 10) (h : k_isIn x (nI 0) (nI n - nI 1) = nI 0) (h1 : ¬ x < 0) : nI n ≤ x := by
  have h2 := k_isIn_hi h h1
  obtain ⟨j, hj, rfl⟩ := nI_of h1
  rcases Nat.lt_or_ge n 1 with q | q
  · exact nI_le (by omega) hj
  · rw [pk_sub q] at h2
    have h3 := (nI_ltI (by omega) hj).mp h2
    exact nI_le (by omega) hj
theorem k_isIn_1 {x lo hi : Int32} (h : k_isIn x lo hi = nI 1) : ¬ x < lo ∧ ¬ hi < x := by
  unfold k_isIn at h
  split at h
  · exact absurd h (by decide)
  · split at h
    · exact absurd h (by decide)
    · exact ⟨by assumption, by assumption⟩
set_option maxHeartbeats 4000000 in
set_option maxRecDepth 100000 in
/-- requireFund: ok -/
theorem m_X5_requireFund_ok (l : Launch) (q : Nat) (hq : q < 3) : Met l yX5_requireFund wsX5_requireFund ({ frames := 1, cells := 0, slots := 0, locals := 20 }) (z0 [.int (nI q)]) (va_Sv (fun _ => True)) 0 0 (fun _ => False) := by
  refine zm0 (cc := cX5_requireFund) (maxL := 1) (ret := none) (by decide) rfl (Nat.le_of_ble_eq_true rfl) ?_
  intro p e s m below meth c ls hx hb hml hr hlocks hown hts hl
  have hl : lv_has ls 1 [(0, .int (nI q))] := hl
  refine lv_iload_n hx hb dX5_requireFund_0 rfl (lv_at hl 0 rfl) ?_
  refine vp_callSi (W.runS (As := [.int (nI q)]) (rest := []) ⟨hx, hb, hml, hown, hts⟩ (m_X5_isFund l (nI q)) (va_cwS 1 hts gX5_requireFund_X5_isFund rfl rfl rfl (by decide +kernel) ⟨Nat.le_of_ble_eq_true rfl, Nat.le_of_ble_eq_true rfl⟩) z0_S rfl rfl hl.1 rfl (lv_room (Nat.le_of_ble_eq_true rfl)) dX5_requireFund_1 ⟨Nat.le_of_ble_eq_true rfl, Nat.le_of_ble_eq_true rfl⟩) (fun r_1 e_r_1 => ?_)
  have e_r_1 : r_1 = nI 1 := e_r_1.trans (k_isFund_n (by omega))
  replace e_r_1 := e_r_1.symm; subst e_r_1
  refine lv_if_ne (tgt := 17) hx hb dX5_requireFund_4 (by decide) (fun _ => ?_) (fun h9 => absurd h9 (by decide))
  exact W.vret hx hb hr (fun t ht _ => ⟨rfl, trivial, ht⟩) (fun _ h => nomatch h) dX5_requireFund_17 hlocks

set_option maxHeartbeats 4000000 in
set_option maxRecDepth 100000 in
/-- requireDay: ok -/
theorem m_X5_requireDay_ok (l : Launch) (D : va_G) (x pr mk os : Nat) (ch gd : Int64) (bd : Nat) (t : Nat) (dd : Nat) (hd : dd ≤ t) (ht : t ≤ 2000) : Met l yX5_requireDay wsX5_requireDay ({ frames := 1, cells := 0, slots := 0, locals := 20 }) (z1 D [(x, .inr (5, [.ref pr, .ref mk, .ref os, .long ch, .long gd])), (pr, .inr (3, [.ref bd, .int (nI t)]))] [] [.ref x, .int (nI dd)]) (va_Sv (fun _ => True)) 0 0 (fun _ => False) := by
  refine zm1 (cc := cX5_requireDay) (maxL := 2) (ret := none) (by decide) rfl (Nat.le_of_ble_eq_true rfl) ?_
  intro p e s m below meth c ls hx hb hml hr hlocks hown hts hP hK hG hl
  have hl : lv_has ls 2 [(0, .ref x), (1, .int (nI dd))] := hl
  have k_0 := hts (.fieldLink RX5 10 "UnitContracts" "prices" "LUnitContracts$Prices;") (List.mem_of_getElem? (i := 3) rfl)
  have i_RX5 : ∀ w ∈ u_ws RX5 TX5 5, w ∈ wsX5_requireDay := by decide +kernel
  refine lv_iload_n hx hb dX5_requireDay_0 rfl (lv_at hl 1 rfl) ?_
  refine lv_if_lt (tgt := 15) hx hb dX5_requireDay_1 (by decide) (fun h9 => absurd h9 (fun h8 => absurd ((nI_ltI (a := dd) (b := 0) (by omega) (by omega)).mp h8) (by omega))) (fun _ => ?_)
  refine lv_iload_n hx hb dX5_requireDay_4 rfl (lv_at hl 1 rfl) ?_
  refine lv_aload_n hx hb dX5_requireDay_5 rfl (lv_at hl 0 rfl) ?_
  refine va_get (D := D) (ci := 5) (v := .ref pr) (C := RX5) (T := TX5) (N := 5) hx hb hts i_RX5 hown hK hP 0 rfl rfl 0 (by decide) k_0 (fun _ h9 => h9) rfl dX5_requireDay_6 ?_
  refine vp_callSi (W.runV (As := []) (rest := [.int (nI dd)]) ⟨hx, hb, hml, hown, hts⟩ (m_X3_latestDay l D pr bd t) (cwV 0 hts gX5_requireDay_X3_latestDay rfl rfl rfl (by decide +kernel) ⟨Nat.le_of_ble_eq_true rfl, Nat.le_of_ble_eq_true rfl⟩) (z1_V (va_recv hK hP (ci := 3) (q0 := 1) rfl rfl) (hP.sub (ws' := [(pr, .inr (3, [.ref bd, .int (nI t)]))]) [1] rfl) (hK.sub (tys' := []) [] rfl) hG) rfl rfl hl.1 rfl (lv_room (Nat.le_of_ble_eq_true rfl)) dX5_requireDay_9 ⟨Nat.le_of_ble_eq_true rfl, Nat.le_of_ble_eq_true rfl⟩) (fun r_1 e_r_1 => ?_)
  replace e_r_1 := e_r_1.symm; subst e_r_1
  refine lv_icmp_le (tgt := 25) hx hb dX5_requireDay_12 (by decide) (fun _ => ?_) (fun h9 => absurd ((nI_leI (a := dd) (b := t) (by omega) (by omega)).mpr (by omega)) h9)
  exact W.vret hx hb hr (fun t ht _ => ⟨rfl, trivial, ht⟩) (fun _ h => nomatch h) dX5_requireDay_25 hlocks

set_option maxHeartbeats 4000000 in
set_option maxRecDepth 100000 in
/-- requireInForce: ok -/
theorem m_X5_requireInForce_ok (l : Launch) (D : va_G) (co ac : Nat) (cJ : ClassId) (pm sm rt : Int32) (fu : Nat) (ini : Int64) (np : Nat) (al : Int32) (acc : Nat → Int64) (hal : al = nI 1) : Met l yX5_requireInForce wsX5_requireInForce ({ frames := 1, cells := 0, slots := 0, locals := 20 }) (z1 D [(co, .inr (1, [.int pm, .int sm, .int rt, .int (nI fu), .ref ac, .long ini, .int (nI np), .int al])), (ac, .inl (cJ, 3, .inr (.inl acc)))] [(cJ, .long)] [.ref co]) (va_Sv (fun _ => True)) 0 0 (fun _ => False) := by
  refine zm1 (cc := cX5_requireInForce) (maxL := 1) (ret := none) (by decide) rfl (Nat.le_of_ble_eq_true rfl) ?_
  intro p e s m below meth c ls hx hb hml hr hlocks hown hts hP hK hG hl
  have hl : lv_has ls 1 [(0, .ref co)] := hl
  refine lv_aload_n hx hb dX5_requireInForce_0 rfl (lv_at hl 0 rfl) ?_
  refine vp_callSi (W.runV (As := []) (rest := []) ⟨hx, hb, hml, hown, hts⟩ (m_X0_isAlive l D co ac cJ pm sm rt fu ini np al acc (by rw [hal]; rfl)) (cwV 0 hts gX5_requireInForce_X0_isAlive rfl rfl rfl (by decide +kernel) ⟨Nat.le_of_ble_eq_true rfl, Nat.le_of_ble_eq_true rfl⟩) (z1_V (va_recv hK hP (ci := 1) (q0 := 0) rfl rfl) (hP.sub (ws' := [(co, .inr (1, [.int pm, .int sm, .int rt, .int (nI fu), .ref ac, .long ini, .int (nI np), .int al])), (ac, .inl (cJ, 3, .inr (.inl acc)))]) [0, 1] rfl) (hK.sub (tys' := [(cJ, .long)]) [0] rfl) hG) rfl rfl hl.1 rfl (lv_room (Nat.le_of_ble_eq_true rfl)) dX5_requireInForce_1 ⟨Nat.le_of_ble_eq_true rfl, Nat.le_of_ble_eq_true rfl⟩) (fun r_1 e_r_1 => ?_)
  have e_r_1 : r_1 = nI 1 := e_r_1.trans (hal)
  replace e_r_1 := e_r_1.symm; subst e_r_1
  refine lv_if_ne (tgt := 17) hx hb dX5_requireInForce_4 (by decide) (fun _ => ?_) (fun h9 => absurd h9 (by decide))
  exact W.vret hx hb hr (fun t ht _ => ⟨rfl, trivial, ht⟩) (fun _ h => nomatch h) dX5_requireInForce_17 hlocks

set_option maxHeartbeats 4000000 in
set_option maxRecDepth 100000 in
/-- find: ok -/
theorem m_X5_find_ok (l : Launch) (D : va_G) (x pr mk os : Nat) (ch gd : Int64) (mm : Int32) (em1 n : Nat) (cap : Nat) (cO : ClassId) (fl : Nat → Option Nat) (co ac : Nat) (cJ : ClassId) (pm sm rt : Int32) (fu : Nat) (ini : Int64) (np : Nat) (al : Int32) (acc : Nat → Int64) (kc : Nat) (hkc : kc < n) (hn : n ≤ cap) (hcap : cap ≤ 800) (hfl : fl kc = some co) : Met l yX5_find wsX5_find ({ frames := 3, cells := 0, slots := 0, locals := 64 }) (z1 D [(x, .inr (5, [.ref pr, .ref mk, .ref os, .long ch, .long gd])), (mk, .inr (0, [.int mm, .ref em1, .int (nI n)])), (em1, .inl (cO, cap, .inr (.inr (.inr (.inr fl))))), (co, .inr (1, [.int pm, .int sm, .int rt, .int (nI fu), .ref ac, .long ini, .int (nI np), .int al])), (ac, .inl (cJ, 3, .inr (.inl acc)))] [(cO, .object "java/lang/Object"), (cJ, .long)] [.ref x, .int (nI kc)]) (va_Sq (fun r => r = some co)) 0 0 (fun _ => False) := by
  refine zm1 (cc := cX5_find) (maxL := 2) (ret := (some (.object "UnitContracts$Contract"))) (by decide) rfl (Nat.le_of_ble_eq_true rfl) ?_
  intro p e s m below meth c ls hx hb hml hr hlocks hown hts hP hK hG hl
  have hl : lv_has ls 2 [(0, .ref x), (1, .int (nI kc))] := hl
  have k_0 := hts (.fieldLink RX5 19 "UnitContracts" "made" "Ljava/util/ArrayList;") (List.mem_of_getElem? (i := 3) rfl)
  have i_RX5 : ∀ w ∈ u_ws RX5 TX5 5, w ∈ wsX5_find := by decide +kernel
  have k_2 := hts (.classLink RX5 82 "UnitContracts$Contract") (List.mem_of_getElem? (i := 4) rfl)
  refine lv_iload_n hx hb dX5_find_0 rfl (lv_at hl 1 rfl) ?_
  refine lv_if_lt (tgt := 15) hx hb dX5_find_1 (by decide) (fun h9 => absurd h9 (fun h8 => absurd ((nI_ltI (a := kc) (b := 0) (by omega) (by omega)).mp h8) (by omega))) (fun _ => ?_)
  refine lv_iload_n hx hb dX5_find_4 rfl (lv_at hl 1 rfl) ?_
  refine lv_aload_n hx hb dX5_find_5 rfl (lv_at hl 0 rfl) ?_
  refine va_get (D := D) (ci := 5) (v := .ref mk) (C := RX5) (T := TX5) (N := 5) hx hb hts i_RX5 hown hK hP 0 rfl rfl 1 (by decide) k_0 (fun _ h9 => h9) rfl dX5_find_6 ?_
  refine vp_callSi (W.runV (As := []) (rest := [.int (nI kc)]) ⟨hx, hb, hml, hown, hts⟩ (m_Jx4a65c_size_8abf5 l D mk mm em1 n) (cwV 0 hts gX5_find_Jx4a65c_size_8abf5 rfl rfl rfl (by decide +kernel) ⟨Nat.le_of_ble_eq_true rfl, Nat.le_of_ble_eq_true rfl⟩) (z1_V (va_recv hK hP (ci := 0) (q0 := 1) rfl rfl) (hP.sub (ws' := [(mk, .inr (0, [.int mm, .ref em1, .int (nI n)]))]) [1] rfl) (hK.sub (tys' := []) [] rfl) hG) rfl rfl hl.1 rfl (lv_room (Nat.le_of_ble_eq_true rfl)) dX5_find_9 ⟨Nat.le_of_ble_eq_true rfl, Nat.le_of_ble_eq_true rfl⟩) (fun r_1 e_r_1 => ?_)
  replace e_r_1 := e_r_1.symm; subst e_r_1
  refine lv_icmp_lt (tgt := 25) hx hb dX5_find_12 (by decide) (fun _ => ?_) (fun h9 => absurd ((nI_ltI (a := kc) (b := n) (by omega) (by omega)).mpr (by omega)) h9)
  refine lv_aload_n hx hb dX5_find_25 rfl (lv_at hl 0 rfl) ?_
  refine va_get (D := D) (ci := 5) (v := .ref mk) (C := RX5) (T := TX5) (N := 5) hx hb hts i_RX5 hown hK hP 0 rfl rfl 1 (by decide) k_0 (fun _ h9 => h9) rfl dX5_find_26 ?_
  refine lv_iload_n hx hb dX5_find_29 rfl (lv_at hl 1 rfl) ?_
  refine va_csq (W.runV (As := [.int (nI kc)]) (rest := []) ⟨hx, hb, hml, hown, hts⟩ (m_Jx4a65c_get_915e3 l D mk mm em1 cap n cO fl kc co (by first | omega | assumption) hn (by omega) hfl) (cwV 1 hts gX5_find_Jx4a65c_get_915e3 rfl rfl rfl (by decide +kernel) ⟨Nat.le_of_ble_eq_true rfl, Nat.le_of_ble_eq_true rfl⟩) (z1_V (va_recv hK hP (ci := 0) (q0 := 1) rfl rfl) (hP.sub (ws' := [(mk, .inr (0, [.int mm, .ref em1, .int (nI n)])), (em1, .inl (cO, cap, .inr (.inr (.inr (.inr fl)))))]) [1, 2] rfl) (hK.sub (tys' := [(cO, .object "java/lang/Object")]) [0] rfl) hG) rfl rfl hl.1 rfl (lv_room (Nat.le_of_ble_eq_true rfl)) dX5_find_30 ⟨Nat.le_of_ble_eq_true rfl, Nat.le_of_ble_eq_true rfl⟩) (fun r_2 e_r_2 => ?_)
  replace e_r_2 := e_r_2.symm; subst e_r_2
  refine W.eq (g2 := F0 m 33 ls [.ref co]) rfl ?_
  refine va_castS (nm := "UnitContracts$Contract") hx hb hown k_2 (hK.1 1 _ rfl).2 (va_recv hK hP (ci := 1) (q0 := 3) rfl rfl) dX5_find_33 ?_
  exact zretr1 hx hb hr (Or.inl ⟨_, rfl⟩) hlocks dX5_find_36
