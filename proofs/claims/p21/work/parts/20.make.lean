/-! make, giveOrder, pay, change, backdate, fundUnits: where they return -/
theorem ev_mk {D : va_G} {wd wc : va_W} {tys : List (ClassId × FieldType)} {A : Nat → Prop} {s : State} {H : Heap} (hP : va_P D vwCl wd H) (hD : va_D A wd) (hK : va_K D vwCl tys s) (hG : GS s) (isC : List Nat) (hC : isC.map (fun i => wd[i]?) = wc.map some) (k : Nat) {v ci : Nat} {fs : List Value} (hk : wd[k]? = some (v, .inr (ci, fs))) (hd : k ∉ isC) {r : vw_C} (hc : vwCl[ci]? = some r) (hq : (r.1, "java/lang/Object") ∈ gs_C) : EV (va_A wc H.size) v s H := by
  refine ⟨fun h => ?_, va_rAny hK hP hk hc (vb_asgC (hG.2.1 _ hq))⟩
  rcases h with ⟨j, e, hj⟩ | h
  · have h1 : (wc.map some)[j]? = some (some (v, e)) := by rw [List.getElem?_map, hj]; rfl
    rw [← hC, List.getElem?_map] at h1
    cases hi : isC[j]? with
    | none => rw [hi] at h1; cases h1
    | some i =>
      rw [hi] at h1
      have h2 : wd[i]? = some (v, e) := Option.some.inj h1
      have h3 := hD.1 i k _ _ h2 hk rfl
      exact hd (by rw [← h3]; exact List.mem_of_getElem? hi)
  · exact absurd (vx_lt hP hk) (by show ¬ v < _; omega)
theorem k_goodC {its : Int64} {pm b : Int32} : (if k_mon its (k_off b).toInt64 - pm.toInt64 < 0 then 0 else k_mon its (k_off b).toInt64 - pm.toInt64) = k_good its pm b := by
  unfold k_good
  by_cases h : k_mon its (k_off b).toInt64 - pm.toInt64 < 0
  · rw [if_pos h, if_pos (Int64.le_of_lt h)]
  · rw [if_neg h]
    by_cases h2 : k_mon its (k_off b).toInt64 - pm.toInt64 ≤ 0
    · rw [if_pos h2]; exact Int64.le_antisymm h2 (Int64.not_lt.mp h)
    · rw [if_neg h2]
set_option maxHeartbeats 4000000 in
set_option maxRecDepth 100000 in
/-- fundUnits: ok -/
theorem m_X5_fundUnits_ok (l : Launch) (D : va_G) (x pr mk os : Nat) (ch gd : Int64) (mm : Int32) (em1 n : Nat) (cap : Nat) (cO : ClassId) (fl : Nat → Option Nat) (wl : va_W) (cJ : ClassId) (ca aa : Nat → Nat) (ac : Nat → Nat → Int64) (fp fs fr : Nat → Int32) (ff fa : Nat → Nat) (fz : Nat → Int32) (fi fu : Nat → Int64) (q : Nat) (hq : q < 3) (hn : n ≤ cap) (hcap : cap ≤ 800) (hco : ∀ i : Nat, i < n → fl i = some (ca i) ∧ ((ca i), (.inr (1, [.int (fp i), .int (fs i), .int (fr i), .int (nI (ff i)), .ref (aa i), .long (fi i), .int (nI (fa i)), .int (fz i)]) : va_E)) ∈ wl ∧ ((aa i), (.inl (cJ, 3, .inr (.inl (ac i))) : va_E)) ∈ wl ∧ ac i q = fu (3 * i + q) ∧ ff i < 3) : Met l yX5_fundUnits wsX5_fundUnits ({ frames := 3, cells := 0, slots := 0, locals := 64 }) (z1 D (([(x, .inr (5, [.ref pr, .ref mk, .ref os, .long ch, .long gd])), (mk, .inr (0, [.int mm, .ref em1, .int (nI n)])), (em1, .inl (cO, cap, .inr (.inr (.inr (.inr fl)))))] : va_W) ++ wl) [(cO, .object "java/lang/Object"), (cJ, .long)] [.ref x, .int (nI q)]) (vp_Sl (fun r => r = q_sum fu fi ff q n)) 0 0 (fun _ => False) := by
  refine zm1 (cc := cX5_fundUnits) (maxL := 5) (ret := (some .long)) (by decide) rfl (Nat.le_of_ble_eq_true rfl) ?_
  intro p e s m below meth c ls hx hb hml hr hlocks hown hts hP hK hG hl
  have hl : lv_has ls 5 [(0, .ref x), (1, .int (nI q))] := hl
  have k_0 := hts (.fieldLink RX5 19 "UnitContracts" "made" "Ljava/util/ArrayList;") (List.mem_of_getElem? (i := 1) rfl)
  have i_RX5 : ∀ w ∈ u_ws RX5 TX5 5, w ∈ wsX5_fundUnits := by decide +kernel
  have k_2 := hts (.classLink RX5 82 "UnitContracts$Contract") (List.mem_of_getElem? (i := 2) rfl)
  generalize hQ : MQ below _ _ _ _ _ _ = Q
  refine lv_iload_n hx hb dX5_fundUnits_0 rfl (lv_at hl 1 rfl) ?_
  refine va_csv (W.runS (As := [.int (nI q)]) (rest := []) ⟨hx, hb, hml, hown, hts⟩ (m_X5_requireFund_ok l q (by first | omega | assumption)) (va_cwS 1 hts gX5_fundUnits_X5_requireFund rfl rfl rfl (by decide +kernel) ⟨Nat.le_of_ble_eq_true rfl, Nat.le_of_ble_eq_true rfl⟩) z0_S rfl rfl hl.1 rfl (lv_room (Nat.le_of_ble_eq_true rfl)) dX5_fundUnits_1 ⟨Nat.le_of_ble_eq_true rfl, Nat.le_of_ble_eq_true rfl⟩) (fun _ => ?_)
  refine lv_lconst (v := 0) hx hb dX5_fundUnits_4 (by decide) ?_
  refine lv_lstore_n (lv' := [(2, .long 0), (0, .ref x), (1, .int (nI q))]) hx hb dX5_fundUnits_5 rfl hl (by decide) rfl (fun ls hl => ?_)
  refine lv_iconst (v := nI 0) hx hb dX5_fundUnits_6 (by decide) ?_
  refine lv_istore (lv' := [(4, .int (nI 0)), (2, .long 0), (0, .ref x), (1, .int (nI q))]) hx hb dX5_fundUnits_7 hl (by decide) rfl (fun ls hl => ?_)
  have loop_9 : ∀ (d i : Nat) (su : Int64) (ls : Array Slot), i + d = n → su = q_sum fu fi ff q i → lv_has ls 5 [(0, .ref x), (1, .int (nI q)), (2, .long su), (4, .int (nI i))] → W p l e ({ frames := 3, cells := 0, slots := 0, locals := 64 }) s m (([.ref x, .int (nI q)] : List Value).toArray) below meth c s.heap [] 0 0 Q (F0 m 9 ls []) := by
    intro d
    induction d with
    | zero =>
      intro i su  ls hid hsu  hl
      refine lv_iload hx hb dX5_fundUnits_9 (lv_at hl 3 rfl) ?_
      refine lv_aload_n hx hb dX5_fundUnits_11 rfl (lv_at hl 0 rfl) ?_
      refine va_get (D := D) (ci := 5) (v := .ref mk) (C := RX5) (T := TX5) (N := 5) hx hb hts i_RX5 hown hK hP 0 rfl rfl 1 (by decide) k_0 (fun _ h9 => h9) rfl dX5_fundUnits_12 ?_
      refine vp_callSi (W.runV (As := []) (rest := [.int (nI i)]) ⟨hx, hb, hml, hown, hts⟩ (m_Jx4a65c_size_8abf5 l D mk mm em1 n) (cwV 0 hts gX5_fundUnits_Jx4a65c_size_8abf5 rfl rfl rfl (by decide +kernel) ⟨Nat.le_of_ble_eq_true rfl, Nat.le_of_ble_eq_true rfl⟩) (z1_V (va_recv hK hP (ci := 0) (q0 := 1) rfl rfl) (hP.sub (ws' := [(mk, .inr (0, [.int mm, .ref em1, .int (nI n)]))]) [1] rfl) (hK.sub (tys' := []) [] rfl) hG) rfl rfl hl.1 rfl (lv_room (Nat.le_of_ble_eq_true rfl)) dX5_fundUnits_15 ⟨Nat.le_of_ble_eq_true rfl, Nat.le_of_ble_eq_true rfl⟩) (fun r_1 e_r_1 => ?_)
      replace e_r_1 := e_r_1.symm; subst e_r_1
      refine lv_icmp_ge (tgt := 46) hx hb dX5_fundUnits_18 (by decide) (fun _ => ?_) (fun h9 => absurd ((nI_leI (a := n) (b := i) (by omega) (by omega)).mpr (by omega)) h9)
      rw [show i = n by omega] at hsu
      refine lv_lload_n hx hb dX5_fundUnits_46 rfl (lv_at hl 2 rfl) ?_
      subst hQ
      exact zretl1 hx hb hr hlocks dX5_fundUnits_47 (hsu)
    | succ d ih =>
      intro i su  ls hid hsu  hl
      obtain ⟨hc1, hc2, hc3, hc4, hc5⟩ := hco i (by omega)
      have hPi : va_P D vwCl [((ca i), .inr (1, [.int (fp i), .int (fs i), .int (fr i), .int (nI (ff i)), .ref (aa i), .long (fi i), .int (nI (fa i)), .int (fz i)])), ((aa i), .inl (cJ, 3, .inr (.inl (ac i))))] s.heap := lp_P hP (by intro z hz; simp only [List.mem_cons, List.not_mem_nil, or_false] at hz; rcases hz with rfl | rfl; exact List.mem_append_right _ hc2; exact List.mem_append_right _ hc3)
      refine lv_iload hx hb dX5_fundUnits_9 (lv_at hl 3 rfl) ?_
      refine lv_aload_n hx hb dX5_fundUnits_11 rfl (lv_at hl 0 rfl) ?_
      refine va_get (D := D) (ci := 5) (v := .ref mk) (C := RX5) (T := TX5) (N := 5) hx hb hts i_RX5 hown hK hP 0 rfl rfl 1 (by decide) k_0 (fun _ h9 => h9) rfl dX5_fundUnits_12 ?_
      refine vp_callSi (W.runV (As := []) (rest := [.int (nI i)]) ⟨hx, hb, hml, hown, hts⟩ (m_Jx4a65c_size_8abf5 l D mk mm em1 n) (cwV 0 hts gX5_fundUnits_Jx4a65c_size_8abf5 rfl rfl rfl (by decide +kernel) ⟨Nat.le_of_ble_eq_true rfl, Nat.le_of_ble_eq_true rfl⟩) (z1_V (va_recv hK hP (ci := 0) (q0 := 1) rfl rfl) (hP.sub (ws' := [(mk, .inr (0, [.int mm, .ref em1, .int (nI n)]))]) [1] rfl) (hK.sub (tys' := []) [] rfl) hG) rfl rfl hl.1 rfl (lv_room (Nat.le_of_ble_eq_true rfl)) dX5_fundUnits_15 ⟨Nat.le_of_ble_eq_true rfl, Nat.le_of_ble_eq_true rfl⟩) (fun r_2 e_r_2 => ?_)
      replace e_r_2 := e_r_2.symm; subst e_r_2
      refine lv_icmp_ge (tgt := 46) hx hb dX5_fundUnits_18 (by decide) (fun h9 => absurd h9 (fun h8 => absurd ((nI_leI (a := n) (b := i) (by omega) (by omega)).mp h8) (by omega))) (fun _ => ?_)
      refine lv_lload_n hx hb dX5_fundUnits_21 rfl (lv_at hl 2 rfl) ?_
      refine lv_aload_n hx hb dX5_fundUnits_22 rfl (lv_at hl 0 rfl) ?_
      refine va_get (D := D) (ci := 5) (v := .ref mk) (C := RX5) (T := TX5) (N := 5) hx hb hts i_RX5 hown hK hP 0 rfl rfl 1 (by decide) k_0 (fun _ h9 => h9) rfl dX5_fundUnits_23 ?_
      refine lv_iload hx hb dX5_fundUnits_26 (lv_at hl 3 rfl) ?_
      refine va_csq (W.runV (As := [.int (nI i)]) (rest := [.long su]) ⟨hx, hb, hml, hown, hts⟩ (m_Jx4a65c_get_915e3 l D mk mm em1 cap n cO fl i (ca i) (by omega) hn (by omega) hc1) (cwV 1 hts gX5_fundUnits_Jx4a65c_get_915e3 rfl rfl rfl (by decide +kernel) ⟨Nat.le_of_ble_eq_true rfl, Nat.le_of_ble_eq_true rfl⟩) (z1_V (va_recv hK hP (ci := 0) (q0 := 1) rfl rfl) (hP.sub (ws' := [(mk, .inr (0, [.int mm, .ref em1, .int (nI n)])), (em1, .inl (cO, cap, .inr (.inr (.inr (.inr fl)))))]) [1, 2] rfl) (hK.sub (tys' := [(cO, .object "java/lang/Object")]) [0] rfl) hG) rfl rfl hl.1 rfl (lv_room (Nat.le_of_ble_eq_true rfl)) dX5_fundUnits_28 ⟨Nat.le_of_ble_eq_true rfl, Nat.le_of_ble_eq_true rfl⟩) (fun r_3 e_r_3 => ?_)
      replace e_r_3 := e_r_3.symm; subst e_r_3
      refine W.eq (g2 := F0 m 31 ls [.ref (ca i), .long su]) rfl ?_
      refine va_castS (nm := "UnitContracts$Contract") hx hb hown k_2 (hK.1 1 _ rfl).2 (va_recv hK hPi (ci := 1) (q0 := 0) rfl rfl) dX5_fundUnits_31 ?_
      refine lv_iload_n hx hb dX5_fundUnits_34 rfl (lv_at hl 1 rfl) ?_
      refine vp_callSl (W.runV (As := [.int (nI q)]) (rest := [.long su]) ⟨hx, hb, hml, hown, hts⟩ (m_X0_allUnitsIn l D (ca i) (aa i) cJ (fp i) (fs i) (fr i) (ff i) (fi i) (fa i) (fz i) (ac i) q (by first | omega | assumption) hc5) (cwV 1 hts gX5_fundUnits_X0_allUnitsIn rfl rfl rfl (by decide +kernel) ⟨Nat.le_of_ble_eq_true rfl, Nat.le_of_ble_eq_true rfl⟩) (z1_V (va_recv hK hPi (ci := 1) (q0 := 0) rfl rfl) (hPi.sub (ws' := [((ca i), .inr (1, [.int (fp i), .int (fs i), .int (fr i), .int (nI (ff i)), .ref (aa i), .long (fi i), .int (nI (fa i)), .int (fz i)])), ((aa i), .inl (cJ, 3, .inr (.inl (ac i))))]) [0, 1] rfl) (hK.sub (tys' := [(cJ, .long)]) [1] rfl) hG) rfl rfl hl.1 rfl (lv_room (Nat.le_of_ble_eq_true rfl)) dX5_fundUnits_35 ⟨Nat.le_of_ble_eq_true rfl, Nat.le_of_ble_eq_true rfl⟩) (fun r_4 e_r_4 => ?_)
      replace e_r_4 := e_r_4.symm; subst e_r_4
      refine zx_ladd (v := su + ((ac i) q + k_ini q (ff i) (fi i))) hx hb dX5_fundUnits_38 (rfl) ?_
      refine lv_lstore_n (lv' := [(2, .long (su + ((ac i) q + k_ini q (ff i) (fi i)))), (0, .ref x), (1, .int (nI q)), (4, .int (nI i))]) hx hb dX5_fundUnits_39 rfl hl (by decide) rfl (fun ls hl => ?_)
      refine lv_iinc (v := nI (i + 1)) (lv' := [(4, .int (nI (i + 1))), (2, .long (su + ((ac i) q + k_ini q (ff i) (fi i)))), (0, .ref x), (1, .int (nI q))]) hx hb dX5_fundUnits_40 hl (k := 3) rfl (nI_1 i) (by decide) rfl (fun ls hl => ?_)
      refine lv_goto (tgt := 9) hx hb dX5_fundUnits_43 (by decide) ?_
      exact ih (i + 1) (su + ((ac i) q + k_ini q (ff i) (fi i)))  ls (by omega) (by rw [hsu, hc4]; rfl)  (lv_sub hl [2, 3, 1, 0] rfl)
  exact loop_9 (n) 0 0  ls (by omega) rfl  (lv_sub hl [2, 3, 1, 0] rfl)

set_option maxHeartbeats 4000000 in
set_option maxRecDepth 100000 in
/-- fundUnits: no contracts -/
theorem m_X5_fundUnits_e (l : Launch) (D : va_G) (x pr mk os : Nat) (ch gd : Int64) (mm : Int32) (em1 q : Nat) (hq : q < 3) : Met l yX5_fundUnits wsX5_fundUnits ({ frames := 2, cells := 0, slots := 0, locals := 40 }) (z1 D [(x, .inr (5, [.ref pr, .ref mk, .ref os, .long ch, .long gd])), (mk, .inr (0, [.int mm, .ref em1, .int (nI 0)]))] [] [.ref x, .int (nI q)]) (vp_Sl (fun r => r = 0)) 0 0 (fun _ => False) := by
  refine zm1 (cc := cX5_fundUnits) (maxL := 5) (ret := (some .long)) (by decide) rfl (Nat.le_of_ble_eq_true rfl) ?_
  intro p e s m below meth c ls hx hb hml hr hlocks hown hts hP hK hG hl
  have hl : lv_has ls 5 [(0, .ref x), (1, .int (nI q))] := hl
  have k_0 := hts (.fieldLink RX5 19 "UnitContracts" "made" "Ljava/util/ArrayList;") (List.mem_of_getElem? (i := 1) rfl)
  have i_RX5 : ∀ w ∈ u_ws RX5 TX5 5, w ∈ wsX5_fundUnits := by decide +kernel
  refine lv_iload_n hx hb dX5_fundUnits_0 rfl (lv_at hl 1 rfl) ?_
  refine va_csv (W.runS (As := [.int (nI q)]) (rest := []) ⟨hx, hb, hml, hown, hts⟩ (m_X5_requireFund_ok l q (by first | omega | assumption)) (va_cwS 1 hts gX5_fundUnits_X5_requireFund rfl rfl rfl (by decide +kernel) ⟨Nat.le_of_ble_eq_true rfl, Nat.le_of_ble_eq_true rfl⟩) z0_S rfl rfl hl.1 rfl (lv_room (Nat.le_of_ble_eq_true rfl)) dX5_fundUnits_1 ⟨Nat.le_of_ble_eq_true rfl, Nat.le_of_ble_eq_true rfl⟩) (fun _ => ?_)
  refine lv_lconst (v := 0) hx hb dX5_fundUnits_4 (by decide) ?_
  refine lv_lstore_n (lv' := [(2, .long 0), (0, .ref x), (1, .int (nI q))]) hx hb dX5_fundUnits_5 rfl hl (by decide) rfl (fun ls hl => ?_)
  refine lv_iconst (v := nI 0) hx hb dX5_fundUnits_6 (by decide) ?_
  refine lv_istore (lv' := [(4, .int (nI 0)), (2, .long 0), (0, .ref x), (1, .int (nI q))]) hx hb dX5_fundUnits_7 hl (by decide) rfl (fun ls hl => ?_)
  refine lv_iload hx hb dX5_fundUnits_9 (lv_at hl 0 rfl) ?_
  refine lv_aload_n hx hb dX5_fundUnits_11 rfl (lv_at hl 2 rfl) ?_
  refine va_get (D := D) (ci := 5) (v := .ref mk) (C := RX5) (T := TX5) (N := 5) hx hb hts i_RX5 hown hK hP 0 rfl rfl 1 (by decide) k_0 (fun _ h9 => h9) rfl dX5_fundUnits_12 ?_
  refine vp_callSi (W.runV (As := []) (rest := [.int (nI 0)]) ⟨hx, hb, hml, hown, hts⟩ (m_Jx4a65c_size_8abf5 l D mk mm em1 0) (cwV 0 hts gX5_fundUnits_Jx4a65c_size_8abf5 rfl rfl rfl (by decide +kernel) ⟨Nat.le_of_ble_eq_true rfl, Nat.le_of_ble_eq_true rfl⟩) (z1_V (va_recv hK hP (ci := 0) (q0 := 1) rfl rfl) (hP.sub (ws' := [(mk, .inr (0, [.int mm, .ref em1, .int (nI 0)]))]) [1] rfl) (hK.sub (tys' := []) [] rfl) hG) rfl rfl hl.1 rfl (lv_room (Nat.le_of_ble_eq_true rfl)) dX5_fundUnits_15 ⟨Nat.le_of_ble_eq_true rfl, Nat.le_of_ble_eq_true rfl⟩) (fun r_1 e_r_1 => ?_)
  replace e_r_1 := e_r_1.symm; subst e_r_1
  refine lv_icmp_ge (tgt := 46) hx hb dX5_fundUnits_18 (by decide) (fun _ => ?_) (fun h9 => absurd (by decide) h9)
  refine lv_lload_n hx hb dX5_fundUnits_46 rfl (lv_at hl 1 rfl) ?_
  exact zretl1 hx hb hr hlocks dX5_fundUnits_47 (by first | rfl | (subst_vars; rfl))

set_option maxHeartbeats 4000000 in
set_option maxRecDepth 100000 in
/-- make: the first -/
theorem m_X5_make_e (l : Launch) (D : va_G) (x pr mk os : Nat) (ch gd : Int64) (mm : Int32) (pm sm rt : Int32) (q : Nat) (em : Nat) (h0 : k_isIn pm (nI 100) (nI 100000) = nI 1) (h1 : k_isIn sm (nI 0) (nI 1000000) = nI 1) (h2 : k_isIn rt (nI 0) (nI 1000) = nI 1) (hq : q < 3) (sz : Nat)  : Met l yX5_make wsX5_make ({ frames := 5, cells := 3, slots := 811, locals := 119 }) (zq D [(x, .inr (5, [.ref pr, .ref mk, .ref os, .long ch, .long gd])), (mk, .inr (0, [.int mm, .ref em, .int (nI 0)]))] [] sz [.ref x, .int pm, .int sm, .int rt, .int (nI q)] (fun U H => HS (va_A [(x, .inr (5, [.ref pr, .ref mk, .ref os, .long ch, .long gd])), (mk, .inr (0, [.int mm, .ref em, .int (nI 0)]))] sz) em U H)) (va_Qi (fun (r : Int32) (_ : Unit) => r = nI 0) (fun _ t9 => ∃ (co : Nat) (ac : Nat) (cJ : ClassId) (eq : Nat) (cO : ClassId), va_P D vwCl [(x, .inr (5, [.ref pr, .ref mk, .ref os, .long ch, .long gd])), (mk, .inr (0, [.int (mm + nI 1), .ref eq, .int (nI 1)])), (eq, .inl (cO, 10, .inr (.inr (.inr (.inr (va_up (fun _ => none) 0 (some co))))))), (co, .inr (1, [.int pm, .int sm, .int rt, .int (nI q), .ref ac, .long 0, .int (nI 0), .int (nI 1)])), (ac, .inl (cJ, 3, .inr (.inl (fun _ => 0))))] t9.heap ∧ va_K D vwCl [(cJ, .long), (cO, .object "java/lang/Object")] t9 ∧ va_D (va_A [(x, .inr (5, [.ref pr, .ref mk, .ref os, .long ch, .long gd])), (mk, .inr (0, [.int mm, .ref em, .int (nI 0)]))] sz) [(x, .inr (5, [.ref pr, .ref mk, .ref os, .long ch, .long gd])), (mk, .inr (0, [.int (mm + nI 1), .ref eq, .int (nI 1)])), (eq, .inl (cO, 10, .inr (.inr (.inr (.inr (va_up (fun _ => none) 0 (some co))))))), (co, .inr (1, [.int pm, .int sm, .int rt, .int (nI q), .ref ac, .long 0, .int (nI 0), .int (nI 1)])), (ac, .inl (cJ, 3, .inr (.inl (fun _ => 0))))]) (va_A [(x, .inr (5, [.ref pr, .ref mk, .ref os, .long ch, .long gd])), (mk, .inr (0, [.int mm, .ref em, .int (nI 0)]))] sz)) 3 811 (va_A [(x, .inr (5, [.ref pr, .ref mk, .ref os, .long ch, .long gd])), (mk, .inr (0, [.int mm, .ref em, .int (nI 0)]))] sz) := by
  refine zmq (cc := cX5_make) (maxL := 5) (ret := (some .int)) (by decide) rfl (Nat.le_of_ble_eq_true rfl) ?_
  intro p e s m below meth c ls A hAe hsz hin hx hb hml hr hlocks hown hts hP hK hG hD hA hS hX hl
  subst hsz
  rw [← hAe] at hX
  have hHS := hX
  have hl : lv_has ls 5 [(0, .ref x), (1, .int pm), (2, .int sm), (3, .int rt), (4, .int (nI q))] := hl
  have k_0 := hts (.constant RX5 69 (100000)) (List.mem_of_getElem? (i := 5) rfl)
  have k_1 := hts (.constant RX5 72 (1000000)) (List.mem_of_getElem? (i := 6) rfl)
  have k_2 := hts (.fieldLink RX5 19 "UnitContracts" "made" "Ljava/util/ArrayList;") (List.mem_of_getElem? (i := 7) rfl)
  have i_RX5 : ∀ w ∈ u_ws RX5 TX5 5, w ∈ wsX5_make := by decide +kernel
  have i_RX0 : ∀ w ∈ u_ws RX0 TX0 8, w ∈ wsX5_make := by decide +kernel
  have k_5 := hts (.classLink RX5 82 RX0) (List.mem_of_getElem? (i := 8) rfl)
  have k_6 := hts (.instantiable RX0 8) (List.mem_of_getElem? (i := 9) rfl)
  have k_7 := hts (.initialized RX0) (List.mem_of_getElem? (i := 10) rfl)
  have k_8 := hts (.methodLink RX5 84 yX0_init) (List.mem_of_getElem? (i := 24) rfl)
  have k_9 := hts (.instanceMethod yX0_init) (List.mem_of_getElem? (i := 25) rfl)
  refine lv_iload_n hx hb dX5_make_0 rfl (lv_at hl 1 rfl) ?_
  refine lv_bipush (v := nI 100) hx hb dX5_make_1 (by decide) ?_
  refine lv_icmp_lt (tgt := 12) hx hb dX5_make_3 (by decide) (fun h9 => absurd h9 (k_isIn_1 h0).1) (fun _ => ?_)
  refine lv_iload_n hx hb dX5_make_6 rfl (lv_at hl 1 rfl) ?_
  refine lv_ldc (v := nI 100000) hx hb hown k_0 dX5_make_7 ?_
  refine lv_icmp_le (tgt := 22) hx hb dX5_make_9 (by decide) (fun _ => ?_) (fun h9 => absurd (Int32.not_lt.mp (k_isIn_1 h0).2) h9)
  refine lv_iload_n hx hb dX5_make_22 rfl (lv_at hl 2 rfl) ?_
  refine lv_if_lt (tgt := 32) hx hb dX5_make_23 (by decide) (fun h9 => absurd h9 (k_isIn_1 h1).1) (fun _ => ?_)
  refine lv_iload_n hx hb dX5_make_26 rfl (lv_at hl 2 rfl) ?_
  refine lv_ldc (v := nI 1000000) hx hb hown k_1 dX5_make_27 ?_
  refine lv_icmp_le (tgt := 42) hx hb dX5_make_29 (by decide) (fun _ => ?_) (fun h9 => absurd (Int32.not_lt.mp (k_isIn_1 h1).2) h9)
  refine lv_iload_n hx hb dX5_make_42 rfl (lv_at hl 3 rfl) ?_
  refine lv_if_lt (tgt := 53) hx hb dX5_make_43 (by decide) (fun h9 => absurd h9 (k_isIn_1 h2).1) (fun _ => ?_)
  refine lv_iload_n hx hb dX5_make_46 rfl (lv_at hl 3 rfl) ?_
  refine lv_sipush (v := nI 1000) hx hb dX5_make_47 (by decide) ?_
  refine lv_icmp_le (tgt := 63) hx hb dX5_make_50 (by decide) (fun _ => ?_) (fun h9 => absurd (Int32.not_lt.mp (k_isIn_1 h2).2) h9)
  refine lv_iload hx hb dX5_make_63 (lv_at hl 4 rfl) ?_
  refine va_csv (W.runS (As := [.int (nI q)]) (rest := []) ⟨hx, hb, hml, hown, hts⟩ (m_X5_requireFund_ok l q (by first | omega | assumption)) (va_cwS 1 hts gX5_make_X5_requireFund rfl rfl rfl (by decide +kernel) ⟨Nat.le_of_ble_eq_true rfl, Nat.le_of_ble_eq_true rfl⟩) z0_S rfl rfl hl.1 rfl (lv_room (Nat.le_of_ble_eq_true rfl)) dX5_make_65 ⟨Nat.le_of_ble_eq_true rfl, Nat.le_of_ble_eq_true rfl⟩) (fun _ => ?_)
  refine lv_aload_n hx hb dX5_make_68 rfl (lv_at hl 0 rfl) ?_
  refine va_get (D := D) (ci := 5) (v := .ref mk) (C := RX5) (T := TX5) (N := 5) hx hb hts i_RX5 hown hK hP 0 rfl rfl 1 (by decide) k_2 (fun _ h9 => h9) rfl dX5_make_69 ?_
  refine vp_callSi (W.runV (As := []) (rest := []) ⟨hx, hb, hml, hown, hts⟩ (m_Jx4a65c_size_8abf5 l D mk mm em 0) (cwV 0 hts gX5_make_Jx4a65c_size_8abf5 rfl rfl rfl (by decide +kernel) ⟨Nat.le_of_ble_eq_true rfl, Nat.le_of_ble_eq_true rfl⟩) (z1_V (va_recv hK hP (ci := 0) (q0 := 1) rfl rfl) (hP.sub (ws' := [(mk, .inr (0, [.int mm, .ref em, .int (nI 0)]))]) [1] rfl) (hK.sub (tys' := []) [] rfl) hG) rfl rfl hl.1 rfl (lv_room (Nat.le_of_ble_eq_true rfl)) dX5_make_72 ⟨Nat.le_of_ble_eq_true rfl, Nat.le_of_ble_eq_true rfl⟩) (fun r_1 e_r_1 => ?_)
  replace e_r_1 := e_r_1.symm; subst e_r_1
  refine lv_bipush (v := nI 10) hx hb dX5_make_75 (by decide) ?_
  refine lv_icmp_lt (tgt := 90) hx hb dX5_make_77 (by decide) (fun _ => ?_) (fun h9 => absurd ((nI_ltI (a := 0) (b := 10) (by omega) (by omega)).mpr (by omega)) h9)
  refine lv_aload_n hx hb dX5_make_90 rfl (lv_at hl 0 rfl) ?_
  refine va_get (D := D) (ci := 5) (v := .ref mk) (C := RX5) (T := TX5) (N := 5) hx hb hts i_RX5 hown hK hP 0 rfl rfl 1 (by decide) k_2 (fun _ h9 => h9) rfl dX5_make_91 ?_
  refine va_new (D := D) (ci := 1) (fs := [.int (nI 0), .int (nI 0), .int (nI 0), .int (nI 0), .null, .long 0, .int (nI 0), .int (nI 0)]) (C := RX0) (T := TX0) (N := 8) hx hb hts i_RX0 tyX0 tyX0_ok hown k_5 k_6 k_7 hK hP hD hS hA rfl (fun j hj => by rcases (show j = 0 ∨ j = 1 ∨ j = 2 ∨ j = 3 ∨ j = 4 ∨ j = 5 ∨ j = 6 ∨ j = 7 by omega) with rfl | rfl | rfl | rfl | rfl | rfl | rfl | rfl <;> rfl) (Nat.le_of_ble_eq_true rfl) (Nat.le_of_ble_eq_true rfl) dX5_make_94 (fun q_2 H hP hD hS => ?_)
  have hP : va_P D vwCl [(x, .inr (5, [.ref pr, .ref mk, .ref os, .long ch, .long gd])), (mk, .inr (0, [.int mm, .ref em, .int (nI 0)])), (q_2, .inr (1, [.int (nI 0), .int (nI 0), .int (nI 0), .int (nI 0), .null, .long 0, .int (nI 0), .int (nI 0)]))] H := hP
  have hD : va_D A [(x, .inr (5, [.ref pr, .ref mk, .ref os, .long ch, .long gd])), (mk, .inr (0, [.int mm, .ref em, .int (nI 0)])), (q_2, .inr (1, [.int (nI 0), .int (nI 0), .int (nI 0), .int (nI 0), .null, .long 0, .int (nI 0), .int (nI 0)]))] := hD
  refine W.widen (k := 1) (n := 8) (by decide) (by decide) ?_
  refine lv_dup hx hb dX5_make_97 rfl ?_
  refine lv_iload_n hx hb dX5_make_98 rfl (lv_at hl 1 rfl) ?_
  refine lv_iload_n hx hb dX5_make_99 rfl (lv_at hl 2 rfl) ?_
  refine lv_iload_n hx hb dX5_make_100 rfl (lv_at hl 3 rfl) ?_
  refine lv_iload hx hb dX5_make_101 (lv_at hl 4 rfl) ?_
  have hF_6 := va_free (wc := [(q_2, .inr (1, [.int (nI 0), .int (nI 0), .int (nI 0), .int (nI 0), .null, .long 0, .int (nI 0), .int (nI 0)]))]) hD hS hA [2] rfl
  refine va_callv (va_runI (As := [.int pm, .int sm, .int rt, .int (nI q)]) (rest := [.ref q_2, .ref mk]) ⟨hx, hb, hml, hown, hts⟩ (m_X0_init l D q_2 pm sm rt q _) (cwI 4 hts gX5_make_X0_init rfl rfl rfl k_7 k_8 k_9 rfl (by decide +kernel) ⟨Nat.le_of_ble_eq_true rfl, Nat.le_of_ble_eq_true rfl⟩) (zq_S XM.t (hP.sub (ws' := [(q_2, .inr (1, [.int (nI 0), .int (nI 0), .int (nI 0), .int (nI 0), .null, .long 0, .int (nI 0), .int (nI 0)]))]) [2] rfl) (hK.sub (tys' := []) [] rfl) (hD.sub (ws' := [(q_2, .inr (1, [.int (nI 0), .int (nI 0), .int (nI 0), .int (nI 0), .null, .long 0, .int (nI 0), .int (nI 0)]))]) [2] (by decide) rfl) hG trivial) rfl rfl hl.1 rfl (lv_room (Nat.le_of_ble_eq_true rfl)) dX5_make_103 ⟨Nat.le_of_ble_eq_true rfl, Nat.le_of_ble_eq_true rfl⟩) hS (fun q _ h => hF_6 q h) hF_6 (fun u t1 H locs ht1 hvm hw hB hz1 hk1 hS => ?_)
  obtain ⟨ac__3, cJ__4, hP1, hK1, hD1⟩ := hB
  rw [ht1] at hP1
  have hK1 := va_K.moved hvm.symm hK1
  obtain ⟨hP, hD⟩ := va_join (wr := [(x, .inr (5, [.ref pr, .ref mk, .ref os, .long ch, .long gd])), (mk, .inr (0, [.int mm, .ref em, .int (nI 0)]))]) (w1 := [(q_2, .inr (1, [.int pm, .int sm, .int rt, .int (nI q), .ref ac__3, .long 0, .int (nI 0), .int (nI 1)])), (ac__3, .inl (cJ__4, 3, .inr (.inl (fun _ => 0))))]) hP hD [2] [0, 1] rfl rfl (by decide) (by decide) hk1 hF_6 hP1 hD1
  have hK := hK.app hK1
  have hK := hK.sub (tys' := [(cJ__4, .long)]) [0] rfl
  have hP : va_P D vwCl [(x, .inr (5, [.ref pr, .ref mk, .ref os, .long ch, .long gd])), (mk, .inr (0, [.int mm, .ref em, .int (nI 0)])), (q_2, .inr (1, [.int pm, .int sm, .int rt, .int (nI q), .ref ac__3, .long 0, .int (nI 0), .int (nI 1)])), (ac__3, .inl (cJ__4, 3, .inr (.inl (fun _ => 0))))] H := hP
  have hD : va_D A [(x, .inr (5, [.ref pr, .ref mk, .ref os, .long ch, .long gd])), (mk, .inr (0, [.int mm, .ref em, .int (nI 0)])), (q_2, .inr (1, [.int pm, .int sm, .int rt, .int (nI q), .ref ac__3, .long 0, .int (nI 0), .int (nI 1)])), (ac__3, .inl (cJ__4, 3, .inr (.inl (fun _ => 0))))] := hD
  refine W.widen (k := 2) (n := 11) (by decide) (by decide) ?_
  have hF_10 := va_free (wc := [(mk, .inr (0, [.int mm, .ref em, .int (nI 0)]))]) hD hS hA [1] rfl
  refine va_calli (va_runV (As := [.ref q_2]) (rest := []) ⟨hx, hb, hml, hown, hts⟩ (m_Jx4a65c_add_e l D mk mm em q_2 _) (cwV 1 hts gX5_make_Jx4a65c_add_9ea2d rfl rfl rfl (by decide +kernel) ⟨Nat.le_of_ble_eq_true rfl, Nat.le_of_ble_eq_true rfl⟩) (zq_V (XM.and XM.hs XM.ev) (va_recv hK hP (ci := 0) (q0 := 1) rfl rfl) (hP.sub (ws' := [(mk, .inr (0, [.int mm, .ref em, .int (nI 0)]))]) [1] rfl) (hK.sub (tys' := []) [] rfl) (hD.sub (ws' := [(mk, .inr (0, [.int mm, .ref em, .int (nI 0)]))]) [1] (by decide) rfl) hG ⟨hHS.go hS (va_free (wc := [(mk, .inr (0, [.int mm, .ref em, .int (nI 0)]))]) hD hS hA [1] rfl), (ev_mk (wc := [(mk, .inr (0, [.int mm, .ref em, .int (nI 0)]))]) hP hD hK hG [1] rfl 2 rfl (by decide) rfl (by decide +kernel))⟩) rfl rfl hl.1 rfl (lv_room (Nat.le_of_ble_eq_true rfl)) dX5_make_106 ⟨Nat.le_of_ble_eq_true rfl, Nat.le_of_ble_eq_true rfl⟩) hS (fun q _ h => hF_10 q h) hF_10 (fun ra_9 u t1 H locs ht1 hvm hw hB hz1 hk1 hS => ?_)
  obtain ⟨q__7, cO__8, hP1, hK1, hD1⟩ := hB
  rw [ht1] at hP1
  have hK1 := va_K.moved hvm.symm hK1
  obtain ⟨hP, hD⟩ := va_join (wr := [(x, .inr (5, [.ref pr, .ref mk, .ref os, .long ch, .long gd])), (q_2, .inr (1, [.int pm, .int sm, .int rt, .int (nI q), .ref ac__3, .long 0, .int (nI 0), .int (nI 1)])), (ac__3, .inl (cJ__4, 3, .inr (.inl (fun _ => 0))))]) (w1 := [(mk, .inr (0, [.int (mm + nI 1), .ref q__7, .int (nI 1)])), (q__7, .inl (cO__8, 10, .inr (.inr (.inr (.inr (va_up (fun _ => none) 0 (some q_2)))))))]) hP hD [1] [0, 2, 3] rfl rfl (by decide) (by decide) hk1 hF_10 hP1 hD1
  have hK := hK.app hK1
  have hK := hK.sub (tys' := [(cJ__4, .long), (cO__8, .object "java/lang/Object")]) [0, 1] rfl
  have hP : va_P D vwCl [(x, .inr (5, [.ref pr, .ref mk, .ref os, .long ch, .long gd])), (q_2, .inr (1, [.int pm, .int sm, .int rt, .int (nI q), .ref ac__3, .long 0, .int (nI 0), .int (nI 1)])), (ac__3, .inl (cJ__4, 3, .inr (.inl (fun _ => 0)))), (mk, .inr (0, [.int (mm + nI 1), .ref q__7, .int (nI 1)])), (q__7, .inl (cO__8, 10, .inr (.inr (.inr (.inr (va_up (fun _ => none) 0 (some q_2)))))))] H := hP
  have hD : va_D A [(x, .inr (5, [.ref pr, .ref mk, .ref os, .long ch, .long gd])), (q_2, .inr (1, [.int pm, .int sm, .int rt, .int (nI q), .ref ac__3, .long 0, .int (nI 0), .int (nI 1)])), (ac__3, .inl (cJ__4, 3, .inr (.inl (fun _ => 0)))), (mk, .inr (0, [.int (mm + nI 1), .ref q__7, .int (nI 1)])), (q__7, .inl (cO__8, 10, .inr (.inr (.inr (.inr (va_up (fun _ => none) 0 (some q_2)))))))] := hD
  refine W.widen (k := 3) (n := 811) (by decide) (by decide) ?_
  subst hw
  refine lv_pop hx hb dX5_make_109 rfl ?_
  refine lv_aload_n hx hb dX5_make_110 rfl (lv_at hl 0 rfl) ?_
  refine va_get (D := D) (ci := 5) (v := .ref mk) (C := RX5) (T := TX5) (N := 5) hx hb hts i_RX5 hown hK hP 0 rfl rfl 1 (by decide) k_2 (fun _ h9 => h9) rfl dX5_make_111 ?_
  refine vp_callSi (W.runV (As := []) (rest := []) ⟨hx, hb, hml, hown, hts⟩ (m_Jx4a65c_size_8abf5 l D mk (mm + nI 1) q__7 1) (cwV 0 hts gX5_make_Jx4a65c_size_8abf5 rfl rfl rfl (by decide +kernel) ⟨Nat.le_of_ble_eq_true rfl, Nat.le_of_ble_eq_true rfl⟩) (z1_V (va_recv hK hP (ci := 0) (q0 := 3) rfl rfl) (hP.sub (ws' := [(mk, .inr (0, [.int (mm + nI 1), .ref q__7, .int (nI 1)]))]) [3] rfl) (hK.sub (tys' := []) [] rfl) hG) rfl rfl hl.1 rfl (lv_room (Nat.le_of_ble_eq_true rfl)) dX5_make_114 ⟨Nat.le_of_ble_eq_true rfl, Nat.le_of_ble_eq_true rfl⟩) (fun r_11 e_r_11 => ?_)
  replace e_r_11 := e_r_11.symm; subst e_r_11
  refine lv_iconst (v := nI 1) hx hb dX5_make_117 (by decide) ?_
  refine zx_isub (v := nI 0) hx hb dX5_make_118 (by decide) ?_
  subst hAe
  exact zretBi hx hb hr hlocks (fun t9 ht hv => ⟨q_2, ac__3, cJ__4, q__7, cO__8, by rw [ht]; exact (hP.sub (ws' := [(x, .inr (5, [.ref pr, .ref mk, .ref os, .long ch, .long gd])), (mk, .inr (0, [.int (mm + nI 1), .ref q__7, .int (nI 1)])), (q__7, .inl (cO__8, 10, .inr (.inr (.inr (.inr (va_up (fun _ => none) 0 (some q_2))))))), (q_2, .inr (1, [.int pm, .int sm, .int rt, .int (nI q), .ref ac__3, .long 0, .int (nI 0), .int (nI 1)])), (ac__3, .inl (cJ__4, 3, .inr (.inl (fun _ => 0))))]) [0, 3, 4, 1, 2] rfl), va_K.moved hv (hK.sub [0, 1] rfl), (hD.sub (ws' := [(x, .inr (5, [.ref pr, .ref mk, .ref os, .long ch, .long gd])), (mk, .inr (0, [.int (mm + nI 1), .ref q__7, .int (nI 1)])), (q__7, .inl (cO__8, 10, .inr (.inr (.inr (.inr (va_up (fun _ => none) 0 (some q_2))))))), (q_2, .inr (1, [.int pm, .int sm, .int rt, .int (nI q), .ref ac__3, .long 0, .int (nI 0), .int (nI 1)])), (ac__3, .inl (cJ__4, 3, .inr (.inl (fun _ => 0))))]) [0, 3, 4, 1, 2] (by decide) rfl)⟩) hS dX5_make_119 (Nat.le_of_ble_eq_true rfl) (Nat.le_of_ble_eq_true rfl) (rfl)

set_option maxHeartbeats 4000000 in
set_option maxRecDepth 100000 in
/-- make: where room is -/
theorem m_X5_make_r (l : Launch) (D : va_G) (x pr mk os : Nat) (ch gd : Int64) (mm : Int32) (em1 n : Nat) (cap : Nat) (cO : ClassId) (fl : Nat → Option Nat) (pm sm rt : Int32) (q : Nat) (h0 : k_isIn pm (nI 100) (nI 100000) = nI 1) (h1 : k_isIn sm (nI 0) (nI 1000000) = nI 1) (h2 : k_isIn rt (nI 0) (nI 1000) = nI 1) (hq : q < 3) (hn : n < 10) (hnc : n < cap) (hcap : cap ≤ 800) (sz : Nat)  : Met l yX5_make wsX5_make ({ frames := 2, cells := 3, slots := 811, locals := 44 }) (zq D [(x, .inr (5, [.ref pr, .ref mk, .ref os, .long ch, .long gd])), (mk, .inr (0, [.int mm, .ref em1, .int (nI n)])), (em1, .inl (cO, cap, .inr (.inr (.inr (.inr fl)))))] [(cO, .object "java/lang/Object")] sz [.ref x, .int pm, .int sm, .int rt, .int (nI q)] (fun U H => True)) (va_Qi (fun (r : Int32) (_ : Unit) => r = nI n) (fun _ t9 => ∃ (co : Nat) (ac : Nat) (cJ : ClassId), va_P D vwCl [(x, .inr (5, [.ref pr, .ref mk, .ref os, .long ch, .long gd])), (mk, .inr (0, [.int (mm + nI 1), .ref em1, .int (nI (n + 1))])), (em1, .inl (cO, cap, .inr (.inr (.inr (.inr (va_up fl n (some co))))))), (co, .inr (1, [.int pm, .int sm, .int rt, .int (nI q), .ref ac, .long 0, .int (nI 0), .int (nI 1)])), (ac, .inl (cJ, 3, .inr (.inl (fun _ => 0))))] t9.heap ∧ va_K D vwCl [(cO, .object "java/lang/Object"), (cJ, .long)] t9 ∧ va_D (va_A [(x, .inr (5, [.ref pr, .ref mk, .ref os, .long ch, .long gd])), (mk, .inr (0, [.int mm, .ref em1, .int (nI n)])), (em1, .inl (cO, cap, .inr (.inr (.inr (.inr fl)))))] sz) [(x, .inr (5, [.ref pr, .ref mk, .ref os, .long ch, .long gd])), (mk, .inr (0, [.int (mm + nI 1), .ref em1, .int (nI (n + 1))])), (em1, .inl (cO, cap, .inr (.inr (.inr (.inr (va_up fl n (some co))))))), (co, .inr (1, [.int pm, .int sm, .int rt, .int (nI q), .ref ac, .long 0, .int (nI 0), .int (nI 1)])), (ac, .inl (cJ, 3, .inr (.inl (fun _ => 0))))]) (va_A [(x, .inr (5, [.ref pr, .ref mk, .ref os, .long ch, .long gd])), (mk, .inr (0, [.int mm, .ref em1, .int (nI n)])), (em1, .inl (cO, cap, .inr (.inr (.inr (.inr fl)))))] sz)) 3 811 (va_A [(x, .inr (5, [.ref pr, .ref mk, .ref os, .long ch, .long gd])), (mk, .inr (0, [.int mm, .ref em1, .int (nI n)])), (em1, .inl (cO, cap, .inr (.inr (.inr (.inr fl)))))] sz) := by
  refine zmq (cc := cX5_make) (maxL := 5) (ret := (some .int)) (by decide) rfl (Nat.le_of_ble_eq_true rfl) ?_
  intro p e s m below meth c ls A hAe hsz hin hx hb hml hr hlocks hown hts hP hK hG hD hA hS hX hl
  subst hsz
  skip
  have hl : lv_has ls 5 [(0, .ref x), (1, .int pm), (2, .int sm), (3, .int rt), (4, .int (nI q))] := hl
  have k_0 := hts (.constant RX5 69 (100000)) (List.mem_of_getElem? (i := 5) rfl)
  have k_1 := hts (.constant RX5 72 (1000000)) (List.mem_of_getElem? (i := 6) rfl)
  have k_2 := hts (.fieldLink RX5 19 "UnitContracts" "made" "Ljava/util/ArrayList;") (List.mem_of_getElem? (i := 7) rfl)
  have i_RX5 : ∀ w ∈ u_ws RX5 TX5 5, w ∈ wsX5_make := by decide +kernel
  have i_RX0 : ∀ w ∈ u_ws RX0 TX0 8, w ∈ wsX5_make := by decide +kernel
  have k_5 := hts (.classLink RX5 82 RX0) (List.mem_of_getElem? (i := 8) rfl)
  have k_6 := hts (.instantiable RX0 8) (List.mem_of_getElem? (i := 9) rfl)
  have k_7 := hts (.initialized RX0) (List.mem_of_getElem? (i := 10) rfl)
  have k_8 := hts (.methodLink RX5 84 yX0_init) (List.mem_of_getElem? (i := 24) rfl)
  have k_9 := hts (.instanceMethod yX0_init) (List.mem_of_getElem? (i := 25) rfl)
  refine lv_iload_n hx hb dX5_make_0 rfl (lv_at hl 1 rfl) ?_
  refine lv_bipush (v := nI 100) hx hb dX5_make_1 (by decide) ?_
  refine lv_icmp_lt (tgt := 12) hx hb dX5_make_3 (by decide) (fun h9 => absurd h9 (k_isIn_1 h0).1) (fun _ => ?_)
  refine lv_iload_n hx hb dX5_make_6 rfl (lv_at hl 1 rfl) ?_
  refine lv_ldc (v := nI 100000) hx hb hown k_0 dX5_make_7 ?_
  refine lv_icmp_le (tgt := 22) hx hb dX5_make_9 (by decide) (fun _ => ?_) (fun h9 => absurd (Int32.not_lt.mp (k_isIn_1 h0).2) h9)
  refine lv_iload_n hx hb dX5_make_22 rfl (lv_at hl 2 rfl) ?_
  refine lv_if_lt (tgt := 32) hx hb dX5_make_23 (by decide) (fun h9 => absurd h9 (k_isIn_1 h1).1) (fun _ => ?_)
  refine lv_iload_n hx hb dX5_make_26 rfl (lv_at hl 2 rfl) ?_
  refine lv_ldc (v := nI 1000000) hx hb hown k_1 dX5_make_27 ?_
  refine lv_icmp_le (tgt := 42) hx hb dX5_make_29 (by decide) (fun _ => ?_) (fun h9 => absurd (Int32.not_lt.mp (k_isIn_1 h1).2) h9)
  refine lv_iload_n hx hb dX5_make_42 rfl (lv_at hl 3 rfl) ?_
  refine lv_if_lt (tgt := 53) hx hb dX5_make_43 (by decide) (fun h9 => absurd h9 (k_isIn_1 h2).1) (fun _ => ?_)
  refine lv_iload_n hx hb dX5_make_46 rfl (lv_at hl 3 rfl) ?_
  refine lv_sipush (v := nI 1000) hx hb dX5_make_47 (by decide) ?_
  refine lv_icmp_le (tgt := 63) hx hb dX5_make_50 (by decide) (fun _ => ?_) (fun h9 => absurd (Int32.not_lt.mp (k_isIn_1 h2).2) h9)
  refine lv_iload hx hb dX5_make_63 (lv_at hl 4 rfl) ?_
  refine va_csv (W.runS (As := [.int (nI q)]) (rest := []) ⟨hx, hb, hml, hown, hts⟩ (m_X5_requireFund_ok l q (by first | omega | assumption)) (va_cwS 1 hts gX5_make_X5_requireFund rfl rfl rfl (by decide +kernel) ⟨Nat.le_of_ble_eq_true rfl, Nat.le_of_ble_eq_true rfl⟩) z0_S rfl rfl hl.1 rfl (lv_room (Nat.le_of_ble_eq_true rfl)) dX5_make_65 ⟨Nat.le_of_ble_eq_true rfl, Nat.le_of_ble_eq_true rfl⟩) (fun _ => ?_)
  refine lv_aload_n hx hb dX5_make_68 rfl (lv_at hl 0 rfl) ?_
  refine va_get (D := D) (ci := 5) (v := .ref mk) (C := RX5) (T := TX5) (N := 5) hx hb hts i_RX5 hown hK hP 0 rfl rfl 1 (by decide) k_2 (fun _ h9 => h9) rfl dX5_make_69 ?_
  refine vp_callSi (W.runV (As := []) (rest := []) ⟨hx, hb, hml, hown, hts⟩ (m_Jx4a65c_size_8abf5 l D mk mm em1 n) (cwV 0 hts gX5_make_Jx4a65c_size_8abf5 rfl rfl rfl (by decide +kernel) ⟨Nat.le_of_ble_eq_true rfl, Nat.le_of_ble_eq_true rfl⟩) (z1_V (va_recv hK hP (ci := 0) (q0 := 1) rfl rfl) (hP.sub (ws' := [(mk, .inr (0, [.int mm, .ref em1, .int (nI n)]))]) [1] rfl) (hK.sub (tys' := []) [] rfl) hG) rfl rfl hl.1 rfl (lv_room (Nat.le_of_ble_eq_true rfl)) dX5_make_72 ⟨Nat.le_of_ble_eq_true rfl, Nat.le_of_ble_eq_true rfl⟩) (fun r_1 e_r_1 => ?_)
  replace e_r_1 := e_r_1.symm; subst e_r_1
  refine lv_bipush (v := nI 10) hx hb dX5_make_75 (by decide) ?_
  refine lv_icmp_lt (tgt := 90) hx hb dX5_make_77 (by decide) (fun _ => ?_) (fun h9 => absurd ((nI_ltI (a := n) (b := 10) (by omega) (by omega)).mpr (by omega)) h9)
  refine lv_aload_n hx hb dX5_make_90 rfl (lv_at hl 0 rfl) ?_
  refine va_get (D := D) (ci := 5) (v := .ref mk) (C := RX5) (T := TX5) (N := 5) hx hb hts i_RX5 hown hK hP 0 rfl rfl 1 (by decide) k_2 (fun _ h9 => h9) rfl dX5_make_91 ?_
  refine va_new (D := D) (ci := 1) (fs := [.int (nI 0), .int (nI 0), .int (nI 0), .int (nI 0), .null, .long 0, .int (nI 0), .int (nI 0)]) (C := RX0) (T := TX0) (N := 8) hx hb hts i_RX0 tyX0 tyX0_ok hown k_5 k_6 k_7 hK hP hD hS hA rfl (fun j hj => by rcases (show j = 0 ∨ j = 1 ∨ j = 2 ∨ j = 3 ∨ j = 4 ∨ j = 5 ∨ j = 6 ∨ j = 7 by omega) with rfl | rfl | rfl | rfl | rfl | rfl | rfl | rfl <;> rfl) (Nat.le_of_ble_eq_true rfl) (Nat.le_of_ble_eq_true rfl) dX5_make_94 (fun q_2 H hP hD hS => ?_)
  have hP : va_P D vwCl [(x, .inr (5, [.ref pr, .ref mk, .ref os, .long ch, .long gd])), (mk, .inr (0, [.int mm, .ref em1, .int (nI n)])), (em1, .inl (cO, cap, .inr (.inr (.inr (.inr fl))))), (q_2, .inr (1, [.int (nI 0), .int (nI 0), .int (nI 0), .int (nI 0), .null, .long 0, .int (nI 0), .int (nI 0)]))] H := hP
  have hD : va_D A [(x, .inr (5, [.ref pr, .ref mk, .ref os, .long ch, .long gd])), (mk, .inr (0, [.int mm, .ref em1, .int (nI n)])), (em1, .inl (cO, cap, .inr (.inr (.inr (.inr fl))))), (q_2, .inr (1, [.int (nI 0), .int (nI 0), .int (nI 0), .int (nI 0), .null, .long 0, .int (nI 0), .int (nI 0)]))] := hD
  refine W.widen (k := 1) (n := 8) (by decide) (by decide) ?_
  refine lv_dup hx hb dX5_make_97 rfl ?_
  refine lv_iload_n hx hb dX5_make_98 rfl (lv_at hl 1 rfl) ?_
  refine lv_iload_n hx hb dX5_make_99 rfl (lv_at hl 2 rfl) ?_
  refine lv_iload_n hx hb dX5_make_100 rfl (lv_at hl 3 rfl) ?_
  refine lv_iload hx hb dX5_make_101 (lv_at hl 4 rfl) ?_
  have hF_6 := va_free (wc := [(q_2, .inr (1, [.int (nI 0), .int (nI 0), .int (nI 0), .int (nI 0), .null, .long 0, .int (nI 0), .int (nI 0)]))]) hD hS hA [3] rfl
  refine va_callv (va_runI (As := [.int pm, .int sm, .int rt, .int (nI q)]) (rest := [.ref q_2, .ref mk]) ⟨hx, hb, hml, hown, hts⟩ (m_X0_init l D q_2 pm sm rt q _) (cwI 4 hts gX5_make_X0_init rfl rfl rfl k_7 k_8 k_9 rfl (by decide +kernel) ⟨Nat.le_of_ble_eq_true rfl, Nat.le_of_ble_eq_true rfl⟩) (zq_S XM.t (hP.sub (ws' := [(q_2, .inr (1, [.int (nI 0), .int (nI 0), .int (nI 0), .int (nI 0), .null, .long 0, .int (nI 0), .int (nI 0)]))]) [3] rfl) (hK.sub (tys' := []) [] rfl) (hD.sub (ws' := [(q_2, .inr (1, [.int (nI 0), .int (nI 0), .int (nI 0), .int (nI 0), .null, .long 0, .int (nI 0), .int (nI 0)]))]) [3] (by decide) rfl) hG trivial) rfl rfl hl.1 rfl (lv_room (Nat.le_of_ble_eq_true rfl)) dX5_make_103 ⟨Nat.le_of_ble_eq_true rfl, Nat.le_of_ble_eq_true rfl⟩) hS (fun q _ h => hF_6 q h) hF_6 (fun u t1 H locs ht1 hvm hw hB hz1 hk1 hS => ?_)
  obtain ⟨ac__3, cJ__4, hP1, hK1, hD1⟩ := hB
  rw [ht1] at hP1
  have hK1 := va_K.moved hvm.symm hK1
  obtain ⟨hP, hD⟩ := va_join (wr := [(x, .inr (5, [.ref pr, .ref mk, .ref os, .long ch, .long gd])), (mk, .inr (0, [.int mm, .ref em1, .int (nI n)])), (em1, .inl (cO, cap, .inr (.inr (.inr (.inr fl)))))]) (w1 := [(q_2, .inr (1, [.int pm, .int sm, .int rt, .int (nI q), .ref ac__3, .long 0, .int (nI 0), .int (nI 1)])), (ac__3, .inl (cJ__4, 3, .inr (.inl (fun _ => 0))))]) hP hD [3] [0, 1, 2] rfl rfl (by decide) (by decide) hk1 hF_6 hP1 hD1
  have hK := hK.app hK1
  have hK := hK.sub (tys' := [(cO, .object "java/lang/Object"), (cJ__4, .long)]) [0, 1] rfl
  have hP : va_P D vwCl [(x, .inr (5, [.ref pr, .ref mk, .ref os, .long ch, .long gd])), (mk, .inr (0, [.int mm, .ref em1, .int (nI n)])), (em1, .inl (cO, cap, .inr (.inr (.inr (.inr fl))))), (q_2, .inr (1, [.int pm, .int sm, .int rt, .int (nI q), .ref ac__3, .long 0, .int (nI 0), .int (nI 1)])), (ac__3, .inl (cJ__4, 3, .inr (.inl (fun _ => 0))))] H := hP
  have hD : va_D A [(x, .inr (5, [.ref pr, .ref mk, .ref os, .long ch, .long gd])), (mk, .inr (0, [.int mm, .ref em1, .int (nI n)])), (em1, .inl (cO, cap, .inr (.inr (.inr (.inr fl))))), (q_2, .inr (1, [.int pm, .int sm, .int rt, .int (nI q), .ref ac__3, .long 0, .int (nI 0), .int (nI 1)])), (ac__3, .inl (cJ__4, 3, .inr (.inl (fun _ => 0))))] := hD
  refine W.widen (k := 2) (n := 11) (by decide) (by decide) ?_
  have hF_8 := va_free (wc := [(mk, .inr (0, [.int mm, .ref em1, .int (nI n)])), (em1, .inl (cO, cap, .inr (.inr (.inr (.inr fl)))))]) hD hS hA [1, 2] rfl
  refine va_calli (va_runV (As := [.ref q_2]) (rest := []) ⟨hx, hb, hml, hown, hts⟩ (m_Jx4a65c_add_r l D mk mm em1 cap n cO fl q_2 (by first | omega | assumption) (by first | omega | assumption) _) (cwV 1 hts gX5_make_Jx4a65c_add_9ea2d rfl rfl rfl (by decide +kernel) ⟨Nat.le_of_ble_eq_true rfl, Nat.le_of_ble_eq_true rfl⟩) (zq_V XM.ev (va_recv hK hP (ci := 0) (q0 := 1) rfl rfl) (hP.sub (ws' := [(mk, .inr (0, [.int mm, .ref em1, .int (nI n)])), (em1, .inl (cO, cap, .inr (.inr (.inr (.inr fl)))))]) [1, 2] rfl) (hK.sub (tys' := [(cO, .object "java/lang/Object")]) [0] rfl) (hD.sub (ws' := [(mk, .inr (0, [.int mm, .ref em1, .int (nI n)])), (em1, .inl (cO, cap, .inr (.inr (.inr (.inr fl)))))]) [1, 2] (by decide) rfl) hG (ev_mk (wc := [(mk, .inr (0, [.int mm, .ref em1, .int (nI n)])), (em1, .inl (cO, cap, .inr (.inr (.inr (.inr fl)))))]) hP hD hK hG [1, 2] rfl 3 rfl (by decide) rfl (by decide +kernel))) rfl rfl hl.1 rfl (lv_room (Nat.le_of_ble_eq_true rfl)) dX5_make_106 ⟨Nat.le_of_ble_eq_true rfl, Nat.le_of_ble_eq_true rfl⟩) hS (fun q _ h => hF_8 q h) hF_8 (fun ra_7 u t1 H locs ht1 hvm hw hB hz1 hk1 hS => ?_)
  obtain ⟨hP1, hK1, hD1⟩ := hB
  rw [ht1] at hP1
  have hK1 := va_K.moved hvm.symm hK1
  obtain ⟨hP, hD⟩ := va_join (wr := [(x, .inr (5, [.ref pr, .ref mk, .ref os, .long ch, .long gd])), (q_2, .inr (1, [.int pm, .int sm, .int rt, .int (nI q), .ref ac__3, .long 0, .int (nI 0), .int (nI 1)])), (ac__3, .inl (cJ__4, 3, .inr (.inl (fun _ => 0))))]) (w1 := [(mk, .inr (0, [.int (mm + nI 1), .ref em1, .int (nI (n + 1))])), (em1, .inl (cO, cap, .inr (.inr (.inr (.inr (va_up fl n (some q_2)))))))]) hP hD [1, 2] [0, 3, 4] rfl rfl (by decide) (by decide) hk1 hF_8 hP1 hD1
  have hP : va_P D vwCl [(x, .inr (5, [.ref pr, .ref mk, .ref os, .long ch, .long gd])), (q_2, .inr (1, [.int pm, .int sm, .int rt, .int (nI q), .ref ac__3, .long 0, .int (nI 0), .int (nI 1)])), (ac__3, .inl (cJ__4, 3, .inr (.inl (fun _ => 0)))), (mk, .inr (0, [.int (mm + nI 1), .ref em1, .int (nI (n + 1))])), (em1, .inl (cO, cap, .inr (.inr (.inr (.inr (va_up fl n (some q_2)))))))] H := hP
  have hD : va_D A [(x, .inr (5, [.ref pr, .ref mk, .ref os, .long ch, .long gd])), (q_2, .inr (1, [.int pm, .int sm, .int rt, .int (nI q), .ref ac__3, .long 0, .int (nI 0), .int (nI 1)])), (ac__3, .inl (cJ__4, 3, .inr (.inl (fun _ => 0)))), (mk, .inr (0, [.int (mm + nI 1), .ref em1, .int (nI (n + 1))])), (em1, .inl (cO, cap, .inr (.inr (.inr (.inr (va_up fl n (some q_2)))))))] := hD
  subst hw
  refine lv_pop hx hb dX5_make_109 rfl ?_
  refine lv_aload_n hx hb dX5_make_110 rfl (lv_at hl 0 rfl) ?_
  refine va_get (D := D) (ci := 5) (v := .ref mk) (C := RX5) (T := TX5) (N := 5) hx hb hts i_RX5 hown hK hP 0 rfl rfl 1 (by decide) k_2 (fun _ h9 => h9) rfl dX5_make_111 ?_
  refine vp_callSi (W.runV (As := []) (rest := []) ⟨hx, hb, hml, hown, hts⟩ (m_Jx4a65c_size_8abf5 l D mk (mm + nI 1) em1 (n + 1)) (cwV 0 hts gX5_make_Jx4a65c_size_8abf5 rfl rfl rfl (by decide +kernel) ⟨Nat.le_of_ble_eq_true rfl, Nat.le_of_ble_eq_true rfl⟩) (z1_V (va_recv hK hP (ci := 0) (q0 := 3) rfl rfl) (hP.sub (ws' := [(mk, .inr (0, [.int (mm + nI 1), .ref em1, .int (nI (n + 1))]))]) [3] rfl) (hK.sub (tys' := []) [] rfl) hG) rfl rfl hl.1 rfl (lv_room (Nat.le_of_ble_eq_true rfl)) dX5_make_114 ⟨Nat.le_of_ble_eq_true rfl, Nat.le_of_ble_eq_true rfl⟩) (fun r_9 e_r_9 => ?_)
  replace e_r_9 := e_r_9.symm; subst e_r_9
  refine lv_iconst (v := nI 1) hx hb dX5_make_117 (by decide) ?_
  refine zx_isub (v := nI ((n + 1) - 1)) hx hb dX5_make_118 (pk_sub (by omega)) ?_
  subst hAe
  exact zretBi hx hb hr hlocks (fun t9 ht hv => ⟨q_2, ac__3, cJ__4, by rw [ht]; exact (hP.sub (ws' := [(x, .inr (5, [.ref pr, .ref mk, .ref os, .long ch, .long gd])), (mk, .inr (0, [.int (mm + nI 1), .ref em1, .int (nI (n + 1))])), (em1, .inl (cO, cap, .inr (.inr (.inr (.inr (va_up fl n (some q_2))))))), (q_2, .inr (1, [.int pm, .int sm, .int rt, .int (nI q), .ref ac__3, .long 0, .int (nI 0), .int (nI 1)])), (ac__3, .inl (cJ__4, 3, .inr (.inl (fun _ => 0))))]) [0, 3, 4, 1, 2] rfl), va_K.moved hv (hK.sub [0, 1] rfl), (hD.sub (ws' := [(x, .inr (5, [.ref pr, .ref mk, .ref os, .long ch, .long gd])), (mk, .inr (0, [.int (mm + nI 1), .ref em1, .int (nI (n + 1))])), (em1, .inl (cO, cap, .inr (.inr (.inr (.inr (va_up fl n (some q_2))))))), (q_2, .inr (1, [.int pm, .int sm, .int rt, .int (nI q), .ref ac__3, .long 0, .int (nI 0), .int (nI 1)])), (ac__3, .inl (cJ__4, 3, .inr (.inl (fun _ => 0))))]) [0, 3, 4, 1, 2] (by decide) rfl)⟩) hS dX5_make_119 (Nat.le_of_ble_eq_true rfl) (Nat.le_of_ble_eq_true rfl) (rfl)
