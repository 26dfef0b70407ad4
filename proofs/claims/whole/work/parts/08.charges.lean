set_option maxHeartbeats 4000000 in
set_option maxRecDepth 100000 in
theorem m_X6_charges (l : Launch) (D : va_G) (mo b0 b1 b2 b3 b4 b5 b6 b7 b8 b9 b10 b11 b12 : Nat) (cI cJ cZ : ClassId) (th : Int32) (t n k : Nat) (ch gd : Int64) (fb fp fs fr : Nat → Int32) (ff fa : Nat → Nat) (fz : Nat → Int32) (fi fu : Nat → Int64) (fo : Nat → Nat) (fq : Nat → Int32) (fx fy : Nat → Nat) (kc : Nat) (hkc : kc < 10) (hff : ff kc < 3) (ht : t ≤ 2000) (hz0 : ¬ (fb (2001 * 0 + t)).toInt64 = 0) (hz1 : ¬ (fb (2001 * 1 + t)).toInt64 = 0) (hz2 : ¬ (fb (2001 * 2 + t)).toInt64 = 0) (sz : Nat)  : Met l yX6_charges wsX6_charges ({ frames := 2, cells := 0, slots := 0, locals := 46 }) (z2 D [(mo, .inr (6, [.int th, .int (nI t), .int (nI n), .int (nI k), .long ch, .long gd, .ref b0, .ref b1, .ref b2, .ref b3, .ref b4, .ref b5, .ref b6, .ref b7, .ref b8, .ref b9, .ref b10, .ref b11, .ref b12])), (b0, .inl (cI, 6003, .inl fb)), (b1, .inl (cI, 10, .inl fp)), (b2, .inl (cI, 10, .inl fs)), (b3, .inl (cI, 10, .inl fr)), (b4, .inl (cI, 10, .inl (nIf ff))), (b5, .inl (cI, 10, .inl (nIf fa))), (b6, .inl (cZ, 10, .inl fz)), (b7, .inl (cJ, 10, .inr (.inl fi))), (b8, .inl (cJ, 30, .inr (.inl fu))), (b9, .inl (cI, 4096, .inl (nIf fo))), (b10, .inl (cI, 4096, .inl fq)), (b11, .inl (cI, 4096, .inl (nIf fx))), (b12, .inl (cI, 4096, .inl (nIf fy)))] [(cI, .int), (cJ, .long), (cZ, .boolean)] sz [.ref mo, .int (nI kc)]) (va_Qi (fun (r : Int32) (_ : Unit) => r = if q_c3 t fb fs fr ff fi fu kc ≤ 0 then nI 0 else nI 1) (zB D [(cI, .int), (cJ, .long), (cZ, .boolean)] [(mo, .inr (6, [.int th, .int (nI t), .int (nI n), .int (nI k), .long (q_ch t fb fs fr ff fi fu kc ch), .long gd, .ref b0, .ref b1, .ref b2, .ref b3, .ref b4, .ref b5, .ref b6, .ref b7, .ref b8, .ref b9, .ref b10, .ref b11, .ref b12])), (b0, .inl (cI, 6003, .inl fb)), (b1, .inl (cI, 10, .inl fp)), (b2, .inl (cI, 10, .inl fs)), (b3, .inl (cI, 10, .inl fr)), (b4, .inl (cI, 10, .inl (nIf ff))), (b5, .inl (cI, 10, .inl (nIf fa))), (b6, .inl (cZ, 10, .inl fz)), (b7, .inl (cJ, 10, .inr (.inl fi))), (b8, .inl (cJ, 30, .inr (.inl (q_un t fb fs fr ff fi fu kc)))), (b9, .inl (cI, 4096, .inl (nIf fo))), (b10, .inl (cI, 4096, .inl fq)), (b11, .inl (cI, 4096, .inl (nIf fx))), (b12, .inl (cI, 4096, .inl (nIf fy)))] (va_A [(mo, .inr (6, [.int th, .int (nI t), .int (nI n), .int (nI k), .long ch, .long gd, .ref b0, .ref b1, .ref b2, .ref b3, .ref b4, .ref b5, .ref b6, .ref b7, .ref b8, .ref b9, .ref b10, .ref b11, .ref b12])), (b0, .inl (cI, 6003, .inl fb)), (b1, .inl (cI, 10, .inl fp)), (b2, .inl (cI, 10, .inl fs)), (b3, .inl (cI, 10, .inl fr)), (b4, .inl (cI, 10, .inl (nIf ff))), (b5, .inl (cI, 10, .inl (nIf fa))), (b6, .inl (cZ, 10, .inl fz)), (b7, .inl (cJ, 10, .inr (.inl fi))), (b8, .inl (cJ, 30, .inr (.inl fu))), (b9, .inl (cI, 4096, .inl (nIf fo))), (b10, .inl (cI, 4096, .inl fq)), (b11, .inl (cI, 4096, .inl (nIf fx))), (b12, .inl (cI, 4096, .inl (nIf fy)))] sz)) (va_A [(mo, .inr (6, [.int th, .int (nI t), .int (nI n), .int (nI k), .long ch, .long gd, .ref b0, .ref b1, .ref b2, .ref b3, .ref b4, .ref b5, .ref b6, .ref b7, .ref b8, .ref b9, .ref b10, .ref b11, .ref b12])), (b0, .inl (cI, 6003, .inl fb)), (b1, .inl (cI, 10, .inl fp)), (b2, .inl (cI, 10, .inl fs)), (b3, .inl (cI, 10, .inl fr)), (b4, .inl (cI, 10, .inl (nIf ff))), (b5, .inl (cI, 10, .inl (nIf fa))), (b6, .inl (cZ, 10, .inl fz)), (b7, .inl (cJ, 10, .inr (.inl fi))), (b8, .inl (cJ, 30, .inr (.inl fu))), (b9, .inl (cI, 4096, .inl (nIf fo))), (b10, .inl (cI, 4096, .inl fq)), (b11, .inl (cI, 4096, .inl (nIf fx))), (b12, .inl (cI, 4096, .inl (nIf fy)))] sz)) 0 0 (va_A [(mo, .inr (6, [.int th, .int (nI t), .int (nI n), .int (nI k), .long ch, .long gd, .ref b0, .ref b1, .ref b2, .ref b3, .ref b4, .ref b5, .ref b6, .ref b7, .ref b8, .ref b9, .ref b10, .ref b11, .ref b12])), (b0, .inl (cI, 6003, .inl fb)), (b1, .inl (cI, 10, .inl fp)), (b2, .inl (cI, 10, .inl fs)), (b3, .inl (cI, 10, .inl fr)), (b4, .inl (cI, 10, .inl (nIf ff))), (b5, .inl (cI, 10, .inl (nIf fa))), (b6, .inl (cZ, 10, .inl fz)), (b7, .inl (cJ, 10, .inr (.inl fi))), (b8, .inl (cJ, 30, .inr (.inl fu))), (b9, .inl (cI, 4096, .inl (nIf fo))), (b10, .inl (cI, 4096, .inl fq)), (b11, .inl (cI, 4096, .inl (nIf fx))), (b12, .inl (cI, 4096, .inl (nIf fy)))] sz) := by
  refine zm2 (cc := cX6_charges) (maxL := 14) (ret := (some .boolean)) (by decide) rfl (Nat.le_of_ble_eq_true rfl) ?_
  intro p e s m below meth c ls A hAe hsz hin hx hb hml hr hlocks hown hts hP hK hG hD hA hS hl
  subst hsz
  have hl : lv_has ls 14 [(0, .ref mo), (1, .int (nI kc))] := hl
  have k_0 := hts (.fieldLink RX6 16 "UnitContractsModel" "sums" "[I") (List.mem_of_getElem? (i := 1) rfl)
  have i_RX6 : ∀ w ∈ u_ws RX6 TX6 19, w ∈ wsX6_charges := by decide +kernel
  have k_2 := hts (.constantLong RX6 94 (200)) (List.mem_of_getElem? (i := 2) rfl)
  have k_3 := hts (.constantLong RX6 65 (1000)) (List.mem_of_getElem? (i := 5) rfl)
  have k_4 := hts (.fieldLink RX6 36 "UnitContractsModel" "units" "[J") (List.mem_of_getElem? (i := 6) rfl)
  have k_5 := hts (.fieldLink RX6 98 "UnitContractsModel" "charged" "J") (List.mem_of_getElem? (i := 7) rfl)
  have k_6 := hts (.fieldLink RX6 19 "UnitContractsModel" "rates" "[I") (List.mem_of_getElem? (i := 3) rfl)
  have k_7 := hts (.constantLong RX6 96 (100000)) (List.mem_of_getElem? (i := 4) rfl)
  refine lv_aload_n hx hb dX6_charges_0 rfl (lv_at hl 0 rfl) ?_
  refine va_get (D := D) (ci := 6) (v := .ref b2) (C := RX6) (T := TX6) (N := 19) hx hb hts i_RX6 hown hK hP 0 rfl rfl 8 (by decide) k_0 (fun _ h9 => h9) rfl dX6_charges_1 ?_
  refine lv_iload_n hx hb dX6_charges_4 rfl (lv_at hl 1 rfl) ?_
  refine zx_iald (D := D) hx hb hK hP 3 0 rfl rfl (v := fs kc) (rfl) (by omega) (by first | decide | omega) dX6_charges_5 ?_
  refine lv_i2l (v := (fs kc).toInt64) hx hb dX6_charges_6 (rfl) ?_
  refine lv_aload_n hx hb dX6_charges_7 rfl (lv_at hl 0 rfl) ?_
  refine lv_iload_n hx hb dX6_charges_8 rfl (lv_at hl 1 rfl) ?_
  refine vp_callSl (W.runV (As := [.int (nI kc)]) (rest := [.long ((fs kc).toInt64)]) ⟨hx, hb, hml, hown, hts⟩ (m_X6_worthOf l D mo b0 b1 b2 b3 b4 b5 b6 b7 b8 b9 b10 b11 b12 cI cJ cZ th t n k ch gd fb fp fs fr ff fa fz fi fu fo fq fx fy kc (by first | omega | assumption) (by first | omega | assumption) (by first | omega | assumption)) (cwV 1 hts gX6_charges_X6_worthOf rfl rfl rfl (by decide +kernel) ⟨Nat.le_of_ble_eq_true rfl, Nat.le_of_ble_eq_true rfl⟩) (z1_V (va_recv hK hP (ci := 6) (q0 := 0) rfl rfl) (hP.sub (ws' := [(mo, .inr (6, [.int th, .int (nI t), .int (nI n), .int (nI k), .long ch, .long gd, .ref b0, .ref b1, .ref b2, .ref b3, .ref b4, .ref b5, .ref b6, .ref b7, .ref b8, .ref b9, .ref b10, .ref b11, .ref b12])), (b0, .inl (cI, 6003, .inl fb)), (b1, .inl (cI, 10, .inl fp)), (b2, .inl (cI, 10, .inl fs)), (b3, .inl (cI, 10, .inl fr)), (b4, .inl (cI, 10, .inl (nIf ff))), (b5, .inl (cI, 10, .inl (nIf fa))), (b6, .inl (cZ, 10, .inl fz)), (b7, .inl (cJ, 10, .inr (.inl fi))), (b8, .inl (cJ, 30, .inr (.inl fu))), (b9, .inl (cI, 4096, .inl (nIf fo))), (b10, .inl (cI, 4096, .inl fq)), (b11, .inl (cI, 4096, .inl (nIf fx))), (b12, .inl (cI, 4096, .inl (nIf fy)))]) [0, 1, 2, 3, 4, 5, 6, 7, 8, 9, 10, 11, 12, 13] rfl) (hK.sub (tys' := [(cI, .int), (cJ, .long), (cZ, .boolean)]) [0, 1, 2] rfl) hG) rfl rfl hl.1 rfl (lv_room (Nat.le_of_ble_eq_true rfl)) dX6_charges_9 ⟨Nat.le_of_ble_eq_true rfl, Nat.le_of_ble_eq_true rfl⟩) (fun r_1 e_r_1 => ?_)
  replace e_r_1 := e_r_1.symm; subst e_r_1
  refine zx_lsub (v := ((fs kc).toInt64) - (k_worth (fi kc) (fb (2001 * ff kc + t)) (fb (2001 * 0 + t)) (fb (2001 * 1 + t)) (fb (2001 * 2 + t)) (fu (3 * kc + 0)) (fu (3 * kc + 1)) (fu (3 * kc + 2)))) hx hb dX6_charges_12 (rfl) ?_
  refine lv_topl (fun v_2 e_v_2 => ?_)
  refine lv_lstore_n (lv' := [(2, .long v_2), (0, .ref mo), (1, .int (nI kc))]) hx hb dX6_charges_13 rfl hl (by decide) rfl (fun ls hl => ?_)
  refine lv_ldc2 (v := 200) hx hb hown k_2 dX6_charges_14 ?_
  refine lv_lload_n hx hb dX6_charges_17 rfl (lv_at hl 0 rfl) ?_
  refine lv_lconst (v := 0) hx hb dX6_charges_18 (by decide) ?_
  refine zj (T := Int64) (fr := fun z => F0 m 40 ls (.long z :: [.long 200])) (if v_2 ≤ 0 then 0 else (v_2 * ((fr kc).toInt64)) / 100000) (fun z_3 e_z_3 => ?_) (fun j_z_3 => ?_)
  · skip
    refine zx_ladd (v := 200 + z_3) hx hb dX6_charges_40 (rfl) ?_
    refine lv_topl (fun v_4 e_v_4 => ?_)
    refine lv_lstore (lv' := [(4, .long v_4), (2, .long v_2), (0, .ref mo), (1, .int (nI kc))]) hx hb dX6_charges_41 hl (by decide) rfl (fun ls hl => ?_)
    refine lv_iconst (v := nI 0) hx hb dX6_charges_43 (by decide) ?_
    refine lv_istore (lv' := [(6, .int (nI 0)), (4, .long v_4), (2, .long v_2), (0, .ref mo), (1, .int (nI kc))]) hx hb dX6_charges_44 hl (by decide) rfl (fun ls hl => ?_)
    refine lv_iload hx hb dX6_charges_46 (lv_at hl 0 rfl) ?_
    refine lv_iconst (v := nI 3) hx hb dX6_charges_48 (by decide) ?_
    refine lv_icmp_ge (tgt := 184) hx hb dX6_charges_49 (by decide) (fun h9 => absurd h9 (by decide)) (fun _ => ?_)
    refine lv_iconst (v := nI 3) hx hb dX6_charges_52 (by decide) ?_
    refine lv_iload_n hx hb dX6_charges_53 rfl (lv_at hl 4 rfl) ?_
    refine zx_imul (v := nI (3 * kc)) hx hb dX6_charges_54 (pk_mul _ _) ?_
    refine lv_iload hx hb dX6_charges_55 (lv_at hl 0 rfl) ?_
    refine zx_iadd (v := nI ((3 * kc) + 0)) hx hb dX6_charges_57 (nI_add _ _) ?_
    refine lv_istore (lv' := [(7, .int (nI ((3 * kc) + 0))), (6, .int (nI 0)), (4, .long v_4), (2, .long v_2), (0, .ref mo), (1, .int (nI kc))]) hx hb dX6_charges_58 hl (by decide) rfl (fun ls hl => ?_)
    refine lv_lload hx hb dX6_charges_60 (lv_at hl 2 rfl) ?_
    refine lv_ldc2 (v := 1000) hx hb hown k_3 dX6_charges_62 ?_
    refine zx_lmul (v := v_4 * 1000) hx hb dX6_charges_65 (rfl) ?_
    refine lv_aload_n hx hb dX6_charges_66 rfl (lv_at hl 4 rfl) ?_
    refine lv_iload hx hb dX6_charges_67 (lv_at hl 1 rfl) ?_
    refine vp_callSi (W.runV (As := [.int (nI 0)]) (rest := [.long (v_4 * 1000)]) ⟨hx, hb, hml, hown, hts⟩ (m_X6_bid l D mo b0 b1 b2 b3 b4 b5 b6 b7 b8 b9 b10 b11 b12 cI cJ cZ th t n k ch gd fb fp fs fr ff fa fz fi fu fo fq fx fy 0 (by first | omega | assumption) (by first | omega | assumption)) (cwV 1 hts gX6_charges_X6_bid rfl rfl rfl (by decide +kernel) ⟨Nat.le_of_ble_eq_true rfl, Nat.le_of_ble_eq_true rfl⟩) (z1_V (va_recv hK hP (ci := 6) (q0 := 0) rfl rfl) (hP.sub (ws' := [(mo, .inr (6, [.int th, .int (nI t), .int (nI n), .int (nI k), .long ch, .long gd, .ref b0, .ref b1, .ref b2, .ref b3, .ref b4, .ref b5, .ref b6, .ref b7, .ref b8, .ref b9, .ref b10, .ref b11, .ref b12])), (b0, .inl (cI, 6003, .inl fb)), (b1, .inl (cI, 10, .inl fp)), (b2, .inl (cI, 10, .inl fs)), (b3, .inl (cI, 10, .inl fr)), (b4, .inl (cI, 10, .inl (nIf ff))), (b5, .inl (cI, 10, .inl (nIf fa))), (b6, .inl (cZ, 10, .inl fz)), (b7, .inl (cJ, 10, .inr (.inl fi))), (b8, .inl (cJ, 30, .inr (.inl fu))), (b9, .inl (cI, 4096, .inl (nIf fo))), (b10, .inl (cI, 4096, .inl fq)), (b11, .inl (cI, 4096, .inl (nIf fx))), (b12, .inl (cI, 4096, .inl (nIf fy)))]) [0, 1, 2, 3, 4, 5, 6, 7, 8, 9, 10, 11, 12, 13] rfl) (hK.sub (tys' := [(cI, .int), (cJ, .long), (cZ, .boolean)]) [0, 1, 2] rfl) hG) rfl rfl hl.1 rfl (lv_room (Nat.le_of_ble_eq_true rfl)) dX6_charges_69 ⟨Nat.le_of_ble_eq_true rfl, Nat.le_of_ble_eq_true rfl⟩) (fun r_5 e_r_5 => ?_)
    replace e_r_5 := e_r_5.symm; subst e_r_5
    refine lv_i2l (v := (fb (2001 * 0 + t)).toInt64) hx hb dX6_charges_72 (rfl) ?_
    refine zx_ladd (v := (v_4 * 1000) + ((fb (2001 * 0 + t)).toInt64)) hx hb dX6_charges_73 (rfl) ?_
    refine lv_lconst (v := 1) hx hb dX6_charges_74 (by decide) ?_
    refine zx_lsub (v := ((v_4 * 1000) + ((fb (2001 * 0 + t)).toInt64)) - 1) hx hb dX6_charges_75 (rfl) ?_
    refine lv_aload_n hx hb dX6_charges_76 rfl (lv_at hl 4 rfl) ?_
    refine lv_iload hx hb dX6_charges_77 (lv_at hl 1 rfl) ?_
    refine vp_callSi (W.runV (As := [.int (nI 0)]) (rest := [.long (((v_4 * 1000) + ((fb (2001 * 0 + t)).toInt64)) - 1)]) ⟨hx, hb, hml, hown, hts⟩ (m_X6_bid l D mo b0 b1 b2 b3 b4 b5 b6 b7 b8 b9 b10 b11 b12 cI cJ cZ th t n k ch gd fb fp fs fr ff fa fz fi fu fo fq fx fy 0 (by first | omega | assumption) (by first | omega | assumption)) (cwV 1 hts gX6_charges_X6_bid rfl rfl rfl (by decide +kernel) ⟨Nat.le_of_ble_eq_true rfl, Nat.le_of_ble_eq_true rfl⟩) (z1_V (va_recv hK hP (ci := 6) (q0 := 0) rfl rfl) (hP.sub (ws' := [(mo, .inr (6, [.int th, .int (nI t), .int (nI n), .int (nI k), .long ch, .long gd, .ref b0, .ref b1, .ref b2, .ref b3, .ref b4, .ref b5, .ref b6, .ref b7, .ref b8, .ref b9, .ref b10, .ref b11, .ref b12])), (b0, .inl (cI, 6003, .inl fb)), (b1, .inl (cI, 10, .inl fp)), (b2, .inl (cI, 10, .inl fs)), (b3, .inl (cI, 10, .inl fr)), (b4, .inl (cI, 10, .inl (nIf ff))), (b5, .inl (cI, 10, .inl (nIf fa))), (b6, .inl (cZ, 10, .inl fz)), (b7, .inl (cJ, 10, .inr (.inl fi))), (b8, .inl (cJ, 30, .inr (.inl fu))), (b9, .inl (cI, 4096, .inl (nIf fo))), (b10, .inl (cI, 4096, .inl fq)), (b11, .inl (cI, 4096, .inl (nIf fx))), (b12, .inl (cI, 4096, .inl (nIf fy)))]) [0, 1, 2, 3, 4, 5, 6, 7, 8, 9, 10, 11, 12, 13] rfl) (hK.sub (tys' := [(cI, .int), (cJ, .long), (cZ, .boolean)]) [0, 1, 2] rfl) hG) rfl rfl hl.1 rfl (lv_room (Nat.le_of_ble_eq_true rfl)) dX6_charges_79 ⟨Nat.le_of_ble_eq_true rfl, Nat.le_of_ble_eq_true rfl⟩) (fun r_6 e_r_6 => ?_)
    replace e_r_6 := e_r_6.symm; subst e_r_6
    refine lv_i2l (v := (fb (2001 * 0 + t)).toInt64) hx hb dX6_charges_82 (rfl) ?_
    refine zx_ldiv (v := (((v_4 * 1000) + ((fb (2001 * 0 + t)).toInt64)) - 1) / ((fb (2001 * 0 + t)).toInt64)) hx hb dX6_charges_83 (by assumption) (rfl) ?_
    refine lv_topl (fun v_7 e_v_7 => ?_)
    refine lv_lstore (lv' := [(8, .long v_7), (7, .int (nI ((3 * kc) + 0))), (6, .int (nI 0)), (4, .long v_4), (2, .long v_2), (0, .ref mo), (1, .int (nI kc))]) hx hb dX6_charges_84 hl (by decide) rfl (fun ls hl => ?_)
    refine lv_lload hx hb dX6_charges_86 (lv_at hl 0 rfl) ?_
    refine lv_aload_n hx hb dX6_charges_88 rfl (lv_at hl 5 rfl) ?_
    refine va_get (D := D) (ci := 6) (v := .ref b8) (C := RX6) (T := TX6) (N := 19) hx hb hts i_RX6 hown hK hP 0 rfl rfl 14 (by decide) k_4 (fun _ h9 => h9) rfl dX6_charges_89 ?_
    refine lv_iload hx hb dX6_charges_92 (lv_at hl 1 rfl) ?_
    refine zx_lald (D := D) hx hb hK hP 9 1 rfl rfl (v := fu ((3 * kc) + 0)) (rfl) (by omega) (by first | decide | omega) dX6_charges_94 ?_
    refine zj (T := Int64) (fr := fun z => F0 m 111 ls (.long z :: [])) (if (fu ((3 * kc) + 0)) ≤ v_7 then fu ((3 * kc) + 0) else v_7) (fun z_8 e_z_8 => ?_) (fun j_z_8 => ?_)
    · skip
      refine lv_lstore (lv' := [(10, .long z_8), (8, .long v_7), (7, .int (nI ((3 * kc) + 0))), (6, .int (nI 0)), (4, .long v_4), (2, .long v_2), (0, .ref mo), (1, .int (nI kc))]) hx hb dX6_charges_111 hl (by decide) rfl (fun ls hl => ?_)
      refine lv_lload hx hb dX6_charges_113 (lv_at hl 0 rfl) ?_
      refine lv_aload_n hx hb dX6_charges_115 rfl (lv_at hl 6 rfl) ?_
      refine lv_iload hx hb dX6_charges_116 (lv_at hl 3 rfl) ?_
      refine vp_callSi (W.runV (As := [.int (nI 0)]) (rest := [.long z_8]) ⟨hx, hb, hml, hown, hts⟩ (m_X6_bid l D mo b0 b1 b2 b3 b4 b5 b6 b7 b8 b9 b10 b11 b12 cI cJ cZ th t n k ch gd fb fp fs fr ff fa fz fi fu fo fq fx fy 0 (by first | omega | assumption) (by first | omega | assumption)) (cwV 1 hts gX6_charges_X6_bid rfl rfl rfl (by decide +kernel) ⟨Nat.le_of_ble_eq_true rfl, Nat.le_of_ble_eq_true rfl⟩) (z1_V (va_recv hK hP (ci := 6) (q0 := 0) rfl rfl) (hP.sub (ws' := [(mo, .inr (6, [.int th, .int (nI t), .int (nI n), .int (nI k), .long ch, .long gd, .ref b0, .ref b1, .ref b2, .ref b3, .ref b4, .ref b5, .ref b6, .ref b7, .ref b8, .ref b9, .ref b10, .ref b11, .ref b12])), (b0, .inl (cI, 6003, .inl fb)), (b1, .inl (cI, 10, .inl fp)), (b2, .inl (cI, 10, .inl fs)), (b3, .inl (cI, 10, .inl fr)), (b4, .inl (cI, 10, .inl (nIf ff))), (b5, .inl (cI, 10, .inl (nIf fa))), (b6, .inl (cZ, 10, .inl fz)), (b7, .inl (cJ, 10, .inr (.inl fi))), (b8, .inl (cJ, 30, .inr (.inl fu))), (b9, .inl (cI, 4096, .inl (nIf fo))), (b10, .inl (cI, 4096, .inl fq)), (b11, .inl (cI, 4096, .inl (nIf fx))), (b12, .inl (cI, 4096, .inl (nIf fy)))]) [0, 1, 2, 3, 4, 5, 6, 7, 8, 9, 10, 11, 12, 13] rfl) (hK.sub (tys' := [(cI, .int), (cJ, .long), (cZ, .boolean)]) [0, 1, 2] rfl) hG) rfl rfl hl.1 rfl (lv_room (Nat.le_of_ble_eq_true rfl)) dX6_charges_118 ⟨Nat.le_of_ble_eq_true rfl, Nat.le_of_ble_eq_true rfl⟩) (fun r_9 e_r_9 => ?_)
      replace e_r_9 := e_r_9.symm; subst e_r_9
      refine vp_callSl (W.runS (As := [.long z_8, .int (fb (2001 * 0 + t))]) (rest := []) ⟨hx, hb, hml, hown, hts⟩ (m_X6_money l z_8 (fb (2001 * 0 + t))) (va_cwS 2 hts gX6_charges_X6_money rfl rfl rfl (by decide +kernel) ⟨Nat.le_of_ble_eq_true rfl, Nat.le_of_ble_eq_true rfl⟩) z0_S rfl rfl hl.1 rfl (lv_room (Nat.le_of_ble_eq_true rfl)) dX6_charges_121 ⟨Nat.le_of_ble_eq_true rfl, Nat.le_of_ble_eq_true rfl⟩) (fun r_10 e_r_10 => ?_)
      replace e_r_10 := e_r_10.symm; subst e_r_10
      refine lv_lload hx hb dX6_charges_124 (lv_at hl 4 rfl) ?_
      refine zj (T := Int64) (fr := fun z => F0 m 146 ls (.long z :: [])) (if v_4 ≤ (k_mon z_8 (fb (2001 * 0 + t)).toInt64) then v_4 else k_mon z_8 (fb (2001 * 0 + t)).toInt64) (fun z_11 e_z_11 => ?_) (fun j_z_11 => ?_)
      · skip
        refine lv_lstore (lv' := [(12, .long z_11), (10, .long z_8), (8, .long v_7), (7, .int (nI ((3 * kc) + 0))), (6, .int (nI 0)), (4, .long v_4), (2, .long v_2), (0, .ref mo), (1, .int (nI kc))]) hx hb dX6_charges_146 hl (by decide) rfl (fun ls hl => ?_)
        refine lv_aload_n hx hb dX6_charges_148 rfl (lv_at hl 7 rfl) ?_
        refine va_get (D := D) (ci := 6) (v := .ref b8) (C := RX6) (T := TX6) (N := 19) hx hb hts i_RX6 hown hK hP 0 rfl rfl 14 (by decide) k_4 (fun _ h9 => h9) rfl dX6_charges_149 ?_
        refine lv_iload hx hb dX6_charges_152 (lv_at hl 3 rfl) ?_
        refine lv_dup2_11 hx hb dX6_charges_154 rfl rfl ?_
        refine zx_lald (D := D) hx hb hK hP 9 1 rfl rfl (v := fu ((3 * kc) + 0)) (rfl) (by omega) (by first | decide | omega) dX6_charges_155 ?_
        refine lv_lload hx hb dX6_charges_156 (lv_at hl 1 rfl) ?_
        refine zx_lsub (v := (fu ((3 * kc) + 0)) - z_8) hx hb dX6_charges_158 (rfl) ?_
        refine zx_last (D := D) hx hb hK hP hD hS 9 1 rfl rfl (by omega) (by decide) dX6_charges_159 (fun H locs hP hD hS => ?_)
        have hP : va_P D vwCl [(mo, .inr (6, [.int th, .int (nI t), .int (nI n), .int (nI k), .long ch, .long gd, .ref b0, .ref b1, .ref b2, .ref b3, .ref b4, .ref b5, .ref b6, .ref b7, .ref b8, .ref b9, .ref b10, .ref b11, .ref b12])), (b0, .inl (cI, 6003, .inl fb)), (b1, .inl (cI, 10, .inl fp)), (b2, .inl (cI, 10, .inl fs)), (b3, .inl (cI, 10, .inl fr)), (b4, .inl (cI, 10, .inl (nIf ff))), (b5, .inl (cI, 10, .inl (nIf fa))), (b6, .inl (cZ, 10, .inl fz)), (b7, .inl (cJ, 10, .inr (.inl fi))), (b8, .inl (cJ, 30, .inr (.inl (vp_updL fu ((3 * kc) + 0) ((fu ((3 * kc) + 0)) - z_8))))), (b9, .inl (cI, 4096, .inl (nIf fo))), (b10, .inl (cI, 4096, .inl fq)), (b11, .inl (cI, 4096, .inl (nIf fx))), (b12, .inl (cI, 4096, .inl (nIf fy)))] H := hP
        have hD : va_D A [(mo, .inr (6, [.int th, .int (nI t), .int (nI n), .int (nI k), .long ch, .long gd, .ref b0, .ref b1, .ref b2, .ref b3, .ref b4, .ref b5, .ref b6, .ref b7, .ref b8, .ref b9, .ref b10, .ref b11, .ref b12])), (b0, .inl (cI, 6003, .inl fb)), (b1, .inl (cI, 10, .inl fp)), (b2, .inl (cI, 10, .inl fs)), (b3, .inl (cI, 10, .inl fr)), (b4, .inl (cI, 10, .inl (nIf ff))), (b5, .inl (cI, 10, .inl (nIf fa))), (b6, .inl (cZ, 10, .inl fz)), (b7, .inl (cJ, 10, .inr (.inl fi))), (b8, .inl (cJ, 30, .inr (.inl (vp_updL fu ((3 * kc) + 0) ((fu ((3 * kc) + 0)) - z_8))))), (b9, .inl (cI, 4096, .inl (nIf fo))), (b10, .inl (cI, 4096, .inl fq)), (b11, .inl (cI, 4096, .inl (nIf fx))), (b12, .inl (cI, 4096, .inl (nIf fy)))] := hD
        refine lv_lload hx hb dX6_charges_160 (lv_at hl 5 rfl) ?_
        refine lv_lload hx hb dX6_charges_162 (lv_at hl 0 rfl) ?_
        refine zx_lsub (v := v_4 - z_11) hx hb dX6_charges_164 (rfl) ?_
        refine lv_topl (fun v_12 e_v_12 => ?_)
        refine lv_lstore (lv' := [(4, .long v_12), (12, .long z_11), (10, .long z_8), (8, .long v_7), (7, .int (nI ((3 * kc) + 0))), (6, .int (nI 0)), (2, .long v_2), (0, .ref mo), (1, .int (nI kc))]) hx hb dX6_charges_165 hl (by decide) rfl (fun ls hl => ?_)
        refine lv_aload_n hx hb dX6_charges_167 rfl (lv_at hl 7 rfl) ?_
        refine lv_dup hx hb dX6_charges_168 rfl ?_
        refine va_get (D := D) (ci := 6) (v := .long ch) (C := RX6) (T := TX6) (N := 19) hx hb hts i_RX6 hown hK hP 0 rfl rfl 4 (by decide) k_5 (fun _ h9 => h9) rfl dX6_charges_169 ?_
        refine lv_lload hx hb dX6_charges_172 (lv_at hl 1 rfl) ?_
        refine zx_ladd (v := ch + z_11) hx hb dX6_charges_174 (rfl) ?_
        refine va_put (D := D) (ci := 6) (v := .long (ch + z_11)) (ty := .long) (C := RX6) (T := TX6) (N := 19) hx hb hts i_RX6 tyX6 tyX6_ok nmX6 hown hK hP hD hS 0 rfl rfl 4 (by decide) k_5 (fun _ h9 => h9) rfl (by decide +kernel) rfl rfl (Nat.le_of_ble_eq_true rfl) dX6_charges_175 (fun H locs hP hD hS => ?_)
        have hP : va_P D vwCl [(mo, .inr (6, [.int th, .int (nI t), .int (nI n), .int (nI k), .long (ch + z_11), .long gd, .ref b0, .ref b1, .ref b2, .ref b3, .ref b4, .ref b5, .ref b6, .ref b7, .ref b8, .ref b9, .ref b10, .ref b11, .ref b12])), (b0, .inl (cI, 6003, .inl fb)), (b1, .inl (cI, 10, .inl fp)), (b2, .inl (cI, 10, .inl fs)), (b3, .inl (cI, 10, .inl fr)), (b4, .inl (cI, 10, .inl (nIf ff))), (b5, .inl (cI, 10, .inl (nIf fa))), (b6, .inl (cZ, 10, .inl fz)), (b7, .inl (cJ, 10, .inr (.inl fi))), (b8, .inl (cJ, 30, .inr (.inl (vp_updL fu ((3 * kc) + 0) ((fu ((3 * kc) + 0)) - z_8))))), (b9, .inl (cI, 4096, .inl (nIf fo))), (b10, .inl (cI, 4096, .inl fq)), (b11, .inl (cI, 4096, .inl (nIf fx))), (b12, .inl (cI, 4096, .inl (nIf fy)))] H := hP
        have hD : va_D A [(mo, .inr (6, [.int th, .int (nI t), .int (nI n), .int (nI k), .long (ch + z_11), .long gd, .ref b0, .ref b1, .ref b2, .ref b3, .ref b4, .ref b5, .ref b6, .ref b7, .ref b8, .ref b9, .ref b10, .ref b11, .ref b12])), (b0, .inl (cI, 6003, .inl fb)), (b1, .inl (cI, 10, .inl fp)), (b2, .inl (cI, 10, .inl fs)), (b3, .inl (cI, 10, .inl fr)), (b4, .inl (cI, 10, .inl (nIf ff))), (b5, .inl (cI, 10, .inl (nIf fa))), (b6, .inl (cZ, 10, .inl fz)), (b7, .inl (cJ, 10, .inr (.inl fi))), (b8, .inl (cJ, 30, .inr (.inl (vp_updL fu ((3 * kc) + 0) ((fu ((3 * kc) + 0)) - z_8))))), (b9, .inl (cI, 4096, .inl (nIf fo))), (b10, .inl (cI, 4096, .inl fq)), (b11, .inl (cI, 4096, .inl (nIf fx))), (b12, .inl (cI, 4096, .inl (nIf fy)))] := hD
        refine lv_iinc (v := nI 1) (lv' := [(6, .int (nI 1)), (4, .long v_12), (12, .long z_11), (10, .long z_8), (8, .long v_7), (7, .int (nI ((3 * kc) + 0))), (2, .long v_2), (0, .ref mo), (1, .int (nI kc))]) hx hb dX6_charges_178 hl (k := 5) rfl (by decide) (by decide) rfl (fun ls hl => ?_)
        refine lv_goto (tgt := 46) hx hb dX6_charges_181 (by decide) ?_
        refine lv_iload hx hb dX6_charges_46 (lv_at hl 0 rfl) ?_
        refine lv_iconst (v := nI 3) hx hb dX6_charges_48 (by decide) ?_
        refine lv_icmp_ge (tgt := 184) hx hb dX6_charges_49 (by decide) (fun h9 => absurd h9 (by decide)) (fun _ => ?_)
        refine lv_iconst (v := nI 3) hx hb dX6_charges_52 (by decide) ?_
        refine lv_iload_n hx hb dX6_charges_53 rfl (lv_at hl 8 rfl) ?_
        refine zx_imul (v := nI (3 * kc)) hx hb dX6_charges_54 (pk_mul _ _) ?_
        refine lv_iload hx hb dX6_charges_55 (lv_at hl 0 rfl) ?_
        refine zx_iadd (v := nI ((3 * kc) + 1)) hx hb dX6_charges_57 (nI_add _ _) ?_
        refine lv_istore (lv' := [(7, .int (nI ((3 * kc) + 1))), (6, .int (nI 1)), (4, .long v_12), (12, .long z_11), (10, .long z_8), (8, .long v_7), (2, .long v_2), (0, .ref mo), (1, .int (nI kc))]) hx hb dX6_charges_58 hl (by decide) rfl (fun ls hl => ?_)
        refine lv_lload hx hb dX6_charges_60 (lv_at hl 2 rfl) ?_
        refine lv_ldc2 (v := 1000) hx hb hown k_3 dX6_charges_62 ?_
        refine zx_lmul (v := v_12 * 1000) hx hb dX6_charges_65 (rfl) ?_
        refine lv_aload_n hx hb dX6_charges_66 rfl (lv_at hl 7 rfl) ?_
        refine lv_iload hx hb dX6_charges_67 (lv_at hl 1 rfl) ?_
        refine vp_callSi (W.runV (As := [.int (nI 1)]) (rest := [.long (v_12 * 1000)]) ⟨hx, hb, hml, hown, hts⟩ (m_X6_bid l D mo b0 b1 b2 b3 b4 b5 b6 b7 b8 b9 b10 b11 b12 cI cJ cZ th t n k (ch + z_11) gd fb fp fs fr ff fa fz fi (vp_updL fu ((3 * kc) + 0) ((fu ((3 * kc) + 0)) - z_8)) fo fq fx fy 1 (by first | omega | assumption) (by first | omega | assumption)) (cwV 1 hts gX6_charges_X6_bid rfl rfl rfl (by decide +kernel) ⟨Nat.le_of_ble_eq_true rfl, Nat.le_of_ble_eq_true rfl⟩) (z1_V (va_recv hK hP (ci := 6) (q0 := 0) rfl rfl) (hP.sub (ws' := [(mo, .inr (6, [.int th, .int (nI t), .int (nI n), .int (nI k), .long (ch + z_11), .long gd, .ref b0, .ref b1, .ref b2, .ref b3, .ref b4, .ref b5, .ref b6, .ref b7, .ref b8, .ref b9, .ref b10, .ref b11, .ref b12])), (b0, .inl (cI, 6003, .inl fb)), (b1, .inl (cI, 10, .inl fp)), (b2, .inl (cI, 10, .inl fs)), (b3, .inl (cI, 10, .inl fr)), (b4, .inl (cI, 10, .inl (nIf ff))), (b5, .inl (cI, 10, .inl (nIf fa))), (b6, .inl (cZ, 10, .inl fz)), (b7, .inl (cJ, 10, .inr (.inl fi))), (b8, .inl (cJ, 30, .inr (.inl (vp_updL fu ((3 * kc) + 0) ((fu ((3 * kc) + 0)) - z_8))))), (b9, .inl (cI, 4096, .inl (nIf fo))), (b10, .inl (cI, 4096, .inl fq)), (b11, .inl (cI, 4096, .inl (nIf fx))), (b12, .inl (cI, 4096, .inl (nIf fy)))]) [0, 1, 2, 3, 4, 5, 6, 7, 8, 9, 10, 11, 12, 13] rfl) (hK.sub (tys' := [(cI, .int), (cJ, .long), (cZ, .boolean)]) [0, 1, 2] rfl) hG) rfl rfl hl.1 rfl (lv_room (Nat.le_of_ble_eq_true rfl)) dX6_charges_69 ⟨Nat.le_of_ble_eq_true rfl, Nat.le_of_ble_eq_true rfl⟩) (fun r_13 e_r_13 => ?_)
        replace e_r_13 := e_r_13.symm; subst e_r_13
        refine lv_i2l (v := (fb (2001 * 1 + t)).toInt64) hx hb dX6_charges_72 (rfl) ?_
        refine zx_ladd (v := (v_12 * 1000) + ((fb (2001 * 1 + t)).toInt64)) hx hb dX6_charges_73 (rfl) ?_
        refine lv_lconst (v := 1) hx hb dX6_charges_74 (by decide) ?_
        refine zx_lsub (v := ((v_12 * 1000) + ((fb (2001 * 1 + t)).toInt64)) - 1) hx hb dX6_charges_75 (rfl) ?_
        refine lv_aload_n hx hb dX6_charges_76 rfl (lv_at hl 7 rfl) ?_
        refine lv_iload hx hb dX6_charges_77 (lv_at hl 1 rfl) ?_
        refine vp_callSi (W.runV (As := [.int (nI 1)]) (rest := [.long (((v_12 * 1000) + ((fb (2001 * 1 + t)).toInt64)) - 1)]) ⟨hx, hb, hml, hown, hts⟩ (m_X6_bid l D mo b0 b1 b2 b3 b4 b5 b6 b7 b8 b9 b10 b11 b12 cI cJ cZ th t n k (ch + z_11) gd fb fp fs fr ff fa fz fi (vp_updL fu ((3 * kc) + 0) ((fu ((3 * kc) + 0)) - z_8)) fo fq fx fy 1 (by first | omega | assumption) (by first | omega | assumption)) (cwV 1 hts gX6_charges_X6_bid rfl rfl rfl (by decide +kernel) ⟨Nat.le_of_ble_eq_true rfl, Nat.le_of_ble_eq_true rfl⟩) (z1_V (va_recv hK hP (ci := 6) (q0 := 0) rfl rfl) (hP.sub (ws' := [(mo, .inr (6, [.int th, .int (nI t), .int (nI n), .int (nI k), .long (ch + z_11), .long gd, .ref b0, .ref b1, .ref b2, .ref b3, .ref b4, .ref b5, .ref b6, .ref b7, .ref b8, .ref b9, .ref b10, .ref b11, .ref b12])), (b0, .inl (cI, 6003, .inl fb)), (b1, .inl (cI, 10, .inl fp)), (b2, .inl (cI, 10, .inl fs)), (b3, .inl (cI, 10, .inl fr)), (b4, .inl (cI, 10, .inl (nIf ff))), (b5, .inl (cI, 10, .inl (nIf fa))), (b6, .inl (cZ, 10, .inl fz)), (b7, .inl (cJ, 10, .inr (.inl fi))), (b8, .inl (cJ, 30, .inr (.inl (vp_updL fu ((3 * kc) + 0) ((fu ((3 * kc) + 0)) - z_8))))), (b9, .inl (cI, 4096, .inl (nIf fo))), (b10, .inl (cI, 4096, .inl fq)), (b11, .inl (cI, 4096, .inl (nIf fx))), (b12, .inl (cI, 4096, .inl (nIf fy)))]) [0, 1, 2, 3, 4, 5, 6, 7, 8, 9, 10, 11, 12, 13] rfl) (hK.sub (tys' := [(cI, .int), (cJ, .long), (cZ, .boolean)]) [0, 1, 2] rfl) hG) rfl rfl hl.1 rfl (lv_room (Nat.le_of_ble_eq_true rfl)) dX6_charges_79 ⟨Nat.le_of_ble_eq_true rfl, Nat.le_of_ble_eq_true rfl⟩) (fun r_14 e_r_14 => ?_)
        replace e_r_14 := e_r_14.symm; subst e_r_14
        refine lv_i2l (v := (fb (2001 * 1 + t)).toInt64) hx hb dX6_charges_82 (rfl) ?_
        refine zx_ldiv (v := (((v_12 * 1000) + ((fb (2001 * 1 + t)).toInt64)) - 1) / ((fb (2001 * 1 + t)).toInt64)) hx hb dX6_charges_83 (by assumption) (rfl) ?_
        refine lv_topl (fun v_15 e_v_15 => ?_)
        refine lv_lstore (lv' := [(8, .long v_15), (7, .int (nI ((3 * kc) + 1))), (6, .int (nI 1)), (4, .long v_12), (12, .long z_11), (10, .long z_8), (2, .long v_2), (0, .ref mo), (1, .int (nI kc))]) hx hb dX6_charges_84 hl (by decide) rfl (fun ls hl => ?_)
        refine lv_lload hx hb dX6_charges_86 (lv_at hl 0 rfl) ?_
        refine lv_aload_n hx hb dX6_charges_88 rfl (lv_at hl 7 rfl) ?_
        refine va_get (D := D) (ci := 6) (v := .ref b8) (C := RX6) (T := TX6) (N := 19) hx hb hts i_RX6 hown hK hP 0 rfl rfl 14 (by decide) k_4 (fun _ h9 => h9) rfl dX6_charges_89 ?_
        refine lv_iload hx hb dX6_charges_92 (lv_at hl 1 rfl) ?_
        refine zx_lald (D := D) hx hb hK hP 9 1 rfl rfl (v := fu ((3 * kc) + 1)) ((updL_ne (by omega))) (by omega) (by first | decide | omega) dX6_charges_94 ?_
        refine zj (T := Int64) (fr := fun z => F0 m 111 ls (.long z :: [])) (if (fu ((3 * kc) + 1)) ≤ v_15 then fu ((3 * kc) + 1) else v_15) (fun z_16 e_z_16 => ?_) (fun j_z_16 => ?_)
        · skip
          refine lv_lstore (lv' := [(10, .long z_16), (8, .long v_15), (7, .int (nI ((3 * kc) + 1))), (6, .int (nI 1)), (4, .long v_12), (12, .long z_11), (2, .long v_2), (0, .ref mo), (1, .int (nI kc))]) hx hb dX6_charges_111 hl (by decide) rfl (fun ls hl => ?_)
          refine lv_lload hx hb dX6_charges_113 (lv_at hl 0 rfl) ?_
          refine lv_aload_n hx hb dX6_charges_115 rfl (lv_at hl 7 rfl) ?_
          refine lv_iload hx hb dX6_charges_116 (lv_at hl 3 rfl) ?_
          refine vp_callSi (W.runV (As := [.int (nI 1)]) (rest := [.long z_16]) ⟨hx, hb, hml, hown, hts⟩ (m_X6_bid l D mo b0 b1 b2 b3 b4 b5 b6 b7 b8 b9 b10 b11 b12 cI cJ cZ th t n k (ch + z_11) gd fb fp fs fr ff fa fz fi (vp_updL fu ((3 * kc) + 0) ((fu ((3 * kc) + 0)) - z_8)) fo fq fx fy 1 (by first | omega | assumption) (by first | omega | assumption)) (cwV 1 hts gX6_charges_X6_bid rfl rfl rfl (by decide +kernel) ⟨Nat.le_of_ble_eq_true rfl, Nat.le_of_ble_eq_true rfl⟩) (z1_V (va_recv hK hP (ci := 6) (q0 := 0) rfl rfl) (hP.sub (ws' := [(mo, .inr (6, [.int th, .int (nI t), .int (nI n), .int (nI k), .long (ch + z_11), .long gd, .ref b0, .ref b1, .ref b2, .ref b3, .ref b4, .ref b5, .ref b6, .ref b7, .ref b8, .ref b9, .ref b10, .ref b11, .ref b12])), (b0, .inl (cI, 6003, .inl fb)), (b1, .inl (cI, 10, .inl fp)), (b2, .inl (cI, 10, .inl fs)), (b3, .inl (cI, 10, .inl fr)), (b4, .inl (cI, 10, .inl (nIf ff))), (b5, .inl (cI, 10, .inl (nIf fa))), (b6, .inl (cZ, 10, .inl fz)), (b7, .inl (cJ, 10, .inr (.inl fi))), (b8, .inl (cJ, 30, .inr (.inl (vp_updL fu ((3 * kc) + 0) ((fu ((3 * kc) + 0)) - z_8))))), (b9, .inl (cI, 4096, .inl (nIf fo))), (b10, .inl (cI, 4096, .inl fq)), (b11, .inl (cI, 4096, .inl (nIf fx))), (b12, .inl (cI, 4096, .inl (nIf fy)))]) [0, 1, 2, 3, 4, 5, 6, 7, 8, 9, 10, 11, 12, 13] rfl) (hK.sub (tys' := [(cI, .int), (cJ, .long), (cZ, .boolean)]) [0, 1, 2] rfl) hG) rfl rfl hl.1 rfl (lv_room (Nat.le_of_ble_eq_true rfl)) dX6_charges_118 ⟨Nat.le_of_ble_eq_true rfl, Nat.le_of_ble_eq_true rfl⟩) (fun r_17 e_r_17 => ?_)
          replace e_r_17 := e_r_17.symm; subst e_r_17
          refine vp_callSl (W.runS (As := [.long z_16, .int (fb (2001 * 1 + t))]) (rest := []) ⟨hx, hb, hml, hown, hts⟩ (m_X6_money l z_16 (fb (2001 * 1 + t))) (va_cwS 2 hts gX6_charges_X6_money rfl rfl rfl (by decide +kernel) ⟨Nat.le_of_ble_eq_true rfl, Nat.le_of_ble_eq_true rfl⟩) z0_S rfl rfl hl.1 rfl (lv_room (Nat.le_of_ble_eq_true rfl)) dX6_charges_121 ⟨Nat.le_of_ble_eq_true rfl, Nat.le_of_ble_eq_true rfl⟩) (fun r_18 e_r_18 => ?_)
          replace e_r_18 := e_r_18.symm; subst e_r_18
          refine lv_lload hx hb dX6_charges_124 (lv_at hl 4 rfl) ?_
          refine zj (T := Int64) (fr := fun z => F0 m 146 ls (.long z :: [])) (if v_12 ≤ (k_mon z_16 (fb (2001 * 1 + t)).toInt64) then v_12 else k_mon z_16 (fb (2001 * 1 + t)).toInt64) (fun z_19 e_z_19 => ?_) (fun j_z_19 => ?_)
          · skip
            refine lv_lstore (lv' := [(12, .long z_19), (10, .long z_16), (8, .long v_15), (7, .int (nI ((3 * kc) + 1))), (6, .int (nI 1)), (4, .long v_12), (2, .long v_2), (0, .ref mo), (1, .int (nI kc))]) hx hb dX6_charges_146 hl (by decide) rfl (fun ls hl => ?_)
            refine lv_aload_n hx hb dX6_charges_148 rfl (lv_at hl 7 rfl) ?_
            refine va_get (D := D) (ci := 6) (v := .ref b8) (C := RX6) (T := TX6) (N := 19) hx hb hts i_RX6 hown hK hP 0 rfl rfl 14 (by decide) k_4 (fun _ h9 => h9) rfl dX6_charges_149 ?_
            refine lv_iload hx hb dX6_charges_152 (lv_at hl 3 rfl) ?_
            refine lv_dup2_11 hx hb dX6_charges_154 rfl rfl ?_
            refine zx_lald (D := D) hx hb hK hP 9 1 rfl rfl (v := fu ((3 * kc) + 1)) ((updL_ne (by omega))) (by omega) (by first | decide | omega) dX6_charges_155 ?_
            refine lv_lload hx hb dX6_charges_156 (lv_at hl 1 rfl) ?_
            refine zx_lsub (v := (fu ((3 * kc) + 1)) - z_16) hx hb dX6_charges_158 (rfl) ?_
            refine zx_last (D := D) hx hb hK hP hD hS 9 1 rfl rfl (by omega) (by decide) dX6_charges_159 (fun H locs hP hD hS => ?_)
            have hP : va_P D vwCl [(mo, .inr (6, [.int th, .int (nI t), .int (nI n), .int (nI k), .long (ch + z_11), .long gd, .ref b0, .ref b1, .ref b2, .ref b3, .ref b4, .ref b5, .ref b6, .ref b7, .ref b8, .ref b9, .ref b10, .ref b11, .ref b12])), (b0, .inl (cI, 6003, .inl fb)), (b1, .inl (cI, 10, .inl fp)), (b2, .inl (cI, 10, .inl fs)), (b3, .inl (cI, 10, .inl fr)), (b4, .inl (cI, 10, .inl (nIf ff))), (b5, .inl (cI, 10, .inl (nIf fa))), (b6, .inl (cZ, 10, .inl fz)), (b7, .inl (cJ, 10, .inr (.inl fi))), (b8, .inl (cJ, 30, .inr (.inl (vp_updL (vp_updL fu ((3 * kc) + 0) ((fu ((3 * kc) + 0)) - z_8)) ((3 * kc) + 1) ((fu ((3 * kc) + 1)) - z_16))))), (b9, .inl (cI, 4096, .inl (nIf fo))), (b10, .inl (cI, 4096, .inl fq)), (b11, .inl (cI, 4096, .inl (nIf fx))), (b12, .inl (cI, 4096, .inl (nIf fy)))] H := hP
            have hD : va_D A [(mo, .inr (6, [.int th, .int (nI t), .int (nI n), .int (nI k), .long (ch + z_11), .long gd, .ref b0, .ref b1, .ref b2, .ref b3, .ref b4, .ref b5, .ref b6, .ref b7, .ref b8, .ref b9, .ref b10, .ref b11, .ref b12])), (b0, .inl (cI, 6003, .inl fb)), (b1, .inl (cI, 10, .inl fp)), (b2, .inl (cI, 10, .inl fs)), (b3, .inl (cI, 10, .inl fr)), (b4, .inl (cI, 10, .inl (nIf ff))), (b5, .inl (cI, 10, .inl (nIf fa))), (b6, .inl (cZ, 10, .inl fz)), (b7, .inl (cJ, 10, .inr (.inl fi))), (b8, .inl (cJ, 30, .inr (.inl (vp_updL (vp_updL fu ((3 * kc) + 0) ((fu ((3 * kc) + 0)) - z_8)) ((3 * kc) + 1) ((fu ((3 * kc) + 1)) - z_16))))), (b9, .inl (cI, 4096, .inl (nIf fo))), (b10, .inl (cI, 4096, .inl fq)), (b11, .inl (cI, 4096, .inl (nIf fx))), (b12, .inl (cI, 4096, .inl (nIf fy)))] := hD
            refine lv_lload hx hb dX6_charges_160 (lv_at hl 5 rfl) ?_
            refine lv_lload hx hb dX6_charges_162 (lv_at hl 0 rfl) ?_
            refine zx_lsub (v := v_12 - z_19) hx hb dX6_charges_164 (rfl) ?_
            refine lv_topl (fun v_20 e_v_20 => ?_)
            refine lv_lstore (lv' := [(4, .long v_20), (12, .long z_19), (10, .long z_16), (8, .long v_15), (7, .int (nI ((3 * kc) + 1))), (6, .int (nI 1)), (2, .long v_2), (0, .ref mo), (1, .int (nI kc))]) hx hb dX6_charges_165 hl (by decide) rfl (fun ls hl => ?_)
            refine lv_aload_n hx hb dX6_charges_167 rfl (lv_at hl 7 rfl) ?_
            refine lv_dup hx hb dX6_charges_168 rfl ?_
            refine va_get (D := D) (ci := 6) (v := .long (ch + z_11)) (C := RX6) (T := TX6) (N := 19) hx hb hts i_RX6 hown hK hP 0 rfl rfl 4 (by decide) k_5 (fun _ h9 => h9) rfl dX6_charges_169 ?_
            refine lv_lload hx hb dX6_charges_172 (lv_at hl 1 rfl) ?_
            refine zx_ladd (v := (ch + z_11) + z_19) hx hb dX6_charges_174 (rfl) ?_
            refine va_put (D := D) (ci := 6) (v := .long ((ch + z_11) + z_19)) (ty := .long) (C := RX6) (T := TX6) (N := 19) hx hb hts i_RX6 tyX6 tyX6_ok nmX6 hown hK hP hD hS 0 rfl rfl 4 (by decide) k_5 (fun _ h9 => h9) rfl (by decide +kernel) rfl rfl (Nat.le_of_ble_eq_true rfl) dX6_charges_175 (fun H locs hP hD hS => ?_)
            have hP : va_P D vwCl [(mo, .inr (6, [.int th, .int (nI t), .int (nI n), .int (nI k), .long ((ch + z_11) + z_19), .long gd, .ref b0, .ref b1, .ref b2, .ref b3, .ref b4, .ref b5, .ref b6, .ref b7, .ref b8, .ref b9, .ref b10, .ref b11, .ref b12])), (b0, .inl (cI, 6003, .inl fb)), (b1, .inl (cI, 10, .inl fp)), (b2, .inl (cI, 10, .inl fs)), (b3, .inl (cI, 10, .inl fr)), (b4, .inl (cI, 10, .inl (nIf ff))), (b5, .inl (cI, 10, .inl (nIf fa))), (b6, .inl (cZ, 10, .inl fz)), (b7, .inl (cJ, 10, .inr (.inl fi))), (b8, .inl (cJ, 30, .inr (.inl (vp_updL (vp_updL fu ((3 * kc) + 0) ((fu ((3 * kc) + 0)) - z_8)) ((3 * kc) + 1) ((fu ((3 * kc) + 1)) - z_16))))), (b9, .inl (cI, 4096, .inl (nIf fo))), (b10, .inl (cI, 4096, .inl fq)), (b11, .inl (cI, 4096, .inl (nIf fx))), (b12, .inl (cI, 4096, .inl (nIf fy)))] H := hP
            have hD : va_D A [(mo, .inr (6, [.int th, .int (nI t), .int (nI n), .int (nI k), .long ((ch + z_11) + z_19), .long gd, .ref b0, .ref b1, .ref b2, .ref b3, .ref b4, .ref b5, .ref b6, .ref b7, .ref b8, .ref b9, .ref b10, .ref b11, .ref b12])), (b0, .inl (cI, 6003, .inl fb)), (b1, .inl (cI, 10, .inl fp)), (b2, .inl (cI, 10, .inl fs)), (b3, .inl (cI, 10, .inl fr)), (b4, .inl (cI, 10, .inl (nIf ff))), (b5, .inl (cI, 10, .inl (nIf fa))), (b6, .inl (cZ, 10, .inl fz)), (b7, .inl (cJ, 10, .inr (.inl fi))), (b8, .inl (cJ, 30, .inr (.inl (vp_updL (vp_updL fu ((3 * kc) + 0) ((fu ((3 * kc) + 0)) - z_8)) ((3 * kc) + 1) ((fu ((3 * kc) + 1)) - z_16))))), (b9, .inl (cI, 4096, .inl (nIf fo))), (b10, .inl (cI, 4096, .inl fq)), (b11, .inl (cI, 4096, .inl (nIf fx))), (b12, .inl (cI, 4096, .inl (nIf fy)))] := hD
            refine lv_iinc (v := nI 2) (lv' := [(6, .int (nI 2)), (4, .long v_20), (12, .long z_19), (10, .long z_16), (8, .long v_15), (7, .int (nI ((3 * kc) + 1))), (2, .long v_2), (0, .ref mo), (1, .int (nI kc))]) hx hb dX6_charges_178 hl (k := 5) rfl (by decide) (by decide) rfl (fun ls hl => ?_)
            refine lv_goto (tgt := 46) hx hb dX6_charges_181 (by decide) ?_
            refine lv_iload hx hb dX6_charges_46 (lv_at hl 0 rfl) ?_
            refine lv_iconst (v := nI 3) hx hb dX6_charges_48 (by decide) ?_
            refine lv_icmp_ge (tgt := 184) hx hb dX6_charges_49 (by decide) (fun h9 => absurd h9 (by decide)) (fun _ => ?_)
            refine lv_iconst (v := nI 3) hx hb dX6_charges_52 (by decide) ?_
            refine lv_iload_n hx hb dX6_charges_53 rfl (lv_at hl 8 rfl) ?_
            refine zx_imul (v := nI (3 * kc)) hx hb dX6_charges_54 (pk_mul _ _) ?_
            refine lv_iload hx hb dX6_charges_55 (lv_at hl 0 rfl) ?_
            refine zx_iadd (v := nI ((3 * kc) + 2)) hx hb dX6_charges_57 (nI_add _ _) ?_
            refine lv_istore (lv' := [(7, .int (nI ((3 * kc) + 2))), (6, .int (nI 2)), (4, .long v_20), (12, .long z_19), (10, .long z_16), (8, .long v_15), (2, .long v_2), (0, .ref mo), (1, .int (nI kc))]) hx hb dX6_charges_58 hl (by decide) rfl (fun ls hl => ?_)
            refine lv_lload hx hb dX6_charges_60 (lv_at hl 2 rfl) ?_
            refine lv_ldc2 (v := 1000) hx hb hown k_3 dX6_charges_62 ?_
            refine zx_lmul (v := v_20 * 1000) hx hb dX6_charges_65 (rfl) ?_
            refine lv_aload_n hx hb dX6_charges_66 rfl (lv_at hl 7 rfl) ?_
            refine lv_iload hx hb dX6_charges_67 (lv_at hl 1 rfl) ?_
            refine vp_callSi (W.runV (As := [.int (nI 2)]) (rest := [.long (v_20 * 1000)]) ⟨hx, hb, hml, hown, hts⟩ (m_X6_bid l D mo b0 b1 b2 b3 b4 b5 b6 b7 b8 b9 b10 b11 b12 cI cJ cZ th t n k ((ch + z_11) + z_19) gd fb fp fs fr ff fa fz fi (vp_updL (vp_updL fu ((3 * kc) + 0) ((fu ((3 * kc) + 0)) - z_8)) ((3 * kc) + 1) ((fu ((3 * kc) + 1)) - z_16)) fo fq fx fy 2 (by first | omega | assumption) (by first | omega | assumption)) (cwV 1 hts gX6_charges_X6_bid rfl rfl rfl (by decide +kernel) ⟨Nat.le_of_ble_eq_true rfl, Nat.le_of_ble_eq_true rfl⟩) (z1_V (va_recv hK hP (ci := 6) (q0 := 0) rfl rfl) (hP.sub (ws' := [(mo, .inr (6, [.int th, .int (nI t), .int (nI n), .int (nI k), .long ((ch + z_11) + z_19), .long gd, .ref b0, .ref b1, .ref b2, .ref b3, .ref b4, .ref b5, .ref b6, .ref b7, .ref b8, .ref b9, .ref b10, .ref b11, .ref b12])), (b0, .inl (cI, 6003, .inl fb)), (b1, .inl (cI, 10, .inl fp)), (b2, .inl (cI, 10, .inl fs)), (b3, .inl (cI, 10, .inl fr)), (b4, .inl (cI, 10, .inl (nIf ff))), (b5, .inl (cI, 10, .inl (nIf fa))), (b6, .inl (cZ, 10, .inl fz)), (b7, .inl (cJ, 10, .inr (.inl fi))), (b8, .inl (cJ, 30, .inr (.inl (vp_updL (vp_updL fu ((3 * kc) + 0) ((fu ((3 * kc) + 0)) - z_8)) ((3 * kc) + 1) ((fu ((3 * kc) + 1)) - z_16))))), (b9, .inl (cI, 4096, .inl (nIf fo))), (b10, .inl (cI, 4096, .inl fq)), (b11, .inl (cI, 4096, .inl (nIf fx))), (b12, .inl (cI, 4096, .inl (nIf fy)))]) [0, 1, 2, 3, 4, 5, 6, 7, 8, 9, 10, 11, 12, 13] rfl) (hK.sub (tys' := [(cI, .int), (cJ, .long), (cZ, .boolean)]) [0, 1, 2] rfl) hG) rfl rfl hl.1 rfl (lv_room (Nat.le_of_ble_eq_true rfl)) dX6_charges_69 ⟨Nat.le_of_ble_eq_true rfl, Nat.le_of_ble_eq_true rfl⟩) (fun r_21 e_r_21 => ?_)
            replace e_r_21 := e_r_21.symm; subst e_r_21
            refine lv_i2l (v := (fb (2001 * 2 + t)).toInt64) hx hb dX6_charges_72 (rfl) ?_
            refine zx_ladd (v := (v_20 * 1000) + ((fb (2001 * 2 + t)).toInt64)) hx hb dX6_charges_73 (rfl) ?_
            refine lv_lconst (v := 1) hx hb dX6_charges_74 (by decide) ?_
            refine zx_lsub (v := ((v_20 * 1000) + ((fb (2001 * 2 + t)).toInt64)) - 1) hx hb dX6_charges_75 (rfl) ?_
            refine lv_aload_n hx hb dX6_charges_76 rfl (lv_at hl 7 rfl) ?_
            refine lv_iload hx hb dX6_charges_77 (lv_at hl 1 rfl) ?_
            refine vp_callSi (W.runV (As := [.int (nI 2)]) (rest := [.long (((v_20 * 1000) + ((fb (2001 * 2 + t)).toInt64)) - 1)]) ⟨hx, hb, hml, hown, hts⟩ (m_X6_bid l D mo b0 b1 b2 b3 b4 b5 b6 b7 b8 b9 b10 b11 b12 cI cJ cZ th t n k ((ch + z_11) + z_19) gd fb fp fs fr ff fa fz fi (vp_updL (vp_updL fu ((3 * kc) + 0) ((fu ((3 * kc) + 0)) - z_8)) ((3 * kc) + 1) ((fu ((3 * kc) + 1)) - z_16)) fo fq fx fy 2 (by first | omega | assumption) (by first | omega | assumption)) (cwV 1 hts gX6_charges_X6_bid rfl rfl rfl (by decide +kernel) ⟨Nat.le_of_ble_eq_true rfl, Nat.le_of_ble_eq_true rfl⟩) (z1_V (va_recv hK hP (ci := 6) (q0 := 0) rfl rfl) (hP.sub (ws' := [(mo, .inr (6, [.int th, .int (nI t), .int (nI n), .int (nI k), .long ((ch + z_11) + z_19), .long gd, .ref b0, .ref b1, .ref b2, .ref b3, .ref b4, .ref b5, .ref b6, .ref b7, .ref b8, .ref b9, .ref b10, .ref b11, .ref b12])), (b0, .inl (cI, 6003, .inl fb)), (b1, .inl (cI, 10, .inl fp)), (b2, .inl (cI, 10, .inl fs)), (b3, .inl (cI, 10, .inl fr)), (b4, .inl (cI, 10, .inl (nIf ff))), (b5, .inl (cI, 10, .inl (nIf fa))), (b6, .inl (cZ, 10, .inl fz)), (b7, .inl (cJ, 10, .inr (.inl fi))), (b8, .inl (cJ, 30, .inr (.inl (vp_updL (vp_updL fu ((3 * kc) + 0) ((fu ((3 * kc) + 0)) - z_8)) ((3 * kc) + 1) ((fu ((3 * kc) + 1)) - z_16))))), (b9, .inl (cI, 4096, .inl (nIf fo))), (b10, .inl (cI, 4096, .inl fq)), (b11, .inl (cI, 4096, .inl (nIf fx))), (b12, .inl (cI, 4096, .inl (nIf fy)))]) [0, 1, 2, 3, 4, 5, 6, 7, 8, 9, 10, 11, 12, 13] rfl) (hK.sub (tys' := [(cI, .int), (cJ, .long), (cZ, .boolean)]) [0, 1, 2] rfl) hG) rfl rfl hl.1 rfl (lv_room (Nat.le_of_ble_eq_true rfl)) dX6_charges_79 ⟨Nat.le_of_ble_eq_true rfl, Nat.le_of_ble_eq_true rfl⟩) (fun r_22 e_r_22 => ?_)
            replace e_r_22 := e_r_22.symm; subst e_r_22
            refine lv_i2l (v := (fb (2001 * 2 + t)).toInt64) hx hb dX6_charges_82 (rfl) ?_
            refine zx_ldiv (v := (((v_20 * 1000) + ((fb (2001 * 2 + t)).toInt64)) - 1) / ((fb (2001 * 2 + t)).toInt64)) hx hb dX6_charges_83 (by assumption) (rfl) ?_
            refine lv_topl (fun v_23 e_v_23 => ?_)
            refine lv_lstore (lv' := [(8, .long v_23), (7, .int (nI ((3 * kc) + 2))), (6, .int (nI 2)), (4, .long v_20), (12, .long z_19), (10, .long z_16), (2, .long v_2), (0, .ref mo), (1, .int (nI kc))]) hx hb dX6_charges_84 hl (by decide) rfl (fun ls hl => ?_)
            refine lv_lload hx hb dX6_charges_86 (lv_at hl 0 rfl) ?_
            refine lv_aload_n hx hb dX6_charges_88 rfl (lv_at hl 7 rfl) ?_
            refine va_get (D := D) (ci := 6) (v := .ref b8) (C := RX6) (T := TX6) (N := 19) hx hb hts i_RX6 hown hK hP 0 rfl rfl 14 (by decide) k_4 (fun _ h9 => h9) rfl dX6_charges_89 ?_
            refine lv_iload hx hb dX6_charges_92 (lv_at hl 1 rfl) ?_
            refine zx_lald (D := D) hx hb hK hP 9 1 rfl rfl (v := fu ((3 * kc) + 2)) (((updL_ne (by omega)).trans (updL_ne (by omega)))) (by omega) (by first | decide | omega) dX6_charges_94 ?_
            refine zj (T := Int64) (fr := fun z => F0 m 111 ls (.long z :: [])) (if (fu ((3 * kc) + 2)) ≤ v_23 then fu ((3 * kc) + 2) else v_23) (fun z_24 e_z_24 => ?_) (fun j_z_24 => ?_)
            · skip
              refine lv_lstore (lv' := [(10, .long z_24), (8, .long v_23), (7, .int (nI ((3 * kc) + 2))), (6, .int (nI 2)), (4, .long v_20), (12, .long z_19), (2, .long v_2), (0, .ref mo), (1, .int (nI kc))]) hx hb dX6_charges_111 hl (by decide) rfl (fun ls hl => ?_)
              refine lv_lload hx hb dX6_charges_113 (lv_at hl 0 rfl) ?_
              refine lv_aload_n hx hb dX6_charges_115 rfl (lv_at hl 7 rfl) ?_
              refine lv_iload hx hb dX6_charges_116 (lv_at hl 3 rfl) ?_
              refine vp_callSi (W.runV (As := [.int (nI 2)]) (rest := [.long z_24]) ⟨hx, hb, hml, hown, hts⟩ (m_X6_bid l D mo b0 b1 b2 b3 b4 b5 b6 b7 b8 b9 b10 b11 b12 cI cJ cZ th t n k ((ch + z_11) + z_19) gd fb fp fs fr ff fa fz fi (vp_updL (vp_updL fu ((3 * kc) + 0) ((fu ((3 * kc) + 0)) - z_8)) ((3 * kc) + 1) ((fu ((3 * kc) + 1)) - z_16)) fo fq fx fy 2 (by first | omega | assumption) (by first | omega | assumption)) (cwV 1 hts gX6_charges_X6_bid rfl rfl rfl (by decide +kernel) ⟨Nat.le_of_ble_eq_true rfl, Nat.le_of_ble_eq_true rfl⟩) (z1_V (va_recv hK hP (ci := 6) (q0 := 0) rfl rfl) (hP.sub (ws' := [(mo, .inr (6, [.int th, .int (nI t), .int (nI n), .int (nI k), .long ((ch + z_11) + z_19), .long gd, .ref b0, .ref b1, .ref b2, .ref b3, .ref b4, .ref b5, .ref b6, .ref b7, .ref b8, .ref b9, .ref b10, .ref b11, .ref b12])), (b0, .inl (cI, 6003, .inl fb)), (b1, .inl (cI, 10, .inl fp)), (b2, .inl (cI, 10, .inl fs)), (b3, .inl (cI, 10, .inl fr)), (b4, .inl (cI, 10, .inl (nIf ff))), (b5, .inl (cI, 10, .inl (nIf fa))), (b6, .inl (cZ, 10, .inl fz)), (b7, .inl (cJ, 10, .inr (.inl fi))), (b8, .inl (cJ, 30, .inr (.inl (vp_updL (vp_updL fu ((3 * kc) + 0) ((fu ((3 * kc) + 0)) - z_8)) ((3 * kc) + 1) ((fu ((3 * kc) + 1)) - z_16))))), (b9, .inl (cI, 4096, .inl (nIf fo))), (b10, .inl (cI, 4096, .inl fq)), (b11, .inl (cI, 4096, .inl (nIf fx))), (b12, .inl (cI, 4096, .inl (nIf fy)))]) [0, 1, 2, 3, 4, 5, 6, 7, 8, 9, 10, 11, 12, 13] rfl) (hK.sub (tys' := [(cI, .int), (cJ, .long), (cZ, .boolean)]) [0, 1, 2] rfl) hG) rfl rfl hl.1 rfl (lv_room (Nat.le_of_ble_eq_true rfl)) dX6_charges_118 ⟨Nat.le_of_ble_eq_true rfl, Nat.le_of_ble_eq_true rfl⟩) (fun r_25 e_r_25 => ?_)
              replace e_r_25 := e_r_25.symm; subst e_r_25
              refine vp_callSl (W.runS (As := [.long z_24, .int (fb (2001 * 2 + t))]) (rest := []) ⟨hx, hb, hml, hown, hts⟩ (m_X6_money l z_24 (fb (2001 * 2 + t))) (va_cwS 2 hts gX6_charges_X6_money rfl rfl rfl (by decide +kernel) ⟨Nat.le_of_ble_eq_true rfl, Nat.le_of_ble_eq_true rfl⟩) z0_S rfl rfl hl.1 rfl (lv_room (Nat.le_of_ble_eq_true rfl)) dX6_charges_121 ⟨Nat.le_of_ble_eq_true rfl, Nat.le_of_ble_eq_true rfl⟩) (fun r_26 e_r_26 => ?_)
              replace e_r_26 := e_r_26.symm; subst e_r_26
              refine lv_lload hx hb dX6_charges_124 (lv_at hl 4 rfl) ?_
              refine zj (T := Int64) (fr := fun z => F0 m 146 ls (.long z :: [])) (if v_20 ≤ (k_mon z_24 (fb (2001 * 2 + t)).toInt64) then v_20 else k_mon z_24 (fb (2001 * 2 + t)).toInt64) (fun z_27 e_z_27 => ?_) (fun j_z_27 => ?_)
              · skip
                refine lv_lstore (lv' := [(12, .long z_27), (10, .long z_24), (8, .long v_23), (7, .int (nI ((3 * kc) + 2))), (6, .int (nI 2)), (4, .long v_20), (2, .long v_2), (0, .ref mo), (1, .int (nI kc))]) hx hb dX6_charges_146 hl (by decide) rfl (fun ls hl => ?_)
                refine lv_aload_n hx hb dX6_charges_148 rfl (lv_at hl 7 rfl) ?_
                refine va_get (D := D) (ci := 6) (v := .ref b8) (C := RX6) (T := TX6) (N := 19) hx hb hts i_RX6 hown hK hP 0 rfl rfl 14 (by decide) k_4 (fun _ h9 => h9) rfl dX6_charges_149 ?_
                refine lv_iload hx hb dX6_charges_152 (lv_at hl 3 rfl) ?_
                refine lv_dup2_11 hx hb dX6_charges_154 rfl rfl ?_
                refine zx_lald (D := D) hx hb hK hP 9 1 rfl rfl (v := fu ((3 * kc) + 2)) (((updL_ne (by omega)).trans (updL_ne (by omega)))) (by omega) (by first | decide | omega) dX6_charges_155 ?_
                refine lv_lload hx hb dX6_charges_156 (lv_at hl 1 rfl) ?_
                refine zx_lsub (v := (fu ((3 * kc) + 2)) - z_24) hx hb dX6_charges_158 (rfl) ?_
                refine zx_last (D := D) hx hb hK hP hD hS 9 1 rfl rfl (by omega) (by decide) dX6_charges_159 (fun H locs hP hD hS => ?_)
                have hP : va_P D vwCl [(mo, .inr (6, [.int th, .int (nI t), .int (nI n), .int (nI k), .long ((ch + z_11) + z_19), .long gd, .ref b0, .ref b1, .ref b2, .ref b3, .ref b4, .ref b5, .ref b6, .ref b7, .ref b8, .ref b9, .ref b10, .ref b11, .ref b12])), (b0, .inl (cI, 6003, .inl fb)), (b1, .inl (cI, 10, .inl fp)), (b2, .inl (cI, 10, .inl fs)), (b3, .inl (cI, 10, .inl fr)), (b4, .inl (cI, 10, .inl (nIf ff))), (b5, .inl (cI, 10, .inl (nIf fa))), (b6, .inl (cZ, 10, .inl fz)), (b7, .inl (cJ, 10, .inr (.inl fi))), (b8, .inl (cJ, 30, .inr (.inl (vp_updL (vp_updL (vp_updL fu ((3 * kc) + 0) ((fu ((3 * kc) + 0)) - z_8)) ((3 * kc) + 1) ((fu ((3 * kc) + 1)) - z_16)) ((3 * kc) + 2) ((fu ((3 * kc) + 2)) - z_24))))), (b9, .inl (cI, 4096, .inl (nIf fo))), (b10, .inl (cI, 4096, .inl fq)), (b11, .inl (cI, 4096, .inl (nIf fx))), (b12, .inl (cI, 4096, .inl (nIf fy)))] H := hP
                have hD : va_D A [(mo, .inr (6, [.int th, .int (nI t), .int (nI n), .int (nI k), .long ((ch + z_11) + z_19), .long gd, .ref b0, .ref b1, .ref b2, .ref b3, .ref b4, .ref b5, .ref b6, .ref b7, .ref b8, .ref b9, .ref b10, .ref b11, .ref b12])), (b0, .inl (cI, 6003, .inl fb)), (b1, .inl (cI, 10, .inl fp)), (b2, .inl (cI, 10, .inl fs)), (b3, .inl (cI, 10, .inl fr)), (b4, .inl (cI, 10, .inl (nIf ff))), (b5, .inl (cI, 10, .inl (nIf fa))), (b6, .inl (cZ, 10, .inl fz)), (b7, .inl (cJ, 10, .inr (.inl fi))), (b8, .inl (cJ, 30, .inr (.inl (vp_updL (vp_updL (vp_updL fu ((3 * kc) + 0) ((fu ((3 * kc) + 0)) - z_8)) ((3 * kc) + 1) ((fu ((3 * kc) + 1)) - z_16)) ((3 * kc) + 2) ((fu ((3 * kc) + 2)) - z_24))))), (b9, .inl (cI, 4096, .inl (nIf fo))), (b10, .inl (cI, 4096, .inl fq)), (b11, .inl (cI, 4096, .inl (nIf fx))), (b12, .inl (cI, 4096, .inl (nIf fy)))] := hD
                refine lv_lload hx hb dX6_charges_160 (lv_at hl 5 rfl) ?_
                refine lv_lload hx hb dX6_charges_162 (lv_at hl 0 rfl) ?_
                refine zx_lsub (v := v_20 - z_27) hx hb dX6_charges_164 (rfl) ?_
                refine lv_topl (fun v_28 e_v_28 => ?_)
                refine lv_lstore (lv' := [(4, .long v_28), (12, .long z_27), (10, .long z_24), (8, .long v_23), (7, .int (nI ((3 * kc) + 2))), (6, .int (nI 2)), (2, .long v_2), (0, .ref mo), (1, .int (nI kc))]) hx hb dX6_charges_165 hl (by decide) rfl (fun ls hl => ?_)
                refine lv_aload_n hx hb dX6_charges_167 rfl (lv_at hl 7 rfl) ?_
                refine lv_dup hx hb dX6_charges_168 rfl ?_
                refine va_get (D := D) (ci := 6) (v := .long ((ch + z_11) + z_19)) (C := RX6) (T := TX6) (N := 19) hx hb hts i_RX6 hown hK hP 0 rfl rfl 4 (by decide) k_5 (fun _ h9 => h9) rfl dX6_charges_169 ?_
                refine lv_lload hx hb dX6_charges_172 (lv_at hl 1 rfl) ?_
                refine zx_ladd (v := ((ch + z_11) + z_19) + z_27) hx hb dX6_charges_174 (rfl) ?_
                refine va_put (D := D) (ci := 6) (v := .long (((ch + z_11) + z_19) + z_27)) (ty := .long) (C := RX6) (T := TX6) (N := 19) hx hb hts i_RX6 tyX6 tyX6_ok nmX6 hown hK hP hD hS 0 rfl rfl 4 (by decide) k_5 (fun _ h9 => h9) rfl (by decide +kernel) rfl rfl (Nat.le_of_ble_eq_true rfl) dX6_charges_175 (fun H locs hP hD hS => ?_)
                have hP : va_P D vwCl [(mo, .inr (6, [.int th, .int (nI t), .int (nI n), .int (nI k), .long (((ch + z_11) + z_19) + z_27), .long gd, .ref b0, .ref b1, .ref b2, .ref b3, .ref b4, .ref b5, .ref b6, .ref b7, .ref b8, .ref b9, .ref b10, .ref b11, .ref b12])), (b0, .inl (cI, 6003, .inl fb)), (b1, .inl (cI, 10, .inl fp)), (b2, .inl (cI, 10, .inl fs)), (b3, .inl (cI, 10, .inl fr)), (b4, .inl (cI, 10, .inl (nIf ff))), (b5, .inl (cI, 10, .inl (nIf fa))), (b6, .inl (cZ, 10, .inl fz)), (b7, .inl (cJ, 10, .inr (.inl fi))), (b8, .inl (cJ, 30, .inr (.inl (vp_updL (vp_updL (vp_updL fu ((3 * kc) + 0) ((fu ((3 * kc) + 0)) - z_8)) ((3 * kc) + 1) ((fu ((3 * kc) + 1)) - z_16)) ((3 * kc) + 2) ((fu ((3 * kc) + 2)) - z_24))))), (b9, .inl (cI, 4096, .inl (nIf fo))), (b10, .inl (cI, 4096, .inl fq)), (b11, .inl (cI, 4096, .inl (nIf fx))), (b12, .inl (cI, 4096, .inl (nIf fy)))] H := hP
                have hD : va_D A [(mo, .inr (6, [.int th, .int (nI t), .int (nI n), .int (nI k), .long (((ch + z_11) + z_19) + z_27), .long gd, .ref b0, .ref b1, .ref b2, .ref b3, .ref b4, .ref b5, .ref b6, .ref b7, .ref b8, .ref b9, .ref b10, .ref b11, .ref b12])), (b0, .inl (cI, 6003, .inl fb)), (b1, .inl (cI, 10, .inl fp)), (b2, .inl (cI, 10, .inl fs)), (b3, .inl (cI, 10, .inl fr)), (b4, .inl (cI, 10, .inl (nIf ff))), (b5, .inl (cI, 10, .inl (nIf fa))), (b6, .inl (cZ, 10, .inl fz)), (b7, .inl (cJ, 10, .inr (.inl fi))), (b8, .inl (cJ, 30, .inr (.inl (vp_updL (vp_updL (vp_updL fu ((3 * kc) + 0) ((fu ((3 * kc) + 0)) - z_8)) ((3 * kc) + 1) ((fu ((3 * kc) + 1)) - z_16)) ((3 * kc) + 2) ((fu ((3 * kc) + 2)) - z_24))))), (b9, .inl (cI, 4096, .inl (nIf fo))), (b10, .inl (cI, 4096, .inl fq)), (b11, .inl (cI, 4096, .inl (nIf fx))), (b12, .inl (cI, 4096, .inl (nIf fy)))] := hD
                refine lv_iinc (v := nI 3) (lv' := [(6, .int (nI 3)), (4, .long v_28), (12, .long z_27), (10, .long z_24), (8, .long v_23), (7, .int (nI ((3 * kc) + 2))), (2, .long v_2), (0, .ref mo), (1, .int (nI kc))]) hx hb dX6_charges_178 hl (k := 5) rfl (by decide) (by decide) rfl (fun ls hl => ?_)
                refine lv_goto (tgt := 46) hx hb dX6_charges_181 (by decide) ?_
                refine lv_iload hx hb dX6_charges_46 (lv_at hl 0 rfl) ?_
                refine lv_iconst (v := nI 3) hx hb dX6_charges_48 (by decide) ?_
                refine lv_icmp_ge (tgt := 184) hx hb dX6_charges_49 (by decide) (fun _ => ?_) (fun h9 => absurd (by decide) h9)
                have ec0 : v_4 = (q_c t fb fs fr ff fi fu kc) := by rw [e_v_4, e_z_3, e_v_2]; exact k_r0M
                have ep0 : z_8 = k_take (q_c t fb fs fr ff fi fu kc) (q_p fb t 0).toInt64 ((q_a fu kc) 0) := by rw [e_z_8, e_v_7, ec0]; exact k_takeM
                have eg0 : z_11 = k_got (q_c t fb fs fr ff fi fu kc) (q_p fb t 0).toInt64 ((q_a fu kc) 0) := by rw [e_z_11, ep0, ec0]; exact k_gotM
                have ec1 : v_12 = (k_c1 (q_c t fb fs fr ff fi fu kc) (q_p fb t 0) (q_a fu kc)) := by rw [e_v_12, eg0, ec0]; rfl
                have ep1 : z_16 = k_take (k_c1 (q_c t fb fs fr ff fi fu kc) (q_p fb t 0) (q_a fu kc)) (q_p fb t 1).toInt64 ((q_a fu kc) 1) := by rw [e_z_16, e_v_15, ec1]; exact k_takeM
                have eg1 : z_19 = k_got (k_c1 (q_c t fb fs fr ff fi fu kc) (q_p fb t 0) (q_a fu kc)) (q_p fb t 1).toInt64 ((q_a fu kc) 1) := by rw [e_z_19, ep1, ec1]; exact k_gotM
                have ec2 : v_20 = (k_c2 (q_c t fb fs fr ff fi fu kc) (q_p fb t 0) (q_p fb t 1) (q_a fu kc)) := by rw [e_v_20, eg1, ec1]; rfl
                have ep2 : z_24 = k_take (k_c2 (q_c t fb fs fr ff fi fu kc) (q_p fb t 0) (q_p fb t 1) (q_a fu kc)) (q_p fb t 2).toInt64 ((q_a fu kc) 2) := by rw [e_z_24, e_v_23, ec2]; exact k_takeM
                have eg2 : z_27 = k_got (k_c2 (q_c t fb fs fr ff fi fu kc) (q_p fb t 0) (q_p fb t 1) (q_a fu kc)) (q_p fb t 2).toInt64 ((q_a fu kc) 2) := by rw [e_z_27, ep2, ec2]; exact k_gotM
                have ec3 : v_28 = (k_c3 (q_c t fb fs fr ff fi fu kc) (q_p fb t 0) (q_p fb t 1) (q_p fb t 2) (q_a fu kc)) := by rw [e_v_28, eg2, ec2]; rfl
                refine lv_lload hx hb dX6_charges_184 (lv_at hl 1 rfl) ?_
                refine lv_lconst (v := 0) hx hb dX6_charges_186 (by decide) ?_
                refine zj (T := Int32) (fr := fun z => F0 m 196 ls (.int z :: [])) (if v_28 ≤ 0 then nI 0 else nI 1) (fun z_29 e_z_29 => ?_) (fun j_z_29 => ?_)
                · skip
                  have hw9 : ([(mo, .inr (6, [.int th, .int (nI t), .int (nI n), .int (nI k), .long (((ch + z_11) + z_19) + z_27), .long gd, .ref b0, .ref b1, .ref b2, .ref b3, .ref b4, .ref b5, .ref b6, .ref b7, .ref b8, .ref b9, .ref b10, .ref b11, .ref b12])), (b0, .inl (cI, 6003, .inl fb)), (b1, .inl (cI, 10, .inl fp)), (b2, .inl (cI, 10, .inl fs)), (b3, .inl (cI, 10, .inl fr)), (b4, .inl (cI, 10, .inl (nIf ff))), (b5, .inl (cI, 10, .inl (nIf fa))), (b6, .inl (cZ, 10, .inl fz)), (b7, .inl (cJ, 10, .inr (.inl fi))), (b8, .inl (cJ, 30, .inr (.inl (vp_updL (vp_updL (vp_updL fu ((3 * kc) + 0) ((fu ((3 * kc) + 0)) - z_8)) ((3 * kc) + 1) ((fu ((3 * kc) + 1)) - z_16)) ((3 * kc) + 2) ((fu ((3 * kc) + 2)) - z_24))))), (b9, .inl (cI, 4096, .inl (nIf fo))), (b10, .inl (cI, 4096, .inl fq)), (b11, .inl (cI, 4096, .inl (nIf fx))), (b12, .inl (cI, 4096, .inl (nIf fy)))] : va_W) = [(mo, .inr (6, [.int th, .int (nI t), .int (nI n), .int (nI k), .long (q_ch t fb fs fr ff fi fu kc ch), .long gd, .ref b0, .ref b1, .ref b2, .ref b3, .ref b4, .ref b5, .ref b6, .ref b7, .ref b8, .ref b9, .ref b10, .ref b11, .ref b12])), (b0, .inl (cI, 6003, .inl fb)), (b1, .inl (cI, 10, .inl fp)), (b2, .inl (cI, 10, .inl fs)), (b3, .inl (cI, 10, .inl fr)), (b4, .inl (cI, 10, .inl (nIf ff))), (b5, .inl (cI, 10, .inl (nIf fa))), (b6, .inl (cZ, 10, .inl fz)), (b7, .inl (cJ, 10, .inr (.inl fi))), (b8, .inl (cJ, 30, .inr (.inl (q_un t fb fs fr ff fi fu kc)))), (b9, .inl (cI, 4096, .inl (nIf fo))), (b10, .inl (cI, 4096, .inl fq)), (b11, .inl (cI, 4096, .inl (nIf fx))), (b12, .inl (cI, 4096, .inl (nIf fy)))] := (by rw [ep0, ep1, ep2, eg0, eg1, eg2] <;> rfl)
                  have hP := hP.sub (ws' := [(mo, .inr (6, [.int th, .int (nI t), .int (nI n), .int (nI k), .long (((ch + z_11) + z_19) + z_27), .long gd, .ref b0, .ref b1, .ref b2, .ref b3, .ref b4, .ref b5, .ref b6, .ref b7, .ref b8, .ref b9, .ref b10, .ref b11, .ref b12])), (b0, .inl (cI, 6003, .inl fb)), (b1, .inl (cI, 10, .inl fp)), (b2, .inl (cI, 10, .inl fs)), (b3, .inl (cI, 10, .inl fr)), (b4, .inl (cI, 10, .inl (nIf ff))), (b5, .inl (cI, 10, .inl (nIf fa))), (b6, .inl (cZ, 10, .inl fz)), (b7, .inl (cJ, 10, .inr (.inl fi))), (b8, .inl (cJ, 30, .inr (.inl (vp_updL (vp_updL (vp_updL fu ((3 * kc) + 0) ((fu ((3 * kc) + 0)) - z_8)) ((3 * kc) + 1) ((fu ((3 * kc) + 1)) - z_16)) ((3 * kc) + 2) ((fu ((3 * kc) + 2)) - z_24))))), (b9, .inl (cI, 4096, .inl (nIf fo))), (b10, .inl (cI, 4096, .inl fq)), (b11, .inl (cI, 4096, .inl (nIf fx))), (b12, .inl (cI, 4096, .inl (nIf fy)))]) [0, 1, 2, 3, 4, 5, 6, 7, 8, 9, 10, 11, 12, 13] rfl
                  have hD := hD.sub (ws' := [(mo, .inr (6, [.int th, .int (nI t), .int (nI n), .int (nI k), .long (((ch + z_11) + z_19) + z_27), .long gd, .ref b0, .ref b1, .ref b2, .ref b3, .ref b4, .ref b5, .ref b6, .ref b7, .ref b8, .ref b9, .ref b10, .ref b11, .ref b12])), (b0, .inl (cI, 6003, .inl fb)), (b1, .inl (cI, 10, .inl fp)), (b2, .inl (cI, 10, .inl fs)), (b3, .inl (cI, 10, .inl fr)), (b4, .inl (cI, 10, .inl (nIf ff))), (b5, .inl (cI, 10, .inl (nIf fa))), (b6, .inl (cZ, 10, .inl fz)), (b7, .inl (cJ, 10, .inr (.inl fi))), (b8, .inl (cJ, 30, .inr (.inl (vp_updL (vp_updL (vp_updL fu ((3 * kc) + 0) ((fu ((3 * kc) + 0)) - z_8)) ((3 * kc) + 1) ((fu ((3 * kc) + 1)) - z_16)) ((3 * kc) + 2) ((fu ((3 * kc) + 2)) - z_24))))), (b9, .inl (cI, 4096, .inl (nIf fo))), (b10, .inl (cI, 4096, .inl fq)), (b11, .inl (cI, 4096, .inl (nIf fx))), (b12, .inl (cI, 4096, .inl (nIf fy)))]) [0, 1, 2, 3, 4, 5, 6, 7, 8, 9, 10, 11, 12, 13] (by decide) rfl
                  rw [hw9] at hP hD
                  subst hAe
                  exact zretz (D := D) (wf := [(mo, .inr (6, [.int th, .int (nI t), .int (nI n), .int (nI k), .long (q_ch t fb fs fr ff fi fu kc ch), .long gd, .ref b0, .ref b1, .ref b2, .ref b3, .ref b4, .ref b5, .ref b6, .ref b7, .ref b8, .ref b9, .ref b10, .ref b11, .ref b12])), (b0, .inl (cI, 6003, .inl fb)), (b1, .inl (cI, 10, .inl fp)), (b2, .inl (cI, 10, .inl fs)), (b3, .inl (cI, 10, .inl fr)), (b4, .inl (cI, 10, .inl (nIf ff))), (b5, .inl (cI, 10, .inl (nIf fa))), (b6, .inl (cZ, 10, .inl fz)), (b7, .inl (cJ, 10, .inr (.inl fi))), (b8, .inl (cJ, 30, .inr (.inl (q_un t fb fs fr ff fi fu kc)))), (b9, .inl (cI, 4096, .inl (nIf fo))), (b10, .inl (cI, 4096, .inl fq)), (b11, .inl (cI, 4096, .inl (nIf fx))), (b12, .inl (cI, 4096, .inl (nIf fy)))]) hx hb hr hlocks hP hK hD hS dX6_charges_196 (Nat.le_of_ble_eq_true rfl) (Nat.le_of_ble_eq_true rfl) (by subst_vars; split <;> rfl) (by subst_vars; first | rfl | assumption)
                · refine zx_lcmp_le (tgt := 195) hx hb dX6_charges_187 dX6_charges_188 (by decide) (fun c_187 => ?_) (fun c_187 => ?_)
                  · skip
                    refine lv_iconst (v := nI 0) hx hb dX6_charges_195 (by decide) ?_
                    exact j_z_29 _ (by rw [if_pos c_187])
                  · skip
                    refine lv_iconst (v := nI 1) hx hb dX6_charges_191 (by decide) ?_
                    refine lv_goto (tgt := 196) hx hb dX6_charges_192 (by decide) ?_
                    exact j_z_29 _ (by rw [if_neg c_187])
              · refine zx_lcmp_ge (tgt := 144) hx hb dX6_charges_126 dX6_charges_127 (by decide) (fun c_126 => ?_) (fun c_126 => ?_)
                · skip
                  refine lv_lload hx hb dX6_charges_144 (lv_at hl 4 rfl) ?_
                  exact j_z_27 _ (by rw [if_pos c_126])
                · skip
                  refine lv_lload hx hb dX6_charges_130 (lv_at hl 0 rfl) ?_
                  refine lv_aload_n hx hb dX6_charges_132 rfl (lv_at hl 7 rfl) ?_
                  refine lv_iload hx hb dX6_charges_133 (lv_at hl 3 rfl) ?_
                  refine vp_callSi (W.runV (As := [.int (nI 2)]) (rest := [.long z_24]) ⟨hx, hb, hml, hown, hts⟩ (m_X6_bid l D mo b0 b1 b2 b3 b4 b5 b6 b7 b8 b9 b10 b11 b12 cI cJ cZ th t n k ((ch + z_11) + z_19) gd fb fp fs fr ff fa fz fi (vp_updL (vp_updL fu ((3 * kc) + 0) ((fu ((3 * kc) + 0)) - z_8)) ((3 * kc) + 1) ((fu ((3 * kc) + 1)) - z_16)) fo fq fx fy 2 (by first | omega | assumption) (by first | omega | assumption)) (cwV 1 hts gX6_charges_X6_bid rfl rfl rfl (by decide +kernel) ⟨Nat.le_of_ble_eq_true rfl, Nat.le_of_ble_eq_true rfl⟩) (z1_V (va_recv hK hP (ci := 6) (q0 := 0) rfl rfl) (hP.sub (ws' := [(mo, .inr (6, [.int th, .int (nI t), .int (nI n), .int (nI k), .long ((ch + z_11) + z_19), .long gd, .ref b0, .ref b1, .ref b2, .ref b3, .ref b4, .ref b5, .ref b6, .ref b7, .ref b8, .ref b9, .ref b10, .ref b11, .ref b12])), (b0, .inl (cI, 6003, .inl fb)), (b1, .inl (cI, 10, .inl fp)), (b2, .inl (cI, 10, .inl fs)), (b3, .inl (cI, 10, .inl fr)), (b4, .inl (cI, 10, .inl (nIf ff))), (b5, .inl (cI, 10, .inl (nIf fa))), (b6, .inl (cZ, 10, .inl fz)), (b7, .inl (cJ, 10, .inr (.inl fi))), (b8, .inl (cJ, 30, .inr (.inl (vp_updL (vp_updL fu ((3 * kc) + 0) ((fu ((3 * kc) + 0)) - z_8)) ((3 * kc) + 1) ((fu ((3 * kc) + 1)) - z_16))))), (b9, .inl (cI, 4096, .inl (nIf fo))), (b10, .inl (cI, 4096, .inl fq)), (b11, .inl (cI, 4096, .inl (nIf fx))), (b12, .inl (cI, 4096, .inl (nIf fy)))]) [0, 1, 2, 3, 4, 5, 6, 7, 8, 9, 10, 11, 12, 13] rfl) (hK.sub (tys' := [(cI, .int), (cJ, .long), (cZ, .boolean)]) [0, 1, 2] rfl) hG) rfl rfl hl.1 rfl (lv_room (Nat.le_of_ble_eq_true rfl)) dX6_charges_135 ⟨Nat.le_of_ble_eq_true rfl, Nat.le_of_ble_eq_true rfl⟩) (fun r_30 e_r_30 => ?_)
                  replace e_r_30 := e_r_30.symm; subst e_r_30
                  refine vp_callSl (W.runS (As := [.long z_24, .int (fb (2001 * 2 + t))]) (rest := []) ⟨hx, hb, hml, hown, hts⟩ (m_X6_money l z_24 (fb (2001 * 2 + t))) (va_cwS 2 hts gX6_charges_X6_money rfl rfl rfl (by decide +kernel) ⟨Nat.le_of_ble_eq_true rfl, Nat.le_of_ble_eq_true rfl⟩) z0_S rfl rfl hl.1 rfl (lv_room (Nat.le_of_ble_eq_true rfl)) dX6_charges_138 ⟨Nat.le_of_ble_eq_true rfl, Nat.le_of_ble_eq_true rfl⟩) (fun r_31 e_r_31 => ?_)
                  replace e_r_31 := e_r_31.symm; subst e_r_31
                  refine lv_goto (tgt := 146) hx hb dX6_charges_141 (by decide) ?_
                  exact j_z_27 _ (by rw [if_neg c_126])
            · refine zx_lcmp_ge (tgt := 104) hx hb dX6_charges_95 dX6_charges_96 (by decide) (fun c_95 => ?_) (fun c_95 => ?_)
              · skip
                refine lv_aload_n hx hb dX6_charges_104 rfl (lv_at hl 7 rfl) ?_
                refine va_get (D := D) (ci := 6) (v := .ref b8) (C := RX6) (T := TX6) (N := 19) hx hb hts i_RX6 hown hK hP 0 rfl rfl 14 (by decide) k_4 (fun _ h9 => h9) rfl dX6_charges_105 ?_
                refine lv_iload hx hb dX6_charges_108 (lv_at hl 1 rfl) ?_
                refine zx_lald (D := D) hx hb hK hP 9 1 rfl rfl (v := fu ((3 * kc) + 2)) (((updL_ne (by omega)).trans (updL_ne (by omega)))) (by omega) (by first | decide | omega) dX6_charges_110 ?_
                exact j_z_24 _ (by rw [if_pos c_95])
              · skip
                refine lv_lload hx hb dX6_charges_99 (lv_at hl 0 rfl) ?_
                refine lv_goto (tgt := 111) hx hb dX6_charges_101 (by decide) ?_
                exact j_z_24 _ (by rw [if_neg c_95])
          · refine zx_lcmp_ge (tgt := 144) hx hb dX6_charges_126 dX6_charges_127 (by decide) (fun c_126 => ?_) (fun c_126 => ?_)
            · skip
              refine lv_lload hx hb dX6_charges_144 (lv_at hl 4 rfl) ?_
              exact j_z_19 _ (by rw [if_pos c_126])
            · skip
              refine lv_lload hx hb dX6_charges_130 (lv_at hl 0 rfl) ?_
              refine lv_aload_n hx hb dX6_charges_132 rfl (lv_at hl 7 rfl) ?_
              refine lv_iload hx hb dX6_charges_133 (lv_at hl 3 rfl) ?_
              refine vp_callSi (W.runV (As := [.int (nI 1)]) (rest := [.long z_16]) ⟨hx, hb, hml, hown, hts⟩ (m_X6_bid l D mo b0 b1 b2 b3 b4 b5 b6 b7 b8 b9 b10 b11 b12 cI cJ cZ th t n k (ch + z_11) gd fb fp fs fr ff fa fz fi (vp_updL fu ((3 * kc) + 0) ((fu ((3 * kc) + 0)) - z_8)) fo fq fx fy 1 (by first | omega | assumption) (by first | omega | assumption)) (cwV 1 hts gX6_charges_X6_bid rfl rfl rfl (by decide +kernel) ⟨Nat.le_of_ble_eq_true rfl, Nat.le_of_ble_eq_true rfl⟩) (z1_V (va_recv hK hP (ci := 6) (q0 := 0) rfl rfl) (hP.sub (ws' := [(mo, .inr (6, [.int th, .int (nI t), .int (nI n), .int (nI k), .long (ch + z_11), .long gd, .ref b0, .ref b1, .ref b2, .ref b3, .ref b4, .ref b5, .ref b6, .ref b7, .ref b8, .ref b9, .ref b10, .ref b11, .ref b12])), (b0, .inl (cI, 6003, .inl fb)), (b1, .inl (cI, 10, .inl fp)), (b2, .inl (cI, 10, .inl fs)), (b3, .inl (cI, 10, .inl fr)), (b4, .inl (cI, 10, .inl (nIf ff))), (b5, .inl (cI, 10, .inl (nIf fa))), (b6, .inl (cZ, 10, .inl fz)), (b7, .inl (cJ, 10, .inr (.inl fi))), (b8, .inl (cJ, 30, .inr (.inl (vp_updL fu ((3 * kc) + 0) ((fu ((3 * kc) + 0)) - z_8))))), (b9, .inl (cI, 4096, .inl (nIf fo))), (b10, .inl (cI, 4096, .inl fq)), (b11, .inl (cI, 4096, .inl (nIf fx))), (b12, .inl (cI, 4096, .inl (nIf fy)))]) [0, 1, 2, 3, 4, 5, 6, 7, 8, 9, 10, 11, 12, 13] rfl) (hK.sub (tys' := [(cI, .int), (cJ, .long), (cZ, .boolean)]) [0, 1, 2] rfl) hG) rfl rfl hl.1 rfl (lv_room (Nat.le_of_ble_eq_true rfl)) dX6_charges_135 ⟨Nat.le_of_ble_eq_true rfl, Nat.le_of_ble_eq_true rfl⟩) (fun r_32 e_r_32 => ?_)
              replace e_r_32 := e_r_32.symm; subst e_r_32
              refine vp_callSl (W.runS (As := [.long z_16, .int (fb (2001 * 1 + t))]) (rest := []) ⟨hx, hb, hml, hown, hts⟩ (m_X6_money l z_16 (fb (2001 * 1 + t))) (va_cwS 2 hts gX6_charges_X6_money rfl rfl rfl (by decide +kernel) ⟨Nat.le_of_ble_eq_true rfl, Nat.le_of_ble_eq_true rfl⟩) z0_S rfl rfl hl.1 rfl (lv_room (Nat.le_of_ble_eq_true rfl)) dX6_charges_138 ⟨Nat.le_of_ble_eq_true rfl, Nat.le_of_ble_eq_true rfl⟩) (fun r_33 e_r_33 => ?_)
              replace e_r_33 := e_r_33.symm; subst e_r_33
              refine lv_goto (tgt := 146) hx hb dX6_charges_141 (by decide) ?_
              exact j_z_19 _ (by rw [if_neg c_126])
        · refine zx_lcmp_ge (tgt := 104) hx hb dX6_charges_95 dX6_charges_96 (by decide) (fun c_95 => ?_) (fun c_95 => ?_)
          · skip
            refine lv_aload_n hx hb dX6_charges_104 rfl (lv_at hl 7 rfl) ?_
            refine va_get (D := D) (ci := 6) (v := .ref b8) (C := RX6) (T := TX6) (N := 19) hx hb hts i_RX6 hown hK hP 0 rfl rfl 14 (by decide) k_4 (fun _ h9 => h9) rfl dX6_charges_105 ?_
            refine lv_iload hx hb dX6_charges_108 (lv_at hl 1 rfl) ?_
            refine zx_lald (D := D) hx hb hK hP 9 1 rfl rfl (v := fu ((3 * kc) + 1)) ((updL_ne (by omega))) (by omega) (by first | decide | omega) dX6_charges_110 ?_
            exact j_z_16 _ (by rw [if_pos c_95])
          · skip
            refine lv_lload hx hb dX6_charges_99 (lv_at hl 0 rfl) ?_
            refine lv_goto (tgt := 111) hx hb dX6_charges_101 (by decide) ?_
            exact j_z_16 _ (by rw [if_neg c_95])
      · refine zx_lcmp_ge (tgt := 144) hx hb dX6_charges_126 dX6_charges_127 (by decide) (fun c_126 => ?_) (fun c_126 => ?_)
        · skip
          refine lv_lload hx hb dX6_charges_144 (lv_at hl 4 rfl) ?_
          exact j_z_11 _ (by rw [if_pos c_126])
        · skip
          refine lv_lload hx hb dX6_charges_130 (lv_at hl 0 rfl) ?_
          refine lv_aload_n hx hb dX6_charges_132 rfl (lv_at hl 6 rfl) ?_
          refine lv_iload hx hb dX6_charges_133 (lv_at hl 3 rfl) ?_
          refine vp_callSi (W.runV (As := [.int (nI 0)]) (rest := [.long z_8]) ⟨hx, hb, hml, hown, hts⟩ (m_X6_bid l D mo b0 b1 b2 b3 b4 b5 b6 b7 b8 b9 b10 b11 b12 cI cJ cZ th t n k ch gd fb fp fs fr ff fa fz fi fu fo fq fx fy 0 (by first | omega | assumption) (by first | omega | assumption)) (cwV 1 hts gX6_charges_X6_bid rfl rfl rfl (by decide +kernel) ⟨Nat.le_of_ble_eq_true rfl, Nat.le_of_ble_eq_true rfl⟩) (z1_V (va_recv hK hP (ci := 6) (q0 := 0) rfl rfl) (hP.sub (ws' := [(mo, .inr (6, [.int th, .int (nI t), .int (nI n), .int (nI k), .long ch, .long gd, .ref b0, .ref b1, .ref b2, .ref b3, .ref b4, .ref b5, .ref b6, .ref b7, .ref b8, .ref b9, .ref b10, .ref b11, .ref b12])), (b0, .inl (cI, 6003, .inl fb)), (b1, .inl (cI, 10, .inl fp)), (b2, .inl (cI, 10, .inl fs)), (b3, .inl (cI, 10, .inl fr)), (b4, .inl (cI, 10, .inl (nIf ff))), (b5, .inl (cI, 10, .inl (nIf fa))), (b6, .inl (cZ, 10, .inl fz)), (b7, .inl (cJ, 10, .inr (.inl fi))), (b8, .inl (cJ, 30, .inr (.inl fu))), (b9, .inl (cI, 4096, .inl (nIf fo))), (b10, .inl (cI, 4096, .inl fq)), (b11, .inl (cI, 4096, .inl (nIf fx))), (b12, .inl (cI, 4096, .inl (nIf fy)))]) [0, 1, 2, 3, 4, 5, 6, 7, 8, 9, 10, 11, 12, 13] rfl) (hK.sub (tys' := [(cI, .int), (cJ, .long), (cZ, .boolean)]) [0, 1, 2] rfl) hG) rfl rfl hl.1 rfl (lv_room (Nat.le_of_ble_eq_true rfl)) dX6_charges_135 ⟨Nat.le_of_ble_eq_true rfl, Nat.le_of_ble_eq_true rfl⟩) (fun r_34 e_r_34 => ?_)
          replace e_r_34 := e_r_34.symm; subst e_r_34
          refine vp_callSl (W.runS (As := [.long z_8, .int (fb (2001 * 0 + t))]) (rest := []) ⟨hx, hb, hml, hown, hts⟩ (m_X6_money l z_8 (fb (2001 * 0 + t))) (va_cwS 2 hts gX6_charges_X6_money rfl rfl rfl (by decide +kernel) ⟨Nat.le_of_ble_eq_true rfl, Nat.le_of_ble_eq_true rfl⟩) z0_S rfl rfl hl.1 rfl (lv_room (Nat.le_of_ble_eq_true rfl)) dX6_charges_138 ⟨Nat.le_of_ble_eq_true rfl, Nat.le_of_ble_eq_true rfl⟩) (fun r_35 e_r_35 => ?_)
          replace e_r_35 := e_r_35.symm; subst e_r_35
          refine lv_goto (tgt := 146) hx hb dX6_charges_141 (by decide) ?_
          exact j_z_11 _ (by rw [if_neg c_126])
    · refine zx_lcmp_ge (tgt := 104) hx hb dX6_charges_95 dX6_charges_96 (by decide) (fun c_95 => ?_) (fun c_95 => ?_)
      · skip
        refine lv_aload_n hx hb dX6_charges_104 rfl (lv_at hl 5 rfl) ?_
        refine va_get (D := D) (ci := 6) (v := .ref b8) (C := RX6) (T := TX6) (N := 19) hx hb hts i_RX6 hown hK hP 0 rfl rfl 14 (by decide) k_4 (fun _ h9 => h9) rfl dX6_charges_105 ?_
        refine lv_iload hx hb dX6_charges_108 (lv_at hl 1 rfl) ?_
        refine zx_lald (D := D) hx hb hK hP 9 1 rfl rfl (v := fu ((3 * kc) + 0)) (rfl) (by omega) (by first | decide | omega) dX6_charges_110 ?_
        exact j_z_8 _ (by rw [if_pos c_95])
      · skip
        refine lv_lload hx hb dX6_charges_99 (lv_at hl 0 rfl) ?_
        refine lv_goto (tgt := 111) hx hb dX6_charges_101 (by decide) ?_
        exact j_z_8 _ (by rw [if_neg c_95])
  · refine zx_lcmp_le (tgt := 39) hx hb dX6_charges_19 dX6_charges_20 (by decide) (fun c_19 => ?_) (fun c_19 => ?_)
    · skip
      refine lv_lconst (v := 0) hx hb dX6_charges_39 (by decide) ?_
      exact j_z_3 _ (by rw [if_pos c_19])
    · skip
      refine lv_lload_n hx hb dX6_charges_23 rfl (lv_at hl 0 rfl) ?_
      refine lv_aload_n hx hb dX6_charges_24 rfl (lv_at hl 1 rfl) ?_
      refine va_get (D := D) (ci := 6) (v := .ref b3) (C := RX6) (T := TX6) (N := 19) hx hb hts i_RX6 hown hK hP 0 rfl rfl 9 (by decide) k_6 (fun _ h9 => h9) rfl dX6_charges_25 ?_
      refine lv_iload_n hx hb dX6_charges_28 rfl (lv_at hl 2 rfl) ?_
      refine zx_iald (D := D) hx hb hK hP 4 0 rfl rfl (v := fr kc) (rfl) (by omega) (by first | decide | omega) dX6_charges_29 ?_
      refine lv_i2l (v := (fr kc).toInt64) hx hb dX6_charges_30 (rfl) ?_
      refine zx_lmul (v := v_2 * ((fr kc).toInt64)) hx hb dX6_charges_31 (rfl) ?_
      refine lv_ldc2 (v := 100000) hx hb hown k_7 dX6_charges_32 ?_
      refine zx_ldiv (v := (v_2 * ((fr kc).toInt64)) / 100000) hx hb dX6_charges_35 (by decide) (rfl) ?_
      refine lv_goto (tgt := 40) hx hb dX6_charges_36 (by decide) ?_
      exact j_z_3 _ (by rw [if_neg c_19])
