/-! THE LAW'S backdates -/
set_option maxHeartbeats 4000000 in
set_option maxRecDepth 100000 in
/-- the law's backdates -/
theorem m_L_backdates (l : Launch) (D : va_G) (x pr mk os : Nat) (ch gd : Int64) (bd t : Nat) (cI : ClassId) (bf : Nat → Int32) (mm : Int32) (em1 n : Nat) (om : Int32) (em2 k : Nat) (L : List Nat) (f : Nat → va_E) (cJ : ClassId) (cO : ClassId) (ca aa : Nat → Nat) (fp fs fr : Nat → Int32) (ff fa : Nat → Nat) (fz : Nat → Int32) (fi fu : Nat → Int64) (em : Nat) (oa fo : Nat → Nat) (fq : Nat → Int32) (fx fy : Nat → Nat) (fb : Nat → Int32) (cc : Nat) (cf : Nat → Nat) (B : Nat) (kc dd : Nat) (hNN : NN B t n k ch fp fs fr ff fa fz fi fu fo fq fx fy fb cf) (hbi : BI bf fb t) (hCI : CI L f cJ n ca aa fp fs fr ff fa fz fi fu) (hOI : OI L f k n oa ca fo fq fx fy) (hU1 : UL cO em L f em1 n ca) (hU2 : UL cO em L f em2 k oa) (hneL : em1 ∈ L → em2 ∈ L → em1 ≠ em2) (hkc : kc < n) (hal : fz kc = nI 1) (hd : dd ≤ t) (sz : Nat)  : Met l yL_backdates wsL_backdates ({ frames := 5, cells := 0, slots := 0, locals := 113 }) (zq D (([(x, .inr (5, [.ref pr, .ref mk, .ref os, .long ch, .long gd])), (pr, .inr (3, [.ref bd, .int (nI t)])), (bd, .inl (cI, 6003, .inl bf)), (mk, .inr (0, [.int mm, .ref em1, .int (nI n)])), (os, .inr (0, [.int om, .ref em2, .int (nI k)])), (cc, .inl (cI, 30, .inl (nIf cf)))] : va_W) ++ va_pl L f) [(cI, .int), (cJ, .long), (cO, .object "java/lang/Object")] sz [.ref x, .ref cc, .int (nI kc), .int (nI dd)] (fun U H => HS (va_A (([(x, .inr (5, [.ref pr, .ref mk, .ref os, .long ch, .long gd])), (pr, .inr (3, [.ref bd, .int (nI t)])), (bd, .inl (cI, 6003, .inl bf)), (mk, .inr (0, [.int mm, .ref em1, .int (nI n)])), (os, .inr (0, [.int om, .ref em2, .int (nI k)])), (cc, .inl (cI, 30, .inl (nIf cf)))] : va_W) ++ va_pl L f) sz) em U H)) (va_Qi (fun (r : Int32) (_ : Unit) => r = nI 1) (fun _ t9 => ∃ (chZ : Int64) (gdZ : Int64) (tZ : Nat) (bfZ : Nat → Int32) (mmZ : Int32) (em1Z : Nat) (nZ : Nat) (omZ : Int32) (em2Z : Nat) (kZ : Nat) (fbZ : Nat → Int32) (fpZ : Nat → Int32) (fsZ : Nat → Int32) (frZ : Nat → Int32) (ffZ : Nat → Nat) (faZ : Nat → Nat) (fzZ : Nat → Int32) (fiZ : Nat → Int64) (fuZ : Nat → Int64) (foZ : Nat → Nat) (fqZ : Nat → Int32) (fxZ : Nat → Nat) (fyZ : Nat → Nat) (cfZ : Nat → Nat) (LZ : List Nat) (fZ : Nat → va_E) (caZ : Nat → Nat) (aaZ : Nat → Nat) (oaZ : Nat → Nat), NN B tZ nZ kZ chZ fpZ fsZ frZ ffZ faZ fzZ fiZ fuZ foZ fqZ fxZ fyZ fbZ cfZ ∧ BI bfZ fbZ tZ ∧ CI LZ fZ cJ nZ caZ aaZ fpZ fsZ frZ ffZ faZ fzZ fiZ fuZ ∧ OI LZ fZ kZ nZ oaZ caZ foZ fqZ fxZ fyZ ∧ UL cO em LZ fZ em1Z nZ caZ ∧ UL cO em LZ fZ em2Z kZ oaZ ∧ (em1Z ∈ LZ → em2Z ∈ LZ → em1Z ≠ em2Z) ∧ va_P D vwCl (([(x, .inr (5, [.ref pr, .ref mk, .ref os, .long chZ, .long gdZ])), (pr, .inr (3, [.ref bd, .int (nI tZ)])), (bd, .inl (cI, 6003, .inl bfZ)), (mk, .inr (0, [.int mmZ, .ref em1Z, .int (nI nZ)])), (os, .inr (0, [.int omZ, .ref em2Z, .int (nI kZ)])), (cc, .inl (cI, 30, .inl (nIf cfZ)))] : va_W) ++ va_pl LZ fZ) t9.heap ∧ va_K D vwCl [(cI, .int), (cJ, .long), (cO, .object "java/lang/Object")] t9 ∧ va_D (va_A (([(x, .inr (5, [.ref pr, .ref mk, .ref os, .long ch, .long gd])), (pr, .inr (3, [.ref bd, .int (nI t)])), (bd, .inl (cI, 6003, .inl bf)), (mk, .inr (0, [.int mm, .ref em1, .int (nI n)])), (os, .inr (0, [.int om, .ref em2, .int (nI k)])), (cc, .inl (cI, 30, .inl (nIf cf)))] : va_W) ++ va_pl L f) sz) (([(x, .inr (5, [.ref pr, .ref mk, .ref os, .long chZ, .long gdZ])), (pr, .inr (3, [.ref bd, .int (nI tZ)])), (bd, .inl (cI, 6003, .inl bfZ)), (mk, .inr (0, [.int mmZ, .ref em1Z, .int (nI nZ)])), (os, .inr (0, [.int omZ, .ref em2Z, .int (nI kZ)])), (cc, .inl (cI, 30, .inl (nIf cfZ)))] : va_W) ++ va_pl LZ fZ)) (va_A (([(x, .inr (5, [.ref pr, .ref mk, .ref os, .long ch, .long gd])), (pr, .inr (3, [.ref bd, .int (nI t)])), (bd, .inl (cI, 6003, .inl bf)), (mk, .inr (0, [.int mm, .ref em1, .int (nI n)])), (os, .inr (0, [.int om, .ref em2, .int (nI k)])), (cc, .inl (cI, 30, .inl (nIf cf)))] : va_W) ++ va_pl L f) sz)) 0 0 (va_A (([(x, .inr (5, [.ref pr, .ref mk, .ref os, .long ch, .long gd])), (pr, .inr (3, [.ref bd, .int (nI t)])), (bd, .inl (cI, 6003, .inl bf)), (mk, .inr (0, [.int mm, .ref em1, .int (nI n)])), (os, .inr (0, [.int om, .ref em2, .int (nI k)])), (cc, .inl (cI, 30, .inl (nIf cf)))] : va_W) ++ va_pl L f) sz) := by
  refine zmq (cc := cL_backdates) (maxL := 15) (ret := (some .boolean)) (by decide) rfl (Nat.le_of_ble_eq_true rfl) ?_
  intro p e s m below meth c ls A hAe hsz hin hx hb hml hr hlocks hown hts hP hK hG hD hA hS hX hl
  subst hsz
  rw [← hAe] at hX
  have hHS := hX
  have hl : lv_has ls 15 [(0, .ref x), (1, .ref cc), (2, .int (nI kc)), (3, .int (nI dd))] := hl
  have k_0 := hts (.constantLong RL 68 (1000)) (List.mem_of_getElem? (i := 1) rfl)
  have k_1 := hts (.constantLong RL 77 (1000000000000)) (List.mem_of_getElem? (i := 2) rfl)
  obtain ⟨nB, nT, nN, nK, nOk, nFF, nFZ, nFA, nZR, nOO, nFS, nFR, nNC, nCH, c0, c1, c2, c3, c4, c5⟩ := id hNN
  have hffk := nFF kc hkc
  have hfa9 := nFA kc
  have hprm : prm (fp kc) := CC.prm ⟨c0, c1, c2, c3, c4, c5⟩ kc hkc
  have hob : okp (bf (dd * 3 + ff kc)) := by rw [hbi dd _ hd hffk]; exact nOk dd _ hd hffk
  have hot : okp (bf (t * 3 + ff kc)) := by rw [hbi t _ (Nat.le_refl _) hffk]; exact nOk t _ (Nat.le_refl _) hffk
  refine lv_aload_n hx hb dL_backdates_0 rfl (lv_at hl 1 rfl) ?_
  refine lv_bipush (v := nI 12) hx hb dL_backdates_1 (by decide) ?_
  refine lv_iload_n hx hb dL_backdates_3 rfl (lv_at hl 2 rfl) ?_
  refine zx_iadd (v := nI (12 + kc)) hx hb dL_backdates_4 (nI_add _ _) ?_
  refine zx_iald (D := D) hx hb hK hP 5 0 rfl rfl (v := nI (ff kc)) ((congrArg nI (c4 kc hkc).2.2.2)) (by omega) (by first | decide | omega) dL_backdates_5 ?_
  refine lv_istore (lv' := [(4, .int (nI (ff kc))), (0, .ref x), (1, .ref cc), (2, .int (nI kc)), (3, .int (nI dd))]) hx hb dL_backdates_6 hl (by decide) rfl (fun ls hl => ?_)
  refine lv_aload_n hx hb dL_backdates_8 rfl (lv_at hl 1 rfl) ?_
  refine lv_iload_n hx hb dL_backdates_9 rfl (lv_at hl 3 rfl) ?_
  refine lv_iload hx hb dL_backdates_10 (lv_at hl 0 rfl) ?_
  have hPs : va_P D vwCl (([(x, .inr (5, [.ref pr, .ref mk, .ref os, .long ch, .long gd])), (pr, .inr (3, [.ref bd, .int (nI t)])), (bd, .inl (cI, 6003, .inl bf)), (mk, .inr (0, [.int mm, .ref em1, .int (nI n)])), (os, .inr (0, [.int om, .ref em2, .int (nI k)]))] : va_W) ++ va_pl L f) _ := lp_Pl (va_P.swap (show va_P D vwCl ((([(x, .inr (5, [.ref pr, .ref mk, .ref os, .long ch, .long gd])), (pr, .inr (3, [.ref bd, .int (nI t)])), (bd, .inl (cI, 6003, .inl bf)), (mk, .inr (0, [.int mm, .ref em1, .int (nI n)])), (os, .inr (0, [.int om, .ref em2, .int (nI k)]))] : va_W) ++ ([(cc, .inl (cI, 30, .inl (nIf cf)))] : va_W)) ++ va_pl L f) _ from hP))
  refine vp_callSl (W.runV (As := [.int (nI kc), .int (nI (ff kc))]) (rest := []) ⟨hx, hb, hml, hown, hts⟩ (p_units l D x pr mk os ch gd bd t cI bf mm em1 n om em2 k L f cJ cO ca aa fp fs fr ff fa fz fi fu em kc (ff kc) (by first | omega | assumption) (by first | omega | assumption) (by first | omega | assumption) hffk) (cwV 2 hts gL_backdates_X5_units rfl rfl rfl (by decide +kernel) ⟨Nat.le_of_ble_eq_true rfl, Nat.le_of_ble_eq_true rfl⟩) (z1_V (va_recv hK hPs (ci := 5) (q0 := 0) rfl rfl) hPs (hK.sub (tys' := [(cI, .int), (cJ, .long), (cO, .object "java/lang/Object")]) [0, 1, 2] rfl) hG) rfl rfl hl.1 rfl (lv_room (Nat.le_of_ble_eq_true rfl)) dL_backdates_12 ⟨Nat.le_of_ble_eq_true rfl, Nat.le_of_ble_eq_true rfl⟩) (fun r_1 e_r_1 => ?_)
  replace e_r_1 := e_r_1.symm; subst e_r_1
  refine lv_lstore (lv' := [(5, .long (fu (3 * kc + (ff kc)))), (4, .int (nI (ff kc))), (0, .ref x), (1, .ref cc), (2, .int (nI kc)), (3, .int (nI dd))]) hx hb dL_backdates_15 hl (by decide) rfl (fun ls hl => ?_)
  refine lv_aload_n hx hb dL_backdates_17 rfl (lv_at hl 2 rfl) ?_
  refine vp_callSl (W.runV (As := []) (rest := []) ⟨hx, hb, hml, hown, hts⟩ (m_X5_madeGood_ok l D x pr mk os ch gd) (cwV 0 hts gL_backdates_X5_madeGood rfl rfl rfl (by decide +kernel) ⟨Nat.le_of_ble_eq_true rfl, Nat.le_of_ble_eq_true rfl⟩) (z1_V (va_recv hK hP (ci := 5) (q0 := 0) rfl rfl) (hP.sub (ws' := [(x, .inr (5, [.ref pr, .ref mk, .ref os, .long ch, .long gd]))]) [0] rfl) (hK.sub (tys' := []) [] rfl) hG) rfl rfl hl.1 rfl (lv_room (Nat.le_of_ble_eq_true rfl)) dL_backdates_18 ⟨Nat.le_of_ble_eq_true rfl, Nat.le_of_ble_eq_true rfl⟩) (fun r_2 e_r_2 => ?_)
  replace e_r_2 := e_r_2.symm; subst e_r_2
  refine lv_lstore (lv' := [(7, .long gd), (5, .long (fu (3 * kc + (ff kc)))), (4, .int (nI (ff kc))), (0, .ref x), (1, .ref cc), (2, .int (nI kc)), (3, .int (nI dd))]) hx hb dL_backdates_21 hl (by decide) rfl (fun ls hl => ?_)
  refine lv_aload_n hx hb dL_backdates_23 rfl (lv_at hl 3 rfl) ?_
  refine lv_iload_n hx hb dL_backdates_24 rfl (lv_at hl 5 rfl) ?_
  have hPs : va_P D vwCl (([(x, .inr (5, [.ref pr, .ref mk, .ref os, .long ch, .long gd])), (pr, .inr (3, [.ref bd, .int (nI t)])), (bd, .inl (cI, 6003, .inl bf)), (mk, .inr (0, [.int mm, .ref em1, .int (nI n)])), (os, .inr (0, [.int om, .ref em2, .int (nI k)]))] : va_W) ++ va_pl L f) _ := lp_Pl (va_P.swap (show va_P D vwCl ((([(x, .inr (5, [.ref pr, .ref mk, .ref os, .long ch, .long gd])), (pr, .inr (3, [.ref bd, .int (nI t)])), (bd, .inl (cI, 6003, .inl bf)), (mk, .inr (0, [.int mm, .ref em1, .int (nI n)])), (os, .inr (0, [.int om, .ref em2, .int (nI k)]))] : va_W) ++ ([(cc, .inl (cI, 30, .inl (nIf cf)))] : va_W)) ++ va_pl L f) _ from hP))
  refine vp_callSl (W.runV (As := [.int (nI kc)]) (rest := []) ⟨hx, hb, hml, hown, hts⟩ (p_initial l D x pr mk os ch gd bd t cI bf mm em1 n om em2 k L f cJ cO ca aa fp fs fr ff fa fz fi fu em kc (by first | omega | assumption) (by first | omega | assumption) (by first | omega | assumption)) (cwV 1 hts gL_backdates_X5_initial rfl rfl rfl (by decide +kernel) ⟨Nat.le_of_ble_eq_true rfl, Nat.le_of_ble_eq_true rfl⟩) (z1_V (va_recv hK hPs (ci := 5) (q0 := 0) rfl rfl) hPs (hK.sub (tys' := [(cI, .int), (cJ, .long), (cO, .object "java/lang/Object")]) [0, 1, 2] rfl) hG) rfl rfl hl.1 rfl (lv_room (Nat.le_of_ble_eq_true rfl)) dL_backdates_25 ⟨Nat.le_of_ble_eq_true rfl, Nat.le_of_ble_eq_true rfl⟩) (fun r_3 e_r_3 => ?_)
  replace e_r_3 := e_r_3.symm; subst e_r_3
  refine lv_lstore (lv' := [(9, .long (fi kc)), (7, .long gd), (5, .long (fu (3 * kc + (ff kc)))), (4, .int (nI (ff kc))), (0, .ref x), (1, .ref cc), (2, .int (nI kc)), (3, .int (nI dd))]) hx hb dL_backdates_28 hl (by decide) rfl (fun ls hl => ?_)
  refine lv_ldc2 (v := 1000) hx hb hown k_0 dL_backdates_30 ?_
  refine lv_aload_n hx hb dL_backdates_33 rfl (lv_at hl 5 rfl) ?_
  refine lv_bipush (v := nI 6) hx hb dL_backdates_34 (by decide) ?_
  refine lv_iload_n hx hb dL_backdates_36 rfl (lv_at hl 6 rfl) ?_
  refine zx_iadd (v := nI (6 + kc)) hx hb dL_backdates_37 (nI_add _ _) ?_
  refine zx_iald (D := D) hx hb hK hP 5 0 rfl rfl (v := nI (cf (6 + kc))) (rfl) (by omega) (by first | decide | omega) dL_backdates_38 ?_
  refine lv_i2l (v := (nI (cf (6 + kc))).toInt64) hx hb dL_backdates_39 (rfl) ?_
  refine zx_lmul (v := 1000 * ((nI (cf (6 + kc))).toInt64)) hx hb dL_backdates_40 (rfl) ?_
  refine lv_aload_n hx hb dL_backdates_41 rfl (lv_at hl 4 rfl) ?_
  refine lv_iload hx hb dL_backdates_42 (lv_at hl 3 rfl) ?_
  refine lv_iload_n hx hb dL_backdates_44 rfl (lv_at hl 7 rfl) ?_
  refine vp_callSi (W.runV (As := [.int (nI (ff kc)), .int (nI dd)]) (rest := [.long (1000 * ((nI (cf (6 + kc))).toInt64))]) ⟨hx, hb, hml, hown, hts⟩ (m_X5_offer_ok l D x pr mk os ch gd bd t cI bf (ff kc) dd hffk (by first | omega | assumption) (by first | omega | assumption)) (cwV 2 hts gL_backdates_X5_offer rfl rfl rfl (by decide +kernel) ⟨Nat.le_of_ble_eq_true rfl, Nat.le_of_ble_eq_true rfl⟩) (z1_V (va_recv hK hP (ci := 5) (q0 := 0) rfl rfl) (hP.sub (ws' := [(x, .inr (5, [.ref pr, .ref mk, .ref os, .long ch, .long gd])), (pr, .inr (3, [.ref bd, .int (nI t)])), (bd, .inl (cI, 6003, .inl bf))]) [0, 1, 2] rfl) (hK.sub (tys' := [(cI, .int)]) [0] rfl) hG) rfl rfl hl.1 rfl (lv_room (Nat.le_of_ble_eq_true rfl)) dL_backdates_45 ⟨Nat.le_of_ble_eq_true rfl, Nat.le_of_ble_eq_true rfl⟩) (fun r_4 e_r_4 => ?_)
  replace e_r_4 := e_r_4.symm; subst e_r_4
  refine lv_i2l (v := (k_off (bf (dd * 3 + (ff kc)))).toInt64) hx hb dL_backdates_48 (rfl) ?_
  refine zx_ldiv (v := (k_prem (fp kc) (bf (dd * 3 + ff kc)))) hx hb dL_backdates_49 (k_ne (okp_o1 hob)) (due_eq (c4 kc hkc).2.2.1 hob) ?_
  refine lv_lstore (lv' := [(11, .long (k_prem (fp kc) (bf (dd * 3 + ff kc)))), (9, .long (fi kc)), (7, .long gd), (5, .long (fu (3 * kc + (ff kc)))), (4, .int (nI (ff kc))), (0, .ref x), (1, .ref cc), (2, .int (nI kc)), (3, .int (nI dd))]) hx hb dL_backdates_50 hl (by decide) rfl (fun ls hl => ?_)
  refine lv_lload hx hb dL_backdates_52 (lv_at hl 0 rfl) ?_
  refine lv_aload_n hx hb dL_backdates_54 rfl (lv_at hl 5 rfl) ?_
  refine lv_iload hx hb dL_backdates_55 (lv_at hl 4 rfl) ?_
  refine lv_aload_n hx hb dL_backdates_57 rfl (lv_at hl 6 rfl) ?_
  refine lv_iconst (v := nI 0) hx hb dL_backdates_58 (by decide) ?_
  refine zx_iald (D := D) hx hb hK hP 5 0 rfl rfl (v := nI t) ((congrArg nI c0)) (by decide) (by first | decide | omega) dL_backdates_59 ?_
  refine vp_callSi (W.runV (As := [.int (nI (ff kc)), .int (nI t)]) (rest := [.long (k_prem (fp kc) (bf (dd * 3 + ff kc)))]) ⟨hx, hb, hml, hown, hts⟩ (m_X5_offer_ok l D x pr mk os ch gd bd t cI bf (ff kc) t hffk (by first | omega | assumption) (by first | omega | assumption)) (cwV 2 hts gL_backdates_X5_offer rfl rfl rfl (by decide +kernel) ⟨Nat.le_of_ble_eq_true rfl, Nat.le_of_ble_eq_true rfl⟩) (z1_V (va_recv hK hP (ci := 5) (q0 := 0) rfl rfl) (hP.sub (ws' := [(x, .inr (5, [.ref pr, .ref mk, .ref os, .long ch, .long gd])), (pr, .inr (3, [.ref bd, .int (nI t)])), (bd, .inl (cI, 6003, .inl bf))]) [0, 1, 2] rfl) (hK.sub (tys' := [(cI, .int)]) [0] rfl) hG) rfl rfl hl.1 rfl (lv_room (Nat.le_of_ble_eq_true rfl)) dL_backdates_60 ⟨Nat.le_of_ble_eq_true rfl, Nat.le_of_ble_eq_true rfl⟩) (fun r_5 e_r_5 => ?_)
  replace e_r_5 := e_r_5.symm; subst e_r_5
  refine lv_i2l (v := (k_off (bf (t * 3 + (ff kc)))).toInt64) hx hb dL_backdates_63 (rfl) ?_
  refine zx_lmul (v := (k_prem (fp kc) (bf (dd * 3 + ff kc))) * ((k_off (bf (t * 3 + (ff kc)))).toInt64)) hx hb dL_backdates_64 (rfl) ?_
  refine lv_ldc2 (v := 1000) hx hb hown k_0 dL_backdates_65 ?_
  refine zx_ldiv (v := (k_mon (k_prem (fp kc) (bf (dd * 3 + ff kc))) (k_off (bf (t * 3 + ff kc))).toInt64)) hx hb dL_backdates_68 (by decide) (rfl) ?_
  refine lv_aload_n hx hb dL_backdates_69 rfl (lv_at hl 6 rfl) ?_
  refine lv_bipush (v := nI 6) hx hb dL_backdates_70 (by decide) ?_
  refine lv_iload_n hx hb dL_backdates_72 rfl (lv_at hl 7 rfl) ?_
  refine zx_iadd (v := nI (6 + kc)) hx hb dL_backdates_73 (nI_add _ _) ?_
  refine zx_iald (D := D) hx hb hK hP 5 0 rfl rfl (v := nI (cf (6 + kc))) (rfl) (by omega) (by first | decide | omega) dL_backdates_74 ?_
  refine lv_i2l (v := (nI (cf (6 + kc))).toInt64) hx hb dL_backdates_75 (rfl) ?_
  refine zx_lsub (v := (k_mon (k_prem (fp kc) (bf (dd * 3 + ff kc))) (k_off (bf (t * 3 + ff kc))).toInt64 - (fp kc).toInt64)) hx hb dL_backdates_76 (by rw [(c4 kc hkc).2.2.1]) ?_
  refine lv_lstore (lv' := [(13, .long (k_mon (k_prem (fp kc) (bf (dd * 3 + ff kc))) (k_off (bf (t * 3 + ff kc))).toInt64 - (fp kc).toInt64)), (11, .long (k_prem (fp kc) (bf (dd * 3 + ff kc)))), (9, .long (fi kc)), (7, .long gd), (5, .long (fu (3 * kc + (ff kc)))), (4, .int (nI (ff kc))), (0, .ref x), (1, .ref cc), (2, .int (nI kc)), (3, .int (nI dd))]) hx hb dL_backdates_77 hl (by decide) rfl (fun ls hl => ?_)
  refine lv_aload_n hx hb dL_backdates_79 rfl (lv_at hl 6 rfl) ?_
  refine lv_iload_n hx hb dL_backdates_80 rfl (lv_at hl 8 rfl) ?_
  refine lv_iload_n hx hb dL_backdates_81 rfl (lv_at hl 9 rfl) ?_
  have hP : va_P D vwCl ((([(x, .inr (5, [.ref pr, .ref mk, .ref os, .long ch, .long gd])), (pr, .inr (3, [.ref bd, .int (nI t)])), (bd, .inl (cI, 6003, .inl bf)), (mk, .inr (0, [.int mm, .ref em1, .int (nI n)])), (os, .inr (0, [.int om, .ref em2, .int (nI k)]))] : va_W) ++ ([(cc, .inl (cI, 30, .inl (nIf cf)))] : va_W)) ++ va_pl L f) _ := hP
  have hD : va_D A ((([(x, .inr (5, [.ref pr, .ref mk, .ref os, .long ch, .long gd])), (pr, .inr (3, [.ref bd, .int (nI t)])), (bd, .inl (cI, 6003, .inl bf)), (mk, .inr (0, [.int mm, .ref em1, .int (nI n)])), (os, .inr (0, [.int om, .ref em2, .int (nI k)]))] : va_W) ++ ([(cc, .inl (cI, 30, .inl (nIf cf)))] : va_W)) ++ va_pl L f) := hD
  have hP := hP.swap
  have hD := hD.swap
  have hPc : va_P D vwCl (([(x, .inr (5, [.ref pr, .ref mk, .ref os, .long ch, .long gd])), (pr, .inr (3, [.ref bd, .int (nI t)])), (bd, .inl (cI, 6003, .inl bf)), (mk, .inr (0, [.int mm, .ref em1, .int (nI n)])), (os, .inr (0, [.int om, .ref em2, .int (nI k)]))] : va_W) ++ va_pl L f) _ := lp_Pl hP
  have hDc : va_D A (([(x, .inr (5, [.ref pr, .ref mk, .ref os, .long ch, .long gd])), (pr, .inr (3, [.ref bd, .int (nI t)])), (bd, .inl (cI, 6003, .inl bf)), (mk, .inr (0, [.int mm, .ref em1, .int (nI n)])), (os, .inr (0, [.int om, .ref em2, .int (nI k)]))] : va_W) ++ va_pl L f) := lp_Dl hD
  have hF_9 := lp_F2 hD hS hA
  refine va_calli (va_runV (As := [.int (nI kc), .int (nI dd)]) (rest := []) ⟨hx, hb, hml, hown, hts⟩ (p_backdate l D x pr mk os ch gd bd t cI bf mm em1 n om em2 k L f cJ cO ca aa fp fs fr ff fa fz fi fu em oa fo fq fx fy fb kc dd (by first | omega | assumption) (by first | omega | assumption) (by first | omega | assumption) (by first | omega | assumption) nFF (by first | omega | assumption) (by first | omega | assumption) (by first | omega | assumption) (by first | omega | assumption) (by first | omega | assumption) _) (cwV 2 hts gL_backdates_X5_backdate rfl rfl rfl (by decide +kernel) ⟨Nat.le_of_ble_eq_true rfl, Nat.le_of_ble_eq_true rfl⟩) (zq_V XM.hs (va_recv hK hPc (ci := 5) (q0 := 0) rfl rfl) hPc (hK.sub (tys' := [(cI, .int), (cJ, .long), (cO, .object "java/lang/Object")]) [0, 1, 2] rfl) hDc hG (hHS.go hS (lp_F2 hD hS hA))) rfl rfl hl.1 rfl (lv_room (Nat.le_of_ble_eq_true rfl)) dL_backdates_82 ⟨Nat.le_of_ble_eq_true rfl, Nat.le_of_ble_eq_true rfl⟩) hS (fun q _ h => hF_9 q h) hF_9 (fun ra_8 u9 t1 H locs ht1 hvm hw hB hz1 hk1 hS => ?_)
  obtain ⟨L2__6, g__7, hp_10, hp_11, hp_12, hp_13, hp_14, hP1, hK1, hD1⟩ := hB
  rw [ht1] at hP1
  obtain ⟨hP, hD⟩ := lp_front (w1 := (([(x, .inr (5, [.ref pr, .ref mk, .ref os, .long ch, .long (gd + k_good (k_prem (fp kc) (bf (dd * 3 + ff kc))) (fp kc) (bf (t * 3 + ff kc)))])), (pr, .inr (3, [.ref bd, .int (nI t)])), (bd, .inl (cI, 6003, .inl bf)), (mk, .inr (0, [.int mm, .ref em1, .int (nI n)])), (os, .inr (0, [.int om, .ref em2, .int (nI k)]))] : va_W) ++ va_pl L2__6 g__7)) (R9 := [(cc, .inl (cI, 30, .inl (nIf cf)))]) hP hD hF_9 hk1 hP1 hD1
  have hP := hP.swap
  have hD := hD.swap
  have hP : va_P D vwCl (([(x, .inr (5, [.ref pr, .ref mk, .ref os, .long ch, .long (gd + k_good (k_prem (fp kc) (bf (dd * 3 + ff kc))) (fp kc) (bf (t * 3 + ff kc)))])), (pr, .inr (3, [.ref bd, .int (nI t)])), (bd, .inl (cI, 6003, .inl bf)), (mk, .inr (0, [.int mm, .ref em1, .int (nI n)])), (os, .inr (0, [.int om, .ref em2, .int (nI k)])), (cc, .inl (cI, 30, .inl (nIf cf)))] : va_W) ++ va_pl L2__6 g__7) H := hP
  have hD : va_D A (([(x, .inr (5, [.ref pr, .ref mk, .ref os, .long ch, .long (gd + k_good (k_prem (fp kc) (bf (dd * 3 + ff kc))) (fp kc) (bf (t * 3 + ff kc)))])), (pr, .inr (3, [.ref bd, .int (nI t)])), (bd, .inl (cI, 6003, .inl bf)), (mk, .inr (0, [.int mm, .ref em1, .int (nI n)])), (os, .inr (0, [.int om, .ref em2, .int (nI k)])), (cc, .inl (cI, 30, .inl (nIf cf)))] : va_W) ++ va_pl L2__6 g__7) := hD
  subst hw
  refine lv_i2l (v := (k_prem (fp kc) (bf (dd * 3 + ff kc)))) hx hb dL_backdates_85 (due_int hprm hob) ?_
  refine lv_lload hx hb dL_backdates_86 (lv_at hl 1 rfl) ?_
  refine zx_lcmp_ne (tgt := 193) hx hb dL_backdates_88 dL_backdates_89 (by decide) (fun h9 => absurd rfl h9) (fun _ => ?_)
  refine lv_aload_n hx hb dL_backdates_92 rfl (lv_at hl 6 rfl) ?_
  refine lv_iload_n hx hb dL_backdates_93 rfl (lv_at hl 8 rfl) ?_
  refine lv_iload hx hb dL_backdates_94 (lv_at hl 5 rfl) ?_
  have hPs : va_P D vwCl (([(x, .inr (5, [.ref pr, .ref mk, .ref os, .long ch, .long (gd + k_good (k_prem (fp kc) (bf (dd * 3 + ff kc))) (fp kc) (bf (t * 3 + ff kc)))])), (pr, .inr (3, [.ref bd, .int (nI t)])), (bd, .inl (cI, 6003, .inl bf)), (mk, .inr (0, [.int mm, .ref em1, .int (nI n)])), (os, .inr (0, [.int om, .ref em2, .int (nI k)]))] : va_W) ++ va_pl L2__6 g__7) _ := lp_Pl (va_P.swap (show va_P D vwCl ((([(x, .inr (5, [.ref pr, .ref mk, .ref os, .long ch, .long (gd + k_good (k_prem (fp kc) (bf (dd * 3 + ff kc))) (fp kc) (bf (t * 3 + ff kc)))])), (pr, .inr (3, [.ref bd, .int (nI t)])), (bd, .inl (cI, 6003, .inl bf)), (mk, .inr (0, [.int mm, .ref em1, .int (nI n)])), (os, .inr (0, [.int om, .ref em2, .int (nI k)]))] : va_W) ++ ([(cc, .inl (cI, 30, .inl (nIf cf)))] : va_W)) ++ va_pl L2__6 g__7) _ from hP))
  refine vp_callSl (W.runV (As := [.int (nI kc), .int (nI (ff kc))]) (rest := []) ⟨hx, hb, hml, hown, hts⟩ (p_units l D x pr mk os ch (gd + k_good (k_prem (fp kc) (bf (dd * 3 + ff kc))) (fp kc) (bf (t * 3 + ff kc))) bd t cI bf mm em1 n om em2 k L2__6 g__7 cJ cO ca aa fp fs fr ff fa fz fi (vp_updL fu (3 * kc + ff kc) (k_add (fu (3 * kc + ff kc)) (k_prem (fp kc) (bf (dd * 3 + ff kc))))) em kc (ff kc) (by first | omega | assumption) (by first | omega | assumption) (by first | omega | assumption) hffk) (cwV 2 hts gL_backdates_X5_units rfl rfl rfl (by decide +kernel) ⟨Nat.le_of_ble_eq_true rfl, Nat.le_of_ble_eq_true rfl⟩) (z1_V (va_recv hK hPs (ci := 5) (q0 := 0) rfl rfl) hPs (hK.sub (tys' := [(cI, .int), (cJ, .long), (cO, .object "java/lang/Object")]) [0, 1, 2] rfl) hG) rfl rfl hl.1 rfl (lv_room (Nat.le_of_ble_eq_true rfl)) dL_backdates_96 ⟨Nat.le_of_ble_eq_true rfl, Nat.le_of_ble_eq_true rfl⟩) (fun r_15 e_r_15 => ?_)
  replace e_r_15 := e_r_15.symm; subst e_r_15
  refine lv_lload hx hb dL_backdates_99 (lv_at hl 4 rfl) ?_
  refine lv_lload hx hb dL_backdates_101 (lv_at hl 1 rfl) ?_
  refine zx_ladd (v := (fu (3 * kc + (ff kc))) + (k_prem (fp kc) (bf (dd * 3 + ff kc)))) hx hb dL_backdates_103 (rfl) ?_
  refine lv_ldc2 (v := 1000000000000) hx hb hown k_1 dL_backdates_104 ?_
  refine zj (T := Int64) (fr := fun z => F0 m 122 ls (.long z :: [.long ((vp_updL fu (3 * kc + ff kc) (k_add (fu (3 * kc + ff kc)) (k_prem (fp kc) (bf (dd * 3 + ff kc))))) (3 * kc + (ff kc)))])) (if 1000000000000 ≤ ((fu (3 * kc + (ff kc))) + (k_prem (fp kc) (bf (dd * 3 + ff kc)))) then 1000000000000 else (fu (3 * kc + (ff kc))) + (k_prem (fp kc) (bf (dd * 3 + ff kc)))) (fun z_16 e_z_16 => ?_) (fun j_z_16 => ?_)
  · skip
    have j9 : z_16 = k_add (fu (3 * kc + ff kc)) (k_prem (fp kc) (bf (dd * 3 + ff kc))) := by rw [e_z_16]; exact due_add
    subst j9
    refine zx_lcmp_ne (tgt := 193) hx hb dL_backdates_122 dL_backdates_123 (by decide) (fun h9 => absurd updL_same h9) (fun _ => ?_)
    refine lv_aload_n hx hb dL_backdates_126 rfl (lv_at hl 6 rfl) ?_
    refine vp_callSl (W.runV (As := []) (rest := []) ⟨hx, hb, hml, hown, hts⟩ (m_X5_madeGood_ok l D x pr mk os ch (gd + k_good (k_prem (fp kc) (bf (dd * 3 + ff kc))) (fp kc) (bf (t * 3 + ff kc)))) (cwV 0 hts gL_backdates_X5_madeGood rfl rfl rfl (by decide +kernel) ⟨Nat.le_of_ble_eq_true rfl, Nat.le_of_ble_eq_true rfl⟩) (z1_V (va_recv hK hP (ci := 5) (q0 := 0) rfl rfl) (hP.sub (ws' := [(x, .inr (5, [.ref pr, .ref mk, .ref os, .long ch, .long (gd + k_good (k_prem (fp kc) (bf (dd * 3 + ff kc))) (fp kc) (bf (t * 3 + ff kc)))]))]) [0] rfl) (hK.sub (tys' := []) [] rfl) hG) rfl rfl hl.1 rfl (lv_room (Nat.le_of_ble_eq_true rfl)) dL_backdates_127 ⟨Nat.le_of_ble_eq_true rfl, Nat.le_of_ble_eq_true rfl⟩) (fun r_17 e_r_17 => ?_)
    replace e_r_17 := e_r_17.symm; subst e_r_17
    refine lv_lload hx hb dL_backdates_130 (lv_at hl 3 rfl) ?_
    refine lv_lload hx hb dL_backdates_132 (lv_at hl 0 rfl) ?_
    refine lv_lconst (v := 0) hx hb dL_backdates_134 (by decide) ?_
    refine zj (T := Int64) (fr := fun z => F0 m 145 ls (.long z :: [.long gd, .long (gd + k_good (k_prem (fp kc) (bf (dd * 3 + ff kc))) (fp kc) (bf (t * 3 + ff kc)))])) (if (k_mon (k_prem (fp kc) (bf (dd * 3 + ff kc))) (k_off (bf (t * 3 + ff kc))).toInt64 - (fp kc).toInt64) ≤ 0 then 0 else (k_mon (k_prem (fp kc) (bf (dd * 3 + ff kc))) (k_off (bf (t * 3 + ff kc))).toInt64 - (fp kc).toInt64)) (fun z_18 e_z_18 => ?_) (fun j_z_18 => ?_)
    · skip
      have j9 : z_18 = k_good (k_prem (fp kc) (bf (dd * 3 + ff kc))) (fp kc) (bf (t * 3 + ff kc)) := by rw [e_z_18]; rfl
      subst j9
      refine zx_ladd (v := gd + (k_good (k_prem (fp kc) (bf (dd * 3 + ff kc))) (fp kc) (bf (t * 3 + ff kc)))) hx hb dL_backdates_145 (rfl) ?_
      refine zx_lcmp_ne (tgt := 193) hx hb dL_backdates_146 dL_backdates_147 (by decide) (fun h9 => absurd rfl h9) (fun _ => ?_)
      refine lv_aload_n hx hb dL_backdates_150 rfl (lv_at hl 6 rfl) ?_
      refine lv_iload_n hx hb dL_backdates_151 rfl (lv_at hl 8 rfl) ?_
      have hPs : va_P D vwCl (([(x, .inr (5, [.ref pr, .ref mk, .ref os, .long ch, .long (gd + k_good (k_prem (fp kc) (bf (dd * 3 + ff kc))) (fp kc) (bf (t * 3 + ff kc)))])), (pr, .inr (3, [.ref bd, .int (nI t)])), (bd, .inl (cI, 6003, .inl bf)), (mk, .inr (0, [.int mm, .ref em1, .int (nI n)])), (os, .inr (0, [.int om, .ref em2, .int (nI k)]))] : va_W) ++ va_pl L2__6 g__7) _ := lp_Pl (va_P.swap (show va_P D vwCl ((([(x, .inr (5, [.ref pr, .ref mk, .ref os, .long ch, .long (gd + k_good (k_prem (fp kc) (bf (dd * 3 + ff kc))) (fp kc) (bf (t * 3 + ff kc)))])), (pr, .inr (3, [.ref bd, .int (nI t)])), (bd, .inl (cI, 6003, .inl bf)), (mk, .inr (0, [.int mm, .ref em1, .int (nI n)])), (os, .inr (0, [.int om, .ref em2, .int (nI k)]))] : va_W) ++ ([(cc, .inl (cI, 30, .inl (nIf cf)))] : va_W)) ++ va_pl L2__6 g__7) _ from hP))
      refine vp_callSl (W.runV (As := [.int (nI kc)]) (rest := []) ⟨hx, hb, hml, hown, hts⟩ (p_initial l D x pr mk os ch (gd + k_good (k_prem (fp kc) (bf (dd * 3 + ff kc))) (fp kc) (bf (t * 3 + ff kc))) bd t cI bf mm em1 n om em2 k L2__6 g__7 cJ cO ca aa fp fs fr ff fa fz fi (vp_updL fu (3 * kc + ff kc) (k_add (fu (3 * kc + ff kc)) (k_prem (fp kc) (bf (dd * 3 + ff kc))))) em kc (by first | omega | assumption) (by first | omega | assumption) (by first | omega | assumption)) (cwV 1 hts gL_backdates_X5_initial rfl rfl rfl (by decide +kernel) ⟨Nat.le_of_ble_eq_true rfl, Nat.le_of_ble_eq_true rfl⟩) (z1_V (va_recv hK hPs (ci := 5) (q0 := 0) rfl rfl) hPs (hK.sub (tys' := [(cI, .int), (cJ, .long), (cO, .object "java/lang/Object")]) [0, 1, 2] rfl) hG) rfl rfl hl.1 rfl (lv_room (Nat.le_of_ble_eq_true rfl)) dL_backdates_152 ⟨Nat.le_of_ble_eq_true rfl, Nat.le_of_ble_eq_true rfl⟩) (fun r_19 e_r_19 => ?_)
      replace e_r_19 := e_r_19.symm; subst e_r_19
      refine lv_lload hx hb dL_backdates_155 (lv_at hl 2 rfl) ?_
      refine zx_lcmp_ne (tgt := 193) hx hb dL_backdates_157 dL_backdates_158 (by decide) (fun h9 => absurd rfl h9) (fun _ => ?_)
      refine lv_aload_n hx hb dL_backdates_161 rfl (lv_at hl 6 rfl) ?_
      refine lv_iload_n hx hb dL_backdates_162 rfl (lv_at hl 8 rfl) ?_
      have hPs : va_P D vwCl (([(x, .inr (5, [.ref pr, .ref mk, .ref os, .long ch, .long (gd + k_good (k_prem (fp kc) (bf (dd * 3 + ff kc))) (fp kc) (bf (t * 3 + ff kc)))])), (pr, .inr (3, [.ref bd, .int (nI t)])), (bd, .inl (cI, 6003, .inl bf)), (mk, .inr (0, [.int mm, .ref em1, .int (nI n)])), (os, .inr (0, [.int om, .ref em2, .int (nI k)]))] : va_W) ++ va_pl L2__6 g__7) _ := lp_Pl (va_P.swap (show va_P D vwCl ((([(x, .inr (5, [.ref pr, .ref mk, .ref os, .long ch, .long (gd + k_good (k_prem (fp kc) (bf (dd * 3 + ff kc))) (fp kc) (bf (t * 3 + ff kc)))])), (pr, .inr (3, [.ref bd, .int (nI t)])), (bd, .inl (cI, 6003, .inl bf)), (mk, .inr (0, [.int mm, .ref em1, .int (nI n)])), (os, .inr (0, [.int om, .ref em2, .int (nI k)]))] : va_W) ++ ([(cc, .inl (cI, 30, .inl (nIf cf)))] : va_W)) ++ va_pl L2__6 g__7) _ from hP))
      refine vp_callSi (W.runV (As := [.int (nI kc)]) (rest := []) ⟨hx, hb, hml, hown, hts⟩ (p_paid l D x pr mk os ch (gd + k_good (k_prem (fp kc) (bf (dd * 3 + ff kc))) (fp kc) (bf (t * 3 + ff kc))) bd t cI bf mm em1 n om em2 k L2__6 g__7 cJ cO ca aa fp fs fr ff fa fz fi (vp_updL fu (3 * kc + ff kc) (k_add (fu (3 * kc + ff kc)) (k_prem (fp kc) (bf (dd * 3 + ff kc))))) em kc (by first | omega | assumption) (by first | omega | assumption) (by first | omega | assumption)) (cwV 1 hts gL_backdates_X5_paid rfl rfl rfl (by decide +kernel) ⟨Nat.le_of_ble_eq_true rfl, Nat.le_of_ble_eq_true rfl⟩) (z1_V (va_recv hK hPs (ci := 5) (q0 := 0) rfl rfl) hPs (hK.sub (tys' := [(cI, .int), (cJ, .long), (cO, .object "java/lang/Object")]) [0, 1, 2] rfl) hG) rfl rfl hl.1 rfl (lv_room (Nat.le_of_ble_eq_true rfl)) dL_backdates_163 ⟨Nat.le_of_ble_eq_true rfl, Nat.le_of_ble_eq_true rfl⟩) (fun r_20 e_r_20 => ?_)
      replace e_r_20 := e_r_20.symm; subst e_r_20
      refine lv_aload_n hx hb dL_backdates_166 rfl (lv_at hl 7 rfl) ?_
      refine lv_bipush (v := nI 18) hx hb dL_backdates_167 (by decide) ?_
      refine lv_iload_n hx hb dL_backdates_169 rfl (lv_at hl 8 rfl) ?_
      refine zx_iadd (v := nI (18 + kc)) hx hb dL_backdates_170 (nI_add _ _) ?_
      refine zx_iald (D := D) hx hb hK hP 5 0 rfl rfl (v := nI (fa kc)) ((congrArg nI (c5 kc (by omega)).1)) (by omega) (by first | decide | omega) dL_backdates_171 ?_
      refine lv_icmp_ne (tgt := 193) hx hb dL_backdates_172 (by decide) (fun h9 => absurd ((nI_eq (a := fa kc) (b := fa kc) (by omega) (by omega)).mpr (by omega)) h9) (fun _ => ?_)
      refine lv_iload_n hx hb dL_backdates_175 rfl (lv_at hl 9 rfl) ?_
      refine lv_aload_n hx hb dL_backdates_176 rfl (lv_at hl 7 rfl) ?_
      refine lv_iconst (v := nI 0) hx hb dL_backdates_177 (by decide) ?_
      refine zx_iald (D := D) hx hb hK hP 5 0 rfl rfl (v := nI t) ((congrArg nI c0)) (by decide) (by first | decide | omega) dL_backdates_178 ?_
      refine lv_icmp_lt (tgt := 189) hx hb dL_backdates_179 (by decide) (fun c_179 => ?_) (fun c_179 => ?_)
      · skip
        have n_179 : dd < t := (nI_ltI (a := dd) (b := t) (by omega) (by omega)).mp c_179
        refine lv_iconst (v := nI 1) hx hb dL_backdates_189 (by decide) ?_
        refine lv_goto (tgt := 194) hx hb dL_backdates_190 (by decide) ?_
        subst hAe
        exact zretBz hx hb hr hlocks (fun t9 ht hv => ⟨ch, (gd + k_good (k_prem (fp kc) (bf (dd * 3 + ff kc))) (fp kc) (bf (t * 3 + ff kc))), t, bf, mm, em1, n, om, em2, k, fb, fp, fs, fr, ff, fa, fz, fi, (vp_updL fu (3 * kc + ff kc) (k_add (fu (3 * kc + ff kc)) (k_prem (fp kc) (bf (dd * 3 + ff kc))))), fo, fq, fx, fy, cf, L2__6, g__7, ca, aa, oa, NN_back hNN hbi hkc hal hd, hbi, hp_10, hp_11, hp_12, hp_13, hp_14, by rw [ht]; exact hP, va_K.moved hv (hK.sub [0, 1, 2] rfl), hD⟩) hS dL_backdates_194 (Nat.le_of_ble_eq_true rfl) (Nat.le_of_ble_eq_true rfl) rfl (rfl)
      · skip
        have n_179 : ¬ dd < t := fun h8 => c_179 ((nI_ltI (a := dd) (b := t) (by omega) (by omega)).mpr h8)
        have e9 : dd = t := by omega
        have r3 : ¬ 0 < (k_mon (k_prem (fp kc) (bf (dd * 3 + ff kc))) (k_off (bf (t * 3 + ff kc))).toInt64 - (fp kc).toInt64) := by rw [e9]; exact due_now hprm hot
        refine lv_lload hx hb dL_backdates_182 (lv_at hl 0 rfl) ?_
        refine lv_lconst (v := 0) hx hb dL_backdates_184 (by decide) ?_
        refine zx_lcmp_gt (tgt := 193) hx hb dL_backdates_185 dL_backdates_186 (by decide) (fun h9 => absurd h9 r3) (fun _ => ?_)
        refine lv_iconst (v := nI 1) hx hb dL_backdates_189 (by decide) ?_
        refine lv_goto (tgt := 194) hx hb dL_backdates_190 (by decide) ?_
        subst hAe
        exact zretBz hx hb hr hlocks (fun t9 ht hv => ⟨ch, (gd + k_good (k_prem (fp kc) (bf (dd * 3 + ff kc))) (fp kc) (bf (t * 3 + ff kc))), t, bf, mm, em1, n, om, em2, k, fb, fp, fs, fr, ff, fa, fz, fi, (vp_updL fu (3 * kc + ff kc) (k_add (fu (3 * kc + ff kc)) (k_prem (fp kc) (bf (dd * 3 + ff kc))))), fo, fq, fx, fy, cf, L2__6, g__7, ca, aa, oa, NN_back hNN hbi hkc hal hd, hbi, hp_10, hp_11, hp_12, hp_13, hp_14, by rw [ht]; exact hP, va_K.moved hv (hK.sub [0, 1, 2] rfl), hD⟩) hS dL_backdates_194 (Nat.le_of_ble_eq_true rfl) (Nat.le_of_ble_eq_true rfl) rfl (rfl)
    · refine zx_lcmp_le (tgt := 144) hx hb dL_backdates_135 dL_backdates_136 (by decide) (fun c_135 => ?_) (fun c_135 => ?_)
      · skip
        refine lv_lconst (v := 0) hx hb dL_backdates_144 (by decide) ?_
        exact j_z_18 _ (by rw [if_pos c_135])
      · skip
        refine lv_lload hx hb dL_backdates_139 (lv_at hl 0 rfl) ?_
        refine lv_goto (tgt := 145) hx hb dL_backdates_141 (by decide) ?_
        exact j_z_18 _ (by rw [if_neg c_135])
  · refine zx_lcmp_ge (tgt := 119) hx hb dL_backdates_107 dL_backdates_108 (by decide) (fun c_107 => ?_) (fun c_107 => ?_)
    · skip
      refine lv_ldc2 (v := 1000000000000) hx hb hown k_1 dL_backdates_119 ?_
      exact j_z_16 _ (by rw [if_pos c_107])
    · skip
      refine lv_lload hx hb dL_backdates_111 (lv_at hl 4 rfl) ?_
      refine lv_lload hx hb dL_backdates_113 (lv_at hl 1 rfl) ?_
      refine zx_ladd (v := (fu (3 * kc + (ff kc))) + (k_prem (fp kc) (bf (dd * 3 + ff kc)))) hx hb dL_backdates_115 (rfl) ?_
      refine lv_goto (tgt := 122) hx hb dL_backdates_116 (by decide) ?_
      exact j_z_16 _ (by rw [if_neg c_107])
