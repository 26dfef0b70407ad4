/-! THE LAW'S passes -/
set_option maxHeartbeats 4000000 in
set_option maxRecDepth 100000 in
/-- the law's passes -/
theorem m_L_passes (l : Launch) (D : va_G) (x pr mk os : Nat) (ch gd : Int64) (bd t : Nat) (cI : ClassId) (bf : Nat → Int32) (mm : Int32) (em1 n : Nat) (om : Int32) (em2 k : Nat) (L : List Nat) (f : Nat → va_E) (cJ : ClassId) (cO : ClassId) (ca aa : Nat → Nat) (fp fs fr : Nat → Int32) (ff fa : Nat → Nat) (fz : Nat → Int32) (fi fu : Nat → Int64) (em : Nat) (oa fo : Nat → Nat) (fq : Nat → Int32) (fx fy : Nat → Nat) (fb : Nat → Int32) (cc : Nat) (cf : Nat → Nat) (B : Nat) (dd : Nat) (hNN : NN B t n k ch fp fs fr ff fa fz fi fu fo fq fx fy fb cf) (hbi : BI bf fb t) (hCI : CI L f cJ n ca aa fp fs fr ff fa fz fi fu) (hOI : OI L f k n oa ca fo fq fx fy) (hU1 : UL cO em L f em1 n ca) (hU2 : UL cO em L f em2 k oa) (hneL : em1 ∈ L → em2 ∈ L → em1 ≠ em2) (hd1 : 1 ≤ dd) (hd2 : dd ≤ 400) (hlt : t + dd ≤ 2000) (sz : Nat)  : Met l yL_passes wsL_passes ({ frames := 8, cells := 0, slots := 0, locals := 185 }) (zq D (([(x, .inr (5, [.ref pr, .ref mk, .ref os, .long ch, .long gd])), (pr, .inr (3, [.ref bd, .int (nI t)])), (bd, .inl (cI, 6003, .inl bf)), (mk, .inr (0, [.int mm, .ref em1, .int (nI n)])), (os, .inr (0, [.int om, .ref em2, .int (nI k)])), (cc, .inl (cI, 30, .inl (nIf cf)))] : va_W) ++ va_pl L f) [(cI, .int), (cJ, .long), (cO, .object "java/lang/Object")] sz [.ref x, .ref cc, .int (nI dd)] (fun U H => True)) (va_Qi (fun (r : Int32) (_ : Unit) => r = nI 1) (fun _ t9 => ∃ (chZ : Int64) (gdZ : Int64) (tZ : Nat) (bfZ : Nat → Int32) (mmZ : Int32) (em1Z : Nat) (nZ : Nat) (omZ : Int32) (em2Z : Nat) (kZ : Nat) (fbZ : Nat → Int32) (fpZ : Nat → Int32) (fsZ : Nat → Int32) (frZ : Nat → Int32) (ffZ : Nat → Nat) (faZ : Nat → Nat) (fzZ : Nat → Int32) (fiZ : Nat → Int64) (fuZ : Nat → Int64) (foZ : Nat → Nat) (fqZ : Nat → Int32) (fxZ : Nat → Nat) (fyZ : Nat → Nat) (cfZ : Nat → Nat) (LZ : List Nat) (fZ : Nat → va_E) (caZ : Nat → Nat) (aaZ : Nat → Nat) (oaZ : Nat → Nat), NN B tZ nZ kZ chZ fpZ fsZ frZ ffZ faZ fzZ fiZ fuZ foZ fqZ fxZ fyZ fbZ cfZ ∧ BI bfZ fbZ tZ ∧ CI LZ fZ cJ nZ caZ aaZ fpZ fsZ frZ ffZ faZ fzZ fiZ fuZ ∧ OI LZ fZ kZ nZ oaZ caZ foZ fqZ fxZ fyZ ∧ UL cO em LZ fZ em1Z nZ caZ ∧ UL cO em LZ fZ em2Z kZ oaZ ∧ (em1Z ∈ LZ → em2Z ∈ LZ → em1Z ≠ em2Z) ∧ va_P D vwCl (([(x, .inr (5, [.ref pr, .ref mk, .ref os, .long chZ, .long gdZ])), (pr, .inr (3, [.ref bd, .int (nI tZ)])), (bd, .inl (cI, 6003, .inl bfZ)), (mk, .inr (0, [.int mmZ, .ref em1Z, .int (nI nZ)])), (os, .inr (0, [.int omZ, .ref em2Z, .int (nI kZ)])), (cc, .inl (cI, 30, .inl (nIf cfZ)))] : va_W) ++ va_pl LZ fZ) t9.heap ∧ va_K D vwCl [(cI, .int), (cJ, .long), (cO, .object "java/lang/Object")] t9 ∧ va_D (va_A (([(x, .inr (5, [.ref pr, .ref mk, .ref os, .long ch, .long gd])), (pr, .inr (3, [.ref bd, .int (nI t)])), (bd, .inl (cI, 6003, .inl bf)), (mk, .inr (0, [.int mm, .ref em1, .int (nI n)])), (os, .inr (0, [.int om, .ref em2, .int (nI k)])), (cc, .inl (cI, 30, .inl (nIf cf)))] : va_W) ++ va_pl L f) sz) (([(x, .inr (5, [.ref pr, .ref mk, .ref os, .long chZ, .long gdZ])), (pr, .inr (3, [.ref bd, .int (nI tZ)])), (bd, .inl (cI, 6003, .inl bfZ)), (mk, .inr (0, [.int mmZ, .ref em1Z, .int (nI nZ)])), (os, .inr (0, [.int omZ, .ref em2Z, .int (nI kZ)])), (cc, .inl (cI, 30, .inl (nIf cfZ)))] : va_W) ++ va_pl LZ fZ)) (va_A (([(x, .inr (5, [.ref pr, .ref mk, .ref os, .long ch, .long gd])), (pr, .inr (3, [.ref bd, .int (nI t)])), (bd, .inl (cI, 6003, .inl bf)), (mk, .inr (0, [.int mm, .ref em1, .int (nI n)])), (os, .inr (0, [.int om, .ref em2, .int (nI k)])), (cc, .inl (cI, 30, .inl (nIf cf)))] : va_W) ++ va_pl L f) sz)) 0 0 (va_A (([(x, .inr (5, [.ref pr, .ref mk, .ref os, .long ch, .long gd])), (pr, .inr (3, [.ref bd, .int (nI t)])), (bd, .inl (cI, 6003, .inl bf)), (mk, .inr (0, [.int mm, .ref em1, .int (nI n)])), (os, .inr (0, [.int om, .ref em2, .int (nI k)])), (cc, .inl (cI, 30, .inl (nIf cf)))] : va_W) ++ va_pl L f) sz) := by
  refine zmq (cc := cL_passes) (maxL := 10) (ret := (some .boolean)) (by decide) rfl (Nat.le_of_ble_eq_true rfl) ?_
  intro p e s m below meth c ls A hAe hsz hin hx hb hml hr hlocks hown hts hP hK hG hD hA hS hX hl
  subst hsz
  skip
  have hl : lv_has ls 10 [(0, .ref x), (1, .ref cc), (2, .int (nI dd))] := hl
  generalize hQ : MQ below _ _ _ _ _ _ = Q
  obtain ⟨nB, nT, nN, nK, nOk, nFF, nFZ, nFA, nZR, nOO, nFS, nFR, nNC, nCH, c0, c1, c2, c3, c4, c5⟩ := id hNN
  refine lv_aload_n hx hb dL_passes_0 rfl (lv_at hl 0 rfl) ?_
  refine vp_callSl (W.runV (As := []) (rest := []) ⟨hx, hb, hml, hown, hts⟩ (m_X5_charged_ok l D x pr mk os ch gd) (cwV 0 hts gL_passes_X5_charged rfl rfl rfl (by decide +kernel) ⟨Nat.le_of_ble_eq_true rfl, Nat.le_of_ble_eq_true rfl⟩) (z1_V (va_recv hK hP (ci := 5) (q0 := 0) rfl rfl) (hP.sub (ws' := [(x, .inr (5, [.ref pr, .ref mk, .ref os, .long ch, .long gd]))]) [0] rfl) (hK.sub (tys' := []) [] rfl) hG) rfl rfl hl.1 rfl (lv_room (Nat.le_of_ble_eq_true rfl)) dL_passes_1 ⟨Nat.le_of_ble_eq_true rfl, Nat.le_of_ble_eq_true rfl⟩) (fun r_1 e_r_1 => ?_)
  replace e_r_1 := e_r_1.symm; subst e_r_1
  refine lv_lstore_n (lv' := [(3, .long ch), (0, .ref x), (1, .ref cc), (2, .int (nI dd))]) hx hb dL_passes_4 rfl hl (by decide) rfl (fun ls hl => ?_)
  refine lv_aload_n hx hb dL_passes_5 rfl (lv_at hl 1 rfl) ?_
  refine vp_callSl (W.runV (As := []) (rest := []) ⟨hx, hb, hml, hown, hts⟩ (m_X5_madeGood_ok l D x pr mk os ch gd) (cwV 0 hts gL_passes_X5_madeGood rfl rfl rfl (by decide +kernel) ⟨Nat.le_of_ble_eq_true rfl, Nat.le_of_ble_eq_true rfl⟩) (z1_V (va_recv hK hP (ci := 5) (q0 := 0) rfl rfl) (hP.sub (ws' := [(x, .inr (5, [.ref pr, .ref mk, .ref os, .long ch, .long gd]))]) [0] rfl) (hK.sub (tys' := []) [] rfl) hG) rfl rfl hl.1 rfl (lv_room (Nat.le_of_ble_eq_true rfl)) dL_passes_6 ⟨Nat.le_of_ble_eq_true rfl, Nat.le_of_ble_eq_true rfl⟩) (fun r_2 e_r_2 => ?_)
  replace e_r_2 := e_r_2.symm; subst e_r_2
  refine lv_lstore (lv' := [(5, .long gd), (3, .long ch), (0, .ref x), (1, .ref cc), (2, .int (nI dd))]) hx hb dL_passes_9 hl (by decide) rfl (fun ls hl => ?_)
  refine lv_aload_n hx hb dL_passes_11 rfl (lv_at hl 3 rfl) ?_
  refine lv_iconst (v := nI 0) hx hb dL_passes_12 (by decide) ?_
  refine zx_iald (D := D) hx hb hK hP 5 0 rfl rfl (v := nI t) ((congrArg nI c0)) (by decide) (by first | decide | omega) dL_passes_13 ?_
  refine lv_iload_n hx hb dL_passes_14 rfl (lv_at hl 4 rfl) ?_
  refine zx_iadd (v := nI (t + dd)) hx hb dL_passes_15 (nI_add _ _) ?_
  refine lv_bipush (v := nI 30) hx hb dL_passes_16 (by decide) ?_
  refine zx_idiv (v := nI ((t + dd) / 30)) hx hb dL_passes_18 (by decide) (pk_div (by omega) (by omega) (by omega)) ?_
  refine lv_aload_n hx hb dL_passes_19 rfl (lv_at hl 3 rfl) ?_
  refine lv_iconst (v := nI 0) hx hb dL_passes_20 (by decide) ?_
  refine zx_iald (D := D) hx hb hK hP 5 0 rfl rfl (v := nI t) ((congrArg nI c0)) (by decide) (by first | decide | omega) dL_passes_21 ?_
  refine lv_bipush (v := nI 30) hx hb dL_passes_22 (by decide) ?_
  refine zx_idiv (v := nI (t / 30)) hx hb dL_passes_24 (by decide) (pk_div (by omega) (by omega) (by omega)) ?_
  refine zx_isub (v := nI (((t + dd) / 30) - (t / 30))) hx hb dL_passes_25 (pk_sub (by omega)) ?_
  refine lv_istore (lv' := [(7, .int (nI (((t + dd) / 30) - (t / 30)))), (5, .long gd), (3, .long ch), (0, .ref x), (1, .ref cc), (2, .int (nI dd))]) hx hb dL_passes_26 hl (by decide) rfl (fun ls hl => ?_)
  refine lv_aload_n hx hb dL_passes_28 rfl (lv_at hl 3 rfl) ?_
  refine lv_iload_n hx hb dL_passes_29 rfl (lv_at hl 5 rfl) ?_
  have hP : va_P D vwCl ((([(x, .inr (5, [.ref pr, .ref mk, .ref os, .long ch, .long gd])), (pr, .inr (3, [.ref bd, .int (nI t)])), (bd, .inl (cI, 6003, .inl bf)), (mk, .inr (0, [.int mm, .ref em1, .int (nI n)])), (os, .inr (0, [.int om, .ref em2, .int (nI k)]))] : va_W) ++ ([(cc, .inl (cI, 30, .inl (nIf cf)))] : va_W)) ++ va_pl L f) _ := hP
  have hD : va_D A ((([(x, .inr (5, [.ref pr, .ref mk, .ref os, .long ch, .long gd])), (pr, .inr (3, [.ref bd, .int (nI t)])), (bd, .inl (cI, 6003, .inl bf)), (mk, .inr (0, [.int mm, .ref em1, .int (nI n)])), (os, .inr (0, [.int om, .ref em2, .int (nI k)]))] : va_W) ++ ([(cc, .inl (cI, 30, .inl (nIf cf)))] : va_W)) ++ va_pl L f) := hD
  have hP := hP.swap
  have hD := hD.swap
  have hPc : va_P D vwCl (([(x, .inr (5, [.ref pr, .ref mk, .ref os, .long ch, .long gd])), (pr, .inr (3, [.ref bd, .int (nI t)])), (bd, .inl (cI, 6003, .inl bf)), (mk, .inr (0, [.int mm, .ref em1, .int (nI n)])), (os, .inr (0, [.int om, .ref em2, .int (nI k)]))] : va_W) ++ va_pl L f) _ := lp_Pl hP
  have hDc : va_D A (([(x, .inr (5, [.ref pr, .ref mk, .ref os, .long ch, .long gd])), (pr, .inr (3, [.ref bd, .int (nI t)])), (bd, .inl (cI, 6003, .inl bf)), (mk, .inr (0, [.int mm, .ref em1, .int (nI n)])), (os, .inr (0, [.int om, .ref em2, .int (nI k)]))] : va_W) ++ va_pl L f) := lp_Dl hD
  have hF_16 := lp_F2 hD hS hA
  refine va_calli (va_runV (As := [.int (nI dd)]) (rest := []) ⟨hx, hb, hml, hown, hts⟩ (p_pass l D x pr mk os ch gd bd t cI bf mm em1 n om em2 k L f cJ cO ca aa fp fs fr ff fa fz fi fu oa fo fq fx fy fb em dd hd1 hd2 hlt (by omega) (by omega) hbi (fun q hq => nOk t q (Nat.le_refl _) hq) nFF (fun j hj => (nOO j hj).2.1) (fun j hj => (nOO j hj).2.2.1) nFZ (fun j hj => by have := nFA j; omega) hU1 hU2 hneL hCI hOI _) (cwV 1 hts gL_passes_X5_pass rfl rfl rfl (by decide +kernel) ⟨Nat.le_of_ble_eq_true rfl, Nat.le_of_ble_eq_true rfl⟩) (zq_V XM.t (va_recv hK hPc (ci := 5) (q0 := 0) rfl rfl) hPc (hK.sub (tys' := [(cI, .int), (cJ, .long), (cO, .object "java/lang/Object")]) [0, 1, 2] rfl) hDc hG trivial) rfl rfl hl.1 rfl (lv_room (Nat.le_of_ble_eq_true rfl)) dL_passes_30 ⟨Nat.le_of_ble_eq_true rfl, Nat.le_of_ble_eq_true rfl⟩) hS (fun q _ h => hF_16 q h) hF_16 (fun ra_15 u9 t1 H locs ht1 hvm hw hB hz1 hk1 hS => ?_)
  obtain ⟨g__3, bg__4, og__5, t2__6, k2__7, fb2__8, fi2__9, fu2__10, fa2__11, fz2__12, ch2__13, ct2__14, hp_17, hp_18, hp_19, hp_20, hp_21, hP1, hK1, hD1⟩ := hB
  rw [ht1] at hP1
  obtain ⟨hP, hD⟩ := lp_front (w1 := (([(x, .inr (5, [.ref pr, .ref mk, .ref os, .long ch2__13, .long gd])), (pr, .inr (3, [.ref bd, .int (nI t2__6)])), (bd, .inl (cI, 6003, .inl bg__4)), (mk, .inr (0, [.int mm, .ref em1, .int (nI n)])), (os, .inr (0, [.int og__5, .ref em2, .int (nI k2__7)]))] : va_W) ++ va_pl L g__3)) (R9 := [(cc, .inl (cI, 30, .inl (nIf cf)))]) hP hD hF_16 hk1 hP1 hD1
  have hP := hP.swap
  have hD := hD.swap
  have hP : va_P D vwCl (([(x, .inr (5, [.ref pr, .ref mk, .ref os, .long ch2__13, .long gd])), (pr, .inr (3, [.ref bd, .int (nI t2__6)])), (bd, .inl (cI, 6003, .inl bg__4)), (mk, .inr (0, [.int mm, .ref em1, .int (nI n)])), (os, .inr (0, [.int og__5, .ref em2, .int (nI k2__7)])), (cc, .inl (cI, 30, .inl (nIf cf)))] : va_W) ++ va_pl L g__3) H := hP
  have hD : va_D A (([(x, .inr (5, [.ref pr, .ref mk, .ref os, .long ch2__13, .long gd])), (pr, .inr (3, [.ref bd, .int (nI t2__6)])), (bd, .inl (cI, 6003, .inl bg__4)), (mk, .inr (0, [.int mm, .ref em1, .int (nI n)])), (os, .inr (0, [.int og__5, .ref em2, .int (nI k2__7)])), (cc, .inl (cI, 30, .inl (nIf cf)))] : va_W) ++ va_pl L g__3) := hD
  subst hw
  have q0 : ((p_it n fp fs fr ff fo fq fx fy (t, k, fb, fi, fu, fa, fz, ch, 0) dd).2.2.2.2.2.2.2.2) = ct2__14 := by rw [← hp_17]
  rw [q0]
  obtain ⟨q1, q2, q3, q4, q5⟩ := NN_pass2 hNN hd1 hlt hp_17
  have hx9 := hp_17
  subst q1
  subst q2
  have hP : va_P D vwCl (([(x, .inr (5, [.ref pr, .ref mk, .ref os, .long ch2__13, .long gd])), (pr, .inr (3, [.ref bd, .int (nI (t + dd))])), (bd, .inl (cI, 6003, .inl bg__4)), (mk, .inr (0, [.int mm, .ref em1, .int (nI n)])), (os, .inr (0, [.int og__5, .ref em2, .int (nI 0)])), (cc, .inl (cI, 30, .inl (nIf cf)))] : va_W) ++ va_pl L g__3) H := hP
  have hD : va_D A (([(x, .inr (5, [.ref pr, .ref mk, .ref os, .long ch2__13, .long gd])), (pr, .inr (3, [.ref bd, .int (nI (t + dd))])), (bd, .inl (cI, 6003, .inl bg__4)), (mk, .inr (0, [.int mm, .ref em1, .int (nI n)])), (os, .inr (0, [.int og__5, .ref em2, .int (nI 0)])), (cc, .inl (cI, 30, .inl (nIf cf)))] : va_W) ++ va_pl L g__3) := hD
  have c34 := c3 1 (by decide)
  have b1 : k_off (bg__4 ((t + dd) * 3 + 1)) = nI (cf (3 + 1) * 105 / 100) := by rw [hp_18 (t + dd) 1 (Nat.le_refl _) (by decide), q5 1 (by decide)]; exact k_offN c34.2.1
  refine lv_istore (lv' := [(8, .int (nI ct2__14)), (7, .int (nI (((t + dd) / 30) - (t / 30)))), (5, .long gd), (3, .long ch), (0, .ref x), (1, .ref cc), (2, .int (nI dd))]) hx hb dL_passes_33 hl (by decide) rfl (fun ls hl => ?_)
  refine lv_aload_n hx hb dL_passes_35 rfl (lv_at hl 5 rfl) ?_
  refine lv_iconst (v := nI 0) hx hb dL_passes_36 (by decide) ?_
  refine lv_dup2_11 hx hb dL_passes_37 rfl rfl ?_
  refine zx_iald (D := D) hx hb hK hP 5 0 rfl rfl (v := nI t) ((congrArg nI c0)) (by decide) (by first | decide | omega) dL_passes_38 ?_
  refine lv_iload_n hx hb dL_passes_39 rfl (lv_at hl 6 rfl) ?_
  refine zx_iadd (v := nI (t + dd)) hx hb dL_passes_40 (nI_add _ _) ?_
  refine zx_nast (D := D) hx hb hK hP hD hS 5 0 rfl rfl (by decide) (by decide) dL_passes_41 (fun H locs hP hD hS => ?_)
  have hP : va_P D vwCl (([(x, .inr (5, [.ref pr, .ref mk, .ref os, .long ch2__13, .long gd])), (pr, .inr (3, [.ref bd, .int (nI (t + dd))])), (bd, .inl (cI, 6003, .inl bg__4)), (mk, .inr (0, [.int mm, .ref em1, .int (nI n)])), (os, .inr (0, [.int og__5, .ref em2, .int (nI 0)])), (cc, .inl (cI, 30, .inl (nIf (va_up cf 0 (t + dd)))))] : va_W) ++ va_pl L g__3) H := hP
  have hD : va_D A (([(x, .inr (5, [.ref pr, .ref mk, .ref os, .long ch2__13, .long gd])), (pr, .inr (3, [.ref bd, .int (nI (t + dd))])), (bd, .inl (cI, 6003, .inl bg__4)), (mk, .inr (0, [.int mm, .ref em1, .int (nI n)])), (os, .inr (0, [.int og__5, .ref em2, .int (nI 0)])), (cc, .inl (cI, 30, .inl (nIf (va_up cf 0 (t + dd)))))] : va_W) ++ va_pl L g__3) := hD
  refine lv_aload_n hx hb dL_passes_42 rfl (lv_at hl 5 rfl) ?_
  refine lv_iconst (v := nI 2) hx hb dL_passes_43 (by decide) ?_
  refine lv_iconst (v := nI 0) hx hb dL_passes_44 (by decide) ?_
  refine zx_nast (D := D) hx hb hK hP hD hS 5 0 rfl rfl (by decide) (by decide) dL_passes_45 (fun H locs hP hD hS => ?_)
  have hP : va_P D vwCl (([(x, .inr (5, [.ref pr, .ref mk, .ref os, .long ch2__13, .long gd])), (pr, .inr (3, [.ref bd, .int (nI (t + dd))])), (bd, .inl (cI, 6003, .inl bg__4)), (mk, .inr (0, [.int mm, .ref em1, .int (nI n)])), (os, .inr (0, [.int og__5, .ref em2, .int (nI 0)])), (cc, .inl (cI, 30, .inl (nIf (va_up (va_up cf 0 (t + dd)) 2 0))))] : va_W) ++ va_pl L g__3) H := hP
  have hD : va_D A (([(x, .inr (5, [.ref pr, .ref mk, .ref os, .long ch2__13, .long gd])), (pr, .inr (3, [.ref bd, .int (nI (t + dd))])), (bd, .inl (cI, 6003, .inl bg__4)), (mk, .inr (0, [.int mm, .ref em1, .int (nI n)])), (os, .inr (0, [.int og__5, .ref em2, .int (nI 0)])), (cc, .inl (cI, 30, .inl (nIf (va_up (va_up cf 0 (t + dd)) 2 0))))] : va_W) ++ va_pl L g__3) := hD
  obtain ⟨cb, hcb⟩ : ∃ q : Nat → Nat, q = (va_up (va_up cf 0 (t + dd)) 2 0) := ⟨_, rfl⟩
  rw [← hcb] at hP hD
  have cb0 : cb 0 = t + dd := (by rw [hcb]; (repeat (first | rw [up_same] | rw [up_ne (by omega)])))
  have cb2 : cb 2 = 0 := (by rw [hcb]; (repeat (first | rw [up_same] | rw [up_ne (by omega)])))
  have hP : va_P D vwCl (([(x, .inr (5, [.ref pr, .ref mk, .ref os, .long ch2__13, .long gd])), (pr, .inr (3, [.ref bd, .int (nI (t + dd))])), (bd, .inl (cI, 6003, .inl bg__4)), (mk, .inr (0, [.int mm, .ref em1, .int (nI n)])), (os, .inr (0, [.int og__5, .ref em2, .int (nI 0)])), (cc, .inl (cI, 30, .inl (nIf cb)))] : va_W) ++ va_pl L g__3) H := hP
  have hD : va_D A (([(x, .inr (5, [.ref pr, .ref mk, .ref os, .long ch2__13, .long gd])), (pr, .inr (3, [.ref bd, .int (nI (t + dd))])), (bd, .inl (cI, 6003, .inl bg__4)), (mk, .inr (0, [.int mm, .ref em1, .int (nI n)])), (os, .inr (0, [.int og__5, .ref em2, .int (nI 0)])), (cc, .inl (cI, 30, .inl (nIf cb)))] : va_W) ++ va_pl L g__3) := hD
  have cbr : ∀ z : Nat, z ≠ 0 → z ≠ 2 → cb z = cf z := fun z hz hz2 => (by rw [hcb]; (repeat (first | rw [up_same] | rw [up_ne (by omega)])))
  refine lv_iconst (v := nI 0) hx hb dL_passes_46 (by decide) ?_
  refine lv_istore (lv' := [(9, .int (nI 0)), (8, .int (nI ct2__14)), (7, .int (nI (((t + dd) / 30) - (t / 30)))), (5, .long gd), (3, .long ch), (0, .ref x), (1, .ref cc), (2, .int (nI dd))]) hx hb dL_passes_47 hl (by decide) rfl (fun ls hl => ?_)
  have loop_49 : ∀ (d i : Nat) (cg : Nat → Nat) (H : Heap) (locs : List Loc) (ls : Array Slot), i + d = n → (∀ z : Nat, cg z = cgv cb i z) → va_P D vwCl (([(x, .inr (5, [.ref pr, .ref mk, .ref os, .long ch2__13, .long gd])), (pr, .inr (3, [.ref bd, .int (nI (t + dd))])), (bd, .inl (cI, 6003, .inl bg__4)), (mk, .inr (0, [.int mm, .ref em1, .int (nI n)])), (os, .inr (0, [.int og__5, .ref em2, .int (nI 0)])), (cc, .inl (cI, 30, .inl (nIf cg)))] : va_W) ++ va_pl L g__3) H → va_D A (([(x, .inr (5, [.ref pr, .ref mk, .ref os, .long ch2__13, .long gd])), (pr, .inr (3, [.ref bd, .int (nI (t + dd))])), (bd, .inl (cI, 6003, .inl bg__4)), (mk, .inr (0, [.int mm, .ref em1, .int (nI n)])), (os, .inr (0, [.int og__5, .ref em2, .int (nI 0)])), (cc, .inl (cI, 30, .inl (nIf cg)))] : va_W) ++ va_pl L g__3) → va_S A s.heap H locs → lv_has ls 10 [(8, .int (nI ct2__14)), (7, .int (nI (((t + dd) / 30) - (t / 30)))), (5, .long gd), (3, .long ch), (0, .ref x), (1, .ref cc), (2, .int (nI dd)), (9, .int (nI i))] → W p l e ({ frames := 8, cells := 0, slots := 0, locals := 185 }) s m (([.ref x, .ref cc, .int (nI dd)] : List Value).toArray) below meth c H locs 0 0 Q (F0 m 49 ls []) := by
    intro d
    induction d with
    | zero =>
      intro i cg H locs ls hid hcg hP hD hS hl
      have e9 : n = i := by omega
      subst e9
      refine lv_iload hx hb dL_passes_49 (lv_at hl 7 rfl) ?_
      refine lv_aload_n hx hb dL_passes_51 rfl (lv_at hl 5 rfl) ?_
      refine lv_iconst (v := nI 1) hx hb dL_passes_52 (by decide) ?_
      refine zx_iald (D := D) hx hb hK hP 5 0 rfl rfl (v := nI n) ((congrArg nI ((cg_lo hcg (by omega)).trans ((cbr 1 (by decide) (by decide)).trans c1)))) (by decide) (by first | decide | omega) dL_passes_53 ?_
      refine lv_icmp_ge (tgt := 88) hx hb dL_passes_54 (by decide) (fun _ => ?_) (fun h9 => absurd ((nI_leI (a := n) (b := n) (by omega) (by omega)).mpr (by omega)) h9)
      refine lv_aload_n hx hb dL_passes_88 rfl (lv_at hl 4 rfl) ?_
      refine vp_callSi (W.runV (As := []) (rest := []) ⟨hx, hb, hml, hown, hts⟩ (m_X5_today_ok l D x pr mk os ch2__13 gd bd (t + dd)) (cwV 0 hts gL_passes_X5_today rfl rfl rfl (by decide +kernel) ⟨Nat.le_of_ble_eq_true rfl, Nat.le_of_ble_eq_true rfl⟩) (z1_V (va_recv hK hP (ci := 5) (q0 := 0) rfl rfl) (hP.sub (ws' := [(x, .inr (5, [.ref pr, .ref mk, .ref os, .long ch2__13, .long gd])), (pr, .inr (3, [.ref bd, .int (nI (t + dd))]))]) [0, 1] rfl) (hK.sub (tys' := []) [] rfl) hG) rfl rfl hl.1 rfl (lv_room (Nat.le_of_ble_eq_true rfl)) dL_passes_89 ⟨Nat.le_of_ble_eq_true rfl, Nat.le_of_ble_eq_true rfl⟩) (fun r_22 e_r_22 => ?_)
      replace e_r_22 := e_r_22.symm; subst e_r_22
      refine lv_aload_n hx hb dL_passes_92 rfl (lv_at hl 5 rfl) ?_
      refine lv_iconst (v := nI 0) hx hb dL_passes_93 (by decide) ?_
      refine zx_iald (D := D) hx hb hK hP 5 0 rfl rfl (v := nI (t + dd)) ((congrArg nI ((cg_lo hcg (by omega)).trans cb0))) (by decide) (by first | decide | omega) dL_passes_94 ?_
      refine lv_icmp_ne (tgt := 171) hx hb dL_passes_95 (by decide) (fun h9 => absurd ((nI_eq (a := t + dd) (b := t + dd) (by omega) (by omega)).mpr (by omega)) h9) (fun _ => ?_)
      refine lv_aload_n hx hb dL_passes_98 rfl (lv_at hl 4 rfl) ?_
      refine vp_callSi (W.runV (As := []) (rest := []) ⟨hx, hb, hml, hown, hts⟩ (m_X5_waiting_ok l D x pr mk os ch2__13 gd og__5 em2 0) (cwV 0 hts gL_passes_X5_waiting rfl rfl rfl (by decide +kernel) ⟨Nat.le_of_ble_eq_true rfl, Nat.le_of_ble_eq_true rfl⟩) (z1_V (va_recv hK hP (ci := 5) (q0 := 0) rfl rfl) (hP.sub (ws' := [(x, .inr (5, [.ref pr, .ref mk, .ref os, .long ch2__13, .long gd])), (os, .inr (0, [.int og__5, .ref em2, .int (nI 0)]))]) [0, 4] rfl) (hK.sub (tys' := []) [] rfl) hG) rfl rfl hl.1 rfl (lv_room (Nat.le_of_ble_eq_true rfl)) dL_passes_99 ⟨Nat.le_of_ble_eq_true rfl, Nat.le_of_ble_eq_true rfl⟩) (fun r_23 e_r_23 => ?_)
      replace e_r_23 := e_r_23.symm; subst e_r_23
      refine lv_if_ne (tgt := 171) hx hb dL_passes_102 (by decide) (fun h9 => absurd (by decide) h9) (fun _ => ?_)
      refine lv_iload hx hb dL_passes_105 (lv_at hl 0 rfl) ?_
      refine lv_if_lt (tgt := 171) hx hb dL_passes_107 (by decide) (fun h9 => absurd h9 (fun h8 => absurd ((nI_ltI (a := ct2__14) (b := 0) (by omega) (by omega)).mp h8) (by omega))) (fun _ => ?_)
      refine lv_iload hx hb dL_passes_110 (lv_at hl 0 rfl) ?_
      refine lv_aload_n hx hb dL_passes_112 rfl (lv_at hl 5 rfl) ?_
      refine lv_iconst (v := nI 1) hx hb dL_passes_113 (by decide) ?_
      refine zx_iald (D := D) hx hb hK hP 5 0 rfl rfl (v := nI n) ((congrArg nI ((cg_lo hcg (by omega)).trans ((cbr 1 (by decide) (by decide)).trans c1)))) (by decide) (by first | decide | omega) dL_passes_114 ?_
      refine lv_icmp_gt (tgt := 171) hx hb dL_passes_115 (by decide) (fun h9 => absurd h9 (fun h8 => absurd ((nI_ltI (a := n) (b := ct2__14) (by omega) (by omega)).mp h8) (by omega))) (fun _ => ?_)
      refine lv_iload hx hb dL_passes_118 (lv_at hl 1 rfl) ?_
      refine lv_if_gt (tgt := 137) hx hb dL_passes_120 (by decide) (fun c_120 => ?_) (fun c_120 => ?_)
      · skip
        have n_120 : 0 < ((t + dd) / 30) - (t / 30) := (nI_ltI (a := 0) (b := ((t + dd) / 30) - (t / 30)) (by omega) (by omega)).mp c_120
        refine lv_aload_n hx hb dL_passes_137 rfl (lv_at hl 4 rfl) ?_
        refine vp_callSl (W.runV (As := []) (rest := []) ⟨hx, hb, hml, hown, hts⟩ (m_X5_madeGood_ok l D x pr mk os ch2__13 gd) (cwV 0 hts gL_passes_X5_madeGood rfl rfl rfl (by decide +kernel) ⟨Nat.le_of_ble_eq_true rfl, Nat.le_of_ble_eq_true rfl⟩) (z1_V (va_recv hK hP (ci := 5) (q0 := 0) rfl rfl) (hP.sub (ws' := [(x, .inr (5, [.ref pr, .ref mk, .ref os, .long ch2__13, .long gd]))]) [0] rfl) (hK.sub (tys' := []) [] rfl) hG) rfl rfl hl.1 rfl (lv_room (Nat.le_of_ble_eq_true rfl)) dL_passes_138 ⟨Nat.le_of_ble_eq_true rfl, Nat.le_of_ble_eq_true rfl⟩) (fun r_24 e_r_24 => ?_)
        replace e_r_24 := e_r_24.symm; subst e_r_24
        refine lv_lload hx hb dL_passes_141 (lv_at hl 2 rfl) ?_
        refine zx_lcmp_ne (tgt := 171) hx hb dL_passes_143 dL_passes_144 (by decide) (fun h9 => absurd rfl h9) (fun _ => ?_)
        refine lv_aload_n hx hb dL_passes_147 rfl (lv_at hl 4 rfl) ?_
        refine lv_iconst (v := nI 1) hx hb dL_passes_148 (by decide) ?_
        refine lv_aload_n hx hb dL_passes_149 rfl (lv_at hl 5 rfl) ?_
        refine lv_iconst (v := nI 0) hx hb dL_passes_150 (by decide) ?_
        refine zx_iald (D := D) hx hb hK hP 5 0 rfl rfl (v := nI (t + dd)) ((congrArg nI ((cg_lo hcg (by omega)).trans cb0))) (by decide) (by first | decide | omega) dL_passes_151 ?_
        refine vp_callSi (W.runV (As := [.int (nI 1), .int (nI (t + dd))]) (rest := []) ⟨hx, hb, hml, hown, hts⟩ (m_X5_offer_ok l D x pr mk os ch2__13 gd bd (t + dd) cI bg__4 1 (t + dd) (by first | omega | assumption) (by first | omega | assumption) (by first | omega | assumption)) (cwV 2 hts gL_passes_X5_offer rfl rfl rfl (by decide +kernel) ⟨Nat.le_of_ble_eq_true rfl, Nat.le_of_ble_eq_true rfl⟩) (z1_V (va_recv hK hP (ci := 5) (q0 := 0) rfl rfl) (hP.sub (ws' := [(x, .inr (5, [.ref pr, .ref mk, .ref os, .long ch2__13, .long gd])), (pr, .inr (3, [.ref bd, .int (nI (t + dd))])), (bd, .inl (cI, 6003, .inl bg__4))]) [0, 1, 2] rfl) (hK.sub (tys' := [(cI, .int)]) [0] rfl) hG) rfl rfl hl.1 rfl (lv_room (Nat.le_of_ble_eq_true rfl)) dL_passes_152 ⟨Nat.le_of_ble_eq_true rfl, Nat.le_of_ble_eq_true rfl⟩) (fun r_25 e_r_25 => ?_)
        have e_r_25 : r_25 = nI (cf (3 + 1) * 105 / 100) := e_r_25.trans (b1)
        replace e_r_25 := e_r_25.symm; subst e_r_25
        refine lv_aload_n hx hb dL_passes_155 rfl (lv_at hl 5 rfl) ?_
        refine lv_iconst (v := nI 4) hx hb dL_passes_156 (by decide) ?_
        refine zx_iald (D := D) hx hb hK hP 5 0 rfl rfl (v := nI (cf (3 + 1))) ((congrArg nI ((cg_lo hcg (by omega)).trans (cbr 4 (by decide) (by decide))))) (by decide) (by first | decide | omega) dL_passes_157 ?_
        refine lv_bipush (v := nI 105) hx hb dL_passes_158 (by decide) ?_
        refine zx_imul (v := nI ((cf (3 + 1)) * 105)) hx hb dL_passes_160 (pk_mul _ _) ?_
        refine lv_bipush (v := nI 100) hx hb dL_passes_161 (by decide) ?_
        refine zx_idiv (v := nI (((cf (3 + 1)) * 105) / 100)) hx hb dL_passes_163 (by decide) (pk_div (by omega) (by omega) (by omega)) ?_
        refine lv_icmp_ne (tgt := 171) hx hb dL_passes_164 (by decide) (fun h9 => absurd ((nI_eq (a := cf (3 + 1) * 105 / 100) (b := ((cf (3 + 1)) * 105) / 100) (by omega) (by omega)).mpr (by omega)) h9) (fun _ => ?_)
        refine lv_iconst (v := nI 1) hx hb dL_passes_167 (by decide) ?_
        refine lv_goto (tgt := 172) hx hb dL_passes_168 (by decide) ?_
        subst hQ
        subst hAe
        exact zretBz hx hb hr hlocks (fun t9 ht hv => ⟨ch2__13, gd, (t + dd), bg__4, mm, em1, n, og__5, em2, 0, fb2__8, fp, fs, fr, ff, fa2__11, fz2__12, fi2__9, fu2__10, fo, fq, fx, fy, cg, L, g__3, ca, aa, oa, NN_pass hNN hd1 hlt hx9 cb0 cb2 cbr hcg, hp_18, hp_19, (fun j hj => absurd hj (Nat.not_lt_zero j)), hp_20, hp_21, hneL, by rw [ht]; exact hP, va_K.moved hv (hK.sub [0, 1, 2] rfl), hD⟩) hS dL_passes_172 (Nat.le_of_ble_eq_true rfl) (Nat.le_of_ble_eq_true rfl) rfl (rfl)
      · skip
        have n_120 : ¬ 0 < ((t + dd) / 30) - (t / 30) := fun h8 => c_120 ((nI_ltI (a := 0) (b := ((t + dd) / 30) - (t / 30)) (by omega) (by omega)).mpr h8)
        obtain ⟨r1, r2⟩ := q4 (by omega)
        refine lv_iload hx hb dL_passes_123 (lv_at hl 0 rfl) ?_
        refine lv_if_ne (tgt := 171) hx hb dL_passes_125 (by decide) (fun h9 => absurd ((nI_eq (a := ct2__14) (b := 0) (by omega) (by omega)).mpr (by omega)) h9) (fun _ => ?_)
        refine lv_aload_n hx hb dL_passes_128 rfl (lv_at hl 4 rfl) ?_
        refine vp_callSl (W.runV (As := []) (rest := []) ⟨hx, hb, hml, hown, hts⟩ (m_X5_charged_ok l D x pr mk os ch2__13 gd) (cwV 0 hts gL_passes_X5_charged rfl rfl rfl (by decide +kernel) ⟨Nat.le_of_ble_eq_true rfl, Nat.le_of_ble_eq_true rfl⟩) (z1_V (va_recv hK hP (ci := 5) (q0 := 0) rfl rfl) (hP.sub (ws' := [(x, .inr (5, [.ref pr, .ref mk, .ref os, .long ch2__13, .long gd]))]) [0] rfl) (hK.sub (tys' := []) [] rfl) hG) rfl rfl hl.1 rfl (lv_room (Nat.le_of_ble_eq_true rfl)) dL_passes_129 ⟨Nat.le_of_ble_eq_true rfl, Nat.le_of_ble_eq_true rfl⟩) (fun r_26 e_r_26 => ?_)
        replace e_r_26 := e_r_26.symm; subst e_r_26
        refine lv_lload_n hx hb dL_passes_132 rfl (lv_at hl 3 rfl) ?_
        refine zx_lcmp_ne (tgt := 171) hx hb dL_passes_133 dL_passes_134 (by decide) (fun h9 => absurd r2 h9) (fun _ => ?_)
        refine lv_aload_n hx hb dL_passes_137 rfl (lv_at hl 4 rfl) ?_
        refine vp_callSl (W.runV (As := []) (rest := []) ⟨hx, hb, hml, hown, hts⟩ (m_X5_madeGood_ok l D x pr mk os ch2__13 gd) (cwV 0 hts gL_passes_X5_madeGood rfl rfl rfl (by decide +kernel) ⟨Nat.le_of_ble_eq_true rfl, Nat.le_of_ble_eq_true rfl⟩) (z1_V (va_recv hK hP (ci := 5) (q0 := 0) rfl rfl) (hP.sub (ws' := [(x, .inr (5, [.ref pr, .ref mk, .ref os, .long ch2__13, .long gd]))]) [0] rfl) (hK.sub (tys' := []) [] rfl) hG) rfl rfl hl.1 rfl (lv_room (Nat.le_of_ble_eq_true rfl)) dL_passes_138 ⟨Nat.le_of_ble_eq_true rfl, Nat.le_of_ble_eq_true rfl⟩) (fun r_27 e_r_27 => ?_)
        replace e_r_27 := e_r_27.symm; subst e_r_27
        refine lv_lload hx hb dL_passes_141 (lv_at hl 2 rfl) ?_
        refine zx_lcmp_ne (tgt := 171) hx hb dL_passes_143 dL_passes_144 (by decide) (fun h9 => absurd rfl h9) (fun _ => ?_)
        refine lv_aload_n hx hb dL_passes_147 rfl (lv_at hl 4 rfl) ?_
        refine lv_iconst (v := nI 1) hx hb dL_passes_148 (by decide) ?_
        refine lv_aload_n hx hb dL_passes_149 rfl (lv_at hl 5 rfl) ?_
        refine lv_iconst (v := nI 0) hx hb dL_passes_150 (by decide) ?_
        refine zx_iald (D := D) hx hb hK hP 5 0 rfl rfl (v := nI (t + dd)) ((congrArg nI ((cg_lo hcg (by omega)).trans cb0))) (by decide) (by first | decide | omega) dL_passes_151 ?_
        refine vp_callSi (W.runV (As := [.int (nI 1), .int (nI (t + dd))]) (rest := []) ⟨hx, hb, hml, hown, hts⟩ (m_X5_offer_ok l D x pr mk os ch2__13 gd bd (t + dd) cI bg__4 1 (t + dd) (by first | omega | assumption) (by first | omega | assumption) (by first | omega | assumption)) (cwV 2 hts gL_passes_X5_offer rfl rfl rfl (by decide +kernel) ⟨Nat.le_of_ble_eq_true rfl, Nat.le_of_ble_eq_true rfl⟩) (z1_V (va_recv hK hP (ci := 5) (q0 := 0) rfl rfl) (hP.sub (ws' := [(x, .inr (5, [.ref pr, .ref mk, .ref os, .long ch2__13, .long gd])), (pr, .inr (3, [.ref bd, .int (nI (t + dd))])), (bd, .inl (cI, 6003, .inl bg__4))]) [0, 1, 2] rfl) (hK.sub (tys' := [(cI, .int)]) [0] rfl) hG) rfl rfl hl.1 rfl (lv_room (Nat.le_of_ble_eq_true rfl)) dL_passes_152 ⟨Nat.le_of_ble_eq_true rfl, Nat.le_of_ble_eq_true rfl⟩) (fun r_28 e_r_28 => ?_)
        have e_r_28 : r_28 = nI (cf (3 + 1) * 105 / 100) := e_r_28.trans (b1)
        replace e_r_28 := e_r_28.symm; subst e_r_28
        refine lv_aload_n hx hb dL_passes_155 rfl (lv_at hl 5 rfl) ?_
        refine lv_iconst (v := nI 4) hx hb dL_passes_156 (by decide) ?_
        refine zx_iald (D := D) hx hb hK hP 5 0 rfl rfl (v := nI (cf (3 + 1))) ((congrArg nI ((cg_lo hcg (by omega)).trans (cbr 4 (by decide) (by decide))))) (by decide) (by first | decide | omega) dL_passes_157 ?_
        refine lv_bipush (v := nI 105) hx hb dL_passes_158 (by decide) ?_
        refine zx_imul (v := nI ((cf (3 + 1)) * 105)) hx hb dL_passes_160 (pk_mul _ _) ?_
        refine lv_bipush (v := nI 100) hx hb dL_passes_161 (by decide) ?_
        refine zx_idiv (v := nI (((cf (3 + 1)) * 105) / 100)) hx hb dL_passes_163 (by decide) (pk_div (by omega) (by omega) (by omega)) ?_
        refine lv_icmp_ne (tgt := 171) hx hb dL_passes_164 (by decide) (fun h9 => absurd ((nI_eq (a := cf (3 + 1) * 105 / 100) (b := ((cf (3 + 1)) * 105) / 100) (by omega) (by omega)).mpr (by omega)) h9) (fun _ => ?_)
        refine lv_iconst (v := nI 1) hx hb dL_passes_167 (by decide) ?_
        refine lv_goto (tgt := 172) hx hb dL_passes_168 (by decide) ?_
        subst hQ
        subst hAe
        exact zretBz hx hb hr hlocks (fun t9 ht hv => ⟨ch2__13, gd, (t + dd), bg__4, mm, em1, n, og__5, em2, 0, fb2__8, fp, fs, fr, ff, fa2__11, fz2__12, fi2__9, fu2__10, fo, fq, fx, fy, cg, L, g__3, ca, aa, oa, NN_pass hNN hd1 hlt hx9 cb0 cb2 cbr hcg, hp_18, hp_19, (fun j hj => absurd hj (Nat.not_lt_zero j)), hp_20, hp_21, hneL, by rw [ht]; exact hP, va_K.moved hv (hK.sub [0, 1, 2] rfl), hD⟩) hS dL_passes_172 (Nat.le_of_ble_eq_true rfl) (Nat.le_of_ble_eq_true rfl) rfl (rfl)
    | succ d ih =>
      intro i cg H locs ls hid hcg hP hD hS hl
      refine lv_iload hx hb dL_passes_49 (lv_at hl 7 rfl) ?_
      refine lv_aload_n hx hb dL_passes_51 rfl (lv_at hl 5 rfl) ?_
      refine lv_iconst (v := nI 1) hx hb dL_passes_52 (by decide) ?_
      refine zx_iald (D := D) hx hb hK hP 5 0 rfl rfl (v := nI n) ((congrArg nI ((cg_lo hcg (by omega)).trans ((cbr 1 (by decide) (by decide)).trans c1)))) (by decide) (by first | decide | omega) dL_passes_53 ?_
      refine lv_icmp_ge (tgt := 88) hx hb dL_passes_54 (by decide) (fun h9 => absurd h9 (fun h8 => absurd ((nI_leI (a := n) (b := i) (by omega) (by omega)).mp h8) (by omega))) (fun _ => ?_)
      refine lv_aload_n hx hb dL_passes_57 rfl (lv_at hl 5 rfl) ?_
      refine lv_bipush (v := nI 18) hx hb dL_passes_58 (by decide) ?_
      refine lv_iload hx hb dL_passes_60 (lv_at hl 7 rfl) ?_
      refine zx_iadd (v := nI (18 + i)) hx hb dL_passes_62 (nI_add _ _) ?_
      refine lv_dup2_11 hx hb dL_passes_63 rfl rfl ?_
      refine zx_iald (D := D) hx hb hK hP 5 0 rfl rfl (v := nI (cg (18 + i))) (rfl) (by omega) (by first | decide | omega) dL_passes_64 ?_
      refine lv_aload_n hx hb dL_passes_65 rfl (lv_at hl 5 rfl) ?_
      refine lv_bipush (v := nI 24) hx hb dL_passes_66 (by decide) ?_
      refine lv_iload hx hb dL_passes_68 (lv_at hl 7 rfl) ?_
      refine zx_iadd (v := nI (24 + i)) hx hb dL_passes_70 (nI_add _ _) ?_
      refine zx_iald (D := D) hx hb hK hP 5 0 rfl rfl (v := nI (cg (24 + i))) (rfl) (by omega) (by first | decide | omega) dL_passes_71 ?_
      refine zx_iadd (v := nI ((cg (18 + i)) + (cg (24 + i)))) hx hb dL_passes_72 (nI_add _ _) ?_
      refine zx_nast (D := D) hx hb hK hP hD hS 5 0 rfl rfl (by omega) (by decide) dL_passes_73 (fun H locs hP hD hS => ?_)
      have hP : va_P D vwCl (([(x, .inr (5, [.ref pr, .ref mk, .ref os, .long ch2__13, .long gd])), (pr, .inr (3, [.ref bd, .int (nI (t + dd))])), (bd, .inl (cI, 6003, .inl bg__4)), (mk, .inr (0, [.int mm, .ref em1, .int (nI n)])), (os, .inr (0, [.int og__5, .ref em2, .int (nI 0)])), (cc, .inl (cI, 30, .inl (nIf (va_up cg (18 + i) ((cg (18 + i)) + (cg (24 + i)))))))] : va_W) ++ va_pl L g__3) H := hP
      have hD : va_D A (([(x, .inr (5, [.ref pr, .ref mk, .ref os, .long ch2__13, .long gd])), (pr, .inr (3, [.ref bd, .int (nI (t + dd))])), (bd, .inl (cI, 6003, .inl bg__4)), (mk, .inr (0, [.int mm, .ref em1, .int (nI n)])), (os, .inr (0, [.int og__5, .ref em2, .int (nI 0)])), (cc, .inl (cI, 30, .inl (nIf (va_up cg (18 + i) ((cg (18 + i)) + (cg (24 + i)))))))] : va_W) ++ va_pl L g__3) := hD
      refine lv_aload_n hx hb dL_passes_74 rfl (lv_at hl 5 rfl) ?_
      refine lv_bipush (v := nI 24) hx hb dL_passes_75 (by decide) ?_
      refine lv_iload hx hb dL_passes_77 (lv_at hl 7 rfl) ?_
      refine zx_iadd (v := nI (24 + i)) hx hb dL_passes_79 (nI_add _ _) ?_
      refine lv_iconst (v := nI 0) hx hb dL_passes_80 (by decide) ?_
      refine zx_nast (D := D) hx hb hK hP hD hS 5 0 rfl rfl (by omega) (by decide) dL_passes_81 (fun H locs hP hD hS => ?_)
      have hP : va_P D vwCl (([(x, .inr (5, [.ref pr, .ref mk, .ref os, .long ch2__13, .long gd])), (pr, .inr (3, [.ref bd, .int (nI (t + dd))])), (bd, .inl (cI, 6003, .inl bg__4)), (mk, .inr (0, [.int mm, .ref em1, .int (nI n)])), (os, .inr (0, [.int og__5, .ref em2, .int (nI 0)])), (cc, .inl (cI, 30, .inl (nIf (va_up (va_up cg (18 + i) ((cg (18 + i)) + (cg (24 + i)))) (24 + i) 0))))] : va_W) ++ va_pl L g__3) H := hP
      have hD : va_D A (([(x, .inr (5, [.ref pr, .ref mk, .ref os, .long ch2__13, .long gd])), (pr, .inr (3, [.ref bd, .int (nI (t + dd))])), (bd, .inl (cI, 6003, .inl bg__4)), (mk, .inr (0, [.int mm, .ref em1, .int (nI n)])), (os, .inr (0, [.int og__5, .ref em2, .int (nI 0)])), (cc, .inl (cI, 30, .inl (nIf (va_up (va_up cg (18 + i) ((cg (18 + i)) + (cg (24 + i)))) (24 + i) 0))))] : va_W) ++ va_pl L g__3) := hD
      refine lv_iinc (v := nI (i + 1)) (lv' := [(9, .int (nI (i + 1))), (8, .int (nI ct2__14)), (7, .int (nI (((t + dd) / 30) - (t / 30)))), (5, .long gd), (3, .long ch), (0, .ref x), (1, .ref cc), (2, .int (nI dd))]) hx hb dL_passes_82 hl (k := 7) rfl (nI_1 i) (by decide) rfl (fun ls hl => ?_)
      refine lv_goto (tgt := 49) hx hb dL_passes_85 (by decide) ?_
      exact ih (i + 1) (va_up (va_up cg (18 + i) ((cg (18 + i)) + (cg (24 + i)))) (24 + i) 0) H locs ls (by omega) (cg_s (by omega) hcg) hP hD hS (lv_sub hl [1, 2, 3, 4, 5, 6, 7, 0] rfl)
  exact loop_49 (n) 0 cb _ _ ls (by omega) cg_0 hP hD hS (lv_sub hl [1, 2, 3, 4, 5, 6, 7, 0] rfl)
