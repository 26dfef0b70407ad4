/-! THE LAW'S tells -/
theorem on_add0 {fz : Nat → Int32} {i : Nat} : nI (if fz i = 0 then 0 else 1) + nI (onC fz i) = nI (onC fz (i + 1)) := by
  rw [nI_add, Nat.add_comm]; rfl
theorem on_add {fz : Nat → Int32} {i : Nat} : nI (onC fz i) + nI (if fz i = 0 then 0 else 1) = nI (onC fz (i + 1)) := nI_add _ _
theorem cg_lo {cb cg : Nat → Nat} {i z : Nat} (h : ∀ z : Nat, cg z = cgv cb i z) (hz : z < 18) : cg z = cb z := by
  rw [h]; unfold cgv; rw [if_neg (by omega), if_neg (by omega)]
set_option maxHeartbeats 4000000 in
set_option maxRecDepth 100000 in
/-- the law's tells -/
theorem m_L_tells (l : Launch) (D : va_G) (x pr mk os : Nat) (ch gd : Int64) (bd t : Nat) (cI : ClassId) (bf : Nat → Int32) (mm : Int32) (em1 n : Nat) (om : Int32) (em2 k : Nat) (L : List Nat) (f : Nat → va_E) (cJ : ClassId) (cO : ClassId) (ca aa : Nat → Nat) (fp fs fr : Nat → Int32) (ff fa : Nat → Nat) (fz : Nat → Int32) (fi fu : Nat → Int64) (em : Nat) (oa fo : Nat → Nat) (fq : Nat → Int32) (fx fy : Nat → Nat) (fb : Nat → Int32) (cc : Nat) (cf : Nat → Nat) (B : Nat) (a1 a2 a3 : Nat) (hNN : NN B t n k ch fp fs fr ff fa fz fi fu fo fq fx fy fb cf) (hbi : BI bf fb t) (hCI : CI L f cJ n ca aa fp fs fr ff fa fz fi fu) (hOI : OI L f k n oa ca fo fq fx fy) (hU1 : UL cO em L f em1 n ca) (hU2 : UL cO em L f em2 k oa) (hneL : em1 ∈ L → em2 ∈ L → em1 ≠ em2) (ha1 : 1 ≤ a1 ∧ a1 ≤ 100000) (ha2 : 1 ≤ a2 ∧ a2 ≤ 100000) (ha3 : 1 ≤ a3 ∧ a3 ≤ 100000) (hlt : t < 2000) (sz : Nat)  : Met l yL_tells wsL_tells ({ frames := 8, cells := 0, slots := 0, locals := 185 }) (zq D (([(x, .inr (5, [.ref pr, .ref mk, .ref os, .long ch, .long gd])), (pr, .inr (3, [.ref bd, .int (nI t)])), (bd, .inl (cI, 6003, .inl bf)), (mk, .inr (0, [.int mm, .ref em1, .int (nI n)])), (os, .inr (0, [.int om, .ref em2, .int (nI k)])), (cc, .inl (cI, 30, .inl (nIf cf)))] : va_W) ++ va_pl L f) [(cI, .int), (cJ, .long), (cO, .object "java/lang/Object")] sz [.ref x, .ref cc, .int (nI a1), .int (nI a2), .int (nI a3)] (fun U H => True)) (va_Qi (fun (r : Int32) (_ : Unit) => r = nI 1) (fun _ t9 => ∃ (chZ : Int64) (gdZ : Int64) (tZ : Nat) (bfZ : Nat → Int32) (mmZ : Int32) (em1Z : Nat) (nZ : Nat) (omZ : Int32) (em2Z : Nat) (kZ : Nat) (fbZ : Nat → Int32) (fpZ : Nat → Int32) (fsZ : Nat → Int32) (frZ : Nat → Int32) (ffZ : Nat → Nat) (faZ : Nat → Nat) (fzZ : Nat → Int32) (fiZ : Nat → Int64) (fuZ : Nat → Int64) (foZ : Nat → Nat) (fqZ : Nat → Int32) (fxZ : Nat → Nat) (fyZ : Nat → Nat) (cfZ : Nat → Nat) (LZ : List Nat) (fZ : Nat → va_E) (caZ : Nat → Nat) (aaZ : Nat → Nat) (oaZ : Nat → Nat), NN B tZ nZ kZ chZ fpZ fsZ frZ ffZ faZ fzZ fiZ fuZ foZ fqZ fxZ fyZ fbZ cfZ ∧ BI bfZ fbZ tZ ∧ CI LZ fZ cJ nZ caZ aaZ fpZ fsZ frZ ffZ faZ fzZ fiZ fuZ ∧ OI LZ fZ kZ nZ oaZ caZ foZ fqZ fxZ fyZ ∧ UL cO em LZ fZ em1Z nZ caZ ∧ UL cO em LZ fZ em2Z kZ oaZ ∧ (em1Z ∈ LZ → em2Z ∈ LZ → em1Z ≠ em2Z) ∧ va_P D vwCl (([(x, .inr (5, [.ref pr, .ref mk, .ref os, .long chZ, .long gdZ])), (pr, .inr (3, [.ref bd, .int (nI tZ)])), (bd, .inl (cI, 6003, .inl bfZ)), (mk, .inr (0, [.int mmZ, .ref em1Z, .int (nI nZ)])), (os, .inr (0, [.int omZ, .ref em2Z, .int (nI kZ)])), (cc, .inl (cI, 30, .inl (nIf cfZ)))] : va_W) ++ va_pl LZ fZ) t9.heap ∧ va_K D vwCl [(cI, .int), (cJ, .long), (cO, .object "java/lang/Object")] t9 ∧ va_D (va_A (([(x, .inr (5, [.ref pr, .ref mk, .ref os, .long ch, .long gd])), (pr, .inr (3, [.ref bd, .int (nI t)])), (bd, .inl (cI, 6003, .inl bf)), (mk, .inr (0, [.int mm, .ref em1, .int (nI n)])), (os, .inr (0, [.int om, .ref em2, .int (nI k)])), (cc, .inl (cI, 30, .inl (nIf cf)))] : va_W) ++ va_pl L f) sz) (([(x, .inr (5, [.ref pr, .ref mk, .ref os, .long chZ, .long gdZ])), (pr, .inr (3, [.ref bd, .int (nI tZ)])), (bd, .inl (cI, 6003, .inl bfZ)), (mk, .inr (0, [.int mmZ, .ref em1Z, .int (nI nZ)])), (os, .inr (0, [.int omZ, .ref em2Z, .int (nI kZ)])), (cc, .inl (cI, 30, .inl (nIf cfZ)))] : va_W) ++ va_pl LZ fZ)) (va_A (([(x, .inr (5, [.ref pr, .ref mk, .ref os, .long ch, .long gd])), (pr, .inr (3, [.ref bd, .int (nI t)])), (bd, .inl (cI, 6003, .inl bf)), (mk, .inr (0, [.int mm, .ref em1, .int (nI n)])), (os, .inr (0, [.int om, .ref em2, .int (nI k)])), (cc, .inl (cI, 30, .inl (nIf cf)))] : va_W) ++ va_pl L f) sz)) 0 0 (va_A (([(x, .inr (5, [.ref pr, .ref mk, .ref os, .long ch, .long gd])), (pr, .inr (3, [.ref bd, .int (nI t)])), (bd, .inl (cI, 6003, .inl bf)), (mk, .inr (0, [.int mm, .ref em1, .int (nI n)])), (os, .inr (0, [.int om, .ref em2, .int (nI k)])), (cc, .inl (cI, 30, .inl (nIf cf)))] : va_W) ++ va_pl L f) sz) := by
  refine zmq (cc := cL_tells) (maxL := 12) (ret := (some .boolean)) (by decide) rfl (Nat.le_of_ble_eq_true rfl) ?_
  intro p e s m below meth c ls A hAe hsz hin hx hb hml hr hlocks hown hts hP hK hG hD hA hS hX hl
  subst hsz
  skip
  have hl : lv_has ls 12 [(0, .ref x), (1, .ref cc), (2, .int (nI a1)), (3, .int (nI a2)), (4, .int (nI a3))] := hl
  generalize hQ : MQ below _ _ _ _ _ _ = Q
  obtain ⟨nB, nT, nN, nK, nOk, nFF, nFZ, nFA, nZR, nOO, nFS, nFR, nNC, nCH, c0, c1, c2, c3, c4, c5⟩ := id hNN
  refine lv_aload_n hx hb dL_tells_0 rfl (lv_at hl 0 rfl) ?_
  refine vp_callSl (W.runV (As := []) (rest := []) ⟨hx, hb, hml, hown, hts⟩ (m_X5_charged_ok l D x pr mk os ch gd) (cwV 0 hts gL_tells_X5_charged rfl rfl rfl (by decide +kernel) ⟨Nat.le_of_ble_eq_true rfl, Nat.le_of_ble_eq_true rfl⟩) (z1_V (va_recv hK hP (ci := 5) (q0 := 0) rfl rfl) (hP.sub (ws' := [(x, .inr (5, [.ref pr, .ref mk, .ref os, .long ch, .long gd]))]) [0] rfl) (hK.sub (tys' := []) [] rfl) hG) rfl rfl hl.1 rfl (lv_room (Nat.le_of_ble_eq_true rfl)) dL_tells_1 ⟨Nat.le_of_ble_eq_true rfl, Nat.le_of_ble_eq_true rfl⟩) (fun r_1 e_r_1 => ?_)
  replace e_r_1 := e_r_1.symm; subst e_r_1
  refine lv_lstore (lv' := [(5, .long ch), (0, .ref x), (1, .ref cc), (2, .int (nI a1)), (3, .int (nI a2)), (4, .int (nI a3))]) hx hb dL_tells_4 hl (by decide) rfl (fun ls hl => ?_)
  refine lv_aload_n hx hb dL_tells_6 rfl (lv_at hl 2 rfl) ?_
  refine lv_iconst (v := nI 0) hx hb dL_tells_7 (by decide) ?_
  refine zx_iald (D := D) hx hb hK hP 5 0 rfl rfl (v := nI t) ((congrArg nI c0)) (by decide) (by first | decide | omega) dL_tells_8 ?_
  refine lv_iconst (v := nI 1) hx hb dL_tells_9 (by decide) ?_
  refine zx_iadd (v := nI (t + 1)) hx hb dL_tells_10 (nI_add _ _) ?_
  refine lv_istore (lv' := [(7, .int (nI (t + 1))), (5, .long ch), (0, .ref x), (1, .ref cc), (2, .int (nI a1)), (3, .int (nI a2)), (4, .int (nI a3))]) hx hb dL_tells_11 hl (by decide) rfl (fun ls hl => ?_)
  refine lv_iconst (v := nI 0) hx hb dL_tells_13 (by decide) ?_
  refine lv_istore (lv' := [(8, .int (nI 0)), (7, .int (nI (t + 1))), (5, .long ch), (0, .ref x), (1, .ref cc), (2, .int (nI a1)), (3, .int (nI a2)), (4, .int (nI a3))]) hx hb dL_tells_14 hl (by decide) rfl (fun ls hl => ?_)
  refine lv_iconst (v := nI 0) hx hb dL_tells_16 (by decide) ?_
  refine lv_istore (lv' := [(9, .int (nI 0)), (8, .int (nI 0)), (7, .int (nI (t + 1))), (5, .long ch), (0, .ref x), (1, .ref cc), (2, .int (nI a1)), (3, .int (nI a2)), (4, .int (nI a3))]) hx hb dL_tells_17 hl (by decide) rfl (fun ls hl => ?_)
  have loop_19 : ∀ (d i : Nat) (ls : Array Slot), i + d = n → lv_has ls 12 [(7, .int (nI (t + 1))), (5, .long ch), (0, .ref x), (1, .ref cc), (2, .int (nI a1)), (3, .int (nI a2)), (4, .int (nI a3)), (8, .int (nI (onC fz i))), (9, .int (nI i))] → W p l e ({ frames := 8, cells := 0, slots := 0, locals := 185 }) s m (([.ref x, .ref cc, .int (nI a1), .int (nI a2), .int (nI a3)] : List Value).toArray) below meth c s.heap [] 0 0 Q (F0 m 19 ls []) := by
    intro d
    induction d with
    | zero =>
      intro i   ls hid   hl
      have e9 : n = i := by omega
      subst e9
      refine lv_iload hx hb dL_tells_19 (lv_at hl 8 rfl) ?_
      refine lv_aload_n hx hb dL_tells_21 rfl (lv_at hl 3 rfl) ?_
      refine lv_iconst (v := nI 1) hx hb dL_tells_22 (by decide) ?_
      refine zx_iald (D := D) hx hb hK hP 5 0 rfl rfl (v := nI n) ((congrArg nI c1)) (by decide) (by first | decide | omega) dL_tells_23 ?_
      refine lv_icmp_ge (tgt := 52) hx hb dL_tells_24 (by decide) (fun _ => ?_) (fun h9 => absurd ((nI_leI (a := n) (b := n) (by omega) (by omega)).mpr (by omega)) h9)
      refine lv_aload_n hx hb dL_tells_52 rfl (lv_at hl 2 rfl) ?_
      refine lv_iload_n hx hb dL_tells_53 rfl (lv_at hl 4 rfl) ?_
      refine lv_iload_n hx hb dL_tells_54 rfl (lv_at hl 5 rfl) ?_
      refine lv_iload hx hb dL_tells_55 (lv_at hl 6 rfl) ?_
      have hP : va_P D vwCl ((([(x, .inr (5, [.ref pr, .ref mk, .ref os, .long ch, .long gd])), (pr, .inr (3, [.ref bd, .int (nI t)])), (bd, .inl (cI, 6003, .inl bf)), (mk, .inr (0, [.int mm, .ref em1, .int (nI n)])), (os, .inr (0, [.int om, .ref em2, .int (nI k)]))] : va_W) ++ ([(cc, .inl (cI, 30, .inl (nIf cf)))] : va_W)) ++ va_pl L f) _ := hP
      have hD : va_D A ((([(x, .inr (5, [.ref pr, .ref mk, .ref os, .long ch, .long gd])), (pr, .inr (3, [.ref bd, .int (nI t)])), (bd, .inl (cI, 6003, .inl bf)), (mk, .inr (0, [.int mm, .ref em1, .int (nI n)])), (os, .inr (0, [.int om, .ref em2, .int (nI k)]))] : va_W) ++ ([(cc, .inl (cI, 30, .inl (nIf cf)))] : va_W)) ++ va_pl L f) := hD
      have hP := hP.swap
      have hD := hD.swap
      have hPc : va_P D vwCl (([(x, .inr (5, [.ref pr, .ref mk, .ref os, .long ch, .long gd])), (pr, .inr (3, [.ref bd, .int (nI t)])), (bd, .inl (cI, 6003, .inl bf)), (mk, .inr (0, [.int mm, .ref em1, .int (nI n)])), (os, .inr (0, [.int om, .ref em2, .int (nI k)]))] : va_W) ++ va_pl L f) _ := lp_Pl hP
      have hDc : va_D A (([(x, .inr (5, [.ref pr, .ref mk, .ref os, .long ch, .long gd])), (pr, .inr (3, [.ref bd, .int (nI t)])), (bd, .inl (cI, 6003, .inl bf)), (mk, .inr (0, [.int mm, .ref em1, .int (nI n)])), (os, .inr (0, [.int om, .ref em2, .int (nI k)]))] : va_W) ++ va_pl L f) := lp_Dl hD
      have hF_13 := lp_F2 hD hS hA
      refine va_calli (va_runV (As := [.int (nI a1), .int (nI a2), .int (nI a3)]) (rest := []) ⟨hx, hb, hml, hown, hts⟩ (p_tell l D x pr mk os ch gd bd t cI bf mm em1 n om em2 k L f cJ cO ca aa fp fs fr ff fa fz fi fu oa fo fq fx fy fb em (nI a1) (nI a2) (nI a3) (k_bidN ha1.1 ha1.2) (k_bidN ha2.1 ha2.2) (k_bidN ha3.1 ha3.2) hlt (by omega) (by omega) hbi ⟨_, ha1.1, ha1.2, rfl⟩ ⟨_, ha2.1, ha2.2, rfl⟩ ⟨_, ha3.1, ha3.2, rfl⟩ nFF (fun j hj => (nOO j hj).2.1) (fun j hj => (nOO j hj).2.2.1) nFZ (fun j hj => by have := nFA j; omega) hU1 hU2 hneL hCI hOI _) (cwV 3 hts gL_tells_X5_tell rfl rfl rfl (by decide +kernel) ⟨Nat.le_of_ble_eq_true rfl, Nat.le_of_ble_eq_true rfl⟩) (zq_V XM.t (va_recv hK hPc (ci := 5) (q0 := 0) rfl rfl) hPc (hK.sub (tys' := [(cI, .int), (cJ, .long), (cO, .object "java/lang/Object")]) [0, 1, 2] rfl) hDc hG trivial) rfl rfl hl.1 rfl (lv_room (Nat.le_of_ble_eq_true rfl)) dL_tells_57 ⟨Nat.le_of_ble_eq_true rfl, Nat.le_of_ble_eq_true rfl⟩) hS (fun q _ h => hF_13 q h) hF_13 (fun ra_12 u9 t1 H locs ht1 hvm hw hB hz1 hk1 hS => ?_)
      obtain ⟨g__2, bg__3, og__4, fb2__5, fi2__6, fu2__7, fa2__8, fz2__9, ch2__10, ct2__11, hp_14, hp_15, hp_16, hp_17, hp_18, hP1, hK1, hD1⟩ := hB
      rw [ht1] at hP1
      obtain ⟨hP, hD⟩ := lp_front (w1 := (([(x, .inr (5, [.ref pr, .ref mk, .ref os, .long ch2__10, .long gd])), (pr, .inr (3, [.ref bd, .int (nI (t + 1))])), (bd, .inl (cI, 6003, .inl bg__3)), (mk, .inr (0, [.int mm, .ref em1, .int (nI n)])), (os, .inr (0, [.int og__4, .ref em2, .int (nI 0)]))] : va_W) ++ va_pl L g__2)) (R9 := [(cc, .inl (cI, 30, .inl (nIf cf)))]) hP hD hF_13 hk1 hP1 hD1
      have hP := hP.swap
      have hD := hD.swap
      have hP : va_P D vwCl (([(x, .inr (5, [.ref pr, .ref mk, .ref os, .long ch2__10, .long gd])), (pr, .inr (3, [.ref bd, .int (nI (t + 1))])), (bd, .inl (cI, 6003, .inl bg__3)), (mk, .inr (0, [.int mm, .ref em1, .int (nI n)])), (os, .inr (0, [.int og__4, .ref em2, .int (nI 0)])), (cc, .inl (cI, 30, .inl (nIf cf)))] : va_W) ++ va_pl L g__2) H := hP
      have hD : va_D A (([(x, .inr (5, [.ref pr, .ref mk, .ref os, .long ch2__10, .long gd])), (pr, .inr (3, [.ref bd, .int (nI (t + 1))])), (bd, .inl (cI, 6003, .inl bg__3)), (mk, .inr (0, [.int mm, .ref em1, .int (nI n)])), (os, .inr (0, [.int og__4, .ref em2, .int (nI 0)])), (cc, .inl (cI, 30, .inl (nIf cf)))] : va_W) ++ va_pl L g__2) := hD
      subst hw
      obtain ⟨q1, q2, q3, q4, q5, q6, q7⟩ := NN_tell2 hNN hlt ha1 ha2 ha3 hp_14
      have q0 : ((p_one n fp fs fr ff fo fq fx fy (nI a1) (nI a2) (nI a3) t k fb fi fu fa fz ch 0).2.2.2.2.2.2.2.2) = ct2__11 := by rw [← hp_14]
      rw [q0]
      have hon := onC_le (fz := fz) n
      have b0 : k_off (bg__3 ((t + 1) * 3 + 0)) = nI (a1 * 105 / 100) := by rw [hp_15 (t + 1) 0 (Nat.le_refl _) (by decide), q4]; exact k_offN ha1.2
      have b1 : k_off (bg__3 ((t + 1) * 3 + 1)) = nI (a2 * 105 / 100) := by rw [hp_15 (t + 1) 1 (Nat.le_refl _) (by decide), q5]; exact k_offN ha2.2
      have b2 : k_off (bg__3 ((t + 1) * 3 + 2)) = nI (a3 * 105 / 100) := by rw [hp_15 (t + 1) 2 (Nat.le_refl _) (by decide), q6]; exact k_offN ha3.2
      refine lv_istore (lv' := [(9, .int (nI ct2__11)), (7, .int (nI (t + 1))), (5, .long ch), (0, .ref x), (1, .ref cc), (2, .int (nI a1)), (3, .int (nI a2)), (4, .int (nI a3)), (8, .int (nI (onC fz n)))]) hx hb dL_tells_60 hl (by decide) rfl (fun ls hl => ?_)
      refine lv_aload_n hx hb dL_tells_62 rfl (lv_at hl 4 rfl) ?_
      refine lv_iconst (v := nI 0) hx hb dL_tells_63 (by decide) ?_
      refine lv_iload hx hb dL_tells_64 (lv_at hl 1 rfl) ?_
      refine zx_nast (D := D) hx hb hK hP hD hS 5 0 rfl rfl (by decide) (by decide) dL_tells_66 (fun H locs hP hD hS => ?_)
      have hP : va_P D vwCl (([(x, .inr (5, [.ref pr, .ref mk, .ref os, .long ch2__10, .long gd])), (pr, .inr (3, [.ref bd, .int (nI (t + 1))])), (bd, .inl (cI, 6003, .inl bg__3)), (mk, .inr (0, [.int mm, .ref em1, .int (nI n)])), (os, .inr (0, [.int og__4, .ref em2, .int (nI 0)])), (cc, .inl (cI, 30, .inl (nIf (va_up cf 0 (t + 1)))))] : va_W) ++ va_pl L g__2) H := hP
      have hD : va_D A (([(x, .inr (5, [.ref pr, .ref mk, .ref os, .long ch2__10, .long gd])), (pr, .inr (3, [.ref bd, .int (nI (t + 1))])), (bd, .inl (cI, 6003, .inl bg__3)), (mk, .inr (0, [.int mm, .ref em1, .int (nI n)])), (os, .inr (0, [.int og__4, .ref em2, .int (nI 0)])), (cc, .inl (cI, 30, .inl (nIf (va_up cf 0 (t + 1)))))] : va_W) ++ va_pl L g__2) := hD
      refine lv_aload_n hx hb dL_tells_67 rfl (lv_at hl 4 rfl) ?_
      refine lv_iconst (v := nI 2) hx hb dL_tells_68 (by decide) ?_
      refine lv_iconst (v := nI 0) hx hb dL_tells_69 (by decide) ?_
      refine zx_nast (D := D) hx hb hK hP hD hS 5 0 rfl rfl (by decide) (by decide) dL_tells_70 (fun H locs hP hD hS => ?_)
      have hP : va_P D vwCl (([(x, .inr (5, [.ref pr, .ref mk, .ref os, .long ch2__10, .long gd])), (pr, .inr (3, [.ref bd, .int (nI (t + 1))])), (bd, .inl (cI, 6003, .inl bg__3)), (mk, .inr (0, [.int mm, .ref em1, .int (nI n)])), (os, .inr (0, [.int og__4, .ref em2, .int (nI 0)])), (cc, .inl (cI, 30, .inl (nIf (va_up (va_up cf 0 (t + 1)) 2 0))))] : va_W) ++ va_pl L g__2) H := hP
      have hD : va_D A (([(x, .inr (5, [.ref pr, .ref mk, .ref os, .long ch2__10, .long gd])), (pr, .inr (3, [.ref bd, .int (nI (t + 1))])), (bd, .inl (cI, 6003, .inl bg__3)), (mk, .inr (0, [.int mm, .ref em1, .int (nI n)])), (os, .inr (0, [.int og__4, .ref em2, .int (nI 0)])), (cc, .inl (cI, 30, .inl (nIf (va_up (va_up cf 0 (t + 1)) 2 0))))] : va_W) ++ va_pl L g__2) := hD
      refine lv_aload_n hx hb dL_tells_71 rfl (lv_at hl 4 rfl) ?_
      refine lv_iconst (v := nI 3) hx hb dL_tells_72 (by decide) ?_
      refine lv_iload_n hx hb dL_tells_73 rfl (lv_at hl 5 rfl) ?_
      refine zx_nast (D := D) hx hb hK hP hD hS 5 0 rfl rfl (by decide) (by decide) dL_tells_74 (fun H locs hP hD hS => ?_)
      have hP : va_P D vwCl (([(x, .inr (5, [.ref pr, .ref mk, .ref os, .long ch2__10, .long gd])), (pr, .inr (3, [.ref bd, .int (nI (t + 1))])), (bd, .inl (cI, 6003, .inl bg__3)), (mk, .inr (0, [.int mm, .ref em1, .int (nI n)])), (os, .inr (0, [.int og__4, .ref em2, .int (nI 0)])), (cc, .inl (cI, 30, .inl (nIf (va_up (va_up (va_up cf 0 (t + 1)) 2 0) 3 a1))))] : va_W) ++ va_pl L g__2) H := hP
      have hD : va_D A (([(x, .inr (5, [.ref pr, .ref mk, .ref os, .long ch2__10, .long gd])), (pr, .inr (3, [.ref bd, .int (nI (t + 1))])), (bd, .inl (cI, 6003, .inl bg__3)), (mk, .inr (0, [.int mm, .ref em1, .int (nI n)])), (os, .inr (0, [.int og__4, .ref em2, .int (nI 0)])), (cc, .inl (cI, 30, .inl (nIf (va_up (va_up (va_up cf 0 (t + 1)) 2 0) 3 a1))))] : va_W) ++ va_pl L g__2) := hD
      refine lv_aload_n hx hb dL_tells_75 rfl (lv_at hl 4 rfl) ?_
      refine lv_iconst (v := nI 4) hx hb dL_tells_76 (by decide) ?_
      refine lv_iload_n hx hb dL_tells_77 rfl (lv_at hl 6 rfl) ?_
      refine zx_nast (D := D) hx hb hK hP hD hS 5 0 rfl rfl (by decide) (by decide) dL_tells_78 (fun H locs hP hD hS => ?_)
      have hP : va_P D vwCl (([(x, .inr (5, [.ref pr, .ref mk, .ref os, .long ch2__10, .long gd])), (pr, .inr (3, [.ref bd, .int (nI (t + 1))])), (bd, .inl (cI, 6003, .inl bg__3)), (mk, .inr (0, [.int mm, .ref em1, .int (nI n)])), (os, .inr (0, [.int og__4, .ref em2, .int (nI 0)])), (cc, .inl (cI, 30, .inl (nIf (va_up (va_up (va_up (va_up cf 0 (t + 1)) 2 0) 3 a1) 4 a2))))] : va_W) ++ va_pl L g__2) H := hP
      have hD : va_D A (([(x, .inr (5, [.ref pr, .ref mk, .ref os, .long ch2__10, .long gd])), (pr, .inr (3, [.ref bd, .int (nI (t + 1))])), (bd, .inl (cI, 6003, .inl bg__3)), (mk, .inr (0, [.int mm, .ref em1, .int (nI n)])), (os, .inr (0, [.int og__4, .ref em2, .int (nI 0)])), (cc, .inl (cI, 30, .inl (nIf (va_up (va_up (va_up (va_up cf 0 (t + 1)) 2 0) 3 a1) 4 a2))))] : va_W) ++ va_pl L g__2) := hD
      refine lv_aload_n hx hb dL_tells_79 rfl (lv_at hl 4 rfl) ?_
      refine lv_iconst (v := nI 5) hx hb dL_tells_80 (by decide) ?_
      refine lv_iload hx hb dL_tells_81 (lv_at hl 7 rfl) ?_
      refine zx_nast (D := D) hx hb hK hP hD hS 5 0 rfl rfl (by decide) (by decide) dL_tells_83 (fun H locs hP hD hS => ?_)
      have hP : va_P D vwCl (([(x, .inr (5, [.ref pr, .ref mk, .ref os, .long ch2__10, .long gd])), (pr, .inr (3, [.ref bd, .int (nI (t + 1))])), (bd, .inl (cI, 6003, .inl bg__3)), (mk, .inr (0, [.int mm, .ref em1, .int (nI n)])), (os, .inr (0, [.int og__4, .ref em2, .int (nI 0)])), (cc, .inl (cI, 30, .inl (nIf (va_up (va_up (va_up (va_up (va_up cf 0 (t + 1)) 2 0) 3 a1) 4 a2) 5 a3))))] : va_W) ++ va_pl L g__2) H := hP
      have hD : va_D A (([(x, .inr (5, [.ref pr, .ref mk, .ref os, .long ch2__10, .long gd])), (pr, .inr (3, [.ref bd, .int (nI (t + 1))])), (bd, .inl (cI, 6003, .inl bg__3)), (mk, .inr (0, [.int mm, .ref em1, .int (nI n)])), (os, .inr (0, [.int og__4, .ref em2, .int (nI 0)])), (cc, .inl (cI, 30, .inl (nIf (va_up (va_up (va_up (va_up (va_up cf 0 (t + 1)) 2 0) 3 a1) 4 a2) 5 a3))))] : va_W) ++ va_pl L g__2) := hD
      obtain ⟨cb, hcb⟩ : ∃ q : Nat → Nat, q = (va_up (va_up (va_up (va_up (va_up cf 0 (t + 1)) 2 0) 3 a1) 4 a2) 5 a3) := ⟨_, rfl⟩
      rw [← hcb] at hP hD
      have cb0 : cb 0 = t + 1 := (by rw [hcb]; (repeat (first | rw [up_same] | rw [up_ne (by omega)])))
      have cb2 : cb 2 = 0 := (by rw [hcb]; (repeat (first | rw [up_same] | rw [up_ne (by omega)])))
      have cb3 : cb 3 = a1 := (by rw [hcb]; (repeat (first | rw [up_same] | rw [up_ne (by omega)])))
      have cb4 : cb 4 = a2 := (by rw [hcb]; (repeat (first | rw [up_same] | rw [up_ne (by omega)])))
      have cb5 : cb 5 = a3 := (by rw [hcb]; (repeat (first | rw [up_same] | rw [up_ne (by omega)])))
      have hP : va_P D vwCl (([(x, .inr (5, [.ref pr, .ref mk, .ref os, .long ch2__10, .long gd])), (pr, .inr (3, [.ref bd, .int (nI (t + 1))])), (bd, .inl (cI, 6003, .inl bg__3)), (mk, .inr (0, [.int mm, .ref em1, .int (nI n)])), (os, .inr (0, [.int og__4, .ref em2, .int (nI 0)])), (cc, .inl (cI, 30, .inl (nIf cb)))] : va_W) ++ va_pl L g__2) H := hP
      have hD : va_D A (([(x, .inr (5, [.ref pr, .ref mk, .ref os, .long ch2__10, .long gd])), (pr, .inr (3, [.ref bd, .int (nI (t + 1))])), (bd, .inl (cI, 6003, .inl bg__3)), (mk, .inr (0, [.int mm, .ref em1, .int (nI n)])), (os, .inr (0, [.int og__4, .ref em2, .int (nI 0)])), (cc, .inl (cI, 30, .inl (nIf cb)))] : va_W) ++ va_pl L g__2) := hD
      have cb1 : cb 1 = cf 1 := (by rw [hcb]; (repeat (first | rw [up_same] | rw [up_ne (by omega)])))
      have cbr : ∀ z : Nat, 6 ≤ z → cb z = cf z := fun z hz => (by rw [hcb]; (repeat (first | rw [up_same] | rw [up_ne (by omega)])))
      refine lv_iconst (v := nI 0) hx hb dL_tells_84 (by decide) ?_
      refine lv_istore (lv' := [(10, .int (nI 0)), (9, .int (nI ct2__11)), (7, .int (nI (t + 1))), (5, .long ch), (0, .ref x), (1, .ref cc), (2, .int (nI a1)), (3, .int (nI a2)), (4, .int (nI a3)), (8, .int (nI (onC fz n)))]) hx hb dL_tells_85 hl (by decide) rfl (fun ls hl => ?_)
      refine lv_iconst (v := nI 0) hx hb dL_tells_87 (by decide) ?_
      refine lv_istore (lv' := [(11, .int (nI 0)), (10, .int (nI 0)), (9, .int (nI ct2__11)), (7, .int (nI (t + 1))), (5, .long ch), (0, .ref x), (1, .ref cc), (2, .int (nI a1)), (3, .int (nI a2)), (4, .int (nI a3)), (8, .int (nI (onC fz n)))]) hx hb dL_tells_88 hl (by decide) rfl (fun ls hl => ?_)
      have loop_90 : ∀ (d i : Nat) (cg : Nat → Nat) (H : Heap) (locs : List Loc) (ls : Array Slot), i + d = n → (∀ z : Nat, cg z = cgv cb i z) → va_P D vwCl (([(x, .inr (5, [.ref pr, .ref mk, .ref os, .long ch2__10, .long gd])), (pr, .inr (3, [.ref bd, .int (nI (t + 1))])), (bd, .inl (cI, 6003, .inl bg__3)), (mk, .inr (0, [.int mm, .ref em1, .int (nI n)])), (os, .inr (0, [.int og__4, .ref em2, .int (nI 0)])), (cc, .inl (cI, 30, .inl (nIf cg)))] : va_W) ++ va_pl L g__2) H → va_D A (([(x, .inr (5, [.ref pr, .ref mk, .ref os, .long ch2__10, .long gd])), (pr, .inr (3, [.ref bd, .int (nI (t + 1))])), (bd, .inl (cI, 6003, .inl bg__3)), (mk, .inr (0, [.int mm, .ref em1, .int (nI n)])), (os, .inr (0, [.int og__4, .ref em2, .int (nI 0)])), (cc, .inl (cI, 30, .inl (nIf cg)))] : va_W) ++ va_pl L g__2) → va_S A s.heap H locs → lv_has ls 12 [(9, .int (nI ct2__11)), (7, .int (nI (t + 1))), (5, .long ch), (0, .ref x), (1, .ref cc), (2, .int (nI a1)), (3, .int (nI a2)), (4, .int (nI a3)), (8, .int (nI (onC fz n))), (10, .int (nI (onC fz2__9 i))), (11, .int (nI i))] → W p l e ({ frames := 8, cells := 0, slots := 0, locals := 185 }) s m (([.ref x, .ref cc, .int (nI a1), .int (nI a2), .int (nI a3)] : List Value).toArray) below meth c H locs 0 0 Q (F0 m 90 ls []) := by
        intro d
        induction d with
        | zero =>
          intro i cg H locs ls hid hcg hP hD hS hl
          have e9 : n = i := by omega
          subst e9
          refine lv_iload hx hb dL_tells_90 (lv_at hl 10 rfl) ?_
          refine lv_aload_n hx hb dL_tells_92 rfl (lv_at hl 4 rfl) ?_
          refine lv_iconst (v := nI 1) hx hb dL_tells_93 (by decide) ?_
          refine zx_iald (D := D) hx hb hK hP 5 0 rfl rfl (v := nI n) ((congrArg nI ((cg_lo hcg (by omega)).trans (cb1.trans c1)))) (by decide) (by first | decide | omega) dL_tells_94 ?_
          refine lv_icmp_ge (tgt := 148) hx hb dL_tells_95 (by decide) (fun _ => ?_) (fun h9 => absurd ((nI_leI (a := n) (b := n) (by omega) (by omega)).mpr (by omega)) h9)
          refine lv_aload_n hx hb dL_tells_148 rfl (lv_at hl 3 rfl) ?_
          refine vp_callSi (W.runV (As := []) (rest := []) ⟨hx, hb, hml, hown, hts⟩ (m_X5_today_ok l D x pr mk os ch2__10 gd bd (t + 1)) (cwV 0 hts gL_tells_X5_today rfl rfl rfl (by decide +kernel) ⟨Nat.le_of_ble_eq_true rfl, Nat.le_of_ble_eq_true rfl⟩) (z1_V (va_recv hK hP (ci := 5) (q0 := 0) rfl rfl) (hP.sub (ws' := [(x, .inr (5, [.ref pr, .ref mk, .ref os, .long ch2__10, .long gd])), (pr, .inr (3, [.ref bd, .int (nI (t + 1))]))]) [0, 1] rfl) (hK.sub (tys' := []) [] rfl) hG) rfl rfl hl.1 rfl (lv_room (Nat.le_of_ble_eq_true rfl)) dL_tells_149 ⟨Nat.le_of_ble_eq_true rfl, Nat.le_of_ble_eq_true rfl⟩) (fun r_19 e_r_19 => ?_)
          replace e_r_19 := e_r_19.symm; subst e_r_19
          refine lv_iload hx hb dL_tells_152 (lv_at hl 1 rfl) ?_
          refine lv_icmp_ne (tgt := 214) hx hb dL_tells_154 (by decide) (fun h9 => absurd ((nI_eq (a := t + 1) (b := t + 1) (by omega) (by omega)).mpr (by omega)) h9) (fun _ => ?_)
          refine lv_aload_n hx hb dL_tells_157 rfl (lv_at hl 3 rfl) ?_
          refine vp_callSi (W.runV (As := []) (rest := []) ⟨hx, hb, hml, hown, hts⟩ (m_X5_waiting_ok l D x pr mk os ch2__10 gd og__4 em2 0) (cwV 0 hts gL_tells_X5_waiting rfl rfl rfl (by decide +kernel) ⟨Nat.le_of_ble_eq_true rfl, Nat.le_of_ble_eq_true rfl⟩) (z1_V (va_recv hK hP (ci := 5) (q0 := 0) rfl rfl) (hP.sub (ws' := [(x, .inr (5, [.ref pr, .ref mk, .ref os, .long ch2__10, .long gd])), (os, .inr (0, [.int og__4, .ref em2, .int (nI 0)]))]) [0, 4] rfl) (hK.sub (tys' := []) [] rfl) hG) rfl rfl hl.1 rfl (lv_room (Nat.le_of_ble_eq_true rfl)) dL_tells_158 ⟨Nat.le_of_ble_eq_true rfl, Nat.le_of_ble_eq_true rfl⟩) (fun r_20 e_r_20 => ?_)
          replace e_r_20 := e_r_20.symm; subst e_r_20
          refine lv_if_ne (tgt := 214) hx hb dL_tells_161 (by decide) (fun h9 => absurd (by decide) h9) (fun _ => ?_)
          refine lv_iload hx hb dL_tells_164 (lv_at hl 9 rfl) ?_
          refine lv_iload hx hb dL_tells_166 (lv_at hl 8 rfl) ?_
          refine lv_iload hx hb dL_tells_168 (lv_at hl 0 rfl) ?_
          refine zx_isub (v := nI ((onC fz n) - ct2__11)) hx hb dL_tells_170 (pk_sub (by omega)) ?_
          refine lv_icmp_ne (tgt := 214) hx hb dL_tells_171 (by decide) (fun h9 => absurd ((nI_eq (a := onC fz2__9 n) (b := (onC fz n) - ct2__11) (by omega) (by omega)).mpr (by omega)) h9) (fun _ => ?_)
          refine lv_iload hx hb dL_tells_174 (lv_at hl 1 rfl) ?_
          refine lv_bipush (v := nI 30) hx hb dL_tells_176 (by decide) ?_
          refine lv_irem hx hb dL_tells_178 (by decide) ?_
          refine lv_topi (fun z_178 ez_178 => ?_)
          have ez_178 : z_178 = nI ((t + 1) % 30) := ez_178.trans (pk_rem (by omega) (by omega) (by omega))
          subst ez_178
          refine lv_if_ne (tgt := 195) hx hb dL_tells_179 (by decide) (fun c_179 => ?_) (fun c_179 => ?_)
          · skip
            have n_179 : ¬ (t + 1) % 30 = 0 := fun h8 => c_179 ((nI_eq (a := (t + 1) % 30) (b := 0) (by omega) (by omega)).mpr h8)
            obtain ⟨r1, r2⟩ := q2 n_179
            refine lv_iload hx hb dL_tells_195 (lv_at hl 0 rfl) ?_
            refine lv_if_ne (tgt := 214) hx hb dL_tells_197 (by decide) (fun h9 => absurd ((nI_eq (a := ct2__11) (b := 0) (by omega) (by omega)).mpr (by omega)) h9) (fun _ => ?_)
            refine lv_aload_n hx hb dL_tells_200 rfl (lv_at hl 3 rfl) ?_
            refine vp_callSl (W.runV (As := []) (rest := []) ⟨hx, hb, hml, hown, hts⟩ (m_X5_charged_ok l D x pr mk os ch2__10 gd) (cwV 0 hts gL_tells_X5_charged rfl rfl rfl (by decide +kernel) ⟨Nat.le_of_ble_eq_true rfl, Nat.le_of_ble_eq_true rfl⟩) (z1_V (va_recv hK hP (ci := 5) (q0 := 0) rfl rfl) (hP.sub (ws' := [(x, .inr (5, [.ref pr, .ref mk, .ref os, .long ch2__10, .long gd]))]) [0] rfl) (hK.sub (tys' := []) [] rfl) hG) rfl rfl hl.1 rfl (lv_room (Nat.le_of_ble_eq_true rfl)) dL_tells_201 ⟨Nat.le_of_ble_eq_true rfl, Nat.le_of_ble_eq_true rfl⟩) (fun r_21 e_r_21 => ?_)
            replace e_r_21 := e_r_21.symm; subst e_r_21
            refine lv_lload hx hb dL_tells_204 (lv_at hl 2 rfl) ?_
            refine zx_lcmp_ne (tgt := 214) hx hb dL_tells_206 dL_tells_207 (by decide) (fun h9 => absurd r2 h9) (fun _ => ?_)
            refine lv_iconst (v := nI 1) hx hb dL_tells_210 (by decide) ?_
            refine lv_goto (tgt := 215) hx hb dL_tells_211 (by decide) ?_
            refine lv_istore (lv' := [(11, .int (nI 1)), (9, .int (nI ct2__11)), (7, .int (nI (t + 1))), (5, .long ch), (0, .ref x), (1, .ref cc), (2, .int (nI a1)), (3, .int (nI a2)), (4, .int (nI a3)), (8, .int (nI (onC fz n))), (10, .int (nI (onC fz2__9 n)))]) hx hb dL_tells_215 hl (by decide) rfl (fun ls hl => ?_)
            refine lv_iload hx hb dL_tells_217 (lv_at hl 0 rfl) ?_
            refine lv_if_eq (tgt := 278) hx hb dL_tells_219 (by decide) (fun h9 => absurd h9 (by decide)) (fun _ => ?_)
            refine lv_aload_n hx hb dL_tells_222 rfl (lv_at hl 4 rfl) ?_
            refine lv_iconst (v := nI 0) hx hb dL_tells_223 (by decide) ?_
            refine lv_iload hx hb dL_tells_224 (lv_at hl 2 rfl) ?_
            refine vp_callSi (W.runV (As := [.int (nI 0), .int (nI (t + 1))]) (rest := []) ⟨hx, hb, hml, hown, hts⟩ (m_X5_offer_ok l D x pr mk os ch2__10 gd bd (t + 1) cI bg__3 0 (t + 1) (by first | omega | assumption) (by first | omega | assumption) (by first | omega | assumption)) (cwV 2 hts gL_tells_X5_offer rfl rfl rfl (by decide +kernel) ⟨Nat.le_of_ble_eq_true rfl, Nat.le_of_ble_eq_true rfl⟩) (z1_V (va_recv hK hP (ci := 5) (q0 := 0) rfl rfl) (hP.sub (ws' := [(x, .inr (5, [.ref pr, .ref mk, .ref os, .long ch2__10, .long gd])), (pr, .inr (3, [.ref bd, .int (nI (t + 1))])), (bd, .inl (cI, 6003, .inl bg__3))]) [0, 1, 2] rfl) (hK.sub (tys' := [(cI, .int)]) [0] rfl) hG) rfl rfl hl.1 rfl (lv_room (Nat.le_of_ble_eq_true rfl)) dL_tells_226 ⟨Nat.le_of_ble_eq_true rfl, Nat.le_of_ble_eq_true rfl⟩) (fun r_22 e_r_22 => ?_)
            have e_r_22 : r_22 = nI (a1 * 105 / 100) := e_r_22.trans (b0)
            replace e_r_22 := e_r_22.symm; subst e_r_22
            refine lv_iload_n hx hb dL_tells_229 rfl (lv_at hl 6 rfl) ?_
            refine lv_bipush (v := nI 105) hx hb dL_tells_230 (by decide) ?_
            refine zx_imul (v := nI (a1 * 105)) hx hb dL_tells_232 (pk_mul _ _) ?_
            refine lv_bipush (v := nI 100) hx hb dL_tells_233 (by decide) ?_
            refine zx_idiv (v := nI ((a1 * 105) / 100)) hx hb dL_tells_235 (by decide) (pk_div (by omega) (by omega) (by omega)) ?_
            refine lv_icmp_ne (tgt := 278) hx hb dL_tells_236 (by decide) (fun h9 => absurd ((nI_eq (a := a1 * 105 / 100) (b := (a1 * 105) / 100) (by omega) (by omega)).mpr (by omega)) h9) (fun _ => ?_)
            refine lv_aload_n hx hb dL_tells_239 rfl (lv_at hl 4 rfl) ?_
            refine lv_iconst (v := nI 1) hx hb dL_tells_240 (by decide) ?_
            refine lv_iload hx hb dL_tells_241 (lv_at hl 2 rfl) ?_
            refine vp_callSi (W.runV (As := [.int (nI 1), .int (nI (t + 1))]) (rest := []) ⟨hx, hb, hml, hown, hts⟩ (m_X5_offer_ok l D x pr mk os ch2__10 gd bd (t + 1) cI bg__3 1 (t + 1) (by first | omega | assumption) (by first | omega | assumption) (by first | omega | assumption)) (cwV 2 hts gL_tells_X5_offer rfl rfl rfl (by decide +kernel) ⟨Nat.le_of_ble_eq_true rfl, Nat.le_of_ble_eq_true rfl⟩) (z1_V (va_recv hK hP (ci := 5) (q0 := 0) rfl rfl) (hP.sub (ws' := [(x, .inr (5, [.ref pr, .ref mk, .ref os, .long ch2__10, .long gd])), (pr, .inr (3, [.ref bd, .int (nI (t + 1))])), (bd, .inl (cI, 6003, .inl bg__3))]) [0, 1, 2] rfl) (hK.sub (tys' := [(cI, .int)]) [0] rfl) hG) rfl rfl hl.1 rfl (lv_room (Nat.le_of_ble_eq_true rfl)) dL_tells_243 ⟨Nat.le_of_ble_eq_true rfl, Nat.le_of_ble_eq_true rfl⟩) (fun r_23 e_r_23 => ?_)
            have e_r_23 : r_23 = nI (a2 * 105 / 100) := e_r_23.trans (b1)
            replace e_r_23 := e_r_23.symm; subst e_r_23
            refine lv_iload_n hx hb dL_tells_246 rfl (lv_at hl 7 rfl) ?_
            refine lv_bipush (v := nI 105) hx hb dL_tells_247 (by decide) ?_
            refine zx_imul (v := nI (a2 * 105)) hx hb dL_tells_249 (pk_mul _ _) ?_
            refine lv_bipush (v := nI 100) hx hb dL_tells_250 (by decide) ?_
            refine zx_idiv (v := nI ((a2 * 105) / 100)) hx hb dL_tells_252 (by decide) (pk_div (by omega) (by omega) (by omega)) ?_
            refine lv_icmp_ne (tgt := 278) hx hb dL_tells_253 (by decide) (fun h9 => absurd ((nI_eq (a := a2 * 105 / 100) (b := (a2 * 105) / 100) (by omega) (by omega)).mpr (by omega)) h9) (fun _ => ?_)
            refine lv_aload_n hx hb dL_tells_256 rfl (lv_at hl 4 rfl) ?_
            refine lv_iconst (v := nI 2) hx hb dL_tells_257 (by decide) ?_
            refine lv_iload hx hb dL_tells_258 (lv_at hl 2 rfl) ?_
            refine vp_callSi (W.runV (As := [.int (nI 2), .int (nI (t + 1))]) (rest := []) ⟨hx, hb, hml, hown, hts⟩ (m_X5_offer_ok l D x pr mk os ch2__10 gd bd (t + 1) cI bg__3 2 (t + 1) (by first | omega | assumption) (by first | omega | assumption) (by first | omega | assumption)) (cwV 2 hts gL_tells_X5_offer rfl rfl rfl (by decide +kernel) ⟨Nat.le_of_ble_eq_true rfl, Nat.le_of_ble_eq_true rfl⟩) (z1_V (va_recv hK hP (ci := 5) (q0 := 0) rfl rfl) (hP.sub (ws' := [(x, .inr (5, [.ref pr, .ref mk, .ref os, .long ch2__10, .long gd])), (pr, .inr (3, [.ref bd, .int (nI (t + 1))])), (bd, .inl (cI, 6003, .inl bg__3))]) [0, 1, 2] rfl) (hK.sub (tys' := [(cI, .int)]) [0] rfl) hG) rfl rfl hl.1 rfl (lv_room (Nat.le_of_ble_eq_true rfl)) dL_tells_260 ⟨Nat.le_of_ble_eq_true rfl, Nat.le_of_ble_eq_true rfl⟩) (fun r_24 e_r_24 => ?_)
            have e_r_24 : r_24 = nI (a3 * 105 / 100) := e_r_24.trans (b2)
            replace e_r_24 := e_r_24.symm; subst e_r_24
            refine lv_iload hx hb dL_tells_263 (lv_at hl 8 rfl) ?_
            refine lv_bipush (v := nI 105) hx hb dL_tells_265 (by decide) ?_
            refine zx_imul (v := nI (a3 * 105)) hx hb dL_tells_267 (pk_mul _ _) ?_
            refine lv_bipush (v := nI 100) hx hb dL_tells_268 (by decide) ?_
            refine zx_idiv (v := nI ((a3 * 105) / 100)) hx hb dL_tells_270 (by decide) (pk_div (by omega) (by omega) (by omega)) ?_
            refine lv_icmp_ne (tgt := 278) hx hb dL_tells_271 (by decide) (fun h9 => absurd ((nI_eq (a := a3 * 105 / 100) (b := (a3 * 105) / 100) (by omega) (by omega)).mpr (by omega)) h9) (fun _ => ?_)
            refine lv_iconst (v := nI 1) hx hb dL_tells_274 (by decide) ?_
            refine lv_goto (tgt := 279) hx hb dL_tells_275 (by decide) ?_
            subst hQ
            subst hAe
            exact zretBz hx hb hr hlocks (fun t9 ht hv => ⟨ch2__10, gd, (t + 1), bg__3, mm, em1, n, og__4, em2, 0, fb2__5, fp, fs, fr, ff, fa2__8, fz2__9, fi2__6, fu2__7, fo, fq, fx, fy, cg, L, g__2, ca, aa, oa, NN_tell hNN hlt ha1 ha2 ha3 hp_14 cb0 cb2 cb3 cb4 cb5 cb1 cbr hcg, hp_15, hp_16, (fun j hj => absurd hj (Nat.not_lt_zero j)), hp_17, hp_18, hneL, by rw [ht]; exact hP, va_K.moved hv (hK.sub [0, 1, 2] rfl), hD⟩) hS dL_tells_279 (Nat.le_of_ble_eq_true rfl) (Nat.le_of_ble_eq_true rfl) rfl (rfl)
          · skip
            have n_179 : (t + 1) % 30 = 0 := (nI_eq (a := (t + 1) % 30) (b := 0) (by omega) (by omega)).mp c_179
            refine lv_aload_n hx hb dL_tells_182 rfl (lv_at hl 3 rfl) ?_
            refine vp_callSl (W.runV (As := []) (rest := []) ⟨hx, hb, hml, hown, hts⟩ (m_X5_charged_ok l D x pr mk os ch2__10 gd) (cwV 0 hts gL_tells_X5_charged rfl rfl rfl (by decide +kernel) ⟨Nat.le_of_ble_eq_true rfl, Nat.le_of_ble_eq_true rfl⟩) (z1_V (va_recv hK hP (ci := 5) (q0 := 0) rfl rfl) (hP.sub (ws' := [(x, .inr (5, [.ref pr, .ref mk, .ref os, .long ch2__10, .long gd]))]) [0] rfl) (hK.sub (tys' := []) [] rfl) hG) rfl rfl hl.1 rfl (lv_room (Nat.le_of_ble_eq_true rfl)) dL_tells_183 ⟨Nat.le_of_ble_eq_true rfl, Nat.le_of_ble_eq_true rfl⟩) (fun r_25 e_r_25 => ?_)
            replace e_r_25 := e_r_25.symm; subst e_r_25
            refine lv_lload hx hb dL_tells_186 (lv_at hl 2 rfl) ?_
            refine zx_lcmp_lt (tgt := 214) hx hb dL_tells_188 dL_tells_189 (by decide) (fun h9 => absurd h9 q3) (fun _ => ?_)
            refine lv_goto (tgt := 210) hx hb dL_tells_192 (by decide) ?_
            refine lv_iconst (v := nI 1) hx hb dL_tells_210 (by decide) ?_
            refine lv_goto (tgt := 215) hx hb dL_tells_211 (by decide) ?_
            refine lv_istore (lv' := [(11, .int (nI 1)), (9, .int (nI ct2__11)), (7, .int (nI (t + 1))), (5, .long ch), (0, .ref x), (1, .ref cc), (2, .int (nI a1)), (3, .int (nI a2)), (4, .int (nI a3)), (8, .int (nI (onC fz n))), (10, .int (nI (onC fz2__9 n)))]) hx hb dL_tells_215 hl (by decide) rfl (fun ls hl => ?_)
            refine lv_iload hx hb dL_tells_217 (lv_at hl 0 rfl) ?_
            refine lv_if_eq (tgt := 278) hx hb dL_tells_219 (by decide) (fun h9 => absurd h9 (by decide)) (fun _ => ?_)
            refine lv_aload_n hx hb dL_tells_222 rfl (lv_at hl 4 rfl) ?_
            refine lv_iconst (v := nI 0) hx hb dL_tells_223 (by decide) ?_
            refine lv_iload hx hb dL_tells_224 (lv_at hl 2 rfl) ?_
            refine vp_callSi (W.runV (As := [.int (nI 0), .int (nI (t + 1))]) (rest := []) ⟨hx, hb, hml, hown, hts⟩ (m_X5_offer_ok l D x pr mk os ch2__10 gd bd (t + 1) cI bg__3 0 (t + 1) (by first | omega | assumption) (by first | omega | assumption) (by first | omega | assumption)) (cwV 2 hts gL_tells_X5_offer rfl rfl rfl (by decide +kernel) ⟨Nat.le_of_ble_eq_true rfl, Nat.le_of_ble_eq_true rfl⟩) (z1_V (va_recv hK hP (ci := 5) (q0 := 0) rfl rfl) (hP.sub (ws' := [(x, .inr (5, [.ref pr, .ref mk, .ref os, .long ch2__10, .long gd])), (pr, .inr (3, [.ref bd, .int (nI (t + 1))])), (bd, .inl (cI, 6003, .inl bg__3))]) [0, 1, 2] rfl) (hK.sub (tys' := [(cI, .int)]) [0] rfl) hG) rfl rfl hl.1 rfl (lv_room (Nat.le_of_ble_eq_true rfl)) dL_tells_226 ⟨Nat.le_of_ble_eq_true rfl, Nat.le_of_ble_eq_true rfl⟩) (fun r_26 e_r_26 => ?_)
            have e_r_26 : r_26 = nI (a1 * 105 / 100) := e_r_26.trans (b0)
            replace e_r_26 := e_r_26.symm; subst e_r_26
            refine lv_iload_n hx hb dL_tells_229 rfl (lv_at hl 6 rfl) ?_
            refine lv_bipush (v := nI 105) hx hb dL_tells_230 (by decide) ?_
            refine zx_imul (v := nI (a1 * 105)) hx hb dL_tells_232 (pk_mul _ _) ?_
            refine lv_bipush (v := nI 100) hx hb dL_tells_233 (by decide) ?_
            refine zx_idiv (v := nI ((a1 * 105) / 100)) hx hb dL_tells_235 (by decide) (pk_div (by omega) (by omega) (by omega)) ?_
            refine lv_icmp_ne (tgt := 278) hx hb dL_tells_236 (by decide) (fun h9 => absurd ((nI_eq (a := a1 * 105 / 100) (b := (a1 * 105) / 100) (by omega) (by omega)).mpr (by omega)) h9) (fun _ => ?_)
            refine lv_aload_n hx hb dL_tells_239 rfl (lv_at hl 4 rfl) ?_
            refine lv_iconst (v := nI 1) hx hb dL_tells_240 (by decide) ?_
            refine lv_iload hx hb dL_tells_241 (lv_at hl 2 rfl) ?_
            refine vp_callSi (W.runV (As := [.int (nI 1), .int (nI (t + 1))]) (rest := []) ⟨hx, hb, hml, hown, hts⟩ (m_X5_offer_ok l D x pr mk os ch2__10 gd bd (t + 1) cI bg__3 1 (t + 1) (by first | omega | assumption) (by first | omega | assumption) (by first | omega | assumption)) (cwV 2 hts gL_tells_X5_offer rfl rfl rfl (by decide +kernel) ⟨Nat.le_of_ble_eq_true rfl, Nat.le_of_ble_eq_true rfl⟩) (z1_V (va_recv hK hP (ci := 5) (q0 := 0) rfl rfl) (hP.sub (ws' := [(x, .inr (5, [.ref pr, .ref mk, .ref os, .long ch2__10, .long gd])), (pr, .inr (3, [.ref bd, .int (nI (t + 1))])), (bd, .inl (cI, 6003, .inl bg__3))]) [0, 1, 2] rfl) (hK.sub (tys' := [(cI, .int)]) [0] rfl) hG) rfl rfl hl.1 rfl (lv_room (Nat.le_of_ble_eq_true rfl)) dL_tells_243 ⟨Nat.le_of_ble_eq_true rfl, Nat.le_of_ble_eq_true rfl⟩) (fun r_27 e_r_27 => ?_)
            have e_r_27 : r_27 = nI (a2 * 105 / 100) := e_r_27.trans (b1)
            replace e_r_27 := e_r_27.symm; subst e_r_27
            refine lv_iload_n hx hb dL_tells_246 rfl (lv_at hl 7 rfl) ?_
            refine lv_bipush (v := nI 105) hx hb dL_tells_247 (by decide) ?_
            refine zx_imul (v := nI (a2 * 105)) hx hb dL_tells_249 (pk_mul _ _) ?_
            refine lv_bipush (v := nI 100) hx hb dL_tells_250 (by decide) ?_
            refine zx_idiv (v := nI ((a2 * 105) / 100)) hx hb dL_tells_252 (by decide) (pk_div (by omega) (by omega) (by omega)) ?_
            refine lv_icmp_ne (tgt := 278) hx hb dL_tells_253 (by decide) (fun h9 => absurd ((nI_eq (a := a2 * 105 / 100) (b := (a2 * 105) / 100) (by omega) (by omega)).mpr (by omega)) h9) (fun _ => ?_)
            refine lv_aload_n hx hb dL_tells_256 rfl (lv_at hl 4 rfl) ?_
            refine lv_iconst (v := nI 2) hx hb dL_tells_257 (by decide) ?_
            refine lv_iload hx hb dL_tells_258 (lv_at hl 2 rfl) ?_
            refine vp_callSi (W.runV (As := [.int (nI 2), .int (nI (t + 1))]) (rest := []) ⟨hx, hb, hml, hown, hts⟩ (m_X5_offer_ok l D x pr mk os ch2__10 gd bd (t + 1) cI bg__3 2 (t + 1) (by first | omega | assumption) (by first | omega | assumption) (by first | omega | assumption)) (cwV 2 hts gL_tells_X5_offer rfl rfl rfl (by decide +kernel) ⟨Nat.le_of_ble_eq_true rfl, Nat.le_of_ble_eq_true rfl⟩) (z1_V (va_recv hK hP (ci := 5) (q0 := 0) rfl rfl) (hP.sub (ws' := [(x, .inr (5, [.ref pr, .ref mk, .ref os, .long ch2__10, .long gd])), (pr, .inr (3, [.ref bd, .int (nI (t + 1))])), (bd, .inl (cI, 6003, .inl bg__3))]) [0, 1, 2] rfl) (hK.sub (tys' := [(cI, .int)]) [0] rfl) hG) rfl rfl hl.1 rfl (lv_room (Nat.le_of_ble_eq_true rfl)) dL_tells_260 ⟨Nat.le_of_ble_eq_true rfl, Nat.le_of_ble_eq_true rfl⟩) (fun r_28 e_r_28 => ?_)
            have e_r_28 : r_28 = nI (a3 * 105 / 100) := e_r_28.trans (b2)
            replace e_r_28 := e_r_28.symm; subst e_r_28
            refine lv_iload hx hb dL_tells_263 (lv_at hl 8 rfl) ?_
            refine lv_bipush (v := nI 105) hx hb dL_tells_265 (by decide) ?_
            refine zx_imul (v := nI (a3 * 105)) hx hb dL_tells_267 (pk_mul _ _) ?_
            refine lv_bipush (v := nI 100) hx hb dL_tells_268 (by decide) ?_
            refine zx_idiv (v := nI ((a3 * 105) / 100)) hx hb dL_tells_270 (by decide) (pk_div (by omega) (by omega) (by omega)) ?_
            refine lv_icmp_ne (tgt := 278) hx hb dL_tells_271 (by decide) (fun h9 => absurd ((nI_eq (a := a3 * 105 / 100) (b := (a3 * 105) / 100) (by omega) (by omega)).mpr (by omega)) h9) (fun _ => ?_)
            refine lv_iconst (v := nI 1) hx hb dL_tells_274 (by decide) ?_
            refine lv_goto (tgt := 279) hx hb dL_tells_275 (by decide) ?_
            subst hQ
            subst hAe
            exact zretBz hx hb hr hlocks (fun t9 ht hv => ⟨ch2__10, gd, (t + 1), bg__3, mm, em1, n, og__4, em2, 0, fb2__5, fp, fs, fr, ff, fa2__8, fz2__9, fi2__6, fu2__7, fo, fq, fx, fy, cg, L, g__2, ca, aa, oa, NN_tell hNN hlt ha1 ha2 ha3 hp_14 cb0 cb2 cb3 cb4 cb5 cb1 cbr hcg, hp_15, hp_16, (fun j hj => absurd hj (Nat.not_lt_zero j)), hp_17, hp_18, hneL, by rw [ht]; exact hP, va_K.moved hv (hK.sub [0, 1, 2] rfl), hD⟩) hS dL_tells_279 (Nat.le_of_ble_eq_true rfl) (Nat.le_of_ble_eq_true rfl) rfl (rfl)
        | succ d ih =>
          intro i cg H locs ls hid hcg hP hD hS hl
          refine lv_iload hx hb dL_tells_90 (lv_at hl 10 rfl) ?_
          refine lv_aload_n hx hb dL_tells_92 rfl (lv_at hl 4 rfl) ?_
          refine lv_iconst (v := nI 1) hx hb dL_tells_93 (by decide) ?_
          refine zx_iald (D := D) hx hb hK hP 5 0 rfl rfl (v := nI n) ((congrArg nI ((cg_lo hcg (by omega)).trans (cb1.trans c1)))) (by decide) (by first | decide | omega) dL_tells_94 ?_
          refine lv_icmp_ge (tgt := 148) hx hb dL_tells_95 (by decide) (fun h9 => absurd h9 (fun h8 => absurd ((nI_leI (a := n) (b := i) (by omega) (by omega)).mp h8) (by omega))) (fun _ => ?_)
          refine lv_iload hx hb dL_tells_98 (lv_at hl 9 rfl) ?_
          refine lv_aload_n hx hb dL_tells_100 rfl (lv_at hl 3 rfl) ?_
          refine lv_iload hx hb dL_tells_101 (lv_at hl 10 rfl) ?_
          have hPs : va_P D vwCl (([(x, .inr (5, [.ref pr, .ref mk, .ref os, .long ch2__10, .long gd])), (pr, .inr (3, [.ref bd, .int (nI (t + 1))])), (bd, .inl (cI, 6003, .inl bg__3)), (mk, .inr (0, [.int mm, .ref em1, .int (nI n)])), (os, .inr (0, [.int og__4, .ref em2, .int (nI 0)]))] : va_W) ++ va_pl L g__2) _ := lp_Pl (va_P.swap (show va_P D vwCl ((([(x, .inr (5, [.ref pr, .ref mk, .ref os, .long ch2__10, .long gd])), (pr, .inr (3, [.ref bd, .int (nI (t + 1))])), (bd, .inl (cI, 6003, .inl bg__3)), (mk, .inr (0, [.int mm, .ref em1, .int (nI n)])), (os, .inr (0, [.int og__4, .ref em2, .int (nI 0)]))] : va_W) ++ ([(cc, .inl (cI, 30, .inl (nIf cg)))] : va_W)) ++ va_pl L g__2) _ from hP))
          refine vp_callSi (W.runV (As := [.int (nI i)]) (rest := [.int (nI (onC fz2__9 i))]) ⟨hx, hb, hml, hown, hts⟩ (p_isInForce l D x pr mk os ch2__10 gd bd (t + 1) cI bg__3 mm em1 n og__4 em2 0 L g__2 cJ cO ca aa fp fs fr ff fa2__8 fz2__9 fi2__6 fu2__7 em i (by first | omega | assumption) (by first | omega | assumption) (by first | omega | assumption) q7) (cwV 1 hts gL_tells_X5_isInForce rfl rfl rfl (by decide +kernel) ⟨Nat.le_of_ble_eq_true rfl, Nat.le_of_ble_eq_true rfl⟩) (z1_V (va_recv hK hPs (ci := 5) (q0 := 0) rfl rfl) hPs (hK.sub (tys' := [(cI, .int), (cJ, .long), (cO, .object "java/lang/Object")]) [0, 1, 2] rfl) hG) rfl rfl hl.1 rfl (lv_room (Nat.le_of_ble_eq_true rfl)) dL_tells_103 ⟨Nat.le_of_ble_eq_true rfl, Nat.le_of_ble_eq_true rfl⟩) (fun r_29 e_r_29 => ?_)
          replace e_r_29 := e_r_29.symm; subst e_r_29
          refine zj (T := Int32) (fr := fun z => F0 m 114 ls (.int z :: [.int (nI (onC fz2__9 i))])) (if (fz2__9 i) = 0 then nI 0 else nI 1) (fun z_30 e_z_30 => ?_) (fun j_z_30 => ?_)
          · skip
            have j9 : z_30 = nI (if fz2__9 i = 0 then 0 else 1) := by rw [e_z_30]; split <;> rfl
            subst j9
            refine zx_iadd (v := nI (onC fz2__9 (i + 1))) hx hb dL_tells_114 (on_add) ?_
            refine lv_istore (lv' := [(10, .int (nI (onC fz2__9 (i + 1)))), (9, .int (nI ct2__11)), (7, .int (nI (t + 1))), (5, .long ch), (0, .ref x), (1, .ref cc), (2, .int (nI a1)), (3, .int (nI a2)), (4, .int (nI a3)), (8, .int (nI (onC fz n))), (11, .int (nI i))]) hx hb dL_tells_115 hl (by decide) rfl (fun ls hl => ?_)
            refine lv_aload_n hx hb dL_tells_117 rfl (lv_at hl 5 rfl) ?_
            refine lv_bipush (v := nI 18) hx hb dL_tells_118 (by decide) ?_
            refine lv_iload hx hb dL_tells_120 (lv_at hl 10 rfl) ?_
            refine zx_iadd (v := nI (18 + i)) hx hb dL_tells_122 (nI_add _ _) ?_
            refine lv_dup2_11 hx hb dL_tells_123 rfl rfl ?_
            refine zx_iald (D := D) hx hb hK hP 5 0 rfl rfl (v := nI (cg (18 + i))) (rfl) (by omega) (by first | decide | omega) dL_tells_124 ?_
            refine lv_aload_n hx hb dL_tells_125 rfl (lv_at hl 5 rfl) ?_
            refine lv_bipush (v := nI 24) hx hb dL_tells_126 (by decide) ?_
            refine lv_iload hx hb dL_tells_128 (lv_at hl 10 rfl) ?_
            refine zx_iadd (v := nI (24 + i)) hx hb dL_tells_130 (nI_add _ _) ?_
            refine zx_iald (D := D) hx hb hK hP 5 0 rfl rfl (v := nI (cg (24 + i))) (rfl) (by omega) (by first | decide | omega) dL_tells_131 ?_
            refine zx_iadd (v := nI ((cg (18 + i)) + (cg (24 + i)))) hx hb dL_tells_132 (nI_add _ _) ?_
            refine zx_nast (D := D) hx hb hK hP hD hS 5 0 rfl rfl (by omega) (by decide) dL_tells_133 (fun H locs hP hD hS => ?_)
            have hP : va_P D vwCl (([(x, .inr (5, [.ref pr, .ref mk, .ref os, .long ch2__10, .long gd])), (pr, .inr (3, [.ref bd, .int (nI (t + 1))])), (bd, .inl (cI, 6003, .inl bg__3)), (mk, .inr (0, [.int mm, .ref em1, .int (nI n)])), (os, .inr (0, [.int og__4, .ref em2, .int (nI 0)])), (cc, .inl (cI, 30, .inl (nIf (va_up cg (18 + i) ((cg (18 + i)) + (cg (24 + i)))))))] : va_W) ++ va_pl L g__2) H := hP
            have hD : va_D A (([(x, .inr (5, [.ref pr, .ref mk, .ref os, .long ch2__10, .long gd])), (pr, .inr (3, [.ref bd, .int (nI (t + 1))])), (bd, .inl (cI, 6003, .inl bg__3)), (mk, .inr (0, [.int mm, .ref em1, .int (nI n)])), (os, .inr (0, [.int og__4, .ref em2, .int (nI 0)])), (cc, .inl (cI, 30, .inl (nIf (va_up cg (18 + i) ((cg (18 + i)) + (cg (24 + i)))))))] : va_W) ++ va_pl L g__2) := hD
            refine lv_aload_n hx hb dL_tells_134 rfl (lv_at hl 5 rfl) ?_
            refine lv_bipush (v := nI 24) hx hb dL_tells_135 (by decide) ?_
            refine lv_iload hx hb dL_tells_137 (lv_at hl 10 rfl) ?_
            refine zx_iadd (v := nI (24 + i)) hx hb dL_tells_139 (nI_add _ _) ?_
            refine lv_iconst (v := nI 0) hx hb dL_tells_140 (by decide) ?_
            refine zx_nast (D := D) hx hb hK hP hD hS 5 0 rfl rfl (by omega) (by decide) dL_tells_141 (fun H locs hP hD hS => ?_)
            have hP : va_P D vwCl (([(x, .inr (5, [.ref pr, .ref mk, .ref os, .long ch2__10, .long gd])), (pr, .inr (3, [.ref bd, .int (nI (t + 1))])), (bd, .inl (cI, 6003, .inl bg__3)), (mk, .inr (0, [.int mm, .ref em1, .int (nI n)])), (os, .inr (0, [.int og__4, .ref em2, .int (nI 0)])), (cc, .inl (cI, 30, .inl (nIf (va_up (va_up cg (18 + i) ((cg (18 + i)) + (cg (24 + i)))) (24 + i) 0))))] : va_W) ++ va_pl L g__2) H := hP
            have hD : va_D A (([(x, .inr (5, [.ref pr, .ref mk, .ref os, .long ch2__10, .long gd])), (pr, .inr (3, [.ref bd, .int (nI (t + 1))])), (bd, .inl (cI, 6003, .inl bg__3)), (mk, .inr (0, [.int mm, .ref em1, .int (nI n)])), (os, .inr (0, [.int og__4, .ref em2, .int (nI 0)])), (cc, .inl (cI, 30, .inl (nIf (va_up (va_up cg (18 + i) ((cg (18 + i)) + (cg (24 + i)))) (24 + i) 0))))] : va_W) ++ va_pl L g__2) := hD
            refine lv_iinc (v := nI (i + 1)) (lv' := [(11, .int (nI (i + 1))), (10, .int (nI (onC fz2__9 (i + 1)))), (9, .int (nI ct2__11)), (7, .int (nI (t + 1))), (5, .long ch), (0, .ref x), (1, .ref cc), (2, .int (nI a1)), (3, .int (nI a2)), (4, .int (nI a3)), (8, .int (nI (onC fz n)))]) hx hb dL_tells_142 hl (k := 10) rfl (nI_1 i) (by decide) rfl (fun ls hl => ?_)
            refine lv_goto (tgt := 90) hx hb dL_tells_145 (by decide) ?_
            exact ih (i + 1) (va_up (va_up cg (18 + i) ((cg (18 + i)) + (cg (24 + i)))) (24 + i) 0) H locs ls (by omega) (cg_s (by omega) hcg) hP hD hS (lv_sub hl [2, 3, 4, 5, 6, 7, 8, 9, 10, 1, 0] rfl)
          · refine lv_if_eq (tgt := 113) hx hb dL_tells_106 (by decide) (fun c_106 => ?_) (fun c_106 => ?_)
            · skip
              refine lv_iconst (v := nI 0) hx hb dL_tells_113 (by decide) ?_
              exact j_z_30 _ (by rw [if_pos c_106])
            · skip
              refine lv_iconst (v := nI 1) hx hb dL_tells_109 (by decide) ?_
              refine lv_goto (tgt := 114) hx hb dL_tells_110 (by decide) ?_
              exact j_z_30 _ (by rw [if_neg c_106])
      exact loop_90 (n) 0 cb _ _ ls (by omega) cg_0 hP hD hS (lv_sub hl [2, 3, 4, 5, 6, 7, 8, 9, 10, 1, 0] rfl)
    | succ d ih =>
      intro i   ls hid   hl
      refine lv_iload hx hb dL_tells_19 (lv_at hl 8 rfl) ?_
      refine lv_aload_n hx hb dL_tells_21 rfl (lv_at hl 3 rfl) ?_
      refine lv_iconst (v := nI 1) hx hb dL_tells_22 (by decide) ?_
      refine zx_iald (D := D) hx hb hK hP 5 0 rfl rfl (v := nI n) ((congrArg nI c1)) (by decide) (by first | decide | omega) dL_tells_23 ?_
      refine lv_icmp_ge (tgt := 52) hx hb dL_tells_24 (by decide) (fun h9 => absurd h9 (fun h8 => absurd ((nI_leI (a := n) (b := i) (by omega) (by omega)).mp h8) (by omega))) (fun _ => ?_)
      refine lv_iload hx hb dL_tells_27 (lv_at hl 7 rfl) ?_
      refine lv_aload_n hx hb dL_tells_29 rfl (lv_at hl 2 rfl) ?_
      refine lv_iload hx hb dL_tells_30 (lv_at hl 8 rfl) ?_
      have hPs : va_P D vwCl (([(x, .inr (5, [.ref pr, .ref mk, .ref os, .long ch, .long gd])), (pr, .inr (3, [.ref bd, .int (nI t)])), (bd, .inl (cI, 6003, .inl bf)), (mk, .inr (0, [.int mm, .ref em1, .int (nI n)])), (os, .inr (0, [.int om, .ref em2, .int (nI k)]))] : va_W) ++ va_pl L f) _ := lp_Pl (va_P.swap (show va_P D vwCl ((([(x, .inr (5, [.ref pr, .ref mk, .ref os, .long ch, .long gd])), (pr, .inr (3, [.ref bd, .int (nI t)])), (bd, .inl (cI, 6003, .inl bf)), (mk, .inr (0, [.int mm, .ref em1, .int (nI n)])), (os, .inr (0, [.int om, .ref em2, .int (nI k)]))] : va_W) ++ ([(cc, .inl (cI, 30, .inl (nIf cf)))] : va_W)) ++ va_pl L f) _ from hP))
      refine vp_callSi (W.runV (As := [.int (nI i)]) (rest := [.int (nI (onC fz i))]) ⟨hx, hb, hml, hown, hts⟩ (p_isInForce l D x pr mk os ch gd bd t cI bf mm em1 n om em2 k L f cJ cO ca aa fp fs fr ff fa fz fi fu em i (by first | omega | assumption) (by first | omega | assumption) (by first | omega | assumption) nFZ) (cwV 1 hts gL_tells_X5_isInForce rfl rfl rfl (by decide +kernel) ⟨Nat.le_of_ble_eq_true rfl, Nat.le_of_ble_eq_true rfl⟩) (z1_V (va_recv hK hPs (ci := 5) (q0 := 0) rfl rfl) hPs (hK.sub (tys' := [(cI, .int), (cJ, .long), (cO, .object "java/lang/Object")]) [0, 1, 2] rfl) hG) rfl rfl hl.1 rfl (lv_room (Nat.le_of_ble_eq_true rfl)) dL_tells_32 ⟨Nat.le_of_ble_eq_true rfl, Nat.le_of_ble_eq_true rfl⟩) (fun r_31 e_r_31 => ?_)
      replace e_r_31 := e_r_31.symm; subst e_r_31
      refine zj (T := Int32) (fr := fun z => F0 m 43 ls (.int z :: [.int (nI (onC fz i))])) (if (fz i) = 0 then nI 0 else nI 1) (fun z_32 e_z_32 => ?_) (fun j_z_32 => ?_)
      · skip
        have j9 : z_32 = nI (if fz i = 0 then 0 else 1) := by rw [e_z_32]; split <;> rfl
        subst j9
        refine zx_iadd (v := nI (onC fz (i + 1))) hx hb dL_tells_43 (on_add) ?_
        refine lv_istore (lv' := [(8, .int (nI (onC fz (i + 1)))), (7, .int (nI (t + 1))), (5, .long ch), (0, .ref x), (1, .ref cc), (2, .int (nI a1)), (3, .int (nI a2)), (4, .int (nI a3)), (9, .int (nI i))]) hx hb dL_tells_44 hl (by decide) rfl (fun ls hl => ?_)
        refine lv_iinc (v := nI (i + 1)) (lv' := [(9, .int (nI (i + 1))), (8, .int (nI (onC fz (i + 1)))), (7, .int (nI (t + 1))), (5, .long ch), (0, .ref x), (1, .ref cc), (2, .int (nI a1)), (3, .int (nI a2)), (4, .int (nI a3))]) hx hb dL_tells_46 hl (k := 8) rfl (nI_1 i) (by decide) rfl (fun ls hl => ?_)
        refine lv_goto (tgt := 19) hx hb dL_tells_49 (by decide) ?_
        exact ih (i + 1)   ls (by omega)   (lv_sub hl [2, 3, 4, 5, 6, 7, 8, 1, 0] rfl)
      · refine lv_if_eq (tgt := 42) hx hb dL_tells_35 (by decide) (fun c_35 => ?_) (fun c_35 => ?_)
        · skip
          refine lv_iconst (v := nI 0) hx hb dL_tells_42 (by decide) ?_
          exact j_z_32 _ (by rw [if_pos c_35])
        · skip
          refine lv_iconst (v := nI 1) hx hb dL_tells_38 (by decide) ?_
          refine lv_goto (tgt := 43) hx hb dL_tells_39 (by decide) ?_
          exact j_z_32 _ (by rw [if_neg c_35])
  exact loop_19 (n) 0   ls (by omega)   (lv_sub hl [2, 3, 4, 5, 6, 7, 8, 1, 0] rfl)
