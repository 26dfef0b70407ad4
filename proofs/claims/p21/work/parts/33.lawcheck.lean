/-! THE LAW'S areContracts -/
theorem vB_ge0 {B : Nat} {x : Int64} (h : vB B x) (hB : B < 2 ^ 63) : ¬ x < 0 := by
  obtain ⟨u, h1, rfl⟩ := h
  exact fun q => absurd ((pk_lLT (b := 0) (by omega) (by decide)).mp q) (Nat.not_lt_zero u)
theorem vB_le12 {x : Int64} (h : vB 1000000000000 x) : ¬ 1000000000000 < x := by
  obtain ⟨u, h1, rfl⟩ := h
  exact fun q => absurd ((pk_lLT (a := 1000000000000) (by decide) (by omega)).mp q) (Nat.not_lt.mpr h1)
theorem vB_pos {m : Nat} {x : Int64} (h : vB (100000000 * m) x) (h0 : ¬ x = 0) : 0 < m := by
  obtain ⟨u, h1, rfl⟩ := h
  rcases Nat.eq_zero_or_pos m with q | q
  · subst q
    obtain rfl : u = 0 := by omega
    exact absurd rfl h0
  · exact q
theorem all_s {al S a : Nat → Int64} {fund : Nat} {ini : Int64} (h : ∀ z : Nat, z < 3 → al z = S z) : ∀ z : Nat, z < 3 → vp_updL (vp_updL (vp_updL (vp_updL al fund (al fund + ini)) 0 ((vp_updL al fund (al fund + ini) 0) + a 0)) 1 ((vp_updL al fund (al fund + ini) 1) + a 1)) 2 ((vp_updL al fund (al fund + ini) 2) + a 2) z = S z + (a z + k_ini z fund ini) := by
  intro z hz
  have hx : vp_updL al fund (al fund + ini) z = S z + k_ini z fund ini := by
    unfold k_ini
    by_cases c : z = fund
    · subst c; rw [updL_same, if_pos rfl, h z hz]
    · rw [updL_ne c, if_neg c, h z hz, Int64.add_zero]
  have hy : S z + k_ini z fund ini + a z = S z + (a z + k_ini z fund ini) := by rw [Int64.add_assoc, Int64.add_comm (k_ini z fund ini)]
  rcases (show z = 0 ∨ z = 1 ∨ z = 2 by omega) with rfl | rfl | rfl
  · rw [updL_ne (by decide), updL_ne (by decide), updL_same, hx, hy]
  · rw [updL_ne (by decide), updL_same, hx, hy]
  · rw [updL_same, hx, hy]
set_option maxHeartbeats 4000000 in
set_option maxRecDepth 100000 in
/-- the law's areContracts -/
theorem m_L_areContracts (l : Launch) (D : va_G) (x pr mk os : Nat) (ch gd : Int64) (bd t : Nat) (cI : ClassId) (bf : Nat → Int32) (mm : Int32) (em1 n : Nat) (om : Int32) (em2 k : Nat) (L : List Nat) (f : Nat → va_E) (cJ : ClassId) (cO : ClassId) (ca aa : Nat → Nat) (fp fs fr : Nat → Int32) (ff fa : Nat → Nat) (fz : Nat → Int32) (fi fu : Nat → Int64) (em : Nat) (oa fo : Nat → Nat) (fq : Nat → Int32) (fx fy : Nat → Nat) (fb : Nat → Int32) (cc : Nat) (cf : Nat → Nat) (B : Nat) (hNN : NN B t n k ch fp fs fr ff fa fz fi fu fo fq fx fy fb cf) (hbi : BI bf fb t) (hCI : CI L f cJ n ca aa fp fs fr ff fa fz fi fu) (hOI : OI L f k n oa ca fo fq fx fy) (hU1 : UL cO em L f em1 n ca) (hU2 : UL cO em L f em2 k oa) (hneL : em1 ∈ L → em2 ∈ L → em1 ≠ em2) (sz : Nat)  : Met l yL_areContracts wsL_areContracts ({ frames := 5, cells := 1, slots := 3, locals := 108 }) (zq D (([(x, .inr (5, [.ref pr, .ref mk, .ref os, .long ch, .long gd])), (pr, .inr (3, [.ref bd, .int (nI t)])), (bd, .inl (cI, 6003, .inl bf)), (mk, .inr (0, [.int mm, .ref em1, .int (nI n)])), (os, .inr (0, [.int om, .ref em2, .int (nI k)])), (cc, .inl (cI, 30, .inl (nIf cf)))] : va_W) ++ va_pl L f) [(cI, .int), (cJ, .long), (cO, .object "java/lang/Object")] sz [.ref x, .ref cc] (fun U H => True)) (va_Qi (fun (r : Int32) (_ : Unit) => r = nI 1) (fun _ t9 => va_P D vwCl (([(x, .inr (5, [.ref pr, .ref mk, .ref os, .long ch, .long gd])), (pr, .inr (3, [.ref bd, .int (nI t)])), (bd, .inl (cI, 6003, .inl bf)), (mk, .inr (0, [.int mm, .ref em1, .int (nI n)])), (os, .inr (0, [.int om, .ref em2, .int (nI k)])), (cc, .inl (cI, 30, .inl (nIf cf)))] : va_W) ++ va_pl L f) t9.heap ∧ va_K D vwCl [(cI, .int), (cJ, .long), (cO, .object "java/lang/Object")] t9 ∧ va_D (va_A (([(x, .inr (5, [.ref pr, .ref mk, .ref os, .long ch, .long gd])), (pr, .inr (3, [.ref bd, .int (nI t)])), (bd, .inl (cI, 6003, .inl bf)), (mk, .inr (0, [.int mm, .ref em1, .int (nI n)])), (os, .inr (0, [.int om, .ref em2, .int (nI k)])), (cc, .inl (cI, 30, .inl (nIf cf)))] : va_W) ++ va_pl L f) sz) (([(x, .inr (5, [.ref pr, .ref mk, .ref os, .long ch, .long gd])), (pr, .inr (3, [.ref bd, .int (nI t)])), (bd, .inl (cI, 6003, .inl bf)), (mk, .inr (0, [.int mm, .ref em1, .int (nI n)])), (os, .inr (0, [.int om, .ref em2, .int (nI k)])), (cc, .inl (cI, 30, .inl (nIf cf)))] : va_W) ++ va_pl L f)) (va_A (([(x, .inr (5, [.ref pr, .ref mk, .ref os, .long ch, .long gd])), (pr, .inr (3, [.ref bd, .int (nI t)])), (bd, .inl (cI, 6003, .inl bf)), (mk, .inr (0, [.int mm, .ref em1, .int (nI n)])), (os, .inr (0, [.int om, .ref em2, .int (nI k)])), (cc, .inl (cI, 30, .inl (nIf cf)))] : va_W) ++ va_pl L f) sz)) 1 3 (va_A (([(x, .inr (5, [.ref pr, .ref mk, .ref os, .long ch, .long gd])), (pr, .inr (3, [.ref bd, .int (nI t)])), (bd, .inl (cI, 6003, .inl bf)), (mk, .inr (0, [.int mm, .ref em1, .int (nI n)])), (os, .inr (0, [.int om, .ref em2, .int (nI k)])), (cc, .inl (cI, 30, .inl (nIf cf)))] : va_W) ++ va_pl L f) sz) := by
  refine zmq (cc := cL_areContracts) (maxL := 12) (ret := (some .boolean)) (by decide) rfl (Nat.le_of_ble_eq_true rfl) ?_
  intro p e s m below meth c ls A hAe hsz hin hx hb hml hr hlocks hown hts hP hK hG hD hA hS hX hl
  subst hsz
  skip
  have hl : lv_has ls 12 [(0, .ref x), (1, .ref cc)] := hl
  have k_0 := hts (.arrayClass .long) (List.mem_of_getElem? (i := 1) rfl)
  have k_1 := hts (.constantLong RL 68 (1000)) (List.mem_of_getElem? (i := 2) rfl)
  have k_2 := hts (.constantLong RL 77 (1000000000000)) (List.mem_of_getElem? (i := 3) rfl)
  generalize hQ : MQ below _ _ _ _ _ _ = Q
  obtain ⟨nB, nT, nN, nK, nOk, nFF, nFZ, nFA, nZR, nOO, nFS, nFR, nNC, nCH, c0, c1, c2, c3, c4, c5⟩ := id hNN
  have p0 : (nI (cf 3)).toInt64 = (bf (t * 3 + 0)).toInt64 := by rw [hbi t 0 (Nat.le_refl _) (by decide)]; exact congrArg Int32.toInt64 (c3 0 (by decide)).2.2.symm
  have p1 : (nI (cf 4)).toInt64 = (bf (t * 3 + 1)).toInt64 := by rw [hbi t 1 (Nat.le_refl _) (by decide)]; exact congrArg Int32.toInt64 (c3 1 (by decide)).2.2.symm
  have p2 : (nI (cf 5)).toInt64 = (bf (t * 3 + 2)).toInt64 := by rw [hbi t 2 (Nat.le_refl _) (by decide)]; exact congrArg Int32.toInt64 (c3 2 (by decide)).2.2.symm
  refine lv_aload_n hx hb dL_areContracts_0 rfl (lv_at hl 0 rfl) ?_
  refine vp_callSi (W.runV (As := []) (rest := []) ⟨hx, hb, hml, hown, hts⟩ (m_X5_contracts_ok l D x pr mk os ch gd mm em1 n) (cwV 0 hts gL_areContracts_X5_contracts rfl rfl rfl (by decide +kernel) ⟨Nat.le_of_ble_eq_true rfl, Nat.le_of_ble_eq_true rfl⟩) (z1_V (va_recv hK hP (ci := 5) (q0 := 0) rfl rfl) (hP.sub (ws' := [(x, .inr (5, [.ref pr, .ref mk, .ref os, .long ch, .long gd])), (mk, .inr (0, [.int mm, .ref em1, .int (nI n)]))]) [0, 3] rfl) (hK.sub (tys' := []) [] rfl) hG) rfl rfl hl.1 rfl (lv_room (Nat.le_of_ble_eq_true rfl)) dL_areContracts_1 ⟨Nat.le_of_ble_eq_true rfl, Nat.le_of_ble_eq_true rfl⟩) (fun r_1 e_r_1 => ?_)
  replace e_r_1 := e_r_1.symm; subst e_r_1
  refine lv_aload_n hx hb dL_areContracts_4 rfl (lv_at hl 1 rfl) ?_
  refine lv_iconst (v := nI 1) hx hb dL_areContracts_5 (by decide) ?_
  refine zx_iald (D := D) hx hb hK hP 5 0 rfl rfl (v := nI n) ((congrArg nI c1)) (by decide) (by first | decide | omega) dL_areContracts_6 ?_
  refine lv_icmp_ne (tgt := 24) hx hb dL_areContracts_7 (by decide) (fun h9 => absurd ((nI_eq (a := n) (b := n) (by omega) (by omega)).mpr (by omega)) h9) (fun _ => ?_)
  refine lv_aload_n hx hb dL_areContracts_10 rfl (lv_at hl 0 rfl) ?_
  refine vp_callSi (W.runV (As := []) (rest := []) ⟨hx, hb, hml, hown, hts⟩ (m_X5_waiting_ok l D x pr mk os ch gd om em2 k) (cwV 0 hts gL_areContracts_X5_waiting rfl rfl rfl (by decide +kernel) ⟨Nat.le_of_ble_eq_true rfl, Nat.le_of_ble_eq_true rfl⟩) (z1_V (va_recv hK hP (ci := 5) (q0 := 0) rfl rfl) (hP.sub (ws' := [(x, .inr (5, [.ref pr, .ref mk, .ref os, .long ch, .long gd])), (os, .inr (0, [.int om, .ref em2, .int (nI k)]))]) [0, 4] rfl) (hK.sub (tys' := []) [] rfl) hG) rfl rfl hl.1 rfl (lv_room (Nat.le_of_ble_eq_true rfl)) dL_areContracts_11 ⟨Nat.le_of_ble_eq_true rfl, Nat.le_of_ble_eq_true rfl⟩) (fun r_2 e_r_2 => ?_)
  replace e_r_2 := e_r_2.symm; subst e_r_2
  refine lv_aload_n hx hb dL_areContracts_14 rfl (lv_at hl 1 rfl) ?_
  refine lv_iconst (v := nI 2) hx hb dL_areContracts_15 (by decide) ?_
  refine zx_iald (D := D) hx hb hK hP 5 0 rfl rfl (v := nI k) ((congrArg nI c2)) (by decide) (by first | decide | omega) dL_areContracts_16 ?_
  refine lv_icmp_ne (tgt := 24) hx hb dL_areContracts_17 (by decide) (fun h9 => absurd ((nI_eq (a := k) (b := k) (by omega) (by omega)).mpr (by omega)) h9) (fun _ => ?_)
  refine lv_iconst (v := nI 1) hx hb dL_areContracts_20 (by decide) ?_
  refine lv_goto (tgt := 25) hx hb dL_areContracts_21 (by decide) ?_
  refine lv_istore_n (lv' := [(2, .int (nI 1)), (0, .ref x), (1, .ref cc)]) hx hb dL_areContracts_25 rfl hl (by decide) rfl (fun ls hl => ?_)
  refine lv_iconst (v := nI 3) hx hb dL_areContracts_26 (by decide) ?_
  refine va_newa (atype := .long) (ty := .long) (N' := 3) (a0 := (3, .inr (.inl (fun _ => 0)))) hx hb k_0 rfl hK hP hD hS hA (fun _ => rfl) (by decide) (by decide) (by decide) (Nat.le_of_ble_eq_true rfl) (Nat.le_of_ble_eq_true rfl) dL_areContracts_27 (fun q_3 cN_4 H hK hP hD hS => ?_)
  have hP := hP.swap
  have hD := hD.swap
  obtain rfl : cJ = cN_4 := cA_eq hK 1 3 rfl rfl
  have hK := hK.sub (tys' := [(cI, .int), (cJ, .long), (cO, .object "java/lang/Object")]) [0, 1, 2] rfl
  have hP : va_P D vwCl (([(x, .inr (5, [.ref pr, .ref mk, .ref os, .long ch, .long gd])), (pr, .inr (3, [.ref bd, .int (nI t)])), (bd, .inl (cI, 6003, .inl bf)), (mk, .inr (0, [.int mm, .ref em1, .int (nI n)])), (os, .inr (0, [.int om, .ref em2, .int (nI k)])), (cc, .inl (cI, 30, .inl (nIf cf))), (q_3, .inl (cJ, 3, .inr (.inl (fun _ => 0))))] : va_W) ++ va_pl L f) H := hP
  have hD : va_D A (([(x, .inr (5, [.ref pr, .ref mk, .ref os, .long ch, .long gd])), (pr, .inr (3, [.ref bd, .int (nI t)])), (bd, .inl (cI, 6003, .inl bf)), (mk, .inr (0, [.int mm, .ref em1, .int (nI n)])), (os, .inr (0, [.int om, .ref em2, .int (nI k)])), (cc, .inl (cI, 30, .inl (nIf cf))), (q_3, .inl (cJ, 3, .inr (.inl (fun _ => 0))))] : va_W) ++ va_pl L f) := hD
  refine W.widen (k := 1) (n := 3) (by decide) (by decide) ?_
  refine lv_astore_n (lv' := [(3, .ref q_3), (2, .int (nI 1)), (0, .ref x), (1, .ref cc)]) hx hb dL_areContracts_29 rfl hl (by decide) rfl (fun ls hl => ?_)
  refine lv_iconst (v := nI 0) hx hb dL_areContracts_30 (by decide) ?_
  refine lv_istore (lv' := [(4, .int (nI 0)), (3, .ref q_3), (2, .int (nI 1)), (0, .ref x), (1, .ref cc)]) hx hb dL_areContracts_31 hl (by decide) rfl (fun ls hl => ?_)
  have loop_33 : ∀ (d i : Nat) (al : Nat → Int64) (H : Heap) (locs : List Loc) (ls : Array Slot), i + d = n → (∀ z : Nat, z < 3 → al z = q_sum fu fi ff z i) → va_P D vwCl (([(x, .inr (5, [.ref pr, .ref mk, .ref os, .long ch, .long gd])), (pr, .inr (3, [.ref bd, .int (nI t)])), (bd, .inl (cI, 6003, .inl bf)), (mk, .inr (0, [.int mm, .ref em1, .int (nI n)])), (os, .inr (0, [.int om, .ref em2, .int (nI k)])), (cc, .inl (cI, 30, .inl (nIf cf))), (q_3, .inl (cJ, 3, .inr (.inl al)))] : va_W) ++ va_pl L f) H → va_D A (([(x, .inr (5, [.ref pr, .ref mk, .ref os, .long ch, .long gd])), (pr, .inr (3, [.ref bd, .int (nI t)])), (bd, .inl (cI, 6003, .inl bf)), (mk, .inr (0, [.int mm, .ref em1, .int (nI n)])), (os, .inr (0, [.int om, .ref em2, .int (nI k)])), (cc, .inl (cI, 30, .inl (nIf cf))), (q_3, .inl (cJ, 3, .inr (.inl al)))] : va_W) ++ va_pl L f) → va_S A s.heap H locs → lv_has ls 12 [(3, .ref q_3), (2, .int (nI 1)), (0, .ref x), (1, .ref cc), (4, .int (nI i))] → W p l e ({ frames := 5, cells := 1, slots := 3, locals := 108 }) s m (([.ref x, .ref cc] : List Value).toArray) below meth c H locs 1 3 Q (F0 m 33 ls []) := by
    intro d
    induction d with
    | zero =>
      intro i al H locs ls hid hal9 hP hD hS hl
      have e9 : n = i := by omega
      subst e9
      refine lv_iload hx hb dL_areContracts_33 (lv_at hl 4 rfl) ?_
      refine lv_aload_n hx hb dL_areContracts_35 rfl (lv_at hl 3 rfl) ?_
      refine lv_iconst (v := nI 1) hx hb dL_areContracts_36 (by decide) ?_
      refine zx_iald (D := D) hx hb hK hP 5 0 rfl rfl (v := nI n) ((congrArg nI c1)) (by decide) (by first | decide | omega) dL_areContracts_37 ?_
      refine lv_icmp_ge (tgt := 257) hx hb dL_areContracts_38 (by decide) (fun _ => ?_) (fun h9 => absurd ((nI_leI (a := n) (b := n) (by omega) (by omega)).mpr (by omega)) h9)
      rcases Nat.eq_zero_or_pos n with hn0 | hn0
      · subst hn0
        refine lv_iload_n hx hb dL_areContracts_257 rfl (lv_at hl 1 rfl) ?_
        refine lv_if_eq (tgt := 301) hx hb dL_areContracts_258 (by decide) (fun h9 => absurd h9 (by decide)) (fun _ => ?_)
        refine lv_aload_n hx hb dL_areContracts_261 rfl (lv_at hl 2 rfl) ?_
        refine lv_iconst (v := nI 0) hx hb dL_areContracts_262 (by decide) ?_
        refine vp_callSl (W.runV (As := [.int (nI 0)]) (rest := []) ⟨hx, hb, hml, hown, hts⟩ (m_X5_fundUnits_e l D x pr mk os ch gd mm em1 0 (by first | omega | assumption)) (cwV 1 hts gL_areContracts_X5_fundUnits rfl rfl rfl (by decide +kernel) ⟨Nat.le_of_ble_eq_true rfl, Nat.le_of_ble_eq_true rfl⟩) (z1_V (va_recv hK hP (ci := 5) (q0 := 0) rfl rfl) (hP.sub (ws' := [(x, .inr (5, [.ref pr, .ref mk, .ref os, .long ch, .long gd])), (mk, .inr (0, [.int mm, .ref em1, .int (nI 0)]))]) [0, 3] rfl) (hK.sub (tys' := []) [] rfl) hG) rfl rfl hl.1 rfl (lv_room (Nat.le_of_ble_eq_true rfl)) dL_areContracts_263 ⟨Nat.le_of_ble_eq_true rfl, Nat.le_of_ble_eq_true rfl⟩) (fun r_5 e_r_5 => ?_)
        replace e_r_5 := e_r_5.symm; subst e_r_5
        refine lv_aload_n hx hb dL_areContracts_266 rfl (lv_at hl 0 rfl) ?_
        refine lv_iconst (v := nI 0) hx hb dL_areContracts_267 (by decide) ?_
        refine zx_lald (D := D) hx hb hK hP 6 1 rfl rfl (v := al 0) (rfl) (by decide) (by first | decide | omega) dL_areContracts_268 ?_
        refine zx_lcmp_ne (tgt := 301) hx hb dL_areContracts_269 dL_areContracts_270 (by decide) (fun h9 => absurd (hal9 0 (by decide)).symm h9) (fun _ => ?_)
        refine lv_aload_n hx hb dL_areContracts_273 rfl (lv_at hl 2 rfl) ?_
        refine lv_iconst (v := nI 1) hx hb dL_areContracts_274 (by decide) ?_
        refine vp_callSl (W.runV (As := [.int (nI 1)]) (rest := []) ⟨hx, hb, hml, hown, hts⟩ (m_X5_fundUnits_e l D x pr mk os ch gd mm em1 1 (by first | omega | assumption)) (cwV 1 hts gL_areContracts_X5_fundUnits rfl rfl rfl (by decide +kernel) ⟨Nat.le_of_ble_eq_true rfl, Nat.le_of_ble_eq_true rfl⟩) (z1_V (va_recv hK hP (ci := 5) (q0 := 0) rfl rfl) (hP.sub (ws' := [(x, .inr (5, [.ref pr, .ref mk, .ref os, .long ch, .long gd])), (mk, .inr (0, [.int mm, .ref em1, .int (nI 0)]))]) [0, 3] rfl) (hK.sub (tys' := []) [] rfl) hG) rfl rfl hl.1 rfl (lv_room (Nat.le_of_ble_eq_true rfl)) dL_areContracts_275 ⟨Nat.le_of_ble_eq_true rfl, Nat.le_of_ble_eq_true rfl⟩) (fun r_6 e_r_6 => ?_)
        replace e_r_6 := e_r_6.symm; subst e_r_6
        refine lv_aload_n hx hb dL_areContracts_278 rfl (lv_at hl 0 rfl) ?_
        refine lv_iconst (v := nI 1) hx hb dL_areContracts_279 (by decide) ?_
        refine zx_lald (D := D) hx hb hK hP 6 1 rfl rfl (v := al 1) (rfl) (by decide) (by first | decide | omega) dL_areContracts_280 ?_
        refine zx_lcmp_ne (tgt := 301) hx hb dL_areContracts_281 dL_areContracts_282 (by decide) (fun h9 => absurd (hal9 1 (by decide)).symm h9) (fun _ => ?_)
        refine lv_aload_n hx hb dL_areContracts_285 rfl (lv_at hl 2 rfl) ?_
        refine lv_iconst (v := nI 2) hx hb dL_areContracts_286 (by decide) ?_
        refine vp_callSl (W.runV (As := [.int (nI 2)]) (rest := []) ⟨hx, hb, hml, hown, hts⟩ (m_X5_fundUnits_e l D x pr mk os ch gd mm em1 2 (by first | omega | assumption)) (cwV 1 hts gL_areContracts_X5_fundUnits rfl rfl rfl (by decide +kernel) ⟨Nat.le_of_ble_eq_true rfl, Nat.le_of_ble_eq_true rfl⟩) (z1_V (va_recv hK hP (ci := 5) (q0 := 0) rfl rfl) (hP.sub (ws' := [(x, .inr (5, [.ref pr, .ref mk, .ref os, .long ch, .long gd])), (mk, .inr (0, [.int mm, .ref em1, .int (nI 0)]))]) [0, 3] rfl) (hK.sub (tys' := []) [] rfl) hG) rfl rfl hl.1 rfl (lv_room (Nat.le_of_ble_eq_true rfl)) dL_areContracts_287 ⟨Nat.le_of_ble_eq_true rfl, Nat.le_of_ble_eq_true rfl⟩) (fun r_7 e_r_7 => ?_)
        replace e_r_7 := e_r_7.symm; subst e_r_7
        refine lv_aload_n hx hb dL_areContracts_290 rfl (lv_at hl 0 rfl) ?_
        refine lv_iconst (v := nI 2) hx hb dL_areContracts_291 (by decide) ?_
        refine zx_lald (D := D) hx hb hK hP 6 1 rfl rfl (v := al 2) (rfl) (by decide) (by first | decide | omega) dL_areContracts_292 ?_
        refine zx_lcmp_ne (tgt := 301) hx hb dL_areContracts_293 dL_areContracts_294 (by decide) (fun h9 => absurd (hal9 2 (by decide)).symm h9) (fun _ => ?_)
        refine lv_iconst (v := nI 1) hx hb dL_areContracts_297 (by decide) ?_
        refine lv_goto (tgt := 302) hx hb dL_areContracts_298 (by decide) ?_
        have hP := lp_Pl (va_P.swap (show va_P D vwCl ((([(x, .inr (5, [.ref pr, .ref mk, .ref os, .long ch, .long gd])), (pr, .inr (3, [.ref bd, .int (nI t)])), (bd, .inl (cI, 6003, .inl bf)), (mk, .inr (0, [.int mm, .ref em1, .int (nI 0)])), (os, .inr (0, [.int om, .ref em2, .int (nI k)])), (cc, .inl (cI, 30, .inl (nIf cf)))] : va_W) ++ ([(q_3, .inl (cJ, 3, .inr (.inl al)))] : va_W)) ++ va_pl L f) _ from hP))
        have hD := lp_Dl (va_D.swap (show va_D A ((([(x, .inr (5, [.ref pr, .ref mk, .ref os, .long ch, .long gd])), (pr, .inr (3, [.ref bd, .int (nI t)])), (bd, .inl (cI, 6003, .inl bf)), (mk, .inr (0, [.int mm, .ref em1, .int (nI 0)])), (os, .inr (0, [.int om, .ref em2, .int (nI k)])), (cc, .inl (cI, 30, .inl (nIf cf)))] : va_W) ++ ([(q_3, .inl (cJ, 3, .inr (.inl al)))] : va_W)) ++ va_pl L f) from hD))
        subst hQ
        subst hAe
        exact zretBz hx hb hr hlocks (fun t9 ht hv => ⟨by rw [ht]; exact hP, va_K.moved hv (hK.sub [0, 1, 2] rfl), hD⟩) hS dL_areContracts_302 (Nat.le_of_ble_eq_true rfl) (Nat.le_of_ble_eq_true rfl) rfl (rfl)
      · skip
        refine lv_iload_n hx hb dL_areContracts_257 rfl (lv_at hl 1 rfl) ?_
        refine lv_if_eq (tgt := 301) hx hb dL_areContracts_258 (by decide) (fun h9 => absurd h9 (by decide)) (fun _ => ?_)
        refine lv_aload_n hx hb dL_areContracts_261 rfl (lv_at hl 2 rfl) ?_
        refine lv_iconst (v := nI 0) hx hb dL_areContracts_262 (by decide) ?_
        have hPs : va_P D vwCl (([(x, .inr (5, [.ref pr, .ref mk, .ref os, .long ch, .long gd])), (pr, .inr (3, [.ref bd, .int (nI t)])), (bd, .inl (cI, 6003, .inl bf)), (mk, .inr (0, [.int mm, .ref em1, .int (nI n)])), (os, .inr (0, [.int om, .ref em2, .int (nI k)]))] : va_W) ++ va_pl L f) _ := lp_Pl (va_P.swap (show va_P D vwCl ((([(x, .inr (5, [.ref pr, .ref mk, .ref os, .long ch, .long gd])), (pr, .inr (3, [.ref bd, .int (nI t)])), (bd, .inl (cI, 6003, .inl bf)), (mk, .inr (0, [.int mm, .ref em1, .int (nI n)])), (os, .inr (0, [.int om, .ref em2, .int (nI k)]))] : va_W) ++ ([(cc, .inl (cI, 30, .inl (nIf cf))), (q_3, .inl (cJ, 3, .inr (.inl al)))] : va_W)) ++ va_pl L f) _ from hP))
        refine vp_callSl (W.runV (As := [.int (nI 0)]) (rest := []) ⟨hx, hb, hml, hown, hts⟩ (p_fundUnits l D x pr mk os ch gd bd t cI bf mm em1 n om em2 k L f cJ cO ca aa fp fs fr ff fa fz fi fu em 0 (by first | omega | assumption) (by first | omega | assumption) (by first | omega | assumption) nFF (by first | omega | assumption)) (cwV 1 hts gL_areContracts_X5_fundUnits rfl rfl rfl (by decide +kernel) ⟨Nat.le_of_ble_eq_true rfl, Nat.le_of_ble_eq_true rfl⟩) (z1_V (va_recv hK hPs (ci := 5) (q0 := 0) rfl rfl) hPs (hK.sub (tys' := [(cI, .int), (cJ, .long), (cO, .object "java/lang/Object")]) [0, 1, 2] rfl) hG) rfl rfl hl.1 rfl (lv_room (Nat.le_of_ble_eq_true rfl)) dL_areContracts_263 ⟨Nat.le_of_ble_eq_true rfl, Nat.le_of_ble_eq_true rfl⟩) (fun r_8 e_r_8 => ?_)
        replace e_r_8 := e_r_8.symm; subst e_r_8
        refine lv_aload_n hx hb dL_areContracts_266 rfl (lv_at hl 0 rfl) ?_
        refine lv_iconst (v := nI 0) hx hb dL_areContracts_267 (by decide) ?_
        refine zx_lald (D := D) hx hb hK hP 6 1 rfl rfl (v := al 0) (rfl) (by decide) (by first | decide | omega) dL_areContracts_268 ?_
        refine zx_lcmp_ne (tgt := 301) hx hb dL_areContracts_269 dL_areContracts_270 (by decide) (fun h9 => absurd (hal9 0 (by decide)).symm h9) (fun _ => ?_)
        refine lv_aload_n hx hb dL_areContracts_273 rfl (lv_at hl 2 rfl) ?_
        refine lv_iconst (v := nI 1) hx hb dL_areContracts_274 (by decide) ?_
        have hPs : va_P D vwCl (([(x, .inr (5, [.ref pr, .ref mk, .ref os, .long ch, .long gd])), (pr, .inr (3, [.ref bd, .int (nI t)])), (bd, .inl (cI, 6003, .inl bf)), (mk, .inr (0, [.int mm, .ref em1, .int (nI n)])), (os, .inr (0, [.int om, .ref em2, .int (nI k)]))] : va_W) ++ va_pl L f) _ := lp_Pl (va_P.swap (show va_P D vwCl ((([(x, .inr (5, [.ref pr, .ref mk, .ref os, .long ch, .long gd])), (pr, .inr (3, [.ref bd, .int (nI t)])), (bd, .inl (cI, 6003, .inl bf)), (mk, .inr (0, [.int mm, .ref em1, .int (nI n)])), (os, .inr (0, [.int om, .ref em2, .int (nI k)]))] : va_W) ++ ([(cc, .inl (cI, 30, .inl (nIf cf))), (q_3, .inl (cJ, 3, .inr (.inl al)))] : va_W)) ++ va_pl L f) _ from hP))
        refine vp_callSl (W.runV (As := [.int (nI 1)]) (rest := []) ⟨hx, hb, hml, hown, hts⟩ (p_fundUnits l D x pr mk os ch gd bd t cI bf mm em1 n om em2 k L f cJ cO ca aa fp fs fr ff fa fz fi fu em 1 (by first | omega | assumption) (by first | omega | assumption) (by first | omega | assumption) nFF (by first | omega | assumption)) (cwV 1 hts gL_areContracts_X5_fundUnits rfl rfl rfl (by decide +kernel) ⟨Nat.le_of_ble_eq_true rfl, Nat.le_of_ble_eq_true rfl⟩) (z1_V (va_recv hK hPs (ci := 5) (q0 := 0) rfl rfl) hPs (hK.sub (tys' := [(cI, .int), (cJ, .long), (cO, .object "java/lang/Object")]) [0, 1, 2] rfl) hG) rfl rfl hl.1 rfl (lv_room (Nat.le_of_ble_eq_true rfl)) dL_areContracts_275 ⟨Nat.le_of_ble_eq_true rfl, Nat.le_of_ble_eq_true rfl⟩) (fun r_9 e_r_9 => ?_)
        replace e_r_9 := e_r_9.symm; subst e_r_9
        refine lv_aload_n hx hb dL_areContracts_278 rfl (lv_at hl 0 rfl) ?_
        refine lv_iconst (v := nI 1) hx hb dL_areContracts_279 (by decide) ?_
        refine zx_lald (D := D) hx hb hK hP 6 1 rfl rfl (v := al 1) (rfl) (by decide) (by first | decide | omega) dL_areContracts_280 ?_
        refine zx_lcmp_ne (tgt := 301) hx hb dL_areContracts_281 dL_areContracts_282 (by decide) (fun h9 => absurd (hal9 1 (by decide)).symm h9) (fun _ => ?_)
        refine lv_aload_n hx hb dL_areContracts_285 rfl (lv_at hl 2 rfl) ?_
        refine lv_iconst (v := nI 2) hx hb dL_areContracts_286 (by decide) ?_
        have hPs : va_P D vwCl (([(x, .inr (5, [.ref pr, .ref mk, .ref os, .long ch, .long gd])), (pr, .inr (3, [.ref bd, .int (nI t)])), (bd, .inl (cI, 6003, .inl bf)), (mk, .inr (0, [.int mm, .ref em1, .int (nI n)])), (os, .inr (0, [.int om, .ref em2, .int (nI k)]))] : va_W) ++ va_pl L f) _ := lp_Pl (va_P.swap (show va_P D vwCl ((([(x, .inr (5, [.ref pr, .ref mk, .ref os, .long ch, .long gd])), (pr, .inr (3, [.ref bd, .int (nI t)])), (bd, .inl (cI, 6003, .inl bf)), (mk, .inr (0, [.int mm, .ref em1, .int (nI n)])), (os, .inr (0, [.int om, .ref em2, .int (nI k)]))] : va_W) ++ ([(cc, .inl (cI, 30, .inl (nIf cf))), (q_3, .inl (cJ, 3, .inr (.inl al)))] : va_W)) ++ va_pl L f) _ from hP))
        refine vp_callSl (W.runV (As := [.int (nI 2)]) (rest := []) ⟨hx, hb, hml, hown, hts⟩ (p_fundUnits l D x pr mk os ch gd bd t cI bf mm em1 n om em2 k L f cJ cO ca aa fp fs fr ff fa fz fi fu em 2 (by first | omega | assumption) (by first | omega | assumption) (by first | omega | assumption) nFF (by first | omega | assumption)) (cwV 1 hts gL_areContracts_X5_fundUnits rfl rfl rfl (by decide +kernel) ⟨Nat.le_of_ble_eq_true rfl, Nat.le_of_ble_eq_true rfl⟩) (z1_V (va_recv hK hPs (ci := 5) (q0 := 0) rfl rfl) hPs (hK.sub (tys' := [(cI, .int), (cJ, .long), (cO, .object "java/lang/Object")]) [0, 1, 2] rfl) hG) rfl rfl hl.1 rfl (lv_room (Nat.le_of_ble_eq_true rfl)) dL_areContracts_287 ⟨Nat.le_of_ble_eq_true rfl, Nat.le_of_ble_eq_true rfl⟩) (fun r_10 e_r_10 => ?_)
        replace e_r_10 := e_r_10.symm; subst e_r_10
        refine lv_aload_n hx hb dL_areContracts_290 rfl (lv_at hl 0 rfl) ?_
        refine lv_iconst (v := nI 2) hx hb dL_areContracts_291 (by decide) ?_
        refine zx_lald (D := D) hx hb hK hP 6 1 rfl rfl (v := al 2) (rfl) (by decide) (by first | decide | omega) dL_areContracts_292 ?_
        refine zx_lcmp_ne (tgt := 301) hx hb dL_areContracts_293 dL_areContracts_294 (by decide) (fun h9 => absurd (hal9 2 (by decide)).symm h9) (fun _ => ?_)
        refine lv_iconst (v := nI 1) hx hb dL_areContracts_297 (by decide) ?_
        refine lv_goto (tgt := 302) hx hb dL_areContracts_298 (by decide) ?_
        have hP := lp_Pl (va_P.swap (show va_P D vwCl ((([(x, .inr (5, [.ref pr, .ref mk, .ref os, .long ch, .long gd])), (pr, .inr (3, [.ref bd, .int (nI t)])), (bd, .inl (cI, 6003, .inl bf)), (mk, .inr (0, [.int mm, .ref em1, .int (nI n)])), (os, .inr (0, [.int om, .ref em2, .int (nI k)])), (cc, .inl (cI, 30, .inl (nIf cf)))] : va_W) ++ ([(q_3, .inl (cJ, 3, .inr (.inl al)))] : va_W)) ++ va_pl L f) _ from hP))
        have hD := lp_Dl (va_D.swap (show va_D A ((([(x, .inr (5, [.ref pr, .ref mk, .ref os, .long ch, .long gd])), (pr, .inr (3, [.ref bd, .int (nI t)])), (bd, .inl (cI, 6003, .inl bf)), (mk, .inr (0, [.int mm, .ref em1, .int (nI n)])), (os, .inr (0, [.int om, .ref em2, .int (nI k)])), (cc, .inl (cI, 30, .inl (nIf cf)))] : va_W) ++ ([(q_3, .inl (cJ, 3, .inr (.inl al)))] : va_W)) ++ va_pl L f) from hD))
        subst hQ
        subst hAe
        exact zretBz hx hb hr hlocks (fun t9 ht hv => ⟨by rw [ht]; exact hP, va_K.moved hv (hK.sub [0, 1, 2] rfl), hD⟩) hS dL_areContracts_302 (Nat.le_of_ble_eq_true rfl) (Nat.le_of_ble_eq_true rfl) rfl (rfl)
    | succ d ih =>
      intro i al H locs ls hid hal9 hP hD hS hl
      have hffi := nFF i (by omega)
      have hNCi := nNC i (by omega)
      have hfa9 := nFA i
      have u0 : ¬ fi i < 0 := vB_ge0 hNCi.1 (by omega)
      refine lv_iload hx hb dL_areContracts_33 (lv_at hl 4 rfl) ?_
      refine lv_aload_n hx hb dL_areContracts_35 rfl (lv_at hl 3 rfl) ?_
      refine lv_iconst (v := nI 1) hx hb dL_areContracts_36 (by decide) ?_
      refine zx_iald (D := D) hx hb hK hP 5 0 rfl rfl (v := nI n) ((congrArg nI c1)) (by decide) (by first | decide | omega) dL_areContracts_37 ?_
      refine lv_icmp_ge (tgt := 257) hx hb dL_areContracts_38 (by decide) (fun h9 => absurd h9 (fun h8 => absurd ((nI_leI (a := n) (b := i) (by omega) (by omega)).mp h8) (by omega))) (fun _ => ?_)
      refine lv_iload_n hx hb dL_areContracts_41 rfl (lv_at hl 1 rfl) ?_
      refine lv_if_eq (tgt := 257) hx hb dL_areContracts_42 (by decide) (fun h9 => absurd h9 (by decide)) (fun _ => ?_)
      refine lv_aload_n hx hb dL_areContracts_45 rfl (lv_at hl 2 rfl) ?_
      refine lv_iload hx hb dL_areContracts_46 (lv_at hl 4 rfl) ?_
      have hPs : va_P D vwCl (([(x, .inr (5, [.ref pr, .ref mk, .ref os, .long ch, .long gd])), (pr, .inr (3, [.ref bd, .int (nI t)])), (bd, .inl (cI, 6003, .inl bf)), (mk, .inr (0, [.int mm, .ref em1, .int (nI n)])), (os, .inr (0, [.int om, .ref em2, .int (nI k)]))] : va_W) ++ va_pl L f) _ := lp_Pl (va_P.swap (show va_P D vwCl ((([(x, .inr (5, [.ref pr, .ref mk, .ref os, .long ch, .long gd])), (pr, .inr (3, [.ref bd, .int (nI t)])), (bd, .inl (cI, 6003, .inl bf)), (mk, .inr (0, [.int mm, .ref em1, .int (nI n)])), (os, .inr (0, [.int om, .ref em2, .int (nI k)]))] : va_W) ++ ([(cc, .inl (cI, 30, .inl (nIf cf))), (q_3, .inl (cJ, 3, .inr (.inl al)))] : va_W)) ++ va_pl L f) _ from hP))
      refine vp_callSl (W.runV (As := [.int (nI i)]) (rest := []) ⟨hx, hb, hml, hown, hts⟩ (p_initial l D x pr mk os ch gd bd t cI bf mm em1 n om em2 k L f cJ cO ca aa fp fs fr ff fa fz fi fu em i (by first | omega | assumption) (by first | omega | assumption) (by first | omega | assumption)) (cwV 1 hts gL_areContracts_X5_initial rfl rfl rfl (by decide +kernel) ⟨Nat.le_of_ble_eq_true rfl, Nat.le_of_ble_eq_true rfl⟩) (z1_V (va_recv hK hPs (ci := 5) (q0 := 0) rfl rfl) hPs (hK.sub (tys' := [(cI, .int), (cJ, .long), (cO, .object "java/lang/Object")]) [0, 1, 2] rfl) hG) rfl rfl hl.1 rfl (lv_room (Nat.le_of_ble_eq_true rfl)) dL_areContracts_48 ⟨Nat.le_of_ble_eq_true rfl, Nat.le_of_ble_eq_true rfl⟩) (fun r_11 e_r_11 => ?_)
      replace e_r_11 := e_r_11.symm; subst e_r_11
      refine lv_lstore (lv' := [(5, .long (fi i)), (3, .ref q_3), (2, .int (nI 1)), (0, .ref x), (1, .ref cc), (4, .int (nI i))]) hx hb dL_areContracts_51 hl (by decide) rfl (fun ls hl => ?_)
      refine lv_lload hx hb dL_areContracts_53 (lv_at hl 0 rfl) ?_
      refine lv_aload_n hx hb dL_areContracts_55 rfl (lv_at hl 4 rfl) ?_
      refine lv_iconst (v := nI 3) hx hb dL_areContracts_56 (by decide) ?_
      refine lv_aload_n hx hb dL_areContracts_57 rfl (lv_at hl 4 rfl) ?_
      refine lv_bipush (v := nI 12) hx hb dL_areContracts_58 (by decide) ?_
      refine lv_iload hx hb dL_areContracts_60 (lv_at hl 5 rfl) ?_
      refine zx_iadd (v := nI (12 + i)) hx hb dL_areContracts_62 (nI_add _ _) ?_
      refine zx_iald (D := D) hx hb hK hP 5 0 rfl rfl (v := nI (ff i)) ((congrArg nI (c4 i (by omega)).2.2.2)) (by omega) (by first | decide | omega) dL_areContracts_63 ?_
      refine zx_iadd (v := nI (3 + (ff i))) hx hb dL_areContracts_64 (nI_add _ _) ?_
      refine zx_iald (D := D) hx hb hK hP 5 0 rfl rfl (v := nI (cf (3 + (ff i)))) (rfl) (by omega) (by first | decide | omega) dL_areContracts_65 ?_
      refine lv_i2l (v := (bf (t * 3 + ff i)).toInt64) hx hb dL_areContracts_66 (by rw [hbi t _ (Nat.le_refl _) hffi]; exact congrArg Int32.toInt64 (c3 _ hffi).2.2.symm) ?_
      refine zx_lmul (v := (fi i) * ((bf (t * 3 + ff i)).toInt64)) hx hb dL_areContracts_67 (rfl) ?_
      refine lv_ldc2 (v := 1000) hx hb hown k_1 dL_areContracts_68 ?_
      refine zx_ldiv (v := (k_mon (fi i) ((bf (t * 3 + ff i)).toInt64))) hx hb dL_areContracts_71 (by decide) (rfl) ?_
      refine lv_lstore (lv' := [(7, .long (k_mon (fi i) ((bf (t * 3 + ff i)).toInt64))), (5, .long (fi i)), (3, .ref q_3), (2, .int (nI 1)), (0, .ref x), (1, .ref cc), (4, .int (nI i))]) hx hb dL_areContracts_72 hl (by decide) rfl (fun ls hl => ?_)
      refine lv_aload_n hx hb dL_areContracts_74 rfl (lv_at hl 2 rfl) ?_
      refine lv_aload_n hx hb dL_areContracts_75 rfl (lv_at hl 5 rfl) ?_
      refine lv_bipush (v := nI 12) hx hb dL_areContracts_76 (by decide) ?_
      refine lv_iload hx hb dL_areContracts_78 (lv_at hl 6 rfl) ?_
      refine zx_iadd (v := nI (12 + i)) hx hb dL_areContracts_80 (nI_add _ _) ?_
      refine zx_iald (D := D) hx hb hK hP 5 0 rfl rfl (v := nI (ff i)) ((congrArg nI (c4 i (by omega)).2.2.2)) (by omega) (by first | decide | omega) dL_areContracts_81 ?_
      refine lv_dup2_11 hx hb dL_areContracts_82 rfl rfl ?_
      refine zx_lald (D := D) hx hb hK hP 6 1 rfl rfl (v := al (ff i)) (rfl) (by omega) (by first | decide | omega) dL_areContracts_83 ?_
      refine lv_lload hx hb dL_areContracts_84 (lv_at hl 1 rfl) ?_
      refine zx_ladd (v := (al (ff i)) + (fi i)) hx hb dL_areContracts_86 (rfl) ?_
      refine zx_last (D := D) hx hb hK hP hD hS 6 1 rfl rfl (by omega) (by decide) dL_areContracts_87 (fun H locs hP hD hS => ?_)
      have hP : va_P D vwCl (([(x, .inr (5, [.ref pr, .ref mk, .ref os, .long ch, .long gd])), (pr, .inr (3, [.ref bd, .int (nI t)])), (bd, .inl (cI, 6003, .inl bf)), (mk, .inr (0, [.int mm, .ref em1, .int (nI n)])), (os, .inr (0, [.int om, .ref em2, .int (nI k)])), (cc, .inl (cI, 30, .inl (nIf cf))), (q_3, .inl (cJ, 3, .inr (.inl (vp_updL al (ff i) ((al (ff i)) + (fi i))))))] : va_W) ++ va_pl L f) H := hP
      have hD : va_D A (([(x, .inr (5, [.ref pr, .ref mk, .ref os, .long ch, .long gd])), (pr, .inr (3, [.ref bd, .int (nI t)])), (bd, .inl (cI, 6003, .inl bf)), (mk, .inr (0, [.int mm, .ref em1, .int (nI n)])), (os, .inr (0, [.int om, .ref em2, .int (nI k)])), (cc, .inl (cI, 30, .inl (nIf cf))), (q_3, .inl (cJ, 3, .inr (.inl (vp_updL al (ff i) ((al (ff i)) + (fi i))))))] : va_W) ++ va_pl L f) := hD
      refine lv_iconst (v := nI 0) hx hb dL_areContracts_88 (by decide) ?_
      refine lv_istore (lv' := [(9, .int (nI 0)), (7, .long (k_mon (fi i) ((bf (t * 3 + ff i)).toInt64))), (5, .long (fi i)), (3, .ref q_3), (2, .int (nI 1)), (0, .ref x), (1, .ref cc), (4, .int (nI i))]) hx hb dL_areContracts_89 hl (by decide) rfl (fun ls hl => ?_)
      refine lv_iload hx hb dL_areContracts_91 (lv_at hl 0 rfl) ?_
      refine lv_iconst (v := nI 3) hx hb dL_areContracts_93 (by decide) ?_
      refine lv_icmp_ge (tgt := 167) hx hb dL_areContracts_94 (by decide) (fun h9 => absurd h9 (by decide)) (fun _ => ?_)
      refine lv_aload_n hx hb dL_areContracts_97 rfl (lv_at hl 5 rfl) ?_
      refine lv_iload hx hb dL_areContracts_98 (lv_at hl 7 rfl) ?_
      refine lv_iload hx hb dL_areContracts_100 (lv_at hl 0 rfl) ?_
      have hPs : va_P D vwCl (([(x, .inr (5, [.ref pr, .ref mk, .ref os, .long ch, .long gd])), (pr, .inr (3, [.ref bd, .int (nI t)])), (bd, .inl (cI, 6003, .inl bf)), (mk, .inr (0, [.int mm, .ref em1, .int (nI n)])), (os, .inr (0, [.int om, .ref em2, .int (nI k)]))] : va_W) ++ va_pl L f) _ := lp_Pl (va_P.swap (show va_P D vwCl ((([(x, .inr (5, [.ref pr, .ref mk, .ref os, .long ch, .long gd])), (pr, .inr (3, [.ref bd, .int (nI t)])), (bd, .inl (cI, 6003, .inl bf)), (mk, .inr (0, [.int mm, .ref em1, .int (nI n)])), (os, .inr (0, [.int om, .ref em2, .int (nI k)]))] : va_W) ++ ([(cc, .inl (cI, 30, .inl (nIf cf))), (q_3, .inl (cJ, 3, .inr (.inl (vp_updL al (ff i) ((al (ff i)) + (fi i))))))] : va_W)) ++ va_pl L f) _ from hP))
      refine vp_callSl (W.runV (As := [.int (nI i), .int (nI 0)]) (rest := []) ⟨hx, hb, hml, hown, hts⟩ (p_units l D x pr mk os ch gd bd t cI bf mm em1 n om em2 k L f cJ cO ca aa fp fs fr ff fa fz fi fu em i 0 (by first | omega | assumption) (by first | omega | assumption) (by first | omega | assumption) (by decide)) (cwV 2 hts gL_areContracts_X5_units rfl rfl rfl (by decide +kernel) ⟨Nat.le_of_ble_eq_true rfl, Nat.le_of_ble_eq_true rfl⟩) (z1_V (va_recv hK hPs (ci := 5) (q0 := 0) rfl rfl) hPs (hK.sub (tys' := [(cI, .int), (cJ, .long), (cO, .object "java/lang/Object")]) [0, 1, 2] rfl) hG) rfl rfl hl.1 rfl (lv_room (Nat.le_of_ble_eq_true rfl)) dL_areContracts_102 ⟨Nat.le_of_ble_eq_true rfl, Nat.le_of_ble_eq_true rfl⟩) (fun r_12 e_r_12 => ?_)
      replace e_r_12 := e_r_12.symm; subst e_r_12
      refine lv_lstore (lv' := [(10, .long (fu (3 * i + 0))), (9, .int (nI 0)), (7, .long (k_mon (fi i) ((bf (t * 3 + ff i)).toInt64))), (5, .long (fi i)), (3, .ref q_3), (2, .int (nI 1)), (0, .ref x), (1, .ref cc), (4, .int (nI i))]) hx hb dL_areContracts_105 hl (by decide) rfl (fun ls hl => ?_)
      refine lv_iload_n hx hb dL_areContracts_107 rfl (lv_at hl 5 rfl) ?_
      refine lv_if_eq (tgt := 131) hx hb dL_areContracts_108 (by decide) (fun h9 => absurd h9 (by decide)) (fun _ => ?_)
      have u1 : ¬ (fu (3 * i + 0)) < 0 := vB_ge0 (hNCi.2.1 0 (by decide)) (by decide)
      have u2 : ¬ 1000000000000 < (fu (3 * i + 0)) := vB_le12 (hNCi.2.1 0 (by decide))
      refine lv_lload hx hb dL_areContracts_111 (lv_at hl 0 rfl) ?_
      refine lv_lconst (v := 0) hx hb dL_areContracts_113 (by decide) ?_
      refine zx_lcmp_lt (tgt := 131) hx hb dL_areContracts_114 dL_areContracts_115 (by decide) (fun h9 => absurd h9 u1) (fun _ => ?_)
      refine lv_lload hx hb dL_areContracts_118 (lv_at hl 0 rfl) ?_
      refine lv_ldc2 (v := 1000000000000) hx hb hown k_2 dL_areContracts_120 ?_
      refine zx_lcmp_gt (tgt := 131) hx hb dL_areContracts_123 dL_areContracts_124 (by decide) (fun h9 => absurd h9 u2) (fun _ => ?_)
      refine lv_iconst (v := nI 1) hx hb dL_areContracts_127 (by decide) ?_
      refine lv_goto (tgt := 132) hx hb dL_areContracts_128 (by decide) ?_
      refine lv_istore_n (lv' := [(2, .int (nI 1)), (10, .long (fu (3 * i + 0))), (9, .int (nI 0)), (7, .long (k_mon (fi i) ((bf (t * 3 + ff i)).toInt64))), (5, .long (fi i)), (3, .ref q_3), (0, .ref x), (1, .ref cc), (4, .int (nI i))]) hx hb dL_areContracts_132 rfl hl (by decide) rfl (fun ls hl => ?_)
      refine lv_lload hx hb dL_areContracts_133 (lv_at hl 3 rfl) ?_
      refine lv_lload hx hb dL_areContracts_135 (lv_at hl 1 rfl) ?_
      refine lv_aload_n hx hb dL_areContracts_137 rfl (lv_at hl 7 rfl) ?_
      refine lv_iconst (v := nI 3) hx hb dL_areContracts_138 (by decide) ?_
      refine lv_iload hx hb dL_areContracts_139 (lv_at hl 2 rfl) ?_
      refine zx_iadd (v := nI 3) hx hb dL_areContracts_141 (by decide) ?_
      refine zx_iald (D := D) hx hb hK hP 5 0 rfl rfl (v := nI (cf 3)) (rfl) (by decide) (by first | decide | omega) dL_areContracts_142 ?_
      refine lv_i2l (v := (bf (t * 3 + 0)).toInt64) hx hb dL_areContracts_143 (p0) ?_
      refine zx_lmul (v := (fu (3 * i + 0)) * ((bf (t * 3 + 0)).toInt64)) hx hb dL_areContracts_144 (rfl) ?_
      refine lv_ldc2 (v := 1000) hx hb hown k_1 dL_areContracts_145 ?_
      refine zx_ldiv (v := (k_mon (fu (3 * i + 0)) ((bf (t * 3 + 0)).toInt64))) hx hb dL_areContracts_148 (by decide) (rfl) ?_
      refine zx_ladd (v := (k_mon (fi i) ((bf (t * 3 + ff i)).toInt64)) + (k_mon (fu (3 * i + 0)) ((bf (t * 3 + 0)).toInt64))) hx hb dL_areContracts_149 (rfl) ?_
      refine lv_lstore (lv' := [(7, .long ((k_mon (fi i) ((bf (t * 3 + ff i)).toInt64)) + (k_mon (fu (3 * i + 0)) ((bf (t * 3 + 0)).toInt64)))), (2, .int (nI 1)), (10, .long (fu (3 * i + 0))), (9, .int (nI 0)), (5, .long (fi i)), (3, .ref q_3), (0, .ref x), (1, .ref cc), (4, .int (nI i))]) hx hb dL_areContracts_150 hl (by decide) rfl (fun ls hl => ?_)
      refine lv_aload_n hx hb dL_areContracts_152 rfl (lv_at hl 5 rfl) ?_
      refine lv_iload hx hb dL_areContracts_153 (lv_at hl 3 rfl) ?_
      refine lv_dup2_11 hx hb dL_areContracts_155 rfl rfl ?_
      refine zx_lald (D := D) hx hb hK hP 6 1 rfl rfl (v := (vp_updL al (ff i) ((al (ff i)) + (fi i))) 0) (rfl) (by decide) (by first | decide | omega) dL_areContracts_156 ?_
      refine lv_lload hx hb dL_areContracts_157 (lv_at hl 2 rfl) ?_
      refine zx_ladd (v := ((vp_updL al (ff i) ((al (ff i)) + (fi i))) 0) + (fu (3 * i + 0))) hx hb dL_areContracts_159 (rfl) ?_
      refine zx_last (D := D) hx hb hK hP hD hS 6 1 rfl rfl (by decide) (by decide) dL_areContracts_160 (fun H locs hP hD hS => ?_)
      have hP : va_P D vwCl (([(x, .inr (5, [.ref pr, .ref mk, .ref os, .long ch, .long gd])), (pr, .inr (3, [.ref bd, .int (nI t)])), (bd, .inl (cI, 6003, .inl bf)), (mk, .inr (0, [.int mm, .ref em1, .int (nI n)])), (os, .inr (0, [.int om, .ref em2, .int (nI k)])), (cc, .inl (cI, 30, .inl (nIf cf))), (q_3, .inl (cJ, 3, .inr (.inl (vp_updL (vp_updL al (ff i) ((al (ff i)) + (fi i))) 0 (((vp_updL al (ff i) ((al (ff i)) + (fi i))) 0) + (fu (3 * i + 0)))))))] : va_W) ++ va_pl L f) H := hP
      have hD : va_D A (([(x, .inr (5, [.ref pr, .ref mk, .ref os, .long ch, .long gd])), (pr, .inr (3, [.ref bd, .int (nI t)])), (bd, .inl (cI, 6003, .inl bf)), (mk, .inr (0, [.int mm, .ref em1, .int (nI n)])), (os, .inr (0, [.int om, .ref em2, .int (nI k)])), (cc, .inl (cI, 30, .inl (nIf cf))), (q_3, .inl (cJ, 3, .inr (.inl (vp_updL (vp_updL al (ff i) ((al (ff i)) + (fi i))) 0 (((vp_updL al (ff i) ((al (ff i)) + (fi i))) 0) + (fu (3 * i + 0)))))))] : va_W) ++ va_pl L f) := hD
      refine lv_iinc (v := nI 1) (lv' := [(9, .int (nI 1)), (7, .long ((k_mon (fi i) ((bf (t * 3 + ff i)).toInt64)) + (k_mon (fu (3 * i + 0)) ((bf (t * 3 + 0)).toInt64)))), (2, .int (nI 1)), (10, .long (fu (3 * i + 0))), (5, .long (fi i)), (3, .ref q_3), (0, .ref x), (1, .ref cc), (4, .int (nI i))]) hx hb dL_areContracts_161 hl (k := 3) rfl (by decide) (by decide) rfl (fun ls hl => ?_)
      refine lv_goto (tgt := 91) hx hb dL_areContracts_164 (by decide) ?_
      refine lv_iload hx hb dL_areContracts_91 (lv_at hl 0 rfl) ?_
      refine lv_iconst (v := nI 3) hx hb dL_areContracts_93 (by decide) ?_
      refine lv_icmp_ge (tgt := 167) hx hb dL_areContracts_94 (by decide) (fun h9 => absurd h9 (by decide)) (fun _ => ?_)
      refine lv_aload_n hx hb dL_areContracts_97 rfl (lv_at hl 6 rfl) ?_
      refine lv_iload hx hb dL_areContracts_98 (lv_at hl 8 rfl) ?_
      refine lv_iload hx hb dL_areContracts_100 (lv_at hl 0 rfl) ?_
      have hPs : va_P D vwCl (([(x, .inr (5, [.ref pr, .ref mk, .ref os, .long ch, .long gd])), (pr, .inr (3, [.ref bd, .int (nI t)])), (bd, .inl (cI, 6003, .inl bf)), (mk, .inr (0, [.int mm, .ref em1, .int (nI n)])), (os, .inr (0, [.int om, .ref em2, .int (nI k)]))] : va_W) ++ va_pl L f) _ := lp_Pl (va_P.swap (show va_P D vwCl ((([(x, .inr (5, [.ref pr, .ref mk, .ref os, .long ch, .long gd])), (pr, .inr (3, [.ref bd, .int (nI t)])), (bd, .inl (cI, 6003, .inl bf)), (mk, .inr (0, [.int mm, .ref em1, .int (nI n)])), (os, .inr (0, [.int om, .ref em2, .int (nI k)]))] : va_W) ++ ([(cc, .inl (cI, 30, .inl (nIf cf))), (q_3, .inl (cJ, 3, .inr (.inl (vp_updL (vp_updL al (ff i) ((al (ff i)) + (fi i))) 0 (((vp_updL al (ff i) ((al (ff i)) + (fi i))) 0) + (fu (3 * i + 0)))))))] : va_W)) ++ va_pl L f) _ from hP))
      refine vp_callSl (W.runV (As := [.int (nI i), .int (nI 1)]) (rest := []) ⟨hx, hb, hml, hown, hts⟩ (p_units l D x pr mk os ch gd bd t cI bf mm em1 n om em2 k L f cJ cO ca aa fp fs fr ff fa fz fi fu em i 1 (by first | omega | assumption) (by first | omega | assumption) (by first | omega | assumption) (by decide)) (cwV 2 hts gL_areContracts_X5_units rfl rfl rfl (by decide +kernel) ⟨Nat.le_of_ble_eq_true rfl, Nat.le_of_ble_eq_true rfl⟩) (z1_V (va_recv hK hPs (ci := 5) (q0 := 0) rfl rfl) hPs (hK.sub (tys' := [(cI, .int), (cJ, .long), (cO, .object "java/lang/Object")]) [0, 1, 2] rfl) hG) rfl rfl hl.1 rfl (lv_room (Nat.le_of_ble_eq_true rfl)) dL_areContracts_102 ⟨Nat.le_of_ble_eq_true rfl, Nat.le_of_ble_eq_true rfl⟩) (fun r_13 e_r_13 => ?_)
      replace e_r_13 := e_r_13.symm; subst e_r_13
      refine lv_lstore (lv' := [(10, .long (fu (3 * i + 1))), (9, .int (nI 1)), (7, .long ((k_mon (fi i) ((bf (t * 3 + ff i)).toInt64)) + (k_mon (fu (3 * i + 0)) ((bf (t * 3 + 0)).toInt64)))), (2, .int (nI 1)), (5, .long (fi i)), (3, .ref q_3), (0, .ref x), (1, .ref cc), (4, .int (nI i))]) hx hb dL_areContracts_105 hl (by decide) rfl (fun ls hl => ?_)
      refine lv_iload_n hx hb dL_areContracts_107 rfl (lv_at hl 3 rfl) ?_
      refine lv_if_eq (tgt := 131) hx hb dL_areContracts_108 (by decide) (fun h9 => absurd h9 (by decide)) (fun _ => ?_)
      have u1 : ¬ (fu (3 * i + 1)) < 0 := vB_ge0 (hNCi.2.1 1 (by decide)) (by decide)
      have u2 : ¬ 1000000000000 < (fu (3 * i + 1)) := vB_le12 (hNCi.2.1 1 (by decide))
      refine lv_lload hx hb dL_areContracts_111 (lv_at hl 0 rfl) ?_
      refine lv_lconst (v := 0) hx hb dL_areContracts_113 (by decide) ?_
      refine zx_lcmp_lt (tgt := 131) hx hb dL_areContracts_114 dL_areContracts_115 (by decide) (fun h9 => absurd h9 u1) (fun _ => ?_)
      refine lv_lload hx hb dL_areContracts_118 (lv_at hl 0 rfl) ?_
      refine lv_ldc2 (v := 1000000000000) hx hb hown k_2 dL_areContracts_120 ?_
      refine zx_lcmp_gt (tgt := 131) hx hb dL_areContracts_123 dL_areContracts_124 (by decide) (fun h9 => absurd h9 u2) (fun _ => ?_)
      refine lv_iconst (v := nI 1) hx hb dL_areContracts_127 (by decide) ?_
      refine lv_goto (tgt := 132) hx hb dL_areContracts_128 (by decide) ?_
      refine lv_istore_n (lv' := [(2, .int (nI 1)), (10, .long (fu (3 * i + 1))), (9, .int (nI 1)), (7, .long ((k_mon (fi i) ((bf (t * 3 + ff i)).toInt64)) + (k_mon (fu (3 * i + 0)) ((bf (t * 3 + 0)).toInt64)))), (5, .long (fi i)), (3, .ref q_3), (0, .ref x), (1, .ref cc), (4, .int (nI i))]) hx hb dL_areContracts_132 rfl hl (by decide) rfl (fun ls hl => ?_)
      refine lv_lload hx hb dL_areContracts_133 (lv_at hl 3 rfl) ?_
      refine lv_lload hx hb dL_areContracts_135 (lv_at hl 1 rfl) ?_
      refine lv_aload_n hx hb dL_areContracts_137 rfl (lv_at hl 7 rfl) ?_
      refine lv_iconst (v := nI 3) hx hb dL_areContracts_138 (by decide) ?_
      refine lv_iload hx hb dL_areContracts_139 (lv_at hl 2 rfl) ?_
      refine zx_iadd (v := nI 4) hx hb dL_areContracts_141 (by decide) ?_
      refine zx_iald (D := D) hx hb hK hP 5 0 rfl rfl (v := nI (cf 4)) (rfl) (by decide) (by first | decide | omega) dL_areContracts_142 ?_
      refine lv_i2l (v := (bf (t * 3 + 1)).toInt64) hx hb dL_areContracts_143 (p1) ?_
      refine zx_lmul (v := (fu (3 * i + 1)) * ((bf (t * 3 + 1)).toInt64)) hx hb dL_areContracts_144 (rfl) ?_
      refine lv_ldc2 (v := 1000) hx hb hown k_1 dL_areContracts_145 ?_
      refine zx_ldiv (v := (k_mon (fu (3 * i + 1)) ((bf (t * 3 + 1)).toInt64))) hx hb dL_areContracts_148 (by decide) (rfl) ?_
      refine zx_ladd (v := ((k_mon (fi i) ((bf (t * 3 + ff i)).toInt64)) + (k_mon (fu (3 * i + 0)) ((bf (t * 3 + 0)).toInt64))) + (k_mon (fu (3 * i + 1)) ((bf (t * 3 + 1)).toInt64))) hx hb dL_areContracts_149 (rfl) ?_
      refine lv_lstore (lv' := [(7, .long (((k_mon (fi i) ((bf (t * 3 + ff i)).toInt64)) + (k_mon (fu (3 * i + 0)) ((bf (t * 3 + 0)).toInt64))) + (k_mon (fu (3 * i + 1)) ((bf (t * 3 + 1)).toInt64)))), (2, .int (nI 1)), (10, .long (fu (3 * i + 1))), (9, .int (nI 1)), (5, .long (fi i)), (3, .ref q_3), (0, .ref x), (1, .ref cc), (4, .int (nI i))]) hx hb dL_areContracts_150 hl (by decide) rfl (fun ls hl => ?_)
      refine lv_aload_n hx hb dL_areContracts_152 rfl (lv_at hl 5 rfl) ?_
      refine lv_iload hx hb dL_areContracts_153 (lv_at hl 3 rfl) ?_
      refine lv_dup2_11 hx hb dL_areContracts_155 rfl rfl ?_
      refine zx_lald (D := D) hx hb hK hP 6 1 rfl rfl (v := (vp_updL al (ff i) ((al (ff i)) + (fi i))) 1) ((updL_ne (by omega))) (by decide) (by first | decide | omega) dL_areContracts_156 ?_
      refine lv_lload hx hb dL_areContracts_157 (lv_at hl 2 rfl) ?_
      refine zx_ladd (v := ((vp_updL al (ff i) ((al (ff i)) + (fi i))) 1) + (fu (3 * i + 1))) hx hb dL_areContracts_159 (rfl) ?_
      refine zx_last (D := D) hx hb hK hP hD hS 6 1 rfl rfl (by decide) (by decide) dL_areContracts_160 (fun H locs hP hD hS => ?_)
      have hP : va_P D vwCl (([(x, .inr (5, [.ref pr, .ref mk, .ref os, .long ch, .long gd])), (pr, .inr (3, [.ref bd, .int (nI t)])), (bd, .inl (cI, 6003, .inl bf)), (mk, .inr (0, [.int mm, .ref em1, .int (nI n)])), (os, .inr (0, [.int om, .ref em2, .int (nI k)])), (cc, .inl (cI, 30, .inl (nIf cf))), (q_3, .inl (cJ, 3, .inr (.inl (vp_updL (vp_updL (vp_updL al (ff i) ((al (ff i)) + (fi i))) 0 (((vp_updL al (ff i) ((al (ff i)) + (fi i))) 0) + (fu (3 * i + 0)))) 1 (((vp_updL al (ff i) ((al (ff i)) + (fi i))) 1) + (fu (3 * i + 1)))))))] : va_W) ++ va_pl L f) H := hP
      have hD : va_D A (([(x, .inr (5, [.ref pr, .ref mk, .ref os, .long ch, .long gd])), (pr, .inr (3, [.ref bd, .int (nI t)])), (bd, .inl (cI, 6003, .inl bf)), (mk, .inr (0, [.int mm, .ref em1, .int (nI n)])), (os, .inr (0, [.int om, .ref em2, .int (nI k)])), (cc, .inl (cI, 30, .inl (nIf cf))), (q_3, .inl (cJ, 3, .inr (.inl (vp_updL (vp_updL (vp_updL al (ff i) ((al (ff i)) + (fi i))) 0 (((vp_updL al (ff i) ((al (ff i)) + (fi i))) 0) + (fu (3 * i + 0)))) 1 (((vp_updL al (ff i) ((al (ff i)) + (fi i))) 1) + (fu (3 * i + 1)))))))] : va_W) ++ va_pl L f) := hD
      refine lv_iinc (v := nI 2) (lv' := [(9, .int (nI 2)), (7, .long (((k_mon (fi i) ((bf (t * 3 + ff i)).toInt64)) + (k_mon (fu (3 * i + 0)) ((bf (t * 3 + 0)).toInt64))) + (k_mon (fu (3 * i + 1)) ((bf (t * 3 + 1)).toInt64)))), (2, .int (nI 1)), (10, .long (fu (3 * i + 1))), (5, .long (fi i)), (3, .ref q_3), (0, .ref x), (1, .ref cc), (4, .int (nI i))]) hx hb dL_areContracts_161 hl (k := 3) rfl (by decide) (by decide) rfl (fun ls hl => ?_)
      refine lv_goto (tgt := 91) hx hb dL_areContracts_164 (by decide) ?_
      refine lv_iload hx hb dL_areContracts_91 (lv_at hl 0 rfl) ?_
      refine lv_iconst (v := nI 3) hx hb dL_areContracts_93 (by decide) ?_
      refine lv_icmp_ge (tgt := 167) hx hb dL_areContracts_94 (by decide) (fun h9 => absurd h9 (by decide)) (fun _ => ?_)
      refine lv_aload_n hx hb dL_areContracts_97 rfl (lv_at hl 6 rfl) ?_
      refine lv_iload hx hb dL_areContracts_98 (lv_at hl 8 rfl) ?_
      refine lv_iload hx hb dL_areContracts_100 (lv_at hl 0 rfl) ?_
      have hPs : va_P D vwCl (([(x, .inr (5, [.ref pr, .ref mk, .ref os, .long ch, .long gd])), (pr, .inr (3, [.ref bd, .int (nI t)])), (bd, .inl (cI, 6003, .inl bf)), (mk, .inr (0, [.int mm, .ref em1, .int (nI n)])), (os, .inr (0, [.int om, .ref em2, .int (nI k)]))] : va_W) ++ va_pl L f) _ := lp_Pl (va_P.swap (show va_P D vwCl ((([(x, .inr (5, [.ref pr, .ref mk, .ref os, .long ch, .long gd])), (pr, .inr (3, [.ref bd, .int (nI t)])), (bd, .inl (cI, 6003, .inl bf)), (mk, .inr (0, [.int mm, .ref em1, .int (nI n)])), (os, .inr (0, [.int om, .ref em2, .int (nI k)]))] : va_W) ++ ([(cc, .inl (cI, 30, .inl (nIf cf))), (q_3, .inl (cJ, 3, .inr (.inl (vp_updL (vp_updL (vp_updL al (ff i) ((al (ff i)) + (fi i))) 0 (((vp_updL al (ff i) ((al (ff i)) + (fi i))) 0) + (fu (3 * i + 0)))) 1 (((vp_updL al (ff i) ((al (ff i)) + (fi i))) 1) + (fu (3 * i + 1)))))))] : va_W)) ++ va_pl L f) _ from hP))
      refine vp_callSl (W.runV (As := [.int (nI i), .int (nI 2)]) (rest := []) ⟨hx, hb, hml, hown, hts⟩ (p_units l D x pr mk os ch gd bd t cI bf mm em1 n om em2 k L f cJ cO ca aa fp fs fr ff fa fz fi fu em i 2 (by first | omega | assumption) (by first | omega | assumption) (by first | omega | assumption) (by decide)) (cwV 2 hts gL_areContracts_X5_units rfl rfl rfl (by decide +kernel) ⟨Nat.le_of_ble_eq_true rfl, Nat.le_of_ble_eq_true rfl⟩) (z1_V (va_recv hK hPs (ci := 5) (q0 := 0) rfl rfl) hPs (hK.sub (tys' := [(cI, .int), (cJ, .long), (cO, .object "java/lang/Object")]) [0, 1, 2] rfl) hG) rfl rfl hl.1 rfl (lv_room (Nat.le_of_ble_eq_true rfl)) dL_areContracts_102 ⟨Nat.le_of_ble_eq_true rfl, Nat.le_of_ble_eq_true rfl⟩) (fun r_14 e_r_14 => ?_)
      replace e_r_14 := e_r_14.symm; subst e_r_14
      refine lv_lstore (lv' := [(10, .long (fu (3 * i + 2))), (9, .int (nI 2)), (7, .long (((k_mon (fi i) ((bf (t * 3 + ff i)).toInt64)) + (k_mon (fu (3 * i + 0)) ((bf (t * 3 + 0)).toInt64))) + (k_mon (fu (3 * i + 1)) ((bf (t * 3 + 1)).toInt64)))), (2, .int (nI 1)), (5, .long (fi i)), (3, .ref q_3), (0, .ref x), (1, .ref cc), (4, .int (nI i))]) hx hb dL_areContracts_105 hl (by decide) rfl (fun ls hl => ?_)
      refine lv_iload_n hx hb dL_areContracts_107 rfl (lv_at hl 3 rfl) ?_
      refine lv_if_eq (tgt := 131) hx hb dL_areContracts_108 (by decide) (fun h9 => absurd h9 (by decide)) (fun _ => ?_)
      have u1 : ¬ (fu (3 * i + 2)) < 0 := vB_ge0 (hNCi.2.1 2 (by decide)) (by decide)
      have u2 : ¬ 1000000000000 < (fu (3 * i + 2)) := vB_le12 (hNCi.2.1 2 (by decide))
      refine lv_lload hx hb dL_areContracts_111 (lv_at hl 0 rfl) ?_
      refine lv_lconst (v := 0) hx hb dL_areContracts_113 (by decide) ?_
      refine zx_lcmp_lt (tgt := 131) hx hb dL_areContracts_114 dL_areContracts_115 (by decide) (fun h9 => absurd h9 u1) (fun _ => ?_)
      refine lv_lload hx hb dL_areContracts_118 (lv_at hl 0 rfl) ?_
      refine lv_ldc2 (v := 1000000000000) hx hb hown k_2 dL_areContracts_120 ?_
      refine zx_lcmp_gt (tgt := 131) hx hb dL_areContracts_123 dL_areContracts_124 (by decide) (fun h9 => absurd h9 u2) (fun _ => ?_)
      refine lv_iconst (v := nI 1) hx hb dL_areContracts_127 (by decide) ?_
      refine lv_goto (tgt := 132) hx hb dL_areContracts_128 (by decide) ?_
      refine lv_istore_n (lv' := [(2, .int (nI 1)), (10, .long (fu (3 * i + 2))), (9, .int (nI 2)), (7, .long (((k_mon (fi i) ((bf (t * 3 + ff i)).toInt64)) + (k_mon (fu (3 * i + 0)) ((bf (t * 3 + 0)).toInt64))) + (k_mon (fu (3 * i + 1)) ((bf (t * 3 + 1)).toInt64)))), (5, .long (fi i)), (3, .ref q_3), (0, .ref x), (1, .ref cc), (4, .int (nI i))]) hx hb dL_areContracts_132 rfl hl (by decide) rfl (fun ls hl => ?_)
      refine lv_lload hx hb dL_areContracts_133 (lv_at hl 3 rfl) ?_
      refine lv_lload hx hb dL_areContracts_135 (lv_at hl 1 rfl) ?_
      refine lv_aload_n hx hb dL_areContracts_137 rfl (lv_at hl 7 rfl) ?_
      refine lv_iconst (v := nI 3) hx hb dL_areContracts_138 (by decide) ?_
      refine lv_iload hx hb dL_areContracts_139 (lv_at hl 2 rfl) ?_
      refine zx_iadd (v := nI 5) hx hb dL_areContracts_141 (by decide) ?_
      refine zx_iald (D := D) hx hb hK hP 5 0 rfl rfl (v := nI (cf 5)) (rfl) (by decide) (by first | decide | omega) dL_areContracts_142 ?_
      refine lv_i2l (v := (bf (t * 3 + 2)).toInt64) hx hb dL_areContracts_143 (p2) ?_
      refine zx_lmul (v := (fu (3 * i + 2)) * ((bf (t * 3 + 2)).toInt64)) hx hb dL_areContracts_144 (rfl) ?_
      refine lv_ldc2 (v := 1000) hx hb hown k_1 dL_areContracts_145 ?_
      refine zx_ldiv (v := (k_mon (fu (3 * i + 2)) ((bf (t * 3 + 2)).toInt64))) hx hb dL_areContracts_148 (by decide) (rfl) ?_
      refine zx_ladd (v := (((k_mon (fi i) ((bf (t * 3 + ff i)).toInt64)) + (k_mon (fu (3 * i + 0)) ((bf (t * 3 + 0)).toInt64))) + (k_mon (fu (3 * i + 1)) ((bf (t * 3 + 1)).toInt64))) + (k_mon (fu (3 * i + 2)) ((bf (t * 3 + 2)).toInt64))) hx hb dL_areContracts_149 (rfl) ?_
      refine lv_lstore (lv' := [(7, .long ((((k_mon (fi i) ((bf (t * 3 + ff i)).toInt64)) + (k_mon (fu (3 * i + 0)) ((bf (t * 3 + 0)).toInt64))) + (k_mon (fu (3 * i + 1)) ((bf (t * 3 + 1)).toInt64))) + (k_mon (fu (3 * i + 2)) ((bf (t * 3 + 2)).toInt64)))), (2, .int (nI 1)), (10, .long (fu (3 * i + 2))), (9, .int (nI 2)), (5, .long (fi i)), (3, .ref q_3), (0, .ref x), (1, .ref cc), (4, .int (nI i))]) hx hb dL_areContracts_150 hl (by decide) rfl (fun ls hl => ?_)
      refine lv_aload_n hx hb dL_areContracts_152 rfl (lv_at hl 5 rfl) ?_
      refine lv_iload hx hb dL_areContracts_153 (lv_at hl 3 rfl) ?_
      refine lv_dup2_11 hx hb dL_areContracts_155 rfl rfl ?_
      refine zx_lald (D := D) hx hb hK hP 6 1 rfl rfl (v := (vp_updL al (ff i) ((al (ff i)) + (fi i))) 2) (((updL_ne (by omega)).trans (updL_ne (by omega)))) (by decide) (by first | decide | omega) dL_areContracts_156 ?_
      refine lv_lload hx hb dL_areContracts_157 (lv_at hl 2 rfl) ?_
      refine zx_ladd (v := ((vp_updL al (ff i) ((al (ff i)) + (fi i))) 2) + (fu (3 * i + 2))) hx hb dL_areContracts_159 (rfl) ?_
      refine zx_last (D := D) hx hb hK hP hD hS 6 1 rfl rfl (by decide) (by decide) dL_areContracts_160 (fun H locs hP hD hS => ?_)
      have hP : va_P D vwCl (([(x, .inr (5, [.ref pr, .ref mk, .ref os, .long ch, .long gd])), (pr, .inr (3, [.ref bd, .int (nI t)])), (bd, .inl (cI, 6003, .inl bf)), (mk, .inr (0, [.int mm, .ref em1, .int (nI n)])), (os, .inr (0, [.int om, .ref em2, .int (nI k)])), (cc, .inl (cI, 30, .inl (nIf cf))), (q_3, .inl (cJ, 3, .inr (.inl (vp_updL (vp_updL (vp_updL (vp_updL al (ff i) ((al (ff i)) + (fi i))) 0 (((vp_updL al (ff i) ((al (ff i)) + (fi i))) 0) + (fu (3 * i + 0)))) 1 (((vp_updL al (ff i) ((al (ff i)) + (fi i))) 1) + (fu (3 * i + 1)))) 2 (((vp_updL al (ff i) ((al (ff i)) + (fi i))) 2) + (fu (3 * i + 2)))))))] : va_W) ++ va_pl L f) H := hP
      have hD : va_D A (([(x, .inr (5, [.ref pr, .ref mk, .ref os, .long ch, .long gd])), (pr, .inr (3, [.ref bd, .int (nI t)])), (bd, .inl (cI, 6003, .inl bf)), (mk, .inr (0, [.int mm, .ref em1, .int (nI n)])), (os, .inr (0, [.int om, .ref em2, .int (nI k)])), (cc, .inl (cI, 30, .inl (nIf cf))), (q_3, .inl (cJ, 3, .inr (.inl (vp_updL (vp_updL (vp_updL (vp_updL al (ff i) ((al (ff i)) + (fi i))) 0 (((vp_updL al (ff i) ((al (ff i)) + (fi i))) 0) + (fu (3 * i + 0)))) 1 (((vp_updL al (ff i) ((al (ff i)) + (fi i))) 1) + (fu (3 * i + 1)))) 2 (((vp_updL al (ff i) ((al (ff i)) + (fi i))) 2) + (fu (3 * i + 2)))))))] : va_W) ++ va_pl L f) := hD
      refine lv_iinc (v := nI 3) (lv' := [(9, .int (nI 3)), (7, .long ((((k_mon (fi i) ((bf (t * 3 + ff i)).toInt64)) + (k_mon (fu (3 * i + 0)) ((bf (t * 3 + 0)).toInt64))) + (k_mon (fu (3 * i + 1)) ((bf (t * 3 + 1)).toInt64))) + (k_mon (fu (3 * i + 2)) ((bf (t * 3 + 2)).toInt64)))), (2, .int (nI 1)), (10, .long (fu (3 * i + 2))), (5, .long (fi i)), (3, .ref q_3), (0, .ref x), (1, .ref cc), (4, .int (nI i))]) hx hb dL_areContracts_161 hl (k := 3) rfl (by decide) (by decide) rfl (fun ls hl => ?_)
      refine lv_goto (tgt := 91) hx hb dL_areContracts_164 (by decide) ?_
      refine lv_iload hx hb dL_areContracts_91 (lv_at hl 0 rfl) ?_
      refine lv_iconst (v := nI 3) hx hb dL_areContracts_93 (by decide) ?_
      refine lv_icmp_ge (tgt := 167) hx hb dL_areContracts_94 (by decide) (fun _ => ?_) (fun h9 => absurd (by decide) h9)
      refine lv_iload_n hx hb dL_areContracts_167 rfl (lv_at hl 2 rfl) ?_
      refine lv_if_eq (tgt := 249) hx hb dL_areContracts_168 (by decide) (fun h9 => absurd h9 (by decide)) (fun _ => ?_)
      refine lv_lload hx hb dL_areContracts_171 (lv_at hl 4 rfl) ?_
      refine lv_lconst (v := 0) hx hb dL_areContracts_173 (by decide) ?_
      refine zx_lcmp_lt (tgt := 249) hx hb dL_areContracts_174 dL_areContracts_175 (by decide) (fun h9 => absurd h9 u0) (fun _ => ?_)
      refine lv_aload_n hx hb dL_areContracts_178 rfl (lv_at hl 6 rfl) ?_
      refine lv_iload hx hb dL_areContracts_179 (lv_at hl 8 rfl) ?_
      have hPs : va_P D vwCl (([(x, .inr (5, [.ref pr, .ref mk, .ref os, .long ch, .long gd])), (pr, .inr (3, [.ref bd, .int (nI t)])), (bd, .inl (cI, 6003, .inl bf)), (mk, .inr (0, [.int mm, .ref em1, .int (nI n)])), (os, .inr (0, [.int om, .ref em2, .int (nI k)]))] : va_W) ++ va_pl L f) _ := lp_Pl (va_P.swap (show va_P D vwCl ((([(x, .inr (5, [.ref pr, .ref mk, .ref os, .long ch, .long gd])), (pr, .inr (3, [.ref bd, .int (nI t)])), (bd, .inl (cI, 6003, .inl bf)), (mk, .inr (0, [.int mm, .ref em1, .int (nI n)])), (os, .inr (0, [.int om, .ref em2, .int (nI k)]))] : va_W) ++ ([(cc, .inl (cI, 30, .inl (nIf cf))), (q_3, .inl (cJ, 3, .inr (.inl (vp_updL (vp_updL (vp_updL (vp_updL al (ff i) ((al (ff i)) + (fi i))) 0 (((vp_updL al (ff i) ((al (ff i)) + (fi i))) 0) + (fu (3 * i + 0)))) 1 (((vp_updL al (ff i) ((al (ff i)) + (fi i))) 1) + (fu (3 * i + 1)))) 2 (((vp_updL al (ff i) ((al (ff i)) + (fi i))) 2) + (fu (3 * i + 2)))))))] : va_W)) ++ va_pl L f) _ from hP))
      refine vp_callSl (W.runV (As := [.int (nI i)]) (rest := []) ⟨hx, hb, hml, hown, hts⟩ (p_worth l D x pr mk os ch gd bd t cI bf mm em1 n om em2 k L f cJ cO ca aa fp fs fr ff fa fz fi fu em i (by first | omega | assumption) (by first | omega | assumption) (by first | omega | assumption) nFF nT) (cwV 1 hts gL_areContracts_X5_worth rfl rfl rfl (by decide +kernel) ⟨Nat.le_of_ble_eq_true rfl, Nat.le_of_ble_eq_true rfl⟩) (z1_V (va_recv hK hPs (ci := 5) (q0 := 0) rfl rfl) hPs (hK.sub (tys' := [(cI, .int), (cJ, .long), (cO, .object "java/lang/Object")]) [0, 1, 2] rfl) hG) rfl rfl hl.1 rfl (lv_room (Nat.le_of_ble_eq_true rfl)) dL_areContracts_181 ⟨Nat.le_of_ble_eq_true rfl, Nat.le_of_ble_eq_true rfl⟩) (fun r_15 e_r_15 => ?_)
      replace e_r_15 := e_r_15.symm; subst e_r_15
      refine lv_lload hx hb dL_areContracts_184 (lv_at hl 1 rfl) ?_
      refine zx_lcmp_ne (tgt := 249) hx hb dL_areContracts_186 dL_areContracts_187 (by decide) (fun h9 => absurd rfl h9) (fun _ => ?_)
      refine lv_aload_n hx hb dL_areContracts_190 rfl (lv_at hl 6 rfl) ?_
      refine lv_iload hx hb dL_areContracts_191 (lv_at hl 8 rfl) ?_
      have hPs : va_P D vwCl (([(x, .inr (5, [.ref pr, .ref mk, .ref os, .long ch, .long gd])), (pr, .inr (3, [.ref bd, .int (nI t)])), (bd, .inl (cI, 6003, .inl bf)), (mk, .inr (0, [.int mm, .ref em1, .int (nI n)])), (os, .inr (0, [.int om, .ref em2, .int (nI k)]))] : va_W) ++ va_pl L f) _ := lp_Pl (va_P.swap (show va_P D vwCl ((([(x, .inr (5, [.ref pr, .ref mk, .ref os, .long ch, .long gd])), (pr, .inr (3, [.ref bd, .int (nI t)])), (bd, .inl (cI, 6003, .inl bf)), (mk, .inr (0, [.int mm, .ref em1, .int (nI n)])), (os, .inr (0, [.int om, .ref em2, .int (nI k)]))] : va_W) ++ ([(cc, .inl (cI, 30, .inl (nIf cf))), (q_3, .inl (cJ, 3, .inr (.inl (vp_updL (vp_updL (vp_updL (vp_updL al (ff i) ((al (ff i)) + (fi i))) 0 (((vp_updL al (ff i) ((al (ff i)) + (fi i))) 0) + (fu (3 * i + 0)))) 1 (((vp_updL al (ff i) ((al (ff i)) + (fi i))) 1) + (fu (3 * i + 1)))) 2 (((vp_updL al (ff i) ((al (ff i)) + (fi i))) 2) + (fu (3 * i + 2)))))))] : va_W)) ++ va_pl L f) _ from hP))
      refine vp_callSi (W.runV (As := [.int (nI i)]) (rest := []) ⟨hx, hb, hml, hown, hts⟩ (p_paid l D x pr mk os ch gd bd t cI bf mm em1 n om em2 k L f cJ cO ca aa fp fs fr ff fa fz fi fu em i (by first | omega | assumption) (by first | omega | assumption) (by first | omega | assumption)) (cwV 1 hts gL_areContracts_X5_paid rfl rfl rfl (by decide +kernel) ⟨Nat.le_of_ble_eq_true rfl, Nat.le_of_ble_eq_true rfl⟩) (z1_V (va_recv hK hPs (ci := 5) (q0 := 0) rfl rfl) hPs (hK.sub (tys' := [(cI, .int), (cJ, .long), (cO, .object "java/lang/Object")]) [0, 1, 2] rfl) hG) rfl rfl hl.1 rfl (lv_room (Nat.le_of_ble_eq_true rfl)) dL_areContracts_193 ⟨Nat.le_of_ble_eq_true rfl, Nat.le_of_ble_eq_true rfl⟩) (fun r_16 e_r_16 => ?_)
      replace e_r_16 := e_r_16.symm; subst e_r_16
      refine lv_aload_n hx hb dL_areContracts_196 rfl (lv_at hl 7 rfl) ?_
      refine lv_bipush (v := nI 18) hx hb dL_areContracts_197 (by decide) ?_
      refine lv_iload hx hb dL_areContracts_199 (lv_at hl 8 rfl) ?_
      refine zx_iadd (v := nI (18 + i)) hx hb dL_areContracts_201 (nI_add _ _) ?_
      refine zx_iald (D := D) hx hb hK hP 5 0 rfl rfl (v := nI (fa i)) ((congrArg nI (c5 i (by omega)).1)) (by omega) (by first | decide | omega) dL_areContracts_202 ?_
      refine lv_icmp_ne (tgt := 249) hx hb dL_areContracts_203 (by decide) (fun h9 => absurd ((nI_eq (a := fa i) (b := fa i) (by omega) (by omega)).mpr (by omega)) h9) (fun _ => ?_)
      refine lv_aload_n hx hb dL_areContracts_206 rfl (lv_at hl 6 rfl) ?_
      refine lv_iload hx hb dL_areContracts_207 (lv_at hl 8 rfl) ?_
      have hPs : va_P D vwCl (([(x, .inr (5, [.ref pr, .ref mk, .ref os, .long ch, .long gd])), (pr, .inr (3, [.ref bd, .int (nI t)])), (bd, .inl (cI, 6003, .inl bf)), (mk, .inr (0, [.int mm, .ref em1, .int (nI n)])), (os, .inr (0, [.int om, .ref em2, .int (nI k)]))] : va_W) ++ va_pl L f) _ := lp_Pl (va_P.swap (show va_P D vwCl ((([(x, .inr (5, [.ref pr, .ref mk, .ref os, .long ch, .long gd])), (pr, .inr (3, [.ref bd, .int (nI t)])), (bd, .inl (cI, 6003, .inl bf)), (mk, .inr (0, [.int mm, .ref em1, .int (nI n)])), (os, .inr (0, [.int om, .ref em2, .int (nI k)]))] : va_W) ++ ([(cc, .inl (cI, 30, .inl (nIf cf))), (q_3, .inl (cJ, 3, .inr (.inl (vp_updL (vp_updL (vp_updL (vp_updL al (ff i) ((al (ff i)) + (fi i))) 0 (((vp_updL al (ff i) ((al (ff i)) + (fi i))) 0) + (fu (3 * i + 0)))) 1 (((vp_updL al (ff i) ((al (ff i)) + (fi i))) 1) + (fu (3 * i + 1)))) 2 (((vp_updL al (ff i) ((al (ff i)) + (fi i))) 2) + (fu (3 * i + 2)))))))] : va_W)) ++ va_pl L f) _ from hP))
      refine vp_callSi (W.runV (As := [.int (nI i)]) (rest := []) ⟨hx, hb, hml, hown, hts⟩ (p_isInForce l D x pr mk os ch gd bd t cI bf mm em1 n om em2 k L f cJ cO ca aa fp fs fr ff fa fz fi fu em i (by first | omega | assumption) (by first | omega | assumption) (by first | omega | assumption) nFZ) (cwV 1 hts gL_areContracts_X5_isInForce rfl rfl rfl (by decide +kernel) ⟨Nat.le_of_ble_eq_true rfl, Nat.le_of_ble_eq_true rfl⟩) (z1_V (va_recv hK hPs (ci := 5) (q0 := 0) rfl rfl) hPs (hK.sub (tys' := [(cI, .int), (cJ, .long), (cO, .object "java/lang/Object")]) [0, 1, 2] rfl) hG) rfl rfl hl.1 rfl (lv_room (Nat.le_of_ble_eq_true rfl)) dL_areContracts_209 ⟨Nat.le_of_ble_eq_true rfl, Nat.le_of_ble_eq_true rfl⟩) (fun r_17 e_r_17 => ?_)
      replace e_r_17 := e_r_17.symm; subst e_r_17
      refine lv_if_ne (tgt := 229) hx hb dL_areContracts_212 (by decide) (fun c_212 => ?_) (fun c_212 => ?_)
      · skip
        refine lv_lload hx hb dL_areContracts_229 (lv_at hl 4 rfl) ?_
        refine lv_lconst (v := 0) hx hb dL_areContracts_231 (by decide) ?_
        refine zx_lcmp_eq (tgt := 245) hx hb dL_areContracts_232 dL_areContracts_233 (by decide) (fun c_232 => ?_) (fun c_232 => ?_)
        · skip
          refine lv_iconst (v := nI 1) hx hb dL_areContracts_245 (by decide) ?_
          refine lv_goto (tgt := 250) hx hb dL_areContracts_246 (by decide) ?_
          refine lv_istore_n (lv' := [(2, .int (nI 1)), (9, .int (nI 3)), (7, .long ((((k_mon (fi i) ((bf (t * 3 + ff i)).toInt64)) + (k_mon (fu (3 * i + 0)) ((bf (t * 3 + 0)).toInt64))) + (k_mon (fu (3 * i + 1)) ((bf (t * 3 + 1)).toInt64))) + (k_mon (fu (3 * i + 2)) ((bf (t * 3 + 2)).toInt64)))), (10, .long (fu (3 * i + 2))), (5, .long (fi i)), (3, .ref q_3), (0, .ref x), (1, .ref cc), (4, .int (nI i))]) hx hb dL_areContracts_250 rfl hl (by decide) rfl (fun ls hl => ?_)
          refine lv_iinc (v := nI (i + 1)) (lv' := [(4, .int (nI (i + 1))), (2, .int (nI 1)), (9, .int (nI 3)), (7, .long ((((k_mon (fi i) ((bf (t * 3 + ff i)).toInt64)) + (k_mon (fu (3 * i + 0)) ((bf (t * 3 + 0)).toInt64))) + (k_mon (fu (3 * i + 1)) ((bf (t * 3 + 1)).toInt64))) + (k_mon (fu (3 * i + 2)) ((bf (t * 3 + 2)).toInt64)))), (10, .long (fu (3 * i + 2))), (5, .long (fi i)), (3, .ref q_3), (0, .ref x), (1, .ref cc)]) hx hb dL_areContracts_251 hl (k := 8) rfl (nI_1 i) (by decide) rfl (fun ls hl => ?_)
          refine lv_goto (tgt := 33) hx hb dL_areContracts_254 (by decide) ?_
          exact ih (i + 1) (vp_updL (vp_updL (vp_updL (vp_updL al (ff i) ((al (ff i)) + (fi i))) 0 (((vp_updL al (ff i) ((al (ff i)) + (fi i))) 0) + (fu (3 * i + 0)))) 1 (((vp_updL al (ff i) ((al (ff i)) + (fi i))) 1) + (fu (3 * i + 1)))) 2 (((vp_updL al (ff i) ((al (ff i)) + (fi i))) 2) + (fu (3 * i + 2)))) H locs ls (by omega) (all_s (a := fun z => fu (3 * i + z)) hal9) hP hD hS (lv_sub hl [6, 1, 7, 8, 0] rfl)
        · skip
          have hp9 := vB_pos hNCi.1 c_232
          refine lv_aload_n hx hb dL_areContracts_236 rfl (lv_at hl 6 rfl) ?_
          refine lv_iload hx hb dL_areContracts_237 (lv_at hl 8 rfl) ?_
          have hPs : va_P D vwCl (([(x, .inr (5, [.ref pr, .ref mk, .ref os, .long ch, .long gd])), (pr, .inr (3, [.ref bd, .int (nI t)])), (bd, .inl (cI, 6003, .inl bf)), (mk, .inr (0, [.int mm, .ref em1, .int (nI n)])), (os, .inr (0, [.int om, .ref em2, .int (nI k)]))] : va_W) ++ va_pl L f) _ := lp_Pl (va_P.swap (show va_P D vwCl ((([(x, .inr (5, [.ref pr, .ref mk, .ref os, .long ch, .long gd])), (pr, .inr (3, [.ref bd, .int (nI t)])), (bd, .inl (cI, 6003, .inl bf)), (mk, .inr (0, [.int mm, .ref em1, .int (nI n)])), (os, .inr (0, [.int om, .ref em2, .int (nI k)]))] : va_W) ++ ([(cc, .inl (cI, 30, .inl (nIf cf))), (q_3, .inl (cJ, 3, .inr (.inl (vp_updL (vp_updL (vp_updL (vp_updL al (ff i) ((al (ff i)) + (fi i))) 0 (((vp_updL al (ff i) ((al (ff i)) + (fi i))) 0) + (fu (3 * i + 0)))) 1 (((vp_updL al (ff i) ((al (ff i)) + (fi i))) 1) + (fu (3 * i + 1)))) 2 (((vp_updL al (ff i) ((al (ff i)) + (fi i))) 2) + (fu (3 * i + 2)))))))] : va_W)) ++ va_pl L f) _ from hP))
          refine vp_callSi (W.runV (As := [.int (nI i)]) (rest := []) ⟨hx, hb, hml, hown, hts⟩ (p_paid l D x pr mk os ch gd bd t cI bf mm em1 n om em2 k L f cJ cO ca aa fp fs fr ff fa fz fi fu em i (by first | omega | assumption) (by first | omega | assumption) (by first | omega | assumption)) (cwV 1 hts gL_areContracts_X5_paid rfl rfl rfl (by decide +kernel) ⟨Nat.le_of_ble_eq_true rfl, Nat.le_of_ble_eq_true rfl⟩) (z1_V (va_recv hK hPs (ci := 5) (q0 := 0) rfl rfl) hPs (hK.sub (tys' := [(cI, .int), (cJ, .long), (cO, .object "java/lang/Object")]) [0, 1, 2] rfl) hG) rfl rfl hl.1 rfl (lv_room (Nat.le_of_ble_eq_true rfl)) dL_areContracts_239 ⟨Nat.le_of_ble_eq_true rfl, Nat.le_of_ble_eq_true rfl⟩) (fun r_18 e_r_18 => ?_)
          replace e_r_18 := e_r_18.symm; subst e_r_18
          refine lv_if_le (tgt := 249) hx hb dL_areContracts_242 (by decide) (fun h9 => absurd h9 (fun h8 => absurd ((nI_leI (a := fa i) (b := 0) (by omega) (by omega)).mp h8) (by omega))) (fun _ => ?_)
          refine lv_iconst (v := nI 1) hx hb dL_areContracts_245 (by decide) ?_
          refine lv_goto (tgt := 250) hx hb dL_areContracts_246 (by decide) ?_
          refine lv_istore_n (lv' := [(2, .int (nI 1)), (9, .int (nI 3)), (7, .long ((((k_mon (fi i) ((bf (t * 3 + ff i)).toInt64)) + (k_mon (fu (3 * i + 0)) ((bf (t * 3 + 0)).toInt64))) + (k_mon (fu (3 * i + 1)) ((bf (t * 3 + 1)).toInt64))) + (k_mon (fu (3 * i + 2)) ((bf (t * 3 + 2)).toInt64)))), (10, .long (fu (3 * i + 2))), (5, .long (fi i)), (3, .ref q_3), (0, .ref x), (1, .ref cc), (4, .int (nI i))]) hx hb dL_areContracts_250 rfl hl (by decide) rfl (fun ls hl => ?_)
          refine lv_iinc (v := nI (i + 1)) (lv' := [(4, .int (nI (i + 1))), (2, .int (nI 1)), (9, .int (nI 3)), (7, .long ((((k_mon (fi i) ((bf (t * 3 + ff i)).toInt64)) + (k_mon (fu (3 * i + 0)) ((bf (t * 3 + 0)).toInt64))) + (k_mon (fu (3 * i + 1)) ((bf (t * 3 + 1)).toInt64))) + (k_mon (fu (3 * i + 2)) ((bf (t * 3 + 2)).toInt64)))), (10, .long (fu (3 * i + 2))), (5, .long (fi i)), (3, .ref q_3), (0, .ref x), (1, .ref cc)]) hx hb dL_areContracts_251 hl (k := 8) rfl (nI_1 i) (by decide) rfl (fun ls hl => ?_)
          refine lv_goto (tgt := 33) hx hb dL_areContracts_254 (by decide) ?_
          exact ih (i + 1) (vp_updL (vp_updL (vp_updL (vp_updL al (ff i) ((al (ff i)) + (fi i))) 0 (((vp_updL al (ff i) ((al (ff i)) + (fi i))) 0) + (fu (3 * i + 0)))) 1 (((vp_updL al (ff i) ((al (ff i)) + (fi i))) 1) + (fu (3 * i + 1)))) 2 (((vp_updL al (ff i) ((al (ff i)) + (fi i))) 2) + (fu (3 * i + 2)))) H locs ls (by omega) (all_s (a := fun z => fu (3 * i + z)) hal9) hP hD hS (lv_sub hl [6, 1, 7, 8, 0] rfl)
      · skip
        obtain ⟨d1, d2⟩ := hNCi.2.2 c_212
        refine lv_lload hx hb dL_areContracts_215 (lv_at hl 1 rfl) ?_
        refine lv_lconst (v := 0) hx hb dL_areContracts_217 (by decide) ?_
        refine zx_lcmp_ne (tgt := 249) hx hb dL_areContracts_218 dL_areContracts_219 (by decide) (fun h9 => absurd (show (k_worth (fi i) (bf (t * 3 + ff i)) (bf (t * 3 + 0)) (bf (t * 3 + 1)) (bf (t * 3 + 2)) (fu (3 * i + 0)) (fu (3 * i + 1)) (fu (3 * i + 2))) = 0 from (by rw [d1, d2 0 (by decide), d2 1 (by decide), d2 2 (by decide)]; exact worth0)) h9) (fun _ => ?_)
        refine lv_lload hx hb dL_areContracts_222 (lv_at hl 4 rfl) ?_
        refine lv_lconst (v := 0) hx hb dL_areContracts_224 (by decide) ?_
        refine zx_lcmp_ne (tgt := 249) hx hb dL_areContracts_225 dL_areContracts_226 (by decide) (fun h9 => absurd d1 h9) (fun _ => ?_)
        refine lv_lload hx hb dL_areContracts_229 (lv_at hl 4 rfl) ?_
        refine lv_lconst (v := 0) hx hb dL_areContracts_231 (by decide) ?_
        refine zx_lcmp_eq (tgt := 245) hx hb dL_areContracts_232 dL_areContracts_233 (by decide) (fun c_232 => ?_) (fun c_232 => ?_)
        · skip
          refine lv_iconst (v := nI 1) hx hb dL_areContracts_245 (by decide) ?_
          refine lv_goto (tgt := 250) hx hb dL_areContracts_246 (by decide) ?_
          refine lv_istore_n (lv' := [(2, .int (nI 1)), (9, .int (nI 3)), (7, .long ((((k_mon (fi i) ((bf (t * 3 + ff i)).toInt64)) + (k_mon (fu (3 * i + 0)) ((bf (t * 3 + 0)).toInt64))) + (k_mon (fu (3 * i + 1)) ((bf (t * 3 + 1)).toInt64))) + (k_mon (fu (3 * i + 2)) ((bf (t * 3 + 2)).toInt64)))), (10, .long (fu (3 * i + 2))), (5, .long (fi i)), (3, .ref q_3), (0, .ref x), (1, .ref cc), (4, .int (nI i))]) hx hb dL_areContracts_250 rfl hl (by decide) rfl (fun ls hl => ?_)
          refine lv_iinc (v := nI (i + 1)) (lv' := [(4, .int (nI (i + 1))), (2, .int (nI 1)), (9, .int (nI 3)), (7, .long ((((k_mon (fi i) ((bf (t * 3 + ff i)).toInt64)) + (k_mon (fu (3 * i + 0)) ((bf (t * 3 + 0)).toInt64))) + (k_mon (fu (3 * i + 1)) ((bf (t * 3 + 1)).toInt64))) + (k_mon (fu (3 * i + 2)) ((bf (t * 3 + 2)).toInt64)))), (10, .long (fu (3 * i + 2))), (5, .long (fi i)), (3, .ref q_3), (0, .ref x), (1, .ref cc)]) hx hb dL_areContracts_251 hl (k := 8) rfl (nI_1 i) (by decide) rfl (fun ls hl => ?_)
          refine lv_goto (tgt := 33) hx hb dL_areContracts_254 (by decide) ?_
          exact ih (i + 1) (vp_updL (vp_updL (vp_updL (vp_updL al (ff i) ((al (ff i)) + (fi i))) 0 (((vp_updL al (ff i) ((al (ff i)) + (fi i))) 0) + (fu (3 * i + 0)))) 1 (((vp_updL al (ff i) ((al (ff i)) + (fi i))) 1) + (fu (3 * i + 1)))) 2 (((vp_updL al (ff i) ((al (ff i)) + (fi i))) 2) + (fu (3 * i + 2)))) H locs ls (by omega) (all_s (a := fun z => fu (3 * i + z)) hal9) hP hD hS (lv_sub hl [6, 1, 7, 8, 0] rfl)
        · skip
          have hp9 := vB_pos hNCi.1 c_232
          refine lv_aload_n hx hb dL_areContracts_236 rfl (lv_at hl 6 rfl) ?_
          refine lv_iload hx hb dL_areContracts_237 (lv_at hl 8 rfl) ?_
          have hPs : va_P D vwCl (([(x, .inr (5, [.ref pr, .ref mk, .ref os, .long ch, .long gd])), (pr, .inr (3, [.ref bd, .int (nI t)])), (bd, .inl (cI, 6003, .inl bf)), (mk, .inr (0, [.int mm, .ref em1, .int (nI n)])), (os, .inr (0, [.int om, .ref em2, .int (nI k)]))] : va_W) ++ va_pl L f) _ := lp_Pl (va_P.swap (show va_P D vwCl ((([(x, .inr (5, [.ref pr, .ref mk, .ref os, .long ch, .long gd])), (pr, .inr (3, [.ref bd, .int (nI t)])), (bd, .inl (cI, 6003, .inl bf)), (mk, .inr (0, [.int mm, .ref em1, .int (nI n)])), (os, .inr (0, [.int om, .ref em2, .int (nI k)]))] : va_W) ++ ([(cc, .inl (cI, 30, .inl (nIf cf))), (q_3, .inl (cJ, 3, .inr (.inl (vp_updL (vp_updL (vp_updL (vp_updL al (ff i) ((al (ff i)) + (fi i))) 0 (((vp_updL al (ff i) ((al (ff i)) + (fi i))) 0) + (fu (3 * i + 0)))) 1 (((vp_updL al (ff i) ((al (ff i)) + (fi i))) 1) + (fu (3 * i + 1)))) 2 (((vp_updL al (ff i) ((al (ff i)) + (fi i))) 2) + (fu (3 * i + 2)))))))] : va_W)) ++ va_pl L f) _ from hP))
          refine vp_callSi (W.runV (As := [.int (nI i)]) (rest := []) ⟨hx, hb, hml, hown, hts⟩ (p_paid l D x pr mk os ch gd bd t cI bf mm em1 n om em2 k L f cJ cO ca aa fp fs fr ff fa fz fi fu em i (by first | omega | assumption) (by first | omega | assumption) (by first | omega | assumption)) (cwV 1 hts gL_areContracts_X5_paid rfl rfl rfl (by decide +kernel) ⟨Nat.le_of_ble_eq_true rfl, Nat.le_of_ble_eq_true rfl⟩) (z1_V (va_recv hK hPs (ci := 5) (q0 := 0) rfl rfl) hPs (hK.sub (tys' := [(cI, .int), (cJ, .long), (cO, .object "java/lang/Object")]) [0, 1, 2] rfl) hG) rfl rfl hl.1 rfl (lv_room (Nat.le_of_ble_eq_true rfl)) dL_areContracts_239 ⟨Nat.le_of_ble_eq_true rfl, Nat.le_of_ble_eq_true rfl⟩) (fun r_19 e_r_19 => ?_)
          replace e_r_19 := e_r_19.symm; subst e_r_19
          refine lv_if_le (tgt := 249) hx hb dL_areContracts_242 (by decide) (fun h9 => absurd h9 (fun h8 => absurd ((nI_leI (a := fa i) (b := 0) (by omega) (by omega)).mp h8) (by omega))) (fun _ => ?_)
          refine lv_iconst (v := nI 1) hx hb dL_areContracts_245 (by decide) ?_
          refine lv_goto (tgt := 250) hx hb dL_areContracts_246 (by decide) ?_
          refine lv_istore_n (lv' := [(2, .int (nI 1)), (9, .int (nI 3)), (7, .long ((((k_mon (fi i) ((bf (t * 3 + ff i)).toInt64)) + (k_mon (fu (3 * i + 0)) ((bf (t * 3 + 0)).toInt64))) + (k_mon (fu (3 * i + 1)) ((bf (t * 3 + 1)).toInt64))) + (k_mon (fu (3 * i + 2)) ((bf (t * 3 + 2)).toInt64)))), (10, .long (fu (3 * i + 2))), (5, .long (fi i)), (3, .ref q_3), (0, .ref x), (1, .ref cc), (4, .int (nI i))]) hx hb dL_areContracts_250 rfl hl (by decide) rfl (fun ls hl => ?_)
          refine lv_iinc (v := nI (i + 1)) (lv' := [(4, .int (nI (i + 1))), (2, .int (nI 1)), (9, .int (nI 3)), (7, .long ((((k_mon (fi i) ((bf (t * 3 + ff i)).toInt64)) + (k_mon (fu (3 * i + 0)) ((bf (t * 3 + 0)).toInt64))) + (k_mon (fu (3 * i + 1)) ((bf (t * 3 + 1)).toInt64))) + (k_mon (fu (3 * i + 2)) ((bf (t * 3 + 2)).toInt64)))), (10, .long (fu (3 * i + 2))), (5, .long (fi i)), (3, .ref q_3), (0, .ref x), (1, .ref cc)]) hx hb dL_areContracts_251 hl (k := 8) rfl (nI_1 i) (by decide) rfl (fun ls hl => ?_)
          refine lv_goto (tgt := 33) hx hb dL_areContracts_254 (by decide) ?_
          exact ih (i + 1) (vp_updL (vp_updL (vp_updL (vp_updL al (ff i) ((al (ff i)) + (fi i))) 0 (((vp_updL al (ff i) ((al (ff i)) + (fi i))) 0) + (fu (3 * i + 0)))) 1 (((vp_updL al (ff i) ((al (ff i)) + (fi i))) 1) + (fu (3 * i + 1)))) 2 (((vp_updL al (ff i) ((al (ff i)) + (fi i))) 2) + (fu (3 * i + 2)))) H locs ls (by omega) (all_s (a := fun z => fu (3 * i + z)) hal9) hP hD hS (lv_sub hl [6, 1, 7, 8, 0] rfl)
  exact loop_33 (n) 0 (fun _ => 0) _ _ ls (by omega) (fun _ _ => rfl) hP hD hS (lv_sub hl [1, 2, 3, 4, 0] rfl)
