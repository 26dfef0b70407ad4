/-! THE LAW'S step -/
theorem pay_k {cf : Nat → Nat} {kc k : Nat} : ∀ j : Nat, j < 6 → va_up (va_up cf 2 (k + 1)) (24 + kc) (cf (24 + kc) + 1) (24 + j) = cf (24 + j) + (if kc = j ∧ ((-1 : Int32) = (-1)) then 1 else 0) := by
  intro j hj
  by_cases e : kc = j
  · subst e; rw [up_same, if_pos ⟨rfl, rfl⟩]
  · rw [up_ne (by omega), up_ne (by omega), if_neg (fun q => e q.1), Nat.add_zero]
theorem chg_k {cf : Nat → Nat} {kc k : Nat} {v : Int32} (hv : ¬ v = (-1)) : ∀ j : Nat, j < 6 → va_up cf 2 (k + 1) (24 + j) = cf (24 + j) + (if kc = j ∧ v = (-1) then 1 else 0) := by
  intro j hj
  rw [up_ne (by omega), if_neg (fun q => hv q.2), Nat.add_zero]
set_option maxHeartbeats 4000000 in
set_option maxRecDepth 100000 in
/-- the law's step -/
theorem m_L_step (l : Launch) (D : va_G) (x pr mk os : Nat) (ch gd : Int64) (bd t : Nat) (cI : ClassId) (bf : Nat → Int32) (mm : Int32) (em1 n : Nat) (om : Int32) (em2 k : Nat) (L : List Nat) (f : Nat → va_E) (cJ : ClassId) (cO : ClassId) (ca aa : Nat → Nat) (fp fs fr : Nat → Int32) (ff fa : Nat → Nat) (fz : Nat → Int32) (fi fu : Nat → Int64) (em : Nat) (oa fo : Nat → Nat) (fq : Nat → Int32) (fx fy : Nat → Nat) (fb : Nat → Int32) (cc : Nat) (cf : Nat → Nat) (B : Nat) (wh ua ub : Nat) (hNN : NN B t n k ch fp fs fr ff fa fz fi fu fo fq fx fy fb cf) (hbi : BI bf fb t) (hCI : CI L f cJ n ca aa fp fs fr ff fa fz fi fu) (hOI : OI L f k n oa ca fo fq fx fy) (hU1 : UL cO em L f em1 n ca) (hU2 : UL cO em L f em2 k oa) (hneL : em1 ∈ L → em2 ∈ L → em1 ≠ em2) (hwh : wh < 2147483648) (hua : ua < 2147483648) (hub : ub < 2147483648) (hB1 : B + 1 ≤ 90) (sz : Nat)  : Met l yL_step wsL_step ({ frames := 9, cells := 3, slots := 811, locals := 237 }) (zq D (([(x, .inr (5, [.ref pr, .ref mk, .ref os, .long ch, .long gd])), (pr, .inr (3, [.ref bd, .int (nI t)])), (bd, .inl (cI, 6003, .inl bf)), (mk, .inr (0, [.int mm, .ref em1, .int (nI n)])), (os, .inr (0, [.int om, .ref em2, .int (nI k)])), (cc, .inl (cI, 30, .inl (nIf cf)))] : va_W) ++ va_pl L f) [(cI, .int), (cJ, .long), (cO, .object "java/lang/Object")] sz [.ref x, .ref cc, .int (nI wh), .int (nI ua), .int (nI ub)] (fun U H => HS (va_A (([(x, .inr (5, [.ref pr, .ref mk, .ref os, .long ch, .long gd])), (pr, .inr (3, [.ref bd, .int (nI t)])), (bd, .inl (cI, 6003, .inl bf)), (mk, .inr (0, [.int mm, .ref em1, .int (nI n)])), (os, .inr (0, [.int om, .ref em2, .int (nI k)])), (cc, .inl (cI, 30, .inl (nIf cf)))] : va_W) ++ va_pl L f) sz) em U H)) (va_Qi (fun (r : Int32) (_ : Unit) => r = nI 1) (fun _ t9 => ∃ (chZ : Int64) (gdZ : Int64) (tZ : Nat) (bfZ : Nat → Int32) (mmZ : Int32) (em1Z : Nat) (nZ : Nat) (omZ : Int32) (em2Z : Nat) (kZ : Nat) (fbZ : Nat → Int32) (fpZ : Nat → Int32) (fsZ : Nat → Int32) (frZ : Nat → Int32) (ffZ : Nat → Nat) (faZ : Nat → Nat) (fzZ : Nat → Int32) (fiZ : Nat → Int64) (fuZ : Nat → Int64) (foZ : Nat → Nat) (fqZ : Nat → Int32) (fxZ : Nat → Nat) (fyZ : Nat → Nat) (cfZ : Nat → Nat) (LZ : List Nat) (fZ : Nat → va_E) (caZ : Nat → Nat) (aaZ : Nat → Nat) (oaZ : Nat → Nat), NN (B + 1) tZ nZ kZ chZ fpZ fsZ frZ ffZ faZ fzZ fiZ fuZ foZ fqZ fxZ fyZ fbZ cfZ ∧ BI bfZ fbZ tZ ∧ CI LZ fZ cJ nZ caZ aaZ fpZ fsZ frZ ffZ faZ fzZ fiZ fuZ ∧ OI LZ fZ kZ nZ oaZ caZ foZ fqZ fxZ fyZ ∧ UL cO em LZ fZ em1Z nZ caZ ∧ UL cO em LZ fZ em2Z kZ oaZ ∧ (em1Z ∈ LZ → em2Z ∈ LZ → em1Z ≠ em2Z) ∧ va_P D vwCl (([(x, .inr (5, [.ref pr, .ref mk, .ref os, .long chZ, .long gdZ])), (pr, .inr (3, [.ref bd, .int (nI tZ)])), (bd, .inl (cI, 6003, .inl bfZ)), (mk, .inr (0, [.int mmZ, .ref em1Z, .int (nI nZ)])), (os, .inr (0, [.int omZ, .ref em2Z, .int (nI kZ)])), (cc, .inl (cI, 30, .inl (nIf cfZ)))] : va_W) ++ va_pl LZ fZ) t9.heap ∧ va_K D vwCl [(cI, .int), (cJ, .long), (cO, .object "java/lang/Object")] t9 ∧ va_D (va_A (([(x, .inr (5, [.ref pr, .ref mk, .ref os, .long ch, .long gd])), (pr, .inr (3, [.ref bd, .int (nI t)])), (bd, .inl (cI, 6003, .inl bf)), (mk, .inr (0, [.int mm, .ref em1, .int (nI n)])), (os, .inr (0, [.int om, .ref em2, .int (nI k)])), (cc, .inl (cI, 30, .inl (nIf cf)))] : va_W) ++ va_pl L f) sz) (([(x, .inr (5, [.ref pr, .ref mk, .ref os, .long chZ, .long gdZ])), (pr, .inr (3, [.ref bd, .int (nI tZ)])), (bd, .inl (cI, 6003, .inl bfZ)), (mk, .inr (0, [.int mmZ, .ref em1Z, .int (nI nZ)])), (os, .inr (0, [.int omZ, .ref em2Z, .int (nI kZ)])), (cc, .inl (cI, 30, .inl (nIf cfZ)))] : va_W) ++ va_pl LZ fZ)) (va_A (([(x, .inr (5, [.ref pr, .ref mk, .ref os, .long ch, .long gd])), (pr, .inr (3, [.ref bd, .int (nI t)])), (bd, .inl (cI, 6003, .inl bf)), (mk, .inr (0, [.int mm, .ref em1, .int (nI n)])), (os, .inr (0, [.int om, .ref em2, .int (nI k)])), (cc, .inl (cI, 30, .inl (nIf cf)))] : va_W) ++ va_pl L f) sz)) 3 811 (va_A (([(x, .inr (5, [.ref pr, .ref mk, .ref os, .long ch, .long gd])), (pr, .inr (3, [.ref bd, .int (nI t)])), (bd, .inl (cI, 6003, .inl bf)), (mk, .inr (0, [.int mm, .ref em1, .int (nI n)])), (os, .inr (0, [.int om, .ref em2, .int (nI k)])), (cc, .inl (cI, 30, .inl (nIf cf)))] : va_W) ++ va_pl L f) sz) := by
  refine zmq (cc := cL_step) (maxL := 7) (ret := (some .boolean)) (by decide) rfl (Nat.le_of_ble_eq_true rfl) ?_
  intro p e s m below meth c ls A hAe hsz hin hx hb hml hr hlocks hown hts hP hK hG hD hA hS hX hl
  subst hsz
  rw [← hAe] at hX
  have hHS := hX
  have hl : lv_has ls 7 [(0, .ref x), (1, .ref cc), (2, .int (nI wh)), (3, .int (nI ua)), (4, .int (nI ub))] := hl
  have k_0 := hts (.constant RL 17 (100000)) (List.mem_of_getElem? (i := 2) rfl)
  have k_1 := hts (.constant RL 16 (99901)) (List.mem_of_getElem? (i := 1) rfl)
  obtain ⟨nB, nT, nN, nK, nOk, nFF, nFZ, nFA, nZR, nOO, nFS, nFR, nNC, nCH, c0, c1, c2, c3, c4, c5⟩ := id hNN
  refine lv_aload_n hx hb dL_step_0 rfl (lv_at hl 1 rfl) ?_
  refine lv_iconst (v := nI 1) hx hb dL_step_1 (by decide) ?_
  refine zx_iald (D := D) hx hb hK hP 5 0 rfl rfl (v := nI n) ((congrArg nI c1)) (by decide) (by first | decide | omega) dL_step_2 ?_
  rcases Nat.eq_zero_or_pos n with hn0 | hn0
  · skip
    refine lv_if_ne (tgt := 10) hx hb dL_step_3 (by decide) (fun h9 => absurd ((nI_eq (a := n) (b := 0) (by omega) (by omega)).mpr (by omega)) h9) (fun _ => ?_)
    refine lv_iconst (v := nI 0) hx hb dL_step_6 (by decide) ?_
    refine lv_goto (tgt := 15) hx hb dL_step_7 (by decide) ?_
    refine lv_istore (lv' := [(5, .int (nI 0)), (0, .ref x), (1, .ref cc), (2, .int (nI wh)), (3, .int (nI ua)), (4, .int (nI ub))]) hx hb dL_step_15 hl (by decide) rfl (fun ls hl => ?_)
    refine lv_iload_n hx hb dL_step_17 rfl (lv_at hl 3 rfl) ?_
    refine lv_bipush (v := nI 13) hx hb dL_step_18 (by decide) ?_
    refine lv_irem hx hb dL_step_20 (by decide) ?_
    refine lv_topi (fun z_20 ez_20 => ?_)
    have ez_20 : z_20 = nI (wh % 13) := ez_20.trans (pk_rem (by omega) (by omega) (by omega))
    subst ez_20
    rcases (show wh % 13 = 0 ∨ (1 ≤ wh % 13 ∧ wh % 13 ≤ 3) ∨ wh % 13 = 4 ∨ (5 ≤ wh % 13 ∧ wh % 13 ≤ 6) ∨ (7 ≤ wh % 13 ∧ wh % 13 ≤ 9) ∨ 10 ≤ wh % 13 by omega) with h13 | h13 | h13 | h13 | h13 | h13
    · skip
      refine zx_tab (j := wh % 13) (tgt := 76) hx hb dL_step_21 (by omega) (by omega) (by rw [h13]; rfl) (by decide) ?_
      refine lv_aload_n hx hb dL_step_76 rfl (lv_at hl 2 rfl) ?_
      refine lv_iconst (v := nI 1) hx hb dL_step_77 (by decide) ?_
      refine zx_iald (D := D) hx hb hK hP 5 0 rfl rfl (v := nI n) ((congrArg nI c1)) (by decide) (by first | decide | omega) dL_step_78 ?_
      refine lv_bipush (v := nI 6) hx hb dL_step_79 (by decide) ?_
      refine lv_icmp_ne (tgt := 99) hx hb dL_step_81 (by decide) (fun c_81 => ?_) (fun c_81 => ?_)
      · skip
        have n_81 : ¬ n = 6 := fun h8 => c_81 ((nI_eq (a := n) (b := 6) (by omega) (by omega)).mpr h8)
        refine lv_aload_n hx hb dL_step_99 rfl (lv_at hl 2 rfl) ?_
        refine lv_bipush (v := nI 6) hx hb dL_step_100 (by decide) ?_
        refine lv_aload_n hx hb dL_step_102 rfl (lv_at hl 2 rfl) ?_
        refine lv_iconst (v := nI 1) hx hb dL_step_103 (by decide) ?_
        refine zx_iald (D := D) hx hb hK hP 5 0 rfl rfl (v := nI n) ((congrArg nI c1)) (by decide) (by first | decide | omega) dL_step_104 ?_
        refine zx_iadd (v := nI (6 + n)) hx hb dL_step_105 (nI_add _ _) ?_
        refine lv_bipush (v := nI 100) hx hb dL_step_106 (by decide) ?_
        refine lv_iload_n hx hb dL_step_108 rfl (lv_at hl 4 rfl) ?_
        refine lv_iload hx hb dL_step_109 (lv_at hl 5 rfl) ?_
        refine lv_iconst (v := nI 3) hx hb dL_step_111 (by decide) ?_
        refine lv_irem hx hb dL_step_112 (by decide) ?_
        refine lv_topi (fun z_112 ez_112 => ?_)
        have ez_112 : z_112 = nI (ub % 3) := ez_112.trans (pk_rem (by omega) (by omega) (by omega))
        subst ez_112
        refine zj (T := Int32) (fr := fun z => F0 m 124 ls (.int z :: [.int (nI ua), .int (nI 100), .int (nI (6 + n)), .ref cc])) (if (nI (ub % 3)) = 0 then nI 99901 else nI 5000) (fun z_1 e_z_1 => ?_) (fun j_z_1 => ?_)
        · skip
          obtain ⟨zd, hzd1, hzd2, j9⟩ : ∃ q : Nat, 5000 ≤ q ∧ q ≤ 99901 ∧ z_1 = nI q := by rw [e_z_1]; split; exact ⟨99901, by decide, by decide, rfl⟩; exact ⟨5000, by decide, by decide, rfl⟩
          subst j9
          refine lv_irem hx hb dL_step_124 (nI_ne0 (by omega) (by omega)) ?_
          refine lv_topi (fun z_124 ez_124 => ?_)
          have ez_124 : z_124 = nI (ua % zd) := ez_124.trans (pk_rem (by omega) (by omega) (by omega))
          subst ez_124
          refine zx_iadd (v := nI (100 + (ua % zd))) hx hb dL_step_125 (nI_add _ _) ?_
          obtain ⟨pv, hpv1, hpv2, e9⟩ : ∃ q : Nat, 100 ≤ q ∧ q ≤ 100000 ∧ 100 + ua % zd = q := ⟨_, by omega, by have := Nat.mod_lt ua (show 0 < zd by omega); omega, rfl⟩
          rw [e9]
          refine zx_nast (D := D) hx hb hK hP hD hS 5 0 rfl rfl (by omega) (by decide) dL_step_126 (fun H locs hP hD hS => ?_)
          have hP : va_P D vwCl (([(x, .inr (5, [.ref pr, .ref mk, .ref os, .long ch, .long gd])), (pr, .inr (3, [.ref bd, .int (nI t)])), (bd, .inl (cI, 6003, .inl bf)), (mk, .inr (0, [.int mm, .ref em1, .int (nI n)])), (os, .inr (0, [.int om, .ref em2, .int (nI k)])), (cc, .inl (cI, 30, .inl (nIf (va_up cf (6 + n) pv))))] : va_W) ++ va_pl L f) H := hP
          have hD : va_D A (([(x, .inr (5, [.ref pr, .ref mk, .ref os, .long ch, .long gd])), (pr, .inr (3, [.ref bd, .int (nI t)])), (bd, .inl (cI, 6003, .inl bf)), (mk, .inr (0, [.int mm, .ref em1, .int (nI n)])), (os, .inr (0, [.int om, .ref em2, .int (nI k)])), (cc, .inl (cI, 30, .inl (nIf (va_up cf (6 + n) pv))))] : va_W) ++ va_pl L f) := hD
          refine lv_aload_n hx hb dL_step_127 rfl (lv_at hl 2 rfl) ?_
          refine lv_bipush (v := nI 12) hx hb dL_step_128 (by decide) ?_
          refine lv_aload_n hx hb dL_step_130 rfl (lv_at hl 2 rfl) ?_
          refine lv_iconst (v := nI 1) hx hb dL_step_131 (by decide) ?_
          refine zx_iald (D := D) hx hb hK hP 5 0 rfl rfl (v := nI n) ((congrArg nI ((up_ne (by omega)).trans c1))) (by decide) (by first | decide | omega) dL_step_132 ?_
          refine zx_iadd (v := nI (12 + n)) hx hb dL_step_133 (nI_add _ _) ?_
          refine lv_iload hx hb dL_step_134 (lv_at hl 5 rfl) ?_
          refine lv_iconst (v := nI 3) hx hb dL_step_136 (by decide) ?_
          refine lv_irem hx hb dL_step_137 (by decide) ?_
          refine lv_topi (fun z_137 ez_137 => ?_)
          have ez_137 : z_137 = nI (ub % 3) := ez_137.trans (pk_rem (by omega) (by omega) (by omega))
          subst ez_137
          refine zx_nast (D := D) hx hb hK hP hD hS 5 0 rfl rfl (by omega) (by decide) dL_step_138 (fun H locs hP hD hS => ?_)
          have hP : va_P D vwCl (([(x, .inr (5, [.ref pr, .ref mk, .ref os, .long ch, .long gd])), (pr, .inr (3, [.ref bd, .int (nI t)])), (bd, .inl (cI, 6003, .inl bf)), (mk, .inr (0, [.int mm, .ref em1, .int (nI n)])), (os, .inr (0, [.int om, .ref em2, .int (nI k)])), (cc, .inl (cI, 30, .inl (nIf (va_up (va_up cf (6 + n) pv) (12 + n) (ub % 3)))))] : va_W) ++ va_pl L f) H := hP
          have hD : va_D A (([(x, .inr (5, [.ref pr, .ref mk, .ref os, .long ch, .long gd])), (pr, .inr (3, [.ref bd, .int (nI t)])), (bd, .inl (cI, 6003, .inl bf)), (mk, .inr (0, [.int mm, .ref em1, .int (nI n)])), (os, .inr (0, [.int om, .ref em2, .int (nI k)])), (cc, .inl (cI, 30, .inl (nIf (va_up (va_up cf (6 + n) pv) (12 + n) (ub % 3)))))] : va_W) ++ va_pl L f) := hD
          refine lv_aload_n hx hb dL_step_139 rfl (lv_at hl 2 rfl) ?_
          refine lv_iconst (v := nI 1) hx hb dL_step_140 (by decide) ?_
          refine lv_dup2_11 hx hb dL_step_141 rfl rfl ?_
          refine zx_iald (D := D) hx hb hK hP 5 0 rfl rfl (v := nI n) ((congrArg nI ((up_ne (by omega)).trans ((up_ne (by omega)).trans c1)))) (by decide) (by first | decide | omega) dL_step_142 ?_
          refine lv_iconst (v := nI 1) hx hb dL_step_143 (by decide) ?_
          refine zx_iadd (v := nI (n + 1)) hx hb dL_step_144 (nI_add _ _) ?_
          refine zx_nast (D := D) hx hb hK hP hD hS 5 0 rfl rfl (by decide) (by decide) dL_step_145 (fun H locs hP hD hS => ?_)
          have hP : va_P D vwCl (([(x, .inr (5, [.ref pr, .ref mk, .ref os, .long ch, .long gd])), (pr, .inr (3, [.ref bd, .int (nI t)])), (bd, .inl (cI, 6003, .inl bf)), (mk, .inr (0, [.int mm, .ref em1, .int (nI n)])), (os, .inr (0, [.int om, .ref em2, .int (nI k)])), (cc, .inl (cI, 30, .inl (nIf (va_up (va_up (va_up cf (6 + n) pv) (12 + n) (ub % 3)) 1 (n + 1)))))] : va_W) ++ va_pl L f) H := hP
          have hD : va_D A (([(x, .inr (5, [.ref pr, .ref mk, .ref os, .long ch, .long gd])), (pr, .inr (3, [.ref bd, .int (nI t)])), (bd, .inl (cI, 6003, .inl bf)), (mk, .inr (0, [.int mm, .ref em1, .int (nI n)])), (os, .inr (0, [.int om, .ref em2, .int (nI k)])), (cc, .inl (cI, 30, .inl (nIf (va_up (va_up (va_up cf (6 + n) pv) (12 + n) (ub % 3)) 1 (n + 1)))))] : va_W) ++ va_pl L f) := hD
          obtain ⟨cg, hcg⟩ : ∃ q : Nat → Nat, q = (va_up (va_up (va_up cf (6 + n) pv) (12 + n) (ub % 3)) 1 (n + 1)) := ⟨_, rfl⟩
          rw [← hcg] at hP hD
          have g1 : cg 1 = n + 1 := (by rw [hcg]; (repeat (first | rw [up_same] | rw [up_ne (by omega)])))
          have g6 : cg (6 + n) = pv := (by rw [hcg]; (repeat (first | rw [up_same] | rw [up_ne (by omega)])))
          have g12 : cg (12 + n) = ub % 3 := (by rw [hcg]; (repeat (first | rw [up_same] | rw [up_ne (by omega)])))
          have hP : va_P D vwCl (([(x, .inr (5, [.ref pr, .ref mk, .ref os, .long ch, .long gd])), (pr, .inr (3, [.ref bd, .int (nI t)])), (bd, .inl (cI, 6003, .inl bf)), (mk, .inr (0, [.int mm, .ref em1, .int (nI n)])), (os, .inr (0, [.int om, .ref em2, .int (nI k)])), (cc, .inl (cI, 30, .inl (nIf cg)))] : va_W) ++ va_pl L f) H := hP
          have hD : va_D A (([(x, .inr (5, [.ref pr, .ref mk, .ref os, .long ch, .long gd])), (pr, .inr (3, [.ref bd, .int (nI t)])), (bd, .inl (cI, 6003, .inl bf)), (mk, .inr (0, [.int mm, .ref em1, .int (nI n)])), (os, .inr (0, [.int om, .ref em2, .int (nI k)])), (cc, .inl (cI, 30, .inl (nIf cg)))] : va_W) ++ va_pl L f) := hD
          have gr : ∀ z : Nat, z ≠ 1 → z ≠ 6 + n → z ≠ 12 + n → cg z = cf z := fun z hz1 hz2 hz3 => (by rw [hcg]; (repeat (first | rw [up_same] | rw [up_ne (by omega)])))
          have hM := NN_make (sv := ua / 7 % 100000) (rv := ub / 3 % 200) hNN (by omega) hpv1 hpv2 (by omega) (by omega) (show ub % 3 < 3 by omega) g1 g6 g12 gr
          have hfzM := hM.2.2.2.2.2.2.1
          have hffM := hM.2.2.2.2.2.1
          refine lv_aload_n hx hb dL_step_146 rfl (lv_at hl 1 rfl) ?_
          refine lv_aload_n hx hb dL_step_147 rfl (lv_at hl 2 rfl) ?_
          refine lv_iconst (v := nI 5) hx hb dL_step_148 (by decide) ?_
          refine lv_aload_n hx hb dL_step_149 rfl (lv_at hl 2 rfl) ?_
          refine lv_iconst (v := nI 1) hx hb dL_step_150 (by decide) ?_
          refine zx_iald (D := D) hx hb hK hP 5 0 rfl rfl (v := nI (n + 1)) ((congrArg nI g1)) (by decide) (by first | decide | omega) dL_step_151 ?_
          refine zx_iadd (v := nI (5 + (n + 1))) hx hb dL_step_152 (nI_add _ _) ?_
          refine zx_iald (D := D) hx hb hK hP 5 0 rfl rfl (v := nI pv) ((congrArg nI (by rw [show 5 + (n + 1) = 6 + n by omega]; exact g6))) (by omega) (by first | decide | omega) dL_step_153 ?_
          refine lv_iload_n hx hb dL_step_154 rfl (lv_at hl 4 rfl) ?_
          refine lv_bipush (v := nI 7) hx hb dL_step_155 (by decide) ?_
          refine zx_idiv (v := nI (ua / 7)) hx hb dL_step_157 (by decide) (pk_div (by omega) (by omega) (by omega)) ?_
          refine lv_ldc (v := nI 100000) hx hb hown k_0 dL_step_158 ?_
          refine lv_irem hx hb dL_step_160 (by decide) ?_
          refine lv_topi (fun z_160 ez_160 => ?_)
          have ez_160 : z_160 = nI ((ua / 7) % 100000) := ez_160.trans (pk_rem (by omega) (by omega) (by omega))
          subst ez_160
          refine lv_iload hx hb dL_step_161 (lv_at hl 5 rfl) ?_
          refine lv_iconst (v := nI 3) hx hb dL_step_163 (by decide) ?_
          refine zx_idiv (v := nI (ub / 3)) hx hb dL_step_164 (by decide) (pk_div (by omega) (by omega) (by omega)) ?_
          refine lv_sipush (v := nI 200) hx hb dL_step_165 (by decide) ?_
          refine lv_irem hx hb dL_step_168 (by decide) ?_
          refine lv_topi (fun z_168 ez_168 => ?_)
          have ez_168 : z_168 = nI ((ub / 3) % 200) := ez_168.trans (pk_rem (by omega) (by omega) (by omega))
          subst ez_168
          refine lv_iload hx hb dL_step_169 (lv_at hl 5 rfl) ?_
          refine lv_iconst (v := nI 3) hx hb dL_step_171 (by decide) ?_
          refine lv_irem hx hb dL_step_172 (by decide) ?_
          refine lv_topi (fun z_172 ez_172 => ?_)
          have ez_172 : z_172 = nI (ub % 3) := ez_172.trans (pk_rem (by omega) (by omega) (by omega))
          subst ez_172
          have hP : va_P D vwCl ((([(x, .inr (5, [.ref pr, .ref mk, .ref os, .long ch, .long gd])), (pr, .inr (3, [.ref bd, .int (nI t)])), (bd, .inl (cI, 6003, .inl bf)), (mk, .inr (0, [.int mm, .ref em1, .int (nI n)])), (os, .inr (0, [.int om, .ref em2, .int (nI k)]))] : va_W) ++ ([(cc, .inl (cI, 30, .inl (nIf cg)))] : va_W)) ++ va_pl L f) _ := hP
          have hD : va_D A ((([(x, .inr (5, [.ref pr, .ref mk, .ref os, .long ch, .long gd])), (pr, .inr (3, [.ref bd, .int (nI t)])), (bd, .inl (cI, 6003, .inl bf)), (mk, .inr (0, [.int mm, .ref em1, .int (nI n)])), (os, .inr (0, [.int om, .ref em2, .int (nI k)]))] : va_W) ++ ([(cc, .inl (cI, 30, .inl (nIf cg)))] : va_W)) ++ va_pl L f) := hD
          have hP := hP.swap
          have hD := hD.swap
          have hPc : va_P D vwCl (([(x, .inr (5, [.ref pr, .ref mk, .ref os, .long ch, .long gd])), (pr, .inr (3, [.ref bd, .int (nI t)])), (bd, .inl (cI, 6003, .inl bf)), (mk, .inr (0, [.int mm, .ref em1, .int (nI n)])), (os, .inr (0, [.int om, .ref em2, .int (nI k)]))] : va_W) ++ va_pl L f) _ := lp_Pl hP
          have hDc : va_D A (([(x, .inr (5, [.ref pr, .ref mk, .ref os, .long ch, .long gd])), (pr, .inr (3, [.ref bd, .int (nI t)])), (bd, .inl (cI, 6003, .inl bf)), (mk, .inr (0, [.int mm, .ref em1, .int (nI n)])), (os, .inr (0, [.int om, .ref em2, .int (nI k)]))] : va_W) ++ va_pl L f) := lp_Dl hD
          have hF_8 := lp_F2 hD hS hA
          refine va_calli (va_runV (As := [.int (nI pv), .int (nI ((ua / 7) % 100000)), .int (nI ((ub / 3) % 200)), .int (nI (ub % 3))]) (rest := []) ⟨hx, hb, hml, hown, hts⟩ (p_make l D x pr mk os ch gd bd t cI bf mm em1 n om em2 k L f cJ cO ca aa fp fs fr ff fa fz fi fu em oa fo fq fx fy fb (nI pv) (nI ((ua / 7) % 100000)) (nI ((ub / 3) % 200)) (ub % 3) (k_isIn1 (by omega) (by omega) (by omega)) (k_isIn1 (by omega) (by omega) (by omega)) (k_isIn1 (by omega) (by omega) (by omega)) (by first | omega | assumption) (by first | omega | assumption) nZR (by first | omega | assumption) (by first | omega | assumption) (by first | omega | assumption) (by first | omega | assumption) (by first | omega | assumption) _) (cwV 4 hts gL_step_X5_make rfl rfl rfl (by decide +kernel) ⟨Nat.le_of_ble_eq_true rfl, Nat.le_of_ble_eq_true rfl⟩) (zq_V XM.hs (va_recv hK hPc (ci := 5) (q0 := 0) rfl rfl) hPc (hK.sub (tys' := [(cI, .int), (cJ, .long), (cO, .object "java/lang/Object")]) [0, 1, 2] rfl) hDc hG (hHS.go hS (lp_F2 hD hS hA))) rfl rfl hl.1 rfl (lv_room (Nat.le_of_ble_eq_true rfl)) dL_step_173 ⟨Nat.le_of_ble_eq_true rfl, Nat.le_of_ble_eq_true rfl⟩) hS (fun q _ h => hF_8 q h) hF_8 (fun ra_7 u9 t1 H locs ht1 hvm hw hB hz1 hk1 hS => ?_)
          obtain ⟨L2__2, g__3, e9__4, ca2__5, aa2__6, hp_9, hp_10, hp_11, hp_12, hp_13, hP1, hK1, hD1⟩ := hB
          rw [ht1] at hP1
          obtain ⟨hP, hD⟩ := lp_front (w1 := (([(x, .inr (5, [.ref pr, .ref mk, .ref os, .long ch, .long gd])), (pr, .inr (3, [.ref bd, .int (nI t)])), (bd, .inl (cI, 6003, .inl bf)), (mk, .inr (0, [.int (mm + nI 1), .ref e9__4, .int (nI (n + 1))])), (os, .inr (0, [.int om, .ref em2, .int (nI k)]))] : va_W) ++ va_pl L2__2 g__3)) (R9 := [(cc, .inl (cI, 30, .inl (nIf cg)))]) hP hD hF_8 hk1 hP1 hD1
          have hP := hP.swap
          have hD := hD.swap
          have hP : va_P D vwCl (([(x, .inr (5, [.ref pr, .ref mk, .ref os, .long ch, .long gd])), (pr, .inr (3, [.ref bd, .int (nI t)])), (bd, .inl (cI, 6003, .inl bf)), (mk, .inr (0, [.int (mm + nI 1), .ref e9__4, .int (nI (n + 1))])), (os, .inr (0, [.int om, .ref em2, .int (nI k)])), (cc, .inl (cI, 30, .inl (nIf cg)))] : va_W) ++ va_pl L2__2 g__3) H := hP
          have hD : va_D A (([(x, .inr (5, [.ref pr, .ref mk, .ref os, .long ch, .long gd])), (pr, .inr (3, [.ref bd, .int (nI t)])), (bd, .inl (cI, 6003, .inl bf)), (mk, .inr (0, [.int (mm + nI 1), .ref e9__4, .int (nI (n + 1))])), (os, .inr (0, [.int om, .ref em2, .int (nI k)])), (cc, .inl (cI, 30, .inl (nIf cg)))] : va_W) ++ va_pl L2__2 g__3) := hD
          refine W.widen (k := 3) (n := 811) (by decide) (by decide) ?_
          subst hw
          refine lv_aload_n hx hb dL_step_176 rfl (lv_at hl 2 rfl) ?_
          refine lv_iconst (v := nI 1) hx hb dL_step_177 (by decide) ?_
          refine zx_iald (D := D) hx hb hK hP 5 0 rfl rfl (v := nI (n + 1)) ((congrArg nI g1)) (by decide) (by first | decide | omega) dL_step_178 ?_
          refine lv_iconst (v := nI 1) hx hb dL_step_179 (by decide) ?_
          refine zx_isub (v := nI n) hx hb dL_step_180 ((pk_sub (by omega))) ?_
          refine lv_icmp_ne (tgt := 214) hx hb dL_step_181 (by decide) (fun h9 => absurd ((nI_eq (a := n) (b := n) (by omega) (by omega)).mpr (by omega)) h9) (fun _ => ?_)
          refine lv_aload_n hx hb dL_step_184 rfl (lv_at hl 1 rfl) ?_
          refine lv_aload_n hx hb dL_step_185 rfl (lv_at hl 2 rfl) ?_
          refine lv_iconst (v := nI 1) hx hb dL_step_186 (by decide) ?_
          refine zx_iald (D := D) hx hb hK hP 5 0 rfl rfl (v := nI (n + 1)) ((congrArg nI g1)) (by decide) (by first | decide | omega) dL_step_187 ?_
          refine lv_iconst (v := nI 1) hx hb dL_step_188 (by decide) ?_
          refine zx_isub (v := nI n) hx hb dL_step_189 ((pk_sub (by omega))) ?_
          have hPs : va_P D vwCl (([(x, .inr (5, [.ref pr, .ref mk, .ref os, .long ch, .long gd])), (pr, .inr (3, [.ref bd, .int (nI t)])), (bd, .inl (cI, 6003, .inl bf)), (mk, .inr (0, [.int (mm + nI 1), .ref e9__4, .int (nI (n + 1))])), (os, .inr (0, [.int om, .ref em2, .int (nI k)]))] : va_W) ++ va_pl L2__2 g__3) _ := lp_Pl (va_P.swap (show va_P D vwCl ((([(x, .inr (5, [.ref pr, .ref mk, .ref os, .long ch, .long gd])), (pr, .inr (3, [.ref bd, .int (nI t)])), (bd, .inl (cI, 6003, .inl bf)), (mk, .inr (0, [.int (mm + nI 1), .ref e9__4, .int (nI (n + 1))])), (os, .inr (0, [.int om, .ref em2, .int (nI k)]))] : va_W) ++ ([(cc, .inl (cI, 30, .inl (nIf cg)))] : va_W)) ++ va_pl L2__2 g__3) _ from hP))
          refine vp_callSi (W.runV (As := [.int (nI n)]) (rest := []) ⟨hx, hb, hml, hown, hts⟩ (p_isInForce l D x pr mk os ch gd bd t cI bf (mm + nI 1) e9__4 (n + 1) om em2 k L2__2 g__3 cJ cO ca2__5 aa2__6 (upd fp n (nI pv)) (upd fs n (nI (ua / 7 % 100000))) (upd fr n (nI (ub / 3 % 200))) (va_up ff n (ub % 3)) fa (upd fz n (nI 1)) fi fu em n (by first | omega | assumption) (by first | omega | assumption) (by first | omega | assumption) hfzM) (cwV 1 hts gL_step_X5_isInForce rfl rfl rfl (by decide +kernel) ⟨Nat.le_of_ble_eq_true rfl, Nat.le_of_ble_eq_true rfl⟩) (z1_V (va_recv hK hPs (ci := 5) (q0 := 0) rfl rfl) hPs (hK.sub (tys' := [(cI, .int), (cJ, .long), (cO, .object "java/lang/Object")]) [0, 1, 2] rfl) hG) rfl rfl hl.1 rfl (lv_room (Nat.le_of_ble_eq_true rfl)) dL_step_190 ⟨Nat.le_of_ble_eq_true rfl, Nat.le_of_ble_eq_true rfl⟩) (fun r_14 e_r_14 => ?_)
          have e_r_14 : r_14 = nI 1 := e_r_14.trans (upd_same)
          replace e_r_14 := e_r_14.symm; subst e_r_14
          refine lv_if_eq (tgt := 214) hx hb dL_step_193 (by decide) (fun h9 => absurd h9 (by decide)) (fun _ => ?_)
          refine lv_aload_n hx hb dL_step_196 rfl (lv_at hl 1 rfl) ?_
          refine lv_aload_n hx hb dL_step_197 rfl (lv_at hl 2 rfl) ?_
          refine lv_iconst (v := nI 1) hx hb dL_step_198 (by decide) ?_
          refine zx_iald (D := D) hx hb hK hP 5 0 rfl rfl (v := nI (n + 1)) ((congrArg nI g1)) (by decide) (by first | decide | omega) dL_step_199 ?_
          refine lv_iconst (v := nI 1) hx hb dL_step_200 (by decide) ?_
          refine zx_isub (v := nI n) hx hb dL_step_201 ((pk_sub (by omega))) ?_
          have hPs : va_P D vwCl (([(x, .inr (5, [.ref pr, .ref mk, .ref os, .long ch, .long gd])), (pr, .inr (3, [.ref bd, .int (nI t)])), (bd, .inl (cI, 6003, .inl bf)), (mk, .inr (0, [.int (mm + nI 1), .ref e9__4, .int (nI (n + 1))])), (os, .inr (0, [.int om, .ref em2, .int (nI k)]))] : va_W) ++ va_pl L2__2 g__3) _ := lp_Pl (va_P.swap (show va_P D vwCl ((([(x, .inr (5, [.ref pr, .ref mk, .ref os, .long ch, .long gd])), (pr, .inr (3, [.ref bd, .int (nI t)])), (bd, .inl (cI, 6003, .inl bf)), (mk, .inr (0, [.int (mm + nI 1), .ref e9__4, .int (nI (n + 1))])), (os, .inr (0, [.int om, .ref em2, .int (nI k)]))] : va_W) ++ ([(cc, .inl (cI, 30, .inl (nIf cg)))] : va_W)) ++ va_pl L2__2 g__3) _ from hP))
          refine vp_callSl (W.runV (As := [.int (nI n)]) (rest := []) ⟨hx, hb, hml, hown, hts⟩ (p_worth l D x pr mk os ch gd bd t cI bf (mm + nI 1) e9__4 (n + 1) om em2 k L2__2 g__3 cJ cO ca2__5 aa2__6 (upd fp n (nI pv)) (upd fs n (nI (ua / 7 % 100000))) (upd fr n (nI (ub / 3 % 200))) (va_up ff n (ub % 3)) fa (upd fz n (nI 1)) fi fu em n (by first | omega | assumption) (by first | omega | assumption) (by first | omega | assumption) hffM nT) (cwV 1 hts gL_step_X5_worth rfl rfl rfl (by decide +kernel) ⟨Nat.le_of_ble_eq_true rfl, Nat.le_of_ble_eq_true rfl⟩) (z1_V (va_recv hK hPs (ci := 5) (q0 := 0) rfl rfl) hPs (hK.sub (tys' := [(cI, .int), (cJ, .long), (cO, .object "java/lang/Object")]) [0, 1, 2] rfl) hG) rfl rfl hl.1 rfl (lv_room (Nat.le_of_ble_eq_true rfl)) dL_step_202 ⟨Nat.le_of_ble_eq_true rfl, Nat.le_of_ble_eq_true rfl⟩) (fun r_15 e_r_15 => ?_)
          have e_r_15 : r_15 = 0 := e_r_15.trans ((by obtain ⟨z1, _, z3⟩ := nZR n (Nat.le_refl _); rw [z1, z3 0 (by decide), z3 1 (by decide), z3 2 (by decide)]; exact worth0))
          replace e_r_15 := e_r_15.symm; subst e_r_15
          refine lv_lconst (v := 0) hx hb dL_step_205 (by decide) ?_
          refine zx_lcmp_ne (tgt := 214) hx hb dL_step_206 dL_step_207 (by decide) (fun h9 => absurd rfl h9) (fun _ => ?_)
          refine lv_iconst (v := nI 1) hx hb dL_step_210 (by decide) ?_
          refine lv_goto (tgt := 215) hx hb dL_step_211 (by decide) ?_
          subst hAe
          exact zretBz hx hb hr hlocks (fun t9 ht hv => ⟨ch, gd, t, bf, (mm + nI 1), e9__4, (n + 1), om, em2, k, fb, (upd fp n (nI pv)), (upd fs n (nI (ua / 7 % 100000))), (upd fr n (nI (ub / 3 % 200))), (va_up ff n (ub % 3)), fa, (upd fz n (nI 1)), fi, fu, fo, fq, fx, fy, cg, L2__2, g__3, ca2__5, aa2__6, oa, (NN.up hM hB1), hbi, hp_9, hp_10, hp_11, hp_12, hp_13, by rw [ht]; exact hP, va_K.moved hv (hK.sub [0, 1, 2] rfl), hD⟩) hS dL_step_215 (Nat.le_of_ble_eq_true rfl) (Nat.le_of_ble_eq_true rfl) rfl (rfl)
        · refine lv_if_ne (tgt := 121) hx hb dL_step_113 (by decide) (fun c_113 => ?_) (fun c_113 => ?_)
          · skip
            refine lv_sipush (v := nI 5000) hx hb dL_step_121 (by decide) ?_
            exact j_z_1 _ (by rw [if_neg c_113])
          · skip
            refine lv_ldc (v := nI 99901) hx hb hown k_1 dL_step_116 ?_
            refine lv_goto (tgt := 124) hx hb dL_step_118 (by decide) ?_
            exact j_z_1 _ (by rw [if_pos c_113])
      · skip
        have n_81 : n = 6 := (nI_eq (a := n) (b := 6) (by omega) (by omega)).mp c_81
        refine lv_aload_n hx hb dL_step_84 rfl (lv_at hl 1 rfl) ?_
        refine vp_callSi (W.runV (As := []) (rest := []) ⟨hx, hb, hml, hown, hts⟩ (m_X5_contracts_ok l D x pr mk os ch gd mm em1 n) (cwV 0 hts gL_step_X5_contracts rfl rfl rfl (by decide +kernel) ⟨Nat.le_of_ble_eq_true rfl, Nat.le_of_ble_eq_true rfl⟩) (z1_V (va_recv hK hP (ci := 5) (q0 := 0) rfl rfl) (hP.sub (ws' := [(x, .inr (5, [.ref pr, .ref mk, .ref os, .long ch, .long gd])), (mk, .inr (0, [.int mm, .ref em1, .int (nI n)]))]) [0, 3] rfl) (hK.sub (tys' := []) [] rfl) hG) rfl rfl hl.1 rfl (lv_room (Nat.le_of_ble_eq_true rfl)) dL_step_85 ⟨Nat.le_of_ble_eq_true rfl, Nat.le_of_ble_eq_true rfl⟩) (fun r_16 e_r_16 => ?_)
        replace e_r_16 := e_r_16.symm; subst e_r_16
        refine lv_bipush (v := nI 6) hx hb dL_step_88 (by decide) ?_
        refine lv_icmp_ne (tgt := 97) hx hb dL_step_90 (by decide) (fun h9 => absurd ((nI_eq (a := n) (b := 6) (by omega) (by omega)).mpr (by omega)) h9) (fun _ => ?_)
        refine lv_iconst (v := nI 1) hx hb dL_step_93 (by decide) ?_
        refine lv_goto (tgt := 98) hx hb dL_step_94 (by decide) ?_
        subst hAe
        exact zretBz hx hb hr hlocks (fun t9 ht hv => ⟨ch, gd, t, bf, mm, em1, n, om, em2, k, fb, fp, fs, fr, ff, fa, fz, fi, fu, fo, fq, fx, fy, cf, L, f, ca, aa, oa, NN.up hNN hB1, hbi, hCI, hOI, hU1, hU2, hneL, by rw [ht]; exact hP, va_K.moved hv (hK.sub [0, 1, 2] rfl), hD⟩) hS dL_step_98 (Nat.le_of_ble_eq_true rfl) (Nat.le_of_ble_eq_true rfl) rfl (rfl)
    · skip
      refine zx_tab (j := wh % 13) (tgt := 216) hx hb dL_step_21 (by omega) (by omega) (by rcases (show wh % 13 = 1 ∨ wh % 13 = 2 ∨ wh % 13 = 3 by omega) with e13 | e13 | e13 <;> rw [e13] <;> rfl) (by decide) ?_
      refine lv_aload_n hx hb dL_step_216 rfl (lv_at hl 2 rfl) ?_
      refine lv_iconst (v := nI 1) hx hb dL_step_217 (by decide) ?_
      refine zx_iald (D := D) hx hb hK hP 5 0 rfl rfl (v := nI n) ((congrArg nI c1)) (by decide) (by first | decide | omega) dL_step_218 ?_
      refine lv_if_eq (tgt := 231) hx hb dL_step_219 (by decide) (fun _ => ?_) (fun h9 => absurd ((nI_eq (a := n) (b := 0) (by omega) (by omega)).mpr (by omega)) h9)
      refine lv_aload_n hx hb dL_step_231 rfl (lv_at hl 2 rfl) ?_
      refine lv_iconst (v := nI 1) hx hb dL_step_232 (by decide) ?_
      refine zx_iald (D := D) hx hb hK hP 5 0 rfl rfl (v := nI n) ((congrArg nI c1)) (by decide) (by first | decide | omega) dL_step_233 ?_
      refine lv_if_eq (tgt := 248) hx hb dL_step_234 (by decide) (fun _ => ?_) (fun h9 => absurd ((nI_eq (a := n) (b := 0) (by omega) (by omega)).mpr (by omega)) h9)
      refine lv_iconst (v := nI 1) hx hb dL_step_248 (by decide) ?_
      refine lv_goto (tgt := 253) hx hb dL_step_249 (by decide) ?_
      subst hAe
      exact zretBz hx hb hr hlocks (fun t9 ht hv => ⟨ch, gd, t, bf, mm, em1, n, om, em2, k, fb, fp, fs, fr, ff, fa, fz, fi, fu, fo, fq, fx, fy, cf, L, f, ca, aa, oa, NN.up hNN hB1, hbi, hCI, hOI, hU1, hU2, hneL, by rw [ht]; exact hP, va_K.moved hv (hK.sub [0, 1, 2] rfl), hD⟩) hS dL_step_253 (Nat.le_of_ble_eq_true rfl) (Nat.le_of_ble_eq_true rfl) rfl (rfl)
    · skip
      refine zx_tab (j := wh % 13) (tgt := 316) hx hb dL_step_21 (by omega) (by omega) (by rw [h13]; rfl) (by decide) ?_
      refine lv_aload_n hx hb dL_step_316 rfl (lv_at hl 2 rfl) ?_
      refine lv_iconst (v := nI 1) hx hb dL_step_317 (by decide) ?_
      refine zx_iald (D := D) hx hb hK hP 5 0 rfl rfl (v := nI n) ((congrArg nI c1)) (by decide) (by first | decide | omega) dL_step_318 ?_
      refine lv_if_eq (tgt := 331) hx hb dL_step_319 (by decide) (fun _ => ?_) (fun h9 => absurd ((nI_eq (a := n) (b := 0) (by omega) (by omega)).mpr (by omega)) h9)
      refine lv_aload_n hx hb dL_step_331 rfl (lv_at hl 1 rfl) ?_
      refine vp_callSi (W.runV (As := []) (rest := []) ⟨hx, hb, hml, hown, hts⟩ (m_X5_waiting_ok l D x pr mk os ch gd om em2 k) (cwV 0 hts gL_step_X5_waiting rfl rfl rfl (by decide +kernel) ⟨Nat.le_of_ble_eq_true rfl, Nat.le_of_ble_eq_true rfl⟩) (z1_V (va_recv hK hP (ci := 5) (q0 := 0) rfl rfl) (hP.sub (ws' := [(x, .inr (5, [.ref pr, .ref mk, .ref os, .long ch, .long gd])), (os, .inr (0, [.int om, .ref em2, .int (nI k)]))]) [0, 4] rfl) (hK.sub (tys' := []) [] rfl) hG) rfl rfl hl.1 rfl (lv_room (Nat.le_of_ble_eq_true rfl)) dL_step_332 ⟨Nat.le_of_ble_eq_true rfl, Nat.le_of_ble_eq_true rfl⟩) (fun r_17 e_r_17 => ?_)
      replace e_r_17 := e_r_17.symm; subst e_r_17
      refine lv_aload_n hx hb dL_step_335 rfl (lv_at hl 2 rfl) ?_
      refine lv_iconst (v := nI 2) hx hb dL_step_336 (by decide) ?_
      refine zx_iald (D := D) hx hb hK hP 5 0 rfl rfl (v := nI k) ((congrArg nI c2)) (by decide) (by first | decide | omega) dL_step_337 ?_
      refine lv_icmp_ne (tgt := 345) hx hb dL_step_338 (by decide) (fun h9 => absurd ((nI_eq (a := k) (b := k) (by omega) (by omega)).mpr (by omega)) h9) (fun _ => ?_)
      refine lv_iconst (v := nI 1) hx hb dL_step_341 (by decide) ?_
      refine lv_goto (tgt := 346) hx hb dL_step_342 (by decide) ?_
      subst hAe
      exact zretBz hx hb hr hlocks (fun t9 ht hv => ⟨ch, gd, t, bf, mm, em1, n, om, em2, k, fb, fp, fs, fr, ff, fa, fz, fi, fu, fo, fq, fx, fy, cf, L, f, ca, aa, oa, NN.up hNN hB1, hbi, hCI, hOI, hU1, hU2, hneL, by rw [ht]; exact hP, va_K.moved hv (hK.sub [0, 1, 2] rfl), hD⟩) hS dL_step_346 (Nat.le_of_ble_eq_true rfl) (Nat.le_of_ble_eq_true rfl) rfl (rfl)
    · skip
      refine zx_tab (j := wh % 13) (tgt := 400) hx hb dL_step_21 (by omega) (by omega) (by rcases (show wh % 13 = 5 ∨ wh % 13 = 6 by omega) with e13 | e13 <;> rw [e13] <;> rfl) (by decide) ?_
      refine lv_aload_n hx hb dL_step_400 rfl (lv_at hl 2 rfl) ?_
      refine lv_iconst (v := nI 1) hx hb dL_step_401 (by decide) ?_
      refine zx_iald (D := D) hx hb hK hP 5 0 rfl rfl (v := nI n) ((congrArg nI c1)) (by decide) (by first | decide | omega) dL_step_402 ?_
      refine lv_if_eq (tgt := 433) hx hb dL_step_403 (by decide) (fun _ => ?_) (fun h9 => absurd ((nI_eq (a := n) (b := 0) (by omega) (by omega)).mpr (by omega)) h9)
      refine lv_iconst (v := nI 1) hx hb dL_step_433 (by decide) ?_
      refine lv_goto (tgt := 438) hx hb dL_step_434 (by decide) ?_
      subst hAe
      exact zretBz hx hb hr hlocks (fun t9 ht hv => ⟨ch, gd, t, bf, mm, em1, n, om, em2, k, fb, fp, fs, fr, ff, fa, fz, fi, fu, fo, fq, fx, fy, cf, L, f, ca, aa, oa, NN.up hNN hB1, hbi, hCI, hOI, hU1, hU2, hneL, by rw [ht]; exact hP, va_K.moved hv (hK.sub [0, 1, 2] rfl), hD⟩) hS dL_step_438 (Nat.le_of_ble_eq_true rfl) (Nat.le_of_ble_eq_true rfl) rfl (rfl)
    · skip
      refine zx_tab (j := wh % 13) (tgt := 439) hx hb dL_step_21 (by omega) (by omega) (by rcases (show wh % 13 = 7 ∨ wh % 13 = 8 ∨ wh % 13 = 9 by omega) with e13 | e13 | e13 <;> rw [e13] <;> rfl) (by decide) ?_
      refine lv_aload_n hx hb dL_step_439 rfl (lv_at hl 2 rfl) ?_
      refine lv_iconst (v := nI 0) hx hb dL_step_440 (by decide) ?_
      refine zx_iald (D := D) hx hb hK hP 5 0 rfl rfl (v := nI t) ((congrArg nI c0)) (by decide) (by first | decide | omega) dL_step_441 ?_
      refine lv_sipush (v := nI 2000) hx hb dL_step_442 (by decide) ?_
      refine lv_icmp_eq (tgt := 497) hx hb dL_step_445 (by decide) (fun c_445 => ?_) (fun c_445 => ?_)
      · skip
        have n_445 : t = 2000 := (nI_eq (a := t) (b := 2000) (by omega) (by omega)).mp c_445
        refine lv_iconst (v := nI 1) hx hb dL_step_497 (by decide) ?_
        refine lv_goto (tgt := 502) hx hb dL_step_498 (by decide) ?_
        subst hAe
        exact zretBz hx hb hr hlocks (fun t9 ht hv => ⟨ch, gd, t, bf, mm, em1, n, om, em2, k, fb, fp, fs, fr, ff, fa, fz, fi, fu, fo, fq, fx, fy, cf, L, f, ca, aa, oa, NN.up hNN hB1, hbi, hCI, hOI, hU1, hU2, hneL, by rw [ht]; exact hP, va_K.moved hv (hK.sub [0, 1, 2] rfl), hD⟩) hS dL_step_502 (Nat.le_of_ble_eq_true rfl) (Nat.le_of_ble_eq_true rfl) rfl (rfl)
      · skip
        have n_445 : ¬ t = 2000 := fun h8 => c_445 ((nI_eq (a := t) (b := 2000) (by omega) (by omega)).mpr h8)
        refine lv_aload_n hx hb dL_step_448 rfl (lv_at hl 1 rfl) ?_
        refine lv_aload_n hx hb dL_step_449 rfl (lv_at hl 2 rfl) ?_
        refine lv_iconst (v := nI 1) hx hb dL_step_450 (by decide) ?_
        refine lv_iload_n hx hb dL_step_451 rfl (lv_at hl 4 rfl) ?_
        refine lv_iload hx hb dL_step_452 (lv_at hl 5 rfl) ?_
        refine lv_iconst (v := nI 4) hx hb dL_step_454 (by decide) ?_
        refine lv_irem hx hb dL_step_455 (by decide) ?_
        refine lv_topi (fun z_455 ez_455 => ?_)
        have ez_455 : z_455 = nI (ub % 4) := ez_455.trans (pk_rem (by omega) (by omega) (by omega))
        subst ez_455
        refine zj (T := Int32) (fr := fun z => F0 m 467 ls (.int z :: [.int (nI ua), .int (nI 1), .ref cc, .ref x])) (if (nI (ub % 4)) = 0 then nI 100000 else nI 3000) (fun z_18 e_z_18 => ?_) (fun j_z_18 => ?_)
        · skip
          obtain ⟨zd, hzd1, hzd2, j9⟩ : ∃ q : Nat, 3000 ≤ q ∧ q ≤ 100000 ∧ z_18 = nI q := by rw [e_z_18]; split; exact ⟨100000, by decide, by decide, rfl⟩; exact ⟨3000, by decide, by decide, rfl⟩
          subst j9
          refine lv_irem hx hb dL_step_467 (nI_ne0 (by omega) (by omega)) ?_
          refine lv_topi (fun z_467 ez_467 => ?_)
          have ez_467 : z_467 = nI (ua % zd) := ez_467.trans (pk_rem (by omega) (by omega) (by omega))
          subst ez_467
          refine zx_iadd (v := nI (1 + (ua % zd))) hx hb dL_step_468 (nI_add _ _) ?_
          refine lv_iconst (v := nI 1) hx hb dL_step_469 (by decide) ?_
          refine lv_iload hx hb dL_step_470 (lv_at hl 5 rfl) ?_
          refine lv_sipush (v := nI 3000) hx hb dL_step_472 (by decide) ?_
          refine lv_irem hx hb dL_step_475 (by decide) ?_
          refine lv_topi (fun z_475 ez_475 => ?_)
          have ez_475 : z_475 = nI (ub % 3000) := ez_475.trans (pk_rem (by omega) (by omega) (by omega))
          subst ez_475
          refine zx_iadd (v := nI (1 + (ub % 3000))) hx hb dL_step_476 (nI_add _ _) ?_
          refine lv_iconst (v := nI 1) hx hb dL_step_477 (by decide) ?_
          refine lv_iload_n hx hb dL_step_478 rfl (lv_at hl 4 rfl) ?_
          refine lv_iconst (v := nI 2) hx hb dL_step_479 (by decide) ?_
          refine zx_idiv (v := nI (ua / 2)) hx hb dL_step_480 (by decide) (pk_div (by omega) (by omega) (by omega)) ?_
          refine lv_iload hx hb dL_step_481 (lv_at hl 5 rfl) ?_
          refine lv_iconst (v := nI 4) hx hb dL_step_483 (by decide) ?_
          refine zx_idiv (v := nI (ub / 4)) hx hb dL_step_484 (by decide) (pk_div (by omega) (by omega) (by omega)) ?_
          refine zx_iadd (v := nI ((ua / 2) + (ub / 4))) hx hb dL_step_485 (nI_add _ _) ?_
          refine lv_sipush (v := nI 2000) hx hb dL_step_486 (by decide) ?_
          refine lv_irem hx hb dL_step_489 (by decide) ?_
          refine lv_topi (fun z_489 ez_489 => ?_)
          have ez_489 : z_489 = nI (((ua / 2) + (ub / 4)) % 2000) := ez_489.trans (pk_rem (by omega) (by omega) (by omega))
          subst ez_489
          refine zx_iadd (v := nI (1 + (((ua / 2) + (ub / 4)) % 2000))) hx hb dL_step_490 (nI_add _ _) ?_
          have hF_49 := lp_F hD hS hA
          refine va_calli (va_runS (As := [.ref x, .ref cc, .int (nI (1 + (ua % zd))), .int (nI (1 + (ub % 3000))), .int (nI (1 + (((ua / 2) + (ub / 4)) % 2000)))]) (rest := []) ⟨hx, hb, hml, hown, hts⟩ (m_L_tells l D x pr mk os ch gd bd t cI bf mm em1 n om em2 k L f cJ cO ca aa fp fs fr ff fa fz fi fu em oa fo fq fx fy fb cc cf B (1 + (ua % zd)) (1 + (ub % 3000)) (1 + (((ua / 2) + (ub / 4)) % 2000)) (by first | omega | assumption) (by first | omega | assumption) (by first | omega | assumption) (by first | omega | assumption) (by first | omega | assumption) (by first | omega | assumption) (by first | omega | assumption) ⟨by omega, by have := Nat.mod_lt ua (show 0 < zd by omega); omega⟩ ⟨by omega, by omega⟩ ⟨by omega, by omega⟩ (by omega) _) (va_cwS 5 hts gL_step_L_tells rfl rfl rfl (by decide +kernel) ⟨Nat.le_of_ble_eq_true rfl, Nat.le_of_ble_eq_true rfl⟩) (zq_S XM.t hP (hK.sub (tys' := [(cI, .int), (cJ, .long), (cO, .object "java/lang/Object")]) [0, 1, 2] rfl) hD hG trivial) rfl rfl hl.1 rfl (lv_room (Nat.le_of_ble_eq_true rfl)) dL_step_491 ⟨Nat.le_of_ble_eq_true rfl, Nat.le_of_ble_eq_true rfl⟩) hS (fun q _ h => hF_49 q h) hF_49 (fun ra_48 u9 t1 H locs ht1 hvm hw hB hz1 hk1 hS => ?_)
          obtain ⟨chZ__19, gdZ__20, tZ__21, bfZ__22, mmZ__23, em1Z__24, nZ__25, omZ__26, em2Z__27, kZ__28, fbZ__29, fpZ__30, fsZ__31, frZ__32, ffZ__33, faZ__34, fzZ__35, fiZ__36, fuZ__37, foZ__38, fqZ__39, fxZ__40, fyZ__41, cfZ__42, LZ__43, fZ__44, caZ__45, aaZ__46, oaZ__47, hp_50, hp_51, hp_52, hp_53, hp_54, hp_55, hp_56, hP1, hK1, hD1⟩ := hB
          rw [ht1] at hP1
          have hP := hP1
          have hD : va_D A (([(x, .inr (5, [.ref pr, .ref mk, .ref os, .long chZ__19, .long gdZ__20])), (pr, .inr (3, [.ref bd, .int (nI tZ__21)])), (bd, .inl (cI, 6003, .inl bfZ__22)), (mk, .inr (0, [.int mmZ__23, .ref em1Z__24, .int (nI nZ__25)])), (os, .inr (0, [.int omZ__26, .ref em2Z__27, .int (nI kZ__28)])), (cc, .inl (cI, 30, .inl (nIf cfZ__42)))] : va_W) ++ va_pl LZ__43 fZ__44) := ⟨hD1.1, fun k9 q9 h9 => hF_49 _ (hD1.2 k9 q9 h9)⟩
          have hP : va_P D vwCl (([(x, .inr (5, [.ref pr, .ref mk, .ref os, .long chZ__19, .long gdZ__20])), (pr, .inr (3, [.ref bd, .int (nI tZ__21)])), (bd, .inl (cI, 6003, .inl bfZ__22)), (mk, .inr (0, [.int mmZ__23, .ref em1Z__24, .int (nI nZ__25)])), (os, .inr (0, [.int omZ__26, .ref em2Z__27, .int (nI kZ__28)])), (cc, .inl (cI, 30, .inl (nIf cfZ__42)))] : va_W) ++ va_pl LZ__43 fZ__44) H := hP
          have hD : va_D A (([(x, .inr (5, [.ref pr, .ref mk, .ref os, .long chZ__19, .long gdZ__20])), (pr, .inr (3, [.ref bd, .int (nI tZ__21)])), (bd, .inl (cI, 6003, .inl bfZ__22)), (mk, .inr (0, [.int mmZ__23, .ref em1Z__24, .int (nI nZ__25)])), (os, .inr (0, [.int omZ__26, .ref em2Z__27, .int (nI kZ__28)])), (cc, .inl (cI, 30, .inl (nIf cfZ__42)))] : va_W) ++ va_pl LZ__43 fZ__44) := hD
          subst hw
          refine lv_if_eq (tgt := 501) hx hb dL_step_494 (by decide) (fun h9 => absurd h9 (by decide)) (fun _ => ?_)
          refine lv_iconst (v := nI 1) hx hb dL_step_497 (by decide) ?_
          refine lv_goto (tgt := 502) hx hb dL_step_498 (by decide) ?_
          subst hAe
          exact zretBz hx hb hr hlocks (fun t9 ht hv => ⟨chZ__19, gdZ__20, tZ__21, bfZ__22, mmZ__23, em1Z__24, nZ__25, omZ__26, em2Z__27, kZ__28, fbZ__29, fpZ__30, fsZ__31, frZ__32, ffZ__33, faZ__34, fzZ__35, fiZ__36, fuZ__37, foZ__38, fqZ__39, fxZ__40, fyZ__41, cfZ__42, LZ__43, fZ__44, caZ__45, aaZ__46, oaZ__47, NN.up hp_50 hB1, hp_51, hp_52, hp_53, hp_54, hp_55, hp_56, by rw [ht]; exact hP, va_K.moved hv (hK.sub [0, 1, 2] rfl), hD⟩) hS dL_step_502 (Nat.le_of_ble_eq_true rfl) (Nat.le_of_ble_eq_true rfl) rfl (rfl)
        · refine lv_if_ne (tgt := 464) hx hb dL_step_456 (by decide) (fun c_456 => ?_) (fun c_456 => ?_)
          · skip
            refine lv_sipush (v := nI 3000) hx hb dL_step_464 (by decide) ?_
            exact j_z_18 _ (by rw [if_neg c_456])
          · skip
            refine lv_ldc (v := nI 100000) hx hb hown k_0 dL_step_459 ?_
            refine lv_goto (tgt := 467) hx hb dL_step_461 (by decide) ?_
            exact j_z_18 _ (by rw [if_pos c_456])
    · skip
      refine zx_tabO (j := wh % 13) (tgt := 503) hx hb dL_step_21 (by omega) (by omega) (by decide) ?_
      refine lv_iconst (v := nI 1) hx hb dL_step_503 (by decide) ?_
      refine lv_iload hx hb dL_step_504 (lv_at hl 5 rfl) ?_
      refine lv_iload_n hx hb dL_step_506 rfl (lv_at hl 4 rfl) ?_
      refine lv_iconst (v := nI 3) hx hb dL_step_507 (by decide) ?_
      refine lv_irem hx hb dL_step_508 (by decide) ?_
      refine lv_topi (fun z_508 ez_508 => ?_)
      have ez_508 : z_508 = nI (ua % 3) := ez_508.trans (pk_rem (by omega) (by omega) (by omega))
      subst ez_508
      refine zj (T := Int32) (fr := fun z => F0 m 519 ls (.int z :: [.int (nI ub), .int (nI 1)])) (if (nI (ua % 3)) = 0 then nI 60 else nI 10) (fun z_57 e_z_57 => ?_) (fun j_z_57 => ?_)
      · skip
        obtain ⟨zd, hzd1, hzd2, j9⟩ : ∃ q : Nat, 10 ≤ q ∧ q ≤ 60 ∧ z_57 = nI q := by rw [e_z_57]; split; exact ⟨60, by decide, by decide, rfl⟩; exact ⟨10, by decide, by decide, rfl⟩
        subst j9
        refine lv_irem hx hb dL_step_519 (nI_ne0 (by omega) (by omega)) ?_
        refine lv_topi (fun z_519 ez_519 => ?_)
        have ez_519 : z_519 = nI (ub % zd) := ez_519.trans (pk_rem (by omega) (by omega) (by omega))
        subst ez_519
        refine zx_iadd (v := nI (1 + (ub % zd))) hx hb dL_step_520 (nI_add _ _) ?_
        obtain ⟨dd, hdd1, hdd2, e9⟩ : ∃ q : Nat, 1 ≤ q ∧ q ≤ 60 ∧ 1 + ub % zd = q := ⟨_, by omega, by have := Nat.mod_lt ub (show 0 < zd by omega); omega, rfl⟩
        rw [e9]
        refine lv_istore (lv' := [(6, .int (nI dd)), (5, .int (nI 0)), (0, .ref x), (1, .ref cc), (2, .int (nI wh)), (3, .int (nI ua)), (4, .int (nI ub))]) hx hb dL_step_521 hl (by decide) rfl (fun ls hl => ?_)
        refine lv_aload_n hx hb dL_step_523 rfl (lv_at hl 3 rfl) ?_
        refine lv_iconst (v := nI 0) hx hb dL_step_524 (by decide) ?_
        refine zx_iald (D := D) hx hb hK hP 5 0 rfl rfl (v := nI t) ((congrArg nI c0)) (by decide) (by first | decide | omega) dL_step_525 ?_
        refine lv_iload hx hb dL_step_526 (lv_at hl 0 rfl) ?_
        refine zx_iadd (v := nI (t + dd)) hx hb dL_step_528 (nI_add _ _) ?_
        refine lv_sipush (v := nI 2000) hx hb dL_step_529 (by decide) ?_
        refine lv_icmp_gt (tgt := 545) hx hb dL_step_532 (by decide) (fun c_532 => ?_) (fun c_532 => ?_)
        · skip
          have n_532 : 2000 < t + dd := (nI_ltI (a := 2000) (b := t + dd) (by omega) (by omega)).mp c_532
          refine lv_iconst (v := nI 1) hx hb dL_step_545 (by decide) ?_
          refine lv_goto (tgt := 550) hx hb dL_step_546 (by decide) ?_
          subst hAe
          exact zretBz hx hb hr hlocks (fun t9 ht hv => ⟨ch, gd, t, bf, mm, em1, n, om, em2, k, fb, fp, fs, fr, ff, fa, fz, fi, fu, fo, fq, fx, fy, cf, L, f, ca, aa, oa, NN.up hNN hB1, hbi, hCI, hOI, hU1, hU2, hneL, by rw [ht]; exact hP, va_K.moved hv (hK.sub [0, 1, 2] rfl), hD⟩) hS dL_step_550 (Nat.le_of_ble_eq_true rfl) (Nat.le_of_ble_eq_true rfl) rfl (rfl)
        · skip
          have n_532 : ¬ 2000 < t + dd := fun h8 => c_532 ((nI_ltI (a := 2000) (b := t + dd) (by omega) (by omega)).mpr h8)
          refine lv_aload_n hx hb dL_step_535 rfl (lv_at hl 2 rfl) ?_
          refine lv_aload_n hx hb dL_step_536 rfl (lv_at hl 3 rfl) ?_
          refine lv_iload hx hb dL_step_537 (lv_at hl 0 rfl) ?_
          have hF_88 := lp_F hD hS hA
          refine va_calli (va_runS (As := [.ref x, .ref cc, .int (nI dd)]) (rest := []) ⟨hx, hb, hml, hown, hts⟩ (m_L_passes l D x pr mk os ch gd bd t cI bf mm em1 n om em2 k L f cJ cO ca aa fp fs fr ff fa fz fi fu em oa fo fq fx fy fb cc cf B dd (by first | omega | assumption) (by first | omega | assumption) (by first | omega | assumption) (by first | omega | assumption) (by first | omega | assumption) (by first | omega | assumption) (by first | omega | assumption) hdd1 (by omega) (by omega) _) (va_cwS 3 hts gL_step_L_passes rfl rfl rfl (by decide +kernel) ⟨Nat.le_of_ble_eq_true rfl, Nat.le_of_ble_eq_true rfl⟩) (zq_S XM.t hP (hK.sub (tys' := [(cI, .int), (cJ, .long), (cO, .object "java/lang/Object")]) [0, 1, 2] rfl) hD hG trivial) rfl rfl hl.1 rfl (lv_room (Nat.le_of_ble_eq_true rfl)) dL_step_539 ⟨Nat.le_of_ble_eq_true rfl, Nat.le_of_ble_eq_true rfl⟩) hS (fun q _ h => hF_88 q h) hF_88 (fun ra_87 u9 t1 H locs ht1 hvm hw hB hz1 hk1 hS => ?_)
          obtain ⟨chZ__58, gdZ__59, tZ__60, bfZ__61, mmZ__62, em1Z__63, nZ__64, omZ__65, em2Z__66, kZ__67, fbZ__68, fpZ__69, fsZ__70, frZ__71, ffZ__72, faZ__73, fzZ__74, fiZ__75, fuZ__76, foZ__77, fqZ__78, fxZ__79, fyZ__80, cfZ__81, LZ__82, fZ__83, caZ__84, aaZ__85, oaZ__86, hp_89, hp_90, hp_91, hp_92, hp_93, hp_94, hp_95, hP1, hK1, hD1⟩ := hB
          rw [ht1] at hP1
          have hP := hP1
          have hD : va_D A (([(x, .inr (5, [.ref pr, .ref mk, .ref os, .long chZ__58, .long gdZ__59])), (pr, .inr (3, [.ref bd, .int (nI tZ__60)])), (bd, .inl (cI, 6003, .inl bfZ__61)), (mk, .inr (0, [.int mmZ__62, .ref em1Z__63, .int (nI nZ__64)])), (os, .inr (0, [.int omZ__65, .ref em2Z__66, .int (nI kZ__67)])), (cc, .inl (cI, 30, .inl (nIf cfZ__81)))] : va_W) ++ va_pl LZ__82 fZ__83) := ⟨hD1.1, fun k9 q9 h9 => hF_88 _ (hD1.2 k9 q9 h9)⟩
          have hP : va_P D vwCl (([(x, .inr (5, [.ref pr, .ref mk, .ref os, .long chZ__58, .long gdZ__59])), (pr, .inr (3, [.ref bd, .int (nI tZ__60)])), (bd, .inl (cI, 6003, .inl bfZ__61)), (mk, .inr (0, [.int mmZ__62, .ref em1Z__63, .int (nI nZ__64)])), (os, .inr (0, [.int omZ__65, .ref em2Z__66, .int (nI kZ__67)])), (cc, .inl (cI, 30, .inl (nIf cfZ__81)))] : va_W) ++ va_pl LZ__82 fZ__83) H := hP
          have hD : va_D A (([(x, .inr (5, [.ref pr, .ref mk, .ref os, .long chZ__58, .long gdZ__59])), (pr, .inr (3, [.ref bd, .int (nI tZ__60)])), (bd, .inl (cI, 6003, .inl bfZ__61)), (mk, .inr (0, [.int mmZ__62, .ref em1Z__63, .int (nI nZ__64)])), (os, .inr (0, [.int omZ__65, .ref em2Z__66, .int (nI kZ__67)])), (cc, .inl (cI, 30, .inl (nIf cfZ__81)))] : va_W) ++ va_pl LZ__82 fZ__83) := hD
          subst hw
          refine lv_if_eq (tgt := 549) hx hb dL_step_542 (by decide) (fun h9 => absurd h9 (by decide)) (fun _ => ?_)
          refine lv_iconst (v := nI 1) hx hb dL_step_545 (by decide) ?_
          refine lv_goto (tgt := 550) hx hb dL_step_546 (by decide) ?_
          subst hAe
          exact zretBz hx hb hr hlocks (fun t9 ht hv => ⟨chZ__58, gdZ__59, tZ__60, bfZ__61, mmZ__62, em1Z__63, nZ__64, omZ__65, em2Z__66, kZ__67, fbZ__68, fpZ__69, fsZ__70, frZ__71, ffZ__72, faZ__73, fzZ__74, fiZ__75, fuZ__76, foZ__77, fqZ__78, fxZ__79, fyZ__80, cfZ__81, LZ__82, fZ__83, caZ__84, aaZ__85, oaZ__86, NN.up hp_89 hB1, hp_90, hp_91, hp_92, hp_93, hp_94, hp_95, by rw [ht]; exact hP, va_K.moved hv (hK.sub [0, 1, 2] rfl), hD⟩) hS dL_step_550 (Nat.le_of_ble_eq_true rfl) (Nat.le_of_ble_eq_true rfl) rfl (rfl)
      · refine lv_if_ne (tgt := 517) hx hb dL_step_509 (by decide) (fun c_509 => ?_) (fun c_509 => ?_)
        · skip
          refine lv_bipush (v := nI 10) hx hb dL_step_517 (by decide) ?_
          exact j_z_57 _ (by rw [if_neg c_509])
        · skip
          refine lv_bipush (v := nI 60) hx hb dL_step_512 (by decide) ?_
          refine lv_goto (tgt := 519) hx hb dL_step_514 (by decide) ?_
          exact j_z_57 _ (by rw [if_pos c_509])
  · skip
    refine lv_if_ne (tgt := 10) hx hb dL_step_3 (by decide) (fun _ => ?_) (fun h9 => absurd h9 (fun h8 => absurd ((nI_eq (a := n) (b := 0) (by omega) (by omega)).mp h8) (by omega)))
    refine lv_iload_n hx hb dL_step_10 rfl (lv_at hl 3 rfl) ?_
    refine lv_aload_n hx hb dL_step_11 rfl (lv_at hl 1 rfl) ?_
    refine lv_iconst (v := nI 1) hx hb dL_step_12 (by decide) ?_
    refine zx_iald (D := D) hx hb hK hP 5 0 rfl rfl (v := nI n) ((congrArg nI c1)) (by decide) (by first | decide | omega) dL_step_13 ?_
    refine lv_irem hx hb dL_step_14 (nI_ne0 hn0 (by omega)) ?_
    refine lv_topi (fun z_14 ez_14 => ?_)
    have ez_14 : z_14 = nI (ua % n) := ez_14.trans (pk_rem (by omega) (by omega) (by omega))
    subst ez_14
    obtain ⟨kc, hkc, e9⟩ : ∃ q : Nat, q < n ∧ ua % n = q := ⟨_, Nat.mod_lt _ hn0, rfl⟩
    rw [e9]
    have hfa9 := nFA kc
    refine lv_istore (lv' := [(5, .int (nI kc)), (0, .ref x), (1, .ref cc), (2, .int (nI wh)), (3, .int (nI ua)), (4, .int (nI ub))]) hx hb dL_step_15 hl (by decide) rfl (fun ls hl => ?_)
    refine lv_iload_n hx hb dL_step_17 rfl (lv_at hl 3 rfl) ?_
    refine lv_bipush (v := nI 13) hx hb dL_step_18 (by decide) ?_
    refine lv_irem hx hb dL_step_20 (by decide) ?_
    refine lv_topi (fun z_20 ez_20 => ?_)
    have ez_20 : z_20 = nI (wh % 13) := ez_20.trans (pk_rem (by omega) (by omega) (by omega))
    subst ez_20
    rcases (show wh % 13 = 0 ∨ (1 ≤ wh % 13 ∧ wh % 13 ≤ 3) ∨ wh % 13 = 4 ∨ (5 ≤ wh % 13 ∧ wh % 13 ≤ 6) ∨ (7 ≤ wh % 13 ∧ wh % 13 ≤ 9) ∨ 10 ≤ wh % 13 by omega) with h13 | h13 | h13 | h13 | h13 | h13
    · skip
      refine zx_tab (j := wh % 13) (tgt := 76) hx hb dL_step_21 (by omega) (by omega) (by rw [h13]; rfl) (by decide) ?_
      refine lv_aload_n hx hb dL_step_76 rfl (lv_at hl 2 rfl) ?_
      refine lv_iconst (v := nI 1) hx hb dL_step_77 (by decide) ?_
      refine zx_iald (D := D) hx hb hK hP 5 0 rfl rfl (v := nI n) ((congrArg nI c1)) (by decide) (by first | decide | omega) dL_step_78 ?_
      refine lv_bipush (v := nI 6) hx hb dL_step_79 (by decide) ?_
      refine lv_icmp_ne (tgt := 99) hx hb dL_step_81 (by decide) (fun c_81 => ?_) (fun c_81 => ?_)
      · skip
        have n_81 : ¬ n = 6 := fun h8 => c_81 ((nI_eq (a := n) (b := 6) (by omega) (by omega)).mpr h8)
        refine lv_aload_n hx hb dL_step_99 rfl (lv_at hl 2 rfl) ?_
        refine lv_bipush (v := nI 6) hx hb dL_step_100 (by decide) ?_
        refine lv_aload_n hx hb dL_step_102 rfl (lv_at hl 2 rfl) ?_
        refine lv_iconst (v := nI 1) hx hb dL_step_103 (by decide) ?_
        refine zx_iald (D := D) hx hb hK hP 5 0 rfl rfl (v := nI n) ((congrArg nI c1)) (by decide) (by first | decide | omega) dL_step_104 ?_
        refine zx_iadd (v := nI (6 + n)) hx hb dL_step_105 (nI_add _ _) ?_
        refine lv_bipush (v := nI 100) hx hb dL_step_106 (by decide) ?_
        refine lv_iload_n hx hb dL_step_108 rfl (lv_at hl 4 rfl) ?_
        refine lv_iload hx hb dL_step_109 (lv_at hl 5 rfl) ?_
        refine lv_iconst (v := nI 3) hx hb dL_step_111 (by decide) ?_
        refine lv_irem hx hb dL_step_112 (by decide) ?_
        refine lv_topi (fun z_112 ez_112 => ?_)
        have ez_112 : z_112 = nI (ub % 3) := ez_112.trans (pk_rem (by omega) (by omega) (by omega))
        subst ez_112
        refine zj (T := Int32) (fr := fun z => F0 m 124 ls (.int z :: [.int (nI ua), .int (nI 100), .int (nI (6 + n)), .ref cc])) (if (nI (ub % 3)) = 0 then nI 99901 else nI 5000) (fun z_96 e_z_96 => ?_) (fun j_z_96 => ?_)
        · skip
          obtain ⟨zd, hzd1, hzd2, j9⟩ : ∃ q : Nat, 5000 ≤ q ∧ q ≤ 99901 ∧ z_96 = nI q := by rw [e_z_96]; split; exact ⟨99901, by decide, by decide, rfl⟩; exact ⟨5000, by decide, by decide, rfl⟩
          subst j9
          refine lv_irem hx hb dL_step_124 (nI_ne0 (by omega) (by omega)) ?_
          refine lv_topi (fun z_124 ez_124 => ?_)
          have ez_124 : z_124 = nI (ua % zd) := ez_124.trans (pk_rem (by omega) (by omega) (by omega))
          subst ez_124
          refine zx_iadd (v := nI (100 + (ua % zd))) hx hb dL_step_125 (nI_add _ _) ?_
          obtain ⟨pv, hpv1, hpv2, e9⟩ : ∃ q : Nat, 100 ≤ q ∧ q ≤ 100000 ∧ 100 + ua % zd = q := ⟨_, by omega, by have := Nat.mod_lt ua (show 0 < zd by omega); omega, rfl⟩
          rw [e9]
          refine zx_nast (D := D) hx hb hK hP hD hS 5 0 rfl rfl (by omega) (by decide) dL_step_126 (fun H locs hP hD hS => ?_)
          have hP : va_P D vwCl (([(x, .inr (5, [.ref pr, .ref mk, .ref os, .long ch, .long gd])), (pr, .inr (3, [.ref bd, .int (nI t)])), (bd, .inl (cI, 6003, .inl bf)), (mk, .inr (0, [.int mm, .ref em1, .int (nI n)])), (os, .inr (0, [.int om, .ref em2, .int (nI k)])), (cc, .inl (cI, 30, .inl (nIf (va_up cf (6 + n) pv))))] : va_W) ++ va_pl L f) H := hP
          have hD : va_D A (([(x, .inr (5, [.ref pr, .ref mk, .ref os, .long ch, .long gd])), (pr, .inr (3, [.ref bd, .int (nI t)])), (bd, .inl (cI, 6003, .inl bf)), (mk, .inr (0, [.int mm, .ref em1, .int (nI n)])), (os, .inr (0, [.int om, .ref em2, .int (nI k)])), (cc, .inl (cI, 30, .inl (nIf (va_up cf (6 + n) pv))))] : va_W) ++ va_pl L f) := hD
          refine lv_aload_n hx hb dL_step_127 rfl (lv_at hl 2 rfl) ?_
          refine lv_bipush (v := nI 12) hx hb dL_step_128 (by decide) ?_
          refine lv_aload_n hx hb dL_step_130 rfl (lv_at hl 2 rfl) ?_
          refine lv_iconst (v := nI 1) hx hb dL_step_131 (by decide) ?_
          refine zx_iald (D := D) hx hb hK hP 5 0 rfl rfl (v := nI n) ((congrArg nI ((up_ne (by omega)).trans c1))) (by decide) (by first | decide | omega) dL_step_132 ?_
          refine zx_iadd (v := nI (12 + n)) hx hb dL_step_133 (nI_add _ _) ?_
          refine lv_iload hx hb dL_step_134 (lv_at hl 5 rfl) ?_
          refine lv_iconst (v := nI 3) hx hb dL_step_136 (by decide) ?_
          refine lv_irem hx hb dL_step_137 (by decide) ?_
          refine lv_topi (fun z_137 ez_137 => ?_)
          have ez_137 : z_137 = nI (ub % 3) := ez_137.trans (pk_rem (by omega) (by omega) (by omega))
          subst ez_137
          refine zx_nast (D := D) hx hb hK hP hD hS 5 0 rfl rfl (by omega) (by decide) dL_step_138 (fun H locs hP hD hS => ?_)
          have hP : va_P D vwCl (([(x, .inr (5, [.ref pr, .ref mk, .ref os, .long ch, .long gd])), (pr, .inr (3, [.ref bd, .int (nI t)])), (bd, .inl (cI, 6003, .inl bf)), (mk, .inr (0, [.int mm, .ref em1, .int (nI n)])), (os, .inr (0, [.int om, .ref em2, .int (nI k)])), (cc, .inl (cI, 30, .inl (nIf (va_up (va_up cf (6 + n) pv) (12 + n) (ub % 3)))))] : va_W) ++ va_pl L f) H := hP
          have hD : va_D A (([(x, .inr (5, [.ref pr, .ref mk, .ref os, .long ch, .long gd])), (pr, .inr (3, [.ref bd, .int (nI t)])), (bd, .inl (cI, 6003, .inl bf)), (mk, .inr (0, [.int mm, .ref em1, .int (nI n)])), (os, .inr (0, [.int om, .ref em2, .int (nI k)])), (cc, .inl (cI, 30, .inl (nIf (va_up (va_up cf (6 + n) pv) (12 + n) (ub % 3)))))] : va_W) ++ va_pl L f) := hD
          refine lv_aload_n hx hb dL_step_139 rfl (lv_at hl 2 rfl) ?_
          refine lv_iconst (v := nI 1) hx hb dL_step_140 (by decide) ?_
          refine lv_dup2_11 hx hb dL_step_141 rfl rfl ?_
          refine zx_iald (D := D) hx hb hK hP 5 0 rfl rfl (v := nI n) ((congrArg nI ((up_ne (by omega)).trans ((up_ne (by omega)).trans c1)))) (by decide) (by first | decide | omega) dL_step_142 ?_
          refine lv_iconst (v := nI 1) hx hb dL_step_143 (by decide) ?_
          refine zx_iadd (v := nI (n + 1)) hx hb dL_step_144 (nI_add _ _) ?_
          refine zx_nast (D := D) hx hb hK hP hD hS 5 0 rfl rfl (by decide) (by decide) dL_step_145 (fun H locs hP hD hS => ?_)
          have hP : va_P D vwCl (([(x, .inr (5, [.ref pr, .ref mk, .ref os, .long ch, .long gd])), (pr, .inr (3, [.ref bd, .int (nI t)])), (bd, .inl (cI, 6003, .inl bf)), (mk, .inr (0, [.int mm, .ref em1, .int (nI n)])), (os, .inr (0, [.int om, .ref em2, .int (nI k)])), (cc, .inl (cI, 30, .inl (nIf (va_up (va_up (va_up cf (6 + n) pv) (12 + n) (ub % 3)) 1 (n + 1)))))] : va_W) ++ va_pl L f) H := hP
          have hD : va_D A (([(x, .inr (5, [.ref pr, .ref mk, .ref os, .long ch, .long gd])), (pr, .inr (3, [.ref bd, .int (nI t)])), (bd, .inl (cI, 6003, .inl bf)), (mk, .inr (0, [.int mm, .ref em1, .int (nI n)])), (os, .inr (0, [.int om, .ref em2, .int (nI k)])), (cc, .inl (cI, 30, .inl (nIf (va_up (va_up (va_up cf (6 + n) pv) (12 + n) (ub % 3)) 1 (n + 1)))))] : va_W) ++ va_pl L f) := hD
          obtain ⟨cg, hcg⟩ : ∃ q : Nat → Nat, q = (va_up (va_up (va_up cf (6 + n) pv) (12 + n) (ub % 3)) 1 (n + 1)) := ⟨_, rfl⟩
          rw [← hcg] at hP hD
          have g1 : cg 1 = n + 1 := (by rw [hcg]; (repeat (first | rw [up_same] | rw [up_ne (by omega)])))
          have g6 : cg (6 + n) = pv := (by rw [hcg]; (repeat (first | rw [up_same] | rw [up_ne (by omega)])))
          have g12 : cg (12 + n) = ub % 3 := (by rw [hcg]; (repeat (first | rw [up_same] | rw [up_ne (by omega)])))
          have hP : va_P D vwCl (([(x, .inr (5, [.ref pr, .ref mk, .ref os, .long ch, .long gd])), (pr, .inr (3, [.ref bd, .int (nI t)])), (bd, .inl (cI, 6003, .inl bf)), (mk, .inr (0, [.int mm, .ref em1, .int (nI n)])), (os, .inr (0, [.int om, .ref em2, .int (nI k)])), (cc, .inl (cI, 30, .inl (nIf cg)))] : va_W) ++ va_pl L f) H := hP
          have hD : va_D A (([(x, .inr (5, [.ref pr, .ref mk, .ref os, .long ch, .long gd])), (pr, .inr (3, [.ref bd, .int (nI t)])), (bd, .inl (cI, 6003, .inl bf)), (mk, .inr (0, [.int mm, .ref em1, .int (nI n)])), (os, .inr (0, [.int om, .ref em2, .int (nI k)])), (cc, .inl (cI, 30, .inl (nIf cg)))] : va_W) ++ va_pl L f) := hD
          have gr : ∀ z : Nat, z ≠ 1 → z ≠ 6 + n → z ≠ 12 + n → cg z = cf z := fun z hz1 hz2 hz3 => (by rw [hcg]; (repeat (first | rw [up_same] | rw [up_ne (by omega)])))
          have hM := NN_make (sv := ua / 7 % 100000) (rv := ub / 3 % 200) hNN (by omega) hpv1 hpv2 (by omega) (by omega) (show ub % 3 < 3 by omega) g1 g6 g12 gr
          have hfzM := hM.2.2.2.2.2.2.1
          have hffM := hM.2.2.2.2.2.1
          refine lv_aload_n hx hb dL_step_146 rfl (lv_at hl 1 rfl) ?_
          refine lv_aload_n hx hb dL_step_147 rfl (lv_at hl 2 rfl) ?_
          refine lv_iconst (v := nI 5) hx hb dL_step_148 (by decide) ?_
          refine lv_aload_n hx hb dL_step_149 rfl (lv_at hl 2 rfl) ?_
          refine lv_iconst (v := nI 1) hx hb dL_step_150 (by decide) ?_
          refine zx_iald (D := D) hx hb hK hP 5 0 rfl rfl (v := nI (n + 1)) ((congrArg nI g1)) (by decide) (by first | decide | omega) dL_step_151 ?_
          refine zx_iadd (v := nI (5 + (n + 1))) hx hb dL_step_152 (nI_add _ _) ?_
          refine zx_iald (D := D) hx hb hK hP 5 0 rfl rfl (v := nI pv) ((congrArg nI (by rw [show 5 + (n + 1) = 6 + n by omega]; exact g6))) (by omega) (by first | decide | omega) dL_step_153 ?_
          refine lv_iload_n hx hb dL_step_154 rfl (lv_at hl 4 rfl) ?_
          refine lv_bipush (v := nI 7) hx hb dL_step_155 (by decide) ?_
          refine zx_idiv (v := nI (ua / 7)) hx hb dL_step_157 (by decide) (pk_div (by omega) (by omega) (by omega)) ?_
          refine lv_ldc (v := nI 100000) hx hb hown k_0 dL_step_158 ?_
          refine lv_irem hx hb dL_step_160 (by decide) ?_
          refine lv_topi (fun z_160 ez_160 => ?_)
          have ez_160 : z_160 = nI ((ua / 7) % 100000) := ez_160.trans (pk_rem (by omega) (by omega) (by omega))
          subst ez_160
          refine lv_iload hx hb dL_step_161 (lv_at hl 5 rfl) ?_
          refine lv_iconst (v := nI 3) hx hb dL_step_163 (by decide) ?_
          refine zx_idiv (v := nI (ub / 3)) hx hb dL_step_164 (by decide) (pk_div (by omega) (by omega) (by omega)) ?_
          refine lv_sipush (v := nI 200) hx hb dL_step_165 (by decide) ?_
          refine lv_irem hx hb dL_step_168 (by decide) ?_
          refine lv_topi (fun z_168 ez_168 => ?_)
          have ez_168 : z_168 = nI ((ub / 3) % 200) := ez_168.trans (pk_rem (by omega) (by omega) (by omega))
          subst ez_168
          refine lv_iload hx hb dL_step_169 (lv_at hl 5 rfl) ?_
          refine lv_iconst (v := nI 3) hx hb dL_step_171 (by decide) ?_
          refine lv_irem hx hb dL_step_172 (by decide) ?_
          refine lv_topi (fun z_172 ez_172 => ?_)
          have ez_172 : z_172 = nI (ub % 3) := ez_172.trans (pk_rem (by omega) (by omega) (by omega))
          subst ez_172
          have hP : va_P D vwCl ((([(x, .inr (5, [.ref pr, .ref mk, .ref os, .long ch, .long gd])), (pr, .inr (3, [.ref bd, .int (nI t)])), (bd, .inl (cI, 6003, .inl bf)), (mk, .inr (0, [.int mm, .ref em1, .int (nI n)])), (os, .inr (0, [.int om, .ref em2, .int (nI k)]))] : va_W) ++ ([(cc, .inl (cI, 30, .inl (nIf cg)))] : va_W)) ++ va_pl L f) _ := hP
          have hD : va_D A ((([(x, .inr (5, [.ref pr, .ref mk, .ref os, .long ch, .long gd])), (pr, .inr (3, [.ref bd, .int (nI t)])), (bd, .inl (cI, 6003, .inl bf)), (mk, .inr (0, [.int mm, .ref em1, .int (nI n)])), (os, .inr (0, [.int om, .ref em2, .int (nI k)]))] : va_W) ++ ([(cc, .inl (cI, 30, .inl (nIf cg)))] : va_W)) ++ va_pl L f) := hD
          have hP := hP.swap
          have hD := hD.swap
          have hPc : va_P D vwCl (([(x, .inr (5, [.ref pr, .ref mk, .ref os, .long ch, .long gd])), (pr, .inr (3, [.ref bd, .int (nI t)])), (bd, .inl (cI, 6003, .inl bf)), (mk, .inr (0, [.int mm, .ref em1, .int (nI n)])), (os, .inr (0, [.int om, .ref em2, .int (nI k)]))] : va_W) ++ va_pl L f) _ := lp_Pl hP
          have hDc : va_D A (([(x, .inr (5, [.ref pr, .ref mk, .ref os, .long ch, .long gd])), (pr, .inr (3, [.ref bd, .int (nI t)])), (bd, .inl (cI, 6003, .inl bf)), (mk, .inr (0, [.int mm, .ref em1, .int (nI n)])), (os, .inr (0, [.int om, .ref em2, .int (nI k)]))] : va_W) ++ va_pl L f) := lp_Dl hD
          have hF_103 := lp_F2 hD hS hA
          refine va_calli (va_runV (As := [.int (nI pv), .int (nI ((ua / 7) % 100000)), .int (nI ((ub / 3) % 200)), .int (nI (ub % 3))]) (rest := []) ⟨hx, hb, hml, hown, hts⟩ (p_make l D x pr mk os ch gd bd t cI bf mm em1 n om em2 k L f cJ cO ca aa fp fs fr ff fa fz fi fu em oa fo fq fx fy fb (nI pv) (nI ((ua / 7) % 100000)) (nI ((ub / 3) % 200)) (ub % 3) (k_isIn1 (by omega) (by omega) (by omega)) (k_isIn1 (by omega) (by omega) (by omega)) (k_isIn1 (by omega) (by omega) (by omega)) (by first | omega | assumption) (by first | omega | assumption) nZR (by first | omega | assumption) (by first | omega | assumption) (by first | omega | assumption) (by first | omega | assumption) (by first | omega | assumption) _) (cwV 4 hts gL_step_X5_make rfl rfl rfl (by decide +kernel) ⟨Nat.le_of_ble_eq_true rfl, Nat.le_of_ble_eq_true rfl⟩) (zq_V XM.hs (va_recv hK hPc (ci := 5) (q0 := 0) rfl rfl) hPc (hK.sub (tys' := [(cI, .int), (cJ, .long), (cO, .object "java/lang/Object")]) [0, 1, 2] rfl) hDc hG (hHS.go hS (lp_F2 hD hS hA))) rfl rfl hl.1 rfl (lv_room (Nat.le_of_ble_eq_true rfl)) dL_step_173 ⟨Nat.le_of_ble_eq_true rfl, Nat.le_of_ble_eq_true rfl⟩) hS (fun q _ h => hF_103 q h) hF_103 (fun ra_102 u9 t1 H locs ht1 hvm hw hB hz1 hk1 hS => ?_)
          obtain ⟨L2__97, g__98, e9__99, ca2__100, aa2__101, hp_104, hp_105, hp_106, hp_107, hp_108, hP1, hK1, hD1⟩ := hB
          rw [ht1] at hP1
          obtain ⟨hP, hD⟩ := lp_front (w1 := (([(x, .inr (5, [.ref pr, .ref mk, .ref os, .long ch, .long gd])), (pr, .inr (3, [.ref bd, .int (nI t)])), (bd, .inl (cI, 6003, .inl bf)), (mk, .inr (0, [.int (mm + nI 1), .ref e9__99, .int (nI (n + 1))])), (os, .inr (0, [.int om, .ref em2, .int (nI k)]))] : va_W) ++ va_pl L2__97 g__98)) (R9 := [(cc, .inl (cI, 30, .inl (nIf cg)))]) hP hD hF_103 hk1 hP1 hD1
          have hP := hP.swap
          have hD := hD.swap
          have hP : va_P D vwCl (([(x, .inr (5, [.ref pr, .ref mk, .ref os, .long ch, .long gd])), (pr, .inr (3, [.ref bd, .int (nI t)])), (bd, .inl (cI, 6003, .inl bf)), (mk, .inr (0, [.int (mm + nI 1), .ref e9__99, .int (nI (n + 1))])), (os, .inr (0, [.int om, .ref em2, .int (nI k)])), (cc, .inl (cI, 30, .inl (nIf cg)))] : va_W) ++ va_pl L2__97 g__98) H := hP
          have hD : va_D A (([(x, .inr (5, [.ref pr, .ref mk, .ref os, .long ch, .long gd])), (pr, .inr (3, [.ref bd, .int (nI t)])), (bd, .inl (cI, 6003, .inl bf)), (mk, .inr (0, [.int (mm + nI 1), .ref e9__99, .int (nI (n + 1))])), (os, .inr (0, [.int om, .ref em2, .int (nI k)])), (cc, .inl (cI, 30, .inl (nIf cg)))] : va_W) ++ va_pl L2__97 g__98) := hD
          refine W.widen (k := 3) (n := 811) (by decide) (by decide) ?_
          subst hw
          refine lv_aload_n hx hb dL_step_176 rfl (lv_at hl 2 rfl) ?_
          refine lv_iconst (v := nI 1) hx hb dL_step_177 (by decide) ?_
          refine zx_iald (D := D) hx hb hK hP 5 0 rfl rfl (v := nI (n + 1)) ((congrArg nI g1)) (by decide) (by first | decide | omega) dL_step_178 ?_
          refine lv_iconst (v := nI 1) hx hb dL_step_179 (by decide) ?_
          refine zx_isub (v := nI n) hx hb dL_step_180 ((pk_sub (by omega))) ?_
          refine lv_icmp_ne (tgt := 214) hx hb dL_step_181 (by decide) (fun h9 => absurd ((nI_eq (a := n) (b := n) (by omega) (by omega)).mpr (by omega)) h9) (fun _ => ?_)
          refine lv_aload_n hx hb dL_step_184 rfl (lv_at hl 1 rfl) ?_
          refine lv_aload_n hx hb dL_step_185 rfl (lv_at hl 2 rfl) ?_
          refine lv_iconst (v := nI 1) hx hb dL_step_186 (by decide) ?_
          refine zx_iald (D := D) hx hb hK hP 5 0 rfl rfl (v := nI (n + 1)) ((congrArg nI g1)) (by decide) (by first | decide | omega) dL_step_187 ?_
          refine lv_iconst (v := nI 1) hx hb dL_step_188 (by decide) ?_
          refine zx_isub (v := nI n) hx hb dL_step_189 ((pk_sub (by omega))) ?_
          have hPs : va_P D vwCl (([(x, .inr (5, [.ref pr, .ref mk, .ref os, .long ch, .long gd])), (pr, .inr (3, [.ref bd, .int (nI t)])), (bd, .inl (cI, 6003, .inl bf)), (mk, .inr (0, [.int (mm + nI 1), .ref e9__99, .int (nI (n + 1))])), (os, .inr (0, [.int om, .ref em2, .int (nI k)]))] : va_W) ++ va_pl L2__97 g__98) _ := lp_Pl (va_P.swap (show va_P D vwCl ((([(x, .inr (5, [.ref pr, .ref mk, .ref os, .long ch, .long gd])), (pr, .inr (3, [.ref bd, .int (nI t)])), (bd, .inl (cI, 6003, .inl bf)), (mk, .inr (0, [.int (mm + nI 1), .ref e9__99, .int (nI (n + 1))])), (os, .inr (0, [.int om, .ref em2, .int (nI k)]))] : va_W) ++ ([(cc, .inl (cI, 30, .inl (nIf cg)))] : va_W)) ++ va_pl L2__97 g__98) _ from hP))
          refine vp_callSi (W.runV (As := [.int (nI n)]) (rest := []) ⟨hx, hb, hml, hown, hts⟩ (p_isInForce l D x pr mk os ch gd bd t cI bf (mm + nI 1) e9__99 (n + 1) om em2 k L2__97 g__98 cJ cO ca2__100 aa2__101 (upd fp n (nI pv)) (upd fs n (nI (ua / 7 % 100000))) (upd fr n (nI (ub / 3 % 200))) (va_up ff n (ub % 3)) fa (upd fz n (nI 1)) fi fu em n (by first | omega | assumption) (by first | omega | assumption) (by first | omega | assumption) hfzM) (cwV 1 hts gL_step_X5_isInForce rfl rfl rfl (by decide +kernel) ⟨Nat.le_of_ble_eq_true rfl, Nat.le_of_ble_eq_true rfl⟩) (z1_V (va_recv hK hPs (ci := 5) (q0 := 0) rfl rfl) hPs (hK.sub (tys' := [(cI, .int), (cJ, .long), (cO, .object "java/lang/Object")]) [0, 1, 2] rfl) hG) rfl rfl hl.1 rfl (lv_room (Nat.le_of_ble_eq_true rfl)) dL_step_190 ⟨Nat.le_of_ble_eq_true rfl, Nat.le_of_ble_eq_true rfl⟩) (fun r_109 e_r_109 => ?_)
          have e_r_109 : r_109 = nI 1 := e_r_109.trans (upd_same)
          replace e_r_109 := e_r_109.symm; subst e_r_109
          refine lv_if_eq (tgt := 214) hx hb dL_step_193 (by decide) (fun h9 => absurd h9 (by decide)) (fun _ => ?_)
          refine lv_aload_n hx hb dL_step_196 rfl (lv_at hl 1 rfl) ?_
          refine lv_aload_n hx hb dL_step_197 rfl (lv_at hl 2 rfl) ?_
          refine lv_iconst (v := nI 1) hx hb dL_step_198 (by decide) ?_
          refine zx_iald (D := D) hx hb hK hP 5 0 rfl rfl (v := nI (n + 1)) ((congrArg nI g1)) (by decide) (by first | decide | omega) dL_step_199 ?_
          refine lv_iconst (v := nI 1) hx hb dL_step_200 (by decide) ?_
          refine zx_isub (v := nI n) hx hb dL_step_201 ((pk_sub (by omega))) ?_
          have hPs : va_P D vwCl (([(x, .inr (5, [.ref pr, .ref mk, .ref os, .long ch, .long gd])), (pr, .inr (3, [.ref bd, .int (nI t)])), (bd, .inl (cI, 6003, .inl bf)), (mk, .inr (0, [.int (mm + nI 1), .ref e9__99, .int (nI (n + 1))])), (os, .inr (0, [.int om, .ref em2, .int (nI k)]))] : va_W) ++ va_pl L2__97 g__98) _ := lp_Pl (va_P.swap (show va_P D vwCl ((([(x, .inr (5, [.ref pr, .ref mk, .ref os, .long ch, .long gd])), (pr, .inr (3, [.ref bd, .int (nI t)])), (bd, .inl (cI, 6003, .inl bf)), (mk, .inr (0, [.int (mm + nI 1), .ref e9__99, .int (nI (n + 1))])), (os, .inr (0, [.int om, .ref em2, .int (nI k)]))] : va_W) ++ ([(cc, .inl (cI, 30, .inl (nIf cg)))] : va_W)) ++ va_pl L2__97 g__98) _ from hP))
          refine vp_callSl (W.runV (As := [.int (nI n)]) (rest := []) ⟨hx, hb, hml, hown, hts⟩ (p_worth l D x pr mk os ch gd bd t cI bf (mm + nI 1) e9__99 (n + 1) om em2 k L2__97 g__98 cJ cO ca2__100 aa2__101 (upd fp n (nI pv)) (upd fs n (nI (ua / 7 % 100000))) (upd fr n (nI (ub / 3 % 200))) (va_up ff n (ub % 3)) fa (upd fz n (nI 1)) fi fu em n (by first | omega | assumption) (by first | omega | assumption) (by first | omega | assumption) hffM nT) (cwV 1 hts gL_step_X5_worth rfl rfl rfl (by decide +kernel) ⟨Nat.le_of_ble_eq_true rfl, Nat.le_of_ble_eq_true rfl⟩) (z1_V (va_recv hK hPs (ci := 5) (q0 := 0) rfl rfl) hPs (hK.sub (tys' := [(cI, .int), (cJ, .long), (cO, .object "java/lang/Object")]) [0, 1, 2] rfl) hG) rfl rfl hl.1 rfl (lv_room (Nat.le_of_ble_eq_true rfl)) dL_step_202 ⟨Nat.le_of_ble_eq_true rfl, Nat.le_of_ble_eq_true rfl⟩) (fun r_110 e_r_110 => ?_)
          have e_r_110 : r_110 = 0 := e_r_110.trans ((by obtain ⟨z1, _, z3⟩ := nZR n (Nat.le_refl _); rw [z1, z3 0 (by decide), z3 1 (by decide), z3 2 (by decide)]; exact worth0))
          replace e_r_110 := e_r_110.symm; subst e_r_110
          refine lv_lconst (v := 0) hx hb dL_step_205 (by decide) ?_
          refine zx_lcmp_ne (tgt := 214) hx hb dL_step_206 dL_step_207 (by decide) (fun h9 => absurd rfl h9) (fun _ => ?_)
          refine lv_iconst (v := nI 1) hx hb dL_step_210 (by decide) ?_
          refine lv_goto (tgt := 215) hx hb dL_step_211 (by decide) ?_
          subst hAe
          exact zretBz hx hb hr hlocks (fun t9 ht hv => ⟨ch, gd, t, bf, (mm + nI 1), e9__99, (n + 1), om, em2, k, fb, (upd fp n (nI pv)), (upd fs n (nI (ua / 7 % 100000))), (upd fr n (nI (ub / 3 % 200))), (va_up ff n (ub % 3)), fa, (upd fz n (nI 1)), fi, fu, fo, fq, fx, fy, cg, L2__97, g__98, ca2__100, aa2__101, oa, (NN.up hM hB1), hbi, hp_104, hp_105, hp_106, hp_107, hp_108, by rw [ht]; exact hP, va_K.moved hv (hK.sub [0, 1, 2] rfl), hD⟩) hS dL_step_215 (Nat.le_of_ble_eq_true rfl) (Nat.le_of_ble_eq_true rfl) rfl (rfl)
        · refine lv_if_ne (tgt := 121) hx hb dL_step_113 (by decide) (fun c_113 => ?_) (fun c_113 => ?_)
          · skip
            refine lv_sipush (v := nI 5000) hx hb dL_step_121 (by decide) ?_
            exact j_z_96 _ (by rw [if_neg c_113])
          · skip
            refine lv_ldc (v := nI 99901) hx hb hown k_1 dL_step_116 ?_
            refine lv_goto (tgt := 124) hx hb dL_step_118 (by decide) ?_
            exact j_z_96 _ (by rw [if_pos c_113])
      · skip
        have n_81 : n = 6 := (nI_eq (a := n) (b := 6) (by omega) (by omega)).mp c_81
        refine lv_aload_n hx hb dL_step_84 rfl (lv_at hl 1 rfl) ?_
        refine vp_callSi (W.runV (As := []) (rest := []) ⟨hx, hb, hml, hown, hts⟩ (m_X5_contracts_ok l D x pr mk os ch gd mm em1 n) (cwV 0 hts gL_step_X5_contracts rfl rfl rfl (by decide +kernel) ⟨Nat.le_of_ble_eq_true rfl, Nat.le_of_ble_eq_true rfl⟩) (z1_V (va_recv hK hP (ci := 5) (q0 := 0) rfl rfl) (hP.sub (ws' := [(x, .inr (5, [.ref pr, .ref mk, .ref os, .long ch, .long gd])), (mk, .inr (0, [.int mm, .ref em1, .int (nI n)]))]) [0, 3] rfl) (hK.sub (tys' := []) [] rfl) hG) rfl rfl hl.1 rfl (lv_room (Nat.le_of_ble_eq_true rfl)) dL_step_85 ⟨Nat.le_of_ble_eq_true rfl, Nat.le_of_ble_eq_true rfl⟩) (fun r_111 e_r_111 => ?_)
        replace e_r_111 := e_r_111.symm; subst e_r_111
        refine lv_bipush (v := nI 6) hx hb dL_step_88 (by decide) ?_
        refine lv_icmp_ne (tgt := 97) hx hb dL_step_90 (by decide) (fun h9 => absurd ((nI_eq (a := n) (b := 6) (by omega) (by omega)).mpr (by omega)) h9) (fun _ => ?_)
        refine lv_iconst (v := nI 1) hx hb dL_step_93 (by decide) ?_
        refine lv_goto (tgt := 98) hx hb dL_step_94 (by decide) ?_
        subst hAe
        exact zretBz hx hb hr hlocks (fun t9 ht hv => ⟨ch, gd, t, bf, mm, em1, n, om, em2, k, fb, fp, fs, fr, ff, fa, fz, fi, fu, fo, fq, fx, fy, cf, L, f, ca, aa, oa, NN.up hNN hB1, hbi, hCI, hOI, hU1, hU2, hneL, by rw [ht]; exact hP, va_K.moved hv (hK.sub [0, 1, 2] rfl), hD⟩) hS dL_step_98 (Nat.le_of_ble_eq_true rfl) (Nat.le_of_ble_eq_true rfl) rfl (rfl)
    · skip
      refine zx_tab (j := wh % 13) (tgt := 216) hx hb dL_step_21 (by omega) (by omega) (by rcases (show wh % 13 = 1 ∨ wh % 13 = 2 ∨ wh % 13 = 3 by omega) with e13 | e13 | e13 <;> rw [e13] <;> rfl) (by decide) ?_
      refine lv_aload_n hx hb dL_step_216 rfl (lv_at hl 2 rfl) ?_
      refine lv_iconst (v := nI 1) hx hb dL_step_217 (by decide) ?_
      refine zx_iald (D := D) hx hb hK hP 5 0 rfl rfl (v := nI n) ((congrArg nI c1)) (by decide) (by first | decide | omega) dL_step_218 ?_
      refine lv_if_eq (tgt := 231) hx hb dL_step_219 (by decide) (fun h9 => absurd h9 (fun h8 => absurd ((nI_eq (a := n) (b := 0) (by omega) (by omega)).mp h8) (by omega))) (fun _ => ?_)
      refine lv_aload_n hx hb dL_step_222 rfl (lv_at hl 1 rfl) ?_
      refine lv_iload hx hb dL_step_223 (lv_at hl 0 rfl) ?_
      have hPs : va_P D vwCl (([(x, .inr (5, [.ref pr, .ref mk, .ref os, .long ch, .long gd])), (pr, .inr (3, [.ref bd, .int (nI t)])), (bd, .inl (cI, 6003, .inl bf)), (mk, .inr (0, [.int mm, .ref em1, .int (nI n)])), (os, .inr (0, [.int om, .ref em2, .int (nI k)]))] : va_W) ++ va_pl L f) _ := lp_Pl (va_P.swap (show va_P D vwCl ((([(x, .inr (5, [.ref pr, .ref mk, .ref os, .long ch, .long gd])), (pr, .inr (3, [.ref bd, .int (nI t)])), (bd, .inl (cI, 6003, .inl bf)), (mk, .inr (0, [.int mm, .ref em1, .int (nI n)])), (os, .inr (0, [.int om, .ref em2, .int (nI k)]))] : va_W) ++ ([(cc, .inl (cI, 30, .inl (nIf cf)))] : va_W)) ++ va_pl L f) _ from hP))
      refine vp_callSi (W.runV (As := [.int (nI kc)]) (rest := []) ⟨hx, hb, hml, hown, hts⟩ (p_isInForce l D x pr mk os ch gd bd t cI bf mm em1 n om em2 k L f cJ cO ca aa fp fs fr ff fa fz fi fu em kc (by first | omega | assumption) (by first | omega | assumption) (by first | omega | assumption) nFZ) (cwV 1 hts gL_step_X5_isInForce rfl rfl rfl (by decide +kernel) ⟨Nat.le_of_ble_eq_true rfl, Nat.le_of_ble_eq_true rfl⟩) (z1_V (va_recv hK hPs (ci := 5) (q0 := 0) rfl rfl) hPs (hK.sub (tys' := [(cI, .int), (cJ, .long), (cO, .object "java/lang/Object")]) [0, 1, 2] rfl) hG) rfl rfl hl.1 rfl (lv_room (Nat.le_of_ble_eq_true rfl)) dL_step_225 ⟨Nat.le_of_ble_eq_true rfl, Nat.le_of_ble_eq_true rfl⟩) (fun r_112 e_r_112 => ?_)
      replace e_r_112 := e_r_112.symm; subst e_r_112
      refine lv_if_ne (tgt := 254) hx hb dL_step_228 (by decide) (fun c_228 => ?_) (fun c_228 => ?_)
      · skip
        have hal : fz kc = nI 1 := (nFZ kc hkc).elim (fun q => absurd q c_228) id
        refine lv_aload_n hx hb dL_step_254 rfl (lv_at hl 2 rfl) ?_
        refine lv_iconst (v := nI 2) hx hb dL_step_255 (by decide) ?_
        refine lv_dup2_11 hx hb dL_step_256 rfl rfl ?_
        refine zx_iald (D := D) hx hb hK hP 5 0 rfl rfl (v := nI k) ((congrArg nI c2)) (by decide) (by first | decide | omega) dL_step_257 ?_
        refine lv_iconst (v := nI 1) hx hb dL_step_258 (by decide) ?_
        refine zx_iadd (v := nI (k + 1)) hx hb dL_step_259 (nI_add _ _) ?_
        refine zx_nast (D := D) hx hb hK hP hD hS 5 0 rfl rfl (by decide) (by decide) dL_step_260 (fun H locs hP hD hS => ?_)
        have hP : va_P D vwCl (([(x, .inr (5, [.ref pr, .ref mk, .ref os, .long ch, .long gd])), (pr, .inr (3, [.ref bd, .int (nI t)])), (bd, .inl (cI, 6003, .inl bf)), (mk, .inr (0, [.int mm, .ref em1, .int (nI n)])), (os, .inr (0, [.int om, .ref em2, .int (nI k)])), (cc, .inl (cI, 30, .inl (nIf (va_up cf 2 (k + 1)))))] : va_W) ++ va_pl L f) H := hP
        have hD : va_D A (([(x, .inr (5, [.ref pr, .ref mk, .ref os, .long ch, .long gd])), (pr, .inr (3, [.ref bd, .int (nI t)])), (bd, .inl (cI, 6003, .inl bf)), (mk, .inr (0, [.int mm, .ref em1, .int (nI n)])), (os, .inr (0, [.int om, .ref em2, .int (nI k)])), (cc, .inl (cI, 30, .inl (nIf (va_up cf 2 (k + 1)))))] : va_W) ++ va_pl L f) := hD
        refine lv_aload_n hx hb dL_step_261 rfl (lv_at hl 2 rfl) ?_
        refine lv_bipush (v := nI 24) hx hb dL_step_262 (by decide) ?_
        refine lv_iload hx hb dL_step_264 (lv_at hl 0 rfl) ?_
        refine zx_iadd (v := nI (24 + kc)) hx hb dL_step_266 (nI_add _ _) ?_
        refine lv_dup2_11 hx hb dL_step_267 rfl rfl ?_
        refine zx_iald (D := D) hx hb hK hP 5 0 rfl rfl (v := nI (cf (24 + kc))) ((congrArg nI (up_ne (by omega)))) (by omega) (by first | decide | omega) dL_step_268 ?_
        refine lv_iconst (v := nI 1) hx hb dL_step_269 (by decide) ?_
        refine zx_iadd (v := nI ((cf (24 + kc)) + 1)) hx hb dL_step_270 (nI_add _ _) ?_
        refine zx_nast (D := D) hx hb hK hP hD hS 5 0 rfl rfl (by omega) (by decide) dL_step_271 (fun H locs hP hD hS => ?_)
        have hP : va_P D vwCl (([(x, .inr (5, [.ref pr, .ref mk, .ref os, .long ch, .long gd])), (pr, .inr (3, [.ref bd, .int (nI t)])), (bd, .inl (cI, 6003, .inl bf)), (mk, .inr (0, [.int mm, .ref em1, .int (nI n)])), (os, .inr (0, [.int om, .ref em2, .int (nI k)])), (cc, .inl (cI, 30, .inl (nIf (va_up (va_up cf 2 (k + 1)) (24 + kc) ((cf (24 + kc)) + 1)))))] : va_W) ++ va_pl L f) H := hP
        have hD : va_D A (([(x, .inr (5, [.ref pr, .ref mk, .ref os, .long ch, .long gd])), (pr, .inr (3, [.ref bd, .int (nI t)])), (bd, .inl (cI, 6003, .inl bf)), (mk, .inr (0, [.int mm, .ref em1, .int (nI n)])), (os, .inr (0, [.int om, .ref em2, .int (nI k)])), (cc, .inl (cI, 30, .inl (nIf (va_up (va_up cf 2 (k + 1)) (24 + kc) ((cf (24 + kc)) + 1)))))] : va_W) ++ va_pl L f) := hD
        obtain ⟨cg, hcg⟩ : ∃ q : Nat → Nat, q = (va_up (va_up cf 2 (k + 1)) (24 + kc) ((cf (24 + kc)) + 1)) := ⟨_, rfl⟩
        rw [← hcg] at hP hD
        have g2 : cg 2 = k + 1 := (by rw [hcg]; (repeat (first | rw [up_same] | rw [up_ne (by omega)])))
        have hP : va_P D vwCl (([(x, .inr (5, [.ref pr, .ref mk, .ref os, .long ch, .long gd])), (pr, .inr (3, [.ref bd, .int (nI t)])), (bd, .inl (cI, 6003, .inl bf)), (mk, .inr (0, [.int mm, .ref em1, .int (nI n)])), (os, .inr (0, [.int om, .ref em2, .int (nI k)])), (cc, .inl (cI, 30, .inl (nIf cg)))] : va_W) ++ va_pl L f) H := hP
        have hD : va_D A (([(x, .inr (5, [.ref pr, .ref mk, .ref os, .long ch, .long gd])), (pr, .inr (3, [.ref bd, .int (nI t)])), (bd, .inl (cI, 6003, .inl bf)), (mk, .inr (0, [.int mm, .ref em1, .int (nI n)])), (os, .inr (0, [.int om, .ref em2, .int (nI k)])), (cc, .inl (cI, 30, .inl (nIf cg)))] : va_W) ++ va_pl L f) := hD
        have gk : ∀ j : Nat, j < 6 → cg (24 + j) = cf (24 + j) + (if kc = j ∧ ((-1 : Int32) = (-1)) then 1 else 0) := by rw [hcg]; exact pay_k
        have gr : ∀ z : Nat, z ≠ 2 → z < 24 → cg z = cf z := fun z hz hz2 => (by rw [hcg]; (repeat (first | rw [up_same] | rw [up_ne (by omega)])))
        refine lv_aload_n hx hb dL_step_272 rfl (lv_at hl 1 rfl) ?_
        refine lv_iload hx hb dL_step_273 (lv_at hl 0 rfl) ?_
        have hP : va_P D vwCl ((([(x, .inr (5, [.ref pr, .ref mk, .ref os, .long ch, .long gd])), (pr, .inr (3, [.ref bd, .int (nI t)])), (bd, .inl (cI, 6003, .inl bf)), (mk, .inr (0, [.int mm, .ref em1, .int (nI n)])), (os, .inr (0, [.int om, .ref em2, .int (nI k)]))] : va_W) ++ ([(cc, .inl (cI, 30, .inl (nIf cg)))] : va_W)) ++ va_pl L f) _ := hP
        have hD : va_D A ((([(x, .inr (5, [.ref pr, .ref mk, .ref os, .long ch, .long gd])), (pr, .inr (3, [.ref bd, .int (nI t)])), (bd, .inl (cI, 6003, .inl bf)), (mk, .inr (0, [.int mm, .ref em1, .int (nI n)])), (os, .inr (0, [.int om, .ref em2, .int (nI k)]))] : va_W) ++ ([(cc, .inl (cI, 30, .inl (nIf cg)))] : va_W)) ++ va_pl L f) := hD
        have hP := hP.swap
        have hD := hD.swap
        have hPc : va_P D vwCl (([(x, .inr (5, [.ref pr, .ref mk, .ref os, .long ch, .long gd])), (pr, .inr (3, [.ref bd, .int (nI t)])), (bd, .inl (cI, 6003, .inl bf)), (mk, .inr (0, [.int mm, .ref em1, .int (nI n)])), (os, .inr (0, [.int om, .ref em2, .int (nI k)]))] : va_W) ++ va_pl L f) _ := lp_Pl hP
        have hDc : va_D A (([(x, .inr (5, [.ref pr, .ref mk, .ref os, .long ch, .long gd])), (pr, .inr (3, [.ref bd, .int (nI t)])), (bd, .inl (cI, 6003, .inl bf)), (mk, .inr (0, [.int mm, .ref em1, .int (nI n)])), (os, .inr (0, [.int om, .ref em2, .int (nI k)]))] : va_W) ++ va_pl L f) := lp_Dl hD
        have hF_118 := lp_F2 hD hS hA
        refine va_calli (va_runV (As := [.int (nI kc)]) (rest := []) ⟨hx, hb, hml, hown, hts⟩ (p_pay l D x pr mk os ch gd bd t cI bf mm em1 n om em2 k L f cJ cO ca aa fp fs fr ff fa fz fi fu em oa fo fq fx fy fb kc (by first | omega | assumption) (by first | omega | assumption) (by first | omega | assumption) (by first | omega | assumption) (by first | omega | assumption) (by first | omega | assumption) (by first | omega | assumption) (by first | omega | assumption) (by first | omega | assumption) _) (cwV 1 hts gL_step_X5_pay rfl rfl rfl (by decide +kernel) ⟨Nat.le_of_ble_eq_true rfl, Nat.le_of_ble_eq_true rfl⟩) (zq_V XM.hs (va_recv hK hPc (ci := 5) (q0 := 0) rfl rfl) hPc (hK.sub (tys' := [(cI, .int), (cJ, .long), (cO, .object "java/lang/Object")]) [0, 1, 2] rfl) hDc hG (hHS.go hS (lp_F2 hD hS hA))) rfl rfl hl.1 rfl (lv_room (Nat.le_of_ble_eq_true rfl)) dL_step_275 ⟨Nat.le_of_ble_eq_true rfl, Nat.le_of_ble_eq_true rfl⟩) hS (fun q _ h => hF_118 q h) hF_118 (fun ra_117 u9 t1 H locs ht1 hvm hw hB hz1 hk1 hS => ?_)
        obtain ⟨L2__113, g__114, e9__115, oa2__116, hp_119, hp_120, hp_121, hp_122, hp_123, hP1, hK1, hD1⟩ := hB
        rw [ht1] at hP1
        obtain ⟨hP, hD⟩ := lp_front (w1 := (([(x, .inr (5, [.ref pr, .ref mk, .ref os, .long ch, .long gd])), (pr, .inr (3, [.ref bd, .int (nI t)])), (bd, .inl (cI, 6003, .inl bf)), (mk, .inr (0, [.int mm, .ref em1, .int (nI n)])), (os, .inr (0, [.int (om + nI 1), .ref e9__115, .int (nI (k + 1))]))] : va_W) ++ va_pl L2__113 g__114)) (R9 := [(cc, .inl (cI, 30, .inl (nIf cg)))]) hP hD hF_118 hk1 hP1 hD1
        have hP := hP.swap
        have hD := hD.swap
        have hP : va_P D vwCl (([(x, .inr (5, [.ref pr, .ref mk, .ref os, .long ch, .long gd])), (pr, .inr (3, [.ref bd, .int (nI t)])), (bd, .inl (cI, 6003, .inl bf)), (mk, .inr (0, [.int mm, .ref em1, .int (nI n)])), (os, .inr (0, [.int (om + nI 1), .ref e9__115, .int (nI (k + 1))])), (cc, .inl (cI, 30, .inl (nIf cg)))] : va_W) ++ va_pl L2__113 g__114) H := hP
        have hD : va_D A (([(x, .inr (5, [.ref pr, .ref mk, .ref os, .long ch, .long gd])), (pr, .inr (3, [.ref bd, .int (nI t)])), (bd, .inl (cI, 6003, .inl bf)), (mk, .inr (0, [.int mm, .ref em1, .int (nI n)])), (os, .inr (0, [.int (om + nI 1), .ref e9__115, .int (nI (k + 1))])), (cc, .inl (cI, 30, .inl (nIf cg)))] : va_W) ++ va_pl L2__113 g__114) := hD
        refine W.widen (k := 2) (n := 804) (by decide) (by decide) ?_
        subst hw
        refine lv_aload_n hx hb dL_step_278 rfl (lv_at hl 2 rfl) ?_
        refine lv_iconst (v := nI 2) hx hb dL_step_279 (by decide) ?_
        refine zx_iald (D := D) hx hb hK hP 5 0 rfl rfl (v := nI (k + 1)) ((congrArg nI g2)) (by decide) (by first | decide | omega) dL_step_280 ?_
        refine lv_icmp_ne (tgt := 314) hx hb dL_step_281 (by decide) (fun h9 => absurd ((nI_eq (a := k + 1) (b := k + 1) (by omega) (by omega)).mpr (by omega)) h9) (fun _ => ?_)
        refine lv_aload_n hx hb dL_step_284 rfl (lv_at hl 1 rfl) ?_
        refine vp_callSi (W.runV (As := []) (rest := []) ⟨hx, hb, hml, hown, hts⟩ (m_X5_waiting_ok l D x pr mk os ch gd (om + nI 1) e9__115 (k + 1)) (cwV 0 hts gL_step_X5_waiting rfl rfl rfl (by decide +kernel) ⟨Nat.le_of_ble_eq_true rfl, Nat.le_of_ble_eq_true rfl⟩) (z1_V (va_recv hK hP (ci := 5) (q0 := 0) rfl rfl) (hP.sub (ws' := [(x, .inr (5, [.ref pr, .ref mk, .ref os, .long ch, .long gd])), (os, .inr (0, [.int (om + nI 1), .ref e9__115, .int (nI (k + 1))]))]) [0, 4] rfl) (hK.sub (tys' := []) [] rfl) hG) rfl rfl hl.1 rfl (lv_room (Nat.le_of_ble_eq_true rfl)) dL_step_285 ⟨Nat.le_of_ble_eq_true rfl, Nat.le_of_ble_eq_true rfl⟩) (fun r_124 e_r_124 => ?_)
        replace e_r_124 := e_r_124.symm; subst e_r_124
        refine lv_aload_n hx hb dL_step_288 rfl (lv_at hl 2 rfl) ?_
        refine lv_iconst (v := nI 2) hx hb dL_step_289 (by decide) ?_
        refine zx_iald (D := D) hx hb hK hP 5 0 rfl rfl (v := nI (k + 1)) ((congrArg nI g2)) (by decide) (by first | decide | omega) dL_step_290 ?_
        refine lv_icmp_ne (tgt := 314) hx hb dL_step_291 (by decide) (fun h9 => absurd ((nI_eq (a := k + 1) (b := k + 1) (by omega) (by omega)).mpr (by omega)) h9) (fun _ => ?_)
        refine lv_aload_n hx hb dL_step_294 rfl (lv_at hl 1 rfl) ?_
        refine lv_iload hx hb dL_step_295 (lv_at hl 0 rfl) ?_
        have hPs : va_P D vwCl (([(x, .inr (5, [.ref pr, .ref mk, .ref os, .long ch, .long gd])), (pr, .inr (3, [.ref bd, .int (nI t)])), (bd, .inl (cI, 6003, .inl bf)), (mk, .inr (0, [.int mm, .ref em1, .int (nI n)])), (os, .inr (0, [.int (om + nI 1), .ref e9__115, .int (nI (k + 1))]))] : va_W) ++ va_pl L2__113 g__114) _ := lp_Pl (va_P.swap (show va_P D vwCl ((([(x, .inr (5, [.ref pr, .ref mk, .ref os, .long ch, .long gd])), (pr, .inr (3, [.ref bd, .int (nI t)])), (bd, .inl (cI, 6003, .inl bf)), (mk, .inr (0, [.int mm, .ref em1, .int (nI n)])), (os, .inr (0, [.int (om + nI 1), .ref e9__115, .int (nI (k + 1))]))] : va_W) ++ ([(cc, .inl (cI, 30, .inl (nIf cg)))] : va_W)) ++ va_pl L2__113 g__114) _ from hP))
        refine vp_callSi (W.runV (As := [.int (nI kc)]) (rest := []) ⟨hx, hb, hml, hown, hts⟩ (p_paid l D x pr mk os ch gd bd t cI bf mm em1 n (om + nI 1) e9__115 (k + 1) L2__113 g__114 cJ cO ca aa fp fs fr ff fa fz fi fu em kc (by first | omega | assumption) (by first | omega | assumption) (by first | omega | assumption)) (cwV 1 hts gL_step_X5_paid rfl rfl rfl (by decide +kernel) ⟨Nat.le_of_ble_eq_true rfl, Nat.le_of_ble_eq_true rfl⟩) (z1_V (va_recv hK hPs (ci := 5) (q0 := 0) rfl rfl) hPs (hK.sub (tys' := [(cI, .int), (cJ, .long), (cO, .object "java/lang/Object")]) [0, 1, 2] rfl) hG) rfl rfl hl.1 rfl (lv_room (Nat.le_of_ble_eq_true rfl)) dL_step_297 ⟨Nat.le_of_ble_eq_true rfl, Nat.le_of_ble_eq_true rfl⟩) (fun r_125 e_r_125 => ?_)
        replace e_r_125 := e_r_125.symm; subst e_r_125
        refine lv_aload_n hx hb dL_step_300 rfl (lv_at hl 2 rfl) ?_
        refine lv_bipush (v := nI 18) hx hb dL_step_301 (by decide) ?_
        refine lv_iload hx hb dL_step_303 (lv_at hl 0 rfl) ?_
        refine zx_iadd (v := nI (18 + kc)) hx hb dL_step_305 (nI_add _ _) ?_
        refine zx_iald (D := D) hx hb hK hP 5 0 rfl rfl (v := nI (fa kc)) ((congrArg nI ((gr _ (by omega) (by omega)).trans (c5 kc (by omega)).1))) (by omega) (by first | decide | omega) dL_step_306 ?_
        refine lv_icmp_ne (tgt := 314) hx hb dL_step_307 (by decide) (fun h9 => absurd ((nI_eq (a := fa kc) (b := fa kc) (by omega) (by omega)).mpr (by omega)) h9) (fun _ => ?_)
        refine lv_iconst (v := nI 1) hx hb dL_step_310 (by decide) ?_
        refine lv_goto (tgt := 315) hx hb dL_step_311 (by decide) ?_
        subst hAe
        exact zretBz hx hb hr hlocks (fun t9 ht hv => ⟨ch, gd, t, bf, mm, em1, n, (om + nI 1), e9__115, (k + 1), fb, fp, fs, fr, ff, fa, fz, fi, fu, (va_up fo k kc), (upd fq k (-1)), (va_up fx k 0), (va_up fy k 0), cg, L2__113, g__114, ca, aa, oa2__116, (NN_ord hNN hB1 hkc hal (by omega) (by omega) (.inl rfl) g2 gk gr), hbi, hp_119, hp_120, hp_121, hp_122, hp_123, by rw [ht]; exact hP, va_K.moved hv (hK.sub [0, 1, 2] rfl), hD⟩) hS dL_step_315 (Nat.le_of_ble_eq_true rfl) (Nat.le_of_ble_eq_true rfl) rfl (rfl)
      · skip
        refine lv_aload_n hx hb dL_step_231 rfl (lv_at hl 2 rfl) ?_
        refine lv_iconst (v := nI 1) hx hb dL_step_232 (by decide) ?_
        refine zx_iald (D := D) hx hb hK hP 5 0 rfl rfl (v := nI n) ((congrArg nI c1)) (by decide) (by first | decide | omega) dL_step_233 ?_
        refine lv_if_eq (tgt := 248) hx hb dL_step_234 (by decide) (fun h9 => absurd h9 (fun h8 => absurd ((nI_eq (a := n) (b := 0) (by omega) (by omega)).mp h8) (by omega))) (fun _ => ?_)
        refine lv_aload_n hx hb dL_step_237 rfl (lv_at hl 1 rfl) ?_
        refine lv_iload hx hb dL_step_238 (lv_at hl 0 rfl) ?_
        have hPs : va_P D vwCl (([(x, .inr (5, [.ref pr, .ref mk, .ref os, .long ch, .long gd])), (pr, .inr (3, [.ref bd, .int (nI t)])), (bd, .inl (cI, 6003, .inl bf)), (mk, .inr (0, [.int mm, .ref em1, .int (nI n)])), (os, .inr (0, [.int om, .ref em2, .int (nI k)]))] : va_W) ++ va_pl L f) _ := lp_Pl (va_P.swap (show va_P D vwCl ((([(x, .inr (5, [.ref pr, .ref mk, .ref os, .long ch, .long gd])), (pr, .inr (3, [.ref bd, .int (nI t)])), (bd, .inl (cI, 6003, .inl bf)), (mk, .inr (0, [.int mm, .ref em1, .int (nI n)])), (os, .inr (0, [.int om, .ref em2, .int (nI k)]))] : va_W) ++ ([(cc, .inl (cI, 30, .inl (nIf cf)))] : va_W)) ++ va_pl L f) _ from hP))
        refine vp_callSl (W.runV (As := [.int (nI kc)]) (rest := []) ⟨hx, hb, hml, hown, hts⟩ (p_worth l D x pr mk os ch gd bd t cI bf mm em1 n om em2 k L f cJ cO ca aa fp fs fr ff fa fz fi fu em kc (by first | omega | assumption) (by first | omega | assumption) (by first | omega | assumption) nFF nT) (cwV 1 hts gL_step_X5_worth rfl rfl rfl (by decide +kernel) ⟨Nat.le_of_ble_eq_true rfl, Nat.le_of_ble_eq_true rfl⟩) (z1_V (va_recv hK hPs (ci := 5) (q0 := 0) rfl rfl) hPs (hK.sub (tys' := [(cI, .int), (cJ, .long), (cO, .object "java/lang/Object")]) [0, 1, 2] rfl) hG) rfl rfl hl.1 rfl (lv_room (Nat.le_of_ble_eq_true rfl)) dL_step_240 ⟨Nat.le_of_ble_eq_true rfl, Nat.le_of_ble_eq_true rfl⟩) (fun r_126 e_r_126 => ?_)
        have e_r_126 : r_126 = 0 := e_r_126.trans ((by obtain ⟨z1, z3⟩ := (nNC kc hkc).2.2 c_228; rw [z1, z3 0 (by decide), z3 1 (by decide), z3 2 (by decide)]; exact worth0))
        replace e_r_126 := e_r_126.symm; subst e_r_126
        refine lv_lconst (v := 0) hx hb dL_step_243 (by decide) ?_
        refine zx_lcmp_ne (tgt := 252) hx hb dL_step_244 dL_step_245 (by decide) (fun h9 => absurd rfl h9) (fun _ => ?_)
        refine lv_iconst (v := nI 1) hx hb dL_step_248 (by decide) ?_
        refine lv_goto (tgt := 253) hx hb dL_step_249 (by decide) ?_
        subst hAe
        exact zretBz hx hb hr hlocks (fun t9 ht hv => ⟨ch, gd, t, bf, mm, em1, n, om, em2, k, fb, fp, fs, fr, ff, fa, fz, fi, fu, fo, fq, fx, fy, cf, L, f, ca, aa, oa, NN.up hNN hB1, hbi, hCI, hOI, hU1, hU2, hneL, by rw [ht]; exact hP, va_K.moved hv (hK.sub [0, 1, 2] rfl), hD⟩) hS dL_step_253 (Nat.le_of_ble_eq_true rfl) (Nat.le_of_ble_eq_true rfl) rfl (rfl)
    · skip
      refine zx_tab (j := wh % 13) (tgt := 316) hx hb dL_step_21 (by omega) (by omega) (by rw [h13]; rfl) (by decide) ?_
      refine lv_aload_n hx hb dL_step_316 rfl (lv_at hl 2 rfl) ?_
      refine lv_iconst (v := nI 1) hx hb dL_step_317 (by decide) ?_
      refine zx_iald (D := D) hx hb hK hP 5 0 rfl rfl (v := nI n) ((congrArg nI c1)) (by decide) (by first | decide | omega) dL_step_318 ?_
      refine lv_if_eq (tgt := 331) hx hb dL_step_319 (by decide) (fun h9 => absurd h9 (fun h8 => absurd ((nI_eq (a := n) (b := 0) (by omega) (by omega)).mp h8) (by omega))) (fun _ => ?_)
      refine lv_aload_n hx hb dL_step_322 rfl (lv_at hl 1 rfl) ?_
      refine lv_iload hx hb dL_step_323 (lv_at hl 0 rfl) ?_
      have hPs : va_P D vwCl (([(x, .inr (5, [.ref pr, .ref mk, .ref os, .long ch, .long gd])), (pr, .inr (3, [.ref bd, .int (nI t)])), (bd, .inl (cI, 6003, .inl bf)), (mk, .inr (0, [.int mm, .ref em1, .int (nI n)])), (os, .inr (0, [.int om, .ref em2, .int (nI k)]))] : va_W) ++ va_pl L f) _ := lp_Pl (va_P.swap (show va_P D vwCl ((([(x, .inr (5, [.ref pr, .ref mk, .ref os, .long ch, .long gd])), (pr, .inr (3, [.ref bd, .int (nI t)])), (bd, .inl (cI, 6003, .inl bf)), (mk, .inr (0, [.int mm, .ref em1, .int (nI n)])), (os, .inr (0, [.int om, .ref em2, .int (nI k)]))] : va_W) ++ ([(cc, .inl (cI, 30, .inl (nIf cf)))] : va_W)) ++ va_pl L f) _ from hP))
      refine vp_callSi (W.runV (As := [.int (nI kc)]) (rest := []) ⟨hx, hb, hml, hown, hts⟩ (p_isInForce l D x pr mk os ch gd bd t cI bf mm em1 n om em2 k L f cJ cO ca aa fp fs fr ff fa fz fi fu em kc (by first | omega | assumption) (by first | omega | assumption) (by first | omega | assumption) nFZ) (cwV 1 hts gL_step_X5_isInForce rfl rfl rfl (by decide +kernel) ⟨Nat.le_of_ble_eq_true rfl, Nat.le_of_ble_eq_true rfl⟩) (z1_V (va_recv hK hPs (ci := 5) (q0 := 0) rfl rfl) hPs (hK.sub (tys' := [(cI, .int), (cJ, .long), (cO, .object "java/lang/Object")]) [0, 1, 2] rfl) hG) rfl rfl hl.1 rfl (lv_room (Nat.le_of_ble_eq_true rfl)) dL_step_325 ⟨Nat.le_of_ble_eq_true rfl, Nat.le_of_ble_eq_true rfl⟩) (fun r_127 e_r_127 => ?_)
      replace e_r_127 := e_r_127.symm; subst e_r_127
      refine lv_if_ne (tgt := 347) hx hb dL_step_328 (by decide) (fun c_328 => ?_) (fun c_328 => ?_)
      · skip
        have hal : fz kc = nI 1 := (nFZ kc hkc).elim (fun q => absurd q c_328) id
        refine lv_aload_n hx hb dL_step_347 rfl (lv_at hl 2 rfl) ?_
        refine lv_iconst (v := nI 2) hx hb dL_step_348 (by decide) ?_
        refine lv_dup2_11 hx hb dL_step_349 rfl rfl ?_
        refine zx_iald (D := D) hx hb hK hP 5 0 rfl rfl (v := nI k) ((congrArg nI c2)) (by decide) (by first | decide | omega) dL_step_350 ?_
        refine lv_iconst (v := nI 1) hx hb dL_step_351 (by decide) ?_
        refine zx_iadd (v := nI (k + 1)) hx hb dL_step_352 (nI_add _ _) ?_
        refine zx_nast (D := D) hx hb hK hP hD hS 5 0 rfl rfl (by decide) (by decide) dL_step_353 (fun H locs hP hD hS => ?_)
        have hP : va_P D vwCl (([(x, .inr (5, [.ref pr, .ref mk, .ref os, .long ch, .long gd])), (pr, .inr (3, [.ref bd, .int (nI t)])), (bd, .inl (cI, 6003, .inl bf)), (mk, .inr (0, [.int mm, .ref em1, .int (nI n)])), (os, .inr (0, [.int om, .ref em2, .int (nI k)])), (cc, .inl (cI, 30, .inl (nIf (va_up cf 2 (k + 1)))))] : va_W) ++ va_pl L f) H := hP
        have hD : va_D A (([(x, .inr (5, [.ref pr, .ref mk, .ref os, .long ch, .long gd])), (pr, .inr (3, [.ref bd, .int (nI t)])), (bd, .inl (cI, 6003, .inl bf)), (mk, .inr (0, [.int mm, .ref em1, .int (nI n)])), (os, .inr (0, [.int om, .ref em2, .int (nI k)])), (cc, .inl (cI, 30, .inl (nIf (va_up cf 2 (k + 1)))))] : va_W) ++ va_pl L f) := hD
        have h4 : k_isIn (nI (1 + ub / 3 % 100)) (nI 1) (nI 100) = nI 1 := k_isIn1 (by omega) (by omega) (by omega)
        obtain ⟨cg, hcg⟩ : ∃ q : Nat → Nat, q = (va_up cf 2 (k + 1)) := ⟨_, rfl⟩
        rw [← hcg] at hP hD
        have g2 : cg 2 = k + 1 := (by rw [hcg]; (repeat (first | rw [up_same] | rw [up_ne (by omega)])))
        have hP : va_P D vwCl (([(x, .inr (5, [.ref pr, .ref mk, .ref os, .long ch, .long gd])), (pr, .inr (3, [.ref bd, .int (nI t)])), (bd, .inl (cI, 6003, .inl bf)), (mk, .inr (0, [.int mm, .ref em1, .int (nI n)])), (os, .inr (0, [.int om, .ref em2, .int (nI k)])), (cc, .inl (cI, 30, .inl (nIf cg)))] : va_W) ++ va_pl L f) H := hP
        have hD : va_D A (([(x, .inr (5, [.ref pr, .ref mk, .ref os, .long ch, .long gd])), (pr, .inr (3, [.ref bd, .int (nI t)])), (bd, .inl (cI, 6003, .inl bf)), (mk, .inr (0, [.int mm, .ref em1, .int (nI n)])), (os, .inr (0, [.int om, .ref em2, .int (nI k)])), (cc, .inl (cI, 30, .inl (nIf cg)))] : va_W) ++ va_pl L f) := hD
        have gk : ∀ j : Nat, j < 6 → cg (24 + j) = cf (24 + j) + (if kc = j ∧ (nI (1 + ub / 3 % 100) = (-1)) then 1 else 0) := by rw [hcg]; exact chg_k (k_pct h4)
        have gr : ∀ z : Nat, z ≠ 2 → z < 24 → cg z = cf z := fun z hz hz2 => (by rw [hcg]; (repeat (first | rw [up_same] | rw [up_ne (by omega)])))
        refine lv_aload_n hx hb dL_step_354 rfl (lv_at hl 1 rfl) ?_
        refine lv_iload hx hb dL_step_355 (lv_at hl 0 rfl) ?_
        refine lv_iload hx hb dL_step_357 (lv_at hl 5 rfl) ?_
        refine lv_iconst (v := nI 3) hx hb dL_step_359 (by decide) ?_
        refine lv_irem hx hb dL_step_360 (by decide) ?_
        refine lv_topi (fun z_360 ez_360 => ?_)
        have ez_360 : z_360 = nI (ub % 3) := ez_360.trans (pk_rem (by omega) (by omega) (by omega))
        subst ez_360
        refine lv_iload hx hb dL_step_361 (lv_at hl 5 rfl) ?_
        refine lv_iconst (v := nI 3) hx hb dL_step_363 (by decide) ?_
        refine lv_irem hx hb dL_step_364 (by decide) ?_
        refine lv_topi (fun z_364 ez_364 => ?_)
        have ez_364 : z_364 = nI (ub % 3) := ez_364.trans (pk_rem (by omega) (by omega) (by omega))
        subst ez_364
        refine lv_iconst (v := nI 1) hx hb dL_step_365 (by decide) ?_
        refine zx_iadd (v := nI ((ub % 3) + 1)) hx hb dL_step_366 (nI_add _ _) ?_
        refine lv_iload_n hx hb dL_step_367 rfl (lv_at hl 4 rfl) ?_
        refine lv_bipush (v := nI 9) hx hb dL_step_368 (by decide) ?_
        refine zx_idiv (v := nI (ua / 9)) hx hb dL_step_370 (by decide) (pk_div (by omega) (by omega) (by omega)) ?_
        refine lv_iconst (v := nI 2) hx hb dL_step_371 (by decide) ?_
        refine lv_irem hx hb dL_step_372 (by decide) ?_
        refine lv_topi (fun z_372 ez_372 => ?_)
        have ez_372 : z_372 = nI ((ua / 9) % 2) := ez_372.trans (pk_rem (by omega) (by omega) (by omega))
        subst ez_372
        refine zx_iadd (v := nI (((ub % 3) + 1) + ((ua / 9) % 2))) hx hb dL_step_373 (nI_add _ _) ?_
        refine lv_iconst (v := nI 3) hx hb dL_step_374 (by decide) ?_
        refine lv_irem hx hb dL_step_375 (by decide) ?_
        refine lv_topi (fun z_375 ez_375 => ?_)
        have ez_375 : z_375 = nI ((((ub % 3) + 1) + ((ua / 9) % 2)) % 3) := ez_375.trans (pk_rem (by omega) (by omega) (by omega))
        subst ez_375
        refine lv_iconst (v := nI 1) hx hb dL_step_376 (by decide) ?_
        refine lv_iload hx hb dL_step_377 (lv_at hl 5 rfl) ?_
        refine lv_iconst (v := nI 3) hx hb dL_step_379 (by decide) ?_
        refine zx_idiv (v := nI (ub / 3)) hx hb dL_step_380 (by decide) (pk_div (by omega) (by omega) (by omega)) ?_
        refine lv_bipush (v := nI 100) hx hb dL_step_381 (by decide) ?_
        refine lv_irem hx hb dL_step_383 (by decide) ?_
        refine lv_topi (fun z_383 ez_383 => ?_)
        have ez_383 : z_383 = nI ((ub / 3) % 100) := ez_383.trans (pk_rem (by omega) (by omega) (by omega))
        subst ez_383
        refine zx_iadd (v := nI (1 + ((ub / 3) % 100))) hx hb dL_step_384 (nI_add _ _) ?_
        have hP : va_P D vwCl ((([(x, .inr (5, [.ref pr, .ref mk, .ref os, .long ch, .long gd])), (pr, .inr (3, [.ref bd, .int (nI t)])), (bd, .inl (cI, 6003, .inl bf)), (mk, .inr (0, [.int mm, .ref em1, .int (nI n)])), (os, .inr (0, [.int om, .ref em2, .int (nI k)]))] : va_W) ++ ([(cc, .inl (cI, 30, .inl (nIf cg)))] : va_W)) ++ va_pl L f) _ := hP
        have hD : va_D A ((([(x, .inr (5, [.ref pr, .ref mk, .ref os, .long ch, .long gd])), (pr, .inr (3, [.ref bd, .int (nI t)])), (bd, .inl (cI, 6003, .inl bf)), (mk, .inr (0, [.int mm, .ref em1, .int (nI n)])), (os, .inr (0, [.int om, .ref em2, .int (nI k)]))] : va_W) ++ ([(cc, .inl (cI, 30, .inl (nIf cg)))] : va_W)) ++ va_pl L f) := hD
        have hP := hP.swap
        have hD := hD.swap
        have hPc : va_P D vwCl (([(x, .inr (5, [.ref pr, .ref mk, .ref os, .long ch, .long gd])), (pr, .inr (3, [.ref bd, .int (nI t)])), (bd, .inl (cI, 6003, .inl bf)), (mk, .inr (0, [.int mm, .ref em1, .int (nI n)])), (os, .inr (0, [.int om, .ref em2, .int (nI k)]))] : va_W) ++ va_pl L f) _ := lp_Pl hP
        have hDc : va_D A (([(x, .inr (5, [.ref pr, .ref mk, .ref os, .long ch, .long gd])), (pr, .inr (3, [.ref bd, .int (nI t)])), (bd, .inl (cI, 6003, .inl bf)), (mk, .inr (0, [.int mm, .ref em1, .int (nI n)])), (os, .inr (0, [.int om, .ref em2, .int (nI k)]))] : va_W) ++ va_pl L f) := lp_Dl hD
        have hF_133 := lp_F2 hD hS hA
        refine va_calli (va_runV (As := [.int (nI kc), .int (nI (ub % 3)), .int (nI ((((ub % 3) + 1) + ((ua / 9) % 2)) % 3)), .int (nI (1 + ((ub / 3) % 100)))]) (rest := []) ⟨hx, hb, hml, hown, hts⟩ (p_change l D x pr mk os ch gd bd t cI bf mm em1 n om em2 k L f cJ cO ca aa fp fs fr ff fa fz fi fu em oa fo fq fx fy fb kc (ub % 3) ((((ub % 3) + 1) + ((ua / 9) % 2)) % 3) (nI (1 + ((ub / 3) % 100))) (by first | omega | assumption) (by first | omega | assumption) (by first | omega | assumption) (by first | omega | assumption) (by first | omega | assumption) (by first | omega | assumption) (by first | omega | assumption) (by first | omega | assumption) (by first | omega | assumption) (by first | omega | assumption) (by first | omega | assumption) (by omega) h4 _) (cwV 4 hts gL_step_X5_change rfl rfl rfl (by decide +kernel) ⟨Nat.le_of_ble_eq_true rfl, Nat.le_of_ble_eq_true rfl⟩) (zq_V XM.hs (va_recv hK hPc (ci := 5) (q0 := 0) rfl rfl) hPc (hK.sub (tys' := [(cI, .int), (cJ, .long), (cO, .object "java/lang/Object")]) [0, 1, 2] rfl) hDc hG (hHS.go hS (lp_F2 hD hS hA))) rfl rfl hl.1 rfl (lv_room (Nat.le_of_ble_eq_true rfl)) dL_step_385 ⟨Nat.le_of_ble_eq_true rfl, Nat.le_of_ble_eq_true rfl⟩) hS (fun q _ h => hF_133 q h) hF_133 (fun ra_132 u9 t1 H locs ht1 hvm hw hB hz1 hk1 hS => ?_)
        obtain ⟨L2__128, g__129, e9__130, oa2__131, hp_134, hp_135, hp_136, hp_137, hp_138, hP1, hK1, hD1⟩ := hB
        rw [ht1] at hP1
        obtain ⟨hP, hD⟩ := lp_front (w1 := (([(x, .inr (5, [.ref pr, .ref mk, .ref os, .long ch, .long gd])), (pr, .inr (3, [.ref bd, .int (nI t)])), (bd, .inl (cI, 6003, .inl bf)), (mk, .inr (0, [.int mm, .ref em1, .int (nI n)])), (os, .inr (0, [.int (om + nI 1), .ref e9__130, .int (nI (k + 1))]))] : va_W) ++ va_pl L2__128 g__129)) (R9 := [(cc, .inl (cI, 30, .inl (nIf cg)))]) hP hD hF_133 hk1 hP1 hD1
        have hP := hP.swap
        have hD := hD.swap
        have hP : va_P D vwCl (([(x, .inr (5, [.ref pr, .ref mk, .ref os, .long ch, .long gd])), (pr, .inr (3, [.ref bd, .int (nI t)])), (bd, .inl (cI, 6003, .inl bf)), (mk, .inr (0, [.int mm, .ref em1, .int (nI n)])), (os, .inr (0, [.int (om + nI 1), .ref e9__130, .int (nI (k + 1))])), (cc, .inl (cI, 30, .inl (nIf cg)))] : va_W) ++ va_pl L2__128 g__129) H := hP
        have hD : va_D A (([(x, .inr (5, [.ref pr, .ref mk, .ref os, .long ch, .long gd])), (pr, .inr (3, [.ref bd, .int (nI t)])), (bd, .inl (cI, 6003, .inl bf)), (mk, .inr (0, [.int mm, .ref em1, .int (nI n)])), (os, .inr (0, [.int (om + nI 1), .ref e9__130, .int (nI (k + 1))])), (cc, .inl (cI, 30, .inl (nIf cg)))] : va_W) ++ va_pl L2__128 g__129) := hD
        refine W.widen (k := 2) (n := 804) (by decide) (by decide) ?_
        subst hw
        refine lv_aload_n hx hb dL_step_388 rfl (lv_at hl 2 rfl) ?_
        refine lv_iconst (v := nI 2) hx hb dL_step_389 (by decide) ?_
        refine zx_iald (D := D) hx hb hK hP 5 0 rfl rfl (v := nI (k + 1)) ((congrArg nI g2)) (by decide) (by first | decide | omega) dL_step_390 ?_
        refine lv_icmp_ne (tgt := 398) hx hb dL_step_391 (by decide) (fun h9 => absurd ((nI_eq (a := k + 1) (b := k + 1) (by omega) (by omega)).mpr (by omega)) h9) (fun _ => ?_)
        refine lv_iconst (v := nI 1) hx hb dL_step_394 (by decide) ?_
        refine lv_goto (tgt := 399) hx hb dL_step_395 (by decide) ?_
        subst hAe
        exact zretBz hx hb hr hlocks (fun t9 ht hv => ⟨ch, gd, t, bf, mm, em1, n, (om + nI 1), e9__130, (k + 1), fb, fp, fs, fr, ff, fa, fz, fi, fu, (va_up fo k kc), (upd fq k (nI (1 + ub / 3 % 100))), (va_up fx k (ub % 3)), (va_up fy k ((ub % 3 + 1 + ua / 9 % 2) % 3)), cg, L2__128, g__129, ca, aa, oa2__131, (NN_ord hNN hB1 hkc hal (by omega) (by omega) (.inr ⟨_, by omega, rfl⟩) g2 gk gr), hbi, hp_134, hp_135, hp_136, hp_137, hp_138, by rw [ht]; exact hP, va_K.moved hv (hK.sub [0, 1, 2] rfl), hD⟩) hS dL_step_399 (Nat.le_of_ble_eq_true rfl) (Nat.le_of_ble_eq_true rfl) rfl (rfl)
      · skip
        refine lv_aload_n hx hb dL_step_331 rfl (lv_at hl 1 rfl) ?_
        refine vp_callSi (W.runV (As := []) (rest := []) ⟨hx, hb, hml, hown, hts⟩ (m_X5_waiting_ok l D x pr mk os ch gd om em2 k) (cwV 0 hts gL_step_X5_waiting rfl rfl rfl (by decide +kernel) ⟨Nat.le_of_ble_eq_true rfl, Nat.le_of_ble_eq_true rfl⟩) (z1_V (va_recv hK hP (ci := 5) (q0 := 0) rfl rfl) (hP.sub (ws' := [(x, .inr (5, [.ref pr, .ref mk, .ref os, .long ch, .long gd])), (os, .inr (0, [.int om, .ref em2, .int (nI k)]))]) [0, 4] rfl) (hK.sub (tys' := []) [] rfl) hG) rfl rfl hl.1 rfl (lv_room (Nat.le_of_ble_eq_true rfl)) dL_step_332 ⟨Nat.le_of_ble_eq_true rfl, Nat.le_of_ble_eq_true rfl⟩) (fun r_139 e_r_139 => ?_)
        replace e_r_139 := e_r_139.symm; subst e_r_139
        refine lv_aload_n hx hb dL_step_335 rfl (lv_at hl 2 rfl) ?_
        refine lv_iconst (v := nI 2) hx hb dL_step_336 (by decide) ?_
        refine zx_iald (D := D) hx hb hK hP 5 0 rfl rfl (v := nI k) ((congrArg nI c2)) (by decide) (by first | decide | omega) dL_step_337 ?_
        refine lv_icmp_ne (tgt := 345) hx hb dL_step_338 (by decide) (fun h9 => absurd ((nI_eq (a := k) (b := k) (by omega) (by omega)).mpr (by omega)) h9) (fun _ => ?_)
        refine lv_iconst (v := nI 1) hx hb dL_step_341 (by decide) ?_
        refine lv_goto (tgt := 346) hx hb dL_step_342 (by decide) ?_
        subst hAe
        exact zretBz hx hb hr hlocks (fun t9 ht hv => ⟨ch, gd, t, bf, mm, em1, n, om, em2, k, fb, fp, fs, fr, ff, fa, fz, fi, fu, fo, fq, fx, fy, cf, L, f, ca, aa, oa, NN.up hNN hB1, hbi, hCI, hOI, hU1, hU2, hneL, by rw [ht]; exact hP, va_K.moved hv (hK.sub [0, 1, 2] rfl), hD⟩) hS dL_step_346 (Nat.le_of_ble_eq_true rfl) (Nat.le_of_ble_eq_true rfl) rfl (rfl)
    · skip
      refine zx_tab (j := wh % 13) (tgt := 400) hx hb dL_step_21 (by omega) (by omega) (by rcases (show wh % 13 = 5 ∨ wh % 13 = 6 by omega) with e13 | e13 <;> rw [e13] <;> rfl) (by decide) ?_
      refine lv_aload_n hx hb dL_step_400 rfl (lv_at hl 2 rfl) ?_
      refine lv_iconst (v := nI 1) hx hb dL_step_401 (by decide) ?_
      refine zx_iald (D := D) hx hb hK hP 5 0 rfl rfl (v := nI n) ((congrArg nI c1)) (by decide) (by first | decide | omega) dL_step_402 ?_
      refine lv_if_eq (tgt := 433) hx hb dL_step_403 (by decide) (fun h9 => absurd h9 (fun h8 => absurd ((nI_eq (a := n) (b := 0) (by omega) (by omega)).mp h8) (by omega))) (fun _ => ?_)
      refine lv_aload_n hx hb dL_step_406 rfl (lv_at hl 1 rfl) ?_
      refine lv_iload hx hb dL_step_407 (lv_at hl 0 rfl) ?_
      have hPs : va_P D vwCl (([(x, .inr (5, [.ref pr, .ref mk, .ref os, .long ch, .long gd])), (pr, .inr (3, [.ref bd, .int (nI t)])), (bd, .inl (cI, 6003, .inl bf)), (mk, .inr (0, [.int mm, .ref em1, .int (nI n)])), (os, .inr (0, [.int om, .ref em2, .int (nI k)]))] : va_W) ++ va_pl L f) _ := lp_Pl (va_P.swap (show va_P D vwCl ((([(x, .inr (5, [.ref pr, .ref mk, .ref os, .long ch, .long gd])), (pr, .inr (3, [.ref bd, .int (nI t)])), (bd, .inl (cI, 6003, .inl bf)), (mk, .inr (0, [.int mm, .ref em1, .int (nI n)])), (os, .inr (0, [.int om, .ref em2, .int (nI k)]))] : va_W) ++ ([(cc, .inl (cI, 30, .inl (nIf cf)))] : va_W)) ++ va_pl L f) _ from hP))
      refine vp_callSi (W.runV (As := [.int (nI kc)]) (rest := []) ⟨hx, hb, hml, hown, hts⟩ (p_isInForce l D x pr mk os ch gd bd t cI bf mm em1 n om em2 k L f cJ cO ca aa fp fs fr ff fa fz fi fu em kc (by first | omega | assumption) (by first | omega | assumption) (by first | omega | assumption) nFZ) (cwV 1 hts gL_step_X5_isInForce rfl rfl rfl (by decide +kernel) ⟨Nat.le_of_ble_eq_true rfl, Nat.le_of_ble_eq_true rfl⟩) (z1_V (va_recv hK hPs (ci := 5) (q0 := 0) rfl rfl) hPs (hK.sub (tys' := [(cI, .int), (cJ, .long), (cO, .object "java/lang/Object")]) [0, 1, 2] rfl) hG) rfl rfl hl.1 rfl (lv_room (Nat.le_of_ble_eq_true rfl)) dL_step_409 ⟨Nat.le_of_ble_eq_true rfl, Nat.le_of_ble_eq_true rfl⟩) (fun r_140 e_r_140 => ?_)
      replace e_r_140 := e_r_140.symm; subst e_r_140
      refine lv_if_eq (tgt := 433) hx hb dL_step_412 (by decide) (fun c_412 => ?_) (fun c_412 => ?_)
      · skip
        refine lv_iconst (v := nI 1) hx hb dL_step_433 (by decide) ?_
        refine lv_goto (tgt := 438) hx hb dL_step_434 (by decide) ?_
        subst hAe
        exact zretBz hx hb hr hlocks (fun t9 ht hv => ⟨ch, gd, t, bf, mm, em1, n, om, em2, k, fb, fp, fs, fr, ff, fa, fz, fi, fu, fo, fq, fx, fy, cf, L, f, ca, aa, oa, NN.up hNN hB1, hbi, hCI, hOI, hU1, hU2, hneL, by rw [ht]; exact hP, va_K.moved hv (hK.sub [0, 1, 2] rfl), hD⟩) hS dL_step_438 (Nat.le_of_ble_eq_true rfl) (Nat.le_of_ble_eq_true rfl) rfl (rfl)
      · skip
        have hal : fz kc = nI 1 := (nFZ kc hkc).elim (fun q => absurd q c_412) id
        refine lv_aload_n hx hb dL_step_415 rfl (lv_at hl 1 rfl) ?_
        refine lv_aload_n hx hb dL_step_416 rfl (lv_at hl 2 rfl) ?_
        refine lv_iload hx hb dL_step_417 (lv_at hl 0 rfl) ?_
        refine lv_iload hx hb dL_step_419 (lv_at hl 5 rfl) ?_
        refine lv_aload_n hx hb dL_step_421 rfl (lv_at hl 2 rfl) ?_
        refine lv_iconst (v := nI 0) hx hb dL_step_422 (by decide) ?_
        refine zx_iald (D := D) hx hb hK hP 5 0 rfl rfl (v := nI t) ((congrArg nI c0)) (by decide) (by first | decide | omega) dL_step_423 ?_
        refine lv_iconst (v := nI 1) hx hb dL_step_424 (by decide) ?_
        refine zx_iadd (v := nI (t + 1)) hx hb dL_step_425 (nI_add _ _) ?_
        refine lv_irem hx hb dL_step_426 (nI_ne0 (by omega) (by omega)) ?_
        refine lv_topi (fun z_426 ez_426 => ?_)
        have ez_426 : z_426 = nI (ub % (t + 1)) := ez_426.trans (pk_rem (by omega) (by omega) (by omega))
        subst ez_426
        have hF_171 := lp_F hD hS hA
        refine va_calli (va_runS (As := [.ref x, .ref cc, .int (nI kc), .int (nI (ub % (t + 1)))]) (rest := []) ⟨hx, hb, hml, hown, hts⟩ (m_L_backdates l D x pr mk os ch gd bd t cI bf mm em1 n om em2 k L f cJ cO ca aa fp fs fr ff fa fz fi fu em oa fo fq fx fy fb cc cf B kc (ub % (t + 1)) (by first | omega | assumption) (by first | omega | assumption) (by first | omega | assumption) (by first | omega | assumption) (by first | omega | assumption) (by first | omega | assumption) (by first | omega | assumption) (by first | omega | assumption) (by first | omega | assumption) (by have := Nat.mod_lt ub (show 0 < t + 1 by omega); omega) _) (va_cwS 4 hts gL_step_L_backdates rfl rfl rfl (by decide +kernel) ⟨Nat.le_of_ble_eq_true rfl, Nat.le_of_ble_eq_true rfl⟩) (zq_S XM.hs hP (hK.sub (tys' := [(cI, .int), (cJ, .long), (cO, .object "java/lang/Object")]) [0, 1, 2] rfl) hD hG (hHS.go hS (lp_F hD hS hA))) rfl rfl hl.1 rfl (lv_room (Nat.le_of_ble_eq_true rfl)) dL_step_427 ⟨Nat.le_of_ble_eq_true rfl, Nat.le_of_ble_eq_true rfl⟩) hS (fun q _ h => hF_171 q h) hF_171 (fun ra_170 u9 t1 H locs ht1 hvm hw hB hz1 hk1 hS => ?_)
        obtain ⟨chZ__141, gdZ__142, tZ__143, bfZ__144, mmZ__145, em1Z__146, nZ__147, omZ__148, em2Z__149, kZ__150, fbZ__151, fpZ__152, fsZ__153, frZ__154, ffZ__155, faZ__156, fzZ__157, fiZ__158, fuZ__159, foZ__160, fqZ__161, fxZ__162, fyZ__163, cfZ__164, LZ__165, fZ__166, caZ__167, aaZ__168, oaZ__169, hp_172, hp_173, hp_174, hp_175, hp_176, hp_177, hp_178, hP1, hK1, hD1⟩ := hB
        rw [ht1] at hP1
        have hP := hP1
        have hD : va_D A (([(x, .inr (5, [.ref pr, .ref mk, .ref os, .long chZ__141, .long gdZ__142])), (pr, .inr (3, [.ref bd, .int (nI tZ__143)])), (bd, .inl (cI, 6003, .inl bfZ__144)), (mk, .inr (0, [.int mmZ__145, .ref em1Z__146, .int (nI nZ__147)])), (os, .inr (0, [.int omZ__148, .ref em2Z__149, .int (nI kZ__150)])), (cc, .inl (cI, 30, .inl (nIf cfZ__164)))] : va_W) ++ va_pl LZ__165 fZ__166) := ⟨hD1.1, fun k9 q9 h9 => hF_171 _ (hD1.2 k9 q9 h9)⟩
        have hP : va_P D vwCl (([(x, .inr (5, [.ref pr, .ref mk, .ref os, .long chZ__141, .long gdZ__142])), (pr, .inr (3, [.ref bd, .int (nI tZ__143)])), (bd, .inl (cI, 6003, .inl bfZ__144)), (mk, .inr (0, [.int mmZ__145, .ref em1Z__146, .int (nI nZ__147)])), (os, .inr (0, [.int omZ__148, .ref em2Z__149, .int (nI kZ__150)])), (cc, .inl (cI, 30, .inl (nIf cfZ__164)))] : va_W) ++ va_pl LZ__165 fZ__166) H := hP
        have hD : va_D A (([(x, .inr (5, [.ref pr, .ref mk, .ref os, .long chZ__141, .long gdZ__142])), (pr, .inr (3, [.ref bd, .int (nI tZ__143)])), (bd, .inl (cI, 6003, .inl bfZ__144)), (mk, .inr (0, [.int mmZ__145, .ref em1Z__146, .int (nI nZ__147)])), (os, .inr (0, [.int omZ__148, .ref em2Z__149, .int (nI kZ__150)])), (cc, .inl (cI, 30, .inl (nIf cfZ__164)))] : va_W) ++ va_pl LZ__165 fZ__166) := hD
        subst hw
        refine lv_if_eq (tgt := 437) hx hb dL_step_430 (by decide) (fun h9 => absurd h9 (by decide)) (fun _ => ?_)
        refine lv_iconst (v := nI 1) hx hb dL_step_433 (by decide) ?_
        refine lv_goto (tgt := 438) hx hb dL_step_434 (by decide) ?_
        subst hAe
        exact zretBz hx hb hr hlocks (fun t9 ht hv => ⟨chZ__141, gdZ__142, tZ__143, bfZ__144, mmZ__145, em1Z__146, nZ__147, omZ__148, em2Z__149, kZ__150, fbZ__151, fpZ__152, fsZ__153, frZ__154, ffZ__155, faZ__156, fzZ__157, fiZ__158, fuZ__159, foZ__160, fqZ__161, fxZ__162, fyZ__163, cfZ__164, LZ__165, fZ__166, caZ__167, aaZ__168, oaZ__169, NN.up hp_172 hB1, hp_173, hp_174, hp_175, hp_176, hp_177, hp_178, by rw [ht]; exact hP, va_K.moved hv (hK.sub [0, 1, 2] rfl), hD⟩) hS dL_step_438 (Nat.le_of_ble_eq_true rfl) (Nat.le_of_ble_eq_true rfl) rfl (rfl)
    · skip
      refine zx_tab (j := wh % 13) (tgt := 439) hx hb dL_step_21 (by omega) (by omega) (by rcases (show wh % 13 = 7 ∨ wh % 13 = 8 ∨ wh % 13 = 9 by omega) with e13 | e13 | e13 <;> rw [e13] <;> rfl) (by decide) ?_
      refine lv_aload_n hx hb dL_step_439 rfl (lv_at hl 2 rfl) ?_
      refine lv_iconst (v := nI 0) hx hb dL_step_440 (by decide) ?_
      refine zx_iald (D := D) hx hb hK hP 5 0 rfl rfl (v := nI t) ((congrArg nI c0)) (by decide) (by first | decide | omega) dL_step_441 ?_
      refine lv_sipush (v := nI 2000) hx hb dL_step_442 (by decide) ?_
      refine lv_icmp_eq (tgt := 497) hx hb dL_step_445 (by decide) (fun c_445 => ?_) (fun c_445 => ?_)
      · skip
        have n_445 : t = 2000 := (nI_eq (a := t) (b := 2000) (by omega) (by omega)).mp c_445
        refine lv_iconst (v := nI 1) hx hb dL_step_497 (by decide) ?_
        refine lv_goto (tgt := 502) hx hb dL_step_498 (by decide) ?_
        subst hAe
        exact zretBz hx hb hr hlocks (fun t9 ht hv => ⟨ch, gd, t, bf, mm, em1, n, om, em2, k, fb, fp, fs, fr, ff, fa, fz, fi, fu, fo, fq, fx, fy, cf, L, f, ca, aa, oa, NN.up hNN hB1, hbi, hCI, hOI, hU1, hU2, hneL, by rw [ht]; exact hP, va_K.moved hv (hK.sub [0, 1, 2] rfl), hD⟩) hS dL_step_502 (Nat.le_of_ble_eq_true rfl) (Nat.le_of_ble_eq_true rfl) rfl (rfl)
      · skip
        have n_445 : ¬ t = 2000 := fun h8 => c_445 ((nI_eq (a := t) (b := 2000) (by omega) (by omega)).mpr h8)
        refine lv_aload_n hx hb dL_step_448 rfl (lv_at hl 1 rfl) ?_
        refine lv_aload_n hx hb dL_step_449 rfl (lv_at hl 2 rfl) ?_
        refine lv_iconst (v := nI 1) hx hb dL_step_450 (by decide) ?_
        refine lv_iload_n hx hb dL_step_451 rfl (lv_at hl 4 rfl) ?_
        refine lv_iload hx hb dL_step_452 (lv_at hl 5 rfl) ?_
        refine lv_iconst (v := nI 4) hx hb dL_step_454 (by decide) ?_
        refine lv_irem hx hb dL_step_455 (by decide) ?_
        refine lv_topi (fun z_455 ez_455 => ?_)
        have ez_455 : z_455 = nI (ub % 4) := ez_455.trans (pk_rem (by omega) (by omega) (by omega))
        subst ez_455
        refine zj (T := Int32) (fr := fun z => F0 m 467 ls (.int z :: [.int (nI ua), .int (nI 1), .ref cc, .ref x])) (if (nI (ub % 4)) = 0 then nI 100000 else nI 3000) (fun z_179 e_z_179 => ?_) (fun j_z_179 => ?_)
        · skip
          obtain ⟨zd, hzd1, hzd2, j9⟩ : ∃ q : Nat, 3000 ≤ q ∧ q ≤ 100000 ∧ z_179 = nI q := by rw [e_z_179]; split; exact ⟨100000, by decide, by decide, rfl⟩; exact ⟨3000, by decide, by decide, rfl⟩
          subst j9
          refine lv_irem hx hb dL_step_467 (nI_ne0 (by omega) (by omega)) ?_
          refine lv_topi (fun z_467 ez_467 => ?_)
          have ez_467 : z_467 = nI (ua % zd) := ez_467.trans (pk_rem (by omega) (by omega) (by omega))
          subst ez_467
          refine zx_iadd (v := nI (1 + (ua % zd))) hx hb dL_step_468 (nI_add _ _) ?_
          refine lv_iconst (v := nI 1) hx hb dL_step_469 (by decide) ?_
          refine lv_iload hx hb dL_step_470 (lv_at hl 5 rfl) ?_
          refine lv_sipush (v := nI 3000) hx hb dL_step_472 (by decide) ?_
          refine lv_irem hx hb dL_step_475 (by decide) ?_
          refine lv_topi (fun z_475 ez_475 => ?_)
          have ez_475 : z_475 = nI (ub % 3000) := ez_475.trans (pk_rem (by omega) (by omega) (by omega))
          subst ez_475
          refine zx_iadd (v := nI (1 + (ub % 3000))) hx hb dL_step_476 (nI_add _ _) ?_
          refine lv_iconst (v := nI 1) hx hb dL_step_477 (by decide) ?_
          refine lv_iload_n hx hb dL_step_478 rfl (lv_at hl 4 rfl) ?_
          refine lv_iconst (v := nI 2) hx hb dL_step_479 (by decide) ?_
          refine zx_idiv (v := nI (ua / 2)) hx hb dL_step_480 (by decide) (pk_div (by omega) (by omega) (by omega)) ?_
          refine lv_iload hx hb dL_step_481 (lv_at hl 5 rfl) ?_
          refine lv_iconst (v := nI 4) hx hb dL_step_483 (by decide) ?_
          refine zx_idiv (v := nI (ub / 4)) hx hb dL_step_484 (by decide) (pk_div (by omega) (by omega) (by omega)) ?_
          refine zx_iadd (v := nI ((ua / 2) + (ub / 4))) hx hb dL_step_485 (nI_add _ _) ?_
          refine lv_sipush (v := nI 2000) hx hb dL_step_486 (by decide) ?_
          refine lv_irem hx hb dL_step_489 (by decide) ?_
          refine lv_topi (fun z_489 ez_489 => ?_)
          have ez_489 : z_489 = nI (((ua / 2) + (ub / 4)) % 2000) := ez_489.trans (pk_rem (by omega) (by omega) (by omega))
          subst ez_489
          refine zx_iadd (v := nI (1 + (((ua / 2) + (ub / 4)) % 2000))) hx hb dL_step_490 (nI_add _ _) ?_
          have hF_210 := lp_F hD hS hA
          refine va_calli (va_runS (As := [.ref x, .ref cc, .int (nI (1 + (ua % zd))), .int (nI (1 + (ub % 3000))), .int (nI (1 + (((ua / 2) + (ub / 4)) % 2000)))]) (rest := []) ⟨hx, hb, hml, hown, hts⟩ (m_L_tells l D x pr mk os ch gd bd t cI bf mm em1 n om em2 k L f cJ cO ca aa fp fs fr ff fa fz fi fu em oa fo fq fx fy fb cc cf B (1 + (ua % zd)) (1 + (ub % 3000)) (1 + (((ua / 2) + (ub / 4)) % 2000)) (by first | omega | assumption) (by first | omega | assumption) (by first | omega | assumption) (by first | omega | assumption) (by first | omega | assumption) (by first | omega | assumption) (by first | omega | assumption) ⟨by omega, by have := Nat.mod_lt ua (show 0 < zd by omega); omega⟩ ⟨by omega, by omega⟩ ⟨by omega, by omega⟩ (by omega) _) (va_cwS 5 hts gL_step_L_tells rfl rfl rfl (by decide +kernel) ⟨Nat.le_of_ble_eq_true rfl, Nat.le_of_ble_eq_true rfl⟩) (zq_S XM.t hP (hK.sub (tys' := [(cI, .int), (cJ, .long), (cO, .object "java/lang/Object")]) [0, 1, 2] rfl) hD hG trivial) rfl rfl hl.1 rfl (lv_room (Nat.le_of_ble_eq_true rfl)) dL_step_491 ⟨Nat.le_of_ble_eq_true rfl, Nat.le_of_ble_eq_true rfl⟩) hS (fun q _ h => hF_210 q h) hF_210 (fun ra_209 u9 t1 H locs ht1 hvm hw hB hz1 hk1 hS => ?_)
          obtain ⟨chZ__180, gdZ__181, tZ__182, bfZ__183, mmZ__184, em1Z__185, nZ__186, omZ__187, em2Z__188, kZ__189, fbZ__190, fpZ__191, fsZ__192, frZ__193, ffZ__194, faZ__195, fzZ__196, fiZ__197, fuZ__198, foZ__199, fqZ__200, fxZ__201, fyZ__202, cfZ__203, LZ__204, fZ__205, caZ__206, aaZ__207, oaZ__208, hp_211, hp_212, hp_213, hp_214, hp_215, hp_216, hp_217, hP1, hK1, hD1⟩ := hB
          rw [ht1] at hP1
          have hP := hP1
          have hD : va_D A (([(x, .inr (5, [.ref pr, .ref mk, .ref os, .long chZ__180, .long gdZ__181])), (pr, .inr (3, [.ref bd, .int (nI tZ__182)])), (bd, .inl (cI, 6003, .inl bfZ__183)), (mk, .inr (0, [.int mmZ__184, .ref em1Z__185, .int (nI nZ__186)])), (os, .inr (0, [.int omZ__187, .ref em2Z__188, .int (nI kZ__189)])), (cc, .inl (cI, 30, .inl (nIf cfZ__203)))] : va_W) ++ va_pl LZ__204 fZ__205) := ⟨hD1.1, fun k9 q9 h9 => hF_210 _ (hD1.2 k9 q9 h9)⟩
          have hP : va_P D vwCl (([(x, .inr (5, [.ref pr, .ref mk, .ref os, .long chZ__180, .long gdZ__181])), (pr, .inr (3, [.ref bd, .int (nI tZ__182)])), (bd, .inl (cI, 6003, .inl bfZ__183)), (mk, .inr (0, [.int mmZ__184, .ref em1Z__185, .int (nI nZ__186)])), (os, .inr (0, [.int omZ__187, .ref em2Z__188, .int (nI kZ__189)])), (cc, .inl (cI, 30, .inl (nIf cfZ__203)))] : va_W) ++ va_pl LZ__204 fZ__205) H := hP
          have hD : va_D A (([(x, .inr (5, [.ref pr, .ref mk, .ref os, .long chZ__180, .long gdZ__181])), (pr, .inr (3, [.ref bd, .int (nI tZ__182)])), (bd, .inl (cI, 6003, .inl bfZ__183)), (mk, .inr (0, [.int mmZ__184, .ref em1Z__185, .int (nI nZ__186)])), (os, .inr (0, [.int omZ__187, .ref em2Z__188, .int (nI kZ__189)])), (cc, .inl (cI, 30, .inl (nIf cfZ__203)))] : va_W) ++ va_pl LZ__204 fZ__205) := hD
          subst hw
          refine lv_if_eq (tgt := 501) hx hb dL_step_494 (by decide) (fun h9 => absurd h9 (by decide)) (fun _ => ?_)
          refine lv_iconst (v := nI 1) hx hb dL_step_497 (by decide) ?_
          refine lv_goto (tgt := 502) hx hb dL_step_498 (by decide) ?_
          subst hAe
          exact zretBz hx hb hr hlocks (fun t9 ht hv => ⟨chZ__180, gdZ__181, tZ__182, bfZ__183, mmZ__184, em1Z__185, nZ__186, omZ__187, em2Z__188, kZ__189, fbZ__190, fpZ__191, fsZ__192, frZ__193, ffZ__194, faZ__195, fzZ__196, fiZ__197, fuZ__198, foZ__199, fqZ__200, fxZ__201, fyZ__202, cfZ__203, LZ__204, fZ__205, caZ__206, aaZ__207, oaZ__208, NN.up hp_211 hB1, hp_212, hp_213, hp_214, hp_215, hp_216, hp_217, by rw [ht]; exact hP, va_K.moved hv (hK.sub [0, 1, 2] rfl), hD⟩) hS dL_step_502 (Nat.le_of_ble_eq_true rfl) (Nat.le_of_ble_eq_true rfl) rfl (rfl)
        · refine lv_if_ne (tgt := 464) hx hb dL_step_456 (by decide) (fun c_456 => ?_) (fun c_456 => ?_)
          · skip
            refine lv_sipush (v := nI 3000) hx hb dL_step_464 (by decide) ?_
            exact j_z_179 _ (by rw [if_neg c_456])
          · skip
            refine lv_ldc (v := nI 100000) hx hb hown k_0 dL_step_459 ?_
            refine lv_goto (tgt := 467) hx hb dL_step_461 (by decide) ?_
            exact j_z_179 _ (by rw [if_pos c_456])
    · skip
      refine zx_tabO (j := wh % 13) (tgt := 503) hx hb dL_step_21 (by omega) (by omega) (by decide) ?_
      refine lv_iconst (v := nI 1) hx hb dL_step_503 (by decide) ?_
      refine lv_iload hx hb dL_step_504 (lv_at hl 5 rfl) ?_
      refine lv_iload_n hx hb dL_step_506 rfl (lv_at hl 4 rfl) ?_
      refine lv_iconst (v := nI 3) hx hb dL_step_507 (by decide) ?_
      refine lv_irem hx hb dL_step_508 (by decide) ?_
      refine lv_topi (fun z_508 ez_508 => ?_)
      have ez_508 : z_508 = nI (ua % 3) := ez_508.trans (pk_rem (by omega) (by omega) (by omega))
      subst ez_508
      refine zj (T := Int32) (fr := fun z => F0 m 519 ls (.int z :: [.int (nI ub), .int (nI 1)])) (if (nI (ua % 3)) = 0 then nI 60 else nI 10) (fun z_218 e_z_218 => ?_) (fun j_z_218 => ?_)
      · skip
        obtain ⟨zd, hzd1, hzd2, j9⟩ : ∃ q : Nat, 10 ≤ q ∧ q ≤ 60 ∧ z_218 = nI q := by rw [e_z_218]; split; exact ⟨60, by decide, by decide, rfl⟩; exact ⟨10, by decide, by decide, rfl⟩
        subst j9
        refine lv_irem hx hb dL_step_519 (nI_ne0 (by omega) (by omega)) ?_
        refine lv_topi (fun z_519 ez_519 => ?_)
        have ez_519 : z_519 = nI (ub % zd) := ez_519.trans (pk_rem (by omega) (by omega) (by omega))
        subst ez_519
        refine zx_iadd (v := nI (1 + (ub % zd))) hx hb dL_step_520 (nI_add _ _) ?_
        obtain ⟨dd, hdd1, hdd2, e9⟩ : ∃ q : Nat, 1 ≤ q ∧ q ≤ 60 ∧ 1 + ub % zd = q := ⟨_, by omega, by have := Nat.mod_lt ub (show 0 < zd by omega); omega, rfl⟩
        rw [e9]
        refine lv_istore (lv' := [(6, .int (nI dd)), (5, .int (nI kc)), (0, .ref x), (1, .ref cc), (2, .int (nI wh)), (3, .int (nI ua)), (4, .int (nI ub))]) hx hb dL_step_521 hl (by decide) rfl (fun ls hl => ?_)
        refine lv_aload_n hx hb dL_step_523 rfl (lv_at hl 3 rfl) ?_
        refine lv_iconst (v := nI 0) hx hb dL_step_524 (by decide) ?_
        refine zx_iald (D := D) hx hb hK hP 5 0 rfl rfl (v := nI t) ((congrArg nI c0)) (by decide) (by first | decide | omega) dL_step_525 ?_
        refine lv_iload hx hb dL_step_526 (lv_at hl 0 rfl) ?_
        refine zx_iadd (v := nI (t + dd)) hx hb dL_step_528 (nI_add _ _) ?_
        refine lv_sipush (v := nI 2000) hx hb dL_step_529 (by decide) ?_
        refine lv_icmp_gt (tgt := 545) hx hb dL_step_532 (by decide) (fun c_532 => ?_) (fun c_532 => ?_)
        · skip
          have n_532 : 2000 < t + dd := (nI_ltI (a := 2000) (b := t + dd) (by omega) (by omega)).mp c_532
          refine lv_iconst (v := nI 1) hx hb dL_step_545 (by decide) ?_
          refine lv_goto (tgt := 550) hx hb dL_step_546 (by decide) ?_
          subst hAe
          exact zretBz hx hb hr hlocks (fun t9 ht hv => ⟨ch, gd, t, bf, mm, em1, n, om, em2, k, fb, fp, fs, fr, ff, fa, fz, fi, fu, fo, fq, fx, fy, cf, L, f, ca, aa, oa, NN.up hNN hB1, hbi, hCI, hOI, hU1, hU2, hneL, by rw [ht]; exact hP, va_K.moved hv (hK.sub [0, 1, 2] rfl), hD⟩) hS dL_step_550 (Nat.le_of_ble_eq_true rfl) (Nat.le_of_ble_eq_true rfl) rfl (rfl)
        · skip
          have n_532 : ¬ 2000 < t + dd := fun h8 => c_532 ((nI_ltI (a := 2000) (b := t + dd) (by omega) (by omega)).mpr h8)
          refine lv_aload_n hx hb dL_step_535 rfl (lv_at hl 2 rfl) ?_
          refine lv_aload_n hx hb dL_step_536 rfl (lv_at hl 3 rfl) ?_
          refine lv_iload hx hb dL_step_537 (lv_at hl 0 rfl) ?_
          have hF_249 := lp_F hD hS hA
          refine va_calli (va_runS (As := [.ref x, .ref cc, .int (nI dd)]) (rest := []) ⟨hx, hb, hml, hown, hts⟩ (m_L_passes l D x pr mk os ch gd bd t cI bf mm em1 n om em2 k L f cJ cO ca aa fp fs fr ff fa fz fi fu em oa fo fq fx fy fb cc cf B dd (by first | omega | assumption) (by first | omega | assumption) (by first | omega | assumption) (by first | omega | assumption) (by first | omega | assumption) (by first | omega | assumption) (by first | omega | assumption) hdd1 (by omega) (by omega) _) (va_cwS 3 hts gL_step_L_passes rfl rfl rfl (by decide +kernel) ⟨Nat.le_of_ble_eq_true rfl, Nat.le_of_ble_eq_true rfl⟩) (zq_S XM.t hP (hK.sub (tys' := [(cI, .int), (cJ, .long), (cO, .object "java/lang/Object")]) [0, 1, 2] rfl) hD hG trivial) rfl rfl hl.1 rfl (lv_room (Nat.le_of_ble_eq_true rfl)) dL_step_539 ⟨Nat.le_of_ble_eq_true rfl, Nat.le_of_ble_eq_true rfl⟩) hS (fun q _ h => hF_249 q h) hF_249 (fun ra_248 u9 t1 H locs ht1 hvm hw hB hz1 hk1 hS => ?_)
          obtain ⟨chZ__219, gdZ__220, tZ__221, bfZ__222, mmZ__223, em1Z__224, nZ__225, omZ__226, em2Z__227, kZ__228, fbZ__229, fpZ__230, fsZ__231, frZ__232, ffZ__233, faZ__234, fzZ__235, fiZ__236, fuZ__237, foZ__238, fqZ__239, fxZ__240, fyZ__241, cfZ__242, LZ__243, fZ__244, caZ__245, aaZ__246, oaZ__247, hp_250, hp_251, hp_252, hp_253, hp_254, hp_255, hp_256, hP1, hK1, hD1⟩ := hB
          rw [ht1] at hP1
          have hP := hP1
          have hD : va_D A (([(x, .inr (5, [.ref pr, .ref mk, .ref os, .long chZ__219, .long gdZ__220])), (pr, .inr (3, [.ref bd, .int (nI tZ__221)])), (bd, .inl (cI, 6003, .inl bfZ__222)), (mk, .inr (0, [.int mmZ__223, .ref em1Z__224, .int (nI nZ__225)])), (os, .inr (0, [.int omZ__226, .ref em2Z__227, .int (nI kZ__228)])), (cc, .inl (cI, 30, .inl (nIf cfZ__242)))] : va_W) ++ va_pl LZ__243 fZ__244) := ⟨hD1.1, fun k9 q9 h9 => hF_249 _ (hD1.2 k9 q9 h9)⟩
          have hP : va_P D vwCl (([(x, .inr (5, [.ref pr, .ref mk, .ref os, .long chZ__219, .long gdZ__220])), (pr, .inr (3, [.ref bd, .int (nI tZ__221)])), (bd, .inl (cI, 6003, .inl bfZ__222)), (mk, .inr (0, [.int mmZ__223, .ref em1Z__224, .int (nI nZ__225)])), (os, .inr (0, [.int omZ__226, .ref em2Z__227, .int (nI kZ__228)])), (cc, .inl (cI, 30, .inl (nIf cfZ__242)))] : va_W) ++ va_pl LZ__243 fZ__244) H := hP
          have hD : va_D A (([(x, .inr (5, [.ref pr, .ref mk, .ref os, .long chZ__219, .long gdZ__220])), (pr, .inr (3, [.ref bd, .int (nI tZ__221)])), (bd, .inl (cI, 6003, .inl bfZ__222)), (mk, .inr (0, [.int mmZ__223, .ref em1Z__224, .int (nI nZ__225)])), (os, .inr (0, [.int omZ__226, .ref em2Z__227, .int (nI kZ__228)])), (cc, .inl (cI, 30, .inl (nIf cfZ__242)))] : va_W) ++ va_pl LZ__243 fZ__244) := hD
          subst hw
          refine lv_if_eq (tgt := 549) hx hb dL_step_542 (by decide) (fun h9 => absurd h9 (by decide)) (fun _ => ?_)
          refine lv_iconst (v := nI 1) hx hb dL_step_545 (by decide) ?_
          refine lv_goto (tgt := 550) hx hb dL_step_546 (by decide) ?_
          subst hAe
          exact zretBz hx hb hr hlocks (fun t9 ht hv => ⟨chZ__219, gdZ__220, tZ__221, bfZ__222, mmZ__223, em1Z__224, nZ__225, omZ__226, em2Z__227, kZ__228, fbZ__229, fpZ__230, fsZ__231, frZ__232, ffZ__233, faZ__234, fzZ__235, fiZ__236, fuZ__237, foZ__238, fqZ__239, fxZ__240, fyZ__241, cfZ__242, LZ__243, fZ__244, caZ__245, aaZ__246, oaZ__247, NN.up hp_250 hB1, hp_251, hp_252, hp_253, hp_254, hp_255, hp_256, by rw [ht]; exact hP, va_K.moved hv (hK.sub [0, 1, 2] rfl), hD⟩) hS dL_step_550 (Nat.le_of_ble_eq_true rfl) (Nat.le_of_ble_eq_true rfl) rfl (rfl)
      · refine lv_if_ne (tgt := 517) hx hb dL_step_509 (by decide) (fun c_509 => ?_) (fun c_509 => ?_)
        · skip
          refine lv_bipush (v := nI 10) hx hb dL_step_517 (by decide) ?_
          exact j_z_218 _ (by rw [if_neg c_509])
        · skip
          refine lv_bipush (v := nI 60) hx hb dL_step_512 (by decide) ?_
          refine lv_goto (tgt := 519) hx hb dL_step_514 (by decide) ?_
          exact j_z_218 _ (by rw [if_pos c_509])
