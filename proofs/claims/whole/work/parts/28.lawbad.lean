/-! THE LAW'S HELPERS, a refused call: the number of the exception -/
set_option maxHeartbeats 4000000 in
set_option maxRecDepth 100000 in
/-- law: tell: b0 -/
theorem m_L_tell_b0 (l : Launch) (hnt : l.stackTraces = false) (D : va_G) (x pr mk os : Nat) (ch gd : Int64) (p0 p1 p2 : Int32) (em : Nat) (ot : Nat) (h0 : k_isBid p0 = nI 0) : Met l yL_tell wsL_tell ({ frames := 7, cells := 1, slots := 6, locals := 115 }) (zt D [(x, .inr (5, [.ref pr, .ref mk, .ref os, .long ch, .long gd]))] [] em [.ref x, .int p0, .int p1, .int p2, .ref ot]) (va_Qi (fun (r : Int32) (_ : Unit) => r = nI 1) (fun _ _ => True) NA) 1 6 NA := by
  refine zwb (cc := cL_tell) (maxL := 6) (ret := (some .int)) (hh := [(0, 12, 15, 13), (0, 12, 19, 15)]) (by decide) rfl (Nat.le_of_ble_eq_true rfl) ?_
  intro p e s m below meth c ls htab hx hb hml hr hlocks hown hts hP hK hG hH hl
  have hl : lv_has ls 6 [(0, .ref x), (1, .int p0), (2, .int p1), (3, .int p2), (4, .ref ot)] := hl
  have k_0 := hts (.classLink RL 13 "java/lang/IllegalArgumentException") (List.mem_of_getElem? (i := 1) rfl)
  refine lv_aload hx hb dL_tell_0 (lv_at hl 4 rfl) ?_
  refine lv_iconst (v := nI 0) hx hb dL_tell_2 (by decide) ?_
  refine lv_aload_n hx hb dL_tell_3 rfl (lv_at hl 0 rfl) ?_
  refine lv_iload_n hx hb dL_tell_4 rfl (lv_at hl 1 rfl) ?_
  refine lv_iload_n hx hb dL_tell_5 rfl (lv_at hl 2 rfl) ?_
  refine lv_iload_n hx hb dL_tell_6 rfl (lv_at hl 3 rfl) ?_
  refine zcat (E := "java/lang/IllegalArgumentException") (own := RL) (name := "java/lang/IllegalArgumentException") [] ⟨0, 12, 15, 13⟩ [⟨0, 12, 19, 15⟩] (vx_runV (As := [.int p0, .int p1, .int p2]) (rest := [.int (nI 0), .ref ot]) ⟨hx, hb, hml, hown, hts⟩ (m_X5_tell_b0 l hnt D x p0 p1 p2 em (by first | omega | assumption)) (cwV 3 hts gL_tell_X5_tell rfl rfl rfl (by decide +kernel) ⟨Nat.le_of_ble_eq_true rfl, Nat.le_of_ble_eq_true rfl⟩) (zt_V (va_recv hK hP (ci := 5) (q0 := 0) rfl rfl) (hP.sub (ws' := []) [] rfl) (hK.sub (tys' := []) [] rfl) hG hH) rfl rfl hl.1 rfl (lv_room (Nat.le_of_ble_eq_true rfl)) dL_tell_7 ⟨Nat.le_of_ble_eq_true rfl, Nat.le_of_ble_eq_true rfl⟩) hown (htab.trans rfl) (fun z hz => absurd hz List.not_mem_nil) (by decide) (by decide) k_0 (va_Nw.use rfl (hG.2.1 ("java/lang/IllegalArgumentException", "java/lang/IllegalArgumentException") (by decide +kernel))) (fun H locs q9 hS => ?_)
  refine lv_astore (lv' := [(5, .ref q9), (0, .ref x), (1, .int p0), (2, .int p1), (3, .int p2), (4, .ref ot)]) hx hb dL_tell_15 hl (by decide) rfl (fun ls hl => ?_)
  refine lv_iconst (v := nI 1) hx hb dL_tell_17 (by decide) ?_
  exact zretBi hx hb hr hlocks (fun _ _ _ => trivial) hS dL_tell_18 (Nat.le_of_ble_eq_true rfl) (Nat.le_of_ble_eq_true rfl) rfl

set_option maxHeartbeats 4000000 in
set_option maxRecDepth 100000 in
/-- law: tell: b1 -/
theorem m_L_tell_b1 (l : Launch) (hnt : l.stackTraces = false) (D : va_G) (x pr mk os : Nat) (ch gd : Int64) (p0 p1 p2 : Int32) (em : Nat) (ot : Nat) (h0 : k_isBid p0 = nI 1) (h1 : k_isBid p1 = nI 0) : Met l yL_tell wsL_tell ({ frames := 7, cells := 1, slots := 6, locals := 115 }) (zt D [(x, .inr (5, [.ref pr, .ref mk, .ref os, .long ch, .long gd]))] [] em [.ref x, .int p0, .int p1, .int p2, .ref ot]) (va_Qi (fun (r : Int32) (_ : Unit) => r = nI 1) (fun _ _ => True) NA) 1 6 NA := by
  refine zwb (cc := cL_tell) (maxL := 6) (ret := (some .int)) (hh := [(0, 12, 15, 13), (0, 12, 19, 15)]) (by decide) rfl (Nat.le_of_ble_eq_true rfl) ?_
  intro p e s m below meth c ls htab hx hb hml hr hlocks hown hts hP hK hG hH hl
  have hl : lv_has ls 6 [(0, .ref x), (1, .int p0), (2, .int p1), (3, .int p2), (4, .ref ot)] := hl
  have k_0 := hts (.classLink RL 13 "java/lang/IllegalArgumentException") (List.mem_of_getElem? (i := 1) rfl)
  refine lv_aload hx hb dL_tell_0 (lv_at hl 4 rfl) ?_
  refine lv_iconst (v := nI 0) hx hb dL_tell_2 (by decide) ?_
  refine lv_aload_n hx hb dL_tell_3 rfl (lv_at hl 0 rfl) ?_
  refine lv_iload_n hx hb dL_tell_4 rfl (lv_at hl 1 rfl) ?_
  refine lv_iload_n hx hb dL_tell_5 rfl (lv_at hl 2 rfl) ?_
  refine lv_iload_n hx hb dL_tell_6 rfl (lv_at hl 3 rfl) ?_
  refine zcat (E := "java/lang/IllegalArgumentException") (own := RL) (name := "java/lang/IllegalArgumentException") [] ⟨0, 12, 15, 13⟩ [⟨0, 12, 19, 15⟩] (vx_runV (As := [.int p0, .int p1, .int p2]) (rest := [.int (nI 0), .ref ot]) ⟨hx, hb, hml, hown, hts⟩ (m_X5_tell_b1 l hnt D x p0 p1 p2 em (by first | omega | assumption) (by first | omega | assumption)) (cwV 3 hts gL_tell_X5_tell rfl rfl rfl (by decide +kernel) ⟨Nat.le_of_ble_eq_true rfl, Nat.le_of_ble_eq_true rfl⟩) (zt_V (va_recv hK hP (ci := 5) (q0 := 0) rfl rfl) (hP.sub (ws' := []) [] rfl) (hK.sub (tys' := []) [] rfl) hG hH) rfl rfl hl.1 rfl (lv_room (Nat.le_of_ble_eq_true rfl)) dL_tell_7 ⟨Nat.le_of_ble_eq_true rfl, Nat.le_of_ble_eq_true rfl⟩) hown (htab.trans rfl) (fun z hz => absurd hz List.not_mem_nil) (by decide) (by decide) k_0 (va_Nw.use rfl (hG.2.1 ("java/lang/IllegalArgumentException", "java/lang/IllegalArgumentException") (by decide +kernel))) (fun H locs q9 hS => ?_)
  refine lv_astore (lv' := [(5, .ref q9), (0, .ref x), (1, .int p0), (2, .int p1), (3, .int p2), (4, .ref ot)]) hx hb dL_tell_15 hl (by decide) rfl (fun ls hl => ?_)
  refine lv_iconst (v := nI 1) hx hb dL_tell_17 (by decide) ?_
  exact zretBi hx hb hr hlocks (fun _ _ _ => trivial) hS dL_tell_18 (Nat.le_of_ble_eq_true rfl) (Nat.le_of_ble_eq_true rfl) rfl

set_option maxHeartbeats 4000000 in
set_option maxRecDepth 100000 in
/-- law: tell: b2 -/
theorem m_L_tell_b2 (l : Launch) (hnt : l.stackTraces = false) (D : va_G) (x pr mk os : Nat) (ch gd : Int64) (p0 p1 p2 : Int32) (em : Nat) (ot : Nat) (h0 : k_isBid p0 = nI 1) (h1 : k_isBid p1 = nI 1) (h2 : k_isBid p2 = nI 0) : Met l yL_tell wsL_tell ({ frames := 7, cells := 1, slots := 6, locals := 115 }) (zt D [(x, .inr (5, [.ref pr, .ref mk, .ref os, .long ch, .long gd]))] [] em [.ref x, .int p0, .int p1, .int p2, .ref ot]) (va_Qi (fun (r : Int32) (_ : Unit) => r = nI 1) (fun _ _ => True) NA) 1 6 NA := by
  refine zwb (cc := cL_tell) (maxL := 6) (ret := (some .int)) (hh := [(0, 12, 15, 13), (0, 12, 19, 15)]) (by decide) rfl (Nat.le_of_ble_eq_true rfl) ?_
  intro p e s m below meth c ls htab hx hb hml hr hlocks hown hts hP hK hG hH hl
  have hl : lv_has ls 6 [(0, .ref x), (1, .int p0), (2, .int p1), (3, .int p2), (4, .ref ot)] := hl
  have k_0 := hts (.classLink RL 13 "java/lang/IllegalArgumentException") (List.mem_of_getElem? (i := 1) rfl)
  refine lv_aload hx hb dL_tell_0 (lv_at hl 4 rfl) ?_
  refine lv_iconst (v := nI 0) hx hb dL_tell_2 (by decide) ?_
  refine lv_aload_n hx hb dL_tell_3 rfl (lv_at hl 0 rfl) ?_
  refine lv_iload_n hx hb dL_tell_4 rfl (lv_at hl 1 rfl) ?_
  refine lv_iload_n hx hb dL_tell_5 rfl (lv_at hl 2 rfl) ?_
  refine lv_iload_n hx hb dL_tell_6 rfl (lv_at hl 3 rfl) ?_
  refine zcat (E := "java/lang/IllegalArgumentException") (own := RL) (name := "java/lang/IllegalArgumentException") [] ⟨0, 12, 15, 13⟩ [⟨0, 12, 19, 15⟩] (vx_runV (As := [.int p0, .int p1, .int p2]) (rest := [.int (nI 0), .ref ot]) ⟨hx, hb, hml, hown, hts⟩ (m_X5_tell_b2 l hnt D x p0 p1 p2 em (by first | omega | assumption) (by first | omega | assumption) (by first | omega | assumption)) (cwV 3 hts gL_tell_X5_tell rfl rfl rfl (by decide +kernel) ⟨Nat.le_of_ble_eq_true rfl, Nat.le_of_ble_eq_true rfl⟩) (zt_V (va_recv hK hP (ci := 5) (q0 := 0) rfl rfl) (hP.sub (ws' := []) [] rfl) (hK.sub (tys' := []) [] rfl) hG hH) rfl rfl hl.1 rfl (lv_room (Nat.le_of_ble_eq_true rfl)) dL_tell_7 ⟨Nat.le_of_ble_eq_true rfl, Nat.le_of_ble_eq_true rfl⟩) hown (htab.trans rfl) (fun z hz => absurd hz List.not_mem_nil) (by decide) (by decide) k_0 (va_Nw.use rfl (hG.2.1 ("java/lang/IllegalArgumentException", "java/lang/IllegalArgumentException") (by decide +kernel))) (fun H locs q9 hS => ?_)
  refine lv_astore (lv' := [(5, .ref q9), (0, .ref x), (1, .int p0), (2, .int p1), (3, .int p2), (4, .ref ot)]) hx hb dL_tell_15 hl (by decide) rfl (fun ls hl => ?_)
  refine lv_iconst (v := nI 1) hx hb dL_tell_17 (by decide) ?_
  exact zretBi hx hb hr hlocks (fun _ _ _ => trivial) hS dL_tell_18 (Nat.le_of_ble_eq_true rfl) (Nat.le_of_ble_eq_true rfl) rfl

set_option maxHeartbeats 4000000 in
set_option maxRecDepth 100000 in
/-- law: tell: full -/
theorem m_L_tell_full (l : Launch) (hnt : l.stackTraces = false) (D : va_G) (x pr mk os : Nat) (ch gd : Int64) (bd : Nat) (t : Nat) (p0 p1 p2 : Int32) (em : Nat) (ot : Nat) (h0 : k_isBid p0 = nI 1) (h1 : k_isBid p1 = nI 1) (h2 : k_isBid p2 = nI 1) (ht : t = 2000) : Met l yL_tell wsL_tell ({ frames := 7, cells := 1, slots := 6, locals := 115 }) (zt D [(x, .inr (5, [.ref pr, .ref mk, .ref os, .long ch, .long gd])), (pr, .inr (3, [.ref bd, .int (nI t)]))] [] em [.ref x, .int p0, .int p1, .int p2, .ref ot]) (va_Qi (fun (r : Int32) (_ : Unit) => r = nI 2) (fun _ _ => True) NA) 1 6 NA := by
  refine zwb (cc := cL_tell) (maxL := 6) (ret := (some .int)) (hh := [(0, 12, 15, 13), (0, 12, 19, 15)]) (by decide) rfl (Nat.le_of_ble_eq_true rfl) ?_
  intro p e s m below meth c ls htab hx hb hml hr hlocks hown hts hP hK hG hH hl
  have hl : lv_has ls 6 [(0, .ref x), (1, .int p0), (2, .int p1), (3, .int p2), (4, .ref ot)] := hl
  have k_0 := hts (.classLink RL 13 "java/lang/IllegalArgumentException") (List.mem_of_getElem? (i := 1) rfl)
  have k_1 := hts (.classLink RL 15 "java/lang/IllegalStateException") (List.mem_of_getElem? (i := 2) rfl)
  refine lv_aload hx hb dL_tell_0 (lv_at hl 4 rfl) ?_
  refine lv_iconst (v := nI 0) hx hb dL_tell_2 (by decide) ?_
  refine lv_aload_n hx hb dL_tell_3 rfl (lv_at hl 0 rfl) ?_
  refine lv_iload_n hx hb dL_tell_4 rfl (lv_at hl 1 rfl) ?_
  refine lv_iload_n hx hb dL_tell_5 rfl (lv_at hl 2 rfl) ?_
  refine lv_iload_n hx hb dL_tell_6 rfl (lv_at hl 3 rfl) ?_
  refine zcat (E := "java/lang/IllegalStateException") (own := RL) (name := "java/lang/IllegalStateException") [⟨0, 12, 15, 13⟩] ⟨0, 12, 19, 15⟩ [] (vx_runV (As := [.int p0, .int p1, .int p2]) (rest := [.int (nI 0), .ref ot]) ⟨hx, hb, hml, hown, hts⟩ (m_X5_tell_full l hnt D x pr mk os ch gd bd t p0 p1 p2 em (by first | omega | assumption) (by first | omega | assumption) (by first | omega | assumption) (by first | omega | assumption)) (cwV 3 hts gL_tell_X5_tell rfl rfl rfl (by decide +kernel) ⟨Nat.le_of_ble_eq_true rfl, Nat.le_of_ble_eq_true rfl⟩) (zt_V (va_recv hK hP (ci := 5) (q0 := 0) rfl rfl) (hP.sub (ws' := [(x, .inr (5, [.ref pr, .ref mk, .ref os, .long ch, .long gd])), (pr, .inr (3, [.ref bd, .int (nI t)]))]) [0, 1] rfl) (hK.sub (tys' := []) [] rfl) hG hH) rfl rfl hl.1 rfl (lv_room (Nat.le_of_ble_eq_true rfl)) dL_tell_7 ⟨Nat.le_of_ble_eq_true rfl, Nat.le_of_ble_eq_true rfl⟩) hown (htab.trans rfl) (by intro z hz; simp only [List.mem_cons, List.not_mem_nil, or_false] at hz; subst hz; exact Or.inr ⟨by decide, "java/lang/IllegalArgumentException", k_0, hG.2.2.1 ("java/lang/IllegalStateException", "java/lang/IllegalArgumentException") (by decide +kernel)⟩) (by decide) (by decide) k_1 (va_Nw.use rfl (hG.2.1 ("java/lang/IllegalStateException", "java/lang/IllegalStateException") (by decide +kernel))) (fun H locs q9 hS => ?_)
  refine lv_astore (lv' := [(5, .ref q9), (0, .ref x), (1, .int p0), (2, .int p1), (3, .int p2), (4, .ref ot)]) hx hb dL_tell_19 hl (by decide) rfl (fun ls hl => ?_)
  refine lv_iconst (v := nI 2) hx hb dL_tell_21 (by decide) ?_
  exact zretBi hx hb hr hlocks (fun _ _ _ => trivial) hS dL_tell_22 (Nat.le_of_ble_eq_true rfl) (Nat.le_of_ble_eq_true rfl) rfl

set_option maxHeartbeats 4000000 in
set_option maxRecDepth 100000 in
/-- law: pass: b -/
theorem m_L_pass_b (l : Launch) (hnt : l.stackTraces = false) (D : va_G) (x pr mk os : Nat) (ch gd : Int64) (z : Int32) (em : Nat) (ot : Nat) (h0 : k_isIn z (nI 1) (nI 400) = nI 0) : Met l yL_pass wsL_pass ({ frames := 7, cells := 1, slots := 6, locals := 115 }) (zt D [(x, .inr (5, [.ref pr, .ref mk, .ref os, .long ch, .long gd]))] [] em [.ref x, .int z, .ref ot]) (va_Qi (fun (r : Int32) (_ : Unit) => r = nI 1) (fun _ _ => True) NA) 1 6 NA := by
  refine zwb (cc := cL_pass) (maxL := 4) (ret := (some .int)) (hh := [(0, 9, 12, 13), (0, 9, 15, 15)]) (by decide) rfl (Nat.le_of_ble_eq_true rfl) ?_
  intro p e s m below meth c ls htab hx hb hml hr hlocks hown hts hP hK hG hH hl
  have hl : lv_has ls 4 [(0, .ref x), (1, .int z), (2, .ref ot)] := hl
  have k_0 := hts (.classLink RL 13 "java/lang/IllegalArgumentException") (List.mem_of_getElem? (i := 1) rfl)
  refine lv_aload_n hx hb dL_pass_0 rfl (lv_at hl 2 rfl) ?_
  refine lv_iconst (v := nI 0) hx hb dL_pass_1 (by decide) ?_
  refine lv_aload_n hx hb dL_pass_2 rfl (lv_at hl 0 rfl) ?_
  refine lv_iload_n hx hb dL_pass_3 rfl (lv_at hl 1 rfl) ?_
  refine zcat (E := "java/lang/IllegalArgumentException") (own := RL) (name := "java/lang/IllegalArgumentException") [] ⟨0, 9, 12, 13⟩ [⟨0, 9, 15, 15⟩] (vx_runV (As := [.int z]) (rest := [.int (nI 0), .ref ot]) ⟨hx, hb, hml, hown, hts⟩ (m_X5_pass_b l hnt D x z em (by first | omega | assumption)) (cwV 1 hts gL_pass_X5_pass rfl rfl rfl (by decide +kernel) ⟨Nat.le_of_ble_eq_true rfl, Nat.le_of_ble_eq_true rfl⟩) (zt_V (va_recv hK hP (ci := 5) (q0 := 0) rfl rfl) (hP.sub (ws' := []) [] rfl) (hK.sub (tys' := []) [] rfl) hG hH) rfl rfl hl.1 rfl (lv_room (Nat.le_of_ble_eq_true rfl)) dL_pass_4 ⟨Nat.le_of_ble_eq_true rfl, Nat.le_of_ble_eq_true rfl⟩) hown (htab.trans rfl) (fun z hz => absurd hz List.not_mem_nil) (by decide) (by decide) k_0 (va_Nw.use rfl (hG.2.1 ("java/lang/IllegalArgumentException", "java/lang/IllegalArgumentException") (by decide +kernel))) (fun H locs q9 hS => ?_)
  refine lv_astore_n (lv' := [(3, .ref q9), (0, .ref x), (1, .int z), (2, .ref ot)]) hx hb dL_pass_12 rfl hl (by decide) rfl (fun ls hl => ?_)
  refine lv_iconst (v := nI 1) hx hb dL_pass_13 (by decide) ?_
  exact zretBi hx hb hr hlocks (fun _ _ _ => trivial) hS dL_pass_14 (Nat.le_of_ble_eq_true rfl) (Nat.le_of_ble_eq_true rfl) rfl

set_option maxHeartbeats 4000000 in
set_option maxRecDepth 100000 in
/-- law: pass: full -/
theorem m_L_pass_full (l : Launch) (hnt : l.stackTraces = false) (D : va_G) (x pr mk os : Nat) (ch gd : Int64) (bd : Nat) (t : Nat) (dd : Nat) (em : Nat) (ot : Nat) (hd1 : 1 ≤ dd) (hd2 : dd ≤ 400) (ht : t + dd > 2000) (ht2 : t ≤ 2000) : Met l yL_pass wsL_pass ({ frames := 7, cells := 1, slots := 6, locals := 115 }) (zt D [(x, .inr (5, [.ref pr, .ref mk, .ref os, .long ch, .long gd])), (pr, .inr (3, [.ref bd, .int (nI t)]))] [] em [.ref x, .int (nI dd), .ref ot]) (va_Qi (fun (r : Int32) (_ : Unit) => r = nI 2) (fun _ _ => True) NA) 1 6 NA := by
  refine zwb (cc := cL_pass) (maxL := 4) (ret := (some .int)) (hh := [(0, 9, 12, 13), (0, 9, 15, 15)]) (by decide) rfl (Nat.le_of_ble_eq_true rfl) ?_
  intro p e s m below meth c ls htab hx hb hml hr hlocks hown hts hP hK hG hH hl
  have hl : lv_has ls 4 [(0, .ref x), (1, .int (nI dd)), (2, .ref ot)] := hl
  have k_0 := hts (.classLink RL 13 "java/lang/IllegalArgumentException") (List.mem_of_getElem? (i := 1) rfl)
  have k_1 := hts (.classLink RL 15 "java/lang/IllegalStateException") (List.mem_of_getElem? (i := 2) rfl)
  refine lv_aload_n hx hb dL_pass_0 rfl (lv_at hl 2 rfl) ?_
  refine lv_iconst (v := nI 0) hx hb dL_pass_1 (by decide) ?_
  refine lv_aload_n hx hb dL_pass_2 rfl (lv_at hl 0 rfl) ?_
  refine lv_iload_n hx hb dL_pass_3 rfl (lv_at hl 1 rfl) ?_
  refine zcat (E := "java/lang/IllegalStateException") (own := RL) (name := "java/lang/IllegalStateException") [⟨0, 9, 12, 13⟩] ⟨0, 9, 15, 15⟩ [] (vx_runV (As := [.int (nI dd)]) (rest := [.int (nI 0), .ref ot]) ⟨hx, hb, hml, hown, hts⟩ (m_X5_pass_full l hnt D x pr mk os ch gd bd t dd em (by first | omega | assumption) (by first | omega | assumption) (by first | omega | assumption) (by first | omega | assumption)) (cwV 1 hts gL_pass_X5_pass rfl rfl rfl (by decide +kernel) ⟨Nat.le_of_ble_eq_true rfl, Nat.le_of_ble_eq_true rfl⟩) (zt_V (va_recv hK hP (ci := 5) (q0 := 0) rfl rfl) (hP.sub (ws' := [(x, .inr (5, [.ref pr, .ref mk, .ref os, .long ch, .long gd])), (pr, .inr (3, [.ref bd, .int (nI t)]))]) [0, 1] rfl) (hK.sub (tys' := []) [] rfl) hG hH) rfl rfl hl.1 rfl (lv_room (Nat.le_of_ble_eq_true rfl)) dL_pass_4 ⟨Nat.le_of_ble_eq_true rfl, Nat.le_of_ble_eq_true rfl⟩) hown (htab.trans rfl) (by intro z hz; simp only [List.mem_cons, List.not_mem_nil, or_false] at hz; subst hz; exact Or.inr ⟨by decide, "java/lang/IllegalArgumentException", k_0, hG.2.2.1 ("java/lang/IllegalStateException", "java/lang/IllegalArgumentException") (by decide +kernel)⟩) (by decide) (by decide) k_1 (va_Nw.use rfl (hG.2.1 ("java/lang/IllegalStateException", "java/lang/IllegalStateException") (by decide +kernel))) (fun H locs q9 hS => ?_)
  refine lv_astore_n (lv' := [(3, .ref q9), (0, .ref x), (1, .int (nI dd)), (2, .ref ot)]) hx hb dL_pass_15 rfl hl (by decide) rfl (fun ls hl => ?_)
  refine lv_iconst (v := nI 2) hx hb dL_pass_16 (by decide) ?_
  exact zretBi hx hb hr hlocks (fun _ _ _ => trivial) hS dL_pass_17 (Nat.le_of_ble_eq_true rfl) (Nat.le_of_ble_eq_true rfl) rfl

set_option maxHeartbeats 4000000 in
set_option maxRecDepth 100000 in
/-- law: offer: b0 -/
theorem m_L_offer_b0 (l : Launch) (hnt : l.stackTraces = false) (D : va_G) (x pr mk os : Nat) (ch gd : Int64) (z y : Int32) (em : Nat) (ot : Nat) (h0 : k_isFund z = nI 0) : Met l yL_offer wsL_offer ({ frames := 8, cells := 1, slots := 6, locals := 134 }) (zt D [(x, .inr (5, [.ref pr, .ref mk, .ref os, .long ch, .long gd]))] [] em [.ref x, .int z, .int y, .ref ot]) (va_Qi (fun (r : Int32) (_ : Unit) => r = nI 1) (fun _ _ => True) NA) 1 6 NA := by
  refine zwb (cc := cL_offer) (maxL := 5) (ret := (some .int)) (hh := [(0, 10, 13, 13)]) (by decide) rfl (Nat.le_of_ble_eq_true rfl) ?_
  intro p e s m below meth c ls htab hx hb hml hr hlocks hown hts hP hK hG hH hl
  have hl : lv_has ls 5 [(0, .ref x), (1, .int z), (2, .int y), (3, .ref ot)] := hl
  have k_0 := hts (.classLink RL 13 "java/lang/IllegalArgumentException") (List.mem_of_getElem? (i := 1) rfl)
  refine lv_aload_n hx hb dL_offer_0 rfl (lv_at hl 3 rfl) ?_
  refine lv_iconst (v := nI 0) hx hb dL_offer_1 (by decide) ?_
  refine lv_aload_n hx hb dL_offer_2 rfl (lv_at hl 0 rfl) ?_
  refine lv_iload_n hx hb dL_offer_3 rfl (lv_at hl 1 rfl) ?_
  refine lv_iload_n hx hb dL_offer_4 rfl (lv_at hl 2 rfl) ?_
  refine zcat (E := "java/lang/IllegalArgumentException") (own := RL) (name := "java/lang/IllegalArgumentException") [] ⟨0, 10, 13, 13⟩ [] (vx_runV (As := [.int z, .int y]) (rest := [.int (nI 0), .ref ot]) ⟨hx, hb, hml, hown, hts⟩ (m_X5_offer_b0 l hnt D x z y em (by first | omega | assumption)) (cwV 2 hts gL_offer_X5_offer rfl rfl rfl (by decide +kernel) ⟨Nat.le_of_ble_eq_true rfl, Nat.le_of_ble_eq_true rfl⟩) (zt_V (va_recv hK hP (ci := 5) (q0 := 0) rfl rfl) (hP.sub (ws' := []) [] rfl) (hK.sub (tys' := []) [] rfl) hG hH) rfl rfl hl.1 rfl (lv_room (Nat.le_of_ble_eq_true rfl)) dL_offer_5 ⟨Nat.le_of_ble_eq_true rfl, Nat.le_of_ble_eq_true rfl⟩) hown (htab.trans rfl) (fun z hz => absurd hz List.not_mem_nil) (by decide) (by decide) k_0 (va_Nw.use rfl (hG.2.1 ("java/lang/IllegalArgumentException", "java/lang/IllegalArgumentException") (by decide +kernel))) (fun H locs q9 hS => ?_)
  refine lv_astore (lv' := [(4, .ref q9), (0, .ref x), (1, .int z), (2, .int y), (3, .ref ot)]) hx hb dL_offer_13 hl (by decide) rfl (fun ls hl => ?_)
  refine lv_iconst (v := nI 1) hx hb dL_offer_15 (by decide) ?_
  exact zretBi hx hb hr hlocks (fun _ _ _ => trivial) hS dL_offer_16 (Nat.le_of_ble_eq_true rfl) (Nat.le_of_ble_eq_true rfl) rfl

set_option maxHeartbeats 4000000 in
set_option maxRecDepth 100000 in
/-- law: offer: b1 -/
theorem m_L_offer_b1 (l : Launch) (hnt : l.stackTraces = false) (D : va_G) (x pr mk os : Nat) (ch gd : Int64) (bd : Nat) (t : Nat) (q : Nat) (y : Int32) (em : Nat) (ot : Nat) (hq : q < 3) (h1 : k_isIn y (nI 0) (nI t) = nI 0) : Met l yL_offer wsL_offer ({ frames := 8, cells := 1, slots := 6, locals := 135 }) (zt D [(x, .inr (5, [.ref pr, .ref mk, .ref os, .long ch, .long gd])), (pr, .inr (3, [.ref bd, .int (nI t)]))] [] em [.ref x, .int (nI q), .int y, .ref ot]) (va_Qi (fun (r : Int32) (_ : Unit) => r = nI 1) (fun _ _ => True) NA) 1 6 NA := by
  refine zwb (cc := cL_offer) (maxL := 5) (ret := (some .int)) (hh := [(0, 10, 13, 13)]) (by decide) rfl (Nat.le_of_ble_eq_true rfl) ?_
  intro p e s m below meth c ls htab hx hb hml hr hlocks hown hts hP hK hG hH hl
  have hl : lv_has ls 5 [(0, .ref x), (1, .int (nI q)), (2, .int y), (3, .ref ot)] := hl
  have k_0 := hts (.classLink RL 13 "java/lang/IllegalArgumentException") (List.mem_of_getElem? (i := 1) rfl)
  refine lv_aload_n hx hb dL_offer_0 rfl (lv_at hl 3 rfl) ?_
  refine lv_iconst (v := nI 0) hx hb dL_offer_1 (by decide) ?_
  refine lv_aload_n hx hb dL_offer_2 rfl (lv_at hl 0 rfl) ?_
  refine lv_iload_n hx hb dL_offer_3 rfl (lv_at hl 1 rfl) ?_
  refine lv_iload_n hx hb dL_offer_4 rfl (lv_at hl 2 rfl) ?_
  refine zcat (E := "java/lang/IllegalArgumentException") (own := RL) (name := "java/lang/IllegalArgumentException") [] ⟨0, 10, 13, 13⟩ [] (vx_runV (As := [.int (nI q), .int y]) (rest := [.int (nI 0), .ref ot]) ⟨hx, hb, hml, hown, hts⟩ (m_X5_offer_b1 l hnt D x pr mk os ch gd bd t q y em (by first | omega | assumption) (by first | omega | assumption)) (cwV 2 hts gL_offer_X5_offer rfl rfl rfl (by decide +kernel) ⟨Nat.le_of_ble_eq_true rfl, Nat.le_of_ble_eq_true rfl⟩) (zt_V (va_recv hK hP (ci := 5) (q0 := 0) rfl rfl) (hP.sub (ws' := [(x, .inr (5, [.ref pr, .ref mk, .ref os, .long ch, .long gd])), (pr, .inr (3, [.ref bd, .int (nI t)]))]) [0, 1] rfl) (hK.sub (tys' := []) [] rfl) hG hH) rfl rfl hl.1 rfl (lv_room (Nat.le_of_ble_eq_true rfl)) dL_offer_5 ⟨Nat.le_of_ble_eq_true rfl, Nat.le_of_ble_eq_true rfl⟩) hown (htab.trans rfl) (fun z hz => absurd hz List.not_mem_nil) (by decide) (by decide) k_0 (va_Nw.use rfl (hG.2.1 ("java/lang/IllegalArgumentException", "java/lang/IllegalArgumentException") (by decide +kernel))) (fun H locs q9 hS => ?_)
  refine lv_astore (lv' := [(4, .ref q9), (0, .ref x), (1, .int (nI q)), (2, .int y), (3, .ref ot)]) hx hb dL_offer_13 hl (by decide) rfl (fun ls hl => ?_)
  refine lv_iconst (v := nI 1) hx hb dL_offer_15 (by decide) ?_
  exact zretBi hx hb hr hlocks (fun _ _ _ => trivial) hS dL_offer_16 (Nat.le_of_ble_eq_true rfl) (Nat.le_of_ble_eq_true rfl) rfl

set_option maxHeartbeats 4000000 in
set_option maxRecDepth 100000 in
/-- law: make: b0 -/
theorem m_L_make_b0 (l : Launch) (hnt : l.stackTraces = false) (D : va_G) (x pr mk os : Nat) (ch gd : Int64) (pm sm rt z : Int32) (em : Nat) (ot : Nat) (h0 : k_isIn pm (nI 100) (nI 100000) = nI 0) : Met l yL_make wsL_make ({ frames := 7, cells := 1, slots := 6, locals := 116 }) (zt D [(x, .inr (5, [.ref pr, .ref mk, .ref os, .long ch, .long gd]))] [] em [.ref x, .int pm, .int sm, .int rt, .int z, .ref ot]) (va_Qi (fun (r : Int32) (_ : Unit) => r = nI 1) (fun _ _ => True) NA) 1 6 NA := by
  refine zwb (cc := cL_make) (maxL := 7) (ret := (some .int)) (hh := [(0, 14, 17, 13), (0, 14, 21, 15)]) (by decide) rfl (Nat.le_of_ble_eq_true rfl) ?_
  intro p e s m below meth c ls htab hx hb hml hr hlocks hown hts hP hK hG hH hl
  have hl : lv_has ls 7 [(0, .ref x), (1, .int pm), (2, .int sm), (3, .int rt), (4, .int z), (5, .ref ot)] := hl
  have k_0 := hts (.classLink RL 13 "java/lang/IllegalArgumentException") (List.mem_of_getElem? (i := 1) rfl)
  refine lv_aload hx hb dL_make_0 (lv_at hl 5 rfl) ?_
  refine lv_iconst (v := nI 0) hx hb dL_make_2 (by decide) ?_
  refine lv_aload_n hx hb dL_make_3 rfl (lv_at hl 0 rfl) ?_
  refine lv_iload_n hx hb dL_make_4 rfl (lv_at hl 1 rfl) ?_
  refine lv_iload_n hx hb dL_make_5 rfl (lv_at hl 2 rfl) ?_
  refine lv_iload_n hx hb dL_make_6 rfl (lv_at hl 3 rfl) ?_
  refine lv_iload hx hb dL_make_7 (lv_at hl 4 rfl) ?_
  refine zcat (E := "java/lang/IllegalArgumentException") (own := RL) (name := "java/lang/IllegalArgumentException") [] ⟨0, 14, 17, 13⟩ [⟨0, 14, 21, 15⟩] (vx_runV (As := [.int pm, .int sm, .int rt, .int z]) (rest := [.int (nI 0), .ref ot]) ⟨hx, hb, hml, hown, hts⟩ (m_X5_make_b0 l hnt D x pm sm rt z em (by first | omega | assumption)) (cwV 4 hts gL_make_X5_make rfl rfl rfl (by decide +kernel) ⟨Nat.le_of_ble_eq_true rfl, Nat.le_of_ble_eq_true rfl⟩) (zt_V (va_recv hK hP (ci := 5) (q0 := 0) rfl rfl) (hP.sub (ws' := []) [] rfl) (hK.sub (tys' := []) [] rfl) hG hH) rfl rfl hl.1 rfl (lv_room (Nat.le_of_ble_eq_true rfl)) dL_make_9 ⟨Nat.le_of_ble_eq_true rfl, Nat.le_of_ble_eq_true rfl⟩) hown (htab.trans rfl) (fun z hz => absurd hz List.not_mem_nil) (by decide) (by decide) k_0 (va_Nw.use rfl (hG.2.1 ("java/lang/IllegalArgumentException", "java/lang/IllegalArgumentException") (by decide +kernel))) (fun H locs q9 hS => ?_)
  refine lv_astore (lv' := [(6, .ref q9), (0, .ref x), (1, .int pm), (2, .int sm), (3, .int rt), (4, .int z), (5, .ref ot)]) hx hb dL_make_17 hl (by decide) rfl (fun ls hl => ?_)
  refine lv_iconst (v := nI 1) hx hb dL_make_19 (by decide) ?_
  exact zretBi hx hb hr hlocks (fun _ _ _ => trivial) hS dL_make_20 (Nat.le_of_ble_eq_true rfl) (Nat.le_of_ble_eq_true rfl) rfl

set_option maxHeartbeats 4000000 in
set_option maxRecDepth 100000 in
/-- law: make: b1 -/
theorem m_L_make_b1 (l : Launch) (hnt : l.stackTraces = false) (D : va_G) (x pr mk os : Nat) (ch gd : Int64) (pm sm rt z : Int32) (em : Nat) (ot : Nat) (h0 : k_isIn pm (nI 100) (nI 100000) = nI 1) (h1 : k_isIn sm (nI 0) (nI 1000000) = nI 0) : Met l yL_make wsL_make ({ frames := 7, cells := 1, slots := 6, locals := 116 }) (zt D [(x, .inr (5, [.ref pr, .ref mk, .ref os, .long ch, .long gd]))] [] em [.ref x, .int pm, .int sm, .int rt, .int z, .ref ot]) (va_Qi (fun (r : Int32) (_ : Unit) => r = nI 1) (fun _ _ => True) NA) 1 6 NA := by
  refine zwb (cc := cL_make) (maxL := 7) (ret := (some .int)) (hh := [(0, 14, 17, 13), (0, 14, 21, 15)]) (by decide) rfl (Nat.le_of_ble_eq_true rfl) ?_
  intro p e s m below meth c ls htab hx hb hml hr hlocks hown hts hP hK hG hH hl
  have hl : lv_has ls 7 [(0, .ref x), (1, .int pm), (2, .int sm), (3, .int rt), (4, .int z), (5, .ref ot)] := hl
  have k_0 := hts (.classLink RL 13 "java/lang/IllegalArgumentException") (List.mem_of_getElem? (i := 1) rfl)
  refine lv_aload hx hb dL_make_0 (lv_at hl 5 rfl) ?_
  refine lv_iconst (v := nI 0) hx hb dL_make_2 (by decide) ?_
  refine lv_aload_n hx hb dL_make_3 rfl (lv_at hl 0 rfl) ?_
  refine lv_iload_n hx hb dL_make_4 rfl (lv_at hl 1 rfl) ?_
  refine lv_iload_n hx hb dL_make_5 rfl (lv_at hl 2 rfl) ?_
  refine lv_iload_n hx hb dL_make_6 rfl (lv_at hl 3 rfl) ?_
  refine lv_iload hx hb dL_make_7 (lv_at hl 4 rfl) ?_
  refine zcat (E := "java/lang/IllegalArgumentException") (own := RL) (name := "java/lang/IllegalArgumentException") [] ⟨0, 14, 17, 13⟩ [⟨0, 14, 21, 15⟩] (vx_runV (As := [.int pm, .int sm, .int rt, .int z]) (rest := [.int (nI 0), .ref ot]) ⟨hx, hb, hml, hown, hts⟩ (m_X5_make_b1 l hnt D x pm sm rt z em (by first | omega | assumption) (by first | omega | assumption)) (cwV 4 hts gL_make_X5_make rfl rfl rfl (by decide +kernel) ⟨Nat.le_of_ble_eq_true rfl, Nat.le_of_ble_eq_true rfl⟩) (zt_V (va_recv hK hP (ci := 5) (q0 := 0) rfl rfl) (hP.sub (ws' := []) [] rfl) (hK.sub (tys' := []) [] rfl) hG hH) rfl rfl hl.1 rfl (lv_room (Nat.le_of_ble_eq_true rfl)) dL_make_9 ⟨Nat.le_of_ble_eq_true rfl, Nat.le_of_ble_eq_true rfl⟩) hown (htab.trans rfl) (fun z hz => absurd hz List.not_mem_nil) (by decide) (by decide) k_0 (va_Nw.use rfl (hG.2.1 ("java/lang/IllegalArgumentException", "java/lang/IllegalArgumentException") (by decide +kernel))) (fun H locs q9 hS => ?_)
  refine lv_astore (lv' := [(6, .ref q9), (0, .ref x), (1, .int pm), (2, .int sm), (3, .int rt), (4, .int z), (5, .ref ot)]) hx hb dL_make_17 hl (by decide) rfl (fun ls hl => ?_)
  refine lv_iconst (v := nI 1) hx hb dL_make_19 (by decide) ?_
  exact zretBi hx hb hr hlocks (fun _ _ _ => trivial) hS dL_make_20 (Nat.le_of_ble_eq_true rfl) (Nat.le_of_ble_eq_true rfl) rfl

set_option maxHeartbeats 4000000 in
set_option maxRecDepth 100000 in
/-- law: make: b2 -/
theorem m_L_make_b2 (l : Launch) (hnt : l.stackTraces = false) (D : va_G) (x pr mk os : Nat) (ch gd : Int64) (pm sm rt z : Int32) (em : Nat) (ot : Nat) (h0 : k_isIn pm (nI 100) (nI 100000) = nI 1) (h1 : k_isIn sm (nI 0) (nI 1000000) = nI 1) (h2 : k_isIn rt (nI 0) (nI 1000) = nI 0) : Met l yL_make wsL_make ({ frames := 7, cells := 1, slots := 6, locals := 116 }) (zt D [(x, .inr (5, [.ref pr, .ref mk, .ref os, .long ch, .long gd]))] [] em [.ref x, .int pm, .int sm, .int rt, .int z, .ref ot]) (va_Qi (fun (r : Int32) (_ : Unit) => r = nI 1) (fun _ _ => True) NA) 1 6 NA := by
  refine zwb (cc := cL_make) (maxL := 7) (ret := (some .int)) (hh := [(0, 14, 17, 13), (0, 14, 21, 15)]) (by decide) rfl (Nat.le_of_ble_eq_true rfl) ?_
  intro p e s m below meth c ls htab hx hb hml hr hlocks hown hts hP hK hG hH hl
  have hl : lv_has ls 7 [(0, .ref x), (1, .int pm), (2, .int sm), (3, .int rt), (4, .int z), (5, .ref ot)] := hl
  have k_0 := hts (.classLink RL 13 "java/lang/IllegalArgumentException") (List.mem_of_getElem? (i := 1) rfl)
  refine lv_aload hx hb dL_make_0 (lv_at hl 5 rfl) ?_
  refine lv_iconst (v := nI 0) hx hb dL_make_2 (by decide) ?_
  refine lv_aload_n hx hb dL_make_3 rfl (lv_at hl 0 rfl) ?_
  refine lv_iload_n hx hb dL_make_4 rfl (lv_at hl 1 rfl) ?_
  refine lv_iload_n hx hb dL_make_5 rfl (lv_at hl 2 rfl) ?_
  refine lv_iload_n hx hb dL_make_6 rfl (lv_at hl 3 rfl) ?_
  refine lv_iload hx hb dL_make_7 (lv_at hl 4 rfl) ?_
  refine zcat (E := "java/lang/IllegalArgumentException") (own := RL) (name := "java/lang/IllegalArgumentException") [] ⟨0, 14, 17, 13⟩ [⟨0, 14, 21, 15⟩] (vx_runV (As := [.int pm, .int sm, .int rt, .int z]) (rest := [.int (nI 0), .ref ot]) ⟨hx, hb, hml, hown, hts⟩ (m_X5_make_b2 l hnt D x pm sm rt z em (by first | omega | assumption) (by first | omega | assumption) (by first | omega | assumption)) (cwV 4 hts gL_make_X5_make rfl rfl rfl (by decide +kernel) ⟨Nat.le_of_ble_eq_true rfl, Nat.le_of_ble_eq_true rfl⟩) (zt_V (va_recv hK hP (ci := 5) (q0 := 0) rfl rfl) (hP.sub (ws' := []) [] rfl) (hK.sub (tys' := []) [] rfl) hG hH) rfl rfl hl.1 rfl (lv_room (Nat.le_of_ble_eq_true rfl)) dL_make_9 ⟨Nat.le_of_ble_eq_true rfl, Nat.le_of_ble_eq_true rfl⟩) hown (htab.trans rfl) (fun z hz => absurd hz List.not_mem_nil) (by decide) (by decide) k_0 (va_Nw.use rfl (hG.2.1 ("java/lang/IllegalArgumentException", "java/lang/IllegalArgumentException") (by decide +kernel))) (fun H locs q9 hS => ?_)
  refine lv_astore (lv' := [(6, .ref q9), (0, .ref x), (1, .int pm), (2, .int sm), (3, .int rt), (4, .int z), (5, .ref ot)]) hx hb dL_make_17 hl (by decide) rfl (fun ls hl => ?_)
  refine lv_iconst (v := nI 1) hx hb dL_make_19 (by decide) ?_
  exact zretBi hx hb hr hlocks (fun _ _ _ => trivial) hS dL_make_20 (Nat.le_of_ble_eq_true rfl) (Nat.le_of_ble_eq_true rfl) rfl

set_option maxHeartbeats 4000000 in
set_option maxRecDepth 100000 in
/-- law: make: b3 -/
theorem m_L_make_b3 (l : Launch) (hnt : l.stackTraces = false) (D : va_G) (x pr mk os : Nat) (ch gd : Int64) (pm sm rt z : Int32) (em : Nat) (ot : Nat) (h0 : k_isIn pm (nI 100) (nI 100000) = nI 1) (h1 : k_isIn sm (nI 0) (nI 1000000) = nI 1) (h2 : k_isIn rt (nI 0) (nI 1000) = nI 1) (h3 : k_isFund z = nI 0) : Met l yL_make wsL_make ({ frames := 8, cells := 1, slots := 6, locals := 136 }) (zt D [(x, .inr (5, [.ref pr, .ref mk, .ref os, .long ch, .long gd]))] [] em [.ref x, .int pm, .int sm, .int rt, .int z, .ref ot]) (va_Qi (fun (r : Int32) (_ : Unit) => r = nI 1) (fun _ _ => True) NA) 1 6 NA := by
  refine zwb (cc := cL_make) (maxL := 7) (ret := (some .int)) (hh := [(0, 14, 17, 13), (0, 14, 21, 15)]) (by decide) rfl (Nat.le_of_ble_eq_true rfl) ?_
  intro p e s m below meth c ls htab hx hb hml hr hlocks hown hts hP hK hG hH hl
  have hl : lv_has ls 7 [(0, .ref x), (1, .int pm), (2, .int sm), (3, .int rt), (4, .int z), (5, .ref ot)] := hl
  have k_0 := hts (.classLink RL 13 "java/lang/IllegalArgumentException") (List.mem_of_getElem? (i := 1) rfl)
  refine lv_aload hx hb dL_make_0 (lv_at hl 5 rfl) ?_
  refine lv_iconst (v := nI 0) hx hb dL_make_2 (by decide) ?_
  refine lv_aload_n hx hb dL_make_3 rfl (lv_at hl 0 rfl) ?_
  refine lv_iload_n hx hb dL_make_4 rfl (lv_at hl 1 rfl) ?_
  refine lv_iload_n hx hb dL_make_5 rfl (lv_at hl 2 rfl) ?_
  refine lv_iload_n hx hb dL_make_6 rfl (lv_at hl 3 rfl) ?_
  refine lv_iload hx hb dL_make_7 (lv_at hl 4 rfl) ?_
  refine zcat (E := "java/lang/IllegalArgumentException") (own := RL) (name := "java/lang/IllegalArgumentException") [] ⟨0, 14, 17, 13⟩ [⟨0, 14, 21, 15⟩] (vx_runV (As := [.int pm, .int sm, .int rt, .int z]) (rest := [.int (nI 0), .ref ot]) ⟨hx, hb, hml, hown, hts⟩ (m_X5_make_b3 l hnt D x pm sm rt z em (by first | omega | assumption) (by first | omega | assumption) (by first | omega | assumption) (by first | omega | assumption)) (cwV 4 hts gL_make_X5_make rfl rfl rfl (by decide +kernel) ⟨Nat.le_of_ble_eq_true rfl, Nat.le_of_ble_eq_true rfl⟩) (zt_V (va_recv hK hP (ci := 5) (q0 := 0) rfl rfl) (hP.sub (ws' := []) [] rfl) (hK.sub (tys' := []) [] rfl) hG hH) rfl rfl hl.1 rfl (lv_room (Nat.le_of_ble_eq_true rfl)) dL_make_9 ⟨Nat.le_of_ble_eq_true rfl, Nat.le_of_ble_eq_true rfl⟩) hown (htab.trans rfl) (fun z hz => absurd hz List.not_mem_nil) (by decide) (by decide) k_0 (va_Nw.use rfl (hG.2.1 ("java/lang/IllegalArgumentException", "java/lang/IllegalArgumentException") (by decide +kernel))) (fun H locs q9 hS => ?_)
  refine lv_astore (lv' := [(6, .ref q9), (0, .ref x), (1, .int pm), (2, .int sm), (3, .int rt), (4, .int z), (5, .ref ot)]) hx hb dL_make_17 hl (by decide) rfl (fun ls hl => ?_)
  refine lv_iconst (v := nI 1) hx hb dL_make_19 (by decide) ?_
  exact zretBi hx hb hr hlocks (fun _ _ _ => trivial) hS dL_make_20 (Nat.le_of_ble_eq_true rfl) (Nat.le_of_ble_eq_true rfl) rfl

set_option maxHeartbeats 4000000 in
set_option maxRecDepth 100000 in
/-- law: make: full -/
theorem m_L_make_full (l : Launch) (hnt : l.stackTraces = false) (D : va_G) (x pr mk os : Nat) (ch gd : Int64) (mm : Int32) (em1 n : Nat) (pm sm rt : Int32) (q : Nat) (em : Nat) (ot : Nat) (h0 : k_isIn pm (nI 100) (nI 100000) = nI 1) (h1 : k_isIn sm (nI 0) (nI 1000000) = nI 1) (h2 : k_isIn rt (nI 0) (nI 1000) = nI 1) (hq : q < 3) (hn : n = 10) : Met l yL_make wsL_make ({ frames := 7, cells := 1, slots := 6, locals := 116 }) (zt D [(x, .inr (5, [.ref pr, .ref mk, .ref os, .long ch, .long gd])), (mk, .inr (0, [.int mm, .ref em1, .int (nI n)]))] [] em [.ref x, .int pm, .int sm, .int rt, .int (nI q), .ref ot]) (va_Qi (fun (r : Int32) (_ : Unit) => r = nI 2) (fun _ _ => True) NA) 1 6 NA := by
  refine zwb (cc := cL_make) (maxL := 7) (ret := (some .int)) (hh := [(0, 14, 17, 13), (0, 14, 21, 15)]) (by decide) rfl (Nat.le_of_ble_eq_true rfl) ?_
  intro p e s m below meth c ls htab hx hb hml hr hlocks hown hts hP hK hG hH hl
  have hl : lv_has ls 7 [(0, .ref x), (1, .int pm), (2, .int sm), (3, .int rt), (4, .int (nI q)), (5, .ref ot)] := hl
  have k_0 := hts (.classLink RL 13 "java/lang/IllegalArgumentException") (List.mem_of_getElem? (i := 1) rfl)
  have k_1 := hts (.classLink RL 15 "java/lang/IllegalStateException") (List.mem_of_getElem? (i := 2) rfl)
  refine lv_aload hx hb dL_make_0 (lv_at hl 5 rfl) ?_
  refine lv_iconst (v := nI 0) hx hb dL_make_2 (by decide) ?_
  refine lv_aload_n hx hb dL_make_3 rfl (lv_at hl 0 rfl) ?_
  refine lv_iload_n hx hb dL_make_4 rfl (lv_at hl 1 rfl) ?_
  refine lv_iload_n hx hb dL_make_5 rfl (lv_at hl 2 rfl) ?_
  refine lv_iload_n hx hb dL_make_6 rfl (lv_at hl 3 rfl) ?_
  refine lv_iload hx hb dL_make_7 (lv_at hl 4 rfl) ?_
  refine zcat (E := "java/lang/IllegalStateException") (own := RL) (name := "java/lang/IllegalStateException") [⟨0, 14, 17, 13⟩] ⟨0, 14, 21, 15⟩ [] (vx_runV (As := [.int pm, .int sm, .int rt, .int (nI q)]) (rest := [.int (nI 0), .ref ot]) ⟨hx, hb, hml, hown, hts⟩ (m_X5_make_full l hnt D x pr mk os ch gd mm em1 n pm sm rt q em (by first | omega | assumption) (by first | omega | assumption) (by first | omega | assumption) (by first | omega | assumption) (by first | omega | assumption)) (cwV 4 hts gL_make_X5_make rfl rfl rfl (by decide +kernel) ⟨Nat.le_of_ble_eq_true rfl, Nat.le_of_ble_eq_true rfl⟩) (zt_V (va_recv hK hP (ci := 5) (q0 := 0) rfl rfl) (hP.sub (ws' := [(x, .inr (5, [.ref pr, .ref mk, .ref os, .long ch, .long gd])), (mk, .inr (0, [.int mm, .ref em1, .int (nI n)]))]) [0, 1] rfl) (hK.sub (tys' := []) [] rfl) hG hH) rfl rfl hl.1 rfl (lv_room (Nat.le_of_ble_eq_true rfl)) dL_make_9 ⟨Nat.le_of_ble_eq_true rfl, Nat.le_of_ble_eq_true rfl⟩) hown (htab.trans rfl) (by intro z hz; simp only [List.mem_cons, List.not_mem_nil, or_false] at hz; subst hz; exact Or.inr ⟨by decide, "java/lang/IllegalArgumentException", k_0, hG.2.2.1 ("java/lang/IllegalStateException", "java/lang/IllegalArgumentException") (by decide +kernel)⟩) (by decide) (by decide) k_1 (va_Nw.use rfl (hG.2.1 ("java/lang/IllegalStateException", "java/lang/IllegalStateException") (by decide +kernel))) (fun H locs q9 hS => ?_)
  refine lv_astore (lv' := [(6, .ref q9), (0, .ref x), (1, .int pm), (2, .int sm), (3, .int rt), (4, .int (nI q)), (5, .ref ot)]) hx hb dL_make_21 hl (by decide) rfl (fun ls hl => ?_)
  refine lv_iconst (v := nI 2) hx hb dL_make_23 (by decide) ?_
  exact zretBi hx hb hr hlocks (fun _ _ _ => trivial) hS dL_make_24 (Nat.le_of_ble_eq_true rfl) (Nat.le_of_ble_eq_true rfl) rfl

set_option maxHeartbeats 4000000 in
set_option maxRecDepth 100000 in
/-- law: pay: b -/
theorem m_L_pay_b (l : Launch) (hnt : l.stackTraces = false) (D : va_G) (x pr mk os : Nat) (ch gd : Int64) (mm : Int32) (em1 n : Nat) (z : Int32) (em : Nat) (ot : Nat) (h0 : k_isIn z (nI 0) (nI n - nI 1) = nI 0) (hn : n ≤ 10) : Met l yL_pay wsL_pay ({ frames := 8, cells := 1, slots := 6, locals := 135 }) (zt D [(x, .inr (5, [.ref pr, .ref mk, .ref os, .long ch, .long gd])), (mk, .inr (0, [.int mm, .ref em1, .int (nI n)]))] [] em [.ref x, .int z, .ref ot]) (va_Qi (fun (r : Int32) (_ : Unit) => r = nI 1) (fun _ _ => True) NA) 1 6 NA := by
  refine zwb (cc := cL_pay) (maxL := 4) (ret := (some .int)) (hh := [(0, 9, 12, 32), (0, 9, 15, 15)]) (by decide) rfl (Nat.le_of_ble_eq_true rfl) ?_
  intro p e s m below meth c ls htab hx hb hml hr hlocks hown hts hP hK hG hH hl
  have hl : lv_has ls 4 [(0, .ref x), (1, .int z), (2, .ref ot)] := hl
  have k_0 := hts (.classLink RL 32 "java/lang/IndexOutOfBoundsException") (List.mem_of_getElem? (i := 1) rfl)
  refine lv_aload_n hx hb dL_pay_0 rfl (lv_at hl 2 rfl) ?_
  refine lv_iconst (v := nI 0) hx hb dL_pay_1 (by decide) ?_
  refine lv_aload_n hx hb dL_pay_2 rfl (lv_at hl 0 rfl) ?_
  refine lv_iload_n hx hb dL_pay_3 rfl (lv_at hl 1 rfl) ?_
  refine zcat (E := "java/lang/IndexOutOfBoundsException") (own := RL) (name := "java/lang/IndexOutOfBoundsException") [] ⟨0, 9, 12, 32⟩ [⟨0, 9, 15, 15⟩] (vx_runV (As := [.int z]) (rest := [.int (nI 0), .ref ot]) ⟨hx, hb, hml, hown, hts⟩ (m_X5_pay_b l hnt D x pr mk os ch gd mm em1 n z em (by first | omega | assumption) (by first | omega | assumption)) (cwV 1 hts gL_pay_X5_pay rfl rfl rfl (by decide +kernel) ⟨Nat.le_of_ble_eq_true rfl, Nat.le_of_ble_eq_true rfl⟩) (zt_V (va_recv hK hP (ci := 5) (q0 := 0) rfl rfl) (hP.sub (ws' := [(x, .inr (5, [.ref pr, .ref mk, .ref os, .long ch, .long gd])), (mk, .inr (0, [.int mm, .ref em1, .int (nI n)]))]) [0, 1] rfl) (hK.sub (tys' := []) [] rfl) hG hH) rfl rfl hl.1 rfl (lv_room (Nat.le_of_ble_eq_true rfl)) dL_pay_4 ⟨Nat.le_of_ble_eq_true rfl, Nat.le_of_ble_eq_true rfl⟩) hown (htab.trans rfl) (fun z hz => absurd hz List.not_mem_nil) (by decide) (by decide) k_0 (va_Nw.use rfl (hG.2.1 ("java/lang/IndexOutOfBoundsException", "java/lang/IndexOutOfBoundsException") (by decide +kernel))) (fun H locs q9 hS => ?_)
  refine lv_astore_n (lv' := [(3, .ref q9), (0, .ref x), (1, .int z), (2, .ref ot)]) hx hb dL_pay_12 rfl hl (by decide) rfl (fun ls hl => ?_)
  refine lv_iconst (v := nI 1) hx hb dL_pay_13 (by decide) ?_
  exact zretBi hx hb hr hlocks (fun _ _ _ => trivial) hS dL_pay_14 (Nat.le_of_ble_eq_true rfl) (Nat.le_of_ble_eq_true rfl) rfl

set_option maxHeartbeats 4000000 in
set_option maxRecDepth 100000 in
/-- law: pay: off -/
theorem m_L_pay_off (l : Launch) (hnt : l.stackTraces = false) (D : va_G) (x pr mk os : Nat) (ch gd : Int64) (mm : Int32) (em1 n : Nat) (cap : Nat) (cO : ClassId) (fl : Nat → Option Nat) (co ac : Nat) (cJ : ClassId) (pm sm rt : Int32) (fu : Nat) (ini : Int64) (np : Nat) (al : Int32) (acc : Nat → Int64) (kc : Nat) (em : Nat) (ot : Nat) (hkc : kc < n) (hn : n ≤ cap) (hcap : cap ≤ 800) (hfl : fl kc = some co) (hal : al = nI 0) : Met l yL_pay wsL_pay ({ frames := 8, cells := 1, slots := 6, locals := 134 }) (zt D [(x, .inr (5, [.ref pr, .ref mk, .ref os, .long ch, .long gd])), (mk, .inr (0, [.int mm, .ref em1, .int (nI n)])), (em1, .inl (cO, cap, .inr (.inr (.inr (.inr fl))))), (co, .inr (1, [.int pm, .int sm, .int rt, .int (nI fu), .ref ac, .long ini, .int (nI np), .int al])), (ac, .inl (cJ, 3, .inr (.inl acc)))] [(cO, .object "java/lang/Object"), (cJ, .long)] em [.ref x, .int (nI kc), .ref ot]) (va_Qi (fun (r : Int32) (_ : Unit) => r = nI 2) (fun _ _ => True) NA) 1 6 NA := by
  refine zwb (cc := cL_pay) (maxL := 4) (ret := (some .int)) (hh := [(0, 9, 12, 32), (0, 9, 15, 15)]) (by decide) rfl (Nat.le_of_ble_eq_true rfl) ?_
  intro p e s m below meth c ls htab hx hb hml hr hlocks hown hts hP hK hG hH hl
  have hl : lv_has ls 4 [(0, .ref x), (1, .int (nI kc)), (2, .ref ot)] := hl
  have k_0 := hts (.classLink RL 32 "java/lang/IndexOutOfBoundsException") (List.mem_of_getElem? (i := 1) rfl)
  have k_1 := hts (.classLink RL 15 "java/lang/IllegalStateException") (List.mem_of_getElem? (i := 2) rfl)
  refine lv_aload_n hx hb dL_pay_0 rfl (lv_at hl 2 rfl) ?_
  refine lv_iconst (v := nI 0) hx hb dL_pay_1 (by decide) ?_
  refine lv_aload_n hx hb dL_pay_2 rfl (lv_at hl 0 rfl) ?_
  refine lv_iload_n hx hb dL_pay_3 rfl (lv_at hl 1 rfl) ?_
  refine zcat (E := "java/lang/IllegalStateException") (own := RL) (name := "java/lang/IllegalStateException") [⟨0, 9, 12, 32⟩] ⟨0, 9, 15, 15⟩ [] (vx_runV (As := [.int (nI kc)]) (rest := [.int (nI 0), .ref ot]) ⟨hx, hb, hml, hown, hts⟩ (m_X5_pay_off l hnt D x pr mk os ch gd mm em1 n cap cO fl co ac cJ pm sm rt fu ini np al acc kc em (by first | omega | assumption) (by first | omega | assumption) (by first | omega | assumption) (by first | omega | assumption) (by first | omega | assumption)) (cwV 1 hts gL_pay_X5_pay rfl rfl rfl (by decide +kernel) ⟨Nat.le_of_ble_eq_true rfl, Nat.le_of_ble_eq_true rfl⟩) (zt_V (va_recv hK hP (ci := 5) (q0 := 0) rfl rfl) (hP.sub (ws' := [(x, .inr (5, [.ref pr, .ref mk, .ref os, .long ch, .long gd])), (mk, .inr (0, [.int mm, .ref em1, .int (nI n)])), (em1, .inl (cO, cap, .inr (.inr (.inr (.inr fl))))), (co, .inr (1, [.int pm, .int sm, .int rt, .int (nI fu), .ref ac, .long ini, .int (nI np), .int al])), (ac, .inl (cJ, 3, .inr (.inl acc)))]) [0, 1, 2, 3, 4] rfl) (hK.sub (tys' := [(cO, .object "java/lang/Object"), (cJ, .long)]) [0, 1] rfl) hG hH) rfl rfl hl.1 rfl (lv_room (Nat.le_of_ble_eq_true rfl)) dL_pay_4 ⟨Nat.le_of_ble_eq_true rfl, Nat.le_of_ble_eq_true rfl⟩) hown (htab.trans rfl) (by intro z hz; simp only [List.mem_cons, List.not_mem_nil, or_false] at hz; subst hz; exact Or.inr ⟨by decide, "java/lang/IndexOutOfBoundsException", k_0, hG.2.2.1 ("java/lang/IllegalStateException", "java/lang/IndexOutOfBoundsException") (by decide +kernel)⟩) (by decide) (by decide) k_1 (va_Nw.use rfl (hG.2.1 ("java/lang/IllegalStateException", "java/lang/IllegalStateException") (by decide +kernel))) (fun H locs q9 hS => ?_)
  refine lv_astore_n (lv' := [(3, .ref q9), (0, .ref x), (1, .int (nI kc)), (2, .ref ot)]) hx hb dL_pay_15 rfl hl (by decide) rfl (fun ls hl => ?_)
  refine lv_iconst (v := nI 2) hx hb dL_pay_16 (by decide) ?_
  exact zretBi hx hb hr hlocks (fun _ _ _ => trivial) hS dL_pay_17 (Nat.le_of_ble_eq_true rfl) (Nat.le_of_ble_eq_true rfl) rfl

set_option maxHeartbeats 4000000 in
set_option maxRecDepth 100000 in
/-- law: change: b -/
theorem m_L_change_b (l : Launch) (hnt : l.stackTraces = false) (D : va_G) (x pr mk os : Nat) (ch gd : Int64) (mm : Int32) (em1 n : Nat) (z : Int32) (y v pct : Int32) (em : Nat) (ot : Nat) (h0 : k_isIn z (nI 0) (nI n - nI 1) = nI 0) (hn : n ≤ 10) : Met l yL_change wsL_change ({ frames := 8, cells := 1, slots := 6, locals := 138 }) (zt D [(x, .inr (5, [.ref pr, .ref mk, .ref os, .long ch, .long gd])), (mk, .inr (0, [.int mm, .ref em1, .int (nI n)]))] [] em [.ref x, .int z, .int y, .int v, .int pct, .ref ot]) (va_Qi (fun (r : Int32) (_ : Unit) => r = nI 1) (fun _ _ => True) NA) 1 6 NA := by
  refine zwb (cc := cL_change) (maxL := 7) (ret := (some .int)) (hh := [(0, 14, 17, 32), (0, 14, 21, 13), (0, 14, 25, 15)]) (by decide) rfl (Nat.le_of_ble_eq_true rfl) ?_
  intro p e s m below meth c ls htab hx hb hml hr hlocks hown hts hP hK hG hH hl
  have hl : lv_has ls 7 [(0, .ref x), (1, .int z), (2, .int y), (3, .int v), (4, .int pct), (5, .ref ot)] := hl
  have k_0 := hts (.classLink RL 32 "java/lang/IndexOutOfBoundsException") (List.mem_of_getElem? (i := 1) rfl)
  refine lv_aload hx hb dL_change_0 (lv_at hl 5 rfl) ?_
  refine lv_iconst (v := nI 0) hx hb dL_change_2 (by decide) ?_
  refine lv_aload_n hx hb dL_change_3 rfl (lv_at hl 0 rfl) ?_
  refine lv_iload_n hx hb dL_change_4 rfl (lv_at hl 1 rfl) ?_
  refine lv_iload_n hx hb dL_change_5 rfl (lv_at hl 2 rfl) ?_
  refine lv_iload_n hx hb dL_change_6 rfl (lv_at hl 3 rfl) ?_
  refine lv_iload hx hb dL_change_7 (lv_at hl 4 rfl) ?_
  refine zcat (E := "java/lang/IndexOutOfBoundsException") (own := RL) (name := "java/lang/IndexOutOfBoundsException") [] ⟨0, 14, 17, 32⟩ [⟨0, 14, 21, 13⟩, ⟨0, 14, 25, 15⟩] (vx_runV (As := [.int z, .int y, .int v, .int pct]) (rest := [.int (nI 0), .ref ot]) ⟨hx, hb, hml, hown, hts⟩ (m_X5_change_b l hnt D x pr mk os ch gd mm em1 n z y v pct em (by first | omega | assumption) (by first | omega | assumption)) (cwV 4 hts gL_change_X5_change rfl rfl rfl (by decide +kernel) ⟨Nat.le_of_ble_eq_true rfl, Nat.le_of_ble_eq_true rfl⟩) (zt_V (va_recv hK hP (ci := 5) (q0 := 0) rfl rfl) (hP.sub (ws' := [(x, .inr (5, [.ref pr, .ref mk, .ref os, .long ch, .long gd])), (mk, .inr (0, [.int mm, .ref em1, .int (nI n)]))]) [0, 1] rfl) (hK.sub (tys' := []) [] rfl) hG hH) rfl rfl hl.1 rfl (lv_room (Nat.le_of_ble_eq_true rfl)) dL_change_9 ⟨Nat.le_of_ble_eq_true rfl, Nat.le_of_ble_eq_true rfl⟩) hown (htab.trans rfl) (fun z hz => absurd hz List.not_mem_nil) (by decide) (by decide) k_0 (va_Nw.use rfl (hG.2.1 ("java/lang/IndexOutOfBoundsException", "java/lang/IndexOutOfBoundsException") (by decide +kernel))) (fun H locs q9 hS => ?_)
  refine lv_astore (lv' := [(6, .ref q9), (0, .ref x), (1, .int z), (2, .int y), (3, .int v), (4, .int pct), (5, .ref ot)]) hx hb dL_change_17 hl (by decide) rfl (fun ls hl => ?_)
  refine lv_iconst (v := nI 1) hx hb dL_change_19 (by decide) ?_
  exact zretBi hx hb hr hlocks (fun _ _ _ => trivial) hS dL_change_20 (Nat.le_of_ble_eq_true rfl) (Nat.le_of_ble_eq_true rfl) rfl

set_option maxHeartbeats 4000000 in
set_option maxRecDepth 100000 in
/-- law: change: b0 -/
theorem m_L_change_b0 (l : Launch) (hnt : l.stackTraces = false) (D : va_G) (x pr mk os : Nat) (ch gd : Int64) (mm : Int32) (em1 n : Nat) (cap : Nat) (cO : ClassId) (fl : Nat → Option Nat) (co ac : Nat) (cJ : ClassId) (pm sm rt : Int32) (fu : Nat) (ini : Int64) (np : Nat) (al : Int32) (acc : Nat → Int64) (kc : Nat) (z y pct : Int32) (em : Nat) (ot : Nat) (hkc : kc < n) (hn : n ≤ cap) (hcap : cap ≤ 800) (hfl : fl kc = some co) (h1 : k_isFund z = nI 0) : Met l yL_change wsL_change ({ frames := 8, cells := 1, slots := 6, locals := 137 }) (zt D [(x, .inr (5, [.ref pr, .ref mk, .ref os, .long ch, .long gd])), (mk, .inr (0, [.int mm, .ref em1, .int (nI n)])), (em1, .inl (cO, cap, .inr (.inr (.inr (.inr fl))))), (co, .inr (1, [.int pm, .int sm, .int rt, .int (nI fu), .ref ac, .long ini, .int (nI np), .int al])), (ac, .inl (cJ, 3, .inr (.inl acc)))] [(cO, .object "java/lang/Object"), (cJ, .long)] em [.ref x, .int (nI kc), .int z, .int y, .int pct, .ref ot]) (va_Qi (fun (r : Int32) (_ : Unit) => r = nI 2) (fun _ _ => True) NA) 1 6 NA := by
  refine zwb (cc := cL_change) (maxL := 7) (ret := (some .int)) (hh := [(0, 14, 17, 32), (0, 14, 21, 13), (0, 14, 25, 15)]) (by decide) rfl (Nat.le_of_ble_eq_true rfl) ?_
  intro p e s m below meth c ls htab hx hb hml hr hlocks hown hts hP hK hG hH hl
  have hl : lv_has ls 7 [(0, .ref x), (1, .int (nI kc)), (2, .int z), (3, .int y), (4, .int pct), (5, .ref ot)] := hl
  have k_0 := hts (.classLink RL 32 "java/lang/IndexOutOfBoundsException") (List.mem_of_getElem? (i := 1) rfl)
  have k_1 := hts (.classLink RL 13 "java/lang/IllegalArgumentException") (List.mem_of_getElem? (i := 2) rfl)
  refine lv_aload hx hb dL_change_0 (lv_at hl 5 rfl) ?_
  refine lv_iconst (v := nI 0) hx hb dL_change_2 (by decide) ?_
  refine lv_aload_n hx hb dL_change_3 rfl (lv_at hl 0 rfl) ?_
  refine lv_iload_n hx hb dL_change_4 rfl (lv_at hl 1 rfl) ?_
  refine lv_iload_n hx hb dL_change_5 rfl (lv_at hl 2 rfl) ?_
  refine lv_iload_n hx hb dL_change_6 rfl (lv_at hl 3 rfl) ?_
  refine lv_iload hx hb dL_change_7 (lv_at hl 4 rfl) ?_
  refine zcat (E := "java/lang/IllegalArgumentException") (own := RL) (name := "java/lang/IllegalArgumentException") [⟨0, 14, 17, 32⟩] ⟨0, 14, 21, 13⟩ [⟨0, 14, 25, 15⟩] (vx_runV (As := [.int (nI kc), .int z, .int y, .int pct]) (rest := [.int (nI 0), .ref ot]) ⟨hx, hb, hml, hown, hts⟩ (m_X5_change_b0 l hnt D x pr mk os ch gd mm em1 n cap cO fl co ac cJ pm sm rt fu ini np al acc kc z y pct em (by first | omega | assumption) (by first | omega | assumption) (by first | omega | assumption) (by first | omega | assumption) (by first | omega | assumption)) (cwV 4 hts gL_change_X5_change rfl rfl rfl (by decide +kernel) ⟨Nat.le_of_ble_eq_true rfl, Nat.le_of_ble_eq_true rfl⟩) (zt_V (va_recv hK hP (ci := 5) (q0 := 0) rfl rfl) (hP.sub (ws' := [(x, .inr (5, [.ref pr, .ref mk, .ref os, .long ch, .long gd])), (mk, .inr (0, [.int mm, .ref em1, .int (nI n)])), (em1, .inl (cO, cap, .inr (.inr (.inr (.inr fl))))), (co, .inr (1, [.int pm, .int sm, .int rt, .int (nI fu), .ref ac, .long ini, .int (nI np), .int al])), (ac, .inl (cJ, 3, .inr (.inl acc)))]) [0, 1, 2, 3, 4] rfl) (hK.sub (tys' := [(cO, .object "java/lang/Object"), (cJ, .long)]) [0, 1] rfl) hG hH) rfl rfl hl.1 rfl (lv_room (Nat.le_of_ble_eq_true rfl)) dL_change_9 ⟨Nat.le_of_ble_eq_true rfl, Nat.le_of_ble_eq_true rfl⟩) hown (htab.trans rfl) (by intro z hz; simp only [List.mem_cons, List.not_mem_nil, or_false] at hz; subst hz; exact Or.inr ⟨by decide, "java/lang/IndexOutOfBoundsException", k_0, hG.2.2.1 ("java/lang/IllegalArgumentException", "java/lang/IndexOutOfBoundsException") (by decide +kernel)⟩) (by decide) (by decide) k_1 (va_Nw.use rfl (hG.2.1 ("java/lang/IllegalArgumentException", "java/lang/IllegalArgumentException") (by decide +kernel))) (fun H locs q9 hS => ?_)
  refine lv_astore (lv' := [(6, .ref q9), (0, .ref x), (1, .int (nI kc)), (2, .int z), (3, .int y), (4, .int pct), (5, .ref ot)]) hx hb dL_change_21 hl (by decide) rfl (fun ls hl => ?_)
  refine lv_iconst (v := nI 2) hx hb dL_change_23 (by decide) ?_
  exact zretBi hx hb hr hlocks (fun _ _ _ => trivial) hS dL_change_24 (Nat.le_of_ble_eq_true rfl) (Nat.le_of_ble_eq_true rfl) rfl

set_option maxHeartbeats 4000000 in
set_option maxRecDepth 100000 in
/-- law: change: b1 -/
theorem m_L_change_b1 (l : Launch) (hnt : l.stackTraces = false) (D : va_G) (x pr mk os : Nat) (ch gd : Int64) (mm : Int32) (em1 n : Nat) (cap : Nat) (cO : ClassId) (fl : Nat → Option Nat) (co ac : Nat) (cJ : ClassId) (pm sm rt : Int32) (fu : Nat) (ini : Int64) (np : Nat) (al : Int32) (acc : Nat → Int64) (kc : Nat) (fr2 : Nat) (y pct : Int32) (em : Nat) (ot : Nat) (hkc : kc < n) (hn : n ≤ cap) (hcap : cap ≤ 800) (hfl : fl kc = some co) (hf : fr2 < 3) (h1 : k_isFund y = nI 0) : Met l yL_change wsL_change ({ frames := 8, cells := 1, slots := 6, locals := 137 }) (zt D [(x, .inr (5, [.ref pr, .ref mk, .ref os, .long ch, .long gd])), (mk, .inr (0, [.int mm, .ref em1, .int (nI n)])), (em1, .inl (cO, cap, .inr (.inr (.inr (.inr fl))))), (co, .inr (1, [.int pm, .int sm, .int rt, .int (nI fu), .ref ac, .long ini, .int (nI np), .int al])), (ac, .inl (cJ, 3, .inr (.inl acc)))] [(cO, .object "java/lang/Object"), (cJ, .long)] em [.ref x, .int (nI kc), .int (nI fr2), .int y, .int pct, .ref ot]) (va_Qi (fun (r : Int32) (_ : Unit) => r = nI 2) (fun _ _ => True) NA) 1 6 NA := by
  refine zwb (cc := cL_change) (maxL := 7) (ret := (some .int)) (hh := [(0, 14, 17, 32), (0, 14, 21, 13), (0, 14, 25, 15)]) (by decide) rfl (Nat.le_of_ble_eq_true rfl) ?_
  intro p e s m below meth c ls htab hx hb hml hr hlocks hown hts hP hK hG hH hl
  have hl : lv_has ls 7 [(0, .ref x), (1, .int (nI kc)), (2, .int (nI fr2)), (3, .int y), (4, .int pct), (5, .ref ot)] := hl
  have k_0 := hts (.classLink RL 32 "java/lang/IndexOutOfBoundsException") (List.mem_of_getElem? (i := 1) rfl)
  have k_1 := hts (.classLink RL 13 "java/lang/IllegalArgumentException") (List.mem_of_getElem? (i := 2) rfl)
  refine lv_aload hx hb dL_change_0 (lv_at hl 5 rfl) ?_
  refine lv_iconst (v := nI 0) hx hb dL_change_2 (by decide) ?_
  refine lv_aload_n hx hb dL_change_3 rfl (lv_at hl 0 rfl) ?_
  refine lv_iload_n hx hb dL_change_4 rfl (lv_at hl 1 rfl) ?_
  refine lv_iload_n hx hb dL_change_5 rfl (lv_at hl 2 rfl) ?_
  refine lv_iload_n hx hb dL_change_6 rfl (lv_at hl 3 rfl) ?_
  refine lv_iload hx hb dL_change_7 (lv_at hl 4 rfl) ?_
  refine zcat (E := "java/lang/IllegalArgumentException") (own := RL) (name := "java/lang/IllegalArgumentException") [⟨0, 14, 17, 32⟩] ⟨0, 14, 21, 13⟩ [⟨0, 14, 25, 15⟩] (vx_runV (As := [.int (nI kc), .int (nI fr2), .int y, .int pct]) (rest := [.int (nI 0), .ref ot]) ⟨hx, hb, hml, hown, hts⟩ (m_X5_change_b1 l hnt D x pr mk os ch gd mm em1 n cap cO fl co ac cJ pm sm rt fu ini np al acc kc fr2 y pct em (by first | omega | assumption) (by first | omega | assumption) (by first | omega | assumption) (by first | omega | assumption) (by first | omega | assumption) (by first | omega | assumption)) (cwV 4 hts gL_change_X5_change rfl rfl rfl (by decide +kernel) ⟨Nat.le_of_ble_eq_true rfl, Nat.le_of_ble_eq_true rfl⟩) (zt_V (va_recv hK hP (ci := 5) (q0 := 0) rfl rfl) (hP.sub (ws' := [(x, .inr (5, [.ref pr, .ref mk, .ref os, .long ch, .long gd])), (mk, .inr (0, [.int mm, .ref em1, .int (nI n)])), (em1, .inl (cO, cap, .inr (.inr (.inr (.inr fl))))), (co, .inr (1, [.int pm, .int sm, .int rt, .int (nI fu), .ref ac, .long ini, .int (nI np), .int al])), (ac, .inl (cJ, 3, .inr (.inl acc)))]) [0, 1, 2, 3, 4] rfl) (hK.sub (tys' := [(cO, .object "java/lang/Object"), (cJ, .long)]) [0, 1] rfl) hG hH) rfl rfl hl.1 rfl (lv_room (Nat.le_of_ble_eq_true rfl)) dL_change_9 ⟨Nat.le_of_ble_eq_true rfl, Nat.le_of_ble_eq_true rfl⟩) hown (htab.trans rfl) (by intro z hz; simp only [List.mem_cons, List.not_mem_nil, or_false] at hz; subst hz; exact Or.inr ⟨by decide, "java/lang/IndexOutOfBoundsException", k_0, hG.2.2.1 ("java/lang/IllegalArgumentException", "java/lang/IndexOutOfBoundsException") (by decide +kernel)⟩) (by decide) (by decide) k_1 (va_Nw.use rfl (hG.2.1 ("java/lang/IllegalArgumentException", "java/lang/IllegalArgumentException") (by decide +kernel))) (fun H locs q9 hS => ?_)
  refine lv_astore (lv' := [(6, .ref q9), (0, .ref x), (1, .int (nI kc)), (2, .int (nI fr2)), (3, .int y), (4, .int pct), (5, .ref ot)]) hx hb dL_change_21 hl (by decide) rfl (fun ls hl => ?_)
  refine lv_iconst (v := nI 2) hx hb dL_change_23 (by decide) ?_
  exact zretBi hx hb hr hlocks (fun _ _ _ => trivial) hS dL_change_24 (Nat.le_of_ble_eq_true rfl) (Nat.le_of_ble_eq_true rfl) rfl

set_option maxHeartbeats 4000000 in
set_option maxRecDepth 100000 in
/-- law: change: b2 -/
theorem m_L_change_b2 (l : Launch) (hnt : l.stackTraces = false) (D : va_G) (x pr mk os : Nat) (ch gd : Int64) (mm : Int32) (em1 n : Nat) (cap : Nat) (cO : ClassId) (fl : Nat → Option Nat) (co ac : Nat) (cJ : ClassId) (pm sm rt : Int32) (fu : Nat) (ini : Int64) (np : Nat) (al : Int32) (acc : Nat → Int64) (kc : Nat) (fr2 : Nat) (pct : Int32) (em : Nat) (ot : Nat) (hkc : kc < n) (hn : n ≤ cap) (hcap : cap ≤ 800) (hfl : fl kc = some co) (hf : fr2 < 3) : Met l yL_change wsL_change ({ frames := 7, cells := 1, slots := 6, locals := 117 }) (zt D [(x, .inr (5, [.ref pr, .ref mk, .ref os, .long ch, .long gd])), (mk, .inr (0, [.int mm, .ref em1, .int (nI n)])), (em1, .inl (cO, cap, .inr (.inr (.inr (.inr fl))))), (co, .inr (1, [.int pm, .int sm, .int rt, .int (nI fu), .ref ac, .long ini, .int (nI np), .int al])), (ac, .inl (cJ, 3, .inr (.inl acc)))] [(cO, .object "java/lang/Object"), (cJ, .long)] em [.ref x, .int (nI kc), .int (nI fr2), .int (nI fr2), .int pct, .ref ot]) (va_Qi (fun (r : Int32) (_ : Unit) => r = nI 2) (fun _ _ => True) NA) 1 6 NA := by
  refine zwb (cc := cL_change) (maxL := 7) (ret := (some .int)) (hh := [(0, 14, 17, 32), (0, 14, 21, 13), (0, 14, 25, 15)]) (by decide) rfl (Nat.le_of_ble_eq_true rfl) ?_
  intro p e s m below meth c ls htab hx hb hml hr hlocks hown hts hP hK hG hH hl
  have hl : lv_has ls 7 [(0, .ref x), (1, .int (nI kc)), (2, .int (nI fr2)), (3, .int (nI fr2)), (4, .int pct), (5, .ref ot)] := hl
  have k_0 := hts (.classLink RL 32 "java/lang/IndexOutOfBoundsException") (List.mem_of_getElem? (i := 1) rfl)
  have k_1 := hts (.classLink RL 13 "java/lang/IllegalArgumentException") (List.mem_of_getElem? (i := 2) rfl)
  refine lv_aload hx hb dL_change_0 (lv_at hl 5 rfl) ?_
  refine lv_iconst (v := nI 0) hx hb dL_change_2 (by decide) ?_
  refine lv_aload_n hx hb dL_change_3 rfl (lv_at hl 0 rfl) ?_
  refine lv_iload_n hx hb dL_change_4 rfl (lv_at hl 1 rfl) ?_
  refine lv_iload_n hx hb dL_change_5 rfl (lv_at hl 2 rfl) ?_
  refine lv_iload_n hx hb dL_change_6 rfl (lv_at hl 3 rfl) ?_
  refine lv_iload hx hb dL_change_7 (lv_at hl 4 rfl) ?_
  refine zcat (E := "java/lang/IllegalArgumentException") (own := RL) (name := "java/lang/IllegalArgumentException") [⟨0, 14, 17, 32⟩] ⟨0, 14, 21, 13⟩ [⟨0, 14, 25, 15⟩] (vx_runV (As := [.int (nI kc), .int (nI fr2), .int (nI fr2), .int pct]) (rest := [.int (nI 0), .ref ot]) ⟨hx, hb, hml, hown, hts⟩ (m_X5_change_b2 l hnt D x pr mk os ch gd mm em1 n cap cO fl co ac cJ pm sm rt fu ini np al acc kc fr2 pct em (by first | omega | assumption) (by first | omega | assumption) (by first | omega | assumption) (by first | omega | assumption) (by first | omega | assumption)) (cwV 4 hts gL_change_X5_change rfl rfl rfl (by decide +kernel) ⟨Nat.le_of_ble_eq_true rfl, Nat.le_of_ble_eq_true rfl⟩) (zt_V (va_recv hK hP (ci := 5) (q0 := 0) rfl rfl) (hP.sub (ws' := [(x, .inr (5, [.ref pr, .ref mk, .ref os, .long ch, .long gd])), (mk, .inr (0, [.int mm, .ref em1, .int (nI n)])), (em1, .inl (cO, cap, .inr (.inr (.inr (.inr fl))))), (co, .inr (1, [.int pm, .int sm, .int rt, .int (nI fu), .ref ac, .long ini, .int (nI np), .int al])), (ac, .inl (cJ, 3, .inr (.inl acc)))]) [0, 1, 2, 3, 4] rfl) (hK.sub (tys' := [(cO, .object "java/lang/Object"), (cJ, .long)]) [0, 1] rfl) hG hH) rfl rfl hl.1 rfl (lv_room (Nat.le_of_ble_eq_true rfl)) dL_change_9 ⟨Nat.le_of_ble_eq_true rfl, Nat.le_of_ble_eq_true rfl⟩) hown (htab.trans rfl) (by intro z hz; simp only [List.mem_cons, List.not_mem_nil, or_false] at hz; subst hz; exact Or.inr ⟨by decide, "java/lang/IndexOutOfBoundsException", k_0, hG.2.2.1 ("java/lang/IllegalArgumentException", "java/lang/IndexOutOfBoundsException") (by decide +kernel)⟩) (by decide) (by decide) k_1 (va_Nw.use rfl (hG.2.1 ("java/lang/IllegalArgumentException", "java/lang/IllegalArgumentException") (by decide +kernel))) (fun H locs q9 hS => ?_)
  refine lv_astore (lv' := [(6, .ref q9), (0, .ref x), (1, .int (nI kc)), (2, .int (nI fr2)), (3, .int (nI fr2)), (4, .int pct), (5, .ref ot)]) hx hb dL_change_21 hl (by decide) rfl (fun ls hl => ?_)
  refine lv_iconst (v := nI 2) hx hb dL_change_23 (by decide) ?_
  exact zretBi hx hb hr hlocks (fun _ _ _ => trivial) hS dL_change_24 (Nat.le_of_ble_eq_true rfl) (Nat.le_of_ble_eq_true rfl) rfl

set_option maxHeartbeats 4000000 in
set_option maxRecDepth 100000 in
/-- law: change: b3 -/
theorem m_L_change_b3 (l : Launch) (hnt : l.stackTraces = false) (D : va_G) (x pr mk os : Nat) (ch gd : Int64) (mm : Int32) (em1 n : Nat) (cap : Nat) (cO : ClassId) (fl : Nat → Option Nat) (co ac : Nat) (cJ : ClassId) (pm sm rt : Int32) (fu : Nat) (ini : Int64) (np : Nat) (al : Int32) (acc : Nat → Int64) (kc : Nat) (fr2 tt : Nat) (pct : Int32) (em : Nat) (ot : Nat) (hkc : kc < n) (hn : n ≤ cap) (hcap : cap ≤ 800) (hfl : fl kc = some co) (hf : fr2 < 3) (hg : tt < 3) (hne : fr2 ≠ tt) (h4 : k_isIn pct (nI 1) (nI 100) = nI 0) : Met l yL_change wsL_change ({ frames := 7, cells := 1, slots := 6, locals := 117 }) (zt D [(x, .inr (5, [.ref pr, .ref mk, .ref os, .long ch, .long gd])), (mk, .inr (0, [.int mm, .ref em1, .int (nI n)])), (em1, .inl (cO, cap, .inr (.inr (.inr (.inr fl))))), (co, .inr (1, [.int pm, .int sm, .int rt, .int (nI fu), .ref ac, .long ini, .int (nI np), .int al])), (ac, .inl (cJ, 3, .inr (.inl acc)))] [(cO, .object "java/lang/Object"), (cJ, .long)] em [.ref x, .int (nI kc), .int (nI fr2), .int (nI tt), .int pct, .ref ot]) (va_Qi (fun (r : Int32) (_ : Unit) => r = nI 2) (fun _ _ => True) NA) 1 6 NA := by
  refine zwb (cc := cL_change) (maxL := 7) (ret := (some .int)) (hh := [(0, 14, 17, 32), (0, 14, 21, 13), (0, 14, 25, 15)]) (by decide) rfl (Nat.le_of_ble_eq_true rfl) ?_
  intro p e s m below meth c ls htab hx hb hml hr hlocks hown hts hP hK hG hH hl
  have hl : lv_has ls 7 [(0, .ref x), (1, .int (nI kc)), (2, .int (nI fr2)), (3, .int (nI tt)), (4, .int pct), (5, .ref ot)] := hl
  have k_0 := hts (.classLink RL 32 "java/lang/IndexOutOfBoundsException") (List.mem_of_getElem? (i := 1) rfl)
  have k_1 := hts (.classLink RL 13 "java/lang/IllegalArgumentException") (List.mem_of_getElem? (i := 2) rfl)
  refine lv_aload hx hb dL_change_0 (lv_at hl 5 rfl) ?_
  refine lv_iconst (v := nI 0) hx hb dL_change_2 (by decide) ?_
  refine lv_aload_n hx hb dL_change_3 rfl (lv_at hl 0 rfl) ?_
  refine lv_iload_n hx hb dL_change_4 rfl (lv_at hl 1 rfl) ?_
  refine lv_iload_n hx hb dL_change_5 rfl (lv_at hl 2 rfl) ?_
  refine lv_iload_n hx hb dL_change_6 rfl (lv_at hl 3 rfl) ?_
  refine lv_iload hx hb dL_change_7 (lv_at hl 4 rfl) ?_
  refine zcat (E := "java/lang/IllegalArgumentException") (own := RL) (name := "java/lang/IllegalArgumentException") [⟨0, 14, 17, 32⟩] ⟨0, 14, 21, 13⟩ [⟨0, 14, 25, 15⟩] (vx_runV (As := [.int (nI kc), .int (nI fr2), .int (nI tt), .int pct]) (rest := [.int (nI 0), .ref ot]) ⟨hx, hb, hml, hown, hts⟩ (m_X5_change_b3 l hnt D x pr mk os ch gd mm em1 n cap cO fl co ac cJ pm sm rt fu ini np al acc kc fr2 tt pct em (by first | omega | assumption) (by first | omega | assumption) (by first | omega | assumption) (by first | omega | assumption) (by first | omega | assumption) (by first | omega | assumption) (by first | omega | assumption) (by first | omega | assumption)) (cwV 4 hts gL_change_X5_change rfl rfl rfl (by decide +kernel) ⟨Nat.le_of_ble_eq_true rfl, Nat.le_of_ble_eq_true rfl⟩) (zt_V (va_recv hK hP (ci := 5) (q0 := 0) rfl rfl) (hP.sub (ws' := [(x, .inr (5, [.ref pr, .ref mk, .ref os, .long ch, .long gd])), (mk, .inr (0, [.int mm, .ref em1, .int (nI n)])), (em1, .inl (cO, cap, .inr (.inr (.inr (.inr fl))))), (co, .inr (1, [.int pm, .int sm, .int rt, .int (nI fu), .ref ac, .long ini, .int (nI np), .int al])), (ac, .inl (cJ, 3, .inr (.inl acc)))]) [0, 1, 2, 3, 4] rfl) (hK.sub (tys' := [(cO, .object "java/lang/Object"), (cJ, .long)]) [0, 1] rfl) hG hH) rfl rfl hl.1 rfl (lv_room (Nat.le_of_ble_eq_true rfl)) dL_change_9 ⟨Nat.le_of_ble_eq_true rfl, Nat.le_of_ble_eq_true rfl⟩) hown (htab.trans rfl) (by intro z hz; simp only [List.mem_cons, List.not_mem_nil, or_false] at hz; subst hz; exact Or.inr ⟨by decide, "java/lang/IndexOutOfBoundsException", k_0, hG.2.2.1 ("java/lang/IllegalArgumentException", "java/lang/IndexOutOfBoundsException") (by decide +kernel)⟩) (by decide) (by decide) k_1 (va_Nw.use rfl (hG.2.1 ("java/lang/IllegalArgumentException", "java/lang/IllegalArgumentException") (by decide +kernel))) (fun H locs q9 hS => ?_)
  refine lv_astore (lv' := [(6, .ref q9), (0, .ref x), (1, .int (nI kc)), (2, .int (nI fr2)), (3, .int (nI tt)), (4, .int pct), (5, .ref ot)]) hx hb dL_change_21 hl (by decide) rfl (fun ls hl => ?_)
  refine lv_iconst (v := nI 2) hx hb dL_change_23 (by decide) ?_
  exact zretBi hx hb hr hlocks (fun _ _ _ => trivial) hS dL_change_24 (Nat.le_of_ble_eq_true rfl) (Nat.le_of_ble_eq_true rfl) rfl

set_option maxHeartbeats 4000000 in
set_option maxRecDepth 100000 in
/-- law: change: off -/
theorem m_L_change_off (l : Launch) (hnt : l.stackTraces = false) (D : va_G) (x pr mk os : Nat) (ch gd : Int64) (mm : Int32) (em1 n : Nat) (cap : Nat) (cO : ClassId) (fl : Nat → Option Nat) (co ac : Nat) (cJ : ClassId) (pm sm rt : Int32) (fu : Nat) (ini : Int64) (np : Nat) (al : Int32) (acc : Nat → Int64) (kc : Nat) (fr2 tt : Nat) (pct : Int32) (em : Nat) (ot : Nat) (hkc : kc < n) (hn : n ≤ cap) (hcap : cap ≤ 800) (hfl : fl kc = some co) (hf : fr2 < 3) (hg : tt < 3) (hne : fr2 ≠ tt) (h4 : k_isIn pct (nI 1) (nI 100) = nI 1) (hal : al = nI 0) : Met l yL_change wsL_change ({ frames := 8, cells := 1, slots := 6, locals := 137 }) (zt D [(x, .inr (5, [.ref pr, .ref mk, .ref os, .long ch, .long gd])), (mk, .inr (0, [.int mm, .ref em1, .int (nI n)])), (em1, .inl (cO, cap, .inr (.inr (.inr (.inr fl))))), (co, .inr (1, [.int pm, .int sm, .int rt, .int (nI fu), .ref ac, .long ini, .int (nI np), .int al])), (ac, .inl (cJ, 3, .inr (.inl acc)))] [(cO, .object "java/lang/Object"), (cJ, .long)] em [.ref x, .int (nI kc), .int (nI fr2), .int (nI tt), .int pct, .ref ot]) (va_Qi (fun (r : Int32) (_ : Unit) => r = nI 3) (fun _ _ => True) NA) 1 6 NA := by
  refine zwb (cc := cL_change) (maxL := 7) (ret := (some .int)) (hh := [(0, 14, 17, 32), (0, 14, 21, 13), (0, 14, 25, 15)]) (by decide) rfl (Nat.le_of_ble_eq_true rfl) ?_
  intro p e s m below meth c ls htab hx hb hml hr hlocks hown hts hP hK hG hH hl
  have hl : lv_has ls 7 [(0, .ref x), (1, .int (nI kc)), (2, .int (nI fr2)), (3, .int (nI tt)), (4, .int pct), (5, .ref ot)] := hl
  have k_0 := hts (.classLink RL 32 "java/lang/IndexOutOfBoundsException") (List.mem_of_getElem? (i := 1) rfl)
  have k_1 := hts (.classLink RL 13 "java/lang/IllegalArgumentException") (List.mem_of_getElem? (i := 2) rfl)
  have k_2 := hts (.classLink RL 15 "java/lang/IllegalStateException") (List.mem_of_getElem? (i := 3) rfl)
  refine lv_aload hx hb dL_change_0 (lv_at hl 5 rfl) ?_
  refine lv_iconst (v := nI 0) hx hb dL_change_2 (by decide) ?_
  refine lv_aload_n hx hb dL_change_3 rfl (lv_at hl 0 rfl) ?_
  refine lv_iload_n hx hb dL_change_4 rfl (lv_at hl 1 rfl) ?_
  refine lv_iload_n hx hb dL_change_5 rfl (lv_at hl 2 rfl) ?_
  refine lv_iload_n hx hb dL_change_6 rfl (lv_at hl 3 rfl) ?_
  refine lv_iload hx hb dL_change_7 (lv_at hl 4 rfl) ?_
  refine zcat (E := "java/lang/IllegalStateException") (own := RL) (name := "java/lang/IllegalStateException") [⟨0, 14, 17, 32⟩, ⟨0, 14, 21, 13⟩] ⟨0, 14, 25, 15⟩ [] (vx_runV (As := [.int (nI kc), .int (nI fr2), .int (nI tt), .int pct]) (rest := [.int (nI 0), .ref ot]) ⟨hx, hb, hml, hown, hts⟩ (m_X5_change_off l hnt D x pr mk os ch gd mm em1 n cap cO fl co ac cJ pm sm rt fu ini np al acc kc fr2 tt pct em (by first | omega | assumption) (by first | omega | assumption) (by first | omega | assumption) (by first | omega | assumption) (by first | omega | assumption) (by first | omega | assumption) (by first | omega | assumption) (by first | omega | assumption) (by first | omega | assumption)) (cwV 4 hts gL_change_X5_change rfl rfl rfl (by decide +kernel) ⟨Nat.le_of_ble_eq_true rfl, Nat.le_of_ble_eq_true rfl⟩) (zt_V (va_recv hK hP (ci := 5) (q0 := 0) rfl rfl) (hP.sub (ws' := [(x, .inr (5, [.ref pr, .ref mk, .ref os, .long ch, .long gd])), (mk, .inr (0, [.int mm, .ref em1, .int (nI n)])), (em1, .inl (cO, cap, .inr (.inr (.inr (.inr fl))))), (co, .inr (1, [.int pm, .int sm, .int rt, .int (nI fu), .ref ac, .long ini, .int (nI np), .int al])), (ac, .inl (cJ, 3, .inr (.inl acc)))]) [0, 1, 2, 3, 4] rfl) (hK.sub (tys' := [(cO, .object "java/lang/Object"), (cJ, .long)]) [0, 1] rfl) hG hH) rfl rfl hl.1 rfl (lv_room (Nat.le_of_ble_eq_true rfl)) dL_change_9 ⟨Nat.le_of_ble_eq_true rfl, Nat.le_of_ble_eq_true rfl⟩) hown (htab.trans rfl) (by intro z hz; simp only [List.mem_cons, List.not_mem_nil, or_false] at hz; rcases hz with rfl | rfl; exact Or.inr ⟨by decide, "java/lang/IndexOutOfBoundsException", k_0, hG.2.2.1 ("java/lang/IllegalStateException", "java/lang/IndexOutOfBoundsException") (by decide +kernel)⟩; exact Or.inr ⟨by decide, "java/lang/IllegalArgumentException", k_1, hG.2.2.1 ("java/lang/IllegalStateException", "java/lang/IllegalArgumentException") (by decide +kernel)⟩) (by decide) (by decide) k_2 (va_Nw.use rfl (hG.2.1 ("java/lang/IllegalStateException", "java/lang/IllegalStateException") (by decide +kernel))) (fun H locs q9 hS => ?_)
  refine lv_astore (lv' := [(6, .ref q9), (0, .ref x), (1, .int (nI kc)), (2, .int (nI fr2)), (3, .int (nI tt)), (4, .int pct), (5, .ref ot)]) hx hb dL_change_25 hl (by decide) rfl (fun ls hl => ?_)
  refine lv_iconst (v := nI 3) hx hb dL_change_27 (by decide) ?_
  exact zretBi hx hb hr hlocks (fun _ _ _ => trivial) hS dL_change_28 (Nat.le_of_ble_eq_true rfl) (Nat.le_of_ble_eq_true rfl) rfl

set_option maxHeartbeats 4000000 in
set_option maxRecDepth 100000 in
/-- law: backdate: b -/
theorem m_L_backdate_b (l : Launch) (hnt : l.stackTraces = false) (D : va_G) (x pr mk os : Nat) (ch gd : Int64) (mm : Int32) (em1 n : Nat) (z : Int32) (y : Int32) (em : Nat) (ot : Nat) (h0 : k_isIn z (nI 0) (nI n - nI 1) = nI 0) (hn : n ≤ 10) : Met l yL_backdate wsL_backdate ({ frames := 8, cells := 1, slots := 6, locals := 141 }) (zt D [(x, .inr (5, [.ref pr, .ref mk, .ref os, .long ch, .long gd])), (mk, .inr (0, [.int mm, .ref em1, .int (nI n)]))] [] em [.ref x, .int z, .int y, .ref ot]) (va_Qi (fun (r : Int32) (_ : Unit) => r = nI 1) (fun _ _ => True) NA) 1 6 NA := by
  refine zwb (cc := cL_backdate) (maxL := 5) (ret := (some .int)) (hh := [(0, 10, 13, 32), (0, 10, 17, 13), (0, 10, 21, 15)]) (by decide) rfl (Nat.le_of_ble_eq_true rfl) ?_
  intro p e s m below meth c ls htab hx hb hml hr hlocks hown hts hP hK hG hH hl
  have hl : lv_has ls 5 [(0, .ref x), (1, .int z), (2, .int y), (3, .ref ot)] := hl
  have k_0 := hts (.classLink RL 32 "java/lang/IndexOutOfBoundsException") (List.mem_of_getElem? (i := 1) rfl)
  refine lv_aload_n hx hb dL_backdate_0 rfl (lv_at hl 3 rfl) ?_
  refine lv_iconst (v := nI 0) hx hb dL_backdate_1 (by decide) ?_
  refine lv_aload_n hx hb dL_backdate_2 rfl (lv_at hl 0 rfl) ?_
  refine lv_iload_n hx hb dL_backdate_3 rfl (lv_at hl 1 rfl) ?_
  refine lv_iload_n hx hb dL_backdate_4 rfl (lv_at hl 2 rfl) ?_
  refine zcat (E := "java/lang/IndexOutOfBoundsException") (own := RL) (name := "java/lang/IndexOutOfBoundsException") [] ⟨0, 10, 13, 32⟩ [⟨0, 10, 17, 13⟩, ⟨0, 10, 21, 15⟩] (vx_runV (As := [.int z, .int y]) (rest := [.int (nI 0), .ref ot]) ⟨hx, hb, hml, hown, hts⟩ (m_X5_backdate_b l hnt D x pr mk os ch gd mm em1 n z y em (by first | omega | assumption) (by first | omega | assumption)) (cwV 2 hts gL_backdate_X5_backdate rfl rfl rfl (by decide +kernel) ⟨Nat.le_of_ble_eq_true rfl, Nat.le_of_ble_eq_true rfl⟩) (zt_V (va_recv hK hP (ci := 5) (q0 := 0) rfl rfl) (hP.sub (ws' := [(x, .inr (5, [.ref pr, .ref mk, .ref os, .long ch, .long gd])), (mk, .inr (0, [.int mm, .ref em1, .int (nI n)]))]) [0, 1] rfl) (hK.sub (tys' := []) [] rfl) hG hH) rfl rfl hl.1 rfl (lv_room (Nat.le_of_ble_eq_true rfl)) dL_backdate_5 ⟨Nat.le_of_ble_eq_true rfl, Nat.le_of_ble_eq_true rfl⟩) hown (htab.trans rfl) (fun z hz => absurd hz List.not_mem_nil) (by decide) (by decide) k_0 (va_Nw.use rfl (hG.2.1 ("java/lang/IndexOutOfBoundsException", "java/lang/IndexOutOfBoundsException") (by decide +kernel))) (fun H locs q9 hS => ?_)
  refine lv_astore (lv' := [(4, .ref q9), (0, .ref x), (1, .int z), (2, .int y), (3, .ref ot)]) hx hb dL_backdate_13 hl (by decide) rfl (fun ls hl => ?_)
  refine lv_iconst (v := nI 1) hx hb dL_backdate_15 (by decide) ?_
  exact zretBi hx hb hr hlocks (fun _ _ _ => trivial) hS dL_backdate_16 (Nat.le_of_ble_eq_true rfl) (Nat.le_of_ble_eq_true rfl) rfl

set_option maxHeartbeats 4000000 in
set_option maxRecDepth 100000 in
/-- law: backdate: b0 -/
theorem m_L_backdate_b0 (l : Launch) (hnt : l.stackTraces = false) (D : va_G) (x pr mk os : Nat) (ch gd : Int64) (mm : Int32) (em1 n : Nat) (cap : Nat) (cO : ClassId) (fl : Nat → Option Nat) (co ac : Nat) (cJ : ClassId) (pm sm rt : Int32) (fu : Nat) (ini : Int64) (np : Nat) (al : Int32) (acc : Nat → Int64) (kc : Nat) (bd : Nat) (t : Nat) (y : Int32) (em : Nat) (ot : Nat) (hkc : kc < n) (hn : n ≤ cap) (hcap : cap ≤ 800) (hfl : fl kc = some co) (h1 : k_isIn y (nI 0) (nI t) = nI 0) : Met l yL_backdate wsL_backdate ({ frames := 8, cells := 1, slots := 6, locals := 141 }) (zt D [(x, .inr (5, [.ref pr, .ref mk, .ref os, .long ch, .long gd])), (mk, .inr (0, [.int mm, .ref em1, .int (nI n)])), (em1, .inl (cO, cap, .inr (.inr (.inr (.inr fl))))), (co, .inr (1, [.int pm, .int sm, .int rt, .int (nI fu), .ref ac, .long ini, .int (nI np), .int al])), (ac, .inl (cJ, 3, .inr (.inl acc))), (pr, .inr (3, [.ref bd, .int (nI t)]))] [(cO, .object "java/lang/Object"), (cJ, .long)] em [.ref x, .int (nI kc), .int y, .ref ot]) (va_Qi (fun (r : Int32) (_ : Unit) => r = nI 2) (fun _ _ => True) NA) 1 6 NA := by
  refine zwb (cc := cL_backdate) (maxL := 5) (ret := (some .int)) (hh := [(0, 10, 13, 32), (0, 10, 17, 13), (0, 10, 21, 15)]) (by decide) rfl (Nat.le_of_ble_eq_true rfl) ?_
  intro p e s m below meth c ls htab hx hb hml hr hlocks hown hts hP hK hG hH hl
  have hl : lv_has ls 5 [(0, .ref x), (1, .int (nI kc)), (2, .int y), (3, .ref ot)] := hl
  have k_0 := hts (.classLink RL 32 "java/lang/IndexOutOfBoundsException") (List.mem_of_getElem? (i := 1) rfl)
  have k_1 := hts (.classLink RL 13 "java/lang/IllegalArgumentException") (List.mem_of_getElem? (i := 2) rfl)
  refine lv_aload_n hx hb dL_backdate_0 rfl (lv_at hl 3 rfl) ?_
  refine lv_iconst (v := nI 0) hx hb dL_backdate_1 (by decide) ?_
  refine lv_aload_n hx hb dL_backdate_2 rfl (lv_at hl 0 rfl) ?_
  refine lv_iload_n hx hb dL_backdate_3 rfl (lv_at hl 1 rfl) ?_
  refine lv_iload_n hx hb dL_backdate_4 rfl (lv_at hl 2 rfl) ?_
  refine zcat (E := "java/lang/IllegalArgumentException") (own := RL) (name := "java/lang/IllegalArgumentException") [⟨0, 10, 13, 32⟩] ⟨0, 10, 17, 13⟩ [⟨0, 10, 21, 15⟩] (vx_runV (As := [.int (nI kc), .int y]) (rest := [.int (nI 0), .ref ot]) ⟨hx, hb, hml, hown, hts⟩ (m_X5_backdate_b0 l hnt D x pr mk os ch gd mm em1 n cap cO fl co ac cJ pm sm rt fu ini np al acc kc bd t y em (by first | omega | assumption) (by first | omega | assumption) (by first | omega | assumption) (by first | omega | assumption) (by first | omega | assumption)) (cwV 2 hts gL_backdate_X5_backdate rfl rfl rfl (by decide +kernel) ⟨Nat.le_of_ble_eq_true rfl, Nat.le_of_ble_eq_true rfl⟩) (zt_V (va_recv hK hP (ci := 5) (q0 := 0) rfl rfl) (hP.sub (ws' := [(x, .inr (5, [.ref pr, .ref mk, .ref os, .long ch, .long gd])), (mk, .inr (0, [.int mm, .ref em1, .int (nI n)])), (em1, .inl (cO, cap, .inr (.inr (.inr (.inr fl))))), (co, .inr (1, [.int pm, .int sm, .int rt, .int (nI fu), .ref ac, .long ini, .int (nI np), .int al])), (ac, .inl (cJ, 3, .inr (.inl acc))), (pr, .inr (3, [.ref bd, .int (nI t)]))]) [0, 1, 2, 3, 4, 5] rfl) (hK.sub (tys' := [(cO, .object "java/lang/Object"), (cJ, .long)]) [0, 1] rfl) hG hH) rfl rfl hl.1 rfl (lv_room (Nat.le_of_ble_eq_true rfl)) dL_backdate_5 ⟨Nat.le_of_ble_eq_true rfl, Nat.le_of_ble_eq_true rfl⟩) hown (htab.trans rfl) (by intro z hz; simp only [List.mem_cons, List.not_mem_nil, or_false] at hz; subst hz; exact Or.inr ⟨by decide, "java/lang/IndexOutOfBoundsException", k_0, hG.2.2.1 ("java/lang/IllegalArgumentException", "java/lang/IndexOutOfBoundsException") (by decide +kernel)⟩) (by decide) (by decide) k_1 (va_Nw.use rfl (hG.2.1 ("java/lang/IllegalArgumentException", "java/lang/IllegalArgumentException") (by decide +kernel))) (fun H locs q9 hS => ?_)
  refine lv_astore (lv' := [(4, .ref q9), (0, .ref x), (1, .int (nI kc)), (2, .int y), (3, .ref ot)]) hx hb dL_backdate_17 hl (by decide) rfl (fun ls hl => ?_)
  refine lv_iconst (v := nI 2) hx hb dL_backdate_19 (by decide) ?_
  exact zretBi hx hb hr hlocks (fun _ _ _ => trivial) hS dL_backdate_20 (Nat.le_of_ble_eq_true rfl) (Nat.le_of_ble_eq_true rfl) rfl

set_option maxHeartbeats 4000000 in
set_option maxRecDepth 100000 in
/-- law: backdate: off -/
theorem m_L_backdate_off (l : Launch) (hnt : l.stackTraces = false) (D : va_G) (x pr mk os : Nat) (ch gd : Int64) (mm : Int32) (em1 n : Nat) (cap : Nat) (cO : ClassId) (fl : Nat → Option Nat) (co ac : Nat) (cJ : ClassId) (pm sm rt : Int32) (fu : Nat) (ini : Int64) (np : Nat) (al : Int32) (acc : Nat → Int64) (kc : Nat) (bd : Nat) (t : Nat) (dd : Nat) (em : Nat) (ot : Nat) (hkc : kc < n) (hn : n ≤ cap) (hcap : cap ≤ 800) (hfl : fl kc = some co) (hd : dd ≤ t) (ht : t ≤ 2000) (hal : al = nI 0) : Met l yL_backdate wsL_backdate ({ frames := 8, cells := 1, slots := 6, locals := 140 }) (zt D [(x, .inr (5, [.ref pr, .ref mk, .ref os, .long ch, .long gd])), (mk, .inr (0, [.int mm, .ref em1, .int (nI n)])), (em1, .inl (cO, cap, .inr (.inr (.inr (.inr fl))))), (co, .inr (1, [.int pm, .int sm, .int rt, .int (nI fu), .ref ac, .long ini, .int (nI np), .int al])), (ac, .inl (cJ, 3, .inr (.inl acc))), (pr, .inr (3, [.ref bd, .int (nI t)]))] [(cO, .object "java/lang/Object"), (cJ, .long)] em [.ref x, .int (nI kc), .int (nI dd), .ref ot]) (va_Qi (fun (r : Int32) (_ : Unit) => r = nI 3) (fun _ _ => True) NA) 1 6 NA := by
  refine zwb (cc := cL_backdate) (maxL := 5) (ret := (some .int)) (hh := [(0, 10, 13, 32), (0, 10, 17, 13), (0, 10, 21, 15)]) (by decide) rfl (Nat.le_of_ble_eq_true rfl) ?_
  intro p e s m below meth c ls htab hx hb hml hr hlocks hown hts hP hK hG hH hl
  have hl : lv_has ls 5 [(0, .ref x), (1, .int (nI kc)), (2, .int (nI dd)), (3, .ref ot)] := hl
  have k_0 := hts (.classLink RL 32 "java/lang/IndexOutOfBoundsException") (List.mem_of_getElem? (i := 1) rfl)
  have k_1 := hts (.classLink RL 13 "java/lang/IllegalArgumentException") (List.mem_of_getElem? (i := 2) rfl)
  have k_2 := hts (.classLink RL 15 "java/lang/IllegalStateException") (List.mem_of_getElem? (i := 3) rfl)
  refine lv_aload_n hx hb dL_backdate_0 rfl (lv_at hl 3 rfl) ?_
  refine lv_iconst (v := nI 0) hx hb dL_backdate_1 (by decide) ?_
  refine lv_aload_n hx hb dL_backdate_2 rfl (lv_at hl 0 rfl) ?_
  refine lv_iload_n hx hb dL_backdate_3 rfl (lv_at hl 1 rfl) ?_
  refine lv_iload_n hx hb dL_backdate_4 rfl (lv_at hl 2 rfl) ?_
  refine zcat (E := "java/lang/IllegalStateException") (own := RL) (name := "java/lang/IllegalStateException") [⟨0, 10, 13, 32⟩, ⟨0, 10, 17, 13⟩] ⟨0, 10, 21, 15⟩ [] (vx_runV (As := [.int (nI kc), .int (nI dd)]) (rest := [.int (nI 0), .ref ot]) ⟨hx, hb, hml, hown, hts⟩ (m_X5_backdate_off l hnt D x pr mk os ch gd mm em1 n cap cO fl co ac cJ pm sm rt fu ini np al acc kc bd t dd em (by first | omega | assumption) (by first | omega | assumption) (by first | omega | assumption) (by first | omega | assumption) (by first | omega | assumption) (by first | omega | assumption) (by first | omega | assumption)) (cwV 2 hts gL_backdate_X5_backdate rfl rfl rfl (by decide +kernel) ⟨Nat.le_of_ble_eq_true rfl, Nat.le_of_ble_eq_true rfl⟩) (zt_V (va_recv hK hP (ci := 5) (q0 := 0) rfl rfl) (hP.sub (ws' := [(x, .inr (5, [.ref pr, .ref mk, .ref os, .long ch, .long gd])), (mk, .inr (0, [.int mm, .ref em1, .int (nI n)])), (em1, .inl (cO, cap, .inr (.inr (.inr (.inr fl))))), (co, .inr (1, [.int pm, .int sm, .int rt, .int (nI fu), .ref ac, .long ini, .int (nI np), .int al])), (ac, .inl (cJ, 3, .inr (.inl acc))), (pr, .inr (3, [.ref bd, .int (nI t)]))]) [0, 1, 2, 3, 4, 5] rfl) (hK.sub (tys' := [(cO, .object "java/lang/Object"), (cJ, .long)]) [0, 1] rfl) hG hH) rfl rfl hl.1 rfl (lv_room (Nat.le_of_ble_eq_true rfl)) dL_backdate_5 ⟨Nat.le_of_ble_eq_true rfl, Nat.le_of_ble_eq_true rfl⟩) hown (htab.trans rfl) (by intro z hz; simp only [List.mem_cons, List.not_mem_nil, or_false] at hz; rcases hz with rfl | rfl; exact Or.inr ⟨by decide, "java/lang/IndexOutOfBoundsException", k_0, hG.2.2.1 ("java/lang/IllegalStateException", "java/lang/IndexOutOfBoundsException") (by decide +kernel)⟩; exact Or.inr ⟨by decide, "java/lang/IllegalArgumentException", k_1, hG.2.2.1 ("java/lang/IllegalStateException", "java/lang/IllegalArgumentException") (by decide +kernel)⟩) (by decide) (by decide) k_2 (va_Nw.use rfl (hG.2.1 ("java/lang/IllegalStateException", "java/lang/IllegalStateException") (by decide +kernel))) (fun H locs q9 hS => ?_)
  refine lv_astore (lv' := [(4, .ref q9), (0, .ref x), (1, .int (nI kc)), (2, .int (nI dd)), (3, .ref ot)]) hx hb dL_backdate_21 hl (by decide) rfl (fun ls hl => ?_)
  refine lv_iconst (v := nI 3) hx hb dL_backdate_23 (by decide) ?_
  exact zretBi hx hb hr hlocks (fun _ _ _ => trivial) hS dL_backdate_24 (Nat.le_of_ble_eq_true rfl) (Nat.le_of_ble_eq_true rfl) rfl

set_option maxHeartbeats 4000000 in
set_option maxRecDepth 100000 in
/-- law: isInForce: b -/
theorem m_L_isInForce_b (l : Launch) (hnt : l.stackTraces = false) (D : va_G) (x pr mk os : Nat) (ch gd : Int64) (mm : Int32) (em1 n : Nat) (z : Int32) (em : Nat) (ot : Nat) (h0 : k_isIn z (nI 0) (nI n - nI 1) = nI 0) (hn : n ≤ 10) : Met l yL_isInForce wsL_isInForce ({ frames := 8, cells := 1, slots := 6, locals := 134 }) (zt D [(x, .inr (5, [.ref pr, .ref mk, .ref os, .long ch, .long gd])), (mk, .inr (0, [.int mm, .ref em1, .int (nI n)]))] [] em [.ref x, .int z, .ref ot]) (va_Qi (fun (r : Int32) (_ : Unit) => r = nI 1) (fun _ _ => True) NA) 1 6 NA := by
  refine zwb (cc := cL_isInForce) (maxL := 4) (ret := (some .int)) (hh := [(0, 16, 19, 32)]) (by decide) rfl (Nat.le_of_ble_eq_true rfl) ?_
  intro p e s m below meth c ls htab hx hb hml hr hlocks hown hts hP hK hG hH hl
  have hl : lv_has ls 4 [(0, .ref x), (1, .int z), (2, .ref ot)] := hl
  have k_0 := hts (.classLink RL 32 "java/lang/IndexOutOfBoundsException") (List.mem_of_getElem? (i := 1) rfl)
  refine lv_aload_n hx hb dL_isInForce_0 rfl (lv_at hl 2 rfl) ?_
  refine lv_iconst (v := nI 0) hx hb dL_isInForce_1 (by decide) ?_
  refine lv_aload_n hx hb dL_isInForce_2 rfl (lv_at hl 0 rfl) ?_
  refine lv_iload_n hx hb dL_isInForce_3 rfl (lv_at hl 1 rfl) ?_
  refine zcat (E := "java/lang/IndexOutOfBoundsException") (own := RL) (name := "java/lang/IndexOutOfBoundsException") [] ⟨0, 16, 19, 32⟩ [] (vx_runV (As := [.int z]) (rest := [.int (nI 0), .ref ot]) ⟨hx, hb, hml, hown, hts⟩ (m_X5_isInForce_b l hnt D x pr mk os ch gd mm em1 n z em (by first | omega | assumption) (by first | omega | assumption)) (cwV 1 hts gL_isInForce_X5_isInForce rfl rfl rfl (by decide +kernel) ⟨Nat.le_of_ble_eq_true rfl, Nat.le_of_ble_eq_true rfl⟩) (zt_V (va_recv hK hP (ci := 5) (q0 := 0) rfl rfl) (hP.sub (ws' := [(x, .inr (5, [.ref pr, .ref mk, .ref os, .long ch, .long gd])), (mk, .inr (0, [.int mm, .ref em1, .int (nI n)]))]) [0, 1] rfl) (hK.sub (tys' := []) [] rfl) hG hH) rfl rfl hl.1 rfl (lv_room (Nat.le_of_ble_eq_true rfl)) dL_isInForce_4 ⟨Nat.le_of_ble_eq_true rfl, Nat.le_of_ble_eq_true rfl⟩) hown (htab.trans rfl) (fun z hz => absurd hz List.not_mem_nil) (by decide) (by decide) k_0 (va_Nw.use rfl (hG.2.1 ("java/lang/IndexOutOfBoundsException", "java/lang/IndexOutOfBoundsException") (by decide +kernel))) (fun H locs q9 hS => ?_)
  refine lv_astore_n (lv' := [(3, .ref q9), (0, .ref x), (1, .int z), (2, .ref ot)]) hx hb dL_isInForce_19 rfl hl (by decide) rfl (fun ls hl => ?_)
  refine lv_iconst (v := nI 1) hx hb dL_isInForce_20 (by decide) ?_
  exact zretBi hx hb hr hlocks (fun _ _ _ => trivial) hS dL_isInForce_21 (Nat.le_of_ble_eq_true rfl) (Nat.le_of_ble_eq_true rfl) rfl

set_option maxHeartbeats 4000000 in
set_option maxRecDepth 100000 in
/-- law: units: b -/
theorem m_L_units_b (l : Launch) (hnt : l.stackTraces = false) (D : va_G) (x pr mk os : Nat) (ch gd : Int64) (mm : Int32) (em1 n : Nat) (z : Int32) (y : Int32) (em : Nat) (ot : Nat) (h0 : k_isIn z (nI 0) (nI n - nI 1) = nI 0) (hn : n ≤ 10) : Met l yL_units wsL_units ({ frames := 8, cells := 1, slots := 6, locals := 136 }) (zt D [(x, .inr (5, [.ref pr, .ref mk, .ref os, .long ch, .long gd])), (mk, .inr (0, [.int mm, .ref em1, .int (nI n)]))] [] em [.ref x, .int z, .int y, .ref ot]) (va_Qi (fun (r : Int32) (_ : Unit) => r = nI 1) (fun _ _ => True) NA) 1 6 NA := by
  refine zwb (cc := cL_units) (maxL := 5) (ret := (some .int)) (hh := [(0, 9, 12, 32), (0, 9, 16, 13)]) (by decide) rfl (Nat.le_of_ble_eq_true rfl) ?_
  intro p e s m below meth c ls htab hx hb hml hr hlocks hown hts hP hK hG hH hl
  have hl : lv_has ls 5 [(0, .ref x), (1, .int z), (2, .int y), (3, .ref ot)] := hl
  have k_0 := hts (.classLink RL 32 "java/lang/IndexOutOfBoundsException") (List.mem_of_getElem? (i := 1) rfl)
  refine lv_aload_n hx hb dL_units_0 rfl (lv_at hl 3 rfl) ?_
  refine lv_iconst (v := nI 0) hx hb dL_units_1 (by decide) ?_
  refine lv_aload_n hx hb dL_units_2 rfl (lv_at hl 0 rfl) ?_
  refine lv_iload_n hx hb dL_units_3 rfl (lv_at hl 1 rfl) ?_
  refine lv_iload_n hx hb dL_units_4 rfl (lv_at hl 2 rfl) ?_
  refine zcat (E := "java/lang/IndexOutOfBoundsException") (own := RL) (name := "java/lang/IndexOutOfBoundsException") [] ⟨0, 9, 12, 32⟩ [⟨0, 9, 16, 13⟩] (vx_runV (As := [.int z, .int y]) (rest := [.int (nI 0), .ref ot]) ⟨hx, hb, hml, hown, hts⟩ (m_X5_units_b l hnt D x pr mk os ch gd mm em1 n z y em (by first | omega | assumption) (by first | omega | assumption)) (cwV 2 hts gL_units_X5_units rfl rfl rfl (by decide +kernel) ⟨Nat.le_of_ble_eq_true rfl, Nat.le_of_ble_eq_true rfl⟩) (zt_V (va_recv hK hP (ci := 5) (q0 := 0) rfl rfl) (hP.sub (ws' := [(x, .inr (5, [.ref pr, .ref mk, .ref os, .long ch, .long gd])), (mk, .inr (0, [.int mm, .ref em1, .int (nI n)]))]) [0, 1] rfl) (hK.sub (tys' := []) [] rfl) hG hH) rfl rfl hl.1 rfl (lv_room (Nat.le_of_ble_eq_true rfl)) dL_units_5 ⟨Nat.le_of_ble_eq_true rfl, Nat.le_of_ble_eq_true rfl⟩) hown (htab.trans rfl) (fun z hz => absurd hz List.not_mem_nil) (by decide) (by decide) k_0 (va_Nw.use rfl (hG.2.1 ("java/lang/IndexOutOfBoundsException", "java/lang/IndexOutOfBoundsException") (by decide +kernel))) (fun H locs q9 hS => ?_)
  refine lv_astore (lv' := [(4, .ref q9), (0, .ref x), (1, .int z), (2, .int y), (3, .ref ot)]) hx hb dL_units_12 hl (by decide) rfl (fun ls hl => ?_)
  refine lv_iconst (v := nI 1) hx hb dL_units_14 (by decide) ?_
  exact zretBi hx hb hr hlocks (fun _ _ _ => trivial) hS dL_units_15 (Nat.le_of_ble_eq_true rfl) (Nat.le_of_ble_eq_true rfl) rfl

set_option maxHeartbeats 4000000 in
set_option maxRecDepth 100000 in
/-- law: units: b0 -/
theorem m_L_units_b0 (l : Launch) (hnt : l.stackTraces = false) (D : va_G) (x pr mk os : Nat) (ch gd : Int64) (mm : Int32) (em1 n : Nat) (cap : Nat) (cO : ClassId) (fl : Nat → Option Nat) (co ac : Nat) (cJ : ClassId) (pm sm rt : Int32) (fu : Nat) (ini : Int64) (np : Nat) (al : Int32) (acc : Nat → Int64) (kc : Nat) (z : Int32) (em : Nat) (ot : Nat) (hkc : kc < n) (hn : n ≤ cap) (hcap : cap ≤ 800) (hfl : fl kc = some co) (h1 : k_isFund z = nI 0) : Met l yL_units wsL_units ({ frames := 8, cells := 1, slots := 6, locals := 135 }) (zt D [(x, .inr (5, [.ref pr, .ref mk, .ref os, .long ch, .long gd])), (mk, .inr (0, [.int mm, .ref em1, .int (nI n)])), (em1, .inl (cO, cap, .inr (.inr (.inr (.inr fl))))), (co, .inr (1, [.int pm, .int sm, .int rt, .int (nI fu), .ref ac, .long ini, .int (nI np), .int al])), (ac, .inl (cJ, 3, .inr (.inl acc)))] [(cO, .object "java/lang/Object"), (cJ, .long)] em [.ref x, .int (nI kc), .int z, .ref ot]) (va_Qi (fun (r : Int32) (_ : Unit) => r = nI 2) (fun _ _ => True) NA) 1 6 NA := by
  refine zwb (cc := cL_units) (maxL := 5) (ret := (some .int)) (hh := [(0, 9, 12, 32), (0, 9, 16, 13)]) (by decide) rfl (Nat.le_of_ble_eq_true rfl) ?_
  intro p e s m below meth c ls htab hx hb hml hr hlocks hown hts hP hK hG hH hl
  have hl : lv_has ls 5 [(0, .ref x), (1, .int (nI kc)), (2, .int z), (3, .ref ot)] := hl
  have k_0 := hts (.classLink RL 32 "java/lang/IndexOutOfBoundsException") (List.mem_of_getElem? (i := 1) rfl)
  have k_1 := hts (.classLink RL 13 "java/lang/IllegalArgumentException") (List.mem_of_getElem? (i := 2) rfl)
  refine lv_aload_n hx hb dL_units_0 rfl (lv_at hl 3 rfl) ?_
  refine lv_iconst (v := nI 0) hx hb dL_units_1 (by decide) ?_
  refine lv_aload_n hx hb dL_units_2 rfl (lv_at hl 0 rfl) ?_
  refine lv_iload_n hx hb dL_units_3 rfl (lv_at hl 1 rfl) ?_
  refine lv_iload_n hx hb dL_units_4 rfl (lv_at hl 2 rfl) ?_
  refine zcat (E := "java/lang/IllegalArgumentException") (own := RL) (name := "java/lang/IllegalArgumentException") [⟨0, 9, 12, 32⟩] ⟨0, 9, 16, 13⟩ [] (vx_runV (As := [.int (nI kc), .int z]) (rest := [.int (nI 0), .ref ot]) ⟨hx, hb, hml, hown, hts⟩ (m_X5_units_b0 l hnt D x pr mk os ch gd mm em1 n cap cO fl co ac cJ pm sm rt fu ini np al acc kc z em (by first | omega | assumption) (by first | omega | assumption) (by first | omega | assumption) (by first | omega | assumption) (by first | omega | assumption)) (cwV 2 hts gL_units_X5_units rfl rfl rfl (by decide +kernel) ⟨Nat.le_of_ble_eq_true rfl, Nat.le_of_ble_eq_true rfl⟩) (zt_V (va_recv hK hP (ci := 5) (q0 := 0) rfl rfl) (hP.sub (ws' := [(x, .inr (5, [.ref pr, .ref mk, .ref os, .long ch, .long gd])), (mk, .inr (0, [.int mm, .ref em1, .int (nI n)])), (em1, .inl (cO, cap, .inr (.inr (.inr (.inr fl))))), (co, .inr (1, [.int pm, .int sm, .int rt, .int (nI fu), .ref ac, .long ini, .int (nI np), .int al])), (ac, .inl (cJ, 3, .inr (.inl acc)))]) [0, 1, 2, 3, 4] rfl) (hK.sub (tys' := [(cO, .object "java/lang/Object"), (cJ, .long)]) [0, 1] rfl) hG hH) rfl rfl hl.1 rfl (lv_room (Nat.le_of_ble_eq_true rfl)) dL_units_5 ⟨Nat.le_of_ble_eq_true rfl, Nat.le_of_ble_eq_true rfl⟩) hown (htab.trans rfl) (by intro z hz; simp only [List.mem_cons, List.not_mem_nil, or_false] at hz; subst hz; exact Or.inr ⟨by decide, "java/lang/IndexOutOfBoundsException", k_0, hG.2.2.1 ("java/lang/IllegalArgumentException", "java/lang/IndexOutOfBoundsException") (by decide +kernel)⟩) (by decide) (by decide) k_1 (va_Nw.use rfl (hG.2.1 ("java/lang/IllegalArgumentException", "java/lang/IllegalArgumentException") (by decide +kernel))) (fun H locs q9 hS => ?_)
  refine lv_astore (lv' := [(4, .ref q9), (0, .ref x), (1, .int (nI kc)), (2, .int z), (3, .ref ot)]) hx hb dL_units_16 hl (by decide) rfl (fun ls hl => ?_)
  refine lv_iconst (v := nI 2) hx hb dL_units_18 (by decide) ?_
  exact zretBi hx hb hr hlocks (fun _ _ _ => trivial) hS dL_units_19 (Nat.le_of_ble_eq_true rfl) (Nat.le_of_ble_eq_true rfl) rfl

set_option maxHeartbeats 4000000 in
set_option maxRecDepth 100000 in
/-- law: initial: b -/
theorem m_L_initial_b (l : Launch) (hnt : l.stackTraces = false) (D : va_G) (x pr mk os : Nat) (ch gd : Int64) (mm : Int32) (em1 n : Nat) (z : Int32) (em : Nat) (ot : Nat) (h0 : k_isIn z (nI 0) (nI n - nI 1) = nI 0) (hn : n ≤ 10) : Met l yL_initial wsL_initial ({ frames := 8, cells := 1, slots := 6, locals := 134 }) (zt D [(x, .inr (5, [.ref pr, .ref mk, .ref os, .long ch, .long gd])), (mk, .inr (0, [.int mm, .ref em1, .int (nI n)]))] [] em [.ref x, .int z, .ref ot]) (va_Qi (fun (r : Int32) (_ : Unit) => r = nI 1) (fun _ _ => True) NA) 1 6 NA := by
  refine zwb (cc := cL_initial) (maxL := 4) (ret := (some .int)) (hh := [(0, 8, 11, 32)]) (by decide) rfl (Nat.le_of_ble_eq_true rfl) ?_
  intro p e s m below meth c ls htab hx hb hml hr hlocks hown hts hP hK hG hH hl
  have hl : lv_has ls 4 [(0, .ref x), (1, .int z), (2, .ref ot)] := hl
  have k_0 := hts (.classLink RL 32 "java/lang/IndexOutOfBoundsException") (List.mem_of_getElem? (i := 1) rfl)
  refine lv_aload_n hx hb dL_initial_0 rfl (lv_at hl 2 rfl) ?_
  refine lv_iconst (v := nI 0) hx hb dL_initial_1 (by decide) ?_
  refine lv_aload_n hx hb dL_initial_2 rfl (lv_at hl 0 rfl) ?_
  refine lv_iload_n hx hb dL_initial_3 rfl (lv_at hl 1 rfl) ?_
  refine zcat (E := "java/lang/IndexOutOfBoundsException") (own := RL) (name := "java/lang/IndexOutOfBoundsException") [] ⟨0, 8, 11, 32⟩ [] (vx_runV (As := [.int z]) (rest := [.int (nI 0), .ref ot]) ⟨hx, hb, hml, hown, hts⟩ (m_X5_initial_b l hnt D x pr mk os ch gd mm em1 n z em (by first | omega | assumption) (by first | omega | assumption)) (cwV 1 hts gL_initial_X5_initial rfl rfl rfl (by decide +kernel) ⟨Nat.le_of_ble_eq_true rfl, Nat.le_of_ble_eq_true rfl⟩) (zt_V (va_recv hK hP (ci := 5) (q0 := 0) rfl rfl) (hP.sub (ws' := [(x, .inr (5, [.ref pr, .ref mk, .ref os, .long ch, .long gd])), (mk, .inr (0, [.int mm, .ref em1, .int (nI n)]))]) [0, 1] rfl) (hK.sub (tys' := []) [] rfl) hG hH) rfl rfl hl.1 rfl (lv_room (Nat.le_of_ble_eq_true rfl)) dL_initial_4 ⟨Nat.le_of_ble_eq_true rfl, Nat.le_of_ble_eq_true rfl⟩) hown (htab.trans rfl) (fun z hz => absurd hz List.not_mem_nil) (by decide) (by decide) k_0 (va_Nw.use rfl (hG.2.1 ("java/lang/IndexOutOfBoundsException", "java/lang/IndexOutOfBoundsException") (by decide +kernel))) (fun H locs q9 hS => ?_)
  refine lv_astore_n (lv' := [(3, .ref q9), (0, .ref x), (1, .int z), (2, .ref ot)]) hx hb dL_initial_11 rfl hl (by decide) rfl (fun ls hl => ?_)
  refine lv_iconst (v := nI 1) hx hb dL_initial_12 (by decide) ?_
  exact zretBi hx hb hr hlocks (fun _ _ _ => trivial) hS dL_initial_13 (Nat.le_of_ble_eq_true rfl) (Nat.le_of_ble_eq_true rfl) rfl

set_option maxHeartbeats 4000000 in
set_option maxRecDepth 100000 in
/-- law: worth: b -/
theorem m_L_worth_b (l : Launch) (hnt : l.stackTraces = false) (D : va_G) (x pr mk os : Nat) (ch gd : Int64) (mm : Int32) (em1 n : Nat) (z : Int32) (em : Nat) (ot : Nat) (h0 : k_isIn z (nI 0) (nI n - nI 1) = nI 0) (hn : n ≤ 10) : Met l yL_worth wsL_worth ({ frames := 8, cells := 1, slots := 6, locals := 134 }) (zt D [(x, .inr (5, [.ref pr, .ref mk, .ref os, .long ch, .long gd])), (mk, .inr (0, [.int mm, .ref em1, .int (nI n)]))] [] em [.ref x, .int z, .ref ot]) (va_Qi (fun (r : Int32) (_ : Unit) => r = nI 1) (fun _ _ => True) NA) 1 6 NA := by
  refine zwb (cc := cL_worth) (maxL := 4) (ret := (some .int)) (hh := [(0, 8, 11, 32)]) (by decide) rfl (Nat.le_of_ble_eq_true rfl) ?_
  intro p e s m below meth c ls htab hx hb hml hr hlocks hown hts hP hK hG hH hl
  have hl : lv_has ls 4 [(0, .ref x), (1, .int z), (2, .ref ot)] := hl
  have k_0 := hts (.classLink RL 32 "java/lang/IndexOutOfBoundsException") (List.mem_of_getElem? (i := 1) rfl)
  refine lv_aload_n hx hb dL_worth_0 rfl (lv_at hl 2 rfl) ?_
  refine lv_iconst (v := nI 0) hx hb dL_worth_1 (by decide) ?_
  refine lv_aload_n hx hb dL_worth_2 rfl (lv_at hl 0 rfl) ?_
  refine lv_iload_n hx hb dL_worth_3 rfl (lv_at hl 1 rfl) ?_
  refine zcat (E := "java/lang/IndexOutOfBoundsException") (own := RL) (name := "java/lang/IndexOutOfBoundsException") [] ⟨0, 8, 11, 32⟩ [] (vx_runV (As := [.int z]) (rest := [.int (nI 0), .ref ot]) ⟨hx, hb, hml, hown, hts⟩ (m_X5_worth_b l hnt D x pr mk os ch gd mm em1 n z em (by first | omega | assumption) (by first | omega | assumption)) (cwV 1 hts gL_worth_X5_worth rfl rfl rfl (by decide +kernel) ⟨Nat.le_of_ble_eq_true rfl, Nat.le_of_ble_eq_true rfl⟩) (zt_V (va_recv hK hP (ci := 5) (q0 := 0) rfl rfl) (hP.sub (ws' := [(x, .inr (5, [.ref pr, .ref mk, .ref os, .long ch, .long gd])), (mk, .inr (0, [.int mm, .ref em1, .int (nI n)]))]) [0, 1] rfl) (hK.sub (tys' := []) [] rfl) hG hH) rfl rfl hl.1 rfl (lv_room (Nat.le_of_ble_eq_true rfl)) dL_worth_4 ⟨Nat.le_of_ble_eq_true rfl, Nat.le_of_ble_eq_true rfl⟩) hown (htab.trans rfl) (fun z hz => absurd hz List.not_mem_nil) (by decide) (by decide) k_0 (va_Nw.use rfl (hG.2.1 ("java/lang/IndexOutOfBoundsException", "java/lang/IndexOutOfBoundsException") (by decide +kernel))) (fun H locs q9 hS => ?_)
  refine lv_astore_n (lv' := [(3, .ref q9), (0, .ref x), (1, .int z), (2, .ref ot)]) hx hb dL_worth_11 rfl hl (by decide) rfl (fun ls hl => ?_)
  refine lv_iconst (v := nI 1) hx hb dL_worth_12 (by decide) ?_
  exact zretBi hx hb hr hlocks (fun _ _ _ => trivial) hS dL_worth_13 (Nat.le_of_ble_eq_true rfl) (Nat.le_of_ble_eq_true rfl) rfl

set_option maxHeartbeats 4000000 in
set_option maxRecDepth 100000 in
/-- law: paid: b -/
theorem m_L_paid_b (l : Launch) (hnt : l.stackTraces = false) (D : va_G) (x pr mk os : Nat) (ch gd : Int64) (mm : Int32) (em1 n : Nat) (z : Int32) (em : Nat) (ot : Nat) (h0 : k_isIn z (nI 0) (nI n - nI 1) = nI 0) (hn : n ≤ 10) : Met l yL_paid wsL_paid ({ frames := 8, cells := 1, slots := 6, locals := 134 }) (zt D [(x, .inr (5, [.ref pr, .ref mk, .ref os, .long ch, .long gd])), (mk, .inr (0, [.int mm, .ref em1, .int (nI n)]))] [] em [.ref x, .int z, .ref ot]) (va_Qi (fun (r : Int32) (_ : Unit) => r = nI 1) (fun _ _ => True) NA) 1 6 NA := by
  refine zwb (cc := cL_paid) (maxL := 4) (ret := (some .int)) (hh := [(0, 9, 12, 32)]) (by decide) rfl (Nat.le_of_ble_eq_true rfl) ?_
  intro p e s m below meth c ls htab hx hb hml hr hlocks hown hts hP hK hG hH hl
  have hl : lv_has ls 4 [(0, .ref x), (1, .int z), (2, .ref ot)] := hl
  have k_0 := hts (.classLink RL 32 "java/lang/IndexOutOfBoundsException") (List.mem_of_getElem? (i := 1) rfl)
  refine lv_aload_n hx hb dL_paid_0 rfl (lv_at hl 2 rfl) ?_
  refine lv_iconst (v := nI 0) hx hb dL_paid_1 (by decide) ?_
  refine lv_aload_n hx hb dL_paid_2 rfl (lv_at hl 0 rfl) ?_
  refine lv_iload_n hx hb dL_paid_3 rfl (lv_at hl 1 rfl) ?_
  refine zcat (E := "java/lang/IndexOutOfBoundsException") (own := RL) (name := "java/lang/IndexOutOfBoundsException") [] ⟨0, 9, 12, 32⟩ [] (vx_runV (As := [.int z]) (rest := [.int (nI 0), .ref ot]) ⟨hx, hb, hml, hown, hts⟩ (m_X5_paid_b l hnt D x pr mk os ch gd mm em1 n z em (by first | omega | assumption) (by first | omega | assumption)) (cwV 1 hts gL_paid_X5_paid rfl rfl rfl (by decide +kernel) ⟨Nat.le_of_ble_eq_true rfl, Nat.le_of_ble_eq_true rfl⟩) (zt_V (va_recv hK hP (ci := 5) (q0 := 0) rfl rfl) (hP.sub (ws' := [(x, .inr (5, [.ref pr, .ref mk, .ref os, .long ch, .long gd])), (mk, .inr (0, [.int mm, .ref em1, .int (nI n)]))]) [0, 1] rfl) (hK.sub (tys' := []) [] rfl) hG hH) rfl rfl hl.1 rfl (lv_room (Nat.le_of_ble_eq_true rfl)) dL_paid_4 ⟨Nat.le_of_ble_eq_true rfl, Nat.le_of_ble_eq_true rfl⟩) hown (htab.trans rfl) (fun z hz => absurd hz List.not_mem_nil) (by decide) (by decide) k_0 (va_Nw.use rfl (hG.2.1 ("java/lang/IndexOutOfBoundsException", "java/lang/IndexOutOfBoundsException") (by decide +kernel))) (fun H locs q9 hS => ?_)
  refine lv_astore_n (lv' := [(3, .ref q9), (0, .ref x), (1, .int z), (2, .ref ot)]) hx hb dL_paid_12 rfl hl (by decide) rfl (fun ls hl => ?_)
  refine lv_iconst (v := nI 1) hx hb dL_paid_13 (by decide) ?_
  exact zretBi hx hb hr hlocks (fun _ _ _ => trivial) hS dL_paid_14 (Nat.le_of_ble_eq_true rfl) (Nat.le_of_ble_eq_true rfl) rfl

set_option maxHeartbeats 4000000 in
set_option maxRecDepth 100000 in
/-- law: fundUnits: b -/
theorem m_L_fundUnits_b (l : Launch) (hnt : l.stackTraces = false) (D : va_G) (x pr mk os : Nat) (ch gd : Int64) (z : Int32) (em : Nat) (ot : Nat) (h1 : k_isFund z = nI 0) : Met l yL_fundUnits wsL_fundUnits ({ frames := 8, cells := 1, slots := 6, locals := 136 }) (zt D [(x, .inr (5, [.ref pr, .ref mk, .ref os, .long ch, .long gd]))] [] em [.ref x, .int z, .ref ot]) (va_Qi (fun (r : Int32) (_ : Unit) => r = nI 1) (fun _ _ => True) NA) 1 6 NA := by
  refine zwb (cc := cL_fundUnits) (maxL := 4) (ret := (some .int)) (hh := [(0, 8, 11, 13)]) (by decide) rfl (Nat.le_of_ble_eq_true rfl) ?_
  intro p e s m below meth c ls htab hx hb hml hr hlocks hown hts hP hK hG hH hl
  have hl : lv_has ls 4 [(0, .ref x), (1, .int z), (2, .ref ot)] := hl
  have k_0 := hts (.classLink RL 13 "java/lang/IllegalArgumentException") (List.mem_of_getElem? (i := 1) rfl)
  refine lv_aload_n hx hb dL_fundUnits_0 rfl (lv_at hl 2 rfl) ?_
  refine lv_iconst (v := nI 0) hx hb dL_fundUnits_1 (by decide) ?_
  refine lv_aload_n hx hb dL_fundUnits_2 rfl (lv_at hl 0 rfl) ?_
  refine lv_iload_n hx hb dL_fundUnits_3 rfl (lv_at hl 1 rfl) ?_
  refine zcat (E := "java/lang/IllegalArgumentException") (own := RL) (name := "java/lang/IllegalArgumentException") [] ⟨0, 8, 11, 13⟩ [] (vx_runV (As := [.int z]) (rest := [.int (nI 0), .ref ot]) ⟨hx, hb, hml, hown, hts⟩ (m_X5_fundUnits_b l hnt D x z em (by first | omega | assumption)) (cwV 1 hts gL_fundUnits_X5_fundUnits rfl rfl rfl (by decide +kernel) ⟨Nat.le_of_ble_eq_true rfl, Nat.le_of_ble_eq_true rfl⟩) (zt_V (va_recv hK hP (ci := 5) (q0 := 0) rfl rfl) (hP.sub (ws' := []) [] rfl) (hK.sub (tys' := []) [] rfl) hG hH) rfl rfl hl.1 rfl (lv_room (Nat.le_of_ble_eq_true rfl)) dL_fundUnits_4 ⟨Nat.le_of_ble_eq_true rfl, Nat.le_of_ble_eq_true rfl⟩) hown (htab.trans rfl) (fun z hz => absurd hz List.not_mem_nil) (by decide) (by decide) k_0 (va_Nw.use rfl (hG.2.1 ("java/lang/IllegalArgumentException", "java/lang/IllegalArgumentException") (by decide +kernel))) (fun H locs q9 hS => ?_)
  refine lv_astore_n (lv' := [(3, .ref q9), (0, .ref x), (1, .int z), (2, .ref ot)]) hx hb dL_fundUnits_11 rfl hl (by decide) rfl (fun ls hl => ?_)
  refine lv_iconst (v := nI 1) hx hb dL_fundUnits_12 (by decide) ?_
  exact zretBi hx hb hr hlocks (fun _ _ _ => trivial) hS dL_fundUnits_13 (Nat.le_of_ble_eq_true rfl) (Nat.le_of_ble_eq_true rfl) rfl
