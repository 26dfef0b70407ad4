/-! THE LAW'S KIT: rows that are its own; draw; a day in the pool's world -/
section ZL
variable {p : Program} {l : Launch} {e : Env} {R : Room} {s : State} {m : MethodId} {args : Array Value} {below : List Frame} {meth : Method} {c : Code} {cc : ByteArray} {H H0 : Heap} {locs : List Loc} {cells slots mc ms : Nat} {Q : State → Prop} {pc : Nat} {ls : Array Slot} {rest : List Value}
theorem zx_lcmp_ne (hx : p.tables.exec = Jvm.exec) (hb : c.code = cc) {x y : Int64} {off : Int} {tgt : Nat} (d1 : decode cc pc = .ok (.lcmp, 1)) (d2 : decode cc (pc + 1) = .ok (.ifCond .ne off, 3)) (ht : ((pc + 1 : Nat) : Int) + off = (tgt : Int))
    (kt : ¬ x = y → W p l e R s m args below meth c H locs cells slots Q (F0 m tgt ls rest)) (kf : x = y → W p l e R s m args below meth c H locs cells slots Q (F0 m (pc + 1 + 3) ls rest)) : W p l e R s m args below meth c H locs cells slots Q (F0 m pc ls (.long y :: .long x :: rest)) :=
  W.lcmp hx hb d1 (lv_if_ne hx hb d2 ht (fun h => kt (fun q => h ((lg_cmp_eq x y).mpr q))) (fun h => kf ((lg_cmp_eq x y).mp h)))
theorem zx_lcmp_gt (hx : p.tables.exec = Jvm.exec) (hb : c.code = cc) {x y : Int64} {off : Int} {tgt : Nat} (d1 : decode cc pc = .ok (.lcmp, 1)) (d2 : decode cc (pc + 1) = .ok (.ifCond .gt off, 3)) (ht : ((pc + 1 : Nat) : Int) + off = (tgt : Int))
    (kt : y < x → W p l e R s m args below meth c H locs cells slots Q (F0 m tgt ls rest)) (kf : ¬ y < x → W p l e R s m args below meth c H locs cells slots Q (F0 m (pc + 1 + 3) ls rest)) : W p l e R s m args below meth c H locs cells slots Q (F0 m pc ls (.long y :: .long x :: rest)) :=
  W.lcmp hx hb d1 (lv_if_gt hx hb d2 ht (fun h => kt ((lg_cmp_gt x y).mp h)) (fun h => kf (fun q => h ((lg_cmp_gt x y).mpr q))))
end ZL
theorem zmd {l : Launch} {y : MethodName} {ws ws' : List Cond} {rm : Room} {Qc : Array Value → State → Outcome → State → Prop} {mc ms : Nat} {free : Addr → Prop} {cc : ByteArray} {maxL : Nat} {ret : Option FieldType} {av : List Value} {P0 : State → Prop} (hy : plainName y.cls = true) (hw : ws = Cond.code y cc maxL ret :: ws') (hn : (lg_sl av).length ≤ maxL)
    (body : ∀ (p : Program) (e : Env) (s : State) (m : MethodId) (below : List Frame) (meth : Method) (c : Code) (ls : Array Slot), p.tables.exec = Jvm.exec → c.code = cc → c.maxLocals = maxL → meth.sig.returnType = ret → meth.locks = false → s.vm.findClass y.cls = some m.cls → (∀ w ∈ ws, w.before av.toArray s = true) → P0 s → lv_has ls maxL (lv_args 0 av) →
      W p l e rm s m av.toArray below meth c s.heap [] 0 0 (MQ below Qc av.toArray s mc ms free) (F0 m 0 ls [])) : Met l y ws rm (va_Pc av P0) Qc mc ms free := by
  refine Met.ofW (cc := cc) (maxL := maxL) (ret := ret) hy hw ?_
  intro p e s m args below meth c s₁ B hml hv
  obtain ⟨rfl, hP⟩ := hv
  rw [lg_entry_eq]
  exact body p e s m below meth c _ B.exec B.bytes hml B.returns B.notSynchronized (findClass_of_methodNamed B.named) (atoms_spec (ws := ws) B.pre) hP (lv_entry av hn)
def zd (b L : Nat) (xs : Nat → Int32) (k : Nat) : Array Value → State → Prop := va_Pc [.ref b, .int (nI k)] (fun U => va_X b L xs U U.heap ∧ b < U.heap.size)
theorem zd_S {b L : Nat} {xs : Nat → Int32} {k : Nat} {s : State} {H : Heap} {locs : List Loc} {A : Nat → Prop} (hX : va_X b L xs s s.heap) (hbl : b < s.heap.size) (hbA : ¬ A b) (hS : va_S A s.heap H locs) : PreS s H (zd b L xs k) [.ref b, .int (nI k)] := by
  refine ⟨fun a U g mk q => ?_, fun U hU hW => ⟨rfl, ?_, ?_⟩⟩
  · obtain ⟨q0, q1, q2⟩ := q
    exact ⟨q0, va_X.moved (u := U) (U := U.calling g mk a) (Vm.Alike.refl U.vm) q1, q2⟩
  · rw [hU]; exact va_X.moved hW.alike (va_X.kept hX (hS.2.1 b hbl hbA))
  · rw [hU]; exact Nat.lt_of_lt_of_le hbl hS.1
set_option maxRecDepth 100000 in
/-- draw: an int that isn't negative -/
theorem m_L_draw (l : Launch) (b L k : Nat) (xs : Nat → Int32) (hL : L ≤ 260) (hk : k ≤ 300) : Met l yL_draw wsL_draw ({ frames := 0, cells := 0, slots := 0, locals := 0 }) (zd b L xs k) (vp_Si (fun r => ∃ a : Nat, a < 2147483648 ∧ r = nI a)) 0 0 (fun _ => False) := by
  refine zmd (cc := cL_draw) (maxL := 2) (ret := some .int) (by decide) rfl (Nat.le_of_ble_eq_true rfl) ?_
  intro p e s m below meth c ls hx hb hml hr hlocks hown hts hP hl
  obtain ⟨hX, hbl⟩ := hP
  have hl : lv_has ls 2 [(0, .ref b), (1, .int (nI k))] := hl
  have k_7 := hts (.constant RL 7 (2147483647)) (List.mem_of_getElem? (i := 1) rfl)
  have k_8 := hts (.constant RL 8 (104729)) (List.mem_of_getElem? (i := 2) rfl)
  have k_9 := hts (.constant RL 9 (65521)) (List.mem_of_getElem? (i := 3) rfl)
  refine lv_iload_n hx hb dL_draw_0 rfl (lv_at hl 1 rfl) ?_
  refine lv_aload_n hx hb dL_draw_1 rfl (lv_at hl 0 rfl) ?_
  refine va_slen (A := fun _ => False) hx hb hX hbl (fun h => h) va_S.rf dL_draw_2 ?_
  refine lv_icmp_ge (x := nI k) (y := nI L) (tgt := 15) hx hb dL_draw_3 (by decide) (fun hc => ?_) (fun hc => ?_)
  · refine lv_ldc (v := nI 104729) hx hb hown k_8 dL_draw_15 ?_
    refine lv_iload_n hx hb dL_draw_17 rfl (lv_at hl 1 rfl) ?_
    refine lv_iconst (v := nI 2) hx hb dL_draw_18 (by decide) ?_
    refine zx_iadd (v := nI (k + 2)) hx hb dL_draw_19 (nI_add _ _) ?_
    refine zx_imul (v := nI (104729 * (k + 2))) hx hb dL_draw_20 (pk_mul _ _) ?_
    refine lv_ldc (v := nI 65521) hx hb hown k_9 dL_draw_21 ?_
    refine lv_irem hx hb dL_draw_23 (by decide) ?_
    refine W.iret hx hb hr (fun t ht _ => ⟨_, rfl, ⟨104729 * (k + 2) % 65521, by omega, pk_rem (by omega) (by omega) (by omega)⟩, ht⟩) (fun _ h => nomatch h) dL_draw_24 hlocks
  · have hk2 : k < L := by
      rcases Nat.lt_or_ge k L with q | q
      · exact q
      · exact absurd ((nI_leI (by omega) (by omega)).mpr q) hc
    refine lv_aload_n hx hb dL_draw_6 rfl (lv_at hl 0 rfl) ?_
    refine lv_iload_n hx hb dL_draw_7 rfl (lv_at hl 1 rfl) ?_
    refine zx_sld (A := fun _ => False) hx hb hX hbl (fun h => h) va_S.rf (i := k) hk2 (by omega) (v := xs k) rfl dL_draw_8 ?_
    refine lv_ldc hx hb hown k_7 dL_draw_9 ?_
    refine lv_iand hx hb dL_draw_11 ?_
    refine lv_goto (tgt := 24) hx hb dL_draw_12 (by decide) ?_
    obtain ⟨j, hj, e9⟩ := pk_andE (xs k) (m := (2147483647 : Int32)) 31 (by decide)
    refine W.iret hx hb hr (fun t ht _ => ⟨_, rfl, ⟨j, hj, e9⟩, ht⟩) (fun _ h => nomatch h) dL_draw_24 hlocks
set_option maxHeartbeats 4000000 in
set_option maxRecDepth 100000 in
/-- tell: in few names -/
theorem p_tell (l : Launch) (D : va_G) (x pr mk os : Nat) (ch gd : Int64) (bd t : Nat) (cI : ClassId) (bf : Nat → Int32) (mm : Int32) (em1 n : Nat) (om : Int32) (em2 k : Nat) (L : List Nat) (f : Nat → va_E) (cJ : ClassId) (cO : ClassId) (ca aa : Nat → Nat) (fp fs fr : Nat → Int32) (ff fa : Nat → Nat) (fz : Nat → Int32) (fi fu : Nat → Int64) (oa fo : Nat → Nat) (fq : Nat → Int32) (fx fy : Nat → Nat) (fb : Nat → Int32) (em : Nat) (p0 p1 p2 : Int32) (hb0 : k_isBid p0 = nI 1) (hb1 : k_isBid p1 = nI 1) (hb2 : k_isBid p2 = nI 1) (ht : t < 2000) (hn : n ≤ 10) (hk : k ≤ 512) (hbi : BI bf fb t) (h0 : okp p0) (h1 : okp p1) (h2 : okp p2) (hff : ∀ j : Nat, j < n → ff j < 3) (hfx : ∀ j : Nat, j < k → fx j < 3) (hfy : ∀ j : Nat, j < k → fy j < 3) (hfz : ∀ j : Nat, j < n → fz j = nI 0 ∨ fz j = nI 1) (hfa : ∀ j : Nat, j < n → fa j + k ≤ 2000) (hU1 : UL cO em L f em1 n ca) (hU2 : UL cO em L f em2 k oa) (hne : em1 ∈ L → em2 ∈ L → em1 ≠ em2) (hCI0 : CI L f cJ n ca aa fp fs fr ff fa fz fi fu) (hOI : OI L f k n oa ca fo fq fx fy) (sz : Nat) : Met l yX5_tell wsX5_tell ({ frames := 7, cells := 0, slots := 0, locals := 162 }) (zq D (([(x, .inr (5, [.ref pr, .ref mk, .ref os, .long ch, .long gd])), (pr, .inr (3, [.ref bd, .int (nI t)])), (bd, .inl (cI, 6003, .inl bf)), (mk, .inr (0, [.int mm, .ref em1, .int (nI n)])), (os, .inr (0, [.int om, .ref em2, .int (nI k)]))] : va_W) ++ va_pl L f) [(cI, .int), (cJ, .long), (cO, .object "java/lang/Object")] sz [.ref x, .int p0, .int p1, .int p2] (fun U H => True)) (va_Qi (fun (r : Int32) (_ : Unit) => r = nI ((p_one n fp fs fr ff fo fq fx fy p0 p1 p2 t k fb fi fu fa fz ch 0).2.2.2.2.2.2.2.2)) (fun _ t9 => ∃ (g : Nat → va_E) (bg : Nat → Int32) (og : Int32) (fb2 : Nat → Int32) (fi2 : Nat → Int64) (fu2 : Nat → Int64) (fa2 : Nat → Nat) (fz2 : Nat → Int32) (ch2 : Int64) (ct2 : Nat), (t + 1, 0, fb2, fi2, fu2, fa2, fz2, ch2, ct2) = (p_one n fp fs fr ff fo fq fx fy p0 p1 p2 t k fb fi fu fa fz ch 0) ∧ BI bg fb2 (t + 1) ∧ CI L g cJ n ca aa fp fs fr ff fa2 fz2 fi2 fu2 ∧ UL cO em L g em1 n ca ∧ UL cO em L g em2 0 oa ∧ va_P D vwCl (([(x, .inr (5, [.ref pr, .ref mk, .ref os, .long ch2, .long gd])), (pr, .inr (3, [.ref bd, .int (nI (t + 1))])), (bd, .inl (cI, 6003, .inl bg)), (mk, .inr (0, [.int mm, .ref em1, .int (nI n)])), (os, .inr (0, [.int og, .ref em2, .int (nI 0)]))] : va_W) ++ va_pl L g) t9.heap ∧ va_K D vwCl [(cI, .int), (cJ, .long), (cO, .object "java/lang/Object")] t9 ∧ va_D (va_A (([(x, .inr (5, [.ref pr, .ref mk, .ref os, .long ch, .long gd])), (pr, .inr (3, [.ref bd, .int (nI t)])), (bd, .inl (cI, 6003, .inl bf)), (mk, .inr (0, [.int mm, .ref em1, .int (nI n)])), (os, .inr (0, [.int om, .ref em2, .int (nI k)]))] : va_W) ++ va_pl L f) sz) (([(x, .inr (5, [.ref pr, .ref mk, .ref os, .long ch2, .long gd])), (pr, .inr (3, [.ref bd, .int (nI (t + 1))])), (bd, .inl (cI, 6003, .inl bg)), (mk, .inr (0, [.int mm, .ref em1, .int (nI n)])), (os, .inr (0, [.int og, .ref em2, .int (nI 0)]))] : va_W) ++ va_pl L g)) (va_A (([(x, .inr (5, [.ref pr, .ref mk, .ref os, .long ch, .long gd])), (pr, .inr (3, [.ref bd, .int (nI t)])), (bd, .inl (cI, 6003, .inl bf)), (mk, .inr (0, [.int mm, .ref em1, .int (nI n)])), (os, .inr (0, [.int om, .ref em2, .int (nI k)]))] : va_W) ++ va_pl L f) sz)) 0 0 (va_A (([(x, .inr (5, [.ref pr, .ref mk, .ref os, .long ch, .long gd])), (pr, .inr (3, [.ref bd, .int (nI t)])), (bd, .inl (cI, 6003, .inl bf)), (mk, .inr (0, [.int mm, .ref em1, .int (nI n)])), (os, .inr (0, [.int om, .ref em2, .int (nI k)]))] : va_W) ++ va_pl L f) sz) := by
  refine MetFree.mono (m_X5_tell_ok l D x pr mk os ch gd bd t cI bf mm em1 n om em2 k L f cJ cO ca aa fp fs fr ff fa fz fi fu oa fo fq fx fy fb em p0 p1 p2 hb0 hb1 hb2 ht hn hk hbi h0 h1 h2 hff hfx hfy hfz hfa hU1 hU2 hne hCI0 hOI sz) (fun _ _ h => h) (fun _ _ _ _ _ h => h) (fun a s o s' _ h => ?_)
  obtain ⟨⟨⟨r, u, h1, h2, g, h3, h4, h5, h6, h7, h8⟩, hF⟩, hL⟩ := h
  exact ⟨⟨⟨r, u, h1, h2.trans (by unfold p_one; dsimp only; rw [Nat.zero_add]), g, _, _, _, _, _, _, _, _, _, rfl, BI_day hbi ht, h3, h4, h5, h6, h7, h8⟩, hF⟩, hL⟩

set_option maxHeartbeats 4000000 in
set_option maxRecDepth 100000 in
/-- pass: in few names -/
theorem p_pass (l : Launch) (D : va_G) (x pr mk os : Nat) (ch gd : Int64) (bd t : Nat) (cI : ClassId) (bf : Nat → Int32) (mm : Int32) (em1 n : Nat) (om : Int32) (em2 k : Nat) (L : List Nat) (f : Nat → va_E) (cJ : ClassId) (cO : ClassId) (ca aa : Nat → Nat) (fp fs fr : Nat → Int32) (ff fa : Nat → Nat) (fz : Nat → Int32) (fi fu : Nat → Int64) (oa fo : Nat → Nat) (fq : Nat → Int32) (fx fy : Nat → Nat) (fb : Nat → Int32) (em : Nat) (dd : Nat) (hd1 : 1 ≤ dd) (hd2 : dd ≤ 400) (ht : t + dd ≤ 2000) (hn : n ≤ 10) (hk : k ≤ 512) (hbi : BI bf fb t) (hop : ∀ q : Nat, q < 3 → okp (fb (2001 * q + t))) (hff : ∀ j : Nat, j < n → ff j < 3) (hfx : ∀ j : Nat, j < k → fx j < 3) (hfy : ∀ j : Nat, j < k → fy j < 3) (hfz : ∀ j : Nat, j < n → fz j = nI 0 ∨ fz j = nI 1) (hfa : ∀ j : Nat, j < n → fa j + k ≤ 2000) (hU1 : UL cO em L f em1 n ca) (hU2 : UL cO em L f em2 k oa) (hne : em1 ∈ L → em2 ∈ L → em1 ≠ em2) (hCI0 : CI L f cJ n ca aa fp fs fr ff fa fz fi fu) (hOI : OI L f k n oa ca fo fq fx fy) (sz : Nat) : Met l yX5_pass wsX5_pass ({ frames := 7, cells := 0, slots := 0, locals := 162 }) (zq D (([(x, .inr (5, [.ref pr, .ref mk, .ref os, .long ch, .long gd])), (pr, .inr (3, [.ref bd, .int (nI t)])), (bd, .inl (cI, 6003, .inl bf)), (mk, .inr (0, [.int mm, .ref em1, .int (nI n)])), (os, .inr (0, [.int om, .ref em2, .int (nI k)]))] : va_W) ++ va_pl L f) [(cI, .int), (cJ, .long), (cO, .object "java/lang/Object")] sz [.ref x, .int (nI dd)] (fun U H => True)) (va_Qi (fun (r : Int32) (_ : Unit) => r = nI ((p_it n fp fs fr ff fo fq fx fy (t, k, fb, fi, fu, fa, fz, ch, 0) dd).2.2.2.2.2.2.2.2)) (fun _ t9 => ∃ (g : Nat → va_E) (bg : Nat → Int32) (og : Int32) (t2 : Nat) (k2 : Nat) (fb2 : Nat → Int32) (fi2 : Nat → Int64) (fu2 : Nat → Int64) (fa2 : Nat → Nat) (fz2 : Nat → Int32) (ch2 : Int64) (ct2 : Nat), (t2, k2, fb2, fi2, fu2, fa2, fz2, ch2, ct2) = (p_it n fp fs fr ff fo fq fx fy (t, k, fb, fi, fu, fa, fz, ch, 0) dd) ∧ BI bg fb2 t2 ∧ CI L g cJ n ca aa fp fs fr ff fa2 fz2 fi2 fu2 ∧ UL cO em L g em1 n ca ∧ UL cO em L g em2 k2 oa ∧ va_P D vwCl (([(x, .inr (5, [.ref pr, .ref mk, .ref os, .long ch2, .long gd])), (pr, .inr (3, [.ref bd, .int (nI t2)])), (bd, .inl (cI, 6003, .inl bg)), (mk, .inr (0, [.int mm, .ref em1, .int (nI n)])), (os, .inr (0, [.int og, .ref em2, .int (nI k2)]))] : va_W) ++ va_pl L g) t9.heap ∧ va_K D vwCl [(cI, .int), (cJ, .long), (cO, .object "java/lang/Object")] t9 ∧ va_D (va_A (([(x, .inr (5, [.ref pr, .ref mk, .ref os, .long ch, .long gd])), (pr, .inr (3, [.ref bd, .int (nI t)])), (bd, .inl (cI, 6003, .inl bf)), (mk, .inr (0, [.int mm, .ref em1, .int (nI n)])), (os, .inr (0, [.int om, .ref em2, .int (nI k)]))] : va_W) ++ va_pl L f) sz) (([(x, .inr (5, [.ref pr, .ref mk, .ref os, .long ch2, .long gd])), (pr, .inr (3, [.ref bd, .int (nI t2)])), (bd, .inl (cI, 6003, .inl bg)), (mk, .inr (0, [.int mm, .ref em1, .int (nI n)])), (os, .inr (0, [.int og, .ref em2, .int (nI k2)]))] : va_W) ++ va_pl L g)) (va_A (([(x, .inr (5, [.ref pr, .ref mk, .ref os, .long ch, .long gd])), (pr, .inr (3, [.ref bd, .int (nI t)])), (bd, .inl (cI, 6003, .inl bf)), (mk, .inr (0, [.int mm, .ref em1, .int (nI n)])), (os, .inr (0, [.int om, .ref em2, .int (nI k)]))] : va_W) ++ va_pl L f) sz)) 0 0 (va_A (([(x, .inr (5, [.ref pr, .ref mk, .ref os, .long ch, .long gd])), (pr, .inr (3, [.ref bd, .int (nI t)])), (bd, .inl (cI, 6003, .inl bf)), (mk, .inr (0, [.int mm, .ref em1, .int (nI n)])), (os, .inr (0, [.int om, .ref em2, .int (nI k)]))] : va_W) ++ va_pl L f) sz) := by
  refine MetFree.mono (m_X5_pass_ok l D x pr mk os ch gd bd t cI bf mm em1 n om em2 k L f cJ cO ca aa fp fs fr ff fa fz fi fu oa fo fq fx fy fb em dd hd1 hd2 ht hn hk hbi hop hff hfx hfy hfz hfa hU1 hU2 hne hCI0 hOI sz) (fun _ _ h => h) (fun _ _ _ _ _ h => h) (fun a s o s' _ h => ?_)
  obtain ⟨⟨⟨r, u, h1, h2, g, bg, og, h3, h4, h5, h6, _, h7, h8⟩, hF⟩, hL⟩ := h
  exact ⟨⟨⟨r, u, h1, h2, g, bg, og, _, _, _, _, _, _, _, _, _, rfl, h3, h4, h5, h6, h7, h8⟩, hF⟩, hL⟩
