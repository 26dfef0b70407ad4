/-! THE LAW: its loop -/
set_option maxHeartbeats 4000000 in
set_option maxRecDepth 100000 in
/-- the law's loop, one turn -/
theorem law_iter {p : Program} {l : Launch} {e : Env} {s : State} {m : MethodId} {below : List Frame} {meth : Method} {c : Code} {Q : State → Prop} {A : Nat → Prop} {H : Heap} {locs : List Loc} {ls : Array Slot} {cs sl : Nat} (D : va_G) (x pr mk os : Nat) (ch gd : Int64) (bd t : Nat) (cI : ClassId) (bf : Nat → Int32) (mm : Int32) (em1 n : Nat) (om : Int32) (em2 k : Nat) (L : List Nat) (f : Nat → va_E) (cJ : ClassId) (cO : ClassId) (ca aa : Nat → Nat) (fp fs fr : Nat → Int32) (ff fa : Nat → Nat) (fz : Nat → Int32) (fi fu : Nat → Int64) (em : Nat) (oa fo : Nat → Nat) (fq : Nat → Int32) (fx fy : Nat → Nat) (fb : Nat → Int32) (cc : Nat) (cf : Nat → Nat) (B : Nat) (b Ln i Nn : Nat) (xs : Nat → Int32) (hx : p.tables.exec = Jvm.exec) (hb : c.code = code) (hml : c.maxLocals = 6) (hown : s.vm.findClass RL = some m.cls) (hts : ∀ w ∈ wsL_law, w.before #[Value.ref b] s = true) (hG : GS s) (hHS : HS A em s s.heap) (hX : va_X b Ln xs s s.heap) (hbl : b < s.heap.size) (hbA : ¬ A b) (hK : va_K D vwCl [(cI, .int), (cJ, .long), (cO, .object "java/lang/Object")] s) (hA : ∀ q : Nat, s.heap.size ≤ q → A q) (hcs : cs + 4 ≤ 600104) (hsl : sl + 814 ≤ 7301314) (hL : Ln ≤ 260) (hi : i ≤ 90) (hB1 : B + 1 ≤ 90) (hNN : NN B t n k ch fp fs fr ff fa fz fi fu fo fq fx fy fb cf) (hbi : BI bf fb t) (hCI : CI L f cJ n ca aa fp fs fr ff fa fz fi fu) (hOI : OI L f k n oa ca fo fq fx fy) (hU1 : UL cO em L f em1 n ca) (hU2 : UL cO em L f em2 k oa) (hneL : em1 ∈ L → em2 ∈ L → em1 ≠ em2)
    (hP : va_P D vwCl (([(x, .inr (5, [.ref pr, .ref mk, .ref os, .long ch, .long gd])), (pr, .inr (3, [.ref bd, .int (nI t)])), (bd, .inl (cI, 6003, .inl bf)), (mk, .inr (0, [.int mm, .ref em1, .int (nI n)])), (os, .inr (0, [.int om, .ref em2, .int (nI k)])), (cc, .inl (cI, 30, .inl (nIf cf)))] : va_W) ++ va_pl L f) H) (hD : va_D A (([(x, .inr (5, [.ref pr, .ref mk, .ref os, .long ch, .long gd])), (pr, .inr (3, [.ref bd, .int (nI t)])), (bd, .inl (cI, 6003, .inl bf)), (mk, .inr (0, [.int mm, .ref em1, .int (nI n)])), (os, .inr (0, [.int om, .ref em2, .int (nI k)])), (cc, .inl (cI, 30, .inl (nIf cf)))] : va_W) ++ va_pl L f)) (hS : va_S A s.heap H locs) (hl : lv_has ls 6 [(0, .ref b), (1, .ref x), (2, .ref cc), (3, .int (nI 1)), (4, .int (nI Nn)), (5, .int (nI i))])
    (kk : ∀ (chZ : Int64) (gdZ : Int64) (tZ : Nat) (bfZ : Nat → Int32) (mmZ : Int32) (em1Z : Nat) (nZ : Nat) (omZ : Int32) (em2Z : Nat) (kZ : Nat) (fbZ : Nat → Int32) (fpZ : Nat → Int32) (fsZ : Nat → Int32) (frZ : Nat → Int32) (ffZ : Nat → Nat) (faZ : Nat → Nat) (fzZ : Nat → Int32) (fiZ : Nat → Int64) (fuZ : Nat → Int64) (foZ : Nat → Nat) (fqZ : Nat → Int32) (fxZ : Nat → Nat) (fyZ : Nat → Nat) (cfZ : Nat → Nat) (LZ : List Nat) (fZ : Nat → va_E) (caZ : Nat → Nat) (aaZ : Nat → Nat) (oaZ : Nat → Nat), (NN (B + 1) tZ nZ kZ chZ fpZ fsZ frZ ffZ faZ fzZ fiZ fuZ foZ fqZ fxZ fyZ fbZ cfZ) → (BI bfZ fbZ tZ) → (CI LZ fZ cJ nZ caZ aaZ fpZ fsZ frZ ffZ faZ fzZ fiZ fuZ) → (OI LZ fZ kZ nZ oaZ caZ foZ fqZ fxZ fyZ) → (UL cO em LZ fZ em1Z nZ caZ) → (UL cO em LZ fZ em2Z kZ oaZ) → (em1Z ∈ LZ → em2Z ∈ LZ → em1Z ≠ em2Z) → ∀ (H : Heap) (locs : List Loc) (ls : Array Slot), va_P D vwCl (([(x, .inr (5, [.ref pr, .ref mk, .ref os, .long chZ, .long gdZ])), (pr, .inr (3, [.ref bd, .int (nI tZ)])), (bd, .inl (cI, 6003, .inl bfZ)), (mk, .inr (0, [.int mmZ, .ref em1Z, .int (nI nZ)])), (os, .inr (0, [.int omZ, .ref em2Z, .int (nI kZ)])), (cc, .inl (cI, 30, .inl (nIf cfZ)))] : va_W) ++ va_pl LZ fZ) H → va_D A (([(x, .inr (5, [.ref pr, .ref mk, .ref os, .long chZ, .long gdZ])), (pr, .inr (3, [.ref bd, .int (nI tZ)])), (bd, .inl (cI, 6003, .inl bfZ)), (mk, .inr (0, [.int mmZ, .ref em1Z, .int (nI nZ)])), (os, .inr (0, [.int omZ, .ref em2Z, .int (nI kZ)])), (cc, .inl (cI, 30, .inl (nIf cfZ)))] : va_W) ++ va_pl LZ fZ) → va_S A s.heap H locs → lv_has ls 6 [(0, .ref b), (1, .ref x), (2, .ref cc), (3, .int (nI 1)), (4, .int (nI Nn)), (5, .int (nI i))] → W p l e room_1 s m #[Value.ref b] below meth c H locs (cs + 4) (sl + 814) Q (F0 m 165 ls [])) :
    W p l e room_1 s m #[Value.ref b] below meth c H locs cs sl Q (F0 m 115 ls []) := by
  refine lv_aload_n hx hb dL_law_115 rfl (lv_at hl 1 rfl) ?_
  refine lv_aload_n hx hb dL_law_116 rfl (lv_at hl 2 rfl) ?_
  refine lv_aload_n hx hb dL_law_117 rfl (lv_at hl 0 rfl) ?_
  refine lv_iconst (v := nI 3) hx hb dL_law_118 (by decide) ?_
  refine lv_iload hx hb dL_law_119 (lv_at hl 5 rfl) ?_
  refine zx_imul (v := nI (3 * i)) hx hb dL_law_121 (pk_mul _ _) ?_
  refine vp_callSi (W.runS (As := [.ref b, .int (nI (3 * i))]) (rest := [.ref cc, .ref x]) ⟨hx, hb, hml, hown, hts⟩ (m_L_draw l b Ln (3 * i) xs hL (by omega)) (va_cwS 2 hts gL_law_L_draw rfl rfl rfl (by decide +kernel) ⟨Nat.le_of_ble_eq_true rfl, Nat.le_of_ble_eq_true rfl⟩) (zd_S hX hbl hbA hS) rfl rfl hl.1 rfl (lv_room (Nat.le_of_ble_eq_true rfl)) dL_law_122 ⟨by show _ ≤ 600104; omega, by show _ ≤ 7301314; omega⟩) (fun r_122 e_122 => ?_)
  obtain ⟨u122, hu122, e9⟩ := e_122
  subst e9
  refine lv_aload_n hx hb dL_law_125 rfl (lv_at hl 0 rfl) ?_
  refine lv_iconst (v := nI 3) hx hb dL_law_126 (by decide) ?_
  refine lv_iload hx hb dL_law_127 (lv_at hl 5 rfl) ?_
  refine zx_imul (v := nI (3 * i)) hx hb dL_law_129 (pk_mul _ _) ?_
  refine lv_iconst (v := nI 1) hx hb dL_law_130 (by decide) ?_
  refine zx_iadd (v := nI ((3 * i) + 1)) hx hb dL_law_131 (nI_add _ _) ?_
  refine vp_callSi (W.runS (As := [.ref b, .int (nI ((3 * i) + 1))]) (rest := [.int (nI u122), .ref cc, .ref x]) ⟨hx, hb, hml, hown, hts⟩ (m_L_draw l b Ln ((3 * i) + 1) xs hL (by omega)) (va_cwS 2 hts gL_law_L_draw rfl rfl rfl (by decide +kernel) ⟨Nat.le_of_ble_eq_true rfl, Nat.le_of_ble_eq_true rfl⟩) (zd_S hX hbl hbA hS) rfl rfl hl.1 rfl (lv_room (Nat.le_of_ble_eq_true rfl)) dL_law_132 ⟨by show _ ≤ 600104; omega, by show _ ≤ 7301314; omega⟩) (fun r_132 e_132 => ?_)
  obtain ⟨u132, hu132, e9⟩ := e_132
  subst e9
  refine lv_aload_n hx hb dL_law_135 rfl (lv_at hl 0 rfl) ?_
  refine lv_iconst (v := nI 3) hx hb dL_law_136 (by decide) ?_
  refine lv_iload hx hb dL_law_137 (lv_at hl 5 rfl) ?_
  refine zx_imul (v := nI (3 * i)) hx hb dL_law_139 (pk_mul _ _) ?_
  refine lv_iconst (v := nI 2) hx hb dL_law_140 (by decide) ?_
  refine zx_iadd (v := nI ((3 * i) + 2)) hx hb dL_law_141 (nI_add _ _) ?_
  refine vp_callSi (W.runS (As := [.ref b, .int (nI ((3 * i) + 2))]) (rest := [.int (nI u132), .int (nI u122), .ref cc, .ref x]) ⟨hx, hb, hml, hown, hts⟩ (m_L_draw l b Ln ((3 * i) + 2) xs hL (by omega)) (va_cwS 2 hts gL_law_L_draw rfl rfl rfl (by decide +kernel) ⟨Nat.le_of_ble_eq_true rfl, Nat.le_of_ble_eq_true rfl⟩) (zd_S hX hbl hbA hS) rfl rfl hl.1 rfl (lv_room (Nat.le_of_ble_eq_true rfl)) dL_law_142 ⟨by show _ ≤ 600104; omega, by show _ ≤ 7301314; omega⟩) (fun r_142 e_142 => ?_)
  obtain ⟨u142, hu142, e9⟩ := e_142
  subst e9
  have hF_31 := lp_F hD hS hA
  refine va_calli (va_runS (As := [.ref x, .ref cc, .int (nI u122), .int (nI u132), .int (nI u142)]) (rest := []) ⟨hx, hb, hml, hown, hts⟩ (m_L_step l D x pr mk os ch gd bd t cI bf mm em1 n om em2 k L f cJ cO ca aa fp fs fr ff fa fz fi fu em oa fo fq fx fy fb cc cf B u122 u132 u142 hNN hbi hCI hOI hU1 hU2 hneL hu122 hu132 hu142 hB1 _) (va_cwS 5 hts gL_law_L_step rfl rfl rfl (by decide +kernel) ⟨Nat.le_of_ble_eq_true rfl, Nat.le_of_ble_eq_true rfl⟩) (zq_S XM.hs hP (hK.sub (tys' := [(cI, .int), (cJ, .long), (cO, .object "java/lang/Object")]) [0, 1, 2] rfl) hD hG (hHS.go hS (lp_F hD hS hA))) rfl rfl hl.1 rfl (lv_room (Nat.le_of_ble_eq_true rfl)) dL_law_145 ⟨by show _ ≤ 600104; omega, by show _ ≤ 7301314; omega⟩) hS (fun q _ h => hF_31 q h) hF_31 (fun ra_30 u9 t1 H locs ht1 hvm hw hB hz9 hk1 hS => ?_)
  obtain ⟨chZ__1, gdZ__2, tZ__3, bfZ__4, mmZ__5, em1Z__6, nZ__7, omZ__8, em2Z__9, kZ__10, fbZ__11, fpZ__12, fsZ__13, frZ__14, ffZ__15, faZ__16, fzZ__17, fiZ__18, fuZ__19, foZ__20, fqZ__21, fxZ__22, fyZ__23, cfZ__24, LZ__25, fZ__26, caZ__27, aaZ__28, oaZ__29, hp_32, hp_33, hp_34, hp_35, hp_36, hp_37, hp_38, hP1, hK1, hD1⟩ := hB
  rw [ht1] at hP1
  have hP := hP1
  have hD : va_D A (([(x, .inr (5, [.ref pr, .ref mk, .ref os, .long chZ__1, .long gdZ__2])), (pr, .inr (3, [.ref bd, .int (nI tZ__3)])), (bd, .inl (cI, 6003, .inl bfZ__4)), (mk, .inr (0, [.int mmZ__5, .ref em1Z__6, .int (nI nZ__7)])), (os, .inr (0, [.int omZ__8, .ref em2Z__9, .int (nI kZ__10)])), (cc, .inl (cI, 30, .inl (nIf cfZ__24)))] : va_W) ++ va_pl LZ__25 fZ__26) := ⟨hD1.1, fun k9 q9 h9 => hF_31 _ (hD1.2 k9 q9 h9)⟩
  have hP : va_P D vwCl (([(x, .inr (5, [.ref pr, .ref mk, .ref os, .long chZ__1, .long gdZ__2])), (pr, .inr (3, [.ref bd, .int (nI tZ__3)])), (bd, .inl (cI, 6003, .inl bfZ__4)), (mk, .inr (0, [.int mmZ__5, .ref em1Z__6, .int (nI nZ__7)])), (os, .inr (0, [.int omZ__8, .ref em2Z__9, .int (nI kZ__10)])), (cc, .inl (cI, 30, .inl (nIf cfZ__24)))] : va_W) ++ va_pl LZ__25 fZ__26) H := hP
  have hD : va_D A (([(x, .inr (5, [.ref pr, .ref mk, .ref os, .long chZ__1, .long gdZ__2])), (pr, .inr (3, [.ref bd, .int (nI tZ__3)])), (bd, .inl (cI, 6003, .inl bfZ__4)), (mk, .inr (0, [.int mmZ__5, .ref em1Z__6, .int (nI nZ__7)])), (os, .inr (0, [.int omZ__8, .ref em2Z__9, .int (nI kZ__10)])), (cc, .inl (cI, 30, .inl (nIf cfZ__24)))] : va_W) ++ va_pl LZ__25 fZ__26) := hD
  refine W.widen (k := cs + 3) (n := sl + 811) (by omega) (by omega) ?_
  subst hw
  refine lv_if_eq (tgt := 163) hx hb dL_law_148 (by decide) (fun h9 => absurd h9 (by decide)) (fun _ => ?_)
  refine lv_aload_n hx hb dL_law_151 rfl (lv_at hl 1 rfl) ?_
  refine lv_aload_n hx hb dL_law_152 rfl (lv_at hl 2 rfl) ?_
  have hF_40 := lp_F hD hS hA
  refine va_calli (va_runS (As := [.ref x, .ref cc]) (rest := []) ⟨hx, hb, hml, hown, hts⟩ (m_L_areContracts l D x pr mk os chZ__1 gdZ__2 bd tZ__3 cI bfZ__4 mmZ__5 em1Z__6 nZ__7 omZ__8 em2Z__9 kZ__10 LZ__25 fZ__26 cJ cO caZ__27 aaZ__28 fpZ__12 fsZ__13 frZ__14 ffZ__15 faZ__16 fzZ__17 fiZ__18 fuZ__19 em oaZ__29 foZ__20 fqZ__21 fxZ__22 fyZ__23 fbZ__11 cc cfZ__24 (B + 1) hp_32 hp_33 hp_34 hp_35 hp_36 hp_37 hp_38 _) (va_cwS 2 hts gL_law_L_areContracts rfl rfl rfl (by decide +kernel) ⟨Nat.le_of_ble_eq_true rfl, Nat.le_of_ble_eq_true rfl⟩) (zq_S XM.t hP (hK.sub (tys' := [(cI, .int), (cJ, .long), (cO, .object "java/lang/Object")]) [0, 1, 2] rfl) hD hG trivial) rfl rfl hl.1 rfl (lv_room (Nat.le_of_ble_eq_true rfl)) dL_law_153 ⟨by show _ ≤ 600104; omega, by show _ ≤ 7301314; omega⟩) hS (fun q _ h => hF_40 q h) hF_40 (fun ra_39 u9 t1 H locs ht1 hvm hw hB hz9 hk1 hS => ?_)
  obtain ⟨hP1, hK1, hD1⟩ := hB
  rw [ht1] at hP1
  have hP := hP1
  have hD : va_D A (([(x, .inr (5, [.ref pr, .ref mk, .ref os, .long chZ__1, .long gdZ__2])), (pr, .inr (3, [.ref bd, .int (nI tZ__3)])), (bd, .inl (cI, 6003, .inl bfZ__4)), (mk, .inr (0, [.int mmZ__5, .ref em1Z__6, .int (nI nZ__7)])), (os, .inr (0, [.int omZ__8, .ref em2Z__9, .int (nI kZ__10)])), (cc, .inl (cI, 30, .inl (nIf cfZ__24)))] : va_W) ++ va_pl LZ__25 fZ__26) := ⟨hD1.1, fun k9 q9 h9 => hF_40 _ (hD1.2 k9 q9 h9)⟩
  have hP : va_P D vwCl (([(x, .inr (5, [.ref pr, .ref mk, .ref os, .long chZ__1, .long gdZ__2])), (pr, .inr (3, [.ref bd, .int (nI tZ__3)])), (bd, .inl (cI, 6003, .inl bfZ__4)), (mk, .inr (0, [.int mmZ__5, .ref em1Z__6, .int (nI nZ__7)])), (os, .inr (0, [.int omZ__8, .ref em2Z__9, .int (nI kZ__10)])), (cc, .inl (cI, 30, .inl (nIf cfZ__24)))] : va_W) ++ va_pl LZ__25 fZ__26) H := hP
  have hD : va_D A (([(x, .inr (5, [.ref pr, .ref mk, .ref os, .long chZ__1, .long gdZ__2])), (pr, .inr (3, [.ref bd, .int (nI tZ__3)])), (bd, .inl (cI, 6003, .inl bfZ__4)), (mk, .inr (0, [.int mmZ__5, .ref em1Z__6, .int (nI nZ__7)])), (os, .inr (0, [.int omZ__8, .ref em2Z__9, .int (nI kZ__10)])), (cc, .inl (cI, 30, .inl (nIf cfZ__24)))] : va_W) ++ va_pl LZ__25 fZ__26) := hD
  refine W.widen (k := cs + 4) (n := sl + 814) (by omega) (by omega) ?_
  subst hw
  refine lv_if_eq (tgt := 163) hx hb dL_law_156 (by decide) (fun h9 => absurd h9 (by decide)) (fun _ => ?_)
  refine lv_iconst (v := nI 1) hx hb dL_law_159 (by decide) ?_
  refine lv_goto (tgt := 164) hx hb dL_law_160 (by decide) ?_
  refine lv_istore_n (lv' := [(3, .int (nI 1)), (0, .ref b), (1, .ref x), (2, .ref cc), (4, .int (nI Nn)), (5, .int (nI i))]) hx hb dL_law_164 rfl hl (by decide) rfl (fun ls hl => ?_)
  refine W.widen (k := cs + 4) (n := sl + 814) (by omega) (by omega) ?_
  exact kk chZ__1 gdZ__2 tZ__3 bfZ__4 mmZ__5 em1Z__6 nZ__7 omZ__8 em2Z__9 kZ__10 fbZ__11 fpZ__12 fsZ__13 frZ__14 ffZ__15 faZ__16 fzZ__17 fiZ__18 fuZ__19 foZ__20 fqZ__21 fxZ__22 fyZ__23 cfZ__24 LZ__25 fZ__26 caZ__27 aaZ__28 oaZ__29 hp_32 hp_33 hp_34 hp_35 hp_36 hp_37 hp_38 H locs ls hP hD hS (lv_sub hl [1, 2, 3, 0, 4, 5] rfl)

def LI (D : va_G) (A : Nat → Prop) (H : Heap) (cI cJ cO : ClassId) (em x pr bd mk os cc B : Nat) : Prop := ∃ (ch gd : Int64) (t : Nat) (bf : Nat → Int32) (mm : Int32) (em1 n : Nat) (om : Int32) (em2 k : Nat) (fb fp fs fr : Nat → Int32) (ff fa : Nat → Nat) (fz : Nat → Int32) (fi fu : Nat → Int64) (fo : Nat → Nat) (fq : Nat → Int32) (fx fy : Nat → Nat) (cf : Nat → Nat) (L : List Nat) (f : Nat → va_E) (ca aa oa : Nat → Nat), va_P D vwCl (([(x, .inr (5, [.ref pr, .ref mk, .ref os, .long ch, .long gd])), (pr, .inr (3, [.ref bd, .int (nI t)])), (bd, .inl (cI, 6003, .inl bf)), (mk, .inr (0, [.int mm, .ref em1, .int (nI n)])), (os, .inr (0, [.int om, .ref em2, .int (nI k)])), (cc, .inl (cI, 30, .inl (nIf cf)))] : va_W) ++ va_pl L f) H ∧ va_D A (([(x, .inr (5, [.ref pr, .ref mk, .ref os, .long ch, .long gd])), (pr, .inr (3, [.ref bd, .int (nI t)])), (bd, .inl (cI, 6003, .inl bf)), (mk, .inr (0, [.int mm, .ref em1, .int (nI n)])), (os, .inr (0, [.int om, .ref em2, .int (nI k)])), (cc, .inl (cI, 30, .inl (nIf cf)))] : va_W) ++ va_pl L f) ∧ (NN B t n k ch fp fs fr ff fa fz fi fu fo fq fx fy fb cf) ∧ (BI bf fb t) ∧ (CI L f cJ n ca aa fp fs fr ff fa fz fi fu) ∧ (OI L f k n oa ca fo fq fx fy) ∧ (UL cO em L f em1 n ca) ∧ (UL cO em L f em2 k oa) ∧ (em1 ∈ L → em2 ∈ L → em1 ≠ em2)

set_option maxHeartbeats 4000000 in
set_option maxRecDepth 100000 in
/-- THE LAW'S LOOP -/
theorem law_loop {p : Program} {l : Launch} {e : Env} {s : State} {m : MethodId} {below : List Frame} {meth : Method} {c : Code} {Q : State → Prop} {A : Nat → Prop} (D : va_G) (cI cJ cO : ClassId) (em x pr bd mk os cc b Ln : Nat) (xs : Nat → Int32) (hx : p.tables.exec = Jvm.exec) (hb : c.code = code) (hml : c.maxLocals = 6) (hown : s.vm.findClass RL = some m.cls) (hts : ∀ w ∈ wsL_law, w.before #[Value.ref b] s = true) (hG : GS s) (hHS : HS A em s s.heap) (hX : va_X b Ln xs s s.heap) (hbl : b < s.heap.size) (hbA : ¬ A b) (hK : va_K D vwCl [(cI, .int), (cJ, .long), (cO, .object "java/lang/Object")] s) (hA : ∀ q : Nat, s.heap.size ≤ q → A q) (hL : Ln ≤ 260)
    (hend : ∀ (H : Heap) (locs : List Loc) (ls : Array Slot) (cs sl : Nat), va_S A s.heap H locs → cs ≤ 600104 → sl ≤ 7301314 → lv_has ls 6 [(3, .int (nI 1))] → W p l e room_1 s m #[Value.ref b] below meth c H locs cs sl Q (F0 m 171 ls [])) :
    ∀ (d B cs sl : Nat) (H : Heap) (locs : List Loc) (ls : Array Slot), B + d = 87 → B ≤ Ln / 3 → cs = 6 + 4 * B → sl = 6046 + 814 * B → LI D A H cI cJ cO em x pr bd mk os cc B → va_S A s.heap H locs → lv_has ls 6 [(0, .ref b), (1, .ref x), (2, .ref cc), (3, .int (nI 1)), (4, .int (nI (Ln / 3))), (5, .int (nI B))] → W p l e room_1 s m #[Value.ref b] below meth c H locs cs sl Q (F0 m 104 ls []) := by
  intro d
  induction d with
  | zero =>
    intro B cs sl H locs ls hd hBL
    omega
  | succ d ih =>
    intro B cs sl H locs ls hd hBL hcs hsl h hS hl
    refine lv_iload hx hb dL_law_104 (lv_at hl 5 rfl) ?_
    refine lv_iload hx hb dL_law_106 (lv_at hl 4 rfl) ?_
    refine lv_icmp_ge (tgt := 171) hx hb dL_law_108 (by decide) (fun h9 => ?_) (fun h9 => ?_)
    · exact hend H locs ls cs sl hS (by omega) (by omega) (lv_sub hl [3] rfl)
    have hlt : B < Ln / 3 := by
      rcases Nat.lt_or_ge B (Ln / 3) with q | q
      · exact q
      · exact absurd ((nI_leI (by omega) (by omega)).mpr q) h9
    refine lv_iload_n hx hb dL_law_111 rfl (lv_at hl 3 rfl) ?_
    refine lv_if_eq (tgt := 171) hx hb dL_law_112 (by decide) (fun h9 => absurd h9 (by decide)) (fun _ => ?_)
    obtain ⟨ch, gd, t, bf, mm, em1, n, om, em2, k, fb, fp, fs, fr, ff, fa, fz, fi, fu, fo, fq, fx, fy, cf, L, f, ca, aa, oa, hP, hD, hNN, hbi, hCI, hOI, hU1, hU2, hneL⟩ := h
    refine law_iter D x pr mk os ch gd bd t cI bf mm em1 n om em2 k L f cJ cO ca aa fp fs fr ff fa fz fi fu em oa fo fq fx fy fb cc cf B b Ln B (Ln / 3) xs hx hb hml hown hts hG hHS hX hbl hbA hK hA (by omega) (by omega) hL (by omega) (by omega) hNN hbi hCI hOI hU1 hU2 hneL hP hD hS hl (fun chZ gdZ tZ bfZ mmZ em1Z nZ omZ em2Z kZ fbZ fpZ fsZ frZ ffZ faZ fzZ fiZ fuZ foZ fqZ fxZ fyZ cfZ LZ fZ caZ aaZ oaZ hNNZ hbiZ hCIZ hOIZ hU1Z hU2Z hneLZ H locs ls hP hD hS hl => ?_)
    refine lv_iinc (v := nI (B + 1)) (lv' := [(5, .int (nI (B + 1))), (0, .ref b), (1, .ref x), (2, .ref cc), (3, .int (nI 1)), (4, .int (nI (Ln / 3)))]) hx hb dL_law_165 hl (k := 5) rfl (nI_1 _) (by decide) rfl (fun ls hl => ?_)
    refine lv_goto (tgt := 104) hx hb dL_law_168 (by decide) ?_
    exact ih (B + 1) (cs + 4) (sl + 814) H locs ls (by omega) (by omega) (by omega) (by omega) ⟨chZ, gdZ, tZ, bfZ, mmZ, em1Z, nZ, omZ, em2Z, kZ, fbZ, fpZ, fsZ, frZ, ffZ, faZ, fzZ, fiZ, fuZ, foZ, fqZ, fxZ, fyZ, cfZ, LZ, fZ, caZ, aaZ, oaZ, hP, hD, hNNZ, hbiZ, hCIZ, hOIZ, hU1Z, hU2Z, hneLZ⟩ hS (lv_sub hl [1, 2, 3, 4, 5, 0] rfl)

theorem li_start {D : va_G} {A : Nat → Prop} {H : Heap} {cI cJ cO : ClassId} {em x pr bd mk os cc : Nat} (hP : va_P D vwCl [(x, .inr (5, [.ref pr, .ref mk, .ref os, .long 0, .long 0])), (pr, .inr (3, [.ref bd, .int (nI 0)])), (bd, .inl (cI, 6003, .inl (upd (upd (upd (fun _ => 0) 0 (nI 1000)) 1 (nI 1000)) 2 (nI 1000)))), (mk, .inr (0, [.int (nI 0), .ref em, .int (nI 0)])), (os, .inr (0, [.int (nI 0), .ref em, .int (nI 0)])), (cc, .inl (cI, 30, .inl (nIf (va_up (va_up (va_up (fun _ => 0) 3 1000) 4 1000) 5 1000))))] H) (hD : va_D A [(x, .inr (5, [.ref pr, .ref mk, .ref os, .long 0, .long 0])), (pr, .inr (3, [.ref bd, .int (nI 0)])), (bd, .inl (cI, 6003, .inl (upd (upd (upd (fun _ => 0) 0 (nI 1000)) 1 (nI 1000)) 2 (nI 1000)))), (mk, .inr (0, [.int (nI 0), .ref em, .int (nI 0)])), (os, .inr (0, [.int (nI 0), .ref em, .int (nI 0)])), (cc, .inl (cI, 30, .inl (nIf (va_up (va_up (va_up (fun _ => 0) 3 1000) 4 1000) 5 1000))))]) : LI D A H cI cJ cO em x pr bd mk os cc 0 := by
  have hb0 : BI (upd (upd (upd (fun _ => 0) 0 (nI 1000)) 1 (nI 1000)) 2 (nI 1000)) (upd (upd (upd (fun _ => 0) 0 (nI 1000)) 2001 (nI 1000)) 4002 (nI 1000)) 0 := by
    intro d q hd hq
    obtain rfl : d = 0 := by omega
    rcases (show q = 0 ∨ q = 1 ∨ q = 2 by omega) with rfl | rfl | rfl <;> decide
  have ho0 : ∀ d q : Nat, d ≤ 0 → q < 3 → okp ((upd (upd (upd (fun _ => 0) 0 (nI 1000)) 2001 (nI 1000)) 4002 (nI 1000)) (2001 * q + d)) := by
    intro d q hd hq
    obtain rfl : d = 0 := by omega
    refine ⟨1000, by decide, by decide, ?_⟩
    rcases (show q = 0 ∨ q = 1 ∨ q = 2 by omega) with rfl | rfl | rfl <;> decide
  have hcc : CC 0 0 0 (fun _ => 0) (fun _ => 0) (fun _ => 0) (fun _ => 0) (fun _ => 0) (upd (upd (upd (fun _ => 0) 0 (nI 1000)) 2001 (nI 1000)) 4002 (nI 1000)) (va_up (va_up (va_up (fun _ => 0) 3 1000) 4 1000) 5 1000) := by
    refine ⟨rfl, rfl, rfl, fun q hq => ?_, fun j hj => absurd hj (Nat.not_lt_zero j), fun j hj => ⟨?_, ?_⟩⟩
    · rcases (show q = 0 ∨ q = 1 ∨ q = 2 by omega) with rfl | rfl | rfl <;> exact ⟨by decide, by decide, by decide⟩
    · rw [up_ne (by omega), up_ne (by omega), up_ne (by omega)]
    · rw [up_ne (by omega), up_ne (by omega), up_ne (by omega)]; rfl
  have e9 : ∀ X : va_W, X ++ va_pl [] (fun _ => .inr (0, [])) = X := fun X => List.append_nil X
  exact ⟨0, 0, 0, (upd (upd (upd (fun _ => 0) 0 (nI 1000)) 1 (nI 1000)) 2 (nI 1000)), (nI 0), em, 0, (nI 0), em, 0, (upd (upd (upd (fun _ => 0) 0 (nI 1000)) 2001 (nI 1000)) 4002 (nI 1000)), (fun _ => 0), (fun _ => 0), (fun _ => 0), (fun _ => 0), (fun _ => 0), (fun _ => 0), (fun _ => 0), (fun _ => 0), (fun _ => 0), (fun _ => 0), (fun _ => 0), (fun _ => 0), (va_up (va_up (va_up (fun _ => 0) 3 1000) 4 1000) 5 1000), [], (fun _ => .inr (0, [])), (fun _ => 0), (fun _ => 0), (fun _ => 0), by rw [e9]; exact hP, by rw [e9]; exact hD, ⟨by decide, by decide, by decide, by decide, ho0, (fun j hj => absurd hj (Nat.not_lt_zero j)), (fun j hj => absurd hj (Nat.not_lt_zero j)), fun _ => Nat.le_refl 0, fun _ _ => ⟨rfl, rfl, fun _ _ => rfl⟩, (fun j hj => absurd hj (Nat.not_lt_zero j)), (fun j hj => absurd hj (Nat.not_lt_zero j)), (fun j hj => absurd hj (Nat.not_lt_zero j)), (fun j hj => absurd hj (Nat.not_lt_zero j)), ⟨0, by decide, rfl⟩, hcc⟩, hb0, (fun j hj => absurd hj (Nat.not_lt_zero j)), (fun j hj => absurd hj (Nat.not_lt_zero j)), .inl ⟨rfl, rfl, List.not_mem_nil⟩, .inl ⟨rfl, rfl, List.not_mem_nil⟩, fun h9 => absurd h9 List.not_mem_nil⟩
