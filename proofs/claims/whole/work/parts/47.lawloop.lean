/-! THE LAW: its loop -/
set_option maxHeartbeats 4000000 in
set_option maxRecDepth 100000 in
/-- THE LAW'S LOOP -/
theorem law_loop {p : Program} {l : Launch} {e : Env} {s : State} {m : MethodId} {below : List Frame} {meth : Method} {c : Code} {Q : State → Prop} {A : Nat → Prop} (D : va_G) (cI cJ cZ cO : ClassId) (em x pr bd mk os mo b0 b1 b2 b3 b4 b5 b6 b7 b8 b9 b10 b11 b12 ot b Ln : Nat) (xs : Nat → Int32) (hnt : l.stackTraces = false) (hx : p.tables.exec = Jvm.exec) (hb : c.code = code) (hml : c.maxLocals = 8) (hown : s.vm.findClass RL = some m.cls) (hts : ∀ w ∈ wsL_law, w.before #[Value.ref b] s = true) (hG : GS s) (hHS : HS A em s s.heap) (hX : va_X b Ln xs s s.heap) (hbl : b < s.heap.size) (hbA : ¬ A b) (hK : va_K D vwCl [(cI, .int), (cJ, .long), (cZ, .boolean), (cO, .object "java/lang/Object")] s) (hA : ∀ q : Nat, s.heap.size ≤ q → A q)  (hL : Ln ≤ 2560)
    (hend : ∀ (H : Heap) (locs : List Loc) (ls : Array Slot) (cs sl : Nat), va_S A s.heap H locs → cs ≤ 601024 → sl ≤ 7293034 → W p l e room_1 s m #[Value.ref b] below meth c H locs cs sl Q (F0 m 1060 ls [])) :
    ∀ (d B i cs sl : Nat) (H : Heap) (locs : List Loc) (ls : Array Slot), B + d = 513 → i = 5 * B → i ≤ Ln + 4 → cs = 20 + 4 * B → sl = 28523 + 820 * B → LI D A H cI cJ cZ cO em x pr bd mk os mo b0 b1 b2 b3 b4 b5 b6 b7 b8 b9 b10 b11 b12 ot B → va_S A s.heap H locs → lv_has ls 8 [(0, .ref b), (1, .ref x), (2, .ref mo), (3, .ref ot), (4, .int (nI i))] → W p l e room_1 s m #[Value.ref b] below meth c H locs cs sl Q (F0 m 23 ls []) := by
  intro d
  induction d with
  | zero =>
    intro B i cs sl H locs ls hd hi hiL hcs hsl h hS hl
    omega
  | succ d ih =>
    intro B i cs sl H locs ls hd hi hiL hcs hsl h hS hl
    refine lv_iload hx hb dL_law_23 (lv_at hl 4 rfl) ?_
    refine lv_aload_n hx hb dL_law_25 rfl (lv_at hl 0 rfl) ?_
    refine va_slen hx hb hX hbl hbA hS dL_law_26 ?_
    refine lv_iconst (v := nI 5) hx hb dL_law_27 (by decide) ?_
    refine zx_isub (v := nI Ln - nI 5) hx hb dL_law_28 rfl ?_
    have ht : (nI Ln - nI 5).toInt = (Ln : Int) - 5 := pk_sub_toInt (by omega) (by decide)
    have hti : (nI i).toInt = (i : Int) := nI_toInt (by omega)
    refine lv_icmp_gt (tgt := 1060) hx hb dL_law_29 (by decide) (fun h9 => ?_) (fun h9 => ?_)
    · exact hend H locs ls cs sl hS (by omega) (by omega)
    have hlt : i + 5 ≤ Ln := by
      have h8 : ¬ (nI Ln - nI 5).toInt < (nI i).toInt := fun q => h9 (Int32.lt_iff_toInt_lt.mpr q)
      omega
    refine lv_aload_n hx hb dL_law_32 rfl (lv_at hl 0 rfl) ?_
    refine lv_iload hx hb dL_law_33 (lv_at hl 4 rfl) ?_
    refine zx_sld hx hb hX hbl hbA hS (i := i) (by omega) (by omega) (v := xs i) rfl dL_law_35 ?_
    refine lv_bipush (v := nI 31) hx hb dL_law_36 (by decide) ?_
    obtain ⟨j, hj, ej⟩ := pk_andE (xs i) (m := nI 31) 5 (by decide)
    refine zx_iand (v := nI j) hx hb dL_law_38 ej ?_
    have K : ∀ (H : Heap) (locs : List Loc) (ls : Array Slot), LI D A H cI cJ cZ cO em x pr bd mk os mo b0 b1 b2 b3 b4 b5 b6 b7 b8 b9 b10 b11 b12 ot (B + 1) → va_S A s.heap H locs → lv_has ls 8 [(0, .ref b), (1, .ref x), (2, .ref mo), (3, .ref ot), (4, .int (nI i))] → W p l e room_1 s m #[Value.ref b] below meth c H locs (cs + 4) (sl + 820) Q (F0 m 1054 ls []) := by
      intro H locs ls h hS hl
      refine lv_iinc (v := nI (i + 5)) (lv' := [(4, .int (nI (i + 5))), (0, .ref b), (1, .ref x), (2, .ref mo), (3, .ref ot)]) hx hb dL_law_1054 hl (k := 4) rfl (nI_add _ _) (by decide) rfl (fun ls hl => ?_)
      refine lv_goto (tgt := 23) hx hb dL_law_1057 (by decide) ?_
      exact ih (B + 1) (i + 5) (cs + 4) (sl + 820) H locs ls (by omega) (by omega) (by omega) (by omega) (by omega) h hS (lv_sub hl [1, 2, 3, 4, 0] rfl)
    have hj2 : (nI j).toInt = (j : Int) := nI_toInt (by omega)
    by_cases hj9 : 17 < j
    · refine lv_tableOut hx hb (tgt := 1054) dL_law_39 (.inr (by rw [hj2]; omega)) (by decide) ?_
      exact W.widen (k := cs + 4) (n := sl + 820) (by omega) (by omega) (K H locs ls h.up hS hl)
    rcases (show j = 0 ∨ j = 1 ∨ j = 2 ∨ j = 3 ∨ j = 4 ∨ j = 5 ∨ j = 6 ∨ j = 7 ∨ j = 8 ∨ j = 9 ∨ j = 10 ∨ j = 11 ∨ j = 12 ∨ j = 13 ∨ j = 14 ∨ j = 15 ∨ j = 16 ∨ j = 17 by omega) with rfl | rfl | rfl | rfl | rfl | rfl | rfl | rfl | rfl | rfl | rfl | rfl | rfl | rfl | rfl | rfl | rfl | rfl
    · refine lv_tableIn hx hb (tgt := 124) dL_law_39 (by decide) (by decide) rfl (by decide) ?_
      exact li_tell D cI cJ cZ cO em x pr bd mk os mo b0 b1 b2 b3 b4 b5 b6 b7 b8 b9 b10 b11 b12 ot b Ln i B xs hnt hx hb hml hown hts hG hHS hX hbl hbA hK hA (by omega) (by omega) (by omega) hL (by omega) h hS hl K
    · refine lv_tableIn hx hb (tgt := 204) dL_law_39 (by decide) (by decide) rfl (by decide) ?_
      exact li_pass D cI cJ cZ cO em x pr bd mk os mo b0 b1 b2 b3 b4 b5 b6 b7 b8 b9 b10 b11 b12 ot b Ln i B xs hnt hx hb hml hown hts hG hHS hX hbl hbA hK hA (by omega) (by omega) (by omega) hL (by omega) h hS hl K
    · refine lv_tableIn hx hb (tgt := 260) dL_law_39 (by decide) (by decide) rfl (by decide) ?_
      exact li_today D cI cJ cZ cO em x pr bd mk os mo b0 b1 b2 b3 b4 b5 b6 b7 b8 b9 b10 b11 b12 ot b Ln i B xs hnt hx hb hml hown hts hG hHS hX hbl hbA hK hA (by omega) (by omega) (by omega) hL (by omega) h hS hl K
    · refine lv_tableIn hx hb (tgt := 273) dL_law_39 (by decide) (by decide) rfl (by decide) ?_
      exact li_offer D cI cJ cZ cO em x pr bd mk os mo b0 b1 b2 b3 b4 b5 b6 b7 b8 b9 b10 b11 b12 ot b Ln i B xs hnt hx hb hml hown hts hG hHS hX hbl hbA hK hA (by omega) (by omega) (by omega) hL (by omega) h hS hl K
    · refine lv_tableIn hx hb (tgt := 341) dL_law_39 (by decide) (by decide) rfl (by decide) ?_
      exact li_make D cI cJ cZ cO em x pr bd mk os mo b0 b1 b2 b3 b4 b5 b6 b7 b8 b9 b10 b11 b12 ot b Ln i B xs hnt hx hb hml hown hts hG hHS hX hbl hbA hK hA (by omega) (by omega) (by omega) hL (by omega) h hS hl K
    · refine lv_tableIn hx hb (tgt := 433) dL_law_39 (by decide) (by decide) rfl (by decide) ?_
      exact li_pay D cI cJ cZ cO em x pr bd mk os mo b0 b1 b2 b3 b4 b5 b6 b7 b8 b9 b10 b11 b12 ot b Ln i B xs hnt hx hb hml hown hts hG hHS hX hbl hbA hK hA (by omega) (by omega) (by omega) hL (by omega) h hS hl K
    · refine lv_tableIn hx hb (tgt := 489) dL_law_39 (by decide) (by decide) rfl (by decide) ?_
      exact li_change D cI cJ cZ cO em x pr bd mk os mo b0 b1 b2 b3 b4 b5 b6 b7 b8 b9 b10 b11 b12 ot b Ln i B xs hnt hx hb hml hown hts hG hHS hX hbl hbA hK hA (by omega) (by omega) (by omega) hL (by omega) h hS hl K
    · refine lv_tableIn hx hb (tgt := 581) dL_law_39 (by decide) (by decide) rfl (by decide) ?_
      exact li_backdate D cI cJ cZ cO em x pr bd mk os mo b0 b1 b2 b3 b4 b5 b6 b7 b8 b9 b10 b11 b12 ot b Ln i B xs hnt hx hb hml hown hts hG hHS hX hbl hbA hK hA (by omega) (by omega) (by omega) hL (by omega) h hS hl K
    · refine lv_tableIn hx hb (tgt := 649) dL_law_39 (by decide) (by decide) rfl (by decide) ?_
      exact li_contracts D cI cJ cZ cO em x pr bd mk os mo b0 b1 b2 b3 b4 b5 b6 b7 b8 b9 b10 b11 b12 ot b Ln i B xs hnt hx hb hml hown hts hG hHS hX hbl hbA hK hA (by omega) (by omega) (by omega) hL (by omega) h hS hl K
    · refine lv_tableIn hx hb (tgt := 662) dL_law_39 (by decide) (by decide) rfl (by decide) ?_
      exact li_waiting D cI cJ cZ cO em x pr bd mk os mo b0 b1 b2 b3 b4 b5 b6 b7 b8 b9 b10 b11 b12 ot b Ln i B xs hnt hx hb hml hown hts hG hHS hX hbl hbA hK hA (by omega) (by omega) (by omega) hL (by omega) h hS hl K
    · refine lv_tableIn hx hb (tgt := 675) dL_law_39 (by decide) (by decide) rfl (by decide) ?_
      exact li_isInForce D cI cJ cZ cO em x pr bd mk os mo b0 b1 b2 b3 b4 b5 b6 b7 b8 b9 b10 b11 b12 ot b Ln i B xs hnt hx hb hml hown hts hG hHS hX hbl hbA hK hA (by omega) (by omega) (by omega) hL (by omega) h hS hl K
    · refine lv_tableIn hx hb (tgt := 738) dL_law_39 (by decide) (by decide) rfl (by decide) ?_
      exact li_units D cI cJ cZ cO em x pr bd mk os mo b0 b1 b2 b3 b4 b5 b6 b7 b8 b9 b10 b11 b12 ot b Ln i B xs hnt hx hb hml hown hts hG hHS hX hbl hbA hK hA (by omega) (by omega) (by omega) hL (by omega) h hS hl K
    · refine lv_tableIn hx hb (tgt := 805) dL_law_39 (by decide) (by decide) rfl (by decide) ?_
      exact li_initial D cI cJ cZ cO em x pr bd mk os mo b0 b1 b2 b3 b4 b5 b6 b7 b8 b9 b10 b11 b12 ot b Ln i B xs hnt hx hb hml hown hts hG hHS hX hbl hbA hK hA (by omega) (by omega) (by omega) hL (by omega) h hS hl K
    · refine lv_tableIn hx hb (tgt := 860) dL_law_39 (by decide) (by decide) rfl (by decide) ?_
      exact li_worth D cI cJ cZ cO em x pr bd mk os mo b0 b1 b2 b3 b4 b5 b6 b7 b8 b9 b10 b11 b12 ot b Ln i B xs hnt hx hb hml hown hts hG hHS hX hbl hbA hK hA (by omega) (by omega) (by omega) hL (by omega) h hS hl K
    · refine lv_tableIn hx hb (tgt := 915) dL_law_39 (by decide) (by decide) rfl (by decide) ?_
      exact li_paid D cI cJ cZ cO em x pr bd mk os mo b0 b1 b2 b3 b4 b5 b6 b7 b8 b9 b10 b11 b12 ot b Ln i B xs hnt hx hb hml hown hts hG hHS hX hbl hbA hK hA (by omega) (by omega) (by omega) hL (by omega) h hS hl K
    · refine lv_tableIn hx hb (tgt := 971) dL_law_39 (by decide) (by decide) rfl (by decide) ?_
      exact li_fundUnits D cI cJ cZ cO em x pr bd mk os mo b0 b1 b2 b3 b4 b5 b6 b7 b8 b9 b10 b11 b12 ot b Ln i B xs hnt hx hb hml hown hts hG hHS hX hbl hbA hK hA (by omega) (by omega) (by omega) hL (by omega) h hS hl K
    · refine lv_tableIn hx hb (tgt := 1026) dL_law_39 (by decide) (by decide) rfl (by decide) ?_
      exact li_charged D cI cJ cZ cO em x pr bd mk os mo b0 b1 b2 b3 b4 b5 b6 b7 b8 b9 b10 b11 b12 ot b Ln i B xs hnt hx hb hml hown hts hG hHS hX hbl hbA hK hA (by omega) (by omega) (by omega) hL (by omega) h hS hl K
    · refine lv_tableIn hx hb (tgt := 1040) dL_law_39 (by decide) (by decide) rfl (by decide) ?_
      exact li_madeGood D cI cJ cZ cO em x pr bd mk os mo b0 b1 b2 b3 b4 b5 b6 b7 b8 b9 b10 b11 b12 ot b Ln i B xs hnt hx hb hml hown hts hG hHS hX hbl hbA hK hA (by omega) (by omega) (by omega) hL (by omega) h hS hl K
