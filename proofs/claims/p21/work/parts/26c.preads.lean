/-! READS IN THE POOL'S WORLD -/
set_option maxHeartbeats 4000000 in
/-- isInForce: in the pool's world -/
theorem p_isInForce (l : Launch) (D : va_G) (x pr mk os : Nat) (ch gd : Int64) (bd t : Nat) (cI : ClassId) (bf : Nat → Int32) (mm : Int32) (em1 n : Nat) (om : Int32) (em2 k : Nat) (L : List Nat) (f : Nat → va_E) (cJ : ClassId) (cO : ClassId) (ca aa : Nat → Nat) (fp fs fr : Nat → Int32) (ff fa : Nat → Nat) (fz : Nat → Int32) (fi fu : Nat → Int64) (em : Nat) (kc : Nat) (hkc : kc < n) (hCI : CI L f cJ n ca aa fp fs fr ff fa fz fi fu) (hU1 : UL cO em L f em1 n ca) (hfz : ∀ j : Nat, j < n → fz j = nI 0 ∨ fz j = nI 1) : Met l yX5_isInForce wsX5_isInForce ({ frames := 4, cells := 0, slots := 0, locals := 85 }) (z1 D (([(x, .inr (5, [.ref pr, .ref mk, .ref os, .long ch, .long gd])), (pr, .inr (3, [.ref bd, .int (nI t)])), (bd, .inl (cI, 6003, .inl bf)), (mk, .inr (0, [.int mm, .ref em1, .int (nI n)])), (os, .inr (0, [.int om, .ref em2, .int (nI k)]))] : va_W) ++ va_pl L f) [(cI, .int), (cJ, .long), (cO, .object "java/lang/Object")] [.ref x, .int (nI kc)]) (vp_Si (fun r => r = (fz kc))) 0 0 (fun _ => False) := by
  obtain ⟨cap, fl, u1, u2, u3, u4, u5, u6⟩ := UL.some hU1 (by omega)
  obtain ⟨a1, a2, a3, ⟨acc, a4, a5⟩, _⟩ := hCI kc hkc
  refine MetFree.mono (m_X5_isInForce_ok l D x pr mk os ch gd mm em1 n cap cO fl (ca kc) (aa kc) cJ (fp kc) (fs kc) (fr kc) (ff kc) (fi kc) (fa kc) (fz kc) acc kc hkc u3 u5 (u6 kc hkc) (nar_z (hfz kc hkc))) (fun a U h => ?_) (fun _ _ _ _ _ h => h) (fun _ _ _ _ _ h => h)
  obtain ⟨q0, hP, hK, hG⟩ := h
  exact ⟨q0, lp_P hP (w2 := [(x, .inr (5, [.ref pr, .ref mk, .ref os, .long ch, .long gd])), (mk, .inr (0, [.int mm, .ref em1, .int (nI n)])), (em1, .inl (cO, cap, .inr (.inr (.inr (.inr fl))))), ((ca kc), .inr (1, [.int (fp kc), .int (fs kc), .int (fr kc), .int (nI (ff kc)), .ref (aa kc), .long (fi kc), .int (nI (fa kc)), .int (fz kc)])), ((aa kc), .inl (cJ, 3, .inr (.inl acc)))]) (by intro z hz; simp only [List.mem_cons, List.not_mem_nil, or_false] at hz; rcases hz with rfl | rfl | rfl | rfl | rfl; exact List.mem_append_left _ (.head _); exact List.mem_append_left _ (.tail _ (.tail _ (.tail _ (.head _)))); exact lp_get hP u1 u2; exact lp_get hP a1 a3; exact lp_get hP a2 a4), hK.sub (tys' := [(cO, .object "java/lang/Object"), (cJ, .long)]) [2, 1] rfl, hG⟩

set_option maxHeartbeats 4000000 in
/-- initial: in the pool's world -/
theorem p_initial (l : Launch) (D : va_G) (x pr mk os : Nat) (ch gd : Int64) (bd t : Nat) (cI : ClassId) (bf : Nat → Int32) (mm : Int32) (em1 n : Nat) (om : Int32) (em2 k : Nat) (L : List Nat) (f : Nat → va_E) (cJ : ClassId) (cO : ClassId) (ca aa : Nat → Nat) (fp fs fr : Nat → Int32) (ff fa : Nat → Nat) (fz : Nat → Int32) (fi fu : Nat → Int64) (em : Nat) (kc : Nat) (hkc : kc < n) (hCI : CI L f cJ n ca aa fp fs fr ff fa fz fi fu) (hU1 : UL cO em L f em1 n ca) : Met l yX5_initial wsX5_initial ({ frames := 4, cells := 0, slots := 0, locals := 85 }) (z1 D (([(x, .inr (5, [.ref pr, .ref mk, .ref os, .long ch, .long gd])), (pr, .inr (3, [.ref bd, .int (nI t)])), (bd, .inl (cI, 6003, .inl bf)), (mk, .inr (0, [.int mm, .ref em1, .int (nI n)])), (os, .inr (0, [.int om, .ref em2, .int (nI k)]))] : va_W) ++ va_pl L f) [(cI, .int), (cJ, .long), (cO, .object "java/lang/Object")] [.ref x, .int (nI kc)]) (vp_Sl (fun r => r = (fi kc))) 0 0 (fun _ => False) := by
  obtain ⟨cap, fl, u1, u2, u3, u4, u5, u6⟩ := UL.some hU1 (by omega)
  obtain ⟨a1, a2, a3, ⟨acc, a4, a5⟩, _⟩ := hCI kc hkc
  refine MetFree.mono (m_X5_initial_ok l D x pr mk os ch gd mm em1 n cap cO fl (ca kc) (aa kc) cJ (fp kc) (fs kc) (fr kc) (ff kc) (fi kc) (fa kc) (fz kc) acc kc hkc u3 u5 (u6 kc hkc)) (fun a U h => ?_) (fun _ _ _ _ _ h => h) (fun _ _ _ _ _ h => h)
  obtain ⟨q0, hP, hK, hG⟩ := h
  exact ⟨q0, lp_P hP (w2 := [(x, .inr (5, [.ref pr, .ref mk, .ref os, .long ch, .long gd])), (mk, .inr (0, [.int mm, .ref em1, .int (nI n)])), (em1, .inl (cO, cap, .inr (.inr (.inr (.inr fl))))), ((ca kc), .inr (1, [.int (fp kc), .int (fs kc), .int (fr kc), .int (nI (ff kc)), .ref (aa kc), .long (fi kc), .int (nI (fa kc)), .int (fz kc)])), ((aa kc), .inl (cJ, 3, .inr (.inl acc)))]) (by intro z hz; simp only [List.mem_cons, List.not_mem_nil, or_false] at hz; rcases hz with rfl | rfl | rfl | rfl | rfl; exact List.mem_append_left _ (.head _); exact List.mem_append_left _ (.tail _ (.tail _ (.tail _ (.head _)))); exact lp_get hP u1 u2; exact lp_get hP a1 a3; exact lp_get hP a2 a4), hK.sub (tys' := [(cO, .object "java/lang/Object"), (cJ, .long)]) [2, 1] rfl, hG⟩

set_option maxHeartbeats 4000000 in
/-- paid: in the pool's world -/
theorem p_paid (l : Launch) (D : va_G) (x pr mk os : Nat) (ch gd : Int64) (bd t : Nat) (cI : ClassId) (bf : Nat → Int32) (mm : Int32) (em1 n : Nat) (om : Int32) (em2 k : Nat) (L : List Nat) (f : Nat → va_E) (cJ : ClassId) (cO : ClassId) (ca aa : Nat → Nat) (fp fs fr : Nat → Int32) (ff fa : Nat → Nat) (fz : Nat → Int32) (fi fu : Nat → Int64) (em : Nat) (kc : Nat) (hkc : kc < n) (hCI : CI L f cJ n ca aa fp fs fr ff fa fz fi fu) (hU1 : UL cO em L f em1 n ca) : Met l yX5_paid wsX5_paid ({ frames := 4, cells := 0, slots := 0, locals := 85 }) (z1 D (([(x, .inr (5, [.ref pr, .ref mk, .ref os, .long ch, .long gd])), (pr, .inr (3, [.ref bd, .int (nI t)])), (bd, .inl (cI, 6003, .inl bf)), (mk, .inr (0, [.int mm, .ref em1, .int (nI n)])), (os, .inr (0, [.int om, .ref em2, .int (nI k)]))] : va_W) ++ va_pl L f) [(cI, .int), (cJ, .long), (cO, .object "java/lang/Object")] [.ref x, .int (nI kc)]) (vp_Si (fun r => r = nI (fa kc))) 0 0 (fun _ => False) := by
  obtain ⟨cap, fl, u1, u2, u3, u4, u5, u6⟩ := UL.some hU1 (by omega)
  obtain ⟨a1, a2, a3, ⟨acc, a4, a5⟩, _⟩ := hCI kc hkc
  refine MetFree.mono (m_X5_paid_ok l D x pr mk os ch gd mm em1 n cap cO fl (ca kc) (aa kc) cJ (fp kc) (fs kc) (fr kc) (ff kc) (fi kc) (fa kc) (fz kc) acc kc hkc u3 u5 (u6 kc hkc)) (fun a U h => ?_) (fun _ _ _ _ _ h => h) (fun _ _ _ _ _ h => h)
  obtain ⟨q0, hP, hK, hG⟩ := h
  exact ⟨q0, lp_P hP (w2 := [(x, .inr (5, [.ref pr, .ref mk, .ref os, .long ch, .long gd])), (mk, .inr (0, [.int mm, .ref em1, .int (nI n)])), (em1, .inl (cO, cap, .inr (.inr (.inr (.inr fl))))), ((ca kc), .inr (1, [.int (fp kc), .int (fs kc), .int (fr kc), .int (nI (ff kc)), .ref (aa kc), .long (fi kc), .int (nI (fa kc)), .int (fz kc)])), ((aa kc), .inl (cJ, 3, .inr (.inl acc)))]) (by intro z hz; simp only [List.mem_cons, List.not_mem_nil, or_false] at hz; rcases hz with rfl | rfl | rfl | rfl | rfl; exact List.mem_append_left _ (.head _); exact List.mem_append_left _ (.tail _ (.tail _ (.tail _ (.head _)))); exact lp_get hP u1 u2; exact lp_get hP a1 a3; exact lp_get hP a2 a4), hK.sub (tys' := [(cO, .object "java/lang/Object"), (cJ, .long)]) [2, 1] rfl, hG⟩

set_option maxHeartbeats 4000000 in
/-- units: in the pool's world -/
theorem p_units (l : Launch) (D : va_G) (x pr mk os : Nat) (ch gd : Int64) (bd t : Nat) (cI : ClassId) (bf : Nat → Int32) (mm : Int32) (em1 n : Nat) (om : Int32) (em2 k : Nat) (L : List Nat) (f : Nat → va_E) (cJ : ClassId) (cO : ClassId) (ca aa : Nat → Nat) (fp fs fr : Nat → Int32) (ff fa : Nat → Nat) (fz : Nat → Int32) (fi fu : Nat → Int64) (em : Nat) (kc : Nat) (q : Nat) (hkc : kc < n) (hCI : CI L f cJ n ca aa fp fs fr ff fa fz fi fu) (hU1 : UL cO em L f em1 n ca) (hq : q < 3) : Met l yX5_units wsX5_units ({ frames := 4, cells := 0, slots := 0, locals := 85 }) (z1 D (([(x, .inr (5, [.ref pr, .ref mk, .ref os, .long ch, .long gd])), (pr, .inr (3, [.ref bd, .int (nI t)])), (bd, .inl (cI, 6003, .inl bf)), (mk, .inr (0, [.int mm, .ref em1, .int (nI n)])), (os, .inr (0, [.int om, .ref em2, .int (nI k)]))] : va_W) ++ va_pl L f) [(cI, .int), (cJ, .long), (cO, .object "java/lang/Object")] [.ref x, .int (nI kc), .int (nI q)]) (vp_Sl (fun r => r = (fu (3 * kc + q)))) 0 0 (fun _ => False) := by
  obtain ⟨cap, fl, u1, u2, u3, u4, u5, u6⟩ := UL.some hU1 (by omega)
  obtain ⟨a1, a2, a3, ⟨acc, a4, a5⟩, _⟩ := hCI kc hkc
  rw [← a5 q hq]
  refine MetFree.mono (m_X5_units_ok l D x pr mk os ch gd mm em1 n cap cO fl (ca kc) (aa kc) cJ (fp kc) (fs kc) (fr kc) (ff kc) (fi kc) (fa kc) (fz kc) acc kc q hkc u3 u5 (u6 kc hkc) hq) (fun a U h => ?_) (fun _ _ _ _ _ h => h) (fun _ _ _ _ _ h => h)
  obtain ⟨q0, hP, hK, hG⟩ := h
  exact ⟨q0, lp_P hP (w2 := [(x, .inr (5, [.ref pr, .ref mk, .ref os, .long ch, .long gd])), (mk, .inr (0, [.int mm, .ref em1, .int (nI n)])), (em1, .inl (cO, cap, .inr (.inr (.inr (.inr fl))))), ((ca kc), .inr (1, [.int (fp kc), .int (fs kc), .int (fr kc), .int (nI (ff kc)), .ref (aa kc), .long (fi kc), .int (nI (fa kc)), .int (fz kc)])), ((aa kc), .inl (cJ, 3, .inr (.inl acc)))]) (by intro z hz; simp only [List.mem_cons, List.not_mem_nil, or_false] at hz; rcases hz with rfl | rfl | rfl | rfl | rfl; exact List.mem_append_left _ (.head _); exact List.mem_append_left _ (.tail _ (.tail _ (.tail _ (.head _)))); exact lp_get hP u1 u2; exact lp_get hP a1 a3; exact lp_get hP a2 a4), hK.sub (tys' := [(cO, .object "java/lang/Object"), (cJ, .long)]) [2, 1] rfl, hG⟩

set_option maxHeartbeats 4000000 in
/-- worth: in the pool's world -/
theorem p_worth (l : Launch) (D : va_G) (x pr mk os : Nat) (ch gd : Int64) (bd t : Nat) (cI : ClassId) (bf : Nat → Int32) (mm : Int32) (em1 n : Nat) (om : Int32) (em2 k : Nat) (L : List Nat) (f : Nat → va_E) (cJ : ClassId) (cO : ClassId) (ca aa : Nat → Nat) (fp fs fr : Nat → Int32) (ff fa : Nat → Nat) (fz : Nat → Int32) (fi fu : Nat → Int64) (em : Nat) (kc : Nat) (hkc : kc < n) (hCI : CI L f cJ n ca aa fp fs fr ff fa fz fi fu) (hU1 : UL cO em L f em1 n ca) (hff : ∀ j : Nat, j < n → ff j < 3) (ht : t ≤ 2000) : Met l yX5_worth wsX5_worth ({ frames := 4, cells := 0, slots := 0, locals := 87 }) (z1 D (([(x, .inr (5, [.ref pr, .ref mk, .ref os, .long ch, .long gd])), (pr, .inr (3, [.ref bd, .int (nI t)])), (bd, .inl (cI, 6003, .inl bf)), (mk, .inr (0, [.int mm, .ref em1, .int (nI n)])), (os, .inr (0, [.int om, .ref em2, .int (nI k)]))] : va_W) ++ va_pl L f) [(cI, .int), (cJ, .long), (cO, .object "java/lang/Object")] [.ref x, .int (nI kc)]) (vp_Sl (fun r => r = (k_worth (fi kc) (bf (t * 3 + ff kc)) (bf (t * 3 + 0)) (bf (t * 3 + 1)) (bf (t * 3 + 2)) (fu (3 * kc + 0)) (fu (3 * kc + 1)) (fu (3 * kc + 2))))) 0 0 (fun _ => False) := by
  obtain ⟨cap, fl, u1, u2, u3, u4, u5, u6⟩ := UL.some hU1 (by omega)
  obtain ⟨a1, a2, a3, ⟨acc, a4, a5⟩, _⟩ := hCI kc hkc
  rw [← a5 0 (by decide), ← a5 1 (by decide), ← a5 2 (by decide)]
  refine MetFree.mono (m_X5_worth_ok l D x pr mk os ch gd mm em1 n cap cO fl (ca kc) (aa kc) cJ (fp kc) (fs kc) (fr kc) (ff kc) (fi kc) (fa kc) (fz kc) acc kc bd t cI bf hkc u3 u5 (u6 kc hkc) (hff kc hkc) ht) (fun a U h => ?_) (fun _ _ _ _ _ h => h) (fun _ _ _ _ _ h => h)
  obtain ⟨q0, hP, hK, hG⟩ := h
  exact ⟨q0, lp_P hP (w2 := [(x, .inr (5, [.ref pr, .ref mk, .ref os, .long ch, .long gd])), (mk, .inr (0, [.int mm, .ref em1, .int (nI n)])), (em1, .inl (cO, cap, .inr (.inr (.inr (.inr fl))))), ((ca kc), .inr (1, [.int (fp kc), .int (fs kc), .int (fr kc), .int (nI (ff kc)), .ref (aa kc), .long (fi kc), .int (nI (fa kc)), .int (fz kc)])), ((aa kc), .inl (cJ, 3, .inr (.inl acc))), (pr, .inr (3, [.ref bd, .int (nI t)])), (bd, .inl (cI, 6003, .inl bf))]) (by intro z hz; simp only [List.mem_cons, List.not_mem_nil, or_false] at hz; rcases hz with rfl | rfl | rfl | rfl | rfl | rfl | rfl; exact List.mem_append_left _ (.head _); exact List.mem_append_left _ (.tail _ (.tail _ (.tail _ (.head _)))); exact lp_get hP u1 u2; exact lp_get hP a1 a3; exact lp_get hP a2 a4; exact List.mem_append_left _ (.tail _ (.head _)); exact List.mem_append_left _ (.tail _ (.tail _ (.head _)))), hK.sub (tys' := [(cO, .object "java/lang/Object"), (cJ, .long), (cI, .int)]) [2, 1, 0] rfl, hG⟩

set_option maxHeartbeats 4000000 in
/-- fundUnits: in the pool's world, some contracts -/
theorem p_fundUnits (l : Launch) (D : va_G) (x pr mk os : Nat) (ch gd : Int64) (bd t : Nat) (cI : ClassId) (bf : Nat → Int32) (mm : Int32) (em1 n : Nat) (om : Int32) (em2 k : Nat) (L : List Nat) (f : Nat → va_E) (cJ : ClassId) (cO : ClassId) (ca aa : Nat → Nat) (fp fs fr : Nat → Int32) (ff fa : Nat → Nat) (fz : Nat → Int32) (fi fu : Nat → Int64) (em : Nat) (q : Nat) (hq : q < 3) (hCI : CI L f cJ n ca aa fp fs fr ff fa fz fi fu) (hU1 : UL cO em L f em1 n ca) (hff : ∀ j : Nat, j < n → ff j < 3) (hn0 : 0 < n) : Met l yX5_fundUnits wsX5_fundUnits ({ frames := 3, cells := 0, slots := 0, locals := 64 }) (z1 D (([(x, .inr (5, [.ref pr, .ref mk, .ref os, .long ch, .long gd])), (pr, .inr (3, [.ref bd, .int (nI t)])), (bd, .inl (cI, 6003, .inl bf)), (mk, .inr (0, [.int mm, .ref em1, .int (nI n)])), (os, .inr (0, [.int om, .ref em2, .int (nI k)]))] : va_W) ++ va_pl L f) [(cI, .int), (cJ, .long), (cO, .object "java/lang/Object")] [.ref x, .int (nI q)]) (vp_Sl (fun r => r = (q_sum fu fi ff q n))) 0 0 (fun _ => False) := by
  obtain ⟨cap, fl, u1, u2, u3, u4, u5, u6⟩ := UL.some hU1 hn0
  have hac : ∀ j : Nat, ∃ ac : Nat → Int64, j < n → f (aa j) = (.inl (cJ, 3, .inr (.inl ac)) : va_E) ∧ ∀ q : Nat, q < 3 → ac q = fu (3 * j + q) := by
    intro j
    by_cases hj : j < n
    · obtain ⟨ac, h8, h9⟩ := (hCI j hj).2.2.2.1
      exact ⟨ac, fun _ => ⟨h8, h9⟩⟩
    · exact ⟨fun _ => 0, fun h => absurd h hj⟩
  obtain ⟨ac, hac⟩ := Classical.axiomOfChoice hac
  have hm : ∀ (a : Nat) (e : va_E), a ∈ L → f a = e → (a, e) ∈ va_pl L f := by
    intro a e h1 h2
    unfold va_pl
    exact List.mem_map.mpr ⟨a, h1, by rw [h2]⟩
  refine MetFree.mono (m_X5_fundUnits_ok l D x pr mk os ch gd mm em1 n cap cO fl (va_pl L f) cJ ca aa ac fp fs fr ff fa fz fi fu q hq u3 u5 (fun i hi => ⟨u6 i hi, hm _ _ (hCI i hi).1 (hCI i hi).2.2.1, hm _ _ (hCI i hi).2.1 (hac i hi).1, (hac i hi).2 q hq, hff i hi⟩)) (fun a U h => ?_) (fun _ _ _ _ _ h => h) (fun _ _ _ _ _ h => h)
  obtain ⟨q0, hP, hK, hG⟩ := h
  refine ⟨q0, lp_P hP (fun z hz => ?_), hK.sub (tys' := [(cO, .object "java/lang/Object"), (cJ, .long)]) [2, 1] rfl, hG⟩
  rcases List.mem_append.mp hz with hz | hz
  · simp only [List.mem_cons, List.not_mem_nil, or_false] at hz
    rcases hz with rfl | rfl | rfl
    · exact List.mem_append_left _ (.head _)
    · exact List.mem_append_left _ (.tail _ (.tail _ (.tail _ (.head _))))
    · exact lp_get hP u1 u2
  · exact List.mem_append_right _ hz
