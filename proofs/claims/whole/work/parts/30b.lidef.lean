/-! THE LAW'S INVARIANT -/
def LI (D : va_G) (A : Nat → Prop) (H : Heap) (cI cJ cZ cO : ClassId) (em x pr bd mk os mo b0 b1 b2 b3 b4 b5 b6 b7 b8 b9 b10 b11 b12 ot B : Nat) : Prop := ∃ (ch gd : Int64) (t : Nat) (bf : Nat → Int32) (mm : Int32) (em1 n : Nat) (om : Int32) (em2 k : Nat) (th : Int32) (fb fp fs fr : Nat → Int32) (ff fa : Nat → Nat) (fz : Nat → Int32) (fi fu : Nat → Int64) (fo : Nat → Nat) (fq : Nat → Int32) (fx fy : Nat → Nat) (ov : Nat → Int64) (L : List Nat) (f : Nat → va_E) (ca aa oa : Nat → Nat), va_P D vwCl (([(x, .inr (5, [.ref pr, .ref mk, .ref os, .long ch, .long gd])), (pr, .inr (3, [.ref bd, .int (nI t)])), (bd, .inl (cI, 6003, .inl bf)), (mk, .inr (0, [.int mm, .ref em1, .int (nI n)])), (os, .inr (0, [.int om, .ref em2, .int (nI k)])), (mo, .inr (6, [.int th, .int (nI t), .int (nI n), .int (nI k), .long ch, .long gd, .ref b0, .ref b1, .ref b2, .ref b3, .ref b4, .ref b5, .ref b6, .ref b7, .ref b8, .ref b9, .ref b10, .ref b11, .ref b12])), (b0, .inl (cI, 6003, .inl fb)), (b1, .inl (cI, 10, .inl fp)), (b2, .inl (cI, 10, .inl fs)), (b3, .inl (cI, 10, .inl fr)), (b4, .inl (cI, 10, .inl (nIf ff))), (b5, .inl (cI, 10, .inl (nIf fa))), (b6, .inl (cZ, 10, .inl fz)), (b7, .inl (cJ, 10, .inr (.inl fi))), (b8, .inl (cJ, 30, .inr (.inl fu))), (b9, .inl (cI, 4096, .inl (nIf fo))), (b10, .inl (cI, 4096, .inl fq)), (b11, .inl (cI, 4096, .inl (nIf fx))), (b12, .inl (cI, 4096, .inl (nIf fy))), (ot, .inl (cJ, 1, .inr (.inl ov)))] : va_W) ++ va_pl L f) H ∧ va_D A (([(x, .inr (5, [.ref pr, .ref mk, .ref os, .long ch, .long gd])), (pr, .inr (3, [.ref bd, .int (nI t)])), (bd, .inl (cI, 6003, .inl bf)), (mk, .inr (0, [.int mm, .ref em1, .int (nI n)])), (os, .inr (0, [.int om, .ref em2, .int (nI k)])), (mo, .inr (6, [.int th, .int (nI t), .int (nI n), .int (nI k), .long ch, .long gd, .ref b0, .ref b1, .ref b2, .ref b3, .ref b4, .ref b5, .ref b6, .ref b7, .ref b8, .ref b9, .ref b10, .ref b11, .ref b12])), (b0, .inl (cI, 6003, .inl fb)), (b1, .inl (cI, 10, .inl fp)), (b2, .inl (cI, 10, .inl fs)), (b3, .inl (cI, 10, .inl fr)), (b4, .inl (cI, 10, .inl (nIf ff))), (b5, .inl (cI, 10, .inl (nIf fa))), (b6, .inl (cZ, 10, .inl fz)), (b7, .inl (cJ, 10, .inr (.inl fi))), (b8, .inl (cJ, 30, .inr (.inl fu))), (b9, .inl (cI, 4096, .inl (nIf fo))), (b10, .inl (cI, 4096, .inl fq)), (b11, .inl (cI, 4096, .inl (nIf fx))), (b12, .inl (cI, 4096, .inl (nIf fy))), (ot, .inl (cJ, 1, .inr (.inl ov)))] : va_W) ++ va_pl L f) ∧ (t ≤ 2000) ∧ (n ≤ 10) ∧ (k ≤ B) ∧ (BI bf fb t) ∧ (∀ d q : Nat, d ≤ t → q < 3 → okp (fb (2001 * q + d))) ∧ (∀ j : Nat, j < n → ff j < 3) ∧ (∀ j : Nat, j < n → fz j = nI 0 ∨ fz j = nI 1) ∧ (∀ j : Nat, fa j + k ≤ B) ∧ (∀ j : Nat, n ≤ j → fi j = 0 ∧ fa j = 0 ∧ ∀ q : Nat, q < 3 → fu (3 * j + q) = 0) ∧ (∀ j : Nat, j < k → fx j < 3) ∧ (∀ j : Nat, j < k → fy j < 3) ∧ (CI L f cJ n ca aa fp fs fr ff fa fz fi fu) ∧ (OI L f k n oa ca fo fq fx fy) ∧ (UL cO em L f em1 n ca) ∧ (UL cO em L f em2 k oa) ∧ (em1 ∈ L → em2 ∈ L → em1 ≠ em2)
theorem CI.foc5 {D : va_G} {cl : List vw_C} {A : Nat → Prop} {X : va_W} {H : Heap} {e1 n : Nat} {L : List Nat} {f : Nat → va_E} {cJ : ClassId} {ca aa : Nat → Nat} {fp fs fr : Nat → Int32} {ff fa : Nat → Nat} {fz : Nat → Int32} {fi fu : Nat → Int64} (h : CI L f cJ n ca aa fp fs fr ff fa fz fi fu) {i : Nat} {e0 : va_E} (hi : i < n) (ho : e1 ∈ L) (hoo : ∀ j : Nat, j < n → e1 ≠ ca j ∧ e1 ≠ aa j) (he : f e1 = e0) (hP : va_P D cl (X ++ va_pl L f) H) (hD : va_D A (X ++ va_pl L f)) : ∃ (L' : List Nat) (acc : Nat → Int64), L.Perm ([e1, ca i, aa i] ++ L') ∧ va_P D cl ((X ++ [(e1, e0), (ca i, .inr (1, [.int (fp i), .int (fs i), .int (fr i), .int (nI (ff i)), .ref (aa i), .long (fi i), .int (nI (fa i)), .int (fz i)])), (aa i, .inl (cJ, 3, .inr (.inl acc)))]) ++ va_pl L' f) H ∧ va_D A ((X ++ [(e1, e0), (ca i, .inr (1, [.int (fp i), .int (fs i), .int (fr i), .int (nI (ff i)), .ref (aa i), .long (fi i), .int (nI (fa i)), .int (fz i)])), (aa i, .inl (cJ, 3, .inr (.inl acc)))]) ++ va_pl L' f) ∧ f (aa i) = (.inl (cJ, 3, .inr (.inl acc)) : va_E) ∧ ∀ q : Nat, q < 3 → acc q = fu (3 * i + q) := by
  obtain ⟨h1, h2, h3, ⟨acc, h4, h5⟩, _⟩ := h i hi
  obtain ⟨L', hL⟩ := lp_pn [e1, ca i, aa i] (L := L) (by
    simp only [List.nodup_cons, List.mem_cons, List.not_mem_nil, or_false, not_or]
    exact ⟨⟨(hoo i hi).1, (hoo i hi).2⟩, fun q => h.ne hi hi q.symm, not_false, List.nodup_nil⟩) (by
    intro a ha
    simp only [List.mem_cons, List.not_mem_nil, or_false] at ha
    rcases ha with ha | ha | ha <;> rw [ha] <;> assumption)
  obtain ⟨hP, hD⟩ := lp_join hL hP hD
  refine ⟨L', acc, hL, ?_, ?_, h4, h5⟩
  · rw [List.map_cons, List.map_cons, List.map_cons, he, h3, h4] at hP; exact hP
  · rw [List.map_cons, List.map_cons, List.map_cons, he, h3, h4] at hD; exact hD
theorem CI.foc6 {D : va_G} {cl : List vw_C} {A : Nat → Prop} {X : va_W} {H : Heap} {e1 e2 n : Nat} {L : List Nat} {f : Nat → va_E} {cJ : ClassId} {ca aa : Nat → Nat} {fp fs fr : Nat → Int32} {ff fa : Nat → Nat} {fz : Nat → Int32} {fi fu : Nat → Int64} (h : CI L f cJ n ca aa fp fs fr ff fa fz fi fu) {i : Nat} {e0 e9 : va_E} (hi : i < n) (ho : e1 ∈ L) (hoo : ∀ j : Nat, j < n → e1 ≠ ca j ∧ e1 ≠ aa j) (he : f e1 = e0) (ho2 : e2 ∈ L) (hoo2 : ∀ j : Nat, j < n → e2 ≠ ca j ∧ e2 ≠ aa j) (he2 : f e2 = e9) (h12 : e1 ≠ e2) (hP : va_P D cl (X ++ va_pl L f) H) (hD : va_D A (X ++ va_pl L f)) : ∃ (L' : List Nat) (acc : Nat → Int64), L.Perm ([e1, ca i, aa i, e2] ++ L') ∧ va_P D cl ((X ++ [(e1, e0), (ca i, .inr (1, [.int (fp i), .int (fs i), .int (fr i), .int (nI (ff i)), .ref (aa i), .long (fi i), .int (nI (fa i)), .int (fz i)])), (aa i, .inl (cJ, 3, .inr (.inl acc))), (e2, e9)]) ++ va_pl L' f) H ∧ va_D A ((X ++ [(e1, e0), (ca i, .inr (1, [.int (fp i), .int (fs i), .int (fr i), .int (nI (ff i)), .ref (aa i), .long (fi i), .int (nI (fa i)), .int (fz i)])), (aa i, .inl (cJ, 3, .inr (.inl acc))), (e2, e9)]) ++ va_pl L' f) ∧ f (aa i) = (.inl (cJ, 3, .inr (.inl acc)) : va_E) ∧ ∀ q : Nat, q < 3 → acc q = fu (3 * i + q) := by
  obtain ⟨h1, h2, h3, ⟨acc, h4, h5⟩, _⟩ := h i hi
  obtain ⟨L', hL⟩ := lp_pn [e1, ca i, aa i, e2] (L := L) (by
    simp only [List.nodup_cons, List.mem_cons, List.not_mem_nil, or_false, not_or]
    exact ⟨⟨(hoo i hi).1, (hoo i hi).2, h12⟩, ⟨fun q => h.ne hi hi q.symm, fun q => (hoo2 i hi).1 q.symm⟩, fun q => (hoo2 i hi).2 q.symm, not_false, List.nodup_nil⟩) (by
    intro a ha
    simp only [List.mem_cons, List.not_mem_nil, or_false] at ha
    rcases ha with ha | ha | ha | ha <;> rw [ha] <;> assumption)
  obtain ⟨hP, hD⟩ := lp_join hL hP hD
  refine ⟨L', acc, hL, ?_, ?_, h4, h5⟩
  · rw [List.map_cons, List.map_cons, List.map_cons, List.map_cons, he, h3, h4, he2] at hP; exact hP
  · rw [List.map_cons, List.map_cons, List.map_cons, List.map_cons, he, h3, h4, he2] at hD; exact hD
theorem lp_same {As : va_W} {L L' : List Nat} {f g : Nat → va_E} (hL : L.Perm (As.map (·.1) ++ L')) (hf : ∀ q ∈ As, f q.1 = q.2) (hg1 : ∀ q ∈ As, g q.1 = q.2) (hg2 : ∀ a ∈ L', g a = f a) : ∀ a ∈ L, a ∈ As.map (·.1) ++ L' ∧ g a = f a := by
  intro a ha
  have h9 := hL.mem_iff.mp ha
  refine ⟨h9, ?_⟩
  rcases List.mem_append.mp h9 with h8 | h8
  · obtain ⟨q, hq, rfl⟩ := List.mem_map.mp h8
    exact (hg1 q hq).trans (hf q hq).symm
  · exact hg2 a h8
/-- all but v is kept; what was in front stays in front -/
theorem lp_some {As Bs : va_W} {L L' : List Nat} {f g : Nat → va_E} {v : Nat} (hL : L.Perm (Bs.map (·.1) ++ L')) (hf : ∀ q ∈ Bs, q.1 ≠ v → f q.1 = q.2 ∧ q ∈ As) (hg1 : ∀ q ∈ As, g q.1 = q.2) (hg2 : ∀ a ∈ L', g a = f a) : ∀ a ∈ L, a ≠ v → a ∈ As.map (·.1) ++ L' ∧ g a = f a := by
  intro a ha hv
  rcases List.mem_append.mp (hL.mem_iff.mp ha) with h8 | h8
  · obtain ⟨q, hq, rfl⟩ := List.mem_map.mp h8
    obtain ⟨b1, b2⟩ := hf q hq hv
    exact ⟨List.mem_append_left _ (List.mem_map.mpr ⟨q, b2, rfl⟩), (hg1 q b2).trans b1.symm⟩
  · exact ⟨List.mem_append_right _ h8, hg2 a h8⟩
