/-! THE LAW'S INVARIANT: what grows -/
theorem up_lt {f : Nat → Nat} {k v : Nat} (h : ∀ j : Nat, j < k → f j < 3) (hv : v < 3) : ∀ j : Nat, j < k + 1 → va_up f k v j < 3 := by
  intro j hj
  by_cases e9 : j = k
  · subst e9; rw [up_same]; exact hv
  · rw [up_ne e9]; exact h j (by omega)
theorem upd_z {f : Nat → Int32} {k : Nat} (h : ∀ j : Nat, j < k → f j = nI 0 ∨ f j = nI 1) : ∀ j : Nat, j < k + 1 → upd f k (nI 1) j = nI 0 ∨ upd f k (nI 1) j = nI 1 := by
  intro j hj
  by_cases e9 : j = k
  · subst e9; rw [upd_same]; exact .inr rfl
  · rw [upd_ne e9]; exact h j (by omega)
theorem cpy0 {α : Type} {f g : Nat → α} {k i : Nat} (h : i < k) : va_cpy f g 0 0 k i = f i := by
  unfold va_cpy
  rw [if_pos ⟨Nat.zero_le _, by omega⟩]
  show f (0 + (i - 0)) = f i
  rw [Nat.zero_add, Nat.sub_zero]
theorem UL.inL {cO : ClassId} {em e1 k : Nat} {L L2 : List Nat} {f : Nat → va_E} {oa : Nat → Nat} (h : UL cO em L f e1 k oa) (hem : em ∉ L2) (h9 : e1 ∈ L2) : e1 ∈ L := by
  rcases h with ⟨_, h2, _⟩ | ⟨_, _, h1, _⟩
  · exact absurd (h2 ▸ h9) hem
  · exact h1
theorem lp_nin {L Bs L' : List Nat} {a : Nat} (hL : L.Perm (Bs ++ L')) (h1 : a ∉ Bs) (h2 : a ∉ L') : a ∉ L := fun h => (List.mem_append.mp (hL.mem_iff.mp h)).elim h1 h2
theorem EL.mk {D : va_G} {A : Nat → Prop} {X W : va_W} {L : List Nat} {f : Nat → va_E} {H : Heap} {s : State} {tys : List (ClassId × FieldType)} {k n : Nat} {oa ca fo : Nat → Nat} {fq : Nat → Int32} {fx fy : Nat → Nat} {fo2 : Nat → Option Nat} (hOI : OI L f k n oa ca fo fq fx fy) (hP : va_P D vwCl (X ++ va_pl L f) H) (hD : va_D A (X ++ va_pl L f)) (hK : va_K D vwCl tys s) (hG : GS s) (hv : ∀ i : Nat, i < k → fo2 i = some (oa i)) (hW : ∀ q ∈ W, (∃ e9 : va_E, (q.1, e9) ∈ X) ∨ ∀ j : Nat, j < k → oa j ≠ q.1) : EL (va_A W H.size) fo2 k s H := by
  intro i hi y hy
  obtain rfl : oa i = y := Option.some.inj ((hv i hi).symm.trans hy)
  obtain ⟨h1, _, h3⟩ := hOI i hi
  obtain ⟨q0, hq0⟩ := va_pl_get (X := X) (f := f) h1
  refine ⟨fun h => ?_, ?_⟩
  · rcases h with ⟨j, e9, hj⟩ | h
    · rcases hW (oa i, e9) (List.mem_of_getElem? hj) with ⟨e8, hx⟩ | hx
      · exact lp_nx (D := D) (cl := vwCl) hD hx h1
      · exact hx i hi rfl
    · have := vx_lt hP hq0
      dsimp only at this
      omega
  · rcases h3 with ⟨_, h3⟩ | ⟨_, h3⟩
    · rw [h3] at hq0
      exact va_rAny hK hP hq0 (r := _) rfl (vb_asgC (hG.2.1 ("UnitContracts$PremiumOrder", "java/lang/Object") (by decide +kernel)))
    · rw [h3] at hq0
      exact va_rAny hK hP hq0 (r := _) rfl (vb_asgC (hG.2.1 ("UnitContracts$SwitchOrder", "java/lang/Object") (by decide +kernel)))
