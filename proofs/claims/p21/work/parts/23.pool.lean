/-! THE POOL: contracts, orders and the rows of the two lists -/
theorem lp_F {A : Nat → Prop} {wd : va_W} {H0 H : Heap} {locs : List Loc} (hD : va_D A wd) (hS : va_S A H0 H locs) (hA : ∀ q : Nat, H0.size ≤ q → A q) : ∀ q, va_A wd H.size q → A q := by
  intro q h
  rcases h with ⟨k, e, hk⟩ | h
  · exact hD.2 k _ hk
  · exact hA q (Nat.le_trans hS.1 h)
theorem lp_split {D : va_G} {cl : List vw_C} {A : Nat → Prop} {X : va_W} {L As L' : List Nat} {g g' : Nat → va_E} {H : Heap} (hL : L.Perm (As ++ L')) (hg : ∀ a ∈ L', g' a = g a) (hP : va_P D cl ((X ++ As.map (fun a => (a, g' a))) ++ va_pl L' g) H) (hD : va_D A ((X ++ As.map (fun a => (a, g' a))) ++ va_pl L' g)) : va_P D cl (X ++ va_pl L g') H ∧ va_D A (X ++ va_pl L g') := by
  have h1 : (X ++ As.map (fun a => (a, g' a))) ++ va_pl L' g = X ++ va_pl (As ++ L') g' := by
    unfold va_pl
    rw [List.map_append, List.append_assoc]
    congr 2
    exact List.map_congr_left (fun a ha => by rw [hg a ha])
  have h2 : (X ++ va_pl (As ++ L') g').Perm (X ++ va_pl L g') := List.Perm.append_left X ((hL.map (fun a => (a, g' a))).symm)
  rw [h1] at hP hD
  exact ⟨lp_P hP (fun q hq => h2.mem_iff.mpr hq), lp_D hD h2⟩
theorem lp_join {D : va_G} {cl : List vw_C} {A : Nat → Prop} {X : va_W} {L As L' : List Nat} {g : Nat → va_E} {H : Heap} (hL : L.Perm (As ++ L')) (hP : va_P D cl (X ++ va_pl L g) H) (hD : va_D A (X ++ va_pl L g)) : va_P D cl ((X ++ As.map (fun a => (a, g a))) ++ va_pl L' g) H ∧ va_D A ((X ++ As.map (fun a => (a, g a))) ++ va_pl L' g) := by
  have h1 : (X ++ As.map (fun a => (a, g a))) ++ va_pl L' g = X ++ va_pl (As ++ L') g := by
    unfold va_pl
    rw [List.map_append, List.append_assoc]
  have h2 : (X ++ va_pl (As ++ L') g).Perm (X ++ va_pl L g) := List.Perm.append_left X ((hL.map (fun a => (a, g a))).symm)
  rw [h1]
  exact ⟨lp_P hP (fun q hq => h2.mem_iff.mp hq), lp_D hD h2.symm⟩
theorem lp_nd {A : Nat → Prop} {X : va_W} {L : List Nat} {g : Nat → va_E} (hD : va_D A (X ++ va_pl L g)) : L.Nodup := by
  have h := (lp_Dn.mp hD).1
  rw [List.map_append] at h
  have h2 := (List.nodup_append.mp h).2.1
  unfold va_pl at h2
  rw [List.map_map] at h2
  have h3 : L.map ((fun q : Nat × va_E => q.1) ∘ fun a => (a, g a)) = L := by
    rw [show ((fun q : Nat × va_E => q.1) ∘ fun a => (a, g a)) = id from rfl, List.map_id]
  exact h3 ▸ h2
theorem lp_p2 {L : List Nat} {a b : Nat} (ha : a ∈ L) (hb : b ∈ L) (h : b ≠ a) : ∃ L' : List Nat, L.Perm ([a, b] ++ L') := by
  refine ⟨(L.erase a).erase b, ?_⟩
  exact (List.perm_cons_erase ha).trans ((List.perm_cons_erase ((List.mem_erase_of_ne h).mpr hb)).cons a)
theorem lp_p3 {L : List Nat} {a b c : Nat} (ha : a ∈ L) (hb : b ∈ L) (hc : c ∈ L) (h1 : b ≠ a) (h2 : c ≠ a) (h3 : c ≠ b) : ∃ L' : List Nat, L.Perm ([a, b, c] ++ L') := by
  refine ⟨((L.erase a).erase b).erase c, ?_⟩
  have hb' := (List.mem_erase_of_ne h1).mpr hb
  have hc' := (List.mem_erase_of_ne h3).mpr ((List.mem_erase_of_ne h2).mpr hc)
  exact (List.perm_cons_erase ha).trans (((List.perm_cons_erase hb').trans ((List.perm_cons_erase hc').cons b)).cons a)
theorem lp_p1 {L : List Nat} {a : Nat} (ha : a ∈ L) : ∃ L' : List Nat, L.Perm ([a] ++ L') := ⟨L.erase a, List.perm_cons_erase ha⟩
/-- contracts of the pool -/
def CI (L : List Nat) (f : Nat → va_E) (cJ : ClassId) (n : Nat) (ca aa : Nat → Nat) (fp fs fr : Nat → Int32) (ff fa : Nat → Nat) (fz : Nat → Int32) (fi fu : Nat → Int64) : Prop :=
  ∀ j : Nat, j < n → ca j ∈ L ∧ aa j ∈ L ∧ f (ca j) = (.inr (1, [.int (fp j), .int (fs j), .int (fr j), .int (nI (ff j)), .ref (aa j), .long (fi j), .int (nI (fa j)), .int (fz j)]) : va_E) ∧ (∃ acc : Nat → Int64, f (aa j) = (.inl (cJ, 3, .inr (.inl acc)) : va_E) ∧ ∀ q : Nat, q < 3 → acc q = fu (3 * j + q)) ∧ ∀ i : Nat, i < n → (ca i = ca j → i = j) ∧ (aa i = aa j → i = j)
/-- orders of the pool -/
def OI (L : List Nat) (f : Nat → va_E) (k n : Nat) (oa ca fo : Nat → Nat) (fq : Nat → Int32) (fx fy : Nat → Nat) : Prop :=
  ∀ j : Nat, j < k → oa j ∈ L ∧ fo j < n ∧ ((fq j = (-1) ∧ f (oa j) = (.inr (2, [.ref (ca (fo j))]) : va_E)) ∨ (¬ fq j = (-1) ∧ f (oa j) = (.inr (4, [.ref (ca (fo j)), .int (nI (fx j)), .int (nI (fy j)), .int (fq j)]) : va_E)))
/-- a list's row -/
def UL (cO : ClassId) (em : Nat) (L : List Nat) (f : Nat → va_E) (e n : Nat) (ad : Nat → Nat) : Prop :=
  (n = 0 ∧ e = em ∧ e ∉ L) ∨ ∃ (cap : Nat) (fr : Nat → Option Nat), e ∈ L ∧ f e = (.inl (cO, cap, .inr (.inr (.inr (.inr fr)))) : va_E) ∧ n ≤ cap ∧ 10 ≤ cap ∧ cap ≤ 800 ∧ ∀ i : Nat, i < n → fr i = some (ad i)
def SO (n : Nat) (ca aa : Nat → Nat) (f g : Nat → va_E) : Prop := ∀ a : Nat, (∀ j : Nat, j < n → a ≠ ca j ∧ a ≠ aa j) → g a = f a
section POOL
variable {D : va_G} {cl : List vw_C} {A : Nat → Prop} {X : va_W} {H : Heap} {cO : ClassId} {em e1 e2 k : Nat} {L : List Nat} {f g : Nat → va_E} {cJ : ClassId} {n : Nat} {ca aa oa fo : Nat → Nat} {fq : Nat → Int32} {fx fy : Nat → Nat} {fp fs fr : Nat → Int32} {ff fa : Nat → Nat} {fz : Nat → Int32} {fi fu : Nat → Int64}
theorem SO.rf : SO n ca aa f f := fun _ _ => rfl
theorem CI.ne (h : CI L f cJ n ca aa fp fs fr ff fa fz fi fu) {i j : Nat} (hi : i < n) (hj : j < n) : aa j ≠ ca i := by
  intro e
  obtain ⟨_, _, a1, _, _⟩ := h i hi
  obtain ⟨_, _, _, ⟨acc, a2, _⟩, _⟩ := h j hj
  rw [e, a1] at a2
  exact nomatch a2
theorem UL.some (h : UL cO em L f e1 n oa) (hn : 0 < n) : ∃ (cap : Nat) (fr : Nat → Option Nat), e1 ∈ L ∧ f e1 = (.inl (cO, cap, .inr (.inr (.inr (.inr fr)))) : va_E) ∧ n ≤ cap ∧ 10 ≤ cap ∧ cap ≤ 800 ∧ ∀ i : Nat, i < n → fr i = some (oa i) := by
  rcases h with ⟨h, _⟩ | h
  · omega
  · exact h
theorem UL.off (hc : CI L f cJ n ca aa fp fs fr ff fa fz fi fu) {cap : Nat} {fr9 : Nat → Option Nat} (h : f e1 = (.inl (cO, cap, .inr (.inr (.inr (.inr fr9)))) : va_E)) : ∀ j : Nat, j < n → e1 ≠ ca j ∧ e1 ≠ aa j := by
  intro j hj
  obtain ⟨_, _, a1, ⟨acc, a2, _⟩, _⟩ := hc j hj
  refine ⟨fun e => ?_, fun e => ?_⟩
  · rw [← e, h] at a1; exact nomatch a1
  · rw [← e, h] at a2
    injection a2 with a2
    injection a2 with _ a2
    injection a2 with _ a2
    injection a2 with a2
    exact nomatch a2
theorem UL.mv {m : Nat} {ad : Nat → Nat} (h : UL cO em L f e1 m ad) (hc : CI L f cJ n ca aa fp fs fr ff fa fz fi fu) (hs : SO n ca aa f g) : UL cO em L g e1 m ad := by
  rcases h with h | ⟨cap, fr9, h1, h2, h3⟩
  · exact .inl h
  · exact .inr ⟨cap, fr9, h1, (hs e1 (UL.off hc h2)).trans h2, h3⟩
theorem OI.off (h : OI L f k n oa ca fo fq fx fy) (hc : CI L f cJ n ca aa fp fs fr ff fa fz fi fu) {i : Nat} (hi : i < k) : ∀ j : Nat, j < n → oa i ≠ ca j ∧ oa i ≠ aa j := by
  intro j hj
  obtain ⟨_, _, a1, ⟨acc, a2, _⟩, _⟩ := hc j hj
  obtain ⟨_, _, h⟩ := h i hi
  refine ⟨fun e => ?_, fun e => ?_⟩
  · rcases h with ⟨_, h⟩ | ⟨_, h⟩
    · rw [e, a1] at h; injection h with h; injection h with h _; exact absurd h (by decide)
    · rw [e, a1] at h; injection h with h; injection h with h _; exact absurd h (by decide)
  · rcases h with ⟨_, h⟩ | ⟨_, h⟩
    · rw [e, a2] at h; exact nomatch h
    · rw [e, a2] at h; exact nomatch h
theorem OI.mv (h : OI L f k n oa ca fo fq fx fy) (hc : CI L f cJ n ca aa fp fs fr ff fa fz fi fu) (hs : SO n ca aa f g) : OI L g k n oa ca fo fq fx fy := by
  intro j hj
  obtain ⟨h1, h2, h3⟩ := h j hj
  refine ⟨h1, h2, ?_⟩
  rw [hs (oa j) (OI.off h hc hj)]
  exact h3
theorem CI.foc (h : CI L f cJ n ca aa fp fs fr ff fa fz fi fu) {i : Nat} (hi : i < n) (hP : va_P D cl (X ++ va_pl L f) H) (hD : va_D A (X ++ va_pl L f)) : ∃ (L' : List Nat) (acc : Nat → Int64), L.Perm ([ca i, aa i] ++ L') ∧ va_P D cl ((X ++ [(ca i, .inr (1, [.int (fp i), .int (fs i), .int (fr i), .int (nI (ff i)), .ref (aa i), .long (fi i), .int (nI (fa i)), .int (fz i)])), (aa i, .inl (cJ, 3, .inr (.inl acc)))]) ++ va_pl L' f) H ∧ va_D A ((X ++ [(ca i, .inr (1, [.int (fp i), .int (fs i), .int (fr i), .int (nI (ff i)), .ref (aa i), .long (fi i), .int (nI (fa i)), .int (fz i)])), (aa i, .inl (cJ, 3, .inr (.inl acc)))]) ++ va_pl L' f) ∧ f (aa i) = .inl (cJ, 3, .inr (.inl acc)) ∧ ∀ q : Nat, q < 3 → acc q = fu (3 * i + q) := by
  obtain ⟨h1, h2, h3, ⟨acc, h4, h5⟩, _⟩ := h i hi
  obtain ⟨L', hL⟩ := lp_p2 h1 h2 (h.ne hi hi)
  obtain ⟨hP, hD⟩ := lp_join hL hP hD
  refine ⟨L', acc, hL, ?_, ?_, h4, h5⟩
  · rw [List.map_cons, List.map_cons, h3, h4] at hP; exact hP
  · rw [List.map_cons, List.map_cons, h3, h4] at hD; exact hD
theorem lp_un2 {L' : List Nat} {a b : Nat} {e1 e2 : va_E} (hab : b ≠ a) (hL : L.Perm ([a, b] ++ L')) (hn : L.Nodup) (hP : va_P D cl ((X ++ [(a, e1), (b, e2)]) ++ va_pl L' f) H) (hD : va_D A ((X ++ [(a, e1), (b, e2)]) ++ va_pl L' f)) : va_P D cl (X ++ va_pl L (va_up (va_up f b e2) a e1)) H ∧ va_D A (X ++ va_pl L (va_up (va_up f b e2) a e1)) := by
  have hn2 := hL.nodup_iff.mp hn
  have hx : ∀ x ∈ L', x ≠ a ∧ x ≠ b := fun x hx => ⟨fun e => (List.nodup_append.mp hn2).2.2 a (by simp) x hx e.symm, fun e => (List.nodup_append.mp hn2).2.2 b (by simp) x hx e.symm⟩
  refine lp_split (As := [a, b]) (g := f) hL (fun x hx2 => by rw [up_ne (hx x hx2).1, up_ne (hx x hx2).2]) ?_ ?_
  · rw [List.map_cons, List.map_cons, up_same, up_ne hab, up_same]; exact hP
  · rw [List.map_cons, List.map_cons, up_same, up_ne hab, up_same]; exact hD
theorem lp_un3 {L' : List Nat} {o a b : Nat} {e1 e2 : va_E} {e0 : va_E} (hab : b ≠ a) (hoa : o ≠ a) (hob : o ≠ b) (ho : f o = e0) (hL : L.Perm ([o, a, b] ++ L')) (hn : L.Nodup) (hP : va_P D cl ((X ++ [(o, e0), (a, e1), (b, e2)]) ++ va_pl L' f) H) (hD : va_D A ((X ++ [(o, e0), (a, e1), (b, e2)]) ++ va_pl L' f)) : va_P D cl (X ++ va_pl L (va_up (va_up f b e2) a e1)) H ∧ va_D A (X ++ va_pl L (va_up (va_up f b e2) a e1)) := by
  have hn2 := hL.nodup_iff.mp hn
  have hx : ∀ x ∈ L', x ≠ a ∧ x ≠ b := fun x hx => ⟨fun e => (List.nodup_append.mp hn2).2.2 a (by simp) x hx e.symm, fun e => (List.nodup_append.mp hn2).2.2 b (by simp) x hx e.symm⟩
  refine lp_split (As := [o, a, b]) (g := f) hL (fun x hx2 => by rw [up_ne (hx x hx2).1, up_ne (hx x hx2).2]) ?_ ?_
  · rw [List.map_cons, List.map_cons, List.map_cons, up_ne hoa, up_ne hob, ho, up_same, up_ne hab, up_same]; exact hP
  · rw [List.map_cons, List.map_cons, List.map_cons, up_ne hoa, up_ne hob, ho, up_same, up_ne hab, up_same]; exact hD
theorem lp_un1 {L' : List Nat} {a : Nat} {e : va_E} (hL : L.Perm ([a] ++ L')) (hn : L.Nodup) (hP : va_P D cl ((X ++ [(a, e)]) ++ va_pl L' f) H) (hD : va_D A ((X ++ [(a, e)]) ++ va_pl L' f)) : va_P D cl (X ++ va_pl L (va_up f a e)) H ∧ va_D A (X ++ va_pl L (va_up f a e)) := by
  have hn2 := hL.nodup_iff.mp hn
  have hx : ∀ x ∈ L', x ≠ a := fun x hx e => (List.nodup_append.mp hn2).2.2 a (by simp) x hx e.symm
  refine lp_split (As := [a]) (g := f) hL (fun x hx2 => up_ne (hx x hx2)) ?_ ?_
  · rw [List.map_cons, up_same]; exact hP
  · rw [List.map_cons, up_same]; exact hD
theorem CI.upd (h : CI L f cJ n ca aa fp fs fr ff fa fz fi fu) {i : Nat} (hi : i < n) {fa2 : Nat → Nat} {fz2 : Nat → Int32} {fi2 fu2 : Nat → Int64} {ini : Int64} {np : Nat} {al : Int32} {acc : Nat → Int64} (ho : ∀ j : Nat, j ≠ i → fi2 j = fi j ∧ fz2 j = fz j ∧ fa2 j = fa j ∧ ∀ q : Nat, q < 3 → fu2 (3 * j + q) = fu (3 * j + q)) (h1 : fi2 i = ini) (h2 : fz2 i = al) (h3 : fa2 i = np) (h4 : ∀ q : Nat, q < 3 → fu2 (3 * i + q) = acc q) :
    CI L (va_up (va_up f (aa i) (.inl (cJ, 3, .inr (.inl acc)))) (ca i) (.inr (1, [.int (fp i), .int (fs i), .int (fr i), .int (nI (ff i)), .ref (aa i), .long ini, .int (nI np), .int al]))) cJ n ca aa fp fs fr ff fa2 fz2 fi2 fu2 ∧ SO n ca aa f (va_up (va_up f (aa i) (.inl (cJ, 3, .inr (.inl acc)))) (ca i) (.inr (1, [.int (fp i), .int (fs i), .int (fr i), .int (nI (ff i)), .ref (aa i), .long ini, .int (nI np), .int al]))) := by
  refine ⟨fun j hj => ?_, fun a ha => ?_⟩
  · obtain ⟨a1, a2, a3, ⟨ac2, a4, a5⟩, a6⟩ := h j hj
    refine ⟨a1, a2, ?_, ?_, a6⟩
    · by_cases e : j = i
      · subst e
        rw [up_same, h1, h2, h3]
      · rw [up_ne (fun q => e ((h i hi).2.2.2.2 j hj |>.1 q)), up_ne (fun q => h.ne hj hi q.symm), a3, (ho j e).1, (ho j e).2.1, (ho j e).2.2.1]
    · by_cases e : j = i
      · subst e
        exact ⟨acc, by rw [up_ne (h.ne hj hj), up_same], fun q hq => (h4 q hq).symm⟩
      · exact ⟨ac2, by rw [up_ne (h.ne hi hj), up_ne (fun q => e ((h i hi).2.2.2.2 j hj |>.2 q)), a4], fun q hq => (a5 q hq).trans ((ho j e).2.2.2 q hq).symm⟩
  · rw [up_ne (ha i hi).1, up_ne (ha i hi).2]
theorem SO.tr {h : Nat → va_E} (h1 : SO n ca aa f g) (h2 : SO n ca aa g h) : SO n ca aa f h := fun a ha => (h2 a ha).trans (h1 a ha)
end POOL
theorem nar_z {z : Int32} (h : z = nI 0 ∨ z = nI 1) : narrow .boolean (.int z) = .int z := by
  rcases h with rfl | rfl <;> rfl
theorem q_mo_n {t i : Nat} {fb fs fr : Nat → Int32} {ff : Nat → Nat} {x : MS} {fi fu : Nat → Int64} {fz : Nat → Int32} {ch ch2 : Int64} {ct ct2 : Nat} (h : (fi, fu, fz, ch, ct) = q_mo t fb fs fr ff x i) (e1 : (q_step t fb fs fr ff i fi fu fz ch ct).2.2.2.1 = ch2) (e2 : (q_step t fb fs fr ff i fi fu fz ch ct).2.2.2.2 = ct2) : ((q_step t fb fs fr ff i fi fu fz ch ct).1, (q_step t fb fs fr ff i fi fu fz ch ct).2.1, (q_step t fb fs fr ff i fi fu fz ch ct).2.2.1, ch2, ct2) = q_mo t fb fs fr ff x (i + 1) := by
  rw [q_mo_s h, ← e1, ← e2]
theorem q_step_dead {t i : Nat} {fb fs fr : Nat → Int32} {ff : Nat → Nat} {fi fu : Nat → Int64} {fz : Nat → Int32} {ch : Int64} {ct : Nat} (h : fz i = 0) : q_step t fb fs fr ff i fi fu fz ch ct = (fi, fu, fz, ch, ct) := by
  unfold q_step
  rw [if_pos h]
