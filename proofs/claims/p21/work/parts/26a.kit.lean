/-! THE LAW'S KIT: pools moved, the script, what grows (from whole) -/
section ZCAT
variable {p : Program} {l : Launch} {e : Env} {R : Room} {s : State} {m : MethodId} {args : Array Value} {below : List Frame} {meth : Method} {c : Code} {H H0 : Heap} {locs : List Loc} {cells slots mc ms mc1 ms1 : Nat} {pc : Nat} {ls : Array Slot} {rest : List Value} {Q : State → Prop} {D : va_G} {wd pl : va_W} {A : Nat → Prop} {free : Addr → Prop}
theorem zcalliQ {S0 : List Value} {wc wr w1 : va_W} {tysc : List (ClassId × FieldType)} {ar : Array Value} {v : Int32} (hr : va_Run p l e R s m args below meth c H locs cells slots mc ms (F0 m pc ls S0) rest (va_Qi (fun (r : Int32) (_ : Unit) => r = v) (zB D tysc w1 (va_A wc H.size)) (va_A wc H.size) ar) (va_A wc H.size)) (hP : va_P D vwCl (wd ++ pl) H) (hD : va_D A (wd ++ pl)) (hS : va_S A H0 H locs) (hF : ∀ q, va_A wc H.size q → A q)
    (isC isR : List Nat) (hC : isC.map (fun i => wd[i]?) = wc.map some) (hR : isR.map (fun i => wd[i]?) = wr.map some) (hn : va_nd isR = true) (hdis : ∀ i ∈ isR, i ∉ isC)
    (kk : ∀ (H1 : Heap) (locs1 : List Loc), va_P D vwCl ((wr ++ w1) ++ pl) H1 → va_D A ((wr ++ w1) ++ pl) → va_S A H0 H1 locs1 → W p l e R s m args below meth c H1 locs1 (cells + mc) (slots + ms) Q (F0 m (pc + 3) ls (.int v :: rest))) : W p l e R s m args below meth c H locs cells slots Q (F0 m pc ls S0) := by
  refine va_calli hr hS (fun q _ h => hF q h) hF (fun r u t H1 locs1 ht hvm hw hB hz1 hk1 hS1 => ?_)
  obtain ⟨hP1, hK1, hD1⟩ := hB
  rw [ht] at hP1
  obtain ⟨hP2, hD2⟩ := va_joinQ (wr := wr) (w1 := w1) hP hD isC isR hC hR hn hdis hk1 hF hP1 hD1
  rw [hw]
  exact kk H1 locs1 hP2 hD2 hS1
/-- a call that has the whole front of the world -/
theorem lp_front {w1 C9 R9 : va_W} {H1 : Heap} (hP : va_P D vwCl (C9 ++ R9) H) (hD : va_D A (C9 ++ R9)) (hF : ∀ q, va_A C9 H.size q → A q) (hk : ∀ q : Nat, q < H.size → ¬ va_A C9 H.size q → H1[q]? = H[q]?) (hP1 : va_P D vwCl w1 H1) (hD1 : va_D (va_A C9 H.size) w1) : va_P D vwCl (w1 ++ R9) H1 ∧ va_D A (w1 ++ R9) := by
  have hn := (lp_Dn.mp hD).1
  rw [List.map_append] at hn
  have hd := (List.nodup_append.mp hn).2.2
  have hout : ∀ q ∈ R9, q.1 < H.size ∧ ¬ va_A C9 H.size q.1 := by
    intro q hq
    obtain ⟨k, hk9⟩ := List.mem_iff_getElem?.mp (List.mem_append_right C9 hq)
    have hlt := vx_lt hP hk9
    refine ⟨hlt, fun h => ?_⟩
    rcases h with ⟨j, e9, hj⟩ | h
    · exact hd q.1 (List.mem_map.mpr ⟨(q.1, e9), List.mem_of_getElem? hj, rfl⟩) q.1 (List.mem_map.mpr ⟨q, hq, rfl⟩) rfl
    · omega
  refine ⟨va_P.app hP1 (fun k q hk9 => ?_), lp_Dn.mpr ⟨?_, ?_⟩⟩
  · have hq : q ∈ R9 := List.mem_of_getElem? hk9
    obtain ⟨j, hj⟩ := List.mem_iff_getElem?.mp (List.mem_append_right C9 hq)
    exact (hP j q hj).kept (hk q.1 (hout q hq).1 (hout q hq).2)
  · rw [List.map_append]
    refine List.nodup_append.mpr ⟨(lp_Dn.mp hD1).1, (List.nodup_append.mp hn).2.1, fun a ha b hb e => ?_⟩
    obtain ⟨q, hq, rfl⟩ := List.mem_map.mp ha
    obtain ⟨q2, hq2, rfl⟩ := List.mem_map.mp hb
    rw [← e] at hb
    exact (hout q2 hq2).2 (e ▸ (lp_Dn.mp hD1).2 q hq)
  · intro q hq
    rcases List.mem_append.mp hq with h | h
    · exact hF _ ((lp_Dn.mp hD1).2 q h)
    · exact (lp_Dn.mp hD).2 q (List.mem_append_right _ h)
end ZCAT
theorem lp_F2 {A : Nat → Prop} {C9 R9 : va_W} {H0 H : Heap} {locs : List Loc} (hD : va_D A (C9 ++ R9)) (hS : va_S A H0 H locs) (hA : ∀ q : Nat, H0.size ≤ q → A q) : ∀ q, va_A C9 H.size q → A q := by
  intro q h
  rcases h with ⟨k, e, hk⟩ | h
  · exact (lp_Dn.mp hD).2 (q, e) (List.mem_append_left _ (List.mem_of_getElem? hk))
  · exact hA q (Nat.le_trans hS.1 h)
theorem lp_Dl {A : Nat → Prop} {C9 R9 : va_W} (hD : va_D A (C9 ++ R9)) : va_D A C9 := by
  rw [lp_Dn] at hD ⊢
  rw [List.map_append] at hD
  exact ⟨(List.nodup_append.mp hD.1).1, fun q hq => hD.2 q (List.mem_append_left _ hq)⟩
theorem lp_Pl {D : va_G} {cl : List vw_C} {C9 R9 : va_W} {H : Heap} (hP : va_P D cl (C9 ++ R9) H) : va_P D cl C9 H := lp_P hP (fun _ hq => List.mem_append_left _ hq)
/-! THE LAW: its script's ints -/
theorem zx_sld {p : Program} {l : Launch} {e : Env} {R : Room} {s : State} {m : MethodId} {args : Array Value} {below : List Frame} {meth : Method} {c : Code} {H H0 : Heap} {locs : List Loc} {cells slots : Nat} {pc : Nat} {ls : Array Slot} {rest : List Value} {Q : State → Prop} {A : Nat → Prop} {cc : ByteArray} (hx : p.tables.exec = Jvm.exec) (hb : c.code = cc) {b L : Nat} {xs : Nat → Int32} (hX : va_X b L xs s H0) (hbl : b < H0.size) (hbA : ¬ A b) (hS : va_S A H0 H locs) {i : Nat} (hi : i < L) (hL : L < 2 ^ 31) {v : Int32} (hv : xs i = v) (hdg : decode cc pc = .ok (.iaload, 1))
    (kk : W p l e R s m args below meth c H locs cells slots Q (F0 m (pc + 1) ls (.int v :: rest))) : W p l e R s m args below meth c H locs cells slots Q (F0 m pc ls (.int (nI i) :: .ref b :: rest)) :=
  va_sld hx hb hX hbl hbA hS (vp_in_nI hi hL) hdg (by rw [nI_clamp (Nat.lt_trans hi hL), hv]; exact kk)
/-! THE LAW'S INVARIANT: pools moved, numbers read, days -/
theorem lp_fun (f : Nat → va_E) : ∀ As : va_W, (As.map (·.1)).Nodup → ∃ g : Nat → va_E, (∀ q ∈ As, g q.1 = q.2) ∧ ∀ a : Nat, (∀ q ∈ As, q.1 ≠ a) → g a = f a := by
  intro As
  induction As with
  | nil => exact fun _ => ⟨f, fun q hq => absurd hq List.not_mem_nil, fun _ _ => rfl⟩
  | cons r As ih =>
    intro hn
    rw [List.map_cons, List.nodup_cons] at hn
    obtain ⟨g, h1, h2⟩ := ih hn.2
    refine ⟨va_up g r.1 r.2, fun q hq => ?_, fun a ha => ?_⟩
    · rcases List.mem_cons.mp hq with rfl | hq
      · exact up_same
      · exact (up_ne (fun e9 => hn.1 (List.mem_map.mpr ⟨q, hq, e9⟩))).trans (h1 q hq)
    · exact (up_ne (fun e9 => ha r List.mem_cons_self e9.symm)).trans (h2 a (fun q hq => ha q (List.mem_cons_of_mem _ hq)))
theorem lp_put {D : va_G} {cl : List vw_C} {A : Nat → Prop} {X As : va_W} {L' : List Nat} {f : Nat → va_E} {H : Heap} (hP : va_P D cl ((X ++ As) ++ va_pl L' f) H) (hD : va_D A ((X ++ As) ++ va_pl L' f)) : ∃ g : Nat → va_E, va_P D cl (X ++ va_pl (As.map (·.1) ++ L') g) H ∧ va_D A (X ++ va_pl (As.map (·.1) ++ L') g) ∧ (∀ q ∈ As, g q.1 = q.2) ∧ (∀ a ∈ L', g a = f a) ∧ (∀ q ∈ As, q.1 ∉ L') ∧ (As.map (·.1)).Nodup := by
  have hn := (lp_Dn.mp hD).1
  rw [List.map_append, List.map_append] at hn
  have hn1 := List.nodup_append.mp hn
  have hnA := (List.nodup_append.mp hn1.1).2.1
  have hdis : ∀ a ∈ L', ∀ q ∈ As, q.1 ≠ a := fun a ha q hq e9 => hn1.2.2 q.1 (List.mem_append_right _ (List.mem_map.mpr ⟨q, hq, rfl⟩)) a (List.mem_map.mpr ⟨(a, f a), List.mem_map.mpr ⟨a, ha, rfl⟩, rfl⟩) e9
  obtain ⟨g, hg1, hg2⟩ := lp_fun f As hnA
  have e1 : (X ++ As) ++ va_pl L' f = X ++ va_pl (As.map (·.1) ++ L') g := by
    unfold va_pl
    rw [List.map_append, List.append_assoc, List.map_map]
    congr 2
    · refine (List.map_id As).symm.trans (List.map_congr_left (fun q hq => ?_))
      show q = (q.1, g q.1)
      rw [hg1 q hq]
    · exact List.map_congr_left (fun a ha => by rw [hg2 a (hdis a ha)])
  rw [e1] at hP hD
  exact ⟨g, hP, hD, hg1, fun a ha => hg2 a (hdis a ha), fun q hq hl => hdis q.1 hl q hq rfl, hnA⟩
theorem lp_pn : ∀ (As : List Nat) {L : List Nat}, As.Nodup → (∀ a ∈ As, a ∈ L) → ∃ L' : List Nat, L.Perm (As ++ L') := by
  intro As
  induction As with
  | nil => exact fun {L} _ _ => ⟨L, List.Perm.refl _⟩
  | cons a As ih =>
    intro L hn hm
    rw [List.nodup_cons] at hn
    obtain ⟨L', hL⟩ := ih (L := L.erase a) hn.2 (fun x hx => (List.mem_erase_of_ne (fun (e9 : x = a) => hn.1 (e9 ▸ hx))).mpr (hm x (List.mem_cons_of_mem _ hx)))
    exact ⟨L', (List.perm_cons_erase (hm a List.mem_cons_self)).trans (hL.cons a)⟩
theorem em_off {A : Nat → Prop} {em : Nat} {s : State} {H : Heap} {X : va_W} {L : List Nat} {f : Nat → va_E} (hH : HS A em s H) (hD : va_D A (X ++ va_pl L f)) : em ∉ L := by
  intro h
  obtain ⟨_, _, _, _, _, _, _, h9⟩ := hH.2.1
  exact h9 ((lp_Dn.mp hD).2 (em, f em) (List.mem_append_right _ (List.mem_map.mpr ⟨em, h, rfl⟩)))
section LTR
variable {cO : ClassId} {em e1 k k2 n n2 : Nat} {L L2 : List Nat} {f g : Nat → va_E} {cJ : ClassId} {ca aa oa fo ca2 : Nat → Nat} {fq : Nat → Int32} {fx fy : Nat → Nat} {fp fs fr : Nat → Int32} {ff fa fa2 : Nat → Nat} {fz fz2 : Nat → Int32} {fi fu fi2 fu2 : Nat → Int64}
theorem CI.tr (h : CI L f cJ n ca aa fp fs fr ff fa fz fi fu) (hm : ∀ j : Nat, j < n → (ca j ∈ L2 ∧ g (ca j) = f (ca j)) ∧ (aa j ∈ L2 ∧ g (aa j) = f (aa j))) : CI L2 g cJ n ca aa fp fs fr ff fa fz fi fu := by
  intro j hj
  obtain ⟨_, _, a3, ⟨acc, a4, a5⟩, a6⟩ := h j hj
  obtain ⟨⟨b1, b2⟩, b3, b4⟩ := hm j hj
  exact ⟨b1, b3, b2.trans a3, ⟨acc, b4.trans a4, a5⟩, a6⟩
theorem CI.trL (h : CI L f cJ n ca aa fp fs fr ff fa fz fi fu) (hm : ∀ a ∈ L, a ∈ L2 ∧ g a = f a) : CI L2 g cJ n ca aa fp fs fr ff fa fz fi fu := h.tr (fun j hj => ⟨hm _ (h j hj).1, hm _ (h j hj).2.1⟩)
theorem OI.tr (h : OI L f k n oa ca fo fq fx fy) (hm : ∀ j : Nat, j < k → oa j ∈ L2 ∧ g (oa j) = f (oa j)) (hn : n ≤ n2) (hc : ∀ j : Nat, j < n → ca2 j = ca j) : OI L2 g k n2 oa ca2 fo fq fx fy := by
  intro j hj
  obtain ⟨_, h2, h3⟩ := h j hj
  obtain ⟨b1, b2⟩ := hm j hj
  rw [b2, hc _ h2]
  exact ⟨b1, Nat.lt_of_lt_of_le h2 hn, h3⟩
theorem OI.trL (h : OI L f k n oa ca fo fq fx fy) (hm : ∀ a ∈ L, a ∈ L2 ∧ g a = f a) : OI L2 g k n oa ca fo fq fx fy := h.tr (fun j hj => hm _ (h j hj).1) (Nat.le_refl _) (fun _ _ => rfl)
theorem UL.tr {ad : Nat → Nat} (h : UL cO em L f e1 n ad) (hem : em ∉ L2) (hm : e1 ∈ L → e1 ∈ L2 ∧ g e1 = f e1) : UL cO em L2 g e1 n ad := by
  rcases h with ⟨h1, h2, h3⟩ | ⟨cap, fr9, h1, h2, h3⟩
  · exact .inl ⟨h1, h2, h2 ▸ hem⟩
  · exact .inr ⟨cap, fr9, (hm h1).1, (hm h1).2.trans h2, h3⟩
theorem CI.put (h : CI L f cJ n ca aa fp fs fr ff fa fz fi fu) {i : Nat} {acc : Nat → Int64} (hi : i < n) (hm : ∀ j : Nat, j < n → ca j ∈ L2 ∧ aa j ∈ L2 ∧ (j ≠ i → g (ca j) = f (ca j) ∧ g (aa j) = f (aa j))) (ho : ∀ j : Nat, j ≠ i → fi2 j = fi j ∧ fz2 j = fz j ∧ fa2 j = fa j ∧ ∀ q : Nat, q < 3 → fu2 (3 * j + q) = fu (3 * j + q))
    (hc : g (ca i) = (.inr (1, [.int (fp i), .int (fs i), .int (fr i), .int (nI (ff i)), .ref (aa i), .long (fi2 i), .int (nI (fa2 i)), .int (fz2 i)]) : va_E)) (hac : g (aa i) = (.inl (cJ, 3, .inr (.inl acc)) : va_E)) (h4 : ∀ q : Nat, q < 3 → acc q = fu2 (3 * i + q)) : CI L2 g cJ n ca aa fp fs fr ff fa2 fz2 fi2 fu2 := by
  intro j hj
  obtain ⟨_, _, a3, ⟨ac2, a4, a5⟩, a6⟩ := h j hj
  obtain ⟨b1, b2, b3⟩ := hm j hj
  by_cases e9 : j = i
  · subst e9
    exact ⟨b1, b2, hc, ⟨acc, hac, h4⟩, a6⟩
  · obtain ⟨c1, c2, c3, c4⟩ := ho j e9
    refine ⟨b1, b2, ?_, ⟨ac2, (b3 e9).2.trans a4, fun q hq => (a5 q hq).trans (c4 q hq).symm⟩, a6⟩
    rw [(b3 e9).1, a3, c1, c2, c3]
theorem CI_push (h : CI L f cJ n ca aa fp fs fr ff fa fz fi fu) {co ac : Nat} {p s9 r9 : Int32} {q9 : Nat} {acc : Nat → Int64} (hm : ∀ a ∈ L, (a ≠ e1) → a ∈ L2 ∧ g a = f a) (h1 : ∀ j : Nat, j < n → e1 ≠ ca j ∧ e1 ≠ aa j) (hco : co ∈ L2) (hac : ac ∈ L2) (hnc : co ∉ L) (hna : ac ∉ L)
    (hgc : g co = (.inr (1, [.int p, .int s9, .int r9, .int (nI q9), .ref ac, .long 0, .int (nI 0), .int (nI 1)]) : va_E)) (hga : g ac = (.inl (cJ, 3, .inr (.inl acc)) : va_E)) (h0 : ∀ q : Nat, q < 3 → acc q = 0) (hz : fi n = 0 ∧ fa n = 0 ∧ ∀ q : Nat, q < 3 → fu (3 * n + q) = 0) : CI L2 g cJ (n + 1) (va_up ca n co) (va_up aa n ac) (upd fp n p) (upd fs n s9) (upd fr n r9) (va_up ff n q9) fa (upd fz n (nI 1)) fi fu := by
  intro j hj
  by_cases e9 : j = n
  · subst e9
    rw [up_same, up_same, up_same, upd_same, upd_same, upd_same, upd_same, hz.1, hz.2.1]
    refine ⟨hco, hac, hgc, ⟨acc, hga, fun q hq => (h0 q hq).trans (hz.2.2 q hq).symm⟩, fun i hi => ?_⟩
    by_cases e8 : i = j
    · exact ⟨fun _ => e8, fun _ => e8⟩
    · rw [up_ne e8, up_ne e8]
      have hi2 : i < j := by omega
      exact ⟨fun q => absurd (q ▸ (h i hi2).1) hnc, fun q => absurd (q ▸ (h i hi2).2.1) hna⟩
  · have hj2 : j < n := by omega
    obtain ⟨a1, a2, a3, ⟨ac2, a4, a5⟩, a6⟩ := h j hj2
    rw [up_ne e9, up_ne e9, up_ne e9, upd_ne e9, upd_ne e9, upd_ne e9, upd_ne e9]
    have b1 := hm _ a1 (fun q => (h1 j hj2).1 q.symm)
    have b2 := hm _ a2 (fun q => (h1 j hj2).2 q.symm)
    refine ⟨b1.1, b2.1, b1.2.trans a3, ⟨ac2, b2.2.trans a4, a5⟩, fun i hi => ?_⟩
    by_cases e8 : i = n
    · subst e8
      rw [up_same, up_same]
      exact ⟨fun q => absurd (q.symm ▸ a1) hnc, fun q => absurd (q.symm ▸ a2) hna⟩
    · rw [up_ne e8, up_ne e8]
      exact a6 i (by omega)
theorem UL_push {ad : Nat → Nat} {v cap : Nat} {fl fl2 : Nat → Option Nat} (hl : e1 ∈ L2) (hg : g e1 = (.inl (cO, cap, .inr (.inr (.inr (.inr fl2)))) : va_E)) (h1 : n + 1 ≤ cap) (h2 : 10 ≤ cap) (h3 : cap ≤ 800) (hf : ∀ i : Nat, i < n → fl2 i = some (ad i)) (hv : fl2 n = some v) : UL cO em L2 g e1 (n + 1) (va_up ad n v) := by
  refine .inr ⟨cap, fl2, hl, hg, h1, h2, h3, fun i hi => ?_⟩
  by_cases e9 : i = n
  · subst e9; rw [up_same]; exact hv
  · rw [up_ne e9]; exact hf i (by omega)
theorem OI_push (h : OI L f k n oa ca fo fq fx fy) {od kc x9 y9 : Nat} {v : Int32} (hm : ∀ j : Nat, j < k → oa j ∈ L2 ∧ g (oa j) = f (oa j)) (hod : od ∈ L2) (hkc : kc < n) (hg : (v = (-1) ∧ g od = (.inr (2, [.ref (ca kc)]) : va_E)) ∨ (¬ v = (-1) ∧ g od = (.inr (4, [.ref (ca kc), .int (nI x9), .int (nI y9), .int v]) : va_E))) : OI L2 g (k + 1) n (va_up oa k od) ca (va_up fo k kc) (upd fq k v) (va_up fx k x9) (va_up fy k y9) := by
  intro j hj
  by_cases e9 : j = k
  · subst e9
    rw [up_same, up_same, up_same, up_same, upd_same]
    exact ⟨hod, hkc, hg⟩
  · obtain ⟨_, h2, h3⟩ := h j (by omega)
    obtain ⟨b1, b2⟩ := hm j (by omega)
    rw [up_ne e9, up_ne e9, up_ne e9, up_ne e9, upd_ne e9, b2]
    exact ⟨b1, h2, h3⟩
theorem OI.ne1 (h : OI L f k n oa ca fo fq fx fy) {cap : Nat} {fr9 : Nat → Option Nat} (he : f e1 = (.inl (cO, cap, .inr (.inr (.inr (.inr fr9)))) : va_E)) {j : Nat} (hj : j < k) : oa j ≠ e1 := by
  intro q
  obtain ⟨_, _, h3⟩ := h j hj
  rw [q, he] at h3
  rcases h3 with ⟨_, h3⟩ | ⟨_, h3⟩ <;> exact nomatch h3
end LTR
/-! numbers of the script -/
theorem k_in01 (x lo hi : Int32) : k_isIn x lo hi = nI 0 ∨ k_isIn x lo hi = nI 1 := by
  unfold k_isIn
  split
  · exact .inl rfl
  · split
    · exact .inl rfl
    · exact .inr rfl
theorem k_fundIn (x : Int32) : k_isFund x = k_isIn x (nI 0) (nI 2) := by
  unfold k_isFund k_isIn
  rw [show nI 0 = (0 : Int32) from rfl]
  by_cases h : x < 0
  · rw [if_pos h, if_pos h]
  · rw [if_neg h, if_neg h]
    obtain ⟨j, hj, rfl⟩ := nI_of h
    by_cases q : 3 ≤ j
    · rw [if_pos ((nI_leI (by decide) hj).mpr q), if_pos ((nI_ltI (by decide) hj).mpr (by omega))]
    · rw [if_neg (fun h9 => q ((nI_leI (by decide) hj).mp h9)), if_neg (fun h9 => q (by have := (nI_ltI (by decide) hj).mp h9; omega))]
theorem k_inN {x : Int32} {a b : Nat} (hb : b < 2 ^ 31) (hab : a ≤ b) (h : k_isIn x (nI a) (nI b) = nI 1) : ∃ q : Nat, a ≤ q ∧ q ≤ b ∧ x = nI q := by
  obtain ⟨h1, h2⟩ := k_isIn_1 h
  have h3 : ¬ x < 0 := fun q => h1 (Int32.lt_of_lt_of_le q (nI_pos' (by omega)))
  obtain ⟨j, hj, rfl⟩ := nI_of h3
  refine ⟨j, ?_, ?_, rfl⟩
  · rcases Nat.lt_or_ge j a with q | q
    · exact absurd ((nI_ltI hj (by omega)).mpr q) h1
    · exact q
  · rcases Nat.lt_or_ge b j with q | q
    · exact absurd ((nI_ltI hb hj).mpr q) h2
    · exact q
theorem k_inC {x : Int32} {a b : Nat} (hb : b < 2 ^ 31) (hab : a ≤ b) : k_isIn x (nI a) (nI b) = nI 0 ∨ ∃ q : Nat, a ≤ q ∧ q ≤ b ∧ x = nI q := by
  rcases k_in01 x (nI a) (nI b) with h | h
  · exact .inl h
  · exact .inr (k_inN hb hab h)
theorem k_cn {x : Int32} {n : Nat} (hn : n ≤ 10) : k_isIn x (nI 0) (nI n - nI 1) = nI 0 ∨ ∃ kc : Nat, kc < n ∧ x = nI kc := by
  by_cases h : x < 0
  · exact .inl (k_isC0 hn (.inl h))
  · obtain ⟨j, hj, rfl⟩ := nI_of h
    rcases Nat.lt_or_ge j n with q | q
    · exact .inr ⟨j, q, rfl⟩
    · exact .inl (k_isC0 hn (.inr (nI_le q hj)))
theorem k_fund {x : Int32} : (k_isFund x = nI 0 ∧ k_isIn x (nI 0) (nI 2) = nI 0) ∨ ∃ q : Nat, q < 3 ∧ x = nI q := by
  rcases k_inC (x := x) (a := 0) (b := 2) (by decide) (by decide) with h | ⟨q, _, h2, h3⟩
  · exact .inl ⟨(k_fundIn x).trans h, h⟩
  · exact .inr ⟨q, by omega, h3⟩
theorem k_pct {x : Int32} (h : k_isIn x (nI 1) (nI 100) = nI 1) : ¬ x = (-1) := by
  obtain ⟨q, _, h2, rfl⟩ := k_inN (by decide) (by decide) h
  intro e9
  have h1 := nI_pos (n := q) (by omega)
  rw [e9] at h1
  exact h1 (by decide)
/-! what a day leaves as it was -/
section LDAY
variable {t n k : Nat} {fb fp fs fr : Nat → Int32} {ff fo : Nat → Nat} {fq : Nat → Int32} {fx fy : Nat → Nat} {fi fu : Nat → Int64} {fa : Nat → Nat} {fz : Nat → Int32} {ch : Int64} {ct : Nat}
theorem q_ord_out (hfo : fo k < n) (hff : ff (fo k) < 3) (hx : fx k < 3) (hy : fy k < 3) {j : Nat} (hj : n ≤ j) : (q_ord t fb fp ff fo fq fx fy k fi fu fa).1 j = fi j ∧ (q_ord t fb fp ff fo fq fx fy k fi fu fa).2.2 j = fa j ∧ ∀ q : Nat, q < 3 → (q_ord t fb fp ff fo fq fx fy k fi fu fa).2.1 (3 * j + q) = fu (3 * j + q) := by
  unfold q_ord
  by_cases h : fq k = (-1)
  · rw [if_pos h]
    refine ⟨?_, up_ne (by omega), fun q hq => ?_⟩
    · show (if _ then vp_updL fi _ _ else fi) j = fi j
      split
      · exact updL_ne (by omega)
      · rfl
    · show (if _ then fu else vp_updL fu _ _) (3 * j + q) = _
      split
      · rfl
      · exact updL_ne (by omega)
  · rw [if_neg h]
    refine ⟨rfl, rfl, fun q hq => ?_⟩
    show q_switch fu (fo k) (fx k) (fy k) (fq k) _ _ (3 * j + q) = _
    unfold q_switch
    rw [updL_ne (by omega), updL_ne (by omega)]
theorem q_go_out {x : OS} : ∀ i : Nat, (∀ o : Nat, o < i → fo o < n ∧ ff (fo o) < 3 ∧ fx o < 3 ∧ fy o < 3) → ∀ j : Nat, n ≤ j → (q_go t fb fp ff fo fq fx fy x i).1 j = x.1 j ∧ (q_go t fb fp ff fo fq fx fy x i).2.2 j = x.2.2 j ∧ ∀ q : Nat, q < 3 → (q_go t fb fp ff fo fq fx fy x i).2.1 (3 * j + q) = x.2.1 (3 * j + q) := by
  intro i
  induction i with
  | zero => exact fun _ j _ => ⟨rfl, rfl, fun _ _ => rfl⟩
  | succ i ih =>
    intro h j hj
    obtain ⟨a1, a2, a3⟩ := ih (fun o ho => h o (by omega)) j hj
    obtain ⟨h1, h2, h3, h4⟩ := h i (by omega)
    obtain ⟨b1, b2, b3⟩ := q_ord_out (t := t) (fb := fb) (fp := fp) (fq := fq) (fi := (q_go t fb fp ff fo fq fx fy x i).1) (fu := (q_go t fb fp ff fo fq fx fy x i).2.1) (fa := (q_go t fb fp ff fo fq fx fy x i).2.2) h1 h2 h3 h4 hj
    exact ⟨b1.trans a1, b2.trans a2, fun q hq => (b3 q hq).trans (a3 q hq)⟩
theorem q_chg_out {kc j : Nat} (hj : j ≠ kc) : (q_chg t fb fs fr ff kc fi fu fz ch ct).1 j = fi j ∧ ∀ q : Nat, q < 3 → (q_chg t fb fs fr ff kc fi fu fz ch ct).2.1 (3 * j + q) = fu (3 * j + q) := by
  have h1 : ∀ q : Nat, q < 3 → q_un t fb fs fr ff fi fu kc (3 * j + q) = fu (3 * j + q) := fun q hq => k_un_ne hq hj
  unfold q_chg
  split
  · exact ⟨rfl, h1⟩
  · exact ⟨updL_ne hj, fun q hq => (q_zero_ne hq hj).trans (h1 q hq)⟩
theorem q_step_out {kc j : Nat} (hf : ff kc < 3) (hj : kc < j) : (q_step t fb fs fr ff kc fi fu fz ch ct).1 j = fi j ∧ ∀ q : Nat, q < 3 → (q_step t fb fs fr ff kc fi fu fz ch ct).2.1 (3 * j + q) = fu (3 * j + q) := by
  unfold q_step
  split
  · exact ⟨rfl, fun _ _ => rfl⟩
  · split
    · obtain ⟨a, b⟩ := q_chg_out (t := t) (fb := fb) (fs := fs) (fr := fr) (ff := ff) (fi := vp_updL fi kc (fi kc * 99 / 100)) (fu := fu) (fz := fz) (ch := ch) (ct := ct) (kc := kc) (j := j) (by omega)
      exact ⟨a.trans (updL_ne (by omega)), b⟩
    · obtain ⟨a, b⟩ := q_chg_out (t := t) (fb := fb) (fs := fs) (fr := fr) (ff := ff) (fi := vp_updL (vp_updL fi kc (fi kc * 99 / 100)) kc 0) (fu := vp_updL fu (3 * kc + ff kc) (k_add (fu (3 * kc + ff kc)) (fi kc * 99 / 100 * 9 / 10))) (fz := fz) (ch := ch) (ct := ct) (kc := kc) (j := j) (by omega)
      exact ⟨a.trans ((updL_ne (by omega)).trans (updL_ne (by omega))), fun q hq => (b q hq).trans (updL_ne (by omega))⟩
theorem q_mo_out {x : MS} : ∀ i : Nat, (∀ o : Nat, o < i → ff o < 3) → ∀ j : Nat, i ≤ j → (q_mo t fb fs fr ff x i).1 j = x.1 j ∧ ∀ q : Nat, q < 3 → (q_mo t fb fs fr ff x i).2.1 (3 * j + q) = x.2.1 (3 * j + q) := by
  intro i
  induction i with
  | zero => exact fun _ j _ => ⟨rfl, fun _ _ => rfl⟩
  | succ i ih =>
    intro h j hj
    obtain ⟨a1, a2⟩ := ih (fun o ho => h o (by omega)) j (by omega)
    obtain ⟨b1, b2⟩ := q_step_out (t := t) (fb := fb) (fs := fs) (fr := fr) (fi := (q_mo t fb fs fr ff x i).1) (fu := (q_mo t fb fs fr ff x i).2.1) (fz := (q_mo t fb fs fr ff x i).2.2.1) (ch := (q_mo t fb fs fr ff x i).2.2.2.1) (ct := (q_mo t fb fs fr ff x i).2.2.2.2) (kc := i) (j := j) (h i (by omega)) (by omega)
    exact ⟨b1.trans a1, fun q hq => (b2 q hq).trans (a2 q hq)⟩
theorem d_ms_out (h : ∀ o : Nat, o < n → ff o < 3) {j : Nat} (hj : n ≤ j) : (d_ms t n fb fs fr ff fi fu fz ch).1 j = fi j ∧ ∀ q : Nat, q < 3 → (d_ms t n fb fs fr ff fi fu fz ch).2.1 (3 * j + q) = fu (3 * j + q) := by
  unfold d_ms
  split
  · exact q_mo_out n h j hj
  · exact ⟨rfl, fun _ _ => rfl⟩
theorem q_day_old {p0 p1 p2 : Int32} {d q : Nat} (hd : d ≤ t) (ht : t < 2000) (hq : q < 3) : q_day fb t p0 p1 p2 (2001 * q + d) = fb (2001 * q + d) := by
  unfold q_day upd
  rw [if_neg (by omega), if_neg (by omega), if_neg (by omega)]
end LDAY
/-- the reference's rows, between two calls -/
def PV (B n t : Nat) (x : DS) : Prop := x.1 = t ∧ x.2.1 ≤ B ∧ (∀ d q : Nat, d ≤ t → q < 3 → okp (x.2.2.1 (2001 * q + d))) ∧ (∀ j : Nat, n ≤ j → x.2.2.2.1 j = 0 ∧ x.2.2.2.2.2.1 j = 0 ∧ ∀ q : Nat, q < 3 → x.2.2.2.2.1 (3 * j + q) = 0) ∧ (∀ j : Nat, x.2.2.2.2.2.1 j + x.2.1 ≤ B) ∧ (∀ j : Nat, j < n → x.2.2.2.2.2.2.1 j = nI 0 ∨ x.2.2.2.2.2.2.1 j = nI 1)
section LPV
variable {B n t k : Nat} {fp fs fr : Nat → Int32} {ff fo : Nat → Nat} {fq : Nat → Int32} {fx fy : Nat → Nat} {fb : Nat → Int32} {fi fu : Nat → Int64} {fa : Nat → Nat} {fz : Nat → Int32} {ch : Int64} {ct : Nat} {p0 p1 p2 : Int32}
theorem PV_one (ht : t < 2000) (hff : ∀ j : Nat, j < n → ff j < 3) (hfo : ∀ j : Nat, j < k → fo j < n) (hfx : ∀ j : Nat, j < k → fx j < 3) (hfy : ∀ j : Nat, j < k → fy j < 3) (h0 : okp p0) (h1 : okp p1) (h2 : okp p2) (h : PV B n t (t, k, fb, fi, fu, fa, fz, ch, ct)) : PV B n (t + 1) (p_one n fp fs fr ff fo fq fx fy p0 p1 p2 t k fb fi fu fa fz ch ct) := by
  obtain ⟨_, a2, a3, a4, a5, a6⟩ := h
  dsimp only at a2 a3 a4 a5 a6
  unfold p_one PV
  dsimp only
  refine ⟨rfl, Nat.zero_le _, fun d q hd hq => ?_, fun j hj => ?_, fun j => ?_, d_ms_z a6⟩
  · by_cases e9 : d = t + 1
    · subst e9
      exact q_day_ok ht h0 h1 h2 q hq
    · rw [q_day_old (by omega) ht hq]
      exact a3 d q (by omega) hq
  · obtain ⟨b1, b2, b3⟩ := q_go_out (t := t + 1) (fb := q_day fb t p0 p1 p2) (fp := fp) (fq := fq) (x := (fi, fu, fa)) k (fun o ho => ⟨hfo o ho, hff _ (hfo o ho), hfx o ho, hfy o ho⟩) j hj
    obtain ⟨c1, c2⟩ := d_ms_out (t := t + 1) (fb := q_day fb t p0 p1 p2) (fs := fs) (fr := fr) (fi := (q_go (t + 1) (q_day fb t p0 p1 p2) fp ff fo fq fx fy (fi, fu, fa) k).1) (fu := (q_go (t + 1) (q_day fb t p0 p1 p2) fp ff fo fq fx fy (fi, fu, fa) k).2.1) (fz := fz) (ch := ch) hff hj
    obtain ⟨d1, d2, d3⟩ := a4 j hj
    exact ⟨c1.trans (b1.trans d1), b2.trans d2, fun q hq => (c2 q hq).trans ((b3 q hq).trans (d3 q hq))⟩
  · have h8 := q_go_fa (t := t + 1) (fb := q_day fb t p0 p1 p2) (fp := fp) (ff := ff) (fo := fo) (fq := fq) (fx := fx) (fy := fy) (x := (fi, fu, fa)) k j
    dsimp only at h8
    have h9 := a5 j
    omega
theorem PV_it (hff : ∀ j : Nat, j < n → ff j < 3) (hfo : ∀ j : Nat, j < k → fo j < n) (hfx : ∀ j : Nat, j < k → fx j < 3) (hfy : ∀ j : Nat, j < k → fy j < 3) (h : PV B n t (t, k, fb, fi, fu, fa, fz, ch, ct)) : ∀ i : Nat, t + i ≤ 2000 → PV B n (t + i) (p_it n fp fs fr ff fo fq fx fy (t, k, fb, fi, fu, fa, fz, ch, ct) i) ∧ (p_it n fp fs fr ff fo fq fx fy (t, k, fb, fi, fu, fa, fz, ch, ct) i).2.1 ≤ k := by
  intro i
  induction i with
  | zero => exact fun _ => ⟨h, Nat.le_refl _⟩
  | succ i ih =>
    intro hi
    obtain ⟨a, b⟩ := ih (by omega)
    generalize hx : p_it n fp fs fr ff fo fq fx fy (t, k, fb, fi, fu, fa, fz, ch, ct) i = x at a b
    obtain ⟨u, kk, gb, gi, gu, ga, gz, gh, gt⟩ := x
    rw [p_it_s hx.symm]
    obtain rfl : u = t + i := a.1
    dsimp only at b
    have hok := a.2.2.1
    dsimp only at hok
    exact ⟨PV_one (show t + i < 2000 by omega) hff (fun j hj => hfo j (by omega)) (fun j hj => hfx j (by omega)) (fun j hj => hfy j (by omega)) (hok _ 0 (Nat.le_refl _) (by decide)) (hok _ 1 (Nat.le_refl _) (by decide)) (hok _ 2 (Nat.le_refl _) (by decide)) a, Nat.zero_le _⟩
end LPV
theorem UL.offK {cO cJ : ClassId} {em e1 k n : Nat} {L : List Nat} {f : Nat → va_E} {ca aa oa : Nat → Nat} {fp fs fr : Nat → Int32} {ff fa : Nat → Nat} {fz : Nat → Int32} {fi fu : Nat → Int64} (h : UL cO em L f e1 k oa) (hc : CI L f cJ n ca aa fp fs fr ff fa fz fi fu) (h9 : e1 ∈ L) : ∀ j : Nat, j < n → e1 ≠ ca j ∧ e1 ≠ aa j := by
  rcases h with ⟨_, _, h3⟩ | ⟨cap, fr9, _, h2, _⟩
  · exact absurd h9 h3
  · exact UL.off hc h2
theorem CI.foc5 {D : va_G} {cl : List vw_C} {A : Nat → Prop} {X : va_W} {H : Heap} {e1 n : Nat} {L : List Nat} {f : Nat → va_E} {cJ : ClassId} {ca aa : Nat → Nat} {fp fs fr : Nat → Int32} {ff fa : Nat → Nat} {fz : Nat → Int32} {fi fu : Nat → Int64} (h : CI L f cJ n ca aa fp fs fr ff fa fz fi fu) {i : Nat} {e0 : va_E} (hi : i < n) (ho : e1 ∈ L) (hoo : ∀ j : Nat, j < n → e1 ≠ ca j ∧ e1 ≠ aa j) (he : f e1 = e0) (hP : va_P D cl (X ++ va_pl L f) H) (hD : va_D A (X ++ va_pl L f)) : ∃ (L' : List Nat) (acc : Nat → Int64), L.Perm ([e1, ca i, aa i] ++ L') ∧ va_P D cl ((X ++ [(e1, e0), (ca i, .inr (1, [.int (fp i), .int (fs i), .int (fr i), .int (nI (ff i)), .ref (aa i), .long (fi i), .int (nI (fa i)), .int (fz i)])), (aa i, .inl (cJ, 3, .inr (.inl acc)))]) ++ va_pl L' f) H ∧ va_D A ((X ++ [(e1, e0), (ca i, .inr (1, [.int (fp i), .int (fs i), .int (fr i), .int (nI (ff i)), .ref (aa i), .long (fi i), .int (nI (fa i)), .int (fz i)])), (aa i, .inl (cJ, 3, .inr (.inl acc)))]) ++ va_pl L' f) ∧ f (aa i) = (.inl (cJ, 3, .inr (.inl acc)) : va_E) ∧ ∀ q : Nat, q < 3 → acc q = fu (3 * i + q) := by
  obtain ⟨h1, h2, h3, ⟨acc, h4, h5⟩, _⟩ := h i hi
  obtain ⟨L', hL⟩ := lp_pn [e1, ca i, aa i] (L := L) (by
    simp only [List.nodup_cons, List.mem_cons, List.not_mem_nil, or_false, not_or]
    exact ⟨⟨(hoo i hi).1, (hoo i hi).2⟩, fun q => h.ne hi hi q.symm, not_false, List.nodup_nil⟩) (by
    intro a ha
    simp only [List.mem_cons, List.not_mem_nil, or_false] at ha
    rcases ha with ha | ha | ha <;> rw [ha] <;> assumption)
  obtain ⟨hP, hD⟩ := lp_join hL hP hD
  refine ⟨L', acc, hL, ?_, ?_, h4, h5⟩
  · rw [List.map_cons, List.map_cons, List.map_cons, he, h3, h4] at hP; exact hP
  · rw [List.map_cons, List.map_cons, List.map_cons, he, h3, h4] at hD; exact hD
theorem CI.foc6 {D : va_G} {cl : List vw_C} {A : Nat → Prop} {X : va_W} {H : Heap} {e1 e2 n : Nat} {L : List Nat} {f : Nat → va_E} {cJ : ClassId} {ca aa : Nat → Nat} {fp fs fr : Nat → Int32} {ff fa : Nat → Nat} {fz : Nat → Int32} {fi fu : Nat → Int64} (h : CI L f cJ n ca aa fp fs fr ff fa fz fi fu) {i : Nat} {e0 e9 : va_E} (hi : i < n) (ho : e1 ∈ L) (hoo : ∀ j : Nat, j < n → e1 ≠ ca j ∧ e1 ≠ aa j) (he : f e1 = e0) (ho2 : e2 ∈ L) (hoo2 : ∀ j : Nat, j < n → e2 ≠ ca j ∧ e2 ≠ aa j) (he2 : f e2 = e9) (h12 : e1 ≠ e2) (hP : va_P D cl (X ++ va_pl L f) H) (hD : va_D A (X ++ va_pl L f)) : ∃ (L' : List Nat) (acc : Nat → Int64), L.Perm ([e1, ca i, aa i, e2] ++ L') ∧ va_P D cl ((X ++ [(e1, e0), (ca i, .inr (1, [.int (fp i), .int (fs i), .int (fr i), .int (nI (ff i)), .ref (aa i), .long (fi i), .int (nI (fa i)), .int (fz i)])), (aa i, .inl (cJ, 3, .inr (.inl acc))), (e2, e9)]) ++ va_pl L' f) H ∧ va_D A ((X ++ [(e1, e0), (ca i, .inr (1, [.int (fp i), .int (fs i), .int (fr i), .int (nI (ff i)), .ref (aa i), .long (fi i), .int (nI (fa i)), .int (fz i)])), (aa i, .inl (cJ, 3, .inr (.inl acc))), (e2, e9)]) ++ va_pl L' f) ∧ f (aa i) = (.inl (cJ, 3, .inr (.inl acc)) : va_E) ∧ ∀ q : Nat, q < 3 → acc q = fu (3 * i + q) := by
  obtain ⟨h1, h2, h3, ⟨acc, h4, h5⟩, _⟩ := h i hi
  obtain ⟨L', hL⟩ := lp_pn [e1, ca i, aa i, e2] (L := L) (by
    simp only [List.nodup_cons, List.mem_cons, List.not_mem_nil, or_false, not_or]
    exact ⟨⟨(hoo i hi).1, (hoo i hi).2, h12⟩, ⟨fun q => h.ne hi hi q.symm, fun q => (hoo2 i hi).1 q.symm⟩, fun q => (hoo2 i hi).2 q.symm, not_false, List.nodup_nil⟩) (by
    intro a ha
    simp only [List.mem_cons, List.not_mem_nil, or_false] at ha
    rcases ha with ha | ha | ha | ha <;> rw [ha] <;> assumption)
  obtain ⟨hP, hD⟩ := lp_join hL hP hD
  refine ⟨L', acc, hL, ?_, ?_, h4, h5⟩
  · rw [List.map_cons, List.map_cons, List.map_cons, List.map_cons, he, h3, h4, he2] at hP; exact hP
  · rw [List.map_cons, List.map_cons, List.map_cons, List.map_cons, he, h3, h4, he2] at hD; exact hD
theorem lp_same {As : va_W} {L L' : List Nat} {f g : Nat → va_E} (hL : L.Perm (As.map (·.1) ++ L')) (hf : ∀ q ∈ As, f q.1 = q.2) (hg1 : ∀ q ∈ As, g q.1 = q.2) (hg2 : ∀ a ∈ L', g a = f a) : ∀ a ∈ L, a ∈ As.map (·.1) ++ L' ∧ g a = f a := by
  intro a ha
  have h9 := hL.mem_iff.mp ha
  refine ⟨h9, ?_⟩
  rcases List.mem_append.mp h9 with h8 | h8
  · obtain ⟨q, hq, rfl⟩ := List.mem_map.mp h8
    exact (hg1 q hq).trans (hf q hq).symm
  · exact hg2 a h8
/-- all but v is kept; what was in front stays in front -/
theorem lp_some {As Bs : va_W} {L L' : List Nat} {f g : Nat → va_E} {v : Nat} (hL : L.Perm (Bs.map (·.1) ++ L')) (hf : ∀ q ∈ Bs, q.1 ≠ v → f q.1 = q.2 ∧ q ∈ As) (hg1 : ∀ q ∈ As, g q.1 = q.2) (hg2 : ∀ a ∈ L', g a = f a) : ∀ a ∈ L, a ≠ v → a ∈ As.map (·.1) ++ L' ∧ g a = f a := by
  intro a ha hv
  rcases List.mem_append.mp (hL.mem_iff.mp ha) with h8 | h8
  · obtain ⟨q, hq, rfl⟩ := List.mem_map.mp h8
    obtain ⟨b1, b2⟩ := hf q hq hv
    exact ⟨List.mem_append_left _ (List.mem_map.mpr ⟨q, b2, rfl⟩), (hg1 q b2).trans b1.symm⟩
  · exact ⟨List.mem_append_right _ h8, hg2 a h8⟩
/-! THE LAW'S INVARIANT: what grows -/
theorem up_lt {f : Nat → Nat} {k v : Nat} (h : ∀ j : Nat, j < k → f j < 3) (hv : v < 3) : ∀ j : Nat, j < k + 1 → va_up f k v j < 3 := by
  intro j hj
  by_cases e9 : j = k
  · subst e9; rw [up_same]; exact hv
  · rw [up_ne e9]; exact h j (by omega)
theorem upd_z {f : Nat → Int32} {k : Nat} (h : ∀ j : Nat, j < k → f j = nI 0 ∨ f j = nI 1) : ∀ j : Nat, j < k + 1 → upd f k (nI 1) j = nI 0 ∨ upd f k (nI 1) j = nI 1 := by
  intro j hj
  by_cases e9 : j = k
  · subst e9; rw [upd_same]; exact .inr rfl
  · rw [upd_ne e9]; exact h j (by omega)
theorem cpy0 {α : Type} {f g : Nat → α} {k i : Nat} (h : i < k) : va_cpy f g 0 0 k i = f i := by
  unfold va_cpy
  rw [if_pos ⟨Nat.zero_le _, by omega⟩]
  show f (0 + (i - 0)) = f i
  rw [Nat.zero_add, Nat.sub_zero]
theorem UL.inL {cO : ClassId} {em e1 k : Nat} {L L2 : List Nat} {f : Nat → va_E} {oa : Nat → Nat} (h : UL cO em L f e1 k oa) (hem : em ∉ L2) (h9 : e1 ∈ L2) : e1 ∈ L := by
  rcases h with ⟨_, h2, _⟩ | ⟨_, _, h1, _⟩
  · exact absurd (h2 ▸ h9) hem
  · exact h1
theorem lp_nin {L Bs L' : List Nat} {a : Nat} (hL : L.Perm (Bs ++ L')) (h1 : a ∉ Bs) (h2 : a ∉ L') : a ∉ L := fun h => (List.mem_append.mp (hL.mem_iff.mp h)).elim h1 h2
theorem EL.mk {D : va_G} {A : Nat → Prop} {X W : va_W} {L : List Nat} {f : Nat → va_E} {H : Heap} {s : State} {tys : List (ClassId × FieldType)} {k n : Nat} {oa ca fo : Nat → Nat} {fq : Nat → Int32} {fx fy : Nat → Nat} {fo2 : Nat → Option Nat} (hOI : OI L f k n oa ca fo fq fx fy) (hP : va_P D vwCl (X ++ va_pl L f) H) (hD : va_D A (X ++ va_pl L f)) (hK : va_K D vwCl tys s) (hG : GS s) (hv : ∀ i : Nat, i < k → fo2 i = some (oa i)) (hW : ∀ q ∈ W, (∃ e9 : va_E, (q.1, e9) ∈ X) ∨ ∀ j : Nat, j < k → oa j ≠ q.1) : EL (va_A W H.size) fo2 k s H := by
  intro i hi y hy
  obtain rfl : oa i = y := Option.some.inj ((hv i hi).symm.trans hy)
  obtain ⟨h1, _, h3⟩ := hOI i hi
  obtain ⟨q0, hq0⟩ := va_pl_get (X := X) (f := f) h1
  refine ⟨fun h => ?_, ?_⟩
  · rcases h with ⟨j, e9, hj⟩ | h
    · rcases hW (oa i, e9) (List.mem_of_getElem? hj) with ⟨e8, hx⟩ | hx
      · exact lp_nx (D := D) (cl := vwCl) hD hx h1
      · exact hx i hi rfl
    · have := vx_lt hP hq0
      dsimp only at this
      omega
  · rcases h3 with ⟨_, h3⟩ | ⟨_, h3⟩
    · rw [h3] at hq0
      exact va_rAny hK hP hq0 (r := _) rfl (vb_asgC (hG.2.1 ("UnitContracts$PremiumOrder", "java/lang/Object") (by decide +kernel)))
    · rw [h3] at hq0
      exact va_rAny hK hP hq0 (r := _) rfl (vb_asgC (hG.2.1 ("UnitContracts$SwitchOrder", "java/lang/Object") (by decide +kernel)))
