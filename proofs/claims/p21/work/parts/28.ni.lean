/-! THE INVARIANT OF p21's LAW, its numbers -/
def CC (t n k : Nat) (fp : Nat → Int32) (ff fa fo : Nat → Nat) (fq fb : Nat → Int32) (cf : Nat → Nat) : Prop := cf 0 = t ∧ cf 1 = n ∧ cf 2 = k ∧ (∀ q : Nat, q < 3 → 1 ≤ cf (3 + q) ∧ cf (3 + q) ≤ 100000 ∧ fb (2001 * q + t) = nI (cf (3 + q))) ∧ (∀ j : Nat, j < n → 100 ≤ cf (6 + j) ∧ cf (6 + j) ≤ 100000 ∧ fp j = nI (cf (6 + j)) ∧ cf (12 + j) = ff j) ∧ (∀ j : Nat, j < 6 → cf (18 + j) = fa j ∧ cf (24 + j) = wc fo fq j k)
def OO (k n : Nat) (fo : Nat → Nat) (fq : Nat → Int32) (fx fy : Nat → Nat) (fz : Nat → Int32) : Prop := ∀ o : Nat, o < k → fo o < n ∧ fx o < 3 ∧ fy o < 3 ∧ (fq o = (-1) ∨ ∃ p : Nat, p ≤ 100 ∧ fq o = nI p) ∧ fz (fo o) = nI 1
def NN (B t n k : Nat) (ch : Int64) (fp fs fr : Nat → Int32) (ff fa : Nat → Nat) (fz : Nat → Int32) (fi fu : Nat → Int64) (fo : Nat → Nat) (fq : Nat → Int32) (fx fy : Nat → Nat) (fb : Nat → Int32) (cf : Nat → Nat) : Prop :=
  B ≤ 90 ∧ t ≤ 2000 ∧ n ≤ 6 ∧ k ≤ B ∧ (∀ d q : Nat, d ≤ t → q < 3 → okp (fb (2001 * q + d))) ∧ (∀ j : Nat, j < n → ff j < 3) ∧ (∀ j : Nat, j < n → fz j = nI 0 ∨ fz j = nI 1) ∧ (∀ j : Nat, fa j + k ≤ B) ∧ (∀ j : Nat, n ≤ j → fi j = 0 ∧ fa j = 0 ∧ ∀ q : Nat, q < 3 → fu (3 * j + q) = 0) ∧ OO k n fo fq fx fy fz ∧ (∀ j : Nat, j < n → ∃ b : Nat, b ≤ 100000 ∧ fs j = nI b) ∧ (∀ j : Nat, j < n → ∃ b : Nat, b ≤ 199 ∧ fr j = nI b) ∧ (∀ j : Nat, j < n → NC fa fz fi fu j) ∧ (∃ C : Nat, C ≤ 5000 * t ∧ ch = lN C) ∧ CC t n k fp ff fa fo fq fb cf
theorem CC.prm {t n k : Nat} {fp : Nat → Int32} {ff fa fo : Nat → Nat} {fq fb : Nat → Int32} {cf : Nat → Nat} (h : CC t n k fp ff fa fo fq fb cf) : ∀ j : Nat, j < n → prm (fp j) := by
  obtain ⟨_, _, _, _, h5, _⟩ := h
  intro j hj
  obtain ⟨a1, a2, a3, _⟩ := h5 j hj
  exact ⟨_, a1, a2, a3⟩
section NNS
variable {B t n k : Nat} {ch ch2 : Int64} {fp fs fr : Nat → Int32} {ff fa fa2 : Nat → Nat} {fz fz2 : Nat → Int32} {fi fu fi2 fu2 : Nat → Int64} {fo : Nat → Nat} {fq : Nat → Int32} {fx fy : Nat → Nat} {fb fb2 bf : Nat → Int32} {cf : Nat → Nat}
theorem NN.up (h : NN B t n k ch fp fs fr ff fa fz fi fu fo fq fx fy fb cf) (hB : B + 1 ≤ 90) : NN (B + 1) t n k ch fp fs fr ff fa fz fi fu fo fq fx fy fb cf := by
  obtain ⟨_, h2, h3, h4, h5, h6, h7, h8, h9⟩ := h
  exact ⟨hB, h2, h3, by omega, h5, h6, h7, fun j => by have := h8 j; omega, h9⟩
theorem wc_congr {fo2 : Nat → Nat} {fq2 : Nat → Int32} {j : Nat} : ∀ k : Nat, (∀ o : Nat, o < k → fo2 o = fo o ∧ fq2 o = fq o) → wc fo2 fq2 j k = wc fo fq j k := by
  intro k
  induction k with
  | zero => exact fun _ => rfl
  | succ k ih =>
    intro h
    show wc fo2 fq2 j k + _ = wc fo fq j k + _
    rw [ih (fun o ho => h o (by omega)), (h k (by omega)).1, (h k (by omega)).2]
theorem wc_out {j : Nat} : ∀ k : Nat, (∀ o : Nat, o < k → fo o ≠ j) → wc fo fq j k = 0 := by
  intro k
  induction k with
  | zero => exact fun _ => rfl
  | succ k ih =>
    intro h
    show wc fo fq j k + _ = 0
    rw [ih (fun o ho => h o (by omega)), if_neg (fun q => h k (by omega) q.1)]
/-- the row c behind the law's loop over the contracts -/
def cgv (cb : Nat → Nat) (i z : Nat) : Nat := if 18 ≤ z ∧ z < 18 + i then cb z + cb (z + 6) else if 24 ≤ z ∧ z < 24 + i then 0 else cb z
theorem cg_0 {cb : Nat → Nat} : ∀ z : Nat, cb z = cgv cb 0 z := by
  intro z
  unfold cgv
  rw [if_neg (by omega), if_neg (by omega)]
theorem cg_s {cb cg : Nat → Nat} {i : Nat} (hi : i < 6) (h : ∀ z : Nat, cg z = cgv cb i z) : ∀ z : Nat, va_up (va_up cg (18 + i) (cg (18 + i) + cg (24 + i))) (24 + i) 0 z = cgv cb (i + 1) z := by
  intro z
  have e1 : cg (18 + i) = cb (18 + i) := by rw [h]; unfold cgv; rw [if_neg (by omega), if_neg (by omega)]
  have e2 : cg (24 + i) = cb (24 + i) := by rw [h]; unfold cgv; rw [if_neg (by omega), if_neg (by omega)]
  by_cases c1 : z = 24 + i
  · subst c1
    rw [up_same]
    unfold cgv
    rw [if_neg (by omega), if_pos (by omega)]
  · rw [up_ne c1]
    by_cases c2 : z = 18 + i
    · subst c2
      rw [up_same, e1, e2]
      unfold cgv
      rw [if_pos (by omega), show 18 + i + 6 = 24 + i by omega]
    · rw [up_ne c2, h]
      unfold cgv
      by_cases c3 : 18 ≤ z ∧ z < 18 + i
      · rw [if_pos c3, if_pos (by omega)]
      · rw [if_neg c3, if_neg (show ¬ (18 ≤ z ∧ z < 18 + (i + 1)) by omega)]
        by_cases c4 : 24 ≤ z ∧ z < 24 + i
        · rw [if_pos c4, if_pos (show 24 ≤ z ∧ z < 24 + (i + 1) by omega)]
        · rw [if_neg c4, if_neg (show ¬ (24 ≤ z ∧ z < 24 + (i + 1)) by omega)]
theorem cg_at {cb cg : Nat → Nat} {i : Nat} (hn : i ≤ 6) (h : ∀ z : Nat, cg z = cgv cb i z) : (∀ z : Nat, z < 18 → cg z = cb z) ∧ (∀ j : Nat, j < i → cg (18 + j) = cb (18 + j) + cb (24 + j) ∧ cg (24 + j) = 0) ∧ (∀ j : Nat, i ≤ j → j < 6 → cg (18 + j) = cb (18 + j) ∧ cg (24 + j) = cb (24 + j)) := by
  refine ⟨fun z hz => ?_, fun j hj => ⟨?_, ?_⟩, fun j hj hj2 => ⟨?_, ?_⟩⟩
  · rw [h]; unfold cgv; rw [if_neg (by omega), if_neg (by omega)]
  · rw [h]; unfold cgv; rw [if_pos (by omega), show 18 + j + 6 = 24 + j by omega]
  · rw [h]; unfold cgv; rw [if_neg (by omega), if_pos (by omega)]
  · rw [h]; unfold cgv; rw [if_neg (by omega), if_neg (by omega)]
  · rw [h]; unfold cgv; rw [if_neg (by omega), if_neg (by omega)]
/-- the row c after some days -/
theorem CC_days {t2 : Nat} {cb cg : Nat → Nat} (h : CC t n k fp ff fa fo fq fb cf) (hn : n ≤ 6) (hO : OO k n fo fq fx fy fz) (hzr : ∀ j : Nat, n ≤ j → fa j = 0) (hfa : ∀ j : Nat, fa2 j = fa j + wc fo fq j k) (hb0 : cb 0 = t2) (hb2 : cb 2 = 0) (hb3 : ∀ q : Nat, q < 3 → 1 ≤ cb (3 + q) ∧ cb (3 + q) ≤ 100000 ∧ fb2 (2001 * q + t2) = nI (cb (3 + q))) (hb1 : cb 1 = cf 1) (hb : ∀ z : Nat, 6 ≤ z → cb z = cf z) (hcg : ∀ z : Nat, cg z = cgv cb n z) : CC t2 n 0 fp ff fa2 fo fq fb2 cg := by
  obtain ⟨_, c1, _, _, c5, c6⟩ := h
  obtain ⟨g1, g2, g3⟩ := cg_at hn hcg
  refine ⟨(g1 0 (by omega)).trans hb0, (g1 1 (by omega)).trans (hb1.trans c1), (g1 2 (by omega)).trans hb2, fun q hq => ?_, fun j hj => ?_, fun j hj => ?_⟩
  · rw [g1 (3 + q) (by omega)]; exact hb3 q hq
  · rw [g1 (6 + j) (by omega), g1 (12 + j) (by omega), hb (6 + j) (by omega), hb (12 + j) (by omega)]; exact c5 j hj
  · obtain ⟨d1, d2⟩ := c6 j hj
    rw [hfa j]
    by_cases e : j < n
    · rw [(g2 j e).1, (g2 j e).2, hb _ (by omega), hb _ (by omega), d1, d2]
      exact ⟨rfl, rfl⟩
    · have hw : wc fo fq j k = 0 := wc_out k (fun o ho q => e (by rw [← q]; exact (hO o ho).1))
      rw [(g3 j (by omega) hj).1, (g3 j (by omega) hj).2, hb _ (by omega), hb _ (by omega), d1, d2, hw, hzr j (by omega)]
      exact ⟨rfl, rfl⟩
theorem NN_tell {a1 a2 a3 ct2 : Nat} {cb cg : Nat → Nat} (h : NN B t n k ch fp fs fr ff fa fz fi fu fo fq fx fy fb cf) (ht : t < 2000) (h1 : 1 ≤ a1 ∧ a1 ≤ 100000) (h2 : 1 ≤ a2 ∧ a2 ≤ 100000) (h3 : 1 ≤ a3 ∧ a3 ≤ 100000) (hx : (t + 1, 0, fb2, fi2, fu2, fa2, fz2, ch2, ct2) = p_one n fp fs fr ff fo fq fx fy (nI a1) (nI a2) (nI a3) t k fb fi fu fa fz ch 0)
    (hb0 : cb 0 = t + 1) (hb2 : cb 2 = 0) (hb3 : cb 3 = a1) (hb4 : cb 4 = a2) (hb5 : cb 5 = a3) (hb1 : cb 1 = cf 1) (hb : ∀ z : Nat, 6 ≤ z → cb z = cf z) (hcg : ∀ z : Nat, cg z = cgv cb n z) : NN B (t + 1) n 0 ch2 fp fs fr ff fa2 fz2 fi2 fu2 fo fq fx fy fb2 cg := by
  obtain ⟨n1, n2, n3, n4, n5, n6, n7, n8, n9, n10, n11, n12, n13, ⟨C, n14, n15⟩, n16⟩ := h
  have o1 : okp (nI a1) := ⟨_, h1.1, h1.2, rfl⟩
  have o2 : okp (nI a2) := ⟨_, h2.1, h2.2, rfl⟩
  have o3 : okp (nI a3) := ⟨_, h3.1, h3.2, rfl⟩
  have hpv := PV_one (B := B) (fs := fs) (fr := fr) ht n6 (fun j hj => (n10 j hj).1) (fun j hj => (n10 j hj).2.1) (fun j hj => (n10 j hj).2.2.1) o1 o2 o3 (fp := fp) (fq := fq) (k := k) (fb := fb) (fi := fi) (fu := fu) (fa := fa) (fz := fz) (ch := ch) (ct := 0) ⟨rfl, n4, n5, n9, n8, n7⟩
  rw [← hx] at hpv
  obtain ⟨_, _, p3, p4, p5, p6⟩ := hpv
  obtain ⟨d1, d2, ⟨C2, d3, d4, d5⟩, d6, d7⟩ := NC_day ht n3 o1 o2 o3 n16.prm n6 n11 n12 (fun j => by have := n8 j; omega) n10 n13 n15 (by omega) hx
  dsimp only at p3 p4 p5 p6 d1 d2 d5 d6 d7
  have hfb : fb2 = q_day fb t (nI a1) (nI a2) (nI a3) := by
    have e := congrArg (fun x : DS => x.2.2.1) hx
    exact e
  refine ⟨n1, by omega, n3, Nat.zero_le _, p3, n6, p6, p5, p4, fun o ho => absurd ho (Nat.not_lt_zero o), n11, n12, d1, ⟨C2, by omega, d5⟩, CC_days n16 n3 n10 (fun j hj => (n9 j hj).2.1) d2 hb0 hb2 (fun q hq => ?_) hb1 hb hcg⟩
  subst hfb
  unfold q_day upd
  rcases (show q = 0 ∨ q = 1 ∨ q = 2 by omega) with rfl | rfl | rfl
  · rw [if_neg (by omega), if_neg (by omega), if_pos (by omega)]
    show 1 ≤ cb 3 ∧ cb 3 ≤ 100000 ∧ nI a1 = nI (cb 3)
    rw [hb3]
    exact ⟨h1.1, h1.2, rfl⟩
  · rw [if_neg (by omega), if_pos (by omega)]
    show 1 ≤ cb 4 ∧ cb 4 ≤ 100000 ∧ nI a2 = nI (cb 4)
    rw [hb4]
    exact ⟨h2.1, h2.2, rfl⟩
  · rw [if_pos (by omega)]
    show 1 ≤ cb 5 ∧ cb 5 ≤ 100000 ∧ nI a3 = nI (cb 5)
    rw [hb5]
    exact ⟨h3.1, h3.2, rfl⟩
/-- what a day shows -/
theorem NN_tell2 {a1 a2 a3 ct2 : Nat} (h : NN B t n k ch fp fs fr ff fa fz fi fu fo fq fx fy fb cf) (ht : t < 2000) (h1 : 1 ≤ a1 ∧ a1 ≤ 100000) (h2 : 1 ≤ a2 ∧ a2 ≤ 100000) (h3 : 1 ≤ a3 ∧ a3 ≤ 100000) (hx : (t + 1, 0, fb2, fi2, fu2, fa2, fz2, ch2, ct2) = p_one n fp fs fr ff fo fq fx fy (nI a1) (nI a2) (nI a3) t k fb fi fu fa fz ch 0) :
    onC fz2 n + ct2 = onC fz n ∧ (¬ (t + 1) % 30 = 0 → ct2 = 0 ∧ ch2 = ch) ∧ ¬ ch2 < ch ∧ fb2 (2001 * 0 + (t + 1)) = nI a1 ∧ fb2 (2001 * 1 + (t + 1)) = nI a2 ∧ fb2 (2001 * 2 + (t + 1)) = nI a3 ∧ (∀ j : Nat, j < n → fz2 j = nI 0 ∨ fz2 j = nI 1) := by
  obtain ⟨n1, n2, n3, n4, n5, n6, n7, n8, n9, n10, n11, n12, n13, ⟨C, n14, n15⟩, n16⟩ := h
  have o1 : okp (nI a1) := ⟨_, h1.1, h1.2, rfl⟩
  have o2 : okp (nI a2) := ⟨_, h2.1, h2.2, rfl⟩
  have o3 : okp (nI a3) := ⟨_, h3.1, h3.2, rfl⟩
  have hpv := PV_one (B := B) (fs := fs) (fr := fr) ht n6 (fun j hj => (n10 j hj).1) (fun j hj => (n10 j hj).2.1) (fun j hj => (n10 j hj).2.2.1) o1 o2 o3 (fp := fp) (fq := fq) (k := k) (fb := fb) (fi := fi) (fu := fu) (fa := fa) (fz := fz) (ch := ch) (ct := 0) ⟨rfl, n4, n5, n9, n8, n7⟩
  rw [← hx] at hpv
  obtain ⟨_, _, p3, p4, p5, p6⟩ := hpv
  obtain ⟨d1, d2, ⟨C2, d3, d4, d5⟩, d6, d7⟩ := NC_day ht n3 o1 o2 o3 n16.prm n6 n11 n12 (fun j => by have := n8 j; omega) n10 n13 n15 (by omega) hx
  dsimp only at p6 d5 d6 d7
  have hfb : fb2 = q_day fb t (nI a1) (nI a2) (nI a3) := by
    have e := congrArg (fun x : DS => x.2.2.1) hx
    exact e
  subst hfb
  refine ⟨d6, d7, ?_, ?_, ?_, ?_, p6⟩
  · rw [d5, n15]
    exact fun q => absurd ((pk_lLT (by omega) (by omega)).mp q) (by omega)
  · unfold q_day upd
    rw [if_neg (by omega), if_neg (by omega), if_pos (by omega)]
  · unfold q_day upd
    rw [if_neg (by omega), if_pos (by omega)]
  · unfold q_day upd
    rw [if_pos (by omega)]
theorem NN_pass {dd t2 k2 ct2 : Nat} {cb cg : Nat → Nat} (h : NN B t n k ch fp fs fr ff fa fz fi fu fo fq fx fy fb cf) (hd : 1 ≤ dd) (ht : t + dd ≤ 2000) (hx : (t2, k2, fb2, fi2, fu2, fa2, fz2, ch2, ct2) = p_it n fp fs fr ff fo fq fx fy (t, k, fb, fi, fu, fa, fz, ch, 0) dd)
    (hb0 : cb 0 = t + dd) (hb2 : cb 2 = 0) (hb : ∀ z : Nat, z ≠ 0 → z ≠ 2 → cb z = cf z) (hcg : ∀ z : Nat, cg z = cgv cb n z) : NN B (t + dd) n 0 ch2 fp fs fr ff fa2 fz2 fi2 fu2 fo fq fx fy fb2 cg := by
  obtain ⟨n1, n2, n3, n4, n5, n6, n7, n8, n9, n10, n11, n12, n13, ⟨C, n14, n15⟩, n16⟩ := h
  have hpv := (PV_it (B := B) (fp := fp) (fs := fs) (fr := fr) (fq := fq) (ct := 0) (ch := ch) n6 (fun j hj => (n10 j hj).1) (fun j hj => (n10 j hj).2.1) (fun j hj => (n10 j hj).2.2.1) ⟨rfl, n4, n5, n9, n8, n7⟩ dd ht).1
  rw [← hx] at hpv
  obtain ⟨_, _, p3, p4, p5, p6⟩ := hpv
  obtain ⟨d1, _, d3, d4, d5, d6, ⟨C2, d7, d8, d9⟩, d10, d11⟩ := NC_it n3 n16.prm n6 n11 n12 (fun j => by have := n8 j; omega) (fun q hq => n5 t q (Nat.le_refl _) hq) n10 n13 n15 (by omega) dd ht _ hx
  dsimp only at p3 p4 p5 p6 d1 d3 d4 d5 d9
  obtain ⟨e1, e2⟩ := d3 (by omega)
  subst e1
  refine ⟨n1, ht, n3, Nat.zero_le _, fun d q hq1 hq2 => p3 d q hq1 hq2, n6, p6, p5, p4, fun o ho => absurd ho (Nat.not_lt_zero o), n11, n12, d5, ⟨C2, by omega, d9⟩, CC_days n16 n3 n10 (fun j hj => (n9 j hj).2.1) e2 hb0 hb2 (fun q hq => ?_) (hb 1 (by decide) (by decide)) (fun z hz => hb z (by omega) (by omega)) hcg⟩
  rw [d4 q hq, hb (3 + q) (by omega) (by omega)]
  exact n16.2.2.2.1 q hq
theorem NN_pass2 {dd t2 k2 ct2 : Nat} (h : NN B t n k ch fp fs fr ff fa fz fi fu fo fq fx fy fb cf) (hd : 1 ≤ dd) (ht : t + dd ≤ 2000) (hx : (t2, k2, fb2, fi2, fu2, fa2, fz2, ch2, ct2) = p_it n fp fs fr ff fo fq fx fy (t, k, fb, fi, fu, fa, fz, ch, 0) dd) :
    t2 = t + dd ∧ k2 = 0 ∧ ct2 ≤ n ∧ ((t + dd) / 30 = t / 30 → ct2 = 0 ∧ ch2 = ch) ∧ (∀ q : Nat, q < 3 → fb2 (2001 * q + (t + dd)) = nI (cf (3 + q))) := by
  obtain ⟨n1, n2, n3, n4, n5, n6, n7, n8, n9, n10, n11, n12, n13, ⟨C, n14, n15⟩, n16⟩ := h
  obtain ⟨d1, _, d3, d4, d5, d6, ⟨C2, d7, d8, d9⟩, d10, d11⟩ := NC_it n3 n16.prm n6 n11 n12 (fun j => by have := n8 j; omega) (fun q hq => n5 t q (Nat.le_refl _) hq) n10 n13 n15 (by omega) dd ht _ hx
  dsimp only at d1 d3 d4 d10 d11
  have h9 := onC_le (fz := fz) n
  refine ⟨d1, (d3 (by omega)).1, by omega, d11, fun q hq => ?_⟩
  rw [d4 q hq]
  exact (n16.2.2.2.1 q hq).2.2
theorem NN_back {kc dd : Nat} (h : NN B t n k ch fp fs fr ff fa fz fi fu fo fq fx fy fb cf) (hBI : BI bf fb t) (hkc : kc < n) (hal : fz kc = nI 1) (hd : dd ≤ t) : NN B t n k ch fp fs fr ff fa fz fi (vp_updL fu (3 * kc + ff kc) (k_add (fu (3 * kc + ff kc)) (k_prem (fp kc) (bf (dd * 3 + ff kc))))) fo fq fx fy fb cf := by
  obtain ⟨n1, n2, n3, n4, n5, n6, n7, n8, n9, n10, n11, n12, n13, n14, n16⟩ := h
  have hf := n6 kc hkc
  refine ⟨n1, n2, n3, n4, n5, n6, n7, n8, fun j hj => ?_, n10, n11, n12, fun j hj => ?_, n14, n16⟩
  · obtain ⟨a1, a2, a3⟩ := n9 j hj
    exact ⟨a1, a2, fun q hq => (updL_ne (by omega)).trans (a3 q hq)⟩
  · obtain ⟨a1, a2, a3⟩ := n13 j hj
    by_cases e : j = kc
    · subst e
      refine ⟨a1, fun q hq => ?_, fun h9 => (z10 hal h9).elim⟩
      by_cases c : q = ff j
      · subst c
        rw [updL_same]
        refine vB_add (a2 _ hq) (vB_prem (n16.prm j hj) ?_) (by decide)
        rw [hBI dd _ hd hf]
        exact n5 dd _ hd hf
      · rw [updL_ne (by omega)]; exact a2 q hq
    · exact (n13 j hj).congr rfl rfl rfl (fun q hq => updL_ne (by omega))
theorem NN_ord {kc x9 y9 : Nat} {v : Int32} {cg : Nat → Nat} (h : NN B t n k ch fp fs fr ff fa fz fi fu fo fq fx fy fb cf) (hB : B + 1 ≤ 90) (hkc : kc < n) (hal : fz kc = nI 1) (hx9 : x9 < 3) (hy9 : y9 < 3) (hv : v = (-1) ∨ ∃ p : Nat, p ≤ 100 ∧ v = nI p) (g2 : cg 2 = k + 1) (gk : ∀ j : Nat, j < 6 → cg (24 + j) = cf (24 + j) + (if kc = j ∧ v = (-1) then 1 else 0)) (g : ∀ z : Nat, z ≠ 2 → z < 24 → cg z = cf z) : NN (B + 1) t n (k + 1) ch fp fs fr ff fa fz fi fu (va_up fo k kc) (upd fq k v) (va_up fx k x9) (va_up fy k y9) fb cg := by
  obtain ⟨n1, n2, n3, n4, n5, n6, n7, n8, n9, n10, n11, n12, n13, n14, c0, c1, c2, c3, c4, c5⟩ := h
  refine ⟨hB, n2, n3, by omega, n5, n6, n7, fun j => by have := n8 j; omega, n9, fun o ho => ?_, n11, n12, n13, n14, ?_⟩
  · by_cases e : o = k
    · subst e
      rw [up_same, up_same, up_same, upd_same]
      exact ⟨hkc, hx9, hy9, hv, hal⟩
    · rw [up_ne e, up_ne e, up_ne e, upd_ne e]
      exact n10 o (by omega)
  · refine ⟨(g 0 (by omega) (by omega)).trans c0, (g 1 (by omega) (by omega)).trans c1, g2, fun q hq => ?_, fun j hj => ?_, fun j hj => ?_⟩
    · rw [g (3 + q) (by omega) (by omega)]; exact c3 q hq
    · rw [g (6 + j) (by omega) (by omega), g (12 + j) (by omega) (by omega)]; exact c4 j hj
    · rw [g (18 + j) (by omega) (by omega), gk j hj, (c5 j hj).1, (c5 j hj).2]
      refine ⟨rfl, ?_⟩
      show _ = wc (va_up fo k kc) (upd fq k v) j k + _
      rw [wc_congr (fo := fo) (fq := fq) k (fun o ho => ⟨up_ne (by omega), upd_ne (by omega)⟩), up_same, upd_same]
theorem NN_make {pv sv rv q : Nat} {cg : Nat → Nat} (h : NN B t n k ch fp fs fr ff fa fz fi fu fo fq fx fy fb cf) (hn : n < 6) (h1 : 100 ≤ pv) (h2 : pv ≤ 100000) (h3 : sv ≤ 100000) (h4 : rv ≤ 199) (h5 : q < 3) (g1 : cg 1 = n + 1) (g6 : cg (6 + n) = pv) (g12 : cg (12 + n) = q) (g : ∀ z : Nat, z ≠ 1 → z ≠ 6 + n → z ≠ 12 + n → cg z = cf z) : NN B t (n + 1) k ch (upd fp n (nI pv)) (upd fs n (nI sv)) (upd fr n (nI rv)) (va_up ff n q) fa (upd fz n (nI 1)) fi fu fo fq fx fy fb cg := by
  obtain ⟨n1, n2, n3, n4, n5, n6, n7, n8, n9, n10, n11, n12, n13, n14, c0, c1, c2, c3, c4, c5⟩ := h
  refine ⟨n1, n2, by omega, n4, n5, fun j hj => ?_, fun j hj => ?_, n8, fun j hj => n9 j (by omega), fun o ho => ?_, fun j hj => ?_, fun j hj => ?_, fun j hj => ?_, n14, ?_⟩
  · by_cases e : j = n
    · subst e; rw [up_same]; exact h5
    · rw [up_ne e]; exact n6 j (by omega)
  · by_cases e : j = n
    · subst e; rw [upd_same]; exact .inr rfl
    · rw [upd_ne e]; exact n7 j (by omega)
  · obtain ⟨a1, a2, a3, a4, a5⟩ := n10 o ho
    exact ⟨by omega, a2, a3, a4, (upd_ne (by omega)).trans a5⟩
  · by_cases e : j = n
    · subst e; rw [upd_same]; exact ⟨sv, h3, rfl⟩
    · rw [upd_ne e]; exact n11 j (by omega)
  · by_cases e : j = n
    · subst e; rw [upd_same]; exact ⟨rv, h4, rfl⟩
    · rw [upd_ne e]; exact n12 j (by omega)
  · by_cases e : j = n
    · subst e
      obtain ⟨b1, _, b3⟩ := n9 j (Nat.le_refl _)
      exact ⟨by rw [b1]; exact vB0, fun q hq => by rw [b3 q hq]; exact vB0, fun _ => ⟨b1, b3⟩⟩
    · exact (n13 j (by omega)).congr rfl (upd_ne e) rfl (fun _ _ => rfl)
  · refine ⟨(g 0 (by omega) (by omega) (by omega)).trans c0, g1, (g 2 (by omega) (by omega) (by omega)).trans c2, fun q hq => ?_, fun j hj => ?_, fun j hj => ?_⟩
    · rw [g (3 + q) (by omega) (by omega) (by omega)]; exact c3 q hq
    · by_cases e : j = n
      · subst e
        rw [g6, g12, upd_same, up_same]
        exact ⟨h1, h2, rfl, rfl⟩
      · rw [g (6 + j) (by omega) (by omega) (by omega), g (12 + j) (by omega) (by omega) (by omega), upd_ne e, up_ne e]
        exact c4 j (by omega)
    · rw [g (18 + j) (by omega) (by omega) (by omega), g (24 + j) (by omega) (by omega) (by omega)]; exact c5 j hj
end NNS
theorem k_offN {a : Nat} (h : a ≤ 100000) : k_off (nI a) = nI (a * 105 / 100) := by
  unfold k_off
  rw [pk_mul, pk_div (by omega) (by omega) (by omega)]
theorem k_bidN {a : Nat} (h1 : 1 ≤ a) (h2 : a ≤ 100000) : k_isBid (nI a) = nI 1 := by
  unfold k_isBid
  rw [if_neg (nI_nlt h1 (by omega)), if_neg (nI_nlt h2 (by omega))]
theorem worth0 {pf p0 p1 p2 : Int32} : k_worth 0 pf p0 p1 p2 0 0 0 = 0 := by
  unfold k_worth k_mon
  rw [Int64.zero_mul, Int64.zero_mul, Int64.zero_mul, Int64.zero_mul]
  rfl
/-- a backdated premium, as the law reckons it -/
theorem due_eq {x : Int32} {pm : Nat} {b : Int32} (hx : x = nI pm) (hb : okp b) : 1000 * (nI pm).toInt64 / (k_off b).toInt64 = k_prem x b := by
  subst hx
  unfold k_prem k_uns
  rw [if_pos (okp_o1 hb), Int64.mul_comm]
theorem due_int {x b : Int32} (hx : prm x) (hb : okp b) : (k_prem x b).toInt32.toInt64 = k_prem x b := by
  obtain ⟨v, h1, e⟩ := vB_prem hx hb
  rw [e, lN_i, nI_l (by omega)]
theorem due_add {a m : Int64} : (if 1000000000000 ≤ a + m then 1000000000000 else a + m) = k_add a m := by
  unfold k_add
  by_cases h : 1000000000000 ≤ a + m
  · rw [if_pos h, if_neg (Int64.not_lt.mpr h)]
  · rw [if_neg h, if_pos (Int64.not_le.mp h)]
theorem due_now {x b : Int32} (hx : prm x) (hb : okp b) : ¬ 0 < k_mon (k_prem x b) (k_off b).toInt64 - x.toInt64 := by
  obtain ⟨p, h1, h2, rfl⟩ := hx
  obtain ⟨y, h3, h4, e⟩ := okp_o hb
  have e1 : k_prem (nI p) b = lN (p * 1000 / y) := by
    unfold k_prem
    rw [e, nI_l (by omega), nI_l (by omega)]
    exact l_uns h3 (by omega) (by omega)
  have h5 : p * 1000 / y * y ≤ p * 1000 := Nat.div_mul_le_self _ _
  rw [e1, e, nI_l (by omega), nI_l (by omega), l_mon (by omega)]
  have h6 : p * 1000 / y * y / 1000 ≤ p := by omega
  intro h
  obtain ⟨j, hj, e9⟩ := pk_lOf (fun q => absurd (Int64.lt_trans h q) (by decide))
  have h8 : lN (p * 1000 / y * y / 1000) = lN (j + p) := by rw [← lN_add, ← e9, Int64.sub_add_cancel]
  have h9 := lN_inj (by omega) (by omega) h8
  have h10 : j = 0 := by omega
  rw [e9, h10] at h
  exact absurd h (by decide)
/-- a switch over a table that begins with 0 -/
theorem zx_tab {p : Program} {l : Launch} {e : Env} {R : Room} {s : State} {m : MethodId} {args : Array Value} {below : List Frame} {meth : Method} {c : Code} {H : Heap} {locs : List Loc} {cells slots : Nat} {pc : Nat} {ls : Array Slot} {rest : List Value} {Q : State → Prop} {cc : ByteArray} (hx : p.tables.exec = Jvm.exec) (hb : c.code = cc) {dflt hi : Int} {offs : Array Int} {len j : Nat} {off : Int} {tgt : Nat} (hdg : decode cc pc = .ok (.tableswitch dflt 0 hi offs, len)) (hj : j < 2 ^ 31) (hjn : (j : Int) ≤ hi) (ho : offs[j]? = some off) (ht : (pc : Int) + off = (tgt : Int))
    (k : W p l e R s m args below meth c H locs cells slots Q (F0 m tgt ls rest)) : W p l e R s m args below meth c H locs cells slots Q (F0 m pc ls (.int (nI j) :: rest)) := by
  refine lv_tableIn hx hb hdg (by rw [nI_toInt hj]; omega) (by rw [nI_toInt hj]; omega) ?_ ht k
  rw [nI_toInt hj]
  exact ho
theorem zx_tabO {p : Program} {l : Launch} {e : Env} {R : Room} {s : State} {m : MethodId} {args : Array Value} {below : List Frame} {meth : Method} {c : Code} {H : Heap} {locs : List Loc} {cells slots : Nat} {pc : Nat} {ls : Array Slot} {rest : List Value} {Q : State → Prop} {cc : ByteArray} (hx : p.tables.exec = Jvm.exec) (hb : c.code = cc) {dflt hi : Int} {offs : Array Int} {len j : Nat} {tgt : Nat} (hdg : decode cc pc = .ok (.tableswitch dflt 0 hi offs, len)) (hj : j < 2 ^ 31) (hjn : hi < (j : Int)) (ht : (pc : Int) + dflt = (tgt : Int))
    (k : W p l e R s m args below meth c H locs cells slots Q (F0 m tgt ls rest)) : W p l e R s m args below meth c H locs cells slots Q (F0 m pc ls (.int (nI j) :: rest)) :=
  lv_tableOut hx hb hdg (.inr (by rw [nI_toInt hj]; exact hjn)) ht k
