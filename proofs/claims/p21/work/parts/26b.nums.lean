/-! THE NUMBERS OF p21: what stays between its bounds -/
def vB (B : Nat) (x : Int64) : Prop := ∃ u : Nat, u ≤ B ∧ x = lN u
theorem vB.up {B C : Nat} {x : Int64} (h : vB B x) (hBC : B ≤ C) : vB C x := by
  obtain ⟨u, h1, h2⟩ := h
  exact ⟨u, Nat.le_trans h1 hBC, h2⟩
theorem vB0 {B : Nat} : vB B 0 := ⟨0, Nat.zero_le _, rfl⟩
def prm (x : Int32) : Prop := ∃ b : Nat, 100 ≤ b ∧ b ≤ 100000 ∧ x = nI b
theorem l_mon {u p : Nat} (h : u * p < 2 ^ 63) : k_mon (lN u) (lN p) = lN (u * p / 1000) := by
  unfold k_mon
  rw [lN_mul]
  exact pk_lDiv (b := 1000) h (by decide) (by decide)
theorem l_uns {m p : Nat} (hp : 1 ≤ p) (hp2 : p < 2 ^ 63) (h : m * 1000 < 2 ^ 63) : k_uns (lN m) (lN p) = lN (m * 1000 / p) := by
  unfold k_uns
  have h1 : (1 : Int64) ≤ lN p := (pk_lLE (a := 1) (b := p) (by decide) hp2).mpr hp
  rw [if_pos h1]
  show lN m * lN 1000 / lN p = _
  rw [lN_mul]
  exact pk_lDiv h (by omega) hp2
theorem l_add {a m : Nat} (h : a + m < 2 ^ 63) : k_add (lN a) (lN m) = lN (if a + m < 1000000000000 then a + m else 1000000000000) := by
  unfold k_add
  rw [lN_add]
  by_cases c : a + m < 1000000000000
  · have h1 : lN (a + m) < (1000000000000 : Int64) := (pk_lLT (a := a + m) (b := 1000000000000) h (by decide)).mpr c
    rw [if_pos c, if_pos h1]
  · have h1 : ¬ lN (a + m) < (1000000000000 : Int64) := fun q => c ((pk_lLT (a := a + m) (b := 1000000000000) h (by decide)).mp q)
    rw [if_neg c, if_neg h1]
    rfl
theorem vB_mon {B : Nat} {u : Int64} {p : Int32} (hu : vB B u) (hp : okp p) (hB : B * 100000 < 2 ^ 63) : vB (B * 100) (k_mon u p.toInt64) := by
  obtain ⟨n, h1, rfl⟩ := hu
  obtain ⟨b, h2, h3, rfl⟩ := hp
  have h4 : n * b ≤ B * 100000 := Nat.mul_le_mul h1 h3
  refine ⟨n * b / 1000, by omega, ?_⟩
  rw [nI_l (by omega)]
  exact l_mon (by omega)
theorem vB_uns {M : Nat} {m : Int64} {p : Int32} (hm : vB M m) (hp : okp p) (hM : M * 1000 < 2 ^ 63) : vB (M * 1000) (k_uns m p.toInt64) := by
  obtain ⟨n, h1, rfl⟩ := hm
  obtain ⟨b, h2, h3, rfl⟩ := hp
  refine ⟨n * 1000 / b, Nat.le_trans (Nat.div_le_self _ _) (by omega), ?_⟩
  rw [nI_l (by omega)]
  exact l_uns h2 (Nat.lt_of_le_of_lt h3 (by decide)) (Nat.lt_of_le_of_lt (Nat.mul_le_mul_right 1000 h1) hM)
theorem vB_prem {pm b : Int32} (hp : prm pm) (hb : okp b) : vB 100000000 (k_prem pm b) := by
  obtain ⟨x, h1, h2, rfl⟩ := hp
  obtain ⟨y, h3, h4, e⟩ := okp_o hb
  refine ⟨x * 1000 / y, Nat.le_trans (Nat.div_le_self _ _) (by omega), ?_⟩
  unfold k_prem
  rw [e, nI_l (by omega), nI_l (by omega)]
  exact l_uns h3 (by omega) (by omega)
theorem vB_add {a m : Int64} {B : Nat} (ha : vB 1000000000000 a) (hm : vB B m) (hB : B ≤ 1000000000000000000) : vB 1000000000000 (k_add a m) := by
  obtain ⟨x, h1, rfl⟩ := ha
  obtain ⟨y, h2, rfl⟩ := hm
  refine ⟨_, ?_, l_add (by omega)⟩
  split <;> omega
theorem vB_99 {B : Nat} {x : Int64} (h : vB B x) (hB : B * 99 < 2 ^ 63) : vB B (x * 99 / 100) := by
  obtain ⟨u, h1, rfl⟩ := h
  refine ⟨u * 99 / 100, by omega, ?_⟩
  show lN u * lN 99 / lN 100 = _
  rw [lN_mul]
  exact pk_lDiv (by omega) (by decide) (by decide)
theorem vB_9 {B : Nat} {x : Int64} (h : vB B x) (hB : B * 99 < 2 ^ 63) : vB B (x * 9 / 10) := by
  obtain ⟨u, h1, rfl⟩ := h
  refine ⟨u * 9 / 10, by omega, ?_⟩
  show lN u * lN 9 / lN 10 = _
  rw [lN_mul]
  exact pk_lDiv (by omega) (by decide) (by decide)
theorem vB_sold {a : Int64} {pct : Int32} (ha : vB 1000000000000 a) (hp : ∃ p : Nat, p ≤ 100 ∧ pct = nI p) : vB 1000000000000 (a * pct.toInt64 / 100) ∧ vB 1000000000000 (a - a * pct.toInt64 / 100) := by
  obtain ⟨x, h1, rfl⟩ := ha
  obtain ⟨p, h2, rfl⟩ := hp
  have h3 : x * p ≤ x * 100 := Nat.mul_le_mul_left _ h2
  have e : lN x * (nI p).toInt64 / 100 = lN (x * p / 100) := by
    rw [nI_l (by omega)]
    show lN x * lN p / lN 100 = _
    rw [lN_mul]
    exact pk_lDiv (by omega) (by decide) (by decide)
  rw [e]
  have h4 : x * p / 100 ≤ x := by omega
  refine ⟨⟨_, by omega, rfl⟩, ⟨x - x * p / 100, by omega, lN_sub h4⟩⟩
theorem vB_switch {acc : Nat → Int64} {fr tt : Nat} {pct pf pt : Int32} (hacc : ∀ q : Nat, q < 3 → vB 1000000000000 (acc q)) (hfr : fr < 3) (htt : tt < 3) (hp : ∃ p : Nat, p ≤ 100 ∧ pct = nI p) (hpf : okp pf) (hpt : okp pt) : ∀ q : Nat, q < 3 → vB 1000000000000 (k_switch acc fr tt pct pf pt q) := by
  intro q hq
  obtain ⟨h1, h2⟩ := vB_sold (hacc fr hfr) hp
  have hA : ∀ z : Nat, z < 3 → vB 1000000000000 (vp_updL acc fr (acc fr - acc fr * pct.toInt64 / 100) z) := by
    intro z hz
    by_cases c : z = fr
    · subst c; rw [updL_same]; exact h2
    · rw [updL_ne c]; exact hacc z hz
  unfold k_switch
  by_cases c : q = tt
  · subst c
    rw [updL_same]
    exact vB_add (hA q hq) (vB_uns (vB_mon h1 hpf (by decide)) hpt (by decide)) (by decide)
  · rw [updL_ne c]; exact hA q hq
/-! a month's charge -/
theorem l_need {r p : Nat} (hr : r ≤ 400) (h1 : 1 ≤ p) (h2 : p ≤ 100000) : k_need (lN r) (lN p) = lN ((r * 1000 + p - 1) / p) := by
  unfold k_need
  show (lN r * lN 1000 + lN p - lN 1) / lN p = _
  rw [lN_mul, lN_add, lN_sub (by omega)]
  exact pk_lDiv (by omega) (by omega) (by omega)
theorem vB_take {r p : Nat} {a : Nat} (hr : r ≤ 400) (h1 : 1 ≤ p) (h2 : p ≤ 100000) (ha : a ≤ 1000000000000) : ∃ w : Nat, w ≤ a ∧ k_take (lN r) (lN p) (lN a) = lN w := by
  unfold k_take
  rw [l_need hr h1 h2]
  have h3 : (r * 1000 + p - 1) / p < 2 ^ 63 := Nat.lt_of_le_of_lt (Nat.div_le_self _ _) (by omega)
  by_cases c : a < (r * 1000 + p - 1) / p
  · rw [if_pos ((pk_lLT (by omega) h3).mpr c)]; exact ⟨a, Nat.le_refl _, rfl⟩
  · rw [if_neg (fun q => c ((pk_lLT (by omega) h3).mp q))]; exact ⟨_, Nat.not_lt.mp c, rfl⟩
theorem vB_sell {r a : Int64} {p : Int32} (hr : vB 400 r) (hp : okp p) (ha : vB 1000000000000 a) : (∃ u w : Nat, w ≤ u ∧ u ≤ 400 ∧ r = lN u ∧ k_rs r p.toInt64 a = lN w) ∧ vB 1000000000000 (a - k_take r p.toInt64 a) := by
  obtain ⟨u, h1, rfl⟩ := hr
  obtain ⟨b, h2, h3, rfl⟩ := hp
  obtain ⟨x, h4, rfl⟩ := ha
  rw [nI_l (by omega)]
  obtain ⟨w, h5, e⟩ := vB_take h1 h2 h3 h4
  have h6 : w * b ≤ 1000000000000 * 100000 := Nat.mul_le_mul (by omega) h3
  refine ⟨⟨u, ?_⟩, ⟨x - w, by omega, by rw [e, lN_sub h5]⟩⟩
  unfold k_rs k_got
  rw [e, l_mon (by omega)]
  by_cases c : w * b / 1000 < u
  · rw [if_pos ((pk_lLT (by omega) (by omega)).mpr c), lN_sub (by omega)]; exact ⟨_, by omega, h1, rfl, rfl⟩
  · rw [if_neg (fun q => c ((pk_lLT (by omega) (by omega)).mp q)), lN_sub (Nat.le_refl _)]; exact ⟨_, by omega, h1, rfl, rfl⟩
theorem lN_inj {a b : Nat} (ha : a < 2 ^ 64) (hb : b < 2 ^ 64) (h : lN a = lN b) : a = b := by
  have h1 := congrArg (fun x : Int64 => x.toBitVec.toNat) h
  have e : ∀ n : Nat, n < 2 ^ 64 → (lN n).toBitVec.toNat = n := by
    intro n hn
    rw [show (lN n).toBitVec = BitVec.ofNat 64 n from rfl, BitVec.toNat_ofNat]
    exact Nat.mod_eq_of_lt hn
  rw [e a ha, e b hb] at h1
  exact h1
theorem vB_c0 {sm rt : Int32} {ini : Int64} {pf p0 p1 p2 : Int32} {a : Nat → Int64} (hs : ∃ b : Nat, b ≤ 100000 ∧ sm = nI b) (hr : ∃ b : Nat, b ≤ 199 ∧ rt = nI b) (hi : vB 10000000000 ini) (ha : ∀ q : Nat, q < 3 → vB 1000000000000 (a q)) (hf : okp pf) (h0 : okp p0) (h1 : okp p1) (h2 : okp p2) : vB 400 (k_c0 sm rt ini pf p0 p1 p2 a) := by
  obtain ⟨s, hs, rfl⟩ := hs
  obtain ⟨r, hr, rfl⟩ := hr
  obtain ⟨w0, b0, e0⟩ := vB_mon hi hf (by decide)
  obtain ⟨w1, b1, e1⟩ := vB_mon (ha 0 (by decide)) h0 (by decide)
  obtain ⟨w2, b2, e2⟩ := vB_mon (ha 1 (by decide)) h1 (by decide)
  obtain ⟨w3, b3, e3⟩ := vB_mon (ha 2 (by decide)) h2 (by decide)
  unfold k_c0 k_worth
  rw [e0, e1, e2, e3, lN_add, lN_add, lN_add]
  unfold k_r0
  rw [nI_l (by omega), nI_l (by omega)]
  have hx : ∃ k : Nat, k ≤ 100000 ∧ (if lN s - lN (w0 + w1 + w2 + w3) < 0 then 0 else lN s - lN (w0 + w1 + w2 + w3)) = lN k := by
    by_cases c : lN s - lN (w0 + w1 + w2 + w3) < 0
    · rw [if_pos c]; exact ⟨0, by decide, rfl⟩
    · rw [if_neg c]
      obtain ⟨k, hk, e⟩ := pk_lOf c
      refine ⟨k, ?_, e⟩
      have h9 : lN s = lN (k + (w0 + w1 + w2 + w3)) := by rw [← lN_add, ← e, Int64.sub_add_cancel]
      have := lN_inj (by omega) (by omega) h9
      omega
  obtain ⟨k, hk, e⟩ := hx
  rw [e]
  have h9 : k * r ≤ 100000 * 199 := Nat.mul_le_mul hk hr
  refine ⟨200 + k * r / 100000, by omega, ?_⟩
  show lN 200 + lN k * lN r / lN 100000 = _
  rw [lN_mul, pk_lDiv (by omega) (by decide) (by decide), lN_add]
theorem vB_c3 {c : Int64} {p0 p1 p2 : Int32} {a : Nat → Int64} (hc : vB 400 c) (ha : ∀ q : Nat, q < 3 → vB 1000000000000 (a q)) (h0 : okp p0) (h1 : okp p1) (h2 : okp p2) : (∃ u w : Nat, w ≤ u ∧ u ≤ 400 ∧ c = lN u ∧ k_c3 c p0 p1 p2 a = lN w) ∧ ∀ q : Nat, q < 3 → vB 1000000000000 (k_a3 c p0 p1 p2 a q) := by
  obtain ⟨⟨u0, v0, a1, a2, a3, a4⟩, a5⟩ := vB_sell hc h0 (ha 0 (by decide))
  have hc1 : vB 400 (k_c1 c p0 a) := ⟨v0, by omega, a4⟩
  obtain ⟨⟨u1, v1, b1, b2, b3, b4⟩, b5⟩ := vB_sell hc1 h1 (ha 1 (by decide))
  have hc2 : vB 400 (k_c2 c p0 p1 a) := ⟨v1, by omega, b4⟩
  obtain ⟨⟨u2, v2, d1, d2, d3, d4⟩, d5⟩ := vB_sell hc2 h2 (ha 2 (by decide))
  have e1 : v0 = u1 := lN_inj (by omega) (by omega) (a4.symm.trans b3)
  have e2 : v1 = u2 := lN_inj (by omega) (by omega) (b4.symm.trans d3)
  refine ⟨⟨u0, v2, by omega, a2, a3, d4⟩, fun q hq => ?_⟩
  obtain ⟨x0, x1, x2⟩ := k_a3_at (c := c) (p0 := p0) (p1 := p1) (p2 := p2) (a := a)
  rcases (show q = 0 ∨ q = 1 ∨ q = 2 by omega) with rfl | rfl | rfl
  · rw [x0]; exact a5
  · rw [x1]; exact b5
  · rw [x2]; exact d5
/-! one contract's numbers -/
def NC (fa : Nat → Nat) (fz : Nat → Int32) (fi fu : Nat → Int64) (j : Nat) : Prop := vB (100000000 * fa j) (fi j) ∧ (∀ q : Nat, q < 3 → vB 1000000000000 (fu (3 * j + q))) ∧ (fz j = nI 0 → fi j = 0 ∧ ∀ q : Nat, q < 3 → fu (3 * j + q) = 0)
theorem NC.congr {fa fa2 : Nat → Nat} {fz fz2 : Nat → Int32} {fi fi2 fu fu2 : Nat → Int64} {j : Nat} (h : NC fa fz fi fu j) (h1 : fa2 j = fa j) (h2 : fz2 j = fz j) (h3 : fi2 j = fi j) (h4 : ∀ q : Nat, q < 3 → fu2 (3 * j + q) = fu (3 * j + q)) : NC fa2 fz2 fi2 fu2 j := by
  obtain ⟨a1, a2, a3⟩ := h
  refine ⟨by rw [h1, h3]; exact a1, fun q hq => by rw [h4 q hq]; exact a2 q hq, fun h9 => ?_⟩
  rw [h2] at h9
  exact ⟨h3.trans (a3 h9).1, fun q hq => (h4 q hq).trans ((a3 h9).2 q hq)⟩
theorem z10 {x : Int32} (h1 : x = nI 1) (h0 : x = nI 0) : False := by
  rw [h1] at h0
  exact absurd h0 (by decide)
/-- the premiums of a contract that wait -/
def wc (fo : Nat → Nat) (fq : Nat → Int32) (j : Nat) : Nat → Nat
  | 0 => 0
  | k + 1 => wc fo fq j k + (if fo k = j ∧ fq k = (-1) then 1 else 0)
theorem dv_a {t i : Nat} (h : (t + (i + 1)) / 30 = t / 30) : (t + i) / 30 = t / 30 ∧ ¬ (t + i + 1) % 30 = 0 := by omega
section LNC
variable {t n k : Nat} {fb fp fs fr : Nat → Int32} {ff fo : Nat → Nat} {fq : Nat → Int32} {fx fy : Nat → Nat} {fi fu : Nat → Int64} {fa : Nat → Nat} {fz : Nat → Int32} {ch : Int64} {ct : Nat}
theorem NC_ord (hq : fq k = (-1) ∨ ∃ p : Nat, p ≤ 100 ∧ fq k = nI p) (hfo : fo k < n) (hff : ff (fo k) < 3) (hx : fx k < 3) (hy : fy k < 3) (hp : prm (fp (fo k))) (hb : ∀ q : Nat, q < 3 → okp (q_p fb t q)) (ha : fz (fo k) = nI 1) (h : ∀ j : Nat, j < n → NC fa fz fi fu j) : ∀ j : Nat, j < n → NC (q_ord t fb fp ff fo fq fx fy k fi fu fa).2.2 fz (q_ord t fb fp ff fo fq fx fy k fi fu fa).1 (q_ord t fb fp ff fo fq fx fy k fi fu fa).2.1 j := by
  intro j hj
  by_cases hk : fq k = (-1)
  · obtain ⟨x1, x2, x3, x4⟩ := q_ord_p (t := t) (fb := fb) (fp := fp) (fx := fx) (fy := fy) (fi := fi) (fu := fu) (fa := fa) hk hff (acc := fun q => fu (3 * fo k + q)) (fun _ _ => rfl) rfl
    by_cases e : j = fo k
    · subst e
      obtain ⟨a1, a2, a3⟩ := h _ hj
      have hv := vB_prem hp (hb _ hff)
      refine ⟨?_, fun q hq => ?_, fun h9 => (z10 ha h9).elim⟩
      · rw [x2, x3]
        split
        · exact a1.up (by omega)
        · obtain ⟨u, b1, b2⟩ := a1
          obtain ⟨v, b3, b4⟩ := hv
          exact ⟨u + v, by omega, by rw [b2, b4, lN_add]⟩
      · rw [x4 q hq]
        split
        · by_cases c : q = ff (fo k)
          · subst c; rw [updL_same]; exact vB_add (a2 _ hq) hv (by decide)
          · rw [updL_ne c]; exact a2 q hq
        · exact a2 q hq
    · obtain ⟨y1, y2, y3⟩ := x1 j e
      exact (h j hj).congr y2 rfl y1 y3
  · have hq2 : ∃ p : Nat, p ≤ 100 ∧ fq k = nI p := hq.elim (fun q => absurd q hk) id
    obtain ⟨x1, x2, x3, x4⟩ := q_ord_s (t := t) (fb := fb) (fp := fp) (ff := ff) (fi := fi) (fu := fu) (fa := fa) hk hx hy (acc := fun q => fu (3 * fo k + q)) (fun _ _ => rfl) rfl rfl
    by_cases e : j = fo k
    · subst e
      obtain ⟨a1, a2, a3⟩ := h _ hj
      refine ⟨by rw [x2, x3]; exact a1, fun q hq => ?_, fun h9 => (z10 ha h9).elim⟩
      rw [x4 q hq]
      exact vB_switch a2 hx hy hq2 (hb _ hx) (hb _ hy) q hq
    · obtain ⟨y1, y2, y3⟩ := x1 j e
      exact (h j hj).congr y2 rfl y1 y3
theorem NC_go (hp : ∀ j : Nat, j < n → prm (fp j)) (hff : ∀ j : Nat, j < n → ff j < 3) (hb : ∀ q : Nat, q < 3 → okp (q_p fb t q)) (h : ∀ j : Nat, j < n → NC fa fz fi fu j) : ∀ i : Nat, (∀ o : Nat, o < i → fo o < n ∧ fx o < 3 ∧ fy o < 3 ∧ (fq o = (-1) ∨ ∃ p : Nat, p ≤ 100 ∧ fq o = nI p) ∧ fz (fo o) = nI 1) → ∀ j : Nat, j < n → NC (q_go t fb fp ff fo fq fx fy (fi, fu, fa) i).2.2 fz (q_go t fb fp ff fo fq fx fy (fi, fu, fa) i).1 (q_go t fb fp ff fo fq fx fy (fi, fu, fa) i).2.1 j := by
  intro i
  induction i with
  | zero => exact fun _ => h
  | succ i ih =>
    intro ho
    obtain ⟨h1, h2, h3, h4, h5⟩ := ho i (by omega)
    exact NC_ord h4 h1 (hff _ h1) h2 h3 (hp _ h1) hb h5 (ih (fun o q => ho o (by omega)))
theorem go_wc {x : OS} : ∀ i j : Nat, (q_go t fb fp ff fo fq fx fy x i).2.2 j = x.2.2 j + wc fo fq j i := by
  intro i j
  induction i with
  | zero => rfl
  | succ i ih =>
    show (q_ord t fb fp ff fo fq fx fy i _ _ _).2.2 j = _ + (wc fo fq j i + _)
    unfold q_ord
    by_cases h : fq i = (-1)
    · rw [if_pos h]
      show va_up _ (fo i) _ j = _
      by_cases e : j = fo i
      · subst e
        rw [up_same, ih, if_pos ⟨rfl, h⟩]; omega
      · rw [up_ne e, ih, if_neg (fun q => e q.1.symm)]; omega
    · rw [if_neg h, if_neg (fun q => h q.2)]
      exact ih
/-- how many of the first m are in force -/
def onC (fz : Nat → Int32) : Nat → Nat
  | 0 => 0
  | j + 1 => onC fz j + (if fz j = 0 then 0 else 1)
theorem onC_le {fz : Nat → Int32} : ∀ m : Nat, onC fz m ≤ m := by
  intro m
  induction m with
  | zero => exact Nat.le_refl _
  | succ m ih => show onC fz m + _ ≤ _; split <;> omega
theorem onC_eq {fz gz : Nat → Int32} : ∀ m : Nat, (∀ j : Nat, j < m → gz j = fz j) → onC gz m = onC fz m := by
  intro m
  induction m with
  | zero => exact fun _ => rfl
  | succ m ih =>
    intro h
    show onC gz m + _ = onC fz m + _
    rw [ih (fun j hj => h j (by omega)), h m (by omega)]
theorem onC_kill {fz gz : Nat → Int32} {i : Nat} (h0 : ¬ fz i = 0) (h1 : gz i = 0) (h : ∀ j : Nat, j ≠ i → gz j = fz j) : ∀ m : Nat, i < m → onC gz m + 1 = onC fz m := by
  intro m
  induction m with
  | zero => intro q; omega
  | succ m ih =>
    intro q
    show onC gz m + _ + 1 = onC fz m + _
    by_cases e : m = i
    · subst e
      rw [onC_eq m (fun j hj => h j (by omega)), if_pos h1, if_neg h0]
    · rw [h m e]
      have := ih (by omega)
      omega
theorem NC_step {i C : Nat} (hi : i < n) (hff : ff i < 3) (hs : ∃ b : Nat, b ≤ 100000 ∧ fs i = nI b) (hr : ∃ b : Nat, b ≤ 199 ∧ fr i = nI b) (hfa : fa i ≤ 100) (hb : ∀ q : Nat, q < 3 → okp (q_p fb t q)) (h : ∀ j : Nat, j < n → NC fa fz fi fu j) (hch : ch = lN C) (hC : C ≤ 1000000000000000) :
    (∀ j : Nat, j < n → NC fa (q_step t fb fs fr ff i fi fu fz ch ct).2.2.1 (q_step t fb fs fr ff i fi fu fz ch ct).1 (q_step t fb fs fr ff i fi fu fz ch ct).2.1 j) ∧ (∃ C2 : Nat, C ≤ C2 ∧ C2 ≤ C + 400 ∧ (q_step t fb fs fr ff i fi fu fz ch ct).2.2.2.1 = lN C2) ∧ onC (q_step t fb fs fr ff i fi fu fz ch ct).2.2.1 n + (q_step t fb fs fr ff i fi fu fz ch ct).2.2.2.2 = onC fz n + ct := by
  by_cases hz : fz i = 0
  · rw [q_step_dead hz]
    exact ⟨h, ⟨C, Nat.le_refl _, by omega, hch⟩, rfl⟩
  · obtain ⟨b1, b2, b3⟩ := h i hi
    have c1 : vB 10000000000 (fi i) := b1.up (by omega)
    have c2 : vB 10000000000 (fi i * 99 / 100) := vB_99 c1 (by decide)
    have hi1 : vB (100000000 * fa i) (if t < 720 then fi i * 99 / 100 else 0) := by
      split
      · exact vB_99 b1 (by omega)
      · exact vB0
    have ha1 : ∀ q : Nat, q < 3 → vB 1000000000000 ((if t < 720 then (fun q => fu (3 * i + q)) else vp_updL (fun q => fu (3 * i + q)) (ff i) (k_add ((fun q => fu (3 * i + q)) (ff i)) (fi i * 99 / 100 * 9 / 10))) q) := by
      intro q hq
      split
      · exact b2 q hq
      · by_cases c : q = ff i
        · subst c
          rw [updL_same]
          exact vB_add (b2 _ hq) (vB_9 c2 (by decide)) (by decide)
        · rw [updL_ne c]; exact b2 q hq
    obtain ⟨x1, x2, x3, x4, x5, x6⟩ := q_step_at (t := t) (i := i) (fb := fb) (fs := fs) (fr := fr) (ff := ff) (fi := fi) (fu := fu) (fz := fz) (ch := ch) (ct := ct) hz hff (acc := fun q => fu (3 * i + q)) (fun _ _ => rfl) (P := fun q => q_p fb t q) (fun _ _ => rfl) rfl rfl rfl
    generalize (if t < 720 then fi i * 99 / 100 else 0) = i1 at hi1 x2 x3 x4 x5 x6
    generalize (if t < 720 then (fun q => fu (3 * i + q)) else vp_updL (fun q => fu (3 * i + q)) (ff i) (k_add ((fun q => fu (3 * i + q)) (ff i)) (fi i * 99 / 100 * 9 / 10))) = a1 at ha1 x2 x3 x4 x5 x6
    have hc0 : vB 400 (k_c0 (fs i) (fr i) i1 (q_p fb t (ff i)) (q_p fb t 0) (q_p fb t 1) (q_p fb t 2) a1) := vB_c0 hs hr (hi1.up (by omega)) ha1 (hb _ hff) (hb 0 (by decide)) (hb 1 (by decide)) (hb 2 (by decide))
    obtain ⟨⟨u, w, d1, d2, d3, d4⟩, d5⟩ := vB_c3 hc0 ha1 (hb 0 (by decide)) (hb 1 (by decide)) (hb 2 (by decide))
    generalize k_c0 (fs i) (fr i) i1 (q_p fb t (ff i)) (q_p fb t 0) (q_p fb t 1) (q_p fb t 2) a1 = c0 at hc0 d3 d4 d5 x2 x3 x4 x5 x6
    generalize k_c3 c0 (q_p fb t 0) (q_p fb t 1) (q_p fb t 2) a1 = c3 at d4 x2 x3 x4 x5 x6
    refine ⟨fun j hj => ?_, ⟨C + (u - w), by omega, by omega, ?_⟩, ?_⟩
    · by_cases e : j = i
      · subst e
        refine ⟨?_, fun q hq => ?_, fun h9 => ?_⟩
        · rw [x2]; split
          · exact hi1
          · exact vB0
        · rw [x4 q hq]; split
          · exact d5 q hq
          · rw [k_zero_at hq]; exact vB0
        · rw [x3] at h9
          by_cases c : c3 ≤ 0
          · rw [if_pos c] at h9
            exact absurd h9 hz
          · refine ⟨by rw [x2, if_neg c], fun q hq => ?_⟩
            rw [x4 q hq, if_neg c, k_zero_at hq]
      · obtain ⟨y1, y2, y3⟩ := x1 j e
        exact (h j hj).congr rfl y2 y1 y3
    · rw [x5, hch, d3, d4, lN_sub d1, lN_add]
    · rw [x6]
      by_cases c : c3 ≤ 0
      · rw [if_pos c] at x3 ⊢
        rw [onC_eq n (fun j hj => ?_)]
        by_cases e : j = i
        · subst e; exact x3
        · exact (x1 j e).2.1
      · rw [if_neg c] at x3 ⊢
        have := onC_kill (fz := fz) (gz := (q_step t fb fs fr ff i fi fu fz ch ct).2.2.1) hz x3 (fun j e => (x1 j e).2.1) n hi
        omega
theorem NC_mo {C : Nat} (hff : ∀ j : Nat, j < n → ff j < 3) (hs : ∀ j : Nat, j < n → ∃ b : Nat, b ≤ 100000 ∧ fs j = nI b) (hr : ∀ j : Nat, j < n → ∃ b : Nat, b ≤ 199 ∧ fr j = nI b) (hfa : ∀ j : Nat, j < n → fa j ≤ 100) (hb : ∀ q : Nat, q < 3 → okp (q_p fb t q)) (h : ∀ j : Nat, j < n → NC fa fz fi fu j) (hch : ch = lN C) (hC : C ≤ 100000000000000) (hn : n ≤ 10) : ∀ i : Nat, i ≤ n →
    (∀ j : Nat, j < n → NC fa (q_mo t fb fs fr ff (fi, fu, fz, ch, 0) i).2.2.1 (q_mo t fb fs fr ff (fi, fu, fz, ch, 0) i).1 (q_mo t fb fs fr ff (fi, fu, fz, ch, 0) i).2.1 j) ∧ (∃ C2 : Nat, C ≤ C2 ∧ C2 ≤ C + 400 * i ∧ (q_mo t fb fs fr ff (fi, fu, fz, ch, 0) i).2.2.2.1 = lN C2) ∧ onC (q_mo t fb fs fr ff (fi, fu, fz, ch, 0) i).2.2.1 n + (q_mo t fb fs fr ff (fi, fu, fz, ch, 0) i).2.2.2.2 = onC fz n := by
  intro i
  induction i with
  | zero => exact fun _ => ⟨h, ⟨C, Nat.le_refl _, by omega, hch⟩, rfl⟩
  | succ i ih =>
    intro hi
    obtain ⟨a1, ⟨C2, a2, a3, a4⟩, a5⟩ := ih (by omega)
    obtain ⟨b1, ⟨C3, b2, b3, b4⟩, b5⟩ := NC_step (ct := (q_mo t fb fs fr ff (fi, fu, fz, ch, 0) i).2.2.2.2) (show i < n by omega) (hff i (by omega)) (hs i (by omega)) (hr i (by omega)) (hfa i (by omega)) hb a1 a4 (by omega)
    exact ⟨b1, ⟨C3, Nat.le_trans a2 b2, Nat.le_trans b3 (by rw [Nat.mul_succ, ← Nat.add_assoc]; exact Nat.add_le_add_right a3 400), b4⟩, b5.trans a5⟩
/-- a day's numbers -/
theorem NC_day {C : Nat} {p0 p1 p2 : Int32} (ht : t < 2000) (hn : n ≤ 6) (h0 : okp p0) (h1 : okp p1) (h2 : okp p2) (hp : ∀ j : Nat, j < n → prm (fp j)) (hff : ∀ j : Nat, j < n → ff j < 3) (hs : ∀ j : Nat, j < n → ∃ b : Nat, b ≤ 100000 ∧ fs j = nI b) (hr : ∀ j : Nat, j < n → ∃ b : Nat, b ≤ 199 ∧ fr j = nI b) (hfa : ∀ j : Nat, fa j + k ≤ 100) (ho : ∀ o : Nat, o < k → fo o < n ∧ fx o < 3 ∧ fy o < 3 ∧ (fq o = (-1) ∨ ∃ p : Nat, p ≤ 100 ∧ fq o = nI p) ∧ fz (fo o) = nI 1) (h : ∀ j : Nat, j < n → NC fa fz fi fu j) (hch : ch = lN C) (hC : C ≤ 100000000000000) {x : DS} (hx : x = p_one n fp fs fr ff fo fq fx fy p0 p1 p2 t k fb fi fu fa fz ch ct) :
    (∀ j : Nat, j < n → NC x.2.2.2.2.2.1 x.2.2.2.2.2.2.1 x.2.2.2.1 x.2.2.2.2.1 j) ∧ (∀ j : Nat, x.2.2.2.2.2.1 j = fa j + wc fo fq j k) ∧ (∃ C2 : Nat, C ≤ C2 ∧ C2 ≤ C + 4000 ∧ x.2.2.2.2.2.2.2.1 = lN C2) ∧ onC x.2.2.2.2.2.2.1 n + x.2.2.2.2.2.2.2.2 = onC fz n + ct ∧ (¬ (t + 1) % 30 = 0 → x.2.2.2.2.2.2.2.2 = ct ∧ x.2.2.2.2.2.2.2.1 = ch) := by
  subst hx
  unfold p_one
  dsimp only
  have hb : ∀ q : Nat, q < 3 → okp (q_p (q_day fb t p0 p1 p2) (t + 1) q) := q_day_ok ht h0 h1 h2
  have a1 := NC_go (t := t + 1) (fb := q_day fb t p0 p1 p2) (fo := fo) (fq := fq) (fx := fx) (fy := fy) hp hff hb h k ho
  have a2 : ∀ j : Nat, (q_go (t + 1) (q_day fb t p0 p1 p2) fp ff fo fq fx fy (fi, fu, fa) k).2.2 j = fa j + wc fo fq j k := fun j => go_wc k j
  have a3 : ∀ j : Nat, j < n → (q_go (t + 1) (q_day fb t p0 p1 p2) fp ff fo fq fx fy (fi, fu, fa) k).2.2 j ≤ 100 := fun j _ => by
    have q1 := q_go_fa (t := t + 1) (fb := q_day fb t p0 p1 p2) (fp := fp) (ff := ff) (fo := fo) (fq := fq) (fx := fx) (fy := fy) (x := (fi, fu, fa)) k j
    have q2 := hfa j
    dsimp only at q1
    omega
  unfold d_ms
  by_cases c : (t + 1) % 30 = 0
  · rw [if_pos c]
    obtain ⟨b1, ⟨C2, b2, b3, b4⟩, b5⟩ := NC_mo (t := t + 1) (fb := q_day fb t p0 p1 p2) hff hs hr a3 hb a1 hch hC (by omega) n (Nat.le_refl _)
    exact ⟨b1, a2, ⟨C2, b2, by omega, b4⟩, by omega, fun q => absurd c q⟩
  · rw [if_neg c]
    exact ⟨a1, a2, ⟨C, Nat.le_refl _, by omega, hch⟩, by dsimp only; omega, fun _ => ⟨rfl, rfl⟩⟩
/-- some days' numbers, with the prices of today -/
theorem NC_it {C : Nat} (hn : n ≤ 6) (hp : ∀ j : Nat, j < n → prm (fp j)) (hff : ∀ j : Nat, j < n → ff j < 3) (hs : ∀ j : Nat, j < n → ∃ b : Nat, b ≤ 100000 ∧ fs j = nI b) (hr : ∀ j : Nat, j < n → ∃ b : Nat, b ≤ 199 ∧ fr j = nI b) (hfa : ∀ j : Nat, fa j + k ≤ 100) (hok : ∀ q : Nat, q < 3 → okp (fb (2001 * q + t))) (ho : ∀ o : Nat, o < k → fo o < n ∧ fx o < 3 ∧ fy o < 3 ∧ (fq o = (-1) ∨ ∃ p : Nat, p ≤ 100 ∧ fq o = nI p) ∧ fz (fo o) = nI 1) (h : ∀ j : Nat, j < n → NC fa fz fi fu j) (hch : ch = lN C) (hC : C ≤ 10000000) : ∀ i : Nat, t + i ≤ 2000 → ∀ x : DS, x = p_it n fp fs fr ff fo fq fx fy (t, k, fb, fi, fu, fa, fz, ch, 0) i →
    x.1 = t + i ∧ (i = 0 → x = (t, k, fb, fi, fu, fa, fz, ch, 0)) ∧ (0 < i → x.2.1 = 0 ∧ ∀ j : Nat, x.2.2.2.2.2.1 j = fa j + wc fo fq j k) ∧ (∀ q : Nat, q < 3 → x.2.2.1 (2001 * q + (t + i)) = fb (2001 * q + t)) ∧ (∀ j : Nat, j < n → NC x.2.2.2.2.2.1 x.2.2.2.2.2.2.1 x.2.2.2.1 x.2.2.2.2.1 j) ∧ (∀ j : Nat, x.2.2.2.2.2.1 j ≤ 100) ∧ (∃ C2 : Nat, C ≤ C2 ∧ C2 ≤ C + 4000 * i ∧ x.2.2.2.2.2.2.2.1 = lN C2) ∧ onC x.2.2.2.2.2.2.1 n + x.2.2.2.2.2.2.2.2 = onC fz n ∧ ((t + i) / 30 = t / 30 → x.2.2.2.2.2.2.2.2 = 0 ∧ x.2.2.2.2.2.2.2.1 = ch) := by
  intro i
  induction i with
  | zero =>
    intro _ x hx
    subst hx
    exact ⟨rfl, fun _ => rfl, fun q => absurd q (by omega), fun _ _ => rfl, h, fun j => by have := hfa j; show fa j ≤ 100; omega, ⟨C, Nat.le_refl _, by omega, hch⟩, rfl, fun _ => ⟨rfl, rfl⟩⟩
  | succ i ih =>
    intro hi x hx
    obtain ⟨u, kk, gb, gi, gu, ga, gz, gh, gt, hy⟩ : ∃ (u kk : Nat) (gb : Nat → Int32) (gi gu : Nat → Int64) (ga : Nat → Nat) (gz : Nat → Int32) (gh : Int64) (gt : Nat), (u, kk, gb, gi, gu, ga, gz, gh, gt) = p_it n fp fs fr ff fo fq fx fy (t, k, fb, fi, fu, fa, fz, ch, 0) i := ⟨_, _, _, _, _, _, _, _, _, rfl⟩
    obtain ⟨a1, a2, a3, a4, a5, a6, ⟨C2, a7, a8, a9⟩, a10, a11⟩ := ih (by omega) _ hy
    dsimp only at a1 a3 a4 a5 a6 a9 a10 a11
    subst a1
    rw [p_it_s hy] at hx
    have hok2 : ∀ q : Nat, q < 3 → okp (gb (2001 * q + (t + i))) := fun q hq => by rw [a4 q hq]; exact hok q hq
    have hk2 : (i = 0 ∧ kk = k ∧ ga = fa ∧ gz = fz) ∨ (0 < i ∧ kk = 0) := by
      rcases Nat.eq_zero_or_pos i with q | q
      · have e := a2 q
        injection e with _ e; injection e with e1 e; injection e with _ e; injection e with _ e; injection e with _ e; injection e with e2 e; injection e with e3 _
        exact .inl ⟨q, e1, e2, e3⟩
      · exact .inr ⟨q, (a3 q).1⟩
    have ho2 : ∀ o : Nat, o < kk → fo o < n ∧ fx o < 3 ∧ fy o < 3 ∧ (fq o = (-1) ∨ ∃ p : Nat, p ≤ 100 ∧ fq o = nI p) ∧ gz (fo o) = nI 1 := by
      rcases hk2 with ⟨_, q1, _, q3⟩ | ⟨_, q⟩
      · subst q1; subst q3; exact ho
      · intro o h9; omega
    have hfa2 : ∀ j : Nat, ga j + kk ≤ 100 := by
      rcases hk2 with ⟨_, q1, q2, _⟩ | ⟨_, q⟩
      · subst q1; subst q2; exact hfa
      · intro j; have := a6 j; omega
    have hbid : ∀ q : Nat, q < 3 → q_day gb (t + i) (gb (2001 * 0 + (t + i))) (gb (2001 * 1 + (t + i))) (gb (2001 * 2 + (t + i))) (2001 * q + (t + i + 1)) = fb (2001 * q + t) := by
      intro q hq
      rw [← a4 q hq]
      unfold q_day upd
      rcases (show q = 0 ∨ q = 1 ∨ q = 2 by omega) with rfl | rfl | rfl
      · rw [if_neg (by omega), if_neg (by omega), if_pos (by omega)]
      · rw [if_neg (by omega), if_pos (by omega)]
      · rw [if_pos (by omega)]
    obtain ⟨b1, b2, ⟨C3, b3, b4, b5⟩, b6, b7⟩ := NC_day (show t + i < 2000 by omega) hn (hok2 0 (by decide)) (hok2 1 (by decide)) (hok2 2 (by decide)) hp hff hs hr hfa2 ho2 a5 a9 (by omega) hx
    have hga : ∀ j : Nat, x.2.2.2.2.2.1 j = fa j + wc fo fq j k := by
      intro j
      rw [b2 j]
      rcases hk2 with ⟨_, q1, q2, _⟩ | ⟨q1, q2⟩
      · rw [q1, q2]
      · rw [(a3 q1).2 j, q2]; rfl
    have hwc : ∀ j m : Nat, wc fo fq j m ≤ m := by
      intro j m
      induction m with
      | zero => exact Nat.le_refl _
      | succ m ihm => show wc fo fq j m + _ ≤ _; split <;> omega
    refine ⟨by rw [hx]; rfl, fun q => absurd q (by omega), fun _ => ⟨by rw [hx]; rfl, hga⟩, fun q hq => by rw [hx]; exact hbid q hq, b1, fun j => ?_, ⟨C3, Nat.le_trans a7 b3, Nat.le_trans b4 (by rw [Nat.mul_succ, ← Nat.add_assoc]; exact Nat.add_le_add_right a8 4000), b5⟩, b6.trans a10, fun q => ?_⟩
    · rw [hga j]
      have q1 := hfa j
      have q2 := hwc j k
      omega
    · obtain ⟨q1, q2⟩ := dv_a q
      exact ⟨(b7 q2).1.trans (a11 q1).1, (b7 q2).2.trans (a11 q1).2⟩
end LNC
