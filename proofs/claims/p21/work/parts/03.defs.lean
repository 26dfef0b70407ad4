/-! OWN WORDS of the numbers: what both sides reckon -/
def k_mon (u p : Int64) : Int64 := u * p / 1000
def k_uns (m p : Int64) : Int64 := if 1 ≤ p then m * 1000 / p else 0
def k_add (a more : Int64) : Int64 := if a + more < 1000000000000 then a + more else 1000000000000
def k_off (b : Int32) : Int32 := b * nI 105 / nI 100
def k_worth (ini : Int64) (pf p0 p1 p2 : Int32) (a0 a1 a2 : Int64) : Int64 := k_mon ini pf.toInt64 + k_mon a0 p0.toInt64 + k_mon a1 p1.toInt64 + k_mon a2 p2.toInt64
def k_need (r p : Int64) : Int64 := (r * 1000 + p - 1) / p
def k_take (r p a : Int64) : Int64 := if a < k_need r p then a else k_need r p
def k_got (r p a : Int64) : Int64 := if k_mon (k_take r p a) p < r then k_mon (k_take r p a) p else r
def k_isFund (f : Int32) : Int32 := if f < 0 then nI 0 else if nI 3 ≤ f then nI 0 else nI 1
def k_isBid (p : Int32) : Int32 := if p < nI 1 then nI 0 else if nI 100000 < p then nI 0 else nI 1
theorem k_isFund_n {f : Nat} (h : f < 3) : k_isFund (nI f) = nI 1 := by
  unfold k_isFund
  rw [if_neg (fun q => nI_nlt (Nat.zero_le f) (by omega) (by simpa [nI] using q)), if_neg (nI_ge h (by decide))]
theorem k_ne {p : Int64} (h : 1 ≤ p) : ¬ p = 0 := fun e => by subst e; exact absurd h (by decide)
theorem k_ne2 {p : Int64} (h : ¬ p < 1) : ¬ p = 0 := fun e => by subst e; exact absurd (show (0 : Int64) < 1 by decide) h
def k_ini (q fu : Nat) (ini : Int64) : Int64 := if q = fu then ini else 0
def k_r0 (sm rt : Int32) (w : Int64) : Int64 := 200 + (if sm.toInt64 - w < 0 then 0 else sm.toInt64 - w) * rt.toInt64 / 100000
def k_rs (r p a : Int64) : Int64 := r - k_got r p a
def k_sell (a : Nat → Int64) (q : Nat) (r p : Int64) : Nat → Int64 := vp_updL a q (a q - k_take r p (a q))
/-- the charge of a month: the rest behind each fund, and what is left of the units -/
def k_c0 (sm rt : Int32) (ini : Int64) (pf p0 p1 p2 : Int32) (a : Nat → Int64) : Int64 := k_r0 sm rt (k_worth ini pf p0 p1 p2 (a 0) (a 1) (a 2))
def k_c1 (c : Int64) (p0 : Int32) (a : Nat → Int64) : Int64 := k_rs c p0.toInt64 (a 0)
def k_a1 (c : Int64) (p0 : Int32) (a : Nat → Int64) : Nat → Int64 := k_sell a 0 c p0.toInt64
def k_c2 (c : Int64) (p0 p1 : Int32) (a : Nat → Int64) : Int64 := k_rs (k_c1 c p0 a) p1.toInt64 (k_a1 c p0 a 1)
def k_a2 (c : Int64) (p0 p1 : Int32) (a : Nat → Int64) : Nat → Int64 := k_sell (k_a1 c p0 a) 1 (k_c1 c p0 a) p1.toInt64
def k_c3 (c : Int64) (p0 p1 p2 : Int32) (a : Nat → Int64) : Int64 := k_rs (k_c2 c p0 p1 a) p2.toInt64 (k_a2 c p0 p1 a 2)
def k_a3 (c : Int64) (p0 p1 p2 : Int32) (a : Nat → Int64) : Nat → Int64 := k_sell (k_a2 c p0 p1 a) 2 (k_c2 c p0 p1 a) p2.toInt64
def k_zero (a : Nat → Int64) : Nat → Int64 := vp_updL (vp_updL (vp_updL a 0 0) 1 0) 2 0
def k_prem (pm b : Int32) : Int64 := k_uns pm.toInt64 (k_off b).toInt64
def k_switch (acc : Nat → Int64) (fr tt : Nat) (pct pf pt : Int32) : Nat → Int64 :=
  vp_updL (vp_updL acc fr (acc fr - acc fr * pct.toInt64 / 100)) tt (k_add (vp_updL acc fr (acc fr - acc fr * pct.toInt64 / 100) tt) (k_uns (k_mon (acc fr * pct.toInt64 / 100) pf.toInt64) pt.toInt64))
theorem k_iniL {q fu : Nat} {ini : Int64} (h1 : q < 2 ^ 31) (h2 : fu < 2 ^ 31) : k_ini q fu ini = (if nI q = nI fu then ini else 0) := by
  unfold k_ini
  by_cases h : q = fu
  · subst h
    simp
  · rw [if_neg h, if_neg (fun e9 => h ((nI_eq h1 h2).mp e9))]
def k_isIn (x lo hi : Int32) : Int32 := if x < lo then nI 0 else if hi < x then nI 0 else nI 1
def k_not (x : Int32) : Int32 := if x = 0 then nI 1 else nI 0
theorem k_le {a b : Int64} : (if a ≤ b then a else b) = (if a < b then a else b) := by
  by_cases h2 : a < b
  · rw [if_pos h2, if_pos (Int64.le_of_lt h2)]
  · rw [if_neg h2]
    by_cases h1 : a ≤ b
    · rw [if_pos h1]
      exact Int64.le_antisymm h1 (Int64.not_lt.mp h2)
    · rw [if_neg h1]
theorem k_addM {a m : Int64} : (if a + m ≤ 1000000000000 then a + m else 1000000000000) = k_add a m := k_le
theorem k_takeM {r p a : Int64} : (if a ≤ k_need r p then a else k_need r p) = k_take r p a := k_le
theorem k_gotM {r g : Int64} : (if r ≤ g then r else g) = (if g < r then g else r) := by
  by_cases h : g < r
  · rw [if_pos h, if_neg (Int64.not_le.mpr h)]
  · rw [if_neg h, if_pos (Int64.not_lt.mp h)]
def q_switch (u : Nat → Int64) (kc fr tt : Nat) (pct pf pt : Int32) : Nat → Int64 :=
  vp_updL (vp_updL u (3 * kc + fr) (u (3 * kc + fr) - u (3 * kc + fr) * pct.toInt64 / 100)) (3 * kc + tt) (k_add (vp_updL u (3 * kc + fr) (u (3 * kc + fr) - u (3 * kc + fr) * pct.toInt64 / 100) (3 * kc + tt)) (k_uns (k_mon (u (3 * kc + fr) * pct.toInt64 / 100) pf.toInt64) pt.toInt64))
def q_zero (u : Nat → Int64) (kc : Nat) : Nat → Int64 := vp_updL (vp_updL (vp_updL u (3 * kc + 0) 0) (3 * kc + 1) 0) (3 * kc + 2) 0
theorem k_isIn_nar {x lo hi : Int32} : narrow .boolean (.int (k_isIn x lo hi)) = .int (k_isIn x lo hi) := by
  unfold k_isIn
  split
  · rfl
  · split <;> rfl
theorem k_r0M {sm rt : Int32} {w : Int64} : 200 + (if sm.toInt64 - w ≤ 0 then 0 else (sm.toInt64 - w) * rt.toInt64 / 100000) = k_r0 sm rt w := by
  unfold k_r0
  by_cases h : sm.toInt64 - w ≤ 0
  · rw [if_pos h]
    by_cases h2 : sm.toInt64 - w < 0
    · rw [if_pos h2, Int64.zero_mul]; rfl
    · have h3 : sm.toInt64 - w = 0 := Int64.le_antisymm h (Int64.not_lt.mp h2)
      rw [if_neg h2, h3, Int64.zero_mul]; rfl
  · rw [if_neg h, if_neg (fun h2 => h (Int64.le_of_lt h2))]
theorem k_b1 {P : Prop} [Decidable P] : (if P then nI 0 else nI 1) = 0 ↔ P := by
  by_cases h : P
  · rw [if_pos h]; exact ⟨fun _ => h, fun _ => rfl⟩
  · rw [if_neg h]; exact ⟨fun q => absurd q (by decide), fun q => absurd q h⟩
/-- the reference's words: what a month, a day, an order do to its rows -/
def q_a (fu : Nat → Int64) (kc : Nat) : Nat → Int64 := fun q => fu (3 * kc + q)
def q_p (fb : Nat → Int32) (t q : Nat) : Int32 := fb (2001 * q + t)
def q_c (t : Nat) (fb fs fr : Nat → Int32) (ff : Nat → Nat) (fi fu : Nat → Int64) (kc : Nat) : Int64 := k_c0 (fs kc) (fr kc) (fi kc) (q_p fb t (ff kc)) (q_p fb t 0) (q_p fb t 1) (q_p fb t 2) (q_a fu kc)
def q_c3 (t : Nat) (fb fs fr : Nat → Int32) (ff : Nat → Nat) (fi fu : Nat → Int64) (kc : Nat) : Int64 := k_c3 (q_c t fb fs fr ff fi fu kc) (q_p fb t 0) (q_p fb t 1) (q_p fb t 2) (q_a fu kc)
def k_g (ch c0 : Int64) (p0 p1 p2 : Int32) (a : Nat → Int64) : Int64 := ch + k_got c0 p0.toInt64 (a 0) + k_got (k_c1 c0 p0 a) p1.toInt64 (a 1) + k_got (k_c2 c0 p0 p1 a) p2.toInt64 (a 2)
def q_ch (t : Nat) (fb fs fr : Nat → Int32) (ff : Nat → Nat) (fi fu : Nat → Int64) (kc : Nat) (ch : Int64) : Int64 := k_g ch (q_c t fb fs fr ff fi fu kc) (q_p fb t 0) (q_p fb t 1) (q_p fb t 2) (q_a fu kc)
def k_un (fu : Nat → Int64) (kc : Nat) (c0 : Int64) (p0 p1 p2 : Int32) (a : Nat → Int64) : Nat → Int64 :=
  vp_updL (vp_updL (vp_updL fu (3 * kc + 0) (a 0 - k_take c0 p0.toInt64 (a 0))) (3 * kc + 1) (a 1 - k_take (k_c1 c0 p0 a) p1.toInt64 (a 1))) (3 * kc + 2) (a 2 - k_take (k_c2 c0 p0 p1 a) p2.toInt64 (a 2))
def q_un (t : Nat) (fb fs fr : Nat → Int32) (ff : Nat → Nat) (fi fu : Nat → Int64) (kc : Nat) : Nat → Int64 := k_un fu kc (q_c t fb fs fr ff fi fu kc) (q_p fb t 0) (q_p fb t 1) (q_p fb t 2) (q_a fu kc)
abbrev MS : Type := (Nat → Int64) × (Nat → Int64) × (Nat → Int32) × Int64 × Nat
def q_chg (t : Nat) (fb fs fr : Nat → Int32) (ff : Nat → Nat) (kc : Nat) (fi fu : Nat → Int64) (fz : Nat → Int32) (ch : Int64) (ct : Nat) : MS :=
  if q_c3 t fb fs fr ff fi fu kc ≤ 0 then (fi, q_un t fb fs fr ff fi fu kc, fz, q_ch t fb fs fr ff fi fu kc ch, ct)
  else (vp_updL fi kc 0, q_zero (q_un t fb fs fr ff fi fu kc) kc, upd fz kc (nI 0), q_ch t fb fs fr ff fi fu kc ch, ct + 1)
def q_step (t : Nat) (fb fs fr : Nat → Int32) (ff : Nat → Nat) (kc : Nat) (fi fu : Nat → Int64) (fz : Nat → Int32) (ch : Int64) (ct : Nat) : MS :=
  if fz kc = 0 then (fi, fu, fz, ch, ct)
  else if t < 720 then q_chg t fb fs fr ff kc (vp_updL fi kc (fi kc * 99 / 100)) fu fz ch ct
  else q_chg t fb fs fr ff kc (vp_updL (vp_updL fi kc (fi kc * 99 / 100)) kc 0) (vp_updL fu (3 * kc + ff kc) (k_add (fu (3 * kc + ff kc)) (fi kc * 99 / 100 * 9 / 10))) fz ch ct
def q_mo (t : Nat) (fb fs fr : Nat → Int32) (ff : Nat → Nat) (x : MS) : Nat → MS
  | 0 => x
  | k + 1 => q_step t fb fs fr ff k (q_mo t fb fs fr ff x k).1 (q_mo t fb fs fr ff x k).2.1 (q_mo t fb fs fr ff x k).2.2.1 (q_mo t fb fs fr ff x k).2.2.2.1 (q_mo t fb fs fr ff x k).2.2.2.2
theorem q_mo_s {t : Nat} {fb fs fr : Nat → Int32} {ff : Nat → Nat} {x : MS} {k : Nat} {fi fu : Nat → Int64} {fz : Nat → Int32} {ch : Int64} {ct : Nat} (h : (fi, fu, fz, ch, ct) = q_mo t fb fs fr ff x k) : q_mo t fb fs fr ff x (k + 1) = q_step t fb fs fr ff k fi fu fz ch ct := by
  show q_step t fb fs fr ff k (q_mo t fb fs fr ff x k).1 (q_mo t fb fs fr ff x k).2.1 (q_mo t fb fs fr ff x k).2.2.1 (q_mo t fb fs fr ff x k).2.2.2.1 (q_mo t fb fs fr ff x k).2.2.2.2 = _
  rw [← h]
abbrev OS : Type := (Nat → Int64) × (Nat → Int64) × (Nat → Nat)
def q_ord (t : Nat) (fb fp : Nat → Int32) (ff : Nat → Nat) (fo : Nat → Nat) (fq : Nat → Int32) (fx fy : Nat → Nat) (k : Nat) (fi fu : Nat → Int64) (fa : Nat → Nat) : OS :=
  if fq k = (-1) then
    (if fa (fo k) + 1 ≤ 12 then vp_updL fi (fo k) (fi (fo k) + k_prem (fp (fo k)) (q_p fb t (ff (fo k)))) else fi,
     if fa (fo k) + 1 ≤ 12 then fu else vp_updL fu (3 * fo k + ff (fo k)) (k_add (fu (3 * fo k + ff (fo k))) (k_prem (fp (fo k)) (q_p fb t (ff (fo k))))),
     va_up fa (fo k) (fa (fo k) + 1))
  else (fi, q_switch fu (fo k) (fx k) (fy k) (fq k) (q_p fb t (fx k)) (q_p fb t (fy k)), fa)
def q_go (t : Nat) (fb fp : Nat → Int32) (ff : Nat → Nat) (fo : Nat → Nat) (fq : Nat → Int32) (fx fy : Nat → Nat) (x : OS) : Nat → OS
  | 0 => x
  | k + 1 => q_ord t fb fp ff fo fq fx fy k (q_go t fb fp ff fo fq fx fy x k).1 (q_go t fb fp ff fo fq fx fy x k).2.1 (q_go t fb fp ff fo fq fx fy x k).2.2
theorem q_go_s {t : Nat} {fb fp : Nat → Int32} {ff : Nat → Nat} {fo : Nat → Nat} {fq : Nat → Int32} {fx fy : Nat → Nat} {x : OS} {k : Nat} {fi fu : Nat → Int64} {fa : Nat → Nat} (h : (fi, fu, fa) = q_go t fb fp ff fo fq fx fy x k) : q_go t fb fp ff fo fq fx fy x (k + 1) = q_ord t fb fp ff fo fq fx fy k fi fu fa := by
  show q_ord t fb fp ff fo fq fx fy k (q_go t fb fp ff fo fq fx fy x k).1 (q_go t fb fp ff fo fq fx fy x k).2.1 (q_go t fb fp ff fo fq fx fy x k).2.2 = _
  rw [← h]
/-- a price that may be told -/
def okp (x : Int32) : Prop := ∃ b : Nat, 1 ≤ b ∧ b ≤ 100000 ∧ x = nI b
theorem lN_ge1 {b : Nat} (h1 : 1 ≤ b) (h2 : b < 2 ^ 31) : (1 : Int64) ≤ lN b := (lN_le (a := 1) (b := b) (by decide) h2).mpr h1
theorem okp_1 {x : Int32} (h : okp x) : 1 ≤ x.toInt64 := by
  obtain ⟨b, h1, h2, rfl⟩ := h
  rw [nI_l (by omega)]
  exact lN_ge1 h1 (by omega)
theorem okp_2 {x : Int32} (h : okp x) : ¬ x.toInt64 < 1 := Int64.not_lt.mpr (okp_1 h)
theorem okp_3 {x : Int32} (h : okp x) : ¬ x.toInt64 = 0 := k_ne (okp_1 h)
theorem okp_o {x : Int32} (h : okp x) : ∃ b : Nat, 1 ≤ b ∧ b ≤ 105000 ∧ k_off x = nI b := by
  obtain ⟨b, h1, h2, rfl⟩ := h
  refine ⟨b * 105 / 100, by omega, by omega, ?_⟩
  unfold k_off
  rw [pk_mul, pk_div (by omega) (by omega) (by omega)]
theorem okp_o1 {x : Int32} (h : okp x) : 1 ≤ (k_off x).toInt64 := by
  obtain ⟨b, h1, h2, e⟩ := okp_o h
  rw [e, nI_l (by omega)]
  exact lN_ge1 h1 (by omega)
theorem okp_of {x : Int32} (h : k_isIn x (nI 1) (nI 100000) = nI 1) : okp x := by
  unfold k_isIn at h
  split at h
  · exact absurd h (by decide)
  · split at h
    · exact absurd h (by decide)
    · rename_i h1 h2
      have h3 : ¬ x < 0 := fun q => h1 (Int32.lt_trans q (by decide))
      obtain ⟨j, hj, rfl⟩ := nI_of h3
      refine ⟨j, ?_, ?_, rfl⟩
      · rcases Nat.lt_or_ge j 1 with q | q
        · exact absurd ((nI_ltI (by omega) (by decide)).mpr q) h1
        · exact q
      · rcases Nat.lt_or_ge 100000 j with q | q
        · exact absurd ((nI_ltI (by decide) hj).mpr q) h2
        · exact q
def q_day (fb : Nat → Int32) (t : Nat) (p0 p1 p2 : Int32) : Nat → Int32 := upd (upd (upd fb (t + 1) p0) (2001 + (t + 1)) p1) (4002 + (t + 1)) p2
theorem q_day_ok {fb : Nat → Int32} {t : Nat} {p0 p1 p2 : Int32} (ht : t < 2000) (h0 : okp p0) (h1 : okp p1) (h2 : okp p2) : ∀ q : Nat, q < 3 → okp (q_day fb t p0 p1 p2 (2001 * q + (t + 1))) := by
  intro q hq
  unfold q_day upd
  rcases (show q = 0 ∨ q = 1 ∨ q = 2 by omega) with rfl | rfl | rfl
  · rw [if_neg (by omega), if_neg (by omega), if_pos (by omega)]; exact h0
  · rw [if_neg (by omega), if_pos (by omega)]; exact h1
  · rw [if_pos (by omega)]; exact h2
def d_ms (t n : Nat) (fb fs fr : Nat → Int32) (ff : Nat → Nat) (fi fu : Nat → Int64) (fz : Nat → Int32) (ch : Int64) : MS := if t % 30 = 0 then q_mo t fb fs fr ff (fi, fu, fz, ch, 0) n else (fi, fu, fz, ch, 0)
theorem k_isC1 {n kc : Nat} (h : kc < n) (hn : n ≤ 10) : k_isIn (nI kc) (nI 0) (nI n - nI 1) = nI 1 := by
  unfold k_isIn
  rw [pk_sub (by omega), if_neg (nI_nlt (by omega) (by omega)), if_neg (nI_nlt (by omega) (by omega))]
theorem k_isC0 {n : Nat} {x : Int32} (hn : n ≤ 10) (h : x < 0 ∨ nI n ≤ x) : k_isIn x (nI 0) (nI n - nI 1) = nI 0 := by
  unfold k_isIn
  by_cases c : x < nI 0
  · rw [if_pos c]
  · rw [if_neg c]
    rcases h with h | h
    · exact absurd h c
    · rw [if_pos]
      rcases Nat.lt_or_ge n 1 with q | q
      · obtain rfl : n = 0 := by omega
        exact Int32.lt_of_lt_of_le (by decide) h
      · rw [pk_sub q]
        exact Int32.lt_of_lt_of_le (nI_lt (by omega) (by omega)) h
theorem k_isIn1 {q a b : Nat} (h1 : a ≤ q) (h2 : q ≤ b) (hb : b < 2 ^ 31) : k_isIn (nI q) (nI a) (nI b) = nI 1 := by
  unfold k_isIn
  rw [if_neg (nI_nlt h1 (by omega)), if_neg (nI_nlt h2 hb)]
def q_sum (fu fi : Nat → Int64) (ff : Nat → Nat) (q : Nat) : Nat → Int64
  | 0 => 0
  | j + 1 => q_sum fu fi ff q j + (fu (3 * j + q) + k_ini q (ff j) (fi j))
theorem k_iniM {q fu : Nat} {ini : Int64} (h1 : q < 2 ^ 31) (h2 : fu < 2 ^ 31) : k_ini q fu ini = (if nI fu = nI q then ini else 0) := by
  rw [k_iniL h1 h2]
  by_cases h : nI q = nI fu
  · rw [if_pos h, if_pos h.symm]
  · rw [if_neg h, if_neg (fun e => h e.symm)]
abbrev DS : Type := Nat × Nat × (Nat → Int32) × (Nat → Int64) × (Nat → Int64) × (Nat → Nat) × (Nat → Int32) × Int64 × Nat
/-- one day, told with its prices -/
def p_one (n : Nat) (fp fs fr : Nat → Int32) (ff fo : Nat → Nat) (fq : Nat → Int32) (fx fy : Nat → Nat) (p0 p1 p2 : Int32) (t k : Nat) (fb : Nat → Int32) (fi fu : Nat → Int64) (fa : Nat → Nat) (fz : Nat → Int32) (ch : Int64) (ct : Nat) : DS :=
  (t + 1, 0, q_day fb t p0 p1 p2,
    (d_ms (t + 1) n (q_day fb t p0 p1 p2) fs fr ff (q_go (t + 1) (q_day fb t p0 p1 p2) fp ff fo fq fx fy (fi, fu, fa) k).1 (q_go (t + 1) (q_day fb t p0 p1 p2) fp ff fo fq fx fy (fi, fu, fa) k).2.1 fz ch).1,
    (d_ms (t + 1) n (q_day fb t p0 p1 p2) fs fr ff (q_go (t + 1) (q_day fb t p0 p1 p2) fp ff fo fq fx fy (fi, fu, fa) k).1 (q_go (t + 1) (q_day fb t p0 p1 p2) fp ff fo fq fx fy (fi, fu, fa) k).2.1 fz ch).2.1,
    (q_go (t + 1) (q_day fb t p0 p1 p2) fp ff fo fq fx fy (fi, fu, fa) k).2.2,
    (d_ms (t + 1) n (q_day fb t p0 p1 p2) fs fr ff (q_go (t + 1) (q_day fb t p0 p1 p2) fp ff fo fq fx fy (fi, fu, fa) k).1 (q_go (t + 1) (q_day fb t p0 p1 p2) fp ff fo fq fx fy (fi, fu, fa) k).2.1 fz ch).2.2.1,
    (d_ms (t + 1) n (q_day fb t p0 p1 p2) fs fr ff (q_go (t + 1) (q_day fb t p0 p1 p2) fp ff fo fq fx fy (fi, fu, fa) k).1 (q_go (t + 1) (q_day fb t p0 p1 p2) fp ff fo fq fx fy (fi, fu, fa) k).2.1 fz ch).2.2.2.1,
    ct + (d_ms (t + 1) n (q_day fb t p0 p1 p2) fs fr ff (q_go (t + 1) (q_day fb t p0 p1 p2) fp ff fo fq fx fy (fi, fu, fa) k).1 (q_go (t + 1) (q_day fb t p0 p1 p2) fp ff fo fq fx fy (fi, fu, fa) k).2.1 fz ch).2.2.2.2)
def p_oneX (n : Nat) (fp fs fr : Nat → Int32) (ff fo : Nat → Nat) (fq : Nat → Int32) (fx fy : Nat → Nat) (x : DS) : DS :=
  p_one n fp fs fr ff fo fq fx fy (x.2.2.1 (2001 * 0 + x.1)) (x.2.2.1 (2001 * 1 + x.1)) (x.2.2.1 (2001 * 2 + x.1)) x.1 x.2.1 x.2.2.1 x.2.2.2.1 x.2.2.2.2.1 x.2.2.2.2.2.1 x.2.2.2.2.2.2.1 x.2.2.2.2.2.2.2.1 x.2.2.2.2.2.2.2.2
def p_it (n : Nat) (fp fs fr : Nat → Int32) (ff fo : Nat → Nat) (fq : Nat → Int32) (fx fy : Nat → Nat) (x : DS) : Nat → DS
  | 0 => x
  | j + 1 => p_oneX n fp fs fr ff fo fq fx fy (p_it n fp fs fr ff fo fq fx fy x j)
theorem p_it_s {n : Nat} {fp fs fr : Nat → Int32} {ff fo : Nat → Nat} {fq : Nat → Int32} {fx fy : Nat → Nat} {x : DS} {j t k : Nat} {fb : Nat → Int32} {fi fu : Nat → Int64} {fa : Nat → Nat} {fz : Nat → Int32} {ch : Int64} {ct : Nat} (h : (t, k, fb, fi, fu, fa, fz, ch, ct) = p_it n fp fs fr ff fo fq fx fy x j) :
    p_it n fp fs fr ff fo fq fx fy x (j + 1) = p_one n fp fs fr ff fo fq fx fy (fb (2001 * 0 + t)) (fb (2001 * 1 + t)) (fb (2001 * 2 + t)) t k fb fi fu fa fz ch ct := by
  show p_oneX n fp fs fr ff fo fq fx fy (p_it n fp fs fr ff fo fq fx fy x j) = _
  rw [← h]; rfl
theorem q_go_fa {t : Nat} {fb fp : Nat → Int32} {ff : Nat → Nat} {fo : Nat → Nat} {fq : Nat → Int32} {fx fy : Nat → Nat} {x : OS} : ∀ (i j : Nat), (q_go t fb fp ff fo fq fx fy x i).2.2 j ≤ x.2.2 j + i := by
  intro i
  induction i with
  | zero => intro j; exact Nat.le_refl _
  | succ i ih =>
    intro j
    show (q_ord t fb fp ff fo fq fx fy i _ _ _).2.2 j ≤ _
    unfold q_ord
    split
    · show va_up _ _ _ j ≤ _
      unfold va_up
      split
      · rename_i h
        subst h
        have := ih (fo i); omega
      · have := ih j; omega
    · have := ih j; show (q_go t fb fp ff fo fq fx fy x i).2.2 j ≤ _; omega
def k_good (its : Int64) (pm b : Int32) : Int64 := if k_mon its (k_off b).toInt64 - pm.toInt64 ≤ 0 then 0 else k_mon its (k_off b).toInt64 - pm.toInt64
set_option maxHeartbeats 4000000 in
set_option maxRecDepth 100000 in
/-- isFund(f) -/
theorem m_X5_isFund (l : Launch) (f : Int32)  : Met l yX5_isFund wsX5_isFund ({ frames := 0, cells := 0, slots := 0, locals := 0 }) (z0 [.int f]) (vp_Si (fun r => r = k_isFund f)) 0 0 (fun _ => False) := by
  refine zm0 (cc := cX5_isFund) (maxL := 1) (ret := (some .boolean)) (by decide) rfl (Nat.le_of_ble_eq_true rfl) ?_
  intro p e s m below meth c ls hx hb hml hr hlocks hown hts hl
  have hl : lv_has ls 1 [(0, .int f)] := hl
  refine lv_iload_n hx hb dX5_isFund_0 rfl (lv_at hl 0 rfl) ?_
  refine zj (T := Int32) (fr := fun z => F0 m 14 ls (.int z :: [])) (if f < 0 then nI 0 else (if (nI 3) ≤ f then nI 0 else nI 1)) (fun z_1 e_z_1 => ?_) (fun j_z_1 => ?_)
  · skip
    exact zretz1 hx hb hr hlocks dX5_isFund_14 (by first | rfl | decide | exact k_isIn_nar | (subst_vars; (repeat' split) <;> rfl)) (by first | rfl | (subst_vars; rfl))
  · refine lv_if_lt (tgt := 13) hx hb dX5_isFund_1 (by decide) (fun c_1 => ?_) (fun c_1 => ?_)
    · skip
      refine lv_iconst (v := nI 0) hx hb dX5_isFund_13 (by decide) ?_
      exact j_z_1 _ (by rw [if_pos c_1])
    · skip
      refine lv_iload_n hx hb dX5_isFund_4 rfl (lv_at hl 0 rfl) ?_
      refine lv_iconst (v := nI 3) hx hb dX5_isFund_5 (by decide) ?_
      refine lv_icmp_ge (tgt := 13) hx hb dX5_isFund_6 (by decide) (fun c_6 => ?_) (fun c_6 => ?_)
      · skip
        refine lv_iconst (v := nI 0) hx hb dX5_isFund_13 (by decide) ?_
        exact j_z_1 _ (by rw [if_neg c_1, if_pos c_6])
      · skip
        refine lv_iconst (v := nI 1) hx hb dX5_isFund_9 (by decide) ?_
        refine lv_goto (tgt := 14) hx hb dX5_isFund_10 (by decide) ?_
        exact j_z_1 _ (by rw [if_neg c_1, if_neg c_6])

set_option maxHeartbeats 4000000 in
set_option maxRecDepth 100000 in
/-- isBid(p) -/
theorem m_X5_isBid (l : Launch) (p0 : Int32)  : Met l yX5_isBid wsX5_isBid ({ frames := 0, cells := 0, slots := 0, locals := 0 }) (z0 [.int p0]) (vp_Si (fun r => r = k_isBid p0)) 0 0 (fun _ => False) := by
  refine zm0 (cc := cX5_isBid) (maxL := 1) (ret := (some .boolean)) (by decide) rfl (Nat.le_of_ble_eq_true rfl) ?_
  intro p e s m below meth c ls hx hb hml hr hlocks hown hts hl
  have hl : lv_has ls 1 [(0, .int p0)] := hl
  have k_0 := hts (.constant RX5 69 (100000)) (List.mem_of_getElem? (i := 1) rfl)
  refine lv_iload_n hx hb dX5_isBid_0 rfl (lv_at hl 0 rfl) ?_
  refine lv_iconst (v := nI 1) hx hb dX5_isBid_1 (by decide) ?_
  refine zj (T := Int32) (fr := fun z => F0 m 16 ls (.int z :: [])) (if p0 < (nI 1) then nI 0 else (if (nI 100000) < p0 then nI 0 else nI 1)) (fun z_1 e_z_1 => ?_) (fun j_z_1 => ?_)
  · skip
    exact zretz1 hx hb hr hlocks dX5_isBid_16 (by first | rfl | decide | exact k_isIn_nar | (subst_vars; (repeat' split) <;> rfl)) (by first | rfl | (subst_vars; rfl))
  · refine lv_icmp_lt (tgt := 15) hx hb dX5_isBid_2 (by decide) (fun c_2 => ?_) (fun c_2 => ?_)
    · skip
      refine lv_iconst (v := nI 0) hx hb dX5_isBid_15 (by decide) ?_
      exact j_z_1 _ (by rw [if_pos c_2])
    · skip
      refine lv_iload_n hx hb dX5_isBid_5 rfl (lv_at hl 0 rfl) ?_
      refine lv_ldc (v := nI 100000) hx hb hown k_0 dX5_isBid_6 ?_
      refine lv_icmp_gt (tgt := 15) hx hb dX5_isBid_8 (by decide) (fun c_8 => ?_) (fun c_8 => ?_)
      · skip
        refine lv_iconst (v := nI 0) hx hb dX5_isBid_15 (by decide) ?_
        exact j_z_1 _ (by rw [if_neg c_2, if_pos c_8])
      · skip
        refine lv_iconst (v := nI 1) hx hb dX5_isBid_11 (by decide) ?_
        refine lv_goto (tgt := 16) hx hb dX5_isBid_12 (by decide) ?_
        exact j_z_1 _ (by rw [if_neg c_2, if_neg c_8])

set_option maxHeartbeats 4000000 in
set_option maxRecDepth 100000 in
/-- moneyFor(u, p) -/
theorem m_X5_moneyFor (l : Launch) (u pr : Int64)  : Met l yX5_moneyFor wsX5_moneyFor ({ frames := 0, cells := 0, slots := 0, locals := 0 }) (z0 [.long u, .long pr]) (vp_Sl (fun r => r = k_mon u pr)) 0 0 (fun _ => False) := by
  refine zm0 (cc := cX5_moneyFor) (maxL := 4) (ret := (some .long)) (by decide) rfl (Nat.le_of_ble_eq_true rfl) ?_
  intro p e s m below meth c ls hx hb hml hr hlocks hown hts hl
  have hl : lv_has ls 4 [(0, .long u), (2, .long pr)] := hl
  have k_0 := hts (.constantLong RX5 210 (1000)) (List.mem_of_getElem? (i := 1) rfl)
  refine lv_lload_n hx hb dX5_moneyFor_0 rfl (lv_at hl 0 rfl) ?_
  refine lv_lload_n hx hb dX5_moneyFor_1 rfl (lv_at hl 1 rfl) ?_
  refine zx_lmul (v := u * pr) hx hb dX5_moneyFor_2 (rfl) ?_
  refine lv_ldc2 (v := 1000) hx hb hown k_0 dX5_moneyFor_3 ?_
  refine zx_ldiv (v := (u * pr) / 1000) hx hb dX5_moneyFor_6 (by decide) (rfl) ?_
  exact zretl1 hx hb hr hlocks dX5_moneyFor_7 (by first | rfl | (subst_vars; rfl))

set_option maxHeartbeats 4000000 in
set_option maxRecDepth 100000 in
/-- unitsFor(m, p) -/
theorem m_X5_unitsFor (l : Launch) (mo pr : Int64)  : Met l yX5_unitsFor wsX5_unitsFor ({ frames := 0, cells := 0, slots := 0, locals := 0 }) (z0 [.long mo, .long pr]) (vp_Sl (fun r => r = k_uns mo pr)) 0 0 (fun _ => False) := by
  refine zm0 (cc := cX5_unitsFor) (maxL := 4) (ret := (some .long)) (by decide) rfl (Nat.le_of_ble_eq_true rfl) ?_
  intro p e s m below meth c ls hx hb hml hr hlocks hown hts hl
  have hl : lv_has ls 4 [(0, .long mo), (2, .long pr)] := hl
  have k_0 := hts (.constantLong RX5 210 (1000)) (List.mem_of_getElem? (i := 1) rfl)
  refine lv_lload_n hx hb dX5_unitsFor_0 rfl (lv_at hl 1 rfl) ?_
  refine lv_lconst (v := 1) hx hb dX5_unitsFor_1 (by decide) ?_
  refine zj (T := Int64) (fr := fun z => F0 m 17 ls (.long z :: [])) (if 1 ≤ pr then (mo * 1000) / pr else 0) (fun z_1 e_z_1 => ?_) (fun j_z_1 => ?_)
  · skip
    exact zretl1 hx hb hr hlocks dX5_unitsFor_17 (by first | rfl | (subst_vars; rfl))
  · refine zx_lcmp_ge (tgt := 10) hx hb dX5_unitsFor_2 dX5_unitsFor_3 (by decide) (fun c_2 => ?_) (fun c_2 => ?_)
    · skip
      refine lv_lload_n hx hb dX5_unitsFor_10 rfl (lv_at hl 0 rfl) ?_
      refine lv_ldc2 (v := 1000) hx hb hown k_0 dX5_unitsFor_11 ?_
      refine zx_lmul (v := mo * 1000) hx hb dX5_unitsFor_14 (rfl) ?_
      refine lv_lload_n hx hb dX5_unitsFor_15 rfl (lv_at hl 1 rfl) ?_
      refine zx_ldiv (v := (mo * 1000) / pr) hx hb dX5_unitsFor_16 (k_ne c_2) (rfl) ?_
      exact j_z_1 _ (by rw [if_pos c_2])
    · skip
      refine lv_lconst (v := 0) hx hb dX5_unitsFor_6 (by decide) ?_
      refine lv_goto (tgt := 17) hx hb dX5_unitsFor_7 (by decide) ?_
      exact j_z_1 _ (by rw [if_neg c_2])
