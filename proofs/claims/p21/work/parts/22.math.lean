/-! THE TWO SIDES' NUMBERS, one contract at a time -/
theorem k_c0_c {sm rt : Int32} {ini : Int64} {pf p0 p1 p2 : Int32} {a b : Nat → Int64} (h : ∀ q : Nat, q < 3 → a q = b q) : k_c0 sm rt ini pf p0 p1 p2 a = k_c0 sm rt ini pf p0 p1 p2 b := by
  unfold k_c0
  rw [h 0 (by omega), h 1 (by omega), h 2 (by omega)]
theorem k_c1_c {c : Int64} {p0 : Int32} {a b : Nat → Int64} (h : ∀ q : Nat, q < 3 → a q = b q) : k_c1 c p0 a = k_c1 c p0 b := by
  unfold k_c1
  rw [h 0 (by omega)]
theorem k_c2_c {c : Int64} {p0 p1 : Int32} {a b : Nat → Int64} (h : ∀ q : Nat, q < 3 → a q = b q) : k_c2 c p0 p1 a = k_c2 c p0 p1 b := by
  show k_rs (k_c1 c p0 a) p1.toInt64 (a 1) = k_rs (k_c1 c p0 b) p1.toInt64 (b 1)
  rw [h 1 (by omega), k_c1_c h]
theorem k_c3_c {c : Int64} {p0 p1 p2 : Int32} {a b : Nat → Int64} (h : ∀ q : Nat, q < 3 → a q = b q) : k_c3 c p0 p1 p2 a = k_c3 c p0 p1 p2 b := by
  show k_rs (k_c2 c p0 p1 a) p2.toInt64 (a 2) = k_rs (k_c2 c p0 p1 b) p2.toInt64 (b 2)
  rw [h 2 (by omega), k_c2_c h]
theorem k_a3_at {c : Int64} {p0 p1 p2 : Int32} {a : Nat → Int64} : k_a3 c p0 p1 p2 a 0 = a 0 - k_take c p0.toInt64 (a 0) ∧ k_a3 c p0 p1 p2 a 1 = a 1 - k_take (k_c1 c p0 a) p1.toInt64 (a 1) ∧ k_a3 c p0 p1 p2 a 2 = a 2 - k_take (k_c2 c p0 p1 a) p2.toInt64 (a 2) := ⟨rfl, rfl, rfl⟩
theorem k_zero_at {a : Nat → Int64} {q : Nat} (h : q < 3) : k_zero a q = 0 := by
  rcases (show q = 0 ∨ q = 1 ∨ q = 2 by omega) with rfl | rfl | rfl <;> rfl
theorem k_un_at {fu : Nat → Int64} {kc : Nat} {c0 : Int64} {p0 p1 p2 : Int32} {a : Nat → Int64} {q : Nat} (h : q < 3) : k_un fu kc c0 p0 p1 p2 a (3 * kc + q) = k_a3 c0 p0 p1 p2 a q := by
  unfold k_un vp_updL
  rcases (show q = 0 ∨ q = 1 ∨ q = 2 by omega) with rfl | rfl | rfl
  · rw [if_neg (by omega), if_neg (by omega), if_pos rfl]; rfl
  · rw [if_neg (by omega), if_pos rfl]; rfl
  · rw [if_pos rfl]; rfl
theorem k_un_ne {fu : Nat → Int64} {kc j : Nat} {c0 : Int64} {p0 p1 p2 : Int32} {a : Nat → Int64} {q : Nat} (h : q < 3) (hj : j ≠ kc) : k_un fu kc c0 p0 p1 p2 a (3 * j + q) = fu (3 * j + q) := by
  unfold k_un vp_updL
  rw [if_neg (by omega), if_neg (by omega), if_neg (by omega)]
theorem q_zero_at {u : Nat → Int64} {kc q : Nat} (h : q < 3) : q_zero u kc (3 * kc + q) = 0 := by
  unfold q_zero vp_updL
  rcases (show q = 0 ∨ q = 1 ∨ q = 2 by omega) with rfl | rfl | rfl
  · rw [if_neg (by omega), if_neg (by omega), if_pos rfl]
  · rw [if_neg (by omega), if_pos rfl]
  · rw [if_pos rfl]
theorem q_zero_ne {u : Nat → Int64} {kc j q : Nat} (h : q < 3) (hj : j ≠ kc) : q_zero u kc (3 * j + q) = u (3 * j + q) := by
  unfold q_zero vp_updL
  rw [if_neg (by omega), if_neg (by omega), if_neg (by omega)]
theorem k_g_sum {ch c0 : Int64} {p0 p1 p2 : Int32} {a : Nat → Int64} : k_g ch c0 p0 p1 p2 a = ch + (c0 - k_c3 c0 p0 p1 p2 a) := by
  show ch + k_got c0 p0.toInt64 (a 0) + k_got (k_c1 c0 p0 a) p1.toInt64 (a 1) + k_got (k_c2 c0 p0 p1 a) p2.toInt64 (a 2) = ch + (c0 - (((c0 - k_got c0 p0.toInt64 (a 0)) - k_got (k_c1 c0 p0 a) p1.toInt64 (a 1)) - k_got (k_c2 c0 p0 p1 a) p2.toInt64 (a 2)))
  grind
theorem q_chg_at {t i : Nat} {fb fs fr : Nat → Int32} {ff : Nat → Nat} {fi fu : Nat → Int64} {fz : Nat → Int32} {ch : Int64} {ct : Nat} (hff : ff i < 3) {acc : Nat → Int64} (hacc : ∀ q : Nat, q < 3 → acc q = fu (3 * i + q)) {P : Nat → Int32} (hP : ∀ q : Nat, q < 3 → P q = q_p fb t q) :
    (∀ j : Nat, j ≠ i → (q_chg t fb fs fr ff i fi fu fz ch ct).1 j = fi j ∧ (q_chg t fb fs fr ff i fi fu fz ch ct).2.2.1 j = fz j ∧ ∀ q : Nat, q < 3 → (q_chg t fb fs fr ff i fi fu fz ch ct).2.1 (3 * j + q) = fu (3 * j + q)) ∧
    (q_chg t fb fs fr ff i fi fu fz ch ct).1 i = (if k_c3 (k_c0 (fs i) (fr i) (fi i) (P (ff i)) (P 0) (P 1) (P 2) acc) (P 0) (P 1) (P 2) acc ≤ 0 then fi i else 0) ∧
    (q_chg t fb fs fr ff i fi fu fz ch ct).2.2.1 i = (if k_c3 (k_c0 (fs i) (fr i) (fi i) (P (ff i)) (P 0) (P 1) (P 2) acc) (P 0) (P 1) (P 2) acc ≤ 0 then fz i else nI 0) ∧
    (∀ q : Nat, q < 3 → (q_chg t fb fs fr ff i fi fu fz ch ct).2.1 (3 * i + q) = (if k_c3 (k_c0 (fs i) (fr i) (fi i) (P (ff i)) (P 0) (P 1) (P 2) acc) (P 0) (P 1) (P 2) acc ≤ 0 then k_a3 (k_c0 (fs i) (fr i) (fi i) (P (ff i)) (P 0) (P 1) (P 2) acc) (P 0) (P 1) (P 2) acc else k_zero (k_a3 (k_c0 (fs i) (fr i) (fi i) (P (ff i)) (P 0) (P 1) (P 2) acc) (P 0) (P 1) (P 2) acc)) q) ∧
    (q_chg t fb fs fr ff i fi fu fz ch ct).2.2.2.1 = ch + (k_c0 (fs i) (fr i) (fi i) (P (ff i)) (P 0) (P 1) (P 2) acc - k_c3 (k_c0 (fs i) (fr i) (fi i) (P (ff i)) (P 0) (P 1) (P 2) acc) (P 0) (P 1) (P 2) acc) ∧
    (q_chg t fb fs fr ff i fi fu fz ch ct).2.2.2.2 = (if k_c3 (k_c0 (fs i) (fr i) (fi i) (P (ff i)) (P 0) (P 1) (P 2) acc) (P 0) (P 1) (P 2) acc ≤ 0 then ct else ct + 1) := by
  have ha : ∀ q : Nat, q < 3 → acc q = q_a fu i q := hacc
  rw [hP _ hff, hP 0 (by omega), hP 1 (by omega), hP 2 (by omega)]
  have e0 : k_c0 (fs i) (fr i) (fi i) (q_p fb t (ff i)) (q_p fb t 0) (q_p fb t 1) (q_p fb t 2) acc = q_c t fb fs fr ff fi fu i := k_c0_c ha
  rw [e0]
  have e3 : k_c3 (q_c t fb fs fr ff fi fu i) (q_p fb t 0) (q_p fb t 1) (q_p fb t 2) acc = q_c3 t fb fs fr ff fi fu i := k_c3_c ha
  rw [e3]
  have eA : ∀ q : Nat, q < 3 → k_a3 (q_c t fb fs fr ff fi fu i) (q_p fb t 0) (q_p fb t 1) (q_p fb t 2) acc q = q_un t fb fs fr ff fi fu i (3 * i + q) := by
    intro q hq
    unfold q_un
    rw [k_un_at hq]
    obtain ⟨x0, x1, x2⟩ := k_a3_at (c := q_c t fb fs fr ff fi fu i) (p0 := q_p fb t 0) (p1 := q_p fb t 1) (p2 := q_p fb t 2) (a := acc)
    obtain ⟨y0, y1, y2⟩ := k_a3_at (c := q_c t fb fs fr ff fi fu i) (p0 := q_p fb t 0) (p1 := q_p fb t 1) (p2 := q_p fb t 2) (a := q_a fu i)
    rcases (show q = 0 ∨ q = 1 ∨ q = 2 by omega) with rfl | rfl | rfl
    · rw [x0, y0, ha 0 (by omega)]
    · rw [x1, y1, ha 1 (by omega), k_c1_c ha]
    · rw [x2, y2, ha 2 (by omega), k_c2_c ha]
  have eG : q_ch t fb fs fr ff fi fu i ch = ch + (q_c t fb fs fr ff fi fu i - q_c3 t fb fs fr ff fi fu i) := k_g_sum
  unfold q_chg
  by_cases h : q_c3 t fb fs fr ff fi fu i ≤ 0
  · rw [if_pos h, if_pos h, if_pos h, if_pos h, if_pos h]
    refine ⟨fun j hj => ⟨rfl, rfl, fun q hq => k_un_ne hq hj⟩, rfl, rfl, fun q hq => (eA q hq).symm, eG, rfl⟩
  · rw [if_neg h, if_neg h, if_neg h, if_neg h, if_neg h]
    refine ⟨fun j hj => ⟨updL_ne hj, upd_ne hj, fun q hq => by show q_zero _ _ _ = _; rw [q_zero_ne hq hj]; exact k_un_ne hq hj⟩, updL_same, upd_same, fun q hq => by show q_zero _ _ _ = _; rw [q_zero_at hq, k_zero_at hq], eG, rfl⟩
theorem q_step_at {t i : Nat} {fb fs fr : Nat → Int32} {ff : Nat → Nat} {fi fu : Nat → Int64} {fz : Nat → Int32} {ch : Int64} {ct : Nat} (hz : ¬ fz i = 0) (hff : ff i < 3) {acc a1 : Nat → Int64} (hacc : ∀ q : Nat, q < 3 → acc q = fu (3 * i + q)) {P : Nat → Int32} (hP : ∀ q : Nat, q < 3 → P q = q_p fb t q) {i1 c0 : Int64}
    (hi1 : i1 = (if t < 720 then fi i * 99 / 100 else 0)) (ha1 : a1 = (if t < 720 then acc else vp_updL acc (ff i) (k_add (acc (ff i)) (fi i * 99 / 100 * 9 / 10)))) (hc0 : c0 = k_c0 (fs i) (fr i) i1 (P (ff i)) (P 0) (P 1) (P 2) a1) :
    (∀ j : Nat, j ≠ i → (q_step t fb fs fr ff i fi fu fz ch ct).1 j = fi j ∧ (q_step t fb fs fr ff i fi fu fz ch ct).2.2.1 j = fz j ∧ ∀ q : Nat, q < 3 → (q_step t fb fs fr ff i fi fu fz ch ct).2.1 (3 * j + q) = fu (3 * j + q)) ∧
    (q_step t fb fs fr ff i fi fu fz ch ct).1 i = (if k_c3 c0 (P 0) (P 1) (P 2) a1 ≤ 0 then i1 else 0) ∧
    (q_step t fb fs fr ff i fi fu fz ch ct).2.2.1 i = (if k_c3 c0 (P 0) (P 1) (P 2) a1 ≤ 0 then fz i else nI 0) ∧
    (∀ q : Nat, q < 3 → (q_step t fb fs fr ff i fi fu fz ch ct).2.1 (3 * i + q) = (if k_c3 c0 (P 0) (P 1) (P 2) a1 ≤ 0 then k_a3 c0 (P 0) (P 1) (P 2) a1 else k_zero (k_a3 c0 (P 0) (P 1) (P 2) a1)) q) ∧
    (q_step t fb fs fr ff i fi fu fz ch ct).2.2.2.1 = ch + (c0 - k_c3 c0 (P 0) (P 1) (P 2) a1) ∧
    (q_step t fb fs fr ff i fi fu fz ch ct).2.2.2.2 = (if k_c3 c0 (P 0) (P 1) (P 2) a1 ≤ 0 then ct else ct + 1) := by
  unfold q_step
  rw [if_neg hz]
  by_cases ht : t < 720
  · rw [if_pos ht] at hi1 ha1 ⊢
    subst ha1
    subst hi1
    subst hc0
    obtain ⟨x1, x2, x3, x4, x5, x6⟩ := q_chg_at (t := t) (i := i) (fb := fb) (fs := fs) (fr := fr) (ff := ff) (fi := vp_updL fi i (fi i * 99 / 100)) (fu := fu) (fz := fz) (ch := ch) (ct := ct) hff hacc hP
    rw [updL_same] at x2 x3 x4 x5 x6
    exact ⟨fun j hj => ⟨(x1 j hj).1.trans (updL_ne hj), (x1 j hj).2⟩, x2, x3, x4, x5, x6⟩
  · rw [if_neg ht] at hi1 ha1 ⊢
    subst hi1
    subst hc0
    have hacc1 : ∀ q : Nat, q < 3 → a1 q = vp_updL fu (3 * i + ff i) (k_add (fu (3 * i + ff i)) (fi i * 99 / 100 * 9 / 10)) (3 * i + q) := by
      intro q hq
      rw [ha1]
      unfold vp_updL
      by_cases h : q = ff i
      · rw [if_pos h, if_pos (by omega), hacc _ hff]
      · rw [if_neg h, if_neg (by omega), hacc q hq]
    obtain ⟨x1, x2, x3, x4, x5, x6⟩ := q_chg_at (t := t) (i := i) (fb := fb) (fs := fs) (fr := fr) (ff := ff) (fi := vp_updL (vp_updL fi i (fi i * 99 / 100)) i 0) (fu := vp_updL fu (3 * i + ff i) (k_add (fu (3 * i + ff i)) (fi i * 99 / 100 * 9 / 10))) (fz := fz) (ch := ch) (ct := ct) hff hacc1 hP
    rw [updL_same] at x2 x3 x4 x5 x6
    refine ⟨fun j hj => ⟨(x1 j hj).1.trans ((updL_ne hj).trans (updL_ne hj)), (x1 j hj).2.1, fun q hq => ((x1 j hj).2.2 q hq).trans (updL_ne (by omega))⟩, x2, x3, x4, x5, x6⟩
theorem q_ord_p {t k : Nat} {fb fp : Nat → Int32} {ff fo : Nat → Nat} {fq : Nat → Int32} {fx fy : Nat → Nat} {fi fu : Nat → Int64} {fa : Nat → Nat} (hk : fq k = (-1)) (hff : ff (fo k) < 3) {acc : Nat → Int64} (hacc : ∀ q : Nat, q < 3 → acc q = fu (3 * fo k + q)) {pz : Int32} (hp : pz = q_p fb t (ff (fo k))) :
    (∀ j : Nat, j ≠ fo k → (q_ord t fb fp ff fo fq fx fy k fi fu fa).1 j = fi j ∧ (q_ord t fb fp ff fo fq fx fy k fi fu fa).2.2 j = fa j ∧ ∀ q : Nat, q < 3 → (q_ord t fb fp ff fo fq fx fy k fi fu fa).2.1 (3 * j + q) = fu (3 * j + q)) ∧
    (q_ord t fb fp ff fo fq fx fy k fi fu fa).1 (fo k) = (if 12 ≤ fa (fo k) then fi (fo k) else fi (fo k) + k_prem (fp (fo k)) pz) ∧
    (q_ord t fb fp ff fo fq fx fy k fi fu fa).2.2 (fo k) = fa (fo k) + 1 ∧
    (∀ q : Nat, q < 3 → (q_ord t fb fp ff fo fq fx fy k fi fu fa).2.1 (3 * fo k + q) = (if 12 ≤ fa (fo k) then vp_updL acc (ff (fo k)) (k_add (acc (ff (fo k))) (k_prem (fp (fo k)) pz)) else acc) q) := by
  subst hp
  unfold q_ord
  rw [if_pos hk]
  by_cases h : 12 ≤ fa (fo k)
  · have h2 : ¬ fa (fo k) + 1 ≤ 12 := by omega
    simp only [if_pos h, if_neg h2]
    refine ⟨fun j hj => ⟨trivial, up_ne hj, fun q hq => updL_ne (by omega)⟩, trivial, up_same, fun q hq => ?_⟩
    unfold vp_updL
    by_cases h3 : q = ff (fo k)
    · rw [if_pos h3, if_pos (by omega), hacc _ hff]
    · rw [if_neg h3, if_neg (by omega), hacc q hq]
  · have h2 : fa (fo k) + 1 ≤ 12 := by omega
    simp only [if_neg h, if_pos h2]
    exact ⟨fun j hj => ⟨updL_ne hj, up_ne hj, fun q hq => trivial⟩, updL_same, up_same, fun q hq => (hacc q hq).symm⟩
theorem q_ord_s {t k : Nat} {fb fp : Nat → Int32} {ff fo : Nat → Nat} {fq : Nat → Int32} {fx fy : Nat → Nat} {fi fu : Nat → Int64} {fa : Nat → Nat} (hk : ¬ fq k = (-1)) (hx : fx k < 3) (hy : fy k < 3) {acc : Nat → Int64} (hacc : ∀ q : Nat, q < 3 → acc q = fu (3 * fo k + q)) {px py : Int32} (hpx : px = q_p fb t (fx k)) (hpy : py = q_p fb t (fy k)) :
    (∀ j : Nat, j ≠ fo k → (q_ord t fb fp ff fo fq fx fy k fi fu fa).1 j = fi j ∧ (q_ord t fb fp ff fo fq fx fy k fi fu fa).2.2 j = fa j ∧ ∀ q : Nat, q < 3 → (q_ord t fb fp ff fo fq fx fy k fi fu fa).2.1 (3 * j + q) = fu (3 * j + q)) ∧
    (q_ord t fb fp ff fo fq fx fy k fi fu fa).1 (fo k) = fi (fo k) ∧ (q_ord t fb fp ff fo fq fx fy k fi fu fa).2.2 (fo k) = fa (fo k) ∧
    (∀ q : Nat, q < 3 → (q_ord t fb fp ff fo fq fx fy k fi fu fa).2.1 (3 * fo k + q) = k_switch acc (fx k) (fy k) (fq k) px py q) := by
  subst hpx
  subst hpy
  unfold q_ord
  rw [if_neg hk]
  refine ⟨fun j hj => ⟨rfl, rfl, fun q hq => ?_⟩, rfl, rfl, fun q hq => ?_⟩
  · show q_switch _ _ _ _ _ _ _ _ = _
    unfold q_switch
    rw [updL_ne (by omega), updL_ne (by omega)]
  · show q_switch _ _ _ _ _ _ _ _ = _
    unfold q_switch k_switch
    have hin : ∀ z : Nat, z < 3 → vp_updL fu (3 * fo k + fx k) (fu (3 * fo k + fx k) - fu (3 * fo k + fx k) * (fq k).toInt64 / 100) (3 * fo k + z) = vp_updL acc (fx k) (acc (fx k) - acc (fx k) * (fq k).toInt64 / 100) z := by
      intro z hz
      unfold vp_updL
      by_cases h : z = fx k
      · rw [if_pos h, if_pos (by omega), hacc _ hx]
      · rw [if_neg h, if_neg (by omega), hacc z hz]
    by_cases h : q = fy k
    · subst h
      rw [updL_same, updL_same, hin _ hy, hacc _ hx]
    · rw [updL_ne (by omega), updL_ne h, hin q hq]
