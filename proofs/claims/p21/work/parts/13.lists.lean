/-! LISTS: ArrayList's own methods, and the constructors -/
theorem HS.go {A B : Nat → Prop} {em : Nat} {s : State} {H : Heap} {locs : List Loc} (h : HS A em s s.heap) (hS : va_S A s.heap H locs) (hF : ∀ q, B q → A q) : HS B em s H := (h.kept (fun a h1 h2 => hS.2.1 a h1 h2)).narrow hF
theorem EL.go {A B : Nat → Prop} {f : Nat → Option Nat} {n : Nat} {s : State} {H : Heap} {locs : List Loc} (h : EL A f n s s.heap) (hS : va_S A s.heap H locs) (hF : ∀ q, B q → A q) : EL B f n s H := fun i hi y hy => ⟨fun q => (h i hi y hy).1 (hF y q), h.at hS i hi y hy⟩
theorem EV.go {A B : Nat → Prop} {v : Nat} {s : State} {H : Heap} {locs : List Loc} (h : EV A v s s.heap) (hS : va_S A s.heap H locs) (hF : ∀ q, B q → A q) : EV B v s H := ⟨fun q => h.1 (hF v q), h.at hS⟩
theorem arr_recv {D : va_G} {wd : va_W} {tys : List (ClassId × FieldType)} {s : State} {H : Heap} (hK : va_K D vwCl tys s) (hP : va_P D vwCl wd H) (q0 t0 : Nat) {a : Nat} {cA : ClassId} {x : vp_A} {C : String} (ha : wd[q0]? = some (a, .inl (cA, x))) (ht : tys[t0]? = some (cA, .object C)) : ∃ cell : Cell, H[a]? = some cell ∧ cell.vm.isStatics = false ∧ s.vm.findClass ("[" ++ (FieldType.object C).toString) = some cell.cls := by
  obtain ⟨_, _, _, _, _, e1⟩ := (hK.2 t0 _ ht).2
  have h1 : H[a]? = some (vp_cell cA x) := hP q0 _ ha
  refine ⟨_, h1, ?_, ?_⟩
  · obtain ⟨n, f⟩ := x
    rcases f with f | f | f | f | f <;> rfl
  · obtain ⟨n, f⟩ := x
    rcases f with f | f | f | f | f <;> exact e1
def a_clr (f : Nat → Option Nat) (i : Nat) : Nat → Option Nat := fun j => if j < i then none else f j
theorem a_clr0 {f : Nat → Option Nat} : a_clr f 0 = f := by
  funext j
  exact if_neg (Nat.not_lt_zero j)
theorem a_clrS {f : Nat → Option Nat} {i : Nat} : va_up (a_clr f i) i none = a_clr f (i + 1) := by
  funext j
  unfold va_up a_clr
  by_cases h : j = i
  · rw [if_pos h, if_pos (by omega)]
  · rw [if_neg h]
    by_cases h2 : j < i
    · rw [if_pos h2, if_pos (by omega)]
    · rw [if_neg h2, if_neg (by omega)]
theorem a_len {n : Nat} (h2 : 2 ≤ n) (hn : n ≤ 40000) : nI n + (if nI 1 < nI (n / 2) then nI (n / 2) else nI 1) = nI (n + n / 2) := by
  by_cases c : 1 < n / 2
  · rw [if_pos ((nI_ltI (by omega) (by omega)).mpr c), nI_add]
  · rw [if_neg (fun q => c ((nI_ltI (by omega) (by omega)).mp q)), nI_add, show n / 2 = 1 by omega]
theorem a_shr {n : Nat} (hn : n ≤ 40000) : nI n >>> (nI 1 &&& 31) = nI (n / 2) := by
  have k := pk_shrN (n := n) (by omega) (nI 1 &&& 31) 1 (by decide)
  rw [Nat.pow_one] at k
  exact k
set_option maxHeartbeats 4000000 in
set_option maxRecDepth 100000 in
/-- ArrayList.size() -/
theorem m_Jx4a65c_size_8abf5 (l : Launch) (D : va_G) (li : Nat) (mc : Int32) (ed n : Nat)  : Met l yJx4a65c_size_8abf5 wsJx4a65c_size_8abf5 ({ frames := 0, cells := 0, slots := 0, locals := 0 }) (z1 D [(li, .inr (0, [.int mc, .ref ed, .int (nI n)]))] [] [.ref li]) (vp_Si (fun r => r = nI n)) 0 0 (fun _ => False) := by
  refine zm1 (cc := cJx4a65c_size_8abf5) (maxL := 1) (ret := (some .int)) (by decide) rfl (Nat.le_of_ble_eq_true rfl) ?_
  intro p e s m below meth c ls hx hb hml hr hlocks hown hts hP hK hG hl
  have hl : lv_has ls 1 [(0, .ref li)] := hl
  have k_0 := hts (.fieldLink RJx4a65c 48 "java/util/ArrayList" "size" "I") (List.mem_of_getElem? (i := 1) rfl)
  have i_RJx4a65c : ∀ w ∈ u_ws RJx4a65c TJx4a65c 3, w ∈ wsJx4a65c_size_8abf5 := by decide +kernel
  refine lv_aload_n hx hb dJx4a65c_size_8abf5_0 rfl (lv_at hl 0 rfl) ?_
  refine va_get (D := D) (ci := 0) (v := .int (nI n)) (C := RJx4a65c) (T := TJx4a65c) (N := 3) hx hb hts i_RJx4a65c hown hK hP 0 rfl rfl 2 (by decide) k_0 (fun _ h9 => h9) rfl dJx4a65c_size_8abf5_1 ?_
  exact zreti1 hx hb hr hlocks dJx4a65c_size_8abf5_4 (by first | rfl | (subst_vars; rfl))

set_option maxHeartbeats 4000000 in
set_option maxRecDepth 100000 in
/-- Preconditions.checkIndex(i, n, null) -/
theorem m_J3_checkIndex_8e157 (l : Launch) (i n : Nat) (h1 : i < n) (h2 : n < 2 ^ 31) : Met l yJ3_checkIndex_8e157 wsJ3_checkIndex_8e157 ({ frames := 0, cells := 0, slots := 0, locals := 0 }) (z0 [.int (nI i), .int (nI n), .null]) (vp_Si (fun r => r = nI i)) 0 0 (fun _ => False) := by
  refine zm0 (cc := cJ3_checkIndex_8e157) (maxL := 3) (ret := (some .int)) (by decide) rfl (Nat.le_of_ble_eq_true rfl) ?_
  intro p e s m below meth c ls hx hb hml hr hlocks hown hts hl
  have hl : lv_has ls 3 [(0, .int (nI i)), (1, .int (nI n)), (2, .null)] := hl
  refine lv_iload_n hx hb dJ3_checkIndex_8e157_0 rfl (lv_at hl 0 rfl) ?_
  refine lv_if_lt (tgt := 9) hx hb dJ3_checkIndex_8e157_1 (by decide) (fun h9 => absurd h9 (fun h8 => absurd ((nI_ltI (a := i) (b := 0) (by omega) (by omega)).mp h8) (by omega))) (fun _ => ?_)
  refine lv_iload_n hx hb dJ3_checkIndex_8e157_4 rfl (lv_at hl 0 rfl) ?_
  refine lv_iload_n hx hb dJ3_checkIndex_8e157_5 rfl (lv_at hl 1 rfl) ?_
  refine lv_icmp_lt (tgt := 16) hx hb dJ3_checkIndex_8e157_6 (by decide) (fun _ => ?_) (fun h9 => absurd ((nI_ltI (a := i) (b := n) (by omega) (by omega)).mpr (by omega)) h9)
  refine lv_iload_n hx hb dJ3_checkIndex_8e157_16 rfl (lv_at hl 0 rfl) ?_
  exact zreti1 hx hb hr hlocks dJ3_checkIndex_8e157_17 (by first | rfl | (subst_vars; rfl))

set_option maxHeartbeats 4000000 in
set_option maxRecDepth 100000 in
/-- Objects.checkIndex(i, n) -/
theorem m_J15_checkIndex_7cf53 (l : Launch) (i n : Nat) (h1 : i < n) (h2 : n < 2 ^ 31) : Met l yJ15_checkIndex_7cf53 wsJ15_checkIndex_7cf53 ({ frames := 1, cells := 0, slots := 0, locals := 22 }) (z0 [.int (nI i), .int (nI n)]) (vp_Si (fun r => r = nI i)) 0 0 (fun _ => False) := by
  refine zm0 (cc := cJ15_checkIndex_7cf53) (maxL := 2) (ret := (some .int)) (by decide) rfl (Nat.le_of_ble_eq_true rfl) ?_
  intro p e s m below meth c ls hx hb hml hr hlocks hown hts hl
  have hl : lv_has ls 2 [(0, .int (nI i)), (1, .int (nI n))] := hl
  refine lv_iload_n hx hb dJ15_checkIndex_7cf53_0 rfl (lv_at hl 0 rfl) ?_
  refine lv_iload_n hx hb dJ15_checkIndex_7cf53_1 rfl (lv_at hl 1 rfl) ?_
  refine lv_null hx hb dJ15_checkIndex_7cf53_2 ?_
  refine vp_callSi (W.runS (As := [.int (nI i), .int (nI n), .null]) (rest := []) ⟨hx, hb, hml, hown, hts⟩ (m_J3_checkIndex_8e157 l i n (by first | omega | assumption) (by first | omega | assumption)) (va_cwS 3 hts gJ15_checkIndex_7cf53_J3_checkIndex_8e157 rfl rfl rfl (by decide +kernel) ⟨Nat.le_of_ble_eq_true rfl, Nat.le_of_ble_eq_true rfl⟩) z0_S rfl rfl hl.1 rfl (lv_room (Nat.le_of_ble_eq_true rfl)) dJ15_checkIndex_7cf53_3 ⟨Nat.le_of_ble_eq_true rfl, Nat.le_of_ble_eq_true rfl⟩) (fun r_1 e_r_1 => ?_)
  replace e_r_1 := e_r_1.symm; subst e_r_1
  exact zreti1 hx hb hr hlocks dJ15_checkIndex_7cf53_6 (by first | rfl | (subst_vars; rfl))

set_option maxHeartbeats 4000000 in
set_option maxRecDepth 100000 in
/-- elementData(i) -/
theorem m_Jx4a65c_elementData_915e3 (l : Launch) (D : va_G) (li : Nat) (mc : Int32) (ed cap n : Nat) (cO : ClassId) (fr : Nat → Option Nat) (i v : Nat) (h1 : i < cap) (h3 : cap < 2 ^ 31) (hv : fr i = some v) : Met l yJx4a65c_elementData_915e3 wsJx4a65c_elementData_915e3 ({ frames := 0, cells := 0, slots := 0, locals := 0 }) (z1 D [(li, .inr (0, [.int mc, .ref ed, .int (nI n)])), (ed, .inl (cO, cap, .inr (.inr (.inr (.inr fr)))))] [(cO, .object "java/lang/Object")] [.ref li, .int (nI i)]) (va_Sq (fun r => r = some v)) 0 0 (fun _ => False) := by
  refine zm1 (cc := cJx4a65c_elementData_915e3) (maxL := 2) (ret := (some (.object "java/lang/Object"))) (by decide) rfl (Nat.le_of_ble_eq_true rfl) ?_
  intro p e s m below meth c ls hx hb hml hr hlocks hown hts hP hK hG hl
  have hl : lv_has ls 2 [(0, .ref li), (1, .int (nI i))] := hl
  have k_0 := hts (.fieldLink RJx4a65c 9 "java/util/ArrayList" "elementData" "[Ljava/lang/Object;") (List.mem_of_getElem? (i := 1) rfl)
  have i_RJx4a65c : ∀ w ∈ u_ws RJx4a65c TJx4a65c 3, w ∈ wsJx4a65c_elementData_915e3 := by decide +kernel
  refine lv_aload_n hx hb dJx4a65c_elementData_915e3_0 rfl (lv_at hl 0 rfl) ?_
  refine va_get (D := D) (ci := 0) (v := .ref ed) (C := RJx4a65c) (T := TJx4a65c) (N := 3) hx hb hts i_RJx4a65c hown hK hP 0 rfl rfl 1 (by decide) k_0 (fun _ h9 => h9) rfl dJx4a65c_elementData_915e3_1 ?_
  refine lv_iload_n hx hb dJx4a65c_elementData_915e3_4 rfl (lv_at hl 1 rfl) ?_
  refine zx_qald (D := D) hx hb hK hP 1 0 rfl rfl (v := v) (hv) (by omega) (by first | decide | omega) dJx4a65c_elementData_915e3_5 ?_
  exact zretr1 hx hb hr (Or.inl ⟨_, rfl⟩) hlocks dJx4a65c_elementData_915e3_6

set_option maxHeartbeats 4000000 in
set_option maxRecDepth 100000 in
/-- get(i) -/
theorem m_Jx4a65c_get_915e3 (l : Launch) (D : va_G) (li : Nat) (mc : Int32) (ed cap n : Nat) (cO : ClassId) (fr : Nat → Option Nat) (i v : Nat) (h1 : i < n) (h2 : n ≤ cap) (h3 : cap < 2 ^ 31) (hv : fr i = some v) : Met l yJx4a65c_get_915e3 wsJx4a65c_get_915e3 ({ frames := 2, cells := 0, slots := 0, locals := 43 }) (z1 D [(li, .inr (0, [.int mc, .ref ed, .int (nI n)])), (ed, .inl (cO, cap, .inr (.inr (.inr (.inr fr)))))] [(cO, .object "java/lang/Object")] [.ref li, .int (nI i)]) (va_Sq (fun r => r = some v)) 0 0 (fun _ => False) := by
  refine zm1 (cc := cJx4a65c_get_915e3) (maxL := 2) (ret := (some (.object "java/lang/Object"))) (by decide) rfl (Nat.le_of_ble_eq_true rfl) ?_
  intro p e s m below meth c ls hx hb hml hr hlocks hown hts hP hK hG hl
  have hl : lv_has ls 2 [(0, .ref li), (1, .int (nI i))] := hl
  have k_0 := hts (.fieldLink RJx4a65c 48 "java/util/ArrayList" "size" "I") (List.mem_of_getElem? (i := 1) rfl)
  have i_RJx4a65c : ∀ w ∈ u_ws RJx4a65c TJx4a65c 3, w ∈ wsJx4a65c_get_915e3 := by decide +kernel
  refine lv_iload_n hx hb dJx4a65c_get_915e3_0 rfl (lv_at hl 1 rfl) ?_
  refine lv_aload_n hx hb dJx4a65c_get_915e3_1 rfl (lv_at hl 0 rfl) ?_
  refine va_get (D := D) (ci := 0) (v := .int (nI n)) (C := RJx4a65c) (T := TJx4a65c) (N := 3) hx hb hts i_RJx4a65c hown hK hP 0 rfl rfl 2 (by decide) k_0 (fun _ h9 => h9) rfl dJx4a65c_get_915e3_2 ?_
  refine vp_callSi (W.runS (As := [.int (nI i), .int (nI n)]) (rest := []) ⟨hx, hb, hml, hown, hts⟩ (m_J15_checkIndex_7cf53 l i n (by first | omega | assumption) (by first | omega | assumption)) (va_cwS 2 hts gJx4a65c_get_915e3_J15_checkIndex_7cf53 rfl rfl rfl (by decide +kernel) ⟨Nat.le_of_ble_eq_true rfl, Nat.le_of_ble_eq_true rfl⟩) z0_S rfl rfl hl.1 rfl (lv_room (Nat.le_of_ble_eq_true rfl)) dJx4a65c_get_915e3_5 ⟨Nat.le_of_ble_eq_true rfl, Nat.le_of_ble_eq_true rfl⟩) (fun r_1 e_r_1 => ?_)
  replace e_r_1 := e_r_1.symm; subst e_r_1
  refine lv_pop hx hb dJx4a65c_get_915e3_8 rfl ?_
  refine lv_aload_n hx hb dJx4a65c_get_915e3_9 rfl (lv_at hl 0 rfl) ?_
  refine lv_iload_n hx hb dJx4a65c_get_915e3_10 rfl (lv_at hl 1 rfl) ?_
  refine va_csq (W.runV (As := [.int (nI i)]) (rest := []) ⟨hx, hb, hml, hown, hts⟩ (m_Jx4a65c_elementData_915e3 l D li mc ed cap n cO fr i v (by first | omega | assumption) (by first | omega | assumption) (by first | omega | assumption)) (cwV 1 hts gJx4a65c_get_915e3_Jx4a65c_elementData_915e3 rfl rfl rfl (by decide +kernel) ⟨Nat.le_of_ble_eq_true rfl, Nat.le_of_ble_eq_true rfl⟩) (z1_V (va_recv hK hP (ci := 0) (q0 := 0) rfl rfl) (hP.sub (ws' := [(li, .inr (0, [.int mc, .ref ed, .int (nI n)])), (ed, .inl (cO, cap, .inr (.inr (.inr (.inr fr)))))]) [0, 1] rfl) (hK.sub (tys' := [(cO, .object "java/lang/Object")]) [0] rfl) hG) rfl rfl hl.1 rfl (lv_room (Nat.le_of_ble_eq_true rfl)) dJx4a65c_get_915e3_11 ⟨Nat.le_of_ble_eq_true rfl, Nat.le_of_ble_eq_true rfl⟩) (fun r_2 e_r_2 => ?_)
  replace e_r_2 := e_r_2.symm; subst e_r_2
  refine W.eq (g2 := F0 m 14 ls [.ref v]) rfl ?_
  exact zretr1 hx hb hr (Or.inl ⟨_, rfl⟩) hlocks dJx4a65c_get_915e3_14

set_option maxHeartbeats 4000000 in
set_option maxRecDepth 100000 in
/-- clear() -/
theorem m_Jx4a65c_clear_da8c8 (l : Launch) (D : va_G) (li : Nat) (mc : Int32) (ed cap n : Nat) (cO : ClassId) (fr : Nat → Option Nat) (h2 : n ≤ cap) (h3 : cap < 2 ^ 31) (sz : Nat)  : Met l yJx4a65c_clear_da8c8 wsJx4a65c_clear_da8c8 ({ frames := 0, cells := 0, slots := 0, locals := 0 }) (z2 D [(li, .inr (0, [.int mc, .ref ed, .int (nI n)])), (ed, .inl (cO, cap, .inr (.inr (.inr (.inr fr)))))] [(cO, .object "java/lang/Object")] sz [.ref li]) (va_Qv (fun _ : Unit => True) (zB D [(cO, .object "java/lang/Object")] [(li, .inr (0, [.int (mc + nI 1), .ref ed, .int (nI 0)])), (ed, .inl (cO, cap, .inr (.inr (.inr (.inr (a_clr fr n))))))] (va_A [(li, .inr (0, [.int mc, .ref ed, .int (nI n)])), (ed, .inl (cO, cap, .inr (.inr (.inr (.inr fr)))))] sz)) (va_A [(li, .inr (0, [.int mc, .ref ed, .int (nI n)])), (ed, .inl (cO, cap, .inr (.inr (.inr (.inr fr)))))] sz)) 0 0 (va_A [(li, .inr (0, [.int mc, .ref ed, .int (nI n)])), (ed, .inl (cO, cap, .inr (.inr (.inr (.inr fr)))))] sz) := by
  refine zm2 (cc := cJx4a65c_clear_da8c8) (maxL := 4) (ret := none) (by decide) rfl (Nat.le_of_ble_eq_true rfl) ?_
  intro p e s m below meth c ls A hAe hsz hin hx hb hml hr hlocks hown hts hP hK hG hD hA hS hl
  subst hsz
  have hl : lv_has ls 4 [(0, .ref li)] := hl
  have k_0 := hts (.fieldLink RJx4a65c 63 "java/util/ArrayList" "modCount" "I") (List.mem_of_getElem? (i := 1) rfl)
  have i_RJx4a65c : ∀ w ∈ u_ws RJx4a65c TJx4a65c 3, w ∈ wsJx4a65c_clear_da8c8 := by decide +kernel
  have k_2 := hts (.sameField "java/util/ArrayList" "java/util/AbstractList" "modCount" "I") (List.mem_of_getElem? (i := 2) rfl)
  have k_3 := hts (.fieldLink RJx4a65c 9 "java/util/ArrayList" "elementData" "[Ljava/lang/Object;") (List.mem_of_getElem? (i := 3) rfl)
  have k_4 := hts (.fieldLink RJx4a65c 48 "java/util/ArrayList" "size" "I") (List.mem_of_getElem? (i := 4) rfl)
  generalize hQ : MQ below _ _ _ _ _ _ = Q
  refine lv_aload_n hx hb dJx4a65c_clear_da8c8_0 rfl (lv_at hl 0 rfl) ?_
  refine lv_dup hx hb dJx4a65c_clear_da8c8_1 rfl ?_
  refine va_get (D := D) (ci := 0) (v := .int mc) (C := RJx4a65c) (T := TJx4a65c) (N := 3) hx hb hts i_RJx4a65c hown hK hP 0 rfl rfl 0 (by decide) k_0 (fun x h9 => u_same k_2 x h9) rfl dJx4a65c_clear_da8c8_2 ?_
  refine lv_iconst (v := nI 1) hx hb dJx4a65c_clear_da8c8_5 (by decide) ?_
  refine zx_iadd (v := mc + (nI 1)) hx hb dJx4a65c_clear_da8c8_6 (rfl) ?_
  refine va_put (D := D) (ci := 0) (v := .int (mc + (nI 1))) (ty := .int) (C := RJx4a65c) (T := TJx4a65c) (N := 3) hx hb hts i_RJx4a65c tyJx4a65c tyJx4a65c_ok nmJx4a65c hown hK hP hD hS 0 rfl rfl 0 (by decide) k_0 (fun x h9 => u_same k_2 x h9) rfl (by decide +kernel) rfl rfl (Nat.le_of_ble_eq_true rfl) dJx4a65c_clear_da8c8_7 (fun H locs hP hD hS => ?_)
  have hP : va_P D vwCl [(li, .inr (0, [.int (mc + (nI 1)), .ref ed, .int (nI n)])), (ed, .inl (cO, cap, .inr (.inr (.inr (.inr fr)))))] H := hP
  have hD : va_D A [(li, .inr (0, [.int (mc + (nI 1)), .ref ed, .int (nI n)])), (ed, .inl (cO, cap, .inr (.inr (.inr (.inr fr)))))] := hD
  refine lv_aload_n hx hb dJx4a65c_clear_da8c8_10 rfl (lv_at hl 0 rfl) ?_
  refine va_get (D := D) (ci := 0) (v := .ref ed) (C := RJx4a65c) (T := TJx4a65c) (N := 3) hx hb hts i_RJx4a65c hown hK hP 0 rfl rfl 1 (by decide) k_3 (fun _ h9 => h9) rfl dJx4a65c_clear_da8c8_11 ?_
  refine lv_astore_n (lv' := [(1, .ref ed), (0, .ref li)]) hx hb dJx4a65c_clear_da8c8_14 rfl hl (by decide) rfl (fun ls hl => ?_)
  refine lv_aload_n hx hb dJx4a65c_clear_da8c8_15 rfl (lv_at hl 1 rfl) ?_
  refine va_get (D := D) (ci := 0) (v := .int (nI n)) (C := RJx4a65c) (T := TJx4a65c) (N := 3) hx hb hts i_RJx4a65c hown hK hP 0 rfl rfl 2 (by decide) k_4 (fun _ h9 => h9) rfl dJx4a65c_clear_da8c8_16 ?_
  refine lv_istore_n (lv' := [(2, .int (nI n)), (1, .ref ed), (0, .ref li)]) hx hb dJx4a65c_clear_da8c8_19 rfl hl (by decide) rfl (fun ls hl => ?_)
  refine lv_aload_n hx hb dJx4a65c_clear_da8c8_20 rfl (lv_at hl 2 rfl) ?_
  refine lv_iconst (v := nI 0) hx hb dJx4a65c_clear_da8c8_21 (by decide) ?_
  refine lv_dup_x1 hx hb dJx4a65c_clear_da8c8_22 rfl rfl ?_
  refine va_put (D := D) (ci := 0) (v := .int (nI 0)) (ty := .int) (C := RJx4a65c) (T := TJx4a65c) (N := 3) hx hb hts i_RJx4a65c tyJx4a65c tyJx4a65c_ok nmJx4a65c hown hK hP hD hS 0 rfl rfl 2 (by decide) k_4 (fun _ h9 => h9) rfl (by decide +kernel) rfl rfl (Nat.le_of_ble_eq_true rfl) dJx4a65c_clear_da8c8_23 (fun H locs hP hD hS => ?_)
  have hP : va_P D vwCl [(li, .inr (0, [.int (mc + (nI 1)), .ref ed, .int (nI 0)])), (ed, .inl (cO, cap, .inr (.inr (.inr (.inr fr)))))] H := hP
  have hD : va_D A [(li, .inr (0, [.int (mc + (nI 1)), .ref ed, .int (nI 0)])), (ed, .inl (cO, cap, .inr (.inr (.inr (.inr fr)))))] := hD
  rw [← a_clr0 (f := fr)] at hP hD
  have hP : va_P D vwCl [(li, .inr (0, [.int (mc + (nI 1)), .ref ed, .int (nI 0)])), (ed, .inl (cO, cap, .inr (.inr (.inr (.inr (a_clr fr 0))))))] H := hP
  have hD : va_D A [(li, .inr (0, [.int (mc + (nI 1)), .ref ed, .int (nI 0)])), (ed, .inl (cO, cap, .inr (.inr (.inr (.inr (a_clr fr 0))))))] := hD
  refine lv_istore_n (lv' := [(3, .int (nI 0)), (2, .int (nI n)), (1, .ref ed), (0, .ref li)]) hx hb dJx4a65c_clear_da8c8_26 rfl hl (by decide) rfl (fun ls hl => ?_)
  have loop_27 : ∀ (d i : Nat) (H : Heap) (locs : List Loc) (ls : Array Slot), i + d = n → va_P D vwCl [(li, .inr (0, [.int (mc + nI 1), .ref ed, .int (nI 0)])), (ed, .inl (cO, cap, .inr (.inr (.inr (.inr (a_clr fr i))))))] H → va_D A [(li, .inr (0, [.int (mc + nI 1), .ref ed, .int (nI 0)])), (ed, .inl (cO, cap, .inr (.inr (.inr (.inr (a_clr fr i))))))] → va_S A s.heap H locs → lv_has ls 4 [(0, .ref li), (1, .ref ed), (2, .int (nI n)), (3, .int (nI i))] → W p l e ({ frames := 0, cells := 0, slots := 0, locals := 0 }) s m (([.ref li] : List Value).toArray) below meth c H locs 0 0 Q (F0 m 27 ls []) := by
    intro d
    induction d with
    | zero =>
      intro i  H locs ls hid  hP hD hS hl
      refine lv_iload_n hx hb dJx4a65c_clear_da8c8_27 rfl (lv_at hl 3 rfl) ?_
      refine lv_iload_n hx hb dJx4a65c_clear_da8c8_28 rfl (lv_at hl 2 rfl) ?_
      refine lv_icmp_ge (tgt := 42) hx hb dJx4a65c_clear_da8c8_29 (by decide) (fun _ => ?_) (fun h9 => absurd ((nI_leI (a := n) (b := i) (by omega) (by omega)).mpr (by omega)) h9)
      rw [show i = n by omega] at hP hD
      subst hQ
      subst hAe
      exact zretv (D := D) (wf := [(li, .inr (0, [.int (mc + nI 1), .ref ed, .int (nI 0)])), (ed, .inl (cO, cap, .inr (.inr (.inr (.inr (a_clr fr n))))))]) hx hb hr hlocks (hP.sub [0, 1] rfl) hK (hD.sub [0, 1] (by decide) rfl) hS dJx4a65c_clear_da8c8_42 (Nat.le_of_ble_eq_true rfl) (Nat.le_of_ble_eq_true rfl)
    | succ d ih =>
      intro i  H locs ls hid  hP hD hS hl
      refine lv_iload_n hx hb dJx4a65c_clear_da8c8_27 rfl (lv_at hl 3 rfl) ?_
      refine lv_iload_n hx hb dJx4a65c_clear_da8c8_28 rfl (lv_at hl 2 rfl) ?_
      refine lv_icmp_ge (tgt := 42) hx hb dJx4a65c_clear_da8c8_29 (by decide) (fun h9 => absurd h9 (fun h8 => absurd ((nI_leI (a := n) (b := i) (by omega) (by omega)).mp h8) (by omega))) (fun _ => ?_)
      refine lv_aload_n hx hb dJx4a65c_clear_da8c8_32 rfl (lv_at hl 1 rfl) ?_
      refine lv_iload_n hx hb dJx4a65c_clear_da8c8_33 rfl (lv_at hl 3 rfl) ?_
      refine lv_null hx hb dJx4a65c_clear_da8c8_34 ?_
      refine zx_qastN (D := D) hx hb hK hP hD hS 1 0 rfl rfl (by omega) (by omega) dJx4a65c_clear_da8c8_35 (fun H locs hP hD hS => ?_)
      have hP : va_P D vwCl [(li, .inr (0, [.int (mc + nI 1), .ref ed, .int (nI 0)])), (ed, .inl (cO, cap, .inr (.inr (.inr (.inr (va_up (a_clr fr i) i none))))))] H := hP
      have hD : va_D A [(li, .inr (0, [.int (mc + nI 1), .ref ed, .int (nI 0)])), (ed, .inl (cO, cap, .inr (.inr (.inr (.inr (va_up (a_clr fr i) i none))))))] := hD
      rw [a_clrS] at hP hD
      have hP : va_P D vwCl [(li, .inr (0, [.int (mc + nI 1), .ref ed, .int (nI 0)])), (ed, .inl (cO, cap, .inr (.inr (.inr (.inr (a_clr fr (i + 1)))))))] H := hP
      have hD : va_D A [(li, .inr (0, [.int (mc + nI 1), .ref ed, .int (nI 0)])), (ed, .inl (cO, cap, .inr (.inr (.inr (.inr (a_clr fr (i + 1)))))))] := hD
      refine lv_iinc (v := nI (i + 1)) (lv' := [(3, .int (nI (i + 1))), (0, .ref li), (1, .ref ed), (2, .int (nI n))]) hx hb dJx4a65c_clear_da8c8_36 hl (k := 3) rfl (nI_1 i) (by decide) rfl (fun ls hl => ?_)
      refine lv_goto (tgt := 27) hx hb dJx4a65c_clear_da8c8_39 (by decide) ?_
      exact ih (i + 1)  H locs ls (by omega)  hP hD hS (lv_sub hl [1, 2, 3, 0] rfl)
  exact loop_27 (n) 0  _ _ ls (by omega)  hP hD hS (lv_sub hl [3, 2, 1, 0] rfl)

set_option maxHeartbeats 4000000 in
set_option maxRecDepth 100000 in
/-- clear() of an empty list -/
theorem m_Jx4a65c_clear_e (l : Launch) (D : va_G) (li : Nat) (mc : Int32) (ed : Nat)  (sz : Nat)  : Met l yJx4a65c_clear_da8c8 wsJx4a65c_clear_da8c8 ({ frames := 0, cells := 0, slots := 0, locals := 0 }) (z2 D [(li, .inr (0, [.int mc, .ref ed, .int (nI 0)]))] [] sz [.ref li]) (va_Qv (fun _ : Unit => True) (zB D [] [(li, .inr (0, [.int (mc + nI 1), .ref ed, .int (nI 0)]))] (va_A [(li, .inr (0, [.int mc, .ref ed, .int (nI 0)]))] sz)) (va_A [(li, .inr (0, [.int mc, .ref ed, .int (nI 0)]))] sz)) 0 0 (va_A [(li, .inr (0, [.int mc, .ref ed, .int (nI 0)]))] sz) := by
  refine zm2 (cc := cJx4a65c_clear_da8c8) (maxL := 4) (ret := none) (by decide) rfl (Nat.le_of_ble_eq_true rfl) ?_
  intro p e s m below meth c ls A hAe hsz hin hx hb hml hr hlocks hown hts hP hK hG hD hA hS hl
  subst hsz
  have hl : lv_has ls 4 [(0, .ref li)] := hl
  have k_0 := hts (.fieldLink RJx4a65c 63 "java/util/ArrayList" "modCount" "I") (List.mem_of_getElem? (i := 1) rfl)
  have i_RJx4a65c : ∀ w ∈ u_ws RJx4a65c TJx4a65c 3, w ∈ wsJx4a65c_clear_da8c8 := by decide +kernel
  have k_2 := hts (.sameField "java/util/ArrayList" "java/util/AbstractList" "modCount" "I") (List.mem_of_getElem? (i := 2) rfl)
  have k_3 := hts (.fieldLink RJx4a65c 9 "java/util/ArrayList" "elementData" "[Ljava/lang/Object;") (List.mem_of_getElem? (i := 3) rfl)
  have k_4 := hts (.fieldLink RJx4a65c 48 "java/util/ArrayList" "size" "I") (List.mem_of_getElem? (i := 4) rfl)
  refine lv_aload_n hx hb dJx4a65c_clear_da8c8_0 rfl (lv_at hl 0 rfl) ?_
  refine lv_dup hx hb dJx4a65c_clear_da8c8_1 rfl ?_
  refine va_get (D := D) (ci := 0) (v := .int mc) (C := RJx4a65c) (T := TJx4a65c) (N := 3) hx hb hts i_RJx4a65c hown hK hP 0 rfl rfl 0 (by decide) k_0 (fun x h9 => u_same k_2 x h9) rfl dJx4a65c_clear_da8c8_2 ?_
  refine lv_iconst (v := nI 1) hx hb dJx4a65c_clear_da8c8_5 (by decide) ?_
  refine zx_iadd (v := mc + (nI 1)) hx hb dJx4a65c_clear_da8c8_6 (rfl) ?_
  refine va_put (D := D) (ci := 0) (v := .int (mc + (nI 1))) (ty := .int) (C := RJx4a65c) (T := TJx4a65c) (N := 3) hx hb hts i_RJx4a65c tyJx4a65c tyJx4a65c_ok nmJx4a65c hown hK hP hD hS 0 rfl rfl 0 (by decide) k_0 (fun x h9 => u_same k_2 x h9) rfl (by decide +kernel) rfl rfl (Nat.le_of_ble_eq_true rfl) dJx4a65c_clear_da8c8_7 (fun H locs hP hD hS => ?_)
  have hP : va_P D vwCl [(li, .inr (0, [.int (mc + (nI 1)), .ref ed, .int (nI 0)]))] H := hP
  have hD : va_D A [(li, .inr (0, [.int (mc + (nI 1)), .ref ed, .int (nI 0)]))] := hD
  refine lv_aload_n hx hb dJx4a65c_clear_da8c8_10 rfl (lv_at hl 0 rfl) ?_
  refine va_get (D := D) (ci := 0) (v := .ref ed) (C := RJx4a65c) (T := TJx4a65c) (N := 3) hx hb hts i_RJx4a65c hown hK hP 0 rfl rfl 1 (by decide) k_3 (fun _ h9 => h9) rfl dJx4a65c_clear_da8c8_11 ?_
  refine lv_astore_n (lv' := [(1, .ref ed), (0, .ref li)]) hx hb dJx4a65c_clear_da8c8_14 rfl hl (by decide) rfl (fun ls hl => ?_)
  refine lv_aload_n hx hb dJx4a65c_clear_da8c8_15 rfl (lv_at hl 1 rfl) ?_
  refine va_get (D := D) (ci := 0) (v := .int (nI 0)) (C := RJx4a65c) (T := TJx4a65c) (N := 3) hx hb hts i_RJx4a65c hown hK hP 0 rfl rfl 2 (by decide) k_4 (fun _ h9 => h9) rfl dJx4a65c_clear_da8c8_16 ?_
  refine lv_istore_n (lv' := [(2, .int (nI 0)), (1, .ref ed), (0, .ref li)]) hx hb dJx4a65c_clear_da8c8_19 rfl hl (by decide) rfl (fun ls hl => ?_)
  refine lv_aload_n hx hb dJx4a65c_clear_da8c8_20 rfl (lv_at hl 2 rfl) ?_
  refine lv_iconst (v := nI 0) hx hb dJx4a65c_clear_da8c8_21 (by decide) ?_
  refine lv_dup_x1 hx hb dJx4a65c_clear_da8c8_22 rfl rfl ?_
  refine va_put (D := D) (ci := 0) (v := .int (nI 0)) (ty := .int) (C := RJx4a65c) (T := TJx4a65c) (N := 3) hx hb hts i_RJx4a65c tyJx4a65c tyJx4a65c_ok nmJx4a65c hown hK hP hD hS 0 rfl rfl 2 (by decide) k_4 (fun _ h9 => h9) rfl (by decide +kernel) rfl rfl (Nat.le_of_ble_eq_true rfl) dJx4a65c_clear_da8c8_23 (fun H locs hP hD hS => ?_)
  have hP : va_P D vwCl [(li, .inr (0, [.int (mc + (nI 1)), .ref ed, .int (nI 0)]))] H := hP
  have hD : va_D A [(li, .inr (0, [.int (mc + (nI 1)), .ref ed, .int (nI 0)]))] := hD
  refine lv_istore_n (lv' := [(3, .int (nI 0)), (2, .int (nI 0)), (1, .ref ed), (0, .ref li)]) hx hb dJx4a65c_clear_da8c8_26 rfl hl (by decide) rfl (fun ls hl => ?_)
  refine lv_iload_n hx hb dJx4a65c_clear_da8c8_27 rfl (lv_at hl 0 rfl) ?_
  refine lv_iload_n hx hb dJx4a65c_clear_da8c8_28 rfl (lv_at hl 1 rfl) ?_
  refine lv_icmp_ge (tgt := 42) hx hb dJx4a65c_clear_da8c8_29 (by decide) (fun _ => ?_) (fun h9 => absurd (by decide) h9)
  subst hAe
  exact zretv (D := D) (wf := [(li, .inr (0, [.int (mc + nI 1), .ref ed, .int (nI 0)]))]) hx hb hr hlocks (hP.sub [0] rfl) hK (hD.sub [0] (by decide) rfl) hS dJx4a65c_clear_da8c8_42 (Nat.le_of_ble_eq_true rfl) (Nat.le_of_ble_eq_true rfl)
