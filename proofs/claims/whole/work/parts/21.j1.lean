section GJ
variable {C : WC} {l0 : Launch} {own : String} {cc : ByteArray} {nL d Mc Ms : Nat} {K : GK} {Q : State → Prop} {cells slots pc t : Nat} {lv lv1 : List (Nat × Value)} {st : List Value} {ws ws1 : va_W}
theorem g_getC (X : Cx C l0 own cc nL d Mc Ms K) {index a n : Nat} {f : Nat → Option Nat} (q0 : Nat) (he : ws[q0]? = some (a, aO C n f)) (hlink : Cond.methodLink own index ⟨"java/lang/Object","getClass","()Ljava/lang/Class;"⟩ ∈ TW) (hrm : (st.map fun v => v.category).sum ≤ 8) (hd : decode cc pc = .ok (.invokevirtual index, 3)) (hpc : pc + 3 = t) (k : G C K Q cells slots t lv (.ref (C.2.2.2 5) :: st) ws) : G C K Q cells slots pc lv (.ref a :: st) ws := by
  obtain ⟨p, l, e, R, s, m, args, below, meth, c, nL⟩ := K
  obtain ⟨rfl, rfl, hx, hb, hml, hown, hT, hK, hN, hE, hlk, hfl, hfr, hlo, hmc, hms⟩ := X
  subst hpc
  intro H locs ls hP hD hS hl
  obtain ⟨_, _, _, _, _, b⟩ := (hK.2 2 (C.2.1 2, .object "java/lang/Object") rfl).2
  exact va_getC (C := "[Ljava/lang/Object;") hx hb (hml.trans hl.1.symm) hown (hT.at args _ hlink) (hT.at args _ q6_5) (hT.at args _ q6_4) (hT.at args _ q1_157) (hT.at args _ q1_171) hE.2.2.2.2.2.2.2.2.2.2.1 ⟨_, hP q0 _ he, rfl, b⟩ (by omega) (by omega) hd (k H locs ls hP hD hS hl)
/-- the receiver is a text that was there before -/
theorem g_callK (X : Cx C l0 own cc nL d Mc Ms K) {y : MethodName} {cy : ByteArray} {ml n9 d1 mc ms index : Nat} {ret : Option FieldType} {post : Option Value → va_W → Prop} {b : Nat} {As rest : List Value} (mt : Mth y cy ml ret n9) (hlink : Cond.methodLink own index y ∈ TW) (hinst : Cond.instanceMethod y ∈ TW) (hsel : Cond.selects y.cls y y ∈ TW) (hz : ∀ (s : State) (H : Heap), EN C.2.2.2 C.2.2.1 s H → va_O y.cls b (AN C.2.2.1) s H) (hM : MM C l0 y cy ml ret d1 mc ms (.ref b :: As) ws post) (hd1 : d1 < d) (hmc9 : cells + mc ≤ Mc) (hms9 : slots + ms ≤ Ms) (hrm : (rest.map fun v => v.category).sum ≤ 8) (hn9 : As.length = n9) (hst : st = As.reverse ++ .ref b :: rest) (hd : decode cc pc = .ok (.invokevirtual index, 3)) (hpc : pc + 3 = t) (k : ∀ (v : Option Value) (ws1 : va_W), post v ws1 → G C K Q (cells + mc) (slots + ms) t lv (v.toList ++ rest) ws1) : G C K Q cells slots pc lv st ws := by
  obtain ⟨p, l, e, R, s, m, args, below, meth, c, nL⟩ := K
  have X9 := X
  obtain ⟨rfl, rfl, hx, hb, hml, hown, hT, hK, hN, hE, hlk, hfl, hfr, hlo, hmc, hms⟩ := X
  intro H locs ls hP hD hS hl
  subst hst
  refine run_at hS hl (va_runV (As := As) (b := b) (Ts := TW) ⟨hx, hb, hml, hown, hT.at args⟩ hM ⟨cb_at X9 mt hlink hd1, hT.at args _ hinst, hT.at args _ hsel⟩ ⟨wh_blind, by
    obtain ⟨cell, h1, h2, h3, -⟩ := (hz _ _ hE).kept hS.2.1
    exact ⟨cell, h1, h2, h3⟩, fun U hU hW => ⟨rfl, wh_at X9 hP hD hS U hU hW⟩⟩ rfl hn9 hl.1 rfl (lv_room hrm) hd ⟨Nat.le_trans hmc9 hmc, Nat.le_trans hms9 hms⟩) hpc k
theorem k_ex {T : Type} {rest : List Value} {v0 : T → Value} {w0 : T → va_W} {P : T → Prop} (h : ∀ x : T, P x → G C K Q cells slots t lv (v0 x :: rest) (w0 x)) : ∀ (v : Option Value) (ws1 : va_W), (∃ x : T, P x ∧ v = some (v0 x) ∧ ws1 = w0 x) → G C K Q cells slots t lv (v.toList ++ rest) ws1 := by
  rintro _ _ ⟨x, hx, rfl, rfl⟩; exact h x hx
theorem k_exn {T : Type} {rest : List Value} {w0 : T → va_W} {P : T → Prop} (h : ∀ x : T, P x → G C K Q cells slots t lv rest (w0 x)) : ∀ (v : Option Value) (ws1 : va_W), (∃ x : T, P x ∧ v = none ∧ ws1 = w0 x) → G C K Q cells slots t lv (v.toList ++ rest) ws1 := by
  rintro _ _ ⟨x, hx, rfl, rfl⟩; exact h x hx
end GJ

set_option maxHeartbeats 4000000 in
set_option maxRecDepth 100000 in
/-- size() -/
theorem c_Jx4a65c_size_8abf5 {C : WC} {l : Launch} (hfl : l.stackTraces = false) {ws : va_W} {al : Nat} {E : Int × Nat} {n : Int}  (qa : Nat) (hea : ws[qa]? = some (al, .inr (4, fAL E n))) : MM C l yJx4a65c_size_8abf5 cJx4a65c_size_8abf5 1 (some .int) 0 0 0 [.ref al] ws (rv (vi n) ws) := by
  refine mf_of (by decide +kernel) (Nat.le_of_ble_eq_true rfl) hfl (fun K Q X r => ?_)
  have X : Cx C l "java/util/ArrayList" cJx4a65c_size_8abf5 1 0 0 0 K := X
  show G C K Q 0 0 0 [(0, .ref al)] [] ws
  refine g_aload_n (t := 1) X dJx4a65c_size_8abf5_0 0 rfl rfl ?_
  refine g_getf (t := 4) X inJx4a65c qa hea rfl 2 (by decide) q1_52 rfl rfl dJx4a65c_size_8abf5_1 rfl ?_
  exact g_iret X r (rv_i rfl) (Nat.le_of_ble_eq_true rfl) (Nat.le_of_ble_eq_true rfl) dJx4a65c_size_8abf5_4

set_option maxHeartbeats 4000000 in
set_option maxRecDepth 100000 in
/-- isEmpty() -/
theorem c_Jx4a65c_isEmpty_aae02 {C : WC} {l : Launch} (hfl : l.stackTraces = false) {ws : va_W} {al : Nat} {E : Int × Nat} {n : Int}  (qa : Nat) (hea : ws[qa]? = some (al, .inr (4, fAL E n))) (n0 : 0 ≤ n) (n1 : n < 100) : MM C l yJx4a65c_isEmpty_aae02 cJx4a65c_isEmpty_aae02 1 (some .boolean) 0 0 0 [.ref al] ws (rb (n = 0) ws) := by
  refine mf_of (by decide +kernel) (Nat.le_of_ble_eq_true rfl) hfl (fun K Q X r => ?_)
  have X : Cx C l "java/util/ArrayList" cJx4a65c_isEmpty_aae02 1 0 0 0 K := X
  show G C K Q 0 0 0 [(0, .ref al)] [] ws
  refine g_aload_n (t := 1) X dJx4a65c_isEmpty_aae02_0 0 rfl rfl ?_
  refine g_getf (t := 4) X inJx4a65c qa hea rfl 2 (by decide) q1_52 rfl rfl dJx4a65c_isEmpty_aae02_1 rfl ?_
  refine g_if_ne (t := 11) (u := 7) X dJx4a65c_isEmpty_aae02_4 (by decide) rfl ⟨by omega, by omega⟩ (fun c_4 => ?_) (fun c_4 => ?_)
  · refine g_iconst (t := 12) X dJx4a65c_isEmpty_aae02_11 rfl ?_
    exact g_zret X r rfl (rb_f (by omega)) (Nat.le_of_ble_eq_true rfl) (Nat.le_of_ble_eq_true rfl) dJx4a65c_isEmpty_aae02_12
  · refine g_iconst (t := 8) X dJx4a65c_isEmpty_aae02_7 rfl ?_
    refine g_goto (t := 12) X dJx4a65c_isEmpty_aae02_8 (by decide) ?_
    exact g_zret X r rfl (rb_t (by omega)) (Nat.le_of_ble_eq_true rfl) (Nat.le_of_ble_eq_true rfl) dJx4a65c_isEmpty_aae02_12

set_option maxHeartbeats 4000000 in
set_option maxRecDepth 100000 in
/-- elementData(i) -/
theorem c_Jx4a65c_elementData_915e3 {C : WC} {l : Launch} (hfl : l.stackTraces = false) {ws : va_W} {al : Nat} {E : Int × Nat} {n : Int} {i : Int}  (qa : Nat) (hea : ws[qa]? = some (al, .inr (4, fAL E n))) (qe : Nat) {cap : Nat} {f : Nat → Option Nat} (hee : ws[qe]? = some (E.2, aO C cap f)) (i0 : 0 ≤ i) (i1 : i < cap) (c9 : cap ≤ 100) {a : Nat} (hf : f i.toNat = some a) : MM C l yJx4a65c_elementData_915e3 cJx4a65c_elementData_915e3 2 (some (.object "java/lang/Object")) 0 0 0 [.ref al, vi i] ws (rv (.ref a) ws) := by
  refine mf_of (by decide +kernel) (Nat.le_of_ble_eq_true rfl) hfl (fun K Q X r => ?_)
  have X : Cx C l "java/util/ArrayList" cJx4a65c_elementData_915e3 2 0 0 0 K := X
  show G C K Q 0 0 0 [(0, .ref al), (1, vi i)] [] ws
  refine g_aload_n (t := 1) X dJx4a65c_elementData_915e3_0 0 rfl rfl ?_
  refine g_getf (t := 4) X inJx4a65c qa hea rfl 1 (by decide) q1_51 rfl rfl dJx4a65c_elementData_915e3_1 rfl ?_
  refine g_iload_n (t := 5) X dJx4a65c_elementData_915e3_4 1 rfl rfl ?_
  refine g_oald (t := 6) X qe hee (by omega) (by omega) (by omega) dJx4a65c_elementData_915e3_5 rfl ?_
  rw [hf]
  exact g_aret X r (Or.inl ⟨_, rfl⟩) ⟨rfl, rfl⟩ (Nat.le_of_ble_eq_true rfl) (Nat.le_of_ble_eq_true rfl) dJx4a65c_elementData_915e3_6

set_option maxHeartbeats 4000000 in
set_option maxRecDepth 100000 in
/-- checkIndex(i, n, ..) -/
theorem c_J3_checkIndex_8e157_n {C : WC} {l : Launch} (hfl : l.stackTraces = false) {ws : va_W} {i n : Int}  (i0 : 0 ≤ i) (i1 : i < n) (n1 : n < 2147483648) : MM C l yJ3_checkIndex_8e157 cJ3_checkIndex_8e157 3 (some .int) 0 0 0 [vi i, vi n, .null] ws (rv (vi i) ws) := by
  refine mf_of (by decide +kernel) (Nat.le_of_ble_eq_true rfl) hfl (fun K Q X r => ?_)
  have X : Cx C l "jdk/internal/util/Preconditions" cJ3_checkIndex_8e157 3 0 0 0 K := X
  show G C K Q 0 0 0 [(0, vi i), (1, vi n), (2, .null)] [] ws
  refine g_iload_n (t := 1) X dJ3_checkIndex_8e157_0 0 rfl rfl ?_
  refine g_if_lt (t := 9) (u := 4) X dJ3_checkIndex_8e157_1 (by decide) rfl ⟨by omega, by omega⟩ (fun c_1 => absurd i0 (by omega)) (fun c_1 => ?_)
  refine g_iload_n (t := 5) X dJ3_checkIndex_8e157_4 0 rfl rfl ?_
  refine g_iload_n (t := 6) X dJ3_checkIndex_8e157_5 1 rfl rfl ?_
  refine g_icmp_lt (t := 16) (u := 9) X dJ3_checkIndex_8e157_6 (by decide) rfl ⟨by omega, by omega⟩ ⟨by omega, by omega⟩ (fun c_6 => ?_) (fun c_6 => absurd i1 c_6)
  refine g_iload_n (t := 17) X dJ3_checkIndex_8e157_16 0 rfl rfl ?_
  exact g_iret X r (rv_i rfl) (Nat.le_of_ble_eq_true rfl) (Nat.le_of_ble_eq_true rfl) dJ3_checkIndex_8e157_17

set_option maxHeartbeats 4000000 in
set_option maxRecDepth 100000 in
/-- checkIndex(i, n, ..) -/
theorem c_J3_checkIndex_8e157_r {C : WC} {l : Launch} (hfl : l.stackTraces = false) {ws : va_W} {i n : Int} {q : Nat}  (i0 : 0 ≤ i) (i1 : i < n) (n1 : n < 2147483648) : MM C l yJ3_checkIndex_8e157 cJ3_checkIndex_8e157 3 (some .int) 0 0 0 [vi i, vi n, .ref q] ws (rv (vi i) ws) := by
  refine mf_of (by decide +kernel) (Nat.le_of_ble_eq_true rfl) hfl (fun K Q X r => ?_)
  have X : Cx C l "jdk/internal/util/Preconditions" cJ3_checkIndex_8e157 3 0 0 0 K := X
  show G C K Q 0 0 0 [(0, vi i), (1, vi n), (2, .ref q)] [] ws
  refine g_iload_n (t := 1) X dJ3_checkIndex_8e157_0 0 rfl rfl ?_
  refine g_if_lt (t := 9) (u := 4) X dJ3_checkIndex_8e157_1 (by decide) rfl ⟨by omega, by omega⟩ (fun c_1 => absurd i0 (by omega)) (fun c_1 => ?_)
  refine g_iload_n (t := 5) X dJ3_checkIndex_8e157_4 0 rfl rfl ?_
  refine g_iload_n (t := 6) X dJ3_checkIndex_8e157_5 1 rfl rfl ?_
  refine g_icmp_lt (t := 16) (u := 9) X dJ3_checkIndex_8e157_6 (by decide) rfl ⟨by omega, by omega⟩ ⟨by omega, by omega⟩ (fun c_6 => ?_) (fun c_6 => absurd i1 c_6)
  refine g_iload_n (t := 17) X dJ3_checkIndex_8e157_16 0 rfl rfl ?_
  exact g_iret X r (rv_i rfl) (Nat.le_of_ble_eq_true rfl) (Nat.le_of_ble_eq_true rfl) dJ3_checkIndex_8e157_17

set_option maxHeartbeats 4000000 in
set_option maxRecDepth 100000 in
/-- Objects.checkIndex(i, n) -/
theorem c_J15_checkIndex_7cf53 {C : WC} {l : Launch} (hfl : l.stackTraces = false) {ws : va_W} {i n : Int}  (i0 : 0 ≤ i) (i1 : i < n) (n1 : n < 2147483648) : MM C l yJ15_checkIndex_7cf53 cJ15_checkIndex_7cf53 2 (some .int) 1 0 0 [vi i, vi n] ws (rv (vi i) ws) := by
  refine mf_of (by decide +kernel) (Nat.le_of_ble_eq_true rfl) hfl (fun K Q X r => ?_)
  have X : Cx C l "java/util/Objects" cJ15_checkIndex_7cf53 2 1 0 0 K := X
  show G C K Q 0 0 0 [(0, vi i), (1, vi n)] [] ws
  refine g_iload_n (t := 1) X dJ15_checkIndex_7cf53_0 0 rfl rfl ?_
  refine g_iload_n (t := 2) X dJ15_checkIndex_7cf53_1 1 rfl rfl ?_
  refine g_null (t := 3) X dJ15_checkIndex_7cf53_2 rfl ?_
  refine g_callS (t := 6) (mc := 0) (ms := 0) (rest := []) X mt_J3_checkIndex_8e157 q1_221 q1_222 (c_J3_checkIndex_8e157_n hfl i0 i1 n1) (by decide) (Nat.le_of_ble_eq_true rfl) (Nat.le_of_ble_eq_true rfl) (Nat.le_of_ble_eq_true rfl) rfl rfl dJ15_checkIndex_7cf53_3 rfl (k_rv ?_)
  exact g_iret X r (rv_i rfl) (Nat.le_of_ble_eq_true rfl) (Nat.le_of_ble_eq_true rfl) dJ15_checkIndex_7cf53_6

set_option maxHeartbeats 4000000 in
set_option maxRecDepth 100000 in
/-- get(i) -/
theorem c_Jx4a65c_get_915e3 {C : WC} {l : Launch} (hfl : l.stackTraces = false) {ws : va_W} {al : Nat} {E : Int × Nat} {n : Int} {i : Int}  (qa : Nat) (hea : ws[qa]? = some (al, .inr (4, fAL E n))) (qe : Nat) {cap : Nat} {f : Nat → Option Nat} (hee : ws[qe]? = some (E.2, aO C cap f)) (i0 : 0 ≤ i) (i1 : i < cap) (c9 : cap ≤ 100) {a : Nat} (hf : f i.toNat = some a) (i2 : i < n) (n1 : n < 100) : MM C l yJx4a65c_get_915e3 cJx4a65c_get_915e3 2 (some (.object "java/lang/Object")) 2 0 0 [.ref al, vi i] ws (rv (.ref a) ws) := by
  refine mf_of (by decide +kernel) (Nat.le_of_ble_eq_true rfl) hfl (fun K Q X r => ?_)
  have X : Cx C l "java/util/ArrayList" cJx4a65c_get_915e3 2 2 0 0 K := X
  show G C K Q 0 0 0 [(0, .ref al), (1, vi i)] [] ws
  refine g_iload_n (t := 1) X dJx4a65c_get_915e3_0 1 rfl rfl ?_
  refine g_aload_n (t := 2) X dJx4a65c_get_915e3_1 0 rfl rfl ?_
  refine g_getf (t := 5) X inJx4a65c qa hea rfl 2 (by decide) q1_52 rfl rfl dJx4a65c_get_915e3_2 rfl ?_
  refine g_callS (t := 8) (mc := 0) (ms := 0) (rest := []) X mt_J15_checkIndex_7cf53 q1_218 q1_219 (c_J15_checkIndex_7cf53 hfl i0 (by omega) (by omega)) (by decide) (Nat.le_of_ble_eq_true rfl) (Nat.le_of_ble_eq_true rfl) (Nat.le_of_ble_eq_true rfl) rfl rfl dJx4a65c_get_915e3_5 rfl (k_rv ?_)
  refine g_pop (t := 9) X dJx4a65c_get_915e3_8 rfl rfl ?_
  refine g_aload_n (t := 10) X dJx4a65c_get_915e3_9 0 rfl rfl ?_
  refine g_iload_n (t := 11) X dJx4a65c_get_915e3_10 1 rfl rfl ?_
  refine g_callV (t := 14) (mc := 0) (ms := 0) (rest := []) X mt_Jx4a65c_elementData_915e3 q1_224 q1_225 q1_226 qa hea rfl (c_Jx4a65c_elementData_915e3 hfl qa hea qe hee i0 i1 c9 hf) (by decide) (Nat.le_of_ble_eq_true rfl) (Nat.le_of_ble_eq_true rfl) (Nat.le_of_ble_eq_true rfl) rfl rfl dJx4a65c_get_915e3_11 rfl (k_rv ?_)
  exact g_aret X r (Or.inl ⟨_, rfl⟩) ⟨rfl, rfl⟩ (Nat.le_of_ble_eq_true rfl) (Nat.le_of_ble_eq_true rfl) dJx4a65c_get_915e3_14

/-- a class whose objects may stand in a list -/
def CI (ci : Nat) : Prop := ∃ (Cn : String) (T : u_T) (N : Nat), vwCl[ci]? = some (Cn, T, N) ∧ Cond.castable Cn "java/lang/Object" ∈ TW
theorem new_at (ws : va_W) (x : Nat × va_E) : (ws ++ [x])[ws.length]? = some x := by
  rw [List.getElem?_append_right (Nat.le_refl _), Nat.sub_self]; rfl
theorem new_set (ws : va_W) (x y : Nat × va_E) : (ws ++ [x]).set ws.length y = ws ++ [y] := by
  rw [List.set_append_right _ _ (Nat.le_refl _), Nat.sub_self]; rfl
theorem old_at {ws : va_W} {k : Nat} {x : Nat × va_E} (h : ws[k]? = some x) (y : Nat × va_E) : (ws ++ [y])[k]? = some x := by
  rw [List.getElem?_append_left (List.getElem?_eq_some_iff.mp h).1]; exact h
def cO (cap : Nat) (f : Nat → Option Nat) : Nat → Option Nat := fun j => if j < ((cap : Nat) : Int).toNat then f j else none
set_option maxHeartbeats 4000000 in
set_option maxRecDepth 100000 in
/-- copyOf(elements, m, Object[].class) -/
theorem c_J7_copyOf_6403c {C : WC} {l : Launch} (hfl : l.stackTraces = false) {ws : va_W}  {ci : Nat} (hk9 : CI ci) (qe : Nat) {el cap m : Nat} {f : Nat → Option Nat} (hee : ws[qe]? = some (el, aO C cap f)) (hcm : cap < m) (hm : m < 65536) (hel : ∀ i : Nat, i < cap → ∀ y : Nat, f i = some y → ∃ (k : Nat) (fs : List Value), ws[k]? = some (y, .inr (ci, fs))) : MM C l yJ7_copyOf_6403c cJ7_copyOf_6403c 4 (some (.array (.object "java/lang/Object"))) 0 1 m [.ref el, vi (m : Int), .ref (C.2.2.2 5)] ws (fun v w => ∃ q : Nat, True ∧ v = some (.ref q) ∧ w = ws ++ [(q, aO C m (cO cap f))]) := by
  refine mf_of (by decide +kernel) (Nat.le_of_ble_eq_true rfl) hfl (fun K Q X r => ?_)
  have X : Cx C l "java/util/Arrays" cJ7_copyOf_6403c 4 0 1 m K := X
  show G C K Q 0 0 0 [(0, .ref el), (1, vi (m : Int)), (2, .ref (C.2.2.2 5))] [] ws
  refine g_aload_n (t := 1) X dJ7_copyOf_6403c_0 2 rfl rfl ?_
  refine g_ldcM (t := 3) X q1_175 dJ7_copyOf_6403c_1 rfl ?_
  refine g_acmp_ne (t := 13) (u := 6) X dJ7_copyOf_6403c_3 (by decide) rfl (fun q => absurd rfl q) (fun _ => ?_)
  refine g_iload_n (t := 7) X dJ7_copyOf_6403c_6 1 rfl rfl ?_
  refine g_newO (t := 10) (n := m) X q1_177 (by omega) (by omega) (by omega) dJ7_copyOf_6403c_7 rfl (fun q => ?_)
  refine g_goto (t := 24) X dJ7_copyOf_6403c_10 (by decide) ?_
  obtain ⟨Cn9, T9, N9, hc9, hca9⟩ := id hk9
  have heN := old_at hee (q, aO C m (fun _ => none))
  have hel2 : ∀ i : Nat, i < ((cap : Nat) : Int).toNat → ∀ y : Nat, f i = some y → ∃ (k : Nat) (fs : List Value), (ws ++ [(q, aO C m (fun _ => none))])[k]? = some (y, .inr (ci, fs)) := fun i hi y hy => by
    obtain ⟨k, fs, h⟩ := hel i (by omega) y hy
    exact ⟨k, fs, old_at h _⟩
  refine g_astore_n (t := 25) (lv1 := [(3, .ref q), (0, .ref el), (1, vi (m : Int)), (2, .ref (C.2.2.2 5))]) X dJ7_copyOf_6403c_24 (by decide) rfl rfl ?_
  refine g_aload_n (t := 26) X dJ7_copyOf_6403c_25 1 rfl rfl ?_
  refine g_iconst (t := 27) X dJ7_copyOf_6403c_26 rfl ?_
  refine g_aload_n (t := 28) X dJ7_copyOf_6403c_27 0 rfl rfl ?_
  refine g_iconst (t := 29) X dJ7_copyOf_6403c_28 rfl ?_
  refine g_aload_n (t := 30) X dJ7_copyOf_6403c_29 1 rfl rfl ?_
  refine g_olen (t := 31) X qe heN dJ7_copyOf_6403c_30 rfl ?_
  refine g_iload_n (t := 32) X dJ7_copyOf_6403c_31 2 rfl rfl ?_
  refine g_mmin (t := 35) X q1_178 q1_179 q1_11 q1_180 (Nat.le_of_ble_eq_true rfl) (by omega) (by omega) ⟨by omega, by omega⟩ ⟨by omega, by omega⟩ dJ7_copyOf_6403c_32 rfl ?_
  rw [if_neg (by omega)]
  refine g_copyO (t := 38) (n := (cap : Int)) X qe ws.length q1_181 q1_183 q1_182 q1_13 heN (new_at _ _) (by omega) (by omega) (by omega) (by omega) (by omega) (ci := ci) hc9 hca9 hel2 (Nat.le_of_ble_eq_true rfl) (new_set _ _ _) dJ7_copyOf_6403c_35 rfl ?_
  refine g_aload_n (t := 39) X dJ7_copyOf_6403c_38 0 rfl rfl ?_
  exact g_aret X r (Or.inr ⟨_, rfl⟩) ⟨q, trivial, rfl, rfl⟩ (by omega) (by omega) dJ7_copyOf_6403c_39

set_option maxHeartbeats 4000000 in
set_option maxRecDepth 100000 in
/-- copyOf(elements, m) -/
theorem c_J7_copyOf_1904c {C : WC} {l : Launch} (hfl : l.stackTraces = false) {ws : va_W}  {ci : Nat} (hk9 : CI ci) (qe : Nat) {el cap m : Nat} {f : Nat → Option Nat} (hee : ws[qe]? = some (el, aO C cap f)) (hcm : cap < m) (hm : m < 65536) (hel : ∀ i : Nat, i < cap → ∀ y : Nat, f i = some y → ∃ (k : Nat) (fs : List Value), ws[k]? = some (y, .inr (ci, fs))) : MM C l yJ7_copyOf_1904c cJ7_copyOf_1904c 2 (some (.array (.object "java/lang/Object"))) 1 1 m [.ref el, vi (m : Int)] ws (fun v w => ∃ q : Nat, True ∧ v = some (.ref q) ∧ w = ws ++ [(q, aO C m (cO cap f))]) := by
  refine mf_of (by decide +kernel) (Nat.le_of_ble_eq_true rfl) hfl (fun K Q X r => ?_)
  have X : Cx C l "java/util/Arrays" cJ7_copyOf_1904c 2 1 1 m K := X
  show G C K Q 0 0 0 [(0, .ref el), (1, vi (m : Int))] [] ws
  refine g_aload_n (t := 1) X dJ7_copyOf_1904c_0 0 rfl rfl ?_
  refine g_iload_n (t := 2) X dJ7_copyOf_1904c_1 1 rfl rfl ?_
  refine g_aload_n (t := 3) X dJ7_copyOf_1904c_2 0 rfl rfl ?_
  refine g_getC (t := 6) X qe hee q1_156 (Nat.le_of_ble_eq_true rfl) dJ7_copyOf_1904c_3 rfl ?_
  refine g_callS (t := 9) (mc := 1) (ms := m) (rest := []) X mt_J7_copyOf_6403c q1_172 q1_173 (c_J7_copyOf_6403c hfl hk9 qe hee hcm hm hel) (by decide) (by omega) (by omega) (Nat.le_of_ble_eq_true rfl) rfl rfl dJ7_copyOf_1904c_6 rfl (k_ex (fun q _ => ?_))
  exact g_aret X r (Or.inr ⟨_, rfl⟩) ⟨q, trivial, rfl, rfl⟩ (by omega) (by omega) dJ7_copyOf_1904c_9

set_option maxHeartbeats 4000000 in
set_option maxRecDepth 100000 in
/-- newLength(old, least, wanted) -/
theorem c_J8_newLength_cabcc {C : WC} {l : Launch} (hfl : l.stackTraces = false) {ws : va_W} {a b c : Int}  (a0 : 0 < a) (a1 : a ≤ 65536) (b0 : 0 ≤ b) (b1 : b ≤ 65536) (c0 : 0 ≤ c) (c1 : c ≤ 65536) : MM C l yJ8_newLength_cabcc cJ8_newLength_cabcc 4 (some .int) 0 0 0 [vi a, vi b, vi c] ws (rv (vi (a + (if b < c then c else b))) ws) := by
  refine mf_of (by decide +kernel) (Nat.le_of_ble_eq_true rfl) hfl (fun K Q X r => ?_)
  have X : Cx C l "jdk/internal/util/ArraysSupport" cJ8_newLength_cabcc 4 0 0 0 K := X
  show G C K Q 0 0 0 [(0, vi a), (1, vi b), (2, vi c)] [] ws
  refine g_iload_n (t := 1) X dJ8_newLength_cabcc_0 0 rfl rfl ?_
  refine g_iload_n (t := 2) X dJ8_newLength_cabcc_1 1 rfl rfl ?_
  refine g_iload_n (t := 3) X dJ8_newLength_cabcc_2 2 rfl rfl ?_
  refine g_mmax (t := 6) X q1_146 q1_147 q1_11 q1_148 (Nat.le_of_ble_eq_true rfl) (Nat.le_of_ble_eq_true rfl) (Nat.le_of_ble_eq_true rfl) ⟨by omega, by omega⟩ ⟨by omega, by omega⟩ dJ8_newLength_cabcc_3 rfl ?_
  obtain ⟨mv, emv⟩ : ∃ z : Int, z = if b < c then c else b := ⟨_, rfl⟩
  rw [← emv]
  have hmv : b ≤ mv ∧ c ≤ mv ∧ (mv = b ∨ mv = c) := by rw [emv]; split <;> omega
  refine g_iadd (t := 7) X dJ8_newLength_cabcc_6 rfl ?_
  refine g_istore_n (t := 8) (lv1 := [(3, vi (a + mv)), (0, vi a), (1, vi b), (2, vi c)]) X dJ8_newLength_cabcc_7 (by decide) rfl rfl ?_
  refine g_iconst (t := 9) X dJ8_newLength_cabcc_8 rfl ?_
  refine g_iload_n (t := 10) X dJ8_newLength_cabcc_9 0 rfl rfl ?_
  refine g_icmp_ge (t := 21) (u := 13) X dJ8_newLength_cabcc_10 (by decide) rfl ⟨by omega, by omega⟩ ⟨by omega, by omega⟩ (fun c_10 => absurd (show a + mv ≤ 0 from c_10) (by omega)) (fun c_10 => ?_)
  refine g_iload_n (t := 14) X dJ8_newLength_cabcc_13 0 rfl rfl ?_
  refine g_ldci (t := 16) (z := 2147483639) X q1_149 dJ8_newLength_cabcc_14 rfl ?_
  refine g_icmp_gt (t := 21) (u := 19) X dJ8_newLength_cabcc_16 (by decide) rfl ⟨by omega, by omega⟩ ⟨by omega, by omega⟩ (fun c_16 => absurd c_16 (by omega)) (fun c_16 => ?_)
  refine g_iload_n (t := 20) X dJ8_newLength_cabcc_19 0 rfl rfl ?_
  exact g_iret X r (rv_i (by rw [emv])) (Nat.le_of_ble_eq_true rfl) (Nat.le_of_ble_eq_true rfl) dJ8_newLength_cabcc_20

