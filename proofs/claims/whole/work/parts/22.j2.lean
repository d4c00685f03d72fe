section GS
variable {C : WC} {l0 : Launch} {own : String} {cc : ByteArray} {nL d Mc Ms : Nat} {K : GK} {Q : State → Prop} {cells slots pc t : Nat} {lv lv1 : List (Nat × Value)} {st : List Value} {ws ws1 : va_W}
theorem g_getfS (X : Cx C l0 own cc nL d Mc Ms K) {ref Cn : String} {T : u_T} {N ci index a : Nat} {fs : List Value} {v : Value} (hin : ∀ w ∈ u_ws Cn T N, w ∈ TW) (q0 : Nat) (he : ws[q0]? = some (a, .inr (ci, fs))) (hc : vwCl[ci]? = some (Cn, T, N)) (k9 : Nat) (hk : k9 < N) (hlink : Cond.fieldLink own index ref (T k9).2.1 (T k9).2.2.1 ∈ TW) (hsm : Cond.sameField ref (T k9).1 (T k9).2.1 (T k9).2.2.1 ∈ TW) (hv : fs[k9]? = some v) (hd : decode cc pc = .ok (.getfield index, 3)) (hpc : pc + 3 = t) (k : G C K Q cells slots t lv (v :: st) ws) : G C K Q cells slots pc lv (.ref a :: st) ws := by
  obtain ⟨p, l, e, R, s, m, args, below, meth, c, nL⟩ := K
  obtain ⟨rfl, rfl, hx, hb, hml, hown, hT, hK, hN, hE, hlk, hfl, hfr, hlo, hmc, hms⟩ := X
  subst hpc
  intro H locs ls hP hD hS hl
  exact va_get hx hb (hT.at args) hin hown hK hP q0 he hc k9 hk (hT.at args _ hlink) (u_same (hT.at args _ hsm)) hv hd (k H locs ls hP hD hS hl)
theorem g_putfS (X : Cx C l0 own cc nL d Mc Ms K) {ref Cn : String} {T : u_T} {N ci index a : Nat} {fs : List Value} {v : Value} {ty : FieldType} (hin : ∀ w ∈ u_ws Cn T N, w ∈ TW) (ty0 : Nat → FieldType) (hty : ∀ k, k < N → parseFieldDescriptor (T k).2.2.1 = some (ty0 k)) (hnm : ∀ a, a < N → ∀ b, b < N → a ≠ b → (T a).2.1 ≠ (T b).2.1) (q0 : Nat) (he : ws[q0]? = some (a, .inr (ci, fs))) (hc : vwCl[ci]? = some (Cn, T, N)) (k9 : Nat) (hk : k9 < N) (hlink : Cond.fieldLink own index ref (T k9).2.1 (T k9).2.2.1 ∈ TW) (hsm : Cond.sameField ref (T k9).1 (T k9).2.1 (T k9).2.2.1 ∈ TW) (hfin : (T k9).2.2.2 = false) (hd2 : parseFieldDescriptor (T k9).2.2.1 = some ty) (hn : narrow ty v = v) (hfit : fits ty v = true) (hl9 : k9 < fs.length) (hw : ws.set q0 (a, .inr (ci, fs.set k9 v)) = ws1) (hd : decode cc pc = .ok (.putfield index, 3)) (hpc : pc + 3 = t) (k : G C K Q cells slots t lv (st) ws1) : G C K Q cells slots pc lv (v :: .ref a :: st) ws := by
  obtain ⟨p, l, e, R, s, m, args, below, meth, c, nL⟩ := K
  obtain ⟨rfl, rfl, hx, hb, hml, hown, hT, hK, hN, hE, hlk, hfl, hfr, hlo, hmc, hms⟩ := X
  subst hpc
  intro H locs ls hP hD hS hl
  exact va_put hx hb (hT.at args) hin ty0 hty hnm hown hK hP hD hS q0 he hc k9 hk (hT.at args _ hlink) (u_same (hT.at args _ hsm)) hfin hd2 hn hfit hl9 hd (fun H1 locs1 hP hD hS => by rw [hw] at hP hD; exact k H1 locs1 ls hP hD hS hl)
end GS
theorem pm_new {x y : Nat × va_E} {R : va_W} : List.Perm (x :: y :: R) ((x :: R) ++ [y]) := by
  refine List.Perm.cons x ?_
  show List.Perm ([y] ++ R) (R ++ [y])
  exact List.perm_append_comm
theorem dr_old {x y z : Nat × va_E} {R : va_W} : List.Sublist ((x :: R) ++ [z]) ((x :: y :: R) ++ [z]) := by
  refine List.Sublist.append_right ?_ [z]
  exact List.Sublist.cons_cons x (List.Sublist.cons y (List.Sublist.refl R))
theorem fit_arr {a : Nat} : fits (.array (.object "java/lang/Object")) (.ref a) = true := rfl

set_option maxHeartbeats 4000000 in
set_option maxRecDepth 100000 in
/-- grow(1), the list is empty -/
theorem c_Jx4a65c_grow_92f84_0 {C : WC} {l : Launch} (hfl : l.stackTraces = false) {al : Nat} {E : Int × Nat} {R : va_W}  (hE : E.2 = C.2.2.2 0) : MM C l yJx4a65c_grow_92f84 cJx4a65c_grow_92f84 4 (some (.array (.object "java/lang/Object"))) 1 1 10 [.ref al, vi (0 + 1)] ((al, .inr (4, fAL E 0)) :: R) (fun v w => ∃ q : Nat, True ∧ v = some (.ref q) ∧ w = ((al, .inr (4, fAL (E.1, q) 0)) :: R) ++ [(q, aO C 10 (fun _ => none))]) := by
  refine mf_of (by decide +kernel) (Nat.le_of_ble_eq_true rfl) hfl (fun K Q X r => ?_)
  have X : Cx C l "java/util/ArrayList" cJx4a65c_grow_92f84 4 1 1 10 K := X
  show G C K Q 0 0 0 [(0, .ref al), (1, vi (0 + 1))] [] ((al, .inr (4, fAL E 0)) :: R)
  refine g_aload_n (t := 1) X dJx4a65c_grow_92f84_0 0 rfl rfl ?_
  refine g_getf (t := 4) X inJx4a65c 0 rfl rfl 1 (by decide) q1_51 rfl rfl dJx4a65c_grow_92f84_1 rfl ?_
  rw [hE]
  refine g_tlen (t := 5) X (fun s H h => h.2.2.1.2) dJx4a65c_grow_92f84_4 rfl ?_
  refine g_istore_n (t := 6) (lv1 := [(2, vi ((0 : Nat) : Int)), (0, .ref al), (1, vi (0 + 1))]) X dJx4a65c_grow_92f84_5 (by decide) rfl rfl ?_
  refine g_iload_n (t := 7) X dJx4a65c_grow_92f84_6 0 rfl rfl ?_
  refine g_if_gt (t := 20) (u := 10) X dJx4a65c_grow_92f84_7 (by decide) rfl ⟨by omega, by omega⟩ (fun c_7 => absurd c_7 (by omega)) (fun c_7 => ?_)
  refine g_aload_n (t := 11) X dJx4a65c_grow_92f84_10 1 rfl rfl ?_
  refine g_getf (t := 14) X inJx4a65c 0 rfl rfl 1 (by decide) q1_51 rfl rfl dJx4a65c_grow_92f84_11 rfl ?_
  refine g_gets (t := 17) X q1_49 (fun s H h => h.2.2.1.1) dJx4a65c_grow_92f84_14 rfl ?_
  rw [hE]
  refine g_acmp_eq (t := 45) (u := 20) X dJx4a65c_grow_92f84_17 (by decide) rfl (fun _ => ?_) (fun q => absurd rfl q)
  refine g_aload_n (t := 46) X dJx4a65c_grow_92f84_45 1 rfl rfl ?_
  refine g_bipush (t := 48) (z := 10) X dJx4a65c_grow_92f84_46 (by decide +kernel) rfl ?_
  refine g_iload_n (t := 49) X dJx4a65c_grow_92f84_48 2 rfl rfl ?_
  refine g_mmax (t := 52) X q1_184 q1_147 q1_11 q1_148 (Nat.le_of_ble_eq_true rfl) (by omega) (by omega) ⟨by omega, by omega⟩ ⟨by omega, by omega⟩ dJx4a65c_grow_92f84_49 rfl ?_
  rw [if_neg (by omega)]
  refine g_newO (t := 55) (n := 10) X q1_185 (by omega) (by omega) (by omega) dJx4a65c_grow_92f84_52 rfl (fun q => ?_)
  refine g_dup_x1 (t := 56) X dJx4a65c_grow_92f84_55 rfl rfl rfl ?_
  refine g_putf (t := 59) (ws1 := (((al, .inr (4, fAL (E.1, q) 0)) :: R) ++ [(q, aO C 10 (fun _ => none))])) X inJx4a65c tyJx4a65c tyJx4a65c_ok nmJx4a65c 0 rfl rfl 1 (by decide) q1_51 rfl rfl rfl rfl rfl (Nat.le_of_ble_eq_true rfl) rfl dJx4a65c_grow_92f84_56 rfl ?_
  exact g_aret X r (Or.inr ⟨_, rfl⟩) ⟨q, trivial, rfl, rfl⟩ (by omega) (by omega) dJx4a65c_grow_92f84_59

set_option maxHeartbeats 4000000 in
set_option maxRecDepth 100000 in
/-- grow(n + 1), the row is full -/
theorem c_Jx4a65c_grow_92f84_1 {C : WC} {l : Launch} (hfl : l.stackTraces = false) {al cap m : Nat} {E : Int × Nat} {n : Int} {f : Nat → Option Nat} {R : va_W}  {ci : Nat} (hk9 : CI ci) (hn : n = (cap : Int)) (h10 : 10 ≤ cap) (h15 : cap ≤ 15) (hm : m = cap + cap / 2) (hel : ∀ i : Nat, i < cap → ∀ y : Nat, f i = some y → ∃ (k : Nat) (fs : List Value), R[k]? = some (y, .inr (ci, fs))) : MM C l yJx4a65c_grow_92f84 cJx4a65c_grow_92f84 4 (some (.array (.object "java/lang/Object"))) 2 1 m [.ref al, vi (n + 1)] ((al, .inr (4, fAL E n)) :: (E.2, aO C cap f) :: R) (fun v w => ∃ q : Nat, True ∧ v = some (.ref q) ∧ w = ((al, .inr (4, fAL (E.1, q) n)) :: (E.2, aO C cap f) :: R) ++ [(q, aO C m (cO cap f))]) := by
  refine mf_of (by decide +kernel) (Nat.le_of_ble_eq_true rfl) hfl (fun K Q X r => ?_)
  have X : Cx C l "java/util/ArrayList" cJx4a65c_grow_92f84 4 2 1 m K := X
  show G C K Q 0 0 0 [(0, .ref al), (1, vi (n + 1))] [] ((al, .inr (4, fAL E n)) :: (E.2, aO C cap f) :: R)
  refine g_aload_n (t := 1) X dJx4a65c_grow_92f84_0 0 rfl rfl ?_
  refine g_getf (t := 4) X inJx4a65c 0 rfl rfl 1 (by decide) q1_51 rfl rfl dJx4a65c_grow_92f84_1 rfl ?_
  refine g_olen (t := 5) (n := cap) (f := f) X 1 rfl dJx4a65c_grow_92f84_4 rfl ?_
  refine g_istore_n (t := 6) (lv1 := [(2, vi (cap : Int)), (0, .ref al), (1, vi (n + 1))]) X dJx4a65c_grow_92f84_5 (by decide) rfl rfl ?_
  refine g_iload_n (t := 7) X dJx4a65c_grow_92f84_6 0 rfl rfl ?_
  refine g_if_gt (t := 20) (u := 10) X dJx4a65c_grow_92f84_7 (by decide) rfl ⟨by omega, by omega⟩ (fun c_7 => ?_) (fun c_7 => absurd (show (0 : Int) < (cap : Int) by omega) c_7)
  refine g_iload_n (t := 21) X dJx4a65c_grow_92f84_20 0 rfl rfl ?_
  refine g_iload_n (t := 22) X dJx4a65c_grow_92f84_21 2 rfl rfl ?_
  refine g_iload_n (t := 23) X dJx4a65c_grow_92f84_22 0 rfl rfl ?_
  refine g_isub (t := 24) X dJx4a65c_grow_92f84_23 rfl ?_
  refine g_iload_n (t := 25) X dJx4a65c_grow_92f84_24 0 rfl rfl ?_
  refine g_iconst (t := 26) X dJx4a65c_grow_92f84_25 rfl ?_
  refine g_ishr1 (t := 27) X dJx4a65c_grow_92f84_26 (by omega) (by omega) rfl ?_
  refine g_callS (t := 30) (mc := 0) (ms := 0) (rest := []) X mt_J8_newLength_cabcc q1_143 q1_144 (c_J8_newLength_cabcc hfl (by omega) (by omega) (by omega) (by omega) (by omega) (by omega)) (by decide) (by omega) (by omega) (Nat.le_of_ble_eq_true rfl) rfl rfl dJx4a65c_grow_92f84_27 rfl (k_rv ?_)
  rw [show (cap : Int) + (if n + 1 - (cap : Int) < (cap : Int) / 2 then (cap : Int) / 2 else n + 1 - (cap : Int)) = ((m : Nat) : Int) by rw [if_pos (by omega)]; omega]
  refine g_istore_n (t := 31) (lv1 := [(3, vi (m : Int)), (2, vi (cap : Int)), (0, .ref al), (1, vi (n + 1))]) X dJx4a65c_grow_92f84_30 (by decide) rfl rfl ?_
  refine g_aload_n (t := 32) X dJx4a65c_grow_92f84_31 2 rfl rfl ?_
  refine g_aload_n (t := 33) X dJx4a65c_grow_92f84_32 2 rfl rfl ?_
  refine g_getf (t := 36) X inJx4a65c 0 rfl rfl 1 (by decide) q1_51 rfl rfl dJx4a65c_grow_92f84_33 rfl ?_
  refine g_iload_n (t := 37) X dJx4a65c_grow_92f84_36 0 rfl rfl ?_
  refine g_callS (t := 40) (mc := 1) (ms := m) (rest := [.ref al]) X mt_J7_copyOf_1904c q1_153 q1_154 (c_J7_copyOf_1904c (m := m) (cap := cap) (f := f) hfl hk9 1 rfl (by omega) (by omega) (fun i hi y hy => by
          obtain ⟨k, fs, h⟩ := hel i hi y hy
          exact ⟨k + 2, fs, h⟩)) (by decide) (by omega) (by omega) (Nat.le_of_ble_eq_true rfl) rfl rfl dJx4a65c_grow_92f84_37 rfl (k_ex (fun q _ => ?_))
  refine g_dup_x1 (t := 41) X dJx4a65c_grow_92f84_40 rfl rfl rfl ?_
  refine g_putf (t := 44) (ws1 := (((al, .inr (4, fAL (E.1, q) n)) :: (E.2, aO C cap f) :: R) ++ [(q, aO C m (cO cap f))])) X inJx4a65c tyJx4a65c tyJx4a65c_ok nmJx4a65c 0 rfl rfl 1 (by decide) q1_51 rfl rfl rfl rfl rfl (Nat.le_of_ble_eq_true rfl) rfl dJx4a65c_grow_92f84_41 rfl ?_
  exact g_aret X r (Or.inr ⟨_, rfl⟩) ⟨q, trivial, rfl, rfl⟩ (by omega) (by omega) dJx4a65c_grow_92f84_44

set_option maxHeartbeats 4000000 in
set_option maxRecDepth 100000 in
/-- grow(), the list is empty -/
theorem c_Jx4a65c_grow_d5877_0 {C : WC} {l : Launch} (hfl : l.stackTraces = false) {al : Nat} {E : Int × Nat} {R : va_W}  (hE : E.2 = C.2.2.2 0) : MM C l yJx4a65c_grow_d5877 cJx4a65c_grow_d5877 1 (some (.array (.object "java/lang/Object"))) 2 1 10 [.ref al] ((al, .inr (4, fAL E 0)) :: R) (fun v w => ∃ q : Nat, True ∧ v = some (.ref q) ∧ w = ((al, .inr (4, fAL (E.1, q) 0)) :: R) ++ [(q, aO C 10 (fun _ => none))]) := by
  refine mf_of (by decide +kernel) (Nat.le_of_ble_eq_true rfl) hfl (fun K Q X r => ?_)
  have X : Cx C l "java/util/ArrayList" cJx4a65c_grow_d5877 1 2 1 10 K := X
  show G C K Q 0 0 0 [(0, .ref al)] [] ((al, .inr (4, fAL E 0)) :: R)
  refine g_aload_n (t := 1) X dJx4a65c_grow_d5877_0 0 rfl rfl ?_
  refine g_aload_n (t := 2) X dJx4a65c_grow_d5877_1 0 rfl rfl ?_
  refine g_getf (t := 5) X inJx4a65c 0 rfl rfl 2 (by decide) q1_52 rfl rfl dJx4a65c_grow_d5877_2 rfl ?_
  refine g_iconst (t := 6) X dJx4a65c_grow_d5877_5 rfl ?_
  refine g_iadd (t := 7) X dJx4a65c_grow_d5877_6 rfl ?_
  refine g_callV (t := 10) (mc := 1) (ms := 10) (rest := []) X mt_Jx4a65c_grow_92f84 q1_139 q1_141 qs_2 0 rfl rfl (c_Jx4a65c_grow_92f84_0 hfl hE) (by decide) (by omega) (by omega) (Nat.le_of_ble_eq_true rfl) rfl rfl dJx4a65c_grow_d5877_7 rfl (k_ex (fun q _ => ?_))
  exact g_aret X r (Or.inr ⟨_, rfl⟩) ⟨q, trivial, rfl, rfl⟩ (by omega) (by omega) dJx4a65c_grow_d5877_10

set_option maxHeartbeats 4000000 in
set_option maxRecDepth 100000 in
/-- grow(), the row is full -/
theorem c_Jx4a65c_grow_d5877_1 {C : WC} {l : Launch} (hfl : l.stackTraces = false) {al cap m : Nat} {E : Int × Nat} {n : Int} {f : Nat → Option Nat} {R : va_W}  {ci : Nat} (hk9 : CI ci) (hn : n = (cap : Int)) (h10 : 10 ≤ cap) (h15 : cap ≤ 15) (hm : m = cap + cap / 2) (hel : ∀ i : Nat, i < cap → ∀ y : Nat, f i = some y → ∃ (k : Nat) (fs : List Value), R[k]? = some (y, .inr (ci, fs))) : MM C l yJx4a65c_grow_d5877 cJx4a65c_grow_d5877 1 (some (.array (.object "java/lang/Object"))) 3 1 m [.ref al] ((al, .inr (4, fAL E n)) :: (E.2, aO C cap f) :: R) (fun v w => ∃ q : Nat, True ∧ v = some (.ref q) ∧ w = ((al, .inr (4, fAL (E.1, q) n)) :: (E.2, aO C cap f) :: R) ++ [(q, aO C m (cO cap f))]) := by
  refine mf_of (by decide +kernel) (Nat.le_of_ble_eq_true rfl) hfl (fun K Q X r => ?_)
  have X : Cx C l "java/util/ArrayList" cJx4a65c_grow_d5877 1 3 1 m K := X
  show G C K Q 0 0 0 [(0, .ref al)] [] ((al, .inr (4, fAL E n)) :: (E.2, aO C cap f) :: R)
  refine g_aload_n (t := 1) X dJx4a65c_grow_d5877_0 0 rfl rfl ?_
  refine g_aload_n (t := 2) X dJx4a65c_grow_d5877_1 0 rfl rfl ?_
  refine g_getf (t := 5) X inJx4a65c 0 rfl rfl 2 (by decide) q1_52 rfl rfl dJx4a65c_grow_d5877_2 rfl ?_
  refine g_iconst (t := 6) X dJx4a65c_grow_d5877_5 rfl ?_
  refine g_iadd (t := 7) X dJx4a65c_grow_d5877_6 rfl ?_
  refine g_callV (t := 10) (mc := 1) (ms := m) (rest := []) X mt_Jx4a65c_grow_92f84 q1_139 q1_141 qs_2 0 rfl rfl (c_Jx4a65c_grow_92f84_1 hfl hk9 hn h10 h15 hm hel) (by decide) (by omega) (by omega) (Nat.le_of_ble_eq_true rfl) rfl rfl dJx4a65c_grow_d5877_7 rfl (k_ex (fun q _ => ?_))
  exact g_aret X r (Or.inr ⟨_, rfl⟩) ⟨q, trivial, rfl, rfl⟩ (by omega) (by omega) dJx4a65c_grow_d5877_10

/-- what add leaves: the element v stands at n -/
def AddP (f : Nat → Option Nat) (n : Int) (v : Nat) (x : Nat × Nat × (Nat → Option Nat)) : Prop := (n < x.2.1 ∧ 10 ≤ x.2.1 ∧ x.2.1 ≤ 22) ∧ x.2.2 n.toNat = some v ∧ (∀ i : Nat, (i : Int) < n → x.2.2 i = f i) ∧ ∀ i : Nat, n < (i : Int) → x.2.2 i = none
theorem AddP.mk' {f g : Nat → Option Nat} {n : Int} {v el cap : Nat} (n0 : 0 ≤ n) (h1 : n < cap) (h2 : 10 ≤ cap) (h3 : cap ≤ 22) (h4 : ∀ i : Nat, (i : Int) < n → g i = f i) (h5 : ∀ i : Nat, n < (i : Int) → g i = none) : AddP f n v (el, cap, va_up g n.toNat (some v)) := by
  refine ⟨⟨h1, h2, h3⟩, va_up_self _ _ _, fun i hi => ?_, fun i hi => ?_⟩
  · show va_up g n.toNat (some v) i = f i
    rw [va_up_ne _ _ (by omega)]; exact h4 i hi
  · show va_up g n.toNat (some v) i = none
    rw [va_up_ne _ _ (by omega)]; exact h5 i hi
set_option maxHeartbeats 4000000 in
set_option maxRecDepth 100000 in
/-- add(e, row, 0), the list is empty -/
theorem c_Jx4a65c_add_72be8_0 {C : WC} {l : Launch} (hfl : l.stackTraces = false) {al : Nat} {E : Int × Nat} {R : va_W}  {ci : Nat} (hk9 : CI ci) {v : Nat} (hv : ∃ (k : Nat) (fs : List Value), R[k]? = some (v, .inr (ci, fs))) {f : Nat → Option Nat} (hE : E.2 = C.2.2.2 0) : MM C l yJx4a65c_add_72be8 cJx4a65c_add_72be8 4 none 3 1 22 [.ref al, .ref v, .ref E.2, vi 0] ((al, .inr (4, fAL E 0)) :: R) (fun w0 w => ∃ x : Nat × Nat × (Nat → Option Nat), AddP f 0 v x ∧ w0 = none ∧ w = (al, .inr (4, fAL (E.1, x.1) (0 + 1))) :: (x.1, aO C x.2.1 x.2.2) :: R) := by
  refine mf_of (by decide +kernel) (Nat.le_of_ble_eq_true rfl) hfl (fun K Q X r => ?_)
  have X : Cx C l "java/util/ArrayList" cJx4a65c_add_72be8 4 3 1 22 K := X
  obtain ⟨kv, fv, hkv⟩ := hv
  obtain ⟨Cn9, T9, N9, hc9, hca9⟩ := id hk9
  show G C K Q 0 0 0 [(0, .ref al), (1, .ref v), (2, .ref E.2), (3, vi 0)] [] ((al, .inr (4, fAL E 0)) :: R)
  refine g_iload_n (t := 1) X dJx4a65c_add_72be8_0 3 rfl rfl ?_
  refine g_aload_n (t := 2) X dJx4a65c_add_72be8_1 2 rfl rfl ?_
  rw [hE]
  refine g_tlen (t := 3) X (fun s H h => h.2.2.1.2) dJx4a65c_add_72be8_2 rfl ?_
  rw [← hE]
  refine g_icmp_ne (t := 11) (u := 6) X dJx4a65c_add_72be8_3 (by decide) rfl ⟨by omega, by omega⟩ ⟨by omega, by omega⟩ (fun c => absurd c (by decide)) (fun _ => ?_)
  refine g_aload_n (t := 7) X dJx4a65c_add_72be8_6 0 rfl rfl ?_
  refine g_callV (t := 10) (mc := 1) (ms := 10) (rest := []) X mt_Jx4a65c_grow_d5877 q1_135 q1_137 qs_1 0 rfl rfl (c_Jx4a65c_grow_d5877_0 hfl hE) (by decide) (by omega) (by omega) (Nat.le_of_ble_eq_true rfl) rfl rfl dJx4a65c_add_72be8_7 rfl (k_ex (fun q _ => ?_))
  refine g_astore_n (t := 11) (lv1 := [(2, .ref q), (0, .ref al), (1, .ref v), (3, vi 0)]) X dJx4a65c_add_72be8_10 (by decide) rfl rfl ?_
  refine g_aload_n (t := 12) X dJx4a65c_add_72be8_11 0 rfl rfl ?_
  refine g_iload_n (t := 13) X dJx4a65c_add_72be8_12 3 rfl rfl ?_
  refine g_aload_n (t := 14) X dJx4a65c_add_72be8_13 2 rfl rfl ?_
  refine g_oast (t := 15) (f := (fun _ => none)) X ((al, (.inr (4, fAL (E.1, q) 0) : va_E)) :: R).length (new_at _ _) (qk := kv + 1) (old_at (k := kv + 1) (show ((al, .inr (4, fAL (E.1, q) 0)) :: R)[kv + 1]? = _ from hkv) _) hc9 hca9 (by omega) (by omega) (by omega) (new_set _ _ _) dJx4a65c_add_72be8_14 rfl ?_
  refine g_aload_n (t := 16) X dJx4a65c_add_72be8_15 1 rfl rfl ?_
  refine g_iload_n (t := 17) X dJx4a65c_add_72be8_16 3 rfl rfl ?_
  refine g_iconst (t := 18) X dJx4a65c_add_72be8_17 rfl ?_
  refine g_iadd (t := 19) X dJx4a65c_add_72be8_18 rfl ?_
  refine g_putf (t := 22) (ws1 := (((al, .inr (4, fAL (E.1, q) 1)) :: R) ++ [(q, aO C 10 (va_up (fun _ => none) (0 : Int).toNat (some v)))])) X inJx4a65c tyJx4a65c tyJx4a65c_ok nmJx4a65c 0 rfl rfl 2 (by decide) q1_52 rfl rfl rfl rfl rfl (Nat.le_of_ble_eq_true rfl) rfl dJx4a65c_add_72be8_19 rfl ?_
  refine g_pm pm_new ?_
  exact g_vret X r ⟨(q, 10, va_up (fun _ => none) (0 : Int).toNat (some v)), AddP.mk' (Int.le_refl 0) (by omega) (by omega) (by omega) (fun i hi => by omega) (fun i _ => rfl), rfl, rfl⟩ (by omega) (by omega) dJx4a65c_add_72be8_22

set_option maxHeartbeats 4000000 in
set_option maxRecDepth 100000 in
/-- add(e, row, n) -/
theorem c_Jx4a65c_add_72be8_1 {C : WC} {l : Launch} (hfl : l.stackTraces = false) {al cap : Nat} {E : Int × Nat} {n : Int} {f : Nat → Option Nat} {R : va_W}  {ci : Nat} (hk9 : CI ci) {v : Nat} (hv : ∃ (k : Nat) (fs : List Value), R[k]? = some (v, .inr (ci, fs))) (n0 : 1 ≤ n) (n15 : n ≤ 15) (nc : n ≤ cap) (h10 : 10 ≤ cap) (h22 : cap ≤ 22) (hno : ∀ i : Nat, n ≤ (i : Int) → f i = none) (hel : ∀ i : Nat, (i : Int) < n → ∀ y : Nat, f i = some y → ∃ (k : Nat) (fs : List Value), R[k]? = some (y, .inr (ci, fs))) : MM C l yJx4a65c_add_72be8 cJx4a65c_add_72be8 4 none 4 1 22 [.ref al, .ref v, .ref E.2, vi n] ((al, .inr (4, fAL E n)) :: (E.2, aO C cap f) :: R) (fun w0 w => ∃ x : Nat × Nat × (Nat → Option Nat), AddP f n v x ∧ w0 = none ∧ w = (al, .inr (4, fAL (E.1, x.1) (n + 1))) :: (x.1, aO C x.2.1 x.2.2) :: R) := by
  refine mf_of (by decide +kernel) (Nat.le_of_ble_eq_true rfl) hfl (fun K Q X r => ?_)
  have X : Cx C l "java/util/ArrayList" cJx4a65c_add_72be8 4 4 1 22 K := X
  obtain ⟨kv, fv, hkv⟩ := hv
  obtain ⟨Cn9, T9, N9, hc9, hca9⟩ := id hk9
  obtain ⟨m, hm⟩ : ∃ m : Nat, m = cap + cap / 2 := ⟨_, rfl⟩
  show G C K Q 0 0 0 [(0, .ref al), (1, .ref v), (2, .ref E.2), (3, vi n)] [] ((al, .inr (4, fAL E n)) :: (E.2, aO C cap f) :: R)
  refine g_iload_n (t := 1) X dJx4a65c_add_72be8_0 3 rfl rfl ?_
  refine g_aload_n (t := 2) X dJx4a65c_add_72be8_1 2 rfl rfl ?_
  refine g_olen (t := 3) (n := cap) (f := f) X 1 rfl dJx4a65c_add_72be8_2 rfl ?_
  refine g_icmp_ne (t := 11) (u := 6) X dJx4a65c_add_72be8_3 (by decide) rfl ⟨by omega, by omega⟩ ⟨by omega, by omega⟩ (fun c_3 => ?_) (fun c_3 => ?_)
  · refine g_aload_n (t := 12) X dJx4a65c_add_72be8_11 2 rfl rfl ?_
    refine g_iload_n (t := 13) X dJx4a65c_add_72be8_12 3 rfl rfl ?_
    refine g_aload_n (t := 14) X dJx4a65c_add_72be8_13 1 rfl rfl ?_
    refine g_oast (t := 15) (f := f) X 1 rfl (qk := kv + 2) hkv hc9 hca9 (by omega) (by omega) (by omega) rfl dJx4a65c_add_72be8_14 rfl ?_
    refine g_aload_n (t := 16) X dJx4a65c_add_72be8_15 0 rfl rfl ?_
    refine g_iload_n (t := 17) X dJx4a65c_add_72be8_16 3 rfl rfl ?_
    refine g_iconst (t := 18) X dJx4a65c_add_72be8_17 rfl ?_
    refine g_iadd (t := 19) X dJx4a65c_add_72be8_18 rfl ?_
    refine g_putf (t := 22) (ws1 := (((al, .inr (4, fAL (E.1, E.2) (n + 1))) :: (E.2, aO C cap (va_up f (n : Int).toNat (some v))) :: R))) X inJx4a65c tyJx4a65c tyJx4a65c_ok nmJx4a65c 0 rfl rfl 2 (by decide) q1_52 rfl rfl rfl rfl rfl (Nat.le_of_ble_eq_true rfl) rfl dJx4a65c_add_72be8_19 rfl ?_
    exact g_vret X r ⟨(E.2, cap, va_up f n.toNat (some v)), AddP.mk' (by omega) (by omega) (by omega) (by omega) (fun i _ => rfl) (fun i hi => hno i (by omega)), rfl, rfl⟩ (by omega) (by omega) dJx4a65c_add_72be8_22
  · refine g_aload_n (t := 7) X dJx4a65c_add_72be8_6 0 rfl rfl ?_
    refine g_callV (t := 10) (mc := 1) (ms := m) (rest := []) X mt_Jx4a65c_grow_d5877 q1_135 q1_137 qs_1 0 rfl rfl (c_Jx4a65c_grow_d5877_1 (m := m) hfl hk9 (by omega) h10 (by omega) (by omega) (fun i hi => hel i (by omega))) (by decide) (by omega) (by omega) (Nat.le_of_ble_eq_true rfl) rfl rfl dJx4a65c_add_72be8_7 rfl (k_ex (fun q _ => ?_))
    refine g_astore_n (t := 11) (lv1 := [(2, .ref q), (0, .ref al), (1, .ref v), (3, vi n)]) X dJx4a65c_add_72be8_10 (by decide) rfl rfl ?_
    refine g_aload_n (t := 12) X dJx4a65c_add_72be8_11 0 rfl rfl ?_
    refine g_iload_n (t := 13) X dJx4a65c_add_72be8_12 3 rfl rfl ?_
    refine g_aload_n (t := 14) X dJx4a65c_add_72be8_13 2 rfl rfl ?_
    refine g_oast (t := 15) (f := cO cap f) X ((al, (.inr (4, fAL (E.1, q) n) : va_E)) :: (E.2, aO C cap f) :: R).length (new_at _ _) (qk := kv + 2) (old_at (k := kv + 2) (show ((al, .inr (4, fAL (E.1, q) n)) :: (E.2, aO C cap f) :: R)[kv + 2]? = _ from hkv) _) hc9 hca9 (by omega) (by omega) (by omega) (new_set _ _ _) dJx4a65c_add_72be8_14 rfl ?_
    refine g_aload_n (t := 16) X dJx4a65c_add_72be8_15 1 rfl rfl ?_
    refine g_iload_n (t := 17) X dJx4a65c_add_72be8_16 3 rfl rfl ?_
    refine g_iconst (t := 18) X dJx4a65c_add_72be8_17 rfl ?_
    refine g_iadd (t := 19) X dJx4a65c_add_72be8_18 rfl ?_
    refine g_putf (t := 22) (ws1 := (((al, .inr (4, fAL (E.1, q) (n + 1))) :: (E.2, aO C cap f) :: R) ++ [(q, aO C m (va_up (cO cap f) (n : Int).toNat (some v)))])) X inJx4a65c tyJx4a65c tyJx4a65c_ok nmJx4a65c 0 rfl rfl 2 (by decide) q1_52 rfl rfl rfl rfl rfl (Nat.le_of_ble_eq_true rfl) rfl dJx4a65c_add_72be8_19 rfl ?_
    refine g_dr dr_old (g_pm pm_new ?_)
    exact g_vret X r ⟨(q, m, va_up (cO cap f) n.toNat (some v)), AddP.mk' (by omega) (by omega) (by omega) (by omega) (fun i hi => if_pos (by omega)) (fun i hi => if_neg (by omega)), rfl, rfl⟩ (by omega) (by omega) dJx4a65c_add_72be8_22

set_option maxHeartbeats 4000000 in
set_option maxRecDepth 100000 in
/-- add(e), the list is empty -/
theorem c_Jx4a65c_add_9ea2d_0 {C : WC} {l : Launch} (hfl : l.stackTraces = false) {al : Nat} {E : Int × Nat} {R : va_W}  {ci : Nat} (hk9 : CI ci) {v : Nat} (hv : ∃ (k : Nat) (fs : List Value), R[k]? = some (v, .inr (ci, fs))) {f : Nat → Option Nat} (hE : E.2 = C.2.2.2 0) : MM C l yJx4a65c_add_9ea2d cJx4a65c_add_9ea2d 2 (some .boolean) 4 1 22 [.ref al, .ref v] ((al, .inr (4, fAL E 0)) :: R) (fun w0 w => ∃ x : Nat × Nat × (Nat → Option Nat), AddP f 0 v x ∧ w0 = some (vi 1) ∧ w = (al, .inr (4, fAL (E.1 + 1, x.1) (0 + 1))) :: (x.1, aO C x.2.1 x.2.2) :: R) := by
  refine mf_of (by decide +kernel) (Nat.le_of_ble_eq_true rfl) hfl (fun K Q X r => ?_)
  have X : Cx C l "java/util/ArrayList" cJx4a65c_add_9ea2d 2 4 1 22 K := X
  show G C K Q 0 0 0 [(0, .ref al), (1, .ref v)] [] ((al, .inr (4, fAL E 0)) :: R)
  refine g_aload_n (t := 1) X dJx4a65c_add_9ea2d_0 0 rfl rfl ?_
  refine g_dup (t := 2) X dJx4a65c_add_9ea2d_1 rfl rfl ?_
  refine g_getfS (t := 5) X inJx4a65c 0 rfl rfl 0 (by decide) q1_54 q1_55 rfl dJx4a65c_add_9ea2d_2 rfl ?_
  refine g_iconst (t := 6) X dJx4a65c_add_9ea2d_5 rfl ?_
  refine g_iadd (t := 7) X dJx4a65c_add_9ea2d_6 rfl ?_
  refine g_putfS (t := 10) (ws1 := (((al, .inr (4, fAL (E.1 + 1, E.2) 0)) :: R))) X inJx4a65c tyJx4a65c tyJx4a65c_ok nmJx4a65c 0 rfl rfl 0 (by decide) q1_54 q1_55 rfl rfl rfl rfl (Nat.le_of_ble_eq_true rfl) rfl dJx4a65c_add_9ea2d_7 rfl ?_
  refine g_aload_n (t := 11) X dJx4a65c_add_9ea2d_10 0 rfl rfl ?_
  refine g_aload_n (t := 12) X dJx4a65c_add_9ea2d_11 1 rfl rfl ?_
  refine g_aload_n (t := 13) X dJx4a65c_add_9ea2d_12 0 rfl rfl ?_
  refine g_getf (t := 16) X inJx4a65c 0 rfl rfl 1 (by decide) q1_51 rfl rfl dJx4a65c_add_9ea2d_13 rfl ?_
  refine g_aload_n (t := 17) X dJx4a65c_add_9ea2d_16 0 rfl rfl ?_
  refine g_getf (t := 20) X inJx4a65c 0 rfl rfl 2 (by decide) q1_52 rfl rfl dJx4a65c_add_9ea2d_17 rfl ?_
  refine g_callV (t := 23) (mc := 1) (ms := 22) (rest := []) X mt_Jx4a65c_add_72be8 q1_131 q1_133 qs_0 0 rfl rfl (c_Jx4a65c_add_72be8_0 (f := f) (E := (E.1 + 1, E.2)) hfl hk9 hv hE) (by decide) (Nat.le_of_ble_eq_true rfl) (Nat.le_of_ble_eq_true rfl) (Nat.le_of_ble_eq_true rfl) rfl rfl dJx4a65c_add_9ea2d_20 rfl (k_exn (fun x hx => ?_))
  refine g_iconst (t := 24) X dJx4a65c_add_9ea2d_23 rfl ?_
  exact g_zret X r rfl ⟨x, hx, rfl, rfl⟩ (Nat.le_of_ble_eq_true rfl) (Nat.le_of_ble_eq_true rfl) dJx4a65c_add_9ea2d_24

set_option maxHeartbeats 4000000 in
set_option maxRecDepth 100000 in
/-- add(e) -/
theorem c_Jx4a65c_add_9ea2d_1 {C : WC} {l : Launch} (hfl : l.stackTraces = false) {al cap : Nat} {E : Int × Nat} {n : Int} {f : Nat → Option Nat} {R : va_W}  {ci : Nat} (hk9 : CI ci) {v : Nat} (hv : ∃ (k : Nat) (fs : List Value), R[k]? = some (v, .inr (ci, fs))) (n0 : 1 ≤ n) (n15 : n ≤ 15) (nc : n ≤ cap) (h10 : 10 ≤ cap) (h22 : cap ≤ 22) (hno : ∀ i : Nat, n ≤ (i : Int) → f i = none) (hel : ∀ i : Nat, (i : Int) < n → ∀ y : Nat, f i = some y → ∃ (k : Nat) (fs : List Value), R[k]? = some (y, .inr (ci, fs))) : MM C l yJx4a65c_add_9ea2d cJx4a65c_add_9ea2d 2 (some .boolean) 5 1 22 [.ref al, .ref v] ((al, .inr (4, fAL E n)) :: (E.2, aO C cap f) :: R) (fun w0 w => ∃ x : Nat × Nat × (Nat → Option Nat), AddP f n v x ∧ w0 = some (vi 1) ∧ w = (al, .inr (4, fAL (E.1 + 1, x.1) (n + 1))) :: (x.1, aO C x.2.1 x.2.2) :: R) := by
  refine mf_of (by decide +kernel) (Nat.le_of_ble_eq_true rfl) hfl (fun K Q X r => ?_)
  have X : Cx C l "java/util/ArrayList" cJx4a65c_add_9ea2d 2 5 1 22 K := X
  show G C K Q 0 0 0 [(0, .ref al), (1, .ref v)] [] ((al, .inr (4, fAL E n)) :: (E.2, aO C cap f) :: R)
  refine g_aload_n (t := 1) X dJx4a65c_add_9ea2d_0 0 rfl rfl ?_
  refine g_dup (t := 2) X dJx4a65c_add_9ea2d_1 rfl rfl ?_
  refine g_getfS (t := 5) X inJx4a65c 0 rfl rfl 0 (by decide) q1_54 q1_55 rfl dJx4a65c_add_9ea2d_2 rfl ?_
  refine g_iconst (t := 6) X dJx4a65c_add_9ea2d_5 rfl ?_
  refine g_iadd (t := 7) X dJx4a65c_add_9ea2d_6 rfl ?_
  refine g_putfS (t := 10) (ws1 := (((al, .inr (4, fAL (E.1 + 1, E.2) n)) :: (E.2, aO C cap f) :: R))) X inJx4a65c tyJx4a65c tyJx4a65c_ok nmJx4a65c 0 rfl rfl 0 (by decide) q1_54 q1_55 rfl rfl rfl rfl (Nat.le_of_ble_eq_true rfl) rfl dJx4a65c_add_9ea2d_7 rfl ?_
  refine g_aload_n (t := 11) X dJx4a65c_add_9ea2d_10 0 rfl rfl ?_
  refine g_aload_n (t := 12) X dJx4a65c_add_9ea2d_11 1 rfl rfl ?_
  refine g_aload_n (t := 13) X dJx4a65c_add_9ea2d_12 0 rfl rfl ?_
  refine g_getf (t := 16) X inJx4a65c 0 rfl rfl 1 (by decide) q1_51 rfl rfl dJx4a65c_add_9ea2d_13 rfl ?_
  refine g_aload_n (t := 17) X dJx4a65c_add_9ea2d_16 0 rfl rfl ?_
  refine g_getf (t := 20) X inJx4a65c 0 rfl rfl 2 (by decide) q1_52 rfl rfl dJx4a65c_add_9ea2d_17 rfl ?_
  refine g_callV (t := 23) (mc := 1) (ms := 22) (rest := []) X mt_Jx4a65c_add_72be8 q1_131 q1_133 qs_0 0 rfl rfl (c_Jx4a65c_add_72be8_1 (f := f) (E := (E.1 + 1, E.2)) hfl hk9 hv n0 n15 nc h10 h22 hno hel) (by decide) (Nat.le_of_ble_eq_true rfl) (Nat.le_of_ble_eq_true rfl) (Nat.le_of_ble_eq_true rfl) rfl rfl dJx4a65c_add_9ea2d_20 rfl (k_exn (fun x hx => ?_))
  refine g_iconst (t := 24) X dJx4a65c_add_9ea2d_23 rfl ?_
  exact g_zret X r rfl ⟨x, hx, rfl, rfl⟩ (Nat.le_of_ble_eq_true rfl) (Nat.le_of_ble_eq_true rfl) dJx4a65c_add_9ea2d_24

