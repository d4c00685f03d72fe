theorem pm_1 {x : Nat × va_E} {W : va_W} : List.Perm (x :: W) (W ++ [x]) := (List.perm_append_singleton x W).symm
section WMi
end WMi
set_option maxHeartbeats 4000000 in
set_option maxRecDepth 100000 in
/-- AbstractCollection() -/
theorem c_Jxa1e45_init_da8c8 {C : WC} {l : Launch} (hfl : l.stackTraces = false) {q : Nat} {R : va_W} : MM C l yJxa1e45_init_da8c8 cJxa1e45_init_da8c8 1 none 0 0 0 [.ref q] ((q, (.inr (4, [vi 0, .null, vi 0]) : va_E)) :: R) (rn ((q, (.inr (4, [vi 0, .null, vi 0]) : va_E)) :: R)) := by
  refine mi_of (by decide +kernel) (Nat.le_of_ble_eq_true rfl) hfl rfl (fun K Q X hni r => ?_)
  have X : Cx C l "java/util/AbstractCollection" cJxa1e45_init_da8c8 1 0 0 0 K := X
  show G C K Q 0 0 0 [(0, .ref q)] [] ((q, (.inr (4, [vi 0, .null, vi 0]) : va_E)) :: R)
  refine g_aload_n (t := 1) X dJxa1e45_init_da8c8_0 0 rfl rfl ?_
  refine g_oinit (t := 4) X q1_48 (Nat.le_of_ble_eq_true rfl) dJxa1e45_init_da8c8_1 rfl ?_
  exact g_vret X r rn_i (Nat.le_of_ble_eq_true rfl) (Nat.le_of_ble_eq_true rfl) dJxa1e45_init_da8c8_4

set_option maxHeartbeats 4000000 in
set_option maxRecDepth 100000 in
/-- AbstractList() -/
theorem c_Jxc12de_init_da8c8 {C : WC} {l : Launch} (hfl : l.stackTraces = false) {q : Nat} {R : va_W} : MM C l yJxc12de_init_da8c8 cJxc12de_init_da8c8 1 none 1 0 0 [.ref q] ((q, (.inr (4, [vi 0, .null, vi 0]) : va_E)) :: R) (rn ((q, (.inr (4, [vi 0, .null, vi 0]) : va_E)) :: R)) := by
  refine mi_of (by decide +kernel) (Nat.le_of_ble_eq_true rfl) hfl rfl (fun K Q X hni r => ?_)
  have X : Cx C l "java/util/AbstractList" cJxc12de_init_da8c8 1 1 0 0 K := X
  show G C K Q 0 0 0 [(0, .ref q)] [] ((q, (.inr (4, [vi 0, .null, vi 0]) : va_E)) :: R)
  refine g_aload_n (t := 1) X dJxc12de_init_da8c8_0 0 rfl rfl ?_
  refine g_callI (t := 4) (mc := 0) (ms := 0) (rest := []) X mt_Jxa1e45_init_da8c8 q1_45 q1_46 (by decide +kernel) (c_Jxa1e45_init_da8c8 hfl) (by decide) (Nat.le_of_ble_eq_true rfl) (Nat.le_of_ble_eq_true rfl) (Nat.le_of_ble_eq_true rfl) rfl rfl dJxc12de_init_da8c8_1 rfl (k_rn ?_)
  show G C K Q _ _ _ _ _ ((q, (.inr (4, [vi 0, .null, vi 0]) : va_E)) :: R)
  refine g_aload_n (t := 5) X dJxc12de_init_da8c8_4 0 rfl rfl ?_
  refine g_iconst (t := 6) X dJxc12de_init_da8c8_5 rfl ?_
  refine g_putf (t := 9) (ws1 := ((q, (.inr (4, [vi 0, .null, vi 0]) : va_E)) :: R)) X inJx4a65c tyJx4a65c tyJx4a65c_ok nmJx4a65c 0 rfl rfl 0 (by decide) q1_53 rfl rfl rfl rfl rfl (Nat.le_of_ble_eq_true rfl) rfl dJxc12de_init_da8c8_6 rfl ?_
  exact g_vret X r rn_i (Nat.le_of_ble_eq_true rfl) (Nat.le_of_ble_eq_true rfl) dJxc12de_init_da8c8_9

set_option maxHeartbeats 4000000 in
set_option maxRecDepth 100000 in
/-- ArrayList() -/
theorem c_Jx4a65c_init_da8c8 {C : WC} {l : Launch} (hfl : l.stackTraces = false) {q : Nat} {R : va_W} : MM C l yJx4a65c_init_da8c8 cJx4a65c_init_da8c8 1 none 2 0 0 [.ref q] ((q, (.inr (4, [vi 0, .null, vi 0]) : va_E)) :: R) (rn ((q, (.inr (4, [vi 0, .ref (C.2.2.2 0), vi 0]) : va_E)) :: R)) := by
  refine mi_of (by decide +kernel) (Nat.le_of_ble_eq_true rfl) hfl rfl (fun K Q X hni r => ?_)
  have X : Cx C l "java/util/ArrayList" cJx4a65c_init_da8c8 1 2 0 0 K := X
  show G C K Q 0 0 0 [(0, .ref q)] [] ((q, (.inr (4, [vi 0, .null, vi 0]) : va_E)) :: R)
  refine g_aload_n (t := 1) X dJx4a65c_init_da8c8_0 0 rfl rfl ?_
  refine g_callI (t := 4) (mc := 0) (ms := 0) (rest := []) X mt_Jxc12de_init_da8c8 q1_42 q1_43 (by decide +kernel) (c_Jxc12de_init_da8c8 hfl) (by decide) (Nat.le_of_ble_eq_true rfl) (Nat.le_of_ble_eq_true rfl) (Nat.le_of_ble_eq_true rfl) rfl rfl dJx4a65c_init_da8c8_1 rfl (k_rn ?_)
  show G C K Q _ _ _ _ _ ((q, (.inr (4, [vi 0, .null, vi 0]) : va_E)) :: R)
  refine g_aload_n (t := 5) X dJx4a65c_init_da8c8_4 0 rfl rfl ?_
  refine g_gets (t := 8) X q1_49 (fun s H h => h.2.2.1.1) dJx4a65c_init_da8c8_5 rfl ?_
  refine g_putf (t := 11) (ws1 := ((q, (.inr (4, [vi 0, .ref (C.2.2.2 0), vi 0]) : va_E)) :: R)) X inJx4a65c tyJx4a65c tyJx4a65c_ok nmJx4a65c 0 rfl rfl 1 (by decide) q1_51 rfl rfl rfl rfl rfl (Nat.le_of_ble_eq_true rfl) rfl dJx4a65c_init_da8c8_8 rfl ?_
  exact g_vret X r rn_i (Nat.le_of_ble_eq_true rfl) (Nat.le_of_ble_eq_true rfl) dJx4a65c_init_da8c8_11

/-- the page at the start -/
def Y0 : Nat → Int → Int := fun k => match k with
  | 3 => fun _ => 1
  | _ => fun _ => 0
def Z0 : Nat → Int → Int := fun _ _ => 0
theorem Y0_MI : MI Y0 := by
  refine ⟨⟨by decide, by decide⟩, fun f f1 f2 => ?_, ⟨by decide, by decide⟩, fun p p0 p1 => ?_, ⟨by decide, by decide⟩, fun k k0 k1 => ?_, fun i j i0 ij j1 => ?_, rfl⟩
  · exact absurd (show f < 1 from f2) (by omega)
  · exact absurd (show p < 0 from p1) (by omega)
  · exact absurd (show k < 0 from k1) (by omega)
  · exact absurd (show j < 0 from j1) (by omega)
theorem pm_rev {α : Type} {A B D L : List α} {R : List α} (h : L = (B ++ (A ++ D)).reverse) : List.Perm ((A ++ (B ++ D)) ++ R) (L ++ R) := by
  subst h
  refine List.Perm.append_right R ?_
  refine List.Perm.trans ?_ (List.reverse_perm _).symm
  rw [← List.append_assoc, ← List.append_assoc]
  exact List.Perm.append_right D List.perm_append_comm
theorem pk_go {α : Type} {b s p f o e x : α} {r : List α} : List.Perm (s :: b :: p :: f :: o :: e :: x :: r) (f :: e :: ((b :: s :: p :: o :: r) ++ [x])) := by
  refine List.Perm.trans (List.perm_middle (l₁ := [s, b, p]) (a := f) (l₂ := o :: e :: x :: r)) (List.Perm.cons f ?_)
  refine List.Perm.trans (List.perm_middle (l₁ := [s, b, p, o]) (a := e) (l₂ := x :: r)) (List.Perm.cons e ?_)
  refine List.Perm.trans ?_ (List.perm_append_singleton x (b :: s :: p :: o :: r)).symm
  refine List.Perm.trans (List.perm_middle (l₁ := [s, b, p, o]) (a := x) (l₂ := r)) (List.Perm.cons x ?_)
  exact List.Perm.swap b s (p :: o :: r)
theorem pk_gi {α : Type} {b s p f o x : α} {r : List α} : List.Perm (f :: ((b :: s :: p :: o :: r) ++ [x])) ((b :: s :: p :: f :: o :: r) ++ [x]) := (List.perm_middle (l₁ := [b, s, p]) (a := f) (l₂ := o :: (r ++ [x]))).symm
def G0 : Int → Int := fun _ => -1
theorem SI_0 : SI Y0 G0 := fun p p0 p1 => absurd (show p < 0 from p1) (by omega)
theorem PLF_0 {C : WC} {cap : Nat} : PLF C (0, C.2.2.2 0) cap Y0 := ⟨fun _ => rfl, fun h => absurd (show (0 : Int) < 0 from h) (by omega)⟩
theorem elW_0 {C : WC} {ad : Nat → Nat} {E : Int × Nat} {cap : Nat} : elW C ad E cap (Y0 10 0) = [] := if_pos (Int.le_refl 0)
set_option maxHeartbeats 4000000 in
set_option maxRecDepth 100000 in
/-- Springleaf() -/
theorem c_X4_init {C : WC} {l : Launch} (hfl : l.stackTraces = false) {q : Nat} {R : va_W} : MM C l yX4_init cX4_init 1 none 5 30 400 [.ref q] ((q, (.inr (7, [.null, .null, .null, vi 0, vi 0]) : va_E)) :: R) (fun v w => ∃ x : (Nat → Nat) × Nat × (Int × Nat × Nat), (x.1 4 = q ∧ FC x.2.2 Y0) ∧ v = none ∧ w = WW C x.1 (x.2.1, 16, (fun _ => 0), 0, 0) (0, C.2.2.2 0) x.2.2 Z0 Y0 G0 R) := by
  refine mi_of (by decide +kernel) (Nat.le_of_ble_eq_true rfl) hfl rfl (fun K Q X hni r => ?_)
  have X : Cx C l "Springleaf" cX4_init 1 5 30 400 K := X
  show G C K Q 0 0 0 [(0, .ref q)] [] ((q, (.inr (7, [.null, .null, .null, vi 0, vi 0]) : va_E)) :: R)
  refine g_aload_n (t := 1) X dX4_init_0 0 rfl rfl ?_
  refine g_oinit (t := 4) X q1_34 (Nat.le_of_ble_eq_true rfl) dX4_init_1 rfl ?_
  refine g_aload_n (t := 5) X dX4_init_4 0 rfl rfl ?_
  refine g_new (t := 8) (ci := 4) (fs := [vi 0, .null, vi 0]) X inJx4a65c tyJx4a65c tyJx4a65c_ok q1_37 q1_38 q1_4 rfl (by decide +kernel) (Nat.le_of_ble_eq_true rfl) (Nat.le_of_ble_eq_true rfl) dX4_init_5 rfl (fun q5 => ?_)
  refine g_pm (ws2 := ((q5, (.inr (4, [vi 0, .null, vi 0]) : va_E)) :: (q, (.inr (7, [.null, .null, .null, vi 0, vi 0]) : va_E)) :: R)) pm_1 ?_
  refine g_dup (t := 9) X dX4_init_8 rfl rfl ?_
  refine g_callI (t := 12) (mc := 0) (ms := 0) (rest := [.ref q5, .ref q]) X mt_Jx4a65c_init_da8c8 q1_39 q1_40 (by decide +kernel) (c_Jx4a65c_init_da8c8 hfl) (by decide) (Nat.le_of_ble_eq_true rfl) (Nat.le_of_ble_eq_true rfl) (Nat.le_of_ble_eq_true rfl) rfl rfl dX4_init_9 rfl (k_rn ?_)
  show G C K Q _ _ _ _ _ ((q5, (.inr (4, [vi 0, .ref (C.2.2.2 0), vi 0]) : va_E)) :: (q, (.inr (7, [.null, .null, .null, vi 0, vi 0]) : va_E)) :: R)
  refine g_putF (t := 15) (ws1 := ((q5, (.inr (4, [vi 0, .ref (C.2.2.2 0), vi 0]) : va_E)) :: (q, (.inr (7, [.ref q5, .null, .null, vi 0, vi 0]) : va_E)) :: R)) X hni inX4 tyX4 tyX4_ok nmX4 1 rfl rfl 0 (by decide) q1_186 rfl rfl rfl rfl rfl rfl (Nat.le_of_ble_eq_true rfl) rfl dX4_init_12 rfl ?_
  refine g_aload_n (t := 16) X dX4_init_15 0 rfl rfl ?_
  refine g_new (t := 19) (ci := 4) (fs := [vi 0, .null, vi 0]) X inJx4a65c tyJx4a65c tyJx4a65c_ok q1_37 q1_38 q1_4 rfl (by decide +kernel) (Nat.le_of_ble_eq_true rfl) (Nat.le_of_ble_eq_true rfl) dX4_init_16 rfl (fun q16 => ?_)
  refine g_pm (ws2 := ((q16, (.inr (4, [vi 0, .null, vi 0]) : va_E)) :: (q5, (.inr (4, [vi 0, .ref (C.2.2.2 0), vi 0]) : va_E)) :: (q, (.inr (7, [.ref q5, .null, .null, vi 0, vi 0]) : va_E)) :: R)) pm_1 ?_
  refine g_dup (t := 20) X dX4_init_19 rfl rfl ?_
  refine g_callI (t := 23) (mc := 0) (ms := 0) (rest := [.ref q16, .ref q]) X mt_Jx4a65c_init_da8c8 q1_39 q1_40 (by decide +kernel) (c_Jx4a65c_init_da8c8 hfl) (by decide) (Nat.le_of_ble_eq_true rfl) (Nat.le_of_ble_eq_true rfl) (Nat.le_of_ble_eq_true rfl) rfl rfl dX4_init_20 rfl (k_rn ?_)
  show G C K Q _ _ _ _ _ ((q16, (.inr (4, [vi 0, .ref (C.2.2.2 0), vi 0]) : va_E)) :: (q5, (.inr (4, [vi 0, .ref (C.2.2.2 0), vi 0]) : va_E)) :: (q, (.inr (7, [.ref q5, .null, .null, vi 0, vi 0]) : va_E)) :: R)
  refine g_putF (t := 26) (ws1 := ((q16, (.inr (4, [vi 0, .ref (C.2.2.2 0), vi 0]) : va_E)) :: (q5, (.inr (4, [vi 0, .ref (C.2.2.2 0), vi 0]) : va_E)) :: (q, (.inr (7, [.ref q5, .ref q16, .null, vi 0, vi 0]) : va_E)) :: R)) X hni inX4 tyX4 tyX4_ok nmX4 2 rfl rfl 1 (by decide) q1_187 rfl rfl rfl rfl rfl rfl (Nat.le_of_ble_eq_true rfl) rfl dX4_init_23 rfl ?_
  refine g_aload_n (t := 27) X dX4_init_26 0 rfl rfl ?_
  refine g_new (t := 30) (ci := 1) (fs := [.null, vi 0, vi 0, vi 0]) X inJ4 tyJ4 tyJ4_ok q1_63 q1_64 q1_6 rfl (by decide +kernel) (Nat.le_of_ble_eq_true rfl) (Nat.le_of_ble_eq_true rfl) dX4_init_27 rfl (fun q27 => ?_)
  refine g_pm (ws2 := ((q27, (.inr (1, [.null, vi 0, vi 0, vi 0]) : va_E)) :: (q16, (.inr (4, [vi 0, .ref (C.2.2.2 0), vi 0]) : va_E)) :: (q5, (.inr (4, [vi 0, .ref (C.2.2.2 0), vi 0]) : va_E)) :: (q, (.inr (7, [.ref q5, .ref q16, .null, vi 0, vi 0]) : va_E)) :: R)) pm_1 ?_
  refine g_dup (t := 31) X dX4_init_30 rfl rfl ?_
  refine g_callI (t := 34) (mc := 1) (ms := 16) (rest := [.ref q27, .ref q]) X mt_J4_init_da8c8 q1_65 q1_66 (by decide +kernel) (c_J4_init_da8c8 hfl) (by decide) (Nat.le_of_ble_eq_true rfl) (Nat.le_of_ble_eq_true rfl) (Nat.le_of_ble_eq_true rfl) rfl rfl dX4_init_31 rfl (k_exn (fun x31 _ => ?_))
  refine g_pm (ws2 := ((x31, aB C 16 (fun _ => 0)) :: (q27, (.inr (1, fSB (x31, 16, (fun _ => 0), 0, 0)) : va_E)) :: (q16, (.inr (4, [vi 0, .ref (C.2.2.2 0), vi 0]) : va_E)) :: (q5, (.inr (4, [vi 0, .ref (C.2.2.2 0), vi 0]) : va_E)) :: (q, (.inr (7, [.ref q5, .ref q16, .null, vi 0, vi 0]) : va_E)) :: R)) pm_1 ?_
  refine g_putF (t := 37) (ws1 := ((x31, aB C 16 (fun _ => 0)) :: (q27, (.inr (1, fSB (x31, 16, (fun _ => 0), 0, 0)) : va_E)) :: (q16, (.inr (4, [vi 0, .ref (C.2.2.2 0), vi 0]) : va_E)) :: (q5, (.inr (4, [vi 0, .ref (C.2.2.2 0), vi 0]) : va_E)) :: (q, (.inr (7, [.ref q5, .ref q16, .ref q27, vi 0, vi 0]) : va_E)) :: R)) X hni inX4 tyX4 tyX4_ok nmX4 4 rfl rfl 2 (by decide) q1_188 rfl rfl rfl rfl rfl rfl (Nat.le_of_ble_eq_true rfl) rfl dX4_init_34 rfl ?_
  refine g_aload_n (t := 38) X dX4_init_37 0 rfl rfl ?_
  refine g_getf (t := 41) X inX4 4 rfl rfl 0 (by decide) q1_186 rfl rfl dX4_init_38 rfl ?_
  refine g_new (t := 44) (ci := 5) (fs := [vi 0, .null, vi 0, vi 0, vi 0, vi 0, vi 0]) X inX0 tyX0 tyX0_ok q1_96 q1_97 q1_9 rfl (by decide +kernel) (Nat.le_of_ble_eq_true rfl) (Nat.le_of_ble_eq_true rfl) dX4_init_41 rfl (fun q41 => ?_)
  refine g_dup (t := 45) X dX4_init_44 rfl rfl ?_
  refine g_iconst (t := 46) X dX4_init_45 rfl ?_
  refine g_null (t := 47) X dX4_init_46 rfl ?_
  refine g_iconst (t := 48) X dX4_init_47 rfl ?_
  refine g_iconst (t := 49) X dX4_init_48 rfl ?_
  refine g_callI (t := 52) (mc := 0) (ms := 0) (rest := [.ref q41, .ref q5]) X mt_X0_init q1_98 q1_99 (by decide +kernel) (c_X0_init_n hfl) (by decide) (Nat.le_of_ble_eq_true rfl) (Nat.le_of_ble_eq_true rfl) (Nat.le_of_ble_eq_true rfl) rfl rfl dX4_init_49 rfl (k_rn ?_)
  obtain ⟨a0, ha0⟩ : ∃ a0 : Nat → Nat, a0 = (fun i => match i with | 0 => q27 | 2 => q16 | 3 => q5 | 4 => q | _ => 0) := ⟨_, rfl⟩
  refine g_pm (ws2 := (q5, (.inr (4, fAL (0, C.2.2.2 0) 0) : va_E)) :: (((x31, aB C 16 (fun _ => 0)) :: (q27, (.inr (1, fSB (x31, 16, (fun _ => 0), 0, 0)) : va_E)) :: (q16, (.inr (4, [vi 0, .ref (C.2.2.2 0), vi 0]) : va_E)) :: (q, (.inr (7, [.ref q5, .ref q16, .ref q27, vi 0, vi 0]) : va_E)) :: R) ++ [(q41, (.inr (5, [vi 0, .null, vi 0, vi 0, vi 0, vi 0, vi 0]) : va_E))])) pk_gi ?_
  refine g_callV (t := 55) (mc := 1) (ms := 22) (rest := []) X mt_Jx4a65c_add_9ea2d q1_127 q1_128 q1_129 0 rfl rfl (c_Jx4a65c_add_9ea2d_0 (E := (0, C.2.2.2 0)) (f := flF a0 0) hfl CI_5 ⟨_, _, new_at _ _⟩ rfl) (by decide) (Nat.le_of_ble_eq_true rfl) (Nat.le_of_ble_eq_true rfl) (Nat.le_of_ble_eq_true rfl) rfl rfl dX4_init_52 rfl (k_ex (fun x9 hA => ?_))
  have eL := flF_push (Int.le_refl 0) hA
  obtain ⟨el9, cap9, f9⟩ := x9
  have eL : f9 = flF (adF a0 0 q41) (0 + 1) := eL
  subst eL
  have b0 : adF a0 0 q41 0 = q27 := by rw [adF_0 (by omega), ha0]; rfl
  have b2 : adF a0 0 q41 2 = q16 := by rw [adF_0 (by omega), ha0]; rfl
  have b3 : adF a0 0 q41 3 = q5 := by rw [adF_0 (by omega), ha0]; rfl
  have b4 : adF a0 0 q41 4 = q := by rw [adF_0 (by omega), ha0]; rfl
  have b5 : fA (adF a0 0 q41) 0 = q41 := adF_n rfl
  have hW : WW C (adF a0 0 q41) (x31, 16, (fun _ => 0), 0, 0) (0, C.2.2.2 0) (0 + 1, el9, cap9) Z0 Y0 G0 R = (q27, .inr (1, fSB (x31, 16, (fun _ => 0), 0, 0))) :: (x31, aB C 16 (fun _ => 0)) :: (q16, .inr (4, [vi 0, .ref (C.2.2.2 0), vi 0])) :: (q5, .inr (4, fAL (0 + 1, el9) (0 + 1))) :: (q, (.inr (7, [.ref q5, .ref q16, .ref q27, vi 0, vi 0]) : va_E)) :: (el9, aO C cap9 (flF (adF a0 0 q41) (0 + 1))) :: (q41, .inr (5, [vi 0, .null, vi 0, vi 0, vi 0, vi 0, vi 0])) :: R := by
    show (adF a0 0 q41 0, _) :: _ :: (adF a0 0 q41 2, _) :: (adF a0 0 q41 3, _) :: (adF a0 0 q41 4, (.inr (7, [.ref (adF a0 0 q41 3), .ref (adF a0 0 q41 2), .ref (adF a0 0 q41 0), vi 0, vi 0]) : va_E)) :: _ :: (fA (adF a0 0 q41) 0, _) :: _ = _
    rw [b0, b2, b3, b4, b5]
    rfl
  refine g_pm (ws2 := WW C (adF a0 0 q41) (x31, 16, (fun _ => 0), 0, 0) (0, C.2.2.2 0) (0 + 1, el9, cap9) Z0 Y0 G0 R) (by rw [hW]; exact pk_go) ?_
  have hC9 : FC (0 + 1, el9, cap9) Y0 := ⟨⟨hA.1.2.1, hA.1.2.2⟩, show (1 : Int) ≤ (cap9 : Int) by have h9 : (0 : Int) < (cap9 : Int) := hA.1.1; omega⟩
  refine g_pop (t := 56) X dX4_init_55 rfl rfl ?_
  exact g_vret X r ⟨(adF a0 0 q41, x31, (0 + 1, el9, cap9)), ⟨b4, hC9⟩, rfl, rfl⟩ (Nat.le_of_ble_eq_true rfl) (Nat.le_of_ble_eq_true rfl) dX4_init_56

set_option maxHeartbeats 4000000 in
set_option maxRecDepth 100000 in
/-- SpringleafModel() -/
theorem c_X5_init {C : WC} {l : Launch} (hfl : l.stackTraces = false) {q : Nat} {R : va_W} : MM C l yX5_init cX5_init 1 none 0 19 300 [.ref q] ((q, (.inr (8, [.null, .null, .null, vi 0, .null, .null, .null, .null, .null, .null, vi 0, .null, vi 0, .null, .null, .null, .null, vi 0, .null, vi 0, .null, .null, .null, .null, vi 0]) : va_E)) :: R) (fun v w => ∃ x : Nat → Nat, x 0 = q ∧ v = none ∧ w = wM C x Y0 Z0 (fun _ => 0) 0 ++ R) := by
  refine mi_of (by decide +kernel) (Nat.le_of_ble_eq_true rfl) hfl rfl (fun K Q X hni r => ?_)
  have X : Cx C l "SpringleafModel" cX5_init 1 0 19 300 K := X
  show G C K Q 0 0 0 [(0, .ref q)] [] ((q, (.inr (8, [.null, .null, .null, vi 0, .null, .null, .null, .null, .null, .null, vi 0, .null, vi 0, .null, .null, .null, .null, vi 0, .null, vi 0, .null, .null, .null, .null, vi 0]) : va_E)) :: R)
  refine g_aload_n (t := 1) X dX5_init_0 0 rfl rfl ?_
  refine g_oinit (t := 4) X q4_208 (Nat.le_of_ble_eq_true rfl) dX5_init_1 rfl ?_
  refine g_aload_n (t := 5) X dX5_init_4 0 rfl rfl ?_
  refine g_bipush (t := 7) (z := 12) X dX5_init_5 (by decide +kernel) rfl ?_
  refine g_newa_i (t := 9) (n := 12) X (Nat.le_of_ble_eq_true rfl) (Nat.le_of_ble_eq_true rfl) (Nat.le_of_ble_eq_true rfl) dX5_init_7 rfl (fun q7 => ?_)
  refine g_pm (ws2 := ((q7, aI C 12 (fun _ => 0)) :: (q, (.inr (8, [.null, .null, .null, vi 0, .null, .null, .null, .null, .null, .null, vi 0, .null, vi 0, .null, .null, .null, .null, vi 0, .null, vi 0, .null, .null, .null, .null, vi 0]) : va_E)) :: R)) pm_1 ?_
  refine g_putF (t := 12) (ws1 := ((q7, aI C 12 (fun _ => 0)) :: (q, (.inr (8, [.ref q7, .null, .null, vi 0, .null, .null, .null, .null, .null, .null, vi 0, .null, vi 0, .null, .null, .null, .null, vi 0, .null, vi 0, .null, .null, .null, .null, vi 0]) : va_E)) :: R)) X hni inM tyX5 tyX5_ok nmX5 1 rfl rfl 0 (by decide) q4_209 rfl rfl rfl rfl rfl rfl (Nat.le_of_ble_eq_true rfl) rfl dX5_init_9 rfl ?_
  refine g_aload_n (t := 13) X dX5_init_12 0 rfl rfl ?_
  refine g_bipush (t := 15) (z := 12) X dX5_init_13 (by decide +kernel) rfl ?_
  refine g_newa_i (t := 17) (n := 12) X (Nat.le_of_ble_eq_true rfl) (Nat.le_of_ble_eq_true rfl) (Nat.le_of_ble_eq_true rfl) dX5_init_15 rfl (fun q15 => ?_)
  refine g_pm (ws2 := ((q15, aI C 12 (fun _ => 0)) :: (q7, aI C 12 (fun _ => 0)) :: (q, (.inr (8, [.ref q7, .null, .null, vi 0, .null, .null, .null, .null, .null, .null, vi 0, .null, vi 0, .null, .null, .null, .null, vi 0, .null, vi 0, .null, .null, .null, .null, vi 0]) : va_E)) :: R)) pm_1 ?_
  refine g_putF (t := 20) (ws1 := ((q15, aI C 12 (fun _ => 0)) :: (q7, aI C 12 (fun _ => 0)) :: (q, (.inr (8, [.ref q7, .ref q15, .null, vi 0, .null, .null, .null, .null, .null, .null, vi 0, .null, vi 0, .null, .null, .null, .null, vi 0, .null, vi 0, .null, .null, .null, .null, vi 0]) : va_E)) :: R)) X hni inM tyX5 tyX5_ok nmX5 2 rfl rfl 1 (by decide) q4_210 rfl rfl rfl rfl rfl rfl (Nat.le_of_ble_eq_true rfl) rfl dX5_init_17 rfl ?_
  refine g_aload_n (t := 21) X dX5_init_20 0 rfl rfl ?_
  refine g_bipush (t := 23) (z := 12) X dX5_init_21 (by decide +kernel) rfl ?_
  refine g_newa_i (t := 25) (n := 12) X (Nat.le_of_ble_eq_true rfl) (Nat.le_of_ble_eq_true rfl) (Nat.le_of_ble_eq_true rfl) dX5_init_23 rfl (fun q23 => ?_)
  refine g_pm (ws2 := ((q23, aI C 12 (fun _ => 0)) :: (q15, aI C 12 (fun _ => 0)) :: (q7, aI C 12 (fun _ => 0)) :: (q, (.inr (8, [.ref q7, .ref q15, .null, vi 0, .null, .null, .null, .null, .null, .null, vi 0, .null, vi 0, .null, .null, .null, .null, vi 0, .null, vi 0, .null, .null, .null, .null, vi 0]) : va_E)) :: R)) pm_1 ?_
  refine g_putF (t := 28) (ws1 := ((q23, aI C 12 (fun _ => 0)) :: (q15, aI C 12 (fun _ => 0)) :: (q7, aI C 12 (fun _ => 0)) :: (q, (.inr (8, [.ref q7, .ref q15, .ref q23, vi 0, .null, .null, .null, .null, .null, .null, vi 0, .null, vi 0, .null, .null, .null, .null, vi 0, .null, vi 0, .null, .null, .null, .null, vi 0]) : va_E)) :: R)) X hni inM tyX5 tyX5_ok nmX5 3 rfl rfl 2 (by decide) q4_211 rfl rfl rfl rfl rfl rfl (Nat.le_of_ble_eq_true rfl) rfl dX5_init_25 rfl ?_
  refine g_aload_n (t := 29) X dX5_init_28 0 rfl rfl ?_
  refine g_iconst (t := 30) X dX5_init_29 rfl ?_
  refine g_putf (t := 33) (ws1 := ((q23, aI C 12 (fun _ => 0)) :: (q15, aI C 12 (fun _ => 0)) :: (q7, aI C 12 (fun _ => 0)) :: (q, (.inr (8, [.ref q7, .ref q15, .ref q23, vi 1, .null, .null, .null, .null, .null, .null, vi 0, .null, vi 0, .null, .null, .null, .null, vi 0, .null, vi 0, .null, .null, .null, .null, vi 0]) : va_E)) :: R)) X inM tyX5 tyX5_ok nmX5 3 rfl rfl 3 (by decide) q4_212 rfl rfl rfl rfl rfl (Nat.le_of_ble_eq_true rfl) rfl dX5_init_30 rfl ?_
  refine g_aload_n (t := 34) X dX5_init_33 0 rfl rfl ?_
  refine g_bipush (t := 36) (z := 16) X dX5_init_34 (by decide +kernel) rfl ?_
  refine g_newa_i (t := 38) (n := 16) X (Nat.le_of_ble_eq_true rfl) (Nat.le_of_ble_eq_true rfl) (Nat.le_of_ble_eq_true rfl) dX5_init_36 rfl (fun q36 => ?_)
  refine g_pm (ws2 := ((q36, aI C 16 (fun _ => 0)) :: (q23, aI C 12 (fun _ => 0)) :: (q15, aI C 12 (fun _ => 0)) :: (q7, aI C 12 (fun _ => 0)) :: (q, (.inr (8, [.ref q7, .ref q15, .ref q23, vi 1, .null, .null, .null, .null, .null, .null, vi 0, .null, vi 0, .null, .null, .null, .null, vi 0, .null, vi 0, .null, .null, .null, .null, vi 0]) : va_E)) :: R)) pm_1 ?_
  refine g_putF (t := 41) (ws1 := ((q36, aI C 16 (fun _ => 0)) :: (q23, aI C 12 (fun _ => 0)) :: (q15, aI C 12 (fun _ => 0)) :: (q7, aI C 12 (fun _ => 0)) :: (q, (.inr (8, [.ref q7, .ref q15, .ref q23, vi 1, .ref q36, .null, .null, .null, .null, .null, vi 0, .null, vi 0, .null, .null, .null, .null, vi 0, .null, vi 0, .null, .null, .null, .null, vi 0]) : va_E)) :: R)) X hni inM tyX5 tyX5_ok nmX5 4 rfl rfl 4 (by decide) q4_213 rfl rfl rfl rfl rfl rfl (Nat.le_of_ble_eq_true rfl) rfl dX5_init_38 rfl ?_
  refine g_aload_n (t := 42) X dX5_init_41 0 rfl rfl ?_
  refine g_bipush (t := 44) (z := 16) X dX5_init_42 (by decide +kernel) rfl ?_
  refine g_newa_i (t := 46) (n := 16) X (Nat.le_of_ble_eq_true rfl) (Nat.le_of_ble_eq_true rfl) (Nat.le_of_ble_eq_true rfl) dX5_init_44 rfl (fun q44 => ?_)
  refine g_pm (ws2 := ((q44, aI C 16 (fun _ => 0)) :: (q36, aI C 16 (fun _ => 0)) :: (q23, aI C 12 (fun _ => 0)) :: (q15, aI C 12 (fun _ => 0)) :: (q7, aI C 12 (fun _ => 0)) :: (q, (.inr (8, [.ref q7, .ref q15, .ref q23, vi 1, .ref q36, .null, .null, .null, .null, .null, vi 0, .null, vi 0, .null, .null, .null, .null, vi 0, .null, vi 0, .null, .null, .null, .null, vi 0]) : va_E)) :: R)) pm_1 ?_
  refine g_putF (t := 49) (ws1 := ((q44, aI C 16 (fun _ => 0)) :: (q36, aI C 16 (fun _ => 0)) :: (q23, aI C 12 (fun _ => 0)) :: (q15, aI C 12 (fun _ => 0)) :: (q7, aI C 12 (fun _ => 0)) :: (q, (.inr (8, [.ref q7, .ref q15, .ref q23, vi 1, .ref q36, .ref q44, .null, .null, .null, .null, vi 0, .null, vi 0, .null, .null, .null, .null, vi 0, .null, vi 0, .null, .null, .null, .null, vi 0]) : va_E)) :: R)) X hni inM tyX5 tyX5_ok nmX5 5 rfl rfl 5 (by decide) q4_214 rfl rfl rfl rfl rfl rfl (Nat.le_of_ble_eq_true rfl) rfl dX5_init_46 rfl ?_
  refine g_aload_n (t := 50) X dX5_init_49 0 rfl rfl ?_
  refine g_bipush (t := 52) (z := 16) X dX5_init_50 (by decide +kernel) rfl ?_
  refine g_newa_i (t := 54) (n := 16) X (Nat.le_of_ble_eq_true rfl) (Nat.le_of_ble_eq_true rfl) (Nat.le_of_ble_eq_true rfl) dX5_init_52 rfl (fun q52 => ?_)
  refine g_pm (ws2 := ((q52, aI C 16 (fun _ => 0)) :: (q44, aI C 16 (fun _ => 0)) :: (q36, aI C 16 (fun _ => 0)) :: (q23, aI C 12 (fun _ => 0)) :: (q15, aI C 12 (fun _ => 0)) :: (q7, aI C 12 (fun _ => 0)) :: (q, (.inr (8, [.ref q7, .ref q15, .ref q23, vi 1, .ref q36, .ref q44, .null, .null, .null, .null, vi 0, .null, vi 0, .null, .null, .null, .null, vi 0, .null, vi 0, .null, .null, .null, .null, vi 0]) : va_E)) :: R)) pm_1 ?_
  refine g_putF (t := 57) (ws1 := ((q52, aI C 16 (fun _ => 0)) :: (q44, aI C 16 (fun _ => 0)) :: (q36, aI C 16 (fun _ => 0)) :: (q23, aI C 12 (fun _ => 0)) :: (q15, aI C 12 (fun _ => 0)) :: (q7, aI C 12 (fun _ => 0)) :: (q, (.inr (8, [.ref q7, .ref q15, .ref q23, vi 1, .ref q36, .ref q44, .ref q52, .null, .null, .null, vi 0, .null, vi 0, .null, .null, .null, .null, vi 0, .null, vi 0, .null, .null, .null, .null, vi 0]) : va_E)) :: R)) X hni inM tyX5 tyX5_ok nmX5 6 rfl rfl 6 (by decide) q4_215 rfl rfl rfl rfl rfl rfl (Nat.le_of_ble_eq_true rfl) rfl dX5_init_54 rfl ?_
  refine g_aload_n (t := 58) X dX5_init_57 0 rfl rfl ?_
  refine g_bipush (t := 60) (z := 16) X dX5_init_58 (by decide +kernel) rfl ?_
  refine g_newa_i (t := 62) (n := 16) X (Nat.le_of_ble_eq_true rfl) (Nat.le_of_ble_eq_true rfl) (Nat.le_of_ble_eq_true rfl) dX5_init_60 rfl (fun q60 => ?_)
  refine g_pm (ws2 := ((q60, aI C 16 (fun _ => 0)) :: (q52, aI C 16 (fun _ => 0)) :: (q44, aI C 16 (fun _ => 0)) :: (q36, aI C 16 (fun _ => 0)) :: (q23, aI C 12 (fun _ => 0)) :: (q15, aI C 12 (fun _ => 0)) :: (q7, aI C 12 (fun _ => 0)) :: (q, (.inr (8, [.ref q7, .ref q15, .ref q23, vi 1, .ref q36, .ref q44, .ref q52, .null, .null, .null, vi 0, .null, vi 0, .null, .null, .null, .null, vi 0, .null, vi 0, .null, .null, .null, .null, vi 0]) : va_E)) :: R)) pm_1 ?_
  refine g_putF (t := 65) (ws1 := ((q60, aI C 16 (fun _ => 0)) :: (q52, aI C 16 (fun _ => 0)) :: (q44, aI C 16 (fun _ => 0)) :: (q36, aI C 16 (fun _ => 0)) :: (q23, aI C 12 (fun _ => 0)) :: (q15, aI C 12 (fun _ => 0)) :: (q7, aI C 12 (fun _ => 0)) :: (q, (.inr (8, [.ref q7, .ref q15, .ref q23, vi 1, .ref q36, .ref q44, .ref q52, .ref q60, .null, .null, vi 0, .null, vi 0, .null, .null, .null, .null, vi 0, .null, vi 0, .null, .null, .null, .null, vi 0]) : va_E)) :: R)) X hni inM tyX5 tyX5_ok nmX5 7 rfl rfl 7 (by decide) q4_216 rfl rfl rfl rfl rfl rfl (Nat.le_of_ble_eq_true rfl) rfl dX5_init_62 rfl ?_
  refine g_aload_n (t := 66) X dX5_init_65 0 rfl rfl ?_
  refine g_bipush (t := 68) (z := 16) X dX5_init_66 (by decide +kernel) rfl ?_
  refine g_newa_i (t := 70) (n := 16) X (Nat.le_of_ble_eq_true rfl) (Nat.le_of_ble_eq_true rfl) (Nat.le_of_ble_eq_true rfl) dX5_init_68 rfl (fun q68 => ?_)
  refine g_pm (ws2 := ((q68, aI C 16 (fun _ => 0)) :: (q60, aI C 16 (fun _ => 0)) :: (q52, aI C 16 (fun _ => 0)) :: (q44, aI C 16 (fun _ => 0)) :: (q36, aI C 16 (fun _ => 0)) :: (q23, aI C 12 (fun _ => 0)) :: (q15, aI C 12 (fun _ => 0)) :: (q7, aI C 12 (fun _ => 0)) :: (q, (.inr (8, [.ref q7, .ref q15, .ref q23, vi 1, .ref q36, .ref q44, .ref q52, .ref q60, .null, .null, vi 0, .null, vi 0, .null, .null, .null, .null, vi 0, .null, vi 0, .null, .null, .null, .null, vi 0]) : va_E)) :: R)) pm_1 ?_
  refine g_putF (t := 73) (ws1 := ((q68, aI C 16 (fun _ => 0)) :: (q60, aI C 16 (fun _ => 0)) :: (q52, aI C 16 (fun _ => 0)) :: (q44, aI C 16 (fun _ => 0)) :: (q36, aI C 16 (fun _ => 0)) :: (q23, aI C 12 (fun _ => 0)) :: (q15, aI C 12 (fun _ => 0)) :: (q7, aI C 12 (fun _ => 0)) :: (q, (.inr (8, [.ref q7, .ref q15, .ref q23, vi 1, .ref q36, .ref q44, .ref q52, .ref q60, .ref q68, .null, vi 0, .null, vi 0, .null, .null, .null, .null, vi 0, .null, vi 0, .null, .null, .null, .null, vi 0]) : va_E)) :: R)) X hni inM tyX5 tyX5_ok nmX5 8 rfl rfl 8 (by decide) q4_217 rfl rfl rfl rfl rfl rfl (Nat.le_of_ble_eq_true rfl) rfl dX5_init_70 rfl ?_
  refine g_aload_n (t := 74) X dX5_init_73 0 rfl rfl ?_
  refine g_bipush (t := 76) (z := 16) X dX5_init_74 (by decide +kernel) rfl ?_
  refine g_newa_i (t := 78) (n := 16) X (Nat.le_of_ble_eq_true rfl) (Nat.le_of_ble_eq_true rfl) (Nat.le_of_ble_eq_true rfl) dX5_init_76 rfl (fun q76 => ?_)
  refine g_pm (ws2 := ((q76, aI C 16 (fun _ => 0)) :: (q68, aI C 16 (fun _ => 0)) :: (q60, aI C 16 (fun _ => 0)) :: (q52, aI C 16 (fun _ => 0)) :: (q44, aI C 16 (fun _ => 0)) :: (q36, aI C 16 (fun _ => 0)) :: (q23, aI C 12 (fun _ => 0)) :: (q15, aI C 12 (fun _ => 0)) :: (q7, aI C 12 (fun _ => 0)) :: (q, (.inr (8, [.ref q7, .ref q15, .ref q23, vi 1, .ref q36, .ref q44, .ref q52, .ref q60, .ref q68, .null, vi 0, .null, vi 0, .null, .null, .null, .null, vi 0, .null, vi 0, .null, .null, .null, .null, vi 0]) : va_E)) :: R)) pm_1 ?_
  refine g_putF (t := 81) (ws1 := ((q76, aI C 16 (fun _ => 0)) :: (q68, aI C 16 (fun _ => 0)) :: (q60, aI C 16 (fun _ => 0)) :: (q52, aI C 16 (fun _ => 0)) :: (q44, aI C 16 (fun _ => 0)) :: (q36, aI C 16 (fun _ => 0)) :: (q23, aI C 12 (fun _ => 0)) :: (q15, aI C 12 (fun _ => 0)) :: (q7, aI C 12 (fun _ => 0)) :: (q, (.inr (8, [.ref q7, .ref q15, .ref q23, vi 1, .ref q36, .ref q44, .ref q52, .ref q60, .ref q68, .ref q76, vi 0, .null, vi 0, .null, .null, .null, .null, vi 0, .null, vi 0, .null, .null, .null, .null, vi 0]) : va_E)) :: R)) X hni inM tyX5 tyX5_ok nmX5 9 rfl rfl 9 (by decide) q4_218 rfl rfl rfl rfl rfl rfl (Nat.le_of_ble_eq_true rfl) rfl dX5_init_78 rfl ?_
  refine g_aload_n (t := 82) X dX5_init_81 0 rfl rfl ?_
  refine g_bipush (t := 84) (z := 16) X dX5_init_82 (by decide +kernel) rfl ?_
  refine g_newa_i (t := 86) (n := 16) X (Nat.le_of_ble_eq_true rfl) (Nat.le_of_ble_eq_true rfl) (Nat.le_of_ble_eq_true rfl) dX5_init_84 rfl (fun q84 => ?_)
  refine g_pm (ws2 := ((q84, aI C 16 (fun _ => 0)) :: (q76, aI C 16 (fun _ => 0)) :: (q68, aI C 16 (fun _ => 0)) :: (q60, aI C 16 (fun _ => 0)) :: (q52, aI C 16 (fun _ => 0)) :: (q44, aI C 16 (fun _ => 0)) :: (q36, aI C 16 (fun _ => 0)) :: (q23, aI C 12 (fun _ => 0)) :: (q15, aI C 12 (fun _ => 0)) :: (q7, aI C 12 (fun _ => 0)) :: (q, (.inr (8, [.ref q7, .ref q15, .ref q23, vi 1, .ref q36, .ref q44, .ref q52, .ref q60, .ref q68, .ref q76, vi 0, .null, vi 0, .null, .null, .null, .null, vi 0, .null, vi 0, .null, .null, .null, .null, vi 0]) : va_E)) :: R)) pm_1 ?_
  refine g_putF (t := 89) (ws1 := ((q84, aI C 16 (fun _ => 0)) :: (q76, aI C 16 (fun _ => 0)) :: (q68, aI C 16 (fun _ => 0)) :: (q60, aI C 16 (fun _ => 0)) :: (q52, aI C 16 (fun _ => 0)) :: (q44, aI C 16 (fun _ => 0)) :: (q36, aI C 16 (fun _ => 0)) :: (q23, aI C 12 (fun _ => 0)) :: (q15, aI C 12 (fun _ => 0)) :: (q7, aI C 12 (fun _ => 0)) :: (q, (.inr (8, [.ref q7, .ref q15, .ref q23, vi 1, .ref q36, .ref q44, .ref q52, .ref q60, .ref q68, .ref q76, vi 0, .ref q84, vi 0, .null, .null, .null, .null, vi 0, .null, vi 0, .null, .null, .null, .null, vi 0]) : va_E)) :: R)) X hni inM tyX5 tyX5_ok nmX5 10 rfl rfl 11 (by decide) q4_220 rfl rfl rfl rfl rfl rfl (Nat.le_of_ble_eq_true rfl) rfl dX5_init_86 rfl ?_
  refine g_aload_n (t := 90) X dX5_init_89 0 rfl rfl ?_
  refine g_bipush (t := 92) (z := 16) X dX5_init_90 (by decide +kernel) rfl ?_
  refine g_newa_i (t := 94) (n := 16) X (Nat.le_of_ble_eq_true rfl) (Nat.le_of_ble_eq_true rfl) (Nat.le_of_ble_eq_true rfl) dX5_init_92 rfl (fun q92 => ?_)
  refine g_pm (ws2 := ((q92, aI C 16 (fun _ => 0)) :: (q84, aI C 16 (fun _ => 0)) :: (q76, aI C 16 (fun _ => 0)) :: (q68, aI C 16 (fun _ => 0)) :: (q60, aI C 16 (fun _ => 0)) :: (q52, aI C 16 (fun _ => 0)) :: (q44, aI C 16 (fun _ => 0)) :: (q36, aI C 16 (fun _ => 0)) :: (q23, aI C 12 (fun _ => 0)) :: (q15, aI C 12 (fun _ => 0)) :: (q7, aI C 12 (fun _ => 0)) :: (q, (.inr (8, [.ref q7, .ref q15, .ref q23, vi 1, .ref q36, .ref q44, .ref q52, .ref q60, .ref q68, .ref q76, vi 0, .ref q84, vi 0, .null, .null, .null, .null, vi 0, .null, vi 0, .null, .null, .null, .null, vi 0]) : va_E)) :: R)) pm_1 ?_
  refine g_putF (t := 97) (ws1 := ((q92, aI C 16 (fun _ => 0)) :: (q84, aI C 16 (fun _ => 0)) :: (q76, aI C 16 (fun _ => 0)) :: (q68, aI C 16 (fun _ => 0)) :: (q60, aI C 16 (fun _ => 0)) :: (q52, aI C 16 (fun _ => 0)) :: (q44, aI C 16 (fun _ => 0)) :: (q36, aI C 16 (fun _ => 0)) :: (q23, aI C 12 (fun _ => 0)) :: (q15, aI C 12 (fun _ => 0)) :: (q7, aI C 12 (fun _ => 0)) :: (q, (.inr (8, [.ref q7, .ref q15, .ref q23, vi 1, .ref q36, .ref q44, .ref q52, .ref q60, .ref q68, .ref q76, vi 0, .ref q84, vi 0, .ref q92, .null, .null, .null, vi 0, .null, vi 0, .null, .null, .null, .null, vi 0]) : va_E)) :: R)) X hni inM tyX5 tyX5_ok nmX5 11 rfl rfl 13 (by decide) q4_222 rfl rfl rfl rfl rfl rfl (Nat.le_of_ble_eq_true rfl) rfl dX5_init_94 rfl ?_
  refine g_aload_n (t := 98) X dX5_init_97 0 rfl rfl ?_
  refine g_bipush (t := 100) (z := 16) X dX5_init_98 (by decide +kernel) rfl ?_
  refine g_newa_i (t := 102) (n := 16) X (Nat.le_of_ble_eq_true rfl) (Nat.le_of_ble_eq_true rfl) (Nat.le_of_ble_eq_true rfl) dX5_init_100 rfl (fun q100 => ?_)
  refine g_pm (ws2 := ((q100, aI C 16 (fun _ => 0)) :: (q92, aI C 16 (fun _ => 0)) :: (q84, aI C 16 (fun _ => 0)) :: (q76, aI C 16 (fun _ => 0)) :: (q68, aI C 16 (fun _ => 0)) :: (q60, aI C 16 (fun _ => 0)) :: (q52, aI C 16 (fun _ => 0)) :: (q44, aI C 16 (fun _ => 0)) :: (q36, aI C 16 (fun _ => 0)) :: (q23, aI C 12 (fun _ => 0)) :: (q15, aI C 12 (fun _ => 0)) :: (q7, aI C 12 (fun _ => 0)) :: (q, (.inr (8, [.ref q7, .ref q15, .ref q23, vi 1, .ref q36, .ref q44, .ref q52, .ref q60, .ref q68, .ref q76, vi 0, .ref q84, vi 0, .ref q92, .null, .null, .null, vi 0, .null, vi 0, .null, .null, .null, .null, vi 0]) : va_E)) :: R)) pm_1 ?_
  refine g_putF (t := 105) (ws1 := ((q100, aI C 16 (fun _ => 0)) :: (q92, aI C 16 (fun _ => 0)) :: (q84, aI C 16 (fun _ => 0)) :: (q76, aI C 16 (fun _ => 0)) :: (q68, aI C 16 (fun _ => 0)) :: (q60, aI C 16 (fun _ => 0)) :: (q52, aI C 16 (fun _ => 0)) :: (q44, aI C 16 (fun _ => 0)) :: (q36, aI C 16 (fun _ => 0)) :: (q23, aI C 12 (fun _ => 0)) :: (q15, aI C 12 (fun _ => 0)) :: (q7, aI C 12 (fun _ => 0)) :: (q, (.inr (8, [.ref q7, .ref q15, .ref q23, vi 1, .ref q36, .ref q44, .ref q52, .ref q60, .ref q68, .ref q76, vi 0, .ref q84, vi 0, .ref q92, .ref q100, .null, .null, vi 0, .null, vi 0, .null, .null, .null, .null, vi 0]) : va_E)) :: R)) X hni inM tyX5 tyX5_ok nmX5 12 rfl rfl 14 (by decide) q4_223 rfl rfl rfl rfl rfl rfl (Nat.le_of_ble_eq_true rfl) rfl dX5_init_102 rfl ?_
  refine g_aload_n (t := 106) X dX5_init_105 0 rfl rfl ?_
  refine g_bipush (t := 108) (z := 16) X dX5_init_106 (by decide +kernel) rfl ?_
  refine g_newa_i (t := 110) (n := 16) X (Nat.le_of_ble_eq_true rfl) (Nat.le_of_ble_eq_true rfl) (Nat.le_of_ble_eq_true rfl) dX5_init_108 rfl (fun q108 => ?_)
  refine g_pm (ws2 := ((q108, aI C 16 (fun _ => 0)) :: (q100, aI C 16 (fun _ => 0)) :: (q92, aI C 16 (fun _ => 0)) :: (q84, aI C 16 (fun _ => 0)) :: (q76, aI C 16 (fun _ => 0)) :: (q68, aI C 16 (fun _ => 0)) :: (q60, aI C 16 (fun _ => 0)) :: (q52, aI C 16 (fun _ => 0)) :: (q44, aI C 16 (fun _ => 0)) :: (q36, aI C 16 (fun _ => 0)) :: (q23, aI C 12 (fun _ => 0)) :: (q15, aI C 12 (fun _ => 0)) :: (q7, aI C 12 (fun _ => 0)) :: (q, (.inr (8, [.ref q7, .ref q15, .ref q23, vi 1, .ref q36, .ref q44, .ref q52, .ref q60, .ref q68, .ref q76, vi 0, .ref q84, vi 0, .ref q92, .ref q100, .null, .null, vi 0, .null, vi 0, .null, .null, .null, .null, vi 0]) : va_E)) :: R)) pm_1 ?_
  refine g_putF (t := 113) (ws1 := ((q108, aI C 16 (fun _ => 0)) :: (q100, aI C 16 (fun _ => 0)) :: (q92, aI C 16 (fun _ => 0)) :: (q84, aI C 16 (fun _ => 0)) :: (q76, aI C 16 (fun _ => 0)) :: (q68, aI C 16 (fun _ => 0)) :: (q60, aI C 16 (fun _ => 0)) :: (q52, aI C 16 (fun _ => 0)) :: (q44, aI C 16 (fun _ => 0)) :: (q36, aI C 16 (fun _ => 0)) :: (q23, aI C 12 (fun _ => 0)) :: (q15, aI C 12 (fun _ => 0)) :: (q7, aI C 12 (fun _ => 0)) :: (q, (.inr (8, [.ref q7, .ref q15, .ref q23, vi 1, .ref q36, .ref q44, .ref q52, .ref q60, .ref q68, .ref q76, vi 0, .ref q84, vi 0, .ref q92, .ref q100, .ref q108, .null, vi 0, .null, vi 0, .null, .null, .null, .null, vi 0]) : va_E)) :: R)) X hni inM tyX5 tyX5_ok nmX5 13 rfl rfl 15 (by decide) q4_224 rfl rfl rfl rfl rfl rfl (Nat.le_of_ble_eq_true rfl) rfl dX5_init_110 rfl ?_
  refine g_aload_n (t := 114) X dX5_init_113 0 rfl rfl ?_
  refine g_bipush (t := 116) (z := 16) X dX5_init_114 (by decide +kernel) rfl ?_
  refine g_newa_i (t := 118) (n := 16) X (Nat.le_of_ble_eq_true rfl) (Nat.le_of_ble_eq_true rfl) (Nat.le_of_ble_eq_true rfl) dX5_init_116 rfl (fun q116 => ?_)
  refine g_pm (ws2 := ((q116, aI C 16 (fun _ => 0)) :: (q108, aI C 16 (fun _ => 0)) :: (q100, aI C 16 (fun _ => 0)) :: (q92, aI C 16 (fun _ => 0)) :: (q84, aI C 16 (fun _ => 0)) :: (q76, aI C 16 (fun _ => 0)) :: (q68, aI C 16 (fun _ => 0)) :: (q60, aI C 16 (fun _ => 0)) :: (q52, aI C 16 (fun _ => 0)) :: (q44, aI C 16 (fun _ => 0)) :: (q36, aI C 16 (fun _ => 0)) :: (q23, aI C 12 (fun _ => 0)) :: (q15, aI C 12 (fun _ => 0)) :: (q7, aI C 12 (fun _ => 0)) :: (q, (.inr (8, [.ref q7, .ref q15, .ref q23, vi 1, .ref q36, .ref q44, .ref q52, .ref q60, .ref q68, .ref q76, vi 0, .ref q84, vi 0, .ref q92, .ref q100, .ref q108, .null, vi 0, .null, vi 0, .null, .null, .null, .null, vi 0]) : va_E)) :: R)) pm_1 ?_
  refine g_putF (t := 121) (ws1 := ((q116, aI C 16 (fun _ => 0)) :: (q108, aI C 16 (fun _ => 0)) :: (q100, aI C 16 (fun _ => 0)) :: (q92, aI C 16 (fun _ => 0)) :: (q84, aI C 16 (fun _ => 0)) :: (q76, aI C 16 (fun _ => 0)) :: (q68, aI C 16 (fun _ => 0)) :: (q60, aI C 16 (fun _ => 0)) :: (q52, aI C 16 (fun _ => 0)) :: (q44, aI C 16 (fun _ => 0)) :: (q36, aI C 16 (fun _ => 0)) :: (q23, aI C 12 (fun _ => 0)) :: (q15, aI C 12 (fun _ => 0)) :: (q7, aI C 12 (fun _ => 0)) :: (q, (.inr (8, [.ref q7, .ref q15, .ref q23, vi 1, .ref q36, .ref q44, .ref q52, .ref q60, .ref q68, .ref q76, vi 0, .ref q84, vi 0, .ref q92, .ref q100, .ref q108, .ref q116, vi 0, .null, vi 0, .null, .null, .null, .null, vi 0]) : va_E)) :: R)) X hni inM tyX5 tyX5_ok nmX5 14 rfl rfl 16 (by decide) q4_225 rfl rfl rfl rfl rfl rfl (Nat.le_of_ble_eq_true rfl) rfl dX5_init_118 rfl ?_
  refine g_aload_n (t := 122) X dX5_init_121 0 rfl rfl ?_
  refine g_bipush (t := 124) (z := 16) X dX5_init_122 (by decide +kernel) rfl ?_
  refine g_newa_i (t := 126) (n := 16) X (Nat.le_of_ble_eq_true rfl) (Nat.le_of_ble_eq_true rfl) (Nat.le_of_ble_eq_true rfl) dX5_init_124 rfl (fun q124 => ?_)
  refine g_pm (ws2 := ((q124, aI C 16 (fun _ => 0)) :: (q116, aI C 16 (fun _ => 0)) :: (q108, aI C 16 (fun _ => 0)) :: (q100, aI C 16 (fun _ => 0)) :: (q92, aI C 16 (fun _ => 0)) :: (q84, aI C 16 (fun _ => 0)) :: (q76, aI C 16 (fun _ => 0)) :: (q68, aI C 16 (fun _ => 0)) :: (q60, aI C 16 (fun _ => 0)) :: (q52, aI C 16 (fun _ => 0)) :: (q44, aI C 16 (fun _ => 0)) :: (q36, aI C 16 (fun _ => 0)) :: (q23, aI C 12 (fun _ => 0)) :: (q15, aI C 12 (fun _ => 0)) :: (q7, aI C 12 (fun _ => 0)) :: (q, (.inr (8, [.ref q7, .ref q15, .ref q23, vi 1, .ref q36, .ref q44, .ref q52, .ref q60, .ref q68, .ref q76, vi 0, .ref q84, vi 0, .ref q92, .ref q100, .ref q108, .ref q116, vi 0, .null, vi 0, .null, .null, .null, .null, vi 0]) : va_E)) :: R)) pm_1 ?_
  refine g_putF (t := 129) (ws1 := ((q124, aI C 16 (fun _ => 0)) :: (q116, aI C 16 (fun _ => 0)) :: (q108, aI C 16 (fun _ => 0)) :: (q100, aI C 16 (fun _ => 0)) :: (q92, aI C 16 (fun _ => 0)) :: (q84, aI C 16 (fun _ => 0)) :: (q76, aI C 16 (fun _ => 0)) :: (q68, aI C 16 (fun _ => 0)) :: (q60, aI C 16 (fun _ => 0)) :: (q52, aI C 16 (fun _ => 0)) :: (q44, aI C 16 (fun _ => 0)) :: (q36, aI C 16 (fun _ => 0)) :: (q23, aI C 12 (fun _ => 0)) :: (q15, aI C 12 (fun _ => 0)) :: (q7, aI C 12 (fun _ => 0)) :: (q, (.inr (8, [.ref q7, .ref q15, .ref q23, vi 1, .ref q36, .ref q44, .ref q52, .ref q60, .ref q68, .ref q76, vi 0, .ref q84, vi 0, .ref q92, .ref q100, .ref q108, .ref q116, vi 0, .ref q124, vi 0, .null, .null, .null, .null, vi 0]) : va_E)) :: R)) X hni inM tyX5 tyX5_ok nmX5 15 rfl rfl 18 (by decide) q4_227 rfl rfl rfl rfl rfl rfl (Nat.le_of_ble_eq_true rfl) rfl dX5_init_126 rfl ?_
  refine g_aload_n (t := 130) X dX5_init_129 0 rfl rfl ?_
  refine g_bipush (t := 132) (z := 16) X dX5_init_130 (by decide +kernel) rfl ?_
  refine g_newa_i (t := 134) (n := 16) X (Nat.le_of_ble_eq_true rfl) (Nat.le_of_ble_eq_true rfl) (Nat.le_of_ble_eq_true rfl) dX5_init_132 rfl (fun q132 => ?_)
  refine g_pm (ws2 := ((q132, aI C 16 (fun _ => 0)) :: (q124, aI C 16 (fun _ => 0)) :: (q116, aI C 16 (fun _ => 0)) :: (q108, aI C 16 (fun _ => 0)) :: (q100, aI C 16 (fun _ => 0)) :: (q92, aI C 16 (fun _ => 0)) :: (q84, aI C 16 (fun _ => 0)) :: (q76, aI C 16 (fun _ => 0)) :: (q68, aI C 16 (fun _ => 0)) :: (q60, aI C 16 (fun _ => 0)) :: (q52, aI C 16 (fun _ => 0)) :: (q44, aI C 16 (fun _ => 0)) :: (q36, aI C 16 (fun _ => 0)) :: (q23, aI C 12 (fun _ => 0)) :: (q15, aI C 12 (fun _ => 0)) :: (q7, aI C 12 (fun _ => 0)) :: (q, (.inr (8, [.ref q7, .ref q15, .ref q23, vi 1, .ref q36, .ref q44, .ref q52, .ref q60, .ref q68, .ref q76, vi 0, .ref q84, vi 0, .ref q92, .ref q100, .ref q108, .ref q116, vi 0, .ref q124, vi 0, .null, .null, .null, .null, vi 0]) : va_E)) :: R)) pm_1 ?_
  refine g_putF (t := 137) (ws1 := ((q132, aI C 16 (fun _ => 0)) :: (q124, aI C 16 (fun _ => 0)) :: (q116, aI C 16 (fun _ => 0)) :: (q108, aI C 16 (fun _ => 0)) :: (q100, aI C 16 (fun _ => 0)) :: (q92, aI C 16 (fun _ => 0)) :: (q84, aI C 16 (fun _ => 0)) :: (q76, aI C 16 (fun _ => 0)) :: (q68, aI C 16 (fun _ => 0)) :: (q60, aI C 16 (fun _ => 0)) :: (q52, aI C 16 (fun _ => 0)) :: (q44, aI C 16 (fun _ => 0)) :: (q36, aI C 16 (fun _ => 0)) :: (q23, aI C 12 (fun _ => 0)) :: (q15, aI C 12 (fun _ => 0)) :: (q7, aI C 12 (fun _ => 0)) :: (q, (.inr (8, [.ref q7, .ref q15, .ref q23, vi 1, .ref q36, .ref q44, .ref q52, .ref q60, .ref q68, .ref q76, vi 0, .ref q84, vi 0, .ref q92, .ref q100, .ref q108, .ref q116, vi 0, .ref q124, vi 0, .ref q132, .null, .null, .null, vi 0]) : va_E)) :: R)) X hni inM tyX5 tyX5_ok nmX5 16 rfl rfl 20 (by decide) q4_229 rfl rfl rfl rfl rfl rfl (Nat.le_of_ble_eq_true rfl) rfl dX5_init_134 rfl ?_
  refine g_aload_n (t := 138) X dX5_init_137 0 rfl rfl ?_
  refine g_bipush (t := 140) (z := 16) X dX5_init_138 (by decide +kernel) rfl ?_
  refine g_newa_i (t := 142) (n := 16) X (Nat.le_of_ble_eq_true rfl) (Nat.le_of_ble_eq_true rfl) (Nat.le_of_ble_eq_true rfl) dX5_init_140 rfl (fun q140 => ?_)
  refine g_pm (ws2 := ((q140, aI C 16 (fun _ => 0)) :: (q132, aI C 16 (fun _ => 0)) :: (q124, aI C 16 (fun _ => 0)) :: (q116, aI C 16 (fun _ => 0)) :: (q108, aI C 16 (fun _ => 0)) :: (q100, aI C 16 (fun _ => 0)) :: (q92, aI C 16 (fun _ => 0)) :: (q84, aI C 16 (fun _ => 0)) :: (q76, aI C 16 (fun _ => 0)) :: (q68, aI C 16 (fun _ => 0)) :: (q60, aI C 16 (fun _ => 0)) :: (q52, aI C 16 (fun _ => 0)) :: (q44, aI C 16 (fun _ => 0)) :: (q36, aI C 16 (fun _ => 0)) :: (q23, aI C 12 (fun _ => 0)) :: (q15, aI C 12 (fun _ => 0)) :: (q7, aI C 12 (fun _ => 0)) :: (q, (.inr (8, [.ref q7, .ref q15, .ref q23, vi 1, .ref q36, .ref q44, .ref q52, .ref q60, .ref q68, .ref q76, vi 0, .ref q84, vi 0, .ref q92, .ref q100, .ref q108, .ref q116, vi 0, .ref q124, vi 0, .ref q132, .null, .null, .null, vi 0]) : va_E)) :: R)) pm_1 ?_
  refine g_putF (t := 145) (ws1 := ((q140, aI C 16 (fun _ => 0)) :: (q132, aI C 16 (fun _ => 0)) :: (q124, aI C 16 (fun _ => 0)) :: (q116, aI C 16 (fun _ => 0)) :: (q108, aI C 16 (fun _ => 0)) :: (q100, aI C 16 (fun _ => 0)) :: (q92, aI C 16 (fun _ => 0)) :: (q84, aI C 16 (fun _ => 0)) :: (q76, aI C 16 (fun _ => 0)) :: (q68, aI C 16 (fun _ => 0)) :: (q60, aI C 16 (fun _ => 0)) :: (q52, aI C 16 (fun _ => 0)) :: (q44, aI C 16 (fun _ => 0)) :: (q36, aI C 16 (fun _ => 0)) :: (q23, aI C 12 (fun _ => 0)) :: (q15, aI C 12 (fun _ => 0)) :: (q7, aI C 12 (fun _ => 0)) :: (q, (.inr (8, [.ref q7, .ref q15, .ref q23, vi 1, .ref q36, .ref q44, .ref q52, .ref q60, .ref q68, .ref q76, vi 0, .ref q84, vi 0, .ref q92, .ref q100, .ref q108, .ref q116, vi 0, .ref q124, vi 0, .ref q132, .ref q140, .null, .null, vi 0]) : va_E)) :: R)) X hni inM tyX5 tyX5_ok nmX5 17 rfl rfl 21 (by decide) q4_230 rfl rfl rfl rfl rfl rfl (Nat.le_of_ble_eq_true rfl) rfl dX5_init_142 rfl ?_
  refine g_aload_n (t := 146) X dX5_init_145 0 rfl rfl ?_
  refine g_bipush (t := 148) (z := 16) X dX5_init_146 (by decide +kernel) rfl ?_
  refine g_newa_i (t := 150) (n := 16) X (Nat.le_of_ble_eq_true rfl) (Nat.le_of_ble_eq_true rfl) (Nat.le_of_ble_eq_true rfl) dX5_init_148 rfl (fun q148 => ?_)
  refine g_pm (ws2 := ((q148, aI C 16 (fun _ => 0)) :: (q140, aI C 16 (fun _ => 0)) :: (q132, aI C 16 (fun _ => 0)) :: (q124, aI C 16 (fun _ => 0)) :: (q116, aI C 16 (fun _ => 0)) :: (q108, aI C 16 (fun _ => 0)) :: (q100, aI C 16 (fun _ => 0)) :: (q92, aI C 16 (fun _ => 0)) :: (q84, aI C 16 (fun _ => 0)) :: (q76, aI C 16 (fun _ => 0)) :: (q68, aI C 16 (fun _ => 0)) :: (q60, aI C 16 (fun _ => 0)) :: (q52, aI C 16 (fun _ => 0)) :: (q44, aI C 16 (fun _ => 0)) :: (q36, aI C 16 (fun _ => 0)) :: (q23, aI C 12 (fun _ => 0)) :: (q15, aI C 12 (fun _ => 0)) :: (q7, aI C 12 (fun _ => 0)) :: (q, (.inr (8, [.ref q7, .ref q15, .ref q23, vi 1, .ref q36, .ref q44, .ref q52, .ref q60, .ref q68, .ref q76, vi 0, .ref q84, vi 0, .ref q92, .ref q100, .ref q108, .ref q116, vi 0, .ref q124, vi 0, .ref q132, .ref q140, .null, .null, vi 0]) : va_E)) :: R)) pm_1 ?_
  refine g_putF (t := 153) (ws1 := ((q148, aI C 16 (fun _ => 0)) :: (q140, aI C 16 (fun _ => 0)) :: (q132, aI C 16 (fun _ => 0)) :: (q124, aI C 16 (fun _ => 0)) :: (q116, aI C 16 (fun _ => 0)) :: (q108, aI C 16 (fun _ => 0)) :: (q100, aI C 16 (fun _ => 0)) :: (q92, aI C 16 (fun _ => 0)) :: (q84, aI C 16 (fun _ => 0)) :: (q76, aI C 16 (fun _ => 0)) :: (q68, aI C 16 (fun _ => 0)) :: (q60, aI C 16 (fun _ => 0)) :: (q52, aI C 16 (fun _ => 0)) :: (q44, aI C 16 (fun _ => 0)) :: (q36, aI C 16 (fun _ => 0)) :: (q23, aI C 12 (fun _ => 0)) :: (q15, aI C 12 (fun _ => 0)) :: (q7, aI C 12 (fun _ => 0)) :: (q, (.inr (8, [.ref q7, .ref q15, .ref q23, vi 1, .ref q36, .ref q44, .ref q52, .ref q60, .ref q68, .ref q76, vi 0, .ref q84, vi 0, .ref q92, .ref q100, .ref q108, .ref q116, vi 0, .ref q124, vi 0, .ref q132, .ref q140, .ref q148, .null, vi 0]) : va_E)) :: R)) X hni inM tyX5 tyX5_ok nmX5 18 rfl rfl 22 (by decide) q4_231 rfl rfl rfl rfl rfl rfl (Nat.le_of_ble_eq_true rfl) rfl dX5_init_150 rfl ?_
  refine g_aload_n (t := 154) X dX5_init_153 0 rfl rfl ?_
  refine g_bipush (t := 156) (z := 12) X dX5_init_154 (by decide +kernel) rfl ?_
  refine g_newa_i (t := 158) (n := 12) X (Nat.le_of_ble_eq_true rfl) (Nat.le_of_ble_eq_true rfl) (Nat.le_of_ble_eq_true rfl) dX5_init_156 rfl (fun q156 => ?_)
  refine g_pm (ws2 := ((q156, aI C 12 (fun _ => 0)) :: (q148, aI C 16 (fun _ => 0)) :: (q140, aI C 16 (fun _ => 0)) :: (q132, aI C 16 (fun _ => 0)) :: (q124, aI C 16 (fun _ => 0)) :: (q116, aI C 16 (fun _ => 0)) :: (q108, aI C 16 (fun _ => 0)) :: (q100, aI C 16 (fun _ => 0)) :: (q92, aI C 16 (fun _ => 0)) :: (q84, aI C 16 (fun _ => 0)) :: (q76, aI C 16 (fun _ => 0)) :: (q68, aI C 16 (fun _ => 0)) :: (q60, aI C 16 (fun _ => 0)) :: (q52, aI C 16 (fun _ => 0)) :: (q44, aI C 16 (fun _ => 0)) :: (q36, aI C 16 (fun _ => 0)) :: (q23, aI C 12 (fun _ => 0)) :: (q15, aI C 12 (fun _ => 0)) :: (q7, aI C 12 (fun _ => 0)) :: (q, (.inr (8, [.ref q7, .ref q15, .ref q23, vi 1, .ref q36, .ref q44, .ref q52, .ref q60, .ref q68, .ref q76, vi 0, .ref q84, vi 0, .ref q92, .ref q100, .ref q108, .ref q116, vi 0, .ref q124, vi 0, .ref q132, .ref q140, .ref q148, .null, vi 0]) : va_E)) :: R)) pm_1 ?_
  refine g_putF (t := 161) (ws1 := ((q156, aI C 12 (fun _ => 0)) :: (q148, aI C 16 (fun _ => 0)) :: (q140, aI C 16 (fun _ => 0)) :: (q132, aI C 16 (fun _ => 0)) :: (q124, aI C 16 (fun _ => 0)) :: (q116, aI C 16 (fun _ => 0)) :: (q108, aI C 16 (fun _ => 0)) :: (q100, aI C 16 (fun _ => 0)) :: (q92, aI C 16 (fun _ => 0)) :: (q84, aI C 16 (fun _ => 0)) :: (q76, aI C 16 (fun _ => 0)) :: (q68, aI C 16 (fun _ => 0)) :: (q60, aI C 16 (fun _ => 0)) :: (q52, aI C 16 (fun _ => 0)) :: (q44, aI C 16 (fun _ => 0)) :: (q36, aI C 16 (fun _ => 0)) :: (q23, aI C 12 (fun _ => 0)) :: (q15, aI C 12 (fun _ => 0)) :: (q7, aI C 12 (fun _ => 0)) :: (q, (.inr (8, [.ref q7, .ref q15, .ref q23, vi 1, .ref q36, .ref q44, .ref q52, .ref q60, .ref q68, .ref q76, vi 0, .ref q84, vi 0, .ref q92, .ref q100, .ref q108, .ref q116, vi 0, .ref q124, vi 0, .ref q132, .ref q140, .ref q148, .ref q156, vi 0]) : va_E)) :: R)) X hni inM tyX5 tyX5_ok nmX5 19 rfl rfl 23 (by decide) q4_232 rfl rfl rfl rfl rfl rfl (Nat.le_of_ble_eq_true rfl) rfl dX5_init_158 rfl ?_
  obtain ⟨x, hx⟩ : ∃ x : Nat → Nat, x = (fun i => match i with | 19 => q156 | 18 => q148 | 17 => q140 | 16 => q132 | 15 => q124 | 14 => q116 | 13 => q108 | 12 => q100 | 11 => q92 | 10 => q84 | 9 => q76 | 8 => q68 | 7 => q60 | 6 => q52 | 5 => q44 | 4 => q36 | 3 => q23 | 2 => q15 | 1 => q7 | 0 => q | _ => 0) := ⟨_, rfl⟩
  have hq : x 0 = q := by rw [hx]; rfl
  refine g_pm (ws2 := wM C x Y0 Z0 (fun _ => 0) 0 ++ R) (by rw [hx]; exact pm_rev (A := []) (B := []) (D := [_, _, _, _, _, _, _, _, _, _, _, _, _, _, _, _, _, _, _, _]) (L := [_, _, _, _, _, _, _, _, _, _, _, _, _, _, _, _, _, _, _, _]) rfl) ?_
  exact g_vret X r ⟨x, hq, rfl, rfl⟩ (Nat.le_of_ble_eq_true rfl) (Nat.le_of_ble_eq_true rfl) dX5_init_161

