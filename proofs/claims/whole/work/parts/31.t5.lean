section PM
variable {α : Type} {a b c e x : α} {t p r : List α}
theorem pm_a : List.Perm (c :: e :: (a :: b :: (t ++ (p ++ r)) ++ [x])) (((a :: b :: c :: t) ++ (p ++ ([e] ++ r))) ++ [x]) := by
  have h1 : ((a :: b :: c :: t) ++ (p ++ ([e] ++ r))) ++ [x] = [a, b] ++ c :: ((t ++ p) ++ e :: (r ++ [x])) := by simp
  rw [h1]
  refine List.Perm.trans ?_ List.perm_middle.symm
  refine List.Perm.cons c ?_
  have h2 : [a, b] ++ ((t ++ p) ++ e :: (r ++ [x])) = ([a, b] ++ (t ++ p)) ++ e :: (r ++ [x]) := by simp
  rw [h2]
  refine List.Perm.trans ?_ List.perm_middle.symm
  refine List.Perm.cons e ?_
  have h3 : (a :: b :: (t ++ (p ++ r)) ++ [x]) = ([a, b] ++ (t ++ p)) ++ (r ++ [x]) := by simp
  rw [h3]
theorem pm_a0 : List.Perm (c :: (a :: b :: (t ++ (p ++ r)) ++ [x])) (((a :: b :: c :: t) ++ (p ++ ([] ++ r))) ++ [x]) := by
  have h1 : ((a :: b :: c :: t) ++ (p ++ ([] ++ r))) ++ [x] = [a, b] ++ c :: (t ++ (p ++ r) ++ [x]) := by simp
  rw [h1]
  refine List.Perm.trans ?_ List.perm_middle.symm
  exact List.Perm.refl _
theorem pm_b : List.Perm ((a :: b :: c :: t) ++ ((p ++ [x]) ++ ([e] ++ r))) (c :: e :: (a :: b :: (t ++ (p ++ r)) ++ [x])) := by
  refine List.Perm.trans ?_ (pm_a (x := x)).symm
  have h1 : ((a :: b :: c :: t) ++ (p ++ ([e] ++ r))) ++ [x] = ((a :: b :: c :: t) ++ p) ++ (e :: r ++ [x]) := by simp
  have h2 : (a :: b :: c :: t) ++ ((p ++ [x]) ++ ([e] ++ r)) = ((a :: b :: c :: t) ++ p) ++ ([x] ++ (e :: r)) := by simp
  rw [h1, h2]
  exact List.Perm.append_left _ List.perm_append_comm
end PM
/-- the page with one part more -/
def YP (Y : Nat → Int → Int) (f x y z u e : Int) : Nat → Int → Int := u2 (u2 (u2 (u2 (u2 (u2 (u2 Y 4 (Y 10 0) f) 5 (Y 10 0) x) 6 (Y 10 0) y) 7 (Y 10 0) z) 8 (Y 10 0) u) 9 (Y 10 0) e) 10 0 (Y 10 0 + 1)
theorem fPa_old {Y : Nat → Int → Int} {f x y z u e i : Int} (h : i ≠ Y 10 0) : fPa (YP Y f x y z u e) i = fPa Y i := by
  show [vi (uI (Y 4) (Y 10 0) f i), vi (uI (Y 5) (Y 10 0) x i), vi (uI (Y 7) (Y 10 0) z i), vi (uI (Y 8) (Y 10 0) u i), vi (uI (Y 9) (Y 10 0) e i), vi (uI (Y 6) (Y 10 0) y i)] = fPa Y i
  rw [uI_n _ _ h, uI_n _ _ h, uI_n _ _ h, uI_n _ _ h, uI_n _ _ h, uI_n _ _ h]
  rfl
theorem fPa_new {Y : Nat → Int → Int} {f x y z u e : Int} : fPa (YP Y f x y z u e) (Y 10 0) = [vi f, vi x, vi z, vi u, vi e, vi y] := by
  show [vi (uI (Y 4) (Y 10 0) f (Y 10 0)), vi (uI (Y 5) (Y 10 0) x (Y 10 0)), vi (uI (Y 7) (Y 10 0) z (Y 10 0)), vi (uI (Y 8) (Y 10 0) u (Y 10 0)), vi (uI (Y 9) (Y 10 0) e (Y 10 0)), vi (uI (Y 6) (Y 10 0) y (Y 10 0))] = _
  rw [uI_s, uI_s, uI_s, uI_s, uI_s, uI_s]
theorem YP_10 {Y : Nat → Int → Int} {f x y z u e : Int} : YP Y f x y z u e 10 0 = Y 10 0 + 1 := rfl
/-- the rest of the world while the list grows -/
def rW (C : WC) (ad : Nat → Nat) (B : BT) (S Y V : Nat → Int → Int) (pa : Nat → Nat) (R0 : va_W) (q : Nat) (fs : List Value) : va_W := ((ad 0, .inr (1, fSB B)) :: (B.1, aB C B.2.1 B.2.2.1) :: (wT C ad S Y V ++ (plW pa Y (Y 10 0).toNat ++ R0))) ++ [(q, .inr (8, fs))]
section PM2
variable {C : WC} {ad : Nat → Nat} {B : BT} {E : Int × Nat} {S Y V : Nat → Int → Int} {pa : Nat → Nat} {cap : Nat} {f : Nat → Option Nat} {R0 : va_W} {q : Nat} {fs : List Value}
theorem pm_in (h : 0 < Y 10 0) : List.Perm ((ad 2, .inr (4, fAL E (Y 10 0))) :: (E.2, aO C cap f) :: rW C ad B S Y V pa R0 q fs) ((wC C ad B E S Y V ++ poolW C E Y pa cap f R0) ++ [(q, .inr (8, fs))]) := by
  unfold poolW elW
  rw [if_neg (by omega)]
  exact pm_a
theorem pm_in0 (h : Y 10 0 = 0) : List.Perm ((ad 2, .inr (4, fAL E 0)) :: rW C ad B S Y V pa R0 q fs) ((wC C ad B E S Y V ++ poolW C E Y pa cap f R0) ++ [(q, .inr (8, fs))]) := by
  have e : fAL E (Y 10 0) = fAL E 0 := by rw [h]
  rw [← e]
  unfold poolW elW
  rw [if_pos (by omega)]
  exact pm_a0
theorem pm_out {g x y z u e : Int} {E' : Int × Nat} {cap' : Nat} {f' : Nat → Option Nat} (h : 0 ≤ Y 10 0) (hfs : fs = [vi g, vi x, vi z, vi u, vi e, vi y]) : List.Perm (wC C ad B E' S (YP Y g x y z u e) V ++ poolW C E' (YP Y g x y z u e) (fun i => if i = (Y 10 0).toNat then q else pa i) cap' f' R0) ((ad 2, .inr (4, fAL E' (Y 10 0 + 1))) :: (E'.2, aO C cap' f') :: rW C ad B S Y V pa R0 q fs) := by
  unfold poolW elW
  rw [if_neg (by rw [YP_10]; omega), show (YP Y g x y z u e 10 0).toNat = (Y 10 0).toNat + 1 by rw [YP_10]; omega, plW_push pa Y (Y 10 0).toNat q (fun i hi => fPa_old (by omega)), show (((Y 10 0).toNat : Nat) : Int) = Y 10 0 by omega, fPa_new, ← hfs]
  exact pm_b
theorem rW_at (ad : Nat → Nat) (B : BT) (S V : Nat → Int → Int) {pa : Nat → Nat} {i : Nat} (h : i < (Y 10 0).toNat) : ∃ (k : Nat) (gs : List Value), (rW C ad B S Y V pa R0 q fs)[k]? = some (pa i, .inr (8, gs)) := by
  refine ⟨21 + i, fPa Y (i : Int), ?_⟩
  unfold rW
  have e := plW_at (pa := pa) (Y := Y) (n := (Y 10 0).toNat) h R0
  have hl : i < (plW pa Y (Y 10 0).toNat ++ R0).length := (List.getElem?_eq_some_iff.mp e).1
  rw [List.getElem?_append_left (by show 21 + i < ([_, _] ++ (wT C ad S Y V ++ (plW pa Y (Y 10 0).toNat ++ R0))).length; rw [List.length_append, List.length_append]; show 21 + i < 2 + (19 + _); omega)]
  rw [show 21 + i = i + 21 by omega]
  exact e
theorem rW_new : ∃ (k : Nat) (gs : List Value), (rW C ad B S Y V pa R0 q fs)[k]? = some (q, .inr (8, gs)) := ⟨_, fs, new_at _ _⟩
theorem PLF.push {E' : Int × Nat} {cap' : Nat} {f' : Nat → Option Nat} {g x y z u e : Int} {m : Int} (hF : PLF C E Y pa cap f) (h0 : 0 ≤ Y 10 0) (hE : E' = (m, E'.2)) (hA : AddP f (Y 10 0) q (E'.2, cap', f')) : PLF C E' (YP Y g x y z u e) (fun i => if i = (Y 10 0).toNat then q else pa i) cap' f' := by
  refine ⟨fun h => by rw [YP_10] at h; omega, fun _ => ?_⟩
  obtain ⟨⟨a1, a2, a3⟩, a4, a5, a6⟩ := hA
  rw [YP_10]
  refine ⟨⟨a2, a3, by show Y 10 0 + 1 ≤ (cap' : Int); have : Y 10 0 < (cap' : Int) := a1; omega⟩, fun i hi => ?_, fun i hi => a6 i (by omega)⟩
  by_cases c : i = (Y 10 0).toNat
  · show f' i = some (if i = (Y 10 0).toNat then q else pa i)
    rw [if_pos c, c]; exact a4
  · show f' i = some (if i = (Y 10 0).toNat then q else pa i)
    rw [if_neg c]
    have e2 : f' i = f i := a5 i (by omega)
    rw [e2]
    exact (hF.2 (by omega)).2.1 i (by omega)
end PM2
set_option maxHeartbeats 4000000 in
set_option maxRecDepth 100000 in
/-- part(..) -/
theorem c_X4_part {C : WC} {l : Launch} (hfl : l.stackTraces = false) {ad : Nat → Nat} {B : BT} {E : Int × Nat} {S Y V : Nat → Int → Int} {pa : Nat → Nat} {cap : Nat} {fe : Nat → Option Nat} {R0 : va_W} {f x y z u e : Int} (hI : MI Y) (hF : PLF C E Y pa cap fe) (he : e = 0 ∨ e = 1) (hf : Rg f) (hx : Rg x) (hy : Rg y) (hz : Rg z) (hu : Rg u) : MX C l yX4_part cX4_part 7 (some .int) 6 10 80 [.ref (ad 3), vi f, vi x, vi y, vi z, vi u, vi e] (wC C ad B E S Y V ++ poolW C E Y pa cap fe R0) (fun v w => ((0 ≤ f ∧ f < Y 3 0) ∧ ((0 ≤ x ∧ x ≤ 60) ∧ (1 ≤ y ∧ y ≤ 30) ∧ (0 ≤ z ∧ z ≤ 20) ∧ 1 ≤ u ∧ u ≤ 10) ∧ (Y 10 0 ≠ 16 ∧ ¬ boundF Y)) ∧ ∃ (Z : Nat → Int → Int) (pa' : Nat → Nat) (cap' : Nat) (f' : Nat → Option Nat) (E' : Int × Nat), PLF C E' (YP Y f x y z u e) pa' cap' f' ∧ v = some (vi (Y 10 0)) ∧ w = wC C ad B E' Z (YP Y f x y z u e) V ++ poolW C E' (YP Y f x y z u e) pa' cap' f' R0) (px3 (0 ≤ f ∧ f < Y 3 0) ((0 ≤ x ∧ x ≤ 60) ∧ (1 ≤ y ∧ y ≤ 30) ∧ (0 ≤ z ∧ z ≤ 20) ∧ 1 ≤ u ∧ u ≤ 10) (Y 10 0 ≠ 16 ∧ ¬ boundF Y) "java/lang/IndexOutOfBoundsException" "java/lang/IllegalArgumentException" "java/lang/IllegalStateException" (fun Z => wC C ad B E Z Y V ++ poolW C E Y pa cap fe R0)) := by
  refine mx_of (by decide +kernel) (Nat.le_of_ble_eq_true rfl) hfl (fun K Q X r rx => ?_)
  have X : Cx C l "Springleaf" cX4_part 7 6 10 80 K := X
  have I3 := hI.1
  have I10 := hI.2.2.1
  have I12 := hI.2.2.2.2.1
  obtain ⟨f1, f2⟩ := hf
  obtain ⟨x1, x2⟩ := hx
  obtain ⟨y1, y2⟩ := hy
  obtain ⟨z1, z2⟩ := hz
  obtain ⟨u1, u2⟩ := hu
  show G C K Q 0 0 0 [(0, .ref (ad 3)), (1, vi f), (2, vi x), (3, vi y), (4, vi z), (5, vi u), (6, vi e)] [] (wC C ad B E S Y V ++ poolW C E Y pa cap fe R0)
  refine g_aload_n (t := 1) X dX4_part_0 0 rfl rfl ?_
  refine g_iload_n (t := 2) X dX4_part_1 1 rfl rfl ?_
  refine gx_callV (t := 5) (mc := 1) (ms := 6) (rest := []) X mt_X4_requireFold q2_91 q2_93 qs_2 3 wC_3 rfl (c_X4_requireFold hfl hI ⟨by omega, by omega⟩) (by decide) (Nat.le_of_ble_eq_true rfl) (Nat.le_of_ble_eq_true rfl) (Nat.le_of_ble_eq_true rfl) rfl rfl dX4_part_2 rfl (k_ck (fun h_2 => ?_)) (k_cx (fun h_2 => g_prop X rx (Nat.le_of_ble_eq_true rfl) (Nat.le_of_ble_eq_true rfl) ⟨⟨S, rfl⟩, Or.inl ⟨rfl, by omega⟩⟩))
  refine g_iload_n (t := 6) X dX4_part_5 2 rfl rfl ?_
  refine g_iconst (t := 7) X dX4_part_6 rfl ?_
  refine g_bipush (t := 9) (z := 60) X dX4_part_7 (by decide +kernel) rfl ?_
  refine g_callS (t := 12) (mc := 0) (ms := 0) (rest := []) X mt_X4_isOutside q2_95 q2_96 (c_X4_isOutside hfl ⟨by omega, by omega⟩ ⟨by omega, by omega⟩ ⟨by omega, by omega⟩) (by decide) (Nat.le_of_ble_eq_true rfl) (Nat.le_of_ble_eq_true rfl) (Nat.le_of_ble_eq_true rfl) rfl rfl dX4_part_9 rfl (k_rb (fun b_9 => ?_) (fun b_9 => ?_))
  · refine g_if_ne (t := 37) (u := 15) X dX4_part_12 (by decide) rfl ⟨by omega, by omega⟩ (fun _ => ?_) (fun c => absurd c (by decide))
    exact g_throw X rx (is := 69) (text := "place is 0 to 60, line 0 to 20, lines 1 to 10") rfl (by decide +kernel) q2_167 q1_17 (List.mem_of_getElem? (i := 3) rfl) tx_A dX4_part_37 dX4_part_40 dX4_part_41 dX4_part_43 dX4_part_46 (Nat.le_of_ble_eq_true rfl) (by decide) (Nat.le_of_ble_eq_true rfl) (Nat.le_of_ble_eq_true rfl) (Nat.le_of_ble_eq_true rfl) (Nat.le_of_ble_eq_true rfl) ⟨⟨S, rfl⟩, Or.inr (Or.inl ⟨rfl, by omega, by omega⟩)⟩
  · refine g_if_ne (t := 37) (u := 15) X dX4_part_12 (by decide) rfl ⟨by omega, by omega⟩ (fun c => absurd c (by decide)) (fun _ => ?_)
    refine g_iload (t := 17) X dX4_part_15 4 rfl rfl ?_
    refine g_iconst (t := 18) X dX4_part_17 rfl ?_
    refine g_bipush (t := 20) (z := 20) X dX4_part_18 (by decide +kernel) rfl ?_
    refine g_callS (t := 23) (mc := 0) (ms := 0) (rest := []) X mt_X4_isOutside q2_95 q2_96 (c_X4_isOutside hfl ⟨by omega, by omega⟩ ⟨by omega, by omega⟩ ⟨by omega, by omega⟩) (by decide) (Nat.le_of_ble_eq_true rfl) (Nat.le_of_ble_eq_true rfl) (Nat.le_of_ble_eq_true rfl) rfl rfl dX4_part_20 rfl (k_rb (fun b_20 => ?_) (fun b_20 => ?_))
    · refine g_if_ne (t := 37) (u := 26) X dX4_part_23 (by decide) rfl ⟨by omega, by omega⟩ (fun _ => ?_) (fun c => absurd c (by decide))
      exact g_throw X rx (is := 69) (text := "place is 0 to 60, line 0 to 20, lines 1 to 10") rfl (by decide +kernel) q2_167 q1_17 (List.mem_of_getElem? (i := 3) rfl) tx_A dX4_part_37 dX4_part_40 dX4_part_41 dX4_part_43 dX4_part_46 (Nat.le_of_ble_eq_true rfl) (by decide) (Nat.le_of_ble_eq_true rfl) (Nat.le_of_ble_eq_true rfl) (Nat.le_of_ble_eq_true rfl) (Nat.le_of_ble_eq_true rfl) ⟨⟨S, rfl⟩, Or.inr (Or.inl ⟨rfl, by omega, by omega⟩)⟩
    · refine g_if_ne (t := 37) (u := 26) X dX4_part_23 (by decide) rfl ⟨by omega, by omega⟩ (fun c => absurd c (by decide)) (fun _ => ?_)
      refine g_iload (t := 28) X dX4_part_26 5 rfl rfl ?_
      refine g_iconst (t := 29) X dX4_part_28 rfl ?_
      refine g_bipush (t := 31) (z := 10) X dX4_part_29 (by decide +kernel) rfl ?_
      refine g_callS (t := 34) (mc := 0) (ms := 0) (rest := []) X mt_X4_isOutside q2_95 q2_96 (c_X4_isOutside hfl ⟨by omega, by omega⟩ ⟨by omega, by omega⟩ ⟨by omega, by omega⟩) (by decide) (Nat.le_of_ble_eq_true rfl) (Nat.le_of_ble_eq_true rfl) (Nat.le_of_ble_eq_true rfl) rfl rfl dX4_part_31 rfl (k_rb (fun b_31 => ?_) (fun b_31 => ?_))
      · refine g_if_eq (t := 47) (u := 37) X dX4_part_34 (by decide) rfl ⟨by omega, by omega⟩ (fun c => absurd c (by decide)) (fun _ => ?_)
        exact g_throw X rx (is := 69) (text := "place is 0 to 60, line 0 to 20, lines 1 to 10") rfl (by decide +kernel) q2_167 q1_17 (List.mem_of_getElem? (i := 3) rfl) tx_A dX4_part_37 dX4_part_40 dX4_part_41 dX4_part_43 dX4_part_46 (Nat.le_of_ble_eq_true rfl) (by decide) (Nat.le_of_ble_eq_true rfl) (Nat.le_of_ble_eq_true rfl) (Nat.le_of_ble_eq_true rfl) (Nat.le_of_ble_eq_true rfl) ⟨⟨S, rfl⟩, Or.inr (Or.inl ⟨rfl, by omega, by omega⟩)⟩
      · refine g_if_eq (t := 47) (u := 37) X dX4_part_34 (by decide) rfl ⟨by omega, by omega⟩ (fun _ => ?_) (fun c => absurd c (by decide))
        refine g_iload_n (t := 48) X dX4_part_47 3 rfl rfl ?_
        refine gx_callS (t := 51) (mc := 1) (ms := 6) (rest := []) X mt_X4_requireLength q2_212 q2_213 (c_X4_requireLength hfl ⟨by omega, by omega⟩) (by decide) (Nat.le_of_ble_eq_true rfl) (Nat.le_of_ble_eq_true rfl) (Nat.le_of_ble_eq_true rfl) rfl rfl dX4_part_48 rfl (k_ck (fun h_48 => ?_)) (k_cx (fun h_48 => g_prop X rx (Nat.le_of_ble_eq_true rfl) (Nat.le_of_ble_eq_true rfl) ⟨⟨S, rfl⟩, Or.inr (Or.inl ⟨rfl, by omega, by omega⟩)⟩))
        refine g_aload_n (t := 52) X dX4_part_51 0 rfl rfl ?_
        refine getf_X4 (t := 55) X 1 (by decide) q1_188 rfl rfl dX4_part_52 rfl ?_
        refine g_callV (t := 58) (mc := 0) (ms := 0) (rest := []) X mt_Jx4a65c_size_8abf5 q1_225 q1_226 q1_227 2 wC_2 rfl (c_Jx4a65c_size_8abf5 hfl 2 wC_2) (by decide) (Nat.le_of_ble_eq_true rfl) (Nat.le_of_ble_eq_true rfl) (Nat.le_of_ble_eq_true rfl) rfl rfl dX4_part_55 rfl (k_rv ?_)
        refine g_bipush (t := 60) (z := 16) X dX4_part_58 (by decide +kernel) rfl ?_
        refine g_icmp_ge (t := 70) (u := 63) X dX4_part_60 (by decide) rfl ⟨by omega, by omega⟩ ⟨by omega, by omega⟩ (fun c_60 => ?_) (fun c_60 => ?_)
        · exact g_throw X rx (is := 78) (text := "there are 16 parts, or the page is bound") rfl (by decide +kernel) q2_184 q1_21 (List.mem_of_getElem? (i := 5) rfl) tx_S dX4_part_70 dX4_part_73 dX4_part_74 dX4_part_76 dX4_part_79 (Nat.le_of_ble_eq_true rfl) (by decide) (Nat.le_of_ble_eq_true rfl) (Nat.le_of_ble_eq_true rfl) (Nat.le_of_ble_eq_true rfl) (Nat.le_of_ble_eq_true rfl) ⟨⟨S, rfl⟩, Or.inr (Or.inr ⟨rfl, by omega, by omega, fun h => by first | exact h.2 b_64 | omega⟩)⟩
        · refine g_aload_n (t := 64) X dX4_part_63 0 rfl rfl ?_
          refine g_callV (t := 67) (mc := 0) (ms := 0) (rest := []) X mt_X4_isBound q2_183 q2_73 q2_74 3 wC_3 rfl (c_X4_isBound hfl hI hF.pr) (by decide) (Nat.le_of_ble_eq_true rfl) (Nat.le_of_ble_eq_true rfl) (Nat.le_of_ble_eq_true rfl) rfl rfl dX4_part_64 rfl (k_rbz (fun Z64 b_64 => ?_) (fun Z64 b_64 => ?_))
          · refine g_if_eq (t := 80) (u := 70) X dX4_part_67 (by decide) rfl ⟨by omega, by omega⟩ (fun c => absurd c (by decide)) (fun _ => ?_)
            exact g_throw X rx (is := 78) (text := "there are 16 parts, or the page is bound") rfl (by decide +kernel) q2_184 q1_21 (List.mem_of_getElem? (i := 5) rfl) tx_S dX4_part_70 dX4_part_73 dX4_part_74 dX4_part_76 dX4_part_79 (Nat.le_of_ble_eq_true rfl) (by decide) (Nat.le_of_ble_eq_true rfl) (Nat.le_of_ble_eq_true rfl) (Nat.le_of_ble_eq_true rfl) (Nat.le_of_ble_eq_true rfl) ⟨⟨Z64, rfl⟩, Or.inr (Or.inr ⟨rfl, by omega, by omega, fun h => by first | exact h.2 b_64 | omega⟩)⟩
          · refine g_if_eq (t := 80) (u := 70) X dX4_part_67 (by decide) rfl ⟨by omega, by omega⟩ (fun _ => ?_) (fun c => absurd c (by decide))
            refine g_aload_n (t := 81) X dX4_part_80 0 rfl rfl ?_
            refine getf_X4 (t := 84) X 1 (by decide) q1_188 rfl rfl dX4_part_81 rfl ?_
            refine g_new (t := 87) (ci := 8) (fs := [vi 0, vi 0, vi 0, vi 0, vi 0, vi 0]) X inX3 tyX3 tyX3_ok q2_3 q2_217 q1_22 rfl (by decide +kernel) (Nat.le_of_ble_eq_true rfl) (Nat.le_of_ble_eq_true rfl) dX4_part_84 rfl (fun q => ?_)
            refine g_dup (t := 88) X dX4_part_87 rfl rfl ?_
            refine g_iload_n (t := 89) X dX4_part_88 1 rfl rfl ?_
            refine g_iload_n (t := 90) X dX4_part_89 2 rfl rfl ?_
            refine g_iload_n (t := 91) X dX4_part_90 3 rfl rfl ?_
            refine g_iload (t := 93) X dX4_part_91 4 rfl rfl ?_
            refine g_iload (t := 95) X dX4_part_93 5 rfl rfl ?_
            refine g_iload (t := 97) X dX4_part_95 6 rfl rfl ?_
            refine g_callI (t := 100) (mc := 0) (ms := 0) (rest := [.ref q, .ref (ad 2)]) X mt_X3_init q2_218 q2_219 (by decide +kernel) (c_X3_init hfl he) (by decide) (Nat.le_of_ble_eq_true rfl) (Nat.le_of_ble_eq_true rfl) (Nat.le_of_ble_eq_true rfl) rfl rfl dX4_part_97 rfl (k_rn ?_)
            rcases Int.lt_or_eq_of_le I10.1 with hn | hn
            · obtain ⟨⟨g1, g2, g3⟩, h4, h5⟩ := hF.2 hn
              refine g_pm (pm_in hn) ?_
              refine g_callV (t := 103) (mc := 1) (ms := 22) (rest := []) X mt_Jx4a65c_add_9ea2d q3_4 q3_5 q3_6 0 rfl rfl (c_Jx4a65c_add_9ea2d_1 (E := E) (f := fe) hfl rW_new (by omega) (by omega) (by omega) (by omega) (by omega) h5 (fun i hi y9 hy9 => by rw [h4 i hi] at hy9; cases hy9; exact rW_at ad B Z64 V (by omega))) (by decide) (Nat.le_of_ble_eq_true rfl) (Nat.le_of_ble_eq_true rfl) (Nat.le_of_ble_eq_true rfl) rfl rfl dX4_part_100 rfl (k_ex (fun x9 hA => ?_))
              obtain ⟨el9, cap9, f9⟩ := x9
              have hq9 := hF.push (E' := (E.1 + 1, el9)) (g := f) (x := x) (y := y) (z := z) (u := u) (e := e) (m := E.1 + 1) I10.1 rfl hA
              refine g_pm (ws2 := wC C ad B (E.1 + 1, el9) Z64 (YP Y f x y z u e) V ++ poolW C (E.1 + 1, el9) (YP Y f x y z u e) (fun i => if i = (Y 10 0).toNat then q else pa i) cap9 f9 R0) (pm_out I10.1 rfl) ?_
              refine g_pop (t := 104) X dX4_part_103 rfl rfl ?_
              refine g_aload_n (t := 105) X dX4_part_104 0 rfl rfl ?_
              refine getf_X4 (t := 108) X 1 (by decide) q1_188 rfl rfl dX4_part_105 rfl ?_
              refine g_callV (t := 111) (mc := 0) (ms := 0) (rest := []) X mt_Jx4a65c_size_8abf5 q1_225 q1_226 q1_227 2 wC_2 rfl (c_Jx4a65c_size_8abf5 (E := (E.1 + 1, el9)) (n := Y 10 0 + 1) hfl 2 wC_2) (by decide) (Nat.le_of_ble_eq_true rfl) (Nat.le_of_ble_eq_true rfl) (Nat.le_of_ble_eq_true rfl) rfl rfl dX4_part_108 rfl (k_rv ?_)
              refine g_iconst (t := 112) X dX4_part_111 rfl ?_
              refine g_isub (t := 113) X dX4_part_112 rfl ?_
              exact g_iret X r ⟨⟨h_2, by omega, by omega, b_64⟩, Z64, _, cap9, f9, (E.1 + 1, el9), hq9, by rw [show Y 10 0 + 1 - 1 = Y 10 0 by omega], rfl⟩ (Nat.le_of_ble_eq_true rfl) (Nat.le_of_ble_eq_true rfl) dX4_part_113
            · refine g_pm (pm_in0 hn.symm) ?_
              refine g_callV (t := 103) (mc := 1) (ms := 22) (rest := []) X mt_Jx4a65c_add_9ea2d q3_4 q3_5 q3_6 0 rfl rfl (c_Jx4a65c_add_9ea2d_0 (E := E) (f := fe) hfl rW_new (hF.1 hn.symm)) (by decide) (Nat.le_of_ble_eq_true rfl) (Nat.le_of_ble_eq_true rfl) (Nat.le_of_ble_eq_true rfl) rfl rfl dX4_part_100 rfl (k_ex (fun x9 hA => ?_))
              obtain ⟨el9, cap9, f9⟩ := x9
              have hA : AddP fe (Y 10 0) q (el9, cap9, f9) := hn ▸ hA
              have e9 : fAL (E.1 + 1, el9) (0 + 1) = fAL (E.1 + 1, el9) (Y 10 0 + 1) := by rw [← hn]
              have hq9 := hF.push (E' := (E.1 + 1, el9)) (g := f) (x := x) (y := y) (z := z) (u := u) (e := e) (m := E.1 + 1) (Int.le_of_eq hn) rfl hA
              refine g_pm (ws2 := wC C ad B (E.1 + 1, el9) Z64 (YP Y f x y z u e) V ++ poolW C (E.1 + 1, el9) (YP Y f x y z u e) (fun i => if i = (Y 10 0).toNat then q else pa i) cap9 f9 R0) (by show List.Perm _ ((ad 2, (.inr (4, fAL (E.1 + 1, el9) (0 + 1)) : va_E)) :: _); rw [e9]; exact pm_out (Int.le_of_eq hn) rfl) ?_
              refine g_pop (t := 104) X dX4_part_103 rfl rfl ?_
              refine g_aload_n (t := 105) X dX4_part_104 0 rfl rfl ?_
              refine getf_X4 (t := 108) X 1 (by decide) q1_188 rfl rfl dX4_part_105 rfl ?_
              refine g_callV (t := 111) (mc := 0) (ms := 0) (rest := []) X mt_Jx4a65c_size_8abf5 q1_225 q1_226 q1_227 2 wC_2 rfl (c_Jx4a65c_size_8abf5 (E := (E.1 + 1, el9)) (n := Y 10 0 + 1) hfl 2 wC_2) (by decide) (Nat.le_of_ble_eq_true rfl) (Nat.le_of_ble_eq_true rfl) (Nat.le_of_ble_eq_true rfl) rfl rfl dX4_part_108 rfl (k_rv ?_)
              refine g_iconst (t := 112) X dX4_part_111 rfl ?_
              refine g_isub (t := 113) X dX4_part_112 rfl ?_
              exact g_iret X r ⟨⟨h_2, by omega, by omega, b_64⟩, Z64, _, cap9, f9, (E.1 + 1, el9), hq9, by rw [show Y 10 0 + 1 - 1 = Y 10 0 by omega], rfl⟩ (Nat.le_of_ble_eq_true rfl) (Nat.le_of_ble_eq_true rfl) dX4_part_113

