def wT (C : WC) (ad : Nat → Nat) (S Y V : Nat → Int → Int) : va_W := [(ad 3, .inr (9, fSp ad)), (ad 4, .inr (5, fFo ad Y)), (ad 5, aI C 12 (Y 0)), (ad 6, aI C 12 (Y 1)), (ad 7, aI C 12 (Y 2)), (ad 8, aI C 12 (S 0)), (ad 9, aI C 12 (S 1)), (ad 10, aI C 12 (S 2)), (ad 11, .inr (6, fGl ad Y)), (ad 12, aI C 16 (Y 11)), (ad 13, .inr (7, fLa ad V)), (ad 14, aI C 16 (V 20)), (ad 15, aI C 16 (V 21)), (ad 16, aI C 16 (V 22)), (ad 17, aI C 16 (V 13)), (ad 18, aI C 16 (V 14)), (ad 19, aI C 16 (V 15)), (ad 20, aI C 16 (V 16)), (ad 21, aI C 16 (V 18))]
/-- the parts' objects, and the list's elements -/
def plW (pa : Nat → Nat) (Y : Nat → Int → Int) (n : Nat) : va_W := (List.range n).map (fun i => (pa i, (.inr (8, fPa Y (i : Int)) : va_E)))
def elW (C : WC) (E : Int × Nat) (cap : Nat) (f : Nat → Option Nat) (n : Int) : va_W := if n ≤ 0 then [] else [(E.2, aO C cap f)]
def poolW (C : WC) (E : Int × Nat) (Y : Nat → Int → Int) (pa : Nat → Nat) (cap : Nat) (f : Nat → Option Nat) (R0 : va_W) : va_W := plW pa Y (Y 10 0).toNat ++ (elW C E cap f (Y 10 0) ++ R0)
def PLF (C : WC) (E : Int × Nat) (Y : Nat → Int → Int) (pa : Nat → Nat) (cap : Nat) (f : Nat → Option Nat) : Prop := (Y 10 0 = 0 → E.2 = C.2.2.2 0) ∧ (0 < Y 10 0 → (10 ≤ cap ∧ cap ≤ 22 ∧ Y 10 0 ≤ cap) ∧ (∀ i : Nat, (i : Int) < Y 10 0 → f i = some (pa i)) ∧ ∀ i : Nat, Y 10 0 ≤ (i : Int) → f i = none)
theorem plW_at {pa : Nat → Nat} {Y : Nat → Int → Int} {n i : Nat} (h : i < n) (T : va_W) : (plW pa Y n ++ T)[i]? = some (pa i, .inr (8, fPa Y (i : Int))) := by
  rw [List.getElem?_append_left (by simp [plW]; exact h)]
  simp [plW, h]
theorem plW_after {pa : Nat → Nat} {Y : Nat → Int → Int} {n : Nat} (x : Nat × va_E) (T : va_W) : (plW pa Y n ++ (x :: T))[n]? = some x := by
  rw [List.getElem?_append_right (by simp [plW])]
  simp [plW]
theorem plW_push (pa : Nat → Nat) (Y : Nat → Int → Int) (n q : Nat) {Y' : Nat → Int → Int} (h : ∀ i : Nat, i < n → fPa Y' (i : Int) = fPa Y (i : Int)) : plW (fun i => if i = n then q else pa i) Y' (n + 1) = plW pa Y n ++ [(q, .inr (8, fPa Y' (n : Int)))] := by
  unfold plW
  rw [List.range_succ, List.map_append]
  congr 1
  · apply List.map_congr_left
    intro i hi
    have hi2 := List.mem_range.mp hi
    show ((if i = n then q else pa i), (.inr (8, fPa Y' (i : Int)) : va_E)) = _
    rw [if_neg (by omega), h i hi2]
  · simp
theorem plW_set (pa : Nat → Nat) (Y : Nat → Int → Int) (n i : Nat) (h : i < n) (x : Int) (T : va_W) : (plW pa Y n ++ T).set i (pa i, .inr (8, (fPa Y (i : Int)).set 5 (vi x))) = plW pa (u2 Y 6 (i : Int) x) n ++ T := by
  rw [List.set_append_left _ _ (by simp [plW]; exact h)]
  congr 1
  apply List.ext_getElem?
  intro j
  by_cases e : j = i
  · subst e
    rw [List.getElem?_set_self (by simp [plW]; exact h)]
    simp only [plW, List.getElem?_map, List.getElem?_range h, Option.map_some]
    congr 2
    show (.inr (8, _) : va_E) = .inr (8, _)
    congr 2
    show [vi (Y 4 j), vi (Y 5 j), vi (Y 7 j), vi (Y 8 j), vi (Y 9 j), vi x] = [vi (Y 4 j), vi (Y 5 j), vi (Y 7 j), vi (Y 8 j), vi (Y 9 j), vi (uI (Y 6) j x j)]
    rw [uI_s]
  · rw [List.getElem?_set_ne (Ne.symm e)]
    by_cases hj : j < n
    · simp only [plW, List.getElem?_map, List.getElem?_range hj, Option.map_some]
      congr 2
      show (.inr (8, _) : va_E) = .inr (8, _)
      congr 2
      show [vi (Y 4 j), vi (Y 5 j), vi (Y 7 j), vi (Y 8 j), vi (Y 9 j), vi (Y 6 j)] = [vi (Y 4 j), vi (Y 5 j), vi (Y 7 j), vi (Y 8 j), vi (Y 9 j), vi (uI (Y 6) i x j)]
      rw [uI_n _ _ (by omega)]
    · have e1 : (List.range n)[j]? = none := List.getElem?_eq_none (by rw [List.length_range]; omega)
      simp only [plW, List.getElem?_map, e1, Option.map_none]
theorem PLF.pr {C : WC} {E : Int × Nat} {Y : Nat → Int → Int} {pa : Nat → Nat} {cap : Nat} {f : Nat → Option Nat} {R0 : va_W} (h : PLF C E Y pa cap f) : PR C E Y (poolW C E Y pa cap f R0) := by
  intro hn
  obtain ⟨⟨h1, h2, h3⟩, h4, h5⟩ := h.2 hn
  refine ⟨cap, (Y 10 0).toNat, f, ⟨h3, by omega⟩, ?_, fun p p0 p1 => ⟨pa p.toNat, p.toNat, h4 _ (by omega), ?_⟩⟩
  · unfold poolW elW
    rw [if_neg (by omega)]
    exact plW_after _ _
  · unfold poolW
    rw [plW_at (by omega), Int.toNat_of_nonneg p0]
theorem set_len {C : WC} {ad : Nat → Nat} {B : BT} {E : Int × Nat} {S Y V : Nat → Int → Int} {pa : Nat → Nat} {n : Nat} {T : va_W} {p x : Int} (p0 : 0 ≤ p) (h : p.toNat < n) : (wC C ad B E S Y V ++ (plW pa Y n ++ T)).set (p.toNat + 22) (pa p.toNat, .inr (8, (fPa Y p).set 5 (vi x))) = wC C ad B E S (u2 Y 6 p x) V ++ (plW pa (u2 Y 6 p x) n ++ T) := by
  have e := plW_set pa Y n p.toNat h x T
  rw [Int.toNat_of_nonneg p0] at e
  rw [List.set_append_right _ _ (by show 22 ≤ _; omega), show p.toNat + 22 - (wC C ad B E S Y V).length = p.toNat from Nat.add_sub_cancel _ 22, e]
  rfl

theorem u2_same {Y : Nat → Int → Int} (j : Nat) {v : Int} (h : Y j 0 = v) : u2 Y j 0 v = Y := by
  funext i
  by_cases e : i = j
  · subst e
    rw [u2_s]
    funext z
    by_cases ez : z = 0
    · subst ez; rw [uI_s]; exact h.symm
    · rw [uI_n _ _ ez]
  · rw [u2_n _ _ _ e]
set_option maxHeartbeats 4000000 in
set_option maxRecDepth 100000 in
/-- resize(part, length) -/
theorem c_X4_resize {C : WC} {l : Launch} (hfl : l.stackTraces = false) {ad : Nat → Nat} {B : BT} {E : Int × Nat} {S Y V : Nat → Int → Int} {pa : Nat → Nat} {cap : Nat} {f : Nat → Option Nat} {R0 : va_W} {p x : Int} (hI : MI Y) (hF : PLF C E Y pa cap f) (hp : Rg p) (hx : Rg x) : MX C l yX4_resize cX4_resize 4 (some .int) 3 6 40 [.ref (ad 3), vi p, vi x] (wC C ad B E S Y V ++ poolW C E Y pa cap f R0) (po ((0 ≤ p ∧ p < Y 10 0) ∧ 1 ≤ x ∧ x ≤ 30) (cutN Y p) (fun Z => wC C ad B E Z (u2 (u2 Y 6 p x) 12 0 (Y 12 0 - cutN Y p)) V ++ poolW C E (u2 (u2 Y 6 p x) 12 0 (Y 12 0 - cutN Y p)) pa cap f R0)) (px3 (0 ≤ p ∧ p < Y 10 0) (1 ≤ x ∧ x ≤ 30) True "java/lang/IndexOutOfBoundsException" "java/lang/IllegalArgumentException" "java/lang/IllegalArgumentException" (fun Z => wC C ad B E Z Y V ++ poolW C E Y pa cap f R0)) := by
  refine mx_of (by decide +kernel) (Nat.le_of_ble_eq_true rfl) hfl (fun K Q X r rx => ?_)
  have X : Cx C l "Springleaf" cX4_resize 4 3 6 40 K := X
  have I3 := hI.1
  have I10 := hI.2.2.1
  have I12 := hI.2.2.2.2.1
  obtain ⟨p1, p2⟩ := hp
  obtain ⟨x1, x2⟩ := hx
  show G C K Q 0 0 0 [(0, .ref (ad 3)), (1, vi p), (2, vi x)] [] (wC C ad B E S Y V ++ poolW C E Y pa cap f R0)
  refine g_aload_n (t := 1) X dX4_resize_0 0 rfl rfl ?_
  refine g_iload_n (t := 2) X dX4_resize_1 1 rfl rfl ?_
  refine gx_callV (t := 5) (mc := 1) (ms := 6) (rest := []) X mt_X4_requirePart q3_95 q3_97 qs_7 3 wC_3 rfl (c_X4_requirePart hfl hI ⟨by omega, by omega⟩) (by decide) (Nat.le_of_ble_eq_true rfl) (Nat.le_of_ble_eq_true rfl) (Nat.le_of_ble_eq_true rfl) rfl rfl dX4_resize_2 rfl (k_ck (fun h_2 => ?_)) (k_cx (fun h_2 => g_prop X rx (Nat.le_of_ble_eq_true rfl) (Nat.le_of_ble_eq_true rfl) ⟨⟨S, rfl⟩, Or.inl ⟨rfl, by omega⟩⟩))
  refine g_iload_n (t := 6) X dX4_resize_5 2 rfl rfl ?_
  refine gx_callS (t := 9) (mc := 1) (ms := 6) (rest := []) X mt_X4_requireLength q2_212 q2_213 (c_X4_requireLength hfl ⟨by omega, by omega⟩) (by decide) (Nat.le_of_ble_eq_true rfl) (Nat.le_of_ble_eq_true rfl) (Nat.le_of_ble_eq_true rfl) rfl rfl dX4_resize_6 rfl (k_ck (fun h_6 => ?_)) (k_cx (fun h_6 => g_prop X rx (Nat.le_of_ble_eq_true rfl) (Nat.le_of_ble_eq_true rfl) ⟨⟨S, rfl⟩, Or.inr (Or.inl ⟨rfl, by omega, by omega⟩)⟩))
  obtain ⟨⟨g1, g2, g3⟩, h4, h5⟩ := hF.2 (by omega)
  have hpp : (poolW C E Y pa cap f R0)[p.toNat]? = some (pa p.toNat, .inr (8, fPa Y p)) := by unfold poolW; rw [plW_at (by omega), Int.toNat_of_nonneg h_2.1]
  have hqe : (poolW C E Y pa cap f R0)[(Y 10 0).toNat]? = some (E.2, aO C cap f) := by
    unfold poolW elW
    rw [if_neg (by omega)]
    exact plW_after _ _
  have hsr : -1 ≤ stepF Y p ∧ stepF Y p < Y 12 0 := by have h9 := stp_rng (Y 11) p (Y 12 0).toNat; unfold stepF; omega
  refine g_aload_n (t := 10) X dX4_resize_9 0 rfl rfl ?_
  refine getf_X4 (t := 13) X 1 (by decide) q1_188 rfl rfl dX4_resize_10 rfl ?_
  refine g_iload_n (t := 14) X dX4_resize_13 1 rfl rfl ?_
  refine g_callV (t := 17) (mc := 0) (ms := 0) (rest := []) X mt_Jx4a65c_get_915e3 q1_229 q1_230 q1_231 2 wC_2 rfl (c_Jx4a65c_get_915e3 (E := E) hfl 2 wC_2 ((Y 10 0).toNat + 22) (wC_R.trans hqe) (by omega) (by omega) (by omega) (h4 p.toNat (by omega)) (by omega) (by omega)) (by decide) (Nat.le_of_ble_eq_true rfl) (Nat.le_of_ble_eq_true rfl) (Nat.le_of_ble_eq_true rfl) rfl rfl dX4_resize_14 rfl (k_rv ?_)
  refine g_castS (t := 20) X (p.toNat + 22) (wC_R.trans hpp) rfl q2_3 dX4_resize_17 rfl ?_
  refine g_iload_n (t := 21) X dX4_resize_20 2 rfl rfl ?_
  refine g_putf (t := 24) X inX3 tyX3 tyX3_ok nmX3 (p.toNat + 22) (wC_R.trans hpp) rfl 5 (by decide) q2_230 rfl rfl rfl rfl rfl (Nat.le_of_ble_eq_true rfl) (set_len (by omega) (by omega)) dX4_resize_21 rfl ?_
  refine g_aload_n (t := 25) X dX4_resize_24 0 rfl rfl ?_
  refine getf_X4 (t := 28) X 2 (by decide) q1_189 rfl rfl dX4_resize_25 rfl ?_
  refine g_iload_n (t := 29) X dX4_resize_28 1 rfl rfl ?_
  refine g_callV (t := 32) (mc := 0) (ms := 0) (rest := []) X mt_X1_stepOf q3_125 q3_126 q3_127 11 wC_11 rfl (c_X1_stepOf hfl (hI.len h_6.1 h_6.2) ⟨by omega, by omega⟩) (by decide) (Nat.le_of_ble_eq_true rfl) (Nat.le_of_ble_eq_true rfl) (Nat.le_of_ble_eq_true rfl) rfl rfl dX4_resize_29 rfl (k_rv ?_)
  rw [show stepF (u2 Y 6 p x) p = stepF Y p from rfl]
  refine g_istore_n (t := 33) (lv1 := [(3, vi (stepF Y p)), (0, .ref (ad 3)), (1, vi p), (2, vi x)]) X dX4_resize_32 (by decide) rfl rfl ?_
  refine g_iload_n (t := 34) X dX4_resize_33 0 rfl rfl ?_
  refine g_iconst (t := 35) X dX4_resize_34 rfl ?_
  refine g_icmp_ne (t := 42) (u := 38) X dX4_resize_35 (by decide) rfl ⟨by omega, by omega⟩ ⟨by omega, by omega⟩ (fun c_35 => ?_) (fun c_35 => ?_)
  · refine g_aload_n (t := 43) X dX4_resize_42 1 rfl rfl ?_
    refine getf_X4 (t := 46) X 2 (by decide) q1_189 rfl rfl dX4_resize_43 rfl ?_
    refine g_iload_n (t := 47) X dX4_resize_46 0 rfl rfl ?_
    refine g_callV (t := 50) (mc := 0) (ms := 0) (rest := []) X mt_X1_cutTo q3_155 q3_156 q3_157 11 wC_11 rfl (c_X1_cutTo hfl) (by decide) (Nat.le_of_ble_eq_true rfl) (Nat.le_of_ble_eq_true rfl) (Nat.le_of_ble_eq_true rfl) rfl rfl dX4_resize_47 rfl (k_rv ?_)
    exact g_iret X r ⟨⟨h_2, h_6⟩, S, by rw [show cutN Y p = Y 12 0 - stepF Y p by unfold cutN; rw [if_neg (by omega)]]; rfl, by
              rw [show Y 12 0 - cutN Y p = stepF Y p by unfold cutN; rw [if_neg (by omega)]; omega]; rfl⟩ (Nat.le_of_ble_eq_true rfl) (Nat.le_of_ble_eq_true rfl) dX4_resize_50
  · refine g_iconst (t := 39) X dX4_resize_38 rfl ?_
    refine g_goto (t := 50) X dX4_resize_39 (by decide) ?_
    exact g_iret X r ⟨⟨h_2, h_6⟩, S, by rw [show cutN Y p = 0 by unfold cutN; rw [if_pos (by omega)]], by
              have e : u2 (u2 Y 6 p x) 12 0 (Y 12 0 - cutN Y p) = u2 Y 6 p x := by
                rw [show Y 12 0 - cutN Y p = Y 12 0 by unfold cutN; rw [if_pos (by omega)]; omega]
                exact u2_same (Y := u2 Y 6 p x) 12 rfl
              rw [e]; rfl⟩ (Nat.le_of_ble_eq_true rfl) (Nat.le_of_ble_eq_true rfl) dX4_resize_50

set_option maxHeartbeats 4000000 in
set_option maxRecDepth 100000 in
/-- Part(..) -/
theorem c_X3_init {C : WC} {l : Launch} (hfl : l.stackTraces = false) {ws : va_W} {q : Nat} {f x y z u e : Int} (he : e = 0 ∨ e = 1) : MM C l yX3_init cX3_init 7 none 0 0 0 [.ref q, vi f, vi x, vi y, vi z, vi u, vi e] (ws ++ [(q, .inr (8, [vi 0, vi 0, vi 0, vi 0, vi 0, vi 0]))]) (rn (ws ++ [(q, .inr (8, [vi f, vi x, vi z, vi u, vi e, vi y]))])) := by
  refine mi_of (by decide +kernel) (Nat.le_of_ble_eq_true rfl) hfl rfl (fun K Q X hni r => ?_)
  have X : Cx C l "Springleaf$Part" cX3_init 7 0 0 0 K := X
  have hen : narrow .boolean (vi e) = vi e := by rcases he with rfl | rfl <;> rfl
  have hef : fits .boolean (vi e) = true := by rcases he with rfl | rfl <;> rfl
  show G C K Q 0 0 0 [(0, .ref q), (1, vi f), (2, vi x), (3, vi y), (4, vi z), (5, vi u), (6, vi e)] [] (ws ++ [(q, .inr (8, [vi 0, vi 0, vi 0, vi 0, vi 0, vi 0]))])
  refine g_aload_n (t := 1) X dX3_init_0 0 rfl rfl ?_
  refine g_oinit (t := 4) X q2_221 (Nat.le_of_ble_eq_true rfl) dX3_init_1 rfl ?_
  refine g_aload_n (t := 5) X dX3_init_4 0 rfl rfl ?_
  refine g_iload_n (t := 6) X dX3_init_5 1 rfl rfl ?_
  refine g_putF (t := 9) (ws1 := (ws ++ [(q, .inr (8, [vi f, vi 0, vi 0, vi 0, vi 0, vi 0]))])) X hni inX3 tyX3 tyX3_ok nmX3 ws.length (new_at _ _) rfl 0 (by decide) q2_222 rfl rfl rfl rfl rfl rfl (Nat.le_of_ble_eq_true rfl) (new_set _ _ _) dX3_init_6 rfl ?_
  refine g_aload_n (t := 10) X dX3_init_9 0 rfl rfl ?_
  refine g_iload_n (t := 11) X dX3_init_10 2 rfl rfl ?_
  refine g_putF (t := 14) (ws1 := (ws ++ [(q, .inr (8, [vi f, vi x, vi 0, vi 0, vi 0, vi 0]))])) X hni inX3 tyX3 tyX3_ok nmX3 ws.length (new_at _ _) rfl 1 (by decide) q2_224 rfl rfl rfl rfl rfl rfl (Nat.le_of_ble_eq_true rfl) (new_set _ _ _) dX3_init_11 rfl ?_
  refine g_aload_n (t := 15) X dX3_init_14 0 rfl rfl ?_
  refine g_iload_n (t := 16) X dX3_init_15 3 rfl rfl ?_
  refine g_putf (t := 19) (ws1 := (ws ++ [(q, .inr (8, [vi f, vi x, vi 0, vi 0, vi 0, vi y]))])) X inX3 tyX3 tyX3_ok nmX3 ws.length (new_at _ _) rfl 5 (by decide) q2_229 rfl rfl rfl rfl rfl (Nat.le_of_ble_eq_true rfl) (new_set _ _ _) dX3_init_16 rfl ?_
  refine g_aload_n (t := 20) X dX3_init_19 0 rfl rfl ?_
  refine g_iload (t := 22) X dX3_init_20 4 rfl rfl ?_
  refine g_putF (t := 25) (ws1 := (ws ++ [(q, .inr (8, [vi f, vi x, vi z, vi 0, vi 0, vi y]))])) X hni inX3 tyX3 tyX3_ok nmX3 ws.length (new_at _ _) rfl 2 (by decide) q2_226 rfl rfl rfl rfl rfl rfl (Nat.le_of_ble_eq_true rfl) (new_set _ _ _) dX3_init_22 rfl ?_
  refine g_aload_n (t := 26) X dX3_init_25 0 rfl rfl ?_
  refine g_iload (t := 28) X dX3_init_26 5 rfl rfl ?_
  refine g_putF (t := 31) (ws1 := (ws ++ [(q, .inr (8, [vi f, vi x, vi z, vi u, vi 0, vi y]))])) X hni inX3 tyX3 tyX3_ok nmX3 ws.length (new_at _ _) rfl 3 (by decide) q2_227 rfl rfl rfl rfl rfl rfl (Nat.le_of_ble_eq_true rfl) (new_set _ _ _) dX3_init_28 rfl ?_
  refine g_aload_n (t := 32) X dX3_init_31 0 rfl rfl ?_
  refine g_iload (t := 34) X dX3_init_32 6 rfl rfl ?_
  refine g_putF (t := 37) (ws1 := (ws ++ [(q, .inr (8, [vi f, vi x, vi z, vi u, vi e, vi y]))])) X hni inX3 tyX3 tyX3_ok nmX3 ws.length (new_at _ _) rfl 4 (by decide) q2_228 rfl rfl rfl rfl hen hef (Nat.le_of_ble_eq_true rfl) (new_set _ _ _) dX3_init_34 rfl ?_
  exact g_vret X r rn_i (Nat.le_of_ble_eq_true rfl) (Nat.le_of_ble_eq_true rfl) dX3_init_37

