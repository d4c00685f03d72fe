/-- a public method's answer, and what it throws -/
def po (A : Prop) (res : Int) (Y' : Nat → Int → Int) (wg : (Nat → Int → Int) → (Int → Int) → va_W) : Option Value → va_W → Prop := fun v w => A ∧ ∃ (Z : Nat → Int → Int) (h : Int → Int), SI Y' h ∧ v = some (vi res) ∧ w = wg Z h
def px3 (A B D : Prop) (EA EB ED : String) (w0 : (Nat → Int → Int) → va_W) : String → va_W → Prop := fun e w => (∃ Z, w = w0 Z) ∧ ((e = EA ∧ ¬ A) ∨ (e = EB ∧ A ∧ ¬ B) ∨ (e = ED ∧ A ∧ B ∧ ¬ D))
theorem u2_same {Y : Nat → Int → Int} (j : Nat) {v : Int} (h : Y j 0 = v) : u2 Y j 0 v = Y := by
  funext i
  by_cases e : i = j
  · subst e
    rw [u2_s]
    funext z
    by_cases ez : z = 0
    · subst ez; rw [uI_s]; exact h.symm
    · rw [uI_n _ _ ez]
  · rw [u2_n _ _ _ e]

set_option maxHeartbeats 4000000 in
set_option maxRecDepth 100000 in
/-- angle(fold, open) -/
theorem c_X4_angle {C : WC} {l : Launch} (hfl : l.stackTraces = false) {ad : Nat → Nat} {B : BT} {E : Int × Nat} {F : Int × Nat × Nat} {S Y : Nat → Int → Int} {g : Int → Int} {R : va_W} {f o : Int} (hI : MI Y) (hF : FC F Y) (hR : LT ad C E Y R) (hG : SI Y g) (hf : Rg f) (ho : Rg o)  : MX C l yX4_angle cX4_angle 3 (some .int) 4 6 40 [.ref (ad 4), vi f, vi o] (WW C ad B E F S Y g R) (po ((0 ≤ f ∧ f < Y 3 0) ∧ (0 ≤ o ∧ o ≤ 180)) (angF Y f o) Y (fun Z h => WW C ad B E F Z Y h R)) (px3 (0 ≤ f ∧ f < Y 3 0) (0 ≤ o ∧ o ≤ 180) True "java/lang/IndexOutOfBoundsException" "java/lang/IllegalArgumentException" "java/lang/IllegalArgumentException" (fun Z => WW C ad B E F Z Y g R)) := by
  refine mx_of (by decide +kernel) (Nat.le_of_ble_eq_true rfl) hfl (fun K Q X r rx => ?_)
  have X : Cx C l "Springleaf" cX4_angle 3 4 6 40 K := X
  have I3 := hI.1
  have I10 := hI.2.2.1
  have I12 := hI.2.2.2.2.1
  obtain ⟨⟨F1, F2⟩, F3⟩ := id hF
  obtain ⟨f1, f2⟩ := hf
  obtain ⟨o1, o2⟩ := ho
  show G C K Q 0 0 0 [(0, .ref (ad 4)), (1, vi f), (2, vi o)] [] (WW C ad B E F S Y g R)
  refine g_aload_n (t := 1) X dX4_angle_0 0 rfl rfl ?_
  refine g_iload_n (t := 2) X dX4_angle_1 1 rfl rfl ?_
  refine gx_callV (t := 5) (mc := 1) (ms := 6) (rest := []) X mt_X4_requireFold q2_90 q2_92 qs_11 4 WW_4 rfl (c_X4_requireFold hfl hI ⟨by omega, by omega⟩) (by decide) (Nat.le_of_ble_eq_true rfl) (Nat.le_of_ble_eq_true rfl) (Nat.le_of_ble_eq_true rfl) rfl rfl dX4_angle_2 rfl (k_ck (fun h_2 => ?_)) (k_cx (fun h_2 => g_prop X rx (Nat.le_of_ble_eq_true rfl) (Nat.le_of_ble_eq_true rfl) ⟨⟨S, rfl⟩, Or.inl ⟨rfl, by omega⟩⟩))
  refine g_iload_n (t := 6) X dX4_angle_5 2 rfl rfl ?_
  refine gx_callS (t := 9) (mc := 1) (ms := 6) (rest := []) X mt_X4_requireOpen q3_24 q3_25 (c_X4_requireOpen hfl ⟨by omega, by omega⟩) (by decide) (Nat.le_of_ble_eq_true rfl) (Nat.le_of_ble_eq_true rfl) (Nat.le_of_ble_eq_true rfl) rfl rfl dX4_angle_6 rfl (k_ck (fun h_6 => ?_)) (k_cx (fun h_6 => g_prop X rx (Nat.le_of_ble_eq_true rfl) (Nat.le_of_ble_eq_true rfl) ⟨⟨S, rfl⟩, Or.inr (Or.inl ⟨rfl, by omega, by omega⟩)⟩))
  refine g_aload_n (t := 10) X dX4_angle_9 0 rfl rfl ?_
  refine g_iload_n (t := 11) X dX4_angle_10 2 rfl rfl ?_
  refine g_callV (t := 14) (mc := 0) (ms := 0) (rest := []) X mt_X4_openTo q1_206 q1_208 qs_3 4 WW_4 rfl (c_X4_openTo (o := o) hfl hI hF (by omega) (by omega)) (by decide) (Nat.le_of_ble_eq_true rfl) (Nat.le_of_ble_eq_true rfl) (Nat.le_of_ble_eq_true rfl) rfl rfl dX4_angle_11 rfl (k_exn (fun Z11 hZ11 => ?_))
  refine g_aload_n (t := 15) X dX4_angle_14 0 rfl rfl ?_
  refine getf_X4 (t := 18) X 0 (by decide) q1_186 rfl rfl dX4_angle_15 rfl ?_
  refine g_iload_n (t := 19) X dX4_angle_18 1 rfl rfl ?_
  refine g_callV (t := 22) (mc := 0) (ms := 0) (rest := []) X mt_Jx4a65c_get_915e3 q1_214 q1_215 q1_216 3 WW_3 rfl (c_Jx4a65c_get_915e3 (E := (F.1, F.2.1)) hfl 3 WW_3 5 WW_5 (by omega) (by omega) (by omega) (flF_at (i := f) (by omega) (by omega)) (by omega) (by omega)) (by decide) (Nat.le_of_ble_eq_true rfl) (Nat.le_of_ble_eq_true rfl) (Nat.le_of_ble_eq_true rfl) rfl rfl dX4_angle_19 rfl (k_rv ?_)
  refine g_castS (t := 25) X _ (WW_f (i := f) (by omega) (by omega)) rfl q1_96 dX4_angle_22 rfl ?_
  refine g_getf (t := 28) (v := vi (Z11 0 f)) X inX0 _ (WW_f (i := f) (by omega) (by omega)) rfl 4 (by decide) q1_109 rfl rfl dX4_angle_25 rfl ?_
  rw [(hZ11 f (by omega) (by omega)).1]
  exact g_iret X r ⟨⟨h_2, h_6⟩, Z11, g, hG, rfl, rfl⟩ (Nat.le_of_ble_eq_true rfl) (Nat.le_of_ble_eq_true rfl) dX4_angle_28

set_option maxHeartbeats 4000000 in
set_option maxRecDepth 100000 in
/-- angleAnew(fold, open) -/
theorem c_X4_angleAnew {C : WC} {l : Launch} (hfl : l.stackTraces = false) {ad : Nat → Nat} {B : BT} {E : Int × Nat} {F : Int × Nat × Nat} {S Y : Nat → Int → Int} {g : Int → Int} {R : va_W} {f o : Int} (hI : MI Y) (hF : FC F Y) (hR : LT ad C E Y R) (hG : SI Y g) (hf : Rg f) (ho : Rg o)  : MX C l yX4_angleAnew cX4_angleAnew 3 (some .int) 5 6 40 [.ref (ad 4), vi f, vi o] (WW C ad B E F S Y g R) (po ((0 ≤ f ∧ f < Y 3 0) ∧ (0 ≤ o ∧ o ≤ 180)) (angF Y f o) Y (fun Z h => WW C ad B E F Z Y h R)) (px3 (0 ≤ f ∧ f < Y 3 0) (0 ≤ o ∧ o ≤ 180) True "java/lang/IndexOutOfBoundsException" "java/lang/IllegalArgumentException" "java/lang/IllegalArgumentException" (fun Z => WW C ad B E F Z Y g R)) := by
  refine mx_of (by decide +kernel) (Nat.le_of_ble_eq_true rfl) hfl (fun K Q X r rx => ?_)
  have X : Cx C l "Springleaf" cX4_angleAnew 3 5 6 40 K := X
  have I3 := hI.1
  have I10 := hI.2.2.1
  have I12 := hI.2.2.2.2.1
  obtain ⟨⟨F1, F2⟩, F3⟩ := id hF
  obtain ⟨f1, f2⟩ := hf
  obtain ⟨o1, o2⟩ := ho
  show G C K Q 0 0 0 [(0, .ref (ad 4)), (1, vi f), (2, vi o)] [] (WW C ad B E F S Y g R)
  refine g_aload_n (t := 1) X dX4_angleAnew_0 0 rfl rfl ?_
  refine g_iload_n (t := 2) X dX4_angleAnew_1 1 rfl rfl ?_
  refine gx_callV (t := 5) (mc := 1) (ms := 6) (rest := []) X mt_X4_requireFold q2_90 q2_92 qs_11 4 WW_4 rfl (c_X4_requireFold hfl hI ⟨by omega, by omega⟩) (by decide) (Nat.le_of_ble_eq_true rfl) (Nat.le_of_ble_eq_true rfl) (Nat.le_of_ble_eq_true rfl) rfl rfl dX4_angleAnew_2 rfl (k_ck (fun h_2 => ?_)) (k_cx (fun h_2 => g_prop X rx (Nat.le_of_ble_eq_true rfl) (Nat.le_of_ble_eq_true rfl) ⟨⟨S, rfl⟩, Or.inl ⟨rfl, by omega⟩⟩))
  refine g_iload_n (t := 6) X dX4_angleAnew_5 2 rfl rfl ?_
  refine gx_callS (t := 9) (mc := 1) (ms := 6) (rest := []) X mt_X4_requireOpen q3_24 q3_25 (c_X4_requireOpen hfl ⟨by omega, by omega⟩) (by decide) (Nat.le_of_ble_eq_true rfl) (Nat.le_of_ble_eq_true rfl) (Nat.le_of_ble_eq_true rfl) rfl rfl dX4_angleAnew_6 rfl (k_ck (fun h_6 => ?_)) (k_cx (fun h_6 => g_prop X rx (Nat.le_of_ble_eq_true rfl) (Nat.le_of_ble_eq_true rfl) ⟨⟨S, rfl⟩, Or.inr (Or.inl ⟨rfl, by omega, by omega⟩)⟩))
  refine g_aload_n (t := 10) X dX4_angleAnew_9 0 rfl rfl ?_
  refine g_iload_n (t := 11) X dX4_angleAnew_10 2 rfl rfl ?_
  refine g_callV (t := 14) (mc := 0) (ms := 0) (rest := []) X mt_X4_openByDegreesTo q3_35 q3_37 qs_13 4 WW_4 rfl (c_X4_openByDegreesTo (o := o) hfl hI hF (by omega) (by omega)) (by decide) (Nat.le_of_ble_eq_true rfl) (Nat.le_of_ble_eq_true rfl) (Nat.le_of_ble_eq_true rfl) rfl rfl dX4_angleAnew_11 rfl (k_exn (fun Z11 hZ11 => ?_))
  refine g_aload_n (t := 15) X dX4_angleAnew_14 0 rfl rfl ?_
  refine getf_X4 (t := 18) X 0 (by decide) q1_186 rfl rfl dX4_angleAnew_15 rfl ?_
  refine g_iload_n (t := 19) X dX4_angleAnew_18 1 rfl rfl ?_
  refine g_callV (t := 22) (mc := 0) (ms := 0) (rest := []) X mt_Jx4a65c_get_915e3 q1_214 q1_215 q1_216 3 WW_3 rfl (c_Jx4a65c_get_915e3 (E := (F.1, F.2.1)) hfl 3 WW_3 5 WW_5 (by omega) (by omega) (by omega) (flF_at (i := f) (by omega) (by omega)) (by omega) (by omega)) (by decide) (Nat.le_of_ble_eq_true rfl) (Nat.le_of_ble_eq_true rfl) (Nat.le_of_ble_eq_true rfl) rfl rfl dX4_angleAnew_19 rfl (k_rv ?_)
  refine g_castS (t := 25) X _ (WW_f (i := f) (by omega) (by omega)) rfl q1_96 dX4_angleAnew_22 rfl ?_
  refine g_getf (t := 28) (v := vi (Z11 0 f)) X inX0 _ (WW_f (i := f) (by omega) (by omega)) rfl 4 (by decide) q1_109 rfl rfl dX4_angleAnew_25 rfl ?_
  rw [(hZ11 f (by omega) (by omega)).1]
  exact g_iret X r ⟨⟨h_2, h_6⟩, Z11, g, hG, rfl, rfl⟩ (Nat.le_of_ble_eq_true rfl) (Nat.le_of_ble_eq_true rfl) dX4_angleAnew_28

set_option maxHeartbeats 4000000 in
set_option maxRecDepth 100000 in
/-- where(part, open, what) -/
theorem c_X4_where {C : WC} {l : Launch} (hfl : l.stackTraces = false) {ad : Nat → Nat} {B : BT} {E : Int × Nat} {F : Int × Nat × Nat} {S Y : Nat → Int → Int} {g : Int → Int} {R : va_W} {p o x : Int} (hI : MI Y) (hF : FC F Y) (hR : LT ad C E Y R) (hG : SI Y g) (hp : Rg p) (ho : Rg o) (hx : Rg x)  : MX C l yX4_where cX4_where 5 (some .int) 4 6 40 [.ref (ad 4), vi p, vi o, vi x] (WW C ad B E F S Y g R) (po ((0 ≤ p ∧ p < Y 10 0) ∧ ((0 ≤ o ∧ o ≤ 180) ∧ 0 ≤ x ∧ x ≤ 2)) (if x = 0 then riseF Y p o else if x = 1 then lowF Y p o else highF Y p o) Y (fun Z h => WW C ad B E F Z Y h R)) (px3 (0 ≤ p ∧ p < Y 10 0) ((0 ≤ o ∧ o ≤ 180) ∧ 0 ≤ x ∧ x ≤ 2) True "java/lang/IndexOutOfBoundsException" "java/lang/IllegalArgumentException" "java/lang/IllegalArgumentException" (fun Z => WW C ad B E F Z Y g R)) := by
  refine mx_of (by decide +kernel) (Nat.le_of_ble_eq_true rfl) hfl (fun K Q X r rx => ?_)
  have X : Cx C l "Springleaf" cX4_where 5 4 6 40 K := X
  have I3 := hI.1
  have I10 := hI.2.2.1
  have I12 := hI.2.2.2.2.1
  obtain ⟨⟨F1, F2⟩, F3⟩ := id hF
  obtain ⟨p1, p2⟩ := hp
  obtain ⟨o1, o2⟩ := ho
  obtain ⟨x1, x2⟩ := hx
  show G C K Q 0 0 0 [(0, .ref (ad 4)), (1, vi p), (2, vi o), (3, vi x)] [] (WW C ad B E F S Y g R)
  refine g_aload_n (t := 1) X dX4_where_0 0 rfl rfl ?_
  refine g_iload_n (t := 2) X dX4_where_1 1 rfl rfl ?_
  refine gx_callV (t := 5) (mc := 1) (ms := 6) (rest := []) X mt_X4_requirePart q3_50 q3_52 qs_14 4 WW_4 rfl (c_X4_requirePart hfl hI ⟨by omega, by omega⟩) (by decide) (Nat.le_of_ble_eq_true rfl) (Nat.le_of_ble_eq_true rfl) (Nat.le_of_ble_eq_true rfl) rfl rfl dX4_where_2 rfl (k_ck (fun h_2 => ?_)) (k_cx (fun h_2 => g_prop X rx (Nat.le_of_ble_eq_true rfl) (Nat.le_of_ble_eq_true rfl) ⟨⟨S, rfl⟩, Or.inl ⟨rfl, by omega⟩⟩))
  refine g_iload_n (t := 6) X dX4_where_5 2 rfl rfl ?_
  refine gx_callS (t := 9) (mc := 1) (ms := 6) (rest := []) X mt_X4_requireOpen q3_24 q3_25 (c_X4_requireOpen hfl ⟨by omega, by omega⟩) (by decide) (Nat.le_of_ble_eq_true rfl) (Nat.le_of_ble_eq_true rfl) (Nat.le_of_ble_eq_true rfl) rfl rfl dX4_where_6 rfl (k_ck (fun h_6 => ?_)) (k_cx (fun h_6 => g_prop X rx (Nat.le_of_ble_eq_true rfl) (Nat.le_of_ble_eq_true rfl) ⟨⟨S, rfl⟩, Or.inr (Or.inl ⟨rfl, by omega, by omega⟩)⟩))
  refine g_iload_n (t := 10) X dX4_where_9 3 rfl rfl ?_
  refine gx_callS (t := 13) (mc := 1) (ms := 6) (rest := []) X mt_X4_requireWhat q3_55 q3_56 (c_X4_requireWhat hfl ⟨by omega, by omega⟩) (by decide) (Nat.le_of_ble_eq_true rfl) (Nat.le_of_ble_eq_true rfl) (Nat.le_of_ble_eq_true rfl) rfl rfl dX4_where_10 rfl (k_ck (fun h_10 => ?_)) (k_cx (fun h_10 => g_prop X rx (Nat.le_of_ble_eq_true rfl) (Nat.le_of_ble_eq_true rfl) ⟨⟨S, rfl⟩, Or.inr (Or.inl ⟨rfl, by omega, by omega⟩)⟩))
  refine g_aload_n (t := 14) X dX4_where_13 0 rfl rfl ?_
  refine g_iload_n (t := 15) X dX4_where_14 2 rfl rfl ?_
  refine g_callV (t := 18) (mc := 0) (ms := 0) (rest := []) X mt_X4_openTo q1_206 q1_208 qs_3 4 WW_4 rfl (c_X4_openTo (o := o) hfl hI hF (by omega) (by omega)) (by decide) (Nat.le_of_ble_eq_true rfl) (Nat.le_of_ble_eq_true rfl) (Nat.le_of_ble_eq_true rfl) rfl rfl dX4_where_15 rfl (k_exn (fun Z15 hZ15 => ?_))
  refine g_aload_n (t := 19) X dX4_where_18 0 rfl rfl ?_
  refine getf_X4 (t := 22) X 1 (by decide) q1_187 rfl rfl dX4_where_19 rfl ?_
  refine g_iload_n (t := 23) X dX4_where_22 1 rfl rfl ?_
  obtain ⟨cap_23, f_23, hc_23, ht_23, hf_23⟩ := hR (by omega)
  refine g_callV (t := 26) (mc := 0) (ms := 0) (rest := []) X mt_Jx4a65c_get_915e3 q1_214 q1_215 q1_216 2 WW_2 rfl (c_Jx4a65c_get_915e3 (E := E) hfl 2 WW_2 _ (WW_t ht_23) (by omega) (by omega) (by omega) (hf_23 p (by omega) (by omega)) (by omega) (by omega)) (by decide) (Nat.le_of_ble_eq_true rfl) (Nat.le_of_ble_eq_true rfl) (Nat.le_of_ble_eq_true rfl) rfl rfl dX4_where_23 rfl (k_rv ?_)
  refine g_castS (t := 29) X _ (WW_p (p := p) (by omega) (by omega)) rfl q2_5 dX4_where_26 rfl ?_
  refine g_astore (t := 31) (lv1 := [(4, .ref (pA ad p)), (0, .ref (ad 4)), (1, vi p), (2, vi o), (3, vi x)]) X dX4_where_29 (by decide) rfl rfl ?_
  have r0 := rise_rng hI h_2.1 h_2.2 h_6.1 h_6.2
  have r1 := low_rng hI h_2.1 h_2.2 h_6.1 h_6.2
  have r2 := high_rng hI h_2.1 h_2.2 h_6.1 h_6.2
  refine g_iload_n (t := 32) X dX4_where_31 4 rfl rfl ?_
  refine g_if_ne (t := 41) (u := 35) X dX4_where_32 (by decide) rfl ⟨by omega, by omega⟩ (fun c_32 => ?_) (fun c_32 => ?_)
  · refine g_iload_n (t := 42) X dX4_where_41 4 rfl rfl ?_
    refine g_iconst (t := 43) X dX4_where_42 rfl ?_
    refine g_icmp_ne (t := 54) (u := 46) X dX4_where_43 (by decide) rfl ⟨by omega, by omega⟩ ⟨by omega, by omega⟩ (fun c_43 => ?_) (fun c_43 => ?_)
    · refine g_aload (t := 56) X dX4_where_54 0 rfl rfl ?_
      refine g_callV (t := 59) (mc := 0) (ms := 0) (rest := []) X mt_X3_spanEnd q3_61 q2_24 q2_25 _ (WW_p (p := p) (by omega) (by omega)) rfl (c_X3_spanEnd (p := p) (o := o) hfl hI (by omega) (by omega) hZ15 (by omega) (by omega)) (by decide) (Nat.le_of_ble_eq_true rfl) (Nat.le_of_ble_eq_true rfl) (Nat.le_of_ble_eq_true rfl) rfl rfl dX4_where_56 rfl (k_rv ?_)
      exact g_iret X r ⟨⟨h_2, h_6, h_10⟩, Z15, g, hG, by first | rw [if_pos (by omega)] | rw [if_neg (by omega), if_pos (by omega)] | rw [if_neg (by omega), if_neg (by omega)], rfl⟩ (Nat.le_of_ble_eq_true rfl) (Nat.le_of_ble_eq_true rfl) dX4_where_59
    · refine g_aload (t := 48) X dX4_where_46 0 rfl rfl ?_
      refine g_callV (t := 51) (mc := 0) (ms := 0) (rest := []) X mt_X3_spanStart q3_60 q2_15 q2_16 _ (WW_p (p := p) (by omega) (by omega)) rfl (c_X3_spanStart (p := p) (o := o) hfl hI (by omega) (by omega) hZ15 (by omega) (by omega)) (by decide) (Nat.le_of_ble_eq_true rfl) (Nat.le_of_ble_eq_true rfl) (Nat.le_of_ble_eq_true rfl) rfl rfl dX4_where_48 rfl (k_rv ?_)
      refine g_goto (t := 59) X dX4_where_51 (by decide) ?_
      exact g_iret X r ⟨⟨h_2, h_6, h_10⟩, Z15, g, hG, by first | rw [if_pos (by omega)] | rw [if_neg (by omega), if_pos (by omega)] | rw [if_neg (by omega), if_neg (by omega)], rfl⟩ (Nat.le_of_ble_eq_true rfl) (Nat.le_of_ble_eq_true rfl) dX4_where_59
  · refine g_aload (t := 37) X dX4_where_35 0 rfl rfl ?_
    refine g_callV (t := 40) (mc := 0) (ms := 0) (rest := []) X mt_X3_rise q3_59 q2_29 q2_30 _ (WW_p (p := p) (by omega) (by omega)) rfl (c_X3_rise (p := p) (o := o) hfl hI (by omega) (by omega) hZ15 (by omega) (by omega)) (by decide) (Nat.le_of_ble_eq_true rfl) (Nat.le_of_ble_eq_true rfl) (Nat.le_of_ble_eq_true rfl) rfl rfl dX4_where_37 rfl (k_rv ?_)
    exact g_iret X r ⟨⟨h_2, h_6, h_10⟩, Z15, g, hG, by first | rw [if_pos (by omega)] | rw [if_neg (by omega), if_pos (by omega)] | rw [if_neg (by omega), if_neg (by omega)], rfl⟩ (Nat.le_of_ble_eq_true rfl) (Nat.le_of_ble_eq_true rfl) dX4_where_40

set_option maxHeartbeats 4000000 in
set_option maxRecDepth 100000 in
/-- meet(part, other, open) -/
theorem c_X4_meet {C : WC} {l : Launch} (hfl : l.stackTraces = false) {ad : Nat → Nat} {B : BT} {E : Int × Nat} {F : Int × Nat × Nat} {S Y : Nat → Int → Int} {g : Int → Int} {R : va_W} {p q o : Int} (hI : MI Y) (hF : FC F Y) (hR : LT ad C E Y R) (hG : SI Y g) (hp : Rg p) (hq : Rg q) (ho : Rg o)  : MX C l yX4_meet cX4_meet 4 (some .boolean) 4 6 40 [.ref (ad 4), vi p, vi q, vi o] (WW C ad B E F S Y g R) (po (((0 ≤ p ∧ p < Y 10 0) ∧ 0 ≤ q ∧ q < Y 10 0) ∧ (0 ≤ o ∧ o ≤ 180)) (bF (meetF Y p q o)) Y (fun Z h => WW C ad B E F Z Y h R)) (px3 ((0 ≤ p ∧ p < Y 10 0) ∧ 0 ≤ q ∧ q < Y 10 0) (0 ≤ o ∧ o ≤ 180) True "java/lang/IndexOutOfBoundsException" "java/lang/IllegalArgumentException" "java/lang/IllegalArgumentException" (fun Z => WW C ad B E F Z Y g R)) := by
  refine mx_of (by decide +kernel) (Nat.le_of_ble_eq_true rfl) hfl (fun K Q X r rx => ?_)
  have X : Cx C l "Springleaf" cX4_meet 4 4 6 40 K := X
  have I3 := hI.1
  have I10 := hI.2.2.1
  have I12 := hI.2.2.2.2.1
  obtain ⟨⟨F1, F2⟩, F3⟩ := id hF
  obtain ⟨p1, p2⟩ := hp
  obtain ⟨q1, q2⟩ := hq
  obtain ⟨o1, o2⟩ := ho
  show G C K Q 0 0 0 [(0, .ref (ad 4)), (1, vi p), (2, vi q), (3, vi o)] [] (WW C ad B E F S Y g R)
  refine g_aload_n (t := 1) X dX4_meet_0 0 rfl rfl ?_
  refine g_iload_n (t := 2) X dX4_meet_1 1 rfl rfl ?_
  refine gx_callV (t := 5) (mc := 1) (ms := 6) (rest := []) X mt_X4_requirePart q3_50 q3_52 qs_14 4 WW_4 rfl (c_X4_requirePart hfl hI ⟨by omega, by omega⟩) (by decide) (Nat.le_of_ble_eq_true rfl) (Nat.le_of_ble_eq_true rfl) (Nat.le_of_ble_eq_true rfl) rfl rfl dX4_meet_2 rfl (k_ck (fun h_2 => ?_)) (k_cx (fun h_2 => g_prop X rx (Nat.le_of_ble_eq_true rfl) (Nat.le_of_ble_eq_true rfl) ⟨⟨S, rfl⟩, Or.inl ⟨rfl, by omega⟩⟩))
  refine g_aload_n (t := 6) X dX4_meet_5 0 rfl rfl ?_
  refine g_iload_n (t := 7) X dX4_meet_6 2 rfl rfl ?_
  refine gx_callV (t := 10) (mc := 1) (ms := 6) (rest := []) X mt_X4_requirePart q3_50 q3_52 qs_14 4 WW_4 rfl (c_X4_requirePart hfl hI ⟨by omega, by omega⟩) (by decide) (Nat.le_of_ble_eq_true rfl) (Nat.le_of_ble_eq_true rfl) (Nat.le_of_ble_eq_true rfl) rfl rfl dX4_meet_7 rfl (k_ck (fun h_7 => ?_)) (k_cx (fun h_7 => g_prop X rx (Nat.le_of_ble_eq_true rfl) (Nat.le_of_ble_eq_true rfl) ⟨⟨S, rfl⟩, Or.inl ⟨rfl, by omega⟩⟩))
  refine g_iload_n (t := 11) X dX4_meet_10 3 rfl rfl ?_
  refine gx_callS (t := 14) (mc := 1) (ms := 6) (rest := []) X mt_X4_requireOpen q3_24 q3_25 (c_X4_requireOpen hfl ⟨by omega, by omega⟩) (by decide) (Nat.le_of_ble_eq_true rfl) (Nat.le_of_ble_eq_true rfl) (Nat.le_of_ble_eq_true rfl) rfl rfl dX4_meet_11 rfl (k_ck (fun h_11 => ?_)) (k_cx (fun h_11 => g_prop X rx (Nat.le_of_ble_eq_true rfl) (Nat.le_of_ble_eq_true rfl) ⟨⟨S, rfl⟩, Or.inr (Or.inl ⟨rfl, by omega, by omega⟩)⟩))
  refine g_aload_n (t := 15) X dX4_meet_14 0 rfl rfl ?_
  refine g_iload_n (t := 16) X dX4_meet_15 3 rfl rfl ?_
  refine g_callV (t := 19) (mc := 0) (ms := 0) (rest := []) X mt_X4_openTo q1_206 q1_208 qs_3 4 WW_4 rfl (c_X4_openTo (o := o) hfl hI hF (by omega) (by omega)) (by decide) (Nat.le_of_ble_eq_true rfl) (Nat.le_of_ble_eq_true rfl) (Nat.le_of_ble_eq_true rfl) rfl rfl dX4_meet_16 rfl (k_exn (fun Z16 hZ16 => ?_))
  refine g_iload_n (t := 20) X dX4_meet_19 1 rfl rfl ?_
  refine g_iload_n (t := 21) X dX4_meet_20 2 rfl rfl ?_
  refine g_icmp_eq (t := 56) (u := 24) X dX4_meet_21 (by decide) rfl ⟨by omega, by omega⟩ ⟨by omega, by omega⟩ (fun c_21 => ?_) (fun c_21 => ?_)
  · refine g_iconst (t := 57) X dX4_meet_56 rfl ?_
    exact g_zret X r rfl ⟨⟨⟨h_2, h_7⟩, h_11⟩, Z16, g, hG, congrArg (fun z : Int => (some (vi z) : Option Value)) (bF_f (P := meetF Y p q o) (fun h => by obtain ⟨g1, g2⟩ := mt_iff.mp h; first | exact b_46 g2 | omega)), rfl⟩ (Nat.le_of_ble_eq_true rfl) (Nat.le_of_ble_eq_true rfl) dX4_meet_57
  · refine g_aload_n (t := 25) X dX4_meet_24 0 rfl rfl ?_
    refine getf_X4 (t := 28) X 1 (by decide) q1_187 rfl rfl dX4_meet_25 rfl ?_
    refine g_iload_n (t := 29) X dX4_meet_28 1 rfl rfl ?_
    obtain ⟨cap_29, f_29, hc_29, ht_29, hf_29⟩ := hR (by omega)
    refine g_callV (t := 32) (mc := 0) (ms := 0) (rest := []) X mt_Jx4a65c_get_915e3 q1_214 q1_215 q1_216 2 WW_2 rfl (c_Jx4a65c_get_915e3 (E := E) hfl 2 WW_2 _ (WW_t ht_29) (by omega) (by omega) (by omega) (hf_29 p (by omega) (by omega)) (by omega) (by omega)) (by decide) (Nat.le_of_ble_eq_true rfl) (Nat.le_of_ble_eq_true rfl) (Nat.le_of_ble_eq_true rfl) rfl rfl dX4_meet_29 rfl (k_rv ?_)
    refine g_castS (t := 35) X _ (WW_p (p := p) (by omega) (by omega)) rfl q2_5 dX4_meet_32 rfl ?_
    refine g_aload_n (t := 36) X dX4_meet_35 0 rfl rfl ?_
    refine getf_X4 (t := 39) X 1 (by decide) q1_187 rfl rfl dX4_meet_36 rfl ?_
    refine g_iload_n (t := 40) X dX4_meet_39 2 rfl rfl ?_
    obtain ⟨cap_40, f_40, hc_40, ht_40, hf_40⟩ := hR (by omega)
    refine g_callV (t := 43) (mc := 0) (ms := 0) (rest := [.ref (pA ad p)]) X mt_Jx4a65c_get_915e3 q1_214 q1_215 q1_216 2 WW_2 rfl (c_Jx4a65c_get_915e3 (E := E) hfl 2 WW_2 _ (WW_t ht_40) (by omega) (by omega) (by omega) (hf_40 q (by omega) (by omega)) (by omega) (by omega)) (by decide) (Nat.le_of_ble_eq_true rfl) (Nat.le_of_ble_eq_true rfl) (Nat.le_of_ble_eq_true rfl) rfl rfl dX4_meet_40 rfl (k_rv ?_)
    refine g_castS (t := 46) X _ (WW_p (p := q) (by omega) (by omega)) rfl q2_5 dX4_meet_43 rfl ?_
    refine g_callV (t := 49) (mc := 0) (ms := 0) (rest := []) X mt_X3_meets q2_6 q2_7 q2_8 _ (WW_p (p := p) (by omega) (by omega)) rfl (c_X3_meets (p := p) (q := q) (o := o) hfl hI (by omega) (by omega) (by omega) (by omega) hZ16 (by omega) (by omega)) (by decide) (Nat.le_of_ble_eq_true rfl) (Nat.le_of_ble_eq_true rfl) (Nat.le_of_ble_eq_true rfl) rfl rfl dX4_meet_46 rfl (k_rb (fun b_46 => ?_) (fun b_46 => ?_))
    · refine g_if_eq (t := 56) (u := 52) X dX4_meet_49 (by decide) rfl ⟨by omega, by omega⟩ (fun c => absurd c (by decide)) (fun _ => ?_)
      refine g_iconst (t := 53) X dX4_meet_52 rfl ?_
      refine g_goto (t := 57) X dX4_meet_53 (by decide) ?_
      exact g_zret X r rfl ⟨⟨⟨h_2, h_7⟩, h_11⟩, Z16, g, hG, congrArg (fun z : Int => (some (vi z) : Option Value)) (bF_t (P := meetF Y p q o) (mt_iff.mpr ⟨by omega, b_46⟩)), rfl⟩ (Nat.le_of_ble_eq_true rfl) (Nat.le_of_ble_eq_true rfl) dX4_meet_57
    · refine g_if_eq (t := 56) (u := 52) X dX4_meet_49 (by decide) rfl ⟨by omega, by omega⟩ (fun _ => ?_) (fun c => absurd c (by decide))
      refine g_iconst (t := 57) X dX4_meet_56 rfl ?_
      exact g_zret X r rfl ⟨⟨⟨h_2, h_7⟩, h_11⟩, Z16, g, hG, congrArg (fun z : Int => (some (vi z) : Option Value)) (bF_f (P := meetF Y p q o) (fun h => by obtain ⟨g1, g2⟩ := mt_iff.mp h; first | exact b_46 g2 | omega)), rfl⟩ (Nat.le_of_ble_eq_true rfl) (Nat.le_of_ble_eq_true rfl) dX4_meet_57

set_option maxHeartbeats 4000000 in
set_option maxRecDepth 100000 in
/-- sheets() -/
theorem c_X4_sheets {C : WC} {l : Launch} (hfl : l.stackTraces = false) {ad : Nat → Nat} {B : BT} {E : Int × Nat} {F : Int × Nat × Nat} {S Y : Nat → Int → Int} {g : Int → Int} {R : va_W} (V : Nat → Int → Int) (hI : MI Y) (hF : FC F Y) (hR : LT ad C E Y R) (hG : SI Y g) : MM C l yX4_sheets cX4_sheets 1 (some .int) 8 0 0 [.ref (ad 4)] (WW C ad B E F S Y g R) (po True (layF Y V 19 0) Y (fun Z h => WW C ad B E F Z Y h R)) := by
  refine mm_of (by decide +kernel) (Nat.le_of_ble_eq_true rfl) hfl (fun K Q X r => ?_)
  have X : Cx C l "Springleaf" cX4_sheets 1 8 0 0 K := X
  have I3 := hI.1
  have I10 := hI.2.2.1
  have I12 := hI.2.2.2.2.1
  show G C K Q 0 0 0 [(0, .ref (ad 4))] [] (WW C ad B E F S Y g R)
  refine g_aload_n (t := 1) X dX4_sheets_0 0 rfl rfl ?_
  refine g_callV (t := 4) (mc := 0) (ms := 0) (rest := []) X mt_X4_layAllParts q2_39 q2_41 qs_5 4 WW_4 rfl (c_X4_layAllParts hfl V hI hF hR) (by decide) (Nat.le_of_ble_eq_true rfl) (Nat.le_of_ble_eq_true rfl) (Nat.le_of_ble_eq_true rfl) rfl rfl dX4_sheets_1 rfl (k_exn (fun Z9 hD9 => ?_))
  refine g_aload_n (t := 5) X dX4_sheets_4 0 rfl rfl ?_
  refine getf_X4 (t := 8) (v := vi (Z9 9 0)) X 4 (by decide) q1_190 rfl rfl dX4_sheets_5 rfl ?_
  rw [hD9.1]
  exact g_iret X r ⟨trivial, Z9, g, hG, rfl, rfl⟩ (Nat.le_of_ble_eq_true rfl) (Nat.le_of_ble_eq_true rfl) dX4_sheets_8

set_option maxHeartbeats 4000000 in
set_option maxRecDepth 100000 in
/-- laid(part, what) -/
theorem c_X4_laid {C : WC} {l : Launch} (hfl : l.stackTraces = false) {ad : Nat → Nat} {B : BT} {E : Int × Nat} {F : Int × Nat × Nat} {S Y : Nat → Int → Int} {g : Int → Int} {R : va_W} {p x : Int} (V : Nat → Int → Int) (hI : MI Y) (hF : FC F Y) (hR : LT ad C E Y R) (hG : SI Y g) (hp : Rg p) (hx : Rg x)  : MX C l yX4_laid cX4_laid 4 (some .int) 8 6 40 [.ref (ad 4), vi p, vi x] (WW C ad B E F S Y g R) (po ((0 ≤ p ∧ p < Y 10 0) ∧ (0 ≤ x ∧ x ≤ 2)) (if x = 0 then layF Y V 20 p else if x = 1 then layF Y V 21 p else layF Y V 22 p) Y (fun Z h => WW C ad B E F Z Y h R)) (px3 (0 ≤ p ∧ p < Y 10 0) (0 ≤ x ∧ x ≤ 2) True "java/lang/IndexOutOfBoundsException" "java/lang/IllegalArgumentException" "java/lang/IllegalArgumentException" (fun Z => WW C ad B E F Z Y g R)) := by
  refine mx_of (by decide +kernel) (Nat.le_of_ble_eq_true rfl) hfl (fun K Q X r rx => ?_)
  have X : Cx C l "Springleaf" cX4_laid 4 8 6 40 K := X
  have I3 := hI.1
  have I10 := hI.2.2.1
  have I12 := hI.2.2.2.2.1
  obtain ⟨⟨F1, F2⟩, F3⟩ := id hF
  obtain ⟨p1, p2⟩ := hp
  obtain ⟨x1, x2⟩ := hx
  show G C K Q 0 0 0 [(0, .ref (ad 4)), (1, vi p), (2, vi x)] [] (WW C ad B E F S Y g R)
  refine g_aload_n (t := 1) X dX4_laid_0 0 rfl rfl ?_
  refine g_iload_n (t := 2) X dX4_laid_1 1 rfl rfl ?_
  refine gx_callV (t := 5) (mc := 1) (ms := 6) (rest := []) X mt_X4_requirePart q3_50 q3_52 qs_14 4 WW_4 rfl (c_X4_requirePart hfl hI ⟨by omega, by omega⟩) (by decide) (Nat.le_of_ble_eq_true rfl) (Nat.le_of_ble_eq_true rfl) (Nat.le_of_ble_eq_true rfl) rfl rfl dX4_laid_2 rfl (k_ck (fun h_2 => ?_)) (k_cx (fun h_2 => g_prop X rx (Nat.le_of_ble_eq_true rfl) (Nat.le_of_ble_eq_true rfl) ⟨⟨S, rfl⟩, Or.inl ⟨rfl, by omega⟩⟩))
  refine g_iload_n (t := 6) X dX4_laid_5 2 rfl rfl ?_
  refine gx_callS (t := 9) (mc := 1) (ms := 6) (rest := []) X mt_X4_requireWhat q3_55 q3_56 (c_X4_requireWhat hfl ⟨by omega, by omega⟩) (by decide) (Nat.le_of_ble_eq_true rfl) (Nat.le_of_ble_eq_true rfl) (Nat.le_of_ble_eq_true rfl) rfl rfl dX4_laid_6 rfl (k_ck (fun h_6 => ?_)) (k_cx (fun h_6 => g_prop X rx (Nat.le_of_ble_eq_true rfl) (Nat.le_of_ble_eq_true rfl) ⟨⟨S, rfl⟩, Or.inr (Or.inl ⟨rfl, by omega, by omega⟩)⟩))
  refine g_aload_n (t := 10) X dX4_laid_9 0 rfl rfl ?_
  refine g_callV (t := 13) (mc := 0) (ms := 0) (rest := []) X mt_X4_layAllParts q2_39 q2_41 qs_5 4 WW_4 rfl (c_X4_layAllParts hfl V hI hF hR) (by decide) (Nat.le_of_ble_eq_true rfl) (Nat.le_of_ble_eq_true rfl) (Nat.le_of_ble_eq_true rfl) rfl rfl dX4_laid_10 rfl (k_exn (fun Z9 hD9 => ?_))
  refine g_aload_n (t := 14) X dX4_laid_13 0 rfl rfl ?_
  refine getf_X4 (t := 17) X 1 (by decide) q1_187 rfl rfl dX4_laid_14 rfl ?_
  refine g_iload_n (t := 18) X dX4_laid_17 1 rfl rfl ?_
  obtain ⟨cap_18, f_18, hc_18, ht_18, hf_18⟩ := hR (by omega)
  refine g_callV (t := 21) (mc := 0) (ms := 0) (rest := []) X mt_Jx4a65c_get_915e3 q1_214 q1_215 q1_216 2 WW_2 rfl (c_Jx4a65c_get_915e3 (E := E) hfl 2 WW_2 _ (WW_t ht_18) (by omega) (by omega) (by omega) (hf_18 p (by omega) (by omega)) (by omega) (by omega)) (by decide) (Nat.le_of_ble_eq_true rfl) (Nat.le_of_ble_eq_true rfl) (Nat.le_of_ble_eq_true rfl) rfl rfl dX4_laid_18 rfl (k_rv ?_)
  refine g_castS (t := 24) X _ (WW_p (p := p) (by omega) (by omega)) rfl q2_5 dX4_laid_21 rfl ?_
  refine g_astore_n (t := 25) (lv1 := [(3, .ref (pA ad p)), (0, .ref (ad 4)), (1, vi p), (2, vi x)]) X dX4_laid_24 (by decide) rfl rfl ?_
  refine g_iload_n (t := 26) X dX4_laid_25 3 rfl rfl ?_
  refine g_if_ne (t := 34) (u := 29) X dX4_laid_26 (by decide) rfl ⟨by omega, by omega⟩ (fun c_26 => ?_) (fun c_26 => ?_)
  · refine g_iload_n (t := 35) X dX4_laid_34 3 rfl rfl ?_
    refine g_iconst (t := 36) X dX4_laid_35 rfl ?_
    refine g_icmp_ne (t := 46) (u := 39) X dX4_laid_36 (by decide) rfl ⟨by omega, by omega⟩ ⟨by omega, by omega⟩ (fun c_36 => ?_) (fun c_36 => ?_)
    · refine g_aload_n (t := 47) X dX4_laid_46 0 rfl rfl ?_
      refine g_getf (t := 50) (v := vi (Z9 6 p)) X inX3 _ (WW_p (p := p) (by omega) (by omega)) rfl 9 (by decide) q2_229 rfl rfl dX4_laid_47 rfl ?_
      rw [(hD9.2 p (by omega) (by omega)).2.2]
      exact g_iret X r ⟨⟨h_2, h_6⟩, Z9, g, hG, by first | rw [if_pos (by omega)] | rw [if_neg (by omega), if_pos (by omega)] | rw [if_neg (by omega), if_neg (by omega)], rfl⟩ (Nat.le_of_ble_eq_true rfl) (Nat.le_of_ble_eq_true rfl) dX4_laid_50
    · refine g_aload_n (t := 40) X dX4_laid_39 0 rfl rfl ?_
      refine g_getf (t := 43) (v := vi (Z9 5 p)) X inX3 _ (WW_p (p := p) (by omega) (by omega)) rfl 8 (by decide) q2_228 rfl rfl dX4_laid_40 rfl ?_
      rw [(hD9.2 p (by omega) (by omega)).2.1]
      refine g_goto (t := 50) X dX4_laid_43 (by decide) ?_
      exact g_iret X r ⟨⟨h_2, h_6⟩, Z9, g, hG, by first | rw [if_pos (by omega)] | rw [if_neg (by omega), if_pos (by omega)] | rw [if_neg (by omega), if_neg (by omega)], rfl⟩ (Nat.le_of_ble_eq_true rfl) (Nat.le_of_ble_eq_true rfl) dX4_laid_50
  · refine g_aload_n (t := 30) X dX4_laid_29 0 rfl rfl ?_
    refine g_getf (t := 33) (v := vi (Z9 4 p)) X inX3 _ (WW_p (p := p) (by omega) (by omega)) rfl 7 (by decide) q2_227 rfl rfl dX4_laid_30 rfl ?_
    rw [(hD9.2 p (by omega) (by omega)).1]
    exact g_iret X r ⟨⟨h_2, h_6⟩, Z9, g, hG, by first | rw [if_pos (by omega)] | rw [if_neg (by omega), if_pos (by omega)] | rw [if_neg (by omega), if_neg (by omega)], rfl⟩ (Nat.le_of_ble_eq_true rfl) (Nat.le_of_ble_eq_true rfl) dX4_laid_33

set_option maxHeartbeats 4000000 in
set_option maxRecDepth 100000 in
/-- glue(part) -/
theorem c_X4_glue {C : WC} {l : Launch} (hfl : l.stackTraces = false) {ad : Nat → Nat} {B : BT} {E : Int × Nat} {F : Int × Nat × Nat} {S Y : Nat → Int → Int} {g : Int → Int} {R : va_W} {p : Int} (hI : MI Y) (hF : FC F Y) (hR : LT ad C E Y R) (hG : SI Y g) (hp : Rg p)  : MX C l yX4_glue cX4_glue 3 (some .int) 6 6 40 [.ref (ad 4), vi p] (WW C ad B E F S Y g R) (po ((0 ≤ p ∧ p < Y 10 0) ∧ (canF Y p)) (Y 12 0 + 1) (u2 (u2 Y 11 (Y 12 0) p) 12 0 (Y 12 0 + 1)) (fun Z h => WW C ad B E F Z (u2 (u2 Y 11 (Y 12 0) p) 12 0 (Y 12 0 + 1)) h R)) (px3 (0 ≤ p ∧ p < Y 10 0) (canF Y p) True "java/lang/IndexOutOfBoundsException" "java/lang/IllegalStateException" "java/lang/IllegalStateException" (fun Z => WW C ad B E F Z Y g R)) := by
  refine mx_of (by decide +kernel) (Nat.le_of_ble_eq_true rfl) hfl (fun K Q X r rx => ?_)
  have X : Cx C l "Springleaf" cX4_glue 3 6 6 40 K := X
  have I3 := hI.1
  have I10 := hI.2.2.1
  have I12 := hI.2.2.2.2.1
  obtain ⟨⟨F1, F2⟩, F3⟩ := id hF
  obtain ⟨p1, p2⟩ := hp
  show G C K Q 0 0 0 [(0, .ref (ad 4)), (1, vi p)] [] (WW C ad B E F S Y g R)
  refine g_aload_n (t := 1) X dX4_glue_0 0 rfl rfl ?_
  refine g_iload_n (t := 2) X dX4_glue_1 1 rfl rfl ?_
  refine gx_callV (t := 5) (mc := 1) (ms := 6) (rest := []) X mt_X4_requirePart q3_50 q3_52 qs_14 4 WW_4 rfl (c_X4_requirePart hfl hI ⟨by omega, by omega⟩) (by decide) (Nat.le_of_ble_eq_true rfl) (Nat.le_of_ble_eq_true rfl) (Nat.le_of_ble_eq_true rfl) rfl rfl dX4_glue_2 rfl (k_ck (fun h_2 => ?_)) (k_cx (fun h_2 => g_prop X rx (Nat.le_of_ble_eq_true rfl) (Nat.le_of_ble_eq_true rfl) ⟨⟨S, rfl⟩, Or.inl ⟨rfl, by omega⟩⟩))
  have hst := hG.step hI h_2.1 h_2.2
  have hgr := rng_g hI hG h_2.1 h_2.2
  refine g_aload_n (t := 6) X dX4_glue_5 0 rfl rfl ?_
  refine getf_X4 (t := 9) X 1 (by decide) q1_187 rfl rfl dX4_glue_6 rfl ?_
  refine g_iload_n (t := 10) X dX4_glue_9 1 rfl rfl ?_
  obtain ⟨cap_10, f_10, hc_10, ht_10, hf_10⟩ := hR (by omega)
  refine g_callV (t := 13) (mc := 0) (ms := 0) (rest := []) X mt_Jx4a65c_get_915e3 q1_214 q1_215 q1_216 2 WW_2 rfl (c_Jx4a65c_get_915e3 (E := E) hfl 2 WW_2 _ (WW_t ht_10) (by omega) (by omega) (by omega) (hf_10 p (by omega) (by omega)) (by omega) (by omega)) (by decide) (Nat.le_of_ble_eq_true rfl) (Nat.le_of_ble_eq_true rfl) (Nat.le_of_ble_eq_true rfl) rfl rfl dX4_glue_10 rfl (k_rv ?_)
  refine g_castS (t := 16) X _ (WW_p (p := p) (by omega) (by omega)) rfl q2_5 dX4_glue_13 rfl ?_
  refine g_astore_n (t := 17) (lv1 := [(2, .ref (pA ad p)), (0, .ref (ad 4)), (1, vi p)]) X dX4_glue_16 (by decide) rfl rfl ?_
  refine g_aload_n (t := 18) X dX4_glue_17 0 rfl rfl ?_
  have hg_18 := rng_g hI hG (p := p) (by omega) (by omega)
  refine g_callV (t := 21) (mc := 0) (ms := 0) (rest := []) X mt_X3_isGlued q3_83 q3_84 q3_85 _ (WW_p (p := p) (by omega) (by omega)) rfl (c_X3_isGlued (p := p) hfl hI (by omega) (by omega) ⟨by omega, by omega⟩) (by decide) (Nat.le_of_ble_eq_true rfl) (Nat.le_of_ble_eq_true rfl) (Nat.le_of_ble_eq_true rfl) rfl rfl dX4_glue_18 rfl (k_rb (fun b_18 => ?_) (fun b_18 => ?_))
  · refine g_if_eq (t := 34) (u := 24) X dX4_glue_21 (by decide) rfl ⟨by omega, by omega⟩ (fun c => absurd c (by decide)) (fun _ => ?_)
    exact g_throw X rx (is := 132) (text := "the part is glued") rfl (by decide +kernel) q2_183 q1_22 (List.mem_of_getElem? (i := 9) rfl) tx_S dX4_glue_24 dX4_glue_27 dX4_glue_28 dX4_glue_30 dX4_glue_33 (Nat.le_of_ble_eq_true rfl) (by decide) (Nat.le_of_ble_eq_true rfl) (Nat.le_of_ble_eq_true rfl) (Nat.le_of_ble_eq_true rfl) (Nat.le_of_ble_eq_true rfl) ⟨⟨S, rfl⟩, Or.inr (Or.inl ⟨rfl, by omega, fun h => by have h8 := h.2.1; omega⟩)⟩
  · refine g_if_eq (t := 34) (u := 24) X dX4_glue_21 (by decide) rfl ⟨by omega, by omega⟩ (fun _ => ?_) (fun c => absurd c (by decide))
    refine g_aload_n (t := 35) X dX4_glue_34 1 rfl rfl ?_
    refine g_aload_n (t := 36) X dX4_glue_35 0 rfl rfl ?_
    refine g_callV (t := 39) (mc := 0) (ms := 0) (rest := []) X mt_X4_isStartCovered q3_88 q3_90 qs_15 4 WW_4 rfl (c_X4_isStartCovered (p := p) hfl hI hF hR hG (by omega) (by omega)) (by decide) (Nat.le_of_ble_eq_true rfl) (Nat.le_of_ble_eq_true rfl) (Nat.le_of_ble_eq_true rfl) rfl rfl dX4_glue_36 rfl (k_rbz (fun Z36 b_36 => ?_) (fun Z36 b_36 => ?_))
    · refine g_if_ne (t := 50) (u := 42) X dX4_glue_39 (by decide) rfl ⟨by omega, by omega⟩ (fun _ => ?_) (fun c => absurd c (by decide))
      exact g_throw X rx (is := 140) (text := "the part cannot be glued") rfl (by decide +kernel) q2_183 q1_22 (List.mem_of_getElem? (i := 10) rfl) tx_S dX4_glue_50 dX4_glue_53 dX4_glue_54 dX4_glue_56 dX4_glue_59 (Nat.le_of_ble_eq_true rfl) (by decide) (Nat.le_of_ble_eq_true rfl) (Nat.le_of_ble_eq_true rfl) (Nat.le_of_ble_eq_true rfl) (Nat.le_of_ble_eq_true rfl) ⟨⟨Z36, rfl⟩, Or.inr (Or.inl ⟨rfl, by omega, fun h => by first | exact b_44 h.1 | (obtain ⟨k, k0, k1, hc⟩ := b_36; exact h.2.2 k k0 k1 hc)⟩)⟩
    · refine g_if_ne (t := 50) (u := 42) X dX4_glue_39 (by decide) rfl ⟨by omega, by omega⟩ (fun c => absurd c (by decide)) (fun _ => ?_)
      refine g_aload_n (t := 43) X dX4_glue_42 1 rfl rfl ?_
      refine g_aload_n (t := 44) X dX4_glue_43 0 rfl rfl ?_
      refine g_callV (t := 47) (mc := 0) (ms := 0) (rest := []) X mt_X4_hasHold q3_96 q3_98 qs_16 4 WW_4 rfl (c_X4_hasHold (p := p) hfl hI hF hR hG (by omega) (by omega)) (by decide) (Nat.le_of_ble_eq_true rfl) (Nat.le_of_ble_eq_true rfl) (Nat.le_of_ble_eq_true rfl) rfl rfl dX4_glue_44 rfl (k_rb (fun b_44 => ?_) (fun b_44 => ?_))
      · refine g_if_ne (t := 60) (u := 50) X dX4_glue_47 (by decide) rfl ⟨by omega, by omega⟩ (fun _ => ?_) (fun c => absurd c (by decide))
        have hlt := glue_lt hI h_2.1 h_2.2 (by omega)
        have hS9 := hG.glue hI h_2.1 h_2.2 (by omega)
        refine g_aload_n (t := 61) X dX4_glue_60 0 rfl rfl ?_
        refine g_aload_n (t := 62) X dX4_glue_61 1 rfl rfl ?_
        refine getf_X4 (t := 65) (v := vi (Y 12 0)) X 3 (by decide) q1_189 rfl rfl dX4_glue_62 rfl ?_
        refine g_putf (t := 68) X inX3 tyX3 tyX3_ok nmX3 _ (WW_p (p := p) (by omega) (by omega)) rfl 6 (by decide) q2_226 rfl rfl rfl rfl rfl (Nat.le_of_ble_eq_true rfl) (WW_sp6 (p := p) (by omega) (by omega)) dX4_glue_65 rfl ?_
        refine g_aload_n (t := 69) X dX4_glue_68 1 rfl rfl ?_
        refine g_dup (t := 70) X dX4_glue_69 rfl rfl ?_
        refine getf_X4 (t := 73) (v := vi (Y 12 0)) X 3 (by decide) q1_189 rfl rfl dX4_glue_70 rfl ?_
        refine g_iconst (t := 74) X dX4_glue_73 rfl ?_
        refine g_iadd (t := 75) X dX4_glue_74 rfl ?_
        refine putf_X4 (t := 78) X 3 (by decide) q1_189 rfl rfl rfl WW_f_3 dX4_glue_75 rfl ?_
        refine g_aload_n (t := 79) X dX4_glue_78 1 rfl rfl ?_
        refine getf_X4 (t := 82) (v := vi ((Y 12 0) + 1)) X 3 (by decide) q1_189 rfl rfl dX4_glue_79 rfl ?_
        exact g_iret X r ⟨⟨h_2, ⟨b_44, by omega, fun k k0 k1 hc => b_36 ⟨k, k0, k1, hc⟩⟩⟩, Z36, uI g p (Y 12 0), hS9, rfl, rfl⟩ (Nat.le_of_ble_eq_true rfl) (Nat.le_of_ble_eq_true rfl) dX4_glue_82
      · refine g_if_ne (t := 60) (u := 50) X dX4_glue_47 (by decide) rfl ⟨by omega, by omega⟩ (fun c => absurd c (by decide)) (fun _ => ?_)
        exact g_throw X rx (is := 140) (text := "the part cannot be glued") rfl (by decide +kernel) q2_183 q1_22 (List.mem_of_getElem? (i := 10) rfl) tx_S dX4_glue_50 dX4_glue_53 dX4_glue_54 dX4_glue_56 dX4_glue_59 (Nat.le_of_ble_eq_true rfl) (by decide) (Nat.le_of_ble_eq_true rfl) (Nat.le_of_ble_eq_true rfl) (Nat.le_of_ble_eq_true rfl) (Nat.le_of_ble_eq_true rfl) ⟨⟨Z36, rfl⟩, Or.inr (Or.inl ⟨rfl, by omega, fun h => by first | exact b_44 h.1 | (obtain ⟨k, k0, k1, hc⟩ := b_36; exact h.2.2 k k0 k1 hc)⟩)⟩

set_option maxHeartbeats 4000000 in
set_option maxRecDepth 100000 in
/-- unglue() -/
theorem c_X4_unglue {C : WC} {l : Launch} (hfl : l.stackTraces = false) {ad : Nat → Nat} {B : BT} {E : Int × Nat} {F : Int × Nat × Nat} {S Y : Nat → Int → Int} {g : Int → Int} {R : va_W}  (hI : MI Y) (hF : FC F Y) (hR : LT ad C E Y R) (hG : SI Y g)   : MX C l yX4_unglue cX4_unglue 2 (some .int) 4 6 40 [.ref (ad 4)] (WW C ad B E F S Y g R) (po ((Y 12 0 ≠ 0)) (Y 11 (Y 12 0 - 1)) (u2 Y 12 0 (Y 12 0 - 1)) (fun Z h => WW C ad B E F Z (u2 Y 12 0 (Y 12 0 - 1)) h R)) (px3 (Y 12 0 ≠ 0) True True "java/lang/IllegalStateException" "java/lang/IllegalStateException" "java/lang/IllegalStateException" (fun Z => WW C ad B E F Z Y g R)) := by
  refine mx_of (by decide +kernel) (Nat.le_of_ble_eq_true rfl) hfl (fun K Q X r rx => ?_)
  have X : Cx C l "Springleaf" cX4_unglue 2 4 6 40 K := X
  have I3 := hI.1
  have I10 := hI.2.2.1
  have I12 := hI.2.2.2.2.1
  obtain ⟨⟨F1, F2⟩, F3⟩ := id hF
  show G C K Q 0 0 0 [(0, .ref (ad 4))] [] (WW C ad B E F S Y g R)
  refine g_aload_n (t := 1) X dX4_unglue_0 0 rfl rfl ?_
  refine getf_X4 (t := 4) (v := vi (Y 12 0)) X 3 (by decide) q1_189 rfl rfl dX4_unglue_1 rfl ?_
  refine g_if_ne (t := 17) (u := 7) X dX4_unglue_4 (by decide) rfl ⟨by omega, by omega⟩ (fun c_4 => ?_) (fun c_4 => ?_)
  · refine g_aload_n (t := 18) X dX4_unglue_17 0 rfl rfl ?_
    refine g_aload_n (t := 19) X dX4_unglue_18 0 rfl rfl ?_
    refine getf_X4 (t := 22) (v := vi (Y 12 0)) X 3 (by decide) q1_189 rfl rfl dX4_unglue_19 rfl ?_
    refine g_iconst (t := 23) X dX4_unglue_22 rfl ?_
    refine g_isub (t := 24) X dX4_unglue_23 rfl ?_
    refine g_callV (t := 27) (mc := 0) (ms := 0) (rest := []) X mt_X4_partGluedAt q3_109 q3_111 qs_17 4 WW_4 rfl (c_X4_partGluedAt hfl hI hF hR hG (by omega) (by omega)) (by decide) (Nat.le_of_ble_eq_true rfl) (Nat.le_of_ble_eq_true rfl) (Nat.le_of_ble_eq_true rfl) rfl rfl dX4_unglue_24 rfl (k_rv ?_)
    refine g_istore_n (t := 28) (lv1 := [(1, vi (ptF Y ((Y 12 0) - 1))), (0, .ref (ad 4))]) X dX4_unglue_27 (by decide) rfl rfl ?_
    refine g_aload_n (t := 29) X dX4_unglue_28 1 rfl rfl ?_
    refine g_aload_n (t := 30) X dX4_unglue_29 1 rfl rfl ?_
    refine getf_X4 (t := 33) (v := vi (Y 12 0)) X 3 (by decide) q1_189 rfl rfl dX4_unglue_30 rfl ?_
    refine g_iconst (t := 34) X dX4_unglue_33 rfl ?_
    refine g_isub (t := 35) X dX4_unglue_34 rfl ?_
    refine g_callV (t := 38) (mc := 0) (ms := 0) (rest := []) X mt_X4_unglueFrom q3_113 q3_115 qs_18 4 WW_4 rfl (c_X4_unglueFrom (k := (Y 12 0) - 1) hfl hI hF hR (fun r r0 r1 => rng_g hI hG r0 r1) (by omega) (by omega)) (by decide) (Nat.le_of_ble_eq_true rfl) (Nat.le_of_ble_eq_true rfl) (Nat.le_of_ble_eq_true rfl) rfl rfl dX4_unglue_35 rfl (k_ex (fun h9 hH9 => ?_))
    refine g_pop (t := 39) X dX4_unglue_38 rfl rfl ?_
    refine g_iload_n (t := 40) X dX4_unglue_39 0 rfl rfl ?_
    exact g_iret X r ⟨by omega, S, h9, hG.cut (by omega) (by omega) hH9, by rw [show ptF Y (Y 12 0 - 1) = Y 11 (Y 12 0 - 1) from if_pos ⟨by omega, by omega⟩], rfl⟩ (Nat.le_of_ble_eq_true rfl) (Nat.le_of_ble_eq_true rfl) dX4_unglue_40
  · exact g_throw X rx (is := 148) (text := "no part is glued") rfl (by decide +kernel) q2_183 q1_22 (List.mem_of_getElem? (i := 11) rfl) tx_S dX4_unglue_7 dX4_unglue_10 dX4_unglue_11 dX4_unglue_13 dX4_unglue_16 (Nat.le_of_ble_eq_true rfl) (by decide) (Nat.le_of_ble_eq_true rfl) (Nat.le_of_ble_eq_true rfl) (Nat.le_of_ble_eq_true rfl) (Nat.le_of_ble_eq_true rfl) ⟨⟨S, rfl⟩, Or.inl ⟨rfl, by omega⟩⟩

set_option maxHeartbeats 4000000 in
set_option maxRecDepth 100000 in
/-- glued(step) -/
theorem c_X4_glued {C : WC} {l : Launch} (hfl : l.stackTraces = false) {ad : Nat → Nat} {B : BT} {E : Int × Nat} {F : Int × Nat × Nat} {S Y : Nat → Int → Int} {g : Int → Int} {R : va_W} {x : Int} (hI : MI Y) (hF : FC F Y) (hR : LT ad C E Y R) (hG : SI Y g) (hx : Rg x)  : MX C l yX4_glued cX4_glued 2 (some .int) 4 6 40 [.ref (ad 4), vi x] (WW C ad B E F S Y g R) (po ((0 ≤ x)) (if x < Y 12 0 then Y 11 x else -1) Y (fun Z h => WW C ad B E F Z Y h R)) (px3 (0 ≤ x) True True "java/lang/IndexOutOfBoundsException" "java/lang/IndexOutOfBoundsException" "java/lang/IndexOutOfBoundsException" (fun Z => WW C ad B E F Z Y g R)) := by
  refine mx_of (by decide +kernel) (Nat.le_of_ble_eq_true rfl) hfl (fun K Q X r rx => ?_)
  have X : Cx C l "Springleaf" cX4_glued 2 4 6 40 K := X
  have I3 := hI.1
  have I10 := hI.2.2.1
  have I12 := hI.2.2.2.2.1
  obtain ⟨⟨F1, F2⟩, F3⟩ := id hF
  obtain ⟨x1, x2⟩ := hx
  show G C K Q 0 0 0 [(0, .ref (ad 4)), (1, vi x)] [] (WW C ad B E F S Y g R)
  refine g_iload_n (t := 1) X dX4_glued_0 1 rfl rfl ?_
  refine g_if_ge (t := 14) (u := 4) X dX4_glued_1 (by decide) rfl ⟨by omega, by omega⟩ (fun c_1 => ?_) (fun c_1 => ?_)
  · refine g_aload_n (t := 15) X dX4_glued_14 0 rfl rfl ?_
    refine g_iload_n (t := 16) X dX4_glued_15 1 rfl rfl ?_
    refine g_callV (t := 19) (mc := 0) (ms := 0) (rest := []) X mt_X4_partGluedAt q3_109 q3_111 qs_17 4 WW_4 rfl (c_X4_partGluedAt hfl hI hF hR hG (by omega) (by omega)) (by decide) (Nat.le_of_ble_eq_true rfl) (Nat.le_of_ble_eq_true rfl) (Nat.le_of_ble_eq_true rfl) rfl rfl dX4_glued_16 rfl (k_rv ?_)
    exact g_iret X r ⟨by omega, S, g, hG, by unfold ptF; congr 2; split <;> split <;> first | rfl | omega, rfl⟩ (Nat.le_of_ble_eq_true rfl) (Nat.le_of_ble_eq_true rfl) dX4_glued_19
  · exact g_throw X rx (is := 159) (text := "there is no such step") rfl (by decide +kernel) q2_97 q1_18 (List.mem_of_getElem? (i := 12) rfl) tx_I dX4_glued_4 dX4_glued_7 dX4_glued_8 dX4_glued_10 dX4_glued_13 (Nat.le_of_ble_eq_true rfl) (by decide) (Nat.le_of_ble_eq_true rfl) (Nat.le_of_ble_eq_true rfl) (Nat.le_of_ble_eq_true rfl) (Nat.le_of_ble_eq_true rfl) ⟨⟨S, rfl⟩, Or.inl ⟨rfl, by omega⟩⟩

set_option maxHeartbeats 4000000 in
set_option maxRecDepth 100000 in
/-- resize(part, length) -/
theorem c_X4_resize {C : WC} {l : Launch} (hfl : l.stackTraces = false) {ad : Nat → Nat} {B : BT} {E : Int × Nat} {F : Int × Nat × Nat} {S Y : Nat → Int → Int} {g : Int → Int} {R : va_W} {p x : Int} (hI : MI Y) (hF : FC F Y) (hR : LT ad C E Y R) (hG : SI Y g) (hp : Rg p) (hx : Rg x)  : MX C l yX4_resize cX4_resize 4 (some .int) 4 6 40 [.ref (ad 4), vi p, vi x] (WW C ad B E F S Y g R) (po ((0 ≤ p ∧ p < Y 10 0) ∧ (1 ≤ x ∧ x ≤ 30)) (cutN Y p) (u2 (u2 Y 6 p x) 12 0 (Y 12 0 - cutN Y p)) (fun Z h => WW C ad B E F Z (u2 (u2 Y 6 p x) 12 0 (Y 12 0 - cutN Y p)) h R)) (px3 (0 ≤ p ∧ p < Y 10 0) (1 ≤ x ∧ x ≤ 30) True "java/lang/IndexOutOfBoundsException" "java/lang/IllegalArgumentException" "java/lang/IllegalArgumentException" (fun Z => WW C ad B E F Z Y g R)) := by
  refine mx_of (by decide +kernel) (Nat.le_of_ble_eq_true rfl) hfl (fun K Q X r rx => ?_)
  have X : Cx C l "Springleaf" cX4_resize 4 4 6 40 K := X
  have I3 := hI.1
  have I10 := hI.2.2.1
  have I12 := hI.2.2.2.2.1
  obtain ⟨⟨F1, F2⟩, F3⟩ := id hF
  obtain ⟨p1, p2⟩ := hp
  obtain ⟨x1, x2⟩ := hx
  show G C K Q 0 0 0 [(0, .ref (ad 4)), (1, vi p), (2, vi x)] [] (WW C ad B E F S Y g R)
  refine g_aload_n (t := 1) X dX4_resize_0 0 rfl rfl ?_
  refine g_iload_n (t := 2) X dX4_resize_1 1 rfl rfl ?_
  refine gx_callV (t := 5) (mc := 1) (ms := 6) (rest := []) X mt_X4_requirePart q3_50 q3_52 qs_14 4 WW_4 rfl (c_X4_requirePart hfl hI ⟨by omega, by omega⟩) (by decide) (Nat.le_of_ble_eq_true rfl) (Nat.le_of_ble_eq_true rfl) (Nat.le_of_ble_eq_true rfl) rfl rfl dX4_resize_2 rfl (k_ck (fun h_2 => ?_)) (k_cx (fun h_2 => g_prop X rx (Nat.le_of_ble_eq_true rfl) (Nat.le_of_ble_eq_true rfl) ⟨⟨S, rfl⟩, Or.inl ⟨rfl, by omega⟩⟩))
  refine g_iload_n (t := 6) X dX4_resize_5 2 rfl rfl ?_
  refine gx_callS (t := 9) (mc := 1) (ms := 6) (rest := []) X mt_X4_requireLength q2_207 q2_208 (c_X4_requireLength hfl ⟨by omega, by omega⟩) (by decide) (Nat.le_of_ble_eq_true rfl) (Nat.le_of_ble_eq_true rfl) (Nat.le_of_ble_eq_true rfl) rfl rfl dX4_resize_6 rfl (k_ck (fun h_6 => ?_)) (k_cx (fun h_6 => g_prop X rx (Nat.le_of_ble_eq_true rfl) (Nat.le_of_ble_eq_true rfl) ⟨⟨S, rfl⟩, Or.inr (Or.inl ⟨rfl, by omega, by omega⟩)⟩))
  have hst := hG.step hI h_2.1 h_2.2
  have hgr := rng_g hI hG h_2.1 h_2.2
  refine g_aload_n (t := 10) X dX4_resize_9 0 rfl rfl ?_
  refine getf_X4 (t := 13) X 1 (by decide) q1_187 rfl rfl dX4_resize_10 rfl ?_
  refine g_iload_n (t := 14) X dX4_resize_13 1 rfl rfl ?_
  obtain ⟨cap_14, f_14, hc_14, ht_14, hf_14⟩ := hR (by omega)
  refine g_callV (t := 17) (mc := 0) (ms := 0) (rest := []) X mt_Jx4a65c_get_915e3 q1_214 q1_215 q1_216 2 WW_2 rfl (c_Jx4a65c_get_915e3 (E := E) hfl 2 WW_2 _ (WW_t ht_14) (by omega) (by omega) (by omega) (hf_14 p (by omega) (by omega)) (by omega) (by omega)) (by decide) (Nat.le_of_ble_eq_true rfl) (Nat.le_of_ble_eq_true rfl) (Nat.le_of_ble_eq_true rfl) rfl rfl dX4_resize_14 rfl (k_rv ?_)
  refine g_castS (t := 20) X _ (WW_p (p := p) h_2.1 h_2.2) rfl q2_5 dX4_resize_17 rfl ?_
  refine g_astore_n (t := 21) (lv1 := [(3, .ref (pA ad p)), (0, .ref (ad 4)), (1, vi p), (2, vi x)]) X dX4_resize_20 (by decide) rfl rfl ?_
  refine g_aload_n (t := 22) X dX4_resize_21 0 rfl rfl ?_
  refine g_iload_n (t := 23) X dX4_resize_22 3 rfl rfl ?_
  refine g_putf (t := 26) X inX3 tyX3 tyX3_ok nmX3 _ (WW_p (p := p) h_2.1 h_2.2) rfl 5 (by decide) q2_224 rfl rfl rfl rfl rfl (Nat.le_of_ble_eq_true rfl) (WW_sp5 (p := p) (by omega) (by omega)) dX4_resize_23 rfl ?_
  refine g_aload_n (t := 27) X dX4_resize_26 0 rfl rfl ?_
  refine g_callV (t := 30) (mc := 0) (ms := 0) (rest := []) X mt_X3_isGlued q3_83 q3_84 q3_85 _ (WW_p (p := p) h_2.1 h_2.2) rfl (c_X3_isGlued (Y := u2 Y 6 p x) (p := p) hfl (hI.len h_6.1 h_6.2) h_2.1 h_2.2 ⟨by omega, by omega⟩) (by decide) (Nat.le_of_ble_eq_true rfl) (Nat.le_of_ble_eq_true rfl) (Nat.le_of_ble_eq_true rfl) rfl rfl dX4_resize_27 rfl (k_rb (fun b_27 => ?_) (fun b_27 => ?_))
  · refine g_if_eq (t := 44) (u := 33) X dX4_resize_30 (by decide) rfl ⟨by omega, by omega⟩ (fun c => absurd c (by decide)) (fun _ => ?_)
    refine g_aload_n (t := 34) X dX4_resize_33 1 rfl rfl ?_
    refine g_aload_n (t := 35) X dX4_resize_34 0 rfl rfl ?_
    refine g_getf (t := 38) (v := vi (g p)) X inX3 _ (WW_p (Y := u2 Y 6 p x) (p := p) h_2.1 h_2.2) rfl 6 (by decide) q2_226 rfl rfl dX4_resize_35 rfl ?_
    refine g_callV (t := 41) (mc := 0) (ms := 0) (rest := []) X mt_X4_unglueFrom q3_113 q3_115 qs_18 4 WW_4 rfl (c_X4_unglueFrom (Y := u2 Y 6 p x) (k := g p) hfl (hI.len h_6.1 h_6.2) hF hR (fun r r0 r1 => rng_g hI hG r0 r1) (by omega) (by omega)) (by decide) (Nat.le_of_ble_eq_true rfl) (Nat.le_of_ble_eq_true rfl) (Nat.le_of_ble_eq_true rfl) rfl rfl dX4_resize_38 rfl (k_ex (fun h9 hH9 => ?_))
    refine g_goto (t := 45) X dX4_resize_41 (by decide) ?_
    exact g_iret X r (by
        have e9 : Y 12 0 - cutN Y p = g p := by unfold cutN; rw [if_neg (by omega)]; omega
        have e8 : cutN Y p = Y 12 0 - g p := by omega
        have hS9 : SI (u2 (u2 Y 6 p x) 12 0 (g p)) h9 := SI.cut (Y := u2 Y 6 p x) (g := g) hG (show 0 ≤ g p by omega) (show g p ≤ Y 12 0 by have := (hG p h_2.1 h_2.2).1; omega) hH9
        refine ⟨⟨h_2, h_6⟩, S, h9, ?_, by rw [e8]; rfl, ?_⟩
        · rw [e9]; exact hS9
        · rw [e9]) (Nat.le_of_ble_eq_true rfl) (Nat.le_of_ble_eq_true rfl) dX4_resize_45
  · refine g_if_eq (t := 44) (u := 33) X dX4_resize_30 (by decide) rfl ⟨by omega, by omega⟩ (fun _ => ?_) (fun c => absurd c (by decide))
    refine g_iconst (t := 45) X dX4_resize_44 rfl ?_
    exact g_iret X r (by
        have e9 : Y 12 0 - cutN Y p = Y 12 0 := by unfold cutN; rw [if_pos (by omega)]; omega
        have e8 : u2 (u2 Y 6 p x) 12 0 (Y 12 0 - cutN Y p) = u2 Y 6 p x := by rw [e9]; exact u2_same (Y := u2 Y 6 p x) 12 rfl
        refine ⟨⟨h_2, h_6⟩, S, g, ?_, by rw [show cutN Y p = 0 by unfold cutN; rw [if_pos (by omega)]], ?_⟩
        · rw [e8]; exact hG
        · rw [e8]) (Nat.le_of_ble_eq_true rfl) (Nat.le_of_ble_eq_true rfl) dX4_resize_45

theorem tell_rng {Y : Nat → Int → Int} (hI : MI Y) {f x : Int} (f0 : 0 ≤ f) (f1 : f < Y 3 0) (x0 : 0 ≤ x) : 0 ≤ tellF Y f x ∧ tellF Y f x < 128 := by
  have key : ∀ (n : Nat) (f x : Int), 0 ≤ f → f < Y 3 0 → 0 ≤ x → 0 ≤ tl Y n f x ∧ tl Y n f x < 128 := by
    intro n
    induction n with
    | zero => intro f x _ _ _; exact ⟨Int.le_refl 0, show (0 : Int) < 128 by decide⟩
    | succ n ih =>
      intro f x g0 g1 x0
      simp only [tl]
      split
      · have ho := hI.2.1 f (by omega) g1
        have hs := sg_rng Y f
        exact ih _ _ (by omega) (by omega) (by omega)
      · split
        · exact ch_rng hI g0 g1 x0 (by omega)
        · exact ⟨Int.le_refl 0, by decide⟩
  exact key 13 f x f0 f1 x0
set_option maxHeartbeats 4000000 in
set_option maxRecDepth 100000 in
/-- tells(fold, place) -/
theorem c_X4_tells {C : WC} {l : Launch} (hfl : l.stackTraces = false) {ad : Nat → Nat} {bv cap : Nat} {bt : Int → Int} {cnt ml : Int} {E : Int × Nat} {F : Int × Nat × Nat} {S Y : Nat → Int → Int} {g : Int → Int} {R : va_W} {f x : Int} (hI : MI Y) (hF : FC F Y) (hf : Rg f) (hx : Rg x) (c16 : 16 ≤ cap) (c3 : cap ≤ 300) (k0 : 0 ≤ cnt) (k1 : cnt ≤ cap) (hb : Lat cap bt) : MX C l yX4_tells cX4_tells 3 (some .char) 7 310 640 [.ref (ad 4), vi f, vi x] (WW C ad (bv, cap, bt, cnt, ml) E F S Y g R) (fun v w => ((0 ≤ f ∧ f < Y 3 0) ∧ 0 ≤ x) ∧ ∃ B : BT, BI B ∧ v = some (vi (tellF Y f x)) ∧ w = WW C ad B E F S Y g R) (px3 ((0 ≤ f ∧ f < Y 3 0) ∧ 0 ≤ x) True True "java/lang/IndexOutOfBoundsException" "java/lang/IndexOutOfBoundsException" "java/lang/IndexOutOfBoundsException" (fun Z => WW C ad (bv, cap, bt, cnt, ml) E F Z Y g R)) := by
  refine mx_of (by decide +kernel) (Nat.le_of_ble_eq_true rfl) hfl (fun K Q X r rx => ?_)
  have X : Cx C l "Springleaf" cX4_tells 3 7 310 640 K := X
  have I3 := hI.1
  have I10 := hI.2.2.1
  have I12 := hI.2.2.2.2.1
  obtain ⟨⟨F1, F2⟩, F3⟩ := id hF
  obtain ⟨f1, f2⟩ := hf
  obtain ⟨x1, x2⟩ := hx
  show G C K Q 0 0 0 [(0, .ref (ad 4)), (1, vi f), (2, vi x)] [] (WW C ad (bv, cap, bt, cnt, ml) E F S Y g R)
  refine g_aload_n (t := 1) X dX4_tells_0 0 rfl rfl ?_
  refine g_iload_n (t := 2) X dX4_tells_1 1 rfl rfl ?_
  refine gx_callV (t := 5) (mc := 1) (ms := 6) (rest := []) X mt_X4_requireFold q2_90 q2_92 qs_11 4 WW_4 rfl (c_X4_requireFold hfl hI ⟨by omega, by omega⟩) (by decide) (Nat.le_of_ble_eq_true rfl) (Nat.le_of_ble_eq_true rfl) (Nat.le_of_ble_eq_true rfl) rfl rfl dX4_tells_2 rfl (k_ck (fun h_2 => ?_)) (k_cx (fun h_2 => g_prop X rx (Nat.le_of_ble_eq_true rfl) (Nat.le_of_ble_eq_true rfl) ⟨⟨S, rfl⟩, Or.inl ⟨rfl, by omega⟩⟩))
  refine g_iload_n (t := 6) X dX4_tells_5 2 rfl rfl ?_
  refine g_if_ge (t := 19) (u := 9) X dX4_tells_6 (by decide) rfl ⟨by omega, by omega⟩ (fun c_6 => ?_) (fun c_6 => ?_)
  · refine g_aload_n (t := 20) X dX4_tells_19 0 rfl rfl ?_
    refine g_aload_n (t := 21) X dX4_tells_20 0 rfl rfl ?_
    refine getf_X4 (t := 24) X 0 (by decide) q1_186 rfl rfl dX4_tells_21 rfl ?_
    refine g_iload_n (t := 25) X dX4_tells_24 1 rfl rfl ?_
    refine g_callV (t := 28) (mc := 0) (ms := 0) (rest := [.ref (ad 4)]) X mt_Jx4a65c_get_915e3 q1_214 q1_215 q1_216 3 WW_3 rfl (c_Jx4a65c_get_915e3 (E := (F.1, F.2.1)) hfl 3 WW_3 5 WW_5 (by omega) (by omega) (by omega) (flF_at (i := f) (by omega) (by omega)) (by omega) (by omega)) (by decide) (Nat.le_of_ble_eq_true rfl) (Nat.le_of_ble_eq_true rfl) (Nat.le_of_ble_eq_true rfl) rfl rfl dX4_tells_25 rfl (k_rv ?_)
    refine g_castS (t := 31) X _ (WW_f (i := f) (by omega) (by omega)) rfl q1_96 dX4_tells_28 rfl ?_
    refine g_callV (t := 34) (mc := 300) (ms := 600) (rest := []) X mt_X4_tellAll q3_140 q3_142 qs_19 4 WW_4 rfl (c_X4_tellAll (f := f) hfl hI (by omega) (by omega) c16 c3 k0 k1 hb) (by decide) (Nat.le_of_ble_eq_true rfl) (Nat.le_of_ble_eq_true rfl) (Nat.le_of_ble_eq_true rfl) rfl rfl dX4_tells_31 rfl (k_exn (fun B9 hB9 => ?_))
    obtain ⟨bv9, c9, bt9, n9, ml9⟩ := B9
    obtain ⟨hBI, hT9⟩ := hB9
    obtain ⟨⟨z1, z2⟩, ⟨z3, z4⟩, hbl⟩ := id hBI
    have z1 : 16 ≤ c9 := z1
    have z2 : c9 ≤ 300 := z2
    have z3 : 0 ≤ n9 := z3
    have z4 : n9 ≤ c9 := z4
    have hbl : Lat c9 bt9 := hbl
    have hT9 : TF Y f n9 bt9 := hT9
    show G C K Q _ _ _ _ _ (WW C ad (bv9, c9, bt9, n9, ml9) E F S Y g R)
    refine g_iload_n (t := 35) X dX4_tells_34 2 rfl rfl ?_
    refine g_aload_n (t := 36) X dX4_tells_35 0 rfl rfl ?_
    refine getf_X4 (t := 39) X 2 (by decide) q1_188 rfl rfl dX4_tells_36 rfl ?_
    refine g_callV (t := 42) (mc := 0) (ms := 0) (rest := [vi x]) X mt_J4_length_8abf5 q4_192 q4_71 q5_226 0 rfl rfl (c_J4_length_8abf5 hfl) (by decide) (Nat.le_of_ble_eq_true rfl) (Nat.le_of_ble_eq_true rfl) (Nat.le_of_ble_eq_true rfl) rfl rfl dX4_tells_39 rfl (k_rv ?_)
    show G C K Q _ _ _ _ _ (WW C ad (bv9, c9, bt9, n9, ml9) E F S Y g R)
    refine g_icmp_ge (t := 56) (u := 45) X dX4_tells_42 (by decide) rfl ⟨by omega, by omega⟩ ⟨by omega, by omega⟩ (fun c_42 => ?_) (fun c_42 => ?_)
    · refine g_iconst (t := 57) X dX4_tells_56 rfl ?_
      exact g_zret X r (by first | rfl | (have h9 := hbl x (by omega) (by omega); exact nar_c (by omega) (by omega))) ⟨⟨h_2, by omega⟩, (bv9, c9, bt9, n9, ml9), hBI, by rw [(hT9 x (by omega)).2 (by omega)], rfl⟩ (Nat.le_of_ble_eq_true rfl) (Nat.le_of_ble_eq_true rfl) dX4_tells_57
    · refine g_aload_n (t := 46) X dX4_tells_45 0 rfl rfl ?_
      refine getf_X4 (t := 49) X 2 (by decide) q1_188 rfl rfl dX4_tells_46 rfl ?_
      refine g_iload_n (t := 50) X dX4_tells_49 2 rfl rfl ?_
      refine g_callV (t := 53) (mc := 0) (ms := 0) (rest := []) X mt_J4_charAt_5068e q4_193 q4_194 q4_195 0 rfl rfl (c_J4_charAt_5068e hfl (by omega) (by omega) (by omega) (by omega) hbl (by omega) (by omega)) (by decide) (Nat.le_of_ble_eq_true rfl) (Nat.le_of_ble_eq_true rfl) (Nat.le_of_ble_eq_true rfl) rfl rfl dX4_tells_50 rfl (k_rv ?_)
      show G C K Q _ _ _ _ _ (WW C ad (bv9, c9, bt9, n9, ml9) E F S Y g R)
      refine g_goto (t := 57) X dX4_tells_53 (by decide) ?_
      exact g_zret X r (by first | rfl | (have h9 := hbl x (by omega) (by omega); exact nar_c (by omega) (by omega))) ⟨⟨h_2, by omega⟩, (bv9, c9, bt9, n9, ml9), hBI, by rw [(hT9 x (by omega)).1 (by omega)], rfl⟩ (Nat.le_of_ble_eq_true rfl) (Nat.le_of_ble_eq_true rfl) dX4_tells_57
  · exact g_throw X rx (is := 171) (text := "there is no such place") rfl (by decide +kernel) q2_97 q1_18 (List.mem_of_getElem? (i := 13) rfl) tx_I dX4_tells_9 dX4_tells_12 dX4_tells_13 dX4_tells_15 dX4_tells_18 (Nat.le_of_ble_eq_true rfl) (by decide) (Nat.le_of_ble_eq_true rfl) (Nat.le_of_ble_eq_true rfl) (Nat.le_of_ble_eq_true rfl) (Nat.le_of_ble_eq_true rfl) ⟨⟨S, rfl⟩, Or.inl ⟨rfl, by omega⟩⟩

