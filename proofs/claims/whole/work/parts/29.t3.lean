/-- a public method's answer, and what it throws -/
def po (A : Prop) (res : Int) (wg : (Nat → Int → Int) → va_W) : Option Value → va_W → Prop := fun v w => A ∧ ∃ Z, v = some (vi res) ∧ w = wg Z
def px3 (A B D : Prop) (EA EB ED : String) (w0 : (Nat → Int → Int) → va_W) : String → va_W → Prop := fun e w => (∃ Z, w = w0 Z) ∧ ((e = EA ∧ ¬ A) ∨ (e = EB ∧ A ∧ ¬ B) ∨ (e = ED ∧ A ∧ B ∧ ¬ D))

set_option maxHeartbeats 4000000 in
set_option maxRecDepth 100000 in
/-- angle(fold, open) -/
theorem c_X4_angle {C : WC} {l : Launch} (hfl : l.stackTraces = false) {ad : Nat → Nat} {B : BT} {E : Int × Nat} {S Y V : Nat → Int → Int} {R : va_W} {f o : Int} (hI : MI Y) (hR : PR C E Y R) (hf : Rg f) (ho : Rg o)  : MX C l yX4_angle cX4_angle 3 (some .int) 3 6 40 [.ref (ad 3), vi f, vi o] (wC C ad B E S Y V ++ R) (po ((0 ≤ f ∧ f < Y 3 0) ∧ (0 ≤ o ∧ o ≤ 180)) (angF Y f o) (fun Z => wC C ad B E Z Y V ++ R)) (px3 (0 ≤ f ∧ f < Y 3 0) (0 ≤ o ∧ o ≤ 180) True "java/lang/IndexOutOfBoundsException" "java/lang/IllegalArgumentException" "java/lang/IllegalArgumentException" (fun Z => wC C ad B E Z Y V ++ R)) := by
  refine mx_of (by decide +kernel) (Nat.le_of_ble_eq_true rfl) hfl (fun K Q X r rx => ?_)
  have X : Cx C l "Springleaf" cX4_angle 3 3 6 40 K := X
  have I3 := hI.1
  have I10 := hI.2.2.1
  have I12 := hI.2.2.2.2.1
  obtain ⟨f1, f2⟩ := hf
  obtain ⟨o1, o2⟩ := ho
  show G C K Q 0 0 0 [(0, .ref (ad 3)), (1, vi f), (2, vi o)] [] (wC C ad B E S Y V ++ R)
  refine g_aload_n (t := 1) X dX4_angle_0 0 rfl rfl ?_
  refine g_iload_n (t := 2) X dX4_angle_1 1 rfl rfl ?_
  refine gx_callV (t := 5) (mc := 1) (ms := 6) (rest := []) X mt_X4_requireFold q2_91 q2_93 qs_2 3 wC_3 rfl (c_X4_requireFold hfl hI ⟨by omega, by omega⟩) (by decide) (Nat.le_of_ble_eq_true rfl) (Nat.le_of_ble_eq_true rfl) (Nat.le_of_ble_eq_true rfl) rfl rfl dX4_angle_2 rfl (k_ck (fun h_2 => ?_)) (k_cx (fun h_2 => g_prop X rx (Nat.le_of_ble_eq_true rfl) (Nat.le_of_ble_eq_true rfl) ⟨⟨S, rfl⟩, Or.inl ⟨rfl, by omega⟩⟩))
  refine g_iload_n (t := 6) X dX4_angle_5 2 rfl rfl ?_
  refine gx_callS (t := 9) (mc := 1) (ms := 6) (rest := []) X mt_X4_requireOpen q3_68 q3_69 (c_X4_requireOpen hfl ⟨by omega, by omega⟩) (by decide) (Nat.le_of_ble_eq_true rfl) (Nat.le_of_ble_eq_true rfl) (Nat.le_of_ble_eq_true rfl) rfl rfl dX4_angle_6 rfl (k_ck (fun h_6 => ?_)) (k_cx (fun h_6 => g_prop X rx (Nat.le_of_ble_eq_true rfl) (Nat.le_of_ble_eq_true rfl) ⟨⟨S, rfl⟩, Or.inr (Or.inl ⟨rfl, by omega, by omega⟩)⟩))
  refine g_aload_n (t := 10) X dX4_angle_9 0 rfl rfl ?_
  refine getf_X4 (t := 13) X 0 (by decide) q1_187 rfl rfl dX4_angle_10 rfl ?_
  refine g_iload_n (t := 14) X dX4_angle_13 2 rfl rfl ?_
  refine g_callV (t := 17) (mc := 0) (ms := 0) (rest := []) X mt_X0_anglesAt q1_208 q1_209 q1_210 4 wC_4 rfl (c_X0_anglesAt hfl hI (by omega) (by omega)) (by decide) (Nat.le_of_ble_eq_true rfl) (Nat.le_of_ble_eq_true rfl) (Nat.le_of_ble_eq_true rfl) rfl rfl dX4_angle_14 rfl (k_rA (fun Z14 hZ14 => ?_))
  refine g_iload_n (t := 18) X dX4_angle_17 1 rfl rfl ?_
  refine g_iald (t := 19) (f := Z14 0) X 8 wC_8 (by omega) (by omega) (by omega) dX4_angle_18 rfl ?_
  rw [(hZ14 (f) (by omega) (by omega)).1]
  exact g_iret X r ⟨⟨h_2, h_6⟩, Z14, rfl, rfl⟩ (Nat.le_of_ble_eq_true rfl) (Nat.le_of_ble_eq_true rfl) dX4_angle_19

set_option maxHeartbeats 4000000 in
set_option maxRecDepth 100000 in
/-- angleAnew(fold, open) -/
theorem c_X4_angleAnew {C : WC} {l : Launch} (hfl : l.stackTraces = false) {ad : Nat → Nat} {B : BT} {E : Int × Nat} {S Y V : Nat → Int → Int} {R : va_W} {f o : Int} (hI : MI Y) (hR : PR C E Y R) (hf : Rg f) (ho : Rg o)  : MX C l yX4_angleAnew cX4_angleAnew 3 (some .int) 4 6 40 [.ref (ad 3), vi f, vi o] (wC C ad B E S Y V ++ R) (po ((0 ≤ f ∧ f < Y 3 0) ∧ (0 ≤ o ∧ o ≤ 180)) (angF Y f o) (fun Z => wC C ad B E Z Y V ++ R)) (px3 (0 ≤ f ∧ f < Y 3 0) (0 ≤ o ∧ o ≤ 180) True "java/lang/IndexOutOfBoundsException" "java/lang/IllegalArgumentException" "java/lang/IllegalArgumentException" (fun Z => wC C ad B E Z Y V ++ R)) := by
  refine mx_of (by decide +kernel) (Nat.le_of_ble_eq_true rfl) hfl (fun K Q X r rx => ?_)
  have X : Cx C l "Springleaf" cX4_angleAnew 3 4 6 40 K := X
  have I3 := hI.1
  have I10 := hI.2.2.1
  have I12 := hI.2.2.2.2.1
  obtain ⟨f1, f2⟩ := hf
  obtain ⟨o1, o2⟩ := ho
  show G C K Q 0 0 0 [(0, .ref (ad 3)), (1, vi f), (2, vi o)] [] (wC C ad B E S Y V ++ R)
  refine g_aload_n (t := 1) X dX4_angleAnew_0 0 rfl rfl ?_
  refine g_iload_n (t := 2) X dX4_angleAnew_1 1 rfl rfl ?_
  refine gx_callV (t := 5) (mc := 1) (ms := 6) (rest := []) X mt_X4_requireFold q2_91 q2_93 qs_2 3 wC_3 rfl (c_X4_requireFold hfl hI ⟨by omega, by omega⟩) (by decide) (Nat.le_of_ble_eq_true rfl) (Nat.le_of_ble_eq_true rfl) (Nat.le_of_ble_eq_true rfl) rfl rfl dX4_angleAnew_2 rfl (k_ck (fun h_2 => ?_)) (k_cx (fun h_2 => g_prop X rx (Nat.le_of_ble_eq_true rfl) (Nat.le_of_ble_eq_true rfl) ⟨⟨S, rfl⟩, Or.inl ⟨rfl, by omega⟩⟩))
  refine g_iload_n (t := 6) X dX4_angleAnew_5 2 rfl rfl ?_
  refine gx_callS (t := 9) (mc := 1) (ms := 6) (rest := []) X mt_X4_requireOpen q3_68 q3_69 (c_X4_requireOpen hfl ⟨by omega, by omega⟩) (by decide) (Nat.le_of_ble_eq_true rfl) (Nat.le_of_ble_eq_true rfl) (Nat.le_of_ble_eq_true rfl) rfl rfl dX4_angleAnew_6 rfl (k_ck (fun h_6 => ?_)) (k_cx (fun h_6 => g_prop X rx (Nat.le_of_ble_eq_true rfl) (Nat.le_of_ble_eq_true rfl) ⟨⟨S, rfl⟩, Or.inr (Or.inl ⟨rfl, by omega, by omega⟩)⟩))
  refine g_aload_n (t := 10) X dX4_angleAnew_9 0 rfl rfl ?_
  refine getf_X4 (t := 13) X 0 (by decide) q1_187 rfl rfl dX4_angleAnew_10 rfl ?_
  refine g_iload_n (t := 14) X dX4_angleAnew_13 2 rfl rfl ?_
  refine g_callV (t := 17) (mc := 0) (ms := 0) (rest := []) X mt_X0_anglesByStepsTo q3_79 q3_80 q3_81 4 wC_4 rfl (c_X0_anglesByStepsTo hfl hI (by omega) (by omega)) (by decide) (Nat.le_of_ble_eq_true rfl) (Nat.le_of_ble_eq_true rfl) (Nat.le_of_ble_eq_true rfl) rfl rfl dX4_angleAnew_14 rfl (k_rA (fun Z14 hZ14 => ?_))
  refine g_iload_n (t := 18) X dX4_angleAnew_17 1 rfl rfl ?_
  refine g_iald (t := 19) (f := Z14 0) X 8 wC_8 (by omega) (by omega) (by omega) dX4_angleAnew_18 rfl ?_
  rw [(hZ14 (f) (by omega) (by omega)).1]
  exact g_iret X r ⟨⟨h_2, h_6⟩, Z14, rfl, rfl⟩ (Nat.le_of_ble_eq_true rfl) (Nat.le_of_ble_eq_true rfl) dX4_angleAnew_19

set_option maxHeartbeats 4000000 in
set_option maxRecDepth 100000 in
/-- where(part, open, what) -/
theorem c_X4_where {C : WC} {l : Launch} (hfl : l.stackTraces = false) {ad : Nat → Nat} {B : BT} {E : Int × Nat} {S Y V : Nat → Int → Int} {R : va_W} {p o x : Int} (hI : MI Y) (hR : PR C E Y R) (hp : Rg p) (ho : Rg o) (hx : Rg x)  : MX C l yX4_where cX4_where 6 (some .int) 3 6 40 [.ref (ad 3), vi p, vi o, vi x] (wC C ad B E S Y V ++ R) (po ((0 ≤ p ∧ p < Y 10 0) ∧ ((0 ≤ o ∧ o ≤ 180) ∧ 0 ≤ x ∧ x ≤ 2)) (if x = 0 then riseF Y p o else if x = 1 then lowF Y p o else highF Y p o) (fun Z => wC C ad B E Z Y V ++ R)) (px3 (0 ≤ p ∧ p < Y 10 0) ((0 ≤ o ∧ o ≤ 180) ∧ 0 ≤ x ∧ x ≤ 2) True "java/lang/IndexOutOfBoundsException" "java/lang/IllegalArgumentException" "java/lang/IllegalArgumentException" (fun Z => wC C ad B E Z Y V ++ R)) := by
  refine mx_of (by decide +kernel) (Nat.le_of_ble_eq_true rfl) hfl (fun K Q X r rx => ?_)
  have X : Cx C l "Springleaf" cX4_where 6 3 6 40 K := X
  have I3 := hI.1
  have I10 := hI.2.2.1
  have I12 := hI.2.2.2.2.1
  obtain ⟨p1, p2⟩ := hp
  obtain ⟨o1, o2⟩ := ho
  obtain ⟨x1, x2⟩ := hx
  show G C K Q 0 0 0 [(0, .ref (ad 3)), (1, vi p), (2, vi o), (3, vi x)] [] (wC C ad B E S Y V ++ R)
  refine g_aload_n (t := 1) X dX4_where_0 0 rfl rfl ?_
  refine g_iload_n (t := 2) X dX4_where_1 1 rfl rfl ?_
  refine gx_callV (t := 5) (mc := 1) (ms := 6) (rest := []) X mt_X4_requirePart q3_95 q3_97 qs_7 3 wC_3 rfl (c_X4_requirePart hfl hI ⟨by omega, by omega⟩) (by decide) (Nat.le_of_ble_eq_true rfl) (Nat.le_of_ble_eq_true rfl) (Nat.le_of_ble_eq_true rfl) rfl rfl dX4_where_2 rfl (k_ck (fun h_2 => ?_)) (k_cx (fun h_2 => g_prop X rx (Nat.le_of_ble_eq_true rfl) (Nat.le_of_ble_eq_true rfl) ⟨⟨S, rfl⟩, Or.inl ⟨rfl, by omega⟩⟩))
  refine g_iload_n (t := 6) X dX4_where_5 2 rfl rfl ?_
  refine gx_callS (t := 9) (mc := 1) (ms := 6) (rest := []) X mt_X4_requireOpen q3_68 q3_69 (c_X4_requireOpen hfl ⟨by omega, by omega⟩) (by decide) (Nat.le_of_ble_eq_true rfl) (Nat.le_of_ble_eq_true rfl) (Nat.le_of_ble_eq_true rfl) rfl rfl dX4_where_6 rfl (k_ck (fun h_6 => ?_)) (k_cx (fun h_6 => g_prop X rx (Nat.le_of_ble_eq_true rfl) (Nat.le_of_ble_eq_true rfl) ⟨⟨S, rfl⟩, Or.inr (Or.inl ⟨rfl, by omega, by omega⟩)⟩))
  refine g_iload_n (t := 10) X dX4_where_9 3 rfl rfl ?_
  refine gx_callS (t := 13) (mc := 1) (ms := 6) (rest := []) X mt_X4_requireWhat q3_100 q3_101 (c_X4_requireWhat hfl ⟨by omega, by omega⟩) (by decide) (Nat.le_of_ble_eq_true rfl) (Nat.le_of_ble_eq_true rfl) (Nat.le_of_ble_eq_true rfl) rfl rfl dX4_where_10 rfl (k_ck (fun h_10 => ?_)) (k_cx (fun h_10 => g_prop X rx (Nat.le_of_ble_eq_true rfl) (Nat.le_of_ble_eq_true rfl) ⟨⟨S, rfl⟩, Or.inr (Or.inl ⟨rfl, by omega, by omega⟩)⟩))
  obtain ⟨cap9, qe9, f9, hcap9, hqe9, hall9⟩ := hR (by omega)
  refine g_aload_n (t := 14) X dX4_where_13 0 rfl rfl ?_
  refine getf_X4 (t := 17) X 1 (by decide) q1_188 rfl rfl dX4_where_14 rfl ?_
  refine g_iload_n (t := 18) X dX4_where_17 1 rfl rfl ?_
  obtain ⟨a_18, k_18, ef_18, ek_18⟩ := hall9 p (by omega) (by omega)
  have hp_18 := hI.2.2.2.1 p (by omega) (by omega)
  refine g_callV (t := 21) (mc := 0) (ms := 0) (rest := []) X mt_Jx4a65c_get_915e3 q1_229 q1_230 q1_231 2 wC_2 rfl (c_Jx4a65c_get_915e3 (E := E) hfl 2 wC_2 (qe9 + 22) (wC_R.trans hqe9) (by omega) (by omega) (by omega) ef_18 (by omega) (by omega)) (by decide) (Nat.le_of_ble_eq_true rfl) (Nat.le_of_ble_eq_true rfl) (Nat.le_of_ble_eq_true rfl) rfl rfl dX4_where_18 rfl (k_rv ?_)
  refine g_castS (t := 24) X (k_18 + 22) (wC_R.trans ek_18) rfl q2_3 dX4_where_21 rfl ?_
  refine g_astore (t := 26) (lv1 := [(4, .ref a_18), (0, .ref (ad 3)), (1, vi p), (2, vi o), (3, vi x)]) X dX4_where_24 (by decide) rfl rfl ?_
  refine g_aload_n (t := 27) X dX4_where_26 1 rfl rfl ?_
  refine getf_X4 (t := 30) X 0 (by decide) q1_187 rfl rfl dX4_where_27 rfl ?_
  refine g_iload_n (t := 31) X dX4_where_30 3 rfl rfl ?_
  refine g_callV (t := 34) (mc := 0) (ms := 0) (rest := []) X mt_X0_anglesAt q1_208 q1_209 q1_210 4 wC_4 rfl (c_X0_anglesAt hfl hI (by omega) (by omega)) (by decide) (Nat.le_of_ble_eq_true rfl) (Nat.le_of_ble_eq_true rfl) (Nat.le_of_ble_eq_true rfl) rfl rfl dX4_where_31 rfl (k_rA (fun Z31 hZ31 => ?_))
  have gq := angF_rng Y h_6.1 h_6.2 (Y 4 p)
  refine g_aload (t := 36) X dX4_where_34 0 rfl rfl ?_
  refine g_getf (t := 39) X inX3 (k_18 + 22) (wC_R.trans ek_18) rfl 0 (by decide) q2_223 rfl rfl dX4_where_36 rfl ?_
  refine g_iald (t := 40) (f := Z31 0) X 8 wC_8 (by omega) (by omega) (by omega) dX4_where_39 rfl ?_
  rw [(hZ31 (Y 4 p) (by omega) (by omega)).1]
  refine g_istore (t := 42) (lv1 := [(5, vi (angF Y (Y 4 p) o)), (4, .ref a_18), (0, .ref (ad 3)), (1, vi p), (2, vi o), (3, vi x)]) X dX4_where_40 (by decide) rfl rfl ?_
  have r0 := rise_rng hI h_2.1 h_2.2 h_6.1 h_6.2
  have r1 := low_rng hI h_2.1 h_2.2 h_6.1 h_6.2
  have r2 := high_rng hI h_2.1 h_2.2 h_6.1 h_6.2
  refine g_iload_n (t := 43) X dX4_where_42 5 rfl rfl ?_
  refine g_if_ne (t := 54) (u := 46) X dX4_where_43 (by decide) rfl ⟨by omega, by omega⟩ (fun c_43 => ?_) (fun c_43 => ?_)
  · refine g_iload_n (t := 55) X dX4_where_54 5 rfl rfl ?_
    refine g_iconst (t := 56) X dX4_where_55 rfl ?_
    refine g_icmp_ne (t := 69) (u := 59) X dX4_where_56 (by decide) rfl ⟨by omega, by omega⟩ ⟨by omega, by omega⟩ (fun c_56 => ?_) (fun c_56 => ?_)
    · refine g_aload (t := 71) X dX4_where_69 1 rfl rfl ?_
      refine g_iload (t := 73) X dX4_where_71 0 rfl rfl ?_
      refine g_callV (t := 76) (mc := 0) (ms := 0) (rest := []) X mt_X3_spanEnd q2_24 q2_25 q2_26 (k_18 + 22) (wC_R.trans ek_18) rfl (c_X3_spanEnd hfl hI (by omega) (by omega) (k_18 + 22) (wC_R.trans ek_18) (by omega) (by omega)) (by decide) (Nat.le_of_ble_eq_true rfl) (Nat.le_of_ble_eq_true rfl) (Nat.le_of_ble_eq_true rfl) rfl rfl dX4_where_73 rfl (k_rv ?_)
      rw [← highF_G]
      exact g_iret X r ⟨⟨h_2, h_6, h_10⟩, Z31, by first | rw [if_pos (by omega)] | rw [if_neg (by omega), if_pos (by omega)] | rw [if_neg (by omega), if_neg (by omega)], rfl⟩ (Nat.le_of_ble_eq_true rfl) (Nat.le_of_ble_eq_true rfl) dX4_where_76
    · refine g_aload (t := 61) X dX4_where_59 1 rfl rfl ?_
      refine g_iload (t := 63) X dX4_where_61 0 rfl rfl ?_
      refine g_callV (t := 66) (mc := 0) (ms := 0) (rest := []) X mt_X3_spanStart q2_16 q2_17 q2_18 (k_18 + 22) (wC_R.trans ek_18) rfl (c_X3_spanStart hfl hI (by omega) (by omega) (k_18 + 22) (wC_R.trans ek_18) (by omega) (by omega)) (by decide) (Nat.le_of_ble_eq_true rfl) (Nat.le_of_ble_eq_true rfl) (Nat.le_of_ble_eq_true rfl) rfl rfl dX4_where_63 rfl (k_rv ?_)
      rw [← lowF_G]
      refine g_goto (t := 76) X dX4_where_66 (by decide) ?_
      exact g_iret X r ⟨⟨h_2, h_6, h_10⟩, Z31, by first | rw [if_pos (by omega)] | rw [if_neg (by omega), if_pos (by omega)] | rw [if_neg (by omega), if_neg (by omega)], rfl⟩ (Nat.le_of_ble_eq_true rfl) (Nat.le_of_ble_eq_true rfl) dX4_where_76
  · refine g_aload (t := 48) X dX4_where_46 1 rfl rfl ?_
    refine g_iload (t := 50) X dX4_where_48 0 rfl rfl ?_
    refine g_callV (t := 53) (mc := 0) (ms := 0) (rest := []) X mt_X3_rise q2_7 q2_8 q2_9 (k_18 + 22) (wC_R.trans ek_18) rfl (c_X3_rise hfl hI (by omega) (by omega) (k_18 + 22) (wC_R.trans ek_18) (by omega) (by omega)) (by decide) (Nat.le_of_ble_eq_true rfl) (Nat.le_of_ble_eq_true rfl) (Nat.le_of_ble_eq_true rfl) rfl rfl dX4_where_50 rfl (k_rv ?_)
    rw [← riseF_G]
    exact g_iret X r ⟨⟨h_2, h_6, h_10⟩, Z31, by first | rw [if_pos (by omega)] | rw [if_neg (by omega), if_pos (by omega)] | rw [if_neg (by omega), if_neg (by omega)], rfl⟩ (Nat.le_of_ble_eq_true rfl) (Nat.le_of_ble_eq_true rfl) dX4_where_53

set_option maxHeartbeats 4000000 in
set_option maxRecDepth 100000 in
/-- meet(part, other, open) -/
theorem c_X4_meet {C : WC} {l : Launch} (hfl : l.stackTraces = false) {ad : Nat → Nat} {B : BT} {E : Int × Nat} {S Y V : Nat → Int → Int} {R : va_W} {p q o : Int} (hI : MI Y) (hR : PR C E Y R) (hp : Rg p) (hq : Rg q) (ho : Rg o)  : MX C l yX4_meet cX4_meet 4 (some .boolean) 3 6 40 [.ref (ad 3), vi p, vi q, vi o] (wC C ad B E S Y V ++ R) (po (((0 ≤ p ∧ p < Y 10 0) ∧ 0 ≤ q ∧ q < Y 10 0) ∧ (0 ≤ o ∧ o ≤ 180)) (bF (meetF Y p q o)) (fun Z => wC C ad B E Z Y V ++ R)) (px3 ((0 ≤ p ∧ p < Y 10 0) ∧ 0 ≤ q ∧ q < Y 10 0) (0 ≤ o ∧ o ≤ 180) True "java/lang/IndexOutOfBoundsException" "java/lang/IllegalArgumentException" "java/lang/IllegalArgumentException" (fun Z => wC C ad B E Z Y V ++ R)) := by
  refine mx_of (by decide +kernel) (Nat.le_of_ble_eq_true rfl) hfl (fun K Q X r rx => ?_)
  have X : Cx C l "Springleaf" cX4_meet 4 3 6 40 K := X
  have I3 := hI.1
  have I10 := hI.2.2.1
  have I12 := hI.2.2.2.2.1
  obtain ⟨p1, p2⟩ := hp
  obtain ⟨q1, q2⟩ := hq
  obtain ⟨o1, o2⟩ := ho
  show G C K Q 0 0 0 [(0, .ref (ad 3)), (1, vi p), (2, vi q), (3, vi o)] [] (wC C ad B E S Y V ++ R)
  refine g_aload_n (t := 1) X dX4_meet_0 0 rfl rfl ?_
  refine g_iload_n (t := 2) X dX4_meet_1 1 rfl rfl ?_
  refine gx_callV (t := 5) (mc := 1) (ms := 6) (rest := []) X mt_X4_requirePart q3_95 q3_97 qs_7 3 wC_3 rfl (c_X4_requirePart hfl hI ⟨by omega, by omega⟩) (by decide) (Nat.le_of_ble_eq_true rfl) (Nat.le_of_ble_eq_true rfl) (Nat.le_of_ble_eq_true rfl) rfl rfl dX4_meet_2 rfl (k_ck (fun h_2 => ?_)) (k_cx (fun h_2 => g_prop X rx (Nat.le_of_ble_eq_true rfl) (Nat.le_of_ble_eq_true rfl) ⟨⟨S, rfl⟩, Or.inl ⟨rfl, by omega⟩⟩))
  refine g_aload_n (t := 6) X dX4_meet_5 0 rfl rfl ?_
  refine g_iload_n (t := 7) X dX4_meet_6 2 rfl rfl ?_
  refine gx_callV (t := 10) (mc := 1) (ms := 6) (rest := []) X mt_X4_requirePart q3_95 q3_97 qs_7 3 wC_3 rfl (c_X4_requirePart hfl hI ⟨by omega, by omega⟩) (by decide) (Nat.le_of_ble_eq_true rfl) (Nat.le_of_ble_eq_true rfl) (Nat.le_of_ble_eq_true rfl) rfl rfl dX4_meet_7 rfl (k_ck (fun h_7 => ?_)) (k_cx (fun h_7 => g_prop X rx (Nat.le_of_ble_eq_true rfl) (Nat.le_of_ble_eq_true rfl) ⟨⟨S, rfl⟩, Or.inl ⟨rfl, by omega⟩⟩))
  refine g_iload_n (t := 11) X dX4_meet_10 3 rfl rfl ?_
  refine gx_callS (t := 14) (mc := 1) (ms := 6) (rest := []) X mt_X4_requireOpen q3_68 q3_69 (c_X4_requireOpen hfl ⟨by omega, by omega⟩) (by decide) (Nat.le_of_ble_eq_true rfl) (Nat.le_of_ble_eq_true rfl) (Nat.le_of_ble_eq_true rfl) rfl rfl dX4_meet_11 rfl (k_ck (fun h_11 => ?_)) (k_cx (fun h_11 => g_prop X rx (Nat.le_of_ble_eq_true rfl) (Nat.le_of_ble_eq_true rfl) ⟨⟨S, rfl⟩, Or.inr (Or.inl ⟨rfl, by omega, by omega⟩)⟩))
  refine g_iload_n (t := 15) X dX4_meet_14 1 rfl rfl ?_
  refine g_iload_n (t := 16) X dX4_meet_15 2 rfl rfl ?_
  refine g_icmp_eq (t := 59) (u := 19) X dX4_meet_16 (by decide) rfl ⟨by omega, by omega⟩ ⟨by omega, by omega⟩ (fun c_16 => ?_) (fun c_16 => ?_)
  · refine g_iconst (t := 60) X dX4_meet_59 rfl ?_
    exact g_zret X r rfl ⟨⟨⟨h_2, h_7⟩, h_11⟩, S, congrArg (fun z : Int => (some (vi z) : Option Value)) (bF_f (P := meetF Y p q o) (fun h => by obtain ⟨g1, g2⟩ := mt_iff.mp h; first | exact b_49 g2 | omega)), rfl⟩ (Nat.le_of_ble_eq_true rfl) (Nat.le_of_ble_eq_true rfl) dX4_meet_60
  · obtain ⟨cap9, qe9, f9, hcap9, hqe9, hall9⟩ := hR (by omega)
    refine g_aload_n (t := 20) X dX4_meet_19 0 rfl rfl ?_
    refine getf_X4 (t := 23) X 1 (by decide) q1_188 rfl rfl dX4_meet_20 rfl ?_
    refine g_iload_n (t := 24) X dX4_meet_23 1 rfl rfl ?_
    obtain ⟨a_24, k_24, ef_24, ek_24⟩ := hall9 p (by omega) (by omega)
    have hp_24 := hI.2.2.2.1 p (by omega) (by omega)
    refine g_callV (t := 27) (mc := 0) (ms := 0) (rest := []) X mt_Jx4a65c_get_915e3 q1_229 q1_230 q1_231 2 wC_2 rfl (c_Jx4a65c_get_915e3 (E := E) hfl 2 wC_2 (qe9 + 22) (wC_R.trans hqe9) (by omega) (by omega) (by omega) ef_24 (by omega) (by omega)) (by decide) (Nat.le_of_ble_eq_true rfl) (Nat.le_of_ble_eq_true rfl) (Nat.le_of_ble_eq_true rfl) rfl rfl dX4_meet_24 rfl (k_rv ?_)
    refine g_castS (t := 30) X (k_24 + 22) (wC_R.trans ek_24) rfl q2_3 dX4_meet_27 rfl ?_
    refine g_aload_n (t := 31) X dX4_meet_30 0 rfl rfl ?_
    refine getf_X4 (t := 34) X 1 (by decide) q1_188 rfl rfl dX4_meet_31 rfl ?_
    refine g_iload_n (t := 35) X dX4_meet_34 2 rfl rfl ?_
    obtain ⟨a_35, k_35, ef_35, ek_35⟩ := hall9 q (by omega) (by omega)
    have hp_35 := hI.2.2.2.1 q (by omega) (by omega)
    refine g_callV (t := 38) (mc := 0) (ms := 0) (rest := [.ref a_24]) X mt_Jx4a65c_get_915e3 q1_229 q1_230 q1_231 2 wC_2 rfl (c_Jx4a65c_get_915e3 (E := E) hfl 2 wC_2 (qe9 + 22) (wC_R.trans hqe9) (by omega) (by omega) (by omega) ef_35 (by omega) (by omega)) (by decide) (Nat.le_of_ble_eq_true rfl) (Nat.le_of_ble_eq_true rfl) (Nat.le_of_ble_eq_true rfl) rfl rfl dX4_meet_35 rfl (k_rv ?_)
    refine g_castS (t := 41) X (k_35 + 22) (wC_R.trans ek_35) rfl q2_3 dX4_meet_38 rfl ?_
    refine g_aload_n (t := 42) X dX4_meet_41 0 rfl rfl ?_
    refine getf_X4 (t := 45) X 0 (by decide) q1_187 rfl rfl dX4_meet_42 rfl ?_
    refine g_iload_n (t := 46) X dX4_meet_45 3 rfl rfl ?_
    refine g_callV (t := 49) (mc := 0) (ms := 0) (rest := [.ref a_35, .ref a_24]) X mt_X0_anglesAt q1_208 q1_209 q1_210 4 wC_4 rfl (c_X0_anglesAt hfl hI (by omega) (by omega)) (by decide) (Nat.le_of_ble_eq_true rfl) (Nat.le_of_ble_eq_true rfl) (Nat.le_of_ble_eq_true rfl) rfl rfl dX4_meet_46 rfl (k_rA (fun Z46 hZ46 => ?_))
    refine g_callS (t := 52) (mc := 0) (ms := 0) (rest := []) X mt_X4_doMeet q2_4 q2_5 (c_X4_doMeet hfl hI hZ46 (by omega) (by omega) (by omega) (by omega) (by omega) (by omega) ek_24 ek_35) (by decide) (Nat.le_of_ble_eq_true rfl) (Nat.le_of_ble_eq_true rfl) (Nat.le_of_ble_eq_true rfl) rfl rfl dX4_meet_49 rfl (k_rb (fun b_49 => ?_) (fun b_49 => ?_))
    · refine g_if_eq (t := 59) (u := 55) X dX4_meet_52 (by decide) rfl ⟨by omega, by omega⟩ (fun c => absurd c (by decide)) (fun _ => ?_)
      refine g_iconst (t := 56) X dX4_meet_55 rfl ?_
      refine g_goto (t := 60) X dX4_meet_56 (by decide) ?_
      exact g_zret X r rfl ⟨⟨⟨h_2, h_7⟩, h_11⟩, Z46, congrArg (fun z : Int => (some (vi z) : Option Value)) (bF_t (P := meetF Y p q o) (mt_iff.mpr ⟨by omega, b_49⟩)), rfl⟩ (Nat.le_of_ble_eq_true rfl) (Nat.le_of_ble_eq_true rfl) dX4_meet_60
    · refine g_if_eq (t := 59) (u := 55) X dX4_meet_52 (by decide) rfl ⟨by omega, by omega⟩ (fun _ => ?_) (fun c => absurd c (by decide))
      refine g_iconst (t := 60) X dX4_meet_59 rfl ?_
      exact g_zret X r rfl ⟨⟨⟨h_2, h_7⟩, h_11⟩, Z46, congrArg (fun z : Int => (some (vi z) : Option Value)) (bF_f (P := meetF Y p q o) (fun h => by obtain ⟨g1, g2⟩ := mt_iff.mp h; first | exact b_49 g2 | omega)), rfl⟩ (Nat.le_of_ble_eq_true rfl) (Nat.le_of_ble_eq_true rfl) dX4_meet_60

set_option maxHeartbeats 4000000 in
set_option maxRecDepth 100000 in
/-- sheets() -/
theorem c_X4_sheets {C : WC} {l : Launch} (hfl : l.stackTraces = false) {ad : Nat → Nat} {B : BT} {E : Int × Nat} {S Y V : Nat → Int → Int} {R : va_W}  (hI : MI Y) (hR : PR C E Y R) : MM C l yX4_sheets cX4_sheets 1 (some .int) 4 0 0 [.ref (ad 3)] (wC C ad B E S Y V ++ R) (rv (vi (layF Y V 19 0)) (wC C ad B E S Y (layF Y V) ++ R)) := by
  refine mm_of (by decide +kernel) (Nat.le_of_ble_eq_true rfl) hfl (fun K Q X r => ?_)
  have X : Cx C l "Springleaf" cX4_sheets 1 4 0 0 K := X
  have I3 := hI.1
  have I10 := hI.2.2.1
  have I12 := hI.2.2.2.2.1
  show G C K Q 0 0 0 [(0, .ref (ad 3))] [] (wC C ad B E S Y V ++ R)
  refine g_aload_n (t := 1) X dX4_sheets_0 0 rfl rfl ?_
  refine g_callV (t := 4) (mc := 0) (ms := 0) (rest := []) X mt_X4_layAllParts q2_36 q2_38 qs_1 3 wC_3 rfl (c_X4_layAllParts hfl hI hR) (by decide) (Nat.le_of_ble_eq_true rfl) (Nat.le_of_ble_eq_true rfl) (Nat.le_of_ble_eq_true rfl) rfl rfl dX4_sheets_1 rfl (k_rn ?_)
  refine g_aload_n (t := 5) X dX4_sheets_4 0 rfl rfl ?_
  refine getf_X4 (t := 8) X 3 (by decide) q1_190 rfl rfl dX4_sheets_5 rfl ?_
  refine getf_X2 (t := 11) X 9 (by decide) q1_165 rfl rfl dX4_sheets_8 rfl ?_
  exact g_iret X r (rv_i rfl) (Nat.le_of_ble_eq_true rfl) (Nat.le_of_ble_eq_true rfl) dX4_sheets_11

set_option maxHeartbeats 4000000 in
set_option maxRecDepth 100000 in
/-- laid(part, what) -/
theorem c_X4_laid {C : WC} {l : Launch} (hfl : l.stackTraces = false) {ad : Nat → Nat} {B : BT} {E : Int × Nat} {S Y V : Nat → Int → Int} {R : va_W} {p x : Int} (hI : MI Y) (hR : PR C E Y R) (hp : Rg p) (hx : Rg x)  : MX C l yX4_laid cX4_laid 3 (some .int) 4 6 40 [.ref (ad 3), vi p, vi x] (wC C ad B E S Y V ++ R) (po ((0 ≤ p ∧ p < Y 10 0) ∧ (0 ≤ x ∧ x ≤ 2)) (if x = 0 then layF Y V 20 p else if x = 1 then layF Y V 21 p else layF Y V 22 p) (fun Z => wC C ad B E Z Y (layF Y V) ++ R)) (px3 (0 ≤ p ∧ p < Y 10 0) (0 ≤ x ∧ x ≤ 2) True "java/lang/IndexOutOfBoundsException" "java/lang/IllegalArgumentException" "java/lang/IllegalArgumentException" (fun Z => wC C ad B E Z Y V ++ R)) := by
  refine mx_of (by decide +kernel) (Nat.le_of_ble_eq_true rfl) hfl (fun K Q X r rx => ?_)
  have X : Cx C l "Springleaf" cX4_laid 3 4 6 40 K := X
  have I3 := hI.1
  have I10 := hI.2.2.1
  have I12 := hI.2.2.2.2.1
  obtain ⟨p1, p2⟩ := hp
  obtain ⟨x1, x2⟩ := hx
  show G C K Q 0 0 0 [(0, .ref (ad 3)), (1, vi p), (2, vi x)] [] (wC C ad B E S Y V ++ R)
  refine g_aload_n (t := 1) X dX4_laid_0 0 rfl rfl ?_
  refine g_iload_n (t := 2) X dX4_laid_1 1 rfl rfl ?_
  refine gx_callV (t := 5) (mc := 1) (ms := 6) (rest := []) X mt_X4_requirePart q3_95 q3_97 qs_7 3 wC_3 rfl (c_X4_requirePart hfl hI ⟨by omega, by omega⟩) (by decide) (Nat.le_of_ble_eq_true rfl) (Nat.le_of_ble_eq_true rfl) (Nat.le_of_ble_eq_true rfl) rfl rfl dX4_laid_2 rfl (k_ck (fun h_2 => ?_)) (k_cx (fun h_2 => g_prop X rx (Nat.le_of_ble_eq_true rfl) (Nat.le_of_ble_eq_true rfl) ⟨⟨S, rfl⟩, Or.inl ⟨rfl, by omega⟩⟩))
  refine g_iload_n (t := 6) X dX4_laid_5 2 rfl rfl ?_
  refine gx_callS (t := 9) (mc := 1) (ms := 6) (rest := []) X mt_X4_requireWhat q3_100 q3_101 (c_X4_requireWhat hfl ⟨by omega, by omega⟩) (by decide) (Nat.le_of_ble_eq_true rfl) (Nat.le_of_ble_eq_true rfl) (Nat.le_of_ble_eq_true rfl) rfl rfl dX4_laid_6 rfl (k_ck (fun h_6 => ?_)) (k_cx (fun h_6 => g_prop X rx (Nat.le_of_ble_eq_true rfl) (Nat.le_of_ble_eq_true rfl) ⟨⟨S, rfl⟩, Or.inr (Or.inl ⟨rfl, by omega, by omega⟩)⟩))
  refine g_aload_n (t := 10) X dX4_laid_9 0 rfl rfl ?_
  refine g_callV (t := 13) (mc := 0) (ms := 0) (rest := []) X mt_X4_layAllParts q2_36 q2_38 qs_1 3 wC_3 rfl (c_X4_layAllParts hfl hI hR) (by decide) (Nat.le_of_ble_eq_true rfl) (Nat.le_of_ble_eq_true rfl) (Nat.le_of_ble_eq_true rfl) rfl rfl dX4_laid_10 rfl (k_rn ?_)
  refine g_iload_n (t := 14) X dX4_laid_13 2 rfl rfl ?_
  refine g_if_ne (t := 27) (u := 17) X dX4_laid_14 (by decide) rfl ⟨by omega, by omega⟩ (fun c_14 => ?_) (fun c_14 => ?_)
  · refine g_iload_n (t := 28) X dX4_laid_27 2 rfl rfl ?_
    refine g_iconst (t := 29) X dX4_laid_28 rfl ?_
    refine g_icmp_ne (t := 44) (u := 32) X dX4_laid_29 (by decide) rfl ⟨by omega, by omega⟩ ⟨by omega, by omega⟩ (fun c_29 => ?_) (fun c_29 => ?_)
    · refine g_aload_n (t := 45) X dX4_laid_44 0 rfl rfl ?_
      refine getf_X4 (t := 48) X 3 (by decide) q1_190 rfl rfl dX4_laid_45 rfl ?_
      refine getf_X2 (t := 51) X 2 (by decide) q1_157 rfl rfl dX4_laid_48 rfl ?_
      refine g_iload_n (t := 52) X dX4_laid_51 1 rfl rfl ?_
      refine g_iald (t := 53) (f := (layF Y V) 22) X 16 wC_16 (by omega) (by omega) (by omega) dX4_laid_52 rfl ?_
      exact g_iret X r ⟨⟨h_2, h_6⟩, S, by first | rw [if_pos (by omega)] | rw [if_neg (by omega), if_pos (by omega)] | rw [if_neg (by omega), if_neg (by omega)], rfl⟩ (Nat.le_of_ble_eq_true rfl) (Nat.le_of_ble_eq_true rfl) dX4_laid_53
    · refine g_aload_n (t := 33) X dX4_laid_32 0 rfl rfl ?_
      refine getf_X4 (t := 36) X 3 (by decide) q1_190 rfl rfl dX4_laid_33 rfl ?_
      refine getf_X2 (t := 39) X 1 (by decide) q1_155 rfl rfl dX4_laid_36 rfl ?_
      refine g_iload_n (t := 40) X dX4_laid_39 1 rfl rfl ?_
      refine g_iald (t := 41) (f := (layF Y V) 21) X 15 wC_15 (by omega) (by omega) (by omega) dX4_laid_40 rfl ?_
      refine g_goto (t := 53) X dX4_laid_41 (by decide) ?_
      exact g_iret X r ⟨⟨h_2, h_6⟩, S, by first | rw [if_pos (by omega)] | rw [if_neg (by omega), if_pos (by omega)] | rw [if_neg (by omega), if_neg (by omega)], rfl⟩ (Nat.le_of_ble_eq_true rfl) (Nat.le_of_ble_eq_true rfl) dX4_laid_53
  · refine g_aload_n (t := 18) X dX4_laid_17 0 rfl rfl ?_
    refine getf_X4 (t := 21) X 3 (by decide) q1_190 rfl rfl dX4_laid_18 rfl ?_
    refine getf_X2 (t := 24) X 0 (by decide) q1_153 rfl rfl dX4_laid_21 rfl ?_
    refine g_iload_n (t := 25) X dX4_laid_24 1 rfl rfl ?_
    refine g_iald (t := 26) (f := (layF Y V) 20) X 14 wC_14 (by omega) (by omega) (by omega) dX4_laid_25 rfl ?_
    exact g_iret X r ⟨⟨h_2, h_6⟩, S, by first | rw [if_pos (by omega)] | rw [if_neg (by omega), if_pos (by omega)] | rw [if_neg (by omega), if_neg (by omega)], rfl⟩ (Nat.le_of_ble_eq_true rfl) (Nat.le_of_ble_eq_true rfl) dX4_laid_26

set_option maxHeartbeats 4000000 in
set_option maxRecDepth 100000 in
/-- glue(part) -/
theorem c_X4_glue {C : WC} {l : Launch} (hfl : l.stackTraces = false) {ad : Nat → Nat} {B : BT} {E : Int × Nat} {S Y V : Nat → Int → Int} {R : va_W} {p : Int} (hI : MI Y) (hR : PR C E Y R) (hp : Rg p)  : MX C l yX4_glue cX4_glue 3 (some .int) 4 6 40 [.ref (ad 3), vi p] (wC C ad B E S Y V ++ R) (po ((0 ≤ p ∧ p < Y 10 0) ∧ (canF Y p)) (Y 12 0 + 1) (fun Z => wC C ad B E Z (u2 (u2 Y 11 (Y 12 0) p) 12 0 (Y 12 0 + 1)) V ++ R)) (px3 (0 ≤ p ∧ p < Y 10 0) (canF Y p) True "java/lang/IndexOutOfBoundsException" "java/lang/IllegalStateException" "java/lang/IllegalStateException" (fun Z => wC C ad B E Z Y V ++ R)) := by
  refine mx_of (by decide +kernel) (Nat.le_of_ble_eq_true rfl) hfl (fun K Q X r rx => ?_)
  have X : Cx C l "Springleaf" cX4_glue 3 4 6 40 K := X
  have I3 := hI.1
  have I10 := hI.2.2.1
  have I12 := hI.2.2.2.2.1
  obtain ⟨p1, p2⟩ := hp
  show G C K Q 0 0 0 [(0, .ref (ad 3)), (1, vi p)] [] (wC C ad B E S Y V ++ R)
  refine g_aload_n (t := 1) X dX4_glue_0 0 rfl rfl ?_
  refine g_iload_n (t := 2) X dX4_glue_1 1 rfl rfl ?_
  refine gx_callV (t := 5) (mc := 1) (ms := 6) (rest := []) X mt_X4_requirePart q3_95 q3_97 qs_7 3 wC_3 rfl (c_X4_requirePart hfl hI ⟨by omega, by omega⟩) (by decide) (Nat.le_of_ble_eq_true rfl) (Nat.le_of_ble_eq_true rfl) (Nat.le_of_ble_eq_true rfl) rfl rfl dX4_glue_2 rfl (k_ck (fun h_2 => ?_)) (k_cx (fun h_2 => g_prop X rx (Nat.le_of_ble_eq_true rfl) (Nat.le_of_ble_eq_true rfl) ⟨⟨S, rfl⟩, Or.inl ⟨rfl, by omega⟩⟩))
  have hsr : -1 ≤ stepF Y p ∧ stepF Y p < Y 12 0 := by have h9 := stp_rng (Y 11) p (Y 12 0).toNat; unfold stepF; omega
  refine g_aload_n (t := 6) X dX4_glue_5 0 rfl rfl ?_
  refine getf_X4 (t := 9) X 2 (by decide) q1_189 rfl rfl dX4_glue_6 rfl ?_
  refine g_iload_n (t := 10) X dX4_glue_9 1 rfl rfl ?_
  refine g_callV (t := 13) (mc := 0) (ms := 0) (rest := []) X mt_X1_stepOf q3_125 q3_126 q3_127 11 wC_11 rfl (c_X1_stepOf hfl hI ⟨by omega, by omega⟩) (by decide) (Nat.le_of_ble_eq_true rfl) (Nat.le_of_ble_eq_true rfl) (Nat.le_of_ble_eq_true rfl) rfl rfl dX4_glue_10 rfl (k_rv ?_)
  refine g_iconst (t := 14) X dX4_glue_13 rfl ?_
  refine g_icmp_eq (t := 27) (u := 17) X dX4_glue_14 (by decide) rfl ⟨by omega, by omega⟩ ⟨by omega, by omega⟩ (fun c_14 => ?_) (fun c_14 => ?_)
  · obtain ⟨cap9, qe9, f9, hcap9, hqe9, hall9⟩ := hR (by omega)
    refine g_aload_n (t := 28) X dX4_glue_27 0 rfl rfl ?_
    refine getf_X4 (t := 31) X 1 (by decide) q1_188 rfl rfl dX4_glue_28 rfl ?_
    refine g_iload_n (t := 32) X dX4_glue_31 1 rfl rfl ?_
    obtain ⟨a_32, k_32, ef_32, ek_32⟩ := hall9 p (by omega) (by omega)
    have hp_32 := hI.2.2.2.1 p (by omega) (by omega)
    refine g_callV (t := 35) (mc := 0) (ms := 0) (rest := []) X mt_Jx4a65c_get_915e3 q1_229 q1_230 q1_231 2 wC_2 rfl (c_Jx4a65c_get_915e3 (E := E) hfl 2 wC_2 (qe9 + 22) (wC_R.trans hqe9) (by omega) (by omega) (by omega) ef_32 (by omega) (by omega)) (by decide) (Nat.le_of_ble_eq_true rfl) (Nat.le_of_ble_eq_true rfl) (Nat.le_of_ble_eq_true rfl) rfl rfl dX4_glue_32 rfl (k_rv ?_)
    refine g_castS (t := 38) X (k_32 + 22) (wC_R.trans ek_32) rfl q2_3 dX4_glue_35 rfl ?_
    refine g_astore_n (t := 39) (lv1 := [(2, .ref a_32), (0, .ref (ad 3)), (1, vi p)]) X dX4_glue_38 (by decide) rfl rfl ?_
    refine g_aload_n (t := 40) X dX4_glue_39 1 rfl rfl ?_
    refine g_aload_n (t := 41) X dX4_glue_40 0 rfl rfl ?_
    refine g_callV (t := 44) (mc := 0) (ms := 0) (rest := []) X mt_X4_isStartCovered q3_130 q3_132 qs_8 3 wC_3 rfl (c_X4_isStartCovered hfl hI hR (by omega) (by omega) ek_32) (by decide) (Nat.le_of_ble_eq_true rfl) (Nat.le_of_ble_eq_true rfl) (Nat.le_of_ble_eq_true rfl) rfl rfl dX4_glue_41 rfl (k_rbz (fun Z41 b_41 => ?_) (fun Z41 b_41 => ?_))
    · refine g_if_ne (t := 55) (u := 47) X dX4_glue_44 (by decide) rfl ⟨by omega, by omega⟩ (fun _ => ?_) (fun c => absurd c (by decide))
      exact g_throw X rx (is := 156) (text := "the part cannot be glued") rfl (by decide +kernel) q2_184 q1_21 (List.mem_of_getElem? (i := 10) rfl) tx_S dX4_glue_55 dX4_glue_58 dX4_glue_59 dX4_glue_61 dX4_glue_64 (Nat.le_of_ble_eq_true rfl) (by decide) (Nat.le_of_ble_eq_true rfl) (Nat.le_of_ble_eq_true rfl) (Nat.le_of_ble_eq_true rfl) (Nat.le_of_ble_eq_true rfl) ⟨⟨Z41, rfl⟩, Or.inr (Or.inl ⟨rfl, by omega, fun h => by first | exact b_49 h.1 | (obtain ⟨k, k0, k1, hc⟩ := b_41; exact h.2.2 k k0 k1 hc)⟩)⟩
    · refine g_if_ne (t := 55) (u := 47) X dX4_glue_44 (by decide) rfl ⟨by omega, by omega⟩ (fun c => absurd c (by decide)) (fun _ => ?_)
      refine g_aload_n (t := 48) X dX4_glue_47 1 rfl rfl ?_
      refine g_aload_n (t := 49) X dX4_glue_48 0 rfl rfl ?_
      refine g_callV (t := 52) (mc := 0) (ms := 0) (rest := []) X mt_X4_hasHold q3_138 q3_140 qs_9 3 wC_3 rfl (c_X4_hasHold hfl hI hR (by omega) (by omega) ek_32) (by decide) (Nat.le_of_ble_eq_true rfl) (Nat.le_of_ble_eq_true rfl) (Nat.le_of_ble_eq_true rfl) rfl rfl dX4_glue_49 rfl (k_rb (fun b_49 => ?_) (fun b_49 => ?_))
      · refine g_if_ne (t := 65) (u := 55) X dX4_glue_52 (by decide) rfl ⟨by omega, by omega⟩ (fun _ => ?_) (fun c => absurd c (by decide))
        have hlt := glue_lt hI h_2.1 h_2.2 (by omega)
        refine g_aload_n (t := 66) X dX4_glue_65 1 rfl rfl ?_
        refine getf_X4 (t := 69) X 2 (by decide) q1_189 rfl rfl dX4_glue_66 rfl ?_
        refine g_iload_n (t := 70) X dX4_glue_69 2 rfl rfl ?_
        refine g_callV (t := 73) (mc := 0) (ms := 0) (rest := []) X mt_X1_push q3_143 q3_144 q3_145 11 wC_11 rfl (c_X1_push hfl (by omega) (by omega)) (by decide) (Nat.le_of_ble_eq_true rfl) (Nat.le_of_ble_eq_true rfl) (Nat.le_of_ble_eq_true rfl) rfl rfl dX4_glue_70 rfl (k_rv ?_)
        exact g_iret X r ⟨⟨h_2, ⟨b_49, by omega, fun k k0 k1 hc => b_41 ⟨k, k0, k1, hc⟩⟩⟩, Z41, rfl, rfl⟩ (Nat.le_of_ble_eq_true rfl) (Nat.le_of_ble_eq_true rfl) dX4_glue_73
      · refine g_if_ne (t := 65) (u := 55) X dX4_glue_52 (by decide) rfl ⟨by omega, by omega⟩ (fun c => absurd c (by decide)) (fun _ => ?_)
        exact g_throw X rx (is := 156) (text := "the part cannot be glued") rfl (by decide +kernel) q2_184 q1_21 (List.mem_of_getElem? (i := 10) rfl) tx_S dX4_glue_55 dX4_glue_58 dX4_glue_59 dX4_glue_61 dX4_glue_64 (Nat.le_of_ble_eq_true rfl) (by decide) (Nat.le_of_ble_eq_true rfl) (Nat.le_of_ble_eq_true rfl) (Nat.le_of_ble_eq_true rfl) (Nat.le_of_ble_eq_true rfl) ⟨⟨Z41, rfl⟩, Or.inr (Or.inl ⟨rfl, by omega, fun h => by first | exact b_49 h.1 | (obtain ⟨k, k0, k1, hc⟩ := b_41; exact h.2.2 k k0 k1 hc)⟩)⟩
  · exact g_throw X rx (is := 147) (text := "the part is glued") rfl (by decide +kernel) q2_184 q1_21 (List.mem_of_getElem? (i := 9) rfl) tx_S dX4_glue_17 dX4_glue_20 dX4_glue_21 dX4_glue_23 dX4_glue_26 (Nat.le_of_ble_eq_true rfl) (by decide) (Nat.le_of_ble_eq_true rfl) (Nat.le_of_ble_eq_true rfl) (Nat.le_of_ble_eq_true rfl) (Nat.le_of_ble_eq_true rfl) ⟨⟨S, rfl⟩, Or.inr (Or.inl ⟨rfl, by omega, fun h => by have h8 := h.2.1; omega⟩)⟩

set_option maxHeartbeats 4000000 in
set_option maxRecDepth 100000 in
/-- unglue() -/
theorem c_X4_unglue {C : WC} {l : Launch} (hfl : l.stackTraces = false) {ad : Nat → Nat} {B : BT} {E : Int × Nat} {S Y V : Nat → Int → Int} {R : va_W}  (hI : MI Y) (hR : PR C E Y R)   : MX C l yX4_unglue cX4_unglue 2 (some .int) 2 6 40 [.ref (ad 3)] (wC C ad B E S Y V ++ R) (po ((Y 12 0 ≠ 0)) (Y 11 (Y 12 0 - 1)) (fun Z => wC C ad B E Z (u2 Y 12 0 (Y 12 0 - 1)) V ++ R)) (px3 (Y 12 0 ≠ 0) True True "java/lang/IllegalStateException" "java/lang/IllegalStateException" "java/lang/IllegalStateException" (fun Z => wC C ad B E Z Y V ++ R)) := by
  refine mx_of (by decide +kernel) (Nat.le_of_ble_eq_true rfl) hfl (fun K Q X r rx => ?_)
  have X : Cx C l "Springleaf" cX4_unglue 2 2 6 40 K := X
  have I3 := hI.1
  have I10 := hI.2.2.1
  have I12 := hI.2.2.2.2.1
  show G C K Q 0 0 0 [(0, .ref (ad 3))] [] (wC C ad B E S Y V ++ R)
  refine g_aload_n (t := 1) X dX4_unglue_0 0 rfl rfl ?_
  refine getf_X4 (t := 4) X 2 (by decide) q1_189 rfl rfl dX4_unglue_1 rfl ?_
  refine getf_X1 (t := 7) X 1 (by decide) q1_140 rfl rfl dX4_unglue_4 rfl ?_
  refine g_if_ne (t := 20) (u := 10) X dX4_unglue_7 (by decide) rfl ⟨by omega, by omega⟩ (fun c_7 => ?_) (fun c_7 => ?_)
  · refine g_aload_n (t := 21) X dX4_unglue_20 0 rfl rfl ?_
    refine getf_X4 (t := 24) X 2 (by decide) q1_189 rfl rfl dX4_unglue_21 rfl ?_
    refine g_aload_n (t := 25) X dX4_unglue_24 0 rfl rfl ?_
    refine getf_X4 (t := 28) X 2 (by decide) q1_189 rfl rfl dX4_unglue_25 rfl ?_
    refine getf_X1 (t := 31) X 1 (by decide) q1_140 rfl rfl dX4_unglue_28 rfl ?_
    refine g_iconst (t := 32) X dX4_unglue_31 rfl ?_
    refine g_isub (t := 33) X dX4_unglue_32 rfl ?_
    refine g_callV (t := 36) (mc := 0) (ms := 0) (rest := []) X mt_X1_partAt q3_134 q3_135 q3_136 11 wC_11 rfl (c_X1_partAt hfl hI ⟨by omega, by omega⟩) (by decide) (Nat.le_of_ble_eq_true rfl) (Nat.le_of_ble_eq_true rfl) (Nat.le_of_ble_eq_true rfl) rfl rfl dX4_unglue_33 rfl (k_rv ?_)
    rw [show ptF Y ((Y 12 0) - 1) = Y 11 ((Y 12 0) - 1) from if_pos ⟨by omega, by omega⟩]
    have ho_33 := hI.2.2.2.2.2.1 ((Y 12 0) - 1) (by omega) (by omega)
    refine g_istore_n (t := 37) (lv1 := [(1, vi (Y 11 ((Y 12 0) - 1))), (0, .ref (ad 3))]) X dX4_unglue_36 (by decide) rfl rfl ?_
    refine g_aload_n (t := 38) X dX4_unglue_37 1 rfl rfl ?_
    refine getf_X4 (t := 41) X 2 (by decide) q1_189 rfl rfl dX4_unglue_38 rfl ?_
    refine g_aload_n (t := 42) X dX4_unglue_41 1 rfl rfl ?_
    refine getf_X4 (t := 45) X 2 (by decide) q1_189 rfl rfl dX4_unglue_42 rfl ?_
    refine getf_X1 (t := 48) X 1 (by decide) q1_140 rfl rfl dX4_unglue_45 rfl ?_
    refine g_iconst (t := 49) X dX4_unglue_48 rfl ?_
    refine g_isub (t := 50) X dX4_unglue_49 rfl ?_
    refine g_callV (t := 53) (mc := 0) (ms := 0) (rest := []) X mt_X1_cutTo q3_155 q3_156 q3_157 11 wC_11 rfl (c_X1_cutTo hfl) (by decide) (Nat.le_of_ble_eq_true rfl) (Nat.le_of_ble_eq_true rfl) (Nat.le_of_ble_eq_true rfl) rfl rfl dX4_unglue_50 rfl (k_rv ?_)
    refine g_pop (t := 54) X dX4_unglue_53 rfl rfl ?_
    refine g_iload_n (t := 55) X dX4_unglue_54 0 rfl rfl ?_
    exact g_iret X r ⟨by omega, S, rfl, rfl⟩ (Nat.le_of_ble_eq_true rfl) (Nat.le_of_ble_eq_true rfl) dX4_unglue_55
  · exact g_throw X rx (is := 162) (text := "no part is glued") rfl (by decide +kernel) q2_184 q1_21 (List.mem_of_getElem? (i := 11) rfl) tx_S dX4_unglue_10 dX4_unglue_13 dX4_unglue_14 dX4_unglue_16 dX4_unglue_19 (Nat.le_of_ble_eq_true rfl) (by decide) (Nat.le_of_ble_eq_true rfl) (Nat.le_of_ble_eq_true rfl) (Nat.le_of_ble_eq_true rfl) (Nat.le_of_ble_eq_true rfl) ⟨⟨S, rfl⟩, Or.inl ⟨rfl, by omega⟩⟩

set_option maxHeartbeats 4000000 in
set_option maxRecDepth 100000 in
/-- glued(step) -/
theorem c_X4_glued {C : WC} {l : Launch} (hfl : l.stackTraces = false) {ad : Nat → Nat} {B : BT} {E : Int × Nat} {S Y V : Nat → Int → Int} {R : va_W} {x : Int} (hI : MI Y) (hR : PR C E Y R) (hx : Rg x)  : MX C l yX4_glued cX4_glued 2 (some .int) 2 6 40 [.ref (ad 3), vi x] (wC C ad B E S Y V ++ R) (po ((0 ≤ x)) (if x < Y 12 0 then Y 11 x else -1) (fun Z => wC C ad B E Z Y V ++ R)) (px3 (0 ≤ x) True True "java/lang/IndexOutOfBoundsException" "java/lang/IndexOutOfBoundsException" "java/lang/IndexOutOfBoundsException" (fun Z => wC C ad B E Z Y V ++ R)) := by
  refine mx_of (by decide +kernel) (Nat.le_of_ble_eq_true rfl) hfl (fun K Q X r rx => ?_)
  have X : Cx C l "Springleaf" cX4_glued 2 2 6 40 K := X
  have I3 := hI.1
  have I10 := hI.2.2.1
  have I12 := hI.2.2.2.2.1
  obtain ⟨x1, x2⟩ := hx
  show G C K Q 0 0 0 [(0, .ref (ad 3)), (1, vi x)] [] (wC C ad B E S Y V ++ R)
  refine g_iload_n (t := 1) X dX4_glued_0 1 rfl rfl ?_
  refine g_if_ge (t := 14) (u := 4) X dX4_glued_1 (by decide) rfl ⟨by omega, by omega⟩ (fun c_1 => ?_) (fun c_1 => ?_)
  · refine g_aload_n (t := 15) X dX4_glued_14 0 rfl rfl ?_
    refine getf_X4 (t := 18) X 2 (by decide) q1_189 rfl rfl dX4_glued_15 rfl ?_
    refine g_iload_n (t := 19) X dX4_glued_18 1 rfl rfl ?_
    refine g_callV (t := 22) (mc := 0) (ms := 0) (rest := []) X mt_X1_partAt q3_134 q3_135 q3_136 11 wC_11 rfl (c_X1_partAt hfl hI ⟨by omega, by omega⟩) (by decide) (Nat.le_of_ble_eq_true rfl) (Nat.le_of_ble_eq_true rfl) (Nat.le_of_ble_eq_true rfl) rfl rfl dX4_glued_19 rfl (k_rv ?_)
    exact g_iret X r ⟨by omega, S, by unfold ptF; congr 2; split <;> split <;> first | rfl | omega, rfl⟩ (Nat.le_of_ble_eq_true rfl) (Nat.le_of_ble_eq_true rfl) dX4_glued_22
  · exact g_throw X rx (is := 172) (text := "there is no such step") rfl (by decide +kernel) q2_98 q1_16 (List.mem_of_getElem? (i := 12) rfl) tx_I dX4_glued_4 dX4_glued_7 dX4_glued_8 dX4_glued_10 dX4_glued_13 (Nat.le_of_ble_eq_true rfl) (by decide) (Nat.le_of_ble_eq_true rfl) (Nat.le_of_ble_eq_true rfl) (Nat.le_of_ble_eq_true rfl) (Nat.le_of_ble_eq_true rfl) ⟨⟨S, rfl⟩, Or.inl ⟨rfl, by omega⟩⟩

set_option maxHeartbeats 4000000 in
set_option maxRecDepth 100000 in
/-- fold(on, pull, lean) -/
theorem c_X4_fold {C : WC} {l : Launch} (hfl : l.stackTraces = false) {ad : Nat → Nat} {B : BT} {E : Int × Nat} {S Y V : Nat → Int → Int} {R : va_W} {f x y : Int} (hI : MI Y) (hR : PR C E Y R) (hf : Rg f) (hx : Rg x) (hy : Rg y)  : MX C l yX4_fold cX4_fold 4 (some .int) 6 6 40 [.ref (ad 3), vi f, vi x, vi y] (wC C ad B E S Y V ++ R) (po ((0 ≤ f ∧ f < Y 3 0) ∧ ((1 ≤ x ∧ x ≤ 8) ∧ -90 ≤ y ∧ y ≤ 90) ∧ (Y 3 0 ≠ 12 ∧ ¬ boundF Y)) (Y 3 0) (fun Z => wC C ad B E Z (u2 (u2 (u2 (u2 Y 0 (Y 3 0) f) 1 (Y 3 0) x) 2 (Y 3 0) y) 3 0 (Y 3 0 + 1)) V ++ R)) (px3 (0 ≤ f ∧ f < Y 3 0) ((1 ≤ x ∧ x ≤ 8) ∧ -90 ≤ y ∧ y ≤ 90) (Y 3 0 ≠ 12 ∧ ¬ boundF Y) "java/lang/IndexOutOfBoundsException" "java/lang/IllegalArgumentException" "java/lang/IllegalStateException" (fun Z => wC C ad B E Z Y V ++ R)) := by
  refine mx_of (by decide +kernel) (Nat.le_of_ble_eq_true rfl) hfl (fun K Q X r rx => ?_)
  have X : Cx C l "Springleaf" cX4_fold 4 6 6 40 K := X
  have I3 := hI.1
  have I10 := hI.2.2.1
  have I12 := hI.2.2.2.2.1
  obtain ⟨f1, f2⟩ := hf
  obtain ⟨x1, x2⟩ := hx
  obtain ⟨y1, y2⟩ := hy
  show G C K Q 0 0 0 [(0, .ref (ad 3)), (1, vi f), (2, vi x), (3, vi y)] [] (wC C ad B E S Y V ++ R)
  refine g_aload_n (t := 1) X dX4_fold_0 0 rfl rfl ?_
  refine g_iload_n (t := 2) X dX4_fold_1 1 rfl rfl ?_
  refine gx_callV (t := 5) (mc := 1) (ms := 6) (rest := []) X mt_X4_requireFold q2_91 q2_93 qs_2 3 wC_3 rfl (c_X4_requireFold hfl hI ⟨by omega, by omega⟩) (by decide) (Nat.le_of_ble_eq_true rfl) (Nat.le_of_ble_eq_true rfl) (Nat.le_of_ble_eq_true rfl) rfl rfl dX4_fold_2 rfl (k_ck (fun h_2 => ?_)) (k_cx (fun h_2 => g_prop X rx (Nat.le_of_ble_eq_true rfl) (Nat.le_of_ble_eq_true rfl) ⟨⟨S, rfl⟩, Or.inl ⟨rfl, by omega⟩⟩))
  refine g_iload_n (t := 6) X dX4_fold_5 2 rfl rfl ?_
  refine g_iconst (t := 7) X dX4_fold_6 rfl ?_
  refine g_bipush (t := 9) (z := 8) X dX4_fold_7 (by decide +kernel) rfl ?_
  refine g_callS (t := 12) (mc := 0) (ms := 0) (rest := []) X mt_X4_isOutside q2_95 q2_96 (c_X4_isOutside hfl ⟨by omega, by omega⟩ ⟨by omega, by omega⟩ ⟨by omega, by omega⟩) (by decide) (Nat.le_of_ble_eq_true rfl) (Nat.le_of_ble_eq_true rfl) (Nat.le_of_ble_eq_true rfl) rfl rfl dX4_fold_9 rfl (k_rb (fun b_9 => ?_) (fun b_9 => ?_))
  · refine g_if_ne (t := 26) (u := 15) X dX4_fold_12 (by decide) rfl ⟨by omega, by omega⟩ (fun _ => ?_) (fun c => absurd c (by decide))
    exact g_throw X rx (is := 47) (text := "pull is 1 to 8, lean -90 to 90") rfl (by decide +kernel) q2_167 q1_17 (List.mem_of_getElem? (i := 1) rfl) tx_A dX4_fold_26 dX4_fold_29 dX4_fold_30 dX4_fold_32 dX4_fold_35 (Nat.le_of_ble_eq_true rfl) (by decide) (Nat.le_of_ble_eq_true rfl) (Nat.le_of_ble_eq_true rfl) (Nat.le_of_ble_eq_true rfl) (Nat.le_of_ble_eq_true rfl) ⟨⟨S, rfl⟩, Or.inr (Or.inl ⟨rfl, by omega, by omega⟩)⟩
  · refine g_if_ne (t := 26) (u := 15) X dX4_fold_12 (by decide) rfl ⟨by omega, by omega⟩ (fun c => absurd c (by decide)) (fun _ => ?_)
    refine g_iload_n (t := 16) X dX4_fold_15 3 rfl rfl ?_
    refine g_bipush (t := 18) (z := (-90)) X dX4_fold_16 (by decide +kernel) rfl ?_
    refine g_bipush (t := 20) (z := 90) X dX4_fold_18 (by decide +kernel) rfl ?_
    refine g_callS (t := 23) (mc := 0) (ms := 0) (rest := []) X mt_X4_isOutside q2_95 q2_96 (c_X4_isOutside hfl ⟨by omega, by omega⟩ ⟨by omega, by omega⟩ ⟨by omega, by omega⟩) (by decide) (Nat.le_of_ble_eq_true rfl) (Nat.le_of_ble_eq_true rfl) (Nat.le_of_ble_eq_true rfl) rfl rfl dX4_fold_20 rfl (k_rb (fun b_20 => ?_) (fun b_20 => ?_))
    · refine g_if_eq (t := 36) (u := 26) X dX4_fold_23 (by decide) rfl ⟨by omega, by omega⟩ (fun c => absurd c (by decide)) (fun _ => ?_)
      exact g_throw X rx (is := 47) (text := "pull is 1 to 8, lean -90 to 90") rfl (by decide +kernel) q2_167 q1_17 (List.mem_of_getElem? (i := 1) rfl) tx_A dX4_fold_26 dX4_fold_29 dX4_fold_30 dX4_fold_32 dX4_fold_35 (Nat.le_of_ble_eq_true rfl) (by decide) (Nat.le_of_ble_eq_true rfl) (Nat.le_of_ble_eq_true rfl) (Nat.le_of_ble_eq_true rfl) (Nat.le_of_ble_eq_true rfl) ⟨⟨S, rfl⟩, Or.inr (Or.inl ⟨rfl, by omega, by omega⟩)⟩
    · refine g_if_eq (t := 36) (u := 26) X dX4_fold_23 (by decide) rfl ⟨by omega, by omega⟩ (fun _ => ?_) (fun c => absurd c (by decide))
      refine g_aload_n (t := 37) X dX4_fold_36 0 rfl rfl ?_
      refine getf_X4 (t := 40) X 0 (by decide) q1_187 rfl rfl dX4_fold_37 rfl ?_
      refine getf_X0 (t := 43) X 3 (by decide) q1_84 rfl rfl dX4_fold_40 rfl ?_
      refine g_bipush (t := 45) (z := 12) X dX4_fold_43 (by decide +kernel) rfl ?_
      refine g_icmp_ge (t := 55) (u := 48) X dX4_fold_45 (by decide) rfl ⟨by omega, by omega⟩ ⟨by omega, by omega⟩ (fun c_45 => ?_) (fun c_45 => ?_)
      · exact g_throw X rx (is := 62) (text := "there are 12 folds, or the page is bound") rfl (by decide +kernel) q2_184 q1_21 (List.mem_of_getElem? (i := 2) rfl) tx_S dX4_fold_55 dX4_fold_58 dX4_fold_59 dX4_fold_61 dX4_fold_64 (Nat.le_of_ble_eq_true rfl) (by decide) (Nat.le_of_ble_eq_true rfl) (Nat.le_of_ble_eq_true rfl) (Nat.le_of_ble_eq_true rfl) (Nat.le_of_ble_eq_true rfl) ⟨⟨S, rfl⟩, Or.inr (Or.inr ⟨rfl, by omega, by omega, fun h => by first | exact h.2 b_49 | omega⟩)⟩
      · refine g_aload_n (t := 49) X dX4_fold_48 0 rfl rfl ?_
        refine g_callV (t := 52) (mc := 0) (ms := 0) (rest := []) X mt_X4_isBound q2_183 q2_73 q2_74 3 wC_3 rfl (c_X4_isBound hfl hI hR) (by decide) (Nat.le_of_ble_eq_true rfl) (Nat.le_of_ble_eq_true rfl) (Nat.le_of_ble_eq_true rfl) rfl rfl dX4_fold_49 rfl (k_rbz (fun Z49 b_49 => ?_) (fun Z49 b_49 => ?_))
        · refine g_if_eq (t := 65) (u := 55) X dX4_fold_52 (by decide) rfl ⟨by omega, by omega⟩ (fun c => absurd c (by decide)) (fun _ => ?_)
          exact g_throw X rx (is := 62) (text := "there are 12 folds, or the page is bound") rfl (by decide +kernel) q2_184 q1_21 (List.mem_of_getElem? (i := 2) rfl) tx_S dX4_fold_55 dX4_fold_58 dX4_fold_59 dX4_fold_61 dX4_fold_64 (Nat.le_of_ble_eq_true rfl) (by decide) (Nat.le_of_ble_eq_true rfl) (Nat.le_of_ble_eq_true rfl) (Nat.le_of_ble_eq_true rfl) (Nat.le_of_ble_eq_true rfl) ⟨⟨Z49, rfl⟩, Or.inr (Or.inr ⟨rfl, by omega, by omega, fun h => by first | exact h.2 b_49 | omega⟩)⟩
        · refine g_if_eq (t := 65) (u := 55) X dX4_fold_52 (by decide) rfl ⟨by omega, by omega⟩ (fun _ => ?_) (fun c => absurd c (by decide))
          refine g_aload_n (t := 66) X dX4_fold_65 0 rfl rfl ?_
          refine getf_X4 (t := 69) X 0 (by decide) q1_187 rfl rfl dX4_fold_66 rfl ?_
          refine g_iload_n (t := 70) X dX4_fold_69 1 rfl rfl ?_
          refine g_iload_n (t := 71) X dX4_fold_70 2 rfl rfl ?_
          refine g_iload_n (t := 72) X dX4_fold_71 3 rfl rfl ?_
          refine g_callV (t := 75) (mc := 0) (ms := 0) (rest := []) X mt_X0_add q2_200 q2_201 q2_202 4 wC_4 rfl (c_X0_add hfl hI (by omega)) (by decide) (Nat.le_of_ble_eq_true rfl) (Nat.le_of_ble_eq_true rfl) (Nat.le_of_ble_eq_true rfl) rfl rfl dX4_fold_72 rfl (k_rv ?_)
          exact g_iret X r ⟨⟨h_2, by omega, by omega, b_49⟩, Z49, rfl, rfl⟩ (Nat.le_of_ble_eq_true rfl) (Nat.le_of_ble_eq_true rfl) dX4_fold_75

theorem tell_rng {Y : Nat → Int → Int} (hI : MI Y) {f x : Int} (f0 : 0 ≤ f) (f1 : f < Y 3 0) (x0 : 0 ≤ x) : 0 ≤ tellF Y f x ∧ tellF Y f x < 128 := by
  have key : ∀ (n : Nat) (f x : Int), 0 ≤ f → f < Y 3 0 → 0 ≤ x → 0 ≤ tl Y n f x ∧ tl Y n f x < 128 := by
    intro n
    induction n with
    | zero => intro f x _ _ _; exact ⟨Int.le_refl 0, show (0 : Int) < 128 by decide⟩
    | succ n ih =>
      intro f x g0 g1 x0
      simp only [tl]
      split
      · have ho := hI.2.1 f (by omega) g1
        have hs := sg_rng Y f
        exact ih _ _ (by omega) (by omega) (by omega)
      · split
        · exact ch_rng hI g0 g1 x0 (by omega)
        · exact ⟨Int.le_refl 0, by decide⟩
  exact key 13 f x f0 f1 x0
set_option maxHeartbeats 4000000 in
set_option maxRecDepth 100000 in
/-- tells(fold, place) -/
theorem c_X4_tells {C : WC} {l : Launch} (hfl : l.stackTraces = false) {ad : Nat → Nat} {bv cap : Nat} {bt : Int → Int} {cnt ml : Int} {E : Int × Nat} {S Y V : Nat → Int → Int} {R : va_W} {f x : Int} (hI : MI Y) (hf : Rg f) (hx : Rg x) (c16 : 16 ≤ cap) (c3 : cap ≤ 300) (k0 : 0 ≤ cnt) (k1 : cnt ≤ cap) (hb : Lat cap bt) : MX C l yX4_tells cX4_tells 3 (some .char) 7 310 640 [.ref (ad 3), vi f, vi x] (wC C ad (bv, cap, bt, cnt, ml) E S Y V ++ R) (fun v w => ((0 ≤ f ∧ f < Y 3 0) ∧ 0 ≤ x) ∧ ∃ B : BT, BI B ∧ v = some (vi (tellF Y f x)) ∧ w = wC C ad B E S Y V ++ R) (px3 ((0 ≤ f ∧ f < Y 3 0) ∧ 0 ≤ x) True True "java/lang/IndexOutOfBoundsException" "java/lang/IndexOutOfBoundsException" "java/lang/IndexOutOfBoundsException" (fun Z => wC C ad (bv, cap, bt, cnt, ml) E Z Y V ++ R)) := by
  refine mx_of (by decide +kernel) (Nat.le_of_ble_eq_true rfl) hfl (fun K Q X r rx => ?_)
  have X : Cx C l "Springleaf" cX4_tells 3 7 310 640 K := X
  have I3 := hI.1
  have I10 := hI.2.2.1
  have I12 := hI.2.2.2.2.1
  obtain ⟨f1, f2⟩ := hf
  obtain ⟨x1, x2⟩ := hx
  show G C K Q 0 0 0 [(0, .ref (ad 3)), (1, vi f), (2, vi x)] [] (wC C ad (bv, cap, bt, cnt, ml) E S Y V ++ R)
  refine g_aload_n (t := 1) X dX4_tells_0 0 rfl rfl ?_
  refine g_iload_n (t := 2) X dX4_tells_1 1 rfl rfl ?_
  refine gx_callV (t := 5) (mc := 1) (ms := 6) (rest := []) X mt_X4_requireFold q2_91 q2_93 qs_2 3 wC_3 rfl (c_X4_requireFold hfl hI ⟨by omega, by omega⟩) (by decide) (Nat.le_of_ble_eq_true rfl) (Nat.le_of_ble_eq_true rfl) (Nat.le_of_ble_eq_true rfl) rfl rfl dX4_tells_2 rfl (k_ck (fun h_2 => ?_)) (k_cx (fun h_2 => g_prop X rx (Nat.le_of_ble_eq_true rfl) (Nat.le_of_ble_eq_true rfl) ⟨⟨S, rfl⟩, Or.inl ⟨rfl, by omega⟩⟩))
  refine g_iload_n (t := 6) X dX4_tells_5 2 rfl rfl ?_
  refine g_if_ge (t := 19) (u := 9) X dX4_tells_6 (by decide) rfl ⟨by omega, by omega⟩ (fun c_6 => ?_) (fun c_6 => ?_)
  · refine g_aload_n (t := 20) X dX4_tells_19 0 rfl rfl ?_
    refine getf_X4 (t := 23) X 0 (by decide) q1_187 rfl rfl dX4_tells_20 rfl ?_
    refine g_iload_n (t := 24) X dX4_tells_23 1 rfl rfl ?_
    refine g_iload_n (t := 25) X dX4_tells_24 2 rfl rfl ?_
    refine g_callV (t := 28) (mc := 300) (ms := 600) (rest := []) X mt_X0_signAt q3_182 q3_183 q3_184 4 wC_4 rfl (c_X0_signAt hfl hI (by omega) (by omega) (by omega) (by omega) c16 c3 k0 k1 hb) (by decide) (Nat.le_of_ble_eq_true rfl) (Nat.le_of_ble_eq_true rfl) (Nat.le_of_ble_eq_true rfl) rfl rfl dX4_tells_25 rfl (k_ex (fun B9 hB9 => ?_))
    exact g_zret X r (by have h9 := tell_rng hI h_2.1 h_2.2 (x := x) (by omega); exact nar_c (by omega) (by omega)) ⟨⟨h_2, by omega⟩, B9, hB9, rfl, rfl⟩ (Nat.le_of_ble_eq_true rfl) (Nat.le_of_ble_eq_true rfl) dX4_tells_28
  · exact g_throw X rx (is := 184) (text := "there is no such place") rfl (by decide +kernel) q2_98 q1_16 (List.mem_of_getElem? (i := 13) rfl) tx_I dX4_tells_9 dX4_tells_12 dX4_tells_13 dX4_tells_15 dX4_tells_18 (Nat.le_of_ble_eq_true rfl) (by decide) (Nat.le_of_ble_eq_true rfl) (Nat.le_of_ble_eq_true rfl) (Nat.le_of_ble_eq_true rfl) (Nat.le_of_ble_eq_true rfl) ⟨⟨S, rfl⟩, Or.inl ⟨rfl, by omega⟩⟩

