/-! the text that a fold tells -/
def dch (n k : Int) : Int := 48 + (if dgF n = 2 ∧ k = 0 then n / 10 else n % 10)
def sgF (Y : Nat → Int → Int) (f : Int) : Int := if f = 0 then 2 else 1 + dgF f + 2 + 1 + dgF (abF (Y 2 f)) + 4
def chF (Y : Nat → Int → Int) (f p : Int) : Int :=
  if p = 0 then 102 else if p - 1 < dgF f then dch f (p - 1) else if p - 1 - dgF f < 3 then (if p - 1 - dgF f = 0 then 42 else if p - 1 - dgF f = 1 then 48 + Y 1 f else if Y 2 f < 0 then 45 else 43)
  else if p - 1 - dgF f + (-3) < dgF (abF (Y 2 f)) then dch (abF (Y 2 f)) (p - 1 - dgF f + (-3)) else if p - 1 - dgF f + (-3) - dgF (abF (Y 2 f)) = 1 then 111 else if p - 1 - dgF f + (-3) - dgF (abF (Y 2 f)) = 2 then 110 else 32
theorem dg_rng (x : Int) : 1 ≤ dgF x ∧ dgF x ≤ 2 := by
  unfold dgF
  split <;> omega
theorem sg_rng (Y : Nat → Int → Int) (f : Int) : 2 ≤ sgF Y f ∧ sgF Y f ≤ 12 := by
  have h1 := dg_rng f
  have h2 := dg_rng (abF (Y 2 f))
  unfold sgF
  split <;> omega
theorem dch_rng {n : Int} (h0 : 0 ≤ n) (h1 : n < 100) (k : Int) : 48 ≤ dch n k ∧ dch n k < 58 := by
  unfold dch
  split <;> omega
def tl (Y : Nat → Int → Int) : Nat → Int → Int → Int
  | 0, _, _ => 0
  | n + 1, f, k => if 0 < f ∧ sgF Y f ≤ k then tl Y n (Y 0 f) (k - sgF Y f) else if k < sgF Y f then chF Y f k else 0
def tellF (Y : Nat → Int → Int) (f k : Int) : Int := tl Y 13 f k
theorem tl_fuel {Y : Nat → Int → Int} (hI : MI Y) : ∀ (n m : Nat) (f k : Int), f < Y 3 0 → f < n → f < m → 0 ≤ f → tl Y n f k = tl Y m f k := by
  intro n
  induction n with
  | zero => intro m f k h0 h1 h2 h3; omega
  | succ n ih =>
    intro m f k h0 h1 h2 h3
    cases m with
    | zero => omega
    | succ m =>
      simp only [tl]
      by_cases h : 0 < f ∧ sgF Y f ≤ k
      · rw [if_pos h, if_pos h]
        have := hI.2.1 f (by omega) h0
        exact ih m (Y 0 f) _ (by omega) (by omega) (by omega) (by omega)
      · rw [if_neg h, if_neg h]
theorem tell_step {Y : Nat → Int → Int} (hI : MI Y) {f : Int} (f0 : 0 ≤ f) (f1 : f < Y 3 0) (k : Int) : tellF Y f k = if 0 < f ∧ sgF Y f ≤ k then tellF Y (Y 0 f) (k - sgF Y f) else if k < sgF Y f then chF Y f k else 0 := by
  have e : tellF Y f k = if 0 < f ∧ sgF Y f ≤ k then tl Y 12 (Y 0 f) (k - sgF Y f) else if k < sgF Y f then chF Y f k else 0 := rfl
  rw [e]
  by_cases h : 0 < f ∧ sgF Y f ≤ k
  · have := hI.2.1 f (by omega) f1
    have := hI.1
    rw [if_pos h, if_pos h, tl_fuel hI 12 13 (Y 0 f) _ (by omega) (by omega) (by omega) (by omega)]
    rfl
  · rw [if_neg h, if_neg h]
theorem narc_ok : ∀ n : Fin 256, narrow .char (.int (iZ ((n : Nat) : Int))) = .int (iZ ((n : Nat) : Int)) := by decide +kernel
theorem nar_c {z : Int} (h0 : 0 ≤ z) (h1 : z < 256) : narrow .char (vi z) = vi z := by
  obtain ⟨n, rfl⟩ := nat_of (b := 256) h0 h1
  exact narc_ok n
theorem ab_rng {Y : Nat → Int → Int} (hI : MI Y) {f : Int} (f0 : 1 ≤ f) (f1 : f < Y 3 0) : 0 ≤ abF (Y 2 f) ∧ abF (Y 2 f) ≤ 90 := by
  have := hI.2.1 f f0 f1
  unfold abF
  split <;> omega

set_option maxHeartbeats 4000000 in
set_option maxRecDepth 100000 in
/-- digit(n, k) -/
theorem c_X5_digit {C : WC} {l : Launch} (hfl : l.stackTraces = false) {ad : Nat → Nat} {Y V : Nat → Int → Int} {W : Int → Int} {th : Int} {R : va_W} {n k : Int} (n0 : 0 ≤ n) (n1 : n < 100) (hk : Rg k) : MM C l yX5_digit cX5_digit 3 (some .char) 1 0 0 [.ref (ad 0), vi n, vi k] (wM C ad Y V W th ++ R) (rv (vi (dch n k)) (wM C ad Y V W th ++ R)) := by
  refine mm_of (by decide +kernel) (Nat.le_of_ble_eq_true rfl) hfl (fun K Q X r => ?_)
  have X : Cx C l "SpringleafModel" cX5_digit 3 1 0 0 K := X
  obtain ⟨k1, k2⟩ := hk
  have hd := dg_rng n
  show G C K Q 0 0 0 [(0, .ref (ad 0)), (1, vi n), (2, vi k)] [] (wM C ad Y V W th ++ R)
  refine g_bipush (t := 2) (z := 48) X dX5_digit_0 (by decide +kernel) rfl ?_
  refine g_aload_n (t := 3) X dX5_digit_2 0 rfl rfl ?_
  refine g_iload_n (t := 4) X dX5_digit_3 1 rfl rfl ?_
  refine g_callV (t := 7) (mc := 0) (ms := 0) (rest := [vi 48]) X mt_X5_digits q5_198 q5_200 qs_42 0 wM_0 rfl (c_X5_digits hfl ⟨by omega, by omega⟩) (by decide) (by decide) (by decide) (Nat.le_of_ble_eq_true rfl) rfl rfl dX5_digit_4 rfl (k_rv ?_)
  refine g_iconst (t := 8) X dX5_digit_7 rfl ?_
  refine g_icmp_ne (t := 22) (u := 11) X dX5_digit_8 (by decide) rfl ⟨by omega, by omega⟩ ⟨by omega, by omega⟩ (fun c_8 => ?_) (fun c_8 => ?_)
  · refine g_iload_n (t := 23) X dX5_digit_22 1 rfl rfl ?_
    refine g_bipush (t := 25) (z := 10) X dX5_digit_23 (by decide +kernel) rfl ?_
    refine g_irem (t := 26) X dX5_digit_25 (by omega) (by omega) (by omega) (by omega) rfl ?_
    refine g_iadd (t := 27) X dX5_digit_26 rfl ?_
    refine g_i2c (t := 28) X dX5_digit_27 (by omega) (by omega) rfl ?_
    exact g_zret X r (nar_c (by omega) (by omega)) (rv_i (by unfold dch; first | rw [if_pos (by omega)] | rw [if_neg (by omega)])) (Nat.le_of_ble_eq_true rfl) (Nat.le_of_ble_eq_true rfl) dX5_digit_28
  · refine g_iload_n (t := 12) X dX5_digit_11 2 rfl rfl ?_
    refine g_if_ne (t := 22) (u := 15) X dX5_digit_12 (by decide) rfl ⟨by omega, by omega⟩ (fun c_12 => ?_) (fun c_12 => ?_)
    · refine g_iload_n (t := 23) X dX5_digit_22 1 rfl rfl ?_
      refine g_bipush (t := 25) (z := 10) X dX5_digit_23 (by decide +kernel) rfl ?_
      refine g_irem (t := 26) X dX5_digit_25 (by omega) (by omega) (by omega) (by omega) rfl ?_
      refine g_iadd (t := 27) X dX5_digit_26 rfl ?_
      refine g_i2c (t := 28) X dX5_digit_27 (by omega) (by omega) rfl ?_
      exact g_zret X r (nar_c (by omega) (by omega)) (rv_i (by unfold dch; first | rw [if_pos (by omega)] | rw [if_neg (by omega)])) (Nat.le_of_ble_eq_true rfl) (Nat.le_of_ble_eq_true rfl) dX5_digit_28
    · refine g_iload_n (t := 16) X dX5_digit_15 1 rfl rfl ?_
      refine g_bipush (t := 18) (z := 10) X dX5_digit_16 (by decide +kernel) rfl ?_
      refine g_idiv (t := 19) X dX5_digit_18 ⟨by omega, by omega⟩ ⟨by omega, by omega⟩ (by omega) ⟨by rw [Int.tdiv_eq_ediv_of_nonneg n0]; omega, by rw [Int.tdiv_eq_ediv_of_nonneg n0]; omega⟩ rfl ?_
      rw [Int.tdiv_eq_ediv_of_nonneg n0]
      refine g_goto (t := 26) X dX5_digit_19 (by decide) ?_
      refine g_iadd (t := 27) X dX5_digit_26 rfl ?_
      refine g_i2c (t := 28) X dX5_digit_27 (by omega) (by omega) rfl ?_
      exact g_zret X r (nar_c (by omega) (by omega)) (rv_i (by unfold dch; first | rw [if_pos (by omega)] | rw [if_neg (by omega)])) (Nat.le_of_ble_eq_true rfl) (Nat.le_of_ble_eq_true rfl) dX5_digit_28

set_option maxHeartbeats 4000000 in
set_option maxRecDepth 100000 in
/-- signs(f) -/
theorem c_X5_signs {C : WC} {l : Launch} (hfl : l.stackTraces = false) {ad : Nat → Nat} {Y V : Nat → Int → Int} {W : Int → Int} {th : Int} {R : va_W} {f : Int} (hI : MI Y) (f0 : 0 ≤ f) (f1 : f < Y 3 0) : MM C l yX5_signs cX5_signs 2 (some .int) 1 0 0 [.ref (ad 0), vi f] (wM C ad Y V W th ++ R) (rv (vi (sgF Y f)) (wM C ad Y V W th ++ R)) := by
  refine mm_of (by decide +kernel) (Nat.le_of_ble_eq_true rfl) hfl (fun K Q X r => ?_)
  have X : Cx C l "SpringleafModel" cX5_signs 2 1 0 0 K := X
  have I3 := hI.1
  have I10 := hI.2.2.1
  have I12 := hI.2.2.2.2.1
  have hd := dg_rng f
  have hd2 := dg_rng (abF (Y 2 f))
  show G C K Q 0 0 0 [(0, .ref (ad 0)), (1, vi f)] [] (wM C ad Y V W th ++ R)
  refine g_iload_n (t := 1) X dX5_signs_0 1 rfl rfl ?_
  refine g_if_ne (t := 8) (u := 4) X dX5_signs_1 (by decide) rfl ⟨by omega, by omega⟩ (fun c_1 => ?_) (fun c_1 => ?_)
  · have hf := hI.2.1 f (by omega) (by omega)
    have ha := ab_rng hI (f := f) (by omega) f1
    refine g_iconst (t := 9) X dX5_signs_8 rfl ?_
    refine g_aload_n (t := 10) X dX5_signs_9 0 rfl rfl ?_
    refine g_iload_n (t := 11) X dX5_signs_10 1 rfl rfl ?_
    refine g_callV (t := 14) (mc := 0) (ms := 0) (rest := [vi 1]) X mt_X5_digits q5_198 q5_200 qs_42 0 wM_0 rfl (c_X5_digits hfl ⟨by omega, by omega⟩) (by decide) (by decide) (by decide) (Nat.le_of_ble_eq_true rfl) rfl rfl dX5_signs_11 rfl (k_rv ?_)
    refine g_iadd (t := 15) X dX5_signs_14 rfl ?_
    refine g_iconst (t := 16) X dX5_signs_15 rfl ?_
    refine g_iadd (t := 17) X dX5_signs_16 rfl ?_
    refine g_iconst (t := 18) X dX5_signs_17 rfl ?_
    refine g_iadd (t := 19) X dX5_signs_18 rfl ?_
    refine g_aload_n (t := 20) X dX5_signs_19 0 rfl rfl ?_
    refine g_aload_n (t := 21) X dX5_signs_20 0 rfl rfl ?_
    refine g_aload_n (t := 22) X dX5_signs_21 0 rfl rfl ?_
    refine m_getf (t := 25) X 2 (by decide) q4_211 rfl rfl dX5_signs_22 rfl ?_
    refine g_iload_n (t := 26) X dX5_signs_25 1 rfl rfl ?_
    refine g_iald (t := 27) (f := Y 2) X 3 wM_fn (by omega) (by omega) (by omega) dX5_signs_26 rfl ?_
    refine g_callV (t := 30) (mc := 0) (ms := 0) (rest := [.ref (ad 0), vi (((1 + (dgF f)) + 2) + 1)]) X mt_X5_flat q5_202 q5_204 qs_43 0 wM_0 rfl (c_X5_flat hfl ⟨by omega, by omega⟩) (by decide) (by decide) (by decide) (Nat.le_of_ble_eq_true rfl) rfl rfl dX5_signs_27 rfl (k_rv ?_)
    refine g_callV (t := 33) (mc := 0) (ms := 0) (rest := [vi (((1 + (dgF f)) + 2) + 1)]) X mt_X5_digits q5_198 q5_200 qs_42 0 wM_0 rfl (c_X5_digits hfl ⟨by omega, by omega⟩) (by decide) (by decide) (by decide) (Nat.le_of_ble_eq_true rfl) rfl rfl dX5_signs_30 rfl (k_rv ?_)
    refine g_iadd (t := 34) X dX5_signs_33 rfl ?_
    refine g_iconst (t := 35) X dX5_signs_34 rfl ?_
    refine g_iadd (t := 36) X dX5_signs_35 rfl ?_
    exact g_iret X r (rv_i (by unfold sgF; first | rw [if_pos (by omega)] | rw [if_neg (by omega)])) (Nat.le_of_ble_eq_true rfl) (Nat.le_of_ble_eq_true rfl) dX5_signs_36
  · refine g_iconst (t := 5) X dX5_signs_4 rfl ?_
    refine g_goto (t := 36) X dX5_signs_5 (by decide) ?_
    exact g_iret X r (rv_i (by unfold sgF; first | rw [if_pos (by omega)] | rw [if_neg (by omega)])) (Nat.le_of_ble_eq_true rfl) (Nat.le_of_ble_eq_true rfl) dX5_signs_36

set_option maxHeartbeats 4000000 in
set_option maxRecDepth 100000 in
/-- sign(f, place) -/
theorem c_X5_sign {C : WC} {l : Launch} (hfl : l.stackTraces = false) {ad : Nat → Nat} {Y V : Nat → Int → Int} {W : Int → Int} {th : Int} {R : va_W} {f p : Int} (hI : MI Y) (f0 : 0 ≤ f) (f1 : f < Y 3 0) (p0 : 0 ≤ p) (p1 : p < sgF Y f) : MM C l yX5_sign cX5_sign 4 (some .char) 2 0 0 [.ref (ad 0), vi f, vi p] (wM C ad Y V W th ++ R) (rv (vi (chF Y f p)) (wM C ad Y V W th ++ R)) := by
  refine mm_of (by decide +kernel) (Nat.le_of_ble_eq_true rfl) hfl (fun K Q X r => ?_)
  have X : Cx C l "SpringleafModel" cX5_sign 4 2 0 0 K := X
  have I3 := hI.1
  have I10 := hI.2.2.1
  have I12 := hI.2.2.2.2.1
  have hd := dg_rng f
  have hd2 := dg_rng (abF (Y 2 f))
  have hs := sg_rng Y f
  have hz : f = 0 → sgF Y f = 2 := fun e => by unfold sgF; rw [if_pos e]
  show G C K Q 0 0 0 [(0, .ref (ad 0)), (1, vi f), (2, vi p)] [] (wM C ad Y V W th ++ R)
  refine g_iload_n (t := 1) X dX5_sign_0 2 rfl rfl ?_
  refine g_if_ne (t := 7) (u := 4) X dX5_sign_1 (by decide) rfl ⟨by omega, by omega⟩ (fun c_1 => ?_) (fun c_1 => ?_)
  · refine g_iload_n (t := 8) X dX5_sign_7 2 rfl rfl ?_
    refine g_iconst (t := 9) X dX5_sign_8 rfl ?_
    refine g_isub (t := 10) X dX5_sign_9 rfl ?_
    refine g_istore_n (t := 11) (lv1 := [(3, vi (p - 1)), (0, .ref (ad 0)), (1, vi f), (2, vi p)]) X dX5_sign_10 (by decide) rfl rfl ?_
    refine g_iload_n (t := 12) X dX5_sign_11 0 rfl rfl ?_
    refine g_aload_n (t := 13) X dX5_sign_12 1 rfl rfl ?_
    refine g_iload_n (t := 14) X dX5_sign_13 2 rfl rfl ?_
    refine g_callV (t := 17) (mc := 0) (ms := 0) (rest := [vi (p - 1)]) X mt_X5_digits q5_198 q5_200 qs_42 0 wM_0 rfl (c_X5_digits hfl ⟨by omega, by omega⟩) (by decide) (by decide) (by decide) (Nat.le_of_ble_eq_true rfl) rfl rfl dX5_sign_14 rfl (k_rv ?_)
    refine g_icmp_ge (t := 27) (u := 20) X dX5_sign_17 (by decide) rfl ⟨by omega, by omega⟩ ⟨by omega, by omega⟩ (fun c_17 => ?_) (fun c_17 => ?_)
    · have f2 : 1 ≤ f := by omega
      have hf := hI.2.1 f f2 f1
      have ha := ab_rng hI f2 f1
      refine g_iload_n (t := 28) X dX5_sign_27 0 rfl rfl ?_
      refine g_aload_n (t := 29) X dX5_sign_28 1 rfl rfl ?_
      refine g_iload_n (t := 30) X dX5_sign_29 2 rfl rfl ?_
      refine g_callV (t := 33) (mc := 0) (ms := 0) (rest := [vi (p - 1)]) X mt_X5_digits q5_198 q5_200 qs_42 0 wM_0 rfl (c_X5_digits hfl ⟨by omega, by omega⟩) (by decide) (by decide) (by decide) (Nat.le_of_ble_eq_true rfl) rfl rfl dX5_sign_30 rfl (k_rv ?_)
      refine g_isub (t := 34) X dX5_sign_33 rfl ?_
      refine g_istore_n (t := 35) (lv1 := [(3, vi ((p - 1) - (dgF f))), (0, .ref (ad 0)), (1, vi f), (2, vi p)]) X dX5_sign_34 (by decide) rfl rfl ?_
      refine g_iload_n (t := 36) X dX5_sign_35 0 rfl rfl ?_
      refine g_iconst (t := 37) X dX5_sign_36 rfl ?_
      refine g_icmp_ge (t := 84) (u := 40) X dX5_sign_37 (by decide) rfl ⟨by omega, by omega⟩ ⟨by omega, by omega⟩ (fun c_37 => ?_) (fun c_37 => ?_)
      · refine g_iinc (t := 87) (lv1 := [(3, vi (((p - 1) - (dgF f)) + (-3))), (0, .ref (ad 0)), (1, vi f), (2, vi p)]) X dX5_sign_84 0 rfl (by decide) rfl rfl ?_
        refine g_iload_n (t := 88) X dX5_sign_87 0 rfl rfl ?_
        refine g_aload_n (t := 89) X dX5_sign_88 1 rfl rfl ?_
        refine g_aload_n (t := 90) X dX5_sign_89 1 rfl rfl ?_
        refine g_aload_n (t := 91) X dX5_sign_90 1 rfl rfl ?_
        refine m_getf (t := 94) X 2 (by decide) q4_211 rfl rfl dX5_sign_91 rfl ?_
        refine g_iload_n (t := 95) X dX5_sign_94 2 rfl rfl ?_
        refine g_iald (t := 96) (f := Y 2) X 3 wM_fn (by omega) (by omega) (by omega) dX5_sign_95 rfl ?_
        refine g_callV (t := 99) (mc := 0) (ms := 0) (rest := [.ref (ad 0), vi (((p - 1) - (dgF f)) + (-3))]) X mt_X5_flat q5_202 q5_204 qs_43 0 wM_0 rfl (c_X5_flat hfl ⟨by omega, by omega⟩) (by decide) (by decide) (by decide) (Nat.le_of_ble_eq_true rfl) rfl rfl dX5_sign_96 rfl (k_rv ?_)
        refine g_callV (t := 102) (mc := 0) (ms := 0) (rest := [vi (((p - 1) - (dgF f)) + (-3))]) X mt_X5_digits q5_198 q5_200 qs_42 0 wM_0 rfl (c_X5_digits hfl ⟨by omega, by omega⟩) (by decide) (by decide) (by decide) (Nat.le_of_ble_eq_true rfl) rfl rfl dX5_sign_99 rfl (k_rv ?_)
        refine g_icmp_ge (t := 121) (u := 105) X dX5_sign_102 (by decide) rfl ⟨by omega, by omega⟩ ⟨by omega, by omega⟩ (fun c_102 => ?_) (fun c_102 => ?_)
        · refine g_iload_n (t := 122) X dX5_sign_121 0 rfl rfl ?_
          refine g_aload_n (t := 123) X dX5_sign_122 1 rfl rfl ?_
          refine g_aload_n (t := 124) X dX5_sign_123 1 rfl rfl ?_
          refine g_aload_n (t := 125) X dX5_sign_124 1 rfl rfl ?_
          refine m_getf (t := 128) X 2 (by decide) q4_211 rfl rfl dX5_sign_125 rfl ?_
          refine g_iload_n (t := 129) X dX5_sign_128 2 rfl rfl ?_
          refine g_iald (t := 130) (f := Y 2) X 3 wM_fn (by omega) (by omega) (by omega) dX5_sign_129 rfl ?_
          refine g_callV (t := 133) (mc := 0) (ms := 0) (rest := [.ref (ad 0), vi (((p - 1) - (dgF f)) + (-3))]) X mt_X5_flat q5_202 q5_204 qs_43 0 wM_0 rfl (c_X5_flat hfl ⟨by omega, by omega⟩) (by decide) (by decide) (by decide) (Nat.le_of_ble_eq_true rfl) rfl rfl dX5_sign_130 rfl (k_rv ?_)
          refine g_callV (t := 136) (mc := 0) (ms := 0) (rest := [vi (((p - 1) - (dgF f)) + (-3))]) X mt_X5_digits q5_198 q5_200 qs_42 0 wM_0 rfl (c_X5_digits hfl ⟨by omega, by omega⟩) (by decide) (by decide) (by decide) (Nat.le_of_ble_eq_true rfl) rfl rfl dX5_sign_133 rfl (k_rv ?_)
          refine g_isub (t := 137) X dX5_sign_136 rfl ?_
          refine g_istore_n (t := 138) (lv1 := [(3, vi ((((p - 1) - (dgF f)) + (-3)) - (dgF (abF ((Y 2) f))))), (0, .ref (ad 0)), (1, vi f), (2, vi p)]) X dX5_sign_137 (by decide) rfl rfl ?_
          refine g_iload_n (t := 139) X dX5_sign_138 0 rfl rfl ?_
          refine g_iconst (t := 140) X dX5_sign_139 rfl ?_
          refine g_icmp_ne (t := 148) (u := 143) X dX5_sign_140 (by decide) rfl ⟨by omega, by omega⟩ ⟨by omega, by omega⟩ (fun c_140 => ?_) (fun c_140 => ?_)
          · refine g_iload_n (t := 149) X dX5_sign_148 0 rfl rfl ?_
            refine g_iconst (t := 150) X dX5_sign_149 rfl ?_
            refine g_icmp_ne (t := 158) (u := 153) X dX5_sign_150 (by decide) rfl ⟨by omega, by omega⟩ ⟨by omega, by omega⟩ (fun c_150 => ?_) (fun c_150 => ?_)
            · refine g_bipush (t := 160) (z := 32) X dX5_sign_158 (by decide +kernel) rfl ?_
              exact g_zret X r (nar_c (by omega) (by omega)) (rv_i (by unfold chF; repeat (first | rfl | rw [if_pos (by omega)] | rw [if_neg (by omega)]))) (Nat.le_of_ble_eq_true rfl) (Nat.le_of_ble_eq_true rfl) dX5_sign_160
            · refine g_bipush (t := 155) (z := 110) X dX5_sign_153 (by decide +kernel) rfl ?_
              refine g_goto (t := 160) X dX5_sign_155 (by decide) ?_
              exact g_zret X r (nar_c (by omega) (by omega)) (rv_i (by unfold chF; repeat (first | rfl | rw [if_pos (by omega)] | rw [if_neg (by omega)]))) (Nat.le_of_ble_eq_true rfl) (Nat.le_of_ble_eq_true rfl) dX5_sign_160
          · refine g_bipush (t := 145) (z := 111) X dX5_sign_143 (by decide +kernel) rfl ?_
            refine g_goto (t := 160) X dX5_sign_145 (by decide) ?_
            exact g_zret X r (nar_c (by omega) (by omega)) (rv_i (by unfold chF; repeat (first | rfl | rw [if_pos (by omega)] | rw [if_neg (by omega)]))) (Nat.le_of_ble_eq_true rfl) (Nat.le_of_ble_eq_true rfl) dX5_sign_160
        · have hc := dch_rng (n := abF (Y 2 f)) ha.1 (by omega) (p - 1 - dgF f + (-3))
          refine g_aload_n (t := 106) X dX5_sign_105 1 rfl rfl ?_
          refine g_aload_n (t := 107) X dX5_sign_106 1 rfl rfl ?_
          refine g_aload_n (t := 108) X dX5_sign_107 1 rfl rfl ?_
          refine m_getf (t := 111) X 2 (by decide) q4_211 rfl rfl dX5_sign_108 rfl ?_
          refine g_iload_n (t := 112) X dX5_sign_111 2 rfl rfl ?_
          refine g_iald (t := 113) (f := Y 2) X 3 wM_fn (by omega) (by omega) (by omega) dX5_sign_112 rfl ?_
          refine g_callV (t := 116) (mc := 0) (ms := 0) (rest := [.ref (ad 0)]) X mt_X5_flat q5_202 q5_204 qs_43 0 wM_0 rfl (c_X5_flat hfl ⟨by omega, by omega⟩) (by decide) (by decide) (by decide) (Nat.le_of_ble_eq_true rfl) rfl rfl dX5_sign_113 rfl (k_rv ?_)
          refine g_iload_n (t := 117) X dX5_sign_116 0 rfl rfl ?_
          refine g_callV (t := 120) (mc := 0) (ms := 0) (rest := []) X mt_X5_digit q5_210 q5_212 qs_45 0 wM_0 rfl (c_X5_digit hfl (by omega) (by omega) ⟨by omega, by omega⟩) (by decide) (by decide) (by decide) (Nat.le_of_ble_eq_true rfl) rfl rfl dX5_sign_117 rfl (k_rv ?_)
          exact g_zret X r (nar_c (by omega) (by omega)) (rv_i (by unfold chF; repeat (first | rfl | rw [if_pos (by omega)] | rw [if_neg (by omega)]))) (Nat.le_of_ble_eq_true rfl) (Nat.le_of_ble_eq_true rfl) dX5_sign_120
      · refine g_iload_n (t := 41) X dX5_sign_40 0 rfl rfl ?_
        refine g_if_ne (t := 49) (u := 44) X dX5_sign_41 (by decide) rfl ⟨by omega, by omega⟩ (fun c_41 => ?_) (fun c_41 => ?_)
        · refine g_iload_n (t := 50) X dX5_sign_49 0 rfl rfl ?_
          refine g_iconst (t := 51) X dX5_sign_50 rfl ?_
          refine g_icmp_ne (t := 67) (u := 54) X dX5_sign_51 (by decide) rfl ⟨by omega, by omega⟩ ⟨by omega, by omega⟩ (fun c_51 => ?_) (fun c_51 => ?_)
          · refine g_aload_n (t := 68) X dX5_sign_67 1 rfl rfl ?_
            refine m_getf (t := 71) X 2 (by decide) q4_211 rfl rfl dX5_sign_68 rfl ?_
            refine g_iload_n (t := 72) X dX5_sign_71 2 rfl rfl ?_
            refine g_iald (t := 73) (f := Y 2) X 3 wM_fn (by omega) (by omega) (by omega) dX5_sign_72 rfl ?_
            refine g_if_ge (t := 81) (u := 76) X dX5_sign_73 (by decide) rfl ⟨by omega, by omega⟩ (fun c_73 => ?_) (fun c_73 => ?_)
            · refine g_bipush (t := 83) (z := 43) X dX5_sign_81 (by decide +kernel) rfl ?_
              exact g_zret X r (nar_c (by omega) (by omega)) (rv_i (by unfold chF; repeat (first | rfl | rw [if_pos (by omega)] | rw [if_neg (by omega)]))) (Nat.le_of_ble_eq_true rfl) (Nat.le_of_ble_eq_true rfl) dX5_sign_83
            · refine g_bipush (t := 78) (z := 45) X dX5_sign_76 (by decide +kernel) rfl ?_
              refine g_goto (t := 83) X dX5_sign_78 (by decide) ?_
              exact g_zret X r (nar_c (by omega) (by omega)) (rv_i (by unfold chF; repeat (first | rfl | rw [if_pos (by omega)] | rw [if_neg (by omega)]))) (Nat.le_of_ble_eq_true rfl) (Nat.le_of_ble_eq_true rfl) dX5_sign_83
          · refine g_bipush (t := 56) (z := 48) X dX5_sign_54 (by decide +kernel) rfl ?_
            refine g_aload_n (t := 57) X dX5_sign_56 1 rfl rfl ?_
            refine m_getf (t := 60) X 1 (by decide) q4_210 rfl rfl dX5_sign_57 rfl ?_
            refine g_iload_n (t := 61) X dX5_sign_60 2 rfl rfl ?_
            refine g_iald (t := 62) (f := Y 1) X 2 wM_fl (by omega) (by omega) (by omega) dX5_sign_61 rfl ?_
            refine g_iadd (t := 63) X dX5_sign_62 rfl ?_
            refine g_i2c (t := 64) X dX5_sign_63 (by omega) (by omega) rfl ?_
            refine g_goto (t := 83) X dX5_sign_64 (by decide) ?_
            exact g_zret X r (nar_c (by omega) (by omega)) (rv_i (by unfold chF; repeat (first | rfl | rw [if_pos (by omega)] | rw [if_neg (by omega)]))) (Nat.le_of_ble_eq_true rfl) (Nat.le_of_ble_eq_true rfl) dX5_sign_83
        · refine g_bipush (t := 46) (z := 42) X dX5_sign_44 (by decide +kernel) rfl ?_
          refine g_goto (t := 83) X dX5_sign_46 (by decide) ?_
          exact g_zret X r (nar_c (by omega) (by omega)) (rv_i (by unfold chF; repeat (first | rfl | rw [if_pos (by omega)] | rw [if_neg (by omega)]))) (Nat.le_of_ble_eq_true rfl) (Nat.le_of_ble_eq_true rfl) dX5_sign_83
    · have hc := dch_rng (n := f) f0 (by omega) (p - 1)
      refine g_aload_n (t := 21) X dX5_sign_20 1 rfl rfl ?_
      refine g_iload_n (t := 22) X dX5_sign_21 2 rfl rfl ?_
      refine g_iload_n (t := 23) X dX5_sign_22 0 rfl rfl ?_
      refine g_callV (t := 26) (mc := 0) (ms := 0) (rest := []) X mt_X5_digit q5_210 q5_212 qs_45 0 wM_0 rfl (c_X5_digit hfl (by omega) (by omega) ⟨by omega, by omega⟩) (by decide) (by decide) (by decide) (Nat.le_of_ble_eq_true rfl) rfl rfl dX5_sign_23 rfl (k_rv ?_)
      exact g_zret X r (nar_c (by omega) (by omega)) (rv_i (by unfold chF; repeat (first | rfl | rw [if_pos (by omega)] | rw [if_neg (by omega)]))) (Nat.le_of_ble_eq_true rfl) (Nat.le_of_ble_eq_true rfl) dX5_sign_26
  · refine g_bipush (t := 6) (z := 102) X dX5_sign_4 (by decide +kernel) rfl ?_
    exact g_zret X r (nar_c (by omega) (by omega)) (rv_i (by unfold chF; repeat (first | rfl | rw [if_pos (by omega)] | rw [if_neg (by omega)]))) (Nat.le_of_ble_eq_true rfl) (Nat.le_of_ble_eq_true rfl) dX5_sign_6

theorem ch_rng {Y : Nat → Int → Int} (hI : MI Y) {f p : Int} (f0 : 0 ≤ f) (f1 : f < Y 3 0) (p0 : 0 ≤ p) (p1 : p < sgF Y f) : 0 ≤ chF Y f p ∧ chF Y f p < 128 := by
  have hd := dg_rng f
  have hz : f = 0 → sgF Y f = 2 := fun e => by unfold sgF; rw [if_pos e]
  have hc := dch_rng (n := f) f0 (by have := hI.1; omega) (p - 1)
  unfold chF
  by_cases f2 : 1 ≤ f
  · have hf := hI.2.1 f f2 f1
    have ha := ab_rng hI f2 f1
    have hc2 := dch_rng (n := abF (Y 2 f)) ha.1 (by omega) (p - 1 - dgF f + (-3))
    repeat (first | omega | split)
  · by_cases h : p = 0
    · rw [if_pos h]; omega
    · rw [if_neg h, if_pos (by omega)]; omega
set_option maxHeartbeats 4000000 in
set_option maxRecDepth 100000 in
/-- tells(fold, place) -/
theorem c_X5_tells {C : WC} {l : Launch} (hfl : l.stackTraces = false) {ad : Nat → Nat} {Y V : Nat → Int → Int} {W : Int → Int} {th : Int} {R : va_W} {f x : Int} (hI : MI Y) (hf : Rg f) (hx : Rg x) : MM C l yX5_tells cX5_tells 5 (some .char) 3 0 0 [.ref (ad 0), vi f, vi x] (wM C ad Y V W th ++ R) (pu1 ((0 ≤ f ∧ f < Y 3 0) ∧ 0 ≤ x) (tellF Y f x) (fun th W => wM C ad Y V W th ++ R) (fun W => wM C ad Y V W 0 ++ R)) := by
  refine mm_of (by decide +kernel) (Nat.le_of_ble_eq_true rfl) hfl (fun K Q X r => ?_)
  have X : Cx C l "SpringleafModel" cX5_tells 5 3 0 0 K := X
  have I3 := hI.1
  have I10 := hI.2.2.1
  have I12 := hI.2.2.2.2.1
  obtain ⟨f1, f2⟩ := hf
  obtain ⟨x1, x2⟩ := hx
  have loop : 0 ≤ f → f < Y 3 0 → 0 ≤ x → ∀ (n : Nat) (at_ k : Int), 0 ≤ at_ → at_ < Y 3 0 → at_ < n → 0 ≤ k → k ≤ x → tellF Y f x = tellF Y at_ k → G C K Q 0 0 31 [(0, .ref (ad 0)), (3, vi at_), (4, vi k)] [] (wM C ad Y V W 0 ++ R) := by
    intro f0 f9 x0 n
    induction n with
    | zero => intro at_ k h0 h1 h2; exact absurd h2 (by omega)
    | succ n ih =>
      intro at_ k a0 a1 h2 k0 k1 eT
      have hs := sg_rng Y at_
      have et := tell_step hI a0 a1 k
      refine g_iload_n (t := 32) X dX5_tells_31 1 rfl rfl ?_
      refine g_if_le (t := 65) (u := 35) X dX5_tells_32 (by decide) rfl ⟨by omega, by omega⟩ (fun c_32 => ?_) (fun c_32 => ?_)
      · refine g_iload (t := 67) X dX5_tells_65 2 rfl rfl ?_
        refine g_aload_n (t := 68) X dX5_tells_67 0 rfl rfl ?_
        refine g_iload_n (t := 69) X dX5_tells_68 1 rfl rfl ?_
        refine g_callV (t := 72) (mc := 0) (ms := 0) (rest := [vi k]) X mt_X5_signs q5_194 q5_196 qs_41 0 wM_0 rfl (c_X5_signs hfl hI (by omega) (by omega)) (by decide) (by decide) (by decide) (Nat.le_of_ble_eq_true rfl) rfl rfl dX5_tells_69 rfl (k_rv ?_)
        refine g_icmp_ge (t := 85) (u := 75) X dX5_tells_72 (by decide) rfl ⟨by omega, by omega⟩ ⟨by omega, by omega⟩ (fun c_72 => ?_) (fun c_72 => ?_)
        · refine g_iconst (t := 86) X dX5_tells_85 rfl ?_
          exact g_zret X r (nar_c (by omega) (by omega)) ⟨0, _, rfl, Or.inr ⟨⟨⟨f0, f9⟩, x0⟩, by first | (exfalso; omega) | rw [eT, et]; first | (rw [if_neg (by omega), if_pos (by omega)]) | (rw [if_neg (by omega), if_neg (by omega)]), rfl⟩⟩ (Nat.le_of_ble_eq_true rfl) (Nat.le_of_ble_eq_true rfl) dX5_tells_86
        · have hc := ch_rng hI a0 a1 k0 (by omega)
          refine g_aload_n (t := 76) X dX5_tells_75 0 rfl rfl ?_
          refine g_iload_n (t := 77) X dX5_tells_76 1 rfl rfl ?_
          refine g_iload (t := 79) X dX5_tells_77 2 rfl rfl ?_
          refine g_callV (t := 82) (mc := 0) (ms := 0) (rest := []) X mt_X5_sign q5_206 q5_208 qs_44 0 wM_0 rfl (c_X5_sign hfl hI (by omega) (by omega) (by omega) (by omega)) (by decide) (by decide) (by decide) (Nat.le_of_ble_eq_true rfl) rfl rfl dX5_tells_79 rfl (k_rv ?_)
          refine g_goto (t := 86) X dX5_tells_82 (by decide) ?_
          exact g_zret X r (nar_c (by omega) (by omega)) ⟨chF Y at_ k, _, rfl, Or.inr ⟨⟨⟨f0, f9⟩, x0⟩, by first | (exfalso; omega) | rw [eT, et]; first | (rw [if_neg (by omega), if_pos (by omega)]) | (rw [if_neg (by omega), if_neg (by omega)]), rfl⟩⟩ (Nat.le_of_ble_eq_true rfl) (Nat.le_of_ble_eq_true rfl) dX5_tells_86
      · refine g_iload (t := 37) X dX5_tells_35 2 rfl rfl ?_
        refine g_aload_n (t := 38) X dX5_tells_37 0 rfl rfl ?_
        refine g_iload_n (t := 39) X dX5_tells_38 1 rfl rfl ?_
        refine g_callV (t := 42) (mc := 0) (ms := 0) (rest := [vi k]) X mt_X5_signs q5_194 q5_196 qs_41 0 wM_0 rfl (c_X5_signs hfl hI (by omega) (by omega)) (by decide) (by decide) (by decide) (Nat.le_of_ble_eq_true rfl) rfl rfl dX5_tells_39 rfl (k_rv ?_)
        refine g_icmp_lt (t := 65) (u := 45) X dX5_tells_42 (by decide) rfl ⟨by omega, by omega⟩ ⟨by omega, by omega⟩ (fun c_42 => ?_) (fun c_42 => ?_)
        · refine g_iload (t := 67) X dX5_tells_65 2 rfl rfl ?_
          refine g_aload_n (t := 68) X dX5_tells_67 0 rfl rfl ?_
          refine g_iload_n (t := 69) X dX5_tells_68 1 rfl rfl ?_
          refine g_callV (t := 72) (mc := 0) (ms := 0) (rest := [vi k]) X mt_X5_signs q5_194 q5_196 qs_41 0 wM_0 rfl (c_X5_signs hfl hI (by omega) (by omega)) (by decide) (by decide) (by decide) (Nat.le_of_ble_eq_true rfl) rfl rfl dX5_tells_69 rfl (k_rv ?_)
          refine g_icmp_ge (t := 85) (u := 75) X dX5_tells_72 (by decide) rfl ⟨by omega, by omega⟩ ⟨by omega, by omega⟩ (fun c_72 => ?_) (fun c_72 => ?_)
          · refine g_iconst (t := 86) X dX5_tells_85 rfl ?_
            exact g_zret X r (nar_c (by omega) (by omega)) ⟨0, _, rfl, Or.inr ⟨⟨⟨f0, f9⟩, x0⟩, by first | (exfalso; omega) | rw [eT, et]; first | (rw [if_neg (by omega), if_pos (by omega)]) | (rw [if_neg (by omega), if_neg (by omega)]), rfl⟩⟩ (Nat.le_of_ble_eq_true rfl) (Nat.le_of_ble_eq_true rfl) dX5_tells_86
          · have hc := ch_rng hI a0 a1 k0 (by omega)
            refine g_aload_n (t := 76) X dX5_tells_75 0 rfl rfl ?_
            refine g_iload_n (t := 77) X dX5_tells_76 1 rfl rfl ?_
            refine g_iload (t := 79) X dX5_tells_77 2 rfl rfl ?_
            refine g_callV (t := 82) (mc := 0) (ms := 0) (rest := []) X mt_X5_sign q5_206 q5_208 qs_44 0 wM_0 rfl (c_X5_sign hfl hI (by omega) (by omega) (by omega) (by omega)) (by decide) (by decide) (by decide) (Nat.le_of_ble_eq_true rfl) rfl rfl dX5_tells_79 rfl (k_rv ?_)
            refine g_goto (t := 86) X dX5_tells_82 (by decide) ?_
            exact g_zret X r (nar_c (by omega) (by omega)) ⟨chF Y at_ k, _, rfl, Or.inr ⟨⟨⟨f0, f9⟩, x0⟩, by first | (exfalso; omega) | rw [eT, et]; first | (rw [if_neg (by omega), if_pos (by omega)]) | (rw [if_neg (by omega), if_neg (by omega)]), rfl⟩⟩ (Nat.le_of_ble_eq_true rfl) (Nat.le_of_ble_eq_true rfl) dX5_tells_86
        · refine g_iload (t := 47) X dX5_tells_45 2 rfl rfl ?_
          refine g_aload_n (t := 48) X dX5_tells_47 0 rfl rfl ?_
          refine g_iload_n (t := 49) X dX5_tells_48 1 rfl rfl ?_
          refine g_callV (t := 52) (mc := 0) (ms := 0) (rest := [vi k]) X mt_X5_signs q5_194 q5_196 qs_41 0 wM_0 rfl (c_X5_signs hfl hI (by omega) (by omega)) (by decide) (by decide) (by decide) (Nat.le_of_ble_eq_true rfl) rfl rfl dX5_tells_49 rfl (k_rv ?_)
          refine g_isub (t := 53) X dX5_tells_52 rfl ?_
          refine g_istore (t := 55) (lv1 := [(4, vi (k - (sgF Y at_))), (0, .ref (ad 0)), (3, vi at_)]) X dX5_tells_53 (by decide) rfl rfl ?_
          refine g_aload_n (t := 56) X dX5_tells_55 1 rfl rfl ?_
          have ho := hI.2.1 at_ (by omega) a1
          refine m_getf (t := 59) X 0 (by decide) q4_209 rfl rfl dX5_tells_56 rfl ?_
          refine g_iload_n (t := 60) X dX5_tells_59 2 rfl rfl ?_
          refine g_iald (t := 61) (f := Y 0) X 1 wM_fo (by omega) (by omega) (by omega) dX5_tells_60 rfl ?_
          refine g_istore_n (t := 62) (lv1 := [(3, vi ((Y 0) at_)), (4, vi (k - (sgF Y at_))), (0, .ref (ad 0))]) X dX5_tells_61 (by decide) rfl rfl ?_
          refine g_goto (t := 31) X dX5_tells_62 (by decide) ?_
          exact g_lv (ih ((Y 0) at_) (k - (sgF Y at_)) (by omega) (by omega) (by omega) (by omega) (by omega) (by rw [eT, et, if_pos (by omega)])) [2, 0, 1] rfl
  show G C K Q 0 0 0 [(0, .ref (ad 0)), (1, vi f), (2, vi x)] [] (wM C ad Y V W th ++ R)
  refine g_aload_n (t := 1) X dX5_tells_0 0 rfl rfl ?_
  refine g_aload_n (t := 2) X dX5_tells_1 0 rfl rfl ?_
  refine g_iload_n (t := 3) X dX5_tells_2 1 rfl rfl ?_
  refine g_callV (t := 6) (mc := 0) (ms := 0) (rest := [.ref (ad 0)]) X mt_X5_isFold q5_58 q5_60 qs_21 0 wM_0 rfl (c_X5_isFold hfl hI ⟨by omega, by omega⟩) (by decide) (by decide) (by decide) (Nat.le_of_ble_eq_true rfl) rfl rfl dX5_tells_3 rfl (k_rb (fun b_3 => ?_) (fun b_3 => ?_))
  · refine g_if_eq (t := 17) (u := 9) X dX5_tells_6 (by decide) rfl ⟨by omega, by omega⟩ (fun c => absurd c (by decide)) (fun _ => ?_)
    refine g_iload_n (t := 10) X dX5_tells_9 2 rfl rfl ?_
    refine g_if_lt (t := 17) (u := 13) X dX5_tells_10 (by decide) rfl ⟨by omega, by omega⟩ (fun c_10 => ?_) (fun c_10 => ?_)
    · refine g_iconst (t := 18) X dX5_tells_17 rfl ?_
      refine g_callV (t := 21) (mc := 0) (ms := 0) (rest := []) X mt_X5_holds q5_102 q5_104 qs_32 0 wM_0 rfl (c_X5_holds hfl ⟨by omega, by omega⟩) (by decide) (by decide) (by decide) (Nat.le_of_ble_eq_true rfl) rfl rfl dX5_tells_18 rfl (k_rb (fun _ => ?_) (fun h => absurd (by decide) h))
      refine g_if_eq (t := 26) (u := 24) X dX5_tells_21 (by decide) rfl ⟨by omega, by omega⟩ (fun c => absurd c (by decide)) (fun _ => ?_)
      refine g_iconst (t := 25) X dX5_tells_24 rfl ?_
      exact g_zret X r (nar_c (by omega) (by omega)) ⟨0, _, rfl, Or.inl ⟨by omega, rfl⟩⟩ (Nat.le_of_ble_eq_true rfl) (Nat.le_of_ble_eq_true rfl) dX5_tells_25
    · refine g_iconst (t := 14) X dX5_tells_13 rfl ?_
      refine g_goto (t := 18) X dX5_tells_14 (by decide) ?_
      refine g_callV (t := 21) (mc := 0) (ms := 0) (rest := []) X mt_X5_holds q5_102 q5_104 qs_32 0 wM_0 rfl (c_X5_holds hfl ⟨by omega, by omega⟩) (by decide) (by decide) (by decide) (Nat.le_of_ble_eq_true rfl) rfl rfl dX5_tells_18 rfl (k_rb (fun h => absurd h (by decide)) (fun _ => ?_))
      refine g_if_eq (t := 26) (u := 24) X dX5_tells_21 (by decide) rfl ⟨by omega, by omega⟩ (fun _ => ?_) (fun c => absurd c (by decide))
      refine g_iload_n (t := 27) X dX5_tells_26 1 rfl rfl ?_
      refine g_istore_n (t := 28) (lv1 := [(3, vi f), (0, .ref (ad 0)), (1, vi f), (2, vi x)]) X dX5_tells_27 (by decide) rfl rfl ?_
      refine g_iload_n (t := 29) X dX5_tells_28 3 rfl rfl ?_
      refine g_istore (t := 31) (lv1 := [(4, vi x), (3, vi f), (0, .ref (ad 0)), (1, vi f), (2, vi x)]) X dX5_tells_29 (by decide) rfl rfl ?_
      exact g_lv (loop (by omega) (by omega) (by omega) (f.toNat + 1) f x (by omega) (by omega) (by omega) (by omega) (by omega) rfl) [2, 1, 0] rfl
  · refine g_if_eq (t := 17) (u := 9) X dX5_tells_6 (by decide) rfl ⟨by omega, by omega⟩ (fun _ => ?_) (fun c => absurd c (by decide))
    refine g_iconst (t := 18) X dX5_tells_17 rfl ?_
    refine g_callV (t := 21) (mc := 0) (ms := 0) (rest := []) X mt_X5_holds q5_102 q5_104 qs_32 0 wM_0 rfl (c_X5_holds hfl ⟨by omega, by omega⟩) (by decide) (by decide) (by decide) (Nat.le_of_ble_eq_true rfl) rfl rfl dX5_tells_18 rfl (k_rb (fun _ => ?_) (fun h => absurd (by decide) h))
    refine g_if_eq (t := 26) (u := 24) X dX5_tells_21 (by decide) rfl ⟨by omega, by omega⟩ (fun c => absurd c (by decide)) (fun _ => ?_)
    refine g_iconst (t := 25) X dX5_tells_24 rfl ?_
    exact g_zret X r (nar_c (by omega) (by omega)) ⟨0, _, rfl, Or.inl ⟨by omega, rfl⟩⟩ (Nat.le_of_ble_eq_true rfl) (Nat.le_of_ble_eq_true rfl) dX5_tells_25

