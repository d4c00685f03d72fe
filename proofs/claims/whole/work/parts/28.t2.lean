theorem wC_R {C : WC} {ad : Nat → Nat} {B : BT} {E : Int × Nat} {S Y V : Nat → Int → Int} {R : va_W} {k : Nat} : (wC C ad B E S Y V ++ R)[k + 22]? = R[k]? := rfl
/-- where the parts stand in the rest of the world -/
def PR (C : WC) (E : Int × Nat) (Y : Nat → Int → Int) (R : va_W) : Prop := 0 < Y 10 0 → ∃ (cap qe : Nat) (f : Nat → Option Nat), (Y 10 0 ≤ cap ∧ cap ≤ 100) ∧ R[qe]? = some (E.2, aO C cap f) ∧ ∀ p : Int, 0 ≤ p → p < Y 10 0 → ∃ a k : Nat, f p.toNat = some a ∧ R[k]? = some (a, .inr (8, fPa Y p))
def mtF (Y : Nat → Int → Int) (p q o : Int) : Prop := shareF Y p q ∧ 0 < riseF Y p o ∧ 0 < riseF Y q o ∧ riseF Y p o - riseF Y q o < 2 ∧ riseF Y q o - riseF Y p o < 2 ∧ lowF Y p o ≤ highF Y q o ∧ lowF Y q o ≤ highF Y p o
theorem mt_iff {Y : Nat → Int → Int} {p q o : Int} : meetF Y p q o ↔ p ≠ q ∧ mtF Y p q o := Iff.rfl
theorem mt_sym {Y : Nat → Int → Int} {p q o : Int} (h : mtF Y p q o) : mtF Y q p o := by
  obtain ⟨⟨h1, h2⟩, h3, h4, h5, h6, h7, h8⟩ := h
  exact ⟨⟨h2, h1⟩, h4, h3, h6, h5, h8, h7⟩
/-- the first part that meets a later one -/
def FT (Y : Nat → Int → Int) (o r : Int) : Prop := (r = -1 ∧ ∀ p q, 0 ≤ p → p < q → q < Y 10 0 → ¬ mtF Y p q o) ∨ (0 ≤ r ∧ r < Y 10 0 ∧ (∃ q, r < q ∧ q < Y 10 0 ∧ mtF Y r q o) ∧ ∀ p q, 0 ≤ p → p < r → p < q → q < Y 10 0 → ¬ mtF Y p q o)
theorem FT.no {Y : Nat → Int → Int} {o : Int} (h : FT Y o (-1)) : ∀ p, 0 ≤ p → p < Y 10 0 → ¬ Tm Y p o := by
  rcases h with ⟨_, h⟩ | ⟨h, _⟩
  · rintro p p0 p1 ⟨q, q0, q1, hm⟩
    obtain ⟨hne, hm⟩ := mt_iff.mp hm
    rcases Int.lt_or_gt_of_ne hne with c | c
    · exact h p q p0 c q1 hm
    · exact h q p q0 c p1 (mt_sym hm)
  · omega
theorem FT.yes {Y : Nat → Int → Int} {o r : Int} (h : FT Y o r) (hr : r ≠ -1) : (0 ≤ r ∧ r < Y 10 0) ∧ Tm Y r o ∧ ∀ p, 0 ≤ p → p < r → ¬ Tm Y p o := by
  rcases h with ⟨h, _⟩ | ⟨r0, r1, ⟨q, q0, q1, hm⟩, h⟩
  · exact absurd h hr
  · refine ⟨⟨r0, r1⟩, ⟨q, by omega, q1, mt_iff.mpr ⟨by omega, hm⟩⟩, fun p p0 p1 => ?_⟩
    rintro ⟨q', q0', q1', hm'⟩
    obtain ⟨hne, hm'⟩ := mt_iff.mp hm'
    rcases Int.lt_or_gt_of_ne hne with c | c
    · exact h p q' p0 p1 c q1' hm'
    · exact h q' p q0' (by omega) c (by omega) (mt_sym hm')
def rbz (P : Prop) (wf : (Nat → Int → Int) → va_W) : Option Value → va_W → Prop := fun v w => (∃ Z, w = wf Z) ∧ ((P ∧ v = some (vi 1)) ∨ (¬ P ∧ v = some (vi 0)))
theorem rbz_t {P : Prop} {wf : (Nat → Int → Int) → va_W} (Z : Nat → Int → Int) (h : P) : rbz P wf (some (vi 1)) (wf Z) := ⟨⟨Z, rfl⟩, Or.inl ⟨h, rfl⟩⟩
theorem rbz_f {P : Prop} {wf : (Nat → Int → Int) → va_W} (Z : Nat → Int → Int) (h : ¬ P) : rbz P wf (some (vi 0)) (wf Z) := ⟨⟨Z, rfl⟩, Or.inr ⟨h, rfl⟩⟩
theorem k_rbz {C : WC} {K : GK} {Q : State → Prop} {cells slots t : Nat} {lv : List (Nat × Value)} {rest : List Value} {P : Prop} {wf : (Nat → Int → Int) → va_W} (h1 : ∀ Z, P → G C K Q cells slots t lv (vi 1 :: rest) (wf Z)) (h2 : ∀ Z, ¬ P → G C K Q cells slots t lv (vi 0 :: rest) (wf Z)) : ∀ (v : Option Value) (ws1 : va_W), rbz P wf v ws1 → G C K Q cells slots t lv (v.toList ++ rest) ws1 := by
  rintro _ _ ⟨⟨Z, rfl⟩, ⟨hp, rfl⟩ | ⟨hp, rfl⟩⟩
  · exact h1 Z hp
  · exact h2 Z hp
theorem test_rg {Y : Nat → Int → Int} {t : Int} (h : TestR Y t) : t = -1 ∨ 0 ≤ t := by
  rcases h with ⟨h, _⟩ | ⟨j, p, h1, h2, h3, h4, h5, _⟩
  · exact Or.inl h
  · exact Or.inr (by omega)

set_option maxHeartbeats 4000000 in
set_option maxRecDepth 100000 in
/-- doMeet(part, other, angles) -/
theorem c_X4_doMeet {C : WC} {l : Launch} (hfl : l.stackTraces = false) {ad : Nat → Nat} {B : BT} {E : Int × Nat} {S Y V : Nat → Int → Int} {R : va_W} {p q o : Int} {a b ka kb : Nat} (hI : MI Y) (hS : AP Y S o (Y 3 0)) (o0 : 0 ≤ o) (o1 : o ≤ 180) (p0 : 0 ≤ p) (p1 : p < Y 10 0) (q0 : 0 ≤ q) (q1 : q < Y 10 0) (eka : R[ka]? = some (a, .inr (8, fPa Y p))) (ekb : R[kb]? = some (b, .inr (8, fPa Y q))) : MM C l yX4_doMeet cX4_doMeet 7 (some .boolean) 2 0 0 [.ref a, .ref b, .ref (ad 8)] (wC C ad B E S Y V ++ R) (rb (mtF Y p q o) (wC C ad B E S Y V ++ R)) := by
  refine mm_of (by decide +kernel) (Nat.le_of_ble_eq_true rfl) hfl (fun K Q X r => ?_)
  have X : Cx C l "Springleaf" cX4_doMeet 7 2 0 0 K := X
  have I3 := hI.1
  have I10 := hI.2.2.1
  have I12 := hI.2.2.2.2.1
  have hp := hI.2.2.2.1 p p0 p1
  have hq := hI.2.2.2.1 q q0 q1
  have gp := angF_rng Y o0 o1 (Y 4 p)
  have gq := angF_rng Y o0 o1 (Y 4 q)
  have r1 := rise_rng hI p0 p1 o0 o1
  have r2 := rise_rng hI q0 q1 o0 o1
  have r3 := low_rng hI p0 p1 o0 o1
  have r4 := low_rng hI q0 q1 o0 o1
  have r5 := high_rng hI p0 p1 o0 o1
  have r6 := high_rng hI q0 q1 o0 o1
  show G C K Q 0 0 0 [(0, .ref a), (1, .ref b), (2, .ref (ad 8))] [] (wC C ad B E S Y V ++ R)
  refine g_aload_n (t := 1) X dX4_doMeet_0 2 rfl rfl ?_
  refine g_aload_n (t := 2) X dX4_doMeet_1 0 rfl rfl ?_
  refine g_getf (t := 5) X inX3 (ka + 22) (wC_R.trans eka) rfl 0 (by decide) q2_223 rfl rfl dX4_doMeet_2 rfl ?_
  refine g_iald (t := 6) (f := S 0) X 8 wC_8 (by omega) (by omega) (by omega) dX4_doMeet_5 rfl ?_
  rw [(hS (Y 4 p) (by omega) (by omega)).1]
  refine g_istore_n (t := 7) (lv1 := [(3, vi (angF Y (Y 4 p) o)), (0, .ref a), (1, .ref b), (2, .ref (ad 8))]) X dX4_doMeet_6 (by decide) rfl rfl ?_
  refine g_aload_n (t := 8) X dX4_doMeet_7 3 rfl rfl ?_
  refine g_aload_n (t := 9) X dX4_doMeet_8 2 rfl rfl ?_
  refine g_getf (t := 12) X inX3 (kb + 22) (wC_R.trans ekb) rfl 0 (by decide) q2_223 rfl rfl dX4_doMeet_9 rfl ?_
  refine g_iald (t := 13) (f := S 0) X 8 wC_8 (by omega) (by omega) (by omega) dX4_doMeet_12 rfl ?_
  rw [(hS (Y 4 q) (by omega) (by omega)).1]
  refine g_istore (t := 15) (lv1 := [(4, vi (angF Y (Y 4 q) o)), (3, vi (angF Y (Y 4 p) o)), (0, .ref a), (1, .ref b), (2, .ref (ad 8))]) X dX4_doMeet_13 (by decide) rfl rfl ?_
  refine g_aload_n (t := 16) X dX4_doMeet_15 2 rfl rfl ?_
  refine g_iload_n (t := 17) X dX4_doMeet_16 1 rfl rfl ?_
  refine g_callV (t := 20) (mc := 0) (ms := 0) (rest := []) X mt_X3_rise q2_7 q2_8 q2_9 (ka + 22) (wC_R.trans eka) rfl (c_X3_rise hfl hI (by omega) (by omega) (ka + 22) (wC_R.trans eka) (by omega) (by omega)) (by decide) (Nat.le_of_ble_eq_true rfl) (Nat.le_of_ble_eq_true rfl) (Nat.le_of_ble_eq_true rfl) rfl rfl dX4_doMeet_17 rfl (k_rv ?_)
  rw [← riseF_G]
  refine g_istore (t := 22) (lv1 := [(5, vi (riseF Y p o)), (4, vi (angF Y (Y 4 q) o)), (3, vi (angF Y (Y 4 p) o)), (0, .ref a), (1, .ref b), (2, .ref (ad 8))]) X dX4_doMeet_20 (by decide) rfl rfl ?_
  refine g_aload_n (t := 23) X dX4_doMeet_22 4 rfl rfl ?_
  refine g_iload (t := 25) X dX4_doMeet_23 1 rfl rfl ?_
  refine g_callV (t := 28) (mc := 0) (ms := 0) (rest := []) X mt_X3_rise q2_7 q2_8 q2_9 (kb + 22) (wC_R.trans ekb) rfl (c_X3_rise hfl hI (by omega) (by omega) (kb + 22) (wC_R.trans ekb) (by omega) (by omega)) (by decide) (Nat.le_of_ble_eq_true rfl) (Nat.le_of_ble_eq_true rfl) (Nat.le_of_ble_eq_true rfl) rfl rfl dX4_doMeet_25 rfl (k_rv ?_)
  rw [← riseF_G]
  refine g_istore (t := 30) (lv1 := [(6, vi (riseF Y q o)), (5, vi (riseF Y p o)), (4, vi (angF Y (Y 4 q) o)), (3, vi (angF Y (Y 4 p) o)), (0, .ref a), (1, .ref b), (2, .ref (ad 8))]) X dX4_doMeet_28 (by decide) rfl rfl ?_
  refine g_aload_n (t := 31) X dX4_doMeet_30 4 rfl rfl ?_
  refine g_aload_n (t := 32) X dX4_doMeet_31 5 rfl rfl ?_
  refine g_callV (t := 35) (mc := 0) (ms := 0) (rest := []) X mt_X3_sharesLineWith q2_12 q2_13 q2_14 (ka + 22) (wC_R.trans eka) rfl (c_X3_sharesLineWith hfl hI (by omega) (by omega) (ka + 22) (wC_R.trans eka) (by omega) (by omega) (kb + 22) (wC_R.trans ekb)) (by decide) (Nat.le_of_ble_eq_true rfl) (Nat.le_of_ble_eq_true rfl) (Nat.le_of_ble_eq_true rfl) rfl rfl dX4_doMeet_32 rfl (k_rb (fun b_32 => ?_) (fun b_32 => ?_))
  · refine g_if_eq (t := 92) (u := 38) X dX4_doMeet_35 (by decide) rfl ⟨by omega, by omega⟩ (fun c => absurd c (by decide)) (fun _ => ?_)
    refine g_aload_n (t := 39) X dX4_doMeet_38 4 rfl rfl ?_
    refine g_iload_n (t := 40) X dX4_doMeet_39 3 rfl rfl ?_
    refine g_callV (t := 43) (mc := 0) (ms := 0) (rest := []) X mt_X3_spanStart q2_16 q2_17 q2_18 (ka + 22) (wC_R.trans eka) rfl (c_X3_spanStart hfl hI (by omega) (by omega) (ka + 22) (wC_R.trans eka) (by omega) (by omega)) (by decide) (Nat.le_of_ble_eq_true rfl) (Nat.le_of_ble_eq_true rfl) (Nat.le_of_ble_eq_true rfl) rfl rfl dX4_doMeet_40 rfl (k_rv ?_)
    rw [← lowF_G]
    refine g_aload_n (t := 44) X dX4_doMeet_43 5 rfl rfl ?_
    refine g_iload (t := 46) X dX4_doMeet_44 2 rfl rfl ?_
    refine g_callV (t := 49) (mc := 0) (ms := 0) (rest := [vi (lowF Y p o)]) X mt_X3_spanEnd q2_24 q2_25 q2_26 (kb + 22) (wC_R.trans ekb) rfl (c_X3_spanEnd hfl hI (by omega) (by omega) (kb + 22) (wC_R.trans ekb) (by omega) (by omega)) (by decide) (Nat.le_of_ble_eq_true rfl) (Nat.le_of_ble_eq_true rfl) (Nat.le_of_ble_eq_true rfl) rfl rfl dX4_doMeet_46 rfl (k_rv ?_)
    rw [← highF_G]
    refine g_icmp_gt (t := 92) (u := 52) X dX4_doMeet_49 (by decide) rfl ⟨by omega, by omega⟩ ⟨by omega, by omega⟩ (fun c_49 => ?_) (fun c_49 => ?_)
    · refine g_iconst (t := 93) X dX4_doMeet_92 rfl ?_
      exact g_zret X r rfl (rb_f (fun h => by obtain ⟨g1, g2, g3, g4, g5, g6, g7⟩ := h; first | exact b_32 g1 | omega)) (Nat.le_of_ble_eq_true rfl) (Nat.le_of_ble_eq_true rfl) dX4_doMeet_93
    · refine g_aload_n (t := 53) X dX4_doMeet_52 5 rfl rfl ?_
      refine g_iload (t := 55) X dX4_doMeet_53 2 rfl rfl ?_
      refine g_callV (t := 58) (mc := 0) (ms := 0) (rest := []) X mt_X3_spanStart q2_16 q2_17 q2_18 (kb + 22) (wC_R.trans ekb) rfl (c_X3_spanStart hfl hI (by omega) (by omega) (kb + 22) (wC_R.trans ekb) (by omega) (by omega)) (by decide) (Nat.le_of_ble_eq_true rfl) (Nat.le_of_ble_eq_true rfl) (Nat.le_of_ble_eq_true rfl) rfl rfl dX4_doMeet_55 rfl (k_rv ?_)
      rw [← lowF_G]
      refine g_aload_n (t := 59) X dX4_doMeet_58 4 rfl rfl ?_
      refine g_iload_n (t := 60) X dX4_doMeet_59 3 rfl rfl ?_
      refine g_callV (t := 63) (mc := 0) (ms := 0) (rest := [vi (lowF Y q o)]) X mt_X3_spanEnd q2_24 q2_25 q2_26 (ka + 22) (wC_R.trans eka) rfl (c_X3_spanEnd hfl hI (by omega) (by omega) (ka + 22) (wC_R.trans eka) (by omega) (by omega)) (by decide) (Nat.le_of_ble_eq_true rfl) (Nat.le_of_ble_eq_true rfl) (Nat.le_of_ble_eq_true rfl) rfl rfl dX4_doMeet_60 rfl (k_rv ?_)
      rw [← highF_G]
      refine g_icmp_gt (t := 92) (u := 66) X dX4_doMeet_63 (by decide) rfl ⟨by omega, by omega⟩ ⟨by omega, by omega⟩ (fun c_63 => ?_) (fun c_63 => ?_)
      · refine g_iconst (t := 93) X dX4_doMeet_92 rfl ?_
        exact g_zret X r rfl (rb_f (fun h => by obtain ⟨g1, g2, g3, g4, g5, g6, g7⟩ := h; first | exact b_32 g1 | omega)) (Nat.le_of_ble_eq_true rfl) (Nat.le_of_ble_eq_true rfl) dX4_doMeet_93
      · refine g_iload (t := 68) X dX4_doMeet_66 1 rfl rfl ?_
        refine g_if_le (t := 92) (u := 71) X dX4_doMeet_68 (by decide) rfl ⟨by omega, by omega⟩ (fun c_68 => ?_) (fun c_68 => ?_)
        · refine g_iconst (t := 93) X dX4_doMeet_92 rfl ?_
          exact g_zret X r rfl (rb_f (fun h => by obtain ⟨g1, g2, g3, g4, g5, g6, g7⟩ := h; first | exact b_32 g1 | omega)) (Nat.le_of_ble_eq_true rfl) (Nat.le_of_ble_eq_true rfl) dX4_doMeet_93
        · refine g_iload (t := 73) X dX4_doMeet_71 0 rfl rfl ?_
          refine g_if_le (t := 92) (u := 76) X dX4_doMeet_73 (by decide) rfl ⟨by omega, by omega⟩ (fun c_73 => ?_) (fun c_73 => ?_)
          · refine g_iconst (t := 93) X dX4_doMeet_92 rfl ?_
            exact g_zret X r rfl (rb_f (fun h => by obtain ⟨g1, g2, g3, g4, g5, g6, g7⟩ := h; first | exact b_32 g1 | omega)) (Nat.le_of_ble_eq_true rfl) (Nat.le_of_ble_eq_true rfl) dX4_doMeet_93
          · refine g_iload (t := 78) X dX4_doMeet_76 1 rfl rfl ?_
            refine g_iload (t := 80) X dX4_doMeet_78 0 rfl rfl ?_
            refine g_isub (t := 81) X dX4_doMeet_80 rfl ?_
            refine g_mabs (t := 84) X q2_29 q2_30 q1_18 q2_31 (Nat.le_of_ble_eq_true rfl) (Nat.le_of_ble_eq_true rfl) (Nat.le_of_ble_eq_true rfl) ⟨by omega, by omega⟩ dX4_doMeet_81 rfl ?_
            obtain ⟨av, eav⟩ : ∃ z : Int, z = if 0 ≤ (riseF Y p o) - (riseF Y q o) then (riseF Y p o) - (riseF Y q o) else 0 - ((riseF Y p o) - (riseF Y q o)) := ⟨_, rfl⟩
            rw [← eav]
            have hav : (av = riseF Y p o - riseF Y q o ∧ 0 ≤ riseF Y p o - riseF Y q o) ∨ (av = riseF Y q o - riseF Y p o ∧ riseF Y p o - riseF Y q o < 0) := by rw [eav]; split <;> omega
            refine g_iconst (t := 85) X dX4_doMeet_84 rfl ?_
            refine g_icmp_gt (t := 92) (u := 88) X dX4_doMeet_85 (by decide) rfl ⟨by omega, by omega⟩ ⟨by omega, by omega⟩ (fun c_85 => ?_) (fun c_85 => ?_)
            · refine g_iconst (t := 93) X dX4_doMeet_92 rfl ?_
              exact g_zret X r rfl (rb_f (fun h => by obtain ⟨g1, g2, g3, g4, g5, g6, g7⟩ := h; first | exact b_32 g1 | omega)) (Nat.le_of_ble_eq_true rfl) (Nat.le_of_ble_eq_true rfl) dX4_doMeet_93
            · refine g_iconst (t := 89) X dX4_doMeet_88 rfl ?_
              refine g_goto (t := 93) X dX4_doMeet_89 (by decide) ?_
              exact g_zret X r rfl (rb_t ⟨b_32, by omega, by omega, by omega, by omega, by omega, by omega⟩) (Nat.le_of_ble_eq_true rfl) (Nat.le_of_ble_eq_true rfl) dX4_doMeet_93
  · refine g_if_eq (t := 92) (u := 38) X dX4_doMeet_35 (by decide) rfl ⟨by omega, by omega⟩ (fun _ => ?_) (fun c => absurd c (by decide))
    refine g_iconst (t := 93) X dX4_doMeet_92 rfl ?_
    exact g_zret X r rfl (rb_f (fun h => by obtain ⟨g1, g2, g3, g4, g5, g6, g7⟩ := h; first | exact b_32 g1 | omega)) (Nat.le_of_ble_eq_true rfl) (Nat.le_of_ble_eq_true rfl) dX4_doMeet_93

set_option maxHeartbeats 4000000 in
set_option maxRecDepth 100000 in
/-- firstThatMeetsAnother(open) -/
theorem c_X4_firstThatMeetsAnother {C : WC} {l : Launch} (hfl : l.stackTraces = false) {ad : Nat → Nat} {B : BT} {E : Int × Nat} {S Y V : Nat → Int → Int} {R : va_W} {o : Int}  (hI : MI Y) (hR : PR C E Y R) (o0 : 0 ≤ o) (o1 : o ≤ 180) : MM C l yX4_firstThatMeetsAnother cX4_firstThatMeetsAnother 5 (some .int) 3 0 0 [.ref (ad 3), vi o] (wC C ad B E S Y V ++ R) (fun v w => ∃ x : Int × (Nat → Int → Int), FT Y o x.1 ∧ v = some (vi x.1) ∧ w = wC C ad B E x.2 Y V ++ R) := by
  refine mm_of (by decide +kernel) (Nat.le_of_ble_eq_true rfl) hfl (fun K Q X r => ?_)
  have X : Cx C l "Springleaf" cX4_firstThatMeetsAnother 5 3 0 0 K := X
  have I3 := hI.1
  have I10 := hI.2.2.1
  have I12 := hI.2.2.2.2.1
  have loop : ∀ (Z : Nat → Int → Int), AP Y Z o (Y 3 0) → ∀ (n : Nat) (p : Int), 0 ≤ p → p ≤ Y 10 0 → Y 10 0 - p < n → (∀ p' q', 0 ≤ p' → p' < p → p' < q' → q' < Y 10 0 → ¬ mtF Y p' q' o) → G C K Q 0 0 11 [(0, .ref (ad 3)), (2, .ref (ad 8)), (3, vi p)] [] (wC C ad B E Z Y V ++ R) := by
    intro Z hZ n
    induction n with
    | zero => intro p g0 g1 g2; exact absurd g2 (by omega)
    | succ n ih =>
      intro p p0 g1 g2 hP
      have inner : p < Y 10 0 → ∀ (m : Nat) (q : Int), p < q → q ≤ Y 10 0 → Y 10 0 - q < m → (∀ q', p < q' → q' < q → ¬ mtF Y p q' o) → G C K Q 0 0 27 [(0, .ref (ad 3)), (2, .ref (ad 8)), (3, vi p), (4, vi q)] [] (wC C ad B E Z Y V ++ R) := by
        intro p9 m
        induction m with
        | zero => intro q g0 g1 g2; exact absurd g2 (by omega)
        | succ m ihi =>
          intro q q0 g3 g4 hQ
          refine g_iload (t := 29) X dX4_firstThatMeetsAnother_27 3 rfl rfl ?_
          refine g_aload_n (t := 30) X dX4_firstThatMeetsAnother_29 0 rfl rfl ?_
          refine getf_X4 (t := 33) X 1 (by decide) q1_188 rfl rfl dX4_firstThatMeetsAnother_30 rfl ?_
          refine g_callV (t := 36) (mc := 0) (ms := 0) (rest := [vi q]) X mt_Jx4a65c_size_8abf5 q1_225 q1_226 q1_227 2 wC_2 rfl (c_Jx4a65c_size_8abf5 hfl 2 wC_2) (by decide) (Nat.le_of_ble_eq_true rfl) (Nat.le_of_ble_eq_true rfl) (Nat.le_of_ble_eq_true rfl) rfl rfl dX4_firstThatMeetsAnother_33 rfl (k_rv ?_)
          refine g_icmp_ge (t := 77) (u := 39) X dX4_firstThatMeetsAnother_36 (by decide) rfl ⟨by omega, by omega⟩ ⟨by omega, by omega⟩ (fun c_36 => ?_) (fun c_36 => ?_)
          · refine g_iinc (t := 80) (lv1 := [(3, vi (p + 1)), (0, .ref (ad 3)), (2, .ref (ad 8)), (4, vi q)]) X dX4_firstThatMeetsAnother_77 2 rfl (by decide) rfl rfl ?_
            refine g_goto (t := 11) X dX4_firstThatMeetsAnother_80 (by decide) ?_
            exact g_lv (ih (p + 1) (by omega) (by omega) (by omega) (fun p' q' x0 x1 x2 x3 => by
                        rcases Int.lt_or_eq_of_le (show p' ≤ p by omega) with c | c
                        · exact hP p' q' x0 c x2 x3
                        · subst c; exact hQ q' x2 (by omega))) [1, 2, 0] rfl
          · obtain ⟨cap9, qe9, f9, hcap9, hqe9, hall9⟩ := hR (by omega)
            refine g_aload_n (t := 40) X dX4_firstThatMeetsAnother_39 0 rfl rfl ?_
            refine getf_X4 (t := 43) X 1 (by decide) q1_188 rfl rfl dX4_firstThatMeetsAnother_40 rfl ?_
            refine g_iload_n (t := 44) X dX4_firstThatMeetsAnother_43 2 rfl rfl ?_
            obtain ⟨a_44, k_44, ef_44, ek_44⟩ := hall9 p (by omega) (by omega)
            have hp_44 := hI.2.2.2.1 p (by omega) (by omega)
            refine g_callV (t := 47) (mc := 0) (ms := 0) (rest := []) X mt_Jx4a65c_get_915e3 q1_229 q1_230 q1_231 2 wC_2 rfl (c_Jx4a65c_get_915e3 (E := E) hfl 2 wC_2 (qe9 + 22) (wC_R.trans hqe9) (by omega) (by omega) (by omega) ef_44 (by omega) (by omega)) (by decide) (Nat.le_of_ble_eq_true rfl) (Nat.le_of_ble_eq_true rfl) (Nat.le_of_ble_eq_true rfl) rfl rfl dX4_firstThatMeetsAnother_44 rfl (k_rv ?_)
            refine g_castS (t := 50) X (k_44 + 22) (wC_R.trans ek_44) rfl q2_3 dX4_firstThatMeetsAnother_47 rfl ?_
            refine g_aload_n (t := 51) X dX4_firstThatMeetsAnother_50 0 rfl rfl ?_
            refine getf_X4 (t := 54) X 1 (by decide) q1_188 rfl rfl dX4_firstThatMeetsAnother_51 rfl ?_
            refine g_iload (t := 56) X dX4_firstThatMeetsAnother_54 3 rfl rfl ?_
            obtain ⟨a_56, k_56, ef_56, ek_56⟩ := hall9 q (by omega) (by omega)
            have hp_56 := hI.2.2.2.1 q (by omega) (by omega)
            refine g_callV (t := 59) (mc := 0) (ms := 0) (rest := [.ref a_44]) X mt_Jx4a65c_get_915e3 q1_229 q1_230 q1_231 2 wC_2 rfl (c_Jx4a65c_get_915e3 (E := E) hfl 2 wC_2 (qe9 + 22) (wC_R.trans hqe9) (by omega) (by omega) (by omega) ef_56 (by omega) (by omega)) (by decide) (Nat.le_of_ble_eq_true rfl) (Nat.le_of_ble_eq_true rfl) (Nat.le_of_ble_eq_true rfl) rfl rfl dX4_firstThatMeetsAnother_56 rfl (k_rv ?_)
            refine g_castS (t := 62) X (k_56 + 22) (wC_R.trans ek_56) rfl q2_3 dX4_firstThatMeetsAnother_59 rfl ?_
            refine g_aload_n (t := 63) X dX4_firstThatMeetsAnother_62 1 rfl rfl ?_
            refine g_callS (t := 66) (mc := 0) (ms := 0) (rest := []) X mt_X4_doMeet q2_4 q2_5 (c_X4_doMeet hfl hI hZ (by omega) (by omega) (by omega) (by omega) (by omega) (by omega) ek_44 ek_56) (by decide) (Nat.le_of_ble_eq_true rfl) (Nat.le_of_ble_eq_true rfl) (Nat.le_of_ble_eq_true rfl) rfl rfl dX4_firstThatMeetsAnother_63 rfl (k_rb (fun b_63 => ?_) (fun b_63 => ?_))
            · refine g_if_eq (t := 71) (u := 69) X dX4_firstThatMeetsAnother_66 (by decide) rfl ⟨by omega, by omega⟩ (fun c => absurd c (by decide)) (fun _ => ?_)
              refine g_iload_n (t := 70) X dX4_firstThatMeetsAnother_69 2 rfl rfl ?_
              exact g_iret X r ⟨(p, Z), Or.inr ⟨p0, by omega, ⟨q, by omega, by omega, b_63⟩, hP⟩, rfl, rfl⟩ (Nat.le_of_ble_eq_true rfl) (Nat.le_of_ble_eq_true rfl) dX4_firstThatMeetsAnother_70
            · refine g_if_eq (t := 71) (u := 69) X dX4_firstThatMeetsAnother_66 (by decide) rfl ⟨by omega, by omega⟩ (fun _ => ?_) (fun c => absurd c (by decide))
              refine g_iinc (t := 74) (lv1 := [(4, vi (q + 1)), (0, .ref (ad 3)), (2, .ref (ad 8)), (3, vi p)]) X dX4_firstThatMeetsAnother_71 3 rfl (by decide) rfl rfl ?_
              refine g_goto (t := 27) X dX4_firstThatMeetsAnother_74 (by decide) ?_
              exact g_lv (ihi (q + 1) (by omega) (by omega) (by omega) (fun q' g0 g1 => by
                          rcases Int.lt_or_eq_of_le (show q' ≤ q by omega) with c | c
                          · exact hQ q' g0 c
                          · subst c; exact b_63)) [1, 2, 3, 0] rfl
      refine g_iload_n (t := 12) X dX4_firstThatMeetsAnother_11 2 rfl rfl ?_
      refine g_aload_n (t := 13) X dX4_firstThatMeetsAnother_12 0 rfl rfl ?_
      refine getf_X4 (t := 16) X 1 (by decide) q1_188 rfl rfl dX4_firstThatMeetsAnother_13 rfl ?_
      refine g_callV (t := 19) (mc := 0) (ms := 0) (rest := [vi p]) X mt_Jx4a65c_size_8abf5 q1_225 q1_226 q1_227 2 wC_2 rfl (c_Jx4a65c_size_8abf5 hfl 2 wC_2) (by decide) (Nat.le_of_ble_eq_true rfl) (Nat.le_of_ble_eq_true rfl) (Nat.le_of_ble_eq_true rfl) rfl rfl dX4_firstThatMeetsAnother_16 rfl (k_rv ?_)
      refine g_icmp_ge (t := 83) (u := 22) X dX4_firstThatMeetsAnother_19 (by decide) rfl ⟨by omega, by omega⟩ ⟨by omega, by omega⟩ (fun c_19 => ?_) (fun c_19 => ?_)
      · refine g_iconst (t := 84) X dX4_firstThatMeetsAnother_83 rfl ?_
        exact g_iret X r ⟨(-1, Z), Or.inl ⟨rfl, fun p' q' g0 g1 g2 => hP p' q' g0 (by omega) g1 g2⟩, rfl, rfl⟩ (Nat.le_of_ble_eq_true rfl) (Nat.le_of_ble_eq_true rfl) dX4_firstThatMeetsAnother_84
      · refine g_iload_n (t := 23) X dX4_firstThatMeetsAnother_22 2 rfl rfl ?_
        refine g_iconst (t := 24) X dX4_firstThatMeetsAnother_23 rfl ?_
        refine g_iadd (t := 25) X dX4_firstThatMeetsAnother_24 rfl ?_
        refine g_istore (t := 27) (lv1 := [(4, vi (p + 1)), (0, .ref (ad 3)), (2, .ref (ad 8)), (3, vi p)]) X dX4_firstThatMeetsAnother_25 (by decide) rfl rfl ?_
        exact g_lv (inner (by omega) ((Y 10 0).toNat + 1) (p + 1) (by omega) (by omega) (by omega) (fun q' g0 g1 => absurd g0 (by omega))) [1, 2, 3, 0] rfl
  show G C K Q 0 0 0 [(0, .ref (ad 3)), (1, vi o)] [] (wC C ad B E S Y V ++ R)
  refine g_aload_n (t := 1) X dX4_firstThatMeetsAnother_0 0 rfl rfl ?_
  refine getf_X4 (t := 4) X 0 (by decide) q1_187 rfl rfl dX4_firstThatMeetsAnother_1 rfl ?_
  refine g_iload_n (t := 5) X dX4_firstThatMeetsAnother_4 1 rfl rfl ?_
  refine g_callV (t := 8) (mc := 0) (ms := 0) (rest := []) X mt_X0_anglesAt q1_208 q1_209 q1_210 4 wC_4 rfl (c_X0_anglesAt hfl hI (by omega) (by omega)) (by decide) (Nat.le_of_ble_eq_true rfl) (Nat.le_of_ble_eq_true rfl) (Nat.le_of_ble_eq_true rfl) rfl rfl dX4_firstThatMeetsAnother_5 rfl (k_rA (fun Z5 hZ5 => ?_))
  refine g_astore_n (t := 9) (lv1 := [(2, .ref (ad 8)), (0, .ref (ad 3)), (1, vi o)]) X dX4_firstThatMeetsAnother_8 (by decide) rfl rfl ?_
  refine g_iconst (t := 10) X dX4_firstThatMeetsAnother_9 rfl ?_
  refine g_istore_n (t := 11) (lv1 := [(3, vi 0), (2, .ref (ad 8)), (0, .ref (ad 3)), (1, vi o)]) X dX4_firstThatMeetsAnother_10 (by decide) rfl rfl ?_
  exact g_lv (loop Z5 hZ5 ((Y 10 0).toNat + 1) 0 (by omega) (by omega) (by omega) (fun p' q' g0 g1 => absurd g0 (by omega))) [2, 1, 0] rfl

set_option maxHeartbeats 4000000 in
set_option maxRecDepth 100000 in
/-- test() -/
theorem c_X4_test {C : WC} {l : Launch} (hfl : l.stackTraces = false) {ad : Nat → Nat} {B : BT} {E : Int × Nat} {S Y V : Nat → Int → Int} {R : va_W}  (hI : MI Y) (hR : PR C E Y R) : MM C l yX4_test cX4_test 3 (some .int) 4 0 0 [.ref (ad 3)] (wC C ad B E S Y V ++ R) (fun v w => ∃ Z : Nat → Int → Int, TestR Y (testF Y) ∧ v = some (vi (testF Y)) ∧ w = wC C ad B E Z Y V ++ R) := by
  refine mm_of (by decide +kernel) (Nat.le_of_ble_eq_true rfl) hfl (fun K Q X r => ?_)
  have X : Cx C l "Springleaf" cX4_test 3 4 0 0 K := X
  have I3 := hI.1
  have I10 := hI.2.2.1
  have I12 := hI.2.2.2.2.1
  have loop : ∀ (n : Nat) (j : Int) (Z : Nat → Int → Int), 0 ≤ j → j ≤ 13 → 13 - j < n → (∀ j' p', 0 ≤ j' → j' < j → 0 ≤ p' → p' < Y 10 0 → ¬ Tm Y p' (15 * j')) → G C K Q 0 0 2 [(0, .ref (ad 3)), (1, vi (15 * j))] [] (wC C ad B E Z Y V ++ R) := by
    intro n
    induction n with
    | zero => intro j Z g0 g1 g2; exact absurd g2 (by omega)
    | succ n ih =>
      intro j Z j0 g1 g2 hJ
      refine g_iload_n (t := 3) X dX4_test_2 1 rfl rfl ?_
      refine g_sipush (t := 6) (z := 180) X dX4_test_3 (by decide +kernel) rfl ?_
      refine g_icmp_gt (t := 34) (u := 9) X dX4_test_6 (by decide) rfl ⟨by omega, by omega⟩ ⟨by omega, by omega⟩ (fun c_6 => ?_) (fun c_6 => ?_)
      · refine g_iconst (t := 35) X dX4_test_34 rfl ?_
        exact g_iret X r ⟨Z, by have hT : TestR Y (-1) := Or.inl ⟨rfl, fun j' p' g0 g1 g2 g3 => hJ j' p' g0 (by omega) g2 g3⟩; rw [← hT.eq]; exact ⟨hT, rfl, rfl⟩⟩ (Nat.le_of_ble_eq_true rfl) (Nat.le_of_ble_eq_true rfl) dX4_test_35
      · refine g_aload_n (t := 10) X dX4_test_9 0 rfl rfl ?_
        refine g_iload_n (t := 11) X dX4_test_10 1 rfl rfl ?_
        refine g_callV (t := 14) (mc := 0) (ms := 0) (rest := []) X mt_X4_firstThatMeetsAnother q1_204 q1_206 qs_0 3 wC_3 rfl (c_X4_firstThatMeetsAnother hfl hI hR (by omega) (by omega)) (by decide) (Nat.le_of_ble_eq_true rfl) (Nat.le_of_ble_eq_true rfl) (Nat.le_of_ble_eq_true rfl) rfl rfl dX4_test_11 rfl (k_ex (fun x9 hF => ?_))
        obtain ⟨r9, Z9⟩ := x9
        have hr9 : -1 ≤ r9 ∧ r9 < 16 := by rcases hF with ⟨h, _⟩ | ⟨h1, h2, _⟩ <;> (simp only at *; omega)
        have hF : FT Y (15 * j) r9 := hF
        show G C K Q _ _ _ _ _ (wC C ad B E Z9 Y V ++ R)
        refine g_istore_n (t := 15) (lv1 := [(2, vi r9), (0, .ref (ad 3)), (1, vi (15 * j))]) X dX4_test_14 (by decide) rfl rfl ?_
        refine g_iload_n (t := 16) X dX4_test_15 0 rfl rfl ?_
        refine g_iconst (t := 17) X dX4_test_16 rfl ?_
        refine g_icmp_eq (t := 28) (u := 20) X dX4_test_17 (by decide) rfl ⟨by omega, by omega⟩ ⟨by omega, by omega⟩ (fun c_17 => ?_) (fun c_17 => ?_)
        · refine g_iinc (t := 31) (lv1 := [(1, vi ((15 * j) + 15)), (2, vi r9), (0, .ref (ad 3))]) X dX4_test_28 2 rfl (by decide) rfl rfl ?_
          refine g_goto (t := 2) X dX4_test_31 (by decide) ?_
          rw [show (15 : Int) * j + 15 = 15 * (j + 1) by omega]
          exact g_lv (ih (j + 1) Z9 (by omega) (by omega) (by omega) (fun j' p' x0 x1 x2 x3 => by
                  rcases Int.lt_or_eq_of_le (show j' ≤ j by omega) with c | c
                  · exact hJ j' p' x0 c x2 x3
                  · subst c; exact (c_17 ▸ hF).no p' x2 x3)) [2, 0] rfl
        · refine g_sipush (t := 23) (z := 1000) X dX4_test_20 (by decide +kernel) rfl ?_
          refine g_iload_n (t := 24) X dX4_test_23 0 rfl rfl ?_
          refine g_imul (t := 25) X dX4_test_24 rfl ?_
          refine g_iload_n (t := 26) X dX4_test_25 2 rfl rfl ?_
          refine g_iadd (t := 27) X dX4_test_26 rfl ?_
          exact g_iret X r ⟨Z9, by have e := hF.yes c_17; have hT : TestR Y (1000 * r9 + 15 * j) := Or.inr ⟨j, r9, j0, by omega, e.1.1, e.1.2, rfl, e.2.1, e.2.2, hJ⟩; rw [← hT.eq]; exact ⟨hT, rfl, rfl⟩⟩ (Nat.le_of_ble_eq_true rfl) (Nat.le_of_ble_eq_true rfl) dX4_test_27
  show G C K Q 0 0 0 [(0, .ref (ad 3))] [] (wC C ad B E S Y V ++ R)
  refine g_iconst (t := 1) X dX4_test_0 rfl ?_
  refine g_istore_n (t := 2) (lv1 := [(1, vi 0), (0, .ref (ad 3))]) X dX4_test_1 (by decide) rfl rfl ?_
  exact g_lv (loop 14 0 S (by omega) (by omega) (by omega) (fun j' p' g0 g1 => absurd g0 (by omega))) [1, 0] rfl

set_option maxHeartbeats 4000000 in
set_option maxRecDepth 100000 in
/-- isBound() -/
theorem c_X4_isBound {C : WC} {l : Launch} (hfl : l.stackTraces = false) {ad : Nat → Nat} {B : BT} {E : Int × Nat} {S Y V : Nat → Int → Int} {R : va_W}  (hI : MI Y) (hR : PR C E Y R) : MM C l yX4_isBound cX4_isBound 1 (some .boolean) 5 0 0 [.ref (ad 3)] (wC C ad B E S Y V ++ R) (rbz (boundF Y) (fun Z => wC C ad B E Z Y V ++ R)) := by
  refine mm_of (by decide +kernel) (Nat.le_of_ble_eq_true rfl) hfl (fun K Q X r => ?_)
  have X : Cx C l "Springleaf" cX4_isBound 1 5 0 0 K := X
  have I3 := hI.1
  have I10 := hI.2.2.1
  have I12 := hI.2.2.2.2.1
  show G C K Q 0 0 0 [(0, .ref (ad 3))] [] (wC C ad B E S Y V ++ R)
  refine g_aload_n (t := 1) X dX4_isBound_0 0 rfl rfl ?_
  refine getf_X4 (t := 4) X 1 (by decide) q1_188 rfl rfl dX4_isBound_1 rfl ?_
  refine g_callV (t := 7) (mc := 0) (ms := 0) (rest := []) X mt_Jx4a65c_isEmpty_aae02 q2_76 q2_77 q2_78 2 wC_2 rfl (c_Jx4a65c_isEmpty_aae02 hfl 2 wC_2 (by omega) (by omega)) (by decide) (Nat.le_of_ble_eq_true rfl) (Nat.le_of_ble_eq_true rfl) (Nat.le_of_ble_eq_true rfl) rfl rfl dX4_isBound_4 rfl (k_rb (fun b_4 => ?_) (fun b_4 => ?_))
  · refine g_if_ne (t := 39) (u := 10) X dX4_isBound_7 (by decide) rfl ⟨by omega, by omega⟩ (fun _ => ?_) (fun c => absurd c (by decide))
    refine g_iconst (t := 40) X dX4_isBound_39 rfl ?_
    exact g_zret X r rfl (rbz_f S (by unfold boundF; omega)) (Nat.le_of_ble_eq_true rfl) (Nat.le_of_ble_eq_true rfl) dX4_isBound_40
  · refine g_if_ne (t := 39) (u := 10) X dX4_isBound_7 (by decide) rfl ⟨by omega, by omega⟩ (fun c => absurd c (by decide)) (fun _ => ?_)
    refine g_aload_n (t := 11) X dX4_isBound_10 0 rfl rfl ?_
    refine getf_X4 (t := 14) X 2 (by decide) q1_189 rfl rfl dX4_isBound_11 rfl ?_
    refine getf_X1 (t := 17) X 1 (by decide) q1_140 rfl rfl dX4_isBound_14 rfl ?_
    refine g_aload_n (t := 18) X dX4_isBound_17 0 rfl rfl ?_
    refine getf_X4 (t := 21) X 1 (by decide) q1_188 rfl rfl dX4_isBound_18 rfl ?_
    refine g_callV (t := 24) (mc := 0) (ms := 0) (rest := [vi (Y 12 0)]) X mt_Jx4a65c_size_8abf5 q1_225 q1_226 q1_227 2 wC_2 rfl (c_Jx4a65c_size_8abf5 hfl 2 wC_2) (by decide) (Nat.le_of_ble_eq_true rfl) (Nat.le_of_ble_eq_true rfl) (Nat.le_of_ble_eq_true rfl) rfl rfl dX4_isBound_21 rfl (k_rv ?_)
    refine g_icmp_ne (t := 39) (u := 27) X dX4_isBound_24 (by decide) rfl ⟨by omega, by omega⟩ ⟨by omega, by omega⟩ (fun c_24 => ?_) (fun c_24 => ?_)
    · refine g_iconst (t := 40) X dX4_isBound_39 rfl ?_
      exact g_zret X r rfl (rbz_f S (by unfold boundF; omega)) (Nat.le_of_ble_eq_true rfl) (Nat.le_of_ble_eq_true rfl) dX4_isBound_40
    · refine g_aload_n (t := 28) X dX4_isBound_27 0 rfl rfl ?_
      refine g_callV (t := 31) (mc := 0) (ms := 0) (rest := []) X mt_X4_test q2_80 q1_201 q1_202 3 wC_3 rfl (c_X4_test hfl hI hR) (by decide) (Nat.le_of_ble_eq_true rfl) (Nat.le_of_ble_eq_true rfl) (Nat.le_of_ble_eq_true rfl) rfl rfl dX4_isBound_28 rfl (k_ex (fun Z28 hT_28 => ?_))
      have ht_28 := test_rg hT_28
      have hu_28 : testF Y < 2147483648 := by rcases hT_28 with ⟨h, _⟩ | ⟨j, p, h1, h2, h3, h4, h5, _⟩ <;> omega
      refine g_iconst (t := 32) X dX4_isBound_31 rfl ?_
      refine g_icmp_ne (t := 39) (u := 35) X dX4_isBound_32 (by decide) rfl ⟨by omega, by omega⟩ ⟨by omega, by omega⟩ (fun c_32 => ?_) (fun c_32 => ?_)
      · refine g_iconst (t := 40) X dX4_isBound_39 rfl ?_
        exact g_zret X r rfl (rbz_f Z28 (by unfold boundF; omega)) (Nat.le_of_ble_eq_true rfl) (Nat.le_of_ble_eq_true rfl) dX4_isBound_40
      · refine g_iconst (t := 36) X dX4_isBound_35 rfl ?_
        refine g_goto (t := 40) X dX4_isBound_36 (by decide) ?_
        exact g_zret X r rfl (rbz_t Z28 (by unfold boundF; omega)) (Nat.le_of_ble_eq_true rfl) (Nat.le_of_ble_eq_true rfl) dX4_isBound_40

set_option maxHeartbeats 4000000 in
set_option maxRecDepth 100000 in
/-- layAllParts() -/
theorem c_X4_layAllParts {C : WC} {l : Launch} (hfl : l.stackTraces = false) {ad : Nat → Nat} {B : BT} {E : Int × Nat} {S Y V : Nat → Int → Int} {R : va_W}  (hI : MI Y) (hR : PR C E Y R) : MM C l yX4_layAllParts cX4_layAllParts 3 none 3 0 0 [.ref (ad 3)] (wC C ad B E S Y V ++ R) (rn (wC C ad B E S Y (layF Y V) ++ R)) := by
  refine mm_of (by decide +kernel) (Nat.le_of_ble_eq_true rfl) hfl (fun K Q X r => ?_)
  have X : Cx C l "Springleaf" cX4_layAllParts 3 3 0 0 K := X
  have I3 := hI.1
  have I10 := hI.2.2.1
  have I12 := hI.2.2.2.2.1
  have loop : ∀ (n : Nat) (p : Int) (U : Nat → Int → Int), 0 ≤ p → p ≤ Y 10 0 → Y 10 0 - p < n → U = layN Y V p.toNat → LI U → U 17 0 ≤ p → G C K Q 0 0 9 [(0, .ref (ad 3)), (1, vi p)] [] (wC C ad B E S Y U ++ R) := by
    intro n
    induction n with
    | zero => intro p U g0 g1 g2; exact absurd g2 (by omega)
    | succ n ih =>
      intro p U p0 g1 g2 eV hL hU
      refine g_iload_n (t := 10) X dX4_layAllParts_9 1 rfl rfl ?_
      refine g_aload_n (t := 11) X dX4_layAllParts_10 0 rfl rfl ?_
      refine getf_X4 (t := 14) X 1 (by decide) q1_188 rfl rfl dX4_layAllParts_11 rfl ?_
      refine g_callV (t := 17) (mc := 0) (ms := 0) (rest := [vi p]) X mt_Jx4a65c_size_8abf5 q1_225 q1_226 q1_227 2 wC_2 rfl (c_Jx4a65c_size_8abf5 hfl 2 wC_2) (by decide) (Nat.le_of_ble_eq_true rfl) (Nat.le_of_ble_eq_true rfl) (Nat.le_of_ble_eq_true rfl) rfl rfl dX4_layAllParts_14 rfl (k_rv ?_)
      refine g_icmp_ge (t := 54) (u := 20) X dX4_layAllParts_17 (by decide) rfl ⟨by omega, by omega⟩ ⟨by omega, by omega⟩ (fun c_17 => ?_) (fun c_17 => ?_)
      · exact g_vret X r (by rw [eV]; unfold layF; rw [show p.toNat = (Y 10 0).toNat by omega]; exact rn_i) (Nat.le_of_ble_eq_true rfl) (Nat.le_of_ble_eq_true rfl) dX4_layAllParts_54
      · obtain ⟨cap9, qe9, f9, hcap9, hqe9, hall9⟩ := hR (by omega)
        have hll := hL.lay hI p0 (by omega)
        refine g_aload_n (t := 21) X dX4_layAllParts_20 0 rfl rfl ?_
        refine getf_X4 (t := 24) X 1 (by decide) q1_188 rfl rfl dX4_layAllParts_21 rfl ?_
        refine g_iload_n (t := 25) X dX4_layAllParts_24 1 rfl rfl ?_
        obtain ⟨a_25, k_25, ef_25, ek_25⟩ := hall9 p (by omega) (by omega)
        have hp_25 := hI.2.2.2.1 p (by omega) (by omega)
        refine g_callV (t := 28) (mc := 0) (ms := 0) (rest := []) X mt_Jx4a65c_get_915e3 q1_229 q1_230 q1_231 2 wC_2 rfl (c_Jx4a65c_get_915e3 (E := E) hfl 2 wC_2 (qe9 + 22) (wC_R.trans hqe9) (by omega) (by omega) (by omega) ef_25 (by omega) (by omega)) (by decide) (Nat.le_of_ble_eq_true rfl) (Nat.le_of_ble_eq_true rfl) (Nat.le_of_ble_eq_true rfl) rfl rfl dX4_layAllParts_25 rfl (k_rv ?_)
        refine g_castS (t := 31) X (k_25 + 22) (wC_R.trans ek_25) rfl q2_3 dX4_layAllParts_28 rfl ?_
        refine g_astore_n (t := 32) (lv1 := [(2, .ref a_25), (0, .ref (ad 3)), (1, vi p)]) X dX4_layAllParts_31 (by decide) rfl rfl ?_
        refine g_aload_n (t := 33) X dX4_layAllParts_32 1 rfl rfl ?_
        refine getf_X4 (t := 36) X 3 (by decide) q1_190 rfl rfl dX4_layAllParts_33 rfl ?_
        refine g_iload_n (t := 37) X dX4_layAllParts_36 2 rfl rfl ?_
        refine g_aload_n (t := 38) X dX4_layAllParts_37 0 rfl rfl ?_
        refine g_callV (t := 41) (mc := 0) (ms := 0) (rest := [vi p, .ref (ad 13)]) X mt_X3_pieceWidth q2_44 q2_45 q2_46 (k_25 + 22) (wC_R.trans ek_25) rfl (c_X3_pieceWidth hfl hI (by omega) (by omega) (k_25 + 22) (wC_R.trans ek_25)) (by decide) (Nat.le_of_ble_eq_true rfl) (Nat.le_of_ble_eq_true rfl) (Nat.le_of_ble_eq_true rfl) rfl rfl dX4_layAllParts_38 rfl (k_rv ?_)
        refine g_aload_n (t := 42) X dX4_layAllParts_41 0 rfl rfl ?_
        refine g_callV (t := 45) (mc := 0) (ms := 0) (rest := [vi (wideF Y p), vi p, .ref (ad 13)]) X mt_X3_pieceHeight q2_48 q2_49 q2_50 (k_25 + 22) (wC_R.trans ek_25) rfl (c_X3_pieceHeight hfl hI (by omega) (by omega) (k_25 + 22) (wC_R.trans ek_25)) (by decide) (Nat.le_of_ble_eq_true rfl) (Nat.le_of_ble_eq_true rfl) (Nat.le_of_ble_eq_true rfl) rfl rfl dX4_layAllParts_42 rfl (k_rv ?_)
        refine g_callV (t := 48) (mc := 0) (ms := 0) (rest := []) X mt_X2_lay q2_52 q2_53 q2_54 13 wC_13 rfl (c_X2_lay hfl hI hL (by omega) (by omega) (by omega)) (by decide) (Nat.le_of_ble_eq_true rfl) (Nat.le_of_ble_eq_true rfl) (Nat.le_of_ble_eq_true rfl) rfl rfl dX4_layAllParts_45 rfl (k_rn ?_)
        refine g_iinc (t := 51) (lv1 := [(1, vi (p + 1)), (2, .ref a_25), (0, .ref (ad 3))]) X dX4_layAllParts_48 2 rfl (by decide) rfl rfl ?_
        refine g_goto (t := 9) X dX4_layAllParts_51 (by decide) ?_
        exact g_lv (ih (p + 1) (layP Y U p) (by omega) (by omega) (by omega) (by rw [layN_succ Y V p0, ← eV]) hll.1 (by have h2 := hll.2; omega)) [2, 0] rfl
  show G C K Q 0 0 0 [(0, .ref (ad 3))] [] (wC C ad B E S Y V ++ R)
  refine g_aload_n (t := 1) X dX4_layAllParts_0 0 rfl rfl ?_
  refine getf_X4 (t := 4) X 3 (by decide) q1_190 rfl rfl dX4_layAllParts_1 rfl ?_
  refine g_callV (t := 7) (mc := 0) (ms := 0) (rest := []) X mt_X2_clear q2_40 q2_41 q2_42 13 wC_13 rfl (c_X2_clear hfl) (by decide) (Nat.le_of_ble_eq_true rfl) (Nat.le_of_ble_eq_true rfl) (Nat.le_of_ble_eq_true rfl) rfl rfl dX4_layAllParts_4 rfl (k_rn ?_)
  show G C K Q _ _ _ _ _ (wC C ad B E S Y (layN Y V 0) ++ R)
  refine g_iconst (t := 8) X dX4_layAllParts_7 rfl ?_
  refine g_istore_n (t := 9) (lv1 := [(1, vi 0), (0, .ref (ad 3))]) X dX4_layAllParts_8 (by decide) rfl rfl ?_
  exact g_lv (loop ((Y 10 0).toNat + 1) 0 (layN Y V 0) (by omega) (by omega) (by omega) rfl (LI.zero V) (Int.le_refl 0)) [1, 0] rfl

set_option maxHeartbeats 4000000 in
set_option maxRecDepth 100000 in
/-- isStartCovered(part) -/
theorem c_X4_isStartCovered {C : WC} {l : Launch} (hfl : l.stackTraces = false) {ad : Nat → Nat} {B : BT} {E : Int × Nat} {S Y V : Nat → Int → Int} {R : va_W} {p : Int} {a ka : Nat} (hI : MI Y) (hR : PR C E Y R) (p0 : 0 ≤ p) (p1 : p < Y 10 0) (eka : R[ka]? = some (a, .inr (8, fPa Y p))) : MM C l yX4_isStartCovered cX4_isStartCovered 6 (some .boolean) 3 0 0 [.ref (ad 3), .ref a] (wC C ad B E S Y V ++ R) (rbz (∃ k, 0 ≤ k ∧ k < Y 12 0 ∧ Cov Y p (Y 11 k)) (fun Z => wC C ad B E Z Y V ++ R)) := by
  refine mm_of (by decide +kernel) (Nat.le_of_ble_eq_true rfl) hfl (fun K Q X r => ?_)
  have X : Cx C l "Springleaf" cX4_isStartCovered 6 3 0 0 K := X
  have I3 := hI.1
  have I10 := hI.2.2.1
  have I12 := hI.2.2.2.2.1
  have hp := hI.2.2.2.1 p p0 p1
  have loop : ∀ (Z : Nat → Int → Int), AP Y Z 180 (Y 3 0) → ∀ (n : Nat) (k : Int), 0 ≤ k → k ≤ Y 12 0 → Y 12 0 - k < n → (∀ i, 0 ≤ i → i < k → ¬ Cov Y p (Y 11 i)) → G C K Q 0 0 13 [(0, .ref (ad 3)), (1, .ref a), (2, .ref (ad 8)), (3, vi k)] [] (wC C ad B E Z Y V ++ R) := by
    intro Z hZ n
    induction n with
    | zero => intro k g0 g1 g2; exact absurd g2 (by omega)
    | succ n ih =>
      intro k k0 g1 g2 hK
      refine g_iload_n (t := 14) X dX4_isStartCovered_13 3 rfl rfl ?_
      refine g_aload_n (t := 15) X dX4_isStartCovered_14 0 rfl rfl ?_
      refine getf_X4 (t := 18) X 2 (by decide) q1_189 rfl rfl dX4_isStartCovered_15 rfl ?_
      refine getf_X1 (t := 21) X 1 (by decide) q1_140 rfl rfl dX4_isStartCovered_18 rfl ?_
      refine g_icmp_ge (t := 98) (u := 24) X dX4_isStartCovered_21 (by decide) rfl ⟨by omega, by omega⟩ ⟨by omega, by omega⟩ (fun c_21 => ?_) (fun c_21 => ?_)
      · refine g_iconst (t := 99) X dX4_isStartCovered_98 rfl ?_
        exact g_zret X r rfl (rbz_f Z (fun h => by obtain ⟨i, i0, i1, hc⟩ := h; exact hK i i0 (by omega) hc)) (Nat.le_of_ble_eq_true rfl) (Nat.le_of_ble_eq_true rfl) dX4_isStartCovered_99
      · obtain ⟨cap9, qe9, f9, hcap9, hqe9, hall9⟩ := hR (by omega)
        refine g_aload_n (t := 25) X dX4_isStartCovered_24 0 rfl rfl ?_
        refine getf_X4 (t := 28) X 1 (by decide) q1_188 rfl rfl dX4_isStartCovered_25 rfl ?_
        refine g_aload_n (t := 29) X dX4_isStartCovered_28 0 rfl rfl ?_
        refine getf_X4 (t := 32) X 2 (by decide) q1_189 rfl rfl dX4_isStartCovered_29 rfl ?_
        refine g_iload_n (t := 33) X dX4_isStartCovered_32 3 rfl rfl ?_
        refine g_callV (t := 36) (mc := 0) (ms := 0) (rest := [.ref (ad 2)]) X mt_X1_partAt q3_134 q3_135 q3_136 11 wC_11 rfl (c_X1_partAt hfl hI ⟨by omega, by omega⟩) (by decide) (Nat.le_of_ble_eq_true rfl) (Nat.le_of_ble_eq_true rfl) (Nat.le_of_ble_eq_true rfl) rfl rfl dX4_isStartCovered_33 rfl (k_rv ?_)
        rw [show ptF Y k = Y 11 k from if_pos ⟨by omega, by omega⟩]
        have ho_33 := hI.2.2.2.2.2.1 k (by omega) (by omega)
        obtain ⟨a_36, k_36, ef_36, ek_36⟩ := hall9 (Y 11 k) (by omega) (by omega)
        have hp_36 := hI.2.2.2.1 (Y 11 k) (by omega) (by omega)
        refine g_callV (t := 39) (mc := 0) (ms := 0) (rest := []) X mt_Jx4a65c_get_915e3 q1_229 q1_230 q1_231 2 wC_2 rfl (c_Jx4a65c_get_915e3 (E := E) hfl 2 wC_2 (qe9 + 22) (wC_R.trans hqe9) (by omega) (by omega) (by omega) ef_36 (by omega) (by omega)) (by decide) (Nat.le_of_ble_eq_true rfl) (Nat.le_of_ble_eq_true rfl) (Nat.le_of_ble_eq_true rfl) rfl rfl dX4_isStartCovered_36 rfl (k_rv ?_)
        refine g_castS (t := 42) X (k_36 + 22) (wC_R.trans ek_36) rfl q2_3 dX4_isStartCovered_39 rfl ?_
        refine g_astore (t := 44) (lv1 := [(4, .ref a_36), (0, .ref (ad 3)), (1, .ref a), (2, .ref (ad 8)), (3, vi k)]) X dX4_isStartCovered_42 (by decide) rfl rfl ?_
        have gq := angF_rng Y (o := 180) (by omega) (by omega) (Y 4 (Y 11 k))
        have r3 := low_rng hI (p := Y 11 k) (o := 180) (by omega) (by omega) (by omega) (by omega)
        have r5 := high_rng hI (p := Y 11 k) (o := 180) (by omega) (by omega) (by omega) (by omega)
        refine g_aload_n (t := 45) X dX4_isStartCovered_44 3 rfl rfl ?_
        refine g_aload (t := 47) X dX4_isStartCovered_45 0 rfl rfl ?_
        refine g_getf (t := 50) X inX3 (k_36 + 22) (wC_R.trans ek_36) rfl 0 (by decide) q2_223 rfl rfl dX4_isStartCovered_47 rfl ?_
        refine g_iald (t := 51) (f := Z 0) X 8 wC_8 (by omega) (by omega) (by omega) dX4_isStartCovered_50 rfl ?_
        rw [(hZ (Y 4 (Y 11 k)) (by omega) (by omega)).1]
        refine g_istore (t := 53) (lv1 := [(5, vi (angF Y (Y 4 (Y 11 k)) 180)), (4, .ref a_36), (0, .ref (ad 3)), (1, .ref a), (2, .ref (ad 8)), (3, vi k)]) X dX4_isStartCovered_51 (by decide) rfl rfl ?_
        refine g_aload (t := 55) X dX4_isStartCovered_53 1 rfl rfl ?_
        refine g_aload_n (t := 56) X dX4_isStartCovered_55 3 rfl rfl ?_
        refine g_callV (t := 59) (mc := 0) (ms := 0) (rest := []) X mt_X3_sharesLineWith q2_12 q2_13 q2_14 (k_36 + 22) (wC_R.trans ek_36) rfl (c_X3_sharesLineWith hfl hI (by omega) (by omega) (k_36 + 22) (wC_R.trans ek_36) (by omega) (by omega) (ka + 22) (wC_R.trans eka)) (by decide) (Nat.le_of_ble_eq_true rfl) (Nat.le_of_ble_eq_true rfl) (Nat.le_of_ble_eq_true rfl) rfl rfl dX4_isStartCovered_56 rfl (k_rb (fun b_56 => ?_) (fun b_56 => ?_))
        · refine g_if_eq (t := 92) (u := 62) X dX4_isStartCovered_59 (by decide) rfl ⟨by omega, by omega⟩ (fun c => absurd c (by decide)) (fun _ => ?_)
          refine g_aload (t := 64) X dX4_isStartCovered_62 1 rfl rfl ?_
          refine g_iload (t := 66) X dX4_isStartCovered_64 0 rfl rfl ?_
          refine g_callV (t := 69) (mc := 0) (ms := 0) (rest := []) X mt_X3_spanStart q2_16 q2_17 q2_18 (k_36 + 22) (wC_R.trans ek_36) rfl (c_X3_spanStart hfl hI (by omega) (by omega) (k_36 + 22) (wC_R.trans ek_36) (by omega) (by omega)) (by decide) (Nat.le_of_ble_eq_true rfl) (Nat.le_of_ble_eq_true rfl) (Nat.le_of_ble_eq_true rfl) rfl rfl dX4_isStartCovered_66 rfl (k_rv ?_)
          rw [← lowF_G]
          refine g_aload_n (t := 70) X dX4_isStartCovered_69 3 rfl rfl ?_
          refine g_getf (t := 73) X inX3 (ka + 22) (wC_R.trans eka) rfl 1 (by decide) q2_225 rfl rfl dX4_isStartCovered_70 rfl ?_
          refine g_icmp_gt (t := 92) (u := 76) X dX4_isStartCovered_73 (by decide) rfl ⟨by omega, by omega⟩ ⟨by omega, by omega⟩ (fun c_73 => ?_) (fun c_73 => ?_)
          · refine g_iinc (t := 95) (lv1 := [(3, vi (k + 1)), (5, vi (angF Y (Y 4 (Y 11 k)) 180)), (4, .ref a_36), (0, .ref (ad 3)), (1, .ref a), (2, .ref (ad 8))]) X dX4_isStartCovered_92 5 rfl (by decide) rfl rfl ?_
            refine g_goto (t := 13) X dX4_isStartCovered_95 (by decide) ?_
            exact g_lv (ih (k + 1) (by omega) (by omega) (by omega) (fun i i0 i1 hc => by
                    rcases Int.lt_or_eq_of_le (show i ≤ k by omega) with c | c
                    · exact hK i i0 c hc
                    · subst c; obtain ⟨⟨s1, s2⟩, s3, s4⟩ := hc; first | exact b_56 ⟨s2, s1⟩ | omega)) [3, 4, 5, 0] rfl
          · refine g_aload_n (t := 77) X dX4_isStartCovered_76 3 rfl rfl ?_
            refine g_getf (t := 80) X inX3 (ka + 22) (wC_R.trans eka) rfl 1 (by decide) q2_225 rfl rfl dX4_isStartCovered_77 rfl ?_
            refine g_aload (t := 82) X dX4_isStartCovered_80 1 rfl rfl ?_
            refine g_iload (t := 84) X dX4_isStartCovered_82 0 rfl rfl ?_
            refine g_callV (t := 87) (mc := 0) (ms := 0) (rest := [vi (Y 5 p)]) X mt_X3_spanEnd q2_24 q2_25 q2_26 (k_36 + 22) (wC_R.trans ek_36) rfl (c_X3_spanEnd hfl hI (by omega) (by omega) (k_36 + 22) (wC_R.trans ek_36) (by omega) (by omega)) (by decide) (Nat.le_of_ble_eq_true rfl) (Nat.le_of_ble_eq_true rfl) (Nat.le_of_ble_eq_true rfl) rfl rfl dX4_isStartCovered_84 rfl (k_rv ?_)
            rw [← highF_G]
            refine g_icmp_gt (t := 92) (u := 90) X dX4_isStartCovered_87 (by decide) rfl ⟨by omega, by omega⟩ ⟨by omega, by omega⟩ (fun c_87 => ?_) (fun c_87 => ?_)
            · refine g_iinc (t := 95) (lv1 := [(3, vi (k + 1)), (5, vi (angF Y (Y 4 (Y 11 k)) 180)), (4, .ref a_36), (0, .ref (ad 3)), (1, .ref a), (2, .ref (ad 8))]) X dX4_isStartCovered_92 5 rfl (by decide) rfl rfl ?_
              refine g_goto (t := 13) X dX4_isStartCovered_95 (by decide) ?_
              exact g_lv (ih (k + 1) (by omega) (by omega) (by omega) (fun i i0 i1 hc => by
                      rcases Int.lt_or_eq_of_le (show i ≤ k by omega) with c | c
                      · exact hK i i0 c hc
                      · subst c; obtain ⟨⟨s1, s2⟩, s3, s4⟩ := hc; first | exact b_56 ⟨s2, s1⟩ | omega)) [3, 4, 5, 0] rfl
            · refine g_iconst (t := 91) X dX4_isStartCovered_90 rfl ?_
              exact g_zret X r rfl (rbz_t Z ⟨k, k0, by omega, ⟨b_56.2, b_56.1⟩, by omega, by omega⟩) (Nat.le_of_ble_eq_true rfl) (Nat.le_of_ble_eq_true rfl) dX4_isStartCovered_91
        · refine g_if_eq (t := 92) (u := 62) X dX4_isStartCovered_59 (by decide) rfl ⟨by omega, by omega⟩ (fun _ => ?_) (fun c => absurd c (by decide))
          refine g_iinc (t := 95) (lv1 := [(3, vi (k + 1)), (5, vi (angF Y (Y 4 (Y 11 k)) 180)), (4, .ref a_36), (0, .ref (ad 3)), (1, .ref a), (2, .ref (ad 8))]) X dX4_isStartCovered_92 5 rfl (by decide) rfl rfl ?_
          refine g_goto (t := 13) X dX4_isStartCovered_95 (by decide) ?_
          exact g_lv (ih (k + 1) (by omega) (by omega) (by omega) (fun i i0 i1 hc => by
                  rcases Int.lt_or_eq_of_le (show i ≤ k by omega) with c | c
                  · exact hK i i0 c hc
                  · subst c; obtain ⟨⟨s1, s2⟩, s3, s4⟩ := hc; first | exact b_56 ⟨s2, s1⟩ | omega)) [3, 4, 5, 0] rfl
  show G C K Q 0 0 0 [(0, .ref (ad 3)), (1, .ref a)] [] (wC C ad B E S Y V ++ R)
  refine g_aload_n (t := 1) X dX4_isStartCovered_0 0 rfl rfl ?_
  refine getf_X4 (t := 4) X 0 (by decide) q1_187 rfl rfl dX4_isStartCovered_1 rfl ?_
  refine g_sipush (t := 7) (z := 180) X dX4_isStartCovered_4 (by decide +kernel) rfl ?_
  refine g_callV (t := 10) (mc := 0) (ms := 0) (rest := []) X mt_X0_anglesAt q1_208 q1_209 q1_210 4 wC_4 rfl (c_X0_anglesAt hfl hI (by omega) (by omega)) (by decide) (Nat.le_of_ble_eq_true rfl) (Nat.le_of_ble_eq_true rfl) (Nat.le_of_ble_eq_true rfl) rfl rfl dX4_isStartCovered_7 rfl (k_rA (fun Z7 hZ7 => ?_))
  refine g_astore_n (t := 11) (lv1 := [(2, .ref (ad 8)), (0, .ref (ad 3)), (1, .ref a)]) X dX4_isStartCovered_10 (by decide) rfl rfl ?_
  refine g_iconst (t := 12) X dX4_isStartCovered_11 rfl ?_
  refine g_istore_n (t := 13) (lv1 := [(3, vi 0), (2, .ref (ad 8)), (0, .ref (ad 3)), (1, .ref a)]) X dX4_isStartCovered_12 (by decide) rfl rfl ?_
  exact g_lv (loop Z7 hZ7 ((Y 12 0).toNat + 1) 0 (by omega) (by omega) (by omega) (fun i i0 i1 => absurd i0 (by omega))) [2, 3, 1, 0] rfl

set_option maxHeartbeats 4000000 in
set_option maxRecDepth 100000 in
/-- hasHold(part) -/
theorem c_X4_hasHold {C : WC} {l : Launch} (hfl : l.stackTraces = false) {ad : Nat → Nat} {B : BT} {E : Int × Nat} {S Y V : Nat → Int → Int} {R : va_W} {p : Int} {a ka : Nat} (hI : MI Y) (hR : PR C E Y R) (p0 : 0 ≤ p) (p1 : p < Y 10 0) (eka : R[ka]? = some (a, .inr (8, fPa Y p))) : MM C l yX4_hasHold cX4_hasHold 4 (some .boolean) 3 0 0 [.ref (ad 3), .ref a] (wC C ad B E S Y V ++ R) (rb (HeldP Y p (Y 12 0)) (wC C ad B E S Y V ++ R)) := by
  refine mm_of (by decide +kernel) (Nat.le_of_ble_eq_true rfl) hfl (fun K Q X r => ?_)
  have X : Cx C l "Springleaf" cX4_hasHold 4 3 0 0 K := X
  have I3 := hI.1
  have I10 := hI.2.2.1
  have I12 := hI.2.2.2.2.1
  have hp := hI.2.2.2.1 p p0 p1
  have loop : Y 4 p ≠ 0 → -1 ≤ Y 0 (Y 4 p) → Y 0 (Y 4 p) < 12 → ∀ (n : Nat) (k : Int), 0 ≤ k → k ≤ Y 12 0 → Y 12 0 - k < n → (∀ i, 0 ≤ i → i < k → ¬ Y 4 (Y 11 i) = Y 0 (Y 4 p)) → G C K Q 0 0 24 [(0, .ref (ad 3)), (2, vi (Y 0 (Y 4 p))), (3, vi k)] [] (wC C ad B E S Y V ++ R) := by
    intro hz hy0 hy1 n
    induction n with
    | zero => intro k g0 g1 g2; exact absurd g2 (by omega)
    | succ n ih =>
      intro k k0 g1 g2 hK
      refine g_iload_n (t := 25) X dX4_hasHold_24 2 rfl rfl ?_
      refine g_aload_n (t := 26) X dX4_hasHold_25 0 rfl rfl ?_
      refine getf_X4 (t := 29) X 2 (by decide) q1_189 rfl rfl dX4_hasHold_26 rfl ?_
      refine getf_X1 (t := 32) X 1 (by decide) q1_140 rfl rfl dX4_hasHold_29 rfl ?_
      refine g_icmp_ge (t := 68) (u := 35) X dX4_hasHold_32 (by decide) rfl ⟨by omega, by omega⟩ ⟨by omega, by omega⟩ (fun c_32 => ?_) (fun c_32 => ?_)
      · refine g_iconst (t := 69) X dX4_hasHold_68 rfl ?_
        exact g_zret X r rfl (rb_f (fun h => by rcases h with h | ⟨i, i0, i1, hc⟩; (first | omega); exact hK i i0 (by omega) hc)) (Nat.le_of_ble_eq_true rfl) (Nat.le_of_ble_eq_true rfl) dX4_hasHold_69
      · obtain ⟨cap9, qe9, f9, hcap9, hqe9, hall9⟩ := hR (by omega)
        refine g_aload_n (t := 36) X dX4_hasHold_35 0 rfl rfl ?_
        refine getf_X4 (t := 39) X 1 (by decide) q1_188 rfl rfl dX4_hasHold_36 rfl ?_
        refine g_aload_n (t := 40) X dX4_hasHold_39 0 rfl rfl ?_
        refine getf_X4 (t := 43) X 2 (by decide) q1_189 rfl rfl dX4_hasHold_40 rfl ?_
        refine g_iload_n (t := 44) X dX4_hasHold_43 2 rfl rfl ?_
        refine g_callV (t := 47) (mc := 0) (ms := 0) (rest := [.ref (ad 2)]) X mt_X1_partAt q3_134 q3_135 q3_136 11 wC_11 rfl (c_X1_partAt hfl hI ⟨by omega, by omega⟩) (by decide) (Nat.le_of_ble_eq_true rfl) (Nat.le_of_ble_eq_true rfl) (Nat.le_of_ble_eq_true rfl) rfl rfl dX4_hasHold_44 rfl (k_rv ?_)
        rw [show ptF Y k = Y 11 k from if_pos ⟨by omega, by omega⟩]
        have ho_44 := hI.2.2.2.2.2.1 k (by omega) (by omega)
        obtain ⟨a_47, k_47, ef_47, ek_47⟩ := hall9 (Y 11 k) (by omega) (by omega)
        have hp_47 := hI.2.2.2.1 (Y 11 k) (by omega) (by omega)
        refine g_callV (t := 50) (mc := 0) (ms := 0) (rest := []) X mt_Jx4a65c_get_915e3 q1_229 q1_230 q1_231 2 wC_2 rfl (c_Jx4a65c_get_915e3 (E := E) hfl 2 wC_2 (qe9 + 22) (wC_R.trans hqe9) (by omega) (by omega) (by omega) ef_47 (by omega) (by omega)) (by decide) (Nat.le_of_ble_eq_true rfl) (Nat.le_of_ble_eq_true rfl) (Nat.le_of_ble_eq_true rfl) rfl rfl dX4_hasHold_47 rfl (k_rv ?_)
        refine g_castS (t := 53) X (k_47 + 22) (wC_R.trans ek_47) rfl q2_3 dX4_hasHold_50 rfl ?_
        refine g_getf (t := 56) X inX3 (k_47 + 22) (wC_R.trans ek_47) rfl 0 (by decide) q2_223 rfl rfl dX4_hasHold_53 rfl ?_
        refine g_iload_n (t := 57) X dX4_hasHold_56 1 rfl rfl ?_
        refine g_icmp_ne (t := 62) (u := 60) X dX4_hasHold_57 (by decide) rfl ⟨by omega, by omega⟩ ⟨by omega, by omega⟩ (fun c_57 => ?_) (fun c_57 => ?_)
        · refine g_iinc (t := 65) (lv1 := [(3, vi (k + 1)), (0, .ref (ad 3)), (2, vi (Y 0 (Y 4 p)))]) X dX4_hasHold_62 2 rfl (by decide) rfl rfl ?_
          refine g_goto (t := 24) X dX4_hasHold_65 (by decide) ?_
          exact g_lv (ih (k + 1) (by omega) (by omega) (by omega) (fun i i0 i1 hc => by
                  rcases Int.lt_or_eq_of_le (show i ≤ k by omega) with c | c
                  · exact hK i i0 c hc
                  · subst c; exact c_57 hc)) [1, 2, 0] rfl
        · refine g_iconst (t := 61) X dX4_hasHold_60 rfl ?_
          exact g_zret X r rfl (rb_t (Or.inr ⟨k, k0, by omega, c_57⟩)) (Nat.le_of_ble_eq_true rfl) (Nat.le_of_ble_eq_true rfl) dX4_hasHold_61
  show G C K Q 0 0 0 [(0, .ref (ad 3)), (1, .ref a)] [] (wC C ad B E S Y V ++ R)
  refine g_aload_n (t := 1) X dX4_hasHold_0 1 rfl rfl ?_
  refine g_getf (t := 4) X inX3 (ka + 22) (wC_R.trans eka) rfl 0 (by decide) q2_223 rfl rfl dX4_hasHold_1 rfl ?_
  refine g_if_ne (t := 9) (u := 7) X dX4_hasHold_4 (by decide) rfl ⟨by omega, by omega⟩ (fun c_4 => ?_) (fun c_4 => ?_)
  · have hf := hI.2.1 (Y 4 p) (by omega) (by omega)
    refine g_aload_n (t := 10) X dX4_hasHold_9 0 rfl rfl ?_
    refine getf_X4 (t := 13) X 0 (by decide) q1_187 rfl rfl dX4_hasHold_10 rfl ?_
    refine getf_X0 (t := 16) X 0 (by decide) q1_80 rfl rfl dX4_hasHold_13 rfl ?_
    refine g_aload_n (t := 17) X dX4_hasHold_16 1 rfl rfl ?_
    refine g_getf (t := 20) X inX3 (ka + 22) (wC_R.trans eka) rfl 0 (by decide) q2_223 rfl rfl dX4_hasHold_17 rfl ?_
    refine g_iald (t := 21) (f := Y 0) X 5 wC_5 (by omega) (by omega) (by omega) dX4_hasHold_20 rfl ?_
    refine g_istore_n (t := 22) (lv1 := [(2, vi ((Y 0) (Y 4 p))), (0, .ref (ad 3)), (1, .ref a)]) X dX4_hasHold_21 (by decide) rfl rfl ?_
    refine g_iconst (t := 23) X dX4_hasHold_22 rfl ?_
    refine g_istore_n (t := 24) (lv1 := [(3, vi 0), (2, vi ((Y 0) (Y 4 p))), (0, .ref (ad 3)), (1, .ref a)]) X dX4_hasHold_23 (by decide) rfl rfl ?_
    exact g_lv (loop (by omega) (by omega) (by omega) ((Y 12 0).toNat + 1) 0 (by omega) (by omega) (by omega) (fun i i0 i1 => absurd i0 (by omega))) [2, 1, 0] rfl
  · refine g_iconst (t := 8) X dX4_hasHold_7 rfl ?_
    exact g_zret X r rfl (rb_t (Or.inl (by omega))) (Nat.le_of_ble_eq_true rfl) (Nat.le_of_ble_eq_true rfl) dX4_hasHold_8

