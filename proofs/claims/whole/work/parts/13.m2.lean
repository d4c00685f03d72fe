section GR2
variable {C : WC} {l0 : Launch} {own : String} {cc : ByteArray} {nL d Mc Ms : Nat} {K : GK} {Q : State → Prop} {cells slots pc t : Nat} {lv lv1 : List (Nat × Value)} {st : List Value} {ws ws1 : va_W}
theorem g_irem (X : Cx C l0 own cc nL d Mc Ms K) {a b : Int} (hd : decode cc pc = .ok (.irem, 1)) (ha : 0 ≤ a) (ha1 : a < 2147483648) (hb0 : 0 < b) (hb1 : b < 2147483648) (hpc : pc + 1 = t) (k : G C K Q cells slots t lv (vi (a % b) :: st) ws) : G C K Q cells slots pc lv (vi b :: vi a :: st) ws := by
  obtain ⟨p, l, e, R, s, m, args, below, meth, c, nL⟩ := K
  obtain ⟨rfl, rfl, hx, hb, hml, hown, hT, hK, hN, hE, hlk, hfl, hfr, hlo, hmc, hms⟩ := X
  subst hpc
  intro H locs ls hP hD hS hl
  have e0 : a.tdiv b = a / b := Int.tdiv_eq_ediv_of_nonneg ha
  have h0 : 0 ≤ a / b := Int.ediv_nonneg ha (by omega)
  have h1 : a / b ≤ a := Int.ediv_le_self b ha
  have e1 : iZ a - iZ a / iZ b * iZ b = iZ (a % b) := by
    rw [iZ_div ⟨by omega, by omega⟩ ⟨by omega, by omega⟩ ⟨by rw [e0]; omega, by rw [e0]; omega⟩, iZ_mul, iZ_sub, e0, Int.emod_def, Int.mul_comm]
  exact lv_irem hx hb hd (fun h => by have := (iZ_eq (a := b) (b := 0) ⟨by omega, by omega⟩ Rg0).mp h; omega) (by rw [e1]; exact k H locs ls hP hD hS hl)
end GR2
def Tm (Y : Nat → Int → Int) (p o : Int) : Prop := ∃ q, 0 ≤ q ∧ q < Y 10 0 ∧ meetF Y p q o
/-- what the tester tells -/
def TestR (Y : Nat → Int → Int) (t : Int) : Prop :=
  (t = -1 ∧ ∀ j p, 0 ≤ j → j ≤ 12 → 0 ≤ p → p < Y 10 0 → ¬ Tm Y p (15 * j)) ∨
  ∃ j p, 0 ≤ j ∧ j ≤ 12 ∧ 0 ≤ p ∧ p < Y 10 0 ∧ t = 1000 * p + 15 * j ∧ Tm Y p (15 * j) ∧ (∀ p', 0 ≤ p' → p' < p → ¬ Tm Y p' (15 * j)) ∧ ∀ j' p', 0 ≤ j' → j' < j → 0 ≤ p' → p' < Y 10 0 → ¬ Tm Y p' (15 * j')
theorem TestR.one {Y : Nat → Int → Int} {t u : Int} (h : TestR Y t) (g : TestR Y u) : t = u := by
  rcases h with ⟨rfl, h⟩ | ⟨j, p, h1, h2, h3, h4, rfl, h6, h7, h8⟩
  · rcases g with ⟨rfl, g⟩ | ⟨j, p, h1, h2, h3, h4, rfl, h6, h7, h8⟩
    · rfl
    · exact absurd h6 (h j p h1 h2 h3 h4)
  · rcases g with ⟨rfl, g⟩ | ⟨j', p', g1, g2, g3, g4, rfl, g6, g7, g8⟩
    · exact absurd h6 (g j p h1 h2 h3 h4)
    · have ej : j = j' := by
        rcases Int.lt_trichotomy j j' with q | q | q
        · exact absurd h6 (g8 j p h1 q h3 h4)
        · exact q
        · exact absurd g6 (h8 j' p' g1 q g3 g4)
      subst ej
      have ep : p = p' := by
        rcases Int.lt_trichotomy p p' with q | q | q
        · exact absurd h6 (g7 p h3 q)
        · exact q
        · exact absurd g6 (h7 p' g3 q)
      rw [ep]
noncomputable def testF (Y : Nat → Int → Int) : Int := Classical.epsilon (TestR Y)
theorem TestR.eq {Y : Nat → Int → Int} {t : Int} (h : TestR Y t) : t = testF Y := h.one (Classical.epsilon_spec (p := TestR Y) ⟨t, h⟩)
def boundF (Y : Nat → Int → Int) : Prop := 0 < Y 10 0 ∧ Y 12 0 = Y 10 0 ∧ testF Y < 0
/-- no pair ahead of place k meets -/
def NoM (Y : Nat → Int → Int) (o k : Int) : Prop := ∀ p q, 0 ≤ p → p < Y 10 0 → 0 ≤ q → q < Y 10 0 → p * Y 10 0 + q < k → ¬ meetF Y p q o
theorem div_facts {n k : Int} (hn : 0 ≤ n) (h0 : 0 ≤ k) (h1 : k < n * n) : 0 ≤ k / n ∧ k / n < n ∧ 0 ≤ k % n ∧ k % n < n ∧ k / n * n + k % n = k := by
  have hp : 0 < n := by
    rcases Int.lt_or_eq_of_le hn with h | h
    · exact h
    · rw [← h] at h1; omega
  refine ⟨Int.ediv_nonneg h0 hn, Int.ediv_lt_of_lt_mul hp h1, Int.emod_nonneg k (by omega), Int.emod_lt_of_pos k hp, Int.ediv_mul_add_emod k n⟩
theorem pair_one {n p q p' q' : Int} (h0 : 0 ≤ q) (h1 : q < n) (h2 : 0 ≤ q') (h3 : q' < n) (h : p * n + q = p' * n + q') : p = p' ∧ q = q' := by
  have hn : n ≠ 0 := by omega
  have a1 : (q + p * n) / n = p := by rw [Int.add_mul_ediv_right _ _ hn, Int.ediv_eq_zero_of_lt h0 h1]; omega
  have a2 : (q' + p' * n) / n = p' := by rw [Int.add_mul_ediv_right _ _ hn, Int.ediv_eq_zero_of_lt h2 h3]; omega
  have e : p = p' := by rw [← a1, ← a2]; congr 1; omega
  subst e
  exact ⟨rfl, by omega⟩
theorem NoM_0 {Y : Nat → Int → Int} {o : Int} : NoM Y o 0 := by
  intro p q h0 h1 h2 h3 h4
  have := Int.mul_nonneg h0 (show 0 ≤ Y 10 0 by omega)
  omega
theorem NoM_s {Y : Nat → Int → Int} {o k : Int} (h : NoM Y o k) (h0 : 0 ≤ k) (h1 : k < Y 10 0 * Y 10 0) (hn : 0 ≤ Y 10 0) (hm : ¬ meetF Y (k / Y 10 0) (k % Y 10 0) o) : NoM Y o (k + 1) := by
  intro p q g0 g1 g2 g3 g4
  by_cases e : p * Y 10 0 + q < k
  · exact h p q g0 g1 g2 g3 e
  · obtain ⟨d1, d2, d3, d4, d5⟩ := div_facts hn h0 h1
    obtain ⟨rfl, rfl⟩ := pair_one g2 g3 d3 d4 (show p * Y 10 0 + q = k / Y 10 0 * Y 10 0 + k % Y 10 0 by omega)
    exact hm
theorem NoM_end {Y : Nat → Int → Int} {o k : Int} (h : NoM Y o k) (hk : Y 10 0 * Y 10 0 ≤ k) : ∀ p, 0 ≤ p → p < Y 10 0 → ¬ Tm Y p o := by
  rintro p h0 h1 ⟨q, g0, g1, hm⟩
  refine h p q h0 h1 g0 g1 ?_ hm
  have h2 : (p + 1) * Y 10 0 ≤ Y 10 0 * Y 10 0 := Int.mul_le_mul_of_nonneg_right (by omega) (by omega)
  rw [Int.add_mul] at h2
  omega
theorem NoM_p {Y : Nat → Int → Int} {o k : Int} (h : NoM Y o k) (hn : 0 ≤ Y 10 0) (h0 : 0 ≤ k) (h1 : k < Y 10 0 * Y 10 0) : ∀ p, 0 ≤ p → p < k / Y 10 0 → ¬ Tm Y p o := by
  obtain ⟨d1, d2, d3, d4, d5⟩ := div_facts hn h0 h1
  rintro p g0 g1 ⟨q, f0, f1, hm⟩
  refine h p q g0 (by omega) f0 f1 ?_ hm
  have h2 : (p + 1) * Y 10 0 ≤ k / Y 10 0 * Y 10 0 := Int.mul_le_mul_of_nonneg_right (by omega) hn
  rw [Int.add_mul] at h2
  omega

set_option maxHeartbeats 4000000 in
set_option maxRecDepth 100000 in
/-- rises(p, open) -/
theorem c_X5_rises {C : WC} {l : Launch} (hfl : l.stackTraces = false) {ad : Nat → Nat} {Y V : Nat → Int → Int} {W : Int → Int} {th : Int} {R : va_W} {p o : Int} (hI : MI Y) (p0 : 0 ≤ p) (p1 : p < Y 10 0) (o0 : 0 ≤ o) (o1 : o ≤ 180) : MM C l yX5_rises cX5_rises 4 (some .int) 2 0 0 [.ref (ad 0), vi p, vi o] (wM C ad Y V W th ++ R) (rq (vi (riseF Y p o)) (fun W => wM C ad Y V W th ++ R)) := by
  refine mm_of (by decide +kernel) (Nat.le_of_ble_eq_true rfl) hfl (fun K Q X r => ?_)
  have X : Cx C l "SpringleafModel" cX5_rises 4 2 0 0 K := X
  have I3 := hI.1
  have I10 := hI.2.2.1
  have I12 := hI.2.2.2.2.1
  have hp := hI.2.2.2.1 p p0 p1
  show G C K Q 0 0 0 [(0, .ref (ad 0)), (1, vi p), (2, vi o)] [] (wM C ad Y V W th ++ R)
  refine g_aload_n (t := 1) X dX5_rises_0 0 rfl rfl ?_
  refine g_aload_n (t := 2) X dX5_rises_1 0 rfl rfl ?_
  refine m_getf (t := 5) X 4 (by decide) q4_213 rfl rfl dX5_rises_2 rfl ?_
  refine g_iload_n (t := 6) X dX5_rises_5 1 rfl rfl ?_
  refine g_iald (t := 7) (f := Y 4) X 4 wM_pf (by omega) (by omega) (by omega) dX5_rises_6 rfl ?_
  refine g_iload_n (t := 8) X dX5_rises_7 2 rfl rfl ?_
  refine g_callV (t := 11) (mc := 0) (ms := 0) (rest := []) X mt_X5_angleOf q5_78 q5_80 qs_26 0 wM_0 rfl (c_X5_angleOf hfl hI (by omega) (by omega) (by omega) (by omega)) (by decide) (by decide) (by decide) (Nat.le_of_ble_eq_true rfl) rfl rfl dX5_rises_8 rfl (k_rw (fun W8 => ?_))
  refine g_istore_n (t := 12) (lv1 := [(3, vi (angF Y ((Y 4) p) o)), (0, .ref (ad 0)), (1, vi p), (2, vi o)]) X dX5_rises_11 (by decide) rfl rfl ?_
  have hr := angF_rng Y o0 o1 (Y 4 p)
  have hm := rise_mul hI p0 p1 o0 o1
  refine g_aload_n (t := 13) X dX5_rises_12 1 rfl rfl ?_
  refine m_getf (t := 16) X 6 (by decide) q4_215 rfl rfl dX5_rises_13 rfl ?_
  refine g_iload_n (t := 17) X dX5_rises_16 2 rfl rfl ?_
  refine g_iald (t := 18) (f := Y 6) X 6 wM_pl (by omega) (by omega) (by omega) dX5_rises_17 rfl ?_
  refine g_iload_n (t := 19) X dX5_rises_18 0 rfl rfl ?_
  refine g_sipush (t := 22) (z := 180) X dX5_rises_19 (by decide +kernel) rfl ?_
  refine g_iload_n (t := 23) X dX5_rises_22 0 rfl rfl ?_
  refine g_isub (t := 24) X dX5_rises_23 rfl ?_
  refine g_icmp_ge (t := 31) (u := 27) X dX5_rises_24 (by decide) rfl ⟨by omega, by omega⟩ ⟨by omega, by omega⟩ (fun c_24 => ?_) (fun c_24 => ?_)
  · refine g_sipush (t := 34) (z := 180) X dX5_rises_31 (by decide +kernel) rfl ?_
    refine g_iload_n (t := 35) X dX5_rises_34 0 rfl rfl ?_
    refine g_isub (t := 36) X dX5_rises_35 rfl ?_
    have em : mn (angF Y (Y 4 p) o) (180 - angF Y (Y 4 p) o) = (180 - (angF Y ((Y 4) p) o)) := by unfold mn; split <;> omega
    rw [em] at hm
    refine g_imul (t := 37) X dX5_rises_36 rfl ?_
    refine g_bipush (t := 39) (z := 90) X dX5_rises_37 (by decide +kernel) rfl ?_
    refine g_idiv (t := 40) X dX5_rises_39 ⟨by omega, by omega⟩ ⟨by omega, by omega⟩ (by omega) ⟨by rw [Int.tdiv_eq_ediv_of_nonneg hm.1]; omega, by rw [Int.tdiv_eq_ediv_of_nonneg hm.1]; omega⟩ rfl ?_
    exact g_iret X r (rq_i _ (by rw [Int.tdiv_eq_ediv_of_nonneg hm.1]; unfold riseF; rw [em]) rfl) (Nat.le_of_ble_eq_true rfl) (Nat.le_of_ble_eq_true rfl) dX5_rises_40
  · refine g_iload_n (t := 28) X dX5_rises_27 0 rfl rfl ?_
    refine g_goto (t := 36) X dX5_rises_28 (by decide) ?_
    have em : mn (angF Y (Y 4 p) o) (180 - angF Y (Y 4 p) o) = (angF Y ((Y 4) p) o) := by unfold mn; split <;> omega
    rw [em] at hm
    refine g_imul (t := 37) X dX5_rises_36 rfl ?_
    refine g_bipush (t := 39) (z := 90) X dX5_rises_37 (by decide +kernel) rfl ?_
    refine g_idiv (t := 40) X dX5_rises_39 ⟨by omega, by omega⟩ ⟨by omega, by omega⟩ (by omega) ⟨by rw [Int.tdiv_eq_ediv_of_nonneg hm.1]; omega, by rw [Int.tdiv_eq_ediv_of_nonneg hm.1]; omega⟩ rfl ?_
    exact g_iret X r (rq_i _ (by rw [Int.tdiv_eq_ediv_of_nonneg hm.1]; unfold riseF; rw [em]) rfl) (Nat.le_of_ble_eq_true rfl) (Nat.le_of_ble_eq_true rfl) dX5_rises_40

set_option maxHeartbeats 4000000 in
set_option maxRecDepth 100000 in
/-- reach(p, open) -/
theorem c_X5_reach {C : WC} {l : Launch} (hfl : l.stackTraces = false) {ad : Nat → Nat} {Y V : Nat → Int → Int} {W : Int → Int} {th : Int} {R : va_W} {p o : Int} (hI : MI Y) (p0 : 0 ≤ p) (p1 : p < Y 10 0) (o0 : 0 ≤ o) (o1 : o ≤ 180) : MM C l yX5_reach cX5_reach 3 (some .int) 2 0 0 [.ref (ad 0), vi p, vi o] (wM C ad Y V W th ++ R) (rq (vi (reachF Y p o)) (fun W => wM C ad Y V W th ++ R)) := by
  refine mm_of (by decide +kernel) (Nat.le_of_ble_eq_true rfl) hfl (fun K Q X r => ?_)
  have X : Cx C l "SpringleafModel" cX5_reach 3 2 0 0 K := X
  have I3 := hI.1
  have I10 := hI.2.2.1
  have I12 := hI.2.2.2.2.1
  have hp := hI.2.2.2.1 p p0 p1
  show G C K Q 0 0 0 [(0, .ref (ad 0)), (1, vi p), (2, vi o)] [] (wM C ad Y V W th ++ R)
  refine g_aload_n (t := 1) X dX5_reach_0 0 rfl rfl ?_
  refine m_getf (t := 4) X 5 (by decide) q4_214 rfl rfl dX5_reach_1 rfl ?_
  refine g_iload_n (t := 5) X dX5_reach_4 1 rfl rfl ?_
  refine g_iald (t := 6) (f := Y 5) X 5 wM_pp (by omega) (by omega) (by omega) dX5_reach_5 rfl ?_
  refine g_aload_n (t := 7) X dX5_reach_6 0 rfl rfl ?_
  refine m_getf (t := 10) X 6 (by decide) q4_215 rfl rfl dX5_reach_7 rfl ?_
  refine g_iload_n (t := 11) X dX5_reach_10 1 rfl rfl ?_
  refine g_iald (t := 12) (f := Y 6) X 6 wM_pl (by omega) (by omega) (by omega) dX5_reach_11 rfl ?_
  refine g_bipush (t := 14) (z := 90) X dX5_reach_12 (by decide +kernel) rfl ?_
  refine g_aload_n (t := 15) X dX5_reach_14 0 rfl rfl ?_
  refine g_aload_n (t := 16) X dX5_reach_15 0 rfl rfl ?_
  refine m_getf (t := 19) X 4 (by decide) q4_213 rfl rfl dX5_reach_16 rfl ?_
  refine g_iload_n (t := 20) X dX5_reach_19 1 rfl rfl ?_
  refine g_iald (t := 21) (f := Y 4) X 4 wM_pf (by omega) (by omega) (by omega) dX5_reach_20 rfl ?_
  refine g_iload_n (t := 22) X dX5_reach_21 2 rfl rfl ?_
  refine g_callV (t := 25) (mc := 0) (ms := 0) (rest := [vi 90, vi ((Y 6) p), vi ((Y 5) p)]) X mt_X5_angleOf q5_78 q5_80 qs_26 0 wM_0 rfl (c_X5_angleOf hfl hI (by omega) (by omega) (by omega) (by omega)) (by decide) (by decide) (by decide) (Nat.le_of_ble_eq_true rfl) rfl rfl dX5_reach_22 rfl (k_rw (fun W22 => ?_))
  have hr := angF_rng Y o0 o1 (Y 4 p)
  have hm := reach_mul hI p0 p1 o0 o1
  have ht := tdiv_90 hm.1 hm.2
  refine g_isub (t := 26) X dX5_reach_25 rfl ?_
  refine g_imul (t := 27) X dX5_reach_26 rfl ?_
  refine g_bipush (t := 29) (z := 90) X dX5_reach_27 (by decide +kernel) rfl ?_
  refine g_idiv (t := 30) X dX5_reach_29 ⟨by omega, by omega⟩ ⟨by omega, by omega⟩ (by omega) ⟨by omega, by omega⟩ rfl ?_
  refine g_iadd (t := 31) X dX5_reach_30 rfl ?_
  exact g_iret X r (rq_i _ rfl rfl) (Nat.le_of_ble_eq_true rfl) (Nat.le_of_ble_eq_true rfl) dX5_reach_31

set_option maxHeartbeats 4000000 in
set_option maxRecDepth 100000 in
/-- low(p, open) -/
theorem c_X5_low {C : WC} {l : Launch} (hfl : l.stackTraces = false) {ad : Nat → Nat} {Y V : Nat → Int → Int} {W : Int → Int} {th : Int} {R : va_W} {p o : Int} (hI : MI Y) (p0 : 0 ≤ p) (p1 : p < Y 10 0) (o0 : 0 ≤ o) (o1 : o ≤ 180) : MM C l yX5_low cX5_low 4 (some .int) 3 0 0 [.ref (ad 0), vi p, vi o] (wM C ad Y V W th ++ R) (rq (vi (lowF Y p o)) (fun W => wM C ad Y V W th ++ R)) := by
  refine mm_of (by decide +kernel) (Nat.le_of_ble_eq_true rfl) hfl (fun K Q X r => ?_)
  have X : Cx C l "SpringleafModel" cX5_low 4 3 0 0 K := X
  have I3 := hI.1
  have I10 := hI.2.2.1
  have I12 := hI.2.2.2.2.1
  have hp := hI.2.2.2.1 p p0 p1
  show G C K Q 0 0 0 [(0, .ref (ad 0)), (1, vi p), (2, vi o)] [] (wM C ad Y V W th ++ R)
  refine g_aload_n (t := 1) X dX5_low_0 0 rfl rfl ?_
  refine g_iload_n (t := 2) X dX5_low_1 1 rfl rfl ?_
  refine g_iload_n (t := 3) X dX5_low_2 2 rfl rfl ?_
  refine g_callV (t := 6) (mc := 0) (ms := 0) (rest := []) X mt_X5_reach q5_94 q5_96 qs_30 0 wM_0 rfl (c_X5_reach hfl hI (by omega) (by omega) (by omega) (by omega)) (by decide) (by decide) (by decide) (Nat.le_of_ble_eq_true rfl) rfl rfl dX5_low_3 rfl (k_rw (fun W3 => ?_))
  have hr := reach_rng hI p0 p1 o0 o1
  refine g_istore_n (t := 7) (lv1 := [(3, vi (reachF Y p o)), (0, .ref (ad 0)), (1, vi p), (2, vi o)]) X dX5_low_6 (by decide) rfl rfl ?_
  refine g_iload_n (t := 8) X dX5_low_7 0 rfl rfl ?_
  refine g_aload_n (t := 9) X dX5_low_8 1 rfl rfl ?_
  refine m_getf (t := 12) X 5 (by decide) q4_214 rfl rfl dX5_low_9 rfl ?_
  refine g_iload_n (t := 13) X dX5_low_12 2 rfl rfl ?_
  refine g_iald (t := 14) (f := Y 5) X 5 wM_pp (by omega) (by omega) (by omega) dX5_low_13 rfl ?_
  refine g_icmp_ge (t := 21) (u := 17) X dX5_low_14 (by decide) rfl ⟨by omega, by omega⟩ ⟨by omega, by omega⟩ (fun c_14 => ?_) (fun c_14 => ?_)
  · refine g_aload_n (t := 22) X dX5_low_21 1 rfl rfl ?_
    refine m_getf (t := 25) X 5 (by decide) q4_214 rfl rfl dX5_low_22 rfl ?_
    refine g_iload_n (t := 26) X dX5_low_25 2 rfl rfl ?_
    refine g_iald (t := 27) (f := Y 5) X 5 wM_pp (by omega) (by omega) (by omega) dX5_low_26 rfl ?_
    exact g_iret X r (rq_i _ (by unfold lowF; split <;> omega) rfl) (Nat.le_of_ble_eq_true rfl) (Nat.le_of_ble_eq_true rfl) dX5_low_27
  · refine g_iload_n (t := 18) X dX5_low_17 0 rfl rfl ?_
    refine g_goto (t := 27) X dX5_low_18 (by decide) ?_
    exact g_iret X r (rq_i _ (by unfold lowF; split <;> omega) rfl) (Nat.le_of_ble_eq_true rfl) (Nat.le_of_ble_eq_true rfl) dX5_low_27

set_option maxHeartbeats 4000000 in
set_option maxRecDepth 100000 in
/-- high(p, open) -/
theorem c_X5_high {C : WC} {l : Launch} (hfl : l.stackTraces = false) {ad : Nat → Nat} {Y V : Nat → Int → Int} {W : Int → Int} {th : Int} {R : va_W} {p o : Int} (hI : MI Y) (p0 : 0 ≤ p) (p1 : p < Y 10 0) (o0 : 0 ≤ o) (o1 : o ≤ 180) : MM C l yX5_high cX5_high 4 (some .int) 3 0 0 [.ref (ad 0), vi p, vi o] (wM C ad Y V W th ++ R) (rq (vi (highF Y p o)) (fun W => wM C ad Y V W th ++ R)) := by
  refine mm_of (by decide +kernel) (Nat.le_of_ble_eq_true rfl) hfl (fun K Q X r => ?_)
  have X : Cx C l "SpringleafModel" cX5_high 4 3 0 0 K := X
  have I3 := hI.1
  have I10 := hI.2.2.1
  have I12 := hI.2.2.2.2.1
  have hp := hI.2.2.2.1 p p0 p1
  show G C K Q 0 0 0 [(0, .ref (ad 0)), (1, vi p), (2, vi o)] [] (wM C ad Y V W th ++ R)
  refine g_aload_n (t := 1) X dX5_high_0 0 rfl rfl ?_
  refine g_iload_n (t := 2) X dX5_high_1 1 rfl rfl ?_
  refine g_iload_n (t := 3) X dX5_high_2 2 rfl rfl ?_
  refine g_callV (t := 6) (mc := 0) (ms := 0) (rest := []) X mt_X5_reach q5_94 q5_96 qs_30 0 wM_0 rfl (c_X5_reach hfl hI (by omega) (by omega) (by omega) (by omega)) (by decide) (by decide) (by decide) (Nat.le_of_ble_eq_true rfl) rfl rfl dX5_high_3 rfl (k_rw (fun W3 => ?_))
  have hr := reach_rng hI p0 p1 o0 o1
  refine g_istore_n (t := 7) (lv1 := [(3, vi (reachF Y p o)), (0, .ref (ad 0)), (1, vi p), (2, vi o)]) X dX5_high_6 (by decide) rfl rfl ?_
  refine g_iload_n (t := 8) X dX5_high_7 0 rfl rfl ?_
  refine g_aload_n (t := 9) X dX5_high_8 1 rfl rfl ?_
  refine m_getf (t := 12) X 5 (by decide) q4_214 rfl rfl dX5_high_9 rfl ?_
  refine g_iload_n (t := 13) X dX5_high_12 2 rfl rfl ?_
  refine g_iald (t := 14) (f := Y 5) X 5 wM_pp (by omega) (by omega) (by omega) dX5_high_13 rfl ?_
  refine g_icmp_le (t := 21) (u := 17) X dX5_high_14 (by decide) rfl ⟨by omega, by omega⟩ ⟨by omega, by omega⟩ (fun c_14 => ?_) (fun c_14 => ?_)
  · refine g_aload_n (t := 22) X dX5_high_21 1 rfl rfl ?_
    refine m_getf (t := 25) X 5 (by decide) q4_214 rfl rfl dX5_high_22 rfl ?_
    refine g_iload_n (t := 26) X dX5_high_25 2 rfl rfl ?_
    refine g_iald (t := 27) (f := Y 5) X 5 wM_pp (by omega) (by omega) (by omega) dX5_high_26 rfl ?_
    exact g_iret X r (rq_i _ (by unfold highF; split <;> omega) rfl) (Nat.le_of_ble_eq_true rfl) (Nat.le_of_ble_eq_true rfl) dX5_high_27
  · refine g_iload_n (t := 18) X dX5_high_17 0 rfl rfl ?_
    refine g_goto (t := 27) X dX5_high_18 (by decide) ?_
    exact g_iret X r (rq_i _ (by unfold highF; split <;> omega) rfl) (Nat.le_of_ble_eq_true rfl) (Nat.le_of_ble_eq_true rfl) dX5_high_27

set_option maxHeartbeats 4000000 in
set_option maxRecDepth 100000 in
/-- meets(p, q, open) -/
theorem c_X5_meets {C : WC} {l : Launch} (hfl : l.stackTraces = false) {ad : Nat → Nat} {Y V : Nat → Int → Int} {W : Int → Int} {th : Int} {R : va_W} {p q o : Int} (hI : MI Y) (p0 : 0 ≤ p) (p1 : p < Y 10 0) (q0 : 0 ≤ q) (q1 : q < Y 10 0) (o0 : 0 ≤ o) (o1 : o ≤ 180) : MM C l yX5_meets cX5_meets 6 (some .boolean) 4 0 0 [.ref (ad 0), vi p, vi q, vi o] (wM C ad Y V W th ++ R) (rbq (meetF Y p q o) (fun W => wM C ad Y V W th ++ R)) := by
  refine mm_of (by decide +kernel) (Nat.le_of_ble_eq_true rfl) hfl (fun K Q X r => ?_)
  have X : Cx C l "SpringleafModel" cX5_meets 6 4 0 0 K := X
  have I3 := hI.1
  have I10 := hI.2.2.1
  have I12 := hI.2.2.2.2.1
  show G C K Q 0 0 0 [(0, .ref (ad 0)), (1, vi p), (2, vi q), (3, vi o)] [] (wM C ad Y V W th ++ R)
  refine g_aload_n (t := 1) X dX5_meets_0 0 rfl rfl ?_
  refine g_iload_n (t := 2) X dX5_meets_1 1 rfl rfl ?_
  refine g_iload_n (t := 3) X dX5_meets_2 3 rfl rfl ?_
  refine g_callV (t := 6) (mc := 0) (ms := 0) (rest := []) X mt_X5_rises q5_74 q5_76 qs_25 0 wM_0 rfl (c_X5_rises hfl hI (by omega) (by omega) (by omega) (by omega)) (by decide) (by decide) (by decide) (Nat.le_of_ble_eq_true rfl) rfl rfl dX5_meets_3 rfl (k_rw (fun W3 => ?_))
  refine g_istore (t := 8) (lv1 := [(4, vi (riseF Y p o)), (0, .ref (ad 0)), (1, vi p), (2, vi q), (3, vi o)]) X dX5_meets_6 (by decide) rfl rfl ?_
  refine g_aload_n (t := 9) X dX5_meets_8 1 rfl rfl ?_
  refine g_iload_n (t := 10) X dX5_meets_9 3 rfl rfl ?_
  refine g_iload_n (t := 11) X dX5_meets_10 4 rfl rfl ?_
  refine g_callV (t := 14) (mc := 0) (ms := 0) (rest := []) X mt_X5_rises q5_74 q5_76 qs_25 0 wM_0 rfl (c_X5_rises hfl hI (by omega) (by omega) (by omega) (by omega)) (by decide) (by decide) (by decide) (Nat.le_of_ble_eq_true rfl) rfl rfl dX5_meets_11 rfl (k_rw (fun W11 => ?_))
  refine g_istore (t := 16) (lv1 := [(5, vi (riseF Y q o)), (4, vi (riseF Y p o)), (0, .ref (ad 0)), (1, vi p), (2, vi q), (3, vi o)]) X dX5_meets_14 (by decide) rfl rfl ?_
  have hrp := rise_rng hI p0 p1 o0 o1
  have hrq := rise_rng hI q0 q1 o0 o1
  have hlp := low_rng hI p0 p1 o0 o1
  have hlq := low_rng hI q0 q1 o0 o1
  have hhp := high_rng hI p0 p1 o0 o1
  have hhq := high_rng hI q0 q1 o0 o1
  refine g_iload_n (t := 17) X dX5_meets_16 3 rfl rfl ?_
  refine g_iload_n (t := 18) X dX5_meets_17 4 rfl rfl ?_
  refine g_icmp_eq (t := 92) (u := 21) X dX5_meets_18 (by decide) rfl ⟨by omega, by omega⟩ ⟨by omega, by omega⟩ (fun c_18 => ?_) (fun c_18 => ?_)
  · refine g_iconst (t := 93) X dX5_meets_92 rfl ?_
    exact g_zret X r rfl (rbq_f _ (by unfold meetF; rintro ⟨m1, m2, m3, m4, m5, m6, m7, m8⟩; first | exact absurd m2 (by assumption) | omega) rfl) (Nat.le_of_ble_eq_true rfl) (Nat.le_of_ble_eq_true rfl) dX5_meets_93
  · refine g_aload_n (t := 22) X dX5_meets_21 2 rfl rfl ?_
    refine g_iload_n (t := 23) X dX5_meets_22 3 rfl rfl ?_
    refine g_iload_n (t := 24) X dX5_meets_23 4 rfl rfl ?_
    refine g_callV (t := 27) (mc := 0) (ms := 0) (rest := []) X mt_X5_share q5_86 q5_88 qs_28 0 wM_0 rfl (c_X5_share hfl hI (by omega) (by omega) (by omega) (by omega)) (by decide) (by decide) (by decide) (Nat.le_of_ble_eq_true rfl) rfl rfl dX5_meets_24 rfl (k_rb (fun b_24 => ?_) (fun b_24 => ?_))
    · refine g_if_eq (t := 92) (u := 30) X dX5_meets_27 (by decide) rfl ⟨by omega, by omega⟩ (fun c => absurd c (by decide)) (fun _ => ?_)
      refine g_iload (t := 32) X dX5_meets_30 1 rfl rfl ?_
      refine g_if_le (t := 92) (u := 35) X dX5_meets_32 (by decide) rfl ⟨by omega, by omega⟩ (fun c_32 => ?_) (fun c_32 => ?_)
      · refine g_iconst (t := 93) X dX5_meets_92 rfl ?_
        exact g_zret X r rfl (rbq_f _ (by unfold meetF; rintro ⟨m1, m2, m3, m4, m5, m6, m7, m8⟩; first | exact absurd m2 (by assumption) | omega) rfl) (Nat.le_of_ble_eq_true rfl) (Nat.le_of_ble_eq_true rfl) dX5_meets_93
      · refine g_iload (t := 37) X dX5_meets_35 0 rfl rfl ?_
        refine g_if_le (t := 92) (u := 40) X dX5_meets_37 (by decide) rfl ⟨by omega, by omega⟩ (fun c_37 => ?_) (fun c_37 => ?_)
        · refine g_iconst (t := 93) X dX5_meets_92 rfl ?_
          exact g_zret X r rfl (rbq_f _ (by unfold meetF; rintro ⟨m1, m2, m3, m4, m5, m6, m7, m8⟩; first | exact absurd m2 (by assumption) | omega) rfl) (Nat.le_of_ble_eq_true rfl) (Nat.le_of_ble_eq_true rfl) dX5_meets_93
        · refine g_iload (t := 42) X dX5_meets_40 1 rfl rfl ?_
          refine g_iload (t := 44) X dX5_meets_42 0 rfl rfl ?_
          refine g_isub (t := 45) X dX5_meets_44 rfl ?_
          refine g_iconst (t := 46) X dX5_meets_45 rfl ?_
          refine g_icmp_ge (t := 92) (u := 49) X dX5_meets_46 (by decide) rfl ⟨by omega, by omega⟩ ⟨by omega, by omega⟩ (fun c_46 => ?_) (fun c_46 => ?_)
          · refine g_iconst (t := 93) X dX5_meets_92 rfl ?_
            exact g_zret X r rfl (rbq_f _ (by unfold meetF; rintro ⟨m1, m2, m3, m4, m5, m6, m7, m8⟩; first | exact absurd m2 (by assumption) | omega) rfl) (Nat.le_of_ble_eq_true rfl) (Nat.le_of_ble_eq_true rfl) dX5_meets_93
          · refine g_iload (t := 51) X dX5_meets_49 0 rfl rfl ?_
            refine g_iload (t := 53) X dX5_meets_51 1 rfl rfl ?_
            refine g_isub (t := 54) X dX5_meets_53 rfl ?_
            refine g_iconst (t := 55) X dX5_meets_54 rfl ?_
            refine g_icmp_ge (t := 92) (u := 58) X dX5_meets_55 (by decide) rfl ⟨by omega, by omega⟩ ⟨by omega, by omega⟩ (fun c_55 => ?_) (fun c_55 => ?_)
            · refine g_iconst (t := 93) X dX5_meets_92 rfl ?_
              exact g_zret X r rfl (rbq_f _ (by unfold meetF; rintro ⟨m1, m2, m3, m4, m5, m6, m7, m8⟩; first | exact absurd m2 (by assumption) | omega) rfl) (Nat.le_of_ble_eq_true rfl) (Nat.le_of_ble_eq_true rfl) dX5_meets_93
            · refine g_aload_n (t := 59) X dX5_meets_58 2 rfl rfl ?_
              refine g_iload_n (t := 60) X dX5_meets_59 3 rfl rfl ?_
              refine g_iload_n (t := 61) X dX5_meets_60 5 rfl rfl ?_
              refine g_callV (t := 64) (mc := 0) (ms := 0) (rest := []) X mt_X5_low q5_90 q5_92 qs_29 0 wM_0 rfl (c_X5_low hfl hI (by omega) (by omega) (by omega) (by omega)) (by decide) (by decide) (by decide) (Nat.le_of_ble_eq_true rfl) rfl rfl dX5_meets_61 rfl (k_rw (fun W61 => ?_))
              refine g_aload_n (t := 65) X dX5_meets_64 2 rfl rfl ?_
              refine g_iload_n (t := 66) X dX5_meets_65 4 rfl rfl ?_
              refine g_iload_n (t := 67) X dX5_meets_66 5 rfl rfl ?_
              refine g_callV (t := 70) (mc := 0) (ms := 0) (rest := [vi (lowF Y p o)]) X mt_X5_high q5_98 q5_100 qs_31 0 wM_0 rfl (c_X5_high hfl hI (by omega) (by omega) (by omega) (by omega)) (by decide) (by decide) (by decide) (Nat.le_of_ble_eq_true rfl) rfl rfl dX5_meets_67 rfl (k_rw (fun W67 => ?_))
              refine g_icmp_gt (t := 92) (u := 73) X dX5_meets_70 (by decide) rfl ⟨by omega, by omega⟩ ⟨by omega, by omega⟩ (fun c_70 => ?_) (fun c_70 => ?_)
              · refine g_iconst (t := 93) X dX5_meets_92 rfl ?_
                exact g_zret X r rfl (rbq_f _ (by unfold meetF; rintro ⟨m1, m2, m3, m4, m5, m6, m7, m8⟩; first | exact absurd m2 (by assumption) | omega) rfl) (Nat.le_of_ble_eq_true rfl) (Nat.le_of_ble_eq_true rfl) dX5_meets_93
              · refine g_aload_n (t := 74) X dX5_meets_73 2 rfl rfl ?_
                refine g_iload_n (t := 75) X dX5_meets_74 4 rfl rfl ?_
                refine g_iload_n (t := 76) X dX5_meets_75 5 rfl rfl ?_
                refine g_callV (t := 79) (mc := 0) (ms := 0) (rest := []) X mt_X5_low q5_90 q5_92 qs_29 0 wM_0 rfl (c_X5_low hfl hI (by omega) (by omega) (by omega) (by omega)) (by decide) (by decide) (by decide) (Nat.le_of_ble_eq_true rfl) rfl rfl dX5_meets_76 rfl (k_rw (fun W76 => ?_))
                refine g_aload_n (t := 80) X dX5_meets_79 2 rfl rfl ?_
                refine g_iload_n (t := 81) X dX5_meets_80 3 rfl rfl ?_
                refine g_iload_n (t := 82) X dX5_meets_81 5 rfl rfl ?_
                refine g_callV (t := 85) (mc := 0) (ms := 0) (rest := [vi (lowF Y q o)]) X mt_X5_high q5_98 q5_100 qs_31 0 wM_0 rfl (c_X5_high hfl hI (by omega) (by omega) (by omega) (by omega)) (by decide) (by decide) (by decide) (Nat.le_of_ble_eq_true rfl) rfl rfl dX5_meets_82 rfl (k_rw (fun W82 => ?_))
                refine g_icmp_gt (t := 92) (u := 88) X dX5_meets_85 (by decide) rfl ⟨by omega, by omega⟩ ⟨by omega, by omega⟩ (fun c_85 => ?_) (fun c_85 => ?_)
                · refine g_iconst (t := 93) X dX5_meets_92 rfl ?_
                  exact g_zret X r rfl (rbq_f _ (by unfold meetF; rintro ⟨m1, m2, m3, m4, m5, m6, m7, m8⟩; first | exact absurd m2 (by assumption) | omega) rfl) (Nat.le_of_ble_eq_true rfl) (Nat.le_of_ble_eq_true rfl) dX5_meets_93
                · refine g_iconst (t := 89) X dX5_meets_88 rfl ?_
                  refine g_goto (t := 93) X dX5_meets_89 (by decide) ?_
                  exact g_zret X r rfl (rbq_t _ (by unfold meetF; exact ⟨c_18, b_24, by omega, by omega, by omega, by omega, by omega, by omega⟩) rfl) (Nat.le_of_ble_eq_true rfl) (Nat.le_of_ble_eq_true rfl) dX5_meets_93
    · refine g_if_eq (t := 92) (u := 30) X dX5_meets_27 (by decide) rfl ⟨by omega, by omega⟩ (fun _ => ?_) (fun c => absurd c (by decide))
      refine g_iconst (t := 93) X dX5_meets_92 rfl ?_
      exact g_zret X r rfl (rbq_f _ (by unfold meetF; rintro ⟨m1, m2, m3, m4, m5, m6, m7, m8⟩; first | exact absurd m2 (by assumption) | omega) rfl) (Nat.le_of_ble_eq_true rfl) (Nat.le_of_ble_eq_true rfl) dX5_meets_93

set_option maxHeartbeats 4000000 in
set_option maxRecDepth 100000 in
/-- tests() -/
theorem c_X5_tests {C : WC} {l : Launch} (hfl : l.stackTraces = false) {ad : Nat → Nat} {Y V : Nat → Int → Int} {W : Int → Int} {th : Int} {R : va_W} (hI : MI Y) : MM C l yX5_tests cX5_tests 3 (some .int) 5 0 0 [.ref (ad 0)] (wM C ad Y V W th ++ R) (rq (vi (testF Y)) (fun W => wM C ad Y V W th ++ R)) := by
  refine mm_of (by decide +kernel) (Nat.le_of_ble_eq_true rfl) hfl (fun K Q X r => ?_)
  have X : Cx C l "SpringleafModel" cX5_tests 3 5 0 0 K := X
  have I3 := hI.1
  have I10 := hI.2.2.1
  have I12 := hI.2.2.2.2.1
  have hsq := mul_rng (a := Y 10 0) (b := Y 10 0) (A := 16) (B := 16) (by omega) (by omega) (by omega) (by omega)
  have inner : ∀ (j o : Int), o = 15 * j → 0 ≤ j → j ≤ 12 → (∀ j' p', 0 ≤ j' → j' < j → 0 ≤ p' → p' < Y 10 0 → ¬ Tm Y p' (15 * j')) → (∀ (k : Int) (W : Int → Int), (∀ p, 0 ≤ p → p < Y 10 0 → ¬ Tm Y p o) → G C K Q 0 0 63 [(0, .ref (ad 0)), (1, vi o)] [] (wM C ad Y V W th ++ R)) → ∀ (n : Nat) (k : Int) (W : Int → Int), 0 ≤ k → k ≤ Y 10 0 * Y 10 0 → Y 10 0 * Y 10 0 - k < n → NoM Y o k → G C K Q 0 0 11 [(0, .ref (ad 0)), (1, vi o), (2, vi k)] [] (wM C ad Y V W th ++ R) := by
    intro j o eo j0 j1 hpre hend n
    induction n with
    | zero => intro k W h0 h1 h2; exact absurd h2 (by omega)
    | succ n ih =>
      intro k W k0 k1 h2 hn
      refine g_iload_n (t := 12) X dX5_tests_11 2 rfl rfl ?_
      refine g_aload_n (t := 13) X dX5_tests_12 0 rfl rfl ?_
      refine m_getf (t := 16) X 10 (by decide) q4_219 rfl rfl dX5_tests_13 rfl ?_
      refine g_aload_n (t := 17) X dX5_tests_16 0 rfl rfl ?_
      refine m_getf (t := 20) X 10 (by decide) q4_219 rfl rfl dX5_tests_17 rfl ?_
      refine g_imul (t := 21) X dX5_tests_20 rfl ?_
      refine g_icmp_ge (t := 63) (u := 24) X dX5_tests_21 (by decide) rfl ⟨by omega, by omega⟩ ⟨by omega, by omega⟩ (fun c_21 => ?_) (fun c_21 => ?_)
      · exact g_lv (hend k W (NoM_end hn c_21)) [0, 1] rfl
      · have dv := div_facts I10.1 k0 (by omega)
        have ed : k.tdiv (Y 10 0) = k / Y 10 0 := Int.tdiv_eq_ediv_of_nonneg k0
        refine g_aload_n (t := 25) X dX5_tests_24 0 rfl rfl ?_
        refine g_iload_n (t := 26) X dX5_tests_25 2 rfl rfl ?_
        refine g_aload_n (t := 27) X dX5_tests_26 0 rfl rfl ?_
        refine m_getf (t := 30) X 10 (by decide) q4_219 rfl rfl dX5_tests_27 rfl ?_
        refine g_idiv (t := 31) X dX5_tests_30 ⟨by omega, by omega⟩ ⟨by omega, by omega⟩ (by omega) ⟨by rw [ed]; omega, by rw [ed]; omega⟩ rfl ?_
        rw [ed]
        refine g_iload_n (t := 32) X dX5_tests_31 2 rfl rfl ?_
        refine g_aload_n (t := 33) X dX5_tests_32 0 rfl rfl ?_
        refine m_getf (t := 36) X 10 (by decide) q4_219 rfl rfl dX5_tests_33 rfl ?_
        refine g_irem (t := 37) X dX5_tests_36 (by omega) (by omega) (by omega) (by omega) rfl ?_
        refine g_iload_n (t := 38) X dX5_tests_37 1 rfl rfl ?_
        refine g_callV (t := 41) (mc := 0) (ms := 0) (rest := []) X mt_X5_meets q5_70 q5_72 qs_24 0 wM_0 rfl (c_X5_meets hfl hI (by omega) (by omega) (by omega) (by omega) (by omega) (by omega)) (by decide) (by decide) (by decide) (Nat.le_of_ble_eq_true rfl) rfl rfl dX5_tests_38 rfl (k_rbw (fun W38 b_38 => ?_) (fun W38 b_38 => ?_))
        · refine g_if_eq (t := 57) (u := 44) X dX5_tests_41 (by decide) rfl ⟨by omega, by omega⟩ (fun c => absurd c (by decide)) (fun _ => ?_)
          refine g_sipush (t := 47) (z := 1000) X dX5_tests_44 (by decide +kernel) rfl ?_
          refine g_iload_n (t := 48) X dX5_tests_47 2 rfl rfl ?_
          refine g_aload_n (t := 49) X dX5_tests_48 0 rfl rfl ?_
          refine m_getf (t := 52) X 10 (by decide) q4_219 rfl rfl dX5_tests_49 rfl ?_
          refine g_idiv (t := 53) X dX5_tests_52 ⟨by omega, by omega⟩ ⟨by omega, by omega⟩ (by omega) ⟨by rw [ed]; omega, by rw [ed]; omega⟩ rfl ?_
          rw [ed]
          refine g_imul (t := 54) X dX5_tests_53 rfl ?_
          refine g_iload_n (t := 55) X dX5_tests_54 1 rfl rfl ?_
          refine g_iadd (t := 56) X dX5_tests_55 rfl ?_
          exact g_iret X r (rq_i _ (TestR.eq (Or.inr ⟨j, k / Y 10 0, j0, j1, by omega, by omega, by omega, ⟨k % Y 10 0, by omega, by omega, by rw [← eo]; exact b_38⟩, by rw [← eo]; exact NoM_p hn I10.1 k0 (by omega), hpre⟩)) rfl) (Nat.le_of_ble_eq_true rfl) (Nat.le_of_ble_eq_true rfl) dX5_tests_56
        · refine g_if_eq (t := 57) (u := 44) X dX5_tests_41 (by decide) rfl ⟨by omega, by omega⟩ (fun _ => ?_) (fun c => absurd c (by decide))
          refine g_iinc (t := 60) (lv1 := [(2, vi (k + 1)), (0, .ref (ad 0)), (1, vi o)]) X dX5_tests_57 2 rfl (by decide) rfl rfl ?_
          refine g_goto (t := 11) X dX5_tests_60 (by decide) ?_
          exact g_lv (ih (k + 1) W38 (by omega) (by omega) (by omega) (NoM_s hn k0 (by omega) I10.1 b_38)) [1, 2, 0] rfl
  have outer : ∀ (n : Nat) (j o : Int) (W : Int → Int), o = 15 * j → 0 ≤ j → j ≤ 13 → 13 - j < n → (∀ j' p', 0 ≤ j' → j' < j → 0 ≤ p' → p' < Y 10 0 → ¬ Tm Y p' (15 * j')) → G C K Q 0 0 2 [(0, .ref (ad 0)), (1, vi o)] [] (wM C ad Y V W th ++ R) := by
    intro n
    induction n with
    | zero => intro j o W h0 h1 h2 h3; exact absurd h3 (by omega)
    | succ n ih =>
      intro j o W eo j0 j1 h3 hpre
      refine g_iload_n (t := 3) X dX5_tests_2 1 rfl rfl ?_
      refine g_sipush (t := 6) (z := 180) X dX5_tests_3 (by decide +kernel) rfl ?_
      refine g_icmp_gt (t := 69) (u := 9) X dX5_tests_6 (by decide) rfl ⟨by omega, by omega⟩ ⟨by omega, by omega⟩ (fun c_6 => ?_) (fun c_6 => ?_)
      · refine g_iconst (t := 70) X dX5_tests_69 rfl ?_
        exact g_iret X r (rq_i _ (TestR.eq (Or.inl ⟨rfl, fun j' p' a1 a2 a3 a4 => hpre j' p' a1 (by omega) a3 a4⟩)) rfl) (Nat.le_of_ble_eq_true rfl) (Nat.le_of_ble_eq_true rfl) dX5_tests_70
      · refine g_iconst (t := 10) X dX5_tests_9 rfl ?_
        refine g_istore_n (t := 11) (lv1 := [(2, vi 0), (0, .ref (ad 0)), (1, vi o)]) X dX5_tests_10 (by decide) rfl rfl ?_
        refine g_lv (inner j o eo j0 (by omega) hpre (fun k W hno => ?_) ((Y 10 0 * Y 10 0 + 1).toNat) 0 W (by omega) (by omega) (by omega) NoM_0) [1, 2, 0] rfl
        refine g_iinc (t := 66) (lv1 := [(1, vi (o + 15)), (0, .ref (ad 0))]) X dX5_tests_63 1 rfl (by decide) rfl rfl ?_
        refine g_goto (t := 2) X dX5_tests_66 (by decide) ?_
        exact g_lv (ih (j + 1) (o + 15) W (by omega) (by omega) (by omega) (by omega) (fun j' p' a1 a2 a3 a4 => by
          by_cases e : j' = j
          · subst e; rw [← eo]; exact hno p' a3 a4
          · exact hpre j' p' a1 (by omega) a3 a4)) [1, 0] rfl
  show G C K Q 0 0 0 [(0, .ref (ad 0))] [] (wM C ad Y V W th ++ R)
  refine g_iconst (t := 1) X dX5_tests_0 rfl ?_
  refine g_istore_n (t := 2) (lv1 := [(1, vi 0), (0, .ref (ad 0))]) X dX5_tests_1 (by decide) rfl rfl ?_
  exact g_lv (outer 14 0 0 W (by omega) (by omega) (by omega) (by omega) (fun j' p' a1 a2 => absurd a1 (by omega))) [1, 0] rfl

theorem test_rng {Y : Nat → Int → Int} (hI : MI Y) (h : TestR Y (testF Y)) : -1 ≤ testF Y ∧ testF Y ≤ 20000 := by
  have I10 := hI.2.2.1
  rcases h with ⟨h, -⟩ | ⟨j, p, h1, h2, h3, h4, h5, -⟩ <;> omega
/-- some answer is the tester's -/
theorem TestR.some (Y : Nat → Int → Int) : TestR Y (testF Y) := by
  refine Classical.epsilon_spec (p := TestR Y) ?_
  by_cases h : ∃ j : Nat, j ≤ 12 ∧ ∃ p : Nat, (p : Int) < Y 10 0 ∧ Tm Y p (15 * j)
  · have least : ∀ (P : Nat → Prop), (∃ k, P k) → ∃ k, P k ∧ ∀ j, j < k → ¬ P j := fun P h => pk_least P h
    obtain ⟨j, ⟨j1, hp⟩, hj⟩ := least (fun j => j ≤ 12 ∧ ∃ p : Nat, (p : Int) < Y 10 0 ∧ Tm Y p (15 * j)) h
    obtain ⟨p, ⟨p1, ht⟩, hp2⟩ := least (fun p => (p : Int) < Y 10 0 ∧ Tm Y p (15 * j)) hp
    refine ⟨1000 * p + 15 * j, Or.inr ⟨j, p, by omega, by omega, by omega, p1, rfl, ht, fun p' a b c => ?_, fun j' p' a b c d e => ?_⟩⟩
    · refine hp2 p'.toNat (by omega) ⟨by omega, ?_⟩
      rw [Int.toNat_of_nonneg a]; exact c
    · refine hj j'.toNat (by omega) ⟨by omega, p'.toNat, by omega, ?_⟩
      rw [Int.toNat_of_nonneg a, Int.toNat_of_nonneg c]; exact e
  · refine ⟨-1, Or.inl ⟨rfl, fun j p a b c d e => h ⟨j.toNat, by omega, p.toNat, by omega, ?_⟩⟩⟩
    rw [Int.toNat_of_nonneg a, Int.toNat_of_nonneg c]; exact e

set_option maxHeartbeats 4000000 in
set_option maxRecDepth 100000 in
/-- bound() -/
theorem c_X5_bound {C : WC} {l : Launch} (hfl : l.stackTraces = false) {ad : Nat → Nat} {Y V : Nat → Int → Int} {W : Int → Int} {th : Int} {R : va_W} (hI : MI Y) : MM C l yX5_bound cX5_bound 1 (some .boolean) 6 0 0 [.ref (ad 0)] (wM C ad Y V W th ++ R) (rbq (boundF Y) (fun W => wM C ad Y V W th ++ R)) := by
  refine mm_of (by decide +kernel) (Nat.le_of_ble_eq_true rfl) hfl (fun K Q X r => ?_)
  have X : Cx C l "SpringleafModel" cX5_bound 1 6 0 0 K := X
  have I3 := hI.1
  have I10 := hI.2.2.1
  have I12 := hI.2.2.2.2.1
  show G C K Q 0 0 0 [(0, .ref (ad 0))] [] (wM C ad Y V W th ++ R)
  refine g_aload_n (t := 1) X dX5_bound_0 0 rfl rfl ?_
  refine m_getf (t := 4) X 10 (by decide) q4_219 rfl rfl dX5_bound_1 rfl ?_
  refine g_if_le (t := 29) (u := 7) X dX5_bound_4 (by decide) rfl ⟨by omega, by omega⟩ (fun c_4 => ?_) (fun c_4 => ?_)
  · refine g_iconst (t := 30) X dX5_bound_29 rfl ?_
    exact g_zret X r rfl (rbq_f _ (by unfold boundF; omega) rfl) (Nat.le_of_ble_eq_true rfl) (Nat.le_of_ble_eq_true rfl) dX5_bound_30
  · refine g_aload_n (t := 8) X dX5_bound_7 0 rfl rfl ?_
    refine m_getf (t := 11) X 12 (by decide) q4_221 rfl rfl dX5_bound_8 rfl ?_
    refine g_aload_n (t := 12) X dX5_bound_11 0 rfl rfl ?_
    refine m_getf (t := 15) X 10 (by decide) q4_219 rfl rfl dX5_bound_12 rfl ?_
    refine g_icmp_ne (t := 29) (u := 18) X dX5_bound_15 (by decide) rfl ⟨by omega, by omega⟩ ⟨by omega, by omega⟩ (fun c_15 => ?_) (fun c_15 => ?_)
    · refine g_iconst (t := 30) X dX5_bound_29 rfl ?_
      exact g_zret X r rfl (rbq_f _ (by unfold boundF; omega) rfl) (Nat.le_of_ble_eq_true rfl) (Nat.le_of_ble_eq_true rfl) dX5_bound_30
    · refine g_aload_n (t := 19) X dX5_bound_18 0 rfl rfl ?_
      refine g_callV (t := 22) (mc := 0) (ms := 0) (rest := []) X mt_X5_tests q5_66 q5_68 qs_23 0 wM_0 rfl (c_X5_tests hfl hI) (by decide) (by decide) (by decide) (Nat.le_of_ble_eq_true rfl) rfl rfl dX5_bound_19 rfl (k_rw (fun W19 => ?_))
      have ht := test_rng hI (TestR.some Y)
      refine g_if_ge (t := 29) (u := 25) X dX5_bound_22 (by decide) rfl ⟨by omega, by omega⟩ (fun c_22 => ?_) (fun c_22 => ?_)
      · refine g_iconst (t := 30) X dX5_bound_29 rfl ?_
        exact g_zret X r rfl (rbq_f _ (by unfold boundF; omega) rfl) (Nat.le_of_ble_eq_true rfl) (Nat.le_of_ble_eq_true rfl) dX5_bound_30
      · refine g_iconst (t := 26) X dX5_bound_25 rfl ?_
        refine g_goto (t := 30) X dX5_bound_26 (by decide) ?_
        exact g_zret X r rfl (rbq_t _ (by unfold boundF; omega) rfl) (Nat.le_of_ble_eq_true rfl) (Nat.le_of_ble_eq_true rfl) dX5_bound_30
