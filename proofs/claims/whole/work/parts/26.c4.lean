theorem tell_0 {Y : Nat → Int → Int} (hI : MI Y) (k : Int) (k0 : 0 ≤ k) : tellF Y 0 k = if k < 2 then sF0I k else 0 := by
  have e : sgF Y 0 = 2 := rfl
  rw [tell_step hI (Int.le_refl 0) (by have := hI.1; omega) k, if_neg (by omega), e]
  by_cases h : k < 2
  · rw [if_pos h, if_pos h]
    have : k = 0 ∨ k = 1 := by omega
    rcases this with rfl | rfl <;> rfl
  · rw [if_neg h, if_neg h]
/-- the text so far: k letters told, the rest is told by the fold t -/
def TI (Y : Nat → Int → Int) (f t cnt : Int) (bt : Int → Int) : Prop := ∀ k : Int, 0 ≤ k → (k < cnt → tellF Y f k = bt k) ∧ (cnt ≤ k → tellF Y f k = tellF Y t (k - cnt))
theorem TI.zero (Y : Nat → Int → Int) (f : Int) (bt : Int → Int) : TI Y f f 0 bt := fun k k0 => ⟨fun h => by omega, fun _ => by rw [show k - 0 = k by omega]⟩
theorem TI.step {Y : Nat → Int → Int} (hI : MI Y) {f t cnt : Int} {cap : Nat} {bt : Int → Int} (h : TI Y f t cnt bt) (t1 : 1 ≤ t) (t2 : t < Y 3 0) (c0 : 0 ≤ cnt) {x : Nat × Nat × (Int → Int)} (hx : AppP cap bt cnt (sgF Y t) (chF Y t) x) : TI Y f (Y 0 t) (cnt + sgF Y t) x.2.2 := by
  intro k k0
  have hs := sg_rng Y t
  refine ⟨fun c => ?_, fun c => ?_⟩
  · by_cases c2 : k < cnt
    · rw [(h k k0).1 c2, hx.2.2.1 k k0 c2]
    · rw [(h k k0).2 (by omega), tell_step hI (by omega) t2, if_neg (by omega), if_pos (by omega)]
      have e := hx.2.2.2 (k - cnt) (by omega) (by omega)
      rw [show cnt + (k - cnt) = k by omega] at e
      exact e.symm
  · rw [(h k k0).2 (by omega), tell_step hI (by omega) t2, if_pos (by omega)]
    congr 1
    omega
theorem TI.fin {Y : Nat → Int → Int} (hI : MI Y) {f cnt : Int} {cap : Nat} {bt : Int → Int} (h : TI Y f 0 cnt bt) (c0 : 0 ≤ cnt) {x : Nat × Nat × (Int → Int)} (hx : AppP cap bt cnt ((2 : Nat) : Int) sF0I x) (k : Int) (k0 : 0 ≤ k) : (k < cnt + ((2 : Nat) : Int) → tellF Y f k = x.2.2 k) ∧ (cnt + ((2 : Nat) : Int) ≤ k → tellF Y f k = 0) := by
  refine ⟨fun c => ?_, fun c => ?_⟩
  · by_cases c2 : k < cnt
    · rw [(h k k0).1 c2, hx.2.2.1 k k0 c2]
    · rw [(h k k0).2 (by omega), tell_0 hI _ (by omega), if_pos (by omega)]
      have e := hx.2.2.2 (k - cnt) (by omega) (by omega)
      rw [show cnt + (k - cnt) = k by omega] at e
      exact e.symm
  · rw [(h k k0).2 (by omega), tell_0 hI _ (by omega), if_neg (by omega)]
/-- the state of the builder between calls -/
def BI (B : BT) : Prop := (16 ≤ B.2.1 ∧ B.2.1 ≤ 300) ∧ (0 ≤ B.2.2.2.1 ∧ B.2.2.2.1 ≤ B.2.1) ∧ Lat B.2.1 B.2.2.1
set_option maxHeartbeats 4000000 in
set_option maxRecDepth 100000 in
/-- signAt(fold, place) -/
theorem c_X0_signAt {C : WC} {l : Launch} (hfl : l.stackTraces = false) {ad : Nat → Nat} {bv cap : Nat} {bt : Int → Int} {cnt ml : Int} {E : Int × Nat} {S Y V : Nat → Int → Int} {R : va_W} {f x : Int}  (hI : MI Y) (f0 : 0 ≤ f) (f1 : f < Y 3 0) (x0 : 0 ≤ x) (x9 : x < 2147483648) (c16 : 16 ≤ cap) (c3 : cap ≤ 300) (k0 : 0 ≤ cnt) (k1 : cnt ≤ cap) (hb : Lat cap bt) : MM C l yX0_signAt cX0_signAt 5 (some .char) 6 300 600 [.ref (ad 4), vi f, vi x] (wC C ad (bv, cap, bt, cnt, ml) E S Y V ++ R) (fun v w => ∃ B : BT, BI B ∧ v = some (vi (tellF Y f x)) ∧ w = wC C ad B E S Y V ++ R) := by
  refine mm_of (by decide +kernel) (Nat.le_of_ble_eq_true rfl) hfl (fun K Q X r => ?_)
  have X : Cx C l "Springleaf$Folds" cX0_signAt 5 6 300 600 K := X
  have I3 := hI.1
  have I10 := hI.2.2.1
  have I12 := hI.2.2.2.2.1
  have loop : ∀ (m : Nat) (t d : Int) (bv1 c1 : Nat) (bt1 : Int → Int) (n1 ml1 : Int), 0 ≤ t → t < Y 3 0 → 0 ≤ d → t + d ≤ 11 → 12 - d < m → cap ≤ c1 → c1 ≤ 300 → 0 ≤ n1 → n1 ≤ 12 * d → n1 ≤ c1 → Lat c1 bt1 → TI Y f t n1 bt1 → G C K Q (c1 - cap) (2 * (c1 - cap)) 13 [(0, .ref (ad 4)), (2, vi x), (3, vi t), (4, vi d)] [] (wC C ad (bv1, c1, bt1, n1, ml1) E S Y V ++ R) := by
    intro m
    induction m with
    | zero => intro t d bv1 c1 bt1 n1 ml1 h0 h1 h2 h3 h4; exact absurd h4 (by omega)
    | succ m ih =>
      intro t d bv1 c1 bt1 n1 ml1 t0 t9 d0 td h4 cc c3 n0 n12 nc hb hT
      have c16 : 16 ≤ c1 := by omega
      refine g_iload (t := 15) X dX0_signAt_13 3 rfl rfl ?_
      refine g_bipush (t := 17) (z := 12) X dX0_signAt_15 (by decide +kernel) rfl ?_
      refine g_icmp_ge (t := 42) (u := 20) X dX0_signAt_17 (by decide) rfl ⟨by omega, by omega⟩ ⟨by omega, by omega⟩ (fun c_17 => absurd c_17 (by omega)) (fun c_17 => ?_)
      refine g_iload_n (t := 21) X dX0_signAt_20 2 rfl rfl ?_
      refine g_if_le (t := 42) (u := 24) X dX0_signAt_21 (by decide) rfl ⟨by omega, by omega⟩ (fun c_21 => ?_) (fun c_21 => ?_)
      · refine g_aload_n (t := 43) X dX0_signAt_42 0 rfl rfl ?_
        refine getf_X0 (t := 46) X 7 (by decide) q1_88 rfl rfl dX0_signAt_43 rfl ?_
        refine g_ldcS (t := 48) X (fun s H h => h.2.2.2.2.2.2.2.1.1) dX0_signAt_46 rfl ?_
        have t00 : t = 0 := by omega
        subst t00
        have hM := ncap_300 (T := n1 + ((2 : Nat) : Int)) c3 (by omega)
        have hG := ncap_le c1 (n1 + ((2 : Nat) : Int))
        have hG2 := ncap_ge (cap := c1) (need := n1 + ((2 : Nat) : Int)) (by omega) (by omega)
        refine g_callV (t := 51) (mc := ncap c1 (n1 + ((2 : Nat) : Int)) - c1) (ms := 2 * (ncap c1 (n1 + ((2 : Nat) : Int)) - c1)) (rest := []) X mt_J4_append_15ec4 q4_233 q3_202 q3_203 0 rfl rfl (c_J4_append_15ec4 (g := sF0I) (n := 2) (mc := ncap c1 (n1 + ((2 : Nat) : Int)) - c1) (ms := 2 * (ncap c1 (n1 + ((2 : Nat) : Int)) - c1)) hfl (fun s H h => h.2.2.2.2.2.2.2.1) (by omega) sF0_rng c16 c3 n0 nc hb (by omega) (ncap_bud _ _)) (by decide) (by omega) (by omega) (Nat.le_of_ble_eq_true rfl) rfl rfl dX0_signAt_48 rfl (k_ex (fun x9 hx => ?_))
        obtain ⟨bv2, c2, bt2⟩ := x9
        have e2 : c2 = ncap c1 (n1 + ((2 : Nat) : Int)) := hx.1
        have hF := hT.fin hI n0 hx x x0
        have hb2 : Lat c2 bt2 := hx.2.1
        have hB : BI (bv2, c2, bt2, n1 + ((2 : Nat) : Int), ml1) := ⟨⟨show 16 ≤ c2 by omega, show c2 ≤ 300 by omega⟩, ⟨show 0 ≤ n1 + ((2 : Nat) : Int) by omega, show n1 + ((2 : Nat) : Int) ≤ (c2 : Int) by omega⟩, hb2⟩
        show G C K Q _ _ _ _ _ (wC C ad (bv2, c2, bt2, n1 + ((2 : Nat) : Int), ml1) E S Y V ++ R)
        refine g_pop (t := 52) X dX0_signAt_51 rfl rfl ?_
        refine g_iload_n (t := 53) X dX0_signAt_52 1 rfl rfl ?_
        refine g_aload_n (t := 54) X dX0_signAt_53 0 rfl rfl ?_
        refine getf_X0 (t := 57) X 7 (by decide) q1_88 rfl rfl dX0_signAt_54 rfl ?_
        refine g_callV (t := 60) (mc := 0) (ms := 0) (rest := [vi x]) X mt_J4_length_8abf5 q4_235 q4_113 q6_28 0 rfl rfl (c_J4_length_8abf5 hfl) (by decide) (by omega) (by omega) (Nat.le_of_ble_eq_true rfl) rfl rfl dX0_signAt_57 rfl (k_rv ?_)
        show G C K Q _ _ _ _ _ (wC C ad (bv2, c2, bt2, n1 + ((2 : Nat) : Int), ml1) E S Y V ++ R)
        refine g_icmp_ge (t := 74) (u := 63) X dX0_signAt_60 (by decide) rfl ⟨by omega, by omega⟩ ⟨by omega, by omega⟩ (fun c_60 => ?_) (fun c_60 => ?_)
        · refine g_iconst (t := 75) X dX0_signAt_74 rfl ?_
          exact g_zret X r (by first | rfl | (have hc := hb2 x x0 (by omega); exact nar_c (by omega) (by omega))) ⟨_, hB, by rw [hF.2 (by omega)], rfl⟩ (by omega) (by omega) dX0_signAt_75
        · refine g_aload_n (t := 64) X dX0_signAt_63 0 rfl rfl ?_
          refine getf_X0 (t := 67) X 7 (by decide) q1_88 rfl rfl dX0_signAt_64 rfl ?_
          refine g_iload_n (t := 68) X dX0_signAt_67 1 rfl rfl ?_
          refine g_callV (t := 71) (mc := 0) (ms := 0) (rest := []) X mt_J4_charAt_5068e q4_236 q4_237 q4_238 0 rfl rfl (c_J4_charAt_5068e hfl (by omega) (by omega) (by omega) (by omega) hb2 (by omega) (by omega)) (by decide) (by omega) (by omega) (Nat.le_of_ble_eq_true rfl) rfl rfl dX0_signAt_68 rfl (k_rv ?_)
          show G C K Q _ _ _ _ _ (wC C ad (bv2, c2, bt2, n1 + ((2 : Nat) : Int), ml1) E S Y V ++ R)
          refine g_goto (t := 75) X dX0_signAt_71 (by decide) ?_
          exact g_zret X r (by first | rfl | (have hc := hb2 x x0 (by omega); exact nar_c (by omega) (by omega))) ⟨_, hB, by rw [hF.1 (by omega)], rfl⟩ (by omega) (by omega) dX0_signAt_75
      · have t1 : 1 ≤ t := by omega
        have hs := sg_rng Y t
        have ho := hI.2.1 t t1 t9
        have hM := ncap_300 (T := n1 + sgF Y t) c3 (by omega)
        have hG := ncap_le c1 (n1 + sgF Y t)
        have hG2 := ncap_ge (cap := c1) (need := n1 + sgF Y t)
        refine g_aload_n (t := 25) X dX0_signAt_24 0 rfl rfl ?_
        refine g_iload_n (t := 26) X dX0_signAt_25 2 rfl rfl ?_
        refine g_callV (t := 29) (mc := (ncap c1 (n1 + sgF Y t) - c1)) (ms := (2 * (ncap c1 (n1 + sgF Y t) - c1))) (rest := []) X mt_X0_writeHanging q4_206 q4_207 q4_208 4 wC_4 rfl (c_X0_writeHanging hfl hI t1 t9 c16 c3 n0 nc hb (by omega)) (by decide) (by omega) (by omega) (Nat.le_of_ble_eq_true rfl) rfl rfl dX0_signAt_26 rfl (k_exn (fun x9 hx => ?_))
        obtain ⟨bv2, c2, bt2⟩ := x9
        have e2 : c2 = ncap c1 (n1 + sgF Y t) := hx.1
        have hT2 := hT.step hI t1 t9 n0 hx
        have hb2 : Lat c2 bt2 := hx.2.1
        refine g_cs (c1 := c2 - cap) (s1 := 2 * (c2 - cap)) ?_ (by omega) (by omega)
        show G C K Q _ _ _ _ _ (wC C ad (bv2, c2, bt2, n1 + sgF Y t, ml1) E S Y V ++ R)
        refine g_aload_n (t := 30) X dX0_signAt_29 0 rfl rfl ?_
        refine getf_X0 (t := 33) X 0 (by decide) q1_79 rfl rfl dX0_signAt_30 rfl ?_
        refine g_iload_n (t := 34) X dX0_signAt_33 2 rfl rfl ?_
        refine g_iald (t := 35) (f := Y 0) X 5 wC_5 (by omega) (by omega) (by omega) dX0_signAt_34 rfl ?_
        refine g_istore_n (t := 36) (lv1 := [(3, vi ((Y 0) t)), (0, .ref (ad 4)), (2, vi x), (4, vi d)]) X dX0_signAt_35 (by decide) rfl rfl ?_
        refine g_iinc (t := 39) (lv1 := [(4, vi (d + 1)), (3, vi ((Y 0) t)), (0, .ref (ad 4)), (2, vi x)]) X dX0_signAt_36 3 rfl (by decide) rfl rfl ?_
        refine g_goto (t := 13) X dX0_signAt_39 (by decide) ?_
        exact g_lv (ih (Y 0 t) (d + 1) bv2 c2 bt2 (n1 + sgF Y t) ml1 (by omega) (by omega) (by omega) (by omega) (by omega) (by omega) (by omega) (by omega) (by omega) (by rw [e2]; unfold ncap; split <;> omega) hb2 hT2) [2, 3, 1, 0] rfl
  show G C K Q 0 0 0 [(0, .ref (ad 4)), (1, vi f), (2, vi x)] [] (wC C ad (bv, cap, bt, cnt, ml) E S Y V ++ R)
  refine g_aload_n (t := 1) X dX0_signAt_0 0 rfl rfl ?_
  refine getf_X0 (t := 4) X 7 (by decide) q1_88 rfl rfl dX0_signAt_1 rfl ?_
  refine g_iconst (t := 5) X dX0_signAt_4 rfl ?_
  refine g_callV (t := 8) (mc := 0) (ms := 0) (rest := []) X mt_J4_setLength_d00df q3_186 q3_187 q3_188 0 rfl rfl (c_J4_setLength_d00df hfl c16 c3 k0 k1 hb) (by decide) (by omega) (by omega) (Nat.le_of_ble_eq_true rfl) rfl rfl dX0_signAt_5 rfl (k_exn (fun x hx => ?_))
  obtain ⟨⟨bv0, cap0, bt0⟩, ml0⟩ := x
  have e0 : cap0 = cap := by have h9 : cap0 = ncap cap 0 := hx.1; rw [h9]; unfold ncap; rw [if_pos (by omega)]
  subst e0
  have hb0 : Lat cap0 bt0 := hx.2.1
  show G C K Q _ _ _ _ _ (wC C ad (bv0, cap0, bt0, 0, ml0) E S Y V ++ R)
  refine g_iload_n (t := 9) X dX0_signAt_8 1 rfl rfl ?_
  refine g_istore_n (t := 10) (lv1 := [(3, vi f), (0, .ref (ad 4)), (1, vi f), (2, vi x)]) X dX0_signAt_9 (by decide) rfl rfl ?_
  refine g_iconst (t := 11) X dX0_signAt_10 rfl ?_
  refine g_istore (t := 13) (lv1 := [(4, vi 0), (3, vi f), (0, .ref (ad 4)), (1, vi f), (2, vi x)]) X dX0_signAt_11 (by decide) rfl rfl ?_
  refine g_cs (c1 := cap0 - cap0) (s1 := 2 * (cap0 - cap0)) ?_ (by omega) (by omega)
  exact g_lv (loop 13 f 0 bv0 cap0 bt0 0 ml0 (by omega) (by omega) (by omega) (by omega) (by omega) (by omega) (by omega) (by omega) (by omega) (by omega) hb0 (TI.zero Y f bt0)) [2, 4, 1, 0] rfl

