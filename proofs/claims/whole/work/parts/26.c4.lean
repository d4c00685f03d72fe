/-- the text so far: cnt letters told, the rest is told by the fold t -/
def TI (Y : Nat → Int → Int) (f t cnt : Int) (bt : Int → Int) : Prop := ∀ k : Int, 0 ≤ k → (k < cnt → tellF Y f k = bt k) ∧ (cnt ≤ k → tellF Y f k = tellF Y t (k - cnt))
theorem TI.zero (Y : Nat → Int → Int) (f : Int) (bt : Int → Int) : TI Y f f 0 bt := fun k k0 => ⟨fun h => by omega, fun _ => by rw [show k - 0 = k by omega]⟩
theorem TI.step {Y : Nat → Int → Int} (hI : MI Y) {f t cnt : Int} {cap : Nat} {bt : Int → Int} (h : TI Y f t cnt bt) (t1 : 1 ≤ t) (t2 : t < Y 3 0) (c0 : 0 ≤ cnt) {x : Nat × Nat × (Int → Int)} (hx : AppP cap bt cnt (sgF Y t) (chF Y t) x) : TI Y f (Y 0 t) (cnt + sgF Y t) x.2.2 := by
  intro k k0
  have hs := sg_rng Y t
  refine ⟨fun c => ?_, fun c => ?_⟩
  · by_cases c2 : k < cnt
    · rw [(h k k0).1 c2, hx.2.2.1 k k0 c2]
    · rw [(h k k0).2 (by omega), tell_step hI (by omega) t2, if_neg (by omega), if_pos (by omega)]
      have e := hx.2.2.2 (k - cnt) (by omega) (by omega)
      rw [show cnt + (k - cnt) = k by omega] at e
      exact e.symm
  · rw [(h k k0).2 (by omega), tell_step hI (by omega) t2, if_pos (by omega)]
    congr 1
    omega
/-- all is told -/
def TF (Y : Nat → Int → Int) (f n : Int) (bt : Int → Int) : Prop := ∀ k : Int, 0 ≤ k → (k < n → tellF Y f k = bt k) ∧ (n ≤ k → tellF Y f k = 0)
theorem TI.fin {Y : Nat → Int → Int} (hI : MI Y) {f cnt : Int} {cap : Nat} {bt : Int → Int} (h : TI Y f 0 cnt bt) (c0 : 0 ≤ cnt) {x : Nat × Nat × (Int → Int)} (hx : AppP cap bt cnt (sgF Y 0) (chF Y 0) x) : TF Y f (cnt + sgF Y 0) x.2.2 := by
  intro k k0
  have hs := sg_rng Y 0
  refine ⟨fun c => ?_, fun c => ?_⟩
  · by_cases c2 : k < cnt
    · rw [(h k k0).1 c2, hx.2.2.1 k k0 c2]
    · rw [(h k k0).2 (by omega), tell_step hI (Int.le_refl 0) (by have := hI.1; omega), if_neg (by omega), if_pos (by omega)]
      have e := hx.2.2.2 (k - cnt) (by omega) (by omega)
      rw [show cnt + (k - cnt) = k by omega] at e
      exact e.symm
  · rw [(h k k0).2 (by omega), tell_step hI (Int.le_refl 0) (by have := hI.1; omega), if_neg (by omega), if_neg (by omega)]
/-- the state of the builder between calls -/
def BI (B : BT) : Prop := (16 ≤ B.2.1 ∧ B.2.1 ≤ 300) ∧ (0 ≤ B.2.2.2.1 ∧ B.2.2.2.1 ≤ B.2.1) ∧ Lat B.2.1 B.2.2.1
set_option maxHeartbeats 4000000 in
set_option maxRecDepth 100000 in
/-- tellAll(fold) -/
theorem c_X4_tellAll {C : WC} {l : Launch} (hfl : l.stackTraces = false) {ad : Nat → Nat} {bv cap : Nat} {bt : Int → Int} {cnt ml : Int} {E : Int × Nat} {F : Int × Nat × Nat} {S Y : Nat → Int → Int} {g : Int → Int} {R : va_W} {f : Int}  (hI : MI Y) (f0 : 0 ≤ f) (f1 : f < Y 3 0) (c16 : 16 ≤ cap) (c3 : cap ≤ 300) (k0 : 0 ≤ cnt) (k1 : cnt ≤ cap) (hb : Lat cap bt) : MM C l yX4_tellAll cX4_tellAll 3 none 6 300 600 [.ref (ad 4), .ref (fA ad f)] (WW C ad (bv, cap, bt, cnt, ml) E F S Y g R) (fun v w => ∃ B : BT, (BI B ∧ TF Y f B.2.2.2.1 B.2.2.1) ∧ v = none ∧ w = WW C ad B E F S Y g R) := by
  refine mm_of (by decide +kernel) (Nat.le_of_ble_eq_true rfl) hfl (fun K Q X r => ?_)
  have X : Cx C l "Springleaf" cX4_tellAll 3 6 300 600 K := X
  have I3 := hI.1
  have I10 := hI.2.2.1
  have I12 := hI.2.2.2.2.1
  have loop : ∀ (m : Nat) (t d : Int) (bv1 c1 : Nat) (bt1 : Int → Int) (n1 ml1 : Int), 0 ≤ t → t < Y 3 0 → 0 ≤ d → t + d ≤ 11 → 12 - d < m → cap ≤ c1 → c1 ≤ 300 → 0 ≤ n1 → n1 ≤ 12 * d → n1 ≤ c1 → Lat c1 bt1 → TI Y f t n1 bt1 → G C K Q (c1 - cap) (2 * (c1 - cap)) 10 [(0, .ref (ad 4)), (2, .ref (fA ad t))] [] (WW C ad (bv1, c1, bt1, n1, ml1) E F S Y g R) := by
    intro m
    induction m with
    | zero => intro t d bv1 c1 bt1 n1 ml1 h0 h1 h2 h3 h4; exact absurd h4 (by omega)
    | succ m ih =>
      intro t d bv1 c1 bt1 n1 ml1 t0 t9 d0 td h4 cc c3 n0 n12 nc hb hT
      have c16 : 16 ≤ c1 := by omega
      have hs := sg_rng Y t
      have hs12 : sgF Y t ≤ 12 := by omega
      have hM := ncap_300 (T := n1 + sgF Y t) c3 (by omega)
      have hG := ncap_le c1 (n1 + sgF Y t)
      have hG2 := ncap_ge (cap := c1) (need := n1 + sgF Y t)
      rcases (show t = 0 ∨ 1 ≤ t by omega) with e0 | t1
      · subst e0
        show G C K Q (c1 - cap) (2 * (c1 - cap)) 10 [(0, .ref (ad 4)), (2, .ref (fA ad 0))] [] (WW C ad (bv1, c1, bt1, n1, ml1) E F S Y g R)
        refine g_aload_n (t := 11) X dX4_tellAll_10 1 rfl rfl ?_
        refine g_ifnull (t := 14) X dX4_tellAll_11 rfl ?_
        refine g_aload_n (t := 15) X dX4_tellAll_14 1 rfl rfl ?_
        refine g_aload_n (t := 16) X dX4_tellAll_15 0 rfl rfl ?_
        refine getf_X4 (t := 19) X 2 (by decide) q1_188 rfl rfl dX4_tellAll_16 rfl ?_
        refine g_callV (t := 22) (mc := (ncap c1 (n1 + sgF Y 0) - c1)) (ms := (2 * (ncap c1 (n1 + sgF Y 0) - c1))) (rest := []) X mt_X0_tellTo q4_164 q4_165 q4_166 _ (WW_f (i := 0) (by omega) (by omega)) rfl (c_X0_tellTo (f := 0) hfl hI (by omega) (by omega) c16 c3 n0 nc hb (by omega)) (by decide) (by omega) (by omega) (Nat.le_of_ble_eq_true rfl) rfl rfl dX4_tellAll_19 rfl (k_exn (fun x9 hx => ?_))
        obtain ⟨bv2, c2, bt2⟩ := x9
        have e2 : c2 = ncap c1 (n1 + sgF Y 0) := hx.1
        have hT2 := hT.fin hI n0 hx
        have hb2 : Lat c2 bt2 := hx.2.1
        refine g_cs (c1 := c2 - cap) (s1 := 2 * (c2 - cap)) ?_ (by omega) (by omega)
        show G C K Q _ _ _ _ _ (WW C ad (bv2, c2, bt2, n1 + sgF Y 0, ml1) E F S Y g R)
        refine g_aload_n (t := 23) X dX4_tellAll_22 1 rfl rfl ?_
        refine g_getf (t := 26) (v := .null) X inX0 _ (WW_f (i := 0) (by omega) (by omega)) rfl 1 (by decide) q1_104 rfl (congrArg some (on_0 (by omega))) dX4_tellAll_23 rfl ?_
        refine g_astore_nN (t := 27) (lv1 := [(2, .null), (0, .ref (ad 4))]) X dX4_tellAll_26 (by decide) rfl rfl ?_
        refine g_goto (t := 10) X dX4_tellAll_27 (by decide) ?_
        refine g_aload_nN (t := 11) X dX4_tellAll_10 0 rfl rfl ?_
        refine g_ifnullN (t := 30) X dX4_tellAll_11 (by decide) ?_
        exact g_vret X r ⟨(bv2, c2, bt2, n1 + sgF Y 0, ml1), ⟨⟨⟨show 16 ≤ c2 by omega, show c2 ≤ 300 by omega⟩, ⟨show 0 ≤ n1 + sgF Y 0 by omega, show n1 + sgF Y 0 ≤ (c2 : Int) by rw [e2]; unfold ncap; split <;> omega⟩, hb2⟩, hT2⟩, rfl, rfl⟩ (by omega) (by omega) dX4_tellAll_30
      · have ho := hI.2.1 t t1 t9
        refine g_aload_n (t := 11) X dX4_tellAll_10 1 rfl rfl ?_
        refine g_ifnull (t := 14) X dX4_tellAll_11 rfl ?_
        refine g_aload_n (t := 15) X dX4_tellAll_14 1 rfl rfl ?_
        refine g_aload_n (t := 16) X dX4_tellAll_15 0 rfl rfl ?_
        refine getf_X4 (t := 19) X 2 (by decide) q1_188 rfl rfl dX4_tellAll_16 rfl ?_
        refine g_callV (t := 22) (mc := (ncap c1 (n1 + sgF Y t) - c1)) (ms := (2 * (ncap c1 (n1 + sgF Y t) - c1))) (rest := []) X mt_X0_tellTo q4_164 q4_165 q4_166 _ (WW_f (i := t) (by omega) (by omega)) rfl (c_X0_tellTo (f := t) hfl hI (by omega) (by omega) c16 c3 n0 nc hb (by omega)) (by decide) (by omega) (by omega) (Nat.le_of_ble_eq_true rfl) rfl rfl dX4_tellAll_19 rfl (k_exn (fun x9 hx => ?_))
        obtain ⟨bv2, c2, bt2⟩ := x9
        have e2 : c2 = ncap c1 (n1 + sgF Y t) := hx.1
        have hT2 := hT.step hI t1 t9 n0 hx
        have hb2 : Lat c2 bt2 := hx.2.1
        refine g_cs (c1 := c2 - cap) (s1 := 2 * (c2 - cap)) ?_ (by omega) (by omega)
        show G C K Q _ _ _ _ _ (WW C ad (bv2, c2, bt2, n1 + sgF Y t, ml1) E F S Y g R)
        refine g_aload_n (t := 23) X dX4_tellAll_22 1 rfl rfl ?_
        refine g_getf (t := 26) (v := .ref (fA ad (Y 0 t))) X inX0 _ (WW_f (i := t) (by omega) (by omega)) rfl 1 (by decide) q1_104 rfl (congrArg some (on_p (by omega))) dX4_tellAll_23 rfl ?_
        refine g_astore_n (t := 27) (lv1 := [(2, .ref (fA ad (Y 0 t))), (0, .ref (ad 4))]) X dX4_tellAll_26 (by decide) rfl rfl ?_
        refine g_goto (t := 10) X dX4_tellAll_27 (by decide) ?_
        exact g_lv (ih (Y 0 t) (d + 1) bv2 c2 bt2 (n1 + sgF Y t) ml1 (by omega) (by omega) (by omega) (by omega) (by omega) (by omega) (by omega) (by omega) (by omega) (by rw [e2]; unfold ncap; split <;> omega) hb2 hT2) [1, 0] rfl
  show G C K Q 0 0 0 [(0, .ref (ad 4)), (1, .ref (fA ad f))] [] (WW C ad (bv, cap, bt, cnt, ml) E F S Y g R)
  refine g_aload_n (t := 1) X dX4_tellAll_0 0 rfl rfl ?_
  refine getf_X4 (t := 4) X 2 (by decide) q1_188 rfl rfl dX4_tellAll_1 rfl ?_
  refine g_iconst (t := 5) X dX4_tellAll_4 rfl ?_
  refine g_callV (t := 8) (mc := 0) (ms := 0) (rest := []) X mt_J4_setLength_d00df q3_144 q3_145 q3_146 0 rfl rfl (c_J4_setLength_d00df hfl c16 c3 k0 k1 hb) (by decide) (by omega) (by omega) (Nat.le_of_ble_eq_true rfl) rfl rfl dX4_tellAll_5 rfl (k_exn (fun x hx => ?_))
  obtain ⟨⟨bv0, cap0, bt0⟩, ml0⟩ := x
  have e0 : cap0 = cap := by have h9 : cap0 = ncap cap 0 := hx.1; rw [h9]; unfold ncap; rw [if_pos (by omega)]
  subst e0
  have hb0 : Lat cap0 bt0 := hx.2.1
  show G C K Q _ _ _ _ _ (WW C ad (bv0, cap0, bt0, 0, ml0) E F S Y g R)
  refine g_aload_n (t := 9) X dX4_tellAll_8 1 rfl rfl ?_
  refine g_astore_n (t := 10) (lv1 := [(2, .ref (fA ad f)), (0, .ref (ad 4)), (1, .ref (fA ad f))]) X dX4_tellAll_9 (by decide) rfl rfl ?_
  refine g_cs (c1 := cap0 - cap0) (s1 := 2 * (cap0 - cap0)) ?_ (by omega) (by omega)
  exact g_lv (loop 13 f 0 bv0 cap0 bt0 0 ml0 (by omega) (by omega) (by omega) (by omega) (by omega) (by omega) (by omega) (by omega) (by omega) (by omega) hb0 (TI.zero Y f bt0)) [1, 0] rfl

