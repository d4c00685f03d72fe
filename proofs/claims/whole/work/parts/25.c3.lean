theorem ncap_bud (cap : Nat) (need : Int) : need ≤ cap ∨ (1 ≤ ncap cap need - cap ∧ 2 * cap + 2 ≤ 2 * (ncap cap need - cap)) := by
  unfold ncap
  by_cases h : need ≤ cap
  · exact Or.inl h
  · rw [if_neg h]; exact Or.inr (by omega)
def Jc (cap c : Nat) (T : Int) : Prop := c = cap ∨ (c = 2 * cap + 2 ∧ (cap : Int) < T)
theorem Jc.step {cap c : Nat} {T need : Int} (h : Jc cap c T) (hn : need ≤ T) (hT : T ≤ cap + 12) (c16 : 16 ≤ cap) : Jc cap (ncap c need) T ∧ c ≤ ncap c need ∧ ncap c need ≤ ncap cap T ∧ cap ≤ ncap c need ∧ need ≤ ncap c need := by
  unfold Jc at *
  unfold ncap
  rcases h with rfl | ⟨rfl, h2⟩
  · by_cases g : need ≤ c
    · rw [if_pos g]; split <;> exact ⟨Or.inl rfl, by omega, by omega, by omega, by omega⟩
    · rw [if_neg g, if_neg (by omega)]
      exact ⟨Or.inr ⟨rfl, by omega⟩, by omega, by omega, by omega, by omega⟩
  · rw [if_pos (by omega), if_neg (by omega)]
    exact ⟨Or.inr ⟨rfl, h2⟩, by omega, by omega, by omega, by omega⟩
theorem Jc.fin {cap c : Nat} {T : Int} (h : Jc cap c T) (hT : T ≤ c) : c = ncap cap T := by
  unfold ncap
  rcases h with rfl | ⟨rfl, h2⟩
  · rw [if_pos hT]
  · rw [if_neg (by omega)]
theorem ncap_300 {cap : Nat} {T : Int} (h : cap ≤ 300) (hT : T ≤ 146) : ncap cap T ≤ 300 := by
  unfold ncap
  split <;> omega
theorem Wr.step {cap : Nat} {bt b0 tf g : Int → Int} {k0 k L n : Int} {x : Nat × Nat × (Int → Int)} (h : AppP cap bt k n g x) (hk : k = k0 + L) (L0 : 0 ≤ L) (hp : ∀ j : Int, 0 ≤ j → j < k0 → bt j = b0 j) (k00 : 0 ≤ k0) (ht : ∀ i : Int, 0 ≤ i → i < L → bt (k0 + i) = tf i) (hg : ∀ i : Int, 0 ≤ i → i < n → tf (L + i) = g i) : (∀ j : Int, 0 ≤ j → j < k0 → x.2.2 j = b0 j) ∧ ∀ i : Int, 0 ≤ i → i < L + n → x.2.2 (k0 + i) = tf i := by
  subst hk
  refine ⟨fun j j0 j1 => (h.2.2.1 j j0 (by omega)).trans (hp j j0 j1), fun i i0 i1 => ?_⟩
  by_cases c : i < L
  · rw [h.2.2.1 _ (by omega) (by omega)]; exact ht i i0 c
  · have e := h.2.2.2 (i - L) (by omega) (by omega)
    rw [show k0 + L + (i - L) = k0 + i by omega] at e
    rw [e, ← hg (i - L) (by omega) (by omega)]
    congr 1
    omega
def sOnI : Int → Int := fun z => [32, 111, 110, 32].getD z.toNat 0
theorem sOn_rng : ∀ i : Int, 0 ≤ i → i < (4 : Nat) → 0 ≤ sOnI i ∧ sOnI i < 128 := by
  intro i i0 i1
  have : i = 0 ∨ i = 1 ∨ i = 2 ∨ i = 3 := by omega
  rcases this with rfl | rfl | rfl | rfl <;> decide
section CH
variable {Y : Nat → Int → Int} {f : Int}
theorem ch_1 : ∀ i : Int, 0 ≤ i → i < 1 → chF Y f (0 + i) = 102 := fun i i0 i1 => by unfold chF; rw [if_pos (by omega)]
theorem ch_2 : ∀ i : Int, 0 ≤ i → i < dgF f → chF Y f (0 + 1 + i) = dch f i := fun i i0 i1 => by unfold chF; rw [if_neg (by omega), if_pos (by omega)]; congr 1; omega
theorem ch_3 : ∀ i : Int, 0 ≤ i → i < 1 → chF Y f (0 + 1 + dgF f + i) = 42 := fun i i0 i1 => by have := dg_rng f; unfold chF; rw [if_neg (by omega), if_neg (by omega), if_pos (by omega), if_pos (by omega)]
theorem ch_4 (h0 : 0 ≤ Y 1 f) (h1 : Y 1 f < 10) : ∀ i : Int, 0 ≤ i → i < dgF (Y 1 f) → chF Y f (0 + 1 + dgF f + 1 + i) = dch (Y 1 f) i := fun i i0 i1 => by
  have hd : dgF (Y 1 f) = 1 := by unfold dgF; rw [if_pos h1]
  have := dg_rng f
  unfold chF dch
  rw [if_neg (by omega), if_neg (by omega), if_pos (by omega), if_neg (by omega), if_pos (by omega), if_neg (by omega)]
  omega
theorem ch_5 (hd : dgF (Y 1 f) = 1) {c : Int} (hc : (if Y 2 f < 0 then 45 else 43) = c) : ∀ i : Int, 0 ≤ i → i < 1 → chF Y f (0 + 1 + dgF f + 1 + dgF (Y 1 f) + i) = c := fun i i0 i1 => by have := dg_rng f; unfold chF; rw [if_neg (by omega), if_neg (by omega), if_pos (by omega), if_neg (by omega), if_neg (by omega)]; exact hc
theorem ch_6 (hd : dgF (Y 1 f) = 1) : ∀ i : Int, 0 ≤ i → i < dgF (abF (Y 2 f)) → chF Y f (0 + 1 + dgF f + 1 + dgF (Y 1 f) + 1 + i) = dch (abF (Y 2 f)) i := fun i i0 i1 => by have := dg_rng f; unfold chF; rw [if_neg (by omega), if_neg (by omega), if_neg (by omega), if_pos (by omega)]; congr 1; omega
theorem ch_7 (hd : dgF (Y 1 f) = 1) : ∀ i : Int, 0 ≤ i → i < (4 : Nat) → chF Y f (0 + 1 + dgF f + 1 + dgF (Y 1 f) + 1 + dgF (abF (Y 2 f)) + i) = sOnI i := fun i i0 i1 => by
  have h1 := dg_rng f
  have h2 := dg_rng (abF (Y 2 f))
  unfold chF
  rw [if_neg (by omega), if_neg (by omega), if_neg (by omega), if_neg (by omega)]
  have : i = 0 ∨ i = 1 ∨ i = 2 ∨ i = 3 := by omega
  rcases this with rfl | rfl | rfl | rfl
  · rw [if_neg (by omega), if_neg (by omega)]; rfl
  · rw [if_pos (by omega)]; rfl
  · rw [if_neg (by omega), if_pos (by omega)]; rfl
  · rw [if_neg (by omega), if_neg (by omega)]; rfl
end CH
theorem ab_alt (a : Int) : (if 0 ≤ a then a else 0 - a) = abF a := by
  unfold abF
  split <;> split <;> omega

set_option maxHeartbeats 4000000 in
set_option maxRecDepth 100000 in
/-- Fold.tellTo(text) -/
theorem c_X0_tellTo {C : WC} {l : Launch} (hfl : l.stackTraces = false) {ad : Nat → Nat} {bv cap : Nat} {bt : Int → Int} {cnt ml : Int} {E : Int × Nat} {F : Int × Nat × Nat} {S Y : Nat → Int → Int} {g : Int → Int} {R : va_W} {f : Int}  (hI : MI Y) (f0 : 0 ≤ f) (f2 : f < Y 3 0) (c16 : 16 ≤ cap) (c3 : cap ≤ 300) (k0 : 0 ≤ cnt) (k1 : cnt ≤ cap) (hb : Lat cap bt) (k9 : cnt + sgF Y f ≤ 146) : MM C l yX0_tellTo cX0_tellTo 2 none 5 (ncap cap (cnt + sgF Y f) - cap) (2 * (ncap cap (cnt + sgF Y f) - cap)) [.ref (fA ad f), .ref (ad 0)] (WW C ad (bv, cap, bt, cnt, ml) E F S Y g R) (fun v w => ∃ x : Nat × Nat × (Int → Int), AppP cap bt cnt (sgF Y f) (chF Y f) x ∧ v = none ∧ w = WW C ad (x.1, x.2.1, x.2.2, cnt + sgF Y f, ml) E F S Y g R) := by
  refine mm_of (by decide +kernel) (Nat.le_of_ble_eq_true rfl) hfl (fun K Q X r => ?_)
  have X : Cx C l "Springleaf$Fold" cX0_tellTo 2 5 (ncap cap (cnt + sgF Y f) - cap) (2 * (ncap cap (cnt + sgF Y f) - cap)) K := X
  have I3 := hI.1
  have I10 := hI.2.2.1
  have I12 := hI.2.2.2.2.1
  rcases (show f = 0 ∨ 1 ≤ f by omega) with e0 | f1
  · subst e0
    have hd0 : dgF 0 = 1 := rfl
    have hsg : sgF Y 0 = 2 := rfl
    have hT : cnt + sgF Y 0 ≤ cap + 12 := by omega
    have hM := ncap_300 c3 k9
    have jc0 : Jc cap cap (cnt + sgF Y 0) := Or.inl rfl
    show G C K Q 0 0 0 [(0, .ref (fA ad 0)), (1, .ref (ad 0))] [] (WW C ad (bv, cap, bt, cnt, ml) E F S Y g R)
    refine g_cs (c1 := cap - cap) (s1 := 2 * (cap - cap)) ?_ (by omega) (by omega)
    refine g_aload_n (t := 1) X dX0_tellTo_0 1 rfl rfl ?_
    refine g_bipush (t := 3) (z := 102) X dX0_tellTo_1 (by decide +kernel) rfl ?_
    obtain ⟨jc1, jl1, jm1, jn1, jo1⟩ := Jc.step jc0 (need := cnt + (1 : Int)) (by omega) hT c16
    refine g_callV (t := 6) (mc := ncap cap (cnt + (1 : Int)) - cap) (ms := 2 * (ncap cap (cnt + (1 : Int)) - cap)) (rest := []) X mt_J4_append_cf468 q4_168 q4_169 q4_170 0 rfl rfl (c_J4_append_cf468 (a := 102) (mc := (ncap cap (cnt + (1 : Int)) - cap)) (ms := (2 * (ncap cap (cnt + (1 : Int)) - cap))) hfl (by omega) (by omega) (by omega) (by omega) hb (by omega) (by omega) (by omega) (ncap_bud _ _)) (by decide) (by omega) (by omega) (Nat.le_of_ble_eq_true rfl) rfl rfl dX0_tellTo_3 rfl (k_ex (fun x hx => ?_))
    obtain ⟨bv1, cap1, bt1⟩ := x
    have e1 : cap1 = ncap cap (cnt + (1 : Int)) := hx.1
    rw [← e1] at jc1 jl1 jm1 jn1 jo1
    have hb1 : Lat cap1 bt1 := hx.2.1
    obtain ⟨hp1, ht1⟩ := Wr.step (k0 := cnt) (L := 0) (tf := chF Y 0) hx (by omega) (by omega) (fun _ _ _ => rfl) k0 (fun i i0 i1 => absurd i0 (by omega)) ch_1
    refine g_cs (c1 := cap1 - cap) (s1 := 2 * (cap1 - cap)) ?_ (by omega) (by omega)
    show G C K Q _ _ _ _ _ (WW C ad (bv1, cap1, bt1, cnt + (1 : Int), ml) E F S Y g R)
    refine g_aload_n (t := 7) X dX0_tellTo_6 0 rfl rfl ?_
    refine g_getf (t := 10) (v := vi 0) X inX0 _ (WW_f (i := 0) (by omega) (by omega)) rfl 0 (by decide) q1_102 rfl rfl dX0_tellTo_7 rfl ?_
    have hd2 := dg_rng 0
    obtain ⟨jc2, jl2, jm2, jn2, jo2⟩ := Jc.step jc1 (need := cnt + (1 : Int) + (dgF 0 : Int)) (by omega) hT c16
    refine g_callV (t := 13) (mc := ncap cap1 (cnt + (1 : Int) + (dgF 0 : Int)) - cap1) (ms := 2 * (ncap cap1 (cnt + (1 : Int) + (dgF 0 : Int)) - cap1)) (rest := []) X mt_J4_append_bf812 q4_188 q4_25 q4_26 0 rfl rfl (c_J4_append_bf812 (n := 0) (mc := (ncap cap1 (cnt + (1 : Int) + (dgF 0 : Int)) - cap1)) (ms := (2 * (ncap cap1 (cnt + (1 : Int) + (dgF 0 : Int)) - cap1))) hfl (by omega) (by omega) (by omega) (by omega) hb1 (by omega) (by omega) (by omega) (ncap_bud _ _)) (by decide) (by omega) (by omega) (Nat.le_of_ble_eq_true rfl) rfl rfl dX0_tellTo_10 rfl (k_ex (fun x hx => ?_))
    obtain ⟨bv2, cap2, bt2⟩ := x
    have e2 : cap2 = ncap cap1 (cnt + (1 : Int) + (dgF 0 : Int)) := hx.1
    rw [← e2] at jc2 jl2 jm2 jn2 jo2
    have hb2 : Lat cap2 bt2 := hx.2.1
    obtain ⟨hp2, ht2⟩ := Wr.step (k0 := cnt) (L := 0 + (1 : Int)) (tf := chF Y 0) hx (by omega) (by omega) hp1 k0 ht1 ch_2
    refine g_cs (c1 := cap2 - cap) (s1 := 2 * (cap2 - cap)) ?_ (by omega) (by omega)
    show G C K Q _ _ _ _ _ (WW C ad (bv2, cap2, bt2, cnt + (1 : Int) + (dgF 0 : Int), ml) E F S Y g R)
    refine g_pop (t := 14) X dX0_tellTo_13 rfl rfl ?_
    refine g_aload_n (t := 15) X dX0_tellTo_14 0 rfl rfl ?_
    refine g_getf (t := 18) (v := .null) X inX0 _ (WW_f (i := 0) (by omega) (by omega)) rfl 1 (by decide) q1_103 rfl (congrArg some (on_0 (by omega))) dX0_tellTo_15 rfl ?_
    refine g_ifnullN (t := 71) X dX0_tellTo_18 (by decide) ?_
    have eT : cnt + (1 : Int) + (dgF 0 : Int) = cnt + sgF Y 0 := by omega
    rw [eT]
    have eL : 0 + (1 : Int) + (dgF 0 : Int) = sgF Y 0 := by omega
    rw [eL] at ht2
    have eC := jc2.fin (by omega)
    exact g_vret X r ⟨(bv2, cap2, bt2), ⟨eC, hb2, hp2, ht2⟩, rfl, rfl⟩ (by omega) (by omega) dX0_tellTo_71
  · have hf := hI.2.1 f f1 f2
    have ha := ab_rng hI f1 f2
    have hda := dg_rng (abF (Y 2 f))
    have hdf := dg_rng f
    have hd1 : dgF (Y 1 f) = 1 := by unfold dgF; rw [if_pos (by omega)]
    have hsg : sgF Y f = 1 + dgF f + 2 + 1 + dgF (abF (Y 2 f)) + 4 := by unfold sgF; rw [if_neg (by omega)]
    have hT : cnt + sgF Y f ≤ cap + 12 := by omega
    have hM := ncap_300 c3 k9
    have jc0 : Jc cap cap (cnt + sgF Y f) := Or.inl rfl
    show G C K Q 0 0 0 [(0, .ref (fA ad f)), (1, .ref (ad 0))] [] (WW C ad (bv, cap, bt, cnt, ml) E F S Y g R)
    refine g_cs (c1 := cap - cap) (s1 := 2 * (cap - cap)) ?_ (by omega) (by omega)
    refine g_aload_n (t := 1) X dX0_tellTo_0 1 rfl rfl ?_
    refine g_bipush (t := 3) (z := 102) X dX0_tellTo_1 (by decide +kernel) rfl ?_
    obtain ⟨jc1, jl1, jm1, jn1, jo1⟩ := Jc.step jc0 (need := cnt + (1 : Int)) (by omega) hT c16
    refine g_callV (t := 6) (mc := ncap cap (cnt + (1 : Int)) - cap) (ms := 2 * (ncap cap (cnt + (1 : Int)) - cap)) (rest := []) X mt_J4_append_cf468 q4_168 q4_169 q4_170 0 rfl rfl (c_J4_append_cf468 (a := 102) (mc := (ncap cap (cnt + (1 : Int)) - cap)) (ms := (2 * (ncap cap (cnt + (1 : Int)) - cap))) hfl (by omega) (by omega) (by omega) (by omega) hb (by omega) (by omega) (by omega) (ncap_bud _ _)) (by decide) (by omega) (by omega) (Nat.le_of_ble_eq_true rfl) rfl rfl dX0_tellTo_3 rfl (k_ex (fun x hx => ?_))
    obtain ⟨bv1, cap1, bt1⟩ := x
    have e1 : cap1 = ncap cap (cnt + (1 : Int)) := hx.1
    rw [← e1] at jc1 jl1 jm1 jn1 jo1
    have hb1 : Lat cap1 bt1 := hx.2.1
    obtain ⟨hp1, ht1⟩ := Wr.step (k0 := cnt) (L := 0) (tf := chF Y f) hx (by omega) (by omega) (fun _ _ _ => rfl) k0 (fun i i0 i1 => absurd i0 (by omega)) ch_1
    refine g_cs (c1 := cap1 - cap) (s1 := 2 * (cap1 - cap)) ?_ (by omega) (by omega)
    show G C K Q _ _ _ _ _ (WW C ad (bv1, cap1, bt1, cnt + (1 : Int), ml) E F S Y g R)
    refine g_aload_n (t := 7) X dX0_tellTo_6 0 rfl rfl ?_
    refine g_getf (t := 10) (v := vi f) X inX0 _ (WW_f (i := f) (by omega) (by omega)) rfl 0 (by decide) q1_102 rfl rfl dX0_tellTo_7 rfl ?_
    have hd2 := dg_rng f
    obtain ⟨jc2, jl2, jm2, jn2, jo2⟩ := Jc.step jc1 (need := cnt + (1 : Int) + (dgF f : Int)) (by omega) hT c16
    refine g_callV (t := 13) (mc := ncap cap1 (cnt + (1 : Int) + (dgF f : Int)) - cap1) (ms := 2 * (ncap cap1 (cnt + (1 : Int) + (dgF f : Int)) - cap1)) (rest := []) X mt_J4_append_bf812 q4_188 q4_25 q4_26 0 rfl rfl (c_J4_append_bf812 (n := f) (mc := (ncap cap1 (cnt + (1 : Int) + (dgF f : Int)) - cap1)) (ms := (2 * (ncap cap1 (cnt + (1 : Int) + (dgF f : Int)) - cap1))) hfl (by omega) (by omega) (by omega) (by omega) hb1 (by omega) (by omega) (by omega) (ncap_bud _ _)) (by decide) (by omega) (by omega) (Nat.le_of_ble_eq_true rfl) rfl rfl dX0_tellTo_10 rfl (k_ex (fun x hx => ?_))
    obtain ⟨bv2, cap2, bt2⟩ := x
    have e2 : cap2 = ncap cap1 (cnt + (1 : Int) + (dgF f : Int)) := hx.1
    rw [← e2] at jc2 jl2 jm2 jn2 jo2
    have hb2 : Lat cap2 bt2 := hx.2.1
    obtain ⟨hp2, ht2⟩ := Wr.step (k0 := cnt) (L := 0 + (1 : Int)) (tf := chF Y f) hx (by omega) (by omega) hp1 k0 ht1 ch_2
    refine g_cs (c1 := cap2 - cap) (s1 := 2 * (cap2 - cap)) ?_ (by omega) (by omega)
    show G C K Q _ _ _ _ _ (WW C ad (bv2, cap2, bt2, cnt + (1 : Int) + (dgF f : Int), ml) E F S Y g R)
    refine g_pop (t := 14) X dX0_tellTo_13 rfl rfl ?_
    refine g_aload_n (t := 15) X dX0_tellTo_14 0 rfl rfl ?_
    refine g_getf (t := 18) (v := .ref (fA ad (Y 0 f))) X inX0 _ (WW_f (i := f) (by omega) (by omega)) rfl 1 (by decide) q1_103 rfl (congrArg some (on_p (by omega))) dX0_tellTo_15 rfl ?_
    refine g_ifnull (t := 21) X dX0_tellTo_18 rfl ?_
    refine g_aload_n (t := 22) X dX0_tellTo_21 1 rfl rfl ?_
    refine g_bipush (t := 24) (z := 42) X dX0_tellTo_22 (by decide +kernel) rfl ?_
    obtain ⟨jc3, jl3, jm3, jn3, jo3⟩ := Jc.step jc2 (need := cnt + (1 : Int) + (dgF f : Int) + (1 : Int)) (by omega) hT c16
    refine g_callV (t := 27) (mc := ncap cap2 (cnt + (1 : Int) + (dgF f : Int) + (1 : Int)) - cap2) (ms := 2 * (ncap cap2 (cnt + (1 : Int) + (dgF f : Int) + (1 : Int)) - cap2)) (rest := []) X mt_J4_append_cf468 q4_168 q4_169 q4_170 0 rfl rfl (c_J4_append_cf468 (a := 42) (mc := (ncap cap2 (cnt + (1 : Int) + (dgF f : Int) + (1 : Int)) - cap2)) (ms := (2 * (ncap cap2 (cnt + (1 : Int) + (dgF f : Int) + (1 : Int)) - cap2))) hfl (by omega) (by omega) (by omega) (by omega) hb2 (by omega) (by omega) (by omega) (ncap_bud _ _)) (by decide) (by omega) (by omega) (Nat.le_of_ble_eq_true rfl) rfl rfl dX0_tellTo_24 rfl (k_ex (fun x hx => ?_))
    obtain ⟨bv3, cap3, bt3⟩ := x
    have e3 : cap3 = ncap cap2 (cnt + (1 : Int) + (dgF f : Int) + (1 : Int)) := hx.1
    rw [← e3] at jc3 jl3 jm3 jn3 jo3
    have hb3 : Lat cap3 bt3 := hx.2.1
    obtain ⟨hp3, ht3⟩ := Wr.step (k0 := cnt) (L := 0 + (1 : Int) + (dgF f : Int)) (tf := chF Y f) hx (by omega) (by omega) hp2 k0 ht2 ch_3
    refine g_cs (c1 := cap3 - cap) (s1 := 2 * (cap3 - cap)) ?_ (by omega) (by omega)
    show G C K Q _ _ _ _ _ (WW C ad (bv3, cap3, bt3, cnt + (1 : Int) + (dgF f : Int) + (1 : Int), ml) E F S Y g R)
    refine g_aload_n (t := 28) X dX0_tellTo_27 0 rfl rfl ?_
    refine g_getf (t := 31) (v := vi (Y 1 f)) X inX0 _ (WW_f (i := f) (by omega) (by omega)) rfl 2 (by decide) q1_105 rfl rfl dX0_tellTo_28 rfl ?_
    have hd4 := dg_rng (Y 1 f)
    obtain ⟨jc4, jl4, jm4, jn4, jo4⟩ := Jc.step jc3 (need := cnt + (1 : Int) + (dgF f : Int) + (1 : Int) + (dgF (Y 1 f) : Int)) (by omega) hT c16
    refine g_callV (t := 34) (mc := ncap cap3 (cnt + (1 : Int) + (dgF f : Int) + (1 : Int) + (dgF (Y 1 f) : Int)) - cap3) (ms := 2 * (ncap cap3 (cnt + (1 : Int) + (dgF f : Int) + (1 : Int) + (dgF (Y 1 f) : Int)) - cap3)) (rest := []) X mt_J4_append_bf812 q4_188 q4_25 q4_26 0 rfl rfl (c_J4_append_bf812 (n := Y 1 f) (mc := (ncap cap3 (cnt + (1 : Int) + (dgF f : Int) + (1 : Int) + (dgF (Y 1 f) : Int)) - cap3)) (ms := (2 * (ncap cap3 (cnt + (1 : Int) + (dgF f : Int) + (1 : Int) + (dgF (Y 1 f) : Int)) - cap3))) hfl (by omega) (by omega) (by omega) (by omega) hb3 (by omega) (by omega) (by omega) (ncap_bud _ _)) (by decide) (by omega) (by omega) (Nat.le_of_ble_eq_true rfl) rfl rfl dX0_tellTo_31 rfl (k_ex (fun x hx => ?_))
    obtain ⟨bv4, cap4, bt4⟩ := x
    have e4 : cap4 = ncap cap3 (cnt + (1 : Int) + (dgF f : Int) + (1 : Int) + (dgF (Y 1 f) : Int)) := hx.1
    rw [← e4] at jc4 jl4 jm4 jn4 jo4
    have hb4 : Lat cap4 bt4 := hx.2.1
    obtain ⟨hp4, ht4⟩ := Wr.step (k0 := cnt) (L := 0 + (1 : Int) + (dgF f : Int) + (1 : Int)) (tf := chF Y f) hx (by omega) (by omega) hp3 k0 ht3 (ch_4 (by omega) (by omega))
    refine g_cs (c1 := cap4 - cap) (s1 := 2 * (cap4 - cap)) ?_ (by omega) (by omega)
    show G C K Q _ _ _ _ _ (WW C ad (bv4, cap4, bt4, cnt + (1 : Int) + (dgF f : Int) + (1 : Int) + (dgF (Y 1 f) : Int), ml) E F S Y g R)
    refine g_pop (t := 35) X dX0_tellTo_34 rfl rfl ?_
    refine g_aload_n (t := 36) X dX0_tellTo_35 1 rfl rfl ?_
    refine g_aload_n (t := 37) X dX0_tellTo_36 0 rfl rfl ?_
    refine g_getf (t := 40) (v := vi (Y 2 f)) X inX0 _ (WW_f (i := f) (by omega) (by omega)) rfl 3 (by decide) q1_106 rfl rfl dX0_tellTo_37 rfl ?_
    refine g_if_ge (t := 48) (u := 43) X dX0_tellTo_40 (by decide) rfl ⟨by omega, by omega⟩ (fun c_40 => ?_) (fun c_40 => ?_)
    · refine g_bipush (t := 50) (z := 43) X dX0_tellTo_48 (by decide +kernel) rfl ?_
      obtain ⟨jc5, jl5, jm5, jn5, jo5⟩ := Jc.step jc4 (need := cnt + (1 : Int) + (dgF f : Int) + (1 : Int) + (dgF (Y 1 f) : Int) + (1 : Int)) (by omega) hT c16
      refine g_callV (t := 53) (mc := ncap cap4 (cnt + (1 : Int) + (dgF f : Int) + (1 : Int) + (dgF (Y 1 f) : Int) + (1 : Int)) - cap4) (ms := 2 * (ncap cap4 (cnt + (1 : Int) + (dgF f : Int) + (1 : Int) + (dgF (Y 1 f) : Int) + (1 : Int)) - cap4)) (rest := []) X mt_J4_append_cf468 q4_168 q4_169 q4_170 0 rfl rfl (c_J4_append_cf468 (a := 43) (mc := (ncap cap4 (cnt + (1 : Int) + (dgF f : Int) + (1 : Int) + (dgF (Y 1 f) : Int) + (1 : Int)) - cap4)) (ms := (2 * (ncap cap4 (cnt + (1 : Int) + (dgF f : Int) + (1 : Int) + (dgF (Y 1 f) : Int) + (1 : Int)) - cap4))) hfl (by omega) (by omega) (by omega) (by omega) hb4 (by omega) (by omega) (by omega) (ncap_bud _ _)) (by decide) (by omega) (by omega) (Nat.le_of_ble_eq_true rfl) rfl rfl dX0_tellTo_50 rfl (k_ex (fun x hx => ?_))
      obtain ⟨bv5, cap5, bt5⟩ := x
      have e5 : cap5 = ncap cap4 (cnt + (1 : Int) + (dgF f : Int) + (1 : Int) + (dgF (Y 1 f) : Int) + (1 : Int)) := hx.1
      rw [← e5] at jc5 jl5 jm5 jn5 jo5
      have hb5 : Lat cap5 bt5 := hx.2.1
      obtain ⟨hp5, ht5⟩ := Wr.step (k0 := cnt) (L := 0 + (1 : Int) + (dgF f : Int) + (1 : Int) + (dgF (Y 1 f) : Int)) (tf := chF Y f) hx (by omega) (by omega) hp4 k0 ht4 (ch_5 hd1 (by first | rw [if_pos (by omega)] | rw [if_neg (by omega)]))
      refine g_cs (c1 := cap5 - cap) (s1 := 2 * (cap5 - cap)) ?_ (by omega) (by omega)
      show G C K Q _ _ _ _ _ (WW C ad (bv5, cap5, bt5, cnt + (1 : Int) + (dgF f : Int) + (1 : Int) + (dgF (Y 1 f) : Int) + (1 : Int), ml) E F S Y g R)
      refine g_aload_n (t := 54) X dX0_tellTo_53 0 rfl rfl ?_
      refine g_getf (t := 57) (v := vi (Y 2 f)) X inX0 _ (WW_f (i := f) (by omega) (by omega)) rfl 3 (by decide) q1_106 rfl rfl dX0_tellTo_54 rfl ?_
      refine g_mabs (t := 60) X q4_189 q2_33 q1_11 q2_34 (Nat.le_of_ble_eq_true rfl) (by omega) (by omega) ⟨by omega, by omega⟩ dX0_tellTo_57 rfl ?_
      rw [ab_alt]
      have hd6 := dg_rng (abF (Y 2 f))
      obtain ⟨jc6, jl6, jm6, jn6, jo6⟩ := Jc.step jc5 (need := cnt + (1 : Int) + (dgF f : Int) + (1 : Int) + (dgF (Y 1 f) : Int) + (1 : Int) + (dgF (abF (Y 2 f)) : Int)) (by omega) hT c16
      refine g_callV (t := 63) (mc := ncap cap5 (cnt + (1 : Int) + (dgF f : Int) + (1 : Int) + (dgF (Y 1 f) : Int) + (1 : Int) + (dgF (abF (Y 2 f)) : Int)) - cap5) (ms := 2 * (ncap cap5 (cnt + (1 : Int) + (dgF f : Int) + (1 : Int) + (dgF (Y 1 f) : Int) + (1 : Int) + (dgF (abF (Y 2 f)) : Int)) - cap5)) (rest := []) X mt_J4_append_bf812 q4_188 q4_25 q4_26 0 rfl rfl (c_J4_append_bf812 (n := abF (Y 2 f)) (mc := (ncap cap5 (cnt + (1 : Int) + (dgF f : Int) + (1 : Int) + (dgF (Y 1 f) : Int) + (1 : Int) + (dgF (abF (Y 2 f)) : Int)) - cap5)) (ms := (2 * (ncap cap5 (cnt + (1 : Int) + (dgF f : Int) + (1 : Int) + (dgF (Y 1 f) : Int) + (1 : Int) + (dgF (abF (Y 2 f)) : Int)) - cap5))) hfl (by omega) (by omega) (by omega) (by omega) hb5 (by omega) (by omega) (by omega) (ncap_bud _ _)) (by decide) (by omega) (by omega) (Nat.le_of_ble_eq_true rfl) rfl rfl dX0_tellTo_60 rfl (k_ex (fun x hx => ?_))
      obtain ⟨bv6, cap6, bt6⟩ := x
      have e6 : cap6 = ncap cap5 (cnt + (1 : Int) + (dgF f : Int) + (1 : Int) + (dgF (Y 1 f) : Int) + (1 : Int) + (dgF (abF (Y 2 f)) : Int)) := hx.1
      rw [← e6] at jc6 jl6 jm6 jn6 jo6
      have hb6 : Lat cap6 bt6 := hx.2.1
      obtain ⟨hp6, ht6⟩ := Wr.step (k0 := cnt) (L := 0 + (1 : Int) + (dgF f : Int) + (1 : Int) + (dgF (Y 1 f) : Int) + (1 : Int)) (tf := chF Y f) hx (by omega) (by omega) hp5 k0 ht5 (ch_6 hd1)
      refine g_cs (c1 := cap6 - cap) (s1 := 2 * (cap6 - cap)) ?_ (by omega) (by omega)
      show G C K Q _ _ _ _ _ (WW C ad (bv6, cap6, bt6, cnt + (1 : Int) + (dgF f : Int) + (1 : Int) + (dgF (Y 1 f) : Int) + (1 : Int) + (dgF (abF (Y 2 f)) : Int), ml) E F S Y g R)
      refine g_pop (t := 64) X dX0_tellTo_63 rfl rfl ?_
      refine g_aload_n (t := 65) X dX0_tellTo_64 1 rfl rfl ?_
      refine g_ldcS (t := 67) X (fun s H h => h.2.2.2.2.2.2.1.1) dX0_tellTo_65 rfl ?_
      obtain ⟨jc7, jl7, jm7, jn7, jo7⟩ := Jc.step jc6 (need := cnt + (1 : Int) + (dgF f : Int) + (1 : Int) + (dgF (Y 1 f) : Int) + (1 : Int) + (dgF (abF (Y 2 f)) : Int) + ((4 : Nat) : Int)) (by omega) hT c16
      refine g_callV (t := 70) (mc := ncap cap6 (cnt + (1 : Int) + (dgF f : Int) + (1 : Int) + (dgF (Y 1 f) : Int) + (1 : Int) + (dgF (abF (Y 2 f)) : Int) + ((4 : Nat) : Int)) - cap6) (ms := 2 * (ncap cap6 (cnt + (1 : Int) + (dgF f : Int) + (1 : Int) + (dgF (Y 1 f) : Int) + (1 : Int) + (dgF (abF (Y 2 f)) : Int) + ((4 : Nat) : Int)) - cap6)) (rest := []) X mt_J4_append_15ec4 q4_191 q3_160 q3_161 0 rfl rfl (c_J4_append_15ec4 (g := sOnI) (n := 4) (mc := (ncap cap6 (cnt + (1 : Int) + (dgF f : Int) + (1 : Int) + (dgF (Y 1 f) : Int) + (1 : Int) + (dgF (abF (Y 2 f)) : Int) + ((4 : Nat) : Int)) - cap6)) (ms := (2 * (ncap cap6 (cnt + (1 : Int) + (dgF f : Int) + (1 : Int) + (dgF (Y 1 f) : Int) + (1 : Int) + (dgF (abF (Y 2 f)) : Int) + ((4 : Nat) : Int)) - cap6))) hfl (fun s H h => h.2.2.2.2.2.2.1) (by omega) sOn_rng (by omega) (by omega) (by omega) (by omega) hb6 (by omega) (ncap_bud _ _)) (by decide) (by omega) (by omega) (Nat.le_of_ble_eq_true rfl) rfl rfl dX0_tellTo_67 rfl (k_ex (fun x hx => ?_))
      obtain ⟨bv7, cap7, bt7⟩ := x
      have e7 : cap7 = ncap cap6 (cnt + (1 : Int) + (dgF f : Int) + (1 : Int) + (dgF (Y 1 f) : Int) + (1 : Int) + (dgF (abF (Y 2 f)) : Int) + ((4 : Nat) : Int)) := hx.1
      rw [← e7] at jc7 jl7 jm7 jn7 jo7
      have hb7 : Lat cap7 bt7 := hx.2.1
      obtain ⟨hp7, ht7⟩ := Wr.step (k0 := cnt) (L := 0 + (1 : Int) + (dgF f : Int) + (1 : Int) + (dgF (Y 1 f) : Int) + (1 : Int) + (dgF (abF (Y 2 f)) : Int)) (tf := chF Y f) hx (by omega) (by omega) hp6 k0 ht6 (ch_7 hd1)
      refine g_cs (c1 := cap7 - cap) (s1 := 2 * (cap7 - cap)) ?_ (by omega) (by omega)
      show G C K Q _ _ _ _ _ (WW C ad (bv7, cap7, bt7, cnt + (1 : Int) + (dgF f : Int) + (1 : Int) + (dgF (Y 1 f) : Int) + (1 : Int) + (dgF (abF (Y 2 f)) : Int) + ((4 : Nat) : Int), ml) E F S Y g R)
      refine g_pop (t := 71) X dX0_tellTo_70 rfl rfl ?_
      have eT : cnt + (1 : Int) + (dgF f : Int) + (1 : Int) + (dgF (Y 1 f) : Int) + (1 : Int) + (dgF (abF (Y 2 f)) : Int) + ((4 : Nat) : Int) = cnt + sgF Y f := by omega
      rw [eT]
      have eL : 0 + (1 : Int) + (dgF f : Int) + (1 : Int) + (dgF (Y 1 f) : Int) + (1 : Int) + (dgF (abF (Y 2 f)) : Int) + ((4 : Nat) : Int) = sgF Y f := by omega
      rw [eL] at ht7
      have eC := jc7.fin (by omega)
      exact g_vret X r ⟨(bv7, cap7, bt7), ⟨eC, hb7, hp7, ht7⟩, rfl, rfl⟩ (by omega) (by omega) dX0_tellTo_71
    · refine g_bipush (t := 45) (z := 45) X dX0_tellTo_43 (by decide +kernel) rfl ?_
      refine g_goto (t := 50) X dX0_tellTo_45 (by decide) ?_
      obtain ⟨jc5, jl5, jm5, jn5, jo5⟩ := Jc.step jc4 (need := cnt + (1 : Int) + (dgF f : Int) + (1 : Int) + (dgF (Y 1 f) : Int) + (1 : Int)) (by omega) hT c16
      refine g_callV (t := 53) (mc := ncap cap4 (cnt + (1 : Int) + (dgF f : Int) + (1 : Int) + (dgF (Y 1 f) : Int) + (1 : Int)) - cap4) (ms := 2 * (ncap cap4 (cnt + (1 : Int) + (dgF f : Int) + (1 : Int) + (dgF (Y 1 f) : Int) + (1 : Int)) - cap4)) (rest := []) X mt_J4_append_cf468 q4_168 q4_169 q4_170 0 rfl rfl (c_J4_append_cf468 (a := 45) (mc := (ncap cap4 (cnt + (1 : Int) + (dgF f : Int) + (1 : Int) + (dgF (Y 1 f) : Int) + (1 : Int)) - cap4)) (ms := (2 * (ncap cap4 (cnt + (1 : Int) + (dgF f : Int) + (1 : Int) + (dgF (Y 1 f) : Int) + (1 : Int)) - cap4))) hfl (by omega) (by omega) (by omega) (by omega) hb4 (by omega) (by omega) (by omega) (ncap_bud _ _)) (by decide) (by omega) (by omega) (Nat.le_of_ble_eq_true rfl) rfl rfl dX0_tellTo_50 rfl (k_ex (fun x hx => ?_))
      obtain ⟨bv5, cap5, bt5⟩ := x
      have e5 : cap5 = ncap cap4 (cnt + (1 : Int) + (dgF f : Int) + (1 : Int) + (dgF (Y 1 f) : Int) + (1 : Int)) := hx.1
      rw [← e5] at jc5 jl5 jm5 jn5 jo5
      have hb5 : Lat cap5 bt5 := hx.2.1
      obtain ⟨hp5, ht5⟩ := Wr.step (k0 := cnt) (L := 0 + (1 : Int) + (dgF f : Int) + (1 : Int) + (dgF (Y 1 f) : Int)) (tf := chF Y f) hx (by omega) (by omega) hp4 k0 ht4 (ch_5 hd1 (by first | rw [if_pos (by omega)] | rw [if_neg (by omega)]))
      refine g_cs (c1 := cap5 - cap) (s1 := 2 * (cap5 - cap)) ?_ (by omega) (by omega)
      show G C K Q _ _ _ _ _ (WW C ad (bv5, cap5, bt5, cnt + (1 : Int) + (dgF f : Int) + (1 : Int) + (dgF (Y 1 f) : Int) + (1 : Int), ml) E F S Y g R)
      refine g_aload_n (t := 54) X dX0_tellTo_53 0 rfl rfl ?_
      refine g_getf (t := 57) (v := vi (Y 2 f)) X inX0 _ (WW_f (i := f) (by omega) (by omega)) rfl 3 (by decide) q1_106 rfl rfl dX0_tellTo_54 rfl ?_
      refine g_mabs (t := 60) X q4_189 q2_33 q1_11 q2_34 (Nat.le_of_ble_eq_true rfl) (by omega) (by omega) ⟨by omega, by omega⟩ dX0_tellTo_57 rfl ?_
      rw [ab_alt]
      have hd6 := dg_rng (abF (Y 2 f))
      obtain ⟨jc6, jl6, jm6, jn6, jo6⟩ := Jc.step jc5 (need := cnt + (1 : Int) + (dgF f : Int) + (1 : Int) + (dgF (Y 1 f) : Int) + (1 : Int) + (dgF (abF (Y 2 f)) : Int)) (by omega) hT c16
      refine g_callV (t := 63) (mc := ncap cap5 (cnt + (1 : Int) + (dgF f : Int) + (1 : Int) + (dgF (Y 1 f) : Int) + (1 : Int) + (dgF (abF (Y 2 f)) : Int)) - cap5) (ms := 2 * (ncap cap5 (cnt + (1 : Int) + (dgF f : Int) + (1 : Int) + (dgF (Y 1 f) : Int) + (1 : Int) + (dgF (abF (Y 2 f)) : Int)) - cap5)) (rest := []) X mt_J4_append_bf812 q4_188 q4_25 q4_26 0 rfl rfl (c_J4_append_bf812 (n := abF (Y 2 f)) (mc := (ncap cap5 (cnt + (1 : Int) + (dgF f : Int) + (1 : Int) + (dgF (Y 1 f) : Int) + (1 : Int) + (dgF (abF (Y 2 f)) : Int)) - cap5)) (ms := (2 * (ncap cap5 (cnt + (1 : Int) + (dgF f : Int) + (1 : Int) + (dgF (Y 1 f) : Int) + (1 : Int) + (dgF (abF (Y 2 f)) : Int)) - cap5))) hfl (by omega) (by omega) (by omega) (by omega) hb5 (by omega) (by omega) (by omega) (ncap_bud _ _)) (by decide) (by omega) (by omega) (Nat.le_of_ble_eq_true rfl) rfl rfl dX0_tellTo_60 rfl (k_ex (fun x hx => ?_))
      obtain ⟨bv6, cap6, bt6⟩ := x
      have e6 : cap6 = ncap cap5 (cnt + (1 : Int) + (dgF f : Int) + (1 : Int) + (dgF (Y 1 f) : Int) + (1 : Int) + (dgF (abF (Y 2 f)) : Int)) := hx.1
      rw [← e6] at jc6 jl6 jm6 jn6 jo6
      have hb6 : Lat cap6 bt6 := hx.2.1
      obtain ⟨hp6, ht6⟩ := Wr.step (k0 := cnt) (L := 0 + (1 : Int) + (dgF f : Int) + (1 : Int) + (dgF (Y 1 f) : Int) + (1 : Int)) (tf := chF Y f) hx (by omega) (by omega) hp5 k0 ht5 (ch_6 hd1)
      refine g_cs (c1 := cap6 - cap) (s1 := 2 * (cap6 - cap)) ?_ (by omega) (by omega)
      show G C K Q _ _ _ _ _ (WW C ad (bv6, cap6, bt6, cnt + (1 : Int) + (dgF f : Int) + (1 : Int) + (dgF (Y 1 f) : Int) + (1 : Int) + (dgF (abF (Y 2 f)) : Int), ml) E F S Y g R)
      refine g_pop (t := 64) X dX0_tellTo_63 rfl rfl ?_
      refine g_aload_n (t := 65) X dX0_tellTo_64 1 rfl rfl ?_
      refine g_ldcS (t := 67) X (fun s H h => h.2.2.2.2.2.2.1.1) dX0_tellTo_65 rfl ?_
      obtain ⟨jc7, jl7, jm7, jn7, jo7⟩ := Jc.step jc6 (need := cnt + (1 : Int) + (dgF f : Int) + (1 : Int) + (dgF (Y 1 f) : Int) + (1 : Int) + (dgF (abF (Y 2 f)) : Int) + ((4 : Nat) : Int)) (by omega) hT c16
      refine g_callV (t := 70) (mc := ncap cap6 (cnt + (1 : Int) + (dgF f : Int) + (1 : Int) + (dgF (Y 1 f) : Int) + (1 : Int) + (dgF (abF (Y 2 f)) : Int) + ((4 : Nat) : Int)) - cap6) (ms := 2 * (ncap cap6 (cnt + (1 : Int) + (dgF f : Int) + (1 : Int) + (dgF (Y 1 f) : Int) + (1 : Int) + (dgF (abF (Y 2 f)) : Int) + ((4 : Nat) : Int)) - cap6)) (rest := []) X mt_J4_append_15ec4 q4_191 q3_160 q3_161 0 rfl rfl (c_J4_append_15ec4 (g := sOnI) (n := 4) (mc := (ncap cap6 (cnt + (1 : Int) + (dgF f : Int) + (1 : Int) + (dgF (Y 1 f) : Int) + (1 : Int) + (dgF (abF (Y 2 f)) : Int) + ((4 : Nat) : Int)) - cap6)) (ms := (2 * (ncap cap6 (cnt + (1 : Int) + (dgF f : Int) + (1 : Int) + (dgF (Y 1 f) : Int) + (1 : Int) + (dgF (abF (Y 2 f)) : Int) + ((4 : Nat) : Int)) - cap6))) hfl (fun s H h => h.2.2.2.2.2.2.1) (by omega) sOn_rng (by omega) (by omega) (by omega) (by omega) hb6 (by omega) (ncap_bud _ _)) (by decide) (by omega) (by omega) (Nat.le_of_ble_eq_true rfl) rfl rfl dX0_tellTo_67 rfl (k_ex (fun x hx => ?_))
      obtain ⟨bv7, cap7, bt7⟩ := x
      have e7 : cap7 = ncap cap6 (cnt + (1 : Int) + (dgF f : Int) + (1 : Int) + (dgF (Y 1 f) : Int) + (1 : Int) + (dgF (abF (Y 2 f)) : Int) + ((4 : Nat) : Int)) := hx.1
      rw [← e7] at jc7 jl7 jm7 jn7 jo7
      have hb7 : Lat cap7 bt7 := hx.2.1
      obtain ⟨hp7, ht7⟩ := Wr.step (k0 := cnt) (L := 0 + (1 : Int) + (dgF f : Int) + (1 : Int) + (dgF (Y 1 f) : Int) + (1 : Int) + (dgF (abF (Y 2 f)) : Int)) (tf := chF Y f) hx (by omega) (by omega) hp6 k0 ht6 (ch_7 hd1)
      refine g_cs (c1 := cap7 - cap) (s1 := 2 * (cap7 - cap)) ?_ (by omega) (by omega)
      show G C K Q _ _ _ _ _ (WW C ad (bv7, cap7, bt7, cnt + (1 : Int) + (dgF f : Int) + (1 : Int) + (dgF (Y 1 f) : Int) + (1 : Int) + (dgF (abF (Y 2 f)) : Int) + ((4 : Nat) : Int), ml) E F S Y g R)
      refine g_pop (t := 71) X dX0_tellTo_70 rfl rfl ?_
      have eT : cnt + (1 : Int) + (dgF f : Int) + (1 : Int) + (dgF (Y 1 f) : Int) + (1 : Int) + (dgF (abF (Y 2 f)) : Int) + ((4 : Nat) : Int) = cnt + sgF Y f := by omega
      rw [eT]
      have eL : 0 + (1 : Int) + (dgF f : Int) + (1 : Int) + (dgF (Y 1 f) : Int) + (1 : Int) + (dgF (abF (Y 2 f)) : Int) + ((4 : Nat) : Int) = sgF Y f := by omega
      rw [eL] at ht7
      have eC := jc7.fin (by omega)
      exact g_vret X r ⟨(bv7, cap7, bt7), ⟨eC, hb7, hp7, ht7⟩, rfl, rfl⟩ (by omega) (by omega) dX0_tellTo_71

