section MIx
variable {Y : Nat → Int → Int}
theorem MI.fold (h : MI Y) {f x y : Int} (hf : 0 ≤ f ∧ f < Y 3 0) (hx : 1 ≤ x ∧ x ≤ 8) (hy : -90 ≤ y ∧ y ≤ 90) (hn : Y 3 0 ≠ 12) : MI (u2 (u2 (u2 (u2 Y 0 (Y 3 0) f) 1 (Y 3 0) x) 2 (Y 3 0) y) 3 0 (Y 3 0 + 1)) := by
  obtain ⟨h1, h2, h3, h4, h5, h6, h7, h8⟩ := h
  refine ⟨⟨show 1 ≤ Y 3 0 + 1 by omega, show Y 3 0 + 1 ≤ 12 by omega⟩, fun g g1 g2 => ?_, h3, fun p p0 p1 => ?_, h5, h6, h7, ?_⟩
  · have g2 : g < Y 3 0 + 1 := g2
    show 0 ≤ uI (Y 0) (Y 3 0) f g ∧ uI (Y 0) (Y 3 0) f g < g ∧ 1 ≤ uI (Y 1) (Y 3 0) x g ∧ uI (Y 1) (Y 3 0) x g ≤ 8 ∧ -90 ≤ uI (Y 2) (Y 3 0) y g ∧ uI (Y 2) (Y 3 0) y g ≤ 90
    by_cases e : g = Y 3 0
    · subst e; rw [uI_s, uI_s, uI_s]; exact ⟨hf.1, hf.2, hx.1, hx.2, hy.1, hy.2⟩
    · rw [uI_n _ _ e, uI_n _ _ e, uI_n _ _ e]; exact h2 g g1 (by omega)
  · have := h4 p p0 p1
    refine ⟨⟨this.1.1, ?_⟩, this.2⟩
    show Y 4 p < Y 3 0 + 1
    omega
  · show uI (Y 0) (Y 3 0) f 0 = 0
    rw [uI_n _ _ (by omega)]; exact h8
theorem MI.part (h : MI Y) {f x y z u e : Int} (hf : 0 ≤ f ∧ f < Y 3 0) (hx : 0 ≤ x ∧ x ≤ 60) (hy : 1 ≤ y ∧ y ≤ 30) (hz : 0 ≤ z ∧ z ≤ 20) (hu : 1 ≤ u ∧ u ≤ 10) (he : e = 0 ∨ e = 1) (hn : Y 10 0 ≠ 16) : MI (YP Y f x y z u e) := by
  obtain ⟨h1, h2, h3, h4, h5, h6, h7, h8⟩ := h
  refine ⟨h1, h2, ⟨show 0 ≤ Y 10 0 + 1 by omega, show Y 10 0 + 1 ≤ 16 by omega⟩, fun p p0 p1 => ?_, ⟨h5.1, show Y 12 0 ≤ Y 10 0 + 1 by omega⟩, fun k k0 k1 => ?_, h7, h8⟩
  · have p1 : p < Y 10 0 + 1 := p1
    show (0 ≤ uI (Y 4) (Y 10 0) f p ∧ uI (Y 4) (Y 10 0) f p < Y 3 0) ∧ (0 ≤ uI (Y 5) (Y 10 0) x p ∧ uI (Y 5) (Y 10 0) x p ≤ 60) ∧ (1 ≤ uI (Y 6) (Y 10 0) y p ∧ uI (Y 6) (Y 10 0) y p ≤ 30) ∧ (0 ≤ uI (Y 7) (Y 10 0) z p ∧ uI (Y 7) (Y 10 0) z p ≤ 20) ∧ (1 ≤ uI (Y 8) (Y 10 0) u p ∧ uI (Y 8) (Y 10 0) u p ≤ 10) ∧ (uI (Y 9) (Y 10 0) e p = 0 ∨ uI (Y 9) (Y 10 0) e p = 1)
    by_cases c : p = Y 10 0
    · subst c; rw [uI_s, uI_s, uI_s, uI_s, uI_s, uI_s]; exact ⟨hf, hx, hy, hz, hu, he⟩
    · rw [uI_n _ _ c, uI_n _ _ c, uI_n _ _ c, uI_n _ _ c, uI_n _ _ c, uI_n _ _ c]; exact h4 p p0 (by omega)
  · have := h6 k k0 k1
    refine ⟨this.1, ?_⟩
    show Y 11 k < Y 10 0 + 1
    omega
theorem stp_ng {ord : Int → Int} {p : Int} : ∀ n : Nat, stp ord p n < 0 → ∀ i : Int, 0 ≤ i → i < (n : Int) → ord i ≠ p := by
  intro n
  induction n with
  | zero => intro _ i i0 i1; omega
  | succ n ih =>
    intro h i i0 i1
    simp only [stp] at h
    by_cases c : ord n = p
    · rw [if_pos c] at h; omega
    · rw [if_neg c] at h
      rcases Int.lt_or_eq_of_le (show i ≤ n by omega) with q | q
      · exact ih h i i0 q
      · subst q; exact c
theorem MI.glue (h : MI Y) {p : Int} (p0 : 0 ≤ p) (p1 : p < Y 10 0) (hs : stepF Y p < 0) : MI (u2 (u2 Y 11 (Y 12 0) p) 12 0 (Y 12 0 + 1)) := by
  have hlt := glue_lt h p0 p1 hs
  have hno := stp_ng _ hs
  obtain ⟨h1, h2, h3, h4, h5, h6, h7, h8⟩ := h
  refine ⟨h1, h2, h3, h4, ⟨show 0 ≤ Y 12 0 + 1 by omega, show Y 12 0 + 1 ≤ Y 10 0 by omega⟩, fun k k0 k1 => ?_, fun i j i0 ij j1 => ?_, h8⟩
  · have k1 : k < Y 12 0 + 1 := k1
    show 0 ≤ uI (Y 11) (Y 12 0) p k ∧ uI (Y 11) (Y 12 0) p k < Y 10 0
    by_cases c : k = Y 12 0
    · subst c; rw [uI_s]; exact ⟨p0, p1⟩
    · rw [uI_n _ _ c]; exact h6 k k0 (by omega)
  · have j1 : j < Y 12 0 + 1 := j1
    show uI (Y 11) (Y 12 0) p i ≠ uI (Y 11) (Y 12 0) p j
    by_cases c : j = Y 12 0
    · subst c; rw [uI_s, uI_n _ _ (by omega)]; exact hno i i0 (by omega)
    · rw [uI_n _ _ c, uI_n _ _ (by omega)]; exact h7 i j i0 ij (by omega)
end MIx
section KP
variable {C : WC} {K : GK} {Q : State → Prop} {cells slots t : Nat} {lv : List (Nat × Value)} {rest : List Value} {A B D P : Prop} {res : Int} {wf : Int → (Int → Int) → va_W} {wg : (Int → Int) → va_W}
theorem k_pu3_0 (hA : A) (hB : B) (hD : D) (h : ∀ W, G C K Q cells slots t lv (vi res :: rest) (wg W)) : ∀ (v : Option Value) (ws1 : va_W), pu3 A B D res wf wg v ws1 → G C K Q cells slots t lv (v.toList ++ rest) ws1 := by
  rintro _ _ ⟨z, W, rfl, ⟨h1, rfl⟩ | ⟨h1, h2, rfl⟩ | ⟨h1, h2, h3, rfl⟩ | ⟨h1, h2, h3, rfl, rfl⟩⟩
  · exact absurd hA h1
  · exact absurd hB h2
  · exact absurd hD h3
  · exact h W
theorem k_pu3_1 (hA : ¬ A) (h : ∀ z W, G C K Q cells slots t lv (vi z :: rest) (wf 1 W)) : ∀ (v : Option Value) (ws1 : va_W), pu3 A B D res wf wg v ws1 → G C K Q cells slots t lv (v.toList ++ rest) ws1 := by
  rintro _ _ ⟨z, W, rfl, ⟨h1, rfl⟩ | ⟨h1, h2, rfl⟩ | ⟨h1, h2, h3, rfl⟩ | ⟨h1, h2, h3, rfl, rfl⟩⟩
  · exact h z W
  · exact absurd h1 hA
  · exact absurd h1 hA
  · exact absurd h1 hA
theorem k_pu3_2 (hB : ¬ B) (hA : A) (h : ∀ z W, G C K Q cells slots t lv (vi z :: rest) (wf 2 W)) : ∀ (v : Option Value) (ws1 : va_W), pu3 A B D res wf wg v ws1 → G C K Q cells slots t lv (v.toList ++ rest) ws1 := by
  rintro _ _ ⟨z, W, rfl, ⟨h1, rfl⟩ | ⟨h1, h2, rfl⟩ | ⟨h1, h2, h3, rfl⟩ | ⟨h1, h2, h3, rfl, rfl⟩⟩
  · exact absurd hA h1
  · exact h z W
  · exact absurd h2 hB
  · exact absurd h2 hB
theorem k_pu3_3 (hD : ¬ D) (hA : A) (hB : B) (h : ∀ z W, G C K Q cells slots t lv (vi z :: rest) (wf 3 W)) : ∀ (v : Option Value) (ws1 : va_W), pu3 A B D res wf wg v ws1 → G C K Q cells slots t lv (v.toList ++ rest) ws1 := by
  rintro _ _ ⟨z, W, rfl, ⟨h1, rfl⟩ | ⟨h1, h2, rfl⟩ | ⟨h1, h2, h3, rfl⟩ | ⟨h1, h2, h3, rfl, rfl⟩⟩
  · exact absurd hA h1
  · exact absurd hB h2
  · exact h z W
  · exact absurd h3 hD
theorem k_pu2_0 (hA : A) (hB : B) (h : ∀ W, G C K Q cells slots t lv (vi res :: rest) (wg W)) : ∀ (v : Option Value) (ws1 : va_W), pu2 A B res wf wg v ws1 → G C K Q cells slots t lv (v.toList ++ rest) ws1 := by
  rintro _ _ ⟨z, W, rfl, ⟨h1, rfl⟩ | ⟨h1, h2, rfl⟩ | ⟨h1, h2, rfl, rfl⟩⟩
  · exact absurd hA h1
  · exact absurd hB h2
  · exact h W
theorem k_pu2_1 (hA : ¬ A) (h : ∀ z W, G C K Q cells slots t lv (vi z :: rest) (wf 1 W)) : ∀ (v : Option Value) (ws1 : va_W), pu2 A B res wf wg v ws1 → G C K Q cells slots t lv (v.toList ++ rest) ws1 := by
  rintro _ _ ⟨z, W, rfl, ⟨h1, rfl⟩ | ⟨h1, h2, rfl⟩ | ⟨h1, h2, rfl, rfl⟩⟩
  · exact h z W
  · exact absurd h1 hA
  · exact absurd h1 hA
theorem k_pu2_2 (hB : ¬ B) (hA : A) (h : ∀ z W, G C K Q cells slots t lv (vi z :: rest) (wf 2 W)) : ∀ (v : Option Value) (ws1 : va_W), pu2 A B res wf wg v ws1 → G C K Q cells slots t lv (v.toList ++ rest) ws1 := by
  rintro _ _ ⟨z, W, rfl, ⟨h1, rfl⟩ | ⟨h1, h2, rfl⟩ | ⟨h1, h2, rfl, rfl⟩⟩
  · exact absurd hA h1
  · exact h z W
  · exact absurd h2 hB
theorem k_pu1_0 (hA : A) (h : ∀ W, G C K Q cells slots t lv (vi res :: rest) (wg W)) : ∀ (v : Option Value) (ws1 : va_W), pu1 A res wf wg v ws1 → G C K Q cells slots t lv (v.toList ++ rest) ws1 := by
  rintro _ _ ⟨z, W, rfl, ⟨h1, rfl⟩ | ⟨h1, rfl, rfl⟩⟩
  · exact absurd hA h1
  · exact h W
theorem k_pu1_1 (hA : ¬ A) (h : ∀ z W, G C K Q cells slots t lv (vi z :: rest) (wf 1 W)) : ∀ (v : Option Value) (ws1 : va_W), pu1 A res wf wg v ws1 → G C K Q cells slots t lv (v.toList ++ rest) ws1 := by
  rintro _ _ ⟨z, W, rfl, ⟨h1, rfl⟩ | ⟨h1, rfl, rfl⟩⟩
  · exact h z W
  · exact absurd h1 hA
/-- a wrapper's answer, told apart -/
theorem k_lw {w0 : (Nat → Int → Int) → va_W} {Wg : (Nat → Int64) → va_W → Prop} (h1 : ¬ A → ∀ Z, G C K Q cells slots t lv (vi 1 :: rest) (w0 Z)) (h2 : A → ¬ B → ∀ Z, G C K Q cells slots t lv (vi 2 :: rest) (w0 Z)) (h3 : A → B → ¬ D → ∀ Z, G C K Q cells slots t lv (vi 3 :: rest) (w0 Z)) (h0 : A → B → D → ∀ g' : Nat → Int64, g' 0 = (iZ res).toInt64 → ∀ w, Wg g' w → G C K Q cells slots t lv (vi 0 :: rest) w) : ∀ (v : Option Value) (ws1 : va_W), lwP A B D res w0 Wg v ws1 → G C K Q cells slots t lv (v.toList ++ rest) ws1 := by
  rintro _ w ⟨z, rfl, ⟨rfl, a, Z, rfl⟩ | ⟨rfl, a, b, Z, rfl⟩ | ⟨rfl, a, b, c, Z, rfl⟩ | ⟨rfl, a, b, c, g', e, hw⟩⟩
  · exact h1 a Z
  · exact h2 a b Z
  · exact h3 a b c Z
  · exact h0 a b c g' e w hw
theorem k_rbq1 {wf : (Int → Int) → va_W} (hP : P) (h : ∀ W, G C K Q cells slots t lv (vi 1 :: rest) (wf W)) : ∀ (v : Option Value) (ws1 : va_W), rbq P wf v ws1 → G C K Q cells slots t lv (v.toList ++ rest) ws1 := by
  rintro _ _ ⟨⟨W, rfl⟩, ⟨_, rfl⟩ | ⟨hn, rfl⟩⟩
  · exact h W
  · exact absurd hP hn
theorem k_rbq0 {wf : (Int → Int) → va_W} (hP : ¬ P) (h : ∀ W, G C K Q cells slots t lv (vi 0 :: rest) (wf W)) : ∀ (v : Option Value) (ws1 : va_W), rbq P wf v ws1 → G C K Q cells slots t lv (v.toList ++ rest) ws1 := by
  rintro _ _ ⟨⟨W, rfl⟩, ⟨hn, rfl⟩ | ⟨_, rfl⟩⟩
  · exact absurd hn hP
  · exact h W
end KP
