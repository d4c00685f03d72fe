/-- as mm_of, for a method of any class -/
theorem mf_of {C : WC} {l : Launch} {y : MethodName} {cc : ByteArray} {maxL : Nat} {ret : Option FieldType} {d mc ms : Nat} {av : List Value} {ws : va_W} {post : Option Value → va_W → Prop} (hy : plainFor y = true) (hlen : (lg_sl av).length ≤ maxL) (hfl : l.stackTraces = false)
    (body : ∀ (K : GK) (Q : State → Prop), Cx C l y.cls cc maxL d mc ms K → Rt C ret post mc ms Q K → G C K Q 0 0 0 (lv_args 0 av) [] ws) : MM C l y cc maxL ret d mc ms av ws post := by
  refine va_MetF (cc := cc) (maxL := maxL) (ret := ret) hy rfl ?_
  intro p e s m args below meth c s₁ B hml hv
  obtain ⟨rfl, h1, h2, h3, h4, h5, h6⟩ := hv
  have hl := lv_entry av hlen
  rw [lg_entry_eq]
  exact body (p, l, e, _, s, m, av.toArray, below, meth, c, maxL) _ ⟨rfl, rfl, B.exec, B.bytes, hml, findClass_of_methodNamed B.named, h5, h4, h1, h6, B.notSynchronized, hfl, Nat.le_refl _, Nat.le_refl _, Nat.le_refl _, Nat.le_refl _⟩ ⟨B.returns, fun _ _ _ h => h⟩ _ _ _ h2 h3 va_S.rf hl
theorem stp_none {ord : Int → Int} {p : Int} : ∀ n : Nat, (∀ i : Int, 0 ≤ i → i < (n : Int) → ord i ≠ p) → stp ord p n = -1 := by
  intro n
  induction n with
  | zero => intro _; rfl
  | succ n ih =>
    intro h
    simp only [stp]
    rw [if_neg (h n (by omega) (by omega))]
    exact ih (fun i i0 i1 => h i i0 (by omega))
theorem stp_at {ord : Int → Int} {p k : Int} (k0 : 0 ≤ k) (hk : ord k = p) : ∀ n : Nat, k < n → (∀ i : Int, 0 ≤ i → i < (n : Int) → ord i = p → i = k) → stp ord p n = k := by
  intro n
  induction n with
  | zero => intro h; omega
  | succ n ih =>
    intro h hu
    simp only [stp]
    by_cases e : ord n = p
    · rw [if_pos e]; exact hu n (by omega) (by omega) e
    · rw [if_neg e]
      have : k ≠ n := fun q => e (q ▸ hk)
      exact ih (by omega) (fun i i0 i1 => hu i i0 (by omega))
theorem u2_comm (S : Nat → Int → Int) {k k' : Nat} (h : k ≠ k') (a v a' v' : Int) : u2 (u2 S k a v) k' a' v' = u2 (u2 S k' a' v') k a v := by
  funext i
  by_cases h1 : i = k
  · subst h1
    rw [u2_n _ _ _ h, u2_s, u2_s, u2_n _ _ _ h]
  · by_cases h2 : i = k'
    · subst h2
      rw [u2_s, u2_n _ _ _ h1, u2_n _ _ _ h1, u2_s]
    · rw [u2_n _ _ _ h2, u2_n _ _ _ h1, u2_n _ _ _ h1, u2_n _ _ _ h2]
theorem mn_alt (a b : Int) : (if b < a then b else a) = mn a b := by
  unfold mn
  split <;> split <;> omega
/-- the angles of the first n folds, at o -/
def AP (Y Z : Nat → Int → Int) (o n : Int) : Prop := ∀ f : Int, 0 ≤ f → f < n → Z 0 f = angF Y f o ∧ (1 ≤ f → Z 1 f = angF Y (Y 0 f) o * Y 1 f)
theorem AP.step0 (Y S : Nat → Int → Int) (o : Int) : AP Y (u2 S 0 0 o) o (0 + 1) := by
  intro f f0 f1
  have e : f = 0 := by omega
  subst e
  refine ⟨by rw [u2_s, uI_s, angF_0 o (Int.le_refl 0)], fun h => by omega⟩
theorem pul_rng {Y : Nat → Int → Int} (hI : MI Y) {o f : Int} (o0 : 0 ≤ o) (o1 : o ≤ 180) (f1 : 1 ≤ f) (f2 : f < Y 3 0) : 0 ≤ angF Y (Y 0 f) o * Y 1 f ∧ angF Y (Y 0 f) o * Y 1 f ≤ 1440 := by
  have h1 := hI.2.1 f f1 f2
  have h2 := angF_rng Y o0 o1 (Y 0 f)
  have := mul_rng (A := 180) (B := 8) h2.1 h2.2 (b := Y 1 f) (by omega) (by omega)
  omega
theorem AP.step {Y Z : Nat → Int → Int} (hI : MI Y) {o f : Int} (f1 : 1 ≤ f) (f2 : f < Y 3 0) (h : AP Y Z o f) {P : Int} (hP : P = angF Y (Y 0 f) o * Y 1 f) : AP Y (u2 (u2 Z 1 f P) 0 f (clp (P / 4 + Y 2 f))) o (f + 1) := by
  subst hP
  intro i i0 i1
  rw [u2_s, u2_n _ _ _ (show (1 : Nat) ≠ 0 by decide), u2_s, u2_n _ _ _ (show (0 : Nat) ≠ 1 by decide)]
  by_cases e : i = f
  · subst e
    rw [uI_s, uI_s]
    exact ⟨(angF_step hI o f1 f2).symm, fun _ => rfl⟩
  · rw [uI_n _ _ e, uI_n _ _ e]
    exact h i i0 (by omega)
/-- halfway through a degree -/
def BP (Y Z : Nat → Int → Int) (o f : Int) : Prop := ∀ i : Int, 0 ≤ i → i < Y 3 0 → (i < f → Z 0 i = angF Y i (o + 1) ∧ (1 ≤ i → Z 1 i = angF Y (Y 0 i) (o + 1) * Y 1 i) ∧ Z 2 i = angF Y i (o + 1) - angF Y i o) ∧ (f ≤ i → Z 0 i = angF Y i o ∧ (1 ≤ i → Z 1 i = angF Y (Y 0 i) o * Y 1 i))
theorem BP.zero {Y S : Nat → Int → Int} {o : Int} (h : AP Y S o (Y 3 0)) : BP Y S o 0 := fun i i0 i1 => ⟨fun q => by omega, fun _ => h i i0 i1⟩
theorem BP.step0 {Y S : Nat → Int → Int} {o A G9 : Int} (hn : 1 ≤ Y 3 0) (h : BP Y S o 0) (hA : A = S 0 0 + 1) (hG : G9 = A - S 0 0) : BP Y (u2 (u2 S 0 0 A) 2 0 G9) o (0 + 1) := by
  have e0 := ((h 0 (Int.le_refl 0) (by omega)).2 (Int.le_refl 0)).1
  rw [angF_0 o (Int.le_refl 0)] at e0
  intro i i0 i1
  rw [u2_s, u2_n _ _ _ (show (1 : Nat) ≠ 2 by decide), u2_n _ _ _ (show (0 : Nat) ≠ 2 by decide), u2_s, u2_n _ _ _ (show (1 : Nat) ≠ 0 by decide), u2_n _ _ _ (show (2 : Nat) ≠ 0 by decide)]
  by_cases e : i = 0
  · subst e
    rw [uI_s, uI_s, angF_0 _ (Int.le_refl 0), angF_0 _ (Int.le_refl 0)]
    exact ⟨fun _ => ⟨by omega, fun q => by omega, by omega⟩, fun q => by omega⟩
  · rw [uI_n _ _ e, uI_n _ _ e]
    exact ⟨fun q => by omega, fun _ => (h i i0 i1).2 (by omega)⟩
theorem BP.pul {Y Z : Nat → Int → Int} (hI : MI Y) {o f : Int} (f1 : 1 ≤ f) (f2 : f < Y 3 0) (h : BP Y Z o f) : Z 1 f + Z 2 (Y 0 f) * Y 1 f = angF Y (Y 0 f) (o + 1) * Y 1 f := by
  have hf := hI.2.1 f f1 f2
  have e1 := ((h f (by omega) f2).2 (Int.le_refl f)).2 f1
  have e2 := ((h (Y 0 f) hf.1 (by omega)).1 hf.2.1).2.2
  rw [e1, e2, Int.sub_mul]
  omega
theorem BP.step {Y Z : Nat → Int → Int} (hI : MI Y) {o f : Int} (f1 : 1 ≤ f) (f2 : f < Y 3 0) (h : BP Y Z o f) {P A G9 : Int} (hP : P = angF Y (Y 0 f) (o + 1) * Y 1 f) (hA : A = clp (P / 4 + Y 2 f)) (hG : G9 = A - Z 0 f) : BP Y (u2 (u2 (u2 Z 1 f P) 0 f A) 2 f G9) o (f + 1) := by
  have hf := hI.2.1 f f1 f2
  have e0 := ((h f (by omega) f2).2 (Int.le_refl f)).1
  have eA : A = angF Y f (o + 1) := by rw [hA, hP]; exact (angF_step hI (o + 1) f1 f2).symm
  intro i i0 i1
  rw [u2_s, u2_n _ _ _ (show (1 : Nat) ≠ 2 by decide), u2_n _ _ _ (show (0 : Nat) ≠ 2 by decide), u2_s, u2_n _ _ _ (show (1 : Nat) ≠ 0 by decide), u2_s, u2_n _ _ _ (show (2 : Nat) ≠ 0 by decide), u2_n _ _ _ (show (0 : Nat) ≠ 1 by decide), u2_n _ _ _ (show (2 : Nat) ≠ 1 by decide)]
  by_cases e : i = f
  · subst e
    rw [uI_s, uI_s, uI_s, eA, hP]
    exact ⟨fun _ => ⟨rfl, fun _ => rfl, by omega⟩, fun q => by omega⟩
  · rw [uI_n _ _ e, uI_n _ _ e, uI_n _ _ e]
    obtain ⟨a, b⟩ := h i i0 i1
    exact ⟨fun q => a (by omega), fun q => b (by omega)⟩
theorem BP.done {Y Z : Nat → Int → Int} {o f : Int} (h : BP Y Z o f) (hf : Y 3 0 ≤ f) : AP Y Z (o + 1) (Y 3 0) := fun i i0 i1 => ⟨((h i i0 i1).1 (by omega)).1, ((h i i0 i1).1 (by omega)).2.1⟩

set_option maxHeartbeats 4000000 in
set_option maxRecDepth 100000 in
/-- floorDiv(p, 4), p from 0 on -/
theorem c_J9_floorDiv_7cf53 {C : WC} {l : Launch} (hfl : l.stackTraces = false) {ws : va_W} {p : Int}  (h0 : 0 ≤ p) (h1 : p < 2048) : MM C l yJ9_floorDiv_7cf53 cJ9_floorDiv_7cf53 3 (some .int) 0 0 0 [vi p, vi 4] ws (rv (vi (p / 4)) ws) := by
  refine mf_of (by decide +kernel) (Nat.le_of_ble_eq_true rfl) hfl (fun K Q X r => ?_)
  have X : Cx C l "java/lang/Math" cJ9_floorDiv_7cf53 3 0 0 0 K := X
  show G C K Q 0 0 0 [(0, vi p), (1, vi 4)] [] ws
  refine g_iload_n (t := 1) X dJ9_floorDiv_7cf53_0 0 rfl rfl ?_
  refine g_iload_n (t := 2) X dJ9_floorDiv_7cf53_1 1 rfl rfl ?_
  refine g_idiv (t := 3) X dJ9_floorDiv_7cf53_2 ⟨by omega, by omega⟩ ⟨by omega, by omega⟩ (by omega) ⟨by rw [Int.tdiv_eq_ediv_of_nonneg h0]; omega, by rw [Int.tdiv_eq_ediv_of_nonneg h0]; omega⟩ rfl ?_
  rw [Int.tdiv_eq_ediv_of_nonneg h0]
  refine g_istore_n (t := 4) (lv1 := [(2, vi (p / 4)), (0, vi p), (1, vi 4)]) X dJ9_floorDiv_7cf53_3 (by decide) rfl rfl ?_
  refine g_iload_n (t := 5) X dJ9_floorDiv_7cf53_4 1 rfl rfl ?_
  refine g_iload_n (t := 6) X dJ9_floorDiv_7cf53_5 2 rfl rfl ?_
  refine g_xor4 (t := 7) X dJ9_floorDiv_7cf53_6 h0 h1 rfl (fun b b0 b1 => ?_)
  refine g_if_ge (t := 21) (u := 10) X dJ9_floorDiv_7cf53_7 (by decide) rfl ⟨by omega, by omega⟩ (fun c_7 => ?_) (fun c_7 => absurd b0 c_7)
  refine g_iload_n (t := 22) X dJ9_floorDiv_7cf53_21 0 rfl rfl ?_
  exact g_iret X r (rv_i rfl) (Nat.le_of_ble_eq_true rfl) (Nat.le_of_ble_eq_true rfl) dJ9_floorDiv_7cf53_22

set_option maxHeartbeats 4000000 in
set_option maxRecDepth 100000 in
/-- Fold.angleOfPulled() -/
theorem c_X0_angleOfPulled {C : WC} {l : Launch} (hfl : l.stackTraces = false) {ad : Nat → Nat} {B : BT} {E : Int × Nat} {F : Int × Nat × Nat} {S Y : Nat → Int → Int} {g : Int → Int} {R : va_W} {i x : Int} (hI : MI Y) (i0 : 1 ≤ i) (i1 : i < Y 3 0) (hx : S 1 i = x) (x0 : 0 ≤ x) (x1 : x ≤ 1440) : MM C l yX0_angleOfPulled cX0_angleOfPulled 1 (some .int) 1 0 0 [.ref (fA ad i)] (WW C ad B E F S Y g R) (rv (vi (clp (x / 4 + Y 2 i))) (WW C ad B E F S Y g R)) := by
  refine mm_of (by decide +kernel) (Nat.le_of_ble_eq_true rfl) hfl (fun K Q X r => ?_)
  have X : Cx C l "Springleaf$Fold" cX0_angleOfPulled 1 1 0 0 K := X
  have hf := hI.2.1 i i0 i1
  show G C K Q 0 0 0 [(0, .ref (fA ad i))] [] (WW C ad B E F S Y g R)
  refine g_iconst (t := 1) X dX0_angleOfPulled_0 rfl ?_
  refine g_sipush (t := 4) (z := 180) X dX0_angleOfPulled_1 (by decide +kernel) rfl ?_
  refine g_aload_n (t := 5) X dX0_angleOfPulled_4 0 rfl rfl ?_
  refine g_getf (t := 8) (v := vi (S 1 i)) X inX0 _ (WW_f (i := i) (by omega) (by omega)) rfl 5 (by decide) q1_110 rfl rfl dX0_angleOfPulled_5 rfl ?_
  rw [hx]
  refine g_iconst (t := 9) X dX0_angleOfPulled_8 rfl ?_
  refine g_callS (t := 12) (mc := 0) (ms := 0) (rest := [vi 180, vi 0]) X mt_J9_floorDiv_7cf53 q1_236 q1_237 (c_J9_floorDiv_7cf53 hfl (by omega) (by omega)) (by decide) (Nat.le_of_ble_eq_true rfl) (Nat.le_of_ble_eq_true rfl) (Nat.le_of_ble_eq_true rfl) rfl rfl dX0_angleOfPulled_9 rfl (k_rv ?_)
  refine g_aload_n (t := 13) X dX0_angleOfPulled_12 0 rfl rfl ?_
  refine g_getf (t := 16) (v := vi (Y 2 i)) X inX0 _ (WW_f (i := i) (by omega) (by omega)) rfl 3 (by decide) q1_106 rfl rfl dX0_angleOfPulled_13 rfl ?_
  refine g_iadd (t := 17) X dX0_angleOfPulled_16 rfl ?_
  refine g_mmin (t := 20) X q1_239 q1_179 q1_11 q1_180 (Nat.le_of_ble_eq_true rfl) (Nat.le_of_ble_eq_true rfl) (Nat.le_of_ble_eq_true rfl) ⟨by omega, by omega⟩ ⟨by omega, by omega⟩ dX0_angleOfPulled_17 rfl ?_
  refine g_mmax (t := 23) X q2_0 q1_147 q1_11 q1_148 (Nat.le_of_ble_eq_true rfl) (Nat.le_of_ble_eq_true rfl) (Nat.le_of_ble_eq_true rfl) ⟨by omega, by omega⟩ ⟨by first | omega | (split <;> omega), by first | omega | (split <;> omega)⟩ dX0_angleOfPulled_20 rfl ?_
  obtain ⟨mv, emv⟩ : ∃ z : Int, z = if 0 < if (x / 4) + (Y 2 i) < 180 then (x / 4) + (Y 2 i) else 180 then if (x / 4) + (Y 2 i) < 180 then (x / 4) + (Y 2 i) else 180 else 0 := ⟨_, rfl⟩
  rw [← emv]
  exact g_iret X r (rv_i (by rw [emv]; unfold clp; repeat (first | omega | split))) (Nat.le_of_ble_eq_true rfl) (Nat.le_of_ble_eq_true rfl) dX0_angleOfPulled_23

set_option maxHeartbeats 4000000 in
set_option maxRecDepth 100000 in
/-- Fold.openTo -/
theorem c_X0_openTo {C : WC} {l : Launch} (hfl : l.stackTraces = false) {ad : Nat → Nat} {B : BT} {E : Int × Nat} {F : Int × Nat × Nat} {S Y : Nat → Int → Int} {g : Int → Int} {R : va_W} {i o : Int} (hI : MI Y) (i0 : 0 ≤ i) (i1 : i < Y 3 0) (o0 : 0 ≤ o) (o1 : o ≤ 180) (hA : AP Y S o i) : MM C l yX0_openTo cX0_openTo 2 none 2 0 0 [.ref (fA ad i), vi o] (WW C ad B E F S Y g R) (fun v w => ∃ Z, AP Y Z o (i + 1) ∧ v = none ∧ w = WW C ad B E F Z Y g R) := by
  refine mm_of (by decide +kernel) (Nat.le_of_ble_eq_true rfl) hfl (fun K Q X r => ?_)
  have X : Cx C l "Springleaf$Fold" cX0_openTo 2 2 0 0 K := X
  have I3 := hI.1
  have I10 := hI.2.2.1
  have I12 := hI.2.2.2.2.1
  rcases (show i = 0 ∨ 1 ≤ i by omega) with e0 | i9
  · subst e0
    show G C K Q 0 0 0 [(0, .ref (fA ad 0)), (1, vi o)] [] (WW C ad B E F S Y g R)
    refine g_aload_n (t := 1) X dX0_openTo_0 0 rfl rfl ?_
    refine g_getf (t := 4) (v := .null) X inX0 _ (WW_f (i := 0) (by omega) (by omega)) rfl 1 (by decide) q1_103 rfl (congrArg some (on_0 (by omega))) dX0_openTo_1 rfl ?_
    refine g_ifnonnullN (t := 7) X dX0_openTo_4 rfl ?_
    refine g_aload_n (t := 8) X dX0_openTo_7 0 rfl rfl ?_
    refine g_iload_n (t := 9) X dX0_openTo_8 1 rfl rfl ?_
    refine g_putf (t := 12) X inX0 tyX0 tyX0_ok nmX0 _ (WW_f (i := 0) (by omega) (by omega)) rfl 4 (by decide) q1_107 rfl rfl rfl rfl rfl (Nat.le_of_ble_eq_true rfl) (WW_sf0 (i := 0) (by omega) (by omega)) dX0_openTo_9 rfl ?_
    refine g_goto (t := 39) X dX0_openTo_12 (by decide) ?_
    exact g_vret X r ⟨u2 S 0 0 o, AP.step0 Y S o, rfl, rfl⟩ (Nat.le_of_ble_eq_true rfl) (Nat.le_of_ble_eq_true rfl) dX0_openTo_39
  · show G C K Q 0 0 0 [(0, .ref (fA ad i)), (1, vi o)] [] (WW C ad B E F S Y g R)
    have hf := hI.2.1 i i9 i1
    have hq := pul_rng hI o0 o1 i9 i1
    have ho : S 0 (Y 0 i) = angF Y (Y 0 i) o := (hA (Y 0 i) hf.1 hf.2.1).1
    refine g_aload_n (t := 1) X dX0_openTo_0 0 rfl rfl ?_
    refine g_getf (t := 4) (v := .ref (fA ad (Y 0 i))) X inX0 _ (WW_f (i := i) (by omega) (by omega)) rfl 1 (by decide) q1_103 rfl (congrArg some (on_p (by omega))) dX0_openTo_1 rfl ?_
    refine g_ifnonnull (t := 15) X dX0_openTo_4 (by decide) ?_
    refine g_aload_n (t := 16) X dX0_openTo_15 0 rfl rfl ?_
    refine g_aload_n (t := 17) X dX0_openTo_16 0 rfl rfl ?_
    refine g_getf (t := 20) (v := .ref (fA ad (Y 0 i))) X inX0 _ (WW_f (i := i) (by omega) (by omega)) rfl 1 (by decide) q1_103 rfl (congrArg some (on_p (by omega))) dX0_openTo_17 rfl ?_
    refine g_getf (t := 23) (v := vi (S 0 (Y 0 i))) X inX0 _ (WW_f (i := Y 0 i) (by omega) (by omega)) rfl 4 (by decide) q1_107 rfl rfl dX0_openTo_20 rfl ?_
    rw [ho]
    refine g_aload_n (t := 24) X dX0_openTo_23 0 rfl rfl ?_
    refine g_getf (t := 27) (v := vi (Y 1 i)) X inX0 _ (WW_f (i := i) (by omega) (by omega)) rfl 2 (by decide) q1_105 rfl rfl dX0_openTo_24 rfl ?_
    refine g_imul (t := 28) X dX0_openTo_27 rfl ?_
    refine g_putf (t := 31) X inX0 tyX0 tyX0_ok nmX0 _ (WW_f (i := i) (by omega) (by omega)) rfl 5 (by decide) q1_110 rfl rfl rfl rfl rfl (Nat.le_of_ble_eq_true rfl) (WW_sf1 (i := i) (by omega) (by omega)) dX0_openTo_28 rfl ?_
    refine g_aload_n (t := 32) X dX0_openTo_31 0 rfl rfl ?_
    refine g_aload_n (t := 33) X dX0_openTo_32 0 rfl rfl ?_
    refine g_callV (t := 36) (mc := 0) (ms := 0) (rest := [.ref (fA ad i)]) X mt_X0_angleOfPulled q1_232 q1_233 q1_234 _ (WW_f (i := i) (by omega) (by omega)) rfl (c_X0_angleOfPulled (i := i) (x := angF Y (Y 0 i) o * Y 1 i) hfl hI (by omega) (by omega) (by rw [u2_s, uI_s]) hq.1 hq.2) (by decide) (Nat.le_of_ble_eq_true rfl) (Nat.le_of_ble_eq_true rfl) (Nat.le_of_ble_eq_true rfl) rfl rfl dX0_openTo_33 rfl (k_rv ?_)
    refine g_putf (t := 39) X inX0 tyX0 tyX0_ok nmX0 _ (WW_f (i := i) (by omega) (by omega)) rfl 4 (by decide) q1_107 rfl rfl rfl rfl rfl (Nat.le_of_ble_eq_true rfl) (WW_sf0 (i := i) (by omega) (by omega)) dX0_openTo_36 rfl ?_
    exact g_vret X r ⟨u2 (u2 S 1 i ((angF Y (Y 0 i) o) * (Y 1 i))) 0 i (clp ((angF Y (Y 0 i) o * Y 1 i) / 4 + Y 2 i)), hA.step hI i9 i1 rfl, rfl, rfl⟩ (Nat.le_of_ble_eq_true rfl) (Nat.le_of_ble_eq_true rfl) dX0_openTo_39

set_option maxHeartbeats 4000000 in
set_option maxRecDepth 100000 in
/-- Fold.openOneDegree -/
theorem c_X0_openOneDegree {C : WC} {l : Launch} (hfl : l.stackTraces = false) {ad : Nat → Nat} {B : BT} {E : Int × Nat} {F : Int × Nat × Nat} {S Y : Nat → Int → Int} {g : Int → Int} {R : va_W} {i o : Int} (hI : MI Y) (i0 : 0 ≤ i) (i1 : i < Y 3 0) (o0 : 0 ≤ o) (o1 : o ≤ 179) (hA : BP Y S o i) : MM C l yX0_openOneDegree cX0_openOneDegree 2 none 2 0 0 [.ref (fA ad i)] (WW C ad B E F S Y g R) (fun v w => ∃ Z, BP Y Z o (i + 1) ∧ v = none ∧ w = WW C ad B E F Z Y g R) := by
  refine mm_of (by decide +kernel) (Nat.le_of_ble_eq_true rfl) hfl (fun K Q X r => ?_)
  have X : Cx C l "Springleaf$Fold" cX0_openOneDegree 2 2 0 0 K := X
  have I3 := hI.1
  have I10 := hI.2.2.1
  have I12 := hI.2.2.2.2.1
  rcases (show i = 0 ∨ 1 ≤ i by omega) with e0 | i9
  · subst e0
    show G C K Q 0 0 0 [(0, .ref (fA ad 0))] [] (WW C ad B E F S Y g R)
    refine g_aload_n (t := 1) X dX0_openOneDegree_0 0 rfl rfl ?_
    refine g_getf (t := 4) (v := vi (S 0 0)) X inX0 _ (WW_f (i := 0) (by omega) (by omega)) rfl 4 (by decide) q1_107 rfl rfl dX0_openOneDegree_1 rfl ?_
    refine g_istore_n (t := 5) (lv1 := [(1, vi (S 0 0)), (0, .ref (fA ad 0))]) X dX0_openOneDegree_4 (by decide) rfl rfl ?_
    refine g_aload_n (t := 6) X dX0_openOneDegree_5 1 rfl rfl ?_
    refine g_getf (t := 9) (v := .null) X inX0 _ (WW_f (i := 0) (by omega) (by omega)) rfl 1 (by decide) q1_103 rfl (congrArg some (on_0 (by omega))) dX0_openOneDegree_6 rfl ?_
    refine g_ifnonnullN (t := 12) X dX0_openOneDegree_9 rfl ?_
    refine g_aload_n (t := 13) X dX0_openOneDegree_12 1 rfl rfl ?_
    refine g_dup (t := 14) X dX0_openOneDegree_13 rfl rfl ?_
    refine g_getf (t := 17) (v := vi (S 0 0)) X inX0 _ (WW_f (i := 0) (by omega) (by omega)) rfl 4 (by decide) q1_107 rfl rfl dX0_openOneDegree_14 rfl ?_
    refine g_iconst (t := 18) X dX0_openOneDegree_17 rfl ?_
    refine g_iadd (t := 19) X dX0_openOneDegree_18 rfl ?_
    refine g_putf (t := 22) X inX0 tyX0 tyX0_ok nmX0 _ (WW_f (i := 0) (by omega) (by omega)) rfl 4 (by decide) q1_107 rfl rfl rfl rfl rfl (Nat.le_of_ble_eq_true rfl) (WW_sf0 (i := 0) (by omega) (by omega)) dX0_openOneDegree_19 rfl ?_
    refine g_goto (t := 54) X dX0_openOneDegree_22 (by decide) ?_
    refine g_aload_n (t := 55) X dX0_openOneDegree_54 1 rfl rfl ?_
    refine g_aload_n (t := 56) X dX0_openOneDegree_55 1 rfl rfl ?_
    refine g_getf (t := 59) (v := vi ((uI (S 0) 0 ((S 0 0) + 1)) 0)) X inX0 _ (WW_f (i := 0) (by omega) (by omega)) rfl 4 (by decide) q1_107 rfl rfl dX0_openOneDegree_56 rfl ?_
    rw [uI_s]
    refine g_iload_n (t := 60) X dX0_openOneDegree_59 0 rfl rfl ?_
    refine g_isub (t := 61) X dX0_openOneDegree_60 rfl ?_
    refine g_putf (t := 64) X inX0 tyX0 tyX0_ok nmX0 _ (WW_f (i := 0) (by omega) (by omega)) rfl 6 (by decide) q1_111 rfl rfl rfl rfl rfl (Nat.le_of_ble_eq_true rfl) (WW_sf2 (i := 0) (by omega) (by omega)) dX0_openOneDegree_61 rfl ?_
    exact g_vret X r ⟨u2 (u2 S 0 0 ((S 0 0) + 1)) 2 0 (((S 0 0) + 1) - (S 0 0)), hA.step0 I3.1 rfl rfl, rfl, rfl⟩ (Nat.le_of_ble_eq_true rfl) (Nat.le_of_ble_eq_true rfl) dX0_openOneDegree_64
  · show G C K Q 0 0 0 [(0, .ref (fA ad i))] [] (WW C ad B E F S Y g R)
    have hf := hI.2.1 i i9 i1
    have hq := pul_rng hI (o := o + 1) (by omega) (by omega) i9 i1
    have hP := hA.pul hI i9 i1
    refine g_aload_n (t := 1) X dX0_openOneDegree_0 0 rfl rfl ?_
    refine g_getf (t := 4) (v := vi (S 0 i)) X inX0 _ (WW_f (i := i) (by omega) (by omega)) rfl 4 (by decide) q1_107 rfl rfl dX0_openOneDegree_1 rfl ?_
    refine g_istore_n (t := 5) (lv1 := [(1, vi (S 0 i)), (0, .ref (fA ad i))]) X dX0_openOneDegree_4 (by decide) rfl rfl ?_
    refine g_aload_n (t := 6) X dX0_openOneDegree_5 1 rfl rfl ?_
    refine g_getf (t := 9) (v := .ref (fA ad (Y 0 i))) X inX0 _ (WW_f (i := i) (by omega) (by omega)) rfl 1 (by decide) q1_103 rfl (congrArg some (on_p (by omega))) dX0_openOneDegree_6 rfl ?_
    refine g_ifnonnull (t := 25) X dX0_openOneDegree_9 (by decide) ?_
    refine g_aload_n (t := 26) X dX0_openOneDegree_25 1 rfl rfl ?_
    refine g_dup (t := 27) X dX0_openOneDegree_26 rfl rfl ?_
    refine g_getf (t := 30) (v := vi (S 1 i)) X inX0 _ (WW_f (i := i) (by omega) (by omega)) rfl 5 (by decide) q1_110 rfl rfl dX0_openOneDegree_27 rfl ?_
    refine g_aload_n (t := 31) X dX0_openOneDegree_30 1 rfl rfl ?_
    refine g_getf (t := 34) (v := .ref (fA ad (Y 0 i))) X inX0 _ (WW_f (i := i) (by omega) (by omega)) rfl 1 (by decide) q1_103 rfl (congrArg some (on_p (by omega))) dX0_openOneDegree_31 rfl ?_
    refine g_getf (t := 37) (v := vi (S 2 (Y 0 i))) X inX0 _ (WW_f (i := Y 0 i) (by omega) (by omega)) rfl 6 (by decide) q1_111 rfl rfl dX0_openOneDegree_34 rfl ?_
    refine g_aload_n (t := 38) X dX0_openOneDegree_37 1 rfl rfl ?_
    refine g_getf (t := 41) (v := vi (Y 1 i)) X inX0 _ (WW_f (i := i) (by omega) (by omega)) rfl 2 (by decide) q1_105 rfl rfl dX0_openOneDegree_38 rfl ?_
    refine g_imul (t := 42) X dX0_openOneDegree_41 rfl ?_
    refine g_iadd (t := 43) X dX0_openOneDegree_42 rfl ?_
    refine g_putf (t := 46) X inX0 tyX0 tyX0_ok nmX0 _ (WW_f (i := i) (by omega) (by omega)) rfl 5 (by decide) q1_110 rfl rfl rfl rfl rfl (Nat.le_of_ble_eq_true rfl) (WW_sf1 (i := i) (by omega) (by omega)) dX0_openOneDegree_43 rfl ?_
    refine g_aload_n (t := 47) X dX0_openOneDegree_46 1 rfl rfl ?_
    refine g_aload_n (t := 48) X dX0_openOneDegree_47 1 rfl rfl ?_
    refine g_callV (t := 51) (mc := 0) (ms := 0) (rest := [.ref (fA ad i)]) X mt_X0_angleOfPulled q1_232 q1_233 q1_234 _ (WW_f (i := i) (by omega) (by omega)) rfl (c_X0_angleOfPulled (i := i) (x := S 1 i + S 2 (Y 0 i) * Y 1 i) hfl hI (by omega) (by omega) (by rw [u2_s, uI_s]) (by rw [hP]; exact hq.1) (by rw [hP]; exact hq.2)) (by decide) (Nat.le_of_ble_eq_true rfl) (Nat.le_of_ble_eq_true rfl) (Nat.le_of_ble_eq_true rfl) rfl rfl dX0_openOneDegree_48 rfl (k_rv ?_)
    refine g_putf (t := 54) X inX0 tyX0 tyX0_ok nmX0 _ (WW_f (i := i) (by omega) (by omega)) rfl 4 (by decide) q1_107 rfl rfl rfl rfl rfl (Nat.le_of_ble_eq_true rfl) (WW_sf0 (i := i) (by omega) (by omega)) dX0_openOneDegree_51 rfl ?_
    refine g_aload_n (t := 55) X dX0_openOneDegree_54 1 rfl rfl ?_
    refine g_aload_n (t := 56) X dX0_openOneDegree_55 1 rfl rfl ?_
    refine g_getf (t := 59) (v := vi ((uI (S 0) i (clp ((S 1 i + S 2 (Y 0 i) * Y 1 i) / 4 + Y 2 i))) i)) X inX0 _ (WW_f (i := i) (by omega) (by omega)) rfl 4 (by decide) q1_107 rfl rfl dX0_openOneDegree_56 rfl ?_
    rw [uI_s]
    refine g_iload_n (t := 60) X dX0_openOneDegree_59 0 rfl rfl ?_
    refine g_isub (t := 61) X dX0_openOneDegree_60 rfl ?_
    refine g_putf (t := 64) X inX0 tyX0 tyX0_ok nmX0 _ (WW_f (i := i) (by omega) (by omega)) rfl 6 (by decide) q1_111 rfl rfl rfl rfl rfl (Nat.le_of_ble_eq_true rfl) (WW_sf2 (i := i) (by omega) (by omega)) dX0_openOneDegree_61 rfl ?_
    exact g_vret X r ⟨u2 (u2 (u2 S 1 i ((S 1 i) + ((S 2 (Y 0 i)) * (Y 1 i)))) 0 i (clp ((S 1 i + S 2 (Y 0 i) * Y 1 i) / 4 + Y 2 i))) 2 i ((clp ((S 1 i + S 2 (Y 0 i) * Y 1 i) / 4 + Y 2 i)) - (S 0 i)), hA.step hI i9 i1 hP rfl rfl, rfl, rfl⟩ (Nat.le_of_ble_eq_true rfl) (Nat.le_of_ble_eq_true rfl) dX0_openOneDegree_64

set_option maxHeartbeats 4000000 in
set_option maxRecDepth 100000 in
/-- Part.isGlued() -/
theorem c_X3_isGlued {C : WC} {l : Launch} (hfl : l.stackTraces = false) {ad : Nat → Nat} {B : BT} {E : Int × Nat} {F : Int × Nat × Nat} {S Y : Nat → Int → Int} {g : Int → Int} {R : va_W} {p : Int} (hI : MI Y) (p0 : 0 ≤ p) (p1 : p < Y 10 0) (hg : Rg (g p)) : MM C l yX3_isGlued cX3_isGlued 1 (some .boolean) 0 0 0 [.ref (pA ad p)] (WW C ad B E F S Y g R) (rb (g p ≠ -1) (WW C ad B E F S Y g R)) := by
  refine mm_of (by decide +kernel) (Nat.le_of_ble_eq_true rfl) hfl (fun K Q X r => ?_)
  have X : Cx C l "Springleaf$Part" cX3_isGlued 1 0 0 0 K := X
  obtain ⟨hg1, hg2⟩ := hg
  show G C K Q 0 0 0 [(0, .ref (pA ad p))] [] (WW C ad B E F S Y g R)
  refine g_aload_n (t := 1) X dX3_isGlued_0 0 rfl rfl ?_
  refine g_getf (t := 4) (v := vi (g p)) X inX3 _ (WW_p (p := p) (by omega) (by omega)) rfl 6 (by decide) q2_225 rfl rfl dX3_isGlued_1 rfl ?_
  refine g_iconst (t := 5) X dX3_isGlued_4 rfl ?_
  refine g_icmp_eq (t := 12) (u := 8) X dX3_isGlued_5 (by decide) rfl ⟨by omega, by omega⟩ ⟨by omega, by omega⟩ (fun c_5 => ?_) (fun c_5 => ?_)
  · refine g_iconst (t := 13) X dX3_isGlued_12 rfl ?_
    exact g_zret X r rfl (rb_f (fun h => h c_5)) (Nat.le_of_ble_eq_true rfl) (Nat.le_of_ble_eq_true rfl) dX3_isGlued_13
  · refine g_iconst (t := 9) X dX3_isGlued_8 rfl ?_
    refine g_goto (t := 13) X dX3_isGlued_9 (by decide) ?_
    exact g_zret X r rfl (rb_t c_5) (Nat.le_of_ble_eq_true rfl) (Nat.le_of_ble_eq_true rfl) dX3_isGlued_13

set_option maxHeartbeats 4000000 in
set_option maxRecDepth 100000 in
/-- Part.rise() -/
theorem c_X3_rise {C : WC} {l : Launch} (hfl : l.stackTraces = false) {ad : Nat → Nat} {B : BT} {E : Int × Nat} {F : Int × Nat × Nat} {S Y : Nat → Int → Int} {g : Int → Int} {R : va_W} {p o : Int} (hI : MI Y) (p0 : 0 ≤ p) (p1 : p < Y 10 0) (hA : AP Y S o (Y 3 0)) (o0 : 0 ≤ o) (o1 : o ≤ 180) : MM C l yX3_rise cX3_rise 1 (some .int) 0 0 0 [.ref (pA ad p)] (WW C ad B E F S Y g R) (rv (vi (riseF Y p o)) (WW C ad B E F S Y g R)) := by
  refine mm_of (by decide +kernel) (Nat.le_of_ble_eq_true rfl) hfl (fun K Q X r => ?_)
  have X : Cx C l "Springleaf$Part" cX3_rise 1 0 0 0 K := X
  have I3 := hI.1
  have I10 := hI.2.2.1
  have I12 := hI.2.2.2.2.1
  have hp := hI.2.2.2.1 p p0 p1
  have hg := angF_rng Y o0 o1 (Y 4 p)
  show G C K Q 0 0 0 [(0, .ref (pA ad p))] [] (WW C ad B E F S Y g R)
  refine g_aload_n (t := 1) X dX3_rise_0 0 rfl rfl ?_
  refine g_getf (t := 4) (v := vi (Y 6 p)) X inX3 _ (WW_p (p := p) (by omega) (by omega)) rfl 5 (by decide) q2_223 rfl rfl dX3_rise_1 rfl ?_
  refine g_aload_n (t := 5) X dX3_rise_4 0 rfl rfl ?_
  refine g_getf (t := 8) (v := .ref (fA ad (Y 4 p))) X inX3 _ (WW_p (p := p) (by omega) (by omega)) rfl 0 (by decide) q2_217 rfl rfl dX3_rise_5 rfl ?_
  refine g_getf (t := 11) (v := vi (S 0 (Y 4 p))) X inX0 _ (WW_f (i := Y 4 p) (by omega) (by omega)) rfl 4 (by decide) q1_108 rfl rfl dX3_rise_8 rfl ?_
  rw [(hA (Y 4 p) (by omega) (by omega)).1]
  refine g_sipush (t := 14) (z := 180) X dX3_rise_11 (by decide +kernel) rfl ?_
  refine g_aload_n (t := 15) X dX3_rise_14 0 rfl rfl ?_
  refine g_getf (t := 18) (v := .ref (fA ad (Y 4 p))) X inX3 _ (WW_p (p := p) (by omega) (by omega)) rfl 0 (by decide) q2_217 rfl rfl dX3_rise_15 rfl ?_
  refine g_getf (t := 21) (v := vi (S 0 (Y 4 p))) X inX0 _ (WW_f (i := Y 4 p) (by omega) (by omega)) rfl 4 (by decide) q1_108 rfl rfl dX3_rise_18 rfl ?_
  rw [(hA (Y 4 p) (by omega) (by omega)).1]
  refine g_isub (t := 22) X dX3_rise_21 rfl ?_
  refine g_mmin (t := 25) X q2_22 q1_179 q1_11 q1_180 (Nat.le_of_ble_eq_true rfl) (Nat.le_of_ble_eq_true rfl) (Nat.le_of_ble_eq_true rfl) ⟨by omega, by omega⟩ ⟨by omega, by omega⟩ dX3_rise_22 rfl ?_
  rw [mn_alt]
  have hx := rise_mul hI p0 p1 o0 o1
  refine g_imul (t := 26) X dX3_rise_25 rfl ?_
  refine g_bipush (t := 28) (z := 90) X dX3_rise_26 (by decide +kernel) rfl ?_
  refine g_idiv (t := 29) X dX3_rise_28 ⟨by omega, by omega⟩ ⟨by omega, by omega⟩ (by omega) ⟨by rw [Int.tdiv_eq_ediv_of_nonneg hx.1]; omega, by rw [Int.tdiv_eq_ediv_of_nonneg hx.1]; omega⟩ rfl ?_
  rw [Int.tdiv_eq_ediv_of_nonneg hx.1]
  exact g_iret X r (rv_i rfl) (Nat.le_of_ble_eq_true rfl) (Nat.le_of_ble_eq_true rfl) dX3_rise_29

set_option maxHeartbeats 4000000 in
set_option maxRecDepth 100000 in
/-- Part.reach() -/
theorem c_X3_reach {C : WC} {l : Launch} (hfl : l.stackTraces = false) {ad : Nat → Nat} {B : BT} {E : Int × Nat} {F : Int × Nat × Nat} {S Y : Nat → Int → Int} {g : Int → Int} {R : va_W} {p o : Int} (hI : MI Y) (p0 : 0 ≤ p) (p1 : p < Y 10 0) (hA : AP Y S o (Y 3 0)) (o0 : 0 ≤ o) (o1 : o ≤ 180) : MM C l yX3_reach cX3_reach 1 (some .int) 0 0 0 [.ref (pA ad p)] (WW C ad B E F S Y g R) (rv (vi (reachF Y p o)) (WW C ad B E F S Y g R)) := by
  refine mm_of (by decide +kernel) (Nat.le_of_ble_eq_true rfl) hfl (fun K Q X r => ?_)
  have X : Cx C l "Springleaf$Part" cX3_reach 1 0 0 0 K := X
  have I3 := hI.1
  have I10 := hI.2.2.1
  have I12 := hI.2.2.2.2.1
  have hp := hI.2.2.2.1 p p0 p1
  have hg := angF_rng Y o0 o1 (Y 4 p)
  have hx := reach_mul hI p0 p1 o0 o1
  have hx2 := tdiv_90 hx.1 hx.2
  show G C K Q 0 0 0 [(0, .ref (pA ad p))] [] (WW C ad B E F S Y g R)
  refine g_aload_n (t := 1) X dX3_reach_0 0 rfl rfl ?_
  refine g_getf (t := 4) (v := vi (Y 5 p)) X inX3 _ (WW_p (p := p) (by omega) (by omega)) rfl 1 (by decide) q2_219 rfl rfl dX3_reach_1 rfl ?_
  refine g_aload_n (t := 5) X dX3_reach_4 0 rfl rfl ?_
  refine g_getf (t := 8) (v := vi (Y 6 p)) X inX3 _ (WW_p (p := p) (by omega) (by omega)) rfl 5 (by decide) q2_223 rfl rfl dX3_reach_5 rfl ?_
  refine g_bipush (t := 10) (z := 90) X dX3_reach_8 (by decide +kernel) rfl ?_
  refine g_aload_n (t := 11) X dX3_reach_10 0 rfl rfl ?_
  refine g_getf (t := 14) (v := .ref (fA ad (Y 4 p))) X inX3 _ (WW_p (p := p) (by omega) (by omega)) rfl 0 (by decide) q2_217 rfl rfl dX3_reach_11 rfl ?_
  refine g_getf (t := 17) (v := vi (S 0 (Y 4 p))) X inX0 _ (WW_f (i := Y 4 p) (by omega) (by omega)) rfl 4 (by decide) q1_108 rfl rfl dX3_reach_14 rfl ?_
  rw [(hA (Y 4 p) (by omega) (by omega)).1]
  refine g_isub (t := 18) X dX3_reach_17 rfl ?_
  refine g_imul (t := 19) X dX3_reach_18 rfl ?_
  refine g_bipush (t := 21) (z := 90) X dX3_reach_19 (by decide +kernel) rfl ?_
  refine g_idiv (t := 22) X dX3_reach_21 ⟨by omega, by omega⟩ ⟨by omega, by omega⟩ (by omega) ⟨by omega, by omega⟩ rfl ?_
  refine g_iadd (t := 23) X dX3_reach_22 rfl ?_
  exact g_iret X r (rv_i rfl) (Nat.le_of_ble_eq_true rfl) (Nat.le_of_ble_eq_true rfl) dX3_reach_23

set_option maxHeartbeats 4000000 in
set_option maxRecDepth 100000 in
/-- Part.spanStart() -/
theorem c_X3_spanStart {C : WC} {l : Launch} (hfl : l.stackTraces = false) {ad : Nat → Nat} {B : BT} {E : Int × Nat} {F : Int × Nat × Nat} {S Y : Nat → Int → Int} {g : Int → Int} {R : va_W} {p o : Int} (hI : MI Y) (p0 : 0 ≤ p) (p1 : p < Y 10 0) (hA : AP Y S o (Y 3 0)) (o0 : 0 ≤ o) (o1 : o ≤ 180) : MM C l yX3_spanStart cX3_spanStart 1 (some .int) 1 0 0 [.ref (pA ad p)] (WW C ad B E F S Y g R) (rv (vi (lowF Y p o)) (WW C ad B E F S Y g R)) := by
  refine mm_of (by decide +kernel) (Nat.le_of_ble_eq_true rfl) hfl (fun K Q X r => ?_)
  have X : Cx C l "Springleaf$Part" cX3_spanStart 1 1 0 0 K := X
  have I3 := hI.1
  have I10 := hI.2.2.1
  have I12 := hI.2.2.2.2.1
  have hp := hI.2.2.2.1 p p0 p1
  have hg := angF_rng Y o0 o1 (Y 4 p)
  have hr := reach_rng hI p0 p1 o0 o1
  show G C K Q 0 0 0 [(0, .ref (pA ad p))] [] (WW C ad B E F S Y g R)
  refine g_aload_n (t := 1) X dX3_spanStart_0 0 rfl rfl ?_
  refine g_getf (t := 4) (v := vi (Y 5 p)) X inX3 _ (WW_p (p := p) (by omega) (by omega)) rfl 1 (by decide) q2_219 rfl rfl dX3_spanStart_1 rfl ?_
  refine g_aload_n (t := 5) X dX3_spanStart_4 0 rfl rfl ?_
  refine g_callV (t := 8) (mc := 0) (ms := 0) (rest := [vi (Y 5 p)]) X mt_X3_reach q2_18 q2_19 q2_20 _ (WW_p (p := p) (by omega) (by omega)) rfl (c_X3_reach hfl hI p0 p1 hA o0 o1) (by decide) (Nat.le_of_ble_eq_true rfl) (Nat.le_of_ble_eq_true rfl) (Nat.le_of_ble_eq_true rfl) rfl rfl dX3_spanStart_5 rfl (k_rv ?_)
  refine g_mmin (t := 11) X q2_22 q1_179 q1_11 q1_180 (Nat.le_of_ble_eq_true rfl) (Nat.le_of_ble_eq_true rfl) (Nat.le_of_ble_eq_true rfl) ⟨by omega, by omega⟩ ⟨by omega, by omega⟩ dX3_spanStart_8 rfl ?_
  exact g_iret X r (rv_i rfl) (Nat.le_of_ble_eq_true rfl) (Nat.le_of_ble_eq_true rfl) dX3_spanStart_11

set_option maxHeartbeats 4000000 in
set_option maxRecDepth 100000 in
/-- Part.spanEnd() -/
theorem c_X3_spanEnd {C : WC} {l : Launch} (hfl : l.stackTraces = false) {ad : Nat → Nat} {B : BT} {E : Int × Nat} {F : Int × Nat × Nat} {S Y : Nat → Int → Int} {g : Int → Int} {R : va_W} {p o : Int} (hI : MI Y) (p0 : 0 ≤ p) (p1 : p < Y 10 0) (hA : AP Y S o (Y 3 0)) (o0 : 0 ≤ o) (o1 : o ≤ 180) : MM C l yX3_spanEnd cX3_spanEnd 1 (some .int) 1 0 0 [.ref (pA ad p)] (WW C ad B E F S Y g R) (rv (vi (highF Y p o)) (WW C ad B E F S Y g R)) := by
  refine mm_of (by decide +kernel) (Nat.le_of_ble_eq_true rfl) hfl (fun K Q X r => ?_)
  have X : Cx C l "Springleaf$Part" cX3_spanEnd 1 1 0 0 K := X
  have I3 := hI.1
  have I10 := hI.2.2.1
  have I12 := hI.2.2.2.2.1
  have hp := hI.2.2.2.1 p p0 p1
  have hg := angF_rng Y o0 o1 (Y 4 p)
  have hr := reach_rng hI p0 p1 o0 o1
  show G C K Q 0 0 0 [(0, .ref (pA ad p))] [] (WW C ad B E F S Y g R)
  refine g_aload_n (t := 1) X dX3_spanEnd_0 0 rfl rfl ?_
  refine g_getf (t := 4) (v := vi (Y 5 p)) X inX3 _ (WW_p (p := p) (by omega) (by omega)) rfl 1 (by decide) q2_219 rfl rfl dX3_spanEnd_1 rfl ?_
  refine g_aload_n (t := 5) X dX3_spanEnd_4 0 rfl rfl ?_
  refine g_callV (t := 8) (mc := 0) (ms := 0) (rest := [vi (Y 5 p)]) X mt_X3_reach q2_18 q2_19 q2_20 _ (WW_p (p := p) (by omega) (by omega)) rfl (c_X3_reach hfl hI p0 p1 hA o0 o1) (by decide) (Nat.le_of_ble_eq_true rfl) (Nat.le_of_ble_eq_true rfl) (Nat.le_of_ble_eq_true rfl) rfl rfl dX3_spanEnd_5 rfl (k_rv ?_)
  refine g_mmax (t := 11) X q2_27 q1_147 q1_11 q1_148 (Nat.le_of_ble_eq_true rfl) (Nat.le_of_ble_eq_true rfl) (Nat.le_of_ble_eq_true rfl) ⟨by omega, by omega⟩ ⟨by omega, by omega⟩ dX3_spanEnd_8 rfl ?_
  exact g_iret X r (rv_i rfl) (Nat.le_of_ble_eq_true rfl) (Nat.le_of_ble_eq_true rfl) dX3_spanEnd_11

set_option maxHeartbeats 4000000 in
set_option maxRecDepth 100000 in
/-- Part.pieceWidth() -/
theorem c_X3_pieceWidth {C : WC} {l : Launch} (hfl : l.stackTraces = false) {ad : Nat → Nat} {B : BT} {E : Int × Nat} {F : Int × Nat × Nat} {S Y : Nat → Int → Int} {g : Int → Int} {R : va_W} {p : Int} (hI : MI Y) (p0 : 0 ≤ p) (p1 : p < Y 10 0) : MM C l yX3_pieceWidth cX3_pieceWidth 1 (some .int) 0 0 0 [.ref (pA ad p)] (WW C ad B E F S Y g R) (rv (vi (wideF Y p)) (WW C ad B E F S Y g R)) := by
  refine mm_of (by decide +kernel) (Nat.le_of_ble_eq_true rfl) hfl (fun K Q X r => ?_)
  have X : Cx C l "Springleaf$Part" cX3_pieceWidth 1 0 0 0 K := X
  have I3 := hI.1
  have I10 := hI.2.2.1
  have I12 := hI.2.2.2.2.1
  have hp := hI.2.2.2.1 p p0 p1
  show G C K Q 0 0 0 [(0, .ref (pA ad p))] [] (WW C ad B E F S Y g R)
  refine g_aload_n (t := 1) X dX3_pieceWidth_0 0 rfl rfl ?_
  refine g_getf (t := 4) (v := vi (Y 9 p)) X inX3 _ (WW_p (p := p) (by omega) (by omega)) rfl 4 (by decide) q2_222 rfl rfl dX3_pieceWidth_1 rfl ?_
  refine g_if_eq (t := 14) (u := 7) X dX3_pieceWidth_4 (by decide) rfl ⟨by omega, by omega⟩ (fun c_4 => ?_) (fun c_4 => ?_)
  · refine g_aload_n (t := 15) X dX3_pieceWidth_14 0 rfl rfl ?_
    refine g_getf (t := 18) (v := vi (Y 8 p)) X inX3 _ (WW_p (p := p) (by omega) (by omega)) rfl 3 (by decide) q2_221 rfl rfl dX3_pieceWidth_15 rfl ?_
    exact g_iret X r (rv_i (by unfold wideF; first | rw [if_pos (by omega)] | rw [if_neg (by omega)])) (Nat.le_of_ble_eq_true rfl) (Nat.le_of_ble_eq_true rfl) dX3_pieceWidth_18
  · refine g_aload_n (t := 8) X dX3_pieceWidth_7 0 rfl rfl ?_
    refine g_getf (t := 11) (v := vi (Y 6 p)) X inX3 _ (WW_p (p := p) (by omega) (by omega)) rfl 5 (by decide) q2_223 rfl rfl dX3_pieceWidth_8 rfl ?_
    refine g_goto (t := 18) X dX3_pieceWidth_11 (by decide) ?_
    exact g_iret X r (rv_i (by unfold wideF; first | rw [if_pos (by omega)] | rw [if_neg (by omega)])) (Nat.le_of_ble_eq_true rfl) (Nat.le_of_ble_eq_true rfl) dX3_pieceWidth_18

set_option maxHeartbeats 4000000 in
set_option maxRecDepth 100000 in
/-- Part.pieceHeight() -/
theorem c_X3_pieceHeight {C : WC} {l : Launch} (hfl : l.stackTraces = false) {ad : Nat → Nat} {B : BT} {E : Int × Nat} {F : Int × Nat × Nat} {S Y : Nat → Int → Int} {g : Int → Int} {R : va_W} {p : Int} (hI : MI Y) (p0 : 0 ≤ p) (p1 : p < Y 10 0) : MM C l yX3_pieceHeight cX3_pieceHeight 1 (some .int) 0 0 0 [.ref (pA ad p)] (WW C ad B E F S Y g R) (rv (vi (tallF Y p)) (WW C ad B E F S Y g R)) := by
  refine mm_of (by decide +kernel) (Nat.le_of_ble_eq_true rfl) hfl (fun K Q X r => ?_)
  have X : Cx C l "Springleaf$Part" cX3_pieceHeight 1 0 0 0 K := X
  have I3 := hI.1
  have I10 := hI.2.2.1
  have I12 := hI.2.2.2.2.1
  have hp := hI.2.2.2.1 p p0 p1
  show G C K Q 0 0 0 [(0, .ref (pA ad p))] [] (WW C ad B E F S Y g R)
  refine g_aload_n (t := 1) X dX3_pieceHeight_0 0 rfl rfl ?_
  refine g_getf (t := 4) (v := vi (Y 9 p)) X inX3 _ (WW_p (p := p) (by omega) (by omega)) rfl 4 (by decide) q2_222 rfl rfl dX3_pieceHeight_1 rfl ?_
  refine g_if_eq (t := 14) (u := 7) X dX3_pieceHeight_4 (by decide) rfl ⟨by omega, by omega⟩ (fun c_4 => ?_) (fun c_4 => ?_)
  · refine g_aload_n (t := 15) X dX3_pieceHeight_14 0 rfl rfl ?_
    refine g_getf (t := 18) (v := vi (Y 6 p)) X inX3 _ (WW_p (p := p) (by omega) (by omega)) rfl 5 (by decide) q2_223 rfl rfl dX3_pieceHeight_15 rfl ?_
    exact g_iret X r (rv_i (by unfold tallF; first | rw [if_pos (by omega)] | rw [if_neg (by omega)])) (Nat.le_of_ble_eq_true rfl) (Nat.le_of_ble_eq_true rfl) dX3_pieceHeight_18
  · refine g_aload_n (t := 8) X dX3_pieceHeight_7 0 rfl rfl ?_
    refine g_getf (t := 11) (v := vi (Y 8 p)) X inX3 _ (WW_p (p := p) (by omega) (by omega)) rfl 3 (by decide) q2_221 rfl rfl dX3_pieceHeight_8 rfl ?_
    refine g_goto (t := 18) X dX3_pieceHeight_11 (by decide) ?_
    exact g_iret X r (rv_i (by unfold tallF; first | rw [if_pos (by omega)] | rw [if_neg (by omega)])) (Nat.le_of_ble_eq_true rfl) (Nat.le_of_ble_eq_true rfl) dX3_pieceHeight_18

set_option maxHeartbeats 4000000 in
set_option maxRecDepth 100000 in
/-- Part.sharesLineWith(other) -/
theorem c_X3_sharesLineWith {C : WC} {l : Launch} (hfl : l.stackTraces = false) {ad : Nat → Nat} {B : BT} {E : Int × Nat} {F : Int × Nat × Nat} {S Y : Nat → Int → Int} {g : Int → Int} {R : va_W} {p q : Int} (hI : MI Y) (p0 : 0 ≤ p) (p1 : p < Y 10 0) (q0 : 0 ≤ q) (q1 : q < Y 10 0) : MM C l yX3_sharesLineWith cX3_sharesLineWith 2 (some .boolean) 0 0 0 [.ref (pA ad p), .ref (pA ad q)] (WW C ad B E F S Y g R) (rb (shareF Y p q) (WW C ad B E F S Y g R)) := by
  refine mm_of (by decide +kernel) (Nat.le_of_ble_eq_true rfl) hfl (fun K Q X r => ?_)
  have X : Cx C l "Springleaf$Part" cX3_sharesLineWith 2 0 0 0 K := X
  have I3 := hI.1
  have I10 := hI.2.2.1
  have I12 := hI.2.2.2.2.1
  have hp := hI.2.2.2.1 p p0 p1
  have hq := hI.2.2.2.1 q q0 q1
  show G C K Q 0 0 0 [(0, .ref (pA ad p)), (1, .ref (pA ad q))] [] (WW C ad B E F S Y g R)
  refine g_aload_n (t := 1) X dX3_sharesLineWith_0 0 rfl rfl ?_
  refine g_getf (t := 4) (v := vi (Y 7 p)) X inX3 _ (WW_p (p := p) (by omega) (by omega)) rfl 2 (by decide) q2_220 rfl rfl dX3_sharesLineWith_1 rfl ?_
  refine g_aload_n (t := 5) X dX3_sharesLineWith_4 1 rfl rfl ?_
  refine g_getf (t := 8) (v := vi (Y 7 q)) X inX3 _ (WW_p (p := q) (by omega) (by omega)) rfl 2 (by decide) q2_220 rfl rfl dX3_sharesLineWith_5 rfl ?_
  refine g_aload_n (t := 9) X dX3_sharesLineWith_8 1 rfl rfl ?_
  refine g_getf (t := 12) (v := vi (Y 8 q)) X inX3 _ (WW_p (p := q) (by omega) (by omega)) rfl 3 (by decide) q2_221 rfl rfl dX3_sharesLineWith_9 rfl ?_
  refine g_iadd (t := 13) X dX3_sharesLineWith_12 rfl ?_
  refine g_icmp_ge (t := 36) (u := 16) X dX3_sharesLineWith_13 (by decide) rfl ⟨by omega, by omega⟩ ⟨by omega, by omega⟩ (fun c_13 => ?_) (fun c_13 => ?_)
  · refine g_iconst (t := 37) X dX3_sharesLineWith_36 rfl ?_
    exact g_zret X r rfl (rb_f (by unfold shareF; omega)) (Nat.le_of_ble_eq_true rfl) (Nat.le_of_ble_eq_true rfl) dX3_sharesLineWith_37
  · refine g_aload_n (t := 17) X dX3_sharesLineWith_16 1 rfl rfl ?_
    refine g_getf (t := 20) (v := vi (Y 7 q)) X inX3 _ (WW_p (p := q) (by omega) (by omega)) rfl 2 (by decide) q2_220 rfl rfl dX3_sharesLineWith_17 rfl ?_
    refine g_aload_n (t := 21) X dX3_sharesLineWith_20 0 rfl rfl ?_
    refine g_getf (t := 24) (v := vi (Y 7 p)) X inX3 _ (WW_p (p := p) (by omega) (by omega)) rfl 2 (by decide) q2_220 rfl rfl dX3_sharesLineWith_21 rfl ?_
    refine g_aload_n (t := 25) X dX3_sharesLineWith_24 0 rfl rfl ?_
    refine g_getf (t := 28) (v := vi (Y 8 p)) X inX3 _ (WW_p (p := p) (by omega) (by omega)) rfl 3 (by decide) q2_221 rfl rfl dX3_sharesLineWith_25 rfl ?_
    refine g_iadd (t := 29) X dX3_sharesLineWith_28 rfl ?_
    refine g_icmp_ge (t := 36) (u := 32) X dX3_sharesLineWith_29 (by decide) rfl ⟨by omega, by omega⟩ ⟨by omega, by omega⟩ (fun c_29 => ?_) (fun c_29 => ?_)
    · refine g_iconst (t := 37) X dX3_sharesLineWith_36 rfl ?_
      exact g_zret X r rfl (rb_f (by unfold shareF; omega)) (Nat.le_of_ble_eq_true rfl) (Nat.le_of_ble_eq_true rfl) dX3_sharesLineWith_37
    · refine g_iconst (t := 33) X dX3_sharesLineWith_32 rfl ?_
      refine g_goto (t := 37) X dX3_sharesLineWith_33 (by decide) ?_
      exact g_zret X r rfl (rb_t (by unfold shareF; omega)) (Nat.le_of_ble_eq_true rfl) (Nat.le_of_ble_eq_true rfl) dX3_sharesLineWith_37

def mtF (Y : Nat → Int → Int) (p q o : Int) : Prop := shareF Y p q ∧ 0 < riseF Y p o ∧ 0 < riseF Y q o ∧ riseF Y p o - riseF Y q o < 2 ∧ riseF Y q o - riseF Y p o < 2 ∧ lowF Y p o ≤ highF Y q o ∧ lowF Y q o ≤ highF Y p o
theorem mt_iff {Y : Nat → Int → Int} {p q o : Int} : meetF Y p q o ↔ p ≠ q ∧ mtF Y p q o := Iff.rfl
theorem mt_sym {Y : Nat → Int → Int} {p q o : Int} (h : mtF Y p q o) : mtF Y q p o := by
  obtain ⟨⟨h1, h2⟩, h3, h4, h5, h6, h7, h8⟩ := h
  exact ⟨⟨h2, h1⟩, h4, h3, h6, h5, h8, h7⟩
set_option maxHeartbeats 4000000 in
set_option maxRecDepth 100000 in
/-- Part.meets(other) -/
theorem c_X3_meets {C : WC} {l : Launch} (hfl : l.stackTraces = false) {ad : Nat → Nat} {B : BT} {E : Int × Nat} {F : Int × Nat × Nat} {S Y : Nat → Int → Int} {g : Int → Int} {R : va_W} {p q o : Int} (hI : MI Y) (p0 : 0 ≤ p) (p1 : p < Y 10 0) (q0 : 0 ≤ q) (q1 : q < Y 10 0) (hA : AP Y S o (Y 3 0)) (o0 : 0 ≤ o) (o1 : o ≤ 180) : MM C l yX3_meets cX3_meets 2 (some .boolean) 2 0 0 [.ref (pA ad p), .ref (pA ad q)] (WW C ad B E F S Y g R) (rb (mtF Y p q o) (WW C ad B E F S Y g R)) := by
  refine mm_of (by decide +kernel) (Nat.le_of_ble_eq_true rfl) hfl (fun K Q X r => ?_)
  have X : Cx C l "Springleaf$Part" cX3_meets 2 2 0 0 K := X
  have I3 := hI.1
  have I10 := hI.2.2.1
  have I12 := hI.2.2.2.2.1
  have hp := hI.2.2.2.1 p p0 p1
  have hq := hI.2.2.2.1 q q0 q1
  have rip := rise_rng hI p0 p1 o0 o1
  have lop := low_rng hI p0 p1 o0 o1
  have hip := high_rng hI p0 p1 o0 o1
  have riq := rise_rng hI q0 q1 o0 o1
  have loq := low_rng hI q0 q1 o0 o1
  have hiq := high_rng hI q0 q1 o0 o1
  show G C K Q 0 0 0 [(0, .ref (pA ad p)), (1, .ref (pA ad q))] [] (WW C ad B E F S Y g R)
  refine g_aload_n (t := 1) X dX3_meets_0 0 rfl rfl ?_
  refine g_aload_n (t := 2) X dX3_meets_1 1 rfl rfl ?_
  refine g_callV (t := 5) (mc := 0) (ms := 0) (rest := []) X mt_X3_sharesLineWith q2_10 q2_11 q2_12 _ (WW_p (p := p) (by omega) (by omega)) rfl (c_X3_sharesLineWith hfl hI p0 p1 q0 q1) (by decide) (Nat.le_of_ble_eq_true rfl) (Nat.le_of_ble_eq_true rfl) (Nat.le_of_ble_eq_true rfl) rfl rfl dX3_meets_2 rfl (k_rb (fun b_2 => ?_) (fun b_2 => ?_))
  · refine g_if_eq (t := 64) (u := 8) X dX3_meets_5 (by decide) rfl ⟨by omega, by omega⟩ (fun c => absurd c (by decide)) (fun _ => ?_)
    refine g_aload_n (t := 9) X dX3_meets_8 0 rfl rfl ?_
    refine g_callV (t := 12) (mc := 0) (ms := 0) (rest := []) X mt_X3_spanStart q2_14 q2_15 q2_16 _ (WW_p (p := p) (by omega) (by omega)) rfl (c_X3_spanStart (p := p) (o := o) hfl hI (by omega) (by omega) hA (by omega) (by omega)) (by decide) (Nat.le_of_ble_eq_true rfl) (Nat.le_of_ble_eq_true rfl) (Nat.le_of_ble_eq_true rfl) rfl rfl dX3_meets_9 rfl (k_rv ?_)
    refine g_aload_n (t := 13) X dX3_meets_12 1 rfl rfl ?_
    refine g_callV (t := 16) (mc := 0) (ms := 0) (rest := [vi (lowF Y p o)]) X mt_X3_spanEnd q2_23 q2_24 q2_25 _ (WW_p (p := q) (by omega) (by omega)) rfl (c_X3_spanEnd (p := q) (o := o) hfl hI (by omega) (by omega) hA (by omega) (by omega)) (by decide) (Nat.le_of_ble_eq_true rfl) (Nat.le_of_ble_eq_true rfl) (Nat.le_of_ble_eq_true rfl) rfl rfl dX3_meets_13 rfl (k_rv ?_)
    refine g_icmp_gt (t := 64) (u := 19) X dX3_meets_16 (by decide) rfl ⟨by omega, by omega⟩ ⟨by omega, by omega⟩ (fun c_16 => ?_) (fun c_16 => ?_)
    · refine g_iconst (t := 65) X dX3_meets_64 rfl ?_
      exact g_zret X r rfl (rb_f (fun h => by obtain ⟨g1, g2, g3, g4, g5, g6, g7⟩ := h; first | exact b_2 g1 | omega)) (Nat.le_of_ble_eq_true rfl) (Nat.le_of_ble_eq_true rfl) dX3_meets_65
    · refine g_aload_n (t := 20) X dX3_meets_19 1 rfl rfl ?_
      refine g_callV (t := 23) (mc := 0) (ms := 0) (rest := []) X mt_X3_spanStart q2_14 q2_15 q2_16 _ (WW_p (p := q) (by omega) (by omega)) rfl (c_X3_spanStart (p := q) (o := o) hfl hI (by omega) (by omega) hA (by omega) (by omega)) (by decide) (Nat.le_of_ble_eq_true rfl) (Nat.le_of_ble_eq_true rfl) (Nat.le_of_ble_eq_true rfl) rfl rfl dX3_meets_20 rfl (k_rv ?_)
      refine g_aload_n (t := 24) X dX3_meets_23 0 rfl rfl ?_
      refine g_callV (t := 27) (mc := 0) (ms := 0) (rest := [vi (lowF Y q o)]) X mt_X3_spanEnd q2_23 q2_24 q2_25 _ (WW_p (p := p) (by omega) (by omega)) rfl (c_X3_spanEnd (p := p) (o := o) hfl hI (by omega) (by omega) hA (by omega) (by omega)) (by decide) (Nat.le_of_ble_eq_true rfl) (Nat.le_of_ble_eq_true rfl) (Nat.le_of_ble_eq_true rfl) rfl rfl dX3_meets_24 rfl (k_rv ?_)
      refine g_icmp_gt (t := 64) (u := 30) X dX3_meets_27 (by decide) rfl ⟨by omega, by omega⟩ ⟨by omega, by omega⟩ (fun c_27 => ?_) (fun c_27 => ?_)
      · refine g_iconst (t := 65) X dX3_meets_64 rfl ?_
        exact g_zret X r rfl (rb_f (fun h => by obtain ⟨g1, g2, g3, g4, g5, g6, g7⟩ := h; first | exact b_2 g1 | omega)) (Nat.le_of_ble_eq_true rfl) (Nat.le_of_ble_eq_true rfl) dX3_meets_65
      · refine g_aload_n (t := 31) X dX3_meets_30 0 rfl rfl ?_
        refine g_callV (t := 34) (mc := 0) (ms := 0) (rest := []) X mt_X3_rise q2_28 q2_29 q2_30 _ (WW_p (p := p) (by omega) (by omega)) rfl (c_X3_rise (p := p) (o := o) hfl hI (by omega) (by omega) hA (by omega) (by omega)) (by decide) (Nat.le_of_ble_eq_true rfl) (Nat.le_of_ble_eq_true rfl) (Nat.le_of_ble_eq_true rfl) rfl rfl dX3_meets_31 rfl (k_rv ?_)
        refine g_if_le (t := 64) (u := 37) X dX3_meets_34 (by decide) rfl ⟨by omega, by omega⟩ (fun c_34 => ?_) (fun c_34 => ?_)
        · refine g_iconst (t := 65) X dX3_meets_64 rfl ?_
          exact g_zret X r rfl (rb_f (fun h => by obtain ⟨g1, g2, g3, g4, g5, g6, g7⟩ := h; first | exact b_2 g1 | omega)) (Nat.le_of_ble_eq_true rfl) (Nat.le_of_ble_eq_true rfl) dX3_meets_65
        · refine g_aload_n (t := 38) X dX3_meets_37 1 rfl rfl ?_
          refine g_callV (t := 41) (mc := 0) (ms := 0) (rest := []) X mt_X3_rise q2_28 q2_29 q2_30 _ (WW_p (p := q) (by omega) (by omega)) rfl (c_X3_rise (p := q) (o := o) hfl hI (by omega) (by omega) hA (by omega) (by omega)) (by decide) (Nat.le_of_ble_eq_true rfl) (Nat.le_of_ble_eq_true rfl) (Nat.le_of_ble_eq_true rfl) rfl rfl dX3_meets_38 rfl (k_rv ?_)
          refine g_if_le (t := 64) (u := 44) X dX3_meets_41 (by decide) rfl ⟨by omega, by omega⟩ (fun c_41 => ?_) (fun c_41 => ?_)
          · refine g_iconst (t := 65) X dX3_meets_64 rfl ?_
            exact g_zret X r rfl (rb_f (fun h => by obtain ⟨g1, g2, g3, g4, g5, g6, g7⟩ := h; first | exact b_2 g1 | omega)) (Nat.le_of_ble_eq_true rfl) (Nat.le_of_ble_eq_true rfl) dX3_meets_65
          · refine g_aload_n (t := 45) X dX3_meets_44 0 rfl rfl ?_
            refine g_callV (t := 48) (mc := 0) (ms := 0) (rest := []) X mt_X3_rise q2_28 q2_29 q2_30 _ (WW_p (p := p) (by omega) (by omega)) rfl (c_X3_rise (p := p) (o := o) hfl hI (by omega) (by omega) hA (by omega) (by omega)) (by decide) (Nat.le_of_ble_eq_true rfl) (Nat.le_of_ble_eq_true rfl) (Nat.le_of_ble_eq_true rfl) rfl rfl dX3_meets_45 rfl (k_rv ?_)
            refine g_aload_n (t := 49) X dX3_meets_48 1 rfl rfl ?_
            refine g_callV (t := 52) (mc := 0) (ms := 0) (rest := [vi (riseF Y p o)]) X mt_X3_rise q2_28 q2_29 q2_30 _ (WW_p (p := q) (by omega) (by omega)) rfl (c_X3_rise (p := q) (o := o) hfl hI (by omega) (by omega) hA (by omega) (by omega)) (by decide) (Nat.le_of_ble_eq_true rfl) (Nat.le_of_ble_eq_true rfl) (Nat.le_of_ble_eq_true rfl) rfl rfl dX3_meets_49 rfl (k_rv ?_)
            refine g_isub (t := 53) X dX3_meets_52 rfl ?_
            refine g_mabs (t := 56) X q2_32 q2_33 q1_11 q2_34 (Nat.le_of_ble_eq_true rfl) (Nat.le_of_ble_eq_true rfl) (Nat.le_of_ble_eq_true rfl) ⟨by omega, by omega⟩ dX3_meets_53 rfl ?_
            obtain ⟨av, eav⟩ : ∃ z : Int, z = if 0 ≤ (riseF Y p o) - (riseF Y q o) then (riseF Y p o) - (riseF Y q o) else 0 - ((riseF Y p o) - (riseF Y q o)) := ⟨_, rfl⟩
            rw [← eav]
            have hav : (av = riseF Y p o - riseF Y q o ∧ 0 ≤ riseF Y p o - riseF Y q o) ∨ (av = riseF Y q o - riseF Y p o ∧ riseF Y p o - riseF Y q o < 0) := by rw [eav]; split <;> omega
            refine g_iconst (t := 57) X dX3_meets_56 rfl ?_
            refine g_icmp_gt (t := 64) (u := 60) X dX3_meets_57 (by decide) rfl ⟨by omega, by omega⟩ ⟨by omega, by omega⟩ (fun c_57 => ?_) (fun c_57 => ?_)
            · refine g_iconst (t := 65) X dX3_meets_64 rfl ?_
              exact g_zret X r rfl (rb_f (fun h => by obtain ⟨g1, g2, g3, g4, g5, g6, g7⟩ := h; first | exact b_2 g1 | omega)) (Nat.le_of_ble_eq_true rfl) (Nat.le_of_ble_eq_true rfl) dX3_meets_65
            · refine g_iconst (t := 61) X dX3_meets_60 rfl ?_
              refine g_goto (t := 65) X dX3_meets_61 (by decide) ?_
              exact g_zret X r rfl (rb_t ⟨b_2, by omega, by omega, by omega, by omega, by omega, by omega⟩) (Nat.le_of_ble_eq_true rfl) (Nat.le_of_ble_eq_true rfl) dX3_meets_65
  · refine g_if_eq (t := 64) (u := 8) X dX3_meets_5 (by decide) rfl ⟨by omega, by omega⟩ (fun _ => ?_) (fun c => absurd c (by decide))
    refine g_iconst (t := 65) X dX3_meets_64 rfl ?_
    exact g_zret X r rfl (rb_f (fun h => by obtain ⟨g1, g2, g3, g4, g5, g6, g7⟩ := h; first | exact b_2 g1 | omega)) (Nat.le_of_ble_eq_true rfl) (Nat.le_of_ble_eq_true rfl) dX3_meets_65

set_option maxHeartbeats 4000000 in
set_option maxRecDepth 100000 in
/-- Part.coversStartOf(other) -/
theorem c_X3_coversStartOf {C : WC} {l : Launch} (hfl : l.stackTraces = false) {ad : Nat → Nat} {B : BT} {E : Int × Nat} {F : Int × Nat × Nat} {S Y : Nat → Int → Int} {g : Int → Int} {R : va_W} {p q o : Int} (hI : MI Y) (p0 : 0 ≤ p) (p1 : p < Y 10 0) (q0 : 0 ≤ q) (q1 : q < Y 10 0) (hA : AP Y S o (Y 3 0)) (o0 : 0 ≤ o) (o1 : o ≤ 180) : MM C l yX3_coversStartOf cX3_coversStartOf 2 (some .boolean) 2 0 0 [.ref (pA ad p), .ref (pA ad q)] (WW C ad B E F S Y g R) (rb (shareF Y p q ∧ lowF Y p o ≤ Y 5 q ∧ Y 5 q ≤ highF Y p o) (WW C ad B E F S Y g R)) := by
  refine mm_of (by decide +kernel) (Nat.le_of_ble_eq_true rfl) hfl (fun K Q X r => ?_)
  have X : Cx C l "Springleaf$Part" cX3_coversStartOf 2 2 0 0 K := X
  have I3 := hI.1
  have I10 := hI.2.2.1
  have I12 := hI.2.2.2.2.1
  have hp := hI.2.2.2.1 p p0 p1
  have hq := hI.2.2.2.1 q q0 q1
  have rip := rise_rng hI p0 p1 o0 o1
  have lop := low_rng hI p0 p1 o0 o1
  have hip := high_rng hI p0 p1 o0 o1
  have riq := rise_rng hI q0 q1 o0 o1
  have loq := low_rng hI q0 q1 o0 o1
  have hiq := high_rng hI q0 q1 o0 o1
  show G C K Q 0 0 0 [(0, .ref (pA ad p)), (1, .ref (pA ad q))] [] (WW C ad B E F S Y g R)
  refine g_aload_n (t := 1) X dX3_coversStartOf_0 0 rfl rfl ?_
  refine g_aload_n (t := 2) X dX3_coversStartOf_1 1 rfl rfl ?_
  refine g_callV (t := 5) (mc := 0) (ms := 0) (rest := []) X mt_X3_sharesLineWith q2_10 q2_11 q2_12 _ (WW_p (p := p) (by omega) (by omega)) rfl (c_X3_sharesLineWith hfl hI p0 p1 q0 q1) (by decide) (Nat.le_of_ble_eq_true rfl) (Nat.le_of_ble_eq_true rfl) (Nat.le_of_ble_eq_true rfl) rfl rfl dX3_coversStartOf_2 rfl (k_rb (fun b_2 => ?_) (fun b_2 => ?_))
  · refine g_if_eq (t := 34) (u := 8) X dX3_coversStartOf_5 (by decide) rfl ⟨by omega, by omega⟩ (fun c => absurd c (by decide)) (fun _ => ?_)
    refine g_aload_n (t := 9) X dX3_coversStartOf_8 0 rfl rfl ?_
    refine g_callV (t := 12) (mc := 0) (ms := 0) (rest := []) X mt_X3_spanStart q2_14 q2_15 q2_16 _ (WW_p (p := p) (by omega) (by omega)) rfl (c_X3_spanStart (p := p) (o := o) hfl hI (by omega) (by omega) hA (by omega) (by omega)) (by decide) (Nat.le_of_ble_eq_true rfl) (Nat.le_of_ble_eq_true rfl) (Nat.le_of_ble_eq_true rfl) rfl rfl dX3_coversStartOf_9 rfl (k_rv ?_)
    refine g_aload_n (t := 13) X dX3_coversStartOf_12 1 rfl rfl ?_
    refine g_getf (t := 16) (v := vi (Y 5 q)) X inX3 _ (WW_p (p := q) (by omega) (by omega)) rfl 1 (by decide) q2_219 rfl rfl dX3_coversStartOf_13 rfl ?_
    refine g_icmp_gt (t := 34) (u := 19) X dX3_coversStartOf_16 (by decide) rfl ⟨by omega, by omega⟩ ⟨by omega, by omega⟩ (fun c_16 => ?_) (fun c_16 => ?_)
    · refine g_iconst (t := 35) X dX3_coversStartOf_34 rfl ?_
      exact g_zret X r rfl (rb_f (fun h => by obtain ⟨g1, g2, g3⟩ := h; first | exact b_2 g1 | omega)) (Nat.le_of_ble_eq_true rfl) (Nat.le_of_ble_eq_true rfl) dX3_coversStartOf_35
    · refine g_aload_n (t := 20) X dX3_coversStartOf_19 1 rfl rfl ?_
      refine g_getf (t := 23) (v := vi (Y 5 q)) X inX3 _ (WW_p (p := q) (by omega) (by omega)) rfl 1 (by decide) q2_219 rfl rfl dX3_coversStartOf_20 rfl ?_
      refine g_aload_n (t := 24) X dX3_coversStartOf_23 0 rfl rfl ?_
      refine g_callV (t := 27) (mc := 0) (ms := 0) (rest := [vi (Y 5 q)]) X mt_X3_spanEnd q2_23 q2_24 q2_25 _ (WW_p (p := p) (by omega) (by omega)) rfl (c_X3_spanEnd (p := p) (o := o) hfl hI (by omega) (by omega) hA (by omega) (by omega)) (by decide) (Nat.le_of_ble_eq_true rfl) (Nat.le_of_ble_eq_true rfl) (Nat.le_of_ble_eq_true rfl) rfl rfl dX3_coversStartOf_24 rfl (k_rv ?_)
      refine g_icmp_gt (t := 34) (u := 30) X dX3_coversStartOf_27 (by decide) rfl ⟨by omega, by omega⟩ ⟨by omega, by omega⟩ (fun c_27 => ?_) (fun c_27 => ?_)
      · refine g_iconst (t := 35) X dX3_coversStartOf_34 rfl ?_
        exact g_zret X r rfl (rb_f (fun h => by obtain ⟨g1, g2, g3⟩ := h; first | exact b_2 g1 | omega)) (Nat.le_of_ble_eq_true rfl) (Nat.le_of_ble_eq_true rfl) dX3_coversStartOf_35
      · refine g_iconst (t := 31) X dX3_coversStartOf_30 rfl ?_
        refine g_goto (t := 35) X dX3_coversStartOf_31 (by decide) ?_
        exact g_zret X r rfl (rb_t ⟨b_2, by omega, by omega⟩) (Nat.le_of_ble_eq_true rfl) (Nat.le_of_ble_eq_true rfl) dX3_coversStartOf_35
  · refine g_if_eq (t := 34) (u := 8) X dX3_coversStartOf_5 (by decide) rfl ⟨by omega, by omega⟩ (fun _ => ?_) (fun c => absurd c (by decide))
    refine g_iconst (t := 35) X dX3_coversStartOf_34 rfl ?_
    exact g_zret X r rfl (rb_f (fun h => by obtain ⟨g1, g2, g3⟩ := h; first | exact b_2 g1 | omega)) (Nat.le_of_ble_eq_true rfl) (Nat.le_of_ble_eq_true rfl) dX3_coversStartOf_35

