/-- the rows used again hold the angles of the first n folds, at o -/
def AP (Y Z : Nat → Int → Int) (o n : Int) : Prop := ∀ f : Int, 0 ≤ f → f < n → Z 0 f = angF Y f o ∧ (1 ≤ f → Z 1 f = angF Y (Y 0 f) o * Y 1 f)
def rA (a : Nat) (Y : Nat → Int → Int) (o : Int) (wf : (Nat → Int → Int) → va_W) : Option Value → va_W → Prop := fun v w => v = some (.ref a) ∧ ∃ Z, AP Y Z o (Y 3 0) ∧ w = wf Z
def rN (Y : Nat → Int → Int) (o : Int) (wf : (Nat → Int → Int) → va_W) : Option Value → va_W → Prop := fun v w => v = none ∧ ∃ Z, AP Y Z o (Y 3 0) ∧ w = wf Z
theorem k_rA {C : WC} {K : GK} {Q : State → Prop} {cells slots t : Nat} {lv : List (Nat × Value)} {rest : List Value} {a : Nat} {Y : Nat → Int → Int} {o : Int} {wf : (Nat → Int → Int) → va_W} (h : ∀ Z, AP Y Z o (Y 3 0) → G C K Q cells slots t lv (.ref a :: rest) (wf Z)) : ∀ (v : Option Value) (ws1 : va_W), rA a Y o wf v ws1 → G C K Q cells slots t lv (v.toList ++ rest) ws1 := by
  rintro _ _ ⟨rfl, Z, hZ, rfl⟩; exact h Z hZ
theorem k_rN {C : WC} {K : GK} {Q : State → Prop} {cells slots t : Nat} {lv : List (Nat × Value)} {rest : List Value} {Y : Nat → Int → Int} {o : Int} {wf : (Nat → Int → Int) → va_W} (h : ∀ Z, AP Y Z o (Y 3 0) → G C K Q cells slots t lv rest (wf Z)) : ∀ (v : Option Value) (ws1 : va_W), rN Y o wf v ws1 → G C K Q cells slots t lv (v.toList ++ rest) ws1 := by
  rintro _ _ ⟨rfl, Z, hZ, rfl⟩; exact h Z hZ
theorem AP.zero (Y S : Nat → Int → Int) (o : Int) : AP Y (u2 S 0 0 o) o 1 := by
  intro f f0 f1
  have e : f = 0 := by omega
  subst e
  refine ⟨by rw [u2_s, uI_s, angF_0 o (Int.le_refl 0)], fun h => by omega⟩
theorem pul_rng {Y : Nat → Int → Int} (hI : MI Y) {o f : Int} (o0 : 0 ≤ o) (o1 : o ≤ 180) (f1 : 1 ≤ f) (f2 : f < Y 3 0) : 0 ≤ angF Y (Y 0 f) o * Y 1 f ∧ angF Y (Y 0 f) o * Y 1 f ≤ 1440 := by
  have h1 := hI.2.1 f f1 f2
  have h2 := angF_rng Y o0 o1 (Y 0 f)
  have := mul_rng (A := 180) (B := 8) h2.1 h2.2 (b := Y 1 f) (by omega) (by omega)
  omega
theorem AP.step {Y Z : Nat → Int → Int} (hI : MI Y) {o f : Int} (f1 : 1 ≤ f) (f2 : f < Y 3 0) (h : AP Y Z o f) : AP Y (u2 (u2 Z 1 f (Z 0 (Y 0 f) * Y 1 f)) 0 f (clp (Z 0 (Y 0 f) * Y 1 f / 4 + Y 2 f))) o (f + 1) := by
  have hf := hI.2.1 f f1 f2
  have e0 := (h (Y 0 f) hf.1 hf.2.1).1
  rw [e0]
  intro i i0 i1
  rw [u2_s, u2_n _ _ _ (show (1 : Nat) ≠ 0 by decide), u2_s, u2_n _ _ _ (show (0 : Nat) ≠ 1 by decide)]
  by_cases e : i = f
  · subst e
    rw [uI_s, uI_s]
    exact ⟨(angF_step hI o f1 f2).symm, fun _ => rfl⟩
  · rw [uI_n _ _ e, uI_n _ _ e]
    exact h i i0 (by omega)
/-- halfway through a degree -/
def BP (Y Z : Nat → Int → Int) (o f : Int) : Prop := ∀ i : Int, 0 ≤ i → i < Y 3 0 → (i < f → Z 0 i = angF Y i (o + 1) ∧ (1 ≤ i → Z 1 i = angF Y (Y 0 i) (o + 1) * Y 1 i) ∧ Z 2 i = angF Y i (o + 1) - angF Y i o) ∧ (f ≤ i → Z 0 i = angF Y i o ∧ (1 ≤ i → Z 1 i = angF Y (Y 0 i) o * Y 1 i))
theorem BP.zero {Y S : Nat → Int → Int} {o : Int} (hn : 1 ≤ Y 3 0) (h : AP Y S o (Y 3 0)) : BP Y (u2 (u2 S 2 0 1) 0 0 (S 0 0 + 1)) o 1 := by
  have e0 := (h 0 (Int.le_refl 0) (by omega)).1
  rw [angF_0 o (Int.le_refl 0)] at e0
  intro i i0 i1
  rw [u2_s, u2_n _ _ _ (show (1 : Nat) ≠ 0 by decide), u2_n _ _ _ (show (2 : Nat) ≠ 0 by decide), u2_s, u2_n _ _ _ (show (1 : Nat) ≠ 2 by decide), u2_n _ _ _ (show (0 : Nat) ≠ 2 by decide)]
  by_cases e : i = 0
  · subst e
    rw [uI_s, uI_s, angF_0 _ (Int.le_refl 0), angF_0 _ (Int.le_refl 0), e0]
    exact ⟨fun _ => ⟨rfl, fun q => by omega, by omega⟩, fun q => by omega⟩
  · rw [uI_n _ _ e]
    exact ⟨fun q => by omega, fun _ => h i i0 i1⟩
theorem BP.pul {Y Z : Nat → Int → Int} (hI : MI Y) {o f : Int} (f1 : 1 ≤ f) (f2 : f < Y 3 0) (h : BP Y Z o f) : Z 1 f + Z 2 (Y 0 f) * Y 1 f = angF Y (Y 0 f) (o + 1) * Y 1 f := by
  have hf := hI.2.1 f f1 f2
  have e1 := ((h f (by omega) f2).2 (Int.le_refl f)).2 f1
  have e2 := ((h (Y 0 f) hf.1 (by omega)).1 hf.2.1).2.2
  rw [e1, e2, Int.sub_mul]
  omega
theorem BP.step {Y Z : Nat → Int → Int} (hI : MI Y) {o f : Int} (f1 : 1 ≤ f) (f2 : f < Y 3 0) (h : BP Y Z o f) {P A : Int} (hP : P = angF Y (Y 0 f) (o + 1) * Y 1 f) (hA : A = clp (P / 4 + Y 2 f)) : BP Y (u2 (u2 (u2 Z 1 f P) 2 f (A - Z 0 f)) 0 f (Z 0 f + uI (Z 2) f (A - Z 0 f) f)) o (f + 1) := by
  have hf := hI.2.1 f f1 f2
  have e0 := ((h f (by omega) f2).2 (Int.le_refl f)).1
  have eA : A = angF Y f (o + 1) := by rw [hA, hP]; exact (angF_step hI (o + 1) f1 f2).symm
  rw [uI_s]
  intro i i0 i1
  rw [u2_s, u2_n _ _ _ (show (1 : Nat) ≠ 0 by decide), u2_n _ _ _ (show (2 : Nat) ≠ 0 by decide), u2_s, u2_n _ _ _ (show (1 : Nat) ≠ 2 by decide), u2_s, u2_n _ _ _ (show (0 : Nat) ≠ 2 by decide), u2_n _ _ _ (show (0 : Nat) ≠ 1 by decide), u2_n _ _ _ (show (2 : Nat) ≠ 1 by decide)]
  by_cases e : i = f
  · subst e
    rw [uI_s, uI_s, uI_s, e0, eA, hP]
    exact ⟨fun _ => ⟨by omega, fun _ => rfl, rfl⟩, fun q => by omega⟩
  · rw [uI_n _ _ e, uI_n _ _ e, uI_n _ _ e]
    obtain ⟨a, b⟩ := h i i0 i1
    exact ⟨fun q => a (by omega), fun q => b (by omega)⟩
theorem BP.done {Y Z : Nat → Int → Int} {o f : Int} (h : BP Y Z o f) (hf : Y 3 0 ≤ f) : AP Y Z (o + 1) (Y 3 0) := fun i i0 i1 => ⟨((h i i0 i1).1 (by omega)).1, ((h i i0 i1).1 (by omega)).2.1⟩

set_option maxHeartbeats 4000000 in
set_option maxRecDepth 100000 in
/-- add(on, pull, lean) -/
theorem c_X0_add {C : WC} {l : Launch} (hfl : l.stackTraces = false) {ad : Nat → Nat} {B : BT} {E : Int × Nat} {S Y V : Nat → Int → Int} {R : va_W} {f x y : Int}  (hI : MI Y) (n1 : Y 3 0 < 12) : MM C l yX0_add cX0_add 4 (some .int) 0 0 0 [.ref (ad 4), vi f, vi x, vi y] (wC C ad B E S Y V ++ R) (rv (vi (Y 3 0)) (wC C ad B E S (u2 (u2 (u2 (u2 Y 0 (Y 3 0) f) 1 (Y 3 0) x) 2 (Y 3 0) y) 3 0 (Y 3 0 + 1)) V ++ R)) := by
  refine mm_of (by decide +kernel) (Nat.le_of_ble_eq_true rfl) hfl (fun K Q X r => ?_)
  have X : Cx C l "Springleaf$Folds" cX0_add 4 0 0 0 K := X
  have I3 := hI.1
  have I10 := hI.2.2.1
  have I12 := hI.2.2.2.2.1
  show G C K Q 0 0 0 [(0, .ref (ad 4)), (1, vi f), (2, vi x), (3, vi y)] [] (wC C ad B E S Y V ++ R)
  refine g_aload_n (t := 1) X dX0_add_0 0 rfl rfl ?_
  refine getf_X0 (t := 4) X 0 (by decide) q1_79 rfl rfl dX0_add_1 rfl ?_
  refine g_aload_n (t := 5) X dX0_add_4 0 rfl rfl ?_
  refine getf_X0 (t := 8) X 3 (by decide) q1_83 rfl rfl dX0_add_5 rfl ?_
  refine g_iload_n (t := 9) X dX0_add_8 1 rfl rfl ?_
  refine g_iast (t := 10) (f := Y 0) X 5 wC_5 (by omega) (by omega) (by omega) wC_s_5 dX0_add_9 rfl ?_
  refine g_aload_n (t := 11) X dX0_add_10 0 rfl rfl ?_
  refine getf_X0 (t := 14) X 1 (by decide) q1_81 rfl rfl dX0_add_11 rfl ?_
  refine g_aload_n (t := 15) X dX0_add_14 0 rfl rfl ?_
  refine getf_X0 (t := 18) (v := vi (Y 3 0)) X 3 (by decide) q1_83 rfl rfl dX0_add_15 rfl ?_
  refine g_iload_n (t := 19) X dX0_add_18 2 rfl rfl ?_
  refine g_iast (t := 20) (f := Y 1) X 6 wC_6 (by omega) (by omega) (by omega) wC_s_6 dX0_add_19 rfl ?_
  refine g_aload_n (t := 21) X dX0_add_20 0 rfl rfl ?_
  refine getf_X0 (t := 24) X 2 (by decide) q1_82 rfl rfl dX0_add_21 rfl ?_
  refine g_aload_n (t := 25) X dX0_add_24 0 rfl rfl ?_
  refine getf_X0 (t := 28) (v := vi (Y 3 0)) X 3 (by decide) q1_83 rfl rfl dX0_add_25 rfl ?_
  refine g_iload_n (t := 29) X dX0_add_28 3 rfl rfl ?_
  refine g_iast (t := 30) (f := Y 2) X 7 wC_7 (by omega) (by omega) (by omega) wC_s_7 dX0_add_29 rfl ?_
  refine g_aload_n (t := 31) X dX0_add_30 0 rfl rfl ?_
  refine g_dup (t := 32) X dX0_add_31 rfl rfl ?_
  refine getf_X0 (t := 35) (v := vi (Y 3 0)) X 3 (by decide) q1_83 rfl rfl dX0_add_32 rfl ?_
  refine g_iconst (t := 36) X dX0_add_35 rfl ?_
  refine g_iadd (t := 37) X dX0_add_36 rfl ?_
  refine putf_X0 (t := 40) X 3 (by decide) q1_83 rfl rfl rfl wC_f_X0_3 dX0_add_37 rfl ?_
  refine g_aload_n (t := 41) X dX0_add_40 0 rfl rfl ?_
  refine getf_X0 (t := 44) (v := vi ((Y 3 0) + 1)) X 3 (by decide) q1_83 rfl rfl dX0_add_41 rfl ?_
  refine g_iconst (t := 45) X dX0_add_44 rfl ?_
  refine g_isub (t := 46) X dX0_add_45 rfl ?_
  exact g_iret X r (rv_i (by omega)) (Nat.le_of_ble_eq_true rfl) (Nat.le_of_ble_eq_true rfl) dX0_add_46

set_option maxHeartbeats 4000000 in
set_option maxRecDepth 100000 in
/-- angleOfPulled(fold) -/
theorem c_X0_angleOfPulled {C : WC} {l : Launch} (hfl : l.stackTraces = false) {ad : Nat → Nat} {B : BT} {E : Int × Nat} {S Y V : Nat → Int → Int} {R : va_W} {f x : Int}  (hI : MI Y) (f1 : 1 ≤ f) (f2 : f < Y 3 0) (hx : S 1 f = x) (x0 : 0 ≤ x) (x1 : x ≤ 1440) : MM C l yX0_angleOfPulled cX0_angleOfPulled 3 (some .int) 1 0 0 [.ref (ad 4), vi f] (wC C ad B E S Y V ++ R) (rv (vi (clp (x / 4 + Y 2 f))) (wC C ad B E S Y V ++ R)) := by
  refine mm_of (by decide +kernel) (Nat.le_of_ble_eq_true rfl) hfl (fun K Q X r => ?_)
  have X : Cx C l "Springleaf$Folds" cX0_angleOfPulled 3 1 0 0 K := X
  have I3 := hI.1
  have I10 := hI.2.2.1
  have I12 := hI.2.2.2.2.1
  have hf := hI.2.1 f f1 f2
  show G C K Q 0 0 0 [(0, .ref (ad 4)), (1, vi f)] [] (wC C ad B E S Y V ++ R)
  refine g_aload_n (t := 1) X dX0_angleOfPulled_0 0 rfl rfl ?_
  refine getf_X0 (t := 4) X 5 (by decide) q1_86 rfl rfl dX0_angleOfPulled_1 rfl ?_
  refine g_iload_n (t := 5) X dX0_angleOfPulled_4 1 rfl rfl ?_
  refine g_iald (t := 6) (f := S 1) X 9 wC_9 (by omega) (by omega) (by omega) dX0_angleOfPulled_5 rfl ?_
  rw [hx]
  refine g_iconst (t := 7) X dX0_angleOfPulled_6 rfl ?_
  refine g_callS (t := 10) (mc := 0) (ms := 0) (rest := []) X mt_J9_floorDiv_7cf53 q1_216 q1_217 (c_J9_floorDiv_7cf53 hfl (by omega) (by omega)) (by decide) (Nat.le_of_ble_eq_true rfl) (Nat.le_of_ble_eq_true rfl) (Nat.le_of_ble_eq_true rfl) rfl rfl dX0_angleOfPulled_7 rfl (k_rv ?_)
  refine g_aload_n (t := 11) X dX0_angleOfPulled_10 0 rfl rfl ?_
  refine getf_X0 (t := 14) X 2 (by decide) q1_82 rfl rfl dX0_angleOfPulled_11 rfl ?_
  refine g_iload_n (t := 15) X dX0_angleOfPulled_14 1 rfl rfl ?_
  refine g_iald (t := 16) (f := Y 2) X 7 wC_7 (by omega) (by omega) (by omega) dX0_angleOfPulled_15 rfl ?_
  refine g_iadd (t := 17) X dX0_angleOfPulled_16 rfl ?_
  refine g_istore_n (t := 18) (lv1 := [(2, vi ((x / 4) + ((Y 2) f))), (0, .ref (ad 4)), (1, vi f)]) X dX0_angleOfPulled_17 (by decide) rfl rfl ?_
  refine g_iconst (t := 19) X dX0_angleOfPulled_18 rfl ?_
  refine g_sipush (t := 22) (z := 180) X dX0_angleOfPulled_19 (by decide +kernel) rfl ?_
  refine g_iload_n (t := 23) X dX0_angleOfPulled_22 0 rfl rfl ?_
  refine g_mmin (t := 26) X q1_219 q1_220 q1_18 q1_221 (Nat.le_of_ble_eq_true rfl) (Nat.le_of_ble_eq_true rfl) (Nat.le_of_ble_eq_true rfl) ⟨by omega, by omega⟩ ⟨by omega, by omega⟩ dX0_angleOfPulled_23 rfl ?_
  obtain ⟨mv, emv⟩ : ∃ z : Int, z = if (x / 4) + ((Y 2) f) < 180 then (x / 4) + ((Y 2) f) else 180 := ⟨_, rfl⟩
  rw [← emv]
  have hmv : -200 ≤ mv ∧ mv ≤ 180 := by rw [emv]; split <;> omega
  refine g_mmax (t := 29) X q1_222 q1_223 q1_18 q1_224 (Nat.le_of_ble_eq_true rfl) (Nat.le_of_ble_eq_true rfl) (Nat.le_of_ble_eq_true rfl) ⟨by omega, by omega⟩ ⟨by omega, by omega⟩ dX0_angleOfPulled_26 rfl ?_
  exact g_iret X r (rv_i (by rw [emv]; unfold clp; repeat (first | omega | split))) (Nat.le_of_ble_eq_true rfl) (Nat.le_of_ble_eq_true rfl) dX0_angleOfPulled_29

set_option maxHeartbeats 4000000 in
set_option maxRecDepth 100000 in
/-- anglesAt(open) -/
theorem c_X0_anglesAt {C : WC} {l : Launch} (hfl : l.stackTraces = false) {ad : Nat → Nat} {B : BT} {E : Int × Nat} {S Y V : Nat → Int → Int} {R : va_W} {o : Int}  (hI : MI Y) (o0 : 0 ≤ o) (o1 : o ≤ 180) : MM C l yX0_anglesAt cX0_anglesAt 3 (some (.array .int)) 2 0 0 [.ref (ad 4), vi o] (wC C ad B E S Y V ++ R) (rA (ad 8) Y o (fun Z => wC C ad B E Z Y V ++ R)) := by
  refine mm_of (by decide +kernel) (Nat.le_of_ble_eq_true rfl) hfl (fun K Q X r => ?_)
  have X : Cx C l "Springleaf$Folds" cX0_anglesAt 3 2 0 0 K := X
  have I3 := hI.1
  have I10 := hI.2.2.1
  have I12 := hI.2.2.2.2.1
  have loop : ∀ (n : Nat) (f : Int) (Z : Nat → Int → Int), 1 ≤ f → f ≤ Y 3 0 → Y 3 0 - f < n → AP Y Z o f → G C K Q 0 0 9 [(0, .ref (ad 4)), (2, vi f)] [] (wC C ad B E Z Y V ++ R) := by
    intro n
    induction n with
    | zero => intro f Z h0 h1 h2; exact absurd h2 (by omega)
    | succ n ih =>
      intro f Z f1 f2 h2 hZ
      refine g_iload_n (t := 10) X dX0_anglesAt_9 1 rfl rfl ?_
      refine g_aload_n (t := 11) X dX0_anglesAt_10 0 rfl rfl ?_
      refine getf_X0 (t := 14) X 3 (by decide) q1_83 rfl rfl dX0_anglesAt_11 rfl ?_
      refine g_icmp_ge (t := 58) (u := 17) X dX0_anglesAt_14 (by decide) rfl ⟨by omega, by omega⟩ ⟨by omega, by omega⟩ (fun c_14 => ?_) (fun c_14 => ?_)
      · refine g_aload_n (t := 59) X dX0_anglesAt_58 0 rfl rfl ?_
        refine getf_X0 (t := 62) X 4 (by decide) q1_85 rfl rfl dX0_anglesAt_59 rfl ?_
        exact g_aret X r (Or.inr ⟨_, rfl⟩) ⟨rfl, Z, (show f = Y 3 0 by omega) ▸ hZ, rfl⟩ (Nat.le_of_ble_eq_true rfl) (Nat.le_of_ble_eq_true rfl) dX0_anglesAt_62
      · have hf := hI.2.1 f f1 (by omega)
        have hq := pul_rng hI o0 o1 f1 (by omega)
        rw [← (hZ (Y 0 f) hf.1 hf.2.1).1] at hq
        refine g_aload_n (t := 18) X dX0_anglesAt_17 0 rfl rfl ?_
        refine getf_X0 (t := 21) X 5 (by decide) q1_86 rfl rfl dX0_anglesAt_18 rfl ?_
        refine g_iload_n (t := 22) X dX0_anglesAt_21 1 rfl rfl ?_
        refine g_aload_n (t := 23) X dX0_anglesAt_22 0 rfl rfl ?_
        refine getf_X0 (t := 26) X 4 (by decide) q1_85 rfl rfl dX0_anglesAt_23 rfl ?_
        refine g_aload_n (t := 27) X dX0_anglesAt_26 0 rfl rfl ?_
        refine getf_X0 (t := 30) X 0 (by decide) q1_79 rfl rfl dX0_anglesAt_27 rfl ?_
        refine g_iload_n (t := 31) X dX0_anglesAt_30 1 rfl rfl ?_
        refine g_iald (t := 32) (f := Y 0) X 5 wC_5 (by omega) (by omega) (by omega) dX0_anglesAt_31 rfl ?_
        refine g_iald (t := 33) (f := Z 0) X 8 wC_8 (by omega) (by omega) (by omega) dX0_anglesAt_32 rfl ?_
        refine g_aload_n (t := 34) X dX0_anglesAt_33 0 rfl rfl ?_
        refine getf_X0 (t := 37) X 1 (by decide) q1_81 rfl rfl dX0_anglesAt_34 rfl ?_
        refine g_iload_n (t := 38) X dX0_anglesAt_37 1 rfl rfl ?_
        refine g_iald (t := 39) (f := Y 1) X 6 wC_6 (by omega) (by omega) (by omega) dX0_anglesAt_38 rfl ?_
        refine g_imul (t := 40) X dX0_anglesAt_39 rfl ?_
        refine g_iast (t := 41) (f := Z 1) X 9 wC_9 (by omega) (by omega) (by omega) wC_s_9 dX0_anglesAt_40 rfl ?_
        refine g_aload_n (t := 42) X dX0_anglesAt_41 0 rfl rfl ?_
        refine getf_X0 (t := 45) X 4 (by decide) q1_85 rfl rfl dX0_anglesAt_42 rfl ?_
        refine g_iload_n (t := 46) X dX0_anglesAt_45 1 rfl rfl ?_
        refine g_aload_n (t := 47) X dX0_anglesAt_46 0 rfl rfl ?_
        refine g_iload_n (t := 48) X dX0_anglesAt_47 1 rfl rfl ?_
        refine g_callV (t := 51) (mc := 0) (ms := 0) (rest := [vi f, .ref (ad 8)]) X mt_X0_angleOfPulled q1_212 q1_213 q1_214 4 wC_4 rfl (c_X0_angleOfPulled (x := Z 0 (Y 0 f) * Y 1 f) hfl hI (by omega) (by omega) (by rw [u2_s, uI_s]) hq.1 hq.2) (by decide) (Nat.le_of_ble_eq_true rfl) (Nat.le_of_ble_eq_true rfl) (Nat.le_of_ble_eq_true rfl) rfl rfl dX0_anglesAt_48 rfl (k_rv ?_)
        refine g_iast (t := 52) (f := Z 0) X 8 wC_8 (by omega) (by omega) (by omega) wC_s_8 dX0_anglesAt_51 rfl ?_
        refine g_iinc (t := 55) (lv1 := [(2, vi (f + 1)), (0, .ref (ad 4))]) X dX0_anglesAt_52 1 rfl (by decide) rfl rfl ?_
        refine g_goto (t := 9) X dX0_anglesAt_55 (by decide) ?_
        exact g_lv (ih (f + 1) (u2 (u2 Z 1 f (((Z 0) ((Y 0) f)) * ((Y 1) f))) 0 f (clp ((Z 0 (Y 0 f) * Y 1 f) / 4 + Y 2 f))) (by omega) (by omega) (by omega) (hZ.step hI f1 (by omega))) [1, 0] rfl
  show G C K Q 0 0 0 [(0, .ref (ad 4)), (1, vi o)] [] (wC C ad B E S Y V ++ R)
  refine g_aload_n (t := 1) X dX0_anglesAt_0 0 rfl rfl ?_
  refine getf_X0 (t := 4) X 4 (by decide) q1_85 rfl rfl dX0_anglesAt_1 rfl ?_
  refine g_iconst (t := 5) X dX0_anglesAt_4 rfl ?_
  refine g_iload_n (t := 6) X dX0_anglesAt_5 1 rfl rfl ?_
  refine g_iast (t := 7) (f := S 0) X 8 wC_8 (by omega) (by omega) (by omega) wC_s_8 dX0_anglesAt_6 rfl ?_
  refine g_iconst (t := 8) X dX0_anglesAt_7 rfl ?_
  refine g_istore_n (t := 9) (lv1 := [(2, vi 1), (0, .ref (ad 4)), (1, vi o)]) X dX0_anglesAt_8 (by decide) rfl rfl ?_
  exact g_lv (loop ((Y 3 0).toNat + 1) 1 (u2 S 0 0 o) (by omega) (by omega) (by omega) (AP.zero Y S o)) [1, 0] rfl

set_option maxHeartbeats 4000000 in
set_option maxRecDepth 100000 in
/-- openOneDegree() -/
theorem c_X0_openOneDegree {C : WC} {l : Launch} (hfl : l.stackTraces = false) {ad : Nat → Nat} {B : BT} {E : Int × Nat} {S Y V : Nat → Int → Int} {R : va_W} {o : Int}  (hI : MI Y) (o0 : 0 ≤ o) (o1 : o < 180) (hS : AP Y S o (Y 3 0)) : MM C l yX0_openOneDegree cX0_openOneDegree 2 none 2 0 0 [.ref (ad 4)] (wC C ad B E S Y V ++ R) (rN Y (o + 1) (fun Z => wC C ad B E Z Y V ++ R)) := by
  refine mm_of (by decide +kernel) (Nat.le_of_ble_eq_true rfl) hfl (fun K Q X r => ?_)
  have X : Cx C l "Springleaf$Folds" cX0_openOneDegree 2 2 0 0 K := X
  have I3 := hI.1
  have I10 := hI.2.2.1
  have I12 := hI.2.2.2.2.1
  have loop : ∀ (n : Nat) (f : Int) (Z : Nat → Int → Int), 1 ≤ f → f ≤ Y 3 0 → Y 3 0 - f < n → BP Y Z o f → G C K Q 0 0 19 [(0, .ref (ad 4)), (1, vi f)] [] (wC C ad B E Z Y V ++ R) := by
    intro n
    induction n with
    | zero => intro f Z h0 h1 h2; exact absurd h2 (by omega)
    | succ n ih =>
      intro f Z f1 f2 h2 hZ
      refine g_iload_n (t := 20) X dX0_openOneDegree_19 1 rfl rfl ?_
      refine g_aload_n (t := 21) X dX0_openOneDegree_20 0 rfl rfl ?_
      refine getf_X0 (t := 24) X 3 (by decide) q1_83 rfl rfl dX0_openOneDegree_21 rfl ?_
      refine g_icmp_ge (t := 93) (u := 27) X dX0_openOneDegree_24 (by decide) rfl ⟨by omega, by omega⟩ ⟨by omega, by omega⟩ (fun c_24 => ?_) (fun c_24 => ?_)
      · exact g_vret X r ⟨rfl, Z, hZ.done (by omega), rfl⟩ (Nat.le_of_ble_eq_true rfl) (Nat.le_of_ble_eq_true rfl) dX0_openOneDegree_93
      · have hf := hI.2.1 f f1 (by omega)
        have hq := pul_rng hI (o := o + 1) (by omega) (by omega) f1 (by omega)
        have hP := hZ.pul hI f1 (by omega)
        refine g_aload_n (t := 28) X dX0_openOneDegree_27 0 rfl rfl ?_
        refine getf_X0 (t := 31) X 5 (by decide) q1_86 rfl rfl dX0_openOneDegree_28 rfl ?_
        refine g_iload_n (t := 32) X dX0_openOneDegree_31 1 rfl rfl ?_
        refine g_dup2 (t := 33) X dX0_openOneDegree_32 rfl rfl rfl ?_
        refine g_iald (t := 34) (f := Z 1) X 9 wC_9 (by omega) (by omega) (by omega) dX0_openOneDegree_33 rfl ?_
        refine g_aload_n (t := 35) X dX0_openOneDegree_34 0 rfl rfl ?_
        refine getf_X0 (t := 38) X 6 (by decide) q1_87 rfl rfl dX0_openOneDegree_35 rfl ?_
        refine g_aload_n (t := 39) X dX0_openOneDegree_38 0 rfl rfl ?_
        refine getf_X0 (t := 42) X 0 (by decide) q1_79 rfl rfl dX0_openOneDegree_39 rfl ?_
        refine g_iload_n (t := 43) X dX0_openOneDegree_42 1 rfl rfl ?_
        refine g_iald (t := 44) (f := Y 0) X 5 wC_5 (by omega) (by omega) (by omega) dX0_openOneDegree_43 rfl ?_
        refine g_iald (t := 45) (f := Z 2) X 10 wC_10 (by omega) (by omega) (by omega) dX0_openOneDegree_44 rfl ?_
        refine g_aload_n (t := 46) X dX0_openOneDegree_45 0 rfl rfl ?_
        refine getf_X0 (t := 49) X 1 (by decide) q1_81 rfl rfl dX0_openOneDegree_46 rfl ?_
        refine g_iload_n (t := 50) X dX0_openOneDegree_49 1 rfl rfl ?_
        refine g_iald (t := 51) (f := Y 1) X 6 wC_6 (by omega) (by omega) (by omega) dX0_openOneDegree_50 rfl ?_
        refine g_imul (t := 52) X dX0_openOneDegree_51 rfl ?_
        refine g_iadd (t := 53) X dX0_openOneDegree_52 rfl ?_
        refine g_iast (t := 54) (f := Z 1) X 9 wC_9 (by omega) (by omega) (by omega) wC_s_9 dX0_openOneDegree_53 rfl ?_
        refine g_aload_n (t := 55) X dX0_openOneDegree_54 0 rfl rfl ?_
        refine getf_X0 (t := 58) X 6 (by decide) q1_87 rfl rfl dX0_openOneDegree_55 rfl ?_
        refine g_iload_n (t := 59) X dX0_openOneDegree_58 1 rfl rfl ?_
        refine g_aload_n (t := 60) X dX0_openOneDegree_59 0 rfl rfl ?_
        refine g_iload_n (t := 61) X dX0_openOneDegree_60 1 rfl rfl ?_
        refine g_callV (t := 64) (mc := 0) (ms := 0) (rest := [vi f, .ref (ad 10)]) X mt_X0_angleOfPulled q1_212 q1_213 q1_214 4 wC_4 rfl (c_X0_angleOfPulled (x := Z 1 f + Z 2 (Y 0 f) * Y 1 f) hfl hI (by omega) (by omega) (by rw [u2_s, uI_s]) (by rw [hP]; exact hq.1) (by rw [hP]; exact hq.2)) (by decide) (Nat.le_of_ble_eq_true rfl) (Nat.le_of_ble_eq_true rfl) (Nat.le_of_ble_eq_true rfl) rfl rfl dX0_openOneDegree_61 rfl (k_rv ?_)
        refine g_aload_n (t := 65) X dX0_openOneDegree_64 0 rfl rfl ?_
        refine getf_X0 (t := 68) X 4 (by decide) q1_85 rfl rfl dX0_openOneDegree_65 rfl ?_
        refine g_iload_n (t := 69) X dX0_openOneDegree_68 1 rfl rfl ?_
        refine g_iald (t := 70) (f := Z 0) X 8 wC_8 (by omega) (by omega) (by omega) dX0_openOneDegree_69 rfl ?_
        refine g_isub (t := 71) X dX0_openOneDegree_70 rfl ?_
        refine g_iast (t := 72) (f := Z 2) X 10 wC_10 (by omega) (by omega) (by omega) wC_s_10 dX0_openOneDegree_71 rfl ?_
        refine g_aload_n (t := 73) X dX0_openOneDegree_72 0 rfl rfl ?_
        refine getf_X0 (t := 76) X 4 (by decide) q1_85 rfl rfl dX0_openOneDegree_73 rfl ?_
        refine g_iload_n (t := 77) X dX0_openOneDegree_76 1 rfl rfl ?_
        refine g_dup2 (t := 78) X dX0_openOneDegree_77 rfl rfl rfl ?_
        refine g_iald (t := 79) (f := Z 0) X 8 wC_8 (by omega) (by omega) (by omega) dX0_openOneDegree_78 rfl ?_
        refine g_aload_n (t := 80) X dX0_openOneDegree_79 0 rfl rfl ?_
        refine getf_X0 (t := 83) X 6 (by decide) q1_87 rfl rfl dX0_openOneDegree_80 rfl ?_
        refine g_iload_n (t := 84) X dX0_openOneDegree_83 1 rfl rfl ?_
        refine g_iald (t := 85) (f := uI (Z 2) f ((clp ((Z 1 f + Z 2 (Y 0 f) * Y 1 f) / 4 + Y 2 f)) - ((Z 0) f))) X 10 wC_10 (by omega) (by omega) (by omega) dX0_openOneDegree_84 rfl ?_
        refine g_iadd (t := 86) X dX0_openOneDegree_85 rfl ?_
        refine g_iast (t := 87) (f := Z 0) X 8 wC_8 (by omega) (by omega) (by omega) wC_s_8 dX0_openOneDegree_86 rfl ?_
        refine g_iinc (t := 90) (lv1 := [(1, vi (f + 1)), (0, .ref (ad 4))]) X dX0_openOneDegree_87 1 rfl (by decide) rfl rfl ?_
        refine g_goto (t := 19) X dX0_openOneDegree_90 (by decide) ?_
        exact g_lv (ih (f + 1) (u2 (u2 (u2 Z 1 f (((Z 1) f) + (((Z 2) ((Y 0) f)) * ((Y 1) f)))) 2 f ((clp ((Z 1 f + Z 2 (Y 0 f) * Y 1 f) / 4 + Y 2 f)) - ((Z 0) f))) 0 f (((Z 0) f) + ((uI (Z 2) f ((clp ((Z 1 f + Z 2 (Y 0 f) * Y 1 f) / 4 + Y 2 f)) - ((Z 0) f))) f))) (by omega) (by omega) (by omega) (hZ.step hI f1 (by omega) hP rfl)) [1, 0] rfl
  show G C K Q 0 0 0 [(0, .ref (ad 4))] [] (wC C ad B E S Y V ++ R)
  refine g_aload_n (t := 1) X dX0_openOneDegree_0 0 rfl rfl ?_
  refine getf_X0 (t := 4) X 6 (by decide) q1_87 rfl rfl dX0_openOneDegree_1 rfl ?_
  refine g_iconst (t := 5) X dX0_openOneDegree_4 rfl ?_
  refine g_iconst (t := 6) X dX0_openOneDegree_5 rfl ?_
  refine g_iast (t := 7) (f := S 2) X 10 wC_10 (by omega) (by omega) (by omega) wC_s_10 dX0_openOneDegree_6 rfl ?_
  refine g_aload_n (t := 8) X dX0_openOneDegree_7 0 rfl rfl ?_
  refine getf_X0 (t := 11) X 4 (by decide) q1_85 rfl rfl dX0_openOneDegree_8 rfl ?_
  refine g_iconst (t := 12) X dX0_openOneDegree_11 rfl ?_
  refine g_dup2 (t := 13) X dX0_openOneDegree_12 rfl rfl rfl ?_
  refine g_iald (t := 14) (f := S 0) X 8 wC_8 (by omega) (by omega) (by omega) dX0_openOneDegree_13 rfl ?_
  refine g_iconst (t := 15) X dX0_openOneDegree_14 rfl ?_
  refine g_iadd (t := 16) X dX0_openOneDegree_15 rfl ?_
  refine g_iast (t := 17) (f := S 0) X 8 wC_8 (by omega) (by omega) (by omega) wC_s_8 dX0_openOneDegree_16 rfl ?_
  refine g_iconst (t := 18) X dX0_openOneDegree_17 rfl ?_
  refine g_istore_n (t := 19) (lv1 := [(1, vi 1), (0, .ref (ad 4))]) X dX0_openOneDegree_18 (by decide) rfl rfl ?_
  exact g_lv (loop ((Y 3 0).toNat + 1) 1 (u2 (u2 S 2 0 1) 0 0 (((S 0) 0) + 1)) (by omega) (by omega) (by omega) (BP.zero I3.1 hS)) [1, 0] rfl

set_option maxHeartbeats 4000000 in
set_option maxRecDepth 100000 in
/-- anglesByStepsTo(open) -/
theorem c_X0_anglesByStepsTo {C : WC} {l : Launch} (hfl : l.stackTraces = false) {ad : Nat → Nat} {B : BT} {E : Int × Nat} {S Y V : Nat → Int → Int} {R : va_W} {o : Int}  (hI : MI Y) (o0 : 0 ≤ o) (o1 : o ≤ 180) : MM C l yX0_anglesByStepsTo cX0_anglesByStepsTo 3 (some (.array .int)) 3 0 0 [.ref (ad 4), vi o] (wC C ad B E S Y V ++ R) (rA (ad 8) Y o (fun Z => wC C ad B E Z Y V ++ R)) := by
  refine mm_of (by decide +kernel) (Nat.le_of_ble_eq_true rfl) hfl (fun K Q X r => ?_)
  have X : Cx C l "Springleaf$Folds" cX0_anglesByStepsTo 3 3 0 0 K := X
  have I3 := hI.1
  have I10 := hI.2.2.1
  have I12 := hI.2.2.2.2.1
  have loop : ∀ (n : Nat) (d : Int) (Z : Nat → Int → Int), 1 ≤ d → d ≤ o + 1 → o + 1 - d < n → AP Y Z (d - 1) (Y 3 0) → G C K Q 0 0 8 [(0, .ref (ad 4)), (1, vi o), (2, vi d)] [] (wC C ad B E Z Y V ++ R) := by
    intro n
    induction n with
    | zero => intro d Z h0 h1 h2; exact absurd h2 (by omega)
    | succ n ih =>
      intro d Z d1 d2 h2 hZ
      refine g_iload_n (t := 9) X dX0_anglesByStepsTo_8 2 rfl rfl ?_
      refine g_iload_n (t := 10) X dX0_anglesByStepsTo_9 1 rfl rfl ?_
      refine g_icmp_gt (t := 23) (u := 13) X dX0_anglesByStepsTo_10 (by decide) rfl ⟨by omega, by omega⟩ ⟨by omega, by omega⟩ (fun c_10 => ?_) (fun c_10 => ?_)
      · refine g_aload_n (t := 24) X dX0_anglesByStepsTo_23 0 rfl rfl ?_
        refine getf_X0 (t := 27) X 4 (by decide) q1_85 rfl rfl dX0_anglesByStepsTo_24 rfl ?_
        exact g_aret X r (Or.inr ⟨_, rfl⟩) ⟨rfl, Z, (show d - 1 = o by omega) ▸ hZ, rfl⟩ (Nat.le_of_ble_eq_true rfl) (Nat.le_of_ble_eq_true rfl) dX0_anglesByStepsTo_27
      · refine g_aload_n (t := 14) X dX0_anglesByStepsTo_13 0 rfl rfl ?_
        refine g_callV (t := 17) (mc := 0) (ms := 0) (rest := []) X mt_X0_openOneDegree q3_84 q3_85 q3_86 4 wC_4 rfl (c_X0_openOneDegree hfl hI (o := d - 1) (by omega) (by omega) hZ) (by decide) (Nat.le_of_ble_eq_true rfl) (Nat.le_of_ble_eq_true rfl) (Nat.le_of_ble_eq_true rfl) rfl rfl dX0_anglesByStepsTo_14 rfl (k_rN (fun Z14 hZ14 => ?_))
        refine g_iinc (t := 20) (lv1 := [(2, vi (d + 1)), (0, .ref (ad 4)), (1, vi o)]) X dX0_anglesByStepsTo_17 2 rfl (by decide) rfl rfl ?_
        refine g_goto (t := 8) X dX0_anglesByStepsTo_20 (by decide) ?_
        exact g_lv (ih (d + 1) (Z14) (by omega) (by omega) (by omega) ((show d - 1 + 1 = d + 1 - 1 by omega) ▸ hZ14)) [1, 2, 0] rfl
  show G C K Q 0 0 0 [(0, .ref (ad 4)), (1, vi o)] [] (wC C ad B E S Y V ++ R)
  refine g_aload_n (t := 1) X dX0_anglesByStepsTo_0 0 rfl rfl ?_
  refine g_iconst (t := 2) X dX0_anglesByStepsTo_1 rfl ?_
  refine g_callV (t := 5) (mc := 0) (ms := 0) (rest := []) X mt_X0_anglesAt q3_83 q1_209 q1_210 4 wC_4 rfl (c_X0_anglesAt hfl hI (by omega) (by omega)) (by decide) (Nat.le_of_ble_eq_true rfl) (Nat.le_of_ble_eq_true rfl) (Nat.le_of_ble_eq_true rfl) rfl rfl dX0_anglesByStepsTo_2 rfl (k_rA (fun Z2 hZ2 => ?_))
  refine g_pop (t := 6) X dX0_anglesByStepsTo_5 rfl rfl ?_
  refine g_iconst (t := 7) X dX0_anglesByStepsTo_6 rfl ?_
  refine g_istore_n (t := 8) (lv1 := [(2, vi 1), (0, .ref (ad 4)), (1, vi o)]) X dX0_anglesByStepsTo_7 (by decide) rfl rfl ?_
  exact g_lv (loop (o.toNat + 2) 1 (Z2) (by omega) (by omega) (by omega) hZ2) [1, 2, 0] rfl

