/-- the first part that meets a later one -/
def FT (Y : Nat → Int → Int) (o r : Int) : Prop := (r = -1 ∧ ∀ p q, 0 ≤ p → p < q → q < Y 10 0 → ¬ mtF Y p q o) ∨ (0 ≤ r ∧ r < Y 10 0 ∧ (∃ q, r < q ∧ q < Y 10 0 ∧ mtF Y r q o) ∧ ∀ p q, 0 ≤ p → p < r → p < q → q < Y 10 0 → ¬ mtF Y p q o)
theorem FT.no {Y : Nat → Int → Int} {o : Int} (h : FT Y o (-1)) : ∀ p, 0 ≤ p → p < Y 10 0 → ¬ Tm Y p o := by
  rcases h with ⟨_, h⟩ | ⟨h, _⟩
  · rintro p p0 p1 ⟨q, q0, q1, hm⟩
    obtain ⟨hne, hm⟩ := mt_iff.mp hm
    rcases Int.lt_or_gt_of_ne hne with c | c
    · exact h p q p0 c q1 hm
    · exact h q p q0 c p1 (mt_sym hm)
  · omega
theorem FT.yes {Y : Nat → Int → Int} {o r : Int} (h : FT Y o r) (hr : r ≠ -1) : (0 ≤ r ∧ r < Y 10 0) ∧ Tm Y r o ∧ ∀ p, 0 ≤ p → p < r → ¬ Tm Y p o := by
  rcases h with ⟨h, _⟩ | ⟨r0, r1, ⟨q, q0, q1, hm⟩, h⟩
  · exact absurd h hr
  · refine ⟨⟨r0, r1⟩, ⟨q, by omega, q1, mt_iff.mpr ⟨by omega, hm⟩⟩, fun p p0 p1 => ?_⟩
    rintro ⟨q', q0', q1', hm'⟩
    obtain ⟨hne, hm'⟩ := mt_iff.mp hm'
    rcases Int.lt_or_gt_of_ne hne with c | c
    · exact h p q' p0 p1 c q1' hm'
    · exact h q' p q0' (by omega) c (by omega) (mt_sym hm')
def rbz (P : Prop) (wf : (Nat → Int → Int) → va_W) : Option Value → va_W → Prop := fun v w => (∃ Z, w = wf Z) ∧ ((P ∧ v = some (vi 1)) ∨ (¬ P ∧ v = some (vi 0)))
theorem rbz_t {P : Prop} {wf : (Nat → Int → Int) → va_W} (Z : Nat → Int → Int) (h : P) : rbz P wf (some (vi 1)) (wf Z) := ⟨⟨Z, rfl⟩, Or.inl ⟨h, rfl⟩⟩
theorem rbz_f {P : Prop} {wf : (Nat → Int → Int) → va_W} (Z : Nat → Int → Int) (h : ¬ P) : rbz P wf (some (vi 0)) (wf Z) := ⟨⟨Z, rfl⟩, Or.inr ⟨h, rfl⟩⟩
theorem k_rbz {C : WC} {K : GK} {Q : State → Prop} {cells slots t : Nat} {lv : List (Nat × Value)} {rest : List Value} {P : Prop} {wf : (Nat → Int → Int) → va_W} (h1 : ∀ Z, P → G C K Q cells slots t lv (vi 1 :: rest) (wf Z)) (h2 : ∀ Z, ¬ P → G C K Q cells slots t lv (vi 0 :: rest) (wf Z)) : ∀ (v : Option Value) (ws1 : va_W), rbz P wf v ws1 → G C K Q cells slots t lv (v.toList ++ rest) ws1 := by
  rintro _ _ ⟨⟨Z, rfl⟩, ⟨hp, rfl⟩ | ⟨hp, rfl⟩⟩
  · exact h1 Z hp
  · exact h2 Z hp
theorem test_rg {Y : Nat → Int → Int} {t : Int} (h : TestR Y t) : t = -1 ∨ 0 ≤ t := by
  rcases h with ⟨h, _⟩ | ⟨j, p, h1, h2, h3, h4, h5, _⟩
  · exact Or.inl h
  · exact Or.inr (by omega)
theorem fh_succ {S : Nat → Int → Int} {s k : Int} (k0 : 0 ≤ k) : fh S s (k + 1).toNat = fh S s k.toNat + (if S 4 k = s then S 7 k else 0) := by
  have e1 : (k + 1).toNat = k.toNat + 1 := by omega
  rw [e1]
  simp only [fh]
  rw [Int.toNat_of_nonneg k0]
theorem rng_g {Y : Nat → Int → Int} {g : Int → Int} (hI : MI Y) (hG : SI Y g) {p : Int} (p0 : 0 ≤ p) (p1 : p < Y 10 0) : -1 ≤ g p ∧ g p < 16 := by
  have h1 := (hG p p0 p1).1
  have h2 := hI.2.2.1
  have h3 := hI.2.2.2.2.1
  omega
def ptF (Y : Nat → Int → Int) (x : Int) : Int := if 0 ≤ x ∧ x < Y 12 0 then Y 11 x else -1

set_option maxHeartbeats 4000000 in
set_option maxRecDepth 100000 in
/-- openTo(open) -/
theorem c_X4_openTo {C : WC} {l : Launch} (hfl : l.stackTraces = false) {ad : Nat → Nat} {B : BT} {E : Int × Nat} {F : Int × Nat × Nat} {S Y : Nat → Int → Int} {g : Int → Int} {R : va_W} {o : Int} (hI : MI Y) (hF : FC F Y) (o0 : 0 ≤ o) (o1 : o ≤ 180) : MM C l yX4_openTo cX4_openTo 3 none 3 0 0 [.ref (ad 4), vi o] (WW C ad B E F S Y g R) (fun v w => ∃ Z, AP Y Z o (Y 3 0) ∧ v = none ∧ w = WW C ad B E F Z Y g R) := by
  refine mm_of (by decide +kernel) (Nat.le_of_ble_eq_true rfl) hfl (fun K Q X r => ?_)
  have X : Cx C l "Springleaf" cX4_openTo 3 3 0 0 K := X
  have I3 := hI.1
  have I10 := hI.2.2.1
  have I12 := hI.2.2.2.2.1
  obtain ⟨⟨F1, F2⟩, F3⟩ := id hF
  have loop : ∀ (n : Nat) (f : Int) (Z : Nat → Int → Int), 0 ≤ f → f ≤ Y 3 0 → Y 3 0 - f < n → AP Y Z o f → G C K Q 0 0 2 [(0, .ref (ad 4)), (1, vi o), (2, vi f)] [] (WW C ad B E F Z Y g R) := by
    intro n
    induction n with
    | zero => intro f Z h0 h1 h2; exact absurd h2 (by omega)
    | succ n ih =>
      intro f Z f0 h1 h2 hZ
      refine g_iload_n (t := 3) X dX4_openTo_2 2 rfl rfl ?_
      refine g_aload_n (t := 4) X dX4_openTo_3 0 rfl rfl ?_
      refine getf_X4 (t := 7) X 0 (by decide) q1_186 rfl rfl dX4_openTo_4 rfl ?_
      refine g_callV (t := 10) (mc := 0) (ms := 0) (rest := [vi f]) X mt_Jx4a65c_size_8abf5 q1_210 q1_211 q1_212 3 WW_3 rfl (c_Jx4a65c_size_8abf5 (E := (F.1, F.2.1)) hfl 3 WW_3) (by decide) (Nat.le_of_ble_eq_true rfl) (Nat.le_of_ble_eq_true rfl) (Nat.le_of_ble_eq_true rfl) rfl rfl dX4_openTo_7 rfl (k_rv ?_)
      refine g_icmp_ge (t := 34) (u := 13) X dX4_openTo_10 (by decide) rfl ⟨by omega, by omega⟩ ⟨by omega, by omega⟩ (fun c_10 => ?_) (fun c_10 => ?_)
      · exact g_vret X r ⟨Z, (show f = Y 3 0 by omega) ▸ hZ, rfl, rfl⟩ (Nat.le_of_ble_eq_true rfl) (Nat.le_of_ble_eq_true rfl) dX4_openTo_34
      · refine g_aload_n (t := 14) X dX4_openTo_13 0 rfl rfl ?_
        refine getf_X4 (t := 17) X 0 (by decide) q1_186 rfl rfl dX4_openTo_14 rfl ?_
        refine g_iload_n (t := 18) X dX4_openTo_17 2 rfl rfl ?_
        refine g_callV (t := 21) (mc := 0) (ms := 0) (rest := []) X mt_Jx4a65c_get_915e3 q1_214 q1_215 q1_216 3 WW_3 rfl (c_Jx4a65c_get_915e3 (E := (F.1, F.2.1)) hfl 3 WW_3 5 WW_5 (by omega) (by omega) (by omega) (flF_at (i := f) (by omega) (by omega)) (by omega) (by omega)) (by decide) (Nat.le_of_ble_eq_true rfl) (Nat.le_of_ble_eq_true rfl) (Nat.le_of_ble_eq_true rfl) rfl rfl dX4_openTo_18 rfl (k_rv ?_)
        refine g_castS (t := 24) X _ (WW_f (i := f) (by omega) (by omega)) rfl q1_96 dX4_openTo_21 rfl ?_
        refine g_iload_n (t := 25) X dX4_openTo_24 1 rfl rfl ?_
        refine g_callV (t := 28) (mc := 0) (ms := 0) (rest := []) X mt_X0_openTo q1_228 q1_229 q1_230 _ (WW_f (i := f) (by omega) (by omega)) rfl (c_X0_openTo (i := f) (o := o) hfl hI (by omega) (by omega) (by omega) (by omega) hZ) (by decide) (Nat.le_of_ble_eq_true rfl) (Nat.le_of_ble_eq_true rfl) (Nat.le_of_ble_eq_true rfl) rfl rfl dX4_openTo_25 rfl (k_exn (fun Z25 hZ25 => ?_))
        refine g_iinc (t := 31) (lv1 := [(2, vi (f + 1)), (0, .ref (ad 4)), (1, vi o)]) X dX4_openTo_28 2 rfl (by decide) rfl rfl ?_
        refine g_goto (t := 2) X dX4_openTo_31 (by decide) ?_
        exact g_lv (ih (f + 1) Z25 (by omega) (by omega) (by omega) hZ25) [1, 2, 0] rfl
  show G C K Q 0 0 0 [(0, .ref (ad 4)), (1, vi o)] [] (WW C ad B E F S Y g R)
  refine g_iconst (t := 1) X dX4_openTo_0 rfl ?_
  refine g_istore_n (t := 2) (lv1 := [(2, vi 0), (0, .ref (ad 4)), (1, vi o)]) X dX4_openTo_1 (by decide) rfl rfl ?_
  exact g_lv (loop ((Y 3 0).toNat + 1) 0 S (by omega) (by omega) (by omega) (fun i i0 i1 => absurd i1 (by omega))) [1, 2, 0] rfl

set_option maxHeartbeats 4000000 in
set_option maxRecDepth 100000 in
/-- openByDegreesTo(open) -/
theorem c_X4_openByDegreesTo {C : WC} {l : Launch} (hfl : l.stackTraces = false) {ad : Nat → Nat} {B : BT} {E : Int × Nat} {F : Int × Nat × Nat} {S Y : Nat → Int → Int} {g : Int → Int} {R : va_W} {o : Int} (hI : MI Y) (hF : FC F Y) (o0 : 0 ≤ o) (o1 : o ≤ 180) : MM C l yX4_openByDegreesTo cX4_openByDegreesTo 4 none 4 0 0 [.ref (ad 4), vi o] (WW C ad B E F S Y g R) (fun v w => ∃ Z, AP Y Z o (Y 3 0) ∧ v = none ∧ w = WW C ad B E F Z Y g R) := by
  refine mm_of (by decide +kernel) (Nat.le_of_ble_eq_true rfl) hfl (fun K Q X r => ?_)
  have X : Cx C l "Springleaf" cX4_openByDegreesTo 4 4 0 0 K := X
  have I3 := hI.1
  have I10 := hI.2.2.1
  have I12 := hI.2.2.2.2.1
  obtain ⟨⟨F1, F2⟩, F3⟩ := id hF
  have loop : ∀ (n : Nat) (d : Int) (Z : Nat → Int → Int), 1 ≤ d → d ≤ o + 1 → o + 1 - d < n → AP Y Z (d - 1) (Y 3 0) → G C K Q 0 0 7 [(0, .ref (ad 4)), (1, vi o), (2, vi d)] [] (WW C ad B E F Z Y g R) := by
    intro n
    induction n with
    | zero => intro d Z h0 h1 h2; exact absurd h2 (by omega)
    | succ n ih =>
      intro d Z d1 h1 h2 hZ
      have inner : d ≤ o → ∀ (m : Nat) (f : Int) (U : Nat → Int → Int), 0 ≤ f → f ≤ Y 3 0 → Y 3 0 - f < m → BP Y U (d - 1) f → G C K Q 0 0 14 [(0, .ref (ad 4)), (1, vi o), (2, vi d), (3, vi f)] [] (WW C ad B E F U Y g R) := by
        intro d9 m
        induction m with
        | zero => intro f U h3 h4 h5; exact absurd h5 (by omega)
        | succ m ihi =>
          intro f U f0 h4 h5 hB
          refine g_iload_n (t := 15) X dX4_openByDegreesTo_14 3 rfl rfl ?_
          refine g_aload_n (t := 16) X dX4_openByDegreesTo_15 0 rfl rfl ?_
          refine getf_X4 (t := 19) X 0 (by decide) q1_186 rfl rfl dX4_openByDegreesTo_16 rfl ?_
          refine g_callV (t := 22) (mc := 0) (ms := 0) (rest := [vi f]) X mt_Jx4a65c_size_8abf5 q1_210 q1_211 q1_212 3 WW_3 rfl (c_Jx4a65c_size_8abf5 (E := (F.1, F.2.1)) hfl 3 WW_3) (by decide) (Nat.le_of_ble_eq_true rfl) (Nat.le_of_ble_eq_true rfl) (Nat.le_of_ble_eq_true rfl) rfl rfl dX4_openByDegreesTo_19 rfl (k_rv ?_)
          refine g_icmp_ge (t := 45) (u := 25) X dX4_openByDegreesTo_22 (by decide) rfl ⟨by omega, by omega⟩ ⟨by omega, by omega⟩ (fun c_22 => ?_) (fun c_22 => ?_)
          · refine g_iinc (t := 48) (lv1 := [(2, vi (d + 1)), (0, .ref (ad 4)), (1, vi o), (3, vi f)]) X dX4_openByDegreesTo_45 2 rfl (by decide) rfl rfl ?_
            refine g_goto (t := 7) X dX4_openByDegreesTo_48 (by decide) ?_
            exact g_lv (ih (d + 1) U (by omega) (by omega) (by omega) ((show d - 1 + 1 = d + 1 - 1 by omega) ▸ hB.done (by omega))) [1, 2, 0] rfl
          · refine g_aload_n (t := 26) X dX4_openByDegreesTo_25 0 rfl rfl ?_
            refine getf_X4 (t := 29) X 0 (by decide) q1_186 rfl rfl dX4_openByDegreesTo_26 rfl ?_
            refine g_iload_n (t := 30) X dX4_openByDegreesTo_29 3 rfl rfl ?_
            refine g_callV (t := 33) (mc := 0) (ms := 0) (rest := []) X mt_Jx4a65c_get_915e3 q1_214 q1_215 q1_216 3 WW_3 rfl (c_Jx4a65c_get_915e3 (E := (F.1, F.2.1)) hfl 3 WW_3 5 WW_5 (by omega) (by omega) (by omega) (flF_at (i := f) (by omega) (by omega)) (by omega) (by omega)) (by decide) (Nat.le_of_ble_eq_true rfl) (Nat.le_of_ble_eq_true rfl) (Nat.le_of_ble_eq_true rfl) rfl rfl dX4_openByDegreesTo_30 rfl (k_rv ?_)
            refine g_castS (t := 36) X _ (WW_f (i := f) (by omega) (by omega)) rfl q1_96 dX4_openByDegreesTo_33 rfl ?_
            refine g_callV (t := 39) (mc := 0) (ms := 0) (rest := []) X mt_X0_openOneDegree q3_39 q3_40 q3_41 _ (WW_f (i := f) (by omega) (by omega)) rfl (c_X0_openOneDegree (i := f) (o := d - 1) hfl hI (by omega) (by omega) (by omega) (by omega) hB) (by decide) (Nat.le_of_ble_eq_true rfl) (Nat.le_of_ble_eq_true rfl) (Nat.le_of_ble_eq_true rfl) rfl rfl dX4_openByDegreesTo_36 rfl (k_exn (fun Z36 hZ36 => ?_))
            refine g_iinc (t := 42) (lv1 := [(3, vi (f + 1)), (0, .ref (ad 4)), (1, vi o), (2, vi d)]) X dX4_openByDegreesTo_39 3 rfl (by decide) rfl rfl ?_
            refine g_goto (t := 14) X dX4_openByDegreesTo_42 (by decide) ?_
            exact g_lv (ihi (f + 1) Z36 (by omega) (by omega) (by omega) hZ36) [1, 2, 3, 0] rfl
      refine g_iload_n (t := 8) X dX4_openByDegreesTo_7 2 rfl rfl ?_
      refine g_iload_n (t := 9) X dX4_openByDegreesTo_8 1 rfl rfl ?_
      refine g_icmp_gt (t := 51) (u := 12) X dX4_openByDegreesTo_9 (by decide) rfl ⟨by omega, by omega⟩ ⟨by omega, by omega⟩ (fun c_9 => ?_) (fun c_9 => ?_)
      · exact g_vret X r ⟨Z, (show d - 1 = o by omega) ▸ hZ, rfl, rfl⟩ (Nat.le_of_ble_eq_true rfl) (Nat.le_of_ble_eq_true rfl) dX4_openByDegreesTo_51
      · refine g_iconst (t := 13) X dX4_openByDegreesTo_12 rfl ?_
        refine g_istore_n (t := 14) (lv1 := [(3, vi 0), (0, .ref (ad 4)), (1, vi o), (2, vi d)]) X dX4_openByDegreesTo_13 (by decide) rfl rfl ?_
        exact g_lv (inner (by omega) ((Y 3 0).toNat + 1) 0 Z (by omega) (by omega) (by omega) (BP.zero hZ)) [1, 2, 3, 0] rfl
  show G C K Q 0 0 0 [(0, .ref (ad 4)), (1, vi o)] [] (WW C ad B E F S Y g R)
  refine g_aload_n (t := 1) X dX4_openByDegreesTo_0 0 rfl rfl ?_
  refine g_iconst (t := 2) X dX4_openByDegreesTo_1 rfl ?_
  refine g_callV (t := 5) (mc := 0) (ms := 0) (rest := []) X mt_X4_openTo q1_206 q1_208 qs_3 4 WW_4 rfl (c_X4_openTo (o := 0) hfl hI hF (by omega) (by omega)) (by decide) (Nat.le_of_ble_eq_true rfl) (Nat.le_of_ble_eq_true rfl) (Nat.le_of_ble_eq_true rfl) rfl rfl dX4_openByDegreesTo_2 rfl (k_exn (fun Z2 hZ2 => ?_))
  refine g_iconst (t := 6) X dX4_openByDegreesTo_5 rfl ?_
  refine g_istore_n (t := 7) (lv1 := [(2, vi 1), (0, .ref (ad 4)), (1, vi o)]) X dX4_openByDegreesTo_6 (by decide) rfl rfl ?_
  exact g_lv (loop (o.toNat + 2) 1 Z2 (by omega) (by omega) (by omega) hZ2) [1, 2, 0] rfl

set_option maxHeartbeats 4000000 in
set_option maxRecDepth 100000 in
/-- firstThatMeetsAnother() -/
theorem c_X4_firstThatMeetsAnother {C : WC} {l : Launch} (hfl : l.stackTraces = false) {ad : Nat → Nat} {B : BT} {E : Int × Nat} {F : Int × Nat × Nat} {S Y : Nat → Int → Int} {g : Int → Int} {R : va_W} {o : Int} (hI : MI Y) (hF : FC F Y) (hR : LT ad C E Y R) (hA : AP Y S o (Y 3 0)) (o0 : 0 ≤ o) (o1 : o ≤ 180) : MM C l yX4_firstThatMeetsAnother cX4_firstThatMeetsAnother 3 (some .int) 3 0 0 [.ref (ad 4)] (WW C ad B E F S Y g R) (fun v w => ∃ x : Int, FT Y o x ∧ v = some (vi x) ∧ w = (WW C ad B E F S Y g R)) := by
  refine mm_of (by decide +kernel) (Nat.le_of_ble_eq_true rfl) hfl (fun K Q X r => ?_)
  have X : Cx C l "Springleaf" cX4_firstThatMeetsAnother 3 3 0 0 K := X
  have I3 := hI.1
  have I10 := hI.2.2.1
  have I12 := hI.2.2.2.2.1
  have loop : ∀ (n : Nat) (p : Int), 0 ≤ p → p ≤ Y 10 0 → Y 10 0 - p < n → (∀ p' q', 0 ≤ p' → p' < p → p' < q' → q' < Y 10 0 → ¬ mtF Y p' q' o) → G C K Q 0 0 2 [(0, .ref (ad 4)), (1, vi p)] [] (WW C ad B E F S Y g R) := by
    intro n
    induction n with
    | zero => intro p h0 h1 h2; exact absurd h2 (by omega)
    | succ n ih =>
      intro p p0 h1 h2 hP
      have inner : p < Y 10 0 → ∀ (m : Nat) (q : Int), p < q → q ≤ Y 10 0 → Y 10 0 - q < m → (∀ q', p < q' → q' < q → ¬ mtF Y p q' o) → G C K Q 0 0 17 [(0, .ref (ad 4)), (1, vi p), (2, vi q)] [] (WW C ad B E F S Y g R) := by
        intro p9 m
        induction m with
        | zero => intro q g0 g1 g2; exact absurd g2 (by omega)
        | succ m ihi =>
          intro q q0 g3 g4 hQ
          refine g_iload_n (t := 18) X dX4_firstThatMeetsAnother_17 2 rfl rfl ?_
          refine g_aload_n (t := 19) X dX4_firstThatMeetsAnother_18 0 rfl rfl ?_
          refine getf_X4 (t := 22) X 1 (by decide) q1_187 rfl rfl dX4_firstThatMeetsAnother_19 rfl ?_
          refine g_callV (t := 25) (mc := 0) (ms := 0) (rest := [vi q]) X mt_Jx4a65c_size_8abf5 q1_210 q1_211 q1_212 2 WW_2 rfl (c_Jx4a65c_size_8abf5 (E := E) hfl 2 WW_2) (by decide) (Nat.le_of_ble_eq_true rfl) (Nat.le_of_ble_eq_true rfl) (Nat.le_of_ble_eq_true rfl) rfl rfl dX4_firstThatMeetsAnother_22 rfl (k_rv ?_)
          refine g_icmp_ge (t := 64) (u := 28) X dX4_firstThatMeetsAnother_25 (by decide) rfl ⟨by omega, by omega⟩ ⟨by omega, by omega⟩ (fun c_25 => ?_) (fun c_25 => ?_)
          · refine g_iinc (t := 67) (lv1 := [(1, vi (p + 1)), (0, .ref (ad 4)), (2, vi q)]) X dX4_firstThatMeetsAnother_64 1 rfl (by decide) rfl rfl ?_
            refine g_goto (t := 2) X dX4_firstThatMeetsAnother_67 (by decide) ?_
            exact g_lv (ih (p + 1) (by omega) (by omega) (by omega) (fun p' q' x0 x1 x2 x3 => by
                        rcases Int.lt_or_eq_of_le (show p' ≤ p by omega) with c | c
                        · exact hP p' q' x0 c x2 x3
                        · subst c; exact hQ q' x2 (by omega))) [1, 0] rfl
          · refine g_aload_n (t := 29) X dX4_firstThatMeetsAnother_28 0 rfl rfl ?_
            refine getf_X4 (t := 32) X 1 (by decide) q1_187 rfl rfl dX4_firstThatMeetsAnother_29 rfl ?_
            refine g_iload_n (t := 33) X dX4_firstThatMeetsAnother_32 1 rfl rfl ?_
            obtain ⟨cap_33, f_33, hc_33, ht_33, hf_33⟩ := hR (by omega)
            refine g_callV (t := 36) (mc := 0) (ms := 0) (rest := []) X mt_Jx4a65c_get_915e3 q1_214 q1_215 q1_216 2 WW_2 rfl (c_Jx4a65c_get_915e3 (E := E) hfl 2 WW_2 _ (WW_t ht_33) (by omega) (by omega) (by omega) (hf_33 p (by omega) (by omega)) (by omega) (by omega)) (by decide) (Nat.le_of_ble_eq_true rfl) (Nat.le_of_ble_eq_true rfl) (Nat.le_of_ble_eq_true rfl) rfl rfl dX4_firstThatMeetsAnother_33 rfl (k_rv ?_)
            refine g_castS (t := 39) X _ (WW_p (p := p) (by omega) (by omega)) rfl q2_5 dX4_firstThatMeetsAnother_36 rfl ?_
            refine g_aload_n (t := 40) X dX4_firstThatMeetsAnother_39 0 rfl rfl ?_
            refine getf_X4 (t := 43) X 1 (by decide) q1_187 rfl rfl dX4_firstThatMeetsAnother_40 rfl ?_
            refine g_iload_n (t := 44) X dX4_firstThatMeetsAnother_43 2 rfl rfl ?_
            obtain ⟨cap_44, f_44, hc_44, ht_44, hf_44⟩ := hR (by omega)
            refine g_callV (t := 47) (mc := 0) (ms := 0) (rest := [.ref (pA ad p)]) X mt_Jx4a65c_get_915e3 q1_214 q1_215 q1_216 2 WW_2 rfl (c_Jx4a65c_get_915e3 (E := E) hfl 2 WW_2 _ (WW_t ht_44) (by omega) (by omega) (by omega) (hf_44 q (by omega) (by omega)) (by omega) (by omega)) (by decide) (Nat.le_of_ble_eq_true rfl) (Nat.le_of_ble_eq_true rfl) (Nat.le_of_ble_eq_true rfl) rfl rfl dX4_firstThatMeetsAnother_44 rfl (k_rv ?_)
            refine g_castS (t := 50) X _ (WW_p (p := q) (by omega) (by omega)) rfl q2_5 dX4_firstThatMeetsAnother_47 rfl ?_
            refine g_callV (t := 53) (mc := 0) (ms := 0) (rest := []) X mt_X3_meets q2_6 q2_7 q2_8 _ (WW_p (p := p) (by omega) (by omega)) rfl (c_X3_meets (p := p) (q := q) (o := o) hfl hI (by omega) (by omega) (by omega) (by omega) hA (by omega) (by omega)) (by decide) (Nat.le_of_ble_eq_true rfl) (Nat.le_of_ble_eq_true rfl) (Nat.le_of_ble_eq_true rfl) rfl rfl dX4_firstThatMeetsAnother_50 rfl (k_rb (fun b_50 => ?_) (fun b_50 => ?_))
            · refine g_if_eq (t := 58) (u := 56) X dX4_firstThatMeetsAnother_53 (by decide) rfl ⟨by omega, by omega⟩ (fun c => absurd c (by decide)) (fun _ => ?_)
              refine g_iload_n (t := 57) X dX4_firstThatMeetsAnother_56 1 rfl rfl ?_
              exact g_iret X r ⟨p, Or.inr ⟨p0, by omega, ⟨q, by omega, by omega, b_50⟩, hP⟩, rfl, rfl⟩ (Nat.le_of_ble_eq_true rfl) (Nat.le_of_ble_eq_true rfl) dX4_firstThatMeetsAnother_57
            · refine g_if_eq (t := 58) (u := 56) X dX4_firstThatMeetsAnother_53 (by decide) rfl ⟨by omega, by omega⟩ (fun _ => ?_) (fun c => absurd c (by decide))
              refine g_iinc (t := 61) (lv1 := [(2, vi (q + 1)), (0, .ref (ad 4)), (1, vi p)]) X dX4_firstThatMeetsAnother_58 2 rfl (by decide) rfl rfl ?_
              refine g_goto (t := 17) X dX4_firstThatMeetsAnother_61 (by decide) ?_
              exact g_lv (ihi (q + 1) (by omega) (by omega) (by omega) (fun q' g0 g1 => by
                          rcases Int.lt_or_eq_of_le (show q' ≤ q by omega) with c | c
                          · exact hQ q' g0 c
                          · subst c; exact b_50)) [1, 2, 0] rfl
      refine g_iload_n (t := 3) X dX4_firstThatMeetsAnother_2 1 rfl rfl ?_
      refine g_aload_n (t := 4) X dX4_firstThatMeetsAnother_3 0 rfl rfl ?_
      refine getf_X4 (t := 7) X 1 (by decide) q1_187 rfl rfl dX4_firstThatMeetsAnother_4 rfl ?_
      refine g_callV (t := 10) (mc := 0) (ms := 0) (rest := [vi p]) X mt_Jx4a65c_size_8abf5 q1_210 q1_211 q1_212 2 WW_2 rfl (c_Jx4a65c_size_8abf5 (E := E) hfl 2 WW_2) (by decide) (Nat.le_of_ble_eq_true rfl) (Nat.le_of_ble_eq_true rfl) (Nat.le_of_ble_eq_true rfl) rfl rfl dX4_firstThatMeetsAnother_7 rfl (k_rv ?_)
      refine g_icmp_ge (t := 70) (u := 13) X dX4_firstThatMeetsAnother_10 (by decide) rfl ⟨by omega, by omega⟩ ⟨by omega, by omega⟩ (fun c_10 => ?_) (fun c_10 => ?_)
      · refine g_iconst (t := 71) X dX4_firstThatMeetsAnother_70 rfl ?_
        exact g_iret X r ⟨-1, Or.inl ⟨rfl, fun p' q' g0 g1 g2 => hP p' q' g0 (by omega) g1 g2⟩, rfl, rfl⟩ (Nat.le_of_ble_eq_true rfl) (Nat.le_of_ble_eq_true rfl) dX4_firstThatMeetsAnother_71
      · refine g_iload_n (t := 14) X dX4_firstThatMeetsAnother_13 1 rfl rfl ?_
        refine g_iconst (t := 15) X dX4_firstThatMeetsAnother_14 rfl ?_
        refine g_iadd (t := 16) X dX4_firstThatMeetsAnother_15 rfl ?_
        refine g_istore_n (t := 17) (lv1 := [(2, vi (p + 1)), (0, .ref (ad 4)), (1, vi p)]) X dX4_firstThatMeetsAnother_16 (by decide) rfl rfl ?_
        exact g_lv (inner (by omega) ((Y 10 0).toNat + 1) (p + 1) (by omega) (by omega) (by omega) (fun q' g0 g1 => absurd g0 (by omega))) [1, 2, 0] rfl
  show G C K Q 0 0 0 [(0, .ref (ad 4))] [] (WW C ad B E F S Y g R)
  refine g_iconst (t := 1) X dX4_firstThatMeetsAnother_0 rfl ?_
  refine g_istore_n (t := 2) (lv1 := [(1, vi 0), (0, .ref (ad 4))]) X dX4_firstThatMeetsAnother_1 (by decide) rfl rfl ?_
  exact g_lv (loop ((Y 10 0).toNat + 1) 0 (by omega) (by omega) (by omega) (fun p' q' g0 g1 => absurd g0 (by omega))) [1, 0] rfl

set_option maxHeartbeats 4000000 in
set_option maxRecDepth 100000 in
/-- test() -/
theorem c_X4_test {C : WC} {l : Launch} (hfl : l.stackTraces = false) {ad : Nat → Nat} {B : BT} {E : Int × Nat} {F : Int × Nat × Nat} {S Y : Nat → Int → Int} {g : Int → Int} {R : va_W}  (hI : MI Y) (hF : FC F Y) (hR : LT ad C E Y R) : MM C l yX4_test cX4_test 3 (some .int) 4 0 0 [.ref (ad 4)] (WW C ad B E F S Y g R) (fun v w => ∃ Z : Nat → Int → Int, TestR Y (testF Y) ∧ v = some (vi (testF Y)) ∧ w = WW C ad B E F Z Y g R) := by
  refine mm_of (by decide +kernel) (Nat.le_of_ble_eq_true rfl) hfl (fun K Q X r => ?_)
  have X : Cx C l "Springleaf" cX4_test 3 4 0 0 K := X
  have I3 := hI.1
  have I10 := hI.2.2.1
  have I12 := hI.2.2.2.2.1
  have loop : ∀ (n : Nat) (j : Int) (Z : Nat → Int → Int), 0 ≤ j → j ≤ 13 → 13 - j < n → (∀ j' p', 0 ≤ j' → j' < j → 0 ≤ p' → p' < Y 10 0 → ¬ Tm Y p' (15 * j')) → G C K Q 0 0 2 [(0, .ref (ad 4)), (1, vi (15 * j))] [] (WW C ad B E F Z Y g R) := by
    intro n
    induction n with
    | zero => intro j Z h0 h1 h2; exact absurd h2 (by omega)
    | succ n ih =>
      intro j Z j0 h1 h2 hJ
      refine g_iload_n (t := 3) X dX4_test_2 1 rfl rfl ?_
      refine g_sipush (t := 6) (z := 180) X dX4_test_3 (by decide +kernel) rfl ?_
      refine g_icmp_gt (t := 38) (u := 9) X dX4_test_6 (by decide) rfl ⟨by omega, by omega⟩ ⟨by omega, by omega⟩ (fun c_6 => ?_) (fun c_6 => ?_)
      · refine g_iconst (t := 39) X dX4_test_38 rfl ?_
        exact g_iret X r ⟨Z, by have hT : TestR Y (-1) := Or.inl ⟨rfl, fun j' p' g0 g1 g2 g3 => hJ j' p' g0 (by omega) g2 g3⟩; rw [← hT.eq]; exact ⟨hT, rfl, rfl⟩⟩ (Nat.le_of_ble_eq_true rfl) (Nat.le_of_ble_eq_true rfl) dX4_test_39
      · refine g_aload_n (t := 10) X dX4_test_9 0 rfl rfl ?_
        refine g_iload_n (t := 11) X dX4_test_10 1 rfl rfl ?_
        refine g_callV (t := 14) (mc := 0) (ms := 0) (rest := []) X mt_X4_openTo q1_206 q1_208 qs_3 4 WW_4 rfl (c_X4_openTo (o := 15 * j) hfl hI hF (by omega) (by omega)) (by decide) (Nat.le_of_ble_eq_true rfl) (Nat.le_of_ble_eq_true rfl) (Nat.le_of_ble_eq_true rfl) rfl rfl dX4_test_11 rfl (k_exn (fun Z11 hZ11 => ?_))
        refine g_aload_n (t := 15) X dX4_test_14 0 rfl rfl ?_
        refine g_callV (t := 18) (mc := 0) (ms := 0) (rest := []) X mt_X4_firstThatMeetsAnother q2_1 q2_3 qs_4 4 WW_4 rfl (c_X4_firstThatMeetsAnother (o := 15 * j) hfl hI hF hR hZ11 (by omega) (by omega)) (by decide) (Nat.le_of_ble_eq_true rfl) (Nat.le_of_ble_eq_true rfl) (Nat.le_of_ble_eq_true rfl) rfl rfl dX4_test_15 rfl (k_ex (fun r9 hF9 => ?_))
        have hr9 : -1 ≤ r9 ∧ r9 < 16 := by rcases hF9 with ⟨h, _⟩ | ⟨h1, h2, _⟩ <;> omega
        refine g_istore_n (t := 19) (lv1 := [(2, vi r9), (0, .ref (ad 4)), (1, vi (15 * j))]) X dX4_test_18 (by decide) rfl rfl ?_
        refine g_iload_n (t := 20) X dX4_test_19 0 rfl rfl ?_
        refine g_iconst (t := 21) X dX4_test_20 rfl ?_
        refine g_icmp_eq (t := 32) (u := 24) X dX4_test_21 (by decide) rfl ⟨by omega, by omega⟩ ⟨by omega, by omega⟩ (fun c_21 => ?_) (fun c_21 => ?_)
        · refine g_iinc (t := 35) (lv1 := [(1, vi ((15 * j) + 15)), (2, vi r9), (0, .ref (ad 4))]) X dX4_test_32 2 rfl (by decide) rfl rfl ?_
          refine g_goto (t := 2) X dX4_test_35 (by decide) ?_
          rw [show (15 : Int) * j + 15 = 15 * (j + 1) by omega]
          exact g_lv (ih (j + 1) Z11 (by omega) (by omega) (by omega) (fun j' p' x0 x1 x2 x3 => by
                  rcases Int.lt_or_eq_of_le (show j' ≤ j by omega) with c | c
                  · exact hJ j' p' x0 c x2 x3
                  · subst c; exact (c_21 ▸ hF9).no p' x2 x3)) [2, 0] rfl
        · refine g_sipush (t := 27) (z := 1000) X dX4_test_24 (by decide +kernel) rfl ?_
          refine g_iload_n (t := 28) X dX4_test_27 0 rfl rfl ?_
          refine g_imul (t := 29) X dX4_test_28 rfl ?_
          refine g_iload_n (t := 30) X dX4_test_29 2 rfl rfl ?_
          refine g_iadd (t := 31) X dX4_test_30 rfl ?_
          exact g_iret X r ⟨Z11, by have e := hF9.yes c_21; have hT : TestR Y (1000 * r9 + 15 * j) := Or.inr ⟨j, r9, j0, by omega, e.1.1, e.1.2, rfl, e.2.1, e.2.2, hJ⟩; rw [← hT.eq]; exact ⟨hT, rfl, rfl⟩⟩ (Nat.le_of_ble_eq_true rfl) (Nat.le_of_ble_eq_true rfl) dX4_test_31
  show G C K Q 0 0 0 [(0, .ref (ad 4))] [] (WW C ad B E F S Y g R)
  refine g_iconst (t := 1) X dX4_test_0 rfl ?_
  refine g_istore_n (t := 2) (lv1 := [(1, vi 0), (0, .ref (ad 4))]) X dX4_test_1 (by decide) rfl rfl ?_
  exact g_lv (loop 14 0 S (by omega) (by omega) (by omega) (fun j' p' g0 g1 => absurd g0 (by omega))) [1, 0] rfl

set_option maxHeartbeats 4000000 in
set_option maxRecDepth 100000 in
/-- isBound() -/
theorem c_X4_isBound {C : WC} {l : Launch} (hfl : l.stackTraces = false) {ad : Nat → Nat} {B : BT} {E : Int × Nat} {F : Int × Nat × Nat} {S Y : Nat → Int → Int} {g : Int → Int} {R : va_W}  (hI : MI Y) (hF : FC F Y) (hR : LT ad C E Y R) : MM C l yX4_isBound cX4_isBound 1 (some .boolean) 5 0 0 [.ref (ad 4)] (WW C ad B E F S Y g R) (rbz (boundF Y) (fun Z => WW C ad B E F Z Y g R)) := by
  refine mm_of (by decide +kernel) (Nat.le_of_ble_eq_true rfl) hfl (fun K Q X r => ?_)
  have X : Cx C l "Springleaf" cX4_isBound 1 5 0 0 K := X
  have I3 := hI.1
  have I10 := hI.2.2.1
  have I12 := hI.2.2.2.2.1
  show G C K Q 0 0 0 [(0, .ref (ad 4))] [] (WW C ad B E F S Y g R)
  refine g_aload_n (t := 1) X dX4_isBound_0 0 rfl rfl ?_
  refine getf_X4 (t := 4) X 1 (by decide) q1_187 rfl rfl dX4_isBound_1 rfl ?_
  refine g_callV (t := 7) (mc := 0) (ms := 0) (rest := []) X mt_Jx4a65c_isEmpty_aae02 q2_75 q2_76 q2_77 2 WW_2 rfl (c_Jx4a65c_isEmpty_aae02 (E := E) hfl 2 WW_2 (by omega) (by omega)) (by decide) (Nat.le_of_ble_eq_true rfl) (Nat.le_of_ble_eq_true rfl) (Nat.le_of_ble_eq_true rfl) rfl rfl dX4_isBound_4 rfl (k_rb (fun b_4 => ?_) (fun b_4 => ?_))
  · refine g_if_ne (t := 36) (u := 10) X dX4_isBound_7 (by decide) rfl ⟨by omega, by omega⟩ (fun _ => ?_) (fun c => absurd c (by decide))
    refine g_iconst (t := 37) X dX4_isBound_36 rfl ?_
    exact g_zret X r rfl (rbz_f S (by unfold boundF; omega)) (Nat.le_of_ble_eq_true rfl) (Nat.le_of_ble_eq_true rfl) dX4_isBound_37
  · refine g_if_ne (t := 36) (u := 10) X dX4_isBound_7 (by decide) rfl ⟨by omega, by omega⟩ (fun c => absurd c (by decide)) (fun _ => ?_)
    refine g_aload_n (t := 11) X dX4_isBound_10 0 rfl rfl ?_
    refine getf_X4 (t := 14) (v := vi (Y 12 0)) X 3 (by decide) q1_189 rfl rfl dX4_isBound_11 rfl ?_
    refine g_aload_n (t := 15) X dX4_isBound_14 0 rfl rfl ?_
    refine getf_X4 (t := 18) X 1 (by decide) q1_187 rfl rfl dX4_isBound_15 rfl ?_
    refine g_callV (t := 21) (mc := 0) (ms := 0) (rest := [vi (Y 12 0)]) X mt_Jx4a65c_size_8abf5 q1_210 q1_211 q1_212 2 WW_2 rfl (c_Jx4a65c_size_8abf5 (E := E) hfl 2 WW_2) (by decide) (Nat.le_of_ble_eq_true rfl) (Nat.le_of_ble_eq_true rfl) (Nat.le_of_ble_eq_true rfl) rfl rfl dX4_isBound_18 rfl (k_rv ?_)
    refine g_icmp_ne (t := 36) (u := 24) X dX4_isBound_21 (by decide) rfl ⟨by omega, by omega⟩ ⟨by omega, by omega⟩ (fun c_21 => ?_) (fun c_21 => ?_)
    · refine g_iconst (t := 37) X dX4_isBound_36 rfl ?_
      exact g_zret X r rfl (rbz_f S (by unfold boundF; omega)) (Nat.le_of_ble_eq_true rfl) (Nat.le_of_ble_eq_true rfl) dX4_isBound_37
    · refine g_aload_n (t := 25) X dX4_isBound_24 0 rfl rfl ?_
      refine g_callV (t := 28) (mc := 0) (ms := 0) (rest := []) X mt_X4_test q2_79 q1_203 q1_204 4 WW_4 rfl (c_X4_test hfl hI hF hR) (by decide) (Nat.le_of_ble_eq_true rfl) (Nat.le_of_ble_eq_true rfl) (Nat.le_of_ble_eq_true rfl) rfl rfl dX4_isBound_25 rfl (k_ex (fun Z25 hT_25 => ?_))
      have ht_25 := test_rg hT_25
      have hu_25 : testF Y < 2147483648 := by rcases hT_25 with ⟨h, _⟩ | ⟨j, p, h1, h2, h3, h4, h5, _⟩ <;> omega
      refine g_iconst (t := 29) X dX4_isBound_28 rfl ?_
      refine g_icmp_ne (t := 36) (u := 32) X dX4_isBound_29 (by decide) rfl ⟨by omega, by omega⟩ ⟨by omega, by omega⟩ (fun c_29 => ?_) (fun c_29 => ?_)
      · refine g_iconst (t := 37) X dX4_isBound_36 rfl ?_
        exact g_zret X r rfl (rbz_f Z25 (by unfold boundF; omega)) (Nat.le_of_ble_eq_true rfl) (Nat.le_of_ble_eq_true rfl) dX4_isBound_37
      · refine g_iconst (t := 33) X dX4_isBound_32 rfl ?_
        refine g_goto (t := 37) X dX4_isBound_33 (by decide) ?_
        exact g_zret X r rfl (rbz_t Z25 (by unfold boundF; omega)) (Nat.le_of_ble_eq_true rfl) (Nat.le_of_ble_eq_true rfl) dX4_isBound_37

set_option maxHeartbeats 4000000 in
set_option maxRecDepth 100000 in
/-- isStartCovered(part) -/
theorem c_X4_isStartCovered {C : WC} {l : Launch} (hfl : l.stackTraces = false) {ad : Nat → Nat} {B : BT} {E : Int × Nat} {F : Int × Nat × Nat} {S Y : Nat → Int → Int} {g : Int → Int} {R : va_W} {p : Int} (hI : MI Y) (hF : FC F Y) (hR : LT ad C E Y R) (hG : SI Y g) (p0 : 0 ≤ p) (p1 : p < Y 10 0) : MM C l yX4_isStartCovered cX4_isStartCovered 3 (some .boolean) 4 0 0 [.ref (ad 4), .ref (pA ad p)] (WW C ad B E F S Y g R) (rbz (∃ k, 0 ≤ k ∧ k < Y 12 0 ∧ Cov Y p (Y 11 k)) (fun Z => WW C ad B E F Z Y g R)) := by
  refine mm_of (by decide +kernel) (Nat.le_of_ble_eq_true rfl) hfl (fun K Q X r => ?_)
  have X : Cx C l "Springleaf" cX4_isStartCovered 3 4 0 0 K := X
  have I3 := hI.1
  have I10 := hI.2.2.1
  have I12 := hI.2.2.2.2.1
  have loop9 : ∀ (Z : Nat → Int → Int), AP Y Z 180 (Y 3 0) → G C K Q 0 0 9 [(0, .ref (ad 4)), (1, .ref (pA ad p)), (2, vi 0)] [] (WW C ad B E F Z Y g R) := by
    intro Z hZ
    have loop : ∀ (n : Nat) (q : Int), 0 ≤ q → q ≤ Y 10 0 → Y 10 0 - q < n → (∀ i, 0 ≤ i → i < q → 0 ≤ g i → ¬ Cov Y p i) → G C K Q 0 0 9 [(0, .ref (ad 4)), (1, .ref (pA ad p)), (2, vi q)] [] (WW C ad B E F Z Y g R) := by
      intro n
      induction n with
      | zero => intro q h0 h1 h2; exact absurd h2 (by omega)
      | succ n ih =>
        intro q q0 h1 h2 hQ
        refine g_iload_n (t := 10) X dX4_isStartCovered_9 2 rfl rfl ?_
        refine g_aload_n (t := 11) X dX4_isStartCovered_10 0 rfl rfl ?_
        refine getf_X4 (t := 14) X 1 (by decide) q1_187 rfl rfl dX4_isStartCovered_11 rfl ?_
        refine g_callV (t := 17) (mc := 0) (ms := 0) (rest := [vi q]) X mt_Jx4a65c_size_8abf5 q1_210 q1_211 q1_212 2 WW_2 rfl (c_Jx4a65c_size_8abf5 (E := E) hfl 2 WW_2) (by decide) (Nat.le_of_ble_eq_true rfl) (Nat.le_of_ble_eq_true rfl) (Nat.le_of_ble_eq_true rfl) rfl rfl dX4_isStartCovered_14 rfl (k_rv ?_)
        refine g_icmp_ge (t := 63) (u := 20) X dX4_isStartCovered_17 (by decide) rfl ⟨by omega, by omega⟩ ⟨by omega, by omega⟩ (fun c_17 => ?_) (fun c_17 => ?_)
        · refine g_iconst (t := 64) X dX4_isStartCovered_63 rfl ?_
          exact g_zret X r rfl (rbz_f Z (fun h => by
                    obtain ⟨k, k0, k1, hc⟩ := h
                    obtain ⟨hr, hk⟩ := hG.at hI k0 k1
                    exact hQ _ hr.1 (by omega) (by omega) hc)) (Nat.le_of_ble_eq_true rfl) (Nat.le_of_ble_eq_true rfl) dX4_isStartCovered_64
        · refine g_aload_n (t := 21) X dX4_isStartCovered_20 0 rfl rfl ?_
          refine getf_X4 (t := 24) X 1 (by decide) q1_187 rfl rfl dX4_isStartCovered_21 rfl ?_
          refine g_iload_n (t := 25) X dX4_isStartCovered_24 2 rfl rfl ?_
          obtain ⟨cap_25, f_25, hc_25, ht_25, hf_25⟩ := hR (by omega)
          refine g_callV (t := 28) (mc := 0) (ms := 0) (rest := []) X mt_Jx4a65c_get_915e3 q1_214 q1_215 q1_216 2 WW_2 rfl (c_Jx4a65c_get_915e3 (E := E) hfl 2 WW_2 _ (WW_t ht_25) (by omega) (by omega) (by omega) (hf_25 q (by omega) (by omega)) (by omega) (by omega)) (by decide) (Nat.le_of_ble_eq_true rfl) (Nat.le_of_ble_eq_true rfl) (Nat.le_of_ble_eq_true rfl) rfl rfl dX4_isStartCovered_25 rfl (k_rv ?_)
          refine g_castS (t := 31) X _ (WW_p (p := q) (by omega) (by omega)) rfl q2_5 dX4_isStartCovered_28 rfl ?_
          have hg_31 := rng_g hI hG (p := q) (by omega) (by omega)
          refine g_callV (t := 34) (mc := 0) (ms := 0) (rest := []) X mt_X3_isGlued q3_83 q3_84 q3_85 _ (WW_p (p := q) (by omega) (by omega)) rfl (c_X3_isGlued (p := q) hfl hI (by omega) (by omega) ⟨by omega, by omega⟩) (by decide) (Nat.le_of_ble_eq_true rfl) (Nat.le_of_ble_eq_true rfl) (Nat.le_of_ble_eq_true rfl) rfl rfl dX4_isStartCovered_31 rfl (k_rb (fun b_31 => ?_) (fun b_31 => ?_))
          · refine g_if_eq (t := 57) (u := 37) X dX4_isStartCovered_34 (by decide) rfl ⟨by omega, by omega⟩ (fun c => absurd c (by decide)) (fun _ => ?_)
            refine g_aload_n (t := 38) X dX4_isStartCovered_37 0 rfl rfl ?_
            refine getf_X4 (t := 41) X 1 (by decide) q1_187 rfl rfl dX4_isStartCovered_38 rfl ?_
            refine g_iload_n (t := 42) X dX4_isStartCovered_41 2 rfl rfl ?_
            obtain ⟨cap_42, f_42, hc_42, ht_42, hf_42⟩ := hR (by omega)
            refine g_callV (t := 45) (mc := 0) (ms := 0) (rest := []) X mt_Jx4a65c_get_915e3 q1_214 q1_215 q1_216 2 WW_2 rfl (c_Jx4a65c_get_915e3 (E := E) hfl 2 WW_2 _ (WW_t ht_42) (by omega) (by omega) (by omega) (hf_42 q (by omega) (by omega)) (by omega) (by omega)) (by decide) (Nat.le_of_ble_eq_true rfl) (Nat.le_of_ble_eq_true rfl) (Nat.le_of_ble_eq_true rfl) rfl rfl dX4_isStartCovered_42 rfl (k_rv ?_)
            refine g_castS (t := 48) X _ (WW_p (p := q) (by omega) (by omega)) rfl q2_5 dX4_isStartCovered_45 rfl ?_
            refine g_aload_n (t := 49) X dX4_isStartCovered_48 1 rfl rfl ?_
            refine g_callV (t := 52) (mc := 0) (ms := 0) (rest := []) X mt_X3_coversStartOf q3_92 q3_93 q3_94 _ (WW_p (p := q) (by omega) (by omega)) rfl (c_X3_coversStartOf (p := q) (q := p) (o := 180) hfl hI (by omega) (by omega) (by omega) (by omega) hZ (by omega) (by omega)) (by decide) (Nat.le_of_ble_eq_true rfl) (Nat.le_of_ble_eq_true rfl) (Nat.le_of_ble_eq_true rfl) rfl rfl dX4_isStartCovered_49 rfl (k_rb (fun b_49 => ?_) (fun b_49 => ?_))
            · refine g_if_eq (t := 57) (u := 55) X dX4_isStartCovered_52 (by decide) rfl ⟨by omega, by omega⟩ (fun c => absurd c (by decide)) (fun _ => ?_)
              refine g_iconst (t := 56) X dX4_isStartCovered_55 rfl ?_
              exact g_zret X r rfl (rbz_t Z ⟨g q, by omega, ((hG q q0 (by omega)).1).2, by rw [(hG q q0 (by omega)).2.1 (by omega)]; exact ⟨⟨b_49.1.2, b_49.1.1⟩, b_49.2⟩⟩) (Nat.le_of_ble_eq_true rfl) (Nat.le_of_ble_eq_true rfl) dX4_isStartCovered_56
            · refine g_if_eq (t := 57) (u := 55) X dX4_isStartCovered_52 (by decide) rfl ⟨by omega, by omega⟩ (fun _ => ?_) (fun c => absurd c (by decide))
              refine g_iinc (t := 60) (lv1 := [(2, vi (q + 1)), (0, .ref (ad 4)), (1, .ref (pA ad p))]) X dX4_isStartCovered_57 2 rfl (by decide) rfl rfl ?_
              refine g_goto (t := 9) X dX4_isStartCovered_60 (by decide) ?_
              exact g_lv (ih (q + 1) (by omega) (by omega) (by omega) (fun i i0 i1 ig hc => by
                      rcases Int.lt_or_eq_of_le (show i ≤ q by omega) with c | c
                      · exact hQ i i0 c ig hc
                      · subst c; obtain ⟨⟨s1, s2⟩, s3⟩ := hc; first | omega | exact b_49 ⟨⟨s2, s1⟩, s3⟩)) [1, 2, 0] rfl
          · refine g_if_eq (t := 57) (u := 37) X dX4_isStartCovered_34 (by decide) rfl ⟨by omega, by omega⟩ (fun _ => ?_) (fun c => absurd c (by decide))
            refine g_iinc (t := 60) (lv1 := [(2, vi (q + 1)), (0, .ref (ad 4)), (1, .ref (pA ad p))]) X dX4_isStartCovered_57 2 rfl (by decide) rfl rfl ?_
            refine g_goto (t := 9) X dX4_isStartCovered_60 (by decide) ?_
            exact g_lv (ih (q + 1) (by omega) (by omega) (by omega) (fun i i0 i1 ig hc => by
                    rcases Int.lt_or_eq_of_le (show i ≤ q by omega) with c | c
                    · exact hQ i i0 c ig hc
                    · subst c; obtain ⟨⟨s1, s2⟩, s3⟩ := hc; first | omega | exact b_49 ⟨⟨s2, s1⟩, s3⟩)) [1, 2, 0] rfl
    exact loop ((Y 10 0).toNat + 1) 0 (by omega) (by omega) (by omega) (fun i i0 i1 => absurd i1 (by omega))
  show G C K Q 0 0 0 [(0, .ref (ad 4)), (1, .ref (pA ad p))] [] (WW C ad B E F S Y g R)
  refine g_aload_n (t := 1) X dX4_isStartCovered_0 0 rfl rfl ?_
  refine g_sipush (t := 4) (z := 180) X dX4_isStartCovered_1 (by decide +kernel) rfl ?_
  refine g_callV (t := 7) (mc := 0) (ms := 0) (rest := []) X mt_X4_openTo q1_206 q1_208 qs_3 4 WW_4 rfl (c_X4_openTo (o := 180) hfl hI hF (by omega) (by omega)) (by decide) (Nat.le_of_ble_eq_true rfl) (Nat.le_of_ble_eq_true rfl) (Nat.le_of_ble_eq_true rfl) rfl rfl dX4_isStartCovered_4 rfl (k_exn (fun Z4 hZ4 => ?_))
  refine g_iconst (t := 8) X dX4_isStartCovered_7 rfl ?_
  refine g_istore_n (t := 9) (lv1 := [(2, vi 0), (0, .ref (ad 4)), (1, .ref (pA ad p))]) X dX4_isStartCovered_8 (by decide) rfl rfl ?_
  exact g_lv (loop9 Z4 hZ4) [1, 2, 0] rfl

set_option maxHeartbeats 4000000 in
set_option maxRecDepth 100000 in
/-- hasHold(part) -/
theorem c_X4_hasHold {C : WC} {l : Launch} (hfl : l.stackTraces = false) {ad : Nat → Nat} {B : BT} {E : Int × Nat} {F : Int × Nat × Nat} {S Y : Nat → Int → Int} {g : Int → Int} {R : va_W} {p : Int} (hI : MI Y) (hF : FC F Y) (hR : LT ad C E Y R) (hG : SI Y g) (p0 : 0 ≤ p) (p1 : p < Y 10 0) : MM C l yX4_hasHold cX4_hasHold 3 (some .boolean) 3 0 0 [.ref (ad 4), .ref (pA ad p)] (WW C ad B E F S Y g R) (rb (HeldP Y p (Y 12 0)) (WW C ad B E F S Y g R)) := by
  refine mm_of (by decide +kernel) (Nat.le_of_ble_eq_true rfl) hfl (fun K Q X r => ?_)
  have X : Cx C l "Springleaf" cX4_hasHold 3 3 0 0 K := X
  have I3 := hI.1
  have I10 := hI.2.2.1
  have I12 := hI.2.2.2.2.1
  have hp := hI.2.2.2.1 p p0 p1
  refine g_nd (fun hnd => ?_)
  have hnd : ((WW C ad B E F S Y g R).map Prod.fst).Nodup := hnd
  have loop9 : 1 ≤ Y 4 p → G C K Q 0 0 14 [(0, .ref (ad 4)), (1, .ref (pA ad p)), (2, vi 0)] [] (WW C ad B E F S Y g R) := by
    intro hz
    have hf := hI.2.1 (Y 4 p) hz hp.1.2
    have loop : ∀ (n : Nat) (q : Int), 0 ≤ q → q ≤ Y 10 0 → Y 10 0 - q < n → (∀ i, 0 ≤ i → i < q → 0 ≤ g i → ¬ Y 4 i = Y 0 (Y 4 p)) → G C K Q 0 0 14 [(0, .ref (ad 4)), (1, .ref (pA ad p)), (2, vi q)] [] (WW C ad B E F S Y g R) := by
      intro n
      induction n with
      | zero => intro q h0 h1 h2; exact absurd h2 (by omega)
      | succ n ih =>
        intro q q0 h1 h2 hQ
        refine g_iload_n (t := 15) X dX4_hasHold_14 2 rfl rfl ?_
        refine g_aload_n (t := 16) X dX4_hasHold_15 0 rfl rfl ?_
        refine getf_X4 (t := 19) X 1 (by decide) q1_187 rfl rfl dX4_hasHold_16 rfl ?_
        refine g_callV (t := 22) (mc := 0) (ms := 0) (rest := [vi q]) X mt_Jx4a65c_size_8abf5 q1_210 q1_211 q1_212 2 WW_2 rfl (c_Jx4a65c_size_8abf5 (E := E) hfl 2 WW_2) (by decide) (Nat.le_of_ble_eq_true rfl) (Nat.le_of_ble_eq_true rfl) (Nat.le_of_ble_eq_true rfl) rfl rfl dX4_hasHold_19 rfl (k_rv ?_)
        refine g_icmp_ge (t := 74) (u := 25) X dX4_hasHold_22 (by decide) rfl ⟨by omega, by omega⟩ ⟨by omega, by omega⟩ (fun c_22 => ?_) (fun c_22 => ?_)
        · refine g_iconst (t := 75) X dX4_hasHold_74 rfl ?_
          exact g_zret X r rfl (rb_f (fun h => by
                    rcases h with h | ⟨k, k0, k1, hc⟩
                    · omega
                    · obtain ⟨hr, hk⟩ := hG.at hI k0 k1
                      exact hQ _ hr.1 (by omega) (by omega) hc)) (Nat.le_of_ble_eq_true rfl) (Nat.le_of_ble_eq_true rfl) dX4_hasHold_75
        · refine g_aload_n (t := 26) X dX4_hasHold_25 0 rfl rfl ?_
          refine getf_X4 (t := 29) X 1 (by decide) q1_187 rfl rfl dX4_hasHold_26 rfl ?_
          refine g_iload_n (t := 30) X dX4_hasHold_29 2 rfl rfl ?_
          obtain ⟨cap_30, f_30, hc_30, ht_30, hf_30⟩ := hR (by omega)
          refine g_callV (t := 33) (mc := 0) (ms := 0) (rest := []) X mt_Jx4a65c_get_915e3 q1_214 q1_215 q1_216 2 WW_2 rfl (c_Jx4a65c_get_915e3 (E := E) hfl 2 WW_2 _ (WW_t ht_30) (by omega) (by omega) (by omega) (hf_30 q (by omega) (by omega)) (by omega) (by omega)) (by decide) (Nat.le_of_ble_eq_true rfl) (Nat.le_of_ble_eq_true rfl) (Nat.le_of_ble_eq_true rfl) rfl rfl dX4_hasHold_30 rfl (k_rv ?_)
          refine g_castS (t := 36) X _ (WW_p (p := q) (by omega) (by omega)) rfl q2_5 dX4_hasHold_33 rfl ?_
          have hg_36 := rng_g hI hG (p := q) (by omega) (by omega)
          refine g_callV (t := 39) (mc := 0) (ms := 0) (rest := []) X mt_X3_isGlued q3_83 q3_84 q3_85 _ (WW_p (p := q) (by omega) (by omega)) rfl (c_X3_isGlued (p := q) hfl hI (by omega) (by omega) ⟨by omega, by omega⟩) (by decide) (Nat.le_of_ble_eq_true rfl) (Nat.le_of_ble_eq_true rfl) (Nat.le_of_ble_eq_true rfl) rfl rfl dX4_hasHold_36 rfl (k_rb (fun b_36 => ?_) (fun b_36 => ?_))
          · refine g_if_eq (t := 68) (u := 42) X dX4_hasHold_39 (by decide) rfl ⟨by omega, by omega⟩ (fun c => absurd c (by decide)) (fun _ => ?_)
            refine g_aload_n (t := 43) X dX4_hasHold_42 0 rfl rfl ?_
            refine getf_X4 (t := 46) X 1 (by decide) q1_187 rfl rfl dX4_hasHold_43 rfl ?_
            refine g_iload_n (t := 47) X dX4_hasHold_46 2 rfl rfl ?_
            obtain ⟨cap_47, f_47, hc_47, ht_47, hf_47⟩ := hR (by omega)
            refine g_callV (t := 50) (mc := 0) (ms := 0) (rest := []) X mt_Jx4a65c_get_915e3 q1_214 q1_215 q1_216 2 WW_2 rfl (c_Jx4a65c_get_915e3 (E := E) hfl 2 WW_2 _ (WW_t ht_47) (by omega) (by omega) (by omega) (hf_47 q (by omega) (by omega)) (by omega) (by omega)) (by decide) (Nat.le_of_ble_eq_true rfl) (Nat.le_of_ble_eq_true rfl) (Nat.le_of_ble_eq_true rfl) rfl rfl dX4_hasHold_47 rfl (k_rv ?_)
            refine g_castS (t := 53) X _ (WW_p (p := q) (by omega) (by omega)) rfl q2_5 dX4_hasHold_50 rfl ?_
            have hq := hI.2.2.2.1 q q0 (by omega)
            refine g_getf (t := 56) (v := .ref (fA ad (Y 4 q))) X inX3 _ (WW_p (p := q) (by omega) (by omega)) rfl 0 (by decide) q2_218 rfl rfl dX4_hasHold_53 rfl ?_
            refine g_aload_n (t := 57) X dX4_hasHold_56 1 rfl rfl ?_
            refine g_getf (t := 60) (v := .ref (fA ad (Y 4 p))) X inX3 _ (WW_p (p := p) (by omega) (by omega)) rfl 0 (by decide) q2_218 rfl rfl dX4_hasHold_57 rfl ?_
            refine g_getf (t := 63) (v := .ref (fA ad (Y 0 (Y 4 p)))) X inX0 _ (WW_f (i := Y 4 p) (by omega) (by omega)) rfl 1 (by decide) q1_104 rfl (congrArg some (on_p (by omega))) dX4_hasHold_60 rfl ?_
            refine g_acmp_ne (t := 68) (u := 66) X dX4_hasHold_63 (by decide) rfl (fun c_63 => ?_) (fun c_63 => ?_)
            · refine g_iinc (t := 71) (lv1 := [(2, vi (q + 1)), (0, .ref (ad 4)), (1, .ref (pA ad p))]) X dX4_hasHold_68 2 rfl (by decide) rfl rfl ?_
              refine g_goto (t := 14) X dX4_hasHold_71 (by decide) ?_
              exact g_lv (ih (q + 1) (by omega) (by omega) (by omega) (fun i i0 i1 ig hc => by
                      rcases Int.lt_or_eq_of_le (show i ≤ q by omega) with c | c
                      · exact hQ i i0 c ig hc
                      · subst c; first | omega | exact c_63 (by rw [hc]))) [1, 2, 0] rfl
            · refine g_iconst (t := 67) X dX4_hasHold_66 rfl ?_
              exact g_zret X r rfl (rb_t (Or.inr ⟨g q, by omega, ((hG q q0 (by omega)).1).2, by rw [(hG q q0 (by omega)).2.1 (by omega)]; exact WW_inj hnd hq.1.1 hq.1.2 (by omega) (by omega) c_63⟩)) (Nat.le_of_ble_eq_true rfl) (Nat.le_of_ble_eq_true rfl) dX4_hasHold_67
          · refine g_if_eq (t := 68) (u := 42) X dX4_hasHold_39 (by decide) rfl ⟨by omega, by omega⟩ (fun _ => ?_) (fun c => absurd c (by decide))
            refine g_iinc (t := 71) (lv1 := [(2, vi (q + 1)), (0, .ref (ad 4)), (1, .ref (pA ad p))]) X dX4_hasHold_68 2 rfl (by decide) rfl rfl ?_
            refine g_goto (t := 14) X dX4_hasHold_71 (by decide) ?_
            exact g_lv (ih (q + 1) (by omega) (by omega) (by omega) (fun i i0 i1 ig hc => by
                    rcases Int.lt_or_eq_of_le (show i ≤ q by omega) with c | c
                    · exact hQ i i0 c ig hc
                    · subst c; first | omega | exact c_63 (by rw [hc]))) [1, 2, 0] rfl
    exact loop ((Y 10 0).toNat + 1) 0 (by omega) (by omega) (by omega) (fun i i0 i1 => absurd i1 (by omega))
  rcases (show Y 4 p = 0 ∨ 1 ≤ Y 4 p by omega) with e0 | hz
  · show G C K Q 0 0 0 [(0, .ref (ad 4)), (1, .ref (pA ad p))] [] (WW C ad B E F S Y g R)
    refine g_aload_n (t := 1) X dX4_hasHold_0 1 rfl rfl ?_
    refine g_getf (t := 4) (v := .ref (fA ad (Y 4 p))) X inX3 _ (WW_p (p := p) (by omega) (by omega)) rfl 0 (by decide) q2_218 rfl rfl dX4_hasHold_1 rfl ?_
    refine g_getf (t := 7) (v := .null) X inX0 _ (WW_f (i := Y 4 p) (by omega) (by omega)) rfl 1 (by decide) q1_104 rfl (congrArg some (on_0 (by omega))) dX4_hasHold_4 rfl ?_
    refine g_ifnonnullN (t := 10) X dX4_hasHold_7 rfl ?_
    refine g_iconst (t := 11) X dX4_hasHold_10 rfl ?_
    exact g_zret X r rfl (rb_t (Or.inl e0)) (Nat.le_of_ble_eq_true rfl) (Nat.le_of_ble_eq_true rfl) dX4_hasHold_11
  · show G C K Q 0 0 0 [(0, .ref (ad 4)), (1, .ref (pA ad p))] [] (WW C ad B E F S Y g R)
    refine g_aload_n (t := 1) X dX4_hasHold_0 1 rfl rfl ?_
    refine g_getf (t := 4) (v := .ref (fA ad (Y 4 p))) X inX3 _ (WW_p (p := p) (by omega) (by omega)) rfl 0 (by decide) q2_218 rfl rfl dX4_hasHold_1 rfl ?_
    refine g_getf (t := 7) (v := .ref (fA ad (Y 0 (Y 4 p)))) X inX0 _ (WW_f (i := Y 4 p) (by omega) (by omega)) rfl 1 (by decide) q1_104 rfl (congrArg some (on_p (by omega))) dX4_hasHold_4 rfl ?_
    refine g_ifnonnull (t := 12) X dX4_hasHold_7 (by decide) ?_
    refine g_iconst (t := 13) X dX4_hasHold_12 rfl ?_
    refine g_istore_n (t := 14) (lv1 := [(2, vi 0), (0, .ref (ad 4)), (1, .ref (pA ad p))]) X dX4_hasHold_13 (by decide) rfl rfl ?_
    exact g_lv (loop9 hz) [1, 2, 0] rfl

set_option maxHeartbeats 4000000 in
set_option maxRecDepth 100000 in
/-- partGluedAt(step) -/
theorem c_X4_partGluedAt {C : WC} {l : Launch} (hfl : l.stackTraces = false) {ad : Nat → Nat} {B : BT} {E : Int × Nat} {F : Int × Nat × Nat} {S Y : Nat → Int → Int} {g : Int → Int} {R : va_W} {x : Int} (hI : MI Y) (hF : FC F Y) (hR : LT ad C E Y R) (hG : SI Y g) (x0 : 0 ≤ x) (x1 : x < 2147483648) : MM C l yX4_partGluedAt cX4_partGluedAt 3 (some .int) 3 0 0 [.ref (ad 4), vi x] (WW C ad B E F S Y g R) (rv (vi (ptF Y x)) (WW C ad B E F S Y g R)) := by
  refine mm_of (by decide +kernel) (Nat.le_of_ble_eq_true rfl) hfl (fun K Q X r => ?_)
  have X : Cx C l "Springleaf" cX4_partGluedAt 3 3 0 0 K := X
  have I3 := hI.1
  have I10 := hI.2.2.1
  have I12 := hI.2.2.2.2.1
  have loop : ∀ (n : Nat) (q : Int), 0 ≤ q → q ≤ Y 10 0 → Y 10 0 - q < n → (∀ i, 0 ≤ i → i < q → ¬ g i = x) → G C K Q 0 0 2 [(0, .ref (ad 4)), (1, vi x), (2, vi q)] [] (WW C ad B E F S Y g R) := by
    intro n
    induction n with
    | zero => intro q h0 h1 h2; exact absurd h2 (by omega)
    | succ n ih =>
      intro q q0 h1 h2 hQ
      refine g_iload_n (t := 3) X dX4_partGluedAt_2 2 rfl rfl ?_
      refine g_aload_n (t := 4) X dX4_partGluedAt_3 0 rfl rfl ?_
      refine getf_X4 (t := 7) X 1 (by decide) q1_187 rfl rfl dX4_partGluedAt_4 rfl ?_
      refine g_callV (t := 10) (mc := 0) (ms := 0) (rest := [vi q]) X mt_Jx4a65c_size_8abf5 q1_210 q1_211 q1_212 2 WW_2 rfl (c_Jx4a65c_size_8abf5 (E := E) hfl 2 WW_2) (by decide) (Nat.le_of_ble_eq_true rfl) (Nat.le_of_ble_eq_true rfl) (Nat.le_of_ble_eq_true rfl) rfl rfl dX4_partGluedAt_7 rfl (k_rv ?_)
      refine g_icmp_ge (t := 39) (u := 13) X dX4_partGluedAt_10 (by decide) rfl ⟨by omega, by omega⟩ ⟨by omega, by omega⟩ (fun c_10 => ?_) (fun c_10 => ?_)
      · refine g_iconst (t := 40) X dX4_partGluedAt_39 rfl ?_
        exact g_iret X r (rv_i (by
                unfold ptF
                rw [if_neg (fun h => by
                  obtain ⟨hr, hk⟩ := hG.at hI h.1 h.2
                  exact hQ _ hr.1 (by omega) hk)])) (Nat.le_of_ble_eq_true rfl) (Nat.le_of_ble_eq_true rfl) dX4_partGluedAt_40
      · refine g_aload_n (t := 14) X dX4_partGluedAt_13 0 rfl rfl ?_
        refine getf_X4 (t := 17) X 1 (by decide) q1_187 rfl rfl dX4_partGluedAt_14 rfl ?_
        refine g_iload_n (t := 18) X dX4_partGluedAt_17 2 rfl rfl ?_
        obtain ⟨cap_18, f_18, hc_18, ht_18, hf_18⟩ := hR (by omega)
        refine g_callV (t := 21) (mc := 0) (ms := 0) (rest := []) X mt_Jx4a65c_get_915e3 q1_214 q1_215 q1_216 2 WW_2 rfl (c_Jx4a65c_get_915e3 (E := E) hfl 2 WW_2 _ (WW_t ht_18) (by omega) (by omega) (by omega) (hf_18 q (by omega) (by omega)) (by omega) (by omega)) (by decide) (Nat.le_of_ble_eq_true rfl) (Nat.le_of_ble_eq_true rfl) (Nat.le_of_ble_eq_true rfl) rfl rfl dX4_partGluedAt_18 rfl (k_rv ?_)
        refine g_castS (t := 24) X _ (WW_p (p := q) (by omega) (by omega)) rfl q2_5 dX4_partGluedAt_21 rfl ?_
        refine g_getf (t := 27) (v := vi (g q)) X inX3 _ (WW_p (p := q) (by omega) (by omega)) rfl 6 (by decide) q2_226 rfl rfl dX4_partGluedAt_24 rfl ?_
        refine g_iload_n (t := 28) X dX4_partGluedAt_27 1 rfl rfl ?_
        have hq := rng_g hI hG q0 (by omega)
        refine g_icmp_ne (t := 33) (u := 31) X dX4_partGluedAt_28 (by decide) rfl ⟨by omega, by omega⟩ ⟨by omega, by omega⟩ (fun c_28 => ?_) (fun c_28 => ?_)
        · refine g_iinc (t := 36) (lv1 := [(2, vi (q + 1)), (0, .ref (ad 4)), (1, vi x)]) X dX4_partGluedAt_33 2 rfl (by decide) rfl rfl ?_
          refine g_goto (t := 2) X dX4_partGluedAt_36 (by decide) ?_
          exact g_lv (ih (q + 1) (by omega) (by omega) (by omega) (fun i i0 i1 hc => by
                  rcases Int.lt_or_eq_of_le (show i ≤ q by omega) with c | c
                  · exact hQ i i0 c hc
                  · subst c; exact c_28 hc)) [1, 2, 0] rfl
        · refine g_iload_n (t := 32) X dX4_partGluedAt_31 2 rfl rfl ?_
          exact g_iret X r (rv_i (by
                  have h9 := hG q q0 (by omega)
                  unfold ptF
                  rw [if_pos (by omega)]
                  have h8 := h9.2.1 (by omega)
                  rw [c_28] at h8; exact h8.symm)) (Nat.le_of_ble_eq_true rfl) (Nat.le_of_ble_eq_true rfl) dX4_partGluedAt_32
  show G C K Q 0 0 0 [(0, .ref (ad 4)), (1, vi x)] [] (WW C ad B E F S Y g R)
  refine g_iconst (t := 1) X dX4_partGluedAt_0 rfl ?_
  refine g_istore_n (t := 2) (lv1 := [(2, vi 0), (0, .ref (ad 4)), (1, vi x)]) X dX4_partGluedAt_1 (by decide) rfl rfl ?_
  exact g_lv (loop ((Y 10 0).toNat + 1) 0 (by omega) (by omega) (by omega) (fun i i0 i1 => absurd i1 (by omega))) [1, 2, 0] rfl

set_option maxHeartbeats 4000000 in
set_option maxRecDepth 100000 in
/-- unglueFrom(step) -/
theorem c_X4_unglueFrom {C : WC} {l : Launch} (hfl : l.stackTraces = false) {ad : Nat → Nat} {B : BT} {E : Int × Nat} {F : Int × Nat × Nat} {S Y : Nat → Int → Int} {g : Int → Int} {R : va_W} {k : Int} (hI : MI Y) (hF : FC F Y) (hR : LT ad C E Y R) (hg : ∀ p, 0 ≤ p → p < Y 10 0 → -1 ≤ g p ∧ g p < 16) (k0 : 0 ≤ k) (k1 : k ≤ 16) : MM C l yX4_unglueFrom cX4_unglueFrom 3 (some .int) 3 0 0 [.ref (ad 4), vi k] (WW C ad B E F S Y g R) (fun v w => ∃ h : Int → Int, (∀ p, 0 ≤ p → p < Y 10 0 → h p = if k ≤ g p then -1 else g p) ∧ v = some (vi (Y 12 0 - k)) ∧ w = WW C ad B E F S (u2 Y 12 0 k) h R) := by
  refine mm_of (by decide +kernel) (Nat.le_of_ble_eq_true rfl) hfl (fun K Q X r => ?_)
  have X : Cx C l "Springleaf" cX4_unglueFrom 3 3 0 0 K := X
  have I3 := hI.1
  have I10 := hI.2.2.1
  have I12 := hI.2.2.2.2.1
  have loop : ∀ (n : Nat) (q : Int) (h : Int → Int), 0 ≤ q → q ≤ Y 10 0 → Y 10 0 - q < n → (∀ p, 0 ≤ p → p < Y 10 0 → (p < q → h p = if k ≤ g p then -1 else g p) ∧ (q ≤ p → h p = g p)) → G C K Q 0 0 2 [(0, .ref (ad 4)), (1, vi k), (2, vi q)] [] (WW C ad B E F S Y h R) := by
    intro n
    induction n with
    | zero => intro q h h0 h1 h2; exact absurd h2 (by omega)
    | succ n ih =>
      intro q h q0 h1 h2 hH
      refine g_iload_n (t := 3) X dX4_unglueFrom_2 2 rfl rfl ?_
      refine g_aload_n (t := 4) X dX4_unglueFrom_3 0 rfl rfl ?_
      refine getf_X4 (t := 7) X 1 (by decide) q1_187 rfl rfl dX4_unglueFrom_4 rfl ?_
      refine g_callV (t := 10) (mc := 0) (ms := 0) (rest := [vi q]) X mt_Jx4a65c_size_8abf5 q1_210 q1_211 q1_212 2 WW_2 rfl (c_Jx4a65c_size_8abf5 (E := E) hfl 2 WW_2) (by decide) (Nat.le_of_ble_eq_true rfl) (Nat.le_of_ble_eq_true rfl) (Nat.le_of_ble_eq_true rfl) rfl rfl dX4_unglueFrom_7 rfl (k_rv ?_)
      refine g_icmp_ge (t := 52) (u := 13) X dX4_unglueFrom_10 (by decide) rfl ⟨by omega, by omega⟩ ⟨by omega, by omega⟩ (fun c_10 => ?_) (fun c_10 => ?_)
      · refine g_aload_n (t := 53) X dX4_unglueFrom_52 0 rfl rfl ?_
        refine getf_X4 (t := 56) (v := vi (Y 12 0)) X 3 (by decide) q1_189 rfl rfl dX4_unglueFrom_53 rfl ?_
        refine g_iload_n (t := 57) X dX4_unglueFrom_56 1 rfl rfl ?_
        refine g_isub (t := 58) X dX4_unglueFrom_57 rfl ?_
        refine g_istore_n (t := 59) (lv1 := [(2, vi ((Y 12 0) - k)), (0, .ref (ad 4)), (1, vi k)]) X dX4_unglueFrom_58 (by decide) rfl rfl ?_
        refine g_aload_n (t := 60) X dX4_unglueFrom_59 1 rfl rfl ?_
        refine g_iload_n (t := 61) X dX4_unglueFrom_60 2 rfl rfl ?_
        refine putf_X4 (t := 64) X 3 (by decide) q1_189 rfl rfl rfl WW_f_3 dX4_unglueFrom_61 rfl ?_
        refine g_iload_n (t := 65) X dX4_unglueFrom_64 0 rfl rfl ?_
        exact g_iret X r ⟨h, fun p p0 p1 => (hH p p0 p1).1 (by omega), rfl, rfl⟩ (Nat.le_of_ble_eq_true rfl) (Nat.le_of_ble_eq_true rfl) dX4_unglueFrom_65
      · refine g_aload_n (t := 14) X dX4_unglueFrom_13 0 rfl rfl ?_
        refine getf_X4 (t := 17) X 1 (by decide) q1_187 rfl rfl dX4_unglueFrom_14 rfl ?_
        refine g_iload_n (t := 18) X dX4_unglueFrom_17 2 rfl rfl ?_
        obtain ⟨cap_18, f_18, hc_18, ht_18, hf_18⟩ := hR (by omega)
        refine g_callV (t := 21) (mc := 0) (ms := 0) (rest := []) X mt_Jx4a65c_get_915e3 q1_214 q1_215 q1_216 2 WW_2 rfl (c_Jx4a65c_get_915e3 (E := E) hfl 2 WW_2 _ (WW_t ht_18) (by omega) (by omega) (by omega) (hf_18 q (by omega) (by omega)) (by omega) (by omega)) (by decide) (Nat.le_of_ble_eq_true rfl) (Nat.le_of_ble_eq_true rfl) (Nat.le_of_ble_eq_true rfl) rfl rfl dX4_unglueFrom_18 rfl (k_rv ?_)
        refine g_castS (t := 24) X _ (WW_p (p := q) (by omega) (by omega)) rfl q2_5 dX4_unglueFrom_21 rfl ?_
        refine g_getf (t := 27) (v := vi (h q)) X inX3 _ (WW_p (p := q) (by omega) (by omega)) rfl 6 (by decide) q2_226 rfl rfl dX4_unglueFrom_24 rfl ?_
        rw [(hH q q0 (by omega)).2 (Int.le_refl q)]
        refine g_iload_n (t := 28) X dX4_unglueFrom_27 1 rfl rfl ?_
        have hq := hg q q0 (by omega)
        refine g_icmp_lt (t := 46) (u := 31) X dX4_unglueFrom_28 (by decide) rfl ⟨by omega, by omega⟩ ⟨by omega, by omega⟩ (fun c_28 => ?_) (fun c_28 => ?_)
        · refine g_iinc (t := 49) (lv1 := [(2, vi (q + 1)), (0, .ref (ad 4)), (1, vi k)]) X dX4_unglueFrom_46 2 rfl (by decide) rfl rfl ?_
          refine g_goto (t := 2) X dX4_unglueFrom_49 (by decide) ?_
          exact g_lv (ih (q + 1) h (by omega) (by omega) (by omega) (fun p p0 p1 => by
                  have h9 := hH p p0 p1
                  by_cases c : p = q
                  · subst c
                    refine ⟨fun _ => ?_, fun c => by omega⟩
                    first | (rw [uI_s, if_pos (by omega)]) | (rw [h9.2 (Int.le_refl p), if_neg (by omega)])
                  · first | (rw [uI_n _ _ c]; exact ⟨fun c2 => h9.1 (by omega), fun c2 => h9.2 (by omega)⟩) | exact ⟨fun c2 => h9.1 (by omega), fun c2 => h9.2 (by omega)⟩)) [1, 2, 0] rfl
        · refine g_aload_n (t := 32) X dX4_unglueFrom_31 0 rfl rfl ?_
          refine getf_X4 (t := 35) X 1 (by decide) q1_187 rfl rfl dX4_unglueFrom_32 rfl ?_
          refine g_iload_n (t := 36) X dX4_unglueFrom_35 2 rfl rfl ?_
          obtain ⟨cap_36, f_36, hc_36, ht_36, hf_36⟩ := hR (by omega)
          refine g_callV (t := 39) (mc := 0) (ms := 0) (rest := []) X mt_Jx4a65c_get_915e3 q1_214 q1_215 q1_216 2 WW_2 rfl (c_Jx4a65c_get_915e3 (E := E) hfl 2 WW_2 _ (WW_t ht_36) (by omega) (by omega) (by omega) (hf_36 q (by omega) (by omega)) (by omega) (by omega)) (by decide) (Nat.le_of_ble_eq_true rfl) (Nat.le_of_ble_eq_true rfl) (Nat.le_of_ble_eq_true rfl) rfl rfl dX4_unglueFrom_36 rfl (k_rv ?_)
          refine g_castS (t := 42) X _ (WW_p (p := q) (by omega) (by omega)) rfl q2_5 dX4_unglueFrom_39 rfl ?_
          refine g_iconst (t := 43) X dX4_unglueFrom_42 rfl ?_
          refine g_putf (t := 46) X inX3 tyX3 tyX3_ok nmX3 _ (WW_p (p := q) (by omega) (by omega)) rfl 6 (by decide) q2_226 rfl rfl rfl rfl rfl (Nat.le_of_ble_eq_true rfl) (WW_sp6 (p := q) (by omega) (by omega)) dX4_unglueFrom_43 rfl ?_
          refine g_iinc (t := 49) (lv1 := [(2, vi (q + 1)), (0, .ref (ad 4)), (1, vi k)]) X dX4_unglueFrom_46 2 rfl (by decide) rfl rfl ?_
          refine g_goto (t := 2) X dX4_unglueFrom_49 (by decide) ?_
          exact g_lv (ih (q + 1) (uI h q (-1)) (by omega) (by omega) (by omega) (fun p p0 p1 => by
                  have h9 := hH p p0 p1
                  by_cases c : p = q
                  · subst c
                    refine ⟨fun _ => ?_, fun c => by omega⟩
                    first | (rw [uI_s, if_pos (by omega)]) | (rw [h9.2 (Int.le_refl p), if_neg (by omega)])
                  · first | (rw [uI_n _ _ c]; exact ⟨fun c2 => h9.1 (by omega), fun c2 => h9.2 (by omega)⟩) | exact ⟨fun c2 => h9.1 (by omega), fun c2 => h9.2 (by omega)⟩)) [1, 2, 0] rfl
  show G C K Q 0 0 0 [(0, .ref (ad 4)), (1, vi k)] [] (WW C ad B E F S Y g R)
  refine g_iconst (t := 1) X dX4_unglueFrom_0 rfl ?_
  refine g_istore_n (t := 2) (lv1 := [(2, vi 0), (0, .ref (ad 4)), (1, vi k)]) X dX4_unglueFrom_1 (by decide) rfl rfl ?_
  exact g_lv (loop ((Y 10 0).toNat + 1) 0 g (by omega) (by omega) (by omega) (fun p p0 p1 => ⟨fun c => by omega, fun _ => rfl⟩)) [1, 2, 0] rfl

