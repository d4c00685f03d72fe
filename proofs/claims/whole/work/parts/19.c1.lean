/-- as mm_of, for a method of any class -/
theorem mf_of {C : WC} {l : Launch} {y : MethodName} {cc : ByteArray} {maxL : Nat} {ret : Option FieldType} {d mc ms : Nat} {av : List Value} {ws : va_W} {post : Option Value → va_W → Prop} (hy : plainFor y = true) (hlen : (lg_sl av).length ≤ maxL) (hfl : l.stackTraces = false)
    (body : ∀ (K : GK) (Q : State → Prop), Cx C l y.cls cc maxL d mc ms K → Rt C ret post mc ms Q K → G C K Q 0 0 0 (lv_args 0 av) [] ws) : MM C l y cc maxL ret d mc ms av ws post := by
  refine va_MetF (cc := cc) (maxL := maxL) (ret := ret) hy rfl ?_
  intro p e s m args below meth c s₁ B hml hv
  obtain ⟨rfl, h1, h2, h3, h4, h5, h6⟩ := hv
  have hl := lv_entry av hlen
  rw [lg_entry_eq]
  exact body (p, l, e, _, s, m, av.toArray, below, meth, c, maxL) _ ⟨rfl, rfl, B.exec, B.bytes, hml, findClass_of_methodNamed B.named, h5, h4, h1, h6, B.notSynchronized, hfl, Nat.le_refl _, Nat.le_refl _, Nat.le_refl _, Nat.le_refl _⟩ ⟨B.returns, fun _ _ _ h => h⟩ _ _ _ h2 h3 va_S.rf hl
theorem stp_none {ord : Int → Int} {p : Int} : ∀ n : Nat, (∀ i : Int, 0 ≤ i → i < (n : Int) → ord i ≠ p) → stp ord p n = -1 := by
  intro n
  induction n with
  | zero => intro _; rfl
  | succ n ih =>
    intro h
    simp only [stp]
    rw [if_neg (h n (by omega) (by omega))]
    exact ih (fun i i0 i1 => h i i0 (by omega))
theorem stp_at {ord : Int → Int} {p k : Int} (k0 : 0 ≤ k) (hk : ord k = p) : ∀ n : Nat, k < n → (∀ i : Int, 0 ≤ i → i < (n : Int) → ord i = p → i = k) → stp ord p n = k := by
  intro n
  induction n with
  | zero => intro h; omega
  | succ n ih =>
    intro h hu
    simp only [stp]
    by_cases e : ord n = p
    · rw [if_pos e]; exact hu n (by omega) (by omega) e
    · rw [if_neg e]
      have : k ≠ n := fun q => e (q ▸ hk)
      exact ih (by omega) (fun i i0 i1 => hu i i0 (by omega))
theorem u2_comm (S : Nat → Int → Int) {k k' : Nat} (h : k ≠ k') (a v a' v' : Int) : u2 (u2 S k a v) k' a' v' = u2 (u2 S k' a' v') k a v := by
  funext i
  by_cases h1 : i = k
  · subst h1
    rw [u2_n _ _ _ h, u2_s, u2_s, u2_n _ _ _ h]
  · by_cases h2 : i = k'
    · subst h2
      rw [u2_s, u2_n _ _ _ h1, u2_n _ _ _ h1, u2_s]
    · rw [u2_n _ _ _ h2, u2_n _ _ _ h1, u2_n _ _ _ h1, u2_n _ _ _ h2]
def ptF (Y : Nat → Int → Int) (x : Int) : Int := if 0 ≤ x ∧ x < Y 12 0 then Y 11 x else -1

set_option maxHeartbeats 4000000 in
set_option maxRecDepth 100000 in
/-- push(part) -/
theorem c_X1_push {C : WC} {l : Launch} (hfl : l.stackTraces = false) {ad : Nat → Nat} {B : BT} {E : Int × Nat} {S Y V : Nat → Int → Int} {R : va_W} {p : Int}  (g0 : 0 ≤ Y 12 0) (g1 : Y 12 0 < 16) : MM C l yX1_push cX1_push 2 (some .int) 0 0 0 [.ref (ad 11), vi p] (wC C ad B E S Y V ++ R) (rv (vi (Y 12 0 + 1)) (wC C ad B E S (u2 (u2 Y 11 (Y 12 0) p) 12 0 (Y 12 0 + 1)) V ++ R)) := by
  refine mm_of (by decide +kernel) (Nat.le_of_ble_eq_true rfl) hfl (fun K Q X r => ?_)
  have X : Cx C l "Springleaf$Gluing" cX1_push 2 0 0 0 K := X
  show G C K Q 0 0 0 [(0, .ref (ad 11)), (1, vi p)] [] (wC C ad B E S Y V ++ R)
  refine g_aload_n (t := 1) X dX1_push_0 0 rfl rfl ?_
  refine getf_X1 (t := 4) X 0 (by decide) q1_138 rfl rfl dX1_push_1 rfl ?_
  refine g_aload_n (t := 5) X dX1_push_4 0 rfl rfl ?_
  refine getf_X1 (t := 8) X 1 (by decide) q1_139 rfl rfl dX1_push_5 rfl ?_
  refine g_iload_n (t := 9) X dX1_push_8 1 rfl rfl ?_
  refine g_iast (t := 10) (f := Y 11) X 12 wC_12 (by omega) (by omega) (by omega) wC_s_12 dX1_push_9 rfl ?_
  refine g_aload_n (t := 11) X dX1_push_10 0 rfl rfl ?_
  refine g_dup (t := 12) X dX1_push_11 rfl rfl ?_
  refine getf_X1 (t := 15) (v := vi (Y 12 0)) X 1 (by decide) q1_139 rfl rfl dX1_push_12 rfl ?_
  refine g_iconst (t := 16) X dX1_push_15 rfl ?_
  refine g_iadd (t := 17) X dX1_push_16 rfl ?_
  refine putf_X1 (t := 20) X 1 (by decide) q1_139 rfl rfl rfl wC_f_X1_1 dX1_push_17 rfl ?_
  refine g_aload_n (t := 21) X dX1_push_20 0 rfl rfl ?_
  refine getf_X1 (t := 24) (v := vi ((Y 12 0) + 1)) X 1 (by decide) q1_139 rfl rfl dX1_push_21 rfl ?_
  exact g_iret X r (rv_i rfl) (Nat.le_of_ble_eq_true rfl) (Nat.le_of_ble_eq_true rfl) dX1_push_24

set_option maxHeartbeats 4000000 in
set_option maxRecDepth 100000 in
/-- cutTo(steps) -/
theorem c_X1_cutTo {C : WC} {l : Launch} (hfl : l.stackTraces = false) {ad : Nat → Nat} {B : BT} {E : Int × Nat} {S Y V : Nat → Int → Int} {R : va_W} {k : Int}   : MM C l yX1_cutTo cX1_cutTo 3 (some .int) 0 0 0 [.ref (ad 11), vi k] (wC C ad B E S Y V ++ R) (rv (vi (Y 12 0 - k)) (wC C ad B E S (u2 Y 12 0 k) V ++ R)) := by
  refine mm_of (by decide +kernel) (Nat.le_of_ble_eq_true rfl) hfl (fun K Q X r => ?_)
  have X : Cx C l "Springleaf$Gluing" cX1_cutTo 3 0 0 0 K := X
  show G C K Q 0 0 0 [(0, .ref (ad 11)), (1, vi k)] [] (wC C ad B E S Y V ++ R)
  refine g_aload_n (t := 1) X dX1_cutTo_0 0 rfl rfl ?_
  refine getf_X1 (t := 4) X 1 (by decide) q1_139 rfl rfl dX1_cutTo_1 rfl ?_
  refine g_iload_n (t := 5) X dX1_cutTo_4 1 rfl rfl ?_
  refine g_isub (t := 6) X dX1_cutTo_5 rfl ?_
  refine g_istore_n (t := 7) (lv1 := [(2, vi ((Y 12 0) - k)), (0, .ref (ad 11)), (1, vi k)]) X dX1_cutTo_6 (by decide) rfl rfl ?_
  refine g_aload_n (t := 8) X dX1_cutTo_7 1 rfl rfl ?_
  refine g_iload_n (t := 9) X dX1_cutTo_8 2 rfl rfl ?_
  refine putf_X1 (t := 12) X 1 (by decide) q1_139 rfl rfl rfl wC_f_X1_1 dX1_cutTo_9 rfl ?_
  refine g_iload_n (t := 13) X dX1_cutTo_12 0 rfl rfl ?_
  exact g_iret X r (rv_i rfl) (Nat.le_of_ble_eq_true rfl) (Nat.le_of_ble_eq_true rfl) dX1_cutTo_13

set_option maxHeartbeats 4000000 in
set_option maxRecDepth 100000 in
/-- partAt(step) -/
theorem c_X1_partAt {C : WC} {l : Launch} (hfl : l.stackTraces = false) {ad : Nat → Nat} {B : BT} {E : Int × Nat} {S Y V : Nat → Int → Int} {R : va_W} {x : Int}  (hI : MI Y) (hx : Rg x) : MM C l yX1_partAt cX1_partAt 2 (some .int) 0 0 0 [.ref (ad 11), vi x] (wC C ad B E S Y V ++ R) (rv (vi (ptF Y x)) (wC C ad B E S Y V ++ R)) := by
  refine mm_of (by decide +kernel) (Nat.le_of_ble_eq_true rfl) hfl (fun K Q X r => ?_)
  have X : Cx C l "Springleaf$Gluing" cX1_partAt 2 0 0 0 K := X
  have I3 := hI.1
  have I10 := hI.2.2.1
  have I12 := hI.2.2.2.2.1
  obtain ⟨x1, x2⟩ := hx
  show G C K Q 0 0 0 [(0, .ref (ad 11)), (1, vi x)] [] (wC C ad B E S Y V ++ R)
  refine g_iload_n (t := 1) X dX1_partAt_0 1 rfl rfl ?_
  refine g_if_lt (t := 21) (u := 4) X dX1_partAt_1 (by decide) rfl ⟨by omega, by omega⟩ (fun c_1 => ?_) (fun c_1 => ?_)
  · refine g_iconst (t := 22) X dX1_partAt_21 rfl ?_
    exact g_iret X r (rv_i (by unfold ptF; first | rw [if_pos (by omega)] | rw [if_neg (by omega)])) (Nat.le_of_ble_eq_true rfl) (Nat.le_of_ble_eq_true rfl) dX1_partAt_22
  · refine g_iload_n (t := 5) X dX1_partAt_4 1 rfl rfl ?_
    refine g_aload_n (t := 6) X dX1_partAt_5 0 rfl rfl ?_
    refine getf_X1 (t := 9) X 1 (by decide) q1_139 rfl rfl dX1_partAt_6 rfl ?_
    refine g_icmp_ge (t := 21) (u := 12) X dX1_partAt_9 (by decide) rfl ⟨by omega, by omega⟩ ⟨by omega, by omega⟩ (fun c_9 => ?_) (fun c_9 => ?_)
    · refine g_iconst (t := 22) X dX1_partAt_21 rfl ?_
      exact g_iret X r (rv_i (by unfold ptF; first | rw [if_pos (by omega)] | rw [if_neg (by omega)])) (Nat.le_of_ble_eq_true rfl) (Nat.le_of_ble_eq_true rfl) dX1_partAt_22
    · refine g_aload_n (t := 13) X dX1_partAt_12 0 rfl rfl ?_
      refine getf_X1 (t := 16) X 0 (by decide) q1_138 rfl rfl dX1_partAt_13 rfl ?_
      refine g_iload_n (t := 17) X dX1_partAt_16 1 rfl rfl ?_
      refine g_iald (t := 18) (f := Y 11) X 12 wC_12 (by omega) (by omega) (by omega) dX1_partAt_17 rfl ?_
      refine g_goto (t := 22) X dX1_partAt_18 (by decide) ?_
      exact g_iret X r (rv_i (by unfold ptF; first | rw [if_pos (by omega)] | rw [if_neg (by omega)])) (Nat.le_of_ble_eq_true rfl) (Nat.le_of_ble_eq_true rfl) dX1_partAt_22

set_option maxHeartbeats 4000000 in
set_option maxRecDepth 100000 in
/-- stepOf(part) -/
theorem c_X1_stepOf {C : WC} {l : Launch} (hfl : l.stackTraces = false) {ad : Nat → Nat} {B : BT} {E : Int × Nat} {S Y V : Nat → Int → Int} {R : va_W} {p : Int}  (hI : MI Y) (hp : Rg p) : MM C l yX1_stepOf cX1_stepOf 3 (some .int) 0 0 0 [.ref (ad 11), vi p] (wC C ad B E S Y V ++ R) (rv (vi (stepF Y p)) (wC C ad B E S Y V ++ R)) := by
  refine mm_of (by decide +kernel) (Nat.le_of_ble_eq_true rfl) hfl (fun K Q X r => ?_)
  have X : Cx C l "Springleaf$Gluing" cX1_stepOf 3 0 0 0 K := X
  have I3 := hI.1
  have I10 := hI.2.2.1
  have I12 := hI.2.2.2.2.1
  obtain ⟨p1, p2⟩ := hp
  have hd := hI.2.2.2.2.2.2.1
  have loop : ∀ (n : Nat) (k : Int), 0 ≤ k → k ≤ Y 12 0 → Y 12 0 - k < n → (∀ i, 0 ≤ i → i < k → Y 11 i ≠ p) → G C K Q 0 0 2 [(0, .ref (ad 11)), (1, vi p), (2, vi k)] [] (wC C ad B E S Y V ++ R) := by
    intro n
    induction n with
    | zero => intro k h0 h1 h2; exact absurd h2 (by omega)
    | succ n ih =>
      intro k k0 h1 h2 hk
      refine g_iload_n (t := 3) X dX1_stepOf_2 2 rfl rfl ?_
      refine g_aload_n (t := 4) X dX1_stepOf_3 0 rfl rfl ?_
      refine getf_X1 (t := 7) X 1 (by decide) q1_139 rfl rfl dX1_stepOf_4 rfl ?_
      refine g_icmp_ge (t := 28) (u := 10) X dX1_stepOf_7 (by decide) rfl ⟨by omega, by omega⟩ ⟨by omega, by omega⟩ (fun c_7 => ?_) (fun c_7 => ?_)
      · refine g_iconst (t := 29) X dX1_stepOf_28 rfl ?_
        exact g_iret X r (rv_i (by unfold stepF; exact (stp_none _ (fun i i0 i1 => hk i i0 (by omega))).symm)) (Nat.le_of_ble_eq_true rfl) (Nat.le_of_ble_eq_true rfl) dX1_stepOf_29
      · have ho := hI.2.2.2.2.2.1 k k0 (by omega)
        refine g_aload_n (t := 11) X dX1_stepOf_10 0 rfl rfl ?_
        refine getf_X1 (t := 14) X 0 (by decide) q1_138 rfl rfl dX1_stepOf_11 rfl ?_
        refine g_iload_n (t := 15) X dX1_stepOf_14 2 rfl rfl ?_
        refine g_iald (t := 16) (f := Y 11) X 12 wC_12 (by omega) (by omega) (by omega) dX1_stepOf_15 rfl ?_
        refine g_iload_n (t := 17) X dX1_stepOf_16 1 rfl rfl ?_
        refine g_icmp_ne (t := 22) (u := 20) X dX1_stepOf_17 (by decide) rfl ⟨by omega, by omega⟩ ⟨by omega, by omega⟩ (fun c_17 => ?_) (fun c_17 => ?_)
        · refine g_iinc (t := 25) (lv1 := [(2, vi (k + 1)), (0, .ref (ad 11)), (1, vi p)]) X dX1_stepOf_22 2 rfl (by decide) rfl rfl ?_
          refine g_goto (t := 2) X dX1_stepOf_25 (by decide) ?_
          exact g_lv (ih (k + 1) (by omega) (by omega) (by omega) (fun i i0 i1 => by
                  rcases Int.lt_or_eq_of_le (show i ≤ k by omega) with q | q
                  · exact hk i i0 q
                  · subst q; exact c_17)) [1, 2, 0] rfl
        · refine g_iload_n (t := 21) X dX1_stepOf_20 2 rfl rfl ?_
          exact g_iret X r (rv_i (by unfold stepF; exact (stp_at k0 c_17 _ (by omega) (fun i i0 i1 ei => by
                    rcases Int.lt_trichotomy i k with q | q | q
                    · exact absurd (ei.trans c_17.symm) (hd i k i0 q (by omega))
                    · exact q
                    · exact absurd (c_17.trans ei.symm) (hd k i k0 q (by omega)))).symm)) (Nat.le_of_ble_eq_true rfl) (Nat.le_of_ble_eq_true rfl) dX1_stepOf_21
  show G C K Q 0 0 0 [(0, .ref (ad 11)), (1, vi p)] [] (wC C ad B E S Y V ++ R)
  refine g_iconst (t := 1) X dX1_stepOf_0 rfl ?_
  refine g_istore_n (t := 2) (lv1 := [(2, vi 0), (0, .ref (ad 11)), (1, vi p)]) X dX1_stepOf_1 (by decide) rfl rfl ?_
  exact g_lv (loop ((Y 12 0).toNat + 1) 0 (by omega) (by omega) (by omega) (fun i i0 i1 => absurd i0 (by omega))) [1, 2, 0] rfl

set_option maxHeartbeats 4000000 in
set_option maxRecDepth 100000 in
/-- floorDiv(p, 4), p from 0 on -/
theorem c_J9_floorDiv_7cf53 {C : WC} {l : Launch} (hfl : l.stackTraces = false) {ws : va_W} {p : Int}  (h0 : 0 ≤ p) (h1 : p < 2048) : MM C l yJ9_floorDiv_7cf53 cJ9_floorDiv_7cf53 3 (some .int) 0 0 0 [vi p, vi 4] ws (rv (vi (p / 4)) ws) := by
  refine mf_of (by decide +kernel) (Nat.le_of_ble_eq_true rfl) hfl (fun K Q X r => ?_)
  have X : Cx C l "java/lang/Math" cJ9_floorDiv_7cf53 3 0 0 0 K := X
  show G C K Q 0 0 0 [(0, vi p), (1, vi 4)] [] ws
  refine g_iload_n (t := 1) X dJ9_floorDiv_7cf53_0 0 rfl rfl ?_
  refine g_iload_n (t := 2) X dJ9_floorDiv_7cf53_1 1 rfl rfl ?_
  refine g_idiv (t := 3) X dJ9_floorDiv_7cf53_2 ⟨by omega, by omega⟩ ⟨by omega, by omega⟩ (by omega) ⟨by rw [Int.tdiv_eq_ediv_of_nonneg h0]; omega, by rw [Int.tdiv_eq_ediv_of_nonneg h0]; omega⟩ rfl ?_
  rw [Int.tdiv_eq_ediv_of_nonneg h0]
  refine g_istore_n (t := 4) (lv1 := [(2, vi (p / 4)), (0, vi p), (1, vi 4)]) X dJ9_floorDiv_7cf53_3 (by decide) rfl rfl ?_
  refine g_iload_n (t := 5) X dJ9_floorDiv_7cf53_4 1 rfl rfl ?_
  refine g_iload_n (t := 6) X dJ9_floorDiv_7cf53_5 2 rfl rfl ?_
  refine g_xor4 (t := 7) X dJ9_floorDiv_7cf53_6 h0 h1 rfl (fun b b0 b1 => ?_)
  refine g_if_ge (t := 21) (u := 10) X dJ9_floorDiv_7cf53_7 (by decide) rfl ⟨by omega, by omega⟩ (fun c_7 => ?_) (fun c_7 => absurd b0 c_7)
  refine g_iload_n (t := 22) X dJ9_floorDiv_7cf53_21 0 rfl rfl ?_
  exact g_iret X r (rv_i rfl) (Nat.le_of_ble_eq_true rfl) (Nat.le_of_ble_eq_true rfl) dJ9_floorDiv_7cf53_22

/-- a part's object -/
def fPa (Y : Nat → Int → Int) (p : Int) : List Value := [vi (Y 4 p), vi (Y 5 p), vi (Y 7 p), vi (Y 8 p), vi (Y 9 p), vi (Y 6 p)]
def riseG (Y : Nat → Int → Int) (p g : Int) : Int := Y 6 p * mn g (180 - g) / 90
def reachG (Y : Nat → Int → Int) (p g : Int) : Int := Y 5 p + (Y 6 p * (90 - g)).tdiv 90
def lowG (Y : Nat → Int → Int) (p g : Int) : Int := if reachG Y p g < Y 5 p then reachG Y p g else Y 5 p
def highG (Y : Nat → Int → Int) (p g : Int) : Int := if Y 5 p < reachG Y p g then reachG Y p g else Y 5 p
theorem riseF_G (Y : Nat → Int → Int) (p o : Int) : riseF Y p o = riseG Y p (angF Y (Y 4 p) o) := rfl
theorem lowF_G (Y : Nat → Int → Int) (p o : Int) : lowF Y p o = lowG Y p (angF Y (Y 4 p) o) := rfl
theorem highF_G (Y : Nat → Int → Int) (p o : Int) : highF Y p o = highG Y p (angF Y (Y 4 p) o) := rfl
theorem mn_alt (a b : Int) : (if b < a then b else a) = mn a b := by
  unfold mn
  split <;> split <;> omega

set_option maxHeartbeats 4000000 in
set_option maxRecDepth 100000 in
/-- rise(angle) -/
theorem c_X3_rise {C : WC} {l : Launch} (hfl : l.stackTraces = false) {Y : Nat → Int → Int} {ws : va_W} {p : Int} {a : Nat} {g : Int}  (hI : MI Y) (p0 : 0 ≤ p) (p1 : p < Y 10 0) (q0 : Nat) (he0 : ws[q0]? = some (a, .inr (8, fPa Y p))) (g0 : 0 ≤ g) (g1 : g ≤ 180) : MM C l yX3_rise cX3_rise 2 (some .int) 0 0 0 [.ref a, vi g] ws (rv (vi (riseG Y p g)) ws) := by
  refine mm_of (by decide +kernel) (Nat.le_of_ble_eq_true rfl) hfl (fun K Q X r => ?_)
  have X : Cx C l "Springleaf$Part" cX3_rise 2 0 0 0 K := X
  have hp := hI.2.2.2.1 p p0 p1
  show G C K Q 0 0 0 [(0, .ref a), (1, vi g)] [] ws
  refine g_aload_n (t := 1) X dX3_rise_0 0 rfl rfl ?_
  refine g_getf (t := 4) X inX3 q0 he0 rfl 5 (by decide) q2_229 rfl rfl dX3_rise_1 rfl ?_
  refine g_iload_n (t := 5) X dX3_rise_4 1 rfl rfl ?_
  refine g_sipush (t := 8) (z := 180) X dX3_rise_5 (by decide +kernel) rfl ?_
  refine g_iload_n (t := 9) X dX3_rise_8 1 rfl rfl ?_
  refine g_isub (t := 10) X dX3_rise_9 rfl ?_
  refine g_mmin (t := 13) X q2_11 q1_220 q1_18 q1_221 (Nat.le_of_ble_eq_true rfl) (Nat.le_of_ble_eq_true rfl) (Nat.le_of_ble_eq_true rfl) ⟨by omega, by omega⟩ ⟨by omega, by omega⟩ dX3_rise_10 rfl ?_
  rw [mn_alt]
  have hm := mn_rng g0 g1
  have hx := mul_rng (A := 30) (B := 90) (by omega) hp.2.2.1.2 hm.1 hm.2
  refine g_imul (t := 14) X dX3_rise_13 rfl ?_
  refine g_bipush (t := 16) (z := 90) X dX3_rise_14 (by decide +kernel) rfl ?_
  refine g_idiv (t := 17) X dX3_rise_16 ⟨by omega, by omega⟩ ⟨by omega, by omega⟩ (by omega) ⟨by rw [Int.tdiv_eq_ediv_of_nonneg hx.1]; omega, by rw [Int.tdiv_eq_ediv_of_nonneg hx.1]; omega⟩ rfl ?_
  rw [Int.tdiv_eq_ediv_of_nonneg hx.1]
  exact g_iret X r (rv_i rfl) (Nat.le_of_ble_eq_true rfl) (Nat.le_of_ble_eq_true rfl) dX3_rise_17

theorem reachG_mul {Y : Nat → Int → Int} (hI : MI Y) {p g : Int} (p0 : 0 ≤ p) (p1 : p < Y 10 0) (g0 : 0 ≤ g) (g1 : g ≤ 180) : -2700 ≤ Y 6 p * (90 - g) ∧ Y 6 p * (90 - g) ≤ 2700 := by
  have h1 := hI.2.2.2.1 p p0 p1
  have := mul_sym (A := 30) (B := 90) (b := 90 - g) (by omega) h1.2.2.1.2 (by omega) (by omega)
  omega
theorem reachG_rng {Y : Nat → Int → Int} (hI : MI Y) {p g : Int} (p0 : 0 ≤ p) (p1 : p < Y 10 0) (g0 : 0 ≤ g) (g1 : g ≤ 180) : -30 ≤ reachG Y p g ∧ reachG Y p g ≤ 90 := by
  have h9 := reachG_mul hI p0 p1 g0 g1
  have := tdiv_90 h9.1 h9.2
  have h1 := hI.2.2.2.1 p p0 p1
  unfold reachG
  omega
theorem riseG_rng {Y : Nat → Int → Int} (hI : MI Y) {p g : Int} (p0 : 0 ≤ p) (p1 : p < Y 10 0) (g0 : 0 ≤ g) (g1 : g ≤ 180) : 0 ≤ riseG Y p g ∧ riseG Y p g ≤ 30 := by
  have h1 := hI.2.2.2.1 p p0 p1
  have hm := mn_rng g0 g1
  have hx := mul_rng (A := 30) (B := 90) (by omega) h1.2.2.1.2 hm.1 hm.2
  unfold riseG
  omega
theorem lhG_rng {Y : Nat → Int → Int} (hI : MI Y) {p g : Int} (p0 : 0 ≤ p) (p1 : p < Y 10 0) (g0 : 0 ≤ g) (g1 : g ≤ 180) : (-30 ≤ lowG Y p g ∧ lowG Y p g ≤ 90) ∧ -30 ≤ highG Y p g ∧ highG Y p g ≤ 90 := by
  have h9 := reachG_rng hI p0 p1 g0 g1
  have h1 := hI.2.2.2.1 p p0 p1
  unfold lowG highG
  split <;> split <;> omega
set_option maxHeartbeats 4000000 in
set_option maxRecDepth 100000 in
/-- reach(angle) -/
theorem c_X3_reach {C : WC} {l : Launch} (hfl : l.stackTraces = false) {Y : Nat → Int → Int} {ws : va_W} {p : Int} {a : Nat} {g : Int}  (hI : MI Y) (p0 : 0 ≤ p) (p1 : p < Y 10 0) (q0 : Nat) (he0 : ws[q0]? = some (a, .inr (8, fPa Y p))) (g0 : 0 ≤ g) (g1 : g ≤ 180) : MM C l yX3_reach cX3_reach 2 (some .int) 0 0 0 [.ref a, vi g] ws (rv (vi (reachG Y p g)) ws) := by
  refine mm_of (by decide +kernel) (Nat.le_of_ble_eq_true rfl) hfl (fun K Q X r => ?_)
  have X : Cx C l "Springleaf$Part" cX3_reach 2 0 0 0 K := X
  have hp := hI.2.2.2.1 p p0 p1
  have h9 := reachG_mul hI p0 p1 g0 g1
  have h8 := tdiv_90 h9.1 h9.2
  show G C K Q 0 0 0 [(0, .ref a), (1, vi g)] [] ws
  refine g_aload_n (t := 1) X dX3_reach_0 0 rfl rfl ?_
  refine g_getf (t := 4) X inX3 q0 he0 rfl 1 (by decide) q2_224 rfl rfl dX3_reach_1 rfl ?_
  refine g_aload_n (t := 5) X dX3_reach_4 0 rfl rfl ?_
  refine g_getf (t := 8) X inX3 q0 he0 rfl 5 (by decide) q2_229 rfl rfl dX3_reach_5 rfl ?_
  refine g_bipush (t := 10) (z := 90) X dX3_reach_8 (by decide +kernel) rfl ?_
  refine g_iload_n (t := 11) X dX3_reach_10 1 rfl rfl ?_
  refine g_isub (t := 12) X dX3_reach_11 rfl ?_
  refine g_imul (t := 13) X dX3_reach_12 rfl ?_
  refine g_bipush (t := 15) (z := 90) X dX3_reach_13 (by decide +kernel) rfl ?_
  refine g_idiv (t := 16) X dX3_reach_15 ⟨by omega, by omega⟩ ⟨by omega, by omega⟩ (by omega) ⟨by omega, by omega⟩ rfl ?_
  refine g_iadd (t := 17) X dX3_reach_16 rfl ?_
  exact g_iret X r (rv_i rfl) (Nat.le_of_ble_eq_true rfl) (Nat.le_of_ble_eq_true rfl) dX3_reach_17

set_option maxHeartbeats 4000000 in
set_option maxRecDepth 100000 in
/-- spanStart(angle) -/
theorem c_X3_spanStart {C : WC} {l : Launch} (hfl : l.stackTraces = false) {Y : Nat → Int → Int} {ws : va_W} {p : Int} {a : Nat} {g : Int}  (hI : MI Y) (p0 : 0 ≤ p) (p1 : p < Y 10 0) (q0 : Nat) (he0 : ws[q0]? = some (a, .inr (8, fPa Y p))) (g0 : 0 ≤ g) (g1 : g ≤ 180) : MM C l yX3_spanStart cX3_spanStart 2 (some .int) 1 0 0 [.ref a, vi g] ws (rv (vi (lowG Y p g)) ws) := by
  refine mm_of (by decide +kernel) (Nat.le_of_ble_eq_true rfl) hfl (fun K Q X r => ?_)
  have X : Cx C l "Springleaf$Part" cX3_spanStart 2 1 0 0 K := X
  have hp := hI.2.2.2.1 p p0 p1
  have hr := reachG_rng hI p0 p1 g0 g1
  show G C K Q 0 0 0 [(0, .ref a), (1, vi g)] [] ws
  refine g_aload_n (t := 1) X dX3_spanStart_0 0 rfl rfl ?_
  refine g_getf (t := 4) X inX3 q0 he0 rfl 1 (by decide) q2_224 rfl rfl dX3_spanStart_1 rfl ?_
  refine g_aload_n (t := 5) X dX3_spanStart_4 0 rfl rfl ?_
  refine g_iload_n (t := 6) X dX3_spanStart_5 1 rfl rfl ?_
  refine g_callV (t := 9) (mc := 0) (ms := 0) (rest := [vi (Y 5 p)]) X mt_X3_reach q2_20 q2_21 q2_22 q0 he0 rfl (c_X3_reach hfl hI p0 p1 q0 he0 g0 g1) (by decide) (Nat.le_of_ble_eq_true rfl) (Nat.le_of_ble_eq_true rfl) (Nat.le_of_ble_eq_true rfl) rfl rfl dX3_spanStart_6 rfl (k_rv ?_)
  refine g_mmin (t := 12) X q2_11 q1_220 q1_18 q1_221 (Nat.le_of_ble_eq_true rfl) (Nat.le_of_ble_eq_true rfl) (Nat.le_of_ble_eq_true rfl) ⟨by omega, by omega⟩ ⟨by omega, by omega⟩ dX3_spanStart_9 rfl ?_
  exact g_iret X r (rv_i rfl) (Nat.le_of_ble_eq_true rfl) (Nat.le_of_ble_eq_true rfl) dX3_spanStart_12

set_option maxHeartbeats 4000000 in
set_option maxRecDepth 100000 in
/-- spanEnd(angle) -/
theorem c_X3_spanEnd {C : WC} {l : Launch} (hfl : l.stackTraces = false) {Y : Nat → Int → Int} {ws : va_W} {p : Int} {a : Nat} {g : Int}  (hI : MI Y) (p0 : 0 ≤ p) (p1 : p < Y 10 0) (q0 : Nat) (he0 : ws[q0]? = some (a, .inr (8, fPa Y p))) (g0 : 0 ≤ g) (g1 : g ≤ 180) : MM C l yX3_spanEnd cX3_spanEnd 2 (some .int) 1 0 0 [.ref a, vi g] ws (rv (vi (highG Y p g)) ws) := by
  refine mm_of (by decide +kernel) (Nat.le_of_ble_eq_true rfl) hfl (fun K Q X r => ?_)
  have X : Cx C l "Springleaf$Part" cX3_spanEnd 2 1 0 0 K := X
  have hp := hI.2.2.2.1 p p0 p1
  have hr := reachG_rng hI p0 p1 g0 g1
  show G C K Q 0 0 0 [(0, .ref a), (1, vi g)] [] ws
  refine g_aload_n (t := 1) X dX3_spanEnd_0 0 rfl rfl ?_
  refine g_getf (t := 4) X inX3 q0 he0 rfl 1 (by decide) q2_224 rfl rfl dX3_spanEnd_1 rfl ?_
  refine g_aload_n (t := 5) X dX3_spanEnd_4 0 rfl rfl ?_
  refine g_iload_n (t := 6) X dX3_spanEnd_5 1 rfl rfl ?_
  refine g_callV (t := 9) (mc := 0) (ms := 0) (rest := [vi (Y 5 p)]) X mt_X3_reach q2_20 q2_21 q2_22 q0 he0 rfl (c_X3_reach hfl hI p0 p1 q0 he0 g0 g1) (by decide) (Nat.le_of_ble_eq_true rfl) (Nat.le_of_ble_eq_true rfl) (Nat.le_of_ble_eq_true rfl) rfl rfl dX3_spanEnd_6 rfl (k_rv ?_)
  refine g_mmax (t := 12) X q2_28 q1_223 q1_18 q1_224 (Nat.le_of_ble_eq_true rfl) (Nat.le_of_ble_eq_true rfl) (Nat.le_of_ble_eq_true rfl) ⟨by omega, by omega⟩ ⟨by omega, by omega⟩ dX3_spanEnd_9 rfl ?_
  exact g_iret X r (rv_i rfl) (Nat.le_of_ble_eq_true rfl) (Nat.le_of_ble_eq_true rfl) dX3_spanEnd_12

set_option maxHeartbeats 4000000 in
set_option maxRecDepth 100000 in
/-- pieceWidth() -/
theorem c_X3_pieceWidth {C : WC} {l : Launch} (hfl : l.stackTraces = false) {Y : Nat → Int → Int} {ws : va_W} {p : Int} {a : Nat}  (hI : MI Y) (p0 : 0 ≤ p) (p1 : p < Y 10 0) (q0 : Nat) (he0 : ws[q0]? = some (a, .inr (8, fPa Y p))) : MM C l yX3_pieceWidth cX3_pieceWidth 1 (some .int) 0 0 0 [.ref a] ws (rv (vi (wideF Y p)) ws) := by
  refine mm_of (by decide +kernel) (Nat.le_of_ble_eq_true rfl) hfl (fun K Q X r => ?_)
  have X : Cx C l "Springleaf$Part" cX3_pieceWidth 1 0 0 0 K := X
  have hp := hI.2.2.2.1 p p0 p1
  show G C K Q 0 0 0 [(0, .ref a)] [] ws
  refine g_aload_n (t := 1) X dX3_pieceWidth_0 0 rfl rfl ?_
  refine g_getf (t := 4) X inX3 q0 he0 rfl 4 (by decide) q2_228 rfl rfl dX3_pieceWidth_1 rfl ?_
  refine g_if_eq (t := 14) (u := 7) X dX3_pieceWidth_4 (by decide) rfl ⟨by omega, by omega⟩ (fun c_4 => ?_) (fun c_4 => ?_)
  · refine g_aload_n (t := 15) X dX3_pieceWidth_14 0 rfl rfl ?_
    refine g_getf (t := 18) X inX3 q0 he0 rfl 3 (by decide) q2_227 rfl rfl dX3_pieceWidth_15 rfl ?_
    exact g_iret X r (rv_i (by unfold wideF; first | rw [if_pos (by omega)] | rw [if_neg (by omega)])) (Nat.le_of_ble_eq_true rfl) (Nat.le_of_ble_eq_true rfl) dX3_pieceWidth_18
  · refine g_aload_n (t := 8) X dX3_pieceWidth_7 0 rfl rfl ?_
    refine g_getf (t := 11) X inX3 q0 he0 rfl 5 (by decide) q2_229 rfl rfl dX3_pieceWidth_8 rfl ?_
    refine g_goto (t := 18) X dX3_pieceWidth_11 (by decide) ?_
    exact g_iret X r (rv_i (by unfold wideF; first | rw [if_pos (by omega)] | rw [if_neg (by omega)])) (Nat.le_of_ble_eq_true rfl) (Nat.le_of_ble_eq_true rfl) dX3_pieceWidth_18

set_option maxHeartbeats 4000000 in
set_option maxRecDepth 100000 in
/-- pieceHeight() -/
theorem c_X3_pieceHeight {C : WC} {l : Launch} (hfl : l.stackTraces = false) {Y : Nat → Int → Int} {ws : va_W} {p : Int} {a : Nat}  (hI : MI Y) (p0 : 0 ≤ p) (p1 : p < Y 10 0) (q0 : Nat) (he0 : ws[q0]? = some (a, .inr (8, fPa Y p))) : MM C l yX3_pieceHeight cX3_pieceHeight 1 (some .int) 0 0 0 [.ref a] ws (rv (vi (tallF Y p)) ws) := by
  refine mm_of (by decide +kernel) (Nat.le_of_ble_eq_true rfl) hfl (fun K Q X r => ?_)
  have X : Cx C l "Springleaf$Part" cX3_pieceHeight 1 0 0 0 K := X
  have hp := hI.2.2.2.1 p p0 p1
  show G C K Q 0 0 0 [(0, .ref a)] [] ws
  refine g_aload_n (t := 1) X dX3_pieceHeight_0 0 rfl rfl ?_
  refine g_getf (t := 4) X inX3 q0 he0 rfl 4 (by decide) q2_228 rfl rfl dX3_pieceHeight_1 rfl ?_
  refine g_if_eq (t := 14) (u := 7) X dX3_pieceHeight_4 (by decide) rfl ⟨by omega, by omega⟩ (fun c_4 => ?_) (fun c_4 => ?_)
  · refine g_aload_n (t := 15) X dX3_pieceHeight_14 0 rfl rfl ?_
    refine g_getf (t := 18) X inX3 q0 he0 rfl 5 (by decide) q2_229 rfl rfl dX3_pieceHeight_15 rfl ?_
    exact g_iret X r (rv_i (by unfold tallF; first | rw [if_pos (by omega)] | rw [if_neg (by omega)])) (Nat.le_of_ble_eq_true rfl) (Nat.le_of_ble_eq_true rfl) dX3_pieceHeight_18
  · refine g_aload_n (t := 8) X dX3_pieceHeight_7 0 rfl rfl ?_
    refine g_getf (t := 11) X inX3 q0 he0 rfl 3 (by decide) q2_227 rfl rfl dX3_pieceHeight_8 rfl ?_
    refine g_goto (t := 18) X dX3_pieceHeight_11 (by decide) ?_
    exact g_iret X r (rv_i (by unfold tallF; first | rw [if_pos (by omega)] | rw [if_neg (by omega)])) (Nat.le_of_ble_eq_true rfl) (Nat.le_of_ble_eq_true rfl) dX3_pieceHeight_18

set_option maxHeartbeats 4000000 in
set_option maxRecDepth 100000 in
/-- sharesLineWith(other) -/
theorem c_X3_sharesLineWith {C : WC} {l : Launch} (hfl : l.stackTraces = false) {Y : Nat → Int → Int} {ws : va_W} {p : Int} {a : Nat} {q : Int} {b : Nat} (hI : MI Y) (p0 : 0 ≤ p) (p1 : p < Y 10 0) (q0 : Nat) (he0 : ws[q0]? = some (a, .inr (8, fPa Y p))) (r0 : 0 ≤ q) (r1 : q < Y 10 0) (q1 : Nat) (he1 : ws[q1]? = some (b, .inr (8, fPa Y q))) : MM C l yX3_sharesLineWith cX3_sharesLineWith 2 (some .boolean) 0 0 0 [.ref a, .ref b] ws (rb (shareF Y p q) ws) := by
  refine mm_of (by decide +kernel) (Nat.le_of_ble_eq_true rfl) hfl (fun K Q X r => ?_)
  have X : Cx C l "Springleaf$Part" cX3_sharesLineWith 2 0 0 0 K := X
  have hp := hI.2.2.2.1 p p0 p1
  have hq := hI.2.2.2.1 q r0 r1
  show G C K Q 0 0 0 [(0, .ref a), (1, .ref b)] [] ws
  refine g_aload_n (t := 1) X dX3_sharesLineWith_0 0 rfl rfl ?_
  refine g_getf (t := 4) X inX3 q0 he0 rfl 2 (by decide) q2_226 rfl rfl dX3_sharesLineWith_1 rfl ?_
  refine g_aload_n (t := 5) X dX3_sharesLineWith_4 1 rfl rfl ?_
  refine g_getf (t := 8) X inX3 q1 he1 rfl 2 (by decide) q2_226 rfl rfl dX3_sharesLineWith_5 rfl ?_
  refine g_aload_n (t := 9) X dX3_sharesLineWith_8 1 rfl rfl ?_
  refine g_getf (t := 12) X inX3 q1 he1 rfl 3 (by decide) q2_227 rfl rfl dX3_sharesLineWith_9 rfl ?_
  refine g_iadd (t := 13) X dX3_sharesLineWith_12 rfl ?_
  refine g_icmp_ge (t := 36) (u := 16) X dX3_sharesLineWith_13 (by decide) rfl ⟨by omega, by omega⟩ ⟨by omega, by omega⟩ (fun c_13 => ?_) (fun c_13 => ?_)
  · refine g_iconst (t := 37) X dX3_sharesLineWith_36 rfl ?_
    exact g_zret X r rfl (rb_f (by unfold shareF; omega)) (Nat.le_of_ble_eq_true rfl) (Nat.le_of_ble_eq_true rfl) dX3_sharesLineWith_37
  · refine g_aload_n (t := 17) X dX3_sharesLineWith_16 1 rfl rfl ?_
    refine g_getf (t := 20) X inX3 q1 he1 rfl 2 (by decide) q2_226 rfl rfl dX3_sharesLineWith_17 rfl ?_
    refine g_aload_n (t := 21) X dX3_sharesLineWith_20 0 rfl rfl ?_
    refine g_getf (t := 24) X inX3 q0 he0 rfl 2 (by decide) q2_226 rfl rfl dX3_sharesLineWith_21 rfl ?_
    refine g_aload_n (t := 25) X dX3_sharesLineWith_24 0 rfl rfl ?_
    refine g_getf (t := 28) X inX3 q0 he0 rfl 3 (by decide) q2_227 rfl rfl dX3_sharesLineWith_25 rfl ?_
    refine g_iadd (t := 29) X dX3_sharesLineWith_28 rfl ?_
    refine g_icmp_ge (t := 36) (u := 32) X dX3_sharesLineWith_29 (by decide) rfl ⟨by omega, by omega⟩ ⟨by omega, by omega⟩ (fun c_29 => ?_) (fun c_29 => ?_)
    · refine g_iconst (t := 37) X dX3_sharesLineWith_36 rfl ?_
      exact g_zret X r rfl (rb_f (by unfold shareF; omega)) (Nat.le_of_ble_eq_true rfl) (Nat.le_of_ble_eq_true rfl) dX3_sharesLineWith_37
    · refine g_iconst (t := 33) X dX3_sharesLineWith_32 rfl ?_
      refine g_goto (t := 37) X dX3_sharesLineWith_33 (by decide) ?_
      exact g_zret X r rfl (rb_t (by unfold shareF; omega)) (Nat.le_of_ble_eq_true rfl) (Nat.le_of_ble_eq_true rfl) dX3_sharesLineWith_37

def fsF (V : Nat → Int → Int) (h : Int) : Int := if shF V h = V 19 0 then -1 else shF V h
def canS (V : Nat → Int → Int) (h w k : Int) : Prop := h ≤ V 15 k ∧ V 16 k + w ≤ 40
theorem sel_spec (V : Nat → Int → Int) (h w : Int) : ∀ n : Nat, (sel V h w n = -1 ∧ ∀ k : Int, 0 ≤ k → k < (n : Int) → ¬ canS V h w k) ∨ (0 ≤ sel V h w n ∧ sel V h w n < n ∧ canS V h w (sel V h w n) ∧ ∀ k : Int, 0 ≤ k → k < (n : Int) → canS V h w k → V 13 (sel V h w n) < V 13 k ∨ (V 13 (sel V h w n) = V 13 k ∧ V 14 (sel V h w n) ≤ V 14 k)) := by
  intro n
  induction n with
  | zero => exact Or.inl ⟨rfl, fun k k0 k1 => by omega⟩
  | succ n ih =>
    simp only [sel]
    by_cases g : (h ≤ V 15 n ∧ V 16 n + w ≤ 40) ∧ (sel V h w n < 0 ∨ V 13 n < V 13 (sel V h w n) ∨ (V 13 n = V 13 (sel V h w n) ∧ V 14 n < V 14 (sel V h w n)))
    · rw [if_pos g]
      refine Or.inr ⟨by omega, by omega, g.1, fun k k0 k1 hk => ?_⟩
      rcases Int.lt_or_eq_of_le (show k ≤ n by omega) with q | q
      · rcases ih with ⟨_, h2⟩ | ⟨h1, h2, h3, h4⟩
        · exact absurd hk (h2 k k0 q)
        · have := h4 k k0 q hk
          omega
      · subst q; exact Or.inr ⟨rfl, Int.le_refl _⟩
    · rw [if_neg g]
      rcases ih with ⟨h1, h2⟩ | ⟨h1, h2, h3, h4⟩
      · refine Or.inl ⟨h1, fun k k0 k1 hk => ?_⟩
        rcases Int.lt_or_eq_of_le (show k ≤ n by omega) with q | q
        · exact h2 k k0 q hk
        · subst q; exact g ⟨hk, Or.inl (by omega)⟩
      · refine Or.inr ⟨h1, by omega, h3, fun k k0 k1 hk => ?_⟩
        rcases Int.lt_or_eq_of_le (show k ≤ n by omega) with q | q
        · exact h4 k k0 q hk
        · subst q
          have g2 : ¬ (sel V h w n < 0 ∨ V 13 n < V 13 (sel V h w n) ∨ (V 13 n = V 13 (sel V h w n) ∧ V 14 n < V 14 (sel V h w n))) := fun q => g ⟨hk, q⟩
          omega
theorem sel_first {V : Nat → Int → Int} (hL : LI V) {h w k s : Int} (k0 : 0 ≤ k) (k1 : k < V 17 0) (es : V 13 k = s) (hk : canS V h w k) (h1 : ∀ i, 0 ≤ i → i < V 17 0 → V 13 i < s → ¬ canS V h w i) (h2 : ∀ i, 0 ≤ i → i < k → V 13 i = s → ¬ canS V h w i) : selF V h w = k := by
  have hz := hL.1
  have sp := sel_spec V h w (V 17 0).toNat
  unfold selF
  rcases sp with ⟨_, b⟩ | ⟨a, b, c, d⟩
  · exact absurd hk (b k k0 (by omega))
  · have e := d k k0 (by omega) hk
    have n1 : ¬ V 13 (sel V h w (V 17 0).toNat) < s := fun q => h1 _ a (by omega) q c
    rcases Int.lt_trichotomy (sel V h w (V 17 0).toNat) k with q | q | q
    · exact absurd c (h2 _ a q (by omega))
    · exact q
    · have := hL.2.2.2.2 k _ k0 q (by omega) (by omega)
      omega
theorem sel_no {V : Nat → Int → Int} (hL : LI V) {h w : Int} (h1 : ∀ i, 0 ≤ i → i < V 17 0 → ¬ canS V h w i) : selF V h w = -1 := by
  have hz := hL.1
  unfold selF
  rcases sel_spec V h w (V 17 0).toNat with ⟨a, _⟩ | ⟨a, b, c, _⟩
  · exact a
  · exact absurd c (h1 _ a (by omega))

set_option maxHeartbeats 4000000 in
set_option maxRecDepth 100000 in
/-- clear() -/
theorem c_X2_clear {C : WC} {l : Launch} (hfl : l.stackTraces = false) {ad : Nat → Nat} {B : BT} {E : Int × Nat} {S Y V : Nat → Int → Int} {R : va_W}   : MM C l yX2_clear cX2_clear 1 none 0 0 0 [.ref (ad 13)] (wC C ad B E S Y V ++ R) (rn (wC C ad B E S Y (u2 (u2 V 17 0 0) 19 0 0) ++ R)) := by
  refine mm_of (by decide +kernel) (Nat.le_of_ble_eq_true rfl) hfl (fun K Q X r => ?_)
  have X : Cx C l "Springleaf$Layout" cX2_clear 1 0 0 0 K := X
  show G C K Q 0 0 0 [(0, .ref (ad 13))] [] (wC C ad B E S Y V ++ R)
  refine g_aload_n (t := 1) X dX2_clear_0 0 rfl rfl ?_
  refine g_iconst (t := 2) X dX2_clear_1 rfl ?_
  refine putf_X2 (t := 5) X 8 (by decide) q1_163 rfl rfl rfl wC_f_X2_8 dX2_clear_2 rfl ?_
  refine g_aload_n (t := 6) X dX2_clear_5 0 rfl rfl ?_
  refine g_iconst (t := 7) X dX2_clear_6 rfl ?_
  refine putf_X2 (t := 10) X 9 (by decide) q1_164 rfl rfl rfl wC_f_X2_9 dX2_clear_7 rfl ?_
  exact g_vret X r rn_i (Nat.le_of_ble_eq_true rfl) (Nat.le_of_ble_eq_true rfl) dX2_clear_10

set_option maxHeartbeats 4000000 in
set_option maxRecDepth 100000 in
/-- beginSheet() -/
theorem c_X2_beginSheet {C : WC} {l : Launch} (hfl : l.stackTraces = false) {ad : Nat → Nat} {B : BT} {E : Int × Nat} {S Y V : Nat → Int → Int} {R : va_W}  (s0 : 0 ≤ V 19 0) (s1 : V 19 0 < 16) : MM C l yX2_beginSheet cX2_beginSheet 1 (some .int) 0 0 0 [.ref (ad 13)] (wC C ad B E S Y V ++ R) (rv (vi (V 19 0)) (wC C ad B E S Y (u2 (u2 V 18 (V 19 0) 0) 19 0 (V 19 0 + 1)) ++ R)) := by
  refine mm_of (by decide +kernel) (Nat.le_of_ble_eq_true rfl) hfl (fun K Q X r => ?_)
  have X : Cx C l "Springleaf$Layout" cX2_beginSheet 1 0 0 0 K := X
  show G C K Q 0 0 0 [(0, .ref (ad 13))] [] (wC C ad B E S Y V ++ R)
  refine g_aload_n (t := 1) X dX2_beginSheet_0 0 rfl rfl ?_
  refine getf_X2 (t := 4) X 7 (by decide) q1_162 rfl rfl dX2_beginSheet_1 rfl ?_
  refine g_aload_n (t := 5) X dX2_beginSheet_4 0 rfl rfl ?_
  refine getf_X2 (t := 8) X 9 (by decide) q1_164 rfl rfl dX2_beginSheet_5 rfl ?_
  refine g_iconst (t := 9) X dX2_beginSheet_8 rfl ?_
  refine g_iast (t := 10) (f := V 18) X 21 wC_21 (by omega) (by omega) (by omega) wC_s_21 dX2_beginSheet_9 rfl ?_
  refine g_aload_n (t := 11) X dX2_beginSheet_10 0 rfl rfl ?_
  refine g_dup (t := 12) X dX2_beginSheet_11 rfl rfl ?_
  refine getf_X2 (t := 15) (v := vi (V 19 0)) X 9 (by decide) q1_164 rfl rfl dX2_beginSheet_12 rfl ?_
  refine g_iconst (t := 16) X dX2_beginSheet_15 rfl ?_
  refine g_iadd (t := 17) X dX2_beginSheet_16 rfl ?_
  refine putf_X2 (t := 20) X 9 (by decide) q1_164 rfl rfl rfl wC_f_X2_9 dX2_beginSheet_17 rfl ?_
  refine g_aload_n (t := 21) X dX2_beginSheet_20 0 rfl rfl ?_
  refine getf_X2 (t := 24) (v := vi ((V 19 0) + 1)) X 9 (by decide) q1_164 rfl rfl dX2_beginSheet_21 rfl ?_
  refine g_iconst (t := 25) X dX2_beginSheet_24 rfl ?_
  refine g_isub (t := 26) X dX2_beginSheet_25 rfl ?_
  exact g_iret X r (rv_i (by omega)) (Nat.le_of_ble_eq_true rfl) (Nat.le_of_ble_eq_true rfl) dX2_beginSheet_26

set_option maxHeartbeats 4000000 in
set_option maxRecDepth 100000 in
/-- firstSheetFor(height) -/
theorem c_X2_firstSheetFor {C : WC} {l : Launch} (hfl : l.stackTraces = false) {ad : Nat → Nat} {B : BT} {E : Int × Nat} {S Y V : Nat → Int → Int} {R : va_W} {h : Int}  (hL : LI V) (l16 : V 17 0 ≤ 16) (h0 : 1 ≤ h) (h1 : h ≤ 30) : MM C l yX2_firstSheetFor cX2_firstSheetFor 3 (some .int) 0 0 0 [.ref (ad 13), vi h] (wC C ad B E S Y V ++ R) (rv (vi (fsF V h)) (wC C ad B E S Y V ++ R)) := by
  refine mm_of (by decide +kernel) (Nat.le_of_ble_eq_true rfl) hfl (fun K Q X r => ?_)
  have X : Cx C l "Springleaf$Layout" cX2_firstSheetFor 3 0 0 0 K := X
  have l1 := hL.1
  have l2 := hL.2.1
  have loop : ∀ (n : Nat) (s : Int), 0 ≤ s → s ≤ V 19 0 → V 19 0 - s < n → (∀ i, 0 ≤ i → i < s → 30 < V 18 i + h) → G C K Q 0 0 2 [(0, .ref (ad 13)), (1, vi h), (2, vi s)] [] (wC C ad B E S Y V ++ R) := by
    intro n
    induction n with
    | zero => intro s g0 g1 g2; exact absurd g2 (by omega)
    | succ n ih =>
      intro s s0 g1 g2 hj
      refine g_iload_n (t := 3) X dX2_firstSheetFor_2 2 rfl rfl ?_
      refine g_aload_n (t := 4) X dX2_firstSheetFor_3 0 rfl rfl ?_
      refine getf_X2 (t := 7) X 9 (by decide) q1_164 rfl rfl dX2_firstSheetFor_4 rfl ?_
      refine g_icmp_ge (t := 31) (u := 10) X dX2_firstSheetFor_7 (by decide) rfl ⟨by omega, by omega⟩ ⟨by omega, by omega⟩ (fun c_7 => ?_) (fun c_7 => ?_)
      · refine g_iconst (t := 32) X dX2_firstSheetFor_31 rfl ?_
        exact g_iret X r (rv_i (by have e := shF_is (h := h) l2.1 s0 (by omega) hj (fun _ => by omega); unfold fsF; rw [← e, if_pos (by omega)])) (Nat.le_of_ble_eq_true rfl) (Nat.le_of_ble_eq_true rfl) dX2_firstSheetFor_32
      · have hs := hL.2.2.2.1 s s0 (by omega)
        refine g_bipush (t := 12) (z := 30) X dX2_firstSheetFor_10 (by decide +kernel) rfl ?_
        refine g_aload_n (t := 13) X dX2_firstSheetFor_12 0 rfl rfl ?_
        refine getf_X2 (t := 16) X 7 (by decide) q1_162 rfl rfl dX2_firstSheetFor_13 rfl ?_
        refine g_iload_n (t := 17) X dX2_firstSheetFor_16 2 rfl rfl ?_
        refine g_iald (t := 18) (f := V 18) X 21 wC_21 (by omega) (by omega) (by omega) dX2_firstSheetFor_17 rfl ?_
        refine g_isub (t := 19) X dX2_firstSheetFor_18 rfl ?_
        refine g_iload_n (t := 20) X dX2_firstSheetFor_19 1 rfl rfl ?_
        refine g_icmp_lt (t := 25) (u := 23) X dX2_firstSheetFor_20 (by decide) rfl ⟨by omega, by omega⟩ ⟨by omega, by omega⟩ (fun c_20 => ?_) (fun c_20 => ?_)
        · refine g_iinc (t := 28) (lv1 := [(2, vi (s + 1)), (0, .ref (ad 13)), (1, vi h)]) X dX2_firstSheetFor_25 2 rfl (by decide) rfl rfl ?_
          refine g_goto (t := 2) X dX2_firstSheetFor_28 (by decide) ?_
          exact g_lv (ih (s + 1) (by omega) (by omega) (by omega) (fun i i0 i1 => by
                  rcases Int.lt_or_eq_of_le (show i ≤ s by omega) with q | q
                  · exact hj i i0 q
                  · subst q; omega)) [1, 2, 0] rfl
        · refine g_iload_n (t := 24) X dX2_firstSheetFor_23 2 rfl rfl ?_
          exact g_iret X r (rv_i (by have e := shF_is (h := h) l2.1 s0 (by omega) hj (fun _ => by omega); unfold fsF; rw [← e, if_neg (by omega)])) (Nat.le_of_ble_eq_true rfl) (Nat.le_of_ble_eq_true rfl) dX2_firstSheetFor_24
  show G C K Q 0 0 0 [(0, .ref (ad 13)), (1, vi h)] [] (wC C ad B E S Y V ++ R)
  refine g_iconst (t := 1) X dX2_firstSheetFor_0 rfl ?_
  refine g_istore_n (t := 2) (lv1 := [(2, vi 0), (0, .ref (ad 13)), (1, vi h)]) X dX2_firstSheetFor_1 (by decide) rfl rfl ?_
  exact g_lv (loop ((V 19 0).toNat + 1) 0 (by omega) (by omega) (by omega) (fun i i0 i1 => absurd i0 (by omega))) [1, 2, 0] rfl

set_option maxHeartbeats 4000000 in
set_option maxRecDepth 100000 in
/-- firstShelfFor(width, height) -/
theorem c_X2_firstShelfFor {C : WC} {l : Launch} (hfl : l.stackTraces = false) {ad : Nat → Nat} {B : BT} {E : Int × Nat} {S Y V : Nat → Int → Int} {R : va_W} {x h : Int}  (hL : LI V) (l16 : V 17 0 ≤ 16) (x0 : 1 ≤ x) (x1 : x ≤ 30) (h0 : 1 ≤ h) (h1 : h ≤ 30) : MM C l yX2_firstShelfFor cX2_firstShelfFor 5 (some .int) 0 0 0 [.ref (ad 13), vi x, vi h] (wC C ad B E S Y V ++ R) (rv (vi (selF V h x)) (wC C ad B E S Y V ++ R)) := by
  refine mm_of (by decide +kernel) (Nat.le_of_ble_eq_true rfl) hfl (fun K Q X r => ?_)
  have X : Cx C l "Springleaf$Layout" cX2_firstShelfFor 5 0 0 0 K := X
  have l1 := hL.1
  have l2 := hL.2.1
  have loop : ∀ (n : Nat) (s : Int), 0 ≤ s → s ≤ V 19 0 → V 19 0 - s < n → (∀ i, 0 ≤ i → i < V 17 0 → V 13 i < s → ¬ canS V h x i) → G C K Q 0 0 2 [(0, .ref (ad 13)), (1, vi x), (2, vi h), (3, vi s)] [] (wC C ad B E S Y V ++ R) := by
    intro n
    induction n with
    | zero => intro s g0 g1 g2; exact absurd g2 (by omega)
    | succ n ih =>
      intro s s0 g1 g2 hS
      have inner : s < V 19 0 → ∀ (m : Nat) (k : Int), 0 ≤ k → k ≤ V 17 0 → V 17 0 - k < m → (∀ i, 0 ≤ i → i < k → V 13 i = s → ¬ canS V h x i) → G C K Q 0 0 13 [(0, .ref (ad 13)), (1, vi x), (2, vi h), (3, vi s), (4, vi k)] [] (wC C ad B E S Y V ++ R) := by
        intro s9 m
        induction m with
        | zero => intro k g0 g1 g2; exact absurd g2 (by omega)
        | succ m ihi =>
          intro k k0 g3 g4 hK
          refine g_iload (t := 15) X dX2_firstShelfFor_13 4 rfl rfl ?_
          refine g_aload_n (t := 16) X dX2_firstShelfFor_15 0 rfl rfl ?_
          refine getf_X2 (t := 19) X 8 (by decide) q1_163 rfl rfl dX2_firstShelfFor_16 rfl ?_
          refine g_icmp_ge (t := 67) (u := 22) X dX2_firstShelfFor_19 (by decide) rfl ⟨by omega, by omega⟩ ⟨by omega, by omega⟩ (fun c_19 => ?_) (fun c_19 => ?_)
          · refine g_iinc (t := 70) (lv1 := [(3, vi (s + 1)), (0, .ref (ad 13)), (1, vi x), (2, vi h), (4, vi k)]) X dX2_firstShelfFor_67 3 rfl (by decide) rfl rfl ?_
            refine g_goto (t := 2) X dX2_firstShelfFor_70 (by decide) ?_
            exact g_lv (ih (s + 1) (by omega) (by omega) (by omega) (fun i i0 i1 e => by
                        rcases Int.lt_or_eq_of_le (show V 13 i ≤ s by omega) with q | q
                        · exact hS i i0 i1 q
                        · exact hK i i0 (by omega) q)) [1, 2, 3, 0] rfl
          · have hs := hL.2.2.1 k k0 (by omega)
            refine g_aload_n (t := 23) X dX2_firstShelfFor_22 0 rfl rfl ?_
            refine getf_X2 (t := 26) X 3 (by decide) q1_158 rfl rfl dX2_firstShelfFor_23 rfl ?_
            refine g_iload (t := 28) X dX2_firstShelfFor_26 4 rfl rfl ?_
            refine g_iald (t := 29) (f := V 13) X 17 wC_17 (by omega) (by omega) (by omega) dX2_firstShelfFor_28 rfl ?_
            refine g_iload_n (t := 30) X dX2_firstShelfFor_29 3 rfl rfl ?_
            refine g_icmp_ne (t := 61) (u := 33) X dX2_firstShelfFor_30 (by decide) rfl ⟨by omega, by omega⟩ ⟨by omega, by omega⟩ (fun c_30 => ?_) (fun c_30 => ?_)
            · refine g_iinc (t := 64) (lv1 := [(4, vi (k + 1)), (0, .ref (ad 13)), (1, vi x), (2, vi h), (3, vi s)]) X dX2_firstShelfFor_61 4 rfl (by decide) rfl rfl ?_
              refine g_goto (t := 13) X dX2_firstShelfFor_64 (by decide) ?_
              exact g_lv (ihi (k + 1) (by omega) (by omega) (by omega) (fun i i0 i1 e c => by
                          rcases Int.lt_or_eq_of_le (show i ≤ k by omega) with q | q
                          · exact hK i i0 q e c
                          · subst q; unfold canS at c; omega)) [1, 2, 3, 4, 0] rfl
            · refine g_aload_n (t := 34) X dX2_firstShelfFor_33 0 rfl rfl ?_
              refine getf_X2 (t := 37) X 5 (by decide) q1_160 rfl rfl dX2_firstShelfFor_34 rfl ?_
              refine g_iload (t := 39) X dX2_firstShelfFor_37 4 rfl rfl ?_
              refine g_iald (t := 40) (f := V 15) X 19 wC_19 (by omega) (by omega) (by omega) dX2_firstShelfFor_39 rfl ?_
              refine g_iload_n (t := 41) X dX2_firstShelfFor_40 2 rfl rfl ?_
              refine g_icmp_lt (t := 61) (u := 44) X dX2_firstShelfFor_41 (by decide) rfl ⟨by omega, by omega⟩ ⟨by omega, by omega⟩ (fun c_41 => ?_) (fun c_41 => ?_)
              · refine g_iinc (t := 64) (lv1 := [(4, vi (k + 1)), (0, .ref (ad 13)), (1, vi x), (2, vi h), (3, vi s)]) X dX2_firstShelfFor_61 4 rfl (by decide) rfl rfl ?_
                refine g_goto (t := 13) X dX2_firstShelfFor_64 (by decide) ?_
                exact g_lv (ihi (k + 1) (by omega) (by omega) (by omega) (fun i i0 i1 e c => by
                            rcases Int.lt_or_eq_of_le (show i ≤ k by omega) with q | q
                            · exact hK i i0 q e c
                            · subst q; unfold canS at c; omega)) [1, 2, 3, 4, 0] rfl
              · refine g_bipush (t := 46) (z := 40) X dX2_firstShelfFor_44 (by decide +kernel) rfl ?_
                refine g_aload_n (t := 47) X dX2_firstShelfFor_46 0 rfl rfl ?_
                refine getf_X2 (t := 50) X 6 (by decide) q1_161 rfl rfl dX2_firstShelfFor_47 rfl ?_
                refine g_iload (t := 52) X dX2_firstShelfFor_50 4 rfl rfl ?_
                refine g_iald (t := 53) (f := V 16) X 20 wC_20 (by omega) (by omega) (by omega) dX2_firstShelfFor_52 rfl ?_
                refine g_isub (t := 54) X dX2_firstShelfFor_53 rfl ?_
                refine g_iload_n (t := 55) X dX2_firstShelfFor_54 1 rfl rfl ?_
                refine g_icmp_lt (t := 61) (u := 58) X dX2_firstShelfFor_55 (by decide) rfl ⟨by omega, by omega⟩ ⟨by omega, by omega⟩ (fun c_55 => ?_) (fun c_55 => ?_)
                · refine g_iinc (t := 64) (lv1 := [(4, vi (k + 1)), (0, .ref (ad 13)), (1, vi x), (2, vi h), (3, vi s)]) X dX2_firstShelfFor_61 4 rfl (by decide) rfl rfl ?_
                  refine g_goto (t := 13) X dX2_firstShelfFor_64 (by decide) ?_
                  exact g_lv (ihi (k + 1) (by omega) (by omega) (by omega) (fun i i0 i1 e c => by
                              rcases Int.lt_or_eq_of_le (show i ≤ k by omega) with q | q
                              · exact hK i i0 q e c
                              · subst q; unfold canS at c; omega)) [1, 2, 3, 4, 0] rfl
                · refine g_iload (t := 60) X dX2_firstShelfFor_58 4 rfl rfl ?_
                  exact g_iret X r (rv_i (sel_first hL k0 (by omega) c_30 ⟨by omega, by omega⟩ hS hK).symm) (Nat.le_of_ble_eq_true rfl) (Nat.le_of_ble_eq_true rfl) dX2_firstShelfFor_60
      refine g_iload_n (t := 3) X dX2_firstShelfFor_2 3 rfl rfl ?_
      refine g_aload_n (t := 4) X dX2_firstShelfFor_3 0 rfl rfl ?_
      refine getf_X2 (t := 7) X 9 (by decide) q1_164 rfl rfl dX2_firstShelfFor_4 rfl ?_
      refine g_icmp_ge (t := 73) (u := 10) X dX2_firstShelfFor_7 (by decide) rfl ⟨by omega, by omega⟩ ⟨by omega, by omega⟩ (fun c_7 => ?_) (fun c_7 => ?_)
      · refine g_iconst (t := 74) X dX2_firstShelfFor_73 rfl ?_
        exact g_iret X r (rv_i (sel_no hL (fun i i0 i1 => hS i i0 i1 (by have := (hL.2.2.1 i i0 i1).1; omega))).symm) (Nat.le_of_ble_eq_true rfl) (Nat.le_of_ble_eq_true rfl) dX2_firstShelfFor_74
      · refine g_iconst (t := 11) X dX2_firstShelfFor_10 rfl ?_
        refine g_istore (t := 13) (lv1 := [(4, vi 0), (0, .ref (ad 13)), (1, vi x), (2, vi h), (3, vi s)]) X dX2_firstShelfFor_11 (by decide) rfl rfl ?_
        exact g_lv (inner (by omega) ((V 17 0).toNat + 1) 0 (by omega) (by omega) (by omega) (fun i i0 i1 => absurd i0 (by omega))) [1, 2, 3, 4, 0] rfl
  show G C K Q 0 0 0 [(0, .ref (ad 13)), (1, vi x), (2, vi h)] [] (wC C ad B E S Y V ++ R)
  refine g_iconst (t := 1) X dX2_firstShelfFor_0 rfl ?_
  refine g_istore_n (t := 2) (lv1 := [(3, vi 0), (0, .ref (ad 13)), (1, vi x), (2, vi h)]) X dX2_firstShelfFor_1 (by decide) rfl rfl ?_
  exact g_lv (loop ((V 19 0).toNat + 1) 0 (by omega) (by omega) (by omega) (fun i i0 i1 e => absurd ((hL.2.2.1 i i0 i1).1) (by omega))) [1, 2, 3, 0] rfl

theorem newV_1 {V : Nat → Int → Int} {h : Int} (e : shF V h = V 19 0) : newV V h = u2 (u2 (u2 (u2 (u2 (u2 (u2 (u2 V 18 (V 19 0) 0) 19 0 (V 19 0 + 1)) 17 0 (V 17 0 + 1)) 13 (V 17 0) (V 19 0)) 14 (V 17 0) (uI (V 18) (V 19 0) 0 (V 19 0))) 15 (V 17 0) h) 16 (V 17 0) 0) 18 (V 19 0) (uI (V 18) (V 19 0) 0 (V 19 0) + h) := by
  unfold newV
  rw [if_pos e, e]
  rw [u2_comm _ (show (17 : Nat) ≠ 13 by decide), u2_comm _ (show (17 : Nat) ≠ 14 by decide), u2_comm _ (show (17 : Nat) ≠ 15 by decide), u2_comm _ (show (17 : Nat) ≠ 16 by decide), u2_comm _ (show (17 : Nat) ≠ 18 by decide)]
theorem newV_2 {V : Nat → Int → Int} {h s : Int} (es : s = shF V h) (e : s ≠ V 19 0) : newV V h = u2 (u2 (u2 (u2 (u2 (u2 V 17 0 (V 17 0 + 1)) 13 (V 17 0) s) 14 (V 17 0) (V 18 s)) 15 (V 17 0) h) 16 (V 17 0) 0) 18 s (V 18 s + h) := by
  subst es
  unfold newV
  rw [if_neg e]
  rw [u2_comm _ (show (17 : Nat) ≠ 13 by decide), u2_comm _ (show (17 : Nat) ≠ 14 by decide), u2_comm _ (show (17 : Nat) ≠ 15 by decide), u2_comm _ (show (17 : Nat) ≠ 16 by decide), u2_comm _ (show (17 : Nat) ≠ 18 by decide)]
set_option maxHeartbeats 4000000 in
set_option maxRecDepth 100000 in
/-- beginShelf(height) -/
theorem c_X2_beginShelf {C : WC} {l : Launch} (hfl : l.stackTraces = false) {ad : Nat → Nat} {B : BT} {E : Int × Nat} {S Y V : Nat → Int → Int} {R : va_W} {h : Int}  (hL : LI V) (l15 : V 17 0 < 16) (h0 : 1 ≤ h) (h1 : h ≤ 30) : MM C l yX2_beginShelf cX2_beginShelf 4 (some .int) 1 0 0 [.ref (ad 13), vi h] (wC C ad B E S Y V ++ R) (rv (vi (V 17 0)) (wC C ad B E S Y (newV V h) ++ R)) := by
  refine mm_of (by decide +kernel) (Nat.le_of_ble_eq_true rfl) hfl (fun K Q X r => ?_)
  have X : Cx C l "Springleaf$Layout" cX2_beginShelf 4 1 0 0 K := X
  have l1 := hL.1
  have l2 := hL.2.1
  show G C K Q 0 0 0 [(0, .ref (ad 13)), (1, vi h)] [] (wC C ad B E S Y V ++ R)
  refine g_aload_n (t := 1) X dX2_beginShelf_0 0 rfl rfl ?_
  refine g_iload_n (t := 2) X dX2_beginShelf_1 1 rfl rfl ?_
  refine g_callV (t := 5) (mc := 0) (ms := 0) (rest := []) X mt_X2_firstSheetFor q2_64 q2_65 q2_66 13 wC_13 rfl (c_X2_firstSheetFor hfl hL (by omega) h0 h1) (by decide) (Nat.le_of_ble_eq_true rfl) (Nat.le_of_ble_eq_true rfl) (Nat.le_of_ble_eq_true rfl) rfl rfl dX2_beginShelf_2 rfl (k_rv ?_)
  refine g_istore_n (t := 6) (lv1 := [(2, vi (fsF V h)), (0, .ref (ad 13)), (1, vi h)]) X dX2_beginShelf_5 (by decide) rfl rfl ?_
  obtain ⟨⟨g1, g2⟩, g3, g4⟩ := fsh_spec V h (V 19 0).toNat
  have gs : fsF V h = -1 ∧ shF V h = V 19 0 ∨ fsF V h = shF V h ∧ shF V h ≠ V 19 0 ∧ 0 ≤ shF V h ∧ shF V h < V 19 0 := by
    unfold fsF
    by_cases e : shF V h = V 19 0
    · rw [if_pos e]; exact Or.inl ⟨rfl, e⟩
    · rw [if_neg e]; exact Or.inr ⟨rfl, e, g1, by unfold shF at *; omega⟩
  have hl : ∀ k, 0 ≤ k → k < V 19 0 → 0 ≤ V 18 k ∧ V 18 k ≤ 30 := hL.2.2.2.1
  refine g_iload_n (t := 7) X dX2_beginShelf_6 0 rfl rfl ?_
  refine g_iconst (t := 8) X dX2_beginShelf_7 rfl ?_
  refine g_icmp_ne (t := 16) (u := 11) X dX2_beginShelf_8 (by decide) rfl ⟨by omega, by omega⟩ ⟨by omega, by omega⟩ (fun c_8 => ?_) (fun c_8 => ?_)
  · refine g_aload_n (t := 17) X dX2_beginShelf_16 1 rfl rfl ?_
    refine getf_X2 (t := 20) X 8 (by decide) q1_163 rfl rfl dX2_beginShelf_17 rfl ?_
    refine g_istore_n (t := 21) (lv1 := [(3, vi (V 17 0)), (2, vi (fsF V h)), (0, .ref (ad 13)), (1, vi h)]) X dX2_beginShelf_20 (by decide) rfl rfl ?_
    refine g_aload_n (t := 22) X dX2_beginShelf_21 2 rfl rfl ?_
    refine g_dup (t := 23) X dX2_beginShelf_22 rfl rfl ?_
    refine getf_X2 (t := 26) X 8 (by decide) q1_163 rfl rfl dX2_beginShelf_23 rfl ?_
    refine g_iconst (t := 27) X dX2_beginShelf_26 rfl ?_
    refine g_iadd (t := 28) X dX2_beginShelf_27 rfl ?_
    refine putf_X2 (t := 31) X 8 (by decide) q1_163 rfl rfl rfl wC_f_X2_8 dX2_beginShelf_28 rfl ?_
    refine g_aload_n (t := 32) X dX2_beginShelf_31 2 rfl rfl ?_
    refine getf_X2 (t := 35) X 3 (by decide) q1_158 rfl rfl dX2_beginShelf_32 rfl ?_
    refine g_iload_n (t := 36) X dX2_beginShelf_35 0 rfl rfl ?_
    refine g_iload_n (t := 37) X dX2_beginShelf_36 1 rfl rfl ?_
    refine g_iast (t := 38) (f := V 13) X 17 wC_17 (by omega) (by omega) (by omega) wC_s_17 dX2_beginShelf_37 rfl ?_
    refine g_aload_n (t := 39) X dX2_beginShelf_38 2 rfl rfl ?_
    refine getf_X2 (t := 42) X 4 (by decide) q1_159 rfl rfl dX2_beginShelf_39 rfl ?_
    refine g_iload_n (t := 43) X dX2_beginShelf_42 0 rfl rfl ?_
    refine g_aload_n (t := 44) X dX2_beginShelf_43 2 rfl rfl ?_
    refine getf_X2 (t := 47) X 7 (by decide) q1_162 rfl rfl dX2_beginShelf_44 rfl ?_
    refine g_iload_n (t := 48) X dX2_beginShelf_47 1 rfl rfl ?_
    refine g_iald (t := 49) (f := V 18) X 21 wC_21 (by omega) (by omega) (by omega) dX2_beginShelf_48 rfl ?_
    refine g_iast (t := 50) (f := V 14) X 18 wC_18 (by omega) (by omega) (by omega) wC_s_18 dX2_beginShelf_49 rfl ?_
    refine g_aload_n (t := 51) X dX2_beginShelf_50 2 rfl rfl ?_
    refine getf_X2 (t := 54) X 5 (by decide) q1_160 rfl rfl dX2_beginShelf_51 rfl ?_
    refine g_iload_n (t := 55) X dX2_beginShelf_54 0 rfl rfl ?_
    refine g_iload_n (t := 56) X dX2_beginShelf_55 3 rfl rfl ?_
    refine g_iast (t := 57) (f := V 15) X 19 wC_19 (by omega) (by omega) (by omega) wC_s_19 dX2_beginShelf_56 rfl ?_
    refine g_aload_n (t := 58) X dX2_beginShelf_57 2 rfl rfl ?_
    refine getf_X2 (t := 61) X 6 (by decide) q1_161 rfl rfl dX2_beginShelf_58 rfl ?_
    refine g_iload_n (t := 62) X dX2_beginShelf_61 0 rfl rfl ?_
    refine g_iconst (t := 63) X dX2_beginShelf_62 rfl ?_
    refine g_iast (t := 64) (f := V 16) X 20 wC_20 (by omega) (by omega) (by omega) wC_s_20 dX2_beginShelf_63 rfl ?_
    refine g_aload_n (t := 65) X dX2_beginShelf_64 2 rfl rfl ?_
    refine getf_X2 (t := 68) X 7 (by decide) q1_162 rfl rfl dX2_beginShelf_65 rfl ?_
    refine g_iload_n (t := 69) X dX2_beginShelf_68 1 rfl rfl ?_
    refine g_dup2 (t := 70) X dX2_beginShelf_69 rfl rfl rfl ?_
    refine g_iald (t := 71) (f := V 18) X 21 wC_21 (by omega) (by omega) (by omega) dX2_beginShelf_70 rfl ?_
    refine g_iload_n (t := 72) X dX2_beginShelf_71 3 rfl rfl ?_
    refine g_iadd (t := 73) X dX2_beginShelf_72 rfl ?_
    refine g_iast (t := 74) (f := V 18) X 21 wC_21 (by omega) (by omega) (by omega) wC_s_21 dX2_beginShelf_73 rfl ?_
    refine g_iload_n (t := 75) X dX2_beginShelf_74 0 rfl rfl ?_
    exact g_iret X r (by first | (rw [newV_1 (h := h) (by omega)]; exact rv_i rfl) | (rw [newV_2 (h := h) (s := fsF V h) (by omega) (by omega)]; exact rv_i rfl)) (Nat.le_of_ble_eq_true rfl) (Nat.le_of_ble_eq_true rfl) dX2_beginShelf_75
  · refine g_aload_n (t := 12) X dX2_beginShelf_11 1 rfl rfl ?_
    refine g_callV (t := 15) (mc := 0) (ms := 0) (rest := []) X mt_X2_beginSheet q2_68 q2_69 q2_70 13 wC_13 rfl (c_X2_beginSheet hfl (by omega) (by omega)) (by decide) (Nat.le_of_ble_eq_true rfl) (Nat.le_of_ble_eq_true rfl) (Nat.le_of_ble_eq_true rfl) rfl rfl dX2_beginShelf_12 rfl (k_rv ?_)
    refine g_istore_n (t := 16) (lv1 := [(2, vi (V 19 0)), (0, .ref (ad 13)), (1, vi h)]) X dX2_beginShelf_15 (by decide) rfl rfl ?_
    refine g_aload_n (t := 17) X dX2_beginShelf_16 1 rfl rfl ?_
    refine getf_X2 (t := 20) (v := vi (V 17 0)) X 8 (by decide) q1_163 rfl rfl dX2_beginShelf_17 rfl ?_
    refine g_istore_n (t := 21) (lv1 := [(3, vi (V 17 0)), (2, vi (V 19 0)), (0, .ref (ad 13)), (1, vi h)]) X dX2_beginShelf_20 (by decide) rfl rfl ?_
    refine g_aload_n (t := 22) X dX2_beginShelf_21 2 rfl rfl ?_
    refine g_dup (t := 23) X dX2_beginShelf_22 rfl rfl ?_
    refine getf_X2 (t := 26) (v := vi (V 17 0)) X 8 (by decide) q1_163 rfl rfl dX2_beginShelf_23 rfl ?_
    refine g_iconst (t := 27) X dX2_beginShelf_26 rfl ?_
    refine g_iadd (t := 28) X dX2_beginShelf_27 rfl ?_
    refine putf_X2 (t := 31) X 8 (by decide) q1_163 rfl rfl rfl wC_f_X2_8 dX2_beginShelf_28 rfl ?_
    refine g_aload_n (t := 32) X dX2_beginShelf_31 2 rfl rfl ?_
    refine getf_X2 (t := 35) X 3 (by decide) q1_158 rfl rfl dX2_beginShelf_32 rfl ?_
    refine g_iload_n (t := 36) X dX2_beginShelf_35 0 rfl rfl ?_
    refine g_iload_n (t := 37) X dX2_beginShelf_36 1 rfl rfl ?_
    refine g_iast (t := 38) (f := V 13) X 17 wC_17 (by omega) (by omega) (by omega) wC_s_17 dX2_beginShelf_37 rfl ?_
    refine g_aload_n (t := 39) X dX2_beginShelf_38 2 rfl rfl ?_
    refine getf_X2 (t := 42) X 4 (by decide) q1_159 rfl rfl dX2_beginShelf_39 rfl ?_
    refine g_iload_n (t := 43) X dX2_beginShelf_42 0 rfl rfl ?_
    refine g_aload_n (t := 44) X dX2_beginShelf_43 2 rfl rfl ?_
    refine getf_X2 (t := 47) X 7 (by decide) q1_162 rfl rfl dX2_beginShelf_44 rfl ?_
    refine g_iload_n (t := 48) X dX2_beginShelf_47 1 rfl rfl ?_
    refine g_iald (t := 49) (f := uI (V 18) (V 19 0) 0) X 21 wC_21 (by omega) (by omega) (by omega) dX2_beginShelf_48 rfl ?_
    refine g_iast (t := 50) (f := V 14) X 18 wC_18 (by omega) (by omega) (by omega) wC_s_18 dX2_beginShelf_49 rfl ?_
    refine g_aload_n (t := 51) X dX2_beginShelf_50 2 rfl rfl ?_
    refine getf_X2 (t := 54) X 5 (by decide) q1_160 rfl rfl dX2_beginShelf_51 rfl ?_
    refine g_iload_n (t := 55) X dX2_beginShelf_54 0 rfl rfl ?_
    refine g_iload_n (t := 56) X dX2_beginShelf_55 3 rfl rfl ?_
    refine g_iast (t := 57) (f := V 15) X 19 wC_19 (by omega) (by omega) (by omega) wC_s_19 dX2_beginShelf_56 rfl ?_
    refine g_aload_n (t := 58) X dX2_beginShelf_57 2 rfl rfl ?_
    refine getf_X2 (t := 61) X 6 (by decide) q1_161 rfl rfl dX2_beginShelf_58 rfl ?_
    refine g_iload_n (t := 62) X dX2_beginShelf_61 0 rfl rfl ?_
    refine g_iconst (t := 63) X dX2_beginShelf_62 rfl ?_
    refine g_iast (t := 64) (f := V 16) X 20 wC_20 (by omega) (by omega) (by omega) wC_s_20 dX2_beginShelf_63 rfl ?_
    refine g_aload_n (t := 65) X dX2_beginShelf_64 2 rfl rfl ?_
    refine getf_X2 (t := 68) X 7 (by decide) q1_162 rfl rfl dX2_beginShelf_65 rfl ?_
    refine g_iload_n (t := 69) X dX2_beginShelf_68 1 rfl rfl ?_
    refine g_dup2 (t := 70) X dX2_beginShelf_69 rfl rfl rfl ?_
    refine g_iald (t := 71) (f := uI (V 18) (V 19 0) 0) X 21 wC_21 (by omega) (by omega) (by omega) dX2_beginShelf_70 rfl ?_
    refine g_iload_n (t := 72) X dX2_beginShelf_71 3 rfl rfl ?_
    refine g_iadd (t := 73) X dX2_beginShelf_72 rfl ?_
    refine g_iast (t := 74) (f := uI (V 18) (V 19 0) 0) X 21 wC_21 (by omega) (by omega) (by omega) wC_s_21 dX2_beginShelf_73 rfl ?_
    refine g_iload_n (t := 75) X dX2_beginShelf_74 0 rfl rfl ?_
    exact g_iret X r (by first | (rw [newV_1 (h := h) (by omega)]; exact rv_i rfl) | (rw [newV_2 (h := h) (s := fsF V h) (by omega) (by omega)]; exact rv_i rfl)) (Nat.le_of_ble_eq_true rfl) (Nat.le_of_ble_eq_true rfl) dX2_beginShelf_75

set_option maxHeartbeats 4000000 in
set_option maxRecDepth 100000 in
/-- lay(part, width, height) -/
theorem c_X2_lay {C : WC} {l : Launch} (hfl : l.stackTraces = false) {ad : Nat → Nat} {B : BT} {E : Int × Nat} {S Y V : Nat → Int → Int} {R : va_W} {p : Int}  (hI : MI Y) (hL : LI V) (l15 : V 17 0 < 16) (p0 : 0 ≤ p) (p1 : p < Y 10 0) : MM C l yX2_lay cX2_lay 5 none 2 0 0 [.ref (ad 13), vi p, vi (wideF Y p), vi (tallF Y p)] (wC C ad B E S Y V ++ R) (rn (wC C ad B E S Y (layP Y V p) ++ R)) := by
  refine mm_of (by decide +kernel) (Nat.le_of_ble_eq_true rfl) hfl (fun K Q X r => ?_)
  have X : Cx C l "Springleaf$Layout" cX2_lay 5 2 0 0 K := X
  have l1 := hL.1
  have l2 := hL.2.1
  have ht := tw_rng hI p0 p1
  have I3 := hI.1
  have I10 := hI.2.2.1
  have I12 := hI.2.2.2.2.1
  show G C K Q 0 0 0 [(0, .ref (ad 13)), (1, vi p), (2, vi (wideF Y p)), (3, vi (tallF Y p))] [] (wC C ad B E S Y V ++ R)
  refine g_aload_n (t := 1) X dX2_lay_0 0 rfl rfl ?_
  refine g_iload_n (t := 2) X dX2_lay_1 2 rfl rfl ?_
  refine g_iload_n (t := 3) X dX2_lay_2 3 rfl rfl ?_
  refine g_callV (t := 6) (mc := 0) (ms := 0) (rest := []) X mt_X2_firstShelfFor q2_56 q2_57 q2_58 13 wC_13 rfl (c_X2_firstShelfFor hfl hL (by omega) ht.2.1 ht.2.2 ht.1.1 ht.1.2) (by decide) (Nat.le_of_ble_eq_true rfl) (Nat.le_of_ble_eq_true rfl) (Nat.le_of_ble_eq_true rfl) rfl rfl dX2_lay_3 rfl (k_rv ?_)
  refine g_istore (t := 8) (lv1 := [(4, vi (selF V (tallF Y p) (wideF Y p))), (0, .ref (ad 13)), (1, vi p), (2, vi (wideF Y p)), (3, vi (tallF Y p))]) X dX2_lay_6 (by decide) rfl rfl ?_
  have hs := sel_rng V (tallF Y p) (wideF Y p) (V 17 0).toNat
  have hs0 : -1 ≤ selF V (tallF Y p) (wideF Y p) ∧ selF V (tallF Y p) (wideF Y p) < V 17 0 := by unfold selF; omega
  refine g_iload (t := 10) X dX2_lay_8 0 rfl rfl ?_
  refine g_iconst (t := 11) X dX2_lay_10 rfl ?_
  refine g_icmp_ne (t := 21) (u := 14) X dX2_lay_11 (by decide) rfl ⟨by omega, by omega⟩ ⟨by omega, by omega⟩ (fun c_11 => ?_) (fun c_11 => ?_)
  · have hk := hL.2.2.1 (selF V (tallF Y p) (wideF Y p)) (by omega) (by omega)
    have eL : layP Y V p = plc V p (selF V (tallF Y p) (wideF Y p)) (wideF Y p) := by unfold layP; rw [if_neg (by omega)]
    refine g_aload_n (t := 22) X dX2_lay_21 1 rfl rfl ?_
    refine getf_X2 (t := 25) X 0 (by decide) q1_152 rfl rfl dX2_lay_22 rfl ?_
    refine g_iload_n (t := 26) X dX2_lay_25 2 rfl rfl ?_
    refine g_aload_n (t := 27) X dX2_lay_26 1 rfl rfl ?_
    refine getf_X2 (t := 30) X 3 (by decide) q1_158 rfl rfl dX2_lay_27 rfl ?_
    refine g_iload (t := 32) X dX2_lay_30 0 rfl rfl ?_
    refine g_iald (t := 33) (f := V 13) X 17 wC_17 (by omega) (by omega) (by omega) dX2_lay_32 rfl ?_
    refine g_iast (t := 34) (f := V 20) X 14 wC_14 (by omega) (by omega) (by omega) wC_s_14 dX2_lay_33 rfl ?_
    refine g_aload_n (t := 35) X dX2_lay_34 1 rfl rfl ?_
    refine getf_X2 (t := 38) X 1 (by decide) q1_154 rfl rfl dX2_lay_35 rfl ?_
    refine g_iload_n (t := 39) X dX2_lay_38 2 rfl rfl ?_
    refine g_aload_n (t := 40) X dX2_lay_39 1 rfl rfl ?_
    refine getf_X2 (t := 43) X 6 (by decide) q1_161 rfl rfl dX2_lay_40 rfl ?_
    refine g_iload (t := 45) X dX2_lay_43 0 rfl rfl ?_
    refine g_iald (t := 46) (f := V 16) X 20 wC_20 (by omega) (by omega) (by omega) dX2_lay_45 rfl ?_
    refine g_iast (t := 47) (f := V 21) X 15 wC_15 (by omega) (by omega) (by omega) wC_s_15 dX2_lay_46 rfl ?_
    refine g_aload_n (t := 48) X dX2_lay_47 1 rfl rfl ?_
    refine getf_X2 (t := 51) X 2 (by decide) q1_156 rfl rfl dX2_lay_48 rfl ?_
    refine g_iload_n (t := 52) X dX2_lay_51 2 rfl rfl ?_
    refine g_aload_n (t := 53) X dX2_lay_52 1 rfl rfl ?_
    refine getf_X2 (t := 56) X 4 (by decide) q1_159 rfl rfl dX2_lay_53 rfl ?_
    refine g_iload (t := 58) X dX2_lay_56 0 rfl rfl ?_
    refine g_iald (t := 59) (f := V 14) X 18 wC_18 (by omega) (by omega) (by omega) dX2_lay_58 rfl ?_
    refine g_iast (t := 60) (f := V 22) X 16 wC_16 (by omega) (by omega) (by omega) wC_s_16 dX2_lay_59 rfl ?_
    refine g_aload_n (t := 61) X dX2_lay_60 1 rfl rfl ?_
    refine getf_X2 (t := 64) X 6 (by decide) q1_161 rfl rfl dX2_lay_61 rfl ?_
    refine g_iload (t := 66) X dX2_lay_64 0 rfl rfl ?_
    refine g_dup2 (t := 67) X dX2_lay_66 rfl rfl rfl ?_
    refine g_iald (t := 68) (f := V 16) X 20 wC_20 (by omega) (by omega) (by omega) dX2_lay_67 rfl ?_
    refine g_iload_n (t := 69) X dX2_lay_68 3 rfl rfl ?_
    refine g_iadd (t := 70) X dX2_lay_69 rfl ?_
    refine g_iast (t := 71) (f := V 16) X 20 wC_20 (by omega) (by omega) (by omega) wC_s_20 dX2_lay_70 rfl ?_
    exact g_vret X r (by rw [eL]; exact rn_i) (Nat.le_of_ble_eq_true rfl) (Nat.le_of_ble_eq_true rfl) dX2_lay_71
  · refine g_aload_n (t := 15) X dX2_lay_14 1 rfl rfl ?_
    refine g_iload_n (t := 16) X dX2_lay_15 4 rfl rfl ?_
    refine g_callV (t := 19) (mc := 0) (ms := 0) (rest := []) X mt_X2_beginShelf q2_60 q2_61 q2_62 13 wC_13 rfl (c_X2_beginShelf hfl hL (by omega) ht.1.1 ht.1.2) (by decide) (Nat.le_of_ble_eq_true rfl) (Nat.le_of_ble_eq_true rfl) (Nat.le_of_ble_eq_true rfl) rfl rfl dX2_lay_16 rfl (k_rv ?_)
    refine g_istore (t := 21) (lv1 := [(4, vi (V 17 0)), (0, .ref (ad 13)), (1, vi p), (2, vi (wideF Y p)), (3, vi (tallF Y p))]) X dX2_lay_19 (by decide) rfl rfl ?_
    obtain ⟨n1, n2, n3⟩ := hL.new ht.1.1 ht.1.2
    have hk := n1.2.2.1 (V 17 0) (by omega) (by omega)
    have n4 := n1.2.1
    have eL : layP Y V p = plc (newV V (tallF Y p)) p (V 17 0) (wideF Y p) := by unfold layP; rw [if_pos (by omega)]
    refine g_aload_n (t := 22) X dX2_lay_21 1 rfl rfl ?_
    refine getf_X2 (t := 25) X 0 (by decide) q1_152 rfl rfl dX2_lay_22 rfl ?_
    refine g_iload_n (t := 26) X dX2_lay_25 2 rfl rfl ?_
    refine g_aload_n (t := 27) X dX2_lay_26 1 rfl rfl ?_
    refine getf_X2 (t := 30) X 3 (by decide) q1_158 rfl rfl dX2_lay_27 rfl ?_
    refine g_iload (t := 32) X dX2_lay_30 0 rfl rfl ?_
    refine g_iald (t := 33) (f := (newV V (tallF Y p)) 13) X 17 wC_17 (by omega) (by omega) (by omega) dX2_lay_32 rfl ?_
    refine g_iast (t := 34) (f := (newV V (tallF Y p)) 20) X 14 wC_14 (by omega) (by omega) (by omega) wC_s_14 dX2_lay_33 rfl ?_
    refine g_aload_n (t := 35) X dX2_lay_34 1 rfl rfl ?_
    refine getf_X2 (t := 38) X 1 (by decide) q1_154 rfl rfl dX2_lay_35 rfl ?_
    refine g_iload_n (t := 39) X dX2_lay_38 2 rfl rfl ?_
    refine g_aload_n (t := 40) X dX2_lay_39 1 rfl rfl ?_
    refine getf_X2 (t := 43) X 6 (by decide) q1_161 rfl rfl dX2_lay_40 rfl ?_
    refine g_iload (t := 45) X dX2_lay_43 0 rfl rfl ?_
    refine g_iald (t := 46) (f := (newV V (tallF Y p)) 16) X 20 wC_20 (by omega) (by omega) (by omega) dX2_lay_45 rfl ?_
    refine g_iast (t := 47) (f := (newV V (tallF Y p)) 21) X 15 wC_15 (by omega) (by omega) (by omega) wC_s_15 dX2_lay_46 rfl ?_
    refine g_aload_n (t := 48) X dX2_lay_47 1 rfl rfl ?_
    refine getf_X2 (t := 51) X 2 (by decide) q1_156 rfl rfl dX2_lay_48 rfl ?_
    refine g_iload_n (t := 52) X dX2_lay_51 2 rfl rfl ?_
    refine g_aload_n (t := 53) X dX2_lay_52 1 rfl rfl ?_
    refine getf_X2 (t := 56) X 4 (by decide) q1_159 rfl rfl dX2_lay_53 rfl ?_
    refine g_iload (t := 58) X dX2_lay_56 0 rfl rfl ?_
    refine g_iald (t := 59) (f := (newV V (tallF Y p)) 14) X 18 wC_18 (by omega) (by omega) (by omega) dX2_lay_58 rfl ?_
    refine g_iast (t := 60) (f := (newV V (tallF Y p)) 22) X 16 wC_16 (by omega) (by omega) (by omega) wC_s_16 dX2_lay_59 rfl ?_
    refine g_aload_n (t := 61) X dX2_lay_60 1 rfl rfl ?_
    refine getf_X2 (t := 64) X 6 (by decide) q1_161 rfl rfl dX2_lay_61 rfl ?_
    refine g_iload (t := 66) X dX2_lay_64 0 rfl rfl ?_
    refine g_dup2 (t := 67) X dX2_lay_66 rfl rfl rfl ?_
    refine g_iald (t := 68) (f := (newV V (tallF Y p)) 16) X 20 wC_20 (by omega) (by omega) (by omega) dX2_lay_67 rfl ?_
    refine g_iload_n (t := 69) X dX2_lay_68 3 rfl rfl ?_
    refine g_iadd (t := 70) X dX2_lay_69 rfl ?_
    refine g_iast (t := 71) (f := (newV V (tallF Y p)) 16) X 20 wC_20 (by omega) (by omega) (by omega) wC_s_20 dX2_lay_70 rfl ?_
    exact g_vret X r (by rw [eL]; exact rn_i) (Nat.le_of_ble_eq_true rfl) (Nat.le_of_ble_eq_true rfl) dX2_lay_71

