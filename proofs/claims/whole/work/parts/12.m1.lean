/-! the way of angleOf is new after a call -/
def rq (x : Value) (wf : (Int → Int) → va_W) : Option Value → va_W → Prop := fun v w => v = some x ∧ ∃ W, w = wf W
def rbq (P : Prop) (wf : (Int → Int) → va_W) : Option Value → va_W → Prop := fun v w => (∃ W, w = wf W) ∧ ((P ∧ v = some (vi 1)) ∨ (¬ P ∧ v = some (vi 0)))
theorem rq_i {z z0 : Int} {wf : (Int → Int) → va_W} {w : va_W} (W : Int → Int) (h : z = z0) (hw : w = wf W) : rq (vi z0) wf (some (vi z)) w := ⟨by rw [h], W, hw⟩
theorem rbq_t {P : Prop} {wf : (Int → Int) → va_W} {w : va_W} (W : Int → Int) (h : P) (hw : w = wf W) : rbq P wf (some (vi 1)) w := ⟨⟨W, hw⟩, Or.inl ⟨h, rfl⟩⟩
theorem rbq_f {P : Prop} {wf : (Int → Int) → va_W} {w : va_W} (W : Int → Int) (h : ¬ P) (hw : w = wf W) : rbq P wf (some (vi 0)) w := ⟨⟨W, hw⟩, Or.inr ⟨h, rfl⟩⟩
section GKW
variable {C : WC} {K : GK} {Q : State → Prop} {cells slots t : Nat} {lv : List (Nat × Value)} {rest : List Value} {wf : (Int → Int) → va_W}
theorem k_rw {x : Value} (h : ∀ W, G C K Q cells slots t lv (x :: rest) (wf W)) : ∀ (v : Option Value) (ws1 : va_W), rq x wf v ws1 → G C K Q cells slots t lv (v.toList ++ rest) ws1 := by
  rintro _ _ ⟨rfl, W, rfl⟩; exact h W
theorem k_rbw {P : Prop} (h1 : ∀ W, P → G C K Q cells slots t lv (vi 1 :: rest) (wf W)) (h2 : ∀ W, ¬ P → G C K Q cells slots t lv (vi 0 :: rest) (wf W)) : ∀ (v : Option Value) (ws1 : va_W), rbq P wf v ws1 → G C K Q cells slots t lv (v.toList ++ rest) ws1 := by
  rintro _ _ ⟨⟨W, rfl⟩, ⟨hp, rfl⟩ | ⟨hp, rfl⟩⟩
  · exact h1 W hp
  · exact h2 W hp
end GKW
/-! pure words -/
def wideF (Y : Nat → Int → Int) (p : Int) : Int := if Y 9 p = 1 then Y 6 p else Y 8 p
def tallF (Y : Nat → Int → Int) (p : Int) : Int := if Y 9 p = 1 then Y 8 p else Y 6 p
def dgF (n : Int) : Int := if n < 10 then 1 else 2
def abF (n : Int) : Int := if n < 0 then -n else n
/-- the last step at which p was glued -/
def stp (ord : Int → Int) (p : Int) : Nat → Int
  | 0 => -1
  | n + 1 => if ord n = p then n else stp ord p n
def stepF (Y : Nat → Int → Int) (p : Int) : Int := stp (Y 11) p (Y 12 0).toNat
theorem stp_rng (ord : Int → Int) (p : Int) : ∀ n : Nat, -1 ≤ stp ord p n ∧ stp ord p n < n := by
  intro n
  induction n with
  | zero => simp [stp]
  | succ n ih =>
    simp only [stp]
    split <;> omega
def chn (on : Int → Int) (f : Int) : Nat → Int
  | 0 => f
  | n + 1 => on (chn on f n)

set_option maxHeartbeats 4000000 in
set_option maxRecDepth 100000 in
/-- thrown() -/
theorem c_X5_thrown {C : WC} {l : Launch} (hfl : l.stackTraces = false) {ad : Nat → Nat} {Y V : Nat → Int → Int} {W : Int → Int} {th : Int} {R : va_W}  : MM C l yX5_thrown cX5_thrown 1 (some .int) 0 0 0 [.ref (ad 0)] (wM C ad Y V W th ++ R) (rv (vi th) (wM C ad Y V W th ++ R)) := by
  refine mm_of (by decide +kernel) (Nat.le_of_ble_eq_true rfl) hfl (fun K Q X r => ?_)
  have X : Cx C l "SpringleafModel" cX5_thrown 1 0 0 0 K := X
  show G C K Q 0 0 0 [(0, .ref (ad 0))] [] (wM C ad Y V W th ++ R)
  refine g_aload_n (t := 1) X dX5_thrown_0 0 rfl rfl ?_
  refine m_getf (t := 4) X 24 (by decide) q4_233 rfl rfl dX5_thrown_1 rfl ?_
  exact g_iret X r (rv_i rfl) (Nat.le_of_ble_eq_true rfl) (Nat.le_of_ble_eq_true rfl) dX5_thrown_4

set_option maxHeartbeats 4000000 in
set_option maxRecDepth 100000 in
/-- holds(which) -/
theorem c_X5_holds {C : WC} {l : Launch} (hfl : l.stackTraces = false) {ad : Nat → Nat} {Y V : Nat → Int → Int} {W : Int → Int} {th : Int} {R : va_W} {x : Int} (hx : Rg x) : MM C l yX5_holds cX5_holds 2 (some .boolean) 0 0 0 [.ref (ad 0), vi x] (wM C ad Y V W th ++ R) (rb (0 < x) (wM C ad Y V W x ++ R)) := by
  refine mm_of (by decide +kernel) (Nat.le_of_ble_eq_true rfl) hfl (fun K Q X r => ?_)
  have X : Cx C l "SpringleafModel" cX5_holds 2 0 0 0 K := X
  obtain ⟨x1, x2⟩ := hx
  show G C K Q 0 0 0 [(0, .ref (ad 0)), (1, vi x)] [] (wM C ad Y V W th ++ R)
  refine g_aload_n (t := 1) X dX5_holds_0 0 rfl rfl ?_
  refine g_iload_n (t := 2) X dX5_holds_1 1 rfl rfl ?_
  refine m_putf (t := 5) X 24 (by decide) q4_233 rfl rfl rfl wM_f_thrown dX5_holds_2 rfl ?_
  refine g_iload_n (t := 6) X dX5_holds_5 1 rfl rfl ?_
  refine g_if_le (t := 13) (u := 9) X dX5_holds_6 (by decide) rfl ⟨by omega, by omega⟩ (fun c_6 => ?_) (fun c_6 => ?_)
  · refine g_iconst (t := 14) X dX5_holds_13 rfl ?_
    exact g_zret X r rfl (rb_f (by omega)) (Nat.le_of_ble_eq_true rfl) (Nat.le_of_ble_eq_true rfl) dX5_holds_14
  · refine g_iconst (t := 10) X dX5_holds_9 rfl ?_
    refine g_goto (t := 14) X dX5_holds_10 (by decide) ?_
    exact g_zret X r rfl (rb_t (by omega)) (Nat.le_of_ble_eq_true rfl) (Nat.le_of_ble_eq_true rfl) dX5_holds_14

set_option maxHeartbeats 4000000 in
set_option maxRecDepth 100000 in
/-- in(value, low, most) -/
theorem c_X5_in {C : WC} {l : Launch} (hfl : l.stackTraces = false) {ad : Nat → Nat} {Y V : Nat → Int → Int} {W : Int → Int} {th : Int} {R : va_W} {x a b : Int} (hx : Rg x) (ha : Rg a) (hb : Rg b) : MM C l yX5_in cX5_in 4 (some .boolean) 0 0 0 [.ref (ad 0), vi x, vi a, vi b] (wM C ad Y V W th ++ R) (rb (a ≤ x ∧ x ≤ b) (wM C ad Y V W th ++ R)) := by
  refine mm_of (by decide +kernel) (Nat.le_of_ble_eq_true rfl) hfl (fun K Q X r => ?_)
  have X : Cx C l "SpringleafModel" cX5_in 4 0 0 0 K := X
  obtain ⟨x1, x2⟩ := hx
  obtain ⟨a1, a2⟩ := ha
  obtain ⟨b1, b2⟩ := hb
  show G C K Q 0 0 0 [(0, .ref (ad 0)), (1, vi x), (2, vi a), (3, vi b)] [] (wM C ad Y V W th ++ R)
  refine g_iload_n (t := 1) X dX5_in_0 1 rfl rfl ?_
  refine g_iload_n (t := 2) X dX5_in_1 2 rfl rfl ?_
  refine g_icmp_lt (t := 14) (u := 5) X dX5_in_2 (by decide) rfl ⟨by omega, by omega⟩ ⟨by omega, by omega⟩ (fun c_2 => ?_) (fun c_2 => ?_)
  · refine g_iconst (t := 15) X dX5_in_14 rfl ?_
    exact g_zret X r rfl (rb_f (by omega)) (Nat.le_of_ble_eq_true rfl) (Nat.le_of_ble_eq_true rfl) dX5_in_15
  · refine g_iload_n (t := 6) X dX5_in_5 1 rfl rfl ?_
    refine g_iload_n (t := 7) X dX5_in_6 3 rfl rfl ?_
    refine g_icmp_gt (t := 14) (u := 10) X dX5_in_7 (by decide) rfl ⟨by omega, by omega⟩ ⟨by omega, by omega⟩ (fun c_7 => ?_) (fun c_7 => ?_)
    · refine g_iconst (t := 15) X dX5_in_14 rfl ?_
      exact g_zret X r rfl (rb_f (by omega)) (Nat.le_of_ble_eq_true rfl) (Nat.le_of_ble_eq_true rfl) dX5_in_15
    · refine g_iconst (t := 11) X dX5_in_10 rfl ?_
      refine g_goto (t := 15) X dX5_in_11 (by decide) ?_
      exact g_zret X r rfl (rb_t (by omega)) (Nat.le_of_ble_eq_true rfl) (Nat.le_of_ble_eq_true rfl) dX5_in_15

set_option maxHeartbeats 4000000 in
set_option maxRecDepth 100000 in
/-- isFold(number) -/
theorem c_X5_isFold {C : WC} {l : Launch} (hfl : l.stackTraces = false) {ad : Nat → Nat} {Y V : Nat → Int → Int} {W : Int → Int} {th : Int} {R : va_W} {x : Int} (hI : MI Y) (hx : Rg x) : MM C l yX5_isFold cX5_isFold 2 (some .boolean) 1 0 0 [.ref (ad 0), vi x] (wM C ad Y V W th ++ R) (rb (0 ≤ x ∧ x < Y 3 0) (wM C ad Y V W th ++ R)) := by
  refine mm_of (by decide +kernel) (Nat.le_of_ble_eq_true rfl) hfl (fun K Q X r => ?_)
  have X : Cx C l "SpringleafModel" cX5_isFold 2 1 0 0 K := X
  obtain ⟨x1, x2⟩ := hx
  have I3 := hI.1
  have I10 := hI.2.2.1
  have I12 := hI.2.2.2.2.1
  show G C K Q 0 0 0 [(0, .ref (ad 0)), (1, vi x)] [] (wM C ad Y V W th ++ R)
  refine g_aload_n (t := 1) X dX5_isFold_0 0 rfl rfl ?_
  refine g_iload_n (t := 2) X dX5_isFold_1 1 rfl rfl ?_
  refine g_iconst (t := 3) X dX5_isFold_2 rfl ?_
  refine g_aload_n (t := 4) X dX5_isFold_3 0 rfl rfl ?_
  refine m_getf (t := 7) X 3 (by decide) q4_212 rfl rfl dX5_isFold_4 rfl ?_
  refine g_iconst (t := 8) X dX5_isFold_7 rfl ?_
  refine g_isub (t := 9) X dX5_isFold_8 rfl ?_
  refine g_callV (t := 12) (mc := 0) (ms := 0) (rest := []) X mt_X5_in q5_54 q5_56 qs_20 0 wM_0 rfl (c_X5_in hfl ⟨by omega, by omega⟩ ⟨by omega, by omega⟩ ⟨by omega, by omega⟩) (by decide) (by decide) (by decide) (Nat.le_of_ble_eq_true rfl) rfl rfl dX5_isFold_9 rfl (k_rb (fun b_9 => ?_) (fun b_9 => ?_))
  · exact g_zret X r rfl (rb_t (by omega)) (Nat.le_of_ble_eq_true rfl) (Nat.le_of_ble_eq_true rfl) dX5_isFold_12
  · exact g_zret X r rfl (rb_f (by omega)) (Nat.le_of_ble_eq_true rfl) (Nat.le_of_ble_eq_true rfl) dX5_isFold_12

set_option maxHeartbeats 4000000 in
set_option maxRecDepth 100000 in
/-- isPart(number) -/
theorem c_X5_isPart {C : WC} {l : Launch} (hfl : l.stackTraces = false) {ad : Nat → Nat} {Y V : Nat → Int → Int} {W : Int → Int} {th : Int} {R : va_W} {x : Int} (hI : MI Y) (hx : Rg x) : MM C l yX5_isPart cX5_isPart 2 (some .boolean) 1 0 0 [.ref (ad 0), vi x] (wM C ad Y V W th ++ R) (rb (0 ≤ x ∧ x < Y 10 0) (wM C ad Y V W th ++ R)) := by
  refine mm_of (by decide +kernel) (Nat.le_of_ble_eq_true rfl) hfl (fun K Q X r => ?_)
  have X : Cx C l "SpringleafModel" cX5_isPart 2 1 0 0 K := X
  obtain ⟨x1, x2⟩ := hx
  have I3 := hI.1
  have I10 := hI.2.2.1
  have I12 := hI.2.2.2.2.1
  show G C K Q 0 0 0 [(0, .ref (ad 0)), (1, vi x)] [] (wM C ad Y V W th ++ R)
  refine g_aload_n (t := 1) X dX5_isPart_0 0 rfl rfl ?_
  refine g_iload_n (t := 2) X dX5_isPart_1 1 rfl rfl ?_
  refine g_iconst (t := 3) X dX5_isPart_2 rfl ?_
  refine g_aload_n (t := 4) X dX5_isPart_3 0 rfl rfl ?_
  refine m_getf (t := 7) X 10 (by decide) q4_219 rfl rfl dX5_isPart_4 rfl ?_
  refine g_iconst (t := 8) X dX5_isPart_7 rfl ?_
  refine g_isub (t := 9) X dX5_isPart_8 rfl ?_
  refine g_callV (t := 12) (mc := 0) (ms := 0) (rest := []) X mt_X5_in q5_54 q5_56 qs_20 0 wM_0 rfl (c_X5_in hfl ⟨by omega, by omega⟩ ⟨by omega, by omega⟩ ⟨by omega, by omega⟩) (by decide) (by decide) (by decide) (Nat.le_of_ble_eq_true rfl) rfl rfl dX5_isPart_9 rfl (k_rb (fun b_9 => ?_) (fun b_9 => ?_))
  · exact g_zret X r rfl (rb_t (by omega)) (Nat.le_of_ble_eq_true rfl) (Nat.le_of_ble_eq_true rfl) dX5_isPart_12
  · exact g_zret X r rfl (rb_f (by omega)) (Nat.le_of_ble_eq_true rfl) (Nat.le_of_ble_eq_true rfl) dX5_isPart_12

set_option maxHeartbeats 4000000 in
set_option maxRecDepth 100000 in
/-- down(n, 4), n from 0 on -/
theorem c_X5_down {C : WC} {l : Launch} (hfl : l.stackTraces = false) {ad : Nat → Nat} {Y V : Nat → Int → Int} {W : Int → Int} {th : Int} {R : va_W} {x : Int} (h0 : 0 ≤ x) (h1 : x ≤ 2000) : MM C l yX5_down cX5_down 3 (some .int) 0 0 0 [.ref (ad 0), vi x, vi 4] (wM C ad Y V W th ++ R) (rv (vi (x / 4)) (wM C ad Y V W th ++ R)) := by
  refine mm_of (by decide +kernel) (Nat.le_of_ble_eq_true rfl) hfl (fun K Q X r => ?_)
  have X : Cx C l "SpringleafModel" cX5_down 3 0 0 0 K := X
  show G C K Q 0 0 0 [(0, .ref (ad 0)), (1, vi x), (2, vi 4)] [] (wM C ad Y V W th ++ R)
  refine g_iload_n (t := 1) X dX5_down_0 1 rfl rfl ?_
  refine g_if_ge (t := 15) (u := 4) X dX5_down_1 (by decide) rfl ⟨by omega, by omega⟩ (fun c_1 => ?_) (fun c_1 => absurd h0 c_1)
  refine g_iload_n (t := 16) X dX5_down_15 1 rfl rfl ?_
  refine g_iload_n (t := 17) X dX5_down_16 2 rfl rfl ?_
  refine g_idiv (t := 18) X dX5_down_17 ⟨by omega, by omega⟩ ⟨by omega, by omega⟩ (by omega) ⟨by rw [Int.tdiv_eq_ediv_of_nonneg h0]; omega, by rw [Int.tdiv_eq_ediv_of_nonneg h0]; omega⟩ rfl ?_
  exact g_iret X r (rv_i (Int.tdiv_eq_ediv_of_nonneg h0)) (Nat.le_of_ble_eq_true rfl) (Nat.le_of_ble_eq_true rfl) dX5_down_18

set_option maxHeartbeats 4000000 in
set_option maxRecDepth 100000 in
/-- share(p, q) -/
theorem c_X5_share {C : WC} {l : Launch} (hfl : l.stackTraces = false) {ad : Nat → Nat} {Y V : Nat → Int → Int} {W : Int → Int} {th : Int} {R : va_W} {p q : Int} (hI : MI Y) (p0 : 0 ≤ p) (p1 : p < Y 10 0) (q0 : 0 ≤ q) (q1 : q < Y 10 0) : MM C l yX5_share cX5_share 3 (some .boolean) 0 0 0 [.ref (ad 0), vi p, vi q] (wM C ad Y V W th ++ R) (rb (shareF Y p q) (wM C ad Y V W th ++ R)) := by
  refine mm_of (by decide +kernel) (Nat.le_of_ble_eq_true rfl) hfl (fun K Q X r => ?_)
  have X : Cx C l "SpringleafModel" cX5_share 3 0 0 0 K := X
  have I3 := hI.1
  have I10 := hI.2.2.1
  have I12 := hI.2.2.2.2.1
  have hp := hI.2.2.2.1 p p0 p1
  have hq := hI.2.2.2.1 q q0 q1
  show G C K Q 0 0 0 [(0, .ref (ad 0)), (1, vi p), (2, vi q)] [] (wM C ad Y V W th ++ R)
  refine g_aload_n (t := 1) X dX5_share_0 0 rfl rfl ?_
  refine m_getf (t := 4) X 7 (by decide) q4_216 rfl rfl dX5_share_1 rfl ?_
  refine g_iload_n (t := 5) X dX5_share_4 1 rfl rfl ?_
  refine g_iald (t := 6) (f := Y 7) X 7 wM_pb (by omega) (by omega) (by omega) dX5_share_5 rfl ?_
  refine g_aload_n (t := 7) X dX5_share_6 0 rfl rfl ?_
  refine m_getf (t := 10) X 7 (by decide) q4_216 rfl rfl dX5_share_7 rfl ?_
  refine g_iload_n (t := 11) X dX5_share_10 2 rfl rfl ?_
  refine g_iald (t := 12) (f := Y 7) X 7 wM_pb (by omega) (by omega) (by omega) dX5_share_11 rfl ?_
  refine g_aload_n (t := 13) X dX5_share_12 0 rfl rfl ?_
  refine m_getf (t := 16) X 8 (by decide) q4_217 rfl rfl dX5_share_13 rfl ?_
  refine g_iload_n (t := 17) X dX5_share_16 2 rfl rfl ?_
  refine g_iald (t := 18) (f := Y 8) X 8 wM_pn (by omega) (by omega) (by omega) dX5_share_17 rfl ?_
  refine g_iadd (t := 19) X dX5_share_18 rfl ?_
  refine g_iconst (t := 20) X dX5_share_19 rfl ?_
  refine g_isub (t := 21) X dX5_share_20 rfl ?_
  refine g_icmp_gt (t := 52) (u := 24) X dX5_share_21 (by decide) rfl ⟨by omega, by omega⟩ ⟨by omega, by omega⟩ (fun c_21 => ?_) (fun c_21 => ?_)
  · refine g_iconst (t := 53) X dX5_share_52 rfl ?_
    exact g_zret X r rfl (rb_f (by unfold shareF; omega)) (Nat.le_of_ble_eq_true rfl) (Nat.le_of_ble_eq_true rfl) dX5_share_53
  · refine g_aload_n (t := 25) X dX5_share_24 0 rfl rfl ?_
    refine m_getf (t := 28) X 7 (by decide) q4_216 rfl rfl dX5_share_25 rfl ?_
    refine g_iload_n (t := 29) X dX5_share_28 2 rfl rfl ?_
    refine g_iald (t := 30) (f := Y 7) X 7 wM_pb (by omega) (by omega) (by omega) dX5_share_29 rfl ?_
    refine g_aload_n (t := 31) X dX5_share_30 0 rfl rfl ?_
    refine m_getf (t := 34) X 7 (by decide) q4_216 rfl rfl dX5_share_31 rfl ?_
    refine g_iload_n (t := 35) X dX5_share_34 1 rfl rfl ?_
    refine g_iald (t := 36) (f := Y 7) X 7 wM_pb (by omega) (by omega) (by omega) dX5_share_35 rfl ?_
    refine g_aload_n (t := 37) X dX5_share_36 0 rfl rfl ?_
    refine m_getf (t := 40) X 8 (by decide) q4_217 rfl rfl dX5_share_37 rfl ?_
    refine g_iload_n (t := 41) X dX5_share_40 1 rfl rfl ?_
    refine g_iald (t := 42) (f := Y 8) X 8 wM_pn (by omega) (by omega) (by omega) dX5_share_41 rfl ?_
    refine g_iadd (t := 43) X dX5_share_42 rfl ?_
    refine g_iconst (t := 44) X dX5_share_43 rfl ?_
    refine g_isub (t := 45) X dX5_share_44 rfl ?_
    refine g_icmp_gt (t := 52) (u := 48) X dX5_share_45 (by decide) rfl ⟨by omega, by omega⟩ ⟨by omega, by omega⟩ (fun c_45 => ?_) (fun c_45 => ?_)
    · refine g_iconst (t := 53) X dX5_share_52 rfl ?_
      exact g_zret X r rfl (rb_f (by unfold shareF; omega)) (Nat.le_of_ble_eq_true rfl) (Nat.le_of_ble_eq_true rfl) dX5_share_53
    · refine g_iconst (t := 49) X dX5_share_48 rfl ?_
      refine g_goto (t := 53) X dX5_share_49 (by decide) ?_
      exact g_zret X r rfl (rb_t (by unfold shareF; omega)) (Nat.le_of_ble_eq_true rfl) (Nat.le_of_ble_eq_true rfl) dX5_share_53

set_option maxHeartbeats 4000000 in
set_option maxRecDepth 100000 in
/-- wide(p) -/
theorem c_X5_wide {C : WC} {l : Launch} (hfl : l.stackTraces = false) {ad : Nat → Nat} {Y V : Nat → Int → Int} {W : Int → Int} {th : Int} {R : va_W} {p : Int} (hI : MI Y) (p0 : 0 ≤ p) (p1 : p < Y 10 0) : MM C l yX5_wide cX5_wide 2 (some .int) 0 0 0 [.ref (ad 0), vi p] (wM C ad Y V W th ++ R) (rv (vi (wideF Y p)) (wM C ad Y V W th ++ R)) := by
  refine mm_of (by decide +kernel) (Nat.le_of_ble_eq_true rfl) hfl (fun K Q X r => ?_)
  have X : Cx C l "SpringleafModel" cX5_wide 2 0 0 0 K := X
  have I3 := hI.1
  have I10 := hI.2.2.1
  have I12 := hI.2.2.2.2.1
  have hp := hI.2.2.2.1 p p0 p1
  show G C K Q 0 0 0 [(0, .ref (ad 0)), (1, vi p)] [] (wM C ad Y V W th ++ R)
  refine g_aload_n (t := 1) X dX5_wide_0 0 rfl rfl ?_
  refine m_getf (t := 4) X 9 (by decide) q4_218 rfl rfl dX5_wide_1 rfl ?_
  refine g_iload_n (t := 5) X dX5_wide_4 1 rfl rfl ?_
  refine g_iald (t := 6) (f := Y 9) X 9 wM_pe (by omega) (by omega) (by omega) dX5_wide_5 rfl ?_
  refine g_iconst (t := 7) X dX5_wide_6 rfl ?_
  refine g_icmp_ne (t := 19) (u := 10) X dX5_wide_7 (by decide) rfl ⟨by omega, by omega⟩ ⟨by omega, by omega⟩ (fun c_7 => ?_) (fun c_7 => ?_)
  · refine g_aload_n (t := 20) X dX5_wide_19 0 rfl rfl ?_
    refine m_getf (t := 23) X 8 (by decide) q4_217 rfl rfl dX5_wide_20 rfl ?_
    refine g_iload_n (t := 24) X dX5_wide_23 1 rfl rfl ?_
    refine g_iald (t := 25) (f := Y 8) X 8 wM_pn (by omega) (by omega) (by omega) dX5_wide_24 rfl ?_
    exact g_iret X r (rv_i (by unfold wideF; split <;> omega)) (Nat.le_of_ble_eq_true rfl) (Nat.le_of_ble_eq_true rfl) dX5_wide_25
  · refine g_aload_n (t := 11) X dX5_wide_10 0 rfl rfl ?_
    refine m_getf (t := 14) X 6 (by decide) q4_215 rfl rfl dX5_wide_11 rfl ?_
    refine g_iload_n (t := 15) X dX5_wide_14 1 rfl rfl ?_
    refine g_iald (t := 16) (f := Y 6) X 6 wM_pl (by omega) (by omega) (by omega) dX5_wide_15 rfl ?_
    refine g_goto (t := 25) X dX5_wide_16 (by decide) ?_
    exact g_iret X r (rv_i (by unfold wideF; split <;> omega)) (Nat.le_of_ble_eq_true rfl) (Nat.le_of_ble_eq_true rfl) dX5_wide_25

set_option maxHeartbeats 4000000 in
set_option maxRecDepth 100000 in
/-- tall(p) -/
theorem c_X5_tall {C : WC} {l : Launch} (hfl : l.stackTraces = false) {ad : Nat → Nat} {Y V : Nat → Int → Int} {W : Int → Int} {th : Int} {R : va_W} {p : Int} (hI : MI Y) (p0 : 0 ≤ p) (p1 : p < Y 10 0) : MM C l yX5_tall cX5_tall 2 (some .int) 0 0 0 [.ref (ad 0), vi p] (wM C ad Y V W th ++ R) (rv (vi (tallF Y p)) (wM C ad Y V W th ++ R)) := by
  refine mm_of (by decide +kernel) (Nat.le_of_ble_eq_true rfl) hfl (fun K Q X r => ?_)
  have X : Cx C l "SpringleafModel" cX5_tall 2 0 0 0 K := X
  have I3 := hI.1
  have I10 := hI.2.2.1
  have I12 := hI.2.2.2.2.1
  have hp := hI.2.2.2.1 p p0 p1
  show G C K Q 0 0 0 [(0, .ref (ad 0)), (1, vi p)] [] (wM C ad Y V W th ++ R)
  refine g_aload_n (t := 1) X dX5_tall_0 0 rfl rfl ?_
  refine m_getf (t := 4) X 9 (by decide) q4_218 rfl rfl dX5_tall_1 rfl ?_
  refine g_iload_n (t := 5) X dX5_tall_4 1 rfl rfl ?_
  refine g_iald (t := 6) (f := Y 9) X 9 wM_pe (by omega) (by omega) (by omega) dX5_tall_5 rfl ?_
  refine g_iconst (t := 7) X dX5_tall_6 rfl ?_
  refine g_icmp_ne (t := 19) (u := 10) X dX5_tall_7 (by decide) rfl ⟨by omega, by omega⟩ ⟨by omega, by omega⟩ (fun c_7 => ?_) (fun c_7 => ?_)
  · refine g_aload_n (t := 20) X dX5_tall_19 0 rfl rfl ?_
    refine m_getf (t := 23) X 6 (by decide) q4_215 rfl rfl dX5_tall_20 rfl ?_
    refine g_iload_n (t := 24) X dX5_tall_23 1 rfl rfl ?_
    refine g_iald (t := 25) (f := Y 6) X 6 wM_pl (by omega) (by omega) (by omega) dX5_tall_24 rfl ?_
    exact g_iret X r (rv_i (by unfold tallF; split <;> omega)) (Nat.le_of_ble_eq_true rfl) (Nat.le_of_ble_eq_true rfl) dX5_tall_25
  · refine g_aload_n (t := 11) X dX5_tall_10 0 rfl rfl ?_
    refine m_getf (t := 14) X 8 (by decide) q4_217 rfl rfl dX5_tall_11 rfl ?_
    refine g_iload_n (t := 15) X dX5_tall_14 1 rfl rfl ?_
    refine g_iald (t := 16) (f := Y 8) X 8 wM_pn (by omega) (by omega) (by omega) dX5_tall_15 rfl ?_
    refine g_goto (t := 25) X dX5_tall_16 (by decide) ?_
    exact g_iret X r (rv_i (by unfold tallF; split <;> omega)) (Nat.le_of_ble_eq_true rfl) (Nat.le_of_ble_eq_true rfl) dX5_tall_25

set_option maxHeartbeats 4000000 in
set_option maxRecDepth 100000 in
/-- digits(n) -/
theorem c_X5_digits {C : WC} {l : Launch} (hfl : l.stackTraces = false) {ad : Nat → Nat} {Y V : Nat → Int → Int} {W : Int → Int} {th : Int} {R : va_W} {x : Int} (hx : Rg x) : MM C l yX5_digits cX5_digits 2 (some .int) 0 0 0 [.ref (ad 0), vi x] (wM C ad Y V W th ++ R) (rv (vi (dgF x)) (wM C ad Y V W th ++ R)) := by
  refine mm_of (by decide +kernel) (Nat.le_of_ble_eq_true rfl) hfl (fun K Q X r => ?_)
  have X : Cx C l "SpringleafModel" cX5_digits 2 0 0 0 K := X
  obtain ⟨x1, x2⟩ := hx
  show G C K Q 0 0 0 [(0, .ref (ad 0)), (1, vi x)] [] (wM C ad Y V W th ++ R)
  refine g_iload_n (t := 1) X dX5_digits_0 1 rfl rfl ?_
  refine g_bipush (t := 3) (z := 10) X dX5_digits_1 (by decide +kernel) rfl ?_
  refine g_icmp_ge (t := 10) (u := 6) X dX5_digits_3 (by decide) rfl ⟨by omega, by omega⟩ ⟨by omega, by omega⟩ (fun c_3 => ?_) (fun c_3 => ?_)
  · refine g_iconst (t := 11) X dX5_digits_10 rfl ?_
    exact g_iret X r (rv_i (by unfold dgF; split <;> omega)) (Nat.le_of_ble_eq_true rfl) (Nat.le_of_ble_eq_true rfl) dX5_digits_11
  · refine g_iconst (t := 7) X dX5_digits_6 rfl ?_
    refine g_goto (t := 11) X dX5_digits_7 (by decide) ?_
    exact g_iret X r (rv_i (by unfold dgF; split <;> omega)) (Nat.le_of_ble_eq_true rfl) (Nat.le_of_ble_eq_true rfl) dX5_digits_11

set_option maxHeartbeats 4000000 in
set_option maxRecDepth 100000 in
/-- flat(n) -/
theorem c_X5_flat {C : WC} {l : Launch} (hfl : l.stackTraces = false) {ad : Nat → Nat} {Y V : Nat → Int → Int} {W : Int → Int} {th : Int} {R : va_W} {x : Int} (hx : Rg x) : MM C l yX5_flat cX5_flat 2 (some .int) 0 0 0 [.ref (ad 0), vi x] (wM C ad Y V W th ++ R) (rv (vi (abF x)) (wM C ad Y V W th ++ R)) := by
  refine mm_of (by decide +kernel) (Nat.le_of_ble_eq_true rfl) hfl (fun K Q X r => ?_)
  have X : Cx C l "SpringleafModel" cX5_flat 2 0 0 0 K := X
  obtain ⟨x1, x2⟩ := hx
  show G C K Q 0 0 0 [(0, .ref (ad 0)), (1, vi x)] [] (wM C ad Y V W th ++ R)
  refine g_iload_n (t := 1) X dX5_flat_0 1 rfl rfl ?_
  refine g_if_ge (t := 9) (u := 4) X dX5_flat_1 (by decide) rfl ⟨by omega, by omega⟩ (fun c_1 => ?_) (fun c_1 => ?_)
  · refine g_iload_n (t := 10) X dX5_flat_9 1 rfl rfl ?_
    exact g_iret X r (rv_i (by unfold abF; split <;> omega)) (Nat.le_of_ble_eq_true rfl) (Nat.le_of_ble_eq_true rfl) dX5_flat_10
  · refine g_iload_n (t := 5) X dX5_flat_4 1 rfl rfl ?_
    refine g_ineg (t := 6) X dX5_flat_5 rfl ?_
    refine g_goto (t := 10) X dX5_flat_6 (by decide) ?_
    exact g_iret X r (rv_i (by unfold abF; split <;> omega)) (Nat.le_of_ble_eq_true rfl) (Nat.le_of_ble_eq_true rfl) dX5_flat_10

set_option maxHeartbeats 4000000 in
set_option maxRecDepth 100000 in
/-- stepOf(p) -/
theorem c_X5_stepOf {C : WC} {l : Launch} (hfl : l.stackTraces = false) {ad : Nat → Nat} {Y V : Nat → Int → Int} {W : Int → Int} {th : Int} {R : va_W} {p : Int} (hI : MI Y) (p0 : 0 ≤ p) (p1 : p < Y 10 0) : MM C l yX5_stepOf cX5_stepOf 4 (some .int) 0 0 0 [.ref (ad 0), vi p] (wM C ad Y V W th ++ R) (rv (vi (stepF Y p)) (wM C ad Y V W th ++ R)) := by
  refine mm_of (by decide +kernel) (Nat.le_of_ble_eq_true rfl) hfl (fun K Q X r => ?_)
  have X : Cx C l "SpringleafModel" cX5_stepOf 4 0 0 0 K := X
  have I3 := hI.1
  have I10 := hI.2.2.1
  have I12 := hI.2.2.2.2.1
  have loop : ∀ (n : Nat) (k fo : Int), 0 ≤ k → k ≤ Y 12 0 → Y 12 0 - k < n → fo = stp (Y 11) p k.toNat → G C K Q 0 0 4 [(0, .ref (ad 0)), (1, vi p), (2, vi fo), (3, vi k)] [] (wM C ad Y V W th ++ R) := by
    intro n
    induction n with
    | zero => intro k fo h0 h1 h2; exact absurd h2 (by omega)
    | succ n ih =>
      intro k fo h0 h1 h2 ef
      have hs := stp_rng (Y 11) p k.toNat
      have e1 : (k + 1).toNat = k.toNat + 1 := by omega
      have e2 : Y 11 (k.toNat : Int) = Y 11 k := by rw [Int.toNat_of_nonneg h0]
      refine g_iload_n (t := 5) X dX5_stepOf_4 3 rfl rfl ?_
      refine g_aload_n (t := 6) X dX5_stepOf_5 0 rfl rfl ?_
      refine m_getf (t := 9) X 12 (by decide) q4_221 rfl rfl dX5_stepOf_6 rfl ?_
      refine g_icmp_ge (t := 34) (u := 12) X dX5_stepOf_9 (by decide) rfl ⟨by omega, by omega⟩ ⟨by omega, by omega⟩ (fun c_9 => ?_) (fun c_9 => ?_)
      · refine g_iload_n (t := 35) X dX5_stepOf_34 2 rfl rfl ?_
        exact g_iret X r (rv_i (by rw [ef]; unfold stepF; congr 1; omega)) (Nat.le_of_ble_eq_true rfl) (Nat.le_of_ble_eq_true rfl) dX5_stepOf_35
      · have ho := hI.2.2.2.2.2.1 k h0 (by omega)
        refine g_aload_n (t := 13) X dX5_stepOf_12 0 rfl rfl ?_
        refine m_getf (t := 16) X 11 (by decide) q4_220 rfl rfl dX5_stepOf_13 rfl ?_
        refine g_iload_n (t := 17) X dX5_stepOf_16 3 rfl rfl ?_
        refine g_iald (t := 18) (f := Y 11) X 10 wM_order (by omega) (by omega) (by omega) dX5_stepOf_17 rfl ?_
        refine g_iload_n (t := 19) X dX5_stepOf_18 1 rfl rfl ?_
        refine g_icmp_ne (t := 26) (u := 22) X dX5_stepOf_19 (by decide) rfl ⟨by omega, by omega⟩ ⟨by omega, by omega⟩ (fun c_19 => ?_) (fun c_19 => ?_)
        · refine g_iload_n (t := 27) X dX5_stepOf_26 2 rfl rfl ?_
          refine g_istore_n (t := 28) (lv1 := [(2, vi fo), (0, .ref (ad 0)), (1, vi p), (3, vi k)]) X dX5_stepOf_27 (by decide) rfl rfl ?_
          refine g_iinc (t := 31) (lv1 := [(3, vi (k + 1)), (2, vi fo), (0, .ref (ad 0)), (1, vi p)]) X dX5_stepOf_28 3 rfl (by decide) rfl rfl ?_
          refine g_goto (t := 4) X dX5_stepOf_31 (by decide) ?_
          exact g_lv (ih (k + 1) (fo) (by omega) (by omega) (by omega) (by rw [e1]; simp only [stp]; first | rw [if_pos (by rw [e2]; omega)]; omega | rw [if_neg (by rw [e2]; omega)]; exact ef)) [2, 3, 1, 0] rfl
        · refine g_iload_n (t := 23) X dX5_stepOf_22 3 rfl rfl ?_
          refine g_goto (t := 27) X dX5_stepOf_23 (by decide) ?_
          refine g_istore_n (t := 28) (lv1 := [(2, vi k), (0, .ref (ad 0)), (1, vi p), (3, vi k)]) X dX5_stepOf_27 (by decide) rfl rfl ?_
          refine g_iinc (t := 31) (lv1 := [(3, vi (k + 1)), (2, vi k), (0, .ref (ad 0)), (1, vi p)]) X dX5_stepOf_28 3 rfl (by decide) rfl rfl ?_
          refine g_goto (t := 4) X dX5_stepOf_31 (by decide) ?_
          exact g_lv (ih (k + 1) (k) (by omega) (by omega) (by omega) (by rw [e1]; simp only [stp]; first | rw [if_pos (by rw [e2]; omega)]; omega | rw [if_neg (by rw [e2]; omega)]; exact ef)) [2, 3, 1, 0] rfl
  show G C K Q 0 0 0 [(0, .ref (ad 0)), (1, vi p)] [] (wM C ad Y V W th ++ R)
  refine g_iconst (t := 1) X dX5_stepOf_0 rfl ?_
  refine g_istore_n (t := 2) (lv1 := [(2, vi (-1)), (0, .ref (ad 0)), (1, vi p)]) X dX5_stepOf_1 (by decide) rfl rfl ?_
  refine g_iconst (t := 3) X dX5_stepOf_2 rfl ?_
  refine g_istore_n (t := 4) (lv1 := [(3, vi 0), (2, vi (-1)), (0, .ref (ad 0)), (1, vi p)]) X dX5_stepOf_3 (by decide) rfl rfl ?_
  exact g_lv (loop ((Y 12 0).toNat + 1) 0 (-1) (by omega) (by omega) (by omega) rfl) [2, 3, 1, 0] rfl

theorem chn_next {on : Int → Int} {N f : Int} (hon : ∀ g, 1 ≤ g → g < N → 0 ≤ on g ∧ on g < g) : ∀ m : Nat, (∀ i : Nat, i < m → 1 ≤ chn on f i) → 0 ≤ f → f < N → 0 ≤ chn on f m ∧ chn on f m + m ≤ f := by
  intro m
  induction m with
  | zero => intro _ h0 _; simp [chn]; exact h0
  | succ m ih =>
    intro h h0 hN
    have h1 := ih (fun i hi => h i (by omega)) h0 hN
    have h2 := h m (by omega)
    have h3 := hon (chn on f m) h2 (by omega)
    simp only [chn]
    omega
set_option maxHeartbeats 4000000 in
set_option maxRecDepth 100000 in
/-- angleOf(f, open) -/
theorem c_X5_angleOf {C : WC} {l : Launch} (hfl : l.stackTraces = false) {ad : Nat → Nat} {Y V : Nat → Int → Int} {W : Int → Int} {th : Int} {R : va_W} {f o : Int} (hI : MI Y) (f0 : 0 ≤ f) (f1 : f < Y 3 0) (o0 : 0 ≤ o) (o1 : o ≤ 180) : MM C l yX5_angleOf cX5_angleOf 6 (some .int) 1 0 0 [.ref (ad 0), vi f, vi o] (wM C ad Y V W th ++ R) (rq (vi (angF Y f o)) (fun W => wM C ad Y V W th ++ R)) := by
  refine mm_of (by decide +kernel) (Nat.le_of_ble_eq_true rfl) hfl (fun K Q X r => ?_)
  have X : Cx C l "SpringleafModel" cX5_angleOf 6 1 0 0 K := X
  have hon : ∀ g, 1 ≤ g → g < Y 3 0 → 0 ≤ Y 0 g ∧ Y 0 g < g := fun g g1 g2 => ⟨(hI.2.1 g g1 g2).1, (hI.2.1 g g1 g2).2.1⟩
  have I3 := hI.1
  have I10 := hI.2.2.1
  have I12 := hI.2.2.2.2.1
  have L2 : ∀ (m : Nat) (W : Int → Int), (∀ i : Nat, i < m → W i = chn (Y 0) f i ∧ 1 ≤ chn (Y 0) f i ∧ chn (Y 0) f i < Y 3 0) → m ≤ 11 → ∀ (n : Nat) (j its : Int), j = (n : Int) - 1 → n ≤ m → its = angF Y (chn (Y 0) f n) o → G C K Q 0 0 41 [(0, .ref (ad 0)), (4, vi its), (5, vi j)] [] (wM C ad Y V W th ++ R) := by
    intro m W hW hm11 n
    induction n with
    | zero =>
      intro j its ej hnm eits
      have hr := angF_rng Y o0 o1 (chn (Y 0) f 0)
      refine g_iload (t := 43) X dX5_angleOf_41 2 rfl rfl ?_
      refine g_if_lt (t := 114) (u := 46) X dX5_angleOf_43 (by decide) rfl ⟨by omega, by omega⟩ (fun c_43 => ?_) (fun c_43 => absurd (show j < 0 by omega) c_43)
      refine g_iload (t := 116) X dX5_angleOf_114 1 rfl rfl ?_
      exact g_iret X r (rq_i W (by rw [eits]; rfl) rfl) (Nat.le_of_ble_eq_true rfl) (Nat.le_of_ble_eq_true rfl) dX5_angleOf_116
    | succ n ih =>
      intro j its ej hnm eits
      have hj : W j = chn (Y 0) f n := by rw [show j = (n : Int) by omega]; exact (hW n (by omega)).1
      have hb := (hW n (by omega)).2
      have hr := angF_rng Y o0 o1 (chn (Y 0) f (n + 1))
      have hf := hI.2.1 (W j) (by omega) (by omega)
      have hm := mul_rng (a := its) (b := Y 1 (W j)) (A := 180) (B := 8) (by omega) (by omega) (by omega) (by omega)
      have key : angF Y (chn (Y 0) f n) o = clp (its * Y 1 (W j) / 4 + Y 2 (W j)) := by
        rw [angF_step hI o hb.1 hb.2, eits, hj]; rfl
      refine g_iload (t := 43) X dX5_angleOf_41 2 rfl rfl ?_
      refine g_if_lt (t := 114) (u := 46) X dX5_angleOf_43 (by decide) rfl ⟨by omega, by omega⟩ (fun c_43 => absurd c_43 (by omega)) (fun c_43 => ?_)
      refine g_aload_n (t := 47) X dX5_angleOf_46 0 rfl rfl ?_
      refine g_iload (t := 49) X dX5_angleOf_47 1 rfl rfl ?_
      refine g_aload_n (t := 50) X dX5_angleOf_49 0 rfl rfl ?_
      refine m_getf (t := 53) X 1 (by decide) q4_210 rfl rfl dX5_angleOf_50 rfl ?_
      refine g_aload_n (t := 54) X dX5_angleOf_53 0 rfl rfl ?_
      refine m_getf (t := 57) X 23 (by decide) q4_232 rfl rfl dX5_angleOf_54 rfl ?_
      refine g_iload (t := 59) X dX5_angleOf_57 2 rfl rfl ?_
      refine g_iald (t := 60) (f := W) X 19 wM_way (by omega) (by omega) (by omega) dX5_angleOf_59 rfl ?_
      refine g_iald (t := 61) (f := Y 1) X 2 wM_fl (by omega) (by omega) (by omega) dX5_angleOf_60 rfl ?_
      refine g_imul (t := 62) X dX5_angleOf_61 rfl ?_
      refine g_iconst (t := 63) X dX5_angleOf_62 rfl ?_
      refine g_callV (t := 66) (mc := 0) (ms := 0) (rest := []) X mt_X5_down q5_82 q5_84 qs_27 0 wM_0 rfl (c_X5_down hfl hm.1 (by omega)) (by decide) (by decide) (by decide) (Nat.le_of_ble_eq_true rfl) rfl rfl dX5_angleOf_63 rfl (k_rv ?_)
      refine g_aload_n (t := 67) X dX5_angleOf_66 0 rfl rfl ?_
      refine m_getf (t := 70) X 2 (by decide) q4_211 rfl rfl dX5_angleOf_67 rfl ?_
      refine g_aload_n (t := 71) X dX5_angleOf_70 0 rfl rfl ?_
      refine m_getf (t := 74) X 23 (by decide) q4_232 rfl rfl dX5_angleOf_71 rfl ?_
      refine g_iload (t := 76) X dX5_angleOf_74 2 rfl rfl ?_
      refine g_iald (t := 77) (f := W) X 19 wM_way (by omega) (by omega) (by omega) dX5_angleOf_76 rfl ?_
      refine g_iald (t := 78) (f := Y 2) X 3 wM_fn (by omega) (by omega) (by omega) dX5_angleOf_77 rfl ?_
      refine g_iadd (t := 79) X dX5_angleOf_78 rfl ?_
      refine g_istore (t := 81) (lv1 := [(4, vi (((its * ((Y 1) (W j))) / 4) + ((Y 2) (W j)))), (0, .ref (ad 0)), (5, vi j)]) X dX5_angleOf_79 (by decide) rfl rfl ?_
      refine g_iload (t := 83) X dX5_angleOf_81 0 rfl rfl ?_
      refine g_if_ge (t := 90) (u := 86) X dX5_angleOf_83 (by decide) rfl ⟨by omega, by omega⟩ (fun c_83 => ?_) (fun c_83 => ?_)
      · refine g_iload (t := 92) X dX5_angleOf_90 0 rfl rfl ?_
        refine g_sipush (t := 95) (z := 180) X dX5_angleOf_92 (by decide +kernel) rfl ?_
        refine g_icmp_le (t := 104) (u := 98) X dX5_angleOf_95 (by decide) rfl ⟨by omega, by omega⟩ ⟨by omega, by omega⟩ (fun c_95 => ?_) (fun c_95 => ?_)
        · refine g_iload (t := 106) X dX5_angleOf_104 0 rfl rfl ?_
          refine g_istore (t := 108) (lv1 := [(4, vi (((its * ((Y 1) (W j))) / 4) + ((Y 2) (W j)))), (0, .ref (ad 0)), (5, vi j)]) X dX5_angleOf_106 (by decide) rfl rfl ?_
          refine g_iinc (t := 111) (lv1 := [(5, vi (j + (-1))), (4, vi (((its * ((Y 1) (W j))) / 4) + ((Y 2) (W j)))), (0, .ref (ad 0))]) X dX5_angleOf_108 2 rfl (by decide) rfl rfl ?_
          refine g_goto (t := 41) X dX5_angleOf_111 (by decide) ?_
          exact g_lv (ih (j + (-1)) (((its * ((Y 1) (W j))) / 4) + ((Y 2) (W j))) (by omega) (by omega) (by rw [key]; unfold clp; (repeat' split) <;> omega)) [2, 1, 0] rfl
        · refine g_sipush (t := 101) (z := 180) X dX5_angleOf_98 (by decide +kernel) rfl ?_
          refine g_goto (t := 106) X dX5_angleOf_101 (by decide) ?_
          refine g_istore (t := 108) (lv1 := [(4, vi 180), (0, .ref (ad 0)), (5, vi j)]) X dX5_angleOf_106 (by decide) rfl rfl ?_
          refine g_iinc (t := 111) (lv1 := [(5, vi (j + (-1))), (4, vi 180), (0, .ref (ad 0))]) X dX5_angleOf_108 2 rfl (by decide) rfl rfl ?_
          refine g_goto (t := 41) X dX5_angleOf_111 (by decide) ?_
          exact g_lv (ih (j + (-1)) (180) (by omega) (by omega) (by rw [key]; unfold clp; (repeat' split) <;> omega)) [2, 1, 0] rfl
      · refine g_iconst (t := 87) X dX5_angleOf_86 rfl ?_
        refine g_goto (t := 106) X dX5_angleOf_87 (by decide) ?_
        refine g_istore (t := 108) (lv1 := [(4, vi 0), (0, .ref (ad 0)), (5, vi j)]) X dX5_angleOf_106 (by decide) rfl rfl ?_
        refine g_iinc (t := 111) (lv1 := [(5, vi (j + (-1))), (4, vi 0), (0, .ref (ad 0))]) X dX5_angleOf_108 2 rfl (by decide) rfl rfl ?_
        refine g_goto (t := 41) X dX5_angleOf_111 (by decide) ?_
        exact g_lv (ih (j + (-1)) (0) (by omega) (by omega) (by rw [key]; unfold clp; (repeat' split) <;> omega)) [2, 1, 0] rfl
  have L1 : ∀ (n m9 : Nat) (W : Int → Int) (m k : Int), m = (m9 : Int) → k < n → k = chn (Y 0) f m9 → (∀ i : Nat, i < m9 → W i = chn (Y 0) f i ∧ 1 ≤ chn (Y 0) f i ∧ chn (Y 0) f i < Y 3 0) → True → G C K Q 0 0 5 [(0, .ref (ad 0)), (2, vi o), (3, vi m), (4, vi k)] [] (wM C ad Y V W th ++ R) := by
    intro n
    induction n with
    | zero =>
      intro m9 W m k em hn ek hW _
      have hc := chn_next hon m9 (fun i hi => (hW i hi).2.1) f0 f1
      exact absurd hn (by omega)
    | succ n ih =>
      intro m9 W m k em hn ek hW _
      have hc := chn_next hon m9 (fun i hi => (hW i hi).2.1) f0 f1
      rw [← ek] at hc
      refine g_iload (t := 7) X dX5_angleOf_5 3 rfl rfl ?_
      refine g_if_le (t := 33) (u := 10) X dX5_angleOf_7 (by decide) rfl ⟨by omega, by omega⟩ (fun c_7 => ?_) (fun c_7 => ?_)
      · refine g_iload_n (t := 34) X dX5_angleOf_33 1 rfl rfl ?_
        refine g_istore (t := 36) (lv1 := [(4, vi o), (0, .ref (ad 0)), (2, vi o), (3, vi m)]) X dX5_angleOf_34 (by decide) rfl rfl ?_
        refine g_iload_n (t := 37) X dX5_angleOf_36 3 rfl rfl ?_
        refine g_iconst (t := 38) X dX5_angleOf_37 rfl ?_
        refine g_isub (t := 39) X dX5_angleOf_38 rfl ?_
        refine g_istore (t := 41) (lv1 := [(5, vi (m - 1)), (4, vi o), (0, .ref (ad 0)), (2, vi o), (3, vi m)]) X dX5_angleOf_39 (by decide) rfl rfl ?_
        exact g_lv (L2 m9 W (fun i hi => ⟨(hW i hi).1, (hW i hi).2.1, (hW i hi).2.2⟩) (by omega) m9 (m - 1) o (by omega) (Nat.le_refl _) (by rw [← ek]; exact (angF_0 o c_7).symm)) [2, 1, 0] rfl
      · have hk3 := hon k (by omega) (by omega)
        have hW9 : ∀ i : Nat, i < m9 + 1 → (uI W m k) i = chn (Y 0) f i ∧ 1 ≤ chn (Y 0) f i ∧ chn (Y 0) f i < Y 3 0 := by
          intro i hi
          unfold uI
          by_cases e9 : i = m9
          · subst e9
            rw [if_pos em.symm, ← ek]
            exact ⟨rfl, by omega, by omega⟩
          · rw [if_neg (by omega)]
            exact hW i (by omega)
        refine g_aload_n (t := 11) X dX5_angleOf_10 0 rfl rfl ?_
        refine m_getf (t := 14) X 23 (by decide) q4_232 rfl rfl dX5_angleOf_11 rfl ?_
        refine g_iload_n (t := 15) X dX5_angleOf_14 2 rfl rfl ?_
        refine g_iload (t := 17) X dX5_angleOf_15 3 rfl rfl ?_
        refine g_iast (t := 18) (f := W) X 19 wM_way (by omega) (by omega) (by omega) wM_s_way dX5_angleOf_17 rfl ?_
        refine g_iinc (t := 21) (lv1 := [(3, vi (m + 1)), (0, .ref (ad 0)), (2, vi o), (4, vi k)]) X dX5_angleOf_18 2 rfl (by decide) rfl rfl ?_
        refine g_aload_n (t := 22) X dX5_angleOf_21 1 rfl rfl ?_
        refine m_getf (t := 25) X 0 (by decide) q4_209 rfl rfl dX5_angleOf_22 rfl ?_
        refine g_iload (t := 27) X dX5_angleOf_25 3 rfl rfl ?_
        refine g_iald (t := 28) (f := Y 0) X 1 wM_fo (by omega) (by omega) (by omega) dX5_angleOf_27 rfl ?_
        refine g_istore (t := 30) (lv1 := [(4, vi ((Y 0) k)), (3, vi (m + 1)), (0, .ref (ad 0)), (2, vi o)]) X dX5_angleOf_28 (by decide) rfl rfl ?_
        refine g_goto (t := 5) X dX5_angleOf_30 (by decide) ?_
        exact g_lv (ih (m9 + 1) (uI W m k) (m + 1) ((Y 0) k) (by omega) (by omega) (by rw [ek]; rfl) (fun i hi => hW9 i hi) trivial) [2, 3, 1, 0] rfl
  show G C K Q 0 0 0 [(0, .ref (ad 0)), (1, vi f), (2, vi o)] [] (wM C ad Y V W th ++ R)
  refine g_iconst (t := 1) X dX5_angleOf_0 rfl ?_
  refine g_istore_n (t := 2) (lv1 := [(3, vi 0), (0, .ref (ad 0)), (1, vi f), (2, vi o)]) X dX5_angleOf_1 (by decide) rfl rfl ?_
  refine g_iload_n (t := 3) X dX5_angleOf_2 2 rfl rfl ?_
  refine g_istore (t := 5) (lv1 := [(4, vi f), (3, vi 0), (0, .ref (ad 0)), (1, vi f), (2, vi o)]) X dX5_angleOf_3 (by decide) rfl rfl ?_
  exact g_lv (L1 ((f + 1).toNat) 0 W 0 f rfl (by omega) rfl (fun i hi => absurd hi (Nat.not_lt_zero i)) trivial) [2, 4, 1, 0] rfl
