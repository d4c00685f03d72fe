/-! what the page's numbers mean, out of the rows Y: 0 on, 1 pull, 2 lean, 3 how many folds, 4 a part's fold, 5 place, 6 length, 7 line, 8 lines, 9 eases, 10 how many parts, 11 the order of gluing, 12 how many are glued -/
def clp (z : Int) : Int := if z < 0 then 0 else if 180 < z then 180 else z
theorem clp_rng (z : Int) : 0 ≤ clp z ∧ clp z ≤ 180 := by
  unfold clp
  split
  · omega
  · split <;> omega
def ang (on pull lean : Int → Int) : Nat → Int → Int → Int
  | 0, _, o => o
  | n + 1, f, o => if f ≤ 0 then o else clp (ang on pull lean n (on f) o * pull f / 4 + lean f)
def angF (Y : Nat → Int → Int) (f o : Int) : Int := ang (Y 0) (Y 1) (Y 2) 12 f o
theorem ang_fuel {on pull lean : Int → Int} {N : Int} (hon : ∀ f, 1 ≤ f → f < N → 0 ≤ on f ∧ on f < f) : ∀ (n m : Nat) (f o : Int), f < N → f ≤ n → f ≤ m → ang on pull lean n f o = ang on pull lean m f o := by
  intro n
  induction n with
  | zero =>
    intro m f o hN h1 h2
    cases m with
    | zero => rfl
    | succ m =>
      simp only [ang]
      rw [if_pos (by omega)]
  | succ n ih =>
    intro m f o hN h1 h2
    cases m with
    | zero =>
      simp only [ang]
      rw [if_pos (by omega)]
    | succ m =>
      simp only [ang]
      by_cases h : f ≤ 0
      · rw [if_pos h, if_pos h]
      · rw [if_neg h, if_neg h]
        have := hon f (by omega) hN
        rw [ih m (on f) o (by omega) (by omega) (by omega)]
theorem ang_rng {on pull lean : Int → Int} {o : Int} (h0 : 0 ≤ o) (h1 : o ≤ 180) (n : Nat) (f : Int) : 0 ≤ ang on pull lean n f o ∧ ang on pull lean n f o ≤ 180 := by
  cases n with
  | zero => exact ⟨h0, h1⟩
  | succ n =>
    simp only [ang]
    split
    · exact ⟨h0, h1⟩
    · exact clp_rng _
theorem angF_rng (Y : Nat → Int → Int) {o : Int} (h0 : 0 ≤ o) (h1 : o ≤ 180) (f : Int) : 0 ≤ angF Y f o ∧ angF Y f o ≤ 180 := ang_rng h0 h1 12 f
/-- what holds of the rows at all times -/
def MI (Y : Nat → Int → Int) : Prop :=
  (1 ≤ Y 3 0 ∧ Y 3 0 ≤ 12) ∧ (∀ f, 1 ≤ f → f < Y 3 0 → 0 ≤ Y 0 f ∧ Y 0 f < f ∧ 1 ≤ Y 1 f ∧ Y 1 f ≤ 8 ∧ -90 ≤ Y 2 f ∧ Y 2 f ≤ 90) ∧
  (0 ≤ Y 10 0 ∧ Y 10 0 ≤ 16) ∧ (∀ p, 0 ≤ p → p < Y 10 0 → (0 ≤ Y 4 p ∧ Y 4 p < Y 3 0) ∧ (0 ≤ Y 5 p ∧ Y 5 p ≤ 60) ∧ (1 ≤ Y 6 p ∧ Y 6 p ≤ 30) ∧ (0 ≤ Y 7 p ∧ Y 7 p ≤ 20) ∧ (1 ≤ Y 8 p ∧ Y 8 p ≤ 10) ∧ (Y 9 p = 0 ∨ Y 9 p = 1)) ∧
  (0 ≤ Y 12 0 ∧ Y 12 0 ≤ Y 10 0) ∧ (∀ k, 0 ≤ k → k < Y 12 0 → 0 ≤ Y 11 k ∧ Y 11 k < Y 10 0) ∧ (∀ i j, 0 ≤ i → i < j → j < Y 12 0 → Y 11 i ≠ Y 11 j) ∧ Y 0 0 = 0
/-- the same page -/
def Ag (P Y : Nat → Int → Int) : Prop := ∀ k : Nat, k ≤ 12 → Y k = P k
theorem Ag.mi {P Y : Nat → Int → Int} (h : Ag P Y) (hP : MI P) : MI Y := by
  unfold MI at *
  rw [h 0 (by omega), h 1 (by omega), h 2 (by omega), h 3 (by omega), h 4 (by omega), h 5 (by omega), h 6 (by omega), h 7 (by omega), h 8 (by omega), h 9 (by omega), h 10 (by omega), h 11 (by omega), h 12 (by omega)]
  exact hP
theorem angF_ag {P Y : Nat → Int → Int} (h : Ag P Y) (f o : Int) : angF Y f o = angF P f o := by
  unfold angF
  rw [h 0 (by omega), h 1 (by omega), h 2 (by omega)]
theorem angF_step {Y : Nat → Int → Int} (h : MI Y) {f : Int} (o : Int) (h1 : 1 ≤ f) (h2 : f < Y 3 0) : angF Y f o = clp (angF Y (Y 0 f) o * Y 1 f / 4 + Y 2 f) := by
  obtain ⟨hn, hf, -⟩ := h
  have hs : angF Y f o = clp (ang (Y 0) (Y 1) (Y 2) 11 (Y 0 f) o * Y 1 f / 4 + Y 2 f) := by
    show ang (Y 0) (Y 1) (Y 2) (11 + 1) f o = _
    simp only [ang]
    rw [if_neg (by omega)]
  have hb := hf f h1 h2
  rw [hs, ang_fuel (N := Y 3 0) (fun g g1 g2 => ⟨(hf g g1 g2).1, (hf g g1 g2).2.1⟩) 11 12 (Y 0 f) o (by omega) (by omega) (by omega)]
  rfl
theorem angF_0 {Y : Nat → Int → Int} {f : Int} (o : Int) (h : f ≤ 0) : angF Y f o = o := by
  show ang (Y 0) (Y 1) (Y 2) (11 + 1) f o = _
  simp only [ang]
  rw [if_pos h]
theorem mul_rng {a b A B : Int} (h0 : 0 ≤ a) (h1 : a ≤ A) (h2 : 0 ≤ b) (h3 : b ≤ B) : 0 ≤ a * b ∧ a * b ≤ A * B :=
  ⟨Int.mul_nonneg h0 h2, Int.mul_le_mul h1 h3 h2 (by omega)⟩
def mn (a b : Int) : Int := if a < b then a else b
def riseF (Y : Nat → Int → Int) (p o : Int) : Int := Y 6 p * mn (angF Y (Y 4 p) o) (180 - angF Y (Y 4 p) o) / 90
def reachF (Y : Nat → Int → Int) (p o : Int) : Int := Y 5 p + (Y 6 p * (90 - angF Y (Y 4 p) o)).tdiv 90
def lowF (Y : Nat → Int → Int) (p o : Int) : Int := if reachF Y p o < Y 5 p then reachF Y p o else Y 5 p
def highF (Y : Nat → Int → Int) (p o : Int) : Int := if Y 5 p < reachF Y p o then reachF Y p o else Y 5 p
def shareF (Y : Nat → Int → Int) (p q : Int) : Prop := Y 7 p ≤ Y 7 q + Y 8 q - 1 ∧ Y 7 q ≤ Y 7 p + Y 8 p - 1
def meetF (Y : Nat → Int → Int) (p q o : Int) : Prop := p ≠ q ∧ shareF Y p q ∧ 0 < riseF Y p o ∧ 0 < riseF Y q o ∧ riseF Y p o - riseF Y q o < 2 ∧ riseF Y q o - riseF Y p o < 2 ∧ lowF Y p o ≤ highF Y q o ∧ lowF Y q o ≤ highF Y p o
theorem tdiv_90 {x : Int} (h0 : -2700 ≤ x) (h1 : x ≤ 2700) : -30 ≤ x.tdiv 90 ∧ x.tdiv 90 ≤ 30 := by
  rcases Int.le_total 0 x with h | h
  · rw [Int.tdiv_eq_ediv_of_nonneg h]
    omega
  · have e : x.tdiv 90 = -((-x).tdiv 90) := by rw [Int.neg_tdiv, Int.neg_neg]
    rw [e, Int.tdiv_eq_ediv_of_nonneg (by omega)]
    omega
theorem mul_sym {a b A B : Int} (h0 : 0 ≤ a) (h1 : a ≤ A) (h2 : -B ≤ b) (h3 : b ≤ B) : -(A * B) ≤ a * b ∧ a * b ≤ A * B := by
  have hB : 0 ≤ B := by omega
  rcases Int.le_total 0 b with h | h
  · have := mul_rng h0 h1 h h3
    omega
  · have := mul_rng h0 h1 (b := -b) (B := B) (by omega) (by omega)
    rw [Int.mul_neg] at this
    omega
theorem mn_rng {g : Int} (h0 : 0 ≤ g) (h1 : g ≤ 180) : 0 ≤ mn g (180 - g) ∧ mn g (180 - g) ≤ 90 := by
  unfold mn
  split <;> omega
theorem rise_mul {Y : Nat → Int → Int} (h : MI Y) {p o : Int} (p0 : 0 ≤ p) (p1 : p < Y 10 0) (o0 : 0 ≤ o) (o1 : o ≤ 180) : 0 ≤ Y 6 p * mn (angF Y (Y 4 p) o) (180 - angF Y (Y 4 p) o) ∧ Y 6 p * mn (angF Y (Y 4 p) o) (180 - angF Y (Y 4 p) o) ≤ 2700 := by
  obtain ⟨-, -, -, hp, -⟩ := h
  have h1 := hp p p0 p1
  have h2 := angF_rng Y o0 o1 (Y 4 p)
  have h3 := mn_rng h2.1 h2.2
  have := mul_rng (A := 30) (B := 90) (by omega) h1.2.2.1.2 h3.1 h3.2
  omega
theorem rise_rng {Y : Nat → Int → Int} (h : MI Y) {p o : Int} (p0 : 0 ≤ p) (p1 : p < Y 10 0) (o0 : 0 ≤ o) (o1 : o ≤ 180) : 0 ≤ riseF Y p o ∧ riseF Y p o ≤ 30 := by
  have := rise_mul h p0 p1 o0 o1
  unfold riseF
  omega
theorem reach_mul {Y : Nat → Int → Int} (h : MI Y) {p o : Int} (p0 : 0 ≤ p) (p1 : p < Y 10 0) (o0 : 0 ≤ o) (o1 : o ≤ 180) : -2700 ≤ Y 6 p * (90 - angF Y (Y 4 p) o) ∧ Y 6 p * (90 - angF Y (Y 4 p) o) ≤ 2700 := by
  obtain ⟨-, -, -, hp, -⟩ := h
  have h1 := hp p p0 p1
  have h2 := angF_rng Y o0 o1 (Y 4 p)
  have := mul_sym (A := 30) (B := 90) (b := 90 - angF Y (Y 4 p) o) (by omega) h1.2.2.1.2 (by omega) (by omega)
  omega
theorem reach_rng {Y : Nat → Int → Int} (h : MI Y) {p o : Int} (p0 : 0 ≤ p) (p1 : p < Y 10 0) (o0 : 0 ≤ o) (o1 : o ≤ 180) : -30 ≤ reachF Y p o ∧ reachF Y p o ≤ 90 := by
  have h9 := reach_mul h p0 p1 o0 o1
  have := tdiv_90 h9.1 h9.2
  obtain ⟨-, -, -, hp, -⟩ := h
  have h1 := hp p p0 p1
  unfold reachF
  omega
theorem low_rng {Y : Nat → Int → Int} (h : MI Y) {p o : Int} (p0 : 0 ≤ p) (p1 : p < Y 10 0) (o0 : 0 ≤ o) (o1 : o ≤ 180) : -30 ≤ lowF Y p o ∧ lowF Y p o ≤ 90 := by
  have h9 := reach_rng h p0 p1 o0 o1
  obtain ⟨-, -, -, hp, -⟩ := h
  have h1 := hp p p0 p1
  unfold lowF
  split <;> omega
theorem high_rng {Y : Nat → Int → Int} (h : MI Y) {p o : Int} (p0 : 0 ≤ p) (p1 : p < Y 10 0) (o0 : 0 ≤ o) (o1 : o ≤ 180) : -30 ≤ highF Y p o ∧ highF Y p o ≤ 90 := by
  have h9 := reach_rng h p0 p1 o0 o1
  obtain ⟨-, -, -, hp, -⟩ := h
  have h1 := hp p p0 p1
  unfold highF
  split <;> omega
/-! answers of contracts -/
def rv (x : Value) (w0 : va_W) : Option Value → va_W → Prop := fun v w => v = some x ∧ w = w0
def rn (w0 : va_W) : Option Value → va_W → Prop := fun v w => v = none ∧ w = w0
def rb (P : Prop) (w0 : va_W) : Option Value → va_W → Prop := fun v w => w = w0 ∧ ((P ∧ v = some (vi 1)) ∨ (¬ P ∧ v = some (vi 0)))
theorem rv_i {z z0 : Int} {w0 : va_W} (h : z = z0) : rv (vi z0) w0 (some (vi z)) w0 := ⟨by rw [h], rfl⟩
theorem rn_i {w0 : va_W} : rn w0 none w0 := ⟨rfl, rfl⟩
theorem rb_t {P : Prop} {w0 : va_W} (h : P) : rb P w0 (some (vi 1)) w0 := ⟨rfl, Or.inl ⟨h, rfl⟩⟩
theorem rb_f {P : Prop} {w0 : va_W} (h : ¬ P) : rb P w0 (some (vi 0)) w0 := ⟨rfl, Or.inr ⟨h, rfl⟩⟩
section GK9
variable {C : WC} {K : GK} {Q : State → Prop} {cells slots t : Nat} {lv : List (Nat × Value)} {rest : List Value} {w0 : va_W}
theorem k_rv {x : Value} (h : G C K Q cells slots t lv (x :: rest) w0) : ∀ (v : Option Value) (ws1 : va_W), rv x w0 v ws1 → G C K Q cells slots t lv (v.toList ++ rest) ws1 := by
  rintro _ _ ⟨rfl, rfl⟩; exact h
theorem k_rn (h : G C K Q cells slots t lv rest w0) : ∀ (v : Option Value) (ws1 : va_W), rn w0 v ws1 → G C K Q cells slots t lv (v.toList ++ rest) ws1 := by
  rintro _ _ ⟨rfl, rfl⟩; exact h
theorem k_rb {P : Prop} (h1 : P → G C K Q cells slots t lv (vi 1 :: rest) w0) (h2 : ¬ P → G C K Q cells slots t lv (vi 0 :: rest) w0) : ∀ (v : Option Value) (ws1 : va_W), rb P w0 v ws1 → G C K Q cells slots t lv (v.toList ++ rest) ws1 := by
  rintro _ _ ⟨rfl, ⟨hp, rfl⟩ | ⟨hp, rfl⟩⟩
  · exact h1 hp
  · exact h2 hp
theorem g_lv {lv1 : List (Nat × Value)} {pc : Nat} {st : List Value} {ws : va_W} (h : G C K Q cells slots pc lv1 st ws) (ks : List Nat) (hl : lv_pick lv ks = lv1) : G C K Q cells slots pc lv st ws := by
  obtain ⟨p, l, e, R, s, m, args, below, meth, c, nL⟩ := K
  intro H locs ls hP hD hS hl9
  exact h H locs ls hP hD hS (lv_sub hl9 ks hl)
theorem g_cs {c1 s1 pc : Nat} {st : List Value} {ws : va_W} (h : G C K Q c1 s1 pc lv st ws) (hc : cells ≤ c1) (hs : slots ≤ s1) : G C K Q cells slots pc lv st ws := by
  obtain ⟨p, l, e, R, s, m, args, below, meth, c, nL⟩ := K
  intro H locs ls hP hD hS hl9
  exact W.widen hc hs (h H locs ls hP hD hS hl9)
end GK9
