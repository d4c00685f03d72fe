/-! what the parts hold of the shelves: S 4 sheet, 5 left, 6 top, 7 the height of the shelf that it began (0: none), 8 how far that is filled; S 9 0 how many sheets -/
def fh (S : Nat → Int → Int) (s : Int) : Nat → Int
  | 0 => 0
  | n + 1 => fh S s n + (if S 4 n = s then S 7 n else 0)
theorem fh_rng {S : Nat → Int → Int} (s : Int) : ∀ n : Nat, (∀ p : Int, 0 ≤ p → p < n → 0 ≤ S 7 p ∧ S 7 p ≤ 30) → 0 ≤ fh S s n ∧ fh S s n ≤ 30 * n := by
  intro n
  induction n with
  | zero => intro _; simp [fh]
  | succ n ih =>
    intro h
    have h1 := ih (fun p p0 p1 => h p p0 (by omega))
    have h2 := h n (by omega) (by omega)
    simp only [fh]
    split <;> omega
theorem fh_same {S Z : Nat → Int → Int} (s : Int) : ∀ n : Nat, (∀ p : Int, 0 ≤ p → p < n → Z 7 p = S 7 p ∧ (S 7 p ≠ 0 → Z 4 p = S 4 p)) → fh Z s n = fh S s n := by
  intro n
  induction n with
  | zero => intro _; rfl
  | succ n ih =>
    intro h
    obtain ⟨a, b⟩ := h n (by omega) (by omega)
    simp only [fh]
    rw [ih (fun p p0 p1 => h p p0 (by omega)), a]
    by_cases c : S 7 n = 0
    · rw [c]; simp
    · rw [b c]
theorem fh_zero {S : Nat → Int → Int} (s : Int) : ∀ n : Nat, (∀ p : Int, 0 ≤ p → p < n → S 4 p = s → S 7 p = 0) → fh S s n = 0 := by
  intro n
  induction n with
  | zero => intro _; rfl
  | succ n ih =>
    intro h
    simp only [fh]
    rw [ih (fun p p0 p1 => h p p0 (by omega))]
    split
    · rw [h n (by omega) (by omega) (by assumption)]; rfl
    · rfl
theorem fh_add {S Z : Nat → Int → Int} (s : Int) {q s0 x : Int} (h0 : S 7 q = 0) (h1 : Z 7 q = x) (h2 : Z 4 q = s0) (ho : ∀ p, p ≠ q → Z 7 p = S 7 p ∧ Z 4 p = S 4 p) : ∀ n : Nat, fh Z s n = fh S s n + (if 0 ≤ q ∧ q < n ∧ s0 = s then x else 0) := by
  intro n
  induction n with
  | zero => simp only [fh]; rw [if_neg (by omega)]; rfl
  | succ n ih =>
    simp only [fh]
    rw [ih]
    by_cases c : (n : Int) = q
    · subst c
      rw [h0, h1, h2]
      repeat' split
      all_goals omega
    · obtain ⟨a, b⟩ := ho n c
      rw [a, b]
      repeat' split
      all_goals omega
/-- b: the part that began a shelf -/
def LRb (Y V S : Nat → Int → Int) (b : Int → Int) (n m : Int) : Prop :=
  (∀ k, 0 ≤ k → k < V 17 0 → (0 ≤ b k ∧ b k < m) ∧ S 4 (b k) = V 13 k ∧ S 6 (b k) = V 14 k ∧ S 7 (b k) = V 15 k ∧ S 8 (b k) = V 16 k) ∧
  (∀ i j, 0 ≤ i → i < j → j < V 17 0 → b i < b j) ∧
  (∀ p, 0 ≤ p → p < Y 10 0 → (0 ≤ S 7 p ∧ S 7 p ≤ 30) ∧ Rg (S 4 p) ∧ (1 ≤ S 7 p → ∃ k, 0 ≤ k ∧ k < V 17 0 ∧ b k = p)) ∧
  (∀ p, 0 ≤ p → p < n → S 4 p = V 20 p ∧ S 5 p = V 21 p ∧ S 6 p = V 22 p) ∧
  S 9 0 = V 19 0 ∧ ∀ s, 0 ≤ s → s < V 19 0 → fh S s (Y 10 0).toNat = V 18 s
theorem LRb.up {Y V S : Nat → Int → Int} {b : Int → Int} {n m m' : Int} (h : LRb Y V S b n m) (hm : m ≤ m') : LRb Y V S b n m' := by
  obtain ⟨h1, h2⟩ := h
  exact ⟨fun k k0 k1 => ⟨⟨(h1 k k0 k1).1.1, Int.lt_of_lt_of_le (h1 k k0 k1).1.2 hm⟩, (h1 k k0 k1).2⟩, h2⟩
theorem LRb.inj {Y V S : Nat → Int → Int} {b : Int → Int} {n m : Int} (h : LRb Y V S b n m) {i j : Int} (i0 : 0 ≤ i) (i1 : i < V 17 0) (j0 : 0 ≤ j) (j1 : j < V 17 0) (e : b i = b j) : i = j := by
  rcases Int.lt_trichotomy i j with q | q | q
  · have := h.2.1 i j i0 q j1; omega
  · exact q
  · have := h.2.1 j i j0 q i1; omega
/-- a part that began no shelf yet -/
theorem LRb.none {Y V S : Nat → Int → Int} {b : Int → Int} {n p : Int} (h : LRb Y V S b n p) (p0 : 0 ≤ p) (p1 : p < Y 10 0) : S 7 p = 0 := by
  obtain ⟨h1, h2⟩ := h.2.2.1 p p0 p1
  by_cases c : S 7 p = 0
  · exact c
  · obtain ⟨k, k0, k1, e⟩ := h2.2 (by omega)
    have := (h.1 k k0 k1).1
    omega
theorem LRb.lay {Y V S : Nat → Int → Int} {b : Int → Int} {p k w : Int} (h : LRb Y V S b p (p + 1)) (p0 : 0 ≤ p) (p1 : p < Y 10 0) (k0 : 0 ≤ k) (k1 : k < V 17 0) {q : Int} (hq : q = b k) (hu : ∀ j, 0 ≤ j → j < V 17 0 → b j = p → q = p) : LRb Y (plc V p k w) (u2 (u2 (u2 (u2 S 4 p (S 4 q)) 5 p (S 8 q)) 6 p (S 6 q)) 8 q (S 8 q + w)) b (p + 1) (p + 1) := by
  subst hq
  have hk := h.1 k k0 k1
  have hinj := fun (j : Int) (j0 : 0 ≤ j) (j1 : j < V 17 0) (e : b j = b k) => h.inj j0 j1 k0 k1 e
  obtain ⟨h1, h2, h3, h4, h5, h6⟩ := h
  refine ⟨fun j j0 j1 => ?_, h2, fun r r0 r1 => ?_, fun r r0 r1 => ?_, h5, fun s s0 s1 => ?_⟩
  · have j1 : j < V 17 0 := j1
    have hj := h1 j j0 j1
    refine ⟨hj.1, ?_, ?_, hj.2.2.2.1, ?_⟩
    · show uI (S 4) p (S 4 (b k)) (b j) = V 13 j
      by_cases e : b j = p
      · rw [e, uI_s, hu j j0 j1 e, ← e]; exact hj.2.1
      · rw [uI_n _ _ e]; exact hj.2.1
    · show uI (S 6) p (S 6 (b k)) (b j) = V 14 j
      by_cases e : b j = p
      · rw [e, uI_s, hu j j0 j1 e, ← e]; exact hj.2.2.1
      · rw [uI_n _ _ e]; exact hj.2.2.1
    · show uI (S 8) (b k) (S 8 (b k) + w) (b j) = uI (V 16) k (V 16 k + w) j
      by_cases e : j = k
      · subst e; rw [uI_s, uI_s, hk.2.2.2.2]
      · rw [uI_n _ _ e, uI_n _ _ (fun q => e (hinj j j0 j1 q))]; exact hj.2.2.2.2
  · have hr := h3 r r0 r1
    refine ⟨hr.1, ?_, hr.2.2⟩
    show Rg (uI (S 4) p (S 4 (b k)) r)
    by_cases e : r = p
    · subst e; rw [uI_s]; exact (h3 (b k) hk.1.1 (by omega)).2.1
    · rw [uI_n _ _ e]; exact hr.2.1
  · show uI (S 4) p (S 4 (b k)) r = uI (V 20) p (V 13 k) r ∧ uI (S 5) p (S 8 (b k)) r = uI (V 21) p (V 16 k) r ∧ uI (S 6) p (S 6 (b k)) r = uI (V 22) p (V 14 k) r
    by_cases e : r = p
    · subst e
      rw [uI_s, uI_s, uI_s, uI_s, uI_s, uI_s]
      exact ⟨hk.2.1, hk.2.2.2.2, hk.2.2.1⟩
    · rw [uI_n _ _ e, uI_n _ _ e, uI_n _ _ e, uI_n _ _ e, uI_n _ _ e, uI_n _ _ e]
      exact h4 r r0 (by omega)
  · refine Eq.trans (fh_same (S := S) s (Y 10 0).toNat (fun r r0 r1 => ⟨rfl, fun g => ?_⟩)) (h6 s s0 s1)
    show uI (S 4) p (S 4 (b k)) r = S 4 r
    by_cases e : r = p
    · subst e
      have hr := h3 r r0 (by omega)
      obtain ⟨j, j0, j1, ej⟩ := hr.2.2 (by omega)
      rw [uI_s, hu j j0 j1 ej]
    · rw [uI_n _ _ e]
/-- the top of a shelf that is begun -/
def topF (V : Nat → Int → Int) (x : Int) : Int := if shF V x = V 19 0 then 0 else V 18 (shF V x)
theorem newV_f (V : Nat → Int → Int) (x : Int) : (newV V x 17 0 = V 17 0 + 1 ∧ newV V x 19 0 = (if shF V x = V 19 0 then V 19 0 + 1 else V 19 0)) ∧ (newV V x 13 = uI (V 13) (V 17 0) (shF V x) ∧ newV V x 14 = uI (V 14) (V 17 0) (topF V x) ∧ newV V x 15 = uI (V 15) (V 17 0) x ∧ newV V x 16 = uI (V 16) (V 17 0) 0) ∧ (newV V x 20 = V 20 ∧ newV V x 21 = V 21 ∧ newV V x 22 = V 22) ∧ newV V x 18 (shF V x) = topF V x + x ∧ ∀ s, s ≠ shF V x → newV V x 18 s = V 18 s := by
  unfold newV topF
  by_cases e : shF V x = V 19 0
  · rw [if_pos e, if_pos e, if_pos e]
    refine ⟨⟨?_, ?_⟩, ⟨rfl, ?_, rfl, rfl⟩, ⟨rfl, rfl, rfl⟩, ?_, fun s hs => ?_⟩
    · show uI (V 17) 0 (V 17 0 + 1) 0 = _
      rw [uI_s]
    · show uI (V 19) 0 (V 19 0 + 1) 0 = _
      rw [uI_s]
    · show uI (V 14) (V 17 0) (uI (V 18) (shF V x) 0 (shF V x)) = _
      rw [uI_s]
    · show uI (uI (V 18) (shF V x) 0) (shF V x) (uI (V 18) (shF V x) 0 (shF V x) + x) (shF V x) = _
      rw [uI_s, uI_s]
    · show uI (uI (V 18) (shF V x) 0) (shF V x) (uI (V 18) (shF V x) 0 (shF V x) + x) s = _
      rw [uI_n _ _ hs, uI_n _ _ hs]
  · rw [if_neg e, if_neg e, if_neg e]
    refine ⟨⟨?_, rfl⟩, ⟨rfl, rfl, rfl, rfl⟩, ⟨rfl, rfl, rfl⟩, ?_, fun s hs => ?_⟩
    · show uI (V 17) 0 (V 17 0 + 1) 0 = _
      rw [uI_s]
    · show uI (V 18) (shF V x) (V 18 (shF V x) + x) (shF V x) = _
      rw [uI_s]
    · show uI (V 18) (shF V x) (V 18 (shF V x) + x) s = _
      rw [uI_n _ _ hs]
theorem shF_rng {V : Nat → Int → Int} (hL : LI V) (x : Int) : 0 ≤ shF V x ∧ shF V x ≤ V 19 0 := by
  have h := (fsh_spec V x (V 19 0).toNat).1
  have := hL.2.1
  unfold shF
  omega
/-- how far a sheet is filled -/
theorem LRb.fill {Y V S : Nat → Int → Int} {b : Int → Int} {n m : Int} (h : LRb Y V S b n m) (hL : LI V) (x : Int) : fh S (shF V x) (Y 10 0).toNat = topF V x := by
  have hs := shF_rng hL x
  unfold topF
  by_cases e : shF V x = V 19 0
  · rw [if_pos e]
    refine fh_zero _ _ (fun p p0 p1 ep => ?_)
    obtain ⟨a, _, c⟩ := h.2.2.1 p p0 (by omega)
    by_cases g : S 7 p = 0
    · exact g
    · obtain ⟨k, k0, k1, ek⟩ := c (by omega)
      have h9 := (h.1 k k0 k1).2.1
      have h8 := (hL.2.2.1 k k0 k1).1
      rw [ek] at h9
      omega
  · rw [if_neg e]
    exact h.2.2.2.2.2 _ hs.1 (by omega)
def sh9 (V S : Nat → Int → Int) (x : Int) : Nat → Int → Int := if shF V x = V 19 0 then u2 S 9 0 (V 19 0 + 1) else S
theorem sh9_n {V S : Nat → Int → Int} {x : Int} {k : Nat} (h : k ≠ 9) : sh9 V S x k = S k := by
  unfold sh9
  split
  · exact u2_n _ _ _ h
  · rfl
theorem sh9_0 {V S : Nat → Int → Int} {x : Int} (h : S 9 0 = V 19 0) : sh9 V S x 9 0 = if shF V x = V 19 0 then V 19 0 + 1 else V 19 0 := by
  unfold sh9
  split
  · rw [u2_s, uI_s]
  · exact h
/-- the parts behind beginShelf -/
def begS (V S : Nat → Int → Int) (p x f : Int) : Nat → Int → Int := u2 (u2 (u2 (u2 (sh9 V S x) 4 p (shF V x)) 6 p f) 7 p x) 8 p 0
theorem LRb.beg {Y V S : Nat → Int → Int} {b : Int → Int} {p x : Int} (h : LRb Y V S b p p) (hL : LI V) (h16 : V 19 0 ≤ 16) (p0 : 0 ≤ p) (p1 : p < Y 10 0) (x0 : 1 ≤ x) (x1 : x ≤ 30) : LRb Y (newV V x) (begS V S p x (topF V x)) (uI b (V 17 0) p) p (p + 1) := by
  have h7 := h.none p0 p1
  have hf := h.fill hL x
  have hs := shF_rng hL x
  have l1 := hL.1
  obtain ⟨⟨v17, v19⟩, ⟨v13, v14, v15, v16⟩, ⟨v20, v21, v22⟩, v18, v18n⟩ := newV_f V x
  obtain ⟨h1, h2, h3, h4, h5, h6⟩ := h
  have e4 : begS V S p x (topF V x) 4 = uI (S 4) p (shF V x) := by
    show uI (sh9 V S x 4) p (shF V x) = _
    rw [sh9_n (by decide)]
  have e5 : begS V S p x (topF V x) 5 = S 5 := sh9_n (k := 5) (by decide)
  have e6 : begS V S p x (topF V x) 6 = uI (S 6) p (topF V x) := by
    show uI (sh9 V S x 6) p (topF V x) = _
    rw [sh9_n (by decide)]
  have e7 : begS V S p x (topF V x) 7 = uI (S 7) p x := by
    show uI (sh9 V S x 7) p x = _
    rw [sh9_n (by decide)]
  have e8 : begS V S p x (topF V x) 8 = uI (S 8) p 0 := by
    show uI (sh9 V S x 8) p 0 = _
    rw [sh9_n (by decide)]
  have e9 : begS V S p x (topF V x) 9 0 = newV V x 19 0 := by
    show sh9 V S x 9 0 = _
    rw [sh9_0 h5, v19]
  unfold LRb
  rw [v17, v13, v14, v15, v16, v20, v21, v22, e4, e5, e6, e7, e8]
  refine ⟨fun k k0 k1 => ?_, fun i j i0 ij j1 => ?_, fun r r0 r1 => ?_, fun r r0 r1 => ?_, e9, fun s s0 s1 => ?_⟩
  · by_cases c : k = V 17 0
    · subst c
      rw [uI_s, uI_s, uI_s, uI_s, uI_s, uI_s, uI_s, uI_s, uI_s]
      exact ⟨⟨p0, by omega⟩, rfl, rfl, rfl, rfl⟩
    · have hk := h1 k k0 (by omega)
      have hb : b k ≠ p := by have := hk.1; omega
      rw [uI_n _ _ c, uI_n _ _ c, uI_n _ _ c, uI_n _ _ c, uI_n _ _ c, uI_n _ _ hb, uI_n _ _ hb, uI_n _ _ hb, uI_n _ _ hb]
      exact ⟨⟨hk.1.1, by omega⟩, hk.2⟩
  · have hi := h1 i i0 (by omega)
    rw [uI_n _ _ (show i ≠ V 17 0 by omega)]
    by_cases c : j = V 17 0
    · subst c; rw [uI_s]; exact hi.1.2
    · rw [uI_n _ _ c]; exact h2 i j i0 ij (by omega)
  · have hr := h3 r r0 r1
    by_cases c : r = p
    · subst c
      rw [uI_s, uI_s]
      exact ⟨⟨by omega, x1⟩, ⟨by omega, by omega⟩, fun _ => ⟨V 17 0, l1, by omega, uI_s _ _ _⟩⟩
    · rw [uI_n _ _ c, uI_n _ _ c]
      refine ⟨hr.1, hr.2.1, fun g => ?_⟩
      obtain ⟨k, k0, k1, ek⟩ := hr.2.2 g
      exact ⟨k, k0, by omega, by rw [uI_n _ _ (show k ≠ V 17 0 by omega)]; exact ek⟩
  · rw [uI_n _ _ (show r ≠ p by omega), uI_n _ _ (show r ≠ p by omega)]
    exact h4 r r0 r1
  · rw [fh_add (S := S) (q := p) (s0 := shF V x) (x := x) s h7 (by rw [e7, uI_s]) (by rw [e4, uI_s]) (fun r hr => by rw [e7, e4, uI_n _ _ hr, uI_n _ _ hr]; exact ⟨rfl, rfl⟩)]
    by_cases c : s = shF V x
    · subst c
      rw [if_pos ⟨p0, by omega, rfl⟩, hf, v18]
    · rw [if_neg (fun g => c g.2.2.symm), v18n s c, Int.add_zero]
      rw [v19] at s1
      refine h6 s s0 ?_
      split at s1 <;> omega
def canS (V : Nat → Int → Int) (h w k : Int) : Prop := h ≤ V 15 k ∧ V 16 k + w ≤ 40
theorem sel_spec (V : Nat → Int → Int) (h w : Int) : ∀ n : Nat, (sel V h w n = -1 ∧ ∀ k : Int, 0 ≤ k → k < (n : Int) → ¬ canS V h w k) ∨ (0 ≤ sel V h w n ∧ sel V h w n < n ∧ canS V h w (sel V h w n) ∧ ∀ k : Int, 0 ≤ k → k < (n : Int) → canS V h w k → V 13 (sel V h w n) < V 13 k ∨ (V 13 (sel V h w n) = V 13 k ∧ V 14 (sel V h w n) ≤ V 14 k)) := by
  intro n
  induction n with
  | zero => exact Or.inl ⟨rfl, fun k k0 k1 => by omega⟩
  | succ n ih =>
    simp only [sel]
    by_cases g : (h ≤ V 15 n ∧ V 16 n + w ≤ 40) ∧ (sel V h w n < 0 ∨ V 13 n < V 13 (sel V h w n) ∨ (V 13 n = V 13 (sel V h w n) ∧ V 14 n < V 14 (sel V h w n)))
    · rw [if_pos g]
      refine Or.inr ⟨by omega, by omega, g.1, fun k k0 k1 hk => ?_⟩
      rcases Int.lt_or_eq_of_le (show k ≤ n by omega) with q | q
      · rcases ih with ⟨_, h2⟩ | ⟨h1, h2, h3, h4⟩
        · exact absurd hk (h2 k k0 q)
        · have := h4 k k0 q hk
          omega
      · subst q; exact Or.inr ⟨rfl, Int.le_refl _⟩
    · rw [if_neg g]
      rcases ih with ⟨h1, h2⟩ | ⟨h1, h2, h3, h4⟩
      · refine Or.inl ⟨h1, fun k k0 k1 hk => ?_⟩
        rcases Int.lt_or_eq_of_le (show k ≤ n by omega) with q | q
        · exact h2 k k0 q hk
        · subst q; exact g ⟨hk, Or.inl (by omega)⟩
      · refine Or.inr ⟨h1, by omega, h3, fun k k0 k1 hk => ?_⟩
        rcases Int.lt_or_eq_of_le (show k ≤ n by omega) with q | q
        · exact h4 k k0 q hk
        · subst q
          have g2 : ¬ (sel V h w n < 0 ∨ V 13 n < V 13 (sel V h w n) ∨ (V 13 n = V 13 (sel V h w n) ∧ V 14 n < V 14 (sel V h w n))) := fun q => g ⟨hk, q⟩
          omega
theorem sel_first {V : Nat → Int → Int} (hL : LI V) {h w k s : Int} (k0 : 0 ≤ k) (k1 : k < V 17 0) (es : V 13 k = s) (hk : canS V h w k) (h1 : ∀ i, 0 ≤ i → i < V 17 0 → V 13 i < s → ¬ canS V h w i) (h2 : ∀ i, 0 ≤ i → i < k → V 13 i = s → ¬ canS V h w i) : selF V h w = k := by
  have hz := hL.1
  have sp := sel_spec V h w (V 17 0).toNat
  unfold selF
  rcases sp with ⟨_, b⟩ | ⟨a, b, c, d⟩
  · exact absurd hk (b k k0 (by omega))
  · have e := d k k0 (by omega) hk
    have n1 : ¬ V 13 (sel V h w (V 17 0).toNat) < s := fun q => h1 _ a (by omega) q c
    rcases Int.lt_trichotomy (sel V h w (V 17 0).toNat) k with q | q | q
    · exact absurd c (h2 _ a q (by omega))
    · exact q
    · have := hL.2.2.2.2 k _ k0 q (by omega) (by omega)
      omega
theorem sel_no {V : Nat → Int → Int} (hL : LI V) {h w : Int} (h1 : ∀ i, 0 ≤ i → i < V 17 0 → ¬ canS V h w i) : selF V h w = -1 := by
  have hz := hL.1
  unfold selF
  rcases sel_spec V h w (V 17 0).toNat with ⟨a, _⟩ | ⟨a, b, c, _⟩
  · exact a
  · exact absurd c (h1 _ a (by omega))
/-- a part whose shelf takes a piece -/
def canP (S : Nat → Int → Int) (h w p : Int) : Prop := h ≤ S 7 p ∧ S 8 p + w ≤ 40
theorem LRb.can {Y V S : Nat → Int → Int} {b : Int → Int} {n m : Int} (h : LRb Y V S b n m) {x w k : Int} (k0 : 0 ≤ k) (k1 : k < V 17 0) : canP S x w (b k) ↔ canS V x w k := by
  have hk := (h.1 k k0 k1).2
  unfold canP canS
  rw [hk.2.2.1, hk.2.2.2]
theorem LRb.found {Y V S : Nat → Int → Int} {b : Int → Int} {n m : Int} (h : LRb Y V S b n m) (hL : LI V) {x w p s : Int} (hm : m ≤ Y 10 0) (x0 : 1 ≤ x) (p0 : 0 ≤ p) (p1 : p < Y 10 0) (es : S 4 p = s) (hp : canP S x w p) (h1 : ∀ i, 0 ≤ i → i < Y 10 0 → 0 ≤ S 4 i → S 4 i < s → ¬ canP S x w i) (h2 : ∀ i, 0 ≤ i → i < p → S 4 i = s → ¬ canP S x w i) : 0 ≤ selF V x w ∧ selF V x w < V 17 0 ∧ b (selF V x w) = p := by
  obtain ⟨k, k0, k1, ek⟩ := (h.2.2.1 p p0 p1).2.2 (by have := hp.1; omega)
  have hk := h.1 k k0 k1
  subst ek
  have e := sel_first hL (h := x) (w := w) (s := s) k0 k1 (by rw [← hk.2.1]; exact es) ((h.can k0 k1).mp hp) (fun i i0 i1 hi hc => by
    have hb := h.1 i i0 i1
    have h9 := (hL.2.2.1 i i0 i1).1
    exact h1 (b i) hb.1.1 (by omega) (by omega) (by omega) ((h.can i0 i1).mpr hc)) (fun i i0 i1 hi hc => by
    have hb := h.1 i i0 (by omega)
    exact h2 (b i) hb.1.1 (h.2.1 i k i0 i1 k1) (by omega) ((h.can i0 (by omega)).mpr hc))
  rw [e]
  exact ⟨k0, k1, rfl⟩
theorem LRb.nofound {Y V S : Nat → Int → Int} {b : Int → Int} {n m : Int} (h : LRb Y V S b n m) (hL : LI V) {x w : Int} (hm : m ≤ Y 10 0) (h1 : ∀ i, 0 ≤ i → i < Y 10 0 → 0 ≤ S 4 i → S 4 i < V 19 0 → ¬ canP S x w i) : selF V x w = -1 := by
  refine sel_no hL (fun i i0 i1 hc => ?_)
  have hb := h.1 i i0 i1
  have h9 := (hL.2.2.1 i i0 i1).1
  exact h1 (b i) hb.1.1 (by omega) (by omega) (by omega) ((h.can i0 i1).mpr hc)
theorem LRb.zero {Y V S : Nat → Int → Int} (h7 : ∀ p, 0 ≤ p → p < Y 10 0 → S 7 p = 0) (h4 : ∀ p, Rg (S 4 p)) (h9 : S 9 0 = 0) : LRb Y (layN Y V 0) S id 0 0 := by
  refine ⟨fun k k0 k1 => absurd (show k < 0 from k1) (by omega), fun i j i0 ij j1 => absurd (show j < 0 from j1) (by omega), fun p p0 p1 => ⟨by rw [h7 p p0 p1]; omega, h4 p, fun g => by rw [h7 p p0 p1] at g; omega⟩, fun p p0 p1 => by omega, h9, fun s s0 s1 => absurd (show s < 0 from s1) (by omega)⟩
/-- numbers that fit -/
def nrm (S : Nat → Int → Int) : Nat → Int → Int := fun k p => (iZ (S k p)).toInt
theorem nrm_rg (S : Nat → Int → Int) (k : Nat) (p : Int) : Rg (nrm S k p) := iZ_rng _
theorem nrm_vi (S : Nat → Int → Int) (k : Nat) (p : Int) : vi (nrm S k p) = vi (S k p) := congrArg Value.int (iZ_as _)
theorem WW_nrm {C : WC} {ad : Nat → Nat} {B : BT} {E : Int × Nat} {F : Int × Nat × Nat} {S Y : Nat → Int → Int} {g : Int → Int} {R : va_W} : WW C ad B E F (nrm S) Y g R = WW C ad B E F S Y g R := by
  have h1 : fSp ad (nrm S) Y = fSp ad S Y := by unfold fSp; rw [nrm_vi]
  have h2 : cF ad (nrm S) Y = cF ad S Y := by funext i; unfold cF fFd; rw [nrm_vi, nrm_vi, nrm_vi]
  have h3 : cP ad (nrm S) Y g = cP ad S Y g := by funext p; unfold cP fPa; rw [nrm_vi, nrm_vi, nrm_vi, nrm_vi, nrm_vi]
  unfold WW wC
  rw [h1, h2, h3]
/-- the parts' steps -/
def SI (Y : Nat → Int → Int) (g : Int → Int) : Prop := ∀ p, 0 ≤ p → p < Y 10 0 → (-1 ≤ g p ∧ g p < Y 12 0) ∧ (0 ≤ g p → Y 11 (g p) = p) ∧ ∀ k, 0 ≤ k → k < Y 12 0 → Y 11 k = p → g p = k
theorem SI.step {Y : Nat → Int → Int} {g : Int → Int} (hI : MI Y) (h : SI Y g) {p : Int} (p0 : 0 ≤ p) (p1 : p < Y 10 0) : stepF Y p = g p := by
  obtain ⟨⟨h1, h2⟩, h3, h4⟩ := h p p0 p1
  have hg := hI.2.2.2.2.1
  unfold stepF
  by_cases c : 0 ≤ g p
  · exact stp_at c (h3 c) _ (by omega) (fun i i0 i1 e => (h4 i i0 (by omega) e).symm)
  · rw [stp_none _ (fun i i0 i1 e => by have := h4 i i0 (by omega) e; omega)]
    omega
theorem SI.at {Y : Nat → Int → Int} {g : Int → Int} (hI : MI Y) (h : SI Y g) {k : Int} (k0 : 0 ≤ k) (k1 : k < Y 12 0) : (0 ≤ Y 11 k ∧ Y 11 k < Y 10 0) ∧ g (Y 11 k) = k := by
  have ho := hI.2.2.2.2.2.1 k k0 k1
  exact ⟨ho, (h _ ho.1 ho.2).2.2 k k0 k1 rfl⟩
theorem SI.glue {Y : Nat → Int → Int} {g : Int → Int} (hI : MI Y) (h : SI Y g) {p : Int} (p0 : 0 ≤ p) (p1 : p < Y 10 0) (hp : g p < 0) : SI (u2 (u2 Y 11 (Y 12 0) p) 12 0 (Y 12 0 + 1)) (uI g p (Y 12 0)) := by
  have hg := hI.2.2.2.2.1
  intro q q0 q1
  have q1 : q < Y 10 0 := q1
  obtain ⟨h1, h2, h3⟩ := h q q0 q1
  show (-1 ≤ uI g p (Y 12 0) q ∧ uI g p (Y 12 0) q < uI (Y 12) 0 (Y 12 0 + 1) 0) ∧ (0 ≤ uI g p (Y 12 0) q → uI (Y 11) (Y 12 0) p (uI g p (Y 12 0) q) = q) ∧ ∀ k, 0 ≤ k → k < uI (Y 12) 0 (Y 12 0 + 1) 0 → uI (Y 11) (Y 12 0) p k = q → uI g p (Y 12 0) q = k
  rw [uI_s]
  by_cases e : q = p
  · subst e
    rw [uI_s, uI_s]
    refine ⟨by omega, fun _ => rfl, fun k k0 k1 hk => ?_⟩
    by_cases c : k = Y 12 0
    · exact c.symm
    · rw [uI_n _ _ c] at hk
      have := h3 k k0 (by omega) hk
      omega
  · rw [uI_n _ _ e]
    refine ⟨by omega, fun c => by rw [uI_n _ _ (by omega)]; exact h2 c, fun k k0 k1 hk => ?_⟩
    by_cases c : k = Y 12 0
    · subst c; rw [uI_s] at hk; exact absurd hk.symm e
    · rw [uI_n _ _ c] at hk; exact h3 k k0 (by omega) hk
theorem SI.cut {Y : Nat → Int → Int} {g g' : Int → Int} (h : SI Y g) {k : Int} (k0 : 0 ≤ k) (k1 : k ≤ Y 12 0) (hg : ∀ p, 0 ≤ p → p < Y 10 0 → g' p = if k ≤ g p then -1 else g p) : SI (u2 Y 12 0 k) g' := by
  intro q q0 q1
  have q1 : q < Y 10 0 := q1
  obtain ⟨h1, h2, h3⟩ := h q q0 q1
  show (-1 ≤ g' q ∧ g' q < uI (Y 12) 0 k 0) ∧ (0 ≤ g' q → Y 11 (g' q) = q) ∧ ∀ i, 0 ≤ i → i < uI (Y 12) 0 k 0 → Y 11 i = q → g' q = i
  rw [uI_s, hg q q0 q1]
  by_cases c : k ≤ g q
  · rw [if_pos c]
    refine ⟨by omega, fun c => by omega, fun i i0 i1 hi => ?_⟩
    have := h3 i i0 (by omega) hi
    omega
  · rw [if_neg c]
    exact ⟨by omega, h2, fun i i0 i1 hi => h3 i i0 (by omega) hi⟩
