/-! answers of public methods: what is thrown, or the answer -/
def pu1 (A : Prop) (res : Int) (wf : Int → (Int → Int) → va_W) (wg : (Int → Int) → va_W) : Option Value → va_W → Prop := fun v w => ∃ (z : Int) (W : Int → Int), v = some (vi z) ∧ ((¬ A ∧ w = wf 1 W) ∨ (A ∧ z = res ∧ w = wg W))
def pu2 (A B : Prop) (res : Int) (wf : Int → (Int → Int) → va_W) (wg : (Int → Int) → va_W) : Option Value → va_W → Prop := fun v w => ∃ (z : Int) (W : Int → Int), v = some (vi z) ∧ ((¬ A ∧ w = wf 1 W) ∨ (A ∧ ¬ B ∧ w = wf 2 W) ∨ (A ∧ B ∧ z = res ∧ w = wg W))
def pu3 (A B D : Prop) (res : Int) (wf : Int → (Int → Int) → va_W) (wg : (Int → Int) → va_W) : Option Value → va_W → Prop := fun v w => ∃ (z : Int) (W : Int → Int), v = some (vi z) ∧ ((¬ A ∧ w = wf 1 W) ∨ (A ∧ ¬ B ∧ w = wf 2 W) ∨ (A ∧ B ∧ ¬ D ∧ w = wf 3 W) ∨ (A ∧ B ∧ D ∧ z = res ∧ w = wg W))
section GR3
variable {C : WC} {l0 : Launch} {own : String} {cc : ByteArray} {nL d Mc Ms : Nat} {K : GK} {Q : State → Prop} {cells slots pc t : Nat} {lv lv1 : List (Nat × Value)} {st : List Value} {ws ws1 : va_W}
theorem g_ior (X : Cx C l0 own cc nL d Mc Ms K) {a b z : Int} (hd : decode cc pc = .ok (.ior, 1)) (hz : iZ a ||| iZ b = iZ z) (hpc : pc + 1 = t) (k : G C K Q cells slots t lv (vi z :: st) ws) : G C K Q cells slots pc lv (vi b :: vi a :: st) ws := by
  obtain ⟨p, l, e, R, s, m, args, below, meth, c, nL⟩ := K
  obtain ⟨rfl, rfl, hx, hb, hml, hown, hT, hK, hN, hE, hlk, hfl, hfr, hlo, hmc, hms⟩ := X
  subst hpc
  intro H locs ls hP hD hS hl
  exact lv_ior hx hb hd (by rw [hz]; exact k H locs ls hP hD hS hl)
theorem g_iand (X : Cx C l0 own cc nL d Mc Ms K) {a b z : Int} (hd : decode cc pc = .ok (.iand, 1)) (hz : iZ a &&& iZ b = iZ z) (hpc : pc + 1 = t) (k : G C K Q cells slots t lv (vi z :: st) ws) : G C K Q cells slots pc lv (vi b :: vi a :: st) ws := by
  obtain ⟨p, l, e, R, s, m, args, below, meth, c, nL⟩ := K
  obtain ⟨rfl, rfl, hx, hb, hml, hown, hT, hK, hN, hE, hlk, hfl, hfr, hlo, hmc, hms⟩ := X
  subst hpc
  intro H locs ls hP hD hS hl
  exact lv_iand hx hb hd (by rw [hz]; exact k H locs ls hP hD hS hl)
end GR3
theorem or_1 {a : Int} (h : a = 0 ∨ a = 1) : iZ a ||| iZ 1 = iZ 1 := by rcases h with rfl | rfl <;> decide +kernel
theorem or_0 {a : Int} (h : a = 0 ∨ a = 1) : iZ a ||| iZ 0 = iZ a := by rcases h with rfl | rfl <;> decide +kernel
theorem and_1 {a : Int} (h : a = 0 ∨ a = 1) : iZ a &&& iZ 1 = iZ a := by rcases h with rfl | rfl <;> decide +kernel
theorem and_0 {a : Int} (h : a = 0 ∨ a = 1) : iZ a &&& iZ 0 = iZ 0 := by rcases h with rfl | rfl <;> decide +kernel
/-! gluing -/
def Cov (Y : Nat → Int → Int) (p q : Int) : Prop := shareF Y p q ∧ lowF Y q 180 ≤ Y 5 p ∧ Y 5 p ≤ highF Y q 180
def HeldP (Y : Nat → Int → Int) (p k : Int) : Prop := Y 4 p = 0 ∨ ∃ i, 0 ≤ i ∧ i < k ∧ Y 4 (Y 11 i) = Y 0 (Y 4 p)
def FreeP (Y : Nat → Int → Int) (p k : Int) : Prop := stepF Y p < 0 ∧ ∀ i, 0 ≤ i → i < k → ¬ Cov Y p (Y 11 i)
def canF (Y : Nat → Int → Int) (p : Int) : Prop := HeldP Y p (Y 12 0) ∧ FreeP Y p (Y 12 0)
def B01 (x : Int) (P : Prop) : Prop := (x = 1 ∧ P) ∨ (x = 0 ∧ ¬ P)
theorem B01.i {x : Int} {P : Prop} (h : B01 x P) : x = 0 ∨ x = 1 := by rcases h with h | h <;> omega
theorem B01.c {x : Int} {P P' : Prop} (h : B01 x P) (e : P' ↔ P) : B01 x P' := by
  rcases h with ⟨h, g⟩ | ⟨h, g⟩
  · exact Or.inl ⟨h, e.mpr g⟩
  · exact Or.inr ⟨h, fun q => g (e.mp q)⟩
theorem held_n {Y : Nat → Int → Int} {p k : Int} (hn : ¬ Y 4 (Y 11 k) = Y 0 (Y 4 p)) : HeldP Y p (k + 1) ↔ HeldP Y p k := by
  constructor
  · rintro (h | ⟨i, h0, h1, h2⟩)
    · exact Or.inl h
    · refine Or.inr ⟨i, h0, ?_, h2⟩
      rcases Int.lt_or_eq_of_le (show i ≤ k by omega) with q | q
      · exact q
      · subst q; exact absurd h2 hn
  · rintro (h | ⟨i, h0, h1, h2⟩)
    · exact Or.inl h
    · exact Or.inr ⟨i, h0, by omega, h2⟩
theorem held_s {Y : Nat → Int → Int} {p k : Int} (k0 : 0 ≤ k) (h : Y 4 (Y 11 k) = Y 0 (Y 4 p)) : HeldP Y p (k + 1) := Or.inr ⟨k, k0, by omega, h⟩
theorem free_s {Y : Nat → Int → Int} {p k : Int} (hn : ¬ Cov Y p (Y 11 k)) : FreeP Y p (k + 1) ↔ FreeP Y p k := by
  constructor
  · rintro ⟨h, g⟩
    exact ⟨h, fun i a b => g i a (by omega)⟩
  · rintro ⟨h, g⟩
    refine ⟨h, fun i a b => ?_⟩
    rcases Int.lt_or_eq_of_le (show i ≤ k by omega) with q | q
    · exact g i a q
    · subst q; exact hn
theorem free_n {Y : Nat → Int → Int} {p k : Int} (k0 : 0 ≤ k) (h : Cov Y p (Y 11 k)) : ¬ FreeP Y p (k + 1) := fun g => g.2 k k0 (by omega) h
theorem free_0 {Y : Nat → Int → Int} {p : Int} : FreeP Y p 0 ↔ stepF Y p < 0 := ⟨fun h => h.1, fun h => ⟨h, fun i a b => absurd a (by omega)⟩⟩
theorem held_0 {Y : Nat → Int → Int} {p : Int} : HeldP Y p 0 ↔ Y 4 p = 0 := ⟨fun h => h.elim id (fun ⟨i, a, b, _⟩ => absurd a (by omega)), Or.inl⟩
theorem stp_neg {ord : Int → Int} {p : Int} : ∀ n : Nat, stp ord p n < 0 → ∀ i : Nat, i < n → ord i ≠ p := by
  intro n
  induction n with
  | zero => intro _ i hi; exact absurd hi (Nat.not_lt_zero i)
  | succ n ih =>
    intro h i hi
    simp only [stp] at h
    split at h
    · omega
    · rcases Nat.lt_or_eq_of_le (Nat.le_of_lt_succ hi) with q | q
      · exact ih h i q
      · subst q; assumption
/-- as many different numbers as there are holes at most -/
theorem holes : ∀ (m n : Nat) (f : Nat → Nat), (∀ i, i < n → f i < m) → (∀ i j, i < j → j < n → f i ≠ f j) → n ≤ m := by
  intro m
  induction m with
  | zero =>
    intro n f h _
    rcases Nat.eq_zero_or_pos n with q | q
    · omega
    · exact absurd (h 0 q) (Nat.not_lt_zero _)
  | succ m ih =>
    intro n f h g
    rcases Nat.eq_zero_or_pos n with q | q
    · omega
    · -- the last number goes out: where another is m, it takes its place
      have hl : n - 1 ≤ m := by
        refine ih (n - 1) (fun i => if f i = m then f (n - 1) else f i) (fun i hi => ?_) (fun i j hij hj => ?_)
        · show (if f i = m then f (n - 1) else f i) < m
          have h1 := h i (by omega)
          have h2 := h (n - 1) (by omega)
          have h3 := g i (n - 1) (by omega) (by omega)
          split <;> omega
        · show (if f i = m then f (n - 1) else f i) ≠ (if f j = m then f (n - 1) else f j)
          have h1 := g i j hij (by omega)
          have h2 := g i (n - 1) (by omega) (by omega)
          have h3 := g j (n - 1) (by omega) (by omega)
          split <;> split <;> omega
      omega
theorem glue_lt {Y : Nat → Int → Int} (hI : MI Y) {p : Int} (p0 : 0 ≤ p) (p1 : p < Y 10 0) (h : stepF Y p < 0) : Y 12 0 < Y 10 0 := by
  obtain ⟨-, -, hn, -, hg, ho, hd, -⟩ := hI
  have hs := stp_neg (Y 12 0).toNat h
  have h9 := holes (Y 10 0).toNat ((Y 12 0).toNat + 1) (fun i => if i < (Y 12 0).toNat then (Y 11 i).toNat else p.toNat) (fun i hi => ?_) (fun i j hij hj => ?_)
  · omega
  · show (if i < (Y 12 0).toNat then (Y 11 i).toNat else p.toNat) < _
    split
    · have := ho i (by omega) (by omega)
      omega
    · omega
  · show (if i < (Y 12 0).toNat then (Y 11 i).toNat else p.toNat) ≠ (if j < (Y 12 0).toNat then (Y 11 j).toNat else p.toNat)
    have hi2 := ho i (by omega) (by omega)
    have hs2 := hs i (by omega)
    rw [if_pos (by omega)]
    split
    · have hj2 := ho j (by omega) (by omega)
      have := hd i j (by omega) (by omega) (by omega)
      omega
    · omega
theorem MI.len {Y : Nat → Int → Int} (h : MI Y) {p z : Int} (z0 : 1 ≤ z) (z1 : z ≤ 30) : MI (u2 Y 6 p z) := by
  obtain ⟨h1, h2, h3, h4, h5, h6, h7, h8⟩ := h
  refine ⟨h1, h2, h3, fun q q0 q1 => ?_, h5, h6, h7, h8⟩
  obtain ⟨a, b, c, d, e, f⟩ := h4 q q0 q1
  refine ⟨a, b, ?_, d, e, f⟩
  show 1 ≤ uI (Y 6) p z q ∧ uI (Y 6) p z q ≤ 30
  unfold uI
  split
  · exact ⟨z0, z1⟩
  · exact c
theorem MI.cut {Y : Nat → Int → Int} (h : MI Y) {z : Int} (z0 : 0 ≤ z) (z1 : z ≤ Y 12 0) : MI (u2 Y 12 0 z) := by
  obtain ⟨h1, h2, h3, h4, h5, h6, h7, h8⟩ := h
  exact ⟨h1, h2, h3, h4, ⟨z0, Int.le_trans z1 h5.2⟩, fun k k0 k1 => h6 k k0 (Int.lt_of_lt_of_le k1 z1), fun i j i0 ij j1 => h7 i j i0 ij (Int.lt_of_lt_of_le j1 z1), h8⟩

/-- a truth as 0 or 1 -/
noncomputable def bF (P : Prop) : Int := @ite Int P (Classical.propDecidable P) 1 0
theorem bF_t {P : Prop} (h : P) : (1 : Int) = bF P := by unfold bF; rw [if_pos h]
theorem bF_f {P : Prop} (h : ¬ P) : (0 : Int) = bF P := by unfold bF; rw [if_neg h]

set_option maxHeartbeats 4000000 in
set_option maxRecDepth 100000 in
/-- angle(fold, open) -/
theorem c_X5_angle {C : WC} {l : Launch} (hfl : l.stackTraces = false) {ad : Nat → Nat} {Y V : Nat → Int → Int} {W : Int → Int} {th : Int} {R : va_W} {f o : Int} (hI : MI Y) (hf : Rg f) (ho : Rg o) : MM C l yX5_angle cX5_angle 3 (some .int) 2 0 0 [.ref (ad 0), vi f, vi o] (wM C ad Y V W th ++ R) (pu2 (0 ≤ f ∧ f < Y 3 0) (0 ≤ o ∧ o ≤ 180) (angF Y f o) (fun th W => wM C ad Y V W th ++ R) (fun W => wM C ad Y V W 0 ++ R)) := by
  refine mm_of (by decide +kernel) (Nat.le_of_ble_eq_true rfl) hfl (fun K Q X r => ?_)
  have X : Cx C l "SpringleafModel" cX5_angle 3 2 0 0 K := X
  have I3 := hI.1
  have I10 := hI.2.2.1
  have I12 := hI.2.2.2.2.1
  obtain ⟨f1, f2⟩ := hf
  obtain ⟨o1, o2⟩ := ho
  show G C K Q 0 0 0 [(0, .ref (ad 0)), (1, vi f), (2, vi o)] [] (wM C ad Y V W th ++ R)
  refine g_aload_n (t := 1) X dX5_angle_0 0 rfl rfl ?_
  refine g_aload_n (t := 2) X dX5_angle_1 0 rfl rfl ?_
  refine g_iload_n (t := 3) X dX5_angle_2 1 rfl rfl ?_
  refine g_callV (t := 6) (mc := 0) (ms := 0) (rest := [.ref (ad 0)]) X mt_X5_isFold q5_58 q5_60 qs_21 0 wM_0 rfl (c_X5_isFold hfl hI ⟨by omega, by omega⟩) (by decide) (by decide) (by decide) (Nat.le_of_ble_eq_true rfl) rfl rfl dX5_angle_3 rfl (k_rb (fun b_3 => ?_) (fun b_3 => ?_))
  · refine g_if_ne (t := 13) (u := 9) X dX5_angle_6 (by decide) rfl ⟨by omega, by omega⟩ (fun _ => ?_) (fun c => absurd c (by decide))
    refine g_aload_n (t := 14) X dX5_angle_13 0 rfl rfl ?_
    refine g_iload_n (t := 15) X dX5_angle_14 2 rfl rfl ?_
    refine g_iconst (t := 16) X dX5_angle_15 rfl ?_
    refine g_sipush (t := 19) (z := 180) X dX5_angle_16 (by decide +kernel) rfl ?_
    refine g_callV (t := 22) (mc := 0) (ms := 0) (rest := [.ref (ad 0)]) X mt_X5_in q5_54 q5_56 qs_20 0 wM_0 rfl (c_X5_in hfl ⟨by omega, by omega⟩ ⟨by omega, by omega⟩ ⟨by omega, by omega⟩) (by decide) (by decide) (by decide) (Nat.le_of_ble_eq_true rfl) rfl rfl dX5_angle_19 rfl (k_rb (fun b_19 => ?_) (fun b_19 => ?_))
    · refine g_if_eq (t := 29) (u := 25) X dX5_angle_22 (by decide) rfl ⟨by omega, by omega⟩ (fun c => absurd c (by decide)) (fun _ => ?_)
      refine g_iconst (t := 26) X dX5_angle_25 rfl ?_
      refine g_goto (t := 30) X dX5_angle_26 (by decide) ?_
      refine g_callV (t := 33) (mc := 0) (ms := 0) (rest := []) X mt_X5_holds q5_102 q5_104 qs_32 0 wM_0 rfl (c_X5_holds hfl ⟨by omega, by omega⟩) (by decide) (by decide) (by decide) (Nat.le_of_ble_eq_true rfl) rfl rfl dX5_angle_30 rfl (k_rb (fun h => absurd h (by decide)) (fun _ => ?_))
      refine g_if_eq (t := 40) (u := 36) X dX5_angle_33 (by decide) rfl ⟨by omega, by omega⟩ (fun _ => ?_) (fun c => absurd c (by decide))
      refine g_aload_n (t := 41) X dX5_angle_40 0 rfl rfl ?_
      refine g_iload_n (t := 42) X dX5_angle_41 1 rfl rfl ?_
      refine g_iload_n (t := 43) X dX5_angle_42 2 rfl rfl ?_
      refine g_callV (t := 46) (mc := 0) (ms := 0) (rest := []) X mt_X5_angleOf q5_78 q5_80 qs_26 0 wM_0 rfl (c_X5_angleOf hfl hI (by omega) (by omega) (by omega) (by omega)) (by decide) (by decide) (by decide) (Nat.le_of_ble_eq_true rfl) rfl rfl dX5_angle_43 rfl (k_rw (fun W43 => ?_))
      exact g_iret X r ⟨angF Y f o, W43, rfl, Or.inr (Or.inr ⟨by omega, by omega, rfl, rfl⟩)⟩ (Nat.le_of_ble_eq_true rfl) (Nat.le_of_ble_eq_true rfl) dX5_angle_46
    · refine g_if_eq (t := 29) (u := 25) X dX5_angle_22 (by decide) rfl ⟨by omega, by omega⟩ (fun _ => ?_) (fun c => absurd c (by decide))
      refine g_iconst (t := 30) X dX5_angle_29 rfl ?_
      refine g_callV (t := 33) (mc := 0) (ms := 0) (rest := []) X mt_X5_holds q5_102 q5_104 qs_32 0 wM_0 rfl (c_X5_holds hfl ⟨by omega, by omega⟩) (by decide) (by decide) (by decide) (Nat.le_of_ble_eq_true rfl) rfl rfl dX5_angle_30 rfl (k_rb (fun _ => ?_) (fun h => absurd (by decide) h))
      refine g_if_eq (t := 40) (u := 36) X dX5_angle_33 (by decide) rfl ⟨by omega, by omega⟩ (fun c => absurd c (by decide)) (fun _ => ?_)
      refine g_iconst (t := 37) X dX5_angle_36 rfl ?_
      refine g_goto (t := 46) X dX5_angle_37 (by decide) ?_
      exact g_iret X r ⟨(-1), W, rfl, Or.inr (Or.inl ⟨by omega, by omega, rfl⟩)⟩ (Nat.le_of_ble_eq_true rfl) (Nat.le_of_ble_eq_true rfl) dX5_angle_46
  · refine g_if_ne (t := 13) (u := 9) X dX5_angle_6 (by decide) rfl ⟨by omega, by omega⟩ (fun c => absurd c (by decide)) (fun _ => ?_)
    refine g_iconst (t := 10) X dX5_angle_9 rfl ?_
    refine g_goto (t := 30) X dX5_angle_10 (by decide) ?_
    refine g_callV (t := 33) (mc := 0) (ms := 0) (rest := []) X mt_X5_holds q5_102 q5_104 qs_32 0 wM_0 rfl (c_X5_holds hfl ⟨by omega, by omega⟩) (by decide) (by decide) (by decide) (Nat.le_of_ble_eq_true rfl) rfl rfl dX5_angle_30 rfl (k_rb (fun _ => ?_) (fun h => absurd (by decide) h))
    refine g_if_eq (t := 40) (u := 36) X dX5_angle_33 (by decide) rfl ⟨by omega, by omega⟩ (fun c => absurd c (by decide)) (fun _ => ?_)
    refine g_iconst (t := 37) X dX5_angle_36 rfl ?_
    refine g_goto (t := 46) X dX5_angle_37 (by decide) ?_
    exact g_iret X r ⟨(-1), W, rfl, Or.inl ⟨by omega, rfl⟩⟩ (Nat.le_of_ble_eq_true rfl) (Nat.le_of_ble_eq_true rfl) dX5_angle_46

set_option maxHeartbeats 4000000 in
set_option maxRecDepth 100000 in
/-- angleAnew(fold, open) -/
theorem c_X5_angleAnew {C : WC} {l : Launch} (hfl : l.stackTraces = false) {ad : Nat → Nat} {Y V : Nat → Int → Int} {W : Int → Int} {th : Int} {R : va_W} {f o : Int} (hI : MI Y) (hf : Rg f) (ho : Rg o) : MM C l yX5_angleAnew cX5_angleAnew 3 (some .int) 2 0 0 [.ref (ad 0), vi f, vi o] (wM C ad Y V W th ++ R) (pu2 (0 ≤ f ∧ f < Y 3 0) (0 ≤ o ∧ o ≤ 180) (angF Y f o) (fun th W => wM C ad Y V W th ++ R) (fun W => wM C ad Y V W 0 ++ R)) := by
  refine mm_of (by decide +kernel) (Nat.le_of_ble_eq_true rfl) hfl (fun K Q X r => ?_)
  have X : Cx C l "SpringleafModel" cX5_angleAnew 3 2 0 0 K := X
  have I3 := hI.1
  have I10 := hI.2.2.1
  have I12 := hI.2.2.2.2.1
  obtain ⟨f1, f2⟩ := hf
  obtain ⟨o1, o2⟩ := ho
  show G C K Q 0 0 0 [(0, .ref (ad 0)), (1, vi f), (2, vi o)] [] (wM C ad Y V W th ++ R)
  refine g_aload_n (t := 1) X dX5_angleAnew_0 0 rfl rfl ?_
  refine g_aload_n (t := 2) X dX5_angleAnew_1 0 rfl rfl ?_
  refine g_iload_n (t := 3) X dX5_angleAnew_2 1 rfl rfl ?_
  refine g_callV (t := 6) (mc := 0) (ms := 0) (rest := [.ref (ad 0)]) X mt_X5_isFold q5_58 q5_60 qs_21 0 wM_0 rfl (c_X5_isFold hfl hI ⟨by omega, by omega⟩) (by decide) (by decide) (by decide) (Nat.le_of_ble_eq_true rfl) rfl rfl dX5_angleAnew_3 rfl (k_rb (fun b_3 => ?_) (fun b_3 => ?_))
  · refine g_if_ne (t := 13) (u := 9) X dX5_angleAnew_6 (by decide) rfl ⟨by omega, by omega⟩ (fun _ => ?_) (fun c => absurd c (by decide))
    refine g_aload_n (t := 14) X dX5_angleAnew_13 0 rfl rfl ?_
    refine g_iload_n (t := 15) X dX5_angleAnew_14 2 rfl rfl ?_
    refine g_iconst (t := 16) X dX5_angleAnew_15 rfl ?_
    refine g_sipush (t := 19) (z := 180) X dX5_angleAnew_16 (by decide +kernel) rfl ?_
    refine g_callV (t := 22) (mc := 0) (ms := 0) (rest := [.ref (ad 0)]) X mt_X5_in q5_54 q5_56 qs_20 0 wM_0 rfl (c_X5_in hfl ⟨by omega, by omega⟩ ⟨by omega, by omega⟩ ⟨by omega, by omega⟩) (by decide) (by decide) (by decide) (Nat.le_of_ble_eq_true rfl) rfl rfl dX5_angleAnew_19 rfl (k_rb (fun b_19 => ?_) (fun b_19 => ?_))
    · refine g_if_eq (t := 29) (u := 25) X dX5_angleAnew_22 (by decide) rfl ⟨by omega, by omega⟩ (fun c => absurd c (by decide)) (fun _ => ?_)
      refine g_iconst (t := 26) X dX5_angleAnew_25 rfl ?_
      refine g_goto (t := 30) X dX5_angleAnew_26 (by decide) ?_
      refine g_callV (t := 33) (mc := 0) (ms := 0) (rest := []) X mt_X5_holds q5_102 q5_104 qs_32 0 wM_0 rfl (c_X5_holds hfl ⟨by omega, by omega⟩) (by decide) (by decide) (by decide) (Nat.le_of_ble_eq_true rfl) rfl rfl dX5_angleAnew_30 rfl (k_rb (fun h => absurd h (by decide)) (fun _ => ?_))
      refine g_if_eq (t := 40) (u := 36) X dX5_angleAnew_33 (by decide) rfl ⟨by omega, by omega⟩ (fun _ => ?_) (fun c => absurd c (by decide))
      refine g_aload_n (t := 41) X dX5_angleAnew_40 0 rfl rfl ?_
      refine g_iload_n (t := 42) X dX5_angleAnew_41 1 rfl rfl ?_
      refine g_iload_n (t := 43) X dX5_angleAnew_42 2 rfl rfl ?_
      refine g_callV (t := 46) (mc := 0) (ms := 0) (rest := []) X mt_X5_angleOf q5_78 q5_80 qs_26 0 wM_0 rfl (c_X5_angleOf hfl hI (by omega) (by omega) (by omega) (by omega)) (by decide) (by decide) (by decide) (Nat.le_of_ble_eq_true rfl) rfl rfl dX5_angleAnew_43 rfl (k_rw (fun W43 => ?_))
      exact g_iret X r ⟨angF Y f o, W43, rfl, Or.inr (Or.inr ⟨by omega, by omega, rfl, rfl⟩)⟩ (Nat.le_of_ble_eq_true rfl) (Nat.le_of_ble_eq_true rfl) dX5_angleAnew_46
    · refine g_if_eq (t := 29) (u := 25) X dX5_angleAnew_22 (by decide) rfl ⟨by omega, by omega⟩ (fun _ => ?_) (fun c => absurd c (by decide))
      refine g_iconst (t := 30) X dX5_angleAnew_29 rfl ?_
      refine g_callV (t := 33) (mc := 0) (ms := 0) (rest := []) X mt_X5_holds q5_102 q5_104 qs_32 0 wM_0 rfl (c_X5_holds hfl ⟨by omega, by omega⟩) (by decide) (by decide) (by decide) (Nat.le_of_ble_eq_true rfl) rfl rfl dX5_angleAnew_30 rfl (k_rb (fun _ => ?_) (fun h => absurd (by decide) h))
      refine g_if_eq (t := 40) (u := 36) X dX5_angleAnew_33 (by decide) rfl ⟨by omega, by omega⟩ (fun c => absurd c (by decide)) (fun _ => ?_)
      refine g_iconst (t := 37) X dX5_angleAnew_36 rfl ?_
      refine g_goto (t := 46) X dX5_angleAnew_37 (by decide) ?_
      exact g_iret X r ⟨(-1), W, rfl, Or.inr (Or.inl ⟨by omega, by omega, rfl⟩)⟩ (Nat.le_of_ble_eq_true rfl) (Nat.le_of_ble_eq_true rfl) dX5_angleAnew_46
  · refine g_if_ne (t := 13) (u := 9) X dX5_angleAnew_6 (by decide) rfl ⟨by omega, by omega⟩ (fun c => absurd c (by decide)) (fun _ => ?_)
    refine g_iconst (t := 10) X dX5_angleAnew_9 rfl ?_
    refine g_goto (t := 30) X dX5_angleAnew_10 (by decide) ?_
    refine g_callV (t := 33) (mc := 0) (ms := 0) (rest := []) X mt_X5_holds q5_102 q5_104 qs_32 0 wM_0 rfl (c_X5_holds hfl ⟨by omega, by omega⟩) (by decide) (by decide) (by decide) (Nat.le_of_ble_eq_true rfl) rfl rfl dX5_angleAnew_30 rfl (k_rb (fun _ => ?_) (fun h => absurd (by decide) h))
    refine g_if_eq (t := 40) (u := 36) X dX5_angleAnew_33 (by decide) rfl ⟨by omega, by omega⟩ (fun c => absurd c (by decide)) (fun _ => ?_)
    refine g_iconst (t := 37) X dX5_angleAnew_36 rfl ?_
    refine g_goto (t := 46) X dX5_angleAnew_37 (by decide) ?_
    exact g_iret X r ⟨(-1), W, rfl, Or.inl ⟨by omega, rfl⟩⟩ (Nat.le_of_ble_eq_true rfl) (Nat.le_of_ble_eq_true rfl) dX5_angleAnew_46

set_option maxHeartbeats 4000000 in
set_option maxRecDepth 100000 in
/-- where(part, open, what) -/
theorem c_X5_where {C : WC} {l : Launch} (hfl : l.stackTraces = false) {ad : Nat → Nat} {Y V : Nat → Int → Int} {W : Int → Int} {th : Int} {R : va_W} {p o x : Int} (hI : MI Y) (hp : Rg p) (ho : Rg o) (hx : Rg x) : MM C l yX5_where cX5_where 4 (some .int) 4 0 0 [.ref (ad 0), vi p, vi o, vi x] (wM C ad Y V W th ++ R) (pu2 (0 ≤ p ∧ p < Y 10 0) ((0 ≤ o ∧ o ≤ 180) ∧ 0 ≤ x ∧ x ≤ 2) (if x = 0 then riseF Y p o else if x = 1 then lowF Y p o else highF Y p o) (fun th W => wM C ad Y V W th ++ R) (fun W => wM C ad Y V W 0 ++ R)) := by
  refine mm_of (by decide +kernel) (Nat.le_of_ble_eq_true rfl) hfl (fun K Q X r => ?_)
  have X : Cx C l "SpringleafModel" cX5_where 4 4 0 0 K := X
  have I3 := hI.1
  have I10 := hI.2.2.1
  have I12 := hI.2.2.2.2.1
  obtain ⟨p1, p2⟩ := hp
  obtain ⟨o1, o2⟩ := ho
  obtain ⟨x1, x2⟩ := hx
  show G C K Q 0 0 0 [(0, .ref (ad 0)), (1, vi p), (2, vi o), (3, vi x)] [] (wM C ad Y V W th ++ R)
  refine g_aload_n (t := 1) X dX5_where_0 0 rfl rfl ?_
  refine g_aload_n (t := 2) X dX5_where_1 0 rfl rfl ?_
  refine g_iload_n (t := 3) X dX5_where_2 1 rfl rfl ?_
  refine g_callV (t := 6) (mc := 0) (ms := 0) (rest := [.ref (ad 0)]) X mt_X5_isPart q5_122 q5_124 qs_33 0 wM_0 rfl (c_X5_isPart hfl hI ⟨by omega, by omega⟩) (by decide) (by decide) (by decide) (Nat.le_of_ble_eq_true rfl) rfl rfl dX5_where_3 rfl (k_rb (fun b_3 => ?_) (fun b_3 => ?_))
  · refine g_if_ne (t := 13) (u := 9) X dX5_where_6 (by decide) rfl ⟨by omega, by omega⟩ (fun _ => ?_) (fun c => absurd c (by decide))
    refine g_aload_n (t := 14) X dX5_where_13 0 rfl rfl ?_
    refine g_iload_n (t := 15) X dX5_where_14 2 rfl rfl ?_
    refine g_iconst (t := 16) X dX5_where_15 rfl ?_
    refine g_sipush (t := 19) (z := 180) X dX5_where_16 (by decide +kernel) rfl ?_
    refine g_callV (t := 22) (mc := 0) (ms := 0) (rest := [.ref (ad 0)]) X mt_X5_in q5_54 q5_56 qs_20 0 wM_0 rfl (c_X5_in hfl ⟨by omega, by omega⟩ ⟨by omega, by omega⟩ ⟨by omega, by omega⟩) (by decide) (by decide) (by decide) (Nat.le_of_ble_eq_true rfl) rfl rfl dX5_where_19 rfl (k_rb (fun b_19 => ?_) (fun b_19 => ?_))
    · refine g_if_eq (t := 39) (u := 25) X dX5_where_22 (by decide) rfl ⟨by omega, by omega⟩ (fun c => absurd c (by decide)) (fun _ => ?_)
      refine g_aload_n (t := 26) X dX5_where_25 0 rfl rfl ?_
      refine g_iload_n (t := 27) X dX5_where_26 3 rfl rfl ?_
      refine g_iconst (t := 28) X dX5_where_27 rfl ?_
      refine g_iconst (t := 29) X dX5_where_28 rfl ?_
      refine g_callV (t := 32) (mc := 0) (ms := 0) (rest := [.ref (ad 0)]) X mt_X5_in q5_54 q5_56 qs_20 0 wM_0 rfl (c_X5_in hfl ⟨by omega, by omega⟩ ⟨by omega, by omega⟩ ⟨by omega, by omega⟩) (by decide) (by decide) (by decide) (Nat.le_of_ble_eq_true rfl) rfl rfl dX5_where_29 rfl (k_rb (fun b_29 => ?_) (fun b_29 => ?_))
      · refine g_if_eq (t := 39) (u := 35) X dX5_where_32 (by decide) rfl ⟨by omega, by omega⟩ (fun c => absurd c (by decide)) (fun _ => ?_)
        refine g_iconst (t := 36) X dX5_where_35 rfl ?_
        refine g_goto (t := 40) X dX5_where_36 (by decide) ?_
        refine g_callV (t := 43) (mc := 0) (ms := 0) (rest := []) X mt_X5_holds q5_102 q5_104 qs_32 0 wM_0 rfl (c_X5_holds hfl ⟨by omega, by omega⟩) (by decide) (by decide) (by decide) (Nat.le_of_ble_eq_true rfl) rfl rfl dX5_where_40 rfl (k_rb (fun h => absurd h (by decide)) (fun _ => ?_))
        refine g_if_eq (t := 48) (u := 46) X dX5_where_43 (by decide) rfl ⟨by omega, by omega⟩ (fun _ => ?_) (fun c => absurd c (by decide))
        refine g_iload_n (t := 49) X dX5_where_48 3 rfl rfl ?_
        refine g_if_ne (t := 61) (u := 52) X dX5_where_49 (by decide) rfl ⟨by omega, by omega⟩ (fun c_49 => ?_) (fun c_49 => ?_)
        · refine g_iload_n (t := 62) X dX5_where_61 3 rfl rfl ?_
          refine g_iconst (t := 63) X dX5_where_62 rfl ?_
          refine g_icmp_ne (t := 75) (u := 66) X dX5_where_63 (by decide) rfl ⟨by omega, by omega⟩ ⟨by omega, by omega⟩ (fun c_63 => ?_) (fun c_63 => ?_)
          · refine g_aload_n (t := 76) X dX5_where_75 0 rfl rfl ?_
            refine g_iload_n (t := 77) X dX5_where_76 1 rfl rfl ?_
            refine g_iload_n (t := 78) X dX5_where_77 2 rfl rfl ?_
            refine g_callV (t := 81) (mc := 0) (ms := 0) (rest := []) X mt_X5_high q5_98 q5_100 qs_31 0 wM_0 rfl (c_X5_high hfl hI (by omega) (by omega) (by omega) (by omega)) (by decide) (by decide) (by decide) (Nat.le_of_ble_eq_true rfl) rfl rfl dX5_where_78 rfl (k_rw (fun W78 => ?_))
            exact g_iret X r ⟨highF Y p o, W78, rfl, Or.inr (Or.inr ⟨by omega, by omega, by first | (rw [if_pos (by omega)]) | (rw [if_neg (by omega), if_pos (by omega)]) | (rw [if_neg (by omega), if_neg (by omega)]), rfl⟩)⟩ (Nat.le_of_ble_eq_true rfl) (Nat.le_of_ble_eq_true rfl) dX5_where_81
          · refine g_aload_n (t := 67) X dX5_where_66 0 rfl rfl ?_
            refine g_iload_n (t := 68) X dX5_where_67 1 rfl rfl ?_
            refine g_iload_n (t := 69) X dX5_where_68 2 rfl rfl ?_
            refine g_callV (t := 72) (mc := 0) (ms := 0) (rest := []) X mt_X5_low q5_90 q5_92 qs_29 0 wM_0 rfl (c_X5_low hfl hI (by omega) (by omega) (by omega) (by omega)) (by decide) (by decide) (by decide) (Nat.le_of_ble_eq_true rfl) rfl rfl dX5_where_69 rfl (k_rw (fun W69 => ?_))
            refine g_goto (t := 81) X dX5_where_72 (by decide) ?_
            exact g_iret X r ⟨lowF Y p o, W69, rfl, Or.inr (Or.inr ⟨by omega, by omega, by first | (rw [if_pos (by omega)]) | (rw [if_neg (by omega), if_pos (by omega)]) | (rw [if_neg (by omega), if_neg (by omega)]), rfl⟩)⟩ (Nat.le_of_ble_eq_true rfl) (Nat.le_of_ble_eq_true rfl) dX5_where_81
        · refine g_aload_n (t := 53) X dX5_where_52 0 rfl rfl ?_
          refine g_iload_n (t := 54) X dX5_where_53 1 rfl rfl ?_
          refine g_iload_n (t := 55) X dX5_where_54 2 rfl rfl ?_
          refine g_callV (t := 58) (mc := 0) (ms := 0) (rest := []) X mt_X5_rises q5_74 q5_76 qs_25 0 wM_0 rfl (c_X5_rises hfl hI (by omega) (by omega) (by omega) (by omega)) (by decide) (by decide) (by decide) (Nat.le_of_ble_eq_true rfl) rfl rfl dX5_where_55 rfl (k_rw (fun W55 => ?_))
          refine g_goto (t := 81) X dX5_where_58 (by decide) ?_
          exact g_iret X r ⟨riseF Y p o, W55, rfl, Or.inr (Or.inr ⟨by omega, by omega, by first | (rw [if_pos (by omega)]) | (rw [if_neg (by omega), if_pos (by omega)]) | (rw [if_neg (by omega), if_neg (by omega)]), rfl⟩)⟩ (Nat.le_of_ble_eq_true rfl) (Nat.le_of_ble_eq_true rfl) dX5_where_81
      · refine g_if_eq (t := 39) (u := 35) X dX5_where_32 (by decide) rfl ⟨by omega, by omega⟩ (fun _ => ?_) (fun c => absurd c (by decide))
        refine g_iconst (t := 40) X dX5_where_39 rfl ?_
        refine g_callV (t := 43) (mc := 0) (ms := 0) (rest := []) X mt_X5_holds q5_102 q5_104 qs_32 0 wM_0 rfl (c_X5_holds hfl ⟨by omega, by omega⟩) (by decide) (by decide) (by decide) (Nat.le_of_ble_eq_true rfl) rfl rfl dX5_where_40 rfl (k_rb (fun _ => ?_) (fun h => absurd (by decide) h))
        refine g_if_eq (t := 48) (u := 46) X dX5_where_43 (by decide) rfl ⟨by omega, by omega⟩ (fun c => absurd c (by decide)) (fun _ => ?_)
        refine g_iconst (t := 47) X dX5_where_46 rfl ?_
        exact g_iret X r ⟨(-1), W, rfl, Or.inr (Or.inl ⟨by omega, by omega, rfl⟩)⟩ (Nat.le_of_ble_eq_true rfl) (Nat.le_of_ble_eq_true rfl) dX5_where_47
    · refine g_if_eq (t := 39) (u := 25) X dX5_where_22 (by decide) rfl ⟨by omega, by omega⟩ (fun _ => ?_) (fun c => absurd c (by decide))
      refine g_iconst (t := 40) X dX5_where_39 rfl ?_
      refine g_callV (t := 43) (mc := 0) (ms := 0) (rest := []) X mt_X5_holds q5_102 q5_104 qs_32 0 wM_0 rfl (c_X5_holds hfl ⟨by omega, by omega⟩) (by decide) (by decide) (by decide) (Nat.le_of_ble_eq_true rfl) rfl rfl dX5_where_40 rfl (k_rb (fun _ => ?_) (fun h => absurd (by decide) h))
      refine g_if_eq (t := 48) (u := 46) X dX5_where_43 (by decide) rfl ⟨by omega, by omega⟩ (fun c => absurd c (by decide)) (fun _ => ?_)
      refine g_iconst (t := 47) X dX5_where_46 rfl ?_
      exact g_iret X r ⟨(-1), W, rfl, Or.inr (Or.inl ⟨by omega, by omega, rfl⟩)⟩ (Nat.le_of_ble_eq_true rfl) (Nat.le_of_ble_eq_true rfl) dX5_where_47
  · refine g_if_ne (t := 13) (u := 9) X dX5_where_6 (by decide) rfl ⟨by omega, by omega⟩ (fun c => absurd c (by decide)) (fun _ => ?_)
    refine g_iconst (t := 10) X dX5_where_9 rfl ?_
    refine g_goto (t := 40) X dX5_where_10 (by decide) ?_
    refine g_callV (t := 43) (mc := 0) (ms := 0) (rest := []) X mt_X5_holds q5_102 q5_104 qs_32 0 wM_0 rfl (c_X5_holds hfl ⟨by omega, by omega⟩) (by decide) (by decide) (by decide) (Nat.le_of_ble_eq_true rfl) rfl rfl dX5_where_40 rfl (k_rb (fun _ => ?_) (fun h => absurd (by decide) h))
    refine g_if_eq (t := 48) (u := 46) X dX5_where_43 (by decide) rfl ⟨by omega, by omega⟩ (fun c => absurd c (by decide)) (fun _ => ?_)
    refine g_iconst (t := 47) X dX5_where_46 rfl ?_
    exact g_iret X r ⟨(-1), W, rfl, Or.inl ⟨by omega, rfl⟩⟩ (Nat.le_of_ble_eq_true rfl) (Nat.le_of_ble_eq_true rfl) dX5_where_47

set_option maxHeartbeats 4000000 in
set_option maxRecDepth 100000 in
/-- meet(part, other, open) -/
theorem c_X5_meet {C : WC} {l : Launch} (hfl : l.stackTraces = false) {ad : Nat → Nat} {Y V : Nat → Int → Int} {W : Int → Int} {th : Int} {R : va_W} {p q o : Int} (hI : MI Y) (hp : Rg p) (hq : Rg q) (ho : Rg o) : MM C l yX5_meet cX5_meet 4 (some .boolean) 5 0 0 [.ref (ad 0), vi p, vi q, vi o] (wM C ad Y V W th ++ R) (pu2 ((0 ≤ p ∧ p < Y 10 0) ∧ 0 ≤ q ∧ q < Y 10 0) (0 ≤ o ∧ o ≤ 180) (bF (meetF Y p q o)) (fun th W => wM C ad Y V W th ++ R) (fun W => wM C ad Y V W 0 ++ R)) := by
  refine mm_of (by decide +kernel) (Nat.le_of_ble_eq_true rfl) hfl (fun K Q X r => ?_)
  have X : Cx C l "SpringleafModel" cX5_meet 4 5 0 0 K := X
  have I3 := hI.1
  have I10 := hI.2.2.1
  have I12 := hI.2.2.2.2.1
  obtain ⟨p1, p2⟩ := hp
  obtain ⟨q1, q2⟩ := hq
  obtain ⟨o1, o2⟩ := ho
  show G C K Q 0 0 0 [(0, .ref (ad 0)), (1, vi p), (2, vi q), (3, vi o)] [] (wM C ad Y V W th ++ R)
  refine g_aload_n (t := 1) X dX5_meet_0 0 rfl rfl ?_
  refine g_aload_n (t := 2) X dX5_meet_1 0 rfl rfl ?_
  refine g_iload_n (t := 3) X dX5_meet_2 1 rfl rfl ?_
  refine g_callV (t := 6) (mc := 0) (ms := 0) (rest := [.ref (ad 0)]) X mt_X5_isPart q5_122 q5_124 qs_33 0 wM_0 rfl (c_X5_isPart hfl hI ⟨by omega, by omega⟩) (by decide) (by decide) (by decide) (Nat.le_of_ble_eq_true rfl) rfl rfl dX5_meet_3 rfl (k_rb (fun b_3 => ?_) (fun b_3 => ?_))
  · refine g_if_eq (t := 17) (u := 9) X dX5_meet_6 (by decide) rfl ⟨by omega, by omega⟩ (fun c => absurd c (by decide)) (fun _ => ?_)
    refine g_aload_n (t := 10) X dX5_meet_9 0 rfl rfl ?_
    refine g_iload_n (t := 11) X dX5_meet_10 2 rfl rfl ?_
    refine g_callV (t := 14) (mc := 0) (ms := 0) (rest := [.ref (ad 0)]) X mt_X5_isPart q5_122 q5_124 qs_33 0 wM_0 rfl (c_X5_isPart hfl hI ⟨by omega, by omega⟩) (by decide) (by decide) (by decide) (Nat.le_of_ble_eq_true rfl) rfl rfl dX5_meet_11 rfl (k_rb (fun b_11 => ?_) (fun b_11 => ?_))
    · refine g_if_ne (t := 21) (u := 17) X dX5_meet_14 (by decide) rfl ⟨by omega, by omega⟩ (fun _ => ?_) (fun c => absurd c (by decide))
      refine g_aload_n (t := 22) X dX5_meet_21 0 rfl rfl ?_
      refine g_iload_n (t := 23) X dX5_meet_22 3 rfl rfl ?_
      refine g_iconst (t := 24) X dX5_meet_23 rfl ?_
      refine g_sipush (t := 27) (z := 180) X dX5_meet_24 (by decide +kernel) rfl ?_
      refine g_callV (t := 30) (mc := 0) (ms := 0) (rest := [.ref (ad 0)]) X mt_X5_in q5_54 q5_56 qs_20 0 wM_0 rfl (c_X5_in hfl ⟨by omega, by omega⟩ ⟨by omega, by omega⟩ ⟨by omega, by omega⟩) (by decide) (by decide) (by decide) (Nat.le_of_ble_eq_true rfl) rfl rfl dX5_meet_27 rfl (k_rb (fun b_27 => ?_) (fun b_27 => ?_))
      · refine g_if_eq (t := 37) (u := 33) X dX5_meet_30 (by decide) rfl ⟨by omega, by omega⟩ (fun c => absurd c (by decide)) (fun _ => ?_)
        refine g_iconst (t := 34) X dX5_meet_33 rfl ?_
        refine g_goto (t := 38) X dX5_meet_34 (by decide) ?_
        refine g_callV (t := 41) (mc := 0) (ms := 0) (rest := []) X mt_X5_holds q5_102 q5_104 qs_32 0 wM_0 rfl (c_X5_holds hfl ⟨by omega, by omega⟩) (by decide) (by decide) (by decide) (Nat.le_of_ble_eq_true rfl) rfl rfl dX5_meet_38 rfl (k_rb (fun h => absurd h (by decide)) (fun _ => ?_))
        refine g_if_eq (t := 46) (u := 44) X dX5_meet_41 (by decide) rfl ⟨by omega, by omega⟩ (fun _ => ?_) (fun c => absurd c (by decide))
        refine g_aload_n (t := 47) X dX5_meet_46 0 rfl rfl ?_
        refine g_iload_n (t := 48) X dX5_meet_47 1 rfl rfl ?_
        refine g_iload_n (t := 49) X dX5_meet_48 2 rfl rfl ?_
        refine g_iload_n (t := 50) X dX5_meet_49 3 rfl rfl ?_
        refine g_callV (t := 53) (mc := 0) (ms := 0) (rest := []) X mt_X5_meets q5_70 q5_72 qs_24 0 wM_0 rfl (c_X5_meets hfl hI (by omega) (by omega) (by omega) (by omega) (by omega) (by omega)) (by decide) (by decide) (by decide) (Nat.le_of_ble_eq_true rfl) rfl rfl dX5_meet_50 rfl (k_rbw (fun W50 b_50 => ?_) (fun W50 b_50 => ?_))
        · exact g_zret X r rfl ⟨1, W50, rfl, Or.inr (Or.inr ⟨by omega, by omega, bF_t (by assumption), rfl⟩)⟩ (Nat.le_of_ble_eq_true rfl) (Nat.le_of_ble_eq_true rfl) dX5_meet_53
        · exact g_zret X r rfl ⟨0, W50, rfl, Or.inr (Or.inr ⟨by omega, by omega, bF_f (by assumption), rfl⟩)⟩ (Nat.le_of_ble_eq_true rfl) (Nat.le_of_ble_eq_true rfl) dX5_meet_53
      · refine g_if_eq (t := 37) (u := 33) X dX5_meet_30 (by decide) rfl ⟨by omega, by omega⟩ (fun _ => ?_) (fun c => absurd c (by decide))
        refine g_iconst (t := 38) X dX5_meet_37 rfl ?_
        refine g_callV (t := 41) (mc := 0) (ms := 0) (rest := []) X mt_X5_holds q5_102 q5_104 qs_32 0 wM_0 rfl (c_X5_holds hfl ⟨by omega, by omega⟩) (by decide) (by decide) (by decide) (Nat.le_of_ble_eq_true rfl) rfl rfl dX5_meet_38 rfl (k_rb (fun _ => ?_) (fun h => absurd (by decide) h))
        refine g_if_eq (t := 46) (u := 44) X dX5_meet_41 (by decide) rfl ⟨by omega, by omega⟩ (fun c => absurd c (by decide)) (fun _ => ?_)
        refine g_iconst (t := 45) X dX5_meet_44 rfl ?_
        exact g_zret X r rfl ⟨0, W, rfl, Or.inr (Or.inl ⟨by omega, by omega, rfl⟩)⟩ (Nat.le_of_ble_eq_true rfl) (Nat.le_of_ble_eq_true rfl) dX5_meet_45
    · refine g_if_ne (t := 21) (u := 17) X dX5_meet_14 (by decide) rfl ⟨by omega, by omega⟩ (fun c => absurd c (by decide)) (fun _ => ?_)
      refine g_iconst (t := 18) X dX5_meet_17 rfl ?_
      refine g_goto (t := 38) X dX5_meet_18 (by decide) ?_
      refine g_callV (t := 41) (mc := 0) (ms := 0) (rest := []) X mt_X5_holds q5_102 q5_104 qs_32 0 wM_0 rfl (c_X5_holds hfl ⟨by omega, by omega⟩) (by decide) (by decide) (by decide) (Nat.le_of_ble_eq_true rfl) rfl rfl dX5_meet_38 rfl (k_rb (fun _ => ?_) (fun h => absurd (by decide) h))
      refine g_if_eq (t := 46) (u := 44) X dX5_meet_41 (by decide) rfl ⟨by omega, by omega⟩ (fun c => absurd c (by decide)) (fun _ => ?_)
      refine g_iconst (t := 45) X dX5_meet_44 rfl ?_
      exact g_zret X r rfl ⟨0, W, rfl, Or.inl ⟨by omega, rfl⟩⟩ (Nat.le_of_ble_eq_true rfl) (Nat.le_of_ble_eq_true rfl) dX5_meet_45
  · refine g_if_eq (t := 17) (u := 9) X dX5_meet_6 (by decide) rfl ⟨by omega, by omega⟩ (fun _ => ?_) (fun c => absurd c (by decide))
    refine g_iconst (t := 18) X dX5_meet_17 rfl ?_
    refine g_goto (t := 38) X dX5_meet_18 (by decide) ?_
    refine g_callV (t := 41) (mc := 0) (ms := 0) (rest := []) X mt_X5_holds q5_102 q5_104 qs_32 0 wM_0 rfl (c_X5_holds hfl ⟨by omega, by omega⟩) (by decide) (by decide) (by decide) (Nat.le_of_ble_eq_true rfl) rfl rfl dX5_meet_38 rfl (k_rb (fun _ => ?_) (fun h => absurd (by decide) h))
    refine g_if_eq (t := 46) (u := 44) X dX5_meet_41 (by decide) rfl ⟨by omega, by omega⟩ (fun c => absurd c (by decide)) (fun _ => ?_)
    refine g_iconst (t := 45) X dX5_meet_44 rfl ?_
    exact g_zret X r rfl ⟨0, W, rfl, Or.inl ⟨by omega, rfl⟩⟩ (Nat.le_of_ble_eq_true rfl) (Nat.le_of_ble_eq_true rfl) dX5_meet_45

set_option maxHeartbeats 4000000 in
set_option maxRecDepth 100000 in
/-- test() -/
theorem c_X5_test {C : WC} {l : Launch} (hfl : l.stackTraces = false) {ad : Nat → Nat} {Y V : Nat → Int → Int} {W : Int → Int} {th : Int} {R : va_W} (hI : MI Y) : MM C l yX5_test cX5_test 1 (some .int) 6 0 0 [.ref (ad 0)] (wM C ad Y V W th ++ R) (rq (vi (testF Y)) (fun W => wM C ad Y V W 0 ++ R)) := by
  refine mm_of (by decide +kernel) (Nat.le_of_ble_eq_true rfl) hfl (fun K Q X r => ?_)
  have X : Cx C l "SpringleafModel" cX5_test 1 6 0 0 K := X
  have I3 := hI.1
  have I10 := hI.2.2.1
  have I12 := hI.2.2.2.2.1
  show G C K Q 0 0 0 [(0, .ref (ad 0))] [] (wM C ad Y V W th ++ R)
  refine g_aload_n (t := 1) X dX5_test_0 0 rfl rfl ?_
  refine g_iconst (t := 2) X dX5_test_1 rfl ?_
  refine g_callV (t := 5) (mc := 0) (ms := 0) (rest := []) X mt_X5_holds q5_102 q5_104 qs_32 0 wM_0 rfl (c_X5_holds hfl ⟨by omega, by omega⟩) (by decide) (by decide) (by decide) (Nat.le_of_ble_eq_true rfl) rfl rfl dX5_test_2 rfl (k_rb (fun h => absurd h (by decide)) (fun _ => ?_))
  refine g_pop (t := 6) X dX5_test_5 rfl rfl ?_
  refine g_aload_n (t := 7) X dX5_test_6 0 rfl rfl ?_
  refine g_callV (t := 10) (mc := 0) (ms := 0) (rest := []) X mt_X5_tests q5_66 q5_68 qs_23 0 wM_0 rfl (c_X5_tests hfl hI) (by decide) (by decide) (by decide) (Nat.le_of_ble_eq_true rfl) rfl rfl dX5_test_7 rfl (k_rw (fun W7 => ?_))
  exact g_iret X r ⟨rfl, W7, rfl⟩ (Nat.le_of_ble_eq_true rfl) (Nat.le_of_ble_eq_true rfl) dX5_test_10

set_option maxHeartbeats 4000000 in
set_option maxRecDepth 100000 in
/-- isBound() -/
theorem c_X5_isBound {C : WC} {l : Launch} (hfl : l.stackTraces = false) {ad : Nat → Nat} {Y V : Nat → Int → Int} {W : Int → Int} {th : Int} {R : va_W} (hI : MI Y) : MM C l yX5_isBound cX5_isBound 1 (some .boolean) 7 0 0 [.ref (ad 0)] (wM C ad Y V W th ++ R) (rbq (boundF Y) (fun W => wM C ad Y V W 0 ++ R)) := by
  refine mm_of (by decide +kernel) (Nat.le_of_ble_eq_true rfl) hfl (fun K Q X r => ?_)
  have X : Cx C l "SpringleafModel" cX5_isBound 1 7 0 0 K := X
  have I3 := hI.1
  have I10 := hI.2.2.1
  have I12 := hI.2.2.2.2.1
  show G C K Q 0 0 0 [(0, .ref (ad 0))] [] (wM C ad Y V W th ++ R)
  refine g_aload_n (t := 1) X dX5_isBound_0 0 rfl rfl ?_
  refine g_iconst (t := 2) X dX5_isBound_1 rfl ?_
  refine g_callV (t := 5) (mc := 0) (ms := 0) (rest := []) X mt_X5_holds q5_102 q5_104 qs_32 0 wM_0 rfl (c_X5_holds hfl ⟨by omega, by omega⟩) (by decide) (by decide) (by decide) (Nat.le_of_ble_eq_true rfl) rfl rfl dX5_isBound_2 rfl (k_rb (fun h => absurd h (by decide)) (fun _ => ?_))
  refine g_pop (t := 6) X dX5_isBound_5 rfl rfl ?_
  refine g_aload_n (t := 7) X dX5_isBound_6 0 rfl rfl ?_
  refine g_callV (t := 10) (mc := 0) (ms := 0) (rest := []) X mt_X5_bound q5_62 q5_64 qs_22 0 wM_0 rfl (c_X5_bound hfl hI) (by decide) (by decide) (by decide) (Nat.le_of_ble_eq_true rfl) rfl rfl dX5_isBound_7 rfl (k_rbw (fun W7 b_7 => ?_) (fun W7 b_7 => ?_))
  · exact g_zret X r rfl (rbq_t W7 (by assumption) rfl) (Nat.le_of_ble_eq_true rfl) (Nat.le_of_ble_eq_true rfl) dX5_isBound_10
  · exact g_zret X r rfl (rbq_f W7 (by assumption) rfl) (Nat.le_of_ble_eq_true rfl) (Nat.le_of_ble_eq_true rfl) dX5_isBound_10

set_option maxHeartbeats 4000000 in
set_option maxRecDepth 100000 in
/-- canGlue(p) -/
theorem c_X5_canGlue {C : WC} {l : Launch} (hfl : l.stackTraces = false) {ad : Nat → Nat} {Y V : Nat → Int → Int} {W : Int → Int} {th : Int} {R : va_W} {p : Int} (hI : MI Y) (p0 : 0 ≤ p) (p1 : p < Y 10 0) : MM C l yX5_canGlue cX5_canGlue 6 (some .boolean) 4 0 0 [.ref (ad 0), vi p] (wM C ad Y V W th ++ R) (rbq (canF Y p) (fun W => wM C ad Y V W th ++ R)) := by
  refine mm_of (by decide +kernel) (Nat.le_of_ble_eq_true rfl) hfl (fun K Q X r => ?_)
  have X : Cx C l "SpringleafModel" cX5_canGlue 6 4 0 0 K := X
  have I3 := hI.1
  have I10 := hI.2.2.1
  have I12 := hI.2.2.2.2.1
  have hp := hI.2.2.2.1 p p0 p1
  have hz : -2147483648 ≤ Y 0 (Y 4 p) ∧ Y 0 (Y 4 p) < 2147483648 := by
    rcases Int.lt_or_eq_of_le hp.1.1 with q | q
    · have := hI.2.1 (Y 4 p) (by omega) hp.1.2
      omega
    · rw [← q, hI.2.2.2.2.2.2.2]; omega
  have loop : ∀ (n : Nat) (hd fr k : Int) (W : Int → Int), 0 ≤ k → k ≤ Y 12 0 → Y 12 0 - k < n → B01 hd (HeldP Y p k) → B01 fr (FreeP Y p k) → G C K Q 0 0 32 [(0, .ref (ad 0)), (1, vi p), (2, vi hd), (3, vi fr), (4, vi k)] [] (wM C ad Y V W th ++ R) := by
    intro n
    induction n with
    | zero => intro hd fr k W h0 h1 h2; exact absurd h2 (by omega)
    | succ n ih =>
      intro hd fr k W k0 k1 h2 hh hf
      have hhi0 := hh.i
      have hfi0 := hf.i
      refine g_iload (t := 34) X dX5_canGlue_32 4 rfl rfl ?_
      refine g_aload_n (t := 35) X dX5_canGlue_34 0 rfl rfl ?_
      refine m_getf (t := 38) X 12 (by decide) q4_221 rfl rfl dX5_canGlue_35 rfl ?_
      refine g_icmp_ge (t := 139) (u := 41) X dX5_canGlue_38 (by decide) rfl ⟨by omega, by omega⟩ ⟨by omega, by omega⟩ (fun c_38 => ?_) (fun c_38 => ?_)
      · have ek : k = Y 12 0 := by omega
        refine g_iload_n (t := 140) X dX5_canGlue_139 2 rfl rfl ?_
        refine g_if_eq (t := 151) (u := 143) X dX5_canGlue_140 (by decide) rfl ⟨by omega, by omega⟩ (fun c_140 => ?_) (fun c_140 => ?_)
        · refine g_iconst (t := 152) X dX5_canGlue_151 rfl ?_
          exact g_zret X r rfl (rbq_f _ (by rw [ek] at hh hf; rintro ⟨g1, g2⟩; first | exact hh.elim (fun h => by omega) (fun h => h.2 g1) | exact hf.elim (fun h => by omega) (fun h => h.2 g2)) rfl) (Nat.le_of_ble_eq_true rfl) (Nat.le_of_ble_eq_true rfl) dX5_canGlue_152
        · refine g_iload_n (t := 144) X dX5_canGlue_143 3 rfl rfl ?_
          refine g_if_eq (t := 151) (u := 147) X dX5_canGlue_144 (by decide) rfl ⟨by omega, by omega⟩ (fun c_144 => ?_) (fun c_144 => ?_)
          · refine g_iconst (t := 152) X dX5_canGlue_151 rfl ?_
            exact g_zret X r rfl (rbq_f _ (by rw [ek] at hh hf; rintro ⟨g1, g2⟩; first | exact hh.elim (fun h => by omega) (fun h => h.2 g1) | exact hf.elim (fun h => by omega) (fun h => h.2 g2)) rfl) (Nat.le_of_ble_eq_true rfl) (Nat.le_of_ble_eq_true rfl) dX5_canGlue_152
          · refine g_iconst (t := 148) X dX5_canGlue_147 rfl ?_
            refine g_goto (t := 152) X dX5_canGlue_148 (by decide) ?_
            exact g_zret X r rfl (rbq_t _ (by rw [ek] at hh hf; exact ⟨hh.elim (fun h => h.2) (fun h => absurd h.1 c_140), hf.elim (fun h => h.2) (fun h => absurd h.1 c_144)⟩) rfl) (Nat.le_of_ble_eq_true rfl) (Nat.le_of_ble_eq_true rfl) dX5_canGlue_152
      · have ho := hI.2.2.2.2.2.1 k k0 (by omega)
        have hq := hI.2.2.2.1 (Y 11 k) ho.1 ho.2
        have hlo := low_rng hI ho.1 ho.2 (o := 180) (by omega) (by omega)
        have hhi := high_rng hI ho.1 ho.2 (o := 180) (by omega) (by omega)
        have hhi1 := hh.i
        have hfi1 := hf.i
        refine g_aload_n (t := 42) X dX5_canGlue_41 0 rfl rfl ?_
        refine m_getf (t := 45) X 11 (by decide) q4_220 rfl rfl dX5_canGlue_42 rfl ?_
        refine g_iload (t := 47) X dX5_canGlue_45 4 rfl rfl ?_
        refine g_iald (t := 48) (f := Y 11) X 10 wM_order (by omega) (by omega) (by omega) dX5_canGlue_47 rfl ?_
        refine g_istore (t := 50) (lv1 := [(5, vi ((Y 11) k)), (0, .ref (ad 0)), (1, vi p), (2, vi hd), (3, vi fr), (4, vi k)]) X dX5_canGlue_48 (by decide) rfl rfl ?_
        refine g_iload_n (t := 51) X dX5_canGlue_50 3 rfl rfl ?_
        refine g_aload_n (t := 52) X dX5_canGlue_51 1 rfl rfl ?_
        refine m_getf (t := 55) X 4 (by decide) q4_213 rfl rfl dX5_canGlue_52 rfl ?_
        refine g_iload (t := 57) X dX5_canGlue_55 0 rfl rfl ?_
        refine g_iald (t := 58) (f := Y 4) X 4 wM_pf (by omega) (by omega) (by omega) dX5_canGlue_57 rfl ?_
        refine g_aload_n (t := 59) X dX5_canGlue_58 1 rfl rfl ?_
        refine m_getf (t := 62) X 0 (by decide) q4_209 rfl rfl dX5_canGlue_59 rfl ?_
        refine g_aload_n (t := 63) X dX5_canGlue_62 1 rfl rfl ?_
        refine m_getf (t := 66) X 4 (by decide) q4_213 rfl rfl dX5_canGlue_63 rfl ?_
        refine g_iload_n (t := 67) X dX5_canGlue_66 2 rfl rfl ?_
        refine g_iald (t := 68) (f := Y 4) X 4 wM_pf (by omega) (by omega) (by omega) dX5_canGlue_67 rfl ?_
        refine g_iald (t := 69) (f := Y 0) X 1 wM_fo (by omega) (by omega) (by omega) dX5_canGlue_68 rfl ?_
        refine g_icmp_ne (t := 76) (u := 72) X dX5_canGlue_69 (by decide) rfl ⟨by omega, by omega⟩ ⟨by omega, by omega⟩ (fun c_69 => ?_) (fun c_69 => ?_)
        · refine g_iconst (t := 77) X dX5_canGlue_76 rfl ?_
          refine g_ior (t := 78) (z := hd) X dX5_canGlue_77 (or_0 hh.i) rfl ?_
          refine g_istore_n (t := 79) (lv1 := [(2, vi hd), (5, vi ((Y 11) k)), (0, .ref (ad 0)), (1, vi p), (3, vi fr), (4, vi k)]) X dX5_canGlue_78 (by decide) rfl rfl ?_
          refine g_iload_n (t := 80) X dX5_canGlue_79 4 rfl rfl ?_
          refine g_aload_n (t := 81) X dX5_canGlue_80 2 rfl rfl ?_
          refine g_iload_n (t := 82) X dX5_canGlue_81 3 rfl rfl ?_
          refine g_iload (t := 84) X dX5_canGlue_82 1 rfl rfl ?_
          refine g_callV (t := 87) (mc := 0) (ms := 0) (rest := [vi fr]) X mt_X5_share q5_86 q5_88 qs_28 0 wM_0 rfl (c_X5_share hfl hI (by omega) (by omega) (by omega) (by omega)) (by decide) (by decide) (by decide) (Nat.le_of_ble_eq_true rfl) rfl rfl dX5_canGlue_84 rfl (k_rb (fun b_84 => ?_) (fun b_84 => ?_))
          · refine g_if_eq (t := 126) (u := 90) X dX5_canGlue_87 (by decide) rfl ⟨by omega, by omega⟩ (fun c => absurd c (by decide)) (fun _ => ?_)
            refine g_aload_n (t := 91) X dX5_canGlue_90 2 rfl rfl ?_
            refine m_getf (t := 94) X 5 (by decide) q4_214 rfl rfl dX5_canGlue_91 rfl ?_
            refine g_iload_n (t := 95) X dX5_canGlue_94 3 rfl rfl ?_
            refine g_iald (t := 96) (f := Y 5) X 5 wM_pp (by omega) (by omega) (by omega) dX5_canGlue_95 rfl ?_
            refine g_aload_n (t := 97) X dX5_canGlue_96 2 rfl rfl ?_
            refine g_iload (t := 99) X dX5_canGlue_97 1 rfl rfl ?_
            refine g_sipush (t := 102) (z := 180) X dX5_canGlue_99 (by decide +kernel) rfl ?_
            refine g_callV (t := 105) (mc := 0) (ms := 0) (rest := [vi ((Y 5) p), vi fr]) X mt_X5_low q5_90 q5_92 qs_29 0 wM_0 rfl (c_X5_low hfl hI (by omega) (by omega) (by omega) (by omega)) (by decide) (by decide) (by decide) (Nat.le_of_ble_eq_true rfl) rfl rfl dX5_canGlue_102 rfl (k_rw (fun W102 => ?_))
            refine g_icmp_lt (t := 126) (u := 108) X dX5_canGlue_105 (by decide) rfl ⟨by omega, by omega⟩ ⟨by omega, by omega⟩ (fun c_105 => ?_) (fun c_105 => ?_)
            · refine g_iconst (t := 127) X dX5_canGlue_126 rfl ?_
              refine g_goto (t := 131) X dX5_canGlue_127 (by decide) ?_
              refine g_iand (t := 132) (z := fr) X dX5_canGlue_131 (and_1 hf.i) rfl ?_
              refine g_istore_n (t := 133) (lv1 := [(3, vi fr), (2, vi hd), (5, vi ((Y 11) k)), (0, .ref (ad 0)), (1, vi p), (4, vi k)]) X dX5_canGlue_132 (by decide) rfl rfl ?_
              refine g_iinc (t := 136) (lv1 := [(4, vi (k + 1)), (3, vi fr), (2, vi hd), (5, vi ((Y 11) k)), (0, .ref (ad 0)), (1, vi p)]) X dX5_canGlue_133 5 rfl (by decide) rfl rfl ?_
              refine g_goto (t := 32) X dX5_canGlue_136 (by decide) ?_
              exact g_lv (ih (hd) (fr) (k + 1) W102 (by omega) (by omega) (by omega) (hh.c (held_n c_69)) (hf.c (free_s (by rintro ⟨g1, g2, g3⟩; first | exact absurd g1 (by assumption) | omega)))) [4, 5, 2, 1, 0] rfl
            · refine g_aload_n (t := 109) X dX5_canGlue_108 2 rfl rfl ?_
              refine m_getf (t := 112) X 5 (by decide) q4_214 rfl rfl dX5_canGlue_109 rfl ?_
              refine g_iload_n (t := 113) X dX5_canGlue_112 3 rfl rfl ?_
              refine g_iald (t := 114) (f := Y 5) X 5 wM_pp (by omega) (by omega) (by omega) dX5_canGlue_113 rfl ?_
              refine g_aload_n (t := 115) X dX5_canGlue_114 2 rfl rfl ?_
              refine g_iload (t := 117) X dX5_canGlue_115 1 rfl rfl ?_
              refine g_sipush (t := 120) (z := 180) X dX5_canGlue_117 (by decide +kernel) rfl ?_
              refine g_callV (t := 123) (mc := 0) (ms := 0) (rest := [vi ((Y 5) p), vi fr]) X mt_X5_high q5_98 q5_100 qs_31 0 wM_0 rfl (c_X5_high hfl hI (by omega) (by omega) (by omega) (by omega)) (by decide) (by decide) (by decide) (Nat.le_of_ble_eq_true rfl) rfl rfl dX5_canGlue_120 rfl (k_rw (fun W120 => ?_))
              refine g_icmp_le (t := 130) (u := 126) X dX5_canGlue_123 (by decide) rfl ⟨by omega, by omega⟩ ⟨by omega, by omega⟩ (fun c_123 => ?_) (fun c_123 => ?_)
              · refine g_iconst (t := 131) X dX5_canGlue_130 rfl ?_
                refine g_iand (t := 132) (z := 0) X dX5_canGlue_131 (and_0 hf.i) rfl ?_
                refine g_istore_n (t := 133) (lv1 := [(3, vi 0), (2, vi hd), (5, vi ((Y 11) k)), (0, .ref (ad 0)), (1, vi p), (4, vi k)]) X dX5_canGlue_132 (by decide) rfl rfl ?_
                refine g_iinc (t := 136) (lv1 := [(4, vi (k + 1)), (3, vi 0), (2, vi hd), (5, vi ((Y 11) k)), (0, .ref (ad 0)), (1, vi p)]) X dX5_canGlue_133 5 rfl (by decide) rfl rfl ?_
                refine g_goto (t := 32) X dX5_canGlue_136 (by decide) ?_
                exact g_lv (ih (hd) (0) (k + 1) W120 (by omega) (by omega) (by omega) (hh.c (held_n c_69)) (Or.inr ⟨rfl, free_n k0 ⟨by first | assumption | omega, by omega, by omega⟩⟩)) [4, 5, 2, 1, 0] rfl
              · refine g_iconst (t := 127) X dX5_canGlue_126 rfl ?_
                refine g_goto (t := 131) X dX5_canGlue_127 (by decide) ?_
                refine g_iand (t := 132) (z := fr) X dX5_canGlue_131 (and_1 hf.i) rfl ?_
                refine g_istore_n (t := 133) (lv1 := [(3, vi fr), (2, vi hd), (5, vi ((Y 11) k)), (0, .ref (ad 0)), (1, vi p), (4, vi k)]) X dX5_canGlue_132 (by decide) rfl rfl ?_
                refine g_iinc (t := 136) (lv1 := [(4, vi (k + 1)), (3, vi fr), (2, vi hd), (5, vi ((Y 11) k)), (0, .ref (ad 0)), (1, vi p)]) X dX5_canGlue_133 5 rfl (by decide) rfl rfl ?_
                refine g_goto (t := 32) X dX5_canGlue_136 (by decide) ?_
                exact g_lv (ih (hd) (fr) (k + 1) W120 (by omega) (by omega) (by omega) (hh.c (held_n c_69)) (hf.c (free_s (by rintro ⟨g1, g2, g3⟩; first | exact absurd g1 (by assumption) | omega)))) [4, 5, 2, 1, 0] rfl
          · refine g_if_eq (t := 126) (u := 90) X dX5_canGlue_87 (by decide) rfl ⟨by omega, by omega⟩ (fun _ => ?_) (fun c => absurd c (by decide))
            refine g_iconst (t := 127) X dX5_canGlue_126 rfl ?_
            refine g_goto (t := 131) X dX5_canGlue_127 (by decide) ?_
            refine g_iand (t := 132) (z := fr) X dX5_canGlue_131 (and_1 hf.i) rfl ?_
            refine g_istore_n (t := 133) (lv1 := [(3, vi fr), (2, vi hd), (5, vi ((Y 11) k)), (0, .ref (ad 0)), (1, vi p), (4, vi k)]) X dX5_canGlue_132 (by decide) rfl rfl ?_
            refine g_iinc (t := 136) (lv1 := [(4, vi (k + 1)), (3, vi fr), (2, vi hd), (5, vi ((Y 11) k)), (0, .ref (ad 0)), (1, vi p)]) X dX5_canGlue_133 5 rfl (by decide) rfl rfl ?_
            refine g_goto (t := 32) X dX5_canGlue_136 (by decide) ?_
            exact g_lv (ih (hd) (fr) (k + 1) W (by omega) (by omega) (by omega) (hh.c (held_n c_69)) (hf.c (free_s (by rintro ⟨g1, g2, g3⟩; first | exact absurd g1 (by assumption) | omega)))) [4, 5, 2, 1, 0] rfl
        · refine g_iconst (t := 73) X dX5_canGlue_72 rfl ?_
          refine g_goto (t := 77) X dX5_canGlue_73 (by decide) ?_
          refine g_ior (t := 78) (z := 1) X dX5_canGlue_77 (or_1 hh.i) rfl ?_
          refine g_istore_n (t := 79) (lv1 := [(2, vi 1), (5, vi ((Y 11) k)), (0, .ref (ad 0)), (1, vi p), (3, vi fr), (4, vi k)]) X dX5_canGlue_78 (by decide) rfl rfl ?_
          refine g_iload_n (t := 80) X dX5_canGlue_79 4 rfl rfl ?_
          refine g_aload_n (t := 81) X dX5_canGlue_80 2 rfl rfl ?_
          refine g_iload_n (t := 82) X dX5_canGlue_81 3 rfl rfl ?_
          refine g_iload (t := 84) X dX5_canGlue_82 1 rfl rfl ?_
          refine g_callV (t := 87) (mc := 0) (ms := 0) (rest := [vi fr]) X mt_X5_share q5_86 q5_88 qs_28 0 wM_0 rfl (c_X5_share hfl hI (by omega) (by omega) (by omega) (by omega)) (by decide) (by decide) (by decide) (Nat.le_of_ble_eq_true rfl) rfl rfl dX5_canGlue_84 rfl (k_rb (fun b_84 => ?_) (fun b_84 => ?_))
          · refine g_if_eq (t := 126) (u := 90) X dX5_canGlue_87 (by decide) rfl ⟨by omega, by omega⟩ (fun c => absurd c (by decide)) (fun _ => ?_)
            refine g_aload_n (t := 91) X dX5_canGlue_90 2 rfl rfl ?_
            refine m_getf (t := 94) X 5 (by decide) q4_214 rfl rfl dX5_canGlue_91 rfl ?_
            refine g_iload_n (t := 95) X dX5_canGlue_94 3 rfl rfl ?_
            refine g_iald (t := 96) (f := Y 5) X 5 wM_pp (by omega) (by omega) (by omega) dX5_canGlue_95 rfl ?_
            refine g_aload_n (t := 97) X dX5_canGlue_96 2 rfl rfl ?_
            refine g_iload (t := 99) X dX5_canGlue_97 1 rfl rfl ?_
            refine g_sipush (t := 102) (z := 180) X dX5_canGlue_99 (by decide +kernel) rfl ?_
            refine g_callV (t := 105) (mc := 0) (ms := 0) (rest := [vi ((Y 5) p), vi fr]) X mt_X5_low q5_90 q5_92 qs_29 0 wM_0 rfl (c_X5_low hfl hI (by omega) (by omega) (by omega) (by omega)) (by decide) (by decide) (by decide) (Nat.le_of_ble_eq_true rfl) rfl rfl dX5_canGlue_102 rfl (k_rw (fun W102 => ?_))
            refine g_icmp_lt (t := 126) (u := 108) X dX5_canGlue_105 (by decide) rfl ⟨by omega, by omega⟩ ⟨by omega, by omega⟩ (fun c_105 => ?_) (fun c_105 => ?_)
            · refine g_iconst (t := 127) X dX5_canGlue_126 rfl ?_
              refine g_goto (t := 131) X dX5_canGlue_127 (by decide) ?_
              refine g_iand (t := 132) (z := fr) X dX5_canGlue_131 (and_1 hf.i) rfl ?_
              refine g_istore_n (t := 133) (lv1 := [(3, vi fr), (2, vi 1), (5, vi ((Y 11) k)), (0, .ref (ad 0)), (1, vi p), (4, vi k)]) X dX5_canGlue_132 (by decide) rfl rfl ?_
              refine g_iinc (t := 136) (lv1 := [(4, vi (k + 1)), (3, vi fr), (2, vi 1), (5, vi ((Y 11) k)), (0, .ref (ad 0)), (1, vi p)]) X dX5_canGlue_133 5 rfl (by decide) rfl rfl ?_
              refine g_goto (t := 32) X dX5_canGlue_136 (by decide) ?_
              exact g_lv (ih (1) (fr) (k + 1) W102 (by omega) (by omega) (by omega) (Or.inl ⟨rfl, held_s k0 c_69⟩) (hf.c (free_s (by rintro ⟨g1, g2, g3⟩; first | exact absurd g1 (by assumption) | omega)))) [4, 5, 2, 1, 0] rfl
            · refine g_aload_n (t := 109) X dX5_canGlue_108 2 rfl rfl ?_
              refine m_getf (t := 112) X 5 (by decide) q4_214 rfl rfl dX5_canGlue_109 rfl ?_
              refine g_iload_n (t := 113) X dX5_canGlue_112 3 rfl rfl ?_
              refine g_iald (t := 114) (f := Y 5) X 5 wM_pp (by omega) (by omega) (by omega) dX5_canGlue_113 rfl ?_
              refine g_aload_n (t := 115) X dX5_canGlue_114 2 rfl rfl ?_
              refine g_iload (t := 117) X dX5_canGlue_115 1 rfl rfl ?_
              refine g_sipush (t := 120) (z := 180) X dX5_canGlue_117 (by decide +kernel) rfl ?_
              refine g_callV (t := 123) (mc := 0) (ms := 0) (rest := [vi ((Y 5) p), vi fr]) X mt_X5_high q5_98 q5_100 qs_31 0 wM_0 rfl (c_X5_high hfl hI (by omega) (by omega) (by omega) (by omega)) (by decide) (by decide) (by decide) (Nat.le_of_ble_eq_true rfl) rfl rfl dX5_canGlue_120 rfl (k_rw (fun W120 => ?_))
              refine g_icmp_le (t := 130) (u := 126) X dX5_canGlue_123 (by decide) rfl ⟨by omega, by omega⟩ ⟨by omega, by omega⟩ (fun c_123 => ?_) (fun c_123 => ?_)
              · refine g_iconst (t := 131) X dX5_canGlue_130 rfl ?_
                refine g_iand (t := 132) (z := 0) X dX5_canGlue_131 (and_0 hf.i) rfl ?_
                refine g_istore_n (t := 133) (lv1 := [(3, vi 0), (2, vi 1), (5, vi ((Y 11) k)), (0, .ref (ad 0)), (1, vi p), (4, vi k)]) X dX5_canGlue_132 (by decide) rfl rfl ?_
                refine g_iinc (t := 136) (lv1 := [(4, vi (k + 1)), (3, vi 0), (2, vi 1), (5, vi ((Y 11) k)), (0, .ref (ad 0)), (1, vi p)]) X dX5_canGlue_133 5 rfl (by decide) rfl rfl ?_
                refine g_goto (t := 32) X dX5_canGlue_136 (by decide) ?_
                exact g_lv (ih (1) (0) (k + 1) W120 (by omega) (by omega) (by omega) (Or.inl ⟨rfl, held_s k0 c_69⟩) (Or.inr ⟨rfl, free_n k0 ⟨by first | assumption | omega, by omega, by omega⟩⟩)) [4, 5, 2, 1, 0] rfl
              · refine g_iconst (t := 127) X dX5_canGlue_126 rfl ?_
                refine g_goto (t := 131) X dX5_canGlue_127 (by decide) ?_
                refine g_iand (t := 132) (z := fr) X dX5_canGlue_131 (and_1 hf.i) rfl ?_
                refine g_istore_n (t := 133) (lv1 := [(3, vi fr), (2, vi 1), (5, vi ((Y 11) k)), (0, .ref (ad 0)), (1, vi p), (4, vi k)]) X dX5_canGlue_132 (by decide) rfl rfl ?_
                refine g_iinc (t := 136) (lv1 := [(4, vi (k + 1)), (3, vi fr), (2, vi 1), (5, vi ((Y 11) k)), (0, .ref (ad 0)), (1, vi p)]) X dX5_canGlue_133 5 rfl (by decide) rfl rfl ?_
                refine g_goto (t := 32) X dX5_canGlue_136 (by decide) ?_
                exact g_lv (ih (1) (fr) (k + 1) W120 (by omega) (by omega) (by omega) (Or.inl ⟨rfl, held_s k0 c_69⟩) (hf.c (free_s (by rintro ⟨g1, g2, g3⟩; first | exact absurd g1 (by assumption) | omega)))) [4, 5, 2, 1, 0] rfl
          · refine g_if_eq (t := 126) (u := 90) X dX5_canGlue_87 (by decide) rfl ⟨by omega, by omega⟩ (fun _ => ?_) (fun c => absurd c (by decide))
            refine g_iconst (t := 127) X dX5_canGlue_126 rfl ?_
            refine g_goto (t := 131) X dX5_canGlue_127 (by decide) ?_
            refine g_iand (t := 132) (z := fr) X dX5_canGlue_131 (and_1 hf.i) rfl ?_
            refine g_istore_n (t := 133) (lv1 := [(3, vi fr), (2, vi 1), (5, vi ((Y 11) k)), (0, .ref (ad 0)), (1, vi p), (4, vi k)]) X dX5_canGlue_132 (by decide) rfl rfl ?_
            refine g_iinc (t := 136) (lv1 := [(4, vi (k + 1)), (3, vi fr), (2, vi 1), (5, vi ((Y 11) k)), (0, .ref (ad 0)), (1, vi p)]) X dX5_canGlue_133 5 rfl (by decide) rfl rfl ?_
            refine g_goto (t := 32) X dX5_canGlue_136 (by decide) ?_
            exact g_lv (ih (1) (fr) (k + 1) W (by omega) (by omega) (by omega) (Or.inl ⟨rfl, held_s k0 c_69⟩) (hf.c (free_s (by rintro ⟨g1, g2, g3⟩; first | exact absurd g1 (by assumption) | omega)))) [4, 5, 2, 1, 0] rfl
  show G C K Q 0 0 0 [(0, .ref (ad 0)), (1, vi p)] [] (wM C ad Y V W th ++ R)
  refine g_aload_n (t := 1) X dX5_canGlue_0 0 rfl rfl ?_
  refine m_getf (t := 4) X 4 (by decide) q4_213 rfl rfl dX5_canGlue_1 rfl ?_
  refine g_iload_n (t := 5) X dX5_canGlue_4 1 rfl rfl ?_
  refine g_iald (t := 6) (f := Y 4) X 4 wM_pf (by omega) (by omega) (by omega) dX5_canGlue_5 rfl ?_
  refine g_if_ne (t := 13) (u := 9) X dX5_canGlue_6 (by decide) rfl ⟨by omega, by omega⟩ (fun c_6 => ?_) (fun c_6 => ?_)
  · refine g_iconst (t := 14) X dX5_canGlue_13 rfl ?_
    refine g_istore_n (t := 15) (lv1 := [(2, vi 0), (0, .ref (ad 0)), (1, vi p)]) X dX5_canGlue_14 (by decide) rfl rfl ?_
    refine g_aload_n (t := 16) X dX5_canGlue_15 1 rfl rfl ?_
    refine g_iload_n (t := 17) X dX5_canGlue_16 2 rfl rfl ?_
    refine g_callV (t := 20) (mc := 0) (ms := 0) (rest := []) X mt_X5_stepOf q5_170 q5_172 qs_40 0 wM_0 rfl (c_X5_stepOf hfl hI (by omega) (by omega)) (by decide) (by decide) (by decide) (Nat.le_of_ble_eq_true rfl) rfl rfl dX5_canGlue_17 rfl (k_rv ?_)
    refine g_if_ge (t := 27) (u := 23) X dX5_canGlue_20 (by decide) rfl (by have hst := stp_rng (Y 11) p (Y 12 0).toNat; unfold stepF; exact ⟨by omega, by omega⟩) (fun c_20 => ?_) (fun c_20 => ?_)
    · refine g_iconst (t := 28) X dX5_canGlue_27 rfl ?_
      refine g_istore_n (t := 29) (lv1 := [(3, vi 0), (2, vi 0), (0, .ref (ad 0)), (1, vi p)]) X dX5_canGlue_28 (by decide) rfl rfl ?_
      refine g_iconst (t := 30) X dX5_canGlue_29 rfl ?_
      refine g_istore (t := 32) (lv1 := [(4, vi 0), (3, vi 0), (2, vi 0), (0, .ref (ad 0)), (1, vi p)]) X dX5_canGlue_30 (by decide) rfl rfl ?_
      exact g_lv (loop ((Y 12 0).toNat + 1) (0) (0) 0 W (by omega) (by omega) (by omega) (Or.inr ⟨rfl, fun h => absurd (held_0.mp h) (by omega)⟩) (Or.inr ⟨rfl, fun h => absurd (free_0.mp h) (by omega)⟩)) [3, 4, 2, 1, 0] rfl
    · refine g_iconst (t := 24) X dX5_canGlue_23 rfl ?_
      refine g_goto (t := 28) X dX5_canGlue_24 (by decide) ?_
      refine g_istore_n (t := 29) (lv1 := [(3, vi 1), (2, vi 0), (0, .ref (ad 0)), (1, vi p)]) X dX5_canGlue_28 (by decide) rfl rfl ?_
      refine g_iconst (t := 30) X dX5_canGlue_29 rfl ?_
      refine g_istore (t := 32) (lv1 := [(4, vi 0), (3, vi 1), (2, vi 0), (0, .ref (ad 0)), (1, vi p)]) X dX5_canGlue_30 (by decide) rfl rfl ?_
      exact g_lv (loop ((Y 12 0).toNat + 1) (0) (1) 0 W (by omega) (by omega) (by omega) (Or.inr ⟨rfl, fun h => absurd (held_0.mp h) (by omega)⟩) (Or.inl ⟨rfl, free_0.mpr (by omega)⟩)) [3, 4, 2, 1, 0] rfl
  · refine g_iconst (t := 10) X dX5_canGlue_9 rfl ?_
    refine g_goto (t := 14) X dX5_canGlue_10 (by decide) ?_
    refine g_istore_n (t := 15) (lv1 := [(2, vi 1), (0, .ref (ad 0)), (1, vi p)]) X dX5_canGlue_14 (by decide) rfl rfl ?_
    refine g_aload_n (t := 16) X dX5_canGlue_15 1 rfl rfl ?_
    refine g_iload_n (t := 17) X dX5_canGlue_16 2 rfl rfl ?_
    refine g_callV (t := 20) (mc := 0) (ms := 0) (rest := []) X mt_X5_stepOf q5_170 q5_172 qs_40 0 wM_0 rfl (c_X5_stepOf hfl hI (by omega) (by omega)) (by decide) (by decide) (by decide) (Nat.le_of_ble_eq_true rfl) rfl rfl dX5_canGlue_17 rfl (k_rv ?_)
    refine g_if_ge (t := 27) (u := 23) X dX5_canGlue_20 (by decide) rfl (by have hst := stp_rng (Y 11) p (Y 12 0).toNat; unfold stepF; exact ⟨by omega, by omega⟩) (fun c_20 => ?_) (fun c_20 => ?_)
    · refine g_iconst (t := 28) X dX5_canGlue_27 rfl ?_
      refine g_istore_n (t := 29) (lv1 := [(3, vi 0), (2, vi 1), (0, .ref (ad 0)), (1, vi p)]) X dX5_canGlue_28 (by decide) rfl rfl ?_
      refine g_iconst (t := 30) X dX5_canGlue_29 rfl ?_
      refine g_istore (t := 32) (lv1 := [(4, vi 0), (3, vi 0), (2, vi 1), (0, .ref (ad 0)), (1, vi p)]) X dX5_canGlue_30 (by decide) rfl rfl ?_
      exact g_lv (loop ((Y 12 0).toNat + 1) (1) (0) 0 W (by omega) (by omega) (by omega) (Or.inl ⟨rfl, Or.inl (by omega)⟩) (Or.inr ⟨rfl, fun h => absurd (free_0.mp h) (by omega)⟩)) [3, 4, 2, 1, 0] rfl
    · refine g_iconst (t := 24) X dX5_canGlue_23 rfl ?_
      refine g_goto (t := 28) X dX5_canGlue_24 (by decide) ?_
      refine g_istore_n (t := 29) (lv1 := [(3, vi 1), (2, vi 1), (0, .ref (ad 0)), (1, vi p)]) X dX5_canGlue_28 (by decide) rfl rfl ?_
      refine g_iconst (t := 30) X dX5_canGlue_29 rfl ?_
      refine g_istore (t := 32) (lv1 := [(4, vi 0), (3, vi 1), (2, vi 1), (0, .ref (ad 0)), (1, vi p)]) X dX5_canGlue_30 (by decide) rfl rfl ?_
      exact g_lv (loop ((Y 12 0).toNat + 1) (1) (1) 0 W (by omega) (by omega) (by omega) (Or.inl ⟨rfl, Or.inl (by omega)⟩) (Or.inl ⟨rfl, free_0.mpr (by omega)⟩)) [3, 4, 2, 1, 0] rfl

set_option maxHeartbeats 4000000 in
set_option maxRecDepth 100000 in
/-- glue(part) -/
theorem c_X5_glue {C : WC} {l : Launch} (hfl : l.stackTraces = false) {ad : Nat → Nat} {Y V : Nat → Int → Int} {W : Int → Int} {th : Int} {R : va_W} {p : Int} (hI : MI Y) (hp : Rg p) : MM C l yX5_glue cX5_glue 2 (some .int) 5 0 0 [.ref (ad 0), vi p] (wM C ad Y V W th ++ R) (pu2 (0 ≤ p ∧ p < Y 10 0) (canF Y p) (Y 12 0 + 1) (fun th W => wM C ad Y V W th ++ R) (fun W => wM C ad (u2 (u2 Y 11 (Y 12 0) p) 12 0 (Y 12 0 + 1)) V W 0 ++ R)) := by
  refine mm_of (by decide +kernel) (Nat.le_of_ble_eq_true rfl) hfl (fun K Q X r => ?_)
  have X : Cx C l "SpringleafModel" cX5_glue 2 5 0 0 K := X
  have I3 := hI.1
  have I10 := hI.2.2.1
  have I12 := hI.2.2.2.2.1
  obtain ⟨p1, p2⟩ := hp
  show G C K Q 0 0 0 [(0, .ref (ad 0)), (1, vi p)] [] (wM C ad Y V W th ++ R)
  refine g_aload_n (t := 1) X dX5_glue_0 0 rfl rfl ?_
  refine g_aload_n (t := 2) X dX5_glue_1 0 rfl rfl ?_
  refine g_iload_n (t := 3) X dX5_glue_2 1 rfl rfl ?_
  refine g_callV (t := 6) (mc := 0) (ms := 0) (rest := [.ref (ad 0)]) X mt_X5_isPart q5_122 q5_124 qs_33 0 wM_0 rfl (c_X5_isPart hfl hI ⟨by omega, by omega⟩) (by decide) (by decide) (by decide) (Nat.le_of_ble_eq_true rfl) rfl rfl dX5_glue_3 rfl (k_rb (fun b_3 => ?_) (fun b_3 => ?_))
  · refine g_if_ne (t := 13) (u := 9) X dX5_glue_6 (by decide) rfl ⟨by omega, by omega⟩ (fun _ => ?_) (fun c => absurd c (by decide))
    refine g_aload_n (t := 14) X dX5_glue_13 0 rfl rfl ?_
    refine g_iload_n (t := 15) X dX5_glue_14 1 rfl rfl ?_
    refine g_callV (t := 18) (mc := 0) (ms := 0) (rest := [.ref (ad 0)]) X mt_X5_canGlue q5_166 q5_168 qs_39 0 wM_0 rfl (c_X5_canGlue hfl hI (by omega) (by omega)) (by decide) (by decide) (by decide) (Nat.le_of_ble_eq_true rfl) rfl rfl dX5_glue_15 rfl (k_rbw (fun W15 b_15 => ?_) (fun W15 b_15 => ?_))
    · refine g_if_eq (t := 25) (u := 21) X dX5_glue_18 (by decide) rfl ⟨by omega, by omega⟩ (fun c => absurd c (by decide)) (fun _ => ?_)
      refine g_iconst (t := 22) X dX5_glue_21 rfl ?_
      refine g_goto (t := 26) X dX5_glue_22 (by decide) ?_
      refine g_callV (t := 29) (mc := 0) (ms := 0) (rest := []) X mt_X5_holds q5_102 q5_104 qs_32 0 wM_0 rfl (c_X5_holds hfl ⟨by omega, by omega⟩) (by decide) (by decide) (by decide) (Nat.le_of_ble_eq_true rfl) rfl rfl dX5_glue_26 rfl (k_rb (fun h => absurd h (by decide)) (fun _ => ?_))
      refine g_if_eq (t := 34) (u := 32) X dX5_glue_29 (by decide) rfl ⟨by omega, by omega⟩ (fun _ => ?_) (fun c => absurd c (by decide))
      have hlt := glue_lt hI (p := p) (by omega) (by omega) b_15.2.1
      refine g_aload_n (t := 35) X dX5_glue_34 0 rfl rfl ?_
      refine m_getf (t := 38) X 11 (by decide) q4_220 rfl rfl dX5_glue_35 rfl ?_
      refine g_aload_n (t := 39) X dX5_glue_38 0 rfl rfl ?_
      refine m_getf (t := 42) X 12 (by decide) q4_221 rfl rfl dX5_glue_39 rfl ?_
      refine g_iload_n (t := 43) X dX5_glue_42 1 rfl rfl ?_
      refine g_iast (t := 44) (f := Y 11) X 10 wM_order (by omega) (by omega) (by omega) wM_s_order dX5_glue_43 rfl ?_
      refine g_aload_n (t := 45) X dX5_glue_44 0 rfl rfl ?_
      refine g_dup (t := 46) X dX5_glue_45 rfl rfl ?_
      refine m_getf (t := 49) (v := vi (Y 12 0)) X 12 (by decide) q4_221 rfl rfl dX5_glue_46 rfl ?_
      refine g_iconst (t := 50) X dX5_glue_49 rfl ?_
      refine g_iadd (t := 51) X dX5_glue_50 rfl ?_
      refine m_putf (t := 54) X 12 (by decide) q4_221 rfl rfl rfl wM_f_glued dX5_glue_51 rfl ?_
      refine g_aload_n (t := 55) X dX5_glue_54 0 rfl rfl ?_
      refine m_getf (t := 58) (v := vi ((Y 12 0) + 1)) X 12 (by decide) q4_221 rfl rfl dX5_glue_55 rfl ?_
      exact g_iret X r ⟨(Y 12 0) + 1, W15, rfl, Or.inr (Or.inr ⟨by omega, by assumption, rfl, rfl⟩)⟩ (Nat.le_of_ble_eq_true rfl) (Nat.le_of_ble_eq_true rfl) dX5_glue_58
    · refine g_if_eq (t := 25) (u := 21) X dX5_glue_18 (by decide) rfl ⟨by omega, by omega⟩ (fun _ => ?_) (fun c => absurd c (by decide))
      refine g_iconst (t := 26) X dX5_glue_25 rfl ?_
      refine g_callV (t := 29) (mc := 0) (ms := 0) (rest := []) X mt_X5_holds q5_102 q5_104 qs_32 0 wM_0 rfl (c_X5_holds hfl ⟨by omega, by omega⟩) (by decide) (by decide) (by decide) (Nat.le_of_ble_eq_true rfl) rfl rfl dX5_glue_26 rfl (k_rb (fun _ => ?_) (fun h => absurd (by decide) h))
      refine g_if_eq (t := 34) (u := 32) X dX5_glue_29 (by decide) rfl ⟨by omega, by omega⟩ (fun c => absurd c (by decide)) (fun _ => ?_)
      refine g_iconst (t := 33) X dX5_glue_32 rfl ?_
      exact g_iret X r ⟨(-1), W15, rfl, Or.inr (Or.inl ⟨by omega, by assumption, rfl⟩)⟩ (Nat.le_of_ble_eq_true rfl) (Nat.le_of_ble_eq_true rfl) dX5_glue_33
  · refine g_if_ne (t := 13) (u := 9) X dX5_glue_6 (by decide) rfl ⟨by omega, by omega⟩ (fun c => absurd c (by decide)) (fun _ => ?_)
    refine g_iconst (t := 10) X dX5_glue_9 rfl ?_
    refine g_goto (t := 26) X dX5_glue_10 (by decide) ?_
    refine g_callV (t := 29) (mc := 0) (ms := 0) (rest := []) X mt_X5_holds q5_102 q5_104 qs_32 0 wM_0 rfl (c_X5_holds hfl ⟨by omega, by omega⟩) (by decide) (by decide) (by decide) (Nat.le_of_ble_eq_true rfl) rfl rfl dX5_glue_26 rfl (k_rb (fun _ => ?_) (fun h => absurd (by decide) h))
    refine g_if_eq (t := 34) (u := 32) X dX5_glue_29 (by decide) rfl ⟨by omega, by omega⟩ (fun c => absurd c (by decide)) (fun _ => ?_)
    refine g_iconst (t := 33) X dX5_glue_32 rfl ?_
    exact g_iret X r ⟨(-1), W, rfl, Or.inl ⟨by omega, rfl⟩⟩ (Nat.le_of_ble_eq_true rfl) (Nat.le_of_ble_eq_true rfl) dX5_glue_33

set_option maxHeartbeats 4000000 in
set_option maxRecDepth 100000 in
/-- unglue() -/
theorem c_X5_unglue {C : WC} {l : Launch} (hfl : l.stackTraces = false) {ad : Nat → Nat} {Y V : Nat → Int → Int} {W : Int → Int} {th : Int} {R : va_W} (hI : MI Y) : MM C l yX5_unglue cX5_unglue 1 (some .int) 1 0 0 [.ref (ad 0)] (wM C ad Y V W th ++ R) (pu1 (Y 12 0 ≠ 0) (Y 11 (Y 12 0 - 1)) (fun th W => wM C ad Y V W th ++ R) (fun W => wM C ad (u2 Y 12 0 (Y 12 0 - 1)) V W 0 ++ R)) := by
  refine mm_of (by decide +kernel) (Nat.le_of_ble_eq_true rfl) hfl (fun K Q X r => ?_)
  have X : Cx C l "SpringleafModel" cX5_unglue 1 1 0 0 K := X
  have I3 := hI.1
  have I10 := hI.2.2.1
  have I12 := hI.2.2.2.2.1
  show G C K Q 0 0 0 [(0, .ref (ad 0))] [] (wM C ad Y V W th ++ R)
  refine g_aload_n (t := 1) X dX5_unglue_0 0 rfl rfl ?_
  refine g_aload_n (t := 2) X dX5_unglue_1 0 rfl rfl ?_
  refine m_getf (t := 5) X 12 (by decide) q4_221 rfl rfl dX5_unglue_2 rfl ?_
  refine g_if_ne (t := 12) (u := 8) X dX5_unglue_5 (by decide) rfl ⟨by omega, by omega⟩ (fun c_5 => ?_) (fun c_5 => ?_)
  · refine g_iconst (t := 13) X dX5_unglue_12 rfl ?_
    refine g_callV (t := 16) (mc := 0) (ms := 0) (rest := []) X mt_X5_holds q5_102 q5_104 qs_32 0 wM_0 rfl (c_X5_holds hfl ⟨by omega, by omega⟩) (by decide) (by decide) (by decide) (Nat.le_of_ble_eq_true rfl) rfl rfl dX5_unglue_13 rfl (k_rb (fun h => absurd h (by decide)) (fun _ => ?_))
    refine g_if_eq (t := 21) (u := 19) X dX5_unglue_16 (by decide) rfl ⟨by omega, by omega⟩ (fun _ => ?_) (fun c => absurd c (by decide))
    refine g_aload_n (t := 22) X dX5_unglue_21 0 rfl rfl ?_
    refine g_dup (t := 23) X dX5_unglue_22 rfl rfl ?_
    refine m_getf (t := 26) X 12 (by decide) q4_221 rfl rfl dX5_unglue_23 rfl ?_
    refine g_iconst (t := 27) X dX5_unglue_26 rfl ?_
    refine g_isub (t := 28) X dX5_unglue_27 rfl ?_
    refine m_putf (t := 31) X 12 (by decide) q4_221 rfl rfl rfl wM_f_glued dX5_unglue_28 rfl ?_
    refine g_aload_n (t := 32) X dX5_unglue_31 0 rfl rfl ?_
    refine m_getf (t := 35) X 11 (by decide) q4_220 rfl rfl dX5_unglue_32 rfl ?_
    refine g_aload_n (t := 36) X dX5_unglue_35 0 rfl rfl ?_
    refine m_getf (t := 39) (v := vi ((Y 12 0) - 1)) X 12 (by decide) q4_221 rfl rfl dX5_unglue_36 rfl ?_
    refine g_iald (t := 40) (f := Y 11) X 10 wM_order (by omega) (by omega) (by omega) dX5_unglue_39 rfl ?_
    exact g_iret X r ⟨(Y 11) ((Y 12 0) - 1), W, rfl, Or.inr ⟨by omega, rfl, rfl⟩⟩ (Nat.le_of_ble_eq_true rfl) (Nat.le_of_ble_eq_true rfl) dX5_unglue_40
  · refine g_iconst (t := 9) X dX5_unglue_8 rfl ?_
    refine g_goto (t := 13) X dX5_unglue_9 (by decide) ?_
    refine g_callV (t := 16) (mc := 0) (ms := 0) (rest := []) X mt_X5_holds q5_102 q5_104 qs_32 0 wM_0 rfl (c_X5_holds hfl ⟨by omega, by omega⟩) (by decide) (by decide) (by decide) (Nat.le_of_ble_eq_true rfl) rfl rfl dX5_unglue_13 rfl (k_rb (fun _ => ?_) (fun h => absurd (by decide) h))
    refine g_if_eq (t := 21) (u := 19) X dX5_unglue_16 (by decide) rfl ⟨by omega, by omega⟩ (fun c => absurd c (by decide)) (fun _ => ?_)
    refine g_iconst (t := 20) X dX5_unglue_19 rfl ?_
    exact g_iret X r ⟨(-1), W, rfl, Or.inl ⟨by omega, rfl⟩⟩ (Nat.le_of_ble_eq_true rfl) (Nat.le_of_ble_eq_true rfl) dX5_unglue_20

set_option maxHeartbeats 4000000 in
set_option maxRecDepth 100000 in
/-- glued(step) -/
theorem c_X5_glued {C : WC} {l : Launch} (hfl : l.stackTraces = false) {ad : Nat → Nat} {Y V : Nat → Int → Int} {W : Int → Int} {th : Int} {R : va_W} {x : Int} (hI : MI Y) (hx : Rg x) : MM C l yX5_glued cX5_glued 2 (some .int) 1 0 0 [.ref (ad 0), vi x] (wM C ad Y V W th ++ R) (pu1 (0 ≤ x) (if x < Y 12 0 then Y 11 x else -1) (fun th W => wM C ad Y V W th ++ R) (fun W => wM C ad Y V W 0 ++ R)) := by
  refine mm_of (by decide +kernel) (Nat.le_of_ble_eq_true rfl) hfl (fun K Q X r => ?_)
  have X : Cx C l "SpringleafModel" cX5_glued 2 1 0 0 K := X
  have I3 := hI.1
  have I10 := hI.2.2.1
  have I12 := hI.2.2.2.2.1
  obtain ⟨x1, x2⟩ := hx
  show G C K Q 0 0 0 [(0, .ref (ad 0)), (1, vi x)] [] (wM C ad Y V W th ++ R)
  refine g_aload_n (t := 1) X dX5_glued_0 0 rfl rfl ?_
  refine g_iload_n (t := 2) X dX5_glued_1 1 rfl rfl ?_
  refine g_if_ge (t := 9) (u := 5) X dX5_glued_2 (by decide) rfl ⟨by omega, by omega⟩ (fun c_2 => ?_) (fun c_2 => ?_)
  · refine g_iconst (t := 10) X dX5_glued_9 rfl ?_
    refine g_callV (t := 13) (mc := 0) (ms := 0) (rest := []) X mt_X5_holds q5_102 q5_104 qs_32 0 wM_0 rfl (c_X5_holds hfl ⟨by omega, by omega⟩) (by decide) (by decide) (by decide) (Nat.le_of_ble_eq_true rfl) rfl rfl dX5_glued_10 rfl (k_rb (fun h => absurd h (by decide)) (fun _ => ?_))
    refine g_if_eq (t := 18) (u := 16) X dX5_glued_13 (by decide) rfl ⟨by omega, by omega⟩ (fun _ => ?_) (fun c => absurd c (by decide))
    refine g_iload_n (t := 19) X dX5_glued_18 1 rfl rfl ?_
    refine g_aload_n (t := 20) X dX5_glued_19 0 rfl rfl ?_
    refine m_getf (t := 23) X 12 (by decide) q4_221 rfl rfl dX5_glued_20 rfl ?_
    refine g_icmp_ge (t := 35) (u := 26) X dX5_glued_23 (by decide) rfl ⟨by omega, by omega⟩ ⟨by omega, by omega⟩ (fun c_23 => ?_) (fun c_23 => ?_)
    · refine g_iconst (t := 36) X dX5_glued_35 rfl ?_
      exact g_iret X r ⟨(-1), W, rfl, Or.inr ⟨by omega, by first | rw [if_pos (by omega)] | rw [if_neg (by omega)], rfl⟩⟩ (Nat.le_of_ble_eq_true rfl) (Nat.le_of_ble_eq_true rfl) dX5_glued_36
    · refine g_aload_n (t := 27) X dX5_glued_26 0 rfl rfl ?_
      refine m_getf (t := 30) X 11 (by decide) q4_220 rfl rfl dX5_glued_27 rfl ?_
      refine g_iload_n (t := 31) X dX5_glued_30 1 rfl rfl ?_
      refine g_iald (t := 32) (f := Y 11) X 10 wM_order (by omega) (by omega) (by omega) dX5_glued_31 rfl ?_
      refine g_goto (t := 36) X dX5_glued_32 (by decide) ?_
      exact g_iret X r ⟨(Y 11) x, W, rfl, Or.inr ⟨by omega, by first | rw [if_pos (by omega)] | rw [if_neg (by omega)], rfl⟩⟩ (Nat.le_of_ble_eq_true rfl) (Nat.le_of_ble_eq_true rfl) dX5_glued_36
  · refine g_iconst (t := 6) X dX5_glued_5 rfl ?_
    refine g_goto (t := 10) X dX5_glued_6 (by decide) ?_
    refine g_callV (t := 13) (mc := 0) (ms := 0) (rest := []) X mt_X5_holds q5_102 q5_104 qs_32 0 wM_0 rfl (c_X5_holds hfl ⟨by omega, by omega⟩) (by decide) (by decide) (by decide) (Nat.le_of_ble_eq_true rfl) rfl rfl dX5_glued_10 rfl (k_rb (fun _ => ?_) (fun h => absurd (by decide) h))
    refine g_if_eq (t := 18) (u := 16) X dX5_glued_13 (by decide) rfl ⟨by omega, by omega⟩ (fun c => absurd c (by decide)) (fun _ => ?_)
    refine g_iconst (t := 17) X dX5_glued_16 rfl ?_
    exact g_iret X r ⟨(-1), W, rfl, Or.inl ⟨by omega, rfl⟩⟩ (Nat.le_of_ble_eq_true rfl) (Nat.le_of_ble_eq_true rfl) dX5_glued_17

def cutN (Y : Nat → Int → Int) (p : Int) : Int := if stepF Y p < 0 then 0 else Y 12 0 - stepF Y p
theorem step_rng {Y : Nat → Int → Int} (hI : MI Y) (p : Int) : -1 ≤ stepF Y p ∧ stepF Y p < Y 12 0 ∨ (stepF Y p = -1) := by
  have h := stp_rng (Y 11) p (Y 12 0).toNat
  have I12 := hI.2.2.2.2.1
  unfold stepF
  omega
theorem cut_rng {Y : Nat → Int → Int} (hI : MI Y) (p : Int) : 0 ≤ cutN Y p ∧ cutN Y p ≤ Y 12 0 := by
  have h := step_rng hI p
  have I12 := hI.2.2.2.2.1
  unfold cutN
  split <;> omega

set_option maxHeartbeats 4000000 in
set_option maxRecDepth 100000 in
/-- resize(part, length) -/
theorem c_X5_resize {C : WC} {l : Launch} (hfl : l.stackTraces = false) {ad : Nat → Nat} {Y V : Nat → Int → Int} {W : Int → Int} {th : Int} {R : va_W} {p x : Int} (hI : MI Y) (hp : Rg p) (hx : Rg x) : MM C l yX5_resize cX5_resize 5 (some .int) 2 0 0 [.ref (ad 0), vi p, vi x] (wM C ad Y V W th ++ R) (pu2 (0 ≤ p ∧ p < Y 10 0) (1 ≤ x ∧ x ≤ 30) (cutN Y p) (fun th W => wM C ad Y V W th ++ R) (fun W => wM C ad (u2 (u2 Y 6 p x) 12 0 (Y 12 0 - cutN Y p)) V W 0 ++ R)) := by
  refine mm_of (by decide +kernel) (Nat.le_of_ble_eq_true rfl) hfl (fun K Q X r => ?_)
  have X : Cx C l "SpringleafModel" cX5_resize 5 2 0 0 K := X
  have I3 := hI.1
  have I10 := hI.2.2.1
  have I12 := hI.2.2.2.2.1
  obtain ⟨p1, p2⟩ := hp
  obtain ⟨x1, x2⟩ := hx
  show G C K Q 0 0 0 [(0, .ref (ad 0)), (1, vi p), (2, vi x)] [] (wM C ad Y V W th ++ R)
  refine g_aload_n (t := 1) X dX5_resize_0 0 rfl rfl ?_
  refine g_aload_n (t := 2) X dX5_resize_1 0 rfl rfl ?_
  refine g_iload_n (t := 3) X dX5_resize_2 1 rfl rfl ?_
  refine g_callV (t := 6) (mc := 0) (ms := 0) (rest := [.ref (ad 0)]) X mt_X5_isPart q5_122 q5_124 qs_33 0 wM_0 rfl (c_X5_isPart hfl hI ⟨by omega, by omega⟩) (by decide) (by decide) (by decide) (Nat.le_of_ble_eq_true rfl) rfl rfl dX5_resize_3 rfl (k_rb (fun b_3 => ?_) (fun b_3 => ?_))
  · refine g_if_ne (t := 13) (u := 9) X dX5_resize_6 (by decide) rfl ⟨by omega, by omega⟩ (fun _ => ?_) (fun c => absurd c (by decide))
    refine g_aload_n (t := 14) X dX5_resize_13 0 rfl rfl ?_
    refine g_iload_n (t := 15) X dX5_resize_14 2 rfl rfl ?_
    refine g_iconst (t := 16) X dX5_resize_15 rfl ?_
    refine g_bipush (t := 18) (z := 30) X dX5_resize_16 (by decide +kernel) rfl ?_
    refine g_callV (t := 21) (mc := 0) (ms := 0) (rest := [.ref (ad 0)]) X mt_X5_in q5_54 q5_56 qs_20 0 wM_0 rfl (c_X5_in hfl ⟨by omega, by omega⟩ ⟨by omega, by omega⟩ ⟨by omega, by omega⟩) (by decide) (by decide) (by decide) (Nat.le_of_ble_eq_true rfl) rfl rfl dX5_resize_18 rfl (k_rb (fun b_18 => ?_) (fun b_18 => ?_))
    · refine g_if_eq (t := 28) (u := 24) X dX5_resize_21 (by decide) rfl ⟨by omega, by omega⟩ (fun c => absurd c (by decide)) (fun _ => ?_)
      refine g_iconst (t := 25) X dX5_resize_24 rfl ?_
      refine g_goto (t := 29) X dX5_resize_25 (by decide) ?_
      refine g_callV (t := 32) (mc := 0) (ms := 0) (rest := []) X mt_X5_holds q5_102 q5_104 qs_32 0 wM_0 rfl (c_X5_holds hfl ⟨by omega, by omega⟩) (by decide) (by decide) (by decide) (Nat.le_of_ble_eq_true rfl) rfl rfl dX5_resize_29 rfl (k_rb (fun h => absurd h (by decide)) (fun _ => ?_))
      refine g_if_eq (t := 37) (u := 35) X dX5_resize_32 (by decide) rfl ⟨by omega, by omega⟩ (fun _ => ?_) (fun c => absurd c (by decide))
      refine g_aload_n (t := 38) X dX5_resize_37 0 rfl rfl ?_
      refine m_getf (t := 41) X 6 (by decide) q4_215 rfl rfl dX5_resize_38 rfl ?_
      refine g_iload_n (t := 42) X dX5_resize_41 1 rfl rfl ?_
      refine g_iload_n (t := 43) X dX5_resize_42 2 rfl rfl ?_
      refine g_iast (t := 44) (f := Y 6) X 6 wM_pl (by omega) (by omega) (by omega) wM_s_pl dX5_resize_43 rfl ?_
      refine g_aload_n (t := 45) X dX5_resize_44 0 rfl rfl ?_
      refine g_iload_n (t := 46) X dX5_resize_45 1 rfl rfl ?_
      refine g_callV (t := 49) (mc := 0) (ms := 0) (rest := []) X mt_X5_stepOf q5_170 q5_172 qs_40 0 wM_0 rfl (c_X5_stepOf hfl (hI.len (p := p) (z := x) (by omega) (by omega)) (by show 0 ≤ _; omega) (by show _ < Y 10 0; omega)) (by decide) (by decide) (by decide) (Nat.le_of_ble_eq_true rfl) rfl rfl dX5_resize_46 rfl (k_rv (x := vi (stepF Y p)) ?_)
      refine g_istore_n (t := 50) (lv1 := [(3, vi (stepF Y p)), (0, .ref (ad 0)), (1, vi p), (2, vi x)]) X dX5_resize_49 (by decide) rfl rfl ?_
      have hs := step_rng hI p
      refine g_iload_n (t := 51) X dX5_resize_50 0 rfl rfl ?_
      refine g_if_ge (t := 58) (u := 54) X dX5_resize_51 (by decide) rfl ⟨by omega, by omega⟩ (fun c_51 => ?_) (fun c_51 => ?_)
      · refine g_aload_n (t := 59) X dX5_resize_58 1 rfl rfl ?_
        refine m_getf (t := 62) (v := vi (Y 12 0)) X 12 (by decide) q4_221 rfl rfl dX5_resize_59 rfl ?_
        refine g_iload_n (t := 63) X dX5_resize_62 0 rfl rfl ?_
        refine g_isub (t := 64) X dX5_resize_63 rfl ?_
        have ec : cutN Y p = (Y 12 0) - (stepF Y p) := by unfold cutN; first | rw [if_pos (by omega)] | rw [if_neg (by omega)]
        refine g_istore (t := 66) (lv1 := [(4, vi ((Y 12 0) - (stepF Y p))), (3, vi (stepF Y p)), (0, .ref (ad 0)), (1, vi p), (2, vi x)]) X dX5_resize_64 (by decide) rfl rfl ?_
        refine g_aload_n (t := 67) X dX5_resize_66 2 rfl rfl ?_
        refine g_dup (t := 68) X dX5_resize_67 rfl rfl ?_
        refine m_getf (t := 71) (v := vi (Y 12 0)) X 12 (by decide) q4_221 rfl rfl dX5_resize_68 rfl ?_
        refine g_iload (t := 73) X dX5_resize_71 0 rfl rfl ?_
        refine g_isub (t := 74) X dX5_resize_73 rfl ?_
        refine m_putf (t := 77) X 12 (by decide) q4_221 rfl rfl rfl wM_f_glued dX5_resize_74 rfl ?_
        refine g_iload (t := 79) X dX5_resize_77 0 rfl rfl ?_
        exact g_iret X r ⟨(Y 12 0) - (stepF Y p), W, rfl, Or.inr (Or.inr ⟨by omega, by omega, ec.symm, by rw [ec]⟩)⟩ (Nat.le_of_ble_eq_true rfl) (Nat.le_of_ble_eq_true rfl) dX5_resize_79
      · refine g_iconst (t := 55) X dX5_resize_54 rfl ?_
        refine g_goto (t := 64) X dX5_resize_55 (by decide) ?_
        have ec : cutN Y p = 0 := by unfold cutN; first | rw [if_pos (by omega)] | rw [if_neg (by omega)]
        refine g_istore (t := 66) (lv1 := [(4, vi 0), (3, vi (stepF Y p)), (0, .ref (ad 0)), (1, vi p), (2, vi x)]) X dX5_resize_64 (by decide) rfl rfl ?_
        refine g_aload_n (t := 67) X dX5_resize_66 2 rfl rfl ?_
        refine g_dup (t := 68) X dX5_resize_67 rfl rfl ?_
        refine m_getf (t := 71) (v := vi (Y 12 0)) X 12 (by decide) q4_221 rfl rfl dX5_resize_68 rfl ?_
        refine g_iload (t := 73) X dX5_resize_71 0 rfl rfl ?_
        refine g_isub (t := 74) X dX5_resize_73 rfl ?_
        refine m_putf (t := 77) X 12 (by decide) q4_221 rfl rfl rfl wM_f_glued dX5_resize_74 rfl ?_
        refine g_iload (t := 79) X dX5_resize_77 0 rfl rfl ?_
        exact g_iret X r ⟨0, W, rfl, Or.inr (Or.inr ⟨by omega, by omega, ec.symm, by rw [ec]⟩)⟩ (Nat.le_of_ble_eq_true rfl) (Nat.le_of_ble_eq_true rfl) dX5_resize_79
    · refine g_if_eq (t := 28) (u := 24) X dX5_resize_21 (by decide) rfl ⟨by omega, by omega⟩ (fun _ => ?_) (fun c => absurd c (by decide))
      refine g_iconst (t := 29) X dX5_resize_28 rfl ?_
      refine g_callV (t := 32) (mc := 0) (ms := 0) (rest := []) X mt_X5_holds q5_102 q5_104 qs_32 0 wM_0 rfl (c_X5_holds hfl ⟨by omega, by omega⟩) (by decide) (by decide) (by decide) (Nat.le_of_ble_eq_true rfl) rfl rfl dX5_resize_29 rfl (k_rb (fun _ => ?_) (fun h => absurd (by decide) h))
      refine g_if_eq (t := 37) (u := 35) X dX5_resize_32 (by decide) rfl ⟨by omega, by omega⟩ (fun c => absurd c (by decide)) (fun _ => ?_)
      refine g_iconst (t := 36) X dX5_resize_35 rfl ?_
      exact g_iret X r ⟨(-1), W, rfl, Or.inr (Or.inl ⟨by omega, by omega, rfl⟩)⟩ (Nat.le_of_ble_eq_true rfl) (Nat.le_of_ble_eq_true rfl) dX5_resize_36
  · refine g_if_ne (t := 13) (u := 9) X dX5_resize_6 (by decide) rfl ⟨by omega, by omega⟩ (fun c => absurd c (by decide)) (fun _ => ?_)
    refine g_iconst (t := 10) X dX5_resize_9 rfl ?_
    refine g_goto (t := 29) X dX5_resize_10 (by decide) ?_
    refine g_callV (t := 32) (mc := 0) (ms := 0) (rest := []) X mt_X5_holds q5_102 q5_104 qs_32 0 wM_0 rfl (c_X5_holds hfl ⟨by omega, by omega⟩) (by decide) (by decide) (by decide) (Nat.le_of_ble_eq_true rfl) rfl rfl dX5_resize_29 rfl (k_rb (fun _ => ?_) (fun h => absurd (by decide) h))
    refine g_if_eq (t := 37) (u := 35) X dX5_resize_32 (by decide) rfl ⟨by omega, by omega⟩ (fun c => absurd c (by decide)) (fun _ => ?_)
    refine g_iconst (t := 36) X dX5_resize_35 rfl ?_
    exact g_iret X r ⟨(-1), W, rfl, Or.inl ⟨by omega, rfl⟩⟩ (Nat.le_of_ble_eq_true rfl) (Nat.le_of_ble_eq_true rfl) dX5_resize_36

set_option maxHeartbeats 4000000 in
set_option maxRecDepth 100000 in
/-- fold(on, pull, lean) -/
theorem c_X5_fold {C : WC} {l : Launch} (hfl : l.stackTraces = false) {ad : Nat → Nat} {Y V : Nat → Int → Int} {W : Int → Int} {th : Int} {R : va_W} {f x y : Int} (hI : MI Y) (hf : Rg f) (hx : Rg x) (hy : Rg y) : MM C l yX5_fold cX5_fold 5 (some .int) 7 0 0 [.ref (ad 0), vi f, vi x, vi y] (wM C ad Y V W th ++ R) (pu3 (0 ≤ f ∧ f < Y 3 0) ((1 ≤ x ∧ x ≤ 8) ∧ -90 ≤ y ∧ y ≤ 90) (Y 3 0 ≠ 12 ∧ ¬ boundF Y) (Y 3 0) (fun th W => wM C ad Y V W th ++ R) (fun W => wM C ad (u2 (u2 (u2 (u2 Y 0 (Y 3 0) f) 1 (Y 3 0) x) 2 (Y 3 0) y) 3 0 (Y 3 0 + 1)) V W 0 ++ R)) := by
  refine mm_of (by decide +kernel) (Nat.le_of_ble_eq_true rfl) hfl (fun K Q X r => ?_)
  have X : Cx C l "SpringleafModel" cX5_fold 5 7 0 0 K := X
  have I3 := hI.1
  have I10 := hI.2.2.1
  have I12 := hI.2.2.2.2.1
  obtain ⟨f1, f2⟩ := hf
  obtain ⟨x1, x2⟩ := hx
  obtain ⟨y1, y2⟩ := hy
  show G C K Q 0 0 0 [(0, .ref (ad 0)), (1, vi f), (2, vi x), (3, vi y)] [] (wM C ad Y V W th ++ R)
  refine g_aload_n (t := 1) X dX5_fold_0 0 rfl rfl ?_
  refine g_iload_n (t := 2) X dX5_fold_1 2 rfl rfl ?_
  refine g_iconst (t := 3) X dX5_fold_2 rfl ?_
  refine g_bipush (t := 5) (z := 8) X dX5_fold_3 (by decide +kernel) rfl ?_
  refine g_callV (t := 8) (mc := 0) (ms := 0) (rest := []) X mt_X5_in q5_54 q5_56 qs_20 0 wM_0 rfl (c_X5_in hfl ⟨by omega, by omega⟩ ⟨by omega, by omega⟩ ⟨by omega, by omega⟩) (by decide) (by decide) (by decide) (Nat.le_of_ble_eq_true rfl) rfl rfl dX5_fold_5 rfl (k_rb (fun b_5 => ?_) (fun b_5 => ?_))
  · refine g_if_eq (t := 27) (u := 11) X dX5_fold_8 (by decide) rfl ⟨by omega, by omega⟩ (fun c => absurd c (by decide)) (fun _ => ?_)
    refine g_aload_n (t := 12) X dX5_fold_11 0 rfl rfl ?_
    refine g_iload_n (t := 13) X dX5_fold_12 3 rfl rfl ?_
    refine g_bipush (t := 15) (z := (-90)) X dX5_fold_13 (by decide +kernel) rfl ?_
    refine g_bipush (t := 17) (z := 90) X dX5_fold_15 (by decide +kernel) rfl ?_
    refine g_callV (t := 20) (mc := 0) (ms := 0) (rest := []) X mt_X5_in q5_54 q5_56 qs_20 0 wM_0 rfl (c_X5_in hfl ⟨by omega, by omega⟩ ⟨by omega, by omega⟩ ⟨by omega, by omega⟩) (by decide) (by decide) (by decide) (Nat.le_of_ble_eq_true rfl) rfl rfl dX5_fold_17 rfl (k_rb (fun b_17 => ?_) (fun b_17 => ?_))
    · refine g_if_eq (t := 27) (u := 23) X dX5_fold_20 (by decide) rfl ⟨by omega, by omega⟩ (fun c => absurd c (by decide)) (fun _ => ?_)
      refine g_iconst (t := 24) X dX5_fold_23 rfl ?_
      refine g_goto (t := 28) X dX5_fold_24 (by decide) ?_
      refine g_istore (t := 30) (lv1 := [(4, vi 1), (0, .ref (ad 0)), (1, vi f), (2, vi x), (3, vi y)]) X dX5_fold_28 (by decide) rfl rfl ?_
      refine g_aload_n (t := 31) X dX5_fold_30 1 rfl rfl ?_
      refine g_aload_n (t := 32) X dX5_fold_31 1 rfl rfl ?_
      refine g_iload_n (t := 33) X dX5_fold_32 2 rfl rfl ?_
      refine g_callV (t := 36) (mc := 0) (ms := 0) (rest := [.ref (ad 0)]) X mt_X5_isFold q5_58 q5_60 qs_21 0 wM_0 rfl (c_X5_isFold hfl hI ⟨by omega, by omega⟩) (by decide) (by decide) (by decide) (Nat.le_of_ble_eq_true rfl) rfl rfl dX5_fold_33 rfl (k_rb (fun b_33 => ?_) (fun b_33 => ?_))
      · refine g_if_ne (t := 43) (u := 39) X dX5_fold_36 (by decide) rfl ⟨by omega, by omega⟩ (fun _ => ?_) (fun c => absurd c (by decide))
        refine g_iload (t := 45) X dX5_fold_43 0 rfl rfl ?_
        refine g_if_ne (t := 52) (u := 48) X dX5_fold_45 (by decide) rfl ⟨by omega, by omega⟩ (fun _ => ?_) (fun c => absurd c (by decide))
        refine g_aload_n (t := 53) X dX5_fold_52 1 rfl rfl ?_
        refine m_getf (t := 56) X 3 (by decide) q4_212 rfl rfl dX5_fold_53 rfl ?_
        refine g_bipush (t := 58) (z := 12) X dX5_fold_56 (by decide +kernel) rfl ?_
        refine g_icmp_eq (t := 68) (u := 61) X dX5_fold_58 (by decide) rfl ⟨by omega, by omega⟩ ⟨by omega, by omega⟩ (fun c_58 => ?_) (fun c_58 => ?_)
        · refine g_iconst (t := 69) X dX5_fold_68 rfl ?_
          refine g_goto (t := 73) X dX5_fold_69 (by decide) ?_
          refine g_callV (t := 76) (mc := 0) (ms := 0) (rest := []) X mt_X5_holds q5_102 q5_104 qs_32 0 wM_0 rfl (c_X5_holds hfl ⟨by omega, by omega⟩) (by decide) (by decide) (by decide) (Nat.le_of_ble_eq_true rfl) rfl rfl dX5_fold_73 rfl (k_rb (fun _ => ?_) (fun h => absurd (by decide) h))
          refine g_if_eq (t := 81) (u := 79) X dX5_fold_76 (by decide) rfl ⟨by omega, by omega⟩ (fun c => absurd c (by decide)) (fun _ => ?_)
          refine g_iconst (t := 80) X dX5_fold_79 rfl ?_
          exact g_iret X r ⟨(-1), W, rfl, Or.inr (Or.inr (Or.inl ⟨by omega, by omega, by rintro ⟨g1, g2⟩; first | exact g1 c_58 | exact g2 b_62, rfl⟩))⟩ (Nat.le_of_ble_eq_true rfl) (Nat.le_of_ble_eq_true rfl) dX5_fold_80
        · refine g_aload_n (t := 62) X dX5_fold_61 1 rfl rfl ?_
          refine g_callV (t := 65) (mc := 0) (ms := 0) (rest := [.ref (ad 0)]) X mt_X5_bound q5_62 q5_64 qs_22 0 wM_0 rfl (c_X5_bound hfl hI) (by decide) (by decide) (by decide) (Nat.le_of_ble_eq_true rfl) rfl rfl dX5_fold_62 rfl (k_rbw (fun W62 b_62 => ?_) (fun W62 b_62 => ?_))
          · refine g_if_eq (t := 72) (u := 68) X dX5_fold_65 (by decide) rfl ⟨by omega, by omega⟩ (fun c => absurd c (by decide)) (fun _ => ?_)
            refine g_iconst (t := 69) X dX5_fold_68 rfl ?_
            refine g_goto (t := 73) X dX5_fold_69 (by decide) ?_
            refine g_callV (t := 76) (mc := 0) (ms := 0) (rest := []) X mt_X5_holds q5_102 q5_104 qs_32 0 wM_0 rfl (c_X5_holds hfl ⟨by omega, by omega⟩) (by decide) (by decide) (by decide) (Nat.le_of_ble_eq_true rfl) rfl rfl dX5_fold_73 rfl (k_rb (fun _ => ?_) (fun h => absurd (by decide) h))
            refine g_if_eq (t := 81) (u := 79) X dX5_fold_76 (by decide) rfl ⟨by omega, by omega⟩ (fun c => absurd c (by decide)) (fun _ => ?_)
            refine g_iconst (t := 80) X dX5_fold_79 rfl ?_
            exact g_iret X r ⟨(-1), W62, rfl, Or.inr (Or.inr (Or.inl ⟨by omega, by omega, by rintro ⟨g1, g2⟩; first | exact g1 c_58 | exact g2 b_62, rfl⟩))⟩ (Nat.le_of_ble_eq_true rfl) (Nat.le_of_ble_eq_true rfl) dX5_fold_80
          · refine g_if_eq (t := 72) (u := 68) X dX5_fold_65 (by decide) rfl ⟨by omega, by omega⟩ (fun _ => ?_) (fun c => absurd c (by decide))
            refine g_iconst (t := 73) X dX5_fold_72 rfl ?_
            refine g_callV (t := 76) (mc := 0) (ms := 0) (rest := []) X mt_X5_holds q5_102 q5_104 qs_32 0 wM_0 rfl (c_X5_holds hfl ⟨by omega, by omega⟩) (by decide) (by decide) (by decide) (Nat.le_of_ble_eq_true rfl) rfl rfl dX5_fold_73 rfl (k_rb (fun h => absurd h (by decide)) (fun _ => ?_))
            refine g_if_eq (t := 81) (u := 79) X dX5_fold_76 (by decide) rfl ⟨by omega, by omega⟩ (fun _ => ?_) (fun c => absurd c (by decide))
            refine g_aload_n (t := 82) X dX5_fold_81 1 rfl rfl ?_
            refine m_getf (t := 85) X 0 (by decide) q4_209 rfl rfl dX5_fold_82 rfl ?_
            refine g_aload_n (t := 86) X dX5_fold_85 1 rfl rfl ?_
            refine m_getf (t := 89) X 3 (by decide) q4_212 rfl rfl dX5_fold_86 rfl ?_
            refine g_iload_n (t := 90) X dX5_fold_89 2 rfl rfl ?_
            refine g_iast (t := 91) (f := Y 0) X 1 wM_fo (by omega) (by omega) (by omega) wM_s_fo dX5_fold_90 rfl ?_
            refine g_aload_n (t := 92) X dX5_fold_91 1 rfl rfl ?_
            refine m_getf (t := 95) X 1 (by decide) q4_210 rfl rfl dX5_fold_92 rfl ?_
            refine g_aload_n (t := 96) X dX5_fold_95 1 rfl rfl ?_
            refine m_getf (t := 99) (v := vi (Y 3 0)) X 3 (by decide) q4_212 rfl rfl dX5_fold_96 rfl ?_
            refine g_iload_n (t := 100) X dX5_fold_99 3 rfl rfl ?_
            refine g_iast (t := 101) (f := Y 1) X 2 wM_fl (by omega) (by omega) (by omega) wM_s_fl dX5_fold_100 rfl ?_
            refine g_aload_n (t := 102) X dX5_fold_101 1 rfl rfl ?_
            refine m_getf (t := 105) X 2 (by decide) q4_211 rfl rfl dX5_fold_102 rfl ?_
            refine g_aload_n (t := 106) X dX5_fold_105 1 rfl rfl ?_
            refine m_getf (t := 109) (v := vi (Y 3 0)) X 3 (by decide) q4_212 rfl rfl dX5_fold_106 rfl ?_
            refine g_iload_n (t := 110) X dX5_fold_109 4 rfl rfl ?_
            refine g_iast (t := 111) (f := Y 2) X 3 wM_fn (by omega) (by omega) (by omega) wM_s_fn dX5_fold_110 rfl ?_
            refine g_aload_n (t := 112) X dX5_fold_111 1 rfl rfl ?_
            refine g_dup (t := 113) X dX5_fold_112 rfl rfl ?_
            refine m_getf (t := 116) (v := vi (Y 3 0)) X 3 (by decide) q4_212 rfl rfl dX5_fold_113 rfl ?_
            refine g_iconst (t := 117) X dX5_fold_116 rfl ?_
            refine g_iadd (t := 118) X dX5_fold_117 rfl ?_
            refine m_putf (t := 121) X 3 (by decide) q4_212 rfl rfl rfl wM_f_folds dX5_fold_118 rfl ?_
            refine g_aload_n (t := 122) X dX5_fold_121 1 rfl rfl ?_
            refine m_getf (t := 125) (v := vi ((Y 3 0) + 1)) X 3 (by decide) q4_212 rfl rfl dX5_fold_122 rfl ?_
            refine g_iconst (t := 126) X dX5_fold_125 rfl ?_
            refine g_isub (t := 127) X dX5_fold_126 rfl ?_
            exact g_iret X r ⟨((Y 3 0) + 1) - 1, W62, rfl, Or.inr (Or.inr (Or.inr ⟨by omega, by omega, ⟨c_58, b_62⟩, by omega, rfl⟩))⟩ (Nat.le_of_ble_eq_true rfl) (Nat.le_of_ble_eq_true rfl) dX5_fold_127
      · refine g_if_ne (t := 43) (u := 39) X dX5_fold_36 (by decide) rfl ⟨by omega, by omega⟩ (fun c => absurd c (by decide)) (fun _ => ?_)
        refine g_iconst (t := 40) X dX5_fold_39 rfl ?_
        refine g_goto (t := 73) X dX5_fold_40 (by decide) ?_
        refine g_callV (t := 76) (mc := 0) (ms := 0) (rest := []) X mt_X5_holds q5_102 q5_104 qs_32 0 wM_0 rfl (c_X5_holds hfl ⟨by omega, by omega⟩) (by decide) (by decide) (by decide) (Nat.le_of_ble_eq_true rfl) rfl rfl dX5_fold_73 rfl (k_rb (fun _ => ?_) (fun h => absurd (by decide) h))
        refine g_if_eq (t := 81) (u := 79) X dX5_fold_76 (by decide) rfl ⟨by omega, by omega⟩ (fun c => absurd c (by decide)) (fun _ => ?_)
        refine g_iconst (t := 80) X dX5_fold_79 rfl ?_
        exact g_iret X r ⟨(-1), W, rfl, Or.inl ⟨by omega, rfl⟩⟩ (Nat.le_of_ble_eq_true rfl) (Nat.le_of_ble_eq_true rfl) dX5_fold_80
    · refine g_if_eq (t := 27) (u := 23) X dX5_fold_20 (by decide) rfl ⟨by omega, by omega⟩ (fun _ => ?_) (fun c => absurd c (by decide))
      refine g_iconst (t := 28) X dX5_fold_27 rfl ?_
      refine g_istore (t := 30) (lv1 := [(4, vi 0), (0, .ref (ad 0)), (1, vi f), (2, vi x), (3, vi y)]) X dX5_fold_28 (by decide) rfl rfl ?_
      refine g_aload_n (t := 31) X dX5_fold_30 1 rfl rfl ?_
      refine g_aload_n (t := 32) X dX5_fold_31 1 rfl rfl ?_
      refine g_iload_n (t := 33) X dX5_fold_32 2 rfl rfl ?_
      refine g_callV (t := 36) (mc := 0) (ms := 0) (rest := [.ref (ad 0)]) X mt_X5_isFold q5_58 q5_60 qs_21 0 wM_0 rfl (c_X5_isFold hfl hI ⟨by omega, by omega⟩) (by decide) (by decide) (by decide) (Nat.le_of_ble_eq_true rfl) rfl rfl dX5_fold_33 rfl (k_rb (fun b_33 => ?_) (fun b_33 => ?_))
      · refine g_if_ne (t := 43) (u := 39) X dX5_fold_36 (by decide) rfl ⟨by omega, by omega⟩ (fun _ => ?_) (fun c => absurd c (by decide))
        refine g_iload (t := 45) X dX5_fold_43 0 rfl rfl ?_
        refine g_if_ne (t := 52) (u := 48) X dX5_fold_45 (by decide) rfl ⟨by omega, by omega⟩ (fun c => absurd c (by decide)) (fun _ => ?_)
        refine g_iconst (t := 49) X dX5_fold_48 rfl ?_
        refine g_goto (t := 73) X dX5_fold_49 (by decide) ?_
        refine g_callV (t := 76) (mc := 0) (ms := 0) (rest := []) X mt_X5_holds q5_102 q5_104 qs_32 0 wM_0 rfl (c_X5_holds hfl ⟨by omega, by omega⟩) (by decide) (by decide) (by decide) (Nat.le_of_ble_eq_true rfl) rfl rfl dX5_fold_73 rfl (k_rb (fun _ => ?_) (fun h => absurd (by decide) h))
        refine g_if_eq (t := 81) (u := 79) X dX5_fold_76 (by decide) rfl ⟨by omega, by omega⟩ (fun c => absurd c (by decide)) (fun _ => ?_)
        refine g_iconst (t := 80) X dX5_fold_79 rfl ?_
        exact g_iret X r ⟨(-1), W, rfl, Or.inr (Or.inl ⟨by omega, by omega, rfl⟩)⟩ (Nat.le_of_ble_eq_true rfl) (Nat.le_of_ble_eq_true rfl) dX5_fold_80
      · refine g_if_ne (t := 43) (u := 39) X dX5_fold_36 (by decide) rfl ⟨by omega, by omega⟩ (fun c => absurd c (by decide)) (fun _ => ?_)
        refine g_iconst (t := 40) X dX5_fold_39 rfl ?_
        refine g_goto (t := 73) X dX5_fold_40 (by decide) ?_
        refine g_callV (t := 76) (mc := 0) (ms := 0) (rest := []) X mt_X5_holds q5_102 q5_104 qs_32 0 wM_0 rfl (c_X5_holds hfl ⟨by omega, by omega⟩) (by decide) (by decide) (by decide) (Nat.le_of_ble_eq_true rfl) rfl rfl dX5_fold_73 rfl (k_rb (fun _ => ?_) (fun h => absurd (by decide) h))
        refine g_if_eq (t := 81) (u := 79) X dX5_fold_76 (by decide) rfl ⟨by omega, by omega⟩ (fun c => absurd c (by decide)) (fun _ => ?_)
        refine g_iconst (t := 80) X dX5_fold_79 rfl ?_
        exact g_iret X r ⟨(-1), W, rfl, Or.inl ⟨by omega, rfl⟩⟩ (Nat.le_of_ble_eq_true rfl) (Nat.le_of_ble_eq_true rfl) dX5_fold_80
  · refine g_if_eq (t := 27) (u := 11) X dX5_fold_8 (by decide) rfl ⟨by omega, by omega⟩ (fun _ => ?_) (fun c => absurd c (by decide))
    refine g_iconst (t := 28) X dX5_fold_27 rfl ?_
    refine g_istore (t := 30) (lv1 := [(4, vi 0), (0, .ref (ad 0)), (1, vi f), (2, vi x), (3, vi y)]) X dX5_fold_28 (by decide) rfl rfl ?_
    refine g_aload_n (t := 31) X dX5_fold_30 1 rfl rfl ?_
    refine g_aload_n (t := 32) X dX5_fold_31 1 rfl rfl ?_
    refine g_iload_n (t := 33) X dX5_fold_32 2 rfl rfl ?_
    refine g_callV (t := 36) (mc := 0) (ms := 0) (rest := [.ref (ad 0)]) X mt_X5_isFold q5_58 q5_60 qs_21 0 wM_0 rfl (c_X5_isFold hfl hI ⟨by omega, by omega⟩) (by decide) (by decide) (by decide) (Nat.le_of_ble_eq_true rfl) rfl rfl dX5_fold_33 rfl (k_rb (fun b_33 => ?_) (fun b_33 => ?_))
    · refine g_if_ne (t := 43) (u := 39) X dX5_fold_36 (by decide) rfl ⟨by omega, by omega⟩ (fun _ => ?_) (fun c => absurd c (by decide))
      refine g_iload (t := 45) X dX5_fold_43 0 rfl rfl ?_
      refine g_if_ne (t := 52) (u := 48) X dX5_fold_45 (by decide) rfl ⟨by omega, by omega⟩ (fun c => absurd c (by decide)) (fun _ => ?_)
      refine g_iconst (t := 49) X dX5_fold_48 rfl ?_
      refine g_goto (t := 73) X dX5_fold_49 (by decide) ?_
      refine g_callV (t := 76) (mc := 0) (ms := 0) (rest := []) X mt_X5_holds q5_102 q5_104 qs_32 0 wM_0 rfl (c_X5_holds hfl ⟨by omega, by omega⟩) (by decide) (by decide) (by decide) (Nat.le_of_ble_eq_true rfl) rfl rfl dX5_fold_73 rfl (k_rb (fun _ => ?_) (fun h => absurd (by decide) h))
      refine g_if_eq (t := 81) (u := 79) X dX5_fold_76 (by decide) rfl ⟨by omega, by omega⟩ (fun c => absurd c (by decide)) (fun _ => ?_)
      refine g_iconst (t := 80) X dX5_fold_79 rfl ?_
      exact g_iret X r ⟨(-1), W, rfl, Or.inr (Or.inl ⟨by omega, by omega, rfl⟩)⟩ (Nat.le_of_ble_eq_true rfl) (Nat.le_of_ble_eq_true rfl) dX5_fold_80
    · refine g_if_ne (t := 43) (u := 39) X dX5_fold_36 (by decide) rfl ⟨by omega, by omega⟩ (fun c => absurd c (by decide)) (fun _ => ?_)
      refine g_iconst (t := 40) X dX5_fold_39 rfl ?_
      refine g_goto (t := 73) X dX5_fold_40 (by decide) ?_
      refine g_callV (t := 76) (mc := 0) (ms := 0) (rest := []) X mt_X5_holds q5_102 q5_104 qs_32 0 wM_0 rfl (c_X5_holds hfl ⟨by omega, by omega⟩) (by decide) (by decide) (by decide) (Nat.le_of_ble_eq_true rfl) rfl rfl dX5_fold_73 rfl (k_rb (fun _ => ?_) (fun h => absurd (by decide) h))
      refine g_if_eq (t := 81) (u := 79) X dX5_fold_76 (by decide) rfl ⟨by omega, by omega⟩ (fun c => absurd c (by decide)) (fun _ => ?_)
      refine g_iconst (t := 80) X dX5_fold_79 rfl ?_
      exact g_iret X r ⟨(-1), W, rfl, Or.inl ⟨by omega, rfl⟩⟩ (Nat.le_of_ble_eq_true rfl) (Nat.le_of_ble_eq_true rfl) dX5_fold_80

set_option maxHeartbeats 4000000 in
set_option maxRecDepth 100000 in
/-- part(.., eases = 0) -/
theorem c_X5_part0 {C : WC} {l : Launch} (hfl : l.stackTraces = false) {ad : Nat → Nat} {Y V : Nat → Int → Int} {W : Int → Int} {th : Int} {R : va_W} {f x y z u : Int} (hI : MI Y) (hf : Rg f) (hx : Rg x) (hy : Rg y) (hz : Rg z) (hu : Rg u) : MM C l yX5_part cX5_part 8 (some .int) 7 0 0 [.ref (ad 0), vi f, vi x, vi y, vi z, vi u, vi 0] (wM C ad Y V W th ++ R) (pu3 (0 ≤ f ∧ f < Y 3 0) ((0 ≤ x ∧ x ≤ 60) ∧ (1 ≤ y ∧ y ≤ 30) ∧ (0 ≤ z ∧ z ≤ 20) ∧ 1 ≤ u ∧ u ≤ 10) (Y 10 0 ≠ 16 ∧ ¬ boundF Y) (Y 10 0) (fun th W => wM C ad Y V W th ++ R) (fun W => wM C ad (u2 (u2 (u2 (u2 (u2 (u2 (u2 Y 4 (Y 10 0) f) 5 (Y 10 0) x) 6 (Y 10 0) y) 7 (Y 10 0) z) 8 (Y 10 0) u) 9 (Y 10 0) 0) 10 0 (Y 10 0 + 1)) V W 0 ++ R)) := by
  refine mm_of (by decide +kernel) (Nat.le_of_ble_eq_true rfl) hfl (fun K Q X r => ?_)
  have X : Cx C l "SpringleafModel" cX5_part 8 7 0 0 K := X
  have I3 := hI.1
  have I10 := hI.2.2.1
  have I12 := hI.2.2.2.2.1
  obtain ⟨f1, f2⟩ := hf
  obtain ⟨x1, x2⟩ := hx
  obtain ⟨y1, y2⟩ := hy
  obtain ⟨z1, z2⟩ := hz
  obtain ⟨u1, u2⟩ := hu
  show G C K Q 0 0 0 [(0, .ref (ad 0)), (1, vi f), (2, vi x), (3, vi y), (4, vi z), (5, vi u), (6, vi 0)] [] (wM C ad Y V W th ++ R)
  refine g_aload_n (t := 1) X dX5_part_0 0 rfl rfl ?_
  refine g_iload_n (t := 2) X dX5_part_1 2 rfl rfl ?_
  refine g_iconst (t := 3) X dX5_part_2 rfl ?_
  refine g_bipush (t := 5) (z := 60) X dX5_part_3 (by decide +kernel) rfl ?_
  refine g_callV (t := 8) (mc := 0) (ms := 0) (rest := []) X mt_X5_in q5_54 q5_56 qs_20 0 wM_0 rfl (c_X5_in hfl ⟨by omega, by omega⟩ ⟨by omega, by omega⟩ ⟨by omega, by omega⟩) (by decide) (by decide) (by decide) (Nat.le_of_ble_eq_true rfl) rfl rfl dX5_part_5 rfl (k_rb (fun b_5 => ?_) (fun b_5 => ?_))
  · refine g_if_eq (t := 50) (u := 11) X dX5_part_8 (by decide) rfl ⟨by omega, by omega⟩ (fun c => absurd c (by decide)) (fun _ => ?_)
    refine g_aload_n (t := 12) X dX5_part_11 0 rfl rfl ?_
    refine g_iload_n (t := 13) X dX5_part_12 3 rfl rfl ?_
    refine g_iconst (t := 14) X dX5_part_13 rfl ?_
    refine g_bipush (t := 16) (z := 30) X dX5_part_14 (by decide +kernel) rfl ?_
    refine g_callV (t := 19) (mc := 0) (ms := 0) (rest := []) X mt_X5_in q5_54 q5_56 qs_20 0 wM_0 rfl (c_X5_in hfl ⟨by omega, by omega⟩ ⟨by omega, by omega⟩ ⟨by omega, by omega⟩) (by decide) (by decide) (by decide) (Nat.le_of_ble_eq_true rfl) rfl rfl dX5_part_16 rfl (k_rb (fun b_16 => ?_) (fun b_16 => ?_))
    · refine g_if_eq (t := 50) (u := 22) X dX5_part_19 (by decide) rfl ⟨by omega, by omega⟩ (fun c => absurd c (by decide)) (fun _ => ?_)
      refine g_aload_n (t := 23) X dX5_part_22 0 rfl rfl ?_
      refine g_iload (t := 25) X dX5_part_23 4 rfl rfl ?_
      refine g_iconst (t := 26) X dX5_part_25 rfl ?_
      refine g_bipush (t := 28) (z := 20) X dX5_part_26 (by decide +kernel) rfl ?_
      refine g_callV (t := 31) (mc := 0) (ms := 0) (rest := []) X mt_X5_in q5_54 q5_56 qs_20 0 wM_0 rfl (c_X5_in hfl ⟨by omega, by omega⟩ ⟨by omega, by omega⟩ ⟨by omega, by omega⟩) (by decide) (by decide) (by decide) (Nat.le_of_ble_eq_true rfl) rfl rfl dX5_part_28 rfl (k_rb (fun b_28 => ?_) (fun b_28 => ?_))
      · refine g_if_eq (t := 50) (u := 34) X dX5_part_31 (by decide) rfl ⟨by omega, by omega⟩ (fun c => absurd c (by decide)) (fun _ => ?_)
        refine g_aload_n (t := 35) X dX5_part_34 0 rfl rfl ?_
        refine g_iload (t := 37) X dX5_part_35 5 rfl rfl ?_
        refine g_iconst (t := 38) X dX5_part_37 rfl ?_
        refine g_bipush (t := 40) (z := 10) X dX5_part_38 (by decide +kernel) rfl ?_
        refine g_callV (t := 43) (mc := 0) (ms := 0) (rest := []) X mt_X5_in q5_54 q5_56 qs_20 0 wM_0 rfl (c_X5_in hfl ⟨by omega, by omega⟩ ⟨by omega, by omega⟩ ⟨by omega, by omega⟩) (by decide) (by decide) (by decide) (Nat.le_of_ble_eq_true rfl) rfl rfl dX5_part_40 rfl (k_rb (fun b_40 => ?_) (fun b_40 => ?_))
        · refine g_if_eq (t := 50) (u := 46) X dX5_part_43 (by decide) rfl ⟨by omega, by omega⟩ (fun c => absurd c (by decide)) (fun _ => ?_)
          refine g_iconst (t := 47) X dX5_part_46 rfl ?_
          refine g_goto (t := 51) X dX5_part_47 (by decide) ?_
          refine g_istore (t := 53) (lv1 := [(7, vi 1), (0, .ref (ad 0)), (1, vi f), (2, vi x), (3, vi y), (4, vi z), (5, vi u), (6, vi 0)]) X dX5_part_51 (by decide) rfl rfl ?_
          refine g_aload_n (t := 54) X dX5_part_53 1 rfl rfl ?_
          refine g_aload_n (t := 55) X dX5_part_54 1 rfl rfl ?_
          refine g_iload_n (t := 56) X dX5_part_55 2 rfl rfl ?_
          refine g_callV (t := 59) (mc := 0) (ms := 0) (rest := [.ref (ad 0)]) X mt_X5_isFold q5_58 q5_60 qs_21 0 wM_0 rfl (c_X5_isFold hfl hI ⟨by omega, by omega⟩) (by decide) (by decide) (by decide) (Nat.le_of_ble_eq_true rfl) rfl rfl dX5_part_56 rfl (k_rb (fun b_56 => ?_) (fun b_56 => ?_))
          · refine g_if_ne (t := 66) (u := 62) X dX5_part_59 (by decide) rfl ⟨by omega, by omega⟩ (fun _ => ?_) (fun c => absurd c (by decide))
            refine g_iload (t := 68) X dX5_part_66 0 rfl rfl ?_
            refine g_if_ne (t := 75) (u := 71) X dX5_part_68 (by decide) rfl ⟨by omega, by omega⟩ (fun _ => ?_) (fun c => absurd c (by decide))
            refine g_aload_n (t := 76) X dX5_part_75 1 rfl rfl ?_
            refine m_getf (t := 79) X 10 (by decide) q4_219 rfl rfl dX5_part_76 rfl ?_
            refine g_bipush (t := 81) (z := 16) X dX5_part_79 (by decide +kernel) rfl ?_
            refine g_icmp_eq (t := 91) (u := 84) X dX5_part_81 (by decide) rfl ⟨by omega, by omega⟩ ⟨by omega, by omega⟩ (fun c_81 => ?_) (fun c_81 => ?_)
            · refine g_iconst (t := 92) X dX5_part_91 rfl ?_
              refine g_goto (t := 96) X dX5_part_92 (by decide) ?_
              refine g_callV (t := 99) (mc := 0) (ms := 0) (rest := []) X mt_X5_holds q5_102 q5_104 qs_32 0 wM_0 rfl (c_X5_holds hfl ⟨by omega, by omega⟩) (by decide) (by decide) (by decide) (Nat.le_of_ble_eq_true rfl) rfl rfl dX5_part_96 rfl (k_rb (fun _ => ?_) (fun h => absurd (by decide) h))
              refine g_if_eq (t := 104) (u := 102) X dX5_part_99 (by decide) rfl ⟨by omega, by omega⟩ (fun c => absurd c (by decide)) (fun _ => ?_)
              refine g_iconst (t := 103) X dX5_part_102 rfl ?_
              exact g_iret X r ⟨(-1), W, rfl, Or.inr (Or.inr (Or.inl ⟨by omega, by omega, by rintro ⟨g1, g2⟩; first | exact g1 c_81 | exact g2 b_85, rfl⟩))⟩ (Nat.le_of_ble_eq_true rfl) (Nat.le_of_ble_eq_true rfl) dX5_part_103
            · refine g_aload_n (t := 85) X dX5_part_84 1 rfl rfl ?_
              refine g_callV (t := 88) (mc := 0) (ms := 0) (rest := [.ref (ad 0)]) X mt_X5_bound q5_62 q5_64 qs_22 0 wM_0 rfl (c_X5_bound hfl hI) (by decide) (by decide) (by decide) (Nat.le_of_ble_eq_true rfl) rfl rfl dX5_part_85 rfl (k_rbw (fun W85 b_85 => ?_) (fun W85 b_85 => ?_))
              · refine g_if_eq (t := 95) (u := 91) X dX5_part_88 (by decide) rfl ⟨by omega, by omega⟩ (fun c => absurd c (by decide)) (fun _ => ?_)
                refine g_iconst (t := 92) X dX5_part_91 rfl ?_
                refine g_goto (t := 96) X dX5_part_92 (by decide) ?_
                refine g_callV (t := 99) (mc := 0) (ms := 0) (rest := []) X mt_X5_holds q5_102 q5_104 qs_32 0 wM_0 rfl (c_X5_holds hfl ⟨by omega, by omega⟩) (by decide) (by decide) (by decide) (Nat.le_of_ble_eq_true rfl) rfl rfl dX5_part_96 rfl (k_rb (fun _ => ?_) (fun h => absurd (by decide) h))
                refine g_if_eq (t := 104) (u := 102) X dX5_part_99 (by decide) rfl ⟨by omega, by omega⟩ (fun c => absurd c (by decide)) (fun _ => ?_)
                refine g_iconst (t := 103) X dX5_part_102 rfl ?_
                exact g_iret X r ⟨(-1), W85, rfl, Or.inr (Or.inr (Or.inl ⟨by omega, by omega, by rintro ⟨g1, g2⟩; first | exact g1 c_81 | exact g2 b_85, rfl⟩))⟩ (Nat.le_of_ble_eq_true rfl) (Nat.le_of_ble_eq_true rfl) dX5_part_103
              · refine g_if_eq (t := 95) (u := 91) X dX5_part_88 (by decide) rfl ⟨by omega, by omega⟩ (fun _ => ?_) (fun c => absurd c (by decide))
                refine g_iconst (t := 96) X dX5_part_95 rfl ?_
                refine g_callV (t := 99) (mc := 0) (ms := 0) (rest := []) X mt_X5_holds q5_102 q5_104 qs_32 0 wM_0 rfl (c_X5_holds hfl ⟨by omega, by omega⟩) (by decide) (by decide) (by decide) (Nat.le_of_ble_eq_true rfl) rfl rfl dX5_part_96 rfl (k_rb (fun h => absurd h (by decide)) (fun _ => ?_))
                refine g_if_eq (t := 104) (u := 102) X dX5_part_99 (by decide) rfl ⟨by omega, by omega⟩ (fun _ => ?_) (fun c => absurd c (by decide))
                refine g_aload_n (t := 105) X dX5_part_104 1 rfl rfl ?_
                refine m_getf (t := 108) X 4 (by decide) q4_213 rfl rfl dX5_part_105 rfl ?_
                refine g_aload_n (t := 109) X dX5_part_108 1 rfl rfl ?_
                refine m_getf (t := 112) X 10 (by decide) q4_219 rfl rfl dX5_part_109 rfl ?_
                refine g_iload_n (t := 113) X dX5_part_112 2 rfl rfl ?_
                refine g_iast (t := 114) (f := Y 4) X 4 wM_pf (by omega) (by omega) (by omega) wM_s_pf dX5_part_113 rfl ?_
                refine g_aload_n (t := 115) X dX5_part_114 1 rfl rfl ?_
                refine m_getf (t := 118) X 5 (by decide) q4_214 rfl rfl dX5_part_115 rfl ?_
                refine g_aload_n (t := 119) X dX5_part_118 1 rfl rfl ?_
                refine m_getf (t := 122) (v := vi (Y 10 0)) X 10 (by decide) q4_219 rfl rfl dX5_part_119 rfl ?_
                refine g_iload_n (t := 123) X dX5_part_122 3 rfl rfl ?_
                refine g_iast (t := 124) (f := Y 5) X 5 wM_pp (by omega) (by omega) (by omega) wM_s_pp dX5_part_123 rfl ?_
                refine g_aload_n (t := 125) X dX5_part_124 1 rfl rfl ?_
                refine m_getf (t := 128) X 6 (by decide) q4_215 rfl rfl dX5_part_125 rfl ?_
                refine g_aload_n (t := 129) X dX5_part_128 1 rfl rfl ?_
                refine m_getf (t := 132) (v := vi (Y 10 0)) X 10 (by decide) q4_219 rfl rfl dX5_part_129 rfl ?_
                refine g_iload_n (t := 133) X dX5_part_132 4 rfl rfl ?_
                refine g_iast (t := 134) (f := Y 6) X 6 wM_pl (by omega) (by omega) (by omega) wM_s_pl dX5_part_133 rfl ?_
                refine g_aload_n (t := 135) X dX5_part_134 1 rfl rfl ?_
                refine m_getf (t := 138) X 7 (by decide) q4_216 rfl rfl dX5_part_135 rfl ?_
                refine g_aload_n (t := 139) X dX5_part_138 1 rfl rfl ?_
                refine m_getf (t := 142) (v := vi (Y 10 0)) X 10 (by decide) q4_219 rfl rfl dX5_part_139 rfl ?_
                refine g_iload (t := 144) X dX5_part_142 5 rfl rfl ?_
                refine g_iast (t := 145) (f := Y 7) X 7 wM_pb (by omega) (by omega) (by omega) wM_s_pb dX5_part_144 rfl ?_
                refine g_aload_n (t := 146) X dX5_part_145 1 rfl rfl ?_
                refine m_getf (t := 149) X 8 (by decide) q4_217 rfl rfl dX5_part_146 rfl ?_
                refine g_aload_n (t := 150) X dX5_part_149 1 rfl rfl ?_
                refine m_getf (t := 153) (v := vi (Y 10 0)) X 10 (by decide) q4_219 rfl rfl dX5_part_150 rfl ?_
                refine g_iload (t := 155) X dX5_part_153 6 rfl rfl ?_
                refine g_iast (t := 156) (f := Y 8) X 8 wM_pn (by omega) (by omega) (by omega) wM_s_pn dX5_part_155 rfl ?_
                refine g_aload_n (t := 157) X dX5_part_156 1 rfl rfl ?_
                refine m_getf (t := 160) X 9 (by decide) q4_218 rfl rfl dX5_part_157 rfl ?_
                refine g_aload_n (t := 161) X dX5_part_160 1 rfl rfl ?_
                refine m_getf (t := 164) (v := vi (Y 10 0)) X 10 (by decide) q4_219 rfl rfl dX5_part_161 rfl ?_
                refine g_iload (t := 166) X dX5_part_164 7 rfl rfl ?_
                refine g_if_eq (t := 173) (u := 169) X dX5_part_166 (by decide) rfl ⟨by omega, by omega⟩ (fun _ => ?_) (fun c => absurd c (by decide))
                refine g_iconst (t := 174) X dX5_part_173 rfl ?_
                refine g_iast (t := 175) (f := Y 9) X 9 wM_pe (by omega) (by omega) (by omega) wM_s_pe dX5_part_174 rfl ?_
                refine g_aload_n (t := 176) X dX5_part_175 1 rfl rfl ?_
                refine g_dup (t := 177) X dX5_part_176 rfl rfl ?_
                refine m_getf (t := 180) (v := vi (Y 10 0)) X 10 (by decide) q4_219 rfl rfl dX5_part_177 rfl ?_
                refine g_iconst (t := 181) X dX5_part_180 rfl ?_
                refine g_iadd (t := 182) X dX5_part_181 rfl ?_
                refine m_putf (t := 185) X 10 (by decide) q4_219 rfl rfl rfl wM_f_parts dX5_part_182 rfl ?_
                refine g_aload_n (t := 186) X dX5_part_185 1 rfl rfl ?_
                refine m_getf (t := 189) (v := vi ((Y 10 0) + 1)) X 10 (by decide) q4_219 rfl rfl dX5_part_186 rfl ?_
                refine g_iconst (t := 190) X dX5_part_189 rfl ?_
                refine g_isub (t := 191) X dX5_part_190 rfl ?_
                exact g_iret X r ⟨((Y 10 0) + 1) - 1, W85, rfl, Or.inr (Or.inr (Or.inr ⟨by omega, by omega, ⟨c_81, b_85⟩, by omega, rfl⟩))⟩ (Nat.le_of_ble_eq_true rfl) (Nat.le_of_ble_eq_true rfl) dX5_part_191
          · refine g_if_ne (t := 66) (u := 62) X dX5_part_59 (by decide) rfl ⟨by omega, by omega⟩ (fun c => absurd c (by decide)) (fun _ => ?_)
            refine g_iconst (t := 63) X dX5_part_62 rfl ?_
            refine g_goto (t := 96) X dX5_part_63 (by decide) ?_
            refine g_callV (t := 99) (mc := 0) (ms := 0) (rest := []) X mt_X5_holds q5_102 q5_104 qs_32 0 wM_0 rfl (c_X5_holds hfl ⟨by omega, by omega⟩) (by decide) (by decide) (by decide) (Nat.le_of_ble_eq_true rfl) rfl rfl dX5_part_96 rfl (k_rb (fun _ => ?_) (fun h => absurd (by decide) h))
            refine g_if_eq (t := 104) (u := 102) X dX5_part_99 (by decide) rfl ⟨by omega, by omega⟩ (fun c => absurd c (by decide)) (fun _ => ?_)
            refine g_iconst (t := 103) X dX5_part_102 rfl ?_
            exact g_iret X r ⟨(-1), W, rfl, Or.inl ⟨by omega, rfl⟩⟩ (Nat.le_of_ble_eq_true rfl) (Nat.le_of_ble_eq_true rfl) dX5_part_103
        · refine g_if_eq (t := 50) (u := 46) X dX5_part_43 (by decide) rfl ⟨by omega, by omega⟩ (fun _ => ?_) (fun c => absurd c (by decide))
          refine g_iconst (t := 51) X dX5_part_50 rfl ?_
          refine g_istore (t := 53) (lv1 := [(7, vi 0), (0, .ref (ad 0)), (1, vi f), (2, vi x), (3, vi y), (4, vi z), (5, vi u), (6, vi 0)]) X dX5_part_51 (by decide) rfl rfl ?_
          refine g_aload_n (t := 54) X dX5_part_53 1 rfl rfl ?_
          refine g_aload_n (t := 55) X dX5_part_54 1 rfl rfl ?_
          refine g_iload_n (t := 56) X dX5_part_55 2 rfl rfl ?_
          refine g_callV (t := 59) (mc := 0) (ms := 0) (rest := [.ref (ad 0)]) X mt_X5_isFold q5_58 q5_60 qs_21 0 wM_0 rfl (c_X5_isFold hfl hI ⟨by omega, by omega⟩) (by decide) (by decide) (by decide) (Nat.le_of_ble_eq_true rfl) rfl rfl dX5_part_56 rfl (k_rb (fun b_56 => ?_) (fun b_56 => ?_))
          · refine g_if_ne (t := 66) (u := 62) X dX5_part_59 (by decide) rfl ⟨by omega, by omega⟩ (fun _ => ?_) (fun c => absurd c (by decide))
            refine g_iload (t := 68) X dX5_part_66 0 rfl rfl ?_
            refine g_if_ne (t := 75) (u := 71) X dX5_part_68 (by decide) rfl ⟨by omega, by omega⟩ (fun c => absurd c (by decide)) (fun _ => ?_)
            refine g_iconst (t := 72) X dX5_part_71 rfl ?_
            refine g_goto (t := 96) X dX5_part_72 (by decide) ?_
            refine g_callV (t := 99) (mc := 0) (ms := 0) (rest := []) X mt_X5_holds q5_102 q5_104 qs_32 0 wM_0 rfl (c_X5_holds hfl ⟨by omega, by omega⟩) (by decide) (by decide) (by decide) (Nat.le_of_ble_eq_true rfl) rfl rfl dX5_part_96 rfl (k_rb (fun _ => ?_) (fun h => absurd (by decide) h))
            refine g_if_eq (t := 104) (u := 102) X dX5_part_99 (by decide) rfl ⟨by omega, by omega⟩ (fun c => absurd c (by decide)) (fun _ => ?_)
            refine g_iconst (t := 103) X dX5_part_102 rfl ?_
            exact g_iret X r ⟨(-1), W, rfl, Or.inr (Or.inl ⟨by omega, by omega, rfl⟩)⟩ (Nat.le_of_ble_eq_true rfl) (Nat.le_of_ble_eq_true rfl) dX5_part_103
          · refine g_if_ne (t := 66) (u := 62) X dX5_part_59 (by decide) rfl ⟨by omega, by omega⟩ (fun c => absurd c (by decide)) (fun _ => ?_)
            refine g_iconst (t := 63) X dX5_part_62 rfl ?_
            refine g_goto (t := 96) X dX5_part_63 (by decide) ?_
            refine g_callV (t := 99) (mc := 0) (ms := 0) (rest := []) X mt_X5_holds q5_102 q5_104 qs_32 0 wM_0 rfl (c_X5_holds hfl ⟨by omega, by omega⟩) (by decide) (by decide) (by decide) (Nat.le_of_ble_eq_true rfl) rfl rfl dX5_part_96 rfl (k_rb (fun _ => ?_) (fun h => absurd (by decide) h))
            refine g_if_eq (t := 104) (u := 102) X dX5_part_99 (by decide) rfl ⟨by omega, by omega⟩ (fun c => absurd c (by decide)) (fun _ => ?_)
            refine g_iconst (t := 103) X dX5_part_102 rfl ?_
            exact g_iret X r ⟨(-1), W, rfl, Or.inl ⟨by omega, rfl⟩⟩ (Nat.le_of_ble_eq_true rfl) (Nat.le_of_ble_eq_true rfl) dX5_part_103
      · refine g_if_eq (t := 50) (u := 34) X dX5_part_31 (by decide) rfl ⟨by omega, by omega⟩ (fun _ => ?_) (fun c => absurd c (by decide))
        refine g_iconst (t := 51) X dX5_part_50 rfl ?_
        refine g_istore (t := 53) (lv1 := [(7, vi 0), (0, .ref (ad 0)), (1, vi f), (2, vi x), (3, vi y), (4, vi z), (5, vi u), (6, vi 0)]) X dX5_part_51 (by decide) rfl rfl ?_
        refine g_aload_n (t := 54) X dX5_part_53 1 rfl rfl ?_
        refine g_aload_n (t := 55) X dX5_part_54 1 rfl rfl ?_
        refine g_iload_n (t := 56) X dX5_part_55 2 rfl rfl ?_
        refine g_callV (t := 59) (mc := 0) (ms := 0) (rest := [.ref (ad 0)]) X mt_X5_isFold q5_58 q5_60 qs_21 0 wM_0 rfl (c_X5_isFold hfl hI ⟨by omega, by omega⟩) (by decide) (by decide) (by decide) (Nat.le_of_ble_eq_true rfl) rfl rfl dX5_part_56 rfl (k_rb (fun b_56 => ?_) (fun b_56 => ?_))
        · refine g_if_ne (t := 66) (u := 62) X dX5_part_59 (by decide) rfl ⟨by omega, by omega⟩ (fun _ => ?_) (fun c => absurd c (by decide))
          refine g_iload (t := 68) X dX5_part_66 0 rfl rfl ?_
          refine g_if_ne (t := 75) (u := 71) X dX5_part_68 (by decide) rfl ⟨by omega, by omega⟩ (fun c => absurd c (by decide)) (fun _ => ?_)
          refine g_iconst (t := 72) X dX5_part_71 rfl ?_
          refine g_goto (t := 96) X dX5_part_72 (by decide) ?_
          refine g_callV (t := 99) (mc := 0) (ms := 0) (rest := []) X mt_X5_holds q5_102 q5_104 qs_32 0 wM_0 rfl (c_X5_holds hfl ⟨by omega, by omega⟩) (by decide) (by decide) (by decide) (Nat.le_of_ble_eq_true rfl) rfl rfl dX5_part_96 rfl (k_rb (fun _ => ?_) (fun h => absurd (by decide) h))
          refine g_if_eq (t := 104) (u := 102) X dX5_part_99 (by decide) rfl ⟨by omega, by omega⟩ (fun c => absurd c (by decide)) (fun _ => ?_)
          refine g_iconst (t := 103) X dX5_part_102 rfl ?_
          exact g_iret X r ⟨(-1), W, rfl, Or.inr (Or.inl ⟨by omega, by omega, rfl⟩)⟩ (Nat.le_of_ble_eq_true rfl) (Nat.le_of_ble_eq_true rfl) dX5_part_103
        · refine g_if_ne (t := 66) (u := 62) X dX5_part_59 (by decide) rfl ⟨by omega, by omega⟩ (fun c => absurd c (by decide)) (fun _ => ?_)
          refine g_iconst (t := 63) X dX5_part_62 rfl ?_
          refine g_goto (t := 96) X dX5_part_63 (by decide) ?_
          refine g_callV (t := 99) (mc := 0) (ms := 0) (rest := []) X mt_X5_holds q5_102 q5_104 qs_32 0 wM_0 rfl (c_X5_holds hfl ⟨by omega, by omega⟩) (by decide) (by decide) (by decide) (Nat.le_of_ble_eq_true rfl) rfl rfl dX5_part_96 rfl (k_rb (fun _ => ?_) (fun h => absurd (by decide) h))
          refine g_if_eq (t := 104) (u := 102) X dX5_part_99 (by decide) rfl ⟨by omega, by omega⟩ (fun c => absurd c (by decide)) (fun _ => ?_)
          refine g_iconst (t := 103) X dX5_part_102 rfl ?_
          exact g_iret X r ⟨(-1), W, rfl, Or.inl ⟨by omega, rfl⟩⟩ (Nat.le_of_ble_eq_true rfl) (Nat.le_of_ble_eq_true rfl) dX5_part_103
    · refine g_if_eq (t := 50) (u := 22) X dX5_part_19 (by decide) rfl ⟨by omega, by omega⟩ (fun _ => ?_) (fun c => absurd c (by decide))
      refine g_iconst (t := 51) X dX5_part_50 rfl ?_
      refine g_istore (t := 53) (lv1 := [(7, vi 0), (0, .ref (ad 0)), (1, vi f), (2, vi x), (3, vi y), (4, vi z), (5, vi u), (6, vi 0)]) X dX5_part_51 (by decide) rfl rfl ?_
      refine g_aload_n (t := 54) X dX5_part_53 1 rfl rfl ?_
      refine g_aload_n (t := 55) X dX5_part_54 1 rfl rfl ?_
      refine g_iload_n (t := 56) X dX5_part_55 2 rfl rfl ?_
      refine g_callV (t := 59) (mc := 0) (ms := 0) (rest := [.ref (ad 0)]) X mt_X5_isFold q5_58 q5_60 qs_21 0 wM_0 rfl (c_X5_isFold hfl hI ⟨by omega, by omega⟩) (by decide) (by decide) (by decide) (Nat.le_of_ble_eq_true rfl) rfl rfl dX5_part_56 rfl (k_rb (fun b_56 => ?_) (fun b_56 => ?_))
      · refine g_if_ne (t := 66) (u := 62) X dX5_part_59 (by decide) rfl ⟨by omega, by omega⟩ (fun _ => ?_) (fun c => absurd c (by decide))
        refine g_iload (t := 68) X dX5_part_66 0 rfl rfl ?_
        refine g_if_ne (t := 75) (u := 71) X dX5_part_68 (by decide) rfl ⟨by omega, by omega⟩ (fun c => absurd c (by decide)) (fun _ => ?_)
        refine g_iconst (t := 72) X dX5_part_71 rfl ?_
        refine g_goto (t := 96) X dX5_part_72 (by decide) ?_
        refine g_callV (t := 99) (mc := 0) (ms := 0) (rest := []) X mt_X5_holds q5_102 q5_104 qs_32 0 wM_0 rfl (c_X5_holds hfl ⟨by omega, by omega⟩) (by decide) (by decide) (by decide) (Nat.le_of_ble_eq_true rfl) rfl rfl dX5_part_96 rfl (k_rb (fun _ => ?_) (fun h => absurd (by decide) h))
        refine g_if_eq (t := 104) (u := 102) X dX5_part_99 (by decide) rfl ⟨by omega, by omega⟩ (fun c => absurd c (by decide)) (fun _ => ?_)
        refine g_iconst (t := 103) X dX5_part_102 rfl ?_
        exact g_iret X r ⟨(-1), W, rfl, Or.inr (Or.inl ⟨by omega, by omega, rfl⟩)⟩ (Nat.le_of_ble_eq_true rfl) (Nat.le_of_ble_eq_true rfl) dX5_part_103
      · refine g_if_ne (t := 66) (u := 62) X dX5_part_59 (by decide) rfl ⟨by omega, by omega⟩ (fun c => absurd c (by decide)) (fun _ => ?_)
        refine g_iconst (t := 63) X dX5_part_62 rfl ?_
        refine g_goto (t := 96) X dX5_part_63 (by decide) ?_
        refine g_callV (t := 99) (mc := 0) (ms := 0) (rest := []) X mt_X5_holds q5_102 q5_104 qs_32 0 wM_0 rfl (c_X5_holds hfl ⟨by omega, by omega⟩) (by decide) (by decide) (by decide) (Nat.le_of_ble_eq_true rfl) rfl rfl dX5_part_96 rfl (k_rb (fun _ => ?_) (fun h => absurd (by decide) h))
        refine g_if_eq (t := 104) (u := 102) X dX5_part_99 (by decide) rfl ⟨by omega, by omega⟩ (fun c => absurd c (by decide)) (fun _ => ?_)
        refine g_iconst (t := 103) X dX5_part_102 rfl ?_
        exact g_iret X r ⟨(-1), W, rfl, Or.inl ⟨by omega, rfl⟩⟩ (Nat.le_of_ble_eq_true rfl) (Nat.le_of_ble_eq_true rfl) dX5_part_103
  · refine g_if_eq (t := 50) (u := 11) X dX5_part_8 (by decide) rfl ⟨by omega, by omega⟩ (fun _ => ?_) (fun c => absurd c (by decide))
    refine g_iconst (t := 51) X dX5_part_50 rfl ?_
    refine g_istore (t := 53) (lv1 := [(7, vi 0), (0, .ref (ad 0)), (1, vi f), (2, vi x), (3, vi y), (4, vi z), (5, vi u), (6, vi 0)]) X dX5_part_51 (by decide) rfl rfl ?_
    refine g_aload_n (t := 54) X dX5_part_53 1 rfl rfl ?_
    refine g_aload_n (t := 55) X dX5_part_54 1 rfl rfl ?_
    refine g_iload_n (t := 56) X dX5_part_55 2 rfl rfl ?_
    refine g_callV (t := 59) (mc := 0) (ms := 0) (rest := [.ref (ad 0)]) X mt_X5_isFold q5_58 q5_60 qs_21 0 wM_0 rfl (c_X5_isFold hfl hI ⟨by omega, by omega⟩) (by decide) (by decide) (by decide) (Nat.le_of_ble_eq_true rfl) rfl rfl dX5_part_56 rfl (k_rb (fun b_56 => ?_) (fun b_56 => ?_))
    · refine g_if_ne (t := 66) (u := 62) X dX5_part_59 (by decide) rfl ⟨by omega, by omega⟩ (fun _ => ?_) (fun c => absurd c (by decide))
      refine g_iload (t := 68) X dX5_part_66 0 rfl rfl ?_
      refine g_if_ne (t := 75) (u := 71) X dX5_part_68 (by decide) rfl ⟨by omega, by omega⟩ (fun c => absurd c (by decide)) (fun _ => ?_)
      refine g_iconst (t := 72) X dX5_part_71 rfl ?_
      refine g_goto (t := 96) X dX5_part_72 (by decide) ?_
      refine g_callV (t := 99) (mc := 0) (ms := 0) (rest := []) X mt_X5_holds q5_102 q5_104 qs_32 0 wM_0 rfl (c_X5_holds hfl ⟨by omega, by omega⟩) (by decide) (by decide) (by decide) (Nat.le_of_ble_eq_true rfl) rfl rfl dX5_part_96 rfl (k_rb (fun _ => ?_) (fun h => absurd (by decide) h))
      refine g_if_eq (t := 104) (u := 102) X dX5_part_99 (by decide) rfl ⟨by omega, by omega⟩ (fun c => absurd c (by decide)) (fun _ => ?_)
      refine g_iconst (t := 103) X dX5_part_102 rfl ?_
      exact g_iret X r ⟨(-1), W, rfl, Or.inr (Or.inl ⟨by omega, by omega, rfl⟩)⟩ (Nat.le_of_ble_eq_true rfl) (Nat.le_of_ble_eq_true rfl) dX5_part_103
    · refine g_if_ne (t := 66) (u := 62) X dX5_part_59 (by decide) rfl ⟨by omega, by omega⟩ (fun c => absurd c (by decide)) (fun _ => ?_)
      refine g_iconst (t := 63) X dX5_part_62 rfl ?_
      refine g_goto (t := 96) X dX5_part_63 (by decide) ?_
      refine g_callV (t := 99) (mc := 0) (ms := 0) (rest := []) X mt_X5_holds q5_102 q5_104 qs_32 0 wM_0 rfl (c_X5_holds hfl ⟨by omega, by omega⟩) (by decide) (by decide) (by decide) (Nat.le_of_ble_eq_true rfl) rfl rfl dX5_part_96 rfl (k_rb (fun _ => ?_) (fun h => absurd (by decide) h))
      refine g_if_eq (t := 104) (u := 102) X dX5_part_99 (by decide) rfl ⟨by omega, by omega⟩ (fun c => absurd c (by decide)) (fun _ => ?_)
      refine g_iconst (t := 103) X dX5_part_102 rfl ?_
      exact g_iret X r ⟨(-1), W, rfl, Or.inl ⟨by omega, rfl⟩⟩ (Nat.le_of_ble_eq_true rfl) (Nat.le_of_ble_eq_true rfl) dX5_part_103

set_option maxHeartbeats 4000000 in
set_option maxRecDepth 100000 in
/-- part(.., eases = 1) -/
theorem c_X5_part1 {C : WC} {l : Launch} (hfl : l.stackTraces = false) {ad : Nat → Nat} {Y V : Nat → Int → Int} {W : Int → Int} {th : Int} {R : va_W} {f x y z u : Int} (hI : MI Y) (hf : Rg f) (hx : Rg x) (hy : Rg y) (hz : Rg z) (hu : Rg u) : MM C l yX5_part cX5_part 8 (some .int) 7 0 0 [.ref (ad 0), vi f, vi x, vi y, vi z, vi u, vi 1] (wM C ad Y V W th ++ R) (pu3 (0 ≤ f ∧ f < Y 3 0) ((0 ≤ x ∧ x ≤ 60) ∧ (1 ≤ y ∧ y ≤ 30) ∧ (0 ≤ z ∧ z ≤ 20) ∧ 1 ≤ u ∧ u ≤ 10) (Y 10 0 ≠ 16 ∧ ¬ boundF Y) (Y 10 0) (fun th W => wM C ad Y V W th ++ R) (fun W => wM C ad (u2 (u2 (u2 (u2 (u2 (u2 (u2 Y 4 (Y 10 0) f) 5 (Y 10 0) x) 6 (Y 10 0) y) 7 (Y 10 0) z) 8 (Y 10 0) u) 9 (Y 10 0) 1) 10 0 (Y 10 0 + 1)) V W 0 ++ R)) := by
  refine mm_of (by decide +kernel) (Nat.le_of_ble_eq_true rfl) hfl (fun K Q X r => ?_)
  have X : Cx C l "SpringleafModel" cX5_part 8 7 0 0 K := X
  have I3 := hI.1
  have I10 := hI.2.2.1
  have I12 := hI.2.2.2.2.1
  obtain ⟨f1, f2⟩ := hf
  obtain ⟨x1, x2⟩ := hx
  obtain ⟨y1, y2⟩ := hy
  obtain ⟨z1, z2⟩ := hz
  obtain ⟨u1, u2⟩ := hu
  show G C K Q 0 0 0 [(0, .ref (ad 0)), (1, vi f), (2, vi x), (3, vi y), (4, vi z), (5, vi u), (6, vi 1)] [] (wM C ad Y V W th ++ R)
  refine g_aload_n (t := 1) X dX5_part_0 0 rfl rfl ?_
  refine g_iload_n (t := 2) X dX5_part_1 2 rfl rfl ?_
  refine g_iconst (t := 3) X dX5_part_2 rfl ?_
  refine g_bipush (t := 5) (z := 60) X dX5_part_3 (by decide +kernel) rfl ?_
  refine g_callV (t := 8) (mc := 0) (ms := 0) (rest := []) X mt_X5_in q5_54 q5_56 qs_20 0 wM_0 rfl (c_X5_in hfl ⟨by omega, by omega⟩ ⟨by omega, by omega⟩ ⟨by omega, by omega⟩) (by decide) (by decide) (by decide) (Nat.le_of_ble_eq_true rfl) rfl rfl dX5_part_5 rfl (k_rb (fun b_5 => ?_) (fun b_5 => ?_))
  · refine g_if_eq (t := 50) (u := 11) X dX5_part_8 (by decide) rfl ⟨by omega, by omega⟩ (fun c => absurd c (by decide)) (fun _ => ?_)
    refine g_aload_n (t := 12) X dX5_part_11 0 rfl rfl ?_
    refine g_iload_n (t := 13) X dX5_part_12 3 rfl rfl ?_
    refine g_iconst (t := 14) X dX5_part_13 rfl ?_
    refine g_bipush (t := 16) (z := 30) X dX5_part_14 (by decide +kernel) rfl ?_
    refine g_callV (t := 19) (mc := 0) (ms := 0) (rest := []) X mt_X5_in q5_54 q5_56 qs_20 0 wM_0 rfl (c_X5_in hfl ⟨by omega, by omega⟩ ⟨by omega, by omega⟩ ⟨by omega, by omega⟩) (by decide) (by decide) (by decide) (Nat.le_of_ble_eq_true rfl) rfl rfl dX5_part_16 rfl (k_rb (fun b_16 => ?_) (fun b_16 => ?_))
    · refine g_if_eq (t := 50) (u := 22) X dX5_part_19 (by decide) rfl ⟨by omega, by omega⟩ (fun c => absurd c (by decide)) (fun _ => ?_)
      refine g_aload_n (t := 23) X dX5_part_22 0 rfl rfl ?_
      refine g_iload (t := 25) X dX5_part_23 4 rfl rfl ?_
      refine g_iconst (t := 26) X dX5_part_25 rfl ?_
      refine g_bipush (t := 28) (z := 20) X dX5_part_26 (by decide +kernel) rfl ?_
      refine g_callV (t := 31) (mc := 0) (ms := 0) (rest := []) X mt_X5_in q5_54 q5_56 qs_20 0 wM_0 rfl (c_X5_in hfl ⟨by omega, by omega⟩ ⟨by omega, by omega⟩ ⟨by omega, by omega⟩) (by decide) (by decide) (by decide) (Nat.le_of_ble_eq_true rfl) rfl rfl dX5_part_28 rfl (k_rb (fun b_28 => ?_) (fun b_28 => ?_))
      · refine g_if_eq (t := 50) (u := 34) X dX5_part_31 (by decide) rfl ⟨by omega, by omega⟩ (fun c => absurd c (by decide)) (fun _ => ?_)
        refine g_aload_n (t := 35) X dX5_part_34 0 rfl rfl ?_
        refine g_iload (t := 37) X dX5_part_35 5 rfl rfl ?_
        refine g_iconst (t := 38) X dX5_part_37 rfl ?_
        refine g_bipush (t := 40) (z := 10) X dX5_part_38 (by decide +kernel) rfl ?_
        refine g_callV (t := 43) (mc := 0) (ms := 0) (rest := []) X mt_X5_in q5_54 q5_56 qs_20 0 wM_0 rfl (c_X5_in hfl ⟨by omega, by omega⟩ ⟨by omega, by omega⟩ ⟨by omega, by omega⟩) (by decide) (by decide) (by decide) (Nat.le_of_ble_eq_true rfl) rfl rfl dX5_part_40 rfl (k_rb (fun b_40 => ?_) (fun b_40 => ?_))
        · refine g_if_eq (t := 50) (u := 46) X dX5_part_43 (by decide) rfl ⟨by omega, by omega⟩ (fun c => absurd c (by decide)) (fun _ => ?_)
          refine g_iconst (t := 47) X dX5_part_46 rfl ?_
          refine g_goto (t := 51) X dX5_part_47 (by decide) ?_
          refine g_istore (t := 53) (lv1 := [(7, vi 1), (0, .ref (ad 0)), (1, vi f), (2, vi x), (3, vi y), (4, vi z), (5, vi u), (6, vi 1)]) X dX5_part_51 (by decide) rfl rfl ?_
          refine g_aload_n (t := 54) X dX5_part_53 1 rfl rfl ?_
          refine g_aload_n (t := 55) X dX5_part_54 1 rfl rfl ?_
          refine g_iload_n (t := 56) X dX5_part_55 2 rfl rfl ?_
          refine g_callV (t := 59) (mc := 0) (ms := 0) (rest := [.ref (ad 0)]) X mt_X5_isFold q5_58 q5_60 qs_21 0 wM_0 rfl (c_X5_isFold hfl hI ⟨by omega, by omega⟩) (by decide) (by decide) (by decide) (Nat.le_of_ble_eq_true rfl) rfl rfl dX5_part_56 rfl (k_rb (fun b_56 => ?_) (fun b_56 => ?_))
          · refine g_if_ne (t := 66) (u := 62) X dX5_part_59 (by decide) rfl ⟨by omega, by omega⟩ (fun _ => ?_) (fun c => absurd c (by decide))
            refine g_iload (t := 68) X dX5_part_66 0 rfl rfl ?_
            refine g_if_ne (t := 75) (u := 71) X dX5_part_68 (by decide) rfl ⟨by omega, by omega⟩ (fun _ => ?_) (fun c => absurd c (by decide))
            refine g_aload_n (t := 76) X dX5_part_75 1 rfl rfl ?_
            refine m_getf (t := 79) X 10 (by decide) q4_219 rfl rfl dX5_part_76 rfl ?_
            refine g_bipush (t := 81) (z := 16) X dX5_part_79 (by decide +kernel) rfl ?_
            refine g_icmp_eq (t := 91) (u := 84) X dX5_part_81 (by decide) rfl ⟨by omega, by omega⟩ ⟨by omega, by omega⟩ (fun c_81 => ?_) (fun c_81 => ?_)
            · refine g_iconst (t := 92) X dX5_part_91 rfl ?_
              refine g_goto (t := 96) X dX5_part_92 (by decide) ?_
              refine g_callV (t := 99) (mc := 0) (ms := 0) (rest := []) X mt_X5_holds q5_102 q5_104 qs_32 0 wM_0 rfl (c_X5_holds hfl ⟨by omega, by omega⟩) (by decide) (by decide) (by decide) (Nat.le_of_ble_eq_true rfl) rfl rfl dX5_part_96 rfl (k_rb (fun _ => ?_) (fun h => absurd (by decide) h))
              refine g_if_eq (t := 104) (u := 102) X dX5_part_99 (by decide) rfl ⟨by omega, by omega⟩ (fun c => absurd c (by decide)) (fun _ => ?_)
              refine g_iconst (t := 103) X dX5_part_102 rfl ?_
              exact g_iret X r ⟨(-1), W, rfl, Or.inr (Or.inr (Or.inl ⟨by omega, by omega, by rintro ⟨g1, g2⟩; first | exact g1 c_81 | exact g2 b_85, rfl⟩))⟩ (Nat.le_of_ble_eq_true rfl) (Nat.le_of_ble_eq_true rfl) dX5_part_103
            · refine g_aload_n (t := 85) X dX5_part_84 1 rfl rfl ?_
              refine g_callV (t := 88) (mc := 0) (ms := 0) (rest := [.ref (ad 0)]) X mt_X5_bound q5_62 q5_64 qs_22 0 wM_0 rfl (c_X5_bound hfl hI) (by decide) (by decide) (by decide) (Nat.le_of_ble_eq_true rfl) rfl rfl dX5_part_85 rfl (k_rbw (fun W85 b_85 => ?_) (fun W85 b_85 => ?_))
              · refine g_if_eq (t := 95) (u := 91) X dX5_part_88 (by decide) rfl ⟨by omega, by omega⟩ (fun c => absurd c (by decide)) (fun _ => ?_)
                refine g_iconst (t := 92) X dX5_part_91 rfl ?_
                refine g_goto (t := 96) X dX5_part_92 (by decide) ?_
                refine g_callV (t := 99) (mc := 0) (ms := 0) (rest := []) X mt_X5_holds q5_102 q5_104 qs_32 0 wM_0 rfl (c_X5_holds hfl ⟨by omega, by omega⟩) (by decide) (by decide) (by decide) (Nat.le_of_ble_eq_true rfl) rfl rfl dX5_part_96 rfl (k_rb (fun _ => ?_) (fun h => absurd (by decide) h))
                refine g_if_eq (t := 104) (u := 102) X dX5_part_99 (by decide) rfl ⟨by omega, by omega⟩ (fun c => absurd c (by decide)) (fun _ => ?_)
                refine g_iconst (t := 103) X dX5_part_102 rfl ?_
                exact g_iret X r ⟨(-1), W85, rfl, Or.inr (Or.inr (Or.inl ⟨by omega, by omega, by rintro ⟨g1, g2⟩; first | exact g1 c_81 | exact g2 b_85, rfl⟩))⟩ (Nat.le_of_ble_eq_true rfl) (Nat.le_of_ble_eq_true rfl) dX5_part_103
              · refine g_if_eq (t := 95) (u := 91) X dX5_part_88 (by decide) rfl ⟨by omega, by omega⟩ (fun _ => ?_) (fun c => absurd c (by decide))
                refine g_iconst (t := 96) X dX5_part_95 rfl ?_
                refine g_callV (t := 99) (mc := 0) (ms := 0) (rest := []) X mt_X5_holds q5_102 q5_104 qs_32 0 wM_0 rfl (c_X5_holds hfl ⟨by omega, by omega⟩) (by decide) (by decide) (by decide) (Nat.le_of_ble_eq_true rfl) rfl rfl dX5_part_96 rfl (k_rb (fun h => absurd h (by decide)) (fun _ => ?_))
                refine g_if_eq (t := 104) (u := 102) X dX5_part_99 (by decide) rfl ⟨by omega, by omega⟩ (fun _ => ?_) (fun c => absurd c (by decide))
                refine g_aload_n (t := 105) X dX5_part_104 1 rfl rfl ?_
                refine m_getf (t := 108) X 4 (by decide) q4_213 rfl rfl dX5_part_105 rfl ?_
                refine g_aload_n (t := 109) X dX5_part_108 1 rfl rfl ?_
                refine m_getf (t := 112) X 10 (by decide) q4_219 rfl rfl dX5_part_109 rfl ?_
                refine g_iload_n (t := 113) X dX5_part_112 2 rfl rfl ?_
                refine g_iast (t := 114) (f := Y 4) X 4 wM_pf (by omega) (by omega) (by omega) wM_s_pf dX5_part_113 rfl ?_
                refine g_aload_n (t := 115) X dX5_part_114 1 rfl rfl ?_
                refine m_getf (t := 118) X 5 (by decide) q4_214 rfl rfl dX5_part_115 rfl ?_
                refine g_aload_n (t := 119) X dX5_part_118 1 rfl rfl ?_
                refine m_getf (t := 122) (v := vi (Y 10 0)) X 10 (by decide) q4_219 rfl rfl dX5_part_119 rfl ?_
                refine g_iload_n (t := 123) X dX5_part_122 3 rfl rfl ?_
                refine g_iast (t := 124) (f := Y 5) X 5 wM_pp (by omega) (by omega) (by omega) wM_s_pp dX5_part_123 rfl ?_
                refine g_aload_n (t := 125) X dX5_part_124 1 rfl rfl ?_
                refine m_getf (t := 128) X 6 (by decide) q4_215 rfl rfl dX5_part_125 rfl ?_
                refine g_aload_n (t := 129) X dX5_part_128 1 rfl rfl ?_
                refine m_getf (t := 132) (v := vi (Y 10 0)) X 10 (by decide) q4_219 rfl rfl dX5_part_129 rfl ?_
                refine g_iload_n (t := 133) X dX5_part_132 4 rfl rfl ?_
                refine g_iast (t := 134) (f := Y 6) X 6 wM_pl (by omega) (by omega) (by omega) wM_s_pl dX5_part_133 rfl ?_
                refine g_aload_n (t := 135) X dX5_part_134 1 rfl rfl ?_
                refine m_getf (t := 138) X 7 (by decide) q4_216 rfl rfl dX5_part_135 rfl ?_
                refine g_aload_n (t := 139) X dX5_part_138 1 rfl rfl ?_
                refine m_getf (t := 142) (v := vi (Y 10 0)) X 10 (by decide) q4_219 rfl rfl dX5_part_139 rfl ?_
                refine g_iload (t := 144) X dX5_part_142 5 rfl rfl ?_
                refine g_iast (t := 145) (f := Y 7) X 7 wM_pb (by omega) (by omega) (by omega) wM_s_pb dX5_part_144 rfl ?_
                refine g_aload_n (t := 146) X dX5_part_145 1 rfl rfl ?_
                refine m_getf (t := 149) X 8 (by decide) q4_217 rfl rfl dX5_part_146 rfl ?_
                refine g_aload_n (t := 150) X dX5_part_149 1 rfl rfl ?_
                refine m_getf (t := 153) (v := vi (Y 10 0)) X 10 (by decide) q4_219 rfl rfl dX5_part_150 rfl ?_
                refine g_iload (t := 155) X dX5_part_153 6 rfl rfl ?_
                refine g_iast (t := 156) (f := Y 8) X 8 wM_pn (by omega) (by omega) (by omega) wM_s_pn dX5_part_155 rfl ?_
                refine g_aload_n (t := 157) X dX5_part_156 1 rfl rfl ?_
                refine m_getf (t := 160) X 9 (by decide) q4_218 rfl rfl dX5_part_157 rfl ?_
                refine g_aload_n (t := 161) X dX5_part_160 1 rfl rfl ?_
                refine m_getf (t := 164) (v := vi (Y 10 0)) X 10 (by decide) q4_219 rfl rfl dX5_part_161 rfl ?_
                refine g_iload (t := 166) X dX5_part_164 7 rfl rfl ?_
                refine g_if_eq (t := 173) (u := 169) X dX5_part_166 (by decide) rfl ⟨by omega, by omega⟩ (fun c => absurd c (by decide)) (fun _ => ?_)
                refine g_iconst (t := 170) X dX5_part_169 rfl ?_
                refine g_goto (t := 174) X dX5_part_170 (by decide) ?_
                refine g_iast (t := 175) (f := Y 9) X 9 wM_pe (by omega) (by omega) (by omega) wM_s_pe dX5_part_174 rfl ?_
                refine g_aload_n (t := 176) X dX5_part_175 1 rfl rfl ?_
                refine g_dup (t := 177) X dX5_part_176 rfl rfl ?_
                refine m_getf (t := 180) (v := vi (Y 10 0)) X 10 (by decide) q4_219 rfl rfl dX5_part_177 rfl ?_
                refine g_iconst (t := 181) X dX5_part_180 rfl ?_
                refine g_iadd (t := 182) X dX5_part_181 rfl ?_
                refine m_putf (t := 185) X 10 (by decide) q4_219 rfl rfl rfl wM_f_parts dX5_part_182 rfl ?_
                refine g_aload_n (t := 186) X dX5_part_185 1 rfl rfl ?_
                refine m_getf (t := 189) (v := vi ((Y 10 0) + 1)) X 10 (by decide) q4_219 rfl rfl dX5_part_186 rfl ?_
                refine g_iconst (t := 190) X dX5_part_189 rfl ?_
                refine g_isub (t := 191) X dX5_part_190 rfl ?_
                exact g_iret X r ⟨((Y 10 0) + 1) - 1, W85, rfl, Or.inr (Or.inr (Or.inr ⟨by omega, by omega, ⟨c_81, b_85⟩, by omega, rfl⟩))⟩ (Nat.le_of_ble_eq_true rfl) (Nat.le_of_ble_eq_true rfl) dX5_part_191
          · refine g_if_ne (t := 66) (u := 62) X dX5_part_59 (by decide) rfl ⟨by omega, by omega⟩ (fun c => absurd c (by decide)) (fun _ => ?_)
            refine g_iconst (t := 63) X dX5_part_62 rfl ?_
            refine g_goto (t := 96) X dX5_part_63 (by decide) ?_
            refine g_callV (t := 99) (mc := 0) (ms := 0) (rest := []) X mt_X5_holds q5_102 q5_104 qs_32 0 wM_0 rfl (c_X5_holds hfl ⟨by omega, by omega⟩) (by decide) (by decide) (by decide) (Nat.le_of_ble_eq_true rfl) rfl rfl dX5_part_96 rfl (k_rb (fun _ => ?_) (fun h => absurd (by decide) h))
            refine g_if_eq (t := 104) (u := 102) X dX5_part_99 (by decide) rfl ⟨by omega, by omega⟩ (fun c => absurd c (by decide)) (fun _ => ?_)
            refine g_iconst (t := 103) X dX5_part_102 rfl ?_
            exact g_iret X r ⟨(-1), W, rfl, Or.inl ⟨by omega, rfl⟩⟩ (Nat.le_of_ble_eq_true rfl) (Nat.le_of_ble_eq_true rfl) dX5_part_103
        · refine g_if_eq (t := 50) (u := 46) X dX5_part_43 (by decide) rfl ⟨by omega, by omega⟩ (fun _ => ?_) (fun c => absurd c (by decide))
          refine g_iconst (t := 51) X dX5_part_50 rfl ?_
          refine g_istore (t := 53) (lv1 := [(7, vi 0), (0, .ref (ad 0)), (1, vi f), (2, vi x), (3, vi y), (4, vi z), (5, vi u), (6, vi 1)]) X dX5_part_51 (by decide) rfl rfl ?_
          refine g_aload_n (t := 54) X dX5_part_53 1 rfl rfl ?_
          refine g_aload_n (t := 55) X dX5_part_54 1 rfl rfl ?_
          refine g_iload_n (t := 56) X dX5_part_55 2 rfl rfl ?_
          refine g_callV (t := 59) (mc := 0) (ms := 0) (rest := [.ref (ad 0)]) X mt_X5_isFold q5_58 q5_60 qs_21 0 wM_0 rfl (c_X5_isFold hfl hI ⟨by omega, by omega⟩) (by decide) (by decide) (by decide) (Nat.le_of_ble_eq_true rfl) rfl rfl dX5_part_56 rfl (k_rb (fun b_56 => ?_) (fun b_56 => ?_))
          · refine g_if_ne (t := 66) (u := 62) X dX5_part_59 (by decide) rfl ⟨by omega, by omega⟩ (fun _ => ?_) (fun c => absurd c (by decide))
            refine g_iload (t := 68) X dX5_part_66 0 rfl rfl ?_
            refine g_if_ne (t := 75) (u := 71) X dX5_part_68 (by decide) rfl ⟨by omega, by omega⟩ (fun c => absurd c (by decide)) (fun _ => ?_)
            refine g_iconst (t := 72) X dX5_part_71 rfl ?_
            refine g_goto (t := 96) X dX5_part_72 (by decide) ?_
            refine g_callV (t := 99) (mc := 0) (ms := 0) (rest := []) X mt_X5_holds q5_102 q5_104 qs_32 0 wM_0 rfl (c_X5_holds hfl ⟨by omega, by omega⟩) (by decide) (by decide) (by decide) (Nat.le_of_ble_eq_true rfl) rfl rfl dX5_part_96 rfl (k_rb (fun _ => ?_) (fun h => absurd (by decide) h))
            refine g_if_eq (t := 104) (u := 102) X dX5_part_99 (by decide) rfl ⟨by omega, by omega⟩ (fun c => absurd c (by decide)) (fun _ => ?_)
            refine g_iconst (t := 103) X dX5_part_102 rfl ?_
            exact g_iret X r ⟨(-1), W, rfl, Or.inr (Or.inl ⟨by omega, by omega, rfl⟩)⟩ (Nat.le_of_ble_eq_true rfl) (Nat.le_of_ble_eq_true rfl) dX5_part_103
          · refine g_if_ne (t := 66) (u := 62) X dX5_part_59 (by decide) rfl ⟨by omega, by omega⟩ (fun c => absurd c (by decide)) (fun _ => ?_)
            refine g_iconst (t := 63) X dX5_part_62 rfl ?_
            refine g_goto (t := 96) X dX5_part_63 (by decide) ?_
            refine g_callV (t := 99) (mc := 0) (ms := 0) (rest := []) X mt_X5_holds q5_102 q5_104 qs_32 0 wM_0 rfl (c_X5_holds hfl ⟨by omega, by omega⟩) (by decide) (by decide) (by decide) (Nat.le_of_ble_eq_true rfl) rfl rfl dX5_part_96 rfl (k_rb (fun _ => ?_) (fun h => absurd (by decide) h))
            refine g_if_eq (t := 104) (u := 102) X dX5_part_99 (by decide) rfl ⟨by omega, by omega⟩ (fun c => absurd c (by decide)) (fun _ => ?_)
            refine g_iconst (t := 103) X dX5_part_102 rfl ?_
            exact g_iret X r ⟨(-1), W, rfl, Or.inl ⟨by omega, rfl⟩⟩ (Nat.le_of_ble_eq_true rfl) (Nat.le_of_ble_eq_true rfl) dX5_part_103
      · refine g_if_eq (t := 50) (u := 34) X dX5_part_31 (by decide) rfl ⟨by omega, by omega⟩ (fun _ => ?_) (fun c => absurd c (by decide))
        refine g_iconst (t := 51) X dX5_part_50 rfl ?_
        refine g_istore (t := 53) (lv1 := [(7, vi 0), (0, .ref (ad 0)), (1, vi f), (2, vi x), (3, vi y), (4, vi z), (5, vi u), (6, vi 1)]) X dX5_part_51 (by decide) rfl rfl ?_
        refine g_aload_n (t := 54) X dX5_part_53 1 rfl rfl ?_
        refine g_aload_n (t := 55) X dX5_part_54 1 rfl rfl ?_
        refine g_iload_n (t := 56) X dX5_part_55 2 rfl rfl ?_
        refine g_callV (t := 59) (mc := 0) (ms := 0) (rest := [.ref (ad 0)]) X mt_X5_isFold q5_58 q5_60 qs_21 0 wM_0 rfl (c_X5_isFold hfl hI ⟨by omega, by omega⟩) (by decide) (by decide) (by decide) (Nat.le_of_ble_eq_true rfl) rfl rfl dX5_part_56 rfl (k_rb (fun b_56 => ?_) (fun b_56 => ?_))
        · refine g_if_ne (t := 66) (u := 62) X dX5_part_59 (by decide) rfl ⟨by omega, by omega⟩ (fun _ => ?_) (fun c => absurd c (by decide))
          refine g_iload (t := 68) X dX5_part_66 0 rfl rfl ?_
          refine g_if_ne (t := 75) (u := 71) X dX5_part_68 (by decide) rfl ⟨by omega, by omega⟩ (fun c => absurd c (by decide)) (fun _ => ?_)
          refine g_iconst (t := 72) X dX5_part_71 rfl ?_
          refine g_goto (t := 96) X dX5_part_72 (by decide) ?_
          refine g_callV (t := 99) (mc := 0) (ms := 0) (rest := []) X mt_X5_holds q5_102 q5_104 qs_32 0 wM_0 rfl (c_X5_holds hfl ⟨by omega, by omega⟩) (by decide) (by decide) (by decide) (Nat.le_of_ble_eq_true rfl) rfl rfl dX5_part_96 rfl (k_rb (fun _ => ?_) (fun h => absurd (by decide) h))
          refine g_if_eq (t := 104) (u := 102) X dX5_part_99 (by decide) rfl ⟨by omega, by omega⟩ (fun c => absurd c (by decide)) (fun _ => ?_)
          refine g_iconst (t := 103) X dX5_part_102 rfl ?_
          exact g_iret X r ⟨(-1), W, rfl, Or.inr (Or.inl ⟨by omega, by omega, rfl⟩)⟩ (Nat.le_of_ble_eq_true rfl) (Nat.le_of_ble_eq_true rfl) dX5_part_103
        · refine g_if_ne (t := 66) (u := 62) X dX5_part_59 (by decide) rfl ⟨by omega, by omega⟩ (fun c => absurd c (by decide)) (fun _ => ?_)
          refine g_iconst (t := 63) X dX5_part_62 rfl ?_
          refine g_goto (t := 96) X dX5_part_63 (by decide) ?_
          refine g_callV (t := 99) (mc := 0) (ms := 0) (rest := []) X mt_X5_holds q5_102 q5_104 qs_32 0 wM_0 rfl (c_X5_holds hfl ⟨by omega, by omega⟩) (by decide) (by decide) (by decide) (Nat.le_of_ble_eq_true rfl) rfl rfl dX5_part_96 rfl (k_rb (fun _ => ?_) (fun h => absurd (by decide) h))
          refine g_if_eq (t := 104) (u := 102) X dX5_part_99 (by decide) rfl ⟨by omega, by omega⟩ (fun c => absurd c (by decide)) (fun _ => ?_)
          refine g_iconst (t := 103) X dX5_part_102 rfl ?_
          exact g_iret X r ⟨(-1), W, rfl, Or.inl ⟨by omega, rfl⟩⟩ (Nat.le_of_ble_eq_true rfl) (Nat.le_of_ble_eq_true rfl) dX5_part_103
    · refine g_if_eq (t := 50) (u := 22) X dX5_part_19 (by decide) rfl ⟨by omega, by omega⟩ (fun _ => ?_) (fun c => absurd c (by decide))
      refine g_iconst (t := 51) X dX5_part_50 rfl ?_
      refine g_istore (t := 53) (lv1 := [(7, vi 0), (0, .ref (ad 0)), (1, vi f), (2, vi x), (3, vi y), (4, vi z), (5, vi u), (6, vi 1)]) X dX5_part_51 (by decide) rfl rfl ?_
      refine g_aload_n (t := 54) X dX5_part_53 1 rfl rfl ?_
      refine g_aload_n (t := 55) X dX5_part_54 1 rfl rfl ?_
      refine g_iload_n (t := 56) X dX5_part_55 2 rfl rfl ?_
      refine g_callV (t := 59) (mc := 0) (ms := 0) (rest := [.ref (ad 0)]) X mt_X5_isFold q5_58 q5_60 qs_21 0 wM_0 rfl (c_X5_isFold hfl hI ⟨by omega, by omega⟩) (by decide) (by decide) (by decide) (Nat.le_of_ble_eq_true rfl) rfl rfl dX5_part_56 rfl (k_rb (fun b_56 => ?_) (fun b_56 => ?_))
      · refine g_if_ne (t := 66) (u := 62) X dX5_part_59 (by decide) rfl ⟨by omega, by omega⟩ (fun _ => ?_) (fun c => absurd c (by decide))
        refine g_iload (t := 68) X dX5_part_66 0 rfl rfl ?_
        refine g_if_ne (t := 75) (u := 71) X dX5_part_68 (by decide) rfl ⟨by omega, by omega⟩ (fun c => absurd c (by decide)) (fun _ => ?_)
        refine g_iconst (t := 72) X dX5_part_71 rfl ?_
        refine g_goto (t := 96) X dX5_part_72 (by decide) ?_
        refine g_callV (t := 99) (mc := 0) (ms := 0) (rest := []) X mt_X5_holds q5_102 q5_104 qs_32 0 wM_0 rfl (c_X5_holds hfl ⟨by omega, by omega⟩) (by decide) (by decide) (by decide) (Nat.le_of_ble_eq_true rfl) rfl rfl dX5_part_96 rfl (k_rb (fun _ => ?_) (fun h => absurd (by decide) h))
        refine g_if_eq (t := 104) (u := 102) X dX5_part_99 (by decide) rfl ⟨by omega, by omega⟩ (fun c => absurd c (by decide)) (fun _ => ?_)
        refine g_iconst (t := 103) X dX5_part_102 rfl ?_
        exact g_iret X r ⟨(-1), W, rfl, Or.inr (Or.inl ⟨by omega, by omega, rfl⟩)⟩ (Nat.le_of_ble_eq_true rfl) (Nat.le_of_ble_eq_true rfl) dX5_part_103
      · refine g_if_ne (t := 66) (u := 62) X dX5_part_59 (by decide) rfl ⟨by omega, by omega⟩ (fun c => absurd c (by decide)) (fun _ => ?_)
        refine g_iconst (t := 63) X dX5_part_62 rfl ?_
        refine g_goto (t := 96) X dX5_part_63 (by decide) ?_
        refine g_callV (t := 99) (mc := 0) (ms := 0) (rest := []) X mt_X5_holds q5_102 q5_104 qs_32 0 wM_0 rfl (c_X5_holds hfl ⟨by omega, by omega⟩) (by decide) (by decide) (by decide) (Nat.le_of_ble_eq_true rfl) rfl rfl dX5_part_96 rfl (k_rb (fun _ => ?_) (fun h => absurd (by decide) h))
        refine g_if_eq (t := 104) (u := 102) X dX5_part_99 (by decide) rfl ⟨by omega, by omega⟩ (fun c => absurd c (by decide)) (fun _ => ?_)
        refine g_iconst (t := 103) X dX5_part_102 rfl ?_
        exact g_iret X r ⟨(-1), W, rfl, Or.inl ⟨by omega, rfl⟩⟩ (Nat.le_of_ble_eq_true rfl) (Nat.le_of_ble_eq_true rfl) dX5_part_103
  · refine g_if_eq (t := 50) (u := 11) X dX5_part_8 (by decide) rfl ⟨by omega, by omega⟩ (fun _ => ?_) (fun c => absurd c (by decide))
    refine g_iconst (t := 51) X dX5_part_50 rfl ?_
    refine g_istore (t := 53) (lv1 := [(7, vi 0), (0, .ref (ad 0)), (1, vi f), (2, vi x), (3, vi y), (4, vi z), (5, vi u), (6, vi 1)]) X dX5_part_51 (by decide) rfl rfl ?_
    refine g_aload_n (t := 54) X dX5_part_53 1 rfl rfl ?_
    refine g_aload_n (t := 55) X dX5_part_54 1 rfl rfl ?_
    refine g_iload_n (t := 56) X dX5_part_55 2 rfl rfl ?_
    refine g_callV (t := 59) (mc := 0) (ms := 0) (rest := [.ref (ad 0)]) X mt_X5_isFold q5_58 q5_60 qs_21 0 wM_0 rfl (c_X5_isFold hfl hI ⟨by omega, by omega⟩) (by decide) (by decide) (by decide) (Nat.le_of_ble_eq_true rfl) rfl rfl dX5_part_56 rfl (k_rb (fun b_56 => ?_) (fun b_56 => ?_))
    · refine g_if_ne (t := 66) (u := 62) X dX5_part_59 (by decide) rfl ⟨by omega, by omega⟩ (fun _ => ?_) (fun c => absurd c (by decide))
      refine g_iload (t := 68) X dX5_part_66 0 rfl rfl ?_
      refine g_if_ne (t := 75) (u := 71) X dX5_part_68 (by decide) rfl ⟨by omega, by omega⟩ (fun c => absurd c (by decide)) (fun _ => ?_)
      refine g_iconst (t := 72) X dX5_part_71 rfl ?_
      refine g_goto (t := 96) X dX5_part_72 (by decide) ?_
      refine g_callV (t := 99) (mc := 0) (ms := 0) (rest := []) X mt_X5_holds q5_102 q5_104 qs_32 0 wM_0 rfl (c_X5_holds hfl ⟨by omega, by omega⟩) (by decide) (by decide) (by decide) (Nat.le_of_ble_eq_true rfl) rfl rfl dX5_part_96 rfl (k_rb (fun _ => ?_) (fun h => absurd (by decide) h))
      refine g_if_eq (t := 104) (u := 102) X dX5_part_99 (by decide) rfl ⟨by omega, by omega⟩ (fun c => absurd c (by decide)) (fun _ => ?_)
      refine g_iconst (t := 103) X dX5_part_102 rfl ?_
      exact g_iret X r ⟨(-1), W, rfl, Or.inr (Or.inl ⟨by omega, by omega, rfl⟩)⟩ (Nat.le_of_ble_eq_true rfl) (Nat.le_of_ble_eq_true rfl) dX5_part_103
    · refine g_if_ne (t := 66) (u := 62) X dX5_part_59 (by decide) rfl ⟨by omega, by omega⟩ (fun c => absurd c (by decide)) (fun _ => ?_)
      refine g_iconst (t := 63) X dX5_part_62 rfl ?_
      refine g_goto (t := 96) X dX5_part_63 (by decide) ?_
      refine g_callV (t := 99) (mc := 0) (ms := 0) (rest := []) X mt_X5_holds q5_102 q5_104 qs_32 0 wM_0 rfl (c_X5_holds hfl ⟨by omega, by omega⟩) (by decide) (by decide) (by decide) (Nat.le_of_ble_eq_true rfl) rfl rfl dX5_part_96 rfl (k_rb (fun _ => ?_) (fun h => absurd (by decide) h))
      refine g_if_eq (t := 104) (u := 102) X dX5_part_99 (by decide) rfl ⟨by omega, by omega⟩ (fun c => absurd c (by decide)) (fun _ => ?_)
      refine g_iconst (t := 103) X dX5_part_102 rfl ?_
      exact g_iret X r ⟨(-1), W, rfl, Or.inl ⟨by omega, rfl⟩⟩ (Nat.le_of_ble_eq_true rfl) (Nat.le_of_ble_eq_true rfl) dX5_part_103
