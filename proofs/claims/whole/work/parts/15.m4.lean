/-! what is laid, out of the rows V: 13 a shelf's sheet, 14 its top, 15 its height, 16 how far it is filled, 17 how many shelves, 18 how far a sheet is filled, 19 how many sheets, 20 a part's sheet, 21 its left, 22 its top -/
def sel (V : Nat → Int → Int) (h w : Int) : Nat → Int
  | 0 => -1
  | n + 1 => if (h ≤ V 15 n ∧ V 16 n + w ≤ 40) ∧ (sel V h w n < 0 ∨ V 13 n < V 13 (sel V h w n) ∨ (V 13 n = V 13 (sel V h w n) ∧ V 14 n < V 14 (sel V h w n))) then n else sel V h w n
def selF (V : Nat → Int → Int) (h w : Int) : Int := sel V h w (V 17 0).toNat
theorem sel_succ (V : Nat → Int → Int) (h w : Int) {k : Int} (k0 : 0 ≤ k) : sel V h w (k + 1).toNat = if (h ≤ V 15 k ∧ V 16 k + w ≤ 40) ∧ (sel V h w k.toNat < 0 ∨ V 13 k < V 13 (sel V h w k.toNat) ∨ (V 13 k = V 13 (sel V h w k.toNat) ∧ V 14 k < V 14 (sel V h w k.toNat))) then k else sel V h w k.toNat := by
  have e1 : (k + 1).toNat = k.toNat + 1 := by omega
  rw [e1]
  simp only [sel]
  rw [Int.toNat_of_nonneg k0]
theorem sel_rng (V : Nat → Int → Int) (h w : Int) : ∀ n : Nat, -1 ≤ sel V h w n ∧ sel V h w n < n := by
  intro n
  induction n with
  | zero => simp [sel]
  | succ n ih =>
    simp only [sel]
    split <;> omega
theorem sel_can (V : Nat → Int → Int) (h w : Int) : ∀ n : Nat, 0 ≤ sel V h w n → h ≤ V 15 (sel V h w n) ∧ V 16 (sel V h w n) + w ≤ 40 := by
  intro n
  induction n with
  | zero => intro q; simp [sel] at q
  | succ n ih =>
    simp only [sel]
    by_cases g : (h ≤ V 15 n ∧ V 16 n + w ≤ 40) ∧ (sel V h w n < 0 ∨ V 13 n < V 13 (sel V h w n) ∨ (V 13 n = V 13 (sel V h w n) ∧ V 14 n < V 14 (sel V h w n)))
    · rw [if_pos g]; exact fun _ => g.1
    · rw [if_neg g]; exact ih
def fsh (V : Nat → Int → Int) (h : Int) : Nat → Int
  | 0 => 0
  | n + 1 => if fsh V h n < n then fsh V h n else if V 18 n + h ≤ 30 then n else n + 1
def shF (V : Nat → Int → Int) (h : Int) : Int := fsh V h (V 19 0).toNat
theorem fsh_spec (V : Nat → Int → Int) (h : Int) : ∀ n : Nat, (0 ≤ fsh V h n ∧ fsh V h n ≤ n) ∧ (fsh V h n < n → V 18 (fsh V h n) + h ≤ 30) ∧ ∀ i, 0 ≤ i → i < fsh V h n → 30 < V 18 i + h := by
  intro n
  induction n with
  | zero => exact ⟨⟨by simp [fsh], by simp [fsh]⟩, fun q => by simp [fsh] at q, fun i i0 i1 => by simp [fsh] at i1; omega⟩
  | succ n ih =>
    obtain ⟨h1, h2, h3⟩ := ih
    simp only [fsh]
    by_cases c : fsh V h n < n
    · rw [if_pos c]
      exact ⟨by omega, fun _ => h2 c, h3⟩
    · rw [if_neg c]
      have e : fsh V h n = n := by omega
      by_cases g : V 18 n + h ≤ 30
      · rw [if_pos g]
        exact ⟨by omega, fun _ => g, fun i i0 i1 => h3 i i0 (by omega)⟩
      · rw [if_neg g]
        refine ⟨by omega, fun q => by omega, fun i i0 i1 => ?_⟩
        rcases Int.lt_or_eq_of_le (show i ≤ n by omega) with q | q
        · exact h3 i i0 (by omega)
        · subst q; omega
theorem shF_is {V : Nat → Int → Int} {h i : Int} (hn : 0 ≤ V 19 0) (h0 : 0 ≤ i) (h1 : i ≤ V 19 0) (h2 : ∀ j, 0 ≤ j → j < i → 30 < V 18 j + h) (h3 : i < V 19 0 → V 18 i + h ≤ 30) : i = shF V h := by
  obtain ⟨g1, g2, g3⟩ := fsh_spec V h (V 19 0).toNat
  unfold shF
  rcases Int.lt_trichotomy i (fsh V h (V 19 0).toNat) with q | q | q
  · have a := g3 i h0 q
    have b := h3 (by omega)
    omega
  · exact q
  · have a := h2 _ g1.1 q
    have b := g2 (by omega)
    omega
/-- a shelf is begun, for a height h -/
def newV (V : Nat → Int → Int) (h : Int) : Nat → Int → Int :=
  if shF V h = V 19 0 then
    u2 (u2 (u2 (u2 (u2 (u2 (u2 (u2 V 18 (shF V h) 0) 19 0 (V 19 0 + 1)) 13 (V 17 0) (shF V h)) 14 (V 17 0) (uI (V 18) (shF V h) 0 (shF V h))) 15 (V 17 0) h) 16 (V 17 0) 0) 18 (shF V h) (uI (V 18) (shF V h) 0 (shF V h) + h)) 17 0 (V 17 0 + 1)
  else u2 (u2 (u2 (u2 (u2 (u2 V 13 (V 17 0) (shF V h)) 14 (V 17 0) (V 18 (shF V h))) 15 (V 17 0) h) 16 (V 17 0) 0) 18 (shF V h) (V 18 (shF V h) + h)) 17 0 (V 17 0 + 1)
/-- a part is put on the shelf k -/
def plc (V : Nat → Int → Int) (p k w : Int) : Nat → Int → Int := u2 (u2 (u2 (u2 V 20 p (V 13 k)) 21 p (V 16 k)) 22 p (V 14 k)) 16 k (V 16 k + w)
def layP (Y V : Nat → Int → Int) (p : Int) : Nat → Int → Int :=
  if selF V (tallF Y p) (wideF Y p) < 0 then plc (newV V (tallF Y p)) p (V 17 0) (wideF Y p) else plc V p (selF V (tallF Y p) (wideF Y p)) (wideF Y p)
def layN (Y V : Nat → Int → Int) : Nat → Nat → Int → Int
  | 0 => u2 (u2 V 17 0 0) 19 0 0
  | n + 1 => layP Y (layN Y V n) n
def layF (Y V : Nat → Int → Int) : Nat → Int → Int := layN Y V (Y 10 0).toNat
theorem layN_succ (Y V : Nat → Int → Int) {p : Int} (p0 : 0 ≤ p) : layN Y V (p + 1).toNat = layP Y (layN Y V p.toNat) p := by
  have e1 : (p + 1).toNat = p.toNat + 1 := by omega
  rw [e1]
  simp only [layN]
  rw [Int.toNat_of_nonneg p0]
def LI (V : Nat → Int → Int) : Prop :=
  0 ≤ V 17 0 ∧ (0 ≤ V 19 0 ∧ V 19 0 ≤ V 17 0) ∧ (∀ k, 0 ≤ k → k < V 17 0 → (0 ≤ V 13 k ∧ V 13 k < V 19 0) ∧ (0 ≤ V 14 k ∧ V 14 k ≤ 30) ∧ (1 ≤ V 15 k ∧ V 15 k ≤ 30) ∧ (0 ≤ V 16 k ∧ V 16 k ≤ 40) ∧ V 14 k + V 15 k ≤ V 18 (V 13 k)) ∧
  (∀ s, 0 ≤ s → s < V 19 0 → 0 ≤ V 18 s ∧ V 18 s ≤ 30) ∧ (∀ i j, 0 ≤ i → i < j → j < V 17 0 → V 13 i = V 13 j → V 14 i < V 14 j)
theorem LI.zero (V : Nat → Int → Int) : LI (u2 (u2 V 17 0 0) 19 0 0) := by
  refine ⟨Int.le_refl 0, ⟨Int.le_refl 0, Int.le_refl 0⟩, fun k k0 k1 => ?_, fun s s0 s1 => ?_, fun i j i0 ij j1 => ?_⟩
  · exact absurd (show k < 0 from k1) (by omega)
  · exact absurd (show s < 0 from s1) (by omega)
  · exact absurd (show j < 0 from j1) (by omega)
theorem LI.new {V : Nat → Int → Int} (hL : LI V) {x : Int} (x0 : 1 ≤ x) (x1 : x ≤ 30) : LI (newV V x) ∧ newV V x 17 0 = V 17 0 + 1 ∧ newV V x 16 (V 17 0) = 0 := by
  obtain ⟨l1, l2, l3, l4, l5⟩ := hL
  obtain ⟨g1, g2, g3⟩ := fsh_spec V x (V 19 0).toNat
  have g1' : 0 ≤ shF V x ∧ shF V x ≤ V 19 0 := by unfold shF; omega
  have g2' : shF V x < V 19 0 → V 18 (shF V x) + x ≤ 30 := fun q => g2 (by unfold shF at q; omega)
  generalize hn : V 17 0 = n at *
  generalize hs : shF V x = s at *
  unfold newV
  rw [hs, hn]
  by_cases c : s = V 19 0
  · rw [if_pos c]
    refine ⟨⟨?_, ?_, fun k k0 k1 => ?_, fun t t0 t1 => ?_, fun i j i0 ij j1 e => ?_⟩, rfl, ?_⟩
    · show 0 ≤ n + 1; omega
    · show 0 ≤ V 19 0 + 1 ∧ V 19 0 + 1 ≤ n + 1; omega
    · have k1 : k < n + 1 := k1
      show (0 ≤ uI (V 13) n s k ∧ uI (V 13) n s k < V 19 0 + 1) ∧ (0 ≤ uI (V 14) n (uI (V 18) s 0 s) k ∧ uI (V 14) n (uI (V 18) s 0 s) k ≤ 30) ∧ (1 ≤ uI (V 15) n x k ∧ uI (V 15) n x k ≤ 30) ∧ (0 ≤ uI (V 16) n 0 k ∧ uI (V 16) n 0 k ≤ 40) ∧ uI (V 14) n (uI (V 18) s 0 s) k + uI (V 15) n x k ≤ uI (uI (V 18) s 0) s (uI (V 18) s 0 s + x) (uI (V 13) n s k)
      by_cases e : k = n
      · subst e
        simp only [uI_s]
        omega
      · have a := l3 k k0 (by omega)
        have b : V 13 k ≠ s := by omega
        simp only [uI_n _ _ e, uI_n _ _ b]
        omega
    · have t1 : t < V 19 0 + 1 := t1
      show 0 ≤ uI (uI (V 18) s 0) s (uI (V 18) s 0 s + x) t ∧ uI (uI (V 18) s 0) s (uI (V 18) s 0 s + x) t ≤ 30
      by_cases e : t = s
      · subst e
        simp only [uI_s]
        omega
      · simp only [uI_n _ _ e]
        exact l4 t t0 (by omega)
    · have j1 : j < n + 1 := j1
      have e : uI (V 13) n s i = uI (V 13) n s j := e
      show uI (V 14) n (uI (V 18) s 0 s) i < uI (V 14) n (uI (V 18) s 0 s) j
      have ei : i ≠ n := by omega
      have a := l3 i i0 (by omega)
      rw [uI_n _ _ ei] at e ⊢
      by_cases ej : j = n
      · subst ej
        rw [uI_s] at e
        omega
      · rw [uI_n _ _ ej] at e ⊢
        exact l5 i j i0 ij (by omega) e
    · show uI (V 16) n 0 n = 0
      rw [uI_s]
  · rw [if_neg c]
    have g3' := g2' (by omega)
    have g4 := l4 s g1'.1 (by omega)
    refine ⟨⟨?_, ?_, fun k k0 k1 => ?_, fun t t0 t1 => ?_, fun i j i0 ij j1 e => ?_⟩, rfl, ?_⟩
    · show 0 ≤ n + 1; omega
    · show 0 ≤ V 19 0 ∧ V 19 0 ≤ n + 1; omega
    · have k1 : k < n + 1 := k1
      show (0 ≤ uI (V 13) n s k ∧ uI (V 13) n s k < V 19 0) ∧ (0 ≤ uI (V 14) n (V 18 s) k ∧ uI (V 14) n (V 18 s) k ≤ 30) ∧ (1 ≤ uI (V 15) n x k ∧ uI (V 15) n x k ≤ 30) ∧ (0 ≤ uI (V 16) n 0 k ∧ uI (V 16) n 0 k ≤ 40) ∧ uI (V 14) n (V 18 s) k + uI (V 15) n x k ≤ uI (V 18) s (V 18 s + x) (uI (V 13) n s k)
      by_cases e : k = n
      · subst e
        simp only [uI_s]
        omega
      · have a := l3 k k0 (by omega)
        simp only [uI_n _ _ e]
        by_cases b : V 13 k = s
        · rw [b, uI_s]
          rw [b] at a
          omega
        · rw [uI_n _ _ b]
          omega
    · have t1 : t < V 19 0 := t1
      show 0 ≤ uI (V 18) s (V 18 s + x) t ∧ uI (V 18) s (V 18 s + x) t ≤ 30
      by_cases e : t = s
      · subst e
        simp only [uI_s]
        omega
      · simp only [uI_n _ _ e]
        exact l4 t t0 (by omega)
    · have j1 : j < n + 1 := j1
      have e : uI (V 13) n s i = uI (V 13) n s j := e
      show uI (V 14) n (V 18 s) i < uI (V 14) n (V 18 s) j
      have ei : i ≠ n := by omega
      have a := l3 i i0 (by omega)
      rw [uI_n _ _ ei] at e ⊢
      by_cases ej : j = n
      · subst ej
        rw [uI_s] at e ⊢
        rw [e] at a
        omega
      · rw [uI_n _ _ ej] at e ⊢
        exact l5 i j i0 ij (by omega) e
    · show uI (V 16) n 0 n = 0
      rw [uI_s]
theorem LI.plc {V : Nat → Int → Int} (hL : LI V) {p k w : Int} (w0 : 0 ≤ w) (h : 0 ≤ V 16 k) (h1 : V 16 k + w ≤ 40) : LI (plc V p k w) := by
  obtain ⟨l1, l2, l3, l4, l5⟩ := hL
  refine ⟨l1, l2, fun j j0 j1 => ?_, l4, l5⟩
  have a := l3 j j0 j1
  refine ⟨a.1, a.2.1, a.2.2.1, ?_, a.2.2.2.2⟩
  show 0 ≤ uI (V 16) k (V 16 k + w) j ∧ uI (V 16) k (V 16 k + w) j ≤ 40
  unfold uI
  split
  · omega
  · exact a.2.2.2.1
theorem tw_rng {Y : Nat → Int → Int} (hI : MI Y) {p : Int} (p0 : 0 ≤ p) (p1 : p < Y 10 0) : (1 ≤ tallF Y p ∧ tallF Y p ≤ 30) ∧ 1 ≤ wideF Y p ∧ wideF Y p ≤ 30 := by
  have hp := hI.2.2.2.1 p p0 p1
  unfold tallF wideF
  split <;> omega
theorem LI.lay {Y V : Nat → Int → Int} (hI : MI Y) (hL : LI V) {p : Int} (p0 : 0 ≤ p) (p1 : p < Y 10 0) : LI (layP Y V p) ∧ layP Y V p 17 0 ≤ V 17 0 + 1 := by
  have ht := tw_rng hI p0 p1
  unfold layP
  split
  · obtain ⟨a, b, c⟩ := hL.new ht.1.1 ht.1.2
    refine ⟨a.plc (by omega) (by rw [c]; omega) (by rw [c]; omega), ?_⟩
    show newV V (tallF Y p) 17 0 ≤ _
    omega
  · rename_i g
    have a := sel_can V (tallF Y p) (wideF Y p) (V 17 0).toNat (by unfold selF at g; omega)
    have b := sel_rng V (tallF Y p) (wideF Y p) (V 17 0).toNat
    have l1 := hL.1
    have c := hL.2.2.1 (selF V (tallF Y p) (wideF Y p)) (by omega) (by unfold selF; omega)
    refine ⟨hL.plc (by omega) (by omega) (by unfold selF; omega), ?_⟩
    show V 17 0 ≤ _
    omega
theorem LI_layN {Y V : Nat → Int → Int} (hI : MI Y) : ∀ n : Nat, (n : Int) ≤ Y 10 0 → LI (layN Y V n) ∧ layN Y V n 17 0 ≤ n := by
  intro n
  induction n with
  | zero => intro _; exact ⟨LI.zero V, Int.le_refl 0⟩
  | succ n ih =>
    intro h
    obtain ⟨a, b⟩ := ih (by omega)
    obtain ⟨c, d⟩ := a.lay hI (p := n) (by omega) (by omega)
    simp only [layN]
    exact ⟨c, by omega⟩

set_option maxHeartbeats 4000000 in
set_option maxRecDepth 100000 in
/-- shelfFor(p) -/
theorem c_X5_shelfFor {C : WC} {l : Launch} (hfl : l.stackTraces = false) {ad : Nat → Nat} {Y V : Nat → Int → Int} {W : Int → Int} {th : Int} {R : va_W} {p : Int} (hI : MI Y) (hL : LI V) (hn : V 17 0 ≤ 16) (p0 : 0 ≤ p) (p1 : p < Y 10 0) : MM C l yX5_shelfFor cX5_shelfFor 6 (some .int) 1 0 0 [.ref (ad 0), vi p] (wM C ad Y V W th ++ R) (rv (vi (selF V (tallF Y p) (wideF Y p))) (wM C ad Y V W th ++ R)) := by
  refine mm_of (by decide +kernel) (Nat.le_of_ble_eq_true rfl) hfl (fun K Q X r => ?_)
  have X : Cx C l "SpringleafModel" cX5_shelfFor 6 1 0 0 K := X
  have I3 := hI.1
  have I10 := hI.2.2.1
  have I12 := hI.2.2.2.2.1
  have ht := tw_rng hI p0 p1
  have l1 := hL.1
  have loop : ∀ (n : Nat) (k b : Int), 0 ≤ k → k ≤ V 17 0 → V 17 0 - k < n → b = sel V (tallF Y p) (wideF Y p) k.toNat → G C K Q 0 0 4 [(0, .ref (ad 0)), (1, vi p), (2, vi b), (3, vi k)] [] (wM C ad Y V W th ++ R) := by
    intro n
    induction n with
    | zero => intro k b h0 h1 h2; exact absurd h2 (by omega)
    | succ n ih =>
      intro k b k0 k1 h2 eb
      have hs := sel_rng V (tallF Y p) (wideF Y p) k.toNat
      rw [← eb] at hs
      refine g_iload_n (t := 5) X dX5_shelfFor_4 3 rfl rfl ?_
      refine g_aload_n (t := 6) X dX5_shelfFor_5 0 rfl rfl ?_
      refine m_getf (t := 9) X 17 (by decide) q4_226 rfl rfl dX5_shelfFor_6 rfl ?_
      refine g_icmp_ge (t := 128) (u := 12) X dX5_shelfFor_9 (by decide) rfl ⟨by omega, by omega⟩ ⟨by omega, by omega⟩ (fun c_9 => ?_) (fun c_9 => ?_)
      · refine g_iload_n (t := 129) X dX5_shelfFor_128 2 rfl rfl ?_
        exact g_iret X r (rv_i (by rw [eb]; unfold selF; congr 1; omega)) (Nat.le_of_ble_eq_true rfl) (Nat.le_of_ble_eq_true rfl) dX5_shelfFor_129
      · have hk := hL.2.2.1 k k0 (by omega)
        have l2 := hL.2.1
        refine g_aload_n (t := 13) X dX5_shelfFor_12 0 rfl rfl ?_
        refine m_getf (t := 16) X 15 (by decide) q4_224 rfl rfl dX5_shelfFor_13 rfl ?_
        refine g_iload_n (t := 17) X dX5_shelfFor_16 3 rfl rfl ?_
        refine g_iald (t := 18) (f := V 15) X 13 wM_sh (by omega) (by omega) (by omega) dX5_shelfFor_17 rfl ?_
        refine g_aload_n (t := 19) X dX5_shelfFor_18 0 rfl rfl ?_
        refine g_iload_n (t := 20) X dX5_shelfFor_19 1 rfl rfl ?_
        refine g_callV (t := 23) (mc := 0) (ms := 0) (rest := [vi ((V 15) k)]) X mt_X5_tall q5_146 q5_148 qs_36 0 wM_0 rfl (c_X5_tall hfl hI p0 p1) (by decide) (by decide) (by decide) (Nat.le_of_ble_eq_true rfl) rfl rfl dX5_shelfFor_20 rfl (k_rv ?_)
        refine g_icmp_lt (t := 47) (u := 26) X dX5_shelfFor_23 (by decide) rfl ⟨by omega, by omega⟩ ⟨by omega, by omega⟩ (fun c_23 => ?_) (fun c_23 => ?_)
        · refine g_iconst (t := 48) X dX5_shelfFor_47 rfl ?_
          refine g_istore (t := 50) (lv1 := [(4, vi 0), (0, .ref (ad 0)), (1, vi p), (2, vi b), (3, vi k)]) X dX5_shelfFor_48 (by decide) rfl rfl ?_
          refine g_iload_n (t := 51) X dX5_shelfFor_50 3 rfl rfl ?_
          refine g_if_lt (t := 99) (u := 54) X dX5_shelfFor_51 (by decide) rfl ⟨by omega, by omega⟩ (fun c_51 => ?_) (fun c_51 => ?_)
          · refine g_iconst (t := 100) X dX5_shelfFor_99 rfl ?_
            refine g_goto (t := 104) X dX5_shelfFor_100 (by decide) ?_
            refine g_istore (t := 106) (lv1 := [(5, vi 1), (4, vi 0), (0, .ref (ad 0)), (1, vi p), (2, vi b), (3, vi k)]) X dX5_shelfFor_104 (by decide) rfl rfl ?_
            refine g_iload (t := 108) X dX5_shelfFor_106 1 rfl rfl ?_
            refine g_if_eq (t := 120) (u := 111) X dX5_shelfFor_108 (by decide) rfl ⟨by omega, by omega⟩ (fun _ => ?_) (fun c => absurd c (by decide))
            refine g_iload_n (t := 121) X dX5_shelfFor_120 4 rfl rfl ?_
            refine g_istore_n (t := 122) (lv1 := [(2, vi b), (5, vi 1), (4, vi 0), (0, .ref (ad 0)), (1, vi p), (3, vi k)]) X dX5_shelfFor_121 (by decide) rfl rfl ?_
            refine g_iinc (t := 125) (lv1 := [(3, vi (k + 1)), (2, vi b), (5, vi 1), (4, vi 0), (0, .ref (ad 0)), (1, vi p)]) X dX5_shelfFor_122 5 rfl (by decide) rfl rfl ?_
            refine g_goto (t := 4) X dX5_shelfFor_125 (by decide) ?_
            exact g_lv (ih (k + 1) b (by omega) (by omega) (by omega) (by rw [sel_succ V _ _ k0, ← eb]; first | rw [if_pos (by omega)] | rw [if_neg (by omega)])) [4, 5, 1, 0] rfl
          · have hb := hL.2.2.1 b (by omega) (by omega)
            refine g_aload_n (t := 55) X dX5_shelfFor_54 1 rfl rfl ?_
            refine m_getf (t := 58) X 13 (by decide) q4_222 rfl rfl dX5_shelfFor_55 rfl ?_
            refine g_iload_n (t := 59) X dX5_shelfFor_58 4 rfl rfl ?_
            refine g_iald (t := 60) (f := V 13) X 11 wM_ss (by omega) (by omega) (by omega) dX5_shelfFor_59 rfl ?_
            refine g_aload_n (t := 61) X dX5_shelfFor_60 1 rfl rfl ?_
            refine m_getf (t := 64) X 13 (by decide) q4_222 rfl rfl dX5_shelfFor_61 rfl ?_
            refine g_iload_n (t := 65) X dX5_shelfFor_64 3 rfl rfl ?_
            refine g_iald (t := 66) (f := V 13) X 11 wM_ss (by omega) (by omega) (by omega) dX5_shelfFor_65 rfl ?_
            refine g_icmp_lt (t := 99) (u := 69) X dX5_shelfFor_66 (by decide) rfl ⟨by omega, by omega⟩ ⟨by omega, by omega⟩ (fun c_66 => ?_) (fun c_66 => ?_)
            · refine g_iconst (t := 100) X dX5_shelfFor_99 rfl ?_
              refine g_goto (t := 104) X dX5_shelfFor_100 (by decide) ?_
              refine g_istore (t := 106) (lv1 := [(5, vi 1), (4, vi 0), (0, .ref (ad 0)), (1, vi p), (2, vi b), (3, vi k)]) X dX5_shelfFor_104 (by decide) rfl rfl ?_
              refine g_iload (t := 108) X dX5_shelfFor_106 1 rfl rfl ?_
              refine g_if_eq (t := 120) (u := 111) X dX5_shelfFor_108 (by decide) rfl ⟨by omega, by omega⟩ (fun _ => ?_) (fun c => absurd c (by decide))
              refine g_iload_n (t := 121) X dX5_shelfFor_120 4 rfl rfl ?_
              refine g_istore_n (t := 122) (lv1 := [(2, vi b), (5, vi 1), (4, vi 0), (0, .ref (ad 0)), (1, vi p), (3, vi k)]) X dX5_shelfFor_121 (by decide) rfl rfl ?_
              refine g_iinc (t := 125) (lv1 := [(3, vi (k + 1)), (2, vi b), (5, vi 1), (4, vi 0), (0, .ref (ad 0)), (1, vi p)]) X dX5_shelfFor_122 5 rfl (by decide) rfl rfl ?_
              refine g_goto (t := 4) X dX5_shelfFor_125 (by decide) ?_
              exact g_lv (ih (k + 1) b (by omega) (by omega) (by omega) (by rw [sel_succ V _ _ k0, ← eb]; first | rw [if_pos (by omega)] | rw [if_neg (by omega)])) [4, 5, 1, 0] rfl
            · refine g_aload_n (t := 70) X dX5_shelfFor_69 1 rfl rfl ?_
              refine m_getf (t := 73) X 13 (by decide) q4_222 rfl rfl dX5_shelfFor_70 rfl ?_
              refine g_iload_n (t := 74) X dX5_shelfFor_73 4 rfl rfl ?_
              refine g_iald (t := 75) (f := V 13) X 11 wM_ss (by omega) (by omega) (by omega) dX5_shelfFor_74 rfl ?_
              refine g_aload_n (t := 76) X dX5_shelfFor_75 1 rfl rfl ?_
              refine m_getf (t := 79) X 13 (by decide) q4_222 rfl rfl dX5_shelfFor_76 rfl ?_
              refine g_iload_n (t := 80) X dX5_shelfFor_79 3 rfl rfl ?_
              refine g_iald (t := 81) (f := V 13) X 11 wM_ss (by omega) (by omega) (by omega) dX5_shelfFor_80 rfl ?_
              refine g_icmp_ne (t := 103) (u := 84) X dX5_shelfFor_81 (by decide) rfl ⟨by omega, by omega⟩ ⟨by omega, by omega⟩ (fun c_81 => ?_) (fun c_81 => ?_)
              · refine g_iconst (t := 104) X dX5_shelfFor_103 rfl ?_
                refine g_istore (t := 106) (lv1 := [(5, vi 0), (4, vi 0), (0, .ref (ad 0)), (1, vi p), (2, vi b), (3, vi k)]) X dX5_shelfFor_104 (by decide) rfl rfl ?_
                refine g_iload (t := 108) X dX5_shelfFor_106 1 rfl rfl ?_
                refine g_if_eq (t := 120) (u := 111) X dX5_shelfFor_108 (by decide) rfl ⟨by omega, by omega⟩ (fun _ => ?_) (fun c => absurd c (by decide))
                refine g_iload_n (t := 121) X dX5_shelfFor_120 4 rfl rfl ?_
                refine g_istore_n (t := 122) (lv1 := [(2, vi b), (5, vi 0), (4, vi 0), (0, .ref (ad 0)), (1, vi p), (3, vi k)]) X dX5_shelfFor_121 (by decide) rfl rfl ?_
                refine g_iinc (t := 125) (lv1 := [(3, vi (k + 1)), (2, vi b), (5, vi 0), (4, vi 0), (0, .ref (ad 0)), (1, vi p)]) X dX5_shelfFor_122 5 rfl (by decide) rfl rfl ?_
                refine g_goto (t := 4) X dX5_shelfFor_125 (by decide) ?_
                exact g_lv (ih (k + 1) b (by omega) (by omega) (by omega) (by rw [sel_succ V _ _ k0, ← eb]; first | rw [if_pos (by omega)] | rw [if_neg (by omega)])) [4, 5, 1, 0] rfl
              · refine g_aload_n (t := 85) X dX5_shelfFor_84 1 rfl rfl ?_
                refine m_getf (t := 88) X 14 (by decide) q4_223 rfl rfl dX5_shelfFor_85 rfl ?_
                refine g_iload_n (t := 89) X dX5_shelfFor_88 4 rfl rfl ?_
                refine g_iald (t := 90) (f := V 14) X 12 wM_st (by omega) (by omega) (by omega) dX5_shelfFor_89 rfl ?_
                refine g_aload_n (t := 91) X dX5_shelfFor_90 1 rfl rfl ?_
                refine m_getf (t := 94) X 14 (by decide) q4_223 rfl rfl dX5_shelfFor_91 rfl ?_
                refine g_iload_n (t := 95) X dX5_shelfFor_94 3 rfl rfl ?_
                refine g_iald (t := 96) (f := V 14) X 12 wM_st (by omega) (by omega) (by omega) dX5_shelfFor_95 rfl ?_
                refine g_icmp_ge (t := 103) (u := 99) X dX5_shelfFor_96 (by decide) rfl ⟨by omega, by omega⟩ ⟨by omega, by omega⟩ (fun c_96 => ?_) (fun c_96 => ?_)
                · refine g_iconst (t := 104) X dX5_shelfFor_103 rfl ?_
                  refine g_istore (t := 106) (lv1 := [(5, vi 0), (4, vi 0), (0, .ref (ad 0)), (1, vi p), (2, vi b), (3, vi k)]) X dX5_shelfFor_104 (by decide) rfl rfl ?_
                  refine g_iload (t := 108) X dX5_shelfFor_106 1 rfl rfl ?_
                  refine g_if_eq (t := 120) (u := 111) X dX5_shelfFor_108 (by decide) rfl ⟨by omega, by omega⟩ (fun _ => ?_) (fun c => absurd c (by decide))
                  refine g_iload_n (t := 121) X dX5_shelfFor_120 4 rfl rfl ?_
                  refine g_istore_n (t := 122) (lv1 := [(2, vi b), (5, vi 0), (4, vi 0), (0, .ref (ad 0)), (1, vi p), (3, vi k)]) X dX5_shelfFor_121 (by decide) rfl rfl ?_
                  refine g_iinc (t := 125) (lv1 := [(3, vi (k + 1)), (2, vi b), (5, vi 0), (4, vi 0), (0, .ref (ad 0)), (1, vi p)]) X dX5_shelfFor_122 5 rfl (by decide) rfl rfl ?_
                  refine g_goto (t := 4) X dX5_shelfFor_125 (by decide) ?_
                  exact g_lv (ih (k + 1) b (by omega) (by omega) (by omega) (by rw [sel_succ V _ _ k0, ← eb]; first | rw [if_pos (by omega)] | rw [if_neg (by omega)])) [4, 5, 1, 0] rfl
                · refine g_iconst (t := 100) X dX5_shelfFor_99 rfl ?_
                  refine g_goto (t := 104) X dX5_shelfFor_100 (by decide) ?_
                  refine g_istore (t := 106) (lv1 := [(5, vi 1), (4, vi 0), (0, .ref (ad 0)), (1, vi p), (2, vi b), (3, vi k)]) X dX5_shelfFor_104 (by decide) rfl rfl ?_
                  refine g_iload (t := 108) X dX5_shelfFor_106 1 rfl rfl ?_
                  refine g_if_eq (t := 120) (u := 111) X dX5_shelfFor_108 (by decide) rfl ⟨by omega, by omega⟩ (fun _ => ?_) (fun c => absurd c (by decide))
                  refine g_iload_n (t := 121) X dX5_shelfFor_120 4 rfl rfl ?_
                  refine g_istore_n (t := 122) (lv1 := [(2, vi b), (5, vi 1), (4, vi 0), (0, .ref (ad 0)), (1, vi p), (3, vi k)]) X dX5_shelfFor_121 (by decide) rfl rfl ?_
                  refine g_iinc (t := 125) (lv1 := [(3, vi (k + 1)), (2, vi b), (5, vi 1), (4, vi 0), (0, .ref (ad 0)), (1, vi p)]) X dX5_shelfFor_122 5 rfl (by decide) rfl rfl ?_
                  refine g_goto (t := 4) X dX5_shelfFor_125 (by decide) ?_
                  exact g_lv (ih (k + 1) b (by omega) (by omega) (by omega) (by rw [sel_succ V _ _ k0, ← eb]; first | rw [if_pos (by omega)] | rw [if_neg (by omega)])) [4, 5, 1, 0] rfl
        · refine g_aload_n (t := 27) X dX5_shelfFor_26 0 rfl rfl ?_
          refine m_getf (t := 30) X 16 (by decide) q4_225 rfl rfl dX5_shelfFor_27 rfl ?_
          refine g_iload_n (t := 31) X dX5_shelfFor_30 3 rfl rfl ?_
          refine g_iald (t := 32) (f := V 16) X 14 wM_su (by omega) (by omega) (by omega) dX5_shelfFor_31 rfl ?_
          refine g_aload_n (t := 33) X dX5_shelfFor_32 0 rfl rfl ?_
          refine g_iload_n (t := 34) X dX5_shelfFor_33 1 rfl rfl ?_
          refine g_callV (t := 37) (mc := 0) (ms := 0) (rest := [vi ((V 16) k)]) X mt_X5_wide q5_150 q5_152 qs_37 0 wM_0 rfl (c_X5_wide hfl hI p0 p1) (by decide) (by decide) (by decide) (Nat.le_of_ble_eq_true rfl) rfl rfl dX5_shelfFor_34 rfl (k_rv ?_)
          refine g_iadd (t := 38) X dX5_shelfFor_37 rfl ?_
          refine g_bipush (t := 40) (z := 40) X dX5_shelfFor_38 (by decide +kernel) rfl ?_
          refine g_icmp_gt (t := 47) (u := 43) X dX5_shelfFor_40 (by decide) rfl ⟨by omega, by omega⟩ ⟨by omega, by omega⟩ (fun c_40 => ?_) (fun c_40 => ?_)
          · refine g_iconst (t := 48) X dX5_shelfFor_47 rfl ?_
            refine g_istore (t := 50) (lv1 := [(4, vi 0), (0, .ref (ad 0)), (1, vi p), (2, vi b), (3, vi k)]) X dX5_shelfFor_48 (by decide) rfl rfl ?_
            refine g_iload_n (t := 51) X dX5_shelfFor_50 3 rfl rfl ?_
            refine g_if_lt (t := 99) (u := 54) X dX5_shelfFor_51 (by decide) rfl ⟨by omega, by omega⟩ (fun c_51 => ?_) (fun c_51 => ?_)
            · refine g_iconst (t := 100) X dX5_shelfFor_99 rfl ?_
              refine g_goto (t := 104) X dX5_shelfFor_100 (by decide) ?_
              refine g_istore (t := 106) (lv1 := [(5, vi 1), (4, vi 0), (0, .ref (ad 0)), (1, vi p), (2, vi b), (3, vi k)]) X dX5_shelfFor_104 (by decide) rfl rfl ?_
              refine g_iload (t := 108) X dX5_shelfFor_106 1 rfl rfl ?_
              refine g_if_eq (t := 120) (u := 111) X dX5_shelfFor_108 (by decide) rfl ⟨by omega, by omega⟩ (fun _ => ?_) (fun c => absurd c (by decide))
              refine g_iload_n (t := 121) X dX5_shelfFor_120 4 rfl rfl ?_
              refine g_istore_n (t := 122) (lv1 := [(2, vi b), (5, vi 1), (4, vi 0), (0, .ref (ad 0)), (1, vi p), (3, vi k)]) X dX5_shelfFor_121 (by decide) rfl rfl ?_
              refine g_iinc (t := 125) (lv1 := [(3, vi (k + 1)), (2, vi b), (5, vi 1), (4, vi 0), (0, .ref (ad 0)), (1, vi p)]) X dX5_shelfFor_122 5 rfl (by decide) rfl rfl ?_
              refine g_goto (t := 4) X dX5_shelfFor_125 (by decide) ?_
              exact g_lv (ih (k + 1) b (by omega) (by omega) (by omega) (by rw [sel_succ V _ _ k0, ← eb]; first | rw [if_pos (by omega)] | rw [if_neg (by omega)])) [4, 5, 1, 0] rfl
            · have hb := hL.2.2.1 b (by omega) (by omega)
              refine g_aload_n (t := 55) X dX5_shelfFor_54 1 rfl rfl ?_
              refine m_getf (t := 58) X 13 (by decide) q4_222 rfl rfl dX5_shelfFor_55 rfl ?_
              refine g_iload_n (t := 59) X dX5_shelfFor_58 4 rfl rfl ?_
              refine g_iald (t := 60) (f := V 13) X 11 wM_ss (by omega) (by omega) (by omega) dX5_shelfFor_59 rfl ?_
              refine g_aload_n (t := 61) X dX5_shelfFor_60 1 rfl rfl ?_
              refine m_getf (t := 64) X 13 (by decide) q4_222 rfl rfl dX5_shelfFor_61 rfl ?_
              refine g_iload_n (t := 65) X dX5_shelfFor_64 3 rfl rfl ?_
              refine g_iald (t := 66) (f := V 13) X 11 wM_ss (by omega) (by omega) (by omega) dX5_shelfFor_65 rfl ?_
              refine g_icmp_lt (t := 99) (u := 69) X dX5_shelfFor_66 (by decide) rfl ⟨by omega, by omega⟩ ⟨by omega, by omega⟩ (fun c_66 => ?_) (fun c_66 => ?_)
              · refine g_iconst (t := 100) X dX5_shelfFor_99 rfl ?_
                refine g_goto (t := 104) X dX5_shelfFor_100 (by decide) ?_
                refine g_istore (t := 106) (lv1 := [(5, vi 1), (4, vi 0), (0, .ref (ad 0)), (1, vi p), (2, vi b), (3, vi k)]) X dX5_shelfFor_104 (by decide) rfl rfl ?_
                refine g_iload (t := 108) X dX5_shelfFor_106 1 rfl rfl ?_
                refine g_if_eq (t := 120) (u := 111) X dX5_shelfFor_108 (by decide) rfl ⟨by omega, by omega⟩ (fun _ => ?_) (fun c => absurd c (by decide))
                refine g_iload_n (t := 121) X dX5_shelfFor_120 4 rfl rfl ?_
                refine g_istore_n (t := 122) (lv1 := [(2, vi b), (5, vi 1), (4, vi 0), (0, .ref (ad 0)), (1, vi p), (3, vi k)]) X dX5_shelfFor_121 (by decide) rfl rfl ?_
                refine g_iinc (t := 125) (lv1 := [(3, vi (k + 1)), (2, vi b), (5, vi 1), (4, vi 0), (0, .ref (ad 0)), (1, vi p)]) X dX5_shelfFor_122 5 rfl (by decide) rfl rfl ?_
                refine g_goto (t := 4) X dX5_shelfFor_125 (by decide) ?_
                exact g_lv (ih (k + 1) b (by omega) (by omega) (by omega) (by rw [sel_succ V _ _ k0, ← eb]; first | rw [if_pos (by omega)] | rw [if_neg (by omega)])) [4, 5, 1, 0] rfl
              · refine g_aload_n (t := 70) X dX5_shelfFor_69 1 rfl rfl ?_
                refine m_getf (t := 73) X 13 (by decide) q4_222 rfl rfl dX5_shelfFor_70 rfl ?_
                refine g_iload_n (t := 74) X dX5_shelfFor_73 4 rfl rfl ?_
                refine g_iald (t := 75) (f := V 13) X 11 wM_ss (by omega) (by omega) (by omega) dX5_shelfFor_74 rfl ?_
                refine g_aload_n (t := 76) X dX5_shelfFor_75 1 rfl rfl ?_
                refine m_getf (t := 79) X 13 (by decide) q4_222 rfl rfl dX5_shelfFor_76 rfl ?_
                refine g_iload_n (t := 80) X dX5_shelfFor_79 3 rfl rfl ?_
                refine g_iald (t := 81) (f := V 13) X 11 wM_ss (by omega) (by omega) (by omega) dX5_shelfFor_80 rfl ?_
                refine g_icmp_ne (t := 103) (u := 84) X dX5_shelfFor_81 (by decide) rfl ⟨by omega, by omega⟩ ⟨by omega, by omega⟩ (fun c_81 => ?_) (fun c_81 => ?_)
                · refine g_iconst (t := 104) X dX5_shelfFor_103 rfl ?_
                  refine g_istore (t := 106) (lv1 := [(5, vi 0), (4, vi 0), (0, .ref (ad 0)), (1, vi p), (2, vi b), (3, vi k)]) X dX5_shelfFor_104 (by decide) rfl rfl ?_
                  refine g_iload (t := 108) X dX5_shelfFor_106 1 rfl rfl ?_
                  refine g_if_eq (t := 120) (u := 111) X dX5_shelfFor_108 (by decide) rfl ⟨by omega, by omega⟩ (fun _ => ?_) (fun c => absurd c (by decide))
                  refine g_iload_n (t := 121) X dX5_shelfFor_120 4 rfl rfl ?_
                  refine g_istore_n (t := 122) (lv1 := [(2, vi b), (5, vi 0), (4, vi 0), (0, .ref (ad 0)), (1, vi p), (3, vi k)]) X dX5_shelfFor_121 (by decide) rfl rfl ?_
                  refine g_iinc (t := 125) (lv1 := [(3, vi (k + 1)), (2, vi b), (5, vi 0), (4, vi 0), (0, .ref (ad 0)), (1, vi p)]) X dX5_shelfFor_122 5 rfl (by decide) rfl rfl ?_
                  refine g_goto (t := 4) X dX5_shelfFor_125 (by decide) ?_
                  exact g_lv (ih (k + 1) b (by omega) (by omega) (by omega) (by rw [sel_succ V _ _ k0, ← eb]; first | rw [if_pos (by omega)] | rw [if_neg (by omega)])) [4, 5, 1, 0] rfl
                · refine g_aload_n (t := 85) X dX5_shelfFor_84 1 rfl rfl ?_
                  refine m_getf (t := 88) X 14 (by decide) q4_223 rfl rfl dX5_shelfFor_85 rfl ?_
                  refine g_iload_n (t := 89) X dX5_shelfFor_88 4 rfl rfl ?_
                  refine g_iald (t := 90) (f := V 14) X 12 wM_st (by omega) (by omega) (by omega) dX5_shelfFor_89 rfl ?_
                  refine g_aload_n (t := 91) X dX5_shelfFor_90 1 rfl rfl ?_
                  refine m_getf (t := 94) X 14 (by decide) q4_223 rfl rfl dX5_shelfFor_91 rfl ?_
                  refine g_iload_n (t := 95) X dX5_shelfFor_94 3 rfl rfl ?_
                  refine g_iald (t := 96) (f := V 14) X 12 wM_st (by omega) (by omega) (by omega) dX5_shelfFor_95 rfl ?_
                  refine g_icmp_ge (t := 103) (u := 99) X dX5_shelfFor_96 (by decide) rfl ⟨by omega, by omega⟩ ⟨by omega, by omega⟩ (fun c_96 => ?_) (fun c_96 => ?_)
                  · refine g_iconst (t := 104) X dX5_shelfFor_103 rfl ?_
                    refine g_istore (t := 106) (lv1 := [(5, vi 0), (4, vi 0), (0, .ref (ad 0)), (1, vi p), (2, vi b), (3, vi k)]) X dX5_shelfFor_104 (by decide) rfl rfl ?_
                    refine g_iload (t := 108) X dX5_shelfFor_106 1 rfl rfl ?_
                    refine g_if_eq (t := 120) (u := 111) X dX5_shelfFor_108 (by decide) rfl ⟨by omega, by omega⟩ (fun _ => ?_) (fun c => absurd c (by decide))
                    refine g_iload_n (t := 121) X dX5_shelfFor_120 4 rfl rfl ?_
                    refine g_istore_n (t := 122) (lv1 := [(2, vi b), (5, vi 0), (4, vi 0), (0, .ref (ad 0)), (1, vi p), (3, vi k)]) X dX5_shelfFor_121 (by decide) rfl rfl ?_
                    refine g_iinc (t := 125) (lv1 := [(3, vi (k + 1)), (2, vi b), (5, vi 0), (4, vi 0), (0, .ref (ad 0)), (1, vi p)]) X dX5_shelfFor_122 5 rfl (by decide) rfl rfl ?_
                    refine g_goto (t := 4) X dX5_shelfFor_125 (by decide) ?_
                    exact g_lv (ih (k + 1) b (by omega) (by omega) (by omega) (by rw [sel_succ V _ _ k0, ← eb]; first | rw [if_pos (by omega)] | rw [if_neg (by omega)])) [4, 5, 1, 0] rfl
                  · refine g_iconst (t := 100) X dX5_shelfFor_99 rfl ?_
                    refine g_goto (t := 104) X dX5_shelfFor_100 (by decide) ?_
                    refine g_istore (t := 106) (lv1 := [(5, vi 1), (4, vi 0), (0, .ref (ad 0)), (1, vi p), (2, vi b), (3, vi k)]) X dX5_shelfFor_104 (by decide) rfl rfl ?_
                    refine g_iload (t := 108) X dX5_shelfFor_106 1 rfl rfl ?_
                    refine g_if_eq (t := 120) (u := 111) X dX5_shelfFor_108 (by decide) rfl ⟨by omega, by omega⟩ (fun _ => ?_) (fun c => absurd c (by decide))
                    refine g_iload_n (t := 121) X dX5_shelfFor_120 4 rfl rfl ?_
                    refine g_istore_n (t := 122) (lv1 := [(2, vi b), (5, vi 1), (4, vi 0), (0, .ref (ad 0)), (1, vi p), (3, vi k)]) X dX5_shelfFor_121 (by decide) rfl rfl ?_
                    refine g_iinc (t := 125) (lv1 := [(3, vi (k + 1)), (2, vi b), (5, vi 1), (4, vi 0), (0, .ref (ad 0)), (1, vi p)]) X dX5_shelfFor_122 5 rfl (by decide) rfl rfl ?_
                    refine g_goto (t := 4) X dX5_shelfFor_125 (by decide) ?_
                    exact g_lv (ih (k + 1) b (by omega) (by omega) (by omega) (by rw [sel_succ V _ _ k0, ← eb]; first | rw [if_pos (by omega)] | rw [if_neg (by omega)])) [4, 5, 1, 0] rfl
          · refine g_iconst (t := 44) X dX5_shelfFor_43 rfl ?_
            refine g_goto (t := 48) X dX5_shelfFor_44 (by decide) ?_
            refine g_istore (t := 50) (lv1 := [(4, vi 1), (0, .ref (ad 0)), (1, vi p), (2, vi b), (3, vi k)]) X dX5_shelfFor_48 (by decide) rfl rfl ?_
            refine g_iload_n (t := 51) X dX5_shelfFor_50 3 rfl rfl ?_
            refine g_if_lt (t := 99) (u := 54) X dX5_shelfFor_51 (by decide) rfl ⟨by omega, by omega⟩ (fun c_51 => ?_) (fun c_51 => ?_)
            · refine g_iconst (t := 100) X dX5_shelfFor_99 rfl ?_
              refine g_goto (t := 104) X dX5_shelfFor_100 (by decide) ?_
              refine g_istore (t := 106) (lv1 := [(5, vi 1), (4, vi 1), (0, .ref (ad 0)), (1, vi p), (2, vi b), (3, vi k)]) X dX5_shelfFor_104 (by decide) rfl rfl ?_
              refine g_iload (t := 108) X dX5_shelfFor_106 1 rfl rfl ?_
              refine g_if_eq (t := 120) (u := 111) X dX5_shelfFor_108 (by decide) rfl ⟨by omega, by omega⟩ (fun c => absurd c (by decide)) (fun _ => ?_)
              refine g_iload (t := 113) X dX5_shelfFor_111 0 rfl rfl ?_
              refine g_if_eq (t := 120) (u := 116) X dX5_shelfFor_113 (by decide) rfl ⟨by omega, by omega⟩ (fun c => absurd c (by decide)) (fun _ => ?_)
              refine g_iload_n (t := 117) X dX5_shelfFor_116 5 rfl rfl ?_
              refine g_goto (t := 121) X dX5_shelfFor_117 (by decide) ?_
              refine g_istore_n (t := 122) (lv1 := [(2, vi k), (5, vi 1), (4, vi 1), (0, .ref (ad 0)), (1, vi p), (3, vi k)]) X dX5_shelfFor_121 (by decide) rfl rfl ?_
              refine g_iinc (t := 125) (lv1 := [(3, vi (k + 1)), (2, vi k), (5, vi 1), (4, vi 1), (0, .ref (ad 0)), (1, vi p)]) X dX5_shelfFor_122 5 rfl (by decide) rfl rfl ?_
              refine g_goto (t := 4) X dX5_shelfFor_125 (by decide) ?_
              exact g_lv (ih (k + 1) k (by omega) (by omega) (by omega) (by rw [sel_succ V _ _ k0, ← eb]; first | rw [if_pos (by omega)] | rw [if_neg (by omega)])) [4, 5, 1, 0] rfl
            · have hb := hL.2.2.1 b (by omega) (by omega)
              refine g_aload_n (t := 55) X dX5_shelfFor_54 1 rfl rfl ?_
              refine m_getf (t := 58) X 13 (by decide) q4_222 rfl rfl dX5_shelfFor_55 rfl ?_
              refine g_iload_n (t := 59) X dX5_shelfFor_58 4 rfl rfl ?_
              refine g_iald (t := 60) (f := V 13) X 11 wM_ss (by omega) (by omega) (by omega) dX5_shelfFor_59 rfl ?_
              refine g_aload_n (t := 61) X dX5_shelfFor_60 1 rfl rfl ?_
              refine m_getf (t := 64) X 13 (by decide) q4_222 rfl rfl dX5_shelfFor_61 rfl ?_
              refine g_iload_n (t := 65) X dX5_shelfFor_64 3 rfl rfl ?_
              refine g_iald (t := 66) (f := V 13) X 11 wM_ss (by omega) (by omega) (by omega) dX5_shelfFor_65 rfl ?_
              refine g_icmp_lt (t := 99) (u := 69) X dX5_shelfFor_66 (by decide) rfl ⟨by omega, by omega⟩ ⟨by omega, by omega⟩ (fun c_66 => ?_) (fun c_66 => ?_)
              · refine g_iconst (t := 100) X dX5_shelfFor_99 rfl ?_
                refine g_goto (t := 104) X dX5_shelfFor_100 (by decide) ?_
                refine g_istore (t := 106) (lv1 := [(5, vi 1), (4, vi 1), (0, .ref (ad 0)), (1, vi p), (2, vi b), (3, vi k)]) X dX5_shelfFor_104 (by decide) rfl rfl ?_
                refine g_iload (t := 108) X dX5_shelfFor_106 1 rfl rfl ?_
                refine g_if_eq (t := 120) (u := 111) X dX5_shelfFor_108 (by decide) rfl ⟨by omega, by omega⟩ (fun c => absurd c (by decide)) (fun _ => ?_)
                refine g_iload (t := 113) X dX5_shelfFor_111 0 rfl rfl ?_
                refine g_if_eq (t := 120) (u := 116) X dX5_shelfFor_113 (by decide) rfl ⟨by omega, by omega⟩ (fun c => absurd c (by decide)) (fun _ => ?_)
                refine g_iload_n (t := 117) X dX5_shelfFor_116 5 rfl rfl ?_
                refine g_goto (t := 121) X dX5_shelfFor_117 (by decide) ?_
                refine g_istore_n (t := 122) (lv1 := [(2, vi k), (5, vi 1), (4, vi 1), (0, .ref (ad 0)), (1, vi p), (3, vi k)]) X dX5_shelfFor_121 (by decide) rfl rfl ?_
                refine g_iinc (t := 125) (lv1 := [(3, vi (k + 1)), (2, vi k), (5, vi 1), (4, vi 1), (0, .ref (ad 0)), (1, vi p)]) X dX5_shelfFor_122 5 rfl (by decide) rfl rfl ?_
                refine g_goto (t := 4) X dX5_shelfFor_125 (by decide) ?_
                exact g_lv (ih (k + 1) k (by omega) (by omega) (by omega) (by rw [sel_succ V _ _ k0, ← eb]; first | rw [if_pos (by omega)] | rw [if_neg (by omega)])) [4, 5, 1, 0] rfl
              · refine g_aload_n (t := 70) X dX5_shelfFor_69 1 rfl rfl ?_
                refine m_getf (t := 73) X 13 (by decide) q4_222 rfl rfl dX5_shelfFor_70 rfl ?_
                refine g_iload_n (t := 74) X dX5_shelfFor_73 4 rfl rfl ?_
                refine g_iald (t := 75) (f := V 13) X 11 wM_ss (by omega) (by omega) (by omega) dX5_shelfFor_74 rfl ?_
                refine g_aload_n (t := 76) X dX5_shelfFor_75 1 rfl rfl ?_
                refine m_getf (t := 79) X 13 (by decide) q4_222 rfl rfl dX5_shelfFor_76 rfl ?_
                refine g_iload_n (t := 80) X dX5_shelfFor_79 3 rfl rfl ?_
                refine g_iald (t := 81) (f := V 13) X 11 wM_ss (by omega) (by omega) (by omega) dX5_shelfFor_80 rfl ?_
                refine g_icmp_ne (t := 103) (u := 84) X dX5_shelfFor_81 (by decide) rfl ⟨by omega, by omega⟩ ⟨by omega, by omega⟩ (fun c_81 => ?_) (fun c_81 => ?_)
                · refine g_iconst (t := 104) X dX5_shelfFor_103 rfl ?_
                  refine g_istore (t := 106) (lv1 := [(5, vi 0), (4, vi 1), (0, .ref (ad 0)), (1, vi p), (2, vi b), (3, vi k)]) X dX5_shelfFor_104 (by decide) rfl rfl ?_
                  refine g_iload (t := 108) X dX5_shelfFor_106 1 rfl rfl ?_
                  refine g_if_eq (t := 120) (u := 111) X dX5_shelfFor_108 (by decide) rfl ⟨by omega, by omega⟩ (fun c => absurd c (by decide)) (fun _ => ?_)
                  refine g_iload (t := 113) X dX5_shelfFor_111 0 rfl rfl ?_
                  refine g_if_eq (t := 120) (u := 116) X dX5_shelfFor_113 (by decide) rfl ⟨by omega, by omega⟩ (fun _ => ?_) (fun c => absurd c (by decide))
                  refine g_iload_n (t := 121) X dX5_shelfFor_120 4 rfl rfl ?_
                  refine g_istore_n (t := 122) (lv1 := [(2, vi b), (5, vi 0), (4, vi 1), (0, .ref (ad 0)), (1, vi p), (3, vi k)]) X dX5_shelfFor_121 (by decide) rfl rfl ?_
                  refine g_iinc (t := 125) (lv1 := [(3, vi (k + 1)), (2, vi b), (5, vi 0), (4, vi 1), (0, .ref (ad 0)), (1, vi p)]) X dX5_shelfFor_122 5 rfl (by decide) rfl rfl ?_
                  refine g_goto (t := 4) X dX5_shelfFor_125 (by decide) ?_
                  exact g_lv (ih (k + 1) b (by omega) (by omega) (by omega) (by rw [sel_succ V _ _ k0, ← eb]; first | rw [if_pos (by omega)] | rw [if_neg (by omega)])) [4, 5, 1, 0] rfl
                · refine g_aload_n (t := 85) X dX5_shelfFor_84 1 rfl rfl ?_
                  refine m_getf (t := 88) X 14 (by decide) q4_223 rfl rfl dX5_shelfFor_85 rfl ?_
                  refine g_iload_n (t := 89) X dX5_shelfFor_88 4 rfl rfl ?_
                  refine g_iald (t := 90) (f := V 14) X 12 wM_st (by omega) (by omega) (by omega) dX5_shelfFor_89 rfl ?_
                  refine g_aload_n (t := 91) X dX5_shelfFor_90 1 rfl rfl ?_
                  refine m_getf (t := 94) X 14 (by decide) q4_223 rfl rfl dX5_shelfFor_91 rfl ?_
                  refine g_iload_n (t := 95) X dX5_shelfFor_94 3 rfl rfl ?_
                  refine g_iald (t := 96) (f := V 14) X 12 wM_st (by omega) (by omega) (by omega) dX5_shelfFor_95 rfl ?_
                  refine g_icmp_ge (t := 103) (u := 99) X dX5_shelfFor_96 (by decide) rfl ⟨by omega, by omega⟩ ⟨by omega, by omega⟩ (fun c_96 => ?_) (fun c_96 => ?_)
                  · refine g_iconst (t := 104) X dX5_shelfFor_103 rfl ?_
                    refine g_istore (t := 106) (lv1 := [(5, vi 0), (4, vi 1), (0, .ref (ad 0)), (1, vi p), (2, vi b), (3, vi k)]) X dX5_shelfFor_104 (by decide) rfl rfl ?_
                    refine g_iload (t := 108) X dX5_shelfFor_106 1 rfl rfl ?_
                    refine g_if_eq (t := 120) (u := 111) X dX5_shelfFor_108 (by decide) rfl ⟨by omega, by omega⟩ (fun c => absurd c (by decide)) (fun _ => ?_)
                    refine g_iload (t := 113) X dX5_shelfFor_111 0 rfl rfl ?_
                    refine g_if_eq (t := 120) (u := 116) X dX5_shelfFor_113 (by decide) rfl ⟨by omega, by omega⟩ (fun _ => ?_) (fun c => absurd c (by decide))
                    refine g_iload_n (t := 121) X dX5_shelfFor_120 4 rfl rfl ?_
                    refine g_istore_n (t := 122) (lv1 := [(2, vi b), (5, vi 0), (4, vi 1), (0, .ref (ad 0)), (1, vi p), (3, vi k)]) X dX5_shelfFor_121 (by decide) rfl rfl ?_
                    refine g_iinc (t := 125) (lv1 := [(3, vi (k + 1)), (2, vi b), (5, vi 0), (4, vi 1), (0, .ref (ad 0)), (1, vi p)]) X dX5_shelfFor_122 5 rfl (by decide) rfl rfl ?_
                    refine g_goto (t := 4) X dX5_shelfFor_125 (by decide) ?_
                    exact g_lv (ih (k + 1) b (by omega) (by omega) (by omega) (by rw [sel_succ V _ _ k0, ← eb]; first | rw [if_pos (by omega)] | rw [if_neg (by omega)])) [4, 5, 1, 0] rfl
                  · refine g_iconst (t := 100) X dX5_shelfFor_99 rfl ?_
                    refine g_goto (t := 104) X dX5_shelfFor_100 (by decide) ?_
                    refine g_istore (t := 106) (lv1 := [(5, vi 1), (4, vi 1), (0, .ref (ad 0)), (1, vi p), (2, vi b), (3, vi k)]) X dX5_shelfFor_104 (by decide) rfl rfl ?_
                    refine g_iload (t := 108) X dX5_shelfFor_106 1 rfl rfl ?_
                    refine g_if_eq (t := 120) (u := 111) X dX5_shelfFor_108 (by decide) rfl ⟨by omega, by omega⟩ (fun c => absurd c (by decide)) (fun _ => ?_)
                    refine g_iload (t := 113) X dX5_shelfFor_111 0 rfl rfl ?_
                    refine g_if_eq (t := 120) (u := 116) X dX5_shelfFor_113 (by decide) rfl ⟨by omega, by omega⟩ (fun c => absurd c (by decide)) (fun _ => ?_)
                    refine g_iload_n (t := 117) X dX5_shelfFor_116 5 rfl rfl ?_
                    refine g_goto (t := 121) X dX5_shelfFor_117 (by decide) ?_
                    refine g_istore_n (t := 122) (lv1 := [(2, vi k), (5, vi 1), (4, vi 1), (0, .ref (ad 0)), (1, vi p), (3, vi k)]) X dX5_shelfFor_121 (by decide) rfl rfl ?_
                    refine g_iinc (t := 125) (lv1 := [(3, vi (k + 1)), (2, vi k), (5, vi 1), (4, vi 1), (0, .ref (ad 0)), (1, vi p)]) X dX5_shelfFor_122 5 rfl (by decide) rfl rfl ?_
                    refine g_goto (t := 4) X dX5_shelfFor_125 (by decide) ?_
                    exact g_lv (ih (k + 1) k (by omega) (by omega) (by omega) (by rw [sel_succ V _ _ k0, ← eb]; first | rw [if_pos (by omega)] | rw [if_neg (by omega)])) [4, 5, 1, 0] rfl
  show G C K Q 0 0 0 [(0, .ref (ad 0)), (1, vi p)] [] (wM C ad Y V W th ++ R)
  refine g_iconst (t := 1) X dX5_shelfFor_0 rfl ?_
  refine g_istore_n (t := 2) (lv1 := [(2, vi (-1)), (0, .ref (ad 0)), (1, vi p)]) X dX5_shelfFor_1 (by decide) rfl rfl ?_
  refine g_iconst (t := 3) X dX5_shelfFor_2 rfl ?_
  refine g_istore_n (t := 4) (lv1 := [(3, vi 0), (2, vi (-1)), (0, .ref (ad 0)), (1, vi p)]) X dX5_shelfFor_3 (by decide) rfl rfl ?_
  exact g_lv (loop ((V 17 0).toNat + 1) 0 (-1) (by omega) (by omega) (by omega) rfl) [2, 3, 1, 0] rfl

set_option maxHeartbeats 4000000 in
set_option maxRecDepth 100000 in
/-- newShelf(p) -/
theorem c_X5_newShelf {C : WC} {l : Launch} (hfl : l.stackTraces = false) {ad : Nat → Nat} {Y V : Nat → Int → Int} {W : Int → Int} {th : Int} {R : va_W} {p : Int} (hI : MI Y) (hL : LI V) (hn : V 17 0 < 16) (p0 : 0 ≤ p) (p1 : p < Y 10 0) : MM C l yX5_newShelf cX5_newShelf 3 (some .int) 1 0 0 [.ref (ad 0), vi p] (wM C ad Y V W th ++ R) (rv (vi (V 17 0)) (wM C ad Y (newV V (tallF Y p)) W th ++ R)) := by
  refine mm_of (by decide +kernel) (Nat.le_of_ble_eq_true rfl) hfl (fun K Q X r => ?_)
  have X : Cx C l "SpringleafModel" cX5_newShelf 3 1 0 0 K := X
  have I3 := hI.1
  have I10 := hI.2.2.1
  have I12 := hI.2.2.2.2.1
  have ht := tw_rng hI p0 p1
  have l1 := hL.1
  have l2 := hL.2.1
  have tail : ∀ i : Int, i = shF V (tallF Y p) → 0 ≤ i → i ≤ V 19 0 → (i < V 19 0 → 0 ≤ V 18 i ∧ V 18 i ≤ 30) → G C K Q 0 0 33 [(0, .ref (ad 0)), (1, vi p), (2, vi i)] [] (wM C ad Y V W th ++ R) := by
    intro i ei i0 i1 hu
    refine g_iload_n (t := 34) X dX5_newShelf_33 2 rfl rfl ?_
    refine g_aload_n (t := 35) X dX5_newShelf_34 0 rfl rfl ?_
    refine m_getf (t := 38) X 19 (by decide) q4_228 rfl rfl dX5_newShelf_35 rfl ?_
    refine g_icmp_ne (t := 58) (u := 41) X dX5_newShelf_38 (by decide) rfl ⟨by omega, by omega⟩ ⟨by omega, by omega⟩ (fun c_38 => ?_) (fun c_38 => ?_)
    · refine g_aload_n (t := 59) X dX5_newShelf_58 0 rfl rfl ?_
      refine m_getf (t := 62) X 13 (by decide) q4_222 rfl rfl dX5_newShelf_59 rfl ?_
      refine g_aload_n (t := 63) X dX5_newShelf_62 0 rfl rfl ?_
      refine m_getf (t := 66) X 17 (by decide) q4_226 rfl rfl dX5_newShelf_63 rfl ?_
      refine g_iload_n (t := 67) X dX5_newShelf_66 2 rfl rfl ?_
      refine g_iast (t := 68) (f := V 13) X 11 wM_ss (by omega) (by omega) (by omega) wM_s_ss dX5_newShelf_67 rfl ?_
      refine g_aload_n (t := 69) X dX5_newShelf_68 0 rfl rfl ?_
      refine m_getf (t := 72) X 14 (by decide) q4_223 rfl rfl dX5_newShelf_69 rfl ?_
      refine g_aload_n (t := 73) X dX5_newShelf_72 0 rfl rfl ?_
      refine m_getf (t := 76) (v := vi (V 17 0)) X 17 (by decide) q4_226 rfl rfl dX5_newShelf_73 rfl ?_
      refine g_aload_n (t := 77) X dX5_newShelf_76 0 rfl rfl ?_
      refine m_getf (t := 80) X 18 (by decide) q4_227 rfl rfl dX5_newShelf_77 rfl ?_
      refine g_iload_n (t := 81) X dX5_newShelf_80 2 rfl rfl ?_
      refine g_iald (t := 82) (f := V 18) X 15 wM_used (by omega) (by omega) (by omega) dX5_newShelf_81 rfl ?_
      refine g_iast (t := 83) (f := V 14) X 12 wM_st (by omega) (by omega) (by omega) wM_s_st dX5_newShelf_82 rfl ?_
      refine g_aload_n (t := 84) X dX5_newShelf_83 0 rfl rfl ?_
      refine m_getf (t := 87) X 15 (by decide) q4_224 rfl rfl dX5_newShelf_84 rfl ?_
      refine g_aload_n (t := 88) X dX5_newShelf_87 0 rfl rfl ?_
      refine m_getf (t := 91) (v := vi (V 17 0)) X 17 (by decide) q4_226 rfl rfl dX5_newShelf_88 rfl ?_
      refine g_aload_n (t := 92) X dX5_newShelf_91 0 rfl rfl ?_
      refine g_iload_n (t := 93) X dX5_newShelf_92 1 rfl rfl ?_
      refine g_callV (t := 96) (mc := 0) (ms := 0) (rest := [vi (V 17 0), .ref (ad 13)]) X mt_X5_tall q5_146 q5_148 qs_36 0 wM_0 rfl (c_X5_tall hfl hI p0 p1) (by decide) (by decide) (by decide) (Nat.le_of_ble_eq_true rfl) rfl rfl dX5_newShelf_93 rfl (k_rv ?_)
      refine g_iast (t := 97) (f := V 15) X 13 wM_sh (by omega) (by omega) (by omega) wM_s_sh dX5_newShelf_96 rfl ?_
      refine g_aload_n (t := 98) X dX5_newShelf_97 0 rfl rfl ?_
      refine m_getf (t := 101) X 16 (by decide) q4_225 rfl rfl dX5_newShelf_98 rfl ?_
      refine g_aload_n (t := 102) X dX5_newShelf_101 0 rfl rfl ?_
      refine m_getf (t := 105) (v := vi (V 17 0)) X 17 (by decide) q4_226 rfl rfl dX5_newShelf_102 rfl ?_
      refine g_iconst (t := 106) X dX5_newShelf_105 rfl ?_
      refine g_iast (t := 107) (f := V 16) X 14 wM_su (by omega) (by omega) (by omega) wM_s_su dX5_newShelf_106 rfl ?_
      refine g_aload_n (t := 108) X dX5_newShelf_107 0 rfl rfl ?_
      refine m_getf (t := 111) X 18 (by decide) q4_227 rfl rfl dX5_newShelf_108 rfl ?_
      refine g_iload_n (t := 112) X dX5_newShelf_111 2 rfl rfl ?_
      refine g_dup2 (t := 113) X dX5_newShelf_112 rfl rfl rfl ?_
      refine g_iald (t := 114) (f := V 18) X 15 wM_used (by omega) (by omega) (by omega) dX5_newShelf_113 rfl ?_
      refine g_aload_n (t := 115) X dX5_newShelf_114 0 rfl rfl ?_
      refine g_iload_n (t := 116) X dX5_newShelf_115 1 rfl rfl ?_
      refine g_callV (t := 119) (mc := 0) (ms := 0) (rest := [vi ((V 18) i), vi i, .ref (ad 15)]) X mt_X5_tall q5_146 q5_148 qs_36 0 wM_0 rfl (c_X5_tall hfl hI p0 p1) (by decide) (by decide) (by decide) (Nat.le_of_ble_eq_true rfl) rfl rfl dX5_newShelf_116 rfl (k_rv ?_)
      refine g_iadd (t := 120) X dX5_newShelf_119 rfl ?_
      refine g_iast (t := 121) (f := V 18) X 15 wM_used (by omega) (by omega) (by omega) wM_s_used dX5_newShelf_120 rfl ?_
      refine g_aload_n (t := 122) X dX5_newShelf_121 0 rfl rfl ?_
      refine g_dup (t := 123) X dX5_newShelf_122 rfl rfl ?_
      refine m_getf (t := 126) (v := vi (V 17 0)) X 17 (by decide) q4_226 rfl rfl dX5_newShelf_123 rfl ?_
      refine g_iconst (t := 127) X dX5_newShelf_126 rfl ?_
      refine g_iadd (t := 128) X dX5_newShelf_127 rfl ?_
      refine m_putf (t := 131) X 17 (by decide) q4_226 rfl rfl rfl wM_f_shelves dX5_newShelf_128 rfl ?_
      refine g_aload_n (t := 132) X dX5_newShelf_131 0 rfl rfl ?_
      refine m_getf (t := 135) (v := vi ((V 17 0) + 1)) X 17 (by decide) q4_226 rfl rfl dX5_newShelf_132 rfl ?_
      refine g_iconst (t := 136) X dX5_newShelf_135 rfl ?_
      refine g_isub (t := 137) X dX5_newShelf_136 rfl ?_
      exact g_iret X r ⟨by show some (vi (V 17 0 + 1 - 1)) = _; rw [show V 17 0 + 1 - 1 = V 17 0 by omega], by unfold newV; rw [if_neg (by rw [← ei]; exact c_38), ← ei]⟩ (Nat.le_of_ble_eq_true rfl) (Nat.le_of_ble_eq_true rfl) dX5_newShelf_137
    · refine g_aload_n (t := 42) X dX5_newShelf_41 0 rfl rfl ?_
      refine m_getf (t := 45) X 18 (by decide) q4_227 rfl rfl dX5_newShelf_42 rfl ?_
      refine g_iload_n (t := 46) X dX5_newShelf_45 2 rfl rfl ?_
      refine g_iconst (t := 47) X dX5_newShelf_46 rfl ?_
      refine g_iast (t := 48) (f := V 18) X 15 wM_used (by omega) (by omega) (by omega) wM_s_used dX5_newShelf_47 rfl ?_
      refine g_aload_n (t := 49) X dX5_newShelf_48 0 rfl rfl ?_
      refine g_dup (t := 50) X dX5_newShelf_49 rfl rfl ?_
      refine m_getf (t := 53) (v := vi (V 19 0)) X 19 (by decide) q4_228 rfl rfl dX5_newShelf_50 rfl ?_
      refine g_iconst (t := 54) X dX5_newShelf_53 rfl ?_
      refine g_iadd (t := 55) X dX5_newShelf_54 rfl ?_
      refine m_putf (t := 58) X 19 (by decide) q4_228 rfl rfl rfl wM_f_sheets dX5_newShelf_55 rfl ?_
      refine g_aload_n (t := 59) X dX5_newShelf_58 0 rfl rfl ?_
      refine m_getf (t := 62) X 13 (by decide) q4_222 rfl rfl dX5_newShelf_59 rfl ?_
      refine g_aload_n (t := 63) X dX5_newShelf_62 0 rfl rfl ?_
      refine m_getf (t := 66) (v := vi (V 17 0)) X 17 (by decide) q4_226 rfl rfl dX5_newShelf_63 rfl ?_
      refine g_iload_n (t := 67) X dX5_newShelf_66 2 rfl rfl ?_
      refine g_iast (t := 68) (f := V 13) X 11 wM_ss (by omega) (by omega) (by omega) wM_s_ss dX5_newShelf_67 rfl ?_
      refine g_aload_n (t := 69) X dX5_newShelf_68 0 rfl rfl ?_
      refine m_getf (t := 72) X 14 (by decide) q4_223 rfl rfl dX5_newShelf_69 rfl ?_
      refine g_aload_n (t := 73) X dX5_newShelf_72 0 rfl rfl ?_
      refine m_getf (t := 76) (v := vi (V 17 0)) X 17 (by decide) q4_226 rfl rfl dX5_newShelf_73 rfl ?_
      refine g_aload_n (t := 77) X dX5_newShelf_76 0 rfl rfl ?_
      refine m_getf (t := 80) X 18 (by decide) q4_227 rfl rfl dX5_newShelf_77 rfl ?_
      refine g_iload_n (t := 81) X dX5_newShelf_80 2 rfl rfl ?_
      refine g_iald (t := 82) (f := uI (V 18) i 0) X 15 wM_used (by omega) (by omega) (by omega) dX5_newShelf_81 rfl ?_
      refine g_iast (t := 83) (f := V 14) X 12 wM_st (by omega) (by omega) (by omega) wM_s_st dX5_newShelf_82 rfl ?_
      refine g_aload_n (t := 84) X dX5_newShelf_83 0 rfl rfl ?_
      refine m_getf (t := 87) X 15 (by decide) q4_224 rfl rfl dX5_newShelf_84 rfl ?_
      refine g_aload_n (t := 88) X dX5_newShelf_87 0 rfl rfl ?_
      refine m_getf (t := 91) (v := vi (V 17 0)) X 17 (by decide) q4_226 rfl rfl dX5_newShelf_88 rfl ?_
      refine g_aload_n (t := 92) X dX5_newShelf_91 0 rfl rfl ?_
      refine g_iload_n (t := 93) X dX5_newShelf_92 1 rfl rfl ?_
      refine g_callV (t := 96) (mc := 0) (ms := 0) (rest := [vi (V 17 0), .ref (ad 13)]) X mt_X5_tall q5_146 q5_148 qs_36 0 wM_0 rfl (c_X5_tall hfl hI p0 p1) (by decide) (by decide) (by decide) (Nat.le_of_ble_eq_true rfl) rfl rfl dX5_newShelf_93 rfl (k_rv ?_)
      refine g_iast (t := 97) (f := V 15) X 13 wM_sh (by omega) (by omega) (by omega) wM_s_sh dX5_newShelf_96 rfl ?_
      refine g_aload_n (t := 98) X dX5_newShelf_97 0 rfl rfl ?_
      refine m_getf (t := 101) X 16 (by decide) q4_225 rfl rfl dX5_newShelf_98 rfl ?_
      refine g_aload_n (t := 102) X dX5_newShelf_101 0 rfl rfl ?_
      refine m_getf (t := 105) (v := vi (V 17 0)) X 17 (by decide) q4_226 rfl rfl dX5_newShelf_102 rfl ?_
      refine g_iconst (t := 106) X dX5_newShelf_105 rfl ?_
      refine g_iast (t := 107) (f := V 16) X 14 wM_su (by omega) (by omega) (by omega) wM_s_su dX5_newShelf_106 rfl ?_
      refine g_aload_n (t := 108) X dX5_newShelf_107 0 rfl rfl ?_
      refine m_getf (t := 111) X 18 (by decide) q4_227 rfl rfl dX5_newShelf_108 rfl ?_
      refine g_iload_n (t := 112) X dX5_newShelf_111 2 rfl rfl ?_
      refine g_dup2 (t := 113) X dX5_newShelf_112 rfl rfl rfl ?_
      refine g_iald (t := 114) (f := uI (V 18) i 0) X 15 wM_used (by omega) (by omega) (by omega) dX5_newShelf_113 rfl ?_
      refine g_aload_n (t := 115) X dX5_newShelf_114 0 rfl rfl ?_
      refine g_iload_n (t := 116) X dX5_newShelf_115 1 rfl rfl ?_
      refine g_callV (t := 119) (mc := 0) (ms := 0) (rest := [vi ((uI (V 18) i 0) i), vi i, .ref (ad 15)]) X mt_X5_tall q5_146 q5_148 qs_36 0 wM_0 rfl (c_X5_tall hfl hI p0 p1) (by decide) (by decide) (by decide) (Nat.le_of_ble_eq_true rfl) rfl rfl dX5_newShelf_116 rfl (k_rv ?_)
      refine g_iadd (t := 120) X dX5_newShelf_119 rfl ?_
      refine g_iast (t := 121) (f := uI (V 18) i 0) X 15 wM_used (by omega) (by omega) (by omega) wM_s_used dX5_newShelf_120 rfl ?_
      refine g_aload_n (t := 122) X dX5_newShelf_121 0 rfl rfl ?_
      refine g_dup (t := 123) X dX5_newShelf_122 rfl rfl ?_
      refine m_getf (t := 126) (v := vi (V 17 0)) X 17 (by decide) q4_226 rfl rfl dX5_newShelf_123 rfl ?_
      refine g_iconst (t := 127) X dX5_newShelf_126 rfl ?_
      refine g_iadd (t := 128) X dX5_newShelf_127 rfl ?_
      refine m_putf (t := 131) X 17 (by decide) q4_226 rfl rfl rfl wM_f_shelves dX5_newShelf_128 rfl ?_
      refine g_aload_n (t := 132) X dX5_newShelf_131 0 rfl rfl ?_
      refine m_getf (t := 135) (v := vi ((V 17 0) + 1)) X 17 (by decide) q4_226 rfl rfl dX5_newShelf_132 rfl ?_
      refine g_iconst (t := 136) X dX5_newShelf_135 rfl ?_
      refine g_isub (t := 137) X dX5_newShelf_136 rfl ?_
      exact g_iret X r ⟨by show some (vi (V 17 0 + 1 - 1)) = _; rw [show V 17 0 + 1 - 1 = V 17 0 by omega], by unfold newV; rw [if_pos (by rw [← ei]; exact c_38), ← ei]⟩ (Nat.le_of_ble_eq_true rfl) (Nat.le_of_ble_eq_true rfl) dX5_newShelf_137
  have loop : ∀ (n : Nat) (i : Int), 0 ≤ i → i ≤ V 19 0 → V 19 0 - i < n → (∀ j, 0 ≤ j → j < i → 30 < V 18 j + tallF Y p) → G C K Q 0 0 2 [(0, .ref (ad 0)), (1, vi p), (2, vi i)] [] (wM C ad Y V W th ++ R) := by
    intro n
    induction n with
    | zero => intro i h0 h1 h2; exact absurd h2 (by omega)
    | succ n ih =>
      intro i i0 i1 h2 hj
      refine g_iload_n (t := 3) X dX5_newShelf_2 2 rfl rfl ?_
      refine g_aload_n (t := 4) X dX5_newShelf_3 0 rfl rfl ?_
      refine m_getf (t := 7) X 19 (by decide) q4_228 rfl rfl dX5_newShelf_4 rfl ?_
      refine g_icmp_ge (t := 33) (u := 10) X dX5_newShelf_7 (by decide) rfl ⟨by omega, by omega⟩ ⟨by omega, by omega⟩ (fun c_7 => ?_) (fun c_7 => ?_)
      · exact g_lv (tail i (shF_is l2.1 i0 i1 hj (fun q => by omega)) i0 i1 (fun q => hL.2.2.2.1 i i0 q)) [0, 1, 2] rfl
      · have hu := hL.2.2.2.1 i i0 (by omega)
        refine g_aload_n (t := 11) X dX5_newShelf_10 0 rfl rfl ?_
        refine m_getf (t := 14) X 18 (by decide) q4_227 rfl rfl dX5_newShelf_11 rfl ?_
        refine g_iload_n (t := 15) X dX5_newShelf_14 2 rfl rfl ?_
        refine g_iald (t := 16) (f := V 18) X 15 wM_used (by omega) (by omega) (by omega) dX5_newShelf_15 rfl ?_
        refine g_aload_n (t := 17) X dX5_newShelf_16 0 rfl rfl ?_
        refine g_iload_n (t := 18) X dX5_newShelf_17 1 rfl rfl ?_
        refine g_callV (t := 21) (mc := 0) (ms := 0) (rest := [vi ((V 18) i)]) X mt_X5_tall q5_146 q5_148 qs_36 0 wM_0 rfl (c_X5_tall hfl hI p0 p1) (by decide) (by decide) (by decide) (Nat.le_of_ble_eq_true rfl) rfl rfl dX5_newShelf_18 rfl (k_rv ?_)
        refine g_iadd (t := 22) X dX5_newShelf_21 rfl ?_
        refine g_bipush (t := 24) (z := 30) X dX5_newShelf_22 (by decide +kernel) rfl ?_
        refine g_icmp_le (t := 33) (u := 27) X dX5_newShelf_24 (by decide) rfl ⟨by omega, by omega⟩ ⟨by omega, by omega⟩ (fun c_24 => ?_) (fun c_24 => ?_)
        · exact g_lv (tail i (shF_is l2.1 i0 i1 hj (fun q => by omega)) i0 i1 (fun q => hL.2.2.2.1 i i0 q)) [0, 1, 2] rfl
        · refine g_iinc (t := 30) (lv1 := [(2, vi (i + 1)), (0, .ref (ad 0)), (1, vi p)]) X dX5_newShelf_27 2 rfl (by decide) rfl rfl ?_
          refine g_goto (t := 2) X dX5_newShelf_30 (by decide) ?_
          exact g_lv (ih (i + 1) (by omega) (by omega) (by omega) (fun j j0 j1 => by
            rcases Int.lt_or_eq_of_le (show j ≤ i by omega) with q | q
            · exact hj j j0 q
            · subst q; omega)) [1, 2, 0] rfl
  show G C K Q 0 0 0 [(0, .ref (ad 0)), (1, vi p)] [] (wM C ad Y V W th ++ R)
  refine g_iconst (t := 1) X dX5_newShelf_0 rfl ?_
  refine g_istore_n (t := 2) (lv1 := [(2, vi 0), (0, .ref (ad 0)), (1, vi p)]) X dX5_newShelf_1 (by decide) rfl rfl ?_
  exact g_lv (loop ((V 19 0).toNat + 1) 0 (by omega) (by omega) (by omega) (fun j j0 j1 => absurd j0 (by omega))) [1, 2, 0] rfl

set_option maxHeartbeats 4000000 in
set_option maxRecDepth 100000 in
/-- lays() -/
theorem c_X5_lays {C : WC} {l : Launch} (hfl : l.stackTraces = false) {ad : Nat → Nat} {Y V : Nat → Int → Int} {W : Int → Int} {th : Int} {R : va_W} (hI : MI Y) : MM C l yX5_lays cX5_lays 3 none 2 0 0 [.ref (ad 0)] (wM C ad Y V W th ++ R) (rn (wM C ad Y (layF Y V) W th ++ R)) := by
  refine mm_of (by decide +kernel) (Nat.le_of_ble_eq_true rfl) hfl (fun K Q X r => ?_)
  have X : Cx C l "SpringleafModel" cX5_lays 3 2 0 0 K := X
  have I3 := hI.1
  have I10 := hI.2.2.1
  have I12 := hI.2.2.2.2.1
  have loop : ∀ (n : Nat) (p : Int) (U : Nat → Int → Int), 0 ≤ p → p ≤ Y 10 0 → Y 10 0 - p < n → U = layN Y V p.toNat → LI U → U 17 0 ≤ p → G C K Q 0 0 12 [(0, .ref (ad 0)), (1, vi p)] [] (wM C ad Y U W th ++ R) := by
    intro n
    induction n with
    | zero => intro p U h0 h1 h2; exact absurd h2 (by omega)
    | succ n ih =>
      intro p U p0 p9 h2 eV hL hU
      refine g_iload_n (t := 13) X dX5_lays_12 1 rfl rfl ?_
      refine g_aload_n (t := 14) X dX5_lays_13 0 rfl rfl ?_
      refine m_getf (t := 17) X 10 (by decide) q4_219 rfl rfl dX5_lays_14 rfl ?_
      refine g_icmp_ge (t := 96) (u := 20) X dX5_lays_17 (by decide) rfl ⟨by omega, by omega⟩ ⟨by omega, by omega⟩ (fun c_17 => ?_) (fun c_17 => ?_)
      · exact g_vret X r (by rw [eV]; unfold layF; rw [show p.toNat = (Y 10 0).toNat by omega]; exact rn_i) (Nat.le_of_ble_eq_true rfl) (Nat.le_of_ble_eq_true rfl) dX5_lays_96
      · have ht := tw_rng hI p0 (by omega)
        have l1 := hL.1
        have p1 : p < Y 10 0 := by omega
        have hll := hL.lay hI p0 p1
        have hs := sel_rng U (tallF Y p) (wideF Y p) (U 17 0).toNat
        have hs0 : -1 ≤ selF U (tallF Y p) (wideF Y p) ∧ selF U (tallF Y p) (wideF Y p) < U 17 0 := by unfold selF; omega
        refine g_aload_n (t := 21) X dX5_lays_20 0 rfl rfl ?_
        refine g_iload_n (t := 22) X dX5_lays_21 1 rfl rfl ?_
        refine g_callV (t := 25) (mc := 0) (ms := 0) (rest := []) X mt_X5_shelfFor q5_142 q5_144 qs_35 0 wM_0 rfl (c_X5_shelfFor hfl hI hL (by omega) p0 p1) (by decide) (by decide) (by decide) (Nat.le_of_ble_eq_true rfl) rfl rfl dX5_lays_22 rfl (k_rv ?_)
        refine g_istore_n (t := 26) (lv1 := [(2, vi (selF U (tallF Y p) (wideF Y p))), (0, .ref (ad 0)), (1, vi p)]) X dX5_lays_25 (by decide) rfl rfl ?_
        refine g_iload_n (t := 27) X dX5_lays_26 0 rfl rfl ?_
        refine g_if_ge (t := 38) (u := 30) X dX5_lays_27 (by decide) rfl ⟨by omega, by omega⟩ (fun c_27 => ?_) (fun c_27 => ?_)
        · refine g_iload_n (t := 39) X dX5_lays_38 0 rfl rfl ?_
          refine g_istore_n (t := 40) (lv1 := [(2, vi (selF U (tallF Y p) (wideF Y p))), (0, .ref (ad 0)), (1, vi p)]) X dX5_lays_39 (by decide) rfl rfl ?_
          have hk := hL.2.2.1 (selF U (tallF Y p) (wideF Y p)) (by omega) (by omega)
          have n4 := hL.2.1
          have eL : layP Y U p = plc U p (selF U (tallF Y p) (wideF Y p)) (wideF Y p) := by unfold layP; rw [if_neg (by omega)]
          refine g_aload_n (t := 41) X dX5_lays_40 1 rfl rfl ?_
          refine m_getf (t := 44) X 20 (by decide) q4_229 rfl rfl dX5_lays_41 rfl ?_
          refine g_iload_n (t := 45) X dX5_lays_44 2 rfl rfl ?_
          refine g_aload_n (t := 46) X dX5_lays_45 1 rfl rfl ?_
          refine m_getf (t := 49) X 13 (by decide) q4_222 rfl rfl dX5_lays_46 rfl ?_
          refine g_iload_n (t := 50) X dX5_lays_49 0 rfl rfl ?_
          refine g_iald (t := 51) (f := U 13) X 11 wM_ss (by omega) (by omega) (by omega) dX5_lays_50 rfl ?_
          refine g_iast (t := 52) (f := U 20) X 16 wM_ps (by omega) (by omega) (by omega) wM_s_ps dX5_lays_51 rfl ?_
          refine g_aload_n (t := 53) X dX5_lays_52 1 rfl rfl ?_
          refine m_getf (t := 56) X 21 (by decide) q4_230 rfl rfl dX5_lays_53 rfl ?_
          refine g_iload_n (t := 57) X dX5_lays_56 2 rfl rfl ?_
          refine g_aload_n (t := 58) X dX5_lays_57 1 rfl rfl ?_
          refine m_getf (t := 61) X 16 (by decide) q4_225 rfl rfl dX5_lays_58 rfl ?_
          refine g_iload_n (t := 62) X dX5_lays_61 0 rfl rfl ?_
          refine g_iald (t := 63) (f := U 16) X 14 wM_su (by omega) (by omega) (by omega) dX5_lays_62 rfl ?_
          refine g_iast (t := 64) (f := U 21) X 17 wM_px (by omega) (by omega) (by omega) wM_s_px dX5_lays_63 rfl ?_
          refine g_aload_n (t := 65) X dX5_lays_64 1 rfl rfl ?_
          refine m_getf (t := 68) X 22 (by decide) q4_231 rfl rfl dX5_lays_65 rfl ?_
          refine g_iload_n (t := 69) X dX5_lays_68 2 rfl rfl ?_
          refine g_aload_n (t := 70) X dX5_lays_69 1 rfl rfl ?_
          refine m_getf (t := 73) X 14 (by decide) q4_223 rfl rfl dX5_lays_70 rfl ?_
          refine g_iload_n (t := 74) X dX5_lays_73 0 rfl rfl ?_
          refine g_iald (t := 75) (f := U 14) X 12 wM_st (by omega) (by omega) (by omega) dX5_lays_74 rfl ?_
          refine g_iast (t := 76) (f := U 22) X 18 wM_py (by omega) (by omega) (by omega) wM_s_py dX5_lays_75 rfl ?_
          refine g_aload_n (t := 77) X dX5_lays_76 1 rfl rfl ?_
          refine m_getf (t := 80) X 16 (by decide) q4_225 rfl rfl dX5_lays_77 rfl ?_
          refine g_iload_n (t := 81) X dX5_lays_80 0 rfl rfl ?_
          refine g_dup2 (t := 82) X dX5_lays_81 rfl rfl rfl ?_
          refine g_iald (t := 83) (f := U 16) X 14 wM_su (by omega) (by omega) (by omega) dX5_lays_82 rfl ?_
          refine g_aload_n (t := 84) X dX5_lays_83 1 rfl rfl ?_
          refine g_iload_n (t := 85) X dX5_lays_84 2 rfl rfl ?_
          refine g_callV (t := 88) (mc := 0) (ms := 0) (rest := [vi ((U 16) (selF U (tallF Y p) (wideF Y p))), vi (selF U (tallF Y p) (wideF Y p)), .ref (ad 14)]) X mt_X5_wide q5_150 q5_152 qs_37 0 wM_0 rfl (c_X5_wide hfl hI p0 p1) (by decide) (by decide) (by decide) (Nat.le_of_ble_eq_true rfl) rfl rfl dX5_lays_85 rfl (k_rv ?_)
          refine g_iadd (t := 89) X dX5_lays_88 rfl ?_
          refine g_iast (t := 90) (f := U 16) X 14 wM_su (by omega) (by omega) (by omega) wM_s_su dX5_lays_89 rfl ?_
          refine g_iinc (t := 93) (lv1 := [(1, vi (p + 1)), (2, vi (selF U (tallF Y p) (wideF Y p))), (0, .ref (ad 0))]) X dX5_lays_90 2 rfl (by decide) rfl rfl ?_
          refine g_goto (t := 12) X dX5_lays_93 (by decide) ?_
          exact g_lv (ih (p + 1) (u2 (u2 (u2 (u2 U 20 p ((U 13) (selF U (tallF Y p) (wideF Y p)))) 21 p ((U 16) (selF U (tallF Y p) (wideF Y p)))) 22 p ((U 14) (selF U (tallF Y p) (wideF Y p)))) 16 (selF U (tallF Y p) (wideF Y p)) (((U 16) (selF U (tallF Y p) (wideF Y p))) + (wideF Y p))) (by omega) (by omega) (by omega) (by rw [layN_succ Y V p0, ← eV, eL]; rfl) (by have h := hll.1; rw [eL] at h; exact h) (by have h := hll.2; rw [eL] at h; have h2 := Int.le_trans h (show U 17 0 + 1 ≤ p + 1 by omega); exact h2)) [2, 0] rfl
        · refine g_aload_n (t := 31) X dX5_lays_30 1 rfl rfl ?_
          refine g_iload_n (t := 32) X dX5_lays_31 2 rfl rfl ?_
          refine g_callV (t := 35) (mc := 0) (ms := 0) (rest := []) X mt_X5_newShelf q5_154 q5_156 qs_38 0 wM_0 rfl (c_X5_newShelf hfl hI hL (by omega) p0 p1) (by decide) (by decide) (by decide) (Nat.le_of_ble_eq_true rfl) rfl rfl dX5_lays_32 rfl (k_rv ?_)
          refine g_goto (t := 39) X dX5_lays_35 (by decide) ?_
          refine g_istore_n (t := 40) (lv1 := [(2, vi (U 17 0)), (0, .ref (ad 0)), (1, vi p)]) X dX5_lays_39 (by decide) rfl rfl ?_
          obtain ⟨n1, n2, n3⟩ := hL.new ht.1.1 ht.1.2
          have hk := n1.2.2.1 (U 17 0) (by omega) (by omega)
          have n4 := n1.2.1
          have eL : layP Y U p = plc (newV U (tallF Y p)) p (U 17 0) (wideF Y p) := by unfold layP; rw [if_pos (by omega)]
          refine g_aload_n (t := 41) X dX5_lays_40 1 rfl rfl ?_
          refine m_getf (t := 44) X 20 (by decide) q4_229 rfl rfl dX5_lays_41 rfl ?_
          refine g_iload_n (t := 45) X dX5_lays_44 2 rfl rfl ?_
          refine g_aload_n (t := 46) X dX5_lays_45 1 rfl rfl ?_
          refine m_getf (t := 49) X 13 (by decide) q4_222 rfl rfl dX5_lays_46 rfl ?_
          refine g_iload_n (t := 50) X dX5_lays_49 0 rfl rfl ?_
          refine g_iald (t := 51) (f := (newV U (tallF Y p)) 13) X 11 wM_ss (by omega) (by omega) (by omega) dX5_lays_50 rfl ?_
          refine g_iast (t := 52) (f := (newV U (tallF Y p)) 20) X 16 wM_ps (by omega) (by omega) (by omega) wM_s_ps dX5_lays_51 rfl ?_
          refine g_aload_n (t := 53) X dX5_lays_52 1 rfl rfl ?_
          refine m_getf (t := 56) X 21 (by decide) q4_230 rfl rfl dX5_lays_53 rfl ?_
          refine g_iload_n (t := 57) X dX5_lays_56 2 rfl rfl ?_
          refine g_aload_n (t := 58) X dX5_lays_57 1 rfl rfl ?_
          refine m_getf (t := 61) X 16 (by decide) q4_225 rfl rfl dX5_lays_58 rfl ?_
          refine g_iload_n (t := 62) X dX5_lays_61 0 rfl rfl ?_
          refine g_iald (t := 63) (f := (newV U (tallF Y p)) 16) X 14 wM_su (by omega) (by omega) (by omega) dX5_lays_62 rfl ?_
          refine g_iast (t := 64) (f := (newV U (tallF Y p)) 21) X 17 wM_px (by omega) (by omega) (by omega) wM_s_px dX5_lays_63 rfl ?_
          refine g_aload_n (t := 65) X dX5_lays_64 1 rfl rfl ?_
          refine m_getf (t := 68) X 22 (by decide) q4_231 rfl rfl dX5_lays_65 rfl ?_
          refine g_iload_n (t := 69) X dX5_lays_68 2 rfl rfl ?_
          refine g_aload_n (t := 70) X dX5_lays_69 1 rfl rfl ?_
          refine m_getf (t := 73) X 14 (by decide) q4_223 rfl rfl dX5_lays_70 rfl ?_
          refine g_iload_n (t := 74) X dX5_lays_73 0 rfl rfl ?_
          refine g_iald (t := 75) (f := (newV U (tallF Y p)) 14) X 12 wM_st (by omega) (by omega) (by omega) dX5_lays_74 rfl ?_
          refine g_iast (t := 76) (f := (newV U (tallF Y p)) 22) X 18 wM_py (by omega) (by omega) (by omega) wM_s_py dX5_lays_75 rfl ?_
          refine g_aload_n (t := 77) X dX5_lays_76 1 rfl rfl ?_
          refine m_getf (t := 80) X 16 (by decide) q4_225 rfl rfl dX5_lays_77 rfl ?_
          refine g_iload_n (t := 81) X dX5_lays_80 0 rfl rfl ?_
          refine g_dup2 (t := 82) X dX5_lays_81 rfl rfl rfl ?_
          refine g_iald (t := 83) (f := (newV U (tallF Y p)) 16) X 14 wM_su (by omega) (by omega) (by omega) dX5_lays_82 rfl ?_
          refine g_aload_n (t := 84) X dX5_lays_83 1 rfl rfl ?_
          refine g_iload_n (t := 85) X dX5_lays_84 2 rfl rfl ?_
          refine g_callV (t := 88) (mc := 0) (ms := 0) (rest := [vi (((newV U (tallF Y p)) 16) (U 17 0)), vi (U 17 0), .ref (ad 14)]) X mt_X5_wide q5_150 q5_152 qs_37 0 wM_0 rfl (c_X5_wide hfl hI p0 p1) (by decide) (by decide) (by decide) (Nat.le_of_ble_eq_true rfl) rfl rfl dX5_lays_85 rfl (k_rv ?_)
          refine g_iadd (t := 89) X dX5_lays_88 rfl ?_
          refine g_iast (t := 90) (f := (newV U (tallF Y p)) 16) X 14 wM_su (by omega) (by omega) (by omega) wM_s_su dX5_lays_89 rfl ?_
          refine g_iinc (t := 93) (lv1 := [(1, vi (p + 1)), (2, vi (U 17 0)), (0, .ref (ad 0))]) X dX5_lays_90 2 rfl (by decide) rfl rfl ?_
          refine g_goto (t := 12) X dX5_lays_93 (by decide) ?_
          exact g_lv (ih (p + 1) (u2 (u2 (u2 (u2 (newV U (tallF Y p)) 20 p (((newV U (tallF Y p)) 13) (U 17 0))) 21 p (((newV U (tallF Y p)) 16) (U 17 0))) 22 p (((newV U (tallF Y p)) 14) (U 17 0))) 16 (U 17 0) ((((newV U (tallF Y p)) 16) (U 17 0)) + (wideF Y p))) (by omega) (by omega) (by omega) (by rw [layN_succ Y V p0, ← eV, eL]; rfl) (by have h := hll.1; rw [eL] at h; exact h) (by have h := hll.2; rw [eL] at h; have h2 := Int.le_trans h (show U 17 0 + 1 ≤ p + 1 by omega); exact h2)) [2, 0] rfl
  show G C K Q 0 0 0 [(0, .ref (ad 0))] [] (wM C ad Y V W th ++ R)
  refine g_aload_n (t := 1) X dX5_lays_0 0 rfl rfl ?_
  refine g_iconst (t := 2) X dX5_lays_1 rfl ?_
  refine m_putf (t := 5) X 17 (by decide) q4_226 rfl rfl rfl wM_f_shelves dX5_lays_2 rfl ?_
  refine g_aload_n (t := 6) X dX5_lays_5 0 rfl rfl ?_
  refine g_iconst (t := 7) X dX5_lays_6 rfl ?_
  refine m_putf (t := 10) X 19 (by decide) q4_228 rfl rfl rfl wM_f_sheets dX5_lays_7 rfl ?_
  refine g_iconst (t := 11) X dX5_lays_10 rfl ?_
  refine g_istore_n (t := 12) (lv1 := [(1, vi 0), (0, .ref (ad 0))]) X dX5_lays_11 (by decide) rfl rfl ?_
  exact g_lv (loop ((Y 10 0).toNat + 1) 0 (u2 (u2 V 17 0 0) 19 0 0) (by omega) (by omega) (by omega) rfl (LI.zero V) (Int.le_refl 0)) [1, 0] rfl

set_option maxHeartbeats 4000000 in
set_option maxRecDepth 100000 in
/-- sheets() -/
theorem c_X5_sheets {C : WC} {l : Launch} (hfl : l.stackTraces = false) {ad : Nat → Nat} {Y V : Nat → Int → Int} {W : Int → Int} {th : Int} {R : va_W} (hI : MI Y) : MM C l yX5_sheets cX5_sheets 1 (some .int) 3 0 0 [.ref (ad 0)] (wM C ad Y V W th ++ R) (rv (vi (layF Y V 19 0)) (wM C ad Y (layF Y V) W 0 ++ R)) := by
  refine mm_of (by decide +kernel) (Nat.le_of_ble_eq_true rfl) hfl (fun K Q X r => ?_)
  have X : Cx C l "SpringleafModel" cX5_sheets 1 3 0 0 K := X
  have I3 := hI.1
  have I10 := hI.2.2.1
  have I12 := hI.2.2.2.2.1
  show G C K Q 0 0 0 [(0, .ref (ad 0))] [] (wM C ad Y V W th ++ R)
  refine g_aload_n (t := 1) X dX5_sheets_0 0 rfl rfl ?_
  refine g_iconst (t := 2) X dX5_sheets_1 rfl ?_
  refine g_callV (t := 5) (mc := 0) (ms := 0) (rest := []) X mt_X5_holds q5_102 q5_104 qs_32 0 wM_0 rfl (c_X5_holds hfl ⟨by omega, by omega⟩) (by decide) (by decide) (by decide) (Nat.le_of_ble_eq_true rfl) rfl rfl dX5_sheets_2 rfl (k_rb (fun h => absurd h (by decide)) (fun _ => ?_))
  refine g_pop (t := 6) X dX5_sheets_5 rfl rfl ?_
  refine g_aload_n (t := 7) X dX5_sheets_6 0 rfl rfl ?_
  refine g_callV (t := 10) (mc := 0) (ms := 0) (rest := []) X mt_X5_lays q5_138 q5_140 qs_34 0 wM_0 rfl (c_X5_lays hfl hI) (by decide) (by decide) (by decide) (Nat.le_of_ble_eq_true rfl) rfl rfl dX5_sheets_7 rfl (k_rn ?_)
  refine g_aload_n (t := 11) X dX5_sheets_10 0 rfl rfl ?_
  refine m_getf (t := 14) X 19 (by decide) q4_228 rfl rfl dX5_sheets_11 rfl ?_
  exact g_iret X r (rv_i rfl) (Nat.le_of_ble_eq_true rfl) (Nat.le_of_ble_eq_true rfl) dX5_sheets_14

set_option maxHeartbeats 4000000 in
set_option maxRecDepth 100000 in
/-- laid(part, what) -/
theorem c_X5_laid {C : WC} {l : Launch} (hfl : l.stackTraces = false) {ad : Nat → Nat} {Y V : Nat → Int → Int} {W : Int → Int} {th : Int} {R : va_W} {p x : Int} (hI : MI Y) (hp : Rg p) (hx : Rg x) : MM C l yX5_laid cX5_laid 3 (some .int) 3 0 0 [.ref (ad 0), vi p, vi x] (wM C ad Y V W th ++ R) (pu2 (0 ≤ p ∧ p < Y 10 0) (0 ≤ x ∧ x ≤ 2) (if x = 0 then layF Y V 20 p else if x = 1 then layF Y V 21 p else layF Y V 22 p) (fun th W => wM C ad Y V W th ++ R) (fun W => wM C ad Y (layF Y V) W 0 ++ R)) := by
  refine mm_of (by decide +kernel) (Nat.le_of_ble_eq_true rfl) hfl (fun K Q X r => ?_)
  have X : Cx C l "SpringleafModel" cX5_laid 3 3 0 0 K := X
  have I3 := hI.1
  have I10 := hI.2.2.1
  have I12 := hI.2.2.2.2.1
  obtain ⟨p1, p2⟩ := hp
  obtain ⟨x1, x2⟩ := hx
  show G C K Q 0 0 0 [(0, .ref (ad 0)), (1, vi p), (2, vi x)] [] (wM C ad Y V W th ++ R)
  refine g_aload_n (t := 1) X dX5_laid_0 0 rfl rfl ?_
  refine g_aload_n (t := 2) X dX5_laid_1 0 rfl rfl ?_
  refine g_iload_n (t := 3) X dX5_laid_2 1 rfl rfl ?_
  refine g_callV (t := 6) (mc := 0) (ms := 0) (rest := [.ref (ad 0)]) X mt_X5_isPart q5_122 q5_124 qs_33 0 wM_0 rfl (c_X5_isPart hfl hI ⟨by omega, by omega⟩) (by decide) (by decide) (by decide) (Nat.le_of_ble_eq_true rfl) rfl rfl dX5_laid_3 rfl (k_rb (fun b_3 => ?_) (fun b_3 => ?_))
  · refine g_if_ne (t := 13) (u := 9) X dX5_laid_6 (by decide) rfl ⟨by omega, by omega⟩ (fun _ => ?_) (fun c => absurd c (by decide))
    refine g_aload_n (t := 14) X dX5_laid_13 0 rfl rfl ?_
    refine g_iload_n (t := 15) X dX5_laid_14 2 rfl rfl ?_
    refine g_iconst (t := 16) X dX5_laid_15 rfl ?_
    refine g_iconst (t := 17) X dX5_laid_16 rfl ?_
    refine g_callV (t := 20) (mc := 0) (ms := 0) (rest := [.ref (ad 0)]) X mt_X5_in q5_54 q5_56 qs_20 0 wM_0 rfl (c_X5_in hfl ⟨by omega, by omega⟩ ⟨by omega, by omega⟩ ⟨by omega, by omega⟩) (by decide) (by decide) (by decide) (Nat.le_of_ble_eq_true rfl) rfl rfl dX5_laid_17 rfl (k_rb (fun b_17 => ?_) (fun b_17 => ?_))
    · refine g_if_eq (t := 27) (u := 23) X dX5_laid_20 (by decide) rfl ⟨by omega, by omega⟩ (fun c => absurd c (by decide)) (fun _ => ?_)
      refine g_iconst (t := 24) X dX5_laid_23 rfl ?_
      refine g_goto (t := 28) X dX5_laid_24 (by decide) ?_
      refine g_callV (t := 31) (mc := 0) (ms := 0) (rest := []) X mt_X5_holds q5_102 q5_104 qs_32 0 wM_0 rfl (c_X5_holds hfl ⟨by omega, by omega⟩) (by decide) (by decide) (by decide) (Nat.le_of_ble_eq_true rfl) rfl rfl dX5_laid_28 rfl (k_rb (fun h => absurd h (by decide)) (fun _ => ?_))
      refine g_if_eq (t := 36) (u := 34) X dX5_laid_31 (by decide) rfl ⟨by omega, by omega⟩ (fun _ => ?_) (fun c => absurd c (by decide))
      refine g_aload_n (t := 37) X dX5_laid_36 0 rfl rfl ?_
      refine g_callV (t := 40) (mc := 0) (ms := 0) (rest := []) X mt_X5_lays q5_138 q5_140 qs_34 0 wM_0 rfl (c_X5_lays hfl hI) (by decide) (by decide) (by decide) (Nat.le_of_ble_eq_true rfl) rfl rfl dX5_laid_37 rfl (k_rn ?_)
      refine g_iload_n (t := 41) X dX5_laid_40 2 rfl rfl ?_
      refine g_if_ne (t := 53) (u := 44) X dX5_laid_41 (by decide) rfl ⟨by omega, by omega⟩ (fun c_41 => ?_) (fun c_41 => ?_)
      · refine g_iload_n (t := 54) X dX5_laid_53 2 rfl rfl ?_
        refine g_iconst (t := 55) X dX5_laid_54 rfl ?_
        refine g_icmp_ne (t := 67) (u := 58) X dX5_laid_55 (by decide) rfl ⟨by omega, by omega⟩ ⟨by omega, by omega⟩ (fun c_55 => ?_) (fun c_55 => ?_)
        · refine g_aload_n (t := 68) X dX5_laid_67 0 rfl rfl ?_
          refine m_getf (t := 71) X 22 (by decide) q4_231 rfl rfl dX5_laid_68 rfl ?_
          refine g_iload_n (t := 72) X dX5_laid_71 1 rfl rfl ?_
          refine g_iald (t := 73) (f := (layF Y V) 22) X 18 wM_py (by omega) (by omega) (by omega) dX5_laid_72 rfl ?_
          exact g_iret X r ⟨((layF Y V) 22) p, W, rfl, Or.inr (Or.inr ⟨by omega, by omega, by first | rw [if_pos (by omega)] | rw [if_neg (by omega), if_pos (by omega)] | rw [if_neg (by omega), if_neg (by omega)], rfl⟩)⟩ (Nat.le_of_ble_eq_true rfl) (Nat.le_of_ble_eq_true rfl) dX5_laid_73
        · refine g_aload_n (t := 59) X dX5_laid_58 0 rfl rfl ?_
          refine m_getf (t := 62) X 21 (by decide) q4_230 rfl rfl dX5_laid_59 rfl ?_
          refine g_iload_n (t := 63) X dX5_laid_62 1 rfl rfl ?_
          refine g_iald (t := 64) (f := (layF Y V) 21) X 17 wM_px (by omega) (by omega) (by omega) dX5_laid_63 rfl ?_
          refine g_goto (t := 73) X dX5_laid_64 (by decide) ?_
          exact g_iret X r ⟨((layF Y V) 21) p, W, rfl, Or.inr (Or.inr ⟨by omega, by omega, by first | rw [if_pos (by omega)] | rw [if_neg (by omega), if_pos (by omega)] | rw [if_neg (by omega), if_neg (by omega)], rfl⟩)⟩ (Nat.le_of_ble_eq_true rfl) (Nat.le_of_ble_eq_true rfl) dX5_laid_73
      · refine g_aload_n (t := 45) X dX5_laid_44 0 rfl rfl ?_
        refine m_getf (t := 48) X 20 (by decide) q4_229 rfl rfl dX5_laid_45 rfl ?_
        refine g_iload_n (t := 49) X dX5_laid_48 1 rfl rfl ?_
        refine g_iald (t := 50) (f := (layF Y V) 20) X 16 wM_ps (by omega) (by omega) (by omega) dX5_laid_49 rfl ?_
        refine g_goto (t := 73) X dX5_laid_50 (by decide) ?_
        exact g_iret X r ⟨((layF Y V) 20) p, W, rfl, Or.inr (Or.inr ⟨by omega, by omega, by first | rw [if_pos (by omega)] | rw [if_neg (by omega), if_pos (by omega)] | rw [if_neg (by omega), if_neg (by omega)], rfl⟩)⟩ (Nat.le_of_ble_eq_true rfl) (Nat.le_of_ble_eq_true rfl) dX5_laid_73
    · refine g_if_eq (t := 27) (u := 23) X dX5_laid_20 (by decide) rfl ⟨by omega, by omega⟩ (fun _ => ?_) (fun c => absurd c (by decide))
      refine g_iconst (t := 28) X dX5_laid_27 rfl ?_
      refine g_callV (t := 31) (mc := 0) (ms := 0) (rest := []) X mt_X5_holds q5_102 q5_104 qs_32 0 wM_0 rfl (c_X5_holds hfl ⟨by omega, by omega⟩) (by decide) (by decide) (by decide) (Nat.le_of_ble_eq_true rfl) rfl rfl dX5_laid_28 rfl (k_rb (fun _ => ?_) (fun h => absurd (by decide) h))
      refine g_if_eq (t := 36) (u := 34) X dX5_laid_31 (by decide) rfl ⟨by omega, by omega⟩ (fun c => absurd c (by decide)) (fun _ => ?_)
      refine g_iconst (t := 35) X dX5_laid_34 rfl ?_
      exact g_iret X r ⟨(-1), W, rfl, Or.inr (Or.inl ⟨by omega, by omega, rfl⟩)⟩ (Nat.le_of_ble_eq_true rfl) (Nat.le_of_ble_eq_true rfl) dX5_laid_35
  · refine g_if_ne (t := 13) (u := 9) X dX5_laid_6 (by decide) rfl ⟨by omega, by omega⟩ (fun c => absurd c (by decide)) (fun _ => ?_)
    refine g_iconst (t := 10) X dX5_laid_9 rfl ?_
    refine g_goto (t := 28) X dX5_laid_10 (by decide) ?_
    refine g_callV (t := 31) (mc := 0) (ms := 0) (rest := []) X mt_X5_holds q5_102 q5_104 qs_32 0 wM_0 rfl (c_X5_holds hfl ⟨by omega, by omega⟩) (by decide) (by decide) (by decide) (Nat.le_of_ble_eq_true rfl) rfl rfl dX5_laid_28 rfl (k_rb (fun _ => ?_) (fun h => absurd (by decide) h))
    refine g_if_eq (t := 36) (u := 34) X dX5_laid_31 (by decide) rfl ⟨by omega, by omega⟩ (fun c => absurd c (by decide)) (fun _ => ?_)
    refine g_iconst (t := 35) X dX5_laid_34 rfl ?_
    exact g_iret X r ⟨(-1), W, rfl, Or.inl ⟨by omega, rfl⟩⟩ (Nat.le_of_ble_eq_true rfl) (Nat.le_of_ble_eq_true rfl) dX5_laid_35
